section
def lw_okq (q : MethodName × Nat) : Prop := (q.1.cls ≠ "java/lang/invoke/MethodHandle" ∧ q.1.cls ≠ "java/lang/invoke/VarHandle") ∧ Cond.instantiable q.1.cls q.2 ∈ tables_1 ∧ Cond.privateMethod q.1 ∈ tables_1 ∧ Cond.instanceMethod q.1 ∈ tables_1
theorem lw_p0 : lw_okq (⟨"java/lang/Throwable", "fillInStackTrace", "(I)Ljava/lang/Throwable;"⟩, 6) := ⟨⟨by decide +kernel, by decide +kernel⟩, List.mem_of_getElem? (i := 124) (by decide +kernel), List.mem_of_getElem? (i := 122) (by decide +kernel), List.mem_of_getElem? (i := 123) (by decide +kernel)⟩
theorem lw_p1 : lw_okq (⟨"PotVolumes", "profileOf", "(I)LPotVolumes$Profile;"⟩, 12) := ⟨⟨by decide +kernel, by decide +kernel⟩, List.mem_of_getElem? (i := 13) (by decide +kernel), List.mem_of_getElem? (i := 188) (by decide +kernel), List.mem_of_getElem? (i := 189) (by decide +kernel)⟩
theorem lw_p2 : lw_okq (⟨"PotVolumes$Profile", "canFollow", "(II)Z"⟩, 5) := ⟨⟨by decide +kernel, by decide +kernel⟩, List.mem_of_getElem? (i := 153) (by decide +kernel), List.mem_of_getElem? (i := 235) (by decide +kernel), List.mem_of_getElem? (i := 236) (by decide +kernel)⟩
theorem lw_p3 : lw_okq (⟨"PotVolumes$Profile", "scaledRadius", "(III)I"⟩, 5) := ⟨⟨by decide +kernel, by decide +kernel⟩, List.mem_of_getElem? (i := 153) (by decide +kernel), List.mem_of_getElem? (i := 265) (by decide +kernel), List.mem_of_getElem? (i := 266) (by decide +kernel)⟩
theorem lw_p4 : lw_okq (⟨"PotVolumes$Profile", "addPieces", "(LPotVolumes$Fraction;III)V"⟩, 5) := ⟨⟨by decide +kernel, by decide +kernel⟩, List.mem_of_getElem? (i := 153) (by decide +kernel), List.mem_of_getElem? (i := 284) (by decide +kernel), List.mem_of_getElem? (i := 285) (by decide +kernel)⟩
theorem lw_p5 : lw_okq (⟨"PotVolumes$Profile", "addPiece", "(LPotVolumes$Fraction;IIII)V"⟩, 5) := ⟨⟨by decide +kernel, by decide +kernel⟩, List.mem_of_getElem? (i := 153) (by decide +kernel), List.mem_of_getElem? (i := 291) (by decide +kernel), List.mem_of_getElem? (i := 292) (by decide +kernel)⟩
theorem lw_p6 : lw_okq (⟨"PotVolumes$Fraction", "lessen", "()V"⟩, 2) := ⟨⟨by decide +kernel, by decide +kernel⟩, List.mem_of_getElem? (i := 23) (by decide +kernel), List.mem_of_getElem? (i := 303) (by decide +kernel), List.mem_of_getElem? (i := 304) (by decide +kernel)⟩
theorem lw_p7 : lw_okq (⟨"PotVolumes$Fraction", "timesDown", "(J)J"⟩, 2) := ⟨⟨by decide +kernel, by decide +kernel⟩, List.mem_of_getElem? (i := 23) (by decide +kernel), List.mem_of_getElem? (i := 334) (by decide +kernel), List.mem_of_getElem? (i := 335) (by decide +kernel)⟩
theorem lw_p8 : lw_okq (⟨"PotVolumes$Fraction", "timesUp", "(J)J"⟩, 2) := ⟨⟨by decide +kernel, by decide +kernel⟩, List.mem_of_getElem? (i := 23) (by decide +kernel), List.mem_of_getElem? (i := 344) (by decide +kernel), List.mem_of_getElem? (i := 345) (by decide +kernel)⟩
theorem lw_p9 : lw_okq (⟨"PotVolumes$Profile", "countUpTo", "(I)I"⟩, 5) := ⟨⟨by decide +kernel, by decide +kernel⟩, List.mem_of_getElem? (i := 153) (by decide +kernel), List.mem_of_getElem? (i := 382) (by decide +kernel), List.mem_of_getElem? (i := 383) (by decide +kernel)⟩
theorem lw_p10 : lw_okq (⟨"PotVolumes", "needCircle", "()V"⟩, 12) := ⟨⟨by decide +kernel, by decide +kernel⟩, List.mem_of_getElem? (i := 13) (by decide +kernel), List.mem_of_getElem? (i := 435) (by decide +kernel), List.mem_of_getElem? (i := 436) (by decide +kernel)⟩
theorem lw_p11 : lw_okq (⟨"PotVolumes", "measureCircle", "()V"⟩, 12) := ⟨⟨by decide +kernel, by decide +kernel⟩, List.mem_of_getElem? (i := 13) (by decide +kernel), List.mem_of_getElem? (i := 440) (by decide +kernel), List.mem_of_getElem? (i := 441) (by decide +kernel)⟩
theorem lw_p12 : lw_okq (⟨"PotVolumes", "needProfile", "(I)V"⟩, 12) := ⟨⟨by decide +kernel, by decide +kernel⟩, List.mem_of_getElem? (i := 13) (by decide +kernel), List.mem_of_getElem? (i := 471) (by decide +kernel), List.mem_of_getElem? (i := 472) (by decide +kernel)⟩
theorem lw_p13 : lw_okq (⟨"PotVolumes", "sumOfShares", "(I)I"⟩, 12) := ⟨⟨by decide +kernel, by decide +kernel⟩, List.mem_of_getElem? (i := 13) (by decide +kernel), List.mem_of_getElem? (i := 477) (by decide +kernel), List.mem_of_getElem? (i := 478) (by decide +kernel)⟩
theorem lw_p14 : lw_okq (⟨"PotVolumes", "vesselsBySherds", "(I)I"⟩, 12) := ⟨⟨by decide +kernel, by decide +kernel⟩, List.mem_of_getElem? (i := 13) (by decide +kernel), List.mem_of_getElem? (i := 488) (by decide +kernel), List.mem_of_getElem? (i := 489) (by decide +kernel)⟩
theorem lw_p15 : lw_okq (⟨"PotVolumes", "firstWithRoom", "(II)I"⟩, 12) := ⟨⟨by decide +kernel, by decide +kernel⟩, List.mem_of_getElem? (i := 13) (by decide +kernel), List.mem_of_getElem? (i := 492) (by decide +kernel), List.mem_of_getElem? (i := 493) (by decide +kernel)⟩
def lw_privs_1 : List (MethodName × Nat) := [(⟨"java/lang/Throwable", "fillInStackTrace", "(I)Ljava/lang/Throwable;"⟩, 6), (⟨"PotVolumes", "profileOf", "(I)LPotVolumes$Profile;"⟩, 12), (⟨"PotVolumes$Profile", "canFollow", "(II)Z"⟩, 5), (⟨"PotVolumes$Profile", "scaledRadius", "(III)I"⟩, 5), (⟨"PotVolumes$Profile", "addPieces", "(LPotVolumes$Fraction;III)V"⟩, 5), (⟨"PotVolumes$Profile", "addPiece", "(LPotVolumes$Fraction;IIII)V"⟩, 5), (⟨"PotVolumes$Fraction", "lessen", "()V"⟩, 2), (⟨"PotVolumes$Fraction", "timesDown", "(J)J"⟩, 2), (⟨"PotVolumes$Fraction", "timesUp", "(J)J"⟩, 2), (⟨"PotVolumes$Profile", "countUpTo", "(I)I"⟩, 5), (⟨"PotVolumes", "needCircle", "()V"⟩, 12), (⟨"PotVolumes", "measureCircle", "()V"⟩, 12), (⟨"PotVolumes", "needProfile", "(I)V"⟩, 12), (⟨"PotVolumes", "sumOfShares", "(I)I"⟩, 12), (⟨"PotVolumes", "vesselsBySherds", "(I)I"⟩, 12), (⟨"PotVolumes", "firstWithRoom", "(II)I"⟩, 12)]
theorem lw_r1 : ∀ q ∈ lw_privs_1, lw_okq q := List.forall_mem_cons.mpr ⟨lw_p0, List.forall_mem_cons.mpr ⟨lw_p1, List.forall_mem_cons.mpr ⟨lw_p2, List.forall_mem_cons.mpr ⟨lw_p3, List.forall_mem_cons.mpr ⟨lw_p4, List.forall_mem_cons.mpr ⟨lw_p5, List.forall_mem_cons.mpr ⟨lw_p6, List.forall_mem_cons.mpr ⟨lw_p7, List.forall_mem_cons.mpr ⟨lw_p8, List.forall_mem_cons.mpr ⟨lw_p9, List.forall_mem_cons.mpr ⟨lw_p10, List.forall_mem_cons.mpr ⟨lw_p11, List.forall_mem_cons.mpr ⟨lw_p12, List.forall_mem_cons.mpr ⟨lw_p13, List.forall_mem_cons.mpr ⟨lw_p14, List.forall_mem_cons.mpr ⟨lw_p15, fun _ h => absurd h List.not_mem_nil⟩⟩⟩⟩⟩⟩⟩⟩⟩⟩⟩⟩⟩⟩⟩⟩
theorem lw_p16 : lw_okq (⟨"PotVolumesModel", "throwing", "(ZZZ)Z"⟩, 18) := ⟨⟨by decide +kernel, by decide +kernel⟩, List.mem_of_getElem? (i := 504) (by decide +kernel), List.mem_of_getElem? (i := 574) (by decide +kernel), List.mem_of_getElem? (i := 575) (by decide +kernel)⟩
theorem lw_p17 : lw_okq (⟨"PotVolumesModel", "isProfile", "(I)Z"⟩, 18) := ⟨⟨by decide +kernel, by decide +kernel⟩, List.mem_of_getElem? (i := 504) (by decide +kernel), List.mem_of_getElem? (i := 582) (by decide +kernel), List.mem_of_getElem? (i := 583) (by decide +kernel)⟩
theorem lw_p18 : lw_okq (⟨"PotVolumesModel", "mayFollow", "(III)Z"⟩, 18) := ⟨⟨by decide +kernel, by decide +kernel⟩, List.mem_of_getElem? (i := 504) (by decide +kernel), List.mem_of_getElem? (i := 589) (by decide +kernel), List.mem_of_getElem? (i := 590) (by decide +kernel)⟩
theorem lw_p19 : lw_okq (⟨"PotVolumesModel", "height", "(II)I"⟩, 18) := ⟨⟨by decide +kernel, by decide +kernel⟩, List.mem_of_getElem? (i := 504) (by decide +kernel), List.mem_of_getElem? (i := 593) (by decide +kernel), List.mem_of_getElem? (i := 594) (by decide +kernel)⟩
theorem lw_p20 : lw_okq (⟨"PotVolumesModel", "radiusAt", "(II)I"⟩, 18) := ⟨⟨by decide +kernel, by decide +kernel⟩, List.mem_of_getElem? (i := 504) (by decide +kernel), List.mem_of_getElem? (i := 597) (by decide +kernel), List.mem_of_getElem? (i := 598) (by decide +kernel)⟩
theorem lw_p21 : lw_okq (⟨"PotVolumesModel", "append", "(III)V"⟩, 18) := ⟨⟨by decide +kernel, by decide +kernel⟩, List.mem_of_getElem? (i := 504) (by decide +kernel), List.mem_of_getElem? (i := 601) (by decide +kernel), List.mem_of_getElem? (i := 602) (by decide +kernel)⟩
theorem lw_p22 : lw_okq (⟨"PotVolumesModel", "radiusOf", "(II)I"⟩, 18) := ⟨⟨by decide +kernel, by decide +kernel⟩, List.mem_of_getElem? (i := 504) (by decide +kernel), List.mem_of_getElem? (i := 613) (by decide +kernel), List.mem_of_getElem? (i := 614) (by decide +kernel)⟩
theorem lw_p23 : lw_okq (⟨"PotVolumesModel", "sum", "(IIII)V"⟩, 18) := ⟨⟨by decide +kernel, by decide +kernel⟩, List.mem_of_getElem? (i := 504) (by decide +kernel), List.mem_of_getElem? (i := 621) (by decide +kernel), List.mem_of_getElem? (i := 622) (by decide +kernel)⟩
theorem lw_p24 : lw_okq (⟨"PotVolumesModel", "addPiece", "(IIIII)V"⟩, 18) := ⟨⟨by decide +kernel, by decide +kernel⟩, List.mem_of_getElem? (i := 504) (by decide +kernel), List.mem_of_getElem? (i := 625) (by decide +kernel), List.mem_of_getElem? (i := 626) (by decide +kernel)⟩
theorem lw_p25 : lw_okq (⟨"PotVolumesModel", "add", "(JJ)V"⟩, 18) := ⟨⟨by decide +kernel, by decide +kernel⟩, List.mem_of_getElem? (i := 504) (by decide +kernel), List.mem_of_getElem? (i := 633) (by decide +kernel), List.mem_of_getElem? (i := 634) (by decide +kernel)⟩
theorem lw_p26 : lw_okq (⟨"PotVolumesModel", "lessen", "()V"⟩, 18) := ⟨⟨by decide +kernel, by decide +kernel⟩, List.mem_of_getElem? (i := 504) (by decide +kernel), List.mem_of_getElem? (i := 640) (by decide +kernel), List.mem_of_getElem? (i := 641) (by decide +kernel)⟩
theorem lw_p27 : lw_okq (⟨"PotVolumesModel", "sumHeld", "(II)V"⟩, 18) := ⟨⟨by decide +kernel, by decide +kernel⟩, List.mem_of_getElem? (i := 504) (by decide +kernel), List.mem_of_getElem? (i := 648) (by decide +kernel), List.mem_of_getElem? (i := 649) (by decide +kernel)⟩
theorem lw_p28 : lw_okq (⟨"PotVolumesModel", "enclose", "(II)J"⟩, 18) := ⟨⟨by decide +kernel, by decide +kernel⟩, List.mem_of_getElem? (i := 504) (by decide +kernel), List.mem_of_getElem? (i := 656) (by decide +kernel), List.mem_of_getElem? (i := 657) (by decide +kernel)⟩
theorem lw_p29 : lw_okq (⟨"PotVolumesModel", "times", "(JZ)J"⟩, 18) := ⟨⟨by decide +kernel, by decide +kernel⟩, List.mem_of_getElem? (i := 504) (by decide +kernel), List.mem_of_getElem? (i := 661) (by decide +kernel), List.mem_of_getElem? (i := 662) (by decide +kernel)⟩
theorem lw_p30 : lw_okq (⟨"PotVolumesModel", "pointCount", "(I)I"⟩, 18) := ⟨⟨by decide +kernel, by decide +kernel⟩, List.mem_of_getElem? (i := 504) (by decide +kernel), List.mem_of_getElem? (i := 684) (by decide +kernel), List.mem_of_getElem? (i := 685) (by decide +kernel)⟩
theorem lw_p31 : lw_okq (⟨"PotVolumesModel", "round", "()V"⟩, 18) := ⟨⟨by decide +kernel, by decide +kernel⟩, List.mem_of_getElem? (i := 504) (by decide +kernel), List.mem_of_getElem? (i := 709) (by decide +kernel), List.mem_of_getElem? (i := 710) (by decide +kernel)⟩
def lw_privs_2 : List (MethodName × Nat) := [(⟨"PotVolumesModel", "throwing", "(ZZZ)Z"⟩, 18), (⟨"PotVolumesModel", "isProfile", "(I)Z"⟩, 18), (⟨"PotVolumesModel", "mayFollow", "(III)Z"⟩, 18), (⟨"PotVolumesModel", "height", "(II)I"⟩, 18), (⟨"PotVolumesModel", "radiusAt", "(II)I"⟩, 18), (⟨"PotVolumesModel", "append", "(III)V"⟩, 18), (⟨"PotVolumesModel", "radiusOf", "(II)I"⟩, 18), (⟨"PotVolumesModel", "sum", "(IIII)V"⟩, 18), (⟨"PotVolumesModel", "addPiece", "(IIIII)V"⟩, 18), (⟨"PotVolumesModel", "add", "(JJ)V"⟩, 18), (⟨"PotVolumesModel", "lessen", "()V"⟩, 18), (⟨"PotVolumesModel", "sumHeld", "(II)V"⟩, 18), (⟨"PotVolumesModel", "enclose", "(II)J"⟩, 18), (⟨"PotVolumesModel", "times", "(JZ)J"⟩, 18), (⟨"PotVolumesModel", "pointCount", "(I)I"⟩, 18), (⟨"PotVolumesModel", "round", "()V"⟩, 18)]
theorem lw_r2 : ∀ q ∈ lw_privs_2, lw_okq q := List.forall_mem_cons.mpr ⟨lw_p16, List.forall_mem_cons.mpr ⟨lw_p17, List.forall_mem_cons.mpr ⟨lw_p18, List.forall_mem_cons.mpr ⟨lw_p19, List.forall_mem_cons.mpr ⟨lw_p20, List.forall_mem_cons.mpr ⟨lw_p21, List.forall_mem_cons.mpr ⟨lw_p22, List.forall_mem_cons.mpr ⟨lw_p23, List.forall_mem_cons.mpr ⟨lw_p24, List.forall_mem_cons.mpr ⟨lw_p25, List.forall_mem_cons.mpr ⟨lw_p26, List.forall_mem_cons.mpr ⟨lw_p27, List.forall_mem_cons.mpr ⟨lw_p28, List.forall_mem_cons.mpr ⟨lw_p29, List.forall_mem_cons.mpr ⟨lw_p30, List.forall_mem_cons.mpr ⟨lw_p31, fun _ h => absurd h List.not_mem_nil⟩⟩⟩⟩⟩⟩⟩⟩⟩⟩⟩⟩⟩⟩⟩⟩
theorem lw_p32 : lw_okq (⟨"PotVolumesModel", "apart", "(II)J"⟩, 18) := ⟨⟨by decide +kernel, by decide +kernel⟩, List.mem_of_getElem? (i := 504) (by decide +kernel), List.mem_of_getElem? (i := 713) (by decide +kernel), List.mem_of_getElem? (i := 714) (by decide +kernel)⟩
theorem lw_p33 : lw_okq (⟨"PotVolumesModel", "allOf", "(I)I"⟩, 18) := ⟨⟨by decide +kernel, by decide +kernel⟩, List.mem_of_getElem? (i := 504) (by decide +kernel), List.mem_of_getElem? (i := 728) (by decide +kernel), List.mem_of_getElem? (i := 729) (by decide +kernel)⟩
def lw_privs_3 : List (MethodName × Nat) := [(⟨"PotVolumesModel", "apart", "(II)J"⟩, 18), (⟨"PotVolumesModel", "allOf", "(I)I"⟩, 18)]
theorem lw_r3 : ∀ q ∈ lw_privs_3, lw_okq q := List.forall_mem_cons.mpr ⟨lw_p32, List.forall_mem_cons.mpr ⟨lw_p33, fun _ h => absurd h List.not_mem_nil⟩⟩
def lw_privs : List (MethodName × Nat) := lw_privs_1 ++ (lw_privs_2 ++ (lw_privs_3))
def lw_tbl : List Cond := k2_sels lw_privs ++ tables_1
theorem lw_privs_ok : ∀ q ∈ lw_privs, lw_okq q := by
  show ∀ q ∈ lw_privs_1 ++ (lw_privs_2 ++ (lw_privs_3)), lw_okq q
  exact List.forall_mem_append.mpr ⟨lw_r1, List.forall_mem_append.mpr ⟨lw_r2, lw_r3⟩⟩
end
section
theorem goodIn_r {big : List Cond} (ws : List Cond) (ps : List Nat) (hp : ws = ps.filterMap (fun i => big[i]?)) (h : ws.all goodWord = true) : GoodIn big ws := by
  intro w hw
  have h1 := List.all_eq_true.mp h w hw
  rw [hp] at hw
  obtain ⟨i, -, hi⟩ := List.mem_filterMap.mp hw
  have hm : w ∈ big := by first | exact List.mem_of_getElem? hi | exact List.getElem?_mem hi
  exact ⟨hm, good_of_word h1⟩
theorem goodIn_app {big a b : List Cond} (ha : GoodIn big a) (hb : GoodIn big b) : GoodIn big (a ++ b) := fun w h => (List.mem_append.mp h).elim (ha w) (hb w)
theorem goodIn_ca {big a b : List Cond} {c : Cond} (ha : GoodIn big (c :: a)) (hb : GoodIn big b) : GoodIn big (c :: (a ++ b)) := fun w h => (List.mem_cons.mp h).elim (fun e => ha w (List.mem_cons.mpr (Or.inl e))) (fun h => (List.mem_append.mp h).elim (fun h => ha w (List.mem_cons.mpr (Or.inr h))) (hb w))
theorem goodIn_sub {big ws : List Cond} (hm : ∀ w ∈ ws, w ∈ big) (h : ws.all goodWord = true) : GoodIn big ws := fun w hw => ⟨hm w hw, good_of_word (List.all_eq_true.mp h w hw)⟩
section VXA
def vx_T (XC : String → State → State → Prop) (st : State) (q : Addr) (t : State) (mc ms : Nat) (free : Addr → Prop) : Prop :=
  ∃ (E : String) (ce : Cell) (L : List Loc), XC E st t ∧ t.heap[q]? = some ce ∧ ce.vm = .none ∧ st.vm.findClass E = some ce.cls ∧ st.WarmedH t.vm ∧ st.sameButNew ({ t with vm := st.vm } : State) L mc ms ∧ ∀ z ∈ L, free z.base
def vx_Q (Qc : Array Value → State → Outcome → State → Prop) (XC : String → State → State → Prop) (mc ms : Nat) (free : Addr → Prop) : Array Value → State → Outcome → State → Prop := fun a st o t =>
  (Qc a st o t ∧ ∃ L, FrameEnd st o t L mc ms ∧ ∀ q ∈ L, free q.base) ∨ ∃ q, o = .threw q ∧ vx_T XC st q t mc ms free
def vx_Met (l : Launch) (y : MethodName) (ws : List Cond) (rm : Room) (Pc : Array Value → State → Prop) (Qc : Array Value → State → Outcome → State → Prop) (XC : String → State → State → Prop) (mc ms : Nat) (free : Addr → Prop) : Prop :=
  MetFree l y (headSpec ws rm) Pc (fun _ _ _ _ _ => True) (vx_Q Qc XC mc ms free)
def vx_Post (XC : String → State → State → Prop) (mc ms : Nat) (free : Addr → Prop) : Pt → Array Value → Addr → Pt → Prop := fun A a q B =>
  ∃ (g : JFrame) (mk : MethodId) (t : State) (L : List Loc) (E : String) (ce : Cell), B.U.heap = t.heap ∧ B.U.vm = t.vm ∧ XC E (A.U.calling g mk a) t ∧ t.heap[q]? = some ce ∧ ce.vm = .none ∧ A.U.vm.findClass E = some ce.cls ∧ B.locs = A.locs ++ L ∧ (∀ z ∈ L, free z.base) ∧ B.cells = A.cells + mc ∧ B.slots = A.slots + ms
def vx_Back (l : Launch) (R : Room) (p : Program) (e : Env) (below : List Frame) (s : State) (sargs : Array Value) (y : MethodName) (len W9 : Nat)
    (Pre : Pt → Array Value → Prop) (Post : Pt → Array Value → Option Value → Pt → Prop) (PostX : Pt → Array Value → Addr → Pt → Prop) : Prop :=
  ∀ (m : MethodId) (meth : Method) (c : Code) (A : Pt) (g : JFrame) (ig : Instr) (mk : MethodId) (a : Array Value),
    Stand p l e R s m sargs below meth c A.U A.locs A.cells A.slots → g.method = m → g.locals.size = c.maxLocals → decode c.code g.pc = .ok (ig, len) →
    2 * g.monitorRoom + (g.stack.map fun v => v.category).sum ≤ W9 → A.U.methodNamed? y = some mk → Pre A a →
    (∃ (v : Option Value) (B : Pt), Stand p l e R s m sargs below meth c B.U B.locs B.cells B.slots ∧ Post A a v B ∧
      Steps p.tables e below (doInvoke e (A.U.setTop g) [] mk a).1 (B.U.setTop { g with pc := g.pc + len, stack := v.toList ++ g.stack })) ∨
    (∃ (q : Addr) (B : Pt), Stand p l e R s m sargs below meth c B.U B.locs B.cells B.slots ∧ PostX A a q B ∧
      Steps p.tables e below (doInvoke e (A.U.setTop g) [] mk a).1 ((B.U.setTop g).pushFrame (.throwing q)))
section Payer
variable {l : Launch} {R : Room} {p : Program} {e : Env} {below : List Frame} {s : State} {sargs : Array Value} {y : MethodName} {len W9 : Nat}
theorem vx_back {ws : List Cond} {rm : Room} {Pc : Array Value → State → Prop} {Qc : Array Value → State → Outcome → State → Prop} {XC : String → State → State → Prop} {mc ms : Nat} {free : Addr → Prop} {bytes : ByteArray} {maxL : Nat} {ret : Option FieldType}
    (hM : vx_Met l y ws rm Pc Qc XC mc ms free) (hblind : FrameBlind Pc) (hrc : rm.cells = mc) (hrs : rm.slots = ms)
    (hframes : rm.frames + 1 ≤ R.frames) (hlocals : W9 + (maxL + 11) + rm.locals ≤ R.locals)
    (hws : ∀ w ∈ ws, ∀ a' U, s.WarmedH U.vm → w.before a' U = true) (hcode : Cond.code y bytes maxL ret ∈ ws) (hinit : ∀ a' U, s.WarmedH U.vm → (Cond.initialized y.cls).before a' U = true) :
    vx_Back l R p e below s sargs y len W9 (PreOf R mc ms Pc) (PostOf Qc mc ms free) (vx_Post XC mc ms free) := by
  intro m meth c A g ig mk a X hg hsize hdg hW hn hp
  have h1 : (headSpec ws rm).pre.before a A.U = true := atoms_intro fun w hw => hws w hw _ _ X.warmed
  have h2 : (Cond.code y bytes maxL ret).before a A.U = true := hws _ hcode _ _ X.warmed
  have h3 : (Cond.initialized y.cls).before a A.U = true := hinit _ _ X.warmed
  have h4 : A.cells + (headSpec ws rm).room.cells ≤ R.cells := by rw [show (headSpec ws rm).room.cells = mc from hrc]; exact hp.1
  have h5 : A.slots + (headSpec ws rm).room.slots ≤ R.slots := by rw [show (headSpec ws rm).room.slots = ms from hrs]; exact hp.2.1
  have hPc : Pc a (A.U.calling g mk a) := hblind _ _ _ _ hp.2.2
  obtain ⟨U, Ls, c0, s0⟩ := A
  dsimp only [Pt.U, Pt.locs, Pt.cells, Pt.slots] at h1 h2 h3 h4 h5 X hn hPc ⊢
  obtain ⟨methY, cY, hmY, hcY, -, hlY, -, -, -, -⟩ := Cond.code_spec hn h2
  obtain ⟨kY, hkY, -⟩ := className_of_methodNamed hn
  have hinitY : kY.init = .initialized := Cond.initialized_spec (findClass_of_methodNamed hn) hkY h3
  have h : At U g.method c below := by rw [hg]; exact X.here
  have hlocals9 : W9 + (maxL + 11) + (headSpec ws rm).room.locals ≤ R.locals := hlocals
  have happ : (headSpec ws rm).appliesLoose y e.platform (U.calling g mk a) = true :=
    Spec.appliesLoose_calling (g := g) h hdg hn hkY hinitY
      (X.room_calling (g := g) (R' := (headSpec ws rm).room) hsize hmY hcY hframes (by rw [hlY]; omega) h4 h5) h1
  obtain ⟨mid, hmid⟩ := h.above
  have hfr : (U.setTop g).frames = (.java g :: mid) ++ below := by rw [State.frames_setTop' g h.top, hmid]; rfl
  obtain ⟨o, s₂, hsteps, -, hend, hq⟩ := Steps.callFree hM p X.admits X.cas X.clock (acts := []) hfr happ hPc trivial
  have hq' : vx_Q Qc XC mc ms free a (U.calling g mk a) o s₂ := hq
  rw [State.frames_setTop' g h.top] at hend
  obtain ⟨g₀, hg0⟩ := Option.isSome_iff_exists.mp h.top
  obtain ⟨r, hr⟩ := State.topJava?_eq_some.mp hg0
  have hr' : (({ U with heap := s₂.heap, slotsUsed := s₂.slotsUsed } : State).setVm s₂.vm).frames = .java g₀ :: r := hr
  rcases hq' with ⟨hqc, L, hfe, hL⟩ | ⟨q, rfl, E, ce, L, hx, hce, hcv, hcl, hW₂, hsm, hL⟩
  · obtain ⟨⟨v, rfl⟩, hW₂, e2, q2, q3, q4, q5, q6⟩ := id hfe
    have e3 : s₂ = ({ (U.calling g mk a).setFrames s₂.frames with heap := s₂.heap, slotsUsed := s₂.slotsUsed } : State).setVm s₂.vm := by
      have : s₂ = ({ s₂ with vm := (U.calling g mk a).vm } : State).setVm s₂.vm := rfl
      rw [e2] at this
      exact this
    obtain ⟨c₂, i₂, len₂, hc₂, hd₂, hf₂⟩ := hend
    have hW' : U.WarmedH s₂.vm := hW₂
    have hcc : c₂ = c := by
      have h1 : s₂.code? g.method = U.code? g.method := by
        rw [State.code?_eq, State.code?_eq, hW'.alike.method?]
      exact Option.some.inj (hc₂.symm.trans (h1.trans h.code))
    subst hcc
    have hlen : len₂ = len := by rw [hdg] at hd₂; cases hd₂; rfl
    subst hlen
    have hs₂ : s₂ = (({ U with heap := s₂.heap, slotsUsed := s₂.slotsUsed } : State).setVm s₂.vm).setTop { g with pc := g.pc + len₂, stack := v.toList ++ g.stack } := by
      refine e3.trans ?_
      rw [hf₂, State.calling_eq h.top, State.setFrames_setFrames, State.setTop_of_frames _ hr', hr]
      rfl
    have hsame : U.sameButNew ({ U with heap := s₂.heap, slotsUsed := s₂.slotsUsed } : State) L mc ms := by
      refine ⟨?_, q2, q3, q4, q5, q6⟩
      obtain ⟨t, ht, -⟩ := State.frames_cons hr
      show ({ U with heap := s₂.heap, slotsUsed := s₂.slotsUsed } : State) = { U.setFrames U.frames with heap := s₂.heap, slotsUsed := s₂.slotsUsed }
      rw [State.setFrames_self ht]
    subst hg
    refine Or.inl ⟨v, ⟨(({ U with heap := s₂.heap, slotsUsed := s₂.slotsUsed } : State).setVm s₂.vm), Ls ++ L, c0 + mc, s0 + ms⟩,
      ⟨X.admits, X.cas, X.clock, X.frames, X.room, X.hears, X.method, X.code, (X.here.setHeapUsed s₂.heap s₂.slotsUsed).setVm hW'.alike, X.tail, State.WarmedH.trans X.warmed hW', X.limits, X.bytes, X.same.trans (hsame.setVm s.vm)⟩,
      ⟨g, mk, s₂, L, rfl, rfl, hqc, rfl, hL, rfl, rfl⟩, ?_⟩
    show Steps p.tables e below _ ((({ U with heap := s₂.heap, slotsUsed := s₂.slotsUsed } : State).setVm s₂.vm).setTop { g with pc := g.pc + len₂, stack := v.toList ++ g.stack })
    rw [← hs₂]
    exact hsteps
  · obtain ⟨e2, q2, q3, q4, q5, q6⟩ := id hsm
    have e3 : s₂ = ({ (U.calling g mk a).setFrames s₂.frames with heap := s₂.heap, slotsUsed := s₂.slotsUsed } : State).setVm s₂.vm := by
      have : s₂ = ({ s₂ with vm := (U.calling g mk a).vm } : State).setVm s₂.vm := rfl
      rw [e2] at this
      exact this
    have hf₂ : s₂.frames = .throwing q :: .java g :: U.frames.tail := hend
    have hW' : U.WarmedH s₂.vm := hW₂
    have hs₂ : s₂ = ((({ U with heap := s₂.heap, slotsUsed := s₂.slotsUsed } : State).setVm s₂.vm).setTop g).pushFrame (.throwing q) := by
      refine e3.trans ?_
      rw [hf₂, State.calling_eq h.top, State.setFrames_setFrames, State.pushFrame, State.frames_setTop _ hr', State.setTop_of_frames _ hr', State.setFrames_setFrames, hr]
      rfl
    have hsame : U.sameButNew ({ U with heap := s₂.heap, slotsUsed := s₂.slotsUsed } : State) L mc ms := by
      refine ⟨?_, q2, q3, q4, q5, q6⟩
      obtain ⟨t, ht, -⟩ := State.frames_cons hr
      show ({ U with heap := s₂.heap, slotsUsed := s₂.slotsUsed } : State) = { U.setFrames U.frames with heap := s₂.heap, slotsUsed := s₂.slotsUsed }
      rw [State.setFrames_self ht]
    subst hg
    refine Or.inr ⟨q, ⟨(({ U with heap := s₂.heap, slotsUsed := s₂.slotsUsed } : State).setVm s₂.vm), Ls ++ L, c0 + mc, s0 + ms⟩,
      ⟨X.admits, X.cas, X.clock, X.frames, X.room, X.hears, X.method, X.code, (X.here.setHeapUsed s₂.heap s₂.slotsUsed).setVm hW'.alike, X.tail, State.WarmedH.trans X.warmed hW', X.limits, X.bytes, X.same.trans (hsame.setVm s.vm)⟩,
      ⟨g, mk, s₂, L, E, ce, rfl, rfl, hx, hce, hcv, hcl, rfl, hL, rfl, rfl⟩, ?_⟩
    show Steps p.tables e below _ (((({ U with heap := s₂.heap, slotsUsed := s₂.slotsUsed } : State).setVm s₂.vm).setTop g).pushFrame (.throwing q))
    rw [← hs₂]
    exact hsteps
end Payer
section Calls
variable {p : Program} {l : Launch} {e : Env} {R : Room} {s : State} {m : MethodId} {args : Array Value} {below : List Frame} {meth : Method} {c : Code} {T : State} {locs : List Loc} {cells slots : Nat}
theorem vx_callV (X : Stand p l e R s m args below meth c T locs cells slots) (hexec : p.tables.exec = Jvm.exec) {own C : String} {index : Nat} {y : MethodName} {bytes : ByteArray} {maxL : Nat} {ret : Option FieldType}
    (hown : s.vm.findClass own = some m.cls) (hlink : (Cond.methodLink own index y).before args s = true) (hinst : (Cond.instanceMethod y).before args s = true) (hsel : (Cond.selects C y y).before args s = true)
    (hcode : (Cond.code y bytes maxL ret).before args s = true) (hy : y.cls ≠ "java/lang/invoke/MethodHandle" ∧ y.cls ≠ "java/lang/invoke/VarHandle")
    {W9 : Nat} {Pre : Pt → Array Value → Prop} {Post : Pt → Array Value → Option Value → Pt → Prop} {PostX : Pt → Array Value → Addr → Pt → Prop} (hK : vx_Back l R p e below s args y 3 W9 Pre Post PostX)
    {b : Addr} {cellB : Cell} (hcell : T.heap[b]? = some cellB) (hobj : cellB.vm.isStatics = false) (hcls : s.vm.findClass C = some cellB.cls)
    {g : JFrame} (hg : g.method = m) (hsize : g.locals.size = c.maxLocals) {argsL rest : List Value} (hlen : ∀ sig, parseMethodDescriptor y.desc = some sig → argsL.length = sig.parameters.length)
    (hstack : g.stack = argsL.reverse ++ .ref b :: rest) (hW : 2 * g.monitorRoom + (rest.map fun v => v.category).sum ≤ W9) (hdg : decode c.code g.pc = .ok (.invokevirtual index, 3))
    (hpre : ∀ vm₁, s.WarmedH vm₁ → Pre ⟨T.setVm vm₁, locs, cells, slots⟩ (Value.ref b :: argsL).toArray) :
    (∃ (v : Option Value) (vm₁ : Vm) (B : Pt), s.WarmedH vm₁ ∧ Stand p l e R s m args below meth c B.U B.locs B.cells B.slots ∧ Post ⟨T.setVm vm₁, locs, cells, slots⟩ (Value.ref b :: argsL).toArray v B ∧
      ∀ target, Steps p.tables e below (B.U.setTop { g with pc := g.pc + 3, stack := v.toList ++ rest }) target → Steps p.tables e below (T.setTop g) target) ∨
    (∃ (q : Addr) (vm₁ : Vm) (B : Pt), s.WarmedH vm₁ ∧ Stand p l e R s m args below meth c B.U B.locs B.cells B.slots ∧ PostX ⟨T.setVm vm₁, locs, cells, slots⟩ (Value.ref b :: argsL).toArray q B ∧
      Steps p.tables e below (T.setTop g) ((B.U.setTop { g with stack := rest }).pushFrame (.throwing q))) := by
  obtain ⟨mk, methM, hnamed, hmethM, hstM, habM⟩ := Cond.instanceMethod_spec hinst
  obtain ⟨methM', cM, hmethM', -, -, -, -, -, -, hsigM⟩ := Cond.code_spec hnamed hcode
  cases hmethM.symm.trans hmethM'
  obtain ⟨c2, r2, m2, q1, q2, q3, q4, kP, hkP, hkPi⟩ := Cond.selects_spec hsel
  cases hcls.symm.trans q1
  cases (State.methodFound?_of_named hnamed hy).symm.trans q2
  cases hnamed.symm.trans q3
  have hselP : selectMethod e.platform s.vm cellB.cls mk = .method mk := by rw [Launch.admits_selectMethod X.admits]; exact q4
  obtain ⟨vm₁, X₁, hstep₁⟩ := X.invokevirtual hexec hown hlink hnamed hmethM hstM hkP hkPi hy (a := b) (cell := cellB) hcell
    (fun z h => by rw [h] at hobj; cases hobj) hselP hmethM habM hkP hkPi (g := g) hg (argsL := argsL) (rest := rest) (hlen _ hsigM) hstack hdg
  rcases hK m meth c ⟨T.setVm vm₁, locs, cells, slots⟩ { g with stack := rest } (.invokevirtual index) mk (Value.ref b :: argsL).toArray X₁ hg hsize hdg hW (X₁.named hnamed) (hpre vm₁ X₁.warmed) with ⟨v, B, X', hpost, hsteps⟩ | ⟨q, B, X', hpost, hsteps⟩
  · exact Or.inl ⟨v, vm₁, B, X₁.warmed, X', hpost, fun target h => hstep₁ _ fun acts => by rw [doInvoke_state]; exact hsteps.trans h⟩
  · exact Or.inr ⟨q, vm₁, B, X₁.warmed, X', hpost, hstep₁ _ fun acts => by rw [doInvoke_state]; exact hsteps⟩
theorem vx_callS (X : Stand p l e R s m args below meth c T locs cells slots) (hexec : p.tables.exec = Jvm.exec) {own : String} {index : Nat} {y : MethodName} {bytes : ByteArray} {maxL : Nat} {ret : Option FieldType}
    (hown : s.vm.findClass own = some m.cls) (hlink : (Cond.methodLink own index y).before args s = true) (hstat : (Cond.static y).before args s = true) (hinit : (Cond.initialized y.cls).before args s = true)
    (hcode : (Cond.code y bytes maxL ret).before args s = true) (hy : y.cls ≠ "java/lang/invoke/MethodHandle" ∧ y.cls ≠ "java/lang/invoke/VarHandle")
    {W9 : Nat} {Pre : Pt → Array Value → Prop} {Post : Pt → Array Value → Option Value → Pt → Prop} {PostX : Pt → Array Value → Addr → Pt → Prop} (hK : vx_Back l R p e below s args y 3 W9 Pre Post PostX)
    {g : JFrame} (hg : g.method = m) (hsize : g.locals.size = c.maxLocals) {argsL rest : List Value} (hlen : ∀ sig, parseMethodDescriptor y.desc = some sig → argsL.length = sig.parameters.length)
    (hstack : g.stack = argsL.reverse ++ rest) (hW : 2 * g.monitorRoom + (rest.map fun v => v.category).sum ≤ W9) (hdg : decode c.code g.pc = .ok (.invokestatic index, 3))
    (hpre : ∀ vm₁, s.WarmedH vm₁ → Pre ⟨T.setVm vm₁, locs, cells, slots⟩ argsL.toArray) :
    (∃ (v : Option Value) (vm₁ : Vm) (B : Pt), s.WarmedH vm₁ ∧ Stand p l e R s m args below meth c B.U B.locs B.cells B.slots ∧ Post ⟨T.setVm vm₁, locs, cells, slots⟩ argsL.toArray v B ∧
      ∀ target, Steps p.tables e below (B.U.setTop { g with pc := g.pc + 3, stack := v.toList ++ rest }) target → Steps p.tables e below (T.setTop g) target) ∨
    (∃ (q : Addr) (vm₁ : Vm) (B : Pt), s.WarmedH vm₁ ∧ Stand p l e R s m args below meth c B.U B.locs B.cells B.slots ∧ PostX ⟨T.setVm vm₁, locs, cells, slots⟩ argsL.toArray q B ∧
      Steps p.tables e below (T.setTop g) ((B.U.setTop { g with stack := rest }).pushFrame (.throwing q))) := by
  obtain ⟨mk, hnamed⟩ := Cond.code_named hcode
  obtain ⟨methM, cM, hmethM, -, -, -, -, -, -, hsigM⟩ := Cond.code_spec hnamed hcode
  have hstatic : methM.isStatic = true := Cond.static_spec hnamed hmethM hstat
  obtain ⟨kP, hkP, -⟩ := className_of_methodNamed hnamed
  have hinitP : kP.init = .initialized := Cond.initialized_spec (findClass_of_methodNamed hnamed) hkP hinit
  obtain ⟨vm₁, X₁, hstep₁⟩ := X.invokestatic hexec hown hlink hnamed hmethM hstatic hkP hinitP hy (g := g) hg (argsL := argsL) (rest := rest) (hlen _ hsigM) hstack hdg
  rcases hK m meth c ⟨T.setVm vm₁, locs, cells, slots⟩ { g with stack := rest } (.invokestatic index) mk argsL.toArray X₁ hg hsize hdg hW (X₁.named hnamed) (hpre vm₁ X₁.warmed) with ⟨v, B, X', hpost, hsteps⟩ | ⟨q, B, X', hpost, hsteps⟩
  · exact Or.inl ⟨v, vm₁, B, X₁.warmed, X', hpost, fun target h => hstep₁ _ fun acts => by rw [doInvoke_state]; exact hsteps.trans h⟩
  · exact Or.inr ⟨q, vm₁, B, X₁.warmed, X', hpost, hstep₁ _ fun acts => by rw [doInvoke_state]; exact hsteps⟩
end Calls
theorem vx_cls {s : State} {T : State} {vm₁ : Vm} {E : String} {k : ClassId} (hW : s.WarmedH vm₁) (h : (T.setVm vm₁).vm.findClass E = some k) : s.vm.findClass E = some k := by
  have h1 : vm₁.findClass E = some k := h
  rw [hW.alike.findClass] at h1
  exact h1
def vx_W (p : Program) (l : Launch) (e : Env) (R : Room) (s : State) (m : MethodId) (args : Array Value) (below : List Frame) (meth : Method) (c : Code) (H : Heap) (locs : List Loc) (cells slots : Nat) (Q : State → Prop) (g : JFrame) (q : Addr) : Prop :=
  ∀ T : State, T.heap = H → Stand p l e R s m args below meth c T locs cells slots → ∃ t, Steps p.tables e below ((T.setTop g).pushFrame (.throwing q)) t ∧ Q t
def vx_Run (p : Program) (l : Launch) (e : Env) (R : Room) (s : State) (m : MethodId) (args : Array Value) (below : List Frame) (meth : Method) (c : Code) (H : Heap) (locs : List Loc) (cells slots mc ms : Nat) (g : JFrame) (rest : List Value) (Qa : State → Outcome → State → Prop) (XC : String → State → State → Prop) (free : Addr → Prop) : Prop :=
  ∀ T : State, T.heap = H → Stand p l e R s m args below meth c T locs cells slots →
    (∃ (v : Option Value) (st₀ t T' : State) (L : List Loc), st₀.heap = H ∧ Stand p l e R s m args below meth c T' (locs ++ L) (cells + mc) (slots + ms) ∧ (∀ q ∈ L, free q.base) ∧ T'.heap = t.heap ∧ T'.vm = t.vm ∧ Qa st₀ (.returned v) t ∧
      Goes p e below T g T' { g with pc := g.pc + 3, stack := v.toList ++ rest }) ∨
    (∃ (q : Addr) (st₀ t T' : State) (L : List Loc) (E : String) (ce : Cell), st₀.heap = H ∧ Stand p l e R s m args below meth c T' (locs ++ L) (cells + mc) (slots + ms) ∧ (∀ z ∈ L, free z.base) ∧ T'.heap = t.heap ∧ T'.vm = t.vm ∧ XC E st₀ t ∧ t.heap[q]? = some ce ∧ ce.vm = .none ∧ s.vm.findClass E = some ce.cls ∧
      Steps p.tables e below (T.setTop g) ((T'.setTop { g with stack := rest }).pushFrame (.throwing q)))
def vx_X {S : Type} (px : S → Prop) (B : String → S → State → Prop) (A : Nat → Prop) : String → State → State → Prop := fun E st t => ∃ u : S, px u ∧ B E u t ∧ va_F A st t
section Runs
variable {p : Program} {l : Launch} {e : Env} {R : Room} {s : State} {m : MethodId} {args : Array Value} {below : List Frame} {meth : Method} {c : Code} {H : Heap} {locs : List Loc} {cells slots : Nat}
variable {y : MethodName} {bytes cc : ByteArray} {maxL nL mc ms n index : Nat} {ret : Option FieldType} {ws : List Cond} {rm : Room} {Pc : Array Value → State → Prop} {Qc : Array Value → State → Outcome → State → Prop} {XC : String → State → State → Prop} {free : Addr → Prop} {Ts : List Cond} {own C : String} {b : Addr} {As rest : List Value} {g : JFrame}
theorem vx_callBack (cb : CallB R s args own index y bytes maxL ret ws rm mc ms n) (hM : vx_Met l y ws rm Pc Qc XC mc ms free) (hbl : FrameBlind Pc) : vx_Back l R p e below s args y 3 8 (PreOf R mc ms Pc) (PostOf Qc mc ms free) (vx_Post XC mc ms free) := by
  obtain ⟨hrc, hrs, hfr, hlo, hws, hcw, -, hini, -⟩ := cb
  exact vx_back (bytes := bytes) (maxL := maxL) (ret := ret) hM hbl hrc hrs hfr hlo hws hcw (fun a' U hW => word_at hW (Or.inl (by first | rfl | simp [Cond.onTables, Cond.keeps, Cond.steady])) hini)
theorem vx_runV (S : CallFix p m c cc nL s args Ts own) (hM : vx_Met l y ws rm Pc Qc XC mc ms free) (cw : CallW R s args own C index y bytes maxL ret ws rm mc ms n) (hp : PreV s H C b Pc As)
    (hg : g.method = m) (hn : As.length = n) (hsize : g.locals.size = nL) (hstack : g.stack = As.reverse ++ .ref b :: rest) (hW : 2 * g.monitorRoom + (rest.map fun v => v.category).sum ≤ 8) (hdg : decode cc g.pc = .ok (.invokevirtual index, 3)) (hf : cells + mc ≤ R.cells ∧ slots + ms ≤ R.slots) :
    vx_Run p l e R s m args below meth c H locs cells slots mc ms g rest (Qc (Value.ref b :: As).toArray) XC free := by
  have hK : vx_Back l R p e below s args y 3 8 (PreOf R mc ms Pc) (PostOf Qc mc ms free) (vx_Post XC mc ms free) := vx_callBack cw.1 hM hp.1
  obtain ⟨⟨-, -, -, -, -, -, hcode, -, hy, hlen, hl⟩, hin, hse⟩ := cw
  obtain ⟨hx, hb, hml, ho, -⟩ := S
  obtain ⟨-, ⟨cellB, hcB, hoB, hclB⟩, hPc⟩ := hp
  intro T hT X
  rcases vx_callV X hx (C := C) (bytes := bytes) (maxL := maxL) (ret := ret) ho hl hin hse hcode hy hK (by rw [hT]; exact hcB) hoB hclB hg (hsize.trans hml.symm) (argsL := As) (rest := rest) (fun sig h => hn.trans (hlen sig h)) hstack hW (by rw [hb]; exact hdg)
    (fun vm₁ hW₁ => ⟨hf.1, hf.2, hPc (T.setVm vm₁) hT hW₁⟩) with ⟨v, vm₁, ⟨U', l2, c2, s2⟩, hW₁, X', ⟨g', mk, t, L, e1, e2, hq, h1, hL, h2, h3⟩, st⟩ | ⟨q, vm₁, ⟨U', l2, c2, s2⟩, hW₁, X', ⟨g', mk, t, L, E, ce, e1, e2, hq, hce, hcv, hcl, h1, hL, h2, h3⟩, st⟩
  · dsimp only [Pt.U, Pt.locs, Pt.cells, Pt.slots] at X' e1 e2 h1 h2 h3 st
    subst h1; subst h2; subst h3
    exact Or.inl ⟨v, (T.setVm vm₁).calling g' mk (Value.ref b :: As).toArray, t, U', L, hT, X', hL, e1, e2, hq, st⟩
  · dsimp only [Pt.U, Pt.locs, Pt.cells, Pt.slots] at X' e1 e2 h1 h2 h3 st hcl
    subst h1; subst h2; subst h3
    exact Or.inr ⟨q, (T.setVm vm₁).calling g' mk (Value.ref b :: As).toArray, t, U', L, E, ce, hT, X', hL, e1, e2, hq, hce, hcv, vx_cls hW₁ hcl, st⟩
theorem vx_runS (S : CallFix p m c cc nL s args Ts own) (hM : vx_Met l y ws rm Pc Qc XC mc ms free) (cw : CallB R s args own index y bytes maxL ret ws rm mc ms n ∧ (Cond.static y).before args s = true) (hp : PreS s H Pc As)
    (hg : g.method = m) (hn : As.length = n) (hsize : g.locals.size = nL) (hstack : g.stack = As.reverse ++ rest) (hW : 2 * g.monitorRoom + (rest.map fun v => v.category).sum ≤ 8) (hdg : decode cc g.pc = .ok (.invokestatic index, 3)) (hf : cells + mc ≤ R.cells ∧ slots + ms ≤ R.slots) :
    vx_Run p l e R s m args below meth c H locs cells slots mc ms g rest (Qc As.toArray) XC free := by
  have hK : vx_Back l R p e below s args y 3 8 (PreOf R mc ms Pc) (PostOf Qc mc ms free) (vx_Post XC mc ms free) := vx_callBack cw.1 hM hp.1
  obtain ⟨⟨-, -, -, -, -, -, hcode, hini, hy, hlen, hl⟩, hstt⟩ := cw
  obtain ⟨hx, hb, hml, ho, -⟩ := S
  intro T hT X
  rcases vx_callS X hx (bytes := bytes) (maxL := maxL) (ret := ret) ho hl hstt hini hcode hy hK hg (hsize.trans hml.symm) (argsL := As) (rest := rest) (fun sig h => hn.trans (hlen sig h)) hstack hW (by rw [hb]; exact hdg)
    (fun vm₁ hW₁ => ⟨hf.1, hf.2, hp.2 (T.setVm vm₁) hT hW₁⟩) with ⟨v, vm₁, ⟨U', l2, c2, s2⟩, hW₁, X', ⟨g', mk, t, L, e1, e2, hq, h1, hL, h2, h3⟩, st⟩ | ⟨q, vm₁, ⟨U', l2, c2, s2⟩, hW₁, X', ⟨g', mk, t, L, E, ce, e1, e2, hq, hce, hcv, hcl, h1, hL, h2, h3⟩, st⟩
  · dsimp only [Pt.U, Pt.locs, Pt.cells, Pt.slots] at X' e1 e2 h1 h2 h3 st
    subst h1; subst h2; subst h3
    exact Or.inl ⟨v, (T.setVm vm₁).calling g' mk As.toArray, t, U', L, hT, X', hL, e1, e2, hq, st⟩
  · dsimp only [Pt.U, Pt.locs, Pt.cells, Pt.slots] at X' e1 e2 h1 h2 h3 st hcl
    subst h1; subst h2; subst h3
    exact Or.inr ⟨q, (T.setVm vm₁).calling g' mk As.toArray, t, U', L, E, ce, hT, X', hL, e1, e2, hq, hce, hcv, vx_cls hW₁ hcl, st⟩
end Runs
section Rows
variable {p : Program} {l : Launch} {e : Env} {R : Room} {s : State} {m : MethodId} {args : Array Value} {below : List Frame} {meth : Method} {c : Code} {H : Heap} {locs : List Loc} {cells slots : Nat} {Q : State → Prop}
variable {mc ms : Nat} {free : Addr → Prop} {A0 A1 : Nat → Prop} {H0 : Heap} {a : Array Value} {pc : Nat} {ls : Array Slot} {st0 rest : List Value}
theorem vx_keep {st₀ t T' : State} {L : List Loc} (h0 : st₀.heap = H) (e1 : T'.heap = t.heap) (hS : va_S A0 H0 H locs) (hA : ∀ q, q < H.size → A1 q → A0 q) (hf : ∀ q, free q → A0 q) (hL : ∀ q ∈ L, free q.base) (hF : va_F A1 st₀ t) :
    H.size ≤ T'.heap.size ∧ (∀ q : Nat, q < H.size → ¬ A1 q → T'.heap[q]? = H[q]?) ∧ va_S A0 H0 T'.heap (locs ++ L) := by
  obtain ⟨hz, hk⟩ := hF
  rw [h0] at hz hk
  exact ⟨by rw [e1]; exact hz, fun q h1 h2 => by rw [e1]; exact hk q h1 h2,
    ⟨Nat.le_trans hS.1 (by rw [e1]; exact hz), fun q h1 h2 => by rw [e1, hk q (Nat.lt_of_lt_of_le h1 hS.1) (fun z => h2 (hA q (Nat.lt_of_lt_of_le h1 hS.1) z))]; exact hS.2.1 q h1 h2, fun q hq => by
      rcases List.mem_append.mp hq with h | h
      · exact hS.2.2 q h
      · exact hf _ (hL q h)⟩⟩
theorem vx_calli {S SX : Type} {post : Int32 → S → Prop} {px : SX → Prop} {B : S → State → Prop} {BX : String → SX → State → Prop} {AX : Nat → Prop} (hr : vx_Run p l e R s m args below meth c H locs cells slots mc ms (F0 m pc ls st0) rest (va_Qi post B A1 a) (vx_X px BX AX) free) (hS : va_S A0 H0 H locs) (hA : ∀ q, q < H.size → A1 q → A0 q) (hf : ∀ q, free q → A0 q) (hAX : ∀ q, q < H.size → AX q → A0 q)
    (kx : ∀ (E : String) (ce : Cell) (q9 : Addr) (u : SX) (t : State) (H1 : Heap) (locs1 : List Loc), t.heap = H1 → s.vm.Alike t.vm → px u → BX E u t → H.size ≤ H1.size → (∀ q : Nat, q < H.size → ¬ AX q → H1[q]? = H[q]?) → va_S A0 H0 H1 locs1 → H1[q9]? = some ce → ce.vm = .none → s.vm.findClass E = some ce.cls → vx_W p l e R s m args below meth c H1 locs1 (cells + mc) (slots + ms) Q (F0 m pc ls rest) q9)
    (kk : ∀ (r : Int32) (u : S) (t : State) (H1 : Heap) (locs1 : List Loc), t.heap = H1 → s.vm.Alike t.vm → post r u → B u t → H.size ≤ H1.size → (∀ q : Nat, q < H.size → ¬ A1 q → H1[q]? = H[q]?) → va_S A0 H0 H1 locs1 → W p l e R s m args below meth c H1 locs1 (cells + mc) (slots + ms) Q (F0 m (pc + 3) ls (.int r :: rest))) : W p l e R s m args below meth c H locs cells slots Q (F0 m pc ls st0) := by
  intro T hT X
  rcases hr T hT X with ⟨v, st₀, t, T', L, h0, X', hL, e1, e2, ⟨⟨r, u, hv, hp, hb⟩, hF⟩, st⟩ | ⟨q, st₀, t, T', L, E, ce, h0, X', hL, e1, e2, ⟨u, hp, hb, hF⟩, hce, hcv, hcl, st⟩
  · cases hv
    obtain ⟨k1, k2, k3⟩ := vx_keep h0 e1 hS hA hf hL hF
    obtain ⟨t2, a1, b1⟩ := kk r u t T'.heap (locs ++ L) e1.symm (by rw [← e2]; exact X'.warmed.alike) hp hb k1 k2 k3 T' rfl X'
    exact ⟨t2, st t2 a1, b1⟩
  · obtain ⟨k1, k2, k3⟩ := vx_keep h0 e1 hS hAX hf hL hF
    obtain ⟨t2, a1, b1⟩ := kx E ce q u t T'.heap (locs ++ L) e1.symm (by rw [← e2]; exact X'.warmed.alike) hp hb k1 k2 k3 (by rw [e1]; exact hce) hcv hcl T' rfl X'
    exact ⟨t2, st.trans a1, b1⟩
theorem vx_calll {S SX : Type} {post : Int64 → S → Prop} {px : SX → Prop} {B : S → State → Prop} {BX : String → SX → State → Prop} {AX : Nat → Prop} (hr : vx_Run p l e R s m args below meth c H locs cells slots mc ms (F0 m pc ls st0) rest (va_Ql post B A1 a) (vx_X px BX AX) free) (hS : va_S A0 H0 H locs) (hA : ∀ q, q < H.size → A1 q → A0 q) (hf : ∀ q, free q → A0 q) (hAX : ∀ q, q < H.size → AX q → A0 q)
    (kx : ∀ (E : String) (ce : Cell) (q9 : Addr) (u : SX) (t : State) (H1 : Heap) (locs1 : List Loc), t.heap = H1 → s.vm.Alike t.vm → px u → BX E u t → H.size ≤ H1.size → (∀ q : Nat, q < H.size → ¬ AX q → H1[q]? = H[q]?) → va_S A0 H0 H1 locs1 → H1[q9]? = some ce → ce.vm = .none → s.vm.findClass E = some ce.cls → vx_W p l e R s m args below meth c H1 locs1 (cells + mc) (slots + ms) Q (F0 m pc ls rest) q9)
    (kk : ∀ (r : Int64) (u : S) (t : State) (H1 : Heap) (locs1 : List Loc), t.heap = H1 → s.vm.Alike t.vm → post r u → B u t → H.size ≤ H1.size → (∀ q : Nat, q < H.size → ¬ A1 q → H1[q]? = H[q]?) → va_S A0 H0 H1 locs1 → W p l e R s m args below meth c H1 locs1 (cells + mc) (slots + ms) Q (F0 m (pc + 3) ls (.long r :: rest))) : W p l e R s m args below meth c H locs cells slots Q (F0 m pc ls st0) := by
  intro T hT X
  rcases hr T hT X with ⟨v, st₀, t, T', L, h0, X', hL, e1, e2, ⟨⟨r, u, hv, hp, hb⟩, hF⟩, st⟩ | ⟨q, st₀, t, T', L, E, ce, h0, X', hL, e1, e2, ⟨u, hp, hb, hF⟩, hce, hcv, hcl, st⟩
  · cases hv
    obtain ⟨k1, k2, k3⟩ := vx_keep h0 e1 hS hA hf hL hF
    obtain ⟨t2, a1, b1⟩ := kk r u t T'.heap (locs ++ L) e1.symm (by rw [← e2]; exact X'.warmed.alike) hp hb k1 k2 k3 T' rfl X'
    exact ⟨t2, st t2 a1, b1⟩
  · obtain ⟨k1, k2, k3⟩ := vx_keep h0 e1 hS hAX hf hL hF
    obtain ⟨t2, a1, b1⟩ := kx E ce q u t T'.heap (locs ++ L) e1.symm (by rw [← e2]; exact X'.warmed.alike) hp hb k1 k2 k3 (by rw [e1]; exact hce) hcv hcl T' rfl X'
    exact ⟨t2, st.trans a1, b1⟩
theorem vx_callf {S SX : Type} {post : UInt32 → S → Prop} {px : SX → Prop} {B : S → State → Prop} {BX : String → SX → State → Prop} {AX : Nat → Prop} (hr : vx_Run p l e R s m args below meth c H locs cells slots mc ms (F0 m pc ls st0) rest (va_Qf post B A1 a) (vx_X px BX AX) free) (hS : va_S A0 H0 H locs) (hA : ∀ q, q < H.size → A1 q → A0 q) (hf : ∀ q, free q → A0 q) (hAX : ∀ q, q < H.size → AX q → A0 q)
    (kx : ∀ (E : String) (ce : Cell) (q9 : Addr) (u : SX) (t : State) (H1 : Heap) (locs1 : List Loc), t.heap = H1 → s.vm.Alike t.vm → px u → BX E u t → H.size ≤ H1.size → (∀ q : Nat, q < H.size → ¬ AX q → H1[q]? = H[q]?) → va_S A0 H0 H1 locs1 → H1[q9]? = some ce → ce.vm = .none → s.vm.findClass E = some ce.cls → vx_W p l e R s m args below meth c H1 locs1 (cells + mc) (slots + ms) Q (F0 m pc ls rest) q9)
    (kk : ∀ (r : UInt32) (u : S) (t : State) (H1 : Heap) (locs1 : List Loc), t.heap = H1 → s.vm.Alike t.vm → post r u → B u t → H.size ≤ H1.size → (∀ q : Nat, q < H.size → ¬ A1 q → H1[q]? = H[q]?) → va_S A0 H0 H1 locs1 → W p l e R s m args below meth c H1 locs1 (cells + mc) (slots + ms) Q (F0 m (pc + 3) ls (.float r :: rest))) : W p l e R s m args below meth c H locs cells slots Q (F0 m pc ls st0) := by
  intro T hT X
  rcases hr T hT X with ⟨v, st₀, t, T', L, h0, X', hL, e1, e2, ⟨⟨r, u, hv, hp, hb⟩, hF⟩, st⟩ | ⟨q, st₀, t, T', L, E, ce, h0, X', hL, e1, e2, ⟨u, hp, hb, hF⟩, hce, hcv, hcl, st⟩
  · cases hv
    obtain ⟨k1, k2, k3⟩ := vx_keep h0 e1 hS hA hf hL hF
    obtain ⟨t2, a1, b1⟩ := kk r u t T'.heap (locs ++ L) e1.symm (by rw [← e2]; exact X'.warmed.alike) hp hb k1 k2 k3 T' rfl X'
    exact ⟨t2, st t2 a1, b1⟩
  · obtain ⟨k1, k2, k3⟩ := vx_keep h0 e1 hS hAX hf hL hF
    obtain ⟨t2, a1, b1⟩ := kx E ce q u t T'.heap (locs ++ L) e1.symm (by rw [← e2]; exact X'.warmed.alike) hp hb k1 k2 k3 (by rw [e1]; exact hce) hcv hcl T' rfl X'
    exact ⟨t2, st.trans a1, b1⟩
theorem vx_calld {S SX : Type} {post : UInt64 → S → Prop} {px : SX → Prop} {B : S → State → Prop} {BX : String → SX → State → Prop} {AX : Nat → Prop} (hr : vx_Run p l e R s m args below meth c H locs cells slots mc ms (F0 m pc ls st0) rest (va_Qd post B A1 a) (vx_X px BX AX) free) (hS : va_S A0 H0 H locs) (hA : ∀ q, q < H.size → A1 q → A0 q) (hf : ∀ q, free q → A0 q) (hAX : ∀ q, q < H.size → AX q → A0 q)
    (kx : ∀ (E : String) (ce : Cell) (q9 : Addr) (u : SX) (t : State) (H1 : Heap) (locs1 : List Loc), t.heap = H1 → s.vm.Alike t.vm → px u → BX E u t → H.size ≤ H1.size → (∀ q : Nat, q < H.size → ¬ AX q → H1[q]? = H[q]?) → va_S A0 H0 H1 locs1 → H1[q9]? = some ce → ce.vm = .none → s.vm.findClass E = some ce.cls → vx_W p l e R s m args below meth c H1 locs1 (cells + mc) (slots + ms) Q (F0 m pc ls rest) q9)
    (kk : ∀ (r : UInt64) (u : S) (t : State) (H1 : Heap) (locs1 : List Loc), t.heap = H1 → s.vm.Alike t.vm → post r u → B u t → H.size ≤ H1.size → (∀ q : Nat, q < H.size → ¬ A1 q → H1[q]? = H[q]?) → va_S A0 H0 H1 locs1 → W p l e R s m args below meth c H1 locs1 (cells + mc) (slots + ms) Q (F0 m (pc + 3) ls (.double r :: rest))) : W p l e R s m args below meth c H locs cells slots Q (F0 m pc ls st0) := by
  intro T hT X
  rcases hr T hT X with ⟨v, st₀, t, T', L, h0, X', hL, e1, e2, ⟨⟨r, u, hv, hp, hb⟩, hF⟩, st⟩ | ⟨q, st₀, t, T', L, E, ce, h0, X', hL, e1, e2, ⟨u, hp, hb, hF⟩, hce, hcv, hcl, st⟩
  · cases hv
    obtain ⟨k1, k2, k3⟩ := vx_keep h0 e1 hS hA hf hL hF
    obtain ⟨t2, a1, b1⟩ := kk r u t T'.heap (locs ++ L) e1.symm (by rw [← e2]; exact X'.warmed.alike) hp hb k1 k2 k3 T' rfl X'
    exact ⟨t2, st t2 a1, b1⟩
  · obtain ⟨k1, k2, k3⟩ := vx_keep h0 e1 hS hAX hf hL hF
    obtain ⟨t2, a1, b1⟩ := kx E ce q u t T'.heap (locs ++ L) e1.symm (by rw [← e2]; exact X'.warmed.alike) hp hb k1 k2 k3 (by rw [e1]; exact hce) hcv hcl T' rfl X'
    exact ⟨t2, st.trans a1, b1⟩
theorem vx_callv {S SX : Type} {post : S → Prop} {px : SX → Prop} {B : S → State → Prop} {BX : String → SX → State → Prop} {AX : Nat → Prop} (hr : vx_Run p l e R s m args below meth c H locs cells slots mc ms (F0 m pc ls st0) rest (va_Qv post B A1 a) (vx_X px BX AX) free) (hS : va_S A0 H0 H locs) (hA : ∀ q, q < H.size → A1 q → A0 q) (hf : ∀ q, free q → A0 q) (hAX : ∀ q, q < H.size → AX q → A0 q)
    (kx : ∀ (E : String) (ce : Cell) (q9 : Addr) (u : SX) (t : State) (H1 : Heap) (locs1 : List Loc), t.heap = H1 → s.vm.Alike t.vm → px u → BX E u t → H.size ≤ H1.size → (∀ q : Nat, q < H.size → ¬ AX q → H1[q]? = H[q]?) → va_S A0 H0 H1 locs1 → H1[q9]? = some ce → ce.vm = .none → s.vm.findClass E = some ce.cls → vx_W p l e R s m args below meth c H1 locs1 (cells + mc) (slots + ms) Q (F0 m pc ls rest) q9)
    (kk : ∀ (u : S) (t : State) (H1 : Heap) (locs1 : List Loc), t.heap = H1 → s.vm.Alike t.vm → post u → B u t → H.size ≤ H1.size → (∀ q : Nat, q < H.size → ¬ A1 q → H1[q]? = H[q]?) → va_S A0 H0 H1 locs1 → W p l e R s m args below meth c H1 locs1 (cells + mc) (slots + ms) Q (F0 m (pc + 3) ls (rest))) : W p l e R s m args below meth c H locs cells slots Q (F0 m pc ls st0) := by
  intro T hT X
  rcases hr T hT X with ⟨v, st₀, t, T', L, h0, X', hL, e1, e2, ⟨⟨u, hv, hp, hb⟩, hF⟩, st⟩ | ⟨q, st₀, t, T', L, E, ce, h0, X', hL, e1, e2, ⟨u, hp, hb, hF⟩, hce, hcv, hcl, st⟩
  · cases hv
    obtain ⟨k1, k2, k3⟩ := vx_keep h0 e1 hS hA hf hL hF
    obtain ⟨t2, a1, b1⟩ := kk u t T'.heap (locs ++ L) e1.symm (by rw [← e2]; exact X'.warmed.alike) hp hb k1 k2 k3 T' rfl X'
    exact ⟨t2, st t2 a1, b1⟩
  · obtain ⟨k1, k2, k3⟩ := vx_keep h0 e1 hS hAX hf hL hF
    obtain ⟨t2, a1, b1⟩ := kx E ce q u t T'.heap (locs ++ L) e1.symm (by rw [← e2]; exact X'.warmed.alike) hp hb k1 k2 k3 (by rw [e1]; exact hce) hcv hcl T' rfl X'
    exact ⟨t2, st.trans a1, b1⟩
theorem vx_catch {own name : String} {E : String} {ce : Cell} {q : Addr} (hown : s.vm.findClass own = some m.cls) (pre : List ExceptionTableEntry) (x : ExceptionTableEntry) (suf : List ExceptionTableEntry) (hsplit : c.exceptionTable.toList = pre ++ x :: suf)
    (hpass : ∀ z ∈ pre, covers z pc = false ∨ (z.catchType ≠ 0 ∧ ∃ nm : String, (Cond.classLink own z.catchType nm).before args s = true ∧ va_Nc E nm s)) (hx : covers x pc = true) (h0 : x.catchType ≠ 0)
    (hlink : (Cond.classLink own x.catchType name).before args s = true) (hcast : (Cond.castable E name).before args s = true) (hcell : H[q]? = some ce) (hv : ce.vm = .none) (hcl : s.vm.findClass E = some ce.cls)
    (kk : W p l e R s m args below meth c H locs cells slots Q (F0 m x.handlerPc ls [.ref q])) : vx_W p l e R s m args below meth c H locs cells slots Q (F0 m pc ls rest) q := by
  intro T hT X
  have hpl : e.platform.magicAccessors = ({} : Platform).magicAccessors := by rw [X.admits.platform]
  obtain ⟨c3, c4, hc3, hc4, hasg⟩ := Cond.castable_spec hcast
  cases Option.some.inj (hc3.symm.trans hcl)
  obtain ⟨c5, hc5, hcl5⟩ := Cond.classLink_spec hown hlink e.platform hpl
  cases Option.some.inj (hc4.symm.trans hc5)
  obtain ⟨vm', X', st⟩ := X.thenCaughtThrough q (g := F0 m pc ls rest) rfl (Steps.refl _) (by rw [hT]; exact hcell) (by rw [hv]; rfl) (by obtain ⟨k9, h9, -⟩ := Vm.findClass_spec hcl; exact ⟨k9, h9⟩) pre x suf hsplit
    (fun z hz => by
      rcases hpass z hz with h | ⟨hz0, nm, hl1, hn1⟩
      · exact Or.inl h
      · obtain ⟨c6, hc6, hcl6⟩ := Cond.classLink_spec hown hl1 e.platform hpl
        obtain ⟨a8, b8, h1, h2, h3⟩ := hn1
        cases Option.some.inj (h1.symm.trans hcl)
        cases Option.some.inj (h2.symm.trans hc6)
        exact Or.inr ⟨hz0, _, hcl6, h3⟩) hx (Or.inr ⟨h0, c4, hcl5, hasg⟩)
  obtain ⟨t, a1, b1⟩ := kk (T.setVm vm') hT X'
  exact ⟨t, st.trans a1, b1⟩
end Rows
section Ends
variable {p : Program} {l : Launch} {e : Env} {R : Room} {s : State} {m : MethodId} {args : Array Value} {below : List Frame} {meth : Method} {c : Code} {H : Heap} {locs : List Loc} {cells slots : Nat} {Q : State → Prop}
variable {mc ms : Nat} {free : Addr → Prop} {A0 A1 : Nat → Prop} {H0 : Heap} {a : Array Value} {ls : Array Slot} {st0 rest : List Value}
variable {Qc : Array Value → State → Outcome → State → Prop} {XC : String → State → State → Prop}
def vx_MQ (below : List Frame) (Qc : Array Value → State → Outcome → State → Prop) (XC : String → State → State → Prop) (a : Array Value) (s : State) (mc ms : Nat) (free : Addr → Prop) : State → Prop := fun t =>
  ∃ o, t.status = .running ∧ Ended t below o ∧ vx_Q Qc XC mc ms free a s o t
theorem vx_ret {g : JFrame} {mc ms : Nat} (k : W p l e R s m args below meth c H locs cells slots (MQ below Qc args s mc ms free) g) : W p l e R s m args below meth c H locs cells slots (vx_MQ below Qc XC args s mc ms free) g := by
  intro T hT X
  obtain ⟨t, a1, o, b1, b2, b3, b4⟩ := k T hT X
  exact ⟨t, a1, o, b1, b2, Or.inl ⟨b3, b4⟩⟩
theorem vx_widen {g : JFrame} {q : Addr} {k n : Nat} (h1 : cells ≤ k) (h2 : slots ≤ n) (kk : vx_W p l e R s m args below meth c H locs k n Q g q) : vx_W p l e R s m args below meth c H locs cells slots Q g q := fun T hT X => kk T hT (stand_widen X h1 h2)
theorem vx_out {pc : Nat} {E : String} {ce : Cell} {q : Addr} {mc ms : Nat} (hout : ∀ x ∈ c.exceptionTable.toList, covers x pc = false) (hlocks : meth.locks = false) (hcell : H[q]? = some ce) (hv : ce.vm = .none) (hcl : s.vm.findClass E = some ce.cls)
    (hx : ∀ t : State, t.heap = H → s.vm.Alike t.vm → XC E s t) (hf : ∀ z ∈ locs, free z.base) (hc : cells ≤ mc) (hs : slots ≤ ms) :
    vx_W p l e R s m args below meth c H locs cells slots (vx_MQ below Qc XC args s mc ms free) (F0 m pc ls rest) q := by
  intro T hT X
  obtain ⟨st1, hrun, hend, hW, hsm⟩ := X.leaveThrown q (g := F0 m pc ls rest) rfl rfl rfl hout hlocks
  have hcell9 : (T.setFrames (.throwing q :: below)).heap[q]? = some ce := by
    show T.heap[q]? = some ce
    rw [hT]; exact hcell
  exact ⟨_, st1, .threw q, hrun, hend, Or.inr ⟨q, rfl, E, ce, locs, hx _ hT hW.alike, hcell9, hv, hcl, hW, hsm.mono hc hs, hf⟩⟩
theorem vx_frame {U : State} {k n : Nat} (h : s.sameButNew ({ U with vm := s.vm } : State) locs k n) : s.heap.size ≤ U.heap.size ∧ ∀ q : Nat, q < s.heap.size → (∀ z ∈ locs, z.base ≠ q) → U.heap[q]? = s.heap[q]? := by
  obtain ⟨-, h2, -, -, -, h6⟩ := h
  refine ⟨h2, fun q hq hz => ?_⟩
  obtain ⟨c9, e1, e2, e3, e4⟩ := h6 q _ (Array.getElem?_eq_getElem hq)
  have hs : c9.slots = (s.heap[q]).slots := Array.ext_getElem? fun i => e4 i fun hm => hz _ hm rfl
  have h9 : c9 = s.heap[q] := by
    rw [hs] at e2
    exact e2
  have e5 : U.heap[q]? = some c9 := e1
  rw [e5, h9, Array.getElem?_eq_getElem hq]
def vx_no (w : Cond) : Bool := decide (w ≠ .isRef (.static Bundle.tN "UNASSIGNED_STACK" Bundle.steD)) && decide (w ≠ .isRef (.static Bundle.tN "SUPPRESSED_SENTINEL" Bundle.listD)) && decide (w ≠ .laysStatic Bundle.tN "UNASSIGNED_STACK" Bundle.steD) && decide (w ≠ .laysStatic Bundle.tN "SUPPRESSED_SENTINEL" Bundle.listD)
def vx_at0 (own : String) (ic : Nat) (X : String) (names : List String) : List Cond := (Bundle.ownAtoms0 own ic X names).filter vx_no
def vx_atS (own : String) (ic : Nat) (X : String) (names : List String) : List Cond := (Bundle.ownAtoms own ic X names).filter vx_no
def vx_ot (w : Cond) : Bool := w.onTables || goodWord w
theorem vx_ot_at {args a' : Array Value} {s U : State} {w : Cond} (hW : s.WarmedH U.vm) (hvm : s.vm = U.vm) (hg : vx_ot w = true) (h : w.before args s = true) : w.before a' U = true := by
  simp only [vx_ot, Bool.or_eq_true] at hg
  rcases hg with hg | hg
  · exact va_tabs hg hvm h
  · exact word_at hW (good_of_word hg) h
theorem vx_hat {args : Array Value} {s : State} {L B : List Cond} (h1 : ∀ w ∈ L.filter goodWord, w.before args s = true) (h2 : ∀ w ∈ L.filter (fun w => !goodWord w), w ∈ B) (h3 : ∀ w ∈ B, w.before args s = true) : ∀ w ∈ L, w.before args s = true := by
  intro w hw
  by_cases g : goodWord w = true
  · exact h1 w (List.mem_filter.mpr ⟨hw, g⟩)
  · refine h3 w (h2 w (List.mem_filter.mpr ⟨hw, ?_⟩))
    show (!goodWord w) = true
    cases hgw : goodWord w
    · rfl
    · exact absurd hgw g
theorem vx_c {args : Array Value} {s : State} {w : Cond} {B : List Cond} (h : w.before args s = true) (t : ∀ w ∈ B, w.before args s = true) : ∀ w' ∈ w :: B, w'.before args s = true := fun w' h' => (List.mem_cons.mp h').elim (fun e => by rw [e]; exact h) (t w')
theorem vx_n {args : Array Value} {s : State} : ∀ w ∈ ([] : List Cond), w.before args s = true := fun _ h => nomatch h
theorem vx_own {args : Array Value} {s : State} {L : List Cond} (h1 : ∀ w ∈ L.filter vx_no, w.before args s = true)
    (hU : (Cond.isRef (.static Bundle.tN "UNASSIGNED_STACK" Bundle.steD)).before args s = true) (hN : (Cond.isRef (.static Bundle.tN "SUPPRESSED_SENTINEL" Bundle.listD)).before args s = true)
    (lU : (Cond.laysStatic Bundle.tN "UNASSIGNED_STACK" Bundle.steD).before args s = true) (lN : (Cond.laysStatic Bundle.tN "SUPPRESSED_SENTINEL" Bundle.listD).before args s = true) : ∀ w ∈ L, w.before args s = true := by
  intro w hw
  by_cases e1 : w = .isRef (.static Bundle.tN "UNASSIGNED_STACK" Bundle.steD)
  · rw [e1]; exact hU
  · by_cases e2 : w = .isRef (.static Bundle.tN "SUPPRESSED_SENTINEL" Bundle.listD)
    · rw [e2]; exact hN
    · by_cases e3 : w = .laysStatic Bundle.tN "UNASSIGNED_STACK" Bundle.steD
      · rw [e3]; exact lU
      · by_cases e4 : w = .laysStatic Bundle.tN "SUPPRESSED_SENTINEL" Bundle.listD
        · rw [e4]; exact lN
        · exact h1 w (List.mem_filter.mpr ⟨hw, by unfold vx_no; rw [decide_eq_true e1, decide_eq_true e2, decide_eq_true e3, decide_eq_true e4]; rfl⟩)
def vx_L (C n d : String) (A : Nat → Prop) (U : State) (H : Heap) : Prop := ∃ (c : ClassId) (k : Class) (i : Nat) (f : Field) (a : Nat) (cell : Cell), U.vm.findClass C = some c ∧ U.fieldFound? C n d = some (c, k, i, f) ∧ f.isStatic = true ∧ k.statics = some a ∧ H[a]? = some cell ∧ cell.vm.isStatics = true ∧ cell.cls = c ∧ f.slot < cell.slots.size ∧ k.staticTypes[f.slot]? = some f.type ∧ ¬ A a
theorem vx_L.moved {C n d : String} {A : Nat → Prop} {u U : State} {H : Heap} (hvm : u.vm.Alike U.vm) (h : vx_L C n d A u H) : vx_L C n d A U H := by
  obtain ⟨c, k, i, f, a, cell, h1, h2, h3, h4, h5, h6, h7, h8, h9, h10⟩ := h
  obtain ⟨k', hi', he⟩ := State.fieldFound?_setVm hvm h2
  exact ⟨c, k', i, f, a, cell, by rw [hvm.findClass]; exact h1, hi', h3, by rw [he]; exact h4, h5, h6, h7, h8, by rw [he]; exact h9, h10⟩
theorem vx_L.kept {C n d : String} {A : Nat → Prop} {U : State} {H H1 : Heap} (h : vx_L C n d A U H) (hq : ∀ a : Nat, a < H.size → ¬ A a → H1[a]? = H[a]?) : vx_L C n d A U H1 := by
  obtain ⟨c, k, i, f, a, cell, h1, h2, h3, h4, h5, h6, h7, h8, h9, h10⟩ := h
  exact ⟨c, k, i, f, a, cell, h1, h2, h3, h4, by rw [hq a (Array.getElem?_eq_some_iff.mp h5).1 h10]; exact h5, h6, h7, h8, h9, h10⟩
theorem vx_L.narrow {C n d : String} {A B : Nat → Prop} {U : State} {H : Heap} (h : vx_L C n d A U H) (hAB : ∀ q, B q → A q) : vx_L C n d B U H := by
  obtain ⟨c, k, i, f, a, cell, h1, h2, h3, h4, h5, h6, h7, h8, h9, h10⟩ := h
  exact ⟨c, k, i, f, a, cell, h1, h2, h3, h4, h5, h6, h7, h8, h9, fun z => h10 (hAB _ z)⟩
theorem vx_L.word {C n d : String} {A : Nat → Prop} {s : State} {args : Array Value} (h : vx_L C n d A s s.heap) : (Cond.laysStatic C n d).before args s = true := by
  obtain ⟨c, k, i, f, a, cell, h1, h2, h3, h4, h5, h6, h7, h8, h9, -⟩ := h
  show (Cond.laysStatic C n d).holds args s none s [] = true
  exact Cond.laysStatic_of h1 h2 h3 h4 h5 h6 h7 h8 h9
def vx_Zq (C n d : String) (A : Nat → Prop) (U : State) (H : Heap) : Prop := va_Zq C n d A U H ∧ vx_L C n d A U H
theorem vx_Zq.moved {C n d : String} {A : Nat → Prop} {u U : State} {H : Heap} (hvm : u.vm.Alike U.vm) (h : vx_Zq C n d A u H) : vx_Zq C n d A U H := ⟨va_Zq.moved hvm h.1, vx_L.moved hvm h.2⟩
theorem vx_Zq.kept {C n d : String} {A : Nat → Prop} {U : State} {H H1 : Heap} (h : vx_Zq C n d A U H) (hq : ∀ a : Nat, a < H.size → ¬ A a → H1[a]? = H[a]?) : vx_Zq C n d A U H1 := ⟨va_Zq.kept h.1 hq, vx_L.kept h.2 hq⟩
theorem vx_Zq.narrow {C n d : String} {A B : Nat → Prop} {U : State} {H : Heap} (h : vx_Zq C n d A U H) (hAB : ∀ q, B q → A q) : vx_Zq C n d B U H := ⟨va_Zq.narrow h.1 hAB, vx_L.narrow h.2 hAB⟩
theorem vx_Zqof {args : Array Value} {s : State} {C n d : String} {A : Nat → Prop} (hl : (Cond.laysStatic C n d).before args s = true) (hini : (Cond.initialized C).before args s = true) (h : (Cond.isRef (.static C n d)).before args s = true) (hA : ∀ a : Nat, a < s.heap.size → ¬ A a) : vx_Zq C n d A s s.heap := by
  refine ⟨va_Zqof hl hini h hA, ?_⟩
  obtain ⟨c, k, i, f, a, cell, h1, h2, h3, h4, h5, h6, h7, h8, h9⟩ := Cond.laysStatic_spec hl
  exact ⟨c, k, i, f, a, cell, h1, h2, h3, h4, h5, h6, h7, h8, h9, hA a (Array.getElem?_eq_some_iff.mp h5).1⟩
theorem vx_isRef {C n d : String} {v : Value} {A : Nat → Prop} {s : State} {args : Array Value} (h : va_Z C n d v A s s.heap) (hv : v.isRef = true) : (Cond.isRef (.static C n d)).before args s = true := by
  obtain ⟨cf, kf, fi, f, a, cell, h1, h2, h3, h4, h5, h6, h7, -⟩ := h
  have he : (Term.static C n d).eval args s none [] s = some v := by
    simp [Term.eval, State.fieldNamed?, h1, h2, h4, h5, h6, h7]
  simp only [Cond.before, Cond.holds, Cond.value, he]
  cases v <;> simp_all [Value.isRef]
theorem vx_isRefq {C n d : String} {A : Nat → Prop} {s : State} {args : Array Value} (h : va_Zq C n d A s s.heap) : (Cond.isRef (.static C n d)).before args s = true := by
  rcases h with h | ⟨t, h⟩
  · exact vx_isRef h rfl
  · exact vx_isRef h rfl
theorem vx_rebase {T : State} (X : Stand p l e R s m args below meth c T locs cells slots) {R' : Room} (hf : R'.frames ≤ R.frames) (hl : R'.locals ≤ R.locals) (hc : cells + R'.cells ≤ R.cells) (hs : slots + R'.slots ≤ R.slots) :
    Stand p l e R' ((T.setVm s.vm).setFrames (.invoking m args :: below)) m args below meth c T [] 0 0 := by
  have htop : (T.setVm s.vm).topJava?.isSome := X.here.top
  have hF : ((T.setVm s.vm).setFrames (.invoking m args :: below)).frames = .invoking m args :: below := State.frames_setFrames _ (State.cur_lt_of_top htop)
  obtain ⟨g₀, hg0⟩ := Option.isSome_iff_exists.mp htop
  obtain ⟨r, hr⟩ := State.topJava?_eq_some.mp hg0
  have hl9 : e.platform.stackLimits (T.setVm s.vm).me = e.platform.stackLimits s.me := X.limits
  have hb9 : (T.setVm s.vm).me.stackBytes = s.me.stackBytes := X.bytes
  refine ⟨X.admits, X.cas, X.clock, hF, ?_, X.hears, X.method, X.code, X.here, X.tail, X.warmed, ?_, ?_, ?_⟩
  · have h := X.room
    have hU : ((T.setVm s.vm).setFrames (.invoking m args :: below)).localsInUse = s.localsInUse := by
      rw [State.localsInUse_invoking hF (meth := meth) (c := c) X.method X.code, State.localsInUse_invoking X.frames X.method X.code]
    simp only [State.hasRoom, Bool.and_eq_true, decide_eq_true_eq] at h ⊢
    obtain ⟨⟨⟨⟨h1, h2, h3, h4, h5, h6⟩, h7⟩, h8⟩, h9⟩ := h
    rw [X.frames, List.length_cons] at h2 h3
    have q1 := X.heapSize
    have q2 := X.used
    simp only [hF, hU, List.length_cons, State.stackLimits_setFrames, State.stackBytes_setFrames, hl9, hb9]
    refine ⟨⟨⟨⟨by omega, by omega, by omega, by omega, by omega, h6⟩, ?_⟩, ?_⟩, X.book⟩
    · show T.heap.size + R'.cells ≤ e.platform.maxCells
      omega
    · show T.slotsUsed + R'.slots ≤ e.platform.maxSlots
      omega
  · rw [State.stackLimits_setFrames]; rfl
  · rw [State.stackBytes_setFrames]; rfl
  · refine ⟨?_, Nat.le_refl _, Nat.le_refl _, ?_, ?_, fun a c9 h9 => ⟨c9, h9, rfl, rfl, fun _ _ => rfl⟩⟩
    · obtain ⟨t, ht, -⟩ := State.frames_cons hr
      show T.setVm s.vm = { ((T.setVm s.vm).setFrames (.invoking m args :: below)).setFrames (T.setVm s.vm).frames with heap := T.heap, slotsUsed := T.slotsUsed }
      rw [State.setFrames_setFrames, State.setFrames_self ht]
      rfl
    · show T.slotsUsed = T.slotsUsed + ((T.heap.toList.drop T.heap.size).map (·.slots.size)).sum
      rw [List.drop_eq_nil_of_le (Nat.le_of_eq Array.length_toList)]
      rfl
    · show ((T.heap.toList.drop T.heap.size).map (·.slots.size)).sum ≤ 0
      rw [List.drop_eq_nil_of_le (Nat.le_of_eq Array.length_toList)]
      exact Nat.le_refl _
theorem vx_throw0 {cc : ByteArray} {pc : Nat} (hexec : p.tables.exec = Jvm.exec) (hb : c.code = cc) (hl : l.stackTraces = false) {own cls : String} {names : List String} {ik ic mc ms : Nat} {A : Nat → Prop}
    (hown : s.vm.findClass own = some m.cls) (hcls : Bundle.fit cls = true) (hnames : ∀ n ∈ names, Bundle.fit n = true)
    (hk : (Cond.classLink own ik cls).before args s = true) (hini : (Cond.initialized cls).before args s = true) (hat : ∀ w ∈ vx_at0 own ic cls names, w.before args s = true)
    (hgood : ∀ w ∈ Cond.classLink own ik cls :: Cond.initialized cls :: vx_at0 own ic cls names, vx_ot w = true)
    (hU : vx_Zq Bundle.tN "UNASSIGNED_STACK" Bundle.steD A s s.heap) (hN : vx_Zq Bundle.tN "SUPPRESSED_SENTINEL" Bundle.listD A s s.heap) (hS : va_S A s.heap H locs) (hsize : ls.size = c.maxLocals)
    (d0 : decode cc pc = .ok (.new ik, 3)) (d3 : decode cc (pc + 3) = .ok (.dup, 1)) (d4 : decode cc (pc + 4) = .ok (.invokespecial ic, 3)) (d7 : decode cc (pc + 7) = .ok (.athrow, 1))
    (hout : ∀ x ∈ c.exceptionTable.toList, covers x (pc + 7) = false)
    (hRframes : names.length + 3 < R.frames) (hRlocals : (rest.map fun v => v.category).sum + (13 * (names.length + 1) + 42) ≤ R.locals) (hRcells : cells + 1 ≤ R.cells) (hRslots : slots + 6 ≤ R.slots) (hlocks : meth.locks = false)
    (hx : ∀ t : State, s.vm.Alike t.vm → H.size ≤ t.heap.size → (∀ q : Nat, q < H.size → t.heap[q]? = H[q]?) → XC cls s t)
    (hf : ∀ z ∈ locs, free z.base) (hc : cells + 1 ≤ mc) (hs : slots + 6 ≤ ms) :
    W p l e R s m args below meth c H locs cells slots (vx_MQ below Qc XC args s mc ms free) (F0 m pc ls rest) := by
  intro T hT X
  have htr : e.platform.stackTraces = false := (show e.platform.stackTraces = l.stackTraces by rw [X.admits.platform]).trans hl
  have Y := vx_rebase X (R' := { frames := R.frames, locals := R.locals, cells := 1, slots := 6 }) (Nat.le_refl _) (Nat.le_refl _) hRcells hRslots
  obtain ⟨s', hA⟩ : ∃ z, z = (T.setVm s.vm).setFrames (.invoking m args :: below) := ⟨_, rfl⟩
  rw [← hA] at Y
  have hvm : s'.vm = s.vm := by rw [hA]; rfl
  have hhp : s'.heap = H := by rw [hA]; exact hT
  have hW0 : s.WarmedH s'.vm := by rw [hvm]; exact State.WarmedH.refl s
  have hat' : ∀ w ∈ vx_at0 own ic cls names, w.before args s' = true := fun w hw => vx_ot_at hW0 hvm.symm (hgood w (List.mem_cons_of_mem _ (List.mem_cons_of_mem _ hw))) (hat w hw)
  have hk' : (Cond.classLink own ik cls).before args s' = true := vx_ot_at hW0 hvm.symm (hgood _ List.mem_cons_self) hk
  have hini' : (Cond.initialized cls).before args s' = true := vx_ot_at hW0 hvm.symm (hgood _ (List.mem_cons_of_mem _ List.mem_cons_self)) hini
  have hU' : vx_Zq Bundle.tN "UNASSIGNED_STACK" Bundle.steD A s' s'.heap := by rw [hhp]; exact vx_Zq.moved hW0.alike (hU.kept hS.2.1)
  have hN' : vx_Zq Bundle.tN "SUPPRESSED_SENTINEL" Bundle.listD A s' s'.heap := by rw [hhp]; exact vx_Zq.moved hW0.alike (hN.kept hS.2.1)
  have h : ∀ w ∈ Bundle.ownAtoms0 own ic cls names, w.before args s' = true := vx_own hat' (vx_isRefq hU'.1) (vx_isRefq hN'.1) hU'.2.word hN'.2.word
  have hown' : s'.vm.findClass own = some m.cls := by rw [hvm]; exact hown
  have hins : (Cond.instantiable cls 6).before args s' = true := h _ (by simp [Bundle.ownAtoms0])
  obtain ⟨vm₁, cX, kX, hfX, hkX, -, -, X₁, st1⟩ := Y.newCold hexec (own := own) (C := cls) (index := ik) (n := 6) hown' hk' hins hini'
    (g := F0 m pc ls rest) rfl (by rw [hb]; exact d0) (Nat.le_refl _) (Nat.le_refl _)
  generalize hT1 : (T.setVm vm₁).pushCell { cls := cX, slots := kX.instanceTypes.map defaultValue, vm := .none } = T1 at X₁ st1
  have hcat : (Value.ref T.heap.size).category = 1 := rfl
  have hcellA : T1.heap[T.heap.size]? = some (freshCell cX kX) := by rw [← hT1]; exact State.heap_pushCell_size _ _
  have d3' : decode c.code (pc + 3) = .ok (.dup, 1) := by rw [hb]; exact d3
  obtain ⟨U, hsteps, hrun, hend, hW, hsame, ce, hce, hO⟩ := X₁.ctorThrow0 hexec htr (own := own) (cls := cls) (names := names) (ic := ic) hown' hcls hnames h (fun x hx => nomatch hx) hfX hkX hcellA (by rw [hhp, hT]; exact Nat.le_refl _)
    (g := { method := m, pc := pc + 4, locals := ls, stack := .ref T.heap.size :: .ref T.heap.size :: rest, locked := none }) rfl hsize rfl rfl (rest := rest) rfl
    (by rw [hb]; exact d4) (by rw [hb]; exact d7) hout hRframes (by simp only [List.map_cons, List.sum_cons, hcat]; omega) hlocks
  obtain ⟨f1, f2⟩ := vx_frame hsame
  rw [hhp] at f1 f2
  have hWs : s.WarmedH U.vm := State.WarmedH.trans hW0 hW
  have hcl : s.vm.findClass cls = some ce.cls := by
    have h9 := hO.cls
    rw [hvm] at h9
    exact h9
  have hall : s.sameButNew ({ U with vm := s.vm } : State) locs mc ms := by
    subst hA
    obtain ⟨e1, e2⟩ := hsame
    rw [State.setFrames_setFrames] at e1
    have h2 : (T.setVm s.vm).sameButNew ({ U with vm := s.vm } : State) [] (0 + 1) (0 + 6) := ⟨e1, e2⟩
    have h3 := X.same.trans h2
    rw [List.append_nil] at h3
    exact h3.mono hc hs
  refine ⟨U, ?_, .threw T.heap.size, hrun, hend, Or.inr ⟨T.heap.size, rfl, cls, ce, locs, hx U hWs.alike f1 (fun q hq => f2 q hq (fun z hz => nomatch hz)), hce, hO.vm, hcl, hWs, hall, hf⟩⟩
  refine st1 _ ?_
  show Steps p.tables e below (T1.setTop { method := m, pc := pc + 3, locals := ls, stack := .ref T.heap.size :: rest, locked := none }) _
  jvm_step X₁.here [X₁.here.top, hexec, d3', Value.category]
  exact hsteps
theorem vx_throwS {cc : ByteArray} {pc : Nat} (hexec : p.tables.exec = Jvm.exec) (hb : c.code = cc) (hl : l.stackTraces = false) {own cls text : String} {names : List String} {ik is ic mc ms sa : Nat} {A : Nat → Prop}
    (hown : s.vm.findClass own = some m.cls) (hcls : Bundle.fit cls = true) (hnames : ∀ n ∈ names, Bundle.fit n = true)
    (hk : (Cond.classLink own ik cls).before args s = true) (hini : (Cond.initialized cls).before args s = true) (hstr : vk_R own is text sa s) (hat : ∀ w ∈ vx_atS own ic cls names, w.before args s = true)
    (hgood : ∀ w ∈ Cond.classLink own ik cls :: Cond.initialized cls :: vx_atS own ic cls names, vx_ot w = true)
    (hU : vx_Zq Bundle.tN "UNASSIGNED_STACK" Bundle.steD A s s.heap) (hN : vx_Zq Bundle.tN "SUPPRESSED_SENTINEL" Bundle.listD A s s.heap) (hS : va_S A s.heap H locs) (hsize : ls.size = c.maxLocals)
    (d0 : decode cc pc = .ok (.new ik, 3)) (d3 : decode cc (pc + 3) = .ok (.dup, 1)) (d4 : decode cc (pc + 4) = .ok (.ldc is, 2)) (d6 : decode cc (pc + 6) = .ok (.invokespecial ic, 3)) (d9 : decode cc (pc + 9) = .ok (.athrow, 1))
    (hout : ∀ x ∈ c.exceptionTable.toList, covers x (pc + 9) = false)
    (hRframes : names.length + 3 < R.frames) (hRlocals : (rest.map fun v => v.category).sum + (13 * (names.length + 1) + 43) ≤ R.locals) (hRcells : cells + 1 ≤ R.cells) (hRslots : slots + 6 ≤ R.slots) (hlocks : meth.locks = false)
    (hx : ∀ t : State, s.vm.Alike t.vm → H.size ≤ t.heap.size → (∀ q : Nat, q < H.size → t.heap[q]? = H[q]?) → XC cls s t)
    (hf : ∀ z ∈ locs, free z.base) (hc : cells + 1 ≤ mc) (hs : slots + 6 ≤ ms) :
    W p l e R s m args below meth c H locs cells slots (vx_MQ below Qc XC args s mc ms free) (F0 m pc ls rest) := by
  intro T hT X
  have htr : e.platform.stackTraces = false := (show e.platform.stackTraces = l.stackTraces by rw [X.admits.platform]).trans hl
  have Y := vx_rebase X (R' := { frames := R.frames, locals := R.locals, cells := 1, slots := 6 }) (Nat.le_refl _) (Nat.le_refl _) hRcells hRslots
  obtain ⟨s', hA⟩ : ∃ z, z = (T.setVm s.vm).setFrames (.invoking m args :: below) := ⟨_, rfl⟩
  rw [← hA] at Y
  have hvm : s'.vm = s.vm := by rw [hA]; rfl
  have hhp : s'.heap = H := by rw [hA]; exact hT
  have hW0 : s.WarmedH s'.vm := by rw [hvm]; exact State.WarmedH.refl s
  have hat' : ∀ w ∈ vx_atS own ic cls names, w.before args s' = true := fun w hw => vx_ot_at hW0 hvm.symm (hgood w (List.mem_cons_of_mem _ (List.mem_cons_of_mem _ hw))) (hat w hw)
  have hk' : (Cond.classLink own ik cls).before args s' = true := vx_ot_at hW0 hvm.symm (hgood _ List.mem_cons_self) hk
  have hini' : (Cond.initialized cls).before args s' = true := vx_ot_at hW0 hvm.symm (hgood _ (List.mem_cons_of_mem _ List.mem_cons_self)) hini
  have hU' : vx_Zq Bundle.tN "UNASSIGNED_STACK" Bundle.steD A s' s'.heap := by rw [hhp]; exact vx_Zq.moved hW0.alike (hU.kept hS.2.1)
  have hN' : vx_Zq Bundle.tN "SUPPRESSED_SENTINEL" Bundle.listD A s' s'.heap := by rw [hhp]; exact vx_Zq.moved hW0.alike (hN.kept hS.2.1)
  have h : ∀ w ∈ Bundle.ownAtoms own ic cls names, w.before args s' = true := vx_own hat' (vx_isRefq hU'.1) (vx_isRefq hN'.1) hU'.2.word hN'.2.word
  have hown' : s'.vm.findClass own = some m.cls := by rw [hvm]; exact hown
  have hins : (Cond.instantiable cls 6).before args s' = true := h _ (by simp [Bundle.ownAtoms])
  obtain ⟨vm₁, cX, kX, hfX, hkX, -, -, X₁, st1⟩ := Y.newCold hexec (own := own) (C := cls) (index := ik) (n := 6) hown' hk' hins hini'
    (g := F0 m pc ls rest) rfl (by rw [hb]; exact d0) (Nat.le_refl _) (Nat.le_refl _)
  generalize hT1 : (T.setVm vm₁).pushCell { cls := cX, slots := kX.instanceTypes.map defaultValue, vm := .none } = T1 at X₁ st1
  have hcat : (Value.ref T.heap.size).category = 1 := rfl
  have hcellA : T1.heap[T.heap.size]? = some (freshCell cX kX) := by rw [← hT1]; exact State.heap_pushCell_size _ _
  have d3' : decode c.code (pc + 3) = .ok (.dup, 1) := by rw [hb]; exact d3
  have d4' : decode c.code (pc + 4) = .ok (.ldc is, 2) := by rw [hb]; exact d4
  have hstr' : vk_R own is text sa s' := vk_R.warm hW0 hstr
  obtain ⟨U, hsteps, hrun, hend, hW, hsame, ce, hce, hO⟩ := X₁.ctorThrowS hexec htr (own := own) (cls := cls) (names := names) (ic := ic) hown' hcls hnames h (fun x hx => nomatch hx) hfX hkX hcellA (by rw [hhp, hT]; exact Nat.le_refl _) (msg := .ref sa) rfl
    (g := { method := m, pc := pc + 6, locals := ls, stack := .ref sa :: .ref T.heap.size :: .ref T.heap.size :: rest, locked := none }) rfl hsize rfl rfl (rest := rest) rfl
    (by rw [hb]; exact d6) (by rw [hb]; exact d9) hout hRframes (by simp only [List.map_cons, List.sum_cons, hcat]; omega) hlocks
  obtain ⟨f1, f2⟩ := vx_frame hsame
  rw [hhp] at f1 f2
  have hWs : s.WarmedH U.vm := State.WarmedH.trans hW0 hW
  have hcl : s.vm.findClass cls = some ce.cls := by
    have h9 := hO.cls
    rw [hvm] at h9
    exact h9
  have hall : s.sameButNew ({ U with vm := s.vm } : State) locs mc ms := by
    subst hA
    obtain ⟨e1, e2⟩ := hsame
    rw [State.setFrames_setFrames] at e1
    have h2 : (T.setVm s.vm).sameButNew ({ U with vm := s.vm } : State) [] (0 + 1) (0 + 6) := ⟨e1, e2⟩
    have h3 := X.same.trans h2
    rw [List.append_nil] at h3
    exact h3.mono hc hs
  refine ⟨U, ?_, .threw T.heap.size, hrun, hend, Or.inr ⟨T.heap.size, rfl, cls, ce, locs, hx U hWs.alike f1 (fun q hq => f2 q hq (fun z hz => nomatch hz)), hce, hO.vm, hcl, hWs, hall, hf⟩⟩
  refine st1 _ ?_
  show Steps p.tables e below (T1.setTop { method := m, pc := pc + 3, locals := ls, stack := .ref T.heap.size :: rest, locked := none }) _
  jvm_step X₁.here [X₁.here.top, hexec, d3', Value.category]
  exact X₁.ldcString hexec (own := own) (text := text) (index := is) (a := sa) hown' hstr'.1 hstr'.2
    (g := { method := m, pc := pc + 4, locals := ls, stack := .ref T.heap.size :: .ref T.heap.size :: rest, locked := none }) rfl d4' _ hsteps
theorem vx_throwSW {cc : ByteArray} {pc : Nat} (hexec : p.tables.exec = Jvm.exec) (hb : c.code = cc) (hl : l.stackTraces = false) {own cls text : String} {names : List String} {ik is ic mc ms sa : Nat} {A : Nat → Prop}
    (hown : s.vm.findClass own = some m.cls) (hcls : Bundle.fit cls = true) (hnames : ∀ n ∈ names, Bundle.fit n = true)
    (hk : (Cond.classLink own ik cls).before args s = true) (hini : (Cond.initialized cls).before args s = true) (hstr : vk_R own is text sa s) (hat : ∀ w ∈ vx_atS own ic cls names, w.before args s = true)
    (hgood : ∀ w ∈ Cond.classLink own ik cls :: Cond.initialized cls :: vx_atS own ic cls names, vx_ot w = true)
    (hU : vx_Zq Bundle.tN "UNASSIGNED_STACK" Bundle.steD A s s.heap) (hN : vx_Zq Bundle.tN "SUPPRESSED_SENTINEL" Bundle.listD A s s.heap) (hS : va_S A s.heap H locs) (hsize : ls.size = c.maxLocals)
    (d0 : decode cc pc = .ok (.new ik, 3)) (d3 : decode cc (pc + 3) = .ok (.dup, 1)) (d4 : decode cc (pc + 4) = .ok (.ldc_w is, 3)) (d7 : decode cc (pc + 7) = .ok (.invokespecial ic, 3)) (d10 : decode cc (pc + 10) = .ok (.athrow, 1))
    (hout : ∀ x ∈ c.exceptionTable.toList, covers x (pc + 10) = false)
    (hRframes : names.length + 3 < R.frames) (hRlocals : (rest.map fun v => v.category).sum + (13 * (names.length + 1) + 43) ≤ R.locals) (hRcells : cells + 1 ≤ R.cells) (hRslots : slots + 6 ≤ R.slots) (hlocks : meth.locks = false)
    (hx : ∀ t : State, s.vm.Alike t.vm → H.size ≤ t.heap.size → (∀ q : Nat, q < H.size → t.heap[q]? = H[q]?) → XC cls s t)
    (hf : ∀ z ∈ locs, free z.base) (hc : cells + 1 ≤ mc) (hs : slots + 6 ≤ ms) :
    W p l e R s m args below meth c H locs cells slots (vx_MQ below Qc XC args s mc ms free) (F0 m pc ls rest) := by
  intro T hT X
  have htr : e.platform.stackTraces = false := (show e.platform.stackTraces = l.stackTraces by rw [X.admits.platform]).trans hl
  have Y := vx_rebase X (R' := { frames := R.frames, locals := R.locals, cells := 1, slots := 6 }) (Nat.le_refl _) (Nat.le_refl _) hRcells hRslots
  obtain ⟨s', hA⟩ : ∃ z, z = (T.setVm s.vm).setFrames (.invoking m args :: below) := ⟨_, rfl⟩
  rw [← hA] at Y
  have hvm : s'.vm = s.vm := by rw [hA]; rfl
  have hhp : s'.heap = H := by rw [hA]; exact hT
  have hW0 : s.WarmedH s'.vm := by rw [hvm]; exact State.WarmedH.refl s
  have hat' : ∀ w ∈ vx_atS own ic cls names, w.before args s' = true := fun w hw => vx_ot_at hW0 hvm.symm (hgood w (List.mem_cons_of_mem _ (List.mem_cons_of_mem _ hw))) (hat w hw)
  have hk' : (Cond.classLink own ik cls).before args s' = true := vx_ot_at hW0 hvm.symm (hgood _ List.mem_cons_self) hk
  have hini' : (Cond.initialized cls).before args s' = true := vx_ot_at hW0 hvm.symm (hgood _ (List.mem_cons_of_mem _ List.mem_cons_self)) hini
  have hU' : vx_Zq Bundle.tN "UNASSIGNED_STACK" Bundle.steD A s' s'.heap := by rw [hhp]; exact vx_Zq.moved hW0.alike (hU.kept hS.2.1)
  have hN' : vx_Zq Bundle.tN "SUPPRESSED_SENTINEL" Bundle.listD A s' s'.heap := by rw [hhp]; exact vx_Zq.moved hW0.alike (hN.kept hS.2.1)
  have h : ∀ w ∈ Bundle.ownAtoms own ic cls names, w.before args s' = true := vx_own hat' (vx_isRefq hU'.1) (vx_isRefq hN'.1) hU'.2.word hN'.2.word
  have hown' : s'.vm.findClass own = some m.cls := by rw [hvm]; exact hown
  have hins : (Cond.instantiable cls 6).before args s' = true := h _ (by simp [Bundle.ownAtoms])
  obtain ⟨vm₁, cX, kX, hfX, hkX, -, -, X₁, st1⟩ := Y.newCold hexec (own := own) (C := cls) (index := ik) (n := 6) hown' hk' hins hini'
    (g := F0 m pc ls rest) rfl (by rw [hb]; exact d0) (Nat.le_refl _) (Nat.le_refl _)
  generalize hT1 : (T.setVm vm₁).pushCell { cls := cX, slots := kX.instanceTypes.map defaultValue, vm := .none } = T1 at X₁ st1
  have hcat : (Value.ref T.heap.size).category = 1 := rfl
  have hcellA : T1.heap[T.heap.size]? = some (freshCell cX kX) := by rw [← hT1]; exact State.heap_pushCell_size _ _
  have d3' : decode c.code (pc + 3) = .ok (.dup, 1) := by rw [hb]; exact d3
  have d4' : decode c.code (pc + 4) = .ok (.ldc_w is, 3) := by rw [hb]; exact d4
  have hstr' : vk_R own is text sa s' := vk_R.warm hW0 hstr
  obtain ⟨U, hsteps, hrun, hend, hW, hsame, ce, hce, hO⟩ := X₁.ctorThrowS hexec htr (own := own) (cls := cls) (names := names) (ic := ic) hown' hcls hnames h (fun x hx => nomatch hx) hfX hkX hcellA (by rw [hhp, hT]; exact Nat.le_refl _) (msg := .ref sa) rfl
    (g := { method := m, pc := pc + 7, locals := ls, stack := .ref sa :: .ref T.heap.size :: .ref T.heap.size :: rest, locked := none }) rfl hsize rfl rfl (rest := rest) rfl
    (by rw [hb]; exact d7) (by rw [hb]; exact d10) hout hRframes (by simp only [List.map_cons, List.sum_cons, hcat]; omega) hlocks
  obtain ⟨f1, f2⟩ := vx_frame hsame
  rw [hhp] at f1 f2
  have hWs : s.WarmedH U.vm := State.WarmedH.trans hW0 hW
  have hcl : s.vm.findClass cls = some ce.cls := by
    have h9 := hO.cls
    rw [hvm] at h9
    exact h9
  have hall : s.sameButNew ({ U with vm := s.vm } : State) locs mc ms := by
    subst hA
    obtain ⟨e1, e2⟩ := hsame
    rw [State.setFrames_setFrames] at e1
    have h2 : (T.setVm s.vm).sameButNew ({ U with vm := s.vm } : State) [] (0 + 1) (0 + 6) := ⟨e1, e2⟩
    have h3 := X.same.trans h2
    rw [List.append_nil] at h3
    exact h3.mono hc hs
  refine ⟨U, ?_, .threw T.heap.size, hrun, hend, Or.inr ⟨T.heap.size, rfl, cls, ce, locs, hx U hWs.alike f1 (fun q hq => f2 q hq (fun z hz => nomatch hz)), hce, hO.vm, hcl, hWs, hall, hf⟩⟩
  refine st1 _ ?_
  show Steps p.tables e below (T1.setTop { method := m, pc := pc + 3, locals := ls, stack := .ref T.heap.size :: rest, locked := none }) _
  jvm_step X₁.here [X₁.here.top, hexec, d3', Value.category]
  exact X₁.ldcStringW hexec (own := own) (text := text) (index := is) (a := sa) hown' hstr'.1 hstr'.2
    (g := { method := m, pc := pc + 4, locals := ls, stack := .ref T.heap.size :: .ref T.heap.size :: rest, locked := none }) rfl d4' _ hsteps
end Ends
section Bodies
variable {l : Launch}
theorem vx_ofW {y : MethodName} {ws ws' : List Cond} {rm : Room} {Pc : Array Value → State → Prop} {Qc : Array Value → State → Outcome → State → Prop} {XC : String → State → State → Prop} {mc ms : Nat} {free : Addr → Prop} {cc : ByteArray} {maxL : Nat} {ret : Option FieldType}
    (hy : plainName y.cls = true) (hw : ws = Cond.code y cc maxL ret :: ws')
    (body : ∀ p e s m args below meth c s₁, BodyLoose p l y (headSpec ws rm) cc maxL ret e s m args below meth c s₁ → c.maxLocals = maxL → (∀ x ∈ c.exceptionTable.toList, False) → Pc args s →
      W p l e (headSpec ws rm).room s m args below meth c s.heap [] 0 0 (vx_MQ below Qc XC args s mc ms free) (entryFrame m args maxL)) : vx_Met l y ws rm Pc Qc XC mc ms free := by
  refine MetFree.of_bodyS (code := cc) (maxLocals := maxL) (ret := ret) hy ?_ ?_
  · intro args s m h hn
    obtain ⟨meth, c, h1, h2, h3, h4, h5, h6, -, -⟩ := Cond.code_spec hn (atoms_spec (ws := ws) h _ (by rw [hw]; exact List.mem_cons_self))
    exact ⟨meth, c, h1, h2, h3, h4, h5, h6⟩
  · intro p e s m args below meth c s₁ B hml hP _
    have hh0 : s₁.heap = s.heap := by rw [B.state]; rfl
    have ht : ∀ x ∈ c.exceptionTable.toList, False := by
      obtain ⟨meth9, c9, h1, h2, -, -, -, -, h7, -⟩ := Cond.code_spec B.named (atoms_spec (ws := ws) B.pre _ (by rw [hw]; exact List.mem_cons_self))
      cases Option.some.inj (h1.symm.trans B.method)
      cases Option.some.inj (h2.symm.trans (Stand.of_body B).code)
      intro x hx
      rw [Array.isEmpty_iff.mp h7] at hx
      cases hx
    obtain ⟨t, a1, o, b1, b2, b3⟩ := body p e s m args below meth c s₁ B hml ht hP s₁ hh0 (Stand.of_body B)
    exact ⟨t, o, a1, b1, b2, b3⟩
theorem vx_table {p : Program} {x y : MethodName} {S : Spec} {cc bytes : ByteArray} {maxL maxL' : Nat} {ret ret' : Option FieldType} {e : Env} {s s₁ : State} {m : MethodId} {args : Array Value} {below : List Frame} {meth : Method} {c : Code} {hh : List (Nat × Nat × Nat × Nat)}
    (B : BodyLoose p l y S cc maxL ret e s m args below meth c s₁) (h : (Cond.codeWith y bytes maxL' ret' hh).before args s = true) : c.exceptionTable.toList = tableOf hh := by
  obtain ⟨m9, meth9, c9, hn9, h1, h2, -, -, h6, -⟩ := Cond.codeWith_spec h
  cases Option.some.inj (hn9.symm.trans B.named)
  cases Option.some.inj (h1.symm.trans B.method)
  cases Option.some.inj (h2.symm.trans (Stand.of_body B).code)
  rw [← h6, table_eq]
end Bodies
end VXA
section VXS
variable {p : Program} {l : Launch} {e : Env} {R : Room} {s : State} {m : MethodId} {args : Array Value} {below : List Frame} {meth : Method} {c : Code} {T : State} {H : Heap} {locs : List Loc} {cells slots : Nat}
abbrev vx_CSW (R : Room) (s : State) (args : Array Value) (own : String) (index : Nat) (y : MethodName) (bytes : ByteArray) (maxL : Nat) (ret : Option FieldType) (hh : List (Nat × Nat × Nat × Nat)) (ws : List Cond) (rm : Room) (mc ms n : Nat) : Prop :=
  (rm.cells = mc ∧ rm.slots = ms ∧ rm.frames + 1 ≤ R.frames ∧ 8 + (maxL + 11) + rm.locals ≤ R.locals ∧ (∀ w ∈ ws, ∀ (a' : Array Value) (U : State), s.WarmedH U.vm → w.before a' U = true) ∧ Cond.codeWith y bytes maxL ret hh ∈ ws) ∧
  (Cond.codeWith y bytes maxL ret hh).before args s = true ∧ (Cond.initialized y.cls).before args s = true ∧ (y.cls ≠ "java/lang/invoke/MethodHandle" ∧ y.cls ≠ "java/lang/invoke/VarHandle") ∧
  (∀ sig, parseMethodDescriptor y.desc = some sig → n = sig.parameters.length) ∧ (Cond.methodLink own index y).before args s = true ∧ (Cond.static y).before args s = true
theorem vx_cwSW {own : String} {index maxL mc ms : Nat} {y : MethodName} {bytes : ByteArray} {ret : Option FieldType} {hh : List (Nat × Nat × Nat × Nat)} {Ts ws ws' : List Cond} {rm : Room} (n : Nat) (ht : ∀ w ∈ Ts, w.before args s = true) (hT : GoodIn Ts (va_wsS own index y ws)) (hw : ws = Cond.codeWith y bytes maxL ret hh :: ws') (hrc : rm.cells = mc) (hrs : rm.slots = ms)
    (hd : y.cls ≠ "java/lang/invoke/MethodHandle" ∧ y.cls ≠ "java/lang/invoke/VarHandle" ∧ (parseMethodDescriptor y.desc).map (fun d => d.parameters.length) = some n) (hR : rm.frames + 1 ≤ R.frames ∧ 8 + (maxL + 11) + rm.locals ≤ R.locals) :
    vx_CSW R s args own index y bytes maxL ret hh ws rm mc ms n := by
  have ok : ∀ w ∈ va_wsS own index y ws, w.before args s = true := fun w h => ht w (hT w h).1
  have hG : GoodIn Ts ws := fun w h => hT w (by unfold va_wsS; exact List.mem_append_right _ h)
  have hc : Cond.codeWith y bytes maxL ret hh ∈ ws := by rw [hw]; exact List.mem_cons_self
  refine ⟨⟨hrc, hrs, hR.1, hR.2, pay_in ht hG, hc⟩, ht _ (hG _ hc).1, ok _ (by simp [va_wsS]), ⟨hd.1, hd.2.1⟩, fun sig h => ?_, ok _ (by simp [va_wsS]), ok _ (by simp [va_wsS])⟩
  have h2 := hd.2.2
  rw [h] at h2
  exact (Option.some.inj h2).symm
theorem vx_callSW (X : Stand p l e R s m args below meth c T locs cells slots) (hexec : p.tables.exec = Jvm.exec) {own : String} {index : Nat} {y : MethodName} {bytes : ByteArray} {maxL : Nat} {ret : Option FieldType} {hh : List (Nat × Nat × Nat × Nat)}
    (hown : s.vm.findClass own = some m.cls) (hlink : (Cond.methodLink own index y).before args s = true) (hstat : (Cond.static y).before args s = true) (hinit : (Cond.initialized y.cls).before args s = true)
    (hcode : (Cond.codeWith y bytes maxL ret hh).before args s = true) (hy : y.cls ≠ "java/lang/invoke/MethodHandle" ∧ y.cls ≠ "java/lang/invoke/VarHandle")
    {W9 : Nat} {Pre : Pt → Array Value → Prop} {Post : Pt → Array Value → Option Value → Pt → Prop} (hK : Back l R p e below s args y 3 W9 Pre Post)
    {g : JFrame} (hg : g.method = m) (hsize : g.locals.size = c.maxLocals) {argsL rest : List Value} (hlen : ∀ sig, parseMethodDescriptor y.desc = some sig → argsL.length = sig.parameters.length)
    (hstack : g.stack = argsL.reverse ++ rest) (hW : 2 * g.monitorRoom + (rest.map fun v => v.category).sum ≤ W9) (hdg : decode c.code g.pc = .ok (.invokestatic index, 3))
    (hpre : ∀ vm₁, s.WarmedH vm₁ → Pre ⟨T.setVm vm₁, locs, cells, slots⟩ argsL.toArray) :
    ∃ (v : Option Value) (vm₁ : Vm) (B : Pt), s.WarmedH vm₁ ∧ Stand p l e R s m args below meth c B.U B.locs B.cells B.slots ∧ Post ⟨T.setVm vm₁, locs, cells, slots⟩ argsL.toArray v B ∧
      ∀ target, Steps p.tables e below (B.U.setTop { g with pc := g.pc + 3, stack := v.toList ++ rest }) target → Steps p.tables e below (T.setTop g) target := by
  obtain ⟨mk, methM, cM, hnamed, hmethM, -, -, -, -, -, -, hsigM⟩ := Cond.codeWith_spec hcode
  have hstatic : methM.isStatic = true := Cond.static_spec hnamed hmethM hstat
  obtain ⟨kP, hkP, -⟩ := className_of_methodNamed hnamed
  have hinitP : kP.init = .initialized := Cond.initialized_spec (findClass_of_methodNamed hnamed) hkP hinit
  obtain ⟨vm₁, X₁, hstep₁⟩ := X.invokestatic hexec hown hlink hnamed hmethM hstatic hkP hinitP hy (g := g) hg (argsL := argsL) (rest := rest) (hlen _ hsigM) hstack hdg
  obtain ⟨v, B, X', hpost, hsteps⟩ := hK m meth c ⟨T.setVm vm₁, locs, cells, slots⟩ { g with stack := rest } (.invokestatic index) mk argsL.toArray X₁ hg hsize hdg hW (X₁.named hnamed) (hpre vm₁ X₁.warmed)
  exact ⟨v, vm₁, B, X₁.warmed, X', hpost, fun target h => hstep₁ _ fun acts => by rw [doInvoke_state]; exact hsteps.trans h⟩
theorem vx_runSW {y : MethodName} {bytes cc : ByteArray} {maxL nL mc ms n index : Nat} {ret : Option FieldType} {hh : List (Nat × Nat × Nat × Nat)} {ws : List Cond} {rm : Room} {Pc : Array Value → State → Prop} {Qc : Array Value → State → Outcome → State → Prop} {free : Addr → Prop} {Ts : List Cond} {own : String} {As rest : List Value} {g : JFrame}
    (S : CallFix p m c cc nL s args Ts own) (hM : Met l y ws rm Pc Qc mc ms free) (cw : vx_CSW R s args own index y bytes maxL ret hh ws rm mc ms n) (hp : PreS s H Pc As)
    (hg : g.method = m) (hn : As.length = n) (hsize : g.locals.size = nL) (hstack : g.stack = As.reverse ++ rest) (hW : 2 * g.monitorRoom + (rest.map fun v => v.category).sum ≤ 8) (hdg : decode cc g.pc = .ok (.invokestatic index, 3)) (hf : cells + mc ≤ R.cells ∧ slots + ms ≤ R.slots) :
    va_Run p l e R s m args below meth c H locs cells slots mc ms g rest (Qc As.toArray) (free) := by
  obtain ⟨⟨hrc, hrs, hfr, hlo, hws, hcw⟩, hcode, hini, hy, hlen, hl, hstt⟩ := cw
  have hK : Back l R p e below s args y 3 8 (PreOf R mc ms Pc) (PostOf Qc mc ms free) := va_backW (hh := hh) (bytes := bytes) (maxL := maxL) (ret := ret) hM hp.1 hrc hrs hfr hlo hws hcw (fun a' U hW => word_at hW (Or.inl (by first | rfl | simp [Cond.onTables, Cond.keeps, Cond.steady])) hini)
  obtain ⟨hx, hb, hml, ho, -⟩ := S
  intro T hT X
  obtain ⟨v, vm₁, ⟨U', l2, c2, s2⟩, hW₁, X', ⟨g', mk, t, L, e1, e2, hq, h1, hL, h2, h3⟩, st⟩ := vx_callSW X hx (hh := hh) (bytes := bytes) (maxL := maxL) (ret := ret) ho hl hstt hini hcode hy hK hg (hsize.trans hml.symm) (argsL := As) (rest := rest) (fun sig h => hn.trans (hlen sig h)) hstack hW (by rw [hb]; exact hdg)
    (fun vm₁ hW₁ => ⟨hf.1, hf.2, hp.2 (T.setVm vm₁) hT hW₁⟩)
  dsimp only [Pt.U, Pt.locs, Pt.cells, Pt.slots] at X' e1 e2 h1 h2 h3 st
  subst h1; subst h2; subst h3
  exact ⟨v, (T.setVm vm₁).calling g' mk As.toArray, t, U', L, hT, X', hL, e1, e2, hq, st⟩
theorem vx_outP {p : Program} {l : Launch} {e : Env} {R : Room} {s : State} {m : MethodId} {args : Array Value} {below : List Frame} {meth : Method} {c : Code} {H : Heap} {locs : List Loc} {cells slots : Nat} {free : Addr → Prop} {ls : Array Slot} {rest : List Value} {Qc : Array Value → State → Outcome → State → Prop} {XC : String → State → State → Prop}
    {pc : Nat} {own E : String} {ce : Cell} {q : Addr} {mc ms : Nat} (hown : s.vm.findClass own = some m.cls) (hlocks : meth.locks = false)
    (hpass : ∀ z ∈ c.exceptionTable.toList, covers z pc = false ∨ (z.catchType ≠ 0 ∧ ∃ nm : String, (Cond.classLink own z.catchType nm).before args s = true ∧ va_Nc E nm s)) (hcell : H[q]? = some ce) (hv : ce.vm = .none) (hcl : s.vm.findClass E = some ce.cls)
    (hx : ∀ t : State, t.heap = H → s.vm.Alike t.vm → XC E s t) (hf : ∀ z ∈ locs, free z.base) (hc : cells ≤ mc) (hs : slots ≤ ms) :
    vx_W p l e R s m args below meth c H locs cells slots (vx_MQ below Qc XC args s mc ms free) (F0 m pc ls rest) q := by
  intro T hT X
  have hpl : e.platform.magicAccessors = ({} : Platform).magicAccessors := by rw [X.admits.platform]
  obtain ⟨vm', hW', X', st⟩ := X.outThrough hlocks q (g := F0 m pc ls rest) rfl rfl rfl (cell := ce) (by rw [hT]; exact hcell) (by rw [hv]; rfl)
    (by obtain ⟨k9, h9, -⟩ := Vm.findClass_spec hcl; exact ⟨k9, h9⟩) (fun z hz => by
      rcases hpass z hz with h | ⟨hz0, nm, hl1, hn1⟩
      · exact Or.inl h
      · obtain ⟨c6, hc6, hcl6⟩ := Cond.classLink_spec hown hl1 e.platform hpl
        obtain ⟨a8, b8, h1, h2, h3⟩ := hn1
        cases Option.some.inj (h1.symm.trans hcl)
        cases Option.some.inj (h2.symm.trans hc6)
        exact Or.inr ⟨hz0, _, hcl6, h3⟩)
  obtain ⟨g₀, hfr⟩ := X'.frames_eq
  have hcell9 : ((T.setVm vm').setFrames (.throwing q :: below)).heap[q]? = some ce := by
    show T.heap[q]? = some ce
    rw [hT]; exact hcell
  have hend : Ended ((T.setVm vm').setFrames (.throwing q :: below)) below (.threw q) := State.frames_setFrames _ (State.cur_lt_of_frames hfr)
  refine ⟨(T.setVm vm').setFrames (.throwing q :: below), ?_, .threw q, X'.here.running, hend, Or.inr ⟨q, rfl, E, ce, locs, hx _ hT (X'.ends _).1.alike, hcell9, hv, hcl, (X'.ends _).1, (X'.ends _).2.mono hc hs, hf⟩⟩
  rw [X.pushThrowing_eq]
  exact st
theorem vx_lt {D : va_G} {cl : List vw_C} {ws : va_W} {H1 : Heap} (h : va_P D cl ws H1) {k : Nat} {q : Nat × va_E} (hk : ws[k]? = some q) : q.1 < H1.size := (h k q hk).lt
end VXS
section VXH
section
variable {l : Launch} {R : Room} {p : Program} {e : Env} {below : List Frame} {s : State} {sargs : Array Value} {y : MethodName} {len W9 : Nat}
theorem vx_backW {ws : List Cond} {rm : Room} {Pc : Array Value → State → Prop} {Qc : Array Value → State → Outcome → State → Prop} {XC : String → State → State → Prop} {mc ms : Nat} {free : Addr → Prop} {bytes : ByteArray} {maxL : Nat} {ret : Option FieldType} {hh : List (Nat × Nat × Nat × Nat)}
    (hM : vx_Met l y ws rm Pc Qc XC mc ms free) (hblind : FrameBlind Pc) (hrc : rm.cells = mc) (hrs : rm.slots = ms)
    (hframes : rm.frames + 1 ≤ R.frames) (hlocals : W9 + (maxL + 11) + rm.locals ≤ R.locals)
    (hws : ∀ w ∈ ws, ∀ a' U, s.WarmedH U.vm → w.before a' U = true) (hcode : Cond.codeWith y bytes maxL ret hh ∈ ws) (hinit : ∀ a' U, s.WarmedH U.vm → (Cond.initialized y.cls).before a' U = true) :
    vx_Back l R p e below s sargs y len W9 (PreOf R mc ms Pc) (PostOf Qc mc ms free) (vx_Post XC mc ms free) := by
  intro m meth c A g ig mk a X hg hsize hdg hW hn hp
  have h1 : (headSpec ws rm).pre.before a A.U = true := atoms_intro fun w hw => hws w hw _ _ X.warmed
  have h2 : (Cond.codeWith y bytes maxL ret hh).before a A.U = true := hws _ hcode _ _ X.warmed
  have h3 : (Cond.initialized y.cls).before a A.U = true := hinit _ _ X.warmed
  have h4 : A.cells + (headSpec ws rm).room.cells ≤ R.cells := by rw [show (headSpec ws rm).room.cells = mc from hrc]; exact hp.1
  have h5 : A.slots + (headSpec ws rm).room.slots ≤ R.slots := by rw [show (headSpec ws rm).room.slots = ms from hrs]; exact hp.2.1
  have hPc : Pc a (A.U.calling g mk a) := hblind _ _ _ _ hp.2.2
  obtain ⟨U, Ls, c0, s0⟩ := A
  dsimp only [Pt.U, Pt.locs, Pt.cells, Pt.slots] at h1 h2 h3 h4 h5 X hn hPc ⊢
  obtain ⟨m9, methY, cY, hn9, hmY, hcY, -, hlY, -⟩ := Cond.codeWith_spec h2
  cases Option.some.inj (hn9.symm.trans hn)
  obtain ⟨kY, hkY, -⟩ := className_of_methodNamed hn
  have hinitY : kY.init = .initialized := Cond.initialized_spec (findClass_of_methodNamed hn) hkY h3
  have h : At U g.method c below := by rw [hg]; exact X.here
  have hlocals9 : W9 + (maxL + 11) + (headSpec ws rm).room.locals ≤ R.locals := hlocals
  have happ : (headSpec ws rm).appliesLoose y e.platform (U.calling g mk a) = true :=
    Spec.appliesLoose_calling (g := g) h hdg hn hkY hinitY
      (X.room_calling (g := g) (R' := (headSpec ws rm).room) hsize hmY hcY hframes (by rw [hlY]; omega) h4 h5) h1
  obtain ⟨mid, hmid⟩ := h.above
  have hfr : (U.setTop g).frames = (.java g :: mid) ++ below := by rw [State.frames_setTop' g h.top, hmid]; rfl
  obtain ⟨o, s₂, hsteps, -, hend, hq⟩ := Steps.callFree hM p X.admits X.cas X.clock (acts := []) hfr happ hPc trivial
  have hq' : vx_Q Qc XC mc ms free a (U.calling g mk a) o s₂ := hq
  rw [State.frames_setTop' g h.top] at hend
  obtain ⟨g₀, hg0⟩ := Option.isSome_iff_exists.mp h.top
  obtain ⟨r, hr⟩ := State.topJava?_eq_some.mp hg0
  have hr' : (({ U with heap := s₂.heap, slotsUsed := s₂.slotsUsed } : State).setVm s₂.vm).frames = .java g₀ :: r := hr
  rcases hq' with ⟨hqc, L, hfe, hL⟩ | ⟨q, rfl, E, ce, L, hx, hce, hcv, hcl, hW₂, hsm, hL⟩
  · obtain ⟨⟨v, rfl⟩, hW₂, e2, q2, q3, q4, q5, q6⟩ := id hfe
    have e3 : s₂ = ({ (U.calling g mk a).setFrames s₂.frames with heap := s₂.heap, slotsUsed := s₂.slotsUsed } : State).setVm s₂.vm := by
      have : s₂ = ({ s₂ with vm := (U.calling g mk a).vm } : State).setVm s₂.vm := rfl
      rw [e2] at this
      exact this
    obtain ⟨c₂, i₂, len₂, hc₂, hd₂, hf₂⟩ := hend
    have hW' : U.WarmedH s₂.vm := hW₂
    have hcc : c₂ = c := by
      have h1 : s₂.code? g.method = U.code? g.method := by
        rw [State.code?_eq, State.code?_eq, hW'.alike.method?]
      exact Option.some.inj (hc₂.symm.trans (h1.trans h.code))
    subst hcc
    have hlen : len₂ = len := by rw [hdg] at hd₂; cases hd₂; rfl
    subst hlen
    have hs₂ : s₂ = (({ U with heap := s₂.heap, slotsUsed := s₂.slotsUsed } : State).setVm s₂.vm).setTop { g with pc := g.pc + len₂, stack := v.toList ++ g.stack } := by
      refine e3.trans ?_
      rw [hf₂, State.calling_eq h.top, State.setFrames_setFrames, State.setTop_of_frames _ hr', hr]
      rfl
    have hsame : U.sameButNew ({ U with heap := s₂.heap, slotsUsed := s₂.slotsUsed } : State) L mc ms := by
      refine ⟨?_, q2, q3, q4, q5, q6⟩
      obtain ⟨t, ht, -⟩ := State.frames_cons hr
      show ({ U with heap := s₂.heap, slotsUsed := s₂.slotsUsed } : State) = { U.setFrames U.frames with heap := s₂.heap, slotsUsed := s₂.slotsUsed }
      rw [State.setFrames_self ht]
    subst hg
    refine Or.inl ⟨v, ⟨(({ U with heap := s₂.heap, slotsUsed := s₂.slotsUsed } : State).setVm s₂.vm), Ls ++ L, c0 + mc, s0 + ms⟩,
      ⟨X.admits, X.cas, X.clock, X.frames, X.room, X.hears, X.method, X.code, (X.here.setHeapUsed s₂.heap s₂.slotsUsed).setVm hW'.alike, X.tail, State.WarmedH.trans X.warmed hW', X.limits, X.bytes, X.same.trans (hsame.setVm s.vm)⟩,
      ⟨g, mk, s₂, L, rfl, rfl, hqc, rfl, hL, rfl, rfl⟩, ?_⟩
    show Steps p.tables e below _ ((({ U with heap := s₂.heap, slotsUsed := s₂.slotsUsed } : State).setVm s₂.vm).setTop { g with pc := g.pc + len₂, stack := v.toList ++ g.stack })
    rw [← hs₂]
    exact hsteps
  · obtain ⟨e2, q2, q3, q4, q5, q6⟩ := id hsm
    have e3 : s₂ = ({ (U.calling g mk a).setFrames s₂.frames with heap := s₂.heap, slotsUsed := s₂.slotsUsed } : State).setVm s₂.vm := by
      have : s₂ = ({ s₂ with vm := (U.calling g mk a).vm } : State).setVm s₂.vm := rfl
      rw [e2] at this
      exact this
    have hf₂ : s₂.frames = .throwing q :: .java g :: U.frames.tail := hend
    have hW' : U.WarmedH s₂.vm := hW₂
    have hs₂ : s₂ = ((({ U with heap := s₂.heap, slotsUsed := s₂.slotsUsed } : State).setVm s₂.vm).setTop g).pushFrame (.throwing q) := by
      refine e3.trans ?_
      rw [hf₂, State.calling_eq h.top, State.setFrames_setFrames, State.pushFrame, State.frames_setTop _ hr', State.setTop_of_frames _ hr', State.setFrames_setFrames, hr]
      rfl
    have hsame : U.sameButNew ({ U with heap := s₂.heap, slotsUsed := s₂.slotsUsed } : State) L mc ms := by
      refine ⟨?_, q2, q3, q4, q5, q6⟩
      obtain ⟨t, ht, -⟩ := State.frames_cons hr
      show ({ U with heap := s₂.heap, slotsUsed := s₂.slotsUsed } : State) = { U.setFrames U.frames with heap := s₂.heap, slotsUsed := s₂.slotsUsed }
      rw [State.setFrames_self ht]
    subst hg
    refine Or.inr ⟨q, ⟨(({ U with heap := s₂.heap, slotsUsed := s₂.slotsUsed } : State).setVm s₂.vm), Ls ++ L, c0 + mc, s0 + ms⟩,
      ⟨X.admits, X.cas, X.clock, X.frames, X.room, X.hears, X.method, X.code, (X.here.setHeapUsed s₂.heap s₂.slotsUsed).setVm hW'.alike, X.tail, State.WarmedH.trans X.warmed hW', X.limits, X.bytes, X.same.trans (hsame.setVm s.vm)⟩,
      ⟨g, mk, s₂, L, E, ce, rfl, rfl, hx, hce, hcv, hcl, rfl, hL, rfl, rfl⟩, ?_⟩
    show Steps p.tables e below _ (((({ U with heap := s₂.heap, slotsUsed := s₂.slotsUsed } : State).setVm s₂.vm).setTop g).pushFrame (.throwing q))
    rw [← hs₂]
    exact hsteps
end
variable {p : Program} {l : Launch} {e : Env} {R : Room} {s : State} {m : MethodId} {args : Array Value} {below : List Frame} {meth : Method} {c : Code} {T : State} {H : Heap} {locs : List Loc} {cells slots : Nat}
theorem vx_callVX (X : Stand p l e R s m args below meth c T locs cells slots) (hexec : p.tables.exec = Jvm.exec) {own C : String} {index : Nat} {y : MethodName} {bytes : ByteArray} {maxL : Nat} {ret : Option FieldType} {hh : List (Nat × Nat × Nat × Nat)}
    (hown : s.vm.findClass own = some m.cls) (hlink : (Cond.methodLink own index y).before args s = true) (hinst : (Cond.instanceMethod y).before args s = true) (hsel : (Cond.selects C y y).before args s = true)
    (hcode : (Cond.codeWith y bytes maxL ret hh).before args s = true) (hy : y.cls ≠ "java/lang/invoke/MethodHandle" ∧ y.cls ≠ "java/lang/invoke/VarHandle")
    {W9 : Nat} {Pre : Pt → Array Value → Prop} {Post : Pt → Array Value → Option Value → Pt → Prop} {PostX : Pt → Array Value → Addr → Pt → Prop} (hK : vx_Back l R p e below s args y 3 W9 Pre Post PostX)
    {b : Addr} {cellB : Cell} (hcell : T.heap[b]? = some cellB) (hobj : cellB.vm.isStatics = false) (hcls : s.vm.findClass C = some cellB.cls)
    {g : JFrame} (hg : g.method = m) (hsize : g.locals.size = c.maxLocals) {argsL rest : List Value} (hlen : ∀ sig, parseMethodDescriptor y.desc = some sig → argsL.length = sig.parameters.length)
    (hstack : g.stack = argsL.reverse ++ .ref b :: rest) (hW : 2 * g.monitorRoom + (rest.map fun v => v.category).sum ≤ W9) (hdg : decode c.code g.pc = .ok (.invokevirtual index, 3))
    (hpre : ∀ vm₁, s.WarmedH vm₁ → Pre ⟨T.setVm vm₁, locs, cells, slots⟩ (Value.ref b :: argsL).toArray) :
    (∃ (v : Option Value) (vm₁ : Vm) (B : Pt), s.WarmedH vm₁ ∧ Stand p l e R s m args below meth c B.U B.locs B.cells B.slots ∧ Post ⟨T.setVm vm₁, locs, cells, slots⟩ (Value.ref b :: argsL).toArray v B ∧
      ∀ target, Steps p.tables e below (B.U.setTop { g with pc := g.pc + 3, stack := v.toList ++ rest }) target → Steps p.tables e below (T.setTop g) target) ∨
    (∃ (q : Addr) (vm₁ : Vm) (B : Pt), s.WarmedH vm₁ ∧ Stand p l e R s m args below meth c B.U B.locs B.cells B.slots ∧ PostX ⟨T.setVm vm₁, locs, cells, slots⟩ (Value.ref b :: argsL).toArray q B ∧
      Steps p.tables e below (T.setTop g) ((B.U.setTop { g with stack := rest }).pushFrame (.throwing q))) := by
  obtain ⟨mk, methM, hnamed, hmethM, hstM, habM⟩ := Cond.instanceMethod_spec hinst
  obtain ⟨m8, methM', cM, hn8, hmethM', -, -, -, -, -, -, hsigM⟩ := Cond.codeWith_spec hcode
  cases Option.some.inj (hn8.symm.trans hnamed)
  cases hmethM.symm.trans hmethM'
  obtain ⟨c2, r2, m2, q1, q2, q3, q4, kP, hkP, hkPi⟩ := Cond.selects_spec hsel
  cases hcls.symm.trans q1
  cases (State.methodFound?_of_named hnamed hy).symm.trans q2
  cases hnamed.symm.trans q3
  have hselP : selectMethod e.platform s.vm cellB.cls mk = .method mk := by rw [Launch.admits_selectMethod X.admits]; exact q4
  obtain ⟨vm₁, X₁, hstep₁⟩ := X.invokevirtual hexec hown hlink hnamed hmethM hstM hkP hkPi hy (a := b) (cell := cellB) hcell
    (fun z h => by rw [h] at hobj; cases hobj) hselP hmethM habM hkP hkPi (g := g) hg (argsL := argsL) (rest := rest) (hlen _ hsigM) hstack hdg
  rcases hK m meth c ⟨T.setVm vm₁, locs, cells, slots⟩ { g with stack := rest } (.invokevirtual index) mk (Value.ref b :: argsL).toArray X₁ hg hsize hdg hW (X₁.named hnamed) (hpre vm₁ X₁.warmed) with ⟨v, B, X', hpost, hsteps⟩ | ⟨q, B, X', hpost, hsteps⟩
  · exact Or.inl ⟨v, vm₁, B, X₁.warmed, X', hpost, fun target h => hstep₁ _ fun acts => by rw [doInvoke_state]; exact hsteps.trans h⟩
  · exact Or.inr ⟨q, vm₁, B, X₁.warmed, X', hpost, hstep₁ _ fun acts => by rw [doInvoke_state]; exact hsteps⟩
theorem vx_callSX (X : Stand p l e R s m args below meth c T locs cells slots) (hexec : p.tables.exec = Jvm.exec) {own : String} {index : Nat} {y : MethodName} {bytes : ByteArray} {maxL : Nat} {ret : Option FieldType} {hh : List (Nat × Nat × Nat × Nat)}
    (hown : s.vm.findClass own = some m.cls) (hlink : (Cond.methodLink own index y).before args s = true) (hstat : (Cond.static y).before args s = true) (hinit : (Cond.initialized y.cls).before args s = true)
    (hcode : (Cond.codeWith y bytes maxL ret hh).before args s = true) (hy : y.cls ≠ "java/lang/invoke/MethodHandle" ∧ y.cls ≠ "java/lang/invoke/VarHandle")
    {W9 : Nat} {Pre : Pt → Array Value → Prop} {Post : Pt → Array Value → Option Value → Pt → Prop} {PostX : Pt → Array Value → Addr → Pt → Prop} (hK : vx_Back l R p e below s args y 3 W9 Pre Post PostX)
    {g : JFrame} (hg : g.method = m) (hsize : g.locals.size = c.maxLocals) {argsL rest : List Value} (hlen : ∀ sig, parseMethodDescriptor y.desc = some sig → argsL.length = sig.parameters.length)
    (hstack : g.stack = argsL.reverse ++ rest) (hW : 2 * g.monitorRoom + (rest.map fun v => v.category).sum ≤ W9) (hdg : decode c.code g.pc = .ok (.invokestatic index, 3))
    (hpre : ∀ vm₁, s.WarmedH vm₁ → Pre ⟨T.setVm vm₁, locs, cells, slots⟩ argsL.toArray) :
    (∃ (v : Option Value) (vm₁ : Vm) (B : Pt), s.WarmedH vm₁ ∧ Stand p l e R s m args below meth c B.U B.locs B.cells B.slots ∧ Post ⟨T.setVm vm₁, locs, cells, slots⟩ argsL.toArray v B ∧
      ∀ target, Steps p.tables e below (B.U.setTop { g with pc := g.pc + 3, stack := v.toList ++ rest }) target → Steps p.tables e below (T.setTop g) target) ∨
    (∃ (q : Addr) (vm₁ : Vm) (B : Pt), s.WarmedH vm₁ ∧ Stand p l e R s m args below meth c B.U B.locs B.cells B.slots ∧ PostX ⟨T.setVm vm₁, locs, cells, slots⟩ argsL.toArray q B ∧
      Steps p.tables e below (T.setTop g) ((B.U.setTop { g with stack := rest }).pushFrame (.throwing q))) := by
  obtain ⟨mk, methM, cM, hnamed, hmethM, -, -, -, -, -, -, hsigM⟩ := Cond.codeWith_spec hcode
  have hstatic : methM.isStatic = true := Cond.static_spec hnamed hmethM hstat
  obtain ⟨kP, hkP, -⟩ := className_of_methodNamed hnamed
  have hinitP : kP.init = .initialized := Cond.initialized_spec (findClass_of_methodNamed hnamed) hkP hinit
  obtain ⟨vm₁, X₁, hstep₁⟩ := X.invokestatic hexec hown hlink hnamed hmethM hstatic hkP hinitP hy (g := g) hg (argsL := argsL) (rest := rest) (hlen _ hsigM) hstack hdg
  rcases hK m meth c ⟨T.setVm vm₁, locs, cells, slots⟩ { g with stack := rest } (.invokestatic index) mk argsL.toArray X₁ hg hsize hdg hW (X₁.named hnamed) (hpre vm₁ X₁.warmed) with ⟨v, B, X', hpost, hsteps⟩ | ⟨q, B, X', hpost, hsteps⟩
  · exact Or.inl ⟨v, vm₁, B, X₁.warmed, X', hpost, fun target h => hstep₁ _ fun acts => by rw [doInvoke_state]; exact hsteps.trans h⟩
  · exact Or.inr ⟨q, vm₁, B, X₁.warmed, X', hpost, hstep₁ _ fun acts => by rw [doInvoke_state]; exact hsteps⟩
theorem vx_callVW (X : Stand p l e R s m args below meth c T locs cells slots) (hexec : p.tables.exec = Jvm.exec) {own C : String} {index : Nat} {y : MethodName} {bytes : ByteArray} {maxL : Nat} {ret : Option FieldType} {hh : List (Nat × Nat × Nat × Nat)}
    (hown : s.vm.findClass own = some m.cls) (hlink : (Cond.methodLink own index y).before args s = true) (hinst : (Cond.instanceMethod y).before args s = true) (hsel : (Cond.selects C y y).before args s = true)
    (hcode : (Cond.codeWith y bytes maxL ret hh).before args s = true) (hy : y.cls ≠ "java/lang/invoke/MethodHandle" ∧ y.cls ≠ "java/lang/invoke/VarHandle")
    {W9 : Nat} {Pre : Pt → Array Value → Prop} {Post : Pt → Array Value → Option Value → Pt → Prop} (hK : Back l R p e below s args y 3 W9 Pre Post)
    {b : Addr} {cellB : Cell} (hcell : T.heap[b]? = some cellB) (hobj : cellB.vm.isStatics = false) (hcls : s.vm.findClass C = some cellB.cls)
    {g : JFrame} (hg : g.method = m) (hsize : g.locals.size = c.maxLocals) {argsL rest : List Value} (hlen : ∀ sig, parseMethodDescriptor y.desc = some sig → argsL.length = sig.parameters.length)
    (hstack : g.stack = argsL.reverse ++ .ref b :: rest) (hW : 2 * g.monitorRoom + (rest.map fun v => v.category).sum ≤ W9) (hdg : decode c.code g.pc = .ok (.invokevirtual index, 3))
    (hpre : ∀ vm₁, s.WarmedH vm₁ → Pre ⟨T.setVm vm₁, locs, cells, slots⟩ (Value.ref b :: argsL).toArray) :
    ∃ (v : Option Value) (vm₁ : Vm) (B : Pt), s.WarmedH vm₁ ∧ Stand p l e R s m args below meth c B.U B.locs B.cells B.slots ∧ Post ⟨T.setVm vm₁, locs, cells, slots⟩ (Value.ref b :: argsL).toArray v B ∧
      ∀ target, Steps p.tables e below (B.U.setTop { g with pc := g.pc + 3, stack := v.toList ++ rest }) target → Steps p.tables e below (T.setTop g) target := by
  obtain ⟨mk, methM, hnamed, hmethM, hstM, habM⟩ := Cond.instanceMethod_spec hinst
  obtain ⟨m8, methM', cM, hn8, hmethM', -, -, -, -, -, -, hsigM⟩ := Cond.codeWith_spec hcode
  cases Option.some.inj (hn8.symm.trans hnamed)
  cases hmethM.symm.trans hmethM'
  obtain ⟨c2, r2, m2, q1, q2, q3, q4, kP, hkP, hkPi⟩ := Cond.selects_spec hsel
  cases hcls.symm.trans q1
  cases (State.methodFound?_of_named hnamed hy).symm.trans q2
  cases hnamed.symm.trans q3
  have hselP : selectMethod e.platform s.vm cellB.cls mk = .method mk := by rw [Launch.admits_selectMethod X.admits]; exact q4
  obtain ⟨vm₁, X₁, hstep₁⟩ := X.invokevirtual hexec hown hlink hnamed hmethM hstM hkP hkPi hy (a := b) (cell := cellB) hcell
    (fun z h => by rw [h] at hobj; cases hobj) hselP hmethM habM hkP hkPi (g := g) hg (argsL := argsL) (rest := rest) (hlen _ hsigM) hstack hdg
  obtain ⟨v, B, X', hpost, hsteps⟩ := hK m meth c ⟨T.setVm vm₁, locs, cells, slots⟩ { g with stack := rest } (.invokevirtual index) mk (Value.ref b :: argsL).toArray X₁ hg hsize hdg hW (X₁.named hnamed) (hpre vm₁ X₁.warmed)
  exact ⟨v, vm₁, B, X₁.warmed, X', hpost, fun target h => hstep₁ _ fun acts => by rw [doInvoke_state]; exact hsteps.trans h⟩
abbrev vx_CVW (R : Room) (s : State) (args : Array Value) (own C : String) (index : Nat) (y : MethodName) (bytes : ByteArray) (maxL : Nat) (ret : Option FieldType) (hh : List (Nat × Nat × Nat × Nat)) (ws : List Cond) (rm : Room) (mc ms n : Nat) : Prop :=
  (rm.cells = mc ∧ rm.slots = ms ∧ rm.frames + 1 ≤ R.frames ∧ 8 + (maxL + 11) + rm.locals ≤ R.locals ∧ (∀ w ∈ ws, ∀ (a' : Array Value) (U : State), s.WarmedH U.vm → w.before a' U = true) ∧ Cond.codeWith y bytes maxL ret hh ∈ ws) ∧
  (Cond.codeWith y bytes maxL ret hh).before args s = true ∧ (Cond.initialized y.cls).before args s = true ∧ (y.cls ≠ "java/lang/invoke/MethodHandle" ∧ y.cls ≠ "java/lang/invoke/VarHandle") ∧
  (∀ sig, parseMethodDescriptor y.desc = some sig → n = sig.parameters.length) ∧ (Cond.methodLink own index y).before args s = true ∧ (Cond.instanceMethod y).before args s = true ∧ (Cond.selects C y y).before args s = true
theorem vx_cwVW {own C : String} {index maxL mc ms : Nat} {y : MethodName} {bytes : ByteArray} {ret : Option FieldType} {hh : List (Nat × Nat × Nat × Nat)} {Ts ws ws' : List Cond} {rm : Room} (n : Nat) (ht : ∀ w ∈ Ts, w.before args s = true) (hT : GoodIn Ts (wsV own index C y ws)) (hw : ws = Cond.codeWith y bytes maxL ret hh :: ws') (hrc : rm.cells = mc) (hrs : rm.slots = ms)
    (hd : y.cls = C ∧ y.cls ≠ "java/lang/invoke/MethodHandle" ∧ y.cls ≠ "java/lang/invoke/VarHandle" ∧ (parseMethodDescriptor y.desc).map (fun d => d.parameters.length) = some n) (hR : rm.frames + 1 ≤ R.frames ∧ 8 + (maxL + 11) + rm.locals ≤ R.locals) :
    vx_CVW R s args own C index y bytes maxL ret hh ws rm mc ms n := by
  obtain ⟨hC, hd⟩ := hd
  subst hC
  have ok : ∀ w ∈ wsV own index y.cls y ws, w.before args s = true := fun w h => ht w (hT w h).1
  have hG : GoodIn Ts ws := fun w h => hT w (by unfold wsV; exact List.mem_append_right _ h)
  have hc : Cond.codeWith y bytes maxL ret hh ∈ ws := by rw [hw]; exact List.mem_cons_self
  refine ⟨⟨hrc, hrs, hR.1, hR.2, pay_in ht hG, hc⟩, ht _ (hG _ hc).1, ok _ (by simp [wsV]), ⟨hd.1, hd.2.1⟩, fun sig h => ?_, ok _ (by simp [wsV]), ok _ (by simp [wsV]), ok _ (by simp [wsV])⟩
  have h2 := hd.2.2
  rw [h] at h2
  exact (Option.some.inj h2).symm
theorem vx_runVW {y : MethodName} {bytes cc : ByteArray} {maxL nL mc ms n index : Nat} {ret : Option FieldType} {hh : List (Nat × Nat × Nat × Nat)} {ws : List Cond} {rm : Room} {Pc : Array Value → State → Prop} {Qc : Array Value → State → Outcome → State → Prop} {free : Addr → Prop} {Ts : List Cond} {own C : String} {b : Addr} {As rest : List Value} {g : JFrame}
    (S : CallFix p m c cc nL s args Ts own) (hM : Met l y ws rm Pc Qc mc ms free) (cw : vx_CVW R s args own C index y bytes maxL ret hh ws rm mc ms n) (hp : PreV s H C b Pc As)
    (hg : g.method = m) (hn : As.length = n) (hsize : g.locals.size = nL) (hstack : g.stack = As.reverse ++ .ref b :: rest) (hW : 2 * g.monitorRoom + (rest.map fun v => v.category).sum ≤ 8) (hdg : decode cc g.pc = .ok (.invokevirtual index, 3)) (hf : cells + mc ≤ R.cells ∧ slots + ms ≤ R.slots) :
    va_Run p l e R s m args below meth c H locs cells slots mc ms g rest (Qc (Value.ref b :: As).toArray) free := by
  obtain ⟨⟨hrc, hrs, hfr, hlo, hws, hcw⟩, hcode, hini, hy, hlen, hl, hin, hse⟩ := cw
  have hK : Back l R p e below s args y 3 8 (PreOf R mc ms Pc) (PostOf Qc mc ms free) := va_backW (hh := hh) (bytes := bytes) (maxL := maxL) (ret := ret) hM hp.1 hrc hrs hfr hlo hws hcw (fun a' U hW => word_at hW (Or.inl (by first | rfl | simp [Cond.onTables, Cond.keeps, Cond.steady])) hini)
  obtain ⟨hx, hb, hml, ho, -⟩ := S
  obtain ⟨-, ⟨cellB, hcB, hoB, hclB⟩, hPc⟩ := hp
  intro T hT X
  obtain ⟨v, vm₁, ⟨U', l2, c2, s2⟩, hW₁, X', ⟨g', mk, t, L, e1, e2, hq, h1, hL, h2, h3⟩, st⟩ := vx_callVW X hx (C := C) (hh := hh) (bytes := bytes) (maxL := maxL) (ret := ret) ho hl hin hse hcode hy hK (by rw [hT]; exact hcB) hoB hclB hg (hsize.trans hml.symm) (argsL := As) (rest := rest) (fun sig h => hn.trans (hlen sig h)) hstack hW (by rw [hb]; exact hdg)
    (fun vm₁ hW₁ => ⟨hf.1, hf.2, hPc (T.setVm vm₁) hT hW₁⟩)
  dsimp only [Pt.U, Pt.locs, Pt.cells, Pt.slots] at X' e1 e2 h1 h2 h3 st
  subst h1; subst h2; subst h3
  exact ⟨v, (T.setVm vm₁).calling g' mk (Value.ref b :: As).toArray, t, U', L, hT, X', hL, e1, e2, hq, st⟩
section
variable {y : MethodName} {bytes cc : ByteArray} {maxL nL mc ms n index : Nat} {ret : Option FieldType} {ws : List Cond} {rm : Room} {Pc : Array Value → State → Prop} {Qc : Array Value → State → Outcome → State → Prop} {XC : String → State → State → Prop} {free : Addr → Prop} {Ts : List Cond} {own C : String} {b : Addr} {As rest : List Value} {g : JFrame}
theorem vx_runVX {hh : List (Nat × Nat × Nat × Nat)} (S : CallFix p m c cc nL s args Ts own) (hM : vx_Met l y ws rm Pc Qc XC mc ms free) (cw : vx_CVW R s args own C index y bytes maxL ret hh ws rm mc ms n) (hp : PreV s H C b Pc As)
    (hg : g.method = m) (hn : As.length = n) (hsize : g.locals.size = nL) (hstack : g.stack = As.reverse ++ .ref b :: rest) (hW : 2 * g.monitorRoom + (rest.map fun v => v.category).sum ≤ 8) (hdg : decode cc g.pc = .ok (.invokevirtual index, 3)) (hf : cells + mc ≤ R.cells ∧ slots + ms ≤ R.slots) :
    vx_Run p l e R s m args below meth c H locs cells slots mc ms g rest (Qc (Value.ref b :: As).toArray) XC free := by
  obtain ⟨⟨hrc, hrs, hfr, hlo, hws, hcw⟩, hcode, hini, hy, hlen, hl, hin, hse⟩ := cw
  have hK : vx_Back l R p e below s args y 3 8 (PreOf R mc ms Pc) (PostOf Qc mc ms free) (vx_Post XC mc ms free) := vx_backW (hh := hh) (bytes := bytes) (maxL := maxL) (ret := ret) hM hp.1 hrc hrs hfr hlo hws hcw (fun a' U hW => word_at hW (Or.inl (by first | rfl | simp [Cond.onTables, Cond.keeps, Cond.steady])) hini)
  obtain ⟨hx, hb, hml, ho, -⟩ := S
  obtain ⟨-, ⟨cellB, hcB, hoB, hclB⟩, hPc⟩ := hp
  intro T hT X
  rcases vx_callVX X hx (C := C) (hh := hh) (bytes := bytes) (maxL := maxL) (ret := ret) ho hl hin hse hcode hy hK (by rw [hT]; exact hcB) hoB hclB hg (hsize.trans hml.symm) (argsL := As) (rest := rest) (fun sig h => hn.trans (hlen sig h)) hstack hW (by rw [hb]; exact hdg)
    (fun vm₁ hW₁ => ⟨hf.1, hf.2, hPc (T.setVm vm₁) hT hW₁⟩) with ⟨v, vm₁, ⟨U', l2, c2, s2⟩, hW₁, X', ⟨g', mk, t, L, e1, e2, hq, h1, hL, h2, h3⟩, st⟩ | ⟨q, vm₁, ⟨U', l2, c2, s2⟩, hW₁, X', ⟨g', mk, t, L, E, ce, e1, e2, hq, hce, hcv, hcl, h1, hL, h2, h3⟩, st⟩
  · dsimp only [Pt.U, Pt.locs, Pt.cells, Pt.slots] at X' e1 e2 h1 h2 h3 st
    subst h1; subst h2; subst h3
    exact Or.inl ⟨v, (T.setVm vm₁).calling g' mk (Value.ref b :: As).toArray, t, U', L, hT, X', hL, e1, e2, hq, st⟩
  · dsimp only [Pt.U, Pt.locs, Pt.cells, Pt.slots] at X' e1 e2 h1 h2 h3 st hcl
    subst h1; subst h2; subst h3
    exact Or.inr ⟨q, (T.setVm vm₁).calling g' mk (Value.ref b :: As).toArray, t, U', L, E, ce, hT, X', hL, e1, e2, hq, hce, hcv, vx_cls hW₁ hcl, st⟩
theorem vx_runSX {hh : List (Nat × Nat × Nat × Nat)} (S : CallFix p m c cc nL s args Ts own) (hM : vx_Met l y ws rm Pc Qc XC mc ms free) (cw : vx_CSW R s args own index y bytes maxL ret hh ws rm mc ms n) (hp : PreS s H Pc As)
    (hg : g.method = m) (hn : As.length = n) (hsize : g.locals.size = nL) (hstack : g.stack = As.reverse ++ rest) (hW : 2 * g.monitorRoom + (rest.map fun v => v.category).sum ≤ 8) (hdg : decode cc g.pc = .ok (.invokestatic index, 3)) (hf : cells + mc ≤ R.cells ∧ slots + ms ≤ R.slots) :
    vx_Run p l e R s m args below meth c H locs cells slots mc ms g rest (Qc As.toArray) XC free := by
  obtain ⟨⟨hrc, hrs, hfr, hlo, hws, hcw⟩, hcode, hini, hy, hlen, hl, hstt⟩ := cw
  have hK : vx_Back l R p e below s args y 3 8 (PreOf R mc ms Pc) (PostOf Qc mc ms free) (vx_Post XC mc ms free) := vx_backW (hh := hh) (bytes := bytes) (maxL := maxL) (ret := ret) hM hp.1 hrc hrs hfr hlo hws hcw (fun a' U hW => word_at hW (Or.inl (by first | rfl | simp [Cond.onTables, Cond.keeps, Cond.steady])) hini)
  obtain ⟨hx, hb, hml, ho, -⟩ := S
  intro T hT X
  rcases vx_callSX X hx (hh := hh) (bytes := bytes) (maxL := maxL) (ret := ret) ho hl hstt hini hcode hy hK hg (hsize.trans hml.symm) (argsL := As) (rest := rest) (fun sig h => hn.trans (hlen sig h)) hstack hW (by rw [hb]; exact hdg)
    (fun vm₁ hW₁ => ⟨hf.1, hf.2, hp.2 (T.setVm vm₁) hT hW₁⟩) with ⟨v, vm₁, ⟨U', l2, c2, s2⟩, hW₁, X', ⟨g', mk, t, L, e1, e2, hq, h1, hL, h2, h3⟩, st⟩ | ⟨q, vm₁, ⟨U', l2, c2, s2⟩, hW₁, X', ⟨g', mk, t, L, E, ce, e1, e2, hq, hce, hcv, hcl, h1, hL, h2, h3⟩, st⟩
  · dsimp only [Pt.U, Pt.locs, Pt.cells, Pt.slots] at X' e1 e2 h1 h2 h3 st
    subst h1; subst h2; subst h3
    exact Or.inl ⟨v, (T.setVm vm₁).calling g' mk As.toArray, t, U', L, hT, X', hL, e1, e2, hq, st⟩
  · dsimp only [Pt.U, Pt.locs, Pt.cells, Pt.slots] at X' e1 e2 h1 h2 h3 st hcl
    subst h1; subst h2; subst h3
    exact Or.inr ⟨q, (T.setVm vm₁).calling g' mk As.toArray, t, U', L, E, ce, hT, X', hL, e1, e2, hq, hce, hcv, vx_cls hW₁ hcl, st⟩
end
end VXH
theorem vx_ofWH {l : Launch} {y : MethodName} {ws ws' : List Cond} {rm : Room} {Pc : Array Value → State → Prop} {Qc : Array Value → State → Outcome → State → Prop} {XC : String → State → State → Prop} {mc ms : Nat} {free : Addr → Prop} {cc : ByteArray} {maxL : Nat} {ret : Option FieldType} {hh : List (Nat × Nat × Nat × Nat)}
    (hy : plainName y.cls = true) (hw : ws = Cond.codeWith y cc maxL ret hh :: ws')
    (body : ∀ p e s m args below meth c s₁, BodyLoose p l y (headSpec ws rm) cc maxL ret e s m args below meth c s₁ → c.maxLocals = maxL → Pc args s →
      W p l e (headSpec ws rm).room s m args below meth c s.heap [] 0 0 (vx_MQ below Qc XC args s mc ms free) (entryFrame m args maxL)) : vx_Met l y ws rm Pc Qc XC mc ms free := by
  refine MetFree.of_bodyS (code := cc) (maxLocals := maxL) (ret := ret) hy ?_ ?_
  · intro args s m h hn
    obtain ⟨m9, meth, c, hn9, h1, h2, h3, h4, -, h5, h6, -⟩ := Cond.codeWith_spec (atoms_spec (ws := ws) h _ (by rw [hw]; exact List.mem_cons_self))
    cases hn.symm.trans hn9
    exact ⟨meth, c, h1, h2, h3, h4, h5, h6⟩
  · intro p e s m args below meth c s₁ B hml hP _
    have hh0 : s₁.heap = s.heap := by rw [B.state]; rfl
    obtain ⟨t, a1, o, b1, b2, b3⟩ := body p e s m args below meth c s₁ B hml hP s₁ hh0 (Stand.of_body B)
    exact ⟨t, o, a1, b1, b2, b3⟩
end
section
/-! numbers: every int and long of a walk is told by a whole number z, as zi z and zl z -/
def zi (z : Int) : Int32 := Int32.ofInt z
def zl (z : Int) : Int64 := Int64.ofInt z
theorem zi_add (a b : Int) : zi a + zi b = zi (a + b) := (Int32.ofInt_add a b).symm
theorem zi_sub (a b : Int) : zi a - zi b = zi (a - b) := (Int32.ofInt_sub a b).symm
theorem zi_mul (a b : Int) : zi a * zi b = zi (a * b) := (Int32.ofInt_mul a b).symm
theorem zi_neg (a : Int) : -zi a = zi (-a) := Int32.neg_ofInt
theorem zl_add (a b : Int) : zl a + zl b = zl (a + b) := (Int64.ofInt_add a b).symm
theorem zl_sub (a b : Int) : zl a - zl b = zl (a - b) := (Int64.ofInt_sub a b).symm
theorem zl_mul (a b : Int) : zl a * zl b = zl (a * b) := (Int64.ofInt_mul a b).symm
theorem zl_neg (a : Int) : -zl a = zl (-a) := Int64.neg_ofInt
theorem zi_toInt {a : Int} (h1 : -2147483648 ≤ a) (h2 : a < 2147483648) : (zi a).toInt = a := Int32.toInt_ofInt_of_le (by omega) (by omega)
theorem zl_toInt {a : Int} (h1 : -9223372036854775808 ≤ a) (h2 : a < 9223372036854775808) : (zl a).toInt = a := Int64.toInt_ofInt_of_le (by omega) (by omega)
theorem zi_of (x : Int32) : x = zi x.toInt := (Int32.ofInt_toInt x).symm
theorem zl_of (x : Int64) : x = zl x.toInt := (Int64.ofInt_toInt x).symm
theorem zi_lt {a b : Int} (h1 : -2147483648 ≤ a) (h2 : a < 2147483648) (h3 : -2147483648 ≤ b) (h4 : b < 2147483648) : zi a < zi b ↔ a < b := by
  rw [Int32.lt_iff_toInt_lt, zi_toInt h1 h2, zi_toInt h3 h4]
theorem zi_le {a b : Int} (h1 : -2147483648 ≤ a) (h2 : a < 2147483648) (h3 : -2147483648 ≤ b) (h4 : b < 2147483648) : zi a ≤ zi b ↔ a ≤ b := by
  rw [Int32.le_iff_toInt_le, zi_toInt h1 h2, zi_toInt h3 h4]
theorem zi_eq {a b : Int} (h1 : -2147483648 ≤ a) (h2 : a < 2147483648) (h3 : -2147483648 ≤ b) (h4 : b < 2147483648) : zi a = zi b ↔ a = b := by
  rw [← Int32.toInt_inj, zi_toInt h1 h2, zi_toInt h3 h4]
theorem zl_lt {a b : Int} (h1 : -9223372036854775808 ≤ a) (h2 : a < 9223372036854775808) (h3 : -9223372036854775808 ≤ b) (h4 : b < 9223372036854775808) : zl a < zl b ↔ a < b := by
  rw [Int64.lt_iff_toInt_lt, zl_toInt h1 h2, zl_toInt h3 h4]
theorem zl_eq {a b : Int} (h1 : -9223372036854775808 ≤ a) (h2 : a < 9223372036854775808) (h3 : -9223372036854775808 ≤ b) (h4 : b < 9223372036854775808) : zl a = zl b ↔ a = b := by
  rw [← Int64.toInt_inj, zl_toInt h1 h2, zl_toInt h3 h4]
theorem zi_div {a b : Int} (h1 : -2147483648 ≤ a) (h2 : a < 2147483648) (h3 : 0 < b) (h4 : b < 2147483648) : zi a / zi b = zi (a.tdiv b) := by
  have hb : zi b ≠ -1 := fun q => by
    have h := congrArg Int32.toInt q
    rw [zi_toInt (by omega) h4] at h
    have h5 : (-1 : Int32).toInt = -1 := by decide
    omega
  rw [zi_of (zi a / zi b), Int32.toInt_div_of_ne_right _ _ hb, zi_toInt h1 h2, zi_toInt (by omega) h4]
theorem zl_div {a b : Int} (h1 : -9223372036854775808 ≤ a) (h2 : a < 9223372036854775808) (h3 : 0 < b) (h4 : b < 9223372036854775808) : zl a / zl b = zl (a.tdiv b) := by
  have hb : zl b ≠ -1 := fun q => by
    have h := congrArg Int64.toInt q
    rw [zl_toInt (by omega) h4] at h
    have h5 : (-1 : Int64).toInt = -1 := by decide
    omega
  rw [zl_of (zl a / zl b), Int64.toInt_div_of_ne_right _ _ hb, zl_toInt h1 h2, zl_toInt (by omega) h4]
theorem zl_rem {a b : Int} (h1 : -9223372036854775808 ≤ a) (h2 : a < 9223372036854775808) (h3 : 0 < b) (h4 : b < 9223372036854775808) : zl a - zl a / zl b * zl b = zl (a.tmod b) := by
  rw [zl_div h1 h2 h3 h4, zl_mul, zl_sub]
  congr 1
  have := Int.tmod_add_mul_tdiv a b
  rw [Int.mul_comm]
  omega
theorem zi_l {a : Int} (h1 : -2147483648 ≤ a) (h2 : a < 2147483648) : (zi a).toInt64 = zl a := by
  rw [zl_of (zi a).toInt64, Int32.toInt_toInt64, zi_toInt h1 h2]
theorem zl_i (a : Int) : (zl a).toInt32 = zi a := Int64.toInt32_ofInt
theorem zi_cl {n : Nat} (h : n < 2147483648) : (zi (n : Int)).toNatClampNeg = n := by
  show (Int32.ofInt (n : Int)).toNatClampNeg = n
  rw [Int32.toNatClampNeg_ofInt_of_le (by omega) (by omega)]
  exact Int.toNat_natCast n
theorem zi_nat (n : Nat) : zi (n : Int) = nI n := Int32.ofInt_eq_ofNat
theorem zi_in {n N : Nat} (h : n < N) (hN : N < 2147483648) : vp_in (zi (n : Int)) N := by
  rw [zi_nat]; exact vp_in_nI h hN
theorem zi_bd (x : Int32) : -2147483648 ≤ x.toInt ∧ x.toInt < 2147483648 := ⟨by have := x.le_toInt; omega, by have := x.toInt_lt; omega⟩
theorem zi_0 : zi 0 = 0 := by decide
theorem zl_0 : zl 0 = 0 := by decide
theorem zl_cmp {a b : Int} (h1 : -9223372036854775808 ≤ a) (h2 : a < 9223372036854775808) (h3 : -9223372036854775808 ≤ b) (h4 : b < 9223372036854775808) : lg_cmp (zl a) (zl b) = zi (if a < b then -1 else if a = b then 0 else 1) := by
  unfold lg_cmp
  simp only [gt_iff_lt, Int64.lt_iff_toInt_lt, ← Int64.toInt_inj, zl_toInt h1 h2, zl_toInt h3 h4]
  by_cases q1 : b < a
  · rw [if_pos q1, if_neg (by omega), if_neg (by omega)]; rfl
  · rw [if_neg q1]
    by_cases q2 : a = b
    · rw [if_pos q2, if_neg (by omega), if_pos q2]; rfl
    · rw [if_neg q2, if_pos (by omega)]; rfl
section ZZ
variable {p : Program} {l : Launch} {e : Env} {R : Room} {s : State} {m : MethodId} {args : Array Value} {below : List Frame} {meth : Method} {c : Code} {H : Heap} {locs : List Loc} {cells slots : Nat} {Q : State → Prop} {pc : Nat} {ls : Array Slot} {rest : List Value} {cc : ByteArray}
theorem zz_topi {x : Int32} {z : Int} (h : x = zi z) (k : W p l e R s m args below meth c H locs cells slots Q (F0 m pc ls (.int (zi z) :: rest))) : W p l e R s m args below meth c H locs cells slots Q (F0 m pc ls (.int x :: rest)) := by
  rw [h]; exact k
theorem zz_topl {x : Int64} {z : Int} (h : x = zl z) (k : W p l e R s m args below meth c H locs cells slots Q (F0 m pc ls (.long (zl z) :: rest))) : W p l e R s m args below meth c H locs cells slots Q (F0 m pc ls (.long x :: rest)) := by
  rw [h]; exact k
theorem zz_iadd (hexec : p.tables.exec = Jvm.exec) (hb : c.code = cc) {x y : Int} (hdg : decode cc pc = .ok (.iadd, 1)) (k : W p l e R s m args below meth c H locs cells slots Q (F0 m (pc + 1) ls (.int (zi (x + y)) :: rest))) : W p l e R s m args below meth c H locs cells slots Q (F0 m pc ls (.int (zi y) :: .int (zi x) :: rest)) := lv_iadd hexec hb hdg (zz_topi (zi_add x y) k)
theorem zz_isub (hexec : p.tables.exec = Jvm.exec) (hb : c.code = cc) {x y : Int} (hdg : decode cc pc = .ok (.isub, 1)) (k : W p l e R s m args below meth c H locs cells slots Q (F0 m (pc + 1) ls (.int (zi (x - y)) :: rest))) : W p l e R s m args below meth c H locs cells slots Q (F0 m pc ls (.int (zi y) :: .int (zi x) :: rest)) := lv_isub hexec hb hdg (zz_topi (zi_sub x y) k)
theorem zz_imul (hexec : p.tables.exec = Jvm.exec) (hb : c.code = cc) {x y : Int} (hdg : decode cc pc = .ok (.imul, 1)) (k : W p l e R s m args below meth c H locs cells slots Q (F0 m (pc + 1) ls (.int (zi (x * y)) :: rest))) : W p l e R s m args below meth c H locs cells slots Q (F0 m pc ls (.int (zi y) :: .int (zi x) :: rest)) := lv_imul hexec hb hdg (zz_topi (zi_mul x y) k)
theorem zz_ineg (hexec : p.tables.exec = Jvm.exec) (hb : c.code = cc) {x : Int} (hdg : decode cc pc = .ok (.ineg, 1)) (k : W p l e R s m args below meth c H locs cells slots Q (F0 m (pc + 1) ls (.int (zi (-x)) :: rest))) : W p l e R s m args below meth c H locs cells slots Q (F0 m pc ls (.int (zi x) :: rest)) := lv_ineg hexec hb hdg (zz_topi (zi_neg x) k)
theorem zz_ladd (hexec : p.tables.exec = Jvm.exec) (hb : c.code = cc) {x y : Int} (hdg : decode cc pc = .ok (.ladd, 1)) (k : W p l e R s m args below meth c H locs cells slots Q (F0 m (pc + 1) ls (.long (zl (x + y)) :: rest))) : W p l e R s m args below meth c H locs cells slots Q (F0 m pc ls (.long (zl y) :: .long (zl x) :: rest)) := lv_ladd hexec hb hdg (zz_topl (zl_add x y) k)
theorem zz_lsub (hexec : p.tables.exec = Jvm.exec) (hb : c.code = cc) {x y : Int} (hdg : decode cc pc = .ok (.lsub, 1)) (k : W p l e R s m args below meth c H locs cells slots Q (F0 m (pc + 1) ls (.long (zl (x - y)) :: rest))) : W p l e R s m args below meth c H locs cells slots Q (F0 m pc ls (.long (zl y) :: .long (zl x) :: rest)) := lv_lsub hexec hb hdg (zz_topl (zl_sub x y) k)
theorem zz_lmul (hexec : p.tables.exec = Jvm.exec) (hb : c.code = cc) {x y : Int} (hdg : decode cc pc = .ok (.lmul, 1)) (k : W p l e R s m args below meth c H locs cells slots Q (F0 m (pc + 1) ls (.long (zl (x * y)) :: rest))) : W p l e R s m args below meth c H locs cells slots Q (F0 m pc ls (.long (zl y) :: .long (zl x) :: rest)) := lv_lmul hexec hb hdg (zz_topl (zl_mul x y) k)
theorem zz_lneg (hexec : p.tables.exec = Jvm.exec) (hb : c.code = cc) {x : Int} (hdg : decode cc pc = .ok (.lneg, 1)) (k : W p l e R s m args below meth c H locs cells slots Q (F0 m (pc + 1) ls (.long (zl (-x)) :: rest))) : W p l e R s m args below meth c H locs cells slots Q (F0 m pc ls (.long (zl x) :: rest)) := lv_lneg hexec hb hdg (zz_topl (zl_neg x) k)
theorem zz_idiv (hexec : p.tables.exec = Jvm.exec) (hb : c.code = cc) {x y : Int} (h1 : -2147483648 ≤ x ∧ x < 2147483648) (h2 : 0 < y ∧ y < 2147483648) (hdg : decode cc pc = .ok (.idiv, 1)) (k : W p l e R s m args below meth c H locs cells slots Q (F0 m (pc + 1) ls (.int (zi (x.tdiv y)) :: rest))) : W p l e R s m args below meth c H locs cells slots Q (F0 m pc ls (.int (zi y) :: .int (zi x) :: rest)) :=
  lv_idiv hexec hb hdg (fun q => by have := congrArg Int32.toInt q; rw [zi_toInt (by omega) (by omega)] at this; have h5 : (0 : Int32).toInt = 0 := by decide
                                    omega) (zz_topi (zi_div h1.1 h1.2 h2.1 h2.2) k)
theorem zz_ldiv (hexec : p.tables.exec = Jvm.exec) (hb : c.code = cc) {x y : Int} (h1 : -9223372036854775808 ≤ x ∧ x < 9223372036854775808) (h2 : 0 < y ∧ y < 9223372036854775808) (hdg : decode cc pc = .ok (.ldiv, 1)) (k : W p l e R s m args below meth c H locs cells slots Q (F0 m (pc + 1) ls (.long (zl (x.tdiv y)) :: rest))) : W p l e R s m args below meth c H locs cells slots Q (F0 m pc ls (.long (zl y) :: .long (zl x) :: rest)) :=
  lv_ldiv hexec hb hdg (fun q => by have := congrArg Int64.toInt q; rw [zl_toInt (by omega) (by omega)] at this; have h5 : (0 : Int64).toInt = 0 := by decide
                                    omega) (zz_topl (zl_div h1.1 h1.2 h2.1 h2.2) k)
theorem zz_lrem (hexec : p.tables.exec = Jvm.exec) (hb : c.code = cc) {x y : Int} (h1 : -9223372036854775808 ≤ x ∧ x < 9223372036854775808) (h2 : 0 < y ∧ y < 9223372036854775808) (hdg : decode cc pc = .ok (.lrem, 1)) (k : W p l e R s m args below meth c H locs cells slots Q (F0 m (pc + 1) ls (.long (zl (x.tmod y)) :: rest))) : W p l e R s m args below meth c H locs cells slots Q (F0 m pc ls (.long (zl y) :: .long (zl x) :: rest)) :=
  lv_lrem hexec hb hdg (fun q => by have := congrArg Int64.toInt q; rw [zl_toInt (by omega) (by omega)] at this; have h5 : (0 : Int64).toInt = 0 := by decide
                                    omega) (zz_topl (zl_rem h1.1 h1.2 h2.1 h2.2) k)
theorem zz_i2l (hexec : p.tables.exec = Jvm.exec) (hb : c.code = cc) {x : Int} (h1 : -2147483648 ≤ x ∧ x < 2147483648) (hdg : decode cc pc = .ok (.i2l, 1)) (k : W p l e R s m args below meth c H locs cells slots Q (F0 m (pc + 1) ls (.long (zl x) :: rest))) : W p l e R s m args below meth c H locs cells slots Q (F0 m pc ls (.int (zi x) :: rest)) := lv_i2l hexec hb hdg (zi_l h1.1 h1.2) k
theorem zz_l2i (hexec : p.tables.exec = Jvm.exec) (hb : c.code = cc) {x : Int} (hdg : decode cc pc = .ok (.l2i, 1)) (k : W p l e R s m args below meth c H locs cells slots Q (F0 m (pc + 1) ls (.int (zi x) :: rest))) : W p l e R s m args below meth c H locs cells slots Q (F0 m pc ls (.long (zl x) :: rest)) := lv_l2i hexec hb hdg (zl_i x) k
theorem zz_icmp_eq (hexec : p.tables.exec = Jvm.exec) (hb : c.code = cc) {x y : Int} {off : Int} {tgt : Nat} (h1 : -2147483648 ≤ x ∧ x < 2147483648) (h2 : -2147483648 ≤ y ∧ y < 2147483648) (hdg : decode cc pc = .ok (.if_icmp .eq off, 3)) (ht : (pc : Int) + off = (tgt : Int)) (kt : x = y → W p l e R s m args below meth c H locs cells slots Q (F0 m tgt ls rest)) (kf : ¬ x = y → W p l e R s m args below meth c H locs cells slots Q (F0 m (pc + 3) ls rest)) : W p l e R s m args below meth c H locs cells slots Q (F0 m pc ls (.int (zi y) :: .int (zi x) :: rest)) :=
  lv_icmp_eq hexec hb hdg ht (fun q => kt ((zi_eq h1.1 h1.2 h2.1 h2.2).mp q)) (fun q => kf (fun z => q ((zi_eq h1.1 h1.2 h2.1 h2.2).mpr z)))
theorem zz_icmp_ne (hexec : p.tables.exec = Jvm.exec) (hb : c.code = cc) {x y : Int} {off : Int} {tgt : Nat} (h1 : -2147483648 ≤ x ∧ x < 2147483648) (h2 : -2147483648 ≤ y ∧ y < 2147483648) (hdg : decode cc pc = .ok (.if_icmp .ne off, 3)) (ht : (pc : Int) + off = (tgt : Int)) (kt : ¬ x = y → W p l e R s m args below meth c H locs cells slots Q (F0 m tgt ls rest)) (kf : x = y → W p l e R s m args below meth c H locs cells slots Q (F0 m (pc + 3) ls rest)) : W p l e R s m args below meth c H locs cells slots Q (F0 m pc ls (.int (zi y) :: .int (zi x) :: rest)) :=
  lv_icmp_ne hexec hb hdg ht (fun q => kt (fun z => q ((zi_eq h1.1 h1.2 h2.1 h2.2).mpr z))) (fun q => kf ((zi_eq h1.1 h1.2 h2.1 h2.2).mp q))
theorem zz_icmp_lt (hexec : p.tables.exec = Jvm.exec) (hb : c.code = cc) {x y : Int} {off : Int} {tgt : Nat} (h1 : -2147483648 ≤ x ∧ x < 2147483648) (h2 : -2147483648 ≤ y ∧ y < 2147483648) (hdg : decode cc pc = .ok (.if_icmp .lt off, 3)) (ht : (pc : Int) + off = (tgt : Int)) (kt : x < y → W p l e R s m args below meth c H locs cells slots Q (F0 m tgt ls rest)) (kf : ¬ x < y → W p l e R s m args below meth c H locs cells slots Q (F0 m (pc + 3) ls rest)) : W p l e R s m args below meth c H locs cells slots Q (F0 m pc ls (.int (zi y) :: .int (zi x) :: rest)) :=
  lv_icmp_lt hexec hb hdg ht (fun q => kt ((zi_lt h1.1 h1.2 h2.1 h2.2).mp q)) (fun q => kf (fun z => q ((zi_lt h1.1 h1.2 h2.1 h2.2).mpr z)))
theorem zz_icmp_ge (hexec : p.tables.exec = Jvm.exec) (hb : c.code = cc) {x y : Int} {off : Int} {tgt : Nat} (h1 : -2147483648 ≤ x ∧ x < 2147483648) (h2 : -2147483648 ≤ y ∧ y < 2147483648) (hdg : decode cc pc = .ok (.if_icmp .ge off, 3)) (ht : (pc : Int) + off = (tgt : Int)) (kt : y ≤ x → W p l e R s m args below meth c H locs cells slots Q (F0 m tgt ls rest)) (kf : ¬ y ≤ x → W p l e R s m args below meth c H locs cells slots Q (F0 m (pc + 3) ls rest)) : W p l e R s m args below meth c H locs cells slots Q (F0 m pc ls (.int (zi y) :: .int (zi x) :: rest)) :=
  lv_icmp_ge hexec hb hdg ht (fun q => kt ((zi_le h2.1 h2.2 h1.1 h1.2).mp q)) (fun q => kf (fun z => q ((zi_le h2.1 h2.2 h1.1 h1.2).mpr z)))
theorem zz_icmp_gt (hexec : p.tables.exec = Jvm.exec) (hb : c.code = cc) {x y : Int} {off : Int} {tgt : Nat} (h1 : -2147483648 ≤ x ∧ x < 2147483648) (h2 : -2147483648 ≤ y ∧ y < 2147483648) (hdg : decode cc pc = .ok (.if_icmp .gt off, 3)) (ht : (pc : Int) + off = (tgt : Int)) (kt : y < x → W p l e R s m args below meth c H locs cells slots Q (F0 m tgt ls rest)) (kf : ¬ y < x → W p l e R s m args below meth c H locs cells slots Q (F0 m (pc + 3) ls rest)) : W p l e R s m args below meth c H locs cells slots Q (F0 m pc ls (.int (zi y) :: .int (zi x) :: rest)) :=
  lv_icmp_gt hexec hb hdg ht (fun q => kt ((zi_lt h2.1 h2.2 h1.1 h1.2).mp q)) (fun q => kf (fun z => q ((zi_lt h2.1 h2.2 h1.1 h1.2).mpr z)))
theorem zz_icmp_le (hexec : p.tables.exec = Jvm.exec) (hb : c.code = cc) {x y : Int} {off : Int} {tgt : Nat} (h1 : -2147483648 ≤ x ∧ x < 2147483648) (h2 : -2147483648 ≤ y ∧ y < 2147483648) (hdg : decode cc pc = .ok (.if_icmp .le off, 3)) (ht : (pc : Int) + off = (tgt : Int)) (kt : x ≤ y → W p l e R s m args below meth c H locs cells slots Q (F0 m tgt ls rest)) (kf : ¬ x ≤ y → W p l e R s m args below meth c H locs cells slots Q (F0 m (pc + 3) ls rest)) : W p l e R s m args below meth c H locs cells slots Q (F0 m pc ls (.int (zi y) :: .int (zi x) :: rest)) :=
  lv_icmp_le hexec hb hdg ht (fun q => kt ((zi_le h1.1 h1.2 h2.1 h2.2).mp q)) (fun q => kf (fun z => q ((zi_le h1.1 h1.2 h2.1 h2.2).mpr z)))
theorem zi_lt0 {a : Int} (h1 : -2147483648 ≤ a) (h2 : a < 2147483648) : zi a < 0 ↔ a < 0 := by rw [← zi_0]; exact zi_lt h1 h2 (by decide) (by decide)
theorem zi_gt0 {a : Int} (h1 : -2147483648 ≤ a) (h2 : a < 2147483648) : 0 < zi a ↔ 0 < a := by rw [← zi_0]; exact zi_lt (by decide) (by decide) h1 h2
theorem zi_le0 {a : Int} (h1 : -2147483648 ≤ a) (h2 : a < 2147483648) : zi a ≤ 0 ↔ a ≤ 0 := by rw [← zi_0]; exact zi_le h1 h2 (by decide) (by decide)
theorem zi_ge0 {a : Int} (h1 : -2147483648 ≤ a) (h2 : a < 2147483648) : 0 ≤ zi a ↔ 0 ≤ a := by rw [← zi_0]; exact zi_le (by decide) (by decide) h1 h2
theorem zi_eq0 {a : Int} (h1 : -2147483648 ≤ a) (h2 : a < 2147483648) : zi a = 0 ↔ a = 0 := by rw [← zi_0]; exact zi_eq h1 h2 (by decide) (by decide)
theorem zz_if_eq (hexec : p.tables.exec = Jvm.exec) (hb : c.code = cc) {x : Int} {off : Int} {tgt : Nat} (h1 : -2147483648 ≤ x ∧ x < 2147483648) (hdg : decode cc pc = .ok (.ifCond .eq off, 3)) (ht : (pc : Int) + off = (tgt : Int)) (kt : x = 0 → W p l e R s m args below meth c H locs cells slots Q (F0 m tgt ls rest)) (kf : ¬ x = 0 → W p l e R s m args below meth c H locs cells slots Q (F0 m (pc + 3) ls rest)) : W p l e R s m args below meth c H locs cells slots Q (F0 m pc ls (.int (zi x) :: rest)) :=
  lv_if_eq hexec hb hdg ht (fun q => kt ((zi_eq0 h1.1 h1.2).mp q)) (fun q => kf (fun z => q ((zi_eq0 h1.1 h1.2).mpr z)))
theorem zz_if_ne (hexec : p.tables.exec = Jvm.exec) (hb : c.code = cc) {x : Int} {off : Int} {tgt : Nat} (h1 : -2147483648 ≤ x ∧ x < 2147483648) (hdg : decode cc pc = .ok (.ifCond .ne off, 3)) (ht : (pc : Int) + off = (tgt : Int)) (kt : ¬ x = 0 → W p l e R s m args below meth c H locs cells slots Q (F0 m tgt ls rest)) (kf : x = 0 → W p l e R s m args below meth c H locs cells slots Q (F0 m (pc + 3) ls rest)) : W p l e R s m args below meth c H locs cells slots Q (F0 m pc ls (.int (zi x) :: rest)) :=
  lv_if_ne hexec hb hdg ht (fun q => kt (fun z => q ((zi_eq0 h1.1 h1.2).mpr z))) (fun q => kf ((zi_eq0 h1.1 h1.2).mp q))
theorem zz_if_lt (hexec : p.tables.exec = Jvm.exec) (hb : c.code = cc) {x : Int} {off : Int} {tgt : Nat} (h1 : -2147483648 ≤ x ∧ x < 2147483648) (hdg : decode cc pc = .ok (.ifCond .lt off, 3)) (ht : (pc : Int) + off = (tgt : Int)) (kt : x < 0 → W p l e R s m args below meth c H locs cells slots Q (F0 m tgt ls rest)) (kf : ¬ x < 0 → W p l e R s m args below meth c H locs cells slots Q (F0 m (pc + 3) ls rest)) : W p l e R s m args below meth c H locs cells slots Q (F0 m pc ls (.int (zi x) :: rest)) :=
  lv_if_lt hexec hb hdg ht (fun q => kt ((zi_lt0 h1.1 h1.2).mp q)) (fun q => kf (fun z => q ((zi_lt0 h1.1 h1.2).mpr z)))
theorem zz_if_ge (hexec : p.tables.exec = Jvm.exec) (hb : c.code = cc) {x : Int} {off : Int} {tgt : Nat} (h1 : -2147483648 ≤ x ∧ x < 2147483648) (hdg : decode cc pc = .ok (.ifCond .ge off, 3)) (ht : (pc : Int) + off = (tgt : Int)) (kt : 0 ≤ x → W p l e R s m args below meth c H locs cells slots Q (F0 m tgt ls rest)) (kf : ¬ 0 ≤ x → W p l e R s m args below meth c H locs cells slots Q (F0 m (pc + 3) ls rest)) : W p l e R s m args below meth c H locs cells slots Q (F0 m pc ls (.int (zi x) :: rest)) :=
  lv_if_ge hexec hb hdg ht (fun q => kt ((zi_ge0 h1.1 h1.2).mp q)) (fun q => kf (fun z => q ((zi_ge0 h1.1 h1.2).mpr z)))
theorem zz_if_gt (hexec : p.tables.exec = Jvm.exec) (hb : c.code = cc) {x : Int} {off : Int} {tgt : Nat} (h1 : -2147483648 ≤ x ∧ x < 2147483648) (hdg : decode cc pc = .ok (.ifCond .gt off, 3)) (ht : (pc : Int) + off = (tgt : Int)) (kt : 0 < x → W p l e R s m args below meth c H locs cells slots Q (F0 m tgt ls rest)) (kf : ¬ 0 < x → W p l e R s m args below meth c H locs cells slots Q (F0 m (pc + 3) ls rest)) : W p l e R s m args below meth c H locs cells slots Q (F0 m pc ls (.int (zi x) :: rest)) :=
  lv_if_gt hexec hb hdg ht (fun q => kt ((zi_gt0 h1.1 h1.2).mp q)) (fun q => kf (fun z => q ((zi_gt0 h1.1 h1.2).mpr z)))
theorem zz_if_le (hexec : p.tables.exec = Jvm.exec) (hb : c.code = cc) {x : Int} {off : Int} {tgt : Nat} (h1 : -2147483648 ≤ x ∧ x < 2147483648) (hdg : decode cc pc = .ok (.ifCond .le off, 3)) (ht : (pc : Int) + off = (tgt : Int)) (kt : x ≤ 0 → W p l e R s m args below meth c H locs cells slots Q (F0 m tgt ls rest)) (kf : ¬ x ≤ 0 → W p l e R s m args below meth c H locs cells slots Q (F0 m (pc + 3) ls rest)) : W p l e R s m args below meth c H locs cells slots Q (F0 m pc ls (.int (zi x) :: rest)) :=
  lv_if_le hexec hb hdg ht (fun q => kt ((zi_le0 h1.1 h1.2).mp q)) (fun q => kf (fun z => q ((zi_le0 h1.1 h1.2).mpr z)))
theorem zz_lcmp_eq (hexec : p.tables.exec = Jvm.exec) (hb : c.code = cc) {x y : Int} {off : Int} {tgt : Nat} (h1 : -9223372036854775808 ≤ x ∧ x < 9223372036854775808) (h2 : -9223372036854775808 ≤ y ∧ y < 9223372036854775808) (hd0 : decode cc pc = .ok (.lcmp, 1)) (hdg : decode cc (pc + 1) = .ok (.ifCond .eq off, 3)) (ht : ((pc + 1 : Nat) : Int) + off = (tgt : Int)) (kt : x = y → W p l e R s m args below meth c H locs cells slots Q (F0 m tgt ls rest)) (kf : ¬ x = y → W p l e R s m args below meth c H locs cells slots Q (F0 m (pc + 1 + 3) ls rest)) : W p l e R s m args below meth c H locs cells slots Q (F0 m pc ls (.long (zl y) :: .long (zl x) :: rest)) := by
  refine W.lcmp hexec hb hd0 ?_
  rw [zl_cmp h1.1 h1.2 h2.1 h2.2]
  refine zz_if_eq hexec hb (by split <;> (try split) <;> decide) hdg ht (fun q => kt ?_) (fun q => kf ?_)
  · revert q; split <;> (try split) <;> (intro q; omega)
  · revert q; split <;> (try split) <;> (intro q; omega)
theorem zz_lcmp_ne (hexec : p.tables.exec = Jvm.exec) (hb : c.code = cc) {x y : Int} {off : Int} {tgt : Nat} (h1 : -9223372036854775808 ≤ x ∧ x < 9223372036854775808) (h2 : -9223372036854775808 ≤ y ∧ y < 9223372036854775808) (hd0 : decode cc pc = .ok (.lcmp, 1)) (hdg : decode cc (pc + 1) = .ok (.ifCond .ne off, 3)) (ht : ((pc + 1 : Nat) : Int) + off = (tgt : Int)) (kt : ¬ x = y → W p l e R s m args below meth c H locs cells slots Q (F0 m tgt ls rest)) (kf : x = y → W p l e R s m args below meth c H locs cells slots Q (F0 m (pc + 1 + 3) ls rest)) : W p l e R s m args below meth c H locs cells slots Q (F0 m pc ls (.long (zl y) :: .long (zl x) :: rest)) := by
  refine W.lcmp hexec hb hd0 ?_
  rw [zl_cmp h1.1 h1.2 h2.1 h2.2]
  refine zz_if_ne hexec hb (by split <;> (try split) <;> decide) hdg ht (fun q => kt ?_) (fun q => kf ?_)
  · revert q; split <;> (try split) <;> (intro q; omega)
  · revert q; split <;> (try split) <;> (intro q; omega)
theorem zz_lcmp_lt (hexec : p.tables.exec = Jvm.exec) (hb : c.code = cc) {x y : Int} {off : Int} {tgt : Nat} (h1 : -9223372036854775808 ≤ x ∧ x < 9223372036854775808) (h2 : -9223372036854775808 ≤ y ∧ y < 9223372036854775808) (hd0 : decode cc pc = .ok (.lcmp, 1)) (hdg : decode cc (pc + 1) = .ok (.ifCond .lt off, 3)) (ht : ((pc + 1 : Nat) : Int) + off = (tgt : Int)) (kt : x < y → W p l e R s m args below meth c H locs cells slots Q (F0 m tgt ls rest)) (kf : ¬ x < y → W p l e R s m args below meth c H locs cells slots Q (F0 m (pc + 1 + 3) ls rest)) : W p l e R s m args below meth c H locs cells slots Q (F0 m pc ls (.long (zl y) :: .long (zl x) :: rest)) := by
  refine W.lcmp hexec hb hd0 ?_
  rw [zl_cmp h1.1 h1.2 h2.1 h2.2]
  refine zz_if_lt hexec hb (by split <;> (try split) <;> decide) hdg ht (fun q => kt ?_) (fun q => kf ?_)
  · revert q; split <;> (try split) <;> (intro q; omega)
  · revert q; split <;> (try split) <;> (intro q; omega)
theorem zz_lcmp_ge (hexec : p.tables.exec = Jvm.exec) (hb : c.code = cc) {x y : Int} {off : Int} {tgt : Nat} (h1 : -9223372036854775808 ≤ x ∧ x < 9223372036854775808) (h2 : -9223372036854775808 ≤ y ∧ y < 9223372036854775808) (hd0 : decode cc pc = .ok (.lcmp, 1)) (hdg : decode cc (pc + 1) = .ok (.ifCond .ge off, 3)) (ht : ((pc + 1 : Nat) : Int) + off = (tgt : Int)) (kt : y ≤ x → W p l e R s m args below meth c H locs cells slots Q (F0 m tgt ls rest)) (kf : ¬ y ≤ x → W p l e R s m args below meth c H locs cells slots Q (F0 m (pc + 1 + 3) ls rest)) : W p l e R s m args below meth c H locs cells slots Q (F0 m pc ls (.long (zl y) :: .long (zl x) :: rest)) := by
  refine W.lcmp hexec hb hd0 ?_
  rw [zl_cmp h1.1 h1.2 h2.1 h2.2]
  refine zz_if_ge hexec hb (by split <;> (try split) <;> decide) hdg ht (fun q => kt ?_) (fun q => kf ?_)
  · revert q; split <;> (try split) <;> (intro q; omega)
  · revert q; split <;> (try split) <;> (intro q; omega)
theorem zz_lcmp_gt (hexec : p.tables.exec = Jvm.exec) (hb : c.code = cc) {x y : Int} {off : Int} {tgt : Nat} (h1 : -9223372036854775808 ≤ x ∧ x < 9223372036854775808) (h2 : -9223372036854775808 ≤ y ∧ y < 9223372036854775808) (hd0 : decode cc pc = .ok (.lcmp, 1)) (hdg : decode cc (pc + 1) = .ok (.ifCond .gt off, 3)) (ht : ((pc + 1 : Nat) : Int) + off = (tgt : Int)) (kt : y < x → W p l e R s m args below meth c H locs cells slots Q (F0 m tgt ls rest)) (kf : ¬ y < x → W p l e R s m args below meth c H locs cells slots Q (F0 m (pc + 1 + 3) ls rest)) : W p l e R s m args below meth c H locs cells slots Q (F0 m pc ls (.long (zl y) :: .long (zl x) :: rest)) := by
  refine W.lcmp hexec hb hd0 ?_
  rw [zl_cmp h1.1 h1.2 h2.1 h2.2]
  refine zz_if_gt hexec hb (by split <;> (try split) <;> decide) hdg ht (fun q => kt ?_) (fun q => kf ?_)
  · revert q; split <;> (try split) <;> (intro q; omega)
  · revert q; split <;> (try split) <;> (intro q; omega)
theorem zz_lcmp_le (hexec : p.tables.exec = Jvm.exec) (hb : c.code = cc) {x y : Int} {off : Int} {tgt : Nat} (h1 : -9223372036854775808 ≤ x ∧ x < 9223372036854775808) (h2 : -9223372036854775808 ≤ y ∧ y < 9223372036854775808) (hd0 : decode cc pc = .ok (.lcmp, 1)) (hdg : decode cc (pc + 1) = .ok (.ifCond .le off, 3)) (ht : ((pc + 1 : Nat) : Int) + off = (tgt : Int)) (kt : x ≤ y → W p l e R s m args below meth c H locs cells slots Q (F0 m tgt ls rest)) (kf : ¬ x ≤ y → W p l e R s m args below meth c H locs cells slots Q (F0 m (pc + 1 + 3) ls rest)) : W p l e R s m args below meth c H locs cells slots Q (F0 m pc ls (.long (zl y) :: .long (zl x) :: rest)) := by
  refine W.lcmp hexec hb hd0 ?_
  rw [zl_cmp h1.1 h1.2 h2.1 h2.2]
  refine zz_if_le hexec hb (by split <;> (try split) <;> decide) hdg ht (fun q => kt ?_) (fun q => kf ?_)
  · revert q; split <;> (try split) <;> (intro q; omega)
  · revert q; split <;> (try split) <;> (intro q; omega)
end ZZ
def zupd (f : Nat → Int) (k : Nat) (v : Int) : Nat → Int := fun j => if j = k then v else f j
theorem zupd_s {f : Nat → Int} {k : Nat} {v : Int} : zupd f k v k = v := if_pos rfl
theorem zupd_n {f : Nat → Int} {k j : Nat} {v : Int} (h : j ≠ k) : zupd f k v j = f j := if_neg h
abbrev zA (f : Nat → Int) : Nat → Int32 := fun j => zi (f j)
abbrev zB (f : Nat → Int) : Nat → Int64 := fun j => zl (f j)
theorem zA_upd (f : Nat → Int) (k : Nat) (v : Int) : upd (zA f) k (zi v) = zA (zupd f k v) := by
  funext j
  show (if j = k then zi v else zi (f j)) = zi (if j = k then v else f j)
  by_cases h : j = k
  · rw [if_pos h, if_pos h]
  · rw [if_neg h, if_neg h]
theorem zB_upd (f : Nat → Int) (k : Nat) (v : Int) : vp_updL (zB f) k (zl v) = zB (zupd f k v) := by
  funext j
  show (if j = k then zl v else zl (f j)) = zl (if j = k then v else f j)
  by_cases h : j = k
  · rw [if_pos h, if_pos h]
  · rw [if_neg h, if_neg h]
section ZW
variable {p : Program} {l : Launch} {e : Env} {R : Room} {s : State} {m : MethodId} {args : Array Value} {below : List Frame} {meth : Method} {c : Code} {H H0 : Heap} {locs : List Loc} {cells slots : Nat} {Q : State → Prop} {pc : Nat} {ls : Array Slot} {rest : List Value} {cc : ByteArray} {D : va_G} {cl : List vw_C} {tys : List (ClassId × FieldType)} {ws : va_W} {A : Nat → Prop} {a : Nat}
theorem zz_iald (hexec : p.tables.exec = Jvm.exec) (hb : c.code = cc) (hK : va_K D cl tys s) (hP : va_P D cl ws H) (q0 t0 : Nat) {cA : ClassId} {n : Nat} {f : Nat → Int} (ha : ws[q0]? = some (a, .inl (cA, n, .inl (zA f)))) (ht : tys[t0]? = some (cA, .int)) {z : Int} (j : Nat) (hz : z = (j : Int)) (hj : j < n) (hn : n < 2147483648) (hdg : decode cc pc = .ok (.iaload, 1))
    (kk : W p l e R s m args below meth c H locs cells slots Q (F0 m (pc + 1) ls (.int (zi (f j)) :: rest))) : W p l e R s m args below meth c H locs cells slots Q (F0 m pc ls (.int (zi z) :: .ref a :: rest)) := by
  subst hz
  refine va_iald hexec hb hK hP q0 t0 ha ht (zi_in hj hn) hdg ?_
  rw [zi_cl (by omega)]
  exact kk
theorem zz_lald (hexec : p.tables.exec = Jvm.exec) (hb : c.code = cc) (hK : va_K D cl tys s) (hP : va_P D cl ws H) (q0 t0 : Nat) {cA : ClassId} {n : Nat} {f : Nat → Int} (ha : ws[q0]? = some (a, .inl (cA, n, .inr (.inl (zB f))))) (ht : tys[t0]? = some (cA, .long)) {z : Int} (j : Nat) (hz : z = (j : Int)) (hj : j < n) (hn : n < 2147483648) (hdg : decode cc pc = .ok (.laload, 1))
    (kk : W p l e R s m args below meth c H locs cells slots Q (F0 m (pc + 1) ls (.long (zl (f j)) :: rest))) : W p l e R s m args below meth c H locs cells slots Q (F0 m pc ls (.int (zi z) :: .ref a :: rest)) := by
  subst hz
  refine va_lald hexec hb hK hP q0 t0 ha ht (zi_in hj hn) hdg ?_
  rw [zi_cl (by omega)]
  exact kk
theorem zz_iast (hexec : p.tables.exec = Jvm.exec) (hb : c.code = cc) (hK : va_K D cl tys s) (hP : va_P D cl ws H) (hD : va_D A ws) (hS : va_S A H0 H locs) (q0 t0 : Nat) {cA : ClassId} {n : Nat} {f : Nat → Int} (ha : ws[q0]? = some (a, .inl (cA, n, .inl (zA f)))) (ht : tys[t0]? = some (cA, .int)) {z v : Int} (j : Nat) (hz : z = (j : Int)) (hj : j < n) (hn : n < 2147483648) (hdg : decode cc pc = .ok (.iastore, 1))
    (kk : ∀ (H1 : Heap) (locs1 : List Loc), va_P D cl (ws.set q0 (a, .inl (cA, n, .inl (zA (zupd f j v))))) H1 → va_D A (ws.set q0 (a, .inl (cA, n, .inl (zA (zupd f j v))))) → va_S A H0 H1 locs1 → W p l e R s m args below meth c H1 locs1 cells slots Q (F0 m (pc + 1) ls rest)) : W p l e R s m args below meth c H locs cells slots Q (F0 m pc ls (.int (zi v) :: .int (zi z) :: .ref a :: rest)) := by
  subst hz
  refine va_iast hexec hb hK hP hD hS q0 t0 ha ht (zi_in hj hn) hdg ?_
  rw [zi_cl (by omega), zA_upd]
  exact kk
theorem zz_last (hexec : p.tables.exec = Jvm.exec) (hb : c.code = cc) (hK : va_K D cl tys s) (hP : va_P D cl ws H) (hD : va_D A ws) (hS : va_S A H0 H locs) (q0 t0 : Nat) {cA : ClassId} {n : Nat} {f : Nat → Int} (ha : ws[q0]? = some (a, .inl (cA, n, .inr (.inl (zB f))))) (ht : tys[t0]? = some (cA, .long)) {z v : Int} (j : Nat) (hz : z = (j : Int)) (hj : j < n) (hn : n < 2147483648) (hdg : decode cc pc = .ok (.lastore, 1))
    (kk : ∀ (H1 : Heap) (locs1 : List Loc), va_P D cl (ws.set q0 (a, .inl (cA, n, .inr (.inl (zB (zupd f j v)))))) H1 → va_D A (ws.set q0 (a, .inl (cA, n, .inr (.inl (zB (zupd f j v)))))) → va_S A H0 H1 locs1 → W p l e R s m args below meth c H1 locs1 cells slots Q (F0 m (pc + 1) ls rest)) : W p l e R s m args below meth c H locs cells slots Q (F0 m pc ls (.long (zl v) :: .int (zi z) :: .ref a :: rest)) := by
  subst hz
  refine va_last hexec hb hK hP hD hS q0 t0 ha ht (zi_in hj hn) hdg ?_
  rw [zi_cl (by omega), zB_upd]
  exact kk
/-- a method that reads: its answer, and the heap as it was -/
def RdQ (v : Option Value) : Array Value → State → Outcome → State → Prop := fun _ st o t => o = .returned v ∧ t.heap = st.heap
theorem zz_callR {v : Option Value} {st0 : List Value} {av : Array Value} (hr : va_Run p l e R s m args below meth c H locs cells slots 0 0 (F0 m pc ls st0) rest (RdQ v av) (fun _ => False)) (kk : W p l e R s m args below meth c H locs cells slots Q (F0 m (pc + 3) ls (v.toList ++ rest))) : W p l e R s m args below meth c H locs cells slots Q (F0 m pc ls st0) := by
  intro T hT X
  obtain ⟨v', st₀, t, T', L, h0, X', hL, e1, e2, ⟨hv, hh⟩, st⟩ := hr T hT X
  cases hv
  obtain ⟨t2, a1, b1⟩ := kk T' (by rw [e1, hh, h0]) (Stand.forget X' (fun q h => (hL q h).elim))
  exact ⟨t2, st t2 a1, b1⟩
end ZW
end
section
abbrev RX0 : String := "PotVolumes$Fraction"
def TX0 : u_T := fun k => match k with
  | 0 => ("PotVolumes$Fraction", "above", "J", false)
  | _ => ("PotVolumes$Fraction", "below", "J", false)
def tyX0 : Nat → FieldType := fun k => match k with
  | 0 => .long
  | _ => .long
theorem nmX0 : ∀ a, a < 2 → ∀ b, b < 2 → a ≠ b → (TX0 a).2.1 ≠ (TX0 b).2.1 := by decide +kernel
theorem tyX0_ok : ∀ k, k < 2 → parseFieldDescriptor (TX0 k).2.2.1 = some (tyX0 k) := by decide +kernel
abbrev RX1 : String := "PotVolumes$Profile"
def TX1 : u_T := fun k => match k with
  | 0 => ("PotVolumes$Profile", "heights", "[I", true)
  | 1 => ("PotVolumes$Profile", "radiuses", "[I", true)
  | 2 => ("PotVolumes$Profile", "cornerCount", "I", false)
  | 3 => ("PotVolumes$Profile", "thickness", "I", false)
  | _ => ("PotVolumes$Profile", "wasCut", "Z", false)
def tyX1 : Nat → FieldType := fun k => match k with
  | 0 => .array .int
  | 1 => .array .int
  | 2 => .int
  | 3 => .int
  | _ => .boolean
theorem nmX1 : ∀ a, a < 5 → ∀ b, b < 5 → a ≠ b → (TX1 a).2.1 ≠ (TX1 b).2.1 := by decide +kernel
theorem tyX1_ok : ∀ k, k < 5 → parseFieldDescriptor (TX1 k).2.2.1 = some (tyX1 k) := by decide +kernel
abbrev RX2 : String := "PotVolumes"
def TX2 : u_T := fun k => match k with
  | 0 => ("PotVolumes", "profiles", "[LPotVolumes$Profile;", true)
  | 1 => ("PotVolumes", "profileCount", "I", false)
  | 2 => ("PotVolumes", "bounds", "[I", true)
  | 3 => ("PotVolumes", "boundCount", "I", false)
  | 4 => ("PotVolumes", "placesAcross", "[I", true)
  | 5 => ("PotVolumes", "placesAlong", "[I", true)
  | 6 => ("PotVolumes", "placeCount", "I", false)
  | 7 => ("PotVolumes", "sherdProfiles", "[I", true)
  | 8 => ("PotVolumes", "sherdShares", "[I", true)
  | 9 => ("PotVolumes", "sherdCount", "I", false)
  | 10 => ("PotVolumes", "vesselShares", "[I", true)
  | _ => ("PotVolumes", "fraction", "LPotVolumes$Fraction;", true)
def tyX2 : Nat → FieldType := fun k => match k with
  | 0 => .array (.object "PotVolumes$Profile")
  | 1 => .int
  | 2 => .array .int
  | 3 => .int
  | 4 => .array .int
  | 5 => .array .int
  | 6 => .int
  | 7 => .array .int
  | 8 => .array .int
  | 9 => .int
  | 10 => .array .int
  | _ => .object "PotVolumes$Fraction"
theorem nmX2 : ∀ a, a < 12 → ∀ b, b < 12 → a ≠ b → (TX2 a).2.1 ≠ (TX2 b).2.1 := by decide +kernel
theorem tyX2_ok : ∀ k, k < 12 → parseFieldDescriptor (TX2 k).2.2.1 = some (tyX2 k) := by decide +kernel
abbrev RX3 : String := "PotVolumesModel"
def TX3 : u_T := fun k => match k with
  | 0 => ("PotVolumesModel", "thrown", "I", false)
  | 1 => ("PotVolumesModel", "profiles", "I", false)
  | 2 => ("PotVolumesModel", "sizes", "[I", true)
  | 3 => ("PotVolumesModel", "heights", "[I", true)
  | 4 => ("PotVolumesModel", "radii", "[I", true)
  | 5 => ("PotVolumesModel", "isCut", "[Z", true)
  | 6 => ("PotVolumesModel", "walls", "[I", true)
  | 7 => ("PotVolumesModel", "bounds", "[I", true)
  | 8 => ("PotVolumesModel", "boundCount", "I", false)
  | 9 => ("PotVolumesModel", "rimX", "[I", true)
  | 10 => ("PotVolumesModel", "rimY", "[I", true)
  | 11 => ("PotVolumesModel", "places", "I", false)
  | 12 => ("PotVolumesModel", "sherdOf", "[I", true)
  | 13 => ("PotVolumesModel", "shares", "[I", true)
  | 14 => ("PotVolumesModel", "sherds", "I", false)
  | 15 => ("PotVolumesModel", "filled", "[I", true)
  | 16 => ("PotVolumesModel", "above", "J", false)
  | _ => ("PotVolumesModel", "below", "J", false)
def tyX3 : Nat → FieldType := fun k => match k with
  | 0 => .int
  | 1 => .int
  | 2 => .array .int
  | 3 => .array .int
  | 4 => .array .int
  | 5 => .array .boolean
  | 6 => .array .int
  | 7 => .array .int
  | 8 => .int
  | 9 => .array .int
  | 10 => .array .int
  | 11 => .int
  | 12 => .array .int
  | 13 => .array .int
  | 14 => .int
  | 15 => .array .int
  | 16 => .long
  | _ => .long
theorem nmX3 : ∀ a, a < 18 → ∀ b, b < 18 → a ≠ b → (TX3 a).2.1 ≠ (TX3 b).2.1 := by decide +kernel
theorem tyX3_ok : ∀ k, k < 18 → parseFieldDescriptor (TX3 k).2.2.1 = some (tyX3 k) := by decide +kernel
abbrev RL : String := "PotVolumesLaw"
abbrev vwCl : List vw_C := [(RX0, TX0, 2), (RX1, TX1, 5), (RX2, TX2, 12), (RX3, TX3, 18)]
abbrev cX0_init : ByteArray := prog_2_method_1_code
abbrev yX0_init : MethodName := ⟨"PotVolumes$Fraction", "<init>", "()V"⟩
abbrev cX0_clearToZero : ByteArray := prog_2_method_2_code
abbrev yX0_clearToZero : MethodName := ⟨"PotVolumes$Fraction", "clearToZero", "()V"⟩
abbrev cX0_add : ByteArray := prog_2_method_3_code
abbrev yX0_add : MethodName := ⟨"PotVolumes$Fraction", "add", "(JJ)V"⟩
abbrev cX0_lessen : ByteArray := prog_2_method_4_code
abbrev yX0_lessen : MethodName := ⟨"PotVolumes$Fraction", "lessen", "()V"⟩
abbrev cX0_commonDivisor : ByteArray := prog_2_method_5_code
abbrev yX0_commonDivisor : MethodName := ⟨"PotVolumes$Fraction", "commonDivisor", "(JJ)J"⟩
abbrev cX0_tell : ByteArray := prog_2_method_6_code
abbrev yX0_tell : MethodName := ⟨"PotVolumes$Fraction", "tell", "(I)J"⟩
abbrev cX0_roundedDown : ByteArray := prog_2_method_7_code
abbrev yX0_roundedDown : MethodName := ⟨"PotVolumes$Fraction", "roundedDown", "()J"⟩
abbrev cX0_circledDown : ByteArray := prog_2_method_8_code
abbrev yX0_circledDown : MethodName := ⟨"PotVolumes$Fraction", "circledDown", "()J"⟩
abbrev cX0_circledUp : ByteArray := prog_2_method_9_code
abbrev yX0_circledUp : MethodName := ⟨"PotVolumes$Fraction", "circledUp", "()J"⟩
abbrev cX0_timesDown : ByteArray := prog_2_method_10_code
abbrev yX0_timesDown : MethodName := ⟨"PotVolumes$Fraction", "timesDown", "(J)J"⟩
abbrev cX0_timesUp : ByteArray := prog_2_method_11_code
abbrev yX0_timesUp : MethodName := ⟨"PotVolumes$Fraction", "timesUp", "(J)J"⟩
abbrev cX1_init : ByteArray := prog_3_method_1_code
abbrev yX1_init : MethodName := ⟨"PotVolumes$Profile", "<init>", "()V"⟩
abbrev cX1_isClosed : ByteArray := prog_3_method_2_code
abbrev yX1_isClosed : MethodName := ⟨"PotVolumes$Profile", "isClosed", "()Z"⟩
abbrev cX1_addCorner : ByteArray := prog_3_method_3_code
abbrev yX1_addCorner : MethodName := ⟨"PotVolumes$Profile", "addCorner", "(II)Z"⟩
abbrev cX1_canFollow : ByteArray := prog_3_method_4_code
abbrev yX1_canFollow : MethodName := ⟨"PotVolumes$Profile", "canFollow", "(II)Z"⟩
abbrev cX1_radiusAt : ByteArray := prog_3_method_5_code
abbrev yX1_radiusAt : MethodName := ⟨"PotVolumes$Profile", "radiusAt", "(I)I"⟩
abbrev cX1_radiusOrZero : ByteArray := prog_3_method_6_code
abbrev yX1_radiusOrZero : MethodName := ⟨"PotVolumes$Profile", "radiusOrZero", "(I)I"⟩
abbrev cX1_scaledRadius : ByteArray := prog_3_method_7_code
abbrev yX1_scaledRadius : MethodName := ⟨"PotVolumes$Profile", "scaledRadius", "(III)I"⟩
abbrev cX1_measure : ByteArray := prog_3_method_8_code
abbrev yX1_measure : MethodName := ⟨"PotVolumes$Profile", "measure", "(LPotVolumes$Fraction;I)V"⟩
abbrev cX1_measureHeld : ByteArray := prog_3_method_9_code
abbrev yX1_measureHeld : MethodName := ⟨"PotVolumes$Profile", "measureHeld", "(LPotVolumes$Fraction;I)V"⟩
abbrev cX1_addPieces : ByteArray := prog_3_method_10_code
abbrev yX1_addPieces : MethodName := ⟨"PotVolumes$Profile", "addPieces", "(LPotVolumes$Fraction;III)V"⟩
abbrev cX1_addPiece : ByteArray := prog_3_method_11_code
abbrev yX1_addPiece : MethodName := ⟨"PotVolumes$Profile", "addPiece", "(LPotVolumes$Fraction;IIII)V"⟩
abbrev cX1_cutAt : ByteArray := prog_3_method_12_code
abbrev yX1_cutAt : MethodName := ⟨"PotVolumes$Profile", "cutAt", "(I)Z"⟩
abbrev cX1_countUpTo : ByteArray := prog_3_method_13_code
abbrev yX1_countUpTo : MethodName := ⟨"PotVolumes$Profile", "countUpTo", "(I)I"⟩
abbrev cX1_countOffAxis : ByteArray := prog_3_method_14_code
abbrev yX1_countOffAxis : MethodName := ⟨"PotVolumes$Profile", "countOffAxis", "()I"⟩
abbrev cX1_findOffAxis : ByteArray := prog_3_method_15_code
abbrev yX1_findOffAxis : MethodName := ⟨"PotVolumes$Profile", "findOffAxis", "(I)I"⟩
abbrev cX2_init : ByteArray := prog_1_method_1_code
abbrev yX2_init : MethodName := ⟨"PotVolumes", "<init>", "()V"⟩
abbrev cX2_profile : ByteArray := prog_1_method_2_code
abbrev yX2_profile : MethodName := ⟨"PotVolumes", "profile", "()I"⟩
abbrev cX2_corner : ByteArray := prog_1_method_3_code
abbrev yX2_corner : MethodName := ⟨"PotVolumes", "corner", "(III)Z"⟩
abbrev cX2_at : ByteArray := prog_1_method_4_code
abbrev yX2_at : MethodName := ⟨"PotVolumes", "at", "(III)I"⟩
abbrev cX2_radius : ByteArray := prog_1_method_5_code
abbrev yX2_radius : MethodName := ⟨"PotVolumes", "radius", "(II)I"⟩
abbrev cX2_volume : ByteArray := prog_1_method_6_code
abbrev yX2_volume : MethodName := ⟨"PotVolumes", "volume", "(III)J"⟩
abbrev cX2_holds : ByteArray := prog_1_method_7_code
abbrev yX2_holds : MethodName := ⟨"PotVolumes", "holds", "(III)J"⟩
abbrev cX2_enclosed : ByteArray := prog_1_method_8_code
abbrev yX2_enclosed : MethodName := ⟨"PotVolumes", "enclosed", "(II)J"⟩
abbrev cX2_wall : ByteArray := prog_1_method_9_code
abbrev yX2_wall : MethodName := ⟨"PotVolumes", "wall", "(II)I"⟩
abbrev cX2_unlike : ByteArray := prog_1_method_10_code
abbrev yX2_unlike : MethodName := ⟨"PotVolumes", "unlike", "(II)I"⟩
abbrev cX2_cut : ByteArray := prog_1_method_11_code
abbrev yX2_cut : MethodName := ⟨"PotVolumes", "cut", "(II)Z"⟩
abbrev cX2_drawn : ByteArray := prog_1_method_12_code
abbrev yX2_drawn : MethodName := ⟨"PotVolumes", "drawn", "(III)I"⟩
abbrev cX2_bound : ByteArray := prog_1_method_13_code
abbrev yX2_bound : MethodName := ⟨"PotVolumes", "bound", "(I)I"⟩
abbrev cX2_size : ByteArray := prog_1_method_14_code
abbrev yX2_size : MethodName := ⟨"PotVolumes", "size", "(I)I"⟩
abbrev cX2_rim : ByteArray := prog_1_method_15_code
abbrev yX2_rim : MethodName := ⟨"PotVolumes", "rim", "(II)I"⟩
abbrev cX2_clear : ByteArray := prog_1_method_16_code
abbrev yX2_clear : MethodName := ⟨"PotVolumes", "clear", "()I"⟩
abbrev cX2_circle : ByteArray := prog_1_method_17_code
abbrev yX2_circle : MethodName := ⟨"PotVolumes", "circle", "(I)J"⟩
abbrev cX2_curve : ByteArray := prog_1_method_18_code
abbrev yX2_curve : MethodName := ⟨"PotVolumes", "curve", "()I"⟩
abbrev cX2_sherd : ByteArray := prog_1_method_19_code
abbrev yX2_sherd : MethodName := ⟨"PotVolumes", "sherd", "(II)I"⟩
abbrev cX2_vessels : ByteArray := prog_1_method_20_code
abbrev yX2_vessels : MethodName := ⟨"PotVolumes", "vessels", "(II)I"⟩
abbrev cX2_count : ByteArray := prog_1_method_21_code
abbrev yX2_count : MethodName := ⟨"PotVolumes", "count", "(I)I"⟩
abbrev cX2_profileOf : ByteArray := prog_1_method_22_code
abbrev yX2_profileOf : MethodName := ⟨"PotVolumes", "profileOf", "(I)LPotVolumes$Profile;"⟩
abbrev cX2_needProfile : ByteArray := prog_1_method_23_code
abbrev yX2_needProfile : MethodName := ⟨"PotVolumes", "needProfile", "(I)V"⟩
abbrev cX2_needOneOfTwo : ByteArray := prog_1_method_24_code
abbrev yX2_needOneOfTwo : MethodName := ⟨"PotVolumes", "needOneOfTwo", "(I)V"⟩
abbrev cX2_needCircle : ByteArray := prog_1_method_25_code
abbrev yX2_needCircle : MethodName := ⟨"PotVolumes", "needCircle", "()V"⟩
abbrev cX2_measureCircle : ByteArray := prog_1_method_26_code
abbrev yX2_measureCircle : MethodName := ⟨"PotVolumes", "measureCircle", "()V"⟩
abbrev cX2_squareOfLength : ByteArray := prog_1_method_27_code
abbrev yX2_squareOfLength : MethodName := ⟨"PotVolumes", "squareOfLength", "(JJ)J"⟩
abbrev cX2_rootDown : ByteArray := prog_1_method_28_code
abbrev yX2_rootDown : MethodName := ⟨"PotVolumes", "rootDown", "(J)I"⟩
abbrev cX2_sumOfShares : ByteArray := prog_1_method_29_code
abbrev yX2_sumOfShares : MethodName := ⟨"PotVolumes", "sumOfShares", "(I)I"⟩
abbrev cX2_vesselsBySherds : ByteArray := prog_1_method_30_code
abbrev yX2_vesselsBySherds : MethodName := ⟨"PotVolumes", "vesselsBySherds", "(I)I"⟩
abbrev cX2_firstWithRoom : ByteArray := prog_1_method_31_code
abbrev yX2_firstWithRoom : MethodName := ⟨"PotVolumes", "firstWithRoom", "(II)I"⟩
abbrev cX3_init : ByteArray := prog_5_method_1_code
abbrev yX3_init : MethodName := ⟨"PotVolumesModel", "<init>", "()V"⟩
abbrev cX3_thrown : ByteArray := prog_5_method_2_code
abbrev yX3_thrown : MethodName := ⟨"PotVolumesModel", "thrown", "()I"⟩
abbrev cX3_throwing : ByteArray := prog_5_method_3_code
abbrev yX3_throwing : MethodName := ⟨"PotVolumesModel", "throwing", "(ZZZ)Z"⟩
abbrev cX3_in : ByteArray := prog_5_method_4_code
abbrev yX3_in : MethodName := ⟨"PotVolumesModel", "in", "(III)Z"⟩
abbrev cX3_isProfile : ByteArray := prog_5_method_5_code
abbrev yX3_isProfile : MethodName := ⟨"PotVolumesModel", "isProfile", "(I)Z"⟩
abbrev cX3_height : ByteArray := prog_5_method_6_code
abbrev yX3_height : MethodName := ⟨"PotVolumesModel", "height", "(II)I"⟩
abbrev cX3_radiusAt : ByteArray := prog_5_method_7_code
abbrev yX3_radiusAt : MethodName := ⟨"PotVolumesModel", "radiusAt", "(II)I"⟩
abbrev cX3_profile : ByteArray := prog_5_method_8_code
abbrev yX3_profile : MethodName := ⟨"PotVolumesModel", "profile", "()I"⟩
abbrev cX3_mayFollow : ByteArray := prog_5_method_9_code
abbrev yX3_mayFollow : MethodName := ⟨"PotVolumesModel", "mayFollow", "(III)Z"⟩
abbrev cX3_append : ByteArray := prog_5_method_10_code
abbrev yX3_append : MethodName := ⟨"PotVolumesModel", "append", "(III)V"⟩
abbrev cX3_corner : ByteArray := prog_5_method_11_code
abbrev yX3_corner : MethodName := ⟨"PotVolumesModel", "corner", "(III)Z"⟩
abbrev cX3_at : ByteArray := prog_5_method_12_code
abbrev yX3_at : MethodName := ⟨"PotVolumesModel", "at", "(III)I"⟩
abbrev cX3_radiusOf : ByteArray := prog_5_method_13_code
abbrev yX3_radiusOf : MethodName := ⟨"PotVolumesModel", "radiusOf", "(II)I"⟩
abbrev cX3_radius : ByteArray := prog_5_method_14_code
abbrev yX3_radius : MethodName := ⟨"PotVolumesModel", "radius", "(II)I"⟩
abbrev cX3_common : ByteArray := prog_5_method_15_code
abbrev yX3_common : MethodName := ⟨"PotVolumesModel", "common", "(JJ)J"⟩
abbrev cX3_lessen : ByteArray := prog_5_method_16_code
abbrev yX3_lessen : MethodName := ⟨"PotVolumesModel", "lessen", "()V"⟩
abbrev cX3_add : ByteArray := prog_5_method_17_code
abbrev yX3_add : MethodName := ⟨"PotVolumesModel", "add", "(JJ)V"⟩
abbrev cX3_less : ByteArray := prog_5_method_18_code
abbrev yX3_less : MethodName := ⟨"PotVolumesModel", "less", "(II)I"⟩
abbrev cX3_addPiece : ByteArray := prog_5_method_19_code
abbrev yX3_addPiece : MethodName := ⟨"PotVolumesModel", "addPiece", "(IIIII)V"⟩
abbrev cX3_sum : ByteArray := prog_5_method_20_code
abbrev yX3_sum : MethodName := ⟨"PotVolumesModel", "sum", "(IIII)V"⟩
abbrev cX3_volume : ByteArray := prog_5_method_21_code
abbrev yX3_volume : MethodName := ⟨"PotVolumesModel", "volume", "(III)J"⟩
abbrev cX3_sumHeld : ByteArray := prog_5_method_22_code
abbrev yX3_sumHeld : MethodName := ⟨"PotVolumesModel", "sumHeld", "(II)V"⟩
abbrev cX3_holds : ByteArray := prog_5_method_23_code
abbrev yX3_holds : MethodName := ⟨"PotVolumesModel", "holds", "(III)J"⟩
abbrev cX3_times : ByteArray := prog_5_method_24_code
abbrev yX3_times : MethodName := ⟨"PotVolumesModel", "times", "(JZ)J"⟩
abbrev cX3_enclose : ByteArray := prog_5_method_25_code
abbrev yX3_enclose : MethodName := ⟨"PotVolumesModel", "enclose", "(II)J"⟩
abbrev cX3_enclosed : ByteArray := prog_5_method_26_code
abbrev yX3_enclosed : MethodName := ⟨"PotVolumesModel", "enclosed", "(II)J"⟩
abbrev cX3_wall : ByteArray := prog_5_method_27_code
abbrev yX3_wall : MethodName := ⟨"PotVolumesModel", "wall", "(II)I"⟩
abbrev cX3_unlike : ByteArray := prog_5_method_28_code
abbrev yX3_unlike : MethodName := ⟨"PotVolumesModel", "unlike", "(II)I"⟩
abbrev cX3_cut : ByteArray := prog_5_method_29_code
abbrev yX3_cut : MethodName := ⟨"PotVolumesModel", "cut", "(II)Z"⟩
abbrev cX3_pointCount : ByteArray := prog_5_method_30_code
abbrev yX3_pointCount : MethodName := ⟨"PotVolumesModel", "pointCount", "(I)I"⟩
abbrev cX3_drawn : ByteArray := prog_5_method_31_code
abbrev yX3_drawn : MethodName := ⟨"PotVolumesModel", "drawn", "(III)I"⟩
abbrev cX3_bound : ByteArray := prog_5_method_32_code
abbrev yX3_bound : MethodName := ⟨"PotVolumesModel", "bound", "(I)I"⟩
abbrev cX3_size : ByteArray := prog_5_method_33_code
abbrev yX3_size : MethodName := ⟨"PotVolumesModel", "size", "(I)I"⟩
abbrev cX3_rim : ByteArray := prog_5_method_34_code
abbrev yX3_rim : MethodName := ⟨"PotVolumesModel", "rim", "(II)I"⟩
abbrev cX3_clear : ByteArray := prog_5_method_35_code
abbrev yX3_clear : MethodName := ⟨"PotVolumesModel", "clear", "()I"⟩
abbrev cX3_apart : ByteArray := prog_5_method_36_code
abbrev yX3_apart : MethodName := ⟨"PotVolumesModel", "apart", "(II)J"⟩
abbrev cX3_round : ByteArray := prog_5_method_37_code
abbrev yX3_round : MethodName := ⟨"PotVolumesModel", "round", "()V"⟩
abbrev cX3_circle : ByteArray := prog_5_method_38_code
abbrev yX3_circle : MethodName := ⟨"PotVolumesModel", "circle", "(I)J"⟩
abbrev cX3_curve : ByteArray := prog_5_method_39_code
abbrev yX3_curve : MethodName := ⟨"PotVolumesModel", "curve", "()I"⟩
abbrev cX3_allOf : ByteArray := prog_5_method_40_code
abbrev yX3_allOf : MethodName := ⟨"PotVolumesModel", "allOf", "(I)I"⟩
abbrev cX3_sherd : ByteArray := prog_5_method_41_code
abbrev yX3_sherd : MethodName := ⟨"PotVolumesModel", "sherd", "(II)I"⟩
abbrev cX3_vessels : ByteArray := prog_5_method_42_code
abbrev yX3_vessels : MethodName := ⟨"PotVolumesModel", "vessels", "(II)I"⟩
abbrev cX3_count : ByteArray := prog_5_method_43_code
abbrev yX3_count : MethodName := ⟨"PotVolumesModel", "count", "(I)I"⟩
abbrev cL_profile : ByteArray := method_3_code
abbrev yL_profile : MethodName := ⟨"PotVolumesLaw", "profile", "(LPotVolumes;[J)I"⟩
abbrev cL_corner : ByteArray := method_4_code
abbrev yL_corner : MethodName := ⟨"PotVolumesLaw", "corner", "(LPotVolumes;III[J)I"⟩
abbrev cL_at : ByteArray := method_5_code
abbrev yL_at : MethodName := ⟨"PotVolumesLaw", "at", "(LPotVolumes;III[J)I"⟩
abbrev cL_radius : ByteArray := method_6_code
abbrev yL_radius : MethodName := ⟨"PotVolumesLaw", "radius", "(LPotVolumes;II[J)I"⟩
abbrev cL_volume : ByteArray := method_7_code
abbrev yL_volume : MethodName := ⟨"PotVolumesLaw", "volume", "(LPotVolumes;III[J)I"⟩
abbrev cL_holds : ByteArray := method_8_code
abbrev yL_holds : MethodName := ⟨"PotVolumesLaw", "holds", "(LPotVolumes;III[J)I"⟩
abbrev cL_enclosed : ByteArray := method_9_code
abbrev yL_enclosed : MethodName := ⟨"PotVolumesLaw", "enclosed", "(LPotVolumes;II[J)I"⟩
abbrev cL_wall : ByteArray := method_10_code
abbrev yL_wall : MethodName := ⟨"PotVolumesLaw", "wall", "(LPotVolumes;II[J)I"⟩
abbrev cL_unlike : ByteArray := method_11_code
abbrev yL_unlike : MethodName := ⟨"PotVolumesLaw", "unlike", "(LPotVolumes;II[J)I"⟩
abbrev cL_cut : ByteArray := method_12_code
abbrev yL_cut : MethodName := ⟨"PotVolumesLaw", "cut", "(LPotVolumes;II[J)I"⟩
abbrev cL_drawn : ByteArray := method_13_code
abbrev yL_drawn : MethodName := ⟨"PotVolumesLaw", "drawn", "(LPotVolumes;III[J)I"⟩
abbrev cL_bound : ByteArray := method_14_code
abbrev yL_bound : MethodName := ⟨"PotVolumesLaw", "bound", "(LPotVolumes;I[J)I"⟩
abbrev cL_size : ByteArray := method_15_code
abbrev yL_size : MethodName := ⟨"PotVolumesLaw", "size", "(LPotVolumes;I[J)I"⟩
abbrev cL_rim : ByteArray := method_16_code
abbrev yL_rim : MethodName := ⟨"PotVolumesLaw", "rim", "(LPotVolumes;II[J)I"⟩
abbrev cL_circle : ByteArray := method_17_code
abbrev yL_circle : MethodName := ⟨"PotVolumesLaw", "circle", "(LPotVolumes;I[J)I"⟩
abbrev cL_curve : ByteArray := method_18_code
abbrev yL_curve : MethodName := ⟨"PotVolumesLaw", "curve", "(LPotVolumes;[J)I"⟩
abbrev cL_sherd : ByteArray := method_19_code
abbrev yL_sherd : MethodName := ⟨"PotVolumesLaw", "sherd", "(LPotVolumes;II[J)I"⟩
abbrev cL_vessels : ByteArray := method_20_code
abbrev yL_vessels : MethodName := ⟨"PotVolumesLaw", "vessels", "(LPotVolumes;II[J)I"⟩
abbrev cL_count : ByteArray := method_21_code
abbrev yL_count : MethodName := ⟨"PotVolumesLaw", "count", "(LPotVolumes;I[J)I"⟩
abbrev cL_law : ByteArray := code
end
section
def gw : List Cond := lw_tbl.filter goodWord
theorem gw_t {w : Cond} {k : Nat} (h : tables_1[k]? = some w) (hg : goodWord w = true) : w ∈ gw := List.mem_filter.mpr ⟨List.mem_append_right _ (List.mem_of_getElem? h), hg⟩
theorem gw_t1 {w : Cond} {k : Nat} (h : tables_1_1[k]? = some w) (hg : goodWord w = true) : w ∈ gw := List.mem_filter.mpr ⟨List.mem_append_right _ (show w ∈ tables_1 from (List.mem_append_left _ (List.mem_of_getElem? h))), hg⟩
theorem gw_t2 {w : Cond} {k : Nat} (h : tables_1_2[k]? = some w) (hg : goodWord w = true) : w ∈ gw := List.mem_filter.mpr ⟨List.mem_append_right _ (show w ∈ tables_1 from (List.mem_append_right _ (List.mem_append_left _ (List.mem_of_getElem? h)))), hg⟩
theorem gw_t3 {w : Cond} {k : Nat} (h : tables_1_3[k]? = some w) (hg : goodWord w = true) : w ∈ gw := List.mem_filter.mpr ⟨List.mem_append_right _ (show w ∈ tables_1 from (List.mem_append_right _ (List.mem_append_right _ (List.mem_append_left _ (List.mem_of_getElem? h))))), hg⟩
theorem gw_t4 {w : Cond} {k : Nat} (h : tables_1_4[k]? = some w) (hg : goodWord w = true) : w ∈ gw := List.mem_filter.mpr ⟨List.mem_append_right _ (show w ∈ tables_1 from (List.mem_append_right _ (List.mem_append_right _ (List.mem_append_right _ (List.mem_of_getElem? h))))), hg⟩
theorem gw_s {w : Cond} {k : Nat} (h : (k2_sels lw_privs)[k]? = some w) (hg : goodWord w = true) : w ∈ gw := List.mem_filter.mpr ⟨List.mem_append_left _ (List.mem_of_getElem? h), hg⟩
theorem wi_L : (Jvm.Cond.initialized "PotVolumesLaw") ∈ gw := gw_t1 (k := 0) rfl rfl
theorem wi_X2 : (Jvm.Cond.initialized "PotVolumes") ∈ gw := gw_t1 (k := 1) rfl rfl
theorem wi_X0 : (Jvm.Cond.initialized "PotVolumes$Fraction") ∈ gw := gw_t1 (k := 2) rfl rfl
theorem wi_X3 : (Jvm.Cond.initialized "PotVolumesModel") ∈ gw := gw_t1 (k := 3) rfl rfl
theorem wi_Throwable : (Jvm.Cond.initialized "java/lang/Throwable") ∈ gw := gw_t1 (k := 4) rfl rfl
theorem wi_Exception : (Jvm.Cond.initialized "java/lang/Exception") ∈ gw := gw_t1 (k := 5) rfl rfl
theorem wi_RuntimeException : (Jvm.Cond.initialized "java/lang/RuntimeException") ∈ gw := gw_t1 (k := 6) rfl rfl
theorem wi_IllegalStateException : (Jvm.Cond.initialized "java/lang/IllegalStateException") ∈ gw := gw_t1 (k := 7) rfl rfl
theorem wi_X1 : (Jvm.Cond.initialized "PotVolumes$Profile") ∈ gw := gw_t1 (k := 8) rfl rfl
theorem wi_IndexOutOfBoundsException : (Jvm.Cond.initialized "java/lang/IndexOutOfBoundsException") ∈ gw := gw_t1 (k := 9) rfl rfl
theorem wi_IllegalArgumentException : (Jvm.Cond.initialized "java/lang/IllegalArgumentException") ∈ gw := gw_t1 (k := 10) rfl rfl
theorem wi_Math : (Jvm.Cond.initialized "java/lang/Math") ∈ gw := gw_t1 (k := 11) rfl rfl
theorem wl_L_8 : (Jvm.Cond.classLink "PotVolumesLaw" (8 : Nat) "PotVolumes") ∈ gw := gw_t1 (k := 12) rfl rfl
theorem wn_X2 : (Jvm.Cond.instantiable "PotVolumes" (12 : Nat)) ∈ gw := gw_t1 (k := 13) rfl rfl
theorem wl_L_81 : (Jvm.Cond.methodLink "PotVolumesLaw" (81 : Nat) ({ cls := "PotVolumes", name := "<init>", desc := "()V" } : Jvm.MethodName)) ∈ gw := gw_t1 (k := 14) rfl rfl
theorem wm_X2_init : (Jvm.Cond.instanceMethod ({ cls := "PotVolumes", name := "<init>", desc := "()V" } : Jvm.MethodName)) ∈ gw := gw_t1 (k := 15) rfl rfl
theorem wc_X2_init : (Jvm.Cond.code ({ cls := "PotVolumes", name := "<init>", desc := "()V" } : Jvm.MethodName) prog_1_method_1_code (1 : Nat) (Option.none : Option Jvm.ClassFile.FieldType)) ∈ gw := gw_t1 (k := 16) rfl rfl
theorem wl_X2_1 : (Jvm.Cond.methodLink "PotVolumes" (1 : Nat) ({ cls := "java/lang/Object", name := "<init>", desc := "()V" } : Jvm.MethodName)) ∈ gw := gw_t1 (k := 17) rfl rfl
theorem wm_Object_init__V : (Jvm.Cond.instanceMethod ({ cls := "java/lang/Object", name := "<init>", desc := "()V" } : Jvm.MethodName)) ∈ gw := gw_t1 (k := 18) rfl rfl
theorem wc_Object_init__V : (Jvm.Cond.code ({ cls := "java/lang/Object", name := "<init>", desc := "()V" } : Jvm.MethodName) object_method_1_code (1 : Nat) (Option.none : Option Jvm.ClassFile.FieldType)) ∈ gw := gw_t1 (k := 19) rfl rfl
theorem wl_X2_9 : (Jvm.Cond.classLink "PotVolumes" (9 : Nat) "PotVolumes$Profile") ∈ gw := gw_t1 (k := 20) rfl rfl
theorem wl_X2_34 : (Jvm.Cond.classLink "PotVolumes" (34 : Nat) "PotVolumes$Fraction") ∈ gw := gw_t1 (k := 22) rfl rfl
theorem wn_X0 : (Jvm.Cond.instantiable "PotVolumes$Fraction" (2 : Nat)) ∈ gw := gw_t1 (k := 23) rfl rfl
theorem wm_X0_init : (Jvm.Cond.instanceMethod ({ cls := "PotVolumes$Fraction", name := "<init>", desc := "()V" } : Jvm.MethodName)) ∈ gw := gw_t1 (k := 25) rfl rfl
theorem wc_X0_init : (Jvm.Cond.code ({ cls := "PotVolumes$Fraction", name := "<init>", desc := "()V" } : Jvm.MethodName) prog_2_method_1_code (1 : Nat) (Option.none : Option Jvm.ClassFile.FieldType)) ∈ gw := gw_t1 (k := 26) rfl rfl
theorem wl_X0_3 : (Jvm.Cond.methodLink "PotVolumes$Fraction" (3 : Nat) ({ cls := "java/lang/Object", name := "<init>", desc := "()V" } : Jvm.MethodName)) ∈ gw := gw_t1 (k := 27) rfl rfl
theorem wl_X0_15 : (Jvm.Cond.fieldLink "PotVolumes$Fraction" (15 : Nat) "PotVolumes$Fraction" "above" "J") ∈ gw := gw_t1 (k := 28) rfl rfl
theorem wl_X0_9 : (Jvm.Cond.fieldLink "PotVolumes$Fraction" (9 : Nat) "PotVolumes$Fraction" "below" "J") ∈ gw := gw_t1 (k := 29) rfl rfl
theorem wf_X0_above : (Jvm.Cond.lays "PotVolumes$Fraction" "PotVolumes$Fraction" "above" "J") ∈ gw := gw_t1 (k := 30) rfl rfl
theorem wf_X0_below : (Jvm.Cond.lays "PotVolumes$Fraction" "PotVolumes$Fraction" "below" "J") ∈ gw := gw_t1 (k := 32) rfl rfl
theorem wa_int : (Jvm.Cond.arrayClass Jvm.ClassFile.FieldType.int) ∈ gw := gw_t1 (k := 35) rfl rfl
theorem wl_X2_11 : (Jvm.Cond.fieldLink "PotVolumes" (11 : Nat) "PotVolumes" "profiles" "[LPotVolumes$Profile;") ∈ gw := gw_t1 (k := 36) rfl rfl
theorem wl_X2_41 : (Jvm.Cond.fieldLink "PotVolumes" (41 : Nat) "PotVolumes" "profileCount" "I") ∈ gw := gw_t1 (k := 37) rfl rfl
theorem wl_X2_15 : (Jvm.Cond.fieldLink "PotVolumes" (15 : Nat) "PotVolumes" "bounds" "[I") ∈ gw := gw_t1 (k := 38) rfl rfl
theorem wl_X2_143 : (Jvm.Cond.fieldLink "PotVolumes" (143 : Nat) "PotVolumes" "boundCount" "I") ∈ gw := gw_t1 (k := 39) rfl rfl
theorem wl_X2_19 : (Jvm.Cond.fieldLink "PotVolumes" (19 : Nat) "PotVolumes" "placesAcross" "[I") ∈ gw := gw_t1 (k := 40) rfl rfl
theorem wl_X2_22 : (Jvm.Cond.fieldLink "PotVolumes" (22 : Nat) "PotVolumes" "placesAlong" "[I") ∈ gw := gw_t1 (k := 41) rfl rfl
theorem wl_X2_150 : (Jvm.Cond.fieldLink "PotVolumes" (150 : Nat) "PotVolumes" "placeCount" "I") ∈ gw := gw_t1 (k := 42) rfl rfl
theorem wl_X2_25 : (Jvm.Cond.fieldLink "PotVolumes" (25 : Nat) "PotVolumes" "sherdProfiles" "[I") ∈ gw := gw_t1 (k := 43) rfl rfl
theorem wl_X2_28 : (Jvm.Cond.fieldLink "PotVolumes" (28 : Nat) "PotVolumes" "sherdShares" "[I") ∈ gw := gw_t1 (k := 44) rfl rfl
theorem wl_X2_173 : (Jvm.Cond.fieldLink "PotVolumes" (173 : Nat) "PotVolumes" "sherdCount" "I") ∈ gw := gw_t1 (k := 45) rfl rfl
theorem wl_X2_31 : (Jvm.Cond.fieldLink "PotVolumes" (31 : Nat) "PotVolumes" "vesselShares" "[I") ∈ gw := gw_t1 (k := 46) rfl rfl
theorem wl_X2_37 : (Jvm.Cond.fieldLink "PotVolumes" (37 : Nat) "PotVolumes" "fraction" "LPotVolumes$Fraction;") ∈ gw := gw_t1 (k := 47) rfl rfl
theorem wf_X2_profiles : (Jvm.Cond.laysFinal "PotVolumes" "PotVolumes" "profiles" "[LPotVolumes$Profile;") ∈ gw := gw_t1 (k := 48) rfl rfl
theorem wf_X2_profileCount : (Jvm.Cond.lays "PotVolumes" "PotVolumes" "profileCount" "I") ∈ gw := gw_t1 (k := 50) rfl rfl
theorem wf_X2_bounds : (Jvm.Cond.laysFinal "PotVolumes" "PotVolumes" "bounds" "[I") ∈ gw := gw_t1 (k := 52) rfl rfl
theorem wf_X2_boundCount : (Jvm.Cond.lays "PotVolumes" "PotVolumes" "boundCount" "I") ∈ gw := gw_t1 (k := 54) rfl rfl
theorem wf_X2_placesAcross : (Jvm.Cond.laysFinal "PotVolumes" "PotVolumes" "placesAcross" "[I") ∈ gw := gw_t1 (k := 56) rfl rfl
theorem wf_X2_placesAlong : (Jvm.Cond.laysFinal "PotVolumes" "PotVolumes" "placesAlong" "[I") ∈ gw := gw_t1 (k := 58) rfl rfl
theorem wf_X2_placeCount : (Jvm.Cond.lays "PotVolumes" "PotVolumes" "placeCount" "I") ∈ gw := gw_t1 (k := 60) rfl rfl
theorem wf_X2_sherdProfiles : (Jvm.Cond.laysFinal "PotVolumes" "PotVolumes" "sherdProfiles" "[I") ∈ gw := gw_t1 (k := 62) rfl rfl
theorem wf_X2_sherdShares : (Jvm.Cond.laysFinal "PotVolumes" "PotVolumes" "sherdShares" "[I") ∈ gw := gw_t1 (k := 64) rfl rfl
theorem wf_X2_sherdCount : (Jvm.Cond.lays "PotVolumes" "PotVolumes" "sherdCount" "I") ∈ gw := gw_t1 (k := 66) rfl rfl
theorem wf_X2_vesselShares : (Jvm.Cond.laysFinal "PotVolumes" "PotVolumes" "vesselShares" "[I") ∈ gw := gw_t1 (k := 68) rfl rfl
theorem wf_X2_fraction : (Jvm.Cond.laysFinal "PotVolumes" "PotVolumes" "fraction" "LPotVolumes$Fraction;") ∈ gw := gw_t1 (k := 70) rfl rfl
theorem wl_L_136 : (Jvm.Cond.methodLink "PotVolumesLaw" (136 : Nat) ({ cls := "PotVolumes", name := "clear", desc := "()I" } : Jvm.MethodName)) ∈ gw := gw_t1 (k := 73) rfl rfl
theorem wm_X2_clear : (Jvm.Cond.instanceMethod ({ cls := "PotVolumes", name := "clear", desc := "()I" } : Jvm.MethodName)) ∈ gw := gw_t1 (k := 74) rfl rfl
theorem we_X2_clear : (Jvm.Cond.selects "PotVolumes" ({ cls := "PotVolumes", name := "clear", desc := "()I" } : Jvm.MethodName) ({ cls := "PotVolumes", name := "clear", desc := "()I" } : Jvm.MethodName)) ∈ gw := gw_t1 (k := 75) rfl rfl
theorem wc_X2_clear : (Jvm.Cond.code ({ cls := "PotVolumes", name := "clear", desc := "()I" } : Jvm.MethodName) prog_1_method_16_code (2 : Nat) (Option.some Jvm.ClassFile.FieldType.int)) ∈ gw := gw_t1 (k := 76) rfl rfl
theorem wl_L_85 : (Jvm.Cond.methodLink "PotVolumesLaw" (85 : Nat) ({ cls := "PotVolumesLaw", name := "profile", desc := "(LPotVolumes;[J)I" } : Jvm.MethodName)) ∈ gw := gw_t1 (k := 77) rfl rfl
theorem wt_L_profile : (Jvm.Cond.static ({ cls := "PotVolumesLaw", name := "profile", desc := "(LPotVolumes;[J)I" } : Jvm.MethodName)) ∈ gw := gw_t1 (k := 78) rfl rfl
theorem wc_L_profile : (Jvm.Cond.codeWith ({ cls := "PotVolumesLaw", name := "profile", desc := "(LPotVolumes;[J)I" } : Jvm.MethodName) method_3_code (3 : Nat) (Option.some Jvm.ClassFile.FieldType.int) [((0 : Nat), (8 : Nat), (11 : Nat), (13 : Nat))]) ∈ gw := gw_t1 (k := 79) rfl rfl
theorem wl_L_13 : (Jvm.Cond.classLink "PotVolumesLaw" (13 : Nat) "java/lang/IllegalStateException") ∈ gw := gw_t1 (k := 80) rfl rfl
theorem wl_L_7 : (Jvm.Cond.methodLink "PotVolumesLaw" (7 : Nat) ({ cls := "PotVolumes", name := "profile", desc := "()I" } : Jvm.MethodName)) ∈ gw := gw_t1 (k := 81) rfl rfl
theorem wm_X2_profile : (Jvm.Cond.instanceMethod ({ cls := "PotVolumes", name := "profile", desc := "()I" } : Jvm.MethodName)) ∈ gw := gw_t1 (k := 82) rfl rfl
theorem we_X2_profile : (Jvm.Cond.selects "PotVolumes" ({ cls := "PotVolumes", name := "profile", desc := "()I" } : Jvm.MethodName) ({ cls := "PotVolumes", name := "profile", desc := "()I" } : Jvm.MethodName)) ∈ gw := gw_t1 (k := 83) rfl rfl
theorem wc_X2_profile : (Jvm.Cond.code ({ cls := "PotVolumes", name := "profile", desc := "()I" } : Jvm.MethodName) prog_1_method_2_code (1 : Nat) (Option.some Jvm.ClassFile.FieldType.int)) ∈ gw := gw_t1 (k := 84) rfl rfl
theorem wl_X2_45 : (Jvm.Cond.classLink "PotVolumes" (45 : Nat) "java/lang/IllegalStateException") ∈ gw := gw_t1 (k := 85) rfl rfl
theorem wn_IllegalStateException : (Jvm.Cond.instantiable "java/lang/IllegalStateException" (6 : Nat)) ∈ gw := gw_t1 (k := 86) rfl rfl
theorem we_IllegalStateException_fillInStackTrace_I_Ljava_lang_Throwable_ : (Jvm.Cond.selects "java/lang/IllegalStateException" ({ cls := "java/lang/Throwable", name := "fillInStackTrace", desc := "(I)Ljava/lang/Throwable;" } : Jvm.MethodName) ({ cls := "java/lang/Throwable", name := "fillInStackTrace", desc := "(I)Ljava/lang/Throwable;" } : Jvm.MethodName)) ∈ gw := gw_t1 (k := 94) rfl rfl
theorem we_IllegalStateException_fillInStackTrace__Ljava_lang_Throwable_ : (Jvm.Cond.selects "java/lang/IllegalStateException" ({ cls := "java/lang/Throwable", name := "fillInStackTrace", desc := "()Ljava/lang/Throwable;" } : Jvm.MethodName) ({ cls := "java/lang/Throwable", name := "fillInStackTrace", desc := "()Ljava/lang/Throwable;" } : Jvm.MethodName)) ∈ gw := gw_t1 (k := 95) rfl rfl
theorem wf_IllegalStateException_cause : (Jvm.Cond.lays "java/lang/IllegalStateException" "java/lang/Throwable" "cause" "Ljava/lang/Throwable;") ∈ gw := gw_t1 (k := 96) rfl rfl
theorem wf_Throwable_cause : (Jvm.Cond.lays "java/lang/Throwable" "java/lang/Throwable" "cause" "Ljava/lang/Throwable;") ∈ gw := gw_t1 (k := 97) rfl rfl
theorem wf_IllegalStateException_stackTrace : (Jvm.Cond.lays "java/lang/IllegalStateException" "java/lang/Throwable" "stackTrace" "[Ljava/lang/StackTraceElement;") ∈ gw := gw_t1 (k := 98) rfl rfl
theorem wf_Throwable_stackTrace : (Jvm.Cond.lays "java/lang/Throwable" "java/lang/Throwable" "stackTrace" "[Ljava/lang/StackTraceElement;") ∈ gw := gw_t1 (k := 99) rfl rfl
theorem wf_IllegalStateException_suppressedExceptions : (Jvm.Cond.lays "java/lang/IllegalStateException" "java/lang/Throwable" "suppressedExceptions" "Ljava/util/List;") ∈ gw := gw_t1 (k := 100) rfl rfl
theorem wf_Throwable_suppressedExceptions : (Jvm.Cond.lays "java/lang/Throwable" "java/lang/Throwable" "suppressedExceptions" "Ljava/util/List;") ∈ gw := gw_t1 (k := 101) rfl rfl
theorem wf_IllegalStateException_detailMessage : (Jvm.Cond.lays "java/lang/IllegalStateException" "java/lang/Throwable" "detailMessage" "Ljava/lang/String;") ∈ gw := gw_t1 (k := 102) rfl rfl
theorem wf_Throwable_detailMessage : (Jvm.Cond.lays "java/lang/Throwable" "java/lang/Throwable" "detailMessage" "Ljava/lang/String;") ∈ gw := gw_t1 (k := 103) rfl rfl
theorem wf_IllegalStateException_backtrace : (Jvm.Cond.lays "java/lang/IllegalStateException" "java/lang/Throwable" "backtrace" "Ljava/lang/Object;") ∈ gw := gw_t1 (k := 104) rfl rfl
theorem wf_Throwable_backtrace : (Jvm.Cond.lays "java/lang/Throwable" "java/lang/Throwable" "backtrace" "Ljava/lang/Object;") ∈ gw := gw_t1 (k := 105) rfl rfl
theorem wl_Throwable_198 : (Jvm.Cond.fieldLink "java/lang/Throwable" (198 : Nat) "java/lang/Throwable" "backtrace" "Ljava/lang/Object;") ∈ gw := gw_t1 (k := 106) rfl rfl
theorem wm_Throwable_init__V : (Jvm.Cond.instanceMethod ({ cls := "java/lang/Throwable", name := "<init>", desc := "()V" } : Jvm.MethodName)) ∈ gw := gw_t1 (k := 108) rfl rfl
theorem wc_Throwable_init__V : (Jvm.Cond.code ({ cls := "java/lang/Throwable", name := "<init>", desc := "()V" } : Jvm.MethodName) prog_13_method_1_code (1 : Nat) (Option.none : Option Jvm.ClassFile.FieldType)) ∈ gw := gw_t1 (k := 109) rfl rfl
theorem wl_Throwable_1 : (Jvm.Cond.methodLink "java/lang/Throwable" (1 : Nat) ({ cls := "java/lang/Object", name := "<init>", desc := "()V" } : Jvm.MethodName)) ∈ gw := gw_t1 (k := 110) rfl rfl
theorem wl_Throwable_13 : (Jvm.Cond.fieldLink "java/lang/Throwable" (13 : Nat) "java/lang/Throwable" "UNASSIGNED_STACK" "[Ljava/lang/StackTraceElement;") ∈ gw := gw_t1 (k := 111) rfl rfl
theorem wl_Throwable_20 : (Jvm.Cond.fieldLink "java/lang/Throwable" (20 : Nat) "java/lang/Throwable" "SUPPRESSED_SENTINEL" "Ljava/util/List;") ∈ gw := gw_t1 (k := 113) rfl rfl
theorem wl_Throwable_27 : (Jvm.Cond.methodLink "java/lang/Throwable" (27 : Nat) ({ cls := "java/lang/Throwable", name := "fillInStackTrace", desc := "()Ljava/lang/Throwable;" } : Jvm.MethodName)) ∈ gw := gw_t1 (k := 115) rfl rfl
theorem wm_Throwable_fillInStackTrace__Ljava_lang_Throwable_ : (Jvm.Cond.instanceMethod ({ cls := "java/lang/Throwable", name := "fillInStackTrace", desc := "()Ljava/lang/Throwable;" } : Jvm.MethodName)) ∈ gw := gw_t1 (k := 116) rfl rfl
theorem we_IllegalArgumentException_fillInStackTrace__Ljava_lang_Throwable_ : (Jvm.Cond.selects "java/lang/IllegalArgumentException" ({ cls := "java/lang/Throwable", name := "fillInStackTrace", desc := "()Ljava/lang/Throwable;" } : Jvm.MethodName) ({ cls := "java/lang/Throwable", name := "fillInStackTrace", desc := "()Ljava/lang/Throwable;" } : Jvm.MethodName)) ∈ gw := gw_t1 (k := 118) rfl rfl
theorem we_IndexOutOfBoundsException_fillInStackTrace__Ljava_lang_Throwable_ : (Jvm.Cond.selects "java/lang/IndexOutOfBoundsException" ({ cls := "java/lang/Throwable", name := "fillInStackTrace", desc := "()Ljava/lang/Throwable;" } : Jvm.MethodName) ({ cls := "java/lang/Throwable", name := "fillInStackTrace", desc := "()Ljava/lang/Throwable;" } : Jvm.MethodName)) ∈ gw := gw_t1 (k := 119) rfl rfl
theorem wl_Throwable_202 : (Jvm.Cond.methodLink "java/lang/Throwable" (202 : Nat) ({ cls := "java/lang/Throwable", name := "fillInStackTrace", desc := "(I)Ljava/lang/Throwable;" } : Jvm.MethodName)) ∈ gw := gw_t1 (k := 121) rfl rfl
theorem wm_Throwable_fillInStackTrace_I_Ljava_lang_Throwable_ : (Jvm.Cond.instanceMethod ({ cls := "java/lang/Throwable", name := "fillInStackTrace", desc := "(I)Ljava/lang/Throwable;" } : Jvm.MethodName)) ∈ gw := gw_t1 (k := 123) rfl rfl
theorem wn_Throwable : (Jvm.Cond.instantiable "java/lang/Throwable" (6 : Nat)) ∈ gw := gw_t1 (k := 124) rfl rfl
theorem wl_X2_49 : (Jvm.Cond.methodLink "PotVolumes" (49 : Nat) ({ cls := "java/lang/IllegalStateException", name := "<init>", desc := "(Ljava/lang/String;)V" } : Jvm.MethodName)) ∈ gw := gw_t1 (k := 127) rfl rfl
theorem wm_IllegalStateException_init_Ljava_lang_String__V : (Jvm.Cond.instanceMethod ({ cls := "java/lang/IllegalStateException", name := "<init>", desc := "(Ljava/lang/String;)V" } : Jvm.MethodName)) ∈ gw := gw_t1 (k := 128) rfl rfl
theorem wc_IllegalStateException_init_Ljava_lang_String__V : (Jvm.Cond.code ({ cls := "java/lang/IllegalStateException", name := "<init>", desc := "(Ljava/lang/String;)V" } : Jvm.MethodName) prog_8_method_2_code (2 : Nat) (Option.none : Option Jvm.ClassFile.FieldType)) ∈ gw := gw_t1 (k := 129) rfl rfl
theorem wl_IllegalStateException_7 : (Jvm.Cond.methodLink "java/lang/IllegalStateException" (7 : Nat) ({ cls := "java/lang/RuntimeException", name := "<init>", desc := "(Ljava/lang/String;)V" } : Jvm.MethodName)) ∈ gw := gw_t1 (k := 130) rfl rfl
theorem wm_RuntimeException_init_Ljava_lang_String__V : (Jvm.Cond.instanceMethod ({ cls := "java/lang/RuntimeException", name := "<init>", desc := "(Ljava/lang/String;)V" } : Jvm.MethodName)) ∈ gw := gw_t1 (k := 131) rfl rfl
theorem wc_RuntimeException_init_Ljava_lang_String__V : (Jvm.Cond.code ({ cls := "java/lang/RuntimeException", name := "<init>", desc := "(Ljava/lang/String;)V" } : Jvm.MethodName) prog_11_method_2_code (2 : Nat) (Option.none : Option Jvm.ClassFile.FieldType)) ∈ gw := gw_t1 (k := 132) rfl rfl
theorem wl_RuntimeException_7 : (Jvm.Cond.methodLink "java/lang/RuntimeException" (7 : Nat) ({ cls := "java/lang/Exception", name := "<init>", desc := "(Ljava/lang/String;)V" } : Jvm.MethodName)) ∈ gw := gw_t1 (k := 133) rfl rfl
theorem wm_Exception_init_Ljava_lang_String__V : (Jvm.Cond.instanceMethod ({ cls := "java/lang/Exception", name := "<init>", desc := "(Ljava/lang/String;)V" } : Jvm.MethodName)) ∈ gw := gw_t1 (k := 134) rfl rfl
theorem wc_Exception_init_Ljava_lang_String__V : (Jvm.Cond.code ({ cls := "java/lang/Exception", name := "<init>", desc := "(Ljava/lang/String;)V" } : Jvm.MethodName) prog_6_method_2_code (2 : Nat) (Option.none : Option Jvm.ClassFile.FieldType)) ∈ gw := gw_t1 (k := 135) rfl rfl
theorem wl_Exception_7 : (Jvm.Cond.methodLink "java/lang/Exception" (7 : Nat) ({ cls := "java/lang/Throwable", name := "<init>", desc := "(Ljava/lang/String;)V" } : Jvm.MethodName)) ∈ gw := gw_t1 (k := 136) rfl rfl
theorem wm_Throwable_init_Ljava_lang_String__V : (Jvm.Cond.instanceMethod ({ cls := "java/lang/Throwable", name := "<init>", desc := "(Ljava/lang/String;)V" } : Jvm.MethodName)) ∈ gw := gw_t1 (k := 137) rfl rfl
theorem wc_Throwable_init_Ljava_lang_String__V : (Jvm.Cond.code ({ cls := "java/lang/Throwable", name := "<init>", desc := "(Ljava/lang/String;)V" } : Jvm.MethodName) prog_13_method_2_code (2 : Nat) (Option.none : Option Jvm.ClassFile.FieldType)) ∈ gw := gw_t1 (k := 138) rfl rfl
theorem wl_Throwable_31 : (Jvm.Cond.fieldLink "java/lang/Throwable" (31 : Nat) "java/lang/Throwable" "detailMessage" "Ljava/lang/String;") ∈ gw := gw_t1 (k := 140) rfl rfl
theorem wl_Throwable_7 : (Jvm.Cond.fieldLink "java/lang/Throwable" (7 : Nat) "java/lang/Throwable" "cause" "Ljava/lang/Throwable;") ∈ gw := gw_t1 (k := 141) rfl rfl
theorem wl_Throwable_17 : (Jvm.Cond.fieldLink "java/lang/Throwable" (17 : Nat) "java/lang/Throwable" "stackTrace" "[Ljava/lang/StackTraceElement;") ∈ gw := gw_t1 (k := 142) rfl rfl
theorem wl_Throwable_24 : (Jvm.Cond.fieldLink "java/lang/Throwable" (24 : Nat) "java/lang/Throwable" "suppressedExceptions" "Ljava/util/List;") ∈ gw := gw_t1 (k := 143) rfl rfl
theorem wf_IllegalStateException_depth : (Jvm.Cond.lays "java/lang/IllegalStateException" "java/lang/Throwable" "depth" "I") ∈ gw := gw_t1 (k := 148) rfl rfl
theorem wa_byte : (Jvm.Cond.arrayClass Jvm.ClassFile.FieldType.byte) ∈ gw := gw_t1 (k := 152) rfl rfl
theorem wn_X1 : (Jvm.Cond.instantiable "PotVolumes$Profile" (5 : Nat)) ∈ gw := gw_t1 (k := 153) rfl rfl
theorem wm_X1_init : (Jvm.Cond.instanceMethod ({ cls := "PotVolumes$Profile", name := "<init>", desc := "()V" } : Jvm.MethodName)) ∈ gw := gw_t1 (k := 155) rfl rfl
theorem wc_X1_init : (Jvm.Cond.code ({ cls := "PotVolumes$Profile", name := "<init>", desc := "()V" } : Jvm.MethodName) prog_3_method_1_code (1 : Nat) (Option.none : Option Jvm.ClassFile.FieldType)) ∈ gw := gw_t1 (k := 156) rfl rfl
theorem wl_X1_3 : (Jvm.Cond.methodLink "PotVolumes$Profile" (3 : Nat) ({ cls := "java/lang/Object", name := "<init>", desc := "()V" } : Jvm.MethodName)) ∈ gw := gw_t1 (k := 157) rfl rfl
theorem wl_X1_9 : (Jvm.Cond.fieldLink "PotVolumes$Profile" (9 : Nat) "PotVolumes$Profile" "heights" "[I") ∈ gw := gw_t1 (k := 158) rfl rfl
theorem wl_X2_86 : (Jvm.Cond.fieldLink "PotVolumes" (86 : Nat) "PotVolumes$Profile" "heights" "[I") ∈ gw := gw_t1 (k := 159) rfl rfl
theorem wl_X1_15 : (Jvm.Cond.fieldLink "PotVolumes$Profile" (15 : Nat) "PotVolumes$Profile" "radiuses" "[I") ∈ gw := gw_t1 (k := 160) rfl rfl
theorem wl_X2_89 : (Jvm.Cond.fieldLink "PotVolumes" (89 : Nat) "PotVolumes$Profile" "radiuses" "[I") ∈ gw := gw_t1 (k := 161) rfl rfl
theorem wl_X1_22 : (Jvm.Cond.fieldLink "PotVolumes$Profile" (22 : Nat) "PotVolumes$Profile" "cornerCount" "I") ∈ gw := gw_t1 (k := 162) rfl rfl
theorem wl_X2_78 : (Jvm.Cond.fieldLink "PotVolumes" (78 : Nat) "PotVolumes$Profile" "cornerCount" "I") ∈ gw := gw_t1 (k := 163) rfl rfl
theorem wl_X1_57 : (Jvm.Cond.fieldLink "PotVolumes$Profile" (57 : Nat) "PotVolumes$Profile" "thickness" "I") ∈ gw := gw_t1 (k := 164) rfl rfl
theorem wl_X2_116 : (Jvm.Cond.fieldLink "PotVolumes" (116 : Nat) "PotVolumes$Profile" "thickness" "I") ∈ gw := gw_t1 (k := 165) rfl rfl
theorem wl_X1_18 : (Jvm.Cond.fieldLink "PotVolumes$Profile" (18 : Nat) "PotVolumes$Profile" "wasCut" "Z") ∈ gw := gw_t1 (k := 166) rfl rfl
theorem wf_X1_heights : (Jvm.Cond.laysFinal "PotVolumes$Profile" "PotVolumes$Profile" "heights" "[I") ∈ gw := gw_t1 (k := 167) rfl rfl
theorem wf_X1_radiuses : (Jvm.Cond.laysFinal "PotVolumes$Profile" "PotVolumes$Profile" "radiuses" "[I") ∈ gw := gw_t1 (k := 169) rfl rfl
theorem wf_X1_cornerCount : (Jvm.Cond.lays "PotVolumes$Profile" "PotVolumes$Profile" "cornerCount" "I") ∈ gw := gw_t1 (k := 171) rfl rfl
theorem wf_X1_thickness : (Jvm.Cond.lays "PotVolumes$Profile" "PotVolumes$Profile" "thickness" "I") ∈ gw := gw_t1 (k := 173) rfl rfl
theorem wf_X1_wasCut : (Jvm.Cond.lays "PotVolumes$Profile" "PotVolumes$Profile" "wasCut" "Z") ∈ gw := gw_t1 (k := 175) rfl rfl
theorem wl_L_94 : (Jvm.Cond.methodLink "PotVolumesLaw" (94 : Nat) ({ cls := "PotVolumesLaw", name := "corner", desc := "(LPotVolumes;III[J)I" } : Jvm.MethodName)) ∈ gw := gw_t1 (k := 178) rfl rfl
theorem wt_L_corner : (Jvm.Cond.static ({ cls := "PotVolumesLaw", name := "corner", desc := "(LPotVolumes;III[J)I" } : Jvm.MethodName)) ∈ gw := gw_t1 (k := 179) rfl rfl
theorem wc_L_corner : (Jvm.Cond.codeWith ({ cls := "PotVolumesLaw", name := "corner", desc := "(LPotVolumes;III[J)I" } : Jvm.MethodName) method_4_code (6 : Nat) (Option.some Jvm.ClassFile.FieldType.int) [((0 : Nat), (19 : Nat), (22 : Nat), (19 : Nat)), ((0 : Nat), (19 : Nat), (26 : Nat), (21 : Nat)), ((0 : Nat), (19 : Nat), (30 : Nat), (13 : Nat))]) ∈ gw := gw_t1 (k := 180) rfl rfl
theorem wl_L_19 : (Jvm.Cond.classLink "PotVolumesLaw" (19 : Nat) "java/lang/IndexOutOfBoundsException") ∈ gw := gw_t1 (k := 181) rfl rfl
theorem wl_L_21 : (Jvm.Cond.classLink "PotVolumesLaw" (21 : Nat) "java/lang/IllegalArgumentException") ∈ gw := gw_t1 (k := 182) rfl rfl
theorem wl_L_15 : (Jvm.Cond.methodLink "PotVolumesLaw" (15 : Nat) ({ cls := "PotVolumes", name := "corner", desc := "(III)Z" } : Jvm.MethodName)) ∈ gw := gw_t1 (k := 183) rfl rfl
theorem wm_X2_corner : (Jvm.Cond.instanceMethod ({ cls := "PotVolumes", name := "corner", desc := "(III)Z" } : Jvm.MethodName)) ∈ gw := gw_t1 (k := 184) rfl rfl
theorem we_X2_corner : (Jvm.Cond.selects "PotVolumes" ({ cls := "PotVolumes", name := "corner", desc := "(III)Z" } : Jvm.MethodName) ({ cls := "PotVolumes", name := "corner", desc := "(III)Z" } : Jvm.MethodName)) ∈ gw := gw_t1 (k := 185) rfl rfl
theorem wc_X2_corner : (Jvm.Cond.code ({ cls := "PotVolumes", name := "corner", desc := "(III)Z" } : Jvm.MethodName) prog_1_method_3_code (5 : Nat) (Option.some Jvm.ClassFile.FieldType.boolean)) ∈ gw := gw_t1 (k := 186) rfl rfl
theorem wl_X2_53 : (Jvm.Cond.methodLink "PotVolumes" (53 : Nat) ({ cls := "PotVolumes", name := "profileOf", desc := "(I)LPotVolumes$Profile;" } : Jvm.MethodName)) ∈ gw := gw_t1 (k := 187) rfl rfl
theorem wm_X2_profileOf : (Jvm.Cond.instanceMethod ({ cls := "PotVolumes", name := "profileOf", desc := "(I)LPotVolumes$Profile;" } : Jvm.MethodName)) ∈ gw := gw_t1 (k := 189) rfl rfl
theorem wc_X2_profileOf : (Jvm.Cond.code ({ cls := "PotVolumes", name := "profileOf", desc := "(I)LPotVolumes$Profile;" } : Jvm.MethodName) prog_1_method_22_code (3 : Nat) (Option.some (Jvm.ClassFile.FieldType.object "PotVolumes$Profile"))) ∈ gw := gw_t1 (k := 190) rfl rfl
theorem wl_X2_81 : (Jvm.Cond.classLink "PotVolumes" (81 : Nat) "java/lang/IndexOutOfBoundsException") ∈ gw := gw_t1 (k := 191) rfl rfl
theorem wn_IndexOutOfBoundsException : (Jvm.Cond.instantiable "java/lang/IndexOutOfBoundsException" (6 : Nat)) ∈ gw := gw_t1 (k := 192) rfl rfl
theorem we_IndexOutOfBoundsException_fillInStackTrace_I_Ljava_lang_Throwable_ : (Jvm.Cond.selects "java/lang/IndexOutOfBoundsException" ({ cls := "java/lang/Throwable", name := "fillInStackTrace", desc := "(I)Ljava/lang/Throwable;" } : Jvm.MethodName) ({ cls := "java/lang/Throwable", name := "fillInStackTrace", desc := "(I)Ljava/lang/Throwable;" } : Jvm.MethodName)) ∈ gw := gw_t1 (k := 194) rfl rfl
theorem wf_IndexOutOfBoundsException_cause : (Jvm.Cond.lays "java/lang/IndexOutOfBoundsException" "java/lang/Throwable" "cause" "Ljava/lang/Throwable;") ∈ gw := gw_t1 (k := 195) rfl rfl
theorem wf_IndexOutOfBoundsException_stackTrace : (Jvm.Cond.lays "java/lang/IndexOutOfBoundsException" "java/lang/Throwable" "stackTrace" "[Ljava/lang/StackTraceElement;") ∈ gw := gw_t1 (k := 196) rfl rfl
theorem wf_IndexOutOfBoundsException_suppressedExceptions : (Jvm.Cond.lays "java/lang/IndexOutOfBoundsException" "java/lang/Throwable" "suppressedExceptions" "Ljava/util/List;") ∈ gw := gw_t1 (k := 197) rfl rfl
theorem wf_IndexOutOfBoundsException_detailMessage : (Jvm.Cond.lays "java/lang/IndexOutOfBoundsException" "java/lang/Throwable" "detailMessage" "Ljava/lang/String;") ∈ gw := gw_t1 (k := 198) rfl rfl
theorem wf_IndexOutOfBoundsException_backtrace : (Jvm.Cond.lays "java/lang/IndexOutOfBoundsException" "java/lang/Throwable" "backtrace" "Ljava/lang/Object;") ∈ gw := gw_t1 (k := 199) rfl rfl
theorem wl_X2_85 : (Jvm.Cond.methodLink "PotVolumes" (85 : Nat) ({ cls := "java/lang/IndexOutOfBoundsException", name := "<init>", desc := "(Ljava/lang/String;)V" } : Jvm.MethodName)) ∈ gw := gw_t1 (k := 201) rfl rfl
theorem wm_IndexOutOfBoundsException_init_Ljava_lang_String__V : (Jvm.Cond.instanceMethod ({ cls := "java/lang/IndexOutOfBoundsException", name := "<init>", desc := "(Ljava/lang/String;)V" } : Jvm.MethodName)) ∈ gw := gw_t1 (k := 202) rfl rfl
theorem wc_IndexOutOfBoundsException_init_Ljava_lang_String__V : (Jvm.Cond.code ({ cls := "java/lang/IndexOutOfBoundsException", name := "<init>", desc := "(Ljava/lang/String;)V" } : Jvm.MethodName) prog_9_method_2_code (2 : Nat) (Option.none : Option Jvm.ClassFile.FieldType)) ∈ gw := gw_t1 (k := 203) rfl rfl
theorem wl_IndexOutOfBoundsException_7 : (Jvm.Cond.methodLink "java/lang/IndexOutOfBoundsException" (7 : Nat) ({ cls := "java/lang/RuntimeException", name := "<init>", desc := "(Ljava/lang/String;)V" } : Jvm.MethodName)) ∈ gw := gw_t1 (k := 204) rfl rfl
theorem wf_IndexOutOfBoundsException_depth : (Jvm.Cond.lays "java/lang/IndexOutOfBoundsException" "java/lang/Throwable" "depth" "I") ∈ gw := gw_t1 (k := 205) rfl rfl
theorem wl_X2_57 : (Jvm.Cond.classLink "PotVolumes" (57 : Nat) "java/lang/IllegalArgumentException") ∈ gw := gw_t1 (k := 207) rfl rfl
theorem wn_IllegalArgumentException : (Jvm.Cond.instantiable "java/lang/IllegalArgumentException" (6 : Nat)) ∈ gw := gw_t1 (k := 208) rfl rfl
theorem we_IllegalArgumentException_fillInStackTrace_I_Ljava_lang_Throwable_ : (Jvm.Cond.selects "java/lang/IllegalArgumentException" ({ cls := "java/lang/Throwable", name := "fillInStackTrace", desc := "(I)Ljava/lang/Throwable;" } : Jvm.MethodName) ({ cls := "java/lang/Throwable", name := "fillInStackTrace", desc := "(I)Ljava/lang/Throwable;" } : Jvm.MethodName)) ∈ gw := gw_t1 (k := 210) rfl rfl
theorem wf_IllegalArgumentException_cause : (Jvm.Cond.lays "java/lang/IllegalArgumentException" "java/lang/Throwable" "cause" "Ljava/lang/Throwable;") ∈ gw := gw_t1 (k := 211) rfl rfl
theorem wf_IllegalArgumentException_stackTrace : (Jvm.Cond.lays "java/lang/IllegalArgumentException" "java/lang/Throwable" "stackTrace" "[Ljava/lang/StackTraceElement;") ∈ gw := gw_t1 (k := 212) rfl rfl
theorem wf_IllegalArgumentException_suppressedExceptions : (Jvm.Cond.lays "java/lang/IllegalArgumentException" "java/lang/Throwable" "suppressedExceptions" "Ljava/util/List;") ∈ gw := gw_t1 (k := 213) rfl rfl
theorem wf_IllegalArgumentException_detailMessage : (Jvm.Cond.lays "java/lang/IllegalArgumentException" "java/lang/Throwable" "detailMessage" "Ljava/lang/String;") ∈ gw := gw_t1 (k := 214) rfl rfl
theorem wf_IllegalArgumentException_backtrace : (Jvm.Cond.lays "java/lang/IllegalArgumentException" "java/lang/Throwable" "backtrace" "Ljava/lang/Object;") ∈ gw := gw_t1 (k := 215) rfl rfl
theorem wl_X2_61 : (Jvm.Cond.methodLink "PotVolumes" (61 : Nat) ({ cls := "java/lang/IllegalArgumentException", name := "<init>", desc := "(Ljava/lang/String;)V" } : Jvm.MethodName)) ∈ gw := gw_t1 (k := 217) rfl rfl
theorem wm_IllegalArgumentException_init_Ljava_lang_String__V : (Jvm.Cond.instanceMethod ({ cls := "java/lang/IllegalArgumentException", name := "<init>", desc := "(Ljava/lang/String;)V" } : Jvm.MethodName)) ∈ gw := gw_t1 (k := 218) rfl rfl
theorem wc_IllegalArgumentException_init_Ljava_lang_String__V : (Jvm.Cond.code ({ cls := "java/lang/IllegalArgumentException", name := "<init>", desc := "(Ljava/lang/String;)V" } : Jvm.MethodName) prog_7_method_2_code (2 : Nat) (Option.none : Option Jvm.ClassFile.FieldType)) ∈ gw := gw_t1 (k := 219) rfl rfl
theorem wl_IllegalArgumentException_7 : (Jvm.Cond.methodLink "java/lang/IllegalArgumentException" (7 : Nat) ({ cls := "java/lang/RuntimeException", name := "<init>", desc := "(Ljava/lang/String;)V" } : Jvm.MethodName)) ∈ gw := gw_t1 (k := 220) rfl rfl
theorem wf_IllegalArgumentException_depth : (Jvm.Cond.lays "java/lang/IllegalArgumentException" "java/lang/Throwable" "depth" "I") ∈ gw := gw_t1 (k := 221) rfl rfl
theorem wl_X2_64 : (Jvm.Cond.methodLink "PotVolumes" (64 : Nat) ({ cls := "PotVolumes$Profile", name := "isClosed", desc := "()Z" } : Jvm.MethodName)) ∈ gw := gw_t1 (k := 224) rfl rfl
theorem wm_X1_isClosed : (Jvm.Cond.instanceMethod ({ cls := "PotVolumes$Profile", name := "isClosed", desc := "()Z" } : Jvm.MethodName)) ∈ gw := gw_t1 (k := 225) rfl rfl
theorem we_X1_isClosed : (Jvm.Cond.selects "PotVolumes$Profile" ({ cls := "PotVolumes$Profile", name := "isClosed", desc := "()Z" } : Jvm.MethodName) ({ cls := "PotVolumes$Profile", name := "isClosed", desc := "()Z" } : Jvm.MethodName)) ∈ gw := gw_t1 (k := 226) rfl rfl
theorem wc_X1_isClosed : (Jvm.Cond.code ({ cls := "PotVolumes$Profile", name := "isClosed", desc := "()Z" } : Jvm.MethodName) prog_3_method_2_code (1 : Nat) (Option.some Jvm.ClassFile.FieldType.boolean)) ∈ gw := gw_t1 (k := 227) rfl rfl
theorem wl_X2_70 : (Jvm.Cond.methodLink "PotVolumes" (70 : Nat) ({ cls := "PotVolumes$Profile", name := "addCorner", desc := "(II)Z" } : Jvm.MethodName)) ∈ gw := gw_t1 (k := 229) rfl rfl
theorem wm_X1_addCorner : (Jvm.Cond.instanceMethod ({ cls := "PotVolumes$Profile", name := "addCorner", desc := "(II)Z" } : Jvm.MethodName)) ∈ gw := gw_t1 (k := 230) rfl rfl
theorem we_X1_addCorner : (Jvm.Cond.selects "PotVolumes$Profile" ({ cls := "PotVolumes$Profile", name := "addCorner", desc := "(II)Z" } : Jvm.MethodName) ({ cls := "PotVolumes$Profile", name := "addCorner", desc := "(II)Z" } : Jvm.MethodName)) ∈ gw := gw_t1 (k := 231) rfl rfl
theorem wc_X1_addCorner : (Jvm.Cond.code ({ cls := "PotVolumes$Profile", name := "addCorner", desc := "(II)Z" } : Jvm.MethodName) prog_3_method_3_code (3 : Nat) (Option.some Jvm.ClassFile.FieldType.boolean)) ∈ gw := gw_t1 (k := 232) rfl rfl
theorem wl_X1_26 : (Jvm.Cond.methodLink "PotVolumes$Profile" (26 : Nat) ({ cls := "PotVolumes$Profile", name := "isClosed", desc := "()Z" } : Jvm.MethodName)) ∈ gw := gw_t1 (k := 233) rfl rfl
theorem wl_X1_30 : (Jvm.Cond.methodLink "PotVolumes$Profile" (30 : Nat) ({ cls := "PotVolumes$Profile", name := "canFollow", desc := "(II)Z" } : Jvm.MethodName)) ∈ gw := gw_t1 (k := 234) rfl rfl
theorem wm_X1_canFollow : (Jvm.Cond.instanceMethod ({ cls := "PotVolumes$Profile", name := "canFollow", desc := "(II)Z" } : Jvm.MethodName)) ∈ gw := gw_t1 (k := 236) rfl rfl
theorem wc_X1_canFollow : (Jvm.Cond.code ({ cls := "PotVolumes$Profile", name := "canFollow", desc := "(II)Z" } : Jvm.MethodName) prog_3_method_4_code (5 : Nat) (Option.some Jvm.ClassFile.FieldType.boolean)) ∈ gw := gw_t1 (k := 237) rfl rfl
theorem wl_L_98 : (Jvm.Cond.methodLink "PotVolumesLaw" (98 : Nat) ({ cls := "PotVolumesLaw", name := "at", desc := "(LPotVolumes;III[J)I" } : Jvm.MethodName)) ∈ gw := gw_t1 (k := 238) rfl rfl
theorem wt_L_at : (Jvm.Cond.static ({ cls := "PotVolumesLaw", name := "at", desc := "(LPotVolumes;III[J)I" } : Jvm.MethodName)) ∈ gw := gw_t1 (k := 239) rfl rfl
theorem wc_L_at : (Jvm.Cond.codeWith ({ cls := "PotVolumesLaw", name := "at", desc := "(LPotVolumes;III[J)I" } : Jvm.MethodName) method_5_code (6 : Nat) (Option.some Jvm.ClassFile.FieldType.int) [((0 : Nat), (12 : Nat), (15 : Nat), (19 : Nat))]) ∈ gw := gw_t2 (k := 0) rfl rfl
theorem wl_L_23 : (Jvm.Cond.methodLink "PotVolumesLaw" (23 : Nat) ({ cls := "PotVolumes", name := "at", desc := "(III)I" } : Jvm.MethodName)) ∈ gw := gw_t2 (k := 1) rfl rfl
theorem wm_X2_at : (Jvm.Cond.instanceMethod ({ cls := "PotVolumes", name := "at", desc := "(III)I" } : Jvm.MethodName)) ∈ gw := gw_t2 (k := 2) rfl rfl
theorem we_X2_at : (Jvm.Cond.selects "PotVolumes" ({ cls := "PotVolumes", name := "at", desc := "(III)I" } : Jvm.MethodName) ({ cls := "PotVolumes", name := "at", desc := "(III)I" } : Jvm.MethodName)) ∈ gw := gw_t2 (k := 3) rfl rfl
theorem wc_X2_at : (Jvm.Cond.code ({ cls := "PotVolumes", name := "at", desc := "(III)I" } : Jvm.MethodName) prog_1_method_4_code (5 : Nat) (Option.some Jvm.ClassFile.FieldType.int)) ∈ gw := gw_t2 (k := 4) rfl rfl
theorem wl_X2_74 : (Jvm.Cond.methodLink "PotVolumes" (74 : Nat) ({ cls := "PotVolumes", name := "needOneOfTwo", desc := "(I)V" } : Jvm.MethodName)) ∈ gw := gw_t2 (k := 5) rfl rfl
theorem wt_X2_needOneOfTwo : (Jvm.Cond.static ({ cls := "PotVolumes", name := "needOneOfTwo", desc := "(I)V" } : Jvm.MethodName)) ∈ gw := gw_t2 (k := 6) rfl rfl
theorem wc_X2_needOneOfTwo : (Jvm.Cond.code ({ cls := "PotVolumes", name := "needOneOfTwo", desc := "(I)V" } : Jvm.MethodName) prog_1_method_24_code (1 : Nat) (Option.none : Option Jvm.ClassFile.FieldType)) ∈ gw := gw_t2 (k := 7) rfl rfl
theorem wl_L_101 : (Jvm.Cond.methodLink "PotVolumesLaw" (101 : Nat) ({ cls := "PotVolumesLaw", name := "radius", desc := "(LPotVolumes;II[J)I" } : Jvm.MethodName)) ∈ gw := gw_t2 (k := 10) rfl rfl
theorem wt_L_radius : (Jvm.Cond.static ({ cls := "PotVolumesLaw", name := "radius", desc := "(LPotVolumes;II[J)I" } : Jvm.MethodName)) ∈ gw := gw_t2 (k := 11) rfl rfl
theorem wc_L_radius : (Jvm.Cond.codeWith ({ cls := "PotVolumesLaw", name := "radius", desc := "(LPotVolumes;II[J)I" } : Jvm.MethodName) method_6_code (5 : Nat) (Option.some Jvm.ClassFile.FieldType.int) [((0 : Nat), (10 : Nat), (13 : Nat), (19 : Nat))]) ∈ gw := gw_t2 (k := 12) rfl rfl
theorem wl_L_27 : (Jvm.Cond.methodLink "PotVolumesLaw" (27 : Nat) ({ cls := "PotVolumes", name := "radius", desc := "(II)I" } : Jvm.MethodName)) ∈ gw := gw_t2 (k := 13) rfl rfl
theorem wm_X2_radius : (Jvm.Cond.instanceMethod ({ cls := "PotVolumes", name := "radius", desc := "(II)I" } : Jvm.MethodName)) ∈ gw := gw_t2 (k := 14) rfl rfl
theorem we_X2_radius : (Jvm.Cond.selects "PotVolumes" ({ cls := "PotVolumes", name := "radius", desc := "(II)I" } : Jvm.MethodName) ({ cls := "PotVolumes", name := "radius", desc := "(II)I" } : Jvm.MethodName)) ∈ gw := gw_t2 (k := 15) rfl rfl
theorem wc_X2_radius : (Jvm.Cond.code ({ cls := "PotVolumes", name := "radius", desc := "(II)I" } : Jvm.MethodName) prog_1_method_5_code (3 : Nat) (Option.some Jvm.ClassFile.FieldType.int)) ∈ gw := gw_t2 (k := 16) rfl rfl
theorem wl_X2_92 : (Jvm.Cond.methodLink "PotVolumes" (92 : Nat) ({ cls := "PotVolumes$Profile", name := "radiusAt", desc := "(I)I" } : Jvm.MethodName)) ∈ gw := gw_t2 (k := 17) rfl rfl
theorem wm_X1_radiusAt : (Jvm.Cond.instanceMethod ({ cls := "PotVolumes$Profile", name := "radiusAt", desc := "(I)I" } : Jvm.MethodName)) ∈ gw := gw_t2 (k := 18) rfl rfl
theorem we_X1_radiusAt : (Jvm.Cond.selects "PotVolumes$Profile" ({ cls := "PotVolumes$Profile", name := "radiusAt", desc := "(I)I" } : Jvm.MethodName) ({ cls := "PotVolumes$Profile", name := "radiusAt", desc := "(I)I" } : Jvm.MethodName)) ∈ gw := gw_t2 (k := 19) rfl rfl
theorem wc_X1_radiusAt : (Jvm.Cond.code ({ cls := "PotVolumes$Profile", name := "radiusAt", desc := "(I)I" } : Jvm.MethodName) prog_3_method_5_code (5 : Nat) (Option.some Jvm.ClassFile.FieldType.int)) ∈ gw := gw_t2 (k := 20) rfl rfl
theorem wl_X1_34 : (Jvm.Cond.methodLink "PotVolumes$Profile" (34 : Nat) ({ cls := "java/lang/Math", name := "max", desc := "(II)I" } : Jvm.MethodName)) ∈ gw := gw_t2 (k := 21) rfl rfl
theorem wt_Math_max : (Jvm.Cond.static ({ cls := "java/lang/Math", name := "max", desc := "(II)I" } : Jvm.MethodName)) ∈ gw := gw_t2 (k := 22) rfl rfl
theorem wc_Math_max_II_I : (Jvm.Cond.code ({ cls := "java/lang/Math", name := "max", desc := "(II)I" } : Jvm.MethodName) prog_10_method_65_code (2 : Nat) (Option.some Jvm.ClassFile.FieldType.int)) ∈ gw := gw_t2 (k := 23) rfl rfl
theorem wl_X1_40 : (Jvm.Cond.methodLink "PotVolumes$Profile" (40 : Nat) ({ cls := "PotVolumes$Profile", name := "scaledRadius", desc := "(III)I" } : Jvm.MethodName)) ∈ gw := gw_t2 (k := 24) rfl rfl
theorem wm_X1_scaledRadius : (Jvm.Cond.instanceMethod ({ cls := "PotVolumes$Profile", name := "scaledRadius", desc := "(III)I" } : Jvm.MethodName)) ∈ gw := gw_t2 (k := 26) rfl rfl
theorem wc_X1_scaledRadius : (Jvm.Cond.code ({ cls := "PotVolumes$Profile", name := "scaledRadius", desc := "(III)I" } : Jvm.MethodName) prog_3_method_7_code (6 : Nat) (Option.some Jvm.ClassFile.FieldType.int)) ∈ gw := gw_t2 (k := 27) rfl rfl
theorem wl_L_105 : (Jvm.Cond.methodLink "PotVolumesLaw" (105 : Nat) ({ cls := "PotVolumesLaw", name := "volume", desc := "(LPotVolumes;III[J)I" } : Jvm.MethodName)) ∈ gw := gw_t2 (k := 28) rfl rfl
theorem wt_L_volume : (Jvm.Cond.static ({ cls := "PotVolumesLaw", name := "volume", desc := "(LPotVolumes;III[J)I" } : Jvm.MethodName)) ∈ gw := gw_t2 (k := 29) rfl rfl
theorem wc_L_volume : (Jvm.Cond.codeWith ({ cls := "PotVolumesLaw", name := "volume", desc := "(LPotVolumes;III[J)I" } : Jvm.MethodName) method_7_code (6 : Nat) (Option.some Jvm.ClassFile.FieldType.int) [((0 : Nat), (11 : Nat), (14 : Nat), (19 : Nat))]) ∈ gw := gw_t2 (k := 30) rfl rfl
theorem wl_L_31 : (Jvm.Cond.methodLink "PotVolumesLaw" (31 : Nat) ({ cls := "PotVolumes", name := "volume", desc := "(III)J" } : Jvm.MethodName)) ∈ gw := gw_t2 (k := 31) rfl rfl
theorem wm_X2_volume : (Jvm.Cond.instanceMethod ({ cls := "PotVolumes", name := "volume", desc := "(III)J" } : Jvm.MethodName)) ∈ gw := gw_t2 (k := 32) rfl rfl
theorem we_X2_volume : (Jvm.Cond.selects "PotVolumes" ({ cls := "PotVolumes", name := "volume", desc := "(III)J" } : Jvm.MethodName) ({ cls := "PotVolumes", name := "volume", desc := "(III)J" } : Jvm.MethodName)) ∈ gw := gw_t2 (k := 33) rfl rfl
theorem wc_X2_volume : (Jvm.Cond.code ({ cls := "PotVolumes", name := "volume", desc := "(III)J" } : Jvm.MethodName) prog_1_method_6_code (5 : Nat) (Option.some Jvm.ClassFile.FieldType.long)) ∈ gw := gw_t2 (k := 34) rfl rfl
theorem wl_X2_96 : (Jvm.Cond.methodLink "PotVolumes" (96 : Nat) ({ cls := "PotVolumes$Profile", name := "measure", desc := "(LPotVolumes$Fraction;I)V" } : Jvm.MethodName)) ∈ gw := gw_t2 (k := 35) rfl rfl
theorem wm_X1_measure : (Jvm.Cond.instanceMethod ({ cls := "PotVolumes$Profile", name := "measure", desc := "(LPotVolumes$Fraction;I)V" } : Jvm.MethodName)) ∈ gw := gw_t2 (k := 36) rfl rfl
theorem we_X1_measure : (Jvm.Cond.selects "PotVolumes$Profile" ({ cls := "PotVolumes$Profile", name := "measure", desc := "(LPotVolumes$Fraction;I)V" } : Jvm.MethodName) ({ cls := "PotVolumes$Profile", name := "measure", desc := "(LPotVolumes$Fraction;I)V" } : Jvm.MethodName)) ∈ gw := gw_t2 (k := 37) rfl rfl
theorem wc_X1_measure : (Jvm.Cond.code ({ cls := "PotVolumes$Profile", name := "measure", desc := "(LPotVolumes$Fraction;I)V" } : Jvm.MethodName) prog_3_method_8_code (3 : Nat) (Option.none : Option Jvm.ClassFile.FieldType)) ∈ gw := gw_t2 (k := 38) rfl rfl
theorem wl_X1_48 : (Jvm.Cond.methodLink "PotVolumes$Profile" (48 : Nat) ({ cls := "PotVolumes$Fraction", name := "clearToZero", desc := "()V" } : Jvm.MethodName)) ∈ gw := gw_t2 (k := 39) rfl rfl
theorem wm_X0_clearToZero : (Jvm.Cond.instanceMethod ({ cls := "PotVolumes$Fraction", name := "clearToZero", desc := "()V" } : Jvm.MethodName)) ∈ gw := gw_t2 (k := 40) rfl rfl
theorem we_X0_clearToZero : (Jvm.Cond.selects "PotVolumes$Fraction" ({ cls := "PotVolumes$Fraction", name := "clearToZero", desc := "()V" } : Jvm.MethodName) ({ cls := "PotVolumes$Fraction", name := "clearToZero", desc := "()V" } : Jvm.MethodName)) ∈ gw := gw_t2 (k := 41) rfl rfl
theorem wc_X0_clearToZero : (Jvm.Cond.code ({ cls := "PotVolumes$Fraction", name := "clearToZero", desc := "()V" } : Jvm.MethodName) prog_2_method_2_code (1 : Nat) (Option.none : Option Jvm.ClassFile.FieldType)) ∈ gw := gw_t2 (k := 42) rfl rfl
theorem wl_X1_53 : (Jvm.Cond.methodLink "PotVolumes$Profile" (53 : Nat) ({ cls := "PotVolumes$Profile", name := "addPieces", desc := "(LPotVolumes$Fraction;III)V" } : Jvm.MethodName)) ∈ gw := gw_t2 (k := 43) rfl rfl
theorem wm_X1_addPieces : (Jvm.Cond.instanceMethod ({ cls := "PotVolumes$Profile", name := "addPieces", desc := "(LPotVolumes$Fraction;III)V" } : Jvm.MethodName)) ∈ gw := gw_t2 (k := 45) rfl rfl
theorem wc_X1_addPieces : (Jvm.Cond.code ({ cls := "PotVolumes$Profile", name := "addPieces", desc := "(LPotVolumes$Fraction;III)V" } : Jvm.MethodName) prog_3_method_10_code (8 : Nat) (Option.none : Option Jvm.ClassFile.FieldType)) ∈ gw := gw_t2 (k := 46) rfl rfl
theorem wl_X1_60 : (Jvm.Cond.methodLink "PotVolumes$Profile" (60 : Nat) ({ cls := "java/lang/Math", name := "min", desc := "(II)I" } : Jvm.MethodName)) ∈ gw := gw_t2 (k := 47) rfl rfl
theorem wt_Math_min : (Jvm.Cond.static ({ cls := "java/lang/Math", name := "min", desc := "(II)I" } : Jvm.MethodName)) ∈ gw := gw_t2 (k := 48) rfl rfl
theorem wc_Math_min_II_I : (Jvm.Cond.code ({ cls := "java/lang/Math", name := "min", desc := "(II)I" } : Jvm.MethodName) prog_10_method_69_code (2 : Nat) (Option.some Jvm.ClassFile.FieldType.int)) ∈ gw := gw_t2 (k := 49) rfl rfl
theorem wl_X1_63 : (Jvm.Cond.methodLink "PotVolumes$Profile" (63 : Nat) ({ cls := "PotVolumes$Profile", name := "addPiece", desc := "(LPotVolumes$Fraction;IIII)V" } : Jvm.MethodName)) ∈ gw := gw_t2 (k := 50) rfl rfl
theorem wm_X1_addPiece : (Jvm.Cond.instanceMethod ({ cls := "PotVolumes$Profile", name := "addPiece", desc := "(LPotVolumes$Fraction;IIII)V" } : Jvm.MethodName)) ∈ gw := gw_t2 (k := 52) rfl rfl
theorem wc_X1_addPiece : (Jvm.Cond.code ({ cls := "PotVolumes$Profile", name := "addPiece", desc := "(LPotVolumes$Fraction;IIII)V" } : Jvm.MethodName) prog_3_method_11_code (12 : Nat) (Option.none : Option Jvm.ClassFile.FieldType)) ∈ gw := gw_t2 (k := 53) rfl rfl
theorem wl_X1_67 : (Jvm.Cond.constantLong "PotVolumes$Profile" (67 : Nat) (3 : Int64)) ∈ gw := gw_t2 (k := 54) rfl rfl
theorem wl_X1_69 : (Jvm.Cond.methodLink "PotVolumes$Profile" (69 : Nat) ({ cls := "PotVolumes$Fraction", name := "add", desc := "(JJ)V" } : Jvm.MethodName)) ∈ gw := gw_t2 (k := 55) rfl rfl
theorem wm_X0_add : (Jvm.Cond.instanceMethod ({ cls := "PotVolumes$Fraction", name := "add", desc := "(JJ)V" } : Jvm.MethodName)) ∈ gw := gw_t2 (k := 56) rfl rfl
theorem we_X0_add : (Jvm.Cond.selects "PotVolumes$Fraction" ({ cls := "PotVolumes$Fraction", name := "add", desc := "(JJ)V" } : Jvm.MethodName) ({ cls := "PotVolumes$Fraction", name := "add", desc := "(JJ)V" } : Jvm.MethodName)) ∈ gw := gw_t2 (k := 57) rfl rfl
theorem wc_X0_add : (Jvm.Cond.code ({ cls := "PotVolumes$Fraction", name := "add", desc := "(JJ)V" } : Jvm.MethodName) prog_2_method_3_code (11 : Nat) (Option.none : Option Jvm.ClassFile.FieldType)) ∈ gw := gw_t2 (k := 58) rfl rfl
theorem wl_X0_18 : (Jvm.Cond.methodLink "PotVolumes$Fraction" (18 : Nat) ({ cls := "PotVolumes$Fraction", name := "commonDivisor", desc := "(JJ)J" } : Jvm.MethodName)) ∈ gw := gw_t2 (k := 59) rfl rfl
theorem wt_X0_commonDivisor : (Jvm.Cond.static ({ cls := "PotVolumes$Fraction", name := "commonDivisor", desc := "(JJ)J" } : Jvm.MethodName)) ∈ gw := gw_t2 (k := 60) rfl rfl
theorem wc_X0_commonDivisor : (Jvm.Cond.code ({ cls := "PotVolumes$Fraction", name := "commonDivisor", desc := "(JJ)J" } : Jvm.MethodName) prog_2_method_5_code (11 : Nat) (Option.some Jvm.ClassFile.FieldType.long)) ∈ gw := gw_t2 (k := 61) rfl rfl
theorem wl_X0_22 : (Jvm.Cond.methodLink "PotVolumes$Fraction" (22 : Nat) ({ cls := "PotVolumes$Fraction", name := "lessen", desc := "()V" } : Jvm.MethodName)) ∈ gw := gw_t2 (k := 62) rfl rfl
theorem wm_X0_lessen : (Jvm.Cond.instanceMethod ({ cls := "PotVolumes$Fraction", name := "lessen", desc := "()V" } : Jvm.MethodName)) ∈ gw := gw_t2 (k := 64) rfl rfl
theorem wc_X0_lessen : (Jvm.Cond.code ({ cls := "PotVolumes$Fraction", name := "lessen", desc := "()V" } : Jvm.MethodName) prog_2_method_4_code (3 : Nat) (Option.none : Option Jvm.ClassFile.FieldType)) ∈ gw := gw_t2 (k := 65) rfl rfl
theorem wl_X2_100 : (Jvm.Cond.methodLink "PotVolumes" (100 : Nat) ({ cls := "PotVolumes$Fraction", name := "tell", desc := "(I)J" } : Jvm.MethodName)) ∈ gw := gw_t2 (k := 66) rfl rfl
theorem wm_X0_tell : (Jvm.Cond.instanceMethod ({ cls := "PotVolumes$Fraction", name := "tell", desc := "(I)J" } : Jvm.MethodName)) ∈ gw := gw_t2 (k := 67) rfl rfl
theorem we_X0_tell : (Jvm.Cond.selects "PotVolumes$Fraction" ({ cls := "PotVolumes$Fraction", name := "tell", desc := "(I)J" } : Jvm.MethodName) ({ cls := "PotVolumes$Fraction", name := "tell", desc := "(I)J" } : Jvm.MethodName)) ∈ gw := gw_t2 (k := 68) rfl rfl
theorem wc_X0_tell : (Jvm.Cond.code ({ cls := "PotVolumes$Fraction", name := "tell", desc := "(I)J" } : Jvm.MethodName) prog_2_method_6_code (2 : Nat) (Option.some Jvm.ClassFile.FieldType.long)) ∈ gw := gw_t2 (k := 69) rfl rfl
theorem wl_L_108 : (Jvm.Cond.methodLink "PotVolumesLaw" (108 : Nat) ({ cls := "PotVolumesLaw", name := "holds", desc := "(LPotVolumes;III[J)I" } : Jvm.MethodName)) ∈ gw := gw_t2 (k := 70) rfl rfl
theorem wt_L_holds : (Jvm.Cond.static ({ cls := "PotVolumesLaw", name := "holds", desc := "(LPotVolumes;III[J)I" } : Jvm.MethodName)) ∈ gw := gw_t2 (k := 71) rfl rfl
theorem wc_L_holds : (Jvm.Cond.codeWith ({ cls := "PotVolumesLaw", name := "holds", desc := "(LPotVolumes;III[J)I" } : Jvm.MethodName) method_8_code (6 : Nat) (Option.some Jvm.ClassFile.FieldType.int) [((0 : Nat), (11 : Nat), (14 : Nat), (19 : Nat))]) ∈ gw := gw_t2 (k := 72) rfl rfl
theorem wl_L_35 : (Jvm.Cond.methodLink "PotVolumesLaw" (35 : Nat) ({ cls := "PotVolumes", name := "holds", desc := "(III)J" } : Jvm.MethodName)) ∈ gw := gw_t2 (k := 73) rfl rfl
theorem wm_X2_holds : (Jvm.Cond.instanceMethod ({ cls := "PotVolumes", name := "holds", desc := "(III)J" } : Jvm.MethodName)) ∈ gw := gw_t2 (k := 74) rfl rfl
theorem we_X2_holds : (Jvm.Cond.selects "PotVolumes" ({ cls := "PotVolumes", name := "holds", desc := "(III)J" } : Jvm.MethodName) ({ cls := "PotVolumes", name := "holds", desc := "(III)J" } : Jvm.MethodName)) ∈ gw := gw_t2 (k := 75) rfl rfl
theorem wc_X2_holds : (Jvm.Cond.code ({ cls := "PotVolumes", name := "holds", desc := "(III)J" } : Jvm.MethodName) prog_1_method_7_code (5 : Nat) (Option.some Jvm.ClassFile.FieldType.long)) ∈ gw := gw_t2 (k := 76) rfl rfl
theorem wl_X2_104 : (Jvm.Cond.methodLink "PotVolumes" (104 : Nat) ({ cls := "PotVolumes$Profile", name := "measureHeld", desc := "(LPotVolumes$Fraction;I)V" } : Jvm.MethodName)) ∈ gw := gw_t2 (k := 77) rfl rfl
theorem wm_X1_measureHeld : (Jvm.Cond.instanceMethod ({ cls := "PotVolumes$Profile", name := "measureHeld", desc := "(LPotVolumes$Fraction;I)V" } : Jvm.MethodName)) ∈ gw := gw_t2 (k := 78) rfl rfl
theorem we_X1_measureHeld : (Jvm.Cond.selects "PotVolumes$Profile" ({ cls := "PotVolumes$Profile", name := "measureHeld", desc := "(LPotVolumes$Fraction;I)V" } : Jvm.MethodName) ({ cls := "PotVolumes$Profile", name := "measureHeld", desc := "(LPotVolumes$Fraction;I)V" } : Jvm.MethodName)) ∈ gw := gw_t2 (k := 79) rfl rfl
theorem wc_X1_measureHeld : (Jvm.Cond.code ({ cls := "PotVolumes$Profile", name := "measureHeld", desc := "(LPotVolumes$Fraction;I)V" } : Jvm.MethodName) prog_3_method_9_code (3 : Nat) (Option.none : Option Jvm.ClassFile.FieldType)) ∈ gw := gw_t2 (k := 80) rfl rfl
theorem wl_L_111 : (Jvm.Cond.methodLink "PotVolumesLaw" (111 : Nat) ({ cls := "PotVolumesLaw", name := "enclosed", desc := "(LPotVolumes;II[J)I" } : Jvm.MethodName)) ∈ gw := gw_t2 (k := 81) rfl rfl
theorem wt_L_enclosed : (Jvm.Cond.static ({ cls := "PotVolumesLaw", name := "enclosed", desc := "(LPotVolumes;II[J)I" } : Jvm.MethodName)) ∈ gw := gw_t2 (k := 82) rfl rfl
theorem wc_L_enclosed : (Jvm.Cond.codeWith ({ cls := "PotVolumesLaw", name := "enclosed", desc := "(LPotVolumes;II[J)I" } : Jvm.MethodName) method_9_code (5 : Nat) (Option.some Jvm.ClassFile.FieldType.int) [((0 : Nat), (9 : Nat), (12 : Nat), (19 : Nat))]) ∈ gw := gw_t2 (k := 83) rfl rfl
theorem wl_L_38 : (Jvm.Cond.methodLink "PotVolumesLaw" (38 : Nat) ({ cls := "PotVolumes", name := "enclosed", desc := "(II)J" } : Jvm.MethodName)) ∈ gw := gw_t2 (k := 84) rfl rfl
theorem wm_X2_enclosed : (Jvm.Cond.instanceMethod ({ cls := "PotVolumes", name := "enclosed", desc := "(II)J" } : Jvm.MethodName)) ∈ gw := gw_t2 (k := 85) rfl rfl
theorem we_X2_enclosed : (Jvm.Cond.selects "PotVolumes" ({ cls := "PotVolumes", name := "enclosed", desc := "(II)J" } : Jvm.MethodName) ({ cls := "PotVolumes", name := "enclosed", desc := "(II)J" } : Jvm.MethodName)) ∈ gw := gw_t2 (k := 86) rfl rfl
theorem wc_X2_enclosed : (Jvm.Cond.code ({ cls := "PotVolumes", name := "enclosed", desc := "(II)J" } : Jvm.MethodName) prog_1_method_8_code (4 : Nat) (Option.some Jvm.ClassFile.FieldType.long)) ∈ gw := gw_t2 (k := 87) rfl rfl
theorem wl_X2_107 : (Jvm.Cond.methodLink "PotVolumes" (107 : Nat) ({ cls := "PotVolumes$Fraction", name := "circledDown", desc := "()J" } : Jvm.MethodName)) ∈ gw := gw_t2 (k := 88) rfl rfl
theorem wm_X0_circledDown : (Jvm.Cond.instanceMethod ({ cls := "PotVolumes$Fraction", name := "circledDown", desc := "()J" } : Jvm.MethodName)) ∈ gw := gw_t2 (k := 89) rfl rfl
theorem we_X0_circledDown : (Jvm.Cond.selects "PotVolumes$Fraction" ({ cls := "PotVolumes$Fraction", name := "circledDown", desc := "()J" } : Jvm.MethodName) ({ cls := "PotVolumes$Fraction", name := "circledDown", desc := "()J" } : Jvm.MethodName)) ∈ gw := gw_t2 (k := 90) rfl rfl
theorem wc_X0_circledDown : (Jvm.Cond.code ({ cls := "PotVolumes$Fraction", name := "circledDown", desc := "()J" } : Jvm.MethodName) prog_2_method_8_code (1 : Nat) (Option.some Jvm.ClassFile.FieldType.long)) ∈ gw := gw_t2 (k := 91) rfl rfl
theorem wl_X0_25 : (Jvm.Cond.constantLong "PotVolumes$Fraction" (25 : Nat) (314159265 : Int64)) ∈ gw := gw_t2 (k := 92) rfl rfl
theorem wl_X0_27 : (Jvm.Cond.methodLink "PotVolumes$Fraction" (27 : Nat) ({ cls := "PotVolumes$Fraction", name := "timesDown", desc := "(J)J" } : Jvm.MethodName)) ∈ gw := gw_t2 (k := 93) rfl rfl
theorem wm_X0_timesDown : (Jvm.Cond.instanceMethod ({ cls := "PotVolumes$Fraction", name := "timesDown", desc := "(J)J" } : Jvm.MethodName)) ∈ gw := gw_t2 (k := 95) rfl rfl
theorem wc_X0_timesDown : (Jvm.Cond.code ({ cls := "PotVolumes$Fraction", name := "timesDown", desc := "(J)J" } : Jvm.MethodName) prog_2_method_10_code (3 : Nat) (Option.some Jvm.ClassFile.FieldType.long)) ∈ gw := gw_t2 (k := 96) rfl rfl
theorem wl_X0_31 : (Jvm.Cond.constantLong "PotVolumes$Fraction" (31 : Nat) (100000000 : Int64)) ∈ gw := gw_t2 (k := 97) rfl rfl
theorem wl_X2_111 : (Jvm.Cond.methodLink "PotVolumes" (111 : Nat) ({ cls := "PotVolumes$Fraction", name := "circledUp", desc := "()J" } : Jvm.MethodName)) ∈ gw := gw_t2 (k := 98) rfl rfl
theorem wm_X0_circledUp : (Jvm.Cond.instanceMethod ({ cls := "PotVolumes$Fraction", name := "circledUp", desc := "()J" } : Jvm.MethodName)) ∈ gw := gw_t2 (k := 99) rfl rfl
theorem we_X0_circledUp : (Jvm.Cond.selects "PotVolumes$Fraction" ({ cls := "PotVolumes$Fraction", name := "circledUp", desc := "()J" } : Jvm.MethodName) ({ cls := "PotVolumes$Fraction", name := "circledUp", desc := "()J" } : Jvm.MethodName)) ∈ gw := gw_t2 (k := 100) rfl rfl
theorem wc_X0_circledUp : (Jvm.Cond.code ({ cls := "PotVolumes$Fraction", name := "circledUp", desc := "()J" } : Jvm.MethodName) prog_2_method_9_code (1 : Nat) (Option.some Jvm.ClassFile.FieldType.long)) ∈ gw := gw_t2 (k := 101) rfl rfl
theorem wl_X0_33 : (Jvm.Cond.constantLong "PotVolumes$Fraction" (33 : Nat) (314159266 : Int64)) ∈ gw := gw_t2 (k := 102) rfl rfl
theorem wl_X0_35 : (Jvm.Cond.methodLink "PotVolumes$Fraction" (35 : Nat) ({ cls := "PotVolumes$Fraction", name := "timesUp", desc := "(J)J" } : Jvm.MethodName)) ∈ gw := gw_t2 (k := 103) rfl rfl
theorem wm_X0_timesUp : (Jvm.Cond.instanceMethod ({ cls := "PotVolumes$Fraction", name := "timesUp", desc := "(J)J" } : Jvm.MethodName)) ∈ gw := gw_t2 (k := 105) rfl rfl
theorem wc_X0_timesUp : (Jvm.Cond.code ({ cls := "PotVolumes$Fraction", name := "timesUp", desc := "(J)J" } : Jvm.MethodName) prog_2_method_11_code (3 : Nat) (Option.some Jvm.ClassFile.FieldType.long)) ∈ gw := gw_t2 (k := 106) rfl rfl
theorem wl_L_114 : (Jvm.Cond.methodLink "PotVolumesLaw" (114 : Nat) ({ cls := "PotVolumesLaw", name := "wall", desc := "(LPotVolumes;II[J)I" } : Jvm.MethodName)) ∈ gw := gw_t2 (k := 107) rfl rfl
theorem wt_L_wall : (Jvm.Cond.static ({ cls := "PotVolumesLaw", name := "wall", desc := "(LPotVolumes;II[J)I" } : Jvm.MethodName)) ∈ gw := gw_t2 (k := 108) rfl rfl
theorem wc_L_wall : (Jvm.Cond.codeWith ({ cls := "PotVolumesLaw", name := "wall", desc := "(LPotVolumes;II[J)I" } : Jvm.MethodName) method_10_code (5 : Nat) (Option.some Jvm.ClassFile.FieldType.int) [((0 : Nat), (10 : Nat), (13 : Nat), (19 : Nat)), ((0 : Nat), (10 : Nat), (17 : Nat), (21 : Nat))]) ∈ gw := gw_t2 (k := 109) rfl rfl
theorem wl_L_42 : (Jvm.Cond.methodLink "PotVolumesLaw" (42 : Nat) ({ cls := "PotVolumes", name := "wall", desc := "(II)I" } : Jvm.MethodName)) ∈ gw := gw_t2 (k := 110) rfl rfl
theorem wm_X2_wall : (Jvm.Cond.instanceMethod ({ cls := "PotVolumes", name := "wall", desc := "(II)I" } : Jvm.MethodName)) ∈ gw := gw_t2 (k := 111) rfl rfl
theorem we_X2_wall : (Jvm.Cond.selects "PotVolumes" ({ cls := "PotVolumes", name := "wall", desc := "(II)I" } : Jvm.MethodName) ({ cls := "PotVolumes", name := "wall", desc := "(II)I" } : Jvm.MethodName)) ∈ gw := gw_t2 (k := 112) rfl rfl
theorem wc_X2_wall : (Jvm.Cond.code ({ cls := "PotVolumes", name := "wall", desc := "(II)I" } : Jvm.MethodName) prog_1_method_9_code (5 : Nat) (Option.some Jvm.ClassFile.FieldType.int)) ∈ gw := gw_t2 (k := 113) rfl rfl
theorem wl_L_117 : (Jvm.Cond.methodLink "PotVolumesLaw" (117 : Nat) ({ cls := "PotVolumesLaw", name := "unlike", desc := "(LPotVolumes;II[J)I" } : Jvm.MethodName)) ∈ gw := gw_t2 (k := 115) rfl rfl
theorem wt_L_unlike : (Jvm.Cond.static ({ cls := "PotVolumesLaw", name := "unlike", desc := "(LPotVolumes;II[J)I" } : Jvm.MethodName)) ∈ gw := gw_t2 (k := 116) rfl rfl
theorem wc_L_unlike : (Jvm.Cond.codeWith ({ cls := "PotVolumesLaw", name := "unlike", desc := "(LPotVolumes;II[J)I" } : Jvm.MethodName) method_11_code (5 : Nat) (Option.some Jvm.ClassFile.FieldType.int) [((0 : Nat), (10 : Nat), (13 : Nat), (19 : Nat))]) ∈ gw := gw_t2 (k := 117) rfl rfl
theorem wl_L_45 : (Jvm.Cond.methodLink "PotVolumesLaw" (45 : Nat) ({ cls := "PotVolumes", name := "unlike", desc := "(II)I" } : Jvm.MethodName)) ∈ gw := gw_t2 (k := 118) rfl rfl
theorem wm_X2_unlike : (Jvm.Cond.instanceMethod ({ cls := "PotVolumes", name := "unlike", desc := "(II)I" } : Jvm.MethodName)) ∈ gw := gw_t2 (k := 119) rfl rfl
theorem we_X2_unlike : (Jvm.Cond.selects "PotVolumes" ({ cls := "PotVolumes", name := "unlike", desc := "(II)I" } : Jvm.MethodName) ({ cls := "PotVolumes", name := "unlike", desc := "(II)I" } : Jvm.MethodName)) ∈ gw := gw_t2 (k := 120) rfl rfl
theorem wc_X2_unlike : (Jvm.Cond.code ({ cls := "PotVolumes", name := "unlike", desc := "(II)I" } : Jvm.MethodName) prog_1_method_10_code (8 : Nat) (Option.some Jvm.ClassFile.FieldType.int)) ∈ gw := gw_t2 (k := 121) rfl rfl
theorem wl_X2_119 : (Jvm.Cond.methodLink "PotVolumes" (119 : Nat) ({ cls := "PotVolumes$Profile", name := "radiusOrZero", desc := "(I)I" } : Jvm.MethodName)) ∈ gw := gw_t2 (k := 122) rfl rfl
theorem wm_X1_radiusOrZero : (Jvm.Cond.instanceMethod ({ cls := "PotVolumes$Profile", name := "radiusOrZero", desc := "(I)I" } : Jvm.MethodName)) ∈ gw := gw_t2 (k := 123) rfl rfl
theorem we_X1_radiusOrZero : (Jvm.Cond.selects "PotVolumes$Profile" ({ cls := "PotVolumes$Profile", name := "radiusOrZero", desc := "(I)I" } : Jvm.MethodName) ({ cls := "PotVolumes$Profile", name := "radiusOrZero", desc := "(I)I" } : Jvm.MethodName)) ∈ gw := gw_t2 (k := 124) rfl rfl
theorem wc_X1_radiusOrZero : (Jvm.Cond.code ({ cls := "PotVolumes$Profile", name := "radiusOrZero", desc := "(I)I" } : Jvm.MethodName) prog_3_method_6_code (2 : Nat) (Option.some Jvm.ClassFile.FieldType.int)) ∈ gw := gw_t2 (k := 125) rfl rfl
theorem wl_X1_44 : (Jvm.Cond.methodLink "PotVolumes$Profile" (44 : Nat) ({ cls := "PotVolumes$Profile", name := "radiusAt", desc := "(I)I" } : Jvm.MethodName)) ∈ gw := gw_t2 (k := 126) rfl rfl
theorem wl_X2_122 : (Jvm.Cond.methodLink "PotVolumes" (122 : Nat) ({ cls := "java/lang/Math", name := "abs", desc := "(I)I" } : Jvm.MethodName)) ∈ gw := gw_t2 (k := 127) rfl rfl
theorem wt_Math_abs : (Jvm.Cond.static ({ cls := "java/lang/Math", name := "abs", desc := "(I)I" } : Jvm.MethodName)) ∈ gw := gw_t2 (k := 128) rfl rfl
theorem wc_Math_abs_I_I : (Jvm.Cond.code ({ cls := "java/lang/Math", name := "abs", desc := "(I)I" } : Jvm.MethodName) prog_10_method_59_code (1 : Nat) (Option.some Jvm.ClassFile.FieldType.int)) ∈ gw := gw_t2 (k := 129) rfl rfl
theorem wl_L_120 : (Jvm.Cond.methodLink "PotVolumesLaw" (120 : Nat) ({ cls := "PotVolumesLaw", name := "cut", desc := "(LPotVolumes;II[J)I" } : Jvm.MethodName)) ∈ gw := gw_t2 (k := 130) rfl rfl
theorem wt_L_cut : (Jvm.Cond.static ({ cls := "PotVolumesLaw", name := "cut", desc := "(LPotVolumes;II[J)I" } : Jvm.MethodName)) ∈ gw := gw_t2 (k := 131) rfl rfl
theorem wc_L_cut : (Jvm.Cond.codeWith ({ cls := "PotVolumesLaw", name := "cut", desc := "(LPotVolumes;II[J)I" } : Jvm.MethodName) method_12_code (5 : Nat) (Option.some Jvm.ClassFile.FieldType.int) [((0 : Nat), (17 : Nat), (20 : Nat), (19 : Nat))]) ∈ gw := gw_t2 (k := 132) rfl rfl
theorem wl_L_48 : (Jvm.Cond.methodLink "PotVolumesLaw" (48 : Nat) ({ cls := "PotVolumes", name := "cut", desc := "(II)Z" } : Jvm.MethodName)) ∈ gw := gw_t2 (k := 133) rfl rfl
theorem wm_X2_cut : (Jvm.Cond.instanceMethod ({ cls := "PotVolumes", name := "cut", desc := "(II)Z" } : Jvm.MethodName)) ∈ gw := gw_t2 (k := 134) rfl rfl
theorem we_X2_cut : (Jvm.Cond.selects "PotVolumes" ({ cls := "PotVolumes", name := "cut", desc := "(II)Z" } : Jvm.MethodName) ({ cls := "PotVolumes", name := "cut", desc := "(II)Z" } : Jvm.MethodName)) ∈ gw := gw_t2 (k := 135) rfl rfl
theorem wc_X2_cut : (Jvm.Cond.code ({ cls := "PotVolumes", name := "cut", desc := "(II)Z" } : Jvm.MethodName) prog_1_method_11_code (3 : Nat) (Option.some Jvm.ClassFile.FieldType.boolean)) ∈ gw := gw_t2 (k := 136) rfl rfl
theorem wl_X2_127 : (Jvm.Cond.methodLink "PotVolumes" (127 : Nat) ({ cls := "PotVolumes$Profile", name := "cutAt", desc := "(I)Z" } : Jvm.MethodName)) ∈ gw := gw_t2 (k := 137) rfl rfl
theorem wm_X1_cutAt : (Jvm.Cond.instanceMethod ({ cls := "PotVolumes$Profile", name := "cutAt", desc := "(I)Z" } : Jvm.MethodName)) ∈ gw := gw_t2 (k := 138) rfl rfl
theorem we_X1_cutAt : (Jvm.Cond.selects "PotVolumes$Profile" ({ cls := "PotVolumes$Profile", name := "cutAt", desc := "(I)Z" } : Jvm.MethodName) ({ cls := "PotVolumes$Profile", name := "cutAt", desc := "(I)Z" } : Jvm.MethodName)) ∈ gw := gw_t2 (k := 139) rfl rfl
theorem wc_X1_cutAt : (Jvm.Cond.code ({ cls := "PotVolumes$Profile", name := "cutAt", desc := "(I)Z" } : Jvm.MethodName) prog_3_method_12_code (4 : Nat) (Option.some Jvm.ClassFile.FieldType.boolean)) ∈ gw := gw_t2 (k := 140) rfl rfl
theorem wl_X1_73 : (Jvm.Cond.methodLink "PotVolumes$Profile" (73 : Nat) ({ cls := "PotVolumes$Profile", name := "countUpTo", desc := "(I)I" } : Jvm.MethodName)) ∈ gw := gw_t2 (k := 141) rfl rfl
theorem wm_X1_countUpTo : (Jvm.Cond.instanceMethod ({ cls := "PotVolumes$Profile", name := "countUpTo", desc := "(I)I" } : Jvm.MethodName)) ∈ gw := gw_t2 (k := 143) rfl rfl
theorem wc_X1_countUpTo : (Jvm.Cond.code ({ cls := "PotVolumes$Profile", name := "countUpTo", desc := "(I)I" } : Jvm.MethodName) prog_3_method_13_code (4 : Nat) (Option.some Jvm.ClassFile.FieldType.int)) ∈ gw := gw_t2 (k := 144) rfl rfl
theorem wl_L_123 : (Jvm.Cond.methodLink "PotVolumesLaw" (123 : Nat) ({ cls := "PotVolumesLaw", name := "drawn", desc := "(LPotVolumes;III[J)I" } : Jvm.MethodName)) ∈ gw := gw_t2 (k := 145) rfl rfl
theorem wt_L_drawn : (Jvm.Cond.static ({ cls := "PotVolumesLaw", name := "drawn", desc := "(LPotVolumes;III[J)I" } : Jvm.MethodName)) ∈ gw := gw_t2 (k := 146) rfl rfl
theorem wc_L_drawn : (Jvm.Cond.codeWith ({ cls := "PotVolumesLaw", name := "drawn", desc := "(LPotVolumes;III[J)I" } : Jvm.MethodName) method_13_code (6 : Nat) (Option.some Jvm.ClassFile.FieldType.int) [((0 : Nat), (12 : Nat), (15 : Nat), (19 : Nat))]) ∈ gw := gw_t2 (k := 147) rfl rfl
theorem wl_L_52 : (Jvm.Cond.methodLink "PotVolumesLaw" (52 : Nat) ({ cls := "PotVolumes", name := "drawn", desc := "(III)I" } : Jvm.MethodName)) ∈ gw := gw_t2 (k := 148) rfl rfl
theorem wm_X2_drawn : (Jvm.Cond.instanceMethod ({ cls := "PotVolumes", name := "drawn", desc := "(III)I" } : Jvm.MethodName)) ∈ gw := gw_t2 (k := 149) rfl rfl
theorem we_X2_drawn : (Jvm.Cond.selects "PotVolumes" ({ cls := "PotVolumes", name := "drawn", desc := "(III)I" } : Jvm.MethodName) ({ cls := "PotVolumes", name := "drawn", desc := "(III)I" } : Jvm.MethodName)) ∈ gw := gw_t2 (k := 150) rfl rfl
theorem wc_X2_drawn : (Jvm.Cond.code ({ cls := "PotVolumes", name := "drawn", desc := "(III)I" } : Jvm.MethodName) prog_1_method_12_code (7 : Nat) (Option.some Jvm.ClassFile.FieldType.int)) ∈ gw := gw_t2 (k := 151) rfl rfl
theorem wl_X2_131 : (Jvm.Cond.methodLink "PotVolumes" (131 : Nat) ({ cls := "PotVolumes$Profile", name := "countOffAxis", desc := "()I" } : Jvm.MethodName)) ∈ gw := gw_t2 (k := 152) rfl rfl
theorem wm_X1_countOffAxis : (Jvm.Cond.instanceMethod ({ cls := "PotVolumes$Profile", name := "countOffAxis", desc := "()I" } : Jvm.MethodName)) ∈ gw := gw_t2 (k := 153) rfl rfl
theorem we_X1_countOffAxis : (Jvm.Cond.selects "PotVolumes$Profile" ({ cls := "PotVolumes$Profile", name := "countOffAxis", desc := "()I" } : Jvm.MethodName) ({ cls := "PotVolumes$Profile", name := "countOffAxis", desc := "()I" } : Jvm.MethodName)) ∈ gw := gw_t2 (k := 154) rfl rfl
theorem wc_X1_countOffAxis : (Jvm.Cond.code ({ cls := "PotVolumes$Profile", name := "countOffAxis", desc := "()I" } : Jvm.MethodName) prog_3_method_14_code (3 : Nat) (Option.some Jvm.ClassFile.FieldType.int)) ∈ gw := gw_t2 (k := 155) rfl rfl
theorem wl_X2_137 : (Jvm.Cond.methodLink "PotVolumes" (137 : Nat) ({ cls := "PotVolumes$Profile", name := "findOffAxis", desc := "(I)I" } : Jvm.MethodName)) ∈ gw := gw_t2 (k := 157) rfl rfl
theorem wm_X1_findOffAxis : (Jvm.Cond.instanceMethod ({ cls := "PotVolumes$Profile", name := "findOffAxis", desc := "(I)I" } : Jvm.MethodName)) ∈ gw := gw_t2 (k := 158) rfl rfl
theorem we_X1_findOffAxis : (Jvm.Cond.selects "PotVolumes$Profile" ({ cls := "PotVolumes$Profile", name := "findOffAxis", desc := "(I)I" } : Jvm.MethodName) ({ cls := "PotVolumes$Profile", name := "findOffAxis", desc := "(I)I" } : Jvm.MethodName)) ∈ gw := gw_t2 (k := 159) rfl rfl
theorem wc_X1_findOffAxis : (Jvm.Cond.code ({ cls := "PotVolumes$Profile", name := "findOffAxis", desc := "(I)I" } : Jvm.MethodName) prog_3_method_15_code (4 : Nat) (Option.some Jvm.ClassFile.FieldType.int)) ∈ gw := gw_t2 (k := 160) rfl rfl
theorem wl_L_126 : (Jvm.Cond.methodLink "PotVolumesLaw" (126 : Nat) ({ cls := "PotVolumesLaw", name := "bound", desc := "(LPotVolumes;I[J)I" } : Jvm.MethodName)) ∈ gw := gw_t2 (k := 161) rfl rfl
theorem wt_L_bound : (Jvm.Cond.static ({ cls := "PotVolumesLaw", name := "bound", desc := "(LPotVolumes;I[J)I" } : Jvm.MethodName)) ∈ gw := gw_t2 (k := 162) rfl rfl
theorem wc_L_bound : (Jvm.Cond.codeWith ({ cls := "PotVolumesLaw", name := "bound", desc := "(LPotVolumes;I[J)I" } : Jvm.MethodName) method_14_code (4 : Nat) (Option.some Jvm.ClassFile.FieldType.int) [((0 : Nat), (9 : Nat), (12 : Nat), (21 : Nat)), ((0 : Nat), (9 : Nat), (15 : Nat), (13 : Nat))]) ∈ gw := gw_t2 (k := 163) rfl rfl
theorem wl_L_55 : (Jvm.Cond.methodLink "PotVolumesLaw" (55 : Nat) ({ cls := "PotVolumes", name := "bound", desc := "(I)I" } : Jvm.MethodName)) ∈ gw := gw_t2 (k := 164) rfl rfl
theorem wm_X2_bound : (Jvm.Cond.instanceMethod ({ cls := "PotVolumes", name := "bound", desc := "(I)I" } : Jvm.MethodName)) ∈ gw := gw_t2 (k := 165) rfl rfl
theorem we_X2_bound : (Jvm.Cond.selects "PotVolumes" ({ cls := "PotVolumes", name := "bound", desc := "(I)I" } : Jvm.MethodName) ({ cls := "PotVolumes", name := "bound", desc := "(I)I" } : Jvm.MethodName)) ∈ gw := gw_t2 (k := 166) rfl rfl
theorem wc_X2_bound : (Jvm.Cond.code ({ cls := "PotVolumes", name := "bound", desc := "(I)I" } : Jvm.MethodName) prog_1_method_13_code (2 : Nat) (Option.some Jvm.ClassFile.FieldType.int)) ∈ gw := gw_t2 (k := 167) rfl rfl
theorem wl_X2_140 : (Jvm.Cond.constant "PotVolumes" (140 : Nat) (1000000000 : Int32)) ∈ gw := gw_t2 (k := 168) rfl rfl
theorem wl_L_130 : (Jvm.Cond.methodLink "PotVolumesLaw" (130 : Nat) ({ cls := "PotVolumesLaw", name := "size", desc := "(LPotVolumes;I[J)I" } : Jvm.MethodName)) ∈ gw := gw_t2 (k := 171) rfl rfl
theorem wt_L_size : (Jvm.Cond.static ({ cls := "PotVolumesLaw", name := "size", desc := "(LPotVolumes;I[J)I" } : Jvm.MethodName)) ∈ gw := gw_t2 (k := 172) rfl rfl
theorem wc_L_size : (Jvm.Cond.codeWith ({ cls := "PotVolumesLaw", name := "size", desc := "(LPotVolumes;I[J)I" } : Jvm.MethodName) method_15_code (4 : Nat) (Option.some Jvm.ClassFile.FieldType.int) [((0 : Nat), (9 : Nat), (12 : Nat), (19 : Nat))]) ∈ gw := gw_t2 (k := 173) rfl rfl
theorem wl_L_59 : (Jvm.Cond.methodLink "PotVolumesLaw" (59 : Nat) ({ cls := "PotVolumes", name := "size", desc := "(I)I" } : Jvm.MethodName)) ∈ gw := gw_t2 (k := 174) rfl rfl
theorem wm_X2_size : (Jvm.Cond.instanceMethod ({ cls := "PotVolumes", name := "size", desc := "(I)I" } : Jvm.MethodName)) ∈ gw := gw_t2 (k := 175) rfl rfl
theorem we_X2_size : (Jvm.Cond.selects "PotVolumes" ({ cls := "PotVolumes", name := "size", desc := "(I)I" } : Jvm.MethodName) ({ cls := "PotVolumes", name := "size", desc := "(I)I" } : Jvm.MethodName)) ∈ gw := gw_t2 (k := 176) rfl rfl
theorem wc_X2_size : (Jvm.Cond.code ({ cls := "PotVolumes", name := "size", desc := "(I)I" } : Jvm.MethodName) prog_1_method_14_code (6 : Nat) (Option.some Jvm.ClassFile.FieldType.int)) ∈ gw := gw_t2 (k := 177) rfl rfl
theorem wl_L_133 : (Jvm.Cond.methodLink "PotVolumesLaw" (133 : Nat) ({ cls := "PotVolumesLaw", name := "rim", desc := "(LPotVolumes;II[J)I" } : Jvm.MethodName)) ∈ gw := gw_t2 (k := 178) rfl rfl
theorem wt_L_rim : (Jvm.Cond.static ({ cls := "PotVolumesLaw", name := "rim", desc := "(LPotVolumes;II[J)I" } : Jvm.MethodName)) ∈ gw := gw_t2 (k := 179) rfl rfl
theorem wc_L_rim : (Jvm.Cond.codeWith ({ cls := "PotVolumesLaw", name := "rim", desc := "(LPotVolumes;II[J)I" } : Jvm.MethodName) method_16_code (5 : Nat) (Option.some Jvm.ClassFile.FieldType.int) [((0 : Nat), (10 : Nat), (13 : Nat), (21 : Nat)), ((0 : Nat), (10 : Nat), (17 : Nat), (13 : Nat))]) ∈ gw := gw_t2 (k := 180) rfl rfl
theorem wl_L_62 : (Jvm.Cond.methodLink "PotVolumesLaw" (62 : Nat) ({ cls := "PotVolumes", name := "rim", desc := "(II)I" } : Jvm.MethodName)) ∈ gw := gw_t2 (k := 181) rfl rfl
theorem wm_X2_rim : (Jvm.Cond.instanceMethod ({ cls := "PotVolumes", name := "rim", desc := "(II)I" } : Jvm.MethodName)) ∈ gw := gw_t2 (k := 182) rfl rfl
theorem we_X2_rim : (Jvm.Cond.selects "PotVolumes" ({ cls := "PotVolumes", name := "rim", desc := "(II)I" } : Jvm.MethodName) ({ cls := "PotVolumes", name := "rim", desc := "(II)I" } : Jvm.MethodName)) ∈ gw := gw_t2 (k := 183) rfl rfl
theorem wc_X2_rim : (Jvm.Cond.code ({ cls := "PotVolumes", name := "rim", desc := "(II)I" } : Jvm.MethodName) prog_1_method_15_code (3 : Nat) (Option.some Jvm.ClassFile.FieldType.int)) ∈ gw := gw_t2 (k := 184) rfl rfl
theorem wl_L_140 : (Jvm.Cond.methodLink "PotVolumesLaw" (140 : Nat) ({ cls := "PotVolumesLaw", name := "circle", desc := "(LPotVolumes;I[J)I" } : Jvm.MethodName)) ∈ gw := gw_t2 (k := 187) rfl rfl
theorem wt_L_circle : (Jvm.Cond.static ({ cls := "PotVolumesLaw", name := "circle", desc := "(LPotVolumes;I[J)I" } : Jvm.MethodName)) ∈ gw := gw_t2 (k := 188) rfl rfl
theorem wc_L_circle : (Jvm.Cond.codeWith ({ cls := "PotVolumesLaw", name := "circle", desc := "(LPotVolumes;I[J)I" } : Jvm.MethodName) method_17_code (4 : Nat) (Option.some Jvm.ClassFile.FieldType.int) [((0 : Nat), (8 : Nat), (11 : Nat), (19 : Nat)), ((0 : Nat), (8 : Nat), (14 : Nat), (13 : Nat))]) ∈ gw := gw_t2 (k := 189) rfl rfl
theorem wl_L_65 : (Jvm.Cond.methodLink "PotVolumesLaw" (65 : Nat) ({ cls := "PotVolumes", name := "circle", desc := "(I)J" } : Jvm.MethodName)) ∈ gw := gw_t2 (k := 190) rfl rfl
theorem wm_X2_circle : (Jvm.Cond.instanceMethod ({ cls := "PotVolumes", name := "circle", desc := "(I)J" } : Jvm.MethodName)) ∈ gw := gw_t2 (k := 191) rfl rfl
theorem we_X2_circle : (Jvm.Cond.selects "PotVolumes" ({ cls := "PotVolumes", name := "circle", desc := "(I)J" } : Jvm.MethodName) ({ cls := "PotVolumes", name := "circle", desc := "(I)J" } : Jvm.MethodName)) ∈ gw := gw_t2 (k := 192) rfl rfl
theorem wc_X2_circle : (Jvm.Cond.code ({ cls := "PotVolumes", name := "circle", desc := "(I)J" } : Jvm.MethodName) prog_1_method_17_code (2 : Nat) (Option.some Jvm.ClassFile.FieldType.long)) ∈ gw := gw_t2 (k := 193) rfl rfl
theorem wl_X2_155 : (Jvm.Cond.methodLink "PotVolumes" (155 : Nat) ({ cls := "PotVolumes", name := "needCircle", desc := "()V" } : Jvm.MethodName)) ∈ gw := gw_t2 (k := 194) rfl rfl
theorem wm_X2_needCircle : (Jvm.Cond.instanceMethod ({ cls := "PotVolumes", name := "needCircle", desc := "()V" } : Jvm.MethodName)) ∈ gw := gw_t2 (k := 196) rfl rfl
theorem wc_X2_needCircle : (Jvm.Cond.code ({ cls := "PotVolumes", name := "needCircle", desc := "()V" } : Jvm.MethodName) prog_1_method_25_code (1 : Nat) (Option.none : Option Jvm.ClassFile.FieldType)) ∈ gw := gw_t2 (k := 197) rfl rfl
theorem wl_X2_158 : (Jvm.Cond.methodLink "PotVolumes" (158 : Nat) ({ cls := "PotVolumes", name := "measureCircle", desc := "()V" } : Jvm.MethodName)) ∈ gw := gw_t2 (k := 199) rfl rfl
theorem wm_X2_measureCircle : (Jvm.Cond.instanceMethod ({ cls := "PotVolumes", name := "measureCircle", desc := "()V" } : Jvm.MethodName)) ∈ gw := gw_t2 (k := 201) rfl rfl
theorem wc_X2_measureCircle : (Jvm.Cond.code ({ cls := "PotVolumes", name := "measureCircle", desc := "()V" } : Jvm.MethodName) prog_1_method_26_code (15 : Nat) (Option.none : Option Jvm.ClassFile.FieldType)) ∈ gw := gw_t2 (k := 202) rfl rfl
theorem wl_X2_192 : (Jvm.Cond.methodLink "PotVolumes" (192 : Nat) ({ cls := "PotVolumes$Fraction", name := "clearToZero", desc := "()V" } : Jvm.MethodName)) ∈ gw := gw_t2 (k := 203) rfl rfl
theorem wl_X2_195 : (Jvm.Cond.methodLink "PotVolumes" (195 : Nat) ({ cls := "PotVolumes", name := "squareOfLength", desc := "(JJ)J" } : Jvm.MethodName)) ∈ gw := gw_t2 (k := 204) rfl rfl
theorem wt_X2_squareOfLength : (Jvm.Cond.static ({ cls := "PotVolumes", name := "squareOfLength", desc := "(JJ)J" } : Jvm.MethodName)) ∈ gw := gw_t2 (k := 205) rfl rfl
theorem wc_X2_squareOfLength : (Jvm.Cond.code ({ cls := "PotVolumes", name := "squareOfLength", desc := "(JJ)J" } : Jvm.MethodName) prog_1_method_27_code (4 : Nat) (Option.some Jvm.ClassFile.FieldType.long)) ∈ gw := gw_t2 (k := 206) rfl rfl
theorem wl_X2_199 : (Jvm.Cond.constantLong "PotVolumes" (199 : Nat) (4 : Int64)) ∈ gw := gw_t2 (k := 207) rfl rfl
theorem wl_X2_201 : (Jvm.Cond.methodLink "PotVolumes" (201 : Nat) ({ cls := "PotVolumes$Fraction", name := "add", desc := "(JJ)V" } : Jvm.MethodName)) ∈ gw := gw_t2 (k := 208) rfl rfl
theorem wl_L_143 : (Jvm.Cond.methodLink "PotVolumesLaw" (143 : Nat) ({ cls := "PotVolumesLaw", name := "curve", desc := "(LPotVolumes;[J)I" } : Jvm.MethodName)) ∈ gw := gw_t2 (k := 209) rfl rfl
theorem wt_L_curve : (Jvm.Cond.static ({ cls := "PotVolumesLaw", name := "curve", desc := "(LPotVolumes;[J)I" } : Jvm.MethodName)) ∈ gw := gw_t2 (k := 210) rfl rfl
theorem wc_L_curve : (Jvm.Cond.codeWith ({ cls := "PotVolumesLaw", name := "curve", desc := "(LPotVolumes;[J)I" } : Jvm.MethodName) method_18_code (3 : Nat) (Option.some Jvm.ClassFile.FieldType.int) [((0 : Nat), (8 : Nat), (11 : Nat), (13 : Nat))]) ∈ gw := gw_t2 (k := 211) rfl rfl
theorem wl_L_69 : (Jvm.Cond.methodLink "PotVolumesLaw" (69 : Nat) ({ cls := "PotVolumes", name := "curve", desc := "()I" } : Jvm.MethodName)) ∈ gw := gw_t2 (k := 212) rfl rfl
theorem wm_X2_curve : (Jvm.Cond.instanceMethod ({ cls := "PotVolumes", name := "curve", desc := "()I" } : Jvm.MethodName)) ∈ gw := gw_t2 (k := 213) rfl rfl
theorem we_X2_curve : (Jvm.Cond.selects "PotVolumes" ({ cls := "PotVolumes", name := "curve", desc := "()I" } : Jvm.MethodName) ({ cls := "PotVolumes", name := "curve", desc := "()I" } : Jvm.MethodName)) ∈ gw := gw_t2 (k := 214) rfl rfl
theorem wc_X2_curve : (Jvm.Cond.code ({ cls := "PotVolumes", name := "curve", desc := "()I" } : Jvm.MethodName) prog_1_method_18_code (1 : Nat) (Option.some Jvm.ClassFile.FieldType.int)) ∈ gw := gw_t2 (k := 215) rfl rfl
theorem wl_X2_161 : (Jvm.Cond.methodLink "PotVolumes" (161 : Nat) ({ cls := "PotVolumes$Fraction", name := "roundedDown", desc := "()J" } : Jvm.MethodName)) ∈ gw := gw_t2 (k := 216) rfl rfl
theorem wm_X0_roundedDown : (Jvm.Cond.instanceMethod ({ cls := "PotVolumes$Fraction", name := "roundedDown", desc := "()J" } : Jvm.MethodName)) ∈ gw := gw_t2 (k := 217) rfl rfl
theorem we_X0_roundedDown : (Jvm.Cond.selects "PotVolumes$Fraction" ({ cls := "PotVolumes$Fraction", name := "roundedDown", desc := "()J" } : Jvm.MethodName) ({ cls := "PotVolumes$Fraction", name := "roundedDown", desc := "()J" } : Jvm.MethodName)) ∈ gw := gw_t2 (k := 218) rfl rfl
theorem wc_X0_roundedDown : (Jvm.Cond.code ({ cls := "PotVolumes$Fraction", name := "roundedDown", desc := "()J" } : Jvm.MethodName) prog_2_method_7_code (1 : Nat) (Option.some Jvm.ClassFile.FieldType.long)) ∈ gw := gw_t2 (k := 219) rfl rfl
theorem wl_X2_164 : (Jvm.Cond.methodLink "PotVolumes" (164 : Nat) ({ cls := "PotVolumes", name := "rootDown", desc := "(J)I" } : Jvm.MethodName)) ∈ gw := gw_t2 (k := 220) rfl rfl
theorem wt_X2_rootDown : (Jvm.Cond.static ({ cls := "PotVolumes", name := "rootDown", desc := "(J)I" } : Jvm.MethodName)) ∈ gw := gw_t2 (k := 221) rfl rfl
theorem wc_X2_rootDown : (Jvm.Cond.code ({ cls := "PotVolumes", name := "rootDown", desc := "(J)I" } : Jvm.MethodName) prog_1_method_28_code (6 : Nat) (Option.some Jvm.ClassFile.FieldType.int)) ∈ gw := gw_t2 (k := 222) rfl rfl
theorem wl_L_146 : (Jvm.Cond.methodLink "PotVolumesLaw" (146 : Nat) ({ cls := "PotVolumesLaw", name := "sherd", desc := "(LPotVolumes;II[J)I" } : Jvm.MethodName)) ∈ gw := gw_t2 (k := 223) rfl rfl
theorem wt_L_sherd : (Jvm.Cond.static ({ cls := "PotVolumesLaw", name := "sherd", desc := "(LPotVolumes;II[J)I" } : Jvm.MethodName)) ∈ gw := gw_t2 (k := 224) rfl rfl
theorem wc_L_sherd : (Jvm.Cond.codeWith ({ cls := "PotVolumesLaw", name := "sherd", desc := "(LPotVolumes;II[J)I" } : Jvm.MethodName) method_19_code (5 : Nat) (Option.some Jvm.ClassFile.FieldType.int) [((0 : Nat), (10 : Nat), (13 : Nat), (19 : Nat)), ((0 : Nat), (10 : Nat), (17 : Nat), (21 : Nat)), ((0 : Nat), (10 : Nat), (21 : Nat), (13 : Nat))]) ∈ gw := gw_t2 (k := 225) rfl rfl
theorem wl_L_72 : (Jvm.Cond.methodLink "PotVolumesLaw" (72 : Nat) ({ cls := "PotVolumes", name := "sherd", desc := "(II)I" } : Jvm.MethodName)) ∈ gw := gw_t2 (k := 226) rfl rfl
theorem wm_X2_sherd : (Jvm.Cond.instanceMethod ({ cls := "PotVolumes", name := "sherd", desc := "(II)I" } : Jvm.MethodName)) ∈ gw := gw_t2 (k := 227) rfl rfl
theorem we_X2_sherd : (Jvm.Cond.selects "PotVolumes" ({ cls := "PotVolumes", name := "sherd", desc := "(II)I" } : Jvm.MethodName) ({ cls := "PotVolumes", name := "sherd", desc := "(II)I" } : Jvm.MethodName)) ∈ gw := gw_t2 (k := 228) rfl rfl
theorem wc_X2_sherd : (Jvm.Cond.code ({ cls := "PotVolumes", name := "sherd", desc := "(II)I" } : Jvm.MethodName) prog_1_method_19_code (3 : Nat) (Option.some Jvm.ClassFile.FieldType.int)) ∈ gw := gw_t2 (k := 229) rfl rfl
theorem wl_X2_168 : (Jvm.Cond.methodLink "PotVolumes" (168 : Nat) ({ cls := "PotVolumes", name := "needProfile", desc := "(I)V" } : Jvm.MethodName)) ∈ gw := gw_t2 (k := 230) rfl rfl
theorem wm_X2_needProfile : (Jvm.Cond.instanceMethod ({ cls := "PotVolumes", name := "needProfile", desc := "(I)V" } : Jvm.MethodName)) ∈ gw := gw_t2 (k := 232) rfl rfl
theorem wc_X2_needProfile : (Jvm.Cond.code ({ cls := "PotVolumes", name := "needProfile", desc := "(I)V" } : Jvm.MethodName) prog_1_method_23_code (2 : Nat) (Option.none : Option Jvm.ClassFile.FieldType)) ∈ gw := gw_t2 (k := 233) rfl rfl
theorem wl_X2_178 : (Jvm.Cond.methodLink "PotVolumes" (178 : Nat) ({ cls := "PotVolumes", name := "sumOfShares", desc := "(I)I" } : Jvm.MethodName)) ∈ gw := gw_t2 (k := 236) rfl rfl
theorem wm_X2_sumOfShares : (Jvm.Cond.instanceMethod ({ cls := "PotVolumes", name := "sumOfShares", desc := "(I)I" } : Jvm.MethodName)) ∈ gw := gw_t2 (k := 238) rfl rfl
theorem wc_X2_sumOfShares : (Jvm.Cond.code ({ cls := "PotVolumes", name := "sumOfShares", desc := "(I)I" } : Jvm.MethodName) prog_1_method_29_code (4 : Nat) (Option.some Jvm.ClassFile.FieldType.int)) ∈ gw := gw_t2 (k := 239) rfl rfl
theorem wl_L_149 : (Jvm.Cond.methodLink "PotVolumesLaw" (149 : Nat) ({ cls := "PotVolumesLaw", name := "vessels", desc := "(LPotVolumes;II[J)I" } : Jvm.MethodName)) ∈ gw := gw_t3 (k := 0) rfl rfl
theorem wt_L_vessels : (Jvm.Cond.static ({ cls := "PotVolumesLaw", name := "vessels", desc := "(LPotVolumes;II[J)I" } : Jvm.MethodName)) ∈ gw := gw_t3 (k := 1) rfl rfl
theorem wc_L_vessels : (Jvm.Cond.codeWith ({ cls := "PotVolumesLaw", name := "vessels", desc := "(LPotVolumes;II[J)I" } : Jvm.MethodName) method_20_code (5 : Nat) (Option.some Jvm.ClassFile.FieldType.int) [((0 : Nat), (10 : Nat), (13 : Nat), (19 : Nat))]) ∈ gw := gw_t3 (k := 2) rfl rfl
theorem wl_L_75 : (Jvm.Cond.methodLink "PotVolumesLaw" (75 : Nat) ({ cls := "PotVolumes", name := "vessels", desc := "(II)I" } : Jvm.MethodName)) ∈ gw := gw_t3 (k := 3) rfl rfl
theorem wm_X2_vessels : (Jvm.Cond.instanceMethod ({ cls := "PotVolumes", name := "vessels", desc := "(II)I" } : Jvm.MethodName)) ∈ gw := gw_t3 (k := 4) rfl rfl
theorem we_X2_vessels : (Jvm.Cond.selects "PotVolumes" ({ cls := "PotVolumes", name := "vessels", desc := "(II)I" } : Jvm.MethodName) ({ cls := "PotVolumes", name := "vessels", desc := "(II)I" } : Jvm.MethodName)) ∈ gw := gw_t3 (k := 5) rfl rfl
theorem wc_X2_vessels : (Jvm.Cond.code ({ cls := "PotVolumes", name := "vessels", desc := "(II)I" } : Jvm.MethodName) prog_1_method_20_code (3 : Nat) (Option.some Jvm.ClassFile.FieldType.int)) ∈ gw := gw_t3 (k := 6) rfl rfl
theorem wl_X2_181 : (Jvm.Cond.methodLink "PotVolumes" (181 : Nat) ({ cls := "PotVolumes", name := "vesselsBySherds", desc := "(I)I" } : Jvm.MethodName)) ∈ gw := gw_t3 (k := 7) rfl rfl
theorem wm_X2_vesselsBySherds : (Jvm.Cond.instanceMethod ({ cls := "PotVolumes", name := "vesselsBySherds", desc := "(I)I" } : Jvm.MethodName)) ∈ gw := gw_t3 (k := 9) rfl rfl
theorem wc_X2_vesselsBySherds : (Jvm.Cond.code ({ cls := "PotVolumes", name := "vesselsBySherds", desc := "(I)I" } : Jvm.MethodName) prog_1_method_30_code (5 : Nat) (Option.some Jvm.ClassFile.FieldType.int)) ∈ gw := gw_t3 (k := 10) rfl rfl
theorem wl_X2_205 : (Jvm.Cond.methodLink "PotVolumes" (205 : Nat) ({ cls := "PotVolumes", name := "firstWithRoom", desc := "(II)I" } : Jvm.MethodName)) ∈ gw := gw_t3 (k := 11) rfl rfl
theorem wm_X2_firstWithRoom : (Jvm.Cond.instanceMethod ({ cls := "PotVolumes", name := "firstWithRoom", desc := "(II)I" } : Jvm.MethodName)) ∈ gw := gw_t3 (k := 13) rfl rfl
theorem wc_X2_firstWithRoom : (Jvm.Cond.code ({ cls := "PotVolumes", name := "firstWithRoom", desc := "(II)I" } : Jvm.MethodName) prog_1_method_31_code (4 : Nat) (Option.some Jvm.ClassFile.FieldType.int)) ∈ gw := gw_t3 (k := 14) rfl rfl
theorem wl_L_152 : (Jvm.Cond.methodLink "PotVolumesLaw" (152 : Nat) ({ cls := "PotVolumesLaw", name := "count", desc := "(LPotVolumes;I[J)I" } : Jvm.MethodName)) ∈ gw := gw_t3 (k := 15) rfl rfl
theorem wt_L_count : (Jvm.Cond.static ({ cls := "PotVolumesLaw", name := "count", desc := "(LPotVolumes;I[J)I" } : Jvm.MethodName)) ∈ gw := gw_t3 (k := 16) rfl rfl
theorem wc_L_count : (Jvm.Cond.codeWith ({ cls := "PotVolumesLaw", name := "count", desc := "(LPotVolumes;I[J)I" } : Jvm.MethodName) method_21_code (4 : Nat) (Option.some Jvm.ClassFile.FieldType.int) [((0 : Nat), (9 : Nat), (12 : Nat), (19 : Nat))]) ∈ gw := gw_t3 (k := 17) rfl rfl
theorem wl_L_78 : (Jvm.Cond.methodLink "PotVolumesLaw" (78 : Nat) ({ cls := "PotVolumes", name := "count", desc := "(I)I" } : Jvm.MethodName)) ∈ gw := gw_t3 (k := 18) rfl rfl
theorem wm_X2_count : (Jvm.Cond.instanceMethod ({ cls := "PotVolumes", name := "count", desc := "(I)I" } : Jvm.MethodName)) ∈ gw := gw_t3 (k := 19) rfl rfl
theorem we_X2_count : (Jvm.Cond.selects "PotVolumes" ({ cls := "PotVolumes", name := "count", desc := "(I)I" } : Jvm.MethodName) ({ cls := "PotVolumes", name := "count", desc := "(I)I" } : Jvm.MethodName)) ∈ gw := gw_t3 (k := 20) rfl rfl
theorem wc_X2_count : (Jvm.Cond.code ({ cls := "PotVolumes", name := "count", desc := "(I)I" } : Jvm.MethodName) prog_1_method_21_code (2 : Nat) (Option.some Jvm.ClassFile.FieldType.int)) ∈ gw := gw_t3 (k := 21) rfl rfl
theorem wl_L_82 : (Jvm.Cond.classLink "PotVolumesLaw" (82 : Nat) "PotVolumesModel") ∈ gw := gw_t3 (k := 23) rfl rfl
theorem wn_X3 : (Jvm.Cond.instantiable "PotVolumesModel" (18 : Nat)) ∈ gw := gw_t3 (k := 24) rfl rfl
theorem wl_L_84 : (Jvm.Cond.methodLink "PotVolumesLaw" (84 : Nat) ({ cls := "PotVolumesModel", name := "<init>", desc := "()V" } : Jvm.MethodName)) ∈ gw := gw_t3 (k := 25) rfl rfl
theorem wm_X3_init : (Jvm.Cond.instanceMethod ({ cls := "PotVolumesModel", name := "<init>", desc := "()V" } : Jvm.MethodName)) ∈ gw := gw_t3 (k := 26) rfl rfl
theorem wc_X3_init : (Jvm.Cond.code ({ cls := "PotVolumesModel", name := "<init>", desc := "()V" } : Jvm.MethodName) prog_5_method_1_code (1 : Nat) (Option.none : Option Jvm.ClassFile.FieldType)) ∈ gw := gw_t3 (k := 27) rfl rfl
theorem wl_X3_1 : (Jvm.Cond.methodLink "PotVolumesModel" (1 : Nat) ({ cls := "java/lang/Object", name := "<init>", desc := "()V" } : Jvm.MethodName)) ∈ gw := gw_t3 (k := 28) rfl rfl
theorem wl_X3_48 : (Jvm.Cond.fieldLink "PotVolumesModel" (48 : Nat) "PotVolumesModel" "thrown" "I") ∈ gw := gw_t3 (k := 29) rfl rfl
theorem wl_X3_52 : (Jvm.Cond.fieldLink "PotVolumesModel" (52 : Nat) "PotVolumesModel" "profiles" "I") ∈ gw := gw_t3 (k := 30) rfl rfl
theorem wl_X3_7 : (Jvm.Cond.fieldLink "PotVolumesModel" (7 : Nat) "PotVolumesModel" "sizes" "[I") ∈ gw := gw_t3 (k := 31) rfl rfl
theorem wl_X3_13 : (Jvm.Cond.fieldLink "PotVolumesModel" (13 : Nat) "PotVolumesModel" "heights" "[I") ∈ gw := gw_t3 (k := 32) rfl rfl
theorem wl_X3_16 : (Jvm.Cond.fieldLink "PotVolumesModel" (16 : Nat) "PotVolumesModel" "radii" "[I") ∈ gw := gw_t3 (k := 33) rfl rfl
theorem wl_X3_19 : (Jvm.Cond.fieldLink "PotVolumesModel" (19 : Nat) "PotVolumesModel" "isCut" "[Z") ∈ gw := gw_t3 (k := 34) rfl rfl
theorem wl_X3_23 : (Jvm.Cond.fieldLink "PotVolumesModel" (23 : Nat) "PotVolumesModel" "walls" "[I") ∈ gw := gw_t3 (k := 35) rfl rfl
theorem wl_X3_26 : (Jvm.Cond.fieldLink "PotVolumesModel" (26 : Nat) "PotVolumesModel" "bounds" "[I") ∈ gw := gw_t3 (k := 36) rfl rfl
theorem wl_X3_136 : (Jvm.Cond.fieldLink "PotVolumesModel" (136 : Nat) "PotVolumesModel" "boundCount" "I") ∈ gw := gw_t3 (k := 37) rfl rfl
theorem wl_X3_29 : (Jvm.Cond.fieldLink "PotVolumesModel" (29 : Nat) "PotVolumesModel" "rimX" "[I") ∈ gw := gw_t3 (k := 38) rfl rfl
theorem wl_X3_32 : (Jvm.Cond.fieldLink "PotVolumesModel" (32 : Nat) "PotVolumesModel" "rimY" "[I") ∈ gw := gw_t3 (k := 39) rfl rfl
theorem wl_X3_139 : (Jvm.Cond.fieldLink "PotVolumesModel" (139 : Nat) "PotVolumesModel" "places" "I") ∈ gw := gw_t3 (k := 40) rfl rfl
theorem wl_X3_35 : (Jvm.Cond.fieldLink "PotVolumesModel" (35 : Nat) "PotVolumesModel" "sherdOf" "[I") ∈ gw := gw_t3 (k := 41) rfl rfl
theorem wl_X3_38 : (Jvm.Cond.fieldLink "PotVolumesModel" (38 : Nat) "PotVolumesModel" "shares" "[I") ∈ gw := gw_t3 (k := 42) rfl rfl
theorem wl_X3_154 : (Jvm.Cond.fieldLink "PotVolumesModel" (154 : Nat) "PotVolumesModel" "sherds" "I") ∈ gw := gw_t3 (k := 43) rfl rfl
theorem wl_X3_41 : (Jvm.Cond.fieldLink "PotVolumesModel" (41 : Nat) "PotVolumesModel" "filled" "[I") ∈ gw := gw_t3 (k := 44) rfl rfl
theorem wl_X3_84 : (Jvm.Cond.fieldLink "PotVolumesModel" (84 : Nat) "PotVolumesModel" "above" "J") ∈ gw := gw_t3 (k := 45) rfl rfl
theorem wl_X3_44 : (Jvm.Cond.fieldLink "PotVolumesModel" (44 : Nat) "PotVolumesModel" "below" "J") ∈ gw := gw_t3 (k := 46) rfl rfl
theorem wf_X3_thrown : (Jvm.Cond.lays "PotVolumesModel" "PotVolumesModel" "thrown" "I") ∈ gw := gw_t3 (k := 47) rfl rfl
theorem wf_X3_profiles : (Jvm.Cond.lays "PotVolumesModel" "PotVolumesModel" "profiles" "I") ∈ gw := gw_t3 (k := 49) rfl rfl
theorem wf_X3_sizes : (Jvm.Cond.laysFinal "PotVolumesModel" "PotVolumesModel" "sizes" "[I") ∈ gw := gw_t3 (k := 51) rfl rfl
theorem wf_X3_heights : (Jvm.Cond.laysFinal "PotVolumesModel" "PotVolumesModel" "heights" "[I") ∈ gw := gw_t3 (k := 53) rfl rfl
theorem wf_X3_radii : (Jvm.Cond.laysFinal "PotVolumesModel" "PotVolumesModel" "radii" "[I") ∈ gw := gw_t3 (k := 55) rfl rfl
theorem wf_X3_isCut : (Jvm.Cond.laysFinal "PotVolumesModel" "PotVolumesModel" "isCut" "[Z") ∈ gw := gw_t3 (k := 57) rfl rfl
theorem wf_X3_walls : (Jvm.Cond.laysFinal "PotVolumesModel" "PotVolumesModel" "walls" "[I") ∈ gw := gw_t3 (k := 59) rfl rfl
theorem wf_X3_bounds : (Jvm.Cond.laysFinal "PotVolumesModel" "PotVolumesModel" "bounds" "[I") ∈ gw := gw_t3 (k := 61) rfl rfl
theorem wf_X3_boundCount : (Jvm.Cond.lays "PotVolumesModel" "PotVolumesModel" "boundCount" "I") ∈ gw := gw_t3 (k := 63) rfl rfl
theorem wf_X3_rimX : (Jvm.Cond.laysFinal "PotVolumesModel" "PotVolumesModel" "rimX" "[I") ∈ gw := gw_t3 (k := 65) rfl rfl
theorem wf_X3_rimY : (Jvm.Cond.laysFinal "PotVolumesModel" "PotVolumesModel" "rimY" "[I") ∈ gw := gw_t3 (k := 67) rfl rfl
theorem wf_X3_places : (Jvm.Cond.lays "PotVolumesModel" "PotVolumesModel" "places" "I") ∈ gw := gw_t3 (k := 69) rfl rfl
theorem wf_X3_sherdOf : (Jvm.Cond.laysFinal "PotVolumesModel" "PotVolumesModel" "sherdOf" "[I") ∈ gw := gw_t3 (k := 71) rfl rfl
theorem wf_X3_shares : (Jvm.Cond.laysFinal "PotVolumesModel" "PotVolumesModel" "shares" "[I") ∈ gw := gw_t3 (k := 73) rfl rfl
theorem wf_X3_sherds : (Jvm.Cond.lays "PotVolumesModel" "PotVolumesModel" "sherds" "I") ∈ gw := gw_t3 (k := 75) rfl rfl
theorem wf_X3_filled : (Jvm.Cond.laysFinal "PotVolumesModel" "PotVolumesModel" "filled" "[I") ∈ gw := gw_t3 (k := 77) rfl rfl
theorem wf_X3_above : (Jvm.Cond.lays "PotVolumesModel" "PotVolumesModel" "above" "J") ∈ gw := gw_t3 (k := 79) rfl rfl
theorem wf_X3_below : (Jvm.Cond.lays "PotVolumesModel" "PotVolumesModel" "below" "J") ∈ gw := gw_t3 (k := 81) rfl rfl
theorem wa_boolean : (Jvm.Cond.arrayClass Jvm.ClassFile.FieldType.boolean) ∈ gw := gw_t3 (k := 84) rfl rfl
theorem wl_L_91 : (Jvm.Cond.methodLink "PotVolumesLaw" (91 : Nat) ({ cls := "PotVolumesModel", name := "thrown", desc := "()I" } : Jvm.MethodName)) ∈ gw := gw_t3 (k := 85) rfl rfl
theorem wm_X3_thrown : (Jvm.Cond.instanceMethod ({ cls := "PotVolumesModel", name := "thrown", desc := "()I" } : Jvm.MethodName)) ∈ gw := gw_t3 (k := 86) rfl rfl
theorem we_X3_thrown : (Jvm.Cond.selects "PotVolumesModel" ({ cls := "PotVolumesModel", name := "thrown", desc := "()I" } : Jvm.MethodName) ({ cls := "PotVolumesModel", name := "thrown", desc := "()I" } : Jvm.MethodName)) ∈ gw := gw_t3 (k := 87) rfl rfl
theorem wc_X3_thrown : (Jvm.Cond.code ({ cls := "PotVolumesModel", name := "thrown", desc := "()I" } : Jvm.MethodName) prog_5_method_2_code (1 : Nat) (Option.some Jvm.ClassFile.FieldType.int)) ∈ gw := gw_t3 (k := 88) rfl rfl
theorem wl_L_90 : (Jvm.Cond.methodLink "PotVolumesLaw" (90 : Nat) ({ cls := "PotVolumesModel", name := "profile", desc := "()I" } : Jvm.MethodName)) ∈ gw := gw_t3 (k := 89) rfl rfl
theorem wm_X3_profile : (Jvm.Cond.instanceMethod ({ cls := "PotVolumesModel", name := "profile", desc := "()I" } : Jvm.MethodName)) ∈ gw := gw_t3 (k := 90) rfl rfl
theorem we_X3_profile : (Jvm.Cond.selects "PotVolumesModel" ({ cls := "PotVolumesModel", name := "profile", desc := "()I" } : Jvm.MethodName) ({ cls := "PotVolumesModel", name := "profile", desc := "()I" } : Jvm.MethodName)) ∈ gw := gw_t3 (k := 91) rfl rfl
theorem wc_X3_profile : (Jvm.Cond.code ({ cls := "PotVolumesModel", name := "profile", desc := "()I" } : Jvm.MethodName) prog_5_method_8_code (1 : Nat) (Option.some Jvm.ClassFile.FieldType.int)) ∈ gw := gw_t3 (k := 92) rfl rfl
theorem wl_X3_59 : (Jvm.Cond.methodLink "PotVolumesModel" (59 : Nat) ({ cls := "PotVolumesModel", name := "throwing", desc := "(ZZZ)Z" } : Jvm.MethodName)) ∈ gw := gw_t3 (k := 93) rfl rfl
theorem wm_X3_throwing : (Jvm.Cond.instanceMethod ({ cls := "PotVolumesModel", name := "throwing", desc := "(ZZZ)Z" } : Jvm.MethodName)) ∈ gw := gw_t3 (k := 95) rfl rfl
theorem wc_X3_throwing : (Jvm.Cond.code ({ cls := "PotVolumesModel", name := "throwing", desc := "(ZZZ)Z" } : Jvm.MethodName) prog_5_method_3_code (4 : Nat) (Option.some Jvm.ClassFile.FieldType.boolean)) ∈ gw := gw_t3 (k := 96) rfl rfl
theorem wl_L_97 : (Jvm.Cond.methodLink "PotVolumesLaw" (97 : Nat) ({ cls := "PotVolumesModel", name := "corner", desc := "(III)Z" } : Jvm.MethodName)) ∈ gw := gw_t3 (k := 97) rfl rfl
theorem wm_X3_corner : (Jvm.Cond.instanceMethod ({ cls := "PotVolumesModel", name := "corner", desc := "(III)Z" } : Jvm.MethodName)) ∈ gw := gw_t3 (k := 98) rfl rfl
theorem we_X3_corner : (Jvm.Cond.selects "PotVolumesModel" ({ cls := "PotVolumesModel", name := "corner", desc := "(III)Z" } : Jvm.MethodName) ({ cls := "PotVolumesModel", name := "corner", desc := "(III)Z" } : Jvm.MethodName)) ∈ gw := gw_t3 (k := 99) rfl rfl
theorem wc_X3_corner : (Jvm.Cond.code ({ cls := "PotVolumesModel", name := "corner", desc := "(III)Z" } : Jvm.MethodName) prog_5_method_11_code (5 : Nat) (Option.some Jvm.ClassFile.FieldType.boolean)) ∈ gw := gw_t3 (k := 100) rfl rfl
theorem wl_X3_70 : (Jvm.Cond.methodLink "PotVolumesModel" (70 : Nat) ({ cls := "PotVolumesModel", name := "isProfile", desc := "(I)Z" } : Jvm.MethodName)) ∈ gw := gw_t3 (k := 101) rfl rfl
theorem wm_X3_isProfile : (Jvm.Cond.instanceMethod ({ cls := "PotVolumesModel", name := "isProfile", desc := "(I)Z" } : Jvm.MethodName)) ∈ gw := gw_t3 (k := 103) rfl rfl
theorem wc_X3_isProfile : (Jvm.Cond.code ({ cls := "PotVolumesModel", name := "isProfile", desc := "(I)Z" } : Jvm.MethodName) prog_5_method_5_code (2 : Nat) (Option.some Jvm.ClassFile.FieldType.boolean)) ∈ gw := gw_t3 (k := 104) rfl rfl
theorem wl_X3_55 : (Jvm.Cond.methodLink "PotVolumesModel" (55 : Nat) ({ cls := "PotVolumesModel", name := "in", desc := "(III)Z" } : Jvm.MethodName)) ∈ gw := gw_t3 (k := 105) rfl rfl
theorem wt_X3_in : (Jvm.Cond.static ({ cls := "PotVolumesModel", name := "in", desc := "(III)Z" } : Jvm.MethodName)) ∈ gw := gw_t3 (k := 106) rfl rfl
theorem wc_X3_in : (Jvm.Cond.code ({ cls := "PotVolumesModel", name := "in", desc := "(III)Z" } : Jvm.MethodName) prog_5_method_4_code (3 : Nat) (Option.some Jvm.ClassFile.FieldType.boolean)) ∈ gw := gw_t3 (k := 107) rfl rfl
theorem wl_X3_74 : (Jvm.Cond.methodLink "PotVolumesModel" (74 : Nat) ({ cls := "PotVolumesModel", name := "mayFollow", desc := "(III)Z" } : Jvm.MethodName)) ∈ gw := gw_t3 (k := 108) rfl rfl
theorem wm_X3_mayFollow : (Jvm.Cond.instanceMethod ({ cls := "PotVolumesModel", name := "mayFollow", desc := "(III)Z" } : Jvm.MethodName)) ∈ gw := gw_t3 (k := 110) rfl rfl
theorem wc_X3_mayFollow : (Jvm.Cond.code ({ cls := "PotVolumesModel", name := "mayFollow", desc := "(III)Z" } : Jvm.MethodName) prog_5_method_9_code (5 : Nat) (Option.some Jvm.ClassFile.FieldType.boolean)) ∈ gw := gw_t3 (k := 111) rfl rfl
theorem wl_X3_63 : (Jvm.Cond.methodLink "PotVolumesModel" (63 : Nat) ({ cls := "PotVolumesModel", name := "height", desc := "(II)I" } : Jvm.MethodName)) ∈ gw := gw_t3 (k := 112) rfl rfl
theorem wm_X3_height : (Jvm.Cond.instanceMethod ({ cls := "PotVolumesModel", name := "height", desc := "(II)I" } : Jvm.MethodName)) ∈ gw := gw_t3 (k := 114) rfl rfl
theorem wc_X3_height : (Jvm.Cond.code ({ cls := "PotVolumesModel", name := "height", desc := "(II)I" } : Jvm.MethodName) prog_5_method_6_code (3 : Nat) (Option.some Jvm.ClassFile.FieldType.int)) ∈ gw := gw_t3 (k := 115) rfl rfl
theorem wl_X3_67 : (Jvm.Cond.methodLink "PotVolumesModel" (67 : Nat) ({ cls := "PotVolumesModel", name := "radiusAt", desc := "(II)I" } : Jvm.MethodName)) ∈ gw := gw_t3 (k := 116) rfl rfl
theorem wm_X3_radiusAt : (Jvm.Cond.instanceMethod ({ cls := "PotVolumesModel", name := "radiusAt", desc := "(II)I" } : Jvm.MethodName)) ∈ gw := gw_t3 (k := 118) rfl rfl
theorem wc_X3_radiusAt : (Jvm.Cond.code ({ cls := "PotVolumesModel", name := "radiusAt", desc := "(II)I" } : Jvm.MethodName) prog_5_method_7_code (3 : Nat) (Option.some Jvm.ClassFile.FieldType.int)) ∈ gw := gw_t3 (k := 119) rfl rfl
theorem wl_X3_77 : (Jvm.Cond.methodLink "PotVolumesModel" (77 : Nat) ({ cls := "PotVolumesModel", name := "append", desc := "(III)V" } : Jvm.MethodName)) ∈ gw := gw_t3 (k := 120) rfl rfl
theorem wm_X3_append : (Jvm.Cond.instanceMethod ({ cls := "PotVolumesModel", name := "append", desc := "(III)V" } : Jvm.MethodName)) ∈ gw := gw_t3 (k := 122) rfl rfl
theorem wc_X3_append : (Jvm.Cond.code ({ cls := "PotVolumesModel", name := "append", desc := "(III)V" } : Jvm.MethodName) prog_5_method_10_code (4 : Nat) (Option.none : Option Jvm.ClassFile.FieldType)) ∈ gw := gw_t3 (k := 123) rfl rfl
theorem wl_L_100 : (Jvm.Cond.methodLink "PotVolumesLaw" (100 : Nat) ({ cls := "PotVolumesModel", name := "at", desc := "(III)I" } : Jvm.MethodName)) ∈ gw := gw_t3 (k := 124) rfl rfl
theorem wm_X3_at : (Jvm.Cond.instanceMethod ({ cls := "PotVolumesModel", name := "at", desc := "(III)I" } : Jvm.MethodName)) ∈ gw := gw_t3 (k := 125) rfl rfl
theorem we_X3_at : (Jvm.Cond.selects "PotVolumesModel" ({ cls := "PotVolumesModel", name := "at", desc := "(III)I" } : Jvm.MethodName) ({ cls := "PotVolumesModel", name := "at", desc := "(III)I" } : Jvm.MethodName)) ∈ gw := gw_t3 (k := 126) rfl rfl
theorem wc_X3_at : (Jvm.Cond.code ({ cls := "PotVolumesModel", name := "at", desc := "(III)I" } : Jvm.MethodName) prog_5_method_12_code (4 : Nat) (Option.some Jvm.ClassFile.FieldType.int)) ∈ gw := gw_t3 (k := 127) rfl rfl
theorem wl_L_104 : (Jvm.Cond.methodLink "PotVolumesLaw" (104 : Nat) ({ cls := "PotVolumesModel", name := "radius", desc := "(II)I" } : Jvm.MethodName)) ∈ gw := gw_t3 (k := 128) rfl rfl
theorem wm_X3_radius : (Jvm.Cond.instanceMethod ({ cls := "PotVolumesModel", name := "radius", desc := "(II)I" } : Jvm.MethodName)) ∈ gw := gw_t3 (k := 129) rfl rfl
theorem we_X3_radius : (Jvm.Cond.selects "PotVolumesModel" ({ cls := "PotVolumesModel", name := "radius", desc := "(II)I" } : Jvm.MethodName) ({ cls := "PotVolumesModel", name := "radius", desc := "(II)I" } : Jvm.MethodName)) ∈ gw := gw_t3 (k := 130) rfl rfl
theorem wc_X3_radius : (Jvm.Cond.code ({ cls := "PotVolumesModel", name := "radius", desc := "(II)I" } : Jvm.MethodName) prog_5_method_14_code (3 : Nat) (Option.some Jvm.ClassFile.FieldType.int)) ∈ gw := gw_t3 (k := 131) rfl rfl
theorem wl_X3_81 : (Jvm.Cond.methodLink "PotVolumesModel" (81 : Nat) ({ cls := "PotVolumesModel", name := "radiusOf", desc := "(II)I" } : Jvm.MethodName)) ∈ gw := gw_t3 (k := 132) rfl rfl
theorem wm_X3_radiusOf : (Jvm.Cond.instanceMethod ({ cls := "PotVolumesModel", name := "radiusOf", desc := "(II)I" } : Jvm.MethodName)) ∈ gw := gw_t3 (k := 134) rfl rfl
theorem wc_X3_radiusOf : (Jvm.Cond.code ({ cls := "PotVolumesModel", name := "radiusOf", desc := "(II)I" } : Jvm.MethodName) prog_5_method_13_code (8 : Nat) (Option.some Jvm.ClassFile.FieldType.int)) ∈ gw := gw_t3 (k := 135) rfl rfl
theorem wl_L_107 : (Jvm.Cond.methodLink "PotVolumesLaw" (107 : Nat) ({ cls := "PotVolumesModel", name := "volume", desc := "(III)J" } : Jvm.MethodName)) ∈ gw := gw_t3 (k := 136) rfl rfl
theorem wm_X3_volume : (Jvm.Cond.instanceMethod ({ cls := "PotVolumesModel", name := "volume", desc := "(III)J" } : Jvm.MethodName)) ∈ gw := gw_t3 (k := 137) rfl rfl
theorem we_X3_volume : (Jvm.Cond.selects "PotVolumesModel" ({ cls := "PotVolumesModel", name := "volume", desc := "(III)J" } : Jvm.MethodName) ({ cls := "PotVolumesModel", name := "volume", desc := "(III)J" } : Jvm.MethodName)) ∈ gw := gw_t3 (k := 138) rfl rfl
theorem wc_X3_volume : (Jvm.Cond.code ({ cls := "PotVolumesModel", name := "volume", desc := "(III)J" } : Jvm.MethodName) prog_5_method_21_code (4 : Nat) (Option.some Jvm.ClassFile.FieldType.long)) ∈ gw := gw_t3 (k := 139) rfl rfl
theorem wl_X3_107 : (Jvm.Cond.methodLink "PotVolumesModel" (107 : Nat) ({ cls := "PotVolumesModel", name := "sum", desc := "(IIII)V" } : Jvm.MethodName)) ∈ gw := gw_t3 (k := 140) rfl rfl
theorem wm_X3_sum : (Jvm.Cond.instanceMethod ({ cls := "PotVolumesModel", name := "sum", desc := "(IIII)V" } : Jvm.MethodName)) ∈ gw := gw_t3 (k := 142) rfl rfl
theorem wc_X3_sum : (Jvm.Cond.code ({ cls := "PotVolumesModel", name := "sum", desc := "(IIII)V" } : Jvm.MethodName) prog_5_method_20_code (8 : Nat) (Option.none : Option Jvm.ClassFile.FieldType)) ∈ gw := gw_t3 (k := 143) rfl rfl
theorem wl_X3_103 : (Jvm.Cond.methodLink "PotVolumesModel" (103 : Nat) ({ cls := "PotVolumesModel", name := "addPiece", desc := "(IIIII)V" } : Jvm.MethodName)) ∈ gw := gw_t3 (k := 144) rfl rfl
theorem wm_X3_addPiece : (Jvm.Cond.instanceMethod ({ cls := "PotVolumesModel", name := "addPiece", desc := "(IIIII)V" } : Jvm.MethodName)) ∈ gw := gw_t3 (k := 146) rfl rfl
theorem wc_X3_addPiece : (Jvm.Cond.code ({ cls := "PotVolumesModel", name := "addPiece", desc := "(IIIII)V" } : Jvm.MethodName) prog_5_method_19_code (16 : Nat) (Option.none : Option Jvm.ClassFile.FieldType)) ∈ gw := gw_t3 (k := 147) rfl rfl
theorem wl_X3_94 : (Jvm.Cond.methodLink "PotVolumesModel" (94 : Nat) ({ cls := "PotVolumesModel", name := "less", desc := "(II)I" } : Jvm.MethodName)) ∈ gw := gw_t3 (k := 148) rfl rfl
theorem wt_X3_less : (Jvm.Cond.static ({ cls := "PotVolumesModel", name := "less", desc := "(II)I" } : Jvm.MethodName)) ∈ gw := gw_t3 (k := 149) rfl rfl
theorem wc_X3_less : (Jvm.Cond.code ({ cls := "PotVolumesModel", name := "less", desc := "(II)I" } : Jvm.MethodName) prog_5_method_18_code (2 : Nat) (Option.some Jvm.ClassFile.FieldType.int)) ∈ gw := gw_t3 (k := 150) rfl rfl
theorem wl_X3_97 : (Jvm.Cond.constantLong "PotVolumesModel" (97 : Nat) (3 : Int64)) ∈ gw := gw_t3 (k := 151) rfl rfl
theorem wl_X3_99 : (Jvm.Cond.methodLink "PotVolumesModel" (99 : Nat) ({ cls := "PotVolumesModel", name := "add", desc := "(JJ)V" } : Jvm.MethodName)) ∈ gw := gw_t3 (k := 152) rfl rfl
theorem wm_X3_add : (Jvm.Cond.instanceMethod ({ cls := "PotVolumesModel", name := "add", desc := "(JJ)V" } : Jvm.MethodName)) ∈ gw := gw_t3 (k := 154) rfl rfl
theorem wc_X3_add : (Jvm.Cond.code ({ cls := "PotVolumesModel", name := "add", desc := "(JJ)V" } : Jvm.MethodName) prog_5_method_17_code (7 : Nat) (Option.none : Option Jvm.ClassFile.FieldType)) ∈ gw := gw_t3 (k := 155) rfl rfl
theorem wl_X3_87 : (Jvm.Cond.methodLink "PotVolumesModel" (87 : Nat) ({ cls := "PotVolumesModel", name := "common", desc := "(JJ)J" } : Jvm.MethodName)) ∈ gw := gw_t3 (k := 156) rfl rfl
theorem wt_X3_common : (Jvm.Cond.static ({ cls := "PotVolumesModel", name := "common", desc := "(JJ)J" } : Jvm.MethodName)) ∈ gw := gw_t3 (k := 157) rfl rfl
theorem wc_X3_common : (Jvm.Cond.code ({ cls := "PotVolumesModel", name := "common", desc := "(JJ)J" } : Jvm.MethodName) prog_5_method_15_code (10 : Nat) (Option.some Jvm.ClassFile.FieldType.long)) ∈ gw := gw_t3 (k := 158) rfl rfl
theorem wl_X3_91 : (Jvm.Cond.methodLink "PotVolumesModel" (91 : Nat) ({ cls := "PotVolumesModel", name := "lessen", desc := "()V" } : Jvm.MethodName)) ∈ gw := gw_t3 (k := 159) rfl rfl
theorem wm_X3_lessen : (Jvm.Cond.instanceMethod ({ cls := "PotVolumesModel", name := "lessen", desc := "()V" } : Jvm.MethodName)) ∈ gw := gw_t3 (k := 161) rfl rfl
theorem wc_X3_lessen : (Jvm.Cond.code ({ cls := "PotVolumesModel", name := "lessen", desc := "()V" } : Jvm.MethodName) prog_5_method_16_code (3 : Nat) (Option.none : Option Jvm.ClassFile.FieldType)) ∈ gw := gw_t3 (k := 162) rfl rfl
theorem wl_L_110 : (Jvm.Cond.methodLink "PotVolumesLaw" (110 : Nat) ({ cls := "PotVolumesModel", name := "holds", desc := "(III)J" } : Jvm.MethodName)) ∈ gw := gw_t3 (k := 163) rfl rfl
theorem wm_X3_holds : (Jvm.Cond.instanceMethod ({ cls := "PotVolumesModel", name := "holds", desc := "(III)J" } : Jvm.MethodName)) ∈ gw := gw_t3 (k := 164) rfl rfl
theorem we_X3_holds : (Jvm.Cond.selects "PotVolumesModel" ({ cls := "PotVolumesModel", name := "holds", desc := "(III)J" } : Jvm.MethodName) ({ cls := "PotVolumesModel", name := "holds", desc := "(III)J" } : Jvm.MethodName)) ∈ gw := gw_t3 (k := 165) rfl rfl
theorem wc_X3_holds : (Jvm.Cond.code ({ cls := "PotVolumesModel", name := "holds", desc := "(III)J" } : Jvm.MethodName) prog_5_method_23_code (4 : Nat) (Option.some Jvm.ClassFile.FieldType.long)) ∈ gw := gw_t3 (k := 166) rfl rfl
theorem wl_X3_111 : (Jvm.Cond.methodLink "PotVolumesModel" (111 : Nat) ({ cls := "PotVolumesModel", name := "sumHeld", desc := "(II)V" } : Jvm.MethodName)) ∈ gw := gw_t3 (k := 167) rfl rfl
theorem wm_X3_sumHeld : (Jvm.Cond.instanceMethod ({ cls := "PotVolumesModel", name := "sumHeld", desc := "(II)V" } : Jvm.MethodName)) ∈ gw := gw_t3 (k := 169) rfl rfl
theorem wc_X3_sumHeld : (Jvm.Cond.code ({ cls := "PotVolumesModel", name := "sumHeld", desc := "(II)V" } : Jvm.MethodName) prog_5_method_22_code (3 : Nat) (Option.none : Option Jvm.ClassFile.FieldType)) ∈ gw := gw_t3 (k := 170) rfl rfl
theorem wl_L_113 : (Jvm.Cond.methodLink "PotVolumesLaw" (113 : Nat) ({ cls := "PotVolumesModel", name := "enclosed", desc := "(II)J" } : Jvm.MethodName)) ∈ gw := gw_t3 (k := 171) rfl rfl
theorem wm_X3_enclosed : (Jvm.Cond.instanceMethod ({ cls := "PotVolumesModel", name := "enclosed", desc := "(II)J" } : Jvm.MethodName)) ∈ gw := gw_t3 (k := 172) rfl rfl
theorem we_X3_enclosed : (Jvm.Cond.selects "PotVolumesModel" ({ cls := "PotVolumesModel", name := "enclosed", desc := "(II)J" } : Jvm.MethodName) ({ cls := "PotVolumesModel", name := "enclosed", desc := "(II)J" } : Jvm.MethodName)) ∈ gw := gw_t3 (k := 173) rfl rfl
theorem wc_X3_enclosed : (Jvm.Cond.code ({ cls := "PotVolumesModel", name := "enclosed", desc := "(II)J" } : Jvm.MethodName) prog_5_method_26_code (3 : Nat) (Option.some Jvm.ClassFile.FieldType.long)) ∈ gw := gw_t3 (k := 174) rfl rfl
theorem wl_X3_127 : (Jvm.Cond.methodLink "PotVolumesModel" (127 : Nat) ({ cls := "PotVolumesModel", name := "enclose", desc := "(II)J" } : Jvm.MethodName)) ∈ gw := gw_t3 (k := 175) rfl rfl
theorem wm_X3_enclose : (Jvm.Cond.instanceMethod ({ cls := "PotVolumesModel", name := "enclose", desc := "(II)J" } : Jvm.MethodName)) ∈ gw := gw_t3 (k := 177) rfl rfl
theorem wc_X3_enclose : (Jvm.Cond.code ({ cls := "PotVolumesModel", name := "enclose", desc := "(II)J" } : Jvm.MethodName) prog_5_method_25_code (3 : Nat) (Option.some Jvm.ClassFile.FieldType.long)) ∈ gw := gw_t3 (k := 178) rfl rfl
theorem wl_X3_119 : (Jvm.Cond.constantLong "PotVolumesModel" (119 : Nat) (314159265 : Int64)) ∈ gw := gw_t3 (k := 179) rfl rfl
theorem wl_X3_121 : (Jvm.Cond.methodLink "PotVolumesModel" (121 : Nat) ({ cls := "PotVolumesModel", name := "times", desc := "(JZ)J" } : Jvm.MethodName)) ∈ gw := gw_t3 (k := 180) rfl rfl
theorem wm_X3_times : (Jvm.Cond.instanceMethod ({ cls := "PotVolumesModel", name := "times", desc := "(JZ)J" } : Jvm.MethodName)) ∈ gw := gw_t3 (k := 182) rfl rfl
theorem wc_X3_times : (Jvm.Cond.code ({ cls := "PotVolumesModel", name := "times", desc := "(JZ)J" } : Jvm.MethodName) prog_5_method_24_code (15 : Nat) (Option.some Jvm.ClassFile.FieldType.long)) ∈ gw := gw_t3 (k := 183) rfl rfl
theorem wl_X3_115 : (Jvm.Cond.constantLong "PotVolumesModel" (115 : Nat) (32768 : Int64)) ∈ gw := gw_t3 (k := 184) rfl rfl
theorem wl_X3_117 : (Jvm.Cond.constantLong "PotVolumesModel" (117 : Nat) (100000000 : Int64)) ∈ gw := gw_t3 (k := 185) rfl rfl
theorem wl_X3_125 : (Jvm.Cond.constantLong "PotVolumesModel" (125 : Nat) (314159266 : Int64)) ∈ gw := gw_t3 (k := 186) rfl rfl
theorem wl_L_116 : (Jvm.Cond.methodLink "PotVolumesLaw" (116 : Nat) ({ cls := "PotVolumesModel", name := "wall", desc := "(II)I" } : Jvm.MethodName)) ∈ gw := gw_t3 (k := 187) rfl rfl
theorem wm_X3_wall : (Jvm.Cond.instanceMethod ({ cls := "PotVolumesModel", name := "wall", desc := "(II)I" } : Jvm.MethodName)) ∈ gw := gw_t3 (k := 188) rfl rfl
theorem we_X3_wall : (Jvm.Cond.selects "PotVolumesModel" ({ cls := "PotVolumesModel", name := "wall", desc := "(II)I" } : Jvm.MethodName) ({ cls := "PotVolumesModel", name := "wall", desc := "(II)I" } : Jvm.MethodName)) ∈ gw := gw_t3 (k := 189) rfl rfl
theorem wc_X3_wall : (Jvm.Cond.code ({ cls := "PotVolumesModel", name := "wall", desc := "(II)I" } : Jvm.MethodName) prog_5_method_27_code (4 : Nat) (Option.some Jvm.ClassFile.FieldType.int)) ∈ gw := gw_t3 (k := 190) rfl rfl
theorem wl_L_119 : (Jvm.Cond.methodLink "PotVolumesLaw" (119 : Nat) ({ cls := "PotVolumesModel", name := "unlike", desc := "(II)I" } : Jvm.MethodName)) ∈ gw := gw_t3 (k := 191) rfl rfl
theorem wm_X3_unlike : (Jvm.Cond.instanceMethod ({ cls := "PotVolumesModel", name := "unlike", desc := "(II)I" } : Jvm.MethodName)) ∈ gw := gw_t3 (k := 192) rfl rfl
theorem we_X3_unlike : (Jvm.Cond.selects "PotVolumesModel" ({ cls := "PotVolumesModel", name := "unlike", desc := "(II)I" } : Jvm.MethodName) ({ cls := "PotVolumesModel", name := "unlike", desc := "(II)I" } : Jvm.MethodName)) ∈ gw := gw_t3 (k := 193) rfl rfl
theorem wc_X3_unlike : (Jvm.Cond.code ({ cls := "PotVolumesModel", name := "unlike", desc := "(II)I" } : Jvm.MethodName) prog_5_method_28_code (8 : Nat) (Option.some Jvm.ClassFile.FieldType.int)) ∈ gw := gw_t3 (k := 194) rfl rfl
theorem wl_L_122 : (Jvm.Cond.methodLink "PotVolumesLaw" (122 : Nat) ({ cls := "PotVolumesModel", name := "cut", desc := "(II)Z" } : Jvm.MethodName)) ∈ gw := gw_t3 (k := 195) rfl rfl
theorem wm_X3_cut : (Jvm.Cond.instanceMethod ({ cls := "PotVolumesModel", name := "cut", desc := "(II)Z" } : Jvm.MethodName)) ∈ gw := gw_t3 (k := 196) rfl rfl
theorem we_X3_cut : (Jvm.Cond.selects "PotVolumesModel" ({ cls := "PotVolumesModel", name := "cut", desc := "(II)Z" } : Jvm.MethodName) ({ cls := "PotVolumesModel", name := "cut", desc := "(II)Z" } : Jvm.MethodName)) ∈ gw := gw_t3 (k := 197) rfl rfl
theorem wc_X3_cut : (Jvm.Cond.code ({ cls := "PotVolumesModel", name := "cut", desc := "(II)Z" } : Jvm.MethodName) prog_5_method_29_code (5 : Nat) (Option.some Jvm.ClassFile.FieldType.boolean)) ∈ gw := gw_t3 (k := 198) rfl rfl
theorem wl_L_125 : (Jvm.Cond.methodLink "PotVolumesLaw" (125 : Nat) ({ cls := "PotVolumesModel", name := "drawn", desc := "(III)I" } : Jvm.MethodName)) ∈ gw := gw_t3 (k := 199) rfl rfl
theorem wm_X3_drawn : (Jvm.Cond.instanceMethod ({ cls := "PotVolumesModel", name := "drawn", desc := "(III)I" } : Jvm.MethodName)) ∈ gw := gw_t3 (k := 200) rfl rfl
theorem we_X3_drawn : (Jvm.Cond.selects "PotVolumesModel" ({ cls := "PotVolumesModel", name := "drawn", desc := "(III)I" } : Jvm.MethodName) ({ cls := "PotVolumesModel", name := "drawn", desc := "(III)I" } : Jvm.MethodName)) ∈ gw := gw_t3 (k := 201) rfl rfl
theorem wc_X3_drawn : (Jvm.Cond.code ({ cls := "PotVolumesModel", name := "drawn", desc := "(III)I" } : Jvm.MethodName) prog_5_method_31_code (7 : Nat) (Option.some Jvm.ClassFile.FieldType.int)) ∈ gw := gw_t3 (k := 202) rfl rfl
theorem wl_X3_131 : (Jvm.Cond.methodLink "PotVolumesModel" (131 : Nat) ({ cls := "PotVolumesModel", name := "pointCount", desc := "(I)I" } : Jvm.MethodName)) ∈ gw := gw_t3 (k := 203) rfl rfl
theorem wm_X3_pointCount : (Jvm.Cond.instanceMethod ({ cls := "PotVolumesModel", name := "pointCount", desc := "(I)I" } : Jvm.MethodName)) ∈ gw := gw_t3 (k := 205) rfl rfl
theorem wc_X3_pointCount : (Jvm.Cond.code ({ cls := "PotVolumesModel", name := "pointCount", desc := "(I)I" } : Jvm.MethodName) prog_5_method_30_code (4 : Nat) (Option.some Jvm.ClassFile.FieldType.int)) ∈ gw := gw_t3 (k := 206) rfl rfl
theorem wl_L_129 : (Jvm.Cond.methodLink "PotVolumesLaw" (129 : Nat) ({ cls := "PotVolumesModel", name := "bound", desc := "(I)I" } : Jvm.MethodName)) ∈ gw := gw_t3 (k := 207) rfl rfl
theorem wm_X3_bound : (Jvm.Cond.instanceMethod ({ cls := "PotVolumesModel", name := "bound", desc := "(I)I" } : Jvm.MethodName)) ∈ gw := gw_t3 (k := 208) rfl rfl
theorem we_X3_bound : (Jvm.Cond.selects "PotVolumesModel" ({ cls := "PotVolumesModel", name := "bound", desc := "(I)I" } : Jvm.MethodName) ({ cls := "PotVolumesModel", name := "bound", desc := "(I)I" } : Jvm.MethodName)) ∈ gw := gw_t3 (k := 209) rfl rfl
theorem wc_X3_bound : (Jvm.Cond.code ({ cls := "PotVolumesModel", name := "bound", desc := "(I)I" } : Jvm.MethodName) prog_5_method_32_code (2 : Nat) (Option.some Jvm.ClassFile.FieldType.int)) ∈ gw := gw_t3 (k := 210) rfl rfl
theorem wl_X3_135 : (Jvm.Cond.constant "PotVolumesModel" (135 : Nat) (1000000000 : Int32)) ∈ gw := gw_t3 (k := 211) rfl rfl
theorem wl_L_132 : (Jvm.Cond.methodLink "PotVolumesLaw" (132 : Nat) ({ cls := "PotVolumesModel", name := "size", desc := "(I)I" } : Jvm.MethodName)) ∈ gw := gw_t3 (k := 212) rfl rfl
theorem wm_X3_size : (Jvm.Cond.instanceMethod ({ cls := "PotVolumesModel", name := "size", desc := "(I)I" } : Jvm.MethodName)) ∈ gw := gw_t3 (k := 213) rfl rfl
theorem we_X3_size : (Jvm.Cond.selects "PotVolumesModel" ({ cls := "PotVolumesModel", name := "size", desc := "(I)I" } : Jvm.MethodName) ({ cls := "PotVolumesModel", name := "size", desc := "(I)I" } : Jvm.MethodName)) ∈ gw := gw_t3 (k := 214) rfl rfl
theorem wc_X3_size : (Jvm.Cond.code ({ cls := "PotVolumesModel", name := "size", desc := "(I)I" } : Jvm.MethodName) prog_5_method_33_code (6 : Nat) (Option.some Jvm.ClassFile.FieldType.int)) ∈ gw := gw_t3 (k := 215) rfl rfl
theorem wl_L_135 : (Jvm.Cond.methodLink "PotVolumesLaw" (135 : Nat) ({ cls := "PotVolumesModel", name := "rim", desc := "(II)I" } : Jvm.MethodName)) ∈ gw := gw_t3 (k := 216) rfl rfl
theorem wm_X3_rim : (Jvm.Cond.instanceMethod ({ cls := "PotVolumesModel", name := "rim", desc := "(II)I" } : Jvm.MethodName)) ∈ gw := gw_t3 (k := 217) rfl rfl
theorem we_X3_rim : (Jvm.Cond.selects "PotVolumesModel" ({ cls := "PotVolumesModel", name := "rim", desc := "(II)I" } : Jvm.MethodName) ({ cls := "PotVolumesModel", name := "rim", desc := "(II)I" } : Jvm.MethodName)) ∈ gw := gw_t3 (k := 218) rfl rfl
theorem wc_X3_rim : (Jvm.Cond.code ({ cls := "PotVolumesModel", name := "rim", desc := "(II)I" } : Jvm.MethodName) prog_5_method_34_code (3 : Nat) (Option.some Jvm.ClassFile.FieldType.int)) ∈ gw := gw_t3 (k := 219) rfl rfl
theorem wl_L_139 : (Jvm.Cond.methodLink "PotVolumesLaw" (139 : Nat) ({ cls := "PotVolumesModel", name := "clear", desc := "()I" } : Jvm.MethodName)) ∈ gw := gw_t3 (k := 220) rfl rfl
theorem wm_X3_clear : (Jvm.Cond.instanceMethod ({ cls := "PotVolumesModel", name := "clear", desc := "()I" } : Jvm.MethodName)) ∈ gw := gw_t3 (k := 221) rfl rfl
theorem we_X3_clear : (Jvm.Cond.selects "PotVolumesModel" ({ cls := "PotVolumesModel", name := "clear", desc := "()I" } : Jvm.MethodName) ({ cls := "PotVolumesModel", name := "clear", desc := "()I" } : Jvm.MethodName)) ∈ gw := gw_t3 (k := 222) rfl rfl
theorem wc_X3_clear : (Jvm.Cond.code ({ cls := "PotVolumesModel", name := "clear", desc := "()I" } : Jvm.MethodName) prog_5_method_35_code (2 : Nat) (Option.some Jvm.ClassFile.FieldType.int)) ∈ gw := gw_t3 (k := 223) rfl rfl
theorem wl_L_142 : (Jvm.Cond.methodLink "PotVolumesLaw" (142 : Nat) ({ cls := "PotVolumesModel", name := "circle", desc := "(I)J" } : Jvm.MethodName)) ∈ gw := gw_t3 (k := 224) rfl rfl
theorem wm_X3_circle : (Jvm.Cond.instanceMethod ({ cls := "PotVolumesModel", name := "circle", desc := "(I)J" } : Jvm.MethodName)) ∈ gw := gw_t3 (k := 225) rfl rfl
theorem we_X3_circle : (Jvm.Cond.selects "PotVolumesModel" ({ cls := "PotVolumesModel", name := "circle", desc := "(I)J" } : Jvm.MethodName) ({ cls := "PotVolumesModel", name := "circle", desc := "(I)J" } : Jvm.MethodName)) ∈ gw := gw_t3 (k := 226) rfl rfl
theorem wc_X3_circle : (Jvm.Cond.code ({ cls := "PotVolumesModel", name := "circle", desc := "(I)J" } : Jvm.MethodName) prog_5_method_38_code (2 : Nat) (Option.some Jvm.ClassFile.FieldType.long)) ∈ gw := gw_t3 (k := 227) rfl rfl
theorem wl_X3_147 : (Jvm.Cond.methodLink "PotVolumesModel" (147 : Nat) ({ cls := "PotVolumesModel", name := "round", desc := "()V" } : Jvm.MethodName)) ∈ gw := gw_t3 (k := 228) rfl rfl
theorem wm_X3_round : (Jvm.Cond.instanceMethod ({ cls := "PotVolumesModel", name := "round", desc := "()V" } : Jvm.MethodName)) ∈ gw := gw_t3 (k := 230) rfl rfl
theorem wc_X3_round : (Jvm.Cond.code ({ cls := "PotVolumesModel", name := "round", desc := "()V" } : Jvm.MethodName) prog_5_method_37_code (6 : Nat) (Option.none : Option Jvm.ClassFile.FieldType)) ∈ gw := gw_t3 (k := 231) rfl rfl
theorem wl_X3_142 : (Jvm.Cond.methodLink "PotVolumesModel" (142 : Nat) ({ cls := "PotVolumesModel", name := "apart", desc := "(II)J" } : Jvm.MethodName)) ∈ gw := gw_t3 (k := 232) rfl rfl
theorem wm_X3_apart : (Jvm.Cond.instanceMethod ({ cls := "PotVolumesModel", name := "apart", desc := "(II)J" } : Jvm.MethodName)) ∈ gw := gw_t3 (k := 234) rfl rfl
theorem wc_X3_apart : (Jvm.Cond.code ({ cls := "PotVolumesModel", name := "apart", desc := "(II)J" } : Jvm.MethodName) prog_5_method_36_code (7 : Nat) (Option.some Jvm.ClassFile.FieldType.long)) ∈ gw := gw_t3 (k := 235) rfl rfl
theorem wl_X3_145 : (Jvm.Cond.constantLong "PotVolumesModel" (145 : Nat) (4 : Int64)) ∈ gw := gw_t3 (k := 236) rfl rfl
theorem wl_L_145 : (Jvm.Cond.methodLink "PotVolumesLaw" (145 : Nat) ({ cls := "PotVolumesModel", name := "curve", desc := "()I" } : Jvm.MethodName)) ∈ gw := gw_t3 (k := 237) rfl rfl
theorem wm_X3_curve : (Jvm.Cond.instanceMethod ({ cls := "PotVolumesModel", name := "curve", desc := "()I" } : Jvm.MethodName)) ∈ gw := gw_t3 (k := 238) rfl rfl
theorem we_X3_curve : (Jvm.Cond.selects "PotVolumesModel" ({ cls := "PotVolumesModel", name := "curve", desc := "()I" } : Jvm.MethodName) ({ cls := "PotVolumesModel", name := "curve", desc := "()I" } : Jvm.MethodName)) ∈ gw := gw_t3 (k := 239) rfl rfl
theorem wc_X3_curve : (Jvm.Cond.code ({ cls := "PotVolumesModel", name := "curve", desc := "()I" } : Jvm.MethodName) prog_5_method_39_code (7 : Nat) (Option.some Jvm.ClassFile.FieldType.int)) ∈ gw := gw_t4 (k := 0) rfl rfl
theorem wl_X3_150 : (Jvm.Cond.constantLong "PotVolumesModel" (150 : Nat) (1073741824 : Int64)) ∈ gw := gw_t4 (k := 1) rfl rfl
theorem wl_X3_152 : (Jvm.Cond.constantLong "PotVolumesModel" (152 : Nat) (2 : Int64)) ∈ gw := gw_t4 (k := 2) rfl rfl
theorem wl_L_148 : (Jvm.Cond.methodLink "PotVolumesLaw" (148 : Nat) ({ cls := "PotVolumesModel", name := "sherd", desc := "(II)I" } : Jvm.MethodName)) ∈ gw := gw_t4 (k := 3) rfl rfl
theorem wm_X3_sherd : (Jvm.Cond.instanceMethod ({ cls := "PotVolumesModel", name := "sherd", desc := "(II)I" } : Jvm.MethodName)) ∈ gw := gw_t4 (k := 4) rfl rfl
theorem we_X3_sherd : (Jvm.Cond.selects "PotVolumesModel" ({ cls := "PotVolumesModel", name := "sherd", desc := "(II)I" } : Jvm.MethodName) ({ cls := "PotVolumesModel", name := "sherd", desc := "(II)I" } : Jvm.MethodName)) ∈ gw := gw_t4 (k := 5) rfl rfl
theorem wc_X3_sherd : (Jvm.Cond.code ({ cls := "PotVolumesModel", name := "sherd", desc := "(II)I" } : Jvm.MethodName) prog_5_method_41_code (3 : Nat) (Option.some Jvm.ClassFile.FieldType.int)) ∈ gw := gw_t4 (k := 6) rfl rfl
theorem wl_X3_157 : (Jvm.Cond.methodLink "PotVolumesModel" (157 : Nat) ({ cls := "PotVolumesModel", name := "allOf", desc := "(I)I" } : Jvm.MethodName)) ∈ gw := gw_t4 (k := 7) rfl rfl
theorem wm_X3_allOf : (Jvm.Cond.instanceMethod ({ cls := "PotVolumesModel", name := "allOf", desc := "(I)I" } : Jvm.MethodName)) ∈ gw := gw_t4 (k := 9) rfl rfl
theorem wc_X3_allOf : (Jvm.Cond.code ({ cls := "PotVolumesModel", name := "allOf", desc := "(I)I" } : Jvm.MethodName) prog_5_method_40_code (4 : Nat) (Option.some Jvm.ClassFile.FieldType.int)) ∈ gw := gw_t4 (k := 10) rfl rfl
theorem wl_L_151 : (Jvm.Cond.methodLink "PotVolumesLaw" (151 : Nat) ({ cls := "PotVolumesModel", name := "vessels", desc := "(II)I" } : Jvm.MethodName)) ∈ gw := gw_t4 (k := 11) rfl rfl
theorem wm_X3_vessels : (Jvm.Cond.instanceMethod ({ cls := "PotVolumesModel", name := "vessels", desc := "(II)I" } : Jvm.MethodName)) ∈ gw := gw_t4 (k := 12) rfl rfl
theorem we_X3_vessels : (Jvm.Cond.selects "PotVolumesModel" ({ cls := "PotVolumesModel", name := "vessels", desc := "(II)I" } : Jvm.MethodName) ({ cls := "PotVolumesModel", name := "vessels", desc := "(II)I" } : Jvm.MethodName)) ∈ gw := gw_t4 (k := 13) rfl rfl
theorem wc_X3_vessels : (Jvm.Cond.code ({ cls := "PotVolumesModel", name := "vessels", desc := "(II)I" } : Jvm.MethodName) prog_5_method_42_code (6 : Nat) (Option.some Jvm.ClassFile.FieldType.int)) ∈ gw := gw_t4 (k := 14) rfl rfl
theorem wl_L_154 : (Jvm.Cond.methodLink "PotVolumesLaw" (154 : Nat) ({ cls := "PotVolumesModel", name := "count", desc := "(I)I" } : Jvm.MethodName)) ∈ gw := gw_t4 (k := 15) rfl rfl
theorem wm_X3_count : (Jvm.Cond.instanceMethod ({ cls := "PotVolumesModel", name := "count", desc := "(I)I" } : Jvm.MethodName)) ∈ gw := gw_t4 (k := 16) rfl rfl
theorem we_X3_count : (Jvm.Cond.selects "PotVolumesModel" ({ cls := "PotVolumesModel", name := "count", desc := "(I)I" } : Jvm.MethodName) ({ cls := "PotVolumesModel", name := "count", desc := "(I)I" } : Jvm.MethodName)) ∈ gw := gw_t4 (k := 17) rfl rfl
theorem wc_X3_count : (Jvm.Cond.code ({ cls := "PotVolumesModel", name := "count", desc := "(I)I" } : Jvm.MethodName) prog_5_method_43_code (2 : Nat) (Option.some Jvm.ClassFile.FieldType.int)) ∈ gw := gw_t4 (k := 18) rfl rfl
theorem wa_long : (Jvm.Cond.arrayClass Jvm.ClassFile.FieldType.long) ∈ gw := gw_t4 (k := 19) rfl rfl
theorem we_X2_profileOf : (Jvm.Cond.selects "PotVolumes" (⟨"PotVolumes", "profileOf", "(I)LPotVolumes$Profile;"⟩ : Jvm.MethodName) (⟨"PotVolumes", "profileOf", "(I)LPotVolumes$Profile;"⟩ : Jvm.MethodName)) ∈ gw := gw_s (k := 1) rfl rfl
theorem we_X1_canFollow : (Jvm.Cond.selects "PotVolumes$Profile" (⟨"PotVolumes$Profile", "canFollow", "(II)Z"⟩ : Jvm.MethodName) (⟨"PotVolumes$Profile", "canFollow", "(II)Z"⟩ : Jvm.MethodName)) ∈ gw := gw_s (k := 2) rfl rfl
theorem we_X1_scaledRadius : (Jvm.Cond.selects "PotVolumes$Profile" (⟨"PotVolumes$Profile", "scaledRadius", "(III)I"⟩ : Jvm.MethodName) (⟨"PotVolumes$Profile", "scaledRadius", "(III)I"⟩ : Jvm.MethodName)) ∈ gw := gw_s (k := 3) rfl rfl
theorem we_X1_addPieces : (Jvm.Cond.selects "PotVolumes$Profile" (⟨"PotVolumes$Profile", "addPieces", "(LPotVolumes$Fraction;III)V"⟩ : Jvm.MethodName) (⟨"PotVolumes$Profile", "addPieces", "(LPotVolumes$Fraction;III)V"⟩ : Jvm.MethodName)) ∈ gw := gw_s (k := 4) rfl rfl
theorem we_X1_addPiece : (Jvm.Cond.selects "PotVolumes$Profile" (⟨"PotVolumes$Profile", "addPiece", "(LPotVolumes$Fraction;IIII)V"⟩ : Jvm.MethodName) (⟨"PotVolumes$Profile", "addPiece", "(LPotVolumes$Fraction;IIII)V"⟩ : Jvm.MethodName)) ∈ gw := gw_s (k := 5) rfl rfl
theorem we_X0_lessen : (Jvm.Cond.selects "PotVolumes$Fraction" (⟨"PotVolumes$Fraction", "lessen", "()V"⟩ : Jvm.MethodName) (⟨"PotVolumes$Fraction", "lessen", "()V"⟩ : Jvm.MethodName)) ∈ gw := gw_s (k := 6) rfl rfl
theorem we_X0_timesDown : (Jvm.Cond.selects "PotVolumes$Fraction" (⟨"PotVolumes$Fraction", "timesDown", "(J)J"⟩ : Jvm.MethodName) (⟨"PotVolumes$Fraction", "timesDown", "(J)J"⟩ : Jvm.MethodName)) ∈ gw := gw_s (k := 7) rfl rfl
theorem we_X0_timesUp : (Jvm.Cond.selects "PotVolumes$Fraction" (⟨"PotVolumes$Fraction", "timesUp", "(J)J"⟩ : Jvm.MethodName) (⟨"PotVolumes$Fraction", "timesUp", "(J)J"⟩ : Jvm.MethodName)) ∈ gw := gw_s (k := 8) rfl rfl
theorem we_X1_countUpTo : (Jvm.Cond.selects "PotVolumes$Profile" (⟨"PotVolumes$Profile", "countUpTo", "(I)I"⟩ : Jvm.MethodName) (⟨"PotVolumes$Profile", "countUpTo", "(I)I"⟩ : Jvm.MethodName)) ∈ gw := gw_s (k := 9) rfl rfl
theorem we_X2_needCircle : (Jvm.Cond.selects "PotVolumes" (⟨"PotVolumes", "needCircle", "()V"⟩ : Jvm.MethodName) (⟨"PotVolumes", "needCircle", "()V"⟩ : Jvm.MethodName)) ∈ gw := gw_s (k := 10) rfl rfl
theorem we_X2_measureCircle : (Jvm.Cond.selects "PotVolumes" (⟨"PotVolumes", "measureCircle", "()V"⟩ : Jvm.MethodName) (⟨"PotVolumes", "measureCircle", "()V"⟩ : Jvm.MethodName)) ∈ gw := gw_s (k := 11) rfl rfl
theorem we_X2_needProfile : (Jvm.Cond.selects "PotVolumes" (⟨"PotVolumes", "needProfile", "(I)V"⟩ : Jvm.MethodName) (⟨"PotVolumes", "needProfile", "(I)V"⟩ : Jvm.MethodName)) ∈ gw := gw_s (k := 12) rfl rfl
theorem we_X2_sumOfShares : (Jvm.Cond.selects "PotVolumes" (⟨"PotVolumes", "sumOfShares", "(I)I"⟩ : Jvm.MethodName) (⟨"PotVolumes", "sumOfShares", "(I)I"⟩ : Jvm.MethodName)) ∈ gw := gw_s (k := 13) rfl rfl
theorem we_X2_vesselsBySherds : (Jvm.Cond.selects "PotVolumes" (⟨"PotVolumes", "vesselsBySherds", "(I)I"⟩ : Jvm.MethodName) (⟨"PotVolumes", "vesselsBySherds", "(I)I"⟩ : Jvm.MethodName)) ∈ gw := gw_s (k := 14) rfl rfl
theorem we_X2_firstWithRoom : (Jvm.Cond.selects "PotVolumes" (⟨"PotVolumes", "firstWithRoom", "(II)I"⟩ : Jvm.MethodName) (⟨"PotVolumes", "firstWithRoom", "(II)I"⟩ : Jvm.MethodName)) ∈ gw := gw_s (k := 15) rfl rfl
theorem we_X3_throwing : (Jvm.Cond.selects "PotVolumesModel" (⟨"PotVolumesModel", "throwing", "(ZZZ)Z"⟩ : Jvm.MethodName) (⟨"PotVolumesModel", "throwing", "(ZZZ)Z"⟩ : Jvm.MethodName)) ∈ gw := gw_s (k := 16) rfl rfl
theorem we_X3_isProfile : (Jvm.Cond.selects "PotVolumesModel" (⟨"PotVolumesModel", "isProfile", "(I)Z"⟩ : Jvm.MethodName) (⟨"PotVolumesModel", "isProfile", "(I)Z"⟩ : Jvm.MethodName)) ∈ gw := gw_s (k := 17) rfl rfl
theorem we_X3_mayFollow : (Jvm.Cond.selects "PotVolumesModel" (⟨"PotVolumesModel", "mayFollow", "(III)Z"⟩ : Jvm.MethodName) (⟨"PotVolumesModel", "mayFollow", "(III)Z"⟩ : Jvm.MethodName)) ∈ gw := gw_s (k := 18) rfl rfl
theorem we_X3_height : (Jvm.Cond.selects "PotVolumesModel" (⟨"PotVolumesModel", "height", "(II)I"⟩ : Jvm.MethodName) (⟨"PotVolumesModel", "height", "(II)I"⟩ : Jvm.MethodName)) ∈ gw := gw_s (k := 19) rfl rfl
theorem we_X3_radiusAt : (Jvm.Cond.selects "PotVolumesModel" (⟨"PotVolumesModel", "radiusAt", "(II)I"⟩ : Jvm.MethodName) (⟨"PotVolumesModel", "radiusAt", "(II)I"⟩ : Jvm.MethodName)) ∈ gw := gw_s (k := 20) rfl rfl
theorem we_X3_append : (Jvm.Cond.selects "PotVolumesModel" (⟨"PotVolumesModel", "append", "(III)V"⟩ : Jvm.MethodName) (⟨"PotVolumesModel", "append", "(III)V"⟩ : Jvm.MethodName)) ∈ gw := gw_s (k := 21) rfl rfl
theorem we_X3_radiusOf : (Jvm.Cond.selects "PotVolumesModel" (⟨"PotVolumesModel", "radiusOf", "(II)I"⟩ : Jvm.MethodName) (⟨"PotVolumesModel", "radiusOf", "(II)I"⟩ : Jvm.MethodName)) ∈ gw := gw_s (k := 22) rfl rfl
theorem we_X3_sum : (Jvm.Cond.selects "PotVolumesModel" (⟨"PotVolumesModel", "sum", "(IIII)V"⟩ : Jvm.MethodName) (⟨"PotVolumesModel", "sum", "(IIII)V"⟩ : Jvm.MethodName)) ∈ gw := gw_s (k := 23) rfl rfl
theorem we_X3_addPiece : (Jvm.Cond.selects "PotVolumesModel" (⟨"PotVolumesModel", "addPiece", "(IIIII)V"⟩ : Jvm.MethodName) (⟨"PotVolumesModel", "addPiece", "(IIIII)V"⟩ : Jvm.MethodName)) ∈ gw := gw_s (k := 24) rfl rfl
theorem we_X3_add : (Jvm.Cond.selects "PotVolumesModel" (⟨"PotVolumesModel", "add", "(JJ)V"⟩ : Jvm.MethodName) (⟨"PotVolumesModel", "add", "(JJ)V"⟩ : Jvm.MethodName)) ∈ gw := gw_s (k := 25) rfl rfl
theorem we_X3_lessen : (Jvm.Cond.selects "PotVolumesModel" (⟨"PotVolumesModel", "lessen", "()V"⟩ : Jvm.MethodName) (⟨"PotVolumesModel", "lessen", "()V"⟩ : Jvm.MethodName)) ∈ gw := gw_s (k := 26) rfl rfl
theorem we_X3_sumHeld : (Jvm.Cond.selects "PotVolumesModel" (⟨"PotVolumesModel", "sumHeld", "(II)V"⟩ : Jvm.MethodName) (⟨"PotVolumesModel", "sumHeld", "(II)V"⟩ : Jvm.MethodName)) ∈ gw := gw_s (k := 27) rfl rfl
theorem we_X3_enclose : (Jvm.Cond.selects "PotVolumesModel" (⟨"PotVolumesModel", "enclose", "(II)J"⟩ : Jvm.MethodName) (⟨"PotVolumesModel", "enclose", "(II)J"⟩ : Jvm.MethodName)) ∈ gw := gw_s (k := 28) rfl rfl
theorem we_X3_times : (Jvm.Cond.selects "PotVolumesModel" (⟨"PotVolumesModel", "times", "(JZ)J"⟩ : Jvm.MethodName) (⟨"PotVolumesModel", "times", "(JZ)J"⟩ : Jvm.MethodName)) ∈ gw := gw_s (k := 29) rfl rfl
theorem we_X3_pointCount : (Jvm.Cond.selects "PotVolumesModel" (⟨"PotVolumesModel", "pointCount", "(I)I"⟩ : Jvm.MethodName) (⟨"PotVolumesModel", "pointCount", "(I)I"⟩ : Jvm.MethodName)) ∈ gw := gw_s (k := 30) rfl rfl
theorem we_X3_round : (Jvm.Cond.selects "PotVolumesModel" (⟨"PotVolumesModel", "round", "()V"⟩ : Jvm.MethodName) (⟨"PotVolumesModel", "round", "()V"⟩ : Jvm.MethodName)) ∈ gw := gw_s (k := 31) rfl rfl
theorem we_X3_apart : (Jvm.Cond.selects "PotVolumesModel" (⟨"PotVolumesModel", "apart", "(II)J"⟩ : Jvm.MethodName) (⟨"PotVolumesModel", "apart", "(II)J"⟩ : Jvm.MethodName)) ∈ gw := gw_s (k := 32) rfl rfl
theorem we_X3_allOf : (Jvm.Cond.selects "PotVolumesModel" (⟨"PotVolumesModel", "allOf", "(I)I"⟩ : Jvm.MethodName) (⟨"PotVolumesModel", "allOf", "(I)I"⟩ : Jvm.MethodName)) ∈ gw := gw_s (k := 33) rfl rfl
theorem inX0 : ∀ w ∈ u_ws RX0 TX0 2, w ∈ gw := by
  show ∀ w ∈ (List.range 2).map (u_lay RX0 TX0), w ∈ gw
  intro w hw
  obtain ⟨k, hk, rfl⟩ := List.mem_map.mp hw
  have hk := List.mem_range.mp hk
  match k, hk with
  | 0, _ => exact wf_X0_above
  | 1, _ => exact wf_X0_below
  | n + 2, h => exact absurd h (by omega)
theorem inX1 : ∀ w ∈ u_ws RX1 TX1 5, w ∈ gw := by
  show ∀ w ∈ (List.range 5).map (u_lay RX1 TX1), w ∈ gw
  intro w hw
  obtain ⟨k, hk, rfl⟩ := List.mem_map.mp hw
  have hk := List.mem_range.mp hk
  match k, hk with
  | 0, _ => exact wf_X1_heights
  | 1, _ => exact wf_X1_radiuses
  | 2, _ => exact wf_X1_cornerCount
  | 3, _ => exact wf_X1_thickness
  | 4, _ => exact wf_X1_wasCut
  | n + 5, h => exact absurd h (by omega)
theorem inX2 : ∀ w ∈ u_ws RX2 TX2 12, w ∈ gw := by
  show ∀ w ∈ (List.range 12).map (u_lay RX2 TX2), w ∈ gw
  intro w hw
  obtain ⟨k, hk, rfl⟩ := List.mem_map.mp hw
  have hk := List.mem_range.mp hk
  match k, hk with
  | 0, _ => exact wf_X2_profiles
  | 1, _ => exact wf_X2_profileCount
  | 2, _ => exact wf_X2_bounds
  | 3, _ => exact wf_X2_boundCount
  | 4, _ => exact wf_X2_placesAcross
  | 5, _ => exact wf_X2_placesAlong
  | 6, _ => exact wf_X2_placeCount
  | 7, _ => exact wf_X2_sherdProfiles
  | 8, _ => exact wf_X2_sherdShares
  | 9, _ => exact wf_X2_sherdCount
  | 10, _ => exact wf_X2_vesselShares
  | 11, _ => exact wf_X2_fraction
  | n + 12, h => exact absurd h (by omega)
theorem inX3 : ∀ w ∈ u_ws RX3 TX3 18, w ∈ gw := by
  show ∀ w ∈ (List.range 18).map (u_lay RX3 TX3), w ∈ gw
  intro w hw
  obtain ⟨k, hk, rfl⟩ := List.mem_map.mp hw
  have hk := List.mem_range.mp hk
  match k, hk with
  | 0, _ => exact wf_X3_thrown
  | 1, _ => exact wf_X3_profiles
  | 2, _ => exact wf_X3_sizes
  | 3, _ => exact wf_X3_heights
  | 4, _ => exact wf_X3_radii
  | 5, _ => exact wf_X3_isCut
  | 6, _ => exact wf_X3_walls
  | 7, _ => exact wf_X3_bounds
  | 8, _ => exact wf_X3_boundCount
  | 9, _ => exact wf_X3_rimX
  | 10, _ => exact wf_X3_rimY
  | 11, _ => exact wf_X3_places
  | 12, _ => exact wf_X3_sherdOf
  | 13, _ => exact wf_X3_shares
  | 14, _ => exact wf_X3_sherds
  | 15, _ => exact wf_X3_filled
  | 16, _ => exact wf_X3_above
  | 17, _ => exact wf_X3_below
  | n + 18, h => exact absurd h (by omega)
end
section
theorem dX0_init_0 : decode cX0_init 0 = .ok (.aload_n 0, 1) := by decide +kernel
theorem dX0_init_1 : decode cX0_init 1 = .ok (.invokespecial 3, 3) := by decide +kernel
theorem dX0_init_4 : decode cX0_init 4 = .ok (.aload_n 0, 1) := by decide +kernel
theorem dX0_init_5 : decode cX0_init 5 = .ok (.lconst 1, 1) := by decide +kernel
theorem dX0_init_6 : decode cX0_init 6 = .ok (.putfield 9, 3) := by decide +kernel
theorem dX0_init_9 : decode cX0_init 9 = .ok (.return_, 1) := by decide +kernel
theorem dX0_clearToZero_0 : decode cX0_clearToZero 0 = .ok (.aload_n 0, 1) := by decide +kernel
theorem dX0_clearToZero_1 : decode cX0_clearToZero 1 = .ok (.lconst 0, 1) := by decide +kernel
theorem dX0_clearToZero_2 : decode cX0_clearToZero 2 = .ok (.putfield 15, 3) := by decide +kernel
theorem dX0_clearToZero_5 : decode cX0_clearToZero 5 = .ok (.aload_n 0, 1) := by decide +kernel
theorem dX0_clearToZero_6 : decode cX0_clearToZero 6 = .ok (.lconst 1, 1) := by decide +kernel
theorem dX0_clearToZero_7 : decode cX0_clearToZero 7 = .ok (.putfield 9, 3) := by decide +kernel
theorem dX0_clearToZero_10 : decode cX0_clearToZero 10 = .ok (.return_, 1) := by decide +kernel
theorem dX0_add_0 : decode cX0_add 0 = .ok (.lload_n 1, 1) := by decide +kernel
theorem dX0_add_1 : decode cX0_add 1 = .ok (.lload_n 3, 1) := by decide +kernel
theorem dX0_add_2 : decode cX0_add 2 = .ok (.invokestatic 18, 3) := by decide +kernel
theorem dX0_add_5 : decode cX0_add 5 = .ok (.lstore 5, 2) := by decide +kernel
theorem dX0_add_7 : decode cX0_add 7 = .ok (.lload 5, 2) := by decide +kernel
theorem dX0_add_9 : decode cX0_add 9 = .ok (.lconst 0, 1) := by decide +kernel
theorem dX0_add_10 : decode cX0_add 10 = .ok (.lcmp, 1) := by decide +kernel
theorem dX0_add_11 : decode cX0_add 11 = .ok (.ifCond .ne 4, 3) := by decide +kernel
theorem dX0_add_14 : decode cX0_add 14 = .ok (.return_, 1) := by decide +kernel
theorem dX0_add_15 : decode cX0_add 15 = .ok (.lload_n 1, 1) := by decide +kernel
theorem dX0_add_16 : decode cX0_add 16 = .ok (.lload 5, 2) := by decide +kernel
theorem dX0_add_18 : decode cX0_add 18 = .ok (.ldiv, 1) := by decide +kernel
theorem dX0_add_19 : decode cX0_add 19 = .ok (.lstore 7, 2) := by decide +kernel
theorem dX0_add_21 : decode cX0_add 21 = .ok (.lload_n 3, 1) := by decide +kernel
theorem dX0_add_22 : decode cX0_add 22 = .ok (.lload 5, 2) := by decide +kernel
theorem dX0_add_24 : decode cX0_add 24 = .ok (.ldiv, 1) := by decide +kernel
theorem dX0_add_25 : decode cX0_add 25 = .ok (.lstore 9, 2) := by decide +kernel
theorem dX0_add_27 : decode cX0_add 27 = .ok (.aload_n 0, 1) := by decide +kernel
theorem dX0_add_28 : decode cX0_add 28 = .ok (.aload_n 0, 1) := by decide +kernel
theorem dX0_add_29 : decode cX0_add 29 = .ok (.getfield 15, 3) := by decide +kernel
theorem dX0_add_32 : decode cX0_add 32 = .ok (.lload 9, 2) := by decide +kernel
theorem dX0_add_34 : decode cX0_add 34 = .ok (.lmul, 1) := by decide +kernel
theorem dX0_add_35 : decode cX0_add 35 = .ok (.lload 7, 2) := by decide +kernel
theorem dX0_add_37 : decode cX0_add 37 = .ok (.aload_n 0, 1) := by decide +kernel
theorem dX0_add_38 : decode cX0_add 38 = .ok (.getfield 9, 3) := by decide +kernel
theorem dX0_add_41 : decode cX0_add 41 = .ok (.lmul, 1) := by decide +kernel
theorem dX0_add_42 : decode cX0_add 42 = .ok (.ladd, 1) := by decide +kernel
theorem dX0_add_43 : decode cX0_add 43 = .ok (.putfield 15, 3) := by decide +kernel
theorem dX0_add_46 : decode cX0_add 46 = .ok (.aload_n 0, 1) := by decide +kernel
theorem dX0_add_47 : decode cX0_add 47 = .ok (.aload_n 0, 1) := by decide +kernel
theorem dX0_add_48 : decode cX0_add 48 = .ok (.getfield 9, 3) := by decide +kernel
theorem dX0_add_51 : decode cX0_add 51 = .ok (.lload 9, 2) := by decide +kernel
theorem dX0_add_53 : decode cX0_add 53 = .ok (.lmul, 1) := by decide +kernel
theorem dX0_add_54 : decode cX0_add 54 = .ok (.putfield 9, 3) := by decide +kernel
theorem dX0_add_57 : decode cX0_add 57 = .ok (.aload_n 0, 1) := by decide +kernel
theorem dX0_add_58 : decode cX0_add 58 = .ok (.invokevirtual 22, 3) := by decide +kernel
theorem dX0_add_61 : decode cX0_add 61 = .ok (.return_, 1) := by decide +kernel
theorem dX0_lessen_0 : decode cX0_lessen 0 = .ok (.aload_n 0, 1) := by decide +kernel
theorem dX0_lessen_1 : decode cX0_lessen 1 = .ok (.getfield 15, 3) := by decide +kernel
theorem dX0_lessen_4 : decode cX0_lessen 4 = .ok (.aload_n 0, 1) := by decide +kernel
theorem dX0_lessen_5 : decode cX0_lessen 5 = .ok (.getfield 9, 3) := by decide +kernel
theorem dX0_lessen_8 : decode cX0_lessen 8 = .ok (.invokestatic 18, 3) := by decide +kernel
theorem dX0_lessen_11 : decode cX0_lessen 11 = .ok (.lstore_n 1, 1) := by decide +kernel
theorem dX0_lessen_12 : decode cX0_lessen 12 = .ok (.lload_n 1, 1) := by decide +kernel
theorem dX0_lessen_13 : decode cX0_lessen 13 = .ok (.lconst 1, 1) := by decide +kernel
theorem dX0_lessen_14 : decode cX0_lessen 14 = .ok (.lcmp, 1) := by decide +kernel
theorem dX0_lessen_15 : decode cX0_lessen 15 = .ok (.ifCond .le 23, 3) := by decide +kernel
theorem dX0_lessen_18 : decode cX0_lessen 18 = .ok (.aload_n 0, 1) := by decide +kernel
theorem dX0_lessen_19 : decode cX0_lessen 19 = .ok (.aload_n 0, 1) := by decide +kernel
theorem dX0_lessen_20 : decode cX0_lessen 20 = .ok (.getfield 15, 3) := by decide +kernel
theorem dX0_lessen_23 : decode cX0_lessen 23 = .ok (.lload_n 1, 1) := by decide +kernel
theorem dX0_lessen_24 : decode cX0_lessen 24 = .ok (.ldiv, 1) := by decide +kernel
theorem dX0_lessen_25 : decode cX0_lessen 25 = .ok (.putfield 15, 3) := by decide +kernel
theorem dX0_lessen_28 : decode cX0_lessen 28 = .ok (.aload_n 0, 1) := by decide +kernel
theorem dX0_lessen_29 : decode cX0_lessen 29 = .ok (.aload_n 0, 1) := by decide +kernel
theorem dX0_lessen_30 : decode cX0_lessen 30 = .ok (.getfield 9, 3) := by decide +kernel
theorem dX0_lessen_33 : decode cX0_lessen 33 = .ok (.lload_n 1, 1) := by decide +kernel
theorem dX0_lessen_34 : decode cX0_lessen 34 = .ok (.ldiv, 1) := by decide +kernel
theorem dX0_lessen_35 : decode cX0_lessen 35 = .ok (.putfield 9, 3) := by decide +kernel
theorem dX0_lessen_38 : decode cX0_lessen 38 = .ok (.return_, 1) := by decide +kernel
theorem dX0_commonDivisor_0 : decode cX0_commonDivisor 0 = .ok (.lload_n 0, 1) := by decide +kernel
theorem dX0_commonDivisor_1 : decode cX0_commonDivisor 1 = .ok (.lstore 4, 2) := by decide +kernel
theorem dX0_commonDivisor_3 : decode cX0_commonDivisor 3 = .ok (.lload_n 2, 1) := by decide +kernel
theorem dX0_commonDivisor_4 : decode cX0_commonDivisor 4 = .ok (.lstore 6, 2) := by decide +kernel
theorem dX0_commonDivisor_6 : decode cX0_commonDivisor 6 = .ok (.iconst 0, 1) := by decide +kernel
theorem dX0_commonDivisor_7 : decode cX0_commonDivisor 7 = .ok (.istore 8, 2) := by decide +kernel
theorem dX0_commonDivisor_9 : decode cX0_commonDivisor 9 = .ok (.iload 8, 2) := by decide +kernel
theorem dX0_commonDivisor_11 : decode cX0_commonDivisor 11 = .ok (.bipush 100, 2) := by decide +kernel
theorem dX0_commonDivisor_13 : decode cX0_commonDivisor 13 = .ok (.if_icmp .ge 31, 3) := by decide +kernel
theorem dX0_commonDivisor_16 : decode cX0_commonDivisor 16 = .ok (.lload 6, 2) := by decide +kernel
theorem dX0_commonDivisor_18 : decode cX0_commonDivisor 18 = .ok (.lconst 0, 1) := by decide +kernel
theorem dX0_commonDivisor_19 : decode cX0_commonDivisor 19 = .ok (.lcmp, 1) := by decide +kernel
theorem dX0_commonDivisor_20 : decode cX0_commonDivisor 20 = .ok (.ifCond .eq 24, 3) := by decide +kernel
theorem dX0_commonDivisor_23 : decode cX0_commonDivisor 23 = .ok (.lload 4, 2) := by decide +kernel
theorem dX0_commonDivisor_25 : decode cX0_commonDivisor 25 = .ok (.lload 6, 2) := by decide +kernel
theorem dX0_commonDivisor_27 : decode cX0_commonDivisor 27 = .ok (.lrem, 1) := by decide +kernel
theorem dX0_commonDivisor_28 : decode cX0_commonDivisor 28 = .ok (.lstore 9, 2) := by decide +kernel
theorem dX0_commonDivisor_30 : decode cX0_commonDivisor 30 = .ok (.lload 6, 2) := by decide +kernel
theorem dX0_commonDivisor_32 : decode cX0_commonDivisor 32 = .ok (.lstore 4, 2) := by decide +kernel
theorem dX0_commonDivisor_34 : decode cX0_commonDivisor 34 = .ok (.lload 9, 2) := by decide +kernel
theorem dX0_commonDivisor_36 : decode cX0_commonDivisor 36 = .ok (.lstore 6, 2) := by decide +kernel
theorem dX0_commonDivisor_38 : decode cX0_commonDivisor 38 = .ok (.iinc 8 1, 3) := by decide +kernel
theorem dX0_commonDivisor_41 : decode cX0_commonDivisor 41 = .ok (.goto (-32), 3) := by decide +kernel
theorem dX0_commonDivisor_44 : decode cX0_commonDivisor 44 = .ok (.lload 4, 2) := by decide +kernel
theorem dX0_commonDivisor_46 : decode cX0_commonDivisor 46 = .ok (.lreturn, 1) := by decide +kernel
theorem dX0_tell_0 : decode cX0_tell 0 = .ok (.iload_n 1, 1) := by decide +kernel
theorem dX0_tell_1 : decode cX0_tell 1 = .ok (.ifCond .ne 10, 3) := by decide +kernel
theorem dX0_tell_4 : decode cX0_tell 4 = .ok (.aload_n 0, 1) := by decide +kernel
theorem dX0_tell_5 : decode cX0_tell 5 = .ok (.getfield 15, 3) := by decide +kernel
theorem dX0_tell_8 : decode cX0_tell 8 = .ok (.goto 7, 3) := by decide +kernel
theorem dX0_tell_11 : decode cX0_tell 11 = .ok (.aload_n 0, 1) := by decide +kernel
theorem dX0_tell_12 : decode cX0_tell 12 = .ok (.getfield 9, 3) := by decide +kernel
theorem dX0_tell_15 : decode cX0_tell 15 = .ok (.lreturn, 1) := by decide +kernel
theorem dX0_roundedDown_0 : decode cX0_roundedDown 0 = .ok (.aload_n 0, 1) := by decide +kernel
theorem dX0_roundedDown_1 : decode cX0_roundedDown 1 = .ok (.getfield 9, 3) := by decide +kernel
theorem dX0_roundedDown_4 : decode cX0_roundedDown 4 = .ok (.lconst 0, 1) := by decide +kernel
theorem dX0_roundedDown_5 : decode cX0_roundedDown 5 = .ok (.lcmp, 1) := by decide +kernel
theorem dX0_roundedDown_6 : decode cX0_roundedDown 6 = .ok (.ifCond .ne 7, 3) := by decide +kernel
theorem dX0_roundedDown_9 : decode cX0_roundedDown 9 = .ok (.lconst 0, 1) := by decide +kernel
theorem dX0_roundedDown_10 : decode cX0_roundedDown 10 = .ok (.goto 12, 3) := by decide +kernel
theorem dX0_roundedDown_13 : decode cX0_roundedDown 13 = .ok (.aload_n 0, 1) := by decide +kernel
theorem dX0_roundedDown_14 : decode cX0_roundedDown 14 = .ok (.getfield 15, 3) := by decide +kernel
theorem dX0_roundedDown_17 : decode cX0_roundedDown 17 = .ok (.aload_n 0, 1) := by decide +kernel
theorem dX0_roundedDown_18 : decode cX0_roundedDown 18 = .ok (.getfield 9, 3) := by decide +kernel
theorem dX0_roundedDown_21 : decode cX0_roundedDown 21 = .ok (.ldiv, 1) := by decide +kernel
theorem dX0_roundedDown_22 : decode cX0_roundedDown 22 = .ok (.lreturn, 1) := by decide +kernel
theorem dX0_circledDown_0 : decode cX0_circledDown 0 = .ok (.aload_n 0, 1) := by decide +kernel
theorem dX0_circledDown_1 : decode cX0_circledDown 1 = .ok (.ldc2_w 25, 3) := by decide +kernel
theorem dX0_circledDown_4 : decode cX0_circledDown 4 = .ok (.invokevirtual 27, 3) := by decide +kernel
theorem dX0_circledDown_7 : decode cX0_circledDown 7 = .ok (.ldc2_w 31, 3) := by decide +kernel
theorem dX0_circledDown_10 : decode cX0_circledDown 10 = .ok (.ldiv, 1) := by decide +kernel
theorem dX0_circledDown_11 : decode cX0_circledDown 11 = .ok (.lreturn, 1) := by decide +kernel
theorem dX0_circledUp_0 : decode cX0_circledUp 0 = .ok (.aload_n 0, 1) := by decide +kernel
theorem dX0_circledUp_1 : decode cX0_circledUp 1 = .ok (.ldc2_w 33, 3) := by decide +kernel
theorem dX0_circledUp_4 : decode cX0_circledUp 4 = .ok (.invokevirtual 35, 3) := by decide +kernel
theorem dX0_circledUp_7 : decode cX0_circledUp 7 = .ok (.ldc2_w 31, 3) := by decide +kernel
theorem dX0_circledUp_10 : decode cX0_circledUp 10 = .ok (.ladd, 1) := by decide +kernel
theorem dX0_circledUp_11 : decode cX0_circledUp 11 = .ok (.lconst 1, 1) := by decide +kernel
theorem dX0_circledUp_12 : decode cX0_circledUp 12 = .ok (.lsub, 1) := by decide +kernel
theorem dX0_circledUp_13 : decode cX0_circledUp 13 = .ok (.ldc2_w 31, 3) := by decide +kernel
theorem dX0_circledUp_16 : decode cX0_circledUp 16 = .ok (.ldiv, 1) := by decide +kernel
theorem dX0_circledUp_17 : decode cX0_circledUp 17 = .ok (.lreturn, 1) := by decide +kernel
theorem dX0_timesDown_0 : decode cX0_timesDown 0 = .ok (.aload_n 0, 1) := by decide +kernel
theorem dX0_timesDown_1 : decode cX0_timesDown 1 = .ok (.getfield 9, 3) := by decide +kernel
theorem dX0_timesDown_4 : decode cX0_timesDown 4 = .ok (.lconst 0, 1) := by decide +kernel
theorem dX0_timesDown_5 : decode cX0_timesDown 5 = .ok (.lcmp, 1) := by decide +kernel
theorem dX0_timesDown_6 : decode cX0_timesDown 6 = .ok (.ifCond .ne 5, 3) := by decide +kernel
theorem dX0_timesDown_9 : decode cX0_timesDown 9 = .ok (.lconst 0, 1) := by decide +kernel
theorem dX0_timesDown_10 : decode cX0_timesDown 10 = .ok (.lreturn, 1) := by decide +kernel
theorem dX0_timesDown_11 : decode cX0_timesDown 11 = .ok (.aload_n 0, 1) := by decide +kernel
theorem dX0_timesDown_12 : decode cX0_timesDown 12 = .ok (.getfield 15, 3) := by decide +kernel
theorem dX0_timesDown_15 : decode cX0_timesDown 15 = .ok (.aload_n 0, 1) := by decide +kernel
theorem dX0_timesDown_16 : decode cX0_timesDown 16 = .ok (.getfield 9, 3) := by decide +kernel
theorem dX0_timesDown_19 : decode cX0_timesDown 19 = .ok (.ldiv, 1) := by decide +kernel
theorem dX0_timesDown_20 : decode cX0_timesDown 20 = .ok (.lload_n 1, 1) := by decide +kernel
theorem dX0_timesDown_21 : decode cX0_timesDown 21 = .ok (.lmul, 1) := by decide +kernel
theorem dX0_timesDown_22 : decode cX0_timesDown 22 = .ok (.aload_n 0, 1) := by decide +kernel
theorem dX0_timesDown_23 : decode cX0_timesDown 23 = .ok (.getfield 15, 3) := by decide +kernel
theorem dX0_timesDown_26 : decode cX0_timesDown 26 = .ok (.aload_n 0, 1) := by decide +kernel
theorem dX0_timesDown_27 : decode cX0_timesDown 27 = .ok (.getfield 9, 3) := by decide +kernel
theorem dX0_timesDown_30 : decode cX0_timesDown 30 = .ok (.lrem, 1) := by decide +kernel
theorem dX0_timesDown_31 : decode cX0_timesDown 31 = .ok (.lload_n 1, 1) := by decide +kernel
theorem dX0_timesDown_32 : decode cX0_timesDown 32 = .ok (.lmul, 1) := by decide +kernel
theorem dX0_timesDown_33 : decode cX0_timesDown 33 = .ok (.aload_n 0, 1) := by decide +kernel
theorem dX0_timesDown_34 : decode cX0_timesDown 34 = .ok (.getfield 9, 3) := by decide +kernel
theorem dX0_timesDown_37 : decode cX0_timesDown 37 = .ok (.ldiv, 1) := by decide +kernel
theorem dX0_timesDown_38 : decode cX0_timesDown 38 = .ok (.ladd, 1) := by decide +kernel
theorem dX0_timesDown_39 : decode cX0_timesDown 39 = .ok (.lreturn, 1) := by decide +kernel
theorem dX0_timesUp_0 : decode cX0_timesUp 0 = .ok (.aload_n 0, 1) := by decide +kernel
theorem dX0_timesUp_1 : decode cX0_timesUp 1 = .ok (.getfield 9, 3) := by decide +kernel
theorem dX0_timesUp_4 : decode cX0_timesUp 4 = .ok (.lconst 0, 1) := by decide +kernel
theorem dX0_timesUp_5 : decode cX0_timesUp 5 = .ok (.lcmp, 1) := by decide +kernel
theorem dX0_timesUp_6 : decode cX0_timesUp 6 = .ok (.ifCond .ne 5, 3) := by decide +kernel
theorem dX0_timesUp_9 : decode cX0_timesUp 9 = .ok (.lconst 0, 1) := by decide +kernel
theorem dX0_timesUp_10 : decode cX0_timesUp 10 = .ok (.lreturn, 1) := by decide +kernel
theorem dX0_timesUp_11 : decode cX0_timesUp 11 = .ok (.aload_n 0, 1) := by decide +kernel
theorem dX0_timesUp_12 : decode cX0_timesUp 12 = .ok (.getfield 15, 3) := by decide +kernel
theorem dX0_timesUp_15 : decode cX0_timesUp 15 = .ok (.aload_n 0, 1) := by decide +kernel
theorem dX0_timesUp_16 : decode cX0_timesUp 16 = .ok (.getfield 9, 3) := by decide +kernel
theorem dX0_timesUp_19 : decode cX0_timesUp 19 = .ok (.ldiv, 1) := by decide +kernel
theorem dX0_timesUp_20 : decode cX0_timesUp 20 = .ok (.lload_n 1, 1) := by decide +kernel
theorem dX0_timesUp_21 : decode cX0_timesUp 21 = .ok (.lmul, 1) := by decide +kernel
theorem dX0_timesUp_22 : decode cX0_timesUp 22 = .ok (.aload_n 0, 1) := by decide +kernel
theorem dX0_timesUp_23 : decode cX0_timesUp 23 = .ok (.getfield 15, 3) := by decide +kernel
theorem dX0_timesUp_26 : decode cX0_timesUp 26 = .ok (.aload_n 0, 1) := by decide +kernel
theorem dX0_timesUp_27 : decode cX0_timesUp 27 = .ok (.getfield 9, 3) := by decide +kernel
theorem dX0_timesUp_30 : decode cX0_timesUp 30 = .ok (.lrem, 1) := by decide +kernel
theorem dX0_timesUp_31 : decode cX0_timesUp 31 = .ok (.lload_n 1, 1) := by decide +kernel
theorem dX0_timesUp_32 : decode cX0_timesUp 32 = .ok (.lmul, 1) := by decide +kernel
theorem dX0_timesUp_33 : decode cX0_timesUp 33 = .ok (.aload_n 0, 1) := by decide +kernel
theorem dX0_timesUp_34 : decode cX0_timesUp 34 = .ok (.getfield 9, 3) := by decide +kernel
theorem dX0_timesUp_37 : decode cX0_timesUp 37 = .ok (.ladd, 1) := by decide +kernel
theorem dX0_timesUp_38 : decode cX0_timesUp 38 = .ok (.lconst 1, 1) := by decide +kernel
theorem dX0_timesUp_39 : decode cX0_timesUp 39 = .ok (.lsub, 1) := by decide +kernel
theorem dX0_timesUp_40 : decode cX0_timesUp 40 = .ok (.aload_n 0, 1) := by decide +kernel
theorem dX0_timesUp_41 : decode cX0_timesUp 41 = .ok (.getfield 9, 3) := by decide +kernel
theorem dX0_timesUp_44 : decode cX0_timesUp 44 = .ok (.ldiv, 1) := by decide +kernel
theorem dX0_timesUp_45 : decode cX0_timesUp 45 = .ok (.ladd, 1) := by decide +kernel
theorem dX0_timesUp_46 : decode cX0_timesUp 46 = .ok (.lreturn, 1) := by decide +kernel
theorem dX1_init_0 : decode cX1_init 0 = .ok (.aload_n 0, 1) := by decide +kernel
theorem dX1_init_1 : decode cX1_init 1 = .ok (.invokespecial 3, 3) := by decide +kernel
theorem dX1_init_4 : decode cX1_init 4 = .ok (.aload_n 0, 1) := by decide +kernel
theorem dX1_init_5 : decode cX1_init 5 = .ok (.bipush 12, 2) := by decide +kernel
theorem dX1_init_7 : decode cX1_init 7 = .ok (.newarray .int, 2) := by decide +kernel
theorem dX1_init_9 : decode cX1_init 9 = .ok (.putfield 9, 3) := by decide +kernel
theorem dX1_init_12 : decode cX1_init 12 = .ok (.aload_n 0, 1) := by decide +kernel
theorem dX1_init_13 : decode cX1_init 13 = .ok (.bipush 12, 2) := by decide +kernel
theorem dX1_init_15 : decode cX1_init 15 = .ok (.newarray .int, 2) := by decide +kernel
theorem dX1_init_17 : decode cX1_init 17 = .ok (.putfield 15, 3) := by decide +kernel
theorem dX1_init_20 : decode cX1_init 20 = .ok (.return_, 1) := by decide +kernel
theorem dX1_isClosed_0 : decode cX1_isClosed 0 = .ok (.aload_n 0, 1) := by decide +kernel
theorem dX1_isClosed_1 : decode cX1_isClosed 1 = .ok (.getfield 18, 3) := by decide +kernel
theorem dX1_isClosed_4 : decode cX1_isClosed 4 = .ok (.ifCond .ne 12, 3) := by decide +kernel
theorem dX1_isClosed_7 : decode cX1_isClosed 7 = .ok (.aload_n 0, 1) := by decide +kernel
theorem dX1_isClosed_8 : decode cX1_isClosed 8 = .ok (.getfield 22, 3) := by decide +kernel
theorem dX1_isClosed_11 : decode cX1_isClosed 11 = .ok (.bipush 12, 2) := by decide +kernel
theorem dX1_isClosed_13 : decode cX1_isClosed 13 = .ok (.if_icmp .lt 7, 3) := by decide +kernel
theorem dX1_isClosed_16 : decode cX1_isClosed 16 = .ok (.iconst 1, 1) := by decide +kernel
theorem dX1_isClosed_17 : decode cX1_isClosed 17 = .ok (.goto 4, 3) := by decide +kernel
theorem dX1_isClosed_20 : decode cX1_isClosed 20 = .ok (.iconst 0, 1) := by decide +kernel
theorem dX1_isClosed_21 : decode cX1_isClosed 21 = .ok (.ireturn, 1) := by decide +kernel
theorem dX1_addCorner_0 : decode cX1_addCorner 0 = .ok (.aload_n 0, 1) := by decide +kernel
theorem dX1_addCorner_1 : decode cX1_addCorner 1 = .ok (.invokevirtual 26, 3) := by decide +kernel
theorem dX1_addCorner_4 : decode cX1_addCorner 4 = .ok (.ifCond .ne 12, 3) := by decide +kernel
theorem dX1_addCorner_7 : decode cX1_addCorner 7 = .ok (.aload_n 0, 1) := by decide +kernel
theorem dX1_addCorner_8 : decode cX1_addCorner 8 = .ok (.iload_n 1, 1) := by decide +kernel
theorem dX1_addCorner_9 : decode cX1_addCorner 9 = .ok (.iload_n 2, 1) := by decide +kernel
theorem dX1_addCorner_10 : decode cX1_addCorner 10 = .ok (.invokevirtual 30, 3) := by decide +kernel
theorem dX1_addCorner_13 : decode cX1_addCorner 13 = .ok (.ifCond .ne 5, 3) := by decide +kernel
theorem dX1_addCorner_16 : decode cX1_addCorner 16 = .ok (.iconst 0, 1) := by decide +kernel
theorem dX1_addCorner_17 : decode cX1_addCorner 17 = .ok (.ireturn, 1) := by decide +kernel
theorem dX1_addCorner_18 : decode cX1_addCorner 18 = .ok (.aload_n 0, 1) := by decide +kernel
theorem dX1_addCorner_19 : decode cX1_addCorner 19 = .ok (.getfield 9, 3) := by decide +kernel
theorem dX1_addCorner_22 : decode cX1_addCorner 22 = .ok (.aload_n 0, 1) := by decide +kernel
theorem dX1_addCorner_23 : decode cX1_addCorner 23 = .ok (.getfield 22, 3) := by decide +kernel
theorem dX1_addCorner_26 : decode cX1_addCorner 26 = .ok (.iload_n 1, 1) := by decide +kernel
theorem dX1_addCorner_27 : decode cX1_addCorner 27 = .ok (.iastore, 1) := by decide +kernel
theorem dX1_addCorner_28 : decode cX1_addCorner 28 = .ok (.aload_n 0, 1) := by decide +kernel
theorem dX1_addCorner_29 : decode cX1_addCorner 29 = .ok (.getfield 15, 3) := by decide +kernel
theorem dX1_addCorner_32 : decode cX1_addCorner 32 = .ok (.aload_n 0, 1) := by decide +kernel
theorem dX1_addCorner_33 : decode cX1_addCorner 33 = .ok (.getfield 22, 3) := by decide +kernel
theorem dX1_addCorner_36 : decode cX1_addCorner 36 = .ok (.iload_n 2, 1) := by decide +kernel
theorem dX1_addCorner_37 : decode cX1_addCorner 37 = .ok (.iastore, 1) := by decide +kernel
theorem dX1_addCorner_38 : decode cX1_addCorner 38 = .ok (.aload_n 0, 1) := by decide +kernel
theorem dX1_addCorner_39 : decode cX1_addCorner 39 = .ok (.dup, 1) := by decide +kernel
theorem dX1_addCorner_40 : decode cX1_addCorner 40 = .ok (.getfield 22, 3) := by decide +kernel
theorem dX1_addCorner_43 : decode cX1_addCorner 43 = .ok (.iconst 1, 1) := by decide +kernel
theorem dX1_addCorner_44 : decode cX1_addCorner 44 = .ok (.iadd, 1) := by decide +kernel
theorem dX1_addCorner_45 : decode cX1_addCorner 45 = .ok (.putfield 22, 3) := by decide +kernel
theorem dX1_addCorner_48 : decode cX1_addCorner 48 = .ok (.iconst 1, 1) := by decide +kernel
theorem dX1_addCorner_49 : decode cX1_addCorner 49 = .ok (.ireturn, 1) := by decide +kernel
theorem dX1_canFollow_0 : decode cX1_canFollow 0 = .ok (.aload_n 0, 1) := by decide +kernel
theorem dX1_canFollow_1 : decode cX1_canFollow 1 = .ok (.getfield 22, 3) := by decide +kernel
theorem dX1_canFollow_4 : decode cX1_canFollow 4 = .ok (.ifCond .ne 5, 3) := by decide +kernel
theorem dX1_canFollow_7 : decode cX1_canFollow 7 = .ok (.iconst 1, 1) := by decide +kernel
theorem dX1_canFollow_8 : decode cX1_canFollow 8 = .ok (.ireturn, 1) := by decide +kernel
theorem dX1_canFollow_9 : decode cX1_canFollow 9 = .ok (.aload_n 0, 1) := by decide +kernel
theorem dX1_canFollow_10 : decode cX1_canFollow 10 = .ok (.getfield 22, 3) := by decide +kernel
theorem dX1_canFollow_13 : decode cX1_canFollow 13 = .ok (.iconst 1, 1) := by decide +kernel
theorem dX1_canFollow_14 : decode cX1_canFollow 14 = .ok (.isub, 1) := by decide +kernel
theorem dX1_canFollow_15 : decode cX1_canFollow 15 = .ok (.istore_n 3, 1) := by decide +kernel
theorem dX1_canFollow_16 : decode cX1_canFollow 16 = .ok (.iload_n 1, 1) := by decide +kernel
theorem dX1_canFollow_17 : decode cX1_canFollow 17 = .ok (.aload_n 0, 1) := by decide +kernel
theorem dX1_canFollow_18 : decode cX1_canFollow 18 = .ok (.getfield 9, 3) := by decide +kernel
theorem dX1_canFollow_21 : decode cX1_canFollow 21 = .ok (.iload_n 3, 1) := by decide +kernel
theorem dX1_canFollow_22 : decode cX1_canFollow 22 = .ok (.iaload, 1) := by decide +kernel
theorem dX1_canFollow_23 : decode cX1_canFollow 23 = .ok (.if_icmp .eq 19, 3) := by decide +kernel
theorem dX1_canFollow_26 : decode cX1_canFollow 26 = .ok (.iload_n 1, 1) := by decide +kernel
theorem dX1_canFollow_27 : decode cX1_canFollow 27 = .ok (.aload_n 0, 1) := by decide +kernel
theorem dX1_canFollow_28 : decode cX1_canFollow 28 = .ok (.getfield 9, 3) := by decide +kernel
theorem dX1_canFollow_31 : decode cX1_canFollow 31 = .ok (.iload_n 3, 1) := by decide +kernel
theorem dX1_canFollow_32 : decode cX1_canFollow 32 = .ok (.iaload, 1) := by decide +kernel
theorem dX1_canFollow_33 : decode cX1_canFollow 33 = .ok (.if_icmp .le 7, 3) := by decide +kernel
theorem dX1_canFollow_36 : decode cX1_canFollow 36 = .ok (.iconst 1, 1) := by decide +kernel
theorem dX1_canFollow_37 : decode cX1_canFollow 37 = .ok (.goto 4, 3) := by decide +kernel
theorem dX1_canFollow_40 : decode cX1_canFollow 40 = .ok (.iconst 0, 1) := by decide +kernel
theorem dX1_canFollow_41 : decode cX1_canFollow 41 = .ok (.ireturn, 1) := by decide +kernel
theorem dX1_canFollow_42 : decode cX1_canFollow 42 = .ok (.iload_n 3, 1) := by decide +kernel
theorem dX1_canFollow_43 : decode cX1_canFollow 43 = .ok (.ifCond .le 19, 3) := by decide +kernel
theorem dX1_canFollow_46 : decode cX1_canFollow 46 = .ok (.aload_n 0, 1) := by decide +kernel
theorem dX1_canFollow_47 : decode cX1_canFollow 47 = .ok (.getfield 9, 3) := by decide +kernel
theorem dX1_canFollow_50 : decode cX1_canFollow 50 = .ok (.iload_n 3, 1) := by decide +kernel
theorem dX1_canFollow_51 : decode cX1_canFollow 51 = .ok (.iconst 1, 1) := by decide +kernel
theorem dX1_canFollow_52 : decode cX1_canFollow 52 = .ok (.isub, 1) := by decide +kernel
theorem dX1_canFollow_53 : decode cX1_canFollow 53 = .ok (.iaload, 1) := by decide +kernel
theorem dX1_canFollow_54 : decode cX1_canFollow 54 = .ok (.iload_n 1, 1) := by decide +kernel
theorem dX1_canFollow_55 : decode cX1_canFollow 55 = .ok (.if_icmp .ne 7, 3) := by decide +kernel
theorem dX1_canFollow_58 : decode cX1_canFollow 58 = .ok (.iconst 1, 1) := by decide +kernel
theorem dX1_canFollow_59 : decode cX1_canFollow 59 = .ok (.goto 4, 3) := by decide +kernel
theorem dX1_canFollow_62 : decode cX1_canFollow 62 = .ok (.iconst 0, 1) := by decide +kernel
theorem dX1_canFollow_63 : decode cX1_canFollow 63 = .ok (.istore 4, 2) := by decide +kernel
theorem dX1_canFollow_65 : decode cX1_canFollow 65 = .ok (.iload 4, 2) := by decide +kernel
theorem dX1_canFollow_67 : decode cX1_canFollow 67 = .ok (.ifCond .ne 17, 3) := by decide +kernel
theorem dX1_canFollow_70 : decode cX1_canFollow 70 = .ok (.iload_n 2, 1) := by decide +kernel
theorem dX1_canFollow_71 : decode cX1_canFollow 71 = .ok (.aload_n 0, 1) := by decide +kernel
theorem dX1_canFollow_72 : decode cX1_canFollow 72 = .ok (.getfield 15, 3) := by decide +kernel
theorem dX1_canFollow_75 : decode cX1_canFollow 75 = .ok (.iload_n 3, 1) := by decide +kernel
theorem dX1_canFollow_76 : decode cX1_canFollow 76 = .ok (.iaload, 1) := by decide +kernel
theorem dX1_canFollow_77 : decode cX1_canFollow 77 = .ok (.if_icmp .eq 7, 3) := by decide +kernel
theorem dX1_canFollow_80 : decode cX1_canFollow 80 = .ok (.iconst 1, 1) := by decide +kernel
theorem dX1_canFollow_81 : decode cX1_canFollow 81 = .ok (.goto 4, 3) := by decide +kernel
theorem dX1_canFollow_84 : decode cX1_canFollow 84 = .ok (.iconst 0, 1) := by decide +kernel
theorem dX1_canFollow_85 : decode cX1_canFollow 85 = .ok (.ireturn, 1) := by decide +kernel
theorem dX1_radiusAt_0 : decode cX1_radiusAt 0 = .ok (.iconst (-1), 1) := by decide +kernel
theorem dX1_radiusAt_1 : decode cX1_radiusAt 1 = .ok (.istore_n 2, 1) := by decide +kernel
theorem dX1_radiusAt_2 : decode cX1_radiusAt 2 = .ok (.iconst 0, 1) := by decide +kernel
theorem dX1_radiusAt_3 : decode cX1_radiusAt 3 = .ok (.istore_n 3, 1) := by decide +kernel
theorem dX1_radiusAt_4 : decode cX1_radiusAt 4 = .ok (.iload_n 3, 1) := by decide +kernel
theorem dX1_radiusAt_5 : decode cX1_radiusAt 5 = .ok (.aload_n 0, 1) := by decide +kernel
theorem dX1_radiusAt_6 : decode cX1_radiusAt 6 = .ok (.getfield 22, 3) := by decide +kernel
theorem dX1_radiusAt_9 : decode cX1_radiusAt 9 = .ok (.if_icmp .ge 87, 3) := by decide +kernel
theorem dX1_radiusAt_12 : decode cX1_radiusAt 12 = .ok (.aload_n 0, 1) := by decide +kernel
theorem dX1_radiusAt_13 : decode cX1_radiusAt 13 = .ok (.getfield 9, 3) := by decide +kernel
theorem dX1_radiusAt_16 : decode cX1_radiusAt 16 = .ok (.iload_n 3, 1) := by decide +kernel
theorem dX1_radiusAt_17 : decode cX1_radiusAt 17 = .ok (.iaload, 1) := by decide +kernel
theorem dX1_radiusAt_18 : decode cX1_radiusAt 18 = .ok (.iload_n 1, 1) := by decide +kernel
theorem dX1_radiusAt_19 : decode cX1_radiusAt 19 = .ok (.if_icmp .ne 17, 3) := by decide +kernel
theorem dX1_radiusAt_22 : decode cX1_radiusAt 22 = .ok (.iload_n 2, 1) := by decide +kernel
theorem dX1_radiusAt_23 : decode cX1_radiusAt 23 = .ok (.aload_n 0, 1) := by decide +kernel
theorem dX1_radiusAt_24 : decode cX1_radiusAt 24 = .ok (.getfield 15, 3) := by decide +kernel
theorem dX1_radiusAt_27 : decode cX1_radiusAt 27 = .ok (.iload_n 3, 1) := by decide +kernel
theorem dX1_radiusAt_28 : decode cX1_radiusAt 28 = .ok (.iaload, 1) := by decide +kernel
theorem dX1_radiusAt_29 : decode cX1_radiusAt 29 = .ok (.invokestatic 34, 3) := by decide +kernel
theorem dX1_radiusAt_32 : decode cX1_radiusAt 32 = .ok (.istore_n 2, 1) := by decide +kernel
theorem dX1_radiusAt_33 : decode cX1_radiusAt 33 = .ok (.goto 57, 3) := by decide +kernel
theorem dX1_radiusAt_36 : decode cX1_radiusAt 36 = .ok (.iload_n 3, 1) := by decide +kernel
theorem dX1_radiusAt_37 : decode cX1_radiusAt 37 = .ok (.ifCond .le 53, 3) := by decide +kernel
theorem dX1_radiusAt_40 : decode cX1_radiusAt 40 = .ok (.aload_n 0, 1) := by decide +kernel
theorem dX1_radiusAt_41 : decode cX1_radiusAt 41 = .ok (.getfield 9, 3) := by decide +kernel
theorem dX1_radiusAt_44 : decode cX1_radiusAt 44 = .ok (.iload_n 3, 1) := by decide +kernel
theorem dX1_radiusAt_45 : decode cX1_radiusAt 45 = .ok (.iconst 1, 1) := by decide +kernel
theorem dX1_radiusAt_46 : decode cX1_radiusAt 46 = .ok (.isub, 1) := by decide +kernel
theorem dX1_radiusAt_47 : decode cX1_radiusAt 47 = .ok (.iaload, 1) := by decide +kernel
theorem dX1_radiusAt_48 : decode cX1_radiusAt 48 = .ok (.iload_n 1, 1) := by decide +kernel
theorem dX1_radiusAt_49 : decode cX1_radiusAt 49 = .ok (.if_icmp .ge 41, 3) := by decide +kernel
theorem dX1_radiusAt_52 : decode cX1_radiusAt 52 = .ok (.iload_n 1, 1) := by decide +kernel
theorem dX1_radiusAt_53 : decode cX1_radiusAt 53 = .ok (.aload_n 0, 1) := by decide +kernel
theorem dX1_radiusAt_54 : decode cX1_radiusAt 54 = .ok (.getfield 9, 3) := by decide +kernel
theorem dX1_radiusAt_57 : decode cX1_radiusAt 57 = .ok (.iload_n 3, 1) := by decide +kernel
theorem dX1_radiusAt_58 : decode cX1_radiusAt 58 = .ok (.iaload, 1) := by decide +kernel
theorem dX1_radiusAt_59 : decode cX1_radiusAt 59 = .ok (.if_icmp .ge 31, 3) := by decide +kernel
theorem dX1_radiusAt_62 : decode cX1_radiusAt 62 = .ok (.aload_n 0, 1) := by decide +kernel
theorem dX1_radiusAt_63 : decode cX1_radiusAt 63 = .ok (.getfield 9, 3) := by decide +kernel
theorem dX1_radiusAt_66 : decode cX1_radiusAt 66 = .ok (.iload_n 3, 1) := by decide +kernel
theorem dX1_radiusAt_67 : decode cX1_radiusAt 67 = .ok (.iaload, 1) := by decide +kernel
theorem dX1_radiusAt_68 : decode cX1_radiusAt 68 = .ok (.aload_n 0, 1) := by decide +kernel
theorem dX1_radiusAt_69 : decode cX1_radiusAt 69 = .ok (.getfield 9, 3) := by decide +kernel
theorem dX1_radiusAt_72 : decode cX1_radiusAt 72 = .ok (.iload_n 3, 1) := by decide +kernel
theorem dX1_radiusAt_73 : decode cX1_radiusAt 73 = .ok (.iconst 1, 1) := by decide +kernel
theorem dX1_radiusAt_74 : decode cX1_radiusAt 74 = .ok (.isub, 1) := by decide +kernel
theorem dX1_radiusAt_75 : decode cX1_radiusAt 75 = .ok (.iaload, 1) := by decide +kernel
theorem dX1_radiusAt_76 : decode cX1_radiusAt 76 = .ok (.isub, 1) := by decide +kernel
theorem dX1_radiusAt_77 : decode cX1_radiusAt 77 = .ok (.istore 4, 2) := by decide +kernel
theorem dX1_radiusAt_79 : decode cX1_radiusAt 79 = .ok (.aload_n 0, 1) := by decide +kernel
theorem dX1_radiusAt_80 : decode cX1_radiusAt 80 = .ok (.iload_n 3, 1) := by decide +kernel
theorem dX1_radiusAt_81 : decode cX1_radiusAt 81 = .ok (.iconst 0, 1) := by decide +kernel
theorem dX1_radiusAt_82 : decode cX1_radiusAt 82 = .ok (.iload_n 1, 1) := by decide +kernel
theorem dX1_radiusAt_83 : decode cX1_radiusAt 83 = .ok (.invokevirtual 40, 3) := by decide +kernel
theorem dX1_radiusAt_86 : decode cX1_radiusAt 86 = .ok (.iload 4, 2) := by decide +kernel
theorem dX1_radiusAt_88 : decode cX1_radiusAt 88 = .ok (.idiv, 1) := by decide +kernel
theorem dX1_radiusAt_89 : decode cX1_radiusAt 89 = .ok (.ireturn, 1) := by decide +kernel
theorem dX1_radiusAt_90 : decode cX1_radiusAt 90 = .ok (.iinc 3 1, 3) := by decide +kernel
theorem dX1_radiusAt_93 : decode cX1_radiusAt 93 = .ok (.goto (-89), 3) := by decide +kernel
theorem dX1_radiusAt_96 : decode cX1_radiusAt 96 = .ok (.iload_n 2, 1) := by decide +kernel
theorem dX1_radiusAt_97 : decode cX1_radiusAt 97 = .ok (.ireturn, 1) := by decide +kernel
theorem dX1_radiusOrZero_0 : decode cX1_radiusOrZero 0 = .ok (.iconst 0, 1) := by decide +kernel
theorem dX1_radiusOrZero_1 : decode cX1_radiusOrZero 1 = .ok (.aload_n 0, 1) := by decide +kernel
theorem dX1_radiusOrZero_2 : decode cX1_radiusOrZero 2 = .ok (.iload_n 1, 1) := by decide +kernel
theorem dX1_radiusOrZero_3 : decode cX1_radiusOrZero 3 = .ok (.invokevirtual 44, 3) := by decide +kernel
theorem dX1_radiusOrZero_6 : decode cX1_radiusOrZero 6 = .ok (.invokestatic 34, 3) := by decide +kernel
theorem dX1_radiusOrZero_9 : decode cX1_radiusOrZero 9 = .ok (.ireturn, 1) := by decide +kernel
theorem dX1_scaledRadius_0 : decode cX1_scaledRadius 0 = .ok (.iconst 0, 1) := by decide +kernel
theorem dX1_scaledRadius_1 : decode cX1_scaledRadius 1 = .ok (.aload_n 0, 1) := by decide +kernel
theorem dX1_scaledRadius_2 : decode cX1_scaledRadius 2 = .ok (.getfield 15, 3) := by decide +kernel
theorem dX1_scaledRadius_5 : decode cX1_scaledRadius 5 = .ok (.iload_n 1, 1) := by decide +kernel
theorem dX1_scaledRadius_6 : decode cX1_scaledRadius 6 = .ok (.iconst 1, 1) := by decide +kernel
theorem dX1_scaledRadius_7 : decode cX1_scaledRadius 7 = .ok (.isub, 1) := by decide +kernel
theorem dX1_scaledRadius_8 : decode cX1_scaledRadius 8 = .ok (.iaload, 1) := by decide +kernel
theorem dX1_scaledRadius_9 : decode cX1_scaledRadius 9 = .ok (.iload_n 2, 1) := by decide +kernel
theorem dX1_scaledRadius_10 : decode cX1_scaledRadius 10 = .ok (.isub, 1) := by decide +kernel
theorem dX1_scaledRadius_11 : decode cX1_scaledRadius 11 = .ok (.invokestatic 34, 3) := by decide +kernel
theorem dX1_scaledRadius_14 : decode cX1_scaledRadius 14 = .ok (.istore 4, 2) := by decide +kernel
theorem dX1_scaledRadius_16 : decode cX1_scaledRadius 16 = .ok (.iconst 0, 1) := by decide +kernel
theorem dX1_scaledRadius_17 : decode cX1_scaledRadius 17 = .ok (.aload_n 0, 1) := by decide +kernel
theorem dX1_scaledRadius_18 : decode cX1_scaledRadius 18 = .ok (.getfield 15, 3) := by decide +kernel
theorem dX1_scaledRadius_21 : decode cX1_scaledRadius 21 = .ok (.iload_n 1, 1) := by decide +kernel
theorem dX1_scaledRadius_22 : decode cX1_scaledRadius 22 = .ok (.iaload, 1) := by decide +kernel
theorem dX1_scaledRadius_23 : decode cX1_scaledRadius 23 = .ok (.iload_n 2, 1) := by decide +kernel
theorem dX1_scaledRadius_24 : decode cX1_scaledRadius 24 = .ok (.isub, 1) := by decide +kernel
theorem dX1_scaledRadius_25 : decode cX1_scaledRadius 25 = .ok (.invokestatic 34, 3) := by decide +kernel
theorem dX1_scaledRadius_28 : decode cX1_scaledRadius 28 = .ok (.istore 5, 2) := by decide +kernel
theorem dX1_scaledRadius_30 : decode cX1_scaledRadius 30 = .ok (.iload 4, 2) := by decide +kernel
theorem dX1_scaledRadius_32 : decode cX1_scaledRadius 32 = .ok (.aload_n 0, 1) := by decide +kernel
theorem dX1_scaledRadius_33 : decode cX1_scaledRadius 33 = .ok (.getfield 9, 3) := by decide +kernel
theorem dX1_scaledRadius_36 : decode cX1_scaledRadius 36 = .ok (.iload_n 1, 1) := by decide +kernel
theorem dX1_scaledRadius_37 : decode cX1_scaledRadius 37 = .ok (.iaload, 1) := by decide +kernel
theorem dX1_scaledRadius_38 : decode cX1_scaledRadius 38 = .ok (.iload_n 3, 1) := by decide +kernel
theorem dX1_scaledRadius_39 : decode cX1_scaledRadius 39 = .ok (.isub, 1) := by decide +kernel
theorem dX1_scaledRadius_40 : decode cX1_scaledRadius 40 = .ok (.imul, 1) := by decide +kernel
theorem dX1_scaledRadius_41 : decode cX1_scaledRadius 41 = .ok (.iload 5, 2) := by decide +kernel
theorem dX1_scaledRadius_43 : decode cX1_scaledRadius 43 = .ok (.iload_n 3, 1) := by decide +kernel
theorem dX1_scaledRadius_44 : decode cX1_scaledRadius 44 = .ok (.aload_n 0, 1) := by decide +kernel
theorem dX1_scaledRadius_45 : decode cX1_scaledRadius 45 = .ok (.getfield 9, 3) := by decide +kernel
theorem dX1_scaledRadius_48 : decode cX1_scaledRadius 48 = .ok (.iload_n 1, 1) := by decide +kernel
theorem dX1_scaledRadius_49 : decode cX1_scaledRadius 49 = .ok (.iconst 1, 1) := by decide +kernel
theorem dX1_scaledRadius_50 : decode cX1_scaledRadius 50 = .ok (.isub, 1) := by decide +kernel
theorem dX1_scaledRadius_51 : decode cX1_scaledRadius 51 = .ok (.iaload, 1) := by decide +kernel
theorem dX1_scaledRadius_52 : decode cX1_scaledRadius 52 = .ok (.isub, 1) := by decide +kernel
theorem dX1_scaledRadius_53 : decode cX1_scaledRadius 53 = .ok (.imul, 1) := by decide +kernel
theorem dX1_scaledRadius_54 : decode cX1_scaledRadius 54 = .ok (.iadd, 1) := by decide +kernel
theorem dX1_scaledRadius_55 : decode cX1_scaledRadius 55 = .ok (.ireturn, 1) := by decide +kernel
theorem dX1_measure_0 : decode cX1_measure 0 = .ok (.aload_n 1, 1) := by decide +kernel
theorem dX1_measure_1 : decode cX1_measure 1 = .ok (.invokevirtual 48, 3) := by decide +kernel
theorem dX1_measure_4 : decode cX1_measure 4 = .ok (.aload_n 0, 1) := by decide +kernel
theorem dX1_measure_5 : decode cX1_measure 5 = .ok (.aload_n 1, 1) := by decide +kernel
theorem dX1_measure_6 : decode cX1_measure 6 = .ok (.iconst 0, 1) := by decide +kernel
theorem dX1_measure_7 : decode cX1_measure 7 = .ok (.iconst 0, 1) := by decide +kernel
theorem dX1_measure_8 : decode cX1_measure 8 = .ok (.iload_n 2, 1) := by decide +kernel
theorem dX1_measure_9 : decode cX1_measure 9 = .ok (.invokevirtual 53, 3) := by decide +kernel
theorem dX1_measure_12 : decode cX1_measure 12 = .ok (.return_, 1) := by decide +kernel
theorem dX1_measureHeld_0 : decode cX1_measureHeld 0 = .ok (.aload_n 1, 1) := by decide +kernel
theorem dX1_measureHeld_1 : decode cX1_measureHeld 1 = .ok (.invokevirtual 48, 3) := by decide +kernel
theorem dX1_measureHeld_4 : decode cX1_measureHeld 4 = .ok (.aload_n 0, 1) := by decide +kernel
theorem dX1_measureHeld_5 : decode cX1_measureHeld 5 = .ok (.getfield 22, 3) := by decide +kernel
theorem dX1_measureHeld_8 : decode cX1_measureHeld 8 = .ok (.ifCond .le 24, 3) := by decide +kernel
theorem dX1_measureHeld_11 : decode cX1_measureHeld 11 = .ok (.aload_n 0, 1) := by decide +kernel
theorem dX1_measureHeld_12 : decode cX1_measureHeld 12 = .ok (.aload_n 1, 1) := by decide +kernel
theorem dX1_measureHeld_13 : decode cX1_measureHeld 13 = .ok (.aload_n 0, 1) := by decide +kernel
theorem dX1_measureHeld_14 : decode cX1_measureHeld 14 = .ok (.getfield 57, 3) := by decide +kernel
theorem dX1_measureHeld_17 : decode cX1_measureHeld 17 = .ok (.aload_n 0, 1) := by decide +kernel
theorem dX1_measureHeld_18 : decode cX1_measureHeld 18 = .ok (.getfield 9, 3) := by decide +kernel
theorem dX1_measureHeld_21 : decode cX1_measureHeld 21 = .ok (.iconst 0, 1) := by decide +kernel
theorem dX1_measureHeld_22 : decode cX1_measureHeld 22 = .ok (.iaload, 1) := by decide +kernel
theorem dX1_measureHeld_23 : decode cX1_measureHeld 23 = .ok (.aload_n 0, 1) := by decide +kernel
theorem dX1_measureHeld_24 : decode cX1_measureHeld 24 = .ok (.getfield 57, 3) := by decide +kernel
theorem dX1_measureHeld_27 : decode cX1_measureHeld 27 = .ok (.iadd, 1) := by decide +kernel
theorem dX1_measureHeld_28 : decode cX1_measureHeld 28 = .ok (.iload_n 2, 1) := by decide +kernel
theorem dX1_measureHeld_29 : decode cX1_measureHeld 29 = .ok (.invokevirtual 53, 3) := by decide +kernel
theorem dX1_measureHeld_32 : decode cX1_measureHeld 32 = .ok (.return_, 1) := by decide +kernel
theorem dX1_addPieces_0 : decode cX1_addPieces 0 = .ok (.iconst 1, 1) := by decide +kernel
theorem dX1_addPieces_1 : decode cX1_addPieces 1 = .ok (.istore 5, 2) := by decide +kernel
theorem dX1_addPieces_3 : decode cX1_addPieces 3 = .ok (.iload 5, 2) := by decide +kernel
theorem dX1_addPieces_5 : decode cX1_addPieces 5 = .ok (.aload_n 0, 1) := by decide +kernel
theorem dX1_addPieces_6 : decode cX1_addPieces 6 = .ok (.getfield 22, 3) := by decide +kernel
theorem dX1_addPieces_9 : decode cX1_addPieces 9 = .ok (.if_icmp .ge 57, 3) := by decide +kernel
theorem dX1_addPieces_12 : decode cX1_addPieces 12 = .ok (.iload_n 3, 1) := by decide +kernel
theorem dX1_addPieces_13 : decode cX1_addPieces 13 = .ok (.aload_n 0, 1) := by decide +kernel
theorem dX1_addPieces_14 : decode cX1_addPieces 14 = .ok (.getfield 9, 3) := by decide +kernel
theorem dX1_addPieces_17 : decode cX1_addPieces 17 = .ok (.iload 5, 2) := by decide +kernel
theorem dX1_addPieces_19 : decode cX1_addPieces 19 = .ok (.iconst 1, 1) := by decide +kernel
theorem dX1_addPieces_20 : decode cX1_addPieces 20 = .ok (.isub, 1) := by decide +kernel
theorem dX1_addPieces_21 : decode cX1_addPieces 21 = .ok (.iaload, 1) := by decide +kernel
theorem dX1_addPieces_22 : decode cX1_addPieces 22 = .ok (.invokestatic 34, 3) := by decide +kernel
theorem dX1_addPieces_25 : decode cX1_addPieces 25 = .ok (.istore 6, 2) := by decide +kernel
theorem dX1_addPieces_27 : decode cX1_addPieces 27 = .ok (.iload 4, 2) := by decide +kernel
theorem dX1_addPieces_29 : decode cX1_addPieces 29 = .ok (.aload_n 0, 1) := by decide +kernel
theorem dX1_addPieces_30 : decode cX1_addPieces 30 = .ok (.getfield 9, 3) := by decide +kernel
theorem dX1_addPieces_33 : decode cX1_addPieces 33 = .ok (.iload 5, 2) := by decide +kernel
theorem dX1_addPieces_35 : decode cX1_addPieces 35 = .ok (.iaload, 1) := by decide +kernel
theorem dX1_addPieces_36 : decode cX1_addPieces 36 = .ok (.invokestatic 60, 3) := by decide +kernel
theorem dX1_addPieces_39 : decode cX1_addPieces 39 = .ok (.istore 7, 2) := by decide +kernel
theorem dX1_addPieces_41 : decode cX1_addPieces 41 = .ok (.iload 6, 2) := by decide +kernel
theorem dX1_addPieces_43 : decode cX1_addPieces 43 = .ok (.iload 7, 2) := by decide +kernel
theorem dX1_addPieces_45 : decode cX1_addPieces 45 = .ok (.if_icmp .ge 15, 3) := by decide +kernel
theorem dX1_addPieces_48 : decode cX1_addPieces 48 = .ok (.aload_n 0, 1) := by decide +kernel
theorem dX1_addPieces_49 : decode cX1_addPieces 49 = .ok (.aload_n 1, 1) := by decide +kernel
theorem dX1_addPieces_50 : decode cX1_addPieces 50 = .ok (.iload 5, 2) := by decide +kernel
theorem dX1_addPieces_52 : decode cX1_addPieces 52 = .ok (.iload_n 2, 1) := by decide +kernel
theorem dX1_addPieces_53 : decode cX1_addPieces 53 = .ok (.iload 6, 2) := by decide +kernel
theorem dX1_addPieces_55 : decode cX1_addPieces 55 = .ok (.iload 7, 2) := by decide +kernel
theorem dX1_addPieces_57 : decode cX1_addPieces 57 = .ok (.invokevirtual 63, 3) := by decide +kernel
theorem dX1_addPieces_60 : decode cX1_addPieces 60 = .ok (.iinc 5 1, 3) := by decide +kernel
theorem dX1_addPieces_63 : decode cX1_addPieces 63 = .ok (.goto (-60), 3) := by decide +kernel
theorem dX1_addPieces_66 : decode cX1_addPieces 66 = .ok (.return_, 1) := by decide +kernel
theorem dX1_addPiece_0 : decode cX1_addPiece 0 = .ok (.aload_n 0, 1) := by decide +kernel
theorem dX1_addPiece_1 : decode cX1_addPiece 1 = .ok (.getfield 9, 3) := by decide +kernel
theorem dX1_addPiece_4 : decode cX1_addPiece 4 = .ok (.iload_n 2, 1) := by decide +kernel
theorem dX1_addPiece_5 : decode cX1_addPiece 5 = .ok (.iaload, 1) := by decide +kernel
theorem dX1_addPiece_6 : decode cX1_addPiece 6 = .ok (.aload_n 0, 1) := by decide +kernel
theorem dX1_addPiece_7 : decode cX1_addPiece 7 = .ok (.getfield 9, 3) := by decide +kernel
theorem dX1_addPiece_10 : decode cX1_addPiece 10 = .ok (.iload_n 2, 1) := by decide +kernel
theorem dX1_addPiece_11 : decode cX1_addPiece 11 = .ok (.iconst 1, 1) := by decide +kernel
theorem dX1_addPiece_12 : decode cX1_addPiece 12 = .ok (.isub, 1) := by decide +kernel
theorem dX1_addPiece_13 : decode cX1_addPiece 13 = .ok (.iaload, 1) := by decide +kernel
theorem dX1_addPiece_14 : decode cX1_addPiece 14 = .ok (.isub, 1) := by decide +kernel
theorem dX1_addPiece_15 : decode cX1_addPiece 15 = .ok (.i2l, 1) := by decide +kernel
theorem dX1_addPiece_16 : decode cX1_addPiece 16 = .ok (.lstore 6, 2) := by decide +kernel
theorem dX1_addPiece_18 : decode cX1_addPiece 18 = .ok (.aload_n 0, 1) := by decide +kernel
theorem dX1_addPiece_19 : decode cX1_addPiece 19 = .ok (.iload_n 2, 1) := by decide +kernel
theorem dX1_addPiece_20 : decode cX1_addPiece 20 = .ok (.iload_n 3, 1) := by decide +kernel
theorem dX1_addPiece_21 : decode cX1_addPiece 21 = .ok (.iload 4, 2) := by decide +kernel
theorem dX1_addPiece_23 : decode cX1_addPiece 23 = .ok (.invokevirtual 40, 3) := by decide +kernel
theorem dX1_addPiece_26 : decode cX1_addPiece 26 = .ok (.i2l, 1) := by decide +kernel
theorem dX1_addPiece_27 : decode cX1_addPiece 27 = .ok (.lstore 8, 2) := by decide +kernel
theorem dX1_addPiece_29 : decode cX1_addPiece 29 = .ok (.aload_n 0, 1) := by decide +kernel
theorem dX1_addPiece_30 : decode cX1_addPiece 30 = .ok (.iload_n 2, 1) := by decide +kernel
theorem dX1_addPiece_31 : decode cX1_addPiece 31 = .ok (.iload_n 3, 1) := by decide +kernel
theorem dX1_addPiece_32 : decode cX1_addPiece 32 = .ok (.iload 5, 2) := by decide +kernel
theorem dX1_addPiece_34 : decode cX1_addPiece 34 = .ok (.invokevirtual 40, 3) := by decide +kernel
theorem dX1_addPiece_37 : decode cX1_addPiece 37 = .ok (.i2l, 1) := by decide +kernel
theorem dX1_addPiece_38 : decode cX1_addPiece 38 = .ok (.lstore 10, 2) := by decide +kernel
theorem dX1_addPiece_40 : decode cX1_addPiece 40 = .ok (.aload_n 1, 1) := by decide +kernel
theorem dX1_addPiece_41 : decode cX1_addPiece 41 = .ok (.iload 5, 2) := by decide +kernel
theorem dX1_addPiece_43 : decode cX1_addPiece 43 = .ok (.iload 4, 2) := by decide +kernel
theorem dX1_addPiece_45 : decode cX1_addPiece 45 = .ok (.isub, 1) := by decide +kernel
theorem dX1_addPiece_46 : decode cX1_addPiece 46 = .ok (.i2l, 1) := by decide +kernel
theorem dX1_addPiece_47 : decode cX1_addPiece 47 = .ok (.lload 8, 2) := by decide +kernel
theorem dX1_addPiece_49 : decode cX1_addPiece 49 = .ok (.lload 8, 2) := by decide +kernel
theorem dX1_addPiece_51 : decode cX1_addPiece 51 = .ok (.lmul, 1) := by decide +kernel
theorem dX1_addPiece_52 : decode cX1_addPiece 52 = .ok (.lload 8, 2) := by decide +kernel
theorem dX1_addPiece_54 : decode cX1_addPiece 54 = .ok (.lload 10, 2) := by decide +kernel
theorem dX1_addPiece_56 : decode cX1_addPiece 56 = .ok (.lmul, 1) := by decide +kernel
theorem dX1_addPiece_57 : decode cX1_addPiece 57 = .ok (.ladd, 1) := by decide +kernel
theorem dX1_addPiece_58 : decode cX1_addPiece 58 = .ok (.lload 10, 2) := by decide +kernel
theorem dX1_addPiece_60 : decode cX1_addPiece 60 = .ok (.lload 10, 2) := by decide +kernel
theorem dX1_addPiece_62 : decode cX1_addPiece 62 = .ok (.lmul, 1) := by decide +kernel
theorem dX1_addPiece_63 : decode cX1_addPiece 63 = .ok (.ladd, 1) := by decide +kernel
theorem dX1_addPiece_64 : decode cX1_addPiece 64 = .ok (.lmul, 1) := by decide +kernel
theorem dX1_addPiece_65 : decode cX1_addPiece 65 = .ok (.ldc2_w 67, 3) := by decide +kernel
theorem dX1_addPiece_68 : decode cX1_addPiece 68 = .ok (.lload 6, 2) := by decide +kernel
theorem dX1_addPiece_70 : decode cX1_addPiece 70 = .ok (.lmul, 1) := by decide +kernel
theorem dX1_addPiece_71 : decode cX1_addPiece 71 = .ok (.lload 6, 2) := by decide +kernel
theorem dX1_addPiece_73 : decode cX1_addPiece 73 = .ok (.lmul, 1) := by decide +kernel
theorem dX1_addPiece_74 : decode cX1_addPiece 74 = .ok (.invokevirtual 69, 3) := by decide +kernel
theorem dX1_addPiece_77 : decode cX1_addPiece 77 = .ok (.return_, 1) := by decide +kernel
theorem dX1_cutAt_0 : decode cX1_cutAt 0 = .ok (.aload_n 0, 1) := by decide +kernel
theorem dX1_cutAt_1 : decode cX1_cutAt 1 = .ok (.getfield 18, 3) := by decide +kernel
theorem dX1_cutAt_4 : decode cX1_cutAt 4 = .ok (.ifCond .ne 35, 3) := by decide +kernel
theorem dX1_cutAt_7 : decode cX1_cutAt 7 = .ok (.aload_n 0, 1) := by decide +kernel
theorem dX1_cutAt_8 : decode cX1_cutAt 8 = .ok (.getfield 22, 3) := by decide +kernel
theorem dX1_cutAt_11 : decode cX1_cutAt 11 = .ok (.ifCond .eq 28, 3) := by decide +kernel
theorem dX1_cutAt_14 : decode cX1_cutAt 14 = .ok (.iload_n 1, 1) := by decide +kernel
theorem dX1_cutAt_15 : decode cX1_cutAt 15 = .ok (.aload_n 0, 1) := by decide +kernel
theorem dX1_cutAt_16 : decode cX1_cutAt 16 = .ok (.getfield 9, 3) := by decide +kernel
theorem dX1_cutAt_19 : decode cX1_cutAt 19 = .ok (.iconst 0, 1) := by decide +kernel
theorem dX1_cutAt_20 : decode cX1_cutAt 20 = .ok (.iaload, 1) := by decide +kernel
theorem dX1_cutAt_21 : decode cX1_cutAt 21 = .ok (.if_icmp .le 18, 3) := by decide +kernel
theorem dX1_cutAt_24 : decode cX1_cutAt 24 = .ok (.iload_n 1, 1) := by decide +kernel
theorem dX1_cutAt_25 : decode cX1_cutAt 25 = .ok (.aload_n 0, 1) := by decide +kernel
theorem dX1_cutAt_26 : decode cX1_cutAt 26 = .ok (.getfield 9, 3) := by decide +kernel
theorem dX1_cutAt_29 : decode cX1_cutAt 29 = .ok (.aload_n 0, 1) := by decide +kernel
theorem dX1_cutAt_30 : decode cX1_cutAt 30 = .ok (.getfield 22, 3) := by decide +kernel
theorem dX1_cutAt_33 : decode cX1_cutAt 33 = .ok (.iconst 1, 1) := by decide +kernel
theorem dX1_cutAt_34 : decode cX1_cutAt 34 = .ok (.isub, 1) := by decide +kernel
theorem dX1_cutAt_35 : decode cX1_cutAt 35 = .ok (.iaload, 1) := by decide +kernel
theorem dX1_cutAt_36 : decode cX1_cutAt 36 = .ok (.if_icmp .lt 5, 3) := by decide +kernel
theorem dX1_cutAt_39 : decode cX1_cutAt 39 = .ok (.iconst 0, 1) := by decide +kernel
theorem dX1_cutAt_40 : decode cX1_cutAt 40 = .ok (.ireturn, 1) := by decide +kernel
theorem dX1_cutAt_41 : decode cX1_cutAt 41 = .ok (.aload_n 0, 1) := by decide +kernel
theorem dX1_cutAt_42 : decode cX1_cutAt 42 = .ok (.iload_n 1, 1) := by decide +kernel
theorem dX1_cutAt_43 : decode cX1_cutAt 43 = .ok (.invokevirtual 44, 3) := by decide +kernel
theorem dX1_cutAt_46 : decode cX1_cutAt 46 = .ok (.istore_n 2, 1) := by decide +kernel
theorem dX1_cutAt_47 : decode cX1_cutAt 47 = .ok (.aload_n 0, 1) := by decide +kernel
theorem dX1_cutAt_48 : decode cX1_cutAt 48 = .ok (.iload_n 1, 1) := by decide +kernel
theorem dX1_cutAt_49 : decode cX1_cutAt 49 = .ok (.invokevirtual 73, 3) := by decide +kernel
theorem dX1_cutAt_52 : decode cX1_cutAt 52 = .ok (.istore_n 3, 1) := by decide +kernel
theorem dX1_cutAt_53 : decode cX1_cutAt 53 = .ok (.aload_n 0, 1) := by decide +kernel
theorem dX1_cutAt_54 : decode cX1_cutAt 54 = .ok (.iconst 1, 1) := by decide +kernel
theorem dX1_cutAt_55 : decode cX1_cutAt 55 = .ok (.putfield 18, 3) := by decide +kernel
theorem dX1_cutAt_58 : decode cX1_cutAt 58 = .ok (.iload_n 3, 1) := by decide +kernel
theorem dX1_cutAt_59 : decode cX1_cutAt 59 = .ok (.ifCond .le 38, 3) := by decide +kernel
theorem dX1_cutAt_62 : decode cX1_cutAt 62 = .ok (.iload_n 3, 1) := by decide +kernel
theorem dX1_cutAt_63 : decode cX1_cutAt 63 = .ok (.bipush 12, 2) := by decide +kernel
theorem dX1_cutAt_65 : decode cX1_cutAt 65 = .ok (.if_icmp .ge 32, 3) := by decide +kernel
theorem dX1_cutAt_68 : decode cX1_cutAt 68 = .ok (.aload_n 0, 1) := by decide +kernel
theorem dX1_cutAt_69 : decode cX1_cutAt 69 = .ok (.getfield 9, 3) := by decide +kernel
theorem dX1_cutAt_72 : decode cX1_cutAt 72 = .ok (.iload_n 3, 1) := by decide +kernel
theorem dX1_cutAt_73 : decode cX1_cutAt 73 = .ok (.iconst 1, 1) := by decide +kernel
theorem dX1_cutAt_74 : decode cX1_cutAt 74 = .ok (.isub, 1) := by decide +kernel
theorem dX1_cutAt_75 : decode cX1_cutAt 75 = .ok (.iaload, 1) := by decide +kernel
theorem dX1_cutAt_76 : decode cX1_cutAt 76 = .ok (.iload_n 1, 1) := by decide +kernel
theorem dX1_cutAt_77 : decode cX1_cutAt 77 = .ok (.if_icmp .eq 20, 3) := by decide +kernel
theorem dX1_cutAt_80 : decode cX1_cutAt 80 = .ok (.aload_n 0, 1) := by decide +kernel
theorem dX1_cutAt_81 : decode cX1_cutAt 81 = .ok (.getfield 9, 3) := by decide +kernel
theorem dX1_cutAt_84 : decode cX1_cutAt 84 = .ok (.iload_n 3, 1) := by decide +kernel
theorem dX1_cutAt_85 : decode cX1_cutAt 85 = .ok (.iload_n 1, 1) := by decide +kernel
theorem dX1_cutAt_86 : decode cX1_cutAt 86 = .ok (.iastore, 1) := by decide +kernel
theorem dX1_cutAt_87 : decode cX1_cutAt 87 = .ok (.aload_n 0, 1) := by decide +kernel
theorem dX1_cutAt_88 : decode cX1_cutAt 88 = .ok (.getfield 15, 3) := by decide +kernel
theorem dX1_cutAt_91 : decode cX1_cutAt 91 = .ok (.iload_n 3, 1) := by decide +kernel
theorem dX1_cutAt_92 : decode cX1_cutAt 92 = .ok (.iload_n 2, 1) := by decide +kernel
theorem dX1_cutAt_93 : decode cX1_cutAt 93 = .ok (.iastore, 1) := by decide +kernel
theorem dX1_cutAt_94 : decode cX1_cutAt 94 = .ok (.iinc 3 1, 3) := by decide +kernel
theorem dX1_cutAt_97 : decode cX1_cutAt 97 = .ok (.aload_n 0, 1) := by decide +kernel
theorem dX1_cutAt_98 : decode cX1_cutAt 98 = .ok (.iload_n 3, 1) := by decide +kernel
theorem dX1_cutAt_99 : decode cX1_cutAt 99 = .ok (.putfield 22, 3) := by decide +kernel
theorem dX1_cutAt_102 : decode cX1_cutAt 102 = .ok (.iconst 1, 1) := by decide +kernel
theorem dX1_cutAt_103 : decode cX1_cutAt 103 = .ok (.ireturn, 1) := by decide +kernel
theorem dX1_countUpTo_0 : decode cX1_countUpTo 0 = .ok (.iconst 0, 1) := by decide +kernel
theorem dX1_countUpTo_1 : decode cX1_countUpTo 1 = .ok (.istore_n 2, 1) := by decide +kernel
theorem dX1_countUpTo_2 : decode cX1_countUpTo 2 = .ok (.iconst 0, 1) := by decide +kernel
theorem dX1_countUpTo_3 : decode cX1_countUpTo 3 = .ok (.istore_n 3, 1) := by decide +kernel
theorem dX1_countUpTo_4 : decode cX1_countUpTo 4 = .ok (.iload_n 3, 1) := by decide +kernel
theorem dX1_countUpTo_5 : decode cX1_countUpTo 5 = .ok (.aload_n 0, 1) := by decide +kernel
theorem dX1_countUpTo_6 : decode cX1_countUpTo 6 = .ok (.getfield 22, 3) := by decide +kernel
theorem dX1_countUpTo_9 : decode cX1_countUpTo 9 = .ok (.if_icmp .ge 22, 3) := by decide +kernel
theorem dX1_countUpTo_12 : decode cX1_countUpTo 12 = .ok (.aload_n 0, 1) := by decide +kernel
theorem dX1_countUpTo_13 : decode cX1_countUpTo 13 = .ok (.getfield 9, 3) := by decide +kernel
theorem dX1_countUpTo_16 : decode cX1_countUpTo 16 = .ok (.iload_n 3, 1) := by decide +kernel
theorem dX1_countUpTo_17 : decode cX1_countUpTo 17 = .ok (.iaload, 1) := by decide +kernel
theorem dX1_countUpTo_18 : decode cX1_countUpTo 18 = .ok (.iload_n 1, 1) := by decide +kernel
theorem dX1_countUpTo_19 : decode cX1_countUpTo 19 = .ok (.if_icmp .gt 6, 3) := by decide +kernel
theorem dX1_countUpTo_22 : decode cX1_countUpTo 22 = .ok (.iinc 2 1, 3) := by decide +kernel
theorem dX1_countUpTo_25 : decode cX1_countUpTo 25 = .ok (.iinc 3 1, 3) := by decide +kernel
theorem dX1_countUpTo_28 : decode cX1_countUpTo 28 = .ok (.goto (-24), 3) := by decide +kernel
theorem dX1_countUpTo_31 : decode cX1_countUpTo 31 = .ok (.iload_n 2, 1) := by decide +kernel
theorem dX1_countUpTo_32 : decode cX1_countUpTo 32 = .ok (.ireturn, 1) := by decide +kernel
theorem dX1_countOffAxis_0 : decode cX1_countOffAxis 0 = .ok (.iconst 0, 1) := by decide +kernel
theorem dX1_countOffAxis_1 : decode cX1_countOffAxis 1 = .ok (.istore_n 1, 1) := by decide +kernel
theorem dX1_countOffAxis_2 : decode cX1_countOffAxis 2 = .ok (.iconst 0, 1) := by decide +kernel
theorem dX1_countOffAxis_3 : decode cX1_countOffAxis 3 = .ok (.istore_n 2, 1) := by decide +kernel
theorem dX1_countOffAxis_4 : decode cX1_countOffAxis 4 = .ok (.iload_n 2, 1) := by decide +kernel
theorem dX1_countOffAxis_5 : decode cX1_countOffAxis 5 = .ok (.aload_n 0, 1) := by decide +kernel
theorem dX1_countOffAxis_6 : decode cX1_countOffAxis 6 = .ok (.getfield 22, 3) := by decide +kernel
theorem dX1_countOffAxis_9 : decode cX1_countOffAxis 9 = .ok (.if_icmp .ge 21, 3) := by decide +kernel
theorem dX1_countOffAxis_12 : decode cX1_countOffAxis 12 = .ok (.aload_n 0, 1) := by decide +kernel
theorem dX1_countOffAxis_13 : decode cX1_countOffAxis 13 = .ok (.getfield 15, 3) := by decide +kernel
theorem dX1_countOffAxis_16 : decode cX1_countOffAxis 16 = .ok (.iload_n 2, 1) := by decide +kernel
theorem dX1_countOffAxis_17 : decode cX1_countOffAxis 17 = .ok (.iaload, 1) := by decide +kernel
theorem dX1_countOffAxis_18 : decode cX1_countOffAxis 18 = .ok (.ifCond .eq 6, 3) := by decide +kernel
theorem dX1_countOffAxis_21 : decode cX1_countOffAxis 21 = .ok (.iinc 1 1, 3) := by decide +kernel
theorem dX1_countOffAxis_24 : decode cX1_countOffAxis 24 = .ok (.iinc 2 1, 3) := by decide +kernel
theorem dX1_countOffAxis_27 : decode cX1_countOffAxis 27 = .ok (.goto (-23), 3) := by decide +kernel
theorem dX1_countOffAxis_30 : decode cX1_countOffAxis 30 = .ok (.iload_n 1, 1) := by decide +kernel
theorem dX1_countOffAxis_31 : decode cX1_countOffAxis 31 = .ok (.ireturn, 1) := by decide +kernel
theorem dX1_findOffAxis_0 : decode cX1_findOffAxis 0 = .ok (.iconst 0, 1) := by decide +kernel
theorem dX1_findOffAxis_1 : decode cX1_findOffAxis 1 = .ok (.istore_n 2, 1) := by decide +kernel
theorem dX1_findOffAxis_2 : decode cX1_findOffAxis 2 = .ok (.iconst 0, 1) := by decide +kernel
theorem dX1_findOffAxis_3 : decode cX1_findOffAxis 3 = .ok (.istore_n 3, 1) := by decide +kernel
theorem dX1_findOffAxis_4 : decode cX1_findOffAxis 4 = .ok (.iload_n 3, 1) := by decide +kernel
theorem dX1_findOffAxis_5 : decode cX1_findOffAxis 5 = .ok (.aload_n 0, 1) := by decide +kernel
theorem dX1_findOffAxis_6 : decode cX1_findOffAxis 6 = .ok (.getfield 22, 3) := by decide +kernel
theorem dX1_findOffAxis_9 : decode cX1_findOffAxis 9 = .ok (.if_icmp .ge 31, 3) := by decide +kernel
theorem dX1_findOffAxis_12 : decode cX1_findOffAxis 12 = .ok (.aload_n 0, 1) := by decide +kernel
theorem dX1_findOffAxis_13 : decode cX1_findOffAxis 13 = .ok (.getfield 15, 3) := by decide +kernel
theorem dX1_findOffAxis_16 : decode cX1_findOffAxis 16 = .ok (.iload_n 3, 1) := by decide +kernel
theorem dX1_findOffAxis_17 : decode cX1_findOffAxis 17 = .ok (.iaload, 1) := by decide +kernel
theorem dX1_findOffAxis_18 : decode cX1_findOffAxis 18 = .ok (.ifCond .ne 6, 3) := by decide +kernel
theorem dX1_findOffAxis_21 : decode cX1_findOffAxis 21 = .ok (.goto 13, 3) := by decide +kernel
theorem dX1_findOffAxis_24 : decode cX1_findOffAxis 24 = .ok (.iload_n 2, 1) := by decide +kernel
theorem dX1_findOffAxis_25 : decode cX1_findOffAxis 25 = .ok (.iload_n 1, 1) := by decide +kernel
theorem dX1_findOffAxis_26 : decode cX1_findOffAxis 26 = .ok (.if_icmp .ne 5, 3) := by decide +kernel
theorem dX1_findOffAxis_29 : decode cX1_findOffAxis 29 = .ok (.iload_n 3, 1) := by decide +kernel
theorem dX1_findOffAxis_30 : decode cX1_findOffAxis 30 = .ok (.ireturn, 1) := by decide +kernel
theorem dX1_findOffAxis_31 : decode cX1_findOffAxis 31 = .ok (.iinc 2 1, 3) := by decide +kernel
theorem dX1_findOffAxis_34 : decode cX1_findOffAxis 34 = .ok (.iinc 3 1, 3) := by decide +kernel
theorem dX1_findOffAxis_37 : decode cX1_findOffAxis 37 = .ok (.goto (-33), 3) := by decide +kernel
theorem dX1_findOffAxis_40 : decode cX1_findOffAxis 40 = .ok (.iconst (-1), 1) := by decide +kernel
theorem dX1_findOffAxis_41 : decode cX1_findOffAxis 41 = .ok (.ireturn, 1) := by decide +kernel
end
section
theorem dX2_init_0 : decode cX2_init 0 = .ok (.aload_n 0, 1) := by decide +kernel
theorem dX2_init_1 : decode cX2_init 1 = .ok (.invokespecial 1, 3) := by decide +kernel
theorem dX2_init_4 : decode cX2_init 4 = .ok (.aload_n 0, 1) := by decide +kernel
theorem dX2_init_5 : decode cX2_init 5 = .ok (.bipush 6, 2) := by decide +kernel
theorem dX2_init_7 : decode cX2_init 7 = .ok (.anewarray 9, 3) := by decide +kernel
theorem dX2_init_10 : decode cX2_init 10 = .ok (.putfield 11, 3) := by decide +kernel
theorem dX2_init_13 : decode cX2_init 13 = .ok (.aload_n 0, 1) := by decide +kernel
theorem dX2_init_14 : decode cX2_init 14 = .ok (.bipush 10, 2) := by decide +kernel
theorem dX2_init_16 : decode cX2_init 16 = .ok (.newarray .int, 2) := by decide +kernel
theorem dX2_init_18 : decode cX2_init 18 = .ok (.putfield 15, 3) := by decide +kernel
theorem dX2_init_21 : decode cX2_init 21 = .ok (.aload_n 0, 1) := by decide +kernel
theorem dX2_init_22 : decode cX2_init 22 = .ok (.bipush 20, 2) := by decide +kernel
theorem dX2_init_24 : decode cX2_init 24 = .ok (.newarray .int, 2) := by decide +kernel
theorem dX2_init_26 : decode cX2_init 26 = .ok (.putfield 19, 3) := by decide +kernel
theorem dX2_init_29 : decode cX2_init 29 = .ok (.aload_n 0, 1) := by decide +kernel
theorem dX2_init_30 : decode cX2_init 30 = .ok (.bipush 20, 2) := by decide +kernel
theorem dX2_init_32 : decode cX2_init 32 = .ok (.newarray .int, 2) := by decide +kernel
theorem dX2_init_34 : decode cX2_init 34 = .ok (.putfield 22, 3) := by decide +kernel
theorem dX2_init_37 : decode cX2_init 37 = .ok (.aload_n 0, 1) := by decide +kernel
theorem dX2_init_38 : decode cX2_init 38 = .ok (.bipush 60, 2) := by decide +kernel
theorem dX2_init_40 : decode cX2_init 40 = .ok (.newarray .int, 2) := by decide +kernel
theorem dX2_init_42 : decode cX2_init 42 = .ok (.putfield 25, 3) := by decide +kernel
theorem dX2_init_45 : decode cX2_init 45 = .ok (.aload_n 0, 1) := by decide +kernel
theorem dX2_init_46 : decode cX2_init 46 = .ok (.bipush 60, 2) := by decide +kernel
theorem dX2_init_48 : decode cX2_init 48 = .ok (.newarray .int, 2) := by decide +kernel
theorem dX2_init_50 : decode cX2_init 50 = .ok (.putfield 28, 3) := by decide +kernel
theorem dX2_init_53 : decode cX2_init 53 = .ok (.aload_n 0, 1) := by decide +kernel
theorem dX2_init_54 : decode cX2_init 54 = .ok (.bipush 60, 2) := by decide +kernel
theorem dX2_init_56 : decode cX2_init 56 = .ok (.newarray .int, 2) := by decide +kernel
theorem dX2_init_58 : decode cX2_init 58 = .ok (.putfield 31, 3) := by decide +kernel
theorem dX2_init_61 : decode cX2_init 61 = .ok (.aload_n 0, 1) := by decide +kernel
theorem dX2_init_62 : decode cX2_init 62 = .ok (.new 34, 3) := by decide +kernel
theorem dX2_init_65 : decode cX2_init 65 = .ok (.dup, 1) := by decide +kernel
theorem dX2_init_66 : decode cX2_init 66 = .ok (.invokespecial 36, 3) := by decide +kernel
theorem dX2_init_69 : decode cX2_init 69 = .ok (.putfield 37, 3) := by decide +kernel
theorem dX2_init_72 : decode cX2_init 72 = .ok (.return_, 1) := by decide +kernel
theorem dX2_profile_0 : decode cX2_profile 0 = .ok (.aload_n 0, 1) := by decide +kernel
theorem dX2_profile_1 : decode cX2_profile 1 = .ok (.getfield 41, 3) := by decide +kernel
theorem dX2_profile_4 : decode cX2_profile 4 = .ok (.bipush 6, 2) := by decide +kernel
theorem dX2_profile_6 : decode cX2_profile 6 = .ok (.if_icmp .lt 13, 3) := by decide +kernel
theorem dX2_profile_9 : decode cX2_profile 9 = .ok (.new 45, 3) := by decide +kernel
theorem dX2_profile_12 : decode cX2_profile 12 = .ok (.dup, 1) := by decide +kernel
theorem dX2_profile_13 : decode cX2_profile 13 = .ok (.ldc 47, 2) := by decide +kernel
theorem dX2_profile_15 : decode cX2_profile 15 = .ok (.invokespecial 49, 3) := by decide +kernel
theorem dX2_profile_18 : decode cX2_profile 18 = .ok (.athrow, 1) := by decide +kernel
theorem dX2_profile_19 : decode cX2_profile 19 = .ok (.aload_n 0, 1) := by decide +kernel
theorem dX2_profile_20 : decode cX2_profile 20 = .ok (.getfield 11, 3) := by decide +kernel
theorem dX2_profile_23 : decode cX2_profile 23 = .ok (.aload_n 0, 1) := by decide +kernel
theorem dX2_profile_24 : decode cX2_profile 24 = .ok (.getfield 41, 3) := by decide +kernel
theorem dX2_profile_27 : decode cX2_profile 27 = .ok (.new 9, 3) := by decide +kernel
theorem dX2_profile_30 : decode cX2_profile 30 = .ok (.dup, 1) := by decide +kernel
theorem dX2_profile_31 : decode cX2_profile 31 = .ok (.invokespecial 52, 3) := by decide +kernel
theorem dX2_profile_34 : decode cX2_profile 34 = .ok (.aastore, 1) := by decide +kernel
theorem dX2_profile_35 : decode cX2_profile 35 = .ok (.aload_n 0, 1) := by decide +kernel
theorem dX2_profile_36 : decode cX2_profile 36 = .ok (.dup, 1) := by decide +kernel
theorem dX2_profile_37 : decode cX2_profile 37 = .ok (.getfield 41, 3) := by decide +kernel
theorem dX2_profile_40 : decode cX2_profile 40 = .ok (.iconst 1, 1) := by decide +kernel
theorem dX2_profile_41 : decode cX2_profile 41 = .ok (.iadd, 1) := by decide +kernel
theorem dX2_profile_42 : decode cX2_profile 42 = .ok (.putfield 41, 3) := by decide +kernel
theorem dX2_profile_45 : decode cX2_profile 45 = .ok (.aload_n 0, 1) := by decide +kernel
theorem dX2_profile_46 : decode cX2_profile 46 = .ok (.getfield 41, 3) := by decide +kernel
theorem dX2_profile_49 : decode cX2_profile 49 = .ok (.iconst 1, 1) := by decide +kernel
theorem dX2_profile_50 : decode cX2_profile 50 = .ok (.isub, 1) := by decide +kernel
theorem dX2_profile_51 : decode cX2_profile 51 = .ok (.ireturn, 1) := by decide +kernel
theorem dX2_corner_0 : decode cX2_corner 0 = .ok (.aload_n 0, 1) := by decide +kernel
theorem dX2_corner_1 : decode cX2_corner 1 = .ok (.iload_n 1, 1) := by decide +kernel
theorem dX2_corner_2 : decode cX2_corner 2 = .ok (.invokevirtual 53, 3) := by decide +kernel
theorem dX2_corner_5 : decode cX2_corner 5 = .ok (.astore 4, 2) := by decide +kernel
theorem dX2_corner_7 : decode cX2_corner 7 = .ok (.iload_n 2, 1) := by decide +kernel
theorem dX2_corner_8 : decode cX2_corner 8 = .ok (.ifCond .lt 10, 3) := by decide +kernel
theorem dX2_corner_11 : decode cX2_corner 11 = .ok (.iload_n 2, 1) := by decide +kernel
theorem dX2_corner_12 : decode cX2_corner 12 = .ok (.sipush 400, 3) := by decide +kernel
theorem dX2_corner_15 : decode cX2_corner 15 = .ok (.if_icmp .le 13, 3) := by decide +kernel
theorem dX2_corner_18 : decode cX2_corner 18 = .ok (.new 57, 3) := by decide +kernel
theorem dX2_corner_21 : decode cX2_corner 21 = .ok (.dup, 1) := by decide +kernel
theorem dX2_corner_22 : decode cX2_corner 22 = .ok (.ldc 59, 2) := by decide +kernel
theorem dX2_corner_24 : decode cX2_corner 24 = .ok (.invokespecial 61, 3) := by decide +kernel
theorem dX2_corner_27 : decode cX2_corner 27 = .ok (.athrow, 1) := by decide +kernel
theorem dX2_corner_28 : decode cX2_corner 28 = .ok (.iload_n 3, 1) := by decide +kernel
theorem dX2_corner_29 : decode cX2_corner 29 = .ok (.ifCond .lt 10, 3) := by decide +kernel
theorem dX2_corner_32 : decode cX2_corner 32 = .ok (.iload_n 3, 1) := by decide +kernel
theorem dX2_corner_33 : decode cX2_corner 33 = .ok (.sipush 200, 3) := by decide +kernel
theorem dX2_corner_36 : decode cX2_corner 36 = .ok (.if_icmp .le 13, 3) := by decide +kernel
theorem dX2_corner_39 : decode cX2_corner 39 = .ok (.new 57, 3) := by decide +kernel
theorem dX2_corner_42 : decode cX2_corner 42 = .ok (.dup, 1) := by decide +kernel
theorem dX2_corner_43 : decode cX2_corner 43 = .ok (.ldc 62, 2) := by decide +kernel
theorem dX2_corner_45 : decode cX2_corner 45 = .ok (.invokespecial 61, 3) := by decide +kernel
theorem dX2_corner_48 : decode cX2_corner 48 = .ok (.athrow, 1) := by decide +kernel
theorem dX2_corner_49 : decode cX2_corner 49 = .ok (.aload 4, 2) := by decide +kernel
theorem dX2_corner_51 : decode cX2_corner 51 = .ok (.invokevirtual 64, 3) := by decide +kernel
theorem dX2_corner_54 : decode cX2_corner 54 = .ok (.ifCond .eq 13, 3) := by decide +kernel
theorem dX2_corner_57 : decode cX2_corner 57 = .ok (.new 45, 3) := by decide +kernel
theorem dX2_corner_60 : decode cX2_corner 60 = .ok (.dup, 1) := by decide +kernel
theorem dX2_corner_61 : decode cX2_corner 61 = .ok (.ldc 68, 2) := by decide +kernel
theorem dX2_corner_63 : decode cX2_corner 63 = .ok (.invokespecial 49, 3) := by decide +kernel
theorem dX2_corner_66 : decode cX2_corner 66 = .ok (.athrow, 1) := by decide +kernel
theorem dX2_corner_67 : decode cX2_corner 67 = .ok (.aload 4, 2) := by decide +kernel
theorem dX2_corner_69 : decode cX2_corner 69 = .ok (.iload_n 2, 1) := by decide +kernel
theorem dX2_corner_70 : decode cX2_corner 70 = .ok (.iload_n 3, 1) := by decide +kernel
theorem dX2_corner_71 : decode cX2_corner 71 = .ok (.invokevirtual 70, 3) := by decide +kernel
theorem dX2_corner_74 : decode cX2_corner 74 = .ok (.ireturn, 1) := by decide +kernel
theorem dX2_at_0 : decode cX2_at 0 = .ok (.aload_n 0, 1) := by decide +kernel
theorem dX2_at_1 : decode cX2_at 1 = .ok (.iload_n 1, 1) := by decide +kernel
theorem dX2_at_2 : decode cX2_at 2 = .ok (.invokevirtual 53, 3) := by decide +kernel
theorem dX2_at_5 : decode cX2_at 5 = .ok (.astore 4, 2) := by decide +kernel
theorem dX2_at_7 : decode cX2_at 7 = .ok (.iload_n 3, 1) := by decide +kernel
theorem dX2_at_8 : decode cX2_at 8 = .ok (.invokestatic 74, 3) := by decide +kernel
theorem dX2_at_11 : decode cX2_at 11 = .ok (.iload_n 2, 1) := by decide +kernel
theorem dX2_at_12 : decode cX2_at 12 = .ok (.iconst (-1), 1) := by decide +kernel
theorem dX2_at_13 : decode cX2_at 13 = .ok (.if_icmp .ne 9, 3) := by decide +kernel
theorem dX2_at_16 : decode cX2_at 16 = .ok (.aload 4, 2) := by decide +kernel
theorem dX2_at_18 : decode cX2_at 18 = .ok (.getfield 78, 3) := by decide +kernel
theorem dX2_at_21 : decode cX2_at 21 = .ok (.ireturn, 1) := by decide +kernel
theorem dX2_at_22 : decode cX2_at 22 = .ok (.iload_n 2, 1) := by decide +kernel
theorem dX2_at_23 : decode cX2_at 23 = .ok (.ifCond .lt 12, 3) := by decide +kernel
theorem dX2_at_26 : decode cX2_at 26 = .ok (.iload_n 2, 1) := by decide +kernel
theorem dX2_at_27 : decode cX2_at 27 = .ok (.aload 4, 2) := by decide +kernel
theorem dX2_at_29 : decode cX2_at 29 = .ok (.getfield 78, 3) := by decide +kernel
theorem dX2_at_32 : decode cX2_at 32 = .ok (.if_icmp .lt 13, 3) := by decide +kernel
theorem dX2_at_35 : decode cX2_at 35 = .ok (.new 81, 3) := by decide +kernel
theorem dX2_at_38 : decode cX2_at 38 = .ok (.dup, 1) := by decide +kernel
theorem dX2_at_39 : decode cX2_at 39 = .ok (.ldc 83, 2) := by decide +kernel
theorem dX2_at_41 : decode cX2_at 41 = .ok (.invokespecial 85, 3) := by decide +kernel
theorem dX2_at_44 : decode cX2_at 44 = .ok (.athrow, 1) := by decide +kernel
theorem dX2_at_45 : decode cX2_at 45 = .ok (.iload_n 3, 1) := by decide +kernel
theorem dX2_at_46 : decode cX2_at 46 = .ok (.ifCond .ne 13, 3) := by decide +kernel
theorem dX2_at_49 : decode cX2_at 49 = .ok (.aload 4, 2) := by decide +kernel
theorem dX2_at_51 : decode cX2_at 51 = .ok (.getfield 86, 3) := by decide +kernel
theorem dX2_at_54 : decode cX2_at 54 = .ok (.iload_n 2, 1) := by decide +kernel
theorem dX2_at_55 : decode cX2_at 55 = .ok (.iaload, 1) := by decide +kernel
theorem dX2_at_56 : decode cX2_at 56 = .ok (.goto 10, 3) := by decide +kernel
theorem dX2_at_59 : decode cX2_at 59 = .ok (.aload 4, 2) := by decide +kernel
theorem dX2_at_61 : decode cX2_at 61 = .ok (.getfield 89, 3) := by decide +kernel
theorem dX2_at_64 : decode cX2_at 64 = .ok (.iload_n 2, 1) := by decide +kernel
theorem dX2_at_65 : decode cX2_at 65 = .ok (.iaload, 1) := by decide +kernel
theorem dX2_at_66 : decode cX2_at 66 = .ok (.ireturn, 1) := by decide +kernel
theorem dX2_radius_0 : decode cX2_radius 0 = .ok (.aload_n 0, 1) := by decide +kernel
theorem dX2_radius_1 : decode cX2_radius 1 = .ok (.iload_n 1, 1) := by decide +kernel
theorem dX2_radius_2 : decode cX2_radius 2 = .ok (.invokevirtual 53, 3) := by decide +kernel
theorem dX2_radius_5 : decode cX2_radius 5 = .ok (.iload_n 2, 1) := by decide +kernel
theorem dX2_radius_6 : decode cX2_radius 6 = .ok (.invokevirtual 92, 3) := by decide +kernel
theorem dX2_radius_9 : decode cX2_radius 9 = .ok (.ireturn, 1) := by decide +kernel
theorem dX2_volume_0 : decode cX2_volume 0 = .ok (.aload_n 0, 1) := by decide +kernel
theorem dX2_volume_1 : decode cX2_volume 1 = .ok (.iload_n 1, 1) := by decide +kernel
theorem dX2_volume_2 : decode cX2_volume 2 = .ok (.invokevirtual 53, 3) := by decide +kernel
theorem dX2_volume_5 : decode cX2_volume 5 = .ok (.astore 4, 2) := by decide +kernel
theorem dX2_volume_7 : decode cX2_volume 7 = .ok (.iload_n 3, 1) := by decide +kernel
theorem dX2_volume_8 : decode cX2_volume 8 = .ok (.invokestatic 74, 3) := by decide +kernel
theorem dX2_volume_11 : decode cX2_volume 11 = .ok (.aload 4, 2) := by decide +kernel
theorem dX2_volume_13 : decode cX2_volume 13 = .ok (.aload_n 0, 1) := by decide +kernel
theorem dX2_volume_14 : decode cX2_volume 14 = .ok (.getfield 37, 3) := by decide +kernel
theorem dX2_volume_17 : decode cX2_volume 17 = .ok (.iload_n 2, 1) := by decide +kernel
theorem dX2_volume_18 : decode cX2_volume 18 = .ok (.invokevirtual 96, 3) := by decide +kernel
theorem dX2_volume_21 : decode cX2_volume 21 = .ok (.aload_n 0, 1) := by decide +kernel
theorem dX2_volume_22 : decode cX2_volume 22 = .ok (.getfield 37, 3) := by decide +kernel
theorem dX2_volume_25 : decode cX2_volume 25 = .ok (.iload_n 3, 1) := by decide +kernel
theorem dX2_volume_26 : decode cX2_volume 26 = .ok (.invokevirtual 100, 3) := by decide +kernel
theorem dX2_volume_29 : decode cX2_volume 29 = .ok (.lreturn, 1) := by decide +kernel
theorem dX2_holds_0 : decode cX2_holds 0 = .ok (.aload_n 0, 1) := by decide +kernel
theorem dX2_holds_1 : decode cX2_holds 1 = .ok (.iload_n 1, 1) := by decide +kernel
theorem dX2_holds_2 : decode cX2_holds 2 = .ok (.invokevirtual 53, 3) := by decide +kernel
theorem dX2_holds_5 : decode cX2_holds 5 = .ok (.astore 4, 2) := by decide +kernel
theorem dX2_holds_7 : decode cX2_holds 7 = .ok (.iload_n 3, 1) := by decide +kernel
theorem dX2_holds_8 : decode cX2_holds 8 = .ok (.invokestatic 74, 3) := by decide +kernel
theorem dX2_holds_11 : decode cX2_holds 11 = .ok (.aload 4, 2) := by decide +kernel
theorem dX2_holds_13 : decode cX2_holds 13 = .ok (.aload_n 0, 1) := by decide +kernel
theorem dX2_holds_14 : decode cX2_holds 14 = .ok (.getfield 37, 3) := by decide +kernel
theorem dX2_holds_17 : decode cX2_holds 17 = .ok (.iload_n 2, 1) := by decide +kernel
theorem dX2_holds_18 : decode cX2_holds 18 = .ok (.invokevirtual 104, 3) := by decide +kernel
theorem dX2_holds_21 : decode cX2_holds 21 = .ok (.aload_n 0, 1) := by decide +kernel
theorem dX2_holds_22 : decode cX2_holds 22 = .ok (.getfield 37, 3) := by decide +kernel
theorem dX2_holds_25 : decode cX2_holds 25 = .ok (.iload_n 3, 1) := by decide +kernel
theorem dX2_holds_26 : decode cX2_holds 26 = .ok (.invokevirtual 100, 3) := by decide +kernel
theorem dX2_holds_29 : decode cX2_holds 29 = .ok (.lreturn, 1) := by decide +kernel
theorem dX2_enclosed_0 : decode cX2_enclosed 0 = .ok (.aload_n 0, 1) := by decide +kernel
theorem dX2_enclosed_1 : decode cX2_enclosed 1 = .ok (.iload_n 1, 1) := by decide +kernel
theorem dX2_enclosed_2 : decode cX2_enclosed 2 = .ok (.invokevirtual 53, 3) := by decide +kernel
theorem dX2_enclosed_5 : decode cX2_enclosed 5 = .ok (.astore_n 3, 1) := by decide +kernel
theorem dX2_enclosed_6 : decode cX2_enclosed 6 = .ok (.iload_n 2, 1) := by decide +kernel
theorem dX2_enclosed_7 : decode cX2_enclosed 7 = .ok (.invokestatic 74, 3) := by decide +kernel
theorem dX2_enclosed_10 : decode cX2_enclosed 10 = .ok (.aload_n 3, 1) := by decide +kernel
theorem dX2_enclosed_11 : decode cX2_enclosed 11 = .ok (.aload_n 0, 1) := by decide +kernel
theorem dX2_enclosed_12 : decode cX2_enclosed 12 = .ok (.getfield 37, 3) := by decide +kernel
theorem dX2_enclosed_15 : decode cX2_enclosed 15 = .ok (.sipush 400, 3) := by decide +kernel
theorem dX2_enclosed_18 : decode cX2_enclosed 18 = .ok (.invokevirtual 104, 3) := by decide +kernel
theorem dX2_enclosed_21 : decode cX2_enclosed 21 = .ok (.iload_n 2, 1) := by decide +kernel
theorem dX2_enclosed_22 : decode cX2_enclosed 22 = .ok (.ifCond .ne 13, 3) := by decide +kernel
theorem dX2_enclosed_25 : decode cX2_enclosed 25 = .ok (.aload_n 0, 1) := by decide +kernel
theorem dX2_enclosed_26 : decode cX2_enclosed 26 = .ok (.getfield 37, 3) := by decide +kernel
theorem dX2_enclosed_29 : decode cX2_enclosed 29 = .ok (.invokevirtual 107, 3) := by decide +kernel
theorem dX2_enclosed_32 : decode cX2_enclosed 32 = .ok (.goto 10, 3) := by decide +kernel
theorem dX2_enclosed_35 : decode cX2_enclosed 35 = .ok (.aload_n 0, 1) := by decide +kernel
theorem dX2_enclosed_36 : decode cX2_enclosed 36 = .ok (.getfield 37, 3) := by decide +kernel
theorem dX2_enclosed_39 : decode cX2_enclosed 39 = .ok (.invokevirtual 111, 3) := by decide +kernel
theorem dX2_enclosed_42 : decode cX2_enclosed 42 = .ok (.lreturn, 1) := by decide +kernel
theorem dX2_wall_0 : decode cX2_wall 0 = .ok (.aload_n 0, 1) := by decide +kernel
theorem dX2_wall_1 : decode cX2_wall 1 = .ok (.iload_n 1, 1) := by decide +kernel
theorem dX2_wall_2 : decode cX2_wall 2 = .ok (.invokevirtual 53, 3) := by decide +kernel
theorem dX2_wall_5 : decode cX2_wall 5 = .ok (.astore_n 3, 1) := by decide +kernel
theorem dX2_wall_6 : decode cX2_wall 6 = .ok (.iload_n 2, 1) := by decide +kernel
theorem dX2_wall_7 : decode cX2_wall 7 = .ok (.ifCond .lt 9, 3) := by decide +kernel
theorem dX2_wall_10 : decode cX2_wall 10 = .ok (.iload_n 2, 1) := by decide +kernel
theorem dX2_wall_11 : decode cX2_wall 11 = .ok (.bipush 50, 2) := by decide +kernel
theorem dX2_wall_13 : decode cX2_wall 13 = .ok (.if_icmp .le 13, 3) := by decide +kernel
theorem dX2_wall_16 : decode cX2_wall 16 = .ok (.new 57, 3) := by decide +kernel
theorem dX2_wall_19 : decode cX2_wall 19 = .ok (.dup, 1) := by decide +kernel
theorem dX2_wall_20 : decode cX2_wall 20 = .ok (.ldc 114, 2) := by decide +kernel
theorem dX2_wall_22 : decode cX2_wall 22 = .ok (.invokespecial 61, 3) := by decide +kernel
theorem dX2_wall_25 : decode cX2_wall 25 = .ok (.athrow, 1) := by decide +kernel
theorem dX2_wall_26 : decode cX2_wall 26 = .ok (.aload_n 3, 1) := by decide +kernel
theorem dX2_wall_27 : decode cX2_wall 27 = .ok (.getfield 116, 3) := by decide +kernel
theorem dX2_wall_30 : decode cX2_wall 30 = .ok (.istore 4, 2) := by decide +kernel
theorem dX2_wall_32 : decode cX2_wall 32 = .ok (.aload_n 3, 1) := by decide +kernel
theorem dX2_wall_33 : decode cX2_wall 33 = .ok (.iload_n 2, 1) := by decide +kernel
theorem dX2_wall_34 : decode cX2_wall 34 = .ok (.putfield 116, 3) := by decide +kernel
theorem dX2_wall_37 : decode cX2_wall 37 = .ok (.iload 4, 2) := by decide +kernel
theorem dX2_wall_39 : decode cX2_wall 39 = .ok (.ireturn, 1) := by decide +kernel
theorem dX2_unlike_0 : decode cX2_unlike 0 = .ok (.aload_n 0, 1) := by decide +kernel
theorem dX2_unlike_1 : decode cX2_unlike 1 = .ok (.iload_n 1, 1) := by decide +kernel
theorem dX2_unlike_2 : decode cX2_unlike 2 = .ok (.invokevirtual 53, 3) := by decide +kernel
theorem dX2_unlike_5 : decode cX2_unlike 5 = .ok (.astore_n 3, 1) := by decide +kernel
theorem dX2_unlike_6 : decode cX2_unlike 6 = .ok (.aload_n 0, 1) := by decide +kernel
theorem dX2_unlike_7 : decode cX2_unlike 7 = .ok (.iload_n 2, 1) := by decide +kernel
theorem dX2_unlike_8 : decode cX2_unlike 8 = .ok (.invokevirtual 53, 3) := by decide +kernel
theorem dX2_unlike_11 : decode cX2_unlike 11 = .ok (.astore 4, 2) := by decide +kernel
theorem dX2_unlike_13 : decode cX2_unlike 13 = .ok (.iconst 0, 1) := by decide +kernel
theorem dX2_unlike_14 : decode cX2_unlike 14 = .ok (.istore 5, 2) := by decide +kernel
theorem dX2_unlike_16 : decode cX2_unlike 16 = .ok (.iconst 0, 1) := by decide +kernel
theorem dX2_unlike_17 : decode cX2_unlike 17 = .ok (.istore 6, 2) := by decide +kernel
theorem dX2_unlike_19 : decode cX2_unlike 19 = .ok (.iload 6, 2) := by decide +kernel
theorem dX2_unlike_21 : decode cX2_unlike 21 = .ok (.sipush 400, 3) := by decide +kernel
theorem dX2_unlike_24 : decode cX2_unlike 24 = .ok (.if_icmp .gt 35, 3) := by decide +kernel
theorem dX2_unlike_27 : decode cX2_unlike 27 = .ok (.aload_n 3, 1) := by decide +kernel
theorem dX2_unlike_28 : decode cX2_unlike 28 = .ok (.iload 6, 2) := by decide +kernel
theorem dX2_unlike_30 : decode cX2_unlike 30 = .ok (.invokevirtual 119, 3) := by decide +kernel
theorem dX2_unlike_33 : decode cX2_unlike 33 = .ok (.aload 4, 2) := by decide +kernel
theorem dX2_unlike_35 : decode cX2_unlike 35 = .ok (.iload 6, 2) := by decide +kernel
theorem dX2_unlike_37 : decode cX2_unlike 37 = .ok (.invokevirtual 119, 3) := by decide +kernel
theorem dX2_unlike_40 : decode cX2_unlike 40 = .ok (.isub, 1) := by decide +kernel
theorem dX2_unlike_41 : decode cX2_unlike 41 = .ok (.istore 7, 2) := by decide +kernel
theorem dX2_unlike_43 : decode cX2_unlike 43 = .ok (.iload 5, 2) := by decide +kernel
theorem dX2_unlike_45 : decode cX2_unlike 45 = .ok (.iload 7, 2) := by decide +kernel
theorem dX2_unlike_47 : decode cX2_unlike 47 = .ok (.invokestatic 122, 3) := by decide +kernel
theorem dX2_unlike_50 : decode cX2_unlike 50 = .ok (.iadd, 1) := by decide +kernel
theorem dX2_unlike_51 : decode cX2_unlike 51 = .ok (.istore 5, 2) := by decide +kernel
theorem dX2_unlike_53 : decode cX2_unlike 53 = .ok (.iinc 6 1, 3) := by decide +kernel
theorem dX2_unlike_56 : decode cX2_unlike 56 = .ok (.goto (-37), 3) := by decide +kernel
theorem dX2_unlike_59 : decode cX2_unlike 59 = .ok (.iload 5, 2) := by decide +kernel
theorem dX2_unlike_61 : decode cX2_unlike 61 = .ok (.ireturn, 1) := by decide +kernel
theorem dX2_cut_0 : decode cX2_cut 0 = .ok (.aload_n 0, 1) := by decide +kernel
theorem dX2_cut_1 : decode cX2_cut 1 = .ok (.iload_n 1, 1) := by decide +kernel
theorem dX2_cut_2 : decode cX2_cut 2 = .ok (.invokevirtual 53, 3) := by decide +kernel
theorem dX2_cut_5 : decode cX2_cut 5 = .ok (.iload_n 2, 1) := by decide +kernel
theorem dX2_cut_6 : decode cX2_cut 6 = .ok (.invokevirtual 127, 3) := by decide +kernel
theorem dX2_cut_9 : decode cX2_cut 9 = .ok (.ireturn, 1) := by decide +kernel
theorem dX2_drawn_0 : decode cX2_drawn 0 = .ok (.aload_n 0, 1) := by decide +kernel
theorem dX2_drawn_1 : decode cX2_drawn 1 = .ok (.iload_n 1, 1) := by decide +kernel
theorem dX2_drawn_2 : decode cX2_drawn 2 = .ok (.invokevirtual 53, 3) := by decide +kernel
theorem dX2_drawn_5 : decode cX2_drawn 5 = .ok (.astore 4, 2) := by decide +kernel
theorem dX2_drawn_7 : decode cX2_drawn 7 = .ok (.iload_n 3, 1) := by decide +kernel
theorem dX2_drawn_8 : decode cX2_drawn 8 = .ok (.invokestatic 74, 3) := by decide +kernel
theorem dX2_drawn_11 : decode cX2_drawn 11 = .ok (.iload_n 2, 1) := by decide +kernel
theorem dX2_drawn_12 : decode cX2_drawn 12 = .ok (.iconst (-1), 1) := by decide +kernel
theorem dX2_drawn_13 : decode cX2_drawn 13 = .ok (.if_icmp .ne 15, 3) := by decide +kernel
theorem dX2_drawn_16 : decode cX2_drawn 16 = .ok (.aload 4, 2) := by decide +kernel
theorem dX2_drawn_18 : decode cX2_drawn 18 = .ok (.getfield 78, 3) := by decide +kernel
theorem dX2_drawn_21 : decode cX2_drawn 21 = .ok (.aload 4, 2) := by decide +kernel
theorem dX2_drawn_23 : decode cX2_drawn 23 = .ok (.invokevirtual 131, 3) := by decide +kernel
theorem dX2_drawn_26 : decode cX2_drawn 26 = .ok (.iadd, 1) := by decide +kernel
theorem dX2_drawn_27 : decode cX2_drawn 27 = .ok (.ireturn, 1) := by decide +kernel
theorem dX2_drawn_28 : decode cX2_drawn 28 = .ok (.iload_n 2, 1) := by decide +kernel
theorem dX2_drawn_29 : decode cX2_drawn 29 = .ok (.ifCond .ge 13, 3) := by decide +kernel
theorem dX2_drawn_32 : decode cX2_drawn 32 = .ok (.new 81, 3) := by decide +kernel
theorem dX2_drawn_35 : decode cX2_drawn 35 = .ok (.dup, 1) := by decide +kernel
theorem dX2_drawn_36 : decode cX2_drawn 36 = .ok (.ldc 135, 2) := by decide +kernel
theorem dX2_drawn_38 : decode cX2_drawn 38 = .ok (.invokespecial 85, 3) := by decide +kernel
theorem dX2_drawn_41 : decode cX2_drawn 41 = .ok (.athrow, 1) := by decide +kernel
theorem dX2_drawn_42 : decode cX2_drawn 42 = .ok (.iload_n 2, 1) := by decide +kernel
theorem dX2_drawn_43 : decode cX2_drawn 43 = .ok (.aload 4, 2) := by decide +kernel
theorem dX2_drawn_45 : decode cX2_drawn 45 = .ok (.getfield 78, 3) := by decide +kernel
theorem dX2_drawn_48 : decode cX2_drawn 48 = .ok (.if_icmp .ge 7, 3) := by decide +kernel
theorem dX2_drawn_51 : decode cX2_drawn 51 = .ok (.iconst 1, 1) := by decide +kernel
theorem dX2_drawn_52 : decode cX2_drawn 52 = .ok (.goto 4, 3) := by decide +kernel
theorem dX2_drawn_55 : decode cX2_drawn 55 = .ok (.iconst 0, 1) := by decide +kernel
theorem dX2_drawn_56 : decode cX2_drawn 56 = .ok (.istore 5, 2) := by decide +kernel
theorem dX2_drawn_58 : decode cX2_drawn 58 = .ok (.iload 5, 2) := by decide +kernel
theorem dX2_drawn_60 : decode cX2_drawn 60 = .ok (.ifCond .eq 15, 3) := by decide +kernel
theorem dX2_drawn_63 : decode cX2_drawn 63 = .ok (.aload 4, 2) := by decide +kernel
theorem dX2_drawn_65 : decode cX2_drawn 65 = .ok (.getfield 78, 3) := by decide +kernel
theorem dX2_drawn_68 : decode cX2_drawn 68 = .ok (.iconst 1, 1) := by decide +kernel
theorem dX2_drawn_69 : decode cX2_drawn 69 = .ok (.isub, 1) := by decide +kernel
theorem dX2_drawn_70 : decode cX2_drawn 70 = .ok (.iload_n 2, 1) := by decide +kernel
theorem dX2_drawn_71 : decode cX2_drawn 71 = .ok (.isub, 1) := by decide +kernel
theorem dX2_drawn_72 : decode cX2_drawn 72 = .ok (.goto 15, 3) := by decide +kernel
theorem dX2_drawn_75 : decode cX2_drawn 75 = .ok (.aload 4, 2) := by decide +kernel
theorem dX2_drawn_77 : decode cX2_drawn 77 = .ok (.iload_n 2, 1) := by decide +kernel
theorem dX2_drawn_78 : decode cX2_drawn 78 = .ok (.aload 4, 2) := by decide +kernel
theorem dX2_drawn_80 : decode cX2_drawn 80 = .ok (.getfield 78, 3) := by decide +kernel
theorem dX2_drawn_83 : decode cX2_drawn 83 = .ok (.isub, 1) := by decide +kernel
theorem dX2_drawn_84 : decode cX2_drawn 84 = .ok (.invokevirtual 137, 3) := by decide +kernel
theorem dX2_drawn_87 : decode cX2_drawn 87 = .ok (.istore 6, 2) := by decide +kernel
theorem dX2_drawn_89 : decode cX2_drawn 89 = .ok (.iload 6, 2) := by decide +kernel
theorem dX2_drawn_91 : decode cX2_drawn 91 = .ok (.ifCond .lt 13, 3) := by decide +kernel
theorem dX2_drawn_94 : decode cX2_drawn 94 = .ok (.iload 6, 2) := by decide +kernel
theorem dX2_drawn_96 : decode cX2_drawn 96 = .ok (.aload 4, 2) := by decide +kernel
theorem dX2_drawn_98 : decode cX2_drawn 98 = .ok (.getfield 78, 3) := by decide +kernel
theorem dX2_drawn_101 : decode cX2_drawn 101 = .ok (.if_icmp .lt 13, 3) := by decide +kernel
theorem dX2_drawn_104 : decode cX2_drawn 104 = .ok (.new 81, 3) := by decide +kernel
theorem dX2_drawn_107 : decode cX2_drawn 107 = .ok (.dup, 1) := by decide +kernel
theorem dX2_drawn_108 : decode cX2_drawn 108 = .ok (.ldc 135, 2) := by decide +kernel
theorem dX2_drawn_110 : decode cX2_drawn 110 = .ok (.invokespecial 85, 3) := by decide +kernel
theorem dX2_drawn_113 : decode cX2_drawn 113 = .ok (.athrow, 1) := by decide +kernel
theorem dX2_drawn_114 : decode cX2_drawn 114 = .ok (.iload_n 3, 1) := by decide +kernel
theorem dX2_drawn_115 : decode cX2_drawn 115 = .ok (.iconst 1, 1) := by decide +kernel
theorem dX2_drawn_116 : decode cX2_drawn 116 = .ok (.if_icmp .ne 12, 3) := by decide +kernel
theorem dX2_drawn_119 : decode cX2_drawn 119 = .ok (.aload 4, 2) := by decide +kernel
theorem dX2_drawn_121 : decode cX2_drawn 121 = .ok (.getfield 86, 3) := by decide +kernel
theorem dX2_drawn_124 : decode cX2_drawn 124 = .ok (.iload 6, 2) := by decide +kernel
theorem dX2_drawn_126 : decode cX2_drawn 126 = .ok (.iaload, 1) := by decide +kernel
theorem dX2_drawn_127 : decode cX2_drawn 127 = .ok (.ireturn, 1) := by decide +kernel
theorem dX2_drawn_128 : decode cX2_drawn 128 = .ok (.iload 5, 2) := by decide +kernel
theorem dX2_drawn_130 : decode cX2_drawn 130 = .ok (.ifCond .eq 15, 3) := by decide +kernel
theorem dX2_drawn_133 : decode cX2_drawn 133 = .ok (.aload 4, 2) := by decide +kernel
theorem dX2_drawn_135 : decode cX2_drawn 135 = .ok (.getfield 89, 3) := by decide +kernel
theorem dX2_drawn_138 : decode cX2_drawn 138 = .ok (.iload 6, 2) := by decide +kernel
theorem dX2_drawn_140 : decode cX2_drawn 140 = .ok (.iaload, 1) := by decide +kernel
theorem dX2_drawn_141 : decode cX2_drawn 141 = .ok (.ineg, 1) := by decide +kernel
theorem dX2_drawn_142 : decode cX2_drawn 142 = .ok (.goto 11, 3) := by decide +kernel
theorem dX2_drawn_145 : decode cX2_drawn 145 = .ok (.aload 4, 2) := by decide +kernel
theorem dX2_drawn_147 : decode cX2_drawn 147 = .ok (.getfield 89, 3) := by decide +kernel
theorem dX2_drawn_150 : decode cX2_drawn 150 = .ok (.iload 6, 2) := by decide +kernel
theorem dX2_drawn_152 : decode cX2_drawn 152 = .ok (.iaload, 1) := by decide +kernel
theorem dX2_drawn_153 : decode cX2_drawn 153 = .ok (.ireturn, 1) := by decide +kernel
theorem dX2_bound_0 : decode cX2_bound 0 = .ok (.iload_n 1, 1) := by decide +kernel
theorem dX2_bound_1 : decode cX2_bound 1 = .ok (.ifCond .lt 9, 3) := by decide +kernel
theorem dX2_bound_4 : decode cX2_bound 4 = .ok (.iload_n 1, 1) := by decide +kernel
theorem dX2_bound_5 : decode cX2_bound 5 = .ok (.ldc 140, 2) := by decide +kernel
theorem dX2_bound_7 : decode cX2_bound 7 = .ok (.if_icmp .le 13, 3) := by decide +kernel
theorem dX2_bound_10 : decode cX2_bound 10 = .ok (.new 57, 3) := by decide +kernel
theorem dX2_bound_13 : decode cX2_bound 13 = .ok (.dup, 1) := by decide +kernel
theorem dX2_bound_14 : decode cX2_bound 14 = .ok (.ldc 141, 2) := by decide +kernel
theorem dX2_bound_16 : decode cX2_bound 16 = .ok (.invokespecial 61, 3) := by decide +kernel
theorem dX2_bound_19 : decode cX2_bound 19 = .ok (.athrow, 1) := by decide +kernel
theorem dX2_bound_20 : decode cX2_bound 20 = .ok (.aload_n 0, 1) := by decide +kernel
theorem dX2_bound_21 : decode cX2_bound 21 = .ok (.getfield 143, 3) := by decide +kernel
theorem dX2_bound_24 : decode cX2_bound 24 = .ok (.bipush 10, 2) := by decide +kernel
theorem dX2_bound_26 : decode cX2_bound 26 = .ok (.if_icmp .lt 13, 3) := by decide +kernel
theorem dX2_bound_29 : decode cX2_bound 29 = .ok (.new 45, 3) := by decide +kernel
theorem dX2_bound_32 : decode cX2_bound 32 = .ok (.dup, 1) := by decide +kernel
theorem dX2_bound_33 : decode cX2_bound 33 = .ok (.ldc 146, 2) := by decide +kernel
theorem dX2_bound_35 : decode cX2_bound 35 = .ok (.invokespecial 49, 3) := by decide +kernel
theorem dX2_bound_38 : decode cX2_bound 38 = .ok (.athrow, 1) := by decide +kernel
theorem dX2_bound_39 : decode cX2_bound 39 = .ok (.aload_n 0, 1) := by decide +kernel
theorem dX2_bound_40 : decode cX2_bound 40 = .ok (.getfield 15, 3) := by decide +kernel
theorem dX2_bound_43 : decode cX2_bound 43 = .ok (.aload_n 0, 1) := by decide +kernel
theorem dX2_bound_44 : decode cX2_bound 44 = .ok (.getfield 143, 3) := by decide +kernel
theorem dX2_bound_47 : decode cX2_bound 47 = .ok (.iload_n 1, 1) := by decide +kernel
theorem dX2_bound_48 : decode cX2_bound 48 = .ok (.iastore, 1) := by decide +kernel
theorem dX2_bound_49 : decode cX2_bound 49 = .ok (.aload_n 0, 1) := by decide +kernel
theorem dX2_bound_50 : decode cX2_bound 50 = .ok (.dup, 1) := by decide +kernel
theorem dX2_bound_51 : decode cX2_bound 51 = .ok (.getfield 143, 3) := by decide +kernel
theorem dX2_bound_54 : decode cX2_bound 54 = .ok (.iconst 1, 1) := by decide +kernel
theorem dX2_bound_55 : decode cX2_bound 55 = .ok (.iadd, 1) := by decide +kernel
theorem dX2_bound_56 : decode cX2_bound 56 = .ok (.putfield 143, 3) := by decide +kernel
theorem dX2_bound_59 : decode cX2_bound 59 = .ok (.aload_n 0, 1) := by decide +kernel
theorem dX2_bound_60 : decode cX2_bound 60 = .ok (.getfield 143, 3) := by decide +kernel
theorem dX2_bound_63 : decode cX2_bound 63 = .ok (.ireturn, 1) := by decide +kernel
theorem dX2_size_0 : decode cX2_size 0 = .ok (.aload_n 0, 1) := by decide +kernel
theorem dX2_size_1 : decode cX2_size 1 = .ok (.iload_n 1, 1) := by decide +kernel
theorem dX2_size_2 : decode cX2_size 2 = .ok (.invokevirtual 53, 3) := by decide +kernel
theorem dX2_size_5 : decode cX2_size 5 = .ok (.aload_n 0, 1) := by decide +kernel
theorem dX2_size_6 : decode cX2_size 6 = .ok (.getfield 37, 3) := by decide +kernel
theorem dX2_size_9 : decode cX2_size 9 = .ok (.sipush 400, 3) := by decide +kernel
theorem dX2_size_12 : decode cX2_size 12 = .ok (.invokevirtual 104, 3) := by decide +kernel
theorem dX2_size_15 : decode cX2_size 15 = .ok (.aload_n 0, 1) := by decide +kernel
theorem dX2_size_16 : decode cX2_size 16 = .ok (.getfield 37, 3) := by decide +kernel
theorem dX2_size_19 : decode cX2_size 19 = .ok (.invokevirtual 107, 3) := by decide +kernel
theorem dX2_size_22 : decode cX2_size 22 = .ok (.lstore_n 2, 1) := by decide +kernel
theorem dX2_size_23 : decode cX2_size 23 = .ok (.iconst 0, 1) := by decide +kernel
theorem dX2_size_24 : decode cX2_size 24 = .ok (.istore 4, 2) := by decide +kernel
theorem dX2_size_26 : decode cX2_size 26 = .ok (.iconst 0, 1) := by decide +kernel
theorem dX2_size_27 : decode cX2_size 27 = .ok (.istore 5, 2) := by decide +kernel
theorem dX2_size_29 : decode cX2_size 29 = .ok (.iload 5, 2) := by decide +kernel
theorem dX2_size_31 : decode cX2_size 31 = .ok (.aload_n 0, 1) := by decide +kernel
theorem dX2_size_32 : decode cX2_size 32 = .ok (.getfield 143, 3) := by decide +kernel
theorem dX2_size_35 : decode cX2_size 35 = .ok (.if_icmp .ge 25, 3) := by decide +kernel
theorem dX2_size_38 : decode cX2_size 38 = .ok (.aload_n 0, 1) := by decide +kernel
theorem dX2_size_39 : decode cX2_size 39 = .ok (.getfield 15, 3) := by decide +kernel
theorem dX2_size_42 : decode cX2_size 42 = .ok (.iload 5, 2) := by decide +kernel
theorem dX2_size_44 : decode cX2_size 44 = .ok (.iaload, 1) := by decide +kernel
theorem dX2_size_45 : decode cX2_size 45 = .ok (.i2l, 1) := by decide +kernel
theorem dX2_size_46 : decode cX2_size 46 = .ok (.lload_n 2, 1) := by decide +kernel
theorem dX2_size_47 : decode cX2_size 47 = .ok (.lcmp, 1) := by decide +kernel
theorem dX2_size_48 : decode cX2_size 48 = .ok (.ifCond .gt 6, 3) := by decide +kernel
theorem dX2_size_51 : decode cX2_size 51 = .ok (.iinc 4 1, 3) := by decide +kernel
theorem dX2_size_54 : decode cX2_size 54 = .ok (.iinc 5 1, 3) := by decide +kernel
theorem dX2_size_57 : decode cX2_size 57 = .ok (.goto (-28), 3) := by decide +kernel
theorem dX2_size_60 : decode cX2_size 60 = .ok (.iload 4, 2) := by decide +kernel
theorem dX2_size_62 : decode cX2_size 62 = .ok (.ireturn, 1) := by decide +kernel
theorem dX2_rim_0 : decode cX2_rim 0 = .ok (.iload_n 1, 1) := by decide +kernel
theorem dX2_rim_1 : decode cX2_rim 1 = .ok (.sipush (-200), 3) := by decide +kernel
theorem dX2_rim_4 : decode cX2_rim 4 = .ok (.if_icmp .lt 24, 3) := by decide +kernel
theorem dX2_rim_7 : decode cX2_rim 7 = .ok (.iload_n 1, 1) := by decide +kernel
theorem dX2_rim_8 : decode cX2_rim 8 = .ok (.sipush 200, 3) := by decide +kernel
theorem dX2_rim_11 : decode cX2_rim 11 = .ok (.if_icmp .gt 17, 3) := by decide +kernel
theorem dX2_rim_14 : decode cX2_rim 14 = .ok (.iload_n 2, 1) := by decide +kernel
theorem dX2_rim_15 : decode cX2_rim 15 = .ok (.sipush (-200), 3) := by decide +kernel
theorem dX2_rim_18 : decode cX2_rim 18 = .ok (.if_icmp .lt 10, 3) := by decide +kernel
theorem dX2_rim_21 : decode cX2_rim 21 = .ok (.iload_n 2, 1) := by decide +kernel
theorem dX2_rim_22 : decode cX2_rim 22 = .ok (.sipush 200, 3) := by decide +kernel
theorem dX2_rim_25 : decode cX2_rim 25 = .ok (.if_icmp .le 13, 3) := by decide +kernel
theorem dX2_rim_28 : decode cX2_rim 28 = .ok (.new 57, 3) := by decide +kernel
theorem dX2_rim_31 : decode cX2_rim 31 = .ok (.dup, 1) := by decide +kernel
theorem dX2_rim_32 : decode cX2_rim 32 = .ok (.ldc 148, 2) := by decide +kernel
theorem dX2_rim_34 : decode cX2_rim 34 = .ok (.invokespecial 61, 3) := by decide +kernel
theorem dX2_rim_37 : decode cX2_rim 37 = .ok (.athrow, 1) := by decide +kernel
theorem dX2_rim_38 : decode cX2_rim 38 = .ok (.aload_n 0, 1) := by decide +kernel
theorem dX2_rim_39 : decode cX2_rim 39 = .ok (.getfield 150, 3) := by decide +kernel
theorem dX2_rim_42 : decode cX2_rim 42 = .ok (.bipush 20, 2) := by decide +kernel
theorem dX2_rim_44 : decode cX2_rim 44 = .ok (.if_icmp .lt 13, 3) := by decide +kernel
theorem dX2_rim_47 : decode cX2_rim 47 = .ok (.new 45, 3) := by decide +kernel
theorem dX2_rim_50 : decode cX2_rim 50 = .ok (.dup, 1) := by decide +kernel
theorem dX2_rim_51 : decode cX2_rim 51 = .ok (.ldc 153, 2) := by decide +kernel
theorem dX2_rim_53 : decode cX2_rim 53 = .ok (.invokespecial 49, 3) := by decide +kernel
theorem dX2_rim_56 : decode cX2_rim 56 = .ok (.athrow, 1) := by decide +kernel
theorem dX2_rim_57 : decode cX2_rim 57 = .ok (.aload_n 0, 1) := by decide +kernel
theorem dX2_rim_58 : decode cX2_rim 58 = .ok (.getfield 19, 3) := by decide +kernel
theorem dX2_rim_61 : decode cX2_rim 61 = .ok (.aload_n 0, 1) := by decide +kernel
theorem dX2_rim_62 : decode cX2_rim 62 = .ok (.getfield 150, 3) := by decide +kernel
theorem dX2_rim_65 : decode cX2_rim 65 = .ok (.iload_n 1, 1) := by decide +kernel
theorem dX2_rim_66 : decode cX2_rim 66 = .ok (.iastore, 1) := by decide +kernel
theorem dX2_rim_67 : decode cX2_rim 67 = .ok (.aload_n 0, 1) := by decide +kernel
theorem dX2_rim_68 : decode cX2_rim 68 = .ok (.getfield 22, 3) := by decide +kernel
theorem dX2_rim_71 : decode cX2_rim 71 = .ok (.aload_n 0, 1) := by decide +kernel
theorem dX2_rim_72 : decode cX2_rim 72 = .ok (.getfield 150, 3) := by decide +kernel
theorem dX2_rim_75 : decode cX2_rim 75 = .ok (.iload_n 2, 1) := by decide +kernel
theorem dX2_rim_76 : decode cX2_rim 76 = .ok (.iastore, 1) := by decide +kernel
theorem dX2_rim_77 : decode cX2_rim 77 = .ok (.aload_n 0, 1) := by decide +kernel
theorem dX2_rim_78 : decode cX2_rim 78 = .ok (.dup, 1) := by decide +kernel
theorem dX2_rim_79 : decode cX2_rim 79 = .ok (.getfield 150, 3) := by decide +kernel
theorem dX2_rim_82 : decode cX2_rim 82 = .ok (.iconst 1, 1) := by decide +kernel
theorem dX2_rim_83 : decode cX2_rim 83 = .ok (.iadd, 1) := by decide +kernel
theorem dX2_rim_84 : decode cX2_rim 84 = .ok (.putfield 150, 3) := by decide +kernel
theorem dX2_rim_87 : decode cX2_rim 87 = .ok (.aload_n 0, 1) := by decide +kernel
theorem dX2_rim_88 : decode cX2_rim 88 = .ok (.getfield 150, 3) := by decide +kernel
theorem dX2_rim_91 : decode cX2_rim 91 = .ok (.ireturn, 1) := by decide +kernel
theorem dX2_clear_0 : decode cX2_clear 0 = .ok (.aload_n 0, 1) := by decide +kernel
theorem dX2_clear_1 : decode cX2_clear 1 = .ok (.getfield 150, 3) := by decide +kernel
theorem dX2_clear_4 : decode cX2_clear 4 = .ok (.istore_n 1, 1) := by decide +kernel
theorem dX2_clear_5 : decode cX2_clear 5 = .ok (.aload_n 0, 1) := by decide +kernel
theorem dX2_clear_6 : decode cX2_clear 6 = .ok (.iconst 0, 1) := by decide +kernel
theorem dX2_clear_7 : decode cX2_clear 7 = .ok (.putfield 150, 3) := by decide +kernel
theorem dX2_clear_10 : decode cX2_clear 10 = .ok (.iload_n 1, 1) := by decide +kernel
theorem dX2_clear_11 : decode cX2_clear 11 = .ok (.ireturn, 1) := by decide +kernel
theorem dX2_circle_0 : decode cX2_circle 0 = .ok (.iload_n 1, 1) := by decide +kernel
theorem dX2_circle_1 : decode cX2_circle 1 = .ok (.invokestatic 74, 3) := by decide +kernel
theorem dX2_circle_4 : decode cX2_circle 4 = .ok (.aload_n 0, 1) := by decide +kernel
theorem dX2_circle_5 : decode cX2_circle 5 = .ok (.invokevirtual 155, 3) := by decide +kernel
theorem dX2_circle_8 : decode cX2_circle 8 = .ok (.aload_n 0, 1) := by decide +kernel
theorem dX2_circle_9 : decode cX2_circle 9 = .ok (.invokevirtual 158, 3) := by decide +kernel
theorem dX2_circle_12 : decode cX2_circle 12 = .ok (.aload_n 0, 1) := by decide +kernel
theorem dX2_circle_13 : decode cX2_circle 13 = .ok (.getfield 37, 3) := by decide +kernel
theorem dX2_circle_16 : decode cX2_circle 16 = .ok (.iload_n 1, 1) := by decide +kernel
theorem dX2_circle_17 : decode cX2_circle 17 = .ok (.invokevirtual 100, 3) := by decide +kernel
theorem dX2_circle_20 : decode cX2_circle 20 = .ok (.lreturn, 1) := by decide +kernel
theorem dX2_curve_0 : decode cX2_curve 0 = .ok (.aload_n 0, 1) := by decide +kernel
theorem dX2_curve_1 : decode cX2_curve 1 = .ok (.invokevirtual 155, 3) := by decide +kernel
theorem dX2_curve_4 : decode cX2_curve 4 = .ok (.aload_n 0, 1) := by decide +kernel
theorem dX2_curve_5 : decode cX2_curve 5 = .ok (.invokevirtual 158, 3) := by decide +kernel
theorem dX2_curve_8 : decode cX2_curve 8 = .ok (.aload_n 0, 1) := by decide +kernel
theorem dX2_curve_9 : decode cX2_curve 9 = .ok (.getfield 37, 3) := by decide +kernel
theorem dX2_curve_12 : decode cX2_curve 12 = .ok (.invokevirtual 161, 3) := by decide +kernel
theorem dX2_curve_15 : decode cX2_curve 15 = .ok (.invokestatic 164, 3) := by decide +kernel
theorem dX2_curve_18 : decode cX2_curve 18 = .ok (.ireturn, 1) := by decide +kernel
theorem dX2_sherd_0 : decode cX2_sherd 0 = .ok (.aload_n 0, 1) := by decide +kernel
theorem dX2_sherd_1 : decode cX2_sherd 1 = .ok (.iload_n 1, 1) := by decide +kernel
theorem dX2_sherd_2 : decode cX2_sherd 2 = .ok (.invokevirtual 168, 3) := by decide +kernel
theorem dX2_sherd_5 : decode cX2_sherd 5 = .ok (.iload_n 2, 1) := by decide +kernel
theorem dX2_sherd_6 : decode cX2_sherd 6 = .ok (.iconst 1, 1) := by decide +kernel
theorem dX2_sherd_7 : decode cX2_sherd 7 = .ok (.if_icmp .lt 10, 3) := by decide +kernel
theorem dX2_sherd_10 : decode cX2_sherd 10 = .ok (.iload_n 2, 1) := by decide +kernel
theorem dX2_sherd_11 : decode cX2_sherd 11 = .ok (.sipush 1000, 3) := by decide +kernel
theorem dX2_sherd_14 : decode cX2_sherd 14 = .ok (.if_icmp .le 13, 3) := by decide +kernel
theorem dX2_sherd_17 : decode cX2_sherd 17 = .ok (.new 57, 3) := by decide +kernel
theorem dX2_sherd_20 : decode cX2_sherd 20 = .ok (.dup, 1) := by decide +kernel
theorem dX2_sherd_21 : decode cX2_sherd 21 = .ok (.ldc 171, 2) := by decide +kernel
theorem dX2_sherd_23 : decode cX2_sherd 23 = .ok (.invokespecial 61, 3) := by decide +kernel
theorem dX2_sherd_26 : decode cX2_sherd 26 = .ok (.athrow, 1) := by decide +kernel
theorem dX2_sherd_27 : decode cX2_sherd 27 = .ok (.aload_n 0, 1) := by decide +kernel
theorem dX2_sherd_28 : decode cX2_sherd 28 = .ok (.getfield 173, 3) := by decide +kernel
theorem dX2_sherd_31 : decode cX2_sherd 31 = .ok (.bipush 60, 2) := by decide +kernel
theorem dX2_sherd_33 : decode cX2_sherd 33 = .ok (.if_icmp .lt 13, 3) := by decide +kernel
theorem dX2_sherd_36 : decode cX2_sherd 36 = .ok (.new 45, 3) := by decide +kernel
theorem dX2_sherd_39 : decode cX2_sherd 39 = .ok (.dup, 1) := by decide +kernel
theorem dX2_sherd_40 : decode cX2_sherd 40 = .ok (.ldc 176, 2) := by decide +kernel
theorem dX2_sherd_42 : decode cX2_sherd 42 = .ok (.invokespecial 49, 3) := by decide +kernel
theorem dX2_sherd_45 : decode cX2_sherd 45 = .ok (.athrow, 1) := by decide +kernel
theorem dX2_sherd_46 : decode cX2_sherd 46 = .ok (.aload_n 0, 1) := by decide +kernel
theorem dX2_sherd_47 : decode cX2_sherd 47 = .ok (.getfield 25, 3) := by decide +kernel
theorem dX2_sherd_50 : decode cX2_sherd 50 = .ok (.aload_n 0, 1) := by decide +kernel
theorem dX2_sherd_51 : decode cX2_sherd 51 = .ok (.getfield 173, 3) := by decide +kernel
theorem dX2_sherd_54 : decode cX2_sherd 54 = .ok (.iload_n 1, 1) := by decide +kernel
theorem dX2_sherd_55 : decode cX2_sherd 55 = .ok (.iastore, 1) := by decide +kernel
theorem dX2_sherd_56 : decode cX2_sherd 56 = .ok (.aload_n 0, 1) := by decide +kernel
theorem dX2_sherd_57 : decode cX2_sherd 57 = .ok (.getfield 28, 3) := by decide +kernel
theorem dX2_sherd_60 : decode cX2_sherd 60 = .ok (.aload_n 0, 1) := by decide +kernel
theorem dX2_sherd_61 : decode cX2_sherd 61 = .ok (.getfield 173, 3) := by decide +kernel
theorem dX2_sherd_64 : decode cX2_sherd 64 = .ok (.iload_n 2, 1) := by decide +kernel
theorem dX2_sherd_65 : decode cX2_sherd 65 = .ok (.iastore, 1) := by decide +kernel
theorem dX2_sherd_66 : decode cX2_sherd 66 = .ok (.aload_n 0, 1) := by decide +kernel
theorem dX2_sherd_67 : decode cX2_sherd 67 = .ok (.dup, 1) := by decide +kernel
theorem dX2_sherd_68 : decode cX2_sherd 68 = .ok (.getfield 173, 3) := by decide +kernel
theorem dX2_sherd_71 : decode cX2_sherd 71 = .ok (.iconst 1, 1) := by decide +kernel
theorem dX2_sherd_72 : decode cX2_sherd 72 = .ok (.iadd, 1) := by decide +kernel
theorem dX2_sherd_73 : decode cX2_sherd 73 = .ok (.putfield 173, 3) := by decide +kernel
theorem dX2_sherd_76 : decode cX2_sherd 76 = .ok (.aload_n 0, 1) := by decide +kernel
theorem dX2_sherd_77 : decode cX2_sherd 77 = .ok (.iload_n 1, 1) := by decide +kernel
theorem dX2_sherd_78 : decode cX2_sherd 78 = .ok (.invokevirtual 178, 3) := by decide +kernel
theorem dX2_sherd_81 : decode cX2_sherd 81 = .ok (.ireturn, 1) := by decide +kernel
theorem dX2_vessels_0 : decode cX2_vessels 0 = .ok (.aload_n 0, 1) := by decide +kernel
theorem dX2_vessels_1 : decode cX2_vessels 1 = .ok (.iload_n 1, 1) := by decide +kernel
theorem dX2_vessels_2 : decode cX2_vessels 2 = .ok (.invokevirtual 168, 3) := by decide +kernel
theorem dX2_vessels_5 : decode cX2_vessels 5 = .ok (.iload_n 2, 1) := by decide +kernel
theorem dX2_vessels_6 : decode cX2_vessels 6 = .ok (.invokestatic 74, 3) := by decide +kernel
theorem dX2_vessels_9 : decode cX2_vessels 9 = .ok (.iload_n 2, 1) := by decide +kernel
theorem dX2_vessels_10 : decode cX2_vessels 10 = .ok (.ifCond .ne 19, 3) := by decide +kernel
theorem dX2_vessels_13 : decode cX2_vessels 13 = .ok (.aload_n 0, 1) := by decide +kernel
theorem dX2_vessels_14 : decode cX2_vessels 14 = .ok (.iload_n 1, 1) := by decide +kernel
theorem dX2_vessels_15 : decode cX2_vessels 15 = .ok (.invokevirtual 178, 3) := by decide +kernel
theorem dX2_vessels_18 : decode cX2_vessels 18 = .ok (.sipush 1000, 3) := by decide +kernel
theorem dX2_vessels_21 : decode cX2_vessels 21 = .ok (.iadd, 1) := by decide +kernel
theorem dX2_vessels_22 : decode cX2_vessels 22 = .ok (.iconst 1, 1) := by decide +kernel
theorem dX2_vessels_23 : decode cX2_vessels 23 = .ok (.isub, 1) := by decide +kernel
theorem dX2_vessels_24 : decode cX2_vessels 24 = .ok (.sipush 1000, 3) := by decide +kernel
theorem dX2_vessels_27 : decode cX2_vessels 27 = .ok (.idiv, 1) := by decide +kernel
theorem dX2_vessels_28 : decode cX2_vessels 28 = .ok (.ireturn, 1) := by decide +kernel
theorem dX2_vessels_29 : decode cX2_vessels 29 = .ok (.aload_n 0, 1) := by decide +kernel
theorem dX2_vessels_30 : decode cX2_vessels 30 = .ok (.iload_n 1, 1) := by decide +kernel
theorem dX2_vessels_31 : decode cX2_vessels 31 = .ok (.invokevirtual 181, 3) := by decide +kernel
theorem dX2_vessels_34 : decode cX2_vessels 34 = .ok (.ireturn, 1) := by decide +kernel
theorem dX2_count_0 : decode cX2_count 0 = .ok (.iload_n 1, 1) := by decide +kernel
theorem dX2_count_1 : decode cX2_count 1 = .ok (.tableswitch 51 0 3 #[31, 36, 41, 46], 31) := by decide +kernel
theorem dX2_count_32 : decode cX2_count 32 = .ok (.aload_n 0, 1) := by decide +kernel
theorem dX2_count_33 : decode cX2_count 33 = .ok (.getfield 41, 3) := by decide +kernel
theorem dX2_count_36 : decode cX2_count 36 = .ok (.ireturn, 1) := by decide +kernel
theorem dX2_count_37 : decode cX2_count 37 = .ok (.aload_n 0, 1) := by decide +kernel
theorem dX2_count_38 : decode cX2_count 38 = .ok (.getfield 143, 3) := by decide +kernel
theorem dX2_count_41 : decode cX2_count 41 = .ok (.ireturn, 1) := by decide +kernel
theorem dX2_count_42 : decode cX2_count 42 = .ok (.aload_n 0, 1) := by decide +kernel
theorem dX2_count_43 : decode cX2_count 43 = .ok (.getfield 150, 3) := by decide +kernel
theorem dX2_count_46 : decode cX2_count 46 = .ok (.ireturn, 1) := by decide +kernel
theorem dX2_count_47 : decode cX2_count 47 = .ok (.aload_n 0, 1) := by decide +kernel
theorem dX2_count_48 : decode cX2_count 48 = .ok (.getfield 173, 3) := by decide +kernel
theorem dX2_count_51 : decode cX2_count 51 = .ok (.ireturn, 1) := by decide +kernel
theorem dX2_count_52 : decode cX2_count 52 = .ok (.new 81, 3) := by decide +kernel
theorem dX2_count_55 : decode cX2_count 55 = .ok (.dup, 1) := by decide +kernel
theorem dX2_count_56 : decode cX2_count 56 = .ok (.ldc 184, 2) := by decide +kernel
theorem dX2_count_58 : decode cX2_count 58 = .ok (.invokespecial 85, 3) := by decide +kernel
theorem dX2_count_61 : decode cX2_count 61 = .ok (.athrow, 1) := by decide +kernel
theorem dX2_profileOf_0 : decode cX2_profileOf 0 = .ok (.iload_n 1, 1) := by decide +kernel
theorem dX2_profileOf_1 : decode cX2_profileOf 1 = .ok (.ifCond .lt 12, 3) := by decide +kernel
theorem dX2_profileOf_4 : decode cX2_profileOf 4 = .ok (.iload_n 1, 1) := by decide +kernel
theorem dX2_profileOf_5 : decode cX2_profileOf 5 = .ok (.aload_n 0, 1) := by decide +kernel
theorem dX2_profileOf_6 : decode cX2_profileOf 6 = .ok (.getfield 11, 3) := by decide +kernel
theorem dX2_profileOf_9 : decode cX2_profileOf 9 = .ok (.arraylength, 1) := by decide +kernel
theorem dX2_profileOf_10 : decode cX2_profileOf 10 = .ok (.if_icmp .lt 13, 3) := by decide +kernel
theorem dX2_profileOf_13 : decode cX2_profileOf 13 = .ok (.new 81, 3) := by decide +kernel
theorem dX2_profileOf_16 : decode cX2_profileOf 16 = .ok (.dup, 1) := by decide +kernel
theorem dX2_profileOf_17 : decode cX2_profileOf 17 = .ok (.ldc 186, 2) := by decide +kernel
theorem dX2_profileOf_19 : decode cX2_profileOf 19 = .ok (.invokespecial 85, 3) := by decide +kernel
theorem dX2_profileOf_22 : decode cX2_profileOf 22 = .ok (.athrow, 1) := by decide +kernel
theorem dX2_profileOf_23 : decode cX2_profileOf 23 = .ok (.aload_n 0, 1) := by decide +kernel
theorem dX2_profileOf_24 : decode cX2_profileOf 24 = .ok (.getfield 11, 3) := by decide +kernel
theorem dX2_profileOf_27 : decode cX2_profileOf 27 = .ok (.iload_n 1, 1) := by decide +kernel
theorem dX2_profileOf_28 : decode cX2_profileOf 28 = .ok (.aaload, 1) := by decide +kernel
theorem dX2_profileOf_29 : decode cX2_profileOf 29 = .ok (.astore_n 2, 1) := by decide +kernel
theorem dX2_profileOf_30 : decode cX2_profileOf 30 = .ok (.aload_n 2, 1) := by decide +kernel
theorem dX2_profileOf_31 : decode cX2_profileOf 31 = .ok (.ifnonnull 13, 3) := by decide +kernel
theorem dX2_profileOf_34 : decode cX2_profileOf 34 = .ok (.new 81, 3) := by decide +kernel
theorem dX2_profileOf_37 : decode cX2_profileOf 37 = .ok (.dup, 1) := by decide +kernel
theorem dX2_profileOf_38 : decode cX2_profileOf 38 = .ok (.ldc 186, 2) := by decide +kernel
theorem dX2_profileOf_40 : decode cX2_profileOf 40 = .ok (.invokespecial 85, 3) := by decide +kernel
theorem dX2_profileOf_43 : decode cX2_profileOf 43 = .ok (.athrow, 1) := by decide +kernel
theorem dX2_profileOf_44 : decode cX2_profileOf 44 = .ok (.aload_n 2, 1) := by decide +kernel
theorem dX2_profileOf_45 : decode cX2_profileOf 45 = .ok (.areturn, 1) := by decide +kernel
theorem dX2_needProfile_0 : decode cX2_needProfile 0 = .ok (.iload_n 1, 1) := by decide +kernel
theorem dX2_needProfile_1 : decode cX2_needProfile 1 = .ok (.ifCond .lt 11, 3) := by decide +kernel
theorem dX2_needProfile_4 : decode cX2_needProfile 4 = .ok (.iload_n 1, 1) := by decide +kernel
theorem dX2_needProfile_5 : decode cX2_needProfile 5 = .ok (.aload_n 0, 1) := by decide +kernel
theorem dX2_needProfile_6 : decode cX2_needProfile 6 = .ok (.getfield 41, 3) := by decide +kernel
theorem dX2_needProfile_9 : decode cX2_needProfile 9 = .ok (.if_icmp .lt 13, 3) := by decide +kernel
theorem dX2_needProfile_12 : decode cX2_needProfile 12 = .ok (.new 81, 3) := by decide +kernel
theorem dX2_needProfile_15 : decode cX2_needProfile 15 = .ok (.dup, 1) := by decide +kernel
theorem dX2_needProfile_16 : decode cX2_needProfile 16 = .ok (.ldc 186, 2) := by decide +kernel
theorem dX2_needProfile_18 : decode cX2_needProfile 18 = .ok (.invokespecial 85, 3) := by decide +kernel
theorem dX2_needProfile_21 : decode cX2_needProfile 21 = .ok (.athrow, 1) := by decide +kernel
theorem dX2_needProfile_22 : decode cX2_needProfile 22 = .ok (.return_, 1) := by decide +kernel
theorem dX2_needOneOfTwo_0 : decode cX2_needOneOfTwo 0 = .ok (.iload_n 0, 1) := by decide +kernel
theorem dX2_needOneOfTwo_1 : decode cX2_needOneOfTwo 1 = .ok (.ifCond .eq 18, 3) := by decide +kernel
theorem dX2_needOneOfTwo_4 : decode cX2_needOneOfTwo 4 = .ok (.iload_n 0, 1) := by decide +kernel
theorem dX2_needOneOfTwo_5 : decode cX2_needOneOfTwo 5 = .ok (.iconst 1, 1) := by decide +kernel
theorem dX2_needOneOfTwo_6 : decode cX2_needOneOfTwo 6 = .ok (.if_icmp .eq 13, 3) := by decide +kernel
theorem dX2_needOneOfTwo_9 : decode cX2_needOneOfTwo 9 = .ok (.new 81, 3) := by decide +kernel
theorem dX2_needOneOfTwo_12 : decode cX2_needOneOfTwo 12 = .ok (.dup, 1) := by decide +kernel
theorem dX2_needOneOfTwo_13 : decode cX2_needOneOfTwo 13 = .ok (.ldc 188, 2) := by decide +kernel
theorem dX2_needOneOfTwo_15 : decode cX2_needOneOfTwo 15 = .ok (.invokespecial 85, 3) := by decide +kernel
theorem dX2_needOneOfTwo_18 : decode cX2_needOneOfTwo 18 = .ok (.athrow, 1) := by decide +kernel
theorem dX2_needOneOfTwo_19 : decode cX2_needOneOfTwo 19 = .ok (.return_, 1) := by decide +kernel
theorem dX2_needCircle_0 : decode cX2_needCircle 0 = .ok (.aload_n 0, 1) := by decide +kernel
theorem dX2_needCircle_1 : decode cX2_needCircle 1 = .ok (.getfield 150, 3) := by decide +kernel
theorem dX2_needCircle_4 : decode cX2_needCircle 4 = .ok (.iconst 3, 1) := by decide +kernel
theorem dX2_needCircle_5 : decode cX2_needCircle 5 = .ok (.if_icmp .ge 13, 3) := by decide +kernel
theorem dX2_needCircle_8 : decode cX2_needCircle 8 = .ok (.new 45, 3) := by decide +kernel
theorem dX2_needCircle_11 : decode cX2_needCircle 11 = .ok (.dup, 1) := by decide +kernel
theorem dX2_needCircle_12 : decode cX2_needCircle 12 = .ok (.ldc 190, 2) := by decide +kernel
theorem dX2_needCircle_14 : decode cX2_needCircle 14 = .ok (.invokespecial 49, 3) := by decide +kernel
theorem dX2_needCircle_17 : decode cX2_needCircle 17 = .ok (.athrow, 1) := by decide +kernel
theorem dX2_needCircle_18 : decode cX2_needCircle 18 = .ok (.return_, 1) := by decide +kernel
theorem dX2_measureCircle_0 : decode cX2_measureCircle 0 = .ok (.aload_n 0, 1) := by decide +kernel
theorem dX2_measureCircle_1 : decode cX2_measureCircle 1 = .ok (.getfield 150, 3) := by decide +kernel
theorem dX2_measureCircle_4 : decode cX2_measureCircle 4 = .ok (.iconst 2, 1) := by decide +kernel
theorem dX2_measureCircle_5 : decode cX2_measureCircle 5 = .ok (.idiv, 1) := by decide +kernel
theorem dX2_measureCircle_6 : decode cX2_measureCircle 6 = .ok (.istore_n 1, 1) := by decide +kernel
theorem dX2_measureCircle_7 : decode cX2_measureCircle 7 = .ok (.aload_n 0, 1) := by decide +kernel
theorem dX2_measureCircle_8 : decode cX2_measureCircle 8 = .ok (.getfield 150, 3) := by decide +kernel
theorem dX2_measureCircle_11 : decode cX2_measureCircle 11 = .ok (.iconst 1, 1) := by decide +kernel
theorem dX2_measureCircle_12 : decode cX2_measureCircle 12 = .ok (.isub, 1) := by decide +kernel
theorem dX2_measureCircle_13 : decode cX2_measureCircle 13 = .ok (.istore_n 2, 1) := by decide +kernel
theorem dX2_measureCircle_14 : decode cX2_measureCircle 14 = .ok (.aload_n 0, 1) := by decide +kernel
theorem dX2_measureCircle_15 : decode cX2_measureCircle 15 = .ok (.getfield 37, 3) := by decide +kernel
theorem dX2_measureCircle_18 : decode cX2_measureCircle 18 = .ok (.invokevirtual 192, 3) := by decide +kernel
theorem dX2_measureCircle_21 : decode cX2_measureCircle 21 = .ok (.iload_n 1, 1) := by decide +kernel
theorem dX2_measureCircle_22 : decode cX2_measureCircle 22 = .ok (.iload_n 2, 1) := by decide +kernel
theorem dX2_measureCircle_23 : decode cX2_measureCircle 23 = .ok (.if_icmp .ge 9, 3) := by decide +kernel
theorem dX2_measureCircle_26 : decode cX2_measureCircle 26 = .ok (.iload_n 2, 1) := by decide +kernel
theorem dX2_measureCircle_27 : decode cX2_measureCircle 27 = .ok (.bipush 20, 2) := by decide +kernel
theorem dX2_measureCircle_29 : decode cX2_measureCircle 29 = .ok (.if_icmp .lt 4, 3) := by decide +kernel
theorem dX2_measureCircle_32 : decode cX2_measureCircle 32 = .ok (.return_, 1) := by decide +kernel
theorem dX2_measureCircle_33 : decode cX2_measureCircle 33 = .ok (.aload_n 0, 1) := by decide +kernel
theorem dX2_measureCircle_34 : decode cX2_measureCircle 34 = .ok (.getfield 19, 3) := by decide +kernel
theorem dX2_measureCircle_37 : decode cX2_measureCircle 37 = .ok (.iload_n 1, 1) := by decide +kernel
theorem dX2_measureCircle_38 : decode cX2_measureCircle 38 = .ok (.iaload, 1) := by decide +kernel
theorem dX2_measureCircle_39 : decode cX2_measureCircle 39 = .ok (.aload_n 0, 1) := by decide +kernel
theorem dX2_measureCircle_40 : decode cX2_measureCircle 40 = .ok (.getfield 19, 3) := by decide +kernel
theorem dX2_measureCircle_43 : decode cX2_measureCircle 43 = .ok (.iconst 0, 1) := by decide +kernel
theorem dX2_measureCircle_44 : decode cX2_measureCircle 44 = .ok (.iaload, 1) := by decide +kernel
theorem dX2_measureCircle_45 : decode cX2_measureCircle 45 = .ok (.isub, 1) := by decide +kernel
theorem dX2_measureCircle_46 : decode cX2_measureCircle 46 = .ok (.i2l, 1) := by decide +kernel
theorem dX2_measureCircle_47 : decode cX2_measureCircle 47 = .ok (.lstore_n 3, 1) := by decide +kernel
theorem dX2_measureCircle_48 : decode cX2_measureCircle 48 = .ok (.aload_n 0, 1) := by decide +kernel
theorem dX2_measureCircle_49 : decode cX2_measureCircle 49 = .ok (.getfield 22, 3) := by decide +kernel
theorem dX2_measureCircle_52 : decode cX2_measureCircle 52 = .ok (.iload_n 1, 1) := by decide +kernel
theorem dX2_measureCircle_53 : decode cX2_measureCircle 53 = .ok (.iaload, 1) := by decide +kernel
theorem dX2_measureCircle_54 : decode cX2_measureCircle 54 = .ok (.aload_n 0, 1) := by decide +kernel
theorem dX2_measureCircle_55 : decode cX2_measureCircle 55 = .ok (.getfield 22, 3) := by decide +kernel
theorem dX2_measureCircle_58 : decode cX2_measureCircle 58 = .ok (.iconst 0, 1) := by decide +kernel
theorem dX2_measureCircle_59 : decode cX2_measureCircle 59 = .ok (.iaload, 1) := by decide +kernel
theorem dX2_measureCircle_60 : decode cX2_measureCircle 60 = .ok (.isub, 1) := by decide +kernel
theorem dX2_measureCircle_61 : decode cX2_measureCircle 61 = .ok (.i2l, 1) := by decide +kernel
theorem dX2_measureCircle_62 : decode cX2_measureCircle 62 = .ok (.lstore 5, 2) := by decide +kernel
theorem dX2_measureCircle_64 : decode cX2_measureCircle 64 = .ok (.aload_n 0, 1) := by decide +kernel
theorem dX2_measureCircle_65 : decode cX2_measureCircle 65 = .ok (.getfield 19, 3) := by decide +kernel
theorem dX2_measureCircle_68 : decode cX2_measureCircle 68 = .ok (.iload_n 2, 1) := by decide +kernel
theorem dX2_measureCircle_69 : decode cX2_measureCircle 69 = .ok (.iaload, 1) := by decide +kernel
theorem dX2_measureCircle_70 : decode cX2_measureCircle 70 = .ok (.aload_n 0, 1) := by decide +kernel
theorem dX2_measureCircle_71 : decode cX2_measureCircle 71 = .ok (.getfield 19, 3) := by decide +kernel
theorem dX2_measureCircle_74 : decode cX2_measureCircle 74 = .ok (.iconst 0, 1) := by decide +kernel
theorem dX2_measureCircle_75 : decode cX2_measureCircle 75 = .ok (.iaload, 1) := by decide +kernel
theorem dX2_measureCircle_76 : decode cX2_measureCircle 76 = .ok (.isub, 1) := by decide +kernel
theorem dX2_measureCircle_77 : decode cX2_measureCircle 77 = .ok (.i2l, 1) := by decide +kernel
theorem dX2_measureCircle_78 : decode cX2_measureCircle 78 = .ok (.lstore 7, 2) := by decide +kernel
theorem dX2_measureCircle_80 : decode cX2_measureCircle 80 = .ok (.aload_n 0, 1) := by decide +kernel
theorem dX2_measureCircle_81 : decode cX2_measureCircle 81 = .ok (.getfield 22, 3) := by decide +kernel
theorem dX2_measureCircle_84 : decode cX2_measureCircle 84 = .ok (.iload_n 2, 1) := by decide +kernel
theorem dX2_measureCircle_85 : decode cX2_measureCircle 85 = .ok (.iaload, 1) := by decide +kernel
theorem dX2_measureCircle_86 : decode cX2_measureCircle 86 = .ok (.aload_n 0, 1) := by decide +kernel
theorem dX2_measureCircle_87 : decode cX2_measureCircle 87 = .ok (.getfield 22, 3) := by decide +kernel
theorem dX2_measureCircle_90 : decode cX2_measureCircle 90 = .ok (.iconst 0, 1) := by decide +kernel
theorem dX2_measureCircle_91 : decode cX2_measureCircle 91 = .ok (.iaload, 1) := by decide +kernel
theorem dX2_measureCircle_92 : decode cX2_measureCircle 92 = .ok (.isub, 1) := by decide +kernel
theorem dX2_measureCircle_93 : decode cX2_measureCircle 93 = .ok (.i2l, 1) := by decide +kernel
theorem dX2_measureCircle_94 : decode cX2_measureCircle 94 = .ok (.lstore 9, 2) := by decide +kernel
theorem dX2_measureCircle_96 : decode cX2_measureCircle 96 = .ok (.lload_n 3, 1) := by decide +kernel
theorem dX2_measureCircle_97 : decode cX2_measureCircle 97 = .ok (.lload 9, 2) := by decide +kernel
theorem dX2_measureCircle_99 : decode cX2_measureCircle 99 = .ok (.lmul, 1) := by decide +kernel
theorem dX2_measureCircle_100 : decode cX2_measureCircle 100 = .ok (.lload 5, 2) := by decide +kernel
theorem dX2_measureCircle_102 : decode cX2_measureCircle 102 = .ok (.lload 7, 2) := by decide +kernel
theorem dX2_measureCircle_104 : decode cX2_measureCircle 104 = .ok (.lmul, 1) := by decide +kernel
theorem dX2_measureCircle_105 : decode cX2_measureCircle 105 = .ok (.lsub, 1) := by decide +kernel
theorem dX2_measureCircle_106 : decode cX2_measureCircle 106 = .ok (.lstore 11, 2) := by decide +kernel
theorem dX2_measureCircle_108 : decode cX2_measureCircle 108 = .ok (.lload 11, 2) := by decide +kernel
theorem dX2_measureCircle_110 : decode cX2_measureCircle 110 = .ok (.lconst 0, 1) := by decide +kernel
theorem dX2_measureCircle_111 : decode cX2_measureCircle 111 = .ok (.lcmp, 1) := by decide +kernel
theorem dX2_measureCircle_112 : decode cX2_measureCircle 112 = .ok (.ifCond .ne 4, 3) := by decide +kernel
theorem dX2_measureCircle_115 : decode cX2_measureCircle 115 = .ok (.return_, 1) := by decide +kernel
theorem dX2_measureCircle_116 : decode cX2_measureCircle 116 = .ok (.lload_n 3, 1) := by decide +kernel
theorem dX2_measureCircle_117 : decode cX2_measureCircle 117 = .ok (.lload 5, 2) := by decide +kernel
theorem dX2_measureCircle_119 : decode cX2_measureCircle 119 = .ok (.invokestatic 195, 3) := by decide +kernel
theorem dX2_measureCircle_122 : decode cX2_measureCircle 122 = .ok (.lload 7, 2) := by decide +kernel
theorem dX2_measureCircle_124 : decode cX2_measureCircle 124 = .ok (.lload 9, 2) := by decide +kernel
theorem dX2_measureCircle_126 : decode cX2_measureCircle 126 = .ok (.invokestatic 195, 3) := by decide +kernel
theorem dX2_measureCircle_129 : decode cX2_measureCircle 129 = .ok (.lmul, 1) := by decide +kernel
theorem dX2_measureCircle_130 : decode cX2_measureCircle 130 = .ok (.lload 7, 2) := by decide +kernel
theorem dX2_measureCircle_132 : decode cX2_measureCircle 132 = .ok (.lload_n 3, 1) := by decide +kernel
theorem dX2_measureCircle_133 : decode cX2_measureCircle 133 = .ok (.lsub, 1) := by decide +kernel
theorem dX2_measureCircle_134 : decode cX2_measureCircle 134 = .ok (.lload 9, 2) := by decide +kernel
theorem dX2_measureCircle_136 : decode cX2_measureCircle 136 = .ok (.lload 5, 2) := by decide +kernel
theorem dX2_measureCircle_138 : decode cX2_measureCircle 138 = .ok (.lsub, 1) := by decide +kernel
theorem dX2_measureCircle_139 : decode cX2_measureCircle 139 = .ok (.invokestatic 195, 3) := by decide +kernel
theorem dX2_measureCircle_142 : decode cX2_measureCircle 142 = .ok (.lmul, 1) := by decide +kernel
theorem dX2_measureCircle_143 : decode cX2_measureCircle 143 = .ok (.lstore 13, 2) := by decide +kernel
theorem dX2_measureCircle_145 : decode cX2_measureCircle 145 = .ok (.aload_n 0, 1) := by decide +kernel
theorem dX2_measureCircle_146 : decode cX2_measureCircle 146 = .ok (.getfield 37, 3) := by decide +kernel
theorem dX2_measureCircle_149 : decode cX2_measureCircle 149 = .ok (.lload 13, 2) := by decide +kernel
theorem dX2_measureCircle_151 : decode cX2_measureCircle 151 = .ok (.ldc2_w 199, 3) := by decide +kernel
theorem dX2_measureCircle_154 : decode cX2_measureCircle 154 = .ok (.lload 11, 2) := by decide +kernel
theorem dX2_measureCircle_156 : decode cX2_measureCircle 156 = .ok (.lmul, 1) := by decide +kernel
theorem dX2_measureCircle_157 : decode cX2_measureCircle 157 = .ok (.lload 11, 2) := by decide +kernel
theorem dX2_measureCircle_159 : decode cX2_measureCircle 159 = .ok (.lmul, 1) := by decide +kernel
theorem dX2_measureCircle_160 : decode cX2_measureCircle 160 = .ok (.invokevirtual 201, 3) := by decide +kernel
theorem dX2_measureCircle_163 : decode cX2_measureCircle 163 = .ok (.return_, 1) := by decide +kernel
theorem dX2_squareOfLength_0 : decode cX2_squareOfLength 0 = .ok (.lload_n 0, 1) := by decide +kernel
theorem dX2_squareOfLength_1 : decode cX2_squareOfLength 1 = .ok (.lload_n 0, 1) := by decide +kernel
theorem dX2_squareOfLength_2 : decode cX2_squareOfLength 2 = .ok (.lmul, 1) := by decide +kernel
theorem dX2_squareOfLength_3 : decode cX2_squareOfLength 3 = .ok (.lload_n 2, 1) := by decide +kernel
theorem dX2_squareOfLength_4 : decode cX2_squareOfLength 4 = .ok (.lload_n 2, 1) := by decide +kernel
theorem dX2_squareOfLength_5 : decode cX2_squareOfLength 5 = .ok (.lmul, 1) := by decide +kernel
theorem dX2_squareOfLength_6 : decode cX2_squareOfLength 6 = .ok (.ladd, 1) := by decide +kernel
theorem dX2_squareOfLength_7 : decode cX2_squareOfLength 7 = .ok (.lreturn, 1) := by decide +kernel
theorem dX2_rootDown_0 : decode cX2_rootDown 0 = .ok (.iconst 0, 1) := by decide +kernel
theorem dX2_rootDown_1 : decode cX2_rootDown 1 = .ok (.istore_n 2, 1) := by decide +kernel
theorem dX2_rootDown_2 : decode cX2_rootDown 2 = .ok (.bipush 26, 2) := by decide +kernel
theorem dX2_rootDown_4 : decode cX2_rootDown 4 = .ok (.istore_n 3, 1) := by decide +kernel
theorem dX2_rootDown_5 : decode cX2_rootDown 5 = .ok (.iload_n 3, 1) := by decide +kernel
theorem dX2_rootDown_6 : decode cX2_rootDown 6 = .ok (.ifCond .lt 31, 3) := by decide +kernel
theorem dX2_rootDown_9 : decode cX2_rootDown 9 = .ok (.iload_n 2, 1) := by decide +kernel
theorem dX2_rootDown_10 : decode cX2_rootDown 10 = .ok (.iconst 1, 1) := by decide +kernel
theorem dX2_rootDown_11 : decode cX2_rootDown 11 = .ok (.iload_n 3, 1) := by decide +kernel
theorem dX2_rootDown_12 : decode cX2_rootDown 12 = .ok (.ishl, 1) := by decide +kernel
theorem dX2_rootDown_13 : decode cX2_rootDown 13 = .ok (.ior, 1) := by decide +kernel
theorem dX2_rootDown_14 : decode cX2_rootDown 14 = .ok (.i2l, 1) := by decide +kernel
theorem dX2_rootDown_15 : decode cX2_rootDown 15 = .ok (.lstore 4, 2) := by decide +kernel
theorem dX2_rootDown_17 : decode cX2_rootDown 17 = .ok (.lload 4, 2) := by decide +kernel
theorem dX2_rootDown_19 : decode cX2_rootDown 19 = .ok (.lload 4, 2) := by decide +kernel
theorem dX2_rootDown_21 : decode cX2_rootDown 21 = .ok (.lmul, 1) := by decide +kernel
theorem dX2_rootDown_22 : decode cX2_rootDown 22 = .ok (.lload_n 0, 1) := by decide +kernel
theorem dX2_rootDown_23 : decode cX2_rootDown 23 = .ok (.lcmp, 1) := by decide +kernel
theorem dX2_rootDown_24 : decode cX2_rootDown 24 = .ok (.ifCond .gt 7, 3) := by decide +kernel
theorem dX2_rootDown_27 : decode cX2_rootDown 27 = .ok (.lload 4, 2) := by decide +kernel
theorem dX2_rootDown_29 : decode cX2_rootDown 29 = .ok (.l2i, 1) := by decide +kernel
theorem dX2_rootDown_30 : decode cX2_rootDown 30 = .ok (.istore_n 2, 1) := by decide +kernel
theorem dX2_rootDown_31 : decode cX2_rootDown 31 = .ok (.iinc 3 (-1), 3) := by decide +kernel
theorem dX2_rootDown_34 : decode cX2_rootDown 34 = .ok (.goto (-29), 3) := by decide +kernel
theorem dX2_rootDown_37 : decode cX2_rootDown 37 = .ok (.iload_n 2, 1) := by decide +kernel
theorem dX2_rootDown_38 : decode cX2_rootDown 38 = .ok (.ireturn, 1) := by decide +kernel
theorem dX2_sumOfShares_0 : decode cX2_sumOfShares 0 = .ok (.iconst 0, 1) := by decide +kernel
theorem dX2_sumOfShares_1 : decode cX2_sumOfShares 1 = .ok (.istore_n 2, 1) := by decide +kernel
theorem dX2_sumOfShares_2 : decode cX2_sumOfShares 2 = .ok (.iconst 0, 1) := by decide +kernel
theorem dX2_sumOfShares_3 : decode cX2_sumOfShares 3 = .ok (.istore_n 3, 1) := by decide +kernel
theorem dX2_sumOfShares_4 : decode cX2_sumOfShares 4 = .ok (.iload_n 3, 1) := by decide +kernel
theorem dX2_sumOfShares_5 : decode cX2_sumOfShares 5 = .ok (.aload_n 0, 1) := by decide +kernel
theorem dX2_sumOfShares_6 : decode cX2_sumOfShares 6 = .ok (.getfield 173, 3) := by decide +kernel
theorem dX2_sumOfShares_9 : decode cX2_sumOfShares 9 = .ok (.if_icmp .ge 28, 3) := by decide +kernel
theorem dX2_sumOfShares_12 : decode cX2_sumOfShares 12 = .ok (.aload_n 0, 1) := by decide +kernel
theorem dX2_sumOfShares_13 : decode cX2_sumOfShares 13 = .ok (.getfield 25, 3) := by decide +kernel
theorem dX2_sumOfShares_16 : decode cX2_sumOfShares 16 = .ok (.iload_n 3, 1) := by decide +kernel
theorem dX2_sumOfShares_17 : decode cX2_sumOfShares 17 = .ok (.iaload, 1) := by decide +kernel
theorem dX2_sumOfShares_18 : decode cX2_sumOfShares 18 = .ok (.iload_n 1, 1) := by decide +kernel
theorem dX2_sumOfShares_19 : decode cX2_sumOfShares 19 = .ok (.if_icmp .ne 12, 3) := by decide +kernel
theorem dX2_sumOfShares_22 : decode cX2_sumOfShares 22 = .ok (.iload_n 2, 1) := by decide +kernel
theorem dX2_sumOfShares_23 : decode cX2_sumOfShares 23 = .ok (.aload_n 0, 1) := by decide +kernel
theorem dX2_sumOfShares_24 : decode cX2_sumOfShares 24 = .ok (.getfield 28, 3) := by decide +kernel
theorem dX2_sumOfShares_27 : decode cX2_sumOfShares 27 = .ok (.iload_n 3, 1) := by decide +kernel
theorem dX2_sumOfShares_28 : decode cX2_sumOfShares 28 = .ok (.iaload, 1) := by decide +kernel
theorem dX2_sumOfShares_29 : decode cX2_sumOfShares 29 = .ok (.iadd, 1) := by decide +kernel
theorem dX2_sumOfShares_30 : decode cX2_sumOfShares 30 = .ok (.istore_n 2, 1) := by decide +kernel
theorem dX2_sumOfShares_31 : decode cX2_sumOfShares 31 = .ok (.iinc 3 1, 3) := by decide +kernel
theorem dX2_sumOfShares_34 : decode cX2_sumOfShares 34 = .ok (.goto (-30), 3) := by decide +kernel
theorem dX2_sumOfShares_37 : decode cX2_sumOfShares 37 = .ok (.iload_n 2, 1) := by decide +kernel
theorem dX2_sumOfShares_38 : decode cX2_sumOfShares 38 = .ok (.ireturn, 1) := by decide +kernel
theorem dX2_vesselsBySherds_0 : decode cX2_vesselsBySherds 0 = .ok (.iconst 0, 1) := by decide +kernel
theorem dX2_vesselsBySherds_1 : decode cX2_vesselsBySherds 1 = .ok (.istore_n 2, 1) := by decide +kernel
theorem dX2_vesselsBySherds_2 : decode cX2_vesselsBySherds 2 = .ok (.iconst 0, 1) := by decide +kernel
theorem dX2_vesselsBySherds_3 : decode cX2_vesselsBySherds 3 = .ok (.istore_n 3, 1) := by decide +kernel
theorem dX2_vesselsBySherds_4 : decode cX2_vesselsBySherds 4 = .ok (.iload_n 3, 1) := by decide +kernel
theorem dX2_vesselsBySherds_5 : decode cX2_vesselsBySherds 5 = .ok (.aload_n 0, 1) := by decide +kernel
theorem dX2_vesselsBySherds_6 : decode cX2_vesselsBySherds 6 = .ok (.getfield 173, 3) := by decide +kernel
theorem dX2_vesselsBySherds_9 : decode cX2_vesselsBySherds 9 = .ok (.if_icmp .ge 68, 3) := by decide +kernel
theorem dX2_vesselsBySherds_12 : decode cX2_vesselsBySherds 12 = .ok (.aload_n 0, 1) := by decide +kernel
theorem dX2_vesselsBySherds_13 : decode cX2_vesselsBySherds 13 = .ok (.getfield 25, 3) := by decide +kernel
theorem dX2_vesselsBySherds_16 : decode cX2_vesselsBySherds 16 = .ok (.iload_n 3, 1) := by decide +kernel
theorem dX2_vesselsBySherds_17 : decode cX2_vesselsBySherds 17 = .ok (.iaload, 1) := by decide +kernel
theorem dX2_vesselsBySherds_18 : decode cX2_vesselsBySherds 18 = .ok (.iload_n 1, 1) := by decide +kernel
theorem dX2_vesselsBySherds_19 : decode cX2_vesselsBySherds 19 = .ok (.if_icmp .eq 6, 3) := by decide +kernel
theorem dX2_vesselsBySherds_22 : decode cX2_vesselsBySherds 22 = .ok (.goto 49, 3) := by decide +kernel
theorem dX2_vesselsBySherds_25 : decode cX2_vesselsBySherds 25 = .ok (.aload_n 0, 1) := by decide +kernel
theorem dX2_vesselsBySherds_26 : decode cX2_vesselsBySherds 26 = .ok (.iload_n 2, 1) := by decide +kernel
theorem dX2_vesselsBySherds_27 : decode cX2_vesselsBySherds 27 = .ok (.aload_n 0, 1) := by decide +kernel
theorem dX2_vesselsBySherds_28 : decode cX2_vesselsBySherds 28 = .ok (.getfield 28, 3) := by decide +kernel
theorem dX2_vesselsBySherds_31 : decode cX2_vesselsBySherds 31 = .ok (.iload_n 3, 1) := by decide +kernel
theorem dX2_vesselsBySherds_32 : decode cX2_vesselsBySherds 32 = .ok (.iaload, 1) := by decide +kernel
theorem dX2_vesselsBySherds_33 : decode cX2_vesselsBySherds 33 = .ok (.invokevirtual 205, 3) := by decide +kernel
theorem dX2_vesselsBySherds_36 : decode cX2_vesselsBySherds 36 = .ok (.istore 4, 2) := by decide +kernel
theorem dX2_vesselsBySherds_38 : decode cX2_vesselsBySherds 38 = .ok (.iload 4, 2) := by decide +kernel
theorem dX2_vesselsBySherds_40 : decode cX2_vesselsBySherds 40 = .ok (.iload_n 2, 1) := by decide +kernel
theorem dX2_vesselsBySherds_41 : decode cX2_vesselsBySherds 41 = .ok (.if_icmp .ne 14, 3) := by decide +kernel
theorem dX2_vesselsBySherds_44 : decode cX2_vesselsBySherds 44 = .ok (.aload_n 0, 1) := by decide +kernel
theorem dX2_vesselsBySherds_45 : decode cX2_vesselsBySherds 45 = .ok (.getfield 31, 3) := by decide +kernel
theorem dX2_vesselsBySherds_48 : decode cX2_vesselsBySherds 48 = .ok (.iload 4, 2) := by decide +kernel
theorem dX2_vesselsBySherds_50 : decode cX2_vesselsBySherds 50 = .ok (.iconst 0, 1) := by decide +kernel
theorem dX2_vesselsBySherds_51 : decode cX2_vesselsBySherds 51 = .ok (.iastore, 1) := by decide +kernel
theorem dX2_vesselsBySherds_52 : decode cX2_vesselsBySherds 52 = .ok (.iinc 2 1, 3) := by decide +kernel
theorem dX2_vesselsBySherds_55 : decode cX2_vesselsBySherds 55 = .ok (.aload_n 0, 1) := by decide +kernel
theorem dX2_vesselsBySherds_56 : decode cX2_vesselsBySherds 56 = .ok (.getfield 31, 3) := by decide +kernel
theorem dX2_vesselsBySherds_59 : decode cX2_vesselsBySherds 59 = .ok (.iload 4, 2) := by decide +kernel
theorem dX2_vesselsBySherds_61 : decode cX2_vesselsBySherds 61 = .ok (.dup2, 1) := by decide +kernel
theorem dX2_vesselsBySherds_62 : decode cX2_vesselsBySherds 62 = .ok (.iaload, 1) := by decide +kernel
theorem dX2_vesselsBySherds_63 : decode cX2_vesselsBySherds 63 = .ok (.aload_n 0, 1) := by decide +kernel
theorem dX2_vesselsBySherds_64 : decode cX2_vesselsBySherds 64 = .ok (.getfield 28, 3) := by decide +kernel
theorem dX2_vesselsBySherds_67 : decode cX2_vesselsBySherds 67 = .ok (.iload_n 3, 1) := by decide +kernel
theorem dX2_vesselsBySherds_68 : decode cX2_vesselsBySherds 68 = .ok (.iaload, 1) := by decide +kernel
theorem dX2_vesselsBySherds_69 : decode cX2_vesselsBySherds 69 = .ok (.iadd, 1) := by decide +kernel
theorem dX2_vesselsBySherds_70 : decode cX2_vesselsBySherds 70 = .ok (.iastore, 1) := by decide +kernel
theorem dX2_vesselsBySherds_71 : decode cX2_vesselsBySherds 71 = .ok (.iinc 3 1, 3) := by decide +kernel
theorem dX2_vesselsBySherds_74 : decode cX2_vesselsBySherds 74 = .ok (.goto (-70), 3) := by decide +kernel
theorem dX2_vesselsBySherds_77 : decode cX2_vesselsBySherds 77 = .ok (.iload_n 2, 1) := by decide +kernel
theorem dX2_vesselsBySherds_78 : decode cX2_vesselsBySherds 78 = .ok (.ireturn, 1) := by decide +kernel
theorem dX2_firstWithRoom_0 : decode cX2_firstWithRoom 0 = .ok (.iconst 0, 1) := by decide +kernel
theorem dX2_firstWithRoom_1 : decode cX2_firstWithRoom 1 = .ok (.istore_n 3, 1) := by decide +kernel
theorem dX2_firstWithRoom_2 : decode cX2_firstWithRoom 2 = .ok (.iload_n 3, 1) := by decide +kernel
theorem dX2_firstWithRoom_3 : decode cX2_firstWithRoom 3 = .ok (.iload_n 1, 1) := by decide +kernel
theorem dX2_firstWithRoom_4 : decode cX2_firstWithRoom 4 = .ok (.if_icmp .ge 25, 3) := by decide +kernel
theorem dX2_firstWithRoom_7 : decode cX2_firstWithRoom 7 = .ok (.aload_n 0, 1) := by decide +kernel
theorem dX2_firstWithRoom_8 : decode cX2_firstWithRoom 8 = .ok (.getfield 31, 3) := by decide +kernel
theorem dX2_firstWithRoom_11 : decode cX2_firstWithRoom 11 = .ok (.iload_n 3, 1) := by decide +kernel
theorem dX2_firstWithRoom_12 : decode cX2_firstWithRoom 12 = .ok (.iaload, 1) := by decide +kernel
theorem dX2_firstWithRoom_13 : decode cX2_firstWithRoom 13 = .ok (.iload_n 2, 1) := by decide +kernel
theorem dX2_firstWithRoom_14 : decode cX2_firstWithRoom 14 = .ok (.iadd, 1) := by decide +kernel
theorem dX2_firstWithRoom_15 : decode cX2_firstWithRoom 15 = .ok (.sipush 1000, 3) := by decide +kernel
theorem dX2_firstWithRoom_18 : decode cX2_firstWithRoom 18 = .ok (.if_icmp .gt 5, 3) := by decide +kernel
theorem dX2_firstWithRoom_21 : decode cX2_firstWithRoom 21 = .ok (.iload_n 3, 1) := by decide +kernel
theorem dX2_firstWithRoom_22 : decode cX2_firstWithRoom 22 = .ok (.ireturn, 1) := by decide +kernel
theorem dX2_firstWithRoom_23 : decode cX2_firstWithRoom 23 = .ok (.iinc 3 1, 3) := by decide +kernel
theorem dX2_firstWithRoom_26 : decode cX2_firstWithRoom 26 = .ok (.goto (-24), 3) := by decide +kernel
theorem dX2_firstWithRoom_29 : decode cX2_firstWithRoom 29 = .ok (.iload_n 1, 1) := by decide +kernel
theorem dX2_firstWithRoom_30 : decode cX2_firstWithRoom 30 = .ok (.ireturn, 1) := by decide +kernel
end
section
theorem dX3_init_0 : decode cX3_init 0 = .ok (.aload_n 0, 1) := by decide +kernel
theorem dX3_init_1 : decode cX3_init 1 = .ok (.invokespecial 1, 3) := by decide +kernel
theorem dX3_init_4 : decode cX3_init 4 = .ok (.aload_n 0, 1) := by decide +kernel
theorem dX3_init_5 : decode cX3_init 5 = .ok (.bipush 6, 2) := by decide +kernel
theorem dX3_init_7 : decode cX3_init 7 = .ok (.newarray .int, 2) := by decide +kernel
theorem dX3_init_9 : decode cX3_init 9 = .ok (.putfield 7, 3) := by decide +kernel
theorem dX3_init_12 : decode cX3_init 12 = .ok (.aload_n 0, 1) := by decide +kernel
theorem dX3_init_13 : decode cX3_init 13 = .ok (.bipush 72, 2) := by decide +kernel
theorem dX3_init_15 : decode cX3_init 15 = .ok (.newarray .int, 2) := by decide +kernel
theorem dX3_init_17 : decode cX3_init 17 = .ok (.putfield 13, 3) := by decide +kernel
theorem dX3_init_20 : decode cX3_init 20 = .ok (.aload_n 0, 1) := by decide +kernel
theorem dX3_init_21 : decode cX3_init 21 = .ok (.bipush 72, 2) := by decide +kernel
theorem dX3_init_23 : decode cX3_init 23 = .ok (.newarray .int, 2) := by decide +kernel
theorem dX3_init_25 : decode cX3_init 25 = .ok (.putfield 16, 3) := by decide +kernel
theorem dX3_init_28 : decode cX3_init 28 = .ok (.aload_n 0, 1) := by decide +kernel
theorem dX3_init_29 : decode cX3_init 29 = .ok (.bipush 6, 2) := by decide +kernel
theorem dX3_init_31 : decode cX3_init 31 = .ok (.newarray .boolean, 2) := by decide +kernel
theorem dX3_init_33 : decode cX3_init 33 = .ok (.putfield 19, 3) := by decide +kernel
theorem dX3_init_36 : decode cX3_init 36 = .ok (.aload_n 0, 1) := by decide +kernel
theorem dX3_init_37 : decode cX3_init 37 = .ok (.bipush 6, 2) := by decide +kernel
theorem dX3_init_39 : decode cX3_init 39 = .ok (.newarray .int, 2) := by decide +kernel
theorem dX3_init_41 : decode cX3_init 41 = .ok (.putfield 23, 3) := by decide +kernel
theorem dX3_init_44 : decode cX3_init 44 = .ok (.aload_n 0, 1) := by decide +kernel
theorem dX3_init_45 : decode cX3_init 45 = .ok (.bipush 10, 2) := by decide +kernel
theorem dX3_init_47 : decode cX3_init 47 = .ok (.newarray .int, 2) := by decide +kernel
theorem dX3_init_49 : decode cX3_init 49 = .ok (.putfield 26, 3) := by decide +kernel
theorem dX3_init_52 : decode cX3_init 52 = .ok (.aload_n 0, 1) := by decide +kernel
theorem dX3_init_53 : decode cX3_init 53 = .ok (.bipush 20, 2) := by decide +kernel
theorem dX3_init_55 : decode cX3_init 55 = .ok (.newarray .int, 2) := by decide +kernel
theorem dX3_init_57 : decode cX3_init 57 = .ok (.putfield 29, 3) := by decide +kernel
theorem dX3_init_60 : decode cX3_init 60 = .ok (.aload_n 0, 1) := by decide +kernel
theorem dX3_init_61 : decode cX3_init 61 = .ok (.bipush 20, 2) := by decide +kernel
theorem dX3_init_63 : decode cX3_init 63 = .ok (.newarray .int, 2) := by decide +kernel
theorem dX3_init_65 : decode cX3_init 65 = .ok (.putfield 32, 3) := by decide +kernel
theorem dX3_init_68 : decode cX3_init 68 = .ok (.aload_n 0, 1) := by decide +kernel
theorem dX3_init_69 : decode cX3_init 69 = .ok (.bipush 60, 2) := by decide +kernel
theorem dX3_init_71 : decode cX3_init 71 = .ok (.newarray .int, 2) := by decide +kernel
theorem dX3_init_73 : decode cX3_init 73 = .ok (.putfield 35, 3) := by decide +kernel
theorem dX3_init_76 : decode cX3_init 76 = .ok (.aload_n 0, 1) := by decide +kernel
theorem dX3_init_77 : decode cX3_init 77 = .ok (.bipush 60, 2) := by decide +kernel
theorem dX3_init_79 : decode cX3_init 79 = .ok (.newarray .int, 2) := by decide +kernel
theorem dX3_init_81 : decode cX3_init 81 = .ok (.putfield 38, 3) := by decide +kernel
theorem dX3_init_84 : decode cX3_init 84 = .ok (.aload_n 0, 1) := by decide +kernel
theorem dX3_init_85 : decode cX3_init 85 = .ok (.bipush 60, 2) := by decide +kernel
theorem dX3_init_87 : decode cX3_init 87 = .ok (.newarray .int, 2) := by decide +kernel
theorem dX3_init_89 : decode cX3_init 89 = .ok (.putfield 41, 3) := by decide +kernel
theorem dX3_init_92 : decode cX3_init 92 = .ok (.aload_n 0, 1) := by decide +kernel
theorem dX3_init_93 : decode cX3_init 93 = .ok (.lconst 1, 1) := by decide +kernel
theorem dX3_init_94 : decode cX3_init 94 = .ok (.putfield 44, 3) := by decide +kernel
theorem dX3_init_97 : decode cX3_init 97 = .ok (.return_, 1) := by decide +kernel
theorem dX3_thrown_0 : decode cX3_thrown 0 = .ok (.aload_n 0, 1) := by decide +kernel
theorem dX3_thrown_1 : decode cX3_thrown 1 = .ok (.getfield 48, 3) := by decide +kernel
theorem dX3_thrown_4 : decode cX3_thrown 4 = .ok (.ireturn, 1) := by decide +kernel
theorem dX3_throwing_0 : decode cX3_throwing 0 = .ok (.aload_n 0, 1) := by decide +kernel
theorem dX3_throwing_1 : decode cX3_throwing 1 = .ok (.iload_n 1, 1) := by decide +kernel
theorem dX3_throwing_2 : decode cX3_throwing 2 = .ok (.ifCond .eq 7, 3) := by decide +kernel
theorem dX3_throwing_5 : decode cX3_throwing 5 = .ok (.iconst 1, 1) := by decide +kernel
theorem dX3_throwing_6 : decode cX3_throwing 6 = .ok (.goto 20, 3) := by decide +kernel
theorem dX3_throwing_9 : decode cX3_throwing 9 = .ok (.iload_n 2, 1) := by decide +kernel
theorem dX3_throwing_10 : decode cX3_throwing 10 = .ok (.ifCond .eq 7, 3) := by decide +kernel
theorem dX3_throwing_13 : decode cX3_throwing 13 = .ok (.iconst 2, 1) := by decide +kernel
theorem dX3_throwing_14 : decode cX3_throwing 14 = .ok (.goto 12, 3) := by decide +kernel
theorem dX3_throwing_17 : decode cX3_throwing 17 = .ok (.iload_n 3, 1) := by decide +kernel
theorem dX3_throwing_18 : decode cX3_throwing 18 = .ok (.ifCond .eq 7, 3) := by decide +kernel
theorem dX3_throwing_21 : decode cX3_throwing 21 = .ok (.iconst 3, 1) := by decide +kernel
theorem dX3_throwing_22 : decode cX3_throwing 22 = .ok (.goto 4, 3) := by decide +kernel
theorem dX3_throwing_25 : decode cX3_throwing 25 = .ok (.iconst 0, 1) := by decide +kernel
theorem dX3_throwing_26 : decode cX3_throwing 26 = .ok (.putfield 48, 3) := by decide +kernel
theorem dX3_throwing_29 : decode cX3_throwing 29 = .ok (.aload_n 0, 1) := by decide +kernel
theorem dX3_throwing_30 : decode cX3_throwing 30 = .ok (.getfield 48, 3) := by decide +kernel
theorem dX3_throwing_33 : decode cX3_throwing 33 = .ok (.ifCond .le 7, 3) := by decide +kernel
theorem dX3_throwing_36 : decode cX3_throwing 36 = .ok (.iconst 1, 1) := by decide +kernel
theorem dX3_throwing_37 : decode cX3_throwing 37 = .ok (.goto 4, 3) := by decide +kernel
theorem dX3_throwing_40 : decode cX3_throwing 40 = .ok (.iconst 0, 1) := by decide +kernel
theorem dX3_throwing_41 : decode cX3_throwing 41 = .ok (.ireturn, 1) := by decide +kernel
theorem dX3_in_0 : decode cX3_in 0 = .ok (.iload_n 0, 1) := by decide +kernel
theorem dX3_in_1 : decode cX3_in 1 = .ok (.iload_n 1, 1) := by decide +kernel
theorem dX3_in_2 : decode cX3_in 2 = .ok (.if_icmp .lt 12, 3) := by decide +kernel
theorem dX3_in_5 : decode cX3_in 5 = .ok (.iload_n 0, 1) := by decide +kernel
theorem dX3_in_6 : decode cX3_in 6 = .ok (.iload_n 2, 1) := by decide +kernel
theorem dX3_in_7 : decode cX3_in 7 = .ok (.if_icmp .gt 7, 3) := by decide +kernel
theorem dX3_in_10 : decode cX3_in 10 = .ok (.iconst 1, 1) := by decide +kernel
theorem dX3_in_11 : decode cX3_in 11 = .ok (.goto 4, 3) := by decide +kernel
theorem dX3_in_14 : decode cX3_in 14 = .ok (.iconst 0, 1) := by decide +kernel
theorem dX3_in_15 : decode cX3_in 15 = .ok (.ireturn, 1) := by decide +kernel
theorem dX3_isProfile_0 : decode cX3_isProfile 0 = .ok (.iload_n 1, 1) := by decide +kernel
theorem dX3_isProfile_1 : decode cX3_isProfile 1 = .ok (.iconst 0, 1) := by decide +kernel
theorem dX3_isProfile_2 : decode cX3_isProfile 2 = .ok (.aload_n 0, 1) := by decide +kernel
theorem dX3_isProfile_3 : decode cX3_isProfile 3 = .ok (.getfield 52, 3) := by decide +kernel
theorem dX3_isProfile_6 : decode cX3_isProfile 6 = .ok (.iconst 1, 1) := by decide +kernel
theorem dX3_isProfile_7 : decode cX3_isProfile 7 = .ok (.isub, 1) := by decide +kernel
theorem dX3_isProfile_8 : decode cX3_isProfile 8 = .ok (.invokestatic 55, 3) := by decide +kernel
theorem dX3_isProfile_11 : decode cX3_isProfile 11 = .ok (.ireturn, 1) := by decide +kernel
theorem dX3_height_0 : decode cX3_height 0 = .ok (.aload_n 0, 1) := by decide +kernel
theorem dX3_height_1 : decode cX3_height 1 = .ok (.getfield 13, 3) := by decide +kernel
theorem dX3_height_4 : decode cX3_height 4 = .ok (.bipush 12, 2) := by decide +kernel
theorem dX3_height_6 : decode cX3_height 6 = .ok (.iload_n 1, 1) := by decide +kernel
theorem dX3_height_7 : decode cX3_height 7 = .ok (.imul, 1) := by decide +kernel
theorem dX3_height_8 : decode cX3_height 8 = .ok (.iload_n 2, 1) := by decide +kernel
theorem dX3_height_9 : decode cX3_height 9 = .ok (.iadd, 1) := by decide +kernel
theorem dX3_height_10 : decode cX3_height 10 = .ok (.iaload, 1) := by decide +kernel
theorem dX3_height_11 : decode cX3_height 11 = .ok (.ireturn, 1) := by decide +kernel
theorem dX3_radiusAt_0 : decode cX3_radiusAt 0 = .ok (.aload_n 0, 1) := by decide +kernel
theorem dX3_radiusAt_1 : decode cX3_radiusAt 1 = .ok (.getfield 16, 3) := by decide +kernel
theorem dX3_radiusAt_4 : decode cX3_radiusAt 4 = .ok (.bipush 12, 2) := by decide +kernel
theorem dX3_radiusAt_6 : decode cX3_radiusAt 6 = .ok (.iload_n 1, 1) := by decide +kernel
theorem dX3_radiusAt_7 : decode cX3_radiusAt 7 = .ok (.imul, 1) := by decide +kernel
theorem dX3_radiusAt_8 : decode cX3_radiusAt 8 = .ok (.iload_n 2, 1) := by decide +kernel
theorem dX3_radiusAt_9 : decode cX3_radiusAt 9 = .ok (.iadd, 1) := by decide +kernel
theorem dX3_radiusAt_10 : decode cX3_radiusAt 10 = .ok (.iaload, 1) := by decide +kernel
theorem dX3_radiusAt_11 : decode cX3_radiusAt 11 = .ok (.ireturn, 1) := by decide +kernel
theorem dX3_profile_0 : decode cX3_profile 0 = .ok (.aload_n 0, 1) := by decide +kernel
theorem dX3_profile_1 : decode cX3_profile 1 = .ok (.aload_n 0, 1) := by decide +kernel
theorem dX3_profile_2 : decode cX3_profile 2 = .ok (.getfield 52, 3) := by decide +kernel
theorem dX3_profile_5 : decode cX3_profile 5 = .ok (.bipush 6, 2) := by decide +kernel
theorem dX3_profile_7 : decode cX3_profile 7 = .ok (.if_icmp .ne 7, 3) := by decide +kernel
theorem dX3_profile_10 : decode cX3_profile 10 = .ok (.iconst 1, 1) := by decide +kernel
theorem dX3_profile_11 : decode cX3_profile 11 = .ok (.goto 4, 3) := by decide +kernel
theorem dX3_profile_14 : decode cX3_profile 14 = .ok (.iconst 0, 1) := by decide +kernel
theorem dX3_profile_15 : decode cX3_profile 15 = .ok (.iconst 0, 1) := by decide +kernel
theorem dX3_profile_16 : decode cX3_profile 16 = .ok (.iconst 0, 1) := by decide +kernel
theorem dX3_profile_17 : decode cX3_profile 17 = .ok (.invokevirtual 59, 3) := by decide +kernel
theorem dX3_profile_20 : decode cX3_profile 20 = .ok (.ifCond .eq 5, 3) := by decide +kernel
theorem dX3_profile_23 : decode cX3_profile 23 = .ok (.iconst 0, 1) := by decide +kernel
theorem dX3_profile_24 : decode cX3_profile 24 = .ok (.ireturn, 1) := by decide +kernel
theorem dX3_profile_25 : decode cX3_profile 25 = .ok (.aload_n 0, 1) := by decide +kernel
theorem dX3_profile_26 : decode cX3_profile 26 = .ok (.dup, 1) := by decide +kernel
theorem dX3_profile_27 : decode cX3_profile 27 = .ok (.getfield 52, 3) := by decide +kernel
theorem dX3_profile_30 : decode cX3_profile 30 = .ok (.iconst 1, 1) := by decide +kernel
theorem dX3_profile_31 : decode cX3_profile 31 = .ok (.iadd, 1) := by decide +kernel
theorem dX3_profile_32 : decode cX3_profile 32 = .ok (.putfield 52, 3) := by decide +kernel
theorem dX3_profile_35 : decode cX3_profile 35 = .ok (.aload_n 0, 1) := by decide +kernel
theorem dX3_profile_36 : decode cX3_profile 36 = .ok (.getfield 52, 3) := by decide +kernel
theorem dX3_profile_39 : decode cX3_profile 39 = .ok (.iconst 1, 1) := by decide +kernel
theorem dX3_profile_40 : decode cX3_profile 40 = .ok (.isub, 1) := by decide +kernel
theorem dX3_profile_41 : decode cX3_profile 41 = .ok (.ireturn, 1) := by decide +kernel
theorem dX3_mayFollow_0 : decode cX3_mayFollow 0 = .ok (.aload_n 0, 1) := by decide +kernel
theorem dX3_mayFollow_1 : decode cX3_mayFollow 1 = .ok (.getfield 7, 3) := by decide +kernel
theorem dX3_mayFollow_4 : decode cX3_mayFollow 4 = .ok (.iload_n 1, 1) := by decide +kernel
theorem dX3_mayFollow_5 : decode cX3_mayFollow 5 = .ok (.iaload, 1) := by decide +kernel
theorem dX3_mayFollow_6 : decode cX3_mayFollow 6 = .ok (.istore 4, 2) := by decide +kernel
theorem dX3_mayFollow_8 : decode cX3_mayFollow 8 = .ok (.iload 4, 2) := by decide +kernel
theorem dX3_mayFollow_10 : decode cX3_mayFollow 10 = .ok (.ifCond .ne 5, 3) := by decide +kernel
theorem dX3_mayFollow_13 : decode cX3_mayFollow 13 = .ok (.iconst 1, 1) := by decide +kernel
theorem dX3_mayFollow_14 : decode cX3_mayFollow 14 = .ok (.ireturn, 1) := by decide +kernel
theorem dX3_mayFollow_15 : decode cX3_mayFollow 15 = .ok (.iload_n 2, 1) := by decide +kernel
theorem dX3_mayFollow_16 : decode cX3_mayFollow 16 = .ok (.aload_n 0, 1) := by decide +kernel
theorem dX3_mayFollow_17 : decode cX3_mayFollow 17 = .ok (.iload_n 1, 1) := by decide +kernel
theorem dX3_mayFollow_18 : decode cX3_mayFollow 18 = .ok (.iload 4, 2) := by decide +kernel
theorem dX3_mayFollow_20 : decode cX3_mayFollow 20 = .ok (.iconst 1, 1) := by decide +kernel
theorem dX3_mayFollow_21 : decode cX3_mayFollow 21 = .ok (.isub, 1) := by decide +kernel
theorem dX3_mayFollow_22 : decode cX3_mayFollow 22 = .ok (.invokevirtual 63, 3) := by decide +kernel
theorem dX3_mayFollow_25 : decode cX3_mayFollow 25 = .ok (.if_icmp .lt 29, 3) := by decide +kernel
theorem dX3_mayFollow_28 : decode cX3_mayFollow 28 = .ok (.iload_n 2, 1) := by decide +kernel
theorem dX3_mayFollow_29 : decode cX3_mayFollow 29 = .ok (.aload_n 0, 1) := by decide +kernel
theorem dX3_mayFollow_30 : decode cX3_mayFollow 30 = .ok (.iload_n 1, 1) := by decide +kernel
theorem dX3_mayFollow_31 : decode cX3_mayFollow 31 = .ok (.iload 4, 2) := by decide +kernel
theorem dX3_mayFollow_33 : decode cX3_mayFollow 33 = .ok (.iconst 1, 1) := by decide +kernel
theorem dX3_mayFollow_34 : decode cX3_mayFollow 34 = .ok (.isub, 1) := by decide +kernel
theorem dX3_mayFollow_35 : decode cX3_mayFollow 35 = .ok (.invokevirtual 63, 3) := by decide +kernel
theorem dX3_mayFollow_38 : decode cX3_mayFollow 38 = .ok (.if_icmp .ne 18, 3) := by decide +kernel
theorem dX3_mayFollow_41 : decode cX3_mayFollow 41 = .ok (.iload_n 3, 1) := by decide +kernel
theorem dX3_mayFollow_42 : decode cX3_mayFollow 42 = .ok (.aload_n 0, 1) := by decide +kernel
theorem dX3_mayFollow_43 : decode cX3_mayFollow 43 = .ok (.iload_n 1, 1) := by decide +kernel
theorem dX3_mayFollow_44 : decode cX3_mayFollow 44 = .ok (.iload 4, 2) := by decide +kernel
theorem dX3_mayFollow_46 : decode cX3_mayFollow 46 = .ok (.iconst 1, 1) := by decide +kernel
theorem dX3_mayFollow_47 : decode cX3_mayFollow 47 = .ok (.isub, 1) := by decide +kernel
theorem dX3_mayFollow_48 : decode cX3_mayFollow 48 = .ok (.invokevirtual 67, 3) := by decide +kernel
theorem dX3_mayFollow_51 : decode cX3_mayFollow 51 = .ok (.if_icmp .ne 5, 3) := by decide +kernel
theorem dX3_mayFollow_54 : decode cX3_mayFollow 54 = .ok (.iconst 0, 1) := by decide +kernel
theorem dX3_mayFollow_55 : decode cX3_mayFollow 55 = .ok (.ireturn, 1) := by decide +kernel
theorem dX3_mayFollow_56 : decode cX3_mayFollow 56 = .ok (.iload 4, 2) := by decide +kernel
theorem dX3_mayFollow_58 : decode cX3_mayFollow 58 = .ok (.iconst 2, 1) := by decide +kernel
theorem dX3_mayFollow_59 : decode cX3_mayFollow 59 = .ok (.if_icmp .lt 29, 3) := by decide +kernel
theorem dX3_mayFollow_62 : decode cX3_mayFollow 62 = .ok (.iload_n 2, 1) := by decide +kernel
theorem dX3_mayFollow_63 : decode cX3_mayFollow 63 = .ok (.aload_n 0, 1) := by decide +kernel
theorem dX3_mayFollow_64 : decode cX3_mayFollow 64 = .ok (.iload_n 1, 1) := by decide +kernel
theorem dX3_mayFollow_65 : decode cX3_mayFollow 65 = .ok (.iload 4, 2) := by decide +kernel
theorem dX3_mayFollow_67 : decode cX3_mayFollow 67 = .ok (.iconst 1, 1) := by decide +kernel
theorem dX3_mayFollow_68 : decode cX3_mayFollow 68 = .ok (.isub, 1) := by decide +kernel
theorem dX3_mayFollow_69 : decode cX3_mayFollow 69 = .ok (.invokevirtual 63, 3) := by decide +kernel
theorem dX3_mayFollow_72 : decode cX3_mayFollow 72 = .ok (.if_icmp .ne 16, 3) := by decide +kernel
theorem dX3_mayFollow_75 : decode cX3_mayFollow 75 = .ok (.iload_n 2, 1) := by decide +kernel
theorem dX3_mayFollow_76 : decode cX3_mayFollow 76 = .ok (.aload_n 0, 1) := by decide +kernel
theorem dX3_mayFollow_77 : decode cX3_mayFollow 77 = .ok (.iload_n 1, 1) := by decide +kernel
theorem dX3_mayFollow_78 : decode cX3_mayFollow 78 = .ok (.iload 4, 2) := by decide +kernel
theorem dX3_mayFollow_80 : decode cX3_mayFollow 80 = .ok (.iconst 2, 1) := by decide +kernel
theorem dX3_mayFollow_81 : decode cX3_mayFollow 81 = .ok (.isub, 1) := by decide +kernel
theorem dX3_mayFollow_82 : decode cX3_mayFollow 82 = .ok (.invokevirtual 63, 3) := by decide +kernel
theorem dX3_mayFollow_85 : decode cX3_mayFollow 85 = .ok (.if_icmp .eq 7, 3) := by decide +kernel
theorem dX3_mayFollow_88 : decode cX3_mayFollow 88 = .ok (.iconst 1, 1) := by decide +kernel
theorem dX3_mayFollow_89 : decode cX3_mayFollow 89 = .ok (.goto 4, 3) := by decide +kernel
theorem dX3_mayFollow_92 : decode cX3_mayFollow 92 = .ok (.iconst 0, 1) := by decide +kernel
theorem dX3_mayFollow_93 : decode cX3_mayFollow 93 = .ok (.ireturn, 1) := by decide +kernel
theorem dX3_append_0 : decode cX3_append 0 = .ok (.aload_n 0, 1) := by decide +kernel
theorem dX3_append_1 : decode cX3_append 1 = .ok (.getfield 13, 3) := by decide +kernel
theorem dX3_append_4 : decode cX3_append 4 = .ok (.bipush 12, 2) := by decide +kernel
theorem dX3_append_6 : decode cX3_append 6 = .ok (.iload_n 1, 1) := by decide +kernel
theorem dX3_append_7 : decode cX3_append 7 = .ok (.imul, 1) := by decide +kernel
theorem dX3_append_8 : decode cX3_append 8 = .ok (.aload_n 0, 1) := by decide +kernel
theorem dX3_append_9 : decode cX3_append 9 = .ok (.getfield 7, 3) := by decide +kernel
theorem dX3_append_12 : decode cX3_append 12 = .ok (.iload_n 1, 1) := by decide +kernel
theorem dX3_append_13 : decode cX3_append 13 = .ok (.iaload, 1) := by decide +kernel
theorem dX3_append_14 : decode cX3_append 14 = .ok (.iadd, 1) := by decide +kernel
theorem dX3_append_15 : decode cX3_append 15 = .ok (.iload_n 2, 1) := by decide +kernel
theorem dX3_append_16 : decode cX3_append 16 = .ok (.iastore, 1) := by decide +kernel
theorem dX3_append_17 : decode cX3_append 17 = .ok (.aload_n 0, 1) := by decide +kernel
theorem dX3_append_18 : decode cX3_append 18 = .ok (.getfield 16, 3) := by decide +kernel
theorem dX3_append_21 : decode cX3_append 21 = .ok (.bipush 12, 2) := by decide +kernel
theorem dX3_append_23 : decode cX3_append 23 = .ok (.iload_n 1, 1) := by decide +kernel
theorem dX3_append_24 : decode cX3_append 24 = .ok (.imul, 1) := by decide +kernel
theorem dX3_append_25 : decode cX3_append 25 = .ok (.aload_n 0, 1) := by decide +kernel
theorem dX3_append_26 : decode cX3_append 26 = .ok (.getfield 7, 3) := by decide +kernel
theorem dX3_append_29 : decode cX3_append 29 = .ok (.iload_n 1, 1) := by decide +kernel
theorem dX3_append_30 : decode cX3_append 30 = .ok (.iaload, 1) := by decide +kernel
theorem dX3_append_31 : decode cX3_append 31 = .ok (.iadd, 1) := by decide +kernel
theorem dX3_append_32 : decode cX3_append 32 = .ok (.iload_n 3, 1) := by decide +kernel
theorem dX3_append_33 : decode cX3_append 33 = .ok (.iastore, 1) := by decide +kernel
theorem dX3_append_34 : decode cX3_append 34 = .ok (.aload_n 0, 1) := by decide +kernel
theorem dX3_append_35 : decode cX3_append 35 = .ok (.getfield 7, 3) := by decide +kernel
theorem dX3_append_38 : decode cX3_append 38 = .ok (.iload_n 1, 1) := by decide +kernel
theorem dX3_append_39 : decode cX3_append 39 = .ok (.dup2, 1) := by decide +kernel
theorem dX3_append_40 : decode cX3_append 40 = .ok (.iaload, 1) := by decide +kernel
theorem dX3_append_41 : decode cX3_append 41 = .ok (.iconst 1, 1) := by decide +kernel
theorem dX3_append_42 : decode cX3_append 42 = .ok (.iadd, 1) := by decide +kernel
theorem dX3_append_43 : decode cX3_append 43 = .ok (.iastore, 1) := by decide +kernel
theorem dX3_append_44 : decode cX3_append 44 = .ok (.return_, 1) := by decide +kernel
theorem dX3_corner_0 : decode cX3_corner 0 = .ok (.aload_n 0, 1) := by decide +kernel
theorem dX3_corner_1 : decode cX3_corner 1 = .ok (.iload_n 1, 1) := by decide +kernel
theorem dX3_corner_2 : decode cX3_corner 2 = .ok (.invokevirtual 70, 3) := by decide +kernel
theorem dX3_corner_5 : decode cX3_corner 5 = .ok (.ifCond .ne 7, 3) := by decide +kernel
theorem dX3_corner_8 : decode cX3_corner 8 = .ok (.iconst 1, 1) := by decide +kernel
theorem dX3_corner_9 : decode cX3_corner 9 = .ok (.goto 4, 3) := by decide +kernel
theorem dX3_corner_12 : decode cX3_corner 12 = .ok (.iconst 0, 1) := by decide +kernel
theorem dX3_corner_13 : decode cX3_corner 13 = .ok (.istore 4, 2) := by decide +kernel
theorem dX3_corner_15 : decode cX3_corner 15 = .ok (.aload_n 0, 1) := by decide +kernel
theorem dX3_corner_16 : decode cX3_corner 16 = .ok (.iload 4, 2) := by decide +kernel
theorem dX3_corner_18 : decode cX3_corner 18 = .ok (.iload_n 2, 1) := by decide +kernel
theorem dX3_corner_19 : decode cX3_corner 19 = .ok (.iconst 0, 1) := by decide +kernel
theorem dX3_corner_20 : decode cX3_corner 20 = .ok (.sipush 400, 3) := by decide +kernel
theorem dX3_corner_23 : decode cX3_corner 23 = .ok (.invokestatic 55, 3) := by decide +kernel
theorem dX3_corner_26 : decode cX3_corner 26 = .ok (.ifCond .eq 14, 3) := by decide +kernel
theorem dX3_corner_29 : decode cX3_corner 29 = .ok (.iload_n 3, 1) := by decide +kernel
theorem dX3_corner_30 : decode cX3_corner 30 = .ok (.iconst 0, 1) := by decide +kernel
theorem dX3_corner_31 : decode cX3_corner 31 = .ok (.sipush 200, 3) := by decide +kernel
theorem dX3_corner_34 : decode cX3_corner 34 = .ok (.invokestatic 55, 3) := by decide +kernel
theorem dX3_corner_37 : decode cX3_corner 37 = .ok (.ifCond .ne 7, 3) := by decide +kernel
theorem dX3_corner_40 : decode cX3_corner 40 = .ok (.iconst 1, 1) := by decide +kernel
theorem dX3_corner_41 : decode cX3_corner 41 = .ok (.goto 4, 3) := by decide +kernel
theorem dX3_corner_44 : decode cX3_corner 44 = .ok (.iconst 0, 1) := by decide +kernel
theorem dX3_corner_45 : decode cX3_corner 45 = .ok (.iload 4, 2) := by decide +kernel
theorem dX3_corner_47 : decode cX3_corner 47 = .ok (.ifCond .ne 27, 3) := by decide +kernel
theorem dX3_corner_50 : decode cX3_corner 50 = .ok (.aload_n 0, 1) := by decide +kernel
theorem dX3_corner_51 : decode cX3_corner 51 = .ok (.getfield 7, 3) := by decide +kernel
theorem dX3_corner_54 : decode cX3_corner 54 = .ok (.iload_n 1, 1) := by decide +kernel
theorem dX3_corner_55 : decode cX3_corner 55 = .ok (.iaload, 1) := by decide +kernel
theorem dX3_corner_56 : decode cX3_corner 56 = .ok (.bipush 12, 2) := by decide +kernel
theorem dX3_corner_58 : decode cX3_corner 58 = .ok (.if_icmp .eq 12, 3) := by decide +kernel
theorem dX3_corner_61 : decode cX3_corner 61 = .ok (.aload_n 0, 1) := by decide +kernel
theorem dX3_corner_62 : decode cX3_corner 62 = .ok (.getfield 19, 3) := by decide +kernel
theorem dX3_corner_65 : decode cX3_corner 65 = .ok (.iload_n 1, 1) := by decide +kernel
theorem dX3_corner_66 : decode cX3_corner 66 = .ok (.baload, 1) := by decide +kernel
theorem dX3_corner_67 : decode cX3_corner 67 = .ok (.ifCond .eq 7, 3) := by decide +kernel
theorem dX3_corner_70 : decode cX3_corner 70 = .ok (.iconst 1, 1) := by decide +kernel
theorem dX3_corner_71 : decode cX3_corner 71 = .ok (.goto 4, 3) := by decide +kernel
theorem dX3_corner_74 : decode cX3_corner 74 = .ok (.iconst 0, 1) := by decide +kernel
theorem dX3_corner_75 : decode cX3_corner 75 = .ok (.invokevirtual 59, 3) := by decide +kernel
theorem dX3_corner_78 : decode cX3_corner 78 = .ok (.ifCond .eq 5, 3) := by decide +kernel
theorem dX3_corner_81 : decode cX3_corner 81 = .ok (.iconst 0, 1) := by decide +kernel
theorem dX3_corner_82 : decode cX3_corner 82 = .ok (.ireturn, 1) := by decide +kernel
theorem dX3_corner_83 : decode cX3_corner 83 = .ok (.aload_n 0, 1) := by decide +kernel
theorem dX3_corner_84 : decode cX3_corner 84 = .ok (.iload_n 1, 1) := by decide +kernel
theorem dX3_corner_85 : decode cX3_corner 85 = .ok (.iload_n 2, 1) := by decide +kernel
theorem dX3_corner_86 : decode cX3_corner 86 = .ok (.iload_n 3, 1) := by decide +kernel
theorem dX3_corner_87 : decode cX3_corner 87 = .ok (.invokevirtual 74, 3) := by decide +kernel
theorem dX3_corner_90 : decode cX3_corner 90 = .ok (.ifCond .ne 5, 3) := by decide +kernel
theorem dX3_corner_93 : decode cX3_corner 93 = .ok (.iconst 0, 1) := by decide +kernel
theorem dX3_corner_94 : decode cX3_corner 94 = .ok (.ireturn, 1) := by decide +kernel
theorem dX3_corner_95 : decode cX3_corner 95 = .ok (.aload_n 0, 1) := by decide +kernel
theorem dX3_corner_96 : decode cX3_corner 96 = .ok (.iload_n 1, 1) := by decide +kernel
theorem dX3_corner_97 : decode cX3_corner 97 = .ok (.iload_n 2, 1) := by decide +kernel
theorem dX3_corner_98 : decode cX3_corner 98 = .ok (.iload_n 3, 1) := by decide +kernel
theorem dX3_corner_99 : decode cX3_corner 99 = .ok (.invokevirtual 77, 3) := by decide +kernel
theorem dX3_corner_102 : decode cX3_corner 102 = .ok (.iconst 1, 1) := by decide +kernel
theorem dX3_corner_103 : decode cX3_corner 103 = .ok (.ireturn, 1) := by decide +kernel
theorem dX3_at_0 : decode cX3_at 0 = .ok (.aload_n 0, 1) := by decide +kernel
theorem dX3_at_1 : decode cX3_at 1 = .ok (.aload_n 0, 1) := by decide +kernel
theorem dX3_at_2 : decode cX3_at 2 = .ok (.iload_n 1, 1) := by decide +kernel
theorem dX3_at_3 : decode cX3_at 3 = .ok (.invokevirtual 70, 3) := by decide +kernel
theorem dX3_at_6 : decode cX3_at 6 = .ok (.ifCond .eq 28, 3) := by decide +kernel
theorem dX3_at_9 : decode cX3_at 9 = .ok (.iload_n 2, 1) := by decide +kernel
theorem dX3_at_10 : decode cX3_at 10 = .ok (.iconst (-1), 1) := by decide +kernel
theorem dX3_at_11 : decode cX3_at 11 = .ok (.aload_n 0, 1) := by decide +kernel
theorem dX3_at_12 : decode cX3_at 12 = .ok (.getfield 7, 3) := by decide +kernel
theorem dX3_at_15 : decode cX3_at 15 = .ok (.iload_n 1, 1) := by decide +kernel
theorem dX3_at_16 : decode cX3_at 16 = .ok (.iaload, 1) := by decide +kernel
theorem dX3_at_17 : decode cX3_at 17 = .ok (.iconst 1, 1) := by decide +kernel
theorem dX3_at_18 : decode cX3_at 18 = .ok (.isub, 1) := by decide +kernel
theorem dX3_at_19 : decode cX3_at 19 = .ok (.invokestatic 55, 3) := by decide +kernel
theorem dX3_at_22 : decode cX3_at 22 = .ok (.ifCond .eq 12, 3) := by decide +kernel
theorem dX3_at_25 : decode cX3_at 25 = .ok (.iload_n 3, 1) := by decide +kernel
theorem dX3_at_26 : decode cX3_at 26 = .ok (.iconst 0, 1) := by decide +kernel
theorem dX3_at_27 : decode cX3_at 27 = .ok (.iconst 1, 1) := by decide +kernel
theorem dX3_at_28 : decode cX3_at 28 = .ok (.invokestatic 55, 3) := by decide +kernel
theorem dX3_at_31 : decode cX3_at 31 = .ok (.ifCond .ne 7, 3) := by decide +kernel
theorem dX3_at_34 : decode cX3_at 34 = .ok (.iconst 1, 1) := by decide +kernel
theorem dX3_at_35 : decode cX3_at 35 = .ok (.goto 4, 3) := by decide +kernel
theorem dX3_at_38 : decode cX3_at 38 = .ok (.iconst 0, 1) := by decide +kernel
theorem dX3_at_39 : decode cX3_at 39 = .ok (.iconst 0, 1) := by decide +kernel
theorem dX3_at_40 : decode cX3_at 40 = .ok (.iconst 0, 1) := by decide +kernel
theorem dX3_at_41 : decode cX3_at 41 = .ok (.invokevirtual 59, 3) := by decide +kernel
theorem dX3_at_44 : decode cX3_at 44 = .ok (.ifCond .eq 5, 3) := by decide +kernel
theorem dX3_at_47 : decode cX3_at 47 = .ok (.iconst 0, 1) := by decide +kernel
theorem dX3_at_48 : decode cX3_at 48 = .ok (.ireturn, 1) := by decide +kernel
theorem dX3_at_49 : decode cX3_at 49 = .ok (.iload_n 2, 1) := by decide +kernel
theorem dX3_at_50 : decode cX3_at 50 = .ok (.iconst (-1), 1) := by decide +kernel
theorem dX3_at_51 : decode cX3_at 51 = .ok (.if_icmp .ne 10, 3) := by decide +kernel
theorem dX3_at_54 : decode cX3_at 54 = .ok (.aload_n 0, 1) := by decide +kernel
theorem dX3_at_55 : decode cX3_at 55 = .ok (.getfield 7, 3) := by decide +kernel
theorem dX3_at_58 : decode cX3_at 58 = .ok (.iload_n 1, 1) := by decide +kernel
theorem dX3_at_59 : decode cX3_at 59 = .ok (.iaload, 1) := by decide +kernel
theorem dX3_at_60 : decode cX3_at 60 = .ok (.ireturn, 1) := by decide +kernel
theorem dX3_at_61 : decode cX3_at 61 = .ok (.iload_n 3, 1) := by decide +kernel
theorem dX3_at_62 : decode cX3_at 62 = .ok (.ifCond .ne 12, 3) := by decide +kernel
theorem dX3_at_65 : decode cX3_at 65 = .ok (.aload_n 0, 1) := by decide +kernel
theorem dX3_at_66 : decode cX3_at 66 = .ok (.iload_n 1, 1) := by decide +kernel
theorem dX3_at_67 : decode cX3_at 67 = .ok (.iload_n 2, 1) := by decide +kernel
theorem dX3_at_68 : decode cX3_at 68 = .ok (.invokevirtual 63, 3) := by decide +kernel
theorem dX3_at_71 : decode cX3_at 71 = .ok (.goto 9, 3) := by decide +kernel
theorem dX3_at_74 : decode cX3_at 74 = .ok (.aload_n 0, 1) := by decide +kernel
theorem dX3_at_75 : decode cX3_at 75 = .ok (.iload_n 1, 1) := by decide +kernel
theorem dX3_at_76 : decode cX3_at 76 = .ok (.iload_n 2, 1) := by decide +kernel
theorem dX3_at_77 : decode cX3_at 77 = .ok (.invokevirtual 67, 3) := by decide +kernel
theorem dX3_at_80 : decode cX3_at 80 = .ok (.ireturn, 1) := by decide +kernel
theorem dX3_radiusOf_0 : decode cX3_radiusOf 0 = .ok (.iconst (-1), 1) := by decide +kernel
theorem dX3_radiusOf_1 : decode cX3_radiusOf 1 = .ok (.istore_n 3, 1) := by decide +kernel
theorem dX3_radiusOf_2 : decode cX3_radiusOf 2 = .ok (.iconst 0, 1) := by decide +kernel
theorem dX3_radiusOf_3 : decode cX3_radiusOf 3 = .ok (.istore 4, 2) := by decide +kernel
theorem dX3_radiusOf_5 : decode cX3_radiusOf 5 = .ok (.iload 4, 2) := by decide +kernel
theorem dX3_radiusOf_7 : decode cX3_radiusOf 7 = .ok (.aload_n 0, 1) := by decide +kernel
theorem dX3_radiusOf_8 : decode cX3_radiusOf 8 = .ok (.getfield 7, 3) := by decide +kernel
theorem dX3_radiusOf_11 : decode cX3_radiusOf 11 = .ok (.iload_n 1, 1) := by decide +kernel
theorem dX3_radiusOf_12 : decode cX3_radiusOf 12 = .ok (.iaload, 1) := by decide +kernel
theorem dX3_radiusOf_13 : decode cX3_radiusOf 13 = .ok (.if_icmp .ge 118, 3) := by decide +kernel
theorem dX3_radiusOf_16 : decode cX3_radiusOf 16 = .ok (.aload_n 0, 1) := by decide +kernel
theorem dX3_radiusOf_17 : decode cX3_radiusOf 17 = .ok (.iload_n 1, 1) := by decide +kernel
theorem dX3_radiusOf_18 : decode cX3_radiusOf 18 = .ok (.iload 4, 2) := by decide +kernel
theorem dX3_radiusOf_20 : decode cX3_radiusOf 20 = .ok (.invokevirtual 63, 3) := by decide +kernel
theorem dX3_radiusOf_23 : decode cX3_radiusOf 23 = .ok (.istore 5, 2) := by decide +kernel
theorem dX3_radiusOf_25 : decode cX3_radiusOf 25 = .ok (.aload_n 0, 1) := by decide +kernel
theorem dX3_radiusOf_26 : decode cX3_radiusOf 26 = .ok (.iload_n 1, 1) := by decide +kernel
theorem dX3_radiusOf_27 : decode cX3_radiusOf 27 = .ok (.iload 4, 2) := by decide +kernel
theorem dX3_radiusOf_29 : decode cX3_radiusOf 29 = .ok (.invokevirtual 67, 3) := by decide +kernel
theorem dX3_radiusOf_32 : decode cX3_radiusOf 32 = .ok (.istore 6, 2) := by decide +kernel
theorem dX3_radiusOf_34 : decode cX3_radiusOf 34 = .ok (.iload 5, 2) := by decide +kernel
theorem dX3_radiusOf_36 : decode cX3_radiusOf 36 = .ok (.iload_n 2, 1) := by decide +kernel
theorem dX3_radiusOf_37 : decode cX3_radiusOf 37 = .ok (.if_icmp .ne 12, 3) := by decide +kernel
theorem dX3_radiusOf_40 : decode cX3_radiusOf 40 = .ok (.iload 6, 2) := by decide +kernel
theorem dX3_radiusOf_42 : decode cX3_radiusOf 42 = .ok (.iload_n 3, 1) := by decide +kernel
theorem dX3_radiusOf_43 : decode cX3_radiusOf 43 = .ok (.if_icmp .le 6, 3) := by decide +kernel
theorem dX3_radiusOf_46 : decode cX3_radiusOf 46 = .ok (.iload 6, 2) := by decide +kernel
theorem dX3_radiusOf_48 : decode cX3_radiusOf 48 = .ok (.istore_n 3, 1) := by decide +kernel
theorem dX3_radiusOf_49 : decode cX3_radiusOf 49 = .ok (.iload 4, 2) := by decide +kernel
theorem dX3_radiusOf_51 : decode cX3_radiusOf 51 = .ok (.iconst 1, 1) := by decide +kernel
theorem dX3_radiusOf_52 : decode cX3_radiusOf 52 = .ok (.iadd, 1) := by decide +kernel
theorem dX3_radiusOf_53 : decode cX3_radiusOf 53 = .ok (.aload_n 0, 1) := by decide +kernel
theorem dX3_radiusOf_54 : decode cX3_radiusOf 54 = .ok (.getfield 7, 3) := by decide +kernel
theorem dX3_radiusOf_57 : decode cX3_radiusOf 57 = .ok (.iload_n 1, 1) := by decide +kernel
theorem dX3_radiusOf_58 : decode cX3_radiusOf 58 = .ok (.iaload, 1) := by decide +kernel
theorem dX3_radiusOf_59 : decode cX3_radiusOf 59 = .ok (.if_icmp .eq 66, 3) := by decide +kernel
theorem dX3_radiusOf_62 : decode cX3_radiusOf 62 = .ok (.iload 5, 2) := by decide +kernel
theorem dX3_radiusOf_64 : decode cX3_radiusOf 64 = .ok (.iload_n 2, 1) := by decide +kernel
theorem dX3_radiusOf_65 : decode cX3_radiusOf 65 = .ok (.if_icmp .ge 60, 3) := by decide +kernel
theorem dX3_radiusOf_68 : decode cX3_radiusOf 68 = .ok (.aload_n 0, 1) := by decide +kernel
theorem dX3_radiusOf_69 : decode cX3_radiusOf 69 = .ok (.iload_n 1, 1) := by decide +kernel
theorem dX3_radiusOf_70 : decode cX3_radiusOf 70 = .ok (.iload 4, 2) := by decide +kernel
theorem dX3_radiusOf_72 : decode cX3_radiusOf 72 = .ok (.iconst 1, 1) := by decide +kernel
theorem dX3_radiusOf_73 : decode cX3_radiusOf 73 = .ok (.iadd, 1) := by decide +kernel
theorem dX3_radiusOf_74 : decode cX3_radiusOf 74 = .ok (.invokevirtual 63, 3) := by decide +kernel
theorem dX3_radiusOf_77 : decode cX3_radiusOf 77 = .ok (.iload_n 2, 1) := by decide +kernel
theorem dX3_radiusOf_78 : decode cX3_radiusOf 78 = .ok (.if_icmp .gt 6, 3) := by decide +kernel
theorem dX3_radiusOf_81 : decode cX3_radiusOf 81 = .ok (.goto 44, 3) := by decide +kernel
theorem dX3_radiusOf_84 : decode cX3_radiusOf 84 = .ok (.aload_n 0, 1) := by decide +kernel
theorem dX3_radiusOf_85 : decode cX3_radiusOf 85 = .ok (.iload_n 1, 1) := by decide +kernel
theorem dX3_radiusOf_86 : decode cX3_radiusOf 86 = .ok (.iload 4, 2) := by decide +kernel
theorem dX3_radiusOf_88 : decode cX3_radiusOf 88 = .ok (.iconst 1, 1) := by decide +kernel
theorem dX3_radiusOf_89 : decode cX3_radiusOf 89 = .ok (.iadd, 1) := by decide +kernel
theorem dX3_radiusOf_90 : decode cX3_radiusOf 90 = .ok (.invokevirtual 63, 3) := by decide +kernel
theorem dX3_radiusOf_93 : decode cX3_radiusOf 93 = .ok (.iload 5, 2) := by decide +kernel
theorem dX3_radiusOf_95 : decode cX3_radiusOf 95 = .ok (.isub, 1) := by decide +kernel
theorem dX3_radiusOf_96 : decode cX3_radiusOf 96 = .ok (.istore 7, 2) := by decide +kernel
theorem dX3_radiusOf_98 : decode cX3_radiusOf 98 = .ok (.iload 6, 2) := by decide +kernel
theorem dX3_radiusOf_100 : decode cX3_radiusOf 100 = .ok (.iload 7, 2) := by decide +kernel
theorem dX3_radiusOf_102 : decode cX3_radiusOf 102 = .ok (.imul, 1) := by decide +kernel
theorem dX3_radiusOf_103 : decode cX3_radiusOf 103 = .ok (.aload_n 0, 1) := by decide +kernel
theorem dX3_radiusOf_104 : decode cX3_radiusOf 104 = .ok (.iload_n 1, 1) := by decide +kernel
theorem dX3_radiusOf_105 : decode cX3_radiusOf 105 = .ok (.iload 4, 2) := by decide +kernel
theorem dX3_radiusOf_107 : decode cX3_radiusOf 107 = .ok (.iconst 1, 1) := by decide +kernel
theorem dX3_radiusOf_108 : decode cX3_radiusOf 108 = .ok (.iadd, 1) := by decide +kernel
theorem dX3_radiusOf_109 : decode cX3_radiusOf 109 = .ok (.invokevirtual 67, 3) := by decide +kernel
theorem dX3_radiusOf_112 : decode cX3_radiusOf 112 = .ok (.iload 6, 2) := by decide +kernel
theorem dX3_radiusOf_114 : decode cX3_radiusOf 114 = .ok (.isub, 1) := by decide +kernel
theorem dX3_radiusOf_115 : decode cX3_radiusOf 115 = .ok (.iload_n 2, 1) := by decide +kernel
theorem dX3_radiusOf_116 : decode cX3_radiusOf 116 = .ok (.iload 5, 2) := by decide +kernel
theorem dX3_radiusOf_118 : decode cX3_radiusOf 118 = .ok (.isub, 1) := by decide +kernel
theorem dX3_radiusOf_119 : decode cX3_radiusOf 119 = .ok (.imul, 1) := by decide +kernel
theorem dX3_radiusOf_120 : decode cX3_radiusOf 120 = .ok (.iadd, 1) := by decide +kernel
theorem dX3_radiusOf_121 : decode cX3_radiusOf 121 = .ok (.iload 7, 2) := by decide +kernel
theorem dX3_radiusOf_123 : decode cX3_radiusOf 123 = .ok (.idiv, 1) := by decide +kernel
theorem dX3_radiusOf_124 : decode cX3_radiusOf 124 = .ok (.istore_n 3, 1) := by decide +kernel
theorem dX3_radiusOf_125 : decode cX3_radiusOf 125 = .ok (.iinc 4 1, 3) := by decide +kernel
theorem dX3_radiusOf_128 : decode cX3_radiusOf 128 = .ok (.goto (-123), 3) := by decide +kernel
theorem dX3_radiusOf_131 : decode cX3_radiusOf 131 = .ok (.iload_n 3, 1) := by decide +kernel
theorem dX3_radiusOf_132 : decode cX3_radiusOf 132 = .ok (.ireturn, 1) := by decide +kernel
theorem dX3_radius_0 : decode cX3_radius 0 = .ok (.aload_n 0, 1) := by decide +kernel
theorem dX3_radius_1 : decode cX3_radius 1 = .ok (.aload_n 0, 1) := by decide +kernel
theorem dX3_radius_2 : decode cX3_radius 2 = .ok (.iload_n 1, 1) := by decide +kernel
theorem dX3_radius_3 : decode cX3_radius 3 = .ok (.invokevirtual 70, 3) := by decide +kernel
theorem dX3_radius_6 : decode cX3_radius 6 = .ok (.ifCond .ne 7, 3) := by decide +kernel
theorem dX3_radius_9 : decode cX3_radius 9 = .ok (.iconst 1, 1) := by decide +kernel
theorem dX3_radius_10 : decode cX3_radius 10 = .ok (.goto 4, 3) := by decide +kernel
theorem dX3_radius_13 : decode cX3_radius 13 = .ok (.iconst 0, 1) := by decide +kernel
theorem dX3_radius_14 : decode cX3_radius 14 = .ok (.iconst 0, 1) := by decide +kernel
theorem dX3_radius_15 : decode cX3_radius 15 = .ok (.iconst 0, 1) := by decide +kernel
theorem dX3_radius_16 : decode cX3_radius 16 = .ok (.invokevirtual 59, 3) := by decide +kernel
theorem dX3_radius_19 : decode cX3_radius 19 = .ok (.ifCond .eq 5, 3) := by decide +kernel
theorem dX3_radius_22 : decode cX3_radius 22 = .ok (.iconst 0, 1) := by decide +kernel
theorem dX3_radius_23 : decode cX3_radius 23 = .ok (.ireturn, 1) := by decide +kernel
theorem dX3_radius_24 : decode cX3_radius 24 = .ok (.aload_n 0, 1) := by decide +kernel
theorem dX3_radius_25 : decode cX3_radius 25 = .ok (.iload_n 1, 1) := by decide +kernel
theorem dX3_radius_26 : decode cX3_radius 26 = .ok (.iload_n 2, 1) := by decide +kernel
theorem dX3_radius_27 : decode cX3_radius 27 = .ok (.invokevirtual 81, 3) := by decide +kernel
theorem dX3_radius_30 : decode cX3_radius 30 = .ok (.ireturn, 1) := by decide +kernel
theorem dX3_common_0 : decode cX3_common 0 = .ok (.lload_n 0, 1) := by decide +kernel
theorem dX3_common_1 : decode cX3_common 1 = .ok (.lstore 4, 2) := by decide +kernel
theorem dX3_common_3 : decode cX3_common 3 = .ok (.lload_n 2, 1) := by decide +kernel
theorem dX3_common_4 : decode cX3_common 4 = .ok (.lstore 6, 2) := by decide +kernel
theorem dX3_common_6 : decode cX3_common 6 = .ok (.lload 6, 2) := by decide +kernel
theorem dX3_common_8 : decode cX3_common 8 = .ok (.lconst 0, 1) := by decide +kernel
theorem dX3_common_9 : decode cX3_common 9 = .ok (.lcmp, 1) := by decide +kernel
theorem dX3_common_10 : decode cX3_common 10 = .ok (.ifCond .le 21, 3) := by decide +kernel
theorem dX3_common_13 : decode cX3_common 13 = .ok (.lload 4, 2) := by decide +kernel
theorem dX3_common_15 : decode cX3_common 15 = .ok (.lload 6, 2) := by decide +kernel
theorem dX3_common_17 : decode cX3_common 17 = .ok (.lrem, 1) := by decide +kernel
theorem dX3_common_18 : decode cX3_common 18 = .ok (.lstore 8, 2) := by decide +kernel
theorem dX3_common_20 : decode cX3_common 20 = .ok (.lload 6, 2) := by decide +kernel
theorem dX3_common_22 : decode cX3_common 22 = .ok (.lstore 4, 2) := by decide +kernel
theorem dX3_common_24 : decode cX3_common 24 = .ok (.lload 8, 2) := by decide +kernel
theorem dX3_common_26 : decode cX3_common 26 = .ok (.lstore 6, 2) := by decide +kernel
theorem dX3_common_28 : decode cX3_common 28 = .ok (.goto (-22), 3) := by decide +kernel
theorem dX3_common_31 : decode cX3_common 31 = .ok (.lload 4, 2) := by decide +kernel
theorem dX3_common_33 : decode cX3_common 33 = .ok (.lreturn, 1) := by decide +kernel
theorem dX3_lessen_0 : decode cX3_lessen 0 = .ok (.aload_n 0, 1) := by decide +kernel
theorem dX3_lessen_1 : decode cX3_lessen 1 = .ok (.getfield 84, 3) := by decide +kernel
theorem dX3_lessen_4 : decode cX3_lessen 4 = .ok (.aload_n 0, 1) := by decide +kernel
theorem dX3_lessen_5 : decode cX3_lessen 5 = .ok (.getfield 44, 3) := by decide +kernel
theorem dX3_lessen_8 : decode cX3_lessen 8 = .ok (.invokestatic 87, 3) := by decide +kernel
theorem dX3_lessen_11 : decode cX3_lessen 11 = .ok (.lstore_n 1, 1) := by decide +kernel
theorem dX3_lessen_12 : decode cX3_lessen 12 = .ok (.aload_n 0, 1) := by decide +kernel
theorem dX3_lessen_13 : decode cX3_lessen 13 = .ok (.aload_n 0, 1) := by decide +kernel
theorem dX3_lessen_14 : decode cX3_lessen 14 = .ok (.getfield 84, 3) := by decide +kernel
theorem dX3_lessen_17 : decode cX3_lessen 17 = .ok (.lload_n 1, 1) := by decide +kernel
theorem dX3_lessen_18 : decode cX3_lessen 18 = .ok (.ldiv, 1) := by decide +kernel
theorem dX3_lessen_19 : decode cX3_lessen 19 = .ok (.putfield 84, 3) := by decide +kernel
theorem dX3_lessen_22 : decode cX3_lessen 22 = .ok (.aload_n 0, 1) := by decide +kernel
theorem dX3_lessen_23 : decode cX3_lessen 23 = .ok (.aload_n 0, 1) := by decide +kernel
theorem dX3_lessen_24 : decode cX3_lessen 24 = .ok (.getfield 44, 3) := by decide +kernel
theorem dX3_lessen_27 : decode cX3_lessen 27 = .ok (.lload_n 1, 1) := by decide +kernel
theorem dX3_lessen_28 : decode cX3_lessen 28 = .ok (.ldiv, 1) := by decide +kernel
theorem dX3_lessen_29 : decode cX3_lessen 29 = .ok (.putfield 44, 3) := by decide +kernel
theorem dX3_lessen_32 : decode cX3_lessen 32 = .ok (.return_, 1) := by decide +kernel
theorem dX3_add_0 : decode cX3_add 0 = .ok (.aload_n 0, 1) := by decide +kernel
theorem dX3_add_1 : decode cX3_add 1 = .ok (.getfield 44, 3) := by decide +kernel
theorem dX3_add_4 : decode cX3_add 4 = .ok (.lload_n 3, 1) := by decide +kernel
theorem dX3_add_5 : decode cX3_add 5 = .ok (.invokestatic 87, 3) := by decide +kernel
theorem dX3_add_8 : decode cX3_add 8 = .ok (.lstore 5, 2) := by decide +kernel
theorem dX3_add_10 : decode cX3_add 10 = .ok (.aload_n 0, 1) := by decide +kernel
theorem dX3_add_11 : decode cX3_add 11 = .ok (.aload_n 0, 1) := by decide +kernel
theorem dX3_add_12 : decode cX3_add 12 = .ok (.getfield 84, 3) := by decide +kernel
theorem dX3_add_15 : decode cX3_add 15 = .ok (.lload_n 3, 1) := by decide +kernel
theorem dX3_add_16 : decode cX3_add 16 = .ok (.lload 5, 2) := by decide +kernel
theorem dX3_add_18 : decode cX3_add 18 = .ok (.ldiv, 1) := by decide +kernel
theorem dX3_add_19 : decode cX3_add 19 = .ok (.lmul, 1) := by decide +kernel
theorem dX3_add_20 : decode cX3_add 20 = .ok (.lload_n 1, 1) := by decide +kernel
theorem dX3_add_21 : decode cX3_add 21 = .ok (.aload_n 0, 1) := by decide +kernel
theorem dX3_add_22 : decode cX3_add 22 = .ok (.getfield 44, 3) := by decide +kernel
theorem dX3_add_25 : decode cX3_add 25 = .ok (.lload 5, 2) := by decide +kernel
theorem dX3_add_27 : decode cX3_add 27 = .ok (.ldiv, 1) := by decide +kernel
theorem dX3_add_28 : decode cX3_add 28 = .ok (.lmul, 1) := by decide +kernel
theorem dX3_add_29 : decode cX3_add 29 = .ok (.ladd, 1) := by decide +kernel
theorem dX3_add_30 : decode cX3_add 30 = .ok (.putfield 84, 3) := by decide +kernel
theorem dX3_add_33 : decode cX3_add 33 = .ok (.aload_n 0, 1) := by decide +kernel
theorem dX3_add_34 : decode cX3_add 34 = .ok (.aload_n 0, 1) := by decide +kernel
theorem dX3_add_35 : decode cX3_add 35 = .ok (.getfield 44, 3) := by decide +kernel
theorem dX3_add_38 : decode cX3_add 38 = .ok (.lload 5, 2) := by decide +kernel
theorem dX3_add_40 : decode cX3_add 40 = .ok (.ldiv, 1) := by decide +kernel
theorem dX3_add_41 : decode cX3_add 41 = .ok (.lload_n 3, 1) := by decide +kernel
theorem dX3_add_42 : decode cX3_add 42 = .ok (.lmul, 1) := by decide +kernel
theorem dX3_add_43 : decode cX3_add 43 = .ok (.putfield 44, 3) := by decide +kernel
theorem dX3_add_46 : decode cX3_add 46 = .ok (.aload_n 0, 1) := by decide +kernel
theorem dX3_add_47 : decode cX3_add 47 = .ok (.invokevirtual 91, 3) := by decide +kernel
theorem dX3_add_50 : decode cX3_add 50 = .ok (.return_, 1) := by decide +kernel
theorem dX3_less_0 : decode cX3_less 0 = .ok (.iload_n 0, 1) := by decide +kernel
theorem dX3_less_1 : decode cX3_less 1 = .ok (.iload_n 1, 1) := by decide +kernel
theorem dX3_less_2 : decode cX3_less 2 = .ok (.if_icmp .le 9, 3) := by decide +kernel
theorem dX3_less_5 : decode cX3_less 5 = .ok (.iload_n 0, 1) := by decide +kernel
theorem dX3_less_6 : decode cX3_less 6 = .ok (.iload_n 1, 1) := by decide +kernel
theorem dX3_less_7 : decode cX3_less 7 = .ok (.isub, 1) := by decide +kernel
theorem dX3_less_8 : decode cX3_less 8 = .ok (.goto 4, 3) := by decide +kernel
theorem dX3_less_11 : decode cX3_less 11 = .ok (.iconst 0, 1) := by decide +kernel
theorem dX3_less_12 : decode cX3_less 12 = .ok (.ireturn, 1) := by decide +kernel
theorem dX3_addPiece_0 : decode cX3_addPiece 0 = .ok (.aload_n 0, 1) := by decide +kernel
theorem dX3_addPiece_1 : decode cX3_addPiece 1 = .ok (.iload_n 1, 1) := by decide +kernel
theorem dX3_addPiece_2 : decode cX3_addPiece 2 = .ok (.iload_n 2, 1) := by decide +kernel
theorem dX3_addPiece_3 : decode cX3_addPiece 3 = .ok (.iconst 1, 1) := by decide +kernel
theorem dX3_addPiece_4 : decode cX3_addPiece 4 = .ok (.iadd, 1) := by decide +kernel
theorem dX3_addPiece_5 : decode cX3_addPiece 5 = .ok (.invokevirtual 63, 3) := by decide +kernel
theorem dX3_addPiece_8 : decode cX3_addPiece 8 = .ok (.aload_n 0, 1) := by decide +kernel
theorem dX3_addPiece_9 : decode cX3_addPiece 9 = .ok (.iload_n 1, 1) := by decide +kernel
theorem dX3_addPiece_10 : decode cX3_addPiece 10 = .ok (.iload_n 2, 1) := by decide +kernel
theorem dX3_addPiece_11 : decode cX3_addPiece 11 = .ok (.invokevirtual 63, 3) := by decide +kernel
theorem dX3_addPiece_14 : decode cX3_addPiece 14 = .ok (.isub, 1) := by decide +kernel
theorem dX3_addPiece_15 : decode cX3_addPiece 15 = .ok (.i2l, 1) := by decide +kernel
theorem dX3_addPiece_16 : decode cX3_addPiece 16 = .ok (.lstore 6, 2) := by decide +kernel
theorem dX3_addPiece_18 : decode cX3_addPiece 18 = .ok (.aload_n 0, 1) := by decide +kernel
theorem dX3_addPiece_19 : decode cX3_addPiece 19 = .ok (.iload_n 1, 1) := by decide +kernel
theorem dX3_addPiece_20 : decode cX3_addPiece 20 = .ok (.iload_n 2, 1) := by decide +kernel
theorem dX3_addPiece_21 : decode cX3_addPiece 21 = .ok (.invokevirtual 67, 3) := by decide +kernel
theorem dX3_addPiece_24 : decode cX3_addPiece 24 = .ok (.iload 5, 2) := by decide +kernel
theorem dX3_addPiece_26 : decode cX3_addPiece 26 = .ok (.invokestatic 94, 3) := by decide +kernel
theorem dX3_addPiece_29 : decode cX3_addPiece 29 = .ok (.i2l, 1) := by decide +kernel
theorem dX3_addPiece_30 : decode cX3_addPiece 30 = .ok (.lstore 8, 2) := by decide +kernel
theorem dX3_addPiece_32 : decode cX3_addPiece 32 = .ok (.aload_n 0, 1) := by decide +kernel
theorem dX3_addPiece_33 : decode cX3_addPiece 33 = .ok (.iload_n 1, 1) := by decide +kernel
theorem dX3_addPiece_34 : decode cX3_addPiece 34 = .ok (.iload_n 2, 1) := by decide +kernel
theorem dX3_addPiece_35 : decode cX3_addPiece 35 = .ok (.iconst 1, 1) := by decide +kernel
theorem dX3_addPiece_36 : decode cX3_addPiece 36 = .ok (.iadd, 1) := by decide +kernel
theorem dX3_addPiece_37 : decode cX3_addPiece 37 = .ok (.invokevirtual 67, 3) := by decide +kernel
theorem dX3_addPiece_40 : decode cX3_addPiece 40 = .ok (.iload 5, 2) := by decide +kernel
theorem dX3_addPiece_42 : decode cX3_addPiece 42 = .ok (.invokestatic 94, 3) := by decide +kernel
theorem dX3_addPiece_45 : decode cX3_addPiece 45 = .ok (.i2l, 1) := by decide +kernel
theorem dX3_addPiece_46 : decode cX3_addPiece 46 = .ok (.lstore 10, 2) := by decide +kernel
theorem dX3_addPiece_48 : decode cX3_addPiece 48 = .ok (.lload 8, 2) := by decide +kernel
theorem dX3_addPiece_50 : decode cX3_addPiece 50 = .ok (.lload 6, 2) := by decide +kernel
theorem dX3_addPiece_52 : decode cX3_addPiece 52 = .ok (.lmul, 1) := by decide +kernel
theorem dX3_addPiece_53 : decode cX3_addPiece 53 = .ok (.lload 10, 2) := by decide +kernel
theorem dX3_addPiece_55 : decode cX3_addPiece 55 = .ok (.lload 8, 2) := by decide +kernel
theorem dX3_addPiece_57 : decode cX3_addPiece 57 = .ok (.lsub, 1) := by decide +kernel
theorem dX3_addPiece_58 : decode cX3_addPiece 58 = .ok (.iload_n 3, 1) := by decide +kernel
theorem dX3_addPiece_59 : decode cX3_addPiece 59 = .ok (.aload_n 0, 1) := by decide +kernel
theorem dX3_addPiece_60 : decode cX3_addPiece 60 = .ok (.iload_n 1, 1) := by decide +kernel
theorem dX3_addPiece_61 : decode cX3_addPiece 61 = .ok (.iload_n 2, 1) := by decide +kernel
theorem dX3_addPiece_62 : decode cX3_addPiece 62 = .ok (.invokevirtual 63, 3) := by decide +kernel
theorem dX3_addPiece_65 : decode cX3_addPiece 65 = .ok (.isub, 1) := by decide +kernel
theorem dX3_addPiece_66 : decode cX3_addPiece 66 = .ok (.i2l, 1) := by decide +kernel
theorem dX3_addPiece_67 : decode cX3_addPiece 67 = .ok (.lmul, 1) := by decide +kernel
theorem dX3_addPiece_68 : decode cX3_addPiece 68 = .ok (.ladd, 1) := by decide +kernel
theorem dX3_addPiece_69 : decode cX3_addPiece 69 = .ok (.lstore 12, 2) := by decide +kernel
theorem dX3_addPiece_71 : decode cX3_addPiece 71 = .ok (.lload 8, 2) := by decide +kernel
theorem dX3_addPiece_73 : decode cX3_addPiece 73 = .ok (.lload 6, 2) := by decide +kernel
theorem dX3_addPiece_75 : decode cX3_addPiece 75 = .ok (.lmul, 1) := by decide +kernel
theorem dX3_addPiece_76 : decode cX3_addPiece 76 = .ok (.lload 10, 2) := by decide +kernel
theorem dX3_addPiece_78 : decode cX3_addPiece 78 = .ok (.lload 8, 2) := by decide +kernel
theorem dX3_addPiece_80 : decode cX3_addPiece 80 = .ok (.lsub, 1) := by decide +kernel
theorem dX3_addPiece_81 : decode cX3_addPiece 81 = .ok (.iload 4, 2) := by decide +kernel
theorem dX3_addPiece_83 : decode cX3_addPiece 83 = .ok (.aload_n 0, 1) := by decide +kernel
theorem dX3_addPiece_84 : decode cX3_addPiece 84 = .ok (.iload_n 1, 1) := by decide +kernel
theorem dX3_addPiece_85 : decode cX3_addPiece 85 = .ok (.iload_n 2, 1) := by decide +kernel
theorem dX3_addPiece_86 : decode cX3_addPiece 86 = .ok (.invokevirtual 63, 3) := by decide +kernel
theorem dX3_addPiece_89 : decode cX3_addPiece 89 = .ok (.isub, 1) := by decide +kernel
theorem dX3_addPiece_90 : decode cX3_addPiece 90 = .ok (.i2l, 1) := by decide +kernel
theorem dX3_addPiece_91 : decode cX3_addPiece 91 = .ok (.lmul, 1) := by decide +kernel
theorem dX3_addPiece_92 : decode cX3_addPiece 92 = .ok (.ladd, 1) := by decide +kernel
theorem dX3_addPiece_93 : decode cX3_addPiece 93 = .ok (.lstore 14, 2) := by decide +kernel
theorem dX3_addPiece_95 : decode cX3_addPiece 95 = .ok (.aload_n 0, 1) := by decide +kernel
theorem dX3_addPiece_96 : decode cX3_addPiece 96 = .ok (.iload 4, 2) := by decide +kernel
theorem dX3_addPiece_98 : decode cX3_addPiece 98 = .ok (.iload_n 3, 1) := by decide +kernel
theorem dX3_addPiece_99 : decode cX3_addPiece 99 = .ok (.isub, 1) := by decide +kernel
theorem dX3_addPiece_100 : decode cX3_addPiece 100 = .ok (.i2l, 1) := by decide +kernel
theorem dX3_addPiece_101 : decode cX3_addPiece 101 = .ok (.lload 12, 2) := by decide +kernel
theorem dX3_addPiece_103 : decode cX3_addPiece 103 = .ok (.lload 12, 2) := by decide +kernel
theorem dX3_addPiece_105 : decode cX3_addPiece 105 = .ok (.lmul, 1) := by decide +kernel
theorem dX3_addPiece_106 : decode cX3_addPiece 106 = .ok (.lload 12, 2) := by decide +kernel
theorem dX3_addPiece_108 : decode cX3_addPiece 108 = .ok (.lload 14, 2) := by decide +kernel
theorem dX3_addPiece_110 : decode cX3_addPiece 110 = .ok (.lmul, 1) := by decide +kernel
theorem dX3_addPiece_111 : decode cX3_addPiece 111 = .ok (.ladd, 1) := by decide +kernel
theorem dX3_addPiece_112 : decode cX3_addPiece 112 = .ok (.lload 14, 2) := by decide +kernel
theorem dX3_addPiece_114 : decode cX3_addPiece 114 = .ok (.lload 14, 2) := by decide +kernel
theorem dX3_addPiece_116 : decode cX3_addPiece 116 = .ok (.lmul, 1) := by decide +kernel
theorem dX3_addPiece_117 : decode cX3_addPiece 117 = .ok (.ladd, 1) := by decide +kernel
theorem dX3_addPiece_118 : decode cX3_addPiece 118 = .ok (.lmul, 1) := by decide +kernel
theorem dX3_addPiece_119 : decode cX3_addPiece 119 = .ok (.ldc2_w 97, 3) := by decide +kernel
theorem dX3_addPiece_122 : decode cX3_addPiece 122 = .ok (.lload 6, 2) := by decide +kernel
theorem dX3_addPiece_124 : decode cX3_addPiece 124 = .ok (.lmul, 1) := by decide +kernel
theorem dX3_addPiece_125 : decode cX3_addPiece 125 = .ok (.lload 6, 2) := by decide +kernel
theorem dX3_addPiece_127 : decode cX3_addPiece 127 = .ok (.lmul, 1) := by decide +kernel
theorem dX3_addPiece_128 : decode cX3_addPiece 128 = .ok (.invokevirtual 99, 3) := by decide +kernel
theorem dX3_addPiece_131 : decode cX3_addPiece 131 = .ok (.return_, 1) := by decide +kernel
theorem dX3_sum_0 : decode cX3_sum 0 = .ok (.aload_n 0, 1) := by decide +kernel
theorem dX3_sum_1 : decode cX3_sum 1 = .ok (.lconst 0, 1) := by decide +kernel
theorem dX3_sum_2 : decode cX3_sum 2 = .ok (.putfield 84, 3) := by decide +kernel
theorem dX3_sum_5 : decode cX3_sum 5 = .ok (.aload_n 0, 1) := by decide +kernel
theorem dX3_sum_6 : decode cX3_sum 6 = .ok (.lconst 1, 1) := by decide +kernel
theorem dX3_sum_7 : decode cX3_sum 7 = .ok (.putfield 44, 3) := by decide +kernel
theorem dX3_sum_10 : decode cX3_sum 10 = .ok (.iconst 0, 1) := by decide +kernel
theorem dX3_sum_11 : decode cX3_sum 11 = .ok (.istore 5, 2) := by decide +kernel
theorem dX3_sum_13 : decode cX3_sum 13 = .ok (.iload 5, 2) := by decide +kernel
theorem dX3_sum_15 : decode cX3_sum 15 = .ok (.iconst 1, 1) := by decide +kernel
theorem dX3_sum_16 : decode cX3_sum 16 = .ok (.iadd, 1) := by decide +kernel
theorem dX3_sum_17 : decode cX3_sum 17 = .ok (.aload_n 0, 1) := by decide +kernel
theorem dX3_sum_18 : decode cX3_sum 18 = .ok (.getfield 7, 3) := by decide +kernel
theorem dX3_sum_21 : decode cX3_sum 21 = .ok (.iload_n 1, 1) := by decide +kernel
theorem dX3_sum_22 : decode cX3_sum 22 = .ok (.iaload, 1) := by decide +kernel
theorem dX3_sum_23 : decode cX3_sum 23 = .ok (.if_icmp .ge 81, 3) := by decide +kernel
theorem dX3_sum_26 : decode cX3_sum 26 = .ok (.aload_n 0, 1) := by decide +kernel
theorem dX3_sum_27 : decode cX3_sum 27 = .ok (.iload_n 1, 1) := by decide +kernel
theorem dX3_sum_28 : decode cX3_sum 28 = .ok (.iload 5, 2) := by decide +kernel
theorem dX3_sum_30 : decode cX3_sum 30 = .ok (.invokevirtual 63, 3) := by decide +kernel
theorem dX3_sum_33 : decode cX3_sum 33 = .ok (.iload_n 2, 1) := by decide +kernel
theorem dX3_sum_34 : decode cX3_sum 34 = .ok (.if_icmp .le 13, 3) := by decide +kernel
theorem dX3_sum_37 : decode cX3_sum 37 = .ok (.aload_n 0, 1) := by decide +kernel
theorem dX3_sum_38 : decode cX3_sum 38 = .ok (.iload_n 1, 1) := by decide +kernel
theorem dX3_sum_39 : decode cX3_sum 39 = .ok (.iload 5, 2) := by decide +kernel
theorem dX3_sum_41 : decode cX3_sum 41 = .ok (.invokevirtual 63, 3) := by decide +kernel
theorem dX3_sum_44 : decode cX3_sum 44 = .ok (.goto 4, 3) := by decide +kernel
theorem dX3_sum_47 : decode cX3_sum 47 = .ok (.iload_n 2, 1) := by decide +kernel
theorem dX3_sum_48 : decode cX3_sum 48 = .ok (.istore 6, 2) := by decide +kernel
theorem dX3_sum_50 : decode cX3_sum 50 = .ok (.aload_n 0, 1) := by decide +kernel
theorem dX3_sum_51 : decode cX3_sum 51 = .ok (.iload_n 1, 1) := by decide +kernel
theorem dX3_sum_52 : decode cX3_sum 52 = .ok (.iload 5, 2) := by decide +kernel
theorem dX3_sum_54 : decode cX3_sum 54 = .ok (.iconst 1, 1) := by decide +kernel
theorem dX3_sum_55 : decode cX3_sum 55 = .ok (.iadd, 1) := by decide +kernel
theorem dX3_sum_56 : decode cX3_sum 56 = .ok (.invokevirtual 63, 3) := by decide +kernel
theorem dX3_sum_59 : decode cX3_sum 59 = .ok (.iload_n 3, 1) := by decide +kernel
theorem dX3_sum_60 : decode cX3_sum 60 = .ok (.if_icmp .ge 15, 3) := by decide +kernel
theorem dX3_sum_63 : decode cX3_sum 63 = .ok (.aload_n 0, 1) := by decide +kernel
theorem dX3_sum_64 : decode cX3_sum 64 = .ok (.iload_n 1, 1) := by decide +kernel
theorem dX3_sum_65 : decode cX3_sum 65 = .ok (.iload 5, 2) := by decide +kernel
theorem dX3_sum_67 : decode cX3_sum 67 = .ok (.iconst 1, 1) := by decide +kernel
theorem dX3_sum_68 : decode cX3_sum 68 = .ok (.iadd, 1) := by decide +kernel
theorem dX3_sum_69 : decode cX3_sum 69 = .ok (.invokevirtual 63, 3) := by decide +kernel
theorem dX3_sum_72 : decode cX3_sum 72 = .ok (.goto 4, 3) := by decide +kernel
theorem dX3_sum_75 : decode cX3_sum 75 = .ok (.iload_n 3, 1) := by decide +kernel
theorem dX3_sum_76 : decode cX3_sum 76 = .ok (.istore 7, 2) := by decide +kernel
theorem dX3_sum_78 : decode cX3_sum 78 = .ok (.iload 6, 2) := by decide +kernel
theorem dX3_sum_80 : decode cX3_sum 80 = .ok (.iload 7, 2) := by decide +kernel
theorem dX3_sum_82 : decode cX3_sum 82 = .ok (.if_icmp .ge 16, 3) := by decide +kernel
theorem dX3_sum_85 : decode cX3_sum 85 = .ok (.aload_n 0, 1) := by decide +kernel
theorem dX3_sum_86 : decode cX3_sum 86 = .ok (.iload_n 1, 1) := by decide +kernel
theorem dX3_sum_87 : decode cX3_sum 87 = .ok (.iload 5, 2) := by decide +kernel
theorem dX3_sum_89 : decode cX3_sum 89 = .ok (.iload 6, 2) := by decide +kernel
theorem dX3_sum_91 : decode cX3_sum 91 = .ok (.iload 7, 2) := by decide +kernel
theorem dX3_sum_93 : decode cX3_sum 93 = .ok (.iload 4, 2) := by decide +kernel
theorem dX3_sum_95 : decode cX3_sum 95 = .ok (.invokevirtual 103, 3) := by decide +kernel
theorem dX3_sum_98 : decode cX3_sum 98 = .ok (.iinc 5 1, 3) := by decide +kernel
theorem dX3_sum_101 : decode cX3_sum 101 = .ok (.goto (-88), 3) := by decide +kernel
theorem dX3_sum_104 : decode cX3_sum 104 = .ok (.return_, 1) := by decide +kernel
theorem dX3_volume_0 : decode cX3_volume 0 = .ok (.aload_n 0, 1) := by decide +kernel
theorem dX3_volume_1 : decode cX3_volume 1 = .ok (.aload_n 0, 1) := by decide +kernel
theorem dX3_volume_2 : decode cX3_volume 2 = .ok (.iload_n 1, 1) := by decide +kernel
theorem dX3_volume_3 : decode cX3_volume 3 = .ok (.invokevirtual 70, 3) := by decide +kernel
theorem dX3_volume_6 : decode cX3_volume 6 = .ok (.ifCond .eq 12, 3) := by decide +kernel
theorem dX3_volume_9 : decode cX3_volume 9 = .ok (.iload_n 3, 1) := by decide +kernel
theorem dX3_volume_10 : decode cX3_volume 10 = .ok (.iconst 0, 1) := by decide +kernel
theorem dX3_volume_11 : decode cX3_volume 11 = .ok (.iconst 1, 1) := by decide +kernel
theorem dX3_volume_12 : decode cX3_volume 12 = .ok (.invokestatic 55, 3) := by decide +kernel
theorem dX3_volume_15 : decode cX3_volume 15 = .ok (.ifCond .ne 7, 3) := by decide +kernel
theorem dX3_volume_18 : decode cX3_volume 18 = .ok (.iconst 1, 1) := by decide +kernel
theorem dX3_volume_19 : decode cX3_volume 19 = .ok (.goto 4, 3) := by decide +kernel
theorem dX3_volume_22 : decode cX3_volume 22 = .ok (.iconst 0, 1) := by decide +kernel
theorem dX3_volume_23 : decode cX3_volume 23 = .ok (.iconst 0, 1) := by decide +kernel
theorem dX3_volume_24 : decode cX3_volume 24 = .ok (.iconst 0, 1) := by decide +kernel
theorem dX3_volume_25 : decode cX3_volume 25 = .ok (.invokevirtual 59, 3) := by decide +kernel
theorem dX3_volume_28 : decode cX3_volume 28 = .ok (.ifCond .eq 5, 3) := by decide +kernel
theorem dX3_volume_31 : decode cX3_volume 31 = .ok (.lconst 0, 1) := by decide +kernel
theorem dX3_volume_32 : decode cX3_volume 32 = .ok (.lreturn, 1) := by decide +kernel
theorem dX3_volume_33 : decode cX3_volume 33 = .ok (.aload_n 0, 1) := by decide +kernel
theorem dX3_volume_34 : decode cX3_volume 34 = .ok (.iload_n 1, 1) := by decide +kernel
theorem dX3_volume_35 : decode cX3_volume 35 = .ok (.iconst 0, 1) := by decide +kernel
theorem dX3_volume_36 : decode cX3_volume 36 = .ok (.iload_n 2, 1) := by decide +kernel
theorem dX3_volume_37 : decode cX3_volume 37 = .ok (.iconst 0, 1) := by decide +kernel
theorem dX3_volume_38 : decode cX3_volume 38 = .ok (.invokevirtual 107, 3) := by decide +kernel
theorem dX3_volume_41 : decode cX3_volume 41 = .ok (.iload_n 3, 1) := by decide +kernel
theorem dX3_volume_42 : decode cX3_volume 42 = .ok (.ifCond .ne 10, 3) := by decide +kernel
theorem dX3_volume_45 : decode cX3_volume 45 = .ok (.aload_n 0, 1) := by decide +kernel
theorem dX3_volume_46 : decode cX3_volume 46 = .ok (.getfield 84, 3) := by decide +kernel
theorem dX3_volume_49 : decode cX3_volume 49 = .ok (.goto 7, 3) := by decide +kernel
theorem dX3_volume_52 : decode cX3_volume 52 = .ok (.aload_n 0, 1) := by decide +kernel
theorem dX3_volume_53 : decode cX3_volume 53 = .ok (.getfield 44, 3) := by decide +kernel
theorem dX3_volume_56 : decode cX3_volume 56 = .ok (.lreturn, 1) := by decide +kernel
theorem dX3_sumHeld_0 : decode cX3_sumHeld 0 = .ok (.aload_n 0, 1) := by decide +kernel
theorem dX3_sumHeld_1 : decode cX3_sumHeld 1 = .ok (.lconst 0, 1) := by decide +kernel
theorem dX3_sumHeld_2 : decode cX3_sumHeld 2 = .ok (.putfield 84, 3) := by decide +kernel
theorem dX3_sumHeld_5 : decode cX3_sumHeld 5 = .ok (.aload_n 0, 1) := by decide +kernel
theorem dX3_sumHeld_6 : decode cX3_sumHeld 6 = .ok (.lconst 1, 1) := by decide +kernel
theorem dX3_sumHeld_7 : decode cX3_sumHeld 7 = .ok (.putfield 44, 3) := by decide +kernel
theorem dX3_sumHeld_10 : decode cX3_sumHeld 10 = .ok (.aload_n 0, 1) := by decide +kernel
theorem dX3_sumHeld_11 : decode cX3_sumHeld 11 = .ok (.getfield 7, 3) := by decide +kernel
theorem dX3_sumHeld_14 : decode cX3_sumHeld 14 = .ok (.iload_n 1, 1) := by decide +kernel
theorem dX3_sumHeld_15 : decode cX3_sumHeld 15 = .ok (.iaload, 1) := by decide +kernel
theorem dX3_sumHeld_16 : decode cX3_sumHeld 16 = .ok (.ifCond .le 28, 3) := by decide +kernel
theorem dX3_sumHeld_19 : decode cX3_sumHeld 19 = .ok (.aload_n 0, 1) := by decide +kernel
theorem dX3_sumHeld_20 : decode cX3_sumHeld 20 = .ok (.iload_n 1, 1) := by decide +kernel
theorem dX3_sumHeld_21 : decode cX3_sumHeld 21 = .ok (.aload_n 0, 1) := by decide +kernel
theorem dX3_sumHeld_22 : decode cX3_sumHeld 22 = .ok (.iload_n 1, 1) := by decide +kernel
theorem dX3_sumHeld_23 : decode cX3_sumHeld 23 = .ok (.iconst 0, 1) := by decide +kernel
theorem dX3_sumHeld_24 : decode cX3_sumHeld 24 = .ok (.invokevirtual 63, 3) := by decide +kernel
theorem dX3_sumHeld_27 : decode cX3_sumHeld 27 = .ok (.aload_n 0, 1) := by decide +kernel
theorem dX3_sumHeld_28 : decode cX3_sumHeld 28 = .ok (.getfield 23, 3) := by decide +kernel
theorem dX3_sumHeld_31 : decode cX3_sumHeld 31 = .ok (.iload_n 1, 1) := by decide +kernel
theorem dX3_sumHeld_32 : decode cX3_sumHeld 32 = .ok (.iaload, 1) := by decide +kernel
theorem dX3_sumHeld_33 : decode cX3_sumHeld 33 = .ok (.iadd, 1) := by decide +kernel
theorem dX3_sumHeld_34 : decode cX3_sumHeld 34 = .ok (.iload_n 2, 1) := by decide +kernel
theorem dX3_sumHeld_35 : decode cX3_sumHeld 35 = .ok (.aload_n 0, 1) := by decide +kernel
theorem dX3_sumHeld_36 : decode cX3_sumHeld 36 = .ok (.getfield 23, 3) := by decide +kernel
theorem dX3_sumHeld_39 : decode cX3_sumHeld 39 = .ok (.iload_n 1, 1) := by decide +kernel
theorem dX3_sumHeld_40 : decode cX3_sumHeld 40 = .ok (.iaload, 1) := by decide +kernel
theorem dX3_sumHeld_41 : decode cX3_sumHeld 41 = .ok (.invokevirtual 107, 3) := by decide +kernel
theorem dX3_sumHeld_44 : decode cX3_sumHeld 44 = .ok (.return_, 1) := by decide +kernel
theorem dX3_holds_0 : decode cX3_holds 0 = .ok (.aload_n 0, 1) := by decide +kernel
theorem dX3_holds_1 : decode cX3_holds 1 = .ok (.aload_n 0, 1) := by decide +kernel
theorem dX3_holds_2 : decode cX3_holds 2 = .ok (.iload_n 1, 1) := by decide +kernel
theorem dX3_holds_3 : decode cX3_holds 3 = .ok (.invokevirtual 70, 3) := by decide +kernel
theorem dX3_holds_6 : decode cX3_holds 6 = .ok (.ifCond .eq 12, 3) := by decide +kernel
theorem dX3_holds_9 : decode cX3_holds 9 = .ok (.iload_n 3, 1) := by decide +kernel
theorem dX3_holds_10 : decode cX3_holds 10 = .ok (.iconst 0, 1) := by decide +kernel
theorem dX3_holds_11 : decode cX3_holds 11 = .ok (.iconst 1, 1) := by decide +kernel
theorem dX3_holds_12 : decode cX3_holds 12 = .ok (.invokestatic 55, 3) := by decide +kernel
theorem dX3_holds_15 : decode cX3_holds 15 = .ok (.ifCond .ne 7, 3) := by decide +kernel
theorem dX3_holds_18 : decode cX3_holds 18 = .ok (.iconst 1, 1) := by decide +kernel
theorem dX3_holds_19 : decode cX3_holds 19 = .ok (.goto 4, 3) := by decide +kernel
theorem dX3_holds_22 : decode cX3_holds 22 = .ok (.iconst 0, 1) := by decide +kernel
theorem dX3_holds_23 : decode cX3_holds 23 = .ok (.iconst 0, 1) := by decide +kernel
theorem dX3_holds_24 : decode cX3_holds 24 = .ok (.iconst 0, 1) := by decide +kernel
theorem dX3_holds_25 : decode cX3_holds 25 = .ok (.invokevirtual 59, 3) := by decide +kernel
theorem dX3_holds_28 : decode cX3_holds 28 = .ok (.ifCond .eq 5, 3) := by decide +kernel
theorem dX3_holds_31 : decode cX3_holds 31 = .ok (.lconst 0, 1) := by decide +kernel
theorem dX3_holds_32 : decode cX3_holds 32 = .ok (.lreturn, 1) := by decide +kernel
theorem dX3_holds_33 : decode cX3_holds 33 = .ok (.aload_n 0, 1) := by decide +kernel
theorem dX3_holds_34 : decode cX3_holds 34 = .ok (.iload_n 1, 1) := by decide +kernel
theorem dX3_holds_35 : decode cX3_holds 35 = .ok (.iload_n 2, 1) := by decide +kernel
theorem dX3_holds_36 : decode cX3_holds 36 = .ok (.invokevirtual 111, 3) := by decide +kernel
theorem dX3_holds_39 : decode cX3_holds 39 = .ok (.iload_n 3, 1) := by decide +kernel
theorem dX3_holds_40 : decode cX3_holds 40 = .ok (.ifCond .ne 10, 3) := by decide +kernel
theorem dX3_holds_43 : decode cX3_holds 43 = .ok (.aload_n 0, 1) := by decide +kernel
theorem dX3_holds_44 : decode cX3_holds 44 = .ok (.getfield 84, 3) := by decide +kernel
theorem dX3_holds_47 : decode cX3_holds 47 = .ok (.goto 7, 3) := by decide +kernel
theorem dX3_holds_50 : decode cX3_holds 50 = .ok (.aload_n 0, 1) := by decide +kernel
theorem dX3_holds_51 : decode cX3_holds 51 = .ok (.getfield 44, 3) := by decide +kernel
theorem dX3_holds_54 : decode cX3_holds 54 = .ok (.lreturn, 1) := by decide +kernel
theorem dX3_times_0 : decode cX3_times 0 = .ok (.aload_n 0, 1) := by decide +kernel
theorem dX3_times_1 : decode cX3_times 1 = .ok (.getfield 84, 3) := by decide +kernel
theorem dX3_times_4 : decode cX3_times 4 = .ok (.aload_n 0, 1) := by decide +kernel
theorem dX3_times_5 : decode cX3_times 5 = .ok (.getfield 44, 3) := by decide +kernel
theorem dX3_times_8 : decode cX3_times 8 = .ok (.ldiv, 1) := by decide +kernel
theorem dX3_times_9 : decode cX3_times 9 = .ok (.lload_n 1, 1) := by decide +kernel
theorem dX3_times_10 : decode cX3_times 10 = .ok (.lmul, 1) := by decide +kernel
theorem dX3_times_11 : decode cX3_times 11 = .ok (.lstore 4, 2) := by decide +kernel
theorem dX3_times_13 : decode cX3_times 13 = .ok (.aload_n 0, 1) := by decide +kernel
theorem dX3_times_14 : decode cX3_times 14 = .ok (.getfield 84, 3) := by decide +kernel
theorem dX3_times_17 : decode cX3_times 17 = .ok (.aload_n 0, 1) := by decide +kernel
theorem dX3_times_18 : decode cX3_times 18 = .ok (.getfield 44, 3) := by decide +kernel
theorem dX3_times_21 : decode cX3_times 21 = .ok (.lrem, 1) := by decide +kernel
theorem dX3_times_22 : decode cX3_times 22 = .ok (.lstore 6, 2) := by decide +kernel
theorem dX3_times_24 : decode cX3_times 24 = .ok (.lload 6, 2) := by decide +kernel
theorem dX3_times_26 : decode cX3_times 26 = .ok (.lload_n 1, 1) := by decide +kernel
theorem dX3_times_27 : decode cX3_times 27 = .ok (.ldc2_w 115, 3) := by decide +kernel
theorem dX3_times_30 : decode cX3_times 30 = .ok (.ldiv, 1) := by decide +kernel
theorem dX3_times_31 : decode cX3_times 31 = .ok (.lmul, 1) := by decide +kernel
theorem dX3_times_32 : decode cX3_times 32 = .ok (.lstore 8, 2) := by decide +kernel
theorem dX3_times_34 : decode cX3_times 34 = .ok (.lload 8, 2) := by decide +kernel
theorem dX3_times_36 : decode cX3_times 36 = .ok (.aload_n 0, 1) := by decide +kernel
theorem dX3_times_37 : decode cX3_times 37 = .ok (.getfield 44, 3) := by decide +kernel
theorem dX3_times_40 : decode cX3_times 40 = .ok (.lrem, 1) := by decide +kernel
theorem dX3_times_41 : decode cX3_times 41 = .ok (.ldc2_w 115, 3) := by decide +kernel
theorem dX3_times_44 : decode cX3_times 44 = .ok (.lmul, 1) := by decide +kernel
theorem dX3_times_45 : decode cX3_times 45 = .ok (.lload 6, 2) := by decide +kernel
theorem dX3_times_47 : decode cX3_times 47 = .ok (.lload_n 1, 1) := by decide +kernel
theorem dX3_times_48 : decode cX3_times 48 = .ok (.ldc2_w 115, 3) := by decide +kernel
theorem dX3_times_51 : decode cX3_times 51 = .ok (.lrem, 1) := by decide +kernel
theorem dX3_times_52 : decode cX3_times 52 = .ok (.lmul, 1) := by decide +kernel
theorem dX3_times_53 : decode cX3_times 53 = .ok (.ladd, 1) := by decide +kernel
theorem dX3_times_54 : decode cX3_times 54 = .ok (.lstore 10, 2) := by decide +kernel
theorem dX3_times_56 : decode cX3_times 56 = .ok (.lload 4, 2) := by decide +kernel
theorem dX3_times_58 : decode cX3_times 58 = .ok (.lload 8, 2) := by decide +kernel
theorem dX3_times_60 : decode cX3_times 60 = .ok (.aload_n 0, 1) := by decide +kernel
theorem dX3_times_61 : decode cX3_times 61 = .ok (.getfield 44, 3) := by decide +kernel
theorem dX3_times_64 : decode cX3_times 64 = .ok (.ldiv, 1) := by decide +kernel
theorem dX3_times_65 : decode cX3_times 65 = .ok (.ldc2_w 115, 3) := by decide +kernel
theorem dX3_times_68 : decode cX3_times 68 = .ok (.lmul, 1) := by decide +kernel
theorem dX3_times_69 : decode cX3_times 69 = .ok (.ladd, 1) := by decide +kernel
theorem dX3_times_70 : decode cX3_times 70 = .ok (.lload 10, 2) := by decide +kernel
theorem dX3_times_72 : decode cX3_times 72 = .ok (.aload_n 0, 1) := by decide +kernel
theorem dX3_times_73 : decode cX3_times 73 = .ok (.getfield 44, 3) := by decide +kernel
theorem dX3_times_76 : decode cX3_times 76 = .ok (.ldiv, 1) := by decide +kernel
theorem dX3_times_77 : decode cX3_times 77 = .ok (.ladd, 1) := by decide +kernel
theorem dX3_times_78 : decode cX3_times 78 = .ok (.lstore 12, 2) := by decide +kernel
theorem dX3_times_80 : decode cX3_times 80 = .ok (.lload 10, 2) := by decide +kernel
theorem dX3_times_82 : decode cX3_times 82 = .ok (.aload_n 0, 1) := by decide +kernel
theorem dX3_times_83 : decode cX3_times 83 = .ok (.getfield 44, 3) := by decide +kernel
theorem dX3_times_86 : decode cX3_times 86 = .ok (.lrem, 1) := by decide +kernel
theorem dX3_times_87 : decode cX3_times 87 = .ok (.lconst 0, 1) := by decide +kernel
theorem dX3_times_88 : decode cX3_times 88 = .ok (.lcmp, 1) := by decide +kernel
theorem dX3_times_89 : decode cX3_times 89 = .ok (.ifCond .gt 14, 3) := by decide +kernel
theorem dX3_times_92 : decode cX3_times 92 = .ok (.lload 12, 2) := by decide +kernel
theorem dX3_times_94 : decode cX3_times 94 = .ok (.ldc2_w 117, 3) := by decide +kernel
theorem dX3_times_97 : decode cX3_times 97 = .ok (.lrem, 1) := by decide +kernel
theorem dX3_times_98 : decode cX3_times 98 = .ok (.lconst 0, 1) := by decide +kernel
theorem dX3_times_99 : decode cX3_times 99 = .ok (.lcmp, 1) := by decide +kernel
theorem dX3_times_100 : decode cX3_times 100 = .ok (.ifCond .le 7, 3) := by decide +kernel
theorem dX3_times_103 : decode cX3_times 103 = .ok (.iconst 1, 1) := by decide +kernel
theorem dX3_times_104 : decode cX3_times 104 = .ok (.goto 4, 3) := by decide +kernel
theorem dX3_times_107 : decode cX3_times 107 = .ok (.iconst 0, 1) := by decide +kernel
theorem dX3_times_108 : decode cX3_times 108 = .ok (.istore 14, 2) := by decide +kernel
theorem dX3_times_110 : decode cX3_times 110 = .ok (.lload 12, 2) := by decide +kernel
theorem dX3_times_112 : decode cX3_times 112 = .ok (.ldc2_w 117, 3) := by decide +kernel
theorem dX3_times_115 : decode cX3_times 115 = .ok (.ldiv, 1) := by decide +kernel
theorem dX3_times_116 : decode cX3_times 116 = .ok (.iload_n 3, 1) := by decide +kernel
theorem dX3_times_117 : decode cX3_times 117 = .ok (.ifCond .eq 12, 3) := by decide +kernel
theorem dX3_times_120 : decode cX3_times 120 = .ok (.iload 14, 2) := by decide +kernel
theorem dX3_times_122 : decode cX3_times 122 = .ok (.ifCond .eq 7, 3) := by decide +kernel
theorem dX3_times_125 : decode cX3_times 125 = .ok (.lconst 1, 1) := by decide +kernel
theorem dX3_times_126 : decode cX3_times 126 = .ok (.goto 4, 3) := by decide +kernel
theorem dX3_times_129 : decode cX3_times 129 = .ok (.lconst 0, 1) := by decide +kernel
theorem dX3_times_130 : decode cX3_times 130 = .ok (.ladd, 1) := by decide +kernel
theorem dX3_times_131 : decode cX3_times 131 = .ok (.lreturn, 1) := by decide +kernel
theorem dX3_enclose_0 : decode cX3_enclose 0 = .ok (.aload_n 0, 1) := by decide +kernel
theorem dX3_enclose_1 : decode cX3_enclose 1 = .ok (.iload_n 1, 1) := by decide +kernel
theorem dX3_enclose_2 : decode cX3_enclose 2 = .ok (.sipush 400, 3) := by decide +kernel
theorem dX3_enclose_5 : decode cX3_enclose 5 = .ok (.invokevirtual 111, 3) := by decide +kernel
theorem dX3_enclose_8 : decode cX3_enclose 8 = .ok (.iload_n 2, 1) := by decide +kernel
theorem dX3_enclose_9 : decode cX3_enclose 9 = .ok (.ifCond .ne 14, 3) := by decide +kernel
theorem dX3_enclose_12 : decode cX3_enclose 12 = .ok (.aload_n 0, 1) := by decide +kernel
theorem dX3_enclose_13 : decode cX3_enclose 13 = .ok (.ldc2_w 119, 3) := by decide +kernel
theorem dX3_enclose_16 : decode cX3_enclose 16 = .ok (.iconst 0, 1) := by decide +kernel
theorem dX3_enclose_17 : decode cX3_enclose 17 = .ok (.invokevirtual 121, 3) := by decide +kernel
theorem dX3_enclose_20 : decode cX3_enclose 20 = .ok (.goto 11, 3) := by decide +kernel
theorem dX3_enclose_23 : decode cX3_enclose 23 = .ok (.aload_n 0, 1) := by decide +kernel
theorem dX3_enclose_24 : decode cX3_enclose 24 = .ok (.ldc2_w 125, 3) := by decide +kernel
theorem dX3_enclose_27 : decode cX3_enclose 27 = .ok (.iconst 1, 1) := by decide +kernel
theorem dX3_enclose_28 : decode cX3_enclose 28 = .ok (.invokevirtual 121, 3) := by decide +kernel
theorem dX3_enclose_31 : decode cX3_enclose 31 = .ok (.lreturn, 1) := by decide +kernel
theorem dX3_enclosed_0 : decode cX3_enclosed 0 = .ok (.aload_n 0, 1) := by decide +kernel
theorem dX3_enclosed_1 : decode cX3_enclosed 1 = .ok (.aload_n 0, 1) := by decide +kernel
theorem dX3_enclosed_2 : decode cX3_enclosed 2 = .ok (.iload_n 1, 1) := by decide +kernel
theorem dX3_enclosed_3 : decode cX3_enclosed 3 = .ok (.invokevirtual 70, 3) := by decide +kernel
theorem dX3_enclosed_6 : decode cX3_enclosed 6 = .ok (.ifCond .eq 12, 3) := by decide +kernel
theorem dX3_enclosed_9 : decode cX3_enclosed 9 = .ok (.iload_n 2, 1) := by decide +kernel
theorem dX3_enclosed_10 : decode cX3_enclosed 10 = .ok (.iconst 0, 1) := by decide +kernel
theorem dX3_enclosed_11 : decode cX3_enclosed 11 = .ok (.iconst 1, 1) := by decide +kernel
theorem dX3_enclosed_12 : decode cX3_enclosed 12 = .ok (.invokestatic 55, 3) := by decide +kernel
theorem dX3_enclosed_15 : decode cX3_enclosed 15 = .ok (.ifCond .ne 7, 3) := by decide +kernel
theorem dX3_enclosed_18 : decode cX3_enclosed 18 = .ok (.iconst 1, 1) := by decide +kernel
theorem dX3_enclosed_19 : decode cX3_enclosed 19 = .ok (.goto 4, 3) := by decide +kernel
theorem dX3_enclosed_22 : decode cX3_enclosed 22 = .ok (.iconst 0, 1) := by decide +kernel
theorem dX3_enclosed_23 : decode cX3_enclosed 23 = .ok (.iconst 0, 1) := by decide +kernel
theorem dX3_enclosed_24 : decode cX3_enclosed 24 = .ok (.iconst 0, 1) := by decide +kernel
theorem dX3_enclosed_25 : decode cX3_enclosed 25 = .ok (.invokevirtual 59, 3) := by decide +kernel
theorem dX3_enclosed_28 : decode cX3_enclosed 28 = .ok (.ifCond .eq 5, 3) := by decide +kernel
theorem dX3_enclosed_31 : decode cX3_enclosed 31 = .ok (.lconst 0, 1) := by decide +kernel
end
section
theorem dX3_enclosed_32 : decode cX3_enclosed 32 = .ok (.lreturn, 1) := by decide +kernel
theorem dX3_enclosed_33 : decode cX3_enclosed 33 = .ok (.aload_n 0, 1) := by decide +kernel
theorem dX3_enclosed_34 : decode cX3_enclosed 34 = .ok (.iload_n 1, 1) := by decide +kernel
theorem dX3_enclosed_35 : decode cX3_enclosed 35 = .ok (.iload_n 2, 1) := by decide +kernel
theorem dX3_enclosed_36 : decode cX3_enclosed 36 = .ok (.invokevirtual 127, 3) := by decide +kernel
theorem dX3_enclosed_39 : decode cX3_enclosed 39 = .ok (.lreturn, 1) := by decide +kernel
theorem dX3_wall_0 : decode cX3_wall 0 = .ok (.aload_n 0, 1) := by decide +kernel
theorem dX3_wall_1 : decode cX3_wall 1 = .ok (.aload_n 0, 1) := by decide +kernel
theorem dX3_wall_2 : decode cX3_wall 2 = .ok (.iload_n 1, 1) := by decide +kernel
theorem dX3_wall_3 : decode cX3_wall 3 = .ok (.invokevirtual 70, 3) := by decide +kernel
theorem dX3_wall_6 : decode cX3_wall 6 = .ok (.ifCond .ne 7, 3) := by decide +kernel
theorem dX3_wall_9 : decode cX3_wall 9 = .ok (.iconst 1, 1) := by decide +kernel
theorem dX3_wall_10 : decode cX3_wall 10 = .ok (.goto 4, 3) := by decide +kernel
theorem dX3_wall_13 : decode cX3_wall 13 = .ok (.iconst 0, 1) := by decide +kernel
theorem dX3_wall_14 : decode cX3_wall 14 = .ok (.iload_n 2, 1) := by decide +kernel
theorem dX3_wall_15 : decode cX3_wall 15 = .ok (.iconst 0, 1) := by decide +kernel
theorem dX3_wall_16 : decode cX3_wall 16 = .ok (.bipush 50, 2) := by decide +kernel
theorem dX3_wall_18 : decode cX3_wall 18 = .ok (.invokestatic 55, 3) := by decide +kernel
theorem dX3_wall_21 : decode cX3_wall 21 = .ok (.ifCond .ne 7, 3) := by decide +kernel
theorem dX3_wall_24 : decode cX3_wall 24 = .ok (.iconst 1, 1) := by decide +kernel
theorem dX3_wall_25 : decode cX3_wall 25 = .ok (.goto 4, 3) := by decide +kernel
theorem dX3_wall_28 : decode cX3_wall 28 = .ok (.iconst 0, 1) := by decide +kernel
theorem dX3_wall_29 : decode cX3_wall 29 = .ok (.iconst 0, 1) := by decide +kernel
theorem dX3_wall_30 : decode cX3_wall 30 = .ok (.invokevirtual 59, 3) := by decide +kernel
theorem dX3_wall_33 : decode cX3_wall 33 = .ok (.ifCond .eq 5, 3) := by decide +kernel
theorem dX3_wall_36 : decode cX3_wall 36 = .ok (.iconst 0, 1) := by decide +kernel
theorem dX3_wall_37 : decode cX3_wall 37 = .ok (.ireturn, 1) := by decide +kernel
theorem dX3_wall_38 : decode cX3_wall 38 = .ok (.aload_n 0, 1) := by decide +kernel
theorem dX3_wall_39 : decode cX3_wall 39 = .ok (.getfield 23, 3) := by decide +kernel
theorem dX3_wall_42 : decode cX3_wall 42 = .ok (.iload_n 1, 1) := by decide +kernel
theorem dX3_wall_43 : decode cX3_wall 43 = .ok (.iaload, 1) := by decide +kernel
theorem dX3_wall_44 : decode cX3_wall 44 = .ok (.istore_n 3, 1) := by decide +kernel
theorem dX3_wall_45 : decode cX3_wall 45 = .ok (.aload_n 0, 1) := by decide +kernel
theorem dX3_wall_46 : decode cX3_wall 46 = .ok (.getfield 23, 3) := by decide +kernel
theorem dX3_wall_49 : decode cX3_wall 49 = .ok (.iload_n 1, 1) := by decide +kernel
theorem dX3_wall_50 : decode cX3_wall 50 = .ok (.iload_n 2, 1) := by decide +kernel
theorem dX3_wall_51 : decode cX3_wall 51 = .ok (.iastore, 1) := by decide +kernel
theorem dX3_wall_52 : decode cX3_wall 52 = .ok (.iload_n 3, 1) := by decide +kernel
theorem dX3_wall_53 : decode cX3_wall 53 = .ok (.ireturn, 1) := by decide +kernel
theorem dX3_unlike_0 : decode cX3_unlike 0 = .ok (.aload_n 0, 1) := by decide +kernel
theorem dX3_unlike_1 : decode cX3_unlike 1 = .ok (.aload_n 0, 1) := by decide +kernel
theorem dX3_unlike_2 : decode cX3_unlike 2 = .ok (.iload_n 1, 1) := by decide +kernel
theorem dX3_unlike_3 : decode cX3_unlike 3 = .ok (.invokevirtual 70, 3) := by decide +kernel
theorem dX3_unlike_6 : decode cX3_unlike 6 = .ok (.ifCond .eq 11, 3) := by decide +kernel
theorem dX3_unlike_9 : decode cX3_unlike 9 = .ok (.aload_n 0, 1) := by decide +kernel
theorem dX3_unlike_10 : decode cX3_unlike 10 = .ok (.iload_n 2, 1) := by decide +kernel
theorem dX3_unlike_11 : decode cX3_unlike 11 = .ok (.invokevirtual 70, 3) := by decide +kernel
theorem dX3_unlike_14 : decode cX3_unlike 14 = .ok (.ifCond .ne 7, 3) := by decide +kernel
theorem dX3_unlike_17 : decode cX3_unlike 17 = .ok (.iconst 1, 1) := by decide +kernel
theorem dX3_unlike_18 : decode cX3_unlike 18 = .ok (.goto 4, 3) := by decide +kernel
theorem dX3_unlike_21 : decode cX3_unlike 21 = .ok (.iconst 0, 1) := by decide +kernel
theorem dX3_unlike_22 : decode cX3_unlike 22 = .ok (.iconst 0, 1) := by decide +kernel
theorem dX3_unlike_23 : decode cX3_unlike 23 = .ok (.iconst 0, 1) := by decide +kernel
theorem dX3_unlike_24 : decode cX3_unlike 24 = .ok (.invokevirtual 59, 3) := by decide +kernel
theorem dX3_unlike_27 : decode cX3_unlike 27 = .ok (.ifCond .eq 5, 3) := by decide +kernel
theorem dX3_unlike_30 : decode cX3_unlike 30 = .ok (.iconst 0, 1) := by decide +kernel
theorem dX3_unlike_31 : decode cX3_unlike 31 = .ok (.ireturn, 1) := by decide +kernel
theorem dX3_unlike_32 : decode cX3_unlike 32 = .ok (.iconst 0, 1) := by decide +kernel
theorem dX3_unlike_33 : decode cX3_unlike 33 = .ok (.istore_n 3, 1) := by decide +kernel
theorem dX3_unlike_34 : decode cX3_unlike 34 = .ok (.iconst 0, 1) := by decide +kernel
theorem dX3_unlike_35 : decode cX3_unlike 35 = .ok (.istore 4, 2) := by decide +kernel
theorem dX3_unlike_37 : decode cX3_unlike 37 = .ok (.iload 4, 2) := by decide +kernel
theorem dX3_unlike_39 : decode cX3_unlike 39 = .ok (.sipush 400, 3) := by decide +kernel
theorem dX3_unlike_42 : decode cX3_unlike 42 = .ok (.if_icmp .gt 68, 3) := by decide +kernel
theorem dX3_unlike_45 : decode cX3_unlike 45 = .ok (.aload_n 0, 1) := by decide +kernel
theorem dX3_unlike_46 : decode cX3_unlike 46 = .ok (.iload_n 1, 1) := by decide +kernel
theorem dX3_unlike_47 : decode cX3_unlike 47 = .ok (.iload 4, 2) := by decide +kernel
theorem dX3_unlike_49 : decode cX3_unlike 49 = .ok (.invokevirtual 81, 3) := by decide +kernel
theorem dX3_unlike_52 : decode cX3_unlike 52 = .ok (.istore 5, 2) := by decide +kernel
theorem dX3_unlike_54 : decode cX3_unlike 54 = .ok (.aload_n 0, 1) := by decide +kernel
theorem dX3_unlike_55 : decode cX3_unlike 55 = .ok (.iload_n 2, 1) := by decide +kernel
theorem dX3_unlike_56 : decode cX3_unlike 56 = .ok (.iload 4, 2) := by decide +kernel
theorem dX3_unlike_58 : decode cX3_unlike 58 = .ok (.invokevirtual 81, 3) := by decide +kernel
theorem dX3_unlike_61 : decode cX3_unlike 61 = .ok (.istore 6, 2) := by decide +kernel
theorem dX3_unlike_63 : decode cX3_unlike 63 = .ok (.iload 5, 2) := by decide +kernel
theorem dX3_unlike_65 : decode cX3_unlike 65 = .ok (.ifCond .ge 7, 3) := by decide +kernel
theorem dX3_unlike_68 : decode cX3_unlike 68 = .ok (.iconst 0, 1) := by decide +kernel
theorem dX3_unlike_69 : decode cX3_unlike 69 = .ok (.goto 5, 3) := by decide +kernel
theorem dX3_unlike_72 : decode cX3_unlike 72 = .ok (.iload 5, 2) := by decide +kernel
theorem dX3_unlike_74 : decode cX3_unlike 74 = .ok (.iload 6, 2) := by decide +kernel
theorem dX3_unlike_76 : decode cX3_unlike 76 = .ok (.ifCond .ge 7, 3) := by decide +kernel
theorem dX3_unlike_79 : decode cX3_unlike 79 = .ok (.iconst 0, 1) := by decide +kernel
theorem dX3_unlike_80 : decode cX3_unlike 80 = .ok (.goto 5, 3) := by decide +kernel
theorem dX3_unlike_83 : decode cX3_unlike 83 = .ok (.iload 6, 2) := by decide +kernel
theorem dX3_unlike_85 : decode cX3_unlike 85 = .ok (.isub, 1) := by decide +kernel
theorem dX3_unlike_86 : decode cX3_unlike 86 = .ok (.istore 7, 2) := by decide +kernel
theorem dX3_unlike_88 : decode cX3_unlike 88 = .ok (.iload_n 3, 1) := by decide +kernel
theorem dX3_unlike_89 : decode cX3_unlike 89 = .ok (.iload 7, 2) := by decide +kernel
theorem dX3_unlike_91 : decode cX3_unlike 91 = .ok (.ifCond .ge 9, 3) := by decide +kernel
theorem dX3_unlike_94 : decode cX3_unlike 94 = .ok (.iload 7, 2) := by decide +kernel
theorem dX3_unlike_96 : decode cX3_unlike 96 = .ok (.ineg, 1) := by decide +kernel
theorem dX3_unlike_97 : decode cX3_unlike 97 = .ok (.goto 5, 3) := by decide +kernel
theorem dX3_unlike_100 : decode cX3_unlike 100 = .ok (.iload 7, 2) := by decide +kernel
theorem dX3_unlike_102 : decode cX3_unlike 102 = .ok (.iadd, 1) := by decide +kernel
theorem dX3_unlike_103 : decode cX3_unlike 103 = .ok (.istore_n 3, 1) := by decide +kernel
theorem dX3_unlike_104 : decode cX3_unlike 104 = .ok (.iinc 4 1, 3) := by decide +kernel
theorem dX3_unlike_107 : decode cX3_unlike 107 = .ok (.goto (-70), 3) := by decide +kernel
theorem dX3_unlike_110 : decode cX3_unlike 110 = .ok (.iload_n 3, 1) := by decide +kernel
theorem dX3_unlike_111 : decode cX3_unlike 111 = .ok (.ireturn, 1) := by decide +kernel
theorem dX3_cut_0 : decode cX3_cut 0 = .ok (.aload_n 0, 1) := by decide +kernel
theorem dX3_cut_1 : decode cX3_cut 1 = .ok (.aload_n 0, 1) := by decide +kernel
theorem dX3_cut_2 : decode cX3_cut 2 = .ok (.iload_n 1, 1) := by decide +kernel
theorem dX3_cut_3 : decode cX3_cut 3 = .ok (.invokevirtual 70, 3) := by decide +kernel
theorem dX3_cut_6 : decode cX3_cut 6 = .ok (.ifCond .ne 7, 3) := by decide +kernel
theorem dX3_cut_9 : decode cX3_cut 9 = .ok (.iconst 1, 1) := by decide +kernel
theorem dX3_cut_10 : decode cX3_cut 10 = .ok (.goto 4, 3) := by decide +kernel
theorem dX3_cut_13 : decode cX3_cut 13 = .ok (.iconst 0, 1) := by decide +kernel
theorem dX3_cut_14 : decode cX3_cut 14 = .ok (.iconst 0, 1) := by decide +kernel
theorem dX3_cut_15 : decode cX3_cut 15 = .ok (.iconst 0, 1) := by decide +kernel
theorem dX3_cut_16 : decode cX3_cut 16 = .ok (.invokevirtual 59, 3) := by decide +kernel
theorem dX3_cut_19 : decode cX3_cut 19 = .ok (.ifCond .eq 5, 3) := by decide +kernel
theorem dX3_cut_22 : decode cX3_cut 22 = .ok (.iconst 0, 1) := by decide +kernel
theorem dX3_cut_23 : decode cX3_cut 23 = .ok (.ireturn, 1) := by decide +kernel
theorem dX3_cut_24 : decode cX3_cut 24 = .ok (.aload_n 0, 1) := by decide +kernel
theorem dX3_cut_25 : decode cX3_cut 25 = .ok (.getfield 7, 3) := by decide +kernel
theorem dX3_cut_28 : decode cX3_cut 28 = .ok (.iload_n 1, 1) := by decide +kernel
theorem dX3_cut_29 : decode cX3_cut 29 = .ok (.iaload, 1) := by decide +kernel
theorem dX3_cut_30 : decode cX3_cut 30 = .ok (.istore_n 3, 1) := by decide +kernel
theorem dX3_cut_31 : decode cX3_cut 31 = .ok (.aload_n 0, 1) := by decide +kernel
theorem dX3_cut_32 : decode cX3_cut 32 = .ok (.getfield 19, 3) := by decide +kernel
theorem dX3_cut_35 : decode cX3_cut 35 = .ok (.iload_n 1, 1) := by decide +kernel
theorem dX3_cut_36 : decode cX3_cut 36 = .ok (.baload, 1) := by decide +kernel
theorem dX3_cut_37 : decode cX3_cut 37 = .ok (.ifCond .ne 29, 3) := by decide +kernel
theorem dX3_cut_40 : decode cX3_cut 40 = .ok (.iload_n 3, 1) := by decide +kernel
theorem dX3_cut_41 : decode cX3_cut 41 = .ok (.ifCond .eq 25, 3) := by decide +kernel
theorem dX3_cut_44 : decode cX3_cut 44 = .ok (.iload_n 2, 1) := by decide +kernel
theorem dX3_cut_45 : decode cX3_cut 45 = .ok (.aload_n 0, 1) := by decide +kernel
theorem dX3_cut_46 : decode cX3_cut 46 = .ok (.iload_n 1, 1) := by decide +kernel
theorem dX3_cut_47 : decode cX3_cut 47 = .ok (.iconst 0, 1) := by decide +kernel
theorem dX3_cut_48 : decode cX3_cut 48 = .ok (.invokevirtual 63, 3) := by decide +kernel
theorem dX3_cut_51 : decode cX3_cut 51 = .ok (.if_icmp .le 15, 3) := by decide +kernel
theorem dX3_cut_54 : decode cX3_cut 54 = .ok (.iload_n 2, 1) := by decide +kernel
theorem dX3_cut_55 : decode cX3_cut 55 = .ok (.aload_n 0, 1) := by decide +kernel
theorem dX3_cut_56 : decode cX3_cut 56 = .ok (.iload_n 1, 1) := by decide +kernel
theorem dX3_cut_57 : decode cX3_cut 57 = .ok (.iload_n 3, 1) := by decide +kernel
theorem dX3_cut_58 : decode cX3_cut 58 = .ok (.iconst 1, 1) := by decide +kernel
theorem dX3_cut_59 : decode cX3_cut 59 = .ok (.isub, 1) := by decide +kernel
theorem dX3_cut_60 : decode cX3_cut 60 = .ok (.invokevirtual 63, 3) := by decide +kernel
theorem dX3_cut_63 : decode cX3_cut 63 = .ok (.if_icmp .lt 5, 3) := by decide +kernel
theorem dX3_cut_66 : decode cX3_cut 66 = .ok (.iconst 0, 1) := by decide +kernel
theorem dX3_cut_67 : decode cX3_cut 67 = .ok (.ireturn, 1) := by decide +kernel
theorem dX3_cut_68 : decode cX3_cut 68 = .ok (.aload_n 0, 1) := by decide +kernel
theorem dX3_cut_69 : decode cX3_cut 69 = .ok (.iload_n 1, 1) := by decide +kernel
theorem dX3_cut_70 : decode cX3_cut 70 = .ok (.iload_n 2, 1) := by decide +kernel
theorem dX3_cut_71 : decode cX3_cut 71 = .ok (.invokevirtual 81, 3) := by decide +kernel
theorem dX3_cut_74 : decode cX3_cut 74 = .ok (.istore 4, 2) := by decide +kernel
theorem dX3_cut_76 : decode cX3_cut 76 = .ok (.aload_n 0, 1) := by decide +kernel
theorem dX3_cut_77 : decode cX3_cut 77 = .ok (.iload_n 1, 1) := by decide +kernel
theorem dX3_cut_78 : decode cX3_cut 78 = .ok (.aload_n 0, 1) := by decide +kernel
theorem dX3_cut_79 : decode cX3_cut 79 = .ok (.getfield 7, 3) := by decide +kernel
theorem dX3_cut_82 : decode cX3_cut 82 = .ok (.iload_n 1, 1) := by decide +kernel
theorem dX3_cut_83 : decode cX3_cut 83 = .ok (.iaload, 1) := by decide +kernel
theorem dX3_cut_84 : decode cX3_cut 84 = .ok (.iconst 1, 1) := by decide +kernel
theorem dX3_cut_85 : decode cX3_cut 85 = .ok (.isub, 1) := by decide +kernel
theorem dX3_cut_86 : decode cX3_cut 86 = .ok (.invokevirtual 63, 3) := by decide +kernel
theorem dX3_cut_89 : decode cX3_cut 89 = .ok (.iload_n 2, 1) := by decide +kernel
theorem dX3_cut_90 : decode cX3_cut 90 = .ok (.if_icmp .le 16, 3) := by decide +kernel
theorem dX3_cut_93 : decode cX3_cut 93 = .ok (.aload_n 0, 1) := by decide +kernel
theorem dX3_cut_94 : decode cX3_cut 94 = .ok (.getfield 7, 3) := by decide +kernel
theorem dX3_cut_97 : decode cX3_cut 97 = .ok (.iload_n 1, 1) := by decide +kernel
theorem dX3_cut_98 : decode cX3_cut 98 = .ok (.dup2, 1) := by decide +kernel
theorem dX3_cut_99 : decode cX3_cut 99 = .ok (.iaload, 1) := by decide +kernel
theorem dX3_cut_100 : decode cX3_cut 100 = .ok (.iconst 1, 1) := by decide +kernel
theorem dX3_cut_101 : decode cX3_cut 101 = .ok (.isub, 1) := by decide +kernel
theorem dX3_cut_102 : decode cX3_cut 102 = .ok (.iastore, 1) := by decide +kernel
theorem dX3_cut_103 : decode cX3_cut 103 = .ok (.goto (-27), 3) := by decide +kernel
theorem dX3_cut_106 : decode cX3_cut 106 = .ok (.aload_n 0, 1) := by decide +kernel
theorem dX3_cut_107 : decode cX3_cut 107 = .ok (.iload_n 1, 1) := by decide +kernel
theorem dX3_cut_108 : decode cX3_cut 108 = .ok (.aload_n 0, 1) := by decide +kernel
theorem dX3_cut_109 : decode cX3_cut 109 = .ok (.getfield 7, 3) := by decide +kernel
theorem dX3_cut_112 : decode cX3_cut 112 = .ok (.iload_n 1, 1) := by decide +kernel
theorem dX3_cut_113 : decode cX3_cut 113 = .ok (.iaload, 1) := by decide +kernel
theorem dX3_cut_114 : decode cX3_cut 114 = .ok (.iconst 1, 1) := by decide +kernel
theorem dX3_cut_115 : decode cX3_cut 115 = .ok (.isub, 1) := by decide +kernel
theorem dX3_cut_116 : decode cX3_cut 116 = .ok (.invokevirtual 63, 3) := by decide +kernel
theorem dX3_cut_119 : decode cX3_cut 119 = .ok (.iload_n 2, 1) := by decide +kernel
theorem dX3_cut_120 : decode cX3_cut 120 = .ok (.if_icmp .ge 11, 3) := by decide +kernel
theorem dX3_cut_123 : decode cX3_cut 123 = .ok (.aload_n 0, 1) := by decide +kernel
theorem dX3_cut_124 : decode cX3_cut 124 = .ok (.iload_n 1, 1) := by decide +kernel
theorem dX3_cut_125 : decode cX3_cut 125 = .ok (.iload_n 2, 1) := by decide +kernel
theorem dX3_cut_126 : decode cX3_cut 126 = .ok (.iload 4, 2) := by decide +kernel
theorem dX3_cut_128 : decode cX3_cut 128 = .ok (.invokevirtual 77, 3) := by decide +kernel
theorem dX3_cut_131 : decode cX3_cut 131 = .ok (.aload_n 0, 1) := by decide +kernel
theorem dX3_cut_132 : decode cX3_cut 132 = .ok (.getfield 19, 3) := by decide +kernel
theorem dX3_cut_135 : decode cX3_cut 135 = .ok (.iload_n 1, 1) := by decide +kernel
theorem dX3_cut_136 : decode cX3_cut 136 = .ok (.iconst 1, 1) := by decide +kernel
theorem dX3_cut_137 : decode cX3_cut 137 = .ok (.bastore, 1) := by decide +kernel
theorem dX3_cut_138 : decode cX3_cut 138 = .ok (.iconst 1, 1) := by decide +kernel
theorem dX3_cut_139 : decode cX3_cut 139 = .ok (.ireturn, 1) := by decide +kernel
theorem dX3_pointCount_0 : decode cX3_pointCount 0 = .ok (.aload_n 0, 1) := by decide +kernel
theorem dX3_pointCount_1 : decode cX3_pointCount 1 = .ok (.getfield 7, 3) := by decide +kernel
theorem dX3_pointCount_4 : decode cX3_pointCount 4 = .ok (.iload_n 1, 1) := by decide +kernel
theorem dX3_pointCount_5 : decode cX3_pointCount 5 = .ok (.iaload, 1) := by decide +kernel
theorem dX3_pointCount_6 : decode cX3_pointCount 6 = .ok (.istore_n 2, 1) := by decide +kernel
theorem dX3_pointCount_7 : decode cX3_pointCount 7 = .ok (.iconst 0, 1) := by decide +kernel
theorem dX3_pointCount_8 : decode cX3_pointCount 8 = .ok (.istore_n 3, 1) := by decide +kernel
theorem dX3_pointCount_9 : decode cX3_pointCount 9 = .ok (.iload_n 3, 1) := by decide +kernel
theorem dX3_pointCount_10 : decode cX3_pointCount 10 = .ok (.aload_n 0, 1) := by decide +kernel
theorem dX3_pointCount_11 : decode cX3_pointCount 11 = .ok (.getfield 7, 3) := by decide +kernel
theorem dX3_pointCount_14 : decode cX3_pointCount 14 = .ok (.iload_n 1, 1) := by decide +kernel
theorem dX3_pointCount_15 : decode cX3_pointCount 15 = .ok (.iaload, 1) := by decide +kernel
theorem dX3_pointCount_16 : decode cX3_pointCount 16 = .ok (.if_icmp .ge 26, 3) := by decide +kernel
theorem dX3_pointCount_19 : decode cX3_pointCount 19 = .ok (.iload_n 2, 1) := by decide +kernel
theorem dX3_pointCount_20 : decode cX3_pointCount 20 = .ok (.aload_n 0, 1) := by decide +kernel
theorem dX3_pointCount_21 : decode cX3_pointCount 21 = .ok (.iload_n 1, 1) := by decide +kernel
theorem dX3_pointCount_22 : decode cX3_pointCount 22 = .ok (.iload_n 3, 1) := by decide +kernel
theorem dX3_pointCount_23 : decode cX3_pointCount 23 = .ok (.invokevirtual 67, 3) := by decide +kernel
theorem dX3_pointCount_26 : decode cX3_pointCount 26 = .ok (.ifCond .le 7, 3) := by decide +kernel
theorem dX3_pointCount_29 : decode cX3_pointCount 29 = .ok (.iconst 1, 1) := by decide +kernel
theorem dX3_pointCount_30 : decode cX3_pointCount 30 = .ok (.goto 4, 3) := by decide +kernel
theorem dX3_pointCount_33 : decode cX3_pointCount 33 = .ok (.iconst 0, 1) := by decide +kernel
theorem dX3_pointCount_34 : decode cX3_pointCount 34 = .ok (.iadd, 1) := by decide +kernel
theorem dX3_pointCount_35 : decode cX3_pointCount 35 = .ok (.istore_n 2, 1) := by decide +kernel
theorem dX3_pointCount_36 : decode cX3_pointCount 36 = .ok (.iinc 3 1, 3) := by decide +kernel
theorem dX3_pointCount_39 : decode cX3_pointCount 39 = .ok (.goto (-30), 3) := by decide +kernel
theorem dX3_pointCount_42 : decode cX3_pointCount 42 = .ok (.iload_n 2, 1) := by decide +kernel
theorem dX3_pointCount_43 : decode cX3_pointCount 43 = .ok (.ireturn, 1) := by decide +kernel
theorem dX3_drawn_0 : decode cX3_drawn 0 = .ok (.aload_n 0, 1) := by decide +kernel
theorem dX3_drawn_1 : decode cX3_drawn 1 = .ok (.aload_n 0, 1) := by decide +kernel
theorem dX3_drawn_2 : decode cX3_drawn 2 = .ok (.iload_n 1, 1) := by decide +kernel
theorem dX3_drawn_3 : decode cX3_drawn 3 = .ok (.invokevirtual 70, 3) := by decide +kernel
theorem dX3_drawn_6 : decode cX3_drawn 6 = .ok (.ifCond .eq 27, 3) := by decide +kernel
theorem dX3_drawn_9 : decode cX3_drawn 9 = .ok (.iload_n 2, 1) := by decide +kernel
theorem dX3_drawn_10 : decode cX3_drawn 10 = .ok (.iconst (-1), 1) := by decide +kernel
theorem dX3_drawn_11 : decode cX3_drawn 11 = .ok (.aload_n 0, 1) := by decide +kernel
theorem dX3_drawn_12 : decode cX3_drawn 12 = .ok (.iload_n 1, 1) := by decide +kernel
theorem dX3_drawn_13 : decode cX3_drawn 13 = .ok (.invokevirtual 131, 3) := by decide +kernel
theorem dX3_drawn_16 : decode cX3_drawn 16 = .ok (.iconst 1, 1) := by decide +kernel
theorem dX3_drawn_17 : decode cX3_drawn 17 = .ok (.isub, 1) := by decide +kernel
theorem dX3_drawn_18 : decode cX3_drawn 18 = .ok (.invokestatic 55, 3) := by decide +kernel
theorem dX3_drawn_21 : decode cX3_drawn 21 = .ok (.ifCond .eq 12, 3) := by decide +kernel
theorem dX3_drawn_24 : decode cX3_drawn 24 = .ok (.iload_n 3, 1) := by decide +kernel
theorem dX3_drawn_25 : decode cX3_drawn 25 = .ok (.iconst 0, 1) := by decide +kernel
theorem dX3_drawn_26 : decode cX3_drawn 26 = .ok (.iconst 1, 1) := by decide +kernel
theorem dX3_drawn_27 : decode cX3_drawn 27 = .ok (.invokestatic 55, 3) := by decide +kernel
theorem dX3_drawn_30 : decode cX3_drawn 30 = .ok (.ifCond .ne 7, 3) := by decide +kernel
theorem dX3_drawn_33 : decode cX3_drawn 33 = .ok (.iconst 1, 1) := by decide +kernel
theorem dX3_drawn_34 : decode cX3_drawn 34 = .ok (.goto 4, 3) := by decide +kernel
theorem dX3_drawn_37 : decode cX3_drawn 37 = .ok (.iconst 0, 1) := by decide +kernel
theorem dX3_drawn_38 : decode cX3_drawn 38 = .ok (.iconst 0, 1) := by decide +kernel
theorem dX3_drawn_39 : decode cX3_drawn 39 = .ok (.iconst 0, 1) := by decide +kernel
theorem dX3_drawn_40 : decode cX3_drawn 40 = .ok (.invokevirtual 59, 3) := by decide +kernel
theorem dX3_drawn_43 : decode cX3_drawn 43 = .ok (.ifCond .eq 5, 3) := by decide +kernel
theorem dX3_drawn_46 : decode cX3_drawn 46 = .ok (.iconst 0, 1) := by decide +kernel
theorem dX3_drawn_47 : decode cX3_drawn 47 = .ok (.ireturn, 1) := by decide +kernel
theorem dX3_drawn_48 : decode cX3_drawn 48 = .ok (.iload_n 2, 1) := by decide +kernel
theorem dX3_drawn_49 : decode cX3_drawn 49 = .ok (.iconst (-1), 1) := by decide +kernel
theorem dX3_drawn_50 : decode cX3_drawn 50 = .ok (.if_icmp .ne 9, 3) := by decide +kernel
theorem dX3_drawn_53 : decode cX3_drawn 53 = .ok (.aload_n 0, 1) := by decide +kernel
theorem dX3_drawn_54 : decode cX3_drawn 54 = .ok (.iload_n 1, 1) := by decide +kernel
theorem dX3_drawn_55 : decode cX3_drawn 55 = .ok (.invokevirtual 131, 3) := by decide +kernel
theorem dX3_drawn_58 : decode cX3_drawn 58 = .ok (.ireturn, 1) := by decide +kernel
theorem dX3_drawn_59 : decode cX3_drawn 59 = .ok (.aload_n 0, 1) := by decide +kernel
theorem dX3_drawn_60 : decode cX3_drawn 60 = .ok (.getfield 7, 3) := by decide +kernel
theorem dX3_drawn_63 : decode cX3_drawn 63 = .ok (.iload_n 1, 1) := by decide +kernel
theorem dX3_drawn_64 : decode cX3_drawn 64 = .ok (.iaload, 1) := by decide +kernel
theorem dX3_drawn_65 : decode cX3_drawn 65 = .ok (.istore 4, 2) := by decide +kernel
theorem dX3_drawn_67 : decode cX3_drawn 67 = .ok (.iload_n 2, 1) := by decide +kernel
theorem dX3_drawn_68 : decode cX3_drawn 68 = .ok (.iload 4, 2) := by decide +kernel
theorem dX3_drawn_70 : decode cX3_drawn 70 = .ok (.if_icmp .ge 34, 3) := by decide +kernel
theorem dX3_drawn_73 : decode cX3_drawn 73 = .ok (.iload_n 3, 1) := by decide +kernel
theorem dX3_drawn_74 : decode cX3_drawn 74 = .ok (.ifCond .ne 18, 3) := by decide +kernel
theorem dX3_drawn_77 : decode cX3_drawn 77 = .ok (.aload_n 0, 1) := by decide +kernel
theorem dX3_drawn_78 : decode cX3_drawn 78 = .ok (.iload_n 1, 1) := by decide +kernel
theorem dX3_drawn_79 : decode cX3_drawn 79 = .ok (.iload 4, 2) := by decide +kernel
theorem dX3_drawn_81 : decode cX3_drawn 81 = .ok (.iconst 1, 1) := by decide +kernel
theorem dX3_drawn_82 : decode cX3_drawn 82 = .ok (.isub, 1) := by decide +kernel
theorem dX3_drawn_83 : decode cX3_drawn 83 = .ok (.iload_n 2, 1) := by decide +kernel
theorem dX3_drawn_84 : decode cX3_drawn 84 = .ok (.isub, 1) := by decide +kernel
theorem dX3_drawn_85 : decode cX3_drawn 85 = .ok (.invokevirtual 67, 3) := by decide +kernel
theorem dX3_drawn_88 : decode cX3_drawn 88 = .ok (.ineg, 1) := by decide +kernel
theorem dX3_drawn_89 : decode cX3_drawn 89 = .ok (.goto 14, 3) := by decide +kernel
theorem dX3_drawn_92 : decode cX3_drawn 92 = .ok (.aload_n 0, 1) := by decide +kernel
theorem dX3_drawn_93 : decode cX3_drawn 93 = .ok (.iload_n 1, 1) := by decide +kernel
theorem dX3_drawn_94 : decode cX3_drawn 94 = .ok (.iload 4, 2) := by decide +kernel
theorem dX3_drawn_96 : decode cX3_drawn 96 = .ok (.iconst 1, 1) := by decide +kernel
theorem dX3_drawn_97 : decode cX3_drawn 97 = .ok (.isub, 1) := by decide +kernel
theorem dX3_drawn_98 : decode cX3_drawn 98 = .ok (.iload_n 2, 1) := by decide +kernel
theorem dX3_drawn_99 : decode cX3_drawn 99 = .ok (.isub, 1) := by decide +kernel
theorem dX3_drawn_100 : decode cX3_drawn 100 = .ok (.invokevirtual 63, 3) := by decide +kernel
theorem dX3_drawn_103 : decode cX3_drawn 103 = .ok (.ireturn, 1) := by decide +kernel
theorem dX3_drawn_104 : decode cX3_drawn 104 = .ok (.iload_n 2, 1) := by decide +kernel
theorem dX3_drawn_105 : decode cX3_drawn 105 = .ok (.iload 4, 2) := by decide +kernel
theorem dX3_drawn_107 : decode cX3_drawn 107 = .ok (.isub, 1) := by decide +kernel
theorem dX3_drawn_108 : decode cX3_drawn 108 = .ok (.istore 5, 2) := by decide +kernel
theorem dX3_drawn_110 : decode cX3_drawn 110 = .ok (.iconst 0, 1) := by decide +kernel
theorem dX3_drawn_111 : decode cX3_drawn 111 = .ok (.istore 6, 2) := by decide +kernel
theorem dX3_drawn_113 : decode cX3_drawn 113 = .ok (.aload_n 0, 1) := by decide +kernel
theorem dX3_drawn_114 : decode cX3_drawn 114 = .ok (.iload_n 1, 1) := by decide +kernel
theorem dX3_drawn_115 : decode cX3_drawn 115 = .ok (.iload 6, 2) := by decide +kernel
theorem dX3_drawn_117 : decode cX3_drawn 117 = .ok (.invokevirtual 67, 3) := by decide +kernel
theorem dX3_drawn_120 : decode cX3_drawn 120 = .ok (.ifCond .eq 8, 3) := by decide +kernel
theorem dX3_drawn_123 : decode cX3_drawn 123 = .ok (.iload 5, 2) := by decide +kernel
theorem dX3_drawn_125 : decode cX3_drawn 125 = .ok (.ifCond .le 29, 3) := by decide +kernel
theorem dX3_drawn_128 : decode cX3_drawn 128 = .ok (.iload 5, 2) := by decide +kernel
theorem dX3_drawn_130 : decode cX3_drawn 130 = .ok (.aload_n 0, 1) := by decide +kernel
theorem dX3_drawn_131 : decode cX3_drawn 131 = .ok (.iload_n 1, 1) := by decide +kernel
theorem dX3_drawn_132 : decode cX3_drawn 132 = .ok (.iload 6, 2) := by decide +kernel
theorem dX3_drawn_134 : decode cX3_drawn 134 = .ok (.invokevirtual 67, 3) := by decide +kernel
theorem dX3_drawn_137 : decode cX3_drawn 137 = .ok (.ifCond .le 7, 3) := by decide +kernel
theorem dX3_drawn_140 : decode cX3_drawn 140 = .ok (.iconst 1, 1) := by decide +kernel
theorem dX3_drawn_141 : decode cX3_drawn 141 = .ok (.goto 4, 3) := by decide +kernel
theorem dX3_drawn_144 : decode cX3_drawn 144 = .ok (.iconst 0, 1) := by decide +kernel
theorem dX3_drawn_145 : decode cX3_drawn 145 = .ok (.isub, 1) := by decide +kernel
theorem dX3_drawn_146 : decode cX3_drawn 146 = .ok (.istore 5, 2) := by decide +kernel
theorem dX3_drawn_148 : decode cX3_drawn 148 = .ok (.iinc 6 1, 3) := by decide +kernel
theorem dX3_drawn_151 : decode cX3_drawn 151 = .ok (.goto (-38), 3) := by decide +kernel
theorem dX3_drawn_154 : decode cX3_drawn 154 = .ok (.iload_n 3, 1) := by decide +kernel
theorem dX3_drawn_155 : decode cX3_drawn 155 = .ok (.ifCond .ne 13, 3) := by decide +kernel
theorem dX3_drawn_158 : decode cX3_drawn 158 = .ok (.aload_n 0, 1) := by decide +kernel
theorem dX3_drawn_159 : decode cX3_drawn 159 = .ok (.iload_n 1, 1) := by decide +kernel
theorem dX3_drawn_160 : decode cX3_drawn 160 = .ok (.iload 6, 2) := by decide +kernel
theorem dX3_drawn_162 : decode cX3_drawn 162 = .ok (.invokevirtual 67, 3) := by decide +kernel
theorem dX3_drawn_165 : decode cX3_drawn 165 = .ok (.goto 10, 3) := by decide +kernel
theorem dX3_drawn_168 : decode cX3_drawn 168 = .ok (.aload_n 0, 1) := by decide +kernel
theorem dX3_drawn_169 : decode cX3_drawn 169 = .ok (.iload_n 1, 1) := by decide +kernel
theorem dX3_drawn_170 : decode cX3_drawn 170 = .ok (.iload 6, 2) := by decide +kernel
theorem dX3_drawn_172 : decode cX3_drawn 172 = .ok (.invokevirtual 63, 3) := by decide +kernel
theorem dX3_drawn_175 : decode cX3_drawn 175 = .ok (.ireturn, 1) := by decide +kernel
theorem dX3_bound_0 : decode cX3_bound 0 = .ok (.aload_n 0, 1) := by decide +kernel
theorem dX3_bound_1 : decode cX3_bound 1 = .ok (.iload_n 1, 1) := by decide +kernel
theorem dX3_bound_2 : decode cX3_bound 2 = .ok (.iconst 0, 1) := by decide +kernel
theorem dX3_bound_3 : decode cX3_bound 3 = .ok (.ldc 135, 2) := by decide +kernel
theorem dX3_bound_5 : decode cX3_bound 5 = .ok (.invokestatic 55, 3) := by decide +kernel
theorem dX3_bound_8 : decode cX3_bound 8 = .ok (.ifCond .ne 7, 3) := by decide +kernel
theorem dX3_bound_11 : decode cX3_bound 11 = .ok (.iconst 1, 1) := by decide +kernel
theorem dX3_bound_12 : decode cX3_bound 12 = .ok (.goto 4, 3) := by decide +kernel
theorem dX3_bound_15 : decode cX3_bound 15 = .ok (.iconst 0, 1) := by decide +kernel
theorem dX3_bound_16 : decode cX3_bound 16 = .ok (.aload_n 0, 1) := by decide +kernel
theorem dX3_bound_17 : decode cX3_bound 17 = .ok (.getfield 136, 3) := by decide +kernel
theorem dX3_bound_20 : decode cX3_bound 20 = .ok (.bipush 10, 2) := by decide +kernel
theorem dX3_bound_22 : decode cX3_bound 22 = .ok (.if_icmp .ne 7, 3) := by decide +kernel
theorem dX3_bound_25 : decode cX3_bound 25 = .ok (.iconst 1, 1) := by decide +kernel
theorem dX3_bound_26 : decode cX3_bound 26 = .ok (.goto 4, 3) := by decide +kernel
theorem dX3_bound_29 : decode cX3_bound 29 = .ok (.iconst 0, 1) := by decide +kernel
theorem dX3_bound_30 : decode cX3_bound 30 = .ok (.iconst 0, 1) := by decide +kernel
theorem dX3_bound_31 : decode cX3_bound 31 = .ok (.invokevirtual 59, 3) := by decide +kernel
theorem dX3_bound_34 : decode cX3_bound 34 = .ok (.ifCond .eq 5, 3) := by decide +kernel
theorem dX3_bound_37 : decode cX3_bound 37 = .ok (.iconst 0, 1) := by decide +kernel
theorem dX3_bound_38 : decode cX3_bound 38 = .ok (.ireturn, 1) := by decide +kernel
theorem dX3_bound_39 : decode cX3_bound 39 = .ok (.aload_n 0, 1) := by decide +kernel
theorem dX3_bound_40 : decode cX3_bound 40 = .ok (.getfield 26, 3) := by decide +kernel
theorem dX3_bound_43 : decode cX3_bound 43 = .ok (.aload_n 0, 1) := by decide +kernel
theorem dX3_bound_44 : decode cX3_bound 44 = .ok (.getfield 136, 3) := by decide +kernel
theorem dX3_bound_47 : decode cX3_bound 47 = .ok (.iload_n 1, 1) := by decide +kernel
theorem dX3_bound_48 : decode cX3_bound 48 = .ok (.iastore, 1) := by decide +kernel
theorem dX3_bound_49 : decode cX3_bound 49 = .ok (.aload_n 0, 1) := by decide +kernel
theorem dX3_bound_50 : decode cX3_bound 50 = .ok (.dup, 1) := by decide +kernel
theorem dX3_bound_51 : decode cX3_bound 51 = .ok (.getfield 136, 3) := by decide +kernel
theorem dX3_bound_54 : decode cX3_bound 54 = .ok (.iconst 1, 1) := by decide +kernel
theorem dX3_bound_55 : decode cX3_bound 55 = .ok (.iadd, 1) := by decide +kernel
theorem dX3_bound_56 : decode cX3_bound 56 = .ok (.putfield 136, 3) := by decide +kernel
theorem dX3_bound_59 : decode cX3_bound 59 = .ok (.aload_n 0, 1) := by decide +kernel
theorem dX3_bound_60 : decode cX3_bound 60 = .ok (.getfield 136, 3) := by decide +kernel
theorem dX3_bound_63 : decode cX3_bound 63 = .ok (.ireturn, 1) := by decide +kernel
theorem dX3_size_0 : decode cX3_size 0 = .ok (.aload_n 0, 1) := by decide +kernel
theorem dX3_size_1 : decode cX3_size 1 = .ok (.aload_n 0, 1) := by decide +kernel
theorem dX3_size_2 : decode cX3_size 2 = .ok (.iload_n 1, 1) := by decide +kernel
theorem dX3_size_3 : decode cX3_size 3 = .ok (.invokevirtual 70, 3) := by decide +kernel
theorem dX3_size_6 : decode cX3_size 6 = .ok (.ifCond .ne 7, 3) := by decide +kernel
theorem dX3_size_9 : decode cX3_size 9 = .ok (.iconst 1, 1) := by decide +kernel
theorem dX3_size_10 : decode cX3_size 10 = .ok (.goto 4, 3) := by decide +kernel
theorem dX3_size_13 : decode cX3_size 13 = .ok (.iconst 0, 1) := by decide +kernel
theorem dX3_size_14 : decode cX3_size 14 = .ok (.iconst 0, 1) := by decide +kernel
theorem dX3_size_15 : decode cX3_size 15 = .ok (.iconst 0, 1) := by decide +kernel
theorem dX3_size_16 : decode cX3_size 16 = .ok (.invokevirtual 59, 3) := by decide +kernel
theorem dX3_size_19 : decode cX3_size 19 = .ok (.ifCond .eq 5, 3) := by decide +kernel
theorem dX3_size_22 : decode cX3_size 22 = .ok (.iconst 0, 1) := by decide +kernel
theorem dX3_size_23 : decode cX3_size 23 = .ok (.ireturn, 1) := by decide +kernel
theorem dX3_size_24 : decode cX3_size 24 = .ok (.aload_n 0, 1) := by decide +kernel
theorem dX3_size_25 : decode cX3_size 25 = .ok (.iload_n 1, 1) := by decide +kernel
theorem dX3_size_26 : decode cX3_size 26 = .ok (.iconst 0, 1) := by decide +kernel
theorem dX3_size_27 : decode cX3_size 27 = .ok (.invokevirtual 127, 3) := by decide +kernel
theorem dX3_size_30 : decode cX3_size 30 = .ok (.lstore_n 2, 1) := by decide +kernel
theorem dX3_size_31 : decode cX3_size 31 = .ok (.iconst 0, 1) := by decide +kernel
theorem dX3_size_32 : decode cX3_size 32 = .ok (.istore 4, 2) := by decide +kernel
theorem dX3_size_34 : decode cX3_size 34 = .ok (.iconst 0, 1) := by decide +kernel
theorem dX3_size_35 : decode cX3_size 35 = .ok (.istore 5, 2) := by decide +kernel
theorem dX3_size_37 : decode cX3_size 37 = .ok (.iload 5, 2) := by decide +kernel
theorem dX3_size_39 : decode cX3_size 39 = .ok (.aload_n 0, 1) := by decide +kernel
theorem dX3_size_40 : decode cX3_size 40 = .ok (.getfield 136, 3) := by decide +kernel
theorem dX3_size_43 : decode cX3_size 43 = .ok (.if_icmp .ge 32, 3) := by decide +kernel
theorem dX3_size_46 : decode cX3_size 46 = .ok (.iload 4, 2) := by decide +kernel
theorem dX3_size_48 : decode cX3_size 48 = .ok (.aload_n 0, 1) := by decide +kernel
theorem dX3_size_49 : decode cX3_size 49 = .ok (.getfield 26, 3) := by decide +kernel
theorem dX3_size_52 : decode cX3_size 52 = .ok (.iload 5, 2) := by decide +kernel
theorem dX3_size_54 : decode cX3_size 54 = .ok (.iaload, 1) := by decide +kernel
theorem dX3_size_55 : decode cX3_size 55 = .ok (.i2l, 1) := by decide +kernel
theorem dX3_size_56 : decode cX3_size 56 = .ok (.lload_n 2, 1) := by decide +kernel
theorem dX3_size_57 : decode cX3_size 57 = .ok (.lcmp, 1) := by decide +kernel
theorem dX3_size_58 : decode cX3_size 58 = .ok (.ifCond .gt 7, 3) := by decide +kernel
theorem dX3_size_61 : decode cX3_size 61 = .ok (.iconst 1, 1) := by decide +kernel
theorem dX3_size_62 : decode cX3_size 62 = .ok (.goto 4, 3) := by decide +kernel
theorem dX3_size_65 : decode cX3_size 65 = .ok (.iconst 0, 1) := by decide +kernel
theorem dX3_size_66 : decode cX3_size 66 = .ok (.iadd, 1) := by decide +kernel
theorem dX3_size_67 : decode cX3_size 67 = .ok (.istore 4, 2) := by decide +kernel
theorem dX3_size_69 : decode cX3_size 69 = .ok (.iinc 5 1, 3) := by decide +kernel
theorem dX3_size_72 : decode cX3_size 72 = .ok (.goto (-35), 3) := by decide +kernel
theorem dX3_size_75 : decode cX3_size 75 = .ok (.iload 4, 2) := by decide +kernel
theorem dX3_size_77 : decode cX3_size 77 = .ok (.ireturn, 1) := by decide +kernel
theorem dX3_rim_0 : decode cX3_rim 0 = .ok (.aload_n 0, 1) := by decide +kernel
theorem dX3_rim_1 : decode cX3_rim 1 = .ok (.iload_n 1, 1) := by decide +kernel
theorem dX3_rim_2 : decode cX3_rim 2 = .ok (.sipush (-200), 3) := by decide +kernel
theorem dX3_rim_5 : decode cX3_rim 5 = .ok (.sipush 200, 3) := by decide +kernel
theorem dX3_rim_8 : decode cX3_rim 8 = .ok (.invokestatic 55, 3) := by decide +kernel
theorem dX3_rim_11 : decode cX3_rim 11 = .ok (.ifCond .eq 16, 3) := by decide +kernel
theorem dX3_rim_14 : decode cX3_rim 14 = .ok (.iload_n 2, 1) := by decide +kernel
theorem dX3_rim_15 : decode cX3_rim 15 = .ok (.sipush (-200), 3) := by decide +kernel
theorem dX3_rim_18 : decode cX3_rim 18 = .ok (.sipush 200, 3) := by decide +kernel
theorem dX3_rim_21 : decode cX3_rim 21 = .ok (.invokestatic 55, 3) := by decide +kernel
theorem dX3_rim_24 : decode cX3_rim 24 = .ok (.ifCond .ne 7, 3) := by decide +kernel
theorem dX3_rim_27 : decode cX3_rim 27 = .ok (.iconst 1, 1) := by decide +kernel
theorem dX3_rim_28 : decode cX3_rim 28 = .ok (.goto 4, 3) := by decide +kernel
theorem dX3_rim_31 : decode cX3_rim 31 = .ok (.iconst 0, 1) := by decide +kernel
theorem dX3_rim_32 : decode cX3_rim 32 = .ok (.aload_n 0, 1) := by decide +kernel
theorem dX3_rim_33 : decode cX3_rim 33 = .ok (.getfield 139, 3) := by decide +kernel
theorem dX3_rim_36 : decode cX3_rim 36 = .ok (.bipush 20, 2) := by decide +kernel
theorem dX3_rim_38 : decode cX3_rim 38 = .ok (.if_icmp .ne 7, 3) := by decide +kernel
theorem dX3_rim_41 : decode cX3_rim 41 = .ok (.iconst 1, 1) := by decide +kernel
theorem dX3_rim_42 : decode cX3_rim 42 = .ok (.goto 4, 3) := by decide +kernel
theorem dX3_rim_45 : decode cX3_rim 45 = .ok (.iconst 0, 1) := by decide +kernel
theorem dX3_rim_46 : decode cX3_rim 46 = .ok (.iconst 0, 1) := by decide +kernel
theorem dX3_rim_47 : decode cX3_rim 47 = .ok (.invokevirtual 59, 3) := by decide +kernel
theorem dX3_rim_50 : decode cX3_rim 50 = .ok (.ifCond .eq 5, 3) := by decide +kernel
theorem dX3_rim_53 : decode cX3_rim 53 = .ok (.iconst 0, 1) := by decide +kernel
theorem dX3_rim_54 : decode cX3_rim 54 = .ok (.ireturn, 1) := by decide +kernel
theorem dX3_rim_55 : decode cX3_rim 55 = .ok (.aload_n 0, 1) := by decide +kernel
theorem dX3_rim_56 : decode cX3_rim 56 = .ok (.getfield 29, 3) := by decide +kernel
theorem dX3_rim_59 : decode cX3_rim 59 = .ok (.aload_n 0, 1) := by decide +kernel
theorem dX3_rim_60 : decode cX3_rim 60 = .ok (.getfield 139, 3) := by decide +kernel
theorem dX3_rim_63 : decode cX3_rim 63 = .ok (.iload_n 1, 1) := by decide +kernel
theorem dX3_rim_64 : decode cX3_rim 64 = .ok (.iastore, 1) := by decide +kernel
theorem dX3_rim_65 : decode cX3_rim 65 = .ok (.aload_n 0, 1) := by decide +kernel
theorem dX3_rim_66 : decode cX3_rim 66 = .ok (.getfield 32, 3) := by decide +kernel
theorem dX3_rim_69 : decode cX3_rim 69 = .ok (.aload_n 0, 1) := by decide +kernel
theorem dX3_rim_70 : decode cX3_rim 70 = .ok (.getfield 139, 3) := by decide +kernel
theorem dX3_rim_73 : decode cX3_rim 73 = .ok (.iload_n 2, 1) := by decide +kernel
theorem dX3_rim_74 : decode cX3_rim 74 = .ok (.iastore, 1) := by decide +kernel
theorem dX3_rim_75 : decode cX3_rim 75 = .ok (.aload_n 0, 1) := by decide +kernel
theorem dX3_rim_76 : decode cX3_rim 76 = .ok (.dup, 1) := by decide +kernel
theorem dX3_rim_77 : decode cX3_rim 77 = .ok (.getfield 139, 3) := by decide +kernel
theorem dX3_rim_80 : decode cX3_rim 80 = .ok (.iconst 1, 1) := by decide +kernel
theorem dX3_rim_81 : decode cX3_rim 81 = .ok (.iadd, 1) := by decide +kernel
theorem dX3_rim_82 : decode cX3_rim 82 = .ok (.putfield 139, 3) := by decide +kernel
theorem dX3_rim_85 : decode cX3_rim 85 = .ok (.aload_n 0, 1) := by decide +kernel
theorem dX3_rim_86 : decode cX3_rim 86 = .ok (.getfield 139, 3) := by decide +kernel
theorem dX3_rim_89 : decode cX3_rim 89 = .ok (.ireturn, 1) := by decide +kernel
theorem dX3_clear_0 : decode cX3_clear 0 = .ok (.aload_n 0, 1) := by decide +kernel
theorem dX3_clear_1 : decode cX3_clear 1 = .ok (.iconst 0, 1) := by decide +kernel
theorem dX3_clear_2 : decode cX3_clear 2 = .ok (.putfield 48, 3) := by decide +kernel
theorem dX3_clear_5 : decode cX3_clear 5 = .ok (.aload_n 0, 1) := by decide +kernel
theorem dX3_clear_6 : decode cX3_clear 6 = .ok (.getfield 139, 3) := by decide +kernel
theorem dX3_clear_9 : decode cX3_clear 9 = .ok (.istore_n 1, 1) := by decide +kernel
theorem dX3_clear_10 : decode cX3_clear 10 = .ok (.aload_n 0, 1) := by decide +kernel
theorem dX3_clear_11 : decode cX3_clear 11 = .ok (.iconst 0, 1) := by decide +kernel
theorem dX3_clear_12 : decode cX3_clear 12 = .ok (.putfield 139, 3) := by decide +kernel
theorem dX3_clear_15 : decode cX3_clear 15 = .ok (.iload_n 1, 1) := by decide +kernel
theorem dX3_clear_16 : decode cX3_clear 16 = .ok (.ireturn, 1) := by decide +kernel
theorem dX3_apart_0 : decode cX3_apart 0 = .ok (.aload_n 0, 1) := by decide +kernel
theorem dX3_apart_1 : decode cX3_apart 1 = .ok (.getfield 29, 3) := by decide +kernel
theorem dX3_apart_4 : decode cX3_apart 4 = .ok (.iload_n 1, 1) := by decide +kernel
theorem dX3_apart_5 : decode cX3_apart 5 = .ok (.iaload, 1) := by decide +kernel
theorem dX3_apart_6 : decode cX3_apart 6 = .ok (.aload_n 0, 1) := by decide +kernel
theorem dX3_apart_7 : decode cX3_apart 7 = .ok (.getfield 29, 3) := by decide +kernel
theorem dX3_apart_10 : decode cX3_apart 10 = .ok (.iload_n 2, 1) := by decide +kernel
theorem dX3_apart_11 : decode cX3_apart 11 = .ok (.iaload, 1) := by decide +kernel
theorem dX3_apart_12 : decode cX3_apart 12 = .ok (.isub, 1) := by decide +kernel
theorem dX3_apart_13 : decode cX3_apart 13 = .ok (.i2l, 1) := by decide +kernel
theorem dX3_apart_14 : decode cX3_apart 14 = .ok (.lstore_n 3, 1) := by decide +kernel
theorem dX3_apart_15 : decode cX3_apart 15 = .ok (.aload_n 0, 1) := by decide +kernel
theorem dX3_apart_16 : decode cX3_apart 16 = .ok (.getfield 32, 3) := by decide +kernel
theorem dX3_apart_19 : decode cX3_apart 19 = .ok (.iload_n 1, 1) := by decide +kernel
theorem dX3_apart_20 : decode cX3_apart 20 = .ok (.iaload, 1) := by decide +kernel
theorem dX3_apart_21 : decode cX3_apart 21 = .ok (.aload_n 0, 1) := by decide +kernel
theorem dX3_apart_22 : decode cX3_apart 22 = .ok (.getfield 32, 3) := by decide +kernel
theorem dX3_apart_25 : decode cX3_apart 25 = .ok (.iload_n 2, 1) := by decide +kernel
theorem dX3_apart_26 : decode cX3_apart 26 = .ok (.iaload, 1) := by decide +kernel
theorem dX3_apart_27 : decode cX3_apart 27 = .ok (.isub, 1) := by decide +kernel
theorem dX3_apart_28 : decode cX3_apart 28 = .ok (.i2l, 1) := by decide +kernel
theorem dX3_apart_29 : decode cX3_apart 29 = .ok (.lstore 5, 2) := by decide +kernel
theorem dX3_apart_31 : decode cX3_apart 31 = .ok (.lload_n 3, 1) := by decide +kernel
theorem dX3_apart_32 : decode cX3_apart 32 = .ok (.lload_n 3, 1) := by decide +kernel
theorem dX3_apart_33 : decode cX3_apart 33 = .ok (.lmul, 1) := by decide +kernel
theorem dX3_apart_34 : decode cX3_apart 34 = .ok (.lload 5, 2) := by decide +kernel
theorem dX3_apart_36 : decode cX3_apart 36 = .ok (.lload 5, 2) := by decide +kernel
theorem dX3_apart_38 : decode cX3_apart 38 = .ok (.lmul, 1) := by decide +kernel
theorem dX3_apart_39 : decode cX3_apart 39 = .ok (.ladd, 1) := by decide +kernel
theorem dX3_apart_40 : decode cX3_apart 40 = .ok (.lreturn, 1) := by decide +kernel
theorem dX3_round_0 : decode cX3_round 0 = .ok (.iconst 0, 1) := by decide +kernel
theorem dX3_round_1 : decode cX3_round 1 = .ok (.istore_n 1, 1) := by decide +kernel
theorem dX3_round_2 : decode cX3_round 2 = .ok (.aload_n 0, 1) := by decide +kernel
theorem dX3_round_3 : decode cX3_round 3 = .ok (.getfield 139, 3) := by decide +kernel
theorem dX3_round_6 : decode cX3_round 6 = .ok (.iconst 2, 1) := by decide +kernel
theorem dX3_round_7 : decode cX3_round 7 = .ok (.idiv, 1) := by decide +kernel
theorem dX3_round_8 : decode cX3_round 8 = .ok (.istore_n 2, 1) := by decide +kernel
theorem dX3_round_9 : decode cX3_round 9 = .ok (.aload_n 0, 1) := by decide +kernel
theorem dX3_round_10 : decode cX3_round 10 = .ok (.getfield 139, 3) := by decide +kernel
theorem dX3_round_13 : decode cX3_round 13 = .ok (.iconst 1, 1) := by decide +kernel
theorem dX3_round_14 : decode cX3_round 14 = .ok (.isub, 1) := by decide +kernel
theorem dX3_round_15 : decode cX3_round 15 = .ok (.istore_n 3, 1) := by decide +kernel
theorem dX3_round_16 : decode cX3_round 16 = .ok (.aload_n 0, 1) := by decide +kernel
theorem dX3_round_17 : decode cX3_round 17 = .ok (.getfield 29, 3) := by decide +kernel
theorem dX3_round_20 : decode cX3_round 20 = .ok (.iload_n 2, 1) := by decide +kernel
theorem dX3_round_21 : decode cX3_round 21 = .ok (.iaload, 1) := by decide +kernel
theorem dX3_round_22 : decode cX3_round 22 = .ok (.aload_n 0, 1) := by decide +kernel
theorem dX3_round_23 : decode cX3_round 23 = .ok (.getfield 29, 3) := by decide +kernel
theorem dX3_round_26 : decode cX3_round 26 = .ok (.iload_n 1, 1) := by decide +kernel
theorem dX3_round_27 : decode cX3_round 27 = .ok (.iaload, 1) := by decide +kernel
theorem dX3_round_28 : decode cX3_round 28 = .ok (.isub, 1) := by decide +kernel
theorem dX3_round_29 : decode cX3_round 29 = .ok (.i2l, 1) := by decide +kernel
theorem dX3_round_30 : decode cX3_round 30 = .ok (.aload_n 0, 1) := by decide +kernel
theorem dX3_round_31 : decode cX3_round 31 = .ok (.getfield 32, 3) := by decide +kernel
theorem dX3_round_34 : decode cX3_round 34 = .ok (.iload_n 3, 1) := by decide +kernel
theorem dX3_round_35 : decode cX3_round 35 = .ok (.iaload, 1) := by decide +kernel
theorem dX3_round_36 : decode cX3_round 36 = .ok (.aload_n 0, 1) := by decide +kernel
theorem dX3_round_37 : decode cX3_round 37 = .ok (.getfield 32, 3) := by decide +kernel
theorem dX3_round_40 : decode cX3_round 40 = .ok (.iload_n 1, 1) := by decide +kernel
theorem dX3_round_41 : decode cX3_round 41 = .ok (.iaload, 1) := by decide +kernel
theorem dX3_round_42 : decode cX3_round 42 = .ok (.isub, 1) := by decide +kernel
theorem dX3_round_43 : decode cX3_round 43 = .ok (.i2l, 1) := by decide +kernel
theorem dX3_round_44 : decode cX3_round 44 = .ok (.lmul, 1) := by decide +kernel
theorem dX3_round_45 : decode cX3_round 45 = .ok (.aload_n 0, 1) := by decide +kernel
theorem dX3_round_46 : decode cX3_round 46 = .ok (.getfield 29, 3) := by decide +kernel
theorem dX3_round_49 : decode cX3_round 49 = .ok (.iload_n 3, 1) := by decide +kernel
theorem dX3_round_50 : decode cX3_round 50 = .ok (.iaload, 1) := by decide +kernel
theorem dX3_round_51 : decode cX3_round 51 = .ok (.aload_n 0, 1) := by decide +kernel
theorem dX3_round_52 : decode cX3_round 52 = .ok (.getfield 29, 3) := by decide +kernel
theorem dX3_round_55 : decode cX3_round 55 = .ok (.iload_n 1, 1) := by decide +kernel
theorem dX3_round_56 : decode cX3_round 56 = .ok (.iaload, 1) := by decide +kernel
theorem dX3_round_57 : decode cX3_round 57 = .ok (.isub, 1) := by decide +kernel
theorem dX3_round_58 : decode cX3_round 58 = .ok (.i2l, 1) := by decide +kernel
theorem dX3_round_59 : decode cX3_round 59 = .ok (.aload_n 0, 1) := by decide +kernel
theorem dX3_round_60 : decode cX3_round 60 = .ok (.getfield 32, 3) := by decide +kernel
theorem dX3_round_63 : decode cX3_round 63 = .ok (.iload_n 2, 1) := by decide +kernel
theorem dX3_round_64 : decode cX3_round 64 = .ok (.iaload, 1) := by decide +kernel
theorem dX3_round_65 : decode cX3_round 65 = .ok (.aload_n 0, 1) := by decide +kernel
theorem dX3_round_66 : decode cX3_round 66 = .ok (.getfield 32, 3) := by decide +kernel
theorem dX3_round_69 : decode cX3_round 69 = .ok (.iload_n 1, 1) := by decide +kernel
theorem dX3_round_70 : decode cX3_round 70 = .ok (.iaload, 1) := by decide +kernel
theorem dX3_round_71 : decode cX3_round 71 = .ok (.isub, 1) := by decide +kernel
theorem dX3_round_72 : decode cX3_round 72 = .ok (.i2l, 1) := by decide +kernel
theorem dX3_round_73 : decode cX3_round 73 = .ok (.lmul, 1) := by decide +kernel
theorem dX3_round_74 : decode cX3_round 74 = .ok (.lsub, 1) := by decide +kernel
theorem dX3_round_75 : decode cX3_round 75 = .ok (.lstore 4, 2) := by decide +kernel
theorem dX3_round_77 : decode cX3_round 77 = .ok (.aload_n 0, 1) := by decide +kernel
theorem dX3_round_78 : decode cX3_round 78 = .ok (.lload 4, 2) := by decide +kernel
theorem dX3_round_80 : decode cX3_round 80 = .ok (.lconst 0, 1) := by decide +kernel
theorem dX3_round_81 : decode cX3_round 81 = .ok (.lcmp, 1) := by decide +kernel
theorem dX3_round_82 : decode cX3_round 82 = .ok (.ifCond .ne 7, 3) := by decide +kernel
theorem dX3_round_85 : decode cX3_round 85 = .ok (.lconst 0, 1) := by decide +kernel
theorem dX3_round_86 : decode cX3_round 86 = .ok (.goto 23, 3) := by decide +kernel
theorem dX3_round_89 : decode cX3_round 89 = .ok (.aload_n 0, 1) := by decide +kernel
theorem dX3_round_90 : decode cX3_round 90 = .ok (.iload_n 1, 1) := by decide +kernel
theorem dX3_round_91 : decode cX3_round 91 = .ok (.iload_n 2, 1) := by decide +kernel
theorem dX3_round_92 : decode cX3_round 92 = .ok (.invokevirtual 142, 3) := by decide +kernel
theorem dX3_round_95 : decode cX3_round 95 = .ok (.aload_n 0, 1) := by decide +kernel
theorem dX3_round_96 : decode cX3_round 96 = .ok (.iload_n 2, 1) := by decide +kernel
theorem dX3_round_97 : decode cX3_round 97 = .ok (.iload_n 3, 1) := by decide +kernel
theorem dX3_round_98 : decode cX3_round 98 = .ok (.invokevirtual 142, 3) := by decide +kernel
theorem dX3_round_101 : decode cX3_round 101 = .ok (.lmul, 1) := by decide +kernel
theorem dX3_round_102 : decode cX3_round 102 = .ok (.aload_n 0, 1) := by decide +kernel
theorem dX3_round_103 : decode cX3_round 103 = .ok (.iload_n 1, 1) := by decide +kernel
theorem dX3_round_104 : decode cX3_round 104 = .ok (.iload_n 3, 1) := by decide +kernel
theorem dX3_round_105 : decode cX3_round 105 = .ok (.invokevirtual 142, 3) := by decide +kernel
theorem dX3_round_108 : decode cX3_round 108 = .ok (.lmul, 1) := by decide +kernel
theorem dX3_round_109 : decode cX3_round 109 = .ok (.putfield 84, 3) := by decide +kernel
theorem dX3_round_112 : decode cX3_round 112 = .ok (.aload_n 0, 1) := by decide +kernel
theorem dX3_round_113 : decode cX3_round 113 = .ok (.lload 4, 2) := by decide +kernel
theorem dX3_round_115 : decode cX3_round 115 = .ok (.lconst 0, 1) := by decide +kernel
theorem dX3_round_116 : decode cX3_round 116 = .ok (.lcmp, 1) := by decide +kernel
theorem dX3_round_117 : decode cX3_round 117 = .ok (.ifCond .ne 7, 3) := by decide +kernel
theorem dX3_round_120 : decode cX3_round 120 = .ok (.lconst 1, 1) := by decide +kernel
theorem dX3_round_121 : decode cX3_round 121 = .ok (.goto 12, 3) := by decide +kernel
theorem dX3_round_124 : decode cX3_round 124 = .ok (.ldc2_w 145, 3) := by decide +kernel
theorem dX3_round_127 : decode cX3_round 127 = .ok (.lload 4, 2) := by decide +kernel
theorem dX3_round_129 : decode cX3_round 129 = .ok (.lmul, 1) := by decide +kernel
theorem dX3_round_130 : decode cX3_round 130 = .ok (.lload 4, 2) := by decide +kernel
theorem dX3_round_132 : decode cX3_round 132 = .ok (.lmul, 1) := by decide +kernel
theorem dX3_round_133 : decode cX3_round 133 = .ok (.putfield 44, 3) := by decide +kernel
theorem dX3_round_136 : decode cX3_round 136 = .ok (.aload_n 0, 1) := by decide +kernel
theorem dX3_round_137 : decode cX3_round 137 = .ok (.invokevirtual 91, 3) := by decide +kernel
theorem dX3_round_140 : decode cX3_round 140 = .ok (.return_, 1) := by decide +kernel
theorem dX3_circle_0 : decode cX3_circle 0 = .ok (.aload_n 0, 1) := by decide +kernel
theorem dX3_circle_1 : decode cX3_circle 1 = .ok (.iload_n 1, 1) := by decide +kernel
theorem dX3_circle_2 : decode cX3_circle 2 = .ok (.iconst 0, 1) := by decide +kernel
theorem dX3_circle_3 : decode cX3_circle 3 = .ok (.iconst 1, 1) := by decide +kernel
theorem dX3_circle_4 : decode cX3_circle 4 = .ok (.invokestatic 55, 3) := by decide +kernel
theorem dX3_circle_7 : decode cX3_circle 7 = .ok (.ifCond .ne 7, 3) := by decide +kernel
theorem dX3_circle_10 : decode cX3_circle 10 = .ok (.iconst 1, 1) := by decide +kernel
theorem dX3_circle_11 : decode cX3_circle 11 = .ok (.goto 4, 3) := by decide +kernel
theorem dX3_circle_14 : decode cX3_circle 14 = .ok (.iconst 0, 1) := by decide +kernel
theorem dX3_circle_15 : decode cX3_circle 15 = .ok (.aload_n 0, 1) := by decide +kernel
theorem dX3_circle_16 : decode cX3_circle 16 = .ok (.getfield 139, 3) := by decide +kernel
theorem dX3_circle_19 : decode cX3_circle 19 = .ok (.iconst 3, 1) := by decide +kernel
theorem dX3_circle_20 : decode cX3_circle 20 = .ok (.if_icmp .ge 7, 3) := by decide +kernel
theorem dX3_circle_23 : decode cX3_circle 23 = .ok (.iconst 1, 1) := by decide +kernel
theorem dX3_circle_24 : decode cX3_circle 24 = .ok (.goto 4, 3) := by decide +kernel
theorem dX3_circle_27 : decode cX3_circle 27 = .ok (.iconst 0, 1) := by decide +kernel
theorem dX3_circle_28 : decode cX3_circle 28 = .ok (.iconst 0, 1) := by decide +kernel
theorem dX3_circle_29 : decode cX3_circle 29 = .ok (.invokevirtual 59, 3) := by decide +kernel
theorem dX3_circle_32 : decode cX3_circle 32 = .ok (.ifCond .eq 5, 3) := by decide +kernel
theorem dX3_circle_35 : decode cX3_circle 35 = .ok (.lconst 0, 1) := by decide +kernel
theorem dX3_circle_36 : decode cX3_circle 36 = .ok (.lreturn, 1) := by decide +kernel
theorem dX3_circle_37 : decode cX3_circle 37 = .ok (.aload_n 0, 1) := by decide +kernel
theorem dX3_circle_38 : decode cX3_circle 38 = .ok (.invokevirtual 147, 3) := by decide +kernel
theorem dX3_circle_41 : decode cX3_circle 41 = .ok (.iload_n 1, 1) := by decide +kernel
theorem dX3_circle_42 : decode cX3_circle 42 = .ok (.ifCond .ne 10, 3) := by decide +kernel
theorem dX3_circle_45 : decode cX3_circle 45 = .ok (.aload_n 0, 1) := by decide +kernel
theorem dX3_circle_46 : decode cX3_circle 46 = .ok (.getfield 84, 3) := by decide +kernel
theorem dX3_circle_49 : decode cX3_circle 49 = .ok (.goto 7, 3) := by decide +kernel
theorem dX3_circle_52 : decode cX3_circle 52 = .ok (.aload_n 0, 1) := by decide +kernel
theorem dX3_circle_53 : decode cX3_circle 53 = .ok (.getfield 44, 3) := by decide +kernel
theorem dX3_circle_56 : decode cX3_circle 56 = .ok (.lreturn, 1) := by decide +kernel
theorem dX3_curve_0 : decode cX3_curve 0 = .ok (.aload_n 0, 1) := by decide +kernel
theorem dX3_curve_1 : decode cX3_curve 1 = .ok (.aload_n 0, 1) := by decide +kernel
theorem dX3_curve_2 : decode cX3_curve 2 = .ok (.getfield 139, 3) := by decide +kernel
theorem dX3_curve_5 : decode cX3_curve 5 = .ok (.iconst 3, 1) := by decide +kernel
theorem dX3_curve_6 : decode cX3_curve 6 = .ok (.if_icmp .ge 7, 3) := by decide +kernel
theorem dX3_curve_9 : decode cX3_curve 9 = .ok (.iconst 1, 1) := by decide +kernel
theorem dX3_curve_10 : decode cX3_curve 10 = .ok (.goto 4, 3) := by decide +kernel
theorem dX3_curve_13 : decode cX3_curve 13 = .ok (.iconst 0, 1) := by decide +kernel
theorem dX3_curve_14 : decode cX3_curve 14 = .ok (.iconst 0, 1) := by decide +kernel
theorem dX3_curve_15 : decode cX3_curve 15 = .ok (.iconst 0, 1) := by decide +kernel
theorem dX3_curve_16 : decode cX3_curve 16 = .ok (.invokevirtual 59, 3) := by decide +kernel
theorem dX3_curve_19 : decode cX3_curve 19 = .ok (.ifCond .eq 5, 3) := by decide +kernel
theorem dX3_curve_22 : decode cX3_curve 22 = .ok (.iconst 0, 1) := by decide +kernel
theorem dX3_curve_23 : decode cX3_curve 23 = .ok (.ireturn, 1) := by decide +kernel
theorem dX3_curve_24 : decode cX3_curve 24 = .ok (.aload_n 0, 1) := by decide +kernel
theorem dX3_curve_25 : decode cX3_curve 25 = .ok (.invokevirtual 147, 3) := by decide +kernel
theorem dX3_curve_28 : decode cX3_curve 28 = .ok (.aload_n 0, 1) := by decide +kernel
theorem dX3_curve_29 : decode cX3_curve 29 = .ok (.getfield 84, 3) := by decide +kernel
theorem dX3_curve_32 : decode cX3_curve 32 = .ok (.aload_n 0, 1) := by decide +kernel
theorem dX3_curve_33 : decode cX3_curve 33 = .ok (.getfield 44, 3) := by decide +kernel
theorem dX3_curve_36 : decode cX3_curve 36 = .ok (.ldiv, 1) := by decide +kernel
theorem dX3_curve_37 : decode cX3_curve 37 = .ok (.lstore_n 1, 1) := by decide +kernel
theorem dX3_curve_38 : decode cX3_curve 38 = .ok (.lconst 0, 1) := by decide +kernel
theorem dX3_curve_39 : decode cX3_curve 39 = .ok (.lstore_n 3, 1) := by decide +kernel
theorem dX3_curve_40 : decode cX3_curve 40 = .ok (.ldc2_w 150, 3) := by decide +kernel
theorem dX3_curve_43 : decode cX3_curve 43 = .ok (.lstore 5, 2) := by decide +kernel
theorem dX3_curve_45 : decode cX3_curve 45 = .ok (.lload 5, 2) := by decide +kernel
theorem dX3_curve_47 : decode cX3_curve 47 = .ok (.lconst 0, 1) := by decide +kernel
theorem dX3_curve_48 : decode cX3_curve 48 = .ok (.lcmp, 1) := by decide +kernel
theorem dX3_curve_49 : decode cX3_curve 49 = .ok (.ifCond .le 33, 3) := by decide +kernel
theorem dX3_curve_52 : decode cX3_curve 52 = .ok (.lload_n 3, 1) := by decide +kernel
theorem dX3_curve_53 : decode cX3_curve 53 = .ok (.lload 5, 2) := by decide +kernel
theorem dX3_curve_55 : decode cX3_curve 55 = .ok (.ladd, 1) := by decide +kernel
theorem dX3_curve_56 : decode cX3_curve 56 = .ok (.lload_n 3, 1) := by decide +kernel
theorem dX3_curve_57 : decode cX3_curve 57 = .ok (.lload 5, 2) := by decide +kernel
theorem dX3_curve_59 : decode cX3_curve 59 = .ok (.ladd, 1) := by decide +kernel
theorem dX3_curve_60 : decode cX3_curve 60 = .ok (.lmul, 1) := by decide +kernel
theorem dX3_curve_61 : decode cX3_curve 61 = .ok (.lload_n 1, 1) := by decide +kernel
theorem dX3_curve_62 : decode cX3_curve 62 = .ok (.lcmp, 1) := by decide +kernel
theorem dX3_curve_63 : decode cX3_curve 63 = .ok (.ifCond .gt 8, 3) := by decide +kernel
theorem dX3_curve_66 : decode cX3_curve 66 = .ok (.lload_n 3, 1) := by decide +kernel
theorem dX3_curve_67 : decode cX3_curve 67 = .ok (.lload 5, 2) := by decide +kernel
theorem dX3_curve_69 : decode cX3_curve 69 = .ok (.ladd, 1) := by decide +kernel
theorem dX3_curve_70 : decode cX3_curve 70 = .ok (.lstore_n 3, 1) := by decide +kernel
theorem dX3_curve_71 : decode cX3_curve 71 = .ok (.lload 5, 2) := by decide +kernel
theorem dX3_curve_73 : decode cX3_curve 73 = .ok (.ldc2_w 152, 3) := by decide +kernel
theorem dX3_curve_76 : decode cX3_curve 76 = .ok (.ldiv, 1) := by decide +kernel
theorem dX3_curve_77 : decode cX3_curve 77 = .ok (.lstore 5, 2) := by decide +kernel
theorem dX3_curve_79 : decode cX3_curve 79 = .ok (.goto (-34), 3) := by decide +kernel
theorem dX3_curve_82 : decode cX3_curve 82 = .ok (.lload_n 3, 1) := by decide +kernel
theorem dX3_curve_83 : decode cX3_curve 83 = .ok (.l2i, 1) := by decide +kernel
theorem dX3_curve_84 : decode cX3_curve 84 = .ok (.ireturn, 1) := by decide +kernel
theorem dX3_allOf_0 : decode cX3_allOf 0 = .ok (.iconst 0, 1) := by decide +kernel
theorem dX3_allOf_1 : decode cX3_allOf 1 = .ok (.istore_n 2, 1) := by decide +kernel
theorem dX3_allOf_2 : decode cX3_allOf 2 = .ok (.iconst 0, 1) := by decide +kernel
theorem dX3_allOf_3 : decode cX3_allOf 3 = .ok (.istore_n 3, 1) := by decide +kernel
theorem dX3_allOf_4 : decode cX3_allOf 4 = .ok (.iload_n 3, 1) := by decide +kernel
theorem dX3_allOf_5 : decode cX3_allOf 5 = .ok (.aload_n 0, 1) := by decide +kernel
theorem dX3_allOf_6 : decode cX3_allOf 6 = .ok (.getfield 154, 3) := by decide +kernel
theorem dX3_allOf_9 : decode cX3_allOf 9 = .ok (.if_icmp .ge 32, 3) := by decide +kernel
theorem dX3_allOf_12 : decode cX3_allOf 12 = .ok (.iload_n 2, 1) := by decide +kernel
theorem dX3_allOf_13 : decode cX3_allOf 13 = .ok (.aload_n 0, 1) := by decide +kernel
theorem dX3_allOf_14 : decode cX3_allOf 14 = .ok (.getfield 35, 3) := by decide +kernel
theorem dX3_allOf_17 : decode cX3_allOf 17 = .ok (.iload_n 3, 1) := by decide +kernel
theorem dX3_allOf_18 : decode cX3_allOf 18 = .ok (.iaload, 1) := by decide +kernel
theorem dX3_allOf_19 : decode cX3_allOf 19 = .ok (.iload_n 1, 1) := by decide +kernel
theorem dX3_allOf_20 : decode cX3_allOf 20 = .ok (.if_icmp .ne 12, 3) := by decide +kernel
theorem dX3_allOf_23 : decode cX3_allOf 23 = .ok (.aload_n 0, 1) := by decide +kernel
theorem dX3_allOf_24 : decode cX3_allOf 24 = .ok (.getfield 38, 3) := by decide +kernel
theorem dX3_allOf_27 : decode cX3_allOf 27 = .ok (.iload_n 3, 1) := by decide +kernel
theorem dX3_allOf_28 : decode cX3_allOf 28 = .ok (.iaload, 1) := by decide +kernel
theorem dX3_allOf_29 : decode cX3_allOf 29 = .ok (.goto 4, 3) := by decide +kernel
theorem dX3_allOf_32 : decode cX3_allOf 32 = .ok (.iconst 0, 1) := by decide +kernel
theorem dX3_allOf_33 : decode cX3_allOf 33 = .ok (.iadd, 1) := by decide +kernel
theorem dX3_allOf_34 : decode cX3_allOf 34 = .ok (.istore_n 2, 1) := by decide +kernel
theorem dX3_allOf_35 : decode cX3_allOf 35 = .ok (.iinc 3 1, 3) := by decide +kernel
theorem dX3_allOf_38 : decode cX3_allOf 38 = .ok (.goto (-34), 3) := by decide +kernel
theorem dX3_allOf_41 : decode cX3_allOf 41 = .ok (.iload_n 2, 1) := by decide +kernel
theorem dX3_allOf_42 : decode cX3_allOf 42 = .ok (.ireturn, 1) := by decide +kernel
theorem dX3_sherd_0 : decode cX3_sherd 0 = .ok (.aload_n 0, 1) := by decide +kernel
theorem dX3_sherd_1 : decode cX3_sherd 1 = .ok (.aload_n 0, 1) := by decide +kernel
theorem dX3_sherd_2 : decode cX3_sherd 2 = .ok (.iload_n 1, 1) := by decide +kernel
theorem dX3_sherd_3 : decode cX3_sherd 3 = .ok (.invokevirtual 70, 3) := by decide +kernel
theorem dX3_sherd_6 : decode cX3_sherd 6 = .ok (.ifCond .ne 7, 3) := by decide +kernel
theorem dX3_sherd_9 : decode cX3_sherd 9 = .ok (.iconst 1, 1) := by decide +kernel
theorem dX3_sherd_10 : decode cX3_sherd 10 = .ok (.goto 4, 3) := by decide +kernel
theorem dX3_sherd_13 : decode cX3_sherd 13 = .ok (.iconst 0, 1) := by decide +kernel
theorem dX3_sherd_14 : decode cX3_sherd 14 = .ok (.iload_n 2, 1) := by decide +kernel
theorem dX3_sherd_15 : decode cX3_sherd 15 = .ok (.iconst 1, 1) := by decide +kernel
theorem dX3_sherd_16 : decode cX3_sherd 16 = .ok (.sipush 1000, 3) := by decide +kernel
theorem dX3_sherd_19 : decode cX3_sherd 19 = .ok (.invokestatic 55, 3) := by decide +kernel
theorem dX3_sherd_22 : decode cX3_sherd 22 = .ok (.ifCond .ne 7, 3) := by decide +kernel
theorem dX3_sherd_25 : decode cX3_sherd 25 = .ok (.iconst 1, 1) := by decide +kernel
theorem dX3_sherd_26 : decode cX3_sherd 26 = .ok (.goto 4, 3) := by decide +kernel
theorem dX3_sherd_29 : decode cX3_sherd 29 = .ok (.iconst 0, 1) := by decide +kernel
theorem dX3_sherd_30 : decode cX3_sherd 30 = .ok (.aload_n 0, 1) := by decide +kernel
theorem dX3_sherd_31 : decode cX3_sherd 31 = .ok (.getfield 154, 3) := by decide +kernel
theorem dX3_sherd_34 : decode cX3_sherd 34 = .ok (.bipush 60, 2) := by decide +kernel
theorem dX3_sherd_36 : decode cX3_sherd 36 = .ok (.if_icmp .ne 7, 3) := by decide +kernel
theorem dX3_sherd_39 : decode cX3_sherd 39 = .ok (.iconst 1, 1) := by decide +kernel
theorem dX3_sherd_40 : decode cX3_sherd 40 = .ok (.goto 4, 3) := by decide +kernel
theorem dX3_sherd_43 : decode cX3_sherd 43 = .ok (.iconst 0, 1) := by decide +kernel
theorem dX3_sherd_44 : decode cX3_sherd 44 = .ok (.invokevirtual 59, 3) := by decide +kernel
theorem dX3_sherd_47 : decode cX3_sherd 47 = .ok (.ifCond .eq 5, 3) := by decide +kernel
theorem dX3_sherd_50 : decode cX3_sherd 50 = .ok (.iconst 0, 1) := by decide +kernel
theorem dX3_sherd_51 : decode cX3_sherd 51 = .ok (.ireturn, 1) := by decide +kernel
theorem dX3_sherd_52 : decode cX3_sherd 52 = .ok (.aload_n 0, 1) := by decide +kernel
theorem dX3_sherd_53 : decode cX3_sherd 53 = .ok (.getfield 35, 3) := by decide +kernel
theorem dX3_sherd_56 : decode cX3_sherd 56 = .ok (.aload_n 0, 1) := by decide +kernel
theorem dX3_sherd_57 : decode cX3_sherd 57 = .ok (.getfield 154, 3) := by decide +kernel
theorem dX3_sherd_60 : decode cX3_sherd 60 = .ok (.iload_n 1, 1) := by decide +kernel
theorem dX3_sherd_61 : decode cX3_sherd 61 = .ok (.iastore, 1) := by decide +kernel
theorem dX3_sherd_62 : decode cX3_sherd 62 = .ok (.aload_n 0, 1) := by decide +kernel
theorem dX3_sherd_63 : decode cX3_sherd 63 = .ok (.getfield 38, 3) := by decide +kernel
theorem dX3_sherd_66 : decode cX3_sherd 66 = .ok (.aload_n 0, 1) := by decide +kernel
theorem dX3_sherd_67 : decode cX3_sherd 67 = .ok (.getfield 154, 3) := by decide +kernel
theorem dX3_sherd_70 : decode cX3_sherd 70 = .ok (.iload_n 2, 1) := by decide +kernel
theorem dX3_sherd_71 : decode cX3_sherd 71 = .ok (.iastore, 1) := by decide +kernel
theorem dX3_sherd_72 : decode cX3_sherd 72 = .ok (.aload_n 0, 1) := by decide +kernel
theorem dX3_sherd_73 : decode cX3_sherd 73 = .ok (.dup, 1) := by decide +kernel
theorem dX3_sherd_74 : decode cX3_sherd 74 = .ok (.getfield 154, 3) := by decide +kernel
theorem dX3_sherd_77 : decode cX3_sherd 77 = .ok (.iconst 1, 1) := by decide +kernel
theorem dX3_sherd_78 : decode cX3_sherd 78 = .ok (.iadd, 1) := by decide +kernel
theorem dX3_sherd_79 : decode cX3_sherd 79 = .ok (.putfield 154, 3) := by decide +kernel
theorem dX3_sherd_82 : decode cX3_sherd 82 = .ok (.aload_n 0, 1) := by decide +kernel
theorem dX3_sherd_83 : decode cX3_sherd 83 = .ok (.iload_n 1, 1) := by decide +kernel
theorem dX3_sherd_84 : decode cX3_sherd 84 = .ok (.invokevirtual 157, 3) := by decide +kernel
theorem dX3_sherd_87 : decode cX3_sherd 87 = .ok (.ireturn, 1) := by decide +kernel
theorem dX3_vessels_0 : decode cX3_vessels 0 = .ok (.aload_n 0, 1) := by decide +kernel
theorem dX3_vessels_1 : decode cX3_vessels 1 = .ok (.aload_n 0, 1) := by decide +kernel
theorem dX3_vessels_2 : decode cX3_vessels 2 = .ok (.iload_n 1, 1) := by decide +kernel
theorem dX3_vessels_3 : decode cX3_vessels 3 = .ok (.invokevirtual 70, 3) := by decide +kernel
theorem dX3_vessels_6 : decode cX3_vessels 6 = .ok (.ifCond .eq 12, 3) := by decide +kernel
theorem dX3_vessels_9 : decode cX3_vessels 9 = .ok (.iload_n 2, 1) := by decide +kernel
theorem dX3_vessels_10 : decode cX3_vessels 10 = .ok (.iconst 0, 1) := by decide +kernel
theorem dX3_vessels_11 : decode cX3_vessels 11 = .ok (.iconst 1, 1) := by decide +kernel
theorem dX3_vessels_12 : decode cX3_vessels 12 = .ok (.invokestatic 55, 3) := by decide +kernel
theorem dX3_vessels_15 : decode cX3_vessels 15 = .ok (.ifCond .ne 7, 3) := by decide +kernel
theorem dX3_vessels_18 : decode cX3_vessels 18 = .ok (.iconst 1, 1) := by decide +kernel
theorem dX3_vessels_19 : decode cX3_vessels 19 = .ok (.goto 4, 3) := by decide +kernel
theorem dX3_vessels_22 : decode cX3_vessels 22 = .ok (.iconst 0, 1) := by decide +kernel
theorem dX3_vessels_23 : decode cX3_vessels 23 = .ok (.iconst 0, 1) := by decide +kernel
theorem dX3_vessels_24 : decode cX3_vessels 24 = .ok (.iconst 0, 1) := by decide +kernel
theorem dX3_vessels_25 : decode cX3_vessels 25 = .ok (.invokevirtual 59, 3) := by decide +kernel
theorem dX3_vessels_28 : decode cX3_vessels 28 = .ok (.ifCond .eq 5, 3) := by decide +kernel
theorem dX3_vessels_31 : decode cX3_vessels 31 = .ok (.iconst 0, 1) := by decide +kernel
theorem dX3_vessels_32 : decode cX3_vessels 32 = .ok (.ireturn, 1) := by decide +kernel
theorem dX3_vessels_33 : decode cX3_vessels 33 = .ok (.iload_n 2, 1) := by decide +kernel
theorem dX3_vessels_34 : decode cX3_vessels 34 = .ok (.ifCond .ne 17, 3) := by decide +kernel
theorem dX3_vessels_37 : decode cX3_vessels 37 = .ok (.aload_n 0, 1) := by decide +kernel
theorem dX3_vessels_38 : decode cX3_vessels 38 = .ok (.iload_n 1, 1) := by decide +kernel
theorem dX3_vessels_39 : decode cX3_vessels 39 = .ok (.invokevirtual 157, 3) := by decide +kernel
theorem dX3_vessels_42 : decode cX3_vessels 42 = .ok (.sipush 999, 3) := by decide +kernel
theorem dX3_vessels_45 : decode cX3_vessels 45 = .ok (.iadd, 1) := by decide +kernel
theorem dX3_vessels_46 : decode cX3_vessels 46 = .ok (.sipush 1000, 3) := by decide +kernel
theorem dX3_vessels_49 : decode cX3_vessels 49 = .ok (.idiv, 1) := by decide +kernel
theorem dX3_vessels_50 : decode cX3_vessels 50 = .ok (.ireturn, 1) := by decide +kernel
theorem dX3_vessels_51 : decode cX3_vessels 51 = .ok (.iconst 0, 1) := by decide +kernel
theorem dX3_vessels_52 : decode cX3_vessels 52 = .ok (.istore_n 3, 1) := by decide +kernel
theorem dX3_vessels_53 : decode cX3_vessels 53 = .ok (.iconst 0, 1) := by decide +kernel
theorem dX3_vessels_54 : decode cX3_vessels 54 = .ok (.istore 4, 2) := by decide +kernel
theorem dX3_vessels_56 : decode cX3_vessels 56 = .ok (.iload 4, 2) := by decide +kernel
theorem dX3_vessels_58 : decode cX3_vessels 58 = .ok (.aload_n 0, 1) := by decide +kernel
theorem dX3_vessels_59 : decode cX3_vessels 59 = .ok (.getfield 154, 3) := by decide +kernel
theorem dX3_vessels_62 : decode cX3_vessels 62 = .ok (.if_icmp .ge 93, 3) := by decide +kernel
theorem dX3_vessels_65 : decode cX3_vessels 65 = .ok (.aload_n 0, 1) := by decide +kernel
theorem dX3_vessels_66 : decode cX3_vessels 66 = .ok (.getfield 35, 3) := by decide +kernel
theorem dX3_vessels_69 : decode cX3_vessels 69 = .ok (.iload 4, 2) := by decide +kernel
theorem dX3_vessels_71 : decode cX3_vessels 71 = .ok (.iaload, 1) := by decide +kernel
theorem dX3_vessels_72 : decode cX3_vessels 72 = .ok (.iload_n 1, 1) := by decide +kernel
theorem dX3_vessels_73 : decode cX3_vessels 73 = .ok (.if_icmp .eq 6, 3) := by decide +kernel
theorem dX3_vessels_76 : decode cX3_vessels 76 = .ok (.goto 73, 3) := by decide +kernel
theorem dX3_vessels_79 : decode cX3_vessels 79 = .ok (.iconst 0, 1) := by decide +kernel
theorem dX3_vessels_80 : decode cX3_vessels 80 = .ok (.istore 5, 2) := by decide +kernel
theorem dX3_vessels_82 : decode cX3_vessels 82 = .ok (.iload 5, 2) := by decide +kernel
theorem dX3_vessels_84 : decode cX3_vessels 84 = .ok (.iload_n 3, 1) := by decide +kernel
theorem dX3_vessels_85 : decode cX3_vessels 85 = .ok (.if_icmp .ge 30, 3) := by decide +kernel
theorem dX3_vessels_88 : decode cX3_vessels 88 = .ok (.aload_n 0, 1) := by decide +kernel
theorem dX3_vessels_89 : decode cX3_vessels 89 = .ok (.getfield 41, 3) := by decide +kernel
theorem dX3_vessels_92 : decode cX3_vessels 92 = .ok (.iload 5, 2) := by decide +kernel
theorem dX3_vessels_94 : decode cX3_vessels 94 = .ok (.iaload, 1) := by decide +kernel
theorem dX3_vessels_95 : decode cX3_vessels 95 = .ok (.aload_n 0, 1) := by decide +kernel
theorem dX3_vessels_96 : decode cX3_vessels 96 = .ok (.getfield 38, 3) := by decide +kernel
theorem dX3_vessels_99 : decode cX3_vessels 99 = .ok (.iload 4, 2) := by decide +kernel
theorem dX3_vessels_101 : decode cX3_vessels 101 = .ok (.iaload, 1) := by decide +kernel
theorem dX3_vessels_102 : decode cX3_vessels 102 = .ok (.iadd, 1) := by decide +kernel
theorem dX3_vessels_103 : decode cX3_vessels 103 = .ok (.sipush 1000, 3) := by decide +kernel
theorem dX3_vessels_106 : decode cX3_vessels 106 = .ok (.if_icmp .le 9, 3) := by decide +kernel
theorem dX3_vessels_109 : decode cX3_vessels 109 = .ok (.iinc 5 1, 3) := by decide +kernel
theorem dX3_vessels_112 : decode cX3_vessels 112 = .ok (.goto (-30), 3) := by decide +kernel
theorem dX3_vessels_115 : decode cX3_vessels 115 = .ok (.iload 5, 2) := by decide +kernel
theorem dX3_vessels_117 : decode cX3_vessels 117 = .ok (.iload_n 3, 1) := by decide +kernel
theorem dX3_vessels_118 : decode cX3_vessels 118 = .ok (.if_icmp .ne 14, 3) := by decide +kernel
theorem dX3_vessels_121 : decode cX3_vessels 121 = .ok (.aload_n 0, 1) := by decide +kernel
theorem dX3_vessels_122 : decode cX3_vessels 122 = .ok (.getfield 41, 3) := by decide +kernel
theorem dX3_vessels_125 : decode cX3_vessels 125 = .ok (.iload 5, 2) := by decide +kernel
theorem dX3_vessels_127 : decode cX3_vessels 127 = .ok (.iconst 0, 1) := by decide +kernel
theorem dX3_vessels_128 : decode cX3_vessels 128 = .ok (.iastore, 1) := by decide +kernel
theorem dX3_vessels_129 : decode cX3_vessels 129 = .ok (.iinc 3 1, 3) := by decide +kernel
theorem dX3_vessels_132 : decode cX3_vessels 132 = .ok (.aload_n 0, 1) := by decide +kernel
theorem dX3_vessels_133 : decode cX3_vessels 133 = .ok (.getfield 41, 3) := by decide +kernel
theorem dX3_vessels_136 : decode cX3_vessels 136 = .ok (.iload 5, 2) := by decide +kernel
theorem dX3_vessels_138 : decode cX3_vessels 138 = .ok (.dup2, 1) := by decide +kernel
theorem dX3_vessels_139 : decode cX3_vessels 139 = .ok (.iaload, 1) := by decide +kernel
theorem dX3_vessels_140 : decode cX3_vessels 140 = .ok (.aload_n 0, 1) := by decide +kernel
theorem dX3_vessels_141 : decode cX3_vessels 141 = .ok (.getfield 38, 3) := by decide +kernel
theorem dX3_vessels_144 : decode cX3_vessels 144 = .ok (.iload 4, 2) := by decide +kernel
theorem dX3_vessels_146 : decode cX3_vessels 146 = .ok (.iaload, 1) := by decide +kernel
theorem dX3_vessels_147 : decode cX3_vessels 147 = .ok (.iadd, 1) := by decide +kernel
theorem dX3_vessels_148 : decode cX3_vessels 148 = .ok (.iastore, 1) := by decide +kernel
theorem dX3_vessels_149 : decode cX3_vessels 149 = .ok (.iinc 4 1, 3) := by decide +kernel
theorem dX3_vessels_152 : decode cX3_vessels 152 = .ok (.goto (-96), 3) := by decide +kernel
theorem dX3_vessels_155 : decode cX3_vessels 155 = .ok (.iload_n 3, 1) := by decide +kernel
theorem dX3_vessels_156 : decode cX3_vessels 156 = .ok (.ireturn, 1) := by decide +kernel
theorem dX3_count_0 : decode cX3_count 0 = .ok (.aload_n 0, 1) := by decide +kernel
theorem dX3_count_1 : decode cX3_count 1 = .ok (.iload_n 1, 1) := by decide +kernel
theorem dX3_count_2 : decode cX3_count 2 = .ok (.iconst 0, 1) := by decide +kernel
theorem dX3_count_3 : decode cX3_count 3 = .ok (.iconst 3, 1) := by decide +kernel
theorem dX3_count_4 : decode cX3_count 4 = .ok (.invokestatic 55, 3) := by decide +kernel
theorem dX3_count_7 : decode cX3_count 7 = .ok (.ifCond .ne 7, 3) := by decide +kernel
theorem dX3_count_10 : decode cX3_count 10 = .ok (.iconst 1, 1) := by decide +kernel
theorem dX3_count_11 : decode cX3_count 11 = .ok (.goto 4, 3) := by decide +kernel
theorem dX3_count_14 : decode cX3_count 14 = .ok (.iconst 0, 1) := by decide +kernel
theorem dX3_count_15 : decode cX3_count 15 = .ok (.iconst 0, 1) := by decide +kernel
theorem dX3_count_16 : decode cX3_count 16 = .ok (.iconst 0, 1) := by decide +kernel
theorem dX3_count_17 : decode cX3_count 17 = .ok (.invokevirtual 59, 3) := by decide +kernel
theorem dX3_count_20 : decode cX3_count 20 = .ok (.ifCond .eq 5, 3) := by decide +kernel
theorem dX3_count_23 : decode cX3_count 23 = .ok (.iconst 0, 1) := by decide +kernel
theorem dX3_count_24 : decode cX3_count 24 = .ok (.ireturn, 1) := by decide +kernel
theorem dX3_count_25 : decode cX3_count 25 = .ok (.iload_n 1, 1) := by decide +kernel
theorem dX3_count_26 : decode cX3_count 26 = .ok (.ifCond .ne 10, 3) := by decide +kernel
theorem dX3_count_29 : decode cX3_count 29 = .ok (.aload_n 0, 1) := by decide +kernel
theorem dX3_count_30 : decode cX3_count 30 = .ok (.getfield 52, 3) := by decide +kernel
theorem dX3_count_33 : decode cX3_count 33 = .ok (.goto 31, 3) := by decide +kernel
theorem dX3_count_36 : decode cX3_count 36 = .ok (.iload_n 1, 1) := by decide +kernel
theorem dX3_count_37 : decode cX3_count 37 = .ok (.iconst 1, 1) := by decide +kernel
theorem dX3_count_38 : decode cX3_count 38 = .ok (.if_icmp .ne 10, 3) := by decide +kernel
theorem dX3_count_41 : decode cX3_count 41 = .ok (.aload_n 0, 1) := by decide +kernel
theorem dX3_count_42 : decode cX3_count 42 = .ok (.getfield 136, 3) := by decide +kernel
theorem dX3_count_45 : decode cX3_count 45 = .ok (.goto 19, 3) := by decide +kernel
theorem dX3_count_48 : decode cX3_count 48 = .ok (.iload_n 1, 1) := by decide +kernel
theorem dX3_count_49 : decode cX3_count 49 = .ok (.iconst 2, 1) := by decide +kernel
theorem dX3_count_50 : decode cX3_count 50 = .ok (.if_icmp .ne 10, 3) := by decide +kernel
theorem dX3_count_53 : decode cX3_count 53 = .ok (.aload_n 0, 1) := by decide +kernel
theorem dX3_count_54 : decode cX3_count 54 = .ok (.getfield 139, 3) := by decide +kernel
theorem dX3_count_57 : decode cX3_count 57 = .ok (.goto 7, 3) := by decide +kernel
theorem dX3_count_60 : decode cX3_count 60 = .ok (.aload_n 0, 1) := by decide +kernel
theorem dX3_count_61 : decode cX3_count 61 = .ok (.getfield 154, 3) := by decide +kernel
theorem dX3_count_64 : decode cX3_count 64 = .ok (.ireturn, 1) := by decide +kernel
end
section
theorem dL_profile_0 : decode cL_profile 0 = .ok (.aload_n 1, 1) := by decide +kernel
theorem dL_profile_1 : decode cL_profile 1 = .ok (.iconst 0, 1) := by decide +kernel
theorem dL_profile_2 : decode cL_profile 2 = .ok (.aload_n 0, 1) := by decide +kernel
theorem dL_profile_3 : decode cL_profile 3 = .ok (.invokevirtual 7, 3) := by decide +kernel
theorem dL_profile_6 : decode cL_profile 6 = .ok (.i2l, 1) := by decide +kernel
theorem dL_profile_7 : decode cL_profile 7 = .ok (.lastore, 1) := by decide +kernel
theorem dL_profile_8 : decode cL_profile 8 = .ok (.goto 6, 3) := by decide +kernel
theorem dL_profile_11 : decode cL_profile 11 = .ok (.astore_n 2, 1) := by decide +kernel
theorem dL_profile_12 : decode cL_profile 12 = .ok (.iconst 1, 1) := by decide +kernel
theorem dL_profile_13 : decode cL_profile 13 = .ok (.ireturn, 1) := by decide +kernel
theorem dL_profile_14 : decode cL_profile 14 = .ok (.iconst 0, 1) := by decide +kernel
theorem dL_profile_15 : decode cL_profile 15 = .ok (.ireturn, 1) := by decide +kernel
theorem dL_corner_0 : decode cL_corner 0 = .ok (.aload 4, 2) := by decide +kernel
theorem dL_corner_2 : decode cL_corner 2 = .ok (.iconst 0, 1) := by decide +kernel
theorem dL_corner_3 : decode cL_corner 3 = .ok (.aload_n 0, 1) := by decide +kernel
theorem dL_corner_4 : decode cL_corner 4 = .ok (.iload_n 1, 1) := by decide +kernel
theorem dL_corner_5 : decode cL_corner 5 = .ok (.iload_n 2, 1) := by decide +kernel
theorem dL_corner_6 : decode cL_corner 6 = .ok (.iload_n 3, 1) := by decide +kernel
theorem dL_corner_7 : decode cL_corner 7 = .ok (.invokevirtual 15, 3) := by decide +kernel
theorem dL_corner_10 : decode cL_corner 10 = .ok (.ifCond .eq 7, 3) := by decide +kernel
theorem dL_corner_13 : decode cL_corner 13 = .ok (.lconst 1, 1) := by decide +kernel
theorem dL_corner_14 : decode cL_corner 14 = .ok (.goto 4, 3) := by decide +kernel
theorem dL_corner_17 : decode cL_corner 17 = .ok (.lconst 0, 1) := by decide +kernel
theorem dL_corner_18 : decode cL_corner 18 = .ok (.lastore, 1) := by decide +kernel
theorem dL_corner_19 : decode cL_corner 19 = .ok (.goto 15, 3) := by decide +kernel
theorem dL_corner_22 : decode cL_corner 22 = .ok (.astore 5, 2) := by decide +kernel
theorem dL_corner_24 : decode cL_corner 24 = .ok (.iconst 1, 1) := by decide +kernel
theorem dL_corner_25 : decode cL_corner 25 = .ok (.ireturn, 1) := by decide +kernel
theorem dL_corner_26 : decode cL_corner 26 = .ok (.astore 5, 2) := by decide +kernel
theorem dL_corner_28 : decode cL_corner 28 = .ok (.iconst 2, 1) := by decide +kernel
theorem dL_corner_29 : decode cL_corner 29 = .ok (.ireturn, 1) := by decide +kernel
theorem dL_corner_30 : decode cL_corner 30 = .ok (.astore 5, 2) := by decide +kernel
theorem dL_corner_32 : decode cL_corner 32 = .ok (.iconst 3, 1) := by decide +kernel
theorem dL_corner_33 : decode cL_corner 33 = .ok (.ireturn, 1) := by decide +kernel
theorem dL_corner_34 : decode cL_corner 34 = .ok (.iconst 0, 1) := by decide +kernel
theorem dL_corner_35 : decode cL_corner 35 = .ok (.ireturn, 1) := by decide +kernel
theorem dL_at_0 : decode cL_at 0 = .ok (.aload 4, 2) := by decide +kernel
theorem dL_at_2 : decode cL_at 2 = .ok (.iconst 0, 1) := by decide +kernel
theorem dL_at_3 : decode cL_at 3 = .ok (.aload_n 0, 1) := by decide +kernel
theorem dL_at_4 : decode cL_at 4 = .ok (.iload_n 1, 1) := by decide +kernel
theorem dL_at_5 : decode cL_at 5 = .ok (.iload_n 2, 1) := by decide +kernel
theorem dL_at_6 : decode cL_at 6 = .ok (.iload_n 3, 1) := by decide +kernel
theorem dL_at_7 : decode cL_at 7 = .ok (.invokevirtual 23, 3) := by decide +kernel
theorem dL_at_10 : decode cL_at 10 = .ok (.i2l, 1) := by decide +kernel
theorem dL_at_11 : decode cL_at 11 = .ok (.lastore, 1) := by decide +kernel
theorem dL_at_12 : decode cL_at 12 = .ok (.goto 7, 3) := by decide +kernel
theorem dL_at_15 : decode cL_at 15 = .ok (.astore 5, 2) := by decide +kernel
theorem dL_at_17 : decode cL_at 17 = .ok (.iconst 1, 1) := by decide +kernel
theorem dL_at_18 : decode cL_at 18 = .ok (.ireturn, 1) := by decide +kernel
theorem dL_at_19 : decode cL_at 19 = .ok (.iconst 0, 1) := by decide +kernel
theorem dL_at_20 : decode cL_at 20 = .ok (.ireturn, 1) := by decide +kernel
theorem dL_radius_0 : decode cL_radius 0 = .ok (.aload_n 3, 1) := by decide +kernel
theorem dL_radius_1 : decode cL_radius 1 = .ok (.iconst 0, 1) := by decide +kernel
theorem dL_radius_2 : decode cL_radius 2 = .ok (.aload_n 0, 1) := by decide +kernel
theorem dL_radius_3 : decode cL_radius 3 = .ok (.iload_n 1, 1) := by decide +kernel
theorem dL_radius_4 : decode cL_radius 4 = .ok (.iload_n 2, 1) := by decide +kernel
theorem dL_radius_5 : decode cL_radius 5 = .ok (.invokevirtual 27, 3) := by decide +kernel
theorem dL_radius_8 : decode cL_radius 8 = .ok (.i2l, 1) := by decide +kernel
theorem dL_radius_9 : decode cL_radius 9 = .ok (.lastore, 1) := by decide +kernel
theorem dL_radius_10 : decode cL_radius 10 = .ok (.goto 7, 3) := by decide +kernel
theorem dL_radius_13 : decode cL_radius 13 = .ok (.astore 4, 2) := by decide +kernel
theorem dL_radius_15 : decode cL_radius 15 = .ok (.iconst 1, 1) := by decide +kernel
theorem dL_radius_16 : decode cL_radius 16 = .ok (.ireturn, 1) := by decide +kernel
theorem dL_radius_17 : decode cL_radius 17 = .ok (.iconst 0, 1) := by decide +kernel
theorem dL_radius_18 : decode cL_radius 18 = .ok (.ireturn, 1) := by decide +kernel
theorem dL_volume_0 : decode cL_volume 0 = .ok (.aload 4, 2) := by decide +kernel
theorem dL_volume_2 : decode cL_volume 2 = .ok (.iconst 0, 1) := by decide +kernel
theorem dL_volume_3 : decode cL_volume 3 = .ok (.aload_n 0, 1) := by decide +kernel
theorem dL_volume_4 : decode cL_volume 4 = .ok (.iload_n 1, 1) := by decide +kernel
theorem dL_volume_5 : decode cL_volume 5 = .ok (.iload_n 2, 1) := by decide +kernel
theorem dL_volume_6 : decode cL_volume 6 = .ok (.iload_n 3, 1) := by decide +kernel
theorem dL_volume_7 : decode cL_volume 7 = .ok (.invokevirtual 31, 3) := by decide +kernel
theorem dL_volume_10 : decode cL_volume 10 = .ok (.lastore, 1) := by decide +kernel
theorem dL_volume_11 : decode cL_volume 11 = .ok (.goto 7, 3) := by decide +kernel
theorem dL_volume_14 : decode cL_volume 14 = .ok (.astore 5, 2) := by decide +kernel
theorem dL_volume_16 : decode cL_volume 16 = .ok (.iconst 1, 1) := by decide +kernel
theorem dL_volume_17 : decode cL_volume 17 = .ok (.ireturn, 1) := by decide +kernel
theorem dL_volume_18 : decode cL_volume 18 = .ok (.iconst 0, 1) := by decide +kernel
theorem dL_volume_19 : decode cL_volume 19 = .ok (.ireturn, 1) := by decide +kernel
theorem dL_holds_0 : decode cL_holds 0 = .ok (.aload 4, 2) := by decide +kernel
theorem dL_holds_2 : decode cL_holds 2 = .ok (.iconst 0, 1) := by decide +kernel
theorem dL_holds_3 : decode cL_holds 3 = .ok (.aload_n 0, 1) := by decide +kernel
theorem dL_holds_4 : decode cL_holds 4 = .ok (.iload_n 1, 1) := by decide +kernel
theorem dL_holds_5 : decode cL_holds 5 = .ok (.iload_n 2, 1) := by decide +kernel
theorem dL_holds_6 : decode cL_holds 6 = .ok (.iload_n 3, 1) := by decide +kernel
theorem dL_holds_7 : decode cL_holds 7 = .ok (.invokevirtual 35, 3) := by decide +kernel
theorem dL_holds_10 : decode cL_holds 10 = .ok (.lastore, 1) := by decide +kernel
theorem dL_holds_11 : decode cL_holds 11 = .ok (.goto 7, 3) := by decide +kernel
theorem dL_holds_14 : decode cL_holds 14 = .ok (.astore 5, 2) := by decide +kernel
theorem dL_holds_16 : decode cL_holds 16 = .ok (.iconst 1, 1) := by decide +kernel
theorem dL_holds_17 : decode cL_holds 17 = .ok (.ireturn, 1) := by decide +kernel
theorem dL_holds_18 : decode cL_holds 18 = .ok (.iconst 0, 1) := by decide +kernel
theorem dL_holds_19 : decode cL_holds 19 = .ok (.ireturn, 1) := by decide +kernel
theorem dL_enclosed_0 : decode cL_enclosed 0 = .ok (.aload_n 3, 1) := by decide +kernel
theorem dL_enclosed_1 : decode cL_enclosed 1 = .ok (.iconst 0, 1) := by decide +kernel
theorem dL_enclosed_2 : decode cL_enclosed 2 = .ok (.aload_n 0, 1) := by decide +kernel
theorem dL_enclosed_3 : decode cL_enclosed 3 = .ok (.iload_n 1, 1) := by decide +kernel
theorem dL_enclosed_4 : decode cL_enclosed 4 = .ok (.iload_n 2, 1) := by decide +kernel
theorem dL_enclosed_5 : decode cL_enclosed 5 = .ok (.invokevirtual 38, 3) := by decide +kernel
theorem dL_enclosed_8 : decode cL_enclosed 8 = .ok (.lastore, 1) := by decide +kernel
theorem dL_enclosed_9 : decode cL_enclosed 9 = .ok (.goto 7, 3) := by decide +kernel
theorem dL_enclosed_12 : decode cL_enclosed 12 = .ok (.astore 4, 2) := by decide +kernel
theorem dL_enclosed_14 : decode cL_enclosed 14 = .ok (.iconst 1, 1) := by decide +kernel
theorem dL_enclosed_15 : decode cL_enclosed 15 = .ok (.ireturn, 1) := by decide +kernel
theorem dL_enclosed_16 : decode cL_enclosed 16 = .ok (.iconst 0, 1) := by decide +kernel
theorem dL_enclosed_17 : decode cL_enclosed 17 = .ok (.ireturn, 1) := by decide +kernel
theorem dL_wall_0 : decode cL_wall 0 = .ok (.aload_n 3, 1) := by decide +kernel
theorem dL_wall_1 : decode cL_wall 1 = .ok (.iconst 0, 1) := by decide +kernel
theorem dL_wall_2 : decode cL_wall 2 = .ok (.aload_n 0, 1) := by decide +kernel
theorem dL_wall_3 : decode cL_wall 3 = .ok (.iload_n 1, 1) := by decide +kernel
theorem dL_wall_4 : decode cL_wall 4 = .ok (.iload_n 2, 1) := by decide +kernel
theorem dL_wall_5 : decode cL_wall 5 = .ok (.invokevirtual 42, 3) := by decide +kernel
theorem dL_wall_8 : decode cL_wall 8 = .ok (.i2l, 1) := by decide +kernel
theorem dL_wall_9 : decode cL_wall 9 = .ok (.lastore, 1) := by decide +kernel
theorem dL_wall_10 : decode cL_wall 10 = .ok (.goto 11, 3) := by decide +kernel
theorem dL_wall_13 : decode cL_wall 13 = .ok (.astore 4, 2) := by decide +kernel
theorem dL_wall_15 : decode cL_wall 15 = .ok (.iconst 1, 1) := by decide +kernel
theorem dL_wall_16 : decode cL_wall 16 = .ok (.ireturn, 1) := by decide +kernel
theorem dL_wall_17 : decode cL_wall 17 = .ok (.astore 4, 2) := by decide +kernel
theorem dL_wall_19 : decode cL_wall 19 = .ok (.iconst 2, 1) := by decide +kernel
theorem dL_wall_20 : decode cL_wall 20 = .ok (.ireturn, 1) := by decide +kernel
theorem dL_wall_21 : decode cL_wall 21 = .ok (.iconst 0, 1) := by decide +kernel
theorem dL_wall_22 : decode cL_wall 22 = .ok (.ireturn, 1) := by decide +kernel
theorem dL_unlike_0 : decode cL_unlike 0 = .ok (.aload_n 3, 1) := by decide +kernel
theorem dL_unlike_1 : decode cL_unlike 1 = .ok (.iconst 0, 1) := by decide +kernel
theorem dL_unlike_2 : decode cL_unlike 2 = .ok (.aload_n 0, 1) := by decide +kernel
theorem dL_unlike_3 : decode cL_unlike 3 = .ok (.iload_n 1, 1) := by decide +kernel
theorem dL_unlike_4 : decode cL_unlike 4 = .ok (.iload_n 2, 1) := by decide +kernel
theorem dL_unlike_5 : decode cL_unlike 5 = .ok (.invokevirtual 45, 3) := by decide +kernel
theorem dL_unlike_8 : decode cL_unlike 8 = .ok (.i2l, 1) := by decide +kernel
theorem dL_unlike_9 : decode cL_unlike 9 = .ok (.lastore, 1) := by decide +kernel
theorem dL_unlike_10 : decode cL_unlike 10 = .ok (.goto 7, 3) := by decide +kernel
theorem dL_unlike_13 : decode cL_unlike 13 = .ok (.astore 4, 2) := by decide +kernel
theorem dL_unlike_15 : decode cL_unlike 15 = .ok (.iconst 1, 1) := by decide +kernel
theorem dL_unlike_16 : decode cL_unlike 16 = .ok (.ireturn, 1) := by decide +kernel
theorem dL_unlike_17 : decode cL_unlike 17 = .ok (.iconst 0, 1) := by decide +kernel
theorem dL_unlike_18 : decode cL_unlike 18 = .ok (.ireturn, 1) := by decide +kernel
theorem dL_cut_0 : decode cL_cut 0 = .ok (.aload_n 3, 1) := by decide +kernel
theorem dL_cut_1 : decode cL_cut 1 = .ok (.iconst 0, 1) := by decide +kernel
theorem dL_cut_2 : decode cL_cut 2 = .ok (.aload_n 0, 1) := by decide +kernel
theorem dL_cut_3 : decode cL_cut 3 = .ok (.iload_n 1, 1) := by decide +kernel
theorem dL_cut_4 : decode cL_cut 4 = .ok (.iload_n 2, 1) := by decide +kernel
theorem dL_cut_5 : decode cL_cut 5 = .ok (.invokevirtual 48, 3) := by decide +kernel
theorem dL_cut_8 : decode cL_cut 8 = .ok (.ifCond .eq 7, 3) := by decide +kernel
theorem dL_cut_11 : decode cL_cut 11 = .ok (.lconst 1, 1) := by decide +kernel
theorem dL_cut_12 : decode cL_cut 12 = .ok (.goto 4, 3) := by decide +kernel
theorem dL_cut_15 : decode cL_cut 15 = .ok (.lconst 0, 1) := by decide +kernel
theorem dL_cut_16 : decode cL_cut 16 = .ok (.lastore, 1) := by decide +kernel
theorem dL_cut_17 : decode cL_cut 17 = .ok (.goto 7, 3) := by decide +kernel
theorem dL_cut_20 : decode cL_cut 20 = .ok (.astore 4, 2) := by decide +kernel
theorem dL_cut_22 : decode cL_cut 22 = .ok (.iconst 1, 1) := by decide +kernel
theorem dL_cut_23 : decode cL_cut 23 = .ok (.ireturn, 1) := by decide +kernel
theorem dL_cut_24 : decode cL_cut 24 = .ok (.iconst 0, 1) := by decide +kernel
theorem dL_cut_25 : decode cL_cut 25 = .ok (.ireturn, 1) := by decide +kernel
theorem dL_drawn_0 : decode cL_drawn 0 = .ok (.aload 4, 2) := by decide +kernel
theorem dL_drawn_2 : decode cL_drawn 2 = .ok (.iconst 0, 1) := by decide +kernel
theorem dL_drawn_3 : decode cL_drawn 3 = .ok (.aload_n 0, 1) := by decide +kernel
theorem dL_drawn_4 : decode cL_drawn 4 = .ok (.iload_n 1, 1) := by decide +kernel
theorem dL_drawn_5 : decode cL_drawn 5 = .ok (.iload_n 2, 1) := by decide +kernel
theorem dL_drawn_6 : decode cL_drawn 6 = .ok (.iload_n 3, 1) := by decide +kernel
theorem dL_drawn_7 : decode cL_drawn 7 = .ok (.invokevirtual 52, 3) := by decide +kernel
theorem dL_drawn_10 : decode cL_drawn 10 = .ok (.i2l, 1) := by decide +kernel
theorem dL_drawn_11 : decode cL_drawn 11 = .ok (.lastore, 1) := by decide +kernel
theorem dL_drawn_12 : decode cL_drawn 12 = .ok (.goto 7, 3) := by decide +kernel
theorem dL_drawn_15 : decode cL_drawn 15 = .ok (.astore 5, 2) := by decide +kernel
theorem dL_drawn_17 : decode cL_drawn 17 = .ok (.iconst 1, 1) := by decide +kernel
theorem dL_drawn_18 : decode cL_drawn 18 = .ok (.ireturn, 1) := by decide +kernel
theorem dL_drawn_19 : decode cL_drawn 19 = .ok (.iconst 0, 1) := by decide +kernel
theorem dL_drawn_20 : decode cL_drawn 20 = .ok (.ireturn, 1) := by decide +kernel
theorem dL_bound_0 : decode cL_bound 0 = .ok (.aload_n 2, 1) := by decide +kernel
theorem dL_bound_1 : decode cL_bound 1 = .ok (.iconst 0, 1) := by decide +kernel
theorem dL_bound_2 : decode cL_bound 2 = .ok (.aload_n 0, 1) := by decide +kernel
theorem dL_bound_3 : decode cL_bound 3 = .ok (.iload_n 1, 1) := by decide +kernel
theorem dL_bound_4 : decode cL_bound 4 = .ok (.invokevirtual 55, 3) := by decide +kernel
theorem dL_bound_7 : decode cL_bound 7 = .ok (.i2l, 1) := by decide +kernel
theorem dL_bound_8 : decode cL_bound 8 = .ok (.lastore, 1) := by decide +kernel
theorem dL_bound_9 : decode cL_bound 9 = .ok (.goto 9, 3) := by decide +kernel
theorem dL_bound_12 : decode cL_bound 12 = .ok (.astore_n 3, 1) := by decide +kernel
theorem dL_bound_13 : decode cL_bound 13 = .ok (.iconst 1, 1) := by decide +kernel
theorem dL_bound_14 : decode cL_bound 14 = .ok (.ireturn, 1) := by decide +kernel
theorem dL_bound_15 : decode cL_bound 15 = .ok (.astore_n 3, 1) := by decide +kernel
theorem dL_bound_16 : decode cL_bound 16 = .ok (.iconst 2, 1) := by decide +kernel
theorem dL_bound_17 : decode cL_bound 17 = .ok (.ireturn, 1) := by decide +kernel
theorem dL_bound_18 : decode cL_bound 18 = .ok (.iconst 0, 1) := by decide +kernel
theorem dL_bound_19 : decode cL_bound 19 = .ok (.ireturn, 1) := by decide +kernel
theorem dL_size_0 : decode cL_size 0 = .ok (.aload_n 2, 1) := by decide +kernel
theorem dL_size_1 : decode cL_size 1 = .ok (.iconst 0, 1) := by decide +kernel
theorem dL_size_2 : decode cL_size 2 = .ok (.aload_n 0, 1) := by decide +kernel
theorem dL_size_3 : decode cL_size 3 = .ok (.iload_n 1, 1) := by decide +kernel
theorem dL_size_4 : decode cL_size 4 = .ok (.invokevirtual 59, 3) := by decide +kernel
theorem dL_size_7 : decode cL_size 7 = .ok (.i2l, 1) := by decide +kernel
theorem dL_size_8 : decode cL_size 8 = .ok (.lastore, 1) := by decide +kernel
theorem dL_size_9 : decode cL_size 9 = .ok (.goto 6, 3) := by decide +kernel
theorem dL_size_12 : decode cL_size 12 = .ok (.astore_n 3, 1) := by decide +kernel
theorem dL_size_13 : decode cL_size 13 = .ok (.iconst 1, 1) := by decide +kernel
theorem dL_size_14 : decode cL_size 14 = .ok (.ireturn, 1) := by decide +kernel
theorem dL_size_15 : decode cL_size 15 = .ok (.iconst 0, 1) := by decide +kernel
theorem dL_size_16 : decode cL_size 16 = .ok (.ireturn, 1) := by decide +kernel
theorem dL_rim_0 : decode cL_rim 0 = .ok (.aload_n 3, 1) := by decide +kernel
theorem dL_rim_1 : decode cL_rim 1 = .ok (.iconst 0, 1) := by decide +kernel
theorem dL_rim_2 : decode cL_rim 2 = .ok (.aload_n 0, 1) := by decide +kernel
theorem dL_rim_3 : decode cL_rim 3 = .ok (.iload_n 1, 1) := by decide +kernel
theorem dL_rim_4 : decode cL_rim 4 = .ok (.iload_n 2, 1) := by decide +kernel
theorem dL_rim_5 : decode cL_rim 5 = .ok (.invokevirtual 62, 3) := by decide +kernel
theorem dL_rim_8 : decode cL_rim 8 = .ok (.i2l, 1) := by decide +kernel
theorem dL_rim_9 : decode cL_rim 9 = .ok (.lastore, 1) := by decide +kernel
theorem dL_rim_10 : decode cL_rim 10 = .ok (.goto 11, 3) := by decide +kernel
theorem dL_rim_13 : decode cL_rim 13 = .ok (.astore 4, 2) := by decide +kernel
theorem dL_rim_15 : decode cL_rim 15 = .ok (.iconst 1, 1) := by decide +kernel
theorem dL_rim_16 : decode cL_rim 16 = .ok (.ireturn, 1) := by decide +kernel
theorem dL_rim_17 : decode cL_rim 17 = .ok (.astore 4, 2) := by decide +kernel
theorem dL_rim_19 : decode cL_rim 19 = .ok (.iconst 2, 1) := by decide +kernel
theorem dL_rim_20 : decode cL_rim 20 = .ok (.ireturn, 1) := by decide +kernel
theorem dL_rim_21 : decode cL_rim 21 = .ok (.iconst 0, 1) := by decide +kernel
theorem dL_rim_22 : decode cL_rim 22 = .ok (.ireturn, 1) := by decide +kernel
theorem dL_circle_0 : decode cL_circle 0 = .ok (.aload_n 2, 1) := by decide +kernel
theorem dL_circle_1 : decode cL_circle 1 = .ok (.iconst 0, 1) := by decide +kernel
theorem dL_circle_2 : decode cL_circle 2 = .ok (.aload_n 0, 1) := by decide +kernel
theorem dL_circle_3 : decode cL_circle 3 = .ok (.iload_n 1, 1) := by decide +kernel
theorem dL_circle_4 : decode cL_circle 4 = .ok (.invokevirtual 65, 3) := by decide +kernel
theorem dL_circle_7 : decode cL_circle 7 = .ok (.lastore, 1) := by decide +kernel
theorem dL_circle_8 : decode cL_circle 8 = .ok (.goto 9, 3) := by decide +kernel
theorem dL_circle_11 : decode cL_circle 11 = .ok (.astore_n 3, 1) := by decide +kernel
theorem dL_circle_12 : decode cL_circle 12 = .ok (.iconst 1, 1) := by decide +kernel
theorem dL_circle_13 : decode cL_circle 13 = .ok (.ireturn, 1) := by decide +kernel
theorem dL_circle_14 : decode cL_circle 14 = .ok (.astore_n 3, 1) := by decide +kernel
theorem dL_circle_15 : decode cL_circle 15 = .ok (.iconst 2, 1) := by decide +kernel
theorem dL_circle_16 : decode cL_circle 16 = .ok (.ireturn, 1) := by decide +kernel
theorem dL_circle_17 : decode cL_circle 17 = .ok (.iconst 0, 1) := by decide +kernel
theorem dL_circle_18 : decode cL_circle 18 = .ok (.ireturn, 1) := by decide +kernel
theorem dL_curve_0 : decode cL_curve 0 = .ok (.aload_n 1, 1) := by decide +kernel
theorem dL_curve_1 : decode cL_curve 1 = .ok (.iconst 0, 1) := by decide +kernel
theorem dL_curve_2 : decode cL_curve 2 = .ok (.aload_n 0, 1) := by decide +kernel
theorem dL_curve_3 : decode cL_curve 3 = .ok (.invokevirtual 69, 3) := by decide +kernel
theorem dL_curve_6 : decode cL_curve 6 = .ok (.i2l, 1) := by decide +kernel
theorem dL_curve_7 : decode cL_curve 7 = .ok (.lastore, 1) := by decide +kernel
theorem dL_curve_8 : decode cL_curve 8 = .ok (.goto 6, 3) := by decide +kernel
theorem dL_curve_11 : decode cL_curve 11 = .ok (.astore_n 2, 1) := by decide +kernel
theorem dL_curve_12 : decode cL_curve 12 = .ok (.iconst 1, 1) := by decide +kernel
theorem dL_curve_13 : decode cL_curve 13 = .ok (.ireturn, 1) := by decide +kernel
theorem dL_curve_14 : decode cL_curve 14 = .ok (.iconst 0, 1) := by decide +kernel
theorem dL_curve_15 : decode cL_curve 15 = .ok (.ireturn, 1) := by decide +kernel
theorem dL_sherd_0 : decode cL_sherd 0 = .ok (.aload_n 3, 1) := by decide +kernel
theorem dL_sherd_1 : decode cL_sherd 1 = .ok (.iconst 0, 1) := by decide +kernel
theorem dL_sherd_2 : decode cL_sherd 2 = .ok (.aload_n 0, 1) := by decide +kernel
theorem dL_sherd_3 : decode cL_sherd 3 = .ok (.iload_n 1, 1) := by decide +kernel
theorem dL_sherd_4 : decode cL_sherd 4 = .ok (.iload_n 2, 1) := by decide +kernel
theorem dL_sherd_5 : decode cL_sherd 5 = .ok (.invokevirtual 72, 3) := by decide +kernel
theorem dL_sherd_8 : decode cL_sherd 8 = .ok (.i2l, 1) := by decide +kernel
theorem dL_sherd_9 : decode cL_sherd 9 = .ok (.lastore, 1) := by decide +kernel
theorem dL_sherd_10 : decode cL_sherd 10 = .ok (.goto 15, 3) := by decide +kernel
theorem dL_sherd_13 : decode cL_sherd 13 = .ok (.astore 4, 2) := by decide +kernel
theorem dL_sherd_15 : decode cL_sherd 15 = .ok (.iconst 1, 1) := by decide +kernel
theorem dL_sherd_16 : decode cL_sherd 16 = .ok (.ireturn, 1) := by decide +kernel
theorem dL_sherd_17 : decode cL_sherd 17 = .ok (.astore 4, 2) := by decide +kernel
theorem dL_sherd_19 : decode cL_sherd 19 = .ok (.iconst 2, 1) := by decide +kernel
theorem dL_sherd_20 : decode cL_sherd 20 = .ok (.ireturn, 1) := by decide +kernel
theorem dL_sherd_21 : decode cL_sherd 21 = .ok (.astore 4, 2) := by decide +kernel
theorem dL_sherd_23 : decode cL_sherd 23 = .ok (.iconst 3, 1) := by decide +kernel
theorem dL_sherd_24 : decode cL_sherd 24 = .ok (.ireturn, 1) := by decide +kernel
theorem dL_sherd_25 : decode cL_sherd 25 = .ok (.iconst 0, 1) := by decide +kernel
theorem dL_sherd_26 : decode cL_sherd 26 = .ok (.ireturn, 1) := by decide +kernel
theorem dL_vessels_0 : decode cL_vessels 0 = .ok (.aload_n 3, 1) := by decide +kernel
theorem dL_vessels_1 : decode cL_vessels 1 = .ok (.iconst 0, 1) := by decide +kernel
theorem dL_vessels_2 : decode cL_vessels 2 = .ok (.aload_n 0, 1) := by decide +kernel
theorem dL_vessels_3 : decode cL_vessels 3 = .ok (.iload_n 1, 1) := by decide +kernel
theorem dL_vessels_4 : decode cL_vessels 4 = .ok (.iload_n 2, 1) := by decide +kernel
theorem dL_vessels_5 : decode cL_vessels 5 = .ok (.invokevirtual 75, 3) := by decide +kernel
theorem dL_vessels_8 : decode cL_vessels 8 = .ok (.i2l, 1) := by decide +kernel
theorem dL_vessels_9 : decode cL_vessels 9 = .ok (.lastore, 1) := by decide +kernel
theorem dL_vessels_10 : decode cL_vessels 10 = .ok (.goto 7, 3) := by decide +kernel
theorem dL_vessels_13 : decode cL_vessels 13 = .ok (.astore 4, 2) := by decide +kernel
theorem dL_vessels_15 : decode cL_vessels 15 = .ok (.iconst 1, 1) := by decide +kernel
theorem dL_vessels_16 : decode cL_vessels 16 = .ok (.ireturn, 1) := by decide +kernel
theorem dL_vessels_17 : decode cL_vessels 17 = .ok (.iconst 0, 1) := by decide +kernel
theorem dL_vessels_18 : decode cL_vessels 18 = .ok (.ireturn, 1) := by decide +kernel
theorem dL_count_0 : decode cL_count 0 = .ok (.aload_n 2, 1) := by decide +kernel
theorem dL_count_1 : decode cL_count 1 = .ok (.iconst 0, 1) := by decide +kernel
theorem dL_count_2 : decode cL_count 2 = .ok (.aload_n 0, 1) := by decide +kernel
theorem dL_count_3 : decode cL_count 3 = .ok (.iload_n 1, 1) := by decide +kernel
theorem dL_count_4 : decode cL_count 4 = .ok (.invokevirtual 78, 3) := by decide +kernel
theorem dL_count_7 : decode cL_count 7 = .ok (.i2l, 1) := by decide +kernel
theorem dL_count_8 : decode cL_count 8 = .ok (.lastore, 1) := by decide +kernel
theorem dL_count_9 : decode cL_count 9 = .ok (.goto 6, 3) := by decide +kernel
theorem dL_count_12 : decode cL_count 12 = .ok (.astore_n 3, 1) := by decide +kernel
theorem dL_count_13 : decode cL_count 13 = .ok (.iconst 1, 1) := by decide +kernel
theorem dL_count_14 : decode cL_count 14 = .ok (.ireturn, 1) := by decide +kernel
theorem dL_count_15 : decode cL_count 15 = .ok (.iconst 0, 1) := by decide +kernel
theorem dL_count_16 : decode cL_count 16 = .ok (.ireturn, 1) := by decide +kernel
theorem dL_law_0 : decode cL_law 0 = .ok (.new 8, 3) := by decide +kernel
theorem dL_law_3 : decode cL_law 3 = .ok (.dup, 1) := by decide +kernel
theorem dL_law_4 : decode cL_law 4 = .ok (.invokespecial 81, 3) := by decide +kernel
theorem dL_law_7 : decode cL_law 7 = .ok (.astore_n 1, 1) := by decide +kernel
theorem dL_law_8 : decode cL_law 8 = .ok (.new 82, 3) := by decide +kernel
theorem dL_law_11 : decode cL_law 11 = .ok (.dup, 1) := by decide +kernel
theorem dL_law_12 : decode cL_law 12 = .ok (.invokespecial 84, 3) := by decide +kernel
theorem dL_law_15 : decode cL_law 15 = .ok (.astore_n 2, 1) := by decide +kernel
theorem dL_law_16 : decode cL_law 16 = .ok (.iconst 1, 1) := by decide +kernel
theorem dL_law_17 : decode cL_law 17 = .ok (.newarray .long, 2) := by decide +kernel
theorem dL_law_19 : decode cL_law 19 = .ok (.astore_n 3, 1) := by decide +kernel
theorem dL_law_20 : decode cL_law 20 = .ok (.iconst 0, 1) := by decide +kernel
theorem dL_law_21 : decode cL_law 21 = .ok (.istore 4, 2) := by decide +kernel
theorem dL_law_23 : decode cL_law 23 = .ok (.iload 4, 2) := by decide +kernel
theorem dL_law_25 : decode cL_law 25 = .ok (.aload_n 0, 1) := by decide +kernel
theorem dL_law_26 : decode cL_law 26 = .ok (.arraylength, 1) := by decide +kernel
theorem dL_law_27 : decode cL_law 27 = .ok (.iconst 4, 1) := by decide +kernel
theorem dL_law_28 : decode cL_law 28 = .ok (.isub, 1) := by decide +kernel
theorem dL_law_29 : decode cL_law 29 = .ok (.if_icmp .gt 1388, 3) := by decide +kernel
theorem dL_law_32 : decode cL_law 32 = .ok (.aload_n 0, 1) := by decide +kernel
theorem dL_law_33 : decode cL_law 33 = .ok (.iload 4, 2) := by decide +kernel
theorem dL_law_35 : decode cL_law 35 = .ok (.iaload, 1) := by decide +kernel
theorem dL_law_36 : decode cL_law 36 = .ok (.bipush 31, 2) := by decide +kernel
theorem dL_law_38 : decode cL_law 38 = .ok (.iand, 1) := by decide +kernel
theorem dL_law_39 : decode cL_law 39 = .ok (.tableswitch 1372 0 19 #[93, 137, 224, 304, 372, 451, 530, 597, 665, 733, 808, 888, 944, 1000, 1068, 1081, 1136, 1180, 1248, 1316], 93) := by decide +kernel
theorem dL_law_132 : decode cL_law 132 = .ok (.aload_n 1, 1) := by decide +kernel
theorem dL_law_133 : decode cL_law 133 = .ok (.aload_n 3, 1) := by decide +kernel
theorem dL_law_134 : decode cL_law 134 = .ok (.invokestatic 85, 3) := by decide +kernel
theorem dL_law_137 : decode cL_law 137 = .ok (.istore 5, 2) := by decide +kernel
theorem dL_law_139 : decode cL_law 139 = .ok (.aload_n 2, 1) := by decide +kernel
theorem dL_law_140 : decode cL_law 140 = .ok (.invokevirtual 90, 3) := by decide +kernel
theorem dL_law_143 : decode cL_law 143 = .ok (.istore 6, 2) := by decide +kernel
theorem dL_law_145 : decode cL_law 145 = .ok (.aload_n 2, 1) := by decide +kernel
theorem dL_law_146 : decode cL_law 146 = .ok (.invokevirtual 91, 3) := by decide +kernel
theorem dL_law_149 : decode cL_law 149 = .ok (.iload 5, 2) := by decide +kernel
theorem dL_law_151 : decode cL_law 151 = .ok (.if_icmp .eq 5, 3) := by decide +kernel
theorem dL_law_154 : decode cL_law 154 = .ok (.iconst 0, 1) := by decide +kernel
theorem dL_law_155 : decode cL_law 155 = .ok (.ireturn, 1) := by decide +kernel
theorem dL_law_156 : decode cL_law 156 = .ok (.iload 5, 2) := by decide +kernel
theorem dL_law_158 : decode cL_law 158 = .ok (.ifCond .ne 15, 3) := by decide +kernel
theorem dL_law_161 : decode cL_law 161 = .ok (.aload_n 3, 1) := by decide +kernel
theorem dL_law_162 : decode cL_law 162 = .ok (.iconst 0, 1) := by decide +kernel
theorem dL_law_163 : decode cL_law 163 = .ok (.laload, 1) := by decide +kernel
theorem dL_law_164 : decode cL_law 164 = .ok (.iload 6, 2) := by decide +kernel
theorem dL_law_166 : decode cL_law 166 = .ok (.i2l, 1) := by decide +kernel
theorem dL_law_167 : decode cL_law 167 = .ok (.lcmp, 1) := by decide +kernel
theorem dL_law_168 : decode cL_law 168 = .ok (.ifCond .eq 5, 3) := by decide +kernel
theorem dL_law_171 : decode cL_law 171 = .ok (.iconst 0, 1) := by decide +kernel
theorem dL_law_172 : decode cL_law 172 = .ok (.ireturn, 1) := by decide +kernel
theorem dL_law_173 : decode cL_law 173 = .ok (.goto 1238, 3) := by decide +kernel
theorem dL_law_176 : decode cL_law 176 = .ok (.aload_n 1, 1) := by decide +kernel
theorem dL_law_177 : decode cL_law 177 = .ok (.aload_n 0, 1) := by decide +kernel
theorem dL_law_178 : decode cL_law 178 = .ok (.iload 4, 2) := by decide +kernel
theorem dL_law_180 : decode cL_law 180 = .ok (.iconst 1, 1) := by decide +kernel
theorem dL_law_181 : decode cL_law 181 = .ok (.iadd, 1) := by decide +kernel
theorem dL_law_182 : decode cL_law 182 = .ok (.iaload, 1) := by decide +kernel
theorem dL_law_183 : decode cL_law 183 = .ok (.aload_n 0, 1) := by decide +kernel
theorem dL_law_184 : decode cL_law 184 = .ok (.iload 4, 2) := by decide +kernel
theorem dL_law_186 : decode cL_law 186 = .ok (.iconst 2, 1) := by decide +kernel
theorem dL_law_187 : decode cL_law 187 = .ok (.iadd, 1) := by decide +kernel
theorem dL_law_188 : decode cL_law 188 = .ok (.iaload, 1) := by decide +kernel
theorem dL_law_189 : decode cL_law 189 = .ok (.aload_n 0, 1) := by decide +kernel
theorem dL_law_190 : decode cL_law 190 = .ok (.iload 4, 2) := by decide +kernel
theorem dL_law_192 : decode cL_law 192 = .ok (.iconst 3, 1) := by decide +kernel
theorem dL_law_193 : decode cL_law 193 = .ok (.iadd, 1) := by decide +kernel
theorem dL_law_194 : decode cL_law 194 = .ok (.iaload, 1) := by decide +kernel
theorem dL_law_195 : decode cL_law 195 = .ok (.aload_n 3, 1) := by decide +kernel
theorem dL_law_196 : decode cL_law 196 = .ok (.invokestatic 94, 3) := by decide +kernel
theorem dL_law_199 : decode cL_law 199 = .ok (.istore 5, 2) := by decide +kernel
theorem dL_law_201 : decode cL_law 201 = .ok (.aload_n 2, 1) := by decide +kernel
theorem dL_law_202 : decode cL_law 202 = .ok (.aload_n 0, 1) := by decide +kernel
theorem dL_law_203 : decode cL_law 203 = .ok (.iload 4, 2) := by decide +kernel
theorem dL_law_205 : decode cL_law 205 = .ok (.iconst 1, 1) := by decide +kernel
theorem dL_law_206 : decode cL_law 206 = .ok (.iadd, 1) := by decide +kernel
theorem dL_law_207 : decode cL_law 207 = .ok (.iaload, 1) := by decide +kernel
theorem dL_law_208 : decode cL_law 208 = .ok (.aload_n 0, 1) := by decide +kernel
theorem dL_law_209 : decode cL_law 209 = .ok (.iload 4, 2) := by decide +kernel
theorem dL_law_211 : decode cL_law 211 = .ok (.iconst 2, 1) := by decide +kernel
theorem dL_law_212 : decode cL_law 212 = .ok (.iadd, 1) := by decide +kernel
theorem dL_law_213 : decode cL_law 213 = .ok (.iaload, 1) := by decide +kernel
theorem dL_law_214 : decode cL_law 214 = .ok (.aload_n 0, 1) := by decide +kernel
theorem dL_law_215 : decode cL_law 215 = .ok (.iload 4, 2) := by decide +kernel
theorem dL_law_217 : decode cL_law 217 = .ok (.iconst 3, 1) := by decide +kernel
theorem dL_law_218 : decode cL_law 218 = .ok (.iadd, 1) := by decide +kernel
theorem dL_law_219 : decode cL_law 219 = .ok (.iaload, 1) := by decide +kernel
theorem dL_law_220 : decode cL_law 220 = .ok (.invokevirtual 97, 3) := by decide +kernel
theorem dL_law_223 : decode cL_law 223 = .ok (.istore 6, 2) := by decide +kernel
theorem dL_law_225 : decode cL_law 225 = .ok (.aload_n 2, 1) := by decide +kernel
theorem dL_law_226 : decode cL_law 226 = .ok (.invokevirtual 91, 3) := by decide +kernel
theorem dL_law_229 : decode cL_law 229 = .ok (.iload 5, 2) := by decide +kernel
theorem dL_law_231 : decode cL_law 231 = .ok (.if_icmp .eq 5, 3) := by decide +kernel
theorem dL_law_234 : decode cL_law 234 = .ok (.iconst 0, 1) := by decide +kernel
theorem dL_law_235 : decode cL_law 235 = .ok (.ireturn, 1) := by decide +kernel
theorem dL_law_236 : decode cL_law 236 = .ok (.iload 5, 2) := by decide +kernel
theorem dL_law_238 : decode cL_law 238 = .ok (.ifCond .ne 22, 3) := by decide +kernel
theorem dL_law_241 : decode cL_law 241 = .ok (.aload_n 3, 1) := by decide +kernel
theorem dL_law_242 : decode cL_law 242 = .ok (.iconst 0, 1) := by decide +kernel
theorem dL_law_243 : decode cL_law 243 = .ok (.laload, 1) := by decide +kernel
theorem dL_law_244 : decode cL_law 244 = .ok (.iload 6, 2) := by decide +kernel
theorem dL_law_246 : decode cL_law 246 = .ok (.ifCond .eq 7, 3) := by decide +kernel
theorem dL_law_249 : decode cL_law 249 = .ok (.lconst 1, 1) := by decide +kernel
theorem dL_law_250 : decode cL_law 250 = .ok (.goto 4, 3) := by decide +kernel
theorem dL_law_253 : decode cL_law 253 = .ok (.lconst 0, 1) := by decide +kernel
theorem dL_law_254 : decode cL_law 254 = .ok (.lcmp, 1) := by decide +kernel
theorem dL_law_255 : decode cL_law 255 = .ok (.ifCond .eq 5, 3) := by decide +kernel
theorem dL_law_258 : decode cL_law 258 = .ok (.iconst 0, 1) := by decide +kernel
theorem dL_law_259 : decode cL_law 259 = .ok (.ireturn, 1) := by decide +kernel
theorem dL_law_260 : decode cL_law 260 = .ok (.goto 1151, 3) := by decide +kernel
theorem dL_law_263 : decode cL_law 263 = .ok (.aload_n 1, 1) := by decide +kernel
theorem dL_law_264 : decode cL_law 264 = .ok (.aload_n 0, 1) := by decide +kernel
theorem dL_law_265 : decode cL_law 265 = .ok (.iload 4, 2) := by decide +kernel
end
section
theorem dL_law_267 : decode cL_law 267 = .ok (.iconst 1, 1) := by decide +kernel
theorem dL_law_268 : decode cL_law 268 = .ok (.iadd, 1) := by decide +kernel
theorem dL_law_269 : decode cL_law 269 = .ok (.iaload, 1) := by decide +kernel
theorem dL_law_270 : decode cL_law 270 = .ok (.aload_n 0, 1) := by decide +kernel
theorem dL_law_271 : decode cL_law 271 = .ok (.iload 4, 2) := by decide +kernel
theorem dL_law_273 : decode cL_law 273 = .ok (.iconst 2, 1) := by decide +kernel
theorem dL_law_274 : decode cL_law 274 = .ok (.iadd, 1) := by decide +kernel
theorem dL_law_275 : decode cL_law 275 = .ok (.iaload, 1) := by decide +kernel
theorem dL_law_276 : decode cL_law 276 = .ok (.aload_n 0, 1) := by decide +kernel
theorem dL_law_277 : decode cL_law 277 = .ok (.iload 4, 2) := by decide +kernel
theorem dL_law_279 : decode cL_law 279 = .ok (.iconst 3, 1) := by decide +kernel
theorem dL_law_280 : decode cL_law 280 = .ok (.iadd, 1) := by decide +kernel
theorem dL_law_281 : decode cL_law 281 = .ok (.iaload, 1) := by decide +kernel
theorem dL_law_282 : decode cL_law 282 = .ok (.aload_n 3, 1) := by decide +kernel
theorem dL_law_283 : decode cL_law 283 = .ok (.invokestatic 98, 3) := by decide +kernel
theorem dL_law_286 : decode cL_law 286 = .ok (.istore 5, 2) := by decide +kernel
theorem dL_law_288 : decode cL_law 288 = .ok (.aload_n 2, 1) := by decide +kernel
theorem dL_law_289 : decode cL_law 289 = .ok (.aload_n 0, 1) := by decide +kernel
theorem dL_law_290 : decode cL_law 290 = .ok (.iload 4, 2) := by decide +kernel
theorem dL_law_292 : decode cL_law 292 = .ok (.iconst 1, 1) := by decide +kernel
theorem dL_law_293 : decode cL_law 293 = .ok (.iadd, 1) := by decide +kernel
theorem dL_law_294 : decode cL_law 294 = .ok (.iaload, 1) := by decide +kernel
theorem dL_law_295 : decode cL_law 295 = .ok (.aload_n 0, 1) := by decide +kernel
theorem dL_law_296 : decode cL_law 296 = .ok (.iload 4, 2) := by decide +kernel
theorem dL_law_298 : decode cL_law 298 = .ok (.iconst 2, 1) := by decide +kernel
theorem dL_law_299 : decode cL_law 299 = .ok (.iadd, 1) := by decide +kernel
theorem dL_law_300 : decode cL_law 300 = .ok (.iaload, 1) := by decide +kernel
theorem dL_law_301 : decode cL_law 301 = .ok (.aload_n 0, 1) := by decide +kernel
theorem dL_law_302 : decode cL_law 302 = .ok (.iload 4, 2) := by decide +kernel
theorem dL_law_304 : decode cL_law 304 = .ok (.iconst 3, 1) := by decide +kernel
theorem dL_law_305 : decode cL_law 305 = .ok (.iadd, 1) := by decide +kernel
theorem dL_law_306 : decode cL_law 306 = .ok (.iaload, 1) := by decide +kernel
theorem dL_law_307 : decode cL_law 307 = .ok (.invokevirtual 100, 3) := by decide +kernel
theorem dL_law_310 : decode cL_law 310 = .ok (.istore 6, 2) := by decide +kernel
theorem dL_law_312 : decode cL_law 312 = .ok (.aload_n 2, 1) := by decide +kernel
theorem dL_law_313 : decode cL_law 313 = .ok (.invokevirtual 91, 3) := by decide +kernel
theorem dL_law_316 : decode cL_law 316 = .ok (.iload 5, 2) := by decide +kernel
theorem dL_law_318 : decode cL_law 318 = .ok (.if_icmp .eq 5, 3) := by decide +kernel
theorem dL_law_321 : decode cL_law 321 = .ok (.iconst 0, 1) := by decide +kernel
theorem dL_law_322 : decode cL_law 322 = .ok (.ireturn, 1) := by decide +kernel
theorem dL_law_323 : decode cL_law 323 = .ok (.iload 5, 2) := by decide +kernel
theorem dL_law_325 : decode cL_law 325 = .ok (.ifCond .ne 15, 3) := by decide +kernel
theorem dL_law_328 : decode cL_law 328 = .ok (.aload_n 3, 1) := by decide +kernel
theorem dL_law_329 : decode cL_law 329 = .ok (.iconst 0, 1) := by decide +kernel
theorem dL_law_330 : decode cL_law 330 = .ok (.laload, 1) := by decide +kernel
theorem dL_law_331 : decode cL_law 331 = .ok (.iload 6, 2) := by decide +kernel
theorem dL_law_333 : decode cL_law 333 = .ok (.i2l, 1) := by decide +kernel
theorem dL_law_334 : decode cL_law 334 = .ok (.lcmp, 1) := by decide +kernel
theorem dL_law_335 : decode cL_law 335 = .ok (.ifCond .eq 5, 3) := by decide +kernel
theorem dL_law_338 : decode cL_law 338 = .ok (.iconst 0, 1) := by decide +kernel
theorem dL_law_339 : decode cL_law 339 = .ok (.ireturn, 1) := by decide +kernel
theorem dL_law_340 : decode cL_law 340 = .ok (.goto 1071, 3) := by decide +kernel
theorem dL_law_343 : decode cL_law 343 = .ok (.aload_n 1, 1) := by decide +kernel
theorem dL_law_344 : decode cL_law 344 = .ok (.aload_n 0, 1) := by decide +kernel
theorem dL_law_345 : decode cL_law 345 = .ok (.iload 4, 2) := by decide +kernel
theorem dL_law_347 : decode cL_law 347 = .ok (.iconst 1, 1) := by decide +kernel
theorem dL_law_348 : decode cL_law 348 = .ok (.iadd, 1) := by decide +kernel
theorem dL_law_349 : decode cL_law 349 = .ok (.iaload, 1) := by decide +kernel
theorem dL_law_350 : decode cL_law 350 = .ok (.aload_n 0, 1) := by decide +kernel
theorem dL_law_351 : decode cL_law 351 = .ok (.iload 4, 2) := by decide +kernel
theorem dL_law_353 : decode cL_law 353 = .ok (.iconst 2, 1) := by decide +kernel
theorem dL_law_354 : decode cL_law 354 = .ok (.iadd, 1) := by decide +kernel
theorem dL_law_355 : decode cL_law 355 = .ok (.iaload, 1) := by decide +kernel
theorem dL_law_356 : decode cL_law 356 = .ok (.aload_n 3, 1) := by decide +kernel
theorem dL_law_357 : decode cL_law 357 = .ok (.invokestatic 101, 3) := by decide +kernel
theorem dL_law_360 : decode cL_law 360 = .ok (.istore 5, 2) := by decide +kernel
theorem dL_law_362 : decode cL_law 362 = .ok (.aload_n 2, 1) := by decide +kernel
theorem dL_law_363 : decode cL_law 363 = .ok (.aload_n 0, 1) := by decide +kernel
theorem dL_law_364 : decode cL_law 364 = .ok (.iload 4, 2) := by decide +kernel
theorem dL_law_366 : decode cL_law 366 = .ok (.iconst 1, 1) := by decide +kernel
theorem dL_law_367 : decode cL_law 367 = .ok (.iadd, 1) := by decide +kernel
theorem dL_law_368 : decode cL_law 368 = .ok (.iaload, 1) := by decide +kernel
theorem dL_law_369 : decode cL_law 369 = .ok (.aload_n 0, 1) := by decide +kernel
theorem dL_law_370 : decode cL_law 370 = .ok (.iload 4, 2) := by decide +kernel
theorem dL_law_372 : decode cL_law 372 = .ok (.iconst 2, 1) := by decide +kernel
theorem dL_law_373 : decode cL_law 373 = .ok (.iadd, 1) := by decide +kernel
theorem dL_law_374 : decode cL_law 374 = .ok (.iaload, 1) := by decide +kernel
theorem dL_law_375 : decode cL_law 375 = .ok (.invokevirtual 104, 3) := by decide +kernel
theorem dL_law_378 : decode cL_law 378 = .ok (.istore 6, 2) := by decide +kernel
theorem dL_law_380 : decode cL_law 380 = .ok (.aload_n 2, 1) := by decide +kernel
theorem dL_law_381 : decode cL_law 381 = .ok (.invokevirtual 91, 3) := by decide +kernel
theorem dL_law_384 : decode cL_law 384 = .ok (.iload 5, 2) := by decide +kernel
theorem dL_law_386 : decode cL_law 386 = .ok (.if_icmp .eq 5, 3) := by decide +kernel
theorem dL_law_389 : decode cL_law 389 = .ok (.iconst 0, 1) := by decide +kernel
theorem dL_law_390 : decode cL_law 390 = .ok (.ireturn, 1) := by decide +kernel
theorem dL_law_391 : decode cL_law 391 = .ok (.iload 5, 2) := by decide +kernel
theorem dL_law_393 : decode cL_law 393 = .ok (.ifCond .ne 15, 3) := by decide +kernel
theorem dL_law_396 : decode cL_law 396 = .ok (.aload_n 3, 1) := by decide +kernel
theorem dL_law_397 : decode cL_law 397 = .ok (.iconst 0, 1) := by decide +kernel
theorem dL_law_398 : decode cL_law 398 = .ok (.laload, 1) := by decide +kernel
theorem dL_law_399 : decode cL_law 399 = .ok (.iload 6, 2) := by decide +kernel
theorem dL_law_401 : decode cL_law 401 = .ok (.i2l, 1) := by decide +kernel
theorem dL_law_402 : decode cL_law 402 = .ok (.lcmp, 1) := by decide +kernel
theorem dL_law_403 : decode cL_law 403 = .ok (.ifCond .eq 5, 3) := by decide +kernel
theorem dL_law_406 : decode cL_law 406 = .ok (.iconst 0, 1) := by decide +kernel
theorem dL_law_407 : decode cL_law 407 = .ok (.ireturn, 1) := by decide +kernel
theorem dL_law_408 : decode cL_law 408 = .ok (.goto 1003, 3) := by decide +kernel
theorem dL_law_411 : decode cL_law 411 = .ok (.aload_n 1, 1) := by decide +kernel
theorem dL_law_412 : decode cL_law 412 = .ok (.aload_n 0, 1) := by decide +kernel
theorem dL_law_413 : decode cL_law 413 = .ok (.iload 4, 2) := by decide +kernel
theorem dL_law_415 : decode cL_law 415 = .ok (.iconst 1, 1) := by decide +kernel
theorem dL_law_416 : decode cL_law 416 = .ok (.iadd, 1) := by decide +kernel
theorem dL_law_417 : decode cL_law 417 = .ok (.iaload, 1) := by decide +kernel
theorem dL_law_418 : decode cL_law 418 = .ok (.aload_n 0, 1) := by decide +kernel
theorem dL_law_419 : decode cL_law 419 = .ok (.iload 4, 2) := by decide +kernel
theorem dL_law_421 : decode cL_law 421 = .ok (.iconst 2, 1) := by decide +kernel
theorem dL_law_422 : decode cL_law 422 = .ok (.iadd, 1) := by decide +kernel
theorem dL_law_423 : decode cL_law 423 = .ok (.iaload, 1) := by decide +kernel
theorem dL_law_424 : decode cL_law 424 = .ok (.aload_n 0, 1) := by decide +kernel
theorem dL_law_425 : decode cL_law 425 = .ok (.iload 4, 2) := by decide +kernel
theorem dL_law_427 : decode cL_law 427 = .ok (.iconst 3, 1) := by decide +kernel
theorem dL_law_428 : decode cL_law 428 = .ok (.iadd, 1) := by decide +kernel
theorem dL_law_429 : decode cL_law 429 = .ok (.iaload, 1) := by decide +kernel
theorem dL_law_430 : decode cL_law 430 = .ok (.aload_n 3, 1) := by decide +kernel
theorem dL_law_431 : decode cL_law 431 = .ok (.invokestatic 105, 3) := by decide +kernel
theorem dL_law_434 : decode cL_law 434 = .ok (.istore 5, 2) := by decide +kernel
theorem dL_law_436 : decode cL_law 436 = .ok (.aload_n 2, 1) := by decide +kernel
theorem dL_law_437 : decode cL_law 437 = .ok (.aload_n 0, 1) := by decide +kernel
theorem dL_law_438 : decode cL_law 438 = .ok (.iload 4, 2) := by decide +kernel
theorem dL_law_440 : decode cL_law 440 = .ok (.iconst 1, 1) := by decide +kernel
theorem dL_law_441 : decode cL_law 441 = .ok (.iadd, 1) := by decide +kernel
theorem dL_law_442 : decode cL_law 442 = .ok (.iaload, 1) := by decide +kernel
theorem dL_law_443 : decode cL_law 443 = .ok (.aload_n 0, 1) := by decide +kernel
theorem dL_law_444 : decode cL_law 444 = .ok (.iload 4, 2) := by decide +kernel
theorem dL_law_446 : decode cL_law 446 = .ok (.iconst 2, 1) := by decide +kernel
theorem dL_law_447 : decode cL_law 447 = .ok (.iadd, 1) := by decide +kernel
theorem dL_law_448 : decode cL_law 448 = .ok (.iaload, 1) := by decide +kernel
theorem dL_law_449 : decode cL_law 449 = .ok (.aload_n 0, 1) := by decide +kernel
theorem dL_law_450 : decode cL_law 450 = .ok (.iload 4, 2) := by decide +kernel
theorem dL_law_452 : decode cL_law 452 = .ok (.iconst 3, 1) := by decide +kernel
theorem dL_law_453 : decode cL_law 453 = .ok (.iadd, 1) := by decide +kernel
theorem dL_law_454 : decode cL_law 454 = .ok (.iaload, 1) := by decide +kernel
theorem dL_law_455 : decode cL_law 455 = .ok (.invokevirtual 107, 3) := by decide +kernel
theorem dL_law_458 : decode cL_law 458 = .ok (.lstore 6, 2) := by decide +kernel
theorem dL_law_460 : decode cL_law 460 = .ok (.aload_n 2, 1) := by decide +kernel
theorem dL_law_461 : decode cL_law 461 = .ok (.invokevirtual 91, 3) := by decide +kernel
theorem dL_law_464 : decode cL_law 464 = .ok (.iload 5, 2) := by decide +kernel
theorem dL_law_466 : decode cL_law 466 = .ok (.if_icmp .eq 5, 3) := by decide +kernel
theorem dL_law_469 : decode cL_law 469 = .ok (.iconst 0, 1) := by decide +kernel
theorem dL_law_470 : decode cL_law 470 = .ok (.ireturn, 1) := by decide +kernel
theorem dL_law_471 : decode cL_law 471 = .ok (.iload 5, 2) := by decide +kernel
theorem dL_law_473 : decode cL_law 473 = .ok (.ifCond .ne 14, 3) := by decide +kernel
theorem dL_law_476 : decode cL_law 476 = .ok (.aload_n 3, 1) := by decide +kernel
theorem dL_law_477 : decode cL_law 477 = .ok (.iconst 0, 1) := by decide +kernel
theorem dL_law_478 : decode cL_law 478 = .ok (.laload, 1) := by decide +kernel
theorem dL_law_479 : decode cL_law 479 = .ok (.lload 6, 2) := by decide +kernel
theorem dL_law_481 : decode cL_law 481 = .ok (.lcmp, 1) := by decide +kernel
theorem dL_law_482 : decode cL_law 482 = .ok (.ifCond .eq 5, 3) := by decide +kernel
theorem dL_law_485 : decode cL_law 485 = .ok (.iconst 0, 1) := by decide +kernel
theorem dL_law_486 : decode cL_law 486 = .ok (.ireturn, 1) := by decide +kernel
theorem dL_law_487 : decode cL_law 487 = .ok (.goto 924, 3) := by decide +kernel
theorem dL_law_490 : decode cL_law 490 = .ok (.aload_n 1, 1) := by decide +kernel
theorem dL_law_491 : decode cL_law 491 = .ok (.aload_n 0, 1) := by decide +kernel
theorem dL_law_492 : decode cL_law 492 = .ok (.iload 4, 2) := by decide +kernel
theorem dL_law_494 : decode cL_law 494 = .ok (.iconst 1, 1) := by decide +kernel
theorem dL_law_495 : decode cL_law 495 = .ok (.iadd, 1) := by decide +kernel
theorem dL_law_496 : decode cL_law 496 = .ok (.iaload, 1) := by decide +kernel
theorem dL_law_497 : decode cL_law 497 = .ok (.aload_n 0, 1) := by decide +kernel
theorem dL_law_498 : decode cL_law 498 = .ok (.iload 4, 2) := by decide +kernel
theorem dL_law_500 : decode cL_law 500 = .ok (.iconst 2, 1) := by decide +kernel
theorem dL_law_501 : decode cL_law 501 = .ok (.iadd, 1) := by decide +kernel
theorem dL_law_502 : decode cL_law 502 = .ok (.iaload, 1) := by decide +kernel
theorem dL_law_503 : decode cL_law 503 = .ok (.aload_n 0, 1) := by decide +kernel
theorem dL_law_504 : decode cL_law 504 = .ok (.iload 4, 2) := by decide +kernel
theorem dL_law_506 : decode cL_law 506 = .ok (.iconst 3, 1) := by decide +kernel
theorem dL_law_507 : decode cL_law 507 = .ok (.iadd, 1) := by decide +kernel
theorem dL_law_508 : decode cL_law 508 = .ok (.iaload, 1) := by decide +kernel
theorem dL_law_509 : decode cL_law 509 = .ok (.aload_n 3, 1) := by decide +kernel
theorem dL_law_510 : decode cL_law 510 = .ok (.invokestatic 108, 3) := by decide +kernel
theorem dL_law_513 : decode cL_law 513 = .ok (.istore 5, 2) := by decide +kernel
theorem dL_law_515 : decode cL_law 515 = .ok (.aload_n 2, 1) := by decide +kernel
theorem dL_law_516 : decode cL_law 516 = .ok (.aload_n 0, 1) := by decide +kernel
theorem dL_law_517 : decode cL_law 517 = .ok (.iload 4, 2) := by decide +kernel
theorem dL_law_519 : decode cL_law 519 = .ok (.iconst 1, 1) := by decide +kernel
theorem dL_law_520 : decode cL_law 520 = .ok (.iadd, 1) := by decide +kernel
theorem dL_law_521 : decode cL_law 521 = .ok (.iaload, 1) := by decide +kernel
theorem dL_law_522 : decode cL_law 522 = .ok (.aload_n 0, 1) := by decide +kernel
theorem dL_law_523 : decode cL_law 523 = .ok (.iload 4, 2) := by decide +kernel
theorem dL_law_525 : decode cL_law 525 = .ok (.iconst 2, 1) := by decide +kernel
theorem dL_law_526 : decode cL_law 526 = .ok (.iadd, 1) := by decide +kernel
theorem dL_law_527 : decode cL_law 527 = .ok (.iaload, 1) := by decide +kernel
theorem dL_law_528 : decode cL_law 528 = .ok (.aload_n 0, 1) := by decide +kernel
theorem dL_law_529 : decode cL_law 529 = .ok (.iload 4, 2) := by decide +kernel
theorem dL_law_531 : decode cL_law 531 = .ok (.iconst 3, 1) := by decide +kernel
theorem dL_law_532 : decode cL_law 532 = .ok (.iadd, 1) := by decide +kernel
theorem dL_law_533 : decode cL_law 533 = .ok (.iaload, 1) := by decide +kernel
theorem dL_law_534 : decode cL_law 534 = .ok (.invokevirtual 110, 3) := by decide +kernel
theorem dL_law_537 : decode cL_law 537 = .ok (.lstore 6, 2) := by decide +kernel
theorem dL_law_539 : decode cL_law 539 = .ok (.aload_n 2, 1) := by decide +kernel
theorem dL_law_540 : decode cL_law 540 = .ok (.invokevirtual 91, 3) := by decide +kernel
theorem dL_law_543 : decode cL_law 543 = .ok (.iload 5, 2) := by decide +kernel
theorem dL_law_545 : decode cL_law 545 = .ok (.if_icmp .eq 5, 3) := by decide +kernel
theorem dL_law_548 : decode cL_law 548 = .ok (.iconst 0, 1) := by decide +kernel
theorem dL_law_549 : decode cL_law 549 = .ok (.ireturn, 1) := by decide +kernel
theorem dL_law_550 : decode cL_law 550 = .ok (.iload 5, 2) := by decide +kernel
theorem dL_law_552 : decode cL_law 552 = .ok (.ifCond .ne 14, 3) := by decide +kernel
theorem dL_law_555 : decode cL_law 555 = .ok (.aload_n 3, 1) := by decide +kernel
theorem dL_law_556 : decode cL_law 556 = .ok (.iconst 0, 1) := by decide +kernel
theorem dL_law_557 : decode cL_law 557 = .ok (.laload, 1) := by decide +kernel
theorem dL_law_558 : decode cL_law 558 = .ok (.lload 6, 2) := by decide +kernel
theorem dL_law_560 : decode cL_law 560 = .ok (.lcmp, 1) := by decide +kernel
theorem dL_law_561 : decode cL_law 561 = .ok (.ifCond .eq 5, 3) := by decide +kernel
theorem dL_law_564 : decode cL_law 564 = .ok (.iconst 0, 1) := by decide +kernel
theorem dL_law_565 : decode cL_law 565 = .ok (.ireturn, 1) := by decide +kernel
theorem dL_law_566 : decode cL_law 566 = .ok (.goto 845, 3) := by decide +kernel
theorem dL_law_569 : decode cL_law 569 = .ok (.aload_n 1, 1) := by decide +kernel
theorem dL_law_570 : decode cL_law 570 = .ok (.aload_n 0, 1) := by decide +kernel
theorem dL_law_571 : decode cL_law 571 = .ok (.iload 4, 2) := by decide +kernel
theorem dL_law_573 : decode cL_law 573 = .ok (.iconst 1, 1) := by decide +kernel
theorem dL_law_574 : decode cL_law 574 = .ok (.iadd, 1) := by decide +kernel
theorem dL_law_575 : decode cL_law 575 = .ok (.iaload, 1) := by decide +kernel
theorem dL_law_576 : decode cL_law 576 = .ok (.aload_n 0, 1) := by decide +kernel
theorem dL_law_577 : decode cL_law 577 = .ok (.iload 4, 2) := by decide +kernel
theorem dL_law_579 : decode cL_law 579 = .ok (.iconst 2, 1) := by decide +kernel
theorem dL_law_580 : decode cL_law 580 = .ok (.iadd, 1) := by decide +kernel
theorem dL_law_581 : decode cL_law 581 = .ok (.iaload, 1) := by decide +kernel
theorem dL_law_582 : decode cL_law 582 = .ok (.aload_n 3, 1) := by decide +kernel
theorem dL_law_583 : decode cL_law 583 = .ok (.invokestatic 111, 3) := by decide +kernel
theorem dL_law_586 : decode cL_law 586 = .ok (.istore 5, 2) := by decide +kernel
theorem dL_law_588 : decode cL_law 588 = .ok (.aload_n 2, 1) := by decide +kernel
theorem dL_law_589 : decode cL_law 589 = .ok (.aload_n 0, 1) := by decide +kernel
theorem dL_law_590 : decode cL_law 590 = .ok (.iload 4, 2) := by decide +kernel
theorem dL_law_592 : decode cL_law 592 = .ok (.iconst 1, 1) := by decide +kernel
theorem dL_law_593 : decode cL_law 593 = .ok (.iadd, 1) := by decide +kernel
theorem dL_law_594 : decode cL_law 594 = .ok (.iaload, 1) := by decide +kernel
theorem dL_law_595 : decode cL_law 595 = .ok (.aload_n 0, 1) := by decide +kernel
theorem dL_law_596 : decode cL_law 596 = .ok (.iload 4, 2) := by decide +kernel
theorem dL_law_598 : decode cL_law 598 = .ok (.iconst 2, 1) := by decide +kernel
theorem dL_law_599 : decode cL_law 599 = .ok (.iadd, 1) := by decide +kernel
theorem dL_law_600 : decode cL_law 600 = .ok (.iaload, 1) := by decide +kernel
theorem dL_law_601 : decode cL_law 601 = .ok (.invokevirtual 113, 3) := by decide +kernel
theorem dL_law_604 : decode cL_law 604 = .ok (.lstore 6, 2) := by decide +kernel
theorem dL_law_606 : decode cL_law 606 = .ok (.aload_n 2, 1) := by decide +kernel
theorem dL_law_607 : decode cL_law 607 = .ok (.invokevirtual 91, 3) := by decide +kernel
theorem dL_law_610 : decode cL_law 610 = .ok (.iload 5, 2) := by decide +kernel
theorem dL_law_612 : decode cL_law 612 = .ok (.if_icmp .eq 5, 3) := by decide +kernel
theorem dL_law_615 : decode cL_law 615 = .ok (.iconst 0, 1) := by decide +kernel
theorem dL_law_616 : decode cL_law 616 = .ok (.ireturn, 1) := by decide +kernel
theorem dL_law_617 : decode cL_law 617 = .ok (.iload 5, 2) := by decide +kernel
theorem dL_law_619 : decode cL_law 619 = .ok (.ifCond .ne 14, 3) := by decide +kernel
theorem dL_law_622 : decode cL_law 622 = .ok (.aload_n 3, 1) := by decide +kernel
theorem dL_law_623 : decode cL_law 623 = .ok (.iconst 0, 1) := by decide +kernel
theorem dL_law_624 : decode cL_law 624 = .ok (.laload, 1) := by decide +kernel
theorem dL_law_625 : decode cL_law 625 = .ok (.lload 6, 2) := by decide +kernel
theorem dL_law_627 : decode cL_law 627 = .ok (.lcmp, 1) := by decide +kernel
theorem dL_law_628 : decode cL_law 628 = .ok (.ifCond .eq 5, 3) := by decide +kernel
theorem dL_law_631 : decode cL_law 631 = .ok (.iconst 0, 1) := by decide +kernel
theorem dL_law_632 : decode cL_law 632 = .ok (.ireturn, 1) := by decide +kernel
theorem dL_law_633 : decode cL_law 633 = .ok (.goto 778, 3) := by decide +kernel
theorem dL_law_636 : decode cL_law 636 = .ok (.aload_n 1, 1) := by decide +kernel
theorem dL_law_637 : decode cL_law 637 = .ok (.aload_n 0, 1) := by decide +kernel
theorem dL_law_638 : decode cL_law 638 = .ok (.iload 4, 2) := by decide +kernel
theorem dL_law_640 : decode cL_law 640 = .ok (.iconst 1, 1) := by decide +kernel
theorem dL_law_641 : decode cL_law 641 = .ok (.iadd, 1) := by decide +kernel
theorem dL_law_642 : decode cL_law 642 = .ok (.iaload, 1) := by decide +kernel
theorem dL_law_643 : decode cL_law 643 = .ok (.aload_n 0, 1) := by decide +kernel
theorem dL_law_644 : decode cL_law 644 = .ok (.iload 4, 2) := by decide +kernel
theorem dL_law_646 : decode cL_law 646 = .ok (.iconst 2, 1) := by decide +kernel
theorem dL_law_647 : decode cL_law 647 = .ok (.iadd, 1) := by decide +kernel
theorem dL_law_648 : decode cL_law 648 = .ok (.iaload, 1) := by decide +kernel
theorem dL_law_649 : decode cL_law 649 = .ok (.aload_n 3, 1) := by decide +kernel
theorem dL_law_650 : decode cL_law 650 = .ok (.invokestatic 114, 3) := by decide +kernel
theorem dL_law_653 : decode cL_law 653 = .ok (.istore 5, 2) := by decide +kernel
theorem dL_law_655 : decode cL_law 655 = .ok (.aload_n 2, 1) := by decide +kernel
theorem dL_law_656 : decode cL_law 656 = .ok (.aload_n 0, 1) := by decide +kernel
theorem dL_law_657 : decode cL_law 657 = .ok (.iload 4, 2) := by decide +kernel
theorem dL_law_659 : decode cL_law 659 = .ok (.iconst 1, 1) := by decide +kernel
theorem dL_law_660 : decode cL_law 660 = .ok (.iadd, 1) := by decide +kernel
theorem dL_law_661 : decode cL_law 661 = .ok (.iaload, 1) := by decide +kernel
theorem dL_law_662 : decode cL_law 662 = .ok (.aload_n 0, 1) := by decide +kernel
theorem dL_law_663 : decode cL_law 663 = .ok (.iload 4, 2) := by decide +kernel
theorem dL_law_665 : decode cL_law 665 = .ok (.iconst 2, 1) := by decide +kernel
theorem dL_law_666 : decode cL_law 666 = .ok (.iadd, 1) := by decide +kernel
theorem dL_law_667 : decode cL_law 667 = .ok (.iaload, 1) := by decide +kernel
theorem dL_law_668 : decode cL_law 668 = .ok (.invokevirtual 116, 3) := by decide +kernel
theorem dL_law_671 : decode cL_law 671 = .ok (.istore 6, 2) := by decide +kernel
theorem dL_law_673 : decode cL_law 673 = .ok (.aload_n 2, 1) := by decide +kernel
theorem dL_law_674 : decode cL_law 674 = .ok (.invokevirtual 91, 3) := by decide +kernel
theorem dL_law_677 : decode cL_law 677 = .ok (.iload 5, 2) := by decide +kernel
theorem dL_law_679 : decode cL_law 679 = .ok (.if_icmp .eq 5, 3) := by decide +kernel
theorem dL_law_682 : decode cL_law 682 = .ok (.iconst 0, 1) := by decide +kernel
theorem dL_law_683 : decode cL_law 683 = .ok (.ireturn, 1) := by decide +kernel
theorem dL_law_684 : decode cL_law 684 = .ok (.iload 5, 2) := by decide +kernel
theorem dL_law_686 : decode cL_law 686 = .ok (.ifCond .ne 15, 3) := by decide +kernel
theorem dL_law_689 : decode cL_law 689 = .ok (.aload_n 3, 1) := by decide +kernel
theorem dL_law_690 : decode cL_law 690 = .ok (.iconst 0, 1) := by decide +kernel
theorem dL_law_691 : decode cL_law 691 = .ok (.laload, 1) := by decide +kernel
theorem dL_law_692 : decode cL_law 692 = .ok (.iload 6, 2) := by decide +kernel
theorem dL_law_694 : decode cL_law 694 = .ok (.i2l, 1) := by decide +kernel
theorem dL_law_695 : decode cL_law 695 = .ok (.lcmp, 1) := by decide +kernel
theorem dL_law_696 : decode cL_law 696 = .ok (.ifCond .eq 5, 3) := by decide +kernel
theorem dL_law_699 : decode cL_law 699 = .ok (.iconst 0, 1) := by decide +kernel
theorem dL_law_700 : decode cL_law 700 = .ok (.ireturn, 1) := by decide +kernel
theorem dL_law_701 : decode cL_law 701 = .ok (.goto 710, 3) := by decide +kernel
theorem dL_law_704 : decode cL_law 704 = .ok (.aload_n 1, 1) := by decide +kernel
theorem dL_law_705 : decode cL_law 705 = .ok (.aload_n 0, 1) := by decide +kernel
theorem dL_law_706 : decode cL_law 706 = .ok (.iload 4, 2) := by decide +kernel
theorem dL_law_708 : decode cL_law 708 = .ok (.iconst 1, 1) := by decide +kernel
theorem dL_law_709 : decode cL_law 709 = .ok (.iadd, 1) := by decide +kernel
theorem dL_law_710 : decode cL_law 710 = .ok (.iaload, 1) := by decide +kernel
theorem dL_law_711 : decode cL_law 711 = .ok (.aload_n 0, 1) := by decide +kernel
theorem dL_law_712 : decode cL_law 712 = .ok (.iload 4, 2) := by decide +kernel
theorem dL_law_714 : decode cL_law 714 = .ok (.iconst 2, 1) := by decide +kernel
theorem dL_law_715 : decode cL_law 715 = .ok (.iadd, 1) := by decide +kernel
theorem dL_law_716 : decode cL_law 716 = .ok (.iaload, 1) := by decide +kernel
theorem dL_law_717 : decode cL_law 717 = .ok (.aload_n 3, 1) := by decide +kernel
theorem dL_law_718 : decode cL_law 718 = .ok (.invokestatic 117, 3) := by decide +kernel
theorem dL_law_721 : decode cL_law 721 = .ok (.istore 5, 2) := by decide +kernel
theorem dL_law_723 : decode cL_law 723 = .ok (.aload_n 2, 1) := by decide +kernel
theorem dL_law_724 : decode cL_law 724 = .ok (.aload_n 0, 1) := by decide +kernel
theorem dL_law_725 : decode cL_law 725 = .ok (.iload 4, 2) := by decide +kernel
theorem dL_law_727 : decode cL_law 727 = .ok (.iconst 1, 1) := by decide +kernel
theorem dL_law_728 : decode cL_law 728 = .ok (.iadd, 1) := by decide +kernel
theorem dL_law_729 : decode cL_law 729 = .ok (.iaload, 1) := by decide +kernel
theorem dL_law_730 : decode cL_law 730 = .ok (.aload_n 0, 1) := by decide +kernel
theorem dL_law_731 : decode cL_law 731 = .ok (.iload 4, 2) := by decide +kernel
theorem dL_law_733 : decode cL_law 733 = .ok (.iconst 2, 1) := by decide +kernel
theorem dL_law_734 : decode cL_law 734 = .ok (.iadd, 1) := by decide +kernel
theorem dL_law_735 : decode cL_law 735 = .ok (.iaload, 1) := by decide +kernel
theorem dL_law_736 : decode cL_law 736 = .ok (.invokevirtual 119, 3) := by decide +kernel
theorem dL_law_739 : decode cL_law 739 = .ok (.istore 6, 2) := by decide +kernel
theorem dL_law_741 : decode cL_law 741 = .ok (.aload_n 2, 1) := by decide +kernel
theorem dL_law_742 : decode cL_law 742 = .ok (.invokevirtual 91, 3) := by decide +kernel
theorem dL_law_745 : decode cL_law 745 = .ok (.iload 5, 2) := by decide +kernel
theorem dL_law_747 : decode cL_law 747 = .ok (.if_icmp .eq 5, 3) := by decide +kernel
theorem dL_law_750 : decode cL_law 750 = .ok (.iconst 0, 1) := by decide +kernel
theorem dL_law_751 : decode cL_law 751 = .ok (.ireturn, 1) := by decide +kernel
theorem dL_law_752 : decode cL_law 752 = .ok (.iload 5, 2) := by decide +kernel
theorem dL_law_754 : decode cL_law 754 = .ok (.ifCond .ne 15, 3) := by decide +kernel
theorem dL_law_757 : decode cL_law 757 = .ok (.aload_n 3, 1) := by decide +kernel
theorem dL_law_758 : decode cL_law 758 = .ok (.iconst 0, 1) := by decide +kernel
theorem dL_law_759 : decode cL_law 759 = .ok (.laload, 1) := by decide +kernel
theorem dL_law_760 : decode cL_law 760 = .ok (.iload 6, 2) := by decide +kernel
theorem dL_law_762 : decode cL_law 762 = .ok (.i2l, 1) := by decide +kernel
theorem dL_law_763 : decode cL_law 763 = .ok (.lcmp, 1) := by decide +kernel
theorem dL_law_764 : decode cL_law 764 = .ok (.ifCond .eq 5, 3) := by decide +kernel
theorem dL_law_767 : decode cL_law 767 = .ok (.iconst 0, 1) := by decide +kernel
theorem dL_law_768 : decode cL_law 768 = .ok (.ireturn, 1) := by decide +kernel
theorem dL_law_769 : decode cL_law 769 = .ok (.goto 642, 3) := by decide +kernel
theorem dL_law_772 : decode cL_law 772 = .ok (.aload_n 1, 1) := by decide +kernel
theorem dL_law_773 : decode cL_law 773 = .ok (.aload_n 0, 1) := by decide +kernel
theorem dL_law_774 : decode cL_law 774 = .ok (.iload 4, 2) := by decide +kernel
theorem dL_law_776 : decode cL_law 776 = .ok (.iconst 1, 1) := by decide +kernel
theorem dL_law_777 : decode cL_law 777 = .ok (.iadd, 1) := by decide +kernel
theorem dL_law_778 : decode cL_law 778 = .ok (.iaload, 1) := by decide +kernel
theorem dL_law_779 : decode cL_law 779 = .ok (.aload_n 0, 1) := by decide +kernel
theorem dL_law_780 : decode cL_law 780 = .ok (.iload 4, 2) := by decide +kernel
theorem dL_law_782 : decode cL_law 782 = .ok (.iconst 2, 1) := by decide +kernel
theorem dL_law_783 : decode cL_law 783 = .ok (.iadd, 1) := by decide +kernel
theorem dL_law_784 : decode cL_law 784 = .ok (.iaload, 1) := by decide +kernel
theorem dL_law_785 : decode cL_law 785 = .ok (.aload_n 3, 1) := by decide +kernel
theorem dL_law_786 : decode cL_law 786 = .ok (.invokestatic 120, 3) := by decide +kernel
theorem dL_law_789 : decode cL_law 789 = .ok (.istore 5, 2) := by decide +kernel
theorem dL_law_791 : decode cL_law 791 = .ok (.aload_n 2, 1) := by decide +kernel
theorem dL_law_792 : decode cL_law 792 = .ok (.aload_n 0, 1) := by decide +kernel
theorem dL_law_793 : decode cL_law 793 = .ok (.iload 4, 2) := by decide +kernel
theorem dL_law_795 : decode cL_law 795 = .ok (.iconst 1, 1) := by decide +kernel
theorem dL_law_796 : decode cL_law 796 = .ok (.iadd, 1) := by decide +kernel
theorem dL_law_797 : decode cL_law 797 = .ok (.iaload, 1) := by decide +kernel
theorem dL_law_798 : decode cL_law 798 = .ok (.aload_n 0, 1) := by decide +kernel
theorem dL_law_799 : decode cL_law 799 = .ok (.iload 4, 2) := by decide +kernel
theorem dL_law_801 : decode cL_law 801 = .ok (.iconst 2, 1) := by decide +kernel
theorem dL_law_802 : decode cL_law 802 = .ok (.iadd, 1) := by decide +kernel
theorem dL_law_803 : decode cL_law 803 = .ok (.iaload, 1) := by decide +kernel
theorem dL_law_804 : decode cL_law 804 = .ok (.invokevirtual 122, 3) := by decide +kernel
theorem dL_law_807 : decode cL_law 807 = .ok (.istore 6, 2) := by decide +kernel
theorem dL_law_809 : decode cL_law 809 = .ok (.aload_n 2, 1) := by decide +kernel
theorem dL_law_810 : decode cL_law 810 = .ok (.invokevirtual 91, 3) := by decide +kernel
theorem dL_law_813 : decode cL_law 813 = .ok (.iload 5, 2) := by decide +kernel
theorem dL_law_815 : decode cL_law 815 = .ok (.if_icmp .eq 5, 3) := by decide +kernel
theorem dL_law_818 : decode cL_law 818 = .ok (.iconst 0, 1) := by decide +kernel
theorem dL_law_819 : decode cL_law 819 = .ok (.ireturn, 1) := by decide +kernel
theorem dL_law_820 : decode cL_law 820 = .ok (.iload 5, 2) := by decide +kernel
theorem dL_law_822 : decode cL_law 822 = .ok (.ifCond .ne 22, 3) := by decide +kernel
theorem dL_law_825 : decode cL_law 825 = .ok (.aload_n 3, 1) := by decide +kernel
theorem dL_law_826 : decode cL_law 826 = .ok (.iconst 0, 1) := by decide +kernel
theorem dL_law_827 : decode cL_law 827 = .ok (.laload, 1) := by decide +kernel
theorem dL_law_828 : decode cL_law 828 = .ok (.iload 6, 2) := by decide +kernel
theorem dL_law_830 : decode cL_law 830 = .ok (.ifCond .eq 7, 3) := by decide +kernel
theorem dL_law_833 : decode cL_law 833 = .ok (.lconst 1, 1) := by decide +kernel
theorem dL_law_834 : decode cL_law 834 = .ok (.goto 4, 3) := by decide +kernel
theorem dL_law_837 : decode cL_law 837 = .ok (.lconst 0, 1) := by decide +kernel
theorem dL_law_838 : decode cL_law 838 = .ok (.lcmp, 1) := by decide +kernel
theorem dL_law_839 : decode cL_law 839 = .ok (.ifCond .eq 5, 3) := by decide +kernel
theorem dL_law_842 : decode cL_law 842 = .ok (.iconst 0, 1) := by decide +kernel
theorem dL_law_843 : decode cL_law 843 = .ok (.ireturn, 1) := by decide +kernel
theorem dL_law_844 : decode cL_law 844 = .ok (.goto 567, 3) := by decide +kernel
theorem dL_law_847 : decode cL_law 847 = .ok (.aload_n 1, 1) := by decide +kernel
theorem dL_law_848 : decode cL_law 848 = .ok (.aload_n 0, 1) := by decide +kernel
theorem dL_law_849 : decode cL_law 849 = .ok (.iload 4, 2) := by decide +kernel
theorem dL_law_851 : decode cL_law 851 = .ok (.iconst 1, 1) := by decide +kernel
theorem dL_law_852 : decode cL_law 852 = .ok (.iadd, 1) := by decide +kernel
theorem dL_law_853 : decode cL_law 853 = .ok (.iaload, 1) := by decide +kernel
theorem dL_law_854 : decode cL_law 854 = .ok (.aload_n 0, 1) := by decide +kernel
theorem dL_law_855 : decode cL_law 855 = .ok (.iload 4, 2) := by decide +kernel
theorem dL_law_857 : decode cL_law 857 = .ok (.iconst 2, 1) := by decide +kernel
theorem dL_law_858 : decode cL_law 858 = .ok (.iadd, 1) := by decide +kernel
theorem dL_law_859 : decode cL_law 859 = .ok (.iaload, 1) := by decide +kernel
theorem dL_law_860 : decode cL_law 860 = .ok (.aload_n 0, 1) := by decide +kernel
theorem dL_law_861 : decode cL_law 861 = .ok (.iload 4, 2) := by decide +kernel
end
section
theorem dL_law_863 : decode cL_law 863 = .ok (.iconst 3, 1) := by decide +kernel
theorem dL_law_864 : decode cL_law 864 = .ok (.iadd, 1) := by decide +kernel
theorem dL_law_865 : decode cL_law 865 = .ok (.iaload, 1) := by decide +kernel
theorem dL_law_866 : decode cL_law 866 = .ok (.aload_n 3, 1) := by decide +kernel
theorem dL_law_867 : decode cL_law 867 = .ok (.invokestatic 123, 3) := by decide +kernel
theorem dL_law_870 : decode cL_law 870 = .ok (.istore 5, 2) := by decide +kernel
theorem dL_law_872 : decode cL_law 872 = .ok (.aload_n 2, 1) := by decide +kernel
theorem dL_law_873 : decode cL_law 873 = .ok (.aload_n 0, 1) := by decide +kernel
theorem dL_law_874 : decode cL_law 874 = .ok (.iload 4, 2) := by decide +kernel
theorem dL_law_876 : decode cL_law 876 = .ok (.iconst 1, 1) := by decide +kernel
theorem dL_law_877 : decode cL_law 877 = .ok (.iadd, 1) := by decide +kernel
theorem dL_law_878 : decode cL_law 878 = .ok (.iaload, 1) := by decide +kernel
theorem dL_law_879 : decode cL_law 879 = .ok (.aload_n 0, 1) := by decide +kernel
theorem dL_law_880 : decode cL_law 880 = .ok (.iload 4, 2) := by decide +kernel
theorem dL_law_882 : decode cL_law 882 = .ok (.iconst 2, 1) := by decide +kernel
theorem dL_law_883 : decode cL_law 883 = .ok (.iadd, 1) := by decide +kernel
theorem dL_law_884 : decode cL_law 884 = .ok (.iaload, 1) := by decide +kernel
theorem dL_law_885 : decode cL_law 885 = .ok (.aload_n 0, 1) := by decide +kernel
theorem dL_law_886 : decode cL_law 886 = .ok (.iload 4, 2) := by decide +kernel
theorem dL_law_888 : decode cL_law 888 = .ok (.iconst 3, 1) := by decide +kernel
theorem dL_law_889 : decode cL_law 889 = .ok (.iadd, 1) := by decide +kernel
theorem dL_law_890 : decode cL_law 890 = .ok (.iaload, 1) := by decide +kernel
theorem dL_law_891 : decode cL_law 891 = .ok (.invokevirtual 125, 3) := by decide +kernel
theorem dL_law_894 : decode cL_law 894 = .ok (.istore 6, 2) := by decide +kernel
theorem dL_law_896 : decode cL_law 896 = .ok (.aload_n 2, 1) := by decide +kernel
theorem dL_law_897 : decode cL_law 897 = .ok (.invokevirtual 91, 3) := by decide +kernel
theorem dL_law_900 : decode cL_law 900 = .ok (.iload 5, 2) := by decide +kernel
theorem dL_law_902 : decode cL_law 902 = .ok (.if_icmp .eq 5, 3) := by decide +kernel
theorem dL_law_905 : decode cL_law 905 = .ok (.iconst 0, 1) := by decide +kernel
theorem dL_law_906 : decode cL_law 906 = .ok (.ireturn, 1) := by decide +kernel
theorem dL_law_907 : decode cL_law 907 = .ok (.iload 5, 2) := by decide +kernel
theorem dL_law_909 : decode cL_law 909 = .ok (.ifCond .ne 15, 3) := by decide +kernel
theorem dL_law_912 : decode cL_law 912 = .ok (.aload_n 3, 1) := by decide +kernel
theorem dL_law_913 : decode cL_law 913 = .ok (.iconst 0, 1) := by decide +kernel
theorem dL_law_914 : decode cL_law 914 = .ok (.laload, 1) := by decide +kernel
theorem dL_law_915 : decode cL_law 915 = .ok (.iload 6, 2) := by decide +kernel
theorem dL_law_917 : decode cL_law 917 = .ok (.i2l, 1) := by decide +kernel
theorem dL_law_918 : decode cL_law 918 = .ok (.lcmp, 1) := by decide +kernel
theorem dL_law_919 : decode cL_law 919 = .ok (.ifCond .eq 5, 3) := by decide +kernel
theorem dL_law_922 : decode cL_law 922 = .ok (.iconst 0, 1) := by decide +kernel
theorem dL_law_923 : decode cL_law 923 = .ok (.ireturn, 1) := by decide +kernel
theorem dL_law_924 : decode cL_law 924 = .ok (.goto 487, 3) := by decide +kernel
theorem dL_law_927 : decode cL_law 927 = .ok (.aload_n 1, 1) := by decide +kernel
theorem dL_law_928 : decode cL_law 928 = .ok (.aload_n 0, 1) := by decide +kernel
theorem dL_law_929 : decode cL_law 929 = .ok (.iload 4, 2) := by decide +kernel
theorem dL_law_931 : decode cL_law 931 = .ok (.iconst 1, 1) := by decide +kernel
theorem dL_law_932 : decode cL_law 932 = .ok (.iadd, 1) := by decide +kernel
theorem dL_law_933 : decode cL_law 933 = .ok (.iaload, 1) := by decide +kernel
theorem dL_law_934 : decode cL_law 934 = .ok (.aload_n 3, 1) := by decide +kernel
theorem dL_law_935 : decode cL_law 935 = .ok (.invokestatic 126, 3) := by decide +kernel
theorem dL_law_938 : decode cL_law 938 = .ok (.istore 5, 2) := by decide +kernel
theorem dL_law_940 : decode cL_law 940 = .ok (.aload_n 2, 1) := by decide +kernel
theorem dL_law_941 : decode cL_law 941 = .ok (.aload_n 0, 1) := by decide +kernel
theorem dL_law_942 : decode cL_law 942 = .ok (.iload 4, 2) := by decide +kernel
theorem dL_law_944 : decode cL_law 944 = .ok (.iconst 1, 1) := by decide +kernel
theorem dL_law_945 : decode cL_law 945 = .ok (.iadd, 1) := by decide +kernel
theorem dL_law_946 : decode cL_law 946 = .ok (.iaload, 1) := by decide +kernel
theorem dL_law_947 : decode cL_law 947 = .ok (.invokevirtual 129, 3) := by decide +kernel
theorem dL_law_950 : decode cL_law 950 = .ok (.istore 6, 2) := by decide +kernel
theorem dL_law_952 : decode cL_law 952 = .ok (.aload_n 2, 1) := by decide +kernel
theorem dL_law_953 : decode cL_law 953 = .ok (.invokevirtual 91, 3) := by decide +kernel
theorem dL_law_956 : decode cL_law 956 = .ok (.iload 5, 2) := by decide +kernel
theorem dL_law_958 : decode cL_law 958 = .ok (.if_icmp .eq 5, 3) := by decide +kernel
theorem dL_law_961 : decode cL_law 961 = .ok (.iconst 0, 1) := by decide +kernel
theorem dL_law_962 : decode cL_law 962 = .ok (.ireturn, 1) := by decide +kernel
theorem dL_law_963 : decode cL_law 963 = .ok (.iload 5, 2) := by decide +kernel
theorem dL_law_965 : decode cL_law 965 = .ok (.ifCond .ne 15, 3) := by decide +kernel
theorem dL_law_968 : decode cL_law 968 = .ok (.aload_n 3, 1) := by decide +kernel
theorem dL_law_969 : decode cL_law 969 = .ok (.iconst 0, 1) := by decide +kernel
theorem dL_law_970 : decode cL_law 970 = .ok (.laload, 1) := by decide +kernel
theorem dL_law_971 : decode cL_law 971 = .ok (.iload 6, 2) := by decide +kernel
theorem dL_law_973 : decode cL_law 973 = .ok (.i2l, 1) := by decide +kernel
theorem dL_law_974 : decode cL_law 974 = .ok (.lcmp, 1) := by decide +kernel
theorem dL_law_975 : decode cL_law 975 = .ok (.ifCond .eq 5, 3) := by decide +kernel
theorem dL_law_978 : decode cL_law 978 = .ok (.iconst 0, 1) := by decide +kernel
theorem dL_law_979 : decode cL_law 979 = .ok (.ireturn, 1) := by decide +kernel
theorem dL_law_980 : decode cL_law 980 = .ok (.goto 431, 3) := by decide +kernel
theorem dL_law_983 : decode cL_law 983 = .ok (.aload_n 1, 1) := by decide +kernel
theorem dL_law_984 : decode cL_law 984 = .ok (.aload_n 0, 1) := by decide +kernel
theorem dL_law_985 : decode cL_law 985 = .ok (.iload 4, 2) := by decide +kernel
theorem dL_law_987 : decode cL_law 987 = .ok (.iconst 1, 1) := by decide +kernel
theorem dL_law_988 : decode cL_law 988 = .ok (.iadd, 1) := by decide +kernel
theorem dL_law_989 : decode cL_law 989 = .ok (.iaload, 1) := by decide +kernel
theorem dL_law_990 : decode cL_law 990 = .ok (.aload_n 3, 1) := by decide +kernel
theorem dL_law_991 : decode cL_law 991 = .ok (.invokestatic 130, 3) := by decide +kernel
theorem dL_law_994 : decode cL_law 994 = .ok (.istore 5, 2) := by decide +kernel
theorem dL_law_996 : decode cL_law 996 = .ok (.aload_n 2, 1) := by decide +kernel
theorem dL_law_997 : decode cL_law 997 = .ok (.aload_n 0, 1) := by decide +kernel
theorem dL_law_998 : decode cL_law 998 = .ok (.iload 4, 2) := by decide +kernel
theorem dL_law_1000 : decode cL_law 1000 = .ok (.iconst 1, 1) := by decide +kernel
theorem dL_law_1001 : decode cL_law 1001 = .ok (.iadd, 1) := by decide +kernel
theorem dL_law_1002 : decode cL_law 1002 = .ok (.iaload, 1) := by decide +kernel
theorem dL_law_1003 : decode cL_law 1003 = .ok (.invokevirtual 132, 3) := by decide +kernel
theorem dL_law_1006 : decode cL_law 1006 = .ok (.istore 6, 2) := by decide +kernel
theorem dL_law_1008 : decode cL_law 1008 = .ok (.aload_n 2, 1) := by decide +kernel
theorem dL_law_1009 : decode cL_law 1009 = .ok (.invokevirtual 91, 3) := by decide +kernel
theorem dL_law_1012 : decode cL_law 1012 = .ok (.iload 5, 2) := by decide +kernel
theorem dL_law_1014 : decode cL_law 1014 = .ok (.if_icmp .eq 5, 3) := by decide +kernel
theorem dL_law_1017 : decode cL_law 1017 = .ok (.iconst 0, 1) := by decide +kernel
theorem dL_law_1018 : decode cL_law 1018 = .ok (.ireturn, 1) := by decide +kernel
theorem dL_law_1019 : decode cL_law 1019 = .ok (.iload 5, 2) := by decide +kernel
theorem dL_law_1021 : decode cL_law 1021 = .ok (.ifCond .ne 15, 3) := by decide +kernel
theorem dL_law_1024 : decode cL_law 1024 = .ok (.aload_n 3, 1) := by decide +kernel
theorem dL_law_1025 : decode cL_law 1025 = .ok (.iconst 0, 1) := by decide +kernel
theorem dL_law_1026 : decode cL_law 1026 = .ok (.laload, 1) := by decide +kernel
theorem dL_law_1027 : decode cL_law 1027 = .ok (.iload 6, 2) := by decide +kernel
theorem dL_law_1029 : decode cL_law 1029 = .ok (.i2l, 1) := by decide +kernel
theorem dL_law_1030 : decode cL_law 1030 = .ok (.lcmp, 1) := by decide +kernel
theorem dL_law_1031 : decode cL_law 1031 = .ok (.ifCond .eq 5, 3) := by decide +kernel
theorem dL_law_1034 : decode cL_law 1034 = .ok (.iconst 0, 1) := by decide +kernel
theorem dL_law_1035 : decode cL_law 1035 = .ok (.ireturn, 1) := by decide +kernel
theorem dL_law_1036 : decode cL_law 1036 = .ok (.goto 375, 3) := by decide +kernel
theorem dL_law_1039 : decode cL_law 1039 = .ok (.aload_n 1, 1) := by decide +kernel
theorem dL_law_1040 : decode cL_law 1040 = .ok (.aload_n 0, 1) := by decide +kernel
theorem dL_law_1041 : decode cL_law 1041 = .ok (.iload 4, 2) := by decide +kernel
theorem dL_law_1043 : decode cL_law 1043 = .ok (.iconst 1, 1) := by decide +kernel
theorem dL_law_1044 : decode cL_law 1044 = .ok (.iadd, 1) := by decide +kernel
theorem dL_law_1045 : decode cL_law 1045 = .ok (.iaload, 1) := by decide +kernel
theorem dL_law_1046 : decode cL_law 1046 = .ok (.aload_n 0, 1) := by decide +kernel
theorem dL_law_1047 : decode cL_law 1047 = .ok (.iload 4, 2) := by decide +kernel
theorem dL_law_1049 : decode cL_law 1049 = .ok (.iconst 2, 1) := by decide +kernel
theorem dL_law_1050 : decode cL_law 1050 = .ok (.iadd, 1) := by decide +kernel
theorem dL_law_1051 : decode cL_law 1051 = .ok (.iaload, 1) := by decide +kernel
theorem dL_law_1052 : decode cL_law 1052 = .ok (.aload_n 3, 1) := by decide +kernel
theorem dL_law_1053 : decode cL_law 1053 = .ok (.invokestatic 133, 3) := by decide +kernel
theorem dL_law_1056 : decode cL_law 1056 = .ok (.istore 5, 2) := by decide +kernel
theorem dL_law_1058 : decode cL_law 1058 = .ok (.aload_n 2, 1) := by decide +kernel
theorem dL_law_1059 : decode cL_law 1059 = .ok (.aload_n 0, 1) := by decide +kernel
theorem dL_law_1060 : decode cL_law 1060 = .ok (.iload 4, 2) := by decide +kernel
theorem dL_law_1062 : decode cL_law 1062 = .ok (.iconst 1, 1) := by decide +kernel
theorem dL_law_1063 : decode cL_law 1063 = .ok (.iadd, 1) := by decide +kernel
theorem dL_law_1064 : decode cL_law 1064 = .ok (.iaload, 1) := by decide +kernel
theorem dL_law_1065 : decode cL_law 1065 = .ok (.aload_n 0, 1) := by decide +kernel
theorem dL_law_1066 : decode cL_law 1066 = .ok (.iload 4, 2) := by decide +kernel
theorem dL_law_1068 : decode cL_law 1068 = .ok (.iconst 2, 1) := by decide +kernel
theorem dL_law_1069 : decode cL_law 1069 = .ok (.iadd, 1) := by decide +kernel
theorem dL_law_1070 : decode cL_law 1070 = .ok (.iaload, 1) := by decide +kernel
theorem dL_law_1071 : decode cL_law 1071 = .ok (.invokevirtual 135, 3) := by decide +kernel
theorem dL_law_1074 : decode cL_law 1074 = .ok (.istore 6, 2) := by decide +kernel
theorem dL_law_1076 : decode cL_law 1076 = .ok (.aload_n 2, 1) := by decide +kernel
theorem dL_law_1077 : decode cL_law 1077 = .ok (.invokevirtual 91, 3) := by decide +kernel
theorem dL_law_1080 : decode cL_law 1080 = .ok (.iload 5, 2) := by decide +kernel
theorem dL_law_1082 : decode cL_law 1082 = .ok (.if_icmp .eq 5, 3) := by decide +kernel
theorem dL_law_1085 : decode cL_law 1085 = .ok (.iconst 0, 1) := by decide +kernel
theorem dL_law_1086 : decode cL_law 1086 = .ok (.ireturn, 1) := by decide +kernel
theorem dL_law_1087 : decode cL_law 1087 = .ok (.iload 5, 2) := by decide +kernel
theorem dL_law_1089 : decode cL_law 1089 = .ok (.ifCond .ne 15, 3) := by decide +kernel
theorem dL_law_1092 : decode cL_law 1092 = .ok (.aload_n 3, 1) := by decide +kernel
theorem dL_law_1093 : decode cL_law 1093 = .ok (.iconst 0, 1) := by decide +kernel
theorem dL_law_1094 : decode cL_law 1094 = .ok (.laload, 1) := by decide +kernel
theorem dL_law_1095 : decode cL_law 1095 = .ok (.iload 6, 2) := by decide +kernel
theorem dL_law_1097 : decode cL_law 1097 = .ok (.i2l, 1) := by decide +kernel
theorem dL_law_1098 : decode cL_law 1098 = .ok (.lcmp, 1) := by decide +kernel
theorem dL_law_1099 : decode cL_law 1099 = .ok (.ifCond .eq 5, 3) := by decide +kernel
theorem dL_law_1102 : decode cL_law 1102 = .ok (.iconst 0, 1) := by decide +kernel
theorem dL_law_1103 : decode cL_law 1103 = .ok (.ireturn, 1) := by decide +kernel
theorem dL_law_1104 : decode cL_law 1104 = .ok (.goto 307, 3) := by decide +kernel
theorem dL_law_1107 : decode cL_law 1107 = .ok (.aload_n 1, 1) := by decide +kernel
theorem dL_law_1108 : decode cL_law 1108 = .ok (.invokevirtual 136, 3) := by decide +kernel
theorem dL_law_1111 : decode cL_law 1111 = .ok (.aload_n 2, 1) := by decide +kernel
theorem dL_law_1112 : decode cL_law 1112 = .ok (.invokevirtual 139, 3) := by decide +kernel
theorem dL_law_1115 : decode cL_law 1115 = .ok (.if_icmp .eq 296, 3) := by decide +kernel
theorem dL_law_1118 : decode cL_law 1118 = .ok (.iconst 0, 1) := by decide +kernel
theorem dL_law_1119 : decode cL_law 1119 = .ok (.ireturn, 1) := by decide +kernel
theorem dL_law_1120 : decode cL_law 1120 = .ok (.aload_n 1, 1) := by decide +kernel
theorem dL_law_1121 : decode cL_law 1121 = .ok (.aload_n 0, 1) := by decide +kernel
theorem dL_law_1122 : decode cL_law 1122 = .ok (.iload 4, 2) := by decide +kernel
theorem dL_law_1124 : decode cL_law 1124 = .ok (.iconst 1, 1) := by decide +kernel
theorem dL_law_1125 : decode cL_law 1125 = .ok (.iadd, 1) := by decide +kernel
theorem dL_law_1126 : decode cL_law 1126 = .ok (.iaload, 1) := by decide +kernel
theorem dL_law_1127 : decode cL_law 1127 = .ok (.aload_n 3, 1) := by decide +kernel
theorem dL_law_1128 : decode cL_law 1128 = .ok (.invokestatic 140, 3) := by decide +kernel
theorem dL_law_1131 : decode cL_law 1131 = .ok (.istore 5, 2) := by decide +kernel
theorem dL_law_1133 : decode cL_law 1133 = .ok (.aload_n 2, 1) := by decide +kernel
theorem dL_law_1134 : decode cL_law 1134 = .ok (.aload_n 0, 1) := by decide +kernel
theorem dL_law_1135 : decode cL_law 1135 = .ok (.iload 4, 2) := by decide +kernel
theorem dL_law_1137 : decode cL_law 1137 = .ok (.iconst 1, 1) := by decide +kernel
theorem dL_law_1138 : decode cL_law 1138 = .ok (.iadd, 1) := by decide +kernel
theorem dL_law_1139 : decode cL_law 1139 = .ok (.iaload, 1) := by decide +kernel
theorem dL_law_1140 : decode cL_law 1140 = .ok (.invokevirtual 142, 3) := by decide +kernel
theorem dL_law_1143 : decode cL_law 1143 = .ok (.lstore 6, 2) := by decide +kernel
theorem dL_law_1145 : decode cL_law 1145 = .ok (.aload_n 2, 1) := by decide +kernel
theorem dL_law_1146 : decode cL_law 1146 = .ok (.invokevirtual 91, 3) := by decide +kernel
theorem dL_law_1149 : decode cL_law 1149 = .ok (.iload 5, 2) := by decide +kernel
theorem dL_law_1151 : decode cL_law 1151 = .ok (.if_icmp .eq 5, 3) := by decide +kernel
theorem dL_law_1154 : decode cL_law 1154 = .ok (.iconst 0, 1) := by decide +kernel
theorem dL_law_1155 : decode cL_law 1155 = .ok (.ireturn, 1) := by decide +kernel
theorem dL_law_1156 : decode cL_law 1156 = .ok (.iload 5, 2) := by decide +kernel
theorem dL_law_1158 : decode cL_law 1158 = .ok (.ifCond .ne 14, 3) := by decide +kernel
theorem dL_law_1161 : decode cL_law 1161 = .ok (.aload_n 3, 1) := by decide +kernel
theorem dL_law_1162 : decode cL_law 1162 = .ok (.iconst 0, 1) := by decide +kernel
theorem dL_law_1163 : decode cL_law 1163 = .ok (.laload, 1) := by decide +kernel
theorem dL_law_1164 : decode cL_law 1164 = .ok (.lload 6, 2) := by decide +kernel
theorem dL_law_1166 : decode cL_law 1166 = .ok (.lcmp, 1) := by decide +kernel
theorem dL_law_1167 : decode cL_law 1167 = .ok (.ifCond .eq 5, 3) := by decide +kernel
theorem dL_law_1170 : decode cL_law 1170 = .ok (.iconst 0, 1) := by decide +kernel
theorem dL_law_1171 : decode cL_law 1171 = .ok (.ireturn, 1) := by decide +kernel
theorem dL_law_1172 : decode cL_law 1172 = .ok (.goto 239, 3) := by decide +kernel
theorem dL_law_1175 : decode cL_law 1175 = .ok (.aload_n 1, 1) := by decide +kernel
theorem dL_law_1176 : decode cL_law 1176 = .ok (.aload_n 3, 1) := by decide +kernel
theorem dL_law_1177 : decode cL_law 1177 = .ok (.invokestatic 143, 3) := by decide +kernel
theorem dL_law_1180 : decode cL_law 1180 = .ok (.istore 5, 2) := by decide +kernel
theorem dL_law_1182 : decode cL_law 1182 = .ok (.aload_n 2, 1) := by decide +kernel
theorem dL_law_1183 : decode cL_law 1183 = .ok (.invokevirtual 145, 3) := by decide +kernel
theorem dL_law_1186 : decode cL_law 1186 = .ok (.istore 6, 2) := by decide +kernel
theorem dL_law_1188 : decode cL_law 1188 = .ok (.aload_n 2, 1) := by decide +kernel
theorem dL_law_1189 : decode cL_law 1189 = .ok (.invokevirtual 91, 3) := by decide +kernel
theorem dL_law_1192 : decode cL_law 1192 = .ok (.iload 5, 2) := by decide +kernel
theorem dL_law_1194 : decode cL_law 1194 = .ok (.if_icmp .eq 5, 3) := by decide +kernel
theorem dL_law_1197 : decode cL_law 1197 = .ok (.iconst 0, 1) := by decide +kernel
theorem dL_law_1198 : decode cL_law 1198 = .ok (.ireturn, 1) := by decide +kernel
theorem dL_law_1199 : decode cL_law 1199 = .ok (.iload 5, 2) := by decide +kernel
theorem dL_law_1201 : decode cL_law 1201 = .ok (.ifCond .ne 15, 3) := by decide +kernel
theorem dL_law_1204 : decode cL_law 1204 = .ok (.aload_n 3, 1) := by decide +kernel
theorem dL_law_1205 : decode cL_law 1205 = .ok (.iconst 0, 1) := by decide +kernel
theorem dL_law_1206 : decode cL_law 1206 = .ok (.laload, 1) := by decide +kernel
theorem dL_law_1207 : decode cL_law 1207 = .ok (.iload 6, 2) := by decide +kernel
theorem dL_law_1209 : decode cL_law 1209 = .ok (.i2l, 1) := by decide +kernel
theorem dL_law_1210 : decode cL_law 1210 = .ok (.lcmp, 1) := by decide +kernel
theorem dL_law_1211 : decode cL_law 1211 = .ok (.ifCond .eq 5, 3) := by decide +kernel
theorem dL_law_1214 : decode cL_law 1214 = .ok (.iconst 0, 1) := by decide +kernel
theorem dL_law_1215 : decode cL_law 1215 = .ok (.ireturn, 1) := by decide +kernel
theorem dL_law_1216 : decode cL_law 1216 = .ok (.goto 195, 3) := by decide +kernel
theorem dL_law_1219 : decode cL_law 1219 = .ok (.aload_n 1, 1) := by decide +kernel
theorem dL_law_1220 : decode cL_law 1220 = .ok (.aload_n 0, 1) := by decide +kernel
theorem dL_law_1221 : decode cL_law 1221 = .ok (.iload 4, 2) := by decide +kernel
theorem dL_law_1223 : decode cL_law 1223 = .ok (.iconst 1, 1) := by decide +kernel
theorem dL_law_1224 : decode cL_law 1224 = .ok (.iadd, 1) := by decide +kernel
theorem dL_law_1225 : decode cL_law 1225 = .ok (.iaload, 1) := by decide +kernel
theorem dL_law_1226 : decode cL_law 1226 = .ok (.aload_n 0, 1) := by decide +kernel
theorem dL_law_1227 : decode cL_law 1227 = .ok (.iload 4, 2) := by decide +kernel
theorem dL_law_1229 : decode cL_law 1229 = .ok (.iconst 2, 1) := by decide +kernel
theorem dL_law_1230 : decode cL_law 1230 = .ok (.iadd, 1) := by decide +kernel
theorem dL_law_1231 : decode cL_law 1231 = .ok (.iaload, 1) := by decide +kernel
theorem dL_law_1232 : decode cL_law 1232 = .ok (.aload_n 3, 1) := by decide +kernel
theorem dL_law_1233 : decode cL_law 1233 = .ok (.invokestatic 146, 3) := by decide +kernel
theorem dL_law_1236 : decode cL_law 1236 = .ok (.istore 5, 2) := by decide +kernel
theorem dL_law_1238 : decode cL_law 1238 = .ok (.aload_n 2, 1) := by decide +kernel
theorem dL_law_1239 : decode cL_law 1239 = .ok (.aload_n 0, 1) := by decide +kernel
theorem dL_law_1240 : decode cL_law 1240 = .ok (.iload 4, 2) := by decide +kernel
theorem dL_law_1242 : decode cL_law 1242 = .ok (.iconst 1, 1) := by decide +kernel
theorem dL_law_1243 : decode cL_law 1243 = .ok (.iadd, 1) := by decide +kernel
theorem dL_law_1244 : decode cL_law 1244 = .ok (.iaload, 1) := by decide +kernel
theorem dL_law_1245 : decode cL_law 1245 = .ok (.aload_n 0, 1) := by decide +kernel
theorem dL_law_1246 : decode cL_law 1246 = .ok (.iload 4, 2) := by decide +kernel
theorem dL_law_1248 : decode cL_law 1248 = .ok (.iconst 2, 1) := by decide +kernel
theorem dL_law_1249 : decode cL_law 1249 = .ok (.iadd, 1) := by decide +kernel
theorem dL_law_1250 : decode cL_law 1250 = .ok (.iaload, 1) := by decide +kernel
theorem dL_law_1251 : decode cL_law 1251 = .ok (.invokevirtual 148, 3) := by decide +kernel
theorem dL_law_1254 : decode cL_law 1254 = .ok (.istore 6, 2) := by decide +kernel
theorem dL_law_1256 : decode cL_law 1256 = .ok (.aload_n 2, 1) := by decide +kernel
theorem dL_law_1257 : decode cL_law 1257 = .ok (.invokevirtual 91, 3) := by decide +kernel
theorem dL_law_1260 : decode cL_law 1260 = .ok (.iload 5, 2) := by decide +kernel
theorem dL_law_1262 : decode cL_law 1262 = .ok (.if_icmp .eq 5, 3) := by decide +kernel
theorem dL_law_1265 : decode cL_law 1265 = .ok (.iconst 0, 1) := by decide +kernel
theorem dL_law_1266 : decode cL_law 1266 = .ok (.ireturn, 1) := by decide +kernel
theorem dL_law_1267 : decode cL_law 1267 = .ok (.iload 5, 2) := by decide +kernel
theorem dL_law_1269 : decode cL_law 1269 = .ok (.ifCond .ne 15, 3) := by decide +kernel
theorem dL_law_1272 : decode cL_law 1272 = .ok (.aload_n 3, 1) := by decide +kernel
theorem dL_law_1273 : decode cL_law 1273 = .ok (.iconst 0, 1) := by decide +kernel
theorem dL_law_1274 : decode cL_law 1274 = .ok (.laload, 1) := by decide +kernel
theorem dL_law_1275 : decode cL_law 1275 = .ok (.iload 6, 2) := by decide +kernel
theorem dL_law_1277 : decode cL_law 1277 = .ok (.i2l, 1) := by decide +kernel
theorem dL_law_1278 : decode cL_law 1278 = .ok (.lcmp, 1) := by decide +kernel
theorem dL_law_1279 : decode cL_law 1279 = .ok (.ifCond .eq 5, 3) := by decide +kernel
theorem dL_law_1282 : decode cL_law 1282 = .ok (.iconst 0, 1) := by decide +kernel
theorem dL_law_1283 : decode cL_law 1283 = .ok (.ireturn, 1) := by decide +kernel
theorem dL_law_1284 : decode cL_law 1284 = .ok (.goto 127, 3) := by decide +kernel
theorem dL_law_1287 : decode cL_law 1287 = .ok (.aload_n 1, 1) := by decide +kernel
theorem dL_law_1288 : decode cL_law 1288 = .ok (.aload_n 0, 1) := by decide +kernel
theorem dL_law_1289 : decode cL_law 1289 = .ok (.iload 4, 2) := by decide +kernel
theorem dL_law_1291 : decode cL_law 1291 = .ok (.iconst 1, 1) := by decide +kernel
theorem dL_law_1292 : decode cL_law 1292 = .ok (.iadd, 1) := by decide +kernel
theorem dL_law_1293 : decode cL_law 1293 = .ok (.iaload, 1) := by decide +kernel
theorem dL_law_1294 : decode cL_law 1294 = .ok (.aload_n 0, 1) := by decide +kernel
theorem dL_law_1295 : decode cL_law 1295 = .ok (.iload 4, 2) := by decide +kernel
theorem dL_law_1297 : decode cL_law 1297 = .ok (.iconst 2, 1) := by decide +kernel
theorem dL_law_1298 : decode cL_law 1298 = .ok (.iadd, 1) := by decide +kernel
theorem dL_law_1299 : decode cL_law 1299 = .ok (.iaload, 1) := by decide +kernel
theorem dL_law_1300 : decode cL_law 1300 = .ok (.aload_n 3, 1) := by decide +kernel
theorem dL_law_1301 : decode cL_law 1301 = .ok (.invokestatic 149, 3) := by decide +kernel
theorem dL_law_1304 : decode cL_law 1304 = .ok (.istore 5, 2) := by decide +kernel
theorem dL_law_1306 : decode cL_law 1306 = .ok (.aload_n 2, 1) := by decide +kernel
theorem dL_law_1307 : decode cL_law 1307 = .ok (.aload_n 0, 1) := by decide +kernel
theorem dL_law_1308 : decode cL_law 1308 = .ok (.iload 4, 2) := by decide +kernel
theorem dL_law_1310 : decode cL_law 1310 = .ok (.iconst 1, 1) := by decide +kernel
theorem dL_law_1311 : decode cL_law 1311 = .ok (.iadd, 1) := by decide +kernel
theorem dL_law_1312 : decode cL_law 1312 = .ok (.iaload, 1) := by decide +kernel
theorem dL_law_1313 : decode cL_law 1313 = .ok (.aload_n 0, 1) := by decide +kernel
theorem dL_law_1314 : decode cL_law 1314 = .ok (.iload 4, 2) := by decide +kernel
theorem dL_law_1316 : decode cL_law 1316 = .ok (.iconst 2, 1) := by decide +kernel
theorem dL_law_1317 : decode cL_law 1317 = .ok (.iadd, 1) := by decide +kernel
theorem dL_law_1318 : decode cL_law 1318 = .ok (.iaload, 1) := by decide +kernel
theorem dL_law_1319 : decode cL_law 1319 = .ok (.invokevirtual 151, 3) := by decide +kernel
theorem dL_law_1322 : decode cL_law 1322 = .ok (.istore 6, 2) := by decide +kernel
theorem dL_law_1324 : decode cL_law 1324 = .ok (.aload_n 2, 1) := by decide +kernel
theorem dL_law_1325 : decode cL_law 1325 = .ok (.invokevirtual 91, 3) := by decide +kernel
theorem dL_law_1328 : decode cL_law 1328 = .ok (.iload 5, 2) := by decide +kernel
theorem dL_law_1330 : decode cL_law 1330 = .ok (.if_icmp .eq 5, 3) := by decide +kernel
theorem dL_law_1333 : decode cL_law 1333 = .ok (.iconst 0, 1) := by decide +kernel
theorem dL_law_1334 : decode cL_law 1334 = .ok (.ireturn, 1) := by decide +kernel
theorem dL_law_1335 : decode cL_law 1335 = .ok (.iload 5, 2) := by decide +kernel
theorem dL_law_1337 : decode cL_law 1337 = .ok (.ifCond .ne 15, 3) := by decide +kernel
theorem dL_law_1340 : decode cL_law 1340 = .ok (.aload_n 3, 1) := by decide +kernel
theorem dL_law_1341 : decode cL_law 1341 = .ok (.iconst 0, 1) := by decide +kernel
theorem dL_law_1342 : decode cL_law 1342 = .ok (.laload, 1) := by decide +kernel
theorem dL_law_1343 : decode cL_law 1343 = .ok (.iload 6, 2) := by decide +kernel
theorem dL_law_1345 : decode cL_law 1345 = .ok (.i2l, 1) := by decide +kernel
theorem dL_law_1346 : decode cL_law 1346 = .ok (.lcmp, 1) := by decide +kernel
theorem dL_law_1347 : decode cL_law 1347 = .ok (.ifCond .eq 5, 3) := by decide +kernel
theorem dL_law_1350 : decode cL_law 1350 = .ok (.iconst 0, 1) := by decide +kernel
theorem dL_law_1351 : decode cL_law 1351 = .ok (.ireturn, 1) := by decide +kernel
theorem dL_law_1352 : decode cL_law 1352 = .ok (.goto 59, 3) := by decide +kernel
theorem dL_law_1355 : decode cL_law 1355 = .ok (.aload_n 1, 1) := by decide +kernel
theorem dL_law_1356 : decode cL_law 1356 = .ok (.aload_n 0, 1) := by decide +kernel
theorem dL_law_1357 : decode cL_law 1357 = .ok (.iload 4, 2) := by decide +kernel
theorem dL_law_1359 : decode cL_law 1359 = .ok (.iconst 1, 1) := by decide +kernel
theorem dL_law_1360 : decode cL_law 1360 = .ok (.iadd, 1) := by decide +kernel
theorem dL_law_1361 : decode cL_law 1361 = .ok (.iaload, 1) := by decide +kernel
theorem dL_law_1362 : decode cL_law 1362 = .ok (.aload_n 3, 1) := by decide +kernel
theorem dL_law_1363 : decode cL_law 1363 = .ok (.invokestatic 152, 3) := by decide +kernel
theorem dL_law_1366 : decode cL_law 1366 = .ok (.istore 5, 2) := by decide +kernel
theorem dL_law_1368 : decode cL_law 1368 = .ok (.aload_n 2, 1) := by decide +kernel
theorem dL_law_1369 : decode cL_law 1369 = .ok (.aload_n 0, 1) := by decide +kernel
theorem dL_law_1370 : decode cL_law 1370 = .ok (.iload 4, 2) := by decide +kernel
theorem dL_law_1372 : decode cL_law 1372 = .ok (.iconst 1, 1) := by decide +kernel
theorem dL_law_1373 : decode cL_law 1373 = .ok (.iadd, 1) := by decide +kernel
theorem dL_law_1374 : decode cL_law 1374 = .ok (.iaload, 1) := by decide +kernel
theorem dL_law_1375 : decode cL_law 1375 = .ok (.invokevirtual 154, 3) := by decide +kernel
theorem dL_law_1378 : decode cL_law 1378 = .ok (.istore 6, 2) := by decide +kernel
theorem dL_law_1380 : decode cL_law 1380 = .ok (.aload_n 2, 1) := by decide +kernel
theorem dL_law_1381 : decode cL_law 1381 = .ok (.invokevirtual 91, 3) := by decide +kernel
theorem dL_law_1384 : decode cL_law 1384 = .ok (.iload 5, 2) := by decide +kernel
theorem dL_law_1386 : decode cL_law 1386 = .ok (.if_icmp .eq 5, 3) := by decide +kernel
theorem dL_law_1389 : decode cL_law 1389 = .ok (.iconst 0, 1) := by decide +kernel
theorem dL_law_1390 : decode cL_law 1390 = .ok (.ireturn, 1) := by decide +kernel
theorem dL_law_1391 : decode cL_law 1391 = .ok (.iload 5, 2) := by decide +kernel
theorem dL_law_1393 : decode cL_law 1393 = .ok (.ifCond .ne 15, 3) := by decide +kernel
theorem dL_law_1396 : decode cL_law 1396 = .ok (.aload_n 3, 1) := by decide +kernel
theorem dL_law_1397 : decode cL_law 1397 = .ok (.iconst 0, 1) := by decide +kernel
theorem dL_law_1398 : decode cL_law 1398 = .ok (.laload, 1) := by decide +kernel
theorem dL_law_1399 : decode cL_law 1399 = .ok (.iload 6, 2) := by decide +kernel
theorem dL_law_1401 : decode cL_law 1401 = .ok (.i2l, 1) := by decide +kernel
theorem dL_law_1402 : decode cL_law 1402 = .ok (.lcmp, 1) := by decide +kernel
theorem dL_law_1403 : decode cL_law 1403 = .ok (.ifCond .eq 5, 3) := by decide +kernel
theorem dL_law_1406 : decode cL_law 1406 = .ok (.iconst 0, 1) := by decide +kernel
theorem dL_law_1407 : decode cL_law 1407 = .ok (.ireturn, 1) := by decide +kernel
theorem dL_law_1408 : decode cL_law 1408 = .ok (.goto 3, 3) := by decide +kernel
theorem dL_law_1411 : decode cL_law 1411 = .ok (.iinc 4 4, 3) := by decide +kernel
theorem dL_law_1414 : decode cL_law 1414 = .ok (.goto (-1391), 3) := by decide +kernel
theorem dL_law_1417 : decode cL_law 1417 = .ok (.iconst 1, 1) := by decide +kernel
theorem dL_law_1418 : decode cL_law 1418 = .ok (.ireturn, 1) := by decide +kernel
end
section
theorem gw_good {w : Cond} (h : w ∈ gw) : (w.onTables && w.keeps) = true ∨ ∃ ty, w = .arrayClass ty := good_of_word (List.mem_filter.mp h).2
theorem gwC {y : MethodName} {bytes : ByteArray} {maxL : Nat} {ret : Option FieldType} (h5 : Cond.code y bytes maxL ret ∈ gw) : GoodIn gw (Cond.code y bytes maxL ret :: gw) := by
  intro w hw
  have key : w ∈ gw := by
    rcases List.mem_cons.mp hw with rfl | h
    · exact h5
    · exact h
  exact ⟨key, gw_good key⟩
theorem gwV {own C : String} {idx : Nat} {y : MethodName} {bytes : ByteArray} {maxL : Nat} {ret : Option FieldType} (h1 : Cond.methodLink own idx y ∈ gw) (h2 : Cond.instanceMethod y ∈ gw) (h3 : Cond.selects C y y ∈ gw) (h4 : Cond.initialized C ∈ gw) (h5 : Cond.code y bytes maxL ret ∈ gw) : GoodIn gw (wsV own idx C y (Cond.code y bytes maxL ret :: gw)) := by
  intro w hw
  have key : w ∈ gw := by
    unfold wsV at hw
    simp only [List.cons_append, List.nil_append, List.mem_cons] at hw
    rcases hw with rfl | rfl | rfl | rfl | rfl | h
    · exact h1
    · exact h2
    · exact h3
    · exact h4
    · exact h5
    · exact h
  exact ⟨key, gw_good key⟩
theorem gwS {own : String} {idx : Nat} {y : MethodName} {bytes : ByteArray} {maxL : Nat} {ret : Option FieldType} (h1 : Cond.methodLink own idx y ∈ gw) (h2 : Cond.static y ∈ gw) (h4 : Cond.initialized own ∈ gw) (h5 : Cond.code y bytes maxL ret ∈ gw) : GoodIn gw (wsS own idx y (Cond.code y bytes maxL ret :: gw)) := by
  intro w hw
  have key : w ∈ gw := by
    unfold wsS at hw
    simp only [List.cons_append, List.nil_append, List.mem_cons] at hw
    rcases hw with rfl | rfl | rfl | rfl | h
    · exact h1
    · exact h2
    · exact h4
    · exact h5
    · exact h
  exact ⟨key, gw_good key⟩
/-- a start that asks for cells alone -/
abbrev PcR (av : List Value) (D : va_G) (cl : List vw_C) (ws : va_W) (tys : List (ClassId × FieldType)) : Array Value → State → Prop := va_Pc av (fun U => va_P D cl ws U.heap ∧ va_K D cl tys U)
/-- a start that asks for nothing -/
abbrev PcS (av : List Value) : Array Value → State → Prop := va_Pc av (fun _ => True)
section CW
variable {p : Program} {l : Launch} {e : Env} {R : Room} {s : State} {m : MethodId} {args : Array Value} {below : List Frame} {meth : Method} {c : Code} {H : Heap} {locs : List Loc} {cells slots : Nat} {Q : State → Prop} {pc : Nat} {ls : Array Slot} {rest st0 As : List Value} {cc bytes : ByteArray} {D : va_G} {cl : List vw_C} {ws : va_W} {tys : List (ClassId × FieldType)} {nL maxL idx n : Nat} {own C : String} {y : MethodName} {ret : Option FieldType} {rm : Room} {b : Nat}
theorem rdV {v : Option Value} (hx : p.tables.exec = Jvm.exec) (hb : c.code = cc) (hml : c.maxLocals = nL) (hown : s.vm.findClass own = some m.cls) (hg : ∀ w ∈ gw, w.before args s = true)
    (hM : Met l y (Cond.code y bytes maxL ret :: gw) rm (PcR (.ref b :: As) D cl ws tys) (RdQ v) 0 0 (fun _ => False))
    (hG : GoodIn gw (wsV own idx C y (Cond.code y bytes maxL ret :: gw))) (hrc : rm.cells = 0) (hrs : rm.slots = 0)
    (hd : y.cls = C ∧ y.cls ≠ "java/lang/invoke/MethodHandle" ∧ y.cls ≠ "java/lang/invoke/VarHandle" ∧ (parseMethodDescriptor y.desc).map (fun d => d.parameters.length) = some n) (hR : rm.frames + 1 ≤ R.frames ∧ 8 + (maxL + 11) + rm.locals ≤ R.locals)
    (hK : va_K D cl tys s) (hP : va_P D cl ws H) {ci : Nat} (q0 : Nat) {fs : List Value} {r : vw_C} (he : ws[q0]? = some (b, .inr (ci, fs))) (hc : cl[ci]? = some r) (hC : r.1 = C)
    (hn : As.length = n) (hsize : ls.size = nL) (hst : st0 = As.reverse ++ .ref b :: rest) (hW : (rest.map fun v => v.category).sum ≤ 8) (hdg : decode cc pc = .ok (.invokevirtual idx, 3)) (hf : cells ≤ R.cells ∧ slots ≤ R.slots)
    (kk : W p l e R s m args below meth c H locs cells slots Q (F0 m (pc + 3) ls (v.toList ++ rest))) : W p l e R s m args below meth c H locs cells slots Q (F0 m pc ls st0) := by
  subst hst
  subst hC
  refine zz_callR (va_runV (As := As) (rest := rest) ⟨hx, hb, hml, hown, hg⟩ hM (cwV n hg hG rfl hrc hrs hd hR) ⟨fun a U g mk q => ⟨q.1, q.2.1, va_K.moved (u := U) (U := U.calling g mk a) (Vm.Alike.refl U.vm) q.2.2⟩, va_recv hK hP (ci := ci) (q0 := q0) hc he, fun U hU hW => ⟨rfl, by rw [hU]; exact hP, va_K.moved hW.alike hK⟩⟩ rfl hn hsize rfl (lv_room hW) hdg hf) kk
theorem rdS {v : Option Value} (hx : p.tables.exec = Jvm.exec) (hb : c.code = cc) (hml : c.maxLocals = nL) (hown : s.vm.findClass own = some m.cls) (hg : ∀ w ∈ gw, w.before args s = true)
    (hM : Met l y (Cond.code y bytes maxL ret :: gw) rm (PcS As) (RdQ v) 0 0 (fun _ => False))
    (hG : GoodIn gw (wsS own idx y (Cond.code y bytes maxL ret :: gw))) (hrc : rm.cells = 0) (hrs : rm.slots = 0)
    (hd : y.cls = own ∧ y.cls ≠ "java/lang/invoke/MethodHandle" ∧ y.cls ≠ "java/lang/invoke/VarHandle" ∧ (parseMethodDescriptor y.desc).map (fun d => d.parameters.length) = some n) (hR : rm.frames + 1 ≤ R.frames ∧ 8 + (maxL + 11) + rm.locals ≤ R.locals)
    (hn : As.length = n) (hsize : ls.size = nL) (hst : st0 = As.reverse ++ rest) (hW : (rest.map fun v => v.category).sum ≤ 8) (hdg : decode cc pc = .ok (.invokestatic idx, 3)) (hf : cells ≤ R.cells ∧ slots ≤ R.slots)
    (kk : W p l e R s m args below meth c H locs cells slots Q (F0 m (pc + 3) ls (v.toList ++ rest))) : W p l e R s m args below meth c H locs cells slots Q (F0 m pc ls st0) := by
  subst hst
  refine zz_callR (va_runS (As := As) (rest := rest) ⟨hx, hb, hml, hown, hg⟩ hM (cwS n hg hG rfl hrc hrs hd hR) ⟨fun a U g mk q => q, fun U hU hW => ⟨rfl, trivial⟩⟩ rfl hn hsize rfl (lv_room hW) hdg hf) kk
theorem zz_aald (hexec : p.tables.exec = Jvm.exec) (hb : c.code = cc) (hK : va_K D cl tys s) (hP : va_P D cl ws H) (q0 t0 : Nat) {a : Nat} {cA : ClassId} {C : String} {n : Nat} {f : Nat → Option Nat} (ha : ws[q0]? = some (a, .inl (cA, n, .inr (.inr (.inr (.inr f)))))) (ht : tys[t0]? = some (cA, .object C)) {z : Int} (j : Nat) (hz : z = (j : Int)) (hj : j < n) (hn : n < 2147483648) (hdg : decode cc pc = .ok (.aaload, 1))
    (kk : W p l e R s m args below meth c H locs cells slots Q (F0 m (pc + 1) ls (va_rf (f j) :: rest))) : W p l e R s m args below meth c H locs cells slots Q (F0 m pc ls (.int (zi z) :: .ref a :: rest)) := by
  subst hz
  refine va_aldq hexec hb hK hP q0 t0 ha ht (zi_in hj hn) hdg ?_
  rw [zi_cl (by omega)]
  exact kk
/-- a method that reads ends: ints, longs -/
theorem rd_i {v : Int} (hx : p.tables.exec = Jvm.exec) (hb : c.code = cc) (hr : meth.sig.returnType = some .int) (hlocks : meth.locks = false) {v' : Int} (hv : v = v') (hdg : decode cc pc = .ok (.ireturn, 1)) : W p l e R s m args below meth c s.heap [] cells slots (MQ below (RdQ (some (.int (zi v')))) args s cells slots (fun _ => False)) (F0 m pc ls [.int (zi v)]) := by
  subst hv
  exact W.iret hx hb hr (fun t ht hW => ⟨rfl, ht⟩) (fun q h => by cases h) hdg hlocks
theorem rd_l {v : Int} (hx : p.tables.exec = Jvm.exec) (hb : c.code = cc) (hr : meth.sig.returnType = some .long) (hlocks : meth.locks = false) {v' : Int} (hv : v = v') (hdg : decode cc pc = .ok (.lreturn, 1)) : W p l e R s m args below meth c s.heap [] cells slots (MQ below (RdQ (some (.long (zl v')))) args s cells slots (fun _ => False)) (F0 m pc ls [.long (zl v)]) := by
  subst hv
  exact W.lret hx hb hr (fun t ht hW => ⟨rfl, ht⟩) (fun q h => by cases h) hdg hlocks
theorem rd_z {v : Int} (hx : p.tables.exec = Jvm.exec) (hb : c.code = cc) (hr : meth.sig.returnType = some .boolean) (hlocks : meth.locks = false) {v' : Int} (hv : v = v') (h01 : v = 0 ∨ v = 1) (hdg : decode cc pc = .ok (.ireturn, 1)) : W p l e R s m args below meth c s.heap [] cells slots (MQ below (RdQ (some (.int (zi v')))) args s cells slots (fun _ => False)) (F0 m pc ls [.int (zi v)]) := by
  subst hv
  exact W.zret hx hb hr (by rcases h01 with rfl | rfl <;> rfl) (fun t ht hW => ⟨rfl, ht⟩) (fun q h => by cases h) hdg hlocks
end CW
end
section
theorem zi_max {a b : Int} (h1 : (-2147483648 ≤ a ∧ a < 2147483648) ∧ (-2147483648 ≤ b ∧ b < 2147483648)) : (if zi a < zi b then zi b else zi a) = zi (max a b) := by
  by_cases h : a < b
  · rw [if_pos ((zi_lt h1.1.1 h1.1.2 h1.2.1 h1.2.2).mpr h), Int.max_eq_right (by omega)]
  · rw [if_neg (fun q => h ((zi_lt h1.1.1 h1.1.2 h1.2.1 h1.2.2).mp q)), Int.max_eq_left (by omega)]
theorem zi_min {a b : Int} (h1 : (-2147483648 ≤ a ∧ a < 2147483648) ∧ (-2147483648 ≤ b ∧ b < 2147483648)) : (if zi b < zi a then zi b else zi a) = zi (min a b) := by
  by_cases h : b < a
  · rw [if_pos ((zi_lt h1.2.1 h1.2.2 h1.1.1 h1.1.2).mpr h), Int.min_eq_right (by omega)]
  · rw [if_neg (fun q => h ((zi_lt h1.2.1 h1.2.2 h1.1.1 h1.1.2).mp q)), Int.min_eq_left (by omega)]
theorem zi_abs {a : Int} (h1 : -2147483648 ≤ a ∧ a < 2147483648) : (if 0 ≤ zi a then zi a else 0 - zi a) = zi ((a.natAbs : Int)) := by
  by_cases h : 0 ≤ a
  · rw [if_pos ((zi_ge0 h1.1 h1.2).mpr h), show ((a.natAbs : Int)) = a by omega]
  · rw [if_neg (fun q => h ((zi_ge0 h1.1 h1.2).mp q)), ← zi_0, zi_sub, show ((a.natAbs : Int)) = 0 - a by omega]
/-- a start that asks for cells that may be written -/
abbrev PcW (av : List Value) (D : va_G) (cl : List vw_C) (ws : va_W) (tys : List (ClassId × FieldType)) (sz : Nat) : Array Value → State → Prop := va_Pc av (fun U => U.heap.size = sz ∧ va_P D cl ws U.heap ∧ va_K D cl tys U ∧ va_D (fun _ => True) ws)
/-- an end: the answer, the cells, the frame -/
def WrQ (v : Option Value) (D : va_G) (cl : List vw_C) (ws' : va_W) (A : Nat → Prop) : Array Value → State → Outcome → State → Prop := fun _ st o t => o = .returned v ∧ va_P D cl ws' t.heap ∧ va_F A st t
def wr_mix (ws w1 : va_W) (src : List (Bool × Nat)) : va_W := src.filterMap (fun q => if q.1 then w1[q.2]? else ws[q.2]?)
theorem wr_P {D : va_G} {cl : List vw_C} {A0 : Nat → Prop} {ws wc w1 ws' : va_W} {H H1 : Heap} (hP : va_P D cl ws H) (hD : va_D A0 ws) (isC : List Nat) (hC : isC.map (fun i => ws[i]?) = wc.map some) (hk : ∀ q : Nat, q < H.size → ¬ va_A wc H.size q → H1[q]? = H[q]?) (hP1 : va_P D cl w1 H1) (src : List (Bool × Nat)) (hs : wr_mix ws w1 src = ws') (hsrc : ∀ q ∈ src, q.1 = false → q.2 ∉ isC) : va_P D cl ws' H1 := by
  intro k q hq
  subst hs
  obtain ⟨⟨b, i⟩, hi, he⟩ := List.mem_filterMap.mp (List.mem_of_getElem? hq)
  cases b with
  | true => exact hP1 i q he
  | false =>
    have he : ws[i]? = some q := he
    have hl := (hP i q he).lt
    refine (hP i q he).kept (hk q.1 hl (fun h => ?_))
    rcases h with ⟨k2, e2, h⟩ | h
    · have h1 : (isC.map (fun i => ws[i]?))[k2]? = some (some (q.1, e2)) := by rw [hC, List.getElem?_map, h]; rfl
      rw [List.getElem?_map] at h1
      cases hj : isC[k2]? with
      | none => rw [hj] at h1; cases h1
      | some j =>
        rw [hj] at h1
        have h2 : ws[j]? = some (q.1, e2) := Option.some.inj h1
        have hij := hD.1 i j q (q.1, e2) he h2 rfl
        subst hij
        exact hsrc _ hi rfl (List.mem_of_getElem? hj)
    · omega
theorem wr_D {A0 : Nat → Prop} {ws ws' : va_W} (hD : va_D A0 ws) (hf : ws'.map Prod.fst = ws.map Prod.fst) : va_D A0 ws' := by
  have key : ∀ (k : Nat) (q : Nat × va_E), ws'[k]? = some q → ∃ q0, ws[k]? = some q0 ∧ q0.1 = q.1 := by
    intro k q hk
    have h1 : (ws'.map Prod.fst)[k]? = some q.1 := by rw [List.getElem?_map, hk]; rfl
    rw [hf, List.getElem?_map] at h1
    cases h2 : ws[k]? with
    | none => rw [h2] at h1; cases h1
    | some q0 => rw [h2] at h1; exact ⟨q0, rfl, Option.some.inj h1⟩
  refine ⟨fun i j x y hi hj hxy => ?_, fun k q hk => ?_⟩
  · obtain ⟨x0, h1, h2⟩ := key i x hi
    obtain ⟨y0, h3, h4⟩ := key j y hj
    exact hD.1 i j x0 y0 h1 h3 (h2.trans (hxy.trans h4.symm))
  · obtain ⟨q0, h1, h2⟩ := key k q hk
    rw [← h2]
    exact hD.2 k q0 h1
section WR
variable {p : Program} {l : Launch} {e : Env} {R : Room} {s : State} {m : MethodId} {args : Array Value} {below : List Frame} {meth : Method} {c : Code} {H H0 : Heap} {locs : List Loc} {cells slots : Nat} {Q : State → Prop} {pc : Nat} {ls : Array Slot} {rest st0 As : List Value} {cc bytes : ByteArray} {D : va_G} {cl : List vw_C} {ws wc w1 ws' : va_W} {tys : List (ClassId × FieldType)} {nL maxL idx n : Nat} {own C : String} {y : MethodName} {ret : Option FieldType} {rm : Room} {b : Nat} {A : Nat → Prop}
theorem wrV {v : Option Value} (hx : p.tables.exec = Jvm.exec) (hb : c.code = cc) (hml : c.maxLocals = nL) (hown : s.vm.findClass own = some m.cls) (hg : ∀ w ∈ gw, w.before args s = true)
    (hM : Met l y (Cond.code y bytes maxL ret :: gw) rm (PcW (.ref b :: As) D cl wc tys H.size) (WrQ v D cl w1 (va_A wc H.size)) 0 0 (va_A wc H.size))
    (hG : GoodIn gw (wsV own idx C y (Cond.code y bytes maxL ret :: gw))) (hrc : rm.cells = 0) (hrs : rm.slots = 0)
    (hd : y.cls = C ∧ y.cls ≠ "java/lang/invoke/MethodHandle" ∧ y.cls ≠ "java/lang/invoke/VarHandle" ∧ (parseMethodDescriptor y.desc).map (fun d => d.parameters.length) = some n) (hR : rm.frames + 1 ≤ R.frames ∧ 8 + (maxL + 11) + rm.locals ≤ R.locals)
    (hK : va_K D cl tys s) (hP : va_P D cl ws H) (hD : va_D A ws) (hS : va_S A H0 H locs) (hA : ∀ q, H0.size ≤ q → A q)
    (isC : List Nat) (hC : isC.map (fun i => ws[i]?) = wc.map some) (hnd : va_nd isC = true) (src : List (Bool × Nat)) (hs : wr_mix ws w1 src = ws') (hsrc : ∀ q ∈ src, q.1 = false → q.2 ∉ isC) (hfst : ws'.map Prod.fst = ws.map Prod.fst)
    {ci : Nat} (q0 : Nat) {fs : List Value} {r : vw_C} (he : wc[q0]? = some (b, .inr (ci, fs))) (hc : cl[ci]? = some r) (hC1 : r.1 = C)
    (hn : As.length = n) (hsize : ls.size = nL) (hst : st0 = As.reverse ++ .ref b :: rest) (hW : (rest.map fun v => v.category).sum ≤ 8) (hdg : decode cc pc = .ok (.invokevirtual idx, 3)) (hf : cells ≤ R.cells ∧ slots ≤ R.slots)
    (kk : ∀ (H1 : Heap) (locs1 : List Loc), va_P D cl ws' H1 → va_D A ws' → va_S A H0 H1 locs1 → W p l e R s m args below meth c H1 locs1 cells slots Q (F0 m (pc + 3) ls (v.toList ++ rest))) : W p l e R s m args below meth c H locs cells slots Q (F0 m pc ls st0) := by
  subst hst
  subst hC1
  have hPc : va_P D cl wc H := by
    refine hP.sub isC ?_
    have h1 : isC.filterMap (fun i => ws[i]?) = (isC.map (fun i => ws[i]?)).filterMap id := by rw [List.filterMap_map]; rfl
    rw [h1, hC, List.filterMap_map]
    exact List.filterMap_some
  have hDc : va_D A wc := hD.sub isC hnd hC
  have hF : ∀ q, va_A wc H.size q → A q := va_free hD hS hA isC hC
  intro T hT X
  obtain ⟨v', st₀, t, T', L, h0, X', hL, e1, e2, ⟨hv, hp1, hz, hk⟩, st⟩ := va_runV (As := As) (rest := rest) ⟨hx, hb, hml, hown, hg⟩ hM (cwV n hg hG rfl hrc hrs hd hR) ⟨fun a U g mk q => by obtain ⟨q0, q1, qP, qK, qD⟩ := q; exact ⟨q0, q1, qP, va_K.moved (u := U) (U := U.calling g mk a) (Vm.Alike.refl U.vm) qK, qD⟩, va_recv hK hPc (ci := ci) (q0 := q0) hc he, fun U hU hW => ⟨rfl, by rw [hU], by rw [hU]; exact hPc, va_K.moved hW.alike hK, hDc.weaken (fun _ _ _ _ => trivial)⟩⟩ rfl hn hsize rfl (lv_room hW) hdg hf T hT X
  cases hv
  rw [h0] at hz hk
  obtain ⟨t2, a1, b1⟩ := kk T'.heap (locs ++ L) (wr_P hP hD isC hC (fun q h1 h2 => by rw [e1]; exact hk q h1 h2) (by rw [e1]; exact hp1) src hs hsrc) (wr_D hD hfst)
    ⟨Nat.le_trans hS.1 (by rw [e1]; exact hz), fun q h1 h2 => by rw [e1, hk q (Nat.lt_of_lt_of_le h1 hS.1) (fun z => h2 (hF q z))]; exact hS.2.1 q h1 h2, fun q hq => by
      rcases List.mem_append.mp hq with h | h
      · exact hS.2.2 q h
      · exact hF _ (hL q h)⟩ T' rfl X'
  exact ⟨t2, st t2 a1, b1⟩
theorem wr_i {v : Int} (hx : p.tables.exec = Jvm.exec) (hb : c.code = cc) (hr : meth.sig.returnType = some .int) (hlocks : meth.locks = false) {v' : Int} (hv : v = v') (hP : va_P D cl ws' H) (hS : va_S A s.heap H locs) (hdg : decode cc pc = .ok (.ireturn, 1)) : W p l e R s m args below meth c H locs cells slots (MQ below (WrQ (some (.int (zi v'))) D cl ws' A) args s cells slots A) (F0 m pc ls [.int (zi v)]) := by
  subst hv
  exact W.iret hx hb hr (fun t ht hW => ⟨rfl, by rw [ht]; exact hP, hS.F ht⟩) hS.2.2 hdg hlocks
theorem wr_l {v : Int} (hx : p.tables.exec = Jvm.exec) (hb : c.code = cc) (hr : meth.sig.returnType = some .long) (hlocks : meth.locks = false) {v' : Int} (hv : v = v') (hP : va_P D cl ws' H) (hS : va_S A s.heap H locs) (hdg : decode cc pc = .ok (.lreturn, 1)) : W p l e R s m args below meth c H locs cells slots (MQ below (WrQ (some (.long (zl v'))) D cl ws' A) args s cells slots A) (F0 m pc ls [.long (zl v)]) := by
  subst hv
  exact W.lret hx hb hr (fun t ht hW => ⟨rfl, by rw [ht]; exact hP, hS.F ht⟩) hS.2.2 hdg hlocks
theorem wr_z {v : Int} (hx : p.tables.exec = Jvm.exec) (hb : c.code = cc) (hr : meth.sig.returnType = some .boolean) (hlocks : meth.locks = false) {v' : Int} (hv : v = v') (h01 : v = 0 ∨ v = 1) (hP : va_P D cl ws' H) (hS : va_S A s.heap H locs) (hdg : decode cc pc = .ok (.ireturn, 1)) : W p l e R s m args below meth c H locs cells slots (MQ below (WrQ (some (.int (zi v'))) D cl ws' A) args s cells slots A) (F0 m pc ls [.int (zi v)]) := by
  subst hv
  exact W.zret hx hb hr (by rcases h01 with rfl | rfl <;> rfl) (fun t ht hW => ⟨rfl, by rw [ht]; exact hP, hS.F ht⟩) hS.2.2 hdg hlocks
theorem wr_v (hx : p.tables.exec = Jvm.exec) (hb : c.code = cc) (hr : meth.sig.returnType = none) (hlocks : meth.locks = false) (hP : va_P D cl ws' H) (hS : va_S A s.heap H locs) (hdg : decode cc pc = .ok (.return_, 1)) : W p l e R s m args below meth c H locs cells slots (MQ below (WrQ none D cl ws' A) args s cells slots A) (F0 m pc ls []) := 
  W.vret hx hb hr (fun t ht hW => ⟨rfl, by rw [ht]; exact hP, hS.F ht⟩) hS.2.2 hdg hlocks
end WR
end
section
theorem ma_gcd (a b : Nat) : Nat.gcd b (a % b) = Nat.gcd a b := by
  rw [Nat.gcd_comm b (a % b), ← Nat.gcd_rec, Nat.gcd_comm]
theorem ma_half {a b : Nat} (hb : 0 < b) (h : b ≤ a) : 2 * (a % b) ≤ a := by
  have h1 := Nat.div_add_mod a b
  have h2 := Nat.mod_lt a hb
  have h3 : 1 ≤ a / b := (Nat.one_le_div_iff hb).mpr h
  have h4 : b * 1 ≤ b * (a / b) := Nat.mul_le_mul_left b h3
  omega
theorem ma_prod {a b t : Nat} (hb : 0 < b) (h : b ≤ a) (hp : a * b < 2 ^ (t + 1)) : b * (a % b) < 2 ^ t := by
  have h1 : b * (2 * (a % b)) ≤ b * a := Nat.mul_le_mul_left b (ma_half hb h)
  have h2 : b * (2 * (a % b)) = 2 * (b * (a % b)) := by rw [Nat.mul_left_comm]
  rw [Nat.mul_comm b a] at h1
  rw [Nat.pow_succ] at hp
  omega
theorem ma_first {a b : Nat} (hb : 0 < b) (h : b < 562949953421312) : b * (a % b) < 2 ^ 98 := by
  have h1 : b * (a % b) ≤ b * b := Nat.mul_le_mul_left b (Nat.le_of_lt (Nat.mod_lt a hb))
  have h2 : b * b < 562949953421312 * 562949953421312 := Nat.mul_lt_mul'' h h
  have h3 : (2 : Nat) ^ 98 = 562949953421312 * 562949953421312 := by decide
  omega
/-- what Euclid's loop keeps -/
def ma_E (x y t : Nat) : Prop := t = 0 ∨ (t ≤ 99 ∧ y < x ∧ x * y < 2 ^ (99 - t))
theorem ma_E_step {x y t : Nat} (hy0 : 0 < y) (hy : y < 562949953421312) (h : ma_E x y t) : ma_E y (x % y) (t + 1) := by
  have hm := Nat.mod_lt x hy0
  rcases h with rfl | ⟨h1, h2, h3⟩
  · exact Or.inr ⟨by omega, hm, ma_first hy0 hy⟩
  · have h4 : t ≠ 99 := by
      intro q
      subst q
      have h5 : x * y < 1 := h3
      have h6 : 0 < x * y := Nat.mul_pos (by omega) hy0
      omega
    refine Or.inr ⟨by omega, hm, ?_⟩
    have h7 : 99 - t = (99 - (t + 1)) + 1 := by omega
    rw [h7] at h3
    exact ma_prod hy0 (Nat.le_of_lt h2) h3
theorem ma_E_le {x y t : Nat} (h : ma_E x y t) : t ≤ 99 := by
  rcases h with rfl | ⟨h1, -, -⟩
  · omega
  · exact h1
theorem ma_tmod (x y : Nat) : Int.tmod (x : Int) (y : Int) = ((x % y : Nat) : Int) := by
  rw [Int.tmod_eq_emod_of_nonneg (by omega)]
  first | rfl | exact (Int.ofNat_emod x y).symm | exact (Int.natCast_emod x y).symm
abbrev rm_X0_commonDivisor : Room := { frames := 0, cells := 0, slots := 0, locals := 0 }
set_option maxHeartbeats 4000000 in
set_option maxRecDepth 100000 in
theorem c_X0_commonDivisor (l : Launch) (a b : Nat) (ha : a < 9223372036854775808) (hb9 : b < 562949953421312) : Met l yX0_commonDivisor (Cond.code yX0_commonDivisor cX0_commonDivisor 11 ((Option.some Jvm.ClassFile.FieldType.long)) :: gw) rm_X0_commonDivisor (PcS [.long (zl ((a : Int))), .long (zl ((b : Int)))]) (RdQ (some (.long (zl ((Nat.gcd a b : Nat) : Int))))) 0 0 (fun _ => False) := by
  refine Met.ofW (cc := cX0_commonDivisor) (maxL := 11) (ret := ((Option.some Jvm.ClassFile.FieldType.long))) (by decide) rfl ?_
  intro p e s m args below meth c s₁ B hml hv
  obtain ⟨hargs, -⟩ := hv
  have hx := B.exec
  have hb := B.bytes
  have hr := B.returns
  have hts := atoms_spec (ws := Cond.code yX0_commonDivisor cX0_commonDivisor 11 ((Option.some Jvm.ClassFile.FieldType.long)) :: gw) B.pre
  have hg : ∀ w ∈ gw, w.before args s = true := fun w h => hts w (List.mem_cons_of_mem _ h)
  have hown : s.vm.findClass RX0 = some m.cls := findClass_of_methodNamed B.named
  have hlocks := B.notSynchronized
  show W p l e rm_X0_commonDivisor s m args below meth c s.heap [] 0 0 _ _
  have hl := lv_entry ([.long (zl ((a : Int))), .long (zl ((b : Int)))]) (n := 11) (Nat.le_of_ble_eq_true rfl)
  rw [show entryFrame m args 11 = entryFrame m ([.long (zl ((a : Int))), .long (zl ((b : Int)))] : List Value).toArray 11 by rw [hargs], lg_entry_eq]
  generalize (lg_sl ([.long (zl ((a : Int))), .long (zl ((b : Int)))]) ++ List.replicate (11 - (lg_sl ([.long (zl ((a : Int))), .long (zl ((b : Int)))])).length) Slot.unset).toArray = ls at hl ⊢
  have hl : lv_has ls 11 [(0, .long (zl ((a : Int)))), (2, .long (zl ((b : Int))))] := hl
  obtain ⟨QQ, hQQ⟩ : ∃ Q, Q = MQ below (RdQ (some (.long (zl ((Nat.gcd a b : Nat) : Int))))) args s 0 0 (fun _ => False) := ⟨_, rfl⟩
  rw [← hQQ]
  refine lv_lload_n hx hb dX0_commonDivisor_0 rfl (lv_at hl 0 rfl) ?_
  refine lv_lstore (lv' := [(4, .long (zl ((a : Int)))), (0, .long (zl ((a : Int)))), (2, .long (zl ((b : Int))))]) hx hb dX0_commonDivisor_1 hl (by decide) rfl (fun ls hl => ?_)
  refine lv_lload_n hx hb dX0_commonDivisor_3 rfl (lv_at hl 2 rfl) ?_
  refine lv_lstore (lv' := [(6, .long (zl ((b : Int)))), (4, .long (zl ((a : Int)))), (0, .long (zl ((a : Int)))), (2, .long (zl ((b : Int))))]) hx hb dX0_commonDivisor_4 hl (by decide) rfl (fun ls hl => ?_)
  refine lv_iconst (v := zi (0)) hx hb dX0_commonDivisor_6 rfl ?_
  refine lv_istore (lv' := [(8, .int (zi (0))), (6, .long (zl ((b : Int)))), (4, .long (zl ((a : Int)))), (0, .long (zl ((a : Int)))), (2, .long (zl ((b : Int))))]) hx hb dX0_commonDivisor_7 hl (by decide) rfl (fun ls hl => ?_)
  have key_9 : ∀ (n_ : Nat) (x y t : Nat), Nat.gcd x y = Nat.gcd a b → x < 9223372036854775808 → y < 562949953421312 → ma_E x y t → 100 - t < n_ → ∀ (ls : Array Slot), lv_has ls 11 [(8, .int (zi ((t : Int)))), (6, .long (zl ((y : Int)))), (4, .long (zl ((x : Int)))), (2, .long (zl ((b : Int)))), (0, .long (zl ((a : Int))))] → W p l e rm_X0_commonDivisor s m args below meth c s.heap [] 0 0 QQ (F0 m 9 ls []) := by
    intro n_
    induction n_ with
    | zero => intro x y t hgc hxb hyb hE hm_; exact absurd hm_ (Nat.not_lt_zero _)
    | succ n_ ih =>
      intro x y t hgc hxb hyb hE hm_ ls hl
      refine lv_iload hx hb dX0_commonDivisor_9 (lv_at hl 0 rfl) ?_
      refine lv_bipush (v := zi (100)) hx hb dX0_commonDivisor_11 (by decide) ?_
      refine zz_icmp_ge (tgt := 44) hx hb (by have := ma_E_le hE; omega) (by omega) dX0_commonDivisor_13 (by decide) (fun c_13 => ?_) (fun c_13 => ?_)
      · exact absurd (ma_E_le hE) (by omega)
      · refine lv_lload hx hb dX0_commonDivisor_16 (lv_at hl 1 rfl) ?_
        refine lv_lconst (v := zl (0)) hx hb dX0_commonDivisor_18 (by decide) ?_
        refine zz_lcmp_eq (tgt := 44) hx hb (by omega) (by omega) dX0_commonDivisor_19 dX0_commonDivisor_20 (by decide) (fun c_19 => ?_) (fun c_19 => ?_)
        · have hy0 : y = 0 := by omega
          subst hy0
          refine lv_lload hx hb dX0_commonDivisor_44 (lv_at hl 2 rfl) ?_
          rw [hQQ]
          exact rd_l hx hb hr hlocks (by rw [← hgc, Nat.gcd_zero_right]) dX0_commonDivisor_46
        · refine lv_lload hx hb dX0_commonDivisor_23 (lv_at hl 2 rfl) ?_
          refine lv_lload hx hb dX0_commonDivisor_25 (lv_at hl 1 rfl) ?_
          refine zz_lrem hx hb (by omega) (by omega) dX0_commonDivisor_27 ?_
          refine zz_topl (z := ((x % y : Nat) : Int)) (congrArg zl (ma_tmod x y)) ?_
          refine lv_lstore (lv' := [(9, .long (zl (((x % y : Nat) : Int)))), (8, .int (zi ((t : Int)))), (6, .long (zl ((y : Int)))), (4, .long (zl ((x : Int)))), (2, .long (zl ((b : Int)))), (0, .long (zl ((a : Int))))]) hx hb dX0_commonDivisor_28 hl (by decide) rfl (fun ls hl => ?_)
          refine lv_lload hx hb dX0_commonDivisor_30 (lv_at hl 2 rfl) ?_
          refine lv_lstore (lv' := [(4, .long (zl ((y : Int)))), (9, .long (zl (((x % y : Nat) : Int)))), (8, .int (zi ((t : Int)))), (6, .long (zl ((y : Int)))), (2, .long (zl ((b : Int)))), (0, .long (zl ((a : Int))))]) hx hb dX0_commonDivisor_32 hl (by decide) rfl (fun ls hl => ?_)
          refine lv_lload hx hb dX0_commonDivisor_34 (lv_at hl 1 rfl) ?_
          refine lv_lstore (lv' := [(6, .long (zl (((x % y : Nat) : Int)))), (4, .long (zl ((y : Int)))), (9, .long (zl (((x % y : Nat) : Int)))), (8, .int (zi ((t : Int)))), (2, .long (zl ((b : Int)))), (0, .long (zl ((a : Int))))]) hx hb dX0_commonDivisor_36 hl (by decide) rfl (fun ls hl => ?_)
          refine lv_iinc (v := zi (((t : Int)) + (1))) (lv' := [(8, .int (zi (((t : Int)) + (1)))), (6, .long (zl (((x % y : Nat) : Int)))), (4, .long (zl ((y : Int)))), (9, .long (zl (((x % y : Nat) : Int)))), (2, .long (zl ((b : Int)))), (0, .long (zl ((a : Int))))]) hx hb dX0_commonDivisor_38 hl (k := 3) rfl (zi_add _ _) (by decide) rfl (fun ls hl => ?_)
          refine lv_goto (tgt := 9) hx hb dX0_commonDivisor_41 (by decide) ?_
          exact ih y (x % y) (t + 1) ((ma_gcd x y).trans hgc) (by omega) (by have := Nat.mod_lt x (show 0 < y by omega); omega) (ma_E_step (by omega) hyb hE) (by have := ma_E_le (ma_E_step (by omega) hyb hE); omega) ls (lv_sub hl [0, 1, 2, 4, 5] rfl)
  exact key_9 _ a b 0 rfl ha hb9 (Or.inl rfl) (Nat.lt_succ_self _) ls (lv_sub hl [0, 1, 2, 4, 3] rfl)

theorem zn_bd {n : Nat} (h : n < 9223372036854775808) : -9223372036854775808 ≤ (n : Int) ∧ (n : Int) < 9223372036854775808 := by omega
theorem ma_td (x y f : Nat) (hy : 0 < y) : x / y * f + x % y * f / y = x * f / y := by
  have h1 := Nat.div_add_mod x y
  have h2 : x * f = y * (x / y * f) + x % y * f := by
    calc x * f = (y * (x / y) + x % y) * f := by rw [h1]
      _ = y * (x / y) * f + x % y * f := Nat.add_mul _ _ _
      _ = y * (x / y * f) + x % y * f := by rw [Nat.mul_assoc]
  rw [h2, Nat.mul_add_div hy]
theorem ma_tu (x y f : Nat) (hy : 0 < y) : x / y * f + (x % y * f + y - 1) / y = (x * f + y - 1) / y := by
  have h1 := Nat.div_add_mod x y
  have h2 : x * f = y * (x / y * f) + x % y * f := by
    calc x * f = (y * (x / y) + x % y) * f := by rw [h1]
      _ = y * (x / y) * f + x % y * f := Nat.add_mul _ _ _
      _ = y * (x / y * f) + x % y * f := by rw [Nat.mul_assoc]
  have h3 : x * f + y - 1 = y * (x / y * f) + (x % y * f + y - 1) := by omega
  rw [h3, Nat.mul_add_div hy]
abbrev rm_X0_clearToZero : Room := { frames := 0, cells := 0, slots := 0, locals := 0 }
set_option maxHeartbeats 4000000 in
set_option maxRecDepth 100000 in
theorem c_X0_clearToZero (l : Launch) (dC : Nat → ClassId) (dI : Nat → Nat → Nat) (sz : Nat) (h0 : Nat) (a b : Int)  : Met l yX0_clearToZero (Cond.code yX0_clearToZero cX0_clearToZero 1 ((Option.none : Option Jvm.ClassFile.FieldType)) :: gw) rm_X0_clearToZero (PcW [.ref h0] (dC, dI) vwCl [(h0, .inr (0, [.long (zl (a)), .long (zl (b))]))] [] sz) (WrQ (none) (dC, dI) vwCl [(h0, .inr (0, [.long (zl (0)), .long (zl (1))]))] (va_A [(h0, .inr (0, [.long (zl (a)), .long (zl (b))]))] sz)) 0 0 (va_A [(h0, .inr (0, [.long (zl (a)), .long (zl (b))]))] sz) := by
  refine Met.ofW (cc := cX0_clearToZero) (maxL := 1) (ret := ((Option.none : Option Jvm.ClassFile.FieldType))) (by decide) rfl ?_
  intro p e s m args below meth c s₁ B hml hv
  obtain ⟨hargs, hsz, hP, hK, hD0⟩ := hv
  have hx := B.exec
  have hb := B.bytes
  have hr := B.returns
  have hts := atoms_spec (ws := Cond.code yX0_clearToZero cX0_clearToZero 1 ((Option.none : Option Jvm.ClassFile.FieldType)) :: gw) B.pre
  have hg : ∀ w ∈ gw, w.before args s = true := fun w h => hts w (List.mem_cons_of_mem _ h)
  have hown : s.vm.findClass RX0 = some m.cls := findClass_of_methodNamed B.named
  have hlocks := B.notSynchronized
  subst hsz
  have hD := hD0.self (sz := s.heap.size)
  generalize hAe : va_A [(h0, .inr (0, [.long (zl (a)), .long (zl (b))]))] s.heap.size = A at hD ⊢
  have hA : ∀ q : Nat, s.heap.size ≤ q → A q := fun q h => by rw [← hAe]; exact Or.inr h
  show W p l e rm_X0_clearToZero s m args below meth c s.heap [] 0 0 _ _
  have hl := lv_entry ([.ref h0]) (n := 1) (Nat.le_of_ble_eq_true rfl)
  rw [show entryFrame m args 1 = entryFrame m ([.ref h0] : List Value).toArray 1 by rw [hargs], lg_entry_eq]
  generalize (lg_sl ([.ref h0]) ++ List.replicate (1 - (lg_sl ([.ref h0])).length) Slot.unset).toArray = ls at hl ⊢
  have hl : lv_has ls 1 [(0, .ref h0)] := hl
  obtain ⟨QQ, hQQ⟩ : ∃ Q, Q = MQ below (WrQ (none) (dC, dI) vwCl [(h0, .inr (0, [.long (zl (0)), .long (zl (1))]))] A) args s 0 0 A := ⟨_, rfl⟩
  rw [← hQQ]
  obtain ⟨H, hH⟩ : ∃ H : Heap, H = s.heap := ⟨_, rfl⟩
  obtain ⟨locs, hlc⟩ : ∃ x : List Loc, x = [] := ⟨_, rfl⟩
  have hS : va_S A s.heap H locs := by rw [hH, hlc]; exact va_S.rf
  have hP : va_P (dC, dI) vwCl [(h0, .inr (0, [.long (zl (a)), .long (zl (b))]))] H := by rw [hH]; exact hP
  have hD : va_D A [(h0, .inr (0, [.long (zl (a)), .long (zl (b))]))] := hD
  rw [← hH, ← hlc]
  refine lv_aload_n hx hb dX0_clearToZero_0 rfl (lv_at hl 0 rfl) ?_
  refine lv_lconst (v := zl (0)) hx hb dX0_clearToZero_1 (by decide) ?_
  refine va_put (D := (dC, dI)) (ci := 0) (v := .long (zl (0))) (ty := .long) (C := RX0) (T := TX0) (N := 2) hx hb hg inX0 tyX0 tyX0_ok nmX0 hown hK hP hD hS 0 rfl rfl 0 (by decide) (hg _ wl_X0_15) (fun _ h9 => h9) rfl (by decide +kernel) rfl rfl (Nat.le_of_ble_eq_true rfl) dX0_clearToZero_2 (fun H locs hP hD hS => ?_)
  have hP : va_P (dC, dI) vwCl [(h0, .inr (0, [.long (zl (0)), .long (zl (b))]))] H := hP
  have hD : va_D A [(h0, .inr (0, [.long (zl (0)), .long (zl (b))]))] := hD
  refine lv_aload_n hx hb dX0_clearToZero_5 rfl (lv_at hl 0 rfl) ?_
  refine lv_lconst (v := zl (1)) hx hb dX0_clearToZero_6 (by decide) ?_
  refine va_put (D := (dC, dI)) (ci := 0) (v := .long (zl (1))) (ty := .long) (C := RX0) (T := TX0) (N := 2) hx hb hg inX0 tyX0 tyX0_ok nmX0 hown hK hP hD hS 0 rfl rfl 1 (by decide) (hg _ wl_X0_9) (fun _ h9 => h9) rfl (by decide +kernel) rfl rfl (Nat.le_of_ble_eq_true rfl) dX0_clearToZero_7 (fun H locs hP hD hS => ?_)
  have hP : va_P (dC, dI) vwCl [(h0, .inr (0, [.long (zl (0)), .long (zl (1))]))] H := hP
  have hD : va_D A [(h0, .inr (0, [.long (zl (0)), .long (zl (1))]))] := hD
  have hP9 : va_P (dC, dI) vwCl [(h0, .inr (0, [.long (zl (0)), .long (zl (1))]))] H := hP
  rw [hQQ]
  exact wr_v hx hb hr hlocks hP9 hS dX0_clearToZero_10

abbrev rm_X0_lessen : Room := { frames := 1, cells := 0, slots := 0, locals := 30 }
set_option maxHeartbeats 4000000 in
set_option maxRecDepth 100000 in
theorem c_X0_lessen (l : Launch) (dC : Nat → ClassId) (dI : Nat → Nat → Nat) (sz : Nat) (h0 : Nat) (a b : Nat) (hb0 : 0 < b) (ha : a < 9223372036854775808) (hb9 : b < 562949953421312) : Met l yX0_lessen (Cond.code yX0_lessen cX0_lessen 3 ((Option.none : Option Jvm.ClassFile.FieldType)) :: gw) rm_X0_lessen (PcW [.ref h0] (dC, dI) vwCl [(h0, .inr (0, [.long (zl ((a : Int))), .long (zl ((b : Int)))]))] [] sz) (WrQ (none) (dC, dI) vwCl [(h0, .inr (0, [.long (zl (((a / Nat.gcd a b : Nat) : Int))), .long (zl (((b / Nat.gcd a b : Nat) : Int)))]))] (va_A [(h0, .inr (0, [.long (zl ((a : Int))), .long (zl ((b : Int)))]))] sz)) 0 0 (va_A [(h0, .inr (0, [.long (zl ((a : Int))), .long (zl ((b : Int)))]))] sz) := by
  refine Met.ofW (cc := cX0_lessen) (maxL := 3) (ret := ((Option.none : Option Jvm.ClassFile.FieldType))) (by decide) rfl ?_
  intro p e s m args below meth c s₁ B hml hv
  obtain ⟨hargs, hsz, hP, hK, hD0⟩ := hv
  have hx := B.exec
  have hb := B.bytes
  have hr := B.returns
  have hts := atoms_spec (ws := Cond.code yX0_lessen cX0_lessen 3 ((Option.none : Option Jvm.ClassFile.FieldType)) :: gw) B.pre
  have hg : ∀ w ∈ gw, w.before args s = true := fun w h => hts w (List.mem_cons_of_mem _ h)
  have hown : s.vm.findClass RX0 = some m.cls := findClass_of_methodNamed B.named
  have hlocks := B.notSynchronized
  subst hsz
  have hD := hD0.self (sz := s.heap.size)
  generalize hAe : va_A [(h0, .inr (0, [.long (zl ((a : Int))), .long (zl ((b : Int)))]))] s.heap.size = A at hD ⊢
  have hA : ∀ q : Nat, s.heap.size ≤ q → A q := fun q h => by rw [← hAe]; exact Or.inr h
  show W p l e rm_X0_lessen s m args below meth c s.heap [] 0 0 _ _
  have hl := lv_entry ([.ref h0]) (n := 3) (Nat.le_of_ble_eq_true rfl)
  rw [show entryFrame m args 3 = entryFrame m ([.ref h0] : List Value).toArray 3 by rw [hargs], lg_entry_eq]
  generalize (lg_sl ([.ref h0]) ++ List.replicate (3 - (lg_sl ([.ref h0])).length) Slot.unset).toArray = ls at hl ⊢
  have hl : lv_has ls 3 [(0, .ref h0)] := hl
  obtain ⟨QQ, hQQ⟩ : ∃ Q, Q = MQ below (WrQ (none) (dC, dI) vwCl [(h0, .inr (0, [.long (zl (((a / Nat.gcd a b : Nat) : Int))), .long (zl (((b / Nat.gcd a b : Nat) : Int)))]))] A) args s 0 0 A := ⟨_, rfl⟩
  rw [← hQQ]
  obtain ⟨H, hH⟩ : ∃ H : Heap, H = s.heap := ⟨_, rfl⟩
  obtain ⟨locs, hlc⟩ : ∃ x : List Loc, x = [] := ⟨_, rfl⟩
  have hS : va_S A s.heap H locs := by rw [hH, hlc]; exact va_S.rf
  have hP : va_P (dC, dI) vwCl [(h0, .inr (0, [.long (zl ((a : Int))), .long (zl ((b : Int)))]))] H := by rw [hH]; exact hP
  have hD : va_D A [(h0, .inr (0, [.long (zl ((a : Int))), .long (zl ((b : Int)))]))] := hD
  rw [← hH, ← hlc]
  have hgp : 0 < Nat.gcd a b := Nat.gcd_pos_of_pos_right a hb0
  have hgl : Nat.gcd a b ≤ b := Nat.gcd_le_right a hb0
  refine lv_aload_n hx hb dX0_lessen_0 rfl (lv_at hl 0 rfl) ?_
  refine va_get (D := (dC, dI)) (ci := 0) (v := .long (zl ((a : Int)))) (C := RX0) (T := TX0) (N := 2) hx hb hg inX0 hown hK hP 0 rfl rfl 0 (by decide) (hg _ wl_X0_15) (fun _ h9 => h9) rfl dX0_lessen_1 ?_
  refine lv_aload_n hx hb dX0_lessen_4 rfl (lv_at hl 0 rfl) ?_
  refine va_get (D := (dC, dI)) (ci := 0) (v := .long (zl ((b : Int)))) (C := RX0) (T := TX0) (N := 2) hx hb hg inX0 hown hK hP 0 rfl rfl 1 (by decide) (hg _ wl_X0_9) (fun _ h9 => h9) rfl dX0_lessen_5 ?_
  refine rdS (As := [.long (zl ((a : Int))), .long (zl ((b : Int)))]) (rest := []) (n := 2) hx hb hml hown hg (c_X0_commonDivisor l (a) (b) ha hb9) (gwS wl_X0_18 wt_X0_commonDivisor wi_X0 wc_X0_commonDivisor) rfl rfl (by decide +kernel) ⟨Nat.le_of_ble_eq_true rfl, Nat.le_of_ble_eq_true rfl⟩ rfl hl.1 rfl (Nat.le_of_ble_eq_true rfl) dX0_lessen_8 ⟨Nat.zero_le _, Nat.zero_le _⟩ ?_
  refine lv_lstore_n (lv' := [(1, .long (zl (((Nat.gcd (a) (b) : Nat) : Int)))), (0, .ref h0)]) hx hb dX0_lessen_11 rfl hl (by decide) rfl (fun ls hl => ?_)
  refine lv_lload_n hx hb dX0_lessen_12 rfl (lv_at hl 0 rfl) ?_
  refine lv_lconst (v := zl (1)) hx hb dX0_lessen_13 (by decide) ?_
  refine zz_lcmp_le (tgt := 38) hx hb (by omega) (by omega) dX0_lessen_14 dX0_lessen_15 (by decide) (fun c_14 => ?_) (fun c_14 => ?_)
  · have hP9 : va_P (dC, dI) vwCl [(h0, .inr (0, [.long (zl (((a / Nat.gcd a b : Nat) : Int))), .long (zl (((b / Nat.gcd a b : Nat) : Int)))]))] H := by
      have hg1 : Nat.gcd a b = 1 := by omega
      rw [hg1, Nat.div_one, Nat.div_one]; exact hP
    rw [hQQ]
    exact wr_v hx hb hr hlocks hP9 hS dX0_lessen_38
  · refine lv_aload_n hx hb dX0_lessen_18 rfl (lv_at hl 1 rfl) ?_
    refine lv_aload_n hx hb dX0_lessen_19 rfl (lv_at hl 1 rfl) ?_
    refine va_get (D := (dC, dI)) (ci := 0) (v := .long (zl ((a : Int)))) (C := RX0) (T := TX0) (N := 2) hx hb hg inX0 hown hK hP 0 rfl rfl 0 (by decide) (hg _ wl_X0_15) (fun _ h9 => h9) rfl dX0_lessen_20 ?_
    refine lv_lload_n hx hb dX0_lessen_23 rfl (lv_at hl 0 rfl) ?_
    refine zz_ldiv hx hb (by omega) (by omega) dX0_lessen_24 ?_
    refine zz_topl (z := ((a / Nat.gcd a b : Nat) : Int)) (congrArg zl rfl) ?_
    refine va_put (D := (dC, dI)) (ci := 0) (v := .long (zl (((a / Nat.gcd a b : Nat) : Int)))) (ty := .long) (C := RX0) (T := TX0) (N := 2) hx hb hg inX0 tyX0 tyX0_ok nmX0 hown hK hP hD hS 0 rfl rfl 0 (by decide) (hg _ wl_X0_15) (fun _ h9 => h9) rfl (by decide +kernel) rfl rfl (Nat.le_of_ble_eq_true rfl) dX0_lessen_25 (fun H locs hP hD hS => ?_)
    have hP : va_P (dC, dI) vwCl [(h0, .inr (0, [.long (zl (((a / Nat.gcd a b : Nat) : Int))), .long (zl ((b : Int)))]))] H := hP
    have hD : va_D A [(h0, .inr (0, [.long (zl (((a / Nat.gcd a b : Nat) : Int))), .long (zl ((b : Int)))]))] := hD
    refine lv_aload_n hx hb dX0_lessen_28 rfl (lv_at hl 1 rfl) ?_
    refine lv_aload_n hx hb dX0_lessen_29 rfl (lv_at hl 1 rfl) ?_
    refine va_get (D := (dC, dI)) (ci := 0) (v := .long (zl ((b : Int)))) (C := RX0) (T := TX0) (N := 2) hx hb hg inX0 hown hK hP 0 rfl rfl 1 (by decide) (hg _ wl_X0_9) (fun _ h9 => h9) rfl dX0_lessen_30 ?_
    refine lv_lload_n hx hb dX0_lessen_33 rfl (lv_at hl 0 rfl) ?_
    refine zz_ldiv hx hb (by omega) (by omega) dX0_lessen_34 ?_
    refine zz_topl (z := ((b / Nat.gcd a b : Nat) : Int)) (congrArg zl rfl) ?_
    refine va_put (D := (dC, dI)) (ci := 0) (v := .long (zl (((b / Nat.gcd a b : Nat) : Int)))) (ty := .long) (C := RX0) (T := TX0) (N := 2) hx hb hg inX0 tyX0 tyX0_ok nmX0 hown hK hP hD hS 0 rfl rfl 1 (by decide) (hg _ wl_X0_9) (fun _ h9 => h9) rfl (by decide +kernel) rfl rfl (Nat.le_of_ble_eq_true rfl) dX0_lessen_35 (fun H locs hP hD hS => ?_)
    have hP : va_P (dC, dI) vwCl [(h0, .inr (0, [.long (zl (((a / Nat.gcd a b : Nat) : Int))), .long (zl (((b / Nat.gcd a b : Nat) : Int)))]))] H := hP
    have hD : va_D A [(h0, .inr (0, [.long (zl (((a / Nat.gcd a b : Nat) : Int))), .long (zl (((b / Nat.gcd a b : Nat) : Int)))]))] := hD
    have hP9 : va_P (dC, dI) vwCl [(h0, .inr (0, [.long (zl (((a / Nat.gcd a b : Nat) : Int))), .long (zl (((b / Nat.gcd a b : Nat) : Int)))]))] H := hP
    rw [hQQ]
    exact wr_v hx hb hr hlocks hP9 hS dX0_lessen_38

abbrev rm_X0_add : Room := { frames := 2, cells := 0, slots := 0, locals := 52 }
set_option maxHeartbeats 4000000 in
set_option maxRecDepth 100000 in
theorem c_X0_add (l : Launch) (dC : Nat → ClassId) (dI : Nat → Nat → Nat) (sz : Nat) (h0 : Nat) (a b u q : Nat) (hb0 : 0 < b) (hq0 : 0 < q) (hu : u < 9223372036854775808) (hq9 : q < 562949953421312) (hn : a * (q / Nat.gcd u q) + u / Nat.gcd u q * b < 9223372036854775808) (hd : b * (q / Nat.gcd u q) < 562949953421312) : Met l yX0_add (Cond.code yX0_add cX0_add 11 ((Option.none : Option Jvm.ClassFile.FieldType)) :: gw) rm_X0_add (PcW [.ref h0, .long (zl ((u : Int))), .long (zl ((q : Int)))] (dC, dI) vwCl [(h0, .inr (0, [.long (zl ((a : Int))), .long (zl ((b : Int)))]))] [] sz) (WrQ (none) (dC, dI) vwCl [(h0, .inr (0, [.long (zl ((((a * (q / Nat.gcd u q) + u / Nat.gcd u q * b) / Nat.gcd (a * (q / Nat.gcd u q) + u / Nat.gcd u q * b) (b * (q / Nat.gcd u q)) : Nat) : Int))), .long (zl ((((b * (q / Nat.gcd u q)) / Nat.gcd (a * (q / Nat.gcd u q) + u / Nat.gcd u q * b) (b * (q / Nat.gcd u q)) : Nat) : Int)))]))] (va_A [(h0, .inr (0, [.long (zl ((a : Int))), .long (zl ((b : Int)))]))] sz)) 0 0 (va_A [(h0, .inr (0, [.long (zl ((a : Int))), .long (zl ((b : Int)))]))] sz) := by
  refine Met.ofW (cc := cX0_add) (maxL := 11) (ret := ((Option.none : Option Jvm.ClassFile.FieldType))) (by decide) rfl ?_
  intro p e s m args below meth c s₁ B hml hv
  obtain ⟨hargs, hsz, hP, hK, hD0⟩ := hv
  have hx := B.exec
  have hb := B.bytes
  have hr := B.returns
  have hts := atoms_spec (ws := Cond.code yX0_add cX0_add 11 ((Option.none : Option Jvm.ClassFile.FieldType)) :: gw) B.pre
  have hg : ∀ w ∈ gw, w.before args s = true := fun w h => hts w (List.mem_cons_of_mem _ h)
  have hown : s.vm.findClass RX0 = some m.cls := findClass_of_methodNamed B.named
  have hlocks := B.notSynchronized
  subst hsz
  have hD := hD0.self (sz := s.heap.size)
  generalize hAe : va_A [(h0, .inr (0, [.long (zl ((a : Int))), .long (zl ((b : Int)))]))] s.heap.size = A at hD ⊢
  have hA : ∀ q : Nat, s.heap.size ≤ q → A q := fun q h => by rw [← hAe]; exact Or.inr h
  show W p l e rm_X0_add s m args below meth c s.heap [] 0 0 _ _
  have hl := lv_entry ([.ref h0, .long (zl ((u : Int))), .long (zl ((q : Int)))]) (n := 11) (Nat.le_of_ble_eq_true rfl)
  rw [show entryFrame m args 11 = entryFrame m ([.ref h0, .long (zl ((u : Int))), .long (zl ((q : Int)))] : List Value).toArray 11 by rw [hargs], lg_entry_eq]
  generalize (lg_sl ([.ref h0, .long (zl ((u : Int))), .long (zl ((q : Int)))]) ++ List.replicate (11 - (lg_sl ([.ref h0, .long (zl ((u : Int))), .long (zl ((q : Int)))])).length) Slot.unset).toArray = ls at hl ⊢
  have hl : lv_has ls 11 [(0, .ref h0), (1, .long (zl ((u : Int)))), (3, .long (zl ((q : Int))))] := hl
  obtain ⟨QQ, hQQ⟩ : ∃ Q, Q = MQ below (WrQ (none) (dC, dI) vwCl [(h0, .inr (0, [.long (zl ((((a * (q / Nat.gcd u q) + u / Nat.gcd u q * b) / Nat.gcd (a * (q / Nat.gcd u q) + u / Nat.gcd u q * b) (b * (q / Nat.gcd u q)) : Nat) : Int))), .long (zl ((((b * (q / Nat.gcd u q)) / Nat.gcd (a * (q / Nat.gcd u q) + u / Nat.gcd u q * b) (b * (q / Nat.gcd u q)) : Nat) : Int)))]))] A) args s 0 0 A := ⟨_, rfl⟩
  rw [← hQQ]
  obtain ⟨H, hH⟩ : ∃ H : Heap, H = s.heap := ⟨_, rfl⟩
  obtain ⟨locs, hlc⟩ : ∃ x : List Loc, x = [] := ⟨_, rfl⟩
  have hS : va_S A s.heap H locs := by rw [hH, hlc]; exact va_S.rf
  have hP : va_P (dC, dI) vwCl [(h0, .inr (0, [.long (zl ((a : Int))), .long (zl ((b : Int)))]))] H := by rw [hH]; exact hP
  have hD : va_D A [(h0, .inr (0, [.long (zl ((a : Int))), .long (zl ((b : Int)))]))] := hD
  rw [← hH, ← hlc]
  have hgp : 0 < Nat.gcd u q := Nat.gcd_pos_of_pos_right u hq0
  have hgl : Nat.gcd u q ≤ q := Nat.gcd_le_right u hq0
  have hq1 : 0 < q / Nat.gcd u q := Nat.div_pos hgl hgp
  have hd0 : 0 < b * (q / Nat.gcd u q) := Nat.mul_pos hb0 hq1
  refine lv_lload_n hx hb dX0_add_0 rfl (lv_at hl 1 rfl) ?_
  refine lv_lload_n hx hb dX0_add_1 rfl (lv_at hl 2 rfl) ?_
  refine rdS (As := [.long (zl ((u : Int))), .long (zl ((q : Int)))]) (rest := []) (n := 2) hx hb hml hown hg (c_X0_commonDivisor l (u) (q) hu hq9) (gwS wl_X0_18 wt_X0_commonDivisor wi_X0 wc_X0_commonDivisor) rfl rfl (by decide +kernel) ⟨Nat.le_of_ble_eq_true rfl, Nat.le_of_ble_eq_true rfl⟩ rfl hl.1 rfl (Nat.le_of_ble_eq_true rfl) dX0_add_2 ⟨Nat.zero_le _, Nat.zero_le _⟩ ?_
  refine lv_lstore (lv' := [(5, .long (zl (((Nat.gcd (u) (q) : Nat) : Int)))), (0, .ref h0), (1, .long (zl ((u : Int)))), (3, .long (zl ((q : Int))))]) hx hb dX0_add_5 hl (by decide) rfl (fun ls hl => ?_)
  refine lv_lload hx hb dX0_add_7 (lv_at hl 0 rfl) ?_
  refine lv_lconst (v := zl (0)) hx hb dX0_add_9 (by decide) ?_
  refine zz_lcmp_ne (tgt := 15) hx hb (by omega) (by omega) dX0_add_10 dX0_add_11 (by decide) (fun c_10 => ?_) (fun c_10 => ?_)
  · refine lv_lload_n hx hb dX0_add_15 rfl (lv_at hl 2 rfl) ?_
    refine lv_lload hx hb dX0_add_16 (lv_at hl 0 rfl) ?_
    refine zz_ldiv hx hb (by omega) (by omega) dX0_add_18 ?_
    refine zz_topl (z := ((u / Nat.gcd u q : Nat) : Int)) (congrArg zl rfl) ?_
    refine lv_lstore (lv' := [(7, .long (zl (((u / Nat.gcd u q : Nat) : Int)))), (5, .long (zl (((Nat.gcd (u) (q) : Nat) : Int)))), (0, .ref h0), (1, .long (zl ((u : Int)))), (3, .long (zl ((q : Int))))]) hx hb dX0_add_19 hl (by decide) rfl (fun ls hl => ?_)
    refine lv_lload_n hx hb dX0_add_21 rfl (lv_at hl 4 rfl) ?_
    refine lv_lload hx hb dX0_add_22 (lv_at hl 1 rfl) ?_
    refine zz_ldiv hx hb (by omega) (by omega) dX0_add_24 ?_
    refine zz_topl (z := ((q / Nat.gcd u q : Nat) : Int)) (congrArg zl rfl) ?_
    refine lv_lstore (lv' := [(9, .long (zl (((q / Nat.gcd u q : Nat) : Int)))), (7, .long (zl (((u / Nat.gcd u q : Nat) : Int)))), (5, .long (zl (((Nat.gcd (u) (q) : Nat) : Int)))), (0, .ref h0), (1, .long (zl ((u : Int)))), (3, .long (zl ((q : Int))))]) hx hb dX0_add_25 hl (by decide) rfl (fun ls hl => ?_)
    refine lv_aload_n hx hb dX0_add_27 rfl (lv_at hl 3 rfl) ?_
    refine lv_aload_n hx hb dX0_add_28 rfl (lv_at hl 3 rfl) ?_
    refine va_get (D := (dC, dI)) (ci := 0) (v := .long (zl ((a : Int)))) (C := RX0) (T := TX0) (N := 2) hx hb hg inX0 hown hK hP 0 rfl rfl 0 (by decide) (hg _ wl_X0_15) (fun _ h9 => h9) rfl dX0_add_29 ?_
    refine lv_lload hx hb dX0_add_32 (lv_at hl 0 rfl) ?_
    refine zz_lmul hx hb dX0_add_34 ?_
    refine lv_lload hx hb dX0_add_35 (lv_at hl 1 rfl) ?_
    refine lv_aload_n hx hb dX0_add_37 rfl (lv_at hl 3 rfl) ?_
    refine va_get (D := (dC, dI)) (ci := 0) (v := .long (zl ((b : Int)))) (C := RX0) (T := TX0) (N := 2) hx hb hg inX0 hown hK hP 0 rfl rfl 1 (by decide) (hg _ wl_X0_9) (fun _ h9 => h9) rfl dX0_add_38 ?_
    refine zz_lmul hx hb dX0_add_41 ?_
    refine zz_ladd hx hb dX0_add_42 ?_
    refine zz_topl (z := ((a * (q / Nat.gcd u q) + u / Nat.gcd u q * b : Nat) : Int)) (congrArg zl (by push_cast; rfl)) ?_
    refine va_put (D := (dC, dI)) (ci := 0) (v := .long (zl (((a * (q / Nat.gcd u q) + u / Nat.gcd u q * b : Nat) : Int)))) (ty := .long) (C := RX0) (T := TX0) (N := 2) hx hb hg inX0 tyX0 tyX0_ok nmX0 hown hK hP hD hS 0 rfl rfl 0 (by decide) (hg _ wl_X0_15) (fun _ h9 => h9) rfl (by decide +kernel) rfl rfl (Nat.le_of_ble_eq_true rfl) dX0_add_43 (fun H locs hP hD hS => ?_)
    have hP : va_P (dC, dI) vwCl [(h0, .inr (0, [.long (zl (((a * (q / Nat.gcd u q) + u / Nat.gcd u q * b : Nat) : Int))), .long (zl ((b : Int)))]))] H := hP
    have hD : va_D A [(h0, .inr (0, [.long (zl (((a * (q / Nat.gcd u q) + u / Nat.gcd u q * b : Nat) : Int))), .long (zl ((b : Int)))]))] := hD
    refine lv_aload_n hx hb dX0_add_46 rfl (lv_at hl 3 rfl) ?_
    refine lv_aload_n hx hb dX0_add_47 rfl (lv_at hl 3 rfl) ?_
    refine va_get (D := (dC, dI)) (ci := 0) (v := .long (zl ((b : Int)))) (C := RX0) (T := TX0) (N := 2) hx hb hg inX0 hown hK hP 0 rfl rfl 1 (by decide) (hg _ wl_X0_9) (fun _ h9 => h9) rfl dX0_add_48 ?_
    refine lv_lload hx hb dX0_add_51 (lv_at hl 0 rfl) ?_
    refine zz_lmul hx hb dX0_add_53 ?_
    refine zz_topl (z := ((b * (q / Nat.gcd u q) : Nat) : Int)) (congrArg zl (by push_cast; rfl)) ?_
    refine va_put (D := (dC, dI)) (ci := 0) (v := .long (zl (((b * (q / Nat.gcd u q) : Nat) : Int)))) (ty := .long) (C := RX0) (T := TX0) (N := 2) hx hb hg inX0 tyX0 tyX0_ok nmX0 hown hK hP hD hS 0 rfl rfl 1 (by decide) (hg _ wl_X0_9) (fun _ h9 => h9) rfl (by decide +kernel) rfl rfl (Nat.le_of_ble_eq_true rfl) dX0_add_54 (fun H locs hP hD hS => ?_)
    have hP : va_P (dC, dI) vwCl [(h0, .inr (0, [.long (zl (((a * (q / Nat.gcd u q) + u / Nat.gcd u q * b : Nat) : Int))), .long (zl (((b * (q / Nat.gcd u q) : Nat) : Int)))]))] H := hP
    have hD : va_D A [(h0, .inr (0, [.long (zl (((a * (q / Nat.gcd u q) + u / Nat.gcd u q * b : Nat) : Int))), .long (zl (((b * (q / Nat.gcd u q) : Nat) : Int)))]))] := hD
    refine lv_aload_n hx hb dX0_add_57 rfl (lv_at hl 3 rfl) ?_
    refine wrV (As := []) (rest := []) (n := 0) (ws' := [(h0, .inr (0, [.long (zl ((((a * (q / Nat.gcd u q) + u / Nat.gcd u q * b) / Nat.gcd (a * (q / Nat.gcd u q) + u / Nat.gcd u q * b) (b * (q / Nat.gcd u q)) : Nat) : Int))), .long (zl ((((b * (q / Nat.gcd u q)) / Nat.gcd (a * (q / Nat.gcd u q) + u / Nat.gcd u q * b) (b * (q / Nat.gcd u q)) : Nat) : Int)))]))]) hx hb hml hown hg (c_X0_lessen l dC dI H.size h0 (a * (q / Nat.gcd u q) + u / Nat.gcd u q * b) (b * (q / Nat.gcd u q)) hd0 hn hd) (gwV wl_X0_22 wm_X0_lessen we_X0_lessen wi_X0 wc_X0_lessen) rfl rfl (by decide +kernel) ⟨Nat.le_of_ble_eq_true rfl, Nat.le_of_ble_eq_true rfl⟩ (hK.sub [] rfl) hP hD hS hA [0] rfl (by decide) [(true, 0)] rfl (by decide) rfl 0 rfl rfl rfl rfl hl.1 rfl (Nat.le_of_ble_eq_true rfl) dX0_add_58 ⟨Nat.zero_le _, Nat.zero_le _⟩ (fun H locs hP hD hS => ?_)
    have hP9 : va_P (dC, dI) vwCl [(h0, .inr (0, [.long (zl ((((a * (q / Nat.gcd u q) + u / Nat.gcd u q * b) / Nat.gcd (a * (q / Nat.gcd u q) + u / Nat.gcd u q * b) (b * (q / Nat.gcd u q)) : Nat) : Int))), .long (zl ((((b * (q / Nat.gcd u q)) / Nat.gcd (a * (q / Nat.gcd u q) + u / Nat.gcd u q * b) (b * (q / Nat.gcd u q)) : Nat) : Int)))]))] H := hP
    rw [hQQ]
    exact wr_v hx hb hr hlocks hP9 hS dX0_add_61
  · exact absurd c_10 (by omega)

abbrev rm_X0_tell : Room := { frames := 0, cells := 0, slots := 0, locals := 0 }
set_option maxHeartbeats 4000000 in
set_option maxRecDepth 100000 in
theorem c_X0_tell (l : Launch) (dC : Nat → ClassId) (dI : Nat → Nat → Nat) (h0 : Nat) (a b part : Int) (hp : -2147483648 ≤ part ∧ part < 2147483648) : Met l yX0_tell (Cond.code yX0_tell cX0_tell 2 ((Option.some Jvm.ClassFile.FieldType.long)) :: gw) rm_X0_tell (PcR [.ref h0, .int (zi (part))] (dC, dI) vwCl [(h0, .inr (0, [.long (zl (a)), .long (zl (b))]))] []) (RdQ (some (.long (zl (if part = 0 then a else b))))) 0 0 (fun _ => False) := by
  refine Met.ofW (cc := cX0_tell) (maxL := 2) (ret := ((Option.some Jvm.ClassFile.FieldType.long))) (by decide) rfl ?_
  intro p e s m args below meth c s₁ B hml hv
  obtain ⟨hargs, hP, hK⟩ := hv
  have hx := B.exec
  have hb := B.bytes
  have hr := B.returns
  have hts := atoms_spec (ws := Cond.code yX0_tell cX0_tell 2 ((Option.some Jvm.ClassFile.FieldType.long)) :: gw) B.pre
  have hg : ∀ w ∈ gw, w.before args s = true := fun w h => hts w (List.mem_cons_of_mem _ h)
  have hown : s.vm.findClass RX0 = some m.cls := findClass_of_methodNamed B.named
  have hlocks := B.notSynchronized
  show W p l e rm_X0_tell s m args below meth c s.heap [] 0 0 _ _
  have hl := lv_entry ([.ref h0, .int (zi (part))]) (n := 2) (Nat.le_of_ble_eq_true rfl)
  rw [show entryFrame m args 2 = entryFrame m ([.ref h0, .int (zi (part))] : List Value).toArray 2 by rw [hargs], lg_entry_eq]
  generalize (lg_sl ([.ref h0, .int (zi (part))]) ++ List.replicate (2 - (lg_sl ([.ref h0, .int (zi (part))])).length) Slot.unset).toArray = ls at hl ⊢
  have hl : lv_has ls 2 [(0, .ref h0), (1, .int (zi (part)))] := hl
  obtain ⟨QQ, hQQ⟩ : ∃ Q, Q = MQ below (RdQ (some (.long (zl (if part = 0 then a else b))))) args s 0 0 (fun _ => False) := ⟨_, rfl⟩
  rw [← hQQ]
  refine lv_iload_n hx hb dX0_tell_0 rfl (lv_at hl 1 rfl) ?_
  refine zz_if_ne (tgt := 11) hx hb (by omega) dX0_tell_1 (by decide) (fun c_1 => ?_) (fun c_1 => ?_)
  · refine lv_aload_n hx hb dX0_tell_11 rfl (lv_at hl 0 rfl) ?_
    refine va_get (D := (dC, dI)) (ci := 0) (v := .long (zl (b))) (C := RX0) (T := TX0) (N := 2) hx hb hg inX0 hown hK hP 0 rfl rfl 1 (by decide) (hg _ wl_X0_9) (fun _ h9 => h9) rfl dX0_tell_12 ?_
    rw [hQQ]
    exact rd_l hx hb hr hlocks (by rw [if_neg c_1]) dX0_tell_15
  · refine lv_aload_n hx hb dX0_tell_4 rfl (lv_at hl 0 rfl) ?_
    refine va_get (D := (dC, dI)) (ci := 0) (v := .long (zl (a))) (C := RX0) (T := TX0) (N := 2) hx hb hg inX0 hown hK hP 0 rfl rfl 0 (by decide) (hg _ wl_X0_15) (fun _ h9 => h9) rfl dX0_tell_5 ?_
    refine lv_goto (tgt := 15) hx hb dX0_tell_8 (by decide) ?_
    rw [hQQ]
    exact rd_l hx hb hr hlocks (by rw [if_pos c_1]) dX0_tell_15

abbrev rm_X0_roundedDown : Room := { frames := 0, cells := 0, slots := 0, locals := 0 }
set_option maxHeartbeats 4000000 in
set_option maxRecDepth 100000 in
theorem c_X0_roundedDown (l : Launch) (dC : Nat → ClassId) (dI : Nat → Nat → Nat) (h0 : Nat) (a b : Nat) (hb0 : 0 < b) (ha : a < 9223372036854775808) (hb9 : b < 562949953421312) : Met l yX0_roundedDown (Cond.code yX0_roundedDown cX0_roundedDown 1 ((Option.some Jvm.ClassFile.FieldType.long)) :: gw) rm_X0_roundedDown (PcR [.ref h0] (dC, dI) vwCl [(h0, .inr (0, [.long (zl ((a : Int))), .long (zl ((b : Int)))]))] []) (RdQ (some (.long (zl ((a / b : Nat) : Int))))) 0 0 (fun _ => False) := by
  refine Met.ofW (cc := cX0_roundedDown) (maxL := 1) (ret := ((Option.some Jvm.ClassFile.FieldType.long))) (by decide) rfl ?_
  intro p e s m args below meth c s₁ B hml hv
  obtain ⟨hargs, hP, hK⟩ := hv
  have hx := B.exec
  have hb := B.bytes
  have hr := B.returns
  have hts := atoms_spec (ws := Cond.code yX0_roundedDown cX0_roundedDown 1 ((Option.some Jvm.ClassFile.FieldType.long)) :: gw) B.pre
  have hg : ∀ w ∈ gw, w.before args s = true := fun w h => hts w (List.mem_cons_of_mem _ h)
  have hown : s.vm.findClass RX0 = some m.cls := findClass_of_methodNamed B.named
  have hlocks := B.notSynchronized
  show W p l e rm_X0_roundedDown s m args below meth c s.heap [] 0 0 _ _
  have hl := lv_entry ([.ref h0]) (n := 1) (Nat.le_of_ble_eq_true rfl)
  rw [show entryFrame m args 1 = entryFrame m ([.ref h0] : List Value).toArray 1 by rw [hargs], lg_entry_eq]
  generalize (lg_sl ([.ref h0]) ++ List.replicate (1 - (lg_sl ([.ref h0])).length) Slot.unset).toArray = ls at hl ⊢
  have hl : lv_has ls 1 [(0, .ref h0)] := hl
  obtain ⟨QQ, hQQ⟩ : ∃ Q, Q = MQ below (RdQ (some (.long (zl ((a / b : Nat) : Int))))) args s 0 0 (fun _ => False) := ⟨_, rfl⟩
  rw [← hQQ]
  refine lv_aload_n hx hb dX0_roundedDown_0 rfl (lv_at hl 0 rfl) ?_
  refine va_get (D := (dC, dI)) (ci := 0) (v := .long (zl ((b : Int)))) (C := RX0) (T := TX0) (N := 2) hx hb hg inX0 hown hK hP 0 rfl rfl 1 (by decide) (hg _ wl_X0_9) (fun _ h9 => h9) rfl dX0_roundedDown_1 ?_
  refine lv_lconst (v := zl (0)) hx hb dX0_roundedDown_4 (by decide) ?_
  refine zz_lcmp_ne (tgt := 13) hx hb (by omega) (by omega) dX0_roundedDown_5 dX0_roundedDown_6 (by decide) (fun c_5 => ?_) (fun c_5 => ?_)
  · refine lv_aload_n hx hb dX0_roundedDown_13 rfl (lv_at hl 0 rfl) ?_
    refine va_get (D := (dC, dI)) (ci := 0) (v := .long (zl ((a : Int)))) (C := RX0) (T := TX0) (N := 2) hx hb hg inX0 hown hK hP 0 rfl rfl 0 (by decide) (hg _ wl_X0_15) (fun _ h9 => h9) rfl dX0_roundedDown_14 ?_
    refine lv_aload_n hx hb dX0_roundedDown_17 rfl (lv_at hl 0 rfl) ?_
    refine va_get (D := (dC, dI)) (ci := 0) (v := .long (zl ((b : Int)))) (C := RX0) (T := TX0) (N := 2) hx hb hg inX0 hown hK hP 0 rfl rfl 1 (by decide) (hg _ wl_X0_9) (fun _ h9 => h9) rfl dX0_roundedDown_18 ?_
    refine zz_ldiv hx hb (by omega) (by omega) dX0_roundedDown_21 ?_
    refine zz_topl (z := ((a / b : Nat) : Int)) (congrArg zl rfl) ?_
    rw [hQQ]
    exact rd_l hx hb hr hlocks rfl dX0_roundedDown_22
  · exact absurd c_5 (by omega)

abbrev rm_X0_timesDown : Room := { frames := 0, cells := 0, slots := 0, locals := 0 }
set_option maxHeartbeats 4000000 in
set_option maxRecDepth 100000 in
theorem c_X0_timesDown (l : Launch) (dC : Nat → ClassId) (dI : Nat → Nat → Nat) (h0 : Nat) (a b f : Nat) (hb0 : 0 < b) (ha : a < 9223372036854775808) (hb9 : b < 562949953421312) (hm : a % b * f < 9223372036854775808) : Met l yX0_timesDown (Cond.code yX0_timesDown cX0_timesDown 3 ((Option.some Jvm.ClassFile.FieldType.long)) :: gw) rm_X0_timesDown (PcR [.ref h0, .long (zl ((f : Int)))] (dC, dI) vwCl [(h0, .inr (0, [.long (zl ((a : Int))), .long (zl ((b : Int)))]))] []) (RdQ (some (.long (zl ((a * f / b : Nat) : Int))))) 0 0 (fun _ => False) := by
  refine Met.ofW (cc := cX0_timesDown) (maxL := 3) (ret := ((Option.some Jvm.ClassFile.FieldType.long))) (by decide) rfl ?_
  intro p e s m args below meth c s₁ B hml hv
  obtain ⟨hargs, hP, hK⟩ := hv
  have hx := B.exec
  have hb := B.bytes
  have hr := B.returns
  have hts := atoms_spec (ws := Cond.code yX0_timesDown cX0_timesDown 3 ((Option.some Jvm.ClassFile.FieldType.long)) :: gw) B.pre
  have hg : ∀ w ∈ gw, w.before args s = true := fun w h => hts w (List.mem_cons_of_mem _ h)
  have hown : s.vm.findClass RX0 = some m.cls := findClass_of_methodNamed B.named
  have hlocks := B.notSynchronized
  show W p l e rm_X0_timesDown s m args below meth c s.heap [] 0 0 _ _
  have hl := lv_entry ([.ref h0, .long (zl ((f : Int)))]) (n := 3) (Nat.le_of_ble_eq_true rfl)
  rw [show entryFrame m args 3 = entryFrame m ([.ref h0, .long (zl ((f : Int)))] : List Value).toArray 3 by rw [hargs], lg_entry_eq]
  generalize (lg_sl ([.ref h0, .long (zl ((f : Int)))]) ++ List.replicate (3 - (lg_sl ([.ref h0, .long (zl ((f : Int)))])).length) Slot.unset).toArray = ls at hl ⊢
  have hl : lv_has ls 3 [(0, .ref h0), (1, .long (zl ((f : Int))))] := hl
  obtain ⟨QQ, hQQ⟩ : ∃ Q, Q = MQ below (RdQ (some (.long (zl ((a * f / b : Nat) : Int))))) args s 0 0 (fun _ => False) := ⟨_, rfl⟩
  rw [← hQQ]
  refine lv_aload_n hx hb dX0_timesDown_0 rfl (lv_at hl 0 rfl) ?_
  refine va_get (D := (dC, dI)) (ci := 0) (v := .long (zl ((b : Int)))) (C := RX0) (T := TX0) (N := 2) hx hb hg inX0 hown hK hP 0 rfl rfl 1 (by decide) (hg _ wl_X0_9) (fun _ h9 => h9) rfl dX0_timesDown_1 ?_
  refine lv_lconst (v := zl (0)) hx hb dX0_timesDown_4 (by decide) ?_
  refine zz_lcmp_ne (tgt := 11) hx hb (by omega) (by omega) dX0_timesDown_5 dX0_timesDown_6 (by decide) (fun c_5 => ?_) (fun c_5 => ?_)
  · refine lv_aload_n hx hb dX0_timesDown_11 rfl (lv_at hl 0 rfl) ?_
    refine va_get (D := (dC, dI)) (ci := 0) (v := .long (zl ((a : Int)))) (C := RX0) (T := TX0) (N := 2) hx hb hg inX0 hown hK hP 0 rfl rfl 0 (by decide) (hg _ wl_X0_15) (fun _ h9 => h9) rfl dX0_timesDown_12 ?_
    refine lv_aload_n hx hb dX0_timesDown_15 rfl (lv_at hl 0 rfl) ?_
    refine va_get (D := (dC, dI)) (ci := 0) (v := .long (zl ((b : Int)))) (C := RX0) (T := TX0) (N := 2) hx hb hg inX0 hown hK hP 0 rfl rfl 1 (by decide) (hg _ wl_X0_9) (fun _ h9 => h9) rfl dX0_timesDown_16 ?_
    refine zz_ldiv hx hb (by omega) (by omega) dX0_timesDown_19 ?_
    refine zz_topl (z := ((a / b : Nat) : Int)) (congrArg zl rfl) ?_
    refine lv_lload_n hx hb dX0_timesDown_20 rfl (lv_at hl 1 rfl) ?_
    refine zz_lmul hx hb dX0_timesDown_21 ?_
    refine zz_topl (z := ((a / b * f : Nat) : Int)) (congrArg zl (by push_cast; rfl)) ?_
    refine lv_aload_n hx hb dX0_timesDown_22 rfl (lv_at hl 0 rfl) ?_
    refine va_get (D := (dC, dI)) (ci := 0) (v := .long (zl ((a : Int)))) (C := RX0) (T := TX0) (N := 2) hx hb hg inX0 hown hK hP 0 rfl rfl 0 (by decide) (hg _ wl_X0_15) (fun _ h9 => h9) rfl dX0_timesDown_23 ?_
    refine lv_aload_n hx hb dX0_timesDown_26 rfl (lv_at hl 0 rfl) ?_
    refine va_get (D := (dC, dI)) (ci := 0) (v := .long (zl ((b : Int)))) (C := RX0) (T := TX0) (N := 2) hx hb hg inX0 hown hK hP 0 rfl rfl 1 (by decide) (hg _ wl_X0_9) (fun _ h9 => h9) rfl dX0_timesDown_27 ?_
    refine zz_lrem hx hb (by omega) (by omega) dX0_timesDown_30 ?_
    refine zz_topl (z := ((a % b : Nat) : Int)) (congrArg zl (ma_tmod a b)) ?_
    refine lv_lload_n hx hb dX0_timesDown_31 rfl (lv_at hl 1 rfl) ?_
    refine zz_lmul hx hb dX0_timesDown_32 ?_
    refine zz_topl (z := ((a % b * f : Nat) : Int)) (congrArg zl (by push_cast; rfl)) ?_
    refine lv_aload_n hx hb dX0_timesDown_33 rfl (lv_at hl 0 rfl) ?_
    refine va_get (D := (dC, dI)) (ci := 0) (v := .long (zl ((b : Int)))) (C := RX0) (T := TX0) (N := 2) hx hb hg inX0 hown hK hP 0 rfl rfl 1 (by decide) (hg _ wl_X0_9) (fun _ h9 => h9) rfl dX0_timesDown_34 ?_
    refine zz_ldiv hx hb (by omega) (by omega) dX0_timesDown_37 ?_
    refine zz_topl (z := ((a % b * f / b : Nat) : Int)) (congrArg zl rfl) ?_
    refine zz_ladd hx hb dX0_timesDown_38 ?_
    refine zz_topl (z := ((a / b * f + a % b * f / b : Nat) : Int)) (congrArg zl (by push_cast; rfl)) ?_
    rw [hQQ]
    exact rd_l hx hb hr hlocks (by rw [ma_td a b f hb0]) dX0_timesDown_39
  · exact absurd c_5 (by omega)

abbrev rm_X0_timesUp : Room := { frames := 0, cells := 0, slots := 0, locals := 0 }
set_option maxHeartbeats 4000000 in
set_option maxRecDepth 100000 in
theorem c_X0_timesUp (l : Launch) (dC : Nat → ClassId) (dI : Nat → Nat → Nat) (h0 : Nat) (a b f : Nat) (hb0 : 0 < b) (ha : a < 9223372036854775808) (hb9 : b < 562949953421312) (hm : a % b * f + b < 9223372036854775808) : Met l yX0_timesUp (Cond.code yX0_timesUp cX0_timesUp 3 ((Option.some Jvm.ClassFile.FieldType.long)) :: gw) rm_X0_timesUp (PcR [.ref h0, .long (zl ((f : Int)))] (dC, dI) vwCl [(h0, .inr (0, [.long (zl ((a : Int))), .long (zl ((b : Int)))]))] []) (RdQ (some (.long (zl (((a * f + b - 1) / b : Nat) : Int))))) 0 0 (fun _ => False) := by
  refine Met.ofW (cc := cX0_timesUp) (maxL := 3) (ret := ((Option.some Jvm.ClassFile.FieldType.long))) (by decide) rfl ?_
  intro p e s m args below meth c s₁ B hml hv
  obtain ⟨hargs, hP, hK⟩ := hv
  have hx := B.exec
  have hb := B.bytes
  have hr := B.returns
  have hts := atoms_spec (ws := Cond.code yX0_timesUp cX0_timesUp 3 ((Option.some Jvm.ClassFile.FieldType.long)) :: gw) B.pre
  have hg : ∀ w ∈ gw, w.before args s = true := fun w h => hts w (List.mem_cons_of_mem _ h)
  have hown : s.vm.findClass RX0 = some m.cls := findClass_of_methodNamed B.named
  have hlocks := B.notSynchronized
  show W p l e rm_X0_timesUp s m args below meth c s.heap [] 0 0 _ _
  have hl := lv_entry ([.ref h0, .long (zl ((f : Int)))]) (n := 3) (Nat.le_of_ble_eq_true rfl)
  rw [show entryFrame m args 3 = entryFrame m ([.ref h0, .long (zl ((f : Int)))] : List Value).toArray 3 by rw [hargs], lg_entry_eq]
  generalize (lg_sl ([.ref h0, .long (zl ((f : Int)))]) ++ List.replicate (3 - (lg_sl ([.ref h0, .long (zl ((f : Int)))])).length) Slot.unset).toArray = ls at hl ⊢
  have hl : lv_has ls 3 [(0, .ref h0), (1, .long (zl ((f : Int))))] := hl
  obtain ⟨QQ, hQQ⟩ : ∃ Q, Q = MQ below (RdQ (some (.long (zl (((a * f + b - 1) / b : Nat) : Int))))) args s 0 0 (fun _ => False) := ⟨_, rfl⟩
  rw [← hQQ]
  refine lv_aload_n hx hb dX0_timesUp_0 rfl (lv_at hl 0 rfl) ?_
  refine va_get (D := (dC, dI)) (ci := 0) (v := .long (zl ((b : Int)))) (C := RX0) (T := TX0) (N := 2) hx hb hg inX0 hown hK hP 0 rfl rfl 1 (by decide) (hg _ wl_X0_9) (fun _ h9 => h9) rfl dX0_timesUp_1 ?_
  refine lv_lconst (v := zl (0)) hx hb dX0_timesUp_4 (by decide) ?_
  refine zz_lcmp_ne (tgt := 11) hx hb (by omega) (by omega) dX0_timesUp_5 dX0_timesUp_6 (by decide) (fun c_5 => ?_) (fun c_5 => ?_)
  · refine lv_aload_n hx hb dX0_timesUp_11 rfl (lv_at hl 0 rfl) ?_
    refine va_get (D := (dC, dI)) (ci := 0) (v := .long (zl ((a : Int)))) (C := RX0) (T := TX0) (N := 2) hx hb hg inX0 hown hK hP 0 rfl rfl 0 (by decide) (hg _ wl_X0_15) (fun _ h9 => h9) rfl dX0_timesUp_12 ?_
    refine lv_aload_n hx hb dX0_timesUp_15 rfl (lv_at hl 0 rfl) ?_
    refine va_get (D := (dC, dI)) (ci := 0) (v := .long (zl ((b : Int)))) (C := RX0) (T := TX0) (N := 2) hx hb hg inX0 hown hK hP 0 rfl rfl 1 (by decide) (hg _ wl_X0_9) (fun _ h9 => h9) rfl dX0_timesUp_16 ?_
    refine zz_ldiv hx hb (by omega) (by omega) dX0_timesUp_19 ?_
    refine zz_topl (z := ((a / b : Nat) : Int)) (congrArg zl rfl) ?_
    refine lv_lload_n hx hb dX0_timesUp_20 rfl (lv_at hl 1 rfl) ?_
    refine zz_lmul hx hb dX0_timesUp_21 ?_
    refine zz_topl (z := ((a / b * f : Nat) : Int)) (congrArg zl (by push_cast; rfl)) ?_
    refine lv_aload_n hx hb dX0_timesUp_22 rfl (lv_at hl 0 rfl) ?_
    refine va_get (D := (dC, dI)) (ci := 0) (v := .long (zl ((a : Int)))) (C := RX0) (T := TX0) (N := 2) hx hb hg inX0 hown hK hP 0 rfl rfl 0 (by decide) (hg _ wl_X0_15) (fun _ h9 => h9) rfl dX0_timesUp_23 ?_
    refine lv_aload_n hx hb dX0_timesUp_26 rfl (lv_at hl 0 rfl) ?_
    refine va_get (D := (dC, dI)) (ci := 0) (v := .long (zl ((b : Int)))) (C := RX0) (T := TX0) (N := 2) hx hb hg inX0 hown hK hP 0 rfl rfl 1 (by decide) (hg _ wl_X0_9) (fun _ h9 => h9) rfl dX0_timesUp_27 ?_
    refine zz_lrem hx hb (by omega) (by omega) dX0_timesUp_30 ?_
    refine zz_topl (z := ((a % b : Nat) : Int)) (congrArg zl (ma_tmod a b)) ?_
    refine lv_lload_n hx hb dX0_timesUp_31 rfl (lv_at hl 1 rfl) ?_
    refine zz_lmul hx hb dX0_timesUp_32 ?_
    refine zz_topl (z := ((a % b * f : Nat) : Int)) (congrArg zl (by push_cast; rfl)) ?_
    refine lv_aload_n hx hb dX0_timesUp_33 rfl (lv_at hl 0 rfl) ?_
    refine va_get (D := (dC, dI)) (ci := 0) (v := .long (zl ((b : Int)))) (C := RX0) (T := TX0) (N := 2) hx hb hg inX0 hown hK hP 0 rfl rfl 1 (by decide) (hg _ wl_X0_9) (fun _ h9 => h9) rfl dX0_timesUp_34 ?_
    refine zz_ladd hx hb dX0_timesUp_37 ?_
    refine lv_lconst (v := zl (1)) hx hb dX0_timesUp_38 (by decide) ?_
    refine zz_lsub hx hb dX0_timesUp_39 ?_
    refine zz_topl (z := ((a % b * f + b - 1 : Nat) : Int)) (congrArg zl (by omega)) ?_
    refine lv_aload_n hx hb dX0_timesUp_40 rfl (lv_at hl 0 rfl) ?_
    refine va_get (D := (dC, dI)) (ci := 0) (v := .long (zl ((b : Int)))) (C := RX0) (T := TX0) (N := 2) hx hb hg inX0 hown hK hP 0 rfl rfl 1 (by decide) (hg _ wl_X0_9) (fun _ h9 => h9) rfl dX0_timesUp_41 ?_
    refine zz_ldiv hx hb (by omega) (by omega) dX0_timesUp_44 ?_
    refine zz_topl (z := (((a % b * f + b - 1) / b : Nat) : Int)) (congrArg zl rfl) ?_
    refine zz_ladd hx hb dX0_timesUp_45 ?_
    refine zz_topl (z := ((a / b * f + (a % b * f + b - 1) / b : Nat) : Int)) (congrArg zl (by push_cast; rfl)) ?_
    rw [hQQ]
    exact rd_l hx hb hr hlocks (by rw [ma_tu a b f hb0]) dX0_timesUp_46
  · exact absurd c_5 (by omega)

abbrev rm_X0_circledDown : Room := { frames := 1, cells := 0, slots := 0, locals := 22 }
set_option maxHeartbeats 4000000 in
set_option maxRecDepth 100000 in
theorem c_X0_circledDown (l : Launch) (dC : Nat → ClassId) (dI : Nat → Nat → Nat) (h0 : Nat) (a b : Nat) (hb0 : 0 < b) (hb9 : b < 29000000000) (hv : a ≤ 20000000 * b) : Met l yX0_circledDown (Cond.code yX0_circledDown cX0_circledDown 1 ((Option.some Jvm.ClassFile.FieldType.long)) :: gw) rm_X0_circledDown (PcR [.ref h0] (dC, dI) vwCl [(h0, .inr (0, [.long (zl ((a : Int))), .long (zl ((b : Int)))]))] []) (RdQ (some (.long (zl ((a * 314159265 / b / 100000000 : Nat) : Int))))) 0 0 (fun _ => False) := by
  refine Met.ofW (cc := cX0_circledDown) (maxL := 1) (ret := ((Option.some Jvm.ClassFile.FieldType.long))) (by decide) rfl ?_
  intro p e s m args below meth c s₁ B hml hv
  obtain ⟨hargs, hP, hK⟩ := hv
  have hx := B.exec
  have hb := B.bytes
  have hr := B.returns
  have hts := atoms_spec (ws := Cond.code yX0_circledDown cX0_circledDown 1 ((Option.some Jvm.ClassFile.FieldType.long)) :: gw) B.pre
  have hg : ∀ w ∈ gw, w.before args s = true := fun w h => hts w (List.mem_cons_of_mem _ h)
  have hown : s.vm.findClass RX0 = some m.cls := findClass_of_methodNamed B.named
  have hlocks := B.notSynchronized
  show W p l e rm_X0_circledDown s m args below meth c s.heap [] 0 0 _ _
  have hl := lv_entry ([.ref h0]) (n := 1) (Nat.le_of_ble_eq_true rfl)
  rw [show entryFrame m args 1 = entryFrame m ([.ref h0] : List Value).toArray 1 by rw [hargs], lg_entry_eq]
  generalize (lg_sl ([.ref h0]) ++ List.replicate (1 - (lg_sl ([.ref h0])).length) Slot.unset).toArray = ls at hl ⊢
  have hl : lv_has ls 1 [(0, .ref h0)] := hl
  obtain ⟨QQ, hQQ⟩ : ∃ Q, Q = MQ below (RdQ (some (.long (zl ((a * 314159265 / b / 100000000 : Nat) : Int))))) args s 0 0 (fun _ => False) := ⟨_, rfl⟩
  rw [← hQQ]
  have hm := Nat.mod_lt a hb0
  have hq : a * 314159265 / b ≤ 6283185300000000 := by
    apply Nat.div_le_of_le_mul
    omega
  have hq2 : (a * 314159266 + b - 1) / b ≤ 6283185320000001 := by
    apply Nat.div_le_of_le_mul
    omega
  refine lv_aload_n hx hb dX0_circledDown_0 rfl (lv_at hl 0 rfl) ?_
  refine lv_ldc2 (v := 314159265) hx hb hown (hg _ wl_X0_25) dX0_circledDown_1 ?_
  refine zz_topl (z := 314159265) (by decide) ?_
  refine rdV (As := [.long (zl (314159265))]) (rest := []) (n := 1) hx hb hml hown hg (c_X0_timesDown l dC dI h0 a b 314159265 hb0 (by omega) (by omega) (by omega)) (gwV wl_X0_27 wm_X0_timesDown we_X0_timesDown wi_X0 wc_X0_timesDown) rfl rfl (by decide +kernel) ⟨Nat.le_of_ble_eq_true rfl, Nat.le_of_ble_eq_true rfl⟩ (hK.sub [] rfl) (hP.sub [0] rfl) 0 rfl rfl rfl rfl hl.1 rfl (Nat.le_of_ble_eq_true rfl) dX0_circledDown_4 ⟨Nat.zero_le _, Nat.zero_le _⟩ ?_
  refine lv_ldc2 (v := 100000000) hx hb hown (hg _ wl_X0_31) dX0_circledDown_7 ?_
  refine zz_topl (z := 100000000) (by decide) ?_
  refine zz_ldiv hx hb (zn_bd (by omega)) (by omega) dX0_circledDown_10 ?_
  refine zz_topl (z := ((a * 314159265 / b / 100000000 : Nat) : Int)) (congrArg zl rfl) ?_
  rw [hQQ]
  exact rd_l hx hb hr hlocks rfl dX0_circledDown_11

abbrev rm_X0_circledUp : Room := { frames := 1, cells := 0, slots := 0, locals := 22 }
set_option maxHeartbeats 4000000 in
set_option maxRecDepth 100000 in
theorem c_X0_circledUp (l : Launch) (dC : Nat → ClassId) (dI : Nat → Nat → Nat) (h0 : Nat) (a b : Nat) (hb0 : 0 < b) (hb9 : b < 29000000000) (hv : a ≤ 20000000 * b) : Met l yX0_circledUp (Cond.code yX0_circledUp cX0_circledUp 1 ((Option.some Jvm.ClassFile.FieldType.long)) :: gw) rm_X0_circledUp (PcR [.ref h0] (dC, dI) vwCl [(h0, .inr (0, [.long (zl ((a : Int))), .long (zl ((b : Int)))]))] []) (RdQ (some (.long (zl ((((a * 314159266 + b - 1) / b + 99999999) / 100000000 : Nat) : Int))))) 0 0 (fun _ => False) := by
  refine Met.ofW (cc := cX0_circledUp) (maxL := 1) (ret := ((Option.some Jvm.ClassFile.FieldType.long))) (by decide) rfl ?_
  intro p e s m args below meth c s₁ B hml hv
  obtain ⟨hargs, hP, hK⟩ := hv
  have hx := B.exec
  have hb := B.bytes
  have hr := B.returns
  have hts := atoms_spec (ws := Cond.code yX0_circledUp cX0_circledUp 1 ((Option.some Jvm.ClassFile.FieldType.long)) :: gw) B.pre
  have hg : ∀ w ∈ gw, w.before args s = true := fun w h => hts w (List.mem_cons_of_mem _ h)
  have hown : s.vm.findClass RX0 = some m.cls := findClass_of_methodNamed B.named
  have hlocks := B.notSynchronized
  show W p l e rm_X0_circledUp s m args below meth c s.heap [] 0 0 _ _
  have hl := lv_entry ([.ref h0]) (n := 1) (Nat.le_of_ble_eq_true rfl)
  rw [show entryFrame m args 1 = entryFrame m ([.ref h0] : List Value).toArray 1 by rw [hargs], lg_entry_eq]
  generalize (lg_sl ([.ref h0]) ++ List.replicate (1 - (lg_sl ([.ref h0])).length) Slot.unset).toArray = ls at hl ⊢
  have hl : lv_has ls 1 [(0, .ref h0)] := hl
  obtain ⟨QQ, hQQ⟩ : ∃ Q, Q = MQ below (RdQ (some (.long (zl ((((a * 314159266 + b - 1) / b + 99999999) / 100000000 : Nat) : Int))))) args s 0 0 (fun _ => False) := ⟨_, rfl⟩
  rw [← hQQ]
  have hm := Nat.mod_lt a hb0
  have hq : a * 314159265 / b ≤ 6283185300000000 := by
    apply Nat.div_le_of_le_mul
    omega
  have hq2 : (a * 314159266 + b - 1) / b ≤ 6283185320000001 := by
    apply Nat.div_le_of_le_mul
    omega
  refine lv_aload_n hx hb dX0_circledUp_0 rfl (lv_at hl 0 rfl) ?_
  refine lv_ldc2 (v := 314159266) hx hb hown (hg _ wl_X0_33) dX0_circledUp_1 ?_
  refine zz_topl (z := 314159266) (by decide) ?_
  refine rdV (As := [.long (zl (314159266))]) (rest := []) (n := 1) hx hb hml hown hg (c_X0_timesUp l dC dI h0 a b 314159266 hb0 (by omega) (by omega) (by omega)) (gwV wl_X0_35 wm_X0_timesUp we_X0_timesUp wi_X0 wc_X0_timesUp) rfl rfl (by decide +kernel) ⟨Nat.le_of_ble_eq_true rfl, Nat.le_of_ble_eq_true rfl⟩ (hK.sub [] rfl) (hP.sub [0] rfl) 0 rfl rfl rfl rfl hl.1 rfl (Nat.le_of_ble_eq_true rfl) dX0_circledUp_4 ⟨Nat.zero_le _, Nat.zero_le _⟩ ?_
  refine lv_ldc2 (v := 100000000) hx hb hown (hg _ wl_X0_31) dX0_circledUp_7 ?_
  refine zz_topl (z := 100000000) (by decide) ?_
  refine zz_ladd hx hb dX0_circledUp_10 ?_
  refine lv_lconst (v := zl (1)) hx hb dX0_circledUp_11 (by decide) ?_
  refine zz_lsub hx hb dX0_circledUp_12 ?_
  refine zz_topl (z := (((a * 314159266 + b - 1) / b + 99999999 : Nat) : Int)) (congrArg zl (by omega)) ?_
  refine lv_ldc2 (v := 100000000) hx hb hown (hg _ wl_X0_31) dX0_circledUp_13 ?_
  refine zz_topl (z := 100000000) (by decide) ?_
  refine zz_ldiv hx hb (zn_bd (by omega)) (by omega) dX0_circledUp_16 ?_
  refine zz_topl (z := ((((a * 314159266 + b - 1) / b + 99999999) / 100000000 : Nat) : Int)) (congrArg zl rfl) ?_
  rw [hQQ]
  exact rd_l hx hb hr hlocks rfl dX0_circledUp_17
end
section
def p_sc (hs rs : Nat → Int) (k : Nat) (wall h : Int) : Int := max 0 (rs (k - 1) - wall) * (hs k - h) + max 0 (rs k - wall) * (h - hs (k - 1))
def p_rad (hs rs : Nat → Int) (h : Int) : Nat → Nat → Int → Int
  | 0, _, g => g
  | f + 1, k, g => if hs k = h then p_rad hs rs h f (k + 1) (max g (rs k)) else if 0 < k ∧ hs (k - 1) < h ∧ h < hs k then Int.tdiv (p_sc hs rs k 0 h) (hs k - hs (k - 1)) else p_rad hs rs h f (k + 1) g
def p_radius (n : Nat) (hs rs : Nat → Int) (h : Int) : Int := p_rad hs rs h n 0 (-1)
def p_cu (hs : Nat → Int) (h : Int) : Nat → Nat
  | 0 => 0
  | k + 1 => p_cu hs h k + if hs k ≤ h then 1 else 0
def p_co (rs : Nat → Int) : Nat → Nat
  | 0 => 0
  | k + 1 => p_co rs k + if rs k = 0 then 0 else 1
def p_fo (rs : Nat → Int) (ahead : Int) : Nat → Nat → Nat → Int
  | 0, _, _ => -1
  | f + 1, k, d => if rs k = 0 then p_fo rs ahead f (k + 1) d else if (d : Int) = ahead then (k : Int) else p_fo rs ahead f (k + 1) (d + 1)
theorem p_cu_le (hs : Nat → Int) (h : Int) (k : Nat) : p_cu hs h k ≤ k := by
  induction k with
  | zero => exact Nat.le_refl 0
  | succ k ih => unfold p_cu; split <;> omega
theorem p_co_le (rs : Nat → Int) (k : Nat) : p_co rs k ≤ k := by
  induction k with
  | zero => exact Nat.le_refl 0
  | succ k ih => unfold p_co; split <;> omega
theorem p_mulb {a b A B : Int} (h1 : 0 ≤ a ∧ a ≤ A) (h2 : 0 ≤ b ∧ b ≤ B) : 0 ≤ a * b ∧ a * b ≤ A * B :=
  ⟨Int.mul_nonneg h1.1 h2.1, Int.mul_le_mul h1.2 h2.2 h2.1 (by omega)⟩
theorem p_sc_bd {hs rs : Nat → Int} {k : Nat} {wall h : Int} (hR : ∀ j, 0 ≤ rs j ∧ rs j ≤ 200) (hw : 0 ≤ wall) (h1 : hs (k - 1) ≤ h) (h2 : h ≤ hs k) : 0 ≤ p_sc hs rs k wall h ∧ p_sc hs rs k wall h ≤ 200 * (hs k - hs (k - 1)) := by
  have a := hR (k - 1)
  have b := hR k
  have h3 := p_mulb (a := max 0 (rs (k - 1) - wall)) (b := hs k - h) (A := 200) (B := hs k - h) (by omega) (by omega)
  have h4 := p_mulb (a := max 0 (rs k - wall)) (b := h - hs (k - 1)) (A := 200) (B := h - hs (k - 1)) (by omega) (by omega)
  unfold p_sc
  omega
def p_canf (n : Nat) (hs rs : Nat → Int) (h r : Int) : Bool := if n = 0 then true else if h = hs (n - 1) then !(decide (1 < n ∧ hs (n - 2) = h)) && decide (r ≠ rs (n - 1)) else decide (hs (n - 1) < h)
def zb (b : Bool) : Int := if b then 1 else 0
theorem zb_t {b : Bool} (h : b = true) : zb b = 1 := by rw [h]; rfl
theorem zb_f {b : Bool} (h : b = false) : zb b = 0 := by rw [h]; rfl
theorem zb_01 (b : Bool) : zb b = 0 ∨ zb b = 1 := by cases b <;> simp [zb]
abbrev rm_X1_isClosed : Room := { frames := 0, cells := 0, slots := 0, locals := 0 }
set_option maxHeartbeats 4000000 in
set_option maxRecDepth 100000 in
theorem c_X1_isClosed (l : Launch) (dC : Nat → ClassId) (dI : Nat → Nat → Nat) (h0 h1 h2 : Nat) (cA : ClassId) (n : Nat) (th wc : Int) (hs rs : Nat → Int) (hn : n ≤ 12) (hw : wc = 0 ∨ wc = 1) : Met l yX1_isClosed (Cond.code yX1_isClosed cX1_isClosed 1 ((Option.some Jvm.ClassFile.FieldType.boolean)) :: gw) rm_X1_isClosed (PcR [.ref h0] (dC, dI) vwCl [(h0, .inr (1, [.ref h1, .ref h2, .int (zi ((n : Int))), .int (zi (th)), .int (zi (wc))])), (h1, .inl (cA, 12, .inl (zA (hs)))), (h2, .inl (cA, 12, .inl (zA (rs))))] [(cA, .int)]) (RdQ (some (.int (zi (zb (decide (wc = 1 ∨ 12 ≤ n))))))) 0 0 (fun _ => False) := by
  refine Met.ofW (cc := cX1_isClosed) (maxL := 1) (ret := ((Option.some Jvm.ClassFile.FieldType.boolean))) (by decide) rfl ?_
  intro p e s m args below meth c s₁ B hml hv
  obtain ⟨hargs, hP, hK⟩ := hv
  have hx := B.exec
  have hb := B.bytes
  have hr := B.returns
  have hts := atoms_spec (ws := Cond.code yX1_isClosed cX1_isClosed 1 ((Option.some Jvm.ClassFile.FieldType.boolean)) :: gw) B.pre
  have hg : ∀ w ∈ gw, w.before args s = true := fun w h => hts w (List.mem_cons_of_mem _ h)
  have hown : s.vm.findClass RX1 = some m.cls := findClass_of_methodNamed B.named
  have hlocks := B.notSynchronized
  show W p l e rm_X1_isClosed s m args below meth c s.heap [] 0 0 _ _
  have hl := lv_entry ([.ref h0]) (n := 1) (Nat.le_of_ble_eq_true rfl)
  rw [show entryFrame m args 1 = entryFrame m ([.ref h0] : List Value).toArray 1 by rw [hargs], lg_entry_eq]
  generalize (lg_sl ([.ref h0]) ++ List.replicate (1 - (lg_sl ([.ref h0])).length) Slot.unset).toArray = ls at hl ⊢
  have hl : lv_has ls 1 [(0, .ref h0)] := hl
  obtain ⟨QQ, hQQ⟩ : ∃ Q, Q = MQ below (RdQ (some (.int (zi (zb (decide (wc = 1 ∨ 12 ≤ n))))))) args s 0 0 (fun _ => False) := ⟨_, rfl⟩
  rw [← hQQ]
  refine lv_aload_n hx hb dX1_isClosed_0 rfl (lv_at hl 0 rfl) ?_
  refine va_get (D := (dC, dI)) (ci := 1) (v := .int (zi (wc))) (C := RX1) (T := TX1) (N := 5) hx hb hg inX1 hown hK hP 0 rfl rfl 4 (by decide) (hg _ wl_X1_18) (fun _ h9 => h9) rfl dX1_isClosed_1 ?_
  refine zz_if_ne (tgt := 16) hx hb (by omega) dX1_isClosed_4 (by decide) (fun c_4 => ?_) (fun c_4 => ?_)
  · refine lv_iconst (v := zi (1)) hx hb dX1_isClosed_16 rfl ?_
    refine lv_goto (tgt := 21) hx hb dX1_isClosed_17 (by decide) ?_
    rw [hQQ]
    exact rd_z hx hb hr hlocks (zb_t (by simp; omega)).symm (by first | exact Or.inl rfl | exact Or.inr rfl | omega) dX1_isClosed_21
  · refine lv_aload_n hx hb dX1_isClosed_7 rfl (lv_at hl 0 rfl) ?_
    refine va_get (D := (dC, dI)) (ci := 1) (v := .int (zi ((n : Int)))) (C := RX1) (T := TX1) (N := 5) hx hb hg inX1 hown hK hP 0 rfl rfl 2 (by decide) (hg _ wl_X1_22) (fun _ h9 => h9) rfl dX1_isClosed_8 ?_
    refine lv_bipush (v := zi (12)) hx hb dX1_isClosed_11 (by decide) ?_
    refine zz_icmp_lt (tgt := 20) hx hb (by omega) (by omega) dX1_isClosed_13 (by decide) (fun c_13 => ?_) (fun c_13 => ?_)
    · refine lv_iconst (v := zi (0)) hx hb dX1_isClosed_20 rfl ?_
      rw [hQQ]
      exact rd_z hx hb hr hlocks (zb_f (by simp; omega)).symm (by first | exact Or.inl rfl | exact Or.inr rfl | omega) dX1_isClosed_21
    · refine lv_iconst (v := zi (1)) hx hb dX1_isClosed_16 rfl ?_
      refine lv_goto (tgt := 21) hx hb dX1_isClosed_17 (by decide) ?_
      rw [hQQ]
      exact rd_z hx hb hr hlocks (zb_t (by simp; omega)).symm (by first | exact Or.inl rfl | exact Or.inr rfl | omega) dX1_isClosed_21

abbrev rm_X1_canFollow : Room := { frames := 0, cells := 0, slots := 0, locals := 0 }
set_option maxHeartbeats 4000000 in
set_option maxRecDepth 100000 in
theorem c_X1_canFollow (l : Launch) (dC : Nat → ClassId) (dI : Nat → Nat → Nat) (h0 h1 h2 : Nat) (cA : ClassId) (n : Nat) (th wc : Int) (hs rs : Nat → Int) (h r : Int) (hn : n ≤ 12) (hH : ∀ j, 0 ≤ hs j ∧ hs j ≤ 400) (hR : ∀ j, 0 ≤ rs j ∧ rs j ≤ 200) (hh : 0 ≤ h ∧ h ≤ 400) (hr9 : 0 ≤ r ∧ r ≤ 200) : Met l yX1_canFollow (Cond.code yX1_canFollow cX1_canFollow 5 ((Option.some Jvm.ClassFile.FieldType.boolean)) :: gw) rm_X1_canFollow (PcR [.ref h0, .int (zi (h)), .int (zi (r))] (dC, dI) vwCl [(h0, .inr (1, [.ref h1, .ref h2, .int (zi ((n : Int))), .int (zi (th)), .int (zi (wc))])), (h1, .inl (cA, 12, .inl (zA (hs)))), (h2, .inl (cA, 12, .inl (zA (rs))))] [(cA, .int)]) (RdQ (some (.int (zi (zb (p_canf n hs rs h r)))))) 0 0 (fun _ => False) := by
  refine Met.ofW (cc := cX1_canFollow) (maxL := 5) (ret := ((Option.some Jvm.ClassFile.FieldType.boolean))) (by decide) rfl ?_
  intro p e s m args below meth c s₁ B hml hv
  obtain ⟨hargs, hP, hK⟩ := hv
  have hx := B.exec
  have hb := B.bytes
  have hr := B.returns
  have hts := atoms_spec (ws := Cond.code yX1_canFollow cX1_canFollow 5 ((Option.some Jvm.ClassFile.FieldType.boolean)) :: gw) B.pre
  have hg : ∀ w ∈ gw, w.before args s = true := fun w h => hts w (List.mem_cons_of_mem _ h)
  have hown : s.vm.findClass RX1 = some m.cls := findClass_of_methodNamed B.named
  have hlocks := B.notSynchronized
  show W p l e rm_X1_canFollow s m args below meth c s.heap [] 0 0 _ _
  have hl := lv_entry ([.ref h0, .int (zi (h)), .int (zi (r))]) (n := 5) (Nat.le_of_ble_eq_true rfl)
  rw [show entryFrame m args 5 = entryFrame m ([.ref h0, .int (zi (h)), .int (zi (r))] : List Value).toArray 5 by rw [hargs], lg_entry_eq]
  generalize (lg_sl ([.ref h0, .int (zi (h)), .int (zi (r))]) ++ List.replicate (5 - (lg_sl ([.ref h0, .int (zi (h)), .int (zi (r))])).length) Slot.unset).toArray = ls at hl ⊢
  have hl : lv_has ls 5 [(0, .ref h0), (1, .int (zi (h))), (2, .int (zi (r)))] := hl
  obtain ⟨QQ, hQQ⟩ : ∃ Q, Q = MQ below (RdQ (some (.int (zi (zb (p_canf n hs rs h r)))))) args s 0 0 (fun _ => False) := ⟨_, rfl⟩
  rw [← hQQ]
  refine lv_aload_n hx hb dX1_canFollow_0 rfl (lv_at hl 0 rfl) ?_
  refine va_get (D := (dC, dI)) (ci := 1) (v := .int (zi ((n : Int)))) (C := RX1) (T := TX1) (N := 5) hx hb hg inX1 hown hK hP 0 rfl rfl 2 (by decide) (hg _ wl_X1_22) (fun _ h9 => h9) rfl dX1_canFollow_1 ?_
  refine zz_if_ne (tgt := 9) hx hb (by omega) dX1_canFollow_4 (by decide) (fun c_4 => ?_) (fun c_4 => ?_)
  · refine lv_aload_n hx hb dX1_canFollow_9 rfl (lv_at hl 0 rfl) ?_
    refine va_get (D := (dC, dI)) (ci := 1) (v := .int (zi ((n : Int)))) (C := RX1) (T := TX1) (N := 5) hx hb hg inX1 hown hK hP 0 rfl rfl 2 (by decide) (hg _ wl_X1_22) (fun _ h9 => h9) rfl dX1_canFollow_10 ?_
    refine lv_iconst (v := zi (1)) hx hb dX1_canFollow_13 rfl ?_
    refine zz_isub hx hb dX1_canFollow_14 ?_
    refine lv_istore_n (lv' := [(3, .int (zi (((n : Int)) - (1)))), (0, .ref h0), (1, .int (zi (h))), (2, .int (zi (r)))]) hx hb dX1_canFollow_15 rfl hl (by decide) rfl (fun ls hl => ?_)
    refine lv_iload_n hx hb dX1_canFollow_16 rfl (lv_at hl 2 rfl) ?_
    refine lv_aload_n hx hb dX1_canFollow_17 rfl (lv_at hl 1 rfl) ?_
    refine va_get (D := (dC, dI)) (ci := 1) (v := .ref h1) (C := RX1) (T := TX1) (N := 5) hx hb hg inX1 hown hK hP 0 rfl rfl 0 (by decide) (hg _ wl_X1_9) (fun _ h9 => h9) rfl dX1_canFollow_18 ?_
    refine lv_iload_n hx hb dX1_canFollow_21 rfl (lv_at hl 0 rfl) ?_
    refine zz_iald hx hb hK hP 1 0 rfl rfl (n - 1) (by omega) (by omega) (by decide) dX1_canFollow_22 ?_
    have hv_1 := hH (n - 1)
    refine zz_icmp_eq (tgt := 42) hx hb (by omega) (by omega) dX1_canFollow_23 (by decide) (fun c_23 => ?_) (fun c_23 => ?_)
    · refine lv_iload_n hx hb dX1_canFollow_42 rfl (lv_at hl 0 rfl) ?_
      refine zz_if_le (tgt := 62) hx hb (by omega) dX1_canFollow_43 (by decide) (fun c_43 => ?_) (fun c_43 => ?_)
      · refine lv_iconst (v := zi (0)) hx hb dX1_canFollow_62 rfl ?_
        refine lv_istore (lv' := [(4, .int (zi (0))), (3, .int (zi (((n : Int)) - (1)))), (0, .ref h0), (1, .int (zi (h))), (2, .int (zi (r)))]) hx hb dX1_canFollow_63 hl (by decide) rfl (fun ls hl => ?_)
        refine lv_iload hx hb dX1_canFollow_65 (lv_at hl 0 rfl) ?_
        refine zz_if_ne (tgt := 84) hx hb (by omega) dX1_canFollow_67 (by decide) (fun c_67 => ?_) (fun c_67 => ?_)
        · refine lv_iconst (v := zi (0)) hx hb dX1_canFollow_84 rfl ?_
          rw [hQQ]
          exact rd_z hx hb hr hlocks (zb_f (by unfold p_canf; first | (simp; omega) | (rw [if_neg (by omega)]; simp; omega) | (rw [if_pos (by omega)]) | (split <;> simp_all <;> omega) | (simp_all; omega))).symm (by first | exact Or.inl rfl | exact Or.inr rfl | omega) dX1_canFollow_85
        · refine lv_iload_n hx hb dX1_canFollow_70 rfl (lv_at hl 4 rfl) ?_
          refine lv_aload_n hx hb dX1_canFollow_71 rfl (lv_at hl 2 rfl) ?_
          refine va_get (D := (dC, dI)) (ci := 1) (v := .ref h2) (C := RX1) (T := TX1) (N := 5) hx hb hg inX1 hown hK hP 0 rfl rfl 1 (by decide) (hg _ wl_X1_15) (fun _ h9 => h9) rfl dX1_canFollow_72 ?_
          refine lv_iload_n hx hb dX1_canFollow_75 rfl (lv_at hl 1 rfl) ?_
          refine zz_iald hx hb hK hP 2 0 rfl rfl (n - 1) (by omega) (by omega) (by decide) dX1_canFollow_76 ?_
          have hv_2 := hR (n - 1)
          refine zz_icmp_eq (tgt := 84) hx hb (by omega) (by omega) dX1_canFollow_77 (by decide) (fun c_77 => ?_) (fun c_77 => ?_)
          · refine lv_iconst (v := zi (0)) hx hb dX1_canFollow_84 rfl ?_
            rw [hQQ]
            exact rd_z hx hb hr hlocks (zb_f (by unfold p_canf; first | (simp; omega) | (rw [if_neg (by omega)]; simp; omega) | (rw [if_pos (by omega)]) | (split <;> simp_all <;> omega) | (simp_all; omega))).symm (by first | exact Or.inl rfl | exact Or.inr rfl | omega) dX1_canFollow_85
          · refine lv_iconst (v := zi (1)) hx hb dX1_canFollow_80 rfl ?_
            refine lv_goto (tgt := 85) hx hb dX1_canFollow_81 (by decide) ?_
            rw [hQQ]
            exact rd_z hx hb hr hlocks (zb_t (by unfold p_canf; first | (simp; omega) | (rw [if_neg (by omega)]; simp; omega) | (rw [if_pos (by omega)]) | (split <;> simp_all <;> omega) | (simp_all; omega))).symm (by first | exact Or.inl rfl | exact Or.inr rfl | omega) dX1_canFollow_85
      · refine lv_aload_n hx hb dX1_canFollow_46 rfl (lv_at hl 1 rfl) ?_
        refine va_get (D := (dC, dI)) (ci := 1) (v := .ref h1) (C := RX1) (T := TX1) (N := 5) hx hb hg inX1 hown hK hP 0 rfl rfl 0 (by decide) (hg _ wl_X1_9) (fun _ h9 => h9) rfl dX1_canFollow_47 ?_
        refine lv_iload_n hx hb dX1_canFollow_50 rfl (lv_at hl 0 rfl) ?_
        refine lv_iconst (v := zi (1)) hx hb dX1_canFollow_51 rfl ?_
        refine zz_isub hx hb dX1_canFollow_52 ?_
        refine zz_iald hx hb hK hP 1 0 rfl rfl (n - 2) (by omega) (by omega) (by decide) dX1_canFollow_53 ?_
        have hv_3 := hH (n - 2)
        refine lv_iload_n hx hb dX1_canFollow_54 rfl (lv_at hl 2 rfl) ?_
        refine zz_icmp_ne (tgt := 62) hx hb (by omega) (by omega) dX1_canFollow_55 (by decide) (fun c_55 => ?_) (fun c_55 => ?_)
        · refine lv_iconst (v := zi (0)) hx hb dX1_canFollow_62 rfl ?_
          refine lv_istore (lv' := [(4, .int (zi (0))), (3, .int (zi (((n : Int)) - (1)))), (0, .ref h0), (1, .int (zi (h))), (2, .int (zi (r)))]) hx hb dX1_canFollow_63 hl (by decide) rfl (fun ls hl => ?_)
          refine lv_iload hx hb dX1_canFollow_65 (lv_at hl 0 rfl) ?_
          refine zz_if_ne (tgt := 84) hx hb (by omega) dX1_canFollow_67 (by decide) (fun c_67 => ?_) (fun c_67 => ?_)
          · refine lv_iconst (v := zi (0)) hx hb dX1_canFollow_84 rfl ?_
            rw [hQQ]
            exact rd_z hx hb hr hlocks (zb_f (by unfold p_canf; first | (simp; omega) | (rw [if_neg (by omega)]; simp; omega) | (rw [if_pos (by omega)]) | (split <;> simp_all <;> omega) | (simp_all; omega))).symm (by first | exact Or.inl rfl | exact Or.inr rfl | omega) dX1_canFollow_85
          · refine lv_iload_n hx hb dX1_canFollow_70 rfl (lv_at hl 4 rfl) ?_
            refine lv_aload_n hx hb dX1_canFollow_71 rfl (lv_at hl 2 rfl) ?_
            refine va_get (D := (dC, dI)) (ci := 1) (v := .ref h2) (C := RX1) (T := TX1) (N := 5) hx hb hg inX1 hown hK hP 0 rfl rfl 1 (by decide) (hg _ wl_X1_15) (fun _ h9 => h9) rfl dX1_canFollow_72 ?_
            refine lv_iload_n hx hb dX1_canFollow_75 rfl (lv_at hl 1 rfl) ?_
            refine zz_iald hx hb hK hP 2 0 rfl rfl (n - 1) (by omega) (by omega) (by decide) dX1_canFollow_76 ?_
            have hv_4 := hR (n - 1)
            refine zz_icmp_eq (tgt := 84) hx hb (by omega) (by omega) dX1_canFollow_77 (by decide) (fun c_77 => ?_) (fun c_77 => ?_)
            · refine lv_iconst (v := zi (0)) hx hb dX1_canFollow_84 rfl ?_
              rw [hQQ]
              exact rd_z hx hb hr hlocks (zb_f (by unfold p_canf; first | (simp; omega) | (rw [if_neg (by omega)]; simp; omega) | (rw [if_pos (by omega)]) | (split <;> simp_all <;> omega) | (simp_all; omega))).symm (by first | exact Or.inl rfl | exact Or.inr rfl | omega) dX1_canFollow_85
            · refine lv_iconst (v := zi (1)) hx hb dX1_canFollow_80 rfl ?_
              refine lv_goto (tgt := 85) hx hb dX1_canFollow_81 (by decide) ?_
              rw [hQQ]
              exact rd_z hx hb hr hlocks (zb_t (by unfold p_canf; first | (simp; omega) | (rw [if_neg (by omega)]; simp; omega) | (rw [if_pos (by omega)]) | (split <;> simp_all <;> omega) | (simp_all; omega))).symm (by first | exact Or.inl rfl | exact Or.inr rfl | omega) dX1_canFollow_85
        · refine lv_iconst (v := zi (1)) hx hb dX1_canFollow_58 rfl ?_
          refine lv_goto (tgt := 63) hx hb dX1_canFollow_59 (by decide) ?_
          refine lv_istore (lv' := [(4, .int (zi (1))), (3, .int (zi (((n : Int)) - (1)))), (0, .ref h0), (1, .int (zi (h))), (2, .int (zi (r)))]) hx hb dX1_canFollow_63 hl (by decide) rfl (fun ls hl => ?_)
          refine lv_iload hx hb dX1_canFollow_65 (lv_at hl 0 rfl) ?_
          refine zz_if_ne (tgt := 84) hx hb (by omega) dX1_canFollow_67 (by decide) (fun c_67 => ?_) (fun c_67 => ?_)
          · refine lv_iconst (v := zi (0)) hx hb dX1_canFollow_84 rfl ?_
            rw [hQQ]
            exact rd_z hx hb hr hlocks (zb_f (by unfold p_canf; first | (simp; omega) | (rw [if_neg (by omega)]; simp; omega) | (rw [if_pos (by omega)]) | (split <;> simp_all <;> omega) | (simp_all; omega))).symm (by first | exact Or.inl rfl | exact Or.inr rfl | omega) dX1_canFollow_85
          · refine lv_iload_n hx hb dX1_canFollow_70 rfl (lv_at hl 4 rfl) ?_
            refine lv_aload_n hx hb dX1_canFollow_71 rfl (lv_at hl 2 rfl) ?_
            refine va_get (D := (dC, dI)) (ci := 1) (v := .ref h2) (C := RX1) (T := TX1) (N := 5) hx hb hg inX1 hown hK hP 0 rfl rfl 1 (by decide) (hg _ wl_X1_15) (fun _ h9 => h9) rfl dX1_canFollow_72 ?_
            refine lv_iload_n hx hb dX1_canFollow_75 rfl (lv_at hl 1 rfl) ?_
            refine zz_iald hx hb hK hP 2 0 rfl rfl (n - 1) (by omega) (by omega) (by decide) dX1_canFollow_76 ?_
            have hv_5 := hR (n - 1)
            refine zz_icmp_eq (tgt := 84) hx hb (by omega) (by omega) dX1_canFollow_77 (by decide) (fun c_77 => ?_) (fun c_77 => ?_)
            · refine lv_iconst (v := zi (0)) hx hb dX1_canFollow_84 rfl ?_
              rw [hQQ]
              exact rd_z hx hb hr hlocks (zb_f (by unfold p_canf; first | (simp; omega) | (rw [if_neg (by omega)]; simp; omega) | (rw [if_pos (by omega)]) | (split <;> simp_all <;> omega) | (simp_all; omega))).symm (by first | exact Or.inl rfl | exact Or.inr rfl | omega) dX1_canFollow_85
            · refine lv_iconst (v := zi (1)) hx hb dX1_canFollow_80 rfl ?_
              refine lv_goto (tgt := 85) hx hb dX1_canFollow_81 (by decide) ?_
              rw [hQQ]
              exact rd_z hx hb hr hlocks (zb_t (by unfold p_canf; first | (simp; omega) | (rw [if_neg (by omega)]; simp; omega) | (rw [if_pos (by omega)]) | (split <;> simp_all <;> omega) | (simp_all; omega))).symm (by first | exact Or.inl rfl | exact Or.inr rfl | omega) dX1_canFollow_85
    · refine lv_iload_n hx hb dX1_canFollow_26 rfl (lv_at hl 2 rfl) ?_
      refine lv_aload_n hx hb dX1_canFollow_27 rfl (lv_at hl 1 rfl) ?_
      refine va_get (D := (dC, dI)) (ci := 1) (v := .ref h1) (C := RX1) (T := TX1) (N := 5) hx hb hg inX1 hown hK hP 0 rfl rfl 0 (by decide) (hg _ wl_X1_9) (fun _ h9 => h9) rfl dX1_canFollow_28 ?_
      refine lv_iload_n hx hb dX1_canFollow_31 rfl (lv_at hl 0 rfl) ?_
      refine zz_iald hx hb hK hP 1 0 rfl rfl (n - 1) (by omega) (by omega) (by decide) dX1_canFollow_32 ?_
      have hv_6 := hH (n - 1)
      refine zz_icmp_le (tgt := 40) hx hb (by omega) (by omega) dX1_canFollow_33 (by decide) (fun c_33 => ?_) (fun c_33 => ?_)
      · refine lv_iconst (v := zi (0)) hx hb dX1_canFollow_40 rfl ?_
        rw [hQQ]
        exact rd_z hx hb hr hlocks (zb_f (by unfold p_canf; first | (simp; omega) | (rw [if_neg (by omega)]; simp; omega) | (rw [if_pos (by omega)]) | (split <;> simp_all <;> omega) | (simp_all; omega))).symm (by first | exact Or.inl rfl | exact Or.inr rfl | omega) dX1_canFollow_41
      · refine lv_iconst (v := zi (1)) hx hb dX1_canFollow_36 rfl ?_
        refine lv_goto (tgt := 41) hx hb dX1_canFollow_37 (by decide) ?_
        rw [hQQ]
        exact rd_z hx hb hr hlocks (zb_t (by unfold p_canf; first | (simp; omega) | (rw [if_neg (by omega)]; simp; omega) | (rw [if_pos (by omega)]) | (split <;> simp_all <;> omega) | (simp_all; omega))).symm (by first | exact Or.inl rfl | exact Or.inr rfl | omega) dX1_canFollow_41
  · refine lv_iconst (v := zi (1)) hx hb dX1_canFollow_7 rfl ?_
    rw [hQQ]
    exact rd_z hx hb hr hlocks (zb_t (by unfold p_canf; first | (simp; omega) | (rw [if_neg (by omega)]; simp; omega) | (rw [if_pos (by omega)]) | (split <;> simp_all <;> omega) | (simp_all; omega))).symm (by first | exact Or.inl rfl | exact Or.inr rfl | omega) dX1_canFollow_8

abbrev rm_X1_scaledRadius : Room := { frames := 1, cells := 0, slots := 0, locals := 24 }
set_option maxHeartbeats 4000000 in
set_option maxRecDepth 100000 in
theorem c_X1_scaledRadius (l : Launch) (dC : Nat → ClassId) (dI : Nat → Nat → Nat) (h0 h1 h2 : Nat) (cA : ClassId) (n : Nat) (th wc : Int) (hs rs : Nat → Int) (k : Nat) (wall h : Int) (hn : n ≤ 12) (hH : ∀ j, 0 ≤ hs j ∧ hs j ≤ 400) (hR : ∀ j, 0 ≤ rs j ∧ rs j ≤ 200) (hk : 1 ≤ k ∧ k < 12) (hw : 0 ≤ wall ∧ wall ≤ 50) : Met l yX1_scaledRadius (Cond.code yX1_scaledRadius cX1_scaledRadius 6 ((Option.some Jvm.ClassFile.FieldType.int)) :: gw) rm_X1_scaledRadius (PcR [.ref h0, .int (zi ((k : Int))), .int (zi (wall)), .int (zi (h))] (dC, dI) vwCl [(h0, .inr (1, [.ref h1, .ref h2, .int (zi ((n : Int))), .int (zi (th)), .int (zi (wc))])), (h1, .inl (cA, 12, .inl (zA (hs)))), (h2, .inl (cA, 12, .inl (zA (rs))))] [(cA, .int)]) (RdQ (some (.int (zi (p_sc hs rs k wall h))))) 0 0 (fun _ => False) := by
  refine Met.ofW (cc := cX1_scaledRadius) (maxL := 6) (ret := ((Option.some Jvm.ClassFile.FieldType.int))) (by decide) rfl ?_
  intro p e s m args below meth c s₁ B hml hv
  obtain ⟨hargs, hP, hK⟩ := hv
  have hx := B.exec
  have hb := B.bytes
  have hr := B.returns
  have hts := atoms_spec (ws := Cond.code yX1_scaledRadius cX1_scaledRadius 6 ((Option.some Jvm.ClassFile.FieldType.int)) :: gw) B.pre
  have hg : ∀ w ∈ gw, w.before args s = true := fun w h => hts w (List.mem_cons_of_mem _ h)
  have hown : s.vm.findClass RX1 = some m.cls := findClass_of_methodNamed B.named
  have hlocks := B.notSynchronized
  show W p l e rm_X1_scaledRadius s m args below meth c s.heap [] 0 0 _ _
  have hl := lv_entry ([.ref h0, .int (zi ((k : Int))), .int (zi (wall)), .int (zi (h))]) (n := 6) (Nat.le_of_ble_eq_true rfl)
  rw [show entryFrame m args 6 = entryFrame m ([.ref h0, .int (zi ((k : Int))), .int (zi (wall)), .int (zi (h))] : List Value).toArray 6 by rw [hargs], lg_entry_eq]
  generalize (lg_sl ([.ref h0, .int (zi ((k : Int))), .int (zi (wall)), .int (zi (h))]) ++ List.replicate (6 - (lg_sl ([.ref h0, .int (zi ((k : Int))), .int (zi (wall)), .int (zi (h))])).length) Slot.unset).toArray = ls at hl ⊢
  have hl : lv_has ls 6 [(0, .ref h0), (1, .int (zi ((k : Int)))), (2, .int (zi (wall))), (3, .int (zi (h)))] := hl
  obtain ⟨QQ, hQQ⟩ : ∃ Q, Q = MQ below (RdQ (some (.int (zi (p_sc hs rs k wall h))))) args s 0 0 (fun _ => False) := ⟨_, rfl⟩
  rw [← hQQ]
  refine lv_iconst (v := zi (0)) hx hb dX1_scaledRadius_0 rfl ?_
  refine lv_aload_n hx hb dX1_scaledRadius_1 rfl (lv_at hl 0 rfl) ?_
  refine va_get (D := (dC, dI)) (ci := 1) (v := .ref h2) (C := RX1) (T := TX1) (N := 5) hx hb hg inX1 hown hK hP 0 rfl rfl 1 (by decide) (hg _ wl_X1_15) (fun _ h9 => h9) rfl dX1_scaledRadius_2 ?_
  refine lv_iload_n hx hb dX1_scaledRadius_5 rfl (lv_at hl 1 rfl) ?_
  refine lv_iconst (v := zi (1)) hx hb dX1_scaledRadius_6 rfl ?_
  refine zz_isub hx hb dX1_scaledRadius_7 ?_
  refine zz_iald hx hb hK hP 2 0 rfl rfl (k - 1) (by omega) (by omega) (by decide) dX1_scaledRadius_8 ?_
  have hv_1 := hR (k - 1)
  refine lv_iload_n hx hb dX1_scaledRadius_9 rfl (lv_at hl 2 rfl) ?_
  refine zz_isub hx hb dX1_scaledRadius_10 ?_
  refine va_mmax hx hb (hml.trans hl.1.symm) hown (hg _ wl_X1_34) (hg _ wt_Math_max) (hg _ wi_Math) (hg _ wc_Math_max_II_I) (Nat.le_of_ble_eq_true rfl) (Nat.le_of_ble_eq_true rfl) (Nat.zero_le _) (Nat.zero_le _) dX1_scaledRadius_11 ?_
  refine zz_topi (z := max (0) ((rs (k - 1)) - (wall))) (zi_max (by omega)) ?_
  refine lv_istore (lv' := [(4, .int (zi (max (0) ((rs (k - 1)) - (wall))))), (0, .ref h0), (1, .int (zi ((k : Int)))), (2, .int (zi (wall))), (3, .int (zi (h)))]) hx hb dX1_scaledRadius_14 hl (by decide) rfl (fun ls hl => ?_)
  refine lv_iconst (v := zi (0)) hx hb dX1_scaledRadius_16 rfl ?_
  refine lv_aload_n hx hb dX1_scaledRadius_17 rfl (lv_at hl 1 rfl) ?_
  refine va_get (D := (dC, dI)) (ci := 1) (v := .ref h2) (C := RX1) (T := TX1) (N := 5) hx hb hg inX1 hown hK hP 0 rfl rfl 1 (by decide) (hg _ wl_X1_15) (fun _ h9 => h9) rfl dX1_scaledRadius_18 ?_
  refine lv_iload_n hx hb dX1_scaledRadius_21 rfl (lv_at hl 2 rfl) ?_
  refine zz_iald hx hb hK hP 2 0 rfl rfl (k) (by omega) (by omega) (by decide) dX1_scaledRadius_22 ?_
  have hv_2 := hR (k)
  refine lv_iload_n hx hb dX1_scaledRadius_23 rfl (lv_at hl 3 rfl) ?_
  refine zz_isub hx hb dX1_scaledRadius_24 ?_
  refine va_mmax hx hb (hml.trans hl.1.symm) hown (hg _ wl_X1_34) (hg _ wt_Math_max) (hg _ wi_Math) (hg _ wc_Math_max_II_I) (Nat.le_of_ble_eq_true rfl) (Nat.le_of_ble_eq_true rfl) (Nat.zero_le _) (Nat.zero_le _) dX1_scaledRadius_25 ?_
  refine zz_topi (z := max (0) ((rs (k)) - (wall))) (zi_max (by omega)) ?_
  refine lv_istore (lv' := [(5, .int (zi (max (0) ((rs (k)) - (wall))))), (4, .int (zi (max (0) ((rs (k - 1)) - (wall))))), (0, .ref h0), (1, .int (zi ((k : Int)))), (2, .int (zi (wall))), (3, .int (zi (h)))]) hx hb dX1_scaledRadius_28 hl (by decide) rfl (fun ls hl => ?_)
  refine lv_iload hx hb dX1_scaledRadius_30 (lv_at hl 1 rfl) ?_
  refine lv_aload_n hx hb dX1_scaledRadius_32 rfl (lv_at hl 2 rfl) ?_
  refine va_get (D := (dC, dI)) (ci := 1) (v := .ref h1) (C := RX1) (T := TX1) (N := 5) hx hb hg inX1 hown hK hP 0 rfl rfl 0 (by decide) (hg _ wl_X1_9) (fun _ h9 => h9) rfl dX1_scaledRadius_33 ?_
  refine lv_iload_n hx hb dX1_scaledRadius_36 rfl (lv_at hl 3 rfl) ?_
  refine zz_iald hx hb hK hP 1 0 rfl rfl (k) (by omega) (by omega) (by decide) dX1_scaledRadius_37 ?_
  have hv_3 := hH (k)
  refine lv_iload_n hx hb dX1_scaledRadius_38 rfl (lv_at hl 5 rfl) ?_
  refine zz_isub hx hb dX1_scaledRadius_39 ?_
  refine zz_imul hx hb dX1_scaledRadius_40 ?_
  refine lv_iload hx hb dX1_scaledRadius_41 (lv_at hl 0 rfl) ?_
  refine lv_iload_n hx hb dX1_scaledRadius_43 rfl (lv_at hl 5 rfl) ?_
  refine lv_aload_n hx hb dX1_scaledRadius_44 rfl (lv_at hl 2 rfl) ?_
  refine va_get (D := (dC, dI)) (ci := 1) (v := .ref h1) (C := RX1) (T := TX1) (N := 5) hx hb hg inX1 hown hK hP 0 rfl rfl 0 (by decide) (hg _ wl_X1_9) (fun _ h9 => h9) rfl dX1_scaledRadius_45 ?_
  refine lv_iload_n hx hb dX1_scaledRadius_48 rfl (lv_at hl 3 rfl) ?_
  refine lv_iconst (v := zi (1)) hx hb dX1_scaledRadius_49 rfl ?_
  refine zz_isub hx hb dX1_scaledRadius_50 ?_
  refine zz_iald hx hb hK hP 1 0 rfl rfl (k - 1) (by omega) (by omega) (by decide) dX1_scaledRadius_51 ?_
  have hv_4 := hH (k - 1)
  refine zz_isub hx hb dX1_scaledRadius_52 ?_
  refine zz_imul hx hb dX1_scaledRadius_53 ?_
  refine zz_iadd hx hb dX1_scaledRadius_54 ?_
  rw [hQQ]
  exact rd_i hx hb hr hlocks rfl dX1_scaledRadius_55

abbrev rm_X1_radiusAt : Room := { frames := 2, cells := 0, slots := 0, locals := 49 }
set_option maxHeartbeats 4000000 in
set_option maxRecDepth 100000 in
theorem c_X1_radiusAt (l : Launch) (dC : Nat → ClassId) (dI : Nat → Nat → Nat) (h0 h1 h2 : Nat) (cA : ClassId) (n : Nat) (th wc : Int) (hs rs : Nat → Int) (h : Int) (hn : n ≤ 12) (hH : ∀ j, 0 ≤ hs j ∧ hs j ≤ 400) (hR : ∀ j, 0 ≤ rs j ∧ rs j ≤ 200) (hh : -2147483648 ≤ h ∧ h < 2147483648) : Met l yX1_radiusAt (Cond.code yX1_radiusAt cX1_radiusAt 5 ((Option.some Jvm.ClassFile.FieldType.int)) :: gw) rm_X1_radiusAt (PcR [.ref h0, .int (zi (h))] (dC, dI) vwCl [(h0, .inr (1, [.ref h1, .ref h2, .int (zi ((n : Int))), .int (zi (th)), .int (zi (wc))])), (h1, .inl (cA, 12, .inl (zA (hs)))), (h2, .inl (cA, 12, .inl (zA (rs))))] [(cA, .int)]) (RdQ (some (.int (zi (p_radius n hs rs h))))) 0 0 (fun _ => False) := by
  refine Met.ofW (cc := cX1_radiusAt) (maxL := 5) (ret := ((Option.some Jvm.ClassFile.FieldType.int))) (by decide) rfl ?_
  intro p e s m args below meth c s₁ B hml hv
  obtain ⟨hargs, hP, hK⟩ := hv
  have hx := B.exec
  have hb := B.bytes
  have hr := B.returns
  have hts := atoms_spec (ws := Cond.code yX1_radiusAt cX1_radiusAt 5 ((Option.some Jvm.ClassFile.FieldType.int)) :: gw) B.pre
  have hg : ∀ w ∈ gw, w.before args s = true := fun w h => hts w (List.mem_cons_of_mem _ h)
  have hown : s.vm.findClass RX1 = some m.cls := findClass_of_methodNamed B.named
  have hlocks := B.notSynchronized
  show W p l e rm_X1_radiusAt s m args below meth c s.heap [] 0 0 _ _
  have hl := lv_entry ([.ref h0, .int (zi (h))]) (n := 5) (Nat.le_of_ble_eq_true rfl)
  rw [show entryFrame m args 5 = entryFrame m ([.ref h0, .int (zi (h))] : List Value).toArray 5 by rw [hargs], lg_entry_eq]
  generalize (lg_sl ([.ref h0, .int (zi (h))]) ++ List.replicate (5 - (lg_sl ([.ref h0, .int (zi (h))])).length) Slot.unset).toArray = ls at hl ⊢
  have hl : lv_has ls 5 [(0, .ref h0), (1, .int (zi (h)))] := hl
  obtain ⟨QQ, hQQ⟩ : ∃ Q, Q = MQ below (RdQ (some (.int (zi (p_radius n hs rs h))))) args s 0 0 (fun _ => False) := ⟨_, rfl⟩
  rw [← hQQ]
  refine lv_iconst (v := zi (-1)) hx hb dX1_radiusAt_0 rfl ?_
  refine lv_istore_n (lv' := [(2, .int (zi (-1))), (0, .ref h0), (1, .int (zi (h)))]) hx hb dX1_radiusAt_1 rfl hl (by decide) rfl (fun ls hl => ?_)
  refine lv_iconst (v := zi (0)) hx hb dX1_radiusAt_2 rfl ?_
  refine lv_istore_n (lv' := [(3, .int (zi (0))), (2, .int (zi (-1))), (0, .ref h0), (1, .int (zi (h)))]) hx hb dX1_radiusAt_3 rfl hl (by decide) rfl (fun ls hl => ?_)
  have key_4 : ∀ (n_ : Nat) (k : Nat) (g : Int), k ≤ n → -1 ≤ g ∧ g ≤ 200 → p_rad hs rs h (n - k) k g = p_radius n hs rs h → n - k < n_ → ∀ (ls : Array Slot), lv_has ls 5 [(3, .int (zi ((k : Int)))), (2, .int (zi (g))), (1, .int (zi (h))), (0, .ref h0)] → W p l e rm_X1_radiusAt s m args below meth c s.heap [] 0 0 QQ (F0 m 4 ls []) := by
    intro n_
    induction n_ with
    | zero => intro k g hk hg9 ht hm_; exact absurd hm_ (Nat.not_lt_zero _)
    | succ n_ ih =>
      intro k g hk hg9 ht hm_ ls hl
      refine lv_iload_n hx hb dX1_radiusAt_4 rfl (lv_at hl 0 rfl) ?_
      refine lv_aload_n hx hb dX1_radiusAt_5 rfl (lv_at hl 3 rfl) ?_
      refine va_get (D := (dC, dI)) (ci := 1) (v := .int (zi ((n : Int)))) (C := RX1) (T := TX1) (N := 5) hx hb hg inX1 hown hK hP 0 rfl rfl 2 (by decide) (hg _ wl_X1_22) (fun _ h9 => h9) rfl dX1_radiusAt_6 ?_
      refine zz_icmp_ge (tgt := 96) hx hb (by omega) (by omega) dX1_radiusAt_9 (by decide) (fun c_9 => ?_) (fun c_9 => ?_)
      · refine lv_iload_n hx hb dX1_radiusAt_96 rfl (lv_at hl 1 rfl) ?_
        rw [hQQ]
        exact rd_i hx hb hr hlocks (by rw [← ht, show n - k = 0 by omega, p_rad]) dX1_radiusAt_97
      · refine lv_aload_n hx hb dX1_radiusAt_12 rfl (lv_at hl 3 rfl) ?_
        refine va_get (D := (dC, dI)) (ci := 1) (v := .ref h1) (C := RX1) (T := TX1) (N := 5) hx hb hg inX1 hown hK hP 0 rfl rfl 0 (by decide) (hg _ wl_X1_9) (fun _ h9 => h9) rfl dX1_radiusAt_13 ?_
        refine lv_iload_n hx hb dX1_radiusAt_16 rfl (lv_at hl 0 rfl) ?_
        refine zz_iald hx hb hK hP 1 0 rfl rfl (k) (by omega) (by omega) (by decide) dX1_radiusAt_17 ?_
        have hv_1 := hH (k)
        refine lv_iload_n hx hb dX1_radiusAt_18 rfl (lv_at hl 2 rfl) ?_
        refine zz_icmp_ne (tgt := 36) hx hb (by omega) (by omega) dX1_radiusAt_19 (by decide) (fun c_19 => ?_) (fun c_19 => ?_)
        · refine lv_iload_n hx hb dX1_radiusAt_36 rfl (lv_at hl 0 rfl) ?_
          refine zz_if_le (tgt := 90) hx hb (by omega) dX1_radiusAt_37 (by decide) (fun c_37 => ?_) (fun c_37 => ?_)
          · refine lv_iinc (v := zi (((k : Int)) + (1))) (lv' := [(3, .int (zi (((k : Int)) + (1)))), (2, .int (zi (g))), (1, .int (zi (h))), (0, .ref h0)]) hx hb dX1_radiusAt_90 hl (k := 0) rfl (zi_add _ _) (by decide) rfl (fun ls hl => ?_)
            refine lv_goto (tgt := 4) hx hb dX1_radiusAt_93 (by decide) ?_
            exact ih (k + 1) g (by omega) (by omega) (by rw [← ht, show n - k = (n - (k + 1)) + 1 by omega, p_rad, if_neg c_19, if_neg (by omega)]) (by omega) ls (lv_sub hl [0, 1, 2, 3] rfl)
          · refine lv_aload_n hx hb dX1_radiusAt_40 rfl (lv_at hl 3 rfl) ?_
            refine va_get (D := (dC, dI)) (ci := 1) (v := .ref h1) (C := RX1) (T := TX1) (N := 5) hx hb hg inX1 hown hK hP 0 rfl rfl 0 (by decide) (hg _ wl_X1_9) (fun _ h9 => h9) rfl dX1_radiusAt_41 ?_
            refine lv_iload_n hx hb dX1_radiusAt_44 rfl (lv_at hl 0 rfl) ?_
            refine lv_iconst (v := zi (1)) hx hb dX1_radiusAt_45 rfl ?_
            refine zz_isub hx hb dX1_radiusAt_46 ?_
            refine zz_iald hx hb hK hP 1 0 rfl rfl (k - 1) (by omega) (by omega) (by decide) dX1_radiusAt_47 ?_
            have hv_2 := hH (k - 1)
            refine lv_iload_n hx hb dX1_radiusAt_48 rfl (lv_at hl 2 rfl) ?_
            refine zz_icmp_ge (tgt := 90) hx hb (by omega) (by omega) dX1_radiusAt_49 (by decide) (fun c_49 => ?_) (fun c_49 => ?_)
            · refine lv_iinc (v := zi (((k : Int)) + (1))) (lv' := [(3, .int (zi (((k : Int)) + (1)))), (2, .int (zi (g))), (1, .int (zi (h))), (0, .ref h0)]) hx hb dX1_radiusAt_90 hl (k := 0) rfl (zi_add _ _) (by decide) rfl (fun ls hl => ?_)
              refine lv_goto (tgt := 4) hx hb dX1_radiusAt_93 (by decide) ?_
              exact ih (k + 1) g (by omega) (by omega) (by rw [← ht, show n - k = (n - (k + 1)) + 1 by omega, p_rad, if_neg c_19, if_neg (by omega)]) (by omega) ls (lv_sub hl [0, 1, 2, 3] rfl)
            · refine lv_iload_n hx hb dX1_radiusAt_52 rfl (lv_at hl 2 rfl) ?_
              refine lv_aload_n hx hb dX1_radiusAt_53 rfl (lv_at hl 3 rfl) ?_
              refine va_get (D := (dC, dI)) (ci := 1) (v := .ref h1) (C := RX1) (T := TX1) (N := 5) hx hb hg inX1 hown hK hP 0 rfl rfl 0 (by decide) (hg _ wl_X1_9) (fun _ h9 => h9) rfl dX1_radiusAt_54 ?_
              refine lv_iload_n hx hb dX1_radiusAt_57 rfl (lv_at hl 0 rfl) ?_
              refine zz_iald hx hb hK hP 1 0 rfl rfl (k) (by omega) (by omega) (by decide) dX1_radiusAt_58 ?_
              have hv_3 := hH (k)
              refine zz_icmp_ge (tgt := 90) hx hb (by omega) (by omega) dX1_radiusAt_59 (by decide) (fun c_59 => ?_) (fun c_59 => ?_)
              · refine lv_iinc (v := zi (((k : Int)) + (1))) (lv' := [(3, .int (zi (((k : Int)) + (1)))), (2, .int (zi (g))), (1, .int (zi (h))), (0, .ref h0)]) hx hb dX1_radiusAt_90 hl (k := 0) rfl (zi_add _ _) (by decide) rfl (fun ls hl => ?_)
                refine lv_goto (tgt := 4) hx hb dX1_radiusAt_93 (by decide) ?_
                exact ih (k + 1) g (by omega) (by omega) (by rw [← ht, show n - k = (n - (k + 1)) + 1 by omega, p_rad, if_neg c_19, if_neg (by omega)]) (by omega) ls (lv_sub hl [0, 1, 2, 3] rfl)
              · refine lv_aload_n hx hb dX1_radiusAt_62 rfl (lv_at hl 3 rfl) ?_
                refine va_get (D := (dC, dI)) (ci := 1) (v := .ref h1) (C := RX1) (T := TX1) (N := 5) hx hb hg inX1 hown hK hP 0 rfl rfl 0 (by decide) (hg _ wl_X1_9) (fun _ h9 => h9) rfl dX1_radiusAt_63 ?_
                refine lv_iload_n hx hb dX1_radiusAt_66 rfl (lv_at hl 0 rfl) ?_
                refine zz_iald hx hb hK hP 1 0 rfl rfl (k) (by omega) (by omega) (by decide) dX1_radiusAt_67 ?_
                have hv_4 := hH (k)
                refine lv_aload_n hx hb dX1_radiusAt_68 rfl (lv_at hl 3 rfl) ?_
                refine va_get (D := (dC, dI)) (ci := 1) (v := .ref h1) (C := RX1) (T := TX1) (N := 5) hx hb hg inX1 hown hK hP 0 rfl rfl 0 (by decide) (hg _ wl_X1_9) (fun _ h9 => h9) rfl dX1_radiusAt_69 ?_
                refine lv_iload_n hx hb dX1_radiusAt_72 rfl (lv_at hl 0 rfl) ?_
                refine lv_iconst (v := zi (1)) hx hb dX1_radiusAt_73 rfl ?_
                refine zz_isub hx hb dX1_radiusAt_74 ?_
                refine zz_iald hx hb hK hP 1 0 rfl rfl (k - 1) (by omega) (by omega) (by decide) dX1_radiusAt_75 ?_
                have hv_5 := hH (k - 1)
                refine zz_isub hx hb dX1_radiusAt_76 ?_
                refine lv_istore (lv' := [(4, .int (zi ((hs (k)) - (hs (k - 1))))), (3, .int (zi ((k : Int)))), (2, .int (zi (g))), (1, .int (zi (h))), (0, .ref h0)]) hx hb dX1_radiusAt_77 hl (by decide) rfl (fun ls hl => ?_)
                refine lv_aload_n hx hb dX1_radiusAt_79 rfl (lv_at hl 4 rfl) ?_
                refine lv_iload_n hx hb dX1_radiusAt_80 rfl (lv_at hl 1 rfl) ?_
                refine lv_iconst (v := zi (0)) hx hb dX1_radiusAt_81 rfl ?_
                refine lv_iload_n hx hb dX1_radiusAt_82 rfl (lv_at hl 3 rfl) ?_
                refine rdV (As := [.int (zi ((k : Int))), .int (zi (0)), .int (zi (h))]) (rest := []) (n := 3) hx hb hml hown hg (c_X1_scaledRadius l dC dI h0 h1 h2 cA n th wc hs rs (k) (0) (h) hn hH hR (by omega) (by decide)) (gwV wl_X1_40 wm_X1_scaledRadius we_X1_scaledRadius wi_X1 wc_X1_scaledRadius) rfl rfl (by decide +kernel) ⟨Nat.le_of_ble_eq_true rfl, Nat.le_of_ble_eq_true rfl⟩ (hK.sub [0] rfl) (hP.sub [0, 1, 2] rfl) 0 rfl rfl rfl rfl hl.1 rfl (Nat.le_of_ble_eq_true rfl) dX1_radiusAt_83 ⟨Nat.zero_le _, Nat.zero_le _⟩ ?_
                refine lv_iload hx hb dX1_radiusAt_86 (lv_at hl 0 rfl) ?_
                refine zz_idiv hx hb (by have := p_sc_bd (hs := hs) (k := k) (wall := 0) (h := h) hR (by decide) (by omega) (by omega); omega) (by omega) dX1_radiusAt_88 ?_
                rw [hQQ]
                exact rd_i hx hb hr hlocks (by rw [← ht, show n - k = (n - (k + 1)) + 1 by omega, p_rad, if_neg c_19, if_pos (by omega)]) dX1_radiusAt_89
        · refine lv_iload_n hx hb dX1_radiusAt_22 rfl (lv_at hl 1 rfl) ?_
          refine lv_aload_n hx hb dX1_radiusAt_23 rfl (lv_at hl 3 rfl) ?_
          refine va_get (D := (dC, dI)) (ci := 1) (v := .ref h2) (C := RX1) (T := TX1) (N := 5) hx hb hg inX1 hown hK hP 0 rfl rfl 1 (by decide) (hg _ wl_X1_15) (fun _ h9 => h9) rfl dX1_radiusAt_24 ?_
          refine lv_iload_n hx hb dX1_radiusAt_27 rfl (lv_at hl 0 rfl) ?_
          refine zz_iald hx hb hK hP 2 0 rfl rfl (k) (by omega) (by omega) (by decide) dX1_radiusAt_28 ?_
          have hv_6 := hR (k)
          refine va_mmax hx hb (hml.trans hl.1.symm) hown (hg _ wl_X1_34) (hg _ wt_Math_max) (hg _ wi_Math) (hg _ wc_Math_max_II_I) (Nat.le_of_ble_eq_true rfl) (Nat.le_of_ble_eq_true rfl) (Nat.zero_le _) (Nat.zero_le _) dX1_radiusAt_29 ?_
          refine zz_topi (z := max (g) (rs (k))) (zi_max (by omega)) ?_
          refine lv_istore_n (lv' := [(2, .int (zi (max (g) (rs (k))))), (3, .int (zi ((k : Int)))), (1, .int (zi (h))), (0, .ref h0)]) hx hb dX1_radiusAt_32 rfl hl (by decide) rfl (fun ls hl => ?_)
          refine lv_goto (tgt := 90) hx hb dX1_radiusAt_33 (by decide) ?_
          refine lv_iinc (v := zi (((k : Int)) + (1))) (lv' := [(3, .int (zi (((k : Int)) + (1)))), (2, .int (zi (max (g) (rs (k))))), (1, .int (zi (h))), (0, .ref h0)]) hx hb dX1_radiusAt_90 hl (k := 1) rfl (zi_add _ _) (by decide) rfl (fun ls hl => ?_)
          refine lv_goto (tgt := 4) hx hb dX1_radiusAt_93 (by decide) ?_
          exact ih (k + 1) (max g (rs k)) (by omega) (by omega) (by rw [← ht, show n - k = (n - (k + 1)) + 1 by omega, p_rad, if_pos c_19]) (by omega) ls (lv_sub hl [0, 1, 2, 3] rfl)
  exact key_4 _ 0 (-1) (Nat.zero_le _) (by decide) rfl (Nat.lt_succ_self _) ls (lv_sub hl [0, 1, 3, 2] rfl)

theorem p_rad_bd {hs rs : Nat → Int} {h : Int} (hH : ∀ j, 0 ≤ hs j ∧ hs j ≤ 400) (hR : ∀ j, 0 ≤ rs j ∧ rs j ≤ 200) : ∀ (f k : Nat) (g : Int), -1 ≤ g → g ≤ 200 → -1 ≤ p_rad hs rs h f k g ∧ p_rad hs rs h f k g ≤ 200 := by
  intro f
  induction f with
  | zero => intro k g h1 h2; exact ⟨h1, h2⟩
  | succ f ih =>
    intro k g h1 h2
    have a := hR k
    unfold p_rad
    split
    · exact ih _ _ (by omega) (by omega)
    · split
      · rename_i q
        have b := p_sc_bd (hs := hs) (k := k) (wall := 0) (h := h) hR (by decide) (by omega) (by omega)
        have hp : 0 < hs k - hs (k - 1) := by omega
        rw [Int.tdiv_eq_ediv_of_nonneg b.1]
        have h3 : 0 ≤ p_sc hs rs k 0 h / (hs k - hs (k - 1)) := Int.ediv_nonneg b.1 (by omega)
        have h4 : p_sc hs rs k 0 h / (hs k - hs (k - 1)) ≤ 200 := Int.ediv_le_of_le_mul hp b.2
        omega
      · exact ih _ _ h1 h2
theorem p_radius_bd {n : Nat} {hs rs : Nat → Int} {h : Int} (hH : ∀ j, 0 ≤ hs j ∧ hs j ≤ 400) (hR : ∀ j, 0 ≤ rs j ∧ rs j ≤ 200) : -1 ≤ p_radius n hs rs h ∧ p_radius n hs rs h ≤ 200 := p_rad_bd hH hR n 0 (-1) (by decide) (by decide)
abbrev rm_X1_radiusOrZero : Room := { frames := 3, cells := 0, slots := 0, locals := 73 }
set_option maxHeartbeats 4000000 in
set_option maxRecDepth 100000 in
theorem c_X1_radiusOrZero (l : Launch) (dC : Nat → ClassId) (dI : Nat → Nat → Nat) (h0 h1 h2 : Nat) (cA : ClassId) (n : Nat) (th wc : Int) (hs rs : Nat → Int) (h : Int) (hn : n ≤ 12) (hH : ∀ j, 0 ≤ hs j ∧ hs j ≤ 400) (hR : ∀ j, 0 ≤ rs j ∧ rs j ≤ 200) (hh : -2147483648 ≤ h ∧ h < 2147483648) : Met l yX1_radiusOrZero (Cond.code yX1_radiusOrZero cX1_radiusOrZero 2 ((Option.some Jvm.ClassFile.FieldType.int)) :: gw) rm_X1_radiusOrZero (PcR [.ref h0, .int (zi (h))] (dC, dI) vwCl [(h0, .inr (1, [.ref h1, .ref h2, .int (zi ((n : Int))), .int (zi (th)), .int (zi (wc))])), (h1, .inl (cA, 12, .inl (zA (hs)))), (h2, .inl (cA, 12, .inl (zA (rs))))] [(cA, .int)]) (RdQ (some (.int (zi (max 0 (p_radius n hs rs h)))))) 0 0 (fun _ => False) := by
  refine Met.ofW (cc := cX1_radiusOrZero) (maxL := 2) (ret := ((Option.some Jvm.ClassFile.FieldType.int))) (by decide) rfl ?_
  intro p e s m args below meth c s₁ B hml hv
  obtain ⟨hargs, hP, hK⟩ := hv
  have hx := B.exec
  have hb := B.bytes
  have hr := B.returns
  have hts := atoms_spec (ws := Cond.code yX1_radiusOrZero cX1_radiusOrZero 2 ((Option.some Jvm.ClassFile.FieldType.int)) :: gw) B.pre
  have hg : ∀ w ∈ gw, w.before args s = true := fun w h => hts w (List.mem_cons_of_mem _ h)
  have hown : s.vm.findClass RX1 = some m.cls := findClass_of_methodNamed B.named
  have hlocks := B.notSynchronized
  show W p l e rm_X1_radiusOrZero s m args below meth c s.heap [] 0 0 _ _
  have hl := lv_entry ([.ref h0, .int (zi (h))]) (n := 2) (Nat.le_of_ble_eq_true rfl)
  rw [show entryFrame m args 2 = entryFrame m ([.ref h0, .int (zi (h))] : List Value).toArray 2 by rw [hargs], lg_entry_eq]
  generalize (lg_sl ([.ref h0, .int (zi (h))]) ++ List.replicate (2 - (lg_sl ([.ref h0, .int (zi (h))])).length) Slot.unset).toArray = ls at hl ⊢
  have hl : lv_has ls 2 [(0, .ref h0), (1, .int (zi (h)))] := hl
  obtain ⟨QQ, hQQ⟩ : ∃ Q, Q = MQ below (RdQ (some (.int (zi (max 0 (p_radius n hs rs h)))))) args s 0 0 (fun _ => False) := ⟨_, rfl⟩
  rw [← hQQ]
  refine lv_iconst (v := zi (0)) hx hb dX1_radiusOrZero_0 rfl ?_
  refine lv_aload_n hx hb dX1_radiusOrZero_1 rfl (lv_at hl 0 rfl) ?_
  refine lv_iload_n hx hb dX1_radiusOrZero_2 rfl (lv_at hl 1 rfl) ?_
  refine rdV (As := [.int (zi (h))]) (rest := [.int (zi (0))]) (n := 1) hx hb hml hown hg (c_X1_radiusAt l dC dI h0 h1 h2 cA n th wc hs rs (h) hn hH hR hh) (gwV wl_X1_44 wm_X1_radiusAt we_X1_radiusAt wi_X1 wc_X1_radiusAt) rfl rfl (by decide +kernel) ⟨Nat.le_of_ble_eq_true rfl, Nat.le_of_ble_eq_true rfl⟩ (hK.sub [0] rfl) (hP.sub [0, 1, 2] rfl) 0 rfl rfl rfl rfl hl.1 rfl (Nat.le_of_ble_eq_true rfl) dX1_radiusOrZero_3 ⟨Nat.zero_le _, Nat.zero_le _⟩ ?_
  refine va_mmax hx hb (hml.trans hl.1.symm) hown (hg _ wl_X1_34) (hg _ wt_Math_max) (hg _ wi_Math) (hg _ wc_Math_max_II_I) (Nat.le_of_ble_eq_true rfl) (Nat.le_of_ble_eq_true rfl) (Nat.zero_le _) (Nat.zero_le _) dX1_radiusOrZero_6 ?_
  refine zz_topi (z := max (0) (p_radius n hs rs (h))) (zi_max (by have := p_radius_bd (n := n) (h := h) hH hR; omega)) ?_
  rw [hQQ]
  exact rd_i hx hb hr hlocks rfl dX1_radiusOrZero_9

abbrev rm_X1_countUpTo : Room := { frames := 0, cells := 0, slots := 0, locals := 0 }
set_option maxHeartbeats 4000000 in
set_option maxRecDepth 100000 in
theorem c_X1_countUpTo (l : Launch) (dC : Nat → ClassId) (dI : Nat → Nat → Nat) (h0 h1 h2 : Nat) (cA : ClassId) (n : Nat) (th wc : Int) (hs rs : Nat → Int) (h : Int) (hn : n ≤ 12) (hH : ∀ j, 0 ≤ hs j ∧ hs j ≤ 400) (hR : ∀ j, 0 ≤ rs j ∧ rs j ≤ 200) (hh : -2147483648 ≤ h ∧ h < 2147483648) : Met l yX1_countUpTo (Cond.code yX1_countUpTo cX1_countUpTo 4 ((Option.some Jvm.ClassFile.FieldType.int)) :: gw) rm_X1_countUpTo (PcR [.ref h0, .int (zi (h))] (dC, dI) vwCl [(h0, .inr (1, [.ref h1, .ref h2, .int (zi ((n : Int))), .int (zi (th)), .int (zi (wc))])), (h1, .inl (cA, 12, .inl (zA (hs)))), (h2, .inl (cA, 12, .inl (zA (rs))))] [(cA, .int)]) (RdQ (some (.int (zi ((p_cu hs h n : Nat) : Int))))) 0 0 (fun _ => False) := by
  refine Met.ofW (cc := cX1_countUpTo) (maxL := 4) (ret := ((Option.some Jvm.ClassFile.FieldType.int))) (by decide) rfl ?_
  intro p e s m args below meth c s₁ B hml hv
  obtain ⟨hargs, hP, hK⟩ := hv
  have hx := B.exec
  have hb := B.bytes
  have hr := B.returns
  have hts := atoms_spec (ws := Cond.code yX1_countUpTo cX1_countUpTo 4 ((Option.some Jvm.ClassFile.FieldType.int)) :: gw) B.pre
  have hg : ∀ w ∈ gw, w.before args s = true := fun w h => hts w (List.mem_cons_of_mem _ h)
  have hown : s.vm.findClass RX1 = some m.cls := findClass_of_methodNamed B.named
  have hlocks := B.notSynchronized
  show W p l e rm_X1_countUpTo s m args below meth c s.heap [] 0 0 _ _
  have hl := lv_entry ([.ref h0, .int (zi (h))]) (n := 4) (Nat.le_of_ble_eq_true rfl)
  rw [show entryFrame m args 4 = entryFrame m ([.ref h0, .int (zi (h))] : List Value).toArray 4 by rw [hargs], lg_entry_eq]
  generalize (lg_sl ([.ref h0, .int (zi (h))]) ++ List.replicate (4 - (lg_sl ([.ref h0, .int (zi (h))])).length) Slot.unset).toArray = ls at hl ⊢
  have hl : lv_has ls 4 [(0, .ref h0), (1, .int (zi (h)))] := hl
  obtain ⟨QQ, hQQ⟩ : ∃ Q, Q = MQ below (RdQ (some (.int (zi ((p_cu hs h n : Nat) : Int))))) args s 0 0 (fun _ => False) := ⟨_, rfl⟩
  rw [← hQQ]
  refine lv_iconst (v := zi (0)) hx hb dX1_countUpTo_0 rfl ?_
  refine lv_istore_n (lv' := [(2, .int (zi (0))), (0, .ref h0), (1, .int (zi (h)))]) hx hb dX1_countUpTo_1 rfl hl (by decide) rfl (fun ls hl => ?_)
  refine lv_iconst (v := zi (0)) hx hb dX1_countUpTo_2 rfl ?_
  refine lv_istore_n (lv' := [(3, .int (zi (0))), (2, .int (zi (0))), (0, .ref h0), (1, .int (zi (h)))]) hx hb dX1_countUpTo_3 rfl hl (by decide) rfl (fun ls hl => ?_)
  have key_4 : ∀ (n_ : Nat) (k : Nat), k ≤ n → n - k < n_ → ∀ (ls : Array Slot), lv_has ls 4 [(3, .int (zi ((k : Int)))), (2, .int (zi (((p_cu hs h k : Nat) : Int)))), (1, .int (zi (h))), (0, .ref h0)] → W p l e rm_X1_countUpTo s m args below meth c s.heap [] 0 0 QQ (F0 m 4 ls []) := by
    intro n_
    induction n_ with
    | zero => intro k hk hm_; exact absurd hm_ (Nat.not_lt_zero _)
    | succ n_ ih =>
      intro k hk hm_ ls hl
      refine lv_iload_n hx hb dX1_countUpTo_4 rfl (lv_at hl 0 rfl) ?_
      refine lv_aload_n hx hb dX1_countUpTo_5 rfl (lv_at hl 3 rfl) ?_
      refine va_get (D := (dC, dI)) (ci := 1) (v := .int (zi ((n : Int)))) (C := RX1) (T := TX1) (N := 5) hx hb hg inX1 hown hK hP 0 rfl rfl 2 (by decide) (hg _ wl_X1_22) (fun _ h9 => h9) rfl dX1_countUpTo_6 ?_
      refine zz_icmp_ge (tgt := 31) hx hb (by omega) (by omega) dX1_countUpTo_9 (by decide) (fun c_9 => ?_) (fun c_9 => ?_)
      · refine lv_iload_n hx hb dX1_countUpTo_31 rfl (lv_at hl 1 rfl) ?_
        rw [hQQ]
        exact rd_i hx hb hr hlocks (by rw [show k = n by omega]) dX1_countUpTo_32
      · refine lv_aload_n hx hb dX1_countUpTo_12 rfl (lv_at hl 3 rfl) ?_
        refine va_get (D := (dC, dI)) (ci := 1) (v := .ref h1) (C := RX1) (T := TX1) (N := 5) hx hb hg inX1 hown hK hP 0 rfl rfl 0 (by decide) (hg _ wl_X1_9) (fun _ h9 => h9) rfl dX1_countUpTo_13 ?_
        refine lv_iload_n hx hb dX1_countUpTo_16 rfl (lv_at hl 0 rfl) ?_
        refine zz_iald hx hb hK hP 1 0 rfl rfl (k) (by omega) (by omega) (by decide) dX1_countUpTo_17 ?_
        have hv_1 := hH (k)
        refine lv_iload_n hx hb dX1_countUpTo_18 rfl (lv_at hl 2 rfl) ?_
        refine zz_icmp_gt (tgt := 25) hx hb (by omega) (by omega) dX1_countUpTo_19 (by decide) (fun c_19 => ?_) (fun c_19 => ?_)
        · have hc : ¬ hs k ≤ h := by omega
          refine lv_iinc (v := zi (((k : Int)) + (1))) (lv' := [(3, .int (zi (((k : Int)) + (1)))), (2, .int (zi (((p_cu hs h k : Nat) : Int)))), (1, .int (zi (h))), (0, .ref h0)]) hx hb dX1_countUpTo_25 hl (k := 0) rfl (zi_add _ _) (by decide) rfl (fun ls hl => ?_)
          refine lv_goto (tgt := 4) hx hb dX1_countUpTo_28 (by decide) ?_
          exact ih (k + 1) (by omega) (by omega) ls (lv_sub hl [0, 1, 2, 3] (by simp only [p_cu, if_neg hc]; rfl))
        · have hc : hs k ≤ h := by omega
          refine lv_iinc (v := zi ((((p_cu hs h k : Nat) : Int)) + (1))) (lv' := [(2, .int (zi ((((p_cu hs h k : Nat) : Int)) + (1)))), (3, .int (zi ((k : Int)))), (1, .int (zi (h))), (0, .ref h0)]) hx hb dX1_countUpTo_22 hl (k := 1) rfl (zi_add _ _) (by decide) rfl (fun ls hl => ?_)
          refine lv_iinc (v := zi (((k : Int)) + (1))) (lv' := [(3, .int (zi (((k : Int)) + (1)))), (2, .int (zi ((((p_cu hs h k : Nat) : Int)) + (1)))), (1, .int (zi (h))), (0, .ref h0)]) hx hb dX1_countUpTo_25 hl (k := 1) rfl (zi_add _ _) (by decide) rfl (fun ls hl => ?_)
          refine lv_goto (tgt := 4) hx hb dX1_countUpTo_28 (by decide) ?_
          exact ih (k + 1) (by omega) (by omega) ls (lv_sub hl [0, 1, 2, 3] (by simp only [p_cu, if_pos hc]; rfl))
  exact key_4 _ 0 (Nat.zero_le _) (Nat.lt_succ_self _) ls (lv_sub hl [0, 1, 3, 2] rfl)

abbrev rm_X1_countOffAxis : Room := { frames := 0, cells := 0, slots := 0, locals := 0 }
set_option maxHeartbeats 4000000 in
set_option maxRecDepth 100000 in
theorem c_X1_countOffAxis (l : Launch) (dC : Nat → ClassId) (dI : Nat → Nat → Nat) (h0 h1 h2 : Nat) (cA : ClassId) (n : Nat) (th wc : Int) (hs rs : Nat → Int) (hn : n ≤ 12) (hH : ∀ j, 0 ≤ hs j ∧ hs j ≤ 400) (hR : ∀ j, 0 ≤ rs j ∧ rs j ≤ 200) : Met l yX1_countOffAxis (Cond.code yX1_countOffAxis cX1_countOffAxis 3 ((Option.some Jvm.ClassFile.FieldType.int)) :: gw) rm_X1_countOffAxis (PcR [.ref h0] (dC, dI) vwCl [(h0, .inr (1, [.ref h1, .ref h2, .int (zi ((n : Int))), .int (zi (th)), .int (zi (wc))])), (h1, .inl (cA, 12, .inl (zA (hs)))), (h2, .inl (cA, 12, .inl (zA (rs))))] [(cA, .int)]) (RdQ (some (.int (zi ((p_co rs n : Nat) : Int))))) 0 0 (fun _ => False) := by
  refine Met.ofW (cc := cX1_countOffAxis) (maxL := 3) (ret := ((Option.some Jvm.ClassFile.FieldType.int))) (by decide) rfl ?_
  intro p e s m args below meth c s₁ B hml hv
  obtain ⟨hargs, hP, hK⟩ := hv
  have hx := B.exec
  have hb := B.bytes
  have hr := B.returns
  have hts := atoms_spec (ws := Cond.code yX1_countOffAxis cX1_countOffAxis 3 ((Option.some Jvm.ClassFile.FieldType.int)) :: gw) B.pre
  have hg : ∀ w ∈ gw, w.before args s = true := fun w h => hts w (List.mem_cons_of_mem _ h)
  have hown : s.vm.findClass RX1 = some m.cls := findClass_of_methodNamed B.named
  have hlocks := B.notSynchronized
  show W p l e rm_X1_countOffAxis s m args below meth c s.heap [] 0 0 _ _
  have hl := lv_entry ([.ref h0]) (n := 3) (Nat.le_of_ble_eq_true rfl)
  rw [show entryFrame m args 3 = entryFrame m ([.ref h0] : List Value).toArray 3 by rw [hargs], lg_entry_eq]
  generalize (lg_sl ([.ref h0]) ++ List.replicate (3 - (lg_sl ([.ref h0])).length) Slot.unset).toArray = ls at hl ⊢
  have hl : lv_has ls 3 [(0, .ref h0)] := hl
  obtain ⟨QQ, hQQ⟩ : ∃ Q, Q = MQ below (RdQ (some (.int (zi ((p_co rs n : Nat) : Int))))) args s 0 0 (fun _ => False) := ⟨_, rfl⟩
  rw [← hQQ]
  refine lv_iconst (v := zi (0)) hx hb dX1_countOffAxis_0 rfl ?_
  refine lv_istore_n (lv' := [(1, .int (zi (0))), (0, .ref h0)]) hx hb dX1_countOffAxis_1 rfl hl (by decide) rfl (fun ls hl => ?_)
  refine lv_iconst (v := zi (0)) hx hb dX1_countOffAxis_2 rfl ?_
  refine lv_istore_n (lv' := [(2, .int (zi (0))), (1, .int (zi (0))), (0, .ref h0)]) hx hb dX1_countOffAxis_3 rfl hl (by decide) rfl (fun ls hl => ?_)
  have key_4 : ∀ (n_ : Nat) (k : Nat), k ≤ n → n - k < n_ → ∀ (ls : Array Slot), lv_has ls 3 [(2, .int (zi ((k : Int)))), (1, .int (zi (((p_co rs k : Nat) : Int)))), (0, .ref h0)] → W p l e rm_X1_countOffAxis s m args below meth c s.heap [] 0 0 QQ (F0 m 4 ls []) := by
    intro n_
    induction n_ with
    | zero => intro k hk hm_; exact absurd hm_ (Nat.not_lt_zero _)
    | succ n_ ih =>
      intro k hk hm_ ls hl
      refine lv_iload_n hx hb dX1_countOffAxis_4 rfl (lv_at hl 0 rfl) ?_
      refine lv_aload_n hx hb dX1_countOffAxis_5 rfl (lv_at hl 2 rfl) ?_
      refine va_get (D := (dC, dI)) (ci := 1) (v := .int (zi ((n : Int)))) (C := RX1) (T := TX1) (N := 5) hx hb hg inX1 hown hK hP 0 rfl rfl 2 (by decide) (hg _ wl_X1_22) (fun _ h9 => h9) rfl dX1_countOffAxis_6 ?_
      refine zz_icmp_ge (tgt := 30) hx hb (by omega) (by omega) dX1_countOffAxis_9 (by decide) (fun c_9 => ?_) (fun c_9 => ?_)
      · refine lv_iload_n hx hb dX1_countOffAxis_30 rfl (lv_at hl 1 rfl) ?_
        rw [hQQ]
        exact rd_i hx hb hr hlocks (by rw [show k = n by omega]) dX1_countOffAxis_31
      · refine lv_aload_n hx hb dX1_countOffAxis_12 rfl (lv_at hl 2 rfl) ?_
        refine va_get (D := (dC, dI)) (ci := 1) (v := .ref h2) (C := RX1) (T := TX1) (N := 5) hx hb hg inX1 hown hK hP 0 rfl rfl 1 (by decide) (hg _ wl_X1_15) (fun _ h9 => h9) rfl dX1_countOffAxis_13 ?_
        refine lv_iload_n hx hb dX1_countOffAxis_16 rfl (lv_at hl 0 rfl) ?_
        refine zz_iald hx hb hK hP 2 0 rfl rfl (k) (by omega) (by omega) (by decide) dX1_countOffAxis_17 ?_
        have hv_1 := hR (k)
        refine zz_if_eq (tgt := 24) hx hb (by omega) dX1_countOffAxis_18 (by decide) (fun c_18 => ?_) (fun c_18 => ?_)
        · refine lv_iinc (v := zi (((k : Int)) + (1))) (lv' := [(2, .int (zi (((k : Int)) + (1)))), (1, .int (zi (((p_co rs k : Nat) : Int)))), (0, .ref h0)]) hx hb dX1_countOffAxis_24 hl (k := 0) rfl (zi_add _ _) (by decide) rfl (fun ls hl => ?_)
          refine lv_goto (tgt := 4) hx hb dX1_countOffAxis_27 (by decide) ?_
          exact ih (k + 1) (by omega) (by omega) ls (lv_sub hl [0, 1, 2] (by simp only [p_co, if_pos c_18]; rfl))
        · refine lv_iinc (v := zi ((((p_co rs k : Nat) : Int)) + (1))) (lv' := [(1, .int (zi ((((p_co rs k : Nat) : Int)) + (1)))), (2, .int (zi ((k : Int)))), (0, .ref h0)]) hx hb dX1_countOffAxis_21 hl (k := 1) rfl (zi_add _ _) (by decide) rfl (fun ls hl => ?_)
          refine lv_iinc (v := zi (((k : Int)) + (1))) (lv' := [(2, .int (zi (((k : Int)) + (1)))), (1, .int (zi ((((p_co rs k : Nat) : Int)) + (1)))), (0, .ref h0)]) hx hb dX1_countOffAxis_24 hl (k := 1) rfl (zi_add _ _) (by decide) rfl (fun ls hl => ?_)
          refine lv_goto (tgt := 4) hx hb dX1_countOffAxis_27 (by decide) ?_
          exact ih (k + 1) (by omega) (by omega) ls (lv_sub hl [0, 1, 2] (by simp only [p_co, if_neg c_18]; rfl))
  exact key_4 _ 0 (Nat.zero_le _) (Nat.lt_succ_self _) ls (lv_sub hl [0, 1, 2] rfl)

abbrev rm_X1_findOffAxis : Room := { frames := 0, cells := 0, slots := 0, locals := 0 }
set_option maxHeartbeats 4000000 in
set_option maxRecDepth 100000 in
theorem c_X1_findOffAxis (l : Launch) (dC : Nat → ClassId) (dI : Nat → Nat → Nat) (h0 h1 h2 : Nat) (cA : ClassId) (n : Nat) (th wc : Int) (hs rs : Nat → Int) (ahead : Int) (hn : n ≤ 12) (hH : ∀ j, 0 ≤ hs j ∧ hs j ≤ 400) (hR : ∀ j, 0 ≤ rs j ∧ rs j ≤ 200) (hh : -2147483648 ≤ ahead ∧ ahead < 2147483648) : Met l yX1_findOffAxis (Cond.code yX1_findOffAxis cX1_findOffAxis 4 ((Option.some Jvm.ClassFile.FieldType.int)) :: gw) rm_X1_findOffAxis (PcR [.ref h0, .int (zi (ahead))] (dC, dI) vwCl [(h0, .inr (1, [.ref h1, .ref h2, .int (zi ((n : Int))), .int (zi (th)), .int (zi (wc))])), (h1, .inl (cA, 12, .inl (zA (hs)))), (h2, .inl (cA, 12, .inl (zA (rs))))] [(cA, .int)]) (RdQ (some (.int (zi (p_fo rs ahead n 0 0))))) 0 0 (fun _ => False) := by
  refine Met.ofW (cc := cX1_findOffAxis) (maxL := 4) (ret := ((Option.some Jvm.ClassFile.FieldType.int))) (by decide) rfl ?_
  intro p e s m args below meth c s₁ B hml hv
  obtain ⟨hargs, hP, hK⟩ := hv
  have hx := B.exec
  have hb := B.bytes
  have hr := B.returns
  have hts := atoms_spec (ws := Cond.code yX1_findOffAxis cX1_findOffAxis 4 ((Option.some Jvm.ClassFile.FieldType.int)) :: gw) B.pre
  have hg : ∀ w ∈ gw, w.before args s = true := fun w h => hts w (List.mem_cons_of_mem _ h)
  have hown : s.vm.findClass RX1 = some m.cls := findClass_of_methodNamed B.named
  have hlocks := B.notSynchronized
  show W p l e rm_X1_findOffAxis s m args below meth c s.heap [] 0 0 _ _
  have hl := lv_entry ([.ref h0, .int (zi (ahead))]) (n := 4) (Nat.le_of_ble_eq_true rfl)
  rw [show entryFrame m args 4 = entryFrame m ([.ref h0, .int (zi (ahead))] : List Value).toArray 4 by rw [hargs], lg_entry_eq]
  generalize (lg_sl ([.ref h0, .int (zi (ahead))]) ++ List.replicate (4 - (lg_sl ([.ref h0, .int (zi (ahead))])).length) Slot.unset).toArray = ls at hl ⊢
  have hl : lv_has ls 4 [(0, .ref h0), (1, .int (zi (ahead)))] := hl
  obtain ⟨QQ, hQQ⟩ : ∃ Q, Q = MQ below (RdQ (some (.int (zi (p_fo rs ahead n 0 0))))) args s 0 0 (fun _ => False) := ⟨_, rfl⟩
  rw [← hQQ]
  refine lv_iconst (v := zi (0)) hx hb dX1_findOffAxis_0 rfl ?_
  refine lv_istore_n (lv' := [(2, .int (zi (0))), (0, .ref h0), (1, .int (zi (ahead)))]) hx hb dX1_findOffAxis_1 rfl hl (by decide) rfl (fun ls hl => ?_)
  refine lv_iconst (v := zi (0)) hx hb dX1_findOffAxis_2 rfl ?_
  refine lv_istore_n (lv' := [(3, .int (zi (0))), (2, .int (zi (0))), (0, .ref h0), (1, .int (zi (ahead)))]) hx hb dX1_findOffAxis_3 rfl hl (by decide) rfl (fun ls hl => ?_)
  have key_4 : ∀ (n_ : Nat) (k d : Nat), k ≤ n → d ≤ k → p_fo rs ahead (n - k) k d = p_fo rs ahead n 0 0 → n - k < n_ → ∀ (ls : Array Slot), lv_has ls 4 [(3, .int (zi ((k : Int)))), (2, .int (zi ((d : Int)))), (1, .int (zi (ahead))), (0, .ref h0)] → W p l e rm_X1_findOffAxis s m args below meth c s.heap [] 0 0 QQ (F0 m 4 ls []) := by
    intro n_
    induction n_ with
    | zero => intro k d hk hd9 ht hm_; exact absurd hm_ (Nat.not_lt_zero _)
    | succ n_ ih =>
      intro k d hk hd9 ht hm_ ls hl
      refine lv_iload_n hx hb dX1_findOffAxis_4 rfl (lv_at hl 0 rfl) ?_
      refine lv_aload_n hx hb dX1_findOffAxis_5 rfl (lv_at hl 3 rfl) ?_
      refine va_get (D := (dC, dI)) (ci := 1) (v := .int (zi ((n : Int)))) (C := RX1) (T := TX1) (N := 5) hx hb hg inX1 hown hK hP 0 rfl rfl 2 (by decide) (hg _ wl_X1_22) (fun _ h9 => h9) rfl dX1_findOffAxis_6 ?_
      refine zz_icmp_ge (tgt := 40) hx hb (by omega) (by omega) dX1_findOffAxis_9 (by decide) (fun c_9 => ?_) (fun c_9 => ?_)
      · refine lv_iconst (v := zi (-1)) hx hb dX1_findOffAxis_40 rfl ?_
        rw [hQQ]
        exact rd_i hx hb hr hlocks (by rw [← ht, show n - k = 0 by omega, p_fo]) dX1_findOffAxis_41
      · refine lv_aload_n hx hb dX1_findOffAxis_12 rfl (lv_at hl 3 rfl) ?_
        refine va_get (D := (dC, dI)) (ci := 1) (v := .ref h2) (C := RX1) (T := TX1) (N := 5) hx hb hg inX1 hown hK hP 0 rfl rfl 1 (by decide) (hg _ wl_X1_15) (fun _ h9 => h9) rfl dX1_findOffAxis_13 ?_
        refine lv_iload_n hx hb dX1_findOffAxis_16 rfl (lv_at hl 0 rfl) ?_
        refine zz_iald hx hb hK hP 2 0 rfl rfl (k) (by omega) (by omega) (by decide) dX1_findOffAxis_17 ?_
        have hv_1 := hR (k)
        refine zz_if_ne (tgt := 24) hx hb (by omega) dX1_findOffAxis_18 (by decide) (fun c_18 => ?_) (fun c_18 => ?_)
        · refine lv_iload_n hx hb dX1_findOffAxis_24 rfl (lv_at hl 1 rfl) ?_
          refine lv_iload_n hx hb dX1_findOffAxis_25 rfl (lv_at hl 2 rfl) ?_
          refine zz_icmp_ne (tgt := 31) hx hb (by omega) (by omega) dX1_findOffAxis_26 (by decide) (fun c_26 => ?_) (fun c_26 => ?_)
          · refine lv_iinc (v := zi (((d : Int)) + (1))) (lv' := [(2, .int (zi (((d : Int)) + (1)))), (3, .int (zi ((k : Int)))), (1, .int (zi (ahead))), (0, .ref h0)]) hx hb dX1_findOffAxis_31 hl (k := 1) rfl (zi_add _ _) (by decide) rfl (fun ls hl => ?_)
            refine lv_iinc (v := zi (((k : Int)) + (1))) (lv' := [(3, .int (zi (((k : Int)) + (1)))), (2, .int (zi (((d : Int)) + (1)))), (1, .int (zi (ahead))), (0, .ref h0)]) hx hb dX1_findOffAxis_34 hl (k := 1) rfl (zi_add _ _) (by decide) rfl (fun ls hl => ?_)
            refine lv_goto (tgt := 4) hx hb dX1_findOffAxis_37 (by decide) ?_
            exact ih (k + 1) (d + 1) (by omega) (by omega) (by rw [← ht, show n - k = (n - (k + 1)) + 1 by omega, p_fo, if_neg c_18, if_neg c_26]) (by omega) ls (lv_sub hl [0, 1, 2, 3] rfl)
          · refine lv_iload_n hx hb dX1_findOffAxis_29 rfl (lv_at hl 0 rfl) ?_
            rw [hQQ]
            exact rd_i hx hb hr hlocks (by rw [← ht, show n - k = (n - (k + 1)) + 1 by omega, p_fo, if_neg c_18, if_pos (by omega)]) dX1_findOffAxis_30
        · refine lv_goto (tgt := 34) hx hb dX1_findOffAxis_21 (by decide) ?_
          refine lv_iinc (v := zi (((k : Int)) + (1))) (lv' := [(3, .int (zi (((k : Int)) + (1)))), (2, .int (zi ((d : Int)))), (1, .int (zi (ahead))), (0, .ref h0)]) hx hb dX1_findOffAxis_34 hl (k := 0) rfl (zi_add _ _) (by decide) rfl (fun ls hl => ?_)
          refine lv_goto (tgt := 4) hx hb dX1_findOffAxis_37 (by decide) ?_
          exact ih (k + 1) d (by omega) (by omega) (by rw [← ht, show n - k = (n - (k + 1)) + 1 by omega, p_fo, if_pos c_18]) (by omega) ls (lv_sub hl [0, 1, 2, 3] rfl)
  exact key_4 _ 0 0 (Nat.zero_le _) (Nat.le_refl _) rfl (Nat.lt_succ_self _) ls (lv_sub hl [0, 1, 3, 2] rfl)
end
section
def fr_n (a b u q : Nat) : Nat := a * (q / Nat.gcd u q) + u / Nat.gcd u q * b
def fr_d (b u q : Nat) : Nat := b * (q / Nat.gcd u q)
def fr_add (s : Nat × Nat) (u q : Nat) : Nat × Nat := (fr_n s.1 s.2 u q / Nat.gcd (fr_n s.1 s.2 u q) (fr_d s.2 u q), fr_d s.2 u q / Nat.gcd (fr_n s.1 s.2 u q) (fr_d s.2 u q))
def p_ok (s : Nat × Nat) (u q : Nat) : Prop := 0 < s.2 ∧ fr_n s.1 s.2 u q < 9223372036854775808 ∧ fr_d s.2 u q < 562949953421312
theorem c_fr_add (l : Launch) (dC : Nat → ClassId) (dI : Nat → Nat → Nat) (sz : Nat) (h0 : Nat) (x : Nat × Nat) (u q : Nat) (hq0 : 0 < q) (hu : u < 9223372036854775808) (hq9 : q < 562949953421312) (hok : p_ok x u q) : Met l yX0_add (Cond.code yX0_add cX0_add 11 (Option.none) :: gw) rm_X0_add (PcW [.ref h0, .long (zl (u : Int)), .long (zl (q : Int))] (dC, dI) vwCl [(h0, .inr (0, [.long (zl ((x.1 : Nat) : Int)), .long (zl ((x.2 : Nat) : Int))]))] [] sz) (WrQ none (dC, dI) vwCl [(h0, .inr (0, [.long (zl (((fr_add x u q).1 : Nat) : Int)), .long (zl (((fr_add x u q).2 : Nat) : Int))]))] (va_A [(h0, .inr (0, [.long (zl ((x.1 : Nat) : Int)), .long (zl ((x.2 : Nat) : Int))]))] sz)) 0 0 (va_A [(h0, .inr (0, [.long (zl ((x.1 : Nat) : Int)), .long (zl ((x.2 : Nat) : Int))]))] sz) := c_X0_add l dC dI sz h0 x.1 x.2 u q hok.1 hq0 hu hq9 hok.2.1 hok.2.2
def p_u (hs rs : Nat → Int) (wall low high : Int) (k : Nat) : Nat := ((high - low) * (p_sc hs rs k wall low * p_sc hs rs k wall low + p_sc hs rs k wall low * p_sc hs rs k wall high + p_sc hs rs k wall high * p_sc hs rs k wall high)).toNat
def p_q (hs : Nat → Int) (k : Nat) : Nat := (3 * (hs k - hs (k - 1)) * (hs k - hs (k - 1))).toNat
theorem p_u_in {hs rs : Nat → Int} {wall low high : Int} {k : Nat} (hH : ∀ j, 0 ≤ hs j ∧ hs j ≤ 400) (hR : ∀ j, 0 ≤ rs j ∧ rs j ≤ 200) (hw : 0 ≤ wall) (h1 : hs (k - 1) ≤ low) (h2 : low < high) (h3 : high ≤ hs k) : 0 ≤ (high - low) * (p_sc hs rs k wall low * p_sc hs rs k wall low + p_sc hs rs k wall low * p_sc hs rs k wall high + p_sc hs rs k wall high * p_sc hs rs k wall high) ∧ (high - low) * (p_sc hs rs k wall low * p_sc hs rs k wall low + p_sc hs rs k wall low * p_sc hs rs k wall high + p_sc hs rs k wall high * p_sc hs rs k wall high) ≤ 400 * 19200000000 := by
  have a := hH (k - 1)
  have b := hH k
  have x := p_sc_bd (rs := rs) (hs := hs) (k := k) (wall := wall) (h := low) hR hw h1 (by omega)
  have y := p_sc_bd (rs := rs) (hs := hs) (k := k) (wall := wall) (h := high) hR hw (by omega) h3
  generalize p_sc hs rs k wall low = r at x ⊢
  generalize p_sc hs rs k wall high = t at y ⊢
  have e1 := p_mulb (a := r) (b := r) (A := 80000) (B := 80000) (by omega) (by omega)
  have e2 := p_mulb (a := r) (b := t) (A := 80000) (B := 80000) (by omega) (by omega)
  have e3 := p_mulb (a := t) (b := t) (A := 80000) (B := 80000) (by omega) (by omega)
  exact p_mulb (by omega) (by omega)
theorem p_u_eq {hs rs : Nat → Int} {wall low high : Int} {k : Nat} (hH : ∀ j, 0 ≤ hs j ∧ hs j ≤ 400) (hR : ∀ j, 0 ≤ rs j ∧ rs j ≤ 200) (hw : 0 ≤ wall) (h1 : hs (k - 1) ≤ low) (h2 : low < high) (h3 : high ≤ hs k) : (high - low) * (p_sc hs rs k wall low * p_sc hs rs k wall low + p_sc hs rs k wall low * p_sc hs rs k wall high + p_sc hs rs k wall high * p_sc hs rs k wall high) = ((p_u hs rs wall low high k : Nat) : Int) := (Int.toNat_of_nonneg (p_u_in hH hR hw h1 h2 h3).1).symm
theorem p_u_lt {hs rs : Nat → Int} {wall low high : Int} {k : Nat} (hH : ∀ j, 0 ≤ hs j ∧ hs j ≤ 400) (hR : ∀ j, 0 ≤ rs j ∧ rs j ≤ 200) (hw : 0 ≤ wall) (h1 : hs (k - 1) ≤ low) (h2 : low < high) (h3 : high ≤ hs k) : p_u hs rs wall low high k ≤ 7680000000000 := by
  have h := (p_u_in (k := k) (rs := rs) (wall := wall) hH hR hw h1 h2 h3).2
  rw [p_u_eq hH hR hw h1 h2 h3] at h
  omega
theorem p_q_eq {hs : Nat → Int} {k : Nat} (h : hs (k - 1) ≤ hs k) : 3 * (hs k - hs (k - 1)) * (hs k - hs (k - 1)) = ((p_q hs k : Nat) : Int) := (Int.toNat_of_nonneg (Int.mul_nonneg (by omega) (by omega))).symm
theorem p_q_bd {hs : Nat → Int} {k : Nat} (hH : ∀ j, 0 ≤ hs j ∧ hs j ≤ 400) (h : hs (k - 1) < hs k) : 0 < p_q hs k ∧ p_q hs k ≤ 480000 := by
  have a := hH (k - 1)
  have b := hH k
  have e := p_q_eq (hs := hs) (k := k) (by omega)
  have e1 := p_mulb (a := 3 * (hs k - hs (k - 1))) (b := hs k - hs (k - 1)) (A := 1200) (B := 400) (by omega) (by omega)
  have e2 : 0 < 3 * (hs k - hs (k - 1)) * (hs k - hs (k - 1)) := Int.mul_pos (by omega) (by omega)
  rw [e] at e1 e2
  omega
def p_lo (hs : Nat → Int) (frm : Int) (k : Nat) : Int := max frm (hs (k - 1))
def p_hi (hs : Nat → Int) (to : Int) (k : Nat) : Int := min to (hs k)
def p_step (hs rs : Nat → Int) (wall frm to : Int) (k : Nat) (x : Nat × Nat) : Nat × Nat := if p_lo hs frm k < p_hi hs to k then fr_add x (p_u hs rs wall (p_lo hs frm k) (p_hi hs to k) k) (p_q hs k) else x
def p_sum (hs rs : Nat → Int) (wall frm to : Int) : Nat → Nat × Nat
  | 0 => (0, 1)
  | j + 1 => p_step hs rs wall frm to (j + 1) (p_sum hs rs wall frm to j)
def p_oks (n : Nat) (hs rs : Nat → Int) (wall frm to : Int) : Prop := ∀ j, j + 1 < n → p_lo hs frm (j + 1) < p_hi hs to (j + 1) → p_ok (p_sum hs rs wall frm to j) (p_u hs rs wall (p_lo hs frm (j + 1)) (p_hi hs to (j + 1)) (j + 1)) (p_q hs (j + 1))
abbrev rm_X1_addCorner : Room := { frames := 1, cells := 0, slots := 0, locals := 24 }
set_option maxHeartbeats 4000000 in
set_option maxRecDepth 100000 in
theorem c_X1_addCorner_y (l : Launch) (dC : Nat → ClassId) (dI : Nat → Nat → Nat) (sz : Nat) (h0 h1 h2 : Nat) (cA : ClassId) (n : Nat) (th wc : Int) (hs rs : Nat → Int) (h r : Int) (hn : n ≤ 12) (hH : ∀ j, 0 ≤ hs j ∧ hs j ≤ 400) (hR : ∀ j, 0 ≤ rs j ∧ rs j ≤ 200) (hw : wc = 0 ∨ wc = 1) (hh : 0 ≤ h ∧ h ≤ 400) (hr9 : 0 ≤ r ∧ r ≤ 200)(hcl : wc = 0 ∧ n < 12) (hcf : p_canf n hs rs h r = true) : Met l yX1_addCorner (Cond.code yX1_addCorner cX1_addCorner 3 ((Option.some Jvm.ClassFile.FieldType.boolean)) :: gw) rm_X1_addCorner (PcW [.ref h0, .int (zi (h)), .int (zi (r))] (dC, dI) vwCl [(h0, .inr (1, [.ref h1, .ref h2, .int (zi ((n : Int))), .int (zi (th)), .int (zi (wc))])), (h1, .inl (cA, 12, .inl (zA (hs)))), (h2, .inl (cA, 12, .inl (zA (rs))))] [(cA, .int)] sz) (WrQ (some (.int (zi 1))) (dC, dI) vwCl [(h0, .inr (1, [.ref h1, .ref h2, .int (zi (((n + 1 : Nat) : Int))), .int (zi (th)), .int (zi (wc))])), (h1, .inl (cA, 12, .inl (zA (zupd hs (n) (h))))), (h2, .inl (cA, 12, .inl (zA (zupd rs (n) (r)))))] (va_A [(h0, .inr (1, [.ref h1, .ref h2, .int (zi ((n : Int))), .int (zi (th)), .int (zi (wc))])), (h1, .inl (cA, 12, .inl (zA (hs)))), (h2, .inl (cA, 12, .inl (zA (rs))))] sz)) 0 0 (va_A [(h0, .inr (1, [.ref h1, .ref h2, .int (zi ((n : Int))), .int (zi (th)), .int (zi (wc))])), (h1, .inl (cA, 12, .inl (zA (hs)))), (h2, .inl (cA, 12, .inl (zA (rs))))] sz) := by
  refine Met.ofW (cc := cX1_addCorner) (maxL := 3) (ret := ((Option.some Jvm.ClassFile.FieldType.boolean))) (by decide) rfl ?_
  intro p e s m args below meth c s₁ B hml hv
  obtain ⟨hargs, hsz, hP, hK, hD0⟩ := hv
  have hx := B.exec
  have hb := B.bytes
  have hr := B.returns
  have hts := atoms_spec (ws := Cond.code yX1_addCorner cX1_addCorner 3 ((Option.some Jvm.ClassFile.FieldType.boolean)) :: gw) B.pre
  have hg : ∀ w ∈ gw, w.before args s = true := fun w h => hts w (List.mem_cons_of_mem _ h)
  have hown : s.vm.findClass RX1 = some m.cls := findClass_of_methodNamed B.named
  have hlocks := B.notSynchronized
  subst hsz
  have hD := hD0.self (sz := s.heap.size)
  generalize hAe : va_A [(h0, .inr (1, [.ref h1, .ref h2, .int (zi ((n : Int))), .int (zi (th)), .int (zi (wc))])), (h1, .inl (cA, 12, .inl (zA (hs)))), (h2, .inl (cA, 12, .inl (zA (rs))))] s.heap.size = A at hD ⊢
  have hA : ∀ q : Nat, s.heap.size ≤ q → A q := fun q h => by rw [← hAe]; exact Or.inr h
  show W p l e rm_X1_addCorner s m args below meth c s.heap [] 0 0 _ _
  have hl := lv_entry ([.ref h0, .int (zi (h)), .int (zi (r))]) (n := 3) (Nat.le_of_ble_eq_true rfl)
  rw [show entryFrame m args 3 = entryFrame m ([.ref h0, .int (zi (h)), .int (zi (r))] : List Value).toArray 3 by rw [hargs], lg_entry_eq]
  generalize (lg_sl ([.ref h0, .int (zi (h)), .int (zi (r))]) ++ List.replicate (3 - (lg_sl ([.ref h0, .int (zi (h)), .int (zi (r))])).length) Slot.unset).toArray = ls at hl ⊢
  have hl : lv_has ls 3 [(0, .ref h0), (1, .int (zi (h))), (2, .int (zi (r)))] := hl
  obtain ⟨QQ, hQQ⟩ : ∃ Q, Q = MQ below (WrQ (some (.int (zi 1))) (dC, dI) vwCl [(h0, .inr (1, [.ref h1, .ref h2, .int (zi (((n + 1 : Nat) : Int))), .int (zi (th)), .int (zi (wc))])), (h1, .inl (cA, 12, .inl (zA (zupd hs (n) (h))))), (h2, .inl (cA, 12, .inl (zA (zupd rs (n) (r)))))] A) args s 0 0 A := ⟨_, rfl⟩
  rw [← hQQ]
  obtain ⟨H, hHe⟩ : ∃ H : Heap, H = s.heap := ⟨_, rfl⟩
  obtain ⟨locs, hlc⟩ : ∃ x : List Loc, x = [] := ⟨_, rfl⟩
  have hS : va_S A s.heap H locs := by rw [hHe, hlc]; exact va_S.rf
  have hP : va_P (dC, dI) vwCl [(h0, .inr (1, [.ref h1, .ref h2, .int (zi ((n : Int))), .int (zi (th)), .int (zi (wc))])), (h1, .inl (cA, 12, .inl (zA (hs)))), (h2, .inl (cA, 12, .inl (zA (rs))))] H := by rw [hHe]; exact hP
  have hD : va_D A [(h0, .inr (1, [.ref h1, .ref h2, .int (zi ((n : Int))), .int (zi (th)), .int (zi (wc))])), (h1, .inl (cA, 12, .inl (zA (hs)))), (h2, .inl (cA, 12, .inl (zA (rs))))] := hD
  rw [← hHe, ← hlc]
  refine lv_aload_n hx hb dX1_addCorner_0 rfl (lv_at hl 0 rfl) ?_
  refine rdV (As := []) (rest := []) (n := 0) hx hb hml hown hg (c_X1_isClosed l dC dI h0 h1 h2 cA n th wc hs rs hn hw) (gwV wl_X1_26 wm_X1_isClosed we_X1_isClosed wi_X1 wc_X1_isClosed) rfl rfl (by decide +kernel) ⟨Nat.le_of_ble_eq_true rfl, Nat.le_of_ble_eq_true rfl⟩ (hK.sub [0] rfl) (hP.sub [0, 1, 2] rfl) 0 rfl rfl rfl rfl hl.1 rfl (Nat.le_of_ble_eq_true rfl) dX1_addCorner_1 ⟨Nat.zero_le _, Nat.zero_le _⟩ ?_
  refine zz_topi (z := 0) (congrArg zi (zb_f (by simp; omega))) ?_
  refine zz_if_ne (tgt := 16) hx hb (by omega) dX1_addCorner_4 (by decide) (fun c_4 => ?_) (fun c_4 => ?_)
  · exact (c_4 rfl).elim
  · refine lv_aload_n hx hb dX1_addCorner_7 rfl (lv_at hl 0 rfl) ?_
    refine lv_iload_n hx hb dX1_addCorner_8 rfl (lv_at hl 1 rfl) ?_
    refine lv_iload_n hx hb dX1_addCorner_9 rfl (lv_at hl 2 rfl) ?_
    refine rdV (As := [.int (zi (h)), .int (zi (r))]) (rest := []) (n := 2) hx hb hml hown hg (c_X1_canFollow l dC dI h0 h1 h2 cA n th wc hs rs h r hn hH hR hh hr9) (gwV wl_X1_30 wm_X1_canFollow we_X1_canFollow wi_X1 wc_X1_canFollow) rfl rfl (by decide +kernel) ⟨Nat.le_of_ble_eq_true rfl, Nat.le_of_ble_eq_true rfl⟩ (hK.sub [0] rfl) (hP.sub [0, 1, 2] rfl) 0 rfl rfl rfl rfl hl.1 rfl (Nat.le_of_ble_eq_true rfl) dX1_addCorner_10 ⟨Nat.zero_le _, Nat.zero_le _⟩ ?_
    refine zz_topi (z := 1) (congrArg zi (zb_t hcf)) ?_
    refine zz_if_ne (tgt := 18) hx hb (by omega) dX1_addCorner_13 (by decide) (fun c_13 => ?_) (fun c_13 => ?_)
    · refine lv_aload_n hx hb dX1_addCorner_18 rfl (lv_at hl 0 rfl) ?_
      refine va_get (D := (dC, dI)) (ci := 1) (v := .ref h1) (C := RX1) (T := TX1) (N := 5) hx hb hg inX1 hown hK hP 0 rfl rfl 0 (by decide) (hg _ wl_X1_9) (fun _ h9 => h9) rfl dX1_addCorner_19 ?_
      refine lv_aload_n hx hb dX1_addCorner_22 rfl (lv_at hl 0 rfl) ?_
      refine va_get (D := (dC, dI)) (ci := 1) (v := .int (zi ((n : Int)))) (C := RX1) (T := TX1) (N := 5) hx hb hg inX1 hown hK hP 0 rfl rfl 2 (by decide) (hg _ wl_X1_22) (fun _ h9 => h9) rfl dX1_addCorner_23 ?_
      refine lv_iload_n hx hb dX1_addCorner_26 rfl (lv_at hl 1 rfl) ?_
      refine zz_iast hx hb hK hP hD hS 1 0 rfl rfl (n) (by omega) (by omega) (by decide) dX1_addCorner_27 (fun H locs hP hD hS => ?_)
      have hP : va_P (dC, dI) vwCl [(h0, .inr (1, [.ref h1, .ref h2, .int (zi ((n : Int))), .int (zi (th)), .int (zi (wc))])), (h1, .inl (cA, 12, .inl (zA (zupd hs (n) (h))))), (h2, .inl (cA, 12, .inl (zA (rs))))] H := hP
      have hD : va_D A [(h0, .inr (1, [.ref h1, .ref h2, .int (zi ((n : Int))), .int (zi (th)), .int (zi (wc))])), (h1, .inl (cA, 12, .inl (zA (zupd hs (n) (h))))), (h2, .inl (cA, 12, .inl (zA (rs))))] := hD
      refine lv_aload_n hx hb dX1_addCorner_28 rfl (lv_at hl 0 rfl) ?_
      refine va_get (D := (dC, dI)) (ci := 1) (v := .ref h2) (C := RX1) (T := TX1) (N := 5) hx hb hg inX1 hown hK hP 0 rfl rfl 1 (by decide) (hg _ wl_X1_15) (fun _ h9 => h9) rfl dX1_addCorner_29 ?_
      refine lv_aload_n hx hb dX1_addCorner_32 rfl (lv_at hl 0 rfl) ?_
      refine va_get (D := (dC, dI)) (ci := 1) (v := .int (zi ((n : Int)))) (C := RX1) (T := TX1) (N := 5) hx hb hg inX1 hown hK hP 0 rfl rfl 2 (by decide) (hg _ wl_X1_22) (fun _ h9 => h9) rfl dX1_addCorner_33 ?_
      refine lv_iload_n hx hb dX1_addCorner_36 rfl (lv_at hl 2 rfl) ?_
      refine zz_iast hx hb hK hP hD hS 2 0 rfl rfl (n) (by omega) (by omega) (by decide) dX1_addCorner_37 (fun H locs hP hD hS => ?_)
      have hP : va_P (dC, dI) vwCl [(h0, .inr (1, [.ref h1, .ref h2, .int (zi ((n : Int))), .int (zi (th)), .int (zi (wc))])), (h1, .inl (cA, 12, .inl (zA (zupd hs (n) (h))))), (h2, .inl (cA, 12, .inl (zA (zupd rs (n) (r)))))] H := hP
      have hD : va_D A [(h0, .inr (1, [.ref h1, .ref h2, .int (zi ((n : Int))), .int (zi (th)), .int (zi (wc))])), (h1, .inl (cA, 12, .inl (zA (zupd hs (n) (h))))), (h2, .inl (cA, 12, .inl (zA (zupd rs (n) (r)))))] := hD
      refine lv_aload_n hx hb dX1_addCorner_38 rfl (lv_at hl 0 rfl) ?_
      refine lv_dup hx hb dX1_addCorner_39 rfl ?_
      refine va_get (D := (dC, dI)) (ci := 1) (v := .int (zi ((n : Int)))) (C := RX1) (T := TX1) (N := 5) hx hb hg inX1 hown hK hP 0 rfl rfl 2 (by decide) (hg _ wl_X1_22) (fun _ h9 => h9) rfl dX1_addCorner_40 ?_
      refine lv_iconst (v := zi (1)) hx hb dX1_addCorner_43 rfl ?_
      refine zz_iadd hx hb dX1_addCorner_44 ?_
      refine zz_topi (z := ((n + 1 : Nat) : Int)) (congrArg zi (by push_cast; rfl)) ?_
      refine va_put (D := (dC, dI)) (ci := 1) (v := .int (zi (((n + 1 : Nat) : Int)))) (ty := .int) (C := RX1) (T := TX1) (N := 5) hx hb hg inX1 tyX1 tyX1_ok nmX1 hown hK hP hD hS 0 rfl rfl 2 (by decide) (hg _ wl_X1_22) (fun _ h9 => h9) rfl (by decide +kernel) rfl rfl (Nat.le_of_ble_eq_true rfl) dX1_addCorner_45 (fun H locs hP hD hS => ?_)
      have hP : va_P (dC, dI) vwCl [(h0, .inr (1, [.ref h1, .ref h2, .int (zi (((n + 1 : Nat) : Int))), .int (zi (th)), .int (zi (wc))])), (h1, .inl (cA, 12, .inl (zA (zupd hs (n) (h))))), (h2, .inl (cA, 12, .inl (zA (zupd rs (n) (r)))))] H := hP
      have hD : va_D A [(h0, .inr (1, [.ref h1, .ref h2, .int (zi (((n + 1 : Nat) : Int))), .int (zi (th)), .int (zi (wc))])), (h1, .inl (cA, 12, .inl (zA (zupd hs (n) (h))))), (h2, .inl (cA, 12, .inl (zA (zupd rs (n) (r)))))] := hD
      refine lv_iconst (v := zi (1)) hx hb dX1_addCorner_48 rfl ?_
      have hP9 : va_P (dC, dI) vwCl [(h0, .inr (1, [.ref h1, .ref h2, .int (zi (((n + 1 : Nat) : Int))), .int (zi (th)), .int (zi (wc))])), (h1, .inl (cA, 12, .inl (zA (zupd hs (n) (h))))), (h2, .inl (cA, 12, .inl (zA (zupd rs (n) (r)))))] H := hP
      rw [hQQ]
      exact wr_z hx hb hr hlocks rfl (by first | exact Or.inl rfl | exact Or.inr rfl | omega) hP9 hS dX1_addCorner_49
    · exact absurd c_13 (by decide)

set_option maxHeartbeats 4000000 in
set_option maxRecDepth 100000 in
theorem c_X1_addCorner_n (l : Launch) (dC : Nat → ClassId) (dI : Nat → Nat → Nat) (sz : Nat) (h0 h1 h2 : Nat) (cA : ClassId) (n : Nat) (th wc : Int) (hs rs : Nat → Int) (h r : Int) (hn : n ≤ 12) (hH : ∀ j, 0 ≤ hs j ∧ hs j ≤ 400) (hR : ∀ j, 0 ≤ rs j ∧ rs j ≤ 200) (hw : wc = 0 ∨ wc = 1) (hh : 0 ≤ h ∧ h ≤ 400) (hr9 : 0 ≤ r ∧ r ≤ 200)(hcl : wc = 0 ∧ n < 12) (hcf : p_canf n hs rs h r = false) : Met l yX1_addCorner (Cond.code yX1_addCorner cX1_addCorner 3 ((Option.some Jvm.ClassFile.FieldType.boolean)) :: gw) rm_X1_addCorner (PcW [.ref h0, .int (zi (h)), .int (zi (r))] (dC, dI) vwCl [(h0, .inr (1, [.ref h1, .ref h2, .int (zi ((n : Int))), .int (zi (th)), .int (zi (wc))])), (h1, .inl (cA, 12, .inl (zA (hs)))), (h2, .inl (cA, 12, .inl (zA (rs))))] [(cA, .int)] sz) (WrQ (some (.int (zi 0))) (dC, dI) vwCl [(h0, .inr (1, [.ref h1, .ref h2, .int (zi ((n : Int))), .int (zi (th)), .int (zi (wc))])), (h1, .inl (cA, 12, .inl (zA (hs)))), (h2, .inl (cA, 12, .inl (zA (rs))))] (va_A [(h0, .inr (1, [.ref h1, .ref h2, .int (zi ((n : Int))), .int (zi (th)), .int (zi (wc))])), (h1, .inl (cA, 12, .inl (zA (hs)))), (h2, .inl (cA, 12, .inl (zA (rs))))] sz)) 0 0 (va_A [(h0, .inr (1, [.ref h1, .ref h2, .int (zi ((n : Int))), .int (zi (th)), .int (zi (wc))])), (h1, .inl (cA, 12, .inl (zA (hs)))), (h2, .inl (cA, 12, .inl (zA (rs))))] sz) := by
  refine Met.ofW (cc := cX1_addCorner) (maxL := 3) (ret := ((Option.some Jvm.ClassFile.FieldType.boolean))) (by decide) rfl ?_
  intro p e s m args below meth c s₁ B hml hv
  obtain ⟨hargs, hsz, hP, hK, hD0⟩ := hv
  have hx := B.exec
  have hb := B.bytes
  have hr := B.returns
  have hts := atoms_spec (ws := Cond.code yX1_addCorner cX1_addCorner 3 ((Option.some Jvm.ClassFile.FieldType.boolean)) :: gw) B.pre
  have hg : ∀ w ∈ gw, w.before args s = true := fun w h => hts w (List.mem_cons_of_mem _ h)
  have hown : s.vm.findClass RX1 = some m.cls := findClass_of_methodNamed B.named
  have hlocks := B.notSynchronized
  subst hsz
  have hD := hD0.self (sz := s.heap.size)
  generalize hAe : va_A [(h0, .inr (1, [.ref h1, .ref h2, .int (zi ((n : Int))), .int (zi (th)), .int (zi (wc))])), (h1, .inl (cA, 12, .inl (zA (hs)))), (h2, .inl (cA, 12, .inl (zA (rs))))] s.heap.size = A at hD ⊢
  have hA : ∀ q : Nat, s.heap.size ≤ q → A q := fun q h => by rw [← hAe]; exact Or.inr h
  show W p l e rm_X1_addCorner s m args below meth c s.heap [] 0 0 _ _
  have hl := lv_entry ([.ref h0, .int (zi (h)), .int (zi (r))]) (n := 3) (Nat.le_of_ble_eq_true rfl)
  rw [show entryFrame m args 3 = entryFrame m ([.ref h0, .int (zi (h)), .int (zi (r))] : List Value).toArray 3 by rw [hargs], lg_entry_eq]
  generalize (lg_sl ([.ref h0, .int (zi (h)), .int (zi (r))]) ++ List.replicate (3 - (lg_sl ([.ref h0, .int (zi (h)), .int (zi (r))])).length) Slot.unset).toArray = ls at hl ⊢
  have hl : lv_has ls 3 [(0, .ref h0), (1, .int (zi (h))), (2, .int (zi (r)))] := hl
  obtain ⟨QQ, hQQ⟩ : ∃ Q, Q = MQ below (WrQ (some (.int (zi 0))) (dC, dI) vwCl [(h0, .inr (1, [.ref h1, .ref h2, .int (zi ((n : Int))), .int (zi (th)), .int (zi (wc))])), (h1, .inl (cA, 12, .inl (zA (hs)))), (h2, .inl (cA, 12, .inl (zA (rs))))] A) args s 0 0 A := ⟨_, rfl⟩
  rw [← hQQ]
  obtain ⟨H, hHe⟩ : ∃ H : Heap, H = s.heap := ⟨_, rfl⟩
  obtain ⟨locs, hlc⟩ : ∃ x : List Loc, x = [] := ⟨_, rfl⟩
  have hS : va_S A s.heap H locs := by rw [hHe, hlc]; exact va_S.rf
  have hP : va_P (dC, dI) vwCl [(h0, .inr (1, [.ref h1, .ref h2, .int (zi ((n : Int))), .int (zi (th)), .int (zi (wc))])), (h1, .inl (cA, 12, .inl (zA (hs)))), (h2, .inl (cA, 12, .inl (zA (rs))))] H := by rw [hHe]; exact hP
  have hD : va_D A [(h0, .inr (1, [.ref h1, .ref h2, .int (zi ((n : Int))), .int (zi (th)), .int (zi (wc))])), (h1, .inl (cA, 12, .inl (zA (hs)))), (h2, .inl (cA, 12, .inl (zA (rs))))] := hD
  rw [← hHe, ← hlc]
  refine lv_aload_n hx hb dX1_addCorner_0 rfl (lv_at hl 0 rfl) ?_
  refine rdV (As := []) (rest := []) (n := 0) hx hb hml hown hg (c_X1_isClosed l dC dI h0 h1 h2 cA n th wc hs rs hn hw) (gwV wl_X1_26 wm_X1_isClosed we_X1_isClosed wi_X1 wc_X1_isClosed) rfl rfl (by decide +kernel) ⟨Nat.le_of_ble_eq_true rfl, Nat.le_of_ble_eq_true rfl⟩ (hK.sub [0] rfl) (hP.sub [0, 1, 2] rfl) 0 rfl rfl rfl rfl hl.1 rfl (Nat.le_of_ble_eq_true rfl) dX1_addCorner_1 ⟨Nat.zero_le _, Nat.zero_le _⟩ ?_
  refine zz_topi (z := 0) (congrArg zi (zb_f (by simp; omega))) ?_
  refine zz_if_ne (tgt := 16) hx hb (by omega) dX1_addCorner_4 (by decide) (fun c_4 => ?_) (fun c_4 => ?_)
  · exact (c_4 rfl).elim
  · refine lv_aload_n hx hb dX1_addCorner_7 rfl (lv_at hl 0 rfl) ?_
    refine lv_iload_n hx hb dX1_addCorner_8 rfl (lv_at hl 1 rfl) ?_
    refine lv_iload_n hx hb dX1_addCorner_9 rfl (lv_at hl 2 rfl) ?_
    refine rdV (As := [.int (zi (h)), .int (zi (r))]) (rest := []) (n := 2) hx hb hml hown hg (c_X1_canFollow l dC dI h0 h1 h2 cA n th wc hs rs h r hn hH hR hh hr9) (gwV wl_X1_30 wm_X1_canFollow we_X1_canFollow wi_X1 wc_X1_canFollow) rfl rfl (by decide +kernel) ⟨Nat.le_of_ble_eq_true rfl, Nat.le_of_ble_eq_true rfl⟩ (hK.sub [0] rfl) (hP.sub [0, 1, 2] rfl) 0 rfl rfl rfl rfl hl.1 rfl (Nat.le_of_ble_eq_true rfl) dX1_addCorner_10 ⟨Nat.zero_le _, Nat.zero_le _⟩ ?_
    refine zz_topi (z := 0) (congrArg zi (zb_f hcf)) ?_
    refine zz_if_ne (tgt := 18) hx hb (by omega) dX1_addCorner_13 (by decide) (fun c_13 => ?_) (fun c_13 => ?_)
    · exact (c_13 rfl).elim
    · refine lv_iconst (v := zi (0)) hx hb dX1_addCorner_16 rfl ?_
      have hP9 : va_P (dC, dI) vwCl [(h0, .inr (1, [.ref h1, .ref h2, .int (zi ((n : Int))), .int (zi (th)), .int (zi (wc))])), (h1, .inl (cA, 12, .inl (zA (hs)))), (h2, .inl (cA, 12, .inl (zA (rs))))] H := hP
      rw [hQQ]
      exact wr_z hx hb hr hlocks rfl (by first | exact Or.inl rfl | exact Or.inr rfl | omega) hP9 hS dX1_addCorner_17

abbrev rm_X1_addPiece : Room := { frames := 3, cells := 0, slots := 0, locals := 82 }
set_option maxHeartbeats 4000000 in
set_option maxRecDepth 100000 in
theorem c_X1_addPiece (l : Launch) (dC : Nat → ClassId) (dI : Nat → Nat → Nat) (sz : Nat) (h0 h1 h2 : Nat) (cA : ClassId) (n : Nat) (th wc : Int) (hs rs : Nat → Int) (h3 : Nat) (x : Nat × Nat) (k : Nat) (wall low high : Int) (hn : n ≤ 12) (hH : ∀ j, 0 ≤ hs j ∧ hs j ≤ 400) (hR : ∀ j, 0 ≤ rs j ∧ rs j ≤ 200) (hk : 1 ≤ k ∧ k < 12) (hw : 0 ≤ wall ∧ wall ≤ 50) (hl1 : hs (k - 1) ≤ low) (hl2 : low < high) (hl3 : high ≤ hs k) (hok : p_ok x (p_u hs rs wall low high k) (p_q hs k)) : Met l yX1_addPiece (Cond.code yX1_addPiece cX1_addPiece 12 ((Option.none : Option Jvm.ClassFile.FieldType)) :: gw) rm_X1_addPiece (PcW [.ref h0, .ref h3, .int (zi ((k : Int))), .int (zi (wall)), .int (zi (low)), .int (zi (high))] (dC, dI) vwCl [(h0, .inr (1, [.ref h1, .ref h2, .int (zi ((n : Int))), .int (zi (th)), .int (zi (wc))])), (h1, .inl (cA, 12, .inl (zA (hs)))), (h2, .inl (cA, 12, .inl (zA (rs)))), (h3, .inr (0, [.long (zl ((((x).1 : Nat) : Int))), .long (zl ((((x).2 : Nat) : Int)))]))] [(cA, .int)] sz) (WrQ (none) (dC, dI) vwCl [(h0, .inr (1, [.ref h1, .ref h2, .int (zi ((n : Int))), .int (zi (th)), .int (zi (wc))])), (h1, .inl (cA, 12, .inl (zA (hs)))), (h2, .inl (cA, 12, .inl (zA (rs)))), (h3, .inr (0, [.long (zl ((((fr_add x (p_u hs rs wall low high k) (p_q hs k)).1 : Nat) : Int))), .long (zl ((((fr_add x (p_u hs rs wall low high k) (p_q hs k)).2 : Nat) : Int)))]))] (va_A [(h0, .inr (1, [.ref h1, .ref h2, .int (zi ((n : Int))), .int (zi (th)), .int (zi (wc))])), (h1, .inl (cA, 12, .inl (zA (hs)))), (h2, .inl (cA, 12, .inl (zA (rs)))), (h3, .inr (0, [.long (zl ((((x).1 : Nat) : Int))), .long (zl ((((x).2 : Nat) : Int)))]))] sz)) 0 0 (va_A [(h0, .inr (1, [.ref h1, .ref h2, .int (zi ((n : Int))), .int (zi (th)), .int (zi (wc))])), (h1, .inl (cA, 12, .inl (zA (hs)))), (h2, .inl (cA, 12, .inl (zA (rs)))), (h3, .inr (0, [.long (zl ((((x).1 : Nat) : Int))), .long (zl ((((x).2 : Nat) : Int)))]))] sz) := by
  refine Met.ofW (cc := cX1_addPiece) (maxL := 12) (ret := ((Option.none : Option Jvm.ClassFile.FieldType))) (by decide) rfl ?_
  intro p e s m args below meth c s₁ B hml hv
  obtain ⟨hargs, hsz, hP, hK, hD0⟩ := hv
  have hx := B.exec
  have hb := B.bytes
  have hr := B.returns
  have hts := atoms_spec (ws := Cond.code yX1_addPiece cX1_addPiece 12 ((Option.none : Option Jvm.ClassFile.FieldType)) :: gw) B.pre
  have hg : ∀ w ∈ gw, w.before args s = true := fun w h => hts w (List.mem_cons_of_mem _ h)
  have hown : s.vm.findClass RX1 = some m.cls := findClass_of_methodNamed B.named
  have hlocks := B.notSynchronized
  subst hsz
  have hD := hD0.self (sz := s.heap.size)
  generalize hAe : va_A [(h0, .inr (1, [.ref h1, .ref h2, .int (zi ((n : Int))), .int (zi (th)), .int (zi (wc))])), (h1, .inl (cA, 12, .inl (zA (hs)))), (h2, .inl (cA, 12, .inl (zA (rs)))), (h3, .inr (0, [.long (zl ((((x).1 : Nat) : Int))), .long (zl ((((x).2 : Nat) : Int)))]))] s.heap.size = A at hD ⊢
  have hA : ∀ q : Nat, s.heap.size ≤ q → A q := fun q h => by rw [← hAe]; exact Or.inr h
  show W p l e rm_X1_addPiece s m args below meth c s.heap [] 0 0 _ _
  have hl := lv_entry ([.ref h0, .ref h3, .int (zi ((k : Int))), .int (zi (wall)), .int (zi (low)), .int (zi (high))]) (n := 12) (Nat.le_of_ble_eq_true rfl)
  rw [show entryFrame m args 12 = entryFrame m ([.ref h0, .ref h3, .int (zi ((k : Int))), .int (zi (wall)), .int (zi (low)), .int (zi (high))] : List Value).toArray 12 by rw [hargs], lg_entry_eq]
  generalize (lg_sl ([.ref h0, .ref h3, .int (zi ((k : Int))), .int (zi (wall)), .int (zi (low)), .int (zi (high))]) ++ List.replicate (12 - (lg_sl ([.ref h0, .ref h3, .int (zi ((k : Int))), .int (zi (wall)), .int (zi (low)), .int (zi (high))])).length) Slot.unset).toArray = ls at hl ⊢
  have hl : lv_has ls 12 [(0, .ref h0), (1, .ref h3), (2, .int (zi ((k : Int)))), (3, .int (zi (wall))), (4, .int (zi (low))), (5, .int (zi (high)))] := hl
  obtain ⟨QQ, hQQ⟩ : ∃ Q, Q = MQ below (WrQ (none) (dC, dI) vwCl [(h0, .inr (1, [.ref h1, .ref h2, .int (zi ((n : Int))), .int (zi (th)), .int (zi (wc))])), (h1, .inl (cA, 12, .inl (zA (hs)))), (h2, .inl (cA, 12, .inl (zA (rs)))), (h3, .inr (0, [.long (zl ((((fr_add x (p_u hs rs wall low high k) (p_q hs k)).1 : Nat) : Int))), .long (zl ((((fr_add x (p_u hs rs wall low high k) (p_q hs k)).2 : Nat) : Int)))]))] A) args s 0 0 A := ⟨_, rfl⟩
  rw [← hQQ]
  obtain ⟨H, hHe⟩ : ∃ H : Heap, H = s.heap := ⟨_, rfl⟩
  obtain ⟨locs, hlc⟩ : ∃ x : List Loc, x = [] := ⟨_, rfl⟩
  have hS : va_S A s.heap H locs := by rw [hHe, hlc]; exact va_S.rf
  have hP : va_P (dC, dI) vwCl [(h0, .inr (1, [.ref h1, .ref h2, .int (zi ((n : Int))), .int (zi (th)), .int (zi (wc))])), (h1, .inl (cA, 12, .inl (zA (hs)))), (h2, .inl (cA, 12, .inl (zA (rs)))), (h3, .inr (0, [.long (zl ((((x).1 : Nat) : Int))), .long (zl ((((x).2 : Nat) : Int)))]))] H := by rw [hHe]; exact hP
  have hD : va_D A [(h0, .inr (1, [.ref h1, .ref h2, .int (zi ((n : Int))), .int (zi (th)), .int (zi (wc))])), (h1, .inl (cA, 12, .inl (zA (hs)))), (h2, .inl (cA, 12, .inl (zA (rs)))), (h3, .inr (0, [.long (zl ((((x).1 : Nat) : Int))), .long (zl ((((x).2 : Nat) : Int)))]))] := hD
  rw [← hHe, ← hlc]
  have hqb := p_q_bd (hs := hs) (k := k) hH (by omega)
  have hul := p_u_lt (hs := hs) (rs := rs) (wall := wall) (low := low) (high := high) (k := k) hH hR hw.1 hl1 hl2 hl3
  have hb1 := p_sc_bd (rs := rs) (hs := hs) (k := k) (wall := wall) (h := low) hR hw.1 hl1 (by omega)
  have hb2 := p_sc_bd (rs := rs) (hs := hs) (k := k) (wall := wall) (h := high) hR hw.1 (by omega) hl3
  refine lv_aload_n hx hb dX1_addPiece_0 rfl (lv_at hl 0 rfl) ?_
  refine va_get (D := (dC, dI)) (ci := 1) (v := .ref h1) (C := RX1) (T := TX1) (N := 5) hx hb hg inX1 hown hK hP 0 rfl rfl 0 (by decide) (hg _ wl_X1_9) (fun _ h9 => h9) rfl dX1_addPiece_1 ?_
  refine lv_iload_n hx hb dX1_addPiece_4 rfl (lv_at hl 2 rfl) ?_
  refine zz_iald hx hb hK hP 1 0 rfl rfl (k) (by omega) (by omega) (by decide) dX1_addPiece_5 ?_
  have hv_1 := hH (k)
  refine lv_aload_n hx hb dX1_addPiece_6 rfl (lv_at hl 0 rfl) ?_
  refine va_get (D := (dC, dI)) (ci := 1) (v := .ref h1) (C := RX1) (T := TX1) (N := 5) hx hb hg inX1 hown hK hP 0 rfl rfl 0 (by decide) (hg _ wl_X1_9) (fun _ h9 => h9) rfl dX1_addPiece_7 ?_
  refine lv_iload_n hx hb dX1_addPiece_10 rfl (lv_at hl 2 rfl) ?_
  refine lv_iconst (v := zi (1)) hx hb dX1_addPiece_11 rfl ?_
  refine zz_isub hx hb dX1_addPiece_12 ?_
  refine zz_iald hx hb hK hP 1 0 rfl rfl (k - 1) (by omega) (by omega) (by decide) dX1_addPiece_13 ?_
  have hv_2 := hH (k - 1)
  refine zz_isub hx hb dX1_addPiece_14 ?_
  refine zz_i2l hx hb (by omega) dX1_addPiece_15 ?_
  refine lv_lstore (lv' := [(6, .long (zl ((hs (k)) - (hs (k - 1))))), (0, .ref h0), (1, .ref h3), (2, .int (zi ((k : Int)))), (3, .int (zi (wall))), (4, .int (zi (low))), (5, .int (zi (high)))]) hx hb dX1_addPiece_16 hl (by decide) rfl (fun ls hl => ?_)
  refine lv_aload_n hx hb dX1_addPiece_18 rfl (lv_at hl 1 rfl) ?_
  refine lv_iload_n hx hb dX1_addPiece_19 rfl (lv_at hl 3 rfl) ?_
  refine lv_iload_n hx hb dX1_addPiece_20 rfl (lv_at hl 4 rfl) ?_
  refine lv_iload hx hb dX1_addPiece_21 (lv_at hl 5 rfl) ?_
  refine rdV (As := [.int (zi ((k : Int))), .int (zi (wall)), .int (zi (low))]) (rest := []) (n := 3) hx hb hml hown hg (c_X1_scaledRadius l dC dI h0 h1 h2 cA n th wc hs rs (k) (wall) (low) hn hH hR hk hw) (gwV wl_X1_40 wm_X1_scaledRadius we_X1_scaledRadius wi_X1 wc_X1_scaledRadius) rfl rfl (by decide +kernel) ⟨Nat.le_of_ble_eq_true rfl, Nat.le_of_ble_eq_true rfl⟩ (hK.sub [0] rfl) (hP.sub [0, 1, 2] rfl) 0 rfl rfl rfl rfl hl.1 rfl (Nat.le_of_ble_eq_true rfl) dX1_addPiece_23 ⟨Nat.zero_le _, Nat.zero_le _⟩ ?_
  refine zz_i2l hx hb (by omega) dX1_addPiece_26 ?_
  refine lv_lstore (lv' := [(8, .long (zl (p_sc hs rs (k) (wall) (low)))), (6, .long (zl ((hs (k)) - (hs (k - 1))))), (0, .ref h0), (1, .ref h3), (2, .int (zi ((k : Int)))), (3, .int (zi (wall))), (4, .int (zi (low))), (5, .int (zi (high)))]) hx hb dX1_addPiece_27 hl (by decide) rfl (fun ls hl => ?_)
  refine lv_aload_n hx hb dX1_addPiece_29 rfl (lv_at hl 2 rfl) ?_
  refine lv_iload_n hx hb dX1_addPiece_30 rfl (lv_at hl 4 rfl) ?_
  refine lv_iload_n hx hb dX1_addPiece_31 rfl (lv_at hl 5 rfl) ?_
  refine lv_iload hx hb dX1_addPiece_32 (lv_at hl 7 rfl) ?_
  refine rdV (As := [.int (zi ((k : Int))), .int (zi (wall)), .int (zi (high))]) (rest := []) (n := 3) hx hb hml hown hg (c_X1_scaledRadius l dC dI h0 h1 h2 cA n th wc hs rs (k) (wall) (high) hn hH hR hk hw) (gwV wl_X1_40 wm_X1_scaledRadius we_X1_scaledRadius wi_X1 wc_X1_scaledRadius) rfl rfl (by decide +kernel) ⟨Nat.le_of_ble_eq_true rfl, Nat.le_of_ble_eq_true rfl⟩ (hK.sub [0] rfl) (hP.sub [0, 1, 2] rfl) 0 rfl rfl rfl rfl hl.1 rfl (Nat.le_of_ble_eq_true rfl) dX1_addPiece_34 ⟨Nat.zero_le _, Nat.zero_le _⟩ ?_
  refine zz_i2l hx hb (by omega) dX1_addPiece_37 ?_
  refine lv_lstore (lv' := [(10, .long (zl (p_sc hs rs (k) (wall) (high)))), (8, .long (zl (p_sc hs rs (k) (wall) (low)))), (6, .long (zl ((hs (k)) - (hs (k - 1))))), (0, .ref h0), (1, .ref h3), (2, .int (zi ((k : Int)))), (3, .int (zi (wall))), (4, .int (zi (low))), (5, .int (zi (high)))]) hx hb dX1_addPiece_38 hl (by decide) rfl (fun ls hl => ?_)
  refine lv_aload_n hx hb dX1_addPiece_40 rfl (lv_at hl 4 rfl) ?_
  refine lv_iload hx hb dX1_addPiece_41 (lv_at hl 8 rfl) ?_
  refine lv_iload hx hb dX1_addPiece_43 (lv_at hl 7 rfl) ?_
  refine zz_isub hx hb dX1_addPiece_45 ?_
  refine zz_i2l hx hb (by omega) dX1_addPiece_46 ?_
  refine lv_lload hx hb dX1_addPiece_47 (lv_at hl 1 rfl) ?_
  refine lv_lload hx hb dX1_addPiece_49 (lv_at hl 1 rfl) ?_
  refine zz_lmul hx hb dX1_addPiece_51 ?_
  refine lv_lload hx hb dX1_addPiece_52 (lv_at hl 1 rfl) ?_
  refine lv_lload hx hb dX1_addPiece_54 (lv_at hl 0 rfl) ?_
  refine zz_lmul hx hb dX1_addPiece_56 ?_
  refine zz_ladd hx hb dX1_addPiece_57 ?_
  refine lv_lload hx hb dX1_addPiece_58 (lv_at hl 0 rfl) ?_
  refine lv_lload hx hb dX1_addPiece_60 (lv_at hl 0 rfl) ?_
  refine zz_lmul hx hb dX1_addPiece_62 ?_
  refine zz_ladd hx hb dX1_addPiece_63 ?_
  refine zz_lmul hx hb dX1_addPiece_64 ?_
  refine zz_topl (z := ((p_u hs rs wall low high k : Nat) : Int)) (congrArg zl (p_u_eq hH hR hw.1 hl1 hl2 hl3)) ?_
  refine lv_ldc2 (v := 3) hx hb hown (hg _ wl_X1_67) dX1_addPiece_65 ?_
  refine zz_topl (z := 3) (by decide) ?_
  refine lv_lload hx hb dX1_addPiece_68 (lv_at hl 2 rfl) ?_
  refine zz_lmul hx hb dX1_addPiece_70 ?_
  refine lv_lload hx hb dX1_addPiece_71 (lv_at hl 2 rfl) ?_
  refine zz_lmul hx hb dX1_addPiece_73 ?_
  refine zz_topl (z := ((p_q hs k : Nat) : Int)) (congrArg zl (p_q_eq (by omega))) ?_
  refine wrV (As := [.long (zl (((p_u hs rs wall low high k : Nat) : Int))), .long (zl (((p_q hs k : Nat) : Int)))]) (rest := []) (n := 2) (ws' := [(h0, .inr (1, [.ref h1, .ref h2, .int (zi ((n : Int))), .int (zi (th)), .int (zi (wc))])), (h1, .inl (cA, 12, .inl (zA (hs)))), (h2, .inl (cA, 12, .inl (zA (rs)))), (h3, .inr (0, [.long (zl ((((fr_add x (p_u hs rs wall low high k) (p_q hs k)).1 : Nat) : Int))), .long (zl ((((fr_add x (p_u hs rs wall low high k) (p_q hs k)).2 : Nat) : Int)))]))]) hx hb hml hown hg (c_fr_add l dC dI H.size h3 x (p_u hs rs wall low high k) (p_q hs k) hqb.1 (by omega) (by omega) hok) (gwV wl_X1_69 wm_X0_add we_X0_add wi_X0 wc_X0_add) rfl rfl (by decide +kernel) ⟨Nat.le_of_ble_eq_true rfl, Nat.le_of_ble_eq_true rfl⟩ (hK.sub [] rfl) hP hD hS hA [3] rfl (by decide) [(false, 0), (false, 1), (false, 2), (true, 0)] rfl (by decide) rfl 0 rfl rfl rfl rfl hl.1 rfl (Nat.le_of_ble_eq_true rfl) dX1_addPiece_74 ⟨Nat.zero_le _, Nat.zero_le _⟩ (fun H locs hP hD hS => ?_)
  have hP9 : va_P (dC, dI) vwCl [(h0, .inr (1, [.ref h1, .ref h2, .int (zi ((n : Int))), .int (zi (th)), .int (zi (wc))])), (h1, .inl (cA, 12, .inl (zA (hs)))), (h2, .inl (cA, 12, .inl (zA (rs)))), (h3, .inr (0, [.long (zl ((((fr_add x (p_u hs rs wall low high k) (p_q hs k)).1 : Nat) : Int))), .long (zl ((((fr_add x (p_u hs rs wall low high k) (p_q hs k)).2 : Nat) : Int)))]))] H := hP
  rw [hQQ]
  exact wr_v hx hb hr hlocks hP9 hS dX1_addPiece_77

abbrev rm_X1_addPieces : Room := { frames := 4, cells := 0, slots := 0, locals := 113 }
set_option maxHeartbeats 4000000 in
set_option maxRecDepth 100000 in
theorem c_X1_addPieces (l : Launch) (dC : Nat → ClassId) (dI : Nat → Nat → Nat) (sz : Nat) (h0 h1 h2 : Nat) (cA : ClassId) (n : Nat) (th wc : Int) (hs rs : Nat → Int) (h3 : Nat) (wall frm to : Int) (hn : n ≤ 12) (hH : ∀ j, 0 ≤ hs j ∧ hs j ≤ 400) (hR : ∀ j, 0 ≤ rs j ∧ rs j ≤ 200) (hw : 0 ≤ wall ∧ wall ≤ 50) (hf9 : -2147483648 ≤ frm ∧ frm < 2147483648) (ht9 : -2147483648 ≤ to ∧ to < 2147483648) (hok : p_oks n hs rs wall frm to) : Met l yX1_addPieces (Cond.code yX1_addPieces cX1_addPieces 8 ((Option.none : Option Jvm.ClassFile.FieldType)) :: gw) rm_X1_addPieces (PcW [.ref h0, .ref h3, .int (zi (wall)), .int (zi (frm)), .int (zi (to))] (dC, dI) vwCl [(h0, .inr (1, [.ref h1, .ref h2, .int (zi ((n : Int))), .int (zi (th)), .int (zi (wc))])), (h1, .inl (cA, 12, .inl (zA (hs)))), (h2, .inl (cA, 12, .inl (zA (rs)))), (h3, .inr (0, [.long (zl (((((0, 1)).1 : Nat) : Int))), .long (zl (((((0, 1)).2 : Nat) : Int)))]))] [(cA, .int)] sz) (WrQ (none) (dC, dI) vwCl [(h0, .inr (1, [.ref h1, .ref h2, .int (zi ((n : Int))), .int (zi (th)), .int (zi (wc))])), (h1, .inl (cA, 12, .inl (zA (hs)))), (h2, .inl (cA, 12, .inl (zA (rs)))), (h3, .inr (0, [.long (zl ((((p_sum hs rs wall frm to (n - 1)).1 : Nat) : Int))), .long (zl ((((p_sum hs rs wall frm to (n - 1)).2 : Nat) : Int)))]))] (va_A [(h0, .inr (1, [.ref h1, .ref h2, .int (zi ((n : Int))), .int (zi (th)), .int (zi (wc))])), (h1, .inl (cA, 12, .inl (zA (hs)))), (h2, .inl (cA, 12, .inl (zA (rs)))), (h3, .inr (0, [.long (zl (((((0, 1)).1 : Nat) : Int))), .long (zl (((((0, 1)).2 : Nat) : Int)))]))] sz)) 0 0 (va_A [(h0, .inr (1, [.ref h1, .ref h2, .int (zi ((n : Int))), .int (zi (th)), .int (zi (wc))])), (h1, .inl (cA, 12, .inl (zA (hs)))), (h2, .inl (cA, 12, .inl (zA (rs)))), (h3, .inr (0, [.long (zl (((((0, 1)).1 : Nat) : Int))), .long (zl (((((0, 1)).2 : Nat) : Int)))]))] sz) := by
  refine Met.ofW (cc := cX1_addPieces) (maxL := 8) (ret := ((Option.none : Option Jvm.ClassFile.FieldType))) (by decide) rfl ?_
  intro p e s m args below meth c s₁ B hml hv
  obtain ⟨hargs, hsz, hP, hK, hD0⟩ := hv
  have hx := B.exec
  have hb := B.bytes
  have hr := B.returns
  have hts := atoms_spec (ws := Cond.code yX1_addPieces cX1_addPieces 8 ((Option.none : Option Jvm.ClassFile.FieldType)) :: gw) B.pre
  have hg : ∀ w ∈ gw, w.before args s = true := fun w h => hts w (List.mem_cons_of_mem _ h)
  have hown : s.vm.findClass RX1 = some m.cls := findClass_of_methodNamed B.named
  have hlocks := B.notSynchronized
  subst hsz
  have hD := hD0.self (sz := s.heap.size)
  generalize hAe : va_A [(h0, .inr (1, [.ref h1, .ref h2, .int (zi ((n : Int))), .int (zi (th)), .int (zi (wc))])), (h1, .inl (cA, 12, .inl (zA (hs)))), (h2, .inl (cA, 12, .inl (zA (rs)))), (h3, .inr (0, [.long (zl (((((0, 1)).1 : Nat) : Int))), .long (zl (((((0, 1)).2 : Nat) : Int)))]))] s.heap.size = A at hD ⊢
  have hA : ∀ q : Nat, s.heap.size ≤ q → A q := fun q h => by rw [← hAe]; exact Or.inr h
  show W p l e rm_X1_addPieces s m args below meth c s.heap [] 0 0 _ _
  have hl := lv_entry ([.ref h0, .ref h3, .int (zi (wall)), .int (zi (frm)), .int (zi (to))]) (n := 8) (Nat.le_of_ble_eq_true rfl)
  rw [show entryFrame m args 8 = entryFrame m ([.ref h0, .ref h3, .int (zi (wall)), .int (zi (frm)), .int (zi (to))] : List Value).toArray 8 by rw [hargs], lg_entry_eq]
  generalize (lg_sl ([.ref h0, .ref h3, .int (zi (wall)), .int (zi (frm)), .int (zi (to))]) ++ List.replicate (8 - (lg_sl ([.ref h0, .ref h3, .int (zi (wall)), .int (zi (frm)), .int (zi (to))])).length) Slot.unset).toArray = ls at hl ⊢
  have hl : lv_has ls 8 [(0, .ref h0), (1, .ref h3), (2, .int (zi (wall))), (3, .int (zi (frm))), (4, .int (zi (to)))] := hl
  obtain ⟨QQ, hQQ⟩ : ∃ Q, Q = MQ below (WrQ (none) (dC, dI) vwCl [(h0, .inr (1, [.ref h1, .ref h2, .int (zi ((n : Int))), .int (zi (th)), .int (zi (wc))])), (h1, .inl (cA, 12, .inl (zA (hs)))), (h2, .inl (cA, 12, .inl (zA (rs)))), (h3, .inr (0, [.long (zl ((((p_sum hs rs wall frm to (n - 1)).1 : Nat) : Int))), .long (zl ((((p_sum hs rs wall frm to (n - 1)).2 : Nat) : Int)))]))] A) args s 0 0 A := ⟨_, rfl⟩
  rw [← hQQ]
  obtain ⟨H, hHe⟩ : ∃ H : Heap, H = s.heap := ⟨_, rfl⟩
  obtain ⟨locs, hlc⟩ : ∃ x : List Loc, x = [] := ⟨_, rfl⟩
  have hS : va_S A s.heap H locs := by rw [hHe, hlc]; exact va_S.rf
  have hP : va_P (dC, dI) vwCl [(h0, .inr (1, [.ref h1, .ref h2, .int (zi ((n : Int))), .int (zi (th)), .int (zi (wc))])), (h1, .inl (cA, 12, .inl (zA (hs)))), (h2, .inl (cA, 12, .inl (zA (rs)))), (h3, .inr (0, [.long (zl (((((0, 1)).1 : Nat) : Int))), .long (zl (((((0, 1)).2 : Nat) : Int)))]))] H := by rw [hHe]; exact hP
  have hD : va_D A [(h0, .inr (1, [.ref h1, .ref h2, .int (zi ((n : Int))), .int (zi (th)), .int (zi (wc))])), (h1, .inl (cA, 12, .inl (zA (hs)))), (h2, .inl (cA, 12, .inl (zA (rs)))), (h3, .inr (0, [.long (zl (((((0, 1)).1 : Nat) : Int))), .long (zl (((((0, 1)).2 : Nat) : Int)))]))] := hD
  rw [← hHe, ← hlc]
  refine lv_iconst (v := zi (1)) hx hb dX1_addPieces_0 rfl ?_
  refine lv_istore (lv' := [(5, .int (zi (1))), (0, .ref h0), (1, .ref h3), (2, .int (zi (wall))), (3, .int (zi (frm))), (4, .int (zi (to)))]) hx hb dX1_addPieces_1 hl (by decide) rfl (fun ls hl => ?_)
  have key_3 : ∀ (n_ : Nat) (k : Nat), 1 ≤ k → k ≤ max n 1 → 13 - k < n_ → ∀ (H : Heap) (locs : List Loc), va_P (dC, dI) vwCl [(h0, .inr (1, [.ref h1, .ref h2, .int (zi ((n : Int))), .int (zi (th)), .int (zi (wc))])), (h1, .inl (cA, 12, .inl (zA (hs)))), (h2, .inl (cA, 12, .inl (zA (rs)))), (h3, .inr (0, [.long (zl ((((p_sum hs rs wall frm to (k - 1)).1 : Nat) : Int))), .long (zl ((((p_sum hs rs wall frm to (k - 1)).2 : Nat) : Int)))]))] H → va_D A [(h0, .inr (1, [.ref h1, .ref h2, .int (zi ((n : Int))), .int (zi (th)), .int (zi (wc))])), (h1, .inl (cA, 12, .inl (zA (hs)))), (h2, .inl (cA, 12, .inl (zA (rs)))), (h3, .inr (0, [.long (zl ((((p_sum hs rs wall frm to (k - 1)).1 : Nat) : Int))), .long (zl ((((p_sum hs rs wall frm to (k - 1)).2 : Nat) : Int)))]))] → va_S A s.heap H locs → ∀ (ls : Array Slot), lv_has ls 8 [(5, .int (zi ((k : Int)))), (0, .ref h0), (1, .ref h3), (2, .int (zi (wall))), (3, .int (zi (frm))), (4, .int (zi (to)))] → W p l e rm_X1_addPieces s m args below meth c H locs 0 0 QQ (F0 m 3 ls []) := by
    intro n_
    induction n_ with
    | zero => intro k hk1 hk2 hm_; exact absurd hm_ (Nat.not_lt_zero _)
    | succ n_ ih =>
      intro k hk1 hk2 hm_ H locs hP hD hS ls hl
      refine lv_iload hx hb dX1_addPieces_3 (lv_at hl 0 rfl) ?_
      refine lv_aload_n hx hb dX1_addPieces_5 rfl (lv_at hl 1 rfl) ?_
      refine va_get (D := (dC, dI)) (ci := 1) (v := .int (zi ((n : Int)))) (C := RX1) (T := TX1) (N := 5) hx hb hg inX1 hown hK hP 0 rfl rfl 2 (by decide) (hg _ wl_X1_22) (fun _ h9 => h9) rfl dX1_addPieces_6 ?_
      refine zz_icmp_ge (tgt := 66) hx hb (by omega) (by omega) dX1_addPieces_9 (by decide) (fun c_9 => ?_) (fun c_9 => ?_)
      · have hP9 : va_P (dC, dI) vwCl [(h0, .inr (1, [.ref h1, .ref h2, .int (zi ((n : Int))), .int (zi (th)), .int (zi (wc))])), (h1, .inl (cA, 12, .inl (zA (hs)))), (h2, .inl (cA, 12, .inl (zA (rs)))), (h3, .inr (0, [.long (zl ((((p_sum hs rs wall frm to (n - 1)).1 : Nat) : Int))), .long (zl ((((p_sum hs rs wall frm to (n - 1)).2 : Nat) : Int)))]))] H := by rw [show n - 1 = k - 1 by omega]; exact hP
        rw [hQQ]
        exact wr_v hx hb hr hlocks hP9 hS dX1_addPieces_66
      · refine lv_iload_n hx hb dX1_addPieces_12 rfl (lv_at hl 4 rfl) ?_
        refine lv_aload_n hx hb dX1_addPieces_13 rfl (lv_at hl 1 rfl) ?_
        refine va_get (D := (dC, dI)) (ci := 1) (v := .ref h1) (C := RX1) (T := TX1) (N := 5) hx hb hg inX1 hown hK hP 0 rfl rfl 0 (by decide) (hg _ wl_X1_9) (fun _ h9 => h9) rfl dX1_addPieces_14 ?_
        refine lv_iload hx hb dX1_addPieces_17 (lv_at hl 0 rfl) ?_
        refine lv_iconst (v := zi (1)) hx hb dX1_addPieces_19 rfl ?_
        refine zz_isub hx hb dX1_addPieces_20 ?_
        refine zz_iald hx hb hK hP 1 0 rfl rfl (k - 1) (by omega) (by omega) (by decide) dX1_addPieces_21 ?_
        have hv_1 := hH (k - 1)
        refine va_mmax hx hb (hml.trans hl.1.symm) hown (hg _ wl_X1_34) (hg _ wt_Math_max) (hg _ wi_Math) (hg _ wc_Math_max_II_I) (Nat.le_of_ble_eq_true rfl) (Nat.le_of_ble_eq_true rfl) (Nat.zero_le _) (Nat.zero_le _) dX1_addPieces_22 ?_
        refine zz_topi (z := max (frm) (hs (k - 1))) (zi_max (by omega)) ?_
        refine zz_topi (z := p_lo hs frm k) (congrArg zi rfl) ?_
        refine lv_istore (lv' := [(6, .int (zi (p_lo hs frm k))), (5, .int (zi ((k : Int)))), (0, .ref h0), (1, .ref h3), (2, .int (zi (wall))), (3, .int (zi (frm))), (4, .int (zi (to)))]) hx hb dX1_addPieces_25 hl (by decide) rfl (fun ls hl => ?_)
        refine lv_iload hx hb dX1_addPieces_27 (lv_at hl 6 rfl) ?_
        refine lv_aload_n hx hb dX1_addPieces_29 rfl (lv_at hl 2 rfl) ?_
        refine va_get (D := (dC, dI)) (ci := 1) (v := .ref h1) (C := RX1) (T := TX1) (N := 5) hx hb hg inX1 hown hK hP 0 rfl rfl 0 (by decide) (hg _ wl_X1_9) (fun _ h9 => h9) rfl dX1_addPieces_30 ?_
        refine lv_iload hx hb dX1_addPieces_33 (lv_at hl 1 rfl) ?_
        refine zz_iald hx hb hK hP 1 0 rfl rfl (k) (by omega) (by omega) (by decide) dX1_addPieces_35 ?_
        have hv_2 := hH (k)
        refine va_mmin hx hb (hml.trans hl.1.symm) hown (hg _ wl_X1_60) (hg _ wt_Math_min) (hg _ wi_Math) (hg _ wc_Math_min_II_I) (Nat.le_of_ble_eq_true rfl) (Nat.le_of_ble_eq_true rfl) (Nat.zero_le _) (Nat.zero_le _) dX1_addPieces_36 ?_
        refine zz_topi (z := min (to) (hs (k))) (zi_min (by omega)) ?_
        refine zz_topi (z := p_hi hs to k) (congrArg zi rfl) ?_
        refine lv_istore (lv' := [(7, .int (zi (p_hi hs to k))), (6, .int (zi (p_lo hs frm k))), (5, .int (zi ((k : Int)))), (0, .ref h0), (1, .ref h3), (2, .int (zi (wall))), (3, .int (zi (frm))), (4, .int (zi (to)))]) hx hb dX1_addPieces_39 hl (by decide) rfl (fun ls hl => ?_)
        refine lv_iload hx hb dX1_addPieces_41 (lv_at hl 1 rfl) ?_
        refine lv_iload hx hb dX1_addPieces_43 (lv_at hl 0 rfl) ?_
        refine zz_icmp_ge (tgt := 60) hx hb (by unfold p_lo; omega) (by unfold p_hi; omega) dX1_addPieces_45 (by decide) (fun c_45 => ?_) (fun c_45 => ?_)
        · refine lv_iinc (v := zi (((k : Int)) + (1))) (lv' := [(5, .int (zi (((k : Int)) + (1)))), (7, .int (zi (p_hi hs to k))), (6, .int (zi (p_lo hs frm k))), (0, .ref h0), (1, .ref h3), (2, .int (zi (wall))), (3, .int (zi (frm))), (4, .int (zi (to)))]) hx hb dX1_addPieces_60 hl (k := 2) rfl (zi_add _ _) (by decide) rfl (fun ls hl => ?_)
          refine lv_goto (tgt := 3) hx hb dX1_addPieces_63 (by decide) ?_
          have hst : p_sum hs rs wall frm to (k + 1 - 1) = p_sum hs rs wall frm to (k - 1) := by
            rw [show k + 1 - 1 = (k - 1) + 1 by omega, p_sum, p_step, if_neg (by rw [show k - 1 + 1 = k by omega]; omega)]
          rw [← hst] at hP hD
          exact ih (k + 1) (by omega) (by omega) (by omega) H locs (hP.sub [0, 1, 2, 3] rfl) (hD.sub [0, 1, 2, 3] (by decide) rfl) hS ls (lv_sub hl [0, 3, 4, 5, 6, 7] rfl)
        · have hlh : p_lo hs frm k < p_hi hs to k := by omega
          have hlo1 : hs (k - 1) ≤ p_lo hs frm k := by unfold p_lo; omega
          have hhi1 : p_hi hs to k ≤ hs k := by unfold p_hi; omega
          have hokk : p_ok (p_sum hs rs wall frm to (k - 1)) (p_u hs rs wall (p_lo hs frm k) (p_hi hs to k) k) (p_q hs k) := by
            have := hok (k - 1) (by omega)
            rw [show k - 1 + 1 = k by omega] at this
            exact this hlh
          refine lv_aload_n hx hb dX1_addPieces_48 rfl (lv_at hl 3 rfl) ?_
          refine lv_aload_n hx hb dX1_addPieces_49 rfl (lv_at hl 4 rfl) ?_
          refine lv_iload hx hb dX1_addPieces_50 (lv_at hl 2 rfl) ?_
          refine lv_iload_n hx hb dX1_addPieces_52 rfl (lv_at hl 5 rfl) ?_
          refine lv_iload hx hb dX1_addPieces_53 (lv_at hl 1 rfl) ?_
          refine lv_iload hx hb dX1_addPieces_55 (lv_at hl 0 rfl) ?_
          refine wrV (As := [.ref h3, .int (zi ((k : Int))), .int (zi (wall)), .int (zi (p_lo hs frm k)), .int (zi (p_hi hs to k))]) (rest := []) (n := 5) (ws' := [(h0, .inr (1, [.ref h1, .ref h2, .int (zi ((n : Int))), .int (zi (th)), .int (zi (wc))])), (h1, .inl (cA, 12, .inl (zA (hs)))), (h2, .inl (cA, 12, .inl (zA (rs)))), (h3, .inr (0, [.long (zl ((((fr_add (p_sum hs rs wall frm to (k - 1)) (p_u hs rs wall (p_lo hs frm k) (p_hi hs to k) k) (p_q hs k)).1 : Nat) : Int))), .long (zl ((((fr_add (p_sum hs rs wall frm to (k - 1)) (p_u hs rs wall (p_lo hs frm k) (p_hi hs to k) k) (p_q hs k)).2 : Nat) : Int)))]))]) hx hb hml hown hg (c_X1_addPiece l dC dI H.size h0 h1 h2 cA n th wc hs rs h3 (p_sum hs rs wall frm to (k - 1)) k wall (p_lo hs frm k) (p_hi hs to k) hn hH hR (by omega) hw hlo1 hlh hhi1 hokk) (gwV wl_X1_63 wm_X1_addPiece we_X1_addPiece wi_X1 wc_X1_addPiece) rfl rfl (by decide +kernel) ⟨Nat.le_of_ble_eq_true rfl, Nat.le_of_ble_eq_true rfl⟩ (hK.sub [0] rfl) hP hD hS hA [0, 1, 2, 3] rfl (by decide) [(true, 0), (true, 1), (true, 2), (true, 3)] rfl (by decide) rfl 0 rfl rfl rfl rfl hl.1 rfl (Nat.le_of_ble_eq_true rfl) dX1_addPieces_57 ⟨Nat.zero_le _, Nat.zero_le _⟩ (fun H locs hP hD hS => ?_)
          refine lv_iinc (v := zi (((k : Int)) + (1))) (lv' := [(5, .int (zi (((k : Int)) + (1)))), (7, .int (zi (p_hi hs to k))), (6, .int (zi (p_lo hs frm k))), (0, .ref h0), (1, .ref h3), (2, .int (zi (wall))), (3, .int (zi (frm))), (4, .int (zi (to)))]) hx hb dX1_addPieces_60 hl (k := 2) rfl (zi_add _ _) (by decide) rfl (fun ls hl => ?_)
          refine lv_goto (tgt := 3) hx hb dX1_addPieces_63 (by decide) ?_
          have hst : p_sum hs rs wall frm to (k + 1 - 1) = fr_add (p_sum hs rs wall frm to (k - 1)) (p_u hs rs wall (p_lo hs frm k) (p_hi hs to k) k) (p_q hs k) := by
            rw [show k + 1 - 1 = (k - 1) + 1 by omega, p_sum, p_step, if_pos (by rw [show k - 1 + 1 = k by omega]; exact hlh), show k - 1 + 1 = k by omega]
          rw [← hst] at hP hD
          exact ih (k + 1) (by omega) (by omega) (by omega) H locs (hP.sub [0, 1, 2, 3] rfl) (hD.sub [0, 1, 2, 3] (by decide) rfl) hS ls (lv_sub hl [0, 3, 4, 5, 6, 7] rfl)
  exact key_3 _ 1 (by omega) (by omega) (Nat.lt_succ_self _) H locs (hP.sub [0, 1, 2, 3] rfl) (hD.sub [0, 1, 2, 3] (by decide) rfl) hS ls (lv_sub hl [0, 1, 2, 3, 4, 5] rfl)

abbrev rm_X1_measure : Room := { frames := 5, cells := 0, slots := 0, locals := 140 }
set_option maxHeartbeats 4000000 in
set_option maxRecDepth 100000 in
theorem c_X1_measure (l : Launch) (dC : Nat → ClassId) (dI : Nat → Nat → Nat) (sz : Nat) (h0 h1 h2 : Nat) (cA : ClassId) (n : Nat) (th wc : Int) (hs rs : Nat → Int) (h3 : Nat) (a b : Int) (to : Int) (hn : n ≤ 12) (hH : ∀ j, 0 ≤ hs j ∧ hs j ≤ 400) (hR : ∀ j, 0 ≤ rs j ∧ rs j ≤ 200) (ht9 : -2147483648 ≤ to ∧ to < 2147483648) (hok : p_oks n hs rs 0 0 to) : Met l yX1_measure (Cond.code yX1_measure cX1_measure 3 ((Option.none : Option Jvm.ClassFile.FieldType)) :: gw) rm_X1_measure (PcW [.ref h0, .ref h3, .int (zi (to))] (dC, dI) vwCl [(h0, .inr (1, [.ref h1, .ref h2, .int (zi ((n : Int))), .int (zi (th)), .int (zi (wc))])), (h1, .inl (cA, 12, .inl (zA (hs)))), (h2, .inl (cA, 12, .inl (zA (rs)))), (h3, .inr (0, [.long (zl (a)), .long (zl (b))]))] [(cA, .int)] sz) (WrQ (none) (dC, dI) vwCl [(h0, .inr (1, [.ref h1, .ref h2, .int (zi ((n : Int))), .int (zi (th)), .int (zi (wc))])), (h1, .inl (cA, 12, .inl (zA (hs)))), (h2, .inl (cA, 12, .inl (zA (rs)))), (h3, .inr (0, [.long (zl ((((p_sum hs rs 0 0 to (n - 1)).1 : Nat) : Int))), .long (zl ((((p_sum hs rs 0 0 to (n - 1)).2 : Nat) : Int)))]))] (va_A [(h0, .inr (1, [.ref h1, .ref h2, .int (zi ((n : Int))), .int (zi (th)), .int (zi (wc))])), (h1, .inl (cA, 12, .inl (zA (hs)))), (h2, .inl (cA, 12, .inl (zA (rs)))), (h3, .inr (0, [.long (zl (a)), .long (zl (b))]))] sz)) 0 0 (va_A [(h0, .inr (1, [.ref h1, .ref h2, .int (zi ((n : Int))), .int (zi (th)), .int (zi (wc))])), (h1, .inl (cA, 12, .inl (zA (hs)))), (h2, .inl (cA, 12, .inl (zA (rs)))), (h3, .inr (0, [.long (zl (a)), .long (zl (b))]))] sz) := by
  refine Met.ofW (cc := cX1_measure) (maxL := 3) (ret := ((Option.none : Option Jvm.ClassFile.FieldType))) (by decide) rfl ?_
  intro p e s m args below meth c s₁ B hml hv
  obtain ⟨hargs, hsz, hP, hK, hD0⟩ := hv
  have hx := B.exec
  have hb := B.bytes
  have hr := B.returns
  have hts := atoms_spec (ws := Cond.code yX1_measure cX1_measure 3 ((Option.none : Option Jvm.ClassFile.FieldType)) :: gw) B.pre
  have hg : ∀ w ∈ gw, w.before args s = true := fun w h => hts w (List.mem_cons_of_mem _ h)
  have hown : s.vm.findClass RX1 = some m.cls := findClass_of_methodNamed B.named
  have hlocks := B.notSynchronized
  subst hsz
  have hD := hD0.self (sz := s.heap.size)
  generalize hAe : va_A [(h0, .inr (1, [.ref h1, .ref h2, .int (zi ((n : Int))), .int (zi (th)), .int (zi (wc))])), (h1, .inl (cA, 12, .inl (zA (hs)))), (h2, .inl (cA, 12, .inl (zA (rs)))), (h3, .inr (0, [.long (zl (a)), .long (zl (b))]))] s.heap.size = A at hD ⊢
  have hA : ∀ q : Nat, s.heap.size ≤ q → A q := fun q h => by rw [← hAe]; exact Or.inr h
  show W p l e rm_X1_measure s m args below meth c s.heap [] 0 0 _ _
  have hl := lv_entry ([.ref h0, .ref h3, .int (zi (to))]) (n := 3) (Nat.le_of_ble_eq_true rfl)
  rw [show entryFrame m args 3 = entryFrame m ([.ref h0, .ref h3, .int (zi (to))] : List Value).toArray 3 by rw [hargs], lg_entry_eq]
  generalize (lg_sl ([.ref h0, .ref h3, .int (zi (to))]) ++ List.replicate (3 - (lg_sl ([.ref h0, .ref h3, .int (zi (to))])).length) Slot.unset).toArray = ls at hl ⊢
  have hl : lv_has ls 3 [(0, .ref h0), (1, .ref h3), (2, .int (zi (to)))] := hl
  obtain ⟨QQ, hQQ⟩ : ∃ Q, Q = MQ below (WrQ (none) (dC, dI) vwCl [(h0, .inr (1, [.ref h1, .ref h2, .int (zi ((n : Int))), .int (zi (th)), .int (zi (wc))])), (h1, .inl (cA, 12, .inl (zA (hs)))), (h2, .inl (cA, 12, .inl (zA (rs)))), (h3, .inr (0, [.long (zl ((((p_sum hs rs 0 0 to (n - 1)).1 : Nat) : Int))), .long (zl ((((p_sum hs rs 0 0 to (n - 1)).2 : Nat) : Int)))]))] A) args s 0 0 A := ⟨_, rfl⟩
  rw [← hQQ]
  obtain ⟨H, hHe⟩ : ∃ H : Heap, H = s.heap := ⟨_, rfl⟩
  obtain ⟨locs, hlc⟩ : ∃ x : List Loc, x = [] := ⟨_, rfl⟩
  have hS : va_S A s.heap H locs := by rw [hHe, hlc]; exact va_S.rf
  have hP : va_P (dC, dI) vwCl [(h0, .inr (1, [.ref h1, .ref h2, .int (zi ((n : Int))), .int (zi (th)), .int (zi (wc))])), (h1, .inl (cA, 12, .inl (zA (hs)))), (h2, .inl (cA, 12, .inl (zA (rs)))), (h3, .inr (0, [.long (zl (a)), .long (zl (b))]))] H := by rw [hHe]; exact hP
  have hD : va_D A [(h0, .inr (1, [.ref h1, .ref h2, .int (zi ((n : Int))), .int (zi (th)), .int (zi (wc))])), (h1, .inl (cA, 12, .inl (zA (hs)))), (h2, .inl (cA, 12, .inl (zA (rs)))), (h3, .inr (0, [.long (zl (a)), .long (zl (b))]))] := hD
  rw [← hHe, ← hlc]
  refine lv_aload_n hx hb dX1_measure_0 rfl (lv_at hl 1 rfl) ?_
  refine wrV (As := []) (rest := []) (n := 0) (ws' := [(h0, .inr (1, [.ref h1, .ref h2, .int (zi ((n : Int))), .int (zi (th)), .int (zi (wc))])), (h1, .inl (cA, 12, .inl (zA (hs)))), (h2, .inl (cA, 12, .inl (zA (rs)))), (h3, .inr (0, [.long (zl (((((0, 1)).1 : Nat) : Int))), .long (zl (((((0, 1)).2 : Nat) : Int)))]))]) hx hb hml hown hg (c_X0_clearToZero l dC dI H.size h3 (a) (b)) (gwV wl_X1_48 wm_X0_clearToZero we_X0_clearToZero wi_X0 wc_X0_clearToZero) rfl rfl (by decide +kernel) ⟨Nat.le_of_ble_eq_true rfl, Nat.le_of_ble_eq_true rfl⟩ (hK.sub [] rfl) hP hD hS hA [3] rfl (by decide) [(false, 0), (false, 1), (false, 2), (true, 0)] rfl (by decide) rfl 0 rfl rfl rfl rfl hl.1 rfl (Nat.le_of_ble_eq_true rfl) dX1_measure_1 ⟨Nat.zero_le _, Nat.zero_le _⟩ (fun H locs hP hD hS => ?_)
  refine lv_aload_n hx hb dX1_measure_4 rfl (lv_at hl 0 rfl) ?_
  refine lv_aload_n hx hb dX1_measure_5 rfl (lv_at hl 1 rfl) ?_
  refine lv_iconst (v := zi (0)) hx hb dX1_measure_6 rfl ?_
  refine lv_iconst (v := zi (0)) hx hb dX1_measure_7 rfl ?_
  refine lv_iload_n hx hb dX1_measure_8 rfl (lv_at hl 2 rfl) ?_
  refine wrV (As := [.ref h3, .int (zi (0)), .int (zi (0)), .int (zi (to))]) (rest := []) (n := 4) (ws' := [(h0, .inr (1, [.ref h1, .ref h2, .int (zi ((n : Int))), .int (zi (th)), .int (zi (wc))])), (h1, .inl (cA, 12, .inl (zA (hs)))), (h2, .inl (cA, 12, .inl (zA (rs)))), (h3, .inr (0, [.long (zl ((((p_sum hs rs (0) (0) (to) (n - 1)).1 : Nat) : Int))), .long (zl ((((p_sum hs rs (0) (0) (to) (n - 1)).2 : Nat) : Int)))]))]) hx hb hml hown hg (c_X1_addPieces l dC dI H.size h0 h1 h2 cA n th wc hs rs h3 (0) (0) (to) hn hH hR (by decide) (by decide) ht9 hok) (gwV wl_X1_53 wm_X1_addPieces we_X1_addPieces wi_X1 wc_X1_addPieces) rfl rfl (by decide +kernel) ⟨Nat.le_of_ble_eq_true rfl, Nat.le_of_ble_eq_true rfl⟩ (hK.sub [0] rfl) hP hD hS hA [0, 1, 2, 3] rfl (by decide) [(true, 0), (true, 1), (true, 2), (true, 3)] rfl (by decide) rfl 0 rfl rfl rfl rfl hl.1 rfl (Nat.le_of_ble_eq_true rfl) dX1_measure_9 ⟨Nat.zero_le _, Nat.zero_le _⟩ (fun H locs hP hD hS => ?_)
  have hP9 : va_P (dC, dI) vwCl [(h0, .inr (1, [.ref h1, .ref h2, .int (zi ((n : Int))), .int (zi (th)), .int (zi (wc))])), (h1, .inl (cA, 12, .inl (zA (hs)))), (h2, .inl (cA, 12, .inl (zA (rs)))), (h3, .inr (0, [.long (zl ((((p_sum hs rs 0 0 to (n - 1)).1 : Nat) : Int))), .long (zl ((((p_sum hs rs 0 0 to (n - 1)).2 : Nat) : Int)))]))] H := hP
  rw [hQQ]
  exact wr_v hx hb hr hlocks hP9 hS dX1_measure_12

abbrev rm_X1_measureHeld : Room := { frames := 5, cells := 0, slots := 0, locals := 140 }
set_option maxHeartbeats 4000000 in
set_option maxRecDepth 100000 in
theorem c_X1_measureHeld (l : Launch) (dC : Nat → ClassId) (dI : Nat → Nat → Nat) (sz : Nat) (h0 h1 h2 : Nat) (cA : ClassId) (n : Nat) (th wc : Int) (hs rs : Nat → Int) (h3 : Nat) (a b : Int) (to : Int) (hn : n ≤ 12) (hH : ∀ j, 0 ≤ hs j ∧ hs j ≤ 400) (hR : ∀ j, 0 ≤ rs j ∧ rs j ≤ 200) (hth : 0 ≤ th ∧ th ≤ 50) (ht9 : -2147483648 ≤ to ∧ to < 2147483648) (hok : p_oks n hs rs th (hs 0 + th) to) : Met l yX1_measureHeld (Cond.code yX1_measureHeld cX1_measureHeld 3 ((Option.none : Option Jvm.ClassFile.FieldType)) :: gw) rm_X1_measureHeld (PcW [.ref h0, .ref h3, .int (zi (to))] (dC, dI) vwCl [(h0, .inr (1, [.ref h1, .ref h2, .int (zi ((n : Int))), .int (zi (th)), .int (zi (wc))])), (h1, .inl (cA, 12, .inl (zA (hs)))), (h2, .inl (cA, 12, .inl (zA (rs)))), (h3, .inr (0, [.long (zl (a)), .long (zl (b))]))] [(cA, .int)] sz) (WrQ (none) (dC, dI) vwCl [(h0, .inr (1, [.ref h1, .ref h2, .int (zi ((n : Int))), .int (zi (th)), .int (zi (wc))])), (h1, .inl (cA, 12, .inl (zA (hs)))), (h2, .inl (cA, 12, .inl (zA (rs)))), (h3, .inr (0, [.long (zl ((((p_sum hs rs th (hs 0 + th) to (n - 1)).1 : Nat) : Int))), .long (zl ((((p_sum hs rs th (hs 0 + th) to (n - 1)).2 : Nat) : Int)))]))] (va_A [(h0, .inr (1, [.ref h1, .ref h2, .int (zi ((n : Int))), .int (zi (th)), .int (zi (wc))])), (h1, .inl (cA, 12, .inl (zA (hs)))), (h2, .inl (cA, 12, .inl (zA (rs)))), (h3, .inr (0, [.long (zl (a)), .long (zl (b))]))] sz)) 0 0 (va_A [(h0, .inr (1, [.ref h1, .ref h2, .int (zi ((n : Int))), .int (zi (th)), .int (zi (wc))])), (h1, .inl (cA, 12, .inl (zA (hs)))), (h2, .inl (cA, 12, .inl (zA (rs)))), (h3, .inr (0, [.long (zl (a)), .long (zl (b))]))] sz) := by
  refine Met.ofW (cc := cX1_measureHeld) (maxL := 3) (ret := ((Option.none : Option Jvm.ClassFile.FieldType))) (by decide) rfl ?_
  intro p e s m args below meth c s₁ B hml hv
  obtain ⟨hargs, hsz, hP, hK, hD0⟩ := hv
  have hx := B.exec
  have hb := B.bytes
  have hr := B.returns
  have hts := atoms_spec (ws := Cond.code yX1_measureHeld cX1_measureHeld 3 ((Option.none : Option Jvm.ClassFile.FieldType)) :: gw) B.pre
  have hg : ∀ w ∈ gw, w.before args s = true := fun w h => hts w (List.mem_cons_of_mem _ h)
  have hown : s.vm.findClass RX1 = some m.cls := findClass_of_methodNamed B.named
  have hlocks := B.notSynchronized
  subst hsz
  have hD := hD0.self (sz := s.heap.size)
  generalize hAe : va_A [(h0, .inr (1, [.ref h1, .ref h2, .int (zi ((n : Int))), .int (zi (th)), .int (zi (wc))])), (h1, .inl (cA, 12, .inl (zA (hs)))), (h2, .inl (cA, 12, .inl (zA (rs)))), (h3, .inr (0, [.long (zl (a)), .long (zl (b))]))] s.heap.size = A at hD ⊢
  have hA : ∀ q : Nat, s.heap.size ≤ q → A q := fun q h => by rw [← hAe]; exact Or.inr h
  show W p l e rm_X1_measureHeld s m args below meth c s.heap [] 0 0 _ _
  have hl := lv_entry ([.ref h0, .ref h3, .int (zi (to))]) (n := 3) (Nat.le_of_ble_eq_true rfl)
  rw [show entryFrame m args 3 = entryFrame m ([.ref h0, .ref h3, .int (zi (to))] : List Value).toArray 3 by rw [hargs], lg_entry_eq]
  generalize (lg_sl ([.ref h0, .ref h3, .int (zi (to))]) ++ List.replicate (3 - (lg_sl ([.ref h0, .ref h3, .int (zi (to))])).length) Slot.unset).toArray = ls at hl ⊢
  have hl : lv_has ls 3 [(0, .ref h0), (1, .ref h3), (2, .int (zi (to)))] := hl
  obtain ⟨QQ, hQQ⟩ : ∃ Q, Q = MQ below (WrQ (none) (dC, dI) vwCl [(h0, .inr (1, [.ref h1, .ref h2, .int (zi ((n : Int))), .int (zi (th)), .int (zi (wc))])), (h1, .inl (cA, 12, .inl (zA (hs)))), (h2, .inl (cA, 12, .inl (zA (rs)))), (h3, .inr (0, [.long (zl ((((p_sum hs rs th (hs 0 + th) to (n - 1)).1 : Nat) : Int))), .long (zl ((((p_sum hs rs th (hs 0 + th) to (n - 1)).2 : Nat) : Int)))]))] A) args s 0 0 A := ⟨_, rfl⟩
  rw [← hQQ]
  obtain ⟨H, hHe⟩ : ∃ H : Heap, H = s.heap := ⟨_, rfl⟩
  obtain ⟨locs, hlc⟩ : ∃ x : List Loc, x = [] := ⟨_, rfl⟩
  have hS : va_S A s.heap H locs := by rw [hHe, hlc]; exact va_S.rf
  have hP : va_P (dC, dI) vwCl [(h0, .inr (1, [.ref h1, .ref h2, .int (zi ((n : Int))), .int (zi (th)), .int (zi (wc))])), (h1, .inl (cA, 12, .inl (zA (hs)))), (h2, .inl (cA, 12, .inl (zA (rs)))), (h3, .inr (0, [.long (zl (a)), .long (zl (b))]))] H := by rw [hHe]; exact hP
  have hD : va_D A [(h0, .inr (1, [.ref h1, .ref h2, .int (zi ((n : Int))), .int (zi (th)), .int (zi (wc))])), (h1, .inl (cA, 12, .inl (zA (hs)))), (h2, .inl (cA, 12, .inl (zA (rs)))), (h3, .inr (0, [.long (zl (a)), .long (zl (b))]))] := hD
  rw [← hHe, ← hlc]
  refine lv_aload_n hx hb dX1_measureHeld_0 rfl (lv_at hl 1 rfl) ?_
  refine wrV (As := []) (rest := []) (n := 0) (ws' := [(h0, .inr (1, [.ref h1, .ref h2, .int (zi ((n : Int))), .int (zi (th)), .int (zi (wc))])), (h1, .inl (cA, 12, .inl (zA (hs)))), (h2, .inl (cA, 12, .inl (zA (rs)))), (h3, .inr (0, [.long (zl (((((0, 1)).1 : Nat) : Int))), .long (zl (((((0, 1)).2 : Nat) : Int)))]))]) hx hb hml hown hg (c_X0_clearToZero l dC dI H.size h3 (a) (b)) (gwV wl_X1_48 wm_X0_clearToZero we_X0_clearToZero wi_X0 wc_X0_clearToZero) rfl rfl (by decide +kernel) ⟨Nat.le_of_ble_eq_true rfl, Nat.le_of_ble_eq_true rfl⟩ (hK.sub [] rfl) hP hD hS hA [3] rfl (by decide) [(false, 0), (false, 1), (false, 2), (true, 0)] rfl (by decide) rfl 0 rfl rfl rfl rfl hl.1 rfl (Nat.le_of_ble_eq_true rfl) dX1_measureHeld_1 ⟨Nat.zero_le _, Nat.zero_le _⟩ (fun H locs hP hD hS => ?_)
  refine lv_aload_n hx hb dX1_measureHeld_4 rfl (lv_at hl 0 rfl) ?_
  refine va_get (D := (dC, dI)) (ci := 1) (v := .int (zi ((n : Int)))) (C := RX1) (T := TX1) (N := 5) hx hb hg inX1 hown hK hP 0 rfl rfl 2 (by decide) (hg _ wl_X1_22) (fun _ h9 => h9) rfl dX1_measureHeld_5 ?_
  refine zz_if_le (tgt := 32) hx hb (by omega) dX1_measureHeld_8 (by decide) (fun c_8 => ?_) (fun c_8 => ?_)
  · have hP9 : va_P (dC, dI) vwCl [(h0, .inr (1, [.ref h1, .ref h2, .int (zi ((n : Int))), .int (zi (th)), .int (zi (wc))])), (h1, .inl (cA, 12, .inl (zA (hs)))), (h2, .inl (cA, 12, .inl (zA (rs)))), (h3, .inr (0, [.long (zl ((((p_sum hs rs th (hs 0 + th) to (n - 1)).1 : Nat) : Int))), .long (zl ((((p_sum hs rs th (hs 0 + th) to (n - 1)).2 : Nat) : Int)))]))] H := by rw [show n - 1 = 0 by omega, p_sum]; exact hP
    rw [hQQ]
    exact wr_v hx hb hr hlocks hP9 hS dX1_measureHeld_32
  · refine lv_aload_n hx hb dX1_measureHeld_11 rfl (lv_at hl 0 rfl) ?_
    refine lv_aload_n hx hb dX1_measureHeld_12 rfl (lv_at hl 1 rfl) ?_
    refine lv_aload_n hx hb dX1_measureHeld_13 rfl (lv_at hl 0 rfl) ?_
    refine va_get (D := (dC, dI)) (ci := 1) (v := .int (zi (th))) (C := RX1) (T := TX1) (N := 5) hx hb hg inX1 hown hK hP 0 rfl rfl 3 (by decide) (hg _ wl_X1_57) (fun _ h9 => h9) rfl dX1_measureHeld_14 ?_
    refine lv_aload_n hx hb dX1_measureHeld_17 rfl (lv_at hl 0 rfl) ?_
    refine va_get (D := (dC, dI)) (ci := 1) (v := .ref h1) (C := RX1) (T := TX1) (N := 5) hx hb hg inX1 hown hK hP 0 rfl rfl 0 (by decide) (hg _ wl_X1_9) (fun _ h9 => h9) rfl dX1_measureHeld_18 ?_
    refine lv_iconst (v := zi (0)) hx hb dX1_measureHeld_21 rfl ?_
    refine zz_iald hx hb hK hP 1 0 rfl rfl (0) (by omega) (by omega) (by decide) dX1_measureHeld_22 ?_
    have hv_1 := hH (0)
    refine lv_aload_n hx hb dX1_measureHeld_23 rfl (lv_at hl 0 rfl) ?_
    refine va_get (D := (dC, dI)) (ci := 1) (v := .int (zi (th))) (C := RX1) (T := TX1) (N := 5) hx hb hg inX1 hown hK hP 0 rfl rfl 3 (by decide) (hg _ wl_X1_57) (fun _ h9 => h9) rfl dX1_measureHeld_24 ?_
    refine zz_iadd hx hb dX1_measureHeld_27 ?_
    refine lv_iload_n hx hb dX1_measureHeld_28 rfl (lv_at hl 2 rfl) ?_
    refine wrV (As := [.ref h3, .int (zi (th)), .int (zi ((hs (0)) + (th))), .int (zi (to))]) (rest := []) (n := 4) (ws' := [(h0, .inr (1, [.ref h1, .ref h2, .int (zi ((n : Int))), .int (zi (th)), .int (zi (wc))])), (h1, .inl (cA, 12, .inl (zA (hs)))), (h2, .inl (cA, 12, .inl (zA (rs)))), (h3, .inr (0, [.long (zl ((((p_sum hs rs (th) ((hs (0)) + (th)) (to) (n - 1)).1 : Nat) : Int))), .long (zl ((((p_sum hs rs (th) ((hs (0)) + (th)) (to) (n - 1)).2 : Nat) : Int)))]))]) hx hb hml hown hg (c_X1_addPieces l dC dI H.size h0 h1 h2 cA n th wc hs rs h3 (th) ((hs (0)) + (th)) (to) hn hH hR hth (by omega) ht9 hok) (gwV wl_X1_53 wm_X1_addPieces we_X1_addPieces wi_X1 wc_X1_addPieces) rfl rfl (by decide +kernel) ⟨Nat.le_of_ble_eq_true rfl, Nat.le_of_ble_eq_true rfl⟩ (hK.sub [0] rfl) hP hD hS hA [0, 1, 2, 3] rfl (by decide) [(true, 0), (true, 1), (true, 2), (true, 3)] rfl (by decide) rfl 0 rfl rfl rfl rfl hl.1 rfl (Nat.le_of_ble_eq_true rfl) dX1_measureHeld_29 ⟨Nat.zero_le _, Nat.zero_le _⟩ (fun H locs hP hD hS => ?_)
    have hP9 : va_P (dC, dI) vwCl [(h0, .inr (1, [.ref h1, .ref h2, .int (zi ((n : Int))), .int (zi (th)), .int (zi (wc))])), (h1, .inl (cA, 12, .inl (zA (hs)))), (h2, .inl (cA, 12, .inl (zA (rs)))), (h3, .inr (0, [.long (zl ((((p_sum hs rs th (hs 0 + th) to (n - 1)).1 : Nat) : Int))), .long (zl ((((p_sum hs rs th (hs 0 + th) to (n - 1)).2 : Nat) : Int)))]))] H := hP
    rw [hQQ]
    exact wr_v hx hb hr hlocks hP9 hS dX1_measureHeld_32

abbrev rm_X1_cutAt : Room := { frames := 3, cells := 0, slots := 0, locals := 73 }
set_option maxHeartbeats 4000000 in
set_option maxRecDepth 100000 in
theorem c_X1_cutAt_n (l : Launch) (dC : Nat → ClassId) (dI : Nat → Nat → Nat) (sz : Nat) (h0 h1 h2 : Nat) (cA : ClassId) (n : Nat) (th wc : Int) (hs rs : Nat → Int) (h : Int) (hn : n ≤ 12) (hH : ∀ j, 0 ≤ hs j ∧ hs j ≤ 400) (hR : ∀ j, 0 ≤ rs j ∧ rs j ≤ 200) (hw : wc = 0 ∨ wc = 1) (hh : -2147483648 ≤ h ∧ h < 2147483648) (hy : wc = 1 ∨ n = 0 ∨ h ≤ hs 0 ∨ hs (n - 1) ≤ h) : Met l yX1_cutAt (Cond.code yX1_cutAt cX1_cutAt 4 ((Option.some Jvm.ClassFile.FieldType.boolean)) :: gw) rm_X1_cutAt (PcW [.ref h0, .int (zi (h))] (dC, dI) vwCl [(h0, .inr (1, [.ref h1, .ref h2, .int (zi ((n : Int))), .int (zi (th)), .int (zi (wc))])), (h1, .inl (cA, 12, .inl (zA (hs)))), (h2, .inl (cA, 12, .inl (zA (rs))))] [(cA, .int)] sz) (WrQ (some (.int (zi 0))) (dC, dI) vwCl [(h0, .inr (1, [.ref h1, .ref h2, .int (zi ((n : Int))), .int (zi (th)), .int (zi (wc))])), (h1, .inl (cA, 12, .inl (zA (hs)))), (h2, .inl (cA, 12, .inl (zA (rs))))] (va_A [(h0, .inr (1, [.ref h1, .ref h2, .int (zi ((n : Int))), .int (zi (th)), .int (zi (wc))])), (h1, .inl (cA, 12, .inl (zA (hs)))), (h2, .inl (cA, 12, .inl (zA (rs))))] sz)) 0 0 (va_A [(h0, .inr (1, [.ref h1, .ref h2, .int (zi ((n : Int))), .int (zi (th)), .int (zi (wc))])), (h1, .inl (cA, 12, .inl (zA (hs)))), (h2, .inl (cA, 12, .inl (zA (rs))))] sz) := by
  refine Met.ofW (cc := cX1_cutAt) (maxL := 4) (ret := ((Option.some Jvm.ClassFile.FieldType.boolean))) (by decide) rfl ?_
  intro p e s m args below meth c s₁ B hml hv
  obtain ⟨hargs, hsz, hP, hK, hD0⟩ := hv
  have hx := B.exec
  have hb := B.bytes
  have hr := B.returns
  have hts := atoms_spec (ws := Cond.code yX1_cutAt cX1_cutAt 4 ((Option.some Jvm.ClassFile.FieldType.boolean)) :: gw) B.pre
  have hg : ∀ w ∈ gw, w.before args s = true := fun w h => hts w (List.mem_cons_of_mem _ h)
  have hown : s.vm.findClass RX1 = some m.cls := findClass_of_methodNamed B.named
  have hlocks := B.notSynchronized
  subst hsz
  have hD := hD0.self (sz := s.heap.size)
  generalize hAe : va_A [(h0, .inr (1, [.ref h1, .ref h2, .int (zi ((n : Int))), .int (zi (th)), .int (zi (wc))])), (h1, .inl (cA, 12, .inl (zA (hs)))), (h2, .inl (cA, 12, .inl (zA (rs))))] s.heap.size = A at hD ⊢
  have hA : ∀ q : Nat, s.heap.size ≤ q → A q := fun q h => by rw [← hAe]; exact Or.inr h
  show W p l e rm_X1_cutAt s m args below meth c s.heap [] 0 0 _ _
  have hl := lv_entry ([.ref h0, .int (zi (h))]) (n := 4) (Nat.le_of_ble_eq_true rfl)
  rw [show entryFrame m args 4 = entryFrame m ([.ref h0, .int (zi (h))] : List Value).toArray 4 by rw [hargs], lg_entry_eq]
  generalize (lg_sl ([.ref h0, .int (zi (h))]) ++ List.replicate (4 - (lg_sl ([.ref h0, .int (zi (h))])).length) Slot.unset).toArray = ls at hl ⊢
  have hl : lv_has ls 4 [(0, .ref h0), (1, .int (zi (h)))] := hl
  obtain ⟨QQ, hQQ⟩ : ∃ Q, Q = MQ below (WrQ (some (.int (zi 0))) (dC, dI) vwCl [(h0, .inr (1, [.ref h1, .ref h2, .int (zi ((n : Int))), .int (zi (th)), .int (zi (wc))])), (h1, .inl (cA, 12, .inl (zA (hs)))), (h2, .inl (cA, 12, .inl (zA (rs))))] A) args s 0 0 A := ⟨_, rfl⟩
  rw [← hQQ]
  obtain ⟨H, hHe⟩ : ∃ H : Heap, H = s.heap := ⟨_, rfl⟩
  obtain ⟨locs, hlc⟩ : ∃ x : List Loc, x = [] := ⟨_, rfl⟩
  have hS : va_S A s.heap H locs := by rw [hHe, hlc]; exact va_S.rf
  have hP : va_P (dC, dI) vwCl [(h0, .inr (1, [.ref h1, .ref h2, .int (zi ((n : Int))), .int (zi (th)), .int (zi (wc))])), (h1, .inl (cA, 12, .inl (zA (hs)))), (h2, .inl (cA, 12, .inl (zA (rs))))] H := by rw [hHe]; exact hP
  have hD : va_D A [(h0, .inr (1, [.ref h1, .ref h2, .int (zi ((n : Int))), .int (zi (th)), .int (zi (wc))])), (h1, .inl (cA, 12, .inl (zA (hs)))), (h2, .inl (cA, 12, .inl (zA (rs))))] := hD
  rw [← hHe, ← hlc]
  refine lv_aload_n hx hb dX1_cutAt_0 rfl (lv_at hl 0 rfl) ?_
  refine va_get (D := (dC, dI)) (ci := 1) (v := .int (zi (wc))) (C := RX1) (T := TX1) (N := 5) hx hb hg inX1 hown hK hP 0 rfl rfl 4 (by decide) (hg _ wl_X1_18) (fun _ h9 => h9) rfl dX1_cutAt_1 ?_
  refine zz_if_ne (tgt := 39) hx hb (by omega) dX1_cutAt_4 (by decide) (fun c_4 => ?_) (fun c_4 => ?_)
  · refine lv_iconst (v := zi (0)) hx hb dX1_cutAt_39 rfl ?_
    have hP9 : va_P (dC, dI) vwCl [(h0, .inr (1, [.ref h1, .ref h2, .int (zi ((n : Int))), .int (zi (th)), .int (zi (wc))])), (h1, .inl (cA, 12, .inl (zA (hs)))), (h2, .inl (cA, 12, .inl (zA (rs))))] H := hP
    rw [hQQ]
    exact wr_z hx hb hr hlocks rfl (by first | exact Or.inl rfl | exact Or.inr rfl | omega) hP9 hS dX1_cutAt_40
  · refine lv_aload_n hx hb dX1_cutAt_7 rfl (lv_at hl 0 rfl) ?_
    refine va_get (D := (dC, dI)) (ci := 1) (v := .int (zi ((n : Int)))) (C := RX1) (T := TX1) (N := 5) hx hb hg inX1 hown hK hP 0 rfl rfl 2 (by decide) (hg _ wl_X1_22) (fun _ h9 => h9) rfl dX1_cutAt_8 ?_
    refine zz_if_eq (tgt := 39) hx hb (by omega) dX1_cutAt_11 (by decide) (fun c_11 => ?_) (fun c_11 => ?_)
    · refine lv_iconst (v := zi (0)) hx hb dX1_cutAt_39 rfl ?_
      have hP9 : va_P (dC, dI) vwCl [(h0, .inr (1, [.ref h1, .ref h2, .int (zi ((n : Int))), .int (zi (th)), .int (zi (wc))])), (h1, .inl (cA, 12, .inl (zA (hs)))), (h2, .inl (cA, 12, .inl (zA (rs))))] H := hP
      rw [hQQ]
      exact wr_z hx hb hr hlocks rfl (by first | exact Or.inl rfl | exact Or.inr rfl | omega) hP9 hS dX1_cutAt_40
    · refine lv_iload_n hx hb dX1_cutAt_14 rfl (lv_at hl 1 rfl) ?_
      refine lv_aload_n hx hb dX1_cutAt_15 rfl (lv_at hl 0 rfl) ?_
      refine va_get (D := (dC, dI)) (ci := 1) (v := .ref h1) (C := RX1) (T := TX1) (N := 5) hx hb hg inX1 hown hK hP 0 rfl rfl 0 (by decide) (hg _ wl_X1_9) (fun _ h9 => h9) rfl dX1_cutAt_16 ?_
      refine lv_iconst (v := zi (0)) hx hb dX1_cutAt_19 rfl ?_
      refine zz_iald hx hb hK hP 1 0 rfl rfl (0) (by omega) (by omega) (by decide) dX1_cutAt_20 ?_
      have hv_1 := hH (0)
      refine zz_icmp_le (tgt := 39) hx hb (by omega) (by omega) dX1_cutAt_21 (by decide) (fun c_21 => ?_) (fun c_21 => ?_)
      · refine lv_iconst (v := zi (0)) hx hb dX1_cutAt_39 rfl ?_
        have hP9 : va_P (dC, dI) vwCl [(h0, .inr (1, [.ref h1, .ref h2, .int (zi ((n : Int))), .int (zi (th)), .int (zi (wc))])), (h1, .inl (cA, 12, .inl (zA (hs)))), (h2, .inl (cA, 12, .inl (zA (rs))))] H := hP
        rw [hQQ]
        exact wr_z hx hb hr hlocks rfl (by first | exact Or.inl rfl | exact Or.inr rfl | omega) hP9 hS dX1_cutAt_40
      · refine lv_iload_n hx hb dX1_cutAt_24 rfl (lv_at hl 1 rfl) ?_
        refine lv_aload_n hx hb dX1_cutAt_25 rfl (lv_at hl 0 rfl) ?_
        refine va_get (D := (dC, dI)) (ci := 1) (v := .ref h1) (C := RX1) (T := TX1) (N := 5) hx hb hg inX1 hown hK hP 0 rfl rfl 0 (by decide) (hg _ wl_X1_9) (fun _ h9 => h9) rfl dX1_cutAt_26 ?_
        refine lv_aload_n hx hb dX1_cutAt_29 rfl (lv_at hl 0 rfl) ?_
        refine va_get (D := (dC, dI)) (ci := 1) (v := .int (zi ((n : Int)))) (C := RX1) (T := TX1) (N := 5) hx hb hg inX1 hown hK hP 0 rfl rfl 2 (by decide) (hg _ wl_X1_22) (fun _ h9 => h9) rfl dX1_cutAt_30 ?_
        refine lv_iconst (v := zi (1)) hx hb dX1_cutAt_33 rfl ?_
        refine zz_isub hx hb dX1_cutAt_34 ?_
        refine zz_iald hx hb hK hP 1 0 rfl rfl (n - 1) (by omega) (by omega) (by decide) dX1_cutAt_35 ?_
        have hv_2 := hH (n - 1)
        refine zz_icmp_lt (tgt := 41) hx hb (by omega) (by omega) dX1_cutAt_36 (by decide) (fun c_36 => ?_) (fun c_36 => ?_)
        · exact absurd hy (by omega)
        · refine lv_iconst (v := zi (0)) hx hb dX1_cutAt_39 rfl ?_
          have hP9 : va_P (dC, dI) vwCl [(h0, .inr (1, [.ref h1, .ref h2, .int (zi ((n : Int))), .int (zi (th)), .int (zi (wc))])), (h1, .inl (cA, 12, .inl (zA (hs)))), (h2, .inl (cA, 12, .inl (zA (rs))))] H := hP
          rw [hQQ]
          exact wr_z hx hb hr hlocks rfl (by first | exact Or.inl rfl | exact Or.inr rfl | omega) hP9 hS dX1_cutAt_40

set_option maxHeartbeats 4000000 in
set_option maxRecDepth 100000 in
theorem c_X1_cutAt_a (l : Launch) (dC : Nat → ClassId) (dI : Nat → Nat → Nat) (sz : Nat) (h0 h1 h2 : Nat) (cA : ClassId) (n : Nat) (th wc : Int) (hs rs : Nat → Int) (h : Int) (hn : n ≤ 12) (hH : ∀ j, 0 ≤ hs j ∧ hs j ≤ 400) (hR : ∀ j, 0 ≤ rs j ∧ rs j ≤ 200) (hw : wc = 0 ∨ wc = 1) (hh : -2147483648 ≤ h ∧ h < 2147483648) (hy : wc = 0 ∧ 0 < n ∧ hs 0 < h ∧ h < hs (n - 1)) (hc1 : 0 < p_cu hs h n ∧ p_cu hs h n < 12 ∧ hs (p_cu hs h n - 1) ≠ h) : Met l yX1_cutAt (Cond.code yX1_cutAt cX1_cutAt 4 ((Option.some Jvm.ClassFile.FieldType.boolean)) :: gw) rm_X1_cutAt (PcW [.ref h0, .int (zi (h))] (dC, dI) vwCl [(h0, .inr (1, [.ref h1, .ref h2, .int (zi ((n : Int))), .int (zi (th)), .int (zi (wc))])), (h1, .inl (cA, 12, .inl (zA (hs)))), (h2, .inl (cA, 12, .inl (zA (rs))))] [(cA, .int)] sz) (WrQ (some (.int (zi 1))) (dC, dI) vwCl [(h0, .inr (1, [.ref h1, .ref h2, .int (zi (((p_cu hs h n + 1 : Nat) : Int))), .int (zi (th)), .int (zi (1))])), (h1, .inl (cA, 12, .inl (zA (zupd hs (p_cu hs h n) (h))))), (h2, .inl (cA, 12, .inl (zA (zupd rs (p_cu hs h n) (p_radius n hs rs (h))))))] (va_A [(h0, .inr (1, [.ref h1, .ref h2, .int (zi ((n : Int))), .int (zi (th)), .int (zi (wc))])), (h1, .inl (cA, 12, .inl (zA (hs)))), (h2, .inl (cA, 12, .inl (zA (rs))))] sz)) 0 0 (va_A [(h0, .inr (1, [.ref h1, .ref h2, .int (zi ((n : Int))), .int (zi (th)), .int (zi (wc))])), (h1, .inl (cA, 12, .inl (zA (hs)))), (h2, .inl (cA, 12, .inl (zA (rs))))] sz) := by
  refine Met.ofW (cc := cX1_cutAt) (maxL := 4) (ret := ((Option.some Jvm.ClassFile.FieldType.boolean))) (by decide) rfl ?_
  intro p e s m args below meth c s₁ B hml hv
  obtain ⟨hargs, hsz, hP, hK, hD0⟩ := hv
  have hx := B.exec
  have hb := B.bytes
  have hr := B.returns
  have hts := atoms_spec (ws := Cond.code yX1_cutAt cX1_cutAt 4 ((Option.some Jvm.ClassFile.FieldType.boolean)) :: gw) B.pre
  have hg : ∀ w ∈ gw, w.before args s = true := fun w h => hts w (List.mem_cons_of_mem _ h)
  have hown : s.vm.findClass RX1 = some m.cls := findClass_of_methodNamed B.named
  have hlocks := B.notSynchronized
  subst hsz
  have hD := hD0.self (sz := s.heap.size)
  generalize hAe : va_A [(h0, .inr (1, [.ref h1, .ref h2, .int (zi ((n : Int))), .int (zi (th)), .int (zi (wc))])), (h1, .inl (cA, 12, .inl (zA (hs)))), (h2, .inl (cA, 12, .inl (zA (rs))))] s.heap.size = A at hD ⊢
  have hA : ∀ q : Nat, s.heap.size ≤ q → A q := fun q h => by rw [← hAe]; exact Or.inr h
  show W p l e rm_X1_cutAt s m args below meth c s.heap [] 0 0 _ _
  have hl := lv_entry ([.ref h0, .int (zi (h))]) (n := 4) (Nat.le_of_ble_eq_true rfl)
  rw [show entryFrame m args 4 = entryFrame m ([.ref h0, .int (zi (h))] : List Value).toArray 4 by rw [hargs], lg_entry_eq]
  generalize (lg_sl ([.ref h0, .int (zi (h))]) ++ List.replicate (4 - (lg_sl ([.ref h0, .int (zi (h))])).length) Slot.unset).toArray = ls at hl ⊢
  have hl : lv_has ls 4 [(0, .ref h0), (1, .int (zi (h)))] := hl
  obtain ⟨QQ, hQQ⟩ : ∃ Q, Q = MQ below (WrQ (some (.int (zi 1))) (dC, dI) vwCl [(h0, .inr (1, [.ref h1, .ref h2, .int (zi (((p_cu hs h n + 1 : Nat) : Int))), .int (zi (th)), .int (zi (1))])), (h1, .inl (cA, 12, .inl (zA (zupd hs (p_cu hs h n) (h))))), (h2, .inl (cA, 12, .inl (zA (zupd rs (p_cu hs h n) (p_radius n hs rs (h))))))] A) args s 0 0 A := ⟨_, rfl⟩
  rw [← hQQ]
  obtain ⟨H, hHe⟩ : ∃ H : Heap, H = s.heap := ⟨_, rfl⟩
  obtain ⟨locs, hlc⟩ : ∃ x : List Loc, x = [] := ⟨_, rfl⟩
  have hS : va_S A s.heap H locs := by rw [hHe, hlc]; exact va_S.rf
  have hP : va_P (dC, dI) vwCl [(h0, .inr (1, [.ref h1, .ref h2, .int (zi ((n : Int))), .int (zi (th)), .int (zi (wc))])), (h1, .inl (cA, 12, .inl (zA (hs)))), (h2, .inl (cA, 12, .inl (zA (rs))))] H := by rw [hHe]; exact hP
  have hD : va_D A [(h0, .inr (1, [.ref h1, .ref h2, .int (zi ((n : Int))), .int (zi (th)), .int (zi (wc))])), (h1, .inl (cA, 12, .inl (zA (hs)))), (h2, .inl (cA, 12, .inl (zA (rs))))] := hD
  rw [← hHe, ← hlc]
  have hcu := p_cu_le hs h n
  refine lv_aload_n hx hb dX1_cutAt_0 rfl (lv_at hl 0 rfl) ?_
  refine va_get (D := (dC, dI)) (ci := 1) (v := .int (zi (wc))) (C := RX1) (T := TX1) (N := 5) hx hb hg inX1 hown hK hP 0 rfl rfl 4 (by decide) (hg _ wl_X1_18) (fun _ h9 => h9) rfl dX1_cutAt_1 ?_
  refine zz_if_ne (tgt := 39) hx hb (by omega) dX1_cutAt_4 (by decide) (fun c_4 => ?_) (fun c_4 => ?_)
  · exact (c_4 (by omega)).elim
  · refine lv_aload_n hx hb dX1_cutAt_7 rfl (lv_at hl 0 rfl) ?_
    refine va_get (D := (dC, dI)) (ci := 1) (v := .int (zi ((n : Int)))) (C := RX1) (T := TX1) (N := 5) hx hb hg inX1 hown hK hP 0 rfl rfl 2 (by decide) (hg _ wl_X1_22) (fun _ h9 => h9) rfl dX1_cutAt_8 ?_
    refine zz_if_eq (tgt := 39) hx hb (by omega) dX1_cutAt_11 (by decide) (fun c_11 => ?_) (fun c_11 => ?_)
    · exact absurd hy (by omega)
    · refine lv_iload_n hx hb dX1_cutAt_14 rfl (lv_at hl 1 rfl) ?_
      refine lv_aload_n hx hb dX1_cutAt_15 rfl (lv_at hl 0 rfl) ?_
      refine va_get (D := (dC, dI)) (ci := 1) (v := .ref h1) (C := RX1) (T := TX1) (N := 5) hx hb hg inX1 hown hK hP 0 rfl rfl 0 (by decide) (hg _ wl_X1_9) (fun _ h9 => h9) rfl dX1_cutAt_16 ?_
      refine lv_iconst (v := zi (0)) hx hb dX1_cutAt_19 rfl ?_
      refine zz_iald hx hb hK hP 1 0 rfl rfl (0) (by omega) (by omega) (by decide) dX1_cutAt_20 ?_
      have hv_1 := hH (0)
      refine zz_icmp_le (tgt := 39) hx hb (by omega) (by omega) dX1_cutAt_21 (by decide) (fun c_21 => ?_) (fun c_21 => ?_)
      · exact absurd hy (by omega)
      · refine lv_iload_n hx hb dX1_cutAt_24 rfl (lv_at hl 1 rfl) ?_
        refine lv_aload_n hx hb dX1_cutAt_25 rfl (lv_at hl 0 rfl) ?_
        refine va_get (D := (dC, dI)) (ci := 1) (v := .ref h1) (C := RX1) (T := TX1) (N := 5) hx hb hg inX1 hown hK hP 0 rfl rfl 0 (by decide) (hg _ wl_X1_9) (fun _ h9 => h9) rfl dX1_cutAt_26 ?_
        refine lv_aload_n hx hb dX1_cutAt_29 rfl (lv_at hl 0 rfl) ?_
        refine va_get (D := (dC, dI)) (ci := 1) (v := .int (zi ((n : Int)))) (C := RX1) (T := TX1) (N := 5) hx hb hg inX1 hown hK hP 0 rfl rfl 2 (by decide) (hg _ wl_X1_22) (fun _ h9 => h9) rfl dX1_cutAt_30 ?_
        refine lv_iconst (v := zi (1)) hx hb dX1_cutAt_33 rfl ?_
        refine zz_isub hx hb dX1_cutAt_34 ?_
        refine zz_iald hx hb hK hP 1 0 rfl rfl (n - 1) (by omega) (by omega) (by decide) dX1_cutAt_35 ?_
        have hv_2 := hH (n - 1)
        refine zz_icmp_lt (tgt := 41) hx hb (by omega) (by omega) dX1_cutAt_36 (by decide) (fun c_36 => ?_) (fun c_36 => ?_)
        · refine lv_aload_n hx hb dX1_cutAt_41 rfl (lv_at hl 0 rfl) ?_
          refine lv_iload_n hx hb dX1_cutAt_42 rfl (lv_at hl 1 rfl) ?_
          refine rdV (As := [.int (zi (h))]) (rest := []) (n := 1) hx hb hml hown hg (c_X1_radiusAt l dC dI h0 h1 h2 cA n th wc hs rs (h) hn hH hR hh) (gwV wl_X1_44 wm_X1_radiusAt we_X1_radiusAt wi_X1 wc_X1_radiusAt) rfl rfl (by decide +kernel) ⟨Nat.le_of_ble_eq_true rfl, Nat.le_of_ble_eq_true rfl⟩ (hK.sub [0] rfl) (hP.sub [0, 1, 2] rfl) 0 rfl rfl rfl rfl hl.1 rfl (Nat.le_of_ble_eq_true rfl) dX1_cutAt_43 ⟨Nat.zero_le _, Nat.zero_le _⟩ ?_
          refine lv_istore_n (lv' := [(2, .int (zi (p_radius n hs rs (h)))), (0, .ref h0), (1, .int (zi (h)))]) hx hb dX1_cutAt_46 rfl hl (by decide) rfl (fun ls hl => ?_)
          refine lv_aload_n hx hb dX1_cutAt_47 rfl (lv_at hl 1 rfl) ?_
          refine lv_iload_n hx hb dX1_cutAt_48 rfl (lv_at hl 2 rfl) ?_
          refine rdV (As := [.int (zi (h))]) (rest := []) (n := 1) hx hb hml hown hg (c_X1_countUpTo l dC dI h0 h1 h2 cA n th wc hs rs (h) hn hH hR hh) (gwV wl_X1_73 wm_X1_countUpTo we_X1_countUpTo wi_X1 wc_X1_countUpTo) rfl rfl (by decide +kernel) ⟨Nat.le_of_ble_eq_true rfl, Nat.le_of_ble_eq_true rfl⟩ (hK.sub [0] rfl) (hP.sub [0, 1, 2] rfl) 0 rfl rfl rfl rfl hl.1 rfl (Nat.le_of_ble_eq_true rfl) dX1_cutAt_49 ⟨Nat.zero_le _, Nat.zero_le _⟩ ?_
          refine lv_istore_n (lv' := [(3, .int (zi (((p_cu hs (h) n : Nat) : Int)))), (2, .int (zi (p_radius n hs rs (h)))), (0, .ref h0), (1, .int (zi (h)))]) hx hb dX1_cutAt_52 rfl hl (by decide) rfl (fun ls hl => ?_)
          refine lv_aload_n hx hb dX1_cutAt_53 rfl (lv_at hl 2 rfl) ?_
          refine lv_iconst (v := zi (1)) hx hb dX1_cutAt_54 rfl ?_
          refine va_put (D := (dC, dI)) (ci := 1) (v := .int (zi (1))) (ty := .boolean) (C := RX1) (T := TX1) (N := 5) hx hb hg inX1 tyX1 tyX1_ok nmX1 hown hK hP hD hS 0 rfl rfl 4 (by decide) (hg _ wl_X1_18) (fun _ h9 => h9) rfl (by decide +kernel) rfl rfl (Nat.le_of_ble_eq_true rfl) dX1_cutAt_55 (fun H locs hP hD hS => ?_)
          have hP : va_P (dC, dI) vwCl [(h0, .inr (1, [.ref h1, .ref h2, .int (zi ((n : Int))), .int (zi (th)), .int (zi (1))])), (h1, .inl (cA, 12, .inl (zA (hs)))), (h2, .inl (cA, 12, .inl (zA (rs))))] H := hP
          have hD : va_D A [(h0, .inr (1, [.ref h1, .ref h2, .int (zi ((n : Int))), .int (zi (th)), .int (zi (1))])), (h1, .inl (cA, 12, .inl (zA (hs)))), (h2, .inl (cA, 12, .inl (zA (rs))))] := hD
          refine lv_iload_n hx hb dX1_cutAt_58 rfl (lv_at hl 0 rfl) ?_
          refine zz_if_le (tgt := 97) hx hb (by omega) dX1_cutAt_59 (by decide) (fun c_59 => ?_) (fun c_59 => ?_)
          · exact absurd hc1 (by omega)
          · refine lv_iload_n hx hb dX1_cutAt_62 rfl (lv_at hl 0 rfl) ?_
            refine lv_bipush (v := zi (12)) hx hb dX1_cutAt_63 (by decide) ?_
            refine zz_icmp_ge (tgt := 97) hx hb (by omega) (by omega) dX1_cutAt_65 (by decide) (fun c_65 => ?_) (fun c_65 => ?_)
            · exact absurd hc1 (by omega)
            · refine lv_aload_n hx hb dX1_cutAt_68 rfl (lv_at hl 2 rfl) ?_
              refine va_get (D := (dC, dI)) (ci := 1) (v := .ref h1) (C := RX1) (T := TX1) (N := 5) hx hb hg inX1 hown hK hP 0 rfl rfl 0 (by decide) (hg _ wl_X1_9) (fun _ h9 => h9) rfl dX1_cutAt_69 ?_
              refine lv_iload_n hx hb dX1_cutAt_72 rfl (lv_at hl 0 rfl) ?_
              refine lv_iconst (v := zi (1)) hx hb dX1_cutAt_73 rfl ?_
              refine zz_isub hx hb dX1_cutAt_74 ?_
              refine zz_iald hx hb hK hP 1 0 rfl rfl (p_cu hs h n - 1) (by omega) (by omega) (by decide) dX1_cutAt_75 ?_
              have hv_3 := hH (p_cu hs h n - 1)
              refine lv_iload_n hx hb dX1_cutAt_76 rfl (lv_at hl 3 rfl) ?_
              refine zz_icmp_eq (tgt := 97) hx hb (by omega) (by omega) dX1_cutAt_77 (by decide) (fun c_77 => ?_) (fun c_77 => ?_)
              · exact absurd hc1 (by omega)
              · refine lv_aload_n hx hb dX1_cutAt_80 rfl (lv_at hl 2 rfl) ?_
                refine va_get (D := (dC, dI)) (ci := 1) (v := .ref h1) (C := RX1) (T := TX1) (N := 5) hx hb hg inX1 hown hK hP 0 rfl rfl 0 (by decide) (hg _ wl_X1_9) (fun _ h9 => h9) rfl dX1_cutAt_81 ?_
                refine lv_iload_n hx hb dX1_cutAt_84 rfl (lv_at hl 0 rfl) ?_
                refine lv_iload_n hx hb dX1_cutAt_85 rfl (lv_at hl 3 rfl) ?_
                refine zz_iast hx hb hK hP hD hS 1 0 rfl rfl (p_cu hs h n) (by omega) (by omega) (by decide) dX1_cutAt_86 (fun H locs hP hD hS => ?_)
                have hP : va_P (dC, dI) vwCl [(h0, .inr (1, [.ref h1, .ref h2, .int (zi ((n : Int))), .int (zi (th)), .int (zi (1))])), (h1, .inl (cA, 12, .inl (zA (zupd hs (p_cu hs h n) (h))))), (h2, .inl (cA, 12, .inl (zA (rs))))] H := hP
                have hD : va_D A [(h0, .inr (1, [.ref h1, .ref h2, .int (zi ((n : Int))), .int (zi (th)), .int (zi (1))])), (h1, .inl (cA, 12, .inl (zA (zupd hs (p_cu hs h n) (h))))), (h2, .inl (cA, 12, .inl (zA (rs))))] := hD
                refine lv_aload_n hx hb dX1_cutAt_87 rfl (lv_at hl 2 rfl) ?_
                refine va_get (D := (dC, dI)) (ci := 1) (v := .ref h2) (C := RX1) (T := TX1) (N := 5) hx hb hg inX1 hown hK hP 0 rfl rfl 1 (by decide) (hg _ wl_X1_15) (fun _ h9 => h9) rfl dX1_cutAt_88 ?_
                refine lv_iload_n hx hb dX1_cutAt_91 rfl (lv_at hl 0 rfl) ?_
                refine lv_iload_n hx hb dX1_cutAt_92 rfl (lv_at hl 1 rfl) ?_
                refine zz_iast hx hb hK hP hD hS 2 0 rfl rfl (p_cu hs h n) (by omega) (by omega) (by decide) dX1_cutAt_93 (fun H locs hP hD hS => ?_)
                have hP : va_P (dC, dI) vwCl [(h0, .inr (1, [.ref h1, .ref h2, .int (zi ((n : Int))), .int (zi (th)), .int (zi (1))])), (h1, .inl (cA, 12, .inl (zA (zupd hs (p_cu hs h n) (h))))), (h2, .inl (cA, 12, .inl (zA (zupd rs (p_cu hs h n) (p_radius n hs rs (h))))))] H := hP
                have hD : va_D A [(h0, .inr (1, [.ref h1, .ref h2, .int (zi ((n : Int))), .int (zi (th)), .int (zi (1))])), (h1, .inl (cA, 12, .inl (zA (zupd hs (p_cu hs h n) (h))))), (h2, .inl (cA, 12, .inl (zA (zupd rs (p_cu hs h n) (p_radius n hs rs (h))))))] := hD
                refine lv_iinc (v := zi ((((p_cu hs (h) n : Nat) : Int)) + (1))) (lv' := [(3, .int (zi ((((p_cu hs (h) n : Nat) : Int)) + (1)))), (2, .int (zi (p_radius n hs rs (h)))), (0, .ref h0), (1, .int (zi (h)))]) hx hb dX1_cutAt_94 hl (k := 0) rfl (zi_add _ _) (by decide) rfl (fun ls hl => ?_)
                refine lv_aload_n hx hb dX1_cutAt_97 rfl (lv_at hl 2 rfl) ?_
                refine lv_iload_n hx hb dX1_cutAt_98 rfl (lv_at hl 0 rfl) ?_
                refine va_put (D := (dC, dI)) (ci := 1) (v := .int (zi ((((p_cu hs (h) n : Nat) : Int)) + (1)))) (ty := .int) (C := RX1) (T := TX1) (N := 5) hx hb hg inX1 tyX1 tyX1_ok nmX1 hown hK hP hD hS 0 rfl rfl 2 (by decide) (hg _ wl_X1_22) (fun _ h9 => h9) rfl (by decide +kernel) rfl rfl (Nat.le_of_ble_eq_true rfl) dX1_cutAt_99 (fun H locs hP hD hS => ?_)
                have hP : va_P (dC, dI) vwCl [(h0, .inr (1, [.ref h1, .ref h2, .int (zi ((((p_cu hs (h) n : Nat) : Int)) + (1))), .int (zi (th)), .int (zi (1))])), (h1, .inl (cA, 12, .inl (zA (zupd hs (p_cu hs h n) (h))))), (h2, .inl (cA, 12, .inl (zA (zupd rs (p_cu hs h n) (p_radius n hs rs (h))))))] H := hP
                have hD : va_D A [(h0, .inr (1, [.ref h1, .ref h2, .int (zi ((((p_cu hs (h) n : Nat) : Int)) + (1))), .int (zi (th)), .int (zi (1))])), (h1, .inl (cA, 12, .inl (zA (zupd hs (p_cu hs h n) (h))))), (h2, .inl (cA, 12, .inl (zA (zupd rs (p_cu hs h n) (p_radius n hs rs (h))))))] := hD
                refine lv_iconst (v := zi (1)) hx hb dX1_cutAt_102 rfl ?_
                have hP9 : va_P (dC, dI) vwCl [(h0, .inr (1, [.ref h1, .ref h2, .int (zi (((p_cu hs h n + 1 : Nat) : Int))), .int (zi (th)), .int (zi (1))])), (h1, .inl (cA, 12, .inl (zA (zupd hs (p_cu hs h n) (h))))), (h2, .inl (cA, 12, .inl (zA (zupd rs (p_cu hs h n) (p_radius n hs rs (h))))))] H := hP
                rw [hQQ]
                exact wr_z hx hb hr hlocks rfl (by first | exact Or.inl rfl | exact Or.inr rfl | omega) hP9 hS dX1_cutAt_103
        · exact absurd hy (by omega)

set_option maxHeartbeats 4000000 in
set_option maxRecDepth 100000 in
theorem c_X1_cutAt_b (l : Launch) (dC : Nat → ClassId) (dI : Nat → Nat → Nat) (sz : Nat) (h0 h1 h2 : Nat) (cA : ClassId) (n : Nat) (th wc : Int) (hs rs : Nat → Int) (h : Int) (hn : n ≤ 12) (hH : ∀ j, 0 ≤ hs j ∧ hs j ≤ 400) (hR : ∀ j, 0 ≤ rs j ∧ rs j ≤ 200) (hw : wc = 0 ∨ wc = 1) (hh : -2147483648 ≤ h ∧ h < 2147483648) (hy : wc = 0 ∧ 0 < n ∧ hs 0 < h ∧ h < hs (n - 1)) (hc1 : ¬ (0 < p_cu hs h n ∧ p_cu hs h n < 12 ∧ hs (p_cu hs h n - 1) ≠ h)) : Met l yX1_cutAt (Cond.code yX1_cutAt cX1_cutAt 4 ((Option.some Jvm.ClassFile.FieldType.boolean)) :: gw) rm_X1_cutAt (PcW [.ref h0, .int (zi (h))] (dC, dI) vwCl [(h0, .inr (1, [.ref h1, .ref h2, .int (zi ((n : Int))), .int (zi (th)), .int (zi (wc))])), (h1, .inl (cA, 12, .inl (zA (hs)))), (h2, .inl (cA, 12, .inl (zA (rs))))] [(cA, .int)] sz) (WrQ (some (.int (zi 1))) (dC, dI) vwCl [(h0, .inr (1, [.ref h1, .ref h2, .int (zi (((p_cu hs h n : Nat) : Int))), .int (zi (th)), .int (zi (1))])), (h1, .inl (cA, 12, .inl (zA (hs)))), (h2, .inl (cA, 12, .inl (zA (rs))))] (va_A [(h0, .inr (1, [.ref h1, .ref h2, .int (zi ((n : Int))), .int (zi (th)), .int (zi (wc))])), (h1, .inl (cA, 12, .inl (zA (hs)))), (h2, .inl (cA, 12, .inl (zA (rs))))] sz)) 0 0 (va_A [(h0, .inr (1, [.ref h1, .ref h2, .int (zi ((n : Int))), .int (zi (th)), .int (zi (wc))])), (h1, .inl (cA, 12, .inl (zA (hs)))), (h2, .inl (cA, 12, .inl (zA (rs))))] sz) := by
  refine Met.ofW (cc := cX1_cutAt) (maxL := 4) (ret := ((Option.some Jvm.ClassFile.FieldType.boolean))) (by decide) rfl ?_
  intro p e s m args below meth c s₁ B hml hv
  obtain ⟨hargs, hsz, hP, hK, hD0⟩ := hv
  have hx := B.exec
  have hb := B.bytes
  have hr := B.returns
  have hts := atoms_spec (ws := Cond.code yX1_cutAt cX1_cutAt 4 ((Option.some Jvm.ClassFile.FieldType.boolean)) :: gw) B.pre
  have hg : ∀ w ∈ gw, w.before args s = true := fun w h => hts w (List.mem_cons_of_mem _ h)
  have hown : s.vm.findClass RX1 = some m.cls := findClass_of_methodNamed B.named
  have hlocks := B.notSynchronized
  subst hsz
  have hD := hD0.self (sz := s.heap.size)
  generalize hAe : va_A [(h0, .inr (1, [.ref h1, .ref h2, .int (zi ((n : Int))), .int (zi (th)), .int (zi (wc))])), (h1, .inl (cA, 12, .inl (zA (hs)))), (h2, .inl (cA, 12, .inl (zA (rs))))] s.heap.size = A at hD ⊢
  have hA : ∀ q : Nat, s.heap.size ≤ q → A q := fun q h => by rw [← hAe]; exact Or.inr h
  show W p l e rm_X1_cutAt s m args below meth c s.heap [] 0 0 _ _
  have hl := lv_entry ([.ref h0, .int (zi (h))]) (n := 4) (Nat.le_of_ble_eq_true rfl)
  rw [show entryFrame m args 4 = entryFrame m ([.ref h0, .int (zi (h))] : List Value).toArray 4 by rw [hargs], lg_entry_eq]
  generalize (lg_sl ([.ref h0, .int (zi (h))]) ++ List.replicate (4 - (lg_sl ([.ref h0, .int (zi (h))])).length) Slot.unset).toArray = ls at hl ⊢
  have hl : lv_has ls 4 [(0, .ref h0), (1, .int (zi (h)))] := hl
  obtain ⟨QQ, hQQ⟩ : ∃ Q, Q = MQ below (WrQ (some (.int (zi 1))) (dC, dI) vwCl [(h0, .inr (1, [.ref h1, .ref h2, .int (zi (((p_cu hs h n : Nat) : Int))), .int (zi (th)), .int (zi (1))])), (h1, .inl (cA, 12, .inl (zA (hs)))), (h2, .inl (cA, 12, .inl (zA (rs))))] A) args s 0 0 A := ⟨_, rfl⟩
  rw [← hQQ]
  obtain ⟨H, hHe⟩ : ∃ H : Heap, H = s.heap := ⟨_, rfl⟩
  obtain ⟨locs, hlc⟩ : ∃ x : List Loc, x = [] := ⟨_, rfl⟩
  have hS : va_S A s.heap H locs := by rw [hHe, hlc]; exact va_S.rf
  have hP : va_P (dC, dI) vwCl [(h0, .inr (1, [.ref h1, .ref h2, .int (zi ((n : Int))), .int (zi (th)), .int (zi (wc))])), (h1, .inl (cA, 12, .inl (zA (hs)))), (h2, .inl (cA, 12, .inl (zA (rs))))] H := by rw [hHe]; exact hP
  have hD : va_D A [(h0, .inr (1, [.ref h1, .ref h2, .int (zi ((n : Int))), .int (zi (th)), .int (zi (wc))])), (h1, .inl (cA, 12, .inl (zA (hs)))), (h2, .inl (cA, 12, .inl (zA (rs))))] := hD
  rw [← hHe, ← hlc]
  have hcu := p_cu_le hs h n
  refine lv_aload_n hx hb dX1_cutAt_0 rfl (lv_at hl 0 rfl) ?_
  refine va_get (D := (dC, dI)) (ci := 1) (v := .int (zi (wc))) (C := RX1) (T := TX1) (N := 5) hx hb hg inX1 hown hK hP 0 rfl rfl 4 (by decide) (hg _ wl_X1_18) (fun _ h9 => h9) rfl dX1_cutAt_1 ?_
  refine zz_if_ne (tgt := 39) hx hb (by omega) dX1_cutAt_4 (by decide) (fun c_4 => ?_) (fun c_4 => ?_)
  · exact (c_4 (by omega)).elim
  · refine lv_aload_n hx hb dX1_cutAt_7 rfl (lv_at hl 0 rfl) ?_
    refine va_get (D := (dC, dI)) (ci := 1) (v := .int (zi ((n : Int)))) (C := RX1) (T := TX1) (N := 5) hx hb hg inX1 hown hK hP 0 rfl rfl 2 (by decide) (hg _ wl_X1_22) (fun _ h9 => h9) rfl dX1_cutAt_8 ?_
    refine zz_if_eq (tgt := 39) hx hb (by omega) dX1_cutAt_11 (by decide) (fun c_11 => ?_) (fun c_11 => ?_)
    · exact absurd hy (by omega)
    · refine lv_iload_n hx hb dX1_cutAt_14 rfl (lv_at hl 1 rfl) ?_
      refine lv_aload_n hx hb dX1_cutAt_15 rfl (lv_at hl 0 rfl) ?_
      refine va_get (D := (dC, dI)) (ci := 1) (v := .ref h1) (C := RX1) (T := TX1) (N := 5) hx hb hg inX1 hown hK hP 0 rfl rfl 0 (by decide) (hg _ wl_X1_9) (fun _ h9 => h9) rfl dX1_cutAt_16 ?_
      refine lv_iconst (v := zi (0)) hx hb dX1_cutAt_19 rfl ?_
      refine zz_iald hx hb hK hP 1 0 rfl rfl (0) (by omega) (by omega) (by decide) dX1_cutAt_20 ?_
      have hv_1 := hH (0)
      refine zz_icmp_le (tgt := 39) hx hb (by omega) (by omega) dX1_cutAt_21 (by decide) (fun c_21 => ?_) (fun c_21 => ?_)
      · exact absurd hy (by omega)
      · refine lv_iload_n hx hb dX1_cutAt_24 rfl (lv_at hl 1 rfl) ?_
        refine lv_aload_n hx hb dX1_cutAt_25 rfl (lv_at hl 0 rfl) ?_
        refine va_get (D := (dC, dI)) (ci := 1) (v := .ref h1) (C := RX1) (T := TX1) (N := 5) hx hb hg inX1 hown hK hP 0 rfl rfl 0 (by decide) (hg _ wl_X1_9) (fun _ h9 => h9) rfl dX1_cutAt_26 ?_
        refine lv_aload_n hx hb dX1_cutAt_29 rfl (lv_at hl 0 rfl) ?_
        refine va_get (D := (dC, dI)) (ci := 1) (v := .int (zi ((n : Int)))) (C := RX1) (T := TX1) (N := 5) hx hb hg inX1 hown hK hP 0 rfl rfl 2 (by decide) (hg _ wl_X1_22) (fun _ h9 => h9) rfl dX1_cutAt_30 ?_
        refine lv_iconst (v := zi (1)) hx hb dX1_cutAt_33 rfl ?_
        refine zz_isub hx hb dX1_cutAt_34 ?_
        refine zz_iald hx hb hK hP 1 0 rfl rfl (n - 1) (by omega) (by omega) (by decide) dX1_cutAt_35 ?_
        have hv_2 := hH (n - 1)
        refine zz_icmp_lt (tgt := 41) hx hb (by omega) (by omega) dX1_cutAt_36 (by decide) (fun c_36 => ?_) (fun c_36 => ?_)
        · refine lv_aload_n hx hb dX1_cutAt_41 rfl (lv_at hl 0 rfl) ?_
          refine lv_iload_n hx hb dX1_cutAt_42 rfl (lv_at hl 1 rfl) ?_
          refine rdV (As := [.int (zi (h))]) (rest := []) (n := 1) hx hb hml hown hg (c_X1_radiusAt l dC dI h0 h1 h2 cA n th wc hs rs (h) hn hH hR hh) (gwV wl_X1_44 wm_X1_radiusAt we_X1_radiusAt wi_X1 wc_X1_radiusAt) rfl rfl (by decide +kernel) ⟨Nat.le_of_ble_eq_true rfl, Nat.le_of_ble_eq_true rfl⟩ (hK.sub [0] rfl) (hP.sub [0, 1, 2] rfl) 0 rfl rfl rfl rfl hl.1 rfl (Nat.le_of_ble_eq_true rfl) dX1_cutAt_43 ⟨Nat.zero_le _, Nat.zero_le _⟩ ?_
          refine lv_istore_n (lv' := [(2, .int (zi (p_radius n hs rs (h)))), (0, .ref h0), (1, .int (zi (h)))]) hx hb dX1_cutAt_46 rfl hl (by decide) rfl (fun ls hl => ?_)
          refine lv_aload_n hx hb dX1_cutAt_47 rfl (lv_at hl 1 rfl) ?_
          refine lv_iload_n hx hb dX1_cutAt_48 rfl (lv_at hl 2 rfl) ?_
          refine rdV (As := [.int (zi (h))]) (rest := []) (n := 1) hx hb hml hown hg (c_X1_countUpTo l dC dI h0 h1 h2 cA n th wc hs rs (h) hn hH hR hh) (gwV wl_X1_73 wm_X1_countUpTo we_X1_countUpTo wi_X1 wc_X1_countUpTo) rfl rfl (by decide +kernel) ⟨Nat.le_of_ble_eq_true rfl, Nat.le_of_ble_eq_true rfl⟩ (hK.sub [0] rfl) (hP.sub [0, 1, 2] rfl) 0 rfl rfl rfl rfl hl.1 rfl (Nat.le_of_ble_eq_true rfl) dX1_cutAt_49 ⟨Nat.zero_le _, Nat.zero_le _⟩ ?_
          refine lv_istore_n (lv' := [(3, .int (zi (((p_cu hs (h) n : Nat) : Int)))), (2, .int (zi (p_radius n hs rs (h)))), (0, .ref h0), (1, .int (zi (h)))]) hx hb dX1_cutAt_52 rfl hl (by decide) rfl (fun ls hl => ?_)
          refine lv_aload_n hx hb dX1_cutAt_53 rfl (lv_at hl 2 rfl) ?_
          refine lv_iconst (v := zi (1)) hx hb dX1_cutAt_54 rfl ?_
          refine va_put (D := (dC, dI)) (ci := 1) (v := .int (zi (1))) (ty := .boolean) (C := RX1) (T := TX1) (N := 5) hx hb hg inX1 tyX1 tyX1_ok nmX1 hown hK hP hD hS 0 rfl rfl 4 (by decide) (hg _ wl_X1_18) (fun _ h9 => h9) rfl (by decide +kernel) rfl rfl (Nat.le_of_ble_eq_true rfl) dX1_cutAt_55 (fun H locs hP hD hS => ?_)
          have hP : va_P (dC, dI) vwCl [(h0, .inr (1, [.ref h1, .ref h2, .int (zi ((n : Int))), .int (zi (th)), .int (zi (1))])), (h1, .inl (cA, 12, .inl (zA (hs)))), (h2, .inl (cA, 12, .inl (zA (rs))))] H := hP
          have hD : va_D A [(h0, .inr (1, [.ref h1, .ref h2, .int (zi ((n : Int))), .int (zi (th)), .int (zi (1))])), (h1, .inl (cA, 12, .inl (zA (hs)))), (h2, .inl (cA, 12, .inl (zA (rs))))] := hD
          refine lv_iload_n hx hb dX1_cutAt_58 rfl (lv_at hl 0 rfl) ?_
          refine zz_if_le (tgt := 97) hx hb (by omega) dX1_cutAt_59 (by decide) (fun c_59 => ?_) (fun c_59 => ?_)
          · refine lv_aload_n hx hb dX1_cutAt_97 rfl (lv_at hl 2 rfl) ?_
            refine lv_iload_n hx hb dX1_cutAt_98 rfl (lv_at hl 0 rfl) ?_
            refine va_put (D := (dC, dI)) (ci := 1) (v := .int (zi (((p_cu hs (h) n : Nat) : Int)))) (ty := .int) (C := RX1) (T := TX1) (N := 5) hx hb hg inX1 tyX1 tyX1_ok nmX1 hown hK hP hD hS 0 rfl rfl 2 (by decide) (hg _ wl_X1_22) (fun _ h9 => h9) rfl (by decide +kernel) rfl rfl (Nat.le_of_ble_eq_true rfl) dX1_cutAt_99 (fun H locs hP hD hS => ?_)
            have hP : va_P (dC, dI) vwCl [(h0, .inr (1, [.ref h1, .ref h2, .int (zi (((p_cu hs (h) n : Nat) : Int))), .int (zi (th)), .int (zi (1))])), (h1, .inl (cA, 12, .inl (zA (hs)))), (h2, .inl (cA, 12, .inl (zA (rs))))] H := hP
            have hD : va_D A [(h0, .inr (1, [.ref h1, .ref h2, .int (zi (((p_cu hs (h) n : Nat) : Int))), .int (zi (th)), .int (zi (1))])), (h1, .inl (cA, 12, .inl (zA (hs)))), (h2, .inl (cA, 12, .inl (zA (rs))))] := hD
            refine lv_iconst (v := zi (1)) hx hb dX1_cutAt_102 rfl ?_
            have hP9 : va_P (dC, dI) vwCl [(h0, .inr (1, [.ref h1, .ref h2, .int (zi (((p_cu hs h n : Nat) : Int))), .int (zi (th)), .int (zi (1))])), (h1, .inl (cA, 12, .inl (zA (hs)))), (h2, .inl (cA, 12, .inl (zA (rs))))] H := hP
            rw [hQQ]
            exact wr_z hx hb hr hlocks rfl (by first | exact Or.inl rfl | exact Or.inr rfl | omega) hP9 hS dX1_cutAt_103
          · refine lv_iload_n hx hb dX1_cutAt_62 rfl (lv_at hl 0 rfl) ?_
            refine lv_bipush (v := zi (12)) hx hb dX1_cutAt_63 (by decide) ?_
            refine zz_icmp_ge (tgt := 97) hx hb (by omega) (by omega) dX1_cutAt_65 (by decide) (fun c_65 => ?_) (fun c_65 => ?_)
            · refine lv_aload_n hx hb dX1_cutAt_97 rfl (lv_at hl 2 rfl) ?_
              refine lv_iload_n hx hb dX1_cutAt_98 rfl (lv_at hl 0 rfl) ?_
              refine va_put (D := (dC, dI)) (ci := 1) (v := .int (zi (((p_cu hs (h) n : Nat) : Int)))) (ty := .int) (C := RX1) (T := TX1) (N := 5) hx hb hg inX1 tyX1 tyX1_ok nmX1 hown hK hP hD hS 0 rfl rfl 2 (by decide) (hg _ wl_X1_22) (fun _ h9 => h9) rfl (by decide +kernel) rfl rfl (Nat.le_of_ble_eq_true rfl) dX1_cutAt_99 (fun H locs hP hD hS => ?_)
              have hP : va_P (dC, dI) vwCl [(h0, .inr (1, [.ref h1, .ref h2, .int (zi (((p_cu hs (h) n : Nat) : Int))), .int (zi (th)), .int (zi (1))])), (h1, .inl (cA, 12, .inl (zA (hs)))), (h2, .inl (cA, 12, .inl (zA (rs))))] H := hP
              have hD : va_D A [(h0, .inr (1, [.ref h1, .ref h2, .int (zi (((p_cu hs (h) n : Nat) : Int))), .int (zi (th)), .int (zi (1))])), (h1, .inl (cA, 12, .inl (zA (hs)))), (h2, .inl (cA, 12, .inl (zA (rs))))] := hD
              refine lv_iconst (v := zi (1)) hx hb dX1_cutAt_102 rfl ?_
              have hP9 : va_P (dC, dI) vwCl [(h0, .inr (1, [.ref h1, .ref h2, .int (zi (((p_cu hs h n : Nat) : Int))), .int (zi (th)), .int (zi (1))])), (h1, .inl (cA, 12, .inl (zA (hs)))), (h2, .inl (cA, 12, .inl (zA (rs))))] H := hP
              rw [hQQ]
              exact wr_z hx hb hr hlocks rfl (by first | exact Or.inl rfl | exact Or.inr rfl | omega) hP9 hS dX1_cutAt_103
            · refine lv_aload_n hx hb dX1_cutAt_68 rfl (lv_at hl 2 rfl) ?_
              refine va_get (D := (dC, dI)) (ci := 1) (v := .ref h1) (C := RX1) (T := TX1) (N := 5) hx hb hg inX1 hown hK hP 0 rfl rfl 0 (by decide) (hg _ wl_X1_9) (fun _ h9 => h9) rfl dX1_cutAt_69 ?_
              refine lv_iload_n hx hb dX1_cutAt_72 rfl (lv_at hl 0 rfl) ?_
              refine lv_iconst (v := zi (1)) hx hb dX1_cutAt_73 rfl ?_
              refine zz_isub hx hb dX1_cutAt_74 ?_
              refine zz_iald hx hb hK hP 1 0 rfl rfl (p_cu hs h n - 1) (by omega) (by omega) (by decide) dX1_cutAt_75 ?_
              have hv_3 := hH (p_cu hs h n - 1)
              refine lv_iload_n hx hb dX1_cutAt_76 rfl (lv_at hl 3 rfl) ?_
              refine zz_icmp_eq (tgt := 97) hx hb (by omega) (by omega) dX1_cutAt_77 (by decide) (fun c_77 => ?_) (fun c_77 => ?_)
              · refine lv_aload_n hx hb dX1_cutAt_97 rfl (lv_at hl 2 rfl) ?_
                refine lv_iload_n hx hb dX1_cutAt_98 rfl (lv_at hl 0 rfl) ?_
                refine va_put (D := (dC, dI)) (ci := 1) (v := .int (zi (((p_cu hs (h) n : Nat) : Int)))) (ty := .int) (C := RX1) (T := TX1) (N := 5) hx hb hg inX1 tyX1 tyX1_ok nmX1 hown hK hP hD hS 0 rfl rfl 2 (by decide) (hg _ wl_X1_22) (fun _ h9 => h9) rfl (by decide +kernel) rfl rfl (Nat.le_of_ble_eq_true rfl) dX1_cutAt_99 (fun H locs hP hD hS => ?_)
                have hP : va_P (dC, dI) vwCl [(h0, .inr (1, [.ref h1, .ref h2, .int (zi (((p_cu hs (h) n : Nat) : Int))), .int (zi (th)), .int (zi (1))])), (h1, .inl (cA, 12, .inl (zA (hs)))), (h2, .inl (cA, 12, .inl (zA (rs))))] H := hP
                have hD : va_D A [(h0, .inr (1, [.ref h1, .ref h2, .int (zi (((p_cu hs (h) n : Nat) : Int))), .int (zi (th)), .int (zi (1))])), (h1, .inl (cA, 12, .inl (zA (hs)))), (h2, .inl (cA, 12, .inl (zA (rs))))] := hD
                refine lv_iconst (v := zi (1)) hx hb dX1_cutAt_102 rfl ?_
                have hP9 : va_P (dC, dI) vwCl [(h0, .inr (1, [.ref h1, .ref h2, .int (zi (((p_cu hs h n : Nat) : Int))), .int (zi (th)), .int (zi (1))])), (h1, .inl (cA, 12, .inl (zA (hs)))), (h2, .inl (cA, 12, .inl (zA (rs))))] H := hP
                rw [hQQ]
                exact wr_z hx hb hr hlocks rfl (by first | exact Or.inl rfl | exact Or.inr rfl | omega) hP9 hS dX1_cutAt_103
              · exact absurd (And.intro (by omega) (And.intro (by omega) (by omega))) hc1
        · exact absurd hy (by omega)
end
section
def QF : Array Value → State → Outcome → State → Prop := fun _ _ _ _ => False
def XK (K : String) : String → State → State → Prop := fun E st t => E = K ∧ va_F (fun _ => False) st t
abbrev ThM (l : Launch) (y : MethodName) (bytes : ByteArray) (maxL : Nat) (ret : Option FieldType) (rm : Room) (Pc : Array Value → State → Prop) (K : String) : Prop := vx_Met l y (Cond.code y bytes maxL ret :: gw) rm Pc QF (XK K) 1 6 (fun _ => False)
abbrev nmE : List String := ["java/lang/RuntimeException", "java/lang/Exception"]
abbrev KI : String := "java/lang/IndexOutOfBoundsException"
abbrev KA : String := "java/lang/IllegalArgumentException"
abbrev KS : String := "java/lang/IllegalStateException"
abbrev xstr : List Nat := [47, 186, 59, 62, 68, 188, 83, 114, 135, 141, 146, 148, 153, 190, 171, 176, 184]
def xE (U : State) : Prop :=
  (∀ C ∈ [KI, KA, KS], va_Nw (.castable C C) U) ∧ (∀ C ∈ ["java/lang/RuntimeException", "java/lang/Exception", "java/lang/Throwable"], va_Nw (.declares ⟨C, "<init>", "(Ljava/lang/String;)V"⟩) U) ∧
  (∀ k ∈ xstr, ∃ (tx : String) (a : Nat), vk_R "PotVolumes" k tx a U) ∧
  vx_Zq Bundle.tN "UNASSIGNED_STACK" Bundle.steD (fun _ => False) U U.heap ∧ vx_Zq Bundle.tN "SUPPRESSED_SENTINEL" Bundle.listD (fun _ => False) U U.heap
theorem xE.to {s U : State} (h : xE s) (hW : s.WarmedH U.vm) (hk : ∀ q : Nat, q < s.heap.size → U.heap[q]? = s.heap[q]?) : xE U := by
  obtain ⟨h1, h2, h3, h4, h5⟩ := h
  refine ⟨fun C hC => va_Nw.warmC hW (h1 C hC), fun C hC => va_Nw.warmD hW (h2 C hC), fun k hk9 => ?_, ?_, ?_⟩
  · obtain ⟨tx, a, h⟩ := h3 k hk9
    exact ⟨tx, a, vk_R.warm hW h⟩
  · exact vx_Zq.moved hW.alike (h4.kept (fun a ha _ => hk a ha))
  · exact vx_Zq.moved hW.alike (h5.kept (fun a ha _ => hk a ha))
set_option maxRecDepth 20000 in
theorem xh_ot : (∀ w ∈ Cond.classLink "PotVolumes" 81 KI :: Cond.initialized KI :: vx_atS "PotVolumes" 85 KI nmE, vx_ot w = true) ∧ (∀ w ∈ Cond.classLink "PotVolumes" 57 KA :: Cond.initialized KA :: vx_atS "PotVolumes" 61 KA nmE, vx_ot w = true) ∧ (∀ w ∈ Cond.classLink "PotVolumes" 45 KS :: Cond.initialized KS :: vx_atS "PotVolumes" 49 KS nmE, vx_ot w = true) := by
  refine ⟨?_, ?_, ?_⟩ <;> decide +kernel
abbrev xB (K : String) : List Cond := [.castable K K, .declares ⟨"java/lang/RuntimeException", "<init>", "(Ljava/lang/String;)V"⟩, .declares ⟨"java/lang/Exception", "<init>", "(Ljava/lang/String;)V"⟩, .declares ⟨"java/lang/Throwable", "<init>", "(Ljava/lang/String;)V"⟩]
set_option maxRecDepth 20000 in
theorem xh_no : (∀ w ∈ (vx_atS "PotVolumes" 85 KI nmE).filter (fun w => !goodWord w), w ∈ xB KI) ∧ (∀ w ∈ (vx_atS "PotVolumes" 61 KA nmE).filter (fun w => !goodWord w), w ∈ xB KA) ∧ (∀ w ∈ (vx_atS "PotVolumes" 49 KS nmE).filter (fun w => !goodWord w), w ∈ xB KS) := by
  refine ⟨?_, ?_, ?_⟩ <;> decide +kernel
set_option maxRecDepth 20000 in
theorem xh_gI : ∀ w ∈ (vx_atS "PotVolumes" 85 KI nmE).filter goodWord, w ∈ gw := by decide +kernel
set_option maxRecDepth 20000 in
theorem xh_gA : ∀ w ∈ (vx_atS "PotVolumes" 61 KA nmE).filter goodWord, w ∈ gw := by decide +kernel
set_option maxRecDepth 20000 in
theorem xh_gS : ∀ w ∈ (vx_atS "PotVolumes" 49 KS nmE).filter goodWord, w ∈ gw := by decide +kernel
theorem xh_B {K : String} {args : Array Value} {s : State} (hE : xE s) (hK : K ∈ [KI, KA, KS]) : ∀ w ∈ xB K, w.before args s = true :=
  vx_c (va_Nw.use rfl (hE.1 K hK)) (vx_c (va_Nw.use rfl (hE.2.1 _ (by decide))) (vx_c (va_Nw.use rfl (hE.2.1 _ (by decide))) (vx_c (va_Nw.use rfl (hE.2.1 _ (by decide))) vx_n)))
theorem xh_I {args : Array Value} {s : State} (hg : ∀ w ∈ gw, w.before args s = true) (hE : xE s) : ∀ w ∈ vx_atS "PotVolumes" 85 KI nmE, w.before args s = true := vx_hat (fun w h => hg w (xh_gI w h)) xh_no.1 (xh_B hE (by decide))
theorem xh_A {args : Array Value} {s : State} (hg : ∀ w ∈ gw, w.before args s = true) (hE : xE s) : ∀ w ∈ vx_atS "PotVolumes" 61 KA nmE, w.before args s = true := vx_hat (fun w h => hg w (xh_gA w h)) xh_no.2.1 (xh_B hE (by decide))
theorem xh_S {args : Array Value} {s : State} (hg : ∀ w ∈ gw, w.before args s = true) (hE : xE s) : ∀ w ∈ vx_atS "PotVolumes" 49 KS nmE, w.before args s = true := vx_hat (fun w h => hg w (xh_gS w h)) xh_no.2.2 (xh_B hE (by decide))
/-- a start of a method that may throw -/
abbrev PcT (av : List Value) (D : va_G) (cl : List vw_C) (ws : va_W) (tys : List (ClassId × FieldType)) : Array Value → State → Prop := va_Pc av (fun U => va_P D cl ws U.heap ∧ va_K D cl tys U ∧ xE U)
abbrev PcE (av : List Value) : Array Value → State → Prop := va_Pc av (fun U => xE U)
section TH
variable {p : Program} {l : Launch} {e : Env} {R : Room} {s : State} {m : MethodId} {args : Array Value} {below : List Frame} {meth : Method} {c : Code} {H : Heap} {locs : List Loc} {cells slots : Nat} {Q : State → Prop} {pc : Nat} {ls : Array Slot} {rest st0 As : List Value} {cc bytes : ByteArray} {D : va_G} {cl : List vw_C} {ws : va_W} {tys : List (ClassId × FieldType)} {nL maxL idx n : Nat} {own C : String} {y : MethodName} {ret : Option FieldType} {rm : Room} {b : Nat}
theorem thr {K : String} {ik is ic : Nat} (hx : p.tables.exec = Jvm.exec) (hb : c.code = cc) (hl0 : l.stackTraces = false) (hown : s.vm.findClass RX2 = some m.cls) (hE : xE s) (hK : Bundle.fit K = true)
    (hk : (Cond.classLink "PotVolumes" ik K).before args s = true) (hini : (Cond.initialized K).before args s = true) (hs : is ∈ xstr) (hat : ∀ w ∈ vx_atS "PotVolumes" ic K nmE, w.before args s = true) (hgood : ∀ w ∈ Cond.classLink "PotVolumes" ik K :: Cond.initialized K :: vx_atS "PotVolumes" ic K nmE, vx_ot w = true)
    (hml : c.maxLocals = nL) (hsize : ls.size = nL) (d0 : decode cc pc = .ok (.new ik, 3)) (d3 : decode cc (pc + 3) = .ok (.dup, 1)) (d4 : decode cc (pc + 4) = .ok (.ldc is, 2)) (d6 : decode cc (pc + 6) = .ok (.invokespecial ic, 3)) (d9 : decode cc (pc + 9) = .ok (.athrow, 1))
    (hno : ∀ x ∈ c.exceptionTable.toList, False) (hlocks : meth.locks = false) (hRf : 5 < R.frames) (hRl : (rest.map fun v => v.category).sum + 82 ≤ R.locals) (hRc : 1 ≤ R.cells) (hRs : 6 ≤ R.slots) :
    W p l e R s m args below meth c s.heap [] 0 0 (vx_MQ below QF (XK K) args s 1 6 (fun _ => False)) (F0 m pc ls rest) := by
  obtain ⟨tx, sa, hstr⟩ := hE.2.2.1 is hs
  exact vx_throwS (A := fun _ => False) (names := nmE) hx hb hl0 hown hK (by decide +kernel) hk hini hstr hat hgood hE.2.2.2.1 hE.2.2.2.2 va_S.rf (hsize.trans hml.symm) d0 d3 d4 d6 d9 (fun x h => (hno x h).elim) hRf hRl (by omega) (by omega) hlocks
    (fun t hv h1 h2 => ⟨rfl, h1, fun q hq _ => h2 q hq⟩) (fun z h => by cases h) (by omega) (by omega)
theorem thGo {K : String} {Pc : Array Value → State → Prop} {av : Array Value} (hr : vx_Run p l e R s m args below meth c s.heap [] 0 0 1 6 (F0 m pc ls st0) rest (QF av) (XK K) (fun _ => False)) (hno : ∀ x ∈ c.exceptionTable.toList, False) (hlocks : meth.locks = false) :
    W p l e R s m args below meth c s.heap [] 0 0 (vx_MQ below QF (XK K) args s 1 6 (fun _ => False)) (F0 m pc ls st0) := by
  intro T hT X
  rcases hr T hT X with ⟨v, st₀, t, T', L, h0, X', hL, e1, e2, hq, st⟩ | ⟨q, st₀, t, T', L, E, ce, h0, X', hL, e1, e2, ⟨hEK, hF⟩, hce, hcv, hcl, st⟩
  · exact hq.elim
  · subst hEK
    have hF9 : va_F (fun _ => False) s t := ⟨by have := hF.1; rw [h0] at this; exact this, fun q hq hn => by have := hF.2 q (by rw [h0]; exact hq) hn; rw [h0] at this; exact this⟩
    obtain ⟨t2, a1, b1⟩ := vx_out (E := E) (ls := ls) (rest := rest) (pc := pc) (H := T'.heap) (Qc := QF) (XC := XK E) (free := fun _ => False) (mc := 1) (ms := 6) (fun x h => (hno x h).elim) hlocks (by rw [e1]; exact hce) hcv hcl (fun t3 h3 h4 => ⟨rfl, by rw [h3, e1]; exact hF9.1, fun q h5 h6 => by rw [h3, e1]; exact hF9.2 q h5 h6⟩) (fun z hz => hL z (by simpa using hz)) (Nat.le_refl _) (Nat.le_refl _) T' rfl X'
    exact ⟨t2, st.trans a1, b1⟩
theorem thV {K : String} (hx : p.tables.exec = Jvm.exec) (hb : c.code = cc) (hml : c.maxLocals = nL) (hown : s.vm.findClass own = some m.cls) (hg : ∀ w ∈ gw, w.before args s = true)
    (hM : ThM l y bytes maxL ret rm (PcT (.ref b :: As) D cl ws tys) K) (hG : GoodIn gw (wsV own idx C y (Cond.code y bytes maxL ret :: gw))) (hrc : rm.cells = 1) (hrs : rm.slots = 6)
    (hd : y.cls = C ∧ y.cls ≠ "java/lang/invoke/MethodHandle" ∧ y.cls ≠ "java/lang/invoke/VarHandle" ∧ (parseMethodDescriptor y.desc).map (fun d => d.parameters.length) = some n) (hR : rm.frames + 1 ≤ R.frames ∧ 8 + (maxL + 11) + rm.locals ≤ R.locals)
    (hK : va_K D cl tys s) (hP : va_P D cl ws s.heap) (hE : xE s) {ci : Nat} (q0 : Nat) {fs : List Value} {r : vw_C} (he : ws[q0]? = some (b, .inr (ci, fs))) (hc : cl[ci]? = some r) (hC : r.1 = C)
    (hn : As.length = n) (hsize : ls.size = nL) (hst : st0 = As.reverse ++ .ref b :: rest) (hW : (rest.map fun v => v.category).sum ≤ 8) (hdg : decode cc pc = .ok (.invokevirtual idx, 3)) (hf : 1 ≤ R.cells ∧ 6 ≤ R.slots) (hno : ∀ x ∈ c.exceptionTable.toList, False) (hlocks : meth.locks = false) :
    W p l e R s m args below meth c s.heap [] 0 0 (vx_MQ below QF (XK K) args s 1 6 (fun _ => False)) (F0 m pc ls st0) := by
  subst hst
  subst hC
  refine thGo (Pc := fun _ _ => True) (vx_runV (As := As) (rest := rest) ⟨hx, hb, hml, hown, hg⟩ hM (cwV n hg hG rfl hrc hrs hd hR) ⟨fun a U g mk q => ⟨q.1, q.2.1, va_K.moved (u := U) (U := U.calling g mk a) (Vm.Alike.refl U.vm) q.2.2.1, q.2.2.2.to (State.WarmedH.refl U) (fun _ _ => rfl)⟩, va_recv hK hP (ci := ci) (q0 := q0) hc he, fun U hU hW => ⟨rfl, by rw [hU]; exact hP, va_K.moved hW.alike hK, hE.to hW (fun q _ => by rw [hU])⟩⟩ rfl hn hsize rfl (lv_room hW) hdg (by omega)) hno hlocks
theorem thS {K : String} (hx : p.tables.exec = Jvm.exec) (hb : c.code = cc) (hml : c.maxLocals = nL) (hown : s.vm.findClass own = some m.cls) (hg : ∀ w ∈ gw, w.before args s = true)
    (hM : ThM l y bytes maxL ret rm (PcE As) K) (hG : GoodIn gw (wsS own idx y (Cond.code y bytes maxL ret :: gw))) (hrc : rm.cells = 1) (hrs : rm.slots = 6)
    (hd : y.cls = own ∧ y.cls ≠ "java/lang/invoke/MethodHandle" ∧ y.cls ≠ "java/lang/invoke/VarHandle" ∧ (parseMethodDescriptor y.desc).map (fun d => d.parameters.length) = some n) (hR : rm.frames + 1 ≤ R.frames ∧ 8 + (maxL + 11) + rm.locals ≤ R.locals)
    (hE : xE s) (hn : As.length = n) (hsize : ls.size = nL) (hst : st0 = As.reverse ++ rest) (hW : (rest.map fun v => v.category).sum ≤ 8) (hdg : decode cc pc = .ok (.invokestatic idx, 3)) (hf : 1 ≤ R.cells ∧ 6 ≤ R.slots) (hno : ∀ x ∈ c.exceptionTable.toList, False) (hlocks : meth.locks = false) :
    W p l e R s m args below meth c s.heap [] 0 0 (vx_MQ below QF (XK K) args s 1 6 (fun _ => False)) (F0 m pc ls st0) := by
  subst hst
  refine thGo (Pc := fun _ _ => True) (vx_runS (As := As) (rest := rest) ⟨hx, hb, hml, hown, hg⟩ hM (cwS n hg hG rfl hrc hrs hd hR) ⟨fun a U g mk q => ⟨q.1, q.2.to (State.WarmedH.refl U) (fun _ _ => rfl)⟩, fun U hU hW => ⟨rfl, hE.to hW (fun q _ => by rw [hU])⟩⟩ rfl hn hsize rfl (lv_room hW) hdg (by omega)) hno hlocks
theorem rd_v (hx : p.tables.exec = Jvm.exec) (hb : c.code = cc) (hr : meth.sig.returnType = none) (hlocks : meth.locks = false) (hdg : decode cc pc = .ok (.return_, 1)) : W p l e R s m args below meth c s.heap [] cells slots (MQ below (RdQ none) args s cells slots (fun _ => False)) (F0 m pc ls []) :=
  W.vret hx hb hr (fun t ht hW => ⟨rfl, ht⟩) (fun q h => by cases h) hdg hlocks
theorem rd_a {v : Nat} {C : String} (hx : p.tables.exec = Jvm.exec) (hb : c.code = cc) (hr : meth.sig.returnType = some (.object C)) (hlocks : meth.locks = false) (hdg : decode cc pc = .ok (.areturn, 1)) : W p l e R s m args below meth c s.heap [] cells slots (MQ below (RdQ (some (.ref v))) args s cells slots (fun _ => False)) (F0 m pc ls [.ref v]) :=
  W.aret hx hb hr (Or.inl ⟨_, rfl⟩) (Or.inr ⟨_, rfl⟩) (fun t ht hW => ⟨rfl, ht⟩) (fun q h => by cases h) hdg hlocks
theorem zz_rfS {o : Option Nat} {a : Nat} (h : o = some a) (k : W p l e R s m args below meth c H locs cells slots Q (F0 m pc ls (.ref a :: rest))) : W p l e R s m args below meth c H locs cells slots Q (F0 m pc ls (va_rf o :: rest)) := by
  subst h; exact k
theorem zz_rfN {o : Option Nat} (h : o = none) (k : W p l e R s m args below meth c H locs cells slots Q (F0 m pc ls (.null :: rest))) : W p l e R s m args below meth c H locs cells slots Q (F0 m pc ls (va_rf o :: rest)) := by
  subst h; exact k
end TH
end
section
abbrev rm_X2_profileOf : Room := { frames := 6, cells := 0, slots := 0, locals := 100 }
set_option maxHeartbeats 4000000 in
set_option maxRecDepth 100000 in
theorem c_X2_profileOf (l : Launch) (dC : Nat → ClassId) (dI : Nat → Nat → Nat) (x0 pa ba ax ay sp ss vs fr : Nat) (pn bn ln sn : Nat)(cQ : ClassId) (pf : Nat → Option Nat) (j h0 : Nat) (hj : j < 6) (hf : pf j = some h0) : Met l yX2_profileOf (Cond.code yX2_profileOf cX2_profileOf 3 ((Option.some (Jvm.ClassFile.FieldType.object "PotVolumes$Profile"))) :: gw) rm_X2_profileOf (PcR [.ref x0, .int (zi ((j : Int)))] (dC, dI) vwCl [(x0, .inr (2, [.ref pa, .int (zi ((pn : Int))), .ref ba, .int (zi ((bn : Int))), .ref ax, .ref ay, .int (zi ((ln : Int))), .ref sp, .ref ss, .int (zi ((sn : Int))), .ref vs, .ref fr])), (pa, .inl (cQ, 6, .inr (.inr (.inr (.inr (pf))))))] [(cQ, .object "PotVolumes$Profile")]) (RdQ (some (.ref h0))) 0 0 (fun _ => False) := by
  refine Met.ofW (cc := cX2_profileOf) (maxL := 3) (ret := ((Option.some (Jvm.ClassFile.FieldType.object "PotVolumes$Profile")))) (by decide) rfl ?_
  intro p e s m args below meth c s₁ B hml hv
  obtain ⟨hargs, hP, hK⟩ := hv
  have hx := B.exec
  have hb := B.bytes
  have hr := B.returns
  have hts := atoms_spec (ws := Cond.code yX2_profileOf cX2_profileOf 3 ((Option.some (Jvm.ClassFile.FieldType.object "PotVolumes$Profile"))) :: gw) B.pre
  have hg : ∀ w ∈ gw, w.before args s = true := fun w h => hts w (List.mem_cons_of_mem _ h)
  have hown : s.vm.findClass RX2 = some m.cls := findClass_of_methodNamed B.named
  have hlocks := B.notSynchronized
  show W p l e rm_X2_profileOf s m args below meth c s.heap [] 0 0 _ _
  have hl := lv_entry ([.ref x0, .int (zi ((j : Int)))]) (n := 3) (Nat.le_of_ble_eq_true rfl)
  rw [show entryFrame m args 3 = entryFrame m ([.ref x0, .int (zi ((j : Int)))] : List Value).toArray 3 by rw [hargs], lg_entry_eq]
  generalize (lg_sl ([.ref x0, .int (zi ((j : Int)))]) ++ List.replicate (3 - (lg_sl ([.ref x0, .int (zi ((j : Int)))])).length) Slot.unset).toArray = ls at hl ⊢
  have hl : lv_has ls 3 [(0, .ref x0), (1, .int (zi ((j : Int))))] := hl
  obtain ⟨QQ, hQQ⟩ : ∃ Q, Q = MQ below (RdQ (some (.ref h0))) args s 0 0 (fun _ => False) := ⟨_, rfl⟩
  rw [← hQQ]
  refine lv_iload_n hx hb dX2_profileOf_0 rfl (lv_at hl 1 rfl) ?_
  refine zz_if_lt (tgt := 13) hx hb (by omega) dX2_profileOf_1 (by decide) (fun c_1 => ?_) (fun c_1 => ?_)
  · exact False.elim (by omega)
  · refine lv_iload_n hx hb dX2_profileOf_4 rfl (lv_at hl 1 rfl) ?_
    refine lv_aload_n hx hb dX2_profileOf_5 rfl (lv_at hl 0 rfl) ?_
    refine va_get (D := (dC, dI)) (ci := 2) (v := .ref pa) (C := RX2) (T := TX2) (N := 12) hx hb hg inX2 hown hK hP 0 rfl rfl 0 (by decide) (hg _ wl_X2_11) (fun _ h9 => h9) rfl dX2_profileOf_6 ?_
    refine va_alen hx hb hK hP 1 0 rfl rfl (v := zi 6) (by show Int32.ofNat 6 = zi 6; decide) dX2_profileOf_9 ?_
    refine zz_icmp_lt (tgt := 23) hx hb (by omega) (by omega) dX2_profileOf_10 (by decide) (fun c_10 => ?_) (fun c_10 => ?_)
    · refine lv_aload_n hx hb dX2_profileOf_23 rfl (lv_at hl 0 rfl) ?_
      refine va_get (D := (dC, dI)) (ci := 2) (v := .ref pa) (C := RX2) (T := TX2) (N := 12) hx hb hg inX2 hown hK hP 0 rfl rfl 0 (by decide) (hg _ wl_X2_11) (fun _ h9 => h9) rfl dX2_profileOf_24 ?_
      refine lv_iload_n hx hb dX2_profileOf_27 rfl (lv_at hl 1 rfl) ?_
      refine zz_aald hx hb hK hP 1 0 rfl rfl (j) (by omega) (by omega) (by decide) dX2_profileOf_28 ?_
      refine zz_rfS hf ?_
      refine lv_astore_n (lv' := [(2, .ref h0), (0, .ref x0), (1, .int (zi ((j : Int))))]) hx hb dX2_profileOf_29 rfl hl (by decide) rfl (fun ls hl => ?_)
      refine lv_aload_n hx hb dX2_profileOf_30 rfl (lv_at hl 0 rfl) ?_
      refine lv_ifnonnull (tgt := 44) hx hb dX2_profileOf_31 (by decide) ?_
      refine lv_aload_n hx hb dX2_profileOf_44 rfl (lv_at hl 0 rfl) ?_
      rw [hQQ]
      exact rd_a hx hb hr hlocks dX2_profileOf_45
    · exact False.elim (by omega)

abbrev rt_X2_profileOf : Room := { frames := 6, cells := 1, slots := 6, locals := 100 }
set_option maxHeartbeats 4000000 in
set_option maxRecDepth 100000 in
theorem t_X2_profileOf (l : Launch) (hl0 : l.stackTraces = false) (dC : Nat → ClassId) (dI : Nat → Nat → Nat) (x0 pa ba ax ay sp ss vs fr : Nat) (pn bn ln sn : Nat)(cQ : ClassId) (pf : Nat → Option Nat) (i : Int) (hi : -2147483648 ≤ i ∧ i < 2147483648) (hbad : i < 0 ∨ 6 ≤ i ∨ pf i.toNat = none) : ThM l yX2_profileOf cX2_profileOf 3 ((Option.some (Jvm.ClassFile.FieldType.object "PotVolumes$Profile"))) rt_X2_profileOf (PcT [.ref x0, .int (zi (i))] (dC, dI) vwCl [(x0, .inr (2, [.ref pa, .int (zi ((pn : Int))), .ref ba, .int (zi ((bn : Int))), .ref ax, .ref ay, .int (zi ((ln : Int))), .ref sp, .ref ss, .int (zi ((sn : Int))), .ref vs, .ref fr])), (pa, .inl (cQ, 6, .inr (.inr (.inr (.inr (pf))))))] [(cQ, .object "PotVolumes$Profile")]) KI := by
  refine vx_ofW (cc := cX2_profileOf) (maxL := 3) (ret := ((Option.some (Jvm.ClassFile.FieldType.object "PotVolumes$Profile")))) (by decide) rfl ?_
  intro p e s m args below meth c s₁ B hml hno hv
  obtain ⟨hargs, hP, hK, hE⟩ := hv
  have hx := B.exec
  have hb := B.bytes
  have hr := B.returns
  have hts := atoms_spec (ws := Cond.code yX2_profileOf cX2_profileOf 3 ((Option.some (Jvm.ClassFile.FieldType.object "PotVolumes$Profile"))) :: gw) B.pre
  have hg : ∀ w ∈ gw, w.before args s = true := fun w h => hts w (List.mem_cons_of_mem _ h)
  have hown : s.vm.findClass RX2 = some m.cls := findClass_of_methodNamed B.named
  have hlocks := B.notSynchronized
  show W p l e rt_X2_profileOf s m args below meth c s.heap [] 0 0 _ _
  have hl := lv_entry ([.ref x0, .int (zi (i))]) (n := 3) (Nat.le_of_ble_eq_true rfl)
  rw [show entryFrame m args 3 = entryFrame m ([.ref x0, .int (zi (i))] : List Value).toArray 3 by rw [hargs], lg_entry_eq]
  generalize (lg_sl ([.ref x0, .int (zi (i))]) ++ List.replicate (3 - (lg_sl ([.ref x0, .int (zi (i))])).length) Slot.unset).toArray = ls at hl ⊢
  have hl : lv_has ls 3 [(0, .ref x0), (1, .int (zi (i)))] := hl
  obtain ⟨QQ, hQQ⟩ : ∃ Q, Q = vx_MQ below QF (XK KI) args s 1 6 (fun _ => False) := ⟨_, rfl⟩
  rw [← hQQ]
  refine lv_iload_n hx hb dX2_profileOf_0 rfl (lv_at hl 1 rfl) ?_
  refine zz_if_lt (tgt := 13) hx hb (by omega) dX2_profileOf_1 (by decide) (fun c_1 => ?_) (fun c_1 => ?_)
  · rw [hQQ]
    exact thr (K := KI) hx hb hl0 hown hE (by decide +kernel) (hg _ wl_X2_81) (hg _ wi_IndexOutOfBoundsException) (by decide) (xh_I hg hE) xh_ot.1 hml hl.1 dX2_profileOf_13 dX2_profileOf_16 dX2_profileOf_17 dX2_profileOf_19 dX2_profileOf_22 hno hlocks (Nat.le_of_ble_eq_true rfl) (Nat.le_of_ble_eq_true rfl) (Nat.le_of_ble_eq_true rfl) (Nat.le_of_ble_eq_true rfl)
  · refine lv_iload_n hx hb dX2_profileOf_4 rfl (lv_at hl 1 rfl) ?_
    refine lv_aload_n hx hb dX2_profileOf_5 rfl (lv_at hl 0 rfl) ?_
    refine va_get (D := (dC, dI)) (ci := 2) (v := .ref pa) (C := RX2) (T := TX2) (N := 12) hx hb hg inX2 hown hK hP 0 rfl rfl 0 (by decide) (hg _ wl_X2_11) (fun _ h9 => h9) rfl dX2_profileOf_6 ?_
    refine va_alen hx hb hK hP 1 0 rfl rfl (v := zi 6) (by show Int32.ofNat 6 = zi 6; decide) dX2_profileOf_9 ?_
    refine zz_icmp_lt (tgt := 23) hx hb (by omega) (by omega) dX2_profileOf_10 (by decide) (fun c_10 => ?_) (fun c_10 => ?_)
    · have hnn : pf i.toNat = none := by
        rcases hbad with h | h | h
        · omega
        · omega
        · exact h
      refine lv_aload_n hx hb dX2_profileOf_23 rfl (lv_at hl 0 rfl) ?_
      refine va_get (D := (dC, dI)) (ci := 2) (v := .ref pa) (C := RX2) (T := TX2) (N := 12) hx hb hg inX2 hown hK hP 0 rfl rfl 0 (by decide) (hg _ wl_X2_11) (fun _ h9 => h9) rfl dX2_profileOf_24 ?_
      refine lv_iload_n hx hb dX2_profileOf_27 rfl (lv_at hl 1 rfl) ?_
      refine zz_aald hx hb hK hP 1 0 rfl rfl (i.toNat) (by omega) (by omega) (by decide) dX2_profileOf_28 ?_
      refine zz_rfN hnn ?_
      refine lv_astore_nN (lv' := [(2, .null), (0, .ref x0), (1, .int (zi (i)))]) hx hb dX2_profileOf_29 rfl hl (by decide) rfl (fun ls hl => ?_)
      refine lv_aload_nN hx hb dX2_profileOf_30 rfl (lv_at hl 0 rfl) ?_
      refine lv_ifnonnullN hx hb dX2_profileOf_31 ?_
      rw [hQQ]
      exact thr (K := KI) hx hb hl0 hown hE (by decide +kernel) (hg _ wl_X2_81) (hg _ wi_IndexOutOfBoundsException) (by decide) (xh_I hg hE) xh_ot.1 hml hl.1 dX2_profileOf_34 dX2_profileOf_37 dX2_profileOf_38 dX2_profileOf_40 dX2_profileOf_43 hno hlocks (Nat.le_of_ble_eq_true rfl) (Nat.le_of_ble_eq_true rfl) (Nat.le_of_ble_eq_true rfl) (Nat.le_of_ble_eq_true rfl)
    · rw [hQQ]
      exact thr (K := KI) hx hb hl0 hown hE (by decide +kernel) (hg _ wl_X2_81) (hg _ wi_IndexOutOfBoundsException) (by decide) (xh_I hg hE) xh_ot.1 hml hl.1 dX2_profileOf_13 dX2_profileOf_16 dX2_profileOf_17 dX2_profileOf_19 dX2_profileOf_22 hno hlocks (Nat.le_of_ble_eq_true rfl) (Nat.le_of_ble_eq_true rfl) (Nat.le_of_ble_eq_true rfl) (Nat.le_of_ble_eq_true rfl)

abbrev rm_X2_needOneOfTwo : Room := { frames := 6, cells := 0, slots := 0, locals := 100 }
set_option maxHeartbeats 4000000 in
set_option maxRecDepth 100000 in
theorem c_X2_needOneOfTwo (l : Launch) (i : Int) (hi : i = 0 ∨ i = 1) : Met l yX2_needOneOfTwo (Cond.code yX2_needOneOfTwo cX2_needOneOfTwo 1 ((Option.none : Option Jvm.ClassFile.FieldType)) :: gw) rm_X2_needOneOfTwo (PcS [.int (zi (i))]) (RdQ (none)) 0 0 (fun _ => False) := by
  refine Met.ofW (cc := cX2_needOneOfTwo) (maxL := 1) (ret := ((Option.none : Option Jvm.ClassFile.FieldType))) (by decide) rfl ?_
  intro p e s m args below meth c s₁ B hml hv
  obtain ⟨hargs, -⟩ := hv
  have hx := B.exec
  have hb := B.bytes
  have hr := B.returns
  have hts := atoms_spec (ws := Cond.code yX2_needOneOfTwo cX2_needOneOfTwo 1 ((Option.none : Option Jvm.ClassFile.FieldType)) :: gw) B.pre
  have hg : ∀ w ∈ gw, w.before args s = true := fun w h => hts w (List.mem_cons_of_mem _ h)
  have hown : s.vm.findClass RX2 = some m.cls := findClass_of_methodNamed B.named
  have hlocks := B.notSynchronized
  show W p l e rm_X2_needOneOfTwo s m args below meth c s.heap [] 0 0 _ _
  have hl := lv_entry ([.int (zi (i))]) (n := 1) (Nat.le_of_ble_eq_true rfl)
  rw [show entryFrame m args 1 = entryFrame m ([.int (zi (i))] : List Value).toArray 1 by rw [hargs], lg_entry_eq]
  generalize (lg_sl ([.int (zi (i))]) ++ List.replicate (1 - (lg_sl ([.int (zi (i))])).length) Slot.unset).toArray = ls at hl ⊢
  have hl : lv_has ls 1 [(0, .int (zi (i)))] := hl
  obtain ⟨QQ, hQQ⟩ : ∃ Q, Q = MQ below (RdQ (none)) args s 0 0 (fun _ => False) := ⟨_, rfl⟩
  rw [← hQQ]
  refine lv_iload_n hx hb dX2_needOneOfTwo_0 rfl (lv_at hl 0 rfl) ?_
  refine zz_if_eq (tgt := 19) hx hb (by omega) dX2_needOneOfTwo_1 (by decide) (fun c_1 => ?_) (fun c_1 => ?_)
  · rw [hQQ]
    exact rd_v hx hb hr hlocks dX2_needOneOfTwo_19
  · refine lv_iload_n hx hb dX2_needOneOfTwo_4 rfl (lv_at hl 0 rfl) ?_
    refine lv_iconst (v := zi (1)) hx hb dX2_needOneOfTwo_5 rfl ?_
    refine zz_icmp_eq (tgt := 19) hx hb (by omega) (by omega) dX2_needOneOfTwo_6 (by decide) (fun c_6 => ?_) (fun c_6 => ?_)
    · rw [hQQ]
      exact rd_v hx hb hr hlocks dX2_needOneOfTwo_19
    · exact False.elim (by omega)

abbrev rt_X2_needOneOfTwo : Room := { frames := 6, cells := 1, slots := 6, locals := 100 }
set_option maxHeartbeats 4000000 in
set_option maxRecDepth 100000 in
theorem t_X2_needOneOfTwo (l : Launch) (hl0 : l.stackTraces = false) (i : Int) (hi : -2147483648 ≤ i ∧ i < 2147483648) (hbad : ¬ (i = 0 ∨ i = 1)) : ThM l yX2_needOneOfTwo cX2_needOneOfTwo 1 ((Option.none : Option Jvm.ClassFile.FieldType)) rt_X2_needOneOfTwo (PcE [.int (zi (i))]) KI := by
  refine vx_ofW (cc := cX2_needOneOfTwo) (maxL := 1) (ret := ((Option.none : Option Jvm.ClassFile.FieldType))) (by decide) rfl ?_
  intro p e s m args below meth c s₁ B hml hno hv
  obtain ⟨hargs, hE⟩ := hv
  have hx := B.exec
  have hb := B.bytes
  have hr := B.returns
  have hts := atoms_spec (ws := Cond.code yX2_needOneOfTwo cX2_needOneOfTwo 1 ((Option.none : Option Jvm.ClassFile.FieldType)) :: gw) B.pre
  have hg : ∀ w ∈ gw, w.before args s = true := fun w h => hts w (List.mem_cons_of_mem _ h)
  have hown : s.vm.findClass RX2 = some m.cls := findClass_of_methodNamed B.named
  have hlocks := B.notSynchronized
  show W p l e rt_X2_needOneOfTwo s m args below meth c s.heap [] 0 0 _ _
  have hl := lv_entry ([.int (zi (i))]) (n := 1) (Nat.le_of_ble_eq_true rfl)
  rw [show entryFrame m args 1 = entryFrame m ([.int (zi (i))] : List Value).toArray 1 by rw [hargs], lg_entry_eq]
  generalize (lg_sl ([.int (zi (i))]) ++ List.replicate (1 - (lg_sl ([.int (zi (i))])).length) Slot.unset).toArray = ls at hl ⊢
  have hl : lv_has ls 1 [(0, .int (zi (i)))] := hl
  obtain ⟨QQ, hQQ⟩ : ∃ Q, Q = vx_MQ below QF (XK KI) args s 1 6 (fun _ => False) := ⟨_, rfl⟩
  rw [← hQQ]
  refine lv_iload_n hx hb dX2_needOneOfTwo_0 rfl (lv_at hl 0 rfl) ?_
  refine zz_if_eq (tgt := 19) hx hb (by omega) dX2_needOneOfTwo_1 (by decide) (fun c_1 => ?_) (fun c_1 => ?_)
  · exact False.elim (by omega)
  · refine lv_iload_n hx hb dX2_needOneOfTwo_4 rfl (lv_at hl 0 rfl) ?_
    refine lv_iconst (v := zi (1)) hx hb dX2_needOneOfTwo_5 rfl ?_
    refine zz_icmp_eq (tgt := 19) hx hb (by omega) (by omega) dX2_needOneOfTwo_6 (by decide) (fun c_6 => ?_) (fun c_6 => ?_)
    · exact False.elim (by omega)
    · rw [hQQ]
      exact thr (K := KI) hx hb hl0 hown hE (by decide +kernel) (hg _ wl_X2_81) (hg _ wi_IndexOutOfBoundsException) (by decide) (xh_I hg hE) xh_ot.1 hml hl.1 dX2_needOneOfTwo_9 dX2_needOneOfTwo_12 dX2_needOneOfTwo_13 dX2_needOneOfTwo_15 dX2_needOneOfTwo_18 hno hlocks (Nat.le_of_ble_eq_true rfl) (Nat.le_of_ble_eq_true rfl) (Nat.le_of_ble_eq_true rfl) (Nat.le_of_ble_eq_true rfl)

abbrev rm_X2_needProfile : Room := { frames := 6, cells := 0, slots := 0, locals := 100 }
set_option maxHeartbeats 4000000 in
set_option maxRecDepth 100000 in
theorem c_X2_needProfile (l : Launch) (dC : Nat → ClassId) (dI : Nat → Nat → Nat) (x0 pa ba ax ay sp ss vs fr : Nat) (pn bn ln sn : Nat) (i : Int) (hpn : pn ≤ 6) (hi : 0 ≤ i ∧ i < pn) : Met l yX2_needProfile (Cond.code yX2_needProfile cX2_needProfile 2 ((Option.none : Option Jvm.ClassFile.FieldType)) :: gw) rm_X2_needProfile (PcR [.ref x0, .int (zi (i))] (dC, dI) vwCl [(x0, .inr (2, [.ref pa, .int (zi ((pn : Int))), .ref ba, .int (zi ((bn : Int))), .ref ax, .ref ay, .int (zi ((ln : Int))), .ref sp, .ref ss, .int (zi ((sn : Int))), .ref vs, .ref fr]))] []) (RdQ (none)) 0 0 (fun _ => False) := by
  refine Met.ofW (cc := cX2_needProfile) (maxL := 2) (ret := ((Option.none : Option Jvm.ClassFile.FieldType))) (by decide) rfl ?_
  intro p e s m args below meth c s₁ B hml hv
  obtain ⟨hargs, hP, hK⟩ := hv
  have hx := B.exec
  have hb := B.bytes
  have hr := B.returns
  have hts := atoms_spec (ws := Cond.code yX2_needProfile cX2_needProfile 2 ((Option.none : Option Jvm.ClassFile.FieldType)) :: gw) B.pre
  have hg : ∀ w ∈ gw, w.before args s = true := fun w h => hts w (List.mem_cons_of_mem _ h)
  have hown : s.vm.findClass RX2 = some m.cls := findClass_of_methodNamed B.named
  have hlocks := B.notSynchronized
  show W p l e rm_X2_needProfile s m args below meth c s.heap [] 0 0 _ _
  have hl := lv_entry ([.ref x0, .int (zi (i))]) (n := 2) (Nat.le_of_ble_eq_true rfl)
  rw [show entryFrame m args 2 = entryFrame m ([.ref x0, .int (zi (i))] : List Value).toArray 2 by rw [hargs], lg_entry_eq]
  generalize (lg_sl ([.ref x0, .int (zi (i))]) ++ List.replicate (2 - (lg_sl ([.ref x0, .int (zi (i))])).length) Slot.unset).toArray = ls at hl ⊢
  have hl : lv_has ls 2 [(0, .ref x0), (1, .int (zi (i)))] := hl
  obtain ⟨QQ, hQQ⟩ : ∃ Q, Q = MQ below (RdQ (none)) args s 0 0 (fun _ => False) := ⟨_, rfl⟩
  rw [← hQQ]
  refine lv_iload_n hx hb dX2_needProfile_0 rfl (lv_at hl 1 rfl) ?_
  refine zz_if_lt (tgt := 12) hx hb (by omega) dX2_needProfile_1 (by decide) (fun c_1 => ?_) (fun c_1 => ?_)
  · exact False.elim (by omega)
  · refine lv_iload_n hx hb dX2_needProfile_4 rfl (lv_at hl 1 rfl) ?_
    refine lv_aload_n hx hb dX2_needProfile_5 rfl (lv_at hl 0 rfl) ?_
    refine va_get (D := (dC, dI)) (ci := 2) (v := .int (zi ((pn : Int)))) (C := RX2) (T := TX2) (N := 12) hx hb hg inX2 hown hK hP 0 rfl rfl 1 (by decide) (hg _ wl_X2_41) (fun _ h9 => h9) rfl dX2_needProfile_6 ?_
    refine zz_icmp_lt (tgt := 22) hx hb (by omega) (by omega) dX2_needProfile_9 (by decide) (fun c_9 => ?_) (fun c_9 => ?_)
    · rw [hQQ]
      exact rd_v hx hb hr hlocks dX2_needProfile_22
    · exact False.elim (by omega)

abbrev rt_X2_needProfile : Room := { frames := 6, cells := 1, slots := 6, locals := 100 }
set_option maxHeartbeats 4000000 in
set_option maxRecDepth 100000 in
theorem t_X2_needProfile (l : Launch) (hl0 : l.stackTraces = false) (dC : Nat → ClassId) (dI : Nat → Nat → Nat) (x0 pa ba ax ay sp ss vs fr : Nat) (pn bn ln sn : Nat) (i : Int) (hpn : pn ≤ 6) (hi : -2147483648 ≤ i ∧ i < 2147483648) (hbad : ¬ (0 ≤ i ∧ i < pn)) : ThM l yX2_needProfile cX2_needProfile 2 ((Option.none : Option Jvm.ClassFile.FieldType)) rt_X2_needProfile (PcT [.ref x0, .int (zi (i))] (dC, dI) vwCl [(x0, .inr (2, [.ref pa, .int (zi ((pn : Int))), .ref ba, .int (zi ((bn : Int))), .ref ax, .ref ay, .int (zi ((ln : Int))), .ref sp, .ref ss, .int (zi ((sn : Int))), .ref vs, .ref fr]))] []) KI := by
  refine vx_ofW (cc := cX2_needProfile) (maxL := 2) (ret := ((Option.none : Option Jvm.ClassFile.FieldType))) (by decide) rfl ?_
  intro p e s m args below meth c s₁ B hml hno hv
  obtain ⟨hargs, hP, hK, hE⟩ := hv
  have hx := B.exec
  have hb := B.bytes
  have hr := B.returns
  have hts := atoms_spec (ws := Cond.code yX2_needProfile cX2_needProfile 2 ((Option.none : Option Jvm.ClassFile.FieldType)) :: gw) B.pre
  have hg : ∀ w ∈ gw, w.before args s = true := fun w h => hts w (List.mem_cons_of_mem _ h)
  have hown : s.vm.findClass RX2 = some m.cls := findClass_of_methodNamed B.named
  have hlocks := B.notSynchronized
  show W p l e rt_X2_needProfile s m args below meth c s.heap [] 0 0 _ _
  have hl := lv_entry ([.ref x0, .int (zi (i))]) (n := 2) (Nat.le_of_ble_eq_true rfl)
  rw [show entryFrame m args 2 = entryFrame m ([.ref x0, .int (zi (i))] : List Value).toArray 2 by rw [hargs], lg_entry_eq]
  generalize (lg_sl ([.ref x0, .int (zi (i))]) ++ List.replicate (2 - (lg_sl ([.ref x0, .int (zi (i))])).length) Slot.unset).toArray = ls at hl ⊢
  have hl : lv_has ls 2 [(0, .ref x0), (1, .int (zi (i)))] := hl
  obtain ⟨QQ, hQQ⟩ : ∃ Q, Q = vx_MQ below QF (XK KI) args s 1 6 (fun _ => False) := ⟨_, rfl⟩
  rw [← hQQ]
  refine lv_iload_n hx hb dX2_needProfile_0 rfl (lv_at hl 1 rfl) ?_
  refine zz_if_lt (tgt := 12) hx hb (by omega) dX2_needProfile_1 (by decide) (fun c_1 => ?_) (fun c_1 => ?_)
  · rw [hQQ]
    exact thr (K := KI) hx hb hl0 hown hE (by decide +kernel) (hg _ wl_X2_81) (hg _ wi_IndexOutOfBoundsException) (by decide) (xh_I hg hE) xh_ot.1 hml hl.1 dX2_needProfile_12 dX2_needProfile_15 dX2_needProfile_16 dX2_needProfile_18 dX2_needProfile_21 hno hlocks (Nat.le_of_ble_eq_true rfl) (Nat.le_of_ble_eq_true rfl) (Nat.le_of_ble_eq_true rfl) (Nat.le_of_ble_eq_true rfl)
  · refine lv_iload_n hx hb dX2_needProfile_4 rfl (lv_at hl 1 rfl) ?_
    refine lv_aload_n hx hb dX2_needProfile_5 rfl (lv_at hl 0 rfl) ?_
    refine va_get (D := (dC, dI)) (ci := 2) (v := .int (zi ((pn : Int)))) (C := RX2) (T := TX2) (N := 12) hx hb hg inX2 hown hK hP 0 rfl rfl 1 (by decide) (hg _ wl_X2_41) (fun _ h9 => h9) rfl dX2_needProfile_6 ?_
    refine zz_icmp_lt (tgt := 22) hx hb (by omega) (by omega) dX2_needProfile_9 (by decide) (fun c_9 => ?_) (fun c_9 => ?_)
    · exact False.elim (by omega)
    · rw [hQQ]
      exact thr (K := KI) hx hb hl0 hown hE (by decide +kernel) (hg _ wl_X2_81) (hg _ wi_IndexOutOfBoundsException) (by decide) (xh_I hg hE) xh_ot.1 hml hl.1 dX2_needProfile_12 dX2_needProfile_15 dX2_needProfile_16 dX2_needProfile_18 dX2_needProfile_21 hno hlocks (Nat.le_of_ble_eq_true rfl) (Nat.le_of_ble_eq_true rfl) (Nat.le_of_ble_eq_true rfl) (Nat.le_of_ble_eq_true rfl)

abbrev rm_X2_needCircle : Room := { frames := 6, cells := 0, slots := 0, locals := 100 }
set_option maxHeartbeats 4000000 in
set_option maxRecDepth 100000 in
theorem c_X2_needCircle (l : Launch) (dC : Nat → ClassId) (dI : Nat → Nat → Nat) (x0 pa ba ax ay sp ss vs fr : Nat) (pn bn ln sn : Nat) (hln : ln ≤ 20) (hc : 3 ≤ ln) : Met l yX2_needCircle (Cond.code yX2_needCircle cX2_needCircle 1 ((Option.none : Option Jvm.ClassFile.FieldType)) :: gw) rm_X2_needCircle (PcR [.ref x0] (dC, dI) vwCl [(x0, .inr (2, [.ref pa, .int (zi ((pn : Int))), .ref ba, .int (zi ((bn : Int))), .ref ax, .ref ay, .int (zi ((ln : Int))), .ref sp, .ref ss, .int (zi ((sn : Int))), .ref vs, .ref fr]))] []) (RdQ (none)) 0 0 (fun _ => False) := by
  refine Met.ofW (cc := cX2_needCircle) (maxL := 1) (ret := ((Option.none : Option Jvm.ClassFile.FieldType))) (by decide) rfl ?_
  intro p e s m args below meth c s₁ B hml hv
  obtain ⟨hargs, hP, hK⟩ := hv
  have hx := B.exec
  have hb := B.bytes
  have hr := B.returns
  have hts := atoms_spec (ws := Cond.code yX2_needCircle cX2_needCircle 1 ((Option.none : Option Jvm.ClassFile.FieldType)) :: gw) B.pre
  have hg : ∀ w ∈ gw, w.before args s = true := fun w h => hts w (List.mem_cons_of_mem _ h)
  have hown : s.vm.findClass RX2 = some m.cls := findClass_of_methodNamed B.named
  have hlocks := B.notSynchronized
  show W p l e rm_X2_needCircle s m args below meth c s.heap [] 0 0 _ _
  have hl := lv_entry ([.ref x0]) (n := 1) (Nat.le_of_ble_eq_true rfl)
  rw [show entryFrame m args 1 = entryFrame m ([.ref x0] : List Value).toArray 1 by rw [hargs], lg_entry_eq]
  generalize (lg_sl ([.ref x0]) ++ List.replicate (1 - (lg_sl ([.ref x0])).length) Slot.unset).toArray = ls at hl ⊢
  have hl : lv_has ls 1 [(0, .ref x0)] := hl
  obtain ⟨QQ, hQQ⟩ : ∃ Q, Q = MQ below (RdQ (none)) args s 0 0 (fun _ => False) := ⟨_, rfl⟩
  rw [← hQQ]
  refine lv_aload_n hx hb dX2_needCircle_0 rfl (lv_at hl 0 rfl) ?_
  refine va_get (D := (dC, dI)) (ci := 2) (v := .int (zi ((ln : Int)))) (C := RX2) (T := TX2) (N := 12) hx hb hg inX2 hown hK hP 0 rfl rfl 6 (by decide) (hg _ wl_X2_150) (fun _ h9 => h9) rfl dX2_needCircle_1 ?_
  refine lv_iconst (v := zi (3)) hx hb dX2_needCircle_4 rfl ?_
  refine zz_icmp_ge (tgt := 18) hx hb (by omega) (by omega) dX2_needCircle_5 (by decide) (fun c_5 => ?_) (fun c_5 => ?_)
  · rw [hQQ]
    exact rd_v hx hb hr hlocks dX2_needCircle_18
  · exact False.elim (by omega)

abbrev rt_X2_needCircle : Room := { frames := 6, cells := 1, slots := 6, locals := 100 }
set_option maxHeartbeats 4000000 in
set_option maxRecDepth 100000 in
theorem t_X2_needCircle (l : Launch) (hl0 : l.stackTraces = false) (dC : Nat → ClassId) (dI : Nat → Nat → Nat) (x0 pa ba ax ay sp ss vs fr : Nat) (pn bn ln sn : Nat) (hln : ln ≤ 20) (hbad : ¬ 3 ≤ ln) : ThM l yX2_needCircle cX2_needCircle 1 ((Option.none : Option Jvm.ClassFile.FieldType)) rt_X2_needCircle (PcT [.ref x0] (dC, dI) vwCl [(x0, .inr (2, [.ref pa, .int (zi ((pn : Int))), .ref ba, .int (zi ((bn : Int))), .ref ax, .ref ay, .int (zi ((ln : Int))), .ref sp, .ref ss, .int (zi ((sn : Int))), .ref vs, .ref fr]))] []) KS := by
  refine vx_ofW (cc := cX2_needCircle) (maxL := 1) (ret := ((Option.none : Option Jvm.ClassFile.FieldType))) (by decide) rfl ?_
  intro p e s m args below meth c s₁ B hml hno hv
  obtain ⟨hargs, hP, hK, hE⟩ := hv
  have hx := B.exec
  have hb := B.bytes
  have hr := B.returns
  have hts := atoms_spec (ws := Cond.code yX2_needCircle cX2_needCircle 1 ((Option.none : Option Jvm.ClassFile.FieldType)) :: gw) B.pre
  have hg : ∀ w ∈ gw, w.before args s = true := fun w h => hts w (List.mem_cons_of_mem _ h)
  have hown : s.vm.findClass RX2 = some m.cls := findClass_of_methodNamed B.named
  have hlocks := B.notSynchronized
  show W p l e rt_X2_needCircle s m args below meth c s.heap [] 0 0 _ _
  have hl := lv_entry ([.ref x0]) (n := 1) (Nat.le_of_ble_eq_true rfl)
  rw [show entryFrame m args 1 = entryFrame m ([.ref x0] : List Value).toArray 1 by rw [hargs], lg_entry_eq]
  generalize (lg_sl ([.ref x0]) ++ List.replicate (1 - (lg_sl ([.ref x0])).length) Slot.unset).toArray = ls at hl ⊢
  have hl : lv_has ls 1 [(0, .ref x0)] := hl
  obtain ⟨QQ, hQQ⟩ : ∃ Q, Q = vx_MQ below QF (XK KS) args s 1 6 (fun _ => False) := ⟨_, rfl⟩
  rw [← hQQ]
  refine lv_aload_n hx hb dX2_needCircle_0 rfl (lv_at hl 0 rfl) ?_
  refine va_get (D := (dC, dI)) (ci := 2) (v := .int (zi ((ln : Int)))) (C := RX2) (T := TX2) (N := 12) hx hb hg inX2 hown hK hP 0 rfl rfl 6 (by decide) (hg _ wl_X2_150) (fun _ h9 => h9) rfl dX2_needCircle_1 ?_
  refine lv_iconst (v := zi (3)) hx hb dX2_needCircle_4 rfl ?_
  refine zz_icmp_ge (tgt := 18) hx hb (by omega) (by omega) dX2_needCircle_5 (by decide) (fun c_5 => ?_) (fun c_5 => ?_)
  · exact False.elim (by omega)
  · rw [hQQ]
    exact thr (K := KS) hx hb hl0 hown hE (by decide +kernel) (hg _ wl_X2_45) (hg _ wi_IllegalStateException) (by decide) (xh_S hg hE) xh_ot.2.2 hml hl.1 dX2_needCircle_8 dX2_needCircle_11 dX2_needCircle_12 dX2_needCircle_14 dX2_needCircle_17 hno hlocks (Nat.le_of_ble_eq_true rfl) (Nat.le_of_ble_eq_true rfl) (Nat.le_of_ble_eq_true rfl) (Nat.le_of_ble_eq_true rfl)
end
