def gw : List Cond := lw_tbl.filter goodWord
theorem gw_t {w : Cond} {k : Nat} (h : tables_1[k]? = some w) (hg : goodWord w = true) : w ∈ gw := List.mem_filter.mpr ⟨List.mem_append_right _ (List.mem_of_getElem? h), hg⟩
theorem gw_t1 {w : Cond} {k : Nat} (h : tables_1_1[k]? = some w) (hg : goodWord w = true) : w ∈ gw := List.mem_filter.mpr ⟨List.mem_append_right _ (show w ∈ tables_1 from (List.mem_append_left _ (List.mem_of_getElem? h))), hg⟩
theorem gw_t2 {w : Cond} {k : Nat} (h : tables_1_2[k]? = some w) (hg : goodWord w = true) : w ∈ gw := List.mem_filter.mpr ⟨List.mem_append_right _ (show w ∈ tables_1 from (List.mem_append_right _ (List.mem_append_left _ (List.mem_of_getElem? h)))), hg⟩
theorem gw_t3 {w : Cond} {k : Nat} (h : tables_1_3[k]? = some w) (hg : goodWord w = true) : w ∈ gw := List.mem_filter.mpr ⟨List.mem_append_right _ (show w ∈ tables_1 from (List.mem_append_right _ (List.mem_append_right _ (List.mem_append_left _ (List.mem_of_getElem? h))))), hg⟩
theorem gw_t4 {w : Cond} {k : Nat} (h : tables_1_4[k]? = some w) (hg : goodWord w = true) : w ∈ gw := List.mem_filter.mpr ⟨List.mem_append_right _ (show w ∈ tables_1 from (List.mem_append_right _ (List.mem_append_right _ (List.mem_append_right _ (List.mem_of_getElem? h))))), hg⟩
theorem gw_s {w : Cond} {k : Nat} (h : (k2_sels lw_privs)[k]? = some w) (hg : goodWord w = true) : w ∈ gw := List.mem_filter.mpr ⟨List.mem_append_left _ (List.mem_of_getElem? h), hg⟩
theorem wi_L : (Jvm.Cond.initialized "PotVolumesLaw") ∈ gw := gw_t1 (k := 0) rfl rfl
theorem wi_X2 : (Jvm.Cond.initialized "PotVolumes") ∈ gw := gw_t1 (k := 1) rfl rfl
theorem wi_X0 : (Jvm.Cond.initialized "PotVolumes$Fraction") ∈ gw := gw_t1 (k := 2) rfl rfl
theorem wi_X3 : (Jvm.Cond.initialized "PotVolumesModel") ∈ gw := gw_t1 (k := 3) rfl rfl
theorem wi_Throwable : (Jvm.Cond.initialized "java/lang/Throwable") ∈ gw := gw_t1 (k := 4) rfl rfl
theorem wi_Exception : (Jvm.Cond.initialized "java/lang/Exception") ∈ gw := gw_t1 (k := 5) rfl rfl
theorem wi_RuntimeException : (Jvm.Cond.initialized "java/lang/RuntimeException") ∈ gw := gw_t1 (k := 6) rfl rfl
theorem wi_IllegalStateException : (Jvm.Cond.initialized "java/lang/IllegalStateException") ∈ gw := gw_t1 (k := 7) rfl rfl
theorem wi_X1 : (Jvm.Cond.initialized "PotVolumes$Profile") ∈ gw := gw_t1 (k := 8) rfl rfl
theorem wi_IndexOutOfBoundsException : (Jvm.Cond.initialized "java/lang/IndexOutOfBoundsException") ∈ gw := gw_t1 (k := 9) rfl rfl
theorem wi_IllegalArgumentException : (Jvm.Cond.initialized "java/lang/IllegalArgumentException") ∈ gw := gw_t1 (k := 10) rfl rfl
theorem wi_Math : (Jvm.Cond.initialized "java/lang/Math") ∈ gw := gw_t1 (k := 11) rfl rfl
theorem wl_L_8 : (Jvm.Cond.classLink "PotVolumesLaw" (8 : Nat) "PotVolumes") ∈ gw := gw_t1 (k := 12) rfl rfl
theorem wn_X2 : (Jvm.Cond.instantiable "PotVolumes" (12 : Nat)) ∈ gw := gw_t1 (k := 13) rfl rfl
theorem wl_L_81 : (Jvm.Cond.methodLink "PotVolumesLaw" (81 : Nat) ({ cls := "PotVolumes", name := "<init>", desc := "()V" } : Jvm.MethodName)) ∈ gw := gw_t1 (k := 14) rfl rfl
theorem wm_X2_init : (Jvm.Cond.instanceMethod ({ cls := "PotVolumes", name := "<init>", desc := "()V" } : Jvm.MethodName)) ∈ gw := gw_t1 (k := 15) rfl rfl
theorem wc_X2_init : (Jvm.Cond.code ({ cls := "PotVolumes", name := "<init>", desc := "()V" } : Jvm.MethodName) prog_1_method_1_code (1 : Nat) (Option.none : Option Jvm.ClassFile.FieldType)) ∈ gw := gw_t1 (k := 16) rfl rfl
theorem wl_X2_1 : (Jvm.Cond.methodLink "PotVolumes" (1 : Nat) ({ cls := "java/lang/Object", name := "<init>", desc := "()V" } : Jvm.MethodName)) ∈ gw := gw_t1 (k := 17) rfl rfl
theorem wm_Object_init__V : (Jvm.Cond.instanceMethod ({ cls := "java/lang/Object", name := "<init>", desc := "()V" } : Jvm.MethodName)) ∈ gw := gw_t1 (k := 18) rfl rfl
theorem wc_Object_init__V : (Jvm.Cond.code ({ cls := "java/lang/Object", name := "<init>", desc := "()V" } : Jvm.MethodName) object_method_1_code (1 : Nat) (Option.none : Option Jvm.ClassFile.FieldType)) ∈ gw := gw_t1 (k := 19) rfl rfl
theorem wl_X2_9 : (Jvm.Cond.classLink "PotVolumes" (9 : Nat) "PotVolumes$Profile") ∈ gw := gw_t1 (k := 20) rfl rfl
theorem wl_X2_34 : (Jvm.Cond.classLink "PotVolumes" (34 : Nat) "PotVolumes$Fraction") ∈ gw := gw_t1 (k := 22) rfl rfl
theorem wn_X0 : (Jvm.Cond.instantiable "PotVolumes$Fraction" (2 : Nat)) ∈ gw := gw_t1 (k := 23) rfl rfl
theorem wm_X0_init : (Jvm.Cond.instanceMethod ({ cls := "PotVolumes$Fraction", name := "<init>", desc := "()V" } : Jvm.MethodName)) ∈ gw := gw_t1 (k := 25) rfl rfl
theorem wc_X0_init : (Jvm.Cond.code ({ cls := "PotVolumes$Fraction", name := "<init>", desc := "()V" } : Jvm.MethodName) prog_2_method_1_code (1 : Nat) (Option.none : Option Jvm.ClassFile.FieldType)) ∈ gw := gw_t1 (k := 26) rfl rfl
theorem wl_X0_3 : (Jvm.Cond.methodLink "PotVolumes$Fraction" (3 : Nat) ({ cls := "java/lang/Object", name := "<init>", desc := "()V" } : Jvm.MethodName)) ∈ gw := gw_t1 (k := 27) rfl rfl
theorem wl_X0_15 : (Jvm.Cond.fieldLink "PotVolumes$Fraction" (15 : Nat) "PotVolumes$Fraction" "above" "J") ∈ gw := gw_t1 (k := 28) rfl rfl
theorem wl_X0_9 : (Jvm.Cond.fieldLink "PotVolumes$Fraction" (9 : Nat) "PotVolumes$Fraction" "below" "J") ∈ gw := gw_t1 (k := 29) rfl rfl
theorem wf_X0_above : (Jvm.Cond.lays "PotVolumes$Fraction" "PotVolumes$Fraction" "above" "J") ∈ gw := gw_t1 (k := 30) rfl rfl
theorem wf_X0_below : (Jvm.Cond.lays "PotVolumes$Fraction" "PotVolumes$Fraction" "below" "J") ∈ gw := gw_t1 (k := 32) rfl rfl
theorem wa_int : (Jvm.Cond.arrayClass Jvm.ClassFile.FieldType.int) ∈ gw := gw_t1 (k := 35) rfl rfl
theorem wl_X2_11 : (Jvm.Cond.fieldLink "PotVolumes" (11 : Nat) "PotVolumes" "profiles" "[LPotVolumes$Profile;") ∈ gw := gw_t1 (k := 36) rfl rfl
theorem wl_X2_41 : (Jvm.Cond.fieldLink "PotVolumes" (41 : Nat) "PotVolumes" "profileCount" "I") ∈ gw := gw_t1 (k := 37) rfl rfl
theorem wl_X2_15 : (Jvm.Cond.fieldLink "PotVolumes" (15 : Nat) "PotVolumes" "bounds" "[I") ∈ gw := gw_t1 (k := 38) rfl rfl
theorem wl_X2_143 : (Jvm.Cond.fieldLink "PotVolumes" (143 : Nat) "PotVolumes" "boundCount" "I") ∈ gw := gw_t1 (k := 39) rfl rfl
theorem wl_X2_19 : (Jvm.Cond.fieldLink "PotVolumes" (19 : Nat) "PotVolumes" "placesAcross" "[I") ∈ gw := gw_t1 (k := 40) rfl rfl
theorem wl_X2_22 : (Jvm.Cond.fieldLink "PotVolumes" (22 : Nat) "PotVolumes" "placesAlong" "[I") ∈ gw := gw_t1 (k := 41) rfl rfl
theorem wl_X2_150 : (Jvm.Cond.fieldLink "PotVolumes" (150 : Nat) "PotVolumes" "placeCount" "I") ∈ gw := gw_t1 (k := 42) rfl rfl
theorem wl_X2_25 : (Jvm.Cond.fieldLink "PotVolumes" (25 : Nat) "PotVolumes" "sherdProfiles" "[I") ∈ gw := gw_t1 (k := 43) rfl rfl
theorem wl_X2_28 : (Jvm.Cond.fieldLink "PotVolumes" (28 : Nat) "PotVolumes" "sherdShares" "[I") ∈ gw := gw_t1 (k := 44) rfl rfl
theorem wl_X2_173 : (Jvm.Cond.fieldLink "PotVolumes" (173 : Nat) "PotVolumes" "sherdCount" "I") ∈ gw := gw_t1 (k := 45) rfl rfl
theorem wl_X2_31 : (Jvm.Cond.fieldLink "PotVolumes" (31 : Nat) "PotVolumes" "vesselShares" "[I") ∈ gw := gw_t1 (k := 46) rfl rfl
theorem wl_X2_37 : (Jvm.Cond.fieldLink "PotVolumes" (37 : Nat) "PotVolumes" "fraction" "LPotVolumes$Fraction;") ∈ gw := gw_t1 (k := 47) rfl rfl
theorem wf_X2_profiles : (Jvm.Cond.laysFinal "PotVolumes" "PotVolumes" "profiles" "[LPotVolumes$Profile;") ∈ gw := gw_t1 (k := 48) rfl rfl
theorem wf_X2_profileCount : (Jvm.Cond.lays "PotVolumes" "PotVolumes" "profileCount" "I") ∈ gw := gw_t1 (k := 50) rfl rfl
theorem wf_X2_bounds : (Jvm.Cond.laysFinal "PotVolumes" "PotVolumes" "bounds" "[I") ∈ gw := gw_t1 (k := 52) rfl rfl
theorem wf_X2_boundCount : (Jvm.Cond.lays "PotVolumes" "PotVolumes" "boundCount" "I") ∈ gw := gw_t1 (k := 54) rfl rfl
theorem wf_X2_placesAcross : (Jvm.Cond.laysFinal "PotVolumes" "PotVolumes" "placesAcross" "[I") ∈ gw := gw_t1 (k := 56) rfl rfl
theorem wf_X2_placesAlong : (Jvm.Cond.laysFinal "PotVolumes" "PotVolumes" "placesAlong" "[I") ∈ gw := gw_t1 (k := 58) rfl rfl
theorem wf_X2_placeCount : (Jvm.Cond.lays "PotVolumes" "PotVolumes" "placeCount" "I") ∈ gw := gw_t1 (k := 60) rfl rfl
theorem wf_X2_sherdProfiles : (Jvm.Cond.laysFinal "PotVolumes" "PotVolumes" "sherdProfiles" "[I") ∈ gw := gw_t1 (k := 62) rfl rfl
theorem wf_X2_sherdShares : (Jvm.Cond.laysFinal "PotVolumes" "PotVolumes" "sherdShares" "[I") ∈ gw := gw_t1 (k := 64) rfl rfl
theorem wf_X2_sherdCount : (Jvm.Cond.lays "PotVolumes" "PotVolumes" "sherdCount" "I") ∈ gw := gw_t1 (k := 66) rfl rfl
theorem wf_X2_vesselShares : (Jvm.Cond.laysFinal "PotVolumes" "PotVolumes" "vesselShares" "[I") ∈ gw := gw_t1 (k := 68) rfl rfl
theorem wf_X2_fraction : (Jvm.Cond.laysFinal "PotVolumes" "PotVolumes" "fraction" "LPotVolumes$Fraction;") ∈ gw := gw_t1 (k := 70) rfl rfl
theorem wl_L_136 : (Jvm.Cond.methodLink "PotVolumesLaw" (136 : Nat) ({ cls := "PotVolumes", name := "clear", desc := "()I" } : Jvm.MethodName)) ∈ gw := gw_t1 (k := 73) rfl rfl
theorem wm_X2_clear : (Jvm.Cond.instanceMethod ({ cls := "PotVolumes", name := "clear", desc := "()I" } : Jvm.MethodName)) ∈ gw := gw_t1 (k := 74) rfl rfl
theorem we_X2_clear : (Jvm.Cond.selects "PotVolumes" ({ cls := "PotVolumes", name := "clear", desc := "()I" } : Jvm.MethodName) ({ cls := "PotVolumes", name := "clear", desc := "()I" } : Jvm.MethodName)) ∈ gw := gw_t1 (k := 75) rfl rfl
theorem wc_X2_clear : (Jvm.Cond.code ({ cls := "PotVolumes", name := "clear", desc := "()I" } : Jvm.MethodName) prog_1_method_16_code (2 : Nat) (Option.some Jvm.ClassFile.FieldType.int)) ∈ gw := gw_t1 (k := 76) rfl rfl
theorem wl_L_85 : (Jvm.Cond.methodLink "PotVolumesLaw" (85 : Nat) ({ cls := "PotVolumesLaw", name := "profile", desc := "(LPotVolumes;[J)I" } : Jvm.MethodName)) ∈ gw := gw_t1 (k := 77) rfl rfl
theorem wt_L_profile : (Jvm.Cond.static ({ cls := "PotVolumesLaw", name := "profile", desc := "(LPotVolumes;[J)I" } : Jvm.MethodName)) ∈ gw := gw_t1 (k := 78) rfl rfl
theorem wc_L_profile : (Jvm.Cond.codeWith ({ cls := "PotVolumesLaw", name := "profile", desc := "(LPotVolumes;[J)I" } : Jvm.MethodName) method_3_code (3 : Nat) (Option.some Jvm.ClassFile.FieldType.int) [((0 : Nat), (8 : Nat), (11 : Nat), (13 : Nat))]) ∈ gw := gw_t1 (k := 79) rfl rfl
theorem wl_L_13 : (Jvm.Cond.classLink "PotVolumesLaw" (13 : Nat) "java/lang/IllegalStateException") ∈ gw := gw_t1 (k := 80) rfl rfl
theorem wl_L_7 : (Jvm.Cond.methodLink "PotVolumesLaw" (7 : Nat) ({ cls := "PotVolumes", name := "profile", desc := "()I" } : Jvm.MethodName)) ∈ gw := gw_t1 (k := 81) rfl rfl
theorem wm_X2_profile : (Jvm.Cond.instanceMethod ({ cls := "PotVolumes", name := "profile", desc := "()I" } : Jvm.MethodName)) ∈ gw := gw_t1 (k := 82) rfl rfl
theorem we_X2_profile : (Jvm.Cond.selects "PotVolumes" ({ cls := "PotVolumes", name := "profile", desc := "()I" } : Jvm.MethodName) ({ cls := "PotVolumes", name := "profile", desc := "()I" } : Jvm.MethodName)) ∈ gw := gw_t1 (k := 83) rfl rfl
theorem wc_X2_profile : (Jvm.Cond.code ({ cls := "PotVolumes", name := "profile", desc := "()I" } : Jvm.MethodName) prog_1_method_2_code (1 : Nat) (Option.some Jvm.ClassFile.FieldType.int)) ∈ gw := gw_t1 (k := 84) rfl rfl
theorem wl_X2_45 : (Jvm.Cond.classLink "PotVolumes" (45 : Nat) "java/lang/IllegalStateException") ∈ gw := gw_t1 (k := 85) rfl rfl
theorem wn_IllegalStateException : (Jvm.Cond.instantiable "java/lang/IllegalStateException" (6 : Nat)) ∈ gw := gw_t1 (k := 86) rfl rfl
theorem we_IllegalStateException_fillInStackTrace_I_Ljava_lang_Throwable_ : (Jvm.Cond.selects "java/lang/IllegalStateException" ({ cls := "java/lang/Throwable", name := "fillInStackTrace", desc := "(I)Ljava/lang/Throwable;" } : Jvm.MethodName) ({ cls := "java/lang/Throwable", name := "fillInStackTrace", desc := "(I)Ljava/lang/Throwable;" } : Jvm.MethodName)) ∈ gw := gw_t1 (k := 94) rfl rfl
theorem we_IllegalStateException_fillInStackTrace__Ljava_lang_Throwable_ : (Jvm.Cond.selects "java/lang/IllegalStateException" ({ cls := "java/lang/Throwable", name := "fillInStackTrace", desc := "()Ljava/lang/Throwable;" } : Jvm.MethodName) ({ cls := "java/lang/Throwable", name := "fillInStackTrace", desc := "()Ljava/lang/Throwable;" } : Jvm.MethodName)) ∈ gw := gw_t1 (k := 95) rfl rfl
theorem wf_IllegalStateException_cause : (Jvm.Cond.lays "java/lang/IllegalStateException" "java/lang/Throwable" "cause" "Ljava/lang/Throwable;") ∈ gw := gw_t1 (k := 96) rfl rfl
theorem wf_Throwable_cause : (Jvm.Cond.lays "java/lang/Throwable" "java/lang/Throwable" "cause" "Ljava/lang/Throwable;") ∈ gw := gw_t1 (k := 97) rfl rfl
theorem wf_IllegalStateException_stackTrace : (Jvm.Cond.lays "java/lang/IllegalStateException" "java/lang/Throwable" "stackTrace" "[Ljava/lang/StackTraceElement;") ∈ gw := gw_t1 (k := 98) rfl rfl
theorem wf_Throwable_stackTrace : (Jvm.Cond.lays "java/lang/Throwable" "java/lang/Throwable" "stackTrace" "[Ljava/lang/StackTraceElement;") ∈ gw := gw_t1 (k := 99) rfl rfl
theorem wf_IllegalStateException_suppressedExceptions : (Jvm.Cond.lays "java/lang/IllegalStateException" "java/lang/Throwable" "suppressedExceptions" "Ljava/util/List;") ∈ gw := gw_t1 (k := 100) rfl rfl
theorem wf_Throwable_suppressedExceptions : (Jvm.Cond.lays "java/lang/Throwable" "java/lang/Throwable" "suppressedExceptions" "Ljava/util/List;") ∈ gw := gw_t1 (k := 101) rfl rfl
theorem wf_IllegalStateException_detailMessage : (Jvm.Cond.lays "java/lang/IllegalStateException" "java/lang/Throwable" "detailMessage" "Ljava/lang/String;") ∈ gw := gw_t1 (k := 102) rfl rfl
theorem wf_Throwable_detailMessage : (Jvm.Cond.lays "java/lang/Throwable" "java/lang/Throwable" "detailMessage" "Ljava/lang/String;") ∈ gw := gw_t1 (k := 103) rfl rfl
theorem wf_IllegalStateException_backtrace : (Jvm.Cond.lays "java/lang/IllegalStateException" "java/lang/Throwable" "backtrace" "Ljava/lang/Object;") ∈ gw := gw_t1 (k := 104) rfl rfl
theorem wf_Throwable_backtrace : (Jvm.Cond.lays "java/lang/Throwable" "java/lang/Throwable" "backtrace" "Ljava/lang/Object;") ∈ gw := gw_t1 (k := 105) rfl rfl
theorem wl_Throwable_198 : (Jvm.Cond.fieldLink "java/lang/Throwable" (198 : Nat) "java/lang/Throwable" "backtrace" "Ljava/lang/Object;") ∈ gw := gw_t1 (k := 106) rfl rfl
theorem wm_Throwable_init__V : (Jvm.Cond.instanceMethod ({ cls := "java/lang/Throwable", name := "<init>", desc := "()V" } : Jvm.MethodName)) ∈ gw := gw_t1 (k := 108) rfl rfl
theorem wc_Throwable_init__V : (Jvm.Cond.code ({ cls := "java/lang/Throwable", name := "<init>", desc := "()V" } : Jvm.MethodName) prog_13_method_1_code (1 : Nat) (Option.none : Option Jvm.ClassFile.FieldType)) ∈ gw := gw_t1 (k := 109) rfl rfl
theorem wl_Throwable_1 : (Jvm.Cond.methodLink "java/lang/Throwable" (1 : Nat) ({ cls := "java/lang/Object", name := "<init>", desc := "()V" } : Jvm.MethodName)) ∈ gw := gw_t1 (k := 110) rfl rfl
theorem wl_Throwable_13 : (Jvm.Cond.fieldLink "java/lang/Throwable" (13 : Nat) "java/lang/Throwable" "UNASSIGNED_STACK" "[Ljava/lang/StackTraceElement;") ∈ gw := gw_t1 (k := 111) rfl rfl
theorem wl_Throwable_20 : (Jvm.Cond.fieldLink "java/lang/Throwable" (20 : Nat) "java/lang/Throwable" "SUPPRESSED_SENTINEL" "Ljava/util/List;") ∈ gw := gw_t1 (k := 113) rfl rfl
theorem wl_Throwable_27 : (Jvm.Cond.methodLink "java/lang/Throwable" (27 : Nat) ({ cls := "java/lang/Throwable", name := "fillInStackTrace", desc := "()Ljava/lang/Throwable;" } : Jvm.MethodName)) ∈ gw := gw_t1 (k := 115) rfl rfl
theorem wm_Throwable_fillInStackTrace__Ljava_lang_Throwable_ : (Jvm.Cond.instanceMethod ({ cls := "java/lang/Throwable", name := "fillInStackTrace", desc := "()Ljava/lang/Throwable;" } : Jvm.MethodName)) ∈ gw := gw_t1 (k := 116) rfl rfl
theorem we_IllegalArgumentException_fillInStackTrace__Ljava_lang_Throwable_ : (Jvm.Cond.selects "java/lang/IllegalArgumentException" ({ cls := "java/lang/Throwable", name := "fillInStackTrace", desc := "()Ljava/lang/Throwable;" } : Jvm.MethodName) ({ cls := "java/lang/Throwable", name := "fillInStackTrace", desc := "()Ljava/lang/Throwable;" } : Jvm.MethodName)) ∈ gw := gw_t1 (k := 118) rfl rfl
theorem we_IndexOutOfBoundsException_fillInStackTrace__Ljava_lang_Throwable_ : (Jvm.Cond.selects "java/lang/IndexOutOfBoundsException" ({ cls := "java/lang/Throwable", name := "fillInStackTrace", desc := "()Ljava/lang/Throwable;" } : Jvm.MethodName) ({ cls := "java/lang/Throwable", name := "fillInStackTrace", desc := "()Ljava/lang/Throwable;" } : Jvm.MethodName)) ∈ gw := gw_t1 (k := 119) rfl rfl
theorem wl_Throwable_202 : (Jvm.Cond.methodLink "java/lang/Throwable" (202 : Nat) ({ cls := "java/lang/Throwable", name := "fillInStackTrace", desc := "(I)Ljava/lang/Throwable;" } : Jvm.MethodName)) ∈ gw := gw_t1 (k := 121) rfl rfl
theorem wm_Throwable_fillInStackTrace_I_Ljava_lang_Throwable_ : (Jvm.Cond.instanceMethod ({ cls := "java/lang/Throwable", name := "fillInStackTrace", desc := "(I)Ljava/lang/Throwable;" } : Jvm.MethodName)) ∈ gw := gw_t1 (k := 123) rfl rfl
theorem wn_Throwable : (Jvm.Cond.instantiable "java/lang/Throwable" (6 : Nat)) ∈ gw := gw_t1 (k := 124) rfl rfl
theorem wl_X2_49 : (Jvm.Cond.methodLink "PotVolumes" (49 : Nat) ({ cls := "java/lang/IllegalStateException", name := "<init>", desc := "(Ljava/lang/String;)V" } : Jvm.MethodName)) ∈ gw := gw_t1 (k := 127) rfl rfl
theorem wm_IllegalStateException_init_Ljava_lang_String__V : (Jvm.Cond.instanceMethod ({ cls := "java/lang/IllegalStateException", name := "<init>", desc := "(Ljava/lang/String;)V" } : Jvm.MethodName)) ∈ gw := gw_t1 (k := 128) rfl rfl
theorem wc_IllegalStateException_init_Ljava_lang_String__V : (Jvm.Cond.code ({ cls := "java/lang/IllegalStateException", name := "<init>", desc := "(Ljava/lang/String;)V" } : Jvm.MethodName) prog_8_method_2_code (2 : Nat) (Option.none : Option Jvm.ClassFile.FieldType)) ∈ gw := gw_t1 (k := 129) rfl rfl
theorem wl_IllegalStateException_7 : (Jvm.Cond.methodLink "java/lang/IllegalStateException" (7 : Nat) ({ cls := "java/lang/RuntimeException", name := "<init>", desc := "(Ljava/lang/String;)V" } : Jvm.MethodName)) ∈ gw := gw_t1 (k := 130) rfl rfl
theorem wm_RuntimeException_init_Ljava_lang_String__V : (Jvm.Cond.instanceMethod ({ cls := "java/lang/RuntimeException", name := "<init>", desc := "(Ljava/lang/String;)V" } : Jvm.MethodName)) ∈ gw := gw_t1 (k := 131) rfl rfl
theorem wc_RuntimeException_init_Ljava_lang_String__V : (Jvm.Cond.code ({ cls := "java/lang/RuntimeException", name := "<init>", desc := "(Ljava/lang/String;)V" } : Jvm.MethodName) prog_11_method_2_code (2 : Nat) (Option.none : Option Jvm.ClassFile.FieldType)) ∈ gw := gw_t1 (k := 132) rfl rfl
theorem wl_RuntimeException_7 : (Jvm.Cond.methodLink "java/lang/RuntimeException" (7 : Nat) ({ cls := "java/lang/Exception", name := "<init>", desc := "(Ljava/lang/String;)V" } : Jvm.MethodName)) ∈ gw := gw_t1 (k := 133) rfl rfl
theorem wm_Exception_init_Ljava_lang_String__V : (Jvm.Cond.instanceMethod ({ cls := "java/lang/Exception", name := "<init>", desc := "(Ljava/lang/String;)V" } : Jvm.MethodName)) ∈ gw := gw_t1 (k := 134) rfl rfl
theorem wc_Exception_init_Ljava_lang_String__V : (Jvm.Cond.code ({ cls := "java/lang/Exception", name := "<init>", desc := "(Ljava/lang/String;)V" } : Jvm.MethodName) prog_6_method_2_code (2 : Nat) (Option.none : Option Jvm.ClassFile.FieldType)) ∈ gw := gw_t1 (k := 135) rfl rfl
theorem wl_Exception_7 : (Jvm.Cond.methodLink "java/lang/Exception" (7 : Nat) ({ cls := "java/lang/Throwable", name := "<init>", desc := "(Ljava/lang/String;)V" } : Jvm.MethodName)) ∈ gw := gw_t1 (k := 136) rfl rfl
theorem wm_Throwable_init_Ljava_lang_String__V : (Jvm.Cond.instanceMethod ({ cls := "java/lang/Throwable", name := "<init>", desc := "(Ljava/lang/String;)V" } : Jvm.MethodName)) ∈ gw := gw_t1 (k := 137) rfl rfl
theorem wc_Throwable_init_Ljava_lang_String__V : (Jvm.Cond.code ({ cls := "java/lang/Throwable", name := "<init>", desc := "(Ljava/lang/String;)V" } : Jvm.MethodName) prog_13_method_2_code (2 : Nat) (Option.none : Option Jvm.ClassFile.FieldType)) ∈ gw := gw_t1 (k := 138) rfl rfl
theorem wl_Throwable_31 : (Jvm.Cond.fieldLink "java/lang/Throwable" (31 : Nat) "java/lang/Throwable" "detailMessage" "Ljava/lang/String;") ∈ gw := gw_t1 (k := 140) rfl rfl
theorem wl_Throwable_7 : (Jvm.Cond.fieldLink "java/lang/Throwable" (7 : Nat) "java/lang/Throwable" "cause" "Ljava/lang/Throwable;") ∈ gw := gw_t1 (k := 141) rfl rfl
theorem wl_Throwable_17 : (Jvm.Cond.fieldLink "java/lang/Throwable" (17 : Nat) "java/lang/Throwable" "stackTrace" "[Ljava/lang/StackTraceElement;") ∈ gw := gw_t1 (k := 142) rfl rfl
theorem wl_Throwable_24 : (Jvm.Cond.fieldLink "java/lang/Throwable" (24 : Nat) "java/lang/Throwable" "suppressedExceptions" "Ljava/util/List;") ∈ gw := gw_t1 (k := 143) rfl rfl
theorem wf_IllegalStateException_depth : (Jvm.Cond.lays "java/lang/IllegalStateException" "java/lang/Throwable" "depth" "I") ∈ gw := gw_t1 (k := 148) rfl rfl
theorem wa_byte : (Jvm.Cond.arrayClass Jvm.ClassFile.FieldType.byte) ∈ gw := gw_t1 (k := 152) rfl rfl
theorem wn_X1 : (Jvm.Cond.instantiable "PotVolumes$Profile" (5 : Nat)) ∈ gw := gw_t1 (k := 153) rfl rfl
theorem wm_X1_init : (Jvm.Cond.instanceMethod ({ cls := "PotVolumes$Profile", name := "<init>", desc := "()V" } : Jvm.MethodName)) ∈ gw := gw_t1 (k := 155) rfl rfl
theorem wc_X1_init : (Jvm.Cond.code ({ cls := "PotVolumes$Profile", name := "<init>", desc := "()V" } : Jvm.MethodName) prog_3_method_1_code (1 : Nat) (Option.none : Option Jvm.ClassFile.FieldType)) ∈ gw := gw_t1 (k := 156) rfl rfl
theorem wl_X1_3 : (Jvm.Cond.methodLink "PotVolumes$Profile" (3 : Nat) ({ cls := "java/lang/Object", name := "<init>", desc := "()V" } : Jvm.MethodName)) ∈ gw := gw_t1 (k := 157) rfl rfl
theorem wl_X1_9 : (Jvm.Cond.fieldLink "PotVolumes$Profile" (9 : Nat) "PotVolumes$Profile" "heights" "[I") ∈ gw := gw_t1 (k := 158) rfl rfl
theorem wl_X2_86 : (Jvm.Cond.fieldLink "PotVolumes" (86 : Nat) "PotVolumes$Profile" "heights" "[I") ∈ gw := gw_t1 (k := 159) rfl rfl
theorem wl_X1_15 : (Jvm.Cond.fieldLink "PotVolumes$Profile" (15 : Nat) "PotVolumes$Profile" "radiuses" "[I") ∈ gw := gw_t1 (k := 160) rfl rfl
theorem wl_X2_89 : (Jvm.Cond.fieldLink "PotVolumes" (89 : Nat) "PotVolumes$Profile" "radiuses" "[I") ∈ gw := gw_t1 (k := 161) rfl rfl
theorem wl_X1_22 : (Jvm.Cond.fieldLink "PotVolumes$Profile" (22 : Nat) "PotVolumes$Profile" "cornerCount" "I") ∈ gw := gw_t1 (k := 162) rfl rfl
theorem wl_X2_78 : (Jvm.Cond.fieldLink "PotVolumes" (78 : Nat) "PotVolumes$Profile" "cornerCount" "I") ∈ gw := gw_t1 (k := 163) rfl rfl
theorem wl_X1_57 : (Jvm.Cond.fieldLink "PotVolumes$Profile" (57 : Nat) "PotVolumes$Profile" "thickness" "I") ∈ gw := gw_t1 (k := 164) rfl rfl
theorem wl_X2_116 : (Jvm.Cond.fieldLink "PotVolumes" (116 : Nat) "PotVolumes$Profile" "thickness" "I") ∈ gw := gw_t1 (k := 165) rfl rfl
theorem wl_X1_18 : (Jvm.Cond.fieldLink "PotVolumes$Profile" (18 : Nat) "PotVolumes$Profile" "wasCut" "Z") ∈ gw := gw_t1 (k := 166) rfl rfl
theorem wf_X1_heights : (Jvm.Cond.laysFinal "PotVolumes$Profile" "PotVolumes$Profile" "heights" "[I") ∈ gw := gw_t1 (k := 167) rfl rfl
theorem wf_X1_radiuses : (Jvm.Cond.laysFinal "PotVolumes$Profile" "PotVolumes$Profile" "radiuses" "[I") ∈ gw := gw_t1 (k := 169) rfl rfl
theorem wf_X1_cornerCount : (Jvm.Cond.lays "PotVolumes$Profile" "PotVolumes$Profile" "cornerCount" "I") ∈ gw := gw_t1 (k := 171) rfl rfl
theorem wf_X1_thickness : (Jvm.Cond.lays "PotVolumes$Profile" "PotVolumes$Profile" "thickness" "I") ∈ gw := gw_t1 (k := 173) rfl rfl
theorem wf_X1_wasCut : (Jvm.Cond.lays "PotVolumes$Profile" "PotVolumes$Profile" "wasCut" "Z") ∈ gw := gw_t1 (k := 175) rfl rfl
theorem wl_L_94 : (Jvm.Cond.methodLink "PotVolumesLaw" (94 : Nat) ({ cls := "PotVolumesLaw", name := "corner", desc := "(LPotVolumes;III[J)I" } : Jvm.MethodName)) ∈ gw := gw_t1 (k := 178) rfl rfl
theorem wt_L_corner : (Jvm.Cond.static ({ cls := "PotVolumesLaw", name := "corner", desc := "(LPotVolumes;III[J)I" } : Jvm.MethodName)) ∈ gw := gw_t1 (k := 179) rfl rfl
theorem wc_L_corner : (Jvm.Cond.codeWith ({ cls := "PotVolumesLaw", name := "corner", desc := "(LPotVolumes;III[J)I" } : Jvm.MethodName) method_4_code (6 : Nat) (Option.some Jvm.ClassFile.FieldType.int) [((0 : Nat), (19 : Nat), (22 : Nat), (19 : Nat)), ((0 : Nat), (19 : Nat), (26 : Nat), (21 : Nat)), ((0 : Nat), (19 : Nat), (30 : Nat), (13 : Nat))]) ∈ gw := gw_t1 (k := 180) rfl rfl
theorem wl_L_19 : (Jvm.Cond.classLink "PotVolumesLaw" (19 : Nat) "java/lang/IndexOutOfBoundsException") ∈ gw := gw_t1 (k := 181) rfl rfl
theorem wl_L_21 : (Jvm.Cond.classLink "PotVolumesLaw" (21 : Nat) "java/lang/IllegalArgumentException") ∈ gw := gw_t1 (k := 182) rfl rfl
theorem wl_L_15 : (Jvm.Cond.methodLink "PotVolumesLaw" (15 : Nat) ({ cls := "PotVolumes", name := "corner", desc := "(III)Z" } : Jvm.MethodName)) ∈ gw := gw_t1 (k := 183) rfl rfl
theorem wm_X2_corner : (Jvm.Cond.instanceMethod ({ cls := "PotVolumes", name := "corner", desc := "(III)Z" } : Jvm.MethodName)) ∈ gw := gw_t1 (k := 184) rfl rfl
theorem we_X2_corner : (Jvm.Cond.selects "PotVolumes" ({ cls := "PotVolumes", name := "corner", desc := "(III)Z" } : Jvm.MethodName) ({ cls := "PotVolumes", name := "corner", desc := "(III)Z" } : Jvm.MethodName)) ∈ gw := gw_t1 (k := 185) rfl rfl
theorem wc_X2_corner : (Jvm.Cond.code ({ cls := "PotVolumes", name := "corner", desc := "(III)Z" } : Jvm.MethodName) prog_1_method_3_code (5 : Nat) (Option.some Jvm.ClassFile.FieldType.boolean)) ∈ gw := gw_t1 (k := 186) rfl rfl
theorem wl_X2_53 : (Jvm.Cond.methodLink "PotVolumes" (53 : Nat) ({ cls := "PotVolumes", name := "profileOf", desc := "(I)LPotVolumes$Profile;" } : Jvm.MethodName)) ∈ gw := gw_t1 (k := 187) rfl rfl
theorem wm_X2_profileOf : (Jvm.Cond.instanceMethod ({ cls := "PotVolumes", name := "profileOf", desc := "(I)LPotVolumes$Profile;" } : Jvm.MethodName)) ∈ gw := gw_t1 (k := 189) rfl rfl
theorem wc_X2_profileOf : (Jvm.Cond.code ({ cls := "PotVolumes", name := "profileOf", desc := "(I)LPotVolumes$Profile;" } : Jvm.MethodName) prog_1_method_22_code (3 : Nat) (Option.some (Jvm.ClassFile.FieldType.object "PotVolumes$Profile"))) ∈ gw := gw_t1 (k := 190) rfl rfl
theorem wl_X2_81 : (Jvm.Cond.classLink "PotVolumes" (81 : Nat) "java/lang/IndexOutOfBoundsException") ∈ gw := gw_t1 (k := 191) rfl rfl
theorem wn_IndexOutOfBoundsException : (Jvm.Cond.instantiable "java/lang/IndexOutOfBoundsException" (6 : Nat)) ∈ gw := gw_t1 (k := 192) rfl rfl
theorem we_IndexOutOfBoundsException_fillInStackTrace_I_Ljava_lang_Throwable_ : (Jvm.Cond.selects "java/lang/IndexOutOfBoundsException" ({ cls := "java/lang/Throwable", name := "fillInStackTrace", desc := "(I)Ljava/lang/Throwable;" } : Jvm.MethodName) ({ cls := "java/lang/Throwable", name := "fillInStackTrace", desc := "(I)Ljava/lang/Throwable;" } : Jvm.MethodName)) ∈ gw := gw_t1 (k := 194) rfl rfl
theorem wf_IndexOutOfBoundsException_cause : (Jvm.Cond.lays "java/lang/IndexOutOfBoundsException" "java/lang/Throwable" "cause" "Ljava/lang/Throwable;") ∈ gw := gw_t1 (k := 195) rfl rfl
theorem wf_IndexOutOfBoundsException_stackTrace : (Jvm.Cond.lays "java/lang/IndexOutOfBoundsException" "java/lang/Throwable" "stackTrace" "[Ljava/lang/StackTraceElement;") ∈ gw := gw_t1 (k := 196) rfl rfl
theorem wf_IndexOutOfBoundsException_suppressedExceptions : (Jvm.Cond.lays "java/lang/IndexOutOfBoundsException" "java/lang/Throwable" "suppressedExceptions" "Ljava/util/List;") ∈ gw := gw_t1 (k := 197) rfl rfl
theorem wf_IndexOutOfBoundsException_detailMessage : (Jvm.Cond.lays "java/lang/IndexOutOfBoundsException" "java/lang/Throwable" "detailMessage" "Ljava/lang/String;") ∈ gw := gw_t1 (k := 198) rfl rfl
theorem wf_IndexOutOfBoundsException_backtrace : (Jvm.Cond.lays "java/lang/IndexOutOfBoundsException" "java/lang/Throwable" "backtrace" "Ljava/lang/Object;") ∈ gw := gw_t1 (k := 199) rfl rfl
theorem wl_X2_85 : (Jvm.Cond.methodLink "PotVolumes" (85 : Nat) ({ cls := "java/lang/IndexOutOfBoundsException", name := "<init>", desc := "(Ljava/lang/String;)V" } : Jvm.MethodName)) ∈ gw := gw_t1 (k := 201) rfl rfl
theorem wm_IndexOutOfBoundsException_init_Ljava_lang_String__V : (Jvm.Cond.instanceMethod ({ cls := "java/lang/IndexOutOfBoundsException", name := "<init>", desc := "(Ljava/lang/String;)V" } : Jvm.MethodName)) ∈ gw := gw_t1 (k := 202) rfl rfl
theorem wc_IndexOutOfBoundsException_init_Ljava_lang_String__V : (Jvm.Cond.code ({ cls := "java/lang/IndexOutOfBoundsException", name := "<init>", desc := "(Ljava/lang/String;)V" } : Jvm.MethodName) prog_9_method_2_code (2 : Nat) (Option.none : Option Jvm.ClassFile.FieldType)) ∈ gw := gw_t1 (k := 203) rfl rfl
theorem wl_IndexOutOfBoundsException_7 : (Jvm.Cond.methodLink "java/lang/IndexOutOfBoundsException" (7 : Nat) ({ cls := "java/lang/RuntimeException", name := "<init>", desc := "(Ljava/lang/String;)V" } : Jvm.MethodName)) ∈ gw := gw_t1 (k := 204) rfl rfl
theorem wf_IndexOutOfBoundsException_depth : (Jvm.Cond.lays "java/lang/IndexOutOfBoundsException" "java/lang/Throwable" "depth" "I") ∈ gw := gw_t1 (k := 205) rfl rfl
theorem wl_X2_57 : (Jvm.Cond.classLink "PotVolumes" (57 : Nat) "java/lang/IllegalArgumentException") ∈ gw := gw_t1 (k := 207) rfl rfl
theorem wn_IllegalArgumentException : (Jvm.Cond.instantiable "java/lang/IllegalArgumentException" (6 : Nat)) ∈ gw := gw_t1 (k := 208) rfl rfl
theorem we_IllegalArgumentException_fillInStackTrace_I_Ljava_lang_Throwable_ : (Jvm.Cond.selects "java/lang/IllegalArgumentException" ({ cls := "java/lang/Throwable", name := "fillInStackTrace", desc := "(I)Ljava/lang/Throwable;" } : Jvm.MethodName) ({ cls := "java/lang/Throwable", name := "fillInStackTrace", desc := "(I)Ljava/lang/Throwable;" } : Jvm.MethodName)) ∈ gw := gw_t1 (k := 210) rfl rfl
theorem wf_IllegalArgumentException_cause : (Jvm.Cond.lays "java/lang/IllegalArgumentException" "java/lang/Throwable" "cause" "Ljava/lang/Throwable;") ∈ gw := gw_t1 (k := 211) rfl rfl
theorem wf_IllegalArgumentException_stackTrace : (Jvm.Cond.lays "java/lang/IllegalArgumentException" "java/lang/Throwable" "stackTrace" "[Ljava/lang/StackTraceElement;") ∈ gw := gw_t1 (k := 212) rfl rfl
theorem wf_IllegalArgumentException_suppressedExceptions : (Jvm.Cond.lays "java/lang/IllegalArgumentException" "java/lang/Throwable" "suppressedExceptions" "Ljava/util/List;") ∈ gw := gw_t1 (k := 213) rfl rfl
theorem wf_IllegalArgumentException_detailMessage : (Jvm.Cond.lays "java/lang/IllegalArgumentException" "java/lang/Throwable" "detailMessage" "Ljava/lang/String;") ∈ gw := gw_t1 (k := 214) rfl rfl
theorem wf_IllegalArgumentException_backtrace : (Jvm.Cond.lays "java/lang/IllegalArgumentException" "java/lang/Throwable" "backtrace" "Ljava/lang/Object;") ∈ gw := gw_t1 (k := 215) rfl rfl
theorem wl_X2_61 : (Jvm.Cond.methodLink "PotVolumes" (61 : Nat) ({ cls := "java/lang/IllegalArgumentException", name := "<init>", desc := "(Ljava/lang/String;)V" } : Jvm.MethodName)) ∈ gw := gw_t1 (k := 217) rfl rfl
theorem wm_IllegalArgumentException_init_Ljava_lang_String__V : (Jvm.Cond.instanceMethod ({ cls := "java/lang/IllegalArgumentException", name := "<init>", desc := "(Ljava/lang/String;)V" } : Jvm.MethodName)) ∈ gw := gw_t1 (k := 218) rfl rfl
theorem wc_IllegalArgumentException_init_Ljava_lang_String__V : (Jvm.Cond.code ({ cls := "java/lang/IllegalArgumentException", name := "<init>", desc := "(Ljava/lang/String;)V" } : Jvm.MethodName) prog_7_method_2_code (2 : Nat) (Option.none : Option Jvm.ClassFile.FieldType)) ∈ gw := gw_t1 (k := 219) rfl rfl
theorem wl_IllegalArgumentException_7 : (Jvm.Cond.methodLink "java/lang/IllegalArgumentException" (7 : Nat) ({ cls := "java/lang/RuntimeException", name := "<init>", desc := "(Ljava/lang/String;)V" } : Jvm.MethodName)) ∈ gw := gw_t1 (k := 220) rfl rfl
theorem wf_IllegalArgumentException_depth : (Jvm.Cond.lays "java/lang/IllegalArgumentException" "java/lang/Throwable" "depth" "I") ∈ gw := gw_t1 (k := 221) rfl rfl
theorem wl_X2_64 : (Jvm.Cond.methodLink "PotVolumes" (64 : Nat) ({ cls := "PotVolumes$Profile", name := "isClosed", desc := "()Z" } : Jvm.MethodName)) ∈ gw := gw_t1 (k := 224) rfl rfl
theorem wm_X1_isClosed : (Jvm.Cond.instanceMethod ({ cls := "PotVolumes$Profile", name := "isClosed", desc := "()Z" } : Jvm.MethodName)) ∈ gw := gw_t1 (k := 225) rfl rfl
theorem we_X1_isClosed : (Jvm.Cond.selects "PotVolumes$Profile" ({ cls := "PotVolumes$Profile", name := "isClosed", desc := "()Z" } : Jvm.MethodName) ({ cls := "PotVolumes$Profile", name := "isClosed", desc := "()Z" } : Jvm.MethodName)) ∈ gw := gw_t1 (k := 226) rfl rfl
theorem wc_X1_isClosed : (Jvm.Cond.code ({ cls := "PotVolumes$Profile", name := "isClosed", desc := "()Z" } : Jvm.MethodName) prog_3_method_2_code (1 : Nat) (Option.some Jvm.ClassFile.FieldType.boolean)) ∈ gw := gw_t1 (k := 227) rfl rfl
theorem wl_X2_70 : (Jvm.Cond.methodLink "PotVolumes" (70 : Nat) ({ cls := "PotVolumes$Profile", name := "addCorner", desc := "(II)Z" } : Jvm.MethodName)) ∈ gw := gw_t1 (k := 229) rfl rfl
theorem wm_X1_addCorner : (Jvm.Cond.instanceMethod ({ cls := "PotVolumes$Profile", name := "addCorner", desc := "(II)Z" } : Jvm.MethodName)) ∈ gw := gw_t1 (k := 230) rfl rfl
theorem we_X1_addCorner : (Jvm.Cond.selects "PotVolumes$Profile" ({ cls := "PotVolumes$Profile", name := "addCorner", desc := "(II)Z" } : Jvm.MethodName) ({ cls := "PotVolumes$Profile", name := "addCorner", desc := "(II)Z" } : Jvm.MethodName)) ∈ gw := gw_t1 (k := 231) rfl rfl
theorem wc_X1_addCorner : (Jvm.Cond.code ({ cls := "PotVolumes$Profile", name := "addCorner", desc := "(II)Z" } : Jvm.MethodName) prog_3_method_3_code (3 : Nat) (Option.some Jvm.ClassFile.FieldType.boolean)) ∈ gw := gw_t1 (k := 232) rfl rfl
theorem wl_X1_26 : (Jvm.Cond.methodLink "PotVolumes$Profile" (26 : Nat) ({ cls := "PotVolumes$Profile", name := "isClosed", desc := "()Z" } : Jvm.MethodName)) ∈ gw := gw_t1 (k := 233) rfl rfl
theorem wl_X1_30 : (Jvm.Cond.methodLink "PotVolumes$Profile" (30 : Nat) ({ cls := "PotVolumes$Profile", name := "canFollow", desc := "(II)Z" } : Jvm.MethodName)) ∈ gw := gw_t1 (k := 234) rfl rfl
theorem wm_X1_canFollow : (Jvm.Cond.instanceMethod ({ cls := "PotVolumes$Profile", name := "canFollow", desc := "(II)Z" } : Jvm.MethodName)) ∈ gw := gw_t1 (k := 236) rfl rfl
theorem wc_X1_canFollow : (Jvm.Cond.code ({ cls := "PotVolumes$Profile", name := "canFollow", desc := "(II)Z" } : Jvm.MethodName) prog_3_method_4_code (5 : Nat) (Option.some Jvm.ClassFile.FieldType.boolean)) ∈ gw := gw_t1 (k := 237) rfl rfl
theorem wl_L_98 : (Jvm.Cond.methodLink "PotVolumesLaw" (98 : Nat) ({ cls := "PotVolumesLaw", name := "at", desc := "(LPotVolumes;III[J)I" } : Jvm.MethodName)) ∈ gw := gw_t1 (k := 238) rfl rfl
theorem wt_L_at : (Jvm.Cond.static ({ cls := "PotVolumesLaw", name := "at", desc := "(LPotVolumes;III[J)I" } : Jvm.MethodName)) ∈ gw := gw_t1 (k := 239) rfl rfl
theorem wc_L_at : (Jvm.Cond.codeWith ({ cls := "PotVolumesLaw", name := "at", desc := "(LPotVolumes;III[J)I" } : Jvm.MethodName) method_5_code (6 : Nat) (Option.some Jvm.ClassFile.FieldType.int) [((0 : Nat), (12 : Nat), (15 : Nat), (19 : Nat))]) ∈ gw := gw_t2 (k := 0) rfl rfl
theorem wl_L_23 : (Jvm.Cond.methodLink "PotVolumesLaw" (23 : Nat) ({ cls := "PotVolumes", name := "at", desc := "(III)I" } : Jvm.MethodName)) ∈ gw := gw_t2 (k := 1) rfl rfl
theorem wm_X2_at : (Jvm.Cond.instanceMethod ({ cls := "PotVolumes", name := "at", desc := "(III)I" } : Jvm.MethodName)) ∈ gw := gw_t2 (k := 2) rfl rfl
theorem we_X2_at : (Jvm.Cond.selects "PotVolumes" ({ cls := "PotVolumes", name := "at", desc := "(III)I" } : Jvm.MethodName) ({ cls := "PotVolumes", name := "at", desc := "(III)I" } : Jvm.MethodName)) ∈ gw := gw_t2 (k := 3) rfl rfl
theorem wc_X2_at : (Jvm.Cond.code ({ cls := "PotVolumes", name := "at", desc := "(III)I" } : Jvm.MethodName) prog_1_method_4_code (5 : Nat) (Option.some Jvm.ClassFile.FieldType.int)) ∈ gw := gw_t2 (k := 4) rfl rfl
theorem wl_X2_74 : (Jvm.Cond.methodLink "PotVolumes" (74 : Nat) ({ cls := "PotVolumes", name := "needOneOfTwo", desc := "(I)V" } : Jvm.MethodName)) ∈ gw := gw_t2 (k := 5) rfl rfl
theorem wt_X2_needOneOfTwo : (Jvm.Cond.static ({ cls := "PotVolumes", name := "needOneOfTwo", desc := "(I)V" } : Jvm.MethodName)) ∈ gw := gw_t2 (k := 6) rfl rfl
theorem wc_X2_needOneOfTwo : (Jvm.Cond.code ({ cls := "PotVolumes", name := "needOneOfTwo", desc := "(I)V" } : Jvm.MethodName) prog_1_method_24_code (1 : Nat) (Option.none : Option Jvm.ClassFile.FieldType)) ∈ gw := gw_t2 (k := 7) rfl rfl
theorem wl_L_101 : (Jvm.Cond.methodLink "PotVolumesLaw" (101 : Nat) ({ cls := "PotVolumesLaw", name := "radius", desc := "(LPotVolumes;II[J)I" } : Jvm.MethodName)) ∈ gw := gw_t2 (k := 10) rfl rfl
theorem wt_L_radius : (Jvm.Cond.static ({ cls := "PotVolumesLaw", name := "radius", desc := "(LPotVolumes;II[J)I" } : Jvm.MethodName)) ∈ gw := gw_t2 (k := 11) rfl rfl
theorem wc_L_radius : (Jvm.Cond.codeWith ({ cls := "PotVolumesLaw", name := "radius", desc := "(LPotVolumes;II[J)I" } : Jvm.MethodName) method_6_code (5 : Nat) (Option.some Jvm.ClassFile.FieldType.int) [((0 : Nat), (10 : Nat), (13 : Nat), (19 : Nat))]) ∈ gw := gw_t2 (k := 12) rfl rfl
theorem wl_L_27 : (Jvm.Cond.methodLink "PotVolumesLaw" (27 : Nat) ({ cls := "PotVolumes", name := "radius", desc := "(II)I" } : Jvm.MethodName)) ∈ gw := gw_t2 (k := 13) rfl rfl
theorem wm_X2_radius : (Jvm.Cond.instanceMethod ({ cls := "PotVolumes", name := "radius", desc := "(II)I" } : Jvm.MethodName)) ∈ gw := gw_t2 (k := 14) rfl rfl
theorem we_X2_radius : (Jvm.Cond.selects "PotVolumes" ({ cls := "PotVolumes", name := "radius", desc := "(II)I" } : Jvm.MethodName) ({ cls := "PotVolumes", name := "radius", desc := "(II)I" } : Jvm.MethodName)) ∈ gw := gw_t2 (k := 15) rfl rfl
theorem wc_X2_radius : (Jvm.Cond.code ({ cls := "PotVolumes", name := "radius", desc := "(II)I" } : Jvm.MethodName) prog_1_method_5_code (3 : Nat) (Option.some Jvm.ClassFile.FieldType.int)) ∈ gw := gw_t2 (k := 16) rfl rfl
theorem wl_X2_92 : (Jvm.Cond.methodLink "PotVolumes" (92 : Nat) ({ cls := "PotVolumes$Profile", name := "radiusAt", desc := "(I)I" } : Jvm.MethodName)) ∈ gw := gw_t2 (k := 17) rfl rfl
theorem wm_X1_radiusAt : (Jvm.Cond.instanceMethod ({ cls := "PotVolumes$Profile", name := "radiusAt", desc := "(I)I" } : Jvm.MethodName)) ∈ gw := gw_t2 (k := 18) rfl rfl
theorem we_X1_radiusAt : (Jvm.Cond.selects "PotVolumes$Profile" ({ cls := "PotVolumes$Profile", name := "radiusAt", desc := "(I)I" } : Jvm.MethodName) ({ cls := "PotVolumes$Profile", name := "radiusAt", desc := "(I)I" } : Jvm.MethodName)) ∈ gw := gw_t2 (k := 19) rfl rfl
theorem wc_X1_radiusAt : (Jvm.Cond.code ({ cls := "PotVolumes$Profile", name := "radiusAt", desc := "(I)I" } : Jvm.MethodName) prog_3_method_5_code (5 : Nat) (Option.some Jvm.ClassFile.FieldType.int)) ∈ gw := gw_t2 (k := 20) rfl rfl
theorem wl_X1_34 : (Jvm.Cond.methodLink "PotVolumes$Profile" (34 : Nat) ({ cls := "java/lang/Math", name := "max", desc := "(II)I" } : Jvm.MethodName)) ∈ gw := gw_t2 (k := 21) rfl rfl
theorem wt_Math_max : (Jvm.Cond.static ({ cls := "java/lang/Math", name := "max", desc := "(II)I" } : Jvm.MethodName)) ∈ gw := gw_t2 (k := 22) rfl rfl
theorem wc_Math_max_II_I : (Jvm.Cond.code ({ cls := "java/lang/Math", name := "max", desc := "(II)I" } : Jvm.MethodName) prog_10_method_65_code (2 : Nat) (Option.some Jvm.ClassFile.FieldType.int)) ∈ gw := gw_t2 (k := 23) rfl rfl
theorem wl_X1_40 : (Jvm.Cond.methodLink "PotVolumes$Profile" (40 : Nat) ({ cls := "PotVolumes$Profile", name := "scaledRadius", desc := "(III)I" } : Jvm.MethodName)) ∈ gw := gw_t2 (k := 24) rfl rfl
theorem wm_X1_scaledRadius : (Jvm.Cond.instanceMethod ({ cls := "PotVolumes$Profile", name := "scaledRadius", desc := "(III)I" } : Jvm.MethodName)) ∈ gw := gw_t2 (k := 26) rfl rfl
theorem wc_X1_scaledRadius : (Jvm.Cond.code ({ cls := "PotVolumes$Profile", name := "scaledRadius", desc := "(III)I" } : Jvm.MethodName) prog_3_method_7_code (6 : Nat) (Option.some Jvm.ClassFile.FieldType.int)) ∈ gw := gw_t2 (k := 27) rfl rfl
theorem wl_L_105 : (Jvm.Cond.methodLink "PotVolumesLaw" (105 : Nat) ({ cls := "PotVolumesLaw", name := "volume", desc := "(LPotVolumes;III[J)I" } : Jvm.MethodName)) ∈ gw := gw_t2 (k := 28) rfl rfl
theorem wt_L_volume : (Jvm.Cond.static ({ cls := "PotVolumesLaw", name := "volume", desc := "(LPotVolumes;III[J)I" } : Jvm.MethodName)) ∈ gw := gw_t2 (k := 29) rfl rfl
theorem wc_L_volume : (Jvm.Cond.codeWith ({ cls := "PotVolumesLaw", name := "volume", desc := "(LPotVolumes;III[J)I" } : Jvm.MethodName) method_7_code (6 : Nat) (Option.some Jvm.ClassFile.FieldType.int) [((0 : Nat), (11 : Nat), (14 : Nat), (19 : Nat))]) ∈ gw := gw_t2 (k := 30) rfl rfl
theorem wl_L_31 : (Jvm.Cond.methodLink "PotVolumesLaw" (31 : Nat) ({ cls := "PotVolumes", name := "volume", desc := "(III)J" } : Jvm.MethodName)) ∈ gw := gw_t2 (k := 31) rfl rfl
theorem wm_X2_volume : (Jvm.Cond.instanceMethod ({ cls := "PotVolumes", name := "volume", desc := "(III)J" } : Jvm.MethodName)) ∈ gw := gw_t2 (k := 32) rfl rfl
theorem we_X2_volume : (Jvm.Cond.selects "PotVolumes" ({ cls := "PotVolumes", name := "volume", desc := "(III)J" } : Jvm.MethodName) ({ cls := "PotVolumes", name := "volume", desc := "(III)J" } : Jvm.MethodName)) ∈ gw := gw_t2 (k := 33) rfl rfl
theorem wc_X2_volume : (Jvm.Cond.code ({ cls := "PotVolumes", name := "volume", desc := "(III)J" } : Jvm.MethodName) prog_1_method_6_code (5 : Nat) (Option.some Jvm.ClassFile.FieldType.long)) ∈ gw := gw_t2 (k := 34) rfl rfl
theorem wl_X2_96 : (Jvm.Cond.methodLink "PotVolumes" (96 : Nat) ({ cls := "PotVolumes$Profile", name := "measure", desc := "(LPotVolumes$Fraction;I)V" } : Jvm.MethodName)) ∈ gw := gw_t2 (k := 35) rfl rfl
theorem wm_X1_measure : (Jvm.Cond.instanceMethod ({ cls := "PotVolumes$Profile", name := "measure", desc := "(LPotVolumes$Fraction;I)V" } : Jvm.MethodName)) ∈ gw := gw_t2 (k := 36) rfl rfl
theorem we_X1_measure : (Jvm.Cond.selects "PotVolumes$Profile" ({ cls := "PotVolumes$Profile", name := "measure", desc := "(LPotVolumes$Fraction;I)V" } : Jvm.MethodName) ({ cls := "PotVolumes$Profile", name := "measure", desc := "(LPotVolumes$Fraction;I)V" } : Jvm.MethodName)) ∈ gw := gw_t2 (k := 37) rfl rfl
theorem wc_X1_measure : (Jvm.Cond.code ({ cls := "PotVolumes$Profile", name := "measure", desc := "(LPotVolumes$Fraction;I)V" } : Jvm.MethodName) prog_3_method_8_code (3 : Nat) (Option.none : Option Jvm.ClassFile.FieldType)) ∈ gw := gw_t2 (k := 38) rfl rfl
theorem wl_X1_48 : (Jvm.Cond.methodLink "PotVolumes$Profile" (48 : Nat) ({ cls := "PotVolumes$Fraction", name := "clearToZero", desc := "()V" } : Jvm.MethodName)) ∈ gw := gw_t2 (k := 39) rfl rfl
theorem wm_X0_clearToZero : (Jvm.Cond.instanceMethod ({ cls := "PotVolumes$Fraction", name := "clearToZero", desc := "()V" } : Jvm.MethodName)) ∈ gw := gw_t2 (k := 40) rfl rfl
theorem we_X0_clearToZero : (Jvm.Cond.selects "PotVolumes$Fraction" ({ cls := "PotVolumes$Fraction", name := "clearToZero", desc := "()V" } : Jvm.MethodName) ({ cls := "PotVolumes$Fraction", name := "clearToZero", desc := "()V" } : Jvm.MethodName)) ∈ gw := gw_t2 (k := 41) rfl rfl
theorem wc_X0_clearToZero : (Jvm.Cond.code ({ cls := "PotVolumes$Fraction", name := "clearToZero", desc := "()V" } : Jvm.MethodName) prog_2_method_2_code (1 : Nat) (Option.none : Option Jvm.ClassFile.FieldType)) ∈ gw := gw_t2 (k := 42) rfl rfl
theorem wl_X1_53 : (Jvm.Cond.methodLink "PotVolumes$Profile" (53 : Nat) ({ cls := "PotVolumes$Profile", name := "addPieces", desc := "(LPotVolumes$Fraction;III)V" } : Jvm.MethodName)) ∈ gw := gw_t2 (k := 43) rfl rfl
theorem wm_X1_addPieces : (Jvm.Cond.instanceMethod ({ cls := "PotVolumes$Profile", name := "addPieces", desc := "(LPotVolumes$Fraction;III)V" } : Jvm.MethodName)) ∈ gw := gw_t2 (k := 45) rfl rfl
theorem wc_X1_addPieces : (Jvm.Cond.code ({ cls := "PotVolumes$Profile", name := "addPieces", desc := "(LPotVolumes$Fraction;III)V" } : Jvm.MethodName) prog_3_method_10_code (8 : Nat) (Option.none : Option Jvm.ClassFile.FieldType)) ∈ gw := gw_t2 (k := 46) rfl rfl
theorem wl_X1_60 : (Jvm.Cond.methodLink "PotVolumes$Profile" (60 : Nat) ({ cls := "java/lang/Math", name := "min", desc := "(II)I" } : Jvm.MethodName)) ∈ gw := gw_t2 (k := 47) rfl rfl
theorem wt_Math_min : (Jvm.Cond.static ({ cls := "java/lang/Math", name := "min", desc := "(II)I" } : Jvm.MethodName)) ∈ gw := gw_t2 (k := 48) rfl rfl
theorem wc_Math_min_II_I : (Jvm.Cond.code ({ cls := "java/lang/Math", name := "min", desc := "(II)I" } : Jvm.MethodName) prog_10_method_69_code (2 : Nat) (Option.some Jvm.ClassFile.FieldType.int)) ∈ gw := gw_t2 (k := 49) rfl rfl
theorem wl_X1_63 : (Jvm.Cond.methodLink "PotVolumes$Profile" (63 : Nat) ({ cls := "PotVolumes$Profile", name := "addPiece", desc := "(LPotVolumes$Fraction;IIII)V" } : Jvm.MethodName)) ∈ gw := gw_t2 (k := 50) rfl rfl
theorem wm_X1_addPiece : (Jvm.Cond.instanceMethod ({ cls := "PotVolumes$Profile", name := "addPiece", desc := "(LPotVolumes$Fraction;IIII)V" } : Jvm.MethodName)) ∈ gw := gw_t2 (k := 52) rfl rfl
theorem wc_X1_addPiece : (Jvm.Cond.code ({ cls := "PotVolumes$Profile", name := "addPiece", desc := "(LPotVolumes$Fraction;IIII)V" } : Jvm.MethodName) prog_3_method_11_code (12 : Nat) (Option.none : Option Jvm.ClassFile.FieldType)) ∈ gw := gw_t2 (k := 53) rfl rfl
theorem wl_X1_67 : (Jvm.Cond.constantLong "PotVolumes$Profile" (67 : Nat) (3 : Int64)) ∈ gw := gw_t2 (k := 54) rfl rfl
theorem wl_X1_69 : (Jvm.Cond.methodLink "PotVolumes$Profile" (69 : Nat) ({ cls := "PotVolumes$Fraction", name := "add", desc := "(JJ)V" } : Jvm.MethodName)) ∈ gw := gw_t2 (k := 55) rfl rfl
theorem wm_X0_add : (Jvm.Cond.instanceMethod ({ cls := "PotVolumes$Fraction", name := "add", desc := "(JJ)V" } : Jvm.MethodName)) ∈ gw := gw_t2 (k := 56) rfl rfl
theorem we_X0_add : (Jvm.Cond.selects "PotVolumes$Fraction" ({ cls := "PotVolumes$Fraction", name := "add", desc := "(JJ)V" } : Jvm.MethodName) ({ cls := "PotVolumes$Fraction", name := "add", desc := "(JJ)V" } : Jvm.MethodName)) ∈ gw := gw_t2 (k := 57) rfl rfl
theorem wc_X0_add : (Jvm.Cond.code ({ cls := "PotVolumes$Fraction", name := "add", desc := "(JJ)V" } : Jvm.MethodName) prog_2_method_3_code (11 : Nat) (Option.none : Option Jvm.ClassFile.FieldType)) ∈ gw := gw_t2 (k := 58) rfl rfl
theorem wl_X0_18 : (Jvm.Cond.methodLink "PotVolumes$Fraction" (18 : Nat) ({ cls := "PotVolumes$Fraction", name := "commonDivisor", desc := "(JJ)J" } : Jvm.MethodName)) ∈ gw := gw_t2 (k := 59) rfl rfl
theorem wt_X0_commonDivisor : (Jvm.Cond.static ({ cls := "PotVolumes$Fraction", name := "commonDivisor", desc := "(JJ)J" } : Jvm.MethodName)) ∈ gw := gw_t2 (k := 60) rfl rfl
theorem wc_X0_commonDivisor : (Jvm.Cond.code ({ cls := "PotVolumes$Fraction", name := "commonDivisor", desc := "(JJ)J" } : Jvm.MethodName) prog_2_method_5_code (11 : Nat) (Option.some Jvm.ClassFile.FieldType.long)) ∈ gw := gw_t2 (k := 61) rfl rfl
theorem wl_X0_22 : (Jvm.Cond.methodLink "PotVolumes$Fraction" (22 : Nat) ({ cls := "PotVolumes$Fraction", name := "lessen", desc := "()V" } : Jvm.MethodName)) ∈ gw := gw_t2 (k := 62) rfl rfl
theorem wm_X0_lessen : (Jvm.Cond.instanceMethod ({ cls := "PotVolumes$Fraction", name := "lessen", desc := "()V" } : Jvm.MethodName)) ∈ gw := gw_t2 (k := 64) rfl rfl
theorem wc_X0_lessen : (Jvm.Cond.code ({ cls := "PotVolumes$Fraction", name := "lessen", desc := "()V" } : Jvm.MethodName) prog_2_method_4_code (3 : Nat) (Option.none : Option Jvm.ClassFile.FieldType)) ∈ gw := gw_t2 (k := 65) rfl rfl
theorem wl_X2_100 : (Jvm.Cond.methodLink "PotVolumes" (100 : Nat) ({ cls := "PotVolumes$Fraction", name := "tell", desc := "(I)J" } : Jvm.MethodName)) ∈ gw := gw_t2 (k := 66) rfl rfl
theorem wm_X0_tell : (Jvm.Cond.instanceMethod ({ cls := "PotVolumes$Fraction", name := "tell", desc := "(I)J" } : Jvm.MethodName)) ∈ gw := gw_t2 (k := 67) rfl rfl
theorem we_X0_tell : (Jvm.Cond.selects "PotVolumes$Fraction" ({ cls := "PotVolumes$Fraction", name := "tell", desc := "(I)J" } : Jvm.MethodName) ({ cls := "PotVolumes$Fraction", name := "tell", desc := "(I)J" } : Jvm.MethodName)) ∈ gw := gw_t2 (k := 68) rfl rfl
theorem wc_X0_tell : (Jvm.Cond.code ({ cls := "PotVolumes$Fraction", name := "tell", desc := "(I)J" } : Jvm.MethodName) prog_2_method_6_code (2 : Nat) (Option.some Jvm.ClassFile.FieldType.long)) ∈ gw := gw_t2 (k := 69) rfl rfl
theorem wl_L_108 : (Jvm.Cond.methodLink "PotVolumesLaw" (108 : Nat) ({ cls := "PotVolumesLaw", name := "holds", desc := "(LPotVolumes;III[J)I" } : Jvm.MethodName)) ∈ gw := gw_t2 (k := 70) rfl rfl
theorem wt_L_holds : (Jvm.Cond.static ({ cls := "PotVolumesLaw", name := "holds", desc := "(LPotVolumes;III[J)I" } : Jvm.MethodName)) ∈ gw := gw_t2 (k := 71) rfl rfl
theorem wc_L_holds : (Jvm.Cond.codeWith ({ cls := "PotVolumesLaw", name := "holds", desc := "(LPotVolumes;III[J)I" } : Jvm.MethodName) method_8_code (6 : Nat) (Option.some Jvm.ClassFile.FieldType.int) [((0 : Nat), (11 : Nat), (14 : Nat), (19 : Nat))]) ∈ gw := gw_t2 (k := 72) rfl rfl
theorem wl_L_35 : (Jvm.Cond.methodLink "PotVolumesLaw" (35 : Nat) ({ cls := "PotVolumes", name := "holds", desc := "(III)J" } : Jvm.MethodName)) ∈ gw := gw_t2 (k := 73) rfl rfl
theorem wm_X2_holds : (Jvm.Cond.instanceMethod ({ cls := "PotVolumes", name := "holds", desc := "(III)J" } : Jvm.MethodName)) ∈ gw := gw_t2 (k := 74) rfl rfl
theorem we_X2_holds : (Jvm.Cond.selects "PotVolumes" ({ cls := "PotVolumes", name := "holds", desc := "(III)J" } : Jvm.MethodName) ({ cls := "PotVolumes", name := "holds", desc := "(III)J" } : Jvm.MethodName)) ∈ gw := gw_t2 (k := 75) rfl rfl
theorem wc_X2_holds : (Jvm.Cond.code ({ cls := "PotVolumes", name := "holds", desc := "(III)J" } : Jvm.MethodName) prog_1_method_7_code (5 : Nat) (Option.some Jvm.ClassFile.FieldType.long)) ∈ gw := gw_t2 (k := 76) rfl rfl
theorem wl_X2_104 : (Jvm.Cond.methodLink "PotVolumes" (104 : Nat) ({ cls := "PotVolumes$Profile", name := "measureHeld", desc := "(LPotVolumes$Fraction;I)V" } : Jvm.MethodName)) ∈ gw := gw_t2 (k := 77) rfl rfl
theorem wm_X1_measureHeld : (Jvm.Cond.instanceMethod ({ cls := "PotVolumes$Profile", name := "measureHeld", desc := "(LPotVolumes$Fraction;I)V" } : Jvm.MethodName)) ∈ gw := gw_t2 (k := 78) rfl rfl
theorem we_X1_measureHeld : (Jvm.Cond.selects "PotVolumes$Profile" ({ cls := "PotVolumes$Profile", name := "measureHeld", desc := "(LPotVolumes$Fraction;I)V" } : Jvm.MethodName) ({ cls := "PotVolumes$Profile", name := "measureHeld", desc := "(LPotVolumes$Fraction;I)V" } : Jvm.MethodName)) ∈ gw := gw_t2 (k := 79) rfl rfl
theorem wc_X1_measureHeld : (Jvm.Cond.code ({ cls := "PotVolumes$Profile", name := "measureHeld", desc := "(LPotVolumes$Fraction;I)V" } : Jvm.MethodName) prog_3_method_9_code (3 : Nat) (Option.none : Option Jvm.ClassFile.FieldType)) ∈ gw := gw_t2 (k := 80) rfl rfl
theorem wl_L_111 : (Jvm.Cond.methodLink "PotVolumesLaw" (111 : Nat) ({ cls := "PotVolumesLaw", name := "enclosed", desc := "(LPotVolumes;II[J)I" } : Jvm.MethodName)) ∈ gw := gw_t2 (k := 81) rfl rfl
theorem wt_L_enclosed : (Jvm.Cond.static ({ cls := "PotVolumesLaw", name := "enclosed", desc := "(LPotVolumes;II[J)I" } : Jvm.MethodName)) ∈ gw := gw_t2 (k := 82) rfl rfl
theorem wc_L_enclosed : (Jvm.Cond.codeWith ({ cls := "PotVolumesLaw", name := "enclosed", desc := "(LPotVolumes;II[J)I" } : Jvm.MethodName) method_9_code (5 : Nat) (Option.some Jvm.ClassFile.FieldType.int) [((0 : Nat), (9 : Nat), (12 : Nat), (19 : Nat))]) ∈ gw := gw_t2 (k := 83) rfl rfl
theorem wl_L_38 : (Jvm.Cond.methodLink "PotVolumesLaw" (38 : Nat) ({ cls := "PotVolumes", name := "enclosed", desc := "(II)J" } : Jvm.MethodName)) ∈ gw := gw_t2 (k := 84) rfl rfl
theorem wm_X2_enclosed : (Jvm.Cond.instanceMethod ({ cls := "PotVolumes", name := "enclosed", desc := "(II)J" } : Jvm.MethodName)) ∈ gw := gw_t2 (k := 85) rfl rfl
theorem we_X2_enclosed : (Jvm.Cond.selects "PotVolumes" ({ cls := "PotVolumes", name := "enclosed", desc := "(II)J" } : Jvm.MethodName) ({ cls := "PotVolumes", name := "enclosed", desc := "(II)J" } : Jvm.MethodName)) ∈ gw := gw_t2 (k := 86) rfl rfl
theorem wc_X2_enclosed : (Jvm.Cond.code ({ cls := "PotVolumes", name := "enclosed", desc := "(II)J" } : Jvm.MethodName) prog_1_method_8_code (4 : Nat) (Option.some Jvm.ClassFile.FieldType.long)) ∈ gw := gw_t2 (k := 87) rfl rfl
theorem wl_X2_107 : (Jvm.Cond.methodLink "PotVolumes" (107 : Nat) ({ cls := "PotVolumes$Fraction", name := "circledDown", desc := "()J" } : Jvm.MethodName)) ∈ gw := gw_t2 (k := 88) rfl rfl
theorem wm_X0_circledDown : (Jvm.Cond.instanceMethod ({ cls := "PotVolumes$Fraction", name := "circledDown", desc := "()J" } : Jvm.MethodName)) ∈ gw := gw_t2 (k := 89) rfl rfl
theorem we_X0_circledDown : (Jvm.Cond.selects "PotVolumes$Fraction" ({ cls := "PotVolumes$Fraction", name := "circledDown", desc := "()J" } : Jvm.MethodName) ({ cls := "PotVolumes$Fraction", name := "circledDown", desc := "()J" } : Jvm.MethodName)) ∈ gw := gw_t2 (k := 90) rfl rfl
theorem wc_X0_circledDown : (Jvm.Cond.code ({ cls := "PotVolumes$Fraction", name := "circledDown", desc := "()J" } : Jvm.MethodName) prog_2_method_8_code (1 : Nat) (Option.some Jvm.ClassFile.FieldType.long)) ∈ gw := gw_t2 (k := 91) rfl rfl
theorem wl_X0_25 : (Jvm.Cond.constantLong "PotVolumes$Fraction" (25 : Nat) (314159265 : Int64)) ∈ gw := gw_t2 (k := 92) rfl rfl
theorem wl_X0_27 : (Jvm.Cond.methodLink "PotVolumes$Fraction" (27 : Nat) ({ cls := "PotVolumes$Fraction", name := "timesDown", desc := "(J)J" } : Jvm.MethodName)) ∈ gw := gw_t2 (k := 93) rfl rfl
theorem wm_X0_timesDown : (Jvm.Cond.instanceMethod ({ cls := "PotVolumes$Fraction", name := "timesDown", desc := "(J)J" } : Jvm.MethodName)) ∈ gw := gw_t2 (k := 95) rfl rfl
theorem wc_X0_timesDown : (Jvm.Cond.code ({ cls := "PotVolumes$Fraction", name := "timesDown", desc := "(J)J" } : Jvm.MethodName) prog_2_method_10_code (3 : Nat) (Option.some Jvm.ClassFile.FieldType.long)) ∈ gw := gw_t2 (k := 96) rfl rfl
theorem wl_X0_31 : (Jvm.Cond.constantLong "PotVolumes$Fraction" (31 : Nat) (100000000 : Int64)) ∈ gw := gw_t2 (k := 97) rfl rfl
theorem wl_X2_111 : (Jvm.Cond.methodLink "PotVolumes" (111 : Nat) ({ cls := "PotVolumes$Fraction", name := "circledUp", desc := "()J" } : Jvm.MethodName)) ∈ gw := gw_t2 (k := 98) rfl rfl
theorem wm_X0_circledUp : (Jvm.Cond.instanceMethod ({ cls := "PotVolumes$Fraction", name := "circledUp", desc := "()J" } : Jvm.MethodName)) ∈ gw := gw_t2 (k := 99) rfl rfl
theorem we_X0_circledUp : (Jvm.Cond.selects "PotVolumes$Fraction" ({ cls := "PotVolumes$Fraction", name := "circledUp", desc := "()J" } : Jvm.MethodName) ({ cls := "PotVolumes$Fraction", name := "circledUp", desc := "()J" } : Jvm.MethodName)) ∈ gw := gw_t2 (k := 100) rfl rfl
theorem wc_X0_circledUp : (Jvm.Cond.code ({ cls := "PotVolumes$Fraction", name := "circledUp", desc := "()J" } : Jvm.MethodName) prog_2_method_9_code (1 : Nat) (Option.some Jvm.ClassFile.FieldType.long)) ∈ gw := gw_t2 (k := 101) rfl rfl
theorem wl_X0_33 : (Jvm.Cond.constantLong "PotVolumes$Fraction" (33 : Nat) (314159266 : Int64)) ∈ gw := gw_t2 (k := 102) rfl rfl
theorem wl_X0_35 : (Jvm.Cond.methodLink "PotVolumes$Fraction" (35 : Nat) ({ cls := "PotVolumes$Fraction", name := "timesUp", desc := "(J)J" } : Jvm.MethodName)) ∈ gw := gw_t2 (k := 103) rfl rfl
theorem wm_X0_timesUp : (Jvm.Cond.instanceMethod ({ cls := "PotVolumes$Fraction", name := "timesUp", desc := "(J)J" } : Jvm.MethodName)) ∈ gw := gw_t2 (k := 105) rfl rfl
theorem wc_X0_timesUp : (Jvm.Cond.code ({ cls := "PotVolumes$Fraction", name := "timesUp", desc := "(J)J" } : Jvm.MethodName) prog_2_method_11_code (3 : Nat) (Option.some Jvm.ClassFile.FieldType.long)) ∈ gw := gw_t2 (k := 106) rfl rfl
theorem wl_L_114 : (Jvm.Cond.methodLink "PotVolumesLaw" (114 : Nat) ({ cls := "PotVolumesLaw", name := "wall", desc := "(LPotVolumes;II[J)I" } : Jvm.MethodName)) ∈ gw := gw_t2 (k := 107) rfl rfl
theorem wt_L_wall : (Jvm.Cond.static ({ cls := "PotVolumesLaw", name := "wall", desc := "(LPotVolumes;II[J)I" } : Jvm.MethodName)) ∈ gw := gw_t2 (k := 108) rfl rfl
theorem wc_L_wall : (Jvm.Cond.codeWith ({ cls := "PotVolumesLaw", name := "wall", desc := "(LPotVolumes;II[J)I" } : Jvm.MethodName) method_10_code (5 : Nat) (Option.some Jvm.ClassFile.FieldType.int) [((0 : Nat), (10 : Nat), (13 : Nat), (19 : Nat)), ((0 : Nat), (10 : Nat), (17 : Nat), (21 : Nat))]) ∈ gw := gw_t2 (k := 109) rfl rfl
theorem wl_L_42 : (Jvm.Cond.methodLink "PotVolumesLaw" (42 : Nat) ({ cls := "PotVolumes", name := "wall", desc := "(II)I" } : Jvm.MethodName)) ∈ gw := gw_t2 (k := 110) rfl rfl
theorem wm_X2_wall : (Jvm.Cond.instanceMethod ({ cls := "PotVolumes", name := "wall", desc := "(II)I" } : Jvm.MethodName)) ∈ gw := gw_t2 (k := 111) rfl rfl
theorem we_X2_wall : (Jvm.Cond.selects "PotVolumes" ({ cls := "PotVolumes", name := "wall", desc := "(II)I" } : Jvm.MethodName) ({ cls := "PotVolumes", name := "wall", desc := "(II)I" } : Jvm.MethodName)) ∈ gw := gw_t2 (k := 112) rfl rfl
theorem wc_X2_wall : (Jvm.Cond.code ({ cls := "PotVolumes", name := "wall", desc := "(II)I" } : Jvm.MethodName) prog_1_method_9_code (5 : Nat) (Option.some Jvm.ClassFile.FieldType.int)) ∈ gw := gw_t2 (k := 113) rfl rfl
theorem wl_L_117 : (Jvm.Cond.methodLink "PotVolumesLaw" (117 : Nat) ({ cls := "PotVolumesLaw", name := "unlike", desc := "(LPotVolumes;II[J)I" } : Jvm.MethodName)) ∈ gw := gw_t2 (k := 115) rfl rfl
theorem wt_L_unlike : (Jvm.Cond.static ({ cls := "PotVolumesLaw", name := "unlike", desc := "(LPotVolumes;II[J)I" } : Jvm.MethodName)) ∈ gw := gw_t2 (k := 116) rfl rfl
theorem wc_L_unlike : (Jvm.Cond.codeWith ({ cls := "PotVolumesLaw", name := "unlike", desc := "(LPotVolumes;II[J)I" } : Jvm.MethodName) method_11_code (5 : Nat) (Option.some Jvm.ClassFile.FieldType.int) [((0 : Nat), (10 : Nat), (13 : Nat), (19 : Nat))]) ∈ gw := gw_t2 (k := 117) rfl rfl
theorem wl_L_45 : (Jvm.Cond.methodLink "PotVolumesLaw" (45 : Nat) ({ cls := "PotVolumes", name := "unlike", desc := "(II)I" } : Jvm.MethodName)) ∈ gw := gw_t2 (k := 118) rfl rfl
theorem wm_X2_unlike : (Jvm.Cond.instanceMethod ({ cls := "PotVolumes", name := "unlike", desc := "(II)I" } : Jvm.MethodName)) ∈ gw := gw_t2 (k := 119) rfl rfl
theorem we_X2_unlike : (Jvm.Cond.selects "PotVolumes" ({ cls := "PotVolumes", name := "unlike", desc := "(II)I" } : Jvm.MethodName) ({ cls := "PotVolumes", name := "unlike", desc := "(II)I" } : Jvm.MethodName)) ∈ gw := gw_t2 (k := 120) rfl rfl
theorem wc_X2_unlike : (Jvm.Cond.code ({ cls := "PotVolumes", name := "unlike", desc := "(II)I" } : Jvm.MethodName) prog_1_method_10_code (8 : Nat) (Option.some Jvm.ClassFile.FieldType.int)) ∈ gw := gw_t2 (k := 121) rfl rfl
theorem wl_X2_119 : (Jvm.Cond.methodLink "PotVolumes" (119 : Nat) ({ cls := "PotVolumes$Profile", name := "radiusOrZero", desc := "(I)I" } : Jvm.MethodName)) ∈ gw := gw_t2 (k := 122) rfl rfl
theorem wm_X1_radiusOrZero : (Jvm.Cond.instanceMethod ({ cls := "PotVolumes$Profile", name := "radiusOrZero", desc := "(I)I" } : Jvm.MethodName)) ∈ gw := gw_t2 (k := 123) rfl rfl
theorem we_X1_radiusOrZero : (Jvm.Cond.selects "PotVolumes$Profile" ({ cls := "PotVolumes$Profile", name := "radiusOrZero", desc := "(I)I" } : Jvm.MethodName) ({ cls := "PotVolumes$Profile", name := "radiusOrZero", desc := "(I)I" } : Jvm.MethodName)) ∈ gw := gw_t2 (k := 124) rfl rfl
theorem wc_X1_radiusOrZero : (Jvm.Cond.code ({ cls := "PotVolumes$Profile", name := "radiusOrZero", desc := "(I)I" } : Jvm.MethodName) prog_3_method_6_code (2 : Nat) (Option.some Jvm.ClassFile.FieldType.int)) ∈ gw := gw_t2 (k := 125) rfl rfl
theorem wl_X1_44 : (Jvm.Cond.methodLink "PotVolumes$Profile" (44 : Nat) ({ cls := "PotVolumes$Profile", name := "radiusAt", desc := "(I)I" } : Jvm.MethodName)) ∈ gw := gw_t2 (k := 126) rfl rfl
theorem wl_X2_122 : (Jvm.Cond.methodLink "PotVolumes" (122 : Nat) ({ cls := "java/lang/Math", name := "abs", desc := "(I)I" } : Jvm.MethodName)) ∈ gw := gw_t2 (k := 127) rfl rfl
theorem wt_Math_abs : (Jvm.Cond.static ({ cls := "java/lang/Math", name := "abs", desc := "(I)I" } : Jvm.MethodName)) ∈ gw := gw_t2 (k := 128) rfl rfl
theorem wc_Math_abs_I_I : (Jvm.Cond.code ({ cls := "java/lang/Math", name := "abs", desc := "(I)I" } : Jvm.MethodName) prog_10_method_59_code (1 : Nat) (Option.some Jvm.ClassFile.FieldType.int)) ∈ gw := gw_t2 (k := 129) rfl rfl
theorem wl_L_120 : (Jvm.Cond.methodLink "PotVolumesLaw" (120 : Nat) ({ cls := "PotVolumesLaw", name := "cut", desc := "(LPotVolumes;II[J)I" } : Jvm.MethodName)) ∈ gw := gw_t2 (k := 130) rfl rfl
theorem wt_L_cut : (Jvm.Cond.static ({ cls := "PotVolumesLaw", name := "cut", desc := "(LPotVolumes;II[J)I" } : Jvm.MethodName)) ∈ gw := gw_t2 (k := 131) rfl rfl
theorem wc_L_cut : (Jvm.Cond.codeWith ({ cls := "PotVolumesLaw", name := "cut", desc := "(LPotVolumes;II[J)I" } : Jvm.MethodName) method_12_code (5 : Nat) (Option.some Jvm.ClassFile.FieldType.int) [((0 : Nat), (17 : Nat), (20 : Nat), (19 : Nat))]) ∈ gw := gw_t2 (k := 132) rfl rfl
theorem wl_L_48 : (Jvm.Cond.methodLink "PotVolumesLaw" (48 : Nat) ({ cls := "PotVolumes", name := "cut", desc := "(II)Z" } : Jvm.MethodName)) ∈ gw := gw_t2 (k := 133) rfl rfl
theorem wm_X2_cut : (Jvm.Cond.instanceMethod ({ cls := "PotVolumes", name := "cut", desc := "(II)Z" } : Jvm.MethodName)) ∈ gw := gw_t2 (k := 134) rfl rfl
theorem we_X2_cut : (Jvm.Cond.selects "PotVolumes" ({ cls := "PotVolumes", name := "cut", desc := "(II)Z" } : Jvm.MethodName) ({ cls := "PotVolumes", name := "cut", desc := "(II)Z" } : Jvm.MethodName)) ∈ gw := gw_t2 (k := 135) rfl rfl
theorem wc_X2_cut : (Jvm.Cond.code ({ cls := "PotVolumes", name := "cut", desc := "(II)Z" } : Jvm.MethodName) prog_1_method_11_code (3 : Nat) (Option.some Jvm.ClassFile.FieldType.boolean)) ∈ gw := gw_t2 (k := 136) rfl rfl
theorem wl_X2_127 : (Jvm.Cond.methodLink "PotVolumes" (127 : Nat) ({ cls := "PotVolumes$Profile", name := "cutAt", desc := "(I)Z" } : Jvm.MethodName)) ∈ gw := gw_t2 (k := 137) rfl rfl
theorem wm_X1_cutAt : (Jvm.Cond.instanceMethod ({ cls := "PotVolumes$Profile", name := "cutAt", desc := "(I)Z" } : Jvm.MethodName)) ∈ gw := gw_t2 (k := 138) rfl rfl
theorem we_X1_cutAt : (Jvm.Cond.selects "PotVolumes$Profile" ({ cls := "PotVolumes$Profile", name := "cutAt", desc := "(I)Z" } : Jvm.MethodName) ({ cls := "PotVolumes$Profile", name := "cutAt", desc := "(I)Z" } : Jvm.MethodName)) ∈ gw := gw_t2 (k := 139) rfl rfl
theorem wc_X1_cutAt : (Jvm.Cond.code ({ cls := "PotVolumes$Profile", name := "cutAt", desc := "(I)Z" } : Jvm.MethodName) prog_3_method_12_code (4 : Nat) (Option.some Jvm.ClassFile.FieldType.boolean)) ∈ gw := gw_t2 (k := 140) rfl rfl
theorem wl_X1_73 : (Jvm.Cond.methodLink "PotVolumes$Profile" (73 : Nat) ({ cls := "PotVolumes$Profile", name := "countUpTo", desc := "(I)I" } : Jvm.MethodName)) ∈ gw := gw_t2 (k := 141) rfl rfl
theorem wm_X1_countUpTo : (Jvm.Cond.instanceMethod ({ cls := "PotVolumes$Profile", name := "countUpTo", desc := "(I)I" } : Jvm.MethodName)) ∈ gw := gw_t2 (k := 143) rfl rfl
theorem wc_X1_countUpTo : (Jvm.Cond.code ({ cls := "PotVolumes$Profile", name := "countUpTo", desc := "(I)I" } : Jvm.MethodName) prog_3_method_13_code (4 : Nat) (Option.some Jvm.ClassFile.FieldType.int)) ∈ gw := gw_t2 (k := 144) rfl rfl
theorem wl_L_123 : (Jvm.Cond.methodLink "PotVolumesLaw" (123 : Nat) ({ cls := "PotVolumesLaw", name := "drawn", desc := "(LPotVolumes;III[J)I" } : Jvm.MethodName)) ∈ gw := gw_t2 (k := 145) rfl rfl
theorem wt_L_drawn : (Jvm.Cond.static ({ cls := "PotVolumesLaw", name := "drawn", desc := "(LPotVolumes;III[J)I" } : Jvm.MethodName)) ∈ gw := gw_t2 (k := 146) rfl rfl
theorem wc_L_drawn : (Jvm.Cond.codeWith ({ cls := "PotVolumesLaw", name := "drawn", desc := "(LPotVolumes;III[J)I" } : Jvm.MethodName) method_13_code (6 : Nat) (Option.some Jvm.ClassFile.FieldType.int) [((0 : Nat), (12 : Nat), (15 : Nat), (19 : Nat))]) ∈ gw := gw_t2 (k := 147) rfl rfl
theorem wl_L_52 : (Jvm.Cond.methodLink "PotVolumesLaw" (52 : Nat) ({ cls := "PotVolumes", name := "drawn", desc := "(III)I" } : Jvm.MethodName)) ∈ gw := gw_t2 (k := 148) rfl rfl
theorem wm_X2_drawn : (Jvm.Cond.instanceMethod ({ cls := "PotVolumes", name := "drawn", desc := "(III)I" } : Jvm.MethodName)) ∈ gw := gw_t2 (k := 149) rfl rfl
theorem we_X2_drawn : (Jvm.Cond.selects "PotVolumes" ({ cls := "PotVolumes", name := "drawn", desc := "(III)I" } : Jvm.MethodName) ({ cls := "PotVolumes", name := "drawn", desc := "(III)I" } : Jvm.MethodName)) ∈ gw := gw_t2 (k := 150) rfl rfl
theorem wc_X2_drawn : (Jvm.Cond.code ({ cls := "PotVolumes", name := "drawn", desc := "(III)I" } : Jvm.MethodName) prog_1_method_12_code (7 : Nat) (Option.some Jvm.ClassFile.FieldType.int)) ∈ gw := gw_t2 (k := 151) rfl rfl
theorem wl_X2_131 : (Jvm.Cond.methodLink "PotVolumes" (131 : Nat) ({ cls := "PotVolumes$Profile", name := "countOffAxis", desc := "()I" } : Jvm.MethodName)) ∈ gw := gw_t2 (k := 152) rfl rfl
theorem wm_X1_countOffAxis : (Jvm.Cond.instanceMethod ({ cls := "PotVolumes$Profile", name := "countOffAxis", desc := "()I" } : Jvm.MethodName)) ∈ gw := gw_t2 (k := 153) rfl rfl
theorem we_X1_countOffAxis : (Jvm.Cond.selects "PotVolumes$Profile" ({ cls := "PotVolumes$Profile", name := "countOffAxis", desc := "()I" } : Jvm.MethodName) ({ cls := "PotVolumes$Profile", name := "countOffAxis", desc := "()I" } : Jvm.MethodName)) ∈ gw := gw_t2 (k := 154) rfl rfl
theorem wc_X1_countOffAxis : (Jvm.Cond.code ({ cls := "PotVolumes$Profile", name := "countOffAxis", desc := "()I" } : Jvm.MethodName) prog_3_method_14_code (3 : Nat) (Option.some Jvm.ClassFile.FieldType.int)) ∈ gw := gw_t2 (k := 155) rfl rfl
theorem wl_X2_137 : (Jvm.Cond.methodLink "PotVolumes" (137 : Nat) ({ cls := "PotVolumes$Profile", name := "findOffAxis", desc := "(I)I" } : Jvm.MethodName)) ∈ gw := gw_t2 (k := 157) rfl rfl
theorem wm_X1_findOffAxis : (Jvm.Cond.instanceMethod ({ cls := "PotVolumes$Profile", name := "findOffAxis", desc := "(I)I" } : Jvm.MethodName)) ∈ gw := gw_t2 (k := 158) rfl rfl
theorem we_X1_findOffAxis : (Jvm.Cond.selects "PotVolumes$Profile" ({ cls := "PotVolumes$Profile", name := "findOffAxis", desc := "(I)I" } : Jvm.MethodName) ({ cls := "PotVolumes$Profile", name := "findOffAxis", desc := "(I)I" } : Jvm.MethodName)) ∈ gw := gw_t2 (k := 159) rfl rfl
theorem wc_X1_findOffAxis : (Jvm.Cond.code ({ cls := "PotVolumes$Profile", name := "findOffAxis", desc := "(I)I" } : Jvm.MethodName) prog_3_method_15_code (4 : Nat) (Option.some Jvm.ClassFile.FieldType.int)) ∈ gw := gw_t2 (k := 160) rfl rfl
theorem wl_L_126 : (Jvm.Cond.methodLink "PotVolumesLaw" (126 : Nat) ({ cls := "PotVolumesLaw", name := "bound", desc := "(LPotVolumes;I[J)I" } : Jvm.MethodName)) ∈ gw := gw_t2 (k := 161) rfl rfl
theorem wt_L_bound : (Jvm.Cond.static ({ cls := "PotVolumesLaw", name := "bound", desc := "(LPotVolumes;I[J)I" } : Jvm.MethodName)) ∈ gw := gw_t2 (k := 162) rfl rfl
theorem wc_L_bound : (Jvm.Cond.codeWith ({ cls := "PotVolumesLaw", name := "bound", desc := "(LPotVolumes;I[J)I" } : Jvm.MethodName) method_14_code (4 : Nat) (Option.some Jvm.ClassFile.FieldType.int) [((0 : Nat), (9 : Nat), (12 : Nat), (21 : Nat)), ((0 : Nat), (9 : Nat), (15 : Nat), (13 : Nat))]) ∈ gw := gw_t2 (k := 163) rfl rfl
theorem wl_L_55 : (Jvm.Cond.methodLink "PotVolumesLaw" (55 : Nat) ({ cls := "PotVolumes", name := "bound", desc := "(I)I" } : Jvm.MethodName)) ∈ gw := gw_t2 (k := 164) rfl rfl
theorem wm_X2_bound : (Jvm.Cond.instanceMethod ({ cls := "PotVolumes", name := "bound", desc := "(I)I" } : Jvm.MethodName)) ∈ gw := gw_t2 (k := 165) rfl rfl
theorem we_X2_bound : (Jvm.Cond.selects "PotVolumes" ({ cls := "PotVolumes", name := "bound", desc := "(I)I" } : Jvm.MethodName) ({ cls := "PotVolumes", name := "bound", desc := "(I)I" } : Jvm.MethodName)) ∈ gw := gw_t2 (k := 166) rfl rfl
theorem wc_X2_bound : (Jvm.Cond.code ({ cls := "PotVolumes", name := "bound", desc := "(I)I" } : Jvm.MethodName) prog_1_method_13_code (2 : Nat) (Option.some Jvm.ClassFile.FieldType.int)) ∈ gw := gw_t2 (k := 167) rfl rfl
theorem wl_X2_140 : (Jvm.Cond.constant "PotVolumes" (140 : Nat) (1000000000 : Int32)) ∈ gw := gw_t2 (k := 168) rfl rfl
theorem wl_L_130 : (Jvm.Cond.methodLink "PotVolumesLaw" (130 : Nat) ({ cls := "PotVolumesLaw", name := "size", desc := "(LPotVolumes;I[J)I" } : Jvm.MethodName)) ∈ gw := gw_t2 (k := 171) rfl rfl
theorem wt_L_size : (Jvm.Cond.static ({ cls := "PotVolumesLaw", name := "size", desc := "(LPotVolumes;I[J)I" } : Jvm.MethodName)) ∈ gw := gw_t2 (k := 172) rfl rfl
theorem wc_L_size : (Jvm.Cond.codeWith ({ cls := "PotVolumesLaw", name := "size", desc := "(LPotVolumes;I[J)I" } : Jvm.MethodName) method_15_code (4 : Nat) (Option.some Jvm.ClassFile.FieldType.int) [((0 : Nat), (9 : Nat), (12 : Nat), (19 : Nat))]) ∈ gw := gw_t2 (k := 173) rfl rfl
theorem wl_L_59 : (Jvm.Cond.methodLink "PotVolumesLaw" (59 : Nat) ({ cls := "PotVolumes", name := "size", desc := "(I)I" } : Jvm.MethodName)) ∈ gw := gw_t2 (k := 174) rfl rfl
theorem wm_X2_size : (Jvm.Cond.instanceMethod ({ cls := "PotVolumes", name := "size", desc := "(I)I" } : Jvm.MethodName)) ∈ gw := gw_t2 (k := 175) rfl rfl
theorem we_X2_size : (Jvm.Cond.selects "PotVolumes" ({ cls := "PotVolumes", name := "size", desc := "(I)I" } : Jvm.MethodName) ({ cls := "PotVolumes", name := "size", desc := "(I)I" } : Jvm.MethodName)) ∈ gw := gw_t2 (k := 176) rfl rfl
theorem wc_X2_size : (Jvm.Cond.code ({ cls := "PotVolumes", name := "size", desc := "(I)I" } : Jvm.MethodName) prog_1_method_14_code (6 : Nat) (Option.some Jvm.ClassFile.FieldType.int)) ∈ gw := gw_t2 (k := 177) rfl rfl
theorem wl_L_133 : (Jvm.Cond.methodLink "PotVolumesLaw" (133 : Nat) ({ cls := "PotVolumesLaw", name := "rim", desc := "(LPotVolumes;II[J)I" } : Jvm.MethodName)) ∈ gw := gw_t2 (k := 178) rfl rfl
theorem wt_L_rim : (Jvm.Cond.static ({ cls := "PotVolumesLaw", name := "rim", desc := "(LPotVolumes;II[J)I" } : Jvm.MethodName)) ∈ gw := gw_t2 (k := 179) rfl rfl
theorem wc_L_rim : (Jvm.Cond.codeWith ({ cls := "PotVolumesLaw", name := "rim", desc := "(LPotVolumes;II[J)I" } : Jvm.MethodName) method_16_code (5 : Nat) (Option.some Jvm.ClassFile.FieldType.int) [((0 : Nat), (10 : Nat), (13 : Nat), (21 : Nat)), ((0 : Nat), (10 : Nat), (17 : Nat), (13 : Nat))]) ∈ gw := gw_t2 (k := 180) rfl rfl
theorem wl_L_62 : (Jvm.Cond.methodLink "PotVolumesLaw" (62 : Nat) ({ cls := "PotVolumes", name := "rim", desc := "(II)I" } : Jvm.MethodName)) ∈ gw := gw_t2 (k := 181) rfl rfl
theorem wm_X2_rim : (Jvm.Cond.instanceMethod ({ cls := "PotVolumes", name := "rim", desc := "(II)I" } : Jvm.MethodName)) ∈ gw := gw_t2 (k := 182) rfl rfl
theorem we_X2_rim : (Jvm.Cond.selects "PotVolumes" ({ cls := "PotVolumes", name := "rim", desc := "(II)I" } : Jvm.MethodName) ({ cls := "PotVolumes", name := "rim", desc := "(II)I" } : Jvm.MethodName)) ∈ gw := gw_t2 (k := 183) rfl rfl
theorem wc_X2_rim : (Jvm.Cond.code ({ cls := "PotVolumes", name := "rim", desc := "(II)I" } : Jvm.MethodName) prog_1_method_15_code (3 : Nat) (Option.some Jvm.ClassFile.FieldType.int)) ∈ gw := gw_t2 (k := 184) rfl rfl
theorem wl_L_140 : (Jvm.Cond.methodLink "PotVolumesLaw" (140 : Nat) ({ cls := "PotVolumesLaw", name := "circle", desc := "(LPotVolumes;I[J)I" } : Jvm.MethodName)) ∈ gw := gw_t2 (k := 187) rfl rfl
theorem wt_L_circle : (Jvm.Cond.static ({ cls := "PotVolumesLaw", name := "circle", desc := "(LPotVolumes;I[J)I" } : Jvm.MethodName)) ∈ gw := gw_t2 (k := 188) rfl rfl
theorem wc_L_circle : (Jvm.Cond.codeWith ({ cls := "PotVolumesLaw", name := "circle", desc := "(LPotVolumes;I[J)I" } : Jvm.MethodName) method_17_code (4 : Nat) (Option.some Jvm.ClassFile.FieldType.int) [((0 : Nat), (8 : Nat), (11 : Nat), (19 : Nat)), ((0 : Nat), (8 : Nat), (14 : Nat), (13 : Nat))]) ∈ gw := gw_t2 (k := 189) rfl rfl
theorem wl_L_65 : (Jvm.Cond.methodLink "PotVolumesLaw" (65 : Nat) ({ cls := "PotVolumes", name := "circle", desc := "(I)J" } : Jvm.MethodName)) ∈ gw := gw_t2 (k := 190) rfl rfl
theorem wm_X2_circle : (Jvm.Cond.instanceMethod ({ cls := "PotVolumes", name := "circle", desc := "(I)J" } : Jvm.MethodName)) ∈ gw := gw_t2 (k := 191) rfl rfl
theorem we_X2_circle : (Jvm.Cond.selects "PotVolumes" ({ cls := "PotVolumes", name := "circle", desc := "(I)J" } : Jvm.MethodName) ({ cls := "PotVolumes", name := "circle", desc := "(I)J" } : Jvm.MethodName)) ∈ gw := gw_t2 (k := 192) rfl rfl
theorem wc_X2_circle : (Jvm.Cond.code ({ cls := "PotVolumes", name := "circle", desc := "(I)J" } : Jvm.MethodName) prog_1_method_17_code (2 : Nat) (Option.some Jvm.ClassFile.FieldType.long)) ∈ gw := gw_t2 (k := 193) rfl rfl
theorem wl_X2_155 : (Jvm.Cond.methodLink "PotVolumes" (155 : Nat) ({ cls := "PotVolumes", name := "needCircle", desc := "()V" } : Jvm.MethodName)) ∈ gw := gw_t2 (k := 194) rfl rfl
theorem wm_X2_needCircle : (Jvm.Cond.instanceMethod ({ cls := "PotVolumes", name := "needCircle", desc := "()V" } : Jvm.MethodName)) ∈ gw := gw_t2 (k := 196) rfl rfl
theorem wc_X2_needCircle : (Jvm.Cond.code ({ cls := "PotVolumes", name := "needCircle", desc := "()V" } : Jvm.MethodName) prog_1_method_25_code (1 : Nat) (Option.none : Option Jvm.ClassFile.FieldType)) ∈ gw := gw_t2 (k := 197) rfl rfl
theorem wl_X2_158 : (Jvm.Cond.methodLink "PotVolumes" (158 : Nat) ({ cls := "PotVolumes", name := "measureCircle", desc := "()V" } : Jvm.MethodName)) ∈ gw := gw_t2 (k := 199) rfl rfl
theorem wm_X2_measureCircle : (Jvm.Cond.instanceMethod ({ cls := "PotVolumes", name := "measureCircle", desc := "()V" } : Jvm.MethodName)) ∈ gw := gw_t2 (k := 201) rfl rfl
theorem wc_X2_measureCircle : (Jvm.Cond.code ({ cls := "PotVolumes", name := "measureCircle", desc := "()V" } : Jvm.MethodName) prog_1_method_26_code (15 : Nat) (Option.none : Option Jvm.ClassFile.FieldType)) ∈ gw := gw_t2 (k := 202) rfl rfl
theorem wl_X2_192 : (Jvm.Cond.methodLink "PotVolumes" (192 : Nat) ({ cls := "PotVolumes$Fraction", name := "clearToZero", desc := "()V" } : Jvm.MethodName)) ∈ gw := gw_t2 (k := 203) rfl rfl
theorem wl_X2_195 : (Jvm.Cond.methodLink "PotVolumes" (195 : Nat) ({ cls := "PotVolumes", name := "squareOfLength", desc := "(JJ)J" } : Jvm.MethodName)) ∈ gw := gw_t2 (k := 204) rfl rfl
theorem wt_X2_squareOfLength : (Jvm.Cond.static ({ cls := "PotVolumes", name := "squareOfLength", desc := "(JJ)J" } : Jvm.MethodName)) ∈ gw := gw_t2 (k := 205) rfl rfl
theorem wc_X2_squareOfLength : (Jvm.Cond.code ({ cls := "PotVolumes", name := "squareOfLength", desc := "(JJ)J" } : Jvm.MethodName) prog_1_method_27_code (4 : Nat) (Option.some Jvm.ClassFile.FieldType.long)) ∈ gw := gw_t2 (k := 206) rfl rfl
theorem wl_X2_199 : (Jvm.Cond.constantLong "PotVolumes" (199 : Nat) (4 : Int64)) ∈ gw := gw_t2 (k := 207) rfl rfl
theorem wl_X2_201 : (Jvm.Cond.methodLink "PotVolumes" (201 : Nat) ({ cls := "PotVolumes$Fraction", name := "add", desc := "(JJ)V" } : Jvm.MethodName)) ∈ gw := gw_t2 (k := 208) rfl rfl
theorem wl_L_143 : (Jvm.Cond.methodLink "PotVolumesLaw" (143 : Nat) ({ cls := "PotVolumesLaw", name := "curve", desc := "(LPotVolumes;[J)I" } : Jvm.MethodName)) ∈ gw := gw_t2 (k := 209) rfl rfl
theorem wt_L_curve : (Jvm.Cond.static ({ cls := "PotVolumesLaw", name := "curve", desc := "(LPotVolumes;[J)I" } : Jvm.MethodName)) ∈ gw := gw_t2 (k := 210) rfl rfl
theorem wc_L_curve : (Jvm.Cond.codeWith ({ cls := "PotVolumesLaw", name := "curve", desc := "(LPotVolumes;[J)I" } : Jvm.MethodName) method_18_code (3 : Nat) (Option.some Jvm.ClassFile.FieldType.int) [((0 : Nat), (8 : Nat), (11 : Nat), (13 : Nat))]) ∈ gw := gw_t2 (k := 211) rfl rfl
theorem wl_L_69 : (Jvm.Cond.methodLink "PotVolumesLaw" (69 : Nat) ({ cls := "PotVolumes", name := "curve", desc := "()I" } : Jvm.MethodName)) ∈ gw := gw_t2 (k := 212) rfl rfl
theorem wm_X2_curve : (Jvm.Cond.instanceMethod ({ cls := "PotVolumes", name := "curve", desc := "()I" } : Jvm.MethodName)) ∈ gw := gw_t2 (k := 213) rfl rfl
theorem we_X2_curve : (Jvm.Cond.selects "PotVolumes" ({ cls := "PotVolumes", name := "curve", desc := "()I" } : Jvm.MethodName) ({ cls := "PotVolumes", name := "curve", desc := "()I" } : Jvm.MethodName)) ∈ gw := gw_t2 (k := 214) rfl rfl
theorem wc_X2_curve : (Jvm.Cond.code ({ cls := "PotVolumes", name := "curve", desc := "()I" } : Jvm.MethodName) prog_1_method_18_code (1 : Nat) (Option.some Jvm.ClassFile.FieldType.int)) ∈ gw := gw_t2 (k := 215) rfl rfl
theorem wl_X2_161 : (Jvm.Cond.methodLink "PotVolumes" (161 : Nat) ({ cls := "PotVolumes$Fraction", name := "roundedDown", desc := "()J" } : Jvm.MethodName)) ∈ gw := gw_t2 (k := 216) rfl rfl
theorem wm_X0_roundedDown : (Jvm.Cond.instanceMethod ({ cls := "PotVolumes$Fraction", name := "roundedDown", desc := "()J" } : Jvm.MethodName)) ∈ gw := gw_t2 (k := 217) rfl rfl
theorem we_X0_roundedDown : (Jvm.Cond.selects "PotVolumes$Fraction" ({ cls := "PotVolumes$Fraction", name := "roundedDown", desc := "()J" } : Jvm.MethodName) ({ cls := "PotVolumes$Fraction", name := "roundedDown", desc := "()J" } : Jvm.MethodName)) ∈ gw := gw_t2 (k := 218) rfl rfl
theorem wc_X0_roundedDown : (Jvm.Cond.code ({ cls := "PotVolumes$Fraction", name := "roundedDown", desc := "()J" } : Jvm.MethodName) prog_2_method_7_code (1 : Nat) (Option.some Jvm.ClassFile.FieldType.long)) ∈ gw := gw_t2 (k := 219) rfl rfl
theorem wl_X2_164 : (Jvm.Cond.methodLink "PotVolumes" (164 : Nat) ({ cls := "PotVolumes", name := "rootDown", desc := "(J)I" } : Jvm.MethodName)) ∈ gw := gw_t2 (k := 220) rfl rfl
theorem wt_X2_rootDown : (Jvm.Cond.static ({ cls := "PotVolumes", name := "rootDown", desc := "(J)I" } : Jvm.MethodName)) ∈ gw := gw_t2 (k := 221) rfl rfl
theorem wc_X2_rootDown : (Jvm.Cond.code ({ cls := "PotVolumes", name := "rootDown", desc := "(J)I" } : Jvm.MethodName) prog_1_method_28_code (6 : Nat) (Option.some Jvm.ClassFile.FieldType.int)) ∈ gw := gw_t2 (k := 222) rfl rfl
theorem wl_L_146 : (Jvm.Cond.methodLink "PotVolumesLaw" (146 : Nat) ({ cls := "PotVolumesLaw", name := "sherd", desc := "(LPotVolumes;II[J)I" } : Jvm.MethodName)) ∈ gw := gw_t2 (k := 223) rfl rfl
theorem wt_L_sherd : (Jvm.Cond.static ({ cls := "PotVolumesLaw", name := "sherd", desc := "(LPotVolumes;II[J)I" } : Jvm.MethodName)) ∈ gw := gw_t2 (k := 224) rfl rfl
theorem wc_L_sherd : (Jvm.Cond.codeWith ({ cls := "PotVolumesLaw", name := "sherd", desc := "(LPotVolumes;II[J)I" } : Jvm.MethodName) method_19_code (5 : Nat) (Option.some Jvm.ClassFile.FieldType.int) [((0 : Nat), (10 : Nat), (13 : Nat), (19 : Nat)), ((0 : Nat), (10 : Nat), (17 : Nat), (21 : Nat)), ((0 : Nat), (10 : Nat), (21 : Nat), (13 : Nat))]) ∈ gw := gw_t2 (k := 225) rfl rfl
theorem wl_L_72 : (Jvm.Cond.methodLink "PotVolumesLaw" (72 : Nat) ({ cls := "PotVolumes", name := "sherd", desc := "(II)I" } : Jvm.MethodName)) ∈ gw := gw_t2 (k := 226) rfl rfl
theorem wm_X2_sherd : (Jvm.Cond.instanceMethod ({ cls := "PotVolumes", name := "sherd", desc := "(II)I" } : Jvm.MethodName)) ∈ gw := gw_t2 (k := 227) rfl rfl
theorem we_X2_sherd : (Jvm.Cond.selects "PotVolumes" ({ cls := "PotVolumes", name := "sherd", desc := "(II)I" } : Jvm.MethodName) ({ cls := "PotVolumes", name := "sherd", desc := "(II)I" } : Jvm.MethodName)) ∈ gw := gw_t2 (k := 228) rfl rfl
theorem wc_X2_sherd : (Jvm.Cond.code ({ cls := "PotVolumes", name := "sherd", desc := "(II)I" } : Jvm.MethodName) prog_1_method_19_code (3 : Nat) (Option.some Jvm.ClassFile.FieldType.int)) ∈ gw := gw_t2 (k := 229) rfl rfl
theorem wl_X2_168 : (Jvm.Cond.methodLink "PotVolumes" (168 : Nat) ({ cls := "PotVolumes", name := "needProfile", desc := "(I)V" } : Jvm.MethodName)) ∈ gw := gw_t2 (k := 230) rfl rfl
theorem wm_X2_needProfile : (Jvm.Cond.instanceMethod ({ cls := "PotVolumes", name := "needProfile", desc := "(I)V" } : Jvm.MethodName)) ∈ gw := gw_t2 (k := 232) rfl rfl
theorem wc_X2_needProfile : (Jvm.Cond.code ({ cls := "PotVolumes", name := "needProfile", desc := "(I)V" } : Jvm.MethodName) prog_1_method_23_code (2 : Nat) (Option.none : Option Jvm.ClassFile.FieldType)) ∈ gw := gw_t2 (k := 233) rfl rfl
theorem wl_X2_178 : (Jvm.Cond.methodLink "PotVolumes" (178 : Nat) ({ cls := "PotVolumes", name := "sumOfShares", desc := "(I)I" } : Jvm.MethodName)) ∈ gw := gw_t2 (k := 236) rfl rfl
theorem wm_X2_sumOfShares : (Jvm.Cond.instanceMethod ({ cls := "PotVolumes", name := "sumOfShares", desc := "(I)I" } : Jvm.MethodName)) ∈ gw := gw_t2 (k := 238) rfl rfl
theorem wc_X2_sumOfShares : (Jvm.Cond.code ({ cls := "PotVolumes", name := "sumOfShares", desc := "(I)I" } : Jvm.MethodName) prog_1_method_29_code (4 : Nat) (Option.some Jvm.ClassFile.FieldType.int)) ∈ gw := gw_t2 (k := 239) rfl rfl
theorem wl_L_149 : (Jvm.Cond.methodLink "PotVolumesLaw" (149 : Nat) ({ cls := "PotVolumesLaw", name := "vessels", desc := "(LPotVolumes;II[J)I" } : Jvm.MethodName)) ∈ gw := gw_t3 (k := 0) rfl rfl
theorem wt_L_vessels : (Jvm.Cond.static ({ cls := "PotVolumesLaw", name := "vessels", desc := "(LPotVolumes;II[J)I" } : Jvm.MethodName)) ∈ gw := gw_t3 (k := 1) rfl rfl
theorem wc_L_vessels : (Jvm.Cond.codeWith ({ cls := "PotVolumesLaw", name := "vessels", desc := "(LPotVolumes;II[J)I" } : Jvm.MethodName) method_20_code (5 : Nat) (Option.some Jvm.ClassFile.FieldType.int) [((0 : Nat), (10 : Nat), (13 : Nat), (19 : Nat))]) ∈ gw := gw_t3 (k := 2) rfl rfl
theorem wl_L_75 : (Jvm.Cond.methodLink "PotVolumesLaw" (75 : Nat) ({ cls := "PotVolumes", name := "vessels", desc := "(II)I" } : Jvm.MethodName)) ∈ gw := gw_t3 (k := 3) rfl rfl
theorem wm_X2_vessels : (Jvm.Cond.instanceMethod ({ cls := "PotVolumes", name := "vessels", desc := "(II)I" } : Jvm.MethodName)) ∈ gw := gw_t3 (k := 4) rfl rfl
theorem we_X2_vessels : (Jvm.Cond.selects "PotVolumes" ({ cls := "PotVolumes", name := "vessels", desc := "(II)I" } : Jvm.MethodName) ({ cls := "PotVolumes", name := "vessels", desc := "(II)I" } : Jvm.MethodName)) ∈ gw := gw_t3 (k := 5) rfl rfl
theorem wc_X2_vessels : (Jvm.Cond.code ({ cls := "PotVolumes", name := "vessels", desc := "(II)I" } : Jvm.MethodName) prog_1_method_20_code (3 : Nat) (Option.some Jvm.ClassFile.FieldType.int)) ∈ gw := gw_t3 (k := 6) rfl rfl
theorem wl_X2_181 : (Jvm.Cond.methodLink "PotVolumes" (181 : Nat) ({ cls := "PotVolumes", name := "vesselsBySherds", desc := "(I)I" } : Jvm.MethodName)) ∈ gw := gw_t3 (k := 7) rfl rfl
theorem wm_X2_vesselsBySherds : (Jvm.Cond.instanceMethod ({ cls := "PotVolumes", name := "vesselsBySherds", desc := "(I)I" } : Jvm.MethodName)) ∈ gw := gw_t3 (k := 9) rfl rfl
theorem wc_X2_vesselsBySherds : (Jvm.Cond.code ({ cls := "PotVolumes", name := "vesselsBySherds", desc := "(I)I" } : Jvm.MethodName) prog_1_method_30_code (5 : Nat) (Option.some Jvm.ClassFile.FieldType.int)) ∈ gw := gw_t3 (k := 10) rfl rfl
theorem wl_X2_205 : (Jvm.Cond.methodLink "PotVolumes" (205 : Nat) ({ cls := "PotVolumes", name := "firstWithRoom", desc := "(II)I" } : Jvm.MethodName)) ∈ gw := gw_t3 (k := 11) rfl rfl
theorem wm_X2_firstWithRoom : (Jvm.Cond.instanceMethod ({ cls := "PotVolumes", name := "firstWithRoom", desc := "(II)I" } : Jvm.MethodName)) ∈ gw := gw_t3 (k := 13) rfl rfl
theorem wc_X2_firstWithRoom : (Jvm.Cond.code ({ cls := "PotVolumes", name := "firstWithRoom", desc := "(II)I" } : Jvm.MethodName) prog_1_method_31_code (4 : Nat) (Option.some Jvm.ClassFile.FieldType.int)) ∈ gw := gw_t3 (k := 14) rfl rfl
theorem wl_L_152 : (Jvm.Cond.methodLink "PotVolumesLaw" (152 : Nat) ({ cls := "PotVolumesLaw", name := "count", desc := "(LPotVolumes;I[J)I" } : Jvm.MethodName)) ∈ gw := gw_t3 (k := 15) rfl rfl
theorem wt_L_count : (Jvm.Cond.static ({ cls := "PotVolumesLaw", name := "count", desc := "(LPotVolumes;I[J)I" } : Jvm.MethodName)) ∈ gw := gw_t3 (k := 16) rfl rfl
theorem wc_L_count : (Jvm.Cond.codeWith ({ cls := "PotVolumesLaw", name := "count", desc := "(LPotVolumes;I[J)I" } : Jvm.MethodName) method_21_code (4 : Nat) (Option.some Jvm.ClassFile.FieldType.int) [((0 : Nat), (9 : Nat), (12 : Nat), (19 : Nat))]) ∈ gw := gw_t3 (k := 17) rfl rfl
theorem wl_L_78 : (Jvm.Cond.methodLink "PotVolumesLaw" (78 : Nat) ({ cls := "PotVolumes", name := "count", desc := "(I)I" } : Jvm.MethodName)) ∈ gw := gw_t3 (k := 18) rfl rfl
theorem wm_X2_count : (Jvm.Cond.instanceMethod ({ cls := "PotVolumes", name := "count", desc := "(I)I" } : Jvm.MethodName)) ∈ gw := gw_t3 (k := 19) rfl rfl
theorem we_X2_count : (Jvm.Cond.selects "PotVolumes" ({ cls := "PotVolumes", name := "count", desc := "(I)I" } : Jvm.MethodName) ({ cls := "PotVolumes", name := "count", desc := "(I)I" } : Jvm.MethodName)) ∈ gw := gw_t3 (k := 20) rfl rfl
theorem wc_X2_count : (Jvm.Cond.code ({ cls := "PotVolumes", name := "count", desc := "(I)I" } : Jvm.MethodName) prog_1_method_21_code (2 : Nat) (Option.some Jvm.ClassFile.FieldType.int)) ∈ gw := gw_t3 (k := 21) rfl rfl
theorem wl_L_82 : (Jvm.Cond.classLink "PotVolumesLaw" (82 : Nat) "PotVolumesModel") ∈ gw := gw_t3 (k := 23) rfl rfl
theorem wn_X3 : (Jvm.Cond.instantiable "PotVolumesModel" (18 : Nat)) ∈ gw := gw_t3 (k := 24) rfl rfl
theorem wl_L_84 : (Jvm.Cond.methodLink "PotVolumesLaw" (84 : Nat) ({ cls := "PotVolumesModel", name := "<init>", desc := "()V" } : Jvm.MethodName)) ∈ gw := gw_t3 (k := 25) rfl rfl
theorem wm_X3_init : (Jvm.Cond.instanceMethod ({ cls := "PotVolumesModel", name := "<init>", desc := "()V" } : Jvm.MethodName)) ∈ gw := gw_t3 (k := 26) rfl rfl
theorem wc_X3_init : (Jvm.Cond.code ({ cls := "PotVolumesModel", name := "<init>", desc := "()V" } : Jvm.MethodName) prog_5_method_1_code (1 : Nat) (Option.none : Option Jvm.ClassFile.FieldType)) ∈ gw := gw_t3 (k := 27) rfl rfl
theorem wl_X3_1 : (Jvm.Cond.methodLink "PotVolumesModel" (1 : Nat) ({ cls := "java/lang/Object", name := "<init>", desc := "()V" } : Jvm.MethodName)) ∈ gw := gw_t3 (k := 28) rfl rfl
theorem wl_X3_48 : (Jvm.Cond.fieldLink "PotVolumesModel" (48 : Nat) "PotVolumesModel" "thrown" "I") ∈ gw := gw_t3 (k := 29) rfl rfl
theorem wl_X3_52 : (Jvm.Cond.fieldLink "PotVolumesModel" (52 : Nat) "PotVolumesModel" "profiles" "I") ∈ gw := gw_t3 (k := 30) rfl rfl
theorem wl_X3_7 : (Jvm.Cond.fieldLink "PotVolumesModel" (7 : Nat) "PotVolumesModel" "sizes" "[I") ∈ gw := gw_t3 (k := 31) rfl rfl
theorem wl_X3_13 : (Jvm.Cond.fieldLink "PotVolumesModel" (13 : Nat) "PotVolumesModel" "heights" "[I") ∈ gw := gw_t3 (k := 32) rfl rfl
theorem wl_X3_16 : (Jvm.Cond.fieldLink "PotVolumesModel" (16 : Nat) "PotVolumesModel" "radii" "[I") ∈ gw := gw_t3 (k := 33) rfl rfl
theorem wl_X3_19 : (Jvm.Cond.fieldLink "PotVolumesModel" (19 : Nat) "PotVolumesModel" "isCut" "[Z") ∈ gw := gw_t3 (k := 34) rfl rfl
theorem wl_X3_23 : (Jvm.Cond.fieldLink "PotVolumesModel" (23 : Nat) "PotVolumesModel" "walls" "[I") ∈ gw := gw_t3 (k := 35) rfl rfl
theorem wl_X3_26 : (Jvm.Cond.fieldLink "PotVolumesModel" (26 : Nat) "PotVolumesModel" "bounds" "[I") ∈ gw := gw_t3 (k := 36) rfl rfl
theorem wl_X3_136 : (Jvm.Cond.fieldLink "PotVolumesModel" (136 : Nat) "PotVolumesModel" "boundCount" "I") ∈ gw := gw_t3 (k := 37) rfl rfl
theorem wl_X3_29 : (Jvm.Cond.fieldLink "PotVolumesModel" (29 : Nat) "PotVolumesModel" "rimX" "[I") ∈ gw := gw_t3 (k := 38) rfl rfl
theorem wl_X3_32 : (Jvm.Cond.fieldLink "PotVolumesModel" (32 : Nat) "PotVolumesModel" "rimY" "[I") ∈ gw := gw_t3 (k := 39) rfl rfl
theorem wl_X3_139 : (Jvm.Cond.fieldLink "PotVolumesModel" (139 : Nat) "PotVolumesModel" "places" "I") ∈ gw := gw_t3 (k := 40) rfl rfl
theorem wl_X3_35 : (Jvm.Cond.fieldLink "PotVolumesModel" (35 : Nat) "PotVolumesModel" "sherdOf" "[I") ∈ gw := gw_t3 (k := 41) rfl rfl
theorem wl_X3_38 : (Jvm.Cond.fieldLink "PotVolumesModel" (38 : Nat) "PotVolumesModel" "shares" "[I") ∈ gw := gw_t3 (k := 42) rfl rfl
theorem wl_X3_154 : (Jvm.Cond.fieldLink "PotVolumesModel" (154 : Nat) "PotVolumesModel" "sherds" "I") ∈ gw := gw_t3 (k := 43) rfl rfl
theorem wl_X3_41 : (Jvm.Cond.fieldLink "PotVolumesModel" (41 : Nat) "PotVolumesModel" "filled" "[I") ∈ gw := gw_t3 (k := 44) rfl rfl
theorem wl_X3_84 : (Jvm.Cond.fieldLink "PotVolumesModel" (84 : Nat) "PotVolumesModel" "above" "J") ∈ gw := gw_t3 (k := 45) rfl rfl
theorem wl_X3_44 : (Jvm.Cond.fieldLink "PotVolumesModel" (44 : Nat) "PotVolumesModel" "below" "J") ∈ gw := gw_t3 (k := 46) rfl rfl
theorem wf_X3_thrown : (Jvm.Cond.lays "PotVolumesModel" "PotVolumesModel" "thrown" "I") ∈ gw := gw_t3 (k := 47) rfl rfl
theorem wf_X3_profiles : (Jvm.Cond.lays "PotVolumesModel" "PotVolumesModel" "profiles" "I") ∈ gw := gw_t3 (k := 49) rfl rfl
theorem wf_X3_sizes : (Jvm.Cond.laysFinal "PotVolumesModel" "PotVolumesModel" "sizes" "[I") ∈ gw := gw_t3 (k := 51) rfl rfl
theorem wf_X3_heights : (Jvm.Cond.laysFinal "PotVolumesModel" "PotVolumesModel" "heights" "[I") ∈ gw := gw_t3 (k := 53) rfl rfl
theorem wf_X3_radii : (Jvm.Cond.laysFinal "PotVolumesModel" "PotVolumesModel" "radii" "[I") ∈ gw := gw_t3 (k := 55) rfl rfl
theorem wf_X3_isCut : (Jvm.Cond.laysFinal "PotVolumesModel" "PotVolumesModel" "isCut" "[Z") ∈ gw := gw_t3 (k := 57) rfl rfl
theorem wf_X3_walls : (Jvm.Cond.laysFinal "PotVolumesModel" "PotVolumesModel" "walls" "[I") ∈ gw := gw_t3 (k := 59) rfl rfl
theorem wf_X3_bounds : (Jvm.Cond.laysFinal "PotVolumesModel" "PotVolumesModel" "bounds" "[I") ∈ gw := gw_t3 (k := 61) rfl rfl
theorem wf_X3_boundCount : (Jvm.Cond.lays "PotVolumesModel" "PotVolumesModel" "boundCount" "I") ∈ gw := gw_t3 (k := 63) rfl rfl
theorem wf_X3_rimX : (Jvm.Cond.laysFinal "PotVolumesModel" "PotVolumesModel" "rimX" "[I") ∈ gw := gw_t3 (k := 65) rfl rfl
theorem wf_X3_rimY : (Jvm.Cond.laysFinal "PotVolumesModel" "PotVolumesModel" "rimY" "[I") ∈ gw := gw_t3 (k := 67) rfl rfl
theorem wf_X3_places : (Jvm.Cond.lays "PotVolumesModel" "PotVolumesModel" "places" "I") ∈ gw := gw_t3 (k := 69) rfl rfl
theorem wf_X3_sherdOf : (Jvm.Cond.laysFinal "PotVolumesModel" "PotVolumesModel" "sherdOf" "[I") ∈ gw := gw_t3 (k := 71) rfl rfl
theorem wf_X3_shares : (Jvm.Cond.laysFinal "PotVolumesModel" "PotVolumesModel" "shares" "[I") ∈ gw := gw_t3 (k := 73) rfl rfl
theorem wf_X3_sherds : (Jvm.Cond.lays "PotVolumesModel" "PotVolumesModel" "sherds" "I") ∈ gw := gw_t3 (k := 75) rfl rfl
theorem wf_X3_filled : (Jvm.Cond.laysFinal "PotVolumesModel" "PotVolumesModel" "filled" "[I") ∈ gw := gw_t3 (k := 77) rfl rfl
theorem wf_X3_above : (Jvm.Cond.lays "PotVolumesModel" "PotVolumesModel" "above" "J") ∈ gw := gw_t3 (k := 79) rfl rfl
theorem wf_X3_below : (Jvm.Cond.lays "PotVolumesModel" "PotVolumesModel" "below" "J") ∈ gw := gw_t3 (k := 81) rfl rfl
theorem wa_boolean : (Jvm.Cond.arrayClass Jvm.ClassFile.FieldType.boolean) ∈ gw := gw_t3 (k := 84) rfl rfl
theorem wl_L_91 : (Jvm.Cond.methodLink "PotVolumesLaw" (91 : Nat) ({ cls := "PotVolumesModel", name := "thrown", desc := "()I" } : Jvm.MethodName)) ∈ gw := gw_t3 (k := 85) rfl rfl
theorem wm_X3_thrown : (Jvm.Cond.instanceMethod ({ cls := "PotVolumesModel", name := "thrown", desc := "()I" } : Jvm.MethodName)) ∈ gw := gw_t3 (k := 86) rfl rfl
theorem we_X3_thrown : (Jvm.Cond.selects "PotVolumesModel" ({ cls := "PotVolumesModel", name := "thrown", desc := "()I" } : Jvm.MethodName) ({ cls := "PotVolumesModel", name := "thrown", desc := "()I" } : Jvm.MethodName)) ∈ gw := gw_t3 (k := 87) rfl rfl
theorem wc_X3_thrown : (Jvm.Cond.code ({ cls := "PotVolumesModel", name := "thrown", desc := "()I" } : Jvm.MethodName) prog_5_method_2_code (1 : Nat) (Option.some Jvm.ClassFile.FieldType.int)) ∈ gw := gw_t3 (k := 88) rfl rfl
theorem wl_L_90 : (Jvm.Cond.methodLink "PotVolumesLaw" (90 : Nat) ({ cls := "PotVolumesModel", name := "profile", desc := "()I" } : Jvm.MethodName)) ∈ gw := gw_t3 (k := 89) rfl rfl
theorem wm_X3_profile : (Jvm.Cond.instanceMethod ({ cls := "PotVolumesModel", name := "profile", desc := "()I" } : Jvm.MethodName)) ∈ gw := gw_t3 (k := 90) rfl rfl
theorem we_X3_profile : (Jvm.Cond.selects "PotVolumesModel" ({ cls := "PotVolumesModel", name := "profile", desc := "()I" } : Jvm.MethodName) ({ cls := "PotVolumesModel", name := "profile", desc := "()I" } : Jvm.MethodName)) ∈ gw := gw_t3 (k := 91) rfl rfl
theorem wc_X3_profile : (Jvm.Cond.code ({ cls := "PotVolumesModel", name := "profile", desc := "()I" } : Jvm.MethodName) prog_5_method_8_code (1 : Nat) (Option.some Jvm.ClassFile.FieldType.int)) ∈ gw := gw_t3 (k := 92) rfl rfl
theorem wl_X3_59 : (Jvm.Cond.methodLink "PotVolumesModel" (59 : Nat) ({ cls := "PotVolumesModel", name := "throwing", desc := "(ZZZ)Z" } : Jvm.MethodName)) ∈ gw := gw_t3 (k := 93) rfl rfl
theorem wm_X3_throwing : (Jvm.Cond.instanceMethod ({ cls := "PotVolumesModel", name := "throwing", desc := "(ZZZ)Z" } : Jvm.MethodName)) ∈ gw := gw_t3 (k := 95) rfl rfl
theorem wc_X3_throwing : (Jvm.Cond.code ({ cls := "PotVolumesModel", name := "throwing", desc := "(ZZZ)Z" } : Jvm.MethodName) prog_5_method_3_code (4 : Nat) (Option.some Jvm.ClassFile.FieldType.boolean)) ∈ gw := gw_t3 (k := 96) rfl rfl
theorem wl_L_97 : (Jvm.Cond.methodLink "PotVolumesLaw" (97 : Nat) ({ cls := "PotVolumesModel", name := "corner", desc := "(III)Z" } : Jvm.MethodName)) ∈ gw := gw_t3 (k := 97) rfl rfl
theorem wm_X3_corner : (Jvm.Cond.instanceMethod ({ cls := "PotVolumesModel", name := "corner", desc := "(III)Z" } : Jvm.MethodName)) ∈ gw := gw_t3 (k := 98) rfl rfl
theorem we_X3_corner : (Jvm.Cond.selects "PotVolumesModel" ({ cls := "PotVolumesModel", name := "corner", desc := "(III)Z" } : Jvm.MethodName) ({ cls := "PotVolumesModel", name := "corner", desc := "(III)Z" } : Jvm.MethodName)) ∈ gw := gw_t3 (k := 99) rfl rfl
theorem wc_X3_corner : (Jvm.Cond.code ({ cls := "PotVolumesModel", name := "corner", desc := "(III)Z" } : Jvm.MethodName) prog_5_method_11_code (5 : Nat) (Option.some Jvm.ClassFile.FieldType.boolean)) ∈ gw := gw_t3 (k := 100) rfl rfl
theorem wl_X3_70 : (Jvm.Cond.methodLink "PotVolumesModel" (70 : Nat) ({ cls := "PotVolumesModel", name := "isProfile", desc := "(I)Z" } : Jvm.MethodName)) ∈ gw := gw_t3 (k := 101) rfl rfl
theorem wm_X3_isProfile : (Jvm.Cond.instanceMethod ({ cls := "PotVolumesModel", name := "isProfile", desc := "(I)Z" } : Jvm.MethodName)) ∈ gw := gw_t3 (k := 103) rfl rfl
theorem wc_X3_isProfile : (Jvm.Cond.code ({ cls := "PotVolumesModel", name := "isProfile", desc := "(I)Z" } : Jvm.MethodName) prog_5_method_5_code (2 : Nat) (Option.some Jvm.ClassFile.FieldType.boolean)) ∈ gw := gw_t3 (k := 104) rfl rfl
theorem wl_X3_55 : (Jvm.Cond.methodLink "PotVolumesModel" (55 : Nat) ({ cls := "PotVolumesModel", name := "in", desc := "(III)Z" } : Jvm.MethodName)) ∈ gw := gw_t3 (k := 105) rfl rfl
theorem wt_X3_in : (Jvm.Cond.static ({ cls := "PotVolumesModel", name := "in", desc := "(III)Z" } : Jvm.MethodName)) ∈ gw := gw_t3 (k := 106) rfl rfl
theorem wc_X3_in : (Jvm.Cond.code ({ cls := "PotVolumesModel", name := "in", desc := "(III)Z" } : Jvm.MethodName) prog_5_method_4_code (3 : Nat) (Option.some Jvm.ClassFile.FieldType.boolean)) ∈ gw := gw_t3 (k := 107) rfl rfl
theorem wl_X3_74 : (Jvm.Cond.methodLink "PotVolumesModel" (74 : Nat) ({ cls := "PotVolumesModel", name := "mayFollow", desc := "(III)Z" } : Jvm.MethodName)) ∈ gw := gw_t3 (k := 108) rfl rfl
theorem wm_X3_mayFollow : (Jvm.Cond.instanceMethod ({ cls := "PotVolumesModel", name := "mayFollow", desc := "(III)Z" } : Jvm.MethodName)) ∈ gw := gw_t3 (k := 110) rfl rfl
theorem wc_X3_mayFollow : (Jvm.Cond.code ({ cls := "PotVolumesModel", name := "mayFollow", desc := "(III)Z" } : Jvm.MethodName) prog_5_method_9_code (5 : Nat) (Option.some Jvm.ClassFile.FieldType.boolean)) ∈ gw := gw_t3 (k := 111) rfl rfl
theorem wl_X3_63 : (Jvm.Cond.methodLink "PotVolumesModel" (63 : Nat) ({ cls := "PotVolumesModel", name := "height", desc := "(II)I" } : Jvm.MethodName)) ∈ gw := gw_t3 (k := 112) rfl rfl
theorem wm_X3_height : (Jvm.Cond.instanceMethod ({ cls := "PotVolumesModel", name := "height", desc := "(II)I" } : Jvm.MethodName)) ∈ gw := gw_t3 (k := 114) rfl rfl
theorem wc_X3_height : (Jvm.Cond.code ({ cls := "PotVolumesModel", name := "height", desc := "(II)I" } : Jvm.MethodName) prog_5_method_6_code (3 : Nat) (Option.some Jvm.ClassFile.FieldType.int)) ∈ gw := gw_t3 (k := 115) rfl rfl
theorem wl_X3_67 : (Jvm.Cond.methodLink "PotVolumesModel" (67 : Nat) ({ cls := "PotVolumesModel", name := "radiusAt", desc := "(II)I" } : Jvm.MethodName)) ∈ gw := gw_t3 (k := 116) rfl rfl
theorem wm_X3_radiusAt : (Jvm.Cond.instanceMethod ({ cls := "PotVolumesModel", name := "radiusAt", desc := "(II)I" } : Jvm.MethodName)) ∈ gw := gw_t3 (k := 118) rfl rfl
theorem wc_X3_radiusAt : (Jvm.Cond.code ({ cls := "PotVolumesModel", name := "radiusAt", desc := "(II)I" } : Jvm.MethodName) prog_5_method_7_code (3 : Nat) (Option.some Jvm.ClassFile.FieldType.int)) ∈ gw := gw_t3 (k := 119) rfl rfl
theorem wl_X3_77 : (Jvm.Cond.methodLink "PotVolumesModel" (77 : Nat) ({ cls := "PotVolumesModel", name := "append", desc := "(III)V" } : Jvm.MethodName)) ∈ gw := gw_t3 (k := 120) rfl rfl
theorem wm_X3_append : (Jvm.Cond.instanceMethod ({ cls := "PotVolumesModel", name := "append", desc := "(III)V" } : Jvm.MethodName)) ∈ gw := gw_t3 (k := 122) rfl rfl
theorem wc_X3_append : (Jvm.Cond.code ({ cls := "PotVolumesModel", name := "append", desc := "(III)V" } : Jvm.MethodName) prog_5_method_10_code (4 : Nat) (Option.none : Option Jvm.ClassFile.FieldType)) ∈ gw := gw_t3 (k := 123) rfl rfl
theorem wl_L_100 : (Jvm.Cond.methodLink "PotVolumesLaw" (100 : Nat) ({ cls := "PotVolumesModel", name := "at", desc := "(III)I" } : Jvm.MethodName)) ∈ gw := gw_t3 (k := 124) rfl rfl
theorem wm_X3_at : (Jvm.Cond.instanceMethod ({ cls := "PotVolumesModel", name := "at", desc := "(III)I" } : Jvm.MethodName)) ∈ gw := gw_t3 (k := 125) rfl rfl
theorem we_X3_at : (Jvm.Cond.selects "PotVolumesModel" ({ cls := "PotVolumesModel", name := "at", desc := "(III)I" } : Jvm.MethodName) ({ cls := "PotVolumesModel", name := "at", desc := "(III)I" } : Jvm.MethodName)) ∈ gw := gw_t3 (k := 126) rfl rfl
theorem wc_X3_at : (Jvm.Cond.code ({ cls := "PotVolumesModel", name := "at", desc := "(III)I" } : Jvm.MethodName) prog_5_method_12_code (4 : Nat) (Option.some Jvm.ClassFile.FieldType.int)) ∈ gw := gw_t3 (k := 127) rfl rfl
theorem wl_L_104 : (Jvm.Cond.methodLink "PotVolumesLaw" (104 : Nat) ({ cls := "PotVolumesModel", name := "radius", desc := "(II)I" } : Jvm.MethodName)) ∈ gw := gw_t3 (k := 128) rfl rfl
theorem wm_X3_radius : (Jvm.Cond.instanceMethod ({ cls := "PotVolumesModel", name := "radius", desc := "(II)I" } : Jvm.MethodName)) ∈ gw := gw_t3 (k := 129) rfl rfl
theorem we_X3_radius : (Jvm.Cond.selects "PotVolumesModel" ({ cls := "PotVolumesModel", name := "radius", desc := "(II)I" } : Jvm.MethodName) ({ cls := "PotVolumesModel", name := "radius", desc := "(II)I" } : Jvm.MethodName)) ∈ gw := gw_t3 (k := 130) rfl rfl
theorem wc_X3_radius : (Jvm.Cond.code ({ cls := "PotVolumesModel", name := "radius", desc := "(II)I" } : Jvm.MethodName) prog_5_method_14_code (3 : Nat) (Option.some Jvm.ClassFile.FieldType.int)) ∈ gw := gw_t3 (k := 131) rfl rfl
theorem wl_X3_81 : (Jvm.Cond.methodLink "PotVolumesModel" (81 : Nat) ({ cls := "PotVolumesModel", name := "radiusOf", desc := "(II)I" } : Jvm.MethodName)) ∈ gw := gw_t3 (k := 132) rfl rfl
theorem wm_X3_radiusOf : (Jvm.Cond.instanceMethod ({ cls := "PotVolumesModel", name := "radiusOf", desc := "(II)I" } : Jvm.MethodName)) ∈ gw := gw_t3 (k := 134) rfl rfl
theorem wc_X3_radiusOf : (Jvm.Cond.code ({ cls := "PotVolumesModel", name := "radiusOf", desc := "(II)I" } : Jvm.MethodName) prog_5_method_13_code (8 : Nat) (Option.some Jvm.ClassFile.FieldType.int)) ∈ gw := gw_t3 (k := 135) rfl rfl
theorem wl_L_107 : (Jvm.Cond.methodLink "PotVolumesLaw" (107 : Nat) ({ cls := "PotVolumesModel", name := "volume", desc := "(III)J" } : Jvm.MethodName)) ∈ gw := gw_t3 (k := 136) rfl rfl
theorem wm_X3_volume : (Jvm.Cond.instanceMethod ({ cls := "PotVolumesModel", name := "volume", desc := "(III)J" } : Jvm.MethodName)) ∈ gw := gw_t3 (k := 137) rfl rfl
theorem we_X3_volume : (Jvm.Cond.selects "PotVolumesModel" ({ cls := "PotVolumesModel", name := "volume", desc := "(III)J" } : Jvm.MethodName) ({ cls := "PotVolumesModel", name := "volume", desc := "(III)J" } : Jvm.MethodName)) ∈ gw := gw_t3 (k := 138) rfl rfl
theorem wc_X3_volume : (Jvm.Cond.code ({ cls := "PotVolumesModel", name := "volume", desc := "(III)J" } : Jvm.MethodName) prog_5_method_21_code (4 : Nat) (Option.some Jvm.ClassFile.FieldType.long)) ∈ gw := gw_t3 (k := 139) rfl rfl
theorem wl_X3_107 : (Jvm.Cond.methodLink "PotVolumesModel" (107 : Nat) ({ cls := "PotVolumesModel", name := "sum", desc := "(IIII)V" } : Jvm.MethodName)) ∈ gw := gw_t3 (k := 140) rfl rfl
theorem wm_X3_sum : (Jvm.Cond.instanceMethod ({ cls := "PotVolumesModel", name := "sum", desc := "(IIII)V" } : Jvm.MethodName)) ∈ gw := gw_t3 (k := 142) rfl rfl
theorem wc_X3_sum : (Jvm.Cond.code ({ cls := "PotVolumesModel", name := "sum", desc := "(IIII)V" } : Jvm.MethodName) prog_5_method_20_code (8 : Nat) (Option.none : Option Jvm.ClassFile.FieldType)) ∈ gw := gw_t3 (k := 143) rfl rfl
theorem wl_X3_103 : (Jvm.Cond.methodLink "PotVolumesModel" (103 : Nat) ({ cls := "PotVolumesModel", name := "addPiece", desc := "(IIIII)V" } : Jvm.MethodName)) ∈ gw := gw_t3 (k := 144) rfl rfl
theorem wm_X3_addPiece : (Jvm.Cond.instanceMethod ({ cls := "PotVolumesModel", name := "addPiece", desc := "(IIIII)V" } : Jvm.MethodName)) ∈ gw := gw_t3 (k := 146) rfl rfl
theorem wc_X3_addPiece : (Jvm.Cond.code ({ cls := "PotVolumesModel", name := "addPiece", desc := "(IIIII)V" } : Jvm.MethodName) prog_5_method_19_code (16 : Nat) (Option.none : Option Jvm.ClassFile.FieldType)) ∈ gw := gw_t3 (k := 147) rfl rfl
theorem wl_X3_94 : (Jvm.Cond.methodLink "PotVolumesModel" (94 : Nat) ({ cls := "PotVolumesModel", name := "less", desc := "(II)I" } : Jvm.MethodName)) ∈ gw := gw_t3 (k := 148) rfl rfl
theorem wt_X3_less : (Jvm.Cond.static ({ cls := "PotVolumesModel", name := "less", desc := "(II)I" } : Jvm.MethodName)) ∈ gw := gw_t3 (k := 149) rfl rfl
theorem wc_X3_less : (Jvm.Cond.code ({ cls := "PotVolumesModel", name := "less", desc := "(II)I" } : Jvm.MethodName) prog_5_method_18_code (2 : Nat) (Option.some Jvm.ClassFile.FieldType.int)) ∈ gw := gw_t3 (k := 150) rfl rfl
theorem wl_X3_97 : (Jvm.Cond.constantLong "PotVolumesModel" (97 : Nat) (3 : Int64)) ∈ gw := gw_t3 (k := 151) rfl rfl
theorem wl_X3_99 : (Jvm.Cond.methodLink "PotVolumesModel" (99 : Nat) ({ cls := "PotVolumesModel", name := "add", desc := "(JJ)V" } : Jvm.MethodName)) ∈ gw := gw_t3 (k := 152) rfl rfl
theorem wm_X3_add : (Jvm.Cond.instanceMethod ({ cls := "PotVolumesModel", name := "add", desc := "(JJ)V" } : Jvm.MethodName)) ∈ gw := gw_t3 (k := 154) rfl rfl
theorem wc_X3_add : (Jvm.Cond.code ({ cls := "PotVolumesModel", name := "add", desc := "(JJ)V" } : Jvm.MethodName) prog_5_method_17_code (7 : Nat) (Option.none : Option Jvm.ClassFile.FieldType)) ∈ gw := gw_t3 (k := 155) rfl rfl
theorem wl_X3_87 : (Jvm.Cond.methodLink "PotVolumesModel" (87 : Nat) ({ cls := "PotVolumesModel", name := "common", desc := "(JJ)J" } : Jvm.MethodName)) ∈ gw := gw_t3 (k := 156) rfl rfl
theorem wt_X3_common : (Jvm.Cond.static ({ cls := "PotVolumesModel", name := "common", desc := "(JJ)J" } : Jvm.MethodName)) ∈ gw := gw_t3 (k := 157) rfl rfl
theorem wc_X3_common : (Jvm.Cond.code ({ cls := "PotVolumesModel", name := "common", desc := "(JJ)J" } : Jvm.MethodName) prog_5_method_15_code (10 : Nat) (Option.some Jvm.ClassFile.FieldType.long)) ∈ gw := gw_t3 (k := 158) rfl rfl
theorem wl_X3_91 : (Jvm.Cond.methodLink "PotVolumesModel" (91 : Nat) ({ cls := "PotVolumesModel", name := "lessen", desc := "()V" } : Jvm.MethodName)) ∈ gw := gw_t3 (k := 159) rfl rfl
theorem wm_X3_lessen : (Jvm.Cond.instanceMethod ({ cls := "PotVolumesModel", name := "lessen", desc := "()V" } : Jvm.MethodName)) ∈ gw := gw_t3 (k := 161) rfl rfl
theorem wc_X3_lessen : (Jvm.Cond.code ({ cls := "PotVolumesModel", name := "lessen", desc := "()V" } : Jvm.MethodName) prog_5_method_16_code (3 : Nat) (Option.none : Option Jvm.ClassFile.FieldType)) ∈ gw := gw_t3 (k := 162) rfl rfl
theorem wl_L_110 : (Jvm.Cond.methodLink "PotVolumesLaw" (110 : Nat) ({ cls := "PotVolumesModel", name := "holds", desc := "(III)J" } : Jvm.MethodName)) ∈ gw := gw_t3 (k := 163) rfl rfl
theorem wm_X3_holds : (Jvm.Cond.instanceMethod ({ cls := "PotVolumesModel", name := "holds", desc := "(III)J" } : Jvm.MethodName)) ∈ gw := gw_t3 (k := 164) rfl rfl
theorem we_X3_holds : (Jvm.Cond.selects "PotVolumesModel" ({ cls := "PotVolumesModel", name := "holds", desc := "(III)J" } : Jvm.MethodName) ({ cls := "PotVolumesModel", name := "holds", desc := "(III)J" } : Jvm.MethodName)) ∈ gw := gw_t3 (k := 165) rfl rfl
theorem wc_X3_holds : (Jvm.Cond.code ({ cls := "PotVolumesModel", name := "holds", desc := "(III)J" } : Jvm.MethodName) prog_5_method_23_code (4 : Nat) (Option.some Jvm.ClassFile.FieldType.long)) ∈ gw := gw_t3 (k := 166) rfl rfl
theorem wl_X3_111 : (Jvm.Cond.methodLink "PotVolumesModel" (111 : Nat) ({ cls := "PotVolumesModel", name := "sumHeld", desc := "(II)V" } : Jvm.MethodName)) ∈ gw := gw_t3 (k := 167) rfl rfl
theorem wm_X3_sumHeld : (Jvm.Cond.instanceMethod ({ cls := "PotVolumesModel", name := "sumHeld", desc := "(II)V" } : Jvm.MethodName)) ∈ gw := gw_t3 (k := 169) rfl rfl
theorem wc_X3_sumHeld : (Jvm.Cond.code ({ cls := "PotVolumesModel", name := "sumHeld", desc := "(II)V" } : Jvm.MethodName) prog_5_method_22_code (3 : Nat) (Option.none : Option Jvm.ClassFile.FieldType)) ∈ gw := gw_t3 (k := 170) rfl rfl
theorem wl_L_113 : (Jvm.Cond.methodLink "PotVolumesLaw" (113 : Nat) ({ cls := "PotVolumesModel", name := "enclosed", desc := "(II)J" } : Jvm.MethodName)) ∈ gw := gw_t3 (k := 171) rfl rfl
theorem wm_X3_enclosed : (Jvm.Cond.instanceMethod ({ cls := "PotVolumesModel", name := "enclosed", desc := "(II)J" } : Jvm.MethodName)) ∈ gw := gw_t3 (k := 172) rfl rfl
theorem we_X3_enclosed : (Jvm.Cond.selects "PotVolumesModel" ({ cls := "PotVolumesModel", name := "enclosed", desc := "(II)J" } : Jvm.MethodName) ({ cls := "PotVolumesModel", name := "enclosed", desc := "(II)J" } : Jvm.MethodName)) ∈ gw := gw_t3 (k := 173) rfl rfl
theorem wc_X3_enclosed : (Jvm.Cond.code ({ cls := "PotVolumesModel", name := "enclosed", desc := "(II)J" } : Jvm.MethodName) prog_5_method_26_code (3 : Nat) (Option.some Jvm.ClassFile.FieldType.long)) ∈ gw := gw_t3 (k := 174) rfl rfl
theorem wl_X3_127 : (Jvm.Cond.methodLink "PotVolumesModel" (127 : Nat) ({ cls := "PotVolumesModel", name := "enclose", desc := "(II)J" } : Jvm.MethodName)) ∈ gw := gw_t3 (k := 175) rfl rfl
theorem wm_X3_enclose : (Jvm.Cond.instanceMethod ({ cls := "PotVolumesModel", name := "enclose", desc := "(II)J" } : Jvm.MethodName)) ∈ gw := gw_t3 (k := 177) rfl rfl
theorem wc_X3_enclose : (Jvm.Cond.code ({ cls := "PotVolumesModel", name := "enclose", desc := "(II)J" } : Jvm.MethodName) prog_5_method_25_code (3 : Nat) (Option.some Jvm.ClassFile.FieldType.long)) ∈ gw := gw_t3 (k := 178) rfl rfl
theorem wl_X3_119 : (Jvm.Cond.constantLong "PotVolumesModel" (119 : Nat) (314159265 : Int64)) ∈ gw := gw_t3 (k := 179) rfl rfl
theorem wl_X3_121 : (Jvm.Cond.methodLink "PotVolumesModel" (121 : Nat) ({ cls := "PotVolumesModel", name := "times", desc := "(JZ)J" } : Jvm.MethodName)) ∈ gw := gw_t3 (k := 180) rfl rfl
theorem wm_X3_times : (Jvm.Cond.instanceMethod ({ cls := "PotVolumesModel", name := "times", desc := "(JZ)J" } : Jvm.MethodName)) ∈ gw := gw_t3 (k := 182) rfl rfl
theorem wc_X3_times : (Jvm.Cond.code ({ cls := "PotVolumesModel", name := "times", desc := "(JZ)J" } : Jvm.MethodName) prog_5_method_24_code (15 : Nat) (Option.some Jvm.ClassFile.FieldType.long)) ∈ gw := gw_t3 (k := 183) rfl rfl
theorem wl_X3_115 : (Jvm.Cond.constantLong "PotVolumesModel" (115 : Nat) (32768 : Int64)) ∈ gw := gw_t3 (k := 184) rfl rfl
theorem wl_X3_117 : (Jvm.Cond.constantLong "PotVolumesModel" (117 : Nat) (100000000 : Int64)) ∈ gw := gw_t3 (k := 185) rfl rfl
theorem wl_X3_125 : (Jvm.Cond.constantLong "PotVolumesModel" (125 : Nat) (314159266 : Int64)) ∈ gw := gw_t3 (k := 186) rfl rfl
theorem wl_L_116 : (Jvm.Cond.methodLink "PotVolumesLaw" (116 : Nat) ({ cls := "PotVolumesModel", name := "wall", desc := "(II)I" } : Jvm.MethodName)) ∈ gw := gw_t3 (k := 187) rfl rfl
theorem wm_X3_wall : (Jvm.Cond.instanceMethod ({ cls := "PotVolumesModel", name := "wall", desc := "(II)I" } : Jvm.MethodName)) ∈ gw := gw_t3 (k := 188) rfl rfl
theorem we_X3_wall : (Jvm.Cond.selects "PotVolumesModel" ({ cls := "PotVolumesModel", name := "wall", desc := "(II)I" } : Jvm.MethodName) ({ cls := "PotVolumesModel", name := "wall", desc := "(II)I" } : Jvm.MethodName)) ∈ gw := gw_t3 (k := 189) rfl rfl
theorem wc_X3_wall : (Jvm.Cond.code ({ cls := "PotVolumesModel", name := "wall", desc := "(II)I" } : Jvm.MethodName) prog_5_method_27_code (4 : Nat) (Option.some Jvm.ClassFile.FieldType.int)) ∈ gw := gw_t3 (k := 190) rfl rfl
theorem wl_L_119 : (Jvm.Cond.methodLink "PotVolumesLaw" (119 : Nat) ({ cls := "PotVolumesModel", name := "unlike", desc := "(II)I" } : Jvm.MethodName)) ∈ gw := gw_t3 (k := 191) rfl rfl
theorem wm_X3_unlike : (Jvm.Cond.instanceMethod ({ cls := "PotVolumesModel", name := "unlike", desc := "(II)I" } : Jvm.MethodName)) ∈ gw := gw_t3 (k := 192) rfl rfl
theorem we_X3_unlike : (Jvm.Cond.selects "PotVolumesModel" ({ cls := "PotVolumesModel", name := "unlike", desc := "(II)I" } : Jvm.MethodName) ({ cls := "PotVolumesModel", name := "unlike", desc := "(II)I" } : Jvm.MethodName)) ∈ gw := gw_t3 (k := 193) rfl rfl
theorem wc_X3_unlike : (Jvm.Cond.code ({ cls := "PotVolumesModel", name := "unlike", desc := "(II)I" } : Jvm.MethodName) prog_5_method_28_code (8 : Nat) (Option.some Jvm.ClassFile.FieldType.int)) ∈ gw := gw_t3 (k := 194) rfl rfl
theorem wl_L_122 : (Jvm.Cond.methodLink "PotVolumesLaw" (122 : Nat) ({ cls := "PotVolumesModel", name := "cut", desc := "(II)Z" } : Jvm.MethodName)) ∈ gw := gw_t3 (k := 195) rfl rfl
theorem wm_X3_cut : (Jvm.Cond.instanceMethod ({ cls := "PotVolumesModel", name := "cut", desc := "(II)Z" } : Jvm.MethodName)) ∈ gw := gw_t3 (k := 196) rfl rfl
theorem we_X3_cut : (Jvm.Cond.selects "PotVolumesModel" ({ cls := "PotVolumesModel", name := "cut", desc := "(II)Z" } : Jvm.MethodName) ({ cls := "PotVolumesModel", name := "cut", desc := "(II)Z" } : Jvm.MethodName)) ∈ gw := gw_t3 (k := 197) rfl rfl
theorem wc_X3_cut : (Jvm.Cond.code ({ cls := "PotVolumesModel", name := "cut", desc := "(II)Z" } : Jvm.MethodName) prog_5_method_29_code (5 : Nat) (Option.some Jvm.ClassFile.FieldType.boolean)) ∈ gw := gw_t3 (k := 198) rfl rfl
theorem wl_L_125 : (Jvm.Cond.methodLink "PotVolumesLaw" (125 : Nat) ({ cls := "PotVolumesModel", name := "drawn", desc := "(III)I" } : Jvm.MethodName)) ∈ gw := gw_t3 (k := 199) rfl rfl
theorem wm_X3_drawn : (Jvm.Cond.instanceMethod ({ cls := "PotVolumesModel", name := "drawn", desc := "(III)I" } : Jvm.MethodName)) ∈ gw := gw_t3 (k := 200) rfl rfl
theorem we_X3_drawn : (Jvm.Cond.selects "PotVolumesModel" ({ cls := "PotVolumesModel", name := "drawn", desc := "(III)I" } : Jvm.MethodName) ({ cls := "PotVolumesModel", name := "drawn", desc := "(III)I" } : Jvm.MethodName)) ∈ gw := gw_t3 (k := 201) rfl rfl
theorem wc_X3_drawn : (Jvm.Cond.code ({ cls := "PotVolumesModel", name := "drawn", desc := "(III)I" } : Jvm.MethodName) prog_5_method_31_code (7 : Nat) (Option.some Jvm.ClassFile.FieldType.int)) ∈ gw := gw_t3 (k := 202) rfl rfl
theorem wl_X3_131 : (Jvm.Cond.methodLink "PotVolumesModel" (131 : Nat) ({ cls := "PotVolumesModel", name := "pointCount", desc := "(I)I" } : Jvm.MethodName)) ∈ gw := gw_t3 (k := 203) rfl rfl
theorem wm_X3_pointCount : (Jvm.Cond.instanceMethod ({ cls := "PotVolumesModel", name := "pointCount", desc := "(I)I" } : Jvm.MethodName)) ∈ gw := gw_t3 (k := 205) rfl rfl
theorem wc_X3_pointCount : (Jvm.Cond.code ({ cls := "PotVolumesModel", name := "pointCount", desc := "(I)I" } : Jvm.MethodName) prog_5_method_30_code (4 : Nat) (Option.some Jvm.ClassFile.FieldType.int)) ∈ gw := gw_t3 (k := 206) rfl rfl
theorem wl_L_129 : (Jvm.Cond.methodLink "PotVolumesLaw" (129 : Nat) ({ cls := "PotVolumesModel", name := "bound", desc := "(I)I" } : Jvm.MethodName)) ∈ gw := gw_t3 (k := 207) rfl rfl
theorem wm_X3_bound : (Jvm.Cond.instanceMethod ({ cls := "PotVolumesModel", name := "bound", desc := "(I)I" } : Jvm.MethodName)) ∈ gw := gw_t3 (k := 208) rfl rfl
theorem we_X3_bound : (Jvm.Cond.selects "PotVolumesModel" ({ cls := "PotVolumesModel", name := "bound", desc := "(I)I" } : Jvm.MethodName) ({ cls := "PotVolumesModel", name := "bound", desc := "(I)I" } : Jvm.MethodName)) ∈ gw := gw_t3 (k := 209) rfl rfl
theorem wc_X3_bound : (Jvm.Cond.code ({ cls := "PotVolumesModel", name := "bound", desc := "(I)I" } : Jvm.MethodName) prog_5_method_32_code (2 : Nat) (Option.some Jvm.ClassFile.FieldType.int)) ∈ gw := gw_t3 (k := 210) rfl rfl
theorem wl_X3_135 : (Jvm.Cond.constant "PotVolumesModel" (135 : Nat) (1000000000 : Int32)) ∈ gw := gw_t3 (k := 211) rfl rfl
theorem wl_L_132 : (Jvm.Cond.methodLink "PotVolumesLaw" (132 : Nat) ({ cls := "PotVolumesModel", name := "size", desc := "(I)I" } : Jvm.MethodName)) ∈ gw := gw_t3 (k := 212) rfl rfl
theorem wm_X3_size : (Jvm.Cond.instanceMethod ({ cls := "PotVolumesModel", name := "size", desc := "(I)I" } : Jvm.MethodName)) ∈ gw := gw_t3 (k := 213) rfl rfl
theorem we_X3_size : (Jvm.Cond.selects "PotVolumesModel" ({ cls := "PotVolumesModel", name := "size", desc := "(I)I" } : Jvm.MethodName) ({ cls := "PotVolumesModel", name := "size", desc := "(I)I" } : Jvm.MethodName)) ∈ gw := gw_t3 (k := 214) rfl rfl
theorem wc_X3_size : (Jvm.Cond.code ({ cls := "PotVolumesModel", name := "size", desc := "(I)I" } : Jvm.MethodName) prog_5_method_33_code (6 : Nat) (Option.some Jvm.ClassFile.FieldType.int)) ∈ gw := gw_t3 (k := 215) rfl rfl
theorem wl_L_135 : (Jvm.Cond.methodLink "PotVolumesLaw" (135 : Nat) ({ cls := "PotVolumesModel", name := "rim", desc := "(II)I" } : Jvm.MethodName)) ∈ gw := gw_t3 (k := 216) rfl rfl
theorem wm_X3_rim : (Jvm.Cond.instanceMethod ({ cls := "PotVolumesModel", name := "rim", desc := "(II)I" } : Jvm.MethodName)) ∈ gw := gw_t3 (k := 217) rfl rfl
theorem we_X3_rim : (Jvm.Cond.selects "PotVolumesModel" ({ cls := "PotVolumesModel", name := "rim", desc := "(II)I" } : Jvm.MethodName) ({ cls := "PotVolumesModel", name := "rim", desc := "(II)I" } : Jvm.MethodName)) ∈ gw := gw_t3 (k := 218) rfl rfl
theorem wc_X3_rim : (Jvm.Cond.code ({ cls := "PotVolumesModel", name := "rim", desc := "(II)I" } : Jvm.MethodName) prog_5_method_34_code (3 : Nat) (Option.some Jvm.ClassFile.FieldType.int)) ∈ gw := gw_t3 (k := 219) rfl rfl
theorem wl_L_139 : (Jvm.Cond.methodLink "PotVolumesLaw" (139 : Nat) ({ cls := "PotVolumesModel", name := "clear", desc := "()I" } : Jvm.MethodName)) ∈ gw := gw_t3 (k := 220) rfl rfl
theorem wm_X3_clear : (Jvm.Cond.instanceMethod ({ cls := "PotVolumesModel", name := "clear", desc := "()I" } : Jvm.MethodName)) ∈ gw := gw_t3 (k := 221) rfl rfl
theorem we_X3_clear : (Jvm.Cond.selects "PotVolumesModel" ({ cls := "PotVolumesModel", name := "clear", desc := "()I" } : Jvm.MethodName) ({ cls := "PotVolumesModel", name := "clear", desc := "()I" } : Jvm.MethodName)) ∈ gw := gw_t3 (k := 222) rfl rfl
theorem wc_X3_clear : (Jvm.Cond.code ({ cls := "PotVolumesModel", name := "clear", desc := "()I" } : Jvm.MethodName) prog_5_method_35_code (2 : Nat) (Option.some Jvm.ClassFile.FieldType.int)) ∈ gw := gw_t3 (k := 223) rfl rfl
theorem wl_L_142 : (Jvm.Cond.methodLink "PotVolumesLaw" (142 : Nat) ({ cls := "PotVolumesModel", name := "circle", desc := "(I)J" } : Jvm.MethodName)) ∈ gw := gw_t3 (k := 224) rfl rfl
theorem wm_X3_circle : (Jvm.Cond.instanceMethod ({ cls := "PotVolumesModel", name := "circle", desc := "(I)J" } : Jvm.MethodName)) ∈ gw := gw_t3 (k := 225) rfl rfl
theorem we_X3_circle : (Jvm.Cond.selects "PotVolumesModel" ({ cls := "PotVolumesModel", name := "circle", desc := "(I)J" } : Jvm.MethodName) ({ cls := "PotVolumesModel", name := "circle", desc := "(I)J" } : Jvm.MethodName)) ∈ gw := gw_t3 (k := 226) rfl rfl
theorem wc_X3_circle : (Jvm.Cond.code ({ cls := "PotVolumesModel", name := "circle", desc := "(I)J" } : Jvm.MethodName) prog_5_method_38_code (2 : Nat) (Option.some Jvm.ClassFile.FieldType.long)) ∈ gw := gw_t3 (k := 227) rfl rfl
theorem wl_X3_147 : (Jvm.Cond.methodLink "PotVolumesModel" (147 : Nat) ({ cls := "PotVolumesModel", name := "round", desc := "()V" } : Jvm.MethodName)) ∈ gw := gw_t3 (k := 228) rfl rfl
theorem wm_X3_round : (Jvm.Cond.instanceMethod ({ cls := "PotVolumesModel", name := "round", desc := "()V" } : Jvm.MethodName)) ∈ gw := gw_t3 (k := 230) rfl rfl
theorem wc_X3_round : (Jvm.Cond.code ({ cls := "PotVolumesModel", name := "round", desc := "()V" } : Jvm.MethodName) prog_5_method_37_code (6 : Nat) (Option.none : Option Jvm.ClassFile.FieldType)) ∈ gw := gw_t3 (k := 231) rfl rfl
theorem wl_X3_142 : (Jvm.Cond.methodLink "PotVolumesModel" (142 : Nat) ({ cls := "PotVolumesModel", name := "apart", desc := "(II)J" } : Jvm.MethodName)) ∈ gw := gw_t3 (k := 232) rfl rfl
theorem wm_X3_apart : (Jvm.Cond.instanceMethod ({ cls := "PotVolumesModel", name := "apart", desc := "(II)J" } : Jvm.MethodName)) ∈ gw := gw_t3 (k := 234) rfl rfl
theorem wc_X3_apart : (Jvm.Cond.code ({ cls := "PotVolumesModel", name := "apart", desc := "(II)J" } : Jvm.MethodName) prog_5_method_36_code (7 : Nat) (Option.some Jvm.ClassFile.FieldType.long)) ∈ gw := gw_t3 (k := 235) rfl rfl
theorem wl_X3_145 : (Jvm.Cond.constantLong "PotVolumesModel" (145 : Nat) (4 : Int64)) ∈ gw := gw_t3 (k := 236) rfl rfl
theorem wl_L_145 : (Jvm.Cond.methodLink "PotVolumesLaw" (145 : Nat) ({ cls := "PotVolumesModel", name := "curve", desc := "()I" } : Jvm.MethodName)) ∈ gw := gw_t3 (k := 237) rfl rfl
theorem wm_X3_curve : (Jvm.Cond.instanceMethod ({ cls := "PotVolumesModel", name := "curve", desc := "()I" } : Jvm.MethodName)) ∈ gw := gw_t3 (k := 238) rfl rfl
theorem we_X3_curve : (Jvm.Cond.selects "PotVolumesModel" ({ cls := "PotVolumesModel", name := "curve", desc := "()I" } : Jvm.MethodName) ({ cls := "PotVolumesModel", name := "curve", desc := "()I" } : Jvm.MethodName)) ∈ gw := gw_t3 (k := 239) rfl rfl
theorem wc_X3_curve : (Jvm.Cond.code ({ cls := "PotVolumesModel", name := "curve", desc := "()I" } : Jvm.MethodName) prog_5_method_39_code (7 : Nat) (Option.some Jvm.ClassFile.FieldType.int)) ∈ gw := gw_t4 (k := 0) rfl rfl
theorem wl_X3_150 : (Jvm.Cond.constantLong "PotVolumesModel" (150 : Nat) (1073741824 : Int64)) ∈ gw := gw_t4 (k := 1) rfl rfl
theorem wl_X3_152 : (Jvm.Cond.constantLong "PotVolumesModel" (152 : Nat) (2 : Int64)) ∈ gw := gw_t4 (k := 2) rfl rfl
theorem wl_L_148 : (Jvm.Cond.methodLink "PotVolumesLaw" (148 : Nat) ({ cls := "PotVolumesModel", name := "sherd", desc := "(II)I" } : Jvm.MethodName)) ∈ gw := gw_t4 (k := 3) rfl rfl
theorem wm_X3_sherd : (Jvm.Cond.instanceMethod ({ cls := "PotVolumesModel", name := "sherd", desc := "(II)I" } : Jvm.MethodName)) ∈ gw := gw_t4 (k := 4) rfl rfl
theorem we_X3_sherd : (Jvm.Cond.selects "PotVolumesModel" ({ cls := "PotVolumesModel", name := "sherd", desc := "(II)I" } : Jvm.MethodName) ({ cls := "PotVolumesModel", name := "sherd", desc := "(II)I" } : Jvm.MethodName)) ∈ gw := gw_t4 (k := 5) rfl rfl
theorem wc_X3_sherd : (Jvm.Cond.code ({ cls := "PotVolumesModel", name := "sherd", desc := "(II)I" } : Jvm.MethodName) prog_5_method_41_code (3 : Nat) (Option.some Jvm.ClassFile.FieldType.int)) ∈ gw := gw_t4 (k := 6) rfl rfl
theorem wl_X3_157 : (Jvm.Cond.methodLink "PotVolumesModel" (157 : Nat) ({ cls := "PotVolumesModel", name := "allOf", desc := "(I)I" } : Jvm.MethodName)) ∈ gw := gw_t4 (k := 7) rfl rfl
theorem wm_X3_allOf : (Jvm.Cond.instanceMethod ({ cls := "PotVolumesModel", name := "allOf", desc := "(I)I" } : Jvm.MethodName)) ∈ gw := gw_t4 (k := 9) rfl rfl
theorem wc_X3_allOf : (Jvm.Cond.code ({ cls := "PotVolumesModel", name := "allOf", desc := "(I)I" } : Jvm.MethodName) prog_5_method_40_code (4 : Nat) (Option.some Jvm.ClassFile.FieldType.int)) ∈ gw := gw_t4 (k := 10) rfl rfl
theorem wl_L_151 : (Jvm.Cond.methodLink "PotVolumesLaw" (151 : Nat) ({ cls := "PotVolumesModel", name := "vessels", desc := "(II)I" } : Jvm.MethodName)) ∈ gw := gw_t4 (k := 11) rfl rfl
theorem wm_X3_vessels : (Jvm.Cond.instanceMethod ({ cls := "PotVolumesModel", name := "vessels", desc := "(II)I" } : Jvm.MethodName)) ∈ gw := gw_t4 (k := 12) rfl rfl
theorem we_X3_vessels : (Jvm.Cond.selects "PotVolumesModel" ({ cls := "PotVolumesModel", name := "vessels", desc := "(II)I" } : Jvm.MethodName) ({ cls := "PotVolumesModel", name := "vessels", desc := "(II)I" } : Jvm.MethodName)) ∈ gw := gw_t4 (k := 13) rfl rfl
theorem wc_X3_vessels : (Jvm.Cond.code ({ cls := "PotVolumesModel", name := "vessels", desc := "(II)I" } : Jvm.MethodName) prog_5_method_42_code (6 : Nat) (Option.some Jvm.ClassFile.FieldType.int)) ∈ gw := gw_t4 (k := 14) rfl rfl
theorem wl_L_154 : (Jvm.Cond.methodLink "PotVolumesLaw" (154 : Nat) ({ cls := "PotVolumesModel", name := "count", desc := "(I)I" } : Jvm.MethodName)) ∈ gw := gw_t4 (k := 15) rfl rfl
theorem wm_X3_count : (Jvm.Cond.instanceMethod ({ cls := "PotVolumesModel", name := "count", desc := "(I)I" } : Jvm.MethodName)) ∈ gw := gw_t4 (k := 16) rfl rfl
theorem we_X3_count : (Jvm.Cond.selects "PotVolumesModel" ({ cls := "PotVolumesModel", name := "count", desc := "(I)I" } : Jvm.MethodName) ({ cls := "PotVolumesModel", name := "count", desc := "(I)I" } : Jvm.MethodName)) ∈ gw := gw_t4 (k := 17) rfl rfl
theorem wc_X3_count : (Jvm.Cond.code ({ cls := "PotVolumesModel", name := "count", desc := "(I)I" } : Jvm.MethodName) prog_5_method_43_code (2 : Nat) (Option.some Jvm.ClassFile.FieldType.int)) ∈ gw := gw_t4 (k := 18) rfl rfl
theorem wa_long : (Jvm.Cond.arrayClass Jvm.ClassFile.FieldType.long) ∈ gw := gw_t4 (k := 19) rfl rfl
theorem we_X2_profileOf : (Jvm.Cond.selects "PotVolumes" (⟨"PotVolumes", "profileOf", "(I)LPotVolumes$Profile;"⟩ : Jvm.MethodName) (⟨"PotVolumes", "profileOf", "(I)LPotVolumes$Profile;"⟩ : Jvm.MethodName)) ∈ gw := gw_s (k := 1) rfl rfl
theorem we_X1_canFollow : (Jvm.Cond.selects "PotVolumes$Profile" (⟨"PotVolumes$Profile", "canFollow", "(II)Z"⟩ : Jvm.MethodName) (⟨"PotVolumes$Profile", "canFollow", "(II)Z"⟩ : Jvm.MethodName)) ∈ gw := gw_s (k := 2) rfl rfl
theorem we_X1_scaledRadius : (Jvm.Cond.selects "PotVolumes$Profile" (⟨"PotVolumes$Profile", "scaledRadius", "(III)I"⟩ : Jvm.MethodName) (⟨"PotVolumes$Profile", "scaledRadius", "(III)I"⟩ : Jvm.MethodName)) ∈ gw := gw_s (k := 3) rfl rfl
theorem we_X1_addPieces : (Jvm.Cond.selects "PotVolumes$Profile" (⟨"PotVolumes$Profile", "addPieces", "(LPotVolumes$Fraction;III)V"⟩ : Jvm.MethodName) (⟨"PotVolumes$Profile", "addPieces", "(LPotVolumes$Fraction;III)V"⟩ : Jvm.MethodName)) ∈ gw := gw_s (k := 4) rfl rfl
theorem we_X1_addPiece : (Jvm.Cond.selects "PotVolumes$Profile" (⟨"PotVolumes$Profile", "addPiece", "(LPotVolumes$Fraction;IIII)V"⟩ : Jvm.MethodName) (⟨"PotVolumes$Profile", "addPiece", "(LPotVolumes$Fraction;IIII)V"⟩ : Jvm.MethodName)) ∈ gw := gw_s (k := 5) rfl rfl
theorem we_X0_lessen : (Jvm.Cond.selects "PotVolumes$Fraction" (⟨"PotVolumes$Fraction", "lessen", "()V"⟩ : Jvm.MethodName) (⟨"PotVolumes$Fraction", "lessen", "()V"⟩ : Jvm.MethodName)) ∈ gw := gw_s (k := 6) rfl rfl
theorem we_X0_timesDown : (Jvm.Cond.selects "PotVolumes$Fraction" (⟨"PotVolumes$Fraction", "timesDown", "(J)J"⟩ : Jvm.MethodName) (⟨"PotVolumes$Fraction", "timesDown", "(J)J"⟩ : Jvm.MethodName)) ∈ gw := gw_s (k := 7) rfl rfl
theorem we_X0_timesUp : (Jvm.Cond.selects "PotVolumes$Fraction" (⟨"PotVolumes$Fraction", "timesUp", "(J)J"⟩ : Jvm.MethodName) (⟨"PotVolumes$Fraction", "timesUp", "(J)J"⟩ : Jvm.MethodName)) ∈ gw := gw_s (k := 8) rfl rfl
theorem we_X1_countUpTo : (Jvm.Cond.selects "PotVolumes$Profile" (⟨"PotVolumes$Profile", "countUpTo", "(I)I"⟩ : Jvm.MethodName) (⟨"PotVolumes$Profile", "countUpTo", "(I)I"⟩ : Jvm.MethodName)) ∈ gw := gw_s (k := 9) rfl rfl
theorem we_X2_needCircle : (Jvm.Cond.selects "PotVolumes" (⟨"PotVolumes", "needCircle", "()V"⟩ : Jvm.MethodName) (⟨"PotVolumes", "needCircle", "()V"⟩ : Jvm.MethodName)) ∈ gw := gw_s (k := 10) rfl rfl
theorem we_X2_measureCircle : (Jvm.Cond.selects "PotVolumes" (⟨"PotVolumes", "measureCircle", "()V"⟩ : Jvm.MethodName) (⟨"PotVolumes", "measureCircle", "()V"⟩ : Jvm.MethodName)) ∈ gw := gw_s (k := 11) rfl rfl
theorem we_X2_needProfile : (Jvm.Cond.selects "PotVolumes" (⟨"PotVolumes", "needProfile", "(I)V"⟩ : Jvm.MethodName) (⟨"PotVolumes", "needProfile", "(I)V"⟩ : Jvm.MethodName)) ∈ gw := gw_s (k := 12) rfl rfl
theorem we_X2_sumOfShares : (Jvm.Cond.selects "PotVolumes" (⟨"PotVolumes", "sumOfShares", "(I)I"⟩ : Jvm.MethodName) (⟨"PotVolumes", "sumOfShares", "(I)I"⟩ : Jvm.MethodName)) ∈ gw := gw_s (k := 13) rfl rfl
theorem we_X2_vesselsBySherds : (Jvm.Cond.selects "PotVolumes" (⟨"PotVolumes", "vesselsBySherds", "(I)I"⟩ : Jvm.MethodName) (⟨"PotVolumes", "vesselsBySherds", "(I)I"⟩ : Jvm.MethodName)) ∈ gw := gw_s (k := 14) rfl rfl
theorem we_X2_firstWithRoom : (Jvm.Cond.selects "PotVolumes" (⟨"PotVolumes", "firstWithRoom", "(II)I"⟩ : Jvm.MethodName) (⟨"PotVolumes", "firstWithRoom", "(II)I"⟩ : Jvm.MethodName)) ∈ gw := gw_s (k := 15) rfl rfl
theorem we_X3_throwing : (Jvm.Cond.selects "PotVolumesModel" (⟨"PotVolumesModel", "throwing", "(ZZZ)Z"⟩ : Jvm.MethodName) (⟨"PotVolumesModel", "throwing", "(ZZZ)Z"⟩ : Jvm.MethodName)) ∈ gw := gw_s (k := 16) rfl rfl
theorem we_X3_isProfile : (Jvm.Cond.selects "PotVolumesModel" (⟨"PotVolumesModel", "isProfile", "(I)Z"⟩ : Jvm.MethodName) (⟨"PotVolumesModel", "isProfile", "(I)Z"⟩ : Jvm.MethodName)) ∈ gw := gw_s (k := 17) rfl rfl
theorem we_X3_mayFollow : (Jvm.Cond.selects "PotVolumesModel" (⟨"PotVolumesModel", "mayFollow", "(III)Z"⟩ : Jvm.MethodName) (⟨"PotVolumesModel", "mayFollow", "(III)Z"⟩ : Jvm.MethodName)) ∈ gw := gw_s (k := 18) rfl rfl
theorem we_X3_height : (Jvm.Cond.selects "PotVolumesModel" (⟨"PotVolumesModel", "height", "(II)I"⟩ : Jvm.MethodName) (⟨"PotVolumesModel", "height", "(II)I"⟩ : Jvm.MethodName)) ∈ gw := gw_s (k := 19) rfl rfl
theorem we_X3_radiusAt : (Jvm.Cond.selects "PotVolumesModel" (⟨"PotVolumesModel", "radiusAt", "(II)I"⟩ : Jvm.MethodName) (⟨"PotVolumesModel", "radiusAt", "(II)I"⟩ : Jvm.MethodName)) ∈ gw := gw_s (k := 20) rfl rfl
theorem we_X3_append : (Jvm.Cond.selects "PotVolumesModel" (⟨"PotVolumesModel", "append", "(III)V"⟩ : Jvm.MethodName) (⟨"PotVolumesModel", "append", "(III)V"⟩ : Jvm.MethodName)) ∈ gw := gw_s (k := 21) rfl rfl
theorem we_X3_radiusOf : (Jvm.Cond.selects "PotVolumesModel" (⟨"PotVolumesModel", "radiusOf", "(II)I"⟩ : Jvm.MethodName) (⟨"PotVolumesModel", "radiusOf", "(II)I"⟩ : Jvm.MethodName)) ∈ gw := gw_s (k := 22) rfl rfl
theorem we_X3_sum : (Jvm.Cond.selects "PotVolumesModel" (⟨"PotVolumesModel", "sum", "(IIII)V"⟩ : Jvm.MethodName) (⟨"PotVolumesModel", "sum", "(IIII)V"⟩ : Jvm.MethodName)) ∈ gw := gw_s (k := 23) rfl rfl
theorem we_X3_addPiece : (Jvm.Cond.selects "PotVolumesModel" (⟨"PotVolumesModel", "addPiece", "(IIIII)V"⟩ : Jvm.MethodName) (⟨"PotVolumesModel", "addPiece", "(IIIII)V"⟩ : Jvm.MethodName)) ∈ gw := gw_s (k := 24) rfl rfl
theorem we_X3_add : (Jvm.Cond.selects "PotVolumesModel" (⟨"PotVolumesModel", "add", "(JJ)V"⟩ : Jvm.MethodName) (⟨"PotVolumesModel", "add", "(JJ)V"⟩ : Jvm.MethodName)) ∈ gw := gw_s (k := 25) rfl rfl
theorem we_X3_lessen : (Jvm.Cond.selects "PotVolumesModel" (⟨"PotVolumesModel", "lessen", "()V"⟩ : Jvm.MethodName) (⟨"PotVolumesModel", "lessen", "()V"⟩ : Jvm.MethodName)) ∈ gw := gw_s (k := 26) rfl rfl
theorem we_X3_sumHeld : (Jvm.Cond.selects "PotVolumesModel" (⟨"PotVolumesModel", "sumHeld", "(II)V"⟩ : Jvm.MethodName) (⟨"PotVolumesModel", "sumHeld", "(II)V"⟩ : Jvm.MethodName)) ∈ gw := gw_s (k := 27) rfl rfl
theorem we_X3_enclose : (Jvm.Cond.selects "PotVolumesModel" (⟨"PotVolumesModel", "enclose", "(II)J"⟩ : Jvm.MethodName) (⟨"PotVolumesModel", "enclose", "(II)J"⟩ : Jvm.MethodName)) ∈ gw := gw_s (k := 28) rfl rfl
theorem we_X3_times : (Jvm.Cond.selects "PotVolumesModel" (⟨"PotVolumesModel", "times", "(JZ)J"⟩ : Jvm.MethodName) (⟨"PotVolumesModel", "times", "(JZ)J"⟩ : Jvm.MethodName)) ∈ gw := gw_s (k := 29) rfl rfl
theorem we_X3_pointCount : (Jvm.Cond.selects "PotVolumesModel" (⟨"PotVolumesModel", "pointCount", "(I)I"⟩ : Jvm.MethodName) (⟨"PotVolumesModel", "pointCount", "(I)I"⟩ : Jvm.MethodName)) ∈ gw := gw_s (k := 30) rfl rfl
theorem we_X3_round : (Jvm.Cond.selects "PotVolumesModel" (⟨"PotVolumesModel", "round", "()V"⟩ : Jvm.MethodName) (⟨"PotVolumesModel", "round", "()V"⟩ : Jvm.MethodName)) ∈ gw := gw_s (k := 31) rfl rfl
theorem we_X3_apart : (Jvm.Cond.selects "PotVolumesModel" (⟨"PotVolumesModel", "apart", "(II)J"⟩ : Jvm.MethodName) (⟨"PotVolumesModel", "apart", "(II)J"⟩ : Jvm.MethodName)) ∈ gw := gw_s (k := 32) rfl rfl
theorem we_X3_allOf : (Jvm.Cond.selects "PotVolumesModel" (⟨"PotVolumesModel", "allOf", "(I)I"⟩ : Jvm.MethodName) (⟨"PotVolumesModel", "allOf", "(I)I"⟩ : Jvm.MethodName)) ∈ gw := gw_s (k := 33) rfl rfl
theorem inX0 : ∀ w ∈ u_ws RX0 TX0 2, w ∈ gw := by
  show ∀ w ∈ (List.range 2).map (u_lay RX0 TX0), w ∈ gw
  intro w hw
  obtain ⟨k, hk, rfl⟩ := List.mem_map.mp hw
  have hk := List.mem_range.mp hk
  match k, hk with
  | 0, _ => exact wf_X0_above
  | 1, _ => exact wf_X0_below
  | n + 2, h => exact absurd h (by omega)
theorem inX1 : ∀ w ∈ u_ws RX1 TX1 5, w ∈ gw := by
  show ∀ w ∈ (List.range 5).map (u_lay RX1 TX1), w ∈ gw
  intro w hw
  obtain ⟨k, hk, rfl⟩ := List.mem_map.mp hw
  have hk := List.mem_range.mp hk
  match k, hk with
  | 0, _ => exact wf_X1_heights
  | 1, _ => exact wf_X1_radiuses
  | 2, _ => exact wf_X1_cornerCount
  | 3, _ => exact wf_X1_thickness
  | 4, _ => exact wf_X1_wasCut
  | n + 5, h => exact absurd h (by omega)
theorem inX2 : ∀ w ∈ u_ws RX2 TX2 12, w ∈ gw := by
  show ∀ w ∈ (List.range 12).map (u_lay RX2 TX2), w ∈ gw
  intro w hw
  obtain ⟨k, hk, rfl⟩ := List.mem_map.mp hw
  have hk := List.mem_range.mp hk
  match k, hk with
  | 0, _ => exact wf_X2_profiles
  | 1, _ => exact wf_X2_profileCount
  | 2, _ => exact wf_X2_bounds
  | 3, _ => exact wf_X2_boundCount
  | 4, _ => exact wf_X2_placesAcross
  | 5, _ => exact wf_X2_placesAlong
  | 6, _ => exact wf_X2_placeCount
  | 7, _ => exact wf_X2_sherdProfiles
  | 8, _ => exact wf_X2_sherdShares
  | 9, _ => exact wf_X2_sherdCount
  | 10, _ => exact wf_X2_vesselShares
  | 11, _ => exact wf_X2_fraction
  | n + 12, h => exact absurd h (by omega)
theorem inX3 : ∀ w ∈ u_ws RX3 TX3 18, w ∈ gw := by
  show ∀ w ∈ (List.range 18).map (u_lay RX3 TX3), w ∈ gw
  intro w hw
  obtain ⟨k, hk, rfl⟩ := List.mem_map.mp hw
  have hk := List.mem_range.mp hk
  match k, hk with
  | 0, _ => exact wf_X3_thrown
  | 1, _ => exact wf_X3_profiles
  | 2, _ => exact wf_X3_sizes
  | 3, _ => exact wf_X3_heights
  | 4, _ => exact wf_X3_radii
  | 5, _ => exact wf_X3_isCut
  | 6, _ => exact wf_X3_walls
  | 7, _ => exact wf_X3_bounds
  | 8, _ => exact wf_X3_boundCount
  | 9, _ => exact wf_X3_rimX
  | 10, _ => exact wf_X3_rimY
  | 11, _ => exact wf_X3_places
  | 12, _ => exact wf_X3_sherdOf
  | 13, _ => exact wf_X3_shares
  | 14, _ => exact wf_X3_sherds
  | 15, _ => exact wf_X3_filled
  | 16, _ => exact wf_X3_above
  | 17, _ => exact wf_X3_below
  | n + 18, h => exact absurd h (by omega)
