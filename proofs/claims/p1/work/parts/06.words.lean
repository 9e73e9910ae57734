theorem uw_1_10 : (Jvm.Cond.initialized "HideReader$Lattice") ∈ UT := ut_t (tm_1 (List.mem_of_getElem? (i := 10) rfl)) rfl
theorem uw_2_34 : (Jvm.Cond.code ({ cls := "HideReader$Lattice", name := "enter", desc := "([IIII)V" } : Jvm.MethodName) prog_6_method_2_code (6 : Nat) (Option.none : Option Jvm.ClassFile.FieldType)) ∈ UT := ut_t (tm_2 (List.mem_of_getElem? (i := 34) rfl)) rfl
theorem ck_X4_enter : ckC yX4_enter cX4_enter 6 none 4 := ⟨⟨uw_1_10, uw_2_34⟩, by decide +kernel, by decide +kernel, by decide⟩
theorem uw_1_3 : (Jvm.Cond.initialized "java/lang/String") ∈ UT := ut_t (tm_1 (List.mem_of_getElem? (i := 3) rfl)) rfl
theorem uw_1_45 : (Jvm.Cond.code ({ cls := "java/lang/String", name := "coder", desc := "()B" } : Jvm.MethodName) prog_18_method_152_code (1 : Nat) (Option.some Jvm.ClassFile.FieldType.byte)) ∈ UT := ut_t (tm_1 (List.mem_of_getElem? (i := 45) rfl)) rfl
theorem ck_J0_coder_7d493 : ckC yJ0_coder_7d493 cJ0_coder_7d493 1 (some .byte) 0 := ⟨⟨uw_1_3, uw_1_45⟩, by decide +kernel, by decide +kernel, by decide⟩
theorem uw_1_46 : (Jvm.Cond.fieldLink "java/lang/String" (38 : Nat) "java/lang/String" "COMPACT_STRINGS" "Z") ∈ UT := ut_t (tm_1 (List.mem_of_getElem? (i := 46) rfl)) rfl
theorem uw_9_210 : (Jvm.Cond.fieldLink "java/lang/String" (15 : Nat) "java/lang/String" "coder" "B") ∈ UT := ut_t (tm_9 (List.mem_of_getElem? (i := 210) rfl)) rfl
theorem uw_1_55 : (Jvm.Cond.code ({ cls := "java/lang/String", name := "isLatin1", desc := "()Z" } : Jvm.MethodName) prog_18_method_154_code (1 : Nat) (Option.some Jvm.ClassFile.FieldType.boolean)) ∈ UT := ut_t (tm_1 (List.mem_of_getElem? (i := 55) rfl)) rfl
theorem ck_J0_isLatin1_aae02 : ckC yJ0_isLatin1_aae02 cJ0_isLatin1_aae02 1 (some .boolean) 0 := ⟨⟨uw_1_3, uw_1_55⟩, by decide +kernel, by decide +kernel, by decide⟩
theorem uw_1_41 : (Jvm.Cond.code ({ cls := "java/lang/String", name := "length", desc := "()I" } : Jvm.MethodName) prog_18_method_54_code (1 : Nat) (Option.some Jvm.ClassFile.FieldType.int)) ∈ UT := ut_t (tm_1 (List.mem_of_getElem? (i := 41) rfl)) rfl
theorem ck_J0_length_8abf5 : ckC yJ0_length_8abf5 cJ0_length_8abf5 1 (some .int) 0 := ⟨⟨uw_1_3, uw_1_41⟩, by decide +kernel, by decide +kernel, by decide⟩
theorem uw_9_209 : (Jvm.Cond.fieldLink "java/lang/String" (9 : Nat) "java/lang/String" "value" "[B") ∈ UT := ut_t (tm_9 (List.mem_of_getElem? (i := 209) rfl)) rfl
theorem uw_1_43 : (Jvm.Cond.instanceMethod ({ cls := "java/lang/String", name := "coder", desc := "()B" } : Jvm.MethodName)) ∈ UT := ut_t (tm_1 (List.mem_of_getElem? (i := 43) rfl)) rfl
theorem uw_1_44 : (Jvm.Cond.selects "java/lang/String" ({ cls := "java/lang/String", name := "coder", desc := "()B" } : Jvm.MethodName) ({ cls := "java/lang/String", name := "coder", desc := "()B" } : Jvm.MethodName)) ∈ UT := ut_t (tm_1 (List.mem_of_getElem? (i := 44) rfl)) rfl
theorem iv_J0_coder_7d493 : Cond.instanceMethod yJ0_coder_7d493 ∈ UT ∧ Cond.selects (yJ0_coder_7d493).cls yJ0_coder_7d493 yJ0_coder_7d493 ∈ UT := ⟨uw_1_43, uw_1_44⟩
theorem uw_1_42 : (Jvm.Cond.methodLink "java/lang/String" (335 : Nat) ({ cls := "java/lang/String", name := "coder", desc := "()B" } : Jvm.MethodName)) ∈ UT := ut_t (tm_1 (List.mem_of_getElem? (i := 42) rfl)) rfl
theorem uw_1_5 : (Jvm.Cond.initialized "jdk/internal/util/Preconditions") ∈ UT := ut_t (tm_1 (List.mem_of_getElem? (i := 5) rfl)) rfl
theorem uw_1_66 : (Jvm.Cond.code ({ cls := "jdk/internal/util/Preconditions", name := "checkIndex", desc := "(IILjava/util/function/BiFunction;)I" } : Jvm.MethodName) prog_23_method_11_code (3 : Nat) (Option.some Jvm.ClassFile.FieldType.int)) ∈ UT := ut_t (tm_1 (List.mem_of_getElem? (i := 66) rfl)) rfl
theorem ck_J3_checkIndex_8e157 : ckC yJ3_checkIndex_8e157 cJ3_checkIndex_8e157 3 (some .int) 3 := ⟨⟨uw_1_5, uw_1_66⟩, by decide +kernel, by decide +kernel, by decide⟩
theorem uw_1_61 : (Jvm.Cond.code ({ cls := "java/lang/String", name := "checkIndex", desc := "(II)V" } : Jvm.MethodName) prog_18_method_155_code (2 : Nat) (Option.none : Option Jvm.ClassFile.FieldType)) ∈ UT := ut_t (tm_1 (List.mem_of_getElem? (i := 61) rfl)) rfl
theorem ck_J0_checkIndex_df160 : ckC yJ0_checkIndex_df160 cJ0_checkIndex_df160 2 none 2 := ⟨⟨uw_1_3, uw_1_61⟩, by decide +kernel, by decide +kernel, by decide⟩
theorem uw_1_62 : (Jvm.Cond.fieldLink "java/lang/String" (1053 : Nat) "jdk/internal/util/Preconditions" "SIOOBE_FORMATTER" "Ljava/util/function/BiFunction;") ∈ UT := ut_t (tm_1 (List.mem_of_getElem? (i := 62) rfl)) rfl
theorem uw_1_65 : (Jvm.Cond.static ({ cls := "jdk/internal/util/Preconditions", name := "checkIndex", desc := "(IILjava/util/function/BiFunction;)I" } : Jvm.MethodName)) ∈ UT := ut_t (tm_1 (List.mem_of_getElem? (i := 65) rfl)) rfl
theorem uw_1_64 : (Jvm.Cond.methodLink "java/lang/String" (1059 : Nat) ({ cls := "jdk/internal/util/Preconditions", name := "checkIndex", desc := "(IILjava/util/function/BiFunction;)I" } : Jvm.MethodName)) ∈ UT := ut_t (tm_1 (List.mem_of_getElem? (i := 64) rfl)) rfl
theorem uw_1_4 : (Jvm.Cond.initialized "java/lang/StringLatin1") ∈ UT := ut_t (tm_1 (List.mem_of_getElem? (i := 4) rfl)) rfl
theorem uw_1_58 : (Jvm.Cond.code ({ cls := "java/lang/StringLatin1", name := "charAt", desc := "([BI)C" } : Jvm.MethodName) prog_19_method_2_code (2 : Nat) (Option.some Jvm.ClassFile.FieldType.char)) ∈ UT := ut_t (tm_1 (List.mem_of_getElem? (i := 58) rfl)) rfl
theorem ck_J1_charAt_3b067 : ckC yJ1_charAt_3b067 cJ1_charAt_3b067 2 (some .char) 2 := ⟨⟨uw_1_4, uw_1_58⟩, by decide +kernel, by decide +kernel, by decide⟩
theorem uw_1_60 : (Jvm.Cond.static ({ cls := "java/lang/String", name := "checkIndex", desc := "(II)V" } : Jvm.MethodName)) ∈ UT := ut_t (tm_1 (List.mem_of_getElem? (i := 60) rfl)) rfl
theorem uw_1_59 : (Jvm.Cond.methodLink "java/lang/StringLatin1" (9 : Nat) ({ cls := "java/lang/String", name := "checkIndex", desc := "(II)V" } : Jvm.MethodName)) ∈ UT := ut_t (tm_1 (List.mem_of_getElem? (i := 59) rfl)) rfl
theorem uw_1_51 : (Jvm.Cond.code ({ cls := "java/lang/String", name := "charAt", desc := "(I)C" } : Jvm.MethodName) prog_18_method_56_code (2 : Nat) (Option.some Jvm.ClassFile.FieldType.char)) ∈ UT := ut_t (tm_1 (List.mem_of_getElem? (i := 51) rfl)) rfl
theorem ck_J0_charAt_5068e : ckC yJ0_charAt_5068e cJ0_charAt_5068e 2 (some .char) 1 := ⟨⟨uw_1_3, uw_1_51⟩, by decide +kernel, by decide +kernel, by decide⟩
theorem uw_1_53 : (Jvm.Cond.instanceMethod ({ cls := "java/lang/String", name := "isLatin1", desc := "()Z" } : Jvm.MethodName)) ∈ UT := ut_t (tm_1 (List.mem_of_getElem? (i := 53) rfl)) rfl
theorem uw_1_54 : (Jvm.Cond.selects "java/lang/String" ({ cls := "java/lang/String", name := "isLatin1", desc := "()Z" } : Jvm.MethodName) ({ cls := "java/lang/String", name := "isLatin1", desc := "()Z" } : Jvm.MethodName)) ∈ UT := ut_t (tm_1 (List.mem_of_getElem? (i := 54) rfl)) rfl
theorem iv_J0_isLatin1_aae02 : Cond.instanceMethod yJ0_isLatin1_aae02 ∈ UT ∧ Cond.selects (yJ0_isLatin1_aae02).cls yJ0_isLatin1_aae02 yJ0_isLatin1_aae02 ∈ UT := ⟨uw_1_53, uw_1_54⟩
theorem uw_1_52 : (Jvm.Cond.methodLink "java/lang/String" (492 : Nat) ({ cls := "java/lang/String", name := "isLatin1", desc := "()Z" } : Jvm.MethodName)) ∈ UT := ut_t (tm_1 (List.mem_of_getElem? (i := 52) rfl)) rfl
theorem uw_1_57 : (Jvm.Cond.static ({ cls := "java/lang/StringLatin1", name := "charAt", desc := "([BI)C" } : Jvm.MethodName)) ∈ UT := ut_t (tm_1 (List.mem_of_getElem? (i := 57) rfl)) rfl
theorem uw_1_56 : (Jvm.Cond.methodLink "java/lang/String" (495 : Nat) ({ cls := "java/lang/StringLatin1", name := "charAt", desc := "([BI)C" } : Jvm.MethodName)) ∈ UT := ut_t (tm_1 (List.mem_of_getElem? (i := 56) rfl)) rfl
theorem uw_1_135 : (Jvm.Cond.methodLink "HideReader$Formula" (3 : Nat) ({ cls := "java/lang/Object", name := "<init>", desc := "()V" } : Jvm.MethodName)) ∈ UT := ut_t (tm_1 (List.mem_of_getElem? (i := 135) rfl)) rfl
theorem uw_1_29 : (Jvm.Cond.instanceMethod ({ cls := "java/lang/Object", name := "<init>", desc := "()V" } : Jvm.MethodName)) ∈ UT := ut_t (tm_1 (List.mem_of_getElem? (i := 29) rfl)) rfl
theorem uw_1_30 : (Jvm.Cond.code ({ cls := "java/lang/Object", name := "<init>", desc := "()V" } : Jvm.MethodName) object_method_1_code (1 : Nat) (Option.none : Option Jvm.ClassFile.FieldType)) ∈ UT := ut_t (tm_1 (List.mem_of_getElem? (i := 30) rfl)) rfl
theorem uw_1_121 : (Jvm.Cond.arrayClass Jvm.ClassFile.FieldType.int) ∈ UT := ut_t (tm_1 (List.mem_of_getElem? (i := 121) rfl)) rfl
theorem uw_1_142 : (Jvm.Cond.laysFinal "HideReader$Formula" "HideReader$Formula" "kinds" "[I") ∈ UT := ut_t (tm_1 (List.mem_of_getElem? (i := 142) rfl)) rfl
theorem uw_1_144 : (Jvm.Cond.laysFinal "HideReader$Formula" "HideReader$Formula" "numbers" "[I") ∈ UT := ut_t (tm_1 (List.mem_of_getElem? (i := 144) rfl)) rfl
theorem uw_1_146 : (Jvm.Cond.laysFinal "HideReader$Formula" "HideReader$Formula" "stack" "[I") ∈ UT := ut_t (tm_1 (List.mem_of_getElem? (i := 146) rfl)) rfl
theorem uw_1_148 : (Jvm.Cond.laysFinal "HideReader$Formula" "HideReader$Formula" "facts" "[I") ∈ UT := ut_t (tm_1 (List.mem_of_getElem? (i := 148) rfl)) rfl
theorem uw_1_150 : (Jvm.Cond.lays "HideReader$Formula" "HideReader$Formula" "steps" "I") ∈ UT := ut_t (tm_1 (List.mem_of_getElem? (i := 150) rfl)) rfl
theorem uw_1_152 : (Jvm.Cond.lays "HideReader$Formula" "HideReader$Formula" "units" "I") ∈ UT := ut_t (tm_1 (List.mem_of_getElem? (i := 152) rfl)) rfl
theorem uc_2 : ∀ w ∈ u_ws RX2 TX2 6, w ∈ UT := show ∀ w ∈ ([u_lay RX2 TX2 0, u_lay RX2 TX2 1, u_lay RX2 TX2 2, u_lay RX2 TX2 3, u_lay RX2 TX2 4, u_lay RX2 TX2 5] : List Cond), w ∈ UT from List.forall_mem_cons.mpr ⟨uw_1_142, List.forall_mem_cons.mpr ⟨uw_1_144, List.forall_mem_cons.mpr ⟨uw_1_146, List.forall_mem_cons.mpr ⟨uw_1_148, List.forall_mem_cons.mpr ⟨uw_1_150, List.forall_mem_cons.mpr ⟨uw_1_152, fun _ h => absurd h List.not_mem_nil⟩⟩⟩⟩⟩⟩
theorem uw_1_136 : (Jvm.Cond.fieldLink "HideReader$Formula" (9 : Nat) "HideReader$Formula" "kinds" "[I") ∈ UT := ut_t (tm_1 (List.mem_of_getElem? (i := 136) rfl)) rfl
theorem uw_1_137 : (Jvm.Cond.fieldLink "HideReader$Formula" (13 : Nat) "HideReader$Formula" "numbers" "[I") ∈ UT := ut_t (tm_1 (List.mem_of_getElem? (i := 137) rfl)) rfl
theorem uw_1_138 : (Jvm.Cond.fieldLink "HideReader$Formula" (16 : Nat) "HideReader$Formula" "stack" "[I") ∈ UT := ut_t (tm_1 (List.mem_of_getElem? (i := 138) rfl)) rfl
theorem uw_1_139 : (Jvm.Cond.fieldLink "HideReader$Formula" (19 : Nat) "HideReader$Formula" "facts" "[I") ∈ UT := ut_t (tm_1 (List.mem_of_getElem? (i := 139) rfl)) rfl
theorem uw_1_140 : (Jvm.Cond.fieldLink "HideReader$Formula" (22 : Nat) "HideReader$Formula" "steps" "I") ∈ UT := ut_t (tm_1 (List.mem_of_getElem? (i := 140) rfl)) rfl
theorem uw_1_141 : (Jvm.Cond.fieldLink "HideReader$Formula" (26 : Nat) "HideReader$Formula" "units" "I") ∈ UT := ut_t (tm_1 (List.mem_of_getElem? (i := 141) rfl)) rfl
theorem uw_1_8 : (Jvm.Cond.initialized "HideReader$Formula") ∈ UT := ut_t (tm_1 (List.mem_of_getElem? (i := 8) rfl)) rfl
theorem uw_1_134 : (Jvm.Cond.code ({ cls := "HideReader$Formula", name := "<init>", desc := "()V" } : Jvm.MethodName) prog_4_method_1_code (1 : Nat) (Option.none : Option Jvm.ClassFile.FieldType)) ∈ UT := ut_t (tm_1 (List.mem_of_getElem? (i := 134) rfl)) rfl
theorem ck_X2_init : ckC yX2_init cX2_init 1 none 0 := ⟨⟨uw_1_8, uw_1_134⟩, by decide +kernel, by decide +kernel, by decide⟩
theorem uw_1_129 : (Jvm.Cond.methodLink "HideReader$Valley" (3 : Nat) ({ cls := "java/lang/Object", name := "<init>", desc := "()V" } : Jvm.MethodName)) ∈ UT := ut_t (tm_1 (List.mem_of_getElem? (i := 129) rfl)) rfl
theorem uw_1_217 : (Jvm.Cond.lays "HideReader$Valley" "HideReader$Valley" "turns" "I") ∈ UT := ut_t (tm_1 (List.mem_of_getElem? (i := 217) rfl)) rfl
theorem uw_1_219 : (Jvm.Cond.lays "HideReader$Valley" "HideReader$Valley" "mirror" "Z") ∈ UT := ut_t (tm_1 (List.mem_of_getElem? (i := 219) rfl)) rfl
theorem uw_1_221 : (Jvm.Cond.lays "HideReader$Valley" "HideReader$Valley" "night" "I") ∈ UT := ut_t (tm_1 (List.mem_of_getElem? (i := 221) rfl)) rfl
theorem uw_1_223 : (Jvm.Cond.lays "HideReader$Valley" "HideReader$Valley" "draw" "I") ∈ UT := ut_t (tm_1 (List.mem_of_getElem? (i := 223) rfl)) rfl
theorem uw_1_225 : (Jvm.Cond.lays "HideReader$Valley" "HideReader$Valley" "herds" "I") ∈ UT := ut_t (tm_1 (List.mem_of_getElem? (i := 225) rfl)) rfl
theorem uw_1_227 : (Jvm.Cond.lays "HideReader$Valley" "HideReader$Valley" "irons" "I") ∈ UT := ut_t (tm_1 (List.mem_of_getElem? (i := 227) rfl)) rfl
theorem uw_1_229 : (Jvm.Cond.lays "HideReader$Valley" "HideReader$Valley" "beasts" "I") ∈ UT := ut_t (tm_1 (List.mem_of_getElem? (i := 229) rfl)) rfl
theorem uw_1_231 : (Jvm.Cond.lays "HideReader$Valley" "HideReader$Valley" "linesTold" "I") ∈ UT := ut_t (tm_1 (List.mem_of_getElem? (i := 231) rfl)) rfl
theorem uw_1_233 : (Jvm.Cond.laysFinal "HideReader$Valley" "HideReader$Valley" "herdNames" "[J") ∈ UT := ut_t (tm_1 (List.mem_of_getElem? (i := 233) rfl)) rfl
theorem uw_1_235 : (Jvm.Cond.laysFinal "HideReader$Valley" "HideReader$Valley" "ironNames" "[J") ∈ UT := ut_t (tm_1 (List.mem_of_getElem? (i := 235) rfl)) rfl
theorem uw_1_237 : (Jvm.Cond.laysFinal "HideReader$Valley" "HideReader$Valley" "beastNames" "[J") ∈ UT := ut_t (tm_1 (List.mem_of_getElem? (i := 237) rfl)) rfl
theorem uw_1_239 : (Jvm.Cond.laysFinal "HideReader$Valley" "HideReader$Valley" "brands" "[I") ∈ UT := ut_t (tm_1 (List.mem_of_getElem? (i := 239) rfl)) rfl
theorem uw_2_1 : (Jvm.Cond.laysFinal "HideReader$Valley" "HideReader$Valley" "ironMarks" "[I") ∈ UT := ut_t (tm_2 (List.mem_of_getElem? (i := 1) rfl)) rfl
theorem uw_2_3 : (Jvm.Cond.laysFinal "HideReader$Valley" "HideReader$Valley" "homes" "[I") ∈ UT := ut_t (tm_2 (List.mem_of_getElem? (i := 3) rfl)) rfl
theorem uw_2_5 : (Jvm.Cond.laysFinal "HideReader$Valley" "HideReader$Valley" "births" "[I") ∈ UT := ut_t (tm_2 (List.mem_of_getElem? (i := 5) rfl)) rfl
theorem uw_2_7 : (Jvm.Cond.laysFinal "HideReader$Valley" "HideReader$Valley" "shows" "LHideReader$Formula;") ∈ UT := ut_t (tm_2 (List.mem_of_getElem? (i := 7) rfl)) rfl
theorem uc_9 : ∀ w ∈ u_ws RX9 TX9 16, w ∈ UT := show ∀ w ∈ ([u_lay RX9 TX9 0, u_lay RX9 TX9 1, u_lay RX9 TX9 2, u_lay RX9 TX9 3, u_lay RX9 TX9 4, u_lay RX9 TX9 5, u_lay RX9 TX9 6, u_lay RX9 TX9 7, u_lay RX9 TX9 8, u_lay RX9 TX9 9, u_lay RX9 TX9 10, u_lay RX9 TX9 11, u_lay RX9 TX9 12, u_lay RX9 TX9 13, u_lay RX9 TX9 14, u_lay RX9 TX9 15] : List Cond), w ∈ UT from List.forall_mem_cons.mpr ⟨uw_1_217, List.forall_mem_cons.mpr ⟨uw_1_219, List.forall_mem_cons.mpr ⟨uw_1_221, List.forall_mem_cons.mpr ⟨uw_1_223, List.forall_mem_cons.mpr ⟨uw_1_225, List.forall_mem_cons.mpr ⟨uw_1_227, List.forall_mem_cons.mpr ⟨uw_1_229, List.forall_mem_cons.mpr ⟨uw_1_231, List.forall_mem_cons.mpr ⟨uw_1_233, List.forall_mem_cons.mpr ⟨uw_1_235, List.forall_mem_cons.mpr ⟨uw_1_237, List.forall_mem_cons.mpr ⟨uw_1_239, List.forall_mem_cons.mpr ⟨uw_2_1, List.forall_mem_cons.mpr ⟨uw_2_3, List.forall_mem_cons.mpr ⟨uw_2_5, List.forall_mem_cons.mpr ⟨uw_2_7, fun _ h => absurd h List.not_mem_nil⟩⟩⟩⟩⟩⟩⟩⟩⟩⟩⟩⟩⟩⟩⟩⟩
theorem uw_1_155 : (Jvm.Cond.fieldLink "HideReader$Valley" (9 : Nat) "HideReader$Valley" "turns" "I") ∈ UT := ut_t (tm_1 (List.mem_of_getElem? (i := 155) rfl)) rfl
theorem uw_1_158 : (Jvm.Cond.fieldLink "HideReader$Valley" (15 : Nat) "HideReader$Valley" "mirror" "Z") ∈ UT := ut_t (tm_1 (List.mem_of_getElem? (i := 158) rfl)) rfl
theorem uw_1_161 : (Jvm.Cond.fieldLink "HideReader$Valley" (19 : Nat) "HideReader$Valley" "night" "I") ∈ UT := ut_t (tm_1 (List.mem_of_getElem? (i := 161) rfl)) rfl
theorem uw_1_165 : (Jvm.Cond.fieldLink "HideReader$Valley" (22 : Nat) "HideReader$Valley" "draw" "I") ∈ UT := ut_t (tm_1 (List.mem_of_getElem? (i := 165) rfl)) rfl
theorem uw_1_168 : (Jvm.Cond.fieldLink "HideReader$Valley" (25 : Nat) "HideReader$Valley" "herds" "I") ∈ UT := ut_t (tm_1 (List.mem_of_getElem? (i := 168) rfl)) rfl
theorem uw_1_173 : (Jvm.Cond.fieldLink "HideReader$Valley" (28 : Nat) "HideReader$Valley" "irons" "I") ∈ UT := ut_t (tm_1 (List.mem_of_getElem? (i := 173) rfl)) rfl
theorem uw_1_178 : (Jvm.Cond.fieldLink "HideReader$Valley" (31 : Nat) "HideReader$Valley" "beasts" "I") ∈ UT := ut_t (tm_1 (List.mem_of_getElem? (i := 178) rfl)) rfl
theorem uw_1_184 : (Jvm.Cond.fieldLink "HideReader$Valley" (34 : Nat) "HideReader$Valley" "linesTold" "I") ∈ UT := ut_t (tm_1 (List.mem_of_getElem? (i := 184) rfl)) rfl
theorem uw_1_123 : (Jvm.Cond.arrayClass Jvm.ClassFile.FieldType.long) ∈ UT := ut_t (tm_1 (List.mem_of_getElem? (i := 123) rfl)) rfl
theorem uw_1_186 : (Jvm.Cond.fieldLink "HideReader$Valley" (37 : Nat) "HideReader$Valley" "herdNames" "[J") ∈ UT := ut_t (tm_1 (List.mem_of_getElem? (i := 186) rfl)) rfl
theorem uw_1_188 : (Jvm.Cond.fieldLink "HideReader$Valley" (41 : Nat) "HideReader$Valley" "ironNames" "[J") ∈ UT := ut_t (tm_1 (List.mem_of_getElem? (i := 188) rfl)) rfl
theorem uw_1_190 : (Jvm.Cond.fieldLink "HideReader$Valley" (44 : Nat) "HideReader$Valley" "beastNames" "[J") ∈ UT := ut_t (tm_1 (List.mem_of_getElem? (i := 190) rfl)) rfl
theorem uw_1_192 : (Jvm.Cond.fieldLink "HideReader$Valley" (47 : Nat) "HideReader$Valley" "brands" "[I") ∈ UT := ut_t (tm_1 (List.mem_of_getElem? (i := 192) rfl)) rfl
theorem uw_1_199 : (Jvm.Cond.fieldLink "HideReader$Valley" (51 : Nat) "HideReader$Valley" "ironMarks" "[I") ∈ UT := ut_t (tm_1 (List.mem_of_getElem? (i := 199) rfl)) rfl
theorem uw_1_203 : (Jvm.Cond.fieldLink "HideReader$Valley" (54 : Nat) "HideReader$Valley" "homes" "[I") ∈ UT := ut_t (tm_1 (List.mem_of_getElem? (i := 203) rfl)) rfl
theorem uw_1_208 : (Jvm.Cond.fieldLink "HideReader$Valley" (57 : Nat) "HideReader$Valley" "births" "[I") ∈ UT := ut_t (tm_1 (List.mem_of_getElem? (i := 208) rfl)) rfl
theorem uw_1_130 : (Jvm.Cond.classLink "HideReader$Valley" (60 : Nat) "HideReader$Formula") ∈ UT := ut_t (tm_1 (List.mem_of_getElem? (i := 130) rfl)) rfl
theorem uw_1_131 : (Jvm.Cond.instantiable "HideReader$Formula" (6 : Nat)) ∈ UT := ut_t (tm_1 (List.mem_of_getElem? (i := 131) rfl)) rfl
theorem df_2 : ∀ j, j < 6 → defaultValue (tyX2 j) = vp_V [.null, .null, .null, .null, .int 0, .int 0] j := fun j hj => match j, hj with
  | 0, _ => rfl
  | 1, _ => rfl
  | 2, _ => rfl
  | 3, _ => rfl
  | 4, _ => rfl
  | 5, _ => rfl
  | n + 6, h => absurd h (by omega)
theorem uw_1_133 : (Jvm.Cond.instanceMethod ({ cls := "HideReader$Formula", name := "<init>", desc := "()V" } : Jvm.MethodName)) ∈ UT := ut_t (tm_1 (List.mem_of_getElem? (i := 133) rfl)) rfl
theorem ii_X2_init : (yX2_init).name = "<init>" ∧ Cond.instanceMethod yX2_init ∈ UT := ⟨rfl, uw_1_133⟩
theorem uw_1_213 : (Jvm.Cond.fieldLink "HideReader$Valley" (63 : Nat) "HideReader$Valley" "shows" "LHideReader$Formula;") ∈ UT := ut_t (tm_1 (List.mem_of_getElem? (i := 213) rfl)) rfl
theorem uw_1_7 : (Jvm.Cond.initialized "HideReader$Valley") ∈ UT := ut_t (tm_1 (List.mem_of_getElem? (i := 7) rfl)) rfl
theorem uw_1_128 : (Jvm.Cond.code ({ cls := "HideReader$Valley", name := "<init>", desc := "()V" } : Jvm.MethodName) prog_11_method_1_code (1 : Nat) (Option.none : Option Jvm.ClassFile.FieldType)) ∈ UT := ut_t (tm_1 (List.mem_of_getElem? (i := 128) rfl)) rfl
theorem ck_X9_init : ckC yX9_init cX9_init 1 none 0 := ⟨⟨uw_1_7, uw_1_128⟩, by decide +kernel, by decide +kernel, by decide⟩
theorem uw_2_85 : (Jvm.Cond.methodLink "HideReader$Pasture" (3 : Nat) ({ cls := "java/lang/Object", name := "<init>", desc := "()V" } : Jvm.MethodName)) ∈ UT := ut_t (tm_2 (List.mem_of_getElem? (i := 85) rfl)) rfl
theorem uw_2_99 : (Jvm.Cond.laysFinal "HideReader$Pasture" "HideReader$Pasture" "hides" "[I") ∈ UT := ut_t (tm_2 (List.mem_of_getElem? (i := 99) rfl)) rfl
theorem uw_2_101 : (Jvm.Cond.laysFinal "HideReader$Pasture" "HideReader$Pasture" "owners" "[I") ∈ UT := ut_t (tm_2 (List.mem_of_getElem? (i := 101) rfl)) rfl
theorem uw_2_103 : (Jvm.Cond.laysFinal "HideReader$Pasture" "HideReader$Pasture" "ages" "[I") ∈ UT := ut_t (tm_2 (List.mem_of_getElem? (i := 103) rfl)) rfl
theorem uw_2_105 : (Jvm.Cond.lays "HideReader$Pasture" "HideReader$Pasture" "seasons" "I") ∈ UT := ut_t (tm_2 (List.mem_of_getElem? (i := 105) rfl)) rfl
theorem uw_2_107 : (Jvm.Cond.lays "HideReader$Pasture" "HideReader$Pasture" "seed" "I") ∈ UT := ut_t (tm_2 (List.mem_of_getElem? (i := 107) rfl)) rfl
theorem uc_5 : ∀ w ∈ u_ws RX5 TX5 5, w ∈ UT := show ∀ w ∈ ([u_lay RX5 TX5 0, u_lay RX5 TX5 1, u_lay RX5 TX5 2, u_lay RX5 TX5 3, u_lay RX5 TX5 4] : List Cond), w ∈ UT from List.forall_mem_cons.mpr ⟨uw_2_99, List.forall_mem_cons.mpr ⟨uw_2_101, List.forall_mem_cons.mpr ⟨uw_2_103, List.forall_mem_cons.mpr ⟨uw_2_105, List.forall_mem_cons.mpr ⟨uw_2_107, fun _ h => absurd h List.not_mem_nil⟩⟩⟩⟩⟩
theorem uw_2_86 : (Jvm.Cond.fieldLink "HideReader$Pasture" (9 : Nat) "HideReader$Pasture" "hides" "[I") ∈ UT := ut_t (tm_2 (List.mem_of_getElem? (i := 86) rfl)) rfl
theorem uw_2_89 : (Jvm.Cond.fieldLink "HideReader$Pasture" (15 : Nat) "HideReader$Pasture" "owners" "[I") ∈ UT := ut_t (tm_2 (List.mem_of_getElem? (i := 89) rfl)) rfl
theorem uw_2_92 : (Jvm.Cond.fieldLink "HideReader$Pasture" (18 : Nat) "HideReader$Pasture" "ages" "[I") ∈ UT := ut_t (tm_2 (List.mem_of_getElem? (i := 92) rfl)) rfl
theorem uw_2_93 : (Jvm.Cond.fieldLink "HideReader$Pasture" (21 : Nat) "HideReader$Pasture" "seasons" "I") ∈ UT := ut_t (tm_2 (List.mem_of_getElem? (i := 93) rfl)) rfl
theorem uw_2_97 : (Jvm.Cond.fieldLink "HideReader$Pasture" (25 : Nat) "HideReader$Pasture" "seed" "I") ∈ UT := ut_t (tm_2 (List.mem_of_getElem? (i := 97) rfl)) rfl
theorem uw_1_13 : (Jvm.Cond.initialized "HideReader$Pasture") ∈ UT := ut_t (tm_1 (List.mem_of_getElem? (i := 13) rfl)) rfl
theorem uw_2_84 : (Jvm.Cond.code ({ cls := "HideReader$Pasture", name := "<init>", desc := "()V" } : Jvm.MethodName) prog_7_method_1_code (1 : Nat) (Option.none : Option Jvm.ClassFile.FieldType)) ∈ UT := ut_t (tm_2 (List.mem_of_getElem? (i := 84) rfl)) rfl
theorem ck_X5_init : ckC yX5_init cX5_init 1 none 0 := ⟨⟨uw_1_13, uw_2_84⟩, by decide +kernel, by decide +kernel, by decide⟩
theorem uw_2_28 : (Jvm.Cond.methodLink "HideReader$Lattice" (5 : Nat) ({ cls := "java/lang/Object", name := "<init>", desc := "()V" } : Jvm.MethodName)) ∈ UT := ut_t (tm_2 (List.mem_of_getElem? (i := 28) rfl)) rfl
theorem uw_2_39 : (Jvm.Cond.laysFinal "HideReader$Lattice" "HideReader$Lattice" "lowHalves" "[I") ∈ UT := ut_t (tm_2 (List.mem_of_getElem? (i := 39) rfl)) rfl
theorem uw_2_41 : (Jvm.Cond.laysFinal "HideReader$Lattice" "HideReader$Lattice" "highHalves" "[I") ∈ UT := ut_t (tm_2 (List.mem_of_getElem? (i := 41) rfl)) rfl
theorem uw_2_43 : (Jvm.Cond.laysFinal "HideReader$Lattice" "HideReader$Lattice" "ways" "[I") ∈ UT := ut_t (tm_2 (List.mem_of_getElem? (i := 43) rfl)) rfl
theorem uw_2_45 : (Jvm.Cond.lays "HideReader$Lattice" "HideReader$Lattice" "placements" "I") ∈ UT := ut_t (tm_2 (List.mem_of_getElem? (i := 45) rfl)) rfl
theorem uc_4 : ∀ w ∈ u_ws RX4 TX4 4, w ∈ UT := show ∀ w ∈ ([u_lay RX4 TX4 0, u_lay RX4 TX4 1, u_lay RX4 TX4 2, u_lay RX4 TX4 3] : List Cond), w ∈ UT from List.forall_mem_cons.mpr ⟨uw_2_39, List.forall_mem_cons.mpr ⟨uw_2_41, List.forall_mem_cons.mpr ⟨uw_2_43, List.forall_mem_cons.mpr ⟨uw_2_45, fun _ h => absurd h List.not_mem_nil⟩⟩⟩⟩
theorem uw_2_35 : (Jvm.Cond.fieldLink "HideReader$Lattice" (11 : Nat) "HideReader$Lattice" "lowHalves" "[I") ∈ UT := ut_t (tm_2 (List.mem_of_getElem? (i := 35) rfl)) rfl
theorem uw_2_36 : (Jvm.Cond.fieldLink "HideReader$Lattice" (15 : Nat) "HideReader$Lattice" "highHalves" "[I") ∈ UT := ut_t (tm_2 (List.mem_of_getElem? (i := 36) rfl)) rfl
theorem uw_2_37 : (Jvm.Cond.fieldLink "HideReader$Lattice" (18 : Nat) "HideReader$Lattice" "ways" "[I") ∈ UT := ut_t (tm_2 (List.mem_of_getElem? (i := 37) rfl)) rfl
theorem uw_2_38 : (Jvm.Cond.fieldLink "HideReader$Lattice" (21 : Nat) "HideReader$Lattice" "placements" "I") ∈ UT := ut_t (tm_2 (List.mem_of_getElem? (i := 38) rfl)) rfl
theorem uw_2_31 : (Jvm.Cond.code ({ cls := "HideReader$Lattice", name := "movedStroke", desc := "(II)I" } : Jvm.MethodName) prog_6_method_3_code (7 : Nat) (Option.some Jvm.ClassFile.FieldType.int)) ∈ UT := ut_t (tm_2 (List.mem_of_getElem? (i := 31) rfl)) rfl
theorem ck_X4_movedStroke : ckC yX4_movedStroke cX4_movedStroke 7 (some .int) 2 := ⟨⟨uw_1_10, uw_2_31⟩, by decide +kernel, by decide +kernel, by decide⟩
theorem uw_2_30 : (Jvm.Cond.static ({ cls := "HideReader$Lattice", name := "movedStroke", desc := "(II)I" } : Jvm.MethodName)) ∈ UT := ut_t (tm_2 (List.mem_of_getElem? (i := 30) rfl)) rfl
theorem uw_2_29 : (Jvm.Cond.methodLink "HideReader$Lattice" (25 : Nat) ({ cls := "HideReader$Lattice", name := "movedStroke", desc := "(II)I" } : Jvm.MethodName)) ∈ UT := ut_t (tm_2 (List.mem_of_getElem? (i := 29) rfl)) rfl
theorem uw_2_33 : (Jvm.Cond.static ({ cls := "HideReader$Lattice", name := "enter", desc := "([IIII)V" } : Jvm.MethodName)) ∈ UT := ut_t (tm_2 (List.mem_of_getElem? (i := 33) rfl)) rfl
theorem uw_2_32 : (Jvm.Cond.methodLink "HideReader$Lattice" (29 : Nat) ({ cls := "HideReader$Lattice", name := "enter", desc := "([IIII)V" } : Jvm.MethodName)) ∈ UT := ut_t (tm_2 (List.mem_of_getElem? (i := 32) rfl)) rfl
theorem uw_2_27 : (Jvm.Cond.code ({ cls := "HideReader$Lattice", name := "<init>", desc := "()V" } : Jvm.MethodName) prog_6_method_1_code (3 : Nat) (Option.none : Option Jvm.ClassFile.FieldType)) ∈ UT := ut_t (tm_2 (List.mem_of_getElem? (i := 27) rfl)) rfl
theorem ck_X4_init : ckC yX4_init cX4_init 3 none 0 := ⟨⟨uw_1_10, uw_2_27⟩, by decide +kernel, by decide +kernel, by decide⟩
theorem uw_2_78 : (Jvm.Cond.methodLink "HideReader$History" (3 : Nat) ({ cls := "java/lang/Object", name := "<init>", desc := "()V" } : Jvm.MethodName)) ∈ UT := ut_t (tm_2 (List.mem_of_getElem? (i := 78) rfl)) rfl
theorem uw_2_79 : (Jvm.Cond.classLink "HideReader$History" (11 : Nat) "HideReader$Pasture") ∈ UT := ut_t (tm_2 (List.mem_of_getElem? (i := 79) rfl)) rfl
theorem uw_2_117 : (Jvm.Cond.laysFinal "HideReader$History" "HideReader$History" "ring" "[LHideReader$Pasture;") ∈ UT := ut_t (tm_2 (List.mem_of_getElem? (i := 117) rfl)) rfl
theorem uw_2_119 : (Jvm.Cond.laysFinal "HideReader$History" "HideReader$History" "boxes" "[LHideReader$Pasture;") ∈ UT := ut_t (tm_2 (List.mem_of_getElem? (i := 119) rfl)) rfl
theorem uw_2_121 : (Jvm.Cond.laysFinal "HideReader$History" "HideReader$History" "isKept" "[Z") ∈ UT := ut_t (tm_2 (List.mem_of_getElem? (i := 121) rfl)) rfl
theorem uw_2_123 : (Jvm.Cond.lays "HideReader$History" "HideReader$History" "here" "I") ∈ UT := ut_t (tm_2 (List.mem_of_getElem? (i := 123) rfl)) rfl
theorem uw_2_125 : (Jvm.Cond.lays "HideReader$History" "HideReader$History" "undoable" "I") ∈ UT := ut_t (tm_2 (List.mem_of_getElem? (i := 125) rfl)) rfl
theorem uw_2_127 : (Jvm.Cond.lays "HideReader$History" "HideReader$History" "redoable" "I") ∈ UT := ut_t (tm_2 (List.mem_of_getElem? (i := 127) rfl)) rfl
theorem uc_3 : ∀ w ∈ u_ws RX3 TX3 6, w ∈ UT := show ∀ w ∈ ([u_lay RX3 TX3 0, u_lay RX3 TX3 1, u_lay RX3 TX3 2, u_lay RX3 TX3 3, u_lay RX3 TX3 4, u_lay RX3 TX3 5] : List Cond), w ∈ UT from List.forall_mem_cons.mpr ⟨uw_2_117, List.forall_mem_cons.mpr ⟨uw_2_119, List.forall_mem_cons.mpr ⟨uw_2_121, List.forall_mem_cons.mpr ⟨uw_2_123, List.forall_mem_cons.mpr ⟨uw_2_125, List.forall_mem_cons.mpr ⟨uw_2_127, fun _ h => absurd h List.not_mem_nil⟩⟩⟩⟩⟩⟩
theorem uw_2_111 : (Jvm.Cond.fieldLink "HideReader$History" (13 : Nat) "HideReader$History" "ring" "[LHideReader$Pasture;") ∈ UT := ut_t (tm_2 (List.mem_of_getElem? (i := 111) rfl)) rfl
theorem uw_2_112 : (Jvm.Cond.fieldLink "HideReader$History" (17 : Nat) "HideReader$History" "boxes" "[LHideReader$Pasture;") ∈ UT := ut_t (tm_2 (List.mem_of_getElem? (i := 112) rfl)) rfl
theorem uw_2_110 : (Jvm.Cond.arrayClass Jvm.ClassFile.FieldType.boolean) ∈ UT := ut_t (tm_2 (List.mem_of_getElem? (i := 110) rfl)) rfl
theorem uw_2_113 : (Jvm.Cond.fieldLink "HideReader$History" (20 : Nat) "HideReader$History" "isKept" "[Z") ∈ UT := ut_t (tm_2 (List.mem_of_getElem? (i := 113) rfl)) rfl
theorem uw_2_114 : (Jvm.Cond.fieldLink "HideReader$History" (24 : Nat) "HideReader$History" "here" "I") ∈ UT := ut_t (tm_2 (List.mem_of_getElem? (i := 114) rfl)) rfl
theorem uw_2_115 : (Jvm.Cond.fieldLink "HideReader$History" (28 : Nat) "HideReader$History" "undoable" "I") ∈ UT := ut_t (tm_2 (List.mem_of_getElem? (i := 115) rfl)) rfl
theorem uw_2_116 : (Jvm.Cond.fieldLink "HideReader$History" (31 : Nat) "HideReader$History" "redoable" "I") ∈ UT := ut_t (tm_2 (List.mem_of_getElem? (i := 116) rfl)) rfl
theorem uw_2_81 : (Jvm.Cond.instantiable "HideReader$Pasture" (5 : Nat)) ∈ UT := ut_t (tm_2 (List.mem_of_getElem? (i := 81) rfl)) rfl
theorem df_5 : ∀ j, j < 5 → defaultValue (tyX5 j) = vp_V [.null, .null, .null, .int 0, .int 0] j := fun j hj => match j, hj with
  | 0, _ => rfl
  | 1, _ => rfl
  | 2, _ => rfl
  | 3, _ => rfl
  | 4, _ => rfl
  | n + 5, h => absurd h (by omega)
theorem uw_2_83 : (Jvm.Cond.instanceMethod ({ cls := "HideReader$Pasture", name := "<init>", desc := "()V" } : Jvm.MethodName)) ∈ UT := ut_t (tm_2 (List.mem_of_getElem? (i := 83) rfl)) rfl
theorem ii_X5_init : (yX5_init).name = "<init>" ∧ Cond.instanceMethod yX5_init ∈ UT := ⟨rfl, uw_2_83⟩
theorem uw_1_12 : (Jvm.Cond.initialized "HideReader$History") ∈ UT := ut_t (tm_1 (List.mem_of_getElem? (i := 12) rfl)) rfl
theorem uw_2_77 : (Jvm.Cond.code ({ cls := "HideReader$History", name := "<init>", desc := "()V" } : Jvm.MethodName) prog_5_method_1_code (2 : Nat) (Option.none : Option Jvm.ClassFile.FieldType)) ∈ UT := ut_t (tm_2 (List.mem_of_getElem? (i := 77) rfl)) rfl
theorem ck_X3_init : ckC yX3_init cX3_init 2 none 0 := ⟨⟨uw_1_12, uw_2_77⟩, by decide +kernel, by decide +kernel, by decide⟩
theorem uw_1_28 : (Jvm.Cond.methodLink "HideReader" (3 : Nat) ({ cls := "java/lang/Object", name := "<init>", desc := "()V" } : Jvm.MethodName)) ∈ UT := ut_t (tm_1 (List.mem_of_getElem? (i := 28) rfl)) rfl
theorem uw_3_1 : (Jvm.Cond.laysFinal "HideReader" "HideReader" "tape" "LHideReader$Tape;") ∈ UT := ut_t (tm_3 (List.mem_of_getElem? (i := 1) rfl)) rfl
theorem uw_3_3 : (Jvm.Cond.laysFinal "HideReader" "HideReader" "told" "LHideReader$Valley;") ∈ UT := ut_t (tm_3 (List.mem_of_getElem? (i := 3) rfl)) rfl
theorem uw_3_5 : (Jvm.Cond.laysFinal "HideReader" "HideReader" "draft" "LHideReader$Valley;") ∈ UT := ut_t (tm_3 (List.mem_of_getElem? (i := 5) rfl)) rfl
theorem uw_3_7 : (Jvm.Cond.laysFinal "HideReader" "HideReader" "reader" "LHideReader$TextReader;") ∈ UT := ut_t (tm_3 (List.mem_of_getElem? (i := 7) rfl)) rfl
theorem uw_3_9 : (Jvm.Cond.laysFinal "HideReader" "HideReader" "lattice" "LHideReader$Lattice;") ∈ UT := ut_t (tm_3 (List.mem_of_getElem? (i := 9) rfl)) rfl
theorem uw_3_11 : (Jvm.Cond.laysFinal "HideReader" "HideReader" "smith" "LHideReader$Smith;") ∈ UT := ut_t (tm_3 (List.mem_of_getElem? (i := 11) rfl)) rfl
theorem uw_3_13 : (Jvm.Cond.laysFinal "HideReader" "HideReader" "history" "LHideReader$History;") ∈ UT := ut_t (tm_3 (List.mem_of_getElem? (i := 13) rfl)) rfl
theorem uw_3_15 : (Jvm.Cond.laysFinal "HideReader" "HideReader" "book" "LHideReader$Book;") ∈ UT := ut_t (tm_3 (List.mem_of_getElem? (i := 15) rfl)) rfl
theorem uw_3_17 : (Jvm.Cond.laysFinal "HideReader" "HideReader" "beasts" "LHideReader$Beasts;") ∈ UT := ut_t (tm_3 (List.mem_of_getElem? (i := 17) rfl)) rfl
theorem uw_3_19 : (Jvm.Cond.laysFinal "HideReader" "HideReader" "witness" "LHideReader$Witness;") ∈ UT := ut_t (tm_3 (List.mem_of_getElem? (i := 19) rfl)) rfl
theorem uw_3_21 : (Jvm.Cond.laysFinal "HideReader" "HideReader" "lying" "[I") ∈ UT := ut_t (tm_3 (List.mem_of_getElem? (i := 21) rfl)) rfl
theorem uw_3_23 : (Jvm.Cond.lays "HideReader" "HideReader" "lyingCount" "I") ∈ UT := ut_t (tm_3 (List.mem_of_getElem? (i := 23) rfl)) rfl
theorem uc_11 : ∀ w ∈ u_ws RX11 TX11 12, w ∈ UT := show ∀ w ∈ ([u_lay RX11 TX11 0, u_lay RX11 TX11 1, u_lay RX11 TX11 2, u_lay RX11 TX11 3, u_lay RX11 TX11 4, u_lay RX11 TX11 5, u_lay RX11 TX11 6, u_lay RX11 TX11 7, u_lay RX11 TX11 8, u_lay RX11 TX11 9, u_lay RX11 TX11 10, u_lay RX11 TX11 11] : List Cond), w ∈ UT from List.forall_mem_cons.mpr ⟨uw_3_1, List.forall_mem_cons.mpr ⟨uw_3_3, List.forall_mem_cons.mpr ⟨uw_3_5, List.forall_mem_cons.mpr ⟨uw_3_7, List.forall_mem_cons.mpr ⟨uw_3_9, List.forall_mem_cons.mpr ⟨uw_3_11, List.forall_mem_cons.mpr ⟨uw_3_13, List.forall_mem_cons.mpr ⟨uw_3_15, List.forall_mem_cons.mpr ⟨uw_3_17, List.forall_mem_cons.mpr ⟨uw_3_19, List.forall_mem_cons.mpr ⟨uw_3_21, List.forall_mem_cons.mpr ⟨uw_3_23, fun _ h => absurd h List.not_mem_nil⟩⟩⟩⟩⟩⟩⟩⟩⟩⟩⟩⟩
theorem uw_2_239 : (Jvm.Cond.fieldLink "HideReader" (9 : Nat) "HideReader" "lying" "[I") ∈ UT := ut_t (tm_2 (List.mem_of_getElem? (i := 239) rfl)) rfl
theorem uw_3_0 : (Jvm.Cond.fieldLink "HideReader" (13 : Nat) "HideReader" "lyingCount" "I") ∈ UT := ut_t (tm_3 (List.mem_of_getElem? (i := 0) rfl)) rfl
theorem uw_1_100 : (Jvm.Cond.laysFinal "HideReader$Tape" "HideReader$Tape" "bytes" "[B") ∈ UT := ut_t (tm_1 (List.mem_of_getElem? (i := 100) rfl)) rfl
theorem uw_1_102 : (Jvm.Cond.laysFinal "HideReader$Tape" "HideReader$Tape" "wordNames" "[J") ∈ UT := ut_t (tm_1 (List.mem_of_getElem? (i := 102) rfl)) rfl
theorem uw_1_104 : (Jvm.Cond.lays "HideReader$Tape" "HideReader$Tape" "length" "I") ∈ UT := ut_t (tm_1 (List.mem_of_getElem? (i := 104) rfl)) rfl
theorem uw_1_106 : (Jvm.Cond.lays "HideReader$Tape" "HideReader$Tape" "next" "I") ∈ UT := ut_t (tm_1 (List.mem_of_getElem? (i := 106) rfl)) rfl
theorem uw_1_108 : (Jvm.Cond.lays "HideReader$Tape" "HideReader$Tape" "kind" "I") ∈ UT := ut_t (tm_1 (List.mem_of_getElem? (i := 108) rfl)) rfl
theorem uw_1_110 : (Jvm.Cond.lays "HideReader$Tape" "HideReader$Tape" "place" "I") ∈ UT := ut_t (tm_1 (List.mem_of_getElem? (i := 110) rfl)) rfl
theorem uw_1_112 : (Jvm.Cond.lays "HideReader$Tape" "HideReader$Tape" "number" "I") ∈ UT := ut_t (tm_1 (List.mem_of_getElem? (i := 112) rfl)) rfl
theorem uw_1_114 : (Jvm.Cond.lays "HideReader$Tape" "HideReader$Tape" "name" "J") ∈ UT := ut_t (tm_1 (List.mem_of_getElem? (i := 114) rfl)) rfl
theorem uw_1_116 : (Jvm.Cond.lays "HideReader$Tape" "HideReader$Tape" "faultKind" "I") ∈ UT := ut_t (tm_1 (List.mem_of_getElem? (i := 116) rfl)) rfl
theorem uw_1_118 : (Jvm.Cond.lays "HideReader$Tape" "HideReader$Tape" "faultPlace" "I") ∈ UT := ut_t (tm_1 (List.mem_of_getElem? (i := 118) rfl)) rfl
theorem uc_7 : ∀ w ∈ u_ws RX7 TX7 10, w ∈ UT := show ∀ w ∈ ([u_lay RX7 TX7 0, u_lay RX7 TX7 1, u_lay RX7 TX7 2, u_lay RX7 TX7 3, u_lay RX7 TX7 4, u_lay RX7 TX7 5, u_lay RX7 TX7 6, u_lay RX7 TX7 7, u_lay RX7 TX7 8, u_lay RX7 TX7 9] : List Cond), w ∈ UT from List.forall_mem_cons.mpr ⟨uw_1_100, List.forall_mem_cons.mpr ⟨uw_1_102, List.forall_mem_cons.mpr ⟨uw_1_104, List.forall_mem_cons.mpr ⟨uw_1_106, List.forall_mem_cons.mpr ⟨uw_1_108, List.forall_mem_cons.mpr ⟨uw_1_110, List.forall_mem_cons.mpr ⟨uw_1_112, List.forall_mem_cons.mpr ⟨uw_1_114, List.forall_mem_cons.mpr ⟨uw_1_116, List.forall_mem_cons.mpr ⟨uw_1_118, fun _ h => absurd h List.not_mem_nil⟩⟩⟩⟩⟩⟩⟩⟩⟩⟩
theorem uw_1_31 : (Jvm.Cond.classLink "HideReader" (17 : Nat) "HideReader$Tape") ∈ UT := ut_t (tm_1 (List.mem_of_getElem? (i := 31) rfl)) rfl
theorem uw_1_32 : (Jvm.Cond.instantiable "HideReader$Tape" (10 : Nat)) ∈ UT := ut_t (tm_1 (List.mem_of_getElem? (i := 32) rfl)) rfl
theorem uw_1_2 : (Jvm.Cond.initialized "HideReader$Tape") ∈ UT := ut_t (tm_1 (List.mem_of_getElem? (i := 2) rfl)) rfl
theorem df_7 : ∀ j, j < 10 → defaultValue (tyX7 j) = vp_V [.null, .null, .int 0, .int 0, .int 0, .int 0, .int 0, .long 0, .int 0, .int 0] j := fun j hj => match j, hj with
  | 0, _ => rfl
  | 1, _ => rfl
  | 2, _ => rfl
  | 3, _ => rfl
  | 4, _ => rfl
  | 5, _ => rfl
  | 6, _ => rfl
  | 7, _ => rfl
  | 8, _ => rfl
  | 9, _ => rfl
  | n + 10, h => absurd h (by omega)
theorem uw_1_36 : (Jvm.Cond.methodLink "HideReader$Tape" (5 : Nat) ({ cls := "java/lang/Object", name := "<init>", desc := "()V" } : Jvm.MethodName)) ∈ UT := ut_t (tm_1 (List.mem_of_getElem? (i := 36) rfl)) rfl
theorem uw_1_122 : (Jvm.Cond.arrayClass Jvm.ClassFile.FieldType.byte) ∈ UT := ut_t (tm_1 (List.mem_of_getElem? (i := 122) rfl)) rfl
theorem uw_1_90 : (Jvm.Cond.fieldLink "HideReader$Tape" (11 : Nat) "HideReader$Tape" "bytes" "[B") ∈ UT := ut_t (tm_1 (List.mem_of_getElem? (i := 90) rfl)) rfl
theorem uw_1_91 : (Jvm.Cond.fieldLink "HideReader$Tape" (15 : Nat) "HideReader$Tape" "wordNames" "[J") ∈ UT := ut_t (tm_1 (List.mem_of_getElem? (i := 91) rfl)) rfl
theorem uw_1_92 : (Jvm.Cond.fieldLink "HideReader$Tape" (19 : Nat) "HideReader$Tape" "length" "I") ∈ UT := ut_t (tm_1 (List.mem_of_getElem? (i := 92) rfl)) rfl
theorem uw_1_93 : (Jvm.Cond.fieldLink "HideReader$Tape" (23 : Nat) "HideReader$Tape" "next" "I") ∈ UT := ut_t (tm_1 (List.mem_of_getElem? (i := 93) rfl)) rfl
theorem uw_1_94 : (Jvm.Cond.fieldLink "HideReader$Tape" (26 : Nat) "HideReader$Tape" "kind" "I") ∈ UT := ut_t (tm_1 (List.mem_of_getElem? (i := 94) rfl)) rfl
theorem uw_1_95 : (Jvm.Cond.fieldLink "HideReader$Tape" (29 : Nat) "HideReader$Tape" "place" "I") ∈ UT := ut_t (tm_1 (List.mem_of_getElem? (i := 95) rfl)) rfl
theorem uw_1_96 : (Jvm.Cond.fieldLink "HideReader$Tape" (32 : Nat) "HideReader$Tape" "number" "I") ∈ UT := ut_t (tm_1 (List.mem_of_getElem? (i := 96) rfl)) rfl
theorem uw_1_97 : (Jvm.Cond.fieldLink "HideReader$Tape" (35 : Nat) "HideReader$Tape" "name" "J") ∈ UT := ut_t (tm_1 (List.mem_of_getElem? (i := 97) rfl)) rfl
theorem uw_1_98 : (Jvm.Cond.fieldLink "HideReader$Tape" (39 : Nat) "HideReader$Tape" "faultKind" "I") ∈ UT := ut_t (tm_1 (List.mem_of_getElem? (i := 98) rfl)) rfl
theorem uw_1_99 : (Jvm.Cond.fieldLink "HideReader$Tape" (42 : Nat) "HideReader$Tape" "faultPlace" "I") ∈ UT := ut_t (tm_1 (List.mem_of_getElem? (i := 99) rfl)) rfl
theorem uw_1_39 : (Jvm.Cond.instanceMethod ({ cls := "java/lang/String", name := "length", desc := "()I" } : Jvm.MethodName)) ∈ UT := ut_t (tm_1 (List.mem_of_getElem? (i := 39) rfl)) rfl
theorem uw_1_40 : (Jvm.Cond.selects "java/lang/String" ({ cls := "java/lang/String", name := "length", desc := "()I" } : Jvm.MethodName) ({ cls := "java/lang/String", name := "length", desc := "()I" } : Jvm.MethodName)) ∈ UT := ut_t (tm_1 (List.mem_of_getElem? (i := 40) rfl)) rfl
theorem iv_J0_length_8abf5 : Cond.instanceMethod yJ0_length_8abf5 ∈ UT ∧ Cond.selects (yJ0_length_8abf5).cls yJ0_length_8abf5 yJ0_length_8abf5 ∈ UT := ⟨uw_1_39, uw_1_40⟩
theorem uw_1_38 : (Jvm.Cond.methodLink "HideReader$Tape" (47 : Nat) ({ cls := "java/lang/String", name := "length", desc := "()I" } : Jvm.MethodName)) ∈ UT := ut_t (tm_1 (List.mem_of_getElem? (i := 38) rfl)) rfl
theorem uw_1_49 : (Jvm.Cond.instanceMethod ({ cls := "java/lang/String", name := "charAt", desc := "(I)C" } : Jvm.MethodName)) ∈ UT := ut_t (tm_1 (List.mem_of_getElem? (i := 49) rfl)) rfl
theorem uw_1_50 : (Jvm.Cond.selects "java/lang/String" ({ cls := "java/lang/String", name := "charAt", desc := "(I)C" } : Jvm.MethodName) ({ cls := "java/lang/String", name := "charAt", desc := "(I)C" } : Jvm.MethodName)) ∈ UT := ut_t (tm_1 (List.mem_of_getElem? (i := 50) rfl)) rfl
theorem iv_J0_charAt_5068e : Cond.instanceMethod yJ0_charAt_5068e ∈ UT ∧ Cond.selects (yJ0_charAt_5068e).cls yJ0_charAt_5068e yJ0_charAt_5068e ∈ UT := ⟨uw_1_49, uw_1_50⟩
theorem uw_1_48 : (Jvm.Cond.methodLink "HideReader$Tape" (52 : Nat) ({ cls := "java/lang/String", name := "charAt", desc := "(I)C" } : Jvm.MethodName)) ∈ UT := ut_t (tm_1 (List.mem_of_getElem? (i := 48) rfl)) rfl
theorem uw_1_89 : (Jvm.Cond.constantLong "HideReader$Tape" (86 : Nat) (32 : Int64)) ∈ UT := ut_t (tm_1 (List.mem_of_getElem? (i := 89) rfl)) rfl
theorem uw_1_88 : (Jvm.Cond.code ({ cls := "HideReader$Tape", name := "withLetter", desc := "(JI)J" } : Jvm.MethodName) prog_9_method_15_code (3 : Nat) (Option.some Jvm.ClassFile.FieldType.long)) ∈ UT := ut_t (tm_1 (List.mem_of_getElem? (i := 88) rfl)) rfl
theorem ck_X7_withLetter : ckC yX7_withLetter cX7_withLetter 3 (some .long) 2 := ⟨⟨uw_1_2, uw_1_88⟩, by decide +kernel, by decide +kernel, by decide⟩
theorem uw_1_87 : (Jvm.Cond.static ({ cls := "HideReader$Tape", name := "withLetter", desc := "(JI)J" } : Jvm.MethodName)) ∈ UT := ut_t (tm_1 (List.mem_of_getElem? (i := 87) rfl)) rfl
theorem uw_1_86 : (Jvm.Cond.methodLink "HideReader$Tape" (56 : Nat) ({ cls := "HideReader$Tape", name := "withLetter", desc := "(JI)J" } : Jvm.MethodName)) ∈ UT := ut_t (tm_1 (List.mem_of_getElem? (i := 86) rfl)) rfl
theorem uw_1_35 : (Jvm.Cond.code ({ cls := "HideReader$Tape", name := "<init>", desc := "()V" } : Jvm.MethodName) prog_9_method_1_code (4 : Nat) (Option.none : Option Jvm.ClassFile.FieldType)) ∈ UT := ut_t (tm_1 (List.mem_of_getElem? (i := 35) rfl)) rfl
theorem ck_X7_init : ckC yX7_init cX7_init 4 none 0 := ⟨⟨uw_1_2, uw_1_35⟩, by decide +kernel, by decide +kernel, by decide⟩
theorem uw_1_34 : (Jvm.Cond.instanceMethod ({ cls := "HideReader$Tape", name := "<init>", desc := "()V" } : Jvm.MethodName)) ∈ UT := ut_t (tm_1 (List.mem_of_getElem? (i := 34) rfl)) rfl
theorem ii_X7_init : (yX7_init).name = "<init>" ∧ Cond.instanceMethod yX7_init ∈ UT := ⟨rfl, uw_1_34⟩
theorem uw_1_33 : (Jvm.Cond.methodLink "HideReader" (19 : Nat) ({ cls := "HideReader$Tape", name := "<init>", desc := "()V" } : Jvm.MethodName)) ∈ UT := ut_t (tm_1 (List.mem_of_getElem? (i := 33) rfl)) rfl
theorem uw_2_229 : (Jvm.Cond.fieldLink "HideReader" (20 : Nat) "HideReader" "tape" "LHideReader$Tape;") ∈ UT := ut_t (tm_2 (List.mem_of_getElem? (i := 229) rfl)) rfl
theorem uw_1_124 : (Jvm.Cond.classLink "HideReader" (24 : Nat) "HideReader$Valley") ∈ UT := ut_t (tm_1 (List.mem_of_getElem? (i := 124) rfl)) rfl
theorem uw_1_125 : (Jvm.Cond.instantiable "HideReader$Valley" (16 : Nat)) ∈ UT := ut_t (tm_1 (List.mem_of_getElem? (i := 125) rfl)) rfl
theorem df_9 : ∀ j, j < 16 → defaultValue (tyX9 j) = vp_V [.int 0, .int 0, .int 0, .int 0, .int 0, .int 0, .int 0, .int 0, .null, .null, .null, .null, .null, .null, .null, .null] j := fun j hj => match j, hj with
  | 0, _ => rfl
  | 1, _ => rfl
  | 2, _ => rfl
  | 3, _ => rfl
  | 4, _ => rfl
  | 5, _ => rfl
  | 6, _ => rfl
  | 7, _ => rfl
  | 8, _ => rfl
  | 9, _ => rfl
  | 10, _ => rfl
  | 11, _ => rfl
  | 12, _ => rfl
  | 13, _ => rfl
  | 14, _ => rfl
  | 15, _ => rfl
  | n + 16, h => absurd h (by omega)
theorem uw_1_127 : (Jvm.Cond.instanceMethod ({ cls := "HideReader$Valley", name := "<init>", desc := "()V" } : Jvm.MethodName)) ∈ UT := ut_t (tm_1 (List.mem_of_getElem? (i := 127) rfl)) rfl
theorem ii_X9_init : (yX9_init).name = "<init>" ∧ Cond.instanceMethod yX9_init ∈ UT := ⟨rfl, uw_1_127⟩
theorem uw_2_230 : (Jvm.Cond.fieldLink "HideReader" (27 : Nat) "HideReader" "told" "LHideReader$Valley;") ∈ UT := ut_t (tm_2 (List.mem_of_getElem? (i := 230) rfl)) rfl
theorem uw_2_231 : (Jvm.Cond.fieldLink "HideReader" (31 : Nat) "HideReader" "draft" "LHideReader$Valley;") ∈ UT := ut_t (tm_2 (List.mem_of_getElem? (i := 231) rfl)) rfl
theorem uw_2_18 : (Jvm.Cond.laysFinal "HideReader$TextReader" "HideReader$TextReader" "tape" "LHideReader$Tape;") ∈ UT := ut_t (tm_2 (List.mem_of_getElem? (i := 18) rfl)) rfl
theorem uw_2_20 : (Jvm.Cond.laysFinal "HideReader$TextReader" "HideReader$TextReader" "draft" "LHideReader$Valley;") ∈ UT := ut_t (tm_2 (List.mem_of_getElem? (i := 20) rfl)) rfl
theorem uc_8 : ∀ w ∈ u_ws RX8 TX8 2, w ∈ UT := show ∀ w ∈ ([u_lay RX8 TX8 0, u_lay RX8 TX8 1] : List Cond), w ∈ UT from List.forall_mem_cons.mpr ⟨uw_2_18, List.forall_mem_cons.mpr ⟨uw_2_20, fun _ h => absurd h List.not_mem_nil⟩⟩
theorem uw_2_10 : (Jvm.Cond.classLink "HideReader" (34 : Nat) "HideReader$TextReader") ∈ UT := ut_t (tm_2 (List.mem_of_getElem? (i := 10) rfl)) rfl
theorem uw_2_11 : (Jvm.Cond.instantiable "HideReader$TextReader" (2 : Nat)) ∈ UT := ut_t (tm_2 (List.mem_of_getElem? (i := 11) rfl)) rfl
theorem uw_1_9 : (Jvm.Cond.initialized "HideReader$TextReader") ∈ UT := ut_t (tm_1 (List.mem_of_getElem? (i := 9) rfl)) rfl
theorem df_8 : ∀ j, j < 2 → defaultValue (tyX8 j) = vp_V [.null, .null] j := fun j hj => match j, hj with
  | 0, _ => rfl
  | 1, _ => rfl
  | n + 2, h => absurd h (by omega)
theorem uw_2_15 : (Jvm.Cond.methodLink "HideReader$TextReader" (3 : Nat) ({ cls := "java/lang/Object", name := "<init>", desc := "()V" } : Jvm.MethodName)) ∈ UT := ut_t (tm_2 (List.mem_of_getElem? (i := 15) rfl)) rfl
theorem uw_2_16 : (Jvm.Cond.fieldLink "HideReader$TextReader" (9 : Nat) "HideReader$TextReader" "tape" "LHideReader$Tape;") ∈ UT := ut_t (tm_2 (List.mem_of_getElem? (i := 16) rfl)) rfl
theorem uw_2_17 : (Jvm.Cond.fieldLink "HideReader$TextReader" (15 : Nat) "HideReader$TextReader" "draft" "LHideReader$Valley;") ∈ UT := ut_t (tm_2 (List.mem_of_getElem? (i := 17) rfl)) rfl
theorem uw_2_14 : (Jvm.Cond.code ({ cls := "HideReader$TextReader", name := "<init>", desc := "(LHideReader$Tape;LHideReader$Valley;)V" } : Jvm.MethodName) prog_10_method_1_code (3 : Nat) (Option.none : Option Jvm.ClassFile.FieldType)) ∈ UT := ut_t (tm_2 (List.mem_of_getElem? (i := 14) rfl)) rfl
theorem ck_X8_init : ckC yX8_init cX8_init 3 none 2 := ⟨⟨uw_1_9, uw_2_14⟩, by decide +kernel, by decide +kernel, by decide⟩
theorem uw_2_13 : (Jvm.Cond.instanceMethod ({ cls := "HideReader$TextReader", name := "<init>", desc := "(LHideReader$Tape;LHideReader$Valley;)V" } : Jvm.MethodName)) ∈ UT := ut_t (tm_2 (List.mem_of_getElem? (i := 13) rfl)) rfl
theorem ii_X8_init : (yX8_init).name = "<init>" ∧ Cond.instanceMethod yX8_init ∈ UT := ⟨rfl, uw_2_13⟩
theorem uw_2_12 : (Jvm.Cond.methodLink "HideReader" (36 : Nat) ({ cls := "HideReader$TextReader", name := "<init>", desc := "(LHideReader$Tape;LHideReader$Valley;)V" } : Jvm.MethodName)) ∈ UT := ut_t (tm_2 (List.mem_of_getElem? (i := 12) rfl)) rfl
theorem uw_2_232 : (Jvm.Cond.fieldLink "HideReader" (39 : Nat) "HideReader" "reader" "LHideReader$TextReader;") ∈ UT := ut_t (tm_2 (List.mem_of_getElem? (i := 232) rfl)) rfl
theorem uw_2_23 : (Jvm.Cond.classLink "HideReader" (43 : Nat) "HideReader$Lattice") ∈ UT := ut_t (tm_2 (List.mem_of_getElem? (i := 23) rfl)) rfl
theorem uw_2_24 : (Jvm.Cond.instantiable "HideReader$Lattice" (4 : Nat)) ∈ UT := ut_t (tm_2 (List.mem_of_getElem? (i := 24) rfl)) rfl
theorem df_4 : ∀ j, j < 4 → defaultValue (tyX4 j) = vp_V [.null, .null, .null, .int 0] j := fun j hj => match j, hj with
  | 0, _ => rfl
  | 1, _ => rfl
  | 2, _ => rfl
  | 3, _ => rfl
  | n + 4, h => absurd h (by omega)
theorem uw_2_26 : (Jvm.Cond.instanceMethod ({ cls := "HideReader$Lattice", name := "<init>", desc := "()V" } : Jvm.MethodName)) ∈ UT := ut_t (tm_2 (List.mem_of_getElem? (i := 26) rfl)) rfl
theorem ii_X4_init : (yX4_init).name = "<init>" ∧ Cond.instanceMethod yX4_init ∈ UT := ⟨rfl, uw_2_26⟩
theorem uw_2_25 : (Jvm.Cond.methodLink "HideReader" (45 : Nat) ({ cls := "HideReader$Lattice", name := "<init>", desc := "()V" } : Jvm.MethodName)) ∈ UT := ut_t (tm_2 (List.mem_of_getElem? (i := 25) rfl)) rfl
theorem uw_2_233 : (Jvm.Cond.fieldLink "HideReader" (46 : Nat) "HideReader" "lattice" "LHideReader$Lattice;") ∈ UT := ut_t (tm_2 (List.mem_of_getElem? (i := 233) rfl)) rfl
theorem uw_2_60 : (Jvm.Cond.laysFinal "HideReader$Smith" "HideReader$Smith" "lattice" "LHideReader$Lattice;") ∈ UT := ut_t (tm_2 (List.mem_of_getElem? (i := 60) rfl)) rfl
theorem uw_2_62 : (Jvm.Cond.laysFinal "HideReader$Smith" "HideReader$Smith" "placedIrons" "[I") ∈ UT := ut_t (tm_2 (List.mem_of_getElem? (i := 62) rfl)) rfl
theorem uw_2_64 : (Jvm.Cond.laysFinal "HideReader$Smith" "HideReader$Smith" "within" "[I") ∈ UT := ut_t (tm_2 (List.mem_of_getElem? (i := 64) rfl)) rfl
theorem uw_2_66 : (Jvm.Cond.laysFinal "HideReader$Smith" "HideReader$Smith" "costs" "[B") ∈ UT := ut_t (tm_2 (List.mem_of_getElem? (i := 66) rfl)) rfl
theorem uw_2_68 : (Jvm.Cond.lays "HideReader$Smith" "HideReader$Smith" "irons" "I") ∈ UT := ut_t (tm_2 (List.mem_of_getElem? (i := 68) rfl)) rfl
theorem uw_2_70 : (Jvm.Cond.lays "HideReader$Smith" "HideReader$Smith" "aim" "I") ∈ UT := ut_t (tm_2 (List.mem_of_getElem? (i := 70) rfl)) rfl
theorem uc_6 : ∀ w ∈ u_ws RX6 TX6 6, w ∈ UT := show ∀ w ∈ ([u_lay RX6 TX6 0, u_lay RX6 TX6 1, u_lay RX6 TX6 2, u_lay RX6 TX6 3, u_lay RX6 TX6 4, u_lay RX6 TX6 5] : List Cond), w ∈ UT from List.forall_mem_cons.mpr ⟨uw_2_60, List.forall_mem_cons.mpr ⟨uw_2_62, List.forall_mem_cons.mpr ⟨uw_2_64, List.forall_mem_cons.mpr ⟨uw_2_66, List.forall_mem_cons.mpr ⟨uw_2_68, List.forall_mem_cons.mpr ⟨uw_2_70, fun _ h => absurd h List.not_mem_nil⟩⟩⟩⟩⟩⟩
theorem uw_2_48 : (Jvm.Cond.classLink "HideReader" (50 : Nat) "HideReader$Smith") ∈ UT := ut_t (tm_2 (List.mem_of_getElem? (i := 48) rfl)) rfl
theorem uw_2_49 : (Jvm.Cond.instantiable "HideReader$Smith" (6 : Nat)) ∈ UT := ut_t (tm_2 (List.mem_of_getElem? (i := 49) rfl)) rfl
theorem uw_1_11 : (Jvm.Cond.initialized "HideReader$Smith") ∈ UT := ut_t (tm_1 (List.mem_of_getElem? (i := 11) rfl)) rfl
theorem df_6 : ∀ j, j < 6 → defaultValue (tyX6 j) = vp_V [.null, .null, .null, .null, .int 0, .int 0] j := fun j hj => match j, hj with
  | 0, _ => rfl
  | 1, _ => rfl
  | 2, _ => rfl
  | 3, _ => rfl
  | 4, _ => rfl
  | 5, _ => rfl
  | n + 6, h => absurd h (by omega)
theorem uw_2_53 : (Jvm.Cond.methodLink "HideReader$Smith" (3 : Nat) ({ cls := "java/lang/Object", name := "<init>", desc := "()V" } : Jvm.MethodName)) ∈ UT := ut_t (tm_2 (List.mem_of_getElem? (i := 53) rfl)) rfl
theorem uw_2_55 : (Jvm.Cond.fieldLink "HideReader$Smith" (9 : Nat) "HideReader$Smith" "placedIrons" "[I") ∈ UT := ut_t (tm_2 (List.mem_of_getElem? (i := 55) rfl)) rfl
theorem uw_2_56 : (Jvm.Cond.fieldLink "HideReader$Smith" (15 : Nat) "HideReader$Smith" "within" "[I") ∈ UT := ut_t (tm_2 (List.mem_of_getElem? (i := 56) rfl)) rfl
theorem uw_2_57 : (Jvm.Cond.fieldLink "HideReader$Smith" (18 : Nat) "HideReader$Smith" "costs" "[B") ∈ UT := ut_t (tm_2 (List.mem_of_getElem? (i := 57) rfl)) rfl
theorem uw_2_58 : (Jvm.Cond.fieldLink "HideReader$Smith" (22 : Nat) "HideReader$Smith" "irons" "I") ∈ UT := ut_t (tm_2 (List.mem_of_getElem? (i := 58) rfl)) rfl
theorem uw_2_59 : (Jvm.Cond.fieldLink "HideReader$Smith" (26 : Nat) "HideReader$Smith" "aim" "I") ∈ UT := ut_t (tm_2 (List.mem_of_getElem? (i := 59) rfl)) rfl
theorem uw_2_54 : (Jvm.Cond.fieldLink "HideReader$Smith" (29 : Nat) "HideReader$Smith" "lattice" "LHideReader$Lattice;") ∈ UT := ut_t (tm_2 (List.mem_of_getElem? (i := 54) rfl)) rfl
theorem uw_2_52 : (Jvm.Cond.code ({ cls := "HideReader$Smith", name := "<init>", desc := "(LHideReader$Lattice;)V" } : Jvm.MethodName) prog_8_method_1_code (2 : Nat) (Option.none : Option Jvm.ClassFile.FieldType)) ∈ UT := ut_t (tm_2 (List.mem_of_getElem? (i := 52) rfl)) rfl
theorem ck_X6_init : ckC yX6_init cX6_init 2 none 1 := ⟨⟨uw_1_11, uw_2_52⟩, by decide +kernel, by decide +kernel, by decide⟩
theorem uw_2_51 : (Jvm.Cond.instanceMethod ({ cls := "HideReader$Smith", name := "<init>", desc := "(LHideReader$Lattice;)V" } : Jvm.MethodName)) ∈ UT := ut_t (tm_2 (List.mem_of_getElem? (i := 51) rfl)) rfl
theorem ii_X6_init : (yX6_init).name = "<init>" ∧ Cond.instanceMethod yX6_init ∈ UT := ⟨rfl, uw_2_51⟩
theorem uw_2_50 : (Jvm.Cond.methodLink "HideReader" (52 : Nat) ({ cls := "HideReader$Smith", name := "<init>", desc := "(LHideReader$Lattice;)V" } : Jvm.MethodName)) ∈ UT := ut_t (tm_2 (List.mem_of_getElem? (i := 50) rfl)) rfl
theorem uw_2_234 : (Jvm.Cond.fieldLink "HideReader" (55 : Nat) "HideReader" "smith" "LHideReader$Smith;") ∈ UT := ut_t (tm_2 (List.mem_of_getElem? (i := 234) rfl)) rfl
theorem uw_2_73 : (Jvm.Cond.classLink "HideReader" (59 : Nat) "HideReader$History") ∈ UT := ut_t (tm_2 (List.mem_of_getElem? (i := 73) rfl)) rfl
theorem uw_2_74 : (Jvm.Cond.instantiable "HideReader$History" (6 : Nat)) ∈ UT := ut_t (tm_2 (List.mem_of_getElem? (i := 74) rfl)) rfl
theorem df_3 : ∀ j, j < 6 → defaultValue (tyX3 j) = vp_V [.null, .null, .null, .int 0, .int 0, .int 0] j := fun j hj => match j, hj with
  | 0, _ => rfl
  | 1, _ => rfl
  | 2, _ => rfl
  | 3, _ => rfl
  | 4, _ => rfl
  | 5, _ => rfl
  | n + 6, h => absurd h (by omega)
theorem uw_2_76 : (Jvm.Cond.instanceMethod ({ cls := "HideReader$History", name := "<init>", desc := "()V" } : Jvm.MethodName)) ∈ UT := ut_t (tm_2 (List.mem_of_getElem? (i := 76) rfl)) rfl
theorem ii_X3_init : (yX3_init).name = "<init>" ∧ Cond.instanceMethod yX3_init ∈ UT := ⟨rfl, uw_2_76⟩
theorem uw_2_75 : (Jvm.Cond.methodLink "HideReader" (61 : Nat) ({ cls := "HideReader$History", name := "<init>", desc := "()V" } : Jvm.MethodName)) ∈ UT := ut_t (tm_2 (List.mem_of_getElem? (i := 75) rfl)) rfl
theorem uw_2_235 : (Jvm.Cond.fieldLink "HideReader" (62 : Nat) "HideReader" "history" "LHideReader$History;") ∈ UT := ut_t (tm_2 (List.mem_of_getElem? (i := 235) rfl)) rfl
theorem uw_2_144 : (Jvm.Cond.laysFinal "HideReader$Book" "HideReader$Book" "told" "LHideReader$Valley;") ∈ UT := ut_t (tm_2 (List.mem_of_getElem? (i := 144) rfl)) rfl
theorem uw_2_146 : (Jvm.Cond.laysFinal "HideReader$Book" "HideReader$Book" "lattice" "LHideReader$Lattice;") ∈ UT := ut_t (tm_2 (List.mem_of_getElem? (i := 146) rfl)) rfl
theorem uw_2_148 : (Jvm.Cond.laysFinal "HideReader$Book" "HideReader$Book" "smith" "LHideReader$Smith;") ∈ UT := ut_t (tm_2 (List.mem_of_getElem? (i := 148) rfl)) rfl
theorem uw_2_150 : (Jvm.Cond.laysFinal "HideReader$Book" "HideReader$Book" "norms" "[I") ∈ UT := ut_t (tm_2 (List.mem_of_getElem? (i := 150) rfl)) rfl
theorem uw_2_152 : (Jvm.Cond.laysFinal "HideReader$Book" "HideReader$Book" "above" "[I") ∈ UT := ut_t (tm_2 (List.mem_of_getElem? (i := 152) rfl)) rfl
theorem uw_2_154 : (Jvm.Cond.laysFinal "HideReader$Book" "HideReader$Book" "heights" "[I") ∈ UT := ut_t (tm_2 (List.mem_of_getElem? (i := 154) rfl)) rfl
theorem uw_2_156 : (Jvm.Cond.laysFinal "HideReader$Book" "HideReader$Book" "placedBrands" "[I") ∈ UT := ut_t (tm_2 (List.mem_of_getElem? (i := 156) rfl)) rfl
theorem uw_2_158 : (Jvm.Cond.lays "HideReader$Book" "HideReader$Book" "placedCount" "I") ∈ UT := ut_t (tm_2 (List.mem_of_getElem? (i := 158) rfl)) rfl
theorem uc_1 : ∀ w ∈ u_ws RX1 TX1 8, w ∈ UT := show ∀ w ∈ ([u_lay RX1 TX1 0, u_lay RX1 TX1 1, u_lay RX1 TX1 2, u_lay RX1 TX1 3, u_lay RX1 TX1 4, u_lay RX1 TX1 5, u_lay RX1 TX1 6, u_lay RX1 TX1 7] : List Cond), w ∈ UT from List.forall_mem_cons.mpr ⟨uw_2_144, List.forall_mem_cons.mpr ⟨uw_2_146, List.forall_mem_cons.mpr ⟨uw_2_148, List.forall_mem_cons.mpr ⟨uw_2_150, List.forall_mem_cons.mpr ⟨uw_2_152, List.forall_mem_cons.mpr ⟨uw_2_154, List.forall_mem_cons.mpr ⟨uw_2_156, List.forall_mem_cons.mpr ⟨uw_2_158, fun _ h => absurd h List.not_mem_nil⟩⟩⟩⟩⟩⟩⟩⟩
theorem uw_2_130 : (Jvm.Cond.classLink "HideReader" (66 : Nat) "HideReader$Book") ∈ UT := ut_t (tm_2 (List.mem_of_getElem? (i := 130) rfl)) rfl
theorem uw_2_131 : (Jvm.Cond.instantiable "HideReader$Book" (8 : Nat)) ∈ UT := ut_t (tm_2 (List.mem_of_getElem? (i := 131) rfl)) rfl
theorem uw_1_14 : (Jvm.Cond.initialized "HideReader$Book") ∈ UT := ut_t (tm_1 (List.mem_of_getElem? (i := 14) rfl)) rfl
theorem df_1 : ∀ j, j < 8 → defaultValue (tyX1 j) = vp_V [.null, .null, .null, .null, .null, .null, .null, .int 0] j := fun j hj => match j, hj with
  | 0, _ => rfl
  | 1, _ => rfl
  | 2, _ => rfl
  | 3, _ => rfl
  | 4, _ => rfl
  | 5, _ => rfl
  | 6, _ => rfl
  | 7, _ => rfl
  | n + 8, h => absurd h (by omega)
theorem uw_2_135 : (Jvm.Cond.methodLink "HideReader$Book" (3 : Nat) ({ cls := "java/lang/Object", name := "<init>", desc := "()V" } : Jvm.MethodName)) ∈ UT := ut_t (tm_2 (List.mem_of_getElem? (i := 135) rfl)) rfl
theorem uw_2_139 : (Jvm.Cond.fieldLink "HideReader$Book" (9 : Nat) "HideReader$Book" "norms" "[I") ∈ UT := ut_t (tm_2 (List.mem_of_getElem? (i := 139) rfl)) rfl
theorem uw_2_140 : (Jvm.Cond.fieldLink "HideReader$Book" (15 : Nat) "HideReader$Book" "above" "[I") ∈ UT := ut_t (tm_2 (List.mem_of_getElem? (i := 140) rfl)) rfl
theorem uw_2_141 : (Jvm.Cond.fieldLink "HideReader$Book" (18 : Nat) "HideReader$Book" "heights" "[I") ∈ UT := ut_t (tm_2 (List.mem_of_getElem? (i := 141) rfl)) rfl
theorem uw_2_142 : (Jvm.Cond.fieldLink "HideReader$Book" (21 : Nat) "HideReader$Book" "placedBrands" "[I") ∈ UT := ut_t (tm_2 (List.mem_of_getElem? (i := 142) rfl)) rfl
theorem uw_2_143 : (Jvm.Cond.fieldLink "HideReader$Book" (24 : Nat) "HideReader$Book" "placedCount" "I") ∈ UT := ut_t (tm_2 (List.mem_of_getElem? (i := 143) rfl)) rfl
theorem uw_2_136 : (Jvm.Cond.fieldLink "HideReader$Book" (28 : Nat) "HideReader$Book" "told" "LHideReader$Valley;") ∈ UT := ut_t (tm_2 (List.mem_of_getElem? (i := 136) rfl)) rfl
theorem uw_2_137 : (Jvm.Cond.fieldLink "HideReader$Book" (32 : Nat) "HideReader$Book" "lattice" "LHideReader$Lattice;") ∈ UT := ut_t (tm_2 (List.mem_of_getElem? (i := 137) rfl)) rfl
theorem uw_2_138 : (Jvm.Cond.fieldLink "HideReader$Book" (36 : Nat) "HideReader$Book" "smith" "LHideReader$Smith;") ∈ UT := ut_t (tm_2 (List.mem_of_getElem? (i := 138) rfl)) rfl
theorem uw_2_134 : (Jvm.Cond.code ({ cls := "HideReader$Book", name := "<init>", desc := "(LHideReader$Valley;LHideReader$Lattice;LHideReader$Smith;)V" } : Jvm.MethodName) prog_3_method_1_code (4 : Nat) (Option.none : Option Jvm.ClassFile.FieldType)) ∈ UT := ut_t (tm_2 (List.mem_of_getElem? (i := 134) rfl)) rfl
theorem ck_X1_init : ckC yX1_init cX1_init 4 none 3 := ⟨⟨uw_1_14, uw_2_134⟩, by decide +kernel, by decide +kernel, by decide⟩
theorem uw_2_133 : (Jvm.Cond.instanceMethod ({ cls := "HideReader$Book", name := "<init>", desc := "(LHideReader$Valley;LHideReader$Lattice;LHideReader$Smith;)V" } : Jvm.MethodName)) ∈ UT := ut_t (tm_2 (List.mem_of_getElem? (i := 133) rfl)) rfl
theorem ii_X1_init : (yX1_init).name = "<init>" ∧ Cond.instanceMethod yX1_init ∈ UT := ⟨rfl, uw_2_133⟩
theorem uw_2_132 : (Jvm.Cond.methodLink "HideReader" (68 : Nat) ({ cls := "HideReader$Book", name := "<init>", desc := "(LHideReader$Valley;LHideReader$Lattice;LHideReader$Smith;)V" } : Jvm.MethodName)) ∈ UT := ut_t (tm_2 (List.mem_of_getElem? (i := 132) rfl)) rfl
theorem uw_2_236 : (Jvm.Cond.fieldLink "HideReader" (71 : Nat) "HideReader" "book" "LHideReader$Book;") ∈ UT := ut_t (tm_2 (List.mem_of_getElem? (i := 236) rfl)) rfl
theorem uw_2_172 : (Jvm.Cond.laysFinal "HideReader$Beasts" "HideReader$Beasts" "told" "LHideReader$Valley;") ∈ UT := ut_t (tm_2 (List.mem_of_getElem? (i := 172) rfl)) rfl
theorem uw_2_174 : (Jvm.Cond.laysFinal "HideReader$Beasts" "HideReader$Beasts" "lattice" "LHideReader$Lattice;") ∈ UT := ut_t (tm_2 (List.mem_of_getElem? (i := 174) rfl)) rfl
theorem uw_2_176 : (Jvm.Cond.laysFinal "HideReader$Beasts" "HideReader$Beasts" "smith" "LHideReader$Smith;") ∈ UT := ut_t (tm_2 (List.mem_of_getElem? (i := 176) rfl)) rfl
theorem uw_2_178 : (Jvm.Cond.laysFinal "HideReader$Beasts" "HideReader$Beasts" "firstGains" "[I") ∈ UT := ut_t (tm_2 (List.mem_of_getElem? (i := 178) rfl)) rfl
theorem uw_2_180 : (Jvm.Cond.laysFinal "HideReader$Beasts" "HideReader$Beasts" "otherGains" "[I") ∈ UT := ut_t (tm_2 (List.mem_of_getElem? (i := 180) rfl)) rfl
theorem uc_0 : ∀ w ∈ u_ws RX0 TX0 5, w ∈ UT := show ∀ w ∈ ([u_lay RX0 TX0 0, u_lay RX0 TX0 1, u_lay RX0 TX0 2, u_lay RX0 TX0 3, u_lay RX0 TX0 4] : List Cond), w ∈ UT from List.forall_mem_cons.mpr ⟨uw_2_172, List.forall_mem_cons.mpr ⟨uw_2_174, List.forall_mem_cons.mpr ⟨uw_2_176, List.forall_mem_cons.mpr ⟨uw_2_178, List.forall_mem_cons.mpr ⟨uw_2_180, fun _ h => absurd h List.not_mem_nil⟩⟩⟩⟩⟩
theorem uw_2_161 : (Jvm.Cond.classLink "HideReader" (75 : Nat) "HideReader$Beasts") ∈ UT := ut_t (tm_2 (List.mem_of_getElem? (i := 161) rfl)) rfl
theorem uw_2_162 : (Jvm.Cond.instantiable "HideReader$Beasts" (5 : Nat)) ∈ UT := ut_t (tm_2 (List.mem_of_getElem? (i := 162) rfl)) rfl
theorem uw_1_15 : (Jvm.Cond.initialized "HideReader$Beasts") ∈ UT := ut_t (tm_1 (List.mem_of_getElem? (i := 15) rfl)) rfl
theorem df_0 : ∀ j, j < 5 → defaultValue (tyX0 j) = vp_V [.null, .null, .null, .null, .null] j := fun j hj => match j, hj with
  | 0, _ => rfl
  | 1, _ => rfl
  | 2, _ => rfl
  | 3, _ => rfl
  | 4, _ => rfl
  | n + 5, h => absurd h (by omega)
theorem uw_2_166 : (Jvm.Cond.methodLink "HideReader$Beasts" (3 : Nat) ({ cls := "java/lang/Object", name := "<init>", desc := "()V" } : Jvm.MethodName)) ∈ UT := ut_t (tm_2 (List.mem_of_getElem? (i := 166) rfl)) rfl
theorem uw_2_170 : (Jvm.Cond.fieldLink "HideReader$Beasts" (9 : Nat) "HideReader$Beasts" "firstGains" "[I") ∈ UT := ut_t (tm_2 (List.mem_of_getElem? (i := 170) rfl)) rfl
theorem uw_2_171 : (Jvm.Cond.fieldLink "HideReader$Beasts" (15 : Nat) "HideReader$Beasts" "otherGains" "[I") ∈ UT := ut_t (tm_2 (List.mem_of_getElem? (i := 171) rfl)) rfl
theorem uw_2_167 : (Jvm.Cond.fieldLink "HideReader$Beasts" (18 : Nat) "HideReader$Beasts" "told" "LHideReader$Valley;") ∈ UT := ut_t (tm_2 (List.mem_of_getElem? (i := 167) rfl)) rfl
theorem uw_2_168 : (Jvm.Cond.fieldLink "HideReader$Beasts" (22 : Nat) "HideReader$Beasts" "lattice" "LHideReader$Lattice;") ∈ UT := ut_t (tm_2 (List.mem_of_getElem? (i := 168) rfl)) rfl
theorem uw_2_169 : (Jvm.Cond.fieldLink "HideReader$Beasts" (26 : Nat) "HideReader$Beasts" "smith" "LHideReader$Smith;") ∈ UT := ut_t (tm_2 (List.mem_of_getElem? (i := 169) rfl)) rfl
theorem uw_2_165 : (Jvm.Cond.code ({ cls := "HideReader$Beasts", name := "<init>", desc := "(LHideReader$Valley;LHideReader$Lattice;LHideReader$Smith;)V" } : Jvm.MethodName) prog_2_method_1_code (4 : Nat) (Option.none : Option Jvm.ClassFile.FieldType)) ∈ UT := ut_t (tm_2 (List.mem_of_getElem? (i := 165) rfl)) rfl
theorem ck_X0_init : ckC yX0_init cX0_init 4 none 3 := ⟨⟨uw_1_15, uw_2_165⟩, by decide +kernel, by decide +kernel, by decide⟩
theorem uw_2_164 : (Jvm.Cond.instanceMethod ({ cls := "HideReader$Beasts", name := "<init>", desc := "(LHideReader$Valley;LHideReader$Lattice;LHideReader$Smith;)V" } : Jvm.MethodName)) ∈ UT := ut_t (tm_2 (List.mem_of_getElem? (i := 164) rfl)) rfl
theorem ii_X0_init : (yX0_init).name = "<init>" ∧ Cond.instanceMethod yX0_init ∈ UT := ⟨rfl, uw_2_164⟩
theorem uw_2_163 : (Jvm.Cond.methodLink "HideReader" (77 : Nat) ({ cls := "HideReader$Beasts", name := "<init>", desc := "(LHideReader$Valley;LHideReader$Lattice;LHideReader$Smith;)V" } : Jvm.MethodName)) ∈ UT := ut_t (tm_2 (List.mem_of_getElem? (i := 163) rfl)) rfl
theorem uw_2_237 : (Jvm.Cond.fieldLink "HideReader" (78 : Nat) "HideReader" "beasts" "LHideReader$Beasts;") ∈ UT := ut_t (tm_2 (List.mem_of_getElem? (i := 237) rfl)) rfl
theorem uw_2_202 : (Jvm.Cond.laysFinal "HideReader$Witness" "HideReader$Witness" "told" "LHideReader$Valley;") ∈ UT := ut_t (tm_2 (List.mem_of_getElem? (i := 202) rfl)) rfl
theorem uw_2_204 : (Jvm.Cond.laysFinal "HideReader$Witness" "HideReader$Witness" "smith" "LHideReader$Smith;") ∈ UT := ut_t (tm_2 (List.mem_of_getElem? (i := 204) rfl)) rfl
theorem uw_2_206 : (Jvm.Cond.laysFinal "HideReader$Witness" "HideReader$Witness" "burnings" "[I") ∈ UT := ut_t (tm_2 (List.mem_of_getElem? (i := 206) rfl)) rfl
theorem uw_2_208 : (Jvm.Cond.laysFinal "HideReader$Witness" "HideReader$Witness" "strokes" "[I") ∈ UT := ut_t (tm_2 (List.mem_of_getElem? (i := 208) rfl)) rfl
theorem uw_2_210 : (Jvm.Cond.laysFinal "HideReader$Witness" "HideReader$Witness" "wasOn" "[Z") ∈ UT := ut_t (tm_2 (List.mem_of_getElem? (i := 210) rfl)) rfl
theorem uw_2_212 : (Jvm.Cond.laysFinal "HideReader$Witness" "HideReader$Witness" "toldAt" "[I") ∈ UT := ut_t (tm_2 (List.mem_of_getElem? (i := 212) rfl)) rfl
theorem uw_2_214 : (Jvm.Cond.laysFinal "HideReader$Witness" "HideReader$Witness" "untoldAt" "[I") ∈ UT := ut_t (tm_2 (List.mem_of_getElem? (i := 214) rfl)) rfl
theorem uw_2_216 : (Jvm.Cond.lays "HideReader$Witness" "HideReader$Witness" "count" "I") ∈ UT := ut_t (tm_2 (List.mem_of_getElem? (i := 216) rfl)) rfl
theorem uw_2_218 : (Jvm.Cond.lays "HideReader$Witness" "HideReader$Witness" "time" "I") ∈ UT := ut_t (tm_2 (List.mem_of_getElem? (i := 218) rfl)) rfl
theorem uw_2_220 : (Jvm.Cond.laysFinal "HideReader$Witness" "HideReader$Witness" "on" "[I") ∈ UT := ut_t (tm_2 (List.mem_of_getElem? (i := 220) rfl)) rfl
theorem uw_2_222 : (Jvm.Cond.laysFinal "HideReader$Witness" "HideReader$Witness" "off" "[I") ∈ UT := ut_t (tm_2 (List.mem_of_getElem? (i := 222) rfl)) rfl
theorem uw_2_224 : (Jvm.Cond.laysFinal "HideReader$Witness" "HideReader$Witness" "firstCounts" "[I") ∈ UT := ut_t (tm_2 (List.mem_of_getElem? (i := 224) rfl)) rfl
theorem uw_2_226 : (Jvm.Cond.laysFinal "HideReader$Witness" "HideReader$Witness" "secondCounts" "[I") ∈ UT := ut_t (tm_2 (List.mem_of_getElem? (i := 226) rfl)) rfl
theorem uc_10 : ∀ w ∈ u_ws RX10 TX10 13, w ∈ UT := show ∀ w ∈ ([u_lay RX10 TX10 0, u_lay RX10 TX10 1, u_lay RX10 TX10 2, u_lay RX10 TX10 3, u_lay RX10 TX10 4, u_lay RX10 TX10 5, u_lay RX10 TX10 6, u_lay RX10 TX10 7, u_lay RX10 TX10 8, u_lay RX10 TX10 9, u_lay RX10 TX10 10, u_lay RX10 TX10 11, u_lay RX10 TX10 12] : List Cond), w ∈ UT from List.forall_mem_cons.mpr ⟨uw_2_202, List.forall_mem_cons.mpr ⟨uw_2_204, List.forall_mem_cons.mpr ⟨uw_2_206, List.forall_mem_cons.mpr ⟨uw_2_208, List.forall_mem_cons.mpr ⟨uw_2_210, List.forall_mem_cons.mpr ⟨uw_2_212, List.forall_mem_cons.mpr ⟨uw_2_214, List.forall_mem_cons.mpr ⟨uw_2_216, List.forall_mem_cons.mpr ⟨uw_2_218, List.forall_mem_cons.mpr ⟨uw_2_220, List.forall_mem_cons.mpr ⟨uw_2_222, List.forall_mem_cons.mpr ⟨uw_2_224, List.forall_mem_cons.mpr ⟨uw_2_226, fun _ h => absurd h List.not_mem_nil⟩⟩⟩⟩⟩⟩⟩⟩⟩⟩⟩⟩⟩
theorem uw_2_183 : (Jvm.Cond.classLink "HideReader" (82 : Nat) "HideReader$Witness") ∈ UT := ut_t (tm_2 (List.mem_of_getElem? (i := 183) rfl)) rfl
theorem uw_2_184 : (Jvm.Cond.instantiable "HideReader$Witness" (13 : Nat)) ∈ UT := ut_t (tm_2 (List.mem_of_getElem? (i := 184) rfl)) rfl
theorem uw_1_16 : (Jvm.Cond.initialized "HideReader$Witness") ∈ UT := ut_t (tm_1 (List.mem_of_getElem? (i := 16) rfl)) rfl
theorem df_10 : ∀ j, j < 13 → defaultValue (tyX10 j) = vp_V [.null, .null, .null, .null, .null, .null, .null, .int 0, .int 0, .null, .null, .null, .null] j := fun j hj => match j, hj with
  | 0, _ => rfl
  | 1, _ => rfl
  | 2, _ => rfl
  | 3, _ => rfl
  | 4, _ => rfl
  | 5, _ => rfl
  | 6, _ => rfl
  | 7, _ => rfl
  | 8, _ => rfl
  | 9, _ => rfl
  | 10, _ => rfl
  | 11, _ => rfl
  | 12, _ => rfl
  | n + 13, h => absurd h (by omega)
theorem uw_2_188 : (Jvm.Cond.methodLink "HideReader$Witness" (3 : Nat) ({ cls := "java/lang/Object", name := "<init>", desc := "()V" } : Jvm.MethodName)) ∈ UT := ut_t (tm_2 (List.mem_of_getElem? (i := 188) rfl)) rfl
theorem uw_2_191 : (Jvm.Cond.fieldLink "HideReader$Witness" (9 : Nat) "HideReader$Witness" "burnings" "[I") ∈ UT := ut_t (tm_2 (List.mem_of_getElem? (i := 191) rfl)) rfl
theorem uw_2_192 : (Jvm.Cond.fieldLink "HideReader$Witness" (15 : Nat) "HideReader$Witness" "strokes" "[I") ∈ UT := ut_t (tm_2 (List.mem_of_getElem? (i := 192) rfl)) rfl
theorem uw_2_193 : (Jvm.Cond.fieldLink "HideReader$Witness" (18 : Nat) "HideReader$Witness" "wasOn" "[Z") ∈ UT := ut_t (tm_2 (List.mem_of_getElem? (i := 193) rfl)) rfl
theorem uw_2_194 : (Jvm.Cond.fieldLink "HideReader$Witness" (22 : Nat) "HideReader$Witness" "toldAt" "[I") ∈ UT := ut_t (tm_2 (List.mem_of_getElem? (i := 194) rfl)) rfl
theorem uw_2_195 : (Jvm.Cond.fieldLink "HideReader$Witness" (25 : Nat) "HideReader$Witness" "untoldAt" "[I") ∈ UT := ut_t (tm_2 (List.mem_of_getElem? (i := 195) rfl)) rfl
theorem uw_2_196 : (Jvm.Cond.fieldLink "HideReader$Witness" (28 : Nat) "HideReader$Witness" "count" "I") ∈ UT := ut_t (tm_2 (List.mem_of_getElem? (i := 196) rfl)) rfl
theorem uw_2_197 : (Jvm.Cond.fieldLink "HideReader$Witness" (32 : Nat) "HideReader$Witness" "time" "I") ∈ UT := ut_t (tm_2 (List.mem_of_getElem? (i := 197) rfl)) rfl
theorem uw_2_198 : (Jvm.Cond.fieldLink "HideReader$Witness" (35 : Nat) "HideReader$Witness" "on" "[I") ∈ UT := ut_t (tm_2 (List.mem_of_getElem? (i := 198) rfl)) rfl
theorem uw_2_199 : (Jvm.Cond.fieldLink "HideReader$Witness" (38 : Nat) "HideReader$Witness" "off" "[I") ∈ UT := ut_t (tm_2 (List.mem_of_getElem? (i := 199) rfl)) rfl
theorem uw_2_200 : (Jvm.Cond.fieldLink "HideReader$Witness" (41 : Nat) "HideReader$Witness" "firstCounts" "[I") ∈ UT := ut_t (tm_2 (List.mem_of_getElem? (i := 200) rfl)) rfl
theorem uw_2_201 : (Jvm.Cond.fieldLink "HideReader$Witness" (44 : Nat) "HideReader$Witness" "secondCounts" "[I") ∈ UT := ut_t (tm_2 (List.mem_of_getElem? (i := 201) rfl)) rfl
theorem uw_2_189 : (Jvm.Cond.fieldLink "HideReader$Witness" (47 : Nat) "HideReader$Witness" "told" "LHideReader$Valley;") ∈ UT := ut_t (tm_2 (List.mem_of_getElem? (i := 189) rfl)) rfl
theorem uw_2_190 : (Jvm.Cond.fieldLink "HideReader$Witness" (51 : Nat) "HideReader$Witness" "smith" "LHideReader$Smith;") ∈ UT := ut_t (tm_2 (List.mem_of_getElem? (i := 190) rfl)) rfl
theorem uw_2_187 : (Jvm.Cond.code ({ cls := "HideReader$Witness", name := "<init>", desc := "(LHideReader$Valley;LHideReader$Smith;)V" } : Jvm.MethodName) prog_12_method_1_code (3 : Nat) (Option.none : Option Jvm.ClassFile.FieldType)) ∈ UT := ut_t (tm_2 (List.mem_of_getElem? (i := 187) rfl)) rfl
theorem ck_X10_init : ckC yX10_init cX10_init 3 none 2 := ⟨⟨uw_1_16, uw_2_187⟩, by decide +kernel, by decide +kernel, by decide⟩
theorem uw_2_186 : (Jvm.Cond.instanceMethod ({ cls := "HideReader$Witness", name := "<init>", desc := "(LHideReader$Valley;LHideReader$Smith;)V" } : Jvm.MethodName)) ∈ UT := ut_t (tm_2 (List.mem_of_getElem? (i := 186) rfl)) rfl
theorem ii_X10_init : (yX10_init).name = "<init>" ∧ Cond.instanceMethod yX10_init ∈ UT := ⟨rfl, uw_2_186⟩
theorem uw_2_185 : (Jvm.Cond.methodLink "HideReader" (84 : Nat) ({ cls := "HideReader$Witness", name := "<init>", desc := "(LHideReader$Valley;LHideReader$Smith;)V" } : Jvm.MethodName)) ∈ UT := ut_t (tm_2 (List.mem_of_getElem? (i := 185) rfl)) rfl
theorem uw_2_238 : (Jvm.Cond.fieldLink "HideReader" (87 : Nat) "HideReader" "witness" "LHideReader$Witness;") ∈ UT := ut_t (tm_2 (List.mem_of_getElem? (i := 238) rfl)) rfl
theorem uw_1_1 : (Jvm.Cond.initialized "HideReader") ∈ UT := ut_t (tm_1 (List.mem_of_getElem? (i := 1) rfl)) rfl
theorem uw_1_27 : (Jvm.Cond.code ({ cls := "HideReader", name := "<init>", desc := "()V" } : Jvm.MethodName) prog_1_method_1_code (1 : Nat) (Option.none : Option Jvm.ClassFile.FieldType)) ∈ UT := ut_t (tm_1 (List.mem_of_getElem? (i := 27) rfl)) rfl
theorem ck_X11_init : ckC yX11_init cX11_init 1 none 0 := ⟨⟨uw_1_1, uw_1_27⟩, by decide +kernel, by decide +kernel, by decide⟩
theorem uw_6_203 : (Jvm.Cond.methodLink "HideReaderModel" (1 : Nat) ({ cls := "java/lang/Object", name := "<init>", desc := "()V" } : Jvm.MethodName)) ∈ UT := ut_t (tm_6 (List.mem_of_getElem? (i := 203) rfl)) rfl
theorem uw_7_87 : (Jvm.Cond.laysFinal "HideReaderModel" "HideReaderModel" "tape" "[B") ∈ UT := ut_t (tm_7 (List.mem_of_getElem? (i := 87) rfl)) rfl
theorem uw_7_89 : (Jvm.Cond.laysFinal "HideReaderModel" "HideReaderModel" "text" "[B") ∈ UT := ut_t (tm_7 (List.mem_of_getElem? (i := 89) rfl)) rfl
theorem uw_7_91 : (Jvm.Cond.lays "HideReaderModel" "HideReaderModel" "taped" "I") ∈ UT := ut_t (tm_7 (List.mem_of_getElem? (i := 91) rfl)) rfl
theorem uw_7_93 : (Jvm.Cond.lays "HideReaderModel" "HideReaderModel" "size" "I") ∈ UT := ut_t (tm_7 (List.mem_of_getElem? (i := 93) rfl)) rfl
theorem uw_7_95 : (Jvm.Cond.lays "HideReaderModel" "HideReaderModel" "faultKind" "I") ∈ UT := ut_t (tm_7 (List.mem_of_getElem? (i := 95) rfl)) rfl
theorem uw_7_97 : (Jvm.Cond.lays "HideReaderModel" "HideReaderModel" "faultPlace" "I") ∈ UT := ut_t (tm_7 (List.mem_of_getElem? (i := 97) rfl)) rfl
theorem uw_7_99 : (Jvm.Cond.lays "HideReaderModel" "HideReaderModel" "at" "I") ∈ UT := ut_t (tm_7 (List.mem_of_getElem? (i := 99) rfl)) rfl
theorem uw_7_101 : (Jvm.Cond.lays "HideReaderModel" "HideReaderModel" "end" "I") ∈ UT := ut_t (tm_7 (List.mem_of_getElem? (i := 101) rfl)) rfl
theorem uw_7_103 : (Jvm.Cond.lays "HideReaderModel" "HideReaderModel" "token" "I") ∈ UT := ut_t (tm_7 (List.mem_of_getElem? (i := 103) rfl)) rfl
theorem uw_7_105 : (Jvm.Cond.lays "HideReaderModel" "HideReaderModel" "number" "I") ∈ UT := ut_t (tm_7 (List.mem_of_getElem? (i := 105) rfl)) rfl
theorem uw_7_107 : (Jvm.Cond.lays "HideReaderModel" "HideReaderModel" "name" "J") ∈ UT := ut_t (tm_7 (List.mem_of_getElem? (i := 107) rfl)) rfl
theorem uw_7_109 : (Jvm.Cond.laysFinal "HideReaderModel" "HideReaderModel" "turns" "[I") ∈ UT := ut_t (tm_7 (List.mem_of_getElem? (i := 109) rfl)) rfl
theorem uw_7_111 : (Jvm.Cond.laysFinal "HideReaderModel" "HideReaderModel" "herds" "[I") ∈ UT := ut_t (tm_7 (List.mem_of_getElem? (i := 111) rfl)) rfl
theorem uw_7_113 : (Jvm.Cond.laysFinal "HideReaderModel" "HideReaderModel" "irons" "[I") ∈ UT := ut_t (tm_7 (List.mem_of_getElem? (i := 113) rfl)) rfl
theorem uw_7_115 : (Jvm.Cond.laysFinal "HideReaderModel" "HideReaderModel" "beasts" "[I") ∈ UT := ut_t (tm_7 (List.mem_of_getElem? (i := 115) rfl)) rfl
theorem uw_7_117 : (Jvm.Cond.laysFinal "HideReaderModel" "HideReaderModel" "units" "[I") ∈ UT := ut_t (tm_7 (List.mem_of_getElem? (i := 117) rfl)) rfl
theorem uw_7_119 : (Jvm.Cond.laysFinal "HideReaderModel" "HideReaderModel" "night" "[I") ∈ UT := ut_t (tm_7 (List.mem_of_getElem? (i := 119) rfl)) rfl
theorem uw_7_121 : (Jvm.Cond.laysFinal "HideReaderModel" "HideReaderModel" "draw" "[I") ∈ UT := ut_t (tm_7 (List.mem_of_getElem? (i := 121) rfl)) rfl
theorem uw_7_123 : (Jvm.Cond.laysFinal "HideReaderModel" "HideReaderModel" "told" "[I") ∈ UT := ut_t (tm_7 (List.mem_of_getElem? (i := 123) rfl)) rfl
theorem uw_7_125 : (Jvm.Cond.laysFinal "HideReaderModel" "HideReaderModel" "brands" "[I") ∈ UT := ut_t (tm_7 (List.mem_of_getElem? (i := 125) rfl)) rfl
theorem uw_7_127 : (Jvm.Cond.laysFinal "HideReaderModel" "HideReaderModel" "ironMarks" "[I") ∈ UT := ut_t (tm_7 (List.mem_of_getElem? (i := 127) rfl)) rfl
theorem uw_7_129 : (Jvm.Cond.laysFinal "HideReaderModel" "HideReaderModel" "herdTold" "[I") ∈ UT := ut_t (tm_7 (List.mem_of_getElem? (i := 129) rfl)) rfl
theorem uw_7_131 : (Jvm.Cond.laysFinal "HideReaderModel" "HideReaderModel" "born" "[I") ∈ UT := ut_t (tm_7 (List.mem_of_getElem? (i := 131) rfl)) rfl
theorem uw_7_133 : (Jvm.Cond.laysFinal "HideReaderModel" "HideReaderModel" "ruleFrom" "[I") ∈ UT := ut_t (tm_7 (List.mem_of_getElem? (i := 133) rfl)) rfl
theorem uw_7_135 : (Jvm.Cond.laysFinal "HideReaderModel" "HideReaderModel" "ruleTo" "[I") ∈ UT := ut_t (tm_7 (List.mem_of_getElem? (i := 135) rfl)) rfl
theorem uw_7_137 : (Jvm.Cond.laysFinal "HideReaderModel" "HideReaderModel" "hName" "[J") ∈ UT := ut_t (tm_7 (List.mem_of_getElem? (i := 137) rfl)) rfl
theorem uw_7_139 : (Jvm.Cond.laysFinal "HideReaderModel" "HideReaderModel" "iName" "[J") ∈ UT := ut_t (tm_7 (List.mem_of_getElem? (i := 139) rfl)) rfl
theorem uw_7_141 : (Jvm.Cond.laysFinal "HideReaderModel" "HideReaderModel" "bName" "[J") ∈ UT := ut_t (tm_7 (List.mem_of_getElem? (i := 141) rfl)) rfl
theorem uw_7_143 : (Jvm.Cond.laysFinal "HideReaderModel" "HideReaderModel" "code" "[I") ∈ UT := ut_t (tm_7 (List.mem_of_getElem? (i := 143) rfl)) rfl
theorem uw_7_145 : (Jvm.Cond.laysFinal "HideReaderModel" "HideReaderModel" "codeNumber" "[I") ∈ UT := ut_t (tm_7 (List.mem_of_getElem? (i := 145) rfl)) rfl
theorem uw_7_147 : (Jvm.Cond.laysFinal "HideReaderModel" "HideReaderModel" "eWhat" "[I") ∈ UT := ut_t (tm_7 (List.mem_of_getElem? (i := 147) rfl)) rfl
theorem uw_7_149 : (Jvm.Cond.laysFinal "HideReaderModel" "HideReaderModel" "eSign" "[I") ∈ UT := ut_t (tm_7 (List.mem_of_getElem? (i := 149) rfl)) rfl
theorem uw_7_151 : (Jvm.Cond.laysFinal "HideReaderModel" "HideReaderModel" "pile" "[I") ∈ UT := ut_t (tm_7 (List.mem_of_getElem? (i := 151) rfl)) rfl
theorem uw_7_153 : (Jvm.Cond.lays "HideReaderModel" "HideReaderModel" "bank" "I") ∈ UT := ut_t (tm_7 (List.mem_of_getElem? (i := 153) rfl)) rfl
theorem uw_7_155 : (Jvm.Cond.lays "HideReaderModel" "HideReaderModel" "rb" "I") ∈ UT := ut_t (tm_7 (List.mem_of_getElem? (i := 155) rfl)) rfl
theorem uw_7_157 : (Jvm.Cond.lays "HideReaderModel" "HideReaderModel" "codes" "I") ∈ UT := ut_t (tm_7 (List.mem_of_getElem? (i := 157) rfl)) rfl
theorem uw_7_159 : (Jvm.Cond.lays "HideReaderModel" "HideReaderModel" "within" "I") ∈ UT := ut_t (tm_7 (List.mem_of_getElem? (i := 159) rfl)) rfl
theorem uw_7_161 : (Jvm.Cond.lays "HideReaderModel" "HideReaderModel" "piled" "I") ∈ UT := ut_t (tm_7 (List.mem_of_getElem? (i := 161) rfl)) rfl
theorem uw_7_163 : (Jvm.Cond.lays "HideReaderModel" "HideReaderModel" "unitsInRule" "I") ∈ UT := ut_t (tm_7 (List.mem_of_getElem? (i := 163) rfl)) rfl
theorem uw_7_165 : (Jvm.Cond.lays "HideReaderModel" "HideReaderModel" "askBeast" "I") ∈ UT := ut_t (tm_7 (List.mem_of_getElem? (i := 165) rfl)) rfl
theorem uw_7_167 : (Jvm.Cond.lays "HideReaderModel" "HideReaderModel" "askStroke" "I") ∈ UT := ut_t (tm_7 (List.mem_of_getElem? (i := 167) rfl)) rfl
theorem uw_7_169 : (Jvm.Cond.lays "HideReaderModel" "HideReaderModel" "askAge" "I") ∈ UT := ut_t (tm_7 (List.mem_of_getElem? (i := 169) rfl)) rfl
theorem uw_7_171 : (Jvm.Cond.lays "HideReaderModel" "HideReaderModel" "askSeason" "I") ∈ UT := ut_t (tm_7 (List.mem_of_getElem? (i := 171) rfl)) rfl
theorem uw_7_173 : (Jvm.Cond.laysFinal "HideReaderModel" "HideReaderModel" "all" "[I") ∈ UT := ut_t (tm_7 (List.mem_of_getElem? (i := 173) rfl)) rfl
theorem uw_7_175 : (Jvm.Cond.laysFinal "HideReaderModel" "HideReaderModel" "burned" "[I") ∈ UT := ut_t (tm_7 (List.mem_of_getElem? (i := 175) rfl)) rfl
theorem uw_7_177 : (Jvm.Cond.laysFinal "HideReaderModel" "HideReaderModel" "was" "[I") ∈ UT := ut_t (tm_7 (List.mem_of_getElem? (i := 177) rfl)) rfl
theorem uw_7_179 : (Jvm.Cond.lays "HideReaderModel" "HideReaderModel" "acts" "I") ∈ UT := ut_t (tm_7 (List.mem_of_getElem? (i := 179) rfl)) rfl
theorem uw_7_181 : (Jvm.Cond.lays "HideReaderModel" "HideReaderModel" "undone" "I") ∈ UT := ut_t (tm_7 (List.mem_of_getElem? (i := 181) rfl)) rfl
theorem uw_7_183 : (Jvm.Cond.laysFinal "HideReaderModel" "HideReaderModel" "need" "[I") ∈ UT := ut_t (tm_7 (List.mem_of_getElem? (i := 183) rfl)) rfl
theorem uw_7_185 : (Jvm.Cond.laysFinal "HideReaderModel" "HideReaderModel" "laidRow" "[I") ∈ UT := ut_t (tm_7 (List.mem_of_getElem? (i := 185) rfl)) rfl
theorem uw_7_187 : (Jvm.Cond.lays "HideReaderModel" "HideReaderModel" "laid" "I") ∈ UT := ut_t (tm_7 (List.mem_of_getElem? (i := 187) rfl)) rfl
theorem uw_7_189 : (Jvm.Cond.laysFinal "HideReaderModel" "HideReaderModel" "long8" "[I") ∈ UT := ut_t (tm_7 (List.mem_of_getElem? (i := 189) rfl)) rfl
theorem uw_7_191 : (Jvm.Cond.laysFinal "HideReaderModel" "HideReaderModel" "brings" "[I") ∈ UT := ut_t (tm_7 (List.mem_of_getElem? (i := 191) rfl)) rfl
theorem uw_7_193 : (Jvm.Cond.laysFinal "HideReaderModel" "HideReaderModel" "sBurning" "[I") ∈ UT := ut_t (tm_7 (List.mem_of_getElem? (i := 193) rfl)) rfl
theorem uw_7_195 : (Jvm.Cond.laysFinal "HideReaderModel" "HideReaderModel" "sStroke" "[I") ∈ UT := ut_t (tm_7 (List.mem_of_getElem? (i := 195) rfl)) rfl
theorem uw_7_197 : (Jvm.Cond.laysFinal "HideReaderModel" "HideReaderModel" "sIs" "[I") ∈ UT := ut_t (tm_7 (List.mem_of_getElem? (i := 197) rfl)) rfl
theorem uw_7_199 : (Jvm.Cond.laysFinal "HideReaderModel" "HideReaderModel" "sTold" "[I") ∈ UT := ut_t (tm_7 (List.mem_of_getElem? (i := 199) rfl)) rfl
theorem uw_7_201 : (Jvm.Cond.laysFinal "HideReaderModel" "HideReaderModel" "sUntold" "[I") ∈ UT := ut_t (tm_7 (List.mem_of_getElem? (i := 201) rfl)) rfl
theorem uw_7_203 : (Jvm.Cond.laysFinal "HideReaderModel" "HideReaderModel" "parts" "[I") ∈ UT := ut_t (tm_7 (List.mem_of_getElem? (i := 203) rfl)) rfl
theorem uw_7_205 : (Jvm.Cond.lays "HideReaderModel" "HideReaderModel" "seens" "I") ∈ UT := ut_t (tm_7 (List.mem_of_getElem? (i := 205) rfl)) rfl
theorem uw_7_207 : (Jvm.Cond.lays "HideReaderModel" "HideReaderModel" "time" "I") ∈ UT := ut_t (tm_7 (List.mem_of_getElem? (i := 207) rfl)) rfl
theorem uw_7_209 : (Jvm.Cond.lays "HideReaderModel" "HideReaderModel" "fitting" "I") ∈ UT := ut_t (tm_7 (List.mem_of_getElem? (i := 209) rfl)) rfl
theorem uw_7_211 : (Jvm.Cond.laysFinal "HideReaderModel" "HideReaderModel" "boxAll" "[I") ∈ UT := ut_t (tm_7 (List.mem_of_getElem? (i := 211) rfl)) rfl
theorem uw_7_213 : (Jvm.Cond.laysFinal "HideReaderModel" "HideReaderModel" "isBoxed" "[Z") ∈ UT := ut_t (tm_7 (List.mem_of_getElem? (i := 213) rfl)) rfl
theorem uc_12 : ∀ w ∈ u_ws RX12 TX12 64, w ∈ UT := show ∀ w ∈ ([u_lay RX12 TX12 0, u_lay RX12 TX12 1, u_lay RX12 TX12 2, u_lay RX12 TX12 3, u_lay RX12 TX12 4, u_lay RX12 TX12 5, u_lay RX12 TX12 6, u_lay RX12 TX12 7, u_lay RX12 TX12 8, u_lay RX12 TX12 9, u_lay RX12 TX12 10, u_lay RX12 TX12 11, u_lay RX12 TX12 12, u_lay RX12 TX12 13, u_lay RX12 TX12 14, u_lay RX12 TX12 15, u_lay RX12 TX12 16, u_lay RX12 TX12 17, u_lay RX12 TX12 18, u_lay RX12 TX12 19, u_lay RX12 TX12 20, u_lay RX12 TX12 21, u_lay RX12 TX12 22, u_lay RX12 TX12 23, u_lay RX12 TX12 24, u_lay RX12 TX12 25, u_lay RX12 TX12 26, u_lay RX12 TX12 27, u_lay RX12 TX12 28, u_lay RX12 TX12 29, u_lay RX12 TX12 30, u_lay RX12 TX12 31, u_lay RX12 TX12 32, u_lay RX12 TX12 33, u_lay RX12 TX12 34, u_lay RX12 TX12 35, u_lay RX12 TX12 36, u_lay RX12 TX12 37, u_lay RX12 TX12 38, u_lay RX12 TX12 39, u_lay RX12 TX12 40, u_lay RX12 TX12 41, u_lay RX12 TX12 42, u_lay RX12 TX12 43, u_lay RX12 TX12 44, u_lay RX12 TX12 45, u_lay RX12 TX12 46, u_lay RX12 TX12 47, u_lay RX12 TX12 48, u_lay RX12 TX12 49, u_lay RX12 TX12 50, u_lay RX12 TX12 51, u_lay RX12 TX12 52, u_lay RX12 TX12 53, u_lay RX12 TX12 54, u_lay RX12 TX12 55, u_lay RX12 TX12 56, u_lay RX12 TX12 57, u_lay RX12 TX12 58, u_lay RX12 TX12 59, u_lay RX12 TX12 60, u_lay RX12 TX12 61, u_lay RX12 TX12 62, u_lay RX12 TX12 63] : List Cond), w ∈ UT from List.forall_mem_cons.mpr ⟨uw_7_87, List.forall_mem_cons.mpr ⟨uw_7_89, List.forall_mem_cons.mpr ⟨uw_7_91, List.forall_mem_cons.mpr ⟨uw_7_93, List.forall_mem_cons.mpr ⟨uw_7_95, List.forall_mem_cons.mpr ⟨uw_7_97, List.forall_mem_cons.mpr ⟨uw_7_99, List.forall_mem_cons.mpr ⟨uw_7_101, List.forall_mem_cons.mpr ⟨uw_7_103, List.forall_mem_cons.mpr ⟨uw_7_105, List.forall_mem_cons.mpr ⟨uw_7_107, List.forall_mem_cons.mpr ⟨uw_7_109, List.forall_mem_cons.mpr ⟨uw_7_111, List.forall_mem_cons.mpr ⟨uw_7_113, List.forall_mem_cons.mpr ⟨uw_7_115, List.forall_mem_cons.mpr ⟨uw_7_117, List.forall_mem_cons.mpr ⟨uw_7_119, List.forall_mem_cons.mpr ⟨uw_7_121, List.forall_mem_cons.mpr ⟨uw_7_123, List.forall_mem_cons.mpr ⟨uw_7_125, List.forall_mem_cons.mpr ⟨uw_7_127, List.forall_mem_cons.mpr ⟨uw_7_129, List.forall_mem_cons.mpr ⟨uw_7_131, List.forall_mem_cons.mpr ⟨uw_7_133, List.forall_mem_cons.mpr ⟨uw_7_135, List.forall_mem_cons.mpr ⟨uw_7_137, List.forall_mem_cons.mpr ⟨uw_7_139, List.forall_mem_cons.mpr ⟨uw_7_141, List.forall_mem_cons.mpr ⟨uw_7_143, List.forall_mem_cons.mpr ⟨uw_7_145, List.forall_mem_cons.mpr ⟨uw_7_147, List.forall_mem_cons.mpr ⟨uw_7_149, List.forall_mem_cons.mpr ⟨uw_7_151, List.forall_mem_cons.mpr ⟨uw_7_153, List.forall_mem_cons.mpr ⟨uw_7_155, List.forall_mem_cons.mpr ⟨uw_7_157, List.forall_mem_cons.mpr ⟨uw_7_159, List.forall_mem_cons.mpr ⟨uw_7_161, List.forall_mem_cons.mpr ⟨uw_7_163, List.forall_mem_cons.mpr ⟨uw_7_165, List.forall_mem_cons.mpr ⟨uw_7_167, List.forall_mem_cons.mpr ⟨uw_7_169, List.forall_mem_cons.mpr ⟨uw_7_171, List.forall_mem_cons.mpr ⟨uw_7_173, List.forall_mem_cons.mpr ⟨uw_7_175, List.forall_mem_cons.mpr ⟨uw_7_177, List.forall_mem_cons.mpr ⟨uw_7_179, List.forall_mem_cons.mpr ⟨uw_7_181, List.forall_mem_cons.mpr ⟨uw_7_183, List.forall_mem_cons.mpr ⟨uw_7_185, List.forall_mem_cons.mpr ⟨uw_7_187, List.forall_mem_cons.mpr ⟨uw_7_189, List.forall_mem_cons.mpr ⟨uw_7_191, List.forall_mem_cons.mpr ⟨uw_7_193, List.forall_mem_cons.mpr ⟨uw_7_195, List.forall_mem_cons.mpr ⟨uw_7_197, List.forall_mem_cons.mpr ⟨uw_7_199, List.forall_mem_cons.mpr ⟨uw_7_201, List.forall_mem_cons.mpr ⟨uw_7_203, List.forall_mem_cons.mpr ⟨uw_7_205, List.forall_mem_cons.mpr ⟨uw_7_207, List.forall_mem_cons.mpr ⟨uw_7_209, List.forall_mem_cons.mpr ⟨uw_7_211, List.forall_mem_cons.mpr ⟨uw_7_213, fun _ h => absurd h List.not_mem_nil⟩⟩⟩⟩⟩⟩⟩⟩⟩⟩⟩⟩⟩⟩⟩⟩⟩⟩⟩⟩⟩⟩⟩⟩⟩⟩⟩⟩⟩⟩⟩⟩⟩⟩⟩⟩⟩⟩⟩⟩⟩⟩⟩⟩⟩⟩⟩⟩⟩⟩⟩⟩⟩⟩⟩⟩⟩⟩⟩⟩⟩⟩⟩⟩
theorem uw_7_23 : (Jvm.Cond.fieldLink "HideReaderModel" (7 : Nat) "HideReaderModel" "tape" "[B") ∈ UT := ut_t (tm_7 (List.mem_of_getElem? (i := 23) rfl)) rfl
theorem uw_7_24 : (Jvm.Cond.fieldLink "HideReaderModel" (13 : Nat) "HideReaderModel" "text" "[B") ∈ UT := ut_t (tm_7 (List.mem_of_getElem? (i := 24) rfl)) rfl
theorem uw_7_28 : (Jvm.Cond.fieldLink "HideReaderModel" (16 : Nat) "HideReaderModel" "faultPlace" "I") ∈ UT := ut_t (tm_7 (List.mem_of_getElem? (i := 28) rfl)) rfl
theorem uw_7_34 : (Jvm.Cond.fieldLink "HideReaderModel" (20 : Nat) "HideReaderModel" "turns" "[I") ∈ UT := ut_t (tm_7 (List.mem_of_getElem? (i := 34) rfl)) rfl
theorem uw_7_35 : (Jvm.Cond.fieldLink "HideReaderModel" (24 : Nat) "HideReaderModel" "herds" "[I") ∈ UT := ut_t (tm_7 (List.mem_of_getElem? (i := 35) rfl)) rfl
theorem uw_7_36 : (Jvm.Cond.fieldLink "HideReaderModel" (27 : Nat) "HideReaderModel" "irons" "[I") ∈ UT := ut_t (tm_7 (List.mem_of_getElem? (i := 36) rfl)) rfl
theorem uw_7_37 : (Jvm.Cond.fieldLink "HideReaderModel" (30 : Nat) "HideReaderModel" "beasts" "[I") ∈ UT := ut_t (tm_7 (List.mem_of_getElem? (i := 37) rfl)) rfl
theorem uw_7_38 : (Jvm.Cond.fieldLink "HideReaderModel" (33 : Nat) "HideReaderModel" "units" "[I") ∈ UT := ut_t (tm_7 (List.mem_of_getElem? (i := 38) rfl)) rfl
theorem uw_7_39 : (Jvm.Cond.fieldLink "HideReaderModel" (36 : Nat) "HideReaderModel" "night" "[I") ∈ UT := ut_t (tm_7 (List.mem_of_getElem? (i := 39) rfl)) rfl
theorem uw_7_40 : (Jvm.Cond.fieldLink "HideReaderModel" (39 : Nat) "HideReaderModel" "draw" "[I") ∈ UT := ut_t (tm_7 (List.mem_of_getElem? (i := 40) rfl)) rfl
theorem uw_7_41 : (Jvm.Cond.fieldLink "HideReaderModel" (42 : Nat) "HideReaderModel" "told" "[I") ∈ UT := ut_t (tm_7 (List.mem_of_getElem? (i := 41) rfl)) rfl
theorem uw_7_42 : (Jvm.Cond.fieldLink "HideReaderModel" (45 : Nat) "HideReaderModel" "brands" "[I") ∈ UT := ut_t (tm_7 (List.mem_of_getElem? (i := 42) rfl)) rfl
theorem uw_7_43 : (Jvm.Cond.fieldLink "HideReaderModel" (48 : Nat) "HideReaderModel" "ironMarks" "[I") ∈ UT := ut_t (tm_7 (List.mem_of_getElem? (i := 43) rfl)) rfl
theorem uw_7_44 : (Jvm.Cond.fieldLink "HideReaderModel" (51 : Nat) "HideReaderModel" "herdTold" "[I") ∈ UT := ut_t (tm_7 (List.mem_of_getElem? (i := 44) rfl)) rfl
theorem uw_7_45 : (Jvm.Cond.fieldLink "HideReaderModel" (54 : Nat) "HideReaderModel" "born" "[I") ∈ UT := ut_t (tm_7 (List.mem_of_getElem? (i := 45) rfl)) rfl
theorem uw_7_46 : (Jvm.Cond.fieldLink "HideReaderModel" (57 : Nat) "HideReaderModel" "ruleFrom" "[I") ∈ UT := ut_t (tm_7 (List.mem_of_getElem? (i := 46) rfl)) rfl
theorem uw_7_47 : (Jvm.Cond.fieldLink "HideReaderModel" (60 : Nat) "HideReaderModel" "ruleTo" "[I") ∈ UT := ut_t (tm_7 (List.mem_of_getElem? (i := 47) rfl)) rfl
theorem uw_7_48 : (Jvm.Cond.fieldLink "HideReaderModel" (63 : Nat) "HideReaderModel" "hName" "[J") ∈ UT := ut_t (tm_7 (List.mem_of_getElem? (i := 48) rfl)) rfl
theorem uw_7_49 : (Jvm.Cond.fieldLink "HideReaderModel" (67 : Nat) "HideReaderModel" "iName" "[J") ∈ UT := ut_t (tm_7 (List.mem_of_getElem? (i := 49) rfl)) rfl
theorem uw_7_50 : (Jvm.Cond.fieldLink "HideReaderModel" (70 : Nat) "HideReaderModel" "bName" "[J") ∈ UT := ut_t (tm_7 (List.mem_of_getElem? (i := 50) rfl)) rfl
theorem uw_7_51 : (Jvm.Cond.fieldLink "HideReaderModel" (73 : Nat) "HideReaderModel" "code" "[I") ∈ UT := ut_t (tm_7 (List.mem_of_getElem? (i := 51) rfl)) rfl
theorem uw_7_52 : (Jvm.Cond.fieldLink "HideReaderModel" (76 : Nat) "HideReaderModel" "codeNumber" "[I") ∈ UT := ut_t (tm_7 (List.mem_of_getElem? (i := 52) rfl)) rfl
theorem uw_7_53 : (Jvm.Cond.fieldLink "HideReaderModel" (79 : Nat) "HideReaderModel" "eWhat" "[I") ∈ UT := ut_t (tm_7 (List.mem_of_getElem? (i := 53) rfl)) rfl
theorem uw_7_54 : (Jvm.Cond.fieldLink "HideReaderModel" (82 : Nat) "HideReaderModel" "eSign" "[I") ∈ UT := ut_t (tm_7 (List.mem_of_getElem? (i := 54) rfl)) rfl
theorem uw_7_55 : (Jvm.Cond.fieldLink "HideReaderModel" (85 : Nat) "HideReaderModel" "pile" "[I") ∈ UT := ut_t (tm_7 (List.mem_of_getElem? (i := 55) rfl)) rfl
theorem uw_7_66 : (Jvm.Cond.fieldLink "HideReaderModel" (88 : Nat) "HideReaderModel" "all" "[I") ∈ UT := ut_t (tm_7 (List.mem_of_getElem? (i := 66) rfl)) rfl
theorem uw_7_67 : (Jvm.Cond.fieldLink "HideReaderModel" (91 : Nat) "HideReaderModel" "burned" "[I") ∈ UT := ut_t (tm_7 (List.mem_of_getElem? (i := 67) rfl)) rfl
theorem uw_7_68 : (Jvm.Cond.fieldLink "HideReaderModel" (94 : Nat) "HideReaderModel" "was" "[I") ∈ UT := ut_t (tm_7 (List.mem_of_getElem? (i := 68) rfl)) rfl
theorem uw_7_71 : (Jvm.Cond.fieldLink "HideReaderModel" (97 : Nat) "HideReaderModel" "need" "[I") ∈ UT := ut_t (tm_7 (List.mem_of_getElem? (i := 71) rfl)) rfl
theorem uw_7_72 : (Jvm.Cond.fieldLink "HideReaderModel" (100 : Nat) "HideReaderModel" "laidRow" "[I") ∈ UT := ut_t (tm_7 (List.mem_of_getElem? (i := 72) rfl)) rfl
theorem uw_7_74 : (Jvm.Cond.fieldLink "HideReaderModel" (103 : Nat) "HideReaderModel" "long8" "[I") ∈ UT := ut_t (tm_7 (List.mem_of_getElem? (i := 74) rfl)) rfl
theorem uw_7_75 : (Jvm.Cond.fieldLink "HideReaderModel" (106 : Nat) "HideReaderModel" "brings" "[I") ∈ UT := ut_t (tm_7 (List.mem_of_getElem? (i := 75) rfl)) rfl
theorem uw_7_76 : (Jvm.Cond.fieldLink "HideReaderModel" (109 : Nat) "HideReaderModel" "sBurning" "[I") ∈ UT := ut_t (tm_7 (List.mem_of_getElem? (i := 76) rfl)) rfl
theorem uw_7_77 : (Jvm.Cond.fieldLink "HideReaderModel" (112 : Nat) "HideReaderModel" "sStroke" "[I") ∈ UT := ut_t (tm_7 (List.mem_of_getElem? (i := 77) rfl)) rfl
theorem uw_7_78 : (Jvm.Cond.fieldLink "HideReaderModel" (115 : Nat) "HideReaderModel" "sIs" "[I") ∈ UT := ut_t (tm_7 (List.mem_of_getElem? (i := 78) rfl)) rfl
theorem uw_7_79 : (Jvm.Cond.fieldLink "HideReaderModel" (118 : Nat) "HideReaderModel" "sTold" "[I") ∈ UT := ut_t (tm_7 (List.mem_of_getElem? (i := 79) rfl)) rfl
theorem uw_7_80 : (Jvm.Cond.fieldLink "HideReaderModel" (121 : Nat) "HideReaderModel" "sUntold" "[I") ∈ UT := ut_t (tm_7 (List.mem_of_getElem? (i := 80) rfl)) rfl
theorem uw_7_81 : (Jvm.Cond.fieldLink "HideReaderModel" (124 : Nat) "HideReaderModel" "parts" "[I") ∈ UT := ut_t (tm_7 (List.mem_of_getElem? (i := 81) rfl)) rfl
theorem uw_7_85 : (Jvm.Cond.fieldLink "HideReaderModel" (127 : Nat) "HideReaderModel" "boxAll" "[I") ∈ UT := ut_t (tm_7 (List.mem_of_getElem? (i := 85) rfl)) rfl
theorem uw_7_86 : (Jvm.Cond.fieldLink "HideReaderModel" (130 : Nat) "HideReaderModel" "isBoxed" "[Z") ∈ UT := ut_t (tm_7 (List.mem_of_getElem? (i := 86) rfl)) rfl
theorem uw_7_57 : (Jvm.Cond.fieldLink "HideReaderModel" (241 : Nat) "HideReaderModel" "rb" "I") ∈ UT := ut_t (tm_7 (List.mem_of_getElem? (i := 57) rfl)) rfl
theorem uw_7_58 : (Jvm.Cond.fieldLink "HideReaderModel" (244 : Nat) "HideReaderModel" "codes" "I") ∈ UT := ut_t (tm_7 (List.mem_of_getElem? (i := 58) rfl)) rfl
theorem uw_1_17 : (Jvm.Cond.initialized "HideReaderModel") ∈ UT := ut_t (tm_1 (List.mem_of_getElem? (i := 17) rfl)) rfl
theorem uw_6_207 : (Jvm.Cond.code ({ cls := "HideReaderModel", name := "clearBank", desc := "()V" } : Jvm.MethodName) prog_14_method_16_code (1 : Nat) (Option.none : Option Jvm.ClassFile.FieldType)) ∈ UT := ut_t (tm_6 (List.mem_of_getElem? (i := 207) rfl)) rfl
theorem ck_X12_clearBank : ckC yX12_clearBank cX12_clearBank 1 none 0 := ⟨⟨uw_1_17, uw_6_207⟩, by decide +kernel, by decide +kernel, by decide⟩
theorem uw_6_206 : (Jvm.Cond.instanceMethod ({ cls := "HideReaderModel", name := "clearBank", desc := "()V" } : Jvm.MethodName)) ∈ UT := ut_t (tm_6 (List.mem_of_getElem? (i := 206) rfl)) rfl
theorem iv_X12_clearBank : Cond.instanceMethod yX12_clearBank ∈ UT ∧ Cond.selects (yX12_clearBank).cls yX12_clearBank yX12_clearBank ∈ UT := ⟨uw_6_206, ut_s (q := (yX12_clearBank, 64)) (List.mem_append_right _ (List.mem_append_right _ (List.mem_append_left _ (List.mem_of_getElem? (i := 12) rfl)))) rfl⟩
theorem uw_6_204 : (Jvm.Cond.methodLink "HideReaderModel" (134 : Nat) ({ cls := "HideReaderModel", name := "clearBank", desc := "()V" } : Jvm.MethodName)) ∈ UT := ut_t (tm_6 (List.mem_of_getElem? (i := 204) rfl)) rfl
theorem uw_7_56 : (Jvm.Cond.fieldLink "HideReaderModel" (250 : Nat) "HideReaderModel" "bank" "I") ∈ UT := ut_t (tm_7 (List.mem_of_getElem? (i := 56) rfl)) rfl
theorem uw_6_215 : (Jvm.Cond.code ({ cls := "HideReaderModel", name := "cattle", desc := "()I" } : Jvm.MethodName) prog_14_method_55_code (1 : Nat) (Option.some Jvm.ClassFile.FieldType.int)) ∈ UT := ut_t (tm_6 (List.mem_of_getElem? (i := 215) rfl)) rfl
theorem ck_X12_cattle : ckC yX12_cattle cX12_cattle 1 (some .int) 0 := ⟨⟨uw_1_17, uw_6_215⟩, by decide +kernel, by decide +kernel, by decide⟩
theorem uw_6_214 : (Jvm.Cond.instanceMethod ({ cls := "HideReaderModel", name := "cattle", desc := "()I" } : Jvm.MethodName)) ∈ UT := ut_t (tm_6 (List.mem_of_getElem? (i := 214) rfl)) rfl
theorem iv_X12_cattle : Cond.instanceMethod yX12_cattle ∈ UT ∧ Cond.selects (yX12_cattle).cls yX12_cattle yX12_cattle ∈ UT := ⟨uw_6_214, ut_s (q := (yX12_cattle, 64)) (List.mem_append_right _ (List.mem_append_right _ (List.mem_append_left _ (List.mem_of_getElem? (i := 14) rfl)))) rfl⟩
theorem uw_6_212 : (Jvm.Cond.methodLink "HideReaderModel" (377 : Nat) ({ cls := "HideReaderModel", name := "cattle", desc := "()I" } : Jvm.MethodName)) ∈ UT := ut_t (tm_6 (List.mem_of_getElem? (i := 212) rfl)) rfl
theorem uw_6_238 : (Jvm.Cond.code ({ cls := "HideReaderModel", name := "tools", desc := "()I" } : Jvm.MethodName) prog_14_method_54_code (1 : Nat) (Option.some Jvm.ClassFile.FieldType.int)) ∈ UT := ut_t (tm_6 (List.mem_of_getElem? (i := 238) rfl)) rfl
theorem ck_X12_tools : ckC yX12_tools cX12_tools 1 (some .int) 0 := ⟨⟨uw_1_17, uw_6_238⟩, by decide +kernel, by decide +kernel, by decide⟩
theorem uw_6_237 : (Jvm.Cond.instanceMethod ({ cls := "HideReaderModel", name := "tools", desc := "()I" } : Jvm.MethodName)) ∈ UT := ut_t (tm_6 (List.mem_of_getElem? (i := 237) rfl)) rfl
theorem iv_X12_tools : Cond.instanceMethod yX12_tools ∈ UT ∧ Cond.selects (yX12_tools).cls yX12_tools yX12_tools ∈ UT := ⟨uw_6_237, ut_s (q := (yX12_tools, 64)) (List.mem_append_right _ (List.mem_append_right _ (List.mem_append_right _ (List.mem_append_left _ (List.mem_of_getElem? (i := 3) rfl))))) rfl⟩
theorem uw_6_235 : (Jvm.Cond.methodLink "HideReaderModel" (374 : Nat) ({ cls := "HideReaderModel", name := "tools", desc := "()I" } : Jvm.MethodName)) ∈ UT := ut_t (tm_6 (List.mem_of_getElem? (i := 235) rfl)) rfl
theorem uw_6_230 : (Jvm.Cond.code ({ cls := "HideReaderModel", name := "bit", desc := "(II)Z" } : Jvm.MethodName) prog_14_method_39_code (2 : Nat) (Option.some Jvm.ClassFile.FieldType.boolean)) ∈ UT := ut_t (tm_6 (List.mem_of_getElem? (i := 230) rfl)) rfl
theorem ck_X12_bit : ckC yX12_bit cX12_bit 2 (some .boolean) 2 := ⟨⟨uw_1_17, uw_6_230⟩, by decide +kernel, by decide +kernel, by decide⟩
theorem uw_6_229 : (Jvm.Cond.static ({ cls := "HideReaderModel", name := "bit", desc := "(II)Z" } : Jvm.MethodName)) ∈ UT := ut_t (tm_6 (List.mem_of_getElem? (i := 229) rfl)) rfl
theorem uw_6_228 : (Jvm.Cond.methodLink "HideReaderModel" (256 : Nat) ({ cls := "HideReaderModel", name := "bit", desc := "(II)Z" } : Jvm.MethodName)) ∈ UT := ut_t (tm_6 (List.mem_of_getElem? (i := 228) rfl)) rfl
theorem uw_7_2 : (Jvm.Cond.code ({ cls := "HideReaderModel", name := "placements", desc := "()I" } : Jvm.MethodName) prog_14_method_48_code (1 : Nat) (Option.some Jvm.ClassFile.FieldType.int)) ∈ UT := ut_t (tm_7 (List.mem_of_getElem? (i := 2) rfl)) rfl
theorem ck_X12_placements : ckC yX12_placements cX12_placements 1 (some .int) 0 := ⟨⟨uw_1_17, uw_7_2⟩, by decide +kernel, by decide +kernel, by decide⟩
theorem uw_7_1 : (Jvm.Cond.instanceMethod ({ cls := "HideReaderModel", name := "placements", desc := "()I" } : Jvm.MethodName)) ∈ UT := ut_t (tm_7 (List.mem_of_getElem? (i := 1) rfl)) rfl
theorem iv_X12_placements : Cond.instanceMethod yX12_placements ∈ UT ∧ Cond.selects (yX12_placements).cls yX12_placements yX12_placements ∈ UT := ⟨uw_7_1, ut_s (q := (yX12_placements, 64)) (List.mem_append_right _ (List.mem_append_right _ (List.mem_append_right _ (List.mem_append_left _ (List.mem_of_getElem? (i := 4) rfl))))) rfl⟩
theorem uw_6_239 : (Jvm.Cond.methodLink "HideReaderModel" (358 : Nat) ({ cls := "HideReaderModel", name := "placements", desc := "()I" } : Jvm.MethodName)) ∈ UT := ut_t (tm_6 (List.mem_of_getElem? (i := 239) rfl)) rfl
theorem uw_6_234 : (Jvm.Cond.code ({ cls := "HideReaderModel", name := "layPlaced", desc := "()V" } : Jvm.MethodName) prog_14_method_64_code (2 : Nat) (Option.none : Option Jvm.ClassFile.FieldType)) ∈ UT := ut_t (tm_6 (List.mem_of_getElem? (i := 234) rfl)) rfl
theorem ck_X12_layPlaced : ckC yX12_layPlaced cX12_layPlaced 2 none 0 := ⟨⟨uw_1_17, uw_6_234⟩, by decide +kernel, by decide +kernel, by decide⟩
theorem uw_6_233 : (Jvm.Cond.instanceMethod ({ cls := "HideReaderModel", name := "layPlaced", desc := "()V" } : Jvm.MethodName)) ∈ UT := ut_t (tm_6 (List.mem_of_getElem? (i := 233) rfl)) rfl
theorem iv_X12_layPlaced : Cond.instanceMethod yX12_layPlaced ∈ UT ∧ Cond.selects (yX12_layPlaced).cls yX12_layPlaced yX12_layPlaced ∈ UT := ⟨uw_6_233, ut_s (q := (yX12_layPlaced, 64)) (List.mem_append_right _ (List.mem_append_right _ (List.mem_append_right _ (List.mem_append_left _ (List.mem_of_getElem? (i := 2) rfl))))) rfl⟩
theorem uw_6_231 : (Jvm.Cond.methodLink "HideReaderModel" (389 : Nat) ({ cls := "HideReaderModel", name := "layPlaced", desc := "()V" } : Jvm.MethodName)) ∈ UT := ut_t (tm_6 (List.mem_of_getElem? (i := 231) rfl)) rfl
theorem uw_7_69 : (Jvm.Cond.fieldLink "HideReaderModel" (392 : Nat) "HideReaderModel" "acts" "I") ∈ UT := ut_t (tm_7 (List.mem_of_getElem? (i := 69) rfl)) rfl
theorem uw_7_70 : (Jvm.Cond.fieldLink "HideReaderModel" (395 : Nat) "HideReaderModel" "undone" "I") ∈ UT := ut_t (tm_7 (List.mem_of_getElem? (i := 70) rfl)) rfl
theorem uw_7_82 : (Jvm.Cond.fieldLink "HideReaderModel" (398 : Nat) "HideReaderModel" "seens" "I") ∈ UT := ut_t (tm_7 (List.mem_of_getElem? (i := 82) rfl)) rfl
theorem uw_7_73 : (Jvm.Cond.fieldLink "HideReaderModel" (401 : Nat) "HideReaderModel" "laid" "I") ∈ UT := ut_t (tm_7 (List.mem_of_getElem? (i := 73) rfl)) rfl
theorem uw_6_211 : (Jvm.Cond.code ({ cls := "HideReaderModel", name := "startAnew", desc := "()V" } : Jvm.MethodName) prog_14_method_63_code (3 : Nat) (Option.none : Option Jvm.ClassFile.FieldType)) ∈ UT := ut_t (tm_6 (List.mem_of_getElem? (i := 211) rfl)) rfl
theorem ck_X12_startAnew : ckC yX12_startAnew cX12_startAnew 3 none 0 := ⟨⟨uw_1_17, uw_6_211⟩, by decide +kernel, by decide +kernel, by decide⟩
theorem uw_6_210 : (Jvm.Cond.instanceMethod ({ cls := "HideReaderModel", name := "startAnew", desc := "()V" } : Jvm.MethodName)) ∈ UT := ut_t (tm_6 (List.mem_of_getElem? (i := 210) rfl)) rfl
theorem iv_X12_startAnew : Cond.instanceMethod yX12_startAnew ∈ UT ∧ Cond.selects (yX12_startAnew).cls yX12_startAnew yX12_startAnew ∈ UT := ⟨uw_6_210, ut_s (q := (yX12_startAnew, 64)) (List.mem_append_right _ (List.mem_append_right _ (List.mem_append_left _ (List.mem_of_getElem? (i := 13) rfl)))) rfl⟩
theorem uw_6_208 : (Jvm.Cond.methodLink "HideReaderModel" (137 : Nat) ({ cls := "HideReaderModel", name := "startAnew", desc := "()V" } : Jvm.MethodName)) ∈ UT := ut_t (tm_6 (List.mem_of_getElem? (i := 208) rfl)) rfl
theorem uw_6_202 : (Jvm.Cond.code ({ cls := "HideReaderModel", name := "<init>", desc := "()V" } : Jvm.MethodName) prog_14_method_1_code (1 : Nat) (Option.none : Option Jvm.ClassFile.FieldType)) ∈ UT := ut_t (tm_6 (List.mem_of_getElem? (i := 202) rfl)) rfl
theorem ck_X12_init : ckC yX12_init cX12_init 1 none 0 := ⟨⟨uw_1_17, uw_6_202⟩, by decide +kernel, by decide +kernel, by decide⟩
theorem uw_3_33 : (Jvm.Cond.code ({ cls := "HideReader$Tape", name := "length", desc := "()I" } : Jvm.MethodName) prog_9_method_2_code (1 : Nat) (Option.some Jvm.ClassFile.FieldType.int)) ∈ UT := ut_t (tm_3 (List.mem_of_getElem? (i := 33) rfl)) rfl
theorem ck_X7_length : ckC yX7_length cX7_length 1 (some .int) 0 := ⟨⟨uw_1_2, uw_3_33⟩, by decide +kernel, by decide +kernel, by decide⟩
theorem uw_3_31 : (Jvm.Cond.instanceMethod ({ cls := "HideReader$Tape", name := "length", desc := "()I" } : Jvm.MethodName)) ∈ UT := ut_t (tm_3 (List.mem_of_getElem? (i := 31) rfl)) rfl
theorem uw_3_32 : (Jvm.Cond.selects "HideReader$Tape" ({ cls := "HideReader$Tape", name := "length", desc := "()I" } : Jvm.MethodName) ({ cls := "HideReader$Tape", name := "length", desc := "()I" } : Jvm.MethodName)) ∈ UT := ut_t (tm_3 (List.mem_of_getElem? (i := 32) rfl)) rfl
theorem iv_X7_length : Cond.instanceMethod yX7_length ∈ UT ∧ Cond.selects (yX7_length).cls yX7_length yX7_length ∈ UT := ⟨uw_3_31, uw_3_32⟩
theorem uw_3_30 : (Jvm.Cond.methodLink "HideReader" (91 : Nat) ({ cls := "HideReader$Tape", name := "length", desc := "()I" } : Jvm.MethodName)) ∈ UT := ut_t (tm_3 (List.mem_of_getElem? (i := 30) rfl)) rfl
theorem uw_3_37 : (Jvm.Cond.code ({ cls := "HideReader$Tape", name := "addNumber", desc := "(I)V" } : Jvm.MethodName) prog_9_method_8_code (3 : Nat) (Option.none : Option Jvm.ClassFile.FieldType)) ∈ UT := ut_t (tm_3 (List.mem_of_getElem? (i := 37) rfl)) rfl
theorem ck_X7_addNumber : ckC yX7_addNumber cX7_addNumber 3 none 1 := ⟨⟨uw_1_2, uw_3_37⟩, by decide +kernel, by decide +kernel, by decide⟩
theorem uw_3_35 : (Jvm.Cond.instanceMethod ({ cls := "HideReader$Tape", name := "addNumber", desc := "(I)V" } : Jvm.MethodName)) ∈ UT := ut_t (tm_3 (List.mem_of_getElem? (i := 35) rfl)) rfl
theorem uw_3_36 : (Jvm.Cond.selects "HideReader$Tape" ({ cls := "HideReader$Tape", name := "addNumber", desc := "(I)V" } : Jvm.MethodName) ({ cls := "HideReader$Tape", name := "addNumber", desc := "(I)V" } : Jvm.MethodName)) ∈ UT := ut_t (tm_3 (List.mem_of_getElem? (i := 36) rfl)) rfl
theorem iv_X7_addNumber : Cond.instanceMethod yX7_addNumber ∈ UT ∧ Cond.selects (yX7_addNumber).cls yX7_addNumber yX7_addNumber ∈ UT := ⟨uw_3_35, uw_3_36⟩
theorem uw_3_34 : (Jvm.Cond.methodLink "HideReader" (95 : Nat) ({ cls := "HideReader$Tape", name := "addNumber", desc := "(I)V" } : Jvm.MethodName)) ∈ UT := ut_t (tm_3 (List.mem_of_getElem? (i := 34) rfl)) rfl
theorem uw_3_29 : (Jvm.Cond.code ({ cls := "HideReader", name := "feed", desc := "(IIIII)I" } : Jvm.MethodName) prog_1_method_2_code (6 : Nat) (Option.some Jvm.ClassFile.FieldType.int)) ∈ UT := ut_t (tm_3 (List.mem_of_getElem? (i := 29) rfl)) rfl
theorem ck_X11_feed : ckC yX11_feed cX11_feed 6 (some .int) 5 := ⟨⟨uw_1_1, uw_3_29⟩, by decide +kernel, by decide +kernel, by decide⟩
theorem uw_3_45 : (Jvm.Cond.code ({ cls := "HideReader$Tape", name := "cutTo", desc := "(I)V" } : Jvm.MethodName) prog_9_method_9_code (2 : Nat) (Option.none : Option Jvm.ClassFile.FieldType)) ∈ UT := ut_t (tm_3 (List.mem_of_getElem? (i := 45) rfl)) rfl
theorem ck_X7_cutTo : ckC yX7_cutTo cX7_cutTo 2 none 1 := ⟨⟨uw_1_2, uw_3_45⟩, by decide +kernel, by decide +kernel, by decide⟩
theorem uw_3_43 : (Jvm.Cond.instanceMethod ({ cls := "HideReader$Tape", name := "cutTo", desc := "(I)V" } : Jvm.MethodName)) ∈ UT := ut_t (tm_3 (List.mem_of_getElem? (i := 43) rfl)) rfl
theorem uw_3_44 : (Jvm.Cond.selects "HideReader$Tape" ({ cls := "HideReader$Tape", name := "cutTo", desc := "(I)V" } : Jvm.MethodName) ({ cls := "HideReader$Tape", name := "cutTo", desc := "(I)V" } : Jvm.MethodName)) ∈ UT := ut_t (tm_3 (List.mem_of_getElem? (i := 44) rfl)) rfl
theorem iv_X7_cutTo : Cond.instanceMethod yX7_cutTo ∈ UT ∧ Cond.selects (yX7_cutTo).cls yX7_cutTo yX7_cutTo ∈ UT := ⟨uw_3_43, uw_3_44⟩
theorem uw_3_42 : (Jvm.Cond.methodLink "HideReader" (99 : Nat) ({ cls := "HideReader$Tape", name := "cutTo", desc := "(I)V" } : Jvm.MethodName)) ∈ UT := ut_t (tm_3 (List.mem_of_getElem? (i := 42) rfl)) rfl
theorem uw_3_41 : (Jvm.Cond.code ({ cls := "HideReader", name := "end", desc := "(I)I" } : Jvm.MethodName) prog_1_method_3_code (2 : Nat) (Option.some Jvm.ClassFile.FieldType.int)) ∈ UT := ut_t (tm_3 (List.mem_of_getElem? (i := 41) rfl)) rfl
theorem ck_X11_end : ckC yX11_end cX11_end 2 (some .int) 1 := ⟨⟨uw_1_1, uw_3_41⟩, by decide +kernel, by decide +kernel, by decide⟩
theorem uw_3_61 : (Jvm.Cond.code ({ cls := "HideReader$Formula", name := "empty", desc := "()V" } : Jvm.MethodName) prog_4_method_2_code (1 : Nat) (Option.none : Option Jvm.ClassFile.FieldType)) ∈ UT := ut_t (tm_3 (List.mem_of_getElem? (i := 61) rfl)) rfl
theorem ck_X2_empty : ckC yX2_empty cX2_empty 1 none 0 := ⟨⟨uw_1_8, uw_3_61⟩, by decide +kernel, by decide +kernel, by decide⟩
theorem uw_3_59 : (Jvm.Cond.instanceMethod ({ cls := "HideReader$Formula", name := "empty", desc := "()V" } : Jvm.MethodName)) ∈ UT := ut_t (tm_3 (List.mem_of_getElem? (i := 59) rfl)) rfl
theorem uw_3_60 : (Jvm.Cond.selects "HideReader$Formula" ({ cls := "HideReader$Formula", name := "empty", desc := "()V" } : Jvm.MethodName) ({ cls := "HideReader$Formula", name := "empty", desc := "()V" } : Jvm.MethodName)) ∈ UT := ut_t (tm_3 (List.mem_of_getElem? (i := 60) rfl)) rfl
theorem iv_X2_empty : Cond.instanceMethod yX2_empty ∈ UT ∧ Cond.selects (yX2_empty).cls yX2_empty yX2_empty ∈ UT := ⟨uw_3_59, uw_3_60⟩
theorem uw_3_58 : (Jvm.Cond.methodLink "HideReader$Valley" (67 : Nat) ({ cls := "HideReader$Formula", name := "empty", desc := "()V" } : Jvm.MethodName)) ∈ UT := ut_t (tm_3 (List.mem_of_getElem? (i := 58) rfl)) rfl
theorem uw_3_57 : (Jvm.Cond.code ({ cls := "HideReader$Valley", name := "empty", desc := "()V" } : Jvm.MethodName) prog_11_method_2_code (1 : Nat) (Option.none : Option Jvm.ClassFile.FieldType)) ∈ UT := ut_t (tm_3 (List.mem_of_getElem? (i := 57) rfl)) rfl
theorem ck_X9_empty : ckC yX9_empty cX9_empty 1 none 0 := ⟨⟨uw_1_7, uw_3_57⟩, by decide +kernel, by decide +kernel, by decide⟩
theorem uw_3_55 : (Jvm.Cond.instanceMethod ({ cls := "HideReader$Valley", name := "empty", desc := "()V" } : Jvm.MethodName)) ∈ UT := ut_t (tm_3 (List.mem_of_getElem? (i := 55) rfl)) rfl
theorem uw_3_56 : (Jvm.Cond.selects "HideReader$Valley" ({ cls := "HideReader$Valley", name := "empty", desc := "()V" } : Jvm.MethodName) ({ cls := "HideReader$Valley", name := "empty", desc := "()V" } : Jvm.MethodName)) ∈ UT := ut_t (tm_3 (List.mem_of_getElem? (i := 56) rfl)) rfl
theorem iv_X9_empty : Cond.instanceMethod yX9_empty ∈ UT ∧ Cond.selects (yX9_empty).cls yX9_empty yX9_empty ∈ UT := ⟨uw_3_55, uw_3_56⟩
theorem uw_3_54 : (Jvm.Cond.methodLink "HideReader$TextReader" (19 : Nat) ({ cls := "HideReader$Valley", name := "empty", desc := "()V" } : Jvm.MethodName)) ∈ UT := ut_t (tm_3 (List.mem_of_getElem? (i := 54) rfl)) rfl
theorem uw_3_69 : (Jvm.Cond.code ({ cls := "HideReader$Tape", name := "advance", desc := "()V" } : Jvm.MethodName) prog_9_method_12_code (2 : Nat) (Option.none : Option Jvm.ClassFile.FieldType)) ∈ UT := ut_t (tm_3 (List.mem_of_getElem? (i := 69) rfl)) rfl
theorem ck_X7_advance : ckC yX7_advance cX7_advance 2 none 0 := ⟨⟨uw_1_2, uw_3_69⟩, by decide +kernel, by decide +kernel, by decide⟩
theorem uw_3_67 : (Jvm.Cond.instanceMethod ({ cls := "HideReader$Tape", name := "advance", desc := "()V" } : Jvm.MethodName)) ∈ UT := ut_t (tm_3 (List.mem_of_getElem? (i := 67) rfl)) rfl
theorem uw_3_68 : (Jvm.Cond.selects "HideReader$Tape" ({ cls := "HideReader$Tape", name := "advance", desc := "()V" } : Jvm.MethodName) ({ cls := "HideReader$Tape", name := "advance", desc := "()V" } : Jvm.MethodName)) ∈ UT := ut_t (tm_3 (List.mem_of_getElem? (i := 68) rfl)) rfl
theorem iv_X7_advance : Cond.instanceMethod yX7_advance ∈ UT ∧ Cond.selects (yX7_advance).cls yX7_advance yX7_advance ∈ UT := ⟨uw_3_67, uw_3_68⟩
theorem uw_3_66 : (Jvm.Cond.methodLink "HideReader$Tape" (60 : Nat) ({ cls := "HideReader$Tape", name := "advance", desc := "()V" } : Jvm.MethodName)) ∈ UT := ut_t (tm_3 (List.mem_of_getElem? (i := 66) rfl)) rfl
theorem uw_3_65 : (Jvm.Cond.code ({ cls := "HideReader$Tape", name := "rewind", desc := "()V" } : Jvm.MethodName) prog_9_method_10_code (1 : Nat) (Option.none : Option Jvm.ClassFile.FieldType)) ∈ UT := ut_t (tm_3 (List.mem_of_getElem? (i := 65) rfl)) rfl
theorem ck_X7_rewind : ckC yX7_rewind cX7_rewind 1 none 0 := ⟨⟨uw_1_2, uw_3_65⟩, by decide +kernel, by decide +kernel, by decide⟩
theorem uw_3_63 : (Jvm.Cond.instanceMethod ({ cls := "HideReader$Tape", name := "rewind", desc := "()V" } : Jvm.MethodName)) ∈ UT := ut_t (tm_3 (List.mem_of_getElem? (i := 63) rfl)) rfl
theorem uw_3_64 : (Jvm.Cond.selects "HideReader$Tape" ({ cls := "HideReader$Tape", name := "rewind", desc := "()V" } : Jvm.MethodName) ({ cls := "HideReader$Tape", name := "rewind", desc := "()V" } : Jvm.MethodName)) ∈ UT := ut_t (tm_3 (List.mem_of_getElem? (i := 64) rfl)) rfl
theorem iv_X7_rewind : Cond.instanceMethod yX7_rewind ∈ UT ∧ Cond.selects (yX7_rewind).cls yX7_rewind yX7_rewind ∈ UT := ⟨uw_3_63, uw_3_64⟩
theorem uw_3_62 : (Jvm.Cond.methodLink "HideReader$TextReader" (24 : Nat) ({ cls := "HideReader$Tape", name := "rewind", desc := "()V" } : Jvm.MethodName)) ∈ UT := ut_t (tm_3 (List.mem_of_getElem? (i := 62) rfl)) rfl
theorem uw_3_158 : (Jvm.Cond.code ({ cls := "HideReader$Tape", name := "kind", desc := "()I" } : Jvm.MethodName) prog_9_method_3_code (1 : Nat) (Option.some Jvm.ClassFile.FieldType.int)) ∈ UT := ut_t (tm_3 (List.mem_of_getElem? (i := 158) rfl)) rfl
theorem ck_X7_kind : ckC yX7_kind cX7_kind 1 (some .int) 0 := ⟨⟨uw_1_2, uw_3_158⟩, by decide +kernel, by decide +kernel, by decide⟩
theorem uw_3_156 : (Jvm.Cond.instanceMethod ({ cls := "HideReader$Tape", name := "kind", desc := "()I" } : Jvm.MethodName)) ∈ UT := ut_t (tm_3 (List.mem_of_getElem? (i := 156) rfl)) rfl
theorem uw_3_157 : (Jvm.Cond.selects "HideReader$Tape" ({ cls := "HideReader$Tape", name := "kind", desc := "()I" } : Jvm.MethodName) ({ cls := "HideReader$Tape", name := "kind", desc := "()I" } : Jvm.MethodName)) ∈ UT := ut_t (tm_3 (List.mem_of_getElem? (i := 157) rfl)) rfl
theorem iv_X7_kind : Cond.instanceMethod yX7_kind ∈ UT ∧ Cond.selects (yX7_kind).cls yX7_kind yX7_kind ∈ UT := ⟨uw_3_156, uw_3_157⟩
theorem uw_3_155 : (Jvm.Cond.methodLink "HideReader$TextReader" (29 : Nat) ({ cls := "HideReader$Tape", name := "kind", desc := "()I" } : Jvm.MethodName)) ∈ UT := ut_t (tm_3 (List.mem_of_getElem? (i := 155) rfl)) rfl
theorem uw_4_19 : (Jvm.Cond.code ({ cls := "HideReader$Tape", name := "faultKind", desc := "()I" } : Jvm.MethodName) prog_9_method_6_code (1 : Nat) (Option.some Jvm.ClassFile.FieldType.int)) ∈ UT := ut_t (tm_4 (List.mem_of_getElem? (i := 19) rfl)) rfl
theorem ck_X7_faultKind : ckC yX7_faultKind cX7_faultKind 1 (some .int) 0 := ⟨⟨uw_1_2, uw_4_19⟩, by decide +kernel, by decide +kernel, by decide⟩
theorem uw_4_17 : (Jvm.Cond.instanceMethod ({ cls := "HideReader$Tape", name := "faultKind", desc := "()I" } : Jvm.MethodName)) ∈ UT := ut_t (tm_4 (List.mem_of_getElem? (i := 17) rfl)) rfl
theorem uw_4_18 : (Jvm.Cond.selects "HideReader$Tape" ({ cls := "HideReader$Tape", name := "faultKind", desc := "()I" } : Jvm.MethodName) ({ cls := "HideReader$Tape", name := "faultKind", desc := "()I" } : Jvm.MethodName)) ∈ UT := ut_t (tm_4 (List.mem_of_getElem? (i := 18) rfl)) rfl
theorem iv_X7_faultKind : Cond.instanceMethod yX7_faultKind ∈ UT ∧ Cond.selects (yX7_faultKind).cls yX7_faultKind yX7_faultKind ∈ UT := ⟨uw_4_17, uw_4_18⟩
theorem uw_4_16 : (Jvm.Cond.methodLink "HideReader$TextReader" (73 : Nat) ({ cls := "HideReader$Tape", name := "faultKind", desc := "()I" } : Jvm.MethodName)) ∈ UT := ut_t (tm_4 (List.mem_of_getElem? (i := 16) rfl)) rfl
theorem uw_3_53 : (Jvm.Cond.code ({ cls := "HideReader$TextReader", name := "readAll", desc := "()Z" } : Jvm.MethodName) prog_10_method_2_code (2 : Nat) (Option.some Jvm.ClassFile.FieldType.boolean)) ∈ UT := ut_t (tm_3 (List.mem_of_getElem? (i := 53) rfl)) rfl
theorem ck_X8_readAll : ckC yX8_readAll cX8_readAll 2 (some .boolean) 0 := ⟨⟨uw_1_9, uw_3_53⟩, by decide +kernel, by decide +kernel, by decide⟩
theorem uw_3_51 : (Jvm.Cond.instanceMethod ({ cls := "HideReader$TextReader", name := "readAll", desc := "()Z" } : Jvm.MethodName)) ∈ UT := ut_t (tm_3 (List.mem_of_getElem? (i := 51) rfl)) rfl
theorem uw_3_52 : (Jvm.Cond.selects "HideReader$TextReader" ({ cls := "HideReader$TextReader", name := "readAll", desc := "()Z" } : Jvm.MethodName) ({ cls := "HideReader$TextReader", name := "readAll", desc := "()Z" } : Jvm.MethodName)) ∈ UT := ut_t (tm_3 (List.mem_of_getElem? (i := 52) rfl)) rfl
theorem iv_X8_readAll : Cond.instanceMethod yX8_readAll ∈ UT ∧ Cond.selects (yX8_readAll).cls yX8_readAll yX8_readAll ∈ UT := ⟨uw_3_51, uw_3_52⟩
theorem uw_3_50 : (Jvm.Cond.methodLink "HideReader" (102 : Nat) ({ cls := "HideReader$TextReader", name := "readAll", desc := "()Z" } : Jvm.MethodName)) ∈ UT := ut_t (tm_3 (List.mem_of_getElem? (i := 50) rfl)) rfl
theorem uw_4_24 : (Jvm.Cond.methodLink "HideReader$Valley" (70 : Nat) ({ cls := "java/lang/System", name := "arraycopy", desc := "(Ljava/lang/Object;ILjava/lang/Object;II)V" } : Jvm.MethodName)) ∈ UT := ut_t (tm_4 (List.mem_of_getElem? (i := 24) rfl)) rfl
theorem uw_4_26 : (Jvm.Cond.native ({ cls := "java/lang/System", name := "arraycopy", desc := "(Ljava/lang/Object;ILjava/lang/Object;II)V" } : Jvm.MethodName)) ∈ UT := ut_t (tm_4 (List.mem_of_getElem? (i := 26) rfl)) rfl
theorem uw_4_25 : (Jvm.Cond.static ({ cls := "java/lang/System", name := "arraycopy", desc := "(Ljava/lang/Object;ILjava/lang/Object;II)V" } : Jvm.MethodName)) ∈ UT := ut_t (tm_4 (List.mem_of_getElem? (i := 25) rfl)) rfl
theorem uw_1_20 : (Jvm.Cond.initialized "java/lang/System") ∈ UT := ut_t (tm_1 (List.mem_of_getElem? (i := 20) rfl)) rfl
theorem uw_4_31 : (Jvm.Cond.methodLink "HideReader$Formula" (29 : Nat) ({ cls := "java/lang/System", name := "arraycopy", desc := "(Ljava/lang/Object;ILjava/lang/Object;II)V" } : Jvm.MethodName)) ∈ UT := ut_t (tm_4 (List.mem_of_getElem? (i := 31) rfl)) rfl
theorem uw_4_30 : (Jvm.Cond.code ({ cls := "HideReader$Formula", name := "copyFrom", desc := "(LHideReader$Formula;)V" } : Jvm.MethodName) prog_4_method_6_code (2 : Nat) (Option.none : Option Jvm.ClassFile.FieldType)) ∈ UT := ut_t (tm_4 (List.mem_of_getElem? (i := 30) rfl)) rfl
theorem ck_X2_copyFrom : ckC yX2_copyFrom cX2_copyFrom 2 none 1 := ⟨⟨uw_1_8, uw_4_30⟩, by decide +kernel, by decide +kernel, by decide⟩
theorem uw_4_28 : (Jvm.Cond.instanceMethod ({ cls := "HideReader$Formula", name := "copyFrom", desc := "(LHideReader$Formula;)V" } : Jvm.MethodName)) ∈ UT := ut_t (tm_4 (List.mem_of_getElem? (i := 28) rfl)) rfl
theorem uw_4_29 : (Jvm.Cond.selects "HideReader$Formula" ({ cls := "HideReader$Formula", name := "copyFrom", desc := "(LHideReader$Formula;)V" } : Jvm.MethodName) ({ cls := "HideReader$Formula", name := "copyFrom", desc := "(LHideReader$Formula;)V" } : Jvm.MethodName)) ∈ UT := ut_t (tm_4 (List.mem_of_getElem? (i := 29) rfl)) rfl
theorem iv_X2_copyFrom : Cond.instanceMethod yX2_copyFrom ∈ UT ∧ Cond.selects (yX2_copyFrom).cls yX2_copyFrom yX2_copyFrom ∈ UT := ⟨uw_4_28, uw_4_29⟩
theorem uw_4_27 : (Jvm.Cond.methodLink "HideReader$Valley" (76 : Nat) ({ cls := "HideReader$Formula", name := "copyFrom", desc := "(LHideReader$Formula;)V" } : Jvm.MethodName)) ∈ UT := ut_t (tm_4 (List.mem_of_getElem? (i := 27) rfl)) rfl
theorem uw_4_23 : (Jvm.Cond.code ({ cls := "HideReader$Valley", name := "copyFrom", desc := "(LHideReader$Valley;)V" } : Jvm.MethodName) prog_11_method_3_code (2 : Nat) (Option.none : Option Jvm.ClassFile.FieldType)) ∈ UT := ut_t (tm_4 (List.mem_of_getElem? (i := 23) rfl)) rfl
theorem ck_X9_copyFrom : ckC yX9_copyFrom cX9_copyFrom 2 none 1 := ⟨⟨uw_1_7, uw_4_23⟩, by decide +kernel, by decide +kernel, by decide⟩
theorem uw_4_21 : (Jvm.Cond.instanceMethod ({ cls := "HideReader$Valley", name := "copyFrom", desc := "(LHideReader$Valley;)V" } : Jvm.MethodName)) ∈ UT := ut_t (tm_4 (List.mem_of_getElem? (i := 21) rfl)) rfl
theorem uw_4_22 : (Jvm.Cond.selects "HideReader$Valley" ({ cls := "HideReader$Valley", name := "copyFrom", desc := "(LHideReader$Valley;)V" } : Jvm.MethodName) ({ cls := "HideReader$Valley", name := "copyFrom", desc := "(LHideReader$Valley;)V" } : Jvm.MethodName)) ∈ UT := ut_t (tm_4 (List.mem_of_getElem? (i := 22) rfl)) rfl
theorem iv_X9_copyFrom : Cond.instanceMethod yX9_copyFrom ∈ UT ∧ Cond.selects (yX9_copyFrom).cls yX9_copyFrom yX9_copyFrom ∈ UT := ⟨uw_4_21, uw_4_22⟩
theorem uw_4_20 : (Jvm.Cond.methodLink "HideReader" (106 : Nat) ({ cls := "HideReader$Valley", name := "copyFrom", desc := "(LHideReader$Valley;)V" } : Jvm.MethodName)) ∈ UT := ut_t (tm_4 (List.mem_of_getElem? (i := 20) rfl)) rfl
theorem uw_1_156 : (Jvm.Cond.fieldLink "HideReader" (110 : Nat) "HideReader$Valley" "turns" "I") ∈ UT := ut_t (tm_1 (List.mem_of_getElem? (i := 156) rfl)) rfl
theorem uw_1_160 : (Jvm.Cond.fieldLink "HideReader" (113 : Nat) "HideReader$Valley" "mirror" "Z") ∈ UT := ut_t (tm_1 (List.mem_of_getElem? (i := 160) rfl)) rfl
theorem uw_4_35 : (Jvm.Cond.code ({ cls := "HideReader$Lattice", name := "choose", desc := "(IZ)V" } : Jvm.MethodName) prog_6_method_4_code (5 : Nat) (Option.none : Option Jvm.ClassFile.FieldType)) ∈ UT := ut_t (tm_4 (List.mem_of_getElem? (i := 35) rfl)) rfl
theorem ck_X4_choose : ckC yX4_choose cX4_choose 5 none 2 := ⟨⟨uw_1_10, uw_4_35⟩, by decide +kernel, by decide +kernel, by decide⟩
theorem uw_4_33 : (Jvm.Cond.instanceMethod ({ cls := "HideReader$Lattice", name := "choose", desc := "(IZ)V" } : Jvm.MethodName)) ∈ UT := ut_t (tm_4 (List.mem_of_getElem? (i := 33) rfl)) rfl
theorem uw_4_34 : (Jvm.Cond.selects "HideReader$Lattice" ({ cls := "HideReader$Lattice", name := "choose", desc := "(IZ)V" } : Jvm.MethodName) ({ cls := "HideReader$Lattice", name := "choose", desc := "(IZ)V" } : Jvm.MethodName)) ∈ UT := ut_t (tm_4 (List.mem_of_getElem? (i := 34) rfl)) rfl
theorem iv_X4_choose : Cond.instanceMethod yX4_choose ∈ UT ∧ Cond.selects (yX4_choose).cls yX4_choose yX4_choose ∈ UT := ⟨uw_4_33, uw_4_34⟩
theorem uw_4_32 : (Jvm.Cond.methodLink "HideReader" (117 : Nat) ({ cls := "HideReader$Lattice", name := "choose", desc := "(IZ)V" } : Jvm.MethodName)) ∈ UT := ut_t (tm_4 (List.mem_of_getElem? (i := 32) rfl)) rfl
theorem uw_1_174 : (Jvm.Cond.fieldLink "HideReader$Smith" (33 : Nat) "HideReader$Valley" "irons" "I") ∈ UT := ut_t (tm_1 (List.mem_of_getElem? (i := 174) rfl)) rfl
theorem uw_4_39 : (Jvm.Cond.code ({ cls := "HideReader$Smith", name := "layOut", desc := "(LHideReader$Valley;)V" } : Jvm.MethodName) prog_8_method_2_code (4 : Nat) (Option.none : Option Jvm.ClassFile.FieldType)) ∈ UT := ut_t (tm_4 (List.mem_of_getElem? (i := 39) rfl)) rfl
theorem ck_X6_layOut : ckC yX6_layOut cX6_layOut 4 none 1 := ⟨⟨uw_1_11, uw_4_39⟩, by decide +kernel, by decide +kernel, by decide⟩
theorem uw_4_37 : (Jvm.Cond.instanceMethod ({ cls := "HideReader$Smith", name := "layOut", desc := "(LHideReader$Valley;)V" } : Jvm.MethodName)) ∈ UT := ut_t (tm_4 (List.mem_of_getElem? (i := 37) rfl)) rfl
theorem uw_4_38 : (Jvm.Cond.selects "HideReader$Smith" ({ cls := "HideReader$Smith", name := "layOut", desc := "(LHideReader$Valley;)V" } : Jvm.MethodName) ({ cls := "HideReader$Smith", name := "layOut", desc := "(LHideReader$Valley;)V" } : Jvm.MethodName)) ∈ UT := ut_t (tm_4 (List.mem_of_getElem? (i := 38) rfl)) rfl
theorem iv_X6_layOut : Cond.instanceMethod yX6_layOut ∈ UT ∧ Cond.selects (yX6_layOut).cls yX6_layOut yX6_layOut ∈ UT := ⟨uw_4_37, uw_4_38⟩
theorem uw_4_36 : (Jvm.Cond.methodLink "HideReader" (121 : Nat) ({ cls := "HideReader$Smith", name := "layOut", desc := "(LHideReader$Valley;)V" } : Jvm.MethodName)) ∈ UT := ut_t (tm_4 (List.mem_of_getElem? (i := 36) rfl)) rfl
theorem uw_1_169 : (Jvm.Cond.fieldLink "HideReader$Book" (40 : Nat) "HideReader$Valley" "herds" "I") ∈ UT := ut_t (tm_1 (List.mem_of_getElem? (i := 169) rfl)) rfl
theorem uw_4_51 : (Jvm.Cond.code ({ cls := "HideReader$Book", name := "compareBrands", desc := "()V" } : Jvm.MethodName) prog_3_method_2_code (3 : Nat) (Option.none : Option Jvm.ClassFile.FieldType)) ∈ UT := ut_t (tm_4 (List.mem_of_getElem? (i := 51) rfl)) rfl
theorem ck_X1_compareBrands : ckC yX1_compareBrands cX1_compareBrands 3 none 0 := ⟨⟨uw_1_14, uw_4_51⟩, by decide +kernel, by decide +kernel, by decide⟩
theorem uw_4_49 : (Jvm.Cond.instanceMethod ({ cls := "HideReader$Book", name := "compareBrands", desc := "()V" } : Jvm.MethodName)) ∈ UT := ut_t (tm_4 (List.mem_of_getElem? (i := 49) rfl)) rfl
theorem uw_4_50 : (Jvm.Cond.selects "HideReader$Book" ({ cls := "HideReader$Book", name := "compareBrands", desc := "()V" } : Jvm.MethodName) ({ cls := "HideReader$Book", name := "compareBrands", desc := "()V" } : Jvm.MethodName)) ∈ UT := ut_t (tm_4 (List.mem_of_getElem? (i := 50) rfl)) rfl
theorem iv_X1_compareBrands : Cond.instanceMethod yX1_compareBrands ∈ UT ∧ Cond.selects (yX1_compareBrands).cls yX1_compareBrands yX1_compareBrands ∈ UT := ⟨uw_4_49, uw_4_50⟩
theorem uw_4_48 : (Jvm.Cond.methodLink "HideReader" (124 : Nat) ({ cls := "HideReader$Book", name := "compareBrands", desc := "()V" } : Jvm.MethodName)) ∈ UT := ut_t (tm_4 (List.mem_of_getElem? (i := 48) rfl)) rfl
theorem uw_4_75 : (Jvm.Cond.code ({ cls := "HideReader$History", name := "forgetActs", desc := "()V" } : Jvm.MethodName) prog_5_method_6_code (1 : Nat) (Option.none : Option Jvm.ClassFile.FieldType)) ∈ UT := ut_t (tm_4 (List.mem_of_getElem? (i := 75) rfl)) rfl
theorem ck_X3_forgetActs : ckC yX3_forgetActs cX3_forgetActs 1 none 0 := ⟨⟨uw_1_12, uw_4_75⟩, by decide +kernel, by decide +kernel, by decide⟩
theorem uw_4_74 : (Jvm.Cond.instanceMethod ({ cls := "HideReader$History", name := "forgetActs", desc := "()V" } : Jvm.MethodName)) ∈ UT := ut_t (tm_4 (List.mem_of_getElem? (i := 74) rfl)) rfl
theorem iv_X3_forgetActs : Cond.instanceMethod yX3_forgetActs ∈ UT ∧ Cond.selects (yX3_forgetActs).cls yX3_forgetActs yX3_forgetActs ∈ UT := ⟨uw_4_74, ut_s (q := (yX3_forgetActs, 6)) (List.mem_append_right _ (List.mem_append_left _ (List.mem_of_getElem? (i := 6) rfl))) rfl⟩
theorem uw_4_72 : (Jvm.Cond.methodLink "HideReader$History" (35 : Nat) ({ cls := "HideReader$History", name := "forgetActs", desc := "()V" } : Jvm.MethodName)) ∈ UT := ut_t (tm_4 (List.mem_of_getElem? (i := 72) rfl)) rfl
theorem uw_4_79 : (Jvm.Cond.code ({ cls := "HideReader$History", name := "now", desc := "()LHideReader$Pasture;" } : Jvm.MethodName) prog_5_method_2_code (1 : Nat) (Option.some (Jvm.ClassFile.FieldType.object "HideReader$Pasture"))) ∈ UT := ut_t (tm_4 (List.mem_of_getElem? (i := 79) rfl)) rfl
theorem ck_X3_now : ckC yX3_now cX3_now 1 (some (.object "HideReader$Pasture")) 0 := ⟨⟨uw_1_12, uw_4_79⟩, by decide +kernel, by decide +kernel, by decide⟩
theorem uw_4_77 : (Jvm.Cond.instanceMethod ({ cls := "HideReader$History", name := "now", desc := "()LHideReader$Pasture;" } : Jvm.MethodName)) ∈ UT := ut_t (tm_4 (List.mem_of_getElem? (i := 77) rfl)) rfl
theorem uw_4_78 : (Jvm.Cond.selects "HideReader$History" ({ cls := "HideReader$History", name := "now", desc := "()LHideReader$Pasture;" } : Jvm.MethodName) ({ cls := "HideReader$History", name := "now", desc := "()LHideReader$Pasture;" } : Jvm.MethodName)) ∈ UT := ut_t (tm_4 (List.mem_of_getElem? (i := 78) rfl)) rfl
theorem iv_X3_now : Cond.instanceMethod yX3_now ∈ UT ∧ Cond.selects (yX3_now).cls yX3_now yX3_now ∈ UT := ⟨uw_4_77, uw_4_78⟩
theorem uw_4_76 : (Jvm.Cond.methodLink "HideReader$History" (38 : Nat) ({ cls := "HideReader$History", name := "now", desc := "()LHideReader$Pasture;" } : Jvm.MethodName)) ∈ UT := ut_t (tm_4 (List.mem_of_getElem? (i := 76) rfl)) rfl
theorem uw_1_167 : (Jvm.Cond.fieldLink "HideReader$Pasture" (34 : Nat) "HideReader$Valley" "draw" "I") ∈ UT := ut_t (tm_1 (List.mem_of_getElem? (i := 167) rfl)) rfl
theorem uw_1_179 : (Jvm.Cond.fieldLink "HideReader$Pasture" (39 : Nat) "HideReader$Valley" "beasts" "I") ∈ UT := ut_t (tm_1 (List.mem_of_getElem? (i := 179) rfl)) rfl
theorem uw_4_83 : (Jvm.Cond.code ({ cls := "HideReader$Pasture", name := "startAs", desc := "(LHideReader$Valley;)V" } : Jvm.MethodName) prog_7_method_3_code (4 : Nat) (Option.none : Option Jvm.ClassFile.FieldType)) ∈ UT := ut_t (tm_4 (List.mem_of_getElem? (i := 83) rfl)) rfl
theorem ck_X5_startAs : ckC yX5_startAs cX5_startAs 4 none 1 := ⟨⟨uw_1_13, uw_4_83⟩, by decide +kernel, by decide +kernel, by decide⟩
theorem uw_4_81 : (Jvm.Cond.instanceMethod ({ cls := "HideReader$Pasture", name := "startAs", desc := "(LHideReader$Valley;)V" } : Jvm.MethodName)) ∈ UT := ut_t (tm_4 (List.mem_of_getElem? (i := 81) rfl)) rfl
theorem uw_4_82 : (Jvm.Cond.selects "HideReader$Pasture" ({ cls := "HideReader$Pasture", name := "startAs", desc := "(LHideReader$Valley;)V" } : Jvm.MethodName) ({ cls := "HideReader$Pasture", name := "startAs", desc := "(LHideReader$Valley;)V" } : Jvm.MethodName)) ∈ UT := ut_t (tm_4 (List.mem_of_getElem? (i := 82) rfl)) rfl
theorem iv_X5_startAs : Cond.instanceMethod yX5_startAs ∈ UT ∧ Cond.selects (yX5_startAs).cls yX5_startAs yX5_startAs ∈ UT := ⟨uw_4_81, uw_4_82⟩
theorem uw_4_80 : (Jvm.Cond.methodLink "HideReader$History" (42 : Nat) ({ cls := "HideReader$Pasture", name := "startAs", desc := "(LHideReader$Valley;)V" } : Jvm.MethodName)) ∈ UT := ut_t (tm_4 (List.mem_of_getElem? (i := 80) rfl)) rfl
theorem uw_4_71 : (Jvm.Cond.code ({ cls := "HideReader$History", name := "restart", desc := "(LHideReader$Valley;)V" } : Jvm.MethodName) prog_5_method_5_code (3 : Nat) (Option.none : Option Jvm.ClassFile.FieldType)) ∈ UT := ut_t (tm_4 (List.mem_of_getElem? (i := 71) rfl)) rfl
theorem ck_X3_restart : ckC yX3_restart cX3_restart 3 none 1 := ⟨⟨uw_1_12, uw_4_71⟩, by decide +kernel, by decide +kernel, by decide⟩
theorem uw_4_69 : (Jvm.Cond.instanceMethod ({ cls := "HideReader$History", name := "restart", desc := "(LHideReader$Valley;)V" } : Jvm.MethodName)) ∈ UT := ut_t (tm_4 (List.mem_of_getElem? (i := 69) rfl)) rfl
theorem uw_4_70 : (Jvm.Cond.selects "HideReader$History" ({ cls := "HideReader$History", name := "restart", desc := "(LHideReader$Valley;)V" } : Jvm.MethodName) ({ cls := "HideReader$History", name := "restart", desc := "(LHideReader$Valley;)V" } : Jvm.MethodName)) ∈ UT := ut_t (tm_4 (List.mem_of_getElem? (i := 70) rfl)) rfl
theorem iv_X3_restart : Cond.instanceMethod yX3_restart ∈ UT ∧ Cond.selects (yX3_restart).cls yX3_restart yX3_restart ∈ UT := ⟨uw_4_69, uw_4_70⟩
theorem uw_4_68 : (Jvm.Cond.methodLink "HideReader" (127 : Nat) ({ cls := "HideReader$History", name := "restart", desc := "(LHideReader$Valley;)V" } : Jvm.MethodName)) ∈ UT := ut_t (tm_4 (List.mem_of_getElem? (i := 68) rfl)) rfl
theorem uw_4_91 : (Jvm.Cond.code ({ cls := "HideReader$Witness", name := "forget", desc := "()V" } : Jvm.MethodName) prog_12_method_4_code (1 : Nat) (Option.none : Option Jvm.ClassFile.FieldType)) ∈ UT := ut_t (tm_4 (List.mem_of_getElem? (i := 91) rfl)) rfl
theorem ck_X10_forget : ckC yX10_forget cX10_forget 1 none 0 := ⟨⟨uw_1_16, uw_4_91⟩, by decide +kernel, by decide +kernel, by decide⟩
theorem uw_4_89 : (Jvm.Cond.instanceMethod ({ cls := "HideReader$Witness", name := "forget", desc := "()V" } : Jvm.MethodName)) ∈ UT := ut_t (tm_4 (List.mem_of_getElem? (i := 89) rfl)) rfl
theorem uw_4_90 : (Jvm.Cond.selects "HideReader$Witness" ({ cls := "HideReader$Witness", name := "forget", desc := "()V" } : Jvm.MethodName) ({ cls := "HideReader$Witness", name := "forget", desc := "()V" } : Jvm.MethodName)) ∈ UT := ut_t (tm_4 (List.mem_of_getElem? (i := 90) rfl)) rfl
theorem iv_X10_forget : Cond.instanceMethod yX10_forget ∈ UT ∧ Cond.selects (yX10_forget).cls yX10_forget yX10_forget ∈ UT := ⟨uw_4_89, uw_4_90⟩
theorem uw_4_88 : (Jvm.Cond.methodLink "HideReader" (130 : Nat) ({ cls := "HideReader$Witness", name := "forget", desc := "()V" } : Jvm.MethodName)) ∈ UT := ut_t (tm_4 (List.mem_of_getElem? (i := 88) rfl)) rfl
theorem uw_1_170 : (Jvm.Cond.fieldLink "HideReader" (133 : Nat) "HideReader$Valley" "herds" "I") ∈ UT := ut_t (tm_1 (List.mem_of_getElem? (i := 170) rfl)) rfl
theorem uw_3_49 : (Jvm.Cond.code ({ cls := "HideReader", name := "valley", desc := "()I" } : Jvm.MethodName) prog_1_method_4_code (1 : Nat) (Option.some Jvm.ClassFile.FieldType.int)) ∈ UT := ut_t (tm_3 (List.mem_of_getElem? (i := 49) rfl)) rfl
theorem ck_X11_valley : ckC yX11_valley cX11_valley 1 (some .int) 0 := ⟨⟨uw_1_1, uw_3_49⟩, by decide +kernel, by decide +kernel, by decide⟩
theorem uw_4_100 : (Jvm.Cond.code ({ cls := "HideReader$Tape", name := "faultPlace", desc := "()I" } : Jvm.MethodName) prog_9_method_7_code (1 : Nat) (Option.some Jvm.ClassFile.FieldType.int)) ∈ UT := ut_t (tm_4 (List.mem_of_getElem? (i := 100) rfl)) rfl
theorem ck_X7_faultPlace : ckC yX7_faultPlace cX7_faultPlace 1 (some .int) 0 := ⟨⟨uw_1_2, uw_4_100⟩, by decide +kernel, by decide +kernel, by decide⟩
theorem uw_4_98 : (Jvm.Cond.instanceMethod ({ cls := "HideReader$Tape", name := "faultPlace", desc := "()I" } : Jvm.MethodName)) ∈ UT := ut_t (tm_4 (List.mem_of_getElem? (i := 98) rfl)) rfl
theorem uw_4_99 : (Jvm.Cond.selects "HideReader$Tape" ({ cls := "HideReader$Tape", name := "faultPlace", desc := "()I" } : Jvm.MethodName) ({ cls := "HideReader$Tape", name := "faultPlace", desc := "()I" } : Jvm.MethodName)) ∈ UT := ut_t (tm_4 (List.mem_of_getElem? (i := 99) rfl)) rfl
theorem iv_X7_faultPlace : Cond.instanceMethod yX7_faultPlace ∈ UT ∧ Cond.selects (yX7_faultPlace).cls yX7_faultPlace yX7_faultPlace ∈ UT := ⟨uw_4_98, uw_4_99⟩
theorem uw_4_97 : (Jvm.Cond.methodLink "HideReader" (139 : Nat) ({ cls := "HideReader$Tape", name := "faultPlace", desc := "()I" } : Jvm.MethodName)) ∈ UT := ut_t (tm_4 (List.mem_of_getElem? (i := 97) rfl)) rfl
theorem uw_4_96 : (Jvm.Cond.methodLink "HideReader" (136 : Nat) ({ cls := "HideReader$Tape", name := "faultKind", desc := "()I" } : Jvm.MethodName)) ∈ UT := ut_t (tm_4 (List.mem_of_getElem? (i := 96) rfl)) rfl
theorem uw_4_95 : (Jvm.Cond.code ({ cls := "HideReader", name := "fault", desc := "(I)I" } : Jvm.MethodName) prog_1_method_5_code (2 : Nat) (Option.some Jvm.ClassFile.FieldType.int)) ∈ UT := ut_t (tm_4 (List.mem_of_getElem? (i := 95) rfl)) rfl
theorem ck_X11_fault : ckC yX11_fault cX11_fault 2 (some .int) 1 := ⟨⟨uw_1_1, uw_4_95⟩, by decide +kernel, by decide +kernel, by decide⟩
theorem uw_4_108 : (Jvm.Cond.code ({ cls := "HideReader", name := "isHerd", desc := "(I)Z" } : Jvm.MethodName) prog_1_method_56_code (2 : Nat) (Option.some Jvm.ClassFile.FieldType.boolean)) ∈ UT := ut_t (tm_4 (List.mem_of_getElem? (i := 108) rfl)) rfl
theorem ck_X11_isHerd : ckC yX11_isHerd cX11_isHerd 2 (some .boolean) 1 := ⟨⟨uw_1_1, uw_4_108⟩, by decide +kernel, by decide +kernel, by decide⟩
theorem uw_4_107 : (Jvm.Cond.instanceMethod ({ cls := "HideReader", name := "isHerd", desc := "(I)Z" } : Jvm.MethodName)) ∈ UT := ut_t (tm_4 (List.mem_of_getElem? (i := 107) rfl)) rfl
theorem iv_X11_isHerd : Cond.instanceMethod yX11_isHerd ∈ UT ∧ Cond.selects (yX11_isHerd).cls yX11_isHerd yX11_isHerd ∈ UT := ⟨uw_4_107, ut_s (q := (yX11_isHerd, 12)) (List.mem_append_right _ (List.mem_append_left _ (List.mem_of_getElem? (i := 7) rfl))) rfl⟩
theorem uw_4_105 : (Jvm.Cond.methodLink "HideReader" (142 : Nat) ({ cls := "HideReader", name := "isHerd", desc := "(I)Z" } : Jvm.MethodName)) ∈ UT := ut_t (tm_4 (List.mem_of_getElem? (i := 105) rfl)) rfl
theorem uw_4_104 : (Jvm.Cond.code ({ cls := "HideReader", name := "brand", desc := "(I)I" } : Jvm.MethodName) prog_1_method_6_code (2 : Nat) (Option.some Jvm.ClassFile.FieldType.int)) ∈ UT := ut_t (tm_4 (List.mem_of_getElem? (i := 104) rfl)) rfl
theorem ck_X11_brand : ckC yX11_brand cX11_brand 2 (some .int) 1 := ⟨⟨uw_1_1, uw_4_104⟩, by decide +kernel, by decide +kernel, by decide⟩
theorem uw_1_177 : (Jvm.Cond.fieldLink "HideReader" (377 : Nat) "HideReader$Valley" "irons" "I") ∈ UT := ut_t (tm_1 (List.mem_of_getElem? (i := 177) rfl)) rfl
theorem uw_4_116 : (Jvm.Cond.code ({ cls := "HideReader", name := "isIron", desc := "(I)Z" } : Jvm.MethodName) prog_1_method_57_code (2 : Nat) (Option.some Jvm.ClassFile.FieldType.boolean)) ∈ UT := ut_t (tm_4 (List.mem_of_getElem? (i := 116) rfl)) rfl
theorem ck_X11_isIron : ckC yX11_isIron cX11_isIron 2 (some .boolean) 1 := ⟨⟨uw_1_1, uw_4_116⟩, by decide +kernel, by decide +kernel, by decide⟩
theorem uw_4_115 : (Jvm.Cond.instanceMethod ({ cls := "HideReader", name := "isIron", desc := "(I)Z" } : Jvm.MethodName)) ∈ UT := ut_t (tm_4 (List.mem_of_getElem? (i := 115) rfl)) rfl
theorem iv_X11_isIron : Cond.instanceMethod yX11_isIron ∈ UT ∧ Cond.selects (yX11_isIron).cls yX11_isIron yX11_isIron ∈ UT := ⟨uw_4_115, ut_s (q := (yX11_isIron, 12)) (List.mem_append_right _ (List.mem_append_left _ (List.mem_of_getElem? (i := 8) rfl))) rfl⟩
theorem uw_4_113 : (Jvm.Cond.methodLink "HideReader" (149 : Nat) ({ cls := "HideReader", name := "isIron", desc := "(I)Z" } : Jvm.MethodName)) ∈ UT := ut_t (tm_4 (List.mem_of_getElem? (i := 113) rfl)) rfl
theorem uw_4_112 : (Jvm.Cond.code ({ cls := "HideReader", name := "iron", desc := "(I)I" } : Jvm.MethodName) prog_1_method_7_code (2 : Nat) (Option.some Jvm.ClassFile.FieldType.int)) ∈ UT := ut_t (tm_4 (List.mem_of_getElem? (i := 112) rfl)) rfl
theorem ck_X11_iron : ckC yX11_iron cX11_iron 2 (some .int) 1 := ⟨⟨uw_1_1, uw_4_112⟩, by decide +kernel, by decide +kernel, by decide⟩
theorem uw_1_183 : (Jvm.Cond.fieldLink "HideReader" (308 : Nat) "HideReader$Valley" "beasts" "I") ∈ UT := ut_t (tm_1 (List.mem_of_getElem? (i := 183) rfl)) rfl
theorem uw_4_124 : (Jvm.Cond.code ({ cls := "HideReader", name := "isBeast", desc := "(I)Z" } : Jvm.MethodName) prog_1_method_58_code (2 : Nat) (Option.some Jvm.ClassFile.FieldType.boolean)) ∈ UT := ut_t (tm_4 (List.mem_of_getElem? (i := 124) rfl)) rfl
theorem ck_X11_isBeast : ckC yX11_isBeast cX11_isBeast 2 (some .boolean) 1 := ⟨⟨uw_1_1, uw_4_124⟩, by decide +kernel, by decide +kernel, by decide⟩
theorem uw_4_123 : (Jvm.Cond.instanceMethod ({ cls := "HideReader", name := "isBeast", desc := "(I)Z" } : Jvm.MethodName)) ∈ UT := ut_t (tm_4 (List.mem_of_getElem? (i := 123) rfl)) rfl
theorem iv_X11_isBeast : Cond.instanceMethod yX11_isBeast ∈ UT ∧ Cond.selects (yX11_isBeast).cls yX11_isBeast yX11_isBeast ∈ UT := ⟨uw_4_123, ut_s (q := (yX11_isBeast, 12)) (List.mem_append_right _ (List.mem_append_left _ (List.mem_of_getElem? (i := 9) rfl))) rfl⟩
theorem uw_4_121 : (Jvm.Cond.methodLink "HideReader" (155 : Nat) ({ cls := "HideReader", name := "isBeast", desc := "(I)Z" } : Jvm.MethodName)) ∈ UT := ut_t (tm_4 (List.mem_of_getElem? (i := 121) rfl)) rfl
theorem uw_4_120 : (Jvm.Cond.code ({ cls := "HideReader", name := "beast", desc := "(II)I" } : Jvm.MethodName) prog_1_method_8_code (4 : Nat) (Option.some Jvm.ClassFile.FieldType.int)) ∈ UT := ut_t (tm_4 (List.mem_of_getElem? (i := 120) rfl)) rfl
theorem ck_X11_beast : ckC yX11_beast cX11_beast 4 (some .int) 2 := ⟨⟨uw_1_1, uw_4_120⟩, by decide +kernel, by decide +kernel, by decide⟩
theorem uw_4_161 : (Jvm.Cond.code ({ cls := "HideReader", name := "age", desc := "(II)I" } : Jvm.MethodName) prog_1_method_9_code (3 : Nat) (Option.some Jvm.ClassFile.FieldType.int)) ∈ UT := ut_t (tm_4 (List.mem_of_getElem? (i := 161) rfl)) rfl
theorem ck_X11_age : ckC yX11_age cX11_age 3 (some .int) 2 := ⟨⟨uw_1_1, uw_4_161⟩, by decide +kernel, by decide +kernel, by decide⟩
theorem uw_4_172 : (Jvm.Cond.code ({ cls := "HideReader", name := "isMark", desc := "(I)Z" } : Jvm.MethodName) prog_1_method_61_code (1 : Nat) (Option.some Jvm.ClassFile.FieldType.boolean)) ∈ UT := ut_t (tm_4 (List.mem_of_getElem? (i := 172) rfl)) rfl
theorem ck_X11_isMark : ckC yX11_isMark cX11_isMark 1 (some .boolean) 1 := ⟨⟨uw_1_1, uw_4_172⟩, by decide +kernel, by decide +kernel, by decide⟩
theorem uw_4_171 : (Jvm.Cond.static ({ cls := "HideReader", name := "isMark", desc := "(I)Z" } : Jvm.MethodName)) ∈ UT := ut_t (tm_4 (List.mem_of_getElem? (i := 171) rfl)) rfl
theorem uw_4_170 : (Jvm.Cond.methodLink "HideReader" (193 : Nat) ({ cls := "HideReader", name := "isMark", desc := "(I)Z" } : Jvm.MethodName)) ∈ UT := ut_t (tm_4 (List.mem_of_getElem? (i := 170) rfl)) rfl
theorem uw_4_43 : (Jvm.Cond.code ({ cls := "HideReader$Lattice", name := "placements", desc := "()I" } : Jvm.MethodName) prog_6_method_5_code (1 : Nat) (Option.some Jvm.ClassFile.FieldType.int)) ∈ UT := ut_t (tm_4 (List.mem_of_getElem? (i := 43) rfl)) rfl
theorem ck_X4_placements : ckC yX4_placements cX4_placements 1 (some .int) 0 := ⟨⟨uw_1_10, uw_4_43⟩, by decide +kernel, by decide +kernel, by decide⟩
theorem uw_4_41 : (Jvm.Cond.instanceMethod ({ cls := "HideReader$Lattice", name := "placements", desc := "()I" } : Jvm.MethodName)) ∈ UT := ut_t (tm_4 (List.mem_of_getElem? (i := 41) rfl)) rfl
theorem uw_4_42 : (Jvm.Cond.selects "HideReader$Lattice" ({ cls := "HideReader$Lattice", name := "placements", desc := "()I" } : Jvm.MethodName) ({ cls := "HideReader$Lattice", name := "placements", desc := "()I" } : Jvm.MethodName)) ∈ UT := ut_t (tm_4 (List.mem_of_getElem? (i := 42) rfl)) rfl
theorem iv_X4_placements : Cond.instanceMethod yX4_placements ∈ UT ∧ Cond.selects (yX4_placements).cls yX4_placements yX4_placements ∈ UT := ⟨uw_4_41, uw_4_42⟩
theorem uw_4_177 : (Jvm.Cond.methodLink "HideReader" (380 : Nat) ({ cls := "HideReader$Lattice", name := "placements", desc := "()I" } : Jvm.MethodName)) ∈ UT := ut_t (tm_4 (List.mem_of_getElem? (i := 177) rfl)) rfl
theorem uw_4_176 : (Jvm.Cond.code ({ cls := "HideReader", name := "isPlacement", desc := "(I)Z" } : Jvm.MethodName) prog_1_method_59_code (2 : Nat) (Option.some Jvm.ClassFile.FieldType.boolean)) ∈ UT := ut_t (tm_4 (List.mem_of_getElem? (i := 176) rfl)) rfl
theorem ck_X11_isPlacement : ckC yX11_isPlacement cX11_isPlacement 2 (some .boolean) 1 := ⟨⟨uw_1_1, uw_4_176⟩, by decide +kernel, by decide +kernel, by decide⟩
theorem uw_4_175 : (Jvm.Cond.instanceMethod ({ cls := "HideReader", name := "isPlacement", desc := "(I)Z" } : Jvm.MethodName)) ∈ UT := ut_t (tm_4 (List.mem_of_getElem? (i := 175) rfl)) rfl
theorem iv_X11_isPlacement : Cond.instanceMethod yX11_isPlacement ∈ UT ∧ Cond.selects (yX11_isPlacement).cls yX11_isPlacement yX11_isPlacement ∈ UT := ⟨uw_4_175, ut_s (q := (yX11_isPlacement, 12)) (List.mem_append_right _ (List.mem_append_left _ (List.mem_of_getElem? (i := 12) rfl))) rfl⟩
theorem uw_4_173 : (Jvm.Cond.methodLink "HideReader" (196 : Nat) ({ cls := "HideReader", name := "isPlacement", desc := "(I)Z" } : Jvm.MethodName)) ∈ UT := ut_t (tm_4 (List.mem_of_getElem? (i := 173) rfl)) rfl
theorem uw_4_47 : (Jvm.Cond.code ({ cls := "HideReader$Lattice", name := "moved", desc := "(II)I" } : Jvm.MethodName) prog_6_method_6_code (4 : Nat) (Option.some Jvm.ClassFile.FieldType.int)) ∈ UT := ut_t (tm_4 (List.mem_of_getElem? (i := 47) rfl)) rfl
theorem ck_X4_moved : ckC yX4_moved cX4_moved 4 (some .int) 2 := ⟨⟨uw_1_10, uw_4_47⟩, by decide +kernel, by decide +kernel, by decide⟩
theorem uw_4_45 : (Jvm.Cond.instanceMethod ({ cls := "HideReader$Lattice", name := "moved", desc := "(II)I" } : Jvm.MethodName)) ∈ UT := ut_t (tm_4 (List.mem_of_getElem? (i := 45) rfl)) rfl
theorem uw_4_46 : (Jvm.Cond.selects "HideReader$Lattice" ({ cls := "HideReader$Lattice", name := "moved", desc := "(II)I" } : Jvm.MethodName) ({ cls := "HideReader$Lattice", name := "moved", desc := "(II)I" } : Jvm.MethodName)) ∈ UT := ut_t (tm_4 (List.mem_of_getElem? (i := 46) rfl)) rfl
theorem iv_X4_moved : Cond.instanceMethod yX4_moved ∈ UT ∧ Cond.selects (yX4_moved).cls yX4_moved yX4_moved ∈ UT := ⟨uw_4_45, uw_4_46⟩
theorem uw_4_178 : (Jvm.Cond.methodLink "HideReader" (199 : Nat) ({ cls := "HideReader$Lattice", name := "moved", desc := "(II)I" } : Jvm.MethodName)) ∈ UT := ut_t (tm_4 (List.mem_of_getElem? (i := 178) rfl)) rfl
theorem uw_4_169 : (Jvm.Cond.code ({ cls := "HideReader", name := "placed", desc := "(II)I" } : Jvm.MethodName) prog_1_method_10_code (3 : Nat) (Option.some Jvm.ClassFile.FieldType.int)) ∈ UT := ut_t (tm_4 (List.mem_of_getElem? (i := 169) rfl)) rfl
theorem ck_X11_placed : ckC yX11_placed cX11_placed 3 (some .int) 2 := ⟨⟨uw_1_1, uw_4_169⟩, by decide +kernel, by decide +kernel, by decide⟩
theorem uw_4_56 : (Jvm.Cond.methodLink "HideReader$Lattice" (33 : Nat) ({ cls := "HideReader$Lattice", name := "moved", desc := "(II)I" } : Jvm.MethodName)) ∈ UT := ut_t (tm_4 (List.mem_of_getElem? (i := 56) rfl)) rfl
theorem uw_4_67 : (Jvm.Cond.code ({ cls := "HideReader$Lattice", name := "fits", desc := "(II)Z" } : Jvm.MethodName) prog_6_method_9_code (4 : Nat) (Option.some Jvm.ClassFile.FieldType.boolean)) ∈ UT := ut_t (tm_4 (List.mem_of_getElem? (i := 67) rfl)) rfl
theorem ck_X4_fits : ckC yX4_fits cX4_fits 4 (some .boolean) 2 := ⟨⟨uw_1_10, uw_4_67⟩, by decide +kernel, by decide +kernel, by decide⟩
theorem uw_4_65 : (Jvm.Cond.instanceMethod ({ cls := "HideReader$Lattice", name := "fits", desc := "(II)Z" } : Jvm.MethodName)) ∈ UT := ut_t (tm_4 (List.mem_of_getElem? (i := 65) rfl)) rfl
theorem uw_4_66 : (Jvm.Cond.selects "HideReader$Lattice" ({ cls := "HideReader$Lattice", name := "fits", desc := "(II)Z" } : Jvm.MethodName) ({ cls := "HideReader$Lattice", name := "fits", desc := "(II)Z" } : Jvm.MethodName)) ∈ UT := ut_t (tm_4 (List.mem_of_getElem? (i := 66) rfl)) rfl
theorem iv_X4_fits : Cond.instanceMethod yX4_fits ∈ UT ∧ Cond.selects (yX4_fits).cls yX4_fits yX4_fits ∈ UT := ⟨uw_4_65, uw_4_66⟩
theorem uw_4_183 : (Jvm.Cond.methodLink "HideReader" (202 : Nat) ({ cls := "HideReader$Lattice", name := "fits", desc := "(II)Z" } : Jvm.MethodName)) ∈ UT := ut_t (tm_4 (List.mem_of_getElem? (i := 183) rfl)) rfl
theorem uw_4_182 : (Jvm.Cond.code ({ cls := "HideReader", name := "under", desc := "(II)I" } : Jvm.MethodName) prog_1_method_11_code (3 : Nat) (Option.some Jvm.ClassFile.FieldType.int)) ∈ UT := ut_t (tm_4 (List.mem_of_getElem? (i := 182) rfl)) rfl
theorem ck_X11_under : ckC yX11_under cX11_under 3 (some .int) 2 := ⟨⟨uw_1_1, uw_4_182⟩, by decide +kernel, by decide +kernel, by decide⟩
theorem uw_4_125 : (Jvm.Cond.methodLink "HideReader" (158 : Nat) ({ cls := "HideReader$History", name := "now", desc := "()LHideReader$Pasture;" } : Jvm.MethodName)) ∈ UT := ut_t (tm_4 (List.mem_of_getElem? (i := 125) rfl)) rfl
theorem uw_2_96 : (Jvm.Cond.fieldLink "HideReader" (206 : Nat) "HideReader$Pasture" "seasons" "I") ∈ UT := ut_t (tm_2 (List.mem_of_getElem? (i := 96) rfl)) rfl
theorem uw_4_196 : (Jvm.Cond.methodLink "HideReader$Pasture" (28 : Nat) ({ cls := "java/lang/System", name := "arraycopy", desc := "(Ljava/lang/Object;ILjava/lang/Object;II)V" } : Jvm.MethodName)) ∈ UT := ut_t (tm_4 (List.mem_of_getElem? (i := 196) rfl)) rfl
theorem uw_4_195 : (Jvm.Cond.code ({ cls := "HideReader$Pasture", name := "copyFrom", desc := "(LHideReader$Pasture;)V" } : Jvm.MethodName) prog_7_method_2_code (2 : Nat) (Option.none : Option Jvm.ClassFile.FieldType)) ∈ UT := ut_t (tm_4 (List.mem_of_getElem? (i := 195) rfl)) rfl
theorem ck_X5_copyFrom : ckC yX5_copyFrom cX5_copyFrom 2 none 1 := ⟨⟨uw_1_13, uw_4_195⟩, by decide +kernel, by decide +kernel, by decide⟩
theorem uw_4_193 : (Jvm.Cond.instanceMethod ({ cls := "HideReader$Pasture", name := "copyFrom", desc := "(LHideReader$Pasture;)V" } : Jvm.MethodName)) ∈ UT := ut_t (tm_4 (List.mem_of_getElem? (i := 193) rfl)) rfl
theorem uw_4_194 : (Jvm.Cond.selects "HideReader$Pasture" ({ cls := "HideReader$Pasture", name := "copyFrom", desc := "(LHideReader$Pasture;)V" } : Jvm.MethodName) ({ cls := "HideReader$Pasture", name := "copyFrom", desc := "(LHideReader$Pasture;)V" } : Jvm.MethodName)) ∈ UT := ut_t (tm_4 (List.mem_of_getElem? (i := 194) rfl)) rfl
theorem iv_X5_copyFrom : Cond.instanceMethod yX5_copyFrom ∈ UT ∧ Cond.selects (yX5_copyFrom).cls yX5_copyFrom yX5_copyFrom ∈ UT := ⟨uw_4_193, uw_4_194⟩
theorem uw_4_192 : (Jvm.Cond.methodLink "HideReader$History" (46 : Nat) ({ cls := "HideReader$Pasture", name := "copyFrom", desc := "(LHideReader$Pasture;)V" } : Jvm.MethodName)) ∈ UT := ut_t (tm_4 (List.mem_of_getElem? (i := 192) rfl)) rfl
theorem uw_4_197 : (Jvm.Cond.methodLink "HideReader$History" (50 : Nat) ({ cls := "java/lang/Math", name := "min", desc := "(II)I" } : Jvm.MethodName)) ∈ UT := ut_t (tm_4 (List.mem_of_getElem? (i := 197) rfl)) rfl
theorem uw_3_115 : (Jvm.Cond.static ({ cls := "java/lang/Math", name := "min", desc := "(II)I" } : Jvm.MethodName)) ∈ UT := ut_t (tm_3 (List.mem_of_getElem? (i := 115) rfl)) rfl
theorem uw_1_18 : (Jvm.Cond.initialized "java/lang/Math") ∈ UT := ut_t (tm_1 (List.mem_of_getElem? (i := 18) rfl)) rfl
theorem uw_3_116 : (Jvm.Cond.code ({ cls := "java/lang/Math", name := "min", desc := "(II)I" } : Jvm.MethodName) prog_17_method_69_code (2 : Nat) (Option.some Jvm.ClassFile.FieldType.int)) ∈ UT := ut_t (tm_3 (List.mem_of_getElem? (i := 116) rfl)) rfl
theorem uw_4_191 : (Jvm.Cond.code ({ cls := "HideReader$History", name := "beginAct", desc := "()LHideReader$Pasture;" } : Jvm.MethodName) prog_5_method_7_code (2 : Nat) (Option.some (Jvm.ClassFile.FieldType.object "HideReader$Pasture"))) ∈ UT := ut_t (tm_4 (List.mem_of_getElem? (i := 191) rfl)) rfl
theorem ck_X3_beginAct : ckC yX3_beginAct cX3_beginAct 2 (some (.object "HideReader$Pasture")) 0 := ⟨⟨uw_1_12, uw_4_191⟩, by decide +kernel, by decide +kernel, by decide⟩
theorem uw_4_189 : (Jvm.Cond.instanceMethod ({ cls := "HideReader$History", name := "beginAct", desc := "()LHideReader$Pasture;" } : Jvm.MethodName)) ∈ UT := ut_t (tm_4 (List.mem_of_getElem? (i := 189) rfl)) rfl
theorem uw_4_190 : (Jvm.Cond.selects "HideReader$History" ({ cls := "HideReader$History", name := "beginAct", desc := "()LHideReader$Pasture;" } : Jvm.MethodName) ({ cls := "HideReader$History", name := "beginAct", desc := "()LHideReader$Pasture;" } : Jvm.MethodName)) ∈ UT := ut_t (tm_4 (List.mem_of_getElem? (i := 190) rfl)) rfl
theorem iv_X3_beginAct : Cond.instanceMethod yX3_beginAct ∈ UT ∧ Cond.selects (yX3_beginAct).cls yX3_beginAct yX3_beginAct ∈ UT := ⟨uw_4_189, uw_4_190⟩
theorem uw_4_188 : (Jvm.Cond.methodLink "HideReader" (209 : Nat) ({ cls := "HideReader$History", name := "beginAct", desc := "()LHideReader$Pasture;" } : Jvm.MethodName)) ∈ UT := ut_t (tm_4 (List.mem_of_getElem? (i := 188) rfl)) rfl
theorem uw_4_202 : (Jvm.Cond.methodLink "HideReader$Pasture" (70 : Nat) ({ cls := "java/lang/Math", name := "min", desc := "(II)I" } : Jvm.MethodName)) ∈ UT := ut_t (tm_4 (List.mem_of_getElem? (i := 202) rfl)) rfl
theorem uw_4_201 : (Jvm.Cond.code ({ cls := "HideReader$Pasture", name := "growOld", desc := "()V" } : Jvm.MethodName) prog_7_method_8_code (2 : Nat) (Option.none : Option Jvm.ClassFile.FieldType)) ∈ UT := ut_t (tm_4 (List.mem_of_getElem? (i := 201) rfl)) rfl
theorem ck_X5_growOld : ckC yX5_growOld cX5_growOld 2 none 0 := ⟨⟨uw_1_13, uw_4_201⟩, by decide +kernel, by decide +kernel, by decide⟩
theorem uw_4_199 : (Jvm.Cond.instanceMethod ({ cls := "HideReader$Pasture", name := "growOld", desc := "()V" } : Jvm.MethodName)) ∈ UT := ut_t (tm_4 (List.mem_of_getElem? (i := 199) rfl)) rfl
theorem uw_4_200 : (Jvm.Cond.selects "HideReader$Pasture" ({ cls := "HideReader$Pasture", name := "growOld", desc := "()V" } : Jvm.MethodName) ({ cls := "HideReader$Pasture", name := "growOld", desc := "()V" } : Jvm.MethodName)) ∈ UT := ut_t (tm_4 (List.mem_of_getElem? (i := 200) rfl)) rfl
theorem iv_X5_growOld : Cond.instanceMethod yX5_growOld ∈ UT ∧ Cond.selects (yX5_growOld).cls yX5_growOld yX5_growOld ∈ UT := ⟨uw_4_199, uw_4_200⟩
theorem uw_4_198 : (Jvm.Cond.methodLink "HideReader" (212 : Nat) ({ cls := "HideReader$Pasture", name := "growOld", desc := "()V" } : Jvm.MethodName)) ∈ UT := ut_t (tm_4 (List.mem_of_getElem? (i := 198) rfl)) rfl
theorem uw_4_206 : (Jvm.Cond.code ({ cls := "HideReader$Pasture", name := "passNights", desc := "(LHideReader$Valley;)I" } : Jvm.MethodName) prog_7_method_9_code (4 : Nat) (Option.some Jvm.ClassFile.FieldType.int)) ∈ UT := ut_t (tm_4 (List.mem_of_getElem? (i := 206) rfl)) rfl
theorem ck_X5_passNights : ckC yX5_passNights cX5_passNights 4 (some .int) 1 := ⟨⟨uw_1_13, uw_4_206⟩, by decide +kernel, by decide +kernel, by decide⟩
theorem uw_4_204 : (Jvm.Cond.instanceMethod ({ cls := "HideReader$Pasture", name := "passNights", desc := "(LHideReader$Valley;)I" } : Jvm.MethodName)) ∈ UT := ut_t (tm_4 (List.mem_of_getElem? (i := 204) rfl)) rfl
theorem uw_4_205 : (Jvm.Cond.selects "HideReader$Pasture" ({ cls := "HideReader$Pasture", name := "passNights", desc := "(LHideReader$Valley;)I" } : Jvm.MethodName) ({ cls := "HideReader$Pasture", name := "passNights", desc := "(LHideReader$Valley;)I" } : Jvm.MethodName)) ∈ UT := ut_t (tm_4 (List.mem_of_getElem? (i := 205) rfl)) rfl
theorem iv_X5_passNights : Cond.instanceMethod yX5_passNights ∈ UT ∧ Cond.selects (yX5_passNights).cls yX5_passNights yX5_passNights ∈ UT := ⟨uw_4_204, uw_4_205⟩
theorem uw_4_203 : (Jvm.Cond.methodLink "HideReader" (215 : Nat) ({ cls := "HideReader$Pasture", name := "passNights", desc := "(LHideReader$Valley;)I" } : Jvm.MethodName)) ∈ UT := ut_t (tm_4 (List.mem_of_getElem? (i := 203) rfl)) rfl
theorem uw_4_187 : (Jvm.Cond.code ({ cls := "HideReader", name := "season", desc := "()I" } : Jvm.MethodName) prog_1_method_12_code (2 : Nat) (Option.some Jvm.ClassFile.FieldType.int)) ∈ UT := ut_t (tm_4 (List.mem_of_getElem? (i := 187) rfl)) rfl
theorem ck_X11_season : ckC yX11_season cX11_season 2 (some .int) 0 := ⟨⟨uw_1_1, uw_4_187⟩, by decide +kernel, by decide +kernel, by decide⟩
theorem uw_4_215 : (Jvm.Cond.code ({ cls := "HideReader", name := "burn", desc := "(III)I" } : Jvm.MethodName) prog_1_method_13_code (4 : Nat) (Option.some Jvm.ClassFile.FieldType.int)) ∈ UT := ut_t (tm_4 (List.mem_of_getElem? (i := 215) rfl)) rfl
theorem ck_X11_burn : ckC yX11_burn cX11_burn 4 (some .int) 3 := ⟨⟨uw_1_1, uw_4_215⟩, by decide +kernel, by decide +kernel, by decide⟩
theorem uw_4_224 : (Jvm.Cond.code ({ cls := "HideReader", name := "sell", desc := "(II)I" } : Jvm.MethodName) prog_1_method_14_code (5 : Nat) (Option.some Jvm.ClassFile.FieldType.int)) ∈ UT := ut_t (tm_4 (List.mem_of_getElem? (i := 224) rfl)) rfl
theorem ck_X11_sell : ckC yX11_sell cX11_sell 5 (some .int) 2 := ⟨⟨uw_1_1, uw_4_224⟩, by decide +kernel, by decide +kernel, by decide⟩
theorem uw_4_228 : (Jvm.Cond.code ({ cls := "HideReader", name := "clean", desc := "(I)I" } : Jvm.MethodName) prog_1_method_15_code (5 : Nat) (Option.some Jvm.ClassFile.FieldType.int)) ∈ UT := ut_t (tm_4 (List.mem_of_getElem? (i := 228) rfl)) rfl
theorem ck_X11_clean : ckC yX11_clean cX11_clean 5 (some .int) 1 := ⟨⟨uw_1_1, uw_4_228⟩, by decide +kernel, by decide +kernel, by decide⟩
theorem uw_4_238 : (Jvm.Cond.code ({ cls := "HideReader$History", name := "stepBack", desc := "()Z" } : Jvm.MethodName) prog_5_method_8_code (1 : Nat) (Option.some Jvm.ClassFile.FieldType.boolean)) ∈ UT := ut_t (tm_4 (List.mem_of_getElem? (i := 238) rfl)) rfl
theorem ck_X3_stepBack : ckC yX3_stepBack cX3_stepBack 1 (some .boolean) 0 := ⟨⟨uw_1_12, uw_4_238⟩, by decide +kernel, by decide +kernel, by decide⟩
theorem uw_4_236 : (Jvm.Cond.instanceMethod ({ cls := "HideReader$History", name := "stepBack", desc := "()Z" } : Jvm.MethodName)) ∈ UT := ut_t (tm_4 (List.mem_of_getElem? (i := 236) rfl)) rfl
theorem uw_4_237 : (Jvm.Cond.selects "HideReader$History" ({ cls := "HideReader$History", name := "stepBack", desc := "()Z" } : Jvm.MethodName) ({ cls := "HideReader$History", name := "stepBack", desc := "()Z" } : Jvm.MethodName)) ∈ UT := ut_t (tm_4 (List.mem_of_getElem? (i := 237) rfl)) rfl
theorem iv_X3_stepBack : Cond.instanceMethod yX3_stepBack ∈ UT ∧ Cond.selects (yX3_stepBack).cls yX3_stepBack yX3_stepBack ∈ UT := ⟨uw_4_236, uw_4_237⟩
theorem uw_4_235 : (Jvm.Cond.methodLink "HideReader" (232 : Nat) ({ cls := "HideReader$History", name := "stepBack", desc := "()Z" } : Jvm.MethodName)) ∈ UT := ut_t (tm_4 (List.mem_of_getElem? (i := 235) rfl)) rfl
theorem uw_4_234 : (Jvm.Cond.code ({ cls := "HideReader", name := "undo", desc := "()Z" } : Jvm.MethodName) prog_1_method_16_code (1 : Nat) (Option.some Jvm.ClassFile.FieldType.boolean)) ∈ UT := ut_t (tm_4 (List.mem_of_getElem? (i := 234) rfl)) rfl
theorem ck_X11_undo : ckC yX11_undo cX11_undo 1 (some .boolean) 0 := ⟨⟨uw_1_1, uw_4_234⟩, by decide +kernel, by decide +kernel, by decide⟩
theorem uw_5_6 : (Jvm.Cond.code ({ cls := "HideReader$History", name := "stepOn", desc := "()Z" } : Jvm.MethodName) prog_5_method_9_code (1 : Nat) (Option.some Jvm.ClassFile.FieldType.boolean)) ∈ UT := ut_t (tm_5 (List.mem_of_getElem? (i := 6) rfl)) rfl
theorem ck_X3_stepOn : ckC yX3_stepOn cX3_stepOn 1 (some .boolean) 0 := ⟨⟨uw_1_12, uw_5_6⟩, by decide +kernel, by decide +kernel, by decide⟩
theorem uw_5_4 : (Jvm.Cond.instanceMethod ({ cls := "HideReader$History", name := "stepOn", desc := "()Z" } : Jvm.MethodName)) ∈ UT := ut_t (tm_5 (List.mem_of_getElem? (i := 4) rfl)) rfl
theorem uw_5_5 : (Jvm.Cond.selects "HideReader$History" ({ cls := "HideReader$History", name := "stepOn", desc := "()Z" } : Jvm.MethodName) ({ cls := "HideReader$History", name := "stepOn", desc := "()Z" } : Jvm.MethodName)) ∈ UT := ut_t (tm_5 (List.mem_of_getElem? (i := 5) rfl)) rfl
theorem iv_X3_stepOn : Cond.instanceMethod yX3_stepOn ∈ UT ∧ Cond.selects (yX3_stepOn).cls yX3_stepOn yX3_stepOn ∈ UT := ⟨uw_5_4, uw_5_5⟩
theorem uw_5_3 : (Jvm.Cond.methodLink "HideReader" (235 : Nat) ({ cls := "HideReader$History", name := "stepOn", desc := "()Z" } : Jvm.MethodName)) ∈ UT := ut_t (tm_5 (List.mem_of_getElem? (i := 3) rfl)) rfl
theorem uw_5_2 : (Jvm.Cond.code ({ cls := "HideReader", name := "redo", desc := "()Z" } : Jvm.MethodName) prog_1_method_17_code (1 : Nat) (Option.some Jvm.ClassFile.FieldType.boolean)) ∈ UT := ut_t (tm_5 (List.mem_of_getElem? (i := 2) rfl)) rfl
theorem ck_X11_redo : ckC yX11_redo cX11_redo 1 (some .boolean) 0 := ⟨⟨uw_1_1, uw_5_2⟩, by decide +kernel, by decide +kernel, by decide⟩
theorem uw_5_28 : (Jvm.Cond.code ({ cls := "HideReader", name := "forge", desc := "(II)I" } : Jvm.MethodName) prog_1_method_19_code (5 : Nat) (Option.some Jvm.ClassFile.FieldType.int)) ∈ UT := ut_t (tm_5 (List.mem_of_getElem? (i := 28) rfl)) rfl
theorem ck_X11_forge : ckC yX11_forge cX11_forge 5 (some .int) 2 := ⟨⟨uw_1_1, uw_5_28⟩, by decide +kernel, by decide +kernel, by decide⟩
theorem uw_1_22 : (Jvm.Cond.initialized "java/util/Arrays") ∈ UT := ut_t (tm_1 (List.mem_of_getElem? (i := 22) rfl)) rfl
theorem uw_5_53 : (Jvm.Cond.code ({ cls := "java/util/Arrays", name := "fill", desc := "([II)V" } : Jvm.MethodName) prog_22_method_103_code (4 : Nat) (Option.none : Option Jvm.ClassFile.FieldType)) ∈ UT := ut_t (tm_5 (List.mem_of_getElem? (i := 53) rfl)) rfl
theorem ck_J7_fill_53178 : ckC yJ7_fill_53178 cJ7_fill_53178 4 none 2 := ⟨⟨uw_1_22, uw_5_53⟩, by decide +kernel, by decide +kernel, by decide⟩
theorem uw_5_52 : (Jvm.Cond.static ({ cls := "java/util/Arrays", name := "fill", desc := "([II)V" } : Jvm.MethodName)) ∈ UT := ut_t (tm_5 (List.mem_of_getElem? (i := 52) rfl)) rfl
theorem uw_5_51 : (Jvm.Cond.methodLink "HideReader$Book" (84 : Nat) ({ cls := "java/util/Arrays", name := "fill", desc := "([II)V" } : Jvm.MethodName)) ∈ UT := ut_t (tm_5 (List.mem_of_getElem? (i := 51) rfl)) rfl
theorem uw_5_50 : (Jvm.Cond.code ({ cls := "HideReader$Book", name := "measureHeights", desc := "()I" } : Jvm.MethodName) prog_3_method_10_code (4 : Nat) (Option.some Jvm.ClassFile.FieldType.int)) ∈ UT := ut_t (tm_5 (List.mem_of_getElem? (i := 50) rfl)) rfl
theorem ck_X1_measureHeights : ckC yX1_measureHeights cX1_measureHeights 4 (some .int) 0 := ⟨⟨uw_1_14, uw_5_50⟩, by decide +kernel, by decide +kernel, by decide⟩
theorem uw_5_49 : (Jvm.Cond.instanceMethod ({ cls := "HideReader$Book", name := "measureHeights", desc := "()I" } : Jvm.MethodName)) ∈ UT := ut_t (tm_5 (List.mem_of_getElem? (i := 49) rfl)) rfl
theorem iv_X1_measureHeights : Cond.instanceMethod yX1_measureHeights ∈ UT ∧ Cond.selects (yX1_measureHeights).cls yX1_measureHeights yX1_measureHeights ∈ UT := ⟨uw_5_49, ut_s (q := (yX1_measureHeights, 8)) (List.mem_append_right _ (List.mem_append_right _ (List.mem_append_left _ (List.mem_of_getElem? (i := 0) rfl)))) rfl⟩
theorem uw_5_47 : (Jvm.Cond.methodLink "HideReader$Book" (78 : Nat) ({ cls := "HideReader$Book", name := "measureHeights", desc := "()I" } : Jvm.MethodName)) ∈ UT := ut_t (tm_5 (List.mem_of_getElem? (i := 47) rfl)) rfl
theorem uw_5_62 : (Jvm.Cond.code ({ cls := "HideReader$Book", name := "allHerds", desc := "()I" } : Jvm.MethodName) prog_3_method_4_code (1 : Nat) (Option.some Jvm.ClassFile.FieldType.int)) ∈ UT := ut_t (tm_5 (List.mem_of_getElem? (i := 62) rfl)) rfl
theorem ck_X1_allHerds : ckC yX1_allHerds cX1_allHerds 1 (some .int) 0 := ⟨⟨uw_1_14, uw_5_62⟩, by decide +kernel, by decide +kernel, by decide⟩
theorem uw_5_61 : (Jvm.Cond.instanceMethod ({ cls := "HideReader$Book", name := "allHerds", desc := "()I" } : Jvm.MethodName)) ∈ UT := ut_t (tm_5 (List.mem_of_getElem? (i := 61) rfl)) rfl
theorem iv_X1_allHerds : Cond.instanceMethod yX1_allHerds ∈ UT ∧ Cond.selects (yX1_allHerds).cls yX1_allHerds yX1_allHerds ∈ UT := ⟨uw_5_61, ut_s (q := (yX1_allHerds, 8)) (List.mem_append_right _ (List.mem_append_right _ (List.mem_append_left _ (List.mem_of_getElem? (i := 2) rfl)))) rfl⟩
theorem uw_5_59 : (Jvm.Cond.methodLink "HideReader$Book" (69 : Nat) ({ cls := "HideReader$Book", name := "allHerds", desc := "()I" } : Jvm.MethodName)) ∈ UT := ut_t (tm_5 (List.mem_of_getElem? (i := 59) rfl)) rfl
theorem uw_5_46 : (Jvm.Cond.code ({ cls := "HideReader$Book", name := "longestChain", desc := "([I)I" } : Jvm.MethodName) prog_3_method_9_code (6 : Nat) (Option.some Jvm.ClassFile.FieldType.int)) ∈ UT := ut_t (tm_5 (List.mem_of_getElem? (i := 46) rfl)) rfl
theorem ck_X1_longestChain : ckC yX1_longestChain cX1_longestChain 6 (some .int) 1 := ⟨⟨uw_1_14, uw_5_46⟩, by decide +kernel, by decide +kernel, by decide⟩
theorem uw_5_44 : (Jvm.Cond.instanceMethod ({ cls := "HideReader$Book", name := "longestChain", desc := "([I)I" } : Jvm.MethodName)) ∈ UT := ut_t (tm_5 (List.mem_of_getElem? (i := 44) rfl)) rfl
theorem uw_5_45 : (Jvm.Cond.selects "HideReader$Book" ({ cls := "HideReader$Book", name := "longestChain", desc := "([I)I" } : Jvm.MethodName) ({ cls := "HideReader$Book", name := "longestChain", desc := "([I)I" } : Jvm.MethodName)) ∈ UT := ut_t (tm_5 (List.mem_of_getElem? (i := 45) rfl)) rfl
theorem iv_X1_longestChain : Cond.instanceMethod yX1_longestChain ∈ UT ∧ Cond.selects (yX1_longestChain).cls yX1_longestChain yX1_longestChain ∈ UT := ⟨uw_5_44, uw_5_45⟩
theorem uw_5_43 : (Jvm.Cond.methodLink "HideReader" (245 : Nat) ({ cls := "HideReader$Book", name := "longestChain", desc := "([I)I" } : Jvm.MethodName)) ∈ UT := ut_t (tm_5 (List.mem_of_getElem? (i := 43) rfl)) rfl
theorem uw_5_42 : (Jvm.Cond.code ({ cls := "HideReader", name := "chain", desc := "()I" } : Jvm.MethodName) prog_1_method_20_code (1 : Nat) (Option.some Jvm.ClassFile.FieldType.int)) ∈ UT := ut_t (tm_5 (List.mem_of_getElem? (i := 42) rfl)) rfl
theorem ck_X11_chain : ckC yX11_chain cX11_chain 1 (some .int) 0 := ⟨⟨uw_1_1, uw_5_42⟩, by decide +kernel, by decide +kernel, by decide⟩
theorem uw_5_74 : (Jvm.Cond.code ({ cls := "HideReader$Book", name := "bottomHerds", desc := "()I" } : Jvm.MethodName) prog_3_method_5_code (3 : Nat) (Option.some Jvm.ClassFile.FieldType.int)) ∈ UT := ut_t (tm_5 (List.mem_of_getElem? (i := 74) rfl)) rfl
theorem ck_X1_bottomHerds : ckC yX1_bottomHerds cX1_bottomHerds 3 (some .int) 0 := ⟨⟨uw_1_14, uw_5_74⟩, by decide +kernel, by decide +kernel, by decide⟩
theorem uw_5_72 : (Jvm.Cond.instanceMethod ({ cls := "HideReader$Book", name := "bottomHerds", desc := "()I" } : Jvm.MethodName)) ∈ UT := ut_t (tm_5 (List.mem_of_getElem? (i := 72) rfl)) rfl
theorem uw_5_73 : (Jvm.Cond.selects "HideReader$Book" ({ cls := "HideReader$Book", name := "bottomHerds", desc := "()I" } : Jvm.MethodName) ({ cls := "HideReader$Book", name := "bottomHerds", desc := "()I" } : Jvm.MethodName)) ∈ UT := ut_t (tm_5 (List.mem_of_getElem? (i := 73) rfl)) rfl
theorem iv_X1_bottomHerds : Cond.instanceMethod yX1_bottomHerds ∈ UT ∧ Cond.selects (yX1_bottomHerds).cls yX1_bottomHerds yX1_bottomHerds ∈ UT := ⟨uw_5_72, uw_5_73⟩
theorem uw_5_71 : (Jvm.Cond.methodLink "HideReader" (249 : Nat) ({ cls := "HideReader$Book", name := "bottomHerds", desc := "()I" } : Jvm.MethodName)) ∈ UT := ut_t (tm_5 (List.mem_of_getElem? (i := 71) rfl)) rfl
theorem uw_5_70 : (Jvm.Cond.code ({ cls := "HideReader", name := "lowest", desc := "()I" } : Jvm.MethodName) prog_1_method_21_code (1 : Nat) (Option.some Jvm.ClassFile.FieldType.int)) ∈ UT := ut_t (tm_5 (List.mem_of_getElem? (i := 70) rfl)) rfl
theorem ck_X11_lowest : ckC yX11_lowest cX11_lowest 1 (some .int) 0 := ⟨⟨uw_1_1, uw_5_70⟩, by decide +kernel, by decide +kernel, by decide⟩
theorem uw_5_82 : (Jvm.Cond.code ({ cls := "HideReader$Book", name := "topHerds", desc := "()I" } : Jvm.MethodName) prog_3_method_6_code (3 : Nat) (Option.some Jvm.ClassFile.FieldType.int)) ∈ UT := ut_t (tm_5 (List.mem_of_getElem? (i := 82) rfl)) rfl
theorem ck_X1_topHerds : ckC yX1_topHerds cX1_topHerds 3 (some .int) 0 := ⟨⟨uw_1_14, uw_5_82⟩, by decide +kernel, by decide +kernel, by decide⟩
theorem uw_5_80 : (Jvm.Cond.instanceMethod ({ cls := "HideReader$Book", name := "topHerds", desc := "()I" } : Jvm.MethodName)) ∈ UT := ut_t (tm_5 (List.mem_of_getElem? (i := 80) rfl)) rfl
theorem uw_5_81 : (Jvm.Cond.selects "HideReader$Book" ({ cls := "HideReader$Book", name := "topHerds", desc := "()I" } : Jvm.MethodName) ({ cls := "HideReader$Book", name := "topHerds", desc := "()I" } : Jvm.MethodName)) ∈ UT := ut_t (tm_5 (List.mem_of_getElem? (i := 81) rfl)) rfl
theorem iv_X1_topHerds : Cond.instanceMethod yX1_topHerds ∈ UT ∧ Cond.selects (yX1_topHerds).cls yX1_topHerds yX1_topHerds ∈ UT := ⟨uw_5_80, uw_5_81⟩
theorem uw_5_79 : (Jvm.Cond.methodLink "HideReader" (252 : Nat) ({ cls := "HideReader$Book", name := "topHerds", desc := "()I" } : Jvm.MethodName)) ∈ UT := ut_t (tm_5 (List.mem_of_getElem? (i := 79) rfl)) rfl
theorem uw_5_78 : (Jvm.Cond.code ({ cls := "HideReader", name := "highest", desc := "()I" } : Jvm.MethodName) prog_1_method_22_code (1 : Nat) (Option.some Jvm.ClassFile.FieldType.int)) ∈ UT := ut_t (tm_5 (List.mem_of_getElem? (i := 78) rfl)) rfl
theorem ck_X11_highest : ckC yX11_highest cX11_highest 1 (some .int) 0 := ⟨⟨uw_1_1, uw_5_78⟩, by decide +kernel, by decide +kernel, by decide⟩
theorem uw_5_99 : (Jvm.Cond.code ({ cls := "HideReader", name := "origins", desc := "(I)I" } : Jvm.MethodName) prog_1_method_24_code (2 : Nat) (Option.some Jvm.ClassFile.FieldType.int)) ∈ UT := ut_t (tm_5 (List.mem_of_getElem? (i := 99) rfl)) rfl
theorem ck_X11_origins : ckC yX11_origins cX11_origins 2 (some .int) 1 := ⟨⟨uw_1_1, uw_5_99⟩, by decide +kernel, by decide +kernel, by decide⟩
theorem uw_5_108 : (Jvm.Cond.code ({ cls := "HideReader", name := "read", desc := "(I)I" } : Jvm.MethodName) prog_1_method_25_code (2 : Nat) (Option.some Jvm.ClassFile.FieldType.int)) ∈ UT := ut_t (tm_5 (List.mem_of_getElem? (i := 108) rfl)) rfl
theorem ck_X11_read : ckC yX11_read cX11_read 2 (some .int) 1 := ⟨⟨uw_1_1, uw_5_108⟩, by decide +kernel, by decide +kernel, by decide⟩
theorem uw_5_121 : (Jvm.Cond.code ({ cls := "HideReader", name := "claim", desc := "(I)I" } : Jvm.MethodName) prog_1_method_26_code (2 : Nat) (Option.some Jvm.ClassFile.FieldType.int)) ∈ UT := ut_t (tm_5 (List.mem_of_getElem? (i := 121) rfl)) rfl
theorem ck_X11_claim : ckC yX11_claim cX11_claim 2 (some .int) 1 := ⟨⟨uw_1_1, uw_5_121⟩, by decide +kernel, by decide +kernel, by decide⟩
theorem uw_5_133 : (Jvm.Cond.code ({ cls := "HideReader$Book", name := "safeHerds", desc := "()I" } : Jvm.MethodName) prog_3_method_15_code (4 : Nat) (Option.some Jvm.ClassFile.FieldType.int)) ∈ UT := ut_t (tm_5 (List.mem_of_getElem? (i := 133) rfl)) rfl
theorem ck_X1_safeHerds : ckC yX1_safeHerds cX1_safeHerds 4 (some .int) 0 := ⟨⟨uw_1_14, uw_5_133⟩, by decide +kernel, by decide +kernel, by decide⟩
theorem uw_5_131 : (Jvm.Cond.instanceMethod ({ cls := "HideReader$Book", name := "safeHerds", desc := "()I" } : Jvm.MethodName)) ∈ UT := ut_t (tm_5 (List.mem_of_getElem? (i := 131) rfl)) rfl
theorem uw_5_132 : (Jvm.Cond.selects "HideReader$Book" ({ cls := "HideReader$Book", name := "safeHerds", desc := "()I" } : Jvm.MethodName) ({ cls := "HideReader$Book", name := "safeHerds", desc := "()I" } : Jvm.MethodName)) ∈ UT := ut_t (tm_5 (List.mem_of_getElem? (i := 132) rfl)) rfl
theorem iv_X1_safeHerds : Cond.instanceMethod yX1_safeHerds ∈ UT ∧ Cond.selects (yX1_safeHerds).cls yX1_safeHerds yX1_safeHerds ∈ UT := ⟨uw_5_131, uw_5_132⟩
theorem uw_5_130 : (Jvm.Cond.methodLink "HideReader" (268 : Nat) ({ cls := "HideReader$Book", name := "safeHerds", desc := "()I" } : Jvm.MethodName)) ∈ UT := ut_t (tm_5 (List.mem_of_getElem? (i := 130) rfl)) rfl
theorem uw_5_129 : (Jvm.Cond.code ({ cls := "HideReader", name := "safe", desc := "()I" } : Jvm.MethodName) prog_1_method_27_code (1 : Nat) (Option.some Jvm.ClassFile.FieldType.int)) ∈ UT := ut_t (tm_5 (List.mem_of_getElem? (i := 129) rfl)) rfl
theorem ck_X11_safe : ckC yX11_safe cX11_safe 1 (some .int) 0 := ⟨⟨uw_1_1, uw_5_129⟩, by decide +kernel, by decide +kernel, by decide⟩
theorem uw_5_142 : (Jvm.Cond.code ({ cls := "HideReader", name := "king", desc := "(I)I" } : Jvm.MethodName) prog_1_method_28_code (3 : Nat) (Option.some Jvm.ClassFile.FieldType.int)) ∈ UT := ut_t (tm_5 (List.mem_of_getElem? (i := 142) rfl)) rfl
theorem ck_X11_king : ckC yX11_king cX11_king 3 (some .int) 1 := ⟨⟨uw_1_1, uw_5_142⟩, by decide +kernel, by decide +kernel, by decide⟩
theorem uw_5_158 : (Jvm.Cond.code ({ cls := "HideReader", name := "tempt", desc := "(II)I" } : Jvm.MethodName) prog_1_method_29_code (4 : Nat) (Option.some Jvm.ClassFile.FieldType.int)) ∈ UT := ut_t (tm_5 (List.mem_of_getElem? (i := 158) rfl)) rfl
theorem ck_X11_tempt : ckC yX11_tempt cX11_tempt 4 (some .int) 2 := ⟨⟨uw_1_1, uw_5_158⟩, by decide +kernel, by decide +kernel, by decide⟩
theorem uw_1_176 : (Jvm.Cond.fieldLink "HideReader$Book" (118 : Nat) "HideReader$Valley" "irons" "I") ∈ UT := ut_t (tm_1 (List.mem_of_getElem? (i := 176) rfl)) rfl
theorem uw_5_170 : (Jvm.Cond.code ({ cls := "HideReader$Book", name := "usefulIrons", desc := "()I" } : Jvm.MethodName) prog_3_method_19_code (4 : Nat) (Option.some Jvm.ClassFile.FieldType.int)) ∈ UT := ut_t (tm_5 (List.mem_of_getElem? (i := 170) rfl)) rfl
theorem ck_X1_usefulIrons : ckC yX1_usefulIrons cX1_usefulIrons 4 (some .int) 0 := ⟨⟨uw_1_14, uw_5_170⟩, by decide +kernel, by decide +kernel, by decide⟩
theorem uw_5_168 : (Jvm.Cond.instanceMethod ({ cls := "HideReader$Book", name := "usefulIrons", desc := "()I" } : Jvm.MethodName)) ∈ UT := ut_t (tm_5 (List.mem_of_getElem? (i := 168) rfl)) rfl
theorem uw_5_169 : (Jvm.Cond.selects "HideReader$Book" ({ cls := "HideReader$Book", name := "usefulIrons", desc := "()I" } : Jvm.MethodName) ({ cls := "HideReader$Book", name := "usefulIrons", desc := "()I" } : Jvm.MethodName)) ∈ UT := ut_t (tm_5 (List.mem_of_getElem? (i := 169) rfl)) rfl
theorem iv_X1_usefulIrons : Cond.instanceMethod yX1_usefulIrons ∈ UT ∧ Cond.selects (yX1_usefulIrons).cls yX1_usefulIrons yX1_usefulIrons ∈ UT := ⟨uw_5_168, uw_5_169⟩
theorem uw_5_167 : (Jvm.Cond.methodLink "HideReader" (283 : Nat) ({ cls := "HideReader$Book", name := "usefulIrons", desc := "()I" } : Jvm.MethodName)) ∈ UT := ut_t (tm_5 (List.mem_of_getElem? (i := 167) rfl)) rfl
theorem uw_5_166 : (Jvm.Cond.code ({ cls := "HideReader", name := "useful", desc := "()I" } : Jvm.MethodName) prog_1_method_30_code (1 : Nat) (Option.some Jvm.ClassFile.FieldType.int)) ∈ UT := ut_t (tm_5 (List.mem_of_getElem? (i := 166) rfl)) rfl
theorem ck_X11_useful : ckC yX11_useful cX11_useful 1 (some .int) 0 := ⟨⟨uw_1_1, uw_5_166⟩, by decide +kernel, by decide +kernel, by decide⟩
theorem uw_5_179 : (Jvm.Cond.code ({ cls := "HideReader", name := "nearest", desc := "(II)I" } : Jvm.MethodName) prog_1_method_31_code (4 : Nat) (Option.some Jvm.ClassFile.FieldType.int)) ∈ UT := ut_t (tm_5 (List.mem_of_getElem? (i := 179) rfl)) rfl
theorem ck_X11_nearest : ckC yX11_nearest cX11_nearest 4 (some .int) 2 := ⟨⟨uw_1_1, uw_5_179⟩, by decide +kernel, by decide +kernel, by decide⟩
theorem uw_5_193 : (Jvm.Cond.code ({ cls := "HideReader", name := "shared", desc := "(II)I" } : Jvm.MethodName) prog_1_method_32_code (3 : Nat) (Option.some Jvm.ClassFile.FieldType.int)) ∈ UT := ut_t (tm_5 (List.mem_of_getElem? (i := 193) rfl)) rfl
theorem ck_X11_shared : ckC yX11_shared cX11_shared 3 (some .int) 2 := ⟨⟨uw_1_1, uw_5_193⟩, by decide +kernel, by decide +kernel, by decide⟩
theorem uw_5_202 : (Jvm.Cond.code ({ cls := "HideReader", name := "fades", desc := "(I)I" } : Jvm.MethodName) prog_1_method_33_code (2 : Nat) (Option.some Jvm.ClassFile.FieldType.int)) ∈ UT := ut_t (tm_5 (List.mem_of_getElem? (i := 202) rfl)) rfl
theorem ck_X11_fades : ckC yX11_fades cX11_fades 2 (some .int) 1 := ⟨⟨uw_1_1, uw_5_202⟩, by decide +kernel, by decide +kernel, by decide⟩
theorem uw_5_214 : (Jvm.Cond.code ({ cls := "HideReader$Book", name := "twinCount", desc := "()I" } : Jvm.MethodName) prog_3_method_7_code (4 : Nat) (Option.some Jvm.ClassFile.FieldType.int)) ∈ UT := ut_t (tm_5 (List.mem_of_getElem? (i := 214) rfl)) rfl
theorem ck_X1_twinCount : ckC yX1_twinCount cX1_twinCount 4 (some .int) 0 := ⟨⟨uw_1_14, uw_5_214⟩, by decide +kernel, by decide +kernel, by decide⟩
theorem uw_5_212 : (Jvm.Cond.instanceMethod ({ cls := "HideReader$Book", name := "twinCount", desc := "()I" } : Jvm.MethodName)) ∈ UT := ut_t (tm_5 (List.mem_of_getElem? (i := 212) rfl)) rfl
theorem uw_5_213 : (Jvm.Cond.selects "HideReader$Book" ({ cls := "HideReader$Book", name := "twinCount", desc := "()I" } : Jvm.MethodName) ({ cls := "HideReader$Book", name := "twinCount", desc := "()I" } : Jvm.MethodName)) ∈ UT := ut_t (tm_5 (List.mem_of_getElem? (i := 213) rfl)) rfl
theorem iv_X1_twinCount : Cond.instanceMethod yX1_twinCount ∈ UT ∧ Cond.selects (yX1_twinCount).cls yX1_twinCount yX1_twinCount ∈ UT := ⟨uw_5_212, uw_5_213⟩
theorem uw_5_211 : (Jvm.Cond.methodLink "HideReader" (298 : Nat) ({ cls := "HideReader$Book", name := "twinCount", desc := "()I" } : Jvm.MethodName)) ∈ UT := ut_t (tm_5 (List.mem_of_getElem? (i := 211) rfl)) rfl
theorem uw_5_210 : (Jvm.Cond.code ({ cls := "HideReader", name := "twins", desc := "()I" } : Jvm.MethodName) prog_1_method_34_code (1 : Nat) (Option.some Jvm.ClassFile.FieldType.int)) ∈ UT := ut_t (tm_5 (List.mem_of_getElem? (i := 210) rfl)) rfl
theorem ck_X11_twins : ckC yX11_twins cX11_twins 1 (some .int) 0 := ⟨⟨uw_1_1, uw_5_210⟩, by decide +kernel, by decide +kernel, by decide⟩
theorem uw_1_180 : (Jvm.Cond.fieldLink "HideReader$Beasts" (72 : Nat) "HideReader$Valley" "beasts" "I") ∈ UT := ut_t (tm_1 (List.mem_of_getElem? (i := 180) rfl)) rfl
theorem uw_5_222 : (Jvm.Cond.code ({ cls := "HideReader$Beasts", name := "untouchedStrokes", desc := "(LHideReader$Pasture;)I" } : Jvm.MethodName) prog_2_method_12_code (4 : Nat) (Option.some Jvm.ClassFile.FieldType.int)) ∈ UT := ut_t (tm_5 (List.mem_of_getElem? (i := 222) rfl)) rfl
theorem ck_X0_untouchedStrokes : ckC yX0_untouchedStrokes cX0_untouchedStrokes 4 (some .int) 1 := ⟨⟨uw_1_15, uw_5_222⟩, by decide +kernel, by decide +kernel, by decide⟩
theorem uw_5_220 : (Jvm.Cond.instanceMethod ({ cls := "HideReader$Beasts", name := "untouchedStrokes", desc := "(LHideReader$Pasture;)I" } : Jvm.MethodName)) ∈ UT := ut_t (tm_5 (List.mem_of_getElem? (i := 220) rfl)) rfl
theorem uw_5_221 : (Jvm.Cond.selects "HideReader$Beasts" ({ cls := "HideReader$Beasts", name := "untouchedStrokes", desc := "(LHideReader$Pasture;)I" } : Jvm.MethodName) ({ cls := "HideReader$Beasts", name := "untouchedStrokes", desc := "(LHideReader$Pasture;)I" } : Jvm.MethodName)) ∈ UT := ut_t (tm_5 (List.mem_of_getElem? (i := 221) rfl)) rfl
theorem iv_X0_untouchedStrokes : Cond.instanceMethod yX0_untouchedStrokes ∈ UT ∧ Cond.selects (yX0_untouchedStrokes).cls yX0_untouchedStrokes yX0_untouchedStrokes ∈ UT := ⟨uw_5_220, uw_5_221⟩
theorem uw_5_219 : (Jvm.Cond.methodLink "HideReader" (301 : Nat) ({ cls := "HideReader$Beasts", name := "untouchedStrokes", desc := "(LHideReader$Pasture;)I" } : Jvm.MethodName)) ∈ UT := ut_t (tm_5 (List.mem_of_getElem? (i := 219) rfl)) rfl
theorem uw_5_218 : (Jvm.Cond.code ({ cls := "HideReader", name := "untouched", desc := "()I" } : Jvm.MethodName) prog_1_method_35_code (1 : Nat) (Option.some Jvm.ClassFile.FieldType.int)) ∈ UT := ut_t (tm_5 (List.mem_of_getElem? (i := 218) rfl)) rfl
theorem ck_X11_untouched : ckC yX11_untouched cX11_untouched 1 (some .int) 0 := ⟨⟨uw_1_1, uw_5_218⟩, by decide +kernel, by decide +kernel, by decide⟩
theorem uw_5_230 : (Jvm.Cond.code ({ cls := "HideReader$Beasts", name := "tellingStroke", desc := "(LHideReader$Pasture;)I" } : Jvm.MethodName) prog_2_method_13_code (7 : Nat) (Option.some Jvm.ClassFile.FieldType.int)) ∈ UT := ut_t (tm_5 (List.mem_of_getElem? (i := 230) rfl)) rfl
theorem ck_X0_tellingStroke : ckC yX0_tellingStroke cX0_tellingStroke 7 (some .int) 1 := ⟨⟨uw_1_15, uw_5_230⟩, by decide +kernel, by decide +kernel, by decide⟩
theorem uw_5_228 : (Jvm.Cond.instanceMethod ({ cls := "HideReader$Beasts", name := "tellingStroke", desc := "(LHideReader$Pasture;)I" } : Jvm.MethodName)) ∈ UT := ut_t (tm_5 (List.mem_of_getElem? (i := 228) rfl)) rfl
theorem uw_5_229 : (Jvm.Cond.selects "HideReader$Beasts" ({ cls := "HideReader$Beasts", name := "tellingStroke", desc := "(LHideReader$Pasture;)I" } : Jvm.MethodName) ({ cls := "HideReader$Beasts", name := "tellingStroke", desc := "(LHideReader$Pasture;)I" } : Jvm.MethodName)) ∈ UT := ut_t (tm_5 (List.mem_of_getElem? (i := 229) rfl)) rfl
theorem iv_X0_tellingStroke : Cond.instanceMethod yX0_tellingStroke ∈ UT ∧ Cond.selects (yX0_tellingStroke).cls yX0_tellingStroke yX0_tellingStroke ∈ UT := ⟨uw_5_228, uw_5_229⟩
theorem uw_5_227 : (Jvm.Cond.methodLink "HideReader" (305 : Nat) ({ cls := "HideReader$Beasts", name := "tellingStroke", desc := "(LHideReader$Pasture;)I" } : Jvm.MethodName)) ∈ UT := ut_t (tm_5 (List.mem_of_getElem? (i := 227) rfl)) rfl
theorem uw_5_226 : (Jvm.Cond.code ({ cls := "HideReader", name := "tells", desc := "()I" } : Jvm.MethodName) prog_1_method_36_code (1 : Nat) (Option.some Jvm.ClassFile.FieldType.int)) ∈ UT := ut_t (tm_5 (List.mem_of_getElem? (i := 226) rfl)) rfl
theorem ck_X11_tells : ckC yX11_tells cX11_tells 1 (some .int) 0 := ⟨⟨uw_1_1, uw_5_226⟩, by decide +kernel, by decide +kernel, by decide⟩
theorem uw_5_237 : (Jvm.Cond.code ({ cls := "HideReader", name := "raid", desc := "(II)I" } : Jvm.MethodName) prog_1_method_37_code (4 : Nat) (Option.some Jvm.ClassFile.FieldType.int)) ∈ UT := ut_t (tm_5 (List.mem_of_getElem? (i := 237) rfl)) rfl
theorem ck_X11_raid : ckC yX11_raid cX11_raid 4 (some .int) 2 := ⟨⟨uw_1_1, uw_5_237⟩, by decide +kernel, by decide +kernel, by decide⟩
theorem uw_6_18 : (Jvm.Cond.methodLink "HideReader$Book" (72 : Nat) ({ cls := "HideReader$Book", name := "topHerds", desc := "()I" } : Jvm.MethodName)) ∈ UT := ut_t (tm_6 (List.mem_of_getElem? (i := 18) rfl)) rfl
theorem uw_6_19 : (Jvm.Cond.methodLink "HideReader$Book" (75 : Nat) ({ cls := "HideReader$Book", name := "twinCount", desc := "()I" } : Jvm.MethodName)) ∈ UT := ut_t (tm_6 (List.mem_of_getElem? (i := 19) rfl)) rfl
theorem uw_6_17 : (Jvm.Cond.code ({ cls := "HideReader$Book", name := "isClosed", desc := "()Z" } : Jvm.MethodName) prog_3_method_8_code (1 : Nat) (Option.some Jvm.ClassFile.FieldType.boolean)) ∈ UT := ut_t (tm_6 (List.mem_of_getElem? (i := 17) rfl)) rfl
theorem ck_X1_isClosed : ckC yX1_isClosed cX1_isClosed 1 (some .boolean) 0 := ⟨⟨uw_1_14, uw_6_17⟩, by decide +kernel, by decide +kernel, by decide⟩
theorem uw_6_15 : (Jvm.Cond.instanceMethod ({ cls := "HideReader$Book", name := "isClosed", desc := "()Z" } : Jvm.MethodName)) ∈ UT := ut_t (tm_6 (List.mem_of_getElem? (i := 15) rfl)) rfl
theorem uw_6_16 : (Jvm.Cond.selects "HideReader$Book" ({ cls := "HideReader$Book", name := "isClosed", desc := "()Z" } : Jvm.MethodName) ({ cls := "HideReader$Book", name := "isClosed", desc := "()Z" } : Jvm.MethodName)) ∈ UT := ut_t (tm_6 (List.mem_of_getElem? (i := 16) rfl)) rfl
theorem iv_X1_isClosed : Cond.instanceMethod yX1_isClosed ∈ UT ∧ Cond.selects (yX1_isClosed).cls yX1_isClosed yX1_isClosed ∈ UT := ⟨uw_6_15, uw_6_16⟩
theorem uw_6_14 : (Jvm.Cond.methodLink "HideReader" (314 : Nat) ({ cls := "HideReader$Book", name := "isClosed", desc := "()Z" } : Jvm.MethodName)) ∈ UT := ut_t (tm_6 (List.mem_of_getElem? (i := 14) rfl)) rfl
theorem uw_6_13 : (Jvm.Cond.code ({ cls := "HideReader", name := "closed", desc := "()I" } : Jvm.MethodName) prog_1_method_38_code (1 : Nat) (Option.some Jvm.ClassFile.FieldType.int)) ∈ UT := ut_t (tm_6 (List.mem_of_getElem? (i := 13) rfl)) rfl
theorem ck_X11_closed : ckC yX11_closed cX11_closed 1 (some .int) 0 := ⟨⟨uw_1_1, uw_6_13⟩, by decide +kernel, by decide +kernel, by decide⟩
theorem uw_6_27 : (Jvm.Cond.code ({ cls := "HideReader$Lattice", name := "unlikePlacements", desc := "(I)I" } : Jvm.MethodName) prog_6_method_10_code (7 : Nat) (Option.some Jvm.ClassFile.FieldType.int)) ∈ UT := ut_t (tm_6 (List.mem_of_getElem? (i := 27) rfl)) rfl
theorem ck_X4_unlikePlacements : ckC yX4_unlikePlacements cX4_unlikePlacements 7 (some .int) 1 := ⟨⟨uw_1_10, uw_6_27⟩, by decide +kernel, by decide +kernel, by decide⟩
theorem uw_6_25 : (Jvm.Cond.instanceMethod ({ cls := "HideReader$Lattice", name := "unlikePlacements", desc := "(I)I" } : Jvm.MethodName)) ∈ UT := ut_t (tm_6 (List.mem_of_getElem? (i := 25) rfl)) rfl
theorem uw_6_26 : (Jvm.Cond.selects "HideReader$Lattice" ({ cls := "HideReader$Lattice", name := "unlikePlacements", desc := "(I)I" } : Jvm.MethodName) ({ cls := "HideReader$Lattice", name := "unlikePlacements", desc := "(I)I" } : Jvm.MethodName)) ∈ UT := ut_t (tm_6 (List.mem_of_getElem? (i := 26) rfl)) rfl
theorem iv_X4_unlikePlacements : Cond.instanceMethod yX4_unlikePlacements ∈ UT ∧ Cond.selects (yX4_unlikePlacements).cls yX4_unlikePlacements yX4_unlikePlacements ∈ UT := ⟨uw_6_25, uw_6_26⟩
theorem uw_6_24 : (Jvm.Cond.methodLink "HideReader" (317 : Nat) ({ cls := "HideReader$Lattice", name := "unlikePlacements", desc := "(I)I" } : Jvm.MethodName)) ∈ UT := ut_t (tm_6 (List.mem_of_getElem? (i := 24) rfl)) rfl
theorem uw_6_23 : (Jvm.Cond.code ({ cls := "HideReader", name := "faces", desc := "(I)I" } : Jvm.MethodName) prog_1_method_39_code (2 : Nat) (Option.some Jvm.ClassFile.FieldType.int)) ∈ UT := ut_t (tm_6 (List.mem_of_getElem? (i := 23) rfl)) rfl
theorem ck_X11_faces : ckC yX11_faces cX11_faces 2 (some .int) 1 := ⟨⟨uw_1_1, uw_6_23⟩, by decide +kernel, by decide +kernel, by decide⟩
theorem uw_4_55 : (Jvm.Cond.code ({ cls := "HideReader$Lattice", name := "least", desc := "(I)I" } : Jvm.MethodName) prog_6_method_7_code (4 : Nat) (Option.some Jvm.ClassFile.FieldType.int)) ∈ UT := ut_t (tm_4 (List.mem_of_getElem? (i := 55) rfl)) rfl
theorem ck_X4_least : ckC yX4_least cX4_least 4 (some .int) 1 := ⟨⟨uw_1_10, uw_4_55⟩, by decide +kernel, by decide +kernel, by decide⟩
theorem uw_4_53 : (Jvm.Cond.instanceMethod ({ cls := "HideReader$Lattice", name := "least", desc := "(I)I" } : Jvm.MethodName)) ∈ UT := ut_t (tm_4 (List.mem_of_getElem? (i := 53) rfl)) rfl
theorem uw_4_54 : (Jvm.Cond.selects "HideReader$Lattice" ({ cls := "HideReader$Lattice", name := "least", desc := "(I)I" } : Jvm.MethodName) ({ cls := "HideReader$Lattice", name := "least", desc := "(I)I" } : Jvm.MethodName)) ∈ UT := ut_t (tm_4 (List.mem_of_getElem? (i := 54) rfl)) rfl
theorem iv_X4_least : Cond.instanceMethod yX4_least ∈ UT ∧ Cond.selects (yX4_least).cls yX4_least yX4_least ∈ UT := ⟨uw_4_53, uw_4_54⟩
theorem uw_6_32 : (Jvm.Cond.methodLink "HideReader" (320 : Nat) ({ cls := "HideReader$Lattice", name := "least", desc := "(I)I" } : Jvm.MethodName)) ∈ UT := ut_t (tm_6 (List.mem_of_getElem? (i := 32) rfl)) rfl
theorem uw_6_31 : (Jvm.Cond.code ({ cls := "HideReader", name := "norm", desc := "(I)I" } : Jvm.MethodName) prog_1_method_40_code (2 : Nat) (Option.some Jvm.ClassFile.FieldType.int)) ∈ UT := ut_t (tm_6 (List.mem_of_getElem? (i := 31) rfl)) rfl
theorem ck_X11_norm : ckC yX11_norm cX11_norm 2 (some .int) 1 := ⟨⟨uw_1_1, uw_6_31⟩, by decide +kernel, by decide +kernel, by decide⟩
theorem uw_6_40 : (Jvm.Cond.code ({ cls := "HideReader$Beasts", name := "strayBeasts", desc := "(LHideReader$Pasture;)I" } : Jvm.MethodName) prog_2_method_11_code (5 : Nat) (Option.some Jvm.ClassFile.FieldType.int)) ∈ UT := ut_t (tm_6 (List.mem_of_getElem? (i := 40) rfl)) rfl
theorem ck_X0_strayBeasts : ckC yX0_strayBeasts cX0_strayBeasts 5 (some .int) 1 := ⟨⟨uw_1_15, uw_6_40⟩, by decide +kernel, by decide +kernel, by decide⟩
theorem uw_6_38 : (Jvm.Cond.instanceMethod ({ cls := "HideReader$Beasts", name := "strayBeasts", desc := "(LHideReader$Pasture;)I" } : Jvm.MethodName)) ∈ UT := ut_t (tm_6 (List.mem_of_getElem? (i := 38) rfl)) rfl
theorem uw_6_39 : (Jvm.Cond.selects "HideReader$Beasts" ({ cls := "HideReader$Beasts", name := "strayBeasts", desc := "(LHideReader$Pasture;)I" } : Jvm.MethodName) ({ cls := "HideReader$Beasts", name := "strayBeasts", desc := "(LHideReader$Pasture;)I" } : Jvm.MethodName)) ∈ UT := ut_t (tm_6 (List.mem_of_getElem? (i := 39) rfl)) rfl
theorem iv_X0_strayBeasts : Cond.instanceMethod yX0_strayBeasts ∈ UT ∧ Cond.selects (yX0_strayBeasts).cls yX0_strayBeasts yX0_strayBeasts ∈ UT := ⟨uw_6_38, uw_6_39⟩
theorem uw_6_37 : (Jvm.Cond.methodLink "HideReader" (323 : Nat) ({ cls := "HideReader$Beasts", name := "strayBeasts", desc := "(LHideReader$Pasture;)I" } : Jvm.MethodName)) ∈ UT := ut_t (tm_6 (List.mem_of_getElem? (i := 37) rfl)) rfl
theorem uw_6_36 : (Jvm.Cond.code ({ cls := "HideReader", name := "strays", desc := "()I" } : Jvm.MethodName) prog_1_method_41_code (1 : Nat) (Option.some Jvm.ClassFile.FieldType.int)) ∈ UT := ut_t (tm_6 (List.mem_of_getElem? (i := 36) rfl)) rfl
theorem ck_X11_strays : ckC yX11_strays cX11_strays 1 (some .int) 0 := ⟨⟨uw_1_1, uw_6_36⟩, by decide +kernel, by decide +kernel, by decide⟩
theorem uw_6_44 : (Jvm.Cond.code ({ cls := "HideReader", name := "oldest", desc := "(I)I" } : Jvm.MethodName) prog_1_method_42_code (2 : Nat) (Option.some Jvm.ClassFile.FieldType.int)) ∈ UT := ut_t (tm_6 (List.mem_of_getElem? (i := 44) rfl)) rfl
theorem ck_X11_oldest : ckC yX11_oldest cX11_oldest 2 (some .int) 1 := ⟨⟨uw_1_1, uw_6_44⟩, by decide +kernel, by decide +kernel, by decide⟩
theorem uw_6_58 : (Jvm.Cond.code ({ cls := "HideReader$Beasts", name := "showingBehind", desc := "(LHideReader$Pasture;I)I" } : Jvm.MethodName) prog_2_method_4_code (5 : Nat) (Option.some Jvm.ClassFile.FieldType.int)) ∈ UT := ut_t (tm_6 (List.mem_of_getElem? (i := 58) rfl)) rfl
theorem ck_X0_showingBehind : ckC yX0_showingBehind cX0_showingBehind 5 (some .int) 2 := ⟨⟨uw_1_15, uw_6_58⟩, by decide +kernel, by decide +kernel, by decide⟩
theorem uw_6_56 : (Jvm.Cond.instanceMethod ({ cls := "HideReader$Beasts", name := "showingBehind", desc := "(LHideReader$Pasture;I)I" } : Jvm.MethodName)) ∈ UT := ut_t (tm_6 (List.mem_of_getElem? (i := 56) rfl)) rfl
theorem uw_6_57 : (Jvm.Cond.selects "HideReader$Beasts" ({ cls := "HideReader$Beasts", name := "showingBehind", desc := "(LHideReader$Pasture;I)I" } : Jvm.MethodName) ({ cls := "HideReader$Beasts", name := "showingBehind", desc := "(LHideReader$Pasture;I)I" } : Jvm.MethodName)) ∈ UT := ut_t (tm_6 (List.mem_of_getElem? (i := 57) rfl)) rfl
theorem iv_X0_showingBehind : Cond.instanceMethod yX0_showingBehind ∈ UT ∧ Cond.selects (yX0_showingBehind).cls yX0_showingBehind yX0_showingBehind ∈ UT := ⟨uw_6_56, uw_6_57⟩
theorem uw_6_55 : (Jvm.Cond.methodLink "HideReader" (329 : Nat) ({ cls := "HideReader$Beasts", name := "showingBehind", desc := "(LHideReader$Pasture;I)I" } : Jvm.MethodName)) ∈ UT := ut_t (tm_6 (List.mem_of_getElem? (i := 55) rfl)) rfl
theorem uw_6_54 : (Jvm.Cond.code ({ cls := "HideReader", name := "will", desc := "(I)I" } : Jvm.MethodName) prog_1_method_43_code (2 : Nat) (Option.some Jvm.ClassFile.FieldType.int)) ∈ UT := ut_t (tm_6 (List.mem_of_getElem? (i := 54) rfl)) rfl
theorem ck_X11_will : ckC yX11_will cX11_will 2 (some .int) 1 := ⟨⟨uw_1_1, uw_6_54⟩, by decide +kernel, by decide +kernel, by decide⟩
theorem uw_6_66 : (Jvm.Cond.code ({ cls := "HideReader$Beasts", name := "showingAtAge", desc := "(LHideReader$Pasture;I)I" } : Jvm.MethodName) prog_2_method_5_code (7 : Nat) (Option.some Jvm.ClassFile.FieldType.int)) ∈ UT := ut_t (tm_6 (List.mem_of_getElem? (i := 66) rfl)) rfl
theorem ck_X0_showingAtAge : ckC yX0_showingAtAge cX0_showingAtAge 7 (some .int) 2 := ⟨⟨uw_1_15, uw_6_66⟩, by decide +kernel, by decide +kernel, by decide⟩
theorem uw_6_64 : (Jvm.Cond.instanceMethod ({ cls := "HideReader$Beasts", name := "showingAtAge", desc := "(LHideReader$Pasture;I)I" } : Jvm.MethodName)) ∈ UT := ut_t (tm_6 (List.mem_of_getElem? (i := 64) rfl)) rfl
theorem uw_6_65 : (Jvm.Cond.selects "HideReader$Beasts" ({ cls := "HideReader$Beasts", name := "showingAtAge", desc := "(LHideReader$Pasture;I)I" } : Jvm.MethodName) ({ cls := "HideReader$Beasts", name := "showingAtAge", desc := "(LHideReader$Pasture;I)I" } : Jvm.MethodName)) ∈ UT := ut_t (tm_6 (List.mem_of_getElem? (i := 65) rfl)) rfl
theorem iv_X0_showingAtAge : Cond.instanceMethod yX0_showingAtAge ∈ UT ∧ Cond.selects (yX0_showingAtAge).cls yX0_showingAtAge yX0_showingAtAge ∈ UT := ⟨uw_6_64, uw_6_65⟩
theorem uw_6_63 : (Jvm.Cond.methodLink "HideReader" (332 : Nat) ({ cls := "HideReader$Beasts", name := "showingAtAge", desc := "(LHideReader$Pasture;I)I" } : Jvm.MethodName)) ∈ UT := ut_t (tm_6 (List.mem_of_getElem? (i := 63) rfl)) rfl
theorem uw_6_62 : (Jvm.Cond.code ({ cls := "HideReader", name := "law", desc := "(I)I" } : Jvm.MethodName) prog_1_method_44_code (2 : Nat) (Option.some Jvm.ClassFile.FieldType.int)) ∈ UT := ut_t (tm_6 (List.mem_of_getElem? (i := 62) rfl)) rfl
theorem ck_X11_law : ckC yX11_law cX11_law 2 (some .int) 1 := ⟨⟨uw_1_1, uw_6_62⟩, by decide +kernel, by decide +kernel, by decide⟩
theorem uw_5_145 : (Jvm.Cond.code ({ cls := "HideReader", name := "isPart", desc := "(I)Z" } : Jvm.MethodName) prog_1_method_64_code (1 : Nat) (Option.some Jvm.ClassFile.FieldType.boolean)) ∈ UT := ut_t (tm_5 (List.mem_of_getElem? (i := 145) rfl)) rfl
theorem ck_X11_isPart : ckC yX11_isPart cX11_isPart 1 (some .boolean) 1 := ⟨⟨uw_1_1, uw_5_145⟩, by decide +kernel, by decide +kernel, by decide⟩
theorem uw_5_144 : (Jvm.Cond.static ({ cls := "HideReader", name := "isPart", desc := "(I)Z" } : Jvm.MethodName)) ∈ UT := ut_t (tm_5 (List.mem_of_getElem? (i := 144) rfl)) rfl
theorem uw_5_143 : (Jvm.Cond.methodLink "HideReader" (271 : Nat) ({ cls := "HideReader", name := "isPart", desc := "(I)Z" } : Jvm.MethodName)) ∈ UT := ut_t (tm_5 (List.mem_of_getElem? (i := 143) rfl)) rfl
theorem uw_1_164 : (Jvm.Cond.fieldLink "HideReader" (335 : Nat) "HideReader$Valley" "night" "I") ∈ UT := ut_t (tm_1 (List.mem_of_getElem? (i := 164) rfl)) rfl
theorem uw_6_73 : (Jvm.Cond.code ({ cls := "HideReader", name := "withoutCommon", desc := "(II)I" } : Jvm.MethodName) prog_1_method_65_code (3 : Nat) (Option.some Jvm.ClassFile.FieldType.int)) ∈ UT := ut_t (tm_6 (List.mem_of_getElem? (i := 73) rfl)) rfl
theorem ck_X11_withoutCommon : ckC yX11_withoutCommon cX11_withoutCommon 3 (some .int) 2 := ⟨⟨uw_1_1, uw_6_73⟩, by decide +kernel, by decide +kernel, by decide⟩
theorem uw_6_72 : (Jvm.Cond.static ({ cls := "HideReader", name := "withoutCommon", desc := "(II)I" } : Jvm.MethodName)) ∈ UT := ut_t (tm_6 (List.mem_of_getElem? (i := 72) rfl)) rfl
theorem uw_6_71 : (Jvm.Cond.methodLink "HideReader" (338 : Nat) ({ cls := "HideReader", name := "withoutCommon", desc := "(II)I" } : Jvm.MethodName)) ∈ UT := ut_t (tm_6 (List.mem_of_getElem? (i := 71) rfl)) rfl
theorem uw_6_70 : (Jvm.Cond.code ({ cls := "HideReader", name := "odds", desc := "(II)I" } : Jvm.MethodName) prog_1_method_45_code (7 : Nat) (Option.some Jvm.ClassFile.FieldType.int)) ∈ UT := ut_t (tm_6 (List.mem_of_getElem? (i := 70) rfl)) rfl
theorem ck_X11_odds : ckC yX11_odds cX11_odds 7 (some .int) 2 := ⟨⟨uw_1_1, uw_6_70⟩, by decide +kernel, by decide +kernel, by decide⟩
theorem uw_6_77 : (Jvm.Cond.code ({ cls := "HideReader", name := "lies", desc := "(I)I" } : Jvm.MethodName) prog_1_method_46_code (2 : Nat) (Option.some Jvm.ClassFile.FieldType.int)) ∈ UT := ut_t (tm_6 (List.mem_of_getElem? (i := 77) rfl)) rfl
theorem ck_X11_lies : ckC yX11_lies cX11_lies 2 (some .int) 1 := ⟨⟨uw_1_1, uw_6_77⟩, by decide +kernel, by decide +kernel, by decide⟩
theorem uw_6_96 : (Jvm.Cond.code ({ cls := "HideReader$Witness", name := "takeBack", desc := "(I)Z" } : Jvm.MethodName) prog_12_method_6_code (2 : Nat) (Option.some Jvm.ClassFile.FieldType.boolean)) ∈ UT := ut_t (tm_6 (List.mem_of_getElem? (i := 96) rfl)) rfl
theorem ck_X10_takeBack : ckC yX10_takeBack cX10_takeBack 2 (some .boolean) 1 := ⟨⟨uw_1_16, uw_6_96⟩, by decide +kernel, by decide +kernel, by decide⟩
theorem uw_6_94 : (Jvm.Cond.instanceMethod ({ cls := "HideReader$Witness", name := "takeBack", desc := "(I)Z" } : Jvm.MethodName)) ∈ UT := ut_t (tm_6 (List.mem_of_getElem? (i := 94) rfl)) rfl
theorem uw_6_95 : (Jvm.Cond.selects "HideReader$Witness" ({ cls := "HideReader$Witness", name := "takeBack", desc := "(I)Z" } : Jvm.MethodName) ({ cls := "HideReader$Witness", name := "takeBack", desc := "(I)Z" } : Jvm.MethodName)) ∈ UT := ut_t (tm_6 (List.mem_of_getElem? (i := 95) rfl)) rfl
theorem iv_X10_takeBack : Cond.instanceMethod yX10_takeBack ∈ UT ∧ Cond.selects (yX10_takeBack).cls yX10_takeBack yX10_takeBack ∈ UT := ⟨uw_6_94, uw_6_95⟩
theorem uw_6_93 : (Jvm.Cond.methodLink "HideReader" (348 : Nat) ({ cls := "HideReader$Witness", name := "takeBack", desc := "(I)Z" } : Jvm.MethodName)) ∈ UT := ut_t (tm_6 (List.mem_of_getElem? (i := 93) rfl)) rfl
theorem uw_6_92 : (Jvm.Cond.code ({ cls := "HideReader", name := "untell", desc := "(I)Z" } : Jvm.MethodName) prog_1_method_48_code (2 : Nat) (Option.some Jvm.ClassFile.FieldType.boolean)) ∈ UT := ut_t (tm_6 (List.mem_of_getElem? (i := 92) rfl)) rfl
theorem ck_X11_untell : ckC yX11_untell cX11_untell 2 (some .boolean) 1 := ⟨⟨uw_1_1, uw_6_92⟩, by decide +kernel, by decide +kernel, by decide⟩
theorem uw_6_105 : (Jvm.Cond.constant "HideReader$Witness" (55 : Nat) (100000 : Int32)) ∈ UT := ut_t (tm_6 (List.mem_of_getElem? (i := 105) rfl)) rfl
theorem uw_6_104 : (Jvm.Cond.code ({ cls := "HideReader$Witness", name := "goOn", desc := "(I)I" } : Jvm.MethodName) prog_12_method_7_code (2 : Nat) (Option.some Jvm.ClassFile.FieldType.int)) ∈ UT := ut_t (tm_6 (List.mem_of_getElem? (i := 104) rfl)) rfl
theorem ck_X10_goOn : ckC yX10_goOn cX10_goOn 2 (some .int) 1 := ⟨⟨uw_1_16, uw_6_104⟩, by decide +kernel, by decide +kernel, by decide⟩
theorem uw_6_102 : (Jvm.Cond.instanceMethod ({ cls := "HideReader$Witness", name := "goOn", desc := "(I)I" } : Jvm.MethodName)) ∈ UT := ut_t (tm_6 (List.mem_of_getElem? (i := 102) rfl)) rfl
theorem uw_6_103 : (Jvm.Cond.selects "HideReader$Witness" ({ cls := "HideReader$Witness", name := "goOn", desc := "(I)I" } : Jvm.MethodName) ({ cls := "HideReader$Witness", name := "goOn", desc := "(I)I" } : Jvm.MethodName)) ∈ UT := ut_t (tm_6 (List.mem_of_getElem? (i := 103) rfl)) rfl
theorem iv_X10_goOn : Cond.instanceMethod yX10_goOn ∈ UT ∧ Cond.selects (yX10_goOn).cls yX10_goOn yX10_goOn ∈ UT := ⟨uw_6_102, uw_6_103⟩
theorem uw_6_101 : (Jvm.Cond.methodLink "HideReader" (351 : Nat) ({ cls := "HideReader$Witness", name := "goOn", desc := "(I)I" } : Jvm.MethodName)) ∈ UT := ut_t (tm_6 (List.mem_of_getElem? (i := 101) rfl)) rfl
theorem uw_6_100 : (Jvm.Cond.code ({ cls := "HideReader", name := "later", desc := "(I)I" } : Jvm.MethodName) prog_1_method_49_code (2 : Nat) (Option.some Jvm.ClassFile.FieldType.int)) ∈ UT := ut_t (tm_6 (List.mem_of_getElem? (i := 100) rfl)) rfl
theorem ck_X11_later : ckC yX11_later cX11_later 2 (some .int) 1 := ⟨⟨uw_1_1, uw_6_100⟩, by decide +kernel, by decide +kernel, by decide⟩
theorem uw_6_118 : (Jvm.Cond.methodLink "HideReader$Witness" (60 : Nat) ({ cls := "java/util/Arrays", name := "fill", desc := "([II)V" } : Jvm.MethodName)) ∈ UT := ut_t (tm_6 (List.mem_of_getElem? (i := 118) rfl)) rfl
theorem uw_6_117 : (Jvm.Cond.code ({ cls := "HideReader$Witness", name := "gather", desc := "(I)V" } : Jvm.MethodName) prog_12_method_11_code (5 : Nat) (Option.none : Option Jvm.ClassFile.FieldType)) ∈ UT := ut_t (tm_6 (List.mem_of_getElem? (i := 117) rfl)) rfl
theorem ck_X10_gather : ckC yX10_gather cX10_gather 5 none 1 := ⟨⟨uw_1_16, uw_6_117⟩, by decide +kernel, by decide +kernel, by decide⟩
theorem uw_6_116 : (Jvm.Cond.instanceMethod ({ cls := "HideReader$Witness", name := "gather", desc := "(I)V" } : Jvm.MethodName)) ∈ UT := ut_t (tm_6 (List.mem_of_getElem? (i := 116) rfl)) rfl
theorem iv_X10_gather : Cond.instanceMethod yX10_gather ∈ UT ∧ Cond.selects (yX10_gather).cls yX10_gather yX10_gather ∈ UT := ⟨uw_6_116, ut_s (q := (yX10_gather, 13)) (List.mem_append_right _ (List.mem_append_right _ (List.mem_append_left _ (List.mem_of_getElem? (i := 9) rfl)))) rfl⟩
theorem uw_6_114 : (Jvm.Cond.methodLink "HideReader$Witness" (56 : Nat) ({ cls := "HideReader$Witness", name := "gather", desc := "(I)V" } : Jvm.MethodName)) ∈ UT := ut_t (tm_6 (List.mem_of_getElem? (i := 114) rfl)) rfl
theorem uw_1_182 : (Jvm.Cond.fieldLink "HideReader$Witness" (66 : Nat) "HideReader$Valley" "beasts" "I") ∈ UT := ut_t (tm_1 (List.mem_of_getElem? (i := 182) rfl)) rfl
theorem uw_6_113 : (Jvm.Cond.code ({ cls := "HideReader$Witness", name := "countRows", desc := "(I)I" } : Jvm.MethodName) prog_12_method_8_code (8 : Nat) (Option.some Jvm.ClassFile.FieldType.int)) ∈ UT := ut_t (tm_6 (List.mem_of_getElem? (i := 113) rfl)) rfl
theorem ck_X10_countRows : ckC yX10_countRows cX10_countRows 8 (some .int) 1 := ⟨⟨uw_1_16, uw_6_113⟩, by decide +kernel, by decide +kernel, by decide⟩
theorem uw_6_111 : (Jvm.Cond.instanceMethod ({ cls := "HideReader$Witness", name := "countRows", desc := "(I)I" } : Jvm.MethodName)) ∈ UT := ut_t (tm_6 (List.mem_of_getElem? (i := 111) rfl)) rfl
theorem uw_6_112 : (Jvm.Cond.selects "HideReader$Witness" ({ cls := "HideReader$Witness", name := "countRows", desc := "(I)I" } : Jvm.MethodName) ({ cls := "HideReader$Witness", name := "countRows", desc := "(I)I" } : Jvm.MethodName)) ∈ UT := ut_t (tm_6 (List.mem_of_getElem? (i := 112) rfl)) rfl
theorem iv_X10_countRows : Cond.instanceMethod yX10_countRows ∈ UT ∧ Cond.selects (yX10_countRows).cls yX10_countRows yX10_countRows ∈ UT := ⟨uw_6_111, uw_6_112⟩
theorem uw_6_110 : (Jvm.Cond.methodLink "HideReader" (354 : Nat) ({ cls := "HideReader$Witness", name := "countRows", desc := "(I)I" } : Jvm.MethodName)) ∈ UT := ut_t (tm_6 (List.mem_of_getElem? (i := 110) rfl)) rfl
theorem uw_6_109 : (Jvm.Cond.code ({ cls := "HideReader", name := "rows", desc := "(I)I" } : Jvm.MethodName) prog_1_method_50_code (2 : Nat) (Option.some Jvm.ClassFile.FieldType.int)) ∈ UT := ut_t (tm_6 (List.mem_of_getElem? (i := 109) rfl)) rfl
theorem ck_X11_rows : ckC yX11_rows cX11_rows 2 (some .int) 1 := ⟨⟨uw_1_1, uw_6_109⟩, by decide +kernel, by decide +kernel, by decide⟩
theorem uw_6_84 : (Jvm.Cond.code ({ cls := "HideReader", name := "isBurning", desc := "(I)Z" } : Jvm.MethodName) prog_1_method_62_code (1 : Nat) (Option.some Jvm.ClassFile.FieldType.boolean)) ∈ UT := ut_t (tm_6 (List.mem_of_getElem? (i := 84) rfl)) rfl
theorem ck_X11_isBurning : ckC yX11_isBurning cX11_isBurning 1 (some .boolean) 1 := ⟨⟨uw_1_1, uw_6_84⟩, by decide +kernel, by decide +kernel, by decide⟩
theorem uw_6_83 : (Jvm.Cond.static ({ cls := "HideReader", name := "isBurning", desc := "(I)Z" } : Jvm.MethodName)) ∈ UT := ut_t (tm_6 (List.mem_of_getElem? (i := 83) rfl)) rfl
theorem uw_6_82 : (Jvm.Cond.methodLink "HideReader" (341 : Nat) ({ cls := "HideReader", name := "isBurning", desc := "(I)Z" } : Jvm.MethodName)) ∈ UT := ut_t (tm_6 (List.mem_of_getElem? (i := 82) rfl)) rfl
theorem uw_6_144 : (Jvm.Cond.methodLink "HideReader$Witness" (98 : Nat) ({ cls := "HideReader$Witness", name := "countRows", desc := "(I)I" } : Jvm.MethodName)) ∈ UT := ut_t (tm_6 (List.mem_of_getElem? (i := 144) rfl)) rfl
theorem uw_6_143 : (Jvm.Cond.code ({ cls := "HideReader$Witness", name := "sureIron", desc := "(II)I" } : Jvm.MethodName) prog_12_method_12_code (6 : Nat) (Option.some Jvm.ClassFile.FieldType.int)) ∈ UT := ut_t (tm_6 (List.mem_of_getElem? (i := 143) rfl)) rfl
theorem ck_X10_sureIron : ckC yX10_sureIron cX10_sureIron 6 (some .int) 2 := ⟨⟨uw_1_16, uw_6_143⟩, by decide +kernel, by decide +kernel, by decide⟩
theorem uw_6_141 : (Jvm.Cond.instanceMethod ({ cls := "HideReader$Witness", name := "sureIron", desc := "(II)I" } : Jvm.MethodName)) ∈ UT := ut_t (tm_6 (List.mem_of_getElem? (i := 141) rfl)) rfl
theorem uw_6_142 : (Jvm.Cond.selects "HideReader$Witness" ({ cls := "HideReader$Witness", name := "sureIron", desc := "(II)I" } : Jvm.MethodName) ({ cls := "HideReader$Witness", name := "sureIron", desc := "(II)I" } : Jvm.MethodName)) ∈ UT := ut_t (tm_6 (List.mem_of_getElem? (i := 142) rfl)) rfl
theorem iv_X10_sureIron : Cond.instanceMethod yX10_sureIron ∈ UT ∧ Cond.selects (yX10_sureIron).cls yX10_sureIron yX10_sureIron ∈ UT := ⟨uw_6_141, uw_6_142⟩
theorem uw_6_140 : (Jvm.Cond.methodLink "HideReader" (357 : Nat) ({ cls := "HideReader$Witness", name := "sureIron", desc := "(II)I" } : Jvm.MethodName)) ∈ UT := ut_t (tm_6 (List.mem_of_getElem? (i := 140) rfl)) rfl
theorem uw_6_139 : (Jvm.Cond.code ({ cls := "HideReader", name := "sure", desc := "(II)I" } : Jvm.MethodName) prog_1_method_51_code (3 : Nat) (Option.some Jvm.ClassFile.FieldType.int)) ∈ UT := ut_t (tm_6 (List.mem_of_getElem? (i := 139) rfl)) rfl
theorem ck_X11_sure : ckC yX11_sure cX11_sure 3 (some .int) 2 := ⟨⟨uw_1_1, uw_6_139⟩, by decide +kernel, by decide +kernel, by decide⟩
theorem uw_6_148 : (Jvm.Cond.code ({ cls := "HideReader", name := "ask", desc := "(II)I" } : Jvm.MethodName) prog_1_method_52_code (5 : Nat) (Option.some Jvm.ClassFile.FieldType.int)) ∈ UT := ut_t (tm_6 (List.mem_of_getElem? (i := 148) rfl)) rfl
theorem ck_X11_ask : ckC yX11_ask cX11_ask 5 (some .int) 2 := ⟨⟨uw_1_1, uw_6_148⟩, by decide +kernel, by decide +kernel, by decide⟩
theorem uw_6_161 : (Jvm.Cond.code ({ cls := "HideReader", name := "isBox", desc := "(I)Z" } : Jvm.MethodName) prog_1_method_63_code (1 : Nat) (Option.some Jvm.ClassFile.FieldType.boolean)) ∈ UT := ut_t (tm_6 (List.mem_of_getElem? (i := 161) rfl)) rfl
theorem ck_X11_isBox : ckC yX11_isBox cX11_isBox 1 (some .boolean) 1 := ⟨⟨uw_1_1, uw_6_161⟩, by decide +kernel, by decide +kernel, by decide⟩
theorem uw_6_160 : (Jvm.Cond.static ({ cls := "HideReader", name := "isBox", desc := "(I)Z" } : Jvm.MethodName)) ∈ UT := ut_t (tm_6 (List.mem_of_getElem? (i := 160) rfl)) rfl
theorem uw_6_159 : (Jvm.Cond.methodLink "HideReader" (368 : Nat) ({ cls := "HideReader", name := "isBox", desc := "(I)Z" } : Jvm.MethodName)) ∈ UT := ut_t (tm_6 (List.mem_of_getElem? (i := 159) rfl)) rfl
theorem uw_2_95 : (Jvm.Cond.fieldLink "HideReader$History" (56 : Nat) "HideReader$Pasture" "seasons" "I") ∈ UT := ut_t (tm_2 (List.mem_of_getElem? (i := 95) rfl)) rfl
theorem uw_6_165 : (Jvm.Cond.code ({ cls := "HideReader$History", name := "keep", desc := "(I)I" } : Jvm.MethodName) prog_5_method_10_code (2 : Nat) (Option.some Jvm.ClassFile.FieldType.int)) ∈ UT := ut_t (tm_6 (List.mem_of_getElem? (i := 165) rfl)) rfl
theorem ck_X3_keep : ckC yX3_keep cX3_keep 2 (some .int) 1 := ⟨⟨uw_1_12, uw_6_165⟩, by decide +kernel, by decide +kernel, by decide⟩
theorem uw_6_163 : (Jvm.Cond.instanceMethod ({ cls := "HideReader$History", name := "keep", desc := "(I)I" } : Jvm.MethodName)) ∈ UT := ut_t (tm_6 (List.mem_of_getElem? (i := 163) rfl)) rfl
theorem uw_6_164 : (Jvm.Cond.selects "HideReader$History" ({ cls := "HideReader$History", name := "keep", desc := "(I)I" } : Jvm.MethodName) ({ cls := "HideReader$History", name := "keep", desc := "(I)I" } : Jvm.MethodName)) ∈ UT := ut_t (tm_6 (List.mem_of_getElem? (i := 164) rfl)) rfl
theorem iv_X3_keep : Cond.instanceMethod yX3_keep ∈ UT ∧ Cond.selects (yX3_keep).cls yX3_keep yX3_keep ∈ UT := ⟨uw_6_163, uw_6_164⟩
theorem uw_6_162 : (Jvm.Cond.methodLink "HideReader" (371 : Nat) ({ cls := "HideReader$History", name := "keep", desc := "(I)I" } : Jvm.MethodName)) ∈ UT := ut_t (tm_6 (List.mem_of_getElem? (i := 162) rfl)) rfl
theorem uw_6_158 : (Jvm.Cond.code ({ cls := "HideReader", name := "image", desc := "(I)I" } : Jvm.MethodName) prog_1_method_53_code (2 : Nat) (Option.some Jvm.ClassFile.FieldType.int)) ∈ UT := ut_t (tm_6 (List.mem_of_getElem? (i := 158) rfl)) rfl
theorem ck_X11_image : ckC yX11_image cX11_image 2 (some .int) 1 := ⟨⟨uw_1_1, uw_6_158⟩, by decide +kernel, by decide +kernel, by decide⟩
theorem uw_6_173 : (Jvm.Cond.code ({ cls := "HideReader$History", name := "bringBack", desc := "(I)I" } : Jvm.MethodName) prog_5_method_11_code (2 : Nat) (Option.some Jvm.ClassFile.FieldType.int)) ∈ UT := ut_t (tm_6 (List.mem_of_getElem? (i := 173) rfl)) rfl
theorem ck_X3_bringBack : ckC yX3_bringBack cX3_bringBack 2 (some .int) 1 := ⟨⟨uw_1_12, uw_6_173⟩, by decide +kernel, by decide +kernel, by decide⟩
theorem uw_6_171 : (Jvm.Cond.instanceMethod ({ cls := "HideReader$History", name := "bringBack", desc := "(I)I" } : Jvm.MethodName)) ∈ UT := ut_t (tm_6 (List.mem_of_getElem? (i := 171) rfl)) rfl
theorem uw_6_172 : (Jvm.Cond.selects "HideReader$History" ({ cls := "HideReader$History", name := "bringBack", desc := "(I)I" } : Jvm.MethodName) ({ cls := "HideReader$History", name := "bringBack", desc := "(I)I" } : Jvm.MethodName)) ∈ UT := ut_t (tm_6 (List.mem_of_getElem? (i := 172) rfl)) rfl
theorem iv_X3_bringBack : Cond.instanceMethod yX3_bringBack ∈ UT ∧ Cond.selects (yX3_bringBack).cls yX3_bringBack yX3_bringBack ∈ UT := ⟨uw_6_171, uw_6_172⟩
theorem uw_6_170 : (Jvm.Cond.methodLink "HideReader" (374 : Nat) ({ cls := "HideReader$History", name := "bringBack", desc := "(I)I" } : Jvm.MethodName)) ∈ UT := ut_t (tm_6 (List.mem_of_getElem? (i := 170) rfl)) rfl
theorem uw_6_169 : (Jvm.Cond.code ({ cls := "HideReader", name := "back", desc := "(I)I" } : Jvm.MethodName) prog_1_method_54_code (2 : Nat) (Option.some Jvm.ClassFile.FieldType.int)) ∈ UT := ut_t (tm_6 (List.mem_of_getElem? (i := 169) rfl)) rfl
theorem ck_X11_back : ckC yX11_back cX11_back 2 (some .int) 1 := ⟨⟨uw_1_1, uw_6_169⟩, by decide +kernel, by decide +kernel, by decide⟩
theorem uw_2_98 : (Jvm.Cond.fieldLink "HideReader" (383 : Nat) "HideReader$Pasture" "seed" "I") ∈ UT := ut_t (tm_2 (List.mem_of_getElem? (i := 98) rfl)) rfl
theorem uw_6_181 : (Jvm.Cond.code ({ cls := "HideReader$History", name := "undoable", desc := "()I" } : Jvm.MethodName) prog_5_method_3_code (1 : Nat) (Option.some Jvm.ClassFile.FieldType.int)) ∈ UT := ut_t (tm_6 (List.mem_of_getElem? (i := 181) rfl)) rfl
theorem ck_X3_undoable : ckC yX3_undoable cX3_undoable 1 (some .int) 0 := ⟨⟨uw_1_12, uw_6_181⟩, by decide +kernel, by decide +kernel, by decide⟩
theorem uw_6_179 : (Jvm.Cond.instanceMethod ({ cls := "HideReader$History", name := "undoable", desc := "()I" } : Jvm.MethodName)) ∈ UT := ut_t (tm_6 (List.mem_of_getElem? (i := 179) rfl)) rfl
theorem uw_6_180 : (Jvm.Cond.selects "HideReader$History" ({ cls := "HideReader$History", name := "undoable", desc := "()I" } : Jvm.MethodName) ({ cls := "HideReader$History", name := "undoable", desc := "()I" } : Jvm.MethodName)) ∈ UT := ut_t (tm_6 (List.mem_of_getElem? (i := 180) rfl)) rfl
theorem iv_X3_undoable : Cond.instanceMethod yX3_undoable ∈ UT ∧ Cond.selects (yX3_undoable).cls yX3_undoable yX3_undoable ∈ UT := ⟨uw_6_179, uw_6_180⟩
theorem uw_6_178 : (Jvm.Cond.methodLink "HideReader" (386 : Nat) ({ cls := "HideReader$History", name := "undoable", desc := "()I" } : Jvm.MethodName)) ∈ UT := ut_t (tm_6 (List.mem_of_getElem? (i := 178) rfl)) rfl
theorem uw_6_185 : (Jvm.Cond.code ({ cls := "HideReader$History", name := "redoable", desc := "()I" } : Jvm.MethodName) prog_5_method_4_code (1 : Nat) (Option.some Jvm.ClassFile.FieldType.int)) ∈ UT := ut_t (tm_6 (List.mem_of_getElem? (i := 185) rfl)) rfl
theorem ck_X3_redoable : ckC yX3_redoable cX3_redoable 1 (some .int) 0 := ⟨⟨uw_1_12, uw_6_185⟩, by decide +kernel, by decide +kernel, by decide⟩
theorem uw_6_183 : (Jvm.Cond.instanceMethod ({ cls := "HideReader$History", name := "redoable", desc := "()I" } : Jvm.MethodName)) ∈ UT := ut_t (tm_6 (List.mem_of_getElem? (i := 183) rfl)) rfl
theorem uw_6_184 : (Jvm.Cond.selects "HideReader$History" ({ cls := "HideReader$History", name := "redoable", desc := "()I" } : Jvm.MethodName) ({ cls := "HideReader$History", name := "redoable", desc := "()I" } : Jvm.MethodName)) ∈ UT := ut_t (tm_6 (List.mem_of_getElem? (i := 184) rfl)) rfl
theorem iv_X3_redoable : Cond.instanceMethod yX3_redoable ∈ UT ∧ Cond.selects (yX3_redoable).cls yX3_redoable yX3_redoable ∈ UT := ⟨uw_6_183, uw_6_184⟩
theorem uw_6_182 : (Jvm.Cond.methodLink "HideReader" (389 : Nat) ({ cls := "HideReader$History", name := "redoable", desc := "()I" } : Jvm.MethodName)) ∈ UT := ut_t (tm_6 (List.mem_of_getElem? (i := 182) rfl)) rfl
theorem uw_6_189 : (Jvm.Cond.code ({ cls := "HideReader$Witness", name := "count", desc := "()I" } : Jvm.MethodName) prog_12_method_2_code (1 : Nat) (Option.some Jvm.ClassFile.FieldType.int)) ∈ UT := ut_t (tm_6 (List.mem_of_getElem? (i := 189) rfl)) rfl
theorem ck_X10_count : ckC yX10_count cX10_count 1 (some .int) 0 := ⟨⟨uw_1_16, uw_6_189⟩, by decide +kernel, by decide +kernel, by decide⟩
theorem uw_6_187 : (Jvm.Cond.instanceMethod ({ cls := "HideReader$Witness", name := "count", desc := "()I" } : Jvm.MethodName)) ∈ UT := ut_t (tm_6 (List.mem_of_getElem? (i := 187) rfl)) rfl
theorem uw_6_188 : (Jvm.Cond.selects "HideReader$Witness" ({ cls := "HideReader$Witness", name := "count", desc := "()I" } : Jvm.MethodName) ({ cls := "HideReader$Witness", name := "count", desc := "()I" } : Jvm.MethodName)) ∈ UT := ut_t (tm_6 (List.mem_of_getElem? (i := 188) rfl)) rfl
theorem iv_X10_count : Cond.instanceMethod yX10_count ∈ UT ∧ Cond.selects (yX10_count).cls yX10_count yX10_count ∈ UT := ⟨uw_6_187, uw_6_188⟩
theorem uw_6_186 : (Jvm.Cond.methodLink "HideReader" (392 : Nat) ({ cls := "HideReader$Witness", name := "count", desc := "()I" } : Jvm.MethodName)) ∈ UT := ut_t (tm_6 (List.mem_of_getElem? (i := 186) rfl)) rfl
theorem uw_6_193 : (Jvm.Cond.code ({ cls := "HideReader$Witness", name := "time", desc := "()I" } : Jvm.MethodName) prog_12_method_3_code (1 : Nat) (Option.some Jvm.ClassFile.FieldType.int)) ∈ UT := ut_t (tm_6 (List.mem_of_getElem? (i := 193) rfl)) rfl
theorem ck_X10_time : ckC yX10_time cX10_time 1 (some .int) 0 := ⟨⟨uw_1_16, uw_6_193⟩, by decide +kernel, by decide +kernel, by decide⟩
theorem uw_6_191 : (Jvm.Cond.instanceMethod ({ cls := "HideReader$Witness", name := "time", desc := "()I" } : Jvm.MethodName)) ∈ UT := ut_t (tm_6 (List.mem_of_getElem? (i := 191) rfl)) rfl
theorem uw_6_192 : (Jvm.Cond.selects "HideReader$Witness" ({ cls := "HideReader$Witness", name := "time", desc := "()I" } : Jvm.MethodName) ({ cls := "HideReader$Witness", name := "time", desc := "()I" } : Jvm.MethodName)) ∈ UT := ut_t (tm_6 (List.mem_of_getElem? (i := 192) rfl)) rfl
theorem iv_X10_time : Cond.instanceMethod yX10_time ∈ UT ∧ Cond.selects (yX10_time).cls yX10_time yX10_time ∈ UT := ⟨uw_6_191, uw_6_192⟩
theorem uw_6_190 : (Jvm.Cond.methodLink "HideReader" (395 : Nat) ({ cls := "HideReader$Witness", name := "time", desc := "()I" } : Jvm.MethodName)) ∈ UT := ut_t (tm_6 (List.mem_of_getElem? (i := 190) rfl)) rfl
theorem uw_1_216 : (Jvm.Cond.fieldLink "HideReader" (398 : Nat) "HideReader$Valley" "shows" "LHideReader$Formula;") ∈ UT := ut_t (tm_1 (List.mem_of_getElem? (i := 216) rfl)) rfl
theorem uw_6_197 : (Jvm.Cond.code ({ cls := "HideReader$Formula", name := "units", desc := "()I" } : Jvm.MethodName) prog_4_method_3_code (1 : Nat) (Option.some Jvm.ClassFile.FieldType.int)) ∈ UT := ut_t (tm_6 (List.mem_of_getElem? (i := 197) rfl)) rfl
theorem ck_X2_units : ckC yX2_units cX2_units 1 (some .int) 0 := ⟨⟨uw_1_8, uw_6_197⟩, by decide +kernel, by decide +kernel, by decide⟩
theorem uw_6_195 : (Jvm.Cond.instanceMethod ({ cls := "HideReader$Formula", name := "units", desc := "()I" } : Jvm.MethodName)) ∈ UT := ut_t (tm_6 (List.mem_of_getElem? (i := 195) rfl)) rfl
theorem uw_6_196 : (Jvm.Cond.selects "HideReader$Formula" ({ cls := "HideReader$Formula", name := "units", desc := "()I" } : Jvm.MethodName) ({ cls := "HideReader$Formula", name := "units", desc := "()I" } : Jvm.MethodName)) ∈ UT := ut_t (tm_6 (List.mem_of_getElem? (i := 196) rfl)) rfl
theorem iv_X2_units : Cond.instanceMethod yX2_units ∈ UT ∧ Cond.selects (yX2_units).cls yX2_units yX2_units ∈ UT := ⟨uw_6_195, uw_6_196⟩
theorem uw_6_194 : (Jvm.Cond.methodLink "HideReader" (402 : Nat) ({ cls := "HideReader$Formula", name := "units", desc := "()I" } : Jvm.MethodName)) ∈ UT := ut_t (tm_6 (List.mem_of_getElem? (i := 194) rfl)) rfl
theorem uw_6_177 : (Jvm.Cond.code ({ cls := "HideReader", name := "about", desc := "(I)I" } : Jvm.MethodName) prog_1_method_55_code (2 : Nat) (Option.some Jvm.ClassFile.FieldType.int)) ∈ UT := ut_t (tm_6 (List.mem_of_getElem? (i := 177) rfl)) rfl
theorem ck_X11_about : ckC yX11_about cX11_about 2 (some .int) 1 := ⟨⟨uw_1_1, uw_6_177⟩, by decide +kernel, by decide +kernel, by decide⟩
theorem uw_7_25 : (Jvm.Cond.fieldLink "HideReaderModel" (247 : Nat) "HideReaderModel" "taped" "I") ∈ UT := ut_t (tm_7 (List.mem_of_getElem? (i := 25) rfl)) rfl
theorem uw_9_204 : (Jvm.Cond.code ({ cls := "HideReaderModel", name := "feed", desc := "(IIIII)I" } : Jvm.MethodName) prog_14_method_132_code (8 : Nat) (Option.some Jvm.ClassFile.FieldType.int)) ∈ UT := ut_t (tm_9 (List.mem_of_getElem? (i := 204) rfl)) rfl
theorem ck_X12_feed : ckC yX12_feed cX12_feed 8 (some .int) 5 := ⟨⟨uw_1_17, uw_9_204⟩, by decide +kernel, by decide +kernel, by decide⟩
theorem uw_9_208 : (Jvm.Cond.code ({ cls := "HideReaderModel", name := "end", desc := "(I)I" } : Jvm.MethodName) prog_14_method_133_code (2 : Nat) (Option.some Jvm.ClassFile.FieldType.int)) ∈ UT := ut_t (tm_9 (List.mem_of_getElem? (i := 208) rfl)) rfl
theorem ck_X12_end : ckC yX12_end cX12_end 2 (some .int) 1 := ⟨⟨uw_1_17, uw_9_208⟩, by decide +kernel, by decide +kernel, by decide⟩
theorem uw_7_27 : (Jvm.Cond.fieldLink "HideReaderModel" (143 : Nat) "HideReaderModel" "faultKind" "I") ∈ UT := ut_t (tm_7 (List.mem_of_getElem? (i := 27) rfl)) rfl
theorem uw_7_26 : (Jvm.Cond.fieldLink "HideReaderModel" (140 : Nat) "HideReaderModel" "size" "I") ∈ UT := ut_t (tm_7 (List.mem_of_getElem? (i := 26) rfl)) rfl
theorem uw_7_30 : (Jvm.Cond.fieldLink "HideReaderModel" (182 : Nat) "HideReaderModel" "end" "I") ∈ UT := ut_t (tm_7 (List.mem_of_getElem? (i := 30) rfl)) rfl
theorem uw_7_29 : (Jvm.Cond.fieldLink "HideReaderModel" (185 : Nat) "HideReaderModel" "at" "I") ∈ UT := ut_t (tm_7 (List.mem_of_getElem? (i := 29) rfl)) rfl
theorem uw_7_227 : (Jvm.Cond.code ({ cls := "HideReaderModel", name := "sign", desc := "(I)I" } : Jvm.MethodName) prog_14_method_2_code (2 : Nat) (Option.some Jvm.ClassFile.FieldType.int)) ∈ UT := ut_t (tm_7 (List.mem_of_getElem? (i := 227) rfl)) rfl
theorem ck_X12_sign : ckC yX12_sign cX12_sign 2 (some .int) 1 := ⟨⟨uw_1_17, uw_7_227⟩, by decide +kernel, by decide +kernel, by decide⟩
theorem uw_7_226 : (Jvm.Cond.instanceMethod ({ cls := "HideReaderModel", name := "sign", desc := "(I)I" } : Jvm.MethodName)) ∈ UT := ut_t (tm_7 (List.mem_of_getElem? (i := 226) rfl)) rfl
theorem iv_X12_sign : Cond.instanceMethod yX12_sign ∈ UT ∧ Cond.selects (yX12_sign).cls yX12_sign yX12_sign ∈ UT := ⟨uw_7_226, ut_s (q := (yX12_sign, 64)) (List.mem_append_right _ (List.mem_append_right _ (List.mem_append_right _ (List.mem_append_left _ (List.mem_of_getElem? (i := 8) rfl))))) rfl⟩
theorem uw_7_224 : (Jvm.Cond.methodLink "HideReaderModel" (188 : Nat) ({ cls := "HideReaderModel", name := "sign", desc := "(I)I" } : Jvm.MethodName)) ∈ UT := ut_t (tm_7 (List.mem_of_getElem? (i := 224) rfl)) rfl
theorem uw_7_31 : (Jvm.Cond.fieldLink "HideReaderModel" (192 : Nat) "HideReaderModel" "token" "I") ∈ UT := ut_t (tm_7 (List.mem_of_getElem? (i := 31) rfl)) rfl
theorem uw_7_223 : (Jvm.Cond.code ({ cls := "HideReaderModel", name := "goOn", desc := "()V" } : Jvm.MethodName) prog_14_method_9_code (3 : Nat) (Option.none : Option Jvm.ClassFile.FieldType)) ∈ UT := ut_t (tm_7 (List.mem_of_getElem? (i := 223) rfl)) rfl
theorem ck_X12_goOn : ckC yX12_goOn cX12_goOn 3 none 0 := ⟨⟨uw_1_17, uw_7_223⟩, by decide +kernel, by decide +kernel, by decide⟩
theorem uw_7_222 : (Jvm.Cond.instanceMethod ({ cls := "HideReaderModel", name := "goOn", desc := "()V" } : Jvm.MethodName)) ∈ UT := ut_t (tm_7 (List.mem_of_getElem? (i := 222) rfl)) rfl
theorem iv_X12_goOn : Cond.instanceMethod yX12_goOn ∈ UT ∧ Cond.selects (yX12_goOn).cls yX12_goOn yX12_goOn ∈ UT := ⟨uw_7_222, ut_s (q := (yX12_goOn, 64)) (List.mem_append_right _ (List.mem_append_right _ (List.mem_append_right _ (List.mem_append_left _ (List.mem_of_getElem? (i := 7) rfl))))) rfl⟩
theorem uw_7_220 : (Jvm.Cond.methodLink "HideReaderModel" (224 : Nat) ({ cls := "HideReaderModel", name := "goOn", desc := "()V" } : Jvm.MethodName)) ∈ UT := ut_t (tm_7 (List.mem_of_getElem? (i := 220) rfl)) rfl
theorem uw_8_21 : (Jvm.Cond.code ({ cls := "HideReaderModel", name := "isGood", desc := "()Z" } : Jvm.MethodName) prog_14_method_6_code (1 : Nat) (Option.some Jvm.ClassFile.FieldType.boolean)) ∈ UT := ut_t (tm_8 (List.mem_of_getElem? (i := 21) rfl)) rfl
theorem ck_X12_isGood : ckC yX12_isGood cX12_isGood 1 (some .boolean) 0 := ⟨⟨uw_1_17, uw_8_21⟩, by decide +kernel, by decide +kernel, by decide⟩
theorem uw_8_20 : (Jvm.Cond.instanceMethod ({ cls := "HideReaderModel", name := "isGood", desc := "()Z" } : Jvm.MethodName)) ∈ UT := ut_t (tm_8 (List.mem_of_getElem? (i := 20) rfl)) rfl
theorem iv_X12_isGood : Cond.instanceMethod yX12_isGood ∈ UT ∧ Cond.selects (yX12_isGood).cls yX12_isGood yX12_isGood ∈ UT := ⟨uw_8_20, ut_s (q := (yX12_isGood, 64)) (List.mem_append_right _ (List.mem_append_right _ (List.mem_append_right _ (List.mem_append_left _ (List.mem_of_getElem? (i := 9) rfl))))) rfl⟩
theorem uw_8_18 : (Jvm.Cond.methodLink "HideReaderModel" (220 : Nat) ({ cls := "HideReaderModel", name := "isGood", desc := "()Z" } : Jvm.MethodName)) ∈ UT := ut_t (tm_8 (List.mem_of_getElem? (i := 18) rfl)) rfl
theorem uw_7_219 : (Jvm.Cond.code ({ cls := "HideReaderModel", name := "valley", desc := "()I" } : Jvm.MethodName) prog_14_method_17_code (2 : Nat) (Option.some Jvm.ClassFile.FieldType.int)) ∈ UT := ut_t (tm_7 (List.mem_of_getElem? (i := 219) rfl)) rfl
theorem ck_X12_valley : ckC yX12_valley cX12_valley 2 (some .int) 0 := ⟨⟨uw_1_17, uw_7_219⟩, by decide +kernel, by decide +kernel, by decide⟩
theorem uw_8_117 : (Jvm.Cond.code ({ cls := "HideReaderModel", name := "fault", desc := "(I)I" } : Jvm.MethodName) prog_14_method_37_code (2 : Nat) (Option.some Jvm.ClassFile.FieldType.int)) ∈ UT := ut_t (tm_8 (List.mem_of_getElem? (i := 117) rfl)) rfl
theorem ck_X12_fault : ckC yX12_fault cX12_fault 2 (some .int) 1 := ⟨⟨uw_1_17, uw_8_117⟩, by decide +kernel, by decide +kernel, by decide⟩
theorem uw_8_129 : (Jvm.Cond.code ({ cls := "HideReaderModel", name := "stocks", desc := "()I" } : Jvm.MethodName) prog_14_method_53_code (1 : Nat) (Option.some Jvm.ClassFile.FieldType.int)) ∈ UT := ut_t (tm_8 (List.mem_of_getElem? (i := 129) rfl)) rfl
theorem ck_X12_stocks : ckC yX12_stocks cX12_stocks 1 (some .int) 0 := ⟨⟨uw_1_17, uw_8_129⟩, by decide +kernel, by decide +kernel, by decide⟩
theorem uw_8_128 : (Jvm.Cond.instanceMethod ({ cls := "HideReaderModel", name := "stocks", desc := "()I" } : Jvm.MethodName)) ∈ UT := ut_t (tm_8 (List.mem_of_getElem? (i := 128) rfl)) rfl
theorem iv_X12_stocks : Cond.instanceMethod yX12_stocks ∈ UT ∧ Cond.selects (yX12_stocks).cls yX12_stocks yX12_stocks ∈ UT := ⟨uw_8_128, ut_s (q := (yX12_stocks, 64)) (List.mem_append_right _ (List.mem_append_right _ (List.mem_append_right _ (List.mem_append_right _ (List.mem_append_right _ (List.mem_append_left _ (List.mem_of_getElem? (i := 2) rfl))))))) rfl⟩
theorem uw_8_126 : (Jvm.Cond.methodLink "HideReaderModel" (367 : Nat) ({ cls := "HideReaderModel", name := "stocks", desc := "()I" } : Jvm.MethodName)) ∈ UT := ut_t (tm_8 (List.mem_of_getElem? (i := 126) rfl)) rfl
theorem uw_8_132 : (Jvm.Cond.code ({ cls := "HideReaderModel", name := "isIn", desc := "(III)Z" } : Jvm.MethodName) prog_14_method_38_code (3 : Nat) (Option.some Jvm.ClassFile.FieldType.boolean)) ∈ UT := ut_t (tm_8 (List.mem_of_getElem? (i := 132) rfl)) rfl
theorem ck_X12_isIn : ckC yX12_isIn cX12_isIn 3 (some .boolean) 3 := ⟨⟨uw_1_17, uw_8_132⟩, by decide +kernel, by decide +kernel, by decide⟩
theorem uw_8_131 : (Jvm.Cond.static ({ cls := "HideReaderModel", name := "isIn", desc := "(III)Z" } : Jvm.MethodName)) ∈ UT := ut_t (tm_8 (List.mem_of_getElem? (i := 131) rfl)) rfl
theorem uw_8_130 : (Jvm.Cond.methodLink "HideReaderModel" (370 : Nat) ({ cls := "HideReaderModel", name := "isIn", desc := "(III)Z" } : Jvm.MethodName)) ∈ UT := ut_t (tm_8 (List.mem_of_getElem? (i := 130) rfl)) rfl
theorem uw_8_125 : (Jvm.Cond.code ({ cls := "HideReaderModel", name := "isHerd", desc := "(I)Z" } : Jvm.MethodName) prog_14_method_56_code (2 : Nat) (Option.some Jvm.ClassFile.FieldType.boolean)) ∈ UT := ut_t (tm_8 (List.mem_of_getElem? (i := 125) rfl)) rfl
theorem ck_X12_isHerd : ckC yX12_isHerd cX12_isHerd 2 (some .boolean) 1 := ⟨⟨uw_1_17, uw_8_125⟩, by decide +kernel, by decide +kernel, by decide⟩
theorem uw_8_124 : (Jvm.Cond.instanceMethod ({ cls := "HideReaderModel", name := "isHerd", desc := "(I)Z" } : Jvm.MethodName)) ∈ UT := ut_t (tm_8 (List.mem_of_getElem? (i := 124) rfl)) rfl
theorem iv_X12_isHerd : Cond.instanceMethod yX12_isHerd ∈ UT ∧ Cond.selects (yX12_isHerd).cls yX12_isHerd yX12_isHerd ∈ UT := ⟨uw_8_124, ut_s (q := (yX12_isHerd, 64)) (List.mem_append_right _ (List.mem_append_right _ (List.mem_append_right _ (List.mem_append_right _ (List.mem_append_right _ (List.mem_append_left _ (List.mem_of_getElem? (i := 1) rfl))))))) rfl⟩
theorem uw_8_122 : (Jvm.Cond.methodLink "HideReaderModel" (414 : Nat) ({ cls := "HideReaderModel", name := "isHerd", desc := "(I)Z" } : Jvm.MethodName)) ∈ UT := ut_t (tm_8 (List.mem_of_getElem? (i := 122) rfl)) rfl
theorem uw_8_121 : (Jvm.Cond.code ({ cls := "HideReaderModel", name := "brand", desc := "(I)I" } : Jvm.MethodName) prog_14_method_67_code (2 : Nat) (Option.some Jvm.ClassFile.FieldType.int)) ∈ UT := ut_t (tm_8 (List.mem_of_getElem? (i := 121) rfl)) rfl
theorem ck_X12_brand : ckC yX12_brand cX12_brand 2 (some .int) 1 := ⟨⟨uw_1_17, uw_8_121⟩, by decide +kernel, by decide +kernel, by decide⟩
theorem uw_8_140 : (Jvm.Cond.code ({ cls := "HideReaderModel", name := "isIron", desc := "(I)Z" } : Jvm.MethodName) prog_14_method_57_code (2 : Nat) (Option.some Jvm.ClassFile.FieldType.boolean)) ∈ UT := ut_t (tm_8 (List.mem_of_getElem? (i := 140) rfl)) rfl
theorem ck_X12_isIron : ckC yX12_isIron cX12_isIron 2 (some .boolean) 1 := ⟨⟨uw_1_17, uw_8_140⟩, by decide +kernel, by decide +kernel, by decide⟩
theorem uw_8_139 : (Jvm.Cond.instanceMethod ({ cls := "HideReaderModel", name := "isIron", desc := "(I)Z" } : Jvm.MethodName)) ∈ UT := ut_t (tm_8 (List.mem_of_getElem? (i := 139) rfl)) rfl
theorem iv_X12_isIron : Cond.instanceMethod yX12_isIron ∈ UT ∧ Cond.selects (yX12_isIron).cls yX12_isIron yX12_isIron ∈ UT := ⟨uw_8_139, ut_s (q := (yX12_isIron, 64)) (List.mem_append_right _ (List.mem_append_right _ (List.mem_append_right _ (List.mem_append_right _ (List.mem_append_right _ (List.mem_append_left _ (List.mem_of_getElem? (i := 3) rfl))))))) rfl⟩
theorem uw_8_137 : (Jvm.Cond.methodLink "HideReaderModel" (417 : Nat) ({ cls := "HideReaderModel", name := "isIron", desc := "(I)Z" } : Jvm.MethodName)) ∈ UT := ut_t (tm_8 (List.mem_of_getElem? (i := 137) rfl)) rfl
theorem uw_8_136 : (Jvm.Cond.code ({ cls := "HideReaderModel", name := "iron", desc := "(I)I" } : Jvm.MethodName) prog_14_method_68_code (2 : Nat) (Option.some Jvm.ClassFile.FieldType.int)) ∈ UT := ut_t (tm_8 (List.mem_of_getElem? (i := 136) rfl)) rfl
theorem ck_X12_iron : ckC yX12_iron cX12_iron 2 (some .int) 1 := ⟨⟨uw_1_17, uw_8_136⟩, by decide +kernel, by decide +kernel, by decide⟩
theorem uw_8_148 : (Jvm.Cond.code ({ cls := "HideReaderModel", name := "isBeast", desc := "(I)Z" } : Jvm.MethodName) prog_14_method_58_code (2 : Nat) (Option.some Jvm.ClassFile.FieldType.boolean)) ∈ UT := ut_t (tm_8 (List.mem_of_getElem? (i := 148) rfl)) rfl
theorem ck_X12_isBeast : ckC yX12_isBeast cX12_isBeast 2 (some .boolean) 1 := ⟨⟨uw_1_17, uw_8_148⟩, by decide +kernel, by decide +kernel, by decide⟩
theorem uw_8_147 : (Jvm.Cond.instanceMethod ({ cls := "HideReaderModel", name := "isBeast", desc := "(I)Z" } : Jvm.MethodName)) ∈ UT := ut_t (tm_8 (List.mem_of_getElem? (i := 147) rfl)) rfl
theorem iv_X12_isBeast : Cond.instanceMethod yX12_isBeast ∈ UT ∧ Cond.selects (yX12_isBeast).cls yX12_isBeast yX12_isBeast ∈ UT := ⟨uw_8_147, ut_s (q := (yX12_isBeast, 64)) (List.mem_append_right _ (List.mem_append_right _ (List.mem_append_right _ (List.mem_append_right _ (List.mem_append_right _ (List.mem_append_left _ (List.mem_of_getElem? (i := 4) rfl))))))) rfl⟩
theorem uw_8_145 : (Jvm.Cond.methodLink "HideReaderModel" (420 : Nat) ({ cls := "HideReaderModel", name := "isBeast", desc := "(I)Z" } : Jvm.MethodName)) ∈ UT := ut_t (tm_8 (List.mem_of_getElem? (i := 145) rfl)) rfl
theorem uw_8_144 : (Jvm.Cond.code ({ cls := "HideReaderModel", name := "beast", desc := "(II)I" } : Jvm.MethodName) prog_14_method_69_code (3 : Nat) (Option.some Jvm.ClassFile.FieldType.int)) ∈ UT := ut_t (tm_8 (List.mem_of_getElem? (i := 144) rfl)) rfl
theorem ck_X12_beast : ckC yX12_beast cX12_beast 3 (some .int) 2 := ⟨⟨uw_1_17, uw_8_144⟩, by decide +kernel, by decide +kernel, by decide⟩
theorem uw_8_174 : (Jvm.Cond.code ({ cls := "HideReaderModel", name := "age", desc := "(II)I" } : Jvm.MethodName) prog_14_method_70_code (3 : Nat) (Option.some Jvm.ClassFile.FieldType.int)) ∈ UT := ut_t (tm_8 (List.mem_of_getElem? (i := 174) rfl)) rfl
theorem ck_X12_age : ckC yX12_age cX12_age 3 (some .int) 2 := ⟨⟨uw_1_17, uw_8_174⟩, by decide +kernel, by decide +kernel, by decide⟩
theorem uw_8_181 : (Jvm.Cond.code ({ cls := "HideReaderModel", name := "isMark", desc := "(I)Z" } : Jvm.MethodName) prog_14_method_43_code (1 : Nat) (Option.some Jvm.ClassFile.FieldType.boolean)) ∈ UT := ut_t (tm_8 (List.mem_of_getElem? (i := 181) rfl)) rfl
theorem ck_X12_isMark : ckC yX12_isMark cX12_isMark 1 (some .boolean) 1 := ⟨⟨uw_1_17, uw_8_181⟩, by decide +kernel, by decide +kernel, by decide⟩
theorem uw_8_180 : (Jvm.Cond.static ({ cls := "HideReaderModel", name := "isMark", desc := "(I)Z" } : Jvm.MethodName)) ∈ UT := ut_t (tm_8 (List.mem_of_getElem? (i := 180) rfl)) rfl
theorem uw_8_179 : (Jvm.Cond.methodLink "HideReaderModel" (426 : Nat) ({ cls := "HideReaderModel", name := "isMark", desc := "(I)Z" } : Jvm.MethodName)) ∈ UT := ut_t (tm_8 (List.mem_of_getElem? (i := 179) rfl)) rfl
theorem uw_7_10 : (Jvm.Cond.code ({ cls := "HideReaderModel", name := "placedBy", desc := "(II)I" } : Jvm.MethodName) prog_14_method_49_code (6 : Nat) (Option.some Jvm.ClassFile.FieldType.int)) ∈ UT := ut_t (tm_7 (List.mem_of_getElem? (i := 10) rfl)) rfl
theorem ck_X12_placedBy : ckC yX12_placedBy cX12_placedBy 6 (some .int) 2 := ⟨⟨uw_1_17, uw_7_10⟩, by decide +kernel, by decide +kernel, by decide⟩
theorem uw_7_9 : (Jvm.Cond.instanceMethod ({ cls := "HideReaderModel", name := "placedBy", desc := "(II)I" } : Jvm.MethodName)) ∈ UT := ut_t (tm_7 (List.mem_of_getElem? (i := 9) rfl)) rfl
theorem iv_X12_placedBy : Cond.instanceMethod yX12_placedBy ∈ UT ∧ Cond.selects (yX12_placedBy).cls yX12_placedBy yX12_placedBy ∈ UT := ⟨uw_7_9, ut_s (q := (yX12_placedBy, 64)) (List.mem_append_right _ (List.mem_append_right _ (List.mem_append_right _ (List.mem_append_left _ (List.mem_of_getElem? (i := 6) rfl))))) rfl⟩
theorem uw_7_7 : (Jvm.Cond.methodLink "HideReaderModel" (361 : Nat) ({ cls := "HideReaderModel", name := "placedBy", desc := "(II)I" } : Jvm.MethodName)) ∈ UT := ut_t (tm_7 (List.mem_of_getElem? (i := 7) rfl)) rfl
theorem uw_8_178 : (Jvm.Cond.code ({ cls := "HideReaderModel", name := "placed", desc := "(II)I" } : Jvm.MethodName) prog_14_method_71_code (3 : Nat) (Option.some Jvm.ClassFile.FieldType.int)) ∈ UT := ut_t (tm_8 (List.mem_of_getElem? (i := 178) rfl)) rfl
theorem ck_X12_placed : ckC yX12_placed cX12_placed 3 (some .int) 2 := ⟨⟨uw_1_17, uw_8_178⟩, by decide +kernel, by decide +kernel, by decide⟩
theorem uw_8_189 : (Jvm.Cond.code ({ cls := "HideReaderModel", name := "isUnder", desc := "(II)Z" } : Jvm.MethodName) prog_14_method_50_code (4 : Nat) (Option.some Jvm.ClassFile.FieldType.boolean)) ∈ UT := ut_t (tm_8 (List.mem_of_getElem? (i := 189) rfl)) rfl
theorem ck_X12_isUnder : ckC yX12_isUnder cX12_isUnder 4 (some .boolean) 2 := ⟨⟨uw_1_17, uw_8_189⟩, by decide +kernel, by decide +kernel, by decide⟩
theorem uw_8_188 : (Jvm.Cond.instanceMethod ({ cls := "HideReaderModel", name := "isUnder", desc := "(II)Z" } : Jvm.MethodName)) ∈ UT := ut_t (tm_8 (List.mem_of_getElem? (i := 188) rfl)) rfl
theorem iv_X12_isUnder : Cond.instanceMethod yX12_isUnder ∈ UT ∧ Cond.selects (yX12_isUnder).cls yX12_isUnder yX12_isUnder ∈ UT := ⟨uw_8_188, ut_s (q := (yX12_isUnder, 64)) (List.mem_append_right _ (List.mem_append_right _ (List.mem_append_right _ (List.mem_append_right _ (List.mem_append_right _ (List.mem_append_left _ (List.mem_of_getElem? (i := 9) rfl))))))) rfl⟩
theorem uw_8_186 : (Jvm.Cond.methodLink "HideReaderModel" (429 : Nat) ({ cls := "HideReaderModel", name := "isUnder", desc := "(II)Z" } : Jvm.MethodName)) ∈ UT := ut_t (tm_8 (List.mem_of_getElem? (i := 186) rfl)) rfl
theorem uw_8_185 : (Jvm.Cond.code ({ cls := "HideReaderModel", name := "under", desc := "(II)I" } : Jvm.MethodName) prog_14_method_72_code (3 : Nat) (Option.some Jvm.ClassFile.FieldType.int)) ∈ UT := ut_t (tm_8 (List.mem_of_getElem? (i := 185) rfl)) rfl
theorem ck_X12_under : ckC yX12_under cX12_under 3 (some .int) 2 := ⟨⟨uw_1_17, uw_8_185⟩, by decide +kernel, by decide +kernel, by decide⟩
theorem uw_9_1 : (Jvm.Cond.code ({ cls := "HideReaderModel", name := "keepAct", desc := "()V" } : Jvm.MethodName) prog_14_method_82_code (2 : Nat) (Option.none : Option Jvm.ClassFile.FieldType)) ∈ UT := ut_t (tm_9 (List.mem_of_getElem? (i := 1) rfl)) rfl
theorem ck_X12_keepAct : ckC yX12_keepAct cX12_keepAct 2 none 0 := ⟨⟨uw_1_17, uw_9_1⟩, by decide +kernel, by decide +kernel, by decide⟩
theorem uw_9_0 : (Jvm.Cond.instanceMethod ({ cls := "HideReaderModel", name := "keepAct", desc := "()V" } : Jvm.MethodName)) ∈ UT := ut_t (tm_9 (List.mem_of_getElem? (i := 0) rfl)) rfl
theorem iv_X12_keepAct : Cond.instanceMethod yX12_keepAct ∈ UT ∧ Cond.selects (yX12_keepAct).cls yX12_keepAct yX12_keepAct ∈ UT := ⟨uw_9_0, ut_s (q := (yX12_keepAct, 64)) (List.mem_append_right _ (List.mem_append_right _ (List.mem_append_right _ (List.mem_append_right _ (List.mem_append_right _ (List.mem_append_left _ (List.mem_of_getElem? (i := 13) rfl))))))) rfl⟩
theorem uw_8_238 : (Jvm.Cond.methodLink "HideReaderModel" (438 : Nat) ({ cls := "HideReaderModel", name := "keepAct", desc := "()V" } : Jvm.MethodName)) ∈ UT := ut_t (tm_8 (List.mem_of_getElem? (i := 238) rfl)) rfl
theorem uw_8_237 : (Jvm.Cond.code ({ cls := "HideReaderModel", name := "season", desc := "()I" } : Jvm.MethodName) prog_14_method_85_code (4 : Nat) (Option.some Jvm.ClassFile.FieldType.int)) ∈ UT := ut_t (tm_8 (List.mem_of_getElem? (i := 237) rfl)) rfl
theorem ck_X12_season : ckC yX12_season cX12_season 4 (some .int) 0 := ⟨⟨uw_1_17, uw_8_237⟩, by decide +kernel, by decide +kernel, by decide⟩
theorem uw_9_9 : (Jvm.Cond.code ({ cls := "HideReaderModel", name := "burn", desc := "(III)I" } : Jvm.MethodName) prog_14_method_86_code (4 : Nat) (Option.some Jvm.ClassFile.FieldType.int)) ∈ UT := ut_t (tm_9 (List.mem_of_getElem? (i := 9) rfl)) rfl
theorem ck_X12_burn : ckC yX12_burn cX12_burn 4 (some .int) 3 := ⟨⟨uw_1_17, uw_9_9⟩, by decide +kernel, by decide +kernel, by decide⟩
theorem uw_9_13 : (Jvm.Cond.code ({ cls := "HideReaderModel", name := "sell", desc := "(II)I" } : Jvm.MethodName) prog_14_method_87_code (4 : Nat) (Option.some Jvm.ClassFile.FieldType.int)) ∈ UT := ut_t (tm_9 (List.mem_of_getElem? (i := 13) rfl)) rfl
theorem ck_X12_sell : ckC yX12_sell cX12_sell 4 (some .int) 2 := ⟨⟨uw_1_17, uw_9_13⟩, by decide +kernel, by decide +kernel, by decide⟩
theorem uw_9_17 : (Jvm.Cond.code ({ cls := "HideReaderModel", name := "clean", desc := "(I)I" } : Jvm.MethodName) prog_14_method_88_code (5 : Nat) (Option.some Jvm.ClassFile.FieldType.int)) ∈ UT := ut_t (tm_9 (List.mem_of_getElem? (i := 17) rfl)) rfl
theorem ck_X12_clean : ckC yX12_clean cX12_clean 5 (some .int) 1 := ⟨⟨uw_1_17, uw_9_17⟩, by decide +kernel, by decide +kernel, by decide⟩
theorem uw_9_21 : (Jvm.Cond.code ({ cls := "HideReaderModel", name := "undo", desc := "()Z" } : Jvm.MethodName) prog_14_method_89_code (1 : Nat) (Option.some Jvm.ClassFile.FieldType.boolean)) ∈ UT := ut_t (tm_9 (List.mem_of_getElem? (i := 21) rfl)) rfl
theorem ck_X12_undo : ckC yX12_undo cX12_undo 1 (some .boolean) 0 := ⟨⟨uw_1_17, uw_9_21⟩, by decide +kernel, by decide +kernel, by decide⟩
theorem uw_9_29 : (Jvm.Cond.code ({ cls := "HideReaderModel", name := "redo", desc := "()Z" } : Jvm.MethodName) prog_14_method_90_code (1 : Nat) (Option.some Jvm.ClassFile.FieldType.boolean)) ∈ UT := ut_t (tm_9 (List.mem_of_getElem? (i := 29) rfl)) rfl
theorem ck_X12_redo : ckC yX12_redo cX12_redo 1 (some .boolean) 0 := ⟨⟨uw_1_17, uw_9_29⟩, by decide +kernel, by decide +kernel, by decide⟩
theorem uw_9_49 : (Jvm.Cond.code ({ cls := "HideReaderModel", name := "forge", desc := "(II)I" } : Jvm.MethodName) prog_14_method_95_code (6 : Nat) (Option.some Jvm.ClassFile.FieldType.int)) ∈ UT := ut_t (tm_9 (List.mem_of_getElem? (i := 49) rfl)) rfl
theorem ck_X12_forge : ckC yX12_forge cX12_forge 6 (some .int) 2 := ⟨⟨uw_1_17, uw_9_49⟩, by decide +kernel, by decide +kernel, by decide⟩
theorem uw_9_77 : (Jvm.Cond.code ({ cls := "HideReaderModel", name := "chain", desc := "()I" } : Jvm.MethodName) prog_14_method_103_code (5 : Nat) (Option.some Jvm.ClassFile.FieldType.int)) ∈ UT := ut_t (tm_9 (List.mem_of_getElem? (i := 77) rfl)) rfl
theorem ck_X12_chain : ckC yX12_chain cX12_chain 5 (some .int) 0 := ⟨⟨uw_1_17, uw_9_77⟩, by decide +kernel, by decide +kernel, by decide⟩
theorem uw_9_85 : (Jvm.Cond.code ({ cls := "HideReaderModel", name := "lowest", desc := "()I" } : Jvm.MethodName) prog_14_method_104_code (5 : Nat) (Option.some Jvm.ClassFile.FieldType.int)) ∈ UT := ut_t (tm_9 (List.mem_of_getElem? (i := 85) rfl)) rfl
theorem ck_X12_lowest : ckC yX12_lowest cX12_lowest 5 (some .int) 0 := ⟨⟨uw_1_17, uw_9_85⟩, by decide +kernel, by decide +kernel, by decide⟩
theorem uw_9_89 : (Jvm.Cond.code ({ cls := "HideReaderModel", name := "highest", desc := "()I" } : Jvm.MethodName) prog_14_method_105_code (5 : Nat) (Option.some Jvm.ClassFile.FieldType.int)) ∈ UT := ut_t (tm_9 (List.mem_of_getElem? (i := 89) rfl)) rfl
theorem ck_X12_highest : ckC yX12_highest cX12_highest 5 (some .int) 0 := ⟨⟨uw_1_17, uw_9_89⟩, by decide +kernel, by decide +kernel, by decide⟩
theorem uw_9_53 : (Jvm.Cond.code ({ cls := "HideReaderModel", name := "origins", desc := "(I)I" } : Jvm.MethodName) prog_14_method_96_code (4 : Nat) (Option.some Jvm.ClassFile.FieldType.int)) ∈ UT := ut_t (tm_9 (List.mem_of_getElem? (i := 53) rfl)) rfl
theorem ck_X12_origins : ckC yX12_origins cX12_origins 4 (some .int) 1 := ⟨⟨uw_1_17, uw_9_53⟩, by decide +kernel, by decide +kernel, by decide⟩
theorem uw_9_129 : (Jvm.Cond.code ({ cls := "HideReaderModel", name := "read", desc := "(I)I" } : Jvm.MethodName) prog_14_method_115_code (4 : Nat) (Option.some Jvm.ClassFile.FieldType.int)) ∈ UT := ut_t (tm_9 (List.mem_of_getElem? (i := 129) rfl)) rfl
theorem ck_X12_read : ckC yX12_read cX12_read 4 (some .int) 1 := ⟨⟨uw_1_17, uw_9_129⟩, by decide +kernel, by decide +kernel, by decide⟩
theorem uw_9_57 : (Jvm.Cond.code ({ cls := "HideReaderModel", name := "claim", desc := "(I)I" } : Jvm.MethodName) prog_14_method_97_code (4 : Nat) (Option.some Jvm.ClassFile.FieldType.int)) ∈ UT := ut_t (tm_9 (List.mem_of_getElem? (i := 57) rfl)) rfl
theorem ck_X12_claim : ckC yX12_claim cX12_claim 4 (some .int) 1 := ⟨⟨uw_1_17, uw_9_57⟩, by decide +kernel, by decide +kernel, by decide⟩
theorem uw_9_61 : (Jvm.Cond.code ({ cls := "HideReaderModel", name := "safe", desc := "()I" } : Jvm.MethodName) prog_14_method_98_code (4 : Nat) (Option.some Jvm.ClassFile.FieldType.int)) ∈ UT := ut_t (tm_9 (List.mem_of_getElem? (i := 61) rfl)) rfl
theorem ck_X12_safe : ckC yX12_safe cX12_safe 4 (some .int) 0 := ⟨⟨uw_1_17, uw_9_61⟩, by decide +kernel, by decide +kernel, by decide⟩
theorem uw_9_65 : (Jvm.Cond.code ({ cls := "HideReaderModel", name := "king", desc := "(I)I" } : Jvm.MethodName) prog_14_method_99_code (7 : Nat) (Option.some Jvm.ClassFile.FieldType.int)) ∈ UT := ut_t (tm_9 (List.mem_of_getElem? (i := 65) rfl)) rfl
theorem ck_X12_king : ckC yX12_king cX12_king 7 (some .int) 1 := ⟨⟨uw_1_17, uw_9_65⟩, by decide +kernel, by decide +kernel, by decide⟩
theorem uw_9_69 : (Jvm.Cond.code ({ cls := "HideReaderModel", name := "tempt", desc := "(II)I" } : Jvm.MethodName) prog_14_method_100_code (7 : Nat) (Option.some Jvm.ClassFile.FieldType.int)) ∈ UT := ut_t (tm_9 (List.mem_of_getElem? (i := 69) rfl)) rfl
theorem ck_X12_tempt : ckC yX12_tempt cX12_tempt 7 (some .int) 2 := ⟨⟨uw_1_17, uw_9_69⟩, by decide +kernel, by decide +kernel, by decide⟩
theorem uw_9_73 : (Jvm.Cond.code ({ cls := "HideReaderModel", name := "useful", desc := "()I" } : Jvm.MethodName) prog_14_method_101_code (5 : Nat) (Option.some Jvm.ClassFile.FieldType.int)) ∈ UT := ut_t (tm_9 (List.mem_of_getElem? (i := 73) rfl)) rfl
theorem ck_X12_useful : ckC yX12_useful cX12_useful 5 (some .int) 0 := ⟨⟨uw_1_17, uw_9_73⟩, by decide +kernel, by decide +kernel, by decide⟩
theorem uw_9_101 : (Jvm.Cond.code ({ cls := "HideReaderModel", name := "nearest", desc := "(II)I" } : Jvm.MethodName) prog_14_method_109_code (5 : Nat) (Option.some Jvm.ClassFile.FieldType.int)) ∈ UT := ut_t (tm_9 (List.mem_of_getElem? (i := 101) rfl)) rfl
theorem ck_X12_nearest : ckC yX12_nearest cX12_nearest 5 (some .int) 2 := ⟨⟨uw_1_17, uw_9_101⟩, by decide +kernel, by decide +kernel, by decide⟩
theorem uw_9_109 : (Jvm.Cond.code ({ cls := "HideReaderModel", name := "shared", desc := "(II)I" } : Jvm.MethodName) prog_14_method_110_code (6 : Nat) (Option.some Jvm.ClassFile.FieldType.int)) ∈ UT := ut_t (tm_9 (List.mem_of_getElem? (i := 109) rfl)) rfl
theorem ck_X12_shared : ckC yX12_shared cX12_shared 6 (some .int) 2 := ⟨⟨uw_1_17, uw_9_109⟩, by decide +kernel, by decide +kernel, by decide⟩
theorem uw_9_113 : (Jvm.Cond.code ({ cls := "HideReaderModel", name := "fades", desc := "(I)I" } : Jvm.MethodName) prog_14_method_112_code (3 : Nat) (Option.some Jvm.ClassFile.FieldType.int)) ∈ UT := ut_t (tm_9 (List.mem_of_getElem? (i := 113) rfl)) rfl
theorem ck_X12_fades : ckC yX12_fades cX12_fades 3 (some .int) 1 := ⟨⟨uw_1_17, uw_9_113⟩, by decide +kernel, by decide +kernel, by decide⟩
theorem uw_9_97 : (Jvm.Cond.code ({ cls := "HideReaderModel", name := "twins", desc := "()I" } : Jvm.MethodName) prog_14_method_107_code (4 : Nat) (Option.some Jvm.ClassFile.FieldType.int)) ∈ UT := ut_t (tm_9 (List.mem_of_getElem? (i := 97) rfl)) rfl
theorem ck_X12_twins : ckC yX12_twins cX12_twins 4 (some .int) 0 := ⟨⟨uw_1_17, uw_9_97⟩, by decide +kernel, by decide +kernel, by decide⟩
theorem uw_8_217 : (Jvm.Cond.code ({ cls := "HideReaderModel", name := "untouched", desc := "()I" } : Jvm.MethodName) prog_14_method_77_code (3 : Nat) (Option.some Jvm.ClassFile.FieldType.int)) ∈ UT := ut_t (tm_8 (List.mem_of_getElem? (i := 217) rfl)) rfl
theorem ck_X12_untouched : ckC yX12_untouched cX12_untouched 3 (some .int) 0 := ⟨⟨uw_1_17, uw_8_217⟩, by decide +kernel, by decide +kernel, by decide⟩
theorem uw_8_221 : (Jvm.Cond.code ({ cls := "HideReaderModel", name := "tells", desc := "()I" } : Jvm.MethodName) prog_14_method_78_code (6 : Nat) (Option.some Jvm.ClassFile.FieldType.int)) ∈ UT := ut_t (tm_8 (List.mem_of_getElem? (i := 221) rfl)) rfl
theorem ck_X12_tells : ckC yX12_tells cX12_tells 6 (some .int) 0 := ⟨⟨uw_1_17, uw_8_221⟩, by decide +kernel, by decide +kernel, by decide⟩
theorem uw_9_133 : (Jvm.Cond.code ({ cls := "HideReaderModel", name := "raid", desc := "(II)I" } : Jvm.MethodName) prog_14_method_118_code (5 : Nat) (Option.some Jvm.ClassFile.FieldType.int)) ∈ UT := ut_t (tm_9 (List.mem_of_getElem? (i := 133) rfl)) rfl
theorem ck_X12_raid : ckC yX12_raid cX12_raid 5 (some .int) 2 := ⟨⟨uw_1_17, uw_9_133⟩, by decide +kernel, by decide +kernel, by decide⟩
theorem uw_9_93 : (Jvm.Cond.code ({ cls := "HideReaderModel", name := "closed", desc := "()I" } : Jvm.MethodName) prog_14_method_106_code (3 : Nat) (Option.some Jvm.ClassFile.FieldType.int)) ∈ UT := ut_t (tm_9 (List.mem_of_getElem? (i := 93) rfl)) rfl
theorem ck_X12_closed : ckC yX12_closed cX12_closed 3 (some .int) 0 := ⟨⟨uw_1_17, uw_9_93⟩, by decide +kernel, by decide +kernel, by decide⟩
theorem uw_8_201 : (Jvm.Cond.code ({ cls := "HideReaderModel", name := "faces", desc := "(I)I" } : Jvm.MethodName) prog_14_method_74_code (6 : Nat) (Option.some Jvm.ClassFile.FieldType.int)) ∈ UT := ut_t (tm_8 (List.mem_of_getElem? (i := 201) rfl)) rfl
theorem ck_X12_faces : ckC yX12_faces cX12_faces 6 (some .int) 1 := ⟨⟨uw_1_17, uw_8_201⟩, by decide +kernel, by decide +kernel, by decide⟩
theorem uw_8_197 : (Jvm.Cond.code ({ cls := "HideReaderModel", name := "normOf", desc := "(I)I" } : Jvm.MethodName) prog_14_method_51_code (5 : Nat) (Option.some Jvm.ClassFile.FieldType.int)) ∈ UT := ut_t (tm_8 (List.mem_of_getElem? (i := 197) rfl)) rfl
theorem ck_X12_normOf : ckC yX12_normOf cX12_normOf 5 (some .int) 1 := ⟨⟨uw_1_17, uw_8_197⟩, by decide +kernel, by decide +kernel, by decide⟩
theorem uw_8_196 : (Jvm.Cond.instanceMethod ({ cls := "HideReaderModel", name := "normOf", desc := "(I)I" } : Jvm.MethodName)) ∈ UT := ut_t (tm_8 (List.mem_of_getElem? (i := 196) rfl)) rfl
theorem iv_X12_normOf : Cond.instanceMethod yX12_normOf ∈ UT ∧ Cond.selects (yX12_normOf).cls yX12_normOf yX12_normOf ∈ UT := ⟨uw_8_196, ut_s (q := (yX12_normOf, 64)) (List.mem_append_right _ (List.mem_append_right _ (List.mem_append_right _ (List.mem_append_right _ (List.mem_append_right _ (List.mem_append_left _ (List.mem_of_getElem? (i := 10) rfl))))))) rfl⟩
theorem uw_8_194 : (Jvm.Cond.methodLink "HideReaderModel" (364 : Nat) ({ cls := "HideReaderModel", name := "normOf", desc := "(I)I" } : Jvm.MethodName)) ∈ UT := ut_t (tm_8 (List.mem_of_getElem? (i := 194) rfl)) rfl
theorem uw_8_193 : (Jvm.Cond.code ({ cls := "HideReaderModel", name := "norm", desc := "(I)I" } : Jvm.MethodName) prog_14_method_73_code (2 : Nat) (Option.some Jvm.ClassFile.FieldType.int)) ∈ UT := ut_t (tm_8 (List.mem_of_getElem? (i := 193) rfl)) rfl
theorem ck_X12_norm : ckC yX12_norm cX12_norm 2 (some .int) 1 := ⟨⟨uw_1_17, uw_8_193⟩, by decide +kernel, by decide +kernel, by decide⟩
theorem uw_8_209 : (Jvm.Cond.code ({ cls := "HideReaderModel", name := "strays", desc := "()I" } : Jvm.MethodName) prog_14_method_76_code (3 : Nat) (Option.some Jvm.ClassFile.FieldType.int)) ∈ UT := ut_t (tm_8 (List.mem_of_getElem? (i := 209) rfl)) rfl
theorem ck_X12_strays : ckC yX12_strays cX12_strays 3 (some .int) 0 := ⟨⟨uw_1_17, uw_8_209⟩, by decide +kernel, by decide +kernel, by decide⟩
theorem uw_8_205 : (Jvm.Cond.code ({ cls := "HideReaderModel", name := "oldest", desc := "(I)I" } : Jvm.MethodName) prog_14_method_75_code (4 : Nat) (Option.some Jvm.ClassFile.FieldType.int)) ∈ UT := ut_t (tm_8 (List.mem_of_getElem? (i := 205) rfl)) rfl
theorem ck_X12_oldest : ckC yX12_oldest cX12_oldest 4 (some .int) 1 := ⟨⟨uw_1_17, uw_8_205⟩, by decide +kernel, by decide +kernel, by decide⟩
theorem uw_8_229 : (Jvm.Cond.code ({ cls := "HideReaderModel", name := "shownAt", desc := "(II)I" } : Jvm.MethodName) prog_14_method_79_code (7 : Nat) (Option.some Jvm.ClassFile.FieldType.int)) ∈ UT := ut_t (tm_8 (List.mem_of_getElem? (i := 229) rfl)) rfl
theorem ck_X12_shownAt : ckC yX12_shownAt cX12_shownAt 7 (some .int) 2 := ⟨⟨uw_1_17, uw_8_229⟩, by decide +kernel, by decide +kernel, by decide⟩
theorem uw_8_228 : (Jvm.Cond.instanceMethod ({ cls := "HideReaderModel", name := "shownAt", desc := "(II)I" } : Jvm.MethodName)) ∈ UT := ut_t (tm_8 (List.mem_of_getElem? (i := 228) rfl)) rfl
theorem iv_X12_shownAt : Cond.instanceMethod yX12_shownAt ∈ UT ∧ Cond.selects (yX12_shownAt).cls yX12_shownAt yX12_shownAt ∈ UT := ⟨uw_8_228, ut_s (q := (yX12_shownAt, 64)) (List.mem_append_right _ (List.mem_append_right _ (List.mem_append_right _ (List.mem_append_right _ (List.mem_append_right _ (List.mem_append_left _ (List.mem_of_getElem? (i := 12) rfl))))))) rfl⟩
theorem uw_8_226 : (Jvm.Cond.methodLink "HideReaderModel" (435 : Nat) ({ cls := "HideReaderModel", name := "shownAt", desc := "(II)I" } : Jvm.MethodName)) ∈ UT := ut_t (tm_8 (List.mem_of_getElem? (i := 226) rfl)) rfl
theorem uw_8_225 : (Jvm.Cond.code ({ cls := "HideReaderModel", name := "will", desc := "(I)I" } : Jvm.MethodName) prog_14_method_80_code (2 : Nat) (Option.some Jvm.ClassFile.FieldType.int)) ∈ UT := ut_t (tm_8 (List.mem_of_getElem? (i := 225) rfl)) rfl
theorem ck_X12_will : ckC yX12_will cX12_will 2 (some .int) 1 := ⟨⟨uw_1_17, uw_8_225⟩, by decide +kernel, by decide +kernel, by decide⟩
theorem uw_8_233 : (Jvm.Cond.code ({ cls := "HideReaderModel", name := "law", desc := "(I)I" } : Jvm.MethodName) prog_14_method_81_code (2 : Nat) (Option.some Jvm.ClassFile.FieldType.int)) ∈ UT := ut_t (tm_8 (List.mem_of_getElem? (i := 233) rfl)) rfl
theorem ck_X12_law : ckC yX12_law cX12_law 2 (some .int) 1 := ⟨⟨uw_1_17, uw_8_233⟩, by decide +kernel, by decide +kernel, by decide⟩
theorem uw_9_148 : (Jvm.Cond.code ({ cls := "HideReaderModel", name := "power", desc := "(II)I" } : Jvm.MethodName) prog_14_method_42_code (4 : Nat) (Option.some Jvm.ClassFile.FieldType.int)) ∈ UT := ut_t (tm_9 (List.mem_of_getElem? (i := 148) rfl)) rfl
theorem ck_X12_power : ckC yX12_power cX12_power 4 (some .int) 2 := ⟨⟨uw_1_17, uw_9_148⟩, by decide +kernel, by decide +kernel, by decide⟩
theorem uw_9_147 : (Jvm.Cond.static ({ cls := "HideReaderModel", name := "power", desc := "(II)I" } : Jvm.MethodName)) ∈ UT := ut_t (tm_9 (List.mem_of_getElem? (i := 147) rfl)) rfl
theorem uw_9_146 : (Jvm.Cond.methodLink "HideReaderModel" (472 : Nat) ({ cls := "HideReaderModel", name := "power", desc := "(II)I" } : Jvm.MethodName)) ∈ UT := ut_t (tm_9 (List.mem_of_getElem? (i := 146) rfl)) rfl
theorem uw_9_151 : (Jvm.Cond.code ({ cls := "HideReaderModel", name := "divisor", desc := "(II)I" } : Jvm.MethodName) prog_14_method_41_code (5 : Nat) (Option.some Jvm.ClassFile.FieldType.int)) ∈ UT := ut_t (tm_9 (List.mem_of_getElem? (i := 151) rfl)) rfl
theorem ck_X12_divisor : ckC yX12_divisor cX12_divisor 5 (some .int) 2 := ⟨⟨uw_1_17, uw_9_151⟩, by decide +kernel, by decide +kernel, by decide⟩
theorem uw_9_150 : (Jvm.Cond.static ({ cls := "HideReaderModel", name := "divisor", desc := "(II)I" } : Jvm.MethodName)) ∈ UT := ut_t (tm_9 (List.mem_of_getElem? (i := 150) rfl)) rfl
theorem uw_9_149 : (Jvm.Cond.methodLink "HideReaderModel" (475 : Nat) ({ cls := "HideReaderModel", name := "divisor", desc := "(II)I" } : Jvm.MethodName)) ∈ UT := ut_t (tm_9 (List.mem_of_getElem? (i := 149) rfl)) rfl
theorem uw_9_145 : (Jvm.Cond.code ({ cls := "HideReaderModel", name := "odds", desc := "(II)I" } : Jvm.MethodName) prog_14_method_119_code (5 : Nat) (Option.some Jvm.ClassFile.FieldType.int)) ∈ UT := ut_t (tm_9 (List.mem_of_getElem? (i := 145) rfl)) rfl
theorem ck_X12_odds : ckC yX12_odds cX12_odds 5 (some .int) 2 := ⟨⟨uw_1_17, uw_9_145⟩, by decide +kernel, by decide +kernel, by decide⟩
theorem uw_9_33 : (Jvm.Cond.code ({ cls := "HideReaderModel", name := "lies", desc := "(I)I" } : Jvm.MethodName) prog_14_method_91_code (2 : Nat) (Option.some Jvm.ClassFile.FieldType.int)) ∈ UT := ut_t (tm_9 (List.mem_of_getElem? (i := 33) rfl)) rfl
theorem ck_X12_lies : ckC yX12_lies cX12_lies 2 (some .int) 1 := ⟨⟨uw_1_17, uw_9_33⟩, by decide +kernel, by decide +kernel, by decide⟩
theorem uw_9_159 : (Jvm.Cond.code ({ cls := "HideReaderModel", name := "untell", desc := "(I)Z" } : Jvm.MethodName) prog_14_method_121_code (2 : Nat) (Option.some Jvm.ClassFile.FieldType.boolean)) ∈ UT := ut_t (tm_9 (List.mem_of_getElem? (i := 159) rfl)) rfl
theorem ck_X12_untell : ckC yX12_untell cX12_untell 2 (some .boolean) 1 := ⟨⟨uw_1_17, uw_9_159⟩, by decide +kernel, by decide +kernel, by decide⟩
theorem uw_7_83 : (Jvm.Cond.fieldLink "HideReaderModel" (478 : Nat) "HideReaderModel" "time" "I") ∈ UT := ut_t (tm_7 (List.mem_of_getElem? (i := 83) rfl)) rfl
theorem uw_9_164 : (Jvm.Cond.constant "HideReaderModel" (481 : Nat) (100000 : Int32)) ∈ UT := ut_t (tm_9 (List.mem_of_getElem? (i := 164) rfl)) rfl
theorem uw_9_163 : (Jvm.Cond.code ({ cls := "HideReaderModel", name := "later", desc := "(I)I" } : Jvm.MethodName) prog_14_method_122_code (2 : Nat) (Option.some Jvm.ClassFile.FieldType.int)) ∈ UT := ut_t (tm_9 (List.mem_of_getElem? (i := 163) rfl)) rfl
theorem ck_X12_later : ckC yX12_later cX12_later 2 (some .int) 1 := ⟨⟨uw_1_17, uw_9_163⟩, by decide +kernel, by decide +kernel, by decide⟩
theorem uw_7_84 : (Jvm.Cond.fieldLink "HideReaderModel" (482 : Nat) "HideReaderModel" "fitting" "I") ∈ UT := ut_t (tm_7 (List.mem_of_getElem? (i := 84) rfl)) rfl
theorem uw_9_172 : (Jvm.Cond.code ({ cls := "HideReaderModel", name := "layRows", desc := "(I)V" } : Jvm.MethodName) prog_14_method_124_code (5 : Nat) (Option.none : Option Jvm.ClassFile.FieldType)) ∈ UT := ut_t (tm_9 (List.mem_of_getElem? (i := 172) rfl)) rfl
theorem ck_X12_layRows : ckC yX12_layRows cX12_layRows 5 none 1 := ⟨⟨uw_1_17, uw_9_172⟩, by decide +kernel, by decide +kernel, by decide⟩
theorem uw_9_171 : (Jvm.Cond.instanceMethod ({ cls := "HideReaderModel", name := "layRows", desc := "(I)V" } : Jvm.MethodName)) ∈ UT := ut_t (tm_9 (List.mem_of_getElem? (i := 171) rfl)) rfl
theorem iv_X12_layRows : Cond.instanceMethod yX12_layRows ∈ UT ∧ Cond.selects (yX12_layRows).cls yX12_layRows yX12_layRows ∈ UT := ⟨uw_9_171, ut_s (q := (yX12_layRows, 64)) (List.mem_append_right _ (List.mem_append_right _ (List.mem_append_right _ (List.mem_append_right _ (List.mem_append_right _ (List.mem_append_right _ (List.mem_of_getElem? (i := 8) rfl))))))) rfl⟩
theorem uw_9_169 : (Jvm.Cond.methodLink "HideReaderModel" (488 : Nat) ({ cls := "HideReaderModel", name := "layRows", desc := "(I)V" } : Jvm.MethodName)) ∈ UT := ut_t (tm_9 (List.mem_of_getElem? (i := 169) rfl)) rfl
theorem uw_9_168 : (Jvm.Cond.code ({ cls := "HideReaderModel", name := "rows", desc := "(I)I" } : Jvm.MethodName) prog_14_method_125_code (2 : Nat) (Option.some Jvm.ClassFile.FieldType.int)) ∈ UT := ut_t (tm_9 (List.mem_of_getElem? (i := 168) rfl)) rfl
theorem ck_X12_rows : ckC yX12_rows cX12_rows 2 (some .int) 1 := ⟨⟨uw_1_17, uw_9_168⟩, by decide +kernel, by decide +kernel, by decide⟩
theorem uw_9_180 : (Jvm.Cond.code ({ cls := "HideReaderModel", name := "sure", desc := "(II)I" } : Jvm.MethodName) prog_14_method_126_code (4 : Nat) (Option.some Jvm.ClassFile.FieldType.int)) ∈ UT := ut_t (tm_9 (List.mem_of_getElem? (i := 180) rfl)) rfl
theorem ck_X12_sure : ckC yX12_sure cX12_sure 4 (some .int) 2 := ⟨⟨uw_1_17, uw_9_180⟩, by decide +kernel, by decide +kernel, by decide⟩
theorem uw_9_184 : (Jvm.Cond.code ({ cls := "HideReaderModel", name := "ask", desc := "(II)I" } : Jvm.MethodName) prog_14_method_128_code (4 : Nat) (Option.some Jvm.ClassFile.FieldType.int)) ∈ UT := ut_t (tm_9 (List.mem_of_getElem? (i := 184) rfl)) rfl
theorem ck_X12_ask : ckC yX12_ask cX12_ask 4 (some .int) 2 := ⟨⟨uw_1_17, uw_9_184⟩, by decide +kernel, by decide +kernel, by decide⟩
theorem uw_9_192 : (Jvm.Cond.code ({ cls := "HideReaderModel", name := "image", desc := "(I)I" } : Jvm.MethodName) prog_14_method_129_code (3 : Nat) (Option.some Jvm.ClassFile.FieldType.int)) ∈ UT := ut_t (tm_9 (List.mem_of_getElem? (i := 192) rfl)) rfl
theorem ck_X12_image : ckC yX12_image cX12_image 3 (some .int) 1 := ⟨⟨uw_1_17, uw_9_192⟩, by decide +kernel, by decide +kernel, by decide⟩
theorem uw_9_196 : (Jvm.Cond.code ({ cls := "HideReaderModel", name := "back", desc := "(I)I" } : Jvm.MethodName) prog_14_method_130_code (3 : Nat) (Option.some Jvm.ClassFile.FieldType.int)) ∈ UT := ut_t (tm_9 (List.mem_of_getElem? (i := 196) rfl)) rfl
theorem ck_X12_back : ckC yX12_back cX12_back 3 (some .int) 1 := ⟨⟨uw_1_17, uw_9_196⟩, by decide +kernel, by decide +kernel, by decide⟩
theorem uw_9_200 : (Jvm.Cond.code ({ cls := "HideReaderModel", name := "about", desc := "(I)I" } : Jvm.MethodName) prog_14_method_131_code (2 : Nat) (Option.some Jvm.ClassFile.FieldType.int)) ∈ UT := ut_t (tm_9 (List.mem_of_getElem? (i := 200) rfl)) rfl
theorem ck_X12_about : ckC yX12_about cX12_about 2 (some .int) 1 := ⟨⟨uw_1_17, uw_9_200⟩, by decide +kernel, by decide +kernel, by decide⟩
theorem uw_3_27 : (Jvm.Cond.instanceMethod ({ cls := "HideReader", name := "feed", desc := "(IIIII)I" } : Jvm.MethodName)) ∈ UT := ut_t (tm_3 (List.mem_of_getElem? (i := 27) rfl)) rfl
theorem uw_3_28 : (Jvm.Cond.selects "HideReader" ({ cls := "HideReader", name := "feed", desc := "(IIIII)I" } : Jvm.MethodName) ({ cls := "HideReader", name := "feed", desc := "(IIIII)I" } : Jvm.MethodName)) ∈ UT := ut_t (tm_3 (List.mem_of_getElem? (i := 28) rfl)) rfl
theorem iv_X11_feed : Cond.instanceMethod yX11_feed ∈ UT ∧ Cond.selects (yX11_feed).cls yX11_feed yX11_feed ∈ UT := ⟨uw_3_27, uw_3_28⟩
theorem uw_3_26 : (Jvm.Cond.methodLink "HideReaderLaw" (13 : Nat) ({ cls := "HideReader", name := "feed", desc := "(IIIII)I" } : Jvm.MethodName)) ∈ UT := ut_t (tm_3 (List.mem_of_getElem? (i := 26) rfl)) rfl
theorem uw_9_202 : (Jvm.Cond.instanceMethod ({ cls := "HideReaderModel", name := "feed", desc := "(IIIII)I" } : Jvm.MethodName)) ∈ UT := ut_t (tm_9 (List.mem_of_getElem? (i := 202) rfl)) rfl
theorem uw_9_203 : (Jvm.Cond.selects "HideReaderModel" ({ cls := "HideReaderModel", name := "feed", desc := "(IIIII)I" } : Jvm.MethodName) ({ cls := "HideReaderModel", name := "feed", desc := "(IIIII)I" } : Jvm.MethodName)) ∈ UT := ut_t (tm_9 (List.mem_of_getElem? (i := 203) rfl)) rfl
theorem iv_X12_feed : Cond.instanceMethod yX12_feed ∈ UT ∧ Cond.selects (yX12_feed).cls yX12_feed yX12_feed ∈ UT := ⟨uw_9_202, uw_9_203⟩
theorem uw_9_201 : (Jvm.Cond.methodLink "HideReaderLaw" (17 : Nat) ({ cls := "HideReaderModel", name := "feed", desc := "(IIIII)I" } : Jvm.MethodName)) ∈ UT := ut_t (tm_9 (List.mem_of_getElem? (i := 201) rfl)) rfl
theorem uw_3_39 : (Jvm.Cond.instanceMethod ({ cls := "HideReader", name := "end", desc := "(I)I" } : Jvm.MethodName)) ∈ UT := ut_t (tm_3 (List.mem_of_getElem? (i := 39) rfl)) rfl
theorem uw_3_40 : (Jvm.Cond.selects "HideReader" ({ cls := "HideReader", name := "end", desc := "(I)I" } : Jvm.MethodName) ({ cls := "HideReader", name := "end", desc := "(I)I" } : Jvm.MethodName)) ∈ UT := ut_t (tm_3 (List.mem_of_getElem? (i := 40) rfl)) rfl
theorem iv_X11_end : Cond.instanceMethod yX11_end ∈ UT ∧ Cond.selects (yX11_end).cls yX11_end yX11_end ∈ UT := ⟨uw_3_39, uw_3_40⟩
theorem uw_3_38 : (Jvm.Cond.methodLink "HideReaderLaw" (18 : Nat) ({ cls := "HideReader", name := "end", desc := "(I)I" } : Jvm.MethodName)) ∈ UT := ut_t (tm_3 (List.mem_of_getElem? (i := 38) rfl)) rfl
theorem uw_9_206 : (Jvm.Cond.instanceMethod ({ cls := "HideReaderModel", name := "end", desc := "(I)I" } : Jvm.MethodName)) ∈ UT := ut_t (tm_9 (List.mem_of_getElem? (i := 206) rfl)) rfl
theorem uw_9_207 : (Jvm.Cond.selects "HideReaderModel" ({ cls := "HideReaderModel", name := "end", desc := "(I)I" } : Jvm.MethodName) ({ cls := "HideReaderModel", name := "end", desc := "(I)I" } : Jvm.MethodName)) ∈ UT := ut_t (tm_9 (List.mem_of_getElem? (i := 207) rfl)) rfl
theorem iv_X12_end : Cond.instanceMethod yX12_end ∈ UT ∧ Cond.selects (yX12_end).cls yX12_end yX12_end ∈ UT := ⟨uw_9_206, uw_9_207⟩
theorem uw_9_205 : (Jvm.Cond.methodLink "HideReaderLaw" (22 : Nat) ({ cls := "HideReaderModel", name := "end", desc := "(I)I" } : Jvm.MethodName)) ∈ UT := ut_t (tm_9 (List.mem_of_getElem? (i := 205) rfl)) rfl
theorem uw_3_47 : (Jvm.Cond.instanceMethod ({ cls := "HideReader", name := "valley", desc := "()I" } : Jvm.MethodName)) ∈ UT := ut_t (tm_3 (List.mem_of_getElem? (i := 47) rfl)) rfl
theorem uw_3_48 : (Jvm.Cond.selects "HideReader" ({ cls := "HideReader", name := "valley", desc := "()I" } : Jvm.MethodName) ({ cls := "HideReader", name := "valley", desc := "()I" } : Jvm.MethodName)) ∈ UT := ut_t (tm_3 (List.mem_of_getElem? (i := 48) rfl)) rfl
theorem iv_X11_valley : Cond.instanceMethod yX11_valley ∈ UT ∧ Cond.selects (yX11_valley).cls yX11_valley yX11_valley ∈ UT := ⟨uw_3_47, uw_3_48⟩
theorem uw_3_46 : (Jvm.Cond.methodLink "HideReaderLaw" (23 : Nat) ({ cls := "HideReader", name := "valley", desc := "()I" } : Jvm.MethodName)) ∈ UT := ut_t (tm_3 (List.mem_of_getElem? (i := 46) rfl)) rfl
theorem uw_7_217 : (Jvm.Cond.instanceMethod ({ cls := "HideReaderModel", name := "valley", desc := "()I" } : Jvm.MethodName)) ∈ UT := ut_t (tm_7 (List.mem_of_getElem? (i := 217) rfl)) rfl
theorem uw_7_218 : (Jvm.Cond.selects "HideReaderModel" ({ cls := "HideReaderModel", name := "valley", desc := "()I" } : Jvm.MethodName) ({ cls := "HideReaderModel", name := "valley", desc := "()I" } : Jvm.MethodName)) ∈ UT := ut_t (tm_7 (List.mem_of_getElem? (i := 218) rfl)) rfl
theorem iv_X12_valley : Cond.instanceMethod yX12_valley ∈ UT ∧ Cond.selects (yX12_valley).cls yX12_valley yX12_valley ∈ UT := ⟨uw_7_217, uw_7_218⟩
theorem uw_7_216 : (Jvm.Cond.methodLink "HideReaderLaw" (27 : Nat) ({ cls := "HideReaderModel", name := "valley", desc := "()I" } : Jvm.MethodName)) ∈ UT := ut_t (tm_7 (List.mem_of_getElem? (i := 216) rfl)) rfl
theorem uw_4_93 : (Jvm.Cond.instanceMethod ({ cls := "HideReader", name := "fault", desc := "(I)I" } : Jvm.MethodName)) ∈ UT := ut_t (tm_4 (List.mem_of_getElem? (i := 93) rfl)) rfl
theorem uw_4_94 : (Jvm.Cond.selects "HideReader" ({ cls := "HideReader", name := "fault", desc := "(I)I" } : Jvm.MethodName) ({ cls := "HideReader", name := "fault", desc := "(I)I" } : Jvm.MethodName)) ∈ UT := ut_t (tm_4 (List.mem_of_getElem? (i := 94) rfl)) rfl
theorem iv_X11_fault : Cond.instanceMethod yX11_fault ∈ UT ∧ Cond.selects (yX11_fault).cls yX11_fault yX11_fault ∈ UT := ⟨uw_4_93, uw_4_94⟩
theorem uw_4_92 : (Jvm.Cond.methodLink "HideReaderLaw" (28 : Nat) ({ cls := "HideReader", name := "fault", desc := "(I)I" } : Jvm.MethodName)) ∈ UT := ut_t (tm_4 (List.mem_of_getElem? (i := 92) rfl)) rfl
theorem uw_8_115 : (Jvm.Cond.instanceMethod ({ cls := "HideReaderModel", name := "fault", desc := "(I)I" } : Jvm.MethodName)) ∈ UT := ut_t (tm_8 (List.mem_of_getElem? (i := 115) rfl)) rfl
theorem uw_8_116 : (Jvm.Cond.selects "HideReaderModel" ({ cls := "HideReaderModel", name := "fault", desc := "(I)I" } : Jvm.MethodName) ({ cls := "HideReaderModel", name := "fault", desc := "(I)I" } : Jvm.MethodName)) ∈ UT := ut_t (tm_8 (List.mem_of_getElem? (i := 116) rfl)) rfl
theorem iv_X12_fault : Cond.instanceMethod yX12_fault ∈ UT ∧ Cond.selects (yX12_fault).cls yX12_fault yX12_fault ∈ UT := ⟨uw_8_115, uw_8_116⟩
theorem uw_8_114 : (Jvm.Cond.methodLink "HideReaderLaw" (31 : Nat) ({ cls := "HideReaderModel", name := "fault", desc := "(I)I" } : Jvm.MethodName)) ∈ UT := ut_t (tm_8 (List.mem_of_getElem? (i := 114) rfl)) rfl
theorem uw_4_102 : (Jvm.Cond.instanceMethod ({ cls := "HideReader", name := "brand", desc := "(I)I" } : Jvm.MethodName)) ∈ UT := ut_t (tm_4 (List.mem_of_getElem? (i := 102) rfl)) rfl
theorem uw_4_103 : (Jvm.Cond.selects "HideReader" ({ cls := "HideReader", name := "brand", desc := "(I)I" } : Jvm.MethodName) ({ cls := "HideReader", name := "brand", desc := "(I)I" } : Jvm.MethodName)) ∈ UT := ut_t (tm_4 (List.mem_of_getElem? (i := 103) rfl)) rfl
theorem iv_X11_brand : Cond.instanceMethod yX11_brand ∈ UT ∧ Cond.selects (yX11_brand).cls yX11_brand yX11_brand ∈ UT := ⟨uw_4_102, uw_4_103⟩
theorem uw_4_101 : (Jvm.Cond.methodLink "HideReaderLaw" (32 : Nat) ({ cls := "HideReader", name := "brand", desc := "(I)I" } : Jvm.MethodName)) ∈ UT := ut_t (tm_4 (List.mem_of_getElem? (i := 101) rfl)) rfl
theorem uw_8_119 : (Jvm.Cond.instanceMethod ({ cls := "HideReaderModel", name := "brand", desc := "(I)I" } : Jvm.MethodName)) ∈ UT := ut_t (tm_8 (List.mem_of_getElem? (i := 119) rfl)) rfl
theorem uw_8_120 : (Jvm.Cond.selects "HideReaderModel" ({ cls := "HideReaderModel", name := "brand", desc := "(I)I" } : Jvm.MethodName) ({ cls := "HideReaderModel", name := "brand", desc := "(I)I" } : Jvm.MethodName)) ∈ UT := ut_t (tm_8 (List.mem_of_getElem? (i := 120) rfl)) rfl
theorem iv_X12_brand : Cond.instanceMethod yX12_brand ∈ UT ∧ Cond.selects (yX12_brand).cls yX12_brand yX12_brand ∈ UT := ⟨uw_8_119, uw_8_120⟩
theorem uw_8_118 : (Jvm.Cond.methodLink "HideReaderLaw" (35 : Nat) ({ cls := "HideReaderModel", name := "brand", desc := "(I)I" } : Jvm.MethodName)) ∈ UT := ut_t (tm_8 (List.mem_of_getElem? (i := 118) rfl)) rfl
theorem uw_4_110 : (Jvm.Cond.instanceMethod ({ cls := "HideReader", name := "iron", desc := "(I)I" } : Jvm.MethodName)) ∈ UT := ut_t (tm_4 (List.mem_of_getElem? (i := 110) rfl)) rfl
theorem uw_4_111 : (Jvm.Cond.selects "HideReader" ({ cls := "HideReader", name := "iron", desc := "(I)I" } : Jvm.MethodName) ({ cls := "HideReader", name := "iron", desc := "(I)I" } : Jvm.MethodName)) ∈ UT := ut_t (tm_4 (List.mem_of_getElem? (i := 111) rfl)) rfl
theorem iv_X11_iron : Cond.instanceMethod yX11_iron ∈ UT ∧ Cond.selects (yX11_iron).cls yX11_iron yX11_iron ∈ UT := ⟨uw_4_110, uw_4_111⟩
theorem uw_4_109 : (Jvm.Cond.methodLink "HideReaderLaw" (36 : Nat) ({ cls := "HideReader", name := "iron", desc := "(I)I" } : Jvm.MethodName)) ∈ UT := ut_t (tm_4 (List.mem_of_getElem? (i := 109) rfl)) rfl
theorem uw_8_134 : (Jvm.Cond.instanceMethod ({ cls := "HideReaderModel", name := "iron", desc := "(I)I" } : Jvm.MethodName)) ∈ UT := ut_t (tm_8 (List.mem_of_getElem? (i := 134) rfl)) rfl
theorem uw_8_135 : (Jvm.Cond.selects "HideReaderModel" ({ cls := "HideReaderModel", name := "iron", desc := "(I)I" } : Jvm.MethodName) ({ cls := "HideReaderModel", name := "iron", desc := "(I)I" } : Jvm.MethodName)) ∈ UT := ut_t (tm_8 (List.mem_of_getElem? (i := 135) rfl)) rfl
theorem iv_X12_iron : Cond.instanceMethod yX12_iron ∈ UT ∧ Cond.selects (yX12_iron).cls yX12_iron yX12_iron ∈ UT := ⟨uw_8_134, uw_8_135⟩
theorem uw_8_133 : (Jvm.Cond.methodLink "HideReaderLaw" (39 : Nat) ({ cls := "HideReaderModel", name := "iron", desc := "(I)I" } : Jvm.MethodName)) ∈ UT := ut_t (tm_8 (List.mem_of_getElem? (i := 133) rfl)) rfl
theorem uw_4_118 : (Jvm.Cond.instanceMethod ({ cls := "HideReader", name := "beast", desc := "(II)I" } : Jvm.MethodName)) ∈ UT := ut_t (tm_4 (List.mem_of_getElem? (i := 118) rfl)) rfl
theorem uw_4_119 : (Jvm.Cond.selects "HideReader" ({ cls := "HideReader", name := "beast", desc := "(II)I" } : Jvm.MethodName) ({ cls := "HideReader", name := "beast", desc := "(II)I" } : Jvm.MethodName)) ∈ UT := ut_t (tm_4 (List.mem_of_getElem? (i := 119) rfl)) rfl
theorem iv_X11_beast : Cond.instanceMethod yX11_beast ∈ UT ∧ Cond.selects (yX11_beast).cls yX11_beast yX11_beast ∈ UT := ⟨uw_4_118, uw_4_119⟩
theorem uw_4_117 : (Jvm.Cond.methodLink "HideReaderLaw" (40 : Nat) ({ cls := "HideReader", name := "beast", desc := "(II)I" } : Jvm.MethodName)) ∈ UT := ut_t (tm_4 (List.mem_of_getElem? (i := 117) rfl)) rfl
theorem uw_8_142 : (Jvm.Cond.instanceMethod ({ cls := "HideReaderModel", name := "beast", desc := "(II)I" } : Jvm.MethodName)) ∈ UT := ut_t (tm_8 (List.mem_of_getElem? (i := 142) rfl)) rfl
theorem uw_8_143 : (Jvm.Cond.selects "HideReaderModel" ({ cls := "HideReaderModel", name := "beast", desc := "(II)I" } : Jvm.MethodName) ({ cls := "HideReaderModel", name := "beast", desc := "(II)I" } : Jvm.MethodName)) ∈ UT := ut_t (tm_8 (List.mem_of_getElem? (i := 143) rfl)) rfl
theorem iv_X12_beast : Cond.instanceMethod yX12_beast ∈ UT ∧ Cond.selects (yX12_beast).cls yX12_beast yX12_beast ∈ UT := ⟨uw_8_142, uw_8_143⟩
theorem uw_8_141 : (Jvm.Cond.methodLink "HideReaderLaw" (44 : Nat) ({ cls := "HideReaderModel", name := "beast", desc := "(II)I" } : Jvm.MethodName)) ∈ UT := ut_t (tm_8 (List.mem_of_getElem? (i := 141) rfl)) rfl
theorem uw_4_159 : (Jvm.Cond.instanceMethod ({ cls := "HideReader", name := "age", desc := "(II)I" } : Jvm.MethodName)) ∈ UT := ut_t (tm_4 (List.mem_of_getElem? (i := 159) rfl)) rfl
theorem uw_4_160 : (Jvm.Cond.selects "HideReader" ({ cls := "HideReader", name := "age", desc := "(II)I" } : Jvm.MethodName) ({ cls := "HideReader", name := "age", desc := "(II)I" } : Jvm.MethodName)) ∈ UT := ut_t (tm_4 (List.mem_of_getElem? (i := 160) rfl)) rfl
theorem iv_X11_age : Cond.instanceMethod yX11_age ∈ UT ∧ Cond.selects (yX11_age).cls yX11_age yX11_age ∈ UT := ⟨uw_4_159, uw_4_160⟩
theorem uw_4_158 : (Jvm.Cond.methodLink "HideReaderLaw" (45 : Nat) ({ cls := "HideReader", name := "age", desc := "(II)I" } : Jvm.MethodName)) ∈ UT := ut_t (tm_4 (List.mem_of_getElem? (i := 158) rfl)) rfl
theorem uw_8_172 : (Jvm.Cond.instanceMethod ({ cls := "HideReaderModel", name := "age", desc := "(II)I" } : Jvm.MethodName)) ∈ UT := ut_t (tm_8 (List.mem_of_getElem? (i := 172) rfl)) rfl
theorem uw_8_173 : (Jvm.Cond.selects "HideReaderModel" ({ cls := "HideReaderModel", name := "age", desc := "(II)I" } : Jvm.MethodName) ({ cls := "HideReaderModel", name := "age", desc := "(II)I" } : Jvm.MethodName)) ∈ UT := ut_t (tm_8 (List.mem_of_getElem? (i := 173) rfl)) rfl
theorem iv_X12_age : Cond.instanceMethod yX12_age ∈ UT ∧ Cond.selects (yX12_age).cls yX12_age yX12_age ∈ UT := ⟨uw_8_172, uw_8_173⟩
theorem uw_8_171 : (Jvm.Cond.methodLink "HideReaderLaw" (48 : Nat) ({ cls := "HideReaderModel", name := "age", desc := "(II)I" } : Jvm.MethodName)) ∈ UT := ut_t (tm_8 (List.mem_of_getElem? (i := 171) rfl)) rfl
theorem uw_4_167 : (Jvm.Cond.instanceMethod ({ cls := "HideReader", name := "placed", desc := "(II)I" } : Jvm.MethodName)) ∈ UT := ut_t (tm_4 (List.mem_of_getElem? (i := 167) rfl)) rfl
theorem uw_4_168 : (Jvm.Cond.selects "HideReader" ({ cls := "HideReader", name := "placed", desc := "(II)I" } : Jvm.MethodName) ({ cls := "HideReader", name := "placed", desc := "(II)I" } : Jvm.MethodName)) ∈ UT := ut_t (tm_4 (List.mem_of_getElem? (i := 168) rfl)) rfl
theorem iv_X11_placed : Cond.instanceMethod yX11_placed ∈ UT ∧ Cond.selects (yX11_placed).cls yX11_placed yX11_placed ∈ UT := ⟨uw_4_167, uw_4_168⟩
theorem uw_4_166 : (Jvm.Cond.methodLink "HideReaderLaw" (49 : Nat) ({ cls := "HideReader", name := "placed", desc := "(II)I" } : Jvm.MethodName)) ∈ UT := ut_t (tm_4 (List.mem_of_getElem? (i := 166) rfl)) rfl
theorem uw_8_176 : (Jvm.Cond.instanceMethod ({ cls := "HideReaderModel", name := "placed", desc := "(II)I" } : Jvm.MethodName)) ∈ UT := ut_t (tm_8 (List.mem_of_getElem? (i := 176) rfl)) rfl
theorem uw_8_177 : (Jvm.Cond.selects "HideReaderModel" ({ cls := "HideReaderModel", name := "placed", desc := "(II)I" } : Jvm.MethodName) ({ cls := "HideReaderModel", name := "placed", desc := "(II)I" } : Jvm.MethodName)) ∈ UT := ut_t (tm_8 (List.mem_of_getElem? (i := 177) rfl)) rfl
theorem iv_X12_placed : Cond.instanceMethod yX12_placed ∈ UT ∧ Cond.selects (yX12_placed).cls yX12_placed yX12_placed ∈ UT := ⟨uw_8_176, uw_8_177⟩
theorem uw_8_175 : (Jvm.Cond.methodLink "HideReaderLaw" (52 : Nat) ({ cls := "HideReaderModel", name := "placed", desc := "(II)I" } : Jvm.MethodName)) ∈ UT := ut_t (tm_8 (List.mem_of_getElem? (i := 175) rfl)) rfl
theorem uw_4_180 : (Jvm.Cond.instanceMethod ({ cls := "HideReader", name := "under", desc := "(II)I" } : Jvm.MethodName)) ∈ UT := ut_t (tm_4 (List.mem_of_getElem? (i := 180) rfl)) rfl
theorem uw_4_181 : (Jvm.Cond.selects "HideReader" ({ cls := "HideReader", name := "under", desc := "(II)I" } : Jvm.MethodName) ({ cls := "HideReader", name := "under", desc := "(II)I" } : Jvm.MethodName)) ∈ UT := ut_t (tm_4 (List.mem_of_getElem? (i := 181) rfl)) rfl
theorem iv_X11_under : Cond.instanceMethod yX11_under ∈ UT ∧ Cond.selects (yX11_under).cls yX11_under yX11_under ∈ UT := ⟨uw_4_180, uw_4_181⟩
theorem uw_4_179 : (Jvm.Cond.methodLink "HideReaderLaw" (53 : Nat) ({ cls := "HideReader", name := "under", desc := "(II)I" } : Jvm.MethodName)) ∈ UT := ut_t (tm_4 (List.mem_of_getElem? (i := 179) rfl)) rfl
theorem uw_8_183 : (Jvm.Cond.instanceMethod ({ cls := "HideReaderModel", name := "under", desc := "(II)I" } : Jvm.MethodName)) ∈ UT := ut_t (tm_8 (List.mem_of_getElem? (i := 183) rfl)) rfl
theorem uw_8_184 : (Jvm.Cond.selects "HideReaderModel" ({ cls := "HideReaderModel", name := "under", desc := "(II)I" } : Jvm.MethodName) ({ cls := "HideReaderModel", name := "under", desc := "(II)I" } : Jvm.MethodName)) ∈ UT := ut_t (tm_8 (List.mem_of_getElem? (i := 184) rfl)) rfl
theorem iv_X12_under : Cond.instanceMethod yX12_under ∈ UT ∧ Cond.selects (yX12_under).cls yX12_under yX12_under ∈ UT := ⟨uw_8_183, uw_8_184⟩
theorem uw_8_182 : (Jvm.Cond.methodLink "HideReaderLaw" (56 : Nat) ({ cls := "HideReaderModel", name := "under", desc := "(II)I" } : Jvm.MethodName)) ∈ UT := ut_t (tm_8 (List.mem_of_getElem? (i := 182) rfl)) rfl
theorem uw_4_185 : (Jvm.Cond.instanceMethod ({ cls := "HideReader", name := "season", desc := "()I" } : Jvm.MethodName)) ∈ UT := ut_t (tm_4 (List.mem_of_getElem? (i := 185) rfl)) rfl
theorem uw_4_186 : (Jvm.Cond.selects "HideReader" ({ cls := "HideReader", name := "season", desc := "()I" } : Jvm.MethodName) ({ cls := "HideReader", name := "season", desc := "()I" } : Jvm.MethodName)) ∈ UT := ut_t (tm_4 (List.mem_of_getElem? (i := 186) rfl)) rfl
theorem iv_X11_season : Cond.instanceMethod yX11_season ∈ UT ∧ Cond.selects (yX11_season).cls yX11_season yX11_season ∈ UT := ⟨uw_4_185, uw_4_186⟩
theorem uw_4_184 : (Jvm.Cond.methodLink "HideReaderLaw" (57 : Nat) ({ cls := "HideReader", name := "season", desc := "()I" } : Jvm.MethodName)) ∈ UT := ut_t (tm_4 (List.mem_of_getElem? (i := 184) rfl)) rfl
theorem uw_8_235 : (Jvm.Cond.instanceMethod ({ cls := "HideReaderModel", name := "season", desc := "()I" } : Jvm.MethodName)) ∈ UT := ut_t (tm_8 (List.mem_of_getElem? (i := 235) rfl)) rfl
theorem uw_8_236 : (Jvm.Cond.selects "HideReaderModel" ({ cls := "HideReaderModel", name := "season", desc := "()I" } : Jvm.MethodName) ({ cls := "HideReaderModel", name := "season", desc := "()I" } : Jvm.MethodName)) ∈ UT := ut_t (tm_8 (List.mem_of_getElem? (i := 236) rfl)) rfl
theorem iv_X12_season : Cond.instanceMethod yX12_season ∈ UT ∧ Cond.selects (yX12_season).cls yX12_season yX12_season ∈ UT := ⟨uw_8_235, uw_8_236⟩
theorem uw_8_234 : (Jvm.Cond.methodLink "HideReaderLaw" (60 : Nat) ({ cls := "HideReaderModel", name := "season", desc := "()I" } : Jvm.MethodName)) ∈ UT := ut_t (tm_8 (List.mem_of_getElem? (i := 234) rfl)) rfl
theorem uw_4_213 : (Jvm.Cond.instanceMethod ({ cls := "HideReader", name := "burn", desc := "(III)I" } : Jvm.MethodName)) ∈ UT := ut_t (tm_4 (List.mem_of_getElem? (i := 213) rfl)) rfl
theorem uw_4_214 : (Jvm.Cond.selects "HideReader" ({ cls := "HideReader", name := "burn", desc := "(III)I" } : Jvm.MethodName) ({ cls := "HideReader", name := "burn", desc := "(III)I" } : Jvm.MethodName)) ∈ UT := ut_t (tm_4 (List.mem_of_getElem? (i := 214) rfl)) rfl
theorem iv_X11_burn : Cond.instanceMethod yX11_burn ∈ UT ∧ Cond.selects (yX11_burn).cls yX11_burn yX11_burn ∈ UT := ⟨uw_4_213, uw_4_214⟩
theorem uw_4_212 : (Jvm.Cond.methodLink "HideReaderLaw" (61 : Nat) ({ cls := "HideReader", name := "burn", desc := "(III)I" } : Jvm.MethodName)) ∈ UT := ut_t (tm_4 (List.mem_of_getElem? (i := 212) rfl)) rfl
theorem uw_9_7 : (Jvm.Cond.instanceMethod ({ cls := "HideReaderModel", name := "burn", desc := "(III)I" } : Jvm.MethodName)) ∈ UT := ut_t (tm_9 (List.mem_of_getElem? (i := 7) rfl)) rfl
theorem uw_9_8 : (Jvm.Cond.selects "HideReaderModel" ({ cls := "HideReaderModel", name := "burn", desc := "(III)I" } : Jvm.MethodName) ({ cls := "HideReaderModel", name := "burn", desc := "(III)I" } : Jvm.MethodName)) ∈ UT := ut_t (tm_9 (List.mem_of_getElem? (i := 8) rfl)) rfl
theorem iv_X12_burn : Cond.instanceMethod yX12_burn ∈ UT ∧ Cond.selects (yX12_burn).cls yX12_burn yX12_burn ∈ UT := ⟨uw_9_7, uw_9_8⟩
theorem uw_9_6 : (Jvm.Cond.methodLink "HideReaderLaw" (65 : Nat) ({ cls := "HideReaderModel", name := "burn", desc := "(III)I" } : Jvm.MethodName)) ∈ UT := ut_t (tm_9 (List.mem_of_getElem? (i := 6) rfl)) rfl
theorem uw_4_222 : (Jvm.Cond.instanceMethod ({ cls := "HideReader", name := "sell", desc := "(II)I" } : Jvm.MethodName)) ∈ UT := ut_t (tm_4 (List.mem_of_getElem? (i := 222) rfl)) rfl
theorem uw_4_223 : (Jvm.Cond.selects "HideReader" ({ cls := "HideReader", name := "sell", desc := "(II)I" } : Jvm.MethodName) ({ cls := "HideReader", name := "sell", desc := "(II)I" } : Jvm.MethodName)) ∈ UT := ut_t (tm_4 (List.mem_of_getElem? (i := 223) rfl)) rfl
theorem iv_X11_sell : Cond.instanceMethod yX11_sell ∈ UT ∧ Cond.selects (yX11_sell).cls yX11_sell yX11_sell ∈ UT := ⟨uw_4_222, uw_4_223⟩
theorem uw_4_221 : (Jvm.Cond.methodLink "HideReaderLaw" (66 : Nat) ({ cls := "HideReader", name := "sell", desc := "(II)I" } : Jvm.MethodName)) ∈ UT := ut_t (tm_4 (List.mem_of_getElem? (i := 221) rfl)) rfl
theorem uw_9_11 : (Jvm.Cond.instanceMethod ({ cls := "HideReaderModel", name := "sell", desc := "(II)I" } : Jvm.MethodName)) ∈ UT := ut_t (tm_9 (List.mem_of_getElem? (i := 11) rfl)) rfl
theorem uw_9_12 : (Jvm.Cond.selects "HideReaderModel" ({ cls := "HideReaderModel", name := "sell", desc := "(II)I" } : Jvm.MethodName) ({ cls := "HideReaderModel", name := "sell", desc := "(II)I" } : Jvm.MethodName)) ∈ UT := ut_t (tm_9 (List.mem_of_getElem? (i := 12) rfl)) rfl
theorem iv_X12_sell : Cond.instanceMethod yX12_sell ∈ UT ∧ Cond.selects (yX12_sell).cls yX12_sell yX12_sell ∈ UT := ⟨uw_9_11, uw_9_12⟩
theorem uw_9_10 : (Jvm.Cond.methodLink "HideReaderLaw" (69 : Nat) ({ cls := "HideReaderModel", name := "sell", desc := "(II)I" } : Jvm.MethodName)) ∈ UT := ut_t (tm_9 (List.mem_of_getElem? (i := 10) rfl)) rfl
theorem uw_4_226 : (Jvm.Cond.instanceMethod ({ cls := "HideReader", name := "clean", desc := "(I)I" } : Jvm.MethodName)) ∈ UT := ut_t (tm_4 (List.mem_of_getElem? (i := 226) rfl)) rfl
theorem uw_4_227 : (Jvm.Cond.selects "HideReader" ({ cls := "HideReader", name := "clean", desc := "(I)I" } : Jvm.MethodName) ({ cls := "HideReader", name := "clean", desc := "(I)I" } : Jvm.MethodName)) ∈ UT := ut_t (tm_4 (List.mem_of_getElem? (i := 227) rfl)) rfl
theorem iv_X11_clean : Cond.instanceMethod yX11_clean ∈ UT ∧ Cond.selects (yX11_clean).cls yX11_clean yX11_clean ∈ UT := ⟨uw_4_226, uw_4_227⟩
theorem uw_4_225 : (Jvm.Cond.methodLink "HideReaderLaw" (70 : Nat) ({ cls := "HideReader", name := "clean", desc := "(I)I" } : Jvm.MethodName)) ∈ UT := ut_t (tm_4 (List.mem_of_getElem? (i := 225) rfl)) rfl
theorem uw_9_15 : (Jvm.Cond.instanceMethod ({ cls := "HideReaderModel", name := "clean", desc := "(I)I" } : Jvm.MethodName)) ∈ UT := ut_t (tm_9 (List.mem_of_getElem? (i := 15) rfl)) rfl
theorem uw_9_16 : (Jvm.Cond.selects "HideReaderModel" ({ cls := "HideReaderModel", name := "clean", desc := "(I)I" } : Jvm.MethodName) ({ cls := "HideReaderModel", name := "clean", desc := "(I)I" } : Jvm.MethodName)) ∈ UT := ut_t (tm_9 (List.mem_of_getElem? (i := 16) rfl)) rfl
theorem iv_X12_clean : Cond.instanceMethod yX12_clean ∈ UT ∧ Cond.selects (yX12_clean).cls yX12_clean yX12_clean ∈ UT := ⟨uw_9_15, uw_9_16⟩
theorem uw_9_14 : (Jvm.Cond.methodLink "HideReaderLaw" (73 : Nat) ({ cls := "HideReaderModel", name := "clean", desc := "(I)I" } : Jvm.MethodName)) ∈ UT := ut_t (tm_9 (List.mem_of_getElem? (i := 14) rfl)) rfl
theorem uw_4_232 : (Jvm.Cond.instanceMethod ({ cls := "HideReader", name := "undo", desc := "()Z" } : Jvm.MethodName)) ∈ UT := ut_t (tm_4 (List.mem_of_getElem? (i := 232) rfl)) rfl
theorem uw_4_233 : (Jvm.Cond.selects "HideReader" ({ cls := "HideReader", name := "undo", desc := "()Z" } : Jvm.MethodName) ({ cls := "HideReader", name := "undo", desc := "()Z" } : Jvm.MethodName)) ∈ UT := ut_t (tm_4 (List.mem_of_getElem? (i := 233) rfl)) rfl
theorem iv_X11_undo : Cond.instanceMethod yX11_undo ∈ UT ∧ Cond.selects (yX11_undo).cls yX11_undo yX11_undo ∈ UT := ⟨uw_4_232, uw_4_233⟩
theorem uw_4_231 : (Jvm.Cond.methodLink "HideReaderLaw" (74 : Nat) ({ cls := "HideReader", name := "undo", desc := "()Z" } : Jvm.MethodName)) ∈ UT := ut_t (tm_4 (List.mem_of_getElem? (i := 231) rfl)) rfl
theorem uw_9_19 : (Jvm.Cond.instanceMethod ({ cls := "HideReaderModel", name := "undo", desc := "()Z" } : Jvm.MethodName)) ∈ UT := ut_t (tm_9 (List.mem_of_getElem? (i := 19) rfl)) rfl
theorem uw_9_20 : (Jvm.Cond.selects "HideReaderModel" ({ cls := "HideReaderModel", name := "undo", desc := "()Z" } : Jvm.MethodName) ({ cls := "HideReaderModel", name := "undo", desc := "()Z" } : Jvm.MethodName)) ∈ UT := ut_t (tm_9 (List.mem_of_getElem? (i := 20) rfl)) rfl
theorem iv_X12_undo : Cond.instanceMethod yX12_undo ∈ UT ∧ Cond.selects (yX12_undo).cls yX12_undo yX12_undo ∈ UT := ⟨uw_9_19, uw_9_20⟩
theorem uw_9_18 : (Jvm.Cond.methodLink "HideReaderLaw" (78 : Nat) ({ cls := "HideReaderModel", name := "undo", desc := "()Z" } : Jvm.MethodName)) ∈ UT := ut_t (tm_9 (List.mem_of_getElem? (i := 18) rfl)) rfl
theorem uw_5_0 : (Jvm.Cond.instanceMethod ({ cls := "HideReader", name := "redo", desc := "()Z" } : Jvm.MethodName)) ∈ UT := ut_t (tm_5 (List.mem_of_getElem? (i := 0) rfl)) rfl
theorem uw_5_1 : (Jvm.Cond.selects "HideReader" ({ cls := "HideReader", name := "redo", desc := "()Z" } : Jvm.MethodName) ({ cls := "HideReader", name := "redo", desc := "()Z" } : Jvm.MethodName)) ∈ UT := ut_t (tm_5 (List.mem_of_getElem? (i := 1) rfl)) rfl
theorem iv_X11_redo : Cond.instanceMethod yX11_redo ∈ UT ∧ Cond.selects (yX11_redo).cls yX11_redo yX11_redo ∈ UT := ⟨uw_5_0, uw_5_1⟩
theorem uw_4_239 : (Jvm.Cond.methodLink "HideReaderLaw" (79 : Nat) ({ cls := "HideReader", name := "redo", desc := "()Z" } : Jvm.MethodName)) ∈ UT := ut_t (tm_4 (List.mem_of_getElem? (i := 239) rfl)) rfl
theorem uw_9_27 : (Jvm.Cond.instanceMethod ({ cls := "HideReaderModel", name := "redo", desc := "()Z" } : Jvm.MethodName)) ∈ UT := ut_t (tm_9 (List.mem_of_getElem? (i := 27) rfl)) rfl
theorem uw_9_28 : (Jvm.Cond.selects "HideReaderModel" ({ cls := "HideReaderModel", name := "redo", desc := "()Z" } : Jvm.MethodName) ({ cls := "HideReaderModel", name := "redo", desc := "()Z" } : Jvm.MethodName)) ∈ UT := ut_t (tm_9 (List.mem_of_getElem? (i := 28) rfl)) rfl
theorem iv_X12_redo : Cond.instanceMethod yX12_redo ∈ UT ∧ Cond.selects (yX12_redo).cls yX12_redo yX12_redo ∈ UT := ⟨uw_9_27, uw_9_28⟩
theorem uw_9_26 : (Jvm.Cond.methodLink "HideReaderLaw" (82 : Nat) ({ cls := "HideReaderModel", name := "redo", desc := "()Z" } : Jvm.MethodName)) ∈ UT := ut_t (tm_9 (List.mem_of_getElem? (i := 26) rfl)) rfl
theorem uw_5_26 : (Jvm.Cond.instanceMethod ({ cls := "HideReader", name := "forge", desc := "(II)I" } : Jvm.MethodName)) ∈ UT := ut_t (tm_5 (List.mem_of_getElem? (i := 26) rfl)) rfl
theorem uw_5_27 : (Jvm.Cond.selects "HideReader" ({ cls := "HideReader", name := "forge", desc := "(II)I" } : Jvm.MethodName) ({ cls := "HideReader", name := "forge", desc := "(II)I" } : Jvm.MethodName)) ∈ UT := ut_t (tm_5 (List.mem_of_getElem? (i := 27) rfl)) rfl
theorem iv_X11_forge : Cond.instanceMethod yX11_forge ∈ UT ∧ Cond.selects (yX11_forge).cls yX11_forge yX11_forge ∈ UT := ⟨uw_5_26, uw_5_27⟩
theorem uw_5_25 : (Jvm.Cond.methodLink "HideReaderLaw" (87 : Nat) ({ cls := "HideReader", name := "forge", desc := "(II)I" } : Jvm.MethodName)) ∈ UT := ut_t (tm_5 (List.mem_of_getElem? (i := 25) rfl)) rfl
theorem uw_9_47 : (Jvm.Cond.instanceMethod ({ cls := "HideReaderModel", name := "forge", desc := "(II)I" } : Jvm.MethodName)) ∈ UT := ut_t (tm_9 (List.mem_of_getElem? (i := 47) rfl)) rfl
theorem uw_9_48 : (Jvm.Cond.selects "HideReaderModel" ({ cls := "HideReaderModel", name := "forge", desc := "(II)I" } : Jvm.MethodName) ({ cls := "HideReaderModel", name := "forge", desc := "(II)I" } : Jvm.MethodName)) ∈ UT := ut_t (tm_9 (List.mem_of_getElem? (i := 48) rfl)) rfl
theorem iv_X12_forge : Cond.instanceMethod yX12_forge ∈ UT ∧ Cond.selects (yX12_forge).cls yX12_forge yX12_forge ∈ UT := ⟨uw_9_47, uw_9_48⟩
theorem uw_9_46 : (Jvm.Cond.methodLink "HideReaderLaw" (90 : Nat) ({ cls := "HideReaderModel", name := "forge", desc := "(II)I" } : Jvm.MethodName)) ∈ UT := ut_t (tm_9 (List.mem_of_getElem? (i := 46) rfl)) rfl
theorem uw_5_40 : (Jvm.Cond.instanceMethod ({ cls := "HideReader", name := "chain", desc := "()I" } : Jvm.MethodName)) ∈ UT := ut_t (tm_5 (List.mem_of_getElem? (i := 40) rfl)) rfl
theorem uw_5_41 : (Jvm.Cond.selects "HideReader" ({ cls := "HideReader", name := "chain", desc := "()I" } : Jvm.MethodName) ({ cls := "HideReader", name := "chain", desc := "()I" } : Jvm.MethodName)) ∈ UT := ut_t (tm_5 (List.mem_of_getElem? (i := 41) rfl)) rfl
theorem iv_X11_chain : Cond.instanceMethod yX11_chain ∈ UT ∧ Cond.selects (yX11_chain).cls yX11_chain yX11_chain ∈ UT := ⟨uw_5_40, uw_5_41⟩
theorem uw_5_39 : (Jvm.Cond.methodLink "HideReaderLaw" (91 : Nat) ({ cls := "HideReader", name := "chain", desc := "()I" } : Jvm.MethodName)) ∈ UT := ut_t (tm_5 (List.mem_of_getElem? (i := 39) rfl)) rfl
theorem uw_9_75 : (Jvm.Cond.instanceMethod ({ cls := "HideReaderModel", name := "chain", desc := "()I" } : Jvm.MethodName)) ∈ UT := ut_t (tm_9 (List.mem_of_getElem? (i := 75) rfl)) rfl
theorem uw_9_76 : (Jvm.Cond.selects "HideReaderModel" ({ cls := "HideReaderModel", name := "chain", desc := "()I" } : Jvm.MethodName) ({ cls := "HideReaderModel", name := "chain", desc := "()I" } : Jvm.MethodName)) ∈ UT := ut_t (tm_9 (List.mem_of_getElem? (i := 76) rfl)) rfl
theorem iv_X12_chain : Cond.instanceMethod yX12_chain ∈ UT ∧ Cond.selects (yX12_chain).cls yX12_chain yX12_chain ∈ UT := ⟨uw_9_75, uw_9_76⟩
theorem uw_9_74 : (Jvm.Cond.methodLink "HideReaderLaw" (94 : Nat) ({ cls := "HideReaderModel", name := "chain", desc := "()I" } : Jvm.MethodName)) ∈ UT := ut_t (tm_9 (List.mem_of_getElem? (i := 74) rfl)) rfl
theorem uw_5_68 : (Jvm.Cond.instanceMethod ({ cls := "HideReader", name := "lowest", desc := "()I" } : Jvm.MethodName)) ∈ UT := ut_t (tm_5 (List.mem_of_getElem? (i := 68) rfl)) rfl
theorem uw_5_69 : (Jvm.Cond.selects "HideReader" ({ cls := "HideReader", name := "lowest", desc := "()I" } : Jvm.MethodName) ({ cls := "HideReader", name := "lowest", desc := "()I" } : Jvm.MethodName)) ∈ UT := ut_t (tm_5 (List.mem_of_getElem? (i := 69) rfl)) rfl
theorem iv_X11_lowest : Cond.instanceMethod yX11_lowest ∈ UT ∧ Cond.selects (yX11_lowest).cls yX11_lowest yX11_lowest ∈ UT := ⟨uw_5_68, uw_5_69⟩
theorem uw_5_67 : (Jvm.Cond.methodLink "HideReaderLaw" (95 : Nat) ({ cls := "HideReader", name := "lowest", desc := "()I" } : Jvm.MethodName)) ∈ UT := ut_t (tm_5 (List.mem_of_getElem? (i := 67) rfl)) rfl
theorem uw_9_83 : (Jvm.Cond.instanceMethod ({ cls := "HideReaderModel", name := "lowest", desc := "()I" } : Jvm.MethodName)) ∈ UT := ut_t (tm_9 (List.mem_of_getElem? (i := 83) rfl)) rfl
theorem uw_9_84 : (Jvm.Cond.selects "HideReaderModel" ({ cls := "HideReaderModel", name := "lowest", desc := "()I" } : Jvm.MethodName) ({ cls := "HideReaderModel", name := "lowest", desc := "()I" } : Jvm.MethodName)) ∈ UT := ut_t (tm_9 (List.mem_of_getElem? (i := 84) rfl)) rfl
theorem iv_X12_lowest : Cond.instanceMethod yX12_lowest ∈ UT ∧ Cond.selects (yX12_lowest).cls yX12_lowest yX12_lowest ∈ UT := ⟨uw_9_83, uw_9_84⟩
theorem uw_9_82 : (Jvm.Cond.methodLink "HideReaderLaw" (98 : Nat) ({ cls := "HideReaderModel", name := "lowest", desc := "()I" } : Jvm.MethodName)) ∈ UT := ut_t (tm_9 (List.mem_of_getElem? (i := 82) rfl)) rfl
theorem uw_5_76 : (Jvm.Cond.instanceMethod ({ cls := "HideReader", name := "highest", desc := "()I" } : Jvm.MethodName)) ∈ UT := ut_t (tm_5 (List.mem_of_getElem? (i := 76) rfl)) rfl
theorem uw_5_77 : (Jvm.Cond.selects "HideReader" ({ cls := "HideReader", name := "highest", desc := "()I" } : Jvm.MethodName) ({ cls := "HideReader", name := "highest", desc := "()I" } : Jvm.MethodName)) ∈ UT := ut_t (tm_5 (List.mem_of_getElem? (i := 77) rfl)) rfl
theorem iv_X11_highest : Cond.instanceMethod yX11_highest ∈ UT ∧ Cond.selects (yX11_highest).cls yX11_highest yX11_highest ∈ UT := ⟨uw_5_76, uw_5_77⟩
theorem uw_5_75 : (Jvm.Cond.methodLink "HideReaderLaw" (99 : Nat) ({ cls := "HideReader", name := "highest", desc := "()I" } : Jvm.MethodName)) ∈ UT := ut_t (tm_5 (List.mem_of_getElem? (i := 75) rfl)) rfl
theorem uw_9_87 : (Jvm.Cond.instanceMethod ({ cls := "HideReaderModel", name := "highest", desc := "()I" } : Jvm.MethodName)) ∈ UT := ut_t (tm_9 (List.mem_of_getElem? (i := 87) rfl)) rfl
theorem uw_9_88 : (Jvm.Cond.selects "HideReaderModel" ({ cls := "HideReaderModel", name := "highest", desc := "()I" } : Jvm.MethodName) ({ cls := "HideReaderModel", name := "highest", desc := "()I" } : Jvm.MethodName)) ∈ UT := ut_t (tm_9 (List.mem_of_getElem? (i := 88) rfl)) rfl
theorem iv_X12_highest : Cond.instanceMethod yX12_highest ∈ UT ∧ Cond.selects (yX12_highest).cls yX12_highest yX12_highest ∈ UT := ⟨uw_9_87, uw_9_88⟩
theorem uw_9_86 : (Jvm.Cond.methodLink "HideReaderLaw" (102 : Nat) ({ cls := "HideReaderModel", name := "highest", desc := "()I" } : Jvm.MethodName)) ∈ UT := ut_t (tm_9 (List.mem_of_getElem? (i := 86) rfl)) rfl
theorem uw_5_97 : (Jvm.Cond.instanceMethod ({ cls := "HideReader", name := "origins", desc := "(I)I" } : Jvm.MethodName)) ∈ UT := ut_t (tm_5 (List.mem_of_getElem? (i := 97) rfl)) rfl
theorem uw_5_98 : (Jvm.Cond.selects "HideReader" ({ cls := "HideReader", name := "origins", desc := "(I)I" } : Jvm.MethodName) ({ cls := "HideReader", name := "origins", desc := "(I)I" } : Jvm.MethodName)) ∈ UT := ut_t (tm_5 (List.mem_of_getElem? (i := 98) rfl)) rfl
theorem iv_X11_origins : Cond.instanceMethod yX11_origins ∈ UT ∧ Cond.selects (yX11_origins).cls yX11_origins yX11_origins ∈ UT := ⟨uw_5_97, uw_5_98⟩
theorem uw_5_96 : (Jvm.Cond.methodLink "HideReaderLaw" (107 : Nat) ({ cls := "HideReader", name := "origins", desc := "(I)I" } : Jvm.MethodName)) ∈ UT := ut_t (tm_5 (List.mem_of_getElem? (i := 96) rfl)) rfl
theorem uw_9_51 : (Jvm.Cond.instanceMethod ({ cls := "HideReaderModel", name := "origins", desc := "(I)I" } : Jvm.MethodName)) ∈ UT := ut_t (tm_9 (List.mem_of_getElem? (i := 51) rfl)) rfl
theorem uw_9_52 : (Jvm.Cond.selects "HideReaderModel" ({ cls := "HideReaderModel", name := "origins", desc := "(I)I" } : Jvm.MethodName) ({ cls := "HideReaderModel", name := "origins", desc := "(I)I" } : Jvm.MethodName)) ∈ UT := ut_t (tm_9 (List.mem_of_getElem? (i := 52) rfl)) rfl
theorem iv_X12_origins : Cond.instanceMethod yX12_origins ∈ UT ∧ Cond.selects (yX12_origins).cls yX12_origins yX12_origins ∈ UT := ⟨uw_9_51, uw_9_52⟩
theorem uw_9_50 : (Jvm.Cond.methodLink "HideReaderLaw" (110 : Nat) ({ cls := "HideReaderModel", name := "origins", desc := "(I)I" } : Jvm.MethodName)) ∈ UT := ut_t (tm_9 (List.mem_of_getElem? (i := 50) rfl)) rfl
theorem uw_5_106 : (Jvm.Cond.instanceMethod ({ cls := "HideReader", name := "read", desc := "(I)I" } : Jvm.MethodName)) ∈ UT := ut_t (tm_5 (List.mem_of_getElem? (i := 106) rfl)) rfl
theorem uw_5_107 : (Jvm.Cond.selects "HideReader" ({ cls := "HideReader", name := "read", desc := "(I)I" } : Jvm.MethodName) ({ cls := "HideReader", name := "read", desc := "(I)I" } : Jvm.MethodName)) ∈ UT := ut_t (tm_5 (List.mem_of_getElem? (i := 107) rfl)) rfl
theorem iv_X11_read : Cond.instanceMethod yX11_read ∈ UT ∧ Cond.selects (yX11_read).cls yX11_read yX11_read ∈ UT := ⟨uw_5_106, uw_5_107⟩
theorem uw_5_105 : (Jvm.Cond.methodLink "HideReaderLaw" (111 : Nat) ({ cls := "HideReader", name := "read", desc := "(I)I" } : Jvm.MethodName)) ∈ UT := ut_t (tm_5 (List.mem_of_getElem? (i := 105) rfl)) rfl
theorem uw_9_127 : (Jvm.Cond.instanceMethod ({ cls := "HideReaderModel", name := "read", desc := "(I)I" } : Jvm.MethodName)) ∈ UT := ut_t (tm_9 (List.mem_of_getElem? (i := 127) rfl)) rfl
theorem uw_9_128 : (Jvm.Cond.selects "HideReaderModel" ({ cls := "HideReaderModel", name := "read", desc := "(I)I" } : Jvm.MethodName) ({ cls := "HideReaderModel", name := "read", desc := "(I)I" } : Jvm.MethodName)) ∈ UT := ut_t (tm_9 (List.mem_of_getElem? (i := 128) rfl)) rfl
theorem iv_X12_read : Cond.instanceMethod yX12_read ∈ UT ∧ Cond.selects (yX12_read).cls yX12_read yX12_read ∈ UT := ⟨uw_9_127, uw_9_128⟩
theorem uw_9_126 : (Jvm.Cond.methodLink "HideReaderLaw" (114 : Nat) ({ cls := "HideReaderModel", name := "read", desc := "(I)I" } : Jvm.MethodName)) ∈ UT := ut_t (tm_9 (List.mem_of_getElem? (i := 126) rfl)) rfl
theorem uw_5_119 : (Jvm.Cond.instanceMethod ({ cls := "HideReader", name := "claim", desc := "(I)I" } : Jvm.MethodName)) ∈ UT := ut_t (tm_5 (List.mem_of_getElem? (i := 119) rfl)) rfl
theorem uw_5_120 : (Jvm.Cond.selects "HideReader" ({ cls := "HideReader", name := "claim", desc := "(I)I" } : Jvm.MethodName) ({ cls := "HideReader", name := "claim", desc := "(I)I" } : Jvm.MethodName)) ∈ UT := ut_t (tm_5 (List.mem_of_getElem? (i := 120) rfl)) rfl
theorem iv_X11_claim : Cond.instanceMethod yX11_claim ∈ UT ∧ Cond.selects (yX11_claim).cls yX11_claim yX11_claim ∈ UT := ⟨uw_5_119, uw_5_120⟩
theorem uw_5_118 : (Jvm.Cond.methodLink "HideReaderLaw" (115 : Nat) ({ cls := "HideReader", name := "claim", desc := "(I)I" } : Jvm.MethodName)) ∈ UT := ut_t (tm_5 (List.mem_of_getElem? (i := 118) rfl)) rfl
theorem uw_9_55 : (Jvm.Cond.instanceMethod ({ cls := "HideReaderModel", name := "claim", desc := "(I)I" } : Jvm.MethodName)) ∈ UT := ut_t (tm_9 (List.mem_of_getElem? (i := 55) rfl)) rfl
theorem uw_9_56 : (Jvm.Cond.selects "HideReaderModel" ({ cls := "HideReaderModel", name := "claim", desc := "(I)I" } : Jvm.MethodName) ({ cls := "HideReaderModel", name := "claim", desc := "(I)I" } : Jvm.MethodName)) ∈ UT := ut_t (tm_9 (List.mem_of_getElem? (i := 56) rfl)) rfl
theorem iv_X12_claim : Cond.instanceMethod yX12_claim ∈ UT ∧ Cond.selects (yX12_claim).cls yX12_claim yX12_claim ∈ UT := ⟨uw_9_55, uw_9_56⟩
theorem uw_9_54 : (Jvm.Cond.methodLink "HideReaderLaw" (118 : Nat) ({ cls := "HideReaderModel", name := "claim", desc := "(I)I" } : Jvm.MethodName)) ∈ UT := ut_t (tm_9 (List.mem_of_getElem? (i := 54) rfl)) rfl
theorem uw_5_127 : (Jvm.Cond.instanceMethod ({ cls := "HideReader", name := "safe", desc := "()I" } : Jvm.MethodName)) ∈ UT := ut_t (tm_5 (List.mem_of_getElem? (i := 127) rfl)) rfl
theorem uw_5_128 : (Jvm.Cond.selects "HideReader" ({ cls := "HideReader", name := "safe", desc := "()I" } : Jvm.MethodName) ({ cls := "HideReader", name := "safe", desc := "()I" } : Jvm.MethodName)) ∈ UT := ut_t (tm_5 (List.mem_of_getElem? (i := 128) rfl)) rfl
theorem iv_X11_safe : Cond.instanceMethod yX11_safe ∈ UT ∧ Cond.selects (yX11_safe).cls yX11_safe yX11_safe ∈ UT := ⟨uw_5_127, uw_5_128⟩
theorem uw_5_126 : (Jvm.Cond.methodLink "HideReaderLaw" (119 : Nat) ({ cls := "HideReader", name := "safe", desc := "()I" } : Jvm.MethodName)) ∈ UT := ut_t (tm_5 (List.mem_of_getElem? (i := 126) rfl)) rfl
theorem uw_9_59 : (Jvm.Cond.instanceMethod ({ cls := "HideReaderModel", name := "safe", desc := "()I" } : Jvm.MethodName)) ∈ UT := ut_t (tm_9 (List.mem_of_getElem? (i := 59) rfl)) rfl
theorem uw_9_60 : (Jvm.Cond.selects "HideReaderModel" ({ cls := "HideReaderModel", name := "safe", desc := "()I" } : Jvm.MethodName) ({ cls := "HideReaderModel", name := "safe", desc := "()I" } : Jvm.MethodName)) ∈ UT := ut_t (tm_9 (List.mem_of_getElem? (i := 60) rfl)) rfl
theorem iv_X12_safe : Cond.instanceMethod yX12_safe ∈ UT ∧ Cond.selects (yX12_safe).cls yX12_safe yX12_safe ∈ UT := ⟨uw_9_59, uw_9_60⟩
theorem uw_9_58 : (Jvm.Cond.methodLink "HideReaderLaw" (122 : Nat) ({ cls := "HideReaderModel", name := "safe", desc := "()I" } : Jvm.MethodName)) ∈ UT := ut_t (tm_9 (List.mem_of_getElem? (i := 58) rfl)) rfl
theorem uw_5_140 : (Jvm.Cond.instanceMethod ({ cls := "HideReader", name := "king", desc := "(I)I" } : Jvm.MethodName)) ∈ UT := ut_t (tm_5 (List.mem_of_getElem? (i := 140) rfl)) rfl
theorem uw_5_141 : (Jvm.Cond.selects "HideReader" ({ cls := "HideReader", name := "king", desc := "(I)I" } : Jvm.MethodName) ({ cls := "HideReader", name := "king", desc := "(I)I" } : Jvm.MethodName)) ∈ UT := ut_t (tm_5 (List.mem_of_getElem? (i := 141) rfl)) rfl
theorem iv_X11_king : Cond.instanceMethod yX11_king ∈ UT ∧ Cond.selects (yX11_king).cls yX11_king yX11_king ∈ UT := ⟨uw_5_140, uw_5_141⟩
theorem uw_5_139 : (Jvm.Cond.methodLink "HideReaderLaw" (123 : Nat) ({ cls := "HideReader", name := "king", desc := "(I)I" } : Jvm.MethodName)) ∈ UT := ut_t (tm_5 (List.mem_of_getElem? (i := 139) rfl)) rfl
theorem uw_9_63 : (Jvm.Cond.instanceMethod ({ cls := "HideReaderModel", name := "king", desc := "(I)I" } : Jvm.MethodName)) ∈ UT := ut_t (tm_9 (List.mem_of_getElem? (i := 63) rfl)) rfl
theorem uw_9_64 : (Jvm.Cond.selects "HideReaderModel" ({ cls := "HideReaderModel", name := "king", desc := "(I)I" } : Jvm.MethodName) ({ cls := "HideReaderModel", name := "king", desc := "(I)I" } : Jvm.MethodName)) ∈ UT := ut_t (tm_9 (List.mem_of_getElem? (i := 64) rfl)) rfl
theorem iv_X12_king : Cond.instanceMethod yX12_king ∈ UT ∧ Cond.selects (yX12_king).cls yX12_king yX12_king ∈ UT := ⟨uw_9_63, uw_9_64⟩
theorem uw_9_62 : (Jvm.Cond.methodLink "HideReaderLaw" (126 : Nat) ({ cls := "HideReaderModel", name := "king", desc := "(I)I" } : Jvm.MethodName)) ∈ UT := ut_t (tm_9 (List.mem_of_getElem? (i := 62) rfl)) rfl
theorem uw_5_156 : (Jvm.Cond.instanceMethod ({ cls := "HideReader", name := "tempt", desc := "(II)I" } : Jvm.MethodName)) ∈ UT := ut_t (tm_5 (List.mem_of_getElem? (i := 156) rfl)) rfl
theorem uw_5_157 : (Jvm.Cond.selects "HideReader" ({ cls := "HideReader", name := "tempt", desc := "(II)I" } : Jvm.MethodName) ({ cls := "HideReader", name := "tempt", desc := "(II)I" } : Jvm.MethodName)) ∈ UT := ut_t (tm_5 (List.mem_of_getElem? (i := 157) rfl)) rfl
theorem iv_X11_tempt : Cond.instanceMethod yX11_tempt ∈ UT ∧ Cond.selects (yX11_tempt).cls yX11_tempt yX11_tempt ∈ UT := ⟨uw_5_156, uw_5_157⟩
theorem uw_5_155 : (Jvm.Cond.methodLink "HideReaderLaw" (127 : Nat) ({ cls := "HideReader", name := "tempt", desc := "(II)I" } : Jvm.MethodName)) ∈ UT := ut_t (tm_5 (List.mem_of_getElem? (i := 155) rfl)) rfl
theorem uw_9_67 : (Jvm.Cond.instanceMethod ({ cls := "HideReaderModel", name := "tempt", desc := "(II)I" } : Jvm.MethodName)) ∈ UT := ut_t (tm_9 (List.mem_of_getElem? (i := 67) rfl)) rfl
theorem uw_9_68 : (Jvm.Cond.selects "HideReaderModel" ({ cls := "HideReaderModel", name := "tempt", desc := "(II)I" } : Jvm.MethodName) ({ cls := "HideReaderModel", name := "tempt", desc := "(II)I" } : Jvm.MethodName)) ∈ UT := ut_t (tm_9 (List.mem_of_getElem? (i := 68) rfl)) rfl
theorem iv_X12_tempt : Cond.instanceMethod yX12_tempt ∈ UT ∧ Cond.selects (yX12_tempt).cls yX12_tempt yX12_tempt ∈ UT := ⟨uw_9_67, uw_9_68⟩
theorem uw_9_66 : (Jvm.Cond.methodLink "HideReaderLaw" (130 : Nat) ({ cls := "HideReaderModel", name := "tempt", desc := "(II)I" } : Jvm.MethodName)) ∈ UT := ut_t (tm_9 (List.mem_of_getElem? (i := 66) rfl)) rfl
theorem uw_5_164 : (Jvm.Cond.instanceMethod ({ cls := "HideReader", name := "useful", desc := "()I" } : Jvm.MethodName)) ∈ UT := ut_t (tm_5 (List.mem_of_getElem? (i := 164) rfl)) rfl
theorem uw_5_165 : (Jvm.Cond.selects "HideReader" ({ cls := "HideReader", name := "useful", desc := "()I" } : Jvm.MethodName) ({ cls := "HideReader", name := "useful", desc := "()I" } : Jvm.MethodName)) ∈ UT := ut_t (tm_5 (List.mem_of_getElem? (i := 165) rfl)) rfl
theorem iv_X11_useful : Cond.instanceMethod yX11_useful ∈ UT ∧ Cond.selects (yX11_useful).cls yX11_useful yX11_useful ∈ UT := ⟨uw_5_164, uw_5_165⟩
theorem uw_5_163 : (Jvm.Cond.methodLink "HideReaderLaw" (131 : Nat) ({ cls := "HideReader", name := "useful", desc := "()I" } : Jvm.MethodName)) ∈ UT := ut_t (tm_5 (List.mem_of_getElem? (i := 163) rfl)) rfl
theorem uw_9_71 : (Jvm.Cond.instanceMethod ({ cls := "HideReaderModel", name := "useful", desc := "()I" } : Jvm.MethodName)) ∈ UT := ut_t (tm_9 (List.mem_of_getElem? (i := 71) rfl)) rfl
theorem uw_9_72 : (Jvm.Cond.selects "HideReaderModel" ({ cls := "HideReaderModel", name := "useful", desc := "()I" } : Jvm.MethodName) ({ cls := "HideReaderModel", name := "useful", desc := "()I" } : Jvm.MethodName)) ∈ UT := ut_t (tm_9 (List.mem_of_getElem? (i := 72) rfl)) rfl
theorem iv_X12_useful : Cond.instanceMethod yX12_useful ∈ UT ∧ Cond.selects (yX12_useful).cls yX12_useful yX12_useful ∈ UT := ⟨uw_9_71, uw_9_72⟩
theorem uw_9_70 : (Jvm.Cond.methodLink "HideReaderLaw" (134 : Nat) ({ cls := "HideReaderModel", name := "useful", desc := "()I" } : Jvm.MethodName)) ∈ UT := ut_t (tm_9 (List.mem_of_getElem? (i := 70) rfl)) rfl
theorem uw_5_177 : (Jvm.Cond.instanceMethod ({ cls := "HideReader", name := "nearest", desc := "(II)I" } : Jvm.MethodName)) ∈ UT := ut_t (tm_5 (List.mem_of_getElem? (i := 177) rfl)) rfl
theorem uw_5_178 : (Jvm.Cond.selects "HideReader" ({ cls := "HideReader", name := "nearest", desc := "(II)I" } : Jvm.MethodName) ({ cls := "HideReader", name := "nearest", desc := "(II)I" } : Jvm.MethodName)) ∈ UT := ut_t (tm_5 (List.mem_of_getElem? (i := 178) rfl)) rfl
theorem iv_X11_nearest : Cond.instanceMethod yX11_nearest ∈ UT ∧ Cond.selects (yX11_nearest).cls yX11_nearest yX11_nearest ∈ UT := ⟨uw_5_177, uw_5_178⟩
theorem uw_5_176 : (Jvm.Cond.methodLink "HideReaderLaw" (135 : Nat) ({ cls := "HideReader", name := "nearest", desc := "(II)I" } : Jvm.MethodName)) ∈ UT := ut_t (tm_5 (List.mem_of_getElem? (i := 176) rfl)) rfl
theorem uw_9_99 : (Jvm.Cond.instanceMethod ({ cls := "HideReaderModel", name := "nearest", desc := "(II)I" } : Jvm.MethodName)) ∈ UT := ut_t (tm_9 (List.mem_of_getElem? (i := 99) rfl)) rfl
theorem uw_9_100 : (Jvm.Cond.selects "HideReaderModel" ({ cls := "HideReaderModel", name := "nearest", desc := "(II)I" } : Jvm.MethodName) ({ cls := "HideReaderModel", name := "nearest", desc := "(II)I" } : Jvm.MethodName)) ∈ UT := ut_t (tm_9 (List.mem_of_getElem? (i := 100) rfl)) rfl
theorem iv_X12_nearest : Cond.instanceMethod yX12_nearest ∈ UT ∧ Cond.selects (yX12_nearest).cls yX12_nearest yX12_nearest ∈ UT := ⟨uw_9_99, uw_9_100⟩
theorem uw_9_98 : (Jvm.Cond.methodLink "HideReaderLaw" (138 : Nat) ({ cls := "HideReaderModel", name := "nearest", desc := "(II)I" } : Jvm.MethodName)) ∈ UT := ut_t (tm_9 (List.mem_of_getElem? (i := 98) rfl)) rfl
theorem uw_5_191 : (Jvm.Cond.instanceMethod ({ cls := "HideReader", name := "shared", desc := "(II)I" } : Jvm.MethodName)) ∈ UT := ut_t (tm_5 (List.mem_of_getElem? (i := 191) rfl)) rfl
theorem uw_5_192 : (Jvm.Cond.selects "HideReader" ({ cls := "HideReader", name := "shared", desc := "(II)I" } : Jvm.MethodName) ({ cls := "HideReader", name := "shared", desc := "(II)I" } : Jvm.MethodName)) ∈ UT := ut_t (tm_5 (List.mem_of_getElem? (i := 192) rfl)) rfl
theorem iv_X11_shared : Cond.instanceMethod yX11_shared ∈ UT ∧ Cond.selects (yX11_shared).cls yX11_shared yX11_shared ∈ UT := ⟨uw_5_191, uw_5_192⟩
theorem uw_5_190 : (Jvm.Cond.methodLink "HideReaderLaw" (139 : Nat) ({ cls := "HideReader", name := "shared", desc := "(II)I" } : Jvm.MethodName)) ∈ UT := ut_t (tm_5 (List.mem_of_getElem? (i := 190) rfl)) rfl
theorem uw_9_107 : (Jvm.Cond.instanceMethod ({ cls := "HideReaderModel", name := "shared", desc := "(II)I" } : Jvm.MethodName)) ∈ UT := ut_t (tm_9 (List.mem_of_getElem? (i := 107) rfl)) rfl
theorem uw_9_108 : (Jvm.Cond.selects "HideReaderModel" ({ cls := "HideReaderModel", name := "shared", desc := "(II)I" } : Jvm.MethodName) ({ cls := "HideReaderModel", name := "shared", desc := "(II)I" } : Jvm.MethodName)) ∈ UT := ut_t (tm_9 (List.mem_of_getElem? (i := 108) rfl)) rfl
theorem iv_X12_shared : Cond.instanceMethod yX12_shared ∈ UT ∧ Cond.selects (yX12_shared).cls yX12_shared yX12_shared ∈ UT := ⟨uw_9_107, uw_9_108⟩
theorem uw_9_106 : (Jvm.Cond.methodLink "HideReaderLaw" (142 : Nat) ({ cls := "HideReaderModel", name := "shared", desc := "(II)I" } : Jvm.MethodName)) ∈ UT := ut_t (tm_9 (List.mem_of_getElem? (i := 106) rfl)) rfl
theorem uw_5_200 : (Jvm.Cond.instanceMethod ({ cls := "HideReader", name := "fades", desc := "(I)I" } : Jvm.MethodName)) ∈ UT := ut_t (tm_5 (List.mem_of_getElem? (i := 200) rfl)) rfl
theorem uw_5_201 : (Jvm.Cond.selects "HideReader" ({ cls := "HideReader", name := "fades", desc := "(I)I" } : Jvm.MethodName) ({ cls := "HideReader", name := "fades", desc := "(I)I" } : Jvm.MethodName)) ∈ UT := ut_t (tm_5 (List.mem_of_getElem? (i := 201) rfl)) rfl
theorem iv_X11_fades : Cond.instanceMethod yX11_fades ∈ UT ∧ Cond.selects (yX11_fades).cls yX11_fades yX11_fades ∈ UT := ⟨uw_5_200, uw_5_201⟩
theorem uw_5_199 : (Jvm.Cond.methodLink "HideReaderLaw" (143 : Nat) ({ cls := "HideReader", name := "fades", desc := "(I)I" } : Jvm.MethodName)) ∈ UT := ut_t (tm_5 (List.mem_of_getElem? (i := 199) rfl)) rfl
theorem uw_9_111 : (Jvm.Cond.instanceMethod ({ cls := "HideReaderModel", name := "fades", desc := "(I)I" } : Jvm.MethodName)) ∈ UT := ut_t (tm_9 (List.mem_of_getElem? (i := 111) rfl)) rfl
theorem uw_9_112 : (Jvm.Cond.selects "HideReaderModel" ({ cls := "HideReaderModel", name := "fades", desc := "(I)I" } : Jvm.MethodName) ({ cls := "HideReaderModel", name := "fades", desc := "(I)I" } : Jvm.MethodName)) ∈ UT := ut_t (tm_9 (List.mem_of_getElem? (i := 112) rfl)) rfl
theorem iv_X12_fades : Cond.instanceMethod yX12_fades ∈ UT ∧ Cond.selects (yX12_fades).cls yX12_fades yX12_fades ∈ UT := ⟨uw_9_111, uw_9_112⟩
theorem uw_9_110 : (Jvm.Cond.methodLink "HideReaderLaw" (146 : Nat) ({ cls := "HideReaderModel", name := "fades", desc := "(I)I" } : Jvm.MethodName)) ∈ UT := ut_t (tm_9 (List.mem_of_getElem? (i := 110) rfl)) rfl
theorem uw_5_208 : (Jvm.Cond.instanceMethod ({ cls := "HideReader", name := "twins", desc := "()I" } : Jvm.MethodName)) ∈ UT := ut_t (tm_5 (List.mem_of_getElem? (i := 208) rfl)) rfl
theorem uw_5_209 : (Jvm.Cond.selects "HideReader" ({ cls := "HideReader", name := "twins", desc := "()I" } : Jvm.MethodName) ({ cls := "HideReader", name := "twins", desc := "()I" } : Jvm.MethodName)) ∈ UT := ut_t (tm_5 (List.mem_of_getElem? (i := 209) rfl)) rfl
theorem iv_X11_twins : Cond.instanceMethod yX11_twins ∈ UT ∧ Cond.selects (yX11_twins).cls yX11_twins yX11_twins ∈ UT := ⟨uw_5_208, uw_5_209⟩
theorem uw_5_207 : (Jvm.Cond.methodLink "HideReaderLaw" (147 : Nat) ({ cls := "HideReader", name := "twins", desc := "()I" } : Jvm.MethodName)) ∈ UT := ut_t (tm_5 (List.mem_of_getElem? (i := 207) rfl)) rfl
theorem uw_9_95 : (Jvm.Cond.instanceMethod ({ cls := "HideReaderModel", name := "twins", desc := "()I" } : Jvm.MethodName)) ∈ UT := ut_t (tm_9 (List.mem_of_getElem? (i := 95) rfl)) rfl
theorem uw_9_96 : (Jvm.Cond.selects "HideReaderModel" ({ cls := "HideReaderModel", name := "twins", desc := "()I" } : Jvm.MethodName) ({ cls := "HideReaderModel", name := "twins", desc := "()I" } : Jvm.MethodName)) ∈ UT := ut_t (tm_9 (List.mem_of_getElem? (i := 96) rfl)) rfl
theorem iv_X12_twins : Cond.instanceMethod yX12_twins ∈ UT ∧ Cond.selects (yX12_twins).cls yX12_twins yX12_twins ∈ UT := ⟨uw_9_95, uw_9_96⟩
theorem uw_9_94 : (Jvm.Cond.methodLink "HideReaderLaw" (150 : Nat) ({ cls := "HideReaderModel", name := "twins", desc := "()I" } : Jvm.MethodName)) ∈ UT := ut_t (tm_9 (List.mem_of_getElem? (i := 94) rfl)) rfl
theorem uw_5_216 : (Jvm.Cond.instanceMethod ({ cls := "HideReader", name := "untouched", desc := "()I" } : Jvm.MethodName)) ∈ UT := ut_t (tm_5 (List.mem_of_getElem? (i := 216) rfl)) rfl
theorem uw_5_217 : (Jvm.Cond.selects "HideReader" ({ cls := "HideReader", name := "untouched", desc := "()I" } : Jvm.MethodName) ({ cls := "HideReader", name := "untouched", desc := "()I" } : Jvm.MethodName)) ∈ UT := ut_t (tm_5 (List.mem_of_getElem? (i := 217) rfl)) rfl
theorem iv_X11_untouched : Cond.instanceMethod yX11_untouched ∈ UT ∧ Cond.selects (yX11_untouched).cls yX11_untouched yX11_untouched ∈ UT := ⟨uw_5_216, uw_5_217⟩
theorem uw_5_215 : (Jvm.Cond.methodLink "HideReaderLaw" (151 : Nat) ({ cls := "HideReader", name := "untouched", desc := "()I" } : Jvm.MethodName)) ∈ UT := ut_t (tm_5 (List.mem_of_getElem? (i := 215) rfl)) rfl
theorem uw_8_215 : (Jvm.Cond.instanceMethod ({ cls := "HideReaderModel", name := "untouched", desc := "()I" } : Jvm.MethodName)) ∈ UT := ut_t (tm_8 (List.mem_of_getElem? (i := 215) rfl)) rfl
theorem uw_8_216 : (Jvm.Cond.selects "HideReaderModel" ({ cls := "HideReaderModel", name := "untouched", desc := "()I" } : Jvm.MethodName) ({ cls := "HideReaderModel", name := "untouched", desc := "()I" } : Jvm.MethodName)) ∈ UT := ut_t (tm_8 (List.mem_of_getElem? (i := 216) rfl)) rfl
theorem iv_X12_untouched : Cond.instanceMethod yX12_untouched ∈ UT ∧ Cond.selects (yX12_untouched).cls yX12_untouched yX12_untouched ∈ UT := ⟨uw_8_215, uw_8_216⟩
theorem uw_8_214 : (Jvm.Cond.methodLink "HideReaderLaw" (154 : Nat) ({ cls := "HideReaderModel", name := "untouched", desc := "()I" } : Jvm.MethodName)) ∈ UT := ut_t (tm_8 (List.mem_of_getElem? (i := 214) rfl)) rfl
theorem uw_5_224 : (Jvm.Cond.instanceMethod ({ cls := "HideReader", name := "tells", desc := "()I" } : Jvm.MethodName)) ∈ UT := ut_t (tm_5 (List.mem_of_getElem? (i := 224) rfl)) rfl
theorem uw_5_225 : (Jvm.Cond.selects "HideReader" ({ cls := "HideReader", name := "tells", desc := "()I" } : Jvm.MethodName) ({ cls := "HideReader", name := "tells", desc := "()I" } : Jvm.MethodName)) ∈ UT := ut_t (tm_5 (List.mem_of_getElem? (i := 225) rfl)) rfl
theorem iv_X11_tells : Cond.instanceMethod yX11_tells ∈ UT ∧ Cond.selects (yX11_tells).cls yX11_tells yX11_tells ∈ UT := ⟨uw_5_224, uw_5_225⟩
theorem uw_5_223 : (Jvm.Cond.methodLink "HideReaderLaw" (155 : Nat) ({ cls := "HideReader", name := "tells", desc := "()I" } : Jvm.MethodName)) ∈ UT := ut_t (tm_5 (List.mem_of_getElem? (i := 223) rfl)) rfl
theorem uw_8_219 : (Jvm.Cond.instanceMethod ({ cls := "HideReaderModel", name := "tells", desc := "()I" } : Jvm.MethodName)) ∈ UT := ut_t (tm_8 (List.mem_of_getElem? (i := 219) rfl)) rfl
theorem uw_8_220 : (Jvm.Cond.selects "HideReaderModel" ({ cls := "HideReaderModel", name := "tells", desc := "()I" } : Jvm.MethodName) ({ cls := "HideReaderModel", name := "tells", desc := "()I" } : Jvm.MethodName)) ∈ UT := ut_t (tm_8 (List.mem_of_getElem? (i := 220) rfl)) rfl
theorem iv_X12_tells : Cond.instanceMethod yX12_tells ∈ UT ∧ Cond.selects (yX12_tells).cls yX12_tells yX12_tells ∈ UT := ⟨uw_8_219, uw_8_220⟩
theorem uw_8_218 : (Jvm.Cond.methodLink "HideReaderLaw" (158 : Nat) ({ cls := "HideReaderModel", name := "tells", desc := "()I" } : Jvm.MethodName)) ∈ UT := ut_t (tm_8 (List.mem_of_getElem? (i := 218) rfl)) rfl
theorem uw_5_235 : (Jvm.Cond.instanceMethod ({ cls := "HideReader", name := "raid", desc := "(II)I" } : Jvm.MethodName)) ∈ UT := ut_t (tm_5 (List.mem_of_getElem? (i := 235) rfl)) rfl
theorem uw_5_236 : (Jvm.Cond.selects "HideReader" ({ cls := "HideReader", name := "raid", desc := "(II)I" } : Jvm.MethodName) ({ cls := "HideReader", name := "raid", desc := "(II)I" } : Jvm.MethodName)) ∈ UT := ut_t (tm_5 (List.mem_of_getElem? (i := 236) rfl)) rfl
theorem iv_X11_raid : Cond.instanceMethod yX11_raid ∈ UT ∧ Cond.selects (yX11_raid).cls yX11_raid yX11_raid ∈ UT := ⟨uw_5_235, uw_5_236⟩
theorem uw_5_234 : (Jvm.Cond.methodLink "HideReaderLaw" (159 : Nat) ({ cls := "HideReader", name := "raid", desc := "(II)I" } : Jvm.MethodName)) ∈ UT := ut_t (tm_5 (List.mem_of_getElem? (i := 234) rfl)) rfl
theorem uw_9_131 : (Jvm.Cond.instanceMethod ({ cls := "HideReaderModel", name := "raid", desc := "(II)I" } : Jvm.MethodName)) ∈ UT := ut_t (tm_9 (List.mem_of_getElem? (i := 131) rfl)) rfl
theorem uw_9_132 : (Jvm.Cond.selects "HideReaderModel" ({ cls := "HideReaderModel", name := "raid", desc := "(II)I" } : Jvm.MethodName) ({ cls := "HideReaderModel", name := "raid", desc := "(II)I" } : Jvm.MethodName)) ∈ UT := ut_t (tm_9 (List.mem_of_getElem? (i := 132) rfl)) rfl
theorem iv_X12_raid : Cond.instanceMethod yX12_raid ∈ UT ∧ Cond.selects (yX12_raid).cls yX12_raid yX12_raid ∈ UT := ⟨uw_9_131, uw_9_132⟩
theorem uw_9_130 : (Jvm.Cond.methodLink "HideReaderLaw" (162 : Nat) ({ cls := "HideReaderModel", name := "raid", desc := "(II)I" } : Jvm.MethodName)) ∈ UT := ut_t (tm_9 (List.mem_of_getElem? (i := 130) rfl)) rfl
theorem uw_6_11 : (Jvm.Cond.instanceMethod ({ cls := "HideReader", name := "closed", desc := "()I" } : Jvm.MethodName)) ∈ UT := ut_t (tm_6 (List.mem_of_getElem? (i := 11) rfl)) rfl
theorem uw_6_12 : (Jvm.Cond.selects "HideReader" ({ cls := "HideReader", name := "closed", desc := "()I" } : Jvm.MethodName) ({ cls := "HideReader", name := "closed", desc := "()I" } : Jvm.MethodName)) ∈ UT := ut_t (tm_6 (List.mem_of_getElem? (i := 12) rfl)) rfl
theorem iv_X11_closed : Cond.instanceMethod yX11_closed ∈ UT ∧ Cond.selects (yX11_closed).cls yX11_closed yX11_closed ∈ UT := ⟨uw_6_11, uw_6_12⟩
theorem uw_6_10 : (Jvm.Cond.methodLink "HideReaderLaw" (163 : Nat) ({ cls := "HideReader", name := "closed", desc := "()I" } : Jvm.MethodName)) ∈ UT := ut_t (tm_6 (List.mem_of_getElem? (i := 10) rfl)) rfl
theorem uw_9_91 : (Jvm.Cond.instanceMethod ({ cls := "HideReaderModel", name := "closed", desc := "()I" } : Jvm.MethodName)) ∈ UT := ut_t (tm_9 (List.mem_of_getElem? (i := 91) rfl)) rfl
theorem uw_9_92 : (Jvm.Cond.selects "HideReaderModel" ({ cls := "HideReaderModel", name := "closed", desc := "()I" } : Jvm.MethodName) ({ cls := "HideReaderModel", name := "closed", desc := "()I" } : Jvm.MethodName)) ∈ UT := ut_t (tm_9 (List.mem_of_getElem? (i := 92) rfl)) rfl
theorem iv_X12_closed : Cond.instanceMethod yX12_closed ∈ UT ∧ Cond.selects (yX12_closed).cls yX12_closed yX12_closed ∈ UT := ⟨uw_9_91, uw_9_92⟩
theorem uw_9_90 : (Jvm.Cond.methodLink "HideReaderLaw" (166 : Nat) ({ cls := "HideReaderModel", name := "closed", desc := "()I" } : Jvm.MethodName)) ∈ UT := ut_t (tm_9 (List.mem_of_getElem? (i := 90) rfl)) rfl
theorem uw_6_21 : (Jvm.Cond.instanceMethod ({ cls := "HideReader", name := "faces", desc := "(I)I" } : Jvm.MethodName)) ∈ UT := ut_t (tm_6 (List.mem_of_getElem? (i := 21) rfl)) rfl
theorem uw_6_22 : (Jvm.Cond.selects "HideReader" ({ cls := "HideReader", name := "faces", desc := "(I)I" } : Jvm.MethodName) ({ cls := "HideReader", name := "faces", desc := "(I)I" } : Jvm.MethodName)) ∈ UT := ut_t (tm_6 (List.mem_of_getElem? (i := 22) rfl)) rfl
theorem iv_X11_faces : Cond.instanceMethod yX11_faces ∈ UT ∧ Cond.selects (yX11_faces).cls yX11_faces yX11_faces ∈ UT := ⟨uw_6_21, uw_6_22⟩
theorem uw_6_20 : (Jvm.Cond.methodLink "HideReaderLaw" (167 : Nat) ({ cls := "HideReader", name := "faces", desc := "(I)I" } : Jvm.MethodName)) ∈ UT := ut_t (tm_6 (List.mem_of_getElem? (i := 20) rfl)) rfl
theorem uw_8_199 : (Jvm.Cond.instanceMethod ({ cls := "HideReaderModel", name := "faces", desc := "(I)I" } : Jvm.MethodName)) ∈ UT := ut_t (tm_8 (List.mem_of_getElem? (i := 199) rfl)) rfl
theorem uw_8_200 : (Jvm.Cond.selects "HideReaderModel" ({ cls := "HideReaderModel", name := "faces", desc := "(I)I" } : Jvm.MethodName) ({ cls := "HideReaderModel", name := "faces", desc := "(I)I" } : Jvm.MethodName)) ∈ UT := ut_t (tm_8 (List.mem_of_getElem? (i := 200) rfl)) rfl
theorem iv_X12_faces : Cond.instanceMethod yX12_faces ∈ UT ∧ Cond.selects (yX12_faces).cls yX12_faces yX12_faces ∈ UT := ⟨uw_8_199, uw_8_200⟩
theorem uw_8_198 : (Jvm.Cond.methodLink "HideReaderLaw" (170 : Nat) ({ cls := "HideReaderModel", name := "faces", desc := "(I)I" } : Jvm.MethodName)) ∈ UT := ut_t (tm_8 (List.mem_of_getElem? (i := 198) rfl)) rfl
theorem uw_6_29 : (Jvm.Cond.instanceMethod ({ cls := "HideReader", name := "norm", desc := "(I)I" } : Jvm.MethodName)) ∈ UT := ut_t (tm_6 (List.mem_of_getElem? (i := 29) rfl)) rfl
theorem uw_6_30 : (Jvm.Cond.selects "HideReader" ({ cls := "HideReader", name := "norm", desc := "(I)I" } : Jvm.MethodName) ({ cls := "HideReader", name := "norm", desc := "(I)I" } : Jvm.MethodName)) ∈ UT := ut_t (tm_6 (List.mem_of_getElem? (i := 30) rfl)) rfl
theorem iv_X11_norm : Cond.instanceMethod yX11_norm ∈ UT ∧ Cond.selects (yX11_norm).cls yX11_norm yX11_norm ∈ UT := ⟨uw_6_29, uw_6_30⟩
theorem uw_6_28 : (Jvm.Cond.methodLink "HideReaderLaw" (171 : Nat) ({ cls := "HideReader", name := "norm", desc := "(I)I" } : Jvm.MethodName)) ∈ UT := ut_t (tm_6 (List.mem_of_getElem? (i := 28) rfl)) rfl
theorem uw_8_191 : (Jvm.Cond.instanceMethod ({ cls := "HideReaderModel", name := "norm", desc := "(I)I" } : Jvm.MethodName)) ∈ UT := ut_t (tm_8 (List.mem_of_getElem? (i := 191) rfl)) rfl
theorem uw_8_192 : (Jvm.Cond.selects "HideReaderModel" ({ cls := "HideReaderModel", name := "norm", desc := "(I)I" } : Jvm.MethodName) ({ cls := "HideReaderModel", name := "norm", desc := "(I)I" } : Jvm.MethodName)) ∈ UT := ut_t (tm_8 (List.mem_of_getElem? (i := 192) rfl)) rfl
theorem iv_X12_norm : Cond.instanceMethod yX12_norm ∈ UT ∧ Cond.selects (yX12_norm).cls yX12_norm yX12_norm ∈ UT := ⟨uw_8_191, uw_8_192⟩
theorem uw_8_190 : (Jvm.Cond.methodLink "HideReaderLaw" (174 : Nat) ({ cls := "HideReaderModel", name := "norm", desc := "(I)I" } : Jvm.MethodName)) ∈ UT := ut_t (tm_8 (List.mem_of_getElem? (i := 190) rfl)) rfl
theorem uw_6_34 : (Jvm.Cond.instanceMethod ({ cls := "HideReader", name := "strays", desc := "()I" } : Jvm.MethodName)) ∈ UT := ut_t (tm_6 (List.mem_of_getElem? (i := 34) rfl)) rfl
theorem uw_6_35 : (Jvm.Cond.selects "HideReader" ({ cls := "HideReader", name := "strays", desc := "()I" } : Jvm.MethodName) ({ cls := "HideReader", name := "strays", desc := "()I" } : Jvm.MethodName)) ∈ UT := ut_t (tm_6 (List.mem_of_getElem? (i := 35) rfl)) rfl
theorem iv_X11_strays : Cond.instanceMethod yX11_strays ∈ UT ∧ Cond.selects (yX11_strays).cls yX11_strays yX11_strays ∈ UT := ⟨uw_6_34, uw_6_35⟩
theorem uw_6_33 : (Jvm.Cond.methodLink "HideReaderLaw" (175 : Nat) ({ cls := "HideReader", name := "strays", desc := "()I" } : Jvm.MethodName)) ∈ UT := ut_t (tm_6 (List.mem_of_getElem? (i := 33) rfl)) rfl
theorem uw_8_207 : (Jvm.Cond.instanceMethod ({ cls := "HideReaderModel", name := "strays", desc := "()I" } : Jvm.MethodName)) ∈ UT := ut_t (tm_8 (List.mem_of_getElem? (i := 207) rfl)) rfl
theorem uw_8_208 : (Jvm.Cond.selects "HideReaderModel" ({ cls := "HideReaderModel", name := "strays", desc := "()I" } : Jvm.MethodName) ({ cls := "HideReaderModel", name := "strays", desc := "()I" } : Jvm.MethodName)) ∈ UT := ut_t (tm_8 (List.mem_of_getElem? (i := 208) rfl)) rfl
theorem iv_X12_strays : Cond.instanceMethod yX12_strays ∈ UT ∧ Cond.selects (yX12_strays).cls yX12_strays yX12_strays ∈ UT := ⟨uw_8_207, uw_8_208⟩
theorem uw_8_206 : (Jvm.Cond.methodLink "HideReaderLaw" (178 : Nat) ({ cls := "HideReaderModel", name := "strays", desc := "()I" } : Jvm.MethodName)) ∈ UT := ut_t (tm_8 (List.mem_of_getElem? (i := 206) rfl)) rfl
theorem uw_6_42 : (Jvm.Cond.instanceMethod ({ cls := "HideReader", name := "oldest", desc := "(I)I" } : Jvm.MethodName)) ∈ UT := ut_t (tm_6 (List.mem_of_getElem? (i := 42) rfl)) rfl
theorem uw_6_43 : (Jvm.Cond.selects "HideReader" ({ cls := "HideReader", name := "oldest", desc := "(I)I" } : Jvm.MethodName) ({ cls := "HideReader", name := "oldest", desc := "(I)I" } : Jvm.MethodName)) ∈ UT := ut_t (tm_6 (List.mem_of_getElem? (i := 43) rfl)) rfl
theorem iv_X11_oldest : Cond.instanceMethod yX11_oldest ∈ UT ∧ Cond.selects (yX11_oldest).cls yX11_oldest yX11_oldest ∈ UT := ⟨uw_6_42, uw_6_43⟩
theorem uw_6_41 : (Jvm.Cond.methodLink "HideReaderLaw" (179 : Nat) ({ cls := "HideReader", name := "oldest", desc := "(I)I" } : Jvm.MethodName)) ∈ UT := ut_t (tm_6 (List.mem_of_getElem? (i := 41) rfl)) rfl
theorem uw_8_203 : (Jvm.Cond.instanceMethod ({ cls := "HideReaderModel", name := "oldest", desc := "(I)I" } : Jvm.MethodName)) ∈ UT := ut_t (tm_8 (List.mem_of_getElem? (i := 203) rfl)) rfl
theorem uw_8_204 : (Jvm.Cond.selects "HideReaderModel" ({ cls := "HideReaderModel", name := "oldest", desc := "(I)I" } : Jvm.MethodName) ({ cls := "HideReaderModel", name := "oldest", desc := "(I)I" } : Jvm.MethodName)) ∈ UT := ut_t (tm_8 (List.mem_of_getElem? (i := 204) rfl)) rfl
theorem iv_X12_oldest : Cond.instanceMethod yX12_oldest ∈ UT ∧ Cond.selects (yX12_oldest).cls yX12_oldest yX12_oldest ∈ UT := ⟨uw_8_203, uw_8_204⟩
theorem uw_8_202 : (Jvm.Cond.methodLink "HideReaderLaw" (182 : Nat) ({ cls := "HideReaderModel", name := "oldest", desc := "(I)I" } : Jvm.MethodName)) ∈ UT := ut_t (tm_8 (List.mem_of_getElem? (i := 202) rfl)) rfl
theorem uw_6_52 : (Jvm.Cond.instanceMethod ({ cls := "HideReader", name := "will", desc := "(I)I" } : Jvm.MethodName)) ∈ UT := ut_t (tm_6 (List.mem_of_getElem? (i := 52) rfl)) rfl
theorem uw_6_53 : (Jvm.Cond.selects "HideReader" ({ cls := "HideReader", name := "will", desc := "(I)I" } : Jvm.MethodName) ({ cls := "HideReader", name := "will", desc := "(I)I" } : Jvm.MethodName)) ∈ UT := ut_t (tm_6 (List.mem_of_getElem? (i := 53) rfl)) rfl
theorem iv_X11_will : Cond.instanceMethod yX11_will ∈ UT ∧ Cond.selects (yX11_will).cls yX11_will yX11_will ∈ UT := ⟨uw_6_52, uw_6_53⟩
theorem uw_6_51 : (Jvm.Cond.methodLink "HideReaderLaw" (183 : Nat) ({ cls := "HideReader", name := "will", desc := "(I)I" } : Jvm.MethodName)) ∈ UT := ut_t (tm_6 (List.mem_of_getElem? (i := 51) rfl)) rfl
theorem uw_8_223 : (Jvm.Cond.instanceMethod ({ cls := "HideReaderModel", name := "will", desc := "(I)I" } : Jvm.MethodName)) ∈ UT := ut_t (tm_8 (List.mem_of_getElem? (i := 223) rfl)) rfl
theorem uw_8_224 : (Jvm.Cond.selects "HideReaderModel" ({ cls := "HideReaderModel", name := "will", desc := "(I)I" } : Jvm.MethodName) ({ cls := "HideReaderModel", name := "will", desc := "(I)I" } : Jvm.MethodName)) ∈ UT := ut_t (tm_8 (List.mem_of_getElem? (i := 224) rfl)) rfl
theorem iv_X12_will : Cond.instanceMethod yX12_will ∈ UT ∧ Cond.selects (yX12_will).cls yX12_will yX12_will ∈ UT := ⟨uw_8_223, uw_8_224⟩
theorem uw_8_222 : (Jvm.Cond.methodLink "HideReaderLaw" (186 : Nat) ({ cls := "HideReaderModel", name := "will", desc := "(I)I" } : Jvm.MethodName)) ∈ UT := ut_t (tm_8 (List.mem_of_getElem? (i := 222) rfl)) rfl
theorem uw_6_60 : (Jvm.Cond.instanceMethod ({ cls := "HideReader", name := "law", desc := "(I)I" } : Jvm.MethodName)) ∈ UT := ut_t (tm_6 (List.mem_of_getElem? (i := 60) rfl)) rfl
theorem uw_6_61 : (Jvm.Cond.selects "HideReader" ({ cls := "HideReader", name := "law", desc := "(I)I" } : Jvm.MethodName) ({ cls := "HideReader", name := "law", desc := "(I)I" } : Jvm.MethodName)) ∈ UT := ut_t (tm_6 (List.mem_of_getElem? (i := 61) rfl)) rfl
theorem iv_X11_law : Cond.instanceMethod yX11_law ∈ UT ∧ Cond.selects (yX11_law).cls yX11_law yX11_law ∈ UT := ⟨uw_6_60, uw_6_61⟩
theorem uw_6_59 : (Jvm.Cond.methodLink "HideReaderLaw" (187 : Nat) ({ cls := "HideReader", name := "law", desc := "(I)I" } : Jvm.MethodName)) ∈ UT := ut_t (tm_6 (List.mem_of_getElem? (i := 59) rfl)) rfl
theorem uw_8_231 : (Jvm.Cond.instanceMethod ({ cls := "HideReaderModel", name := "law", desc := "(I)I" } : Jvm.MethodName)) ∈ UT := ut_t (tm_8 (List.mem_of_getElem? (i := 231) rfl)) rfl
theorem uw_8_232 : (Jvm.Cond.selects "HideReaderModel" ({ cls := "HideReaderModel", name := "law", desc := "(I)I" } : Jvm.MethodName) ({ cls := "HideReaderModel", name := "law", desc := "(I)I" } : Jvm.MethodName)) ∈ UT := ut_t (tm_8 (List.mem_of_getElem? (i := 232) rfl)) rfl
theorem iv_X12_law : Cond.instanceMethod yX12_law ∈ UT ∧ Cond.selects (yX12_law).cls yX12_law yX12_law ∈ UT := ⟨uw_8_231, uw_8_232⟩
theorem uw_8_230 : (Jvm.Cond.methodLink "HideReaderLaw" (190 : Nat) ({ cls := "HideReaderModel", name := "law", desc := "(I)I" } : Jvm.MethodName)) ∈ UT := ut_t (tm_8 (List.mem_of_getElem? (i := 230) rfl)) rfl
theorem uw_6_68 : (Jvm.Cond.instanceMethod ({ cls := "HideReader", name := "odds", desc := "(II)I" } : Jvm.MethodName)) ∈ UT := ut_t (tm_6 (List.mem_of_getElem? (i := 68) rfl)) rfl
theorem uw_6_69 : (Jvm.Cond.selects "HideReader" ({ cls := "HideReader", name := "odds", desc := "(II)I" } : Jvm.MethodName) ({ cls := "HideReader", name := "odds", desc := "(II)I" } : Jvm.MethodName)) ∈ UT := ut_t (tm_6 (List.mem_of_getElem? (i := 69) rfl)) rfl
theorem iv_X11_odds : Cond.instanceMethod yX11_odds ∈ UT ∧ Cond.selects (yX11_odds).cls yX11_odds yX11_odds ∈ UT := ⟨uw_6_68, uw_6_69⟩
theorem uw_6_67 : (Jvm.Cond.methodLink "HideReaderLaw" (191 : Nat) ({ cls := "HideReader", name := "odds", desc := "(II)I" } : Jvm.MethodName)) ∈ UT := ut_t (tm_6 (List.mem_of_getElem? (i := 67) rfl)) rfl
theorem uw_9_143 : (Jvm.Cond.instanceMethod ({ cls := "HideReaderModel", name := "odds", desc := "(II)I" } : Jvm.MethodName)) ∈ UT := ut_t (tm_9 (List.mem_of_getElem? (i := 143) rfl)) rfl
theorem uw_9_144 : (Jvm.Cond.selects "HideReaderModel" ({ cls := "HideReaderModel", name := "odds", desc := "(II)I" } : Jvm.MethodName) ({ cls := "HideReaderModel", name := "odds", desc := "(II)I" } : Jvm.MethodName)) ∈ UT := ut_t (tm_9 (List.mem_of_getElem? (i := 144) rfl)) rfl
theorem iv_X12_odds : Cond.instanceMethod yX12_odds ∈ UT ∧ Cond.selects (yX12_odds).cls yX12_odds yX12_odds ∈ UT := ⟨uw_9_143, uw_9_144⟩
theorem uw_9_142 : (Jvm.Cond.methodLink "HideReaderLaw" (194 : Nat) ({ cls := "HideReaderModel", name := "odds", desc := "(II)I" } : Jvm.MethodName)) ∈ UT := ut_t (tm_9 (List.mem_of_getElem? (i := 142) rfl)) rfl
theorem uw_6_75 : (Jvm.Cond.instanceMethod ({ cls := "HideReader", name := "lies", desc := "(I)I" } : Jvm.MethodName)) ∈ UT := ut_t (tm_6 (List.mem_of_getElem? (i := 75) rfl)) rfl
theorem uw_6_76 : (Jvm.Cond.selects "HideReader" ({ cls := "HideReader", name := "lies", desc := "(I)I" } : Jvm.MethodName) ({ cls := "HideReader", name := "lies", desc := "(I)I" } : Jvm.MethodName)) ∈ UT := ut_t (tm_6 (List.mem_of_getElem? (i := 76) rfl)) rfl
theorem iv_X11_lies : Cond.instanceMethod yX11_lies ∈ UT ∧ Cond.selects (yX11_lies).cls yX11_lies yX11_lies ∈ UT := ⟨uw_6_75, uw_6_76⟩
theorem uw_6_74 : (Jvm.Cond.methodLink "HideReaderLaw" (195 : Nat) ({ cls := "HideReader", name := "lies", desc := "(I)I" } : Jvm.MethodName)) ∈ UT := ut_t (tm_6 (List.mem_of_getElem? (i := 74) rfl)) rfl
theorem uw_9_31 : (Jvm.Cond.instanceMethod ({ cls := "HideReaderModel", name := "lies", desc := "(I)I" } : Jvm.MethodName)) ∈ UT := ut_t (tm_9 (List.mem_of_getElem? (i := 31) rfl)) rfl
theorem uw_9_32 : (Jvm.Cond.selects "HideReaderModel" ({ cls := "HideReaderModel", name := "lies", desc := "(I)I" } : Jvm.MethodName) ({ cls := "HideReaderModel", name := "lies", desc := "(I)I" } : Jvm.MethodName)) ∈ UT := ut_t (tm_9 (List.mem_of_getElem? (i := 32) rfl)) rfl
theorem iv_X12_lies : Cond.instanceMethod yX12_lies ∈ UT ∧ Cond.selects (yX12_lies).cls yX12_lies yX12_lies ∈ UT := ⟨uw_9_31, uw_9_32⟩
theorem uw_9_30 : (Jvm.Cond.methodLink "HideReaderLaw" (198 : Nat) ({ cls := "HideReaderModel", name := "lies", desc := "(I)I" } : Jvm.MethodName)) ∈ UT := ut_t (tm_9 (List.mem_of_getElem? (i := 30) rfl)) rfl
theorem uw_4_164 : (Jvm.Cond.code ({ cls := "HideReader", name := "isStroke", desc := "(I)Z" } : Jvm.MethodName) prog_1_method_60_code (1 : Nat) (Option.some Jvm.ClassFile.FieldType.boolean)) ∈ UT := ut_t (tm_4 (List.mem_of_getElem? (i := 164) rfl)) rfl
theorem ck_X11_isStroke : ckC yX11_isStroke cX11_isStroke 1 (some .boolean) 1 := ⟨⟨uw_1_1, uw_4_164⟩, by decide +kernel, by decide +kernel, by decide⟩
theorem uw_4_163 : (Jvm.Cond.static ({ cls := "HideReader", name := "isStroke", desc := "(I)Z" } : Jvm.MethodName)) ∈ UT := ut_t (tm_4 (List.mem_of_getElem? (i := 163) rfl)) rfl
theorem uw_4_162 : (Jvm.Cond.methodLink "HideReader" (186 : Nat) ({ cls := "HideReader", name := "isStroke", desc := "(I)Z" } : Jvm.MethodName)) ∈ UT := ut_t (tm_4 (List.mem_of_getElem? (i := 162) rfl)) rfl
theorem uw_6_81 : (Jvm.Cond.code ({ cls := "HideReader", name := "seen", desc := "(IIZ)I" } : Jvm.MethodName) prog_1_method_47_code (4 : Nat) (Option.some Jvm.ClassFile.FieldType.int)) ∈ UT := ut_t (tm_6 (List.mem_of_getElem? (i := 81) rfl)) rfl
theorem ck_X11_seen : ckC yX11_seen cX11_seen 4 (some .int) 3 := ⟨⟨uw_1_1, uw_6_81⟩, by decide +kernel, by decide +kernel, by decide⟩
theorem uw_9_155 : (Jvm.Cond.code ({ cls := "HideReaderModel", name := "seen", desc := "(IIZ)I" } : Jvm.MethodName) prog_14_method_120_code (4 : Nat) (Option.some Jvm.ClassFile.FieldType.int)) ∈ UT := ut_t (tm_9 (List.mem_of_getElem? (i := 155) rfl)) rfl
theorem ck_X12_seen : ckC yX12_seen cX12_seen 4 (some .int) 3 := ⟨⟨uw_1_17, uw_9_155⟩, by decide +kernel, by decide +kernel, by decide⟩
theorem uw_6_79 : (Jvm.Cond.instanceMethod ({ cls := "HideReader", name := "seen", desc := "(IIZ)I" } : Jvm.MethodName)) ∈ UT := ut_t (tm_6 (List.mem_of_getElem? (i := 79) rfl)) rfl
theorem uw_6_80 : (Jvm.Cond.selects "HideReader" ({ cls := "HideReader", name := "seen", desc := "(IIZ)I" } : Jvm.MethodName) ({ cls := "HideReader", name := "seen", desc := "(IIZ)I" } : Jvm.MethodName)) ∈ UT := ut_t (tm_6 (List.mem_of_getElem? (i := 80) rfl)) rfl
theorem iv_X11_seen : Cond.instanceMethod yX11_seen ∈ UT ∧ Cond.selects (yX11_seen).cls yX11_seen yX11_seen ∈ UT := ⟨uw_6_79, uw_6_80⟩
theorem uw_6_78 : (Jvm.Cond.methodLink "HideReaderLaw" (199 : Nat) ({ cls := "HideReader", name := "seen", desc := "(IIZ)I" } : Jvm.MethodName)) ∈ UT := ut_t (tm_6 (List.mem_of_getElem? (i := 78) rfl)) rfl
theorem uw_9_153 : (Jvm.Cond.instanceMethod ({ cls := "HideReaderModel", name := "seen", desc := "(IIZ)I" } : Jvm.MethodName)) ∈ UT := ut_t (tm_9 (List.mem_of_getElem? (i := 153) rfl)) rfl
theorem uw_9_154 : (Jvm.Cond.selects "HideReaderModel" ({ cls := "HideReaderModel", name := "seen", desc := "(IIZ)I" } : Jvm.MethodName) ({ cls := "HideReaderModel", name := "seen", desc := "(IIZ)I" } : Jvm.MethodName)) ∈ UT := ut_t (tm_9 (List.mem_of_getElem? (i := 154) rfl)) rfl
theorem iv_X12_seen : Cond.instanceMethod yX12_seen ∈ UT ∧ Cond.selects (yX12_seen).cls yX12_seen yX12_seen ∈ UT := ⟨uw_9_153, uw_9_154⟩
theorem uw_9_152 : (Jvm.Cond.methodLink "HideReaderLaw" (203 : Nat) ({ cls := "HideReaderModel", name := "seen", desc := "(IIZ)I" } : Jvm.MethodName)) ∈ UT := ut_t (tm_9 (List.mem_of_getElem? (i := 152) rfl)) rfl
theorem uw_6_90 : (Jvm.Cond.instanceMethod ({ cls := "HideReader", name := "untell", desc := "(I)Z" } : Jvm.MethodName)) ∈ UT := ut_t (tm_6 (List.mem_of_getElem? (i := 90) rfl)) rfl
theorem uw_6_91 : (Jvm.Cond.selects "HideReader" ({ cls := "HideReader", name := "untell", desc := "(I)Z" } : Jvm.MethodName) ({ cls := "HideReader", name := "untell", desc := "(I)Z" } : Jvm.MethodName)) ∈ UT := ut_t (tm_6 (List.mem_of_getElem? (i := 91) rfl)) rfl
theorem iv_X11_untell : Cond.instanceMethod yX11_untell ∈ UT ∧ Cond.selects (yX11_untell).cls yX11_untell yX11_untell ∈ UT := ⟨uw_6_90, uw_6_91⟩
theorem uw_6_89 : (Jvm.Cond.methodLink "HideReaderLaw" (204 : Nat) ({ cls := "HideReader", name := "untell", desc := "(I)Z" } : Jvm.MethodName)) ∈ UT := ut_t (tm_6 (List.mem_of_getElem? (i := 89) rfl)) rfl
theorem uw_9_157 : (Jvm.Cond.instanceMethod ({ cls := "HideReaderModel", name := "untell", desc := "(I)Z" } : Jvm.MethodName)) ∈ UT := ut_t (tm_9 (List.mem_of_getElem? (i := 157) rfl)) rfl
theorem uw_9_158 : (Jvm.Cond.selects "HideReaderModel" ({ cls := "HideReaderModel", name := "untell", desc := "(I)Z" } : Jvm.MethodName) ({ cls := "HideReaderModel", name := "untell", desc := "(I)Z" } : Jvm.MethodName)) ∈ UT := ut_t (tm_9 (List.mem_of_getElem? (i := 158) rfl)) rfl
theorem iv_X12_untell : Cond.instanceMethod yX12_untell ∈ UT ∧ Cond.selects (yX12_untell).cls yX12_untell yX12_untell ∈ UT := ⟨uw_9_157, uw_9_158⟩
theorem uw_9_156 : (Jvm.Cond.methodLink "HideReaderLaw" (208 : Nat) ({ cls := "HideReaderModel", name := "untell", desc := "(I)Z" } : Jvm.MethodName)) ∈ UT := ut_t (tm_9 (List.mem_of_getElem? (i := 156) rfl)) rfl
theorem uw_6_98 : (Jvm.Cond.instanceMethod ({ cls := "HideReader", name := "later", desc := "(I)I" } : Jvm.MethodName)) ∈ UT := ut_t (tm_6 (List.mem_of_getElem? (i := 98) rfl)) rfl
theorem uw_6_99 : (Jvm.Cond.selects "HideReader" ({ cls := "HideReader", name := "later", desc := "(I)I" } : Jvm.MethodName) ({ cls := "HideReader", name := "later", desc := "(I)I" } : Jvm.MethodName)) ∈ UT := ut_t (tm_6 (List.mem_of_getElem? (i := 99) rfl)) rfl
theorem iv_X11_later : Cond.instanceMethod yX11_later ∈ UT ∧ Cond.selects (yX11_later).cls yX11_later yX11_later ∈ UT := ⟨uw_6_98, uw_6_99⟩
theorem uw_6_97 : (Jvm.Cond.methodLink "HideReaderLaw" (209 : Nat) ({ cls := "HideReader", name := "later", desc := "(I)I" } : Jvm.MethodName)) ∈ UT := ut_t (tm_6 (List.mem_of_getElem? (i := 97) rfl)) rfl
theorem uw_9_161 : (Jvm.Cond.instanceMethod ({ cls := "HideReaderModel", name := "later", desc := "(I)I" } : Jvm.MethodName)) ∈ UT := ut_t (tm_9 (List.mem_of_getElem? (i := 161) rfl)) rfl
theorem uw_9_162 : (Jvm.Cond.selects "HideReaderModel" ({ cls := "HideReaderModel", name := "later", desc := "(I)I" } : Jvm.MethodName) ({ cls := "HideReaderModel", name := "later", desc := "(I)I" } : Jvm.MethodName)) ∈ UT := ut_t (tm_9 (List.mem_of_getElem? (i := 162) rfl)) rfl
theorem iv_X12_later : Cond.instanceMethod yX12_later ∈ UT ∧ Cond.selects (yX12_later).cls yX12_later yX12_later ∈ UT := ⟨uw_9_161, uw_9_162⟩
theorem uw_9_160 : (Jvm.Cond.methodLink "HideReaderLaw" (212 : Nat) ({ cls := "HideReaderModel", name := "later", desc := "(I)I" } : Jvm.MethodName)) ∈ UT := ut_t (tm_9 (List.mem_of_getElem? (i := 160) rfl)) rfl
theorem uw_6_107 : (Jvm.Cond.instanceMethod ({ cls := "HideReader", name := "rows", desc := "(I)I" } : Jvm.MethodName)) ∈ UT := ut_t (tm_6 (List.mem_of_getElem? (i := 107) rfl)) rfl
theorem uw_6_108 : (Jvm.Cond.selects "HideReader" ({ cls := "HideReader", name := "rows", desc := "(I)I" } : Jvm.MethodName) ({ cls := "HideReader", name := "rows", desc := "(I)I" } : Jvm.MethodName)) ∈ UT := ut_t (tm_6 (List.mem_of_getElem? (i := 108) rfl)) rfl
theorem iv_X11_rows : Cond.instanceMethod yX11_rows ∈ UT ∧ Cond.selects (yX11_rows).cls yX11_rows yX11_rows ∈ UT := ⟨uw_6_107, uw_6_108⟩
theorem uw_6_106 : (Jvm.Cond.methodLink "HideReaderLaw" (213 : Nat) ({ cls := "HideReader", name := "rows", desc := "(I)I" } : Jvm.MethodName)) ∈ UT := ut_t (tm_6 (List.mem_of_getElem? (i := 106) rfl)) rfl
theorem uw_9_166 : (Jvm.Cond.instanceMethod ({ cls := "HideReaderModel", name := "rows", desc := "(I)I" } : Jvm.MethodName)) ∈ UT := ut_t (tm_9 (List.mem_of_getElem? (i := 166) rfl)) rfl
theorem uw_9_167 : (Jvm.Cond.selects "HideReaderModel" ({ cls := "HideReaderModel", name := "rows", desc := "(I)I" } : Jvm.MethodName) ({ cls := "HideReaderModel", name := "rows", desc := "(I)I" } : Jvm.MethodName)) ∈ UT := ut_t (tm_9 (List.mem_of_getElem? (i := 167) rfl)) rfl
theorem iv_X12_rows : Cond.instanceMethod yX12_rows ∈ UT ∧ Cond.selects (yX12_rows).cls yX12_rows yX12_rows ∈ UT := ⟨uw_9_166, uw_9_167⟩
theorem uw_9_165 : (Jvm.Cond.methodLink "HideReaderLaw" (216 : Nat) ({ cls := "HideReaderModel", name := "rows", desc := "(I)I" } : Jvm.MethodName)) ∈ UT := ut_t (tm_9 (List.mem_of_getElem? (i := 165) rfl)) rfl
theorem uw_6_137 : (Jvm.Cond.instanceMethod ({ cls := "HideReader", name := "sure", desc := "(II)I" } : Jvm.MethodName)) ∈ UT := ut_t (tm_6 (List.mem_of_getElem? (i := 137) rfl)) rfl
theorem uw_6_138 : (Jvm.Cond.selects "HideReader" ({ cls := "HideReader", name := "sure", desc := "(II)I" } : Jvm.MethodName) ({ cls := "HideReader", name := "sure", desc := "(II)I" } : Jvm.MethodName)) ∈ UT := ut_t (tm_6 (List.mem_of_getElem? (i := 138) rfl)) rfl
theorem iv_X11_sure : Cond.instanceMethod yX11_sure ∈ UT ∧ Cond.selects (yX11_sure).cls yX11_sure yX11_sure ∈ UT := ⟨uw_6_137, uw_6_138⟩
theorem uw_6_136 : (Jvm.Cond.methodLink "HideReaderLaw" (217 : Nat) ({ cls := "HideReader", name := "sure", desc := "(II)I" } : Jvm.MethodName)) ∈ UT := ut_t (tm_6 (List.mem_of_getElem? (i := 136) rfl)) rfl
theorem uw_9_178 : (Jvm.Cond.instanceMethod ({ cls := "HideReaderModel", name := "sure", desc := "(II)I" } : Jvm.MethodName)) ∈ UT := ut_t (tm_9 (List.mem_of_getElem? (i := 178) rfl)) rfl
theorem uw_9_179 : (Jvm.Cond.selects "HideReaderModel" ({ cls := "HideReaderModel", name := "sure", desc := "(II)I" } : Jvm.MethodName) ({ cls := "HideReaderModel", name := "sure", desc := "(II)I" } : Jvm.MethodName)) ∈ UT := ut_t (tm_9 (List.mem_of_getElem? (i := 179) rfl)) rfl
theorem iv_X12_sure : Cond.instanceMethod yX12_sure ∈ UT ∧ Cond.selects (yX12_sure).cls yX12_sure yX12_sure ∈ UT := ⟨uw_9_178, uw_9_179⟩
theorem uw_9_177 : (Jvm.Cond.methodLink "HideReaderLaw" (220 : Nat) ({ cls := "HideReaderModel", name := "sure", desc := "(II)I" } : Jvm.MethodName)) ∈ UT := ut_t (tm_9 (List.mem_of_getElem? (i := 177) rfl)) rfl
theorem uw_6_146 : (Jvm.Cond.instanceMethod ({ cls := "HideReader", name := "ask", desc := "(II)I" } : Jvm.MethodName)) ∈ UT := ut_t (tm_6 (List.mem_of_getElem? (i := 146) rfl)) rfl
theorem uw_6_147 : (Jvm.Cond.selects "HideReader" ({ cls := "HideReader", name := "ask", desc := "(II)I" } : Jvm.MethodName) ({ cls := "HideReader", name := "ask", desc := "(II)I" } : Jvm.MethodName)) ∈ UT := ut_t (tm_6 (List.mem_of_getElem? (i := 147) rfl)) rfl
theorem iv_X11_ask : Cond.instanceMethod yX11_ask ∈ UT ∧ Cond.selects (yX11_ask).cls yX11_ask yX11_ask ∈ UT := ⟨uw_6_146, uw_6_147⟩
theorem uw_6_145 : (Jvm.Cond.methodLink "HideReaderLaw" (221 : Nat) ({ cls := "HideReader", name := "ask", desc := "(II)I" } : Jvm.MethodName)) ∈ UT := ut_t (tm_6 (List.mem_of_getElem? (i := 145) rfl)) rfl
theorem uw_9_182 : (Jvm.Cond.instanceMethod ({ cls := "HideReaderModel", name := "ask", desc := "(II)I" } : Jvm.MethodName)) ∈ UT := ut_t (tm_9 (List.mem_of_getElem? (i := 182) rfl)) rfl
theorem uw_9_183 : (Jvm.Cond.selects "HideReaderModel" ({ cls := "HideReaderModel", name := "ask", desc := "(II)I" } : Jvm.MethodName) ({ cls := "HideReaderModel", name := "ask", desc := "(II)I" } : Jvm.MethodName)) ∈ UT := ut_t (tm_9 (List.mem_of_getElem? (i := 183) rfl)) rfl
theorem iv_X12_ask : Cond.instanceMethod yX12_ask ∈ UT ∧ Cond.selects (yX12_ask).cls yX12_ask yX12_ask ∈ UT := ⟨uw_9_182, uw_9_183⟩
theorem uw_9_181 : (Jvm.Cond.methodLink "HideReaderLaw" (224 : Nat) ({ cls := "HideReaderModel", name := "ask", desc := "(II)I" } : Jvm.MethodName)) ∈ UT := ut_t (tm_9 (List.mem_of_getElem? (i := 181) rfl)) rfl
theorem uw_6_156 : (Jvm.Cond.instanceMethod ({ cls := "HideReader", name := "image", desc := "(I)I" } : Jvm.MethodName)) ∈ UT := ut_t (tm_6 (List.mem_of_getElem? (i := 156) rfl)) rfl
theorem uw_6_157 : (Jvm.Cond.selects "HideReader" ({ cls := "HideReader", name := "image", desc := "(I)I" } : Jvm.MethodName) ({ cls := "HideReader", name := "image", desc := "(I)I" } : Jvm.MethodName)) ∈ UT := ut_t (tm_6 (List.mem_of_getElem? (i := 157) rfl)) rfl
theorem iv_X11_image : Cond.instanceMethod yX11_image ∈ UT ∧ Cond.selects (yX11_image).cls yX11_image yX11_image ∈ UT := ⟨uw_6_156, uw_6_157⟩
theorem uw_6_155 : (Jvm.Cond.methodLink "HideReaderLaw" (225 : Nat) ({ cls := "HideReader", name := "image", desc := "(I)I" } : Jvm.MethodName)) ∈ UT := ut_t (tm_6 (List.mem_of_getElem? (i := 155) rfl)) rfl
theorem uw_9_190 : (Jvm.Cond.instanceMethod ({ cls := "HideReaderModel", name := "image", desc := "(I)I" } : Jvm.MethodName)) ∈ UT := ut_t (tm_9 (List.mem_of_getElem? (i := 190) rfl)) rfl
theorem uw_9_191 : (Jvm.Cond.selects "HideReaderModel" ({ cls := "HideReaderModel", name := "image", desc := "(I)I" } : Jvm.MethodName) ({ cls := "HideReaderModel", name := "image", desc := "(I)I" } : Jvm.MethodName)) ∈ UT := ut_t (tm_9 (List.mem_of_getElem? (i := 191) rfl)) rfl
theorem iv_X12_image : Cond.instanceMethod yX12_image ∈ UT ∧ Cond.selects (yX12_image).cls yX12_image yX12_image ∈ UT := ⟨uw_9_190, uw_9_191⟩
theorem uw_9_189 : (Jvm.Cond.methodLink "HideReaderLaw" (228 : Nat) ({ cls := "HideReaderModel", name := "image", desc := "(I)I" } : Jvm.MethodName)) ∈ UT := ut_t (tm_9 (List.mem_of_getElem? (i := 189) rfl)) rfl
theorem uw_6_167 : (Jvm.Cond.instanceMethod ({ cls := "HideReader", name := "back", desc := "(I)I" } : Jvm.MethodName)) ∈ UT := ut_t (tm_6 (List.mem_of_getElem? (i := 167) rfl)) rfl
theorem uw_6_168 : (Jvm.Cond.selects "HideReader" ({ cls := "HideReader", name := "back", desc := "(I)I" } : Jvm.MethodName) ({ cls := "HideReader", name := "back", desc := "(I)I" } : Jvm.MethodName)) ∈ UT := ut_t (tm_6 (List.mem_of_getElem? (i := 168) rfl)) rfl
theorem iv_X11_back : Cond.instanceMethod yX11_back ∈ UT ∧ Cond.selects (yX11_back).cls yX11_back yX11_back ∈ UT := ⟨uw_6_167, uw_6_168⟩
theorem uw_6_166 : (Jvm.Cond.methodLink "HideReaderLaw" (229 : Nat) ({ cls := "HideReader", name := "back", desc := "(I)I" } : Jvm.MethodName)) ∈ UT := ut_t (tm_6 (List.mem_of_getElem? (i := 166) rfl)) rfl
theorem uw_9_194 : (Jvm.Cond.instanceMethod ({ cls := "HideReaderModel", name := "back", desc := "(I)I" } : Jvm.MethodName)) ∈ UT := ut_t (tm_9 (List.mem_of_getElem? (i := 194) rfl)) rfl
theorem uw_9_195 : (Jvm.Cond.selects "HideReaderModel" ({ cls := "HideReaderModel", name := "back", desc := "(I)I" } : Jvm.MethodName) ({ cls := "HideReaderModel", name := "back", desc := "(I)I" } : Jvm.MethodName)) ∈ UT := ut_t (tm_9 (List.mem_of_getElem? (i := 195) rfl)) rfl
theorem iv_X12_back : Cond.instanceMethod yX12_back ∈ UT ∧ Cond.selects (yX12_back).cls yX12_back yX12_back ∈ UT := ⟨uw_9_194, uw_9_195⟩
theorem uw_9_193 : (Jvm.Cond.methodLink "HideReaderLaw" (232 : Nat) ({ cls := "HideReaderModel", name := "back", desc := "(I)I" } : Jvm.MethodName)) ∈ UT := ut_t (tm_9 (List.mem_of_getElem? (i := 193) rfl)) rfl
theorem uw_6_175 : (Jvm.Cond.instanceMethod ({ cls := "HideReader", name := "about", desc := "(I)I" } : Jvm.MethodName)) ∈ UT := ut_t (tm_6 (List.mem_of_getElem? (i := 175) rfl)) rfl
theorem uw_6_176 : (Jvm.Cond.selects "HideReader" ({ cls := "HideReader", name := "about", desc := "(I)I" } : Jvm.MethodName) ({ cls := "HideReader", name := "about", desc := "(I)I" } : Jvm.MethodName)) ∈ UT := ut_t (tm_6 (List.mem_of_getElem? (i := 176) rfl)) rfl
theorem iv_X11_about : Cond.instanceMethod yX11_about ∈ UT ∧ Cond.selects (yX11_about).cls yX11_about yX11_about ∈ UT := ⟨uw_6_175, uw_6_176⟩
theorem uw_6_174 : (Jvm.Cond.methodLink "HideReaderLaw" (233 : Nat) ({ cls := "HideReader", name := "about", desc := "(I)I" } : Jvm.MethodName)) ∈ UT := ut_t (tm_6 (List.mem_of_getElem? (i := 174) rfl)) rfl
theorem uw_9_198 : (Jvm.Cond.instanceMethod ({ cls := "HideReaderModel", name := "about", desc := "(I)I" } : Jvm.MethodName)) ∈ UT := ut_t (tm_9 (List.mem_of_getElem? (i := 198) rfl)) rfl
theorem uw_9_199 : (Jvm.Cond.selects "HideReaderModel" ({ cls := "HideReaderModel", name := "about", desc := "(I)I" } : Jvm.MethodName) ({ cls := "HideReaderModel", name := "about", desc := "(I)I" } : Jvm.MethodName)) ∈ UT := ut_t (tm_9 (List.mem_of_getElem? (i := 199) rfl)) rfl
theorem iv_X12_about : Cond.instanceMethod yX12_about ∈ UT ∧ Cond.selects (yX12_about).cls yX12_about yX12_about ∈ UT := ⟨uw_9_198, uw_9_199⟩
theorem uw_9_197 : (Jvm.Cond.methodLink "HideReaderLaw" (236 : Nat) ({ cls := "HideReaderModel", name := "about", desc := "(I)I" } : Jvm.MethodName)) ∈ UT := ut_t (tm_9 (List.mem_of_getElem? (i := 197) rfl)) rfl
theorem uw_1_24 : (Jvm.Cond.instantiable "HideReader" (12 : Nat)) ∈ UT := ut_t (tm_1 (List.mem_of_getElem? (i := 24) rfl)) rfl
theorem uw_6_199 : (Jvm.Cond.instantiable "HideReaderModel" (64 : Nat)) ∈ UT := ut_t (tm_6 (List.mem_of_getElem? (i := 199) rfl)) rfl
theorem uw_1_23 : (Jvm.Cond.classLink "HideReaderLaw" (7 : Nat) "HideReader") ∈ UT := ut_t (tm_1 (List.mem_of_getElem? (i := 23) rfl)) rfl
theorem df_11 : ∀ j, j < 12 → defaultValue (tyX11 j) = vp_V [.null, .null, .null, .null, .null, .null, .null, .null, .null, .null, .null, .int 0] j := fun j hj => match j, hj with
  | 0, _ => rfl
  | 1, _ => rfl
  | 2, _ => rfl
  | 3, _ => rfl
  | 4, _ => rfl
  | 5, _ => rfl
  | 6, _ => rfl
  | 7, _ => rfl
  | 8, _ => rfl
  | 9, _ => rfl
  | 10, _ => rfl
  | 11, _ => rfl
  | n + 12, h => absurd h (by omega)
theorem uw_1_26 : (Jvm.Cond.instanceMethod ({ cls := "HideReader", name := "<init>", desc := "()V" } : Jvm.MethodName)) ∈ UT := ut_t (tm_1 (List.mem_of_getElem? (i := 26) rfl)) rfl
theorem ii_X11_init : (yX11_init).name = "<init>" ∧ Cond.instanceMethod yX11_init ∈ UT := ⟨rfl, uw_1_26⟩
theorem uw_1_25 : (Jvm.Cond.methodLink "HideReaderLaw" (9 : Nat) ({ cls := "HideReader", name := "<init>", desc := "()V" } : Jvm.MethodName)) ∈ UT := ut_t (tm_1 (List.mem_of_getElem? (i := 25) rfl)) rfl
theorem uw_6_198 : (Jvm.Cond.classLink "HideReaderLaw" (10 : Nat) "HideReaderModel") ∈ UT := ut_t (tm_6 (List.mem_of_getElem? (i := 198) rfl)) rfl
theorem df_12 : ∀ j, j < 64 → defaultValue (tyX12 j) = vp_V [.null, .null, .int 0, .int 0, .int 0, .int 0, .int 0, .int 0, .int 0, .int 0, .long 0, .null, .null, .null, .null, .null, .null, .null, .null, .null, .null, .null, .null, .null, .null, .null, .null, .null, .null, .null, .null, .null, .null, .int 0, .int 0, .int 0, .int 0, .int 0, .int 0, .int 0, .int 0, .int 0, .int 0, .null, .null, .null, .int 0, .int 0, .null, .null, .int 0, .null, .null, .null, .null, .null, .null, .null, .null, .int 0, .int 0, .int 0, .null, .null] j := fun j hj => match j, hj with
  | 0, _ => rfl
  | 1, _ => rfl
  | 2, _ => rfl
  | 3, _ => rfl
  | 4, _ => rfl
  | 5, _ => rfl
  | 6, _ => rfl
  | 7, _ => rfl
  | 8, _ => rfl
  | 9, _ => rfl
  | 10, _ => rfl
  | 11, _ => rfl
  | 12, _ => rfl
  | 13, _ => rfl
  | 14, _ => rfl
  | 15, _ => rfl
  | 16, _ => rfl
  | 17, _ => rfl
  | 18, _ => rfl
  | 19, _ => rfl
  | 20, _ => rfl
  | 21, _ => rfl
  | 22, _ => rfl
  | 23, _ => rfl
  | 24, _ => rfl
  | 25, _ => rfl
  | 26, _ => rfl
  | 27, _ => rfl
  | 28, _ => rfl
  | 29, _ => rfl
  | 30, _ => rfl
  | 31, _ => rfl
  | 32, _ => rfl
  | 33, _ => rfl
  | 34, _ => rfl
  | 35, _ => rfl
  | 36, _ => rfl
  | 37, _ => rfl
  | 38, _ => rfl
  | 39, _ => rfl
  | 40, _ => rfl
  | 41, _ => rfl
  | 42, _ => rfl
  | 43, _ => rfl
  | 44, _ => rfl
  | 45, _ => rfl
  | 46, _ => rfl
  | 47, _ => rfl
  | 48, _ => rfl
  | 49, _ => rfl
  | 50, _ => rfl
  | 51, _ => rfl
  | 52, _ => rfl
  | 53, _ => rfl
  | 54, _ => rfl
  | 55, _ => rfl
  | 56, _ => rfl
  | 57, _ => rfl
  | 58, _ => rfl
  | 59, _ => rfl
  | 60, _ => rfl
  | 61, _ => rfl
  | 62, _ => rfl
  | 63, _ => rfl
  | n + 64, h => absurd h (by omega)
theorem uw_6_201 : (Jvm.Cond.instanceMethod ({ cls := "HideReaderModel", name := "<init>", desc := "()V" } : Jvm.MethodName)) ∈ UT := ut_t (tm_6 (List.mem_of_getElem? (i := 201) rfl)) rfl
theorem ii_X12_init : (yX12_init).name = "<init>" ∧ Cond.instanceMethod yX12_init ∈ UT := ⟨rfl, uw_6_201⟩
theorem uw_6_200 : (Jvm.Cond.methodLink "HideReaderLaw" (12 : Nat) ({ cls := "HideReaderModel", name := "<init>", desc := "()V" } : Jvm.MethodName)) ∈ UT := ut_t (tm_6 (List.mem_of_getElem? (i := 200) rfl)) rfl
