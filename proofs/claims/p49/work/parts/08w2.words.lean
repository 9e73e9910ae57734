theorem iv_X4_isOne : Cond.instanceMethod yX4_isOne ∈ UT ∧ Cond.selects (yX4_isOne).cls yX4_isOne yX4_isOne ∈ UT := ⟨uw_5_115, uw_5_116⟩
theorem ck_X4_fits : ckC yX4_fits cX4_fits 4 (some .boolean) 2 := ⟨⟨uw_1_10, uw_4_67⟩, by decide +kernel, by decide +kernel, by decide⟩
theorem uw_4_66 : (Jvm.Cond.selects "HideReader$Lattice" ({ cls := "HideReader$Lattice", name := "fits", desc := "(II)Z" } : Jvm.MethodName) ({ cls := "HideReader$Lattice", name := "fits", desc := "(II)Z" } : Jvm.MethodName)) ∈ UT := ut_t (tm_4 (List.mem_of_getElem? (i := 66) rfl)) rfl
theorem iv_X4_fits : Cond.instanceMethod yX4_fits ∈ UT ∧ Cond.selects (yX4_fits).cls yX4_fits yX4_fits ∈ UT := ⟨uw_4_65, uw_4_66⟩
theorem ck_X4_unlikePlacements : ckC yX4_unlikePlacements cX4_unlikePlacements 7 (some .int) 1 := ⟨⟨uw_1_10, uw_6_27⟩, by decide +kernel, by decide +kernel, by decide⟩
theorem uw_6_26 : (Jvm.Cond.selects "HideReader$Lattice" ({ cls := "HideReader$Lattice", name := "unlikePlacements", desc := "(I)I" } : Jvm.MethodName) ({ cls := "HideReader$Lattice", name := "unlikePlacements", desc := "(I)I" } : Jvm.MethodName)) ∈ UT := ut_t (tm_6 (List.mem_of_getElem? (i := 26) rfl)) rfl
theorem iv_X4_unlikePlacements : Cond.instanceMethod yX4_unlikePlacements ∈ UT ∧ Cond.selects (yX4_unlikePlacements).cls yX4_unlikePlacements yX4_unlikePlacements ∈ UT := ⟨uw_6_25, uw_6_26⟩
theorem ck_X4_mostCommon : ckC yX4_mostCommon cX4_mostCommon 5 (some .int) 2 := ⟨⟨uw_1_10, uw_5_197⟩, by decide +kernel, by decide +kernel, by decide⟩
theorem uw_5_196 : (Jvm.Cond.selects "HideReader$Lattice" ({ cls := "HideReader$Lattice", name := "mostCommon", desc := "(II)I" } : Jvm.MethodName) ({ cls := "HideReader$Lattice", name := "mostCommon", desc := "(II)I" } : Jvm.MethodName)) ∈ UT := ut_t (tm_5 (List.mem_of_getElem? (i := 196) rfl)) rfl
theorem iv_X4_mostCommon : Cond.instanceMethod yX4_mostCommon ∈ UT ∧ Cond.selects (yX4_mostCommon).cls yX4_mostCommon yX4_mostCommon ∈ UT := ⟨uw_5_195, uw_5_196⟩
theorem ck_X4_leastDifference : ckC yX4_leastDifference cX4_leastDifference 5 (some .int) 2 := ⟨⟨uw_1_10, uw_5_187⟩, by decide +kernel, by decide +kernel, by decide⟩
theorem uw_5_186 : (Jvm.Cond.selects "HideReader$Lattice" ({ cls := "HideReader$Lattice", name := "leastDifference", desc := "(II)I" } : Jvm.MethodName) ({ cls := "HideReader$Lattice", name := "leastDifference", desc := "(II)I" } : Jvm.MethodName)) ∈ UT := ut_t (tm_5 (List.mem_of_getElem? (i := 186) rfl)) rfl
theorem iv_X4_leastDifference : Cond.instanceMethod yX4_leastDifference ∈ UT ∧ Cond.selects (yX4_leastDifference).cls yX4_leastDifference yX4_leastDifference ∈ UT := ⟨uw_5_185, uw_5_186⟩
theorem ck_X5_init : ckC yX5_init cX5_init 1 none 0 := ⟨⟨uw_1_13, uw_2_84⟩, by decide +kernel, by decide +kernel, by decide⟩
theorem ii_X5_init : (yX5_init).name = "<init>" ∧ Cond.instanceMethod yX5_init ∈ UT := ⟨rfl, uw_2_83⟩
theorem ck_X5_copyFrom : ckC yX5_copyFrom cX5_copyFrom 2 none 1 := ⟨⟨uw_1_13, uw_4_195⟩, by decide +kernel, by decide +kernel, by decide⟩
theorem uw_4_194 : (Jvm.Cond.selects "HideReader$Pasture" ({ cls := "HideReader$Pasture", name := "copyFrom", desc := "(LHideReader$Pasture;)V" } : Jvm.MethodName) ({ cls := "HideReader$Pasture", name := "copyFrom", desc := "(LHideReader$Pasture;)V" } : Jvm.MethodName)) ∈ UT := ut_t (tm_4 (List.mem_of_getElem? (i := 194) rfl)) rfl
theorem iv_X5_copyFrom : Cond.instanceMethod yX5_copyFrom ∈ UT ∧ Cond.selects (yX5_copyFrom).cls yX5_copyFrom yX5_copyFrom ∈ UT := ⟨uw_4_193, uw_4_194⟩
theorem ck_X5_startAs : ckC yX5_startAs cX5_startAs 4 none 1 := ⟨⟨uw_1_13, uw_4_83⟩, by decide +kernel, by decide +kernel, by decide⟩
theorem uw_4_82 : (Jvm.Cond.selects "HideReader$Pasture" ({ cls := "HideReader$Pasture", name := "startAs", desc := "(LHideReader$Valley;)V" } : Jvm.MethodName) ({ cls := "HideReader$Pasture", name := "startAs", desc := "(LHideReader$Valley;)V" } : Jvm.MethodName)) ∈ UT := ut_t (tm_4 (List.mem_of_getElem? (i := 82) rfl)) rfl
theorem iv_X5_startAs : Cond.instanceMethod yX5_startAs ∈ UT ∧ Cond.selects (yX5_startAs).cls yX5_startAs yX5_startAs ∈ UT := ⟨uw_4_81, uw_4_82⟩
theorem ck_X5_rebrand : ckC yX5_rebrand cX5_rebrand 5 none 3 := ⟨⟨uw_1_13, uw_4_87⟩, by decide +kernel, by decide +kernel, by decide⟩
theorem uw_4_86 : (Jvm.Cond.selects "HideReader$Pasture" ({ cls := "HideReader$Pasture", name := "rebrand", desc := "(III)V" } : Jvm.MethodName) ({ cls := "HideReader$Pasture", name := "rebrand", desc := "(III)V" } : Jvm.MethodName)) ∈ UT := ut_t (tm_4 (List.mem_of_getElem? (i := 86) rfl)) rfl
theorem iv_X5_rebrand : Cond.instanceMethod yX5_rebrand ∈ UT ∧ Cond.selects (yX5_rebrand).cls yX5_rebrand yX5_rebrand ∈ UT := ⟨uw_4_85, uw_4_86⟩
theorem ck_X5_ageOf : ckC yX5_ageOf cX5_ageOf 3 (some .int) 2 := ⟨⟨uw_1_13, uw_4_133⟩, by decide +kernel, by decide +kernel, by decide⟩
theorem uw_4_132 : (Jvm.Cond.selects "HideReader$Pasture" ({ cls := "HideReader$Pasture", name := "ageOf", desc := "(II)I" } : Jvm.MethodName) ({ cls := "HideReader$Pasture", name := "ageOf", desc := "(II)I" } : Jvm.MethodName)) ∈ UT := ut_t (tm_4 (List.mem_of_getElem? (i := 132) rfl)) rfl
theorem iv_X5_ageOf : Cond.instanceMethod yX5_ageOf ∈ UT ∧ Cond.selects (yX5_ageOf).cls yX5_ageOf yX5_ageOf ∈ UT := ⟨uw_4_131, uw_4_132⟩
theorem ck_X5_oldestAge : ckC yX5_oldestAge cX5_oldestAge 4 (some .int) 1 := ⟨⟨uw_1_13, uw_6_48⟩, by decide +kernel, by decide +kernel, by decide⟩
theorem uw_6_47 : (Jvm.Cond.selects "HideReader$Pasture" ({ cls := "HideReader$Pasture", name := "oldestAge", desc := "(I)I" } : Jvm.MethodName) ({ cls := "HideReader$Pasture", name := "oldestAge", desc := "(I)I" } : Jvm.MethodName)) ∈ UT := ut_t (tm_6 (List.mem_of_getElem? (i := 47) rfl)) rfl
theorem iv_X5_oldestAge : Cond.instanceMethod yX5_oldestAge ∈ UT ∧ Cond.selects (yX5_oldestAge).cls yX5_oldestAge yX5_oldestAge ∈ UT := ⟨uw_6_46, uw_6_47⟩
theorem ck_X5_addStrokes : ckC yX5_addStrokes cX5_addStrokes 5 (some .int) 2 := ⟨⟨uw_1_13, uw_4_210⟩, by decide +kernel, by decide +kernel, by decide⟩
theorem uw_4_209 : (Jvm.Cond.selects "HideReader$Pasture" ({ cls := "HideReader$Pasture", name := "addStrokes", desc := "(II)I" } : Jvm.MethodName) ({ cls := "HideReader$Pasture", name := "addStrokes", desc := "(II)I" } : Jvm.MethodName)) ∈ UT := ut_t (tm_4 (List.mem_of_getElem? (i := 209) rfl)) rfl
theorem iv_X5_addStrokes : Cond.instanceMethod yX5_addStrokes ∈ UT ∧ Cond.selects (yX5_addStrokes).cls yX5_addStrokes yX5_addStrokes ∈ UT := ⟨uw_4_208, uw_4_209⟩
theorem ck_X5_growOld : ckC yX5_growOld cX5_growOld 2 none 0 := ⟨⟨uw_1_13, uw_4_201⟩, by decide +kernel, by decide +kernel, by decide⟩
theorem uw_4_200 : (Jvm.Cond.selects "HideReader$Pasture" ({ cls := "HideReader$Pasture", name := "growOld", desc := "()V" } : Jvm.MethodName) ({ cls := "HideReader$Pasture", name := "growOld", desc := "()V" } : Jvm.MethodName)) ∈ UT := ut_t (tm_4 (List.mem_of_getElem? (i := 200) rfl)) rfl
theorem iv_X5_growOld : Cond.instanceMethod yX5_growOld ∈ UT ∧ Cond.selects (yX5_growOld).cls yX5_growOld yX5_growOld ∈ UT := ⟨uw_4_199, uw_4_200⟩
theorem ck_X5_passNights : ckC yX5_passNights cX5_passNights 4 (some .int) 1 := ⟨⟨uw_1_13, uw_4_206⟩, by decide +kernel, by decide +kernel, by decide⟩
theorem uw_4_205 : (Jvm.Cond.selects "HideReader$Pasture" ({ cls := "HideReader$Pasture", name := "passNights", desc := "(LHideReader$Valley;)I" } : Jvm.MethodName) ({ cls := "HideReader$Pasture", name := "passNights", desc := "(LHideReader$Valley;)I" } : Jvm.MethodName)) ∈ UT := ut_t (tm_4 (List.mem_of_getElem? (i := 205) rfl)) rfl
theorem iv_X5_passNights : Cond.instanceMethod yX5_passNights ∈ UT ∧ Cond.selects (yX5_passNights).cls yX5_passNights yX5_passNights ∈ UT := ⟨uw_4_204, uw_4_205⟩
theorem ck_X6_init : ckC yX6_init cX6_init 2 none 1 := ⟨⟨uw_1_11, uw_2_52⟩, by decide +kernel, by decide +kernel, by decide⟩
theorem ii_X6_init : (yX6_init).name = "<init>" ∧ Cond.instanceMethod yX6_init ∈ UT := ⟨rfl, uw_2_51⟩
theorem ck_X6_layOut : ckC yX6_layOut cX6_layOut 4 none 1 := ⟨⟨uw_1_11, uw_4_39⟩, by decide +kernel, by decide +kernel, by decide⟩
theorem uw_4_38 : (Jvm.Cond.selects "HideReader$Smith" ({ cls := "HideReader$Smith", name := "layOut", desc := "(LHideReader$Valley;)V" } : Jvm.MethodName) ({ cls := "HideReader$Smith", name := "layOut", desc := "(LHideReader$Valley;)V" } : Jvm.MethodName)) ∈ UT := ut_t (tm_4 (List.mem_of_getElem? (i := 38) rfl)) rfl
theorem iv_X6_layOut : Cond.instanceMethod yX6_layOut ∈ UT ∧ Cond.selects (yX6_layOut).cls yX6_layOut yX6_layOut ∈ UT := ⟨uw_4_37, uw_4_38⟩
theorem ck_X6_irons : ckC yX6_irons cX6_irons 1 (some .int) 0 := ⟨⟨uw_1_11, uw_6_122⟩, by decide +kernel, by decide +kernel, by decide⟩
theorem uw_6_121 : (Jvm.Cond.selects "HideReader$Smith" ({ cls := "HideReader$Smith", name := "irons", desc := "()I" } : Jvm.MethodName) ({ cls := "HideReader$Smith", name := "irons", desc := "()I" } : Jvm.MethodName)) ∈ UT := ut_t (tm_6 (List.mem_of_getElem? (i := 121) rfl)) rfl
theorem iv_X6_irons : Cond.instanceMethod yX6_irons ∈ UT ∧ Cond.selects (yX6_irons).cls yX6_irons yX6_irons ∈ UT := ⟨uw_6_120, uw_6_121⟩
theorem ck_X6_placements : ckC yX6_placements cX6_placements 1 (some .int) 0 := ⟨⟨uw_1_11, uw_6_126⟩, by decide +kernel, by decide +kernel, by decide⟩
theorem uw_6_125 : (Jvm.Cond.selects "HideReader$Smith" ({ cls := "HideReader$Smith", name := "placements", desc := "()I" } : Jvm.MethodName) ({ cls := "HideReader$Smith", name := "placements", desc := "()I" } : Jvm.MethodName)) ∈ UT := ut_t (tm_6 (List.mem_of_getElem? (i := 125) rfl)) rfl
theorem iv_X6_placements : Cond.instanceMethod yX6_placements ∈ UT ∧ Cond.selects (yX6_placements).cls yX6_placements yX6_placements ∈ UT := ⟨uw_6_124, uw_6_125⟩
theorem ck_X6_placedIron : ckC yX6_placedIron cX6_placedIron 3 (some .int) 2 := ⟨⟨uw_1_11, uw_4_219⟩, by decide +kernel, by decide +kernel, by decide⟩
theorem uw_4_218 : (Jvm.Cond.selects "HideReader$Smith" ({ cls := "HideReader$Smith", name := "placedIron", desc := "(II)I" } : Jvm.MethodName) ({ cls := "HideReader$Smith", name := "placedIron", desc := "(II)I" } : Jvm.MethodName)) ∈ UT := ut_t (tm_4 (List.mem_of_getElem? (i := 218) rfl)) rfl
theorem iv_X6_placedIron : Cond.instanceMethod yX6_placedIron ∈ UT ∧ Cond.selects (yX6_placedIron).cls yX6_placedIron yX6_placedIron ∈ UT := ⟨uw_4_217, uw_4_218⟩
theorem ck_X6_fewest : ckC yX6_fewest cX6_fewest 6 (some .int) 2 := ⟨⟨uw_1_11, uw_5_14⟩, by decide +kernel, by decide +kernel, by decide⟩
theorem uw_5_13 : (Jvm.Cond.selects "HideReader$Smith" ({ cls := "HideReader$Smith", name := "fewest", desc := "(II)I" } : Jvm.MethodName) ({ cls := "HideReader$Smith", name := "fewest", desc := "(II)I" } : Jvm.MethodName)) ∈ UT := ut_t (tm_5 (List.mem_of_getElem? (i := 13) rfl)) rfl
theorem iv_X6_fewest : Cond.instanceMethod yX6_fewest ∈ UT ∧ Cond.selects (yX6_fewest).cls yX6_fewest yX6_fewest ∈ UT := ⟨uw_5_12, uw_5_13⟩
theorem ck_X6_aimAt : ckC yX6_aimAt cX6_aimAt 9 none 1 := ⟨⟨uw_1_11, uw_5_18⟩, by decide +kernel, by decide +kernel, by decide⟩
theorem iv_X6_aimAt : Cond.instanceMethod yX6_aimAt ∈ UT ∧ Cond.selects (yX6_aimAt).cls yX6_aimAt yX6_aimAt ∈ UT := ⟨uw_5_17, ut_s (q := (yX6_aimAt, 6)) (List.mem_append_right _ (List.mem_append_left _ (List.mem_of_getElem? (i := 13) rfl))) rfl⟩
theorem ck_X6_gatherWithin : ckC yX6_gatherWithin cX6_gatherWithin 6 (some .int) 1 := ⟨⟨uw_1_11, uw_5_22⟩, by decide +kernel, by decide +kernel, by decide⟩
theorem iv_X6_gatherWithin : Cond.instanceMethod yX6_gatherWithin ∈ UT ∧ Cond.selects (yX6_gatherWithin).cls yX6_gatherWithin yX6_gatherWithin ∈ UT := ⟨uw_5_21, ut_s (q := (yX6_gatherWithin, 6)) (List.mem_append_right _ (List.mem_append_left _ (List.mem_of_getElem? (i := 14) rfl))) rfl⟩
theorem ck_X6_firstRow : ckC yX6_firstRow cX6_firstRow 9 (some .int) 4 := ⟨⟨uw_1_11, uw_5_32⟩, by decide +kernel, by decide +kernel, by decide⟩
theorem uw_5_31 : (Jvm.Cond.selects "HideReader$Smith" ({ cls := "HideReader$Smith", name := "firstRow", desc := "(III[I)I" } : Jvm.MethodName) ({ cls := "HideReader$Smith", name := "firstRow", desc := "(III[I)I" } : Jvm.MethodName)) ∈ UT := ut_t (tm_5 (List.mem_of_getElem? (i := 31) rfl)) rfl
theorem iv_X6_firstRow : Cond.instanceMethod yX6_firstRow ∈ UT ∧ Cond.selects (yX6_firstRow).cls yX6_firstRow yX6_firstRow ∈ UT := ⟨uw_5_30, uw_5_31⟩
theorem ck_X6_firstStep : ckC yX6_firstStep cX6_firstStep 6 (some .int) 3 := ⟨⟨uw_1_11, uw_5_36⟩, by decide +kernel, by decide +kernel, by decide⟩
theorem iv_X6_firstStep : Cond.instanceMethod yX6_firstStep ∈ UT ∧ Cond.selects (yX6_firstStep).cls yX6_firstStep yX6_firstStep ∈ UT := ⟨uw_5_35, ut_s (q := (yX6_firstStep, 6)) (List.mem_append_right _ (List.mem_append_left _ (List.mem_of_getElem? (i := 15) rfl))) rfl⟩
theorem ck_X7_init : ckC yX7_init cX7_init 4 none 0 := ⟨⟨uw_1_2, uw_1_35⟩, by decide +kernel, by decide +kernel, by decide⟩
theorem ii_X7_init : (yX7_init).name = "<init>" ∧ Cond.instanceMethod yX7_init ∈ UT := ⟨rfl, uw_1_34⟩
theorem ck_X7_length : ckC yX7_length cX7_length 1 (some .int) 0 := ⟨⟨uw_1_2, uw_3_33⟩, by decide +kernel, by decide +kernel, by decide⟩
theorem uw_3_32 : (Jvm.Cond.selects "HideReader$Tape" ({ cls := "HideReader$Tape", name := "length", desc := "()I" } : Jvm.MethodName) ({ cls := "HideReader$Tape", name := "length", desc := "()I" } : Jvm.MethodName)) ∈ UT := ut_t (tm_3 (List.mem_of_getElem? (i := 32) rfl)) rfl
theorem iv_X7_length : Cond.instanceMethod yX7_length ∈ UT ∧ Cond.selects (yX7_length).cls yX7_length yX7_length ∈ UT := ⟨uw_3_31, uw_3_32⟩
theorem ck_X7_kind : ckC yX7_kind cX7_kind 1 (some .int) 0 := ⟨⟨uw_1_2, uw_3_158⟩, by decide +kernel, by decide +kernel, by decide⟩
theorem uw_3_157 : (Jvm.Cond.selects "HideReader$Tape" ({ cls := "HideReader$Tape", name := "kind", desc := "()I" } : Jvm.MethodName) ({ cls := "HideReader$Tape", name := "kind", desc := "()I" } : Jvm.MethodName)) ∈ UT := ut_t (tm_3 (List.mem_of_getElem? (i := 157) rfl)) rfl
theorem iv_X7_kind : Cond.instanceMethod yX7_kind ∈ UT ∧ Cond.selects (yX7_kind).cls yX7_kind yX7_kind ∈ UT := ⟨uw_3_156, uw_3_157⟩
theorem ck_X7_number : ckC yX7_number cX7_number 1 (some .int) 0 := ⟨⟨uw_1_2, uw_3_176⟩, by decide +kernel, by decide +kernel, by decide⟩
theorem uw_3_175 : (Jvm.Cond.selects "HideReader$Tape" ({ cls := "HideReader$Tape", name := "number", desc := "()I" } : Jvm.MethodName) ({ cls := "HideReader$Tape", name := "number", desc := "()I" } : Jvm.MethodName)) ∈ UT := ut_t (tm_3 (List.mem_of_getElem? (i := 175) rfl)) rfl
theorem iv_X7_number : Cond.instanceMethod yX7_number ∈ UT ∧ Cond.selects (yX7_number).cls yX7_number yX7_number ∈ UT := ⟨uw_3_174, uw_3_175⟩
theorem ck_X7_name : ckC yX7_name cX7_name 1 (some .long) 0 := ⟨⟨uw_1_2, uw_3_196⟩, by decide +kernel, by decide +kernel, by decide⟩
theorem uw_3_195 : (Jvm.Cond.selects "HideReader$Tape" ({ cls := "HideReader$Tape", name := "name", desc := "()J" } : Jvm.MethodName) ({ cls := "HideReader$Tape", name := "name", desc := "()J" } : Jvm.MethodName)) ∈ UT := ut_t (tm_3 (List.mem_of_getElem? (i := 195) rfl)) rfl
theorem iv_X7_name : Cond.instanceMethod yX7_name ∈ UT ∧ Cond.selects (yX7_name).cls yX7_name yX7_name ∈ UT := ⟨uw_3_194, uw_3_195⟩
theorem ck_X7_faultKind : ckC yX7_faultKind cX7_faultKind 1 (some .int) 0 := ⟨⟨uw_1_2, uw_4_19⟩, by decide +kernel, by decide +kernel, by decide⟩
theorem uw_4_18 : (Jvm.Cond.selects "HideReader$Tape" ({ cls := "HideReader$Tape", name := "faultKind", desc := "()I" } : Jvm.MethodName) ({ cls := "HideReader$Tape", name := "faultKind", desc := "()I" } : Jvm.MethodName)) ∈ UT := ut_t (tm_4 (List.mem_of_getElem? (i := 18) rfl)) rfl
theorem iv_X7_faultKind : Cond.instanceMethod yX7_faultKind ∈ UT ∧ Cond.selects (yX7_faultKind).cls yX7_faultKind yX7_faultKind ∈ UT := ⟨uw_4_17, uw_4_18⟩
theorem ck_X7_faultPlace : ckC yX7_faultPlace cX7_faultPlace 1 (some .int) 0 := ⟨⟨uw_1_2, uw_4_100⟩, by decide +kernel, by decide +kernel, by decide⟩
theorem uw_4_99 : (Jvm.Cond.selects "HideReader$Tape" ({ cls := "HideReader$Tape", name := "faultPlace", desc := "()I" } : Jvm.MethodName) ({ cls := "HideReader$Tape", name := "faultPlace", desc := "()I" } : Jvm.MethodName)) ∈ UT := ut_t (tm_4 (List.mem_of_getElem? (i := 99) rfl)) rfl
theorem iv_X7_faultPlace : Cond.instanceMethod yX7_faultPlace ∈ UT ∧ Cond.selects (yX7_faultPlace).cls yX7_faultPlace yX7_faultPlace ∈ UT := ⟨uw_4_98, uw_4_99⟩
theorem ck_X7_addNumber : ckC yX7_addNumber cX7_addNumber 3 none 1 := ⟨⟨uw_1_2, uw_3_37⟩, by decide +kernel, by decide +kernel, by decide⟩
theorem uw_3_36 : (Jvm.Cond.selects "HideReader$Tape" ({ cls := "HideReader$Tape", name := "addNumber", desc := "(I)V" } : Jvm.MethodName) ({ cls := "HideReader$Tape", name := "addNumber", desc := "(I)V" } : Jvm.MethodName)) ∈ UT := ut_t (tm_3 (List.mem_of_getElem? (i := 36) rfl)) rfl
theorem iv_X7_addNumber : Cond.instanceMethod yX7_addNumber ∈ UT ∧ Cond.selects (yX7_addNumber).cls yX7_addNumber yX7_addNumber ∈ UT := ⟨uw_3_35, uw_3_36⟩
theorem ck_X7_cutTo : ckC yX7_cutTo cX7_cutTo 2 none 1 := ⟨⟨uw_1_2, uw_3_45⟩, by decide +kernel, by decide +kernel, by decide⟩
theorem uw_3_44 : (Jvm.Cond.selects "HideReader$Tape" ({ cls := "HideReader$Tape", name := "cutTo", desc := "(I)V" } : Jvm.MethodName) ({ cls := "HideReader$Tape", name := "cutTo", desc := "(I)V" } : Jvm.MethodName)) ∈ UT := ut_t (tm_3 (List.mem_of_getElem? (i := 44) rfl)) rfl
theorem iv_X7_cutTo : Cond.instanceMethod yX7_cutTo ∈ UT ∧ Cond.selects (yX7_cutTo).cls yX7_cutTo yX7_cutTo ∈ UT := ⟨uw_3_43, uw_3_44⟩
theorem ck_X7_rewind : ckC yX7_rewind cX7_rewind 1 none 0 := ⟨⟨uw_1_2, uw_3_65⟩, by decide +kernel, by decide +kernel, by decide⟩
theorem uw_3_64 : (Jvm.Cond.selects "HideReader$Tape" ({ cls := "HideReader$Tape", name := "rewind", desc := "()V" } : Jvm.MethodName) ({ cls := "HideReader$Tape", name := "rewind", desc := "()V" } : Jvm.MethodName)) ∈ UT := ut_t (tm_3 (List.mem_of_getElem? (i := 64) rfl)) rfl
theorem iv_X7_rewind : Cond.instanceMethod yX7_rewind ∈ UT ∧ Cond.selects (yX7_rewind).cls yX7_rewind yX7_rewind ∈ UT := ⟨uw_3_63, uw_3_64⟩
theorem ck_X7_fail : ckC yX7_fail cX7_fail 2 none 1 := ⟨⟨uw_1_2, uw_3_83⟩, by decide +kernel, by decide +kernel, by decide⟩
theorem uw_3_82 : (Jvm.Cond.selects "HideReader$Tape" ({ cls := "HideReader$Tape", name := "fail", desc := "(I)V" } : Jvm.MethodName) ({ cls := "HideReader$Tape", name := "fail", desc := "(I)V" } : Jvm.MethodName)) ∈ UT := ut_t (tm_3 (List.mem_of_getElem? (i := 82) rfl)) rfl
theorem iv_X7_fail : Cond.instanceMethod yX7_fail ∈ UT ∧ Cond.selects (yX7_fail).cls yX7_fail yX7_fail ∈ UT := ⟨uw_3_81, uw_3_82⟩
theorem ck_X7_advance : ckC yX7_advance cX7_advance 2 none 0 := ⟨⟨uw_1_2, uw_3_69⟩, by decide +kernel, by decide +kernel, by decide⟩
theorem uw_3_68 : (Jvm.Cond.selects "HideReader$Tape" ({ cls := "HideReader$Tape", name := "advance", desc := "()V" } : Jvm.MethodName) ({ cls := "HideReader$Tape", name := "advance", desc := "()V" } : Jvm.MethodName)) ∈ UT := ut_t (tm_3 (List.mem_of_getElem? (i := 68) rfl)) rfl
theorem iv_X7_advance : Cond.instanceMethod yX7_advance ∈ UT ∧ Cond.selects (yX7_advance).cls yX7_advance yX7_advance ∈ UT := ⟨uw_3_67, uw_3_68⟩
theorem ck_X7_expect : ckC yX7_expect cX7_expect 2 none 1 := ⟨⟨uw_1_2, uw_3_204⟩, by decide +kernel, by decide +kernel, by decide⟩
theorem uw_3_203 : (Jvm.Cond.selects "HideReader$Tape" ({ cls := "HideReader$Tape", name := "expect", desc := "(I)V" } : Jvm.MethodName) ({ cls := "HideReader$Tape", name := "expect", desc := "(I)V" } : Jvm.MethodName)) ∈ UT := ut_t (tm_3 (List.mem_of_getElem? (i := 203) rfl)) rfl
theorem iv_X7_expect : Cond.instanceMethod yX7_expect ∈ UT ∧ Cond.selects (yX7_expect).cls yX7_expect yX7_expect ∈ UT := ⟨uw_3_202, uw_3_203⟩
theorem ck_X7_scanWord : ckC yX7_scanWord cX7_scanWord 4 none 1 := ⟨⟨uw_1_2, uw_3_79⟩, by decide +kernel, by decide +kernel, by decide⟩
theorem iv_X7_scanWord : Cond.instanceMethod yX7_scanWord ∈ UT ∧ Cond.selects (yX7_scanWord).cls yX7_scanWord yX7_scanWord ∈ UT := ⟨uw_3_78, ut_s (q := (yX7_scanWord, 10)) (List.mem_append_left _ (List.mem_of_getElem? (i := 0) rfl)) rfl⟩
theorem ck_X7_withLetter : ckC yX7_withLetter cX7_withLetter 3 (some .long) 2 := ⟨⟨uw_1_2, uw_1_88⟩, by decide +kernel, by decide +kernel, by decide⟩
theorem ck_X7_scanNumber : ckC yX7_scanNumber cX7_scanNumber 4 none 1 := ⟨⟨uw_1_2, uw_3_90⟩, by decide +kernel, by decide +kernel, by decide⟩
theorem iv_X7_scanNumber : Cond.instanceMethod yX7_scanNumber ∈ UT ∧ Cond.selects (yX7_scanNumber).cls yX7_scanNumber yX7_scanNumber ∈ UT := ⟨uw_3_89, ut_s (q := (yX7_scanNumber, 10)) (List.mem_append_left _ (List.mem_of_getElem? (i := 1) rfl)) rfl⟩
theorem ck_X7_scanSign : ckC yX7_scanSign cX7_scanSign 2 none 1 := ⟨⟨uw_1_2, uw_3_94⟩, by decide +kernel, by decide +kernel, by decide⟩
theorem iv_X7_scanSign : Cond.instanceMethod yX7_scanSign ∈ UT ∧ Cond.selects (yX7_scanSign).cls yX7_scanSign yX7_scanSign ∈ UT := ⟨uw_3_93, ut_s (q := (yX7_scanSign, 10)) (List.mem_append_left _ (List.mem_of_getElem? (i := 2) rfl)) rfl⟩
theorem ck_X7_isBlank : ckC yX7_isBlank cX7_isBlank 1 (some .boolean) 1 := ⟨⟨uw_1_2, uw_3_72⟩, by decide +kernel, by decide +kernel, by decide⟩
theorem ck_X7_isLetter : ckC yX7_isLetter cX7_isLetter 1 (some .boolean) 1 := ⟨⟨uw_1_2, uw_3_75⟩, by decide +kernel, by decide +kernel, by decide⟩
theorem ck_X7_isDigit : ckC yX7_isDigit cX7_isDigit 1 (some .boolean) 1 := ⟨⟨uw_1_2, uw_3_86⟩, by decide +kernel, by decide +kernel, by decide⟩
theorem ck_X8_init : ckC yX8_init cX8_init 3 none 2 := ⟨⟨uw_1_9, uw_2_14⟩, by decide +kernel, by decide +kernel, by decide⟩
theorem ii_X8_init : (yX8_init).name = "<init>" ∧ Cond.instanceMethod yX8_init ∈ UT := ⟨rfl, uw_2_13⟩
theorem ck_X8_readAll : ckC yX8_readAll cX8_readAll 2 (some .boolean) 0 := ⟨⟨uw_1_9, uw_3_53⟩, by decide +kernel, by decide +kernel, by decide⟩
theorem uw_3_52 : (Jvm.Cond.selects "HideReader$TextReader" ({ cls := "HideReader$TextReader", name := "readAll", desc := "()Z" } : Jvm.MethodName) ({ cls := "HideReader$TextReader", name := "readAll", desc := "()Z" } : Jvm.MethodName)) ∈ UT := ut_t (tm_3 (List.mem_of_getElem? (i := 52) rfl)) rfl
theorem iv_X8_readAll : Cond.instanceMethod yX8_readAll ∈ UT ∧ Cond.selects (yX8_readAll).cls yX8_readAll yX8_readAll ∈ UT := ⟨uw_3_51, uw_3_52⟩
theorem ck_X8_startOnce : ckC yX8_startOnce cX8_startOnce 2 none 0 := ⟨⟨uw_1_9, uw_3_166⟩, by decide +kernel, by decide +kernel, by decide⟩
theorem iv_X8_startOnce : Cond.instanceMethod yX8_startOnce ∈ UT ∧ Cond.selects (yX8_startOnce).cls yX8_startOnce yX8_startOnce ∈ UT := ⟨uw_3_165, ut_s (q := (yX8_startOnce, 2)) (List.mem_append_left _ (List.mem_of_getElem? (i := 4) rfl)) rfl⟩
theorem ck_X8_start : ckC yX8_start cX8_start 2 none 1 := ⟨⟨uw_1_9, uw_3_170⟩, by decide +kernel, by decide +kernel, by decide⟩
theorem iv_X8_start : Cond.instanceMethod yX8_start ∈ UT ∧ Cond.selects (yX8_start).cls yX8_start yX8_start ∈ UT := ⟨uw_3_169, ut_s (q := (yX8_start, 2)) (List.mem_append_left _ (List.mem_of_getElem? (i := 5) rfl)) rfl⟩
theorem ck_X8_readTurns : ckC yX8_readTurns cX8_readTurns 3 none 0 := ⟨⟨uw_1_9, uw_3_162⟩, by decide +kernel, by decide +kernel, by decide⟩
theorem iv_X8_readTurns : Cond.instanceMethod yX8_readTurns ∈ UT ∧ Cond.selects (yX8_readTurns).cls yX8_readTurns yX8_readTurns ∈ UT := ⟨uw_3_161, ut_s (q := (yX8_readTurns, 2)) (List.mem_append_left _ (List.mem_of_getElem? (i := 3) rfl)) rfl⟩
theorem ck_X8_readHerd : ckC yX8_readHerd cX8_readHerd 2 none 0 := ⟨⟨uw_1_9, uw_3_184⟩, by decide +kernel, by decide +kernel, by decide⟩
theorem iv_X8_readHerd : Cond.instanceMethod yX8_readHerd ∈ UT ∧ Cond.selects (yX8_readHerd).cls yX8_readHerd yX8_readHerd ∈ UT := ⟨uw_3_183, ut_s (q := (yX8_readHerd, 2)) (List.mem_append_left _ (List.mem_of_getElem? (i := 7) rfl)) rfl⟩
theorem ck_X8_readIron : ckC yX8_readIron cX8_readIron 2 none 0 := ⟨⟨uw_1_9, uw_3_208⟩, by decide +kernel, by decide +kernel, by decide⟩
theorem iv_X8_readIron : Cond.instanceMethod yX8_readIron ∈ UT ∧ Cond.selects (yX8_readIron).cls yX8_readIron yX8_readIron ∈ UT := ⟨uw_3_207, ut_s (q := (yX8_readIron, 2)) (List.mem_append_left _ (List.mem_of_getElem? (i := 11) rfl)) rfl⟩
theorem ck_X8_readBeast : ckC yX8_readBeast cX8_readBeast 3 none 0 := ⟨⟨uw_1_9, uw_3_212⟩, by decide +kernel, by decide +kernel, by decide⟩
theorem iv_X8_readBeast : Cond.instanceMethod yX8_readBeast ∈ UT ∧ Cond.selects (yX8_readBeast).cls yX8_readBeast yX8_readBeast ∈ UT := ⟨uw_3_211, ut_s (q := (yX8_readBeast, 2)) (List.mem_append_left _ (List.mem_of_getElem? (i := 12) rfl)) rfl⟩
theorem ck_X8_takeNewName : ckC yX8_takeNewName cX8_takeNewName 3 none 2 := ⟨⟨uw_1_9, uw_3_188⟩, by decide +kernel, by decide +kernel, by decide⟩
theorem iv_X8_takeNewName : Cond.instanceMethod yX8_takeNewName ∈ UT ∧ Cond.selects (yX8_takeNewName).cls yX8_takeNewName yX8_takeNewName ∈ UT := ⟨uw_3_187, ut_s (q := (yX8_takeNewName, 2)) (List.mem_append_left _ (List.mem_of_getElem? (i := 8) rfl)) rfl⟩
theorem ck_X8_takeHerd : ckC yX8_takeHerd cX8_takeHerd 2 (some .int) 0 := ⟨⟨uw_1_9, uw_3_216⟩, by decide +kernel, by decide +kernel, by decide⟩
theorem iv_X8_takeHerd : Cond.instanceMethod yX8_takeHerd ∈ UT ∧ Cond.selects (yX8_takeHerd).cls yX8_takeHerd yX8_takeHerd ∈ UT := ⟨uw_3_215, ut_s (q := (yX8_takeHerd, 2)) (List.mem_append_left _ (List.mem_of_getElem? (i := 13) rfl)) rfl⟩
theorem ck_X8_indexOfName : ckC yX8_indexOfName cX8_indexOfName 4 (some .int) 2 := ⟨⟨uw_1_9, uw_3_192⟩, by decide +kernel, by decide +kernel, by decide⟩
theorem iv_X8_indexOfName : Cond.instanceMethod yX8_indexOfName ∈ UT ∧ Cond.selects (yX8_indexOfName).cls yX8_indexOfName yX8_indexOfName ∈ UT := ⟨uw_3_191, ut_s (q := (yX8_indexOfName, 2)) (List.mem_append_left _ (List.mem_of_getElem? (i := 9) rfl)) rfl⟩
theorem ck_X8_takeNumber : ckC yX8_takeNumber cX8_takeNumber 3 (some .int) 1 := ⟨⟨uw_1_9, uw_3_180⟩, by decide +kernel, by decide +kernel, by decide⟩
theorem iv_X8_takeNumber : Cond.instanceMethod yX8_takeNumber ∈ UT ∧ Cond.selects (yX8_takeNumber).cls yX8_takeNumber yX8_takeNumber ∈ UT := ⟨uw_3_179, ut_s (q := (yX8_takeNumber, 2)) (List.mem_append_left _ (List.mem_of_getElem? (i := 6) rfl)) rfl⟩
theorem ck_X8_takeStrokes : ckC yX8_takeStrokes cX8_takeStrokes 4 (some .int) 0 := ⟨⟨uw_1_9, uw_3_200⟩, by decide +kernel, by decide +kernel, by decide⟩
theorem iv_X8_takeStrokes : Cond.instanceMethod yX8_takeStrokes ∈ UT ∧ Cond.selects (yX8_takeStrokes).cls yX8_takeStrokes yX8_takeStrokes ∈ UT := ⟨uw_3_199, ut_s (q := (yX8_takeStrokes, 2)) (List.mem_append_left _ (List.mem_of_getElem? (i := 10) rfl)) rfl⟩
theorem ck_X8_readEither : ckC yX8_readEither cX8_readEither 3 none 1 := ⟨⟨uw_1_9, uw_3_220⟩, by decide +kernel, by decide +kernel, by decide⟩
theorem iv_X8_readEither : Cond.instanceMethod yX8_readEither ∈ UT ∧ Cond.selects (yX8_readEither).cls yX8_readEither yX8_readEither ∈ UT := ⟨uw_3_219, ut_s (q := (yX8_readEither, 2)) (List.mem_append_left _ (List.mem_of_getElem? (i := 14) rfl)) rfl⟩
theorem ck_X8_readBoth : ckC yX8_readBoth cX8_readBoth 3 none 1 := ⟨⟨uw_1_9, uw_3_224⟩, by decide +kernel, by decide +kernel, by decide⟩
theorem iv_X8_readBoth : Cond.instanceMethod yX8_readBoth ∈ UT ∧ Cond.selects (yX8_readBoth).cls yX8_readBoth yX8_readBoth ∈ UT := ⟨uw_3_223, ut_s (q := (yX8_readBoth, 2)) (List.mem_append_left _ (List.mem_of_getElem? (i := 15) rfl)) rfl⟩
theorem ck_X8_readOne : ckC yX8_readOne cX8_readOne 3 none 1 := ⟨⟨uw_1_9, uw_3_228⟩, by decide +kernel, by decide +kernel, by decide⟩
theorem iv_X8_readOne : Cond.instanceMethod yX8_readOne ∈ UT ∧ Cond.selects (yX8_readOne).cls yX8_readOne yX8_readOne ∈ UT := ⟨uw_3_227, ut_s (q := (yX8_readOne, 2)) (List.mem_append_right _ (List.mem_append_left _ (List.mem_of_getElem? (i := 0) rfl))) rfl⟩
theorem ck_X8_readSum : ckC yX8_readSum cX8_readSum 4 none 1 := ⟨⟨uw_1_9, uw_4_0⟩, by decide +kernel, by decide +kernel, by decide⟩
theorem iv_X8_readSum : Cond.instanceMethod yX8_readSum ∈ UT ∧ Cond.selects (yX8_readSum).cls yX8_readSum yX8_readSum ∈ UT := ⟨uw_3_239, ut_s (q := (yX8_readSum, 2)) (List.mem_append_right _ (List.mem_append_left _ (List.mem_of_getElem? (i := 2) rfl))) rfl⟩
theorem ck_X8_readTerm : ckC yX8_readTerm cX8_readTerm 4 none 1 := ⟨⟨uw_1_9, uw_4_4⟩, by decide +kernel, by decide +kernel, by decide⟩
theorem iv_X8_readTerm : Cond.instanceMethod yX8_readTerm ∈ UT ∧ Cond.selects (yX8_readTerm).cls yX8_readTerm yX8_readTerm ∈ UT := ⟨uw_4_3, ut_s (q := (yX8_readTerm, 2)) (List.mem_append_right _ (List.mem_append_left _ (List.mem_of_getElem? (i := 3) rfl))) rfl⟩
theorem ck_X8_isTermSign : ckC yX8_isTermSign cX8_isTermSign 1 (some .boolean) 1 := ⟨⟨uw_1_9, uw_4_15⟩, by decide +kernel, by decide +kernel, by decide⟩
theorem ck_X8_readUnit : ckC yX8_readUnit cX8_readUnit 3 none 1 := ⟨⟨uw_1_9, uw_4_8⟩, by decide +kernel, by decide +kernel, by decide⟩
theorem iv_X8_readUnit : Cond.instanceMethod yX8_readUnit ∈ UT ∧ Cond.selects (yX8_readUnit).cls yX8_readUnit yX8_readUnit ∈ UT := ⟨uw_4_7, ut_s (q := (yX8_readUnit, 2)) (List.mem_append_right _ (List.mem_append_left _ (List.mem_of_getElem? (i := 4) rfl))) rfl⟩
theorem ck_X8_goesDeeper : ckC yX8_goesDeeper cX8_goesDeeper 2 (some .boolean) 1 := ⟨⟨uw_1_9, uw_3_232⟩, by decide +kernel, by decide +kernel, by decide⟩
theorem iv_X8_goesDeeper : Cond.instanceMethod yX8_goesDeeper ∈ UT ∧ Cond.selects (yX8_goesDeeper).cls yX8_goesDeeper yX8_goesDeeper ∈ UT := ⟨uw_3_231, ut_s (q := (yX8_goesDeeper, 2)) (List.mem_append_right _ (List.mem_append_left _ (List.mem_of_getElem? (i := 1) rfl))) rfl⟩
theorem ck_X9_init : ckC yX9_init cX9_init 1 none 0 := ⟨⟨uw_1_7, uw_1_128⟩, by decide +kernel, by decide +kernel, by decide⟩
theorem ii_X9_init : (yX9_init).name = "<init>" ∧ Cond.instanceMethod yX9_init ∈ UT := ⟨rfl, uw_1_127⟩
theorem ck_X9_empty : ckC yX9_empty cX9_empty 1 none 0 := ⟨⟨uw_1_7, uw_3_57⟩, by decide +kernel, by decide +kernel, by decide⟩
theorem uw_3_56 : (Jvm.Cond.selects "HideReader$Valley" ({ cls := "HideReader$Valley", name := "empty", desc := "()V" } : Jvm.MethodName) ({ cls := "HideReader$Valley", name := "empty", desc := "()V" } : Jvm.MethodName)) ∈ UT := ut_t (tm_3 (List.mem_of_getElem? (i := 56) rfl)) rfl
theorem iv_X9_empty : Cond.instanceMethod yX9_empty ∈ UT ∧ Cond.selects (yX9_empty).cls yX9_empty yX9_empty ∈ UT := ⟨uw_3_55, uw_3_56⟩
theorem ck_X9_copyFrom : ckC yX9_copyFrom cX9_copyFrom 2 none 1 := ⟨⟨uw_1_7, uw_4_23⟩, by decide +kernel, by decide +kernel, by decide⟩
theorem uw_4_22 : (Jvm.Cond.selects "HideReader$Valley" ({ cls := "HideReader$Valley", name := "copyFrom", desc := "(LHideReader$Valley;)V" } : Jvm.MethodName) ({ cls := "HideReader$Valley", name := "copyFrom", desc := "(LHideReader$Valley;)V" } : Jvm.MethodName)) ∈ UT := ut_t (tm_4 (List.mem_of_getElem? (i := 22) rfl)) rfl
theorem iv_X9_copyFrom : Cond.instanceMethod yX9_copyFrom ∈ UT ∧ Cond.selects (yX9_copyFrom).cls yX9_copyFrom yX9_copyFrom ∈ UT := ⟨uw_4_21, uw_4_22⟩
theorem ck_X10_init : ckC yX10_init cX10_init 3 none 2 := ⟨⟨uw_1_16, uw_2_187⟩, by decide +kernel, by decide +kernel, by decide⟩
theorem ii_X10_init : (yX10_init).name = "<init>" ∧ Cond.instanceMethod yX10_init ∈ UT := ⟨rfl, uw_2_186⟩
theorem ck_X10_count : ckC yX10_count cX10_count 1 (some .int) 0 := ⟨⟨uw_1_16, uw_6_189⟩, by decide +kernel, by decide +kernel, by decide⟩
theorem uw_6_188 : (Jvm.Cond.selects "HideReader$Witness" ({ cls := "HideReader$Witness", name := "count", desc := "()I" } : Jvm.MethodName) ({ cls := "HideReader$Witness", name := "count", desc := "()I" } : Jvm.MethodName)) ∈ UT := ut_t (tm_6 (List.mem_of_getElem? (i := 188) rfl)) rfl
theorem iv_X10_count : Cond.instanceMethod yX10_count ∈ UT ∧ Cond.selects (yX10_count).cls yX10_count yX10_count ∈ UT := ⟨uw_6_187, uw_6_188⟩
theorem ck_X10_time : ckC yX10_time cX10_time 1 (some .int) 0 := ⟨⟨uw_1_16, uw_6_193⟩, by decide +kernel, by decide +kernel, by decide⟩
theorem uw_6_192 : (Jvm.Cond.selects "HideReader$Witness" ({ cls := "HideReader$Witness", name := "time", desc := "()I" } : Jvm.MethodName) ({ cls := "HideReader$Witness", name := "time", desc := "()I" } : Jvm.MethodName)) ∈ UT := ut_t (tm_6 (List.mem_of_getElem? (i := 192) rfl)) rfl
theorem iv_X10_time : Cond.instanceMethod yX10_time ∈ UT ∧ Cond.selects (yX10_time).cls yX10_time yX10_time ∈ UT := ⟨uw_6_191, uw_6_192⟩
theorem ck_X10_forget : ckC yX10_forget cX10_forget 1 none 0 := ⟨⟨uw_1_16, uw_4_91⟩, by decide +kernel, by decide +kernel, by decide⟩
theorem uw_4_90 : (Jvm.Cond.selects "HideReader$Witness" ({ cls := "HideReader$Witness", name := "forget", desc := "()V" } : Jvm.MethodName) ({ cls := "HideReader$Witness", name := "forget", desc := "()V" } : Jvm.MethodName)) ∈ UT := ut_t (tm_4 (List.mem_of_getElem? (i := 90) rfl)) rfl
theorem iv_X10_forget : Cond.instanceMethod yX10_forget ∈ UT ∧ Cond.selects (yX10_forget).cls yX10_forget yX10_forget ∈ UT := ⟨uw_4_89, uw_4_90⟩
theorem ck_X10_tell : ckC yX10_tell cX10_tell 4 (some .int) 3 := ⟨⟨uw_1_16, uw_6_88⟩, by decide +kernel, by decide +kernel, by decide⟩
theorem uw_6_87 : (Jvm.Cond.selects "HideReader$Witness" ({ cls := "HideReader$Witness", name := "tell", desc := "(IIZ)I" } : Jvm.MethodName) ({ cls := "HideReader$Witness", name := "tell", desc := "(IIZ)I" } : Jvm.MethodName)) ∈ UT := ut_t (tm_6 (List.mem_of_getElem? (i := 87) rfl)) rfl
theorem iv_X10_tell : Cond.instanceMethod yX10_tell ∈ UT ∧ Cond.selects (yX10_tell).cls yX10_tell yX10_tell ∈ UT := ⟨uw_6_86, uw_6_87⟩
theorem ck_X10_takeBack : ckC yX10_takeBack cX10_takeBack 2 (some .boolean) 1 := ⟨⟨uw_1_16, uw_6_96⟩, by decide +kernel, by decide +kernel, by decide⟩
theorem uw_6_95 : (Jvm.Cond.selects "HideReader$Witness" ({ cls := "HideReader$Witness", name := "takeBack", desc := "(I)Z" } : Jvm.MethodName) ({ cls := "HideReader$Witness", name := "takeBack", desc := "(I)Z" } : Jvm.MethodName)) ∈ UT := ut_t (tm_6 (List.mem_of_getElem? (i := 95) rfl)) rfl
theorem iv_X10_takeBack : Cond.instanceMethod yX10_takeBack ∈ UT ∧ Cond.selects (yX10_takeBack).cls yX10_takeBack yX10_takeBack ∈ UT := ⟨uw_6_94, uw_6_95⟩
theorem ck_X10_goOn : ckC yX10_goOn cX10_goOn 2 (some .int) 1 := ⟨⟨uw_1_16, uw_6_104⟩, by decide +kernel, by decide +kernel, by decide⟩
theorem uw_6_103 : (Jvm.Cond.selects "HideReader$Witness" ({ cls := "HideReader$Witness", name := "goOn", desc := "(I)I" } : Jvm.MethodName) ({ cls := "HideReader$Witness", name := "goOn", desc := "(I)I" } : Jvm.MethodName)) ∈ UT := ut_t (tm_6 (List.mem_of_getElem? (i := 103) rfl)) rfl
theorem iv_X10_goOn : Cond.instanceMethod yX10_goOn ∈ UT ∧ Cond.selects (yX10_goOn).cls yX10_goOn yX10_goOn ∈ UT := ⟨uw_6_102, uw_6_103⟩
theorem ck_X10_countRows : ckC yX10_countRows cX10_countRows 8 (some .int) 1 := ⟨⟨uw_1_16, uw_6_113⟩, by decide +kernel, by decide +kernel, by decide⟩
theorem uw_6_112 : (Jvm.Cond.selects "HideReader$Witness" ({ cls := "HideReader$Witness", name := "countRows", desc := "(I)I" } : Jvm.MethodName) ({ cls := "HideReader$Witness", name := "countRows", desc := "(I)I" } : Jvm.MethodName)) ∈ UT := ut_t (tm_6 (List.mem_of_getElem? (i := 112) rfl)) rfl
theorem iv_X10_countRows : Cond.instanceMethod yX10_countRows ∈ UT ∧ Cond.selects (yX10_countRows).cls yX10_countRows yX10_countRows ∈ UT := ⟨uw_6_111, uw_6_112⟩
theorem ck_X10_countSecond : ckC yX10_countSecond cX10_countSecond 5 (some .int) 1 := ⟨⟨uw_1_16, uw_6_135⟩, by decide +kernel, by decide +kernel, by decide⟩
theorem iv_X10_countSecond : Cond.instanceMethod yX10_countSecond ∈ UT ∧ Cond.selects (yX10_countSecond).cls yX10_countSecond yX10_countSecond ∈ UT := ⟨uw_6_134, ut_s (q := (yX10_countSecond, 13)) (List.mem_append_right _ (List.mem_append_right _ (List.mem_append_left _ (List.mem_of_getElem? (i := 11) rfl)))) rfl⟩
theorem ck_X10_agrees : ckC yX10_agrees cX10_agrees 3 (some .boolean) 2 := ⟨⟨uw_1_16, uw_6_131⟩, by decide +kernel, by decide +kernel, by decide⟩
theorem iv_X10_agrees : Cond.instanceMethod yX10_agrees ∈ UT ∧ Cond.selects (yX10_agrees).cls yX10_agrees yX10_agrees ∈ UT := ⟨uw_6_130, ut_s (q := (yX10_agrees, 13)) (List.mem_append_right _ (List.mem_append_right _ (List.mem_append_left _ (List.mem_of_getElem? (i := 10) rfl)))) rfl⟩
theorem ck_X10_gather : ckC yX10_gather cX10_gather 5 none 1 := ⟨⟨uw_1_16, uw_6_117⟩, by decide +kernel, by decide +kernel, by decide⟩
theorem iv_X10_gather : Cond.instanceMethod yX10_gather ∈ UT ∧ Cond.selects (yX10_gather).cls yX10_gather yX10_gather ∈ UT := ⟨uw_6_116, ut_s (q := (yX10_gather, 13)) (List.mem_append_right _ (List.mem_append_right _ (List.mem_append_left _ (List.mem_of_getElem? (i := 9) rfl)))) rfl⟩
theorem ck_X10_sureIron : ckC yX10_sureIron cX10_sureIron 6 (some .int) 2 := ⟨⟨uw_1_16, uw_6_143⟩, by decide +kernel, by decide +kernel, by decide⟩
theorem uw_6_142 : (Jvm.Cond.selects "HideReader$Witness" ({ cls := "HideReader$Witness", name := "sureIron", desc := "(II)I" } : Jvm.MethodName) ({ cls := "HideReader$Witness", name := "sureIron", desc := "(II)I" } : Jvm.MethodName)) ∈ UT := ut_t (tm_6 (List.mem_of_getElem? (i := 142) rfl)) rfl
theorem iv_X10_sureIron : Cond.instanceMethod yX10_sureIron ∈ UT ∧ Cond.selects (yX10_sureIron).cls yX10_sureIron yX10_sureIron ∈ UT := ⟨uw_6_141, uw_6_142⟩
theorem ck_X10_mostLeft : ckC yX10_mostLeft cX10_mostLeft 5 (some .int) 1 := ⟨⟨uw_1_16, uw_6_152⟩, by decide +kernel, by decide +kernel, by decide⟩
theorem uw_6_151 : (Jvm.Cond.selects "HideReader$Witness" ({ cls := "HideReader$Witness", name := "mostLeft", desc := "(I)I" } : Jvm.MethodName) ({ cls := "HideReader$Witness", name := "mostLeft", desc := "(I)I" } : Jvm.MethodName)) ∈ UT := ut_t (tm_6 (List.mem_of_getElem? (i := 151) rfl)) rfl
theorem iv_X10_mostLeft : Cond.instanceMethod yX10_mostLeft ∈ UT ∧ Cond.selects (yX10_mostLeft).cls yX10_mostLeft yX10_mostLeft ∈ UT := ⟨uw_6_150, uw_6_151⟩
theorem ck_X11_init : ckC yX11_init cX11_init 1 none 0 := ⟨⟨uw_1_1, uw_1_27⟩, by decide +kernel, by decide +kernel, by decide⟩
theorem ii_X11_init : (yX11_init).name = "<init>" ∧ Cond.instanceMethod yX11_init ∈ UT := ⟨rfl, uw_1_26⟩
theorem ck_X11_feed : ckC yX11_feed cX11_feed 6 (some .int) 5 := ⟨⟨uw_1_1, uw_3_29⟩, by decide +kernel, by decide +kernel, by decide⟩
theorem uw_3_28 : (Jvm.Cond.selects "HideReader" ({ cls := "HideReader", name := "feed", desc := "(IIIII)I" } : Jvm.MethodName) ({ cls := "HideReader", name := "feed", desc := "(IIIII)I" } : Jvm.MethodName)) ∈ UT := ut_t (tm_3 (List.mem_of_getElem? (i := 28) rfl)) rfl
theorem iv_X11_feed : Cond.instanceMethod yX11_feed ∈ UT ∧ Cond.selects (yX11_feed).cls yX11_feed yX11_feed ∈ UT := ⟨uw_3_27, uw_3_28⟩
theorem ck_X11_end : ckC yX11_end cX11_end 2 (some .int) 1 := ⟨⟨uw_1_1, uw_3_41⟩, by decide +kernel, by decide +kernel, by decide⟩
theorem uw_3_40 : (Jvm.Cond.selects "HideReader" ({ cls := "HideReader", name := "end", desc := "(I)I" } : Jvm.MethodName) ({ cls := "HideReader", name := "end", desc := "(I)I" } : Jvm.MethodName)) ∈ UT := ut_t (tm_3 (List.mem_of_getElem? (i := 40) rfl)) rfl
theorem iv_X11_end : Cond.instanceMethod yX11_end ∈ UT ∧ Cond.selects (yX11_end).cls yX11_end yX11_end ∈ UT := ⟨uw_3_39, uw_3_40⟩
theorem ck_X11_valley : ckC yX11_valley cX11_valley 1 (some .int) 0 := ⟨⟨uw_1_1, uw_3_49⟩, by decide +kernel, by decide +kernel, by decide⟩
theorem uw_3_48 : (Jvm.Cond.selects "HideReader" ({ cls := "HideReader", name := "valley", desc := "()I" } : Jvm.MethodName) ({ cls := "HideReader", name := "valley", desc := "()I" } : Jvm.MethodName)) ∈ UT := ut_t (tm_3 (List.mem_of_getElem? (i := 48) rfl)) rfl
theorem iv_X11_valley : Cond.instanceMethod yX11_valley ∈ UT ∧ Cond.selects (yX11_valley).cls yX11_valley yX11_valley ∈ UT := ⟨uw_3_47, uw_3_48⟩
theorem ck_X11_fault : ckC yX11_fault cX11_fault 2 (some .int) 1 := ⟨⟨uw_1_1, uw_4_95⟩, by decide +kernel, by decide +kernel, by decide⟩
theorem uw_4_94 : (Jvm.Cond.selects "HideReader" ({ cls := "HideReader", name := "fault", desc := "(I)I" } : Jvm.MethodName) ({ cls := "HideReader", name := "fault", desc := "(I)I" } : Jvm.MethodName)) ∈ UT := ut_t (tm_4 (List.mem_of_getElem? (i := 94) rfl)) rfl
theorem iv_X11_fault : Cond.instanceMethod yX11_fault ∈ UT ∧ Cond.selects (yX11_fault).cls yX11_fault yX11_fault ∈ UT := ⟨uw_4_93, uw_4_94⟩
theorem ck_X11_brand : ckC yX11_brand cX11_brand 2 (some .int) 1 := ⟨⟨uw_1_1, uw_4_104⟩, by decide +kernel, by decide +kernel, by decide⟩
theorem uw_4_103 : (Jvm.Cond.selects "HideReader" ({ cls := "HideReader", name := "brand", desc := "(I)I" } : Jvm.MethodName) ({ cls := "HideReader", name := "brand", desc := "(I)I" } : Jvm.MethodName)) ∈ UT := ut_t (tm_4 (List.mem_of_getElem? (i := 103) rfl)) rfl
theorem iv_X11_brand : Cond.instanceMethod yX11_brand ∈ UT ∧ Cond.selects (yX11_brand).cls yX11_brand yX11_brand ∈ UT := ⟨uw_4_102, uw_4_103⟩
theorem ck_X11_iron : ckC yX11_iron cX11_iron 2 (some .int) 1 := ⟨⟨uw_1_1, uw_4_112⟩, by decide +kernel, by decide +kernel, by decide⟩
theorem uw_4_111 : (Jvm.Cond.selects "HideReader" ({ cls := "HideReader", name := "iron", desc := "(I)I" } : Jvm.MethodName) ({ cls := "HideReader", name := "iron", desc := "(I)I" } : Jvm.MethodName)) ∈ UT := ut_t (tm_4 (List.mem_of_getElem? (i := 111) rfl)) rfl
theorem iv_X11_iron : Cond.instanceMethod yX11_iron ∈ UT ∧ Cond.selects (yX11_iron).cls yX11_iron yX11_iron ∈ UT := ⟨uw_4_110, uw_4_111⟩
theorem ck_X11_beast : ckC yX11_beast cX11_beast 4 (some .int) 2 := ⟨⟨uw_1_1, uw_4_120⟩, by decide +kernel, by decide +kernel, by decide⟩
theorem uw_4_119 : (Jvm.Cond.selects "HideReader" ({ cls := "HideReader", name := "beast", desc := "(II)I" } : Jvm.MethodName) ({ cls := "HideReader", name := "beast", desc := "(II)I" } : Jvm.MethodName)) ∈ UT := ut_t (tm_4 (List.mem_of_getElem? (i := 119) rfl)) rfl
theorem iv_X11_beast : Cond.instanceMethod yX11_beast ∈ UT ∧ Cond.selects (yX11_beast).cls yX11_beast yX11_beast ∈ UT := ⟨uw_4_118, uw_4_119⟩
theorem ck_X11_age : ckC yX11_age cX11_age 3 (some .int) 2 := ⟨⟨uw_1_1, uw_4_161⟩, by decide +kernel, by decide +kernel, by decide⟩
theorem uw_4_160 : (Jvm.Cond.selects "HideReader" ({ cls := "HideReader", name := "age", desc := "(II)I" } : Jvm.MethodName) ({ cls := "HideReader", name := "age", desc := "(II)I" } : Jvm.MethodName)) ∈ UT := ut_t (tm_4 (List.mem_of_getElem? (i := 160) rfl)) rfl
theorem iv_X11_age : Cond.instanceMethod yX11_age ∈ UT ∧ Cond.selects (yX11_age).cls yX11_age yX11_age ∈ UT := ⟨uw_4_159, uw_4_160⟩
theorem ck_X11_placed : ckC yX11_placed cX11_placed 3 (some .int) 2 := ⟨⟨uw_1_1, uw_4_169⟩, by decide +kernel, by decide +kernel, by decide⟩
theorem uw_4_168 : (Jvm.Cond.selects "HideReader" ({ cls := "HideReader", name := "placed", desc := "(II)I" } : Jvm.MethodName) ({ cls := "HideReader", name := "placed", desc := "(II)I" } : Jvm.MethodName)) ∈ UT := ut_t (tm_4 (List.mem_of_getElem? (i := 168) rfl)) rfl
theorem iv_X11_placed : Cond.instanceMethod yX11_placed ∈ UT ∧ Cond.selects (yX11_placed).cls yX11_placed yX11_placed ∈ UT := ⟨uw_4_167, uw_4_168⟩
theorem ck_X11_under : ckC yX11_under cX11_under 3 (some .int) 2 := ⟨⟨uw_1_1, uw_4_182⟩, by decide +kernel, by decide +kernel, by decide⟩
theorem uw_4_181 : (Jvm.Cond.selects "HideReader" ({ cls := "HideReader", name := "under", desc := "(II)I" } : Jvm.MethodName) ({ cls := "HideReader", name := "under", desc := "(II)I" } : Jvm.MethodName)) ∈ UT := ut_t (tm_4 (List.mem_of_getElem? (i := 181) rfl)) rfl
theorem iv_X11_under : Cond.instanceMethod yX11_under ∈ UT ∧ Cond.selects (yX11_under).cls yX11_under yX11_under ∈ UT := ⟨uw_4_180, uw_4_181⟩
theorem ck_X11_season : ckC yX11_season cX11_season 2 (some .int) 0 := ⟨⟨uw_1_1, uw_4_187⟩, by decide +kernel, by decide +kernel, by decide⟩
theorem uw_4_186 : (Jvm.Cond.selects "HideReader" ({ cls := "HideReader", name := "season", desc := "()I" } : Jvm.MethodName) ({ cls := "HideReader", name := "season", desc := "()I" } : Jvm.MethodName)) ∈ UT := ut_t (tm_4 (List.mem_of_getElem? (i := 186) rfl)) rfl
theorem iv_X11_season : Cond.instanceMethod yX11_season ∈ UT ∧ Cond.selects (yX11_season).cls yX11_season yX11_season ∈ UT := ⟨uw_4_185, uw_4_186⟩
theorem ck_X11_burn : ckC yX11_burn cX11_burn 4 (some .int) 3 := ⟨⟨uw_1_1, uw_4_215⟩, by decide +kernel, by decide +kernel, by decide⟩
theorem uw_4_214 : (Jvm.Cond.selects "HideReader" ({ cls := "HideReader", name := "burn", desc := "(III)I" } : Jvm.MethodName) ({ cls := "HideReader", name := "burn", desc := "(III)I" } : Jvm.MethodName)) ∈ UT := ut_t (tm_4 (List.mem_of_getElem? (i := 214) rfl)) rfl
theorem iv_X11_burn : Cond.instanceMethod yX11_burn ∈ UT ∧ Cond.selects (yX11_burn).cls yX11_burn yX11_burn ∈ UT := ⟨uw_4_213, uw_4_214⟩
theorem ck_X11_sell : ckC yX11_sell cX11_sell 5 (some .int) 2 := ⟨⟨uw_1_1, uw_4_224⟩, by decide +kernel, by decide +kernel, by decide⟩
theorem uw_4_223 : (Jvm.Cond.selects "HideReader" ({ cls := "HideReader", name := "sell", desc := "(II)I" } : Jvm.MethodName) ({ cls := "HideReader", name := "sell", desc := "(II)I" } : Jvm.MethodName)) ∈ UT := ut_t (tm_4 (List.mem_of_getElem? (i := 223) rfl)) rfl
theorem iv_X11_sell : Cond.instanceMethod yX11_sell ∈ UT ∧ Cond.selects (yX11_sell).cls yX11_sell yX11_sell ∈ UT := ⟨uw_4_222, uw_4_223⟩
theorem ck_X11_clean : ckC yX11_clean cX11_clean 5 (some .int) 1 := ⟨⟨uw_1_1, uw_4_228⟩, by decide +kernel, by decide +kernel, by decide⟩
theorem uw_4_227 : (Jvm.Cond.selects "HideReader" ({ cls := "HideReader", name := "clean", desc := "(I)I" } : Jvm.MethodName) ({ cls := "HideReader", name := "clean", desc := "(I)I" } : Jvm.MethodName)) ∈ UT := ut_t (tm_4 (List.mem_of_getElem? (i := 227) rfl)) rfl
theorem iv_X11_clean : Cond.instanceMethod yX11_clean ∈ UT ∧ Cond.selects (yX11_clean).cls yX11_clean yX11_clean ∈ UT := ⟨uw_4_226, uw_4_227⟩
theorem ck_X11_undo : ckC yX11_undo cX11_undo 1 (some .boolean) 0 := ⟨⟨uw_1_1, uw_4_234⟩, by decide +kernel, by decide +kernel, by decide⟩
theorem uw_4_233 : (Jvm.Cond.selects "HideReader" ({ cls := "HideReader", name := "undo", desc := "()Z" } : Jvm.MethodName) ({ cls := "HideReader", name := "undo", desc := "()Z" } : Jvm.MethodName)) ∈ UT := ut_t (tm_4 (List.mem_of_getElem? (i := 233) rfl)) rfl
theorem iv_X11_undo : Cond.instanceMethod yX11_undo ∈ UT ∧ Cond.selects (yX11_undo).cls yX11_undo yX11_undo ∈ UT := ⟨uw_4_232, uw_4_233⟩
theorem ck_X11_redo : ckC yX11_redo cX11_redo 1 (some .boolean) 0 := ⟨⟨uw_1_1, uw_5_2⟩, by decide +kernel, by decide +kernel, by decide⟩
theorem uw_5_1 : (Jvm.Cond.selects "HideReader" ({ cls := "HideReader", name := "redo", desc := "()Z" } : Jvm.MethodName) ({ cls := "HideReader", name := "redo", desc := "()Z" } : Jvm.MethodName)) ∈ UT := ut_t (tm_5 (List.mem_of_getElem? (i := 1) rfl)) rfl
theorem iv_X11_redo : Cond.instanceMethod yX11_redo ∈ UT ∧ Cond.selects (yX11_redo).cls yX11_redo yX11_redo ∈ UT := ⟨uw_5_0, uw_5_1⟩
theorem ck_X11_make : ckC yX11_make cX11_make 3 (some .int) 2 := ⟨⟨uw_1_1, uw_5_10⟩, by decide +kernel, by decide +kernel, by decide⟩
theorem uw_5_9 : (Jvm.Cond.selects "HideReader" ({ cls := "HideReader", name := "make", desc := "(II)I" } : Jvm.MethodName) ({ cls := "HideReader", name := "make", desc := "(II)I" } : Jvm.MethodName)) ∈ UT := ut_t (tm_5 (List.mem_of_getElem? (i := 9) rfl)) rfl
theorem iv_X11_make : Cond.instanceMethod yX11_make ∈ UT ∧ Cond.selects (yX11_make).cls yX11_make yX11_make ∈ UT := ⟨uw_5_8, uw_5_9⟩
theorem ck_X11_forge : ckC yX11_forge cX11_forge 5 (some .int) 2 := ⟨⟨uw_1_1, uw_5_28⟩, by decide +kernel, by decide +kernel, by decide⟩
theorem uw_5_27 : (Jvm.Cond.selects "HideReader" ({ cls := "HideReader", name := "forge", desc := "(II)I" } : Jvm.MethodName) ({ cls := "HideReader", name := "forge", desc := "(II)I" } : Jvm.MethodName)) ∈ UT := ut_t (tm_5 (List.mem_of_getElem? (i := 27) rfl)) rfl
theorem iv_X11_forge : Cond.instanceMethod yX11_forge ∈ UT ∧ Cond.selects (yX11_forge).cls yX11_forge yX11_forge ∈ UT := ⟨uw_5_26, uw_5_27⟩
theorem ck_X11_chain : ckC yX11_chain cX11_chain 1 (some .int) 0 := ⟨⟨uw_1_1, uw_5_42⟩, by decide +kernel, by decide +kernel, by decide⟩
theorem uw_5_41 : (Jvm.Cond.selects "HideReader" ({ cls := "HideReader", name := "chain", desc := "()I" } : Jvm.MethodName) ({ cls := "HideReader", name := "chain", desc := "()I" } : Jvm.MethodName)) ∈ UT := ut_t (tm_5 (List.mem_of_getElem? (i := 41) rfl)) rfl
theorem iv_X11_chain : Cond.instanceMethod yX11_chain ∈ UT ∧ Cond.selects (yX11_chain).cls yX11_chain yX11_chain ∈ UT := ⟨uw_5_40, uw_5_41⟩
theorem ck_X11_lowest : ckC yX11_lowest cX11_lowest 1 (some .int) 0 := ⟨⟨uw_1_1, uw_5_70⟩, by decide +kernel, by decide +kernel, by decide⟩
theorem uw_5_69 : (Jvm.Cond.selects "HideReader" ({ cls := "HideReader", name := "lowest", desc := "()I" } : Jvm.MethodName) ({ cls := "HideReader", name := "lowest", desc := "()I" } : Jvm.MethodName)) ∈ UT := ut_t (tm_5 (List.mem_of_getElem? (i := 69) rfl)) rfl
theorem iv_X11_lowest : Cond.instanceMethod yX11_lowest ∈ UT ∧ Cond.selects (yX11_lowest).cls yX11_lowest yX11_lowest ∈ UT := ⟨uw_5_68, uw_5_69⟩
theorem ck_X11_highest : ckC yX11_highest cX11_highest 1 (some .int) 0 := ⟨⟨uw_1_1, uw_5_78⟩, by decide +kernel, by decide +kernel, by decide⟩
theorem uw_5_77 : (Jvm.Cond.selects "HideReader" ({ cls := "HideReader", name := "highest", desc := "()I" } : Jvm.MethodName) ({ cls := "HideReader", name := "highest", desc := "()I" } : Jvm.MethodName)) ∈ UT := ut_t (tm_5 (List.mem_of_getElem? (i := 77) rfl)) rfl
theorem iv_X11_highest : Cond.instanceMethod yX11_highest ∈ UT ∧ Cond.selects (yX11_highest).cls yX11_highest yX11_highest ∈ UT := ⟨uw_5_76, uw_5_77⟩
theorem ck_X11_fresh : ckC yX11_fresh cX11_fresh 1 (some .int) 0 := ⟨⟨uw_1_1, uw_5_86⟩, by decide +kernel, by decide +kernel, by decide⟩
theorem uw_5_85 : (Jvm.Cond.selects "HideReader" ({ cls := "HideReader", name := "fresh", desc := "()I" } : Jvm.MethodName) ({ cls := "HideReader", name := "fresh", desc := "()I" } : Jvm.MethodName)) ∈ UT := ut_t (tm_5 (List.mem_of_getElem? (i := 85) rfl)) rfl
theorem iv_X11_fresh : Cond.instanceMethod yX11_fresh ∈ UT ∧ Cond.selects (yX11_fresh).cls yX11_fresh yX11_fresh ∈ UT := ⟨uw_5_84, uw_5_85⟩
theorem ck_X11_origins : ckC yX11_origins cX11_origins 2 (some .int) 1 := ⟨⟨uw_1_1, uw_5_99⟩, by decide +kernel, by decide +kernel, by decide⟩
theorem uw_5_98 : (Jvm.Cond.selects "HideReader" ({ cls := "HideReader", name := "origins", desc := "(I)I" } : Jvm.MethodName) ({ cls := "HideReader", name := "origins", desc := "(I)I" } : Jvm.MethodName)) ∈ UT := ut_t (tm_5 (List.mem_of_getElem? (i := 98) rfl)) rfl
theorem iv_X11_origins : Cond.instanceMethod yX11_origins ∈ UT ∧ Cond.selects (yX11_origins).cls yX11_origins yX11_origins ∈ UT := ⟨uw_5_97, uw_5_98⟩
theorem ck_X11_read : ckC yX11_read cX11_read 2 (some .int) 1 := ⟨⟨uw_1_1, uw_5_108⟩, by decide +kernel, by decide +kernel, by decide⟩
theorem uw_5_107 : (Jvm.Cond.selects "HideReader" ({ cls := "HideReader", name := "read", desc := "(I)I" } : Jvm.MethodName) ({ cls := "HideReader", name := "read", desc := "(I)I" } : Jvm.MethodName)) ∈ UT := ut_t (tm_5 (List.mem_of_getElem? (i := 107) rfl)) rfl
theorem iv_X11_read : Cond.instanceMethod yX11_read ∈ UT ∧ Cond.selects (yX11_read).cls yX11_read yX11_read ∈ UT := ⟨uw_5_106, uw_5_107⟩
theorem ck_X11_claim : ckC yX11_claim cX11_claim 2 (some .int) 1 := ⟨⟨uw_1_1, uw_5_121⟩, by decide +kernel, by decide +kernel, by decide⟩
theorem uw_5_120 : (Jvm.Cond.selects "HideReader" ({ cls := "HideReader", name := "claim", desc := "(I)I" } : Jvm.MethodName) ({ cls := "HideReader", name := "claim", desc := "(I)I" } : Jvm.MethodName)) ∈ UT := ut_t (tm_5 (List.mem_of_getElem? (i := 120) rfl)) rfl
theorem iv_X11_claim : Cond.instanceMethod yX11_claim ∈ UT ∧ Cond.selects (yX11_claim).cls yX11_claim yX11_claim ∈ UT := ⟨uw_5_119, uw_5_120⟩
theorem ck_X11_safe : ckC yX11_safe cX11_safe 1 (some .int) 0 := ⟨⟨uw_1_1, uw_5_129⟩, by decide +kernel, by decide +kernel, by decide⟩
theorem uw_5_128 : (Jvm.Cond.selects "HideReader" ({ cls := "HideReader", name := "safe", desc := "()I" } : Jvm.MethodName) ({ cls := "HideReader", name := "safe", desc := "()I" } : Jvm.MethodName)) ∈ UT := ut_t (tm_5 (List.mem_of_getElem? (i := 128) rfl)) rfl
theorem iv_X11_safe : Cond.instanceMethod yX11_safe ∈ UT ∧ Cond.selects (yX11_safe).cls yX11_safe yX11_safe ∈ UT := ⟨uw_5_127, uw_5_128⟩
theorem ck_X11_king : ckC yX11_king cX11_king 3 (some .int) 1 := ⟨⟨uw_1_1, uw_5_142⟩, by decide +kernel, by decide +kernel, by decide⟩
theorem uw_5_141 : (Jvm.Cond.selects "HideReader" ({ cls := "HideReader", name := "king", desc := "(I)I" } : Jvm.MethodName) ({ cls := "HideReader", name := "king", desc := "(I)I" } : Jvm.MethodName)) ∈ UT := ut_t (tm_5 (List.mem_of_getElem? (i := 141) rfl)) rfl
theorem iv_X11_king : Cond.instanceMethod yX11_king ∈ UT ∧ Cond.selects (yX11_king).cls yX11_king yX11_king ∈ UT := ⟨uw_5_140, uw_5_141⟩
theorem ck_X11_tempt : ckC yX11_tempt cX11_tempt 4 (some .int) 2 := ⟨⟨uw_1_1, uw_5_158⟩, by decide +kernel, by decide +kernel, by decide⟩
theorem uw_5_157 : (Jvm.Cond.selects "HideReader" ({ cls := "HideReader", name := "tempt", desc := "(II)I" } : Jvm.MethodName) ({ cls := "HideReader", name := "tempt", desc := "(II)I" } : Jvm.MethodName)) ∈ UT := ut_t (tm_5 (List.mem_of_getElem? (i := 157) rfl)) rfl
theorem iv_X11_tempt : Cond.instanceMethod yX11_tempt ∈ UT ∧ Cond.selects (yX11_tempt).cls yX11_tempt yX11_tempt ∈ UT := ⟨uw_5_156, uw_5_157⟩
theorem ck_X11_useful : ckC yX11_useful cX11_useful 1 (some .int) 0 := ⟨⟨uw_1_1, uw_5_166⟩, by decide +kernel, by decide +kernel, by decide⟩
theorem uw_5_165 : (Jvm.Cond.selects "HideReader" ({ cls := "HideReader", name := "useful", desc := "()I" } : Jvm.MethodName) ({ cls := "HideReader", name := "useful", desc := "()I" } : Jvm.MethodName)) ∈ UT := ut_t (tm_5 (List.mem_of_getElem? (i := 165) rfl)) rfl
theorem iv_X11_useful : Cond.instanceMethod yX11_useful ∈ UT ∧ Cond.selects (yX11_useful).cls yX11_useful yX11_useful ∈ UT := ⟨uw_5_164, uw_5_165⟩
theorem ck_X11_nearest : ckC yX11_nearest cX11_nearest 4 (some .int) 2 := ⟨⟨uw_1_1, uw_5_179⟩, by decide +kernel, by decide +kernel, by decide⟩
theorem uw_5_178 : (Jvm.Cond.selects "HideReader" ({ cls := "HideReader", name := "nearest", desc := "(II)I" } : Jvm.MethodName) ({ cls := "HideReader", name := "nearest", desc := "(II)I" } : Jvm.MethodName)) ∈ UT := ut_t (tm_5 (List.mem_of_getElem? (i := 178) rfl)) rfl
theorem iv_X11_nearest : Cond.instanceMethod yX11_nearest ∈ UT ∧ Cond.selects (yX11_nearest).cls yX11_nearest yX11_nearest ∈ UT := ⟨uw_5_177, uw_5_178⟩
theorem ck_X11_shared : ckC yX11_shared cX11_shared 3 (some .int) 2 := ⟨⟨uw_1_1, uw_5_193⟩, by decide +kernel, by decide +kernel, by decide⟩
theorem uw_5_192 : (Jvm.Cond.selects "HideReader" ({ cls := "HideReader", name := "shared", desc := "(II)I" } : Jvm.MethodName) ({ cls := "HideReader", name := "shared", desc := "(II)I" } : Jvm.MethodName)) ∈ UT := ut_t (tm_5 (List.mem_of_getElem? (i := 192) rfl)) rfl
theorem iv_X11_shared : Cond.instanceMethod yX11_shared ∈ UT ∧ Cond.selects (yX11_shared).cls yX11_shared yX11_shared ∈ UT := ⟨uw_5_191, uw_5_192⟩
theorem ck_X11_fades : ckC yX11_fades cX11_fades 2 (some .int) 1 := ⟨⟨uw_1_1, uw_5_202⟩, by decide +kernel, by decide +kernel, by decide⟩
theorem uw_5_201 : (Jvm.Cond.selects "HideReader" ({ cls := "HideReader", name := "fades", desc := "(I)I" } : Jvm.MethodName) ({ cls := "HideReader", name := "fades", desc := "(I)I" } : Jvm.MethodName)) ∈ UT := ut_t (tm_5 (List.mem_of_getElem? (i := 201) rfl)) rfl
theorem iv_X11_fades : Cond.instanceMethod yX11_fades ∈ UT ∧ Cond.selects (yX11_fades).cls yX11_fades yX11_fades ∈ UT := ⟨uw_5_200, uw_5_201⟩
theorem ck_X11_twins : ckC yX11_twins cX11_twins 1 (some .int) 0 := ⟨⟨uw_1_1, uw_5_210⟩, by decide +kernel, by decide +kernel, by decide⟩
theorem uw_5_209 : (Jvm.Cond.selects "HideReader" ({ cls := "HideReader", name := "twins", desc := "()I" } : Jvm.MethodName) ({ cls := "HideReader", name := "twins", desc := "()I" } : Jvm.MethodName)) ∈ UT := ut_t (tm_5 (List.mem_of_getElem? (i := 209) rfl)) rfl
theorem iv_X11_twins : Cond.instanceMethod yX11_twins ∈ UT ∧ Cond.selects (yX11_twins).cls yX11_twins yX11_twins ∈ UT := ⟨uw_5_208, uw_5_209⟩
theorem ck_X11_untouched : ckC yX11_untouched cX11_untouched 1 (some .int) 0 := ⟨⟨uw_1_1, uw_5_218⟩, by decide +kernel, by decide +kernel, by decide⟩
theorem uw_5_217 : (Jvm.Cond.selects "HideReader" ({ cls := "HideReader", name := "untouched", desc := "()I" } : Jvm.MethodName) ({ cls := "HideReader", name := "untouched", desc := "()I" } : Jvm.MethodName)) ∈ UT := ut_t (tm_5 (List.mem_of_getElem? (i := 217) rfl)) rfl
theorem iv_X11_untouched : Cond.instanceMethod yX11_untouched ∈ UT ∧ Cond.selects (yX11_untouched).cls yX11_untouched yX11_untouched ∈ UT := ⟨uw_5_216, uw_5_217⟩
theorem ck_X11_tells : ckC yX11_tells cX11_tells 1 (some .int) 0 := ⟨⟨uw_1_1, uw_5_226⟩, by decide +kernel, by decide +kernel, by decide⟩
theorem uw_5_225 : (Jvm.Cond.selects "HideReader" ({ cls := "HideReader", name := "tells", desc := "()I" } : Jvm.MethodName) ({ cls := "HideReader", name := "tells", desc := "()I" } : Jvm.MethodName)) ∈ UT := ut_t (tm_5 (List.mem_of_getElem? (i := 225) rfl)) rfl
theorem iv_X11_tells : Cond.instanceMethod yX11_tells ∈ UT ∧ Cond.selects (yX11_tells).cls yX11_tells yX11_tells ∈ UT := ⟨uw_5_224, uw_5_225⟩
theorem ck_X11_raid : ckC yX11_raid cX11_raid 4 (some .int) 2 := ⟨⟨uw_1_1, uw_5_237⟩, by decide +kernel, by decide +kernel, by decide⟩
theorem uw_5_236 : (Jvm.Cond.selects "HideReader" ({ cls := "HideReader", name := "raid", desc := "(II)I" } : Jvm.MethodName) ({ cls := "HideReader", name := "raid", desc := "(II)I" } : Jvm.MethodName)) ∈ UT := ut_t (tm_5 (List.mem_of_getElem? (i := 236) rfl)) rfl
theorem iv_X11_raid : Cond.instanceMethod yX11_raid ∈ UT ∧ Cond.selects (yX11_raid).cls yX11_raid yX11_raid ∈ UT := ⟨uw_5_235, uw_5_236⟩
theorem ck_X11_closed : ckC yX11_closed cX11_closed 1 (some .int) 0 := ⟨⟨uw_1_1, uw_6_13⟩, by decide +kernel, by decide +kernel, by decide⟩
theorem uw_6_12 : (Jvm.Cond.selects "HideReader" ({ cls := "HideReader", name := "closed", desc := "()I" } : Jvm.MethodName) ({ cls := "HideReader", name := "closed", desc := "()I" } : Jvm.MethodName)) ∈ UT := ut_t (tm_6 (List.mem_of_getElem? (i := 12) rfl)) rfl
theorem iv_X11_closed : Cond.instanceMethod yX11_closed ∈ UT ∧ Cond.selects (yX11_closed).cls yX11_closed yX11_closed ∈ UT := ⟨uw_6_11, uw_6_12⟩
theorem ck_X11_faces : ckC yX11_faces cX11_faces 2 (some .int) 1 := ⟨⟨uw_1_1, uw_6_23⟩, by decide +kernel, by decide +kernel, by decide⟩
theorem uw_6_22 : (Jvm.Cond.selects "HideReader" ({ cls := "HideReader", name := "faces", desc := "(I)I" } : Jvm.MethodName) ({ cls := "HideReader", name := "faces", desc := "(I)I" } : Jvm.MethodName)) ∈ UT := ut_t (tm_6 (List.mem_of_getElem? (i := 22) rfl)) rfl
theorem iv_X11_faces : Cond.instanceMethod yX11_faces ∈ UT ∧ Cond.selects (yX11_faces).cls yX11_faces yX11_faces ∈ UT := ⟨uw_6_21, uw_6_22⟩
theorem ck_X11_norm : ckC yX11_norm cX11_norm 2 (some .int) 1 := ⟨⟨uw_1_1, uw_6_31⟩, by decide +kernel, by decide +kernel, by decide⟩
theorem uw_6_30 : (Jvm.Cond.selects "HideReader" ({ cls := "HideReader", name := "norm", desc := "(I)I" } : Jvm.MethodName) ({ cls := "HideReader", name := "norm", desc := "(I)I" } : Jvm.MethodName)) ∈ UT := ut_t (tm_6 (List.mem_of_getElem? (i := 30) rfl)) rfl
theorem iv_X11_norm : Cond.instanceMethod yX11_norm ∈ UT ∧ Cond.selects (yX11_norm).cls yX11_norm yX11_norm ∈ UT := ⟨uw_6_29, uw_6_30⟩
theorem ck_X11_strays : ckC yX11_strays cX11_strays 1 (some .int) 0 := ⟨⟨uw_1_1, uw_6_36⟩, by decide +kernel, by decide +kernel, by decide⟩
theorem uw_6_35 : (Jvm.Cond.selects "HideReader" ({ cls := "HideReader", name := "strays", desc := "()I" } : Jvm.MethodName) ({ cls := "HideReader", name := "strays", desc := "()I" } : Jvm.MethodName)) ∈ UT := ut_t (tm_6 (List.mem_of_getElem? (i := 35) rfl)) rfl
theorem iv_X11_strays : Cond.instanceMethod yX11_strays ∈ UT ∧ Cond.selects (yX11_strays).cls yX11_strays yX11_strays ∈ UT := ⟨uw_6_34, uw_6_35⟩
theorem ck_X11_oldest : ckC yX11_oldest cX11_oldest 2 (some .int) 1 := ⟨⟨uw_1_1, uw_6_44⟩, by decide +kernel, by decide +kernel, by decide⟩
theorem uw_6_43 : (Jvm.Cond.selects "HideReader" ({ cls := "HideReader", name := "oldest", desc := "(I)I" } : Jvm.MethodName) ({ cls := "HideReader", name := "oldest", desc := "(I)I" } : Jvm.MethodName)) ∈ UT := ut_t (tm_6 (List.mem_of_getElem? (i := 43) rfl)) rfl
theorem iv_X11_oldest : Cond.instanceMethod yX11_oldest ∈ UT ∧ Cond.selects (yX11_oldest).cls yX11_oldest yX11_oldest ∈ UT := ⟨uw_6_42, uw_6_43⟩
theorem ck_X11_will : ckC yX11_will cX11_will 2 (some .int) 1 := ⟨⟨uw_1_1, uw_6_54⟩, by decide +kernel, by decide +kernel, by decide⟩
theorem uw_6_53 : (Jvm.Cond.selects "HideReader" ({ cls := "HideReader", name := "will", desc := "(I)I" } : Jvm.MethodName) ({ cls := "HideReader", name := "will", desc := "(I)I" } : Jvm.MethodName)) ∈ UT := ut_t (tm_6 (List.mem_of_getElem? (i := 53) rfl)) rfl
theorem iv_X11_will : Cond.instanceMethod yX11_will ∈ UT ∧ Cond.selects (yX11_will).cls yX11_will yX11_will ∈ UT := ⟨uw_6_52, uw_6_53⟩
theorem ck_X11_law : ckC yX11_law cX11_law 2 (some .int) 1 := ⟨⟨uw_1_1, uw_6_62⟩, by decide +kernel, by decide +kernel, by decide⟩
theorem uw_6_61 : (Jvm.Cond.selects "HideReader" ({ cls := "HideReader", name := "law", desc := "(I)I" } : Jvm.MethodName) ({ cls := "HideReader", name := "law", desc := "(I)I" } : Jvm.MethodName)) ∈ UT := ut_t (tm_6 (List.mem_of_getElem? (i := 61) rfl)) rfl
theorem iv_X11_law : Cond.instanceMethod yX11_law ∈ UT ∧ Cond.selects (yX11_law).cls yX11_law yX11_law ∈ UT := ⟨uw_6_60, uw_6_61⟩
theorem ck_X11_odds : ckC yX11_odds cX11_odds 7 (some .int) 2 := ⟨⟨uw_1_1, uw_6_70⟩, by decide +kernel, by decide +kernel, by decide⟩
theorem uw_6_69 : (Jvm.Cond.selects "HideReader" ({ cls := "HideReader", name := "odds", desc := "(II)I" } : Jvm.MethodName) ({ cls := "HideReader", name := "odds", desc := "(II)I" } : Jvm.MethodName)) ∈ UT := ut_t (tm_6 (List.mem_of_getElem? (i := 69) rfl)) rfl
theorem iv_X11_odds : Cond.instanceMethod yX11_odds ∈ UT ∧ Cond.selects (yX11_odds).cls yX11_odds yX11_odds ∈ UT := ⟨uw_6_68, uw_6_69⟩
theorem ck_X11_lies : ckC yX11_lies cX11_lies 2 (some .int) 1 := ⟨⟨uw_1_1, uw_6_77⟩, by decide +kernel, by decide +kernel, by decide⟩
theorem uw_6_76 : (Jvm.Cond.selects "HideReader" ({ cls := "HideReader", name := "lies", desc := "(I)I" } : Jvm.MethodName) ({ cls := "HideReader", name := "lies", desc := "(I)I" } : Jvm.MethodName)) ∈ UT := ut_t (tm_6 (List.mem_of_getElem? (i := 76) rfl)) rfl
theorem iv_X11_lies : Cond.instanceMethod yX11_lies ∈ UT ∧ Cond.selects (yX11_lies).cls yX11_lies yX11_lies ∈ UT := ⟨uw_6_75, uw_6_76⟩
theorem ck_X11_seen : ckC yX11_seen cX11_seen 4 (some .int) 3 := ⟨⟨uw_1_1, uw_6_81⟩, by decide +kernel, by decide +kernel, by decide⟩
theorem uw_6_80 : (Jvm.Cond.selects "HideReader" ({ cls := "HideReader", name := "seen", desc := "(IIZ)I" } : Jvm.MethodName) ({ cls := "HideReader", name := "seen", desc := "(IIZ)I" } : Jvm.MethodName)) ∈ UT := ut_t (tm_6 (List.mem_of_getElem? (i := 80) rfl)) rfl
theorem iv_X11_seen : Cond.instanceMethod yX11_seen ∈ UT ∧ Cond.selects (yX11_seen).cls yX11_seen yX11_seen ∈ UT := ⟨uw_6_79, uw_6_80⟩
theorem ck_X11_untell : ckC yX11_untell cX11_untell 2 (some .boolean) 1 := ⟨⟨uw_1_1, uw_6_92⟩, by decide +kernel, by decide +kernel, by decide⟩
theorem uw_6_91 : (Jvm.Cond.selects "HideReader" ({ cls := "HideReader", name := "untell", desc := "(I)Z" } : Jvm.MethodName) ({ cls := "HideReader", name := "untell", desc := "(I)Z" } : Jvm.MethodName)) ∈ UT := ut_t (tm_6 (List.mem_of_getElem? (i := 91) rfl)) rfl
theorem iv_X11_untell : Cond.instanceMethod yX11_untell ∈ UT ∧ Cond.selects (yX11_untell).cls yX11_untell yX11_untell ∈ UT := ⟨uw_6_90, uw_6_91⟩
theorem ck_X11_later : ckC yX11_later cX11_later 2 (some .int) 1 := ⟨⟨uw_1_1, uw_6_100⟩, by decide +kernel, by decide +kernel, by decide⟩
theorem uw_6_99 : (Jvm.Cond.selects "HideReader" ({ cls := "HideReader", name := "later", desc := "(I)I" } : Jvm.MethodName) ({ cls := "HideReader", name := "later", desc := "(I)I" } : Jvm.MethodName)) ∈ UT := ut_t (tm_6 (List.mem_of_getElem? (i := 99) rfl)) rfl
theorem iv_X11_later : Cond.instanceMethod yX11_later ∈ UT ∧ Cond.selects (yX11_later).cls yX11_later yX11_later ∈ UT := ⟨uw_6_98, uw_6_99⟩
theorem ck_X11_rows : ckC yX11_rows cX11_rows 2 (some .int) 1 := ⟨⟨uw_1_1, uw_6_109⟩, by decide +kernel, by decide +kernel, by decide⟩
theorem uw_6_108 : (Jvm.Cond.selects "HideReader" ({ cls := "HideReader", name := "rows", desc := "(I)I" } : Jvm.MethodName) ({ cls := "HideReader", name := "rows", desc := "(I)I" } : Jvm.MethodName)) ∈ UT := ut_t (tm_6 (List.mem_of_getElem? (i := 108) rfl)) rfl
theorem iv_X11_rows : Cond.instanceMethod yX11_rows ∈ UT ∧ Cond.selects (yX11_rows).cls yX11_rows yX11_rows ∈ UT := ⟨uw_6_107, uw_6_108⟩
theorem ck_X11_sure : ckC yX11_sure cX11_sure 3 (some .int) 2 := ⟨⟨uw_1_1, uw_6_139⟩, by decide +kernel, by decide +kernel, by decide⟩
theorem uw_6_138 : (Jvm.Cond.selects "HideReader" ({ cls := "HideReader", name := "sure", desc := "(II)I" } : Jvm.MethodName) ({ cls := "HideReader", name := "sure", desc := "(II)I" } : Jvm.MethodName)) ∈ UT := ut_t (tm_6 (List.mem_of_getElem? (i := 138) rfl)) rfl
theorem iv_X11_sure : Cond.instanceMethod yX11_sure ∈ UT ∧ Cond.selects (yX11_sure).cls yX11_sure yX11_sure ∈ UT := ⟨uw_6_137, uw_6_138⟩
theorem ck_X11_ask : ckC yX11_ask cX11_ask 5 (some .int) 2 := ⟨⟨uw_1_1, uw_6_148⟩, by decide +kernel, by decide +kernel, by decide⟩
theorem uw_6_147 : (Jvm.Cond.selects "HideReader" ({ cls := "HideReader", name := "ask", desc := "(II)I" } : Jvm.MethodName) ({ cls := "HideReader", name := "ask", desc := "(II)I" } : Jvm.MethodName)) ∈ UT := ut_t (tm_6 (List.mem_of_getElem? (i := 147) rfl)) rfl
theorem iv_X11_ask : Cond.instanceMethod yX11_ask ∈ UT ∧ Cond.selects (yX11_ask).cls yX11_ask yX11_ask ∈ UT := ⟨uw_6_146, uw_6_147⟩
theorem ck_X11_image : ckC yX11_image cX11_image 2 (some .int) 1 := ⟨⟨uw_1_1, uw_6_158⟩, by decide +kernel, by decide +kernel, by decide⟩
theorem uw_6_157 : (Jvm.Cond.selects "HideReader" ({ cls := "HideReader", name := "image", desc := "(I)I" } : Jvm.MethodName) ({ cls := "HideReader", name := "image", desc := "(I)I" } : Jvm.MethodName)) ∈ UT := ut_t (tm_6 (List.mem_of_getElem? (i := 157) rfl)) rfl
theorem iv_X11_image : Cond.instanceMethod yX11_image ∈ UT ∧ Cond.selects (yX11_image).cls yX11_image yX11_image ∈ UT := ⟨uw_6_156, uw_6_157⟩
theorem ck_X11_back : ckC yX11_back cX11_back 2 (some .int) 1 := ⟨⟨uw_1_1, uw_6_169⟩, by decide +kernel, by decide +kernel, by decide⟩
theorem uw_6_168 : (Jvm.Cond.selects "HideReader" ({ cls := "HideReader", name := "back", desc := "(I)I" } : Jvm.MethodName) ({ cls := "HideReader", name := "back", desc := "(I)I" } : Jvm.MethodName)) ∈ UT := ut_t (tm_6 (List.mem_of_getElem? (i := 168) rfl)) rfl
theorem iv_X11_back : Cond.instanceMethod yX11_back ∈ UT ∧ Cond.selects (yX11_back).cls yX11_back yX11_back ∈ UT := ⟨uw_6_167, uw_6_168⟩
theorem ck_X11_about : ckC yX11_about cX11_about 2 (some .int) 1 := ⟨⟨uw_1_1, uw_6_177⟩, by decide +kernel, by decide +kernel, by decide⟩
theorem uw_6_176 : (Jvm.Cond.selects "HideReader" ({ cls := "HideReader", name := "about", desc := "(I)I" } : Jvm.MethodName) ({ cls := "HideReader", name := "about", desc := "(I)I" } : Jvm.MethodName)) ∈ UT := ut_t (tm_6 (List.mem_of_getElem? (i := 176) rfl)) rfl
theorem iv_X11_about : Cond.instanceMethod yX11_about ∈ UT ∧ Cond.selects (yX11_about).cls yX11_about yX11_about ∈ UT := ⟨uw_6_175, uw_6_176⟩
theorem ck_X11_isHerd : ckC yX11_isHerd cX11_isHerd 2 (some .boolean) 1 := ⟨⟨uw_1_1, uw_4_108⟩, by decide +kernel, by decide +kernel, by decide⟩
theorem iv_X11_isHerd : Cond.instanceMethod yX11_isHerd ∈ UT ∧ Cond.selects (yX11_isHerd).cls yX11_isHerd yX11_isHerd ∈ UT := ⟨uw_4_107, ut_s (q := (yX11_isHerd, 12)) (List.mem_append_right _ (List.mem_append_left _ (List.mem_of_getElem? (i := 7) rfl))) rfl⟩
theorem ck_X11_isIron : ckC yX11_isIron cX11_isIron 2 (some .boolean) 1 := ⟨⟨uw_1_1, uw_4_116⟩, by decide +kernel, by decide +kernel, by decide⟩
theorem iv_X11_isIron : Cond.instanceMethod yX11_isIron ∈ UT ∧ Cond.selects (yX11_isIron).cls yX11_isIron yX11_isIron ∈ UT := ⟨uw_4_115, ut_s (q := (yX11_isIron, 12)) (List.mem_append_right _ (List.mem_append_left _ (List.mem_of_getElem? (i := 8) rfl))) rfl⟩
theorem ck_X11_isBeast : ckC yX11_isBeast cX11_isBeast 2 (some .boolean) 1 := ⟨⟨uw_1_1, uw_4_124⟩, by decide +kernel, by decide +kernel, by decide⟩
theorem iv_X11_isBeast : Cond.instanceMethod yX11_isBeast ∈ UT ∧ Cond.selects (yX11_isBeast).cls yX11_isBeast yX11_isBeast ∈ UT := ⟨uw_4_123, ut_s (q := (yX11_isBeast, 12)) (List.mem_append_right _ (List.mem_append_left _ (List.mem_of_getElem? (i := 9) rfl))) rfl⟩
theorem ck_X11_isPlacement : ckC yX11_isPlacement cX11_isPlacement 2 (some .boolean) 1 := ⟨⟨uw_1_1, uw_4_176⟩, by decide +kernel, by decide +kernel, by decide⟩
theorem iv_X11_isPlacement : Cond.instanceMethod yX11_isPlacement ∈ UT ∧ Cond.selects (yX11_isPlacement).cls yX11_isPlacement yX11_isPlacement ∈ UT := ⟨uw_4_175, ut_s (q := (yX11_isPlacement, 12)) (List.mem_append_right _ (List.mem_append_left _ (List.mem_of_getElem? (i := 12) rfl))) rfl⟩
theorem ck_X11_isStroke : ckC yX11_isStroke cX11_isStroke 1 (some .boolean) 1 := ⟨⟨uw_1_1, uw_4_164⟩, by decide +kernel, by decide +kernel, by decide⟩
theorem ck_X11_isMark : ckC yX11_isMark cX11_isMark 1 (some .boolean) 1 := ⟨⟨uw_1_1, uw_4_172⟩, by decide +kernel, by decide +kernel, by decide⟩
theorem ck_X11_isBurning : ckC yX11_isBurning cX11_isBurning 1 (some .boolean) 1 := ⟨⟨uw_1_1, uw_6_84⟩, by decide +kernel, by decide +kernel, by decide⟩
theorem ck_X11_isBox : ckC yX11_isBox cX11_isBox 1 (some .boolean) 1 := ⟨⟨uw_1_1, uw_6_161⟩, by decide +kernel, by decide +kernel, by decide⟩
theorem ck_X11_isPart : ckC yX11_isPart cX11_isPart 1 (some .boolean) 1 := ⟨⟨uw_1_1, uw_5_145⟩, by decide +kernel, by decide +kernel, by decide⟩
theorem ck_X11_withoutCommon : ckC yX11_withoutCommon cX11_withoutCommon 3 (some .int) 2 := ⟨⟨uw_1_1, uw_6_73⟩, by decide +kernel, by decide +kernel, by decide⟩
theorem ck_X12_init : ckC yX12_init cX12_init 1 none 0 := ⟨⟨uw_1_17, uw_6_202⟩, by decide +kernel, by decide +kernel, by decide⟩
theorem ii_X12_init : (yX12_init).name = "<init>" ∧ Cond.instanceMethod yX12_init ∈ UT := ⟨rfl, uw_6_201⟩
theorem ck_X12_sign : ckC yX12_sign cX12_sign 2 (some .int) 1 := ⟨⟨uw_1_17, uw_7_227⟩, by decide +kernel, by decide +kernel, by decide⟩
theorem iv_X12_sign : Cond.instanceMethod yX12_sign ∈ UT ∧ Cond.selects (yX12_sign).cls yX12_sign yX12_sign ∈ UT := ⟨uw_7_226, ut_s (q := (yX12_sign, 64)) (List.mem_append_right _ (List.mem_append_right _ (List.mem_append_right _ (List.mem_append_left _ (List.mem_of_getElem? (i := 8) rfl))))) rfl⟩
theorem ck_X12_isLetter : ckC yX12_isLetter cX12_isLetter 1 (some .boolean) 1 := ⟨⟨uw_1_17, uw_7_230⟩, by decide +kernel, by decide +kernel, by decide⟩
theorem ck_X12_isDigit : ckC yX12_isDigit cX12_isDigit 1 (some .boolean) 1 := ⟨⟨uw_1_17, uw_8_14⟩, by decide +kernel, by decide +kernel, by decide⟩
theorem ck_X12_fails : ckC yX12_fails cX12_fails 3 none 2 := ⟨⟨uw_1_17, uw_8_41⟩, by decide +kernel, by decide +kernel, by decide⟩
theorem iv_X12_fails : Cond.instanceMethod yX12_fails ∈ UT ∧ Cond.selects (yX12_fails).cls yX12_fails yX12_fails ∈ UT := ⟨uw_8_40, ut_s (q := (yX12_fails, 64)) (List.mem_append_right _ (List.mem_append_right _ (List.mem_append_right _ (List.mem_append_left _ (List.mem_of_getElem? (i := 14) rfl))))) rfl⟩
theorem ck_X12_isGood : ckC yX12_isGood cX12_isGood 1 (some .boolean) 0 := ⟨⟨uw_1_17, uw_8_21⟩, by decide +kernel, by decide +kernel, by decide⟩
theorem iv_X12_isGood : Cond.instanceMethod yX12_isGood ∈ UT ∧ Cond.selects (yX12_isGood).cls yX12_isGood yX12_isGood ∈ UT := ⟨uw_8_20, ut_s (q := (yX12_isGood, 64)) (List.mem_append_right _ (List.mem_append_right _ (List.mem_append_right _ (List.mem_append_left _ (List.mem_of_getElem? (i := 9) rfl))))) rfl⟩
theorem ck_X12_isKept : ckC yX12_isKept cX12_isKept 3 (some .boolean) 1 := ⟨⟨uw_1_17, uw_7_233⟩, by decide +kernel, by decide +kernel, by decide⟩
theorem ck_X12_isSign : ckC yX12_isSign cX12_isSign 1 (some .boolean) 1 := ⟨⟨uw_1_17, uw_8_17⟩, by decide +kernel, by decide +kernel, by decide⟩
theorem ck_X12_goOn : ckC yX12_goOn cX12_goOn 3 none 0 := ⟨⟨uw_1_17, uw_7_223⟩, by decide +kernel, by decide +kernel, by decide⟩
theorem iv_X12_goOn : Cond.instanceMethod yX12_goOn ∈ UT ∧ Cond.selects (yX12_goOn).cls yX12_goOn yX12_goOn ∈ UT := ⟨uw_7_222, ut_s (q := (yX12_goOn, 64)) (List.mem_append_right _ (List.mem_append_right _ (List.mem_append_right _ (List.mem_append_left _ (List.mem_of_getElem? (i := 7) rfl))))) rfl⟩
theorem ck_X12_isSignHere : ckC yX12_isSignHere cX12_isSignHere 2 (some .boolean) 1 := ⟨⟨uw_1_17, uw_8_93⟩, by decide +kernel, by decide +kernel, by decide⟩
theorem iv_X12_isSignHere : Cond.instanceMethod yX12_isSignHere ∈ UT ∧ Cond.selects (yX12_isSignHere).cls yX12_isSignHere yX12_isSignHere ∈ UT := ⟨uw_8_92, ut_s (q := (yX12_isSignHere, 64)) (List.mem_append_right _ (List.mem_append_right _ (List.mem_append_right _ (List.mem_append_right _ (List.mem_append_left _ (List.mem_of_getElem? (i := 11) rfl)))))) rfl⟩
theorem ck_X12_isWord : ckC yX12_isWord cX12_isWord 3 (some .boolean) 1 := ⟨⟨uw_1_17, uw_8_33⟩, by decide +kernel, by decide +kernel, by decide⟩
theorem iv_X12_isWord : Cond.instanceMethod yX12_isWord ∈ UT ∧ Cond.selects (yX12_isWord).cls yX12_isWord yX12_isWord ∈ UT := ⟨uw_8_32, ut_s (q := (yX12_isWord, 64)) (List.mem_append_right _ (List.mem_append_right _ (List.mem_append_right _ (List.mem_append_left _ (List.mem_of_getElem? (i := 12) rfl))))) rfl⟩
theorem ck_X12_misplaced : ckC yX12_misplaced cX12_misplaced 1 none 0 := ⟨⟨uw_1_17, uw_8_37⟩, by decide +kernel, by decide +kernel, by decide⟩
theorem iv_X12_misplaced : Cond.instanceMethod yX12_misplaced ∈ UT ∧ Cond.selects (yX12_misplaced).cls yX12_misplaced yX12_misplaced ∈ UT := ⟨uw_8_36, ut_s (q := (yX12_misplaced, 64)) (List.mem_append_right _ (List.mem_append_right _ (List.mem_append_right _ (List.mem_append_left _ (List.mem_of_getElem? (i := 13) rfl))))) rfl⟩
theorem ck_X12_must : ckC yX12_must cX12_must 2 none 1 := ⟨⟨uw_1_17, uw_8_65⟩, by decide +kernel, by decide +kernel, by decide⟩
theorem iv_X12_must : Cond.instanceMethod yX12_must ∈ UT ∧ Cond.selects (yX12_must).cls yX12_must yX12_must ∈ UT := ⟨uw_8_64, ut_s (q := (yX12_must, 64)) (List.mem_append_right _ (List.mem_append_right _ (List.mem_append_right _ (List.mem_append_right _ (List.mem_append_left _ (List.mem_of_getElem? (i := 4) rfl)))))) rfl⟩
theorem ck_X12_numeral : ckC yX12_numeral cX12_numeral 4 (some .int) 2 := ⟨⟨uw_1_17, uw_8_49⟩, by decide +kernel, by decide +kernel, by decide⟩
theorem iv_X12_numeral : Cond.instanceMethod yX12_numeral ∈ UT ∧ Cond.selects (yX12_numeral).cls yX12_numeral yX12_numeral ∈ UT := ⟨uw_8_48, ut_s (q := (yX12_numeral, 64)) (List.mem_append_right _ (List.mem_append_right _ (List.mem_append_right _ (List.mem_append_right _ (List.mem_append_left _ (List.mem_of_getElem? (i := 0) rfl)))))) rfl⟩
theorem ck_X12_after : ckC yX12_after cX12_after 5 (some .int) 3 := ⟨⟨uw_1_17, uw_8_73⟩, by decide +kernel, by decide +kernel, by decide⟩
theorem iv_X12_after : Cond.instanceMethod yX12_after ∈ UT ∧ Cond.selects (yX12_after).cls yX12_after yX12_after ∈ UT := ⟨uw_8_72, ut_s (q := (yX12_after, 64)) (List.mem_append_right _ (List.mem_append_right _ (List.mem_append_right _ (List.mem_append_right _ (List.mem_append_left _ (List.mem_of_getElem? (i := 6) rfl)))))) rfl⟩
theorem ck_X12_clearBank : ckC yX12_clearBank cX12_clearBank 1 none 0 := ⟨⟨uw_1_17, uw_6_207⟩, by decide +kernel, by decide +kernel, by decide⟩
theorem iv_X12_clearBank : Cond.instanceMethod yX12_clearBank ∈ UT ∧ Cond.selects (yX12_clearBank).cls yX12_clearBank yX12_clearBank ∈ UT := ⟨uw_6_206, ut_s (q := (yX12_clearBank, 64)) (List.mem_append_right _ (List.mem_append_right _ (List.mem_append_left _ (List.mem_of_getElem? (i := 12) rfl)))) rfl⟩
theorem ck_X12_valley : ckC yX12_valley cX12_valley 2 (some .int) 0 := ⟨⟨uw_1_17, uw_7_219⟩, by decide +kernel, by decide +kernel, by decide⟩
theorem uw_7_218 : (Jvm.Cond.selects "HideReaderModel" ({ cls := "HideReaderModel", name := "valley", desc := "()I" } : Jvm.MethodName) ({ cls := "HideReaderModel", name := "valley", desc := "()I" } : Jvm.MethodName)) ∈ UT := ut_t (tm_7 (List.mem_of_getElem? (i := 218) rfl)) rfl
theorem iv_X12_valley : Cond.instanceMethod yX12_valley ∈ UT ∧ Cond.selects (yX12_valley).cls yX12_valley yX12_valley ∈ UT := ⟨uw_7_217, uw_7_218⟩
theorem ck_X12_isFull : ckC yX12_isFull cX12_isFull 1 (some .boolean) 0 := ⟨⟨uw_1_17, uw_8_29⟩, by decide +kernel, by decide +kernel, by decide⟩
theorem iv_X12_isFull : Cond.instanceMethod yX12_isFull ∈ UT ∧ Cond.selects (yX12_isFull).cls yX12_isFull yX12_isFull ∈ UT := ⟨uw_8_28, ut_s (q := (yX12_isFull, 64)) (List.mem_append_right _ (List.mem_append_right _ (List.mem_append_right _ (List.mem_append_left _ (List.mem_of_getElem? (i := 11) rfl))))) rfl⟩
theorem ck_X12_readLine : ckC yX12_readLine cX12_readLine 3 none 0 := ⟨⟨uw_1_17, uw_8_25⟩, by decide +kernel, by decide +kernel, by decide⟩
theorem iv_X12_readLine : Cond.instanceMethod yX12_readLine ∈ UT ∧ Cond.selects (yX12_readLine).cls yX12_readLine yX12_readLine ∈ UT := ⟨uw_8_24, ut_s (q := (yX12_readLine, 64)) (List.mem_append_right _ (List.mem_append_right _ (List.mem_append_right _ (List.mem_append_left _ (List.mem_of_getElem? (i := 10) rfl))))) rfl⟩
theorem ck_X12_readTurns : ckC yX12_readTurns cX12_readTurns 2 none 0 := ⟨⟨uw_1_17, uw_8_45⟩, by decide +kernel, by decide +kernel, by decide⟩
theorem iv_X12_readTurns : Cond.instanceMethod yX12_readTurns ∈ UT ∧ Cond.selects (yX12_readTurns).cls yX12_readTurns yX12_readTurns ∈ UT := ⟨uw_8_44, ut_s (q := (yX12_readTurns, 64)) (List.mem_append_right _ (List.mem_append_right _ (List.mem_append_right _ (List.mem_append_left _ (List.mem_of_getElem? (i := 15) rfl))))) rfl⟩
theorem ck_X12_here : ckC yX12_here cX12_here 5 (some .int) 3 := ⟨⟨uw_1_17, uw_8_53⟩, by decide +kernel, by decide +kernel, by decide⟩
theorem iv_X12_here : Cond.instanceMethod yX12_here ∈ UT ∧ Cond.selects (yX12_here).cls yX12_here yX12_here ∈ UT := ⟨uw_8_52, ut_s (q := (yX12_here, 64)) (List.mem_append_right _ (List.mem_append_right _ (List.mem_append_right _ (List.mem_append_right _ (List.mem_append_left _ (List.mem_of_getElem? (i := 1) rfl)))))) rfl⟩
theorem ck_X12_newName : ckC yX12_newName cX12_newName 4 (some .long) 1 := ⟨⟨uw_1_17, uw_8_57⟩, by decide +kernel, by decide +kernel, by decide⟩
theorem iv_X12_newName : Cond.instanceMethod yX12_newName ∈ UT ∧ Cond.selects (yX12_newName).cls yX12_newName yX12_newName ∈ UT := ⟨uw_8_56, ut_s (q := (yX12_newName, 64)) (List.mem_append_right _ (List.mem_append_right _ (List.mem_append_right _ (List.mem_append_right _ (List.mem_append_left _ (List.mem_of_getElem? (i := 2) rfl)))))) rfl⟩
theorem ck_X12_readMark : ckC yX12_readMark cX12_readMark 4 (some .int) 0 := ⟨⟨uw_1_17, uw_8_61⟩, by decide +kernel, by decide +kernel, by decide⟩
theorem iv_X12_readMark : Cond.instanceMethod yX12_readMark ∈ UT ∧ Cond.selects (yX12_readMark).cls yX12_readMark yX12_readMark ∈ UT := ⟨uw_8_60, ut_s (q := (yX12_readMark, 64)) (List.mem_append_right _ (List.mem_append_right _ (List.mem_append_right _ (List.mem_append_right _ (List.mem_append_left _ (List.mem_of_getElem? (i := 3) rfl)))))) rfl⟩
theorem ck_X12_readBeast : ckC yX12_readBeast cX12_readBeast 3 none 0 := ⟨⟨uw_1_17, uw_8_69⟩, by decide +kernel, by decide +kernel, by decide⟩
theorem iv_X12_readBeast : Cond.instanceMethod yX12_readBeast ∈ UT ∧ Cond.selects (yX12_readBeast).cls yX12_readBeast yX12_readBeast ∈ UT := ⟨uw_8_68, ut_s (q := (yX12_readBeast, 64)) (List.mem_append_right _ (List.mem_append_right _ (List.mem_append_right _ (List.mem_append_right _ (List.mem_append_left _ (List.mem_of_getElem? (i := 5) rfl)))))) rfl⟩
theorem ck_X12_readRule : ckC yX12_readRule cX12_readRule 1 none 0 := ⟨⟨uw_1_17, uw_8_77⟩, by decide +kernel, by decide +kernel, by decide⟩
theorem iv_X12_readRule : Cond.instanceMethod yX12_readRule ∈ UT ∧ Cond.selects (yX12_readRule).cls yX12_readRule yX12_readRule ∈ UT := ⟨uw_8_76, ut_s (q := (yX12_readRule, 64)) (List.mem_append_right _ (List.mem_append_right _ (List.mem_append_right _ (List.mem_append_right _ (List.mem_append_left _ (List.mem_of_getElem? (i := 7) rfl)))))) rfl⟩
theorem ck_X12_emit : ckC yX12_emit cX12_emit 3 none 2 := ⟨⟨uw_1_17, uw_8_101⟩, by decide +kernel, by decide +kernel, by decide⟩
theorem iv_X12_emit : Cond.instanceMethod yX12_emit ∈ UT ∧ Cond.selects (yX12_emit).cls yX12_emit yX12_emit ∈ UT := ⟨uw_8_100, ut_s (q := (yX12_emit, 64)) (List.mem_append_right _ (List.mem_append_right _ (List.mem_append_right _ (List.mem_append_right _ (List.mem_append_left _ (List.mem_of_getElem? (i := 13) rfl)))))) rfl⟩
theorem ck_X12_pushE : ckC yX12_pushE cX12_pushE 3 none 2 := ⟨⟨uw_1_17, uw_8_85⟩, by decide +kernel, by decide +kernel, by decide⟩
theorem iv_X12_pushE : Cond.instanceMethod yX12_pushE ∈ UT ∧ Cond.selects (yX12_pushE).cls yX12_pushE yX12_pushE ∈ UT := ⟨uw_8_84, ut_s (q := (yX12_pushE, 64)) (List.mem_append_right _ (List.mem_append_right _ (List.mem_append_right _ (List.mem_append_right _ (List.mem_append_left _ (List.mem_of_getElem? (i := 9) rfl)))))) rfl⟩
theorem ck_X12_e : ckC yX12_e cX12_e 2 none 0 := ⟨⟨uw_1_17, uw_8_81⟩, by decide +kernel, by decide +kernel, by decide⟩
theorem iv_X12_e : Cond.instanceMethod yX12_e ∈ UT ∧ Cond.selects (yX12_e).cls yX12_e yX12_e ∈ UT := ⟨uw_8_80, ut_s (q := (yX12_e, 64)) (List.mem_append_right _ (List.mem_append_right _ (List.mem_append_right _ (List.mem_append_right _ (List.mem_append_left _ (List.mem_of_getElem? (i := 8) rfl)))))) rfl⟩
theorem ck_X12_wordHere : ckC yX12_wordHere cX12_wordHere 1 (some .int) 0 := ⟨⟨uw_1_17, uw_8_97⟩, by decide +kernel, by decide +kernel, by decide⟩
theorem iv_X12_wordHere : Cond.instanceMethod yX12_wordHere ∈ UT ∧ Cond.selects (yX12_wordHere).cls yX12_wordHere yX12_wordHere ∈ UT := ⟨uw_8_96, ut_s (q := (yX12_wordHere, 64)) (List.mem_append_right _ (List.mem_append_right _ (List.mem_append_right _ (List.mem_append_right _ (List.mem_append_left _ (List.mem_of_getElem? (i := 12) rfl)))))) rfl⟩
theorem ck_X12_unit : ckC yX12_unit cX12_unit 7 (some .boolean) 0 := ⟨⟨uw_1_17, uw_8_89⟩, by decide +kernel, by decide +kernel, by decide⟩
theorem iv_X12_unit : Cond.instanceMethod yX12_unit ∈ UT ∧ Cond.selects (yX12_unit).cls yX12_unit yX12_unit ∈ UT := ⟨uw_8_88, ut_s (q := (yX12_unit, 64)) (List.mem_append_right _ (List.mem_append_right _ (List.mem_append_right _ (List.mem_append_right _ (List.mem_append_left _ (List.mem_of_getElem? (i := 10) rfl)))))) rfl⟩
theorem ck_X12_rankHere : ckC yX12_rankHere cX12_rankHere 1 (some .int) 0 := ⟨⟨uw_1_17, uw_8_109⟩, by decide +kernel, by decide +kernel, by decide⟩
theorem iv_X12_rankHere : Cond.instanceMethod yX12_rankHere ∈ UT ∧ Cond.selects (yX12_rankHere).cls yX12_rankHere yX12_rankHere ∈ UT := ⟨uw_8_108, ut_s (q := (yX12_rankHere, 64)) (List.mem_append_right _ (List.mem_append_right _ (List.mem_append_right _ (List.mem_append_right _ (List.mem_append_left _ (List.mem_of_getElem? (i := 15) rfl)))))) rfl⟩
theorem ck_X12_isCompared : ckC yX12_isCompared cX12_isCompared 2 (some .boolean) 0 := ⟨⟨uw_1_17, uw_8_113⟩, by decide +kernel, by decide +kernel, by decide⟩
theorem iv_X12_isCompared : Cond.instanceMethod yX12_isCompared ∈ UT ∧ Cond.selects (yX12_isCompared).cls yX12_isCompared yX12_isCompared ∈ UT := ⟨uw_8_112, ut_s (q := (yX12_isCompared, 64)) (List.mem_append_right _ (List.mem_append_right _ (List.mem_append_right _ (List.mem_append_right _ (List.mem_append_right _ (List.mem_append_left _ (List.mem_of_getElem? (i := 0) rfl))))))) rfl⟩
theorem ck_X12_behindUnit : ckC yX12_behindUnit cX12_behindUnit 2 (some .boolean) 0 := ⟨⟨uw_1_17, uw_8_105⟩, by decide +kernel, by decide +kernel, by decide⟩
theorem iv_X12_behindUnit : Cond.instanceMethod yX12_behindUnit ∈ UT ∧ Cond.selects (yX12_behindUnit).cls yX12_behindUnit yX12_behindUnit ∈ UT := ⟨uw_8_104, ut_s (q := (yX12_behindUnit, 64)) (List.mem_append_right _ (List.mem_append_right _ (List.mem_append_right _ (List.mem_append_right _ (List.mem_append_left _ (List.mem_of_getElem? (i := 14) rfl)))))) rfl⟩
theorem ck_X12_two : ckC yX12_two cX12_two 3 (some .int) 3 := ⟨⟨uw_1_17, uw_8_170⟩, by decide +kernel, by decide +kernel, by decide⟩
theorem ck_X12_asked : ckC yX12_asked cX12_asked 3 (some .int) 2 := ⟨⟨uw_1_17, uw_8_164⟩, by decide +kernel, by decide +kernel, by decide⟩
theorem iv_X12_asked : Cond.instanceMethod yX12_asked ∈ UT ∧ Cond.selects (yX12_asked).cls yX12_asked yX12_asked ∈ UT := ⟨uw_8_163, ut_s (q := (yX12_asked, 64)) (List.mem_append_right _ (List.mem_append_right _ (List.mem_append_right _ (List.mem_append_right _ (List.mem_append_right _ (List.mem_append_left _ (List.mem_of_getElem? (i := 8) rfl))))))) rfl⟩
theorem ck_X12_comes : ckC yX12_comes cX12_comes 4 (some .int) 0 := ⟨⟨uw_1_17, uw_8_160⟩, by decide +kernel, by decide +kernel, by decide⟩
theorem iv_X12_comes : Cond.instanceMethod yX12_comes ∈ UT ∧ Cond.selects (yX12_comes).cls yX12_comes yX12_comes ∈ UT := ⟨uw_8_159, ut_s (q := (yX12_comes, 64)) (List.mem_append_right _ (List.mem_append_right _ (List.mem_append_right _ (List.mem_append_right _ (List.mem_append_right _ (List.mem_append_left _ (List.mem_of_getElem? (i := 7) rfl))))))) rfl⟩
theorem ck_X12_fault : ckC yX12_fault cX12_fault 2 (some .int) 1 := ⟨⟨uw_1_17, uw_8_117⟩, by decide +kernel, by decide +kernel, by decide⟩
theorem uw_8_116 : (Jvm.Cond.selects "HideReaderModel" ({ cls := "HideReaderModel", name := "fault", desc := "(I)I" } : Jvm.MethodName) ({ cls := "HideReaderModel", name := "fault", desc := "(I)I" } : Jvm.MethodName)) ∈ UT := ut_t (tm_8 (List.mem_of_getElem? (i := 116) rfl)) rfl
theorem iv_X12_fault : Cond.instanceMethod yX12_fault ∈ UT ∧ Cond.selects (yX12_fault).cls yX12_fault yX12_fault ∈ UT := ⟨uw_8_115, uw_8_116⟩
theorem ck_X12_isIn : ckC yX12_isIn cX12_isIn 3 (some .boolean) 3 := ⟨⟨uw_1_17, uw_8_132⟩, by decide +kernel, by decide +kernel, by decide⟩
theorem ck_X12_bit : ckC yX12_bit cX12_bit 2 (some .boolean) 2 := ⟨⟨uw_1_17, uw_6_230⟩, by decide +kernel, by decide +kernel, by decide⟩
theorem ck_X12_bitsOf : ckC yX12_bitsOf cX12_bitsOf 3 (some .int) 1 := ⟨⟨uw_1_17, uw_8_167⟩, by decide +kernel, by decide +kernel, by decide⟩
theorem ck_X12_divisor : ckC yX12_divisor cX12_divisor 5 (some .int) 2 := ⟨⟨uw_1_17, uw_9_151⟩, by decide +kernel, by decide +kernel, by decide⟩
theorem ck_X12_power : ckC yX12_power cX12_power 4 (some .int) 2 := ⟨⟨uw_1_17, uw_9_148⟩, by decide +kernel, by decide +kernel, by decide⟩
theorem ck_X12_isMark : ckC yX12_isMark cX12_isMark 1 (some .boolean) 1 := ⟨⟨uw_1_17, uw_8_181⟩, by decide +kernel, by decide +kernel, by decide⟩
theorem ck_X12_turned : ckC yX12_turned cX12_turned 1 (some .int) 1 := ⟨⟨uw_1_17, uw_7_22⟩, by decide +kernel, by decide +kernel, by decide⟩
theorem ck_X12_mirrored : ckC yX12_mirrored cX12_mirrored 1 (some .int) 1 := ⟨⟨uw_1_17, uw_7_16⟩, by decide +kernel, by decide +kernel, by decide⟩
theorem ck_X12_turnedMark : ckC yX12_turnedMark cX12_turnedMark 3 (some .int) 1 := ⟨⟨uw_1_17, uw_7_19⟩, by decide +kernel, by decide +kernel, by decide⟩
theorem ck_X12_mirroredMark : ckC yX12_mirroredMark cX12_mirroredMark 3 (some .int) 1 := ⟨⟨uw_1_17, uw_7_13⟩, by decide +kernel, by decide +kernel, by decide⟩
theorem ck_X12_placements : ckC yX12_placements cX12_placements 1 (some .int) 0 := ⟨⟨uw_1_17, uw_7_2⟩, by decide +kernel, by decide +kernel, by decide⟩
theorem iv_X12_placements : Cond.instanceMethod yX12_placements ∈ UT ∧ Cond.selects (yX12_placements).cls yX12_placements yX12_placements ∈ UT := ⟨uw_7_1, ut_s (q := (yX12_placements, 64)) (List.mem_append_right _ (List.mem_append_right _ (List.mem_append_right _ (List.mem_append_left _ (List.mem_of_getElem? (i := 4) rfl))))) rfl⟩
theorem ck_X12_placedBy : ckC yX12_placedBy cX12_placedBy 6 (some .int) 2 := ⟨⟨uw_1_17, uw_7_10⟩, by decide +kernel, by decide +kernel, by decide⟩
theorem iv_X12_placedBy : Cond.instanceMethod yX12_placedBy ∈ UT ∧ Cond.selects (yX12_placedBy).cls yX12_placedBy yX12_placedBy ∈ UT := ⟨uw_7_9, ut_s (q := (yX12_placedBy, 64)) (List.mem_append_right _ (List.mem_append_right _ (List.mem_append_right _ (List.mem_append_left _ (List.mem_of_getElem? (i := 6) rfl))))) rfl⟩
theorem ck_X12_isUnder : ckC yX12_isUnder cX12_isUnder 4 (some .boolean) 2 := ⟨⟨uw_1_17, uw_8_189⟩, by decide +kernel, by decide +kernel, by decide⟩
theorem iv_X12_isUnder : Cond.instanceMethod yX12_isUnder ∈ UT ∧ Cond.selects (yX12_isUnder).cls yX12_isUnder yX12_isUnder ∈ UT := ⟨uw_8_188, ut_s (q := (yX12_isUnder, 64)) (List.mem_append_right _ (List.mem_append_right _ (List.mem_append_right _ (List.mem_append_right _ (List.mem_append_right _ (List.mem_append_left _ (List.mem_of_getElem? (i := 9) rfl))))))) rfl⟩
theorem ck_X12_normOf : ckC yX12_normOf cX12_normOf 5 (some .int) 1 := ⟨⟨uw_1_17, uw_8_197⟩, by decide +kernel, by decide +kernel, by decide⟩
theorem iv_X12_normOf : Cond.instanceMethod yX12_normOf ∈ UT ∧ Cond.selects (yX12_normOf).cls yX12_normOf yX12_normOf ∈ UT := ⟨uw_8_196, ut_s (q := (yX12_normOf, 64)) (List.mem_append_right _ (List.mem_append_right _ (List.mem_append_right _ (List.mem_append_right _ (List.mem_append_right _ (List.mem_append_left _ (List.mem_of_getElem? (i := 10) rfl))))))) rfl⟩
theorem ck_X12_areOne : ckC yX12_areOne cX12_areOne 3 (some .boolean) 2 := ⟨⟨uw_1_17, uw_8_213⟩, by decide +kernel, by decide +kernel, by decide⟩
theorem iv_X12_areOne : Cond.instanceMethod yX12_areOne ∈ UT ∧ Cond.selects (yX12_areOne).cls yX12_areOne yX12_areOne ∈ UT := ⟨uw_8_212, ut_s (q := (yX12_areOne, 64)) (List.mem_append_right _ (List.mem_append_right _ (List.mem_append_right _ (List.mem_append_right _ (List.mem_append_right _ (List.mem_append_left _ (List.mem_of_getElem? (i := 11) rfl))))))) rfl⟩
theorem ck_X12_stocks : ckC yX12_stocks cX12_stocks 1 (some .int) 0 := ⟨⟨uw_1_17, uw_8_129⟩, by decide +kernel, by decide +kernel, by decide⟩
theorem iv_X12_stocks : Cond.instanceMethod yX12_stocks ∈ UT ∧ Cond.selects (yX12_stocks).cls yX12_stocks yX12_stocks ∈ UT := ⟨uw_8_128, ut_s (q := (yX12_stocks, 64)) (List.mem_append_right _ (List.mem_append_right _ (List.mem_append_right _ (List.mem_append_right _ (List.mem_append_right _ (List.mem_append_left _ (List.mem_of_getElem? (i := 2) rfl))))))) rfl⟩
theorem ck_X12_tools : ckC yX12_tools cX12_tools 1 (some .int) 0 := ⟨⟨uw_1_17, uw_6_238⟩, by decide +kernel, by decide +kernel, by decide⟩
theorem iv_X12_tools : Cond.instanceMethod yX12_tools ∈ UT ∧ Cond.selects (yX12_tools).cls yX12_tools yX12_tools ∈ UT := ⟨uw_6_237, ut_s (q := (yX12_tools, 64)) (List.mem_append_right _ (List.mem_append_right _ (List.mem_append_right _ (List.mem_append_left _ (List.mem_of_getElem? (i := 3) rfl))))) rfl⟩
theorem ck_X12_cattle : ckC yX12_cattle cX12_cattle 1 (some .int) 0 := ⟨⟨uw_1_17, uw_6_215⟩, by decide +kernel, by decide +kernel, by decide⟩
theorem iv_X12_cattle : Cond.instanceMethod yX12_cattle ∈ UT ∧ Cond.selects (yX12_cattle).cls yX12_cattle yX12_cattle ∈ UT := ⟨uw_6_214, ut_s (q := (yX12_cattle, 64)) (List.mem_append_right _ (List.mem_append_right _ (List.mem_append_left _ (List.mem_of_getElem? (i := 14) rfl)))) rfl⟩
theorem ck_X12_isHerd : ckC yX12_isHerd cX12_isHerd 2 (some .boolean) 1 := ⟨⟨uw_1_17, uw_8_125⟩, by decide +kernel, by decide +kernel, by decide⟩
theorem iv_X12_isHerd : Cond.instanceMethod yX12_isHerd ∈ UT ∧ Cond.selects (yX12_isHerd).cls yX12_isHerd yX12_isHerd ∈ UT := ⟨uw_8_124, ut_s (q := (yX12_isHerd, 64)) (List.mem_append_right _ (List.mem_append_right _ (List.mem_append_right _ (List.mem_append_right _ (List.mem_append_right _ (List.mem_append_left _ (List.mem_of_getElem? (i := 1) rfl))))))) rfl⟩
theorem ck_X12_isIron : ckC yX12_isIron cX12_isIron 2 (some .boolean) 1 := ⟨⟨uw_1_17, uw_8_140⟩, by decide +kernel, by decide +kernel, by decide⟩
theorem iv_X12_isIron : Cond.instanceMethod yX12_isIron ∈ UT ∧ Cond.selects (yX12_isIron).cls yX12_isIron yX12_isIron ∈ UT := ⟨uw_8_139, ut_s (q := (yX12_isIron, 64)) (List.mem_append_right _ (List.mem_append_right _ (List.mem_append_right _ (List.mem_append_right _ (List.mem_append_right _ (List.mem_append_left _ (List.mem_of_getElem? (i := 3) rfl))))))) rfl⟩
theorem ck_X12_isBeast : ckC yX12_isBeast cX12_isBeast 2 (some .boolean) 1 := ⟨⟨uw_1_17, uw_8_148⟩, by decide +kernel, by decide +kernel, by decide⟩
theorem iv_X12_isBeast : Cond.instanceMethod yX12_isBeast ∈ UT ∧ Cond.selects (yX12_isBeast).cls yX12_isBeast yX12_isBeast ∈ UT := ⟨uw_8_147, ut_s (q := (yX12_isBeast, 64)) (List.mem_append_right _ (List.mem_append_right _ (List.mem_append_right _ (List.mem_append_right _ (List.mem_append_right _ (List.mem_append_left _ (List.mem_of_getElem? (i := 4) rfl))))))) rfl⟩
theorem ck_X12_brandOf : ckC yX12_brandOf cX12_brandOf 2 (some .int) 1 := ⟨⟨uw_1_17, uw_6_223⟩, by decide +kernel, by decide +kernel, by decide⟩
theorem iv_X12_brandOf : Cond.instanceMethod yX12_brandOf ∈ UT ∧ Cond.selects (yX12_brandOf).cls yX12_brandOf yX12_brandOf ∈ UT := ⟨uw_6_222, ut_s (q := (yX12_brandOf, 64)) (List.mem_append_right _ (List.mem_append_right _ (List.mem_append_right _ (List.mem_append_left _ (List.mem_of_getElem? (i := 0) rfl))))) rfl⟩
theorem ck_X12_ironOf : ckC yX12_ironOf cX12_ironOf 2 (some .int) 1 := ⟨⟨uw_1_17, uw_7_6⟩, by decide +kernel, by decide +kernel, by decide⟩
theorem iv_X12_ironOf : Cond.instanceMethod yX12_ironOf ∈ UT ∧ Cond.selects (yX12_ironOf).cls yX12_ironOf yX12_ironOf ∈ UT := ⟨uw_7_5, ut_s (q := (yX12_ironOf, 64)) (List.mem_append_right _ (List.mem_append_right _ (List.mem_append_right _ (List.mem_append_left _ (List.mem_of_getElem? (i := 5) rfl))))) rfl⟩
theorem ck_X12_firstHerd : ckC yX12_firstHerd cX12_firstHerd 2 (some .int) 1 := ⟨⟨uw_1_17, uw_6_219⟩, by decide +kernel, by decide +kernel, by decide⟩
theorem iv_X12_firstHerd : Cond.instanceMethod yX12_firstHerd ∈ UT ∧ Cond.selects (yX12_firstHerd).cls yX12_firstHerd yX12_firstHerd ∈ UT := ⟨uw_6_218, ut_s (q := (yX12_firstHerd, 64)) (List.mem_append_right _ (List.mem_append_right _ (List.mem_append_left _ (List.mem_of_getElem? (i := 15) rfl)))) rfl⟩
theorem ck_X12_slot : ckC yX12_slot cX12_slot 3 (some .int) 2 := ⟨⟨uw_1_17, uw_6_227⟩, by decide +kernel, by decide +kernel, by decide⟩
theorem iv_X12_slot : Cond.instanceMethod yX12_slot ∈ UT ∧ Cond.selects (yX12_slot).cls yX12_slot yX12_slot ∈ UT := ⟨uw_6_226, ut_s (q := (yX12_slot, 64)) (List.mem_append_right _ (List.mem_append_right _ (List.mem_append_right _ (List.mem_append_left _ (List.mem_of_getElem? (i := 1) rfl))))) rfl⟩
theorem ck_X12_startAnew : ckC yX12_startAnew cX12_startAnew 3 none 0 := ⟨⟨uw_1_17, uw_6_211⟩, by decide +kernel, by decide +kernel, by decide⟩
theorem iv_X12_startAnew : Cond.instanceMethod yX12_startAnew ∈ UT ∧ Cond.selects (yX12_startAnew).cls yX12_startAnew yX12_startAnew ∈ UT := ⟨uw_6_210, ut_s (q := (yX12_startAnew, 64)) (List.mem_append_right _ (List.mem_append_right _ (List.mem_append_left _ (List.mem_of_getElem? (i := 13) rfl)))) rfl⟩
theorem ck_X12_layPlaced : ckC yX12_layPlaced cX12_layPlaced 2 none 0 := ⟨⟨uw_1_17, uw_6_234⟩, by decide +kernel, by decide +kernel, by decide⟩
theorem iv_X12_layPlaced : Cond.instanceMethod yX12_layPlaced ∈ UT ∧ Cond.selects (yX12_layPlaced).cls yX12_layPlaced yX12_layPlaced ∈ UT := ⟨uw_6_233, ut_s (q := (yX12_layPlaced, 64)) (List.mem_append_right _ (List.mem_append_right _ (List.mem_append_right _ (List.mem_append_left _ (List.mem_of_getElem? (i := 2) rfl))))) rfl⟩
theorem ck_X12_doesShow : ckC yX12_doesShow cX12_doesShow 5 (some .boolean) 4 := ⟨⟨uw_1_17, uw_8_156⟩, by decide +kernel, by decide +kernel, by decide⟩
theorem iv_X12_doesShow : Cond.instanceMethod yX12_doesShow ∈ UT ∧ Cond.selects (yX12_doesShow).cls yX12_doesShow yX12_doesShow ∈ UT := ⟨uw_8_155, ut_s (q := (yX12_doesShow, 64)) (List.mem_append_right _ (List.mem_append_right _ (List.mem_append_right _ (List.mem_append_right _ (List.mem_append_right _ (List.mem_append_left _ (List.mem_of_getElem? (i := 6) rfl))))))) rfl⟩
theorem ck_X12_shownOf : ckC yX12_shownOf cX12_shownOf 4 (some .int) 1 := ⟨⟨uw_1_17, uw_8_152⟩, by decide +kernel, by decide +kernel, by decide⟩
theorem iv_X12_shownOf : Cond.instanceMethod yX12_shownOf ∈ UT ∧ Cond.selects (yX12_shownOf).cls yX12_shownOf yX12_shownOf ∈ UT := ⟨uw_8_151, ut_s (q := (yX12_shownOf, 64)) (List.mem_append_right _ (List.mem_append_right _ (List.mem_append_right _ (List.mem_append_right _ (List.mem_append_right _ (List.mem_append_left _ (List.mem_of_getElem? (i := 5) rfl))))))) rfl⟩
theorem ck_X12_brand : ckC yX12_brand cX12_brand 2 (some .int) 1 := ⟨⟨uw_1_17, uw_8_121⟩, by decide +kernel, by decide +kernel, by decide⟩
theorem uw_8_120 : (Jvm.Cond.selects "HideReaderModel" ({ cls := "HideReaderModel", name := "brand", desc := "(I)I" } : Jvm.MethodName) ({ cls := "HideReaderModel", name := "brand", desc := "(I)I" } : Jvm.MethodName)) ∈ UT := ut_t (tm_8 (List.mem_of_getElem? (i := 120) rfl)) rfl
theorem iv_X12_brand : Cond.instanceMethod yX12_brand ∈ UT ∧ Cond.selects (yX12_brand).cls yX12_brand yX12_brand ∈ UT := ⟨uw_8_119, uw_8_120⟩
theorem ck_X12_iron : ckC yX12_iron cX12_iron 2 (some .int) 1 := ⟨⟨uw_1_17, uw_8_136⟩, by decide +kernel, by decide +kernel, by decide⟩
theorem uw_8_135 : (Jvm.Cond.selects "HideReaderModel" ({ cls := "HideReaderModel", name := "iron", desc := "(I)I" } : Jvm.MethodName) ({ cls := "HideReaderModel", name := "iron", desc := "(I)I" } : Jvm.MethodName)) ∈ UT := ut_t (tm_8 (List.mem_of_getElem? (i := 135) rfl)) rfl
theorem iv_X12_iron : Cond.instanceMethod yX12_iron ∈ UT ∧ Cond.selects (yX12_iron).cls yX12_iron yX12_iron ∈ UT := ⟨uw_8_134, uw_8_135⟩
theorem ck_X12_beast : ckC yX12_beast cX12_beast 3 (some .int) 2 := ⟨⟨uw_1_17, uw_8_144⟩, by decide +kernel, by decide +kernel, by decide⟩
theorem uw_8_143 : (Jvm.Cond.selects "HideReaderModel" ({ cls := "HideReaderModel", name := "beast", desc := "(II)I" } : Jvm.MethodName) ({ cls := "HideReaderModel", name := "beast", desc := "(II)I" } : Jvm.MethodName)) ∈ UT := ut_t (tm_8 (List.mem_of_getElem? (i := 143) rfl)) rfl
theorem iv_X12_beast : Cond.instanceMethod yX12_beast ∈ UT ∧ Cond.selects (yX12_beast).cls yX12_beast yX12_beast ∈ UT := ⟨uw_8_142, uw_8_143⟩
theorem ck_X12_age : ckC yX12_age cX12_age 3 (some .int) 2 := ⟨⟨uw_1_17, uw_8_174⟩, by decide +kernel, by decide +kernel, by decide⟩
theorem uw_8_173 : (Jvm.Cond.selects "HideReaderModel" ({ cls := "HideReaderModel", name := "age", desc := "(II)I" } : Jvm.MethodName) ({ cls := "HideReaderModel", name := "age", desc := "(II)I" } : Jvm.MethodName)) ∈ UT := ut_t (tm_8 (List.mem_of_getElem? (i := 173) rfl)) rfl
theorem iv_X12_age : Cond.instanceMethod yX12_age ∈ UT ∧ Cond.selects (yX12_age).cls yX12_age yX12_age ∈ UT := ⟨uw_8_172, uw_8_173⟩
theorem ck_X12_placed : ckC yX12_placed cX12_placed 3 (some .int) 2 := ⟨⟨uw_1_17, uw_8_178⟩, by decide +kernel, by decide +kernel, by decide⟩
theorem uw_8_177 : (Jvm.Cond.selects "HideReaderModel" ({ cls := "HideReaderModel", name := "placed", desc := "(II)I" } : Jvm.MethodName) ({ cls := "HideReaderModel", name := "placed", desc := "(II)I" } : Jvm.MethodName)) ∈ UT := ut_t (tm_8 (List.mem_of_getElem? (i := 177) rfl)) rfl
theorem iv_X12_placed : Cond.instanceMethod yX12_placed ∈ UT ∧ Cond.selects (yX12_placed).cls yX12_placed yX12_placed ∈ UT := ⟨uw_8_176, uw_8_177⟩
theorem ck_X12_under : ckC yX12_under cX12_under 3 (some .int) 2 := ⟨⟨uw_1_17, uw_8_185⟩, by decide +kernel, by decide +kernel, by decide⟩
theorem uw_8_184 : (Jvm.Cond.selects "HideReaderModel" ({ cls := "HideReaderModel", name := "under", desc := "(II)I" } : Jvm.MethodName) ({ cls := "HideReaderModel", name := "under", desc := "(II)I" } : Jvm.MethodName)) ∈ UT := ut_t (tm_8 (List.mem_of_getElem? (i := 184) rfl)) rfl
theorem iv_X12_under : Cond.instanceMethod yX12_under ∈ UT ∧ Cond.selects (yX12_under).cls yX12_under yX12_under ∈ UT := ⟨uw_8_183, uw_8_184⟩
theorem ck_X12_norm : ckC yX12_norm cX12_norm 2 (some .int) 1 := ⟨⟨uw_1_17, uw_8_193⟩, by decide +kernel, by decide +kernel, by decide⟩
theorem uw_8_192 : (Jvm.Cond.selects "HideReaderModel" ({ cls := "HideReaderModel", name := "norm", desc := "(I)I" } : Jvm.MethodName) ({ cls := "HideReaderModel", name := "norm", desc := "(I)I" } : Jvm.MethodName)) ∈ UT := ut_t (tm_8 (List.mem_of_getElem? (i := 192) rfl)) rfl
theorem iv_X12_norm : Cond.instanceMethod yX12_norm ∈ UT ∧ Cond.selects (yX12_norm).cls yX12_norm yX12_norm ∈ UT := ⟨uw_8_191, uw_8_192⟩
theorem ck_X12_faces : ckC yX12_faces cX12_faces 6 (some .int) 1 := ⟨⟨uw_1_17, uw_8_201⟩, by decide +kernel, by decide +kernel, by decide⟩
theorem uw_8_200 : (Jvm.Cond.selects "HideReaderModel" ({ cls := "HideReaderModel", name := "faces", desc := "(I)I" } : Jvm.MethodName) ({ cls := "HideReaderModel", name := "faces", desc := "(I)I" } : Jvm.MethodName)) ∈ UT := ut_t (tm_8 (List.mem_of_getElem? (i := 200) rfl)) rfl
theorem iv_X12_faces : Cond.instanceMethod yX12_faces ∈ UT ∧ Cond.selects (yX12_faces).cls yX12_faces yX12_faces ∈ UT := ⟨uw_8_199, uw_8_200⟩
theorem ck_X12_oldest : ckC yX12_oldest cX12_oldest 4 (some .int) 1 := ⟨⟨uw_1_17, uw_8_205⟩, by decide +kernel, by decide +kernel, by decide⟩
theorem uw_8_204 : (Jvm.Cond.selects "HideReaderModel" ({ cls := "HideReaderModel", name := "oldest", desc := "(I)I" } : Jvm.MethodName) ({ cls := "HideReaderModel", name := "oldest", desc := "(I)I" } : Jvm.MethodName)) ∈ UT := ut_t (tm_8 (List.mem_of_getElem? (i := 204) rfl)) rfl
theorem iv_X12_oldest : Cond.instanceMethod yX12_oldest ∈ UT ∧ Cond.selects (yX12_oldest).cls yX12_oldest yX12_oldest ∈ UT := ⟨uw_8_203, uw_8_204⟩
theorem ck_X12_strays : ckC yX12_strays cX12_strays 3 (some .int) 0 := ⟨⟨uw_1_17, uw_8_209⟩, by decide +kernel, by decide +kernel, by decide⟩
theorem uw_8_208 : (Jvm.Cond.selects "HideReaderModel" ({ cls := "HideReaderModel", name := "strays", desc := "()I" } : Jvm.MethodName) ({ cls := "HideReaderModel", name := "strays", desc := "()I" } : Jvm.MethodName)) ∈ UT := ut_t (tm_8 (List.mem_of_getElem? (i := 208) rfl)) rfl
theorem iv_X12_strays : Cond.instanceMethod yX12_strays ∈ UT ∧ Cond.selects (yX12_strays).cls yX12_strays yX12_strays ∈ UT := ⟨uw_8_207, uw_8_208⟩
theorem ck_X12_untouched : ckC yX12_untouched cX12_untouched 3 (some .int) 0 := ⟨⟨uw_1_17, uw_8_217⟩, by decide +kernel, by decide +kernel, by decide⟩
theorem uw_8_216 : (Jvm.Cond.selects "HideReaderModel" ({ cls := "HideReaderModel", name := "untouched", desc := "()I" } : Jvm.MethodName) ({ cls := "HideReaderModel", name := "untouched", desc := "()I" } : Jvm.MethodName)) ∈ UT := ut_t (tm_8 (List.mem_of_getElem? (i := 216) rfl)) rfl
theorem iv_X12_untouched : Cond.instanceMethod yX12_untouched ∈ UT ∧ Cond.selects (yX12_untouched).cls yX12_untouched yX12_untouched ∈ UT := ⟨uw_8_215, uw_8_216⟩
theorem ck_X12_tells : ckC yX12_tells cX12_tells 6 (some .int) 0 := ⟨⟨uw_1_17, uw_8_221⟩, by decide +kernel, by decide +kernel, by decide⟩
theorem uw_8_220 : (Jvm.Cond.selects "HideReaderModel" ({ cls := "HideReaderModel", name := "tells", desc := "()I" } : Jvm.MethodName) ({ cls := "HideReaderModel", name := "tells", desc := "()I" } : Jvm.MethodName)) ∈ UT := ut_t (tm_8 (List.mem_of_getElem? (i := 220) rfl)) rfl
theorem iv_X12_tells : Cond.instanceMethod yX12_tells ∈ UT ∧ Cond.selects (yX12_tells).cls yX12_tells yX12_tells ∈ UT := ⟨uw_8_219, uw_8_220⟩
theorem ck_X12_shownAt : ckC yX12_shownAt cX12_shownAt 7 (some .int) 2 := ⟨⟨uw_1_17, uw_8_229⟩, by decide +kernel, by decide +kernel, by decide⟩
theorem iv_X12_shownAt : Cond.instanceMethod yX12_shownAt ∈ UT ∧ Cond.selects (yX12_shownAt).cls yX12_shownAt yX12_shownAt ∈ UT := ⟨uw_8_228, ut_s (q := (yX12_shownAt, 64)) (List.mem_append_right _ (List.mem_append_right _ (List.mem_append_right _ (List.mem_append_right _ (List.mem_append_right _ (List.mem_append_left _ (List.mem_of_getElem? (i := 12) rfl))))))) rfl⟩
theorem ck_X12_will : ckC yX12_will cX12_will 2 (some .int) 1 := ⟨⟨uw_1_17, uw_8_225⟩, by decide +kernel, by decide +kernel, by decide⟩
theorem uw_8_224 : (Jvm.Cond.selects "HideReaderModel" ({ cls := "HideReaderModel", name := "will", desc := "(I)I" } : Jvm.MethodName) ({ cls := "HideReaderModel", name := "will", desc := "(I)I" } : Jvm.MethodName)) ∈ UT := ut_t (tm_8 (List.mem_of_getElem? (i := 224) rfl)) rfl
theorem iv_X12_will : Cond.instanceMethod yX12_will ∈ UT ∧ Cond.selects (yX12_will).cls yX12_will yX12_will ∈ UT := ⟨uw_8_223, uw_8_224⟩
theorem ck_X12_law : ckC yX12_law cX12_law 2 (some .int) 1 := ⟨⟨uw_1_17, uw_8_233⟩, by decide +kernel, by decide +kernel, by decide⟩
theorem uw_8_232 : (Jvm.Cond.selects "HideReaderModel" ({ cls := "HideReaderModel", name := "law", desc := "(I)I" } : Jvm.MethodName) ({ cls := "HideReaderModel", name := "law", desc := "(I)I" } : Jvm.MethodName)) ∈ UT := ut_t (tm_8 (List.mem_of_getElem? (i := 232) rfl)) rfl
theorem iv_X12_law : Cond.instanceMethod yX12_law ∈ UT ∧ Cond.selects (yX12_law).cls yX12_law yX12_law ∈ UT := ⟨uw_8_231, uw_8_232⟩
theorem ck_X12_keepAct : ckC yX12_keepAct cX12_keepAct 2 none 0 := ⟨⟨uw_1_17, uw_9_1⟩, by decide +kernel, by decide +kernel, by decide⟩
theorem iv_X12_keepAct : Cond.instanceMethod yX12_keepAct ∈ UT ∧ Cond.selects (yX12_keepAct).cls yX12_keepAct yX12_keepAct ∈ UT := ⟨uw_9_0, ut_s (q := (yX12_keepAct, 64)) (List.mem_append_right _ (List.mem_append_right _ (List.mem_append_right _ (List.mem_append_right _ (List.mem_append_right _ (List.mem_append_left _ (List.mem_of_getElem? (i := 13) rfl))))))) rfl⟩
theorem ck_X12_swapAll : ckC yX12_swapAll cX12_swapAll 3 none 0 := ⟨⟨uw_1_17, uw_9_25⟩, by decide +kernel, by decide +kernel, by decide⟩
theorem iv_X12_swapAll : Cond.instanceMethod yX12_swapAll ∈ UT ∧ Cond.selects (yX12_swapAll).cls yX12_swapAll yX12_swapAll ∈ UT := ⟨uw_9_24, ut_s (q := (yX12_swapAll, 64)) (List.mem_append_right _ (List.mem_append_right _ (List.mem_append_right _ (List.mem_append_right _ (List.mem_append_right _ (List.mem_append_left _ (List.mem_of_getElem? (i := 15) rfl))))))) rfl⟩
theorem ck_X12_burnIn : ckC yX12_burnIn cX12_burnIn 5 (some .int) 2 := ⟨⟨uw_1_17, uw_9_5⟩, by decide +kernel, by decide +kernel, by decide⟩
theorem iv_X12_burnIn : Cond.instanceMethod yX12_burnIn ∈ UT ∧ Cond.selects (yX12_burnIn).cls yX12_burnIn yX12_burnIn ∈ UT := ⟨uw_9_4, ut_s (q := (yX12_burnIn, 64)) (List.mem_append_right _ (List.mem_append_right _ (List.mem_append_right _ (List.mem_append_right _ (List.mem_append_right _ (List.mem_append_left _ (List.mem_of_getElem? (i := 14) rfl))))))) rfl⟩
theorem ck_X12_season : ckC yX12_season cX12_season 4 (some .int) 0 := ⟨⟨uw_1_17, uw_8_237⟩, by decide +kernel, by decide +kernel, by decide⟩
theorem uw_8_236 : (Jvm.Cond.selects "HideReaderModel" ({ cls := "HideReaderModel", name := "season", desc := "()I" } : Jvm.MethodName) ({ cls := "HideReaderModel", name := "season", desc := "()I" } : Jvm.MethodName)) ∈ UT := ut_t (tm_8 (List.mem_of_getElem? (i := 236) rfl)) rfl
theorem iv_X12_season : Cond.instanceMethod yX12_season ∈ UT ∧ Cond.selects (yX12_season).cls yX12_season yX12_season ∈ UT := ⟨uw_8_235, uw_8_236⟩
theorem ck_X12_burn : ckC yX12_burn cX12_burn 4 (some .int) 3 := ⟨⟨uw_1_17, uw_9_9⟩, by decide +kernel, by decide +kernel, by decide⟩
theorem uw_9_8 : (Jvm.Cond.selects "HideReaderModel" ({ cls := "HideReaderModel", name := "burn", desc := "(III)I" } : Jvm.MethodName) ({ cls := "HideReaderModel", name := "burn", desc := "(III)I" } : Jvm.MethodName)) ∈ UT := ut_t (tm_9 (List.mem_of_getElem? (i := 8) rfl)) rfl
theorem iv_X12_burn : Cond.instanceMethod yX12_burn ∈ UT ∧ Cond.selects (yX12_burn).cls yX12_burn yX12_burn ∈ UT := ⟨uw_9_7, uw_9_8⟩
theorem ck_X12_sell : ckC yX12_sell cX12_sell 4 (some .int) 2 := ⟨⟨uw_1_17, uw_9_13⟩, by decide +kernel, by decide +kernel, by decide⟩
theorem uw_9_12 : (Jvm.Cond.selects "HideReaderModel" ({ cls := "HideReaderModel", name := "sell", desc := "(II)I" } : Jvm.MethodName) ({ cls := "HideReaderModel", name := "sell", desc := "(II)I" } : Jvm.MethodName)) ∈ UT := ut_t (tm_9 (List.mem_of_getElem? (i := 12) rfl)) rfl
theorem iv_X12_sell : Cond.instanceMethod yX12_sell ∈ UT ∧ Cond.selects (yX12_sell).cls yX12_sell yX12_sell ∈ UT := ⟨uw_9_11, uw_9_12⟩
theorem ck_X12_clean : ckC yX12_clean cX12_clean 5 (some .int) 1 := ⟨⟨uw_1_17, uw_9_17⟩, by decide +kernel, by decide +kernel, by decide⟩
theorem uw_9_16 : (Jvm.Cond.selects "HideReaderModel" ({ cls := "HideReaderModel", name := "clean", desc := "(I)I" } : Jvm.MethodName) ({ cls := "HideReaderModel", name := "clean", desc := "(I)I" } : Jvm.MethodName)) ∈ UT := ut_t (tm_9 (List.mem_of_getElem? (i := 16) rfl)) rfl
theorem iv_X12_clean : Cond.instanceMethod yX12_clean ∈ UT ∧ Cond.selects (yX12_clean).cls yX12_clean yX12_clean ∈ UT := ⟨uw_9_15, uw_9_16⟩
theorem ck_X12_undo : ckC yX12_undo cX12_undo 1 (some .boolean) 0 := ⟨⟨uw_1_17, uw_9_21⟩, by decide +kernel, by decide +kernel, by decide⟩
theorem uw_9_20 : (Jvm.Cond.selects "HideReaderModel" ({ cls := "HideReaderModel", name := "undo", desc := "()Z" } : Jvm.MethodName) ({ cls := "HideReaderModel", name := "undo", desc := "()Z" } : Jvm.MethodName)) ∈ UT := ut_t (tm_9 (List.mem_of_getElem? (i := 20) rfl)) rfl
theorem iv_X12_undo : Cond.instanceMethod yX12_undo ∈ UT ∧ Cond.selects (yX12_undo).cls yX12_undo yX12_undo ∈ UT := ⟨uw_9_19, uw_9_20⟩
theorem ck_X12_redo : ckC yX12_redo cX12_redo 1 (some .boolean) 0 := ⟨⟨uw_1_17, uw_9_29⟩, by decide +kernel, by decide +kernel, by decide⟩
theorem uw_9_28 : (Jvm.Cond.selects "HideReaderModel" ({ cls := "HideReaderModel", name := "redo", desc := "()Z" } : Jvm.MethodName) ({ cls := "HideReaderModel", name := "redo", desc := "()Z" } : Jvm.MethodName)) ∈ UT := ut_t (tm_9 (List.mem_of_getElem? (i := 28) rfl)) rfl
theorem iv_X12_redo : Cond.instanceMethod yX12_redo ∈ UT ∧ Cond.selects (yX12_redo).cls yX12_redo yX12_redo ∈ UT := ⟨uw_9_27, uw_9_28⟩
theorem ck_X12_lies : ckC yX12_lies cX12_lies 2 (some .int) 1 := ⟨⟨uw_1_17, uw_9_33⟩, by decide +kernel, by decide +kernel, by decide⟩
theorem uw_9_32 : (Jvm.Cond.selects "HideReaderModel" ({ cls := "HideReaderModel", name := "lies", desc := "(I)I" } : Jvm.MethodName) ({ cls := "HideReaderModel", name := "lies", desc := "(I)I" } : Jvm.MethodName)) ∈ UT := ut_t (tm_9 (List.mem_of_getElem? (i := 32) rfl)) rfl
theorem iv_X12_lies : Cond.instanceMethod yX12_lies ∈ UT ∧ Cond.selects (yX12_lies).cls yX12_lies yX12_lies ∈ UT := ⟨uw_9_31, uw_9_32⟩
theorem ck_X12_layNeed : ckC yX12_layNeed cX12_layNeed 6 none 1 := ⟨⟨uw_1_17, uw_9_41⟩, by decide +kernel, by decide +kernel, by decide⟩
theorem iv_X12_layNeed : Cond.instanceMethod yX12_layNeed ∈ UT ∧ Cond.selects (yX12_layNeed).cls yX12_layNeed yX12_layNeed ∈ UT := ⟨uw_9_40, ut_s (q := (yX12_layNeed, 64)) (List.mem_append_right _ (List.mem_append_right _ (List.mem_append_right _ (List.mem_append_right _ (List.mem_append_right _ (List.mem_append_right _ (List.mem_of_getElem? (i := 0) rfl))))))) rfl⟩
theorem ck_X12_canMake : ckC yX12_canMake cX12_canMake 2 (some .boolean) 1 := ⟨⟨uw_1_17, uw_9_45⟩, by decide +kernel, by decide +kernel, by decide⟩
theorem iv_X12_canMake : Cond.instanceMethod yX12_canMake ∈ UT ∧ Cond.selects (yX12_canMake).cls yX12_canMake yX12_canMake ∈ UT := ⟨uw_9_44, ut_s (q := (yX12_canMake, 64)) (List.mem_append_right _ (List.mem_append_right _ (List.mem_append_right _ (List.mem_append_right _ (List.mem_append_right _ (List.mem_append_right _ (List.mem_of_getElem? (i := 1) rfl))))))) rfl⟩
theorem ck_X12_make : ckC yX12_make cX12_make 3 (some .int) 2 := ⟨⟨uw_1_17, uw_9_37⟩, by decide +kernel, by decide +kernel, by decide⟩
theorem uw_9_36 : (Jvm.Cond.selects "HideReaderModel" ({ cls := "HideReaderModel", name := "make", desc := "(II)I" } : Jvm.MethodName) ({ cls := "HideReaderModel", name := "make", desc := "(II)I" } : Jvm.MethodName)) ∈ UT := ut_t (tm_9 (List.mem_of_getElem? (i := 36) rfl)) rfl
theorem iv_X12_make : Cond.instanceMethod yX12_make ∈ UT ∧ Cond.selects (yX12_make).cls yX12_make yX12_make ∈ UT := ⟨uw_9_35, uw_9_36⟩
theorem ck_X12_forge : ckC yX12_forge cX12_forge 6 (some .int) 2 := ⟨⟨uw_1_17, uw_9_49⟩, by decide +kernel, by decide +kernel, by decide⟩
theorem uw_9_48 : (Jvm.Cond.selects "HideReaderModel" ({ cls := "HideReaderModel", name := "forge", desc := "(II)I" } : Jvm.MethodName) ({ cls := "HideReaderModel", name := "forge", desc := "(II)I" } : Jvm.MethodName)) ∈ UT := ut_t (tm_9 (List.mem_of_getElem? (i := 48) rfl)) rfl
theorem iv_X12_forge : Cond.instanceMethod yX12_forge ∈ UT ∧ Cond.selects (yX12_forge).cls yX12_forge yX12_forge ∈ UT := ⟨uw_9_47, uw_9_48⟩
theorem ck_X12_origins : ckC yX12_origins cX12_origins 4 (some .int) 1 := ⟨⟨uw_1_17, uw_9_53⟩, by decide +kernel, by decide +kernel, by decide⟩
theorem uw_9_52 : (Jvm.Cond.selects "HideReaderModel" ({ cls := "HideReaderModel", name := "origins", desc := "(I)I" } : Jvm.MethodName) ({ cls := "HideReaderModel", name := "origins", desc := "(I)I" } : Jvm.MethodName)) ∈ UT := ut_t (tm_9 (List.mem_of_getElem? (i := 52) rfl)) rfl
theorem iv_X12_origins : Cond.instanceMethod yX12_origins ∈ UT ∧ Cond.selects (yX12_origins).cls yX12_origins yX12_origins ∈ UT := ⟨uw_9_51, uw_9_52⟩
theorem ck_X12_claim : ckC yX12_claim cX12_claim 4 (some .int) 1 := ⟨⟨uw_1_17, uw_9_57⟩, by decide +kernel, by decide +kernel, by decide⟩
theorem uw_9_56 : (Jvm.Cond.selects "HideReaderModel" ({ cls := "HideReaderModel", name := "claim", desc := "(I)I" } : Jvm.MethodName) ({ cls := "HideReaderModel", name := "claim", desc := "(I)I" } : Jvm.MethodName)) ∈ UT := ut_t (tm_9 (List.mem_of_getElem? (i := 56) rfl)) rfl
theorem iv_X12_claim : Cond.instanceMethod yX12_claim ∈ UT ∧ Cond.selects (yX12_claim).cls yX12_claim yX12_claim ∈ UT := ⟨uw_9_55, uw_9_56⟩
theorem ck_X12_safe : ckC yX12_safe cX12_safe 4 (some .int) 0 := ⟨⟨uw_1_17, uw_9_61⟩, by decide +kernel, by decide +kernel, by decide⟩
theorem uw_9_60 : (Jvm.Cond.selects "HideReaderModel" ({ cls := "HideReaderModel", name := "safe", desc := "()I" } : Jvm.MethodName) ({ cls := "HideReaderModel", name := "safe", desc := "()I" } : Jvm.MethodName)) ∈ UT := ut_t (tm_9 (List.mem_of_getElem? (i := 60) rfl)) rfl
theorem iv_X12_safe : Cond.instanceMethod yX12_safe ∈ UT ∧ Cond.selects (yX12_safe).cls yX12_safe yX12_safe ∈ UT := ⟨uw_9_59, uw_9_60⟩
theorem ck_X12_king : ckC yX12_king cX12_king 7 (some .int) 1 := ⟨⟨uw_1_17, uw_9_65⟩, by decide +kernel, by decide +kernel, by decide⟩
theorem uw_9_64 : (Jvm.Cond.selects "HideReaderModel" ({ cls := "HideReaderModel", name := "king", desc := "(I)I" } : Jvm.MethodName) ({ cls := "HideReaderModel", name := "king", desc := "(I)I" } : Jvm.MethodName)) ∈ UT := ut_t (tm_9 (List.mem_of_getElem? (i := 64) rfl)) rfl
theorem iv_X12_king : Cond.instanceMethod yX12_king ∈ UT ∧ Cond.selects (yX12_king).cls yX12_king yX12_king ∈ UT := ⟨uw_9_63, uw_9_64⟩
theorem ck_X12_tempt : ckC yX12_tempt cX12_tempt 7 (some .int) 2 := ⟨⟨uw_1_17, uw_9_69⟩, by decide +kernel, by decide +kernel, by decide⟩
theorem uw_9_68 : (Jvm.Cond.selects "HideReaderModel" ({ cls := "HideReaderModel", name := "tempt", desc := "(II)I" } : Jvm.MethodName) ({ cls := "HideReaderModel", name := "tempt", desc := "(II)I" } : Jvm.MethodName)) ∈ UT := ut_t (tm_9 (List.mem_of_getElem? (i := 68) rfl)) rfl
theorem iv_X12_tempt : Cond.instanceMethod yX12_tempt ∈ UT ∧ Cond.selects (yX12_tempt).cls yX12_tempt yX12_tempt ∈ UT := ⟨uw_9_67, uw_9_68⟩
theorem ck_X12_useful : ckC yX12_useful cX12_useful 5 (some .int) 0 := ⟨⟨uw_1_17, uw_9_73⟩, by decide +kernel, by decide +kernel, by decide⟩
theorem uw_9_72 : (Jvm.Cond.selects "HideReaderModel" ({ cls := "HideReaderModel", name := "useful", desc := "()I" } : Jvm.MethodName) ({ cls := "HideReaderModel", name := "useful", desc := "()I" } : Jvm.MethodName)) ∈ UT := ut_t (tm_9 (List.mem_of_getElem? (i := 72) rfl)) rfl
theorem iv_X12_useful : Cond.instanceMethod yX12_useful ∈ UT ∧ Cond.selects (yX12_useful).cls yX12_useful yX12_useful ∈ UT := ⟨uw_9_71, uw_9_72⟩
theorem ck_X12_isBelow : ckC yX12_isBelow cX12_isBelow 3 (some .boolean) 2 := ⟨⟨uw_1_17, uw_9_81⟩, by decide +kernel, by decide +kernel, by decide⟩
theorem iv_X12_isBelow : Cond.instanceMethod yX12_isBelow ∈ UT ∧ Cond.selects (yX12_isBelow).cls yX12_isBelow yX12_isBelow ∈ UT := ⟨uw_9_80, ut_s (q := (yX12_isBelow, 64)) (List.mem_append_right _ (List.mem_append_right _ (List.mem_append_right _ (List.mem_append_right _ (List.mem_append_right _ (List.mem_append_right _ (List.mem_of_getElem? (i := 2) rfl))))))) rfl⟩
theorem ck_X12_chain : ckC yX12_chain cX12_chain 5 (some .int) 0 := ⟨⟨uw_1_17, uw_9_77⟩, by decide +kernel, by decide +kernel, by decide⟩
theorem uw_9_76 : (Jvm.Cond.selects "HideReaderModel" ({ cls := "HideReaderModel", name := "chain", desc := "()I" } : Jvm.MethodName) ({ cls := "HideReaderModel", name := "chain", desc := "()I" } : Jvm.MethodName)) ∈ UT := ut_t (tm_9 (List.mem_of_getElem? (i := 76) rfl)) rfl
theorem iv_X12_chain : Cond.instanceMethod yX12_chain ∈ UT ∧ Cond.selects (yX12_chain).cls yX12_chain yX12_chain ∈ UT := ⟨uw_9_75, uw_9_76⟩
theorem ck_X12_lowest : ckC yX12_lowest cX12_lowest 5 (some .int) 0 := ⟨⟨uw_1_17, uw_9_85⟩, by decide +kernel, by decide +kernel, by decide⟩
theorem uw_9_84 : (Jvm.Cond.selects "HideReaderModel" ({ cls := "HideReaderModel", name := "lowest", desc := "()I" } : Jvm.MethodName) ({ cls := "HideReaderModel", name := "lowest", desc := "()I" } : Jvm.MethodName)) ∈ UT := ut_t (tm_9 (List.mem_of_getElem? (i := 84) rfl)) rfl
theorem iv_X12_lowest : Cond.instanceMethod yX12_lowest ∈ UT ∧ Cond.selects (yX12_lowest).cls yX12_lowest yX12_lowest ∈ UT := ⟨uw_9_83, uw_9_84⟩
theorem ck_X12_highest : ckC yX12_highest cX12_highest 5 (some .int) 0 := ⟨⟨uw_1_17, uw_9_89⟩, by decide +kernel, by decide +kernel, by decide⟩
theorem uw_9_88 : (Jvm.Cond.selects "HideReaderModel" ({ cls := "HideReaderModel", name := "highest", desc := "()I" } : Jvm.MethodName) ({ cls := "HideReaderModel", name := "highest", desc := "()I" } : Jvm.MethodName)) ∈ UT := ut_t (tm_9 (List.mem_of_getElem? (i := 88) rfl)) rfl
theorem iv_X12_highest : Cond.instanceMethod yX12_highest ∈ UT ∧ Cond.selects (yX12_highest).cls yX12_highest yX12_highest ∈ UT := ⟨uw_9_87, uw_9_88⟩
theorem ck_X12_closed : ckC yX12_closed cX12_closed 3 (some .int) 0 := ⟨⟨uw_1_17, uw_9_93⟩, by decide +kernel, by decide +kernel, by decide⟩
theorem uw_9_92 : (Jvm.Cond.selects "HideReaderModel" ({ cls := "HideReaderModel", name := "closed", desc := "()I" } : Jvm.MethodName) ({ cls := "HideReaderModel", name := "closed", desc := "()I" } : Jvm.MethodName)) ∈ UT := ut_t (tm_9 (List.mem_of_getElem? (i := 92) rfl)) rfl
theorem iv_X12_closed : Cond.instanceMethod yX12_closed ∈ UT ∧ Cond.selects (yX12_closed).cls yX12_closed yX12_closed ∈ UT := ⟨uw_9_91, uw_9_92⟩
theorem ck_X12_twins : ckC yX12_twins cX12_twins 4 (some .int) 0 := ⟨⟨uw_1_17, uw_9_97⟩, by decide +kernel, by decide +kernel, by decide⟩
theorem uw_9_96 : (Jvm.Cond.selects "HideReaderModel" ({ cls := "HideReaderModel", name := "twins", desc := "()I" } : Jvm.MethodName) ({ cls := "HideReaderModel", name := "twins", desc := "()I" } : Jvm.MethodName)) ∈ UT := ut_t (tm_9 (List.mem_of_getElem? (i := 96) rfl)) rfl
theorem iv_X12_twins : Cond.instanceMethod yX12_twins ∈ UT ∧ Cond.selects (yX12_twins).cls yX12_twins yX12_twins ∈ UT := ⟨uw_9_95, uw_9_96⟩
theorem ck_X12_differ : ckC yX12_differ cX12_differ 6 (some .int) 2 := ⟨⟨uw_1_17, uw_9_105⟩, by decide +kernel, by decide +kernel, by decide⟩
theorem iv_X12_differ : Cond.instanceMethod yX12_differ ∈ UT ∧ Cond.selects (yX12_differ).cls yX12_differ yX12_differ ∈ UT := ⟨uw_9_104, ut_s (q := (yX12_differ, 64)) (List.mem_append_right _ (List.mem_append_right _ (List.mem_append_right _ (List.mem_append_right _ (List.mem_append_right _ (List.mem_append_right _ (List.mem_of_getElem? (i := 3) rfl))))))) rfl⟩
theorem ck_X12_nearest : ckC yX12_nearest cX12_nearest 5 (some .int) 2 := ⟨⟨uw_1_17, uw_9_101⟩, by decide +kernel, by decide +kernel, by decide⟩
theorem uw_9_100 : (Jvm.Cond.selects "HideReaderModel" ({ cls := "HideReaderModel", name := "nearest", desc := "(II)I" } : Jvm.MethodName) ({ cls := "HideReaderModel", name := "nearest", desc := "(II)I" } : Jvm.MethodName)) ∈ UT := ut_t (tm_9 (List.mem_of_getElem? (i := 100) rfl)) rfl
theorem iv_X12_nearest : Cond.instanceMethod yX12_nearest ∈ UT ∧ Cond.selects (yX12_nearest).cls yX12_nearest yX12_nearest ∈ UT := ⟨uw_9_99, uw_9_100⟩
theorem ck_X12_shared : ckC yX12_shared cX12_shared 6 (some .int) 2 := ⟨⟨uw_1_17, uw_9_109⟩, by decide +kernel, by decide +kernel, by decide⟩
theorem uw_9_108 : (Jvm.Cond.selects "HideReaderModel" ({ cls := "HideReaderModel", name := "shared", desc := "(II)I" } : Jvm.MethodName) ({ cls := "HideReaderModel", name := "shared", desc := "(II)I" } : Jvm.MethodName)) ∈ UT := ut_t (tm_9 (List.mem_of_getElem? (i := 108) rfl)) rfl
theorem iv_X12_shared : Cond.instanceMethod yX12_shared ∈ UT ∧ Cond.selects (yX12_shared).cls yX12_shared yX12_shared ∈ UT := ⟨uw_9_107, uw_9_108⟩
theorem ck_X12_shownBehind : ckC yX12_shownBehind cX12_shownBehind 6 (some .int) 2 := ⟨⟨uw_1_17, uw_9_117⟩, by decide +kernel, by decide +kernel, by decide⟩
theorem iv_X12_shownBehind : Cond.instanceMethod yX12_shownBehind ∈ UT ∧ Cond.selects (yX12_shownBehind).cls yX12_shownBehind yX12_shownBehind ∈ UT := ⟨uw_9_116, ut_s (q := (yX12_shownBehind, 64)) (List.mem_append_right _ (List.mem_append_right _ (List.mem_append_right _ (List.mem_append_right _ (List.mem_append_right _ (List.mem_append_right _ (List.mem_of_getElem? (i := 4) rfl))))))) rfl⟩
theorem ck_X12_fades : ckC yX12_fades cX12_fades 3 (some .int) 1 := ⟨⟨uw_1_17, uw_9_113⟩, by decide +kernel, by decide +kernel, by decide⟩
theorem uw_9_112 : (Jvm.Cond.selects "HideReaderModel" ({ cls := "HideReaderModel", name := "fades", desc := "(I)I" } : Jvm.MethodName) ({ cls := "HideReaderModel", name := "fades", desc := "(I)I" } : Jvm.MethodName)) ∈ UT := ut_t (tm_9 (List.mem_of_getElem? (i := 112) rfl)) rfl
theorem iv_X12_fades : Cond.instanceMethod yX12_fades ∈ UT ∧ Cond.selects (yX12_fades).cls yX12_fades yX12_fades ∈ UT := ⟨uw_9_111, uw_9_112⟩
theorem ck_X12_isFresh : ckC yX12_isFresh cX12_isFresh 3 (some .boolean) 1 := ⟨⟨uw_1_17, uw_9_125⟩, by decide +kernel, by decide +kernel, by decide⟩
theorem iv_X12_isFresh : Cond.instanceMethod yX12_isFresh ∈ UT ∧ Cond.selects (yX12_isFresh).cls yX12_isFresh yX12_isFresh ∈ UT := ⟨uw_9_124, ut_s (q := (yX12_isFresh, 64)) (List.mem_append_right _ (List.mem_append_right _ (List.mem_append_right _ (List.mem_append_right _ (List.mem_append_right _ (List.mem_append_right _ (List.mem_of_getElem? (i := 5) rfl))))))) rfl⟩
theorem ck_X12_fresh : ckC yX12_fresh cX12_fresh 3 (some .int) 0 := ⟨⟨uw_1_17, uw_9_121⟩, by decide +kernel, by decide +kernel, by decide⟩
theorem uw_9_120 : (Jvm.Cond.selects "HideReaderModel" ({ cls := "HideReaderModel", name := "fresh", desc := "()I" } : Jvm.MethodName) ({ cls := "HideReaderModel", name := "fresh", desc := "()I" } : Jvm.MethodName)) ∈ UT := ut_t (tm_9 (List.mem_of_getElem? (i := 120) rfl)) rfl
theorem iv_X12_fresh : Cond.instanceMethod yX12_fresh ∈ UT ∧ Cond.selects (yX12_fresh).cls yX12_fresh yX12_fresh ∈ UT := ⟨uw_9_119, uw_9_120⟩
theorem ck_X12_read : ckC yX12_read cX12_read 4 (some .int) 1 := ⟨⟨uw_1_17, uw_9_129⟩, by decide +kernel, by decide +kernel, by decide⟩
theorem uw_9_128 : (Jvm.Cond.selects "HideReaderModel" ({ cls := "HideReaderModel", name := "read", desc := "(I)I" } : Jvm.MethodName) ({ cls := "HideReaderModel", name := "read", desc := "(I)I" } : Jvm.MethodName)) ∈ UT := ut_t (tm_9 (List.mem_of_getElem? (i := 128) rfl)) rfl
theorem iv_X12_read : Cond.instanceMethod yX12_read ∈ UT ∧ Cond.selects (yX12_read).cls yX12_read yX12_read ∈ UT := ⟨uw_9_127, uw_9_128⟩
theorem ck_X12_layBrings : ckC yX12_layBrings cX12_layBrings 4 none 2 := ⟨⟨uw_1_17, uw_9_137⟩, by decide +kernel, by decide +kernel, by decide⟩
theorem iv_X12_layBrings : Cond.instanceMethod yX12_layBrings ∈ UT ∧ Cond.selects (yX12_layBrings).cls yX12_layBrings yX12_layBrings ∈ UT := ⟨uw_9_136, ut_s (q := (yX12_layBrings, 64)) (List.mem_append_right _ (List.mem_append_right _ (List.mem_append_right _ (List.mem_append_right _ (List.mem_append_right _ (List.mem_append_right _ (List.mem_of_getElem? (i := 6) rfl))))))) rfl⟩
theorem ck_X12_isRest : ckC yX12_isRest cX12_isRest 6 (some .boolean) 2 := ⟨⟨uw_1_17, uw_9_141⟩, by decide +kernel, by decide +kernel, by decide⟩
theorem iv_X12_isRest : Cond.instanceMethod yX12_isRest ∈ UT ∧ Cond.selects (yX12_isRest).cls yX12_isRest yX12_isRest ∈ UT := ⟨uw_9_140, ut_s (q := (yX12_isRest, 64)) (List.mem_append_right _ (List.mem_append_right _ (List.mem_append_right _ (List.mem_append_right _ (List.mem_append_right _ (List.mem_append_right _ (List.mem_of_getElem? (i := 7) rfl))))))) rfl⟩
theorem ck_X12_raid : ckC yX12_raid cX12_raid 5 (some .int) 2 := ⟨⟨uw_1_17, uw_9_133⟩, by decide +kernel, by decide +kernel, by decide⟩
theorem uw_9_132 : (Jvm.Cond.selects "HideReaderModel" ({ cls := "HideReaderModel", name := "raid", desc := "(II)I" } : Jvm.MethodName) ({ cls := "HideReaderModel", name := "raid", desc := "(II)I" } : Jvm.MethodName)) ∈ UT := ut_t (tm_9 (List.mem_of_getElem? (i := 132) rfl)) rfl
theorem iv_X12_raid : Cond.instanceMethod yX12_raid ∈ UT ∧ Cond.selects (yX12_raid).cls yX12_raid yX12_raid ∈ UT := ⟨uw_9_131, uw_9_132⟩
theorem ck_X12_odds : ckC yX12_odds cX12_odds 5 (some .int) 2 := ⟨⟨uw_1_17, uw_9_145⟩, by decide +kernel, by decide +kernel, by decide⟩
theorem uw_9_144 : (Jvm.Cond.selects "HideReaderModel" ({ cls := "HideReaderModel", name := "odds", desc := "(II)I" } : Jvm.MethodName) ({ cls := "HideReaderModel", name := "odds", desc := "(II)I" } : Jvm.MethodName)) ∈ UT := ut_t (tm_9 (List.mem_of_getElem? (i := 144) rfl)) rfl
theorem iv_X12_odds : Cond.instanceMethod yX12_odds ∈ UT ∧ Cond.selects (yX12_odds).cls yX12_odds yX12_odds ∈ UT := ⟨uw_9_143, uw_9_144⟩
theorem ck_X12_seen : ckC yX12_seen cX12_seen 4 (some .int) 3 := ⟨⟨uw_1_17, uw_9_155⟩, by decide +kernel, by decide +kernel, by decide⟩
theorem uw_9_154 : (Jvm.Cond.selects "HideReaderModel" ({ cls := "HideReaderModel", name := "seen", desc := "(IIZ)I" } : Jvm.MethodName) ({ cls := "HideReaderModel", name := "seen", desc := "(IIZ)I" } : Jvm.MethodName)) ∈ UT := ut_t (tm_9 (List.mem_of_getElem? (i := 154) rfl)) rfl
theorem iv_X12_seen : Cond.instanceMethod yX12_seen ∈ UT ∧ Cond.selects (yX12_seen).cls yX12_seen yX12_seen ∈ UT := ⟨uw_9_153, uw_9_154⟩
theorem ck_X12_untell : ckC yX12_untell cX12_untell 2 (some .boolean) 1 := ⟨⟨uw_1_17, uw_9_159⟩, by decide +kernel, by decide +kernel, by decide⟩
theorem uw_9_158 : (Jvm.Cond.selects "HideReaderModel" ({ cls := "HideReaderModel", name := "untell", desc := "(I)Z" } : Jvm.MethodName) ({ cls := "HideReaderModel", name := "untell", desc := "(I)Z" } : Jvm.MethodName)) ∈ UT := ut_t (tm_9 (List.mem_of_getElem? (i := 158) rfl)) rfl
theorem iv_X12_untell : Cond.instanceMethod yX12_untell ∈ UT ∧ Cond.selects (yX12_untell).cls yX12_untell yX12_untell ∈ UT := ⟨uw_9_157, uw_9_158⟩
theorem ck_X12_later : ckC yX12_later cX12_later 2 (some .int) 1 := ⟨⟨uw_1_17, uw_9_163⟩, by decide +kernel, by decide +kernel, by decide⟩
theorem uw_9_162 : (Jvm.Cond.selects "HideReaderModel" ({ cls := "HideReaderModel", name := "later", desc := "(I)I" } : Jvm.MethodName) ({ cls := "HideReaderModel", name := "later", desc := "(I)I" } : Jvm.MethodName)) ∈ UT := ut_t (tm_9 (List.mem_of_getElem? (i := 162) rfl)) rfl
theorem iv_X12_later : Cond.instanceMethod yX12_later ∈ UT ∧ Cond.selects (yX12_later).cls yX12_later yX12_later ∈ UT := ⟨uw_9_161, uw_9_162⟩
theorem ck_X12_doesFit : ckC yX12_doesFit cX12_doesFit 6 (some .boolean) 3 := ⟨⟨uw_1_17, uw_9_176⟩, by decide +kernel, by decide +kernel, by decide⟩
theorem iv_X12_doesFit : Cond.instanceMethod yX12_doesFit ∈ UT ∧ Cond.selects (yX12_doesFit).cls yX12_doesFit yX12_doesFit ∈ UT := ⟨uw_9_175, ut_s (q := (yX12_doesFit, 64)) (List.mem_append_right _ (List.mem_append_right _ (List.mem_append_right _ (List.mem_append_right _ (List.mem_append_right _ (List.mem_append_right _ (List.mem_of_getElem? (i := 9) rfl))))))) rfl⟩
theorem ck_X12_layRows : ckC yX12_layRows cX12_layRows 5 none 1 := ⟨⟨uw_1_17, uw_9_172⟩, by decide +kernel, by decide +kernel, by decide⟩
theorem iv_X12_layRows : Cond.instanceMethod yX12_layRows ∈ UT ∧ Cond.selects (yX12_layRows).cls yX12_layRows yX12_layRows ∈ UT := ⟨uw_9_171, ut_s (q := (yX12_layRows, 64)) (List.mem_append_right _ (List.mem_append_right _ (List.mem_append_right _ (List.mem_append_right _ (List.mem_append_right _ (List.mem_append_right _ (List.mem_of_getElem? (i := 8) rfl))))))) rfl⟩
theorem ck_X12_rows : ckC yX12_rows cX12_rows 2 (some .int) 1 := ⟨⟨uw_1_17, uw_9_168⟩, by decide +kernel, by decide +kernel, by decide⟩
theorem uw_9_167 : (Jvm.Cond.selects "HideReaderModel" ({ cls := "HideReaderModel", name := "rows", desc := "(I)I" } : Jvm.MethodName) ({ cls := "HideReaderModel", name := "rows", desc := "(I)I" } : Jvm.MethodName)) ∈ UT := ut_t (tm_9 (List.mem_of_getElem? (i := 167) rfl)) rfl
theorem iv_X12_rows : Cond.instanceMethod yX12_rows ∈ UT ∧ Cond.selects (yX12_rows).cls yX12_rows yX12_rows ∈ UT := ⟨uw_9_166, uw_9_167⟩
theorem ck_X12_sure : ckC yX12_sure cX12_sure 4 (some .int) 2 := ⟨⟨uw_1_17, uw_9_180⟩, by decide +kernel, by decide +kernel, by decide⟩
theorem uw_9_179 : (Jvm.Cond.selects "HideReaderModel" ({ cls := "HideReaderModel", name := "sure", desc := "(II)I" } : Jvm.MethodName) ({ cls := "HideReaderModel", name := "sure", desc := "(II)I" } : Jvm.MethodName)) ∈ UT := ut_t (tm_9 (List.mem_of_getElem? (i := 179) rfl)) rfl
theorem iv_X12_sure : Cond.instanceMethod yX12_sure ∈ UT ∧ Cond.selects (yX12_sure).cls yX12_sure yX12_sure ∈ UT := ⟨uw_9_178, uw_9_179⟩
theorem ck_X12_mostOf : ckC yX12_mostOf cX12_mostOf 4 (some .int) 1 := ⟨⟨uw_1_17, uw_9_188⟩, by decide +kernel, by decide +kernel, by decide⟩
theorem iv_X12_mostOf : Cond.instanceMethod yX12_mostOf ∈ UT ∧ Cond.selects (yX12_mostOf).cls yX12_mostOf yX12_mostOf ∈ UT := ⟨uw_9_187, ut_s (q := (yX12_mostOf, 64)) (List.mem_append_right _ (List.mem_append_right _ (List.mem_append_right _ (List.mem_append_right _ (List.mem_append_right _ (List.mem_append_right _ (List.mem_of_getElem? (i := 10) rfl))))))) rfl⟩
theorem ck_X12_ask : ckC yX12_ask cX12_ask 4 (some .int) 2 := ⟨⟨uw_1_17, uw_9_184⟩, by decide +kernel, by decide +kernel, by decide⟩
theorem uw_9_183 : (Jvm.Cond.selects "HideReaderModel" ({ cls := "HideReaderModel", name := "ask", desc := "(II)I" } : Jvm.MethodName) ({ cls := "HideReaderModel", name := "ask", desc := "(II)I" } : Jvm.MethodName)) ∈ UT := ut_t (tm_9 (List.mem_of_getElem? (i := 183) rfl)) rfl
theorem iv_X12_ask : Cond.instanceMethod yX12_ask ∈ UT ∧ Cond.selects (yX12_ask).cls yX12_ask yX12_ask ∈ UT := ⟨uw_9_182, uw_9_183⟩
theorem ck_X12_image : ckC yX12_image cX12_image 3 (some .int) 1 := ⟨⟨uw_1_17, uw_9_192⟩, by decide +kernel, by decide +kernel, by decide⟩
theorem uw_9_191 : (Jvm.Cond.selects "HideReaderModel" ({ cls := "HideReaderModel", name := "image", desc := "(I)I" } : Jvm.MethodName) ({ cls := "HideReaderModel", name := "image", desc := "(I)I" } : Jvm.MethodName)) ∈ UT := ut_t (tm_9 (List.mem_of_getElem? (i := 191) rfl)) rfl
theorem iv_X12_image : Cond.instanceMethod yX12_image ∈ UT ∧ Cond.selects (yX12_image).cls yX12_image yX12_image ∈ UT := ⟨uw_9_190, uw_9_191⟩
theorem ck_X12_back : ckC yX12_back cX12_back 3 (some .int) 1 := ⟨⟨uw_1_17, uw_9_196⟩, by decide +kernel, by decide +kernel, by decide⟩
theorem uw_9_195 : (Jvm.Cond.selects "HideReaderModel" ({ cls := "HideReaderModel", name := "back", desc := "(I)I" } : Jvm.MethodName) ({ cls := "HideReaderModel", name := "back", desc := "(I)I" } : Jvm.MethodName)) ∈ UT := ut_t (tm_9 (List.mem_of_getElem? (i := 195) rfl)) rfl
theorem iv_X12_back : Cond.instanceMethod yX12_back ∈ UT ∧ Cond.selects (yX12_back).cls yX12_back yX12_back ∈ UT := ⟨uw_9_194, uw_9_195⟩
theorem ck_X12_about : ckC yX12_about cX12_about 2 (some .int) 1 := ⟨⟨uw_1_17, uw_9_200⟩, by decide +kernel, by decide +kernel, by decide⟩
theorem uw_9_199 : (Jvm.Cond.selects "HideReaderModel" ({ cls := "HideReaderModel", name := "about", desc := "(I)I" } : Jvm.MethodName) ({ cls := "HideReaderModel", name := "about", desc := "(I)I" } : Jvm.MethodName)) ∈ UT := ut_t (tm_9 (List.mem_of_getElem? (i := 199) rfl)) rfl
theorem iv_X12_about : Cond.instanceMethod yX12_about ∈ UT ∧ Cond.selects (yX12_about).cls yX12_about yX12_about ∈ UT := ⟨uw_9_198, uw_9_199⟩
theorem ck_X12_feed : ckC yX12_feed cX12_feed 8 (some .int) 5 := ⟨⟨uw_1_17, uw_9_204⟩, by decide +kernel, by decide +kernel, by decide⟩
theorem uw_9_203 : (Jvm.Cond.selects "HideReaderModel" ({ cls := "HideReaderModel", name := "feed", desc := "(IIIII)I" } : Jvm.MethodName) ({ cls := "HideReaderModel", name := "feed", desc := "(IIIII)I" } : Jvm.MethodName)) ∈ UT := ut_t (tm_9 (List.mem_of_getElem? (i := 203) rfl)) rfl
theorem iv_X12_feed : Cond.instanceMethod yX12_feed ∈ UT ∧ Cond.selects (yX12_feed).cls yX12_feed yX12_feed ∈ UT := ⟨uw_9_202, uw_9_203⟩
theorem ck_X12_end : ckC yX12_end cX12_end 2 (some .int) 1 := ⟨⟨uw_1_17, uw_9_208⟩, by decide +kernel, by decide +kernel, by decide⟩
theorem uw_9_207 : (Jvm.Cond.selects "HideReaderModel" ({ cls := "HideReaderModel", name := "end", desc := "(I)I" } : Jvm.MethodName) ({ cls := "HideReaderModel", name := "end", desc := "(I)I" } : Jvm.MethodName)) ∈ UT := ut_t (tm_9 (List.mem_of_getElem? (i := 207) rfl)) rfl
theorem iv_X12_end : Cond.instanceMethod yX12_end ∈ UT ∧ Cond.selects (yX12_end).cls yX12_end yX12_end ∈ UT := ⟨uw_9_206, uw_9_207⟩
theorem ck_J6_bitCount_0f7a4 : ckC yJ6_bitCount_0f7a4 cJ6_bitCount_0f7a4 1 (some .int) 1 := ⟨⟨uw_1_21, uw_4_141⟩, by decide +kernel, by decide +kernel, by decide⟩
theorem ck_J0_length_8abf5 : ckC yJ0_length_8abf5 cJ0_length_8abf5 1 (some .int) 0 := ⟨⟨uw_1_3, uw_1_41⟩, by decide +kernel, by decide +kernel, by decide⟩
theorem uw_1_40 : (Jvm.Cond.selects "java/lang/String" ({ cls := "java/lang/String", name := "length", desc := "()I" } : Jvm.MethodName) ({ cls := "java/lang/String", name := "length", desc := "()I" } : Jvm.MethodName)) ∈ UT := ut_t (tm_1 (List.mem_of_getElem? (i := 40) rfl)) rfl
theorem iv_J0_length_8abf5 : Cond.instanceMethod yJ0_length_8abf5 ∈ UT ∧ Cond.selects (yJ0_length_8abf5).cls yJ0_length_8abf5 yJ0_length_8abf5 ∈ UT := ⟨uw_1_39, uw_1_40⟩
theorem ck_J0_charAt_5068e : ckC yJ0_charAt_5068e cJ0_charAt_5068e 2 (some .char) 1 := ⟨⟨uw_1_3, uw_1_51⟩, by decide +kernel, by decide +kernel, by decide⟩
theorem uw_1_50 : (Jvm.Cond.selects "java/lang/String" ({ cls := "java/lang/String", name := "charAt", desc := "(I)C" } : Jvm.MethodName) ({ cls := "java/lang/String", name := "charAt", desc := "(I)C" } : Jvm.MethodName)) ∈ UT := ut_t (tm_1 (List.mem_of_getElem? (i := 50) rfl)) rfl
theorem iv_J0_charAt_5068e : Cond.instanceMethod yJ0_charAt_5068e ∈ UT ∧ Cond.selects (yJ0_charAt_5068e).cls yJ0_charAt_5068e yJ0_charAt_5068e ∈ UT := ⟨uw_1_49, uw_1_50⟩
theorem ck_J0_indexOf_0f7a4 : ckC yJ0_indexOf_0f7a4 cJ0_indexOf_0f7a4 2 (some .int) 1 := ⟨⟨uw_1_3, uw_3_99⟩, by decide +kernel, by decide +kernel, by decide⟩
theorem uw_3_98 : (Jvm.Cond.selects "java/lang/String" ({ cls := "java/lang/String", name := "indexOf", desc := "(I)I" } : Jvm.MethodName) ({ cls := "java/lang/String", name := "indexOf", desc := "(I)I" } : Jvm.MethodName)) ∈ UT := ut_t (tm_3 (List.mem_of_getElem? (i := 98) rfl)) rfl
theorem iv_J0_indexOf_0f7a4 : Cond.instanceMethod yJ0_indexOf_0f7a4 ∈ UT ∧ Cond.selects (yJ0_indexOf_0f7a4).cls yJ0_indexOf_0f7a4 yJ0_indexOf_0f7a4 ∈ UT := ⟨uw_3_97, uw_3_98⟩
theorem ck_J0_indexOf_7cf53 : ckC yJ0_indexOf_7cf53 cJ0_indexOf_7cf53 3 (some .int) 2 := ⟨⟨uw_1_3, uw_3_103⟩, by decide +kernel, by decide +kernel, by decide⟩
theorem uw_3_102 : (Jvm.Cond.selects "java/lang/String" ({ cls := "java/lang/String", name := "indexOf", desc := "(II)I" } : Jvm.MethodName) ({ cls := "java/lang/String", name := "indexOf", desc := "(II)I" } : Jvm.MethodName)) ∈ UT := ut_t (tm_3 (List.mem_of_getElem? (i := 102) rfl)) rfl
theorem iv_J0_indexOf_7cf53 : Cond.instanceMethod yJ0_indexOf_7cf53 ∈ UT ∧ Cond.selects (yJ0_indexOf_7cf53).cls yJ0_indexOf_7cf53 yJ0_indexOf_7cf53 ∈ UT := ⟨uw_3_101, uw_3_102⟩
theorem ck_J0_coder_7d493 : ckC yJ0_coder_7d493 cJ0_coder_7d493 1 (some .byte) 0 := ⟨⟨uw_1_3, uw_1_45⟩, by decide +kernel, by decide +kernel, by decide⟩
theorem uw_1_44 : (Jvm.Cond.selects "java/lang/String" ({ cls := "java/lang/String", name := "coder", desc := "()B" } : Jvm.MethodName) ({ cls := "java/lang/String", name := "coder", desc := "()B" } : Jvm.MethodName)) ∈ UT := ut_t (tm_1 (List.mem_of_getElem? (i := 44) rfl)) rfl
theorem iv_J0_coder_7d493 : Cond.instanceMethod yJ0_coder_7d493 ∈ UT ∧ Cond.selects (yJ0_coder_7d493).cls yJ0_coder_7d493 yJ0_coder_7d493 ∈ UT := ⟨uw_1_43, uw_1_44⟩
theorem ck_J0_isLatin1_aae02 : ckC yJ0_isLatin1_aae02 cJ0_isLatin1_aae02 1 (some .boolean) 0 := ⟨⟨uw_1_3, uw_1_55⟩, by decide +kernel, by decide +kernel, by decide⟩
theorem uw_1_54 : (Jvm.Cond.selects "java/lang/String" ({ cls := "java/lang/String", name := "isLatin1", desc := "()Z" } : Jvm.MethodName) ({ cls := "java/lang/String", name := "isLatin1", desc := "()Z" } : Jvm.MethodName)) ∈ UT := ut_t (tm_1 (List.mem_of_getElem? (i := 54) rfl)) rfl
theorem iv_J0_isLatin1_aae02 : Cond.instanceMethod yJ0_isLatin1_aae02 ∈ UT ∧ Cond.selects (yJ0_isLatin1_aae02).cls yJ0_isLatin1_aae02 yJ0_isLatin1_aae02 ∈ UT := ⟨uw_1_53, uw_1_54⟩
theorem ck_J0_checkIndex_df160 : ckC yJ0_checkIndex_df160 cJ0_checkIndex_df160 2 none 2 := ⟨⟨uw_1_3, uw_1_61⟩, by decide +kernel, by decide +kernel, by decide⟩
theorem ck_J0_checkBoundsBeginEnd_23922 : ckC yJ0_checkBoundsBeginEnd_23922 cJ0_checkBoundsBeginEnd_23922 3 none 3 := ⟨⟨uw_1_3, uw_3_134⟩, by decide +kernel, by decide +kernel, by decide⟩
theorem ck_J1_charAt_3b067 : ckC yJ1_charAt_3b067 cJ1_charAt_3b067 2 (some .char) 2 := ⟨⟨uw_1_4, uw_1_58⟩, by decide +kernel, by decide +kernel, by decide⟩
theorem ck_J1_canEncode_9a6ad : ckC yJ1_canEncode_9a6ad cJ1_canEncode_9a6ad 1 (some .boolean) 1 := ⟨⟨uw_1_4, uw_3_110⟩, by decide +kernel, by decide +kernel, by decide⟩
theorem ck_J1_indexOf_4cfef : ckC yJ1_indexOf_4cfef cJ1_indexOf_4cfef 4 (some .int) 4 := ⟨⟨uw_1_4, uw_3_107⟩, by decide +kernel, by decide +kernel, by decide⟩
theorem ck_J1_indexOfChar_4cfef : ckC yJ1_indexOfChar_4cfef cJ1_indexOfChar_4cfef 6 (some .int) 4 := ⟨⟨uw_1_4, uw_3_119⟩, by decide +kernel, by decide +kernel, by decide⟩
theorem ck_J7_fill_53178 : ckC yJ7_fill_53178 cJ7_fill_53178 4 none 2 := ⟨⟨uw_1_22, uw_5_53⟩, by decide +kernel, by decide +kernel, by decide⟩
theorem uc_0 : ∀ w ∈ u_ws RX0 TX0 5, w ∈ UT := show ∀ w ∈ ([u_lay RX0 TX0 0, u_lay RX0 TX0 1, u_lay RX0 TX0 2, u_lay RX0 TX0 3, u_lay RX0 TX0 4] : List Cond), w ∈ UT from List.forall_mem_cons.mpr ⟨uw_2_172, List.forall_mem_cons.mpr ⟨uw_2_174, List.forall_mem_cons.mpr ⟨uw_2_176, List.forall_mem_cons.mpr ⟨uw_2_178, List.forall_mem_cons.mpr ⟨uw_2_180, fun _ h => absurd h List.not_mem_nil⟩⟩⟩⟩⟩
theorem df_0 : ∀ j, j < 5 → defaultValue (tyX0 j) = vp_V [.null, .null, .null, .null, .null] j := fun j hj => match j, hj with
  | 0, _ => rfl
  | 1, _ => rfl
  | 2, _ => rfl
  | 3, _ => rfl
  | 4, _ => rfl
  | n + 5, h => absurd h (by omega)
theorem uc_1 : ∀ w ∈ u_ws RX1 TX1 8, w ∈ UT := show ∀ w ∈ ([u_lay RX1 TX1 0, u_lay RX1 TX1 1, u_lay RX1 TX1 2, u_lay RX1 TX1 3, u_lay RX1 TX1 4, u_lay RX1 TX1 5, u_lay RX1 TX1 6, u_lay RX1 TX1 7] : List Cond), w ∈ UT from List.forall_mem_cons.mpr ⟨uw_2_144, List.forall_mem_cons.mpr ⟨uw_2_146, List.forall_mem_cons.mpr ⟨uw_2_148, List.forall_mem_cons.mpr ⟨uw_2_150, List.forall_mem_cons.mpr ⟨uw_2_152, List.forall_mem_cons.mpr ⟨uw_2_154, List.forall_mem_cons.mpr ⟨uw_2_156, List.forall_mem_cons.mpr ⟨uw_2_158, fun _ h => absurd h List.not_mem_nil⟩⟩⟩⟩⟩⟩⟩⟩
theorem df_1 : ∀ j, j < 8 → defaultValue (tyX1 j) = vp_V [.null, .null, .null, .null, .null, .null, .null, .int 0] j := fun j hj => match j, hj with
  | 0, _ => rfl
  | 1, _ => rfl
  | 2, _ => rfl
  | 3, _ => rfl
  | 4, _ => rfl
  | 5, _ => rfl
  | 6, _ => rfl
  | 7, _ => rfl
  | n + 8, h => absurd h (by omega)
theorem uc_2 : ∀ w ∈ u_ws RX2 TX2 6, w ∈ UT := show ∀ w ∈ ([u_lay RX2 TX2 0, u_lay RX2 TX2 1, u_lay RX2 TX2 2, u_lay RX2 TX2 3, u_lay RX2 TX2 4, u_lay RX2 TX2 5] : List Cond), w ∈ UT from List.forall_mem_cons.mpr ⟨uw_1_142, List.forall_mem_cons.mpr ⟨uw_1_144, List.forall_mem_cons.mpr ⟨uw_1_146, List.forall_mem_cons.mpr ⟨uw_1_148, List.forall_mem_cons.mpr ⟨uw_1_150, List.forall_mem_cons.mpr ⟨uw_1_152, fun _ h => absurd h List.not_mem_nil⟩⟩⟩⟩⟩⟩
theorem df_2 : ∀ j, j < 6 → defaultValue (tyX2 j) = vp_V [.null, .null, .null, .null, .int 0, .int 0] j := fun j hj => match j, hj with
  | 0, _ => rfl
  | 1, _ => rfl
  | 2, _ => rfl
  | 3, _ => rfl
  | 4, _ => rfl
  | 5, _ => rfl
  | n + 6, h => absurd h (by omega)
theorem uc_3 : ∀ w ∈ u_ws RX3 TX3 6, w ∈ UT := show ∀ w ∈ ([u_lay RX3 TX3 0, u_lay RX3 TX3 1, u_lay RX3 TX3 2, u_lay RX3 TX3 3, u_lay RX3 TX3 4, u_lay RX3 TX3 5] : List Cond), w ∈ UT from List.forall_mem_cons.mpr ⟨uw_2_117, List.forall_mem_cons.mpr ⟨uw_2_119, List.forall_mem_cons.mpr ⟨uw_2_121, List.forall_mem_cons.mpr ⟨uw_2_123, List.forall_mem_cons.mpr ⟨uw_2_125, List.forall_mem_cons.mpr ⟨uw_2_127, fun _ h => absurd h List.not_mem_nil⟩⟩⟩⟩⟩⟩
theorem df_3 : ∀ j, j < 6 → defaultValue (tyX3 j) = vp_V [.null, .null, .null, .int 0, .int 0, .int 0] j := fun j hj => match j, hj with
  | 0, _ => rfl
  | 1, _ => rfl
  | 2, _ => rfl
  | 3, _ => rfl
  | 4, _ => rfl
  | 5, _ => rfl
  | n + 6, h => absurd h (by omega)
theorem uc_4 : ∀ w ∈ u_ws RX4 TX4 4, w ∈ UT := show ∀ w ∈ ([u_lay RX4 TX4 0, u_lay RX4 TX4 1, u_lay RX4 TX4 2, u_lay RX4 TX4 3] : List Cond), w ∈ UT from List.forall_mem_cons.mpr ⟨uw_2_39, List.forall_mem_cons.mpr ⟨uw_2_41, List.forall_mem_cons.mpr ⟨uw_2_43, List.forall_mem_cons.mpr ⟨uw_2_45, fun _ h => absurd h List.not_mem_nil⟩⟩⟩⟩
theorem df_4 : ∀ j, j < 4 → defaultValue (tyX4 j) = vp_V [.null, .null, .null, .int 0] j := fun j hj => match j, hj with
  | 0, _ => rfl
  | 1, _ => rfl
  | 2, _ => rfl
  | 3, _ => rfl
  | n + 4, h => absurd h (by omega)
theorem uc_5 : ∀ w ∈ u_ws RX5 TX5 5, w ∈ UT := show ∀ w ∈ ([u_lay RX5 TX5 0, u_lay RX5 TX5 1, u_lay RX5 TX5 2, u_lay RX5 TX5 3, u_lay RX5 TX5 4] : List Cond), w ∈ UT from List.forall_mem_cons.mpr ⟨uw_2_99, List.forall_mem_cons.mpr ⟨uw_2_101, List.forall_mem_cons.mpr ⟨uw_2_103, List.forall_mem_cons.mpr ⟨uw_2_105, List.forall_mem_cons.mpr ⟨uw_2_107, fun _ h => absurd h List.not_mem_nil⟩⟩⟩⟩⟩
theorem df_5 : ∀ j, j < 5 → defaultValue (tyX5 j) = vp_V [.null, .null, .null, .int 0, .int 0] j := fun j hj => match j, hj with
  | 0, _ => rfl
  | 1, _ => rfl
  | 2, _ => rfl
  | 3, _ => rfl
  | 4, _ => rfl
  | n + 5, h => absurd h (by omega)
theorem uc_6 : ∀ w ∈ u_ws RX6 TX6 6, w ∈ UT := show ∀ w ∈ ([u_lay RX6 TX6 0, u_lay RX6 TX6 1, u_lay RX6 TX6 2, u_lay RX6 TX6 3, u_lay RX6 TX6 4, u_lay RX6 TX6 5] : List Cond), w ∈ UT from List.forall_mem_cons.mpr ⟨uw_2_60, List.forall_mem_cons.mpr ⟨uw_2_62, List.forall_mem_cons.mpr ⟨uw_2_64, List.forall_mem_cons.mpr ⟨uw_2_66, List.forall_mem_cons.mpr ⟨uw_2_68, List.forall_mem_cons.mpr ⟨uw_2_70, fun _ h => absurd h List.not_mem_nil⟩⟩⟩⟩⟩⟩
theorem df_6 : ∀ j, j < 6 → defaultValue (tyX6 j) = vp_V [.null, .null, .null, .null, .int 0, .int 0] j := fun j hj => match j, hj with
  | 0, _ => rfl
  | 1, _ => rfl
  | 2, _ => rfl
  | 3, _ => rfl
  | 4, _ => rfl
  | 5, _ => rfl
  | n + 6, h => absurd h (by omega)
theorem uc_7 : ∀ w ∈ u_ws RX7 TX7 10, w ∈ UT := show ∀ w ∈ ([u_lay RX7 TX7 0, u_lay RX7 TX7 1, u_lay RX7 TX7 2, u_lay RX7 TX7 3, u_lay RX7 TX7 4, u_lay RX7 TX7 5, u_lay RX7 TX7 6, u_lay RX7 TX7 7, u_lay RX7 TX7 8, u_lay RX7 TX7 9] : List Cond), w ∈ UT from List.forall_mem_cons.mpr ⟨uw_1_100, List.forall_mem_cons.mpr ⟨uw_1_102, List.forall_mem_cons.mpr ⟨uw_1_104, List.forall_mem_cons.mpr ⟨uw_1_106, List.forall_mem_cons.mpr ⟨uw_1_108, List.forall_mem_cons.mpr ⟨uw_1_110, List.forall_mem_cons.mpr ⟨uw_1_112, List.forall_mem_cons.mpr ⟨uw_1_114, List.forall_mem_cons.mpr ⟨uw_1_116, List.forall_mem_cons.mpr ⟨uw_1_118, fun _ h => absurd h List.not_mem_nil⟩⟩⟩⟩⟩⟩⟩⟩⟩⟩
theorem df_7 : ∀ j, j < 10 → defaultValue (tyX7 j) = vp_V [.null, .null, .int 0, .int 0, .int 0, .int 0, .int 0, .long 0, .int 0, .int 0] j := fun j hj => match j, hj with
  | 0, _ => rfl
  | 1, _ => rfl
  | 2, _ => rfl
  | 3, _ => rfl
  | 4, _ => rfl
  | 5, _ => rfl
  | 6, _ => rfl
  | 7, _ => rfl
  | 8, _ => rfl
  | 9, _ => rfl
  | n + 10, h => absurd h (by omega)
theorem uc_8 : ∀ w ∈ u_ws RX8 TX8 2, w ∈ UT := show ∀ w ∈ ([u_lay RX8 TX8 0, u_lay RX8 TX8 1] : List Cond), w ∈ UT from List.forall_mem_cons.mpr ⟨uw_2_18, List.forall_mem_cons.mpr ⟨uw_2_20, fun _ h => absurd h List.not_mem_nil⟩⟩
theorem df_8 : ∀ j, j < 2 → defaultValue (tyX8 j) = vp_V [.null, .null] j := fun j hj => match j, hj with
  | 0, _ => rfl
  | 1, _ => rfl
  | n + 2, h => absurd h (by omega)
theorem uc_9 : ∀ w ∈ u_ws RX9 TX9 16, w ∈ UT := show ∀ w ∈ ([u_lay RX9 TX9 0, u_lay RX9 TX9 1, u_lay RX9 TX9 2, u_lay RX9 TX9 3, u_lay RX9 TX9 4, u_lay RX9 TX9 5, u_lay RX9 TX9 6, u_lay RX9 TX9 7, u_lay RX9 TX9 8, u_lay RX9 TX9 9, u_lay RX9 TX9 10, u_lay RX9 TX9 11, u_lay RX9 TX9 12, u_lay RX9 TX9 13, u_lay RX9 TX9 14, u_lay RX9 TX9 15] : List Cond), w ∈ UT from List.forall_mem_cons.mpr ⟨uw_1_217, List.forall_mem_cons.mpr ⟨uw_1_219, List.forall_mem_cons.mpr ⟨uw_1_221, List.forall_mem_cons.mpr ⟨uw_1_223, List.forall_mem_cons.mpr ⟨uw_1_225, List.forall_mem_cons.mpr ⟨uw_1_227, List.forall_mem_cons.mpr ⟨uw_1_229, List.forall_mem_cons.mpr ⟨uw_1_231, List.forall_mem_cons.mpr ⟨uw_1_233, List.forall_mem_cons.mpr ⟨uw_1_235, List.forall_mem_cons.mpr ⟨uw_1_237, List.forall_mem_cons.mpr ⟨uw_1_239, List.forall_mem_cons.mpr ⟨uw_2_1, List.forall_mem_cons.mpr ⟨uw_2_3, List.forall_mem_cons.mpr ⟨uw_2_5, List.forall_mem_cons.mpr ⟨uw_2_7, fun _ h => absurd h List.not_mem_nil⟩⟩⟩⟩⟩⟩⟩⟩⟩⟩⟩⟩⟩⟩⟩⟩
theorem df_9 : ∀ j, j < 16 → defaultValue (tyX9 j) = vp_V [.int 0, .int 0, .int 0, .int 0, .int 0, .int 0, .int 0, .int 0, .null, .null, .null, .null, .null, .null, .null, .null] j := fun j hj => match j, hj with
  | 0, _ => rfl
  | 1, _ => rfl
  | 2, _ => rfl
  | 3, _ => rfl
  | 4, _ => rfl
  | 5, _ => rfl
  | 6, _ => rfl
  | 7, _ => rfl
  | 8, _ => rfl
  | 9, _ => rfl
  | 10, _ => rfl
  | 11, _ => rfl
  | 12, _ => rfl
  | 13, _ => rfl
  | 14, _ => rfl
  | 15, _ => rfl
  | n + 16, h => absurd h (by omega)
theorem uc_10 : ∀ w ∈ u_ws RX10 TX10 13, w ∈ UT := show ∀ w ∈ ([u_lay RX10 TX10 0, u_lay RX10 TX10 1, u_lay RX10 TX10 2, u_lay RX10 TX10 3, u_lay RX10 TX10 4, u_lay RX10 TX10 5, u_lay RX10 TX10 6, u_lay RX10 TX10 7, u_lay RX10 TX10 8, u_lay RX10 TX10 9, u_lay RX10 TX10 10, u_lay RX10 TX10 11, u_lay RX10 TX10 12] : List Cond), w ∈ UT from List.forall_mem_cons.mpr ⟨uw_2_202, List.forall_mem_cons.mpr ⟨uw_2_204, List.forall_mem_cons.mpr ⟨uw_2_206, List.forall_mem_cons.mpr ⟨uw_2_208, List.forall_mem_cons.mpr ⟨uw_2_210, List.forall_mem_cons.mpr ⟨uw_2_212, List.forall_mem_cons.mpr ⟨uw_2_214, List.forall_mem_cons.mpr ⟨uw_2_216, List.forall_mem_cons.mpr ⟨uw_2_218, List.forall_mem_cons.mpr ⟨uw_2_220, List.forall_mem_cons.mpr ⟨uw_2_222, List.forall_mem_cons.mpr ⟨uw_2_224, List.forall_mem_cons.mpr ⟨uw_2_226, fun _ h => absurd h List.not_mem_nil⟩⟩⟩⟩⟩⟩⟩⟩⟩⟩⟩⟩⟩
theorem df_10 : ∀ j, j < 13 → defaultValue (tyX10 j) = vp_V [.null, .null, .null, .null, .null, .null, .null, .int 0, .int 0, .null, .null, .null, .null] j := fun j hj => match j, hj with
  | 0, _ => rfl
  | 1, _ => rfl
  | 2, _ => rfl
  | 3, _ => rfl
  | 4, _ => rfl
  | 5, _ => rfl
  | 6, _ => rfl
  | 7, _ => rfl
  | 8, _ => rfl
  | 9, _ => rfl
  | 10, _ => rfl
  | 11, _ => rfl
  | 12, _ => rfl
  | n + 13, h => absurd h (by omega)
theorem uc_11 : ∀ w ∈ u_ws RX11 TX11 12, w ∈ UT := show ∀ w ∈ ([u_lay RX11 TX11 0, u_lay RX11 TX11 1, u_lay RX11 TX11 2, u_lay RX11 TX11 3, u_lay RX11 TX11 4, u_lay RX11 TX11 5, u_lay RX11 TX11 6, u_lay RX11 TX11 7, u_lay RX11 TX11 8, u_lay RX11 TX11 9, u_lay RX11 TX11 10, u_lay RX11 TX11 11] : List Cond), w ∈ UT from List.forall_mem_cons.mpr ⟨uw_3_1, List.forall_mem_cons.mpr ⟨uw_3_3, List.forall_mem_cons.mpr ⟨uw_3_5, List.forall_mem_cons.mpr ⟨uw_3_7, List.forall_mem_cons.mpr ⟨uw_3_9, List.forall_mem_cons.mpr ⟨uw_3_11, List.forall_mem_cons.mpr ⟨uw_3_13, List.forall_mem_cons.mpr ⟨uw_3_15, List.forall_mem_cons.mpr ⟨uw_3_17, List.forall_mem_cons.mpr ⟨uw_3_19, List.forall_mem_cons.mpr ⟨uw_3_21, List.forall_mem_cons.mpr ⟨uw_3_23, fun _ h => absurd h List.not_mem_nil⟩⟩⟩⟩⟩⟩⟩⟩⟩⟩⟩⟩
theorem df_11 : ∀ j, j < 12 → defaultValue (tyX11 j) = vp_V [.null, .null, .null, .null, .null, .null, .null, .null, .null, .null, .null, .int 0] j := fun j hj => match j, hj with
  | 0, _ => rfl
  | 1, _ => rfl
  | 2, _ => rfl
  | 3, _ => rfl
  | 4, _ => rfl
  | 5, _ => rfl
  | 6, _ => rfl
  | 7, _ => rfl
  | 8, _ => rfl
  | 9, _ => rfl
  | 10, _ => rfl
  | 11, _ => rfl
  | n + 12, h => absurd h (by omega)
theorem uc_12 : ∀ w ∈ u_ws RX12 TX12 64, w ∈ UT := show ∀ w ∈ ([u_lay RX12 TX12 0, u_lay RX12 TX12 1, u_lay RX12 TX12 2, u_lay RX12 TX12 3, u_lay RX12 TX12 4, u_lay RX12 TX12 5, u_lay RX12 TX12 6, u_lay RX12 TX12 7, u_lay RX12 TX12 8, u_lay RX12 TX12 9, u_lay RX12 TX12 10, u_lay RX12 TX12 11, u_lay RX12 TX12 12, u_lay RX12 TX12 13, u_lay RX12 TX12 14, u_lay RX12 TX12 15, u_lay RX12 TX12 16, u_lay RX12 TX12 17, u_lay RX12 TX12 18, u_lay RX12 TX12 19, u_lay RX12 TX12 20, u_lay RX12 TX12 21, u_lay RX12 TX12 22, u_lay RX12 TX12 23, u_lay RX12 TX12 24, u_lay RX12 TX12 25, u_lay RX12 TX12 26, u_lay RX12 TX12 27, u_lay RX12 TX12 28, u_lay RX12 TX12 29, u_lay RX12 TX12 30, u_lay RX12 TX12 31, u_lay RX12 TX12 32, u_lay RX12 TX12 33, u_lay RX12 TX12 34, u_lay RX12 TX12 35, u_lay RX12 TX12 36, u_lay RX12 TX12 37, u_lay RX12 TX12 38, u_lay RX12 TX12 39, u_lay RX12 TX12 40, u_lay RX12 TX12 41, u_lay RX12 TX12 42, u_lay RX12 TX12 43, u_lay RX12 TX12 44, u_lay RX12 TX12 45, u_lay RX12 TX12 46, u_lay RX12 TX12 47, u_lay RX12 TX12 48, u_lay RX12 TX12 49, u_lay RX12 TX12 50, u_lay RX12 TX12 51, u_lay RX12 TX12 52, u_lay RX12 TX12 53, u_lay RX12 TX12 54, u_lay RX12 TX12 55, u_lay RX12 TX12 56, u_lay RX12 TX12 57, u_lay RX12 TX12 58, u_lay RX12 TX12 59, u_lay RX12 TX12 60, u_lay RX12 TX12 61, u_lay RX12 TX12 62, u_lay RX12 TX12 63] : List Cond), w ∈ UT from List.forall_mem_cons.mpr ⟨uw_7_87, List.forall_mem_cons.mpr ⟨uw_7_89, List.forall_mem_cons.mpr ⟨uw_7_91, List.forall_mem_cons.mpr ⟨uw_7_93, List.forall_mem_cons.mpr ⟨uw_7_95, List.forall_mem_cons.mpr ⟨uw_7_97, List.forall_mem_cons.mpr ⟨uw_7_99, List.forall_mem_cons.mpr ⟨uw_7_101, List.forall_mem_cons.mpr ⟨uw_7_103, List.forall_mem_cons.mpr ⟨uw_7_105, List.forall_mem_cons.mpr ⟨uw_7_107, List.forall_mem_cons.mpr ⟨uw_7_109, List.forall_mem_cons.mpr ⟨uw_7_111, List.forall_mem_cons.mpr ⟨uw_7_113, List.forall_mem_cons.mpr ⟨uw_7_115, List.forall_mem_cons.mpr ⟨uw_7_117, List.forall_mem_cons.mpr ⟨uw_7_119, List.forall_mem_cons.mpr ⟨uw_7_121, List.forall_mem_cons.mpr ⟨uw_7_123, List.forall_mem_cons.mpr ⟨uw_7_125, List.forall_mem_cons.mpr ⟨uw_7_127, List.forall_mem_cons.mpr ⟨uw_7_129, List.forall_mem_cons.mpr ⟨uw_7_131, List.forall_mem_cons.mpr ⟨uw_7_133, List.forall_mem_cons.mpr ⟨uw_7_135, List.forall_mem_cons.mpr ⟨uw_7_137, List.forall_mem_cons.mpr ⟨uw_7_139, List.forall_mem_cons.mpr ⟨uw_7_141, List.forall_mem_cons.mpr ⟨uw_7_143, List.forall_mem_cons.mpr ⟨uw_7_145, List.forall_mem_cons.mpr ⟨uw_7_147, List.forall_mem_cons.mpr ⟨uw_7_149, List.forall_mem_cons.mpr ⟨uw_7_151, List.forall_mem_cons.mpr ⟨uw_7_153, List.forall_mem_cons.mpr ⟨uw_7_155, List.forall_mem_cons.mpr ⟨uw_7_157, List.forall_mem_cons.mpr ⟨uw_7_159, List.forall_mem_cons.mpr ⟨uw_7_161, List.forall_mem_cons.mpr ⟨uw_7_163, List.forall_mem_cons.mpr ⟨uw_7_165, List.forall_mem_cons.mpr ⟨uw_7_167, List.forall_mem_cons.mpr ⟨uw_7_169, List.forall_mem_cons.mpr ⟨uw_7_171, List.forall_mem_cons.mpr ⟨uw_7_173, List.forall_mem_cons.mpr ⟨uw_7_175, List.forall_mem_cons.mpr ⟨uw_7_177, List.forall_mem_cons.mpr ⟨uw_7_179, List.forall_mem_cons.mpr ⟨uw_7_181, List.forall_mem_cons.mpr ⟨uw_7_183, List.forall_mem_cons.mpr ⟨uw_7_185, List.forall_mem_cons.mpr ⟨uw_7_187, List.forall_mem_cons.mpr ⟨uw_7_189, List.forall_mem_cons.mpr ⟨uw_7_191, List.forall_mem_cons.mpr ⟨uw_7_193, List.forall_mem_cons.mpr ⟨uw_7_195, List.forall_mem_cons.mpr ⟨uw_7_197, List.forall_mem_cons.mpr ⟨uw_7_199, List.forall_mem_cons.mpr ⟨uw_7_201, List.forall_mem_cons.mpr ⟨uw_7_203, List.forall_mem_cons.mpr ⟨uw_7_205, List.forall_mem_cons.mpr ⟨uw_7_207, List.forall_mem_cons.mpr ⟨uw_7_209, List.forall_mem_cons.mpr ⟨uw_7_211, List.forall_mem_cons.mpr ⟨uw_7_213, fun _ h => absurd h List.not_mem_nil⟩⟩⟩⟩⟩⟩⟩⟩⟩⟩⟩⟩⟩⟩⟩⟩⟩⟩⟩⟩⟩⟩⟩⟩⟩⟩⟩⟩⟩⟩⟩⟩⟩⟩⟩⟩⟩⟩⟩⟩⟩⟩⟩⟩⟩⟩⟩⟩⟩⟩⟩⟩⟩⟩⟩⟩⟩⟩⟩⟩⟩⟩⟩⟩
theorem df_12 : ∀ j, j < 64 → defaultValue (tyX12 j) = vp_V [.null, .null, .int 0, .int 0, .int 0, .int 0, .int 0, .int 0, .int 0, .int 0, .long 0, .null, .null, .null, .null, .null, .null, .null, .null, .null, .null, .null, .null, .null, .null, .null, .null, .null, .null, .null, .null, .null, .null, .int 0, .int 0, .int 0, .int 0, .int 0, .int 0, .int 0, .int 0, .int 0, .int 0, .null, .null, .null, .int 0, .int 0, .null, .null, .int 0, .null, .null, .null, .null, .null, .null, .null, .null, .int 0, .int 0, .int 0, .null, .null] j := fun j hj => match j, hj with
  | 0, _ => rfl
  | 1, _ => rfl
  | 2, _ => rfl
  | 3, _ => rfl
  | 4, _ => rfl
  | 5, _ => rfl
  | 6, _ => rfl
  | 7, _ => rfl
  | 8, _ => rfl
  | 9, _ => rfl
  | 10, _ => rfl
  | 11, _ => rfl
  | 12, _ => rfl
  | 13, _ => rfl
  | 14, _ => rfl
  | 15, _ => rfl
  | 16, _ => rfl
  | 17, _ => rfl
  | 18, _ => rfl
  | 19, _ => rfl
  | 20, _ => rfl
  | 21, _ => rfl
  | 22, _ => rfl
  | 23, _ => rfl
  | 24, _ => rfl
  | 25, _ => rfl
  | 26, _ => rfl
  | 27, _ => rfl
  | 28, _ => rfl
  | 29, _ => rfl
  | 30, _ => rfl
  | 31, _ => rfl
  | 32, _ => rfl
  | 33, _ => rfl
  | 34, _ => rfl
  | 35, _ => rfl
  | 36, _ => rfl
  | 37, _ => rfl
  | 38, _ => rfl
  | 39, _ => rfl
  | 40, _ => rfl
  | 41, _ => rfl
  | 42, _ => rfl
  | 43, _ => rfl
  | 44, _ => rfl
  | 45, _ => rfl
  | 46, _ => rfl
  | 47, _ => rfl
  | 48, _ => rfl
  | 49, _ => rfl
  | 50, _ => rfl
  | 51, _ => rfl
  | 52, _ => rfl
  | 53, _ => rfl
  | 54, _ => rfl
  | 55, _ => rfl
  | 56, _ => rfl
  | 57, _ => rfl
  | 58, _ => rfl
  | 59, _ => rfl
  | 60, _ => rfl
  | 61, _ => rfl
  | 62, _ => rfl
  | 63, _ => rfl
  | n + 64, h => absurd h (by omega)
