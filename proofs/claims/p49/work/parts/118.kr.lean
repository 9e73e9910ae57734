section Kr
variable {l : Launch} {D : va_G} {k : Nat → ClassId} {a : Nat → Nat} {ex : va_W} {x_taped x_size x_faultKind x_faultPlace x_at x_end x_token x_number x_bank x_rb x_codes x_within x_piled x_unitsInRule x_askBeast x_askStroke x_askAge x_askSeason x_acts x_undone x_laid x_seens x_time x_fitting : Int} {n_name : Int64} {B_tape B_text B_turns B_herds B_irons B_beasts B_units B_night B_draw B_told B_brands B_ironMarks B_herdTold B_born B_ruleFrom B_ruleTo B_code B_codeNumber B_eWhat B_eSign B_pile B_all B_burned B_was B_need B_laidRow B_long8 B_brings B_sBurning B_sStroke B_sIs B_sTold B_sUntold B_parts B_boxAll B_isBoxed : Nat → Int} {G_hName G_iName G_bName : Nat → Int64}
set_option maxHeartbeats 4000000 in
set_option maxRecDepth 100000 in
theorem kr_X12_isCompared (h_x_piled : 1 ≤ x_piled ∧ x_piled ≤ 90) (b_B_eWhat : bd (0) 8 B_eWhat) (h08 : B_eWhat 0 = 8) : MetG l D k yX12_isCompared cX12_isCompared 2 (some .boolean) 0 [.ref (a 0)] (rW k a x_taped x_size x_faultKind x_faultPlace x_at x_end x_token x_number x_bank x_rb x_codes x_within x_piled x_unitsInRule x_askBeast x_askStroke x_askAge x_askSeason x_acts x_undone x_laid x_seens x_time x_fitting n_name B_tape B_text B_turns B_herds B_irons B_beasts B_units B_night B_draw B_told B_brands B_ironMarks B_herdTold B_born B_ruleFrom B_ruleTo B_code B_codeNumber B_eWhat B_eSign B_pile B_all B_burned B_was B_need B_laidRow B_long8 B_brings B_sBurning B_sStroke B_sIs B_sTold B_sUntold B_parts B_boxAll B_isBoxed G_hName G_iName G_bName ex) (qGi (fun r0 H => (0 ≤ r0 ∧ r0 ≤ 1) ∧ va_P D vwCl (rW k a x_taped x_size x_faultKind x_faultPlace x_at x_end x_token x_number x_bank x_rb x_codes x_within x_piled x_unitsInRule x_askBeast x_askStroke x_askAge x_askSeason x_acts x_undone x_laid x_seens x_time x_fitting n_name B_tape B_text B_turns B_herds B_irons B_beasts B_units B_night B_draw B_told B_brands B_ironMarks B_herdTold B_born B_ruleFrom B_ruleTo B_code B_codeNumber B_eWhat B_eSign B_pile B_all B_burned B_was B_need B_laidRow B_long8 B_brings B_sBurning B_sStroke B_sIs B_sTold B_sUntold B_parts B_boxAll B_isBoxed G_hName G_iName G_bName ex) H)) := by
  refine metG_of 0 ck_X12_isCompared (Nat.le_of_ble_eq_true rfl) rMap (fun p e s m args below meth c A hx hb hml hr hlocks hown hts hK hD hA hP hS ls hl => ?_)
  have hown : s.vm.findClass "HideReaderModel" = some m.cls := hown
  have hl : lv_has ls 2 [(0, .ref (a 0))] := hl
  refine lv_aload_n hx hb dX12_isCompared_0 rfl (lv_at hl 0 rfl) ?_
  refine rg_o_piled hx hb hts hown hK hP uw_7_60 dX12_isCompared_1 ?_
  refine lv_iconst (v := mI 1) hx hb dX12_isCompared_4 rfl ?_
  refine sy_isub hx hb dX12_isCompared_5 (x_piled - 1) rfl ?_
  refine lv_istore_n (lv' := [(1, .int (mI (x_piled - 1))), (0, .ref (a 0))]) hx hb dX12_isCompared_6 rfl hl (by decide) rfl (fun ls hl => ?_)
  refine sy_loop (I := fun n H locs g => ∃ (z_84 : Int) (ls : Array Slot), (0 ≤ z_84 ∧ z_84 ≤ 89) ∧ (0 ≤ x_piled - z_84 - 1) ∧ (z_84 - (0)).toNat = n ∧ va_P D vwCl (rW k a x_taped x_size x_faultKind x_faultPlace x_at x_end x_token x_number x_bank x_rb x_codes x_within x_piled x_unitsInRule x_askBeast x_askStroke x_askAge x_askSeason x_acts x_undone x_laid x_seens x_time x_fitting n_name B_tape B_text B_turns B_herds B_irons B_beasts B_units B_night B_draw B_told B_brands B_ironMarks B_herdTold B_born B_ruleFrom B_ruleTo B_code B_codeNumber B_eWhat B_eSign B_pile B_all B_burned B_was B_need B_laidRow B_long8 B_brings B_sBurning B_sStroke B_sIs B_sTold B_sUntold B_parts B_boxAll B_isBoxed G_hName G_iName G_bName ex) H ∧ va_S A s.heap H locs ∧ lv_has ls 2 [(1, .int (mI z_84)), (0, .ref (a 0))] ∧ g = F0 m 7 ls []) ?_ _ ⟨(x_piled - 1), _, by omega, by omega, rfl, hP, hS, lv_sub hl [0, 1] rfl, rfl⟩
  intro n_96 H locs g hI ih_97
  obtain ⟨z_84, ls, h7_0, h7_1, mn_96, hP, hS, hl, rfl⟩ := hI
  refine lv_aload_n hx hb dX12_isCompared_7 rfl (lv_at hl 1 rfl) ?_
  refine rg_o_eWhat hx hb hts hown hK hP uw_7_53 dX12_isCompared_8 ?_
  refine lv_iload_n hx hb dX12_isCompared_11 rfl (lv_at hl 0 rfl) ?_
  refine rl_eWhat hx hb hK hP dX12_isCompared_12 (by omega) b_B_eWhat (fun z_98 ez_98 hz_98 => ?_)
  have h_99 := el_c (k := z_84) h08 ez_98
  refine lv_iconst (v := mI 5) hx hb dX12_isCompared_13 rfl ?_
  refine sy_icmp_eq (tgt := 28) hx hb dX12_isCompared_14 (by decide) (by omega) (by decide) (fun c_101 => ?_) (fun c_101 => ?_)
  · skip
    refine lv_iinc (v := mI (z_84 - 1)) (lv' := [(1, .int (mI (z_84 - 1))), (0, .ref (a 0))]) hx hb dX12_isCompared_28 hl (k := 0) rfl (mI_ad (by omega)) (by decide) rfl (fun ls hl => ?_)
    refine lv_goto (tgt := 7) hx hb dX12_isCompared_31 (by decide) ?_
    exact ih_97 _ _ _ _ (by omega) ⟨(z_84 - 1), _, by omega, by omega, rfl, hP, hS, lv_sub hl [0, 1] rfl, rfl⟩
  · skip
    refine lv_aload_n hx hb dX12_isCompared_17 rfl (lv_at hl 1 rfl) ?_
    refine rg_o_eWhat hx hb hts hown hK hP uw_7_53 dX12_isCompared_18 ?_
    refine lv_iload_n hx hb dX12_isCompared_21 rfl (lv_at hl 0 rfl) ?_
    refine rl_eWhat hx hb hK hP dX12_isCompared_22 (by omega) b_B_eWhat (fun z_102 ez_102 hz_102 => ?_)
    have h_103 := el_c (k := z_84) h08 ez_102
    refine lv_bipush (v := mI 6) hx hb dX12_isCompared_23 (by decide) ?_
    refine sy_icmp_ne (tgt := 34) hx hb dX12_isCompared_25 (by decide) (by omega) (by decide) (fun c_105 => ?_) (fun c_105 => ?_)
    · skip
      refine lv_aload_n hx hb dX12_isCompared_34 rfl (lv_at hl 1 rfl) ?_
      refine rg_o_eWhat hx hb hts hown hK hP uw_7_53 dX12_isCompared_35 ?_
      refine lv_iload_n hx hb dX12_isCompared_38 rfl (lv_at hl 0 rfl) ?_
      refine rl_eWhat hx hb hK hP dX12_isCompared_39 (by omega) b_B_eWhat (fun z_106 ez_106 hz_106 => ?_)
      have h_107 := el_c (k := z_84) h08 ez_106
      refine lv_iconst (v := mI 4) hx hb dX12_isCompared_40 rfl ?_
      refine sy_icmp_ne (tgt := 48) hx hb dX12_isCompared_41 (by decide) (by omega) (by decide) (fun c_108 => ?_) (fun c_108 => ?_)
      · skip
        refine lv_iconst (v := mI 0) hx hb dX12_isCompared_48 rfl ?_
        exact r_z hx hb hr hlocks dX12_isCompared_49 hS (by decide) ⟨by omega, hP⟩
      · skip
        refine lv_iconst (v := mI 1) hx hb dX12_isCompared_44 rfl ?_
        refine lv_goto (tgt := 49) hx hb dX12_isCompared_45 (by decide) ?_
        exact r_z hx hb hr hlocks dX12_isCompared_49 hS (by decide) ⟨by omega, hP⟩
    · skip
      refine lv_iinc (v := mI (z_84 - 1)) (lv' := [(1, .int (mI (z_84 - 1))), (0, .ref (a 0))]) hx hb dX12_isCompared_28 hl (k := 0) rfl (mI_ad (by omega)) (by decide) rfl (fun ls hl => ?_)
      refine lv_goto (tgt := 7) hx hb dX12_isCompared_31 (by decide) ?_
      exact ih_97 _ _ _ _ (by omega) ⟨(z_84 - 1), _, by omega, by omega, rfl, hP, hS, lv_sub hl [0, 1] rfl, rfl⟩
set_option maxHeartbeats 4000000 in
set_option maxRecDepth 100000 in
theorem kr_X12_behindUnit (h_x_size : 0 ≤ x_size ∧ x_size ≤ 1600) (h_x_faultKind : 0 ≤ x_faultKind ∧ x_faultKind ≤ 0) (h_x_faultPlace : -1 ≤ x_faultPlace ∧ x_faultPlace ≤ 1600) (h_x_at : 0 ≤ x_at ∧ x_at ≤ 1600) (h_x_end : 0 ≤ x_end ∧ x_end ≤ 1600) (h_x_token : 0 ≤ x_token ∧ x_token ≤ 5) (h_x_number : -2147483648 ≤ x_number ∧ x_number ≤ 2147483647) (h_x_rb : 0 ≤ x_rb ∧ x_rb ≤ 1) (h_x_codes : 0 ≤ x_codes ∧ x_codes ≤ 1119) (h_x_within : 0 ≤ x_within ∧ x_within ≤ 7) (h_x_piled : 1 ≤ x_piled ∧ x_piled ≤ 60) (h_x_unitsInRule : 0 ≤ x_unitsInRule ∧ x_unitsInRule ≤ 30) (b_B_text : bd (-128) 127 B_text) (b_B_units : bd (0) 60 B_units) (b_B_code : bd (-2147483648) 2147483647 B_code) (b_B_codeNumber : bd (-2147483648) 2147483647 B_codeNumber) (b_B_eWhat : bd (0) 8 B_eWhat) (b_B_eSign : bd (-2147483648) 2147483647 B_eSign) (g_E : x_end ≤ x_size) {c0 : Int} (gW : eI 0 c0 x_codes x_piled x_within x_unitsInRule B_code B_eWhat B_eSign) (hY : 0 ≤ 560 * x_rb + 9 * B_units x_rb.toNat - 9 * x_unitsInRule - c0) : MetG l D k yX12_behindUnit cX12_behindUnit 2 (some .boolean) 3 [.ref (a 0)] (rW k a x_taped x_size x_faultKind x_faultPlace x_at x_end x_token x_number x_bank x_rb x_codes x_within x_piled x_unitsInRule x_askBeast x_askStroke x_askAge x_askSeason x_acts x_undone x_laid x_seens x_time x_fitting n_name B_tape B_text B_turns B_herds B_irons B_beasts B_units B_night B_draw B_told B_brands B_ironMarks B_herdTold B_born B_ruleFrom B_ruleTo B_code B_codeNumber B_eWhat B_eSign B_pile B_all B_burned B_was B_need B_laidRow B_long8 B_brings B_sBurning B_sStroke B_sIs B_sTold B_sUntold B_parts B_boxAll B_isBoxed G_hName G_iName G_bName ex) (qGi (fun r0 H => ∃ (y_faultKind : Int) (y_faultPlace : Int) (y_at : Int) (y_end : Int) (y_token : Int) (y_number : Int) (j_name : Int64) (F_code : Nat → Int) (F_codeNumber : Nat → Int) (F_eWhat : Nat → Int) (F_eSign : Nat → Int) (y_codes : Int) (y_within : Int) (y_piled : Int), (0 ≤ r0 ∧ r0 ≤ 1) ∧ (0 ≤ y_faultKind ∧ y_faultKind ≤ 5) ∧ (-1 ≤ y_faultPlace ∧ y_faultPlace ≤ 1600) ∧ (0 ≤ y_at ∧ y_at ≤ 1600) ∧ (0 ≤ y_end ∧ y_end ≤ 1600) ∧ (0 ≤ y_token ∧ y_token ≤ 5) ∧ (-2147483648 ≤ y_number ∧ y_number ≤ 2147483647) ∧ (bd (-2147483648) 2147483647 F_code) ∧ (bd (-2147483648) 2147483647 F_codeNumber) ∧ (bd (0) 8 F_eWhat) ∧ (bd (-2147483648) 2147483647 F_eSign) ∧ (0 ≤ y_codes ∧ y_codes ≤ 1120) ∧ (0 ≤ y_within ∧ y_within ≤ 7) ∧ (0 ≤ y_piled ∧ y_piled ≤ 61) ∧ (0 ≤ y_faultKind - x_faultKind) ∧ (0 ≤ y_end - x_end) ∧ (0 ≤ y_codes - x_codes) ∧ (0 ≤ -y_within + x_within) ∧ (eSt y_faultKind r0 c0 y_codes y_piled y_within x_unitsInRule F_code F_eWhat F_eSign) ∧ (0 ≤ 560 * x_rb + 9 * B_units x_rb.toNat - 9 * x_unitsInRule - c0) ∧ (y_faultKind ≤ 0 ∨ (y_piled ≤ x_piled ∧ y_token = x_token ∧ y_end = x_end)) ∧ (1 ≤ y_faultKind ∨ (r0 = 1 ∧ 1 ≤ x_token ∧ (y_token ≤ 0 ∨ x_end + 1 ≤ y_end) ∧ y_piled ≤ x_piled + 1) ∨ (r0 = 0 ∧ y_piled ≤ x_piled - 1 ∧ ((y_token = x_token ∧ y_end = x_end) ∨ y_token ≤ 0 ∨ x_end + 1 ≤ y_end))) ∧ (y_end ≤ x_size) ∧ va_P D vwCl (rW k a x_taped x_size y_faultKind y_faultPlace y_at y_end y_token y_number x_bank x_rb y_codes y_within y_piled x_unitsInRule x_askBeast x_askStroke x_askAge x_askSeason x_acts x_undone x_laid x_seens x_time x_fitting j_name B_tape B_text B_turns B_herds B_irons B_beasts B_units B_night B_draw B_told B_brands B_ironMarks B_herdTold B_born B_ruleFrom B_ruleTo F_code F_codeNumber F_eWhat F_eSign B_pile B_all B_burned B_was B_need B_laidRow B_long8 B_brings B_sBurning B_sStroke B_sIs B_sTold B_sUntold B_parts B_boxAll B_isBoxed G_hName G_iName G_bName ex) H)) := by
  refine metG_of 0 ck_X12_behindUnit (Nat.le_of_ble_eq_true rfl) rMap (fun p e s m args below meth c A hx hb hml hr hlocks hown hts hK hD hA hP hS ls hl => ?_)
  have hown : s.vm.findClass "HideReaderModel" = some m.cls := hown
  have hl : lv_has ls 2 [(0, .ref (a 0))] := hl
  refine lv_aload_n hx hb dX12_behindUnit_0 rfl (lv_at hl 0 rfl) ?_
  refine g_i (rDt hD) hS hA (g_V (own := "HideReaderModel") (As := []) (rest := []) hx hb hml hown hts hK hP (rDt hD) (kr_X12_rankHere (l := l) (D := D) (k := k) h_x_size h_x_at h_x_token b_B_text) ck_X12_rankHere iv_X12_rankHere uw_8_106 (rv_o hK hP) rfl hl.1 rfl (Nat.le_of_ble_eq_true rfl) dX12_behindUnit_1 ⟨Nat.le_of_ble_eq_true rfl, Nat.le_of_ble_eq_true rfl⟩ ⟨Nat.le_of_ble_eq_true rfl, Nat.le_of_ble_eq_true rfl⟩) (fun r_1 H locs hQ hS => ?_)
  obtain ⟨hr_1_0, hr_1_1, hr_1_2, hr_1_3, hP⟩ := hQ
  refine lv_istore_n (lv' := [(1, .int (mI r_1)), (0, .ref (a 0))]) hx hb dX12_behindUnit_4 rfl hl (by decide) rfl (fun ls hl => ?_)
  refine lv_iload_n hx hb dX12_behindUnit_5 rfl (lv_at hl 0 rfl) ?_
  refine lv_iconst (v := mI 4) hx hb dX12_behindUnit_6 rfl ?_
  refine sy_icmp_ne (tgt := 23) hx hb dX12_behindUnit_7 (by decide) (by omega) (by decide) (fun c_2 => ?_) (fun c_2 => ?_)
  · skip
    refine sy_loop (I := fun n H locs g => ∃ (F_910 : Nat → Int) (F_911 : Nat → Int) (y_912 : Int) (y_913 : Int) (y_914 : Int) (ls : Array Slot), (bd (-2147483648) 2147483647 F_910) ∧ (bd (-2147483648) 2147483647 F_911) ∧ (0 ≤ y_912 ∧ y_912 ≤ 1120) ∧ (0 ≤ y_913 ∧ y_913 ≤ 7) ∧ (1 ≤ y_914 ∧ y_914 ≤ 60) ∧ (0 ≤ y_912 - x_codes) ∧ (0 ≤ x_piled - y_914) ∧ (0 ≤ x_within - y_913) ∧ (eI 0 c0 y_912 y_914 y_913 x_unitsInRule F_910 B_eWhat B_eSign) ∧ (1120 - y_912).toNat = n ∧ va_P D vwCl (rW k a x_taped x_size x_faultKind x_faultPlace x_at x_end x_token x_number x_bank x_rb y_912 y_913 y_914 x_unitsInRule x_askBeast x_askStroke x_askAge x_askSeason x_acts x_undone x_laid x_seens x_time x_fitting n_name B_tape B_text B_turns B_herds B_irons B_beasts B_units B_night B_draw B_told B_brands B_ironMarks B_herdTold B_born B_ruleFrom B_ruleTo F_910 F_911 B_eWhat B_eSign B_pile B_all B_burned B_was B_need B_laidRow B_long8 B_brings B_sBurning B_sStroke B_sIs B_sTold B_sUntold B_parts B_boxAll B_isBoxed G_hName G_iName G_bName ex) H ∧ va_S A s.heap H locs ∧ lv_has ls 2 [(1, .int (mI r_1)), (0, .ref (a 0))] ∧ g = F0 m 23 ls []) ?_ _ ⟨B_code, B_codeNumber, x_codes, x_within, x_piled, _, b_B_code, b_B_codeNumber, by omega, by omega, by omega, by omega, by omega, by omega, gW, rfl, hP, hS, lv_sub hl [0, 1] rfl, rfl⟩
    intro n_1024 H locs g hI ih_1025
    obtain ⟨F_910, F_911, y_912, y_913, y_914, ls, bF_910, bF_911, h23_2, h23_3, h23_4, h23_5, h23_6, h23_7, h23_8, mn_1024, hP, hS, hl, rfl⟩ := hI
    refine lv_aload_n hx hb dX12_behindUnit_23 rfl (lv_at hl 1 rfl) ?_
    refine rg_o_eWhat hx hb hts hown hK hP uw_7_53 dX12_behindUnit_24 ?_
    refine lv_aload_n hx hb dX12_behindUnit_27 rfl (lv_at hl 1 rfl) ?_
    refine rg_o_piled hx hb hts hown hK hP uw_7_60 dX12_behindUnit_28 ?_
    refine lv_iconst (v := mI 1) hx hb dX12_behindUnit_31 rfl ?_
    refine sy_isub hx hb dX12_behindUnit_32 (y_914 - 1) rfl ?_
    refine rl_eWhat hx hb hK hP dX12_behindUnit_33 (by omega) b_B_eWhat (fun z_1026 ez_1026 hz_1026 => ?_)
    refine lv_bipush (v := mI 6) hx hb dX12_behindUnit_34 (by decide) ?_
    refine sy_icmp_gt (tgt := 104) hx hb dX12_behindUnit_36 (by decide) (by omega) (by decide) (fun c_1027 => ?_) (fun c_1027 => ?_)
    · skip
      refine lv_iload_n hx hb dX12_behindUnit_104 rfl (lv_at hl 0 rfl) ?_
      refine sy_if_le (tgt := 147) hx hb dX12_behindUnit_105 (by decide) (by omega) (fun c_1028 => ?_) (fun c_1028 => ?_)
      · skip
        have h_1029w := eI_w3 h23_8 ez_1026
        refine lv_aload_n hx hb dX12_behindUnit_147 rfl (lv_at hl 1 rfl) ?_
        refine lv_dup hx hb dX12_behindUnit_148 rfl ?_
        refine rg_o_piled hx hb hts hown hK hP uw_7_60 dX12_behindUnit_149 ?_
        refine lv_iconst (v := mI 1) hx hb dX12_behindUnit_152 rfl ?_
        refine sy_isub hx hb dX12_behindUnit_153 (y_914 - 1) rfl ?_
        refine rp_o_piled hx hb hts hown hK hP hD hS uw_7_60 dX12_behindUnit_154 (fun H locs hP hS => ?_)
        refine lv_aload_n hx hb dX12_behindUnit_157 rfl (lv_at hl 1 rfl) ?_
        refine rg_o_eWhat hx hb hts hown hK hP uw_7_53 dX12_behindUnit_158 ?_
        refine lv_aload_n hx hb dX12_behindUnit_161 rfl (lv_at hl 1 rfl) ?_
        refine rg_o_piled hx hb hts hown hK hP uw_7_60 dX12_behindUnit_162 ?_
        refine rl_eWhat hx hb hK hP dX12_behindUnit_165 (by omega) b_B_eWhat (fun z_1030 ez_1030 hz_1030 => ?_)
        refine lv_bipush (v := mI 7) hx hb dX12_behindUnit_166 (by decide) ?_
        refine sy_icmp_ne (tgt := 191) hx hb dX12_behindUnit_168 (by decide) (by omega) (by decide) (fun c_1031 => ?_) (fun c_1031 => ?_)
        · skip
          refine lv_iconst (v := mI 0) hx hb dX12_behindUnit_191 rfl ?_
          exact r_z hx hb hr hlocks dX12_behindUnit_192 hS (by decide) ⟨x_faultKind, x_faultPlace, x_at, x_end, x_token, x_number, n_name, F_910, F_911, B_eWhat, B_eSign, y_912, y_913, (y_914 - 1), by omega, by omega, by omega, by omega, by omega, by omega, by omega, bF_910, bF_911, b_B_eWhat, b_B_eSign, by omega, by omega, by omega, by omega, by omega, by omega, by omega, (eS_end h23_8 ez_1030 (by omega) (by omega)), by omega, by omega, by omega, g_E, hP⟩
        · skip
          refine lv_aload_n hx hb dX12_behindUnit_171 rfl (lv_at hl 1 rfl) ?_
          refine lv_dup hx hb dX12_behindUnit_172 rfl ?_
          refine rg_o_within hx hb hts hown hK hP uw_7_59 dX12_behindUnit_173 ?_
          refine lv_iconst (v := mI 1) hx hb dX12_behindUnit_176 rfl ?_
          refine sy_isub hx hb dX12_behindUnit_177 (y_913 - 1) rfl ?_
          refine rp_o_within hx hb hts hown hK hP hD hS uw_7_59 dX12_behindUnit_178 (fun H locs hP hS => ?_)
          refine lv_aload_n hx hb dX12_behindUnit_181 rfl (lv_at hl 1 rfl) ?_
          refine lv_aload_n hx hb dX12_behindUnit_182 rfl (lv_at hl 1 rfl) ?_
          refine lv_bipush (v := mI 41) hx hb dX12_behindUnit_183 (by decide) ?_
          refine g_i (rDt hD) hS hA (g_V (own := "HideReaderModel") (As := [.int (mI 41)]) (rest := [.ref (a 0)]) hx hb hml hown hts hK hP (rDt hD) (kr_X12_isSignHere (l := l) (D := D) (k := k) (by decide) h_x_size h_x_at h_x_token b_B_text) ck_X12_isSignHere iv_X12_isSignHere uw_8_90 (rv_o hK hP) rfl hl.1 rfl (Nat.le_of_ble_eq_true rfl) dX12_behindUnit_185 ⟨Nat.le_of_ble_eq_true rfl, Nat.le_of_ble_eq_true rfl⟩ ⟨Nat.le_of_ble_eq_true rfl, Nat.le_of_ble_eq_true rfl⟩) (fun r_1032 H locs hQ hS => ?_)
          obtain ⟨hq_r_1032, hP⟩ := hQ
          rcases hq_r_1032 with ⟨rfl, c_1033_0⟩ | ⟨rfl, c_1034_0, c_1034_1, c_1034_2⟩
          · skip
            refine g_v (rDt hD) hS hA (g_V (own := "HideReaderModel") (As := [.int (mI 0)]) (rest := []) hx hb hml hown hts hK hP (rDt hD) (kr_X12_must (l := l) (D := D) (k := k) (by decide) h_x_size (by omega) h_x_faultPlace h_x_at h_x_end h_x_token h_x_number b_B_text g_E) ck_X12_must iv_X12_must uw_8_62 (rv_o hK hP) rfl hl.1 rfl (Nat.le_of_ble_eq_true rfl) dX12_behindUnit_188 ⟨Nat.le_of_ble_eq_true rfl, Nat.le_of_ble_eq_true rfl⟩ ⟨Nat.le_of_ble_eq_true rfl, Nat.le_of_ble_eq_true rfl⟩) (fun H locs hQ hS => ?_)
            obtain ⟨y_1036, y_1037, y_1038, y_1039, y_1040, y_1041, j_1042, hr_1035_0, hr_1035_1, hr_1035_2, hr_1035_3, hr_1035_4, hr_1035_5, hr_1035_6, hr_1035_7, hr_1035_8, hr_1035_9, hr_1035_10, kr_1035_E, hP⟩ := hQ
            refine lv_iconst (v := mI 0) hx hb dX12_behindUnit_191 rfl ?_
            exact r_z hx hb hr hlocks dX12_behindUnit_192 hS (by decide) ⟨y_1036, y_1037, y_1038, y_1039, y_1040, y_1041, j_1042, F_910, F_911, B_eWhat, B_eSign, y_912, (y_913 - 1), (y_914 - 1), by omega, by omega, by omega, by omega, by omega, by omega, by omega, bF_910, bF_911, b_B_eWhat, b_B_eSign, by omega, by omega, by omega, by omega, by omega, by omega, by omega, (eS_close h23_8 ez_1030 (by omega) (by omega)), by omega, by omega, by omega, kr_1035_E, hP⟩
          · skip
            refine g_v (rDt hD) hS hA (g_V (own := "HideReaderModel") (As := [.int (mI 1)]) (rest := []) hx hb hml hown hts hK hP (rDt hD) (kr_X12_must (l := l) (D := D) (k := k) (by decide) h_x_size (by omega) h_x_faultPlace h_x_at h_x_end h_x_token h_x_number b_B_text g_E) ck_X12_must iv_X12_must uw_8_62 (rv_o hK hP) rfl hl.1 rfl (Nat.le_of_ble_eq_true rfl) dX12_behindUnit_188 ⟨Nat.le_of_ble_eq_true rfl, Nat.le_of_ble_eq_true rfl⟩ ⟨Nat.le_of_ble_eq_true rfl, Nat.le_of_ble_eq_true rfl⟩) (fun H locs hQ hS => ?_)
            obtain ⟨y_1044, y_1045, y_1046, y_1047, y_1048, y_1049, j_1050, hr_1043_0, hr_1043_1, hr_1043_2, hr_1043_3, hr_1043_4, hr_1043_5, hr_1043_6, hr_1043_7, hr_1043_8, hr_1043_9, hr_1043_10, kr_1043_E, hP⟩ := hQ
            refine lv_iconst (v := mI 0) hx hb dX12_behindUnit_191 rfl ?_
            exact r_z hx hb hr hlocks dX12_behindUnit_192 hS (by decide) ⟨y_1044, y_1045, y_1046, y_1047, y_1048, y_1049, j_1050, F_910, F_911, B_eWhat, B_eSign, y_912, (y_913 - 1), (y_914 - 1), by omega, by omega, by omega, by omega, by omega, by omega, by omega, bF_910, bF_911, b_B_eWhat, b_B_eSign, by omega, by omega, by omega, by omega, by omega, by omega, by omega, (eS_close h23_8 ez_1030 (by omega) (by omega)), by omega, by omega, by omega, kr_1043_E, hP⟩
      · skip
        refine lv_aload_n hx hb dX12_behindUnit_108 rfl (lv_at hl 1 rfl) ?_
        refine lv_iload_n hx hb dX12_behindUnit_109 rfl (lv_at hl 0 rfl) ?_
        refine lv_iload_n hx hb dX12_behindUnit_110 rfl (lv_at hl 0 rfl) ?_
        refine lv_iconst (v := mI 2) hx hb dX12_behindUnit_111 rfl ?_
        refine sy_icmp_ne (tgt := 120) hx hb dX12_behindUnit_112 (by decide) (by omega) (by decide) (fun c_1051 => ?_) (fun c_1051 => ?_)
        · skip
          refine lv_iload_n hx hb dX12_behindUnit_120 rfl (lv_at hl 0 rfl) ?_
          refine lv_iconst (v := mI 1) hx hb dX12_behindUnit_121 rfl ?_
          refine sy_icmp_ne (tgt := 130) hx hb dX12_behindUnit_122 (by decide) (by omega) (by decide) (fun c_1052 => ?_) (fun c_1052 => ?_)
          · skip
            refine lv_aload_n hx hb dX12_behindUnit_130 rfl (lv_at hl 1 rfl) ?_
            refine lv_aload_n hx hb dX12_behindUnit_131 rfl (lv_at hl 1 rfl) ?_
            refine rg_o_at hx hb hts hown hK hP uw_7_29 dX12_behindUnit_132 ?_
            refine g_i (rDt hD) hS hA (g_V (own := "HideReaderModel") (As := [.int (mI x_at)]) (rest := [.int (mI r_1), .ref (a 0)]) hx hb hml hown hts hK hP (rDt hD) (kr_X12_sign (l := l) (D := D) (k := k) (by omega) h_x_size b_B_text) ck_X12_sign iv_X12_sign uw_7_224 (rv_o hK hP) rfl hl.1 rfl (Nat.le_of_ble_eq_true rfl) dX12_behindUnit_135 ⟨Nat.le_of_ble_eq_true rfl, Nat.le_of_ble_eq_true rfl⟩ ⟨Nat.le_of_ble_eq_true rfl, Nat.le_of_ble_eq_true rfl⟩) (fun r_1053 H locs hQ hS => ?_)
            obtain ⟨hr_1053_0, hr_1053_1, hr_1053_2, hP⟩ := hQ
            refine g_v (rDt hD) hS hA (g_V (own := "HideReaderModel") (As := [.int (mI r_1), .int (mI r_1053)]) (rest := []) hx hb hml hown hts hK hP (rDt hD) (kr_X12_pushE (l := l) (D := D) (k := k) (by omega) (by omega) (by omega) b_B_eWhat b_B_eSign) ck_X12_pushE iv_X12_pushE uw_8_82 (rv_o hK hP) rfl hl.1 rfl (Nat.le_of_ble_eq_true rfl) dX12_behindUnit_138 ⟨Nat.le_of_ble_eq_true rfl, Nat.le_of_ble_eq_true rfl⟩ ⟨Nat.le_of_ble_eq_true rfl, Nat.le_of_ble_eq_true rfl⟩) (fun H locs hQ hS => ?_)
            obtain ⟨F_1055, F_1056, y_1057, bF_1055, bF_1056, hr_1054_2, hr_1054_3, hr_1054_4, hr_1054_5, hr_1054_6, hP⟩ := hQ
            refine lv_aload_n hx hb dX12_behindUnit_141 rfl (lv_at hl 1 rfl) ?_
            refine g_v (rDt hD) hS hA (g_V (own := "HideReaderModel") (As := []) (rest := []) hx hb hml hown hts hK hP (rDt hD) (kr_X12_goOn (l := l) (D := D) (k := k) h_x_size h_x_end h_x_number b_B_text g_E) ck_X12_goOn iv_X12_goOn uw_7_220 (rv_o hK hP) rfl hl.1 rfl (Nat.le_of_ble_eq_true rfl) dX12_behindUnit_142 ⟨Nat.le_of_ble_eq_true rfl, Nat.le_of_ble_eq_true rfl⟩ ⟨Nat.le_of_ble_eq_true rfl, Nat.le_of_ble_eq_true rfl⟩) (fun H locs hQ hS => ?_)
            obtain ⟨y_1059, y_1060, y_1061, y_1062, j_1063, hr_1058_0, hr_1058_1, hr_1058_2, hr_1058_3, hr_1058_4, hr_1058_5, kr_1058_E, hP⟩ := hQ
            refine lv_iconst (v := mI 1) hx hb dX12_behindUnit_145 rfl ?_
            exact r_z hx hb hr hlocks dX12_behindUnit_146 hS (by decide) ⟨x_faultKind, x_faultPlace, y_1059, y_1060, y_1061, y_1062, j_1063, F_910, F_911, F_1055, F_1056, y_912, y_913, y_1057, by omega, by omega, by omega, by omega, by omega, by omega, by omega, bF_910, bF_911, bF_1055, bF_1056, by omega, by omega, by omega, by omega, by omega, by omega, by omega, (eS_bin h23_8 (by omega) (by omega) hr_1054_5 hr_1054_6 (by omega) (by omega)), by omega, by omega, by omega, kr_1058_E, hP⟩
          · skip
            refine lv_bipush (v := mI 124) hx hb dX12_behindUnit_125 (by decide) ?_
            refine lv_goto (tgt := 138) hx hb dX12_behindUnit_127 (by decide) ?_
            refine g_v (rDt hD) hS hA (g_V (own := "HideReaderModel") (As := [.int (mI r_1), .int (mI 124)]) (rest := []) hx hb hml hown hts hK hP (rDt hD) (kr_X12_pushE (l := l) (D := D) (k := k) (by omega) (by decide) (by omega) b_B_eWhat b_B_eSign) ck_X12_pushE iv_X12_pushE uw_8_82 (rv_o hK hP) rfl hl.1 rfl (Nat.le_of_ble_eq_true rfl) dX12_behindUnit_138 ⟨Nat.le_of_ble_eq_true rfl, Nat.le_of_ble_eq_true rfl⟩ ⟨Nat.le_of_ble_eq_true rfl, Nat.le_of_ble_eq_true rfl⟩) (fun H locs hQ hS => ?_)
            obtain ⟨F_1065, F_1066, y_1067, bF_1065, bF_1066, hr_1064_2, hr_1064_3, hr_1064_4, hr_1064_5, hr_1064_6, hP⟩ := hQ
            refine lv_aload_n hx hb dX12_behindUnit_141 rfl (lv_at hl 1 rfl) ?_
            refine g_v (rDt hD) hS hA (g_V (own := "HideReaderModel") (As := []) (rest := []) hx hb hml hown hts hK hP (rDt hD) (kr_X12_goOn (l := l) (D := D) (k := k) h_x_size h_x_end h_x_number b_B_text g_E) ck_X12_goOn iv_X12_goOn uw_7_220 (rv_o hK hP) rfl hl.1 rfl (Nat.le_of_ble_eq_true rfl) dX12_behindUnit_142 ⟨Nat.le_of_ble_eq_true rfl, Nat.le_of_ble_eq_true rfl⟩ ⟨Nat.le_of_ble_eq_true rfl, Nat.le_of_ble_eq_true rfl⟩) (fun H locs hQ hS => ?_)
            obtain ⟨y_1069, y_1070, y_1071, y_1072, j_1073, hr_1068_0, hr_1068_1, hr_1068_2, hr_1068_3, hr_1068_4, hr_1068_5, kr_1068_E, hP⟩ := hQ
            refine lv_iconst (v := mI 1) hx hb dX12_behindUnit_145 rfl ?_
            exact r_z hx hb hr hlocks dX12_behindUnit_146 hS (by decide) ⟨x_faultKind, x_faultPlace, y_1069, y_1070, y_1071, y_1072, j_1073, F_910, F_911, F_1065, F_1066, y_912, y_913, y_1067, by omega, by omega, by omega, by omega, by omega, by omega, by omega, bF_910, bF_911, bF_1065, bF_1066, by omega, by omega, by omega, by omega, by omega, by omega, by omega, (eS_bin h23_8 (by omega) (by omega) hr_1064_5 hr_1064_6 (by omega) (by omega)), by omega, by omega, by omega, kr_1068_E, hP⟩
        · skip
          refine lv_bipush (v := mI 38) hx hb dX12_behindUnit_115 (by decide) ?_
          refine lv_goto (tgt := 138) hx hb dX12_behindUnit_117 (by decide) ?_
          refine g_v (rDt hD) hS hA (g_V (own := "HideReaderModel") (As := [.int (mI r_1), .int (mI 38)]) (rest := []) hx hb hml hown hts hK hP (rDt hD) (kr_X12_pushE (l := l) (D := D) (k := k) (by omega) (by decide) (by omega) b_B_eWhat b_B_eSign) ck_X12_pushE iv_X12_pushE uw_8_82 (rv_o hK hP) rfl hl.1 rfl (Nat.le_of_ble_eq_true rfl) dX12_behindUnit_138 ⟨Nat.le_of_ble_eq_true rfl, Nat.le_of_ble_eq_true rfl⟩ ⟨Nat.le_of_ble_eq_true rfl, Nat.le_of_ble_eq_true rfl⟩) (fun H locs hQ hS => ?_)
          obtain ⟨F_1075, F_1076, y_1077, bF_1075, bF_1076, hr_1074_2, hr_1074_3, hr_1074_4, hr_1074_5, hr_1074_6, hP⟩ := hQ
          refine lv_aload_n hx hb dX12_behindUnit_141 rfl (lv_at hl 1 rfl) ?_
          refine g_v (rDt hD) hS hA (g_V (own := "HideReaderModel") (As := []) (rest := []) hx hb hml hown hts hK hP (rDt hD) (kr_X12_goOn (l := l) (D := D) (k := k) h_x_size h_x_end h_x_number b_B_text g_E) ck_X12_goOn iv_X12_goOn uw_7_220 (rv_o hK hP) rfl hl.1 rfl (Nat.le_of_ble_eq_true rfl) dX12_behindUnit_142 ⟨Nat.le_of_ble_eq_true rfl, Nat.le_of_ble_eq_true rfl⟩ ⟨Nat.le_of_ble_eq_true rfl, Nat.le_of_ble_eq_true rfl⟩) (fun H locs hQ hS => ?_)
          obtain ⟨y_1079, y_1080, y_1081, y_1082, j_1083, hr_1078_0, hr_1078_1, hr_1078_2, hr_1078_3, hr_1078_4, hr_1078_5, kr_1078_E, hP⟩ := hQ
          refine lv_iconst (v := mI 1) hx hb dX12_behindUnit_145 rfl ?_
          exact r_z hx hb hr hlocks dX12_behindUnit_146 hS (by decide) ⟨x_faultKind, x_faultPlace, y_1079, y_1080, y_1081, y_1082, j_1083, F_910, F_911, F_1075, F_1076, y_912, y_913, y_1077, by omega, by omega, by omega, by omega, by omega, by omega, by omega, bF_910, bF_911, bF_1075, bF_1076, by omega, by omega, by omega, by omega, by omega, by omega, by omega, (eS_bin h23_8 (by omega) (by omega) hr_1074_5 hr_1074_6 (by omega) (by omega)), by omega, by omega, by omega, kr_1078_E, hP⟩
    · skip
      refine lv_aload_n hx hb dX12_behindUnit_39 rfl (lv_at hl 1 rfl) ?_
      refine rg_o_eWhat hx hb hts hown hK hP uw_7_53 dX12_behindUnit_40 ?_
      refine lv_aload_n hx hb dX12_behindUnit_43 rfl (lv_at hl 1 rfl) ?_
      refine rg_o_piled hx hb hts hown hK hP uw_7_60 dX12_behindUnit_44 ?_
      refine lv_iconst (v := mI 1) hx hb dX12_behindUnit_47 rfl ?_
      refine sy_isub hx hb dX12_behindUnit_48 (y_914 - 1) rfl ?_
      refine rl_eWhat hx hb hK hP dX12_behindUnit_49 (by omega) b_B_eWhat (fun z_1084 ez_1084 hz_1084 => ?_)
      refine lv_iload_n hx hb dX12_behindUnit_50 rfl (lv_at hl 0 rfl) ?_
      refine sy_icmp_lt (tgt := 104) hx hb dX12_behindUnit_51 (by decide) (by omega) (by omega) (fun c_1085 => ?_) (fun c_1085 => ?_)
      · skip
        refine lv_iload_n hx hb dX12_behindUnit_104 rfl (lv_at hl 0 rfl) ?_
        refine sy_if_le (tgt := 147) hx hb dX12_behindUnit_105 (by decide) (by omega) (fun c9 => False.elim (by omega)) (fun c_1086 => ?_)
        refine lv_aload_n hx hb dX12_behindUnit_108 rfl (lv_at hl 1 rfl) ?_
        refine lv_iload_n hx hb dX12_behindUnit_109 rfl (lv_at hl 0 rfl) ?_
        refine lv_iload_n hx hb dX12_behindUnit_110 rfl (lv_at hl 0 rfl) ?_
        refine lv_iconst (v := mI 2) hx hb dX12_behindUnit_111 rfl ?_
        refine sy_icmp_ne (tgt := 120) hx hb dX12_behindUnit_112 (by decide) (by omega) (by decide) (fun c_1087 => ?_) (fun c_1087 => ?_)
        · skip
          refine lv_iload_n hx hb dX12_behindUnit_120 rfl (lv_at hl 0 rfl) ?_
          refine lv_iconst (v := mI 1) hx hb dX12_behindUnit_121 rfl ?_
          refine sy_icmp_ne (tgt := 130) hx hb dX12_behindUnit_122 (by decide) (by omega) (by decide) (fun c_1088 => ?_) (fun c_1088 => ?_)
          · skip
            refine lv_aload_n hx hb dX12_behindUnit_130 rfl (lv_at hl 1 rfl) ?_
            refine lv_aload_n hx hb dX12_behindUnit_131 rfl (lv_at hl 1 rfl) ?_
            refine rg_o_at hx hb hts hown hK hP uw_7_29 dX12_behindUnit_132 ?_
            refine g_i (rDt hD) hS hA (g_V (own := "HideReaderModel") (As := [.int (mI x_at)]) (rest := [.int (mI r_1), .ref (a 0)]) hx hb hml hown hts hK hP (rDt hD) (kr_X12_sign (l := l) (D := D) (k := k) (by omega) h_x_size b_B_text) ck_X12_sign iv_X12_sign uw_7_224 (rv_o hK hP) rfl hl.1 rfl (Nat.le_of_ble_eq_true rfl) dX12_behindUnit_135 ⟨Nat.le_of_ble_eq_true rfl, Nat.le_of_ble_eq_true rfl⟩ ⟨Nat.le_of_ble_eq_true rfl, Nat.le_of_ble_eq_true rfl⟩) (fun r_1089 H locs hQ hS => ?_)
            obtain ⟨hr_1089_0, hr_1089_1, hr_1089_2, hP⟩ := hQ
            refine g_v (rDt hD) hS hA (g_V (own := "HideReaderModel") (As := [.int (mI r_1), .int (mI r_1089)]) (rest := []) hx hb hml hown hts hK hP (rDt hD) (kr_X12_pushE (l := l) (D := D) (k := k) (by omega) (by omega) (by omega) b_B_eWhat b_B_eSign) ck_X12_pushE iv_X12_pushE uw_8_82 (rv_o hK hP) rfl hl.1 rfl (Nat.le_of_ble_eq_true rfl) dX12_behindUnit_138 ⟨Nat.le_of_ble_eq_true rfl, Nat.le_of_ble_eq_true rfl⟩ ⟨Nat.le_of_ble_eq_true rfl, Nat.le_of_ble_eq_true rfl⟩) (fun H locs hQ hS => ?_)
            obtain ⟨F_1091, F_1092, y_1093, bF_1091, bF_1092, hr_1090_2, hr_1090_3, hr_1090_4, hr_1090_5, hr_1090_6, hP⟩ := hQ
            refine lv_aload_n hx hb dX12_behindUnit_141 rfl (lv_at hl 1 rfl) ?_
            refine g_v (rDt hD) hS hA (g_V (own := "HideReaderModel") (As := []) (rest := []) hx hb hml hown hts hK hP (rDt hD) (kr_X12_goOn (l := l) (D := D) (k := k) h_x_size h_x_end h_x_number b_B_text g_E) ck_X12_goOn iv_X12_goOn uw_7_220 (rv_o hK hP) rfl hl.1 rfl (Nat.le_of_ble_eq_true rfl) dX12_behindUnit_142 ⟨Nat.le_of_ble_eq_true rfl, Nat.le_of_ble_eq_true rfl⟩ ⟨Nat.le_of_ble_eq_true rfl, Nat.le_of_ble_eq_true rfl⟩) (fun H locs hQ hS => ?_)
            obtain ⟨y_1095, y_1096, y_1097, y_1098, j_1099, hr_1094_0, hr_1094_1, hr_1094_2, hr_1094_3, hr_1094_4, hr_1094_5, kr_1094_E, hP⟩ := hQ
            refine lv_iconst (v := mI 1) hx hb dX12_behindUnit_145 rfl ?_
            exact r_z hx hb hr hlocks dX12_behindUnit_146 hS (by decide) ⟨x_faultKind, x_faultPlace, y_1095, y_1096, y_1097, y_1098, j_1099, F_910, F_911, F_1091, F_1092, y_912, y_913, y_1093, by omega, by omega, by omega, by omega, by omega, by omega, by omega, bF_910, bF_911, bF_1091, bF_1092, by omega, by omega, by omega, by omega, by omega, by omega, by omega, (eS_bin h23_8 (by omega) (by omega) hr_1090_5 hr_1090_6 (by omega) (by omega)), by omega, by omega, by omega, kr_1094_E, hP⟩
          · skip
            refine lv_bipush (v := mI 124) hx hb dX12_behindUnit_125 (by decide) ?_
            refine lv_goto (tgt := 138) hx hb dX12_behindUnit_127 (by decide) ?_
            refine g_v (rDt hD) hS hA (g_V (own := "HideReaderModel") (As := [.int (mI r_1), .int (mI 124)]) (rest := []) hx hb hml hown hts hK hP (rDt hD) (kr_X12_pushE (l := l) (D := D) (k := k) (by omega) (by decide) (by omega) b_B_eWhat b_B_eSign) ck_X12_pushE iv_X12_pushE uw_8_82 (rv_o hK hP) rfl hl.1 rfl (Nat.le_of_ble_eq_true rfl) dX12_behindUnit_138 ⟨Nat.le_of_ble_eq_true rfl, Nat.le_of_ble_eq_true rfl⟩ ⟨Nat.le_of_ble_eq_true rfl, Nat.le_of_ble_eq_true rfl⟩) (fun H locs hQ hS => ?_)
            obtain ⟨F_1101, F_1102, y_1103, bF_1101, bF_1102, hr_1100_2, hr_1100_3, hr_1100_4, hr_1100_5, hr_1100_6, hP⟩ := hQ
            refine lv_aload_n hx hb dX12_behindUnit_141 rfl (lv_at hl 1 rfl) ?_
            refine g_v (rDt hD) hS hA (g_V (own := "HideReaderModel") (As := []) (rest := []) hx hb hml hown hts hK hP (rDt hD) (kr_X12_goOn (l := l) (D := D) (k := k) h_x_size h_x_end h_x_number b_B_text g_E) ck_X12_goOn iv_X12_goOn uw_7_220 (rv_o hK hP) rfl hl.1 rfl (Nat.le_of_ble_eq_true rfl) dX12_behindUnit_142 ⟨Nat.le_of_ble_eq_true rfl, Nat.le_of_ble_eq_true rfl⟩ ⟨Nat.le_of_ble_eq_true rfl, Nat.le_of_ble_eq_true rfl⟩) (fun H locs hQ hS => ?_)
            obtain ⟨y_1105, y_1106, y_1107, y_1108, j_1109, hr_1104_0, hr_1104_1, hr_1104_2, hr_1104_3, hr_1104_4, hr_1104_5, kr_1104_E, hP⟩ := hQ
            refine lv_iconst (v := mI 1) hx hb dX12_behindUnit_145 rfl ?_
            exact r_z hx hb hr hlocks dX12_behindUnit_146 hS (by decide) ⟨x_faultKind, x_faultPlace, y_1105, y_1106, y_1107, y_1108, j_1109, F_910, F_911, F_1101, F_1102, y_912, y_913, y_1103, by omega, by omega, by omega, by omega, by omega, by omega, by omega, bF_910, bF_911, bF_1101, bF_1102, by omega, by omega, by omega, by omega, by omega, by omega, by omega, (eS_bin h23_8 (by omega) (by omega) hr_1100_5 hr_1100_6 (by omega) (by omega)), by omega, by omega, by omega, kr_1104_E, hP⟩
        · skip
          refine lv_bipush (v := mI 38) hx hb dX12_behindUnit_115 (by decide) ?_
          refine lv_goto (tgt := 138) hx hb dX12_behindUnit_117 (by decide) ?_
          refine g_v (rDt hD) hS hA (g_V (own := "HideReaderModel") (As := [.int (mI r_1), .int (mI 38)]) (rest := []) hx hb hml hown hts hK hP (rDt hD) (kr_X12_pushE (l := l) (D := D) (k := k) (by omega) (by decide) (by omega) b_B_eWhat b_B_eSign) ck_X12_pushE iv_X12_pushE uw_8_82 (rv_o hK hP) rfl hl.1 rfl (Nat.le_of_ble_eq_true rfl) dX12_behindUnit_138 ⟨Nat.le_of_ble_eq_true rfl, Nat.le_of_ble_eq_true rfl⟩ ⟨Nat.le_of_ble_eq_true rfl, Nat.le_of_ble_eq_true rfl⟩) (fun H locs hQ hS => ?_)
          obtain ⟨F_1111, F_1112, y_1113, bF_1111, bF_1112, hr_1110_2, hr_1110_3, hr_1110_4, hr_1110_5, hr_1110_6, hP⟩ := hQ
          refine lv_aload_n hx hb dX12_behindUnit_141 rfl (lv_at hl 1 rfl) ?_
          refine g_v (rDt hD) hS hA (g_V (own := "HideReaderModel") (As := []) (rest := []) hx hb hml hown hts hK hP (rDt hD) (kr_X12_goOn (l := l) (D := D) (k := k) h_x_size h_x_end h_x_number b_B_text g_E) ck_X12_goOn iv_X12_goOn uw_7_220 (rv_o hK hP) rfl hl.1 rfl (Nat.le_of_ble_eq_true rfl) dX12_behindUnit_142 ⟨Nat.le_of_ble_eq_true rfl, Nat.le_of_ble_eq_true rfl⟩ ⟨Nat.le_of_ble_eq_true rfl, Nat.le_of_ble_eq_true rfl⟩) (fun H locs hQ hS => ?_)
          obtain ⟨y_1115, y_1116, y_1117, y_1118, j_1119, hr_1114_0, hr_1114_1, hr_1114_2, hr_1114_3, hr_1114_4, hr_1114_5, kr_1114_E, hP⟩ := hQ
          refine lv_iconst (v := mI 1) hx hb dX12_behindUnit_145 rfl ?_
          exact r_z hx hb hr hlocks dX12_behindUnit_146 hS (by decide) ⟨x_faultKind, x_faultPlace, y_1115, y_1116, y_1117, y_1118, j_1119, F_910, F_911, F_1111, F_1112, y_912, y_913, y_1113, by omega, by omega, by omega, by omega, by omega, by omega, by omega, bF_910, bF_911, bF_1111, bF_1112, by omega, by omega, by omega, by omega, by omega, by omega, by omega, (eS_bin h23_8 (by omega) (by omega) hr_1110_5 hr_1110_6 (by omega) (by omega)), by omega, by omega, by omega, kr_1114_E, hP⟩
      · skip
        have h_1120 := eI_b h23_8
        have h_1120u := b_B_units x_rb.toNat
        have h_1120c : y_912 ≤ 1119 := by omega
        have h_1120w := eI_w3 h23_8 ez_1084
        have h_1120p := eI_not1 h23_8 ez_1084
        refine lv_aload_n hx hb dX12_behindUnit_54 rfl (lv_at hl 1 rfl) ?_
        refine lv_dup hx hb dX12_behindUnit_55 rfl ?_
        refine rg_o_piled hx hb hts hown hK hP uw_7_60 dX12_behindUnit_56 ?_
        refine lv_iconst (v := mI 1) hx hb dX12_behindUnit_59 rfl ?_
        refine sy_isub hx hb dX12_behindUnit_60 (y_914 - 1) rfl ?_
        refine rp_o_piled hx hb hts hown hK hP hD hS uw_7_60 dX12_behindUnit_61 (fun H locs hP hS => ?_)
        refine lv_aload_n hx hb dX12_behindUnit_64 rfl (lv_at hl 1 rfl) ?_
        refine rg_o_eWhat hx hb hts hown hK hP uw_7_53 dX12_behindUnit_65 ?_
        refine lv_aload_n hx hb dX12_behindUnit_68 rfl (lv_at hl 1 rfl) ?_
        refine rg_o_piled hx hb hts hown hK hP uw_7_60 dX12_behindUnit_69 ?_
        refine rl_eWhat hx hb hK hP dX12_behindUnit_72 (by omega) b_B_eWhat (fun z_1121 ez_1121 hz_1121 => ?_)
        refine lv_iconst (v := mI 3) hx hb dX12_behindUnit_73 rfl ?_
        refine sy_icmp_ne (tgt := 87) hx hb dX12_behindUnit_74 (by decide) (by omega) (by decide) (fun c_1122 => ?_) (fun c_1122 => ?_)
        · skip
          refine lv_aload_n hx hb dX12_behindUnit_87 rfl (lv_at hl 1 rfl) ?_
          refine lv_aload_n hx hb dX12_behindUnit_88 rfl (lv_at hl 1 rfl) ?_
          refine rg_o_eSign hx hb hts hown hK hP uw_7_54 dX12_behindUnit_89 ?_
          refine lv_aload_n hx hb dX12_behindUnit_92 rfl (lv_at hl 1 rfl) ?_
          refine rg_o_piled hx hb hts hown hK hP uw_7_60 dX12_behindUnit_93 ?_
          refine rl_eSign hx hb hK hP dX12_behindUnit_96 (by omega) b_B_eSign (fun z_1123 ez_1123 hz_1123 => ?_)
          refine lv_iconst (v := mI 0) hx hb dX12_behindUnit_97 rfl ?_
          refine g_v (rDt hD) hS hA (g_V (own := "HideReaderModel") (As := [.int (mI z_1123), .int (mI 0)]) (rest := []) hx hb hml hown hts hK hP (rDt hD) (kr_X12_emit (l := l) (D := D) (k := k) (by omega) (by decide) (by omega) bF_910 bF_911) ck_X12_emit iv_X12_emit uw_8_98 (rv_o hK hP) rfl hl.1 rfl (Nat.le_of_ble_eq_true rfl) dX12_behindUnit_98 ⟨Nat.le_of_ble_eq_true rfl, Nat.le_of_ble_eq_true rfl⟩ ⟨Nat.le_of_ble_eq_true rfl, Nat.le_of_ble_eq_true rfl⟩) (fun H locs hQ hS => ?_)
          obtain ⟨F_1125, F_1126, y_1127, bF_1125, bF_1126, hr_1124_2, hr_1124_3, hr_1124_4, hr_1124_5, hP⟩ := hQ
          obtain ⟨g_1128p, g_1128⟩ := eS_pop (within2 := y_913) h23_8 ez_1121 (by omega) ez_1123 hr_1124_5 (by omega) (by omega)
          refine lv_goto (tgt := 23) hx hb dX12_behindUnit_101 (by decide) ?_
          exact ih_1025 _ _ _ _ (by omega) ⟨F_1125, F_1126, y_1127, y_913, (y_914 - 1), _, bF_1125, bF_1126, by omega, by omega, by omega, by omega, by omega, by omega, g_1128, rfl, hP, hS, lv_sub hl [0, 1] rfl, rfl⟩
        · skip
          refine lv_aload_n hx hb dX12_behindUnit_77 rfl (lv_at hl 1 rfl) ?_
          refine lv_dup hx hb dX12_behindUnit_78 rfl ?_
          refine rg_o_within hx hb hts hown hK hP uw_7_59 dX12_behindUnit_79 ?_
          refine lv_iconst (v := mI 1) hx hb dX12_behindUnit_82 rfl ?_
          refine sy_isub hx hb dX12_behindUnit_83 (y_913 - 1) rfl ?_
          refine rp_o_within hx hb hts hown hK hP hD hS uw_7_59 dX12_behindUnit_84 (fun H locs hP hS => ?_)
          refine lv_aload_n hx hb dX12_behindUnit_87 rfl (lv_at hl 1 rfl) ?_
          refine lv_aload_n hx hb dX12_behindUnit_88 rfl (lv_at hl 1 rfl) ?_
          refine rg_o_eSign hx hb hts hown hK hP uw_7_54 dX12_behindUnit_89 ?_
          refine lv_aload_n hx hb dX12_behindUnit_92 rfl (lv_at hl 1 rfl) ?_
          refine rg_o_piled hx hb hts hown hK hP uw_7_60 dX12_behindUnit_93 ?_
          refine rl_eSign hx hb hK hP dX12_behindUnit_96 (by omega) b_B_eSign (fun z_1129 ez_1129 hz_1129 => ?_)
          refine lv_iconst (v := mI 0) hx hb dX12_behindUnit_97 rfl ?_
          refine g_v (rDt hD) hS hA (g_V (own := "HideReaderModel") (As := [.int (mI z_1129), .int (mI 0)]) (rest := []) hx hb hml hown hts hK hP (rDt hD) (kr_X12_emit (l := l) (D := D) (k := k) (by omega) (by decide) (by omega) bF_910 bF_911) ck_X12_emit iv_X12_emit uw_8_98 (rv_o hK hP) rfl hl.1 rfl (Nat.le_of_ble_eq_true rfl) dX12_behindUnit_98 ⟨Nat.le_of_ble_eq_true rfl, Nat.le_of_ble_eq_true rfl⟩ ⟨Nat.le_of_ble_eq_true rfl, Nat.le_of_ble_eq_true rfl⟩) (fun H locs hQ hS => ?_)
          obtain ⟨F_1131, F_1132, y_1133, bF_1131, bF_1132, hr_1130_2, hr_1130_3, hr_1130_4, hr_1130_5, hP⟩ := hQ
          obtain ⟨g_1134p, g_1134⟩ := eS_pop (within2 := (y_913 - 1)) h23_8 ez_1121 (by omega) ez_1129 hr_1130_5 (by omega) (by omega)
          refine lv_goto (tgt := 23) hx hb dX12_behindUnit_101 (by decide) ?_
          exact ih_1025 _ _ _ _ (by omega) ⟨F_1131, F_1132, y_1133, (y_913 - 1), (y_914 - 1), _, bF_1131, bF_1132, by omega, by omega, by omega, by omega, by omega, by omega, g_1134, rfl, hP, hS, lv_sub hl [0, 1] rfl, rfl⟩
  · skip
    refine lv_aload_n hx hb dX12_behindUnit_10 rfl (lv_at hl 1 rfl) ?_
    refine g_i (rDt hD) hS hA (g_V (own := "HideReaderModel") (As := []) (rest := []) hx hb hml hown hts hK hP (rDt hD) (kr_X12_isCompared (l := l) (D := D) (k := k) (by omega) b_B_eWhat (eI_b gW).2.2.2.2) ck_X12_isCompared iv_X12_isCompared uw_8_110 (rv_o hK hP) rfl hl.1 rfl (Nat.le_of_ble_eq_true rfl) dX12_behindUnit_11 ⟨Nat.le_of_ble_eq_true rfl, Nat.le_of_ble_eq_true rfl⟩ ⟨Nat.le_of_ble_eq_true rfl, Nat.le_of_ble_eq_true rfl⟩) (fun r_1135 H locs hQ hS => ?_)
    obtain ⟨hr_1135_0, hP⟩ := hQ
    refine sy_if_eq (tgt := 23) hx hb dX12_behindUnit_14 (by decide) (by omega) (fun c_1136 => ?_) (fun c_1136 => ?_)
    · skip
      refine sy_loop (I := fun n H locs g => ∃ (F_1493 : Nat → Int) (F_1494 : Nat → Int) (y_1495 : Int) (y_1496 : Int) (ls : Array Slot), (bd (-2147483648) 2147483647 F_1493) ∧ (bd (-2147483648) 2147483647 F_1494) ∧ (0 ≤ y_1495 ∧ y_1495 ≤ 1120) ∧ (1 ≤ y_1496 ∧ y_1496 ≤ 60) ∧ (0 ≤ y_1495 - x_codes) ∧ (0 ≤ x_piled - y_1496) ∧ (eI 0 c0 y_1495 y_1496 x_within x_unitsInRule F_1493 B_eWhat B_eSign) ∧ (1120 - y_1495).toNat = n ∧ va_P D vwCl (rW k a x_taped x_size x_faultKind x_faultPlace x_at x_end x_token x_number x_bank x_rb y_1495 x_within y_1496 x_unitsInRule x_askBeast x_askStroke x_askAge x_askSeason x_acts x_undone x_laid x_seens x_time x_fitting n_name B_tape B_text B_turns B_herds B_irons B_beasts B_units B_night B_draw B_told B_brands B_ironMarks B_herdTold B_born B_ruleFrom B_ruleTo F_1493 F_1494 B_eWhat B_eSign B_pile B_all B_burned B_was B_need B_laidRow B_long8 B_brings B_sBurning B_sStroke B_sIs B_sTold B_sUntold B_parts B_boxAll B_isBoxed G_hName G_iName G_bName ex) H ∧ va_S A s.heap H locs ∧ lv_has ls 2 [(1, .int (mI r_1)), (0, .ref (a 0))] ∧ g = F0 m 23 ls []) ?_ _ ⟨B_code, B_codeNumber, x_codes, x_piled, _, b_B_code, b_B_codeNumber, by omega, by omega, by omega, by omega, gW, rfl, hP, hS, lv_sub hl [0, 1] rfl, rfl⟩
      intro n_1538 H locs g hI ih_1539
      obtain ⟨F_1493, F_1494, y_1495, y_1496, ls, bF_1493, bF_1494, h23_2, h23_3, h23_4, h23_5, h23_6, mn_1538, hP, hS, hl, rfl⟩ := hI
      refine lv_aload_n hx hb dX12_behindUnit_23 rfl (lv_at hl 1 rfl) ?_
      refine rg_o_eWhat hx hb hts hown hK hP uw_7_53 dX12_behindUnit_24 ?_
      refine lv_aload_n hx hb dX12_behindUnit_27 rfl (lv_at hl 1 rfl) ?_
      refine rg_o_piled hx hb hts hown hK hP uw_7_60 dX12_behindUnit_28 ?_
      refine lv_iconst (v := mI 1) hx hb dX12_behindUnit_31 rfl ?_
      refine sy_isub hx hb dX12_behindUnit_32 (y_1496 - 1) rfl ?_
      refine rl_eWhat hx hb hK hP dX12_behindUnit_33 (by omega) b_B_eWhat (fun z_1540 ez_1540 hz_1540 => ?_)
      refine lv_bipush (v := mI 6) hx hb dX12_behindUnit_34 (by decide) ?_
      refine sy_icmp_gt (tgt := 104) hx hb dX12_behindUnit_36 (by decide) (by omega) (by decide) (fun c_1541 => ?_) (fun c_1541 => ?_)
      · skip
        refine lv_iload_n hx hb dX12_behindUnit_104 rfl (lv_at hl 0 rfl) ?_
        refine sy_if_le (tgt := 147) hx hb dX12_behindUnit_105 (by decide) (by omega) (fun c9 => False.elim (by omega)) (fun c_1542 => ?_)
        refine lv_aload_n hx hb dX12_behindUnit_108 rfl (lv_at hl 1 rfl) ?_
        refine lv_iload_n hx hb dX12_behindUnit_109 rfl (lv_at hl 0 rfl) ?_
        refine lv_iload_n hx hb dX12_behindUnit_110 rfl (lv_at hl 0 rfl) ?_
        refine lv_iconst (v := mI 2) hx hb dX12_behindUnit_111 rfl ?_
        refine sy_icmp_ne (tgt := 120) hx hb dX12_behindUnit_112 (by decide) (by omega) (by decide) (fun c_1543 => ?_) (fun c9 => False.elim (by omega))
        refine lv_iload_n hx hb dX12_behindUnit_120 rfl (lv_at hl 0 rfl) ?_
        refine lv_iconst (v := mI 1) hx hb dX12_behindUnit_121 rfl ?_
        refine sy_icmp_ne (tgt := 130) hx hb dX12_behindUnit_122 (by decide) (by omega) (by decide) (fun c_1544 => ?_) (fun c9 => False.elim (by omega))
        refine lv_aload_n hx hb dX12_behindUnit_130 rfl (lv_at hl 1 rfl) ?_
        refine lv_aload_n hx hb dX12_behindUnit_131 rfl (lv_at hl 1 rfl) ?_
        refine rg_o_at hx hb hts hown hK hP uw_7_29 dX12_behindUnit_132 ?_
        refine g_i (rDt hD) hS hA (g_V (own := "HideReaderModel") (As := [.int (mI x_at)]) (rest := [.int (mI r_1), .ref (a 0)]) hx hb hml hown hts hK hP (rDt hD) (kr_X12_sign (l := l) (D := D) (k := k) (by omega) h_x_size b_B_text) ck_X12_sign iv_X12_sign uw_7_224 (rv_o hK hP) rfl hl.1 rfl (Nat.le_of_ble_eq_true rfl) dX12_behindUnit_135 ⟨Nat.le_of_ble_eq_true rfl, Nat.le_of_ble_eq_true rfl⟩ ⟨Nat.le_of_ble_eq_true rfl, Nat.le_of_ble_eq_true rfl⟩) (fun r_1545 H locs hQ hS => ?_)
        obtain ⟨hr_1545_0, hr_1545_1, hr_1545_2, hP⟩ := hQ
        refine g_v (rDt hD) hS hA (g_V (own := "HideReaderModel") (As := [.int (mI r_1), .int (mI r_1545)]) (rest := []) hx hb hml hown hts hK hP (rDt hD) (kr_X12_pushE (l := l) (D := D) (k := k) (by omega) (by omega) (by omega) b_B_eWhat b_B_eSign) ck_X12_pushE iv_X12_pushE uw_8_82 (rv_o hK hP) rfl hl.1 rfl (Nat.le_of_ble_eq_true rfl) dX12_behindUnit_138 ⟨Nat.le_of_ble_eq_true rfl, Nat.le_of_ble_eq_true rfl⟩ ⟨Nat.le_of_ble_eq_true rfl, Nat.le_of_ble_eq_true rfl⟩) (fun H locs hQ hS => ?_)
        obtain ⟨F_1547, F_1548, y_1549, bF_1547, bF_1548, hr_1546_2, hr_1546_3, hr_1546_4, hr_1546_5, hr_1546_6, hP⟩ := hQ
        refine lv_aload_n hx hb dX12_behindUnit_141 rfl (lv_at hl 1 rfl) ?_
        refine g_v (rDt hD) hS hA (g_V (own := "HideReaderModel") (As := []) (rest := []) hx hb hml hown hts hK hP (rDt hD) (kr_X12_goOn (l := l) (D := D) (k := k) h_x_size h_x_end h_x_number b_B_text g_E) ck_X12_goOn iv_X12_goOn uw_7_220 (rv_o hK hP) rfl hl.1 rfl (Nat.le_of_ble_eq_true rfl) dX12_behindUnit_142 ⟨Nat.le_of_ble_eq_true rfl, Nat.le_of_ble_eq_true rfl⟩ ⟨Nat.le_of_ble_eq_true rfl, Nat.le_of_ble_eq_true rfl⟩) (fun H locs hQ hS => ?_)
        obtain ⟨y_1551, y_1552, y_1553, y_1554, j_1555, hr_1550_0, hr_1550_1, hr_1550_2, hr_1550_3, hr_1550_4, hr_1550_5, kr_1550_E, hP⟩ := hQ
        refine lv_iconst (v := mI 1) hx hb dX12_behindUnit_145 rfl ?_
        exact r_z hx hb hr hlocks dX12_behindUnit_146 hS (by decide) ⟨x_faultKind, x_faultPlace, y_1551, y_1552, y_1553, y_1554, j_1555, F_1493, F_1494, F_1547, F_1548, y_1495, x_within, y_1549, by omega, by omega, by omega, by omega, by omega, by omega, by omega, bF_1493, bF_1494, bF_1547, bF_1548, by omega, by omega, by omega, by omega, by omega, by omega, by omega, (eS_bin h23_6 (by omega) (by omega) hr_1546_5 hr_1546_6 (by omega) (by omega)), by omega, by omega, by omega, kr_1550_E, hP⟩
      · skip
        refine lv_aload_n hx hb dX12_behindUnit_39 rfl (lv_at hl 1 rfl) ?_
        refine rg_o_eWhat hx hb hts hown hK hP uw_7_53 dX12_behindUnit_40 ?_
        refine lv_aload_n hx hb dX12_behindUnit_43 rfl (lv_at hl 1 rfl) ?_
        refine rg_o_piled hx hb hts hown hK hP uw_7_60 dX12_behindUnit_44 ?_
        refine lv_iconst (v := mI 1) hx hb dX12_behindUnit_47 rfl ?_
        refine sy_isub hx hb dX12_behindUnit_48 (y_1496 - 1) rfl ?_
        refine rl_eWhat hx hb hK hP dX12_behindUnit_49 (by omega) b_B_eWhat (fun z_1556 ez_1556 hz_1556 => ?_)
        refine lv_iload_n hx hb dX12_behindUnit_50 rfl (lv_at hl 0 rfl) ?_
        refine sy_icmp_lt (tgt := 104) hx hb dX12_behindUnit_51 (by decide) (by omega) (by omega) (fun c_1557 => ?_) (fun c_1557 => ?_)
        · skip
          refine lv_iload_n hx hb dX12_behindUnit_104 rfl (lv_at hl 0 rfl) ?_
          refine sy_if_le (tgt := 147) hx hb dX12_behindUnit_105 (by decide) (by omega) (fun c9 => False.elim (by omega)) (fun c_1558 => ?_)
          refine lv_aload_n hx hb dX12_behindUnit_108 rfl (lv_at hl 1 rfl) ?_
          refine lv_iload_n hx hb dX12_behindUnit_109 rfl (lv_at hl 0 rfl) ?_
          refine lv_iload_n hx hb dX12_behindUnit_110 rfl (lv_at hl 0 rfl) ?_
          refine lv_iconst (v := mI 2) hx hb dX12_behindUnit_111 rfl ?_
          refine sy_icmp_ne (tgt := 120) hx hb dX12_behindUnit_112 (by decide) (by omega) (by decide) (fun c_1559 => ?_) (fun c9 => False.elim (by omega))
          refine lv_iload_n hx hb dX12_behindUnit_120 rfl (lv_at hl 0 rfl) ?_
          refine lv_iconst (v := mI 1) hx hb dX12_behindUnit_121 rfl ?_
          refine sy_icmp_ne (tgt := 130) hx hb dX12_behindUnit_122 (by decide) (by omega) (by decide) (fun c_1560 => ?_) (fun c9 => False.elim (by omega))
          refine lv_aload_n hx hb dX12_behindUnit_130 rfl (lv_at hl 1 rfl) ?_
          refine lv_aload_n hx hb dX12_behindUnit_131 rfl (lv_at hl 1 rfl) ?_
          refine rg_o_at hx hb hts hown hK hP uw_7_29 dX12_behindUnit_132 ?_
          refine g_i (rDt hD) hS hA (g_V (own := "HideReaderModel") (As := [.int (mI x_at)]) (rest := [.int (mI r_1), .ref (a 0)]) hx hb hml hown hts hK hP (rDt hD) (kr_X12_sign (l := l) (D := D) (k := k) (by omega) h_x_size b_B_text) ck_X12_sign iv_X12_sign uw_7_224 (rv_o hK hP) rfl hl.1 rfl (Nat.le_of_ble_eq_true rfl) dX12_behindUnit_135 ⟨Nat.le_of_ble_eq_true rfl, Nat.le_of_ble_eq_true rfl⟩ ⟨Nat.le_of_ble_eq_true rfl, Nat.le_of_ble_eq_true rfl⟩) (fun r_1561 H locs hQ hS => ?_)
          obtain ⟨hr_1561_0, hr_1561_1, hr_1561_2, hP⟩ := hQ
          refine g_v (rDt hD) hS hA (g_V (own := "HideReaderModel") (As := [.int (mI r_1), .int (mI r_1561)]) (rest := []) hx hb hml hown hts hK hP (rDt hD) (kr_X12_pushE (l := l) (D := D) (k := k) (by omega) (by omega) (by omega) b_B_eWhat b_B_eSign) ck_X12_pushE iv_X12_pushE uw_8_82 (rv_o hK hP) rfl hl.1 rfl (Nat.le_of_ble_eq_true rfl) dX12_behindUnit_138 ⟨Nat.le_of_ble_eq_true rfl, Nat.le_of_ble_eq_true rfl⟩ ⟨Nat.le_of_ble_eq_true rfl, Nat.le_of_ble_eq_true rfl⟩) (fun H locs hQ hS => ?_)
          obtain ⟨F_1563, F_1564, y_1565, bF_1563, bF_1564, hr_1562_2, hr_1562_3, hr_1562_4, hr_1562_5, hr_1562_6, hP⟩ := hQ
          refine lv_aload_n hx hb dX12_behindUnit_141 rfl (lv_at hl 1 rfl) ?_
          refine g_v (rDt hD) hS hA (g_V (own := "HideReaderModel") (As := []) (rest := []) hx hb hml hown hts hK hP (rDt hD) (kr_X12_goOn (l := l) (D := D) (k := k) h_x_size h_x_end h_x_number b_B_text g_E) ck_X12_goOn iv_X12_goOn uw_7_220 (rv_o hK hP) rfl hl.1 rfl (Nat.le_of_ble_eq_true rfl) dX12_behindUnit_142 ⟨Nat.le_of_ble_eq_true rfl, Nat.le_of_ble_eq_true rfl⟩ ⟨Nat.le_of_ble_eq_true rfl, Nat.le_of_ble_eq_true rfl⟩) (fun H locs hQ hS => ?_)
          obtain ⟨y_1567, y_1568, y_1569, y_1570, j_1571, hr_1566_0, hr_1566_1, hr_1566_2, hr_1566_3, hr_1566_4, hr_1566_5, kr_1566_E, hP⟩ := hQ
          refine lv_iconst (v := mI 1) hx hb dX12_behindUnit_145 rfl ?_
          exact r_z hx hb hr hlocks dX12_behindUnit_146 hS (by decide) ⟨x_faultKind, x_faultPlace, y_1567, y_1568, y_1569, y_1570, j_1571, F_1493, F_1494, F_1563, F_1564, y_1495, x_within, y_1565, by omega, by omega, by omega, by omega, by omega, by omega, by omega, bF_1493, bF_1494, bF_1563, bF_1564, by omega, by omega, by omega, by omega, by omega, by omega, by omega, (eS_bin h23_6 (by omega) (by omega) hr_1562_5 hr_1562_6 (by omega) (by omega)), by omega, by omega, by omega, kr_1566_E, hP⟩
        · skip
          have h_1572 := eI_b h23_6
          have h_1572u := b_B_units x_rb.toNat
          have h_1572c : y_1495 ≤ 1119 := by omega
          have h_1572w := eI_w3 h23_6 ez_1556
          have h_1572p := eI_not1 h23_6 ez_1556
          refine lv_aload_n hx hb dX12_behindUnit_54 rfl (lv_at hl 1 rfl) ?_
          refine lv_dup hx hb dX12_behindUnit_55 rfl ?_
          refine rg_o_piled hx hb hts hown hK hP uw_7_60 dX12_behindUnit_56 ?_
          refine lv_iconst (v := mI 1) hx hb dX12_behindUnit_59 rfl ?_
          refine sy_isub hx hb dX12_behindUnit_60 (y_1496 - 1) rfl ?_
          refine rp_o_piled hx hb hts hown hK hP hD hS uw_7_60 dX12_behindUnit_61 (fun H locs hP hS => ?_)
          refine lv_aload_n hx hb dX12_behindUnit_64 rfl (lv_at hl 1 rfl) ?_
          refine rg_o_eWhat hx hb hts hown hK hP uw_7_53 dX12_behindUnit_65 ?_
          refine lv_aload_n hx hb dX12_behindUnit_68 rfl (lv_at hl 1 rfl) ?_
          refine rg_o_piled hx hb hts hown hK hP uw_7_60 dX12_behindUnit_69 ?_
          refine rl_eWhat hx hb hK hP dX12_behindUnit_72 (by omega) b_B_eWhat (fun z_1573 ez_1573 hz_1573 => ?_)
          refine lv_iconst (v := mI 3) hx hb dX12_behindUnit_73 rfl ?_
          refine sy_icmp_ne (tgt := 87) hx hb dX12_behindUnit_74 (by decide) (by omega) (by decide) (fun c_1574 => ?_) (fun c9 => False.elim (by omega))
          refine lv_aload_n hx hb dX12_behindUnit_87 rfl (lv_at hl 1 rfl) ?_
          refine lv_aload_n hx hb dX12_behindUnit_88 rfl (lv_at hl 1 rfl) ?_
          refine rg_o_eSign hx hb hts hown hK hP uw_7_54 dX12_behindUnit_89 ?_
          refine lv_aload_n hx hb dX12_behindUnit_92 rfl (lv_at hl 1 rfl) ?_
          refine rg_o_piled hx hb hts hown hK hP uw_7_60 dX12_behindUnit_93 ?_
          refine rl_eSign hx hb hK hP dX12_behindUnit_96 (by omega) b_B_eSign (fun z_1575 ez_1575 hz_1575 => ?_)
          refine lv_iconst (v := mI 0) hx hb dX12_behindUnit_97 rfl ?_
          refine g_v (rDt hD) hS hA (g_V (own := "HideReaderModel") (As := [.int (mI z_1575), .int (mI 0)]) (rest := []) hx hb hml hown hts hK hP (rDt hD) (kr_X12_emit (l := l) (D := D) (k := k) (by omega) (by decide) (by omega) bF_1493 bF_1494) ck_X12_emit iv_X12_emit uw_8_98 (rv_o hK hP) rfl hl.1 rfl (Nat.le_of_ble_eq_true rfl) dX12_behindUnit_98 ⟨Nat.le_of_ble_eq_true rfl, Nat.le_of_ble_eq_true rfl⟩ ⟨Nat.le_of_ble_eq_true rfl, Nat.le_of_ble_eq_true rfl⟩) (fun H locs hQ hS => ?_)
          obtain ⟨F_1577, F_1578, y_1579, bF_1577, bF_1578, hr_1576_2, hr_1576_3, hr_1576_4, hr_1576_5, hP⟩ := hQ
          obtain ⟨g_1580p, g_1580⟩ := eS_pop (within2 := x_within) h23_6 ez_1573 (by omega) ez_1575 hr_1576_5 (by omega) (by omega)
          refine lv_goto (tgt := 23) hx hb dX12_behindUnit_101 (by decide) ?_
          exact ih_1539 _ _ _ _ (by omega) ⟨F_1577, F_1578, y_1579, (y_1496 - 1), _, bF_1577, bF_1578, by omega, by omega, by omega, by omega, g_1580, rfl, hP, hS, lv_sub hl [0, 1] rfl, rfl⟩
    · skip
      refine lv_aload_n hx hb dX12_behindUnit_17 rfl (lv_at hl 1 rfl) ?_
      refine g_v (rDt hD) hS hA (g_V (own := "HideReaderModel") (As := []) (rest := []) hx hb hml hown hts hK hP (rDt hD) (kr_X12_misplaced (l := l) (D := D) (k := k) (by omega) h_x_faultPlace h_x_at h_x_token) ck_X12_misplaced iv_X12_misplaced uw_8_34 (rv_o hK hP) rfl hl.1 rfl (Nat.le_of_ble_eq_true rfl) dX12_behindUnit_18 ⟨Nat.le_of_ble_eq_true rfl, Nat.le_of_ble_eq_true rfl⟩ ⟨Nat.le_of_ble_eq_true rfl, Nat.le_of_ble_eq_true rfl⟩) (fun H locs hQ hS => ?_)
      obtain ⟨y_1582, y_1583, hr_1581_0, hr_1581_1, hr_1581_2, hP⟩ := hQ
      refine lv_iconst (v := mI 1) hx hb dX12_behindUnit_21 rfl ?_
      exact r_z hx hb hr hlocks dX12_behindUnit_22 hS (by decide) ⟨y_1582, y_1583, x_at, x_end, x_token, x_number, n_name, B_code, B_codeNumber, B_eWhat, B_eSign, x_codes, x_within, x_piled, by omega, by omega, by omega, by omega, by omega, by omega, by omega, b_B_code, b_B_codeNumber, b_B_eWhat, b_B_eSign, by omega, by omega, by omega, by omega, by omega, by omega, by omega, (eS_f (by omega)), by omega, by omega, by omega, g_E, hP⟩
set_option maxHeartbeats 4000000 in
set_option maxRecDepth 100000 in
theorem kr_X12_e (h_x_size : 0 ≤ x_size ∧ x_size ≤ 1600) (h_x_faultKind : 0 ≤ x_faultKind ∧ x_faultKind ≤ 5) (h_x_faultPlace : -1 ≤ x_faultPlace ∧ x_faultPlace ≤ 1600) (h_x_at : 0 ≤ x_at ∧ x_at ≤ 1600) (h_x_end : 0 ≤ x_end ∧ x_end ≤ 1600) (h_x_token : 0 ≤ x_token ∧ x_token ≤ 5) (h_x_number : -2147483648 ≤ x_number ∧ x_number ≤ 2147483647) (h_x_rb : 0 ≤ x_rb ∧ x_rb ≤ 1) (h_x_codes : 0 ≤ x_codes ∧ x_codes ≤ 1120) (h_x_unitsInRule : 0 ≤ x_unitsInRule ∧ x_unitsInRule ≤ 0) (b_B_text : bd (-128) 127 B_text) (b_B_units : bd (0) 60 B_units) (b_B_code : bd (-2147483648) 2147483647 B_code) (b_B_codeNumber : bd (-2147483648) 2147483647 B_codeNumber) (b_B_eWhat : bd (0) 8 B_eWhat) (b_B_eSign : bd (-2147483648) 2147483647 B_eSign) (g_E : x_end ≤ x_size) (hY : 1 ≤ x_faultKind ∨ 0 ≤ 560 * x_rb + 9 * B_units x_rb.toNat - x_codes) : MetG l D k yX12_e cX12_e 2 none 4 [.ref (a 0)] (rW k a x_taped x_size x_faultKind x_faultPlace x_at x_end x_token x_number x_bank x_rb x_codes x_within x_piled x_unitsInRule x_askBeast x_askStroke x_askAge x_askSeason x_acts x_undone x_laid x_seens x_time x_fitting n_name B_tape B_text B_turns B_herds B_irons B_beasts B_units B_night B_draw B_told B_brands B_ironMarks B_herdTold B_born B_ruleFrom B_ruleTo B_code B_codeNumber B_eWhat B_eSign B_pile B_all B_burned B_was B_need B_laidRow B_long8 B_brings B_sBurning B_sStroke B_sIs B_sTold B_sUntold B_parts B_boxAll B_isBoxed G_hName G_iName G_bName ex) (qGv (fun H => ∃ (y_faultKind : Int) (y_faultPlace : Int) (y_at : Int) (y_end : Int) (y_token : Int) (y_number : Int) (j_name : Int64) (F_units : Nat → Int) (F_code : Nat → Int) (F_codeNumber : Nat → Int) (F_eWhat : Nat → Int) (F_eSign : Nat → Int) (y_codes : Int) (y_within : Int) (y_piled : Int) (y_unitsInRule : Int), (0 ≤ y_faultKind ∧ y_faultKind ≤ 5) ∧ (-1 ≤ y_faultPlace ∧ y_faultPlace ≤ 1600) ∧ (0 ≤ y_at ∧ y_at ≤ 1600) ∧ (0 ≤ y_end ∧ y_end ≤ 1600) ∧ (0 ≤ y_token ∧ y_token ≤ 5) ∧ (-2147483648 ≤ y_number ∧ y_number ≤ 2147483647) ∧ (bd (0) 60 F_units) ∧ (bd (-2147483648) 2147483647 F_code) ∧ (bd (-2147483648) 2147483647 F_codeNumber) ∧ (bd (0) 8 F_eWhat) ∧ (bd (-2147483648) 2147483647 F_eSign) ∧ (0 ≤ y_codes ∧ y_codes ≤ 1120) ∧ (0 ≤ y_within ∧ y_within ≤ 7) ∧ (0 ≤ y_piled ∧ y_piled ≤ 38) ∧ (0 ≤ y_unitsInRule ∧ y_unitsInRule ≤ 30) ∧ (0 ≤ y_faultKind - x_faultKind) ∧ (0 ≤ y_end - x_end) ∧ (0 ≤ y_codes - x_codes) ∧ (0 ≤ y_unitsInRule - x_unitsInRule) ∧ (1 ≤ x_token ∨ 1 ≤ y_faultKind) ∧ (1 ≤ y_faultKind ∨ y_token ≤ 0 ∨ x_end + 1 ≤ y_end) ∧ (1 ≤ y_faultKind ∨ eOK x_codes y_codes y_unitsInRule F_code) ∧ (1 ≤ y_faultKind ∨ 0 ≤ 560 * x_rb + 9 * F_units x_rb.toNat - 9 * y_unitsInRule - x_codes) ∧ (y_end ≤ x_size) ∧ va_P D vwCl (rW k a x_taped x_size y_faultKind y_faultPlace y_at y_end y_token y_number x_bank x_rb y_codes y_within y_piled y_unitsInRule x_askBeast x_askStroke x_askAge x_askSeason x_acts x_undone x_laid x_seens x_time x_fitting j_name B_tape B_text B_turns B_herds B_irons B_beasts F_units B_night B_draw B_told B_brands B_ironMarks B_herdTold B_born B_ruleFrom B_ruleTo F_code F_codeNumber F_eWhat F_eSign B_pile B_all B_burned B_was B_need B_laidRow B_long8 B_brings B_sBurning B_sStroke B_sIs B_sTold B_sUntold B_parts B_boxAll B_isBoxed G_hName G_iName G_bName ex) H)) := by
  refine metG_of 0 ck_X12_e (Nat.le_of_ble_eq_true rfl) rMap (fun p e s m args below meth c A hx hb hml hr hlocks hown hts hK hD hA hP hS ls hl => ?_)
  have hown : s.vm.findClass "HideReaderModel" = some m.cls := hown
  have hl : lv_has ls 2 [(0, .ref (a 0))] := hl
  refine lv_aload_n hx hb dX12_e_0 rfl (lv_at hl 0 rfl) ?_
  refine lv_iconst (v := mI 0) hx hb dX12_e_1 rfl ?_
  refine rp_o_piled hx hb hts hown hK hP hD hS uw_7_60 dX12_e_2 (fun H locs hP hS => ?_)
  refine lv_aload_n hx hb dX12_e_5 rfl (lv_at hl 0 rfl) ?_
  refine lv_iconst (v := mI 0) hx hb dX12_e_6 rfl ?_
  refine rp_o_within hx hb hts hown hK hP hD hS uw_7_59 dX12_e_7 (fun H locs hP hS => ?_)
  refine lv_aload_n hx hb dX12_e_10 rfl (lv_at hl 0 rfl) ?_
  refine lv_bipush (v := mI 8) hx hb dX12_e_11 (by decide) ?_
  refine lv_iconst (v := mI 0) hx hb dX12_e_13 rfl ?_
  refine g_v (rDt hD) hS hA (g_V (own := "HideReaderModel") (As := [.int (mI 8), .int (mI 0)]) (rest := []) hx hb hml hown hts hK hP (rDt hD) (kr_X12_pushE (l := l) (D := D) (k := k) (by decide) (by decide) (by omega) b_B_eWhat b_B_eSign) ck_X12_pushE iv_X12_pushE uw_8_82 (rv_o hK hP) rfl hl.1 rfl (Nat.le_of_ble_eq_true rfl) dX12_e_14 ⟨Nat.le_of_ble_eq_true rfl, Nat.le_of_ble_eq_true rfl⟩ ⟨Nat.le_of_ble_eq_true rfl, Nat.le_of_ble_eq_true rfl⟩) (fun H locs hQ hS => ?_)
  obtain ⟨F_2, F_3, y_4, bF_2, bF_3, hr_1_2, hr_1_3, hr_1_4, hr_1_5, hr_1_6, hP⟩ := hQ
  refine lv_iconst (v := mI 1) hx hb dX12_e_17 rfl ?_
  refine lv_istore_n (lv' := [(1, .int (mI 1)), (0, .ref (a 0))]) hx hb dX12_e_18 rfl hl (by decide) rfl (fun ls hl => ?_)
  refine sy_loop (I := fun n H locs g => ∃ (z_1272 : Int) (y_1273 : Int) (y_1274 : Int) (y_1275 : Int) (y_1276 : Int) (y_1277 : Int) (y_1278 : Int) (j_1279 : Int64) (F_1280 : Nat → Int) (F_1281 : Nat → Int) (F_1282 : Nat → Int) (F_1283 : Nat → Int) (F_1284 : Nat → Int) (y_1285 : Int) (y_1286 : Int) (y_1287 : Int) (y_1288 : Int) (ls : Array Slot), (0 ≤ z_1272 ∧ z_1272 ≤ 1) ∧ (0 ≤ y_1273 ∧ y_1273 ≤ 5) ∧ (-1 ≤ y_1274 ∧ y_1274 ≤ 1600) ∧ (0 ≤ y_1275 ∧ y_1275 ≤ 1600) ∧ (0 ≤ y_1276 ∧ y_1276 ≤ 1600) ∧ (0 ≤ y_1277 ∧ y_1277 ≤ 5) ∧ (-2147483648 ≤ y_1278 ∧ y_1278 ≤ 2147483647) ∧ (bd (0) 60 F_1280) ∧ (bd (-2147483648) 2147483647 F_1281) ∧ (bd (-2147483648) 2147483647 F_1282) ∧ (bd (0) 8 F_1283) ∧ (bd (-2147483648) 2147483647 F_1284) ∧ (0 ≤ y_1285 ∧ y_1285 ≤ 1120) ∧ (0 ≤ y_1286 ∧ y_1286 ≤ 7) ∧ (0 ≤ y_1287 ∧ y_1287 ≤ 38) ∧ (0 ≤ y_1288 ∧ y_1288 ≤ 30) ∧ (y_1276 ≤ x_size) ∧ (0 ≤ y_1285 - x_codes) ∧ (0 ≤ y_1276 - x_end) ∧ (0 ≤ y_1273 - x_faultKind) ∧ (0 ≤ y_1288 - x_unitsInRule) ∧ (eSt y_1273 z_1272 x_codes y_1285 y_1287 y_1286 y_1288 F_1281 F_1283 F_1284) ∧ (1 ≤ y_1273 ∨ 0 ≤ 560 * x_rb + 9 * F_1280 x_rb.toNat - 9 * y_1288 - x_codes) ∧ (1 ≤ x_token ∨ 1 ≤ y_1273 ∨ (z_1272 = 1 ∧ y_1277 = x_token)) ∧ (1 ≤ y_1273 ∨ y_1277 ≤ 0 ∨ x_end + 1 ≤ y_1276 ∨ (z_1272 = 1 ∧ y_1276 = x_end ∧ y_1277 = x_token)) ∧ (1000 * (2 * (1600 - y_1276) + (y_1277 + 4) / 5) + 10 * y_1287 + 5 - y_1273).toNat = n ∧ va_P D vwCl (rW k a x_taped x_size y_1273 y_1274 y_1275 y_1276 y_1277 y_1278 x_bank x_rb y_1285 y_1286 y_1287 y_1288 x_askBeast x_askStroke x_askAge x_askSeason x_acts x_undone x_laid x_seens x_time x_fitting j_1279 B_tape B_text B_turns B_herds B_irons B_beasts F_1280 B_night B_draw B_told B_brands B_ironMarks B_herdTold B_born B_ruleFrom B_ruleTo F_1281 F_1282 F_1283 F_1284 B_pile B_all B_burned B_was B_need B_laidRow B_long8 B_brings B_sBurning B_sStroke B_sIs B_sTold B_sUntold B_parts B_boxAll B_isBoxed G_hName G_iName G_bName ex) H ∧ va_S A s.heap H locs ∧ lv_has ls 2 [(1, .int (mI z_1272)), (0, .ref (a 0))] ∧ g = F0 m 19 ls []) ?_ _ ⟨1, x_faultKind, x_faultPlace, x_at, x_end, x_token, x_number, n_name, B_units, B_code, B_codeNumber, F_2, F_3, x_codes, 0, y_4, x_unitsInRule, _, by omega, by omega, by omega, by omega, by omega, by omega, by omega, b_B_units, b_B_code, b_B_codeNumber, bF_2, bF_3, by omega, by omega, by omega, by omega, g_E, by omega, by omega, by omega, by omega, (eS_0 hr_1_5 (by omega) (by omega) (by omega) (by omega)), by omega, by omega, by omega, rfl, hP, hS, lv_sub hl [0, 1] rfl, rfl⟩
  intro n_1334 H locs g hI ih_1335
  obtain ⟨z_1272, y_1273, y_1274, y_1275, y_1276, y_1277, y_1278, j_1279, F_1280, F_1281, F_1282, F_1283, F_1284, y_1285, y_1286, y_1287, y_1288, ls, h19_0, h19_1, h19_2, h19_3, h19_4, h19_5, h19_6, bF_1280, bF_1281, bF_1282, bF_1283, bF_1284, h19_12, h19_13, h19_14, h19_15, g_1289, h19_17, h19_18, h19_19, h19_20, h19_21, h19_22, h19_23, h19_24, mn_1334, hP, hS, hl, rfl⟩ := hI
  refine lv_aload_n hx hb dX12_e_19 rfl (lv_at hl 1 rfl) ?_
  refine g_i (rDt hD) hS hA (g_V (own := "HideReaderModel") (As := []) (rest := []) hx hb hml hown hts hK hP (rDt hD) (kr_X12_isGood (l := l) (D := D) (k := k) (by omega)) ck_X12_isGood iv_X12_isGood uw_8_18 (rv_o hK hP) rfl hl.1 rfl (Nat.le_of_ble_eq_true rfl) dX12_e_20 ⟨Nat.le_of_ble_eq_true rfl, Nat.le_of_ble_eq_true rfl⟩ ⟨Nat.le_of_ble_eq_true rfl, Nat.le_of_ble_eq_true rfl⟩) (fun r_1336 H locs hQ hS => ?_)
  obtain ⟨hq_r_1336, hP⟩ := hQ
  rcases hq_r_1336 with ⟨rfl, c_1337_0, c_1337_1⟩ | ⟨rfl, c_1338_0⟩
  · skip
    refine sy_if_eq (tgt := 52) hx hb dX12_e_23 (by decide) (by decide) (fun c_1339 => ?_) (fun c9 => absurd c9 (by decide))
    exact r_v hx hb hr hlocks dX12_e_52 hS ⟨y_1273, y_1274, y_1275, y_1276, y_1277, y_1278, j_1279, F_1280, F_1281, F_1282, F_1283, F_1284, y_1285, y_1286, y_1287, y_1288, by omega, by omega, by omega, by omega, by omega, by omega, bF_1280, bF_1281, bF_1282, bF_1283, bF_1284, by omega, by omega, by omega, by omega, by omega, by omega, by omega, by omega, by omega, by omega, (Or.inl (by omega)), by omega, g_1289, hP⟩
  · skip
    refine sy_if_eq (tgt := 52) hx hb dX12_e_23 (by decide) (by decide) (fun c9 => absurd c9 (by decide)) (fun c_1340 => ?_)
    have h_1341 := eSt_p h19_21
    refine lv_aload_n hx hb dX12_e_26 rfl (lv_at hl 1 rfl) ?_
    refine rg_o_piled hx hb hts hown hK hP uw_7_60 dX12_e_27 ?_
    refine sy_if_le (tgt := 52) hx hb dX12_e_30 (by decide) (by omega) (fun c_1342 => ?_) (fun c_1342 => ?_)
    · skip
      exact r_v hx hb hr hlocks dX12_e_52 hS ⟨y_1273, y_1274, y_1275, y_1276, y_1277, y_1278, j_1279, F_1280, F_1281, F_1282, F_1283, F_1284, y_1285, y_1286, y_1287, y_1288, by omega, by omega, by omega, by omega, by omega, by omega, bF_1280, bF_1281, bF_1282, bF_1283, bF_1284, by omega, by omega, by omega, by omega, by omega, by omega, by omega, by omega, by omega, by omega, (Or.inr (eSt_e h19_21 (by omega) (by omega)).2), by omega, g_1289, hP⟩
    · skip
      refine lv_iload_n hx hb dX12_e_33 rfl (lv_at hl 0 rfl) ?_
      refine sy_if_eq (tgt := 44) hx hb dX12_e_34 (by decide) (by omega) (fun c_1343 => ?_) (fun c_1343 => ?_)
      · skip
        have h_1344g := eSt_0 h19_21 (by omega) (by omega) (by omega)
        have h_1344 := eI_b h_1344g
        have h_1344u := bF_1280 x_rb.toNat
        have h_1344c : y_1285 ≤ 1119 := by omega
        refine lv_aload_n hx hb dX12_e_44 rfl (lv_at hl 1 rfl) ?_
        refine g_i (rDt hD) hS hA (g_V (own := "HideReaderModel") (As := []) (rest := []) hx hb hml hown hts hK hP (rDt hD) (kr_X12_behindUnit (l := l) (D := D) (k := k) h_x_size (by omega) (by omega) (by omega) (by omega) (by omega) (by omega) h_x_rb (by omega) (by omega) (by omega) (by omega) b_B_text bF_1280 bF_1281 bF_1282 bF_1283 bF_1284 g_1289 h_1344g (by omega)) ck_X12_behindUnit iv_X12_behindUnit uw_8_102 (rv_o hK hP) rfl hl.1 rfl (Nat.le_of_ble_eq_true rfl) dX12_e_45 ⟨Nat.le_of_ble_eq_true rfl, Nat.le_of_ble_eq_true rfl⟩ ⟨Nat.le_of_ble_eq_true rfl, Nat.le_of_ble_eq_true rfl⟩) (fun r_1345 H locs hQ hS => ?_)
        obtain ⟨y_1346, y_1347, y_1348, y_1349, y_1350, y_1351, j_1352, F_1353, F_1354, F_1355, F_1356, y_1357, y_1358, y_1359, hr_1345_0, hr_1345_1, hr_1345_2, hr_1345_3, hr_1345_4, hr_1345_5, hr_1345_6, bF_1353, bF_1354, bF_1355, bF_1356, hr_1345_11, hr_1345_12, hr_1345_13, hr_1345_14, hr_1345_15, hr_1345_16, hr_1345_17, hr_1345_18, hr_1345_19, hr_1345_20, hr_1345_21, kr_1345_E, hP⟩ := hQ
        have h_1360 := eSt_b hr_1345_18
        have h_1360p : y_1359 ≤ 38 := by omega
        refine lv_istore_n (lv' := [(1, .int (mI r_1345)), (0, .ref (a 0))]) hx hb dX12_e_48 rfl hl (by decide) rfl (fun ls hl => ?_)
        refine lv_goto (tgt := 19) hx hb dX12_e_49 (by decide) ?_
        exact ih_1335 _ _ _ _ (by omega) ⟨r_1345, y_1346, y_1347, y_1348, y_1349, y_1350, y_1351, j_1352, F_1280, F_1353, F_1354, F_1355, F_1356, y_1357, y_1358, y_1359, y_1288, _, by omega, by omega, by omega, by omega, by omega, by omega, by omega, bF_1280, bF_1353, bF_1354, bF_1355, bF_1356, by omega, by omega, by omega, by omega, kr_1345_E, by omega, by omega, by omega, by omega, hr_1345_18, by omega, by omega, by omega, rfl, hP, hS, lv_sub hl [0, 1] rfl, rfl⟩
      · skip
        have h_1361g := eSt_1 h19_21 (by omega) (by omega)
        have h_1361 := eI_b h_1361g
        have h_1361u := bF_1280 x_rb.toNat
        have h_1361c : y_1285 ≤ 1119 := by omega
        refine lv_aload_n hx hb dX12_e_37 rfl (lv_at hl 1 rfl) ?_
        refine g_i (rDt hD) hS hA (g_V (own := "HideReaderModel") (As := []) (rest := []) hx hb hml hown hts hK hP (rDt hD) (kr_X12_unit (l := l) (D := D) (k := k) h_x_size (by omega) (by omega) (by omega) (by omega) (by omega) (by omega) h_x_rb (by omega) (by omega) (by omega) (by omega) b_B_text bF_1280 bF_1281 bF_1282 bF_1283 bF_1284 g_1289 h_1361g (by omega)) ck_X12_unit iv_X12_unit uw_8_86 (rv_o hK hP) rfl hl.1 rfl (Nat.le_of_ble_eq_true rfl) dX12_e_38 ⟨Nat.le_of_ble_eq_true rfl, Nat.le_of_ble_eq_true rfl⟩ ⟨Nat.le_of_ble_eq_true rfl, Nat.le_of_ble_eq_true rfl⟩) (fun r_1362 H locs hQ hS => ?_)
        obtain ⟨y_1363, y_1364, y_1365, y_1366, y_1367, y_1368, j_1369, F_1370, F_1371, F_1372, F_1373, F_1374, y_1375, y_1376, y_1377, y_1378, hr_1362_0, hr_1362_1, hr_1362_2, hr_1362_3, hr_1362_4, hr_1362_5, hr_1362_6, bF_1370, bF_1371, bF_1372, bF_1373, bF_1374, hr_1362_12, hr_1362_13, hr_1362_14, hr_1362_15, hr_1362_16, hr_1362_17, hr_1362_18, hr_1362_19, hr_1362_20, hr_1362_21, hr_1362_22, hr_1362_23, hr_1362_24, hr_1362_25, kr_1362_E, hP⟩ := hQ
        have h_1379 := eSt_b hr_1362_22
        have h_1379p : y_1377 ≤ 38 := by omega
        refine lv_goto (tgt := 48) hx hb dX12_e_41 (by decide) ?_
        refine lv_istore_n (lv' := [(1, .int (mI r_1362)), (0, .ref (a 0))]) hx hb dX12_e_48 rfl hl (by decide) rfl (fun ls hl => ?_)
        refine lv_goto (tgt := 19) hx hb dX12_e_49 (by decide) ?_
        exact ih_1335 _ _ _ _ (by omega) ⟨r_1362, y_1363, y_1364, y_1365, y_1366, y_1367, y_1368, j_1369, F_1370, F_1371, F_1372, F_1373, F_1374, y_1375, y_1376, y_1377, y_1378, _, by omega, by omega, by omega, by omega, by omega, by omega, by omega, bF_1370, bF_1371, bF_1372, bF_1373, bF_1374, by omega, by omega, by omega, by omega, kr_1362_E, by omega, by omega, by omega, by omega, hr_1362_22, by omega, by omega, by omega, rfl, hP, hS, lv_sub hl [0, 1] rfl, rfl⟩
set_option maxHeartbeats 4000000 in
set_option maxRecDepth 100000 in
theorem kr_X12_readRule (h_x_size : 0 ≤ x_size ∧ x_size ≤ 1600) (h_x_faultKind : 0 ≤ x_faultKind ∧ x_faultKind ≤ 5) (h_x_faultPlace : -1 ≤ x_faultPlace ∧ x_faultPlace ≤ 1600) (h_x_at : 0 ≤ x_at ∧ x_at ≤ 1600) (h_x_end : 0 ≤ x_end ∧ x_end ≤ 1600) (h_x_token : 0 ≤ x_token ∧ x_token ≤ 5) (h_x_number : -2147483648 ≤ x_number ∧ x_number ≤ 2147483647) (h_x_rb : 0 ≤ x_rb ∧ x_rb ≤ 1) (h_x_codes : 0 ≤ x_codes ∧ x_codes ≤ 1120) (b_B_text : bd (-128) 127 B_text) (b_B_units : bd (0) 60 B_units) (b_B_told : bd (0) 31 B_told) (b_B_ruleFrom : bd (0) 1120 B_ruleFrom) (b_B_ruleTo : bd (0) 1120 B_ruleTo) (b_B_code : bd (-2147483648) 2147483647 B_code) (b_B_codeNumber : bd (-2147483648) 2147483647 B_codeNumber) (b_B_eWhat : bd (0) 8 B_eWhat) (b_B_eSign : bd (-2147483648) 2147483647 B_eSign) (g_E : x_end ≤ x_size) (g_Z : 1 ≤ x_faultKind ∨ 0 ≤ 560 * x_rb + 9 * B_units x_rb.toNat - x_codes) : MetG l D k yX12_readRule cX12_readRule 1 none 5 [.ref (a 0)] (rW k a x_taped x_size x_faultKind x_faultPlace x_at x_end x_token x_number x_bank x_rb x_codes x_within x_piled x_unitsInRule x_askBeast x_askStroke x_askAge x_askSeason x_acts x_undone x_laid x_seens x_time x_fitting n_name B_tape B_text B_turns B_herds B_irons B_beasts B_units B_night B_draw B_told B_brands B_ironMarks B_herdTold B_born B_ruleFrom B_ruleTo B_code B_codeNumber B_eWhat B_eSign B_pile B_all B_burned B_was B_need B_laidRow B_long8 B_brings B_sBurning B_sStroke B_sIs B_sTold B_sUntold B_parts B_boxAll B_isBoxed G_hName G_iName G_bName ex) (qGv (fun H => ∃ (y_faultKind : Int) (y_faultPlace : Int) (y_at : Int) (y_end : Int) (y_token : Int) (y_number : Int) (j_name : Int64) (F_units : Nat → Int) (F_told : Nat → Int) (F_ruleFrom : Nat → Int) (F_ruleTo : Nat → Int) (F_code : Nat → Int) (F_codeNumber : Nat → Int) (F_eWhat : Nat → Int) (F_eSign : Nat → Int) (y_codes : Int) (y_within : Int) (y_piled : Int) (y_unitsInRule : Int), (0 ≤ y_faultKind ∧ y_faultKind ≤ 5) ∧ (-1 ≤ y_faultPlace ∧ y_faultPlace ≤ 1600) ∧ (0 ≤ y_at ∧ y_at ≤ 1600) ∧ (0 ≤ y_end ∧ y_end ≤ 1600) ∧ (0 ≤ y_token ∧ y_token ≤ 5) ∧ (-2147483648 ≤ y_number ∧ y_number ≤ 2147483647) ∧ (bd (0) 60 F_units) ∧ (bd (0) 31 F_told) ∧ (bd (0) 1120 F_ruleFrom) ∧ (bd (0) 1120 F_ruleTo) ∧ (bd (-2147483648) 2147483647 F_code) ∧ (bd (-2147483648) 2147483647 F_codeNumber) ∧ (bd (0) 8 F_eWhat) ∧ (bd (-2147483648) 2147483647 F_eSign) ∧ (0 ≤ y_codes ∧ y_codes ≤ 1120) ∧ (0 ≤ y_within ∧ y_within ≤ 7) ∧ (0 ≤ y_piled ∧ y_piled ≤ 38) ∧ (0 ≤ y_unitsInRule ∧ y_unitsInRule ≤ 30) ∧ (0 ≤ y_faultKind - x_faultKind) ∧ (0 ≤ y_end - x_end) ∧ (0 ≤ y_codes - x_codes) ∧ (1 ≤ y_faultKind ∨ y_token ≤ 0 ∨ x_end + 1 ≤ y_end) ∧ (1 ≤ x_token ∨ 1 ≤ y_faultKind) ∧ (y_end ≤ x_size) ∧ (1 ≤ y_faultKind ∨ 0 ≤ 560 * x_rb + 9 * F_units x_rb.toNat - y_codes) ∧ va_P D vwCl (rW k a x_taped x_size y_faultKind y_faultPlace y_at y_end y_token y_number x_bank x_rb y_codes y_within y_piled y_unitsInRule x_askBeast x_askStroke x_askAge x_askSeason x_acts x_undone x_laid x_seens x_time x_fitting j_name B_tape B_text B_turns B_herds B_irons B_beasts F_units B_night B_draw F_told B_brands B_ironMarks B_herdTold B_born F_ruleFrom F_ruleTo F_code F_codeNumber F_eWhat F_eSign B_pile B_all B_burned B_was B_need B_laidRow B_long8 B_brings B_sBurning B_sStroke B_sIs B_sTold B_sUntold B_parts B_boxAll B_isBoxed G_hName G_iName G_bName ex) H)) := by
  refine metG_of 0 ck_X12_readRule (Nat.le_of_ble_eq_true rfl) rMap (fun p e s m args below meth c A hx hb hml hr hlocks hown hts hK hD hA hP hS ls hl => ?_)
  have hown : s.vm.findClass "HideReaderModel" = some m.cls := hown
  have hl : lv_has ls 1 [(0, .ref (a 0))] := hl
  refine lv_aload_n hx hb dX12_readRule_0 rfl (lv_at hl 0 rfl) ?_
  refine rg_o_told hx hb hts hown hK hP uw_7_41 dX12_readRule_1 ?_
  refine lv_aload_n hx hb dX12_readRule_4 rfl (lv_at hl 0 rfl) ?_
  refine rg_o_rb hx hb hts hown hK hP uw_7_57 dX12_readRule_5 ?_
  refine lv_dup2_11 hx hb dX12_readRule_8 rfl rfl ?_
  refine rl_told hx hb hK hP dX12_readRule_9 (by omega) b_B_told (fun z_1 _ hz_1 => ?_)
  refine lv_iconst (v := mI 1) hx hb dX12_readRule_10 rfl ?_
  refine sy_ior hx hb dX12_readRule_11 5 (by decide) 32 (by decide) (by omega) (by omega) (fun z_2 hz_2 => ?_)
  refine rs_told hx hb hK hP hD hS dX12_readRule_12 (by omega) b_B_told (by omega) (fun F_3 H locs _ bF_3 hP hS => ?_)
  refine lv_aload_n hx hb dX12_readRule_13 rfl (lv_at hl 0 rfl) ?_
  refine lv_iconst (v := mI 0) hx hb dX12_readRule_14 rfl ?_
  refine rp_o_unitsInRule hx hb hts hown hK hP hD hS uw_7_61 dX12_readRule_15 (fun H locs hP hS => ?_)
  refine lv_aload_n hx hb dX12_readRule_18 rfl (lv_at hl 0 rfl) ?_
  refine rg_o_ruleFrom hx hb hts hown hK hP uw_7_46 dX12_readRule_19 ?_
  refine lv_aload_n hx hb dX12_readRule_22 rfl (lv_at hl 0 rfl) ?_
  refine rg_o_rb hx hb hts hown hK hP uw_7_57 dX12_readRule_23 ?_
  refine lv_aload_n hx hb dX12_readRule_26 rfl (lv_at hl 0 rfl) ?_
  refine rg_o_codes hx hb hts hown hK hP uw_7_58 dX12_readRule_27 ?_
  refine rs_ruleFrom hx hb hK hP hD hS dX12_readRule_30 (by omega) b_B_ruleFrom (by omega) (fun F_4 H locs _ bF_4 hP hS => ?_)
  refine lv_aload_n hx hb dX12_readRule_31 rfl (lv_at hl 0 rfl) ?_
  refine g_v (rDt hD) hS hA (g_V (own := "HideReaderModel") (As := []) (rest := []) hx hb hml hown hts hK hP (rDt hD) (kr_X12_e (l := l) (D := D) (k := k) h_x_size h_x_faultKind h_x_faultPlace h_x_at h_x_end h_x_token h_x_number h_x_rb h_x_codes (by omega) b_B_text b_B_units b_B_code b_B_codeNumber b_B_eWhat b_B_eSign g_E (by omega)) ck_X12_e iv_X12_e uw_8_78 (rv_o hK hP) rfl hl.1 rfl (Nat.le_of_ble_eq_true rfl) dX12_readRule_32 ⟨Nat.le_of_ble_eq_true rfl, Nat.le_of_ble_eq_true rfl⟩ ⟨Nat.le_of_ble_eq_true rfl, Nat.le_of_ble_eq_true rfl⟩) (fun H locs hQ hS => ?_)
  obtain ⟨y_6, y_7, y_8, y_9, y_10, y_11, j_12, F_13, F_14, F_15, F_16, F_17, y_18, y_19, y_20, y_21, hr_5_0, hr_5_1, hr_5_2, hr_5_3, hr_5_4, hr_5_5, bF_13, bF_14, bF_15, bF_16, bF_17, hr_5_11, hr_5_12, hr_5_13, hr_5_14, hr_5_15, hr_5_16, hr_5_17, hr_5_18, hr_5_19, hr_5_20, hr_5_21, hr_5_22, kr_5_E, hP⟩ := hQ
  have h_22 := eOK_o hr_5_21
  refine lv_aload_n hx hb dX12_readRule_35 rfl (lv_at hl 0 rfl) ?_
  refine rg_o_ruleTo hx hb hts hown hK hP uw_7_47 dX12_readRule_36 ?_
  refine lv_aload_n hx hb dX12_readRule_39 rfl (lv_at hl 0 rfl) ?_
  refine rg_o_rb hx hb hts hown hK hP uw_7_57 dX12_readRule_40 ?_
  refine lv_aload_n hx hb dX12_readRule_43 rfl (lv_at hl 0 rfl) ?_
  refine rg_o_codes hx hb hts hown hK hP uw_7_58 dX12_readRule_44 ?_
  refine rs_ruleTo hx hb hK hP hD hS dX12_readRule_47 (by omega) b_B_ruleTo (by omega) (fun F_23 H locs _ bF_23 hP hS => ?_)
  exact r_v hx hb hr hlocks dX12_readRule_48 hS ⟨y_6, y_7, y_8, y_9, y_10, y_11, j_12, F_13, F_3, F_4, F_23, F_14, F_15, F_16, F_17, y_18, y_19, y_20, y_21, by omega, by omega, by omega, by omega, by omega, by omega, bF_13, bF_3, bF_4, bF_23, bF_14, bF_15, bF_16, bF_17, by omega, by omega, by omega, by omega, by omega, by omega, by omega, by omega, by omega, kr_5_E, (by omega), hP⟩
set_option maxHeartbeats 4000000 in
set_option maxRecDepth 100000 in
theorem kr_X12_numeral_v0_100 (h_c0 : 0 ≤ 0 ∧ 0 ≤ 0) (h_c1 : 100 ≤ 100 ∧ 100 ≤ 100) (h_x_size : 0 ≤ x_size ∧ x_size ≤ 1600) (h_x_faultKind : 0 ≤ x_faultKind ∧ x_faultKind ≤ 5) (h_x_faultPlace : -1 ≤ x_faultPlace ∧ x_faultPlace ≤ 1600) (h_x_at : 0 ≤ x_at ∧ x_at ≤ 1600) (h_x_end : 0 ≤ x_end ∧ x_end ≤ 1600) (h_x_token : 0 ≤ x_token ∧ x_token ≤ 5) (h_x_number : -2147483648 ≤ x_number ∧ x_number ≤ 2147483647) (b_B_text : bd (-128) 127 B_text) (g_E : x_end ≤ x_size) : MetG l D k yX12_numeral cX12_numeral 4 (some .int) 2 [.ref (a 0), .int (mI 0), .int (mI 100)] (rW k a x_taped x_size x_faultKind x_faultPlace x_at x_end x_token x_number x_bank x_rb x_codes x_within x_piled x_unitsInRule x_askBeast x_askStroke x_askAge x_askSeason x_acts x_undone x_laid x_seens x_time x_fitting n_name B_tape B_text B_turns B_herds B_irons B_beasts B_units B_night B_draw B_told B_brands B_ironMarks B_herdTold B_born B_ruleFrom B_ruleTo B_code B_codeNumber B_eWhat B_eSign B_pile B_all B_burned B_was B_need B_laidRow B_long8 B_brings B_sBurning B_sStroke B_sIs B_sTold B_sUntold B_parts B_boxAll B_isBoxed G_hName G_iName G_bName ex) (qGi (fun r0 H => ∃ (y_faultKind : Int) (y_faultPlace : Int) (y_at : Int) (y_end : Int) (y_token : Int) (y_number : Int) (j_name : Int64), (0 ≤ r0 ∧ r0 ≤ 100) ∧ (0 ≤ y_faultKind ∧ y_faultKind ≤ 5) ∧ (-1 ≤ y_faultPlace ∧ y_faultPlace ≤ 1600) ∧ (0 ≤ y_at ∧ y_at ≤ 1600) ∧ (0 ≤ y_end ∧ y_end ≤ 1600) ∧ (0 ≤ y_token ∧ y_token ≤ 5) ∧ (-2147483648 ≤ y_number ∧ y_number ≤ 2147483647) ∧ (0 ≤ y_faultKind - x_faultKind) ∧ (0 ≤ y_end - x_end) ∧ (1 ≤ y_faultKind ∨ y_token ≤ 0 ∨ x_end + 1 ≤ y_end) ∧ (x_token = 4 ∨ 1 ≤ y_faultKind) ∧ (y_end ≤ x_size) ∧ va_P D vwCl (rW k a x_taped x_size y_faultKind y_faultPlace y_at y_end y_token y_number x_bank x_rb x_codes x_within x_piled x_unitsInRule x_askBeast x_askStroke x_askAge x_askSeason x_acts x_undone x_laid x_seens x_time x_fitting j_name B_tape B_text B_turns B_herds B_irons B_beasts B_units B_night B_draw B_told B_brands B_ironMarks B_herdTold B_born B_ruleFrom B_ruleTo B_code B_codeNumber B_eWhat B_eSign B_pile B_all B_burned B_was B_need B_laidRow B_long8 B_brings B_sBurning B_sStroke B_sIs B_sTold B_sUntold B_parts B_boxAll B_isBoxed G_hName G_iName G_bName ex) H)) := by
  refine metG_of 2 ck_X12_numeral (Nat.le_of_ble_eq_true rfl) rMap (fun p e s m args below meth c A hx hb hml hr hlocks hown hts hK hD hA hP hS ls hl => ?_)
  have hown : s.vm.findClass "HideReaderModel" = some m.cls := hown
  have hl : lv_has ls 4 [(0, .ref (a 0)), (1, .int (mI 0)), (2, .int (mI 100))] := hl
  refine lv_aload_n hx hb dX12_numeral_0 rfl (lv_at hl 0 rfl) ?_
  refine g_i (rDt hD) hS hA (g_V (own := "HideReaderModel") (As := []) (rest := []) hx hb hml hown hts hK hP (rDt hD) (kr_X12_isGood (l := l) (D := D) (k := k) h_x_faultKind) ck_X12_isGood iv_X12_isGood uw_8_18 (rv_o hK hP) rfl hl.1 rfl (Nat.le_of_ble_eq_true rfl) dX12_numeral_1 ⟨Nat.le_of_ble_eq_true rfl, Nat.le_of_ble_eq_true rfl⟩ ⟨Nat.le_of_ble_eq_true rfl, Nat.le_of_ble_eq_true rfl⟩) (fun r_1 H locs hQ hS => ?_)
  obtain ⟨hq_r_1, hP⟩ := hQ
  rcases hq_r_1 with ⟨rfl, c_2_0, c_2_1⟩ | ⟨rfl, c_3_0⟩
  · skip
    refine sy_if_ne (tgt := 9) hx hb dX12_numeral_4 (by decide) (by decide) (fun c9 => absurd c9 (by decide)) (fun c_4 => ?_)
    refine lv_iload_n hx hb dX12_numeral_7 rfl (lv_at hl 1 rfl) ?_
    exact r_i hx hb hr hlocks dX12_numeral_8 hS ⟨x_faultKind, x_faultPlace, x_at, x_end, x_token, x_number, n_name, by omega, by omega, by omega, by omega, by omega, by omega, by omega, by omega, by omega, by omega, by omega, g_E, hP⟩
  · skip
    refine sy_if_ne (tgt := 9) hx hb dX12_numeral_4 (by decide) (by decide) (fun c_5 => ?_) (fun c9 => absurd c9 (by decide))
    refine lv_aload_n hx hb dX12_numeral_9 rfl (lv_at hl 0 rfl) ?_
    refine rg_o_token hx hb hts hown hK hP uw_7_31 dX12_numeral_10 ?_
    refine lv_iconst (v := mI 4) hx hb dX12_numeral_13 rfl ?_
    refine sy_icmp_eq (tgt := 21) hx hb dX12_numeral_14 (by decide) (by omega) (by decide) (fun c_6 => ?_) (fun c_6 => ?_)
    · skip
      refine lv_aload_n hx hb dX12_numeral_21 rfl (lv_at hl 0 rfl) ?_
      refine g_i (rDt hD) hS hA (g_V (own := "HideReaderModel") (As := []) (rest := []) hx hb hml hown hts hK hP (rDt hD) (kr_X12_isGood (l := l) (D := D) (k := k) h_x_faultKind) ck_X12_isGood iv_X12_isGood uw_8_18 (rv_o hK hP) rfl hl.1 rfl (Nat.le_of_ble_eq_true rfl) dX12_numeral_22 ⟨Nat.le_of_ble_eq_true rfl, Nat.le_of_ble_eq_true rfl⟩ ⟨Nat.le_of_ble_eq_true rfl, Nat.le_of_ble_eq_true rfl⟩) (fun r_7 H locs hQ hS => ?_)
      obtain ⟨hq_r_7, hP⟩ := hQ
      rcases hq_r_7 with ⟨rfl, c_8_0, c_8_1⟩ | ⟨rfl, c_9_0⟩
      exact False.elim (by omega)
      · skip
        refine sy_if_eq (tgt := 53) hx hb dX12_numeral_25 (by decide) (by decide) (fun c9 => absurd c9 (by decide)) (fun c_10 => ?_)
        refine lv_aload_n hx hb dX12_numeral_28 rfl (lv_at hl 0 rfl) ?_
        refine rg_o_number hx hb hts hown hK hP uw_7_32 dX12_numeral_29 ?_
        refine lv_iload_n hx hb dX12_numeral_32 rfl (lv_at hl 1 rfl) ?_
        refine sy_icmp_lt (tgt := 44) hx hb dX12_numeral_33 (by decide) (by omega) (by decide) (fun c_11 => ?_) (fun c_11 => ?_)
        · skip
          refine lv_aload_n hx hb dX12_numeral_44 rfl (lv_at hl 0 rfl) ?_
          refine lv_iconst (v := mI 4) hx hb dX12_numeral_45 rfl ?_
          refine lv_aload_n hx hb dX12_numeral_46 rfl (lv_at hl 0 rfl) ?_
          refine rg_o_at hx hb hts hown hK hP uw_7_29 dX12_numeral_47 ?_
          refine g_v (rDt hD) hS hA (g_V (own := "HideReaderModel") (As := [.int (mI 4), .int (mI x_at)]) (rest := []) hx hb hml hown hts hK hP (rDt hD) (kr_X12_fails (l := l) (D := D) (k := k) (by decide) (by omega) h_x_faultKind h_x_faultPlace) ck_X12_fails iv_X12_fails uw_8_38 (rv_o hK hP) rfl hl.1 rfl (Nat.le_of_ble_eq_true rfl) dX12_numeral_50 ⟨Nat.le_of_ble_eq_true rfl, Nat.le_of_ble_eq_true rfl⟩ ⟨Nat.le_of_ble_eq_true rfl, Nat.le_of_ble_eq_true rfl⟩) (fun H locs hQ hS => ?_)
          obtain ⟨y_13, y_14, hr_12_0, hr_12_1, hr_12_2, hP⟩ := hQ
          refine lv_aload_n hx hb dX12_numeral_53 rfl (lv_at hl 0 rfl) ?_
          refine rg_o_number hx hb hts hown hK hP uw_7_32 dX12_numeral_54 ?_
          refine lv_istore_n (lv' := [(3, .int (mI x_number)), (0, .ref (a 0)), (1, .int (mI 0)), (2, .int (mI 100))]) hx hb dX12_numeral_57 rfl hl (by decide) rfl (fun ls hl => ?_)
          refine lv_aload_n hx hb dX12_numeral_58 rfl (lv_at hl 1 rfl) ?_
          refine g_i (rDt hD) hS hA (g_V (own := "HideReaderModel") (As := []) (rest := []) hx hb hml hown hts hK hP (rDt hD) (kr_X12_isGood (l := l) (D := D) (k := k) (by omega)) ck_X12_isGood iv_X12_isGood uw_8_18 (rv_o hK hP) rfl hl.1 rfl (Nat.le_of_ble_eq_true rfl) dX12_numeral_59 ⟨Nat.le_of_ble_eq_true rfl, Nat.le_of_ble_eq_true rfl⟩ ⟨Nat.le_of_ble_eq_true rfl, Nat.le_of_ble_eq_true rfl⟩) (fun r_15 H locs hQ hS => ?_)
          obtain ⟨hq_r_15, hP⟩ := hQ
          rcases hq_r_15 with ⟨rfl, c_16_0, c_16_1⟩ | ⟨rfl, c_17_0⟩
          · skip
            refine sy_if_eq (tgt := 69) hx hb dX12_numeral_62 (by decide) (by decide) (fun c_18 => ?_) (fun c9 => absurd c9 (by decide))
            refine lv_aload_n hx hb dX12_numeral_69 rfl (lv_at hl 1 rfl) ?_
            refine g_i (rDt hD) hS hA (g_V (own := "HideReaderModel") (As := []) (rest := []) hx hb hml hown hts hK hP (rDt hD) (kr_X12_isGood (l := l) (D := D) (k := k) (by omega)) ck_X12_isGood iv_X12_isGood uw_8_18 (rv_o hK hP) rfl hl.1 rfl (Nat.le_of_ble_eq_true rfl) dX12_numeral_70 ⟨Nat.le_of_ble_eq_true rfl, Nat.le_of_ble_eq_true rfl⟩ ⟨Nat.le_of_ble_eq_true rfl, Nat.le_of_ble_eq_true rfl⟩) (fun r_19 H locs hQ hS => ?_)
            obtain ⟨hq_r_19, hP⟩ := hQ
            rcases hq_r_19 with ⟨rfl, c_20_0, c_20_1⟩ | ⟨rfl, c_21_0⟩
            · skip
              refine sy_if_eq (tgt := 80) hx hb dX12_numeral_73 (by decide) (by decide) (fun c_22 => ?_) (fun c9 => absurd c9 (by decide))
              refine lv_iload_n hx hb dX12_numeral_80 rfl (lv_at hl 2 rfl) ?_
              exact r_i hx hb hr hlocks dX12_numeral_81 hS ⟨y_13, y_14, x_at, x_end, x_token, x_number, n_name, by omega, by omega, by omega, by omega, by omega, by omega, by omega, by omega, by omega, by omega, by omega, g_E, hP⟩
            exact False.elim (by omega)
          exact False.elim (by omega)
        · skip
          refine lv_aload_n hx hb dX12_numeral_36 rfl (lv_at hl 0 rfl) ?_
          refine rg_o_number hx hb hts hown hK hP uw_7_32 dX12_numeral_37 ?_
          refine lv_iload_n hx hb dX12_numeral_40 rfl (lv_at hl 2 rfl) ?_
          refine sy_icmp_le (tgt := 53) hx hb dX12_numeral_41 (by decide) (by omega) (by decide) (fun c_23 => ?_) (fun c_23 => ?_)
          · skip
            refine lv_aload_n hx hb dX12_numeral_53 rfl (lv_at hl 0 rfl) ?_
            refine rg_o_number hx hb hts hown hK hP uw_7_32 dX12_numeral_54 ?_
            refine lv_istore_n (lv' := [(3, .int (mI x_number)), (0, .ref (a 0)), (1, .int (mI 0)), (2, .int (mI 100))]) hx hb dX12_numeral_57 rfl hl (by decide) rfl (fun ls hl => ?_)
            refine lv_aload_n hx hb dX12_numeral_58 rfl (lv_at hl 1 rfl) ?_
            refine g_i (rDt hD) hS hA (g_V (own := "HideReaderModel") (As := []) (rest := []) hx hb hml hown hts hK hP (rDt hD) (kr_X12_isGood (l := l) (D := D) (k := k) h_x_faultKind) ck_X12_isGood iv_X12_isGood uw_8_18 (rv_o hK hP) rfl hl.1 rfl (Nat.le_of_ble_eq_true rfl) dX12_numeral_59 ⟨Nat.le_of_ble_eq_true rfl, Nat.le_of_ble_eq_true rfl⟩ ⟨Nat.le_of_ble_eq_true rfl, Nat.le_of_ble_eq_true rfl⟩) (fun r_24 H locs hQ hS => ?_)
            obtain ⟨hq_r_24, hP⟩ := hQ
            rcases hq_r_24 with ⟨rfl, c_25_0, c_25_1⟩ | ⟨rfl, c_26_0⟩
            exact False.elim (by omega)
            · skip
              refine sy_if_eq (tgt := 69) hx hb dX12_numeral_62 (by decide) (by decide) (fun c9 => absurd c9 (by decide)) (fun c_27 => ?_)
              refine lv_aload_n hx hb dX12_numeral_65 rfl (lv_at hl 1 rfl) ?_
              refine g_v (rDt hD) hS hA (g_V (own := "HideReaderModel") (As := []) (rest := []) hx hb hml hown hts hK hP (rDt hD) (kr_X12_goOn (l := l) (D := D) (k := k) h_x_size h_x_end h_x_number b_B_text g_E) ck_X12_goOn iv_X12_goOn uw_7_220 (rv_o hK hP) rfl hl.1 rfl (Nat.le_of_ble_eq_true rfl) dX12_numeral_66 ⟨Nat.le_of_ble_eq_true rfl, Nat.le_of_ble_eq_true rfl⟩ ⟨Nat.le_of_ble_eq_true rfl, Nat.le_of_ble_eq_true rfl⟩) (fun H locs hQ hS => ?_)
              obtain ⟨y_29, y_30, y_31, y_32, j_33, hr_28_0, hr_28_1, hr_28_2, hr_28_3, hr_28_4, hr_28_5, kr_28_E, hP⟩ := hQ
              refine lv_aload_n hx hb dX12_numeral_69 rfl (lv_at hl 1 rfl) ?_
              refine g_i (rDt hD) hS hA (g_V (own := "HideReaderModel") (As := []) (rest := []) hx hb hml hown hts hK hP (rDt hD) (kr_X12_isGood (l := l) (D := D) (k := k) h_x_faultKind) ck_X12_isGood iv_X12_isGood uw_8_18 (rv_o hK hP) rfl hl.1 rfl (Nat.le_of_ble_eq_true rfl) dX12_numeral_70 ⟨Nat.le_of_ble_eq_true rfl, Nat.le_of_ble_eq_true rfl⟩ ⟨Nat.le_of_ble_eq_true rfl, Nat.le_of_ble_eq_true rfl⟩) (fun r_34 H locs hQ hS => ?_)
              obtain ⟨hq_r_34, hP⟩ := hQ
              rcases hq_r_34 with ⟨rfl, c_35_0, c_35_1⟩ | ⟨rfl, c_36_0⟩
              exact False.elim (by omega)
              · skip
                refine sy_if_eq (tgt := 80) hx hb dX12_numeral_73 (by decide) (by decide) (fun c9 => absurd c9 (by decide)) (fun c_37 => ?_)
                refine lv_iload_n hx hb dX12_numeral_76 rfl (lv_at hl 0 rfl) ?_
                refine lv_goto (tgt := 81) hx hb dX12_numeral_77 (by decide) ?_
                exact r_i hx hb hr hlocks dX12_numeral_81 hS ⟨x_faultKind, x_faultPlace, y_29, y_30, y_31, y_32, j_33, by omega, by omega, by omega, by omega, by omega, by omega, by omega, by omega, by omega, by omega, by omega, kr_28_E, hP⟩
          · skip
            refine lv_aload_n hx hb dX12_numeral_44 rfl (lv_at hl 0 rfl) ?_
            refine lv_iconst (v := mI 4) hx hb dX12_numeral_45 rfl ?_
            refine lv_aload_n hx hb dX12_numeral_46 rfl (lv_at hl 0 rfl) ?_
            refine rg_o_at hx hb hts hown hK hP uw_7_29 dX12_numeral_47 ?_
            refine g_v (rDt hD) hS hA (g_V (own := "HideReaderModel") (As := [.int (mI 4), .int (mI x_at)]) (rest := []) hx hb hml hown hts hK hP (rDt hD) (kr_X12_fails (l := l) (D := D) (k := k) (by decide) (by omega) h_x_faultKind h_x_faultPlace) ck_X12_fails iv_X12_fails uw_8_38 (rv_o hK hP) rfl hl.1 rfl (Nat.le_of_ble_eq_true rfl) dX12_numeral_50 ⟨Nat.le_of_ble_eq_true rfl, Nat.le_of_ble_eq_true rfl⟩ ⟨Nat.le_of_ble_eq_true rfl, Nat.le_of_ble_eq_true rfl⟩) (fun H locs hQ hS => ?_)
            obtain ⟨y_39, y_40, hr_38_0, hr_38_1, hr_38_2, hP⟩ := hQ
            refine lv_aload_n hx hb dX12_numeral_53 rfl (lv_at hl 0 rfl) ?_
            refine rg_o_number hx hb hts hown hK hP uw_7_32 dX12_numeral_54 ?_
            refine lv_istore_n (lv' := [(3, .int (mI x_number)), (0, .ref (a 0)), (1, .int (mI 0)), (2, .int (mI 100))]) hx hb dX12_numeral_57 rfl hl (by decide) rfl (fun ls hl => ?_)
            refine lv_aload_n hx hb dX12_numeral_58 rfl (lv_at hl 1 rfl) ?_
            refine g_i (rDt hD) hS hA (g_V (own := "HideReaderModel") (As := []) (rest := []) hx hb hml hown hts hK hP (rDt hD) (kr_X12_isGood (l := l) (D := D) (k := k) (by omega)) ck_X12_isGood iv_X12_isGood uw_8_18 (rv_o hK hP) rfl hl.1 rfl (Nat.le_of_ble_eq_true rfl) dX12_numeral_59 ⟨Nat.le_of_ble_eq_true rfl, Nat.le_of_ble_eq_true rfl⟩ ⟨Nat.le_of_ble_eq_true rfl, Nat.le_of_ble_eq_true rfl⟩) (fun r_41 H locs hQ hS => ?_)
            obtain ⟨hq_r_41, hP⟩ := hQ
            rcases hq_r_41 with ⟨rfl, c_42_0, c_42_1⟩ | ⟨rfl, c_43_0⟩
            · skip
              refine sy_if_eq (tgt := 69) hx hb dX12_numeral_62 (by decide) (by decide) (fun c_44 => ?_) (fun c9 => absurd c9 (by decide))
              refine lv_aload_n hx hb dX12_numeral_69 rfl (lv_at hl 1 rfl) ?_
              refine g_i (rDt hD) hS hA (g_V (own := "HideReaderModel") (As := []) (rest := []) hx hb hml hown hts hK hP (rDt hD) (kr_X12_isGood (l := l) (D := D) (k := k) (by omega)) ck_X12_isGood iv_X12_isGood uw_8_18 (rv_o hK hP) rfl hl.1 rfl (Nat.le_of_ble_eq_true rfl) dX12_numeral_70 ⟨Nat.le_of_ble_eq_true rfl, Nat.le_of_ble_eq_true rfl⟩ ⟨Nat.le_of_ble_eq_true rfl, Nat.le_of_ble_eq_true rfl⟩) (fun r_45 H locs hQ hS => ?_)
              obtain ⟨hq_r_45, hP⟩ := hQ
              rcases hq_r_45 with ⟨rfl, c_46_0, c_46_1⟩ | ⟨rfl, c_47_0⟩
              · skip
                refine sy_if_eq (tgt := 80) hx hb dX12_numeral_73 (by decide) (by decide) (fun c_48 => ?_) (fun c9 => absurd c9 (by decide))
                refine lv_iload_n hx hb dX12_numeral_80 rfl (lv_at hl 2 rfl) ?_
                exact r_i hx hb hr hlocks dX12_numeral_81 hS ⟨y_39, y_40, x_at, x_end, x_token, x_number, n_name, by omega, by omega, by omega, by omega, by omega, by omega, by omega, by omega, by omega, by omega, by omega, g_E, hP⟩
              exact False.elim (by omega)
            exact False.elim (by omega)
    · skip
      refine lv_aload_n hx hb dX12_numeral_17 rfl (lv_at hl 0 rfl) ?_
      refine g_v (rDt hD) hS hA (g_V (own := "HideReaderModel") (As := []) (rest := []) hx hb hml hown hts hK hP (rDt hD) (kr_X12_misplaced (l := l) (D := D) (k := k) h_x_faultKind h_x_faultPlace h_x_at h_x_token) ck_X12_misplaced iv_X12_misplaced uw_8_34 (rv_o hK hP) rfl hl.1 rfl (Nat.le_of_ble_eq_true rfl) dX12_numeral_18 ⟨Nat.le_of_ble_eq_true rfl, Nat.le_of_ble_eq_true rfl⟩ ⟨Nat.le_of_ble_eq_true rfl, Nat.le_of_ble_eq_true rfl⟩) (fun H locs hQ hS => ?_)
      obtain ⟨y_50, y_51, hr_49_0, hr_49_1, hr_49_2, hP⟩ := hQ
      refine lv_aload_n hx hb dX12_numeral_21 rfl (lv_at hl 0 rfl) ?_
      refine g_i (rDt hD) hS hA (g_V (own := "HideReaderModel") (As := []) (rest := []) hx hb hml hown hts hK hP (rDt hD) (kr_X12_isGood (l := l) (D := D) (k := k) (by omega)) ck_X12_isGood iv_X12_isGood uw_8_18 (rv_o hK hP) rfl hl.1 rfl (Nat.le_of_ble_eq_true rfl) dX12_numeral_22 ⟨Nat.le_of_ble_eq_true rfl, Nat.le_of_ble_eq_true rfl⟩ ⟨Nat.le_of_ble_eq_true rfl, Nat.le_of_ble_eq_true rfl⟩) (fun r_52 H locs hQ hS => ?_)
      obtain ⟨hq_r_52, hP⟩ := hQ
      rcases hq_r_52 with ⟨rfl, c_53_0, c_53_1⟩ | ⟨rfl, c_54_0⟩
      · skip
        refine sy_if_eq (tgt := 53) hx hb dX12_numeral_25 (by decide) (by decide) (fun c_55 => ?_) (fun c9 => absurd c9 (by decide))
        refine lv_aload_n hx hb dX12_numeral_53 rfl (lv_at hl 0 rfl) ?_
        refine rg_o_number hx hb hts hown hK hP uw_7_32 dX12_numeral_54 ?_
        refine lv_istore_n (lv' := [(3, .int (mI x_number)), (0, .ref (a 0)), (1, .int (mI 0)), (2, .int (mI 100))]) hx hb dX12_numeral_57 rfl hl (by decide) rfl (fun ls hl => ?_)
        refine lv_aload_n hx hb dX12_numeral_58 rfl (lv_at hl 1 rfl) ?_
        refine g_i (rDt hD) hS hA (g_V (own := "HideReaderModel") (As := []) (rest := []) hx hb hml hown hts hK hP (rDt hD) (kr_X12_isGood (l := l) (D := D) (k := k) (by omega)) ck_X12_isGood iv_X12_isGood uw_8_18 (rv_o hK hP) rfl hl.1 rfl (Nat.le_of_ble_eq_true rfl) dX12_numeral_59 ⟨Nat.le_of_ble_eq_true rfl, Nat.le_of_ble_eq_true rfl⟩ ⟨Nat.le_of_ble_eq_true rfl, Nat.le_of_ble_eq_true rfl⟩) (fun r_56 H locs hQ hS => ?_)
        obtain ⟨hq_r_56, hP⟩ := hQ
        rcases hq_r_56 with ⟨rfl, c_57_0, c_57_1⟩ | ⟨rfl, c_58_0⟩
        · skip
          refine sy_if_eq (tgt := 69) hx hb dX12_numeral_62 (by decide) (by decide) (fun c_59 => ?_) (fun c9 => absurd c9 (by decide))
          refine lv_aload_n hx hb dX12_numeral_69 rfl (lv_at hl 1 rfl) ?_
          refine g_i (rDt hD) hS hA (g_V (own := "HideReaderModel") (As := []) (rest := []) hx hb hml hown hts hK hP (rDt hD) (kr_X12_isGood (l := l) (D := D) (k := k) (by omega)) ck_X12_isGood iv_X12_isGood uw_8_18 (rv_o hK hP) rfl hl.1 rfl (Nat.le_of_ble_eq_true rfl) dX12_numeral_70 ⟨Nat.le_of_ble_eq_true rfl, Nat.le_of_ble_eq_true rfl⟩ ⟨Nat.le_of_ble_eq_true rfl, Nat.le_of_ble_eq_true rfl⟩) (fun r_60 H locs hQ hS => ?_)
          obtain ⟨hq_r_60, hP⟩ := hQ
          rcases hq_r_60 with ⟨rfl, c_61_0, c_61_1⟩ | ⟨rfl, c_62_0⟩
          · skip
            refine sy_if_eq (tgt := 80) hx hb dX12_numeral_73 (by decide) (by decide) (fun c_63 => ?_) (fun c9 => absurd c9 (by decide))
            refine lv_iload_n hx hb dX12_numeral_80 rfl (lv_at hl 2 rfl) ?_
            exact r_i hx hb hr hlocks dX12_numeral_81 hS ⟨y_50, y_51, x_at, x_end, x_token, x_number, n_name, by omega, by omega, by omega, by omega, by omega, by omega, by omega, by omega, by omega, by omega, by omega, g_E, hP⟩
          exact False.elim (by omega)
        exact False.elim (by omega)
      exact False.elim (by omega)
set_option maxHeartbeats 4000000 in
set_option maxRecDepth 100000 in
theorem kr_X12_numeral_v0_999 (h_c0 : 0 ≤ 0 ∧ 0 ≤ 0) (h_c1 : 999 ≤ 999 ∧ 999 ≤ 999) (h_x_size : 0 ≤ x_size ∧ x_size ≤ 1600) (h_x_faultKind : 0 ≤ x_faultKind ∧ x_faultKind ≤ 5) (h_x_faultPlace : -1 ≤ x_faultPlace ∧ x_faultPlace ≤ 1600) (h_x_at : 0 ≤ x_at ∧ x_at ≤ 1600) (h_x_end : 0 ≤ x_end ∧ x_end ≤ 1600) (h_x_token : 0 ≤ x_token ∧ x_token ≤ 5) (h_x_number : -2147483648 ≤ x_number ∧ x_number ≤ 2147483647) (b_B_text : bd (-128) 127 B_text) (g_E : x_end ≤ x_size) : MetG l D k yX12_numeral cX12_numeral 4 (some .int) 2 [.ref (a 0), .int (mI 0), .int (mI 999)] (rW k a x_taped x_size x_faultKind x_faultPlace x_at x_end x_token x_number x_bank x_rb x_codes x_within x_piled x_unitsInRule x_askBeast x_askStroke x_askAge x_askSeason x_acts x_undone x_laid x_seens x_time x_fitting n_name B_tape B_text B_turns B_herds B_irons B_beasts B_units B_night B_draw B_told B_brands B_ironMarks B_herdTold B_born B_ruleFrom B_ruleTo B_code B_codeNumber B_eWhat B_eSign B_pile B_all B_burned B_was B_need B_laidRow B_long8 B_brings B_sBurning B_sStroke B_sIs B_sTold B_sUntold B_parts B_boxAll B_isBoxed G_hName G_iName G_bName ex) (qGi (fun r0 H => ∃ (y_faultKind : Int) (y_faultPlace : Int) (y_at : Int) (y_end : Int) (y_token : Int) (y_number : Int) (j_name : Int64), (0 ≤ r0 ∧ r0 ≤ 999) ∧ (0 ≤ y_faultKind ∧ y_faultKind ≤ 5) ∧ (-1 ≤ y_faultPlace ∧ y_faultPlace ≤ 1600) ∧ (0 ≤ y_at ∧ y_at ≤ 1600) ∧ (0 ≤ y_end ∧ y_end ≤ 1600) ∧ (0 ≤ y_token ∧ y_token ≤ 5) ∧ (-2147483648 ≤ y_number ∧ y_number ≤ 2147483647) ∧ (0 ≤ y_faultKind - x_faultKind) ∧ (0 ≤ y_end - x_end) ∧ (1 ≤ y_faultKind ∨ y_token ≤ 0 ∨ x_end + 1 ≤ y_end) ∧ (x_token = 4 ∨ 1 ≤ y_faultKind) ∧ (y_end ≤ x_size) ∧ va_P D vwCl (rW k a x_taped x_size y_faultKind y_faultPlace y_at y_end y_token y_number x_bank x_rb x_codes x_within x_piled x_unitsInRule x_askBeast x_askStroke x_askAge x_askSeason x_acts x_undone x_laid x_seens x_time x_fitting j_name B_tape B_text B_turns B_herds B_irons B_beasts B_units B_night B_draw B_told B_brands B_ironMarks B_herdTold B_born B_ruleFrom B_ruleTo B_code B_codeNumber B_eWhat B_eSign B_pile B_all B_burned B_was B_need B_laidRow B_long8 B_brings B_sBurning B_sStroke B_sIs B_sTold B_sUntold B_parts B_boxAll B_isBoxed G_hName G_iName G_bName ex) H)) := by
  refine metG_of 2 ck_X12_numeral (Nat.le_of_ble_eq_true rfl) rMap (fun p e s m args below meth c A hx hb hml hr hlocks hown hts hK hD hA hP hS ls hl => ?_)
  have hown : s.vm.findClass "HideReaderModel" = some m.cls := hown
  have hl : lv_has ls 4 [(0, .ref (a 0)), (1, .int (mI 0)), (2, .int (mI 999))] := hl
  refine lv_aload_n hx hb dX12_numeral_0 rfl (lv_at hl 0 rfl) ?_
  refine g_i (rDt hD) hS hA (g_V (own := "HideReaderModel") (As := []) (rest := []) hx hb hml hown hts hK hP (rDt hD) (kr_X12_isGood (l := l) (D := D) (k := k) h_x_faultKind) ck_X12_isGood iv_X12_isGood uw_8_18 (rv_o hK hP) rfl hl.1 rfl (Nat.le_of_ble_eq_true rfl) dX12_numeral_1 ⟨Nat.le_of_ble_eq_true rfl, Nat.le_of_ble_eq_true rfl⟩ ⟨Nat.le_of_ble_eq_true rfl, Nat.le_of_ble_eq_true rfl⟩) (fun r_1 H locs hQ hS => ?_)
  obtain ⟨hq_r_1, hP⟩ := hQ
  rcases hq_r_1 with ⟨rfl, c_2_0, c_2_1⟩ | ⟨rfl, c_3_0⟩
  · skip
    refine sy_if_ne (tgt := 9) hx hb dX12_numeral_4 (by decide) (by decide) (fun c9 => absurd c9 (by decide)) (fun c_4 => ?_)
    refine lv_iload_n hx hb dX12_numeral_7 rfl (lv_at hl 1 rfl) ?_
    exact r_i hx hb hr hlocks dX12_numeral_8 hS ⟨x_faultKind, x_faultPlace, x_at, x_end, x_token, x_number, n_name, by omega, by omega, by omega, by omega, by omega, by omega, by omega, by omega, by omega, by omega, by omega, g_E, hP⟩
  · skip
    refine sy_if_ne (tgt := 9) hx hb dX12_numeral_4 (by decide) (by decide) (fun c_5 => ?_) (fun c9 => absurd c9 (by decide))
    refine lv_aload_n hx hb dX12_numeral_9 rfl (lv_at hl 0 rfl) ?_
    refine rg_o_token hx hb hts hown hK hP uw_7_31 dX12_numeral_10 ?_
    refine lv_iconst (v := mI 4) hx hb dX12_numeral_13 rfl ?_
    refine sy_icmp_eq (tgt := 21) hx hb dX12_numeral_14 (by decide) (by omega) (by decide) (fun c_6 => ?_) (fun c_6 => ?_)
    · skip
      refine lv_aload_n hx hb dX12_numeral_21 rfl (lv_at hl 0 rfl) ?_
      refine g_i (rDt hD) hS hA (g_V (own := "HideReaderModel") (As := []) (rest := []) hx hb hml hown hts hK hP (rDt hD) (kr_X12_isGood (l := l) (D := D) (k := k) h_x_faultKind) ck_X12_isGood iv_X12_isGood uw_8_18 (rv_o hK hP) rfl hl.1 rfl (Nat.le_of_ble_eq_true rfl) dX12_numeral_22 ⟨Nat.le_of_ble_eq_true rfl, Nat.le_of_ble_eq_true rfl⟩ ⟨Nat.le_of_ble_eq_true rfl, Nat.le_of_ble_eq_true rfl⟩) (fun r_7 H locs hQ hS => ?_)
      obtain ⟨hq_r_7, hP⟩ := hQ
      rcases hq_r_7 with ⟨rfl, c_8_0, c_8_1⟩ | ⟨rfl, c_9_0⟩
      exact False.elim (by omega)
      · skip
        refine sy_if_eq (tgt := 53) hx hb dX12_numeral_25 (by decide) (by decide) (fun c9 => absurd c9 (by decide)) (fun c_10 => ?_)
        refine lv_aload_n hx hb dX12_numeral_28 rfl (lv_at hl 0 rfl) ?_
        refine rg_o_number hx hb hts hown hK hP uw_7_32 dX12_numeral_29 ?_
        refine lv_iload_n hx hb dX12_numeral_32 rfl (lv_at hl 1 rfl) ?_
        refine sy_icmp_lt (tgt := 44) hx hb dX12_numeral_33 (by decide) (by omega) (by decide) (fun c_11 => ?_) (fun c_11 => ?_)
        · skip
          refine lv_aload_n hx hb dX12_numeral_44 rfl (lv_at hl 0 rfl) ?_
          refine lv_iconst (v := mI 4) hx hb dX12_numeral_45 rfl ?_
          refine lv_aload_n hx hb dX12_numeral_46 rfl (lv_at hl 0 rfl) ?_
          refine rg_o_at hx hb hts hown hK hP uw_7_29 dX12_numeral_47 ?_
          refine g_v (rDt hD) hS hA (g_V (own := "HideReaderModel") (As := [.int (mI 4), .int (mI x_at)]) (rest := []) hx hb hml hown hts hK hP (rDt hD) (kr_X12_fails (l := l) (D := D) (k := k) (by decide) (by omega) h_x_faultKind h_x_faultPlace) ck_X12_fails iv_X12_fails uw_8_38 (rv_o hK hP) rfl hl.1 rfl (Nat.le_of_ble_eq_true rfl) dX12_numeral_50 ⟨Nat.le_of_ble_eq_true rfl, Nat.le_of_ble_eq_true rfl⟩ ⟨Nat.le_of_ble_eq_true rfl, Nat.le_of_ble_eq_true rfl⟩) (fun H locs hQ hS => ?_)
          obtain ⟨y_13, y_14, hr_12_0, hr_12_1, hr_12_2, hP⟩ := hQ
          refine lv_aload_n hx hb dX12_numeral_53 rfl (lv_at hl 0 rfl) ?_
          refine rg_o_number hx hb hts hown hK hP uw_7_32 dX12_numeral_54 ?_
          refine lv_istore_n (lv' := [(3, .int (mI x_number)), (0, .ref (a 0)), (1, .int (mI 0)), (2, .int (mI 999))]) hx hb dX12_numeral_57 rfl hl (by decide) rfl (fun ls hl => ?_)
          refine lv_aload_n hx hb dX12_numeral_58 rfl (lv_at hl 1 rfl) ?_
          refine g_i (rDt hD) hS hA (g_V (own := "HideReaderModel") (As := []) (rest := []) hx hb hml hown hts hK hP (rDt hD) (kr_X12_isGood (l := l) (D := D) (k := k) (by omega)) ck_X12_isGood iv_X12_isGood uw_8_18 (rv_o hK hP) rfl hl.1 rfl (Nat.le_of_ble_eq_true rfl) dX12_numeral_59 ⟨Nat.le_of_ble_eq_true rfl, Nat.le_of_ble_eq_true rfl⟩ ⟨Nat.le_of_ble_eq_true rfl, Nat.le_of_ble_eq_true rfl⟩) (fun r_15 H locs hQ hS => ?_)
          obtain ⟨hq_r_15, hP⟩ := hQ
          rcases hq_r_15 with ⟨rfl, c_16_0, c_16_1⟩ | ⟨rfl, c_17_0⟩
          · skip
            refine sy_if_eq (tgt := 69) hx hb dX12_numeral_62 (by decide) (by decide) (fun c_18 => ?_) (fun c9 => absurd c9 (by decide))
            refine lv_aload_n hx hb dX12_numeral_69 rfl (lv_at hl 1 rfl) ?_
            refine g_i (rDt hD) hS hA (g_V (own := "HideReaderModel") (As := []) (rest := []) hx hb hml hown hts hK hP (rDt hD) (kr_X12_isGood (l := l) (D := D) (k := k) (by omega)) ck_X12_isGood iv_X12_isGood uw_8_18 (rv_o hK hP) rfl hl.1 rfl (Nat.le_of_ble_eq_true rfl) dX12_numeral_70 ⟨Nat.le_of_ble_eq_true rfl, Nat.le_of_ble_eq_true rfl⟩ ⟨Nat.le_of_ble_eq_true rfl, Nat.le_of_ble_eq_true rfl⟩) (fun r_19 H locs hQ hS => ?_)
            obtain ⟨hq_r_19, hP⟩ := hQ
            rcases hq_r_19 with ⟨rfl, c_20_0, c_20_1⟩ | ⟨rfl, c_21_0⟩
            · skip
              refine sy_if_eq (tgt := 80) hx hb dX12_numeral_73 (by decide) (by decide) (fun c_22 => ?_) (fun c9 => absurd c9 (by decide))
              refine lv_iload_n hx hb dX12_numeral_80 rfl (lv_at hl 2 rfl) ?_
              exact r_i hx hb hr hlocks dX12_numeral_81 hS ⟨y_13, y_14, x_at, x_end, x_token, x_number, n_name, by omega, by omega, by omega, by omega, by omega, by omega, by omega, by omega, by omega, by omega, by omega, g_E, hP⟩
            exact False.elim (by omega)
          exact False.elim (by omega)
        · skip
          refine lv_aload_n hx hb dX12_numeral_36 rfl (lv_at hl 0 rfl) ?_
          refine rg_o_number hx hb hts hown hK hP uw_7_32 dX12_numeral_37 ?_
          refine lv_iload_n hx hb dX12_numeral_40 rfl (lv_at hl 2 rfl) ?_
          refine sy_icmp_le (tgt := 53) hx hb dX12_numeral_41 (by decide) (by omega) (by decide) (fun c_23 => ?_) (fun c_23 => ?_)
          · skip
            refine lv_aload_n hx hb dX12_numeral_53 rfl (lv_at hl 0 rfl) ?_
            refine rg_o_number hx hb hts hown hK hP uw_7_32 dX12_numeral_54 ?_
            refine lv_istore_n (lv' := [(3, .int (mI x_number)), (0, .ref (a 0)), (1, .int (mI 0)), (2, .int (mI 999))]) hx hb dX12_numeral_57 rfl hl (by decide) rfl (fun ls hl => ?_)
            refine lv_aload_n hx hb dX12_numeral_58 rfl (lv_at hl 1 rfl) ?_
            refine g_i (rDt hD) hS hA (g_V (own := "HideReaderModel") (As := []) (rest := []) hx hb hml hown hts hK hP (rDt hD) (kr_X12_isGood (l := l) (D := D) (k := k) h_x_faultKind) ck_X12_isGood iv_X12_isGood uw_8_18 (rv_o hK hP) rfl hl.1 rfl (Nat.le_of_ble_eq_true rfl) dX12_numeral_59 ⟨Nat.le_of_ble_eq_true rfl, Nat.le_of_ble_eq_true rfl⟩ ⟨Nat.le_of_ble_eq_true rfl, Nat.le_of_ble_eq_true rfl⟩) (fun r_24 H locs hQ hS => ?_)
            obtain ⟨hq_r_24, hP⟩ := hQ
            rcases hq_r_24 with ⟨rfl, c_25_0, c_25_1⟩ | ⟨rfl, c_26_0⟩
            exact False.elim (by omega)
            · skip
              refine sy_if_eq (tgt := 69) hx hb dX12_numeral_62 (by decide) (by decide) (fun c9 => absurd c9 (by decide)) (fun c_27 => ?_)
              refine lv_aload_n hx hb dX12_numeral_65 rfl (lv_at hl 1 rfl) ?_
              refine g_v (rDt hD) hS hA (g_V (own := "HideReaderModel") (As := []) (rest := []) hx hb hml hown hts hK hP (rDt hD) (kr_X12_goOn (l := l) (D := D) (k := k) h_x_size h_x_end h_x_number b_B_text g_E) ck_X12_goOn iv_X12_goOn uw_7_220 (rv_o hK hP) rfl hl.1 rfl (Nat.le_of_ble_eq_true rfl) dX12_numeral_66 ⟨Nat.le_of_ble_eq_true rfl, Nat.le_of_ble_eq_true rfl⟩ ⟨Nat.le_of_ble_eq_true rfl, Nat.le_of_ble_eq_true rfl⟩) (fun H locs hQ hS => ?_)
              obtain ⟨y_29, y_30, y_31, y_32, j_33, hr_28_0, hr_28_1, hr_28_2, hr_28_3, hr_28_4, hr_28_5, kr_28_E, hP⟩ := hQ
              refine lv_aload_n hx hb dX12_numeral_69 rfl (lv_at hl 1 rfl) ?_
              refine g_i (rDt hD) hS hA (g_V (own := "HideReaderModel") (As := []) (rest := []) hx hb hml hown hts hK hP (rDt hD) (kr_X12_isGood (l := l) (D := D) (k := k) h_x_faultKind) ck_X12_isGood iv_X12_isGood uw_8_18 (rv_o hK hP) rfl hl.1 rfl (Nat.le_of_ble_eq_true rfl) dX12_numeral_70 ⟨Nat.le_of_ble_eq_true rfl, Nat.le_of_ble_eq_true rfl⟩ ⟨Nat.le_of_ble_eq_true rfl, Nat.le_of_ble_eq_true rfl⟩) (fun r_34 H locs hQ hS => ?_)
              obtain ⟨hq_r_34, hP⟩ := hQ
              rcases hq_r_34 with ⟨rfl, c_35_0, c_35_1⟩ | ⟨rfl, c_36_0⟩
              exact False.elim (by omega)
              · skip
                refine sy_if_eq (tgt := 80) hx hb dX12_numeral_73 (by decide) (by decide) (fun c9 => absurd c9 (by decide)) (fun c_37 => ?_)
                refine lv_iload_n hx hb dX12_numeral_76 rfl (lv_at hl 0 rfl) ?_
                refine lv_goto (tgt := 81) hx hb dX12_numeral_77 (by decide) ?_
                exact r_i hx hb hr hlocks dX12_numeral_81 hS ⟨x_faultKind, x_faultPlace, y_29, y_30, y_31, y_32, j_33, by omega, by omega, by omega, by omega, by omega, by omega, by omega, by omega, by omega, by omega, by omega, kr_28_E, hP⟩
          · skip
            refine lv_aload_n hx hb dX12_numeral_44 rfl (lv_at hl 0 rfl) ?_
            refine lv_iconst (v := mI 4) hx hb dX12_numeral_45 rfl ?_
            refine lv_aload_n hx hb dX12_numeral_46 rfl (lv_at hl 0 rfl) ?_
            refine rg_o_at hx hb hts hown hK hP uw_7_29 dX12_numeral_47 ?_
            refine g_v (rDt hD) hS hA (g_V (own := "HideReaderModel") (As := [.int (mI 4), .int (mI x_at)]) (rest := []) hx hb hml hown hts hK hP (rDt hD) (kr_X12_fails (l := l) (D := D) (k := k) (by decide) (by omega) h_x_faultKind h_x_faultPlace) ck_X12_fails iv_X12_fails uw_8_38 (rv_o hK hP) rfl hl.1 rfl (Nat.le_of_ble_eq_true rfl) dX12_numeral_50 ⟨Nat.le_of_ble_eq_true rfl, Nat.le_of_ble_eq_true rfl⟩ ⟨Nat.le_of_ble_eq_true rfl, Nat.le_of_ble_eq_true rfl⟩) (fun H locs hQ hS => ?_)
            obtain ⟨y_39, y_40, hr_38_0, hr_38_1, hr_38_2, hP⟩ := hQ
            refine lv_aload_n hx hb dX12_numeral_53 rfl (lv_at hl 0 rfl) ?_
            refine rg_o_number hx hb hts hown hK hP uw_7_32 dX12_numeral_54 ?_
            refine lv_istore_n (lv' := [(3, .int (mI x_number)), (0, .ref (a 0)), (1, .int (mI 0)), (2, .int (mI 999))]) hx hb dX12_numeral_57 rfl hl (by decide) rfl (fun ls hl => ?_)
            refine lv_aload_n hx hb dX12_numeral_58 rfl (lv_at hl 1 rfl) ?_
            refine g_i (rDt hD) hS hA (g_V (own := "HideReaderModel") (As := []) (rest := []) hx hb hml hown hts hK hP (rDt hD) (kr_X12_isGood (l := l) (D := D) (k := k) (by omega)) ck_X12_isGood iv_X12_isGood uw_8_18 (rv_o hK hP) rfl hl.1 rfl (Nat.le_of_ble_eq_true rfl) dX12_numeral_59 ⟨Nat.le_of_ble_eq_true rfl, Nat.le_of_ble_eq_true rfl⟩ ⟨Nat.le_of_ble_eq_true rfl, Nat.le_of_ble_eq_true rfl⟩) (fun r_41 H locs hQ hS => ?_)
            obtain ⟨hq_r_41, hP⟩ := hQ
            rcases hq_r_41 with ⟨rfl, c_42_0, c_42_1⟩ | ⟨rfl, c_43_0⟩
            · skip
              refine sy_if_eq (tgt := 69) hx hb dX12_numeral_62 (by decide) (by decide) (fun c_44 => ?_) (fun c9 => absurd c9 (by decide))
              refine lv_aload_n hx hb dX12_numeral_69 rfl (lv_at hl 1 rfl) ?_
              refine g_i (rDt hD) hS hA (g_V (own := "HideReaderModel") (As := []) (rest := []) hx hb hml hown hts hK hP (rDt hD) (kr_X12_isGood (l := l) (D := D) (k := k) (by omega)) ck_X12_isGood iv_X12_isGood uw_8_18 (rv_o hK hP) rfl hl.1 rfl (Nat.le_of_ble_eq_true rfl) dX12_numeral_70 ⟨Nat.le_of_ble_eq_true rfl, Nat.le_of_ble_eq_true rfl⟩ ⟨Nat.le_of_ble_eq_true rfl, Nat.le_of_ble_eq_true rfl⟩) (fun r_45 H locs hQ hS => ?_)
              obtain ⟨hq_r_45, hP⟩ := hQ
              rcases hq_r_45 with ⟨rfl, c_46_0, c_46_1⟩ | ⟨rfl, c_47_0⟩
              · skip
                refine sy_if_eq (tgt := 80) hx hb dX12_numeral_73 (by decide) (by decide) (fun c_48 => ?_) (fun c9 => absurd c9 (by decide))
                refine lv_iload_n hx hb dX12_numeral_80 rfl (lv_at hl 2 rfl) ?_
                exact r_i hx hb hr hlocks dX12_numeral_81 hS ⟨y_39, y_40, x_at, x_end, x_token, x_number, n_name, by omega, by omega, by omega, by omega, by omega, by omega, by omega, by omega, by omega, by omega, by omega, g_E, hP⟩
              exact False.elim (by omega)
            exact False.elim (by omega)
    · skip
      refine lv_aload_n hx hb dX12_numeral_17 rfl (lv_at hl 0 rfl) ?_
      refine g_v (rDt hD) hS hA (g_V (own := "HideReaderModel") (As := []) (rest := []) hx hb hml hown hts hK hP (rDt hD) (kr_X12_misplaced (l := l) (D := D) (k := k) h_x_faultKind h_x_faultPlace h_x_at h_x_token) ck_X12_misplaced iv_X12_misplaced uw_8_34 (rv_o hK hP) rfl hl.1 rfl (Nat.le_of_ble_eq_true rfl) dX12_numeral_18 ⟨Nat.le_of_ble_eq_true rfl, Nat.le_of_ble_eq_true rfl⟩ ⟨Nat.le_of_ble_eq_true rfl, Nat.le_of_ble_eq_true rfl⟩) (fun H locs hQ hS => ?_)
      obtain ⟨y_50, y_51, hr_49_0, hr_49_1, hr_49_2, hP⟩ := hQ
      refine lv_aload_n hx hb dX12_numeral_21 rfl (lv_at hl 0 rfl) ?_
      refine g_i (rDt hD) hS hA (g_V (own := "HideReaderModel") (As := []) (rest := []) hx hb hml hown hts hK hP (rDt hD) (kr_X12_isGood (l := l) (D := D) (k := k) (by omega)) ck_X12_isGood iv_X12_isGood uw_8_18 (rv_o hK hP) rfl hl.1 rfl (Nat.le_of_ble_eq_true rfl) dX12_numeral_22 ⟨Nat.le_of_ble_eq_true rfl, Nat.le_of_ble_eq_true rfl⟩ ⟨Nat.le_of_ble_eq_true rfl, Nat.le_of_ble_eq_true rfl⟩) (fun r_52 H locs hQ hS => ?_)
      obtain ⟨hq_r_52, hP⟩ := hQ
      rcases hq_r_52 with ⟨rfl, c_53_0, c_53_1⟩ | ⟨rfl, c_54_0⟩
      · skip
        refine sy_if_eq (tgt := 53) hx hb dX12_numeral_25 (by decide) (by decide) (fun c_55 => ?_) (fun c9 => absurd c9 (by decide))
        refine lv_aload_n hx hb dX12_numeral_53 rfl (lv_at hl 0 rfl) ?_
        refine rg_o_number hx hb hts hown hK hP uw_7_32 dX12_numeral_54 ?_
        refine lv_istore_n (lv' := [(3, .int (mI x_number)), (0, .ref (a 0)), (1, .int (mI 0)), (2, .int (mI 999))]) hx hb dX12_numeral_57 rfl hl (by decide) rfl (fun ls hl => ?_)
        refine lv_aload_n hx hb dX12_numeral_58 rfl (lv_at hl 1 rfl) ?_
        refine g_i (rDt hD) hS hA (g_V (own := "HideReaderModel") (As := []) (rest := []) hx hb hml hown hts hK hP (rDt hD) (kr_X12_isGood (l := l) (D := D) (k := k) (by omega)) ck_X12_isGood iv_X12_isGood uw_8_18 (rv_o hK hP) rfl hl.1 rfl (Nat.le_of_ble_eq_true rfl) dX12_numeral_59 ⟨Nat.le_of_ble_eq_true rfl, Nat.le_of_ble_eq_true rfl⟩ ⟨Nat.le_of_ble_eq_true rfl, Nat.le_of_ble_eq_true rfl⟩) (fun r_56 H locs hQ hS => ?_)
        obtain ⟨hq_r_56, hP⟩ := hQ
        rcases hq_r_56 with ⟨rfl, c_57_0, c_57_1⟩ | ⟨rfl, c_58_0⟩
        · skip
          refine sy_if_eq (tgt := 69) hx hb dX12_numeral_62 (by decide) (by decide) (fun c_59 => ?_) (fun c9 => absurd c9 (by decide))
          refine lv_aload_n hx hb dX12_numeral_69 rfl (lv_at hl 1 rfl) ?_
          refine g_i (rDt hD) hS hA (g_V (own := "HideReaderModel") (As := []) (rest := []) hx hb hml hown hts hK hP (rDt hD) (kr_X12_isGood (l := l) (D := D) (k := k) (by omega)) ck_X12_isGood iv_X12_isGood uw_8_18 (rv_o hK hP) rfl hl.1 rfl (Nat.le_of_ble_eq_true rfl) dX12_numeral_70 ⟨Nat.le_of_ble_eq_true rfl, Nat.le_of_ble_eq_true rfl⟩ ⟨Nat.le_of_ble_eq_true rfl, Nat.le_of_ble_eq_true rfl⟩) (fun r_60 H locs hQ hS => ?_)
          obtain ⟨hq_r_60, hP⟩ := hQ
          rcases hq_r_60 with ⟨rfl, c_61_0, c_61_1⟩ | ⟨rfl, c_62_0⟩
          · skip
            refine sy_if_eq (tgt := 80) hx hb dX12_numeral_73 (by decide) (by decide) (fun c_63 => ?_) (fun c9 => absurd c9 (by decide))
            refine lv_iload_n hx hb dX12_numeral_80 rfl (lv_at hl 2 rfl) ?_
            exact r_i hx hb hr hlocks dX12_numeral_81 hS ⟨y_50, y_51, x_at, x_end, x_token, x_number, n_name, by omega, by omega, by omega, by omega, by omega, by omega, by omega, by omega, by omega, by omega, by omega, g_E, hP⟩
          exact False.elim (by omega)
        exact False.elim (by omega)
      exact False.elim (by omega)
set_option maxHeartbeats 4000000 in
set_option maxRecDepth 100000 in
theorem kr_X12_readLine (h_x_size : 0 ≤ x_size ∧ x_size ≤ 1600) (h_x_faultKind : 0 ≤ x_faultKind ∧ x_faultKind ≤ 5) (h_x_faultPlace : -1 ≤ x_faultPlace ∧ x_faultPlace ≤ 1600) (h_x_at : 0 ≤ x_at ∧ x_at ≤ 1600) (h_x_end : 0 ≤ x_end ∧ x_end ≤ 1600) (h_x_token : 0 ≤ x_token ∧ x_token ≤ 5) (h_x_number : -2147483648 ≤ x_number ∧ x_number ≤ 2147483647) (h_x_rb : 0 ≤ x_rb ∧ x_rb ≤ 1) (h_x_codes : 0 ≤ x_codes ∧ x_codes ≤ 1120) (h_x_within : 0 ≤ x_within ∧ x_within ≤ 7) (h_x_piled : 0 ≤ x_piled ∧ x_piled ≤ 90) (h_x_unitsInRule : 0 ≤ x_unitsInRule ∧ x_unitsInRule ≤ 30) (b_B_text : bd (-128) 127 B_text) (b_B_turns : bd (1) 4 B_turns) (b_B_herds : bd (0) 8 B_herds) (b_B_irons : bd (0) 6 B_irons) (b_B_beasts : bd (0) 8 B_beasts) (b_B_units : bd (0) 60 B_units) (b_B_night : bd (0) 100 B_night) (b_B_draw : bd (0) 999 B_draw) (b_B_told : bd (0) 31 B_told) (b_B_brands : bd (0) 4095 B_brands) (b_B_ironMarks : bd (0) 4095 B_ironMarks) (b_B_herdTold : bd (0) 7 B_herdTold) (b_B_born : bd (0) 99 B_born) (b_B_ruleFrom : bd (0) 1120 B_ruleFrom) (b_B_ruleTo : bd (0) 1120 B_ruleTo) (b_B_code : bd (-2147483648) 2147483647 B_code) (b_B_codeNumber : bd (-2147483648) 2147483647 B_codeNumber) (b_B_eWhat : bd (0) 8 B_eWhat) (b_B_eSign : bd (-2147483648) 2147483647 B_eSign) (g_E : x_end ≤ x_size) (g_Z : 1 ≤ x_faultKind ∨ 0 ≤ 560 * x_rb + 9 * B_units x_rb.toNat - x_codes) : MetG l D k yX12_readLine cX12_readLine 3 none 6 [.ref (a 0)] (rW k a x_taped x_size x_faultKind x_faultPlace x_at x_end x_token x_number x_bank x_rb x_codes x_within x_piled x_unitsInRule x_askBeast x_askStroke x_askAge x_askSeason x_acts x_undone x_laid x_seens x_time x_fitting n_name B_tape B_text B_turns B_herds B_irons B_beasts B_units B_night B_draw B_told B_brands B_ironMarks B_herdTold B_born B_ruleFrom B_ruleTo B_code B_codeNumber B_eWhat B_eSign B_pile B_all B_burned B_was B_need B_laidRow B_long8 B_brings B_sBurning B_sStroke B_sIs B_sTold B_sUntold B_parts B_boxAll B_isBoxed G_hName G_iName G_bName ex) (qGv (fun H => ∃ (y_faultKind : Int) (y_faultPlace : Int) (y_at : Int) (y_end : Int) (y_token : Int) (y_number : Int) (j_name : Int64) (F_turns : Nat → Int) (F_herds : Nat → Int) (F_irons : Nat → Int) (F_beasts : Nat → Int) (F_units : Nat → Int) (F_night : Nat → Int) (F_draw : Nat → Int) (F_told : Nat → Int) (F_brands : Nat → Int) (F_ironMarks : Nat → Int) (F_herdTold : Nat → Int) (F_born : Nat → Int) (F_ruleFrom : Nat → Int) (F_ruleTo : Nat → Int) (G_hName : Nat → Int64) (G_iName : Nat → Int64) (G_bName : Nat → Int64) (F_code : Nat → Int) (F_codeNumber : Nat → Int) (F_eWhat : Nat → Int) (F_eSign : Nat → Int) (y_codes : Int) (y_within : Int) (y_piled : Int) (y_unitsInRule : Int), (0 ≤ y_faultKind ∧ y_faultKind ≤ 5) ∧ (-1 ≤ y_faultPlace ∧ y_faultPlace ≤ 1600) ∧ (0 ≤ y_at ∧ y_at ≤ 1600) ∧ (0 ≤ y_end ∧ y_end ≤ 1600) ∧ (0 ≤ y_token ∧ y_token ≤ 5) ∧ (-2147483648 ≤ y_number ∧ y_number ≤ 2147483647) ∧ (bd (1) 4 F_turns) ∧ (bd (0) 8 F_herds) ∧ (bd (0) 6 F_irons) ∧ (bd (0) 8 F_beasts) ∧ (bd (0) 60 F_units) ∧ (bd (0) 100 F_night) ∧ (bd (0) 999 F_draw) ∧ (bd (0) 31 F_told) ∧ (bd (0) 4095 F_brands) ∧ (bd (0) 4095 F_ironMarks) ∧ (bd (0) 7 F_herdTold) ∧ (bd (0) 99 F_born) ∧ (bd (0) 1120 F_ruleFrom) ∧ (bd (0) 1120 F_ruleTo) ∧ (bd (-2147483648) 2147483647 F_code) ∧ (bd (-2147483648) 2147483647 F_codeNumber) ∧ (bd (0) 8 F_eWhat) ∧ (bd (-2147483648) 2147483647 F_eSign) ∧ (0 ≤ y_codes ∧ y_codes ≤ 1120) ∧ (0 ≤ y_within ∧ y_within ≤ 7) ∧ (0 ≤ y_piled ∧ y_piled ≤ 90) ∧ (0 ≤ y_unitsInRule ∧ y_unitsInRule ≤ 30) ∧ (0 ≤ y_faultKind - x_faultKind) ∧ (0 ≤ y_end - x_end) ∧ (0 ≤ y_codes - x_codes) ∧ (1 ≤ y_faultKind ∨ x_end + 1 ≤ y_end) ∧ (y_end ≤ x_size) ∧ (1 ≤ y_faultKind ∨ 0 ≤ 560 * x_rb + 9 * F_units x_rb.toNat - y_codes) ∧ va_P D vwCl (rW k a x_taped x_size y_faultKind y_faultPlace y_at y_end y_token y_number x_bank x_rb y_codes y_within y_piled y_unitsInRule x_askBeast x_askStroke x_askAge x_askSeason x_acts x_undone x_laid x_seens x_time x_fitting j_name B_tape B_text F_turns F_herds F_irons F_beasts F_units F_night F_draw F_told F_brands F_ironMarks F_herdTold F_born F_ruleFrom F_ruleTo F_code F_codeNumber F_eWhat F_eSign B_pile B_all B_burned B_was B_need B_laidRow B_long8 B_brings B_sBurning B_sStroke B_sIs B_sTold B_sUntold B_parts B_boxAll B_isBoxed G_hName G_iName G_bName ex) H)) := by
  refine metG_of 0 ck_X12_readLine (Nat.le_of_ble_eq_true rfl) rMap (fun p e s m args below meth c A hx hb hml hr hlocks hown hts hK hD hA hP hS ls hl => ?_)
  have hown : s.vm.findClass "HideReaderModel" = some m.cls := hown
  have hl : lv_has ls 3 [(0, .ref (a 0))] := hl
  refine lv_aload_n hx hb dX12_readLine_0 rfl (lv_at hl 0 rfl) ?_
  refine rg_o_name hx hb hts hown hK hP uw_7_33 dX12_readLine_1 ?_
  refine lv_lstore_n (lv' := [(1, .long n_name), (0, .ref (a 0))]) hx hb dX12_readLine_4 rfl hl (by decide) rfl (fun ls hl => ?_)
  refine lv_aload_n hx hb dX12_readLine_5 rfl (lv_at hl 1 rfl) ?_
  refine rg_o_token hx hb hts hown hK hP uw_7_31 dX12_readLine_6 ?_
  refine lv_iconst (v := mI 3) hx hb dX12_readLine_9 rfl ?_
  refine sy_icmp_ne (tgt := 20) hx hb dX12_readLine_10 (by decide) (by omega) (by decide) (fun c_1 => ?_) (fun c_1 => ?_)
  · skip
    refine lv_aload_n hx hb dX12_readLine_20 rfl (lv_at hl 1 rfl) ?_
    refine g_v (rDt hD) hS hA (g_V (own := "HideReaderModel") (As := []) (rest := []) hx hb hml hown hts hK hP (rDt hD) (kr_X12_misplaced (l := l) (D := D) (k := k) h_x_faultKind h_x_faultPlace h_x_at h_x_token) ck_X12_misplaced iv_X12_misplaced uw_8_34 (rv_o hK hP) rfl hl.1 rfl (Nat.le_of_ble_eq_true rfl) dX12_readLine_21 ⟨Nat.le_of_ble_eq_true rfl, Nat.le_of_ble_eq_true rfl⟩ ⟨Nat.le_of_ble_eq_true rfl, Nat.le_of_ble_eq_true rfl⟩) (fun H locs hQ hS => ?_)
    obtain ⟨y_3, y_4, hr_2_0, hr_2_1, hr_2_2, hP⟩ := hQ
    refine lv_aload_n hx hb dX12_readLine_24 rfl (lv_at hl 1 rfl) ?_
    refine g_i (rDt hD) hS hA (g_V (own := "HideReaderModel") (As := []) (rest := []) hx hb hml hown hts hK hP (rDt hD) (kr_X12_isGood (l := l) (D := D) (k := k) (by omega)) ck_X12_isGood iv_X12_isGood uw_8_18 (rv_o hK hP) rfl hl.1 rfl (Nat.le_of_ble_eq_true rfl) dX12_readLine_25 ⟨Nat.le_of_ble_eq_true rfl, Nat.le_of_ble_eq_true rfl⟩ ⟨Nat.le_of_ble_eq_true rfl, Nat.le_of_ble_eq_true rfl⟩) (fun r_5 H locs hQ hS => ?_)
    obtain ⟨hq_r_5, hP⟩ := hQ
    rcases hq_r_5 with ⟨rfl, c_6_0, c_6_1⟩ | ⟨rfl, c_7_0⟩
    · skip
      refine sy_if_ne (tgt := 32) hx hb dX12_readLine_28 (by decide) (by decide) (fun c9 => absurd c9 (by decide)) (fun c_8 => ?_)
      exact r_v hx hb hr hlocks dX12_readLine_31 hS ⟨y_3, y_4, x_at, x_end, x_token, x_number, n_name, B_turns, B_herds, B_irons, B_beasts, B_units, B_night, B_draw, B_told, B_brands, B_ironMarks, B_herdTold, B_born, B_ruleFrom, B_ruleTo, G_hName, G_iName, G_bName, B_code, B_codeNumber, B_eWhat, B_eSign, x_codes, x_within, x_piled, x_unitsInRule, by omega, by omega, by omega, by omega, by omega, by omega, b_B_turns, b_B_herds, b_B_irons, b_B_beasts, b_B_units, b_B_night, b_B_draw, b_B_told, b_B_brands, b_B_ironMarks, b_B_herdTold, b_B_born, b_B_ruleFrom, b_B_ruleTo, b_B_code, b_B_codeNumber, b_B_eWhat, b_B_eSign, by omega, by omega, by omega, by omega, by omega, by omega, by omega, by omega, g_E, (by omega), hP⟩
    exact False.elim (by omega)
  · skip
    refine lv_aload_n hx hb dX12_readLine_13 rfl (lv_at hl 1 rfl) ?_
    refine g_i (rDt hD) hS hA (g_V (own := "HideReaderModel") (As := []) (rest := []) hx hb hml hown hts hK hP (rDt hD) (kr_X12_isFull (l := l) (D := D) (k := k) (by omega) h_x_rb b_B_herds b_B_irons b_B_beasts b_B_told) ck_X12_isFull iv_X12_isFull uw_8_26 (rv_o hK hP) rfl hl.1 rfl (Nat.le_of_ble_eq_true rfl) dX12_readLine_14 ⟨Nat.le_of_ble_eq_true rfl, Nat.le_of_ble_eq_true rfl⟩ ⟨Nat.le_of_ble_eq_true rfl, Nat.le_of_ble_eq_true rfl⟩) (fun r_9 H locs hQ hS => ?_)
    obtain ⟨hq_r_9, hP⟩ := hQ
    rcases hq_r_9 with rfl | ⟨rfl, c_11_0, c_11_1, c_11_2⟩
    · skip
      refine sy_if_eq (tgt := 24) hx hb dX12_readLine_17 (by decide) (by decide) (fun c9 => absurd c9 (by decide)) (fun c_12 => ?_)
      refine lv_aload_n hx hb dX12_readLine_20 rfl (lv_at hl 1 rfl) ?_
      refine g_v (rDt hD) hS hA (g_V (own := "HideReaderModel") (As := []) (rest := []) hx hb hml hown hts hK hP (rDt hD) (kr_X12_misplaced (l := l) (D := D) (k := k) h_x_faultKind h_x_faultPlace h_x_at h_x_token) ck_X12_misplaced iv_X12_misplaced uw_8_34 (rv_o hK hP) rfl hl.1 rfl (Nat.le_of_ble_eq_true rfl) dX12_readLine_21 ⟨Nat.le_of_ble_eq_true rfl, Nat.le_of_ble_eq_true rfl⟩ ⟨Nat.le_of_ble_eq_true rfl, Nat.le_of_ble_eq_true rfl⟩) (fun H locs hQ hS => ?_)
      obtain ⟨y_14, y_15, hr_13_0, hr_13_1, hr_13_2, hP⟩ := hQ
      refine lv_aload_n hx hb dX12_readLine_24 rfl (lv_at hl 1 rfl) ?_
      refine g_i (rDt hD) hS hA (g_V (own := "HideReaderModel") (As := []) (rest := []) hx hb hml hown hts hK hP (rDt hD) (kr_X12_isGood (l := l) (D := D) (k := k) (by omega)) ck_X12_isGood iv_X12_isGood uw_8_18 (rv_o hK hP) rfl hl.1 rfl (Nat.le_of_ble_eq_true rfl) dX12_readLine_25 ⟨Nat.le_of_ble_eq_true rfl, Nat.le_of_ble_eq_true rfl⟩ ⟨Nat.le_of_ble_eq_true rfl, Nat.le_of_ble_eq_true rfl⟩) (fun r_16 H locs hQ hS => ?_)
      obtain ⟨hq_r_16, hP⟩ := hQ
      rcases hq_r_16 with ⟨rfl, c_17_0, c_17_1⟩ | ⟨rfl, c_18_0⟩
      · skip
        refine sy_if_ne (tgt := 32) hx hb dX12_readLine_28 (by decide) (by decide) (fun c9 => absurd c9 (by decide)) (fun c_19 => ?_)
        exact r_v hx hb hr hlocks dX12_readLine_31 hS ⟨y_14, y_15, x_at, x_end, x_token, x_number, n_name, B_turns, B_herds, B_irons, B_beasts, B_units, B_night, B_draw, B_told, B_brands, B_ironMarks, B_herdTold, B_born, B_ruleFrom, B_ruleTo, G_hName, G_iName, G_bName, B_code, B_codeNumber, B_eWhat, B_eSign, x_codes, x_within, x_piled, x_unitsInRule, by omega, by omega, by omega, by omega, by omega, by omega, b_B_turns, b_B_herds, b_B_irons, b_B_beasts, b_B_units, b_B_night, b_B_draw, b_B_told, b_B_brands, b_B_ironMarks, b_B_herdTold, b_B_born, b_B_ruleFrom, b_B_ruleTo, b_B_code, b_B_codeNumber, b_B_eWhat, b_B_eSign, by omega, by omega, by omega, by omega, by omega, by omega, by omega, by omega, g_E, (by omega), hP⟩
      exact False.elim (by omega)
    · skip
      refine sy_if_eq (tgt := 24) hx hb dX12_readLine_17 (by decide) (by decide) (fun c_20 => ?_) (fun c9 => absurd c9 (by decide))
      refine lv_aload_n hx hb dX12_readLine_24 rfl (lv_at hl 1 rfl) ?_
      refine g_i (rDt hD) hS hA (g_V (own := "HideReaderModel") (As := []) (rest := []) hx hb hml hown hts hK hP (rDt hD) (kr_X12_isGood (l := l) (D := D) (k := k) h_x_faultKind) ck_X12_isGood iv_X12_isGood uw_8_18 (rv_o hK hP) rfl hl.1 rfl (Nat.le_of_ble_eq_true rfl) dX12_readLine_25 ⟨Nat.le_of_ble_eq_true rfl, Nat.le_of_ble_eq_true rfl⟩ ⟨Nat.le_of_ble_eq_true rfl, Nat.le_of_ble_eq_true rfl⟩) (fun r_21 H locs hQ hS => ?_)
      obtain ⟨hq_r_21, hP⟩ := hQ
      rcases hq_r_21 with ⟨rfl, c_22_0, c_22_1⟩ | ⟨rfl, c_23_0⟩
      · skip
        refine sy_if_ne (tgt := 32) hx hb dX12_readLine_28 (by decide) (by decide) (fun c9 => absurd c9 (by decide)) (fun c_24 => ?_)
        exact r_v hx hb hr hlocks dX12_readLine_31 hS ⟨x_faultKind, x_faultPlace, x_at, x_end, x_token, x_number, n_name, B_turns, B_herds, B_irons, B_beasts, B_units, B_night, B_draw, B_told, B_brands, B_ironMarks, B_herdTold, B_born, B_ruleFrom, B_ruleTo, G_hName, G_iName, G_bName, B_code, B_codeNumber, B_eWhat, B_eSign, x_codes, x_within, x_piled, x_unitsInRule, by omega, by omega, by omega, by omega, by omega, by omega, b_B_turns, b_B_herds, b_B_irons, b_B_beasts, b_B_units, b_B_night, b_B_draw, b_B_told, b_B_brands, b_B_ironMarks, b_B_herdTold, b_B_born, b_B_ruleFrom, b_B_ruleTo, b_B_code, b_B_codeNumber, b_B_eWhat, b_B_eSign, by omega, by omega, by omega, by omega, by omega, by omega, by omega, by omega, g_E, g_Z, hP⟩
      · skip
        refine sy_if_ne (tgt := 32) hx hb dX12_readLine_28 (by decide) (by decide) (fun c_25 => ?_) (fun c9 => absurd c9 (by decide))
        refine lv_aload_n hx hb dX12_readLine_32 rfl (lv_at hl 1 rfl) ?_
        refine g_v (rDt hD) hS hA (g_V (own := "HideReaderModel") (As := []) (rest := []) hx hb hml hown hts hK hP (rDt hD) (kr_X12_goOn (l := l) (D := D) (k := k) h_x_size h_x_end h_x_number b_B_text g_E) ck_X12_goOn iv_X12_goOn uw_7_220 (rv_o hK hP) rfl hl.1 rfl (Nat.le_of_ble_eq_true rfl) dX12_readLine_33 ⟨Nat.le_of_ble_eq_true rfl, Nat.le_of_ble_eq_true rfl⟩ ⟨Nat.le_of_ble_eq_true rfl, Nat.le_of_ble_eq_true rfl⟩) (fun H locs hQ hS => ?_)
        obtain ⟨y_27, y_28, y_29, y_30, j_31, hr_26_0, hr_26_1, hr_26_2, hr_26_3, hr_26_4, hr_26_5, kr_26_E, hP⟩ := hQ
        refine lv_lload_n hx hb dX12_readLine_36 rfl (lv_at hl 0 rfl) ?_
        refine lv_ldc2 (own := "HideReaderModel") (v := 500186639987) hx hb hown (hts _ uw_7_234) dX12_readLine_37 ?_
        refine sy_lcmpE hx hb dX12_readLine_40 (fun z_32 ez_32 hz_32 => ?_)
        refine sy_join (I := fun H locs g => ∃ (y_44 : Int) (y_45 : Int) (y_46 : Int) (y_47 : Int) (y_48 : Int) (y_49 : Int) (j_50 : Int64) (F_51 : Nat → Int) (F_52 : Nat → Int) (ls : Array Slot), (0 ≤ y_44 ∧ y_44 ≤ 5) ∧ (-1 ≤ y_45 ∧ y_45 ≤ 1600) ∧ (0 ≤ y_46 ∧ y_46 ≤ 1600) ∧ (0 ≤ y_47 ∧ y_47 ≤ 1600) ∧ (0 ≤ y_48 ∧ y_48 ≤ 5) ∧ (-2147483648 ≤ y_49 ∧ y_49 ≤ 2147483647) ∧ (bd (1) 4 F_51) ∧ (bd (0) 31 F_52) ∧ (y_47 ≤ x_size) ∧ (1 ≤ y_44 ∨ 0 ≤ 560 * x_rb + 9 * B_units x_rb.toNat - x_codes) ∧ (x_faultKind ≤ y_44) ∧ (x_end ≤ y_47) ∧ (y_28 ≤ y_47) ∧ (1 ≤ y_44 ∨ y_48 ≤ 0 ∨ x_end + 1 ≤ y_47) ∧ va_P D vwCl (rW k a x_taped x_size y_44 y_45 y_46 y_47 y_48 y_49 x_bank x_rb x_codes x_within x_piled x_unitsInRule x_askBeast x_askStroke x_askAge x_askSeason x_acts x_undone x_laid x_seens x_time x_fitting j_50 B_tape B_text F_51 B_herds B_irons B_beasts B_units B_night B_draw F_52 B_brands B_ironMarks B_herdTold B_born B_ruleFrom B_ruleTo B_code B_codeNumber B_eWhat B_eSign B_pile B_all B_burned B_was B_need B_laidRow B_long8 B_brings B_sBurning B_sStroke B_sIs B_sTold B_sUntold B_parts B_boxAll B_isBoxed G_hName G_iName G_bName ex) H ∧ va_S A s.heap H locs ∧ lv_has ls 3 [(1, .long n_name), (0, .ref (a 0))] ∧ g = F0 m 48 ls []) ?_ ?_
        · skip
          intro H locs g hI
          obtain ⟨y_44, y_45, y_46, y_47, y_48, y_49, j_50, F_51, F_52, ls, h48_0, h48_1, h48_2, h48_3, h48_4, h48_5, bF_51, bF_52, g_53, g_54, h48_10, h48_11, h48_12, h48_13, hP, hS, hl, rfl⟩ := hI
          refine lv_lload_n hx hb dX12_readLine_48 rfl (lv_at hl 0 rfl) ?_
          refine lv_ldc2 (own := "HideReaderModel") (v := 120299659095922) hx hb hown (hts _ uw_7_235) dX12_readLine_49 ?_
          refine sy_lcmpE hx hb dX12_readLine_52 (fun z_56 ez_56 hz_56 => ?_)
          refine sy_join (I := fun H locs g => ∃ (F_61 : Nat → Int) (ls : Array Slot), (bd (0) 31 F_61) ∧ (1 ≤ y_44 ∨ y_48 ≤ 0 ∨ x_end + 1 ≤ y_47) ∧ va_P D vwCl (rW k a x_taped x_size y_44 y_45 y_46 y_47 y_48 y_49 x_bank x_rb x_codes x_within x_piled x_unitsInRule x_askBeast x_askStroke x_askAge x_askSeason x_acts x_undone x_laid x_seens x_time x_fitting j_50 B_tape B_text F_51 B_herds B_irons B_beasts B_units B_night B_draw F_61 B_brands B_ironMarks B_herdTold B_born B_ruleFrom B_ruleTo B_code B_codeNumber B_eWhat B_eSign B_pile B_all B_burned B_was B_need B_laidRow B_long8 B_brings B_sBurning B_sStroke B_sIs B_sTold B_sUntold B_parts B_boxAll B_isBoxed G_hName G_iName G_bName ex) H ∧ va_S A s.heap H locs ∧ lv_has ls 3 [(1, .long n_name), (0, .ref (a 0))] ∧ g = F0 m 69 ls []) ?_ ?_
          · skip
            intro H locs g hI
            obtain ⟨F_61, ls, bF_61, h69_1, hP, hS, hl, rfl⟩ := hI
            refine lv_lload_n hx hb dX12_readLine_69 rfl (lv_at hl 0 rfl) ?_
            refine lv_ldc2 (own := "HideReaderModel") (v := 1751478884) hx hb hown (hts _ uw_7_236) dX12_readLine_70 ?_
            refine sy_lcmpE hx hb dX12_readLine_73 (fun z_63 ez_63 hz_63 => ?_)
            refine sy_join (I := fun H locs g => ∃ (y_90 : Int) (y_91 : Int) (y_92 : Int) (y_93 : Int) (y_94 : Int) (y_95 : Int) (j_96 : Int64) (F_97 : Nat → Int) (F_98 : Nat → Int) (G_99 : Nat → Int64) (ls : Array Slot), (0 ≤ y_90 ∧ y_90 ≤ 5) ∧ (-1 ≤ y_91 ∧ y_91 ≤ 1600) ∧ (0 ≤ y_92 ∧ y_92 ≤ 1600) ∧ (0 ≤ y_93 ∧ y_93 ≤ 1600) ∧ (0 ≤ y_94 ∧ y_94 ≤ 5) ∧ (-2147483648 ≤ y_95 ∧ y_95 ≤ 2147483647) ∧ (bd (0) 8 F_97) ∧ (bd (0) 4095 F_98) ∧ (y_93 ≤ x_size) ∧ (1 ≤ y_90 ∨ 0 ≤ 560 * x_rb + 9 * B_units x_rb.toNat - x_codes) ∧ (x_faultKind ≤ y_90) ∧ (y_44 ≤ y_90) ∧ (x_end ≤ y_93) ∧ (y_47 ≤ y_93) ∧ (1 ≤ y_90 ∨ y_94 ≤ 0 ∨ x_end + 1 ≤ y_93) ∧ va_P D vwCl (rW k a x_taped x_size y_90 y_91 y_92 y_93 y_94 y_95 x_bank x_rb x_codes x_within x_piled x_unitsInRule x_askBeast x_askStroke x_askAge x_askSeason x_acts x_undone x_laid x_seens x_time x_fitting j_96 B_tape B_text F_51 F_97 B_irons B_beasts B_units B_night B_draw F_61 F_98 B_ironMarks B_herdTold B_born B_ruleFrom B_ruleTo B_code B_codeNumber B_eWhat B_eSign B_pile B_all B_burned B_was B_need B_laidRow B_long8 B_brings B_sBurning B_sStroke B_sIs B_sTold B_sUntold B_parts B_boxAll B_isBoxed G_99 G_iName G_bName ex) H ∧ va_S A s.heap H locs ∧ lv_has ls 3 [(1, .long n_name), (0, .ref (a 0))] ∧ g = F0 m 166 ls []) ?_ ?_
            · skip
              intro H locs g hI
              obtain ⟨y_90, y_91, y_92, y_93, y_94, y_95, j_96, F_97, F_98, G_99, ls, h166_0, h166_1, h166_2, h166_3, h166_4, h166_5, bF_97, bF_98, g_100, g_101, h166_10, h166_11, h166_12, h166_13, h166_14, hP, hS, hl, rfl⟩ := hI
              refine lv_lload_n hx hb dX12_readLine_166 rfl (lv_at hl 0 rfl) ?_
              refine lv_ldc2 (own := "HideReaderModel") (v := 1769107310) hx hb hown (hts _ uw_7_238) dX12_readLine_167 ?_
              refine sy_lcmpE hx hb dX12_readLine_170 (fun z_103 ez_103 hz_103 => ?_)
              refine sy_join (I := fun H locs g => ∃ (y_130 : Int) (y_131 : Int) (y_132 : Int) (y_133 : Int) (y_134 : Int) (y_135 : Int) (j_136 : Int64) (F_137 : Nat → Int) (F_138 : Nat → Int) (G_139 : Nat → Int64) (ls : Array Slot), (0 ≤ y_130 ∧ y_130 ≤ 5) ∧ (-1 ≤ y_131 ∧ y_131 ≤ 1600) ∧ (0 ≤ y_132 ∧ y_132 ≤ 1600) ∧ (0 ≤ y_133 ∧ y_133 ≤ 1600) ∧ (0 ≤ y_134 ∧ y_134 ≤ 5) ∧ (-2147483648 ≤ y_135 ∧ y_135 ≤ 2147483647) ∧ (bd (0) 6 F_137) ∧ (bd (0) 4095 F_138) ∧ (y_133 ≤ x_size) ∧ (1 ≤ y_130 ∨ 0 ≤ 560 * x_rb + 9 * B_units x_rb.toNat - x_codes) ∧ (x_faultKind ≤ y_130) ∧ (y_90 ≤ y_130) ∧ (x_end ≤ y_133) ∧ (y_93 ≤ y_133) ∧ (1 ≤ y_130 ∨ y_134 ≤ 0 ∨ x_end + 1 ≤ y_133) ∧ va_P D vwCl (rW k a x_taped x_size y_130 y_131 y_132 y_133 y_134 y_135 x_bank x_rb x_codes x_within x_piled x_unitsInRule x_askBeast x_askStroke x_askAge x_askSeason x_acts x_undone x_laid x_seens x_time x_fitting j_136 B_tape B_text F_51 F_97 F_137 B_beasts B_units B_night B_draw F_61 F_98 F_138 B_herdTold B_born B_ruleFrom B_ruleTo B_code B_codeNumber B_eWhat B_eSign B_pile B_all B_burned B_was B_need B_laidRow B_long8 B_brings B_sBurning B_sStroke B_sIs B_sTold B_sUntold B_parts B_boxAll B_isBoxed G_99 G_139 G_bName ex) H ∧ va_S A s.heap H locs ∧ lv_has ls 3 [(1, .long n_name), (0, .ref (a 0))] ∧ g = F0 m 263 ls []) ?_ ?_
              · skip
                intro H locs g hI
                obtain ⟨y_130, y_131, y_132, y_133, y_134, y_135, j_136, F_137, F_138, G_139, ls, h263_0, h263_1, h263_2, h263_3, h263_4, h263_5, bF_137, bF_138, g_140, g_141, h263_10, h263_11, h263_12, h263_13, h263_14, hP, hS, hl, rfl⟩ := hI
                refine lv_lload_n hx hb dX12_readLine_263 rfl (lv_at hl 0 rfl) ?_
                refine lv_ldc2 (own := "HideReaderModel") (v := 422607680372) hx hb hown (hts _ uw_7_239) dX12_readLine_264 ?_
                refine sy_lcmpE hx hb dX12_readLine_267 (fun z_143 ez_143 hz_143 => ?_)
                refine sy_join (I := fun H locs g => ∃ (y_157 : Int) (y_158 : Int) (y_159 : Int) (y_160 : Int) (y_161 : Int) (y_162 : Int) (j_163 : Int64) (F_164 : Nat → Int) (F_165 : Nat → Int) (F_166 : Nat → Int) (G_167 : Nat → Int64) (ls : Array Slot), (0 ≤ y_157 ∧ y_157 ≤ 5) ∧ (-1 ≤ y_158 ∧ y_158 ≤ 1600) ∧ (0 ≤ y_159 ∧ y_159 ≤ 1600) ∧ (0 ≤ y_160 ∧ y_160 ≤ 1600) ∧ (0 ≤ y_161 ∧ y_161 ≤ 5) ∧ (-2147483648 ≤ y_162 ∧ y_162 ≤ 2147483647) ∧ (bd (0) 8 F_164) ∧ (bd (0) 7 F_165) ∧ (bd (0) 99 F_166) ∧ (y_160 ≤ x_size) ∧ (1 ≤ y_157 ∨ 0 ≤ 560 * x_rb + 9 * B_units x_rb.toNat - x_codes) ∧ (x_faultKind ≤ y_157) ∧ (y_130 ≤ y_157) ∧ (x_end ≤ y_160) ∧ (y_133 ≤ y_160) ∧ (1 ≤ y_157 ∨ y_161 ≤ 0 ∨ x_end + 1 ≤ y_160) ∧ va_P D vwCl (rW k a x_taped x_size y_157 y_158 y_159 y_160 y_161 y_162 x_bank x_rb x_codes x_within x_piled x_unitsInRule x_askBeast x_askStroke x_askAge x_askSeason x_acts x_undone x_laid x_seens x_time x_fitting j_163 B_tape B_text F_51 F_97 F_137 F_164 B_units B_night B_draw F_61 F_98 F_138 F_165 F_166 B_ruleFrom B_ruleTo B_code B_codeNumber B_eWhat B_eSign B_pile B_all B_burned B_was B_need B_laidRow B_long8 B_brings B_sBurning B_sStroke B_sIs B_sTold B_sUntold B_parts B_boxAll B_isBoxed G_99 G_139 G_167 ex) H ∧ va_S A s.heap H locs ∧ lv_has ls 3 [(1, .long n_name), (0, .ref (a 0))] ∧ g = F0 m 275 ls []) ?_ ?_
                · skip
                  intro H locs g hI
                  obtain ⟨y_157, y_158, y_159, y_160, y_161, y_162, j_163, F_164, F_165, F_166, G_167, ls, h275_0, h275_1, h275_2, h275_3, h275_4, h275_5, bF_164, bF_165, bF_166, g_168, g_169, h275_11, h275_12, h275_13, h275_14, h275_15, hP, hS, hl, rfl⟩ := hI
                  refine lv_lload_n hx hb dX12_readLine_275 rfl (lv_at hl 0 rfl) ?_
                  refine lv_ldc2 (own := "HideReaderModel") (v := 495673374579) hx hb hown (hts _ uw_8_2) dX12_readLine_276 ?_
                  refine sy_lcmpE hx hb dX12_readLine_279 (fun z_171 ez_171 hz_171 => ?_)
                  refine sy_join (I := fun H locs g => ∃ (y_193 : Int) (y_194 : Int) (y_195 : Int) (y_196 : Int) (y_197 : Int) (y_198 : Int) (j_199 : Int64) (F_200 : Nat → Int) (F_201 : Nat → Int) (F_202 : Nat → Int) (F_203 : Nat → Int) (F_204 : Nat → Int) (F_205 : Nat → Int) (F_206 : Nat → Int) (F_207 : Nat → Int) (y_208 : Int) (y_209 : Int) (y_210 : Int) (y_211 : Int) (ls : Array Slot), (0 ≤ y_193 ∧ y_193 ≤ 5) ∧ (-1 ≤ y_194 ∧ y_194 ≤ 1600) ∧ (0 ≤ y_195 ∧ y_195 ≤ 1600) ∧ (0 ≤ y_196 ∧ y_196 ≤ 1600) ∧ (0 ≤ y_197 ∧ y_197 ≤ 5) ∧ (-2147483648 ≤ y_198 ∧ y_198 ≤ 2147483647) ∧ (bd (0) 60 F_200) ∧ (bd (0) 31 F_201) ∧ (bd (0) 1120 F_202) ∧ (bd (0) 1120 F_203) ∧ (bd (-2147483648) 2147483647 F_204) ∧ (bd (-2147483648) 2147483647 F_205) ∧ (bd (0) 8 F_206) ∧ (bd (-2147483648) 2147483647 F_207) ∧ (0 ≤ y_208 ∧ y_208 ≤ 1120) ∧ (0 ≤ y_209 ∧ y_209 ≤ 7) ∧ (0 ≤ y_210 ∧ y_210 ≤ 90) ∧ (0 ≤ y_211 ∧ y_211 ≤ 30) ∧ (y_196 ≤ x_size) ∧ (1 ≤ y_193 ∨ 0 ≤ 560 * x_rb + 9 * F_200 x_rb.toNat - y_208) ∧ (x_faultKind ≤ y_193) ∧ (y_157 ≤ y_193) ∧ (x_end ≤ y_196) ∧ (y_160 ≤ y_196) ∧ (x_codes ≤ y_208) ∧ (1 ≤ y_193 ∨ y_197 ≤ 0 ∨ x_end + 1 ≤ y_196) ∧ va_P D vwCl (rW k a x_taped x_size y_193 y_194 y_195 y_196 y_197 y_198 x_bank x_rb y_208 y_209 y_210 y_211 x_askBeast x_askStroke x_askAge x_askSeason x_acts x_undone x_laid x_seens x_time x_fitting j_199 B_tape B_text F_51 F_97 F_137 F_164 F_200 B_night B_draw F_201 F_98 F_138 F_165 F_166 F_202 F_203 F_204 F_205 F_206 F_207 B_pile B_all B_burned B_was B_need B_laidRow B_long8 B_brings B_sBurning B_sStroke B_sIs B_sTold B_sUntold B_parts B_boxAll B_isBoxed G_99 G_139 G_167 ex) H ∧ va_S A s.heap H locs ∧ lv_has ls 3 [(1, .long n_name), (0, .ref (a 0))] ∧ g = F0 m 287 ls []) ?_ ?_
                  · skip
                    intro H locs g hI
                    obtain ⟨y_193, y_194, y_195, y_196, y_197, y_198, j_199, F_200, F_201, F_202, F_203, F_204, F_205, F_206, F_207, y_208, y_209, y_210, y_211, ls, h287_0, h287_1, h287_2, h287_3, h287_4, h287_5, bF_200, bF_201, bF_202, bF_203, bF_204, bF_205, bF_206, bF_207, h287_14, h287_15, h287_16, h287_17, g_212, g_213, h287_20, h287_21, h287_22, h287_23, h287_24, h287_25, hP, hS, hl, rfl⟩ := hI
                    refine lv_lload_n hx hb dX12_readLine_287 rfl (lv_at hl 0 rfl) ?_
                    refine lv_ldc2 (own := "HideReaderModel") (v := 474214787188) hx hb hown (hts _ uw_8_3) dX12_readLine_288 ?_
                    refine sy_lcmpE hx hb dX12_readLine_291 (fun z_215 ez_215 hz_215 => ?_)
                    refine sy_join (I := fun H locs g => ∃ (y_229 : Int) (y_230 : Int) (y_231 : Int) (y_232 : Int) (y_233 : Int) (y_234 : Int) (j_235 : Int64) (F_236 : Nat → Int) (F_237 : Nat → Int) (ls : Array Slot), (0 ≤ y_229 ∧ y_229 ≤ 5) ∧ (-1 ≤ y_230 ∧ y_230 ≤ 1600) ∧ (0 ≤ y_231 ∧ y_231 ≤ 1600) ∧ (0 ≤ y_232 ∧ y_232 ≤ 1600) ∧ (0 ≤ y_233 ∧ y_233 ≤ 5) ∧ (-2147483648 ≤ y_234 ∧ y_234 ≤ 2147483647) ∧ (bd (0) 100 F_236) ∧ (bd (0) 31 F_237) ∧ (y_232 ≤ x_size) ∧ (1 ≤ y_229 ∨ 0 ≤ 560 * x_rb + 9 * F_200 x_rb.toNat - y_208) ∧ (x_faultKind ≤ y_229) ∧ (y_193 ≤ y_229) ∧ (x_end ≤ y_232) ∧ (y_196 ≤ y_232) ∧ (1 ≤ y_229 ∨ y_233 ≤ 0 ∨ x_end + 1 ≤ y_232) ∧ va_P D vwCl (rW k a x_taped x_size y_229 y_230 y_231 y_232 y_233 y_234 x_bank x_rb y_208 y_209 y_210 y_211 x_askBeast x_askStroke x_askAge x_askSeason x_acts x_undone x_laid x_seens x_time x_fitting j_235 B_tape B_text F_51 F_97 F_137 F_164 F_200 F_236 B_draw F_237 F_98 F_138 F_165 F_166 F_202 F_203 F_204 F_205 F_206 F_207 B_pile B_all B_burned B_was B_need B_laidRow B_long8 B_brings B_sBurning B_sStroke B_sIs B_sTold B_sUntold B_parts B_boxAll B_isBoxed G_99 G_139 G_167 ex) H ∧ va_S A s.heap H locs ∧ lv_has ls 3 [(1, .long n_name), (0, .ref (a 0))] ∧ g = F0 m 325 ls []) ?_ ?_
                    · skip
                      intro H locs g hI
                      obtain ⟨y_229, y_230, y_231, y_232, y_233, y_234, j_235, F_236, F_237, ls, h325_0, h325_1, h325_2, h325_3, h325_4, h325_5, bF_236, bF_237, g_238, g_239, h325_10, h325_11, h325_12, h325_13, h325_14, hP, hS, hl, rfl⟩ := hI
                      refine lv_lload_n hx hb dX12_readLine_325 rfl (lv_at hl 0 rfl) ?_
                      refine lv_ldc2 (own := "HideReaderModel") (v := 1685217655) hx hb hown (hts _ uw_8_4) dX12_readLine_326 ?_
                      refine sy_lcmpE hx hb dX12_readLine_329 (fun z_241 ez_241 hz_241 => ?_)
                      refine sy_join (I := fun H locs g => ∃ (y_255 : Int) (y_256 : Int) (y_257 : Int) (y_258 : Int) (y_259 : Int) (y_260 : Int) (j_261 : Int64) (F_262 : Nat → Int) (F_263 : Nat → Int) (ls : Array Slot), (0 ≤ y_255 ∧ y_255 ≤ 5) ∧ (-1 ≤ y_256 ∧ y_256 ≤ 1600) ∧ (0 ≤ y_257 ∧ y_257 ≤ 1600) ∧ (0 ≤ y_258 ∧ y_258 ≤ 1600) ∧ (0 ≤ y_259 ∧ y_259 ≤ 5) ∧ (-2147483648 ≤ y_260 ∧ y_260 ≤ 2147483647) ∧ (bd (0) 999 F_262) ∧ (bd (0) 31 F_263) ∧ (y_258 ≤ x_size) ∧ (1 ≤ y_255 ∨ 0 ≤ 560 * x_rb + 9 * F_200 x_rb.toNat - y_208) ∧ (x_faultKind ≤ y_255) ∧ (y_229 ≤ y_255) ∧ (x_end ≤ y_258) ∧ (y_232 ≤ y_258) ∧ (1 ≤ y_255 ∨ y_259 ≤ 0 ∨ x_end + 1 ≤ y_258) ∧ va_P D vwCl (rW k a x_taped x_size y_255 y_256 y_257 y_258 y_259 y_260 x_bank x_rb y_208 y_209 y_210 y_211 x_askBeast x_askStroke x_askAge x_askSeason x_acts x_undone x_laid x_seens x_time x_fitting j_261 B_tape B_text F_51 F_97 F_137 F_164 F_200 F_236 F_262 F_263 F_98 F_138 F_165 F_166 F_202 F_203 F_204 F_205 F_206 F_207 B_pile B_all B_burned B_was B_need B_laidRow B_long8 B_brings B_sBurning B_sStroke B_sIs B_sTold B_sUntold B_parts B_boxAll B_isBoxed G_99 G_139 G_167 ex) H ∧ va_S A s.heap H locs ∧ lv_has ls 3 [(1, .long n_name), (0, .ref (a 0))] ∧ g = F0 m 364 ls []) ?_ ?_
                      · skip
                        intro H locs g hI
                        obtain ⟨y_255, y_256, y_257, y_258, y_259, y_260, j_261, F_262, F_263, ls, h364_0, h364_1, h364_2, h364_3, h364_4, h364_5, bF_262, bF_263, g_264, g_265, h364_10, h364_11, h364_12, h364_13, h364_14, hP, hS, hl, rfl⟩ := hI
                        refine lv_aload_n hx hb dX12_readLine_364 rfl (lv_at hl 1 rfl) ?_
                        refine lv_aload_n hx hb dX12_readLine_365 rfl (lv_at hl 1 rfl) ?_
                        refine lv_bipush (v := mI 59) hx hb dX12_readLine_366 (by decide) ?_
                        refine g_i (rDt hD) hS hA (g_V (own := "HideReaderModel") (As := [.int (mI 59)]) (rest := [.ref (a 0)]) hx hb hml hown hts hK hP (rDt hD) (kr_X12_isSignHere (l := l) (D := D) (k := k) (by decide) h_x_size (by omega) (by omega) b_B_text) ck_X12_isSignHere iv_X12_isSignHere uw_8_90 (rv_o hK hP) rfl hl.1 rfl (Nat.le_of_ble_eq_true rfl) dX12_readLine_368 ⟨Nat.le_of_ble_eq_true rfl, Nat.le_of_ble_eq_true rfl⟩ ⟨Nat.le_of_ble_eq_true rfl, Nat.le_of_ble_eq_true rfl⟩) (fun r_267 H locs hQ hS => ?_)
                        obtain ⟨hq_r_267, hP⟩ := hQ
                        rcases hq_r_267 with ⟨rfl, c_268_0⟩ | ⟨rfl, c_269_0, c_269_1, c_269_2⟩
                        · skip
                          refine g_v (rDt hD) hS hA (g_V (own := "HideReaderModel") (As := [.int (mI 0)]) (rest := []) hx hb hml hown hts hK hP (rDt hD) (kr_X12_must (l := l) (D := D) (k := k) (by decide) h_x_size (by omega) (by omega) (by omega) (by omega) (by omega) (by omega) b_B_text g_264) ck_X12_must iv_X12_must uw_8_62 (rv_o hK hP) rfl hl.1 rfl (Nat.le_of_ble_eq_true rfl) dX12_readLine_371 ⟨Nat.le_of_ble_eq_true rfl, Nat.le_of_ble_eq_true rfl⟩ ⟨Nat.le_of_ble_eq_true rfl, Nat.le_of_ble_eq_true rfl⟩) (fun H locs hQ hS => ?_)
                          obtain ⟨y_271, y_272, y_273, y_274, y_275, y_276, j_277, hr_270_0, hr_270_1, hr_270_2, hr_270_3, hr_270_4, hr_270_5, hr_270_6, hr_270_7, hr_270_8, hr_270_9, hr_270_10, kr_270_E, hP⟩ := hQ
                          exact r_v hx hb hr hlocks dX12_readLine_374 hS ⟨y_271, y_272, y_273, y_274, y_275, y_276, j_277, F_51, F_97, F_137, F_164, F_200, F_236, F_262, F_263, F_98, F_138, F_165, F_166, F_202, F_203, G_99, G_139, G_167, F_204, F_205, F_206, F_207, y_208, y_209, y_210, y_211, by omega, by omega, by omega, by omega, by omega, by omega, bF_51, bF_97, bF_137, bF_164, bF_200, bF_236, bF_262, bF_263, bF_98, bF_138, bF_165, bF_166, bF_202, bF_203, bF_204, bF_205, bF_206, bF_207, by omega, by omega, by omega, by omega, by omega, by omega, by omega, by omega, kr_270_E, (by omega), hP⟩
                        · skip
                          refine g_v (rDt hD) hS hA (g_V (own := "HideReaderModel") (As := [.int (mI 1)]) (rest := []) hx hb hml hown hts hK hP (rDt hD) (kr_X12_must (l := l) (D := D) (k := k) (by decide) h_x_size (by omega) (by omega) (by omega) (by omega) (by omega) (by omega) b_B_text g_264) ck_X12_must iv_X12_must uw_8_62 (rv_o hK hP) rfl hl.1 rfl (Nat.le_of_ble_eq_true rfl) dX12_readLine_371 ⟨Nat.le_of_ble_eq_true rfl, Nat.le_of_ble_eq_true rfl⟩ ⟨Nat.le_of_ble_eq_true rfl, Nat.le_of_ble_eq_true rfl⟩) (fun H locs hQ hS => ?_)
                          obtain ⟨y_279, y_280, y_281, y_282, y_283, y_284, j_285, hr_278_0, hr_278_1, hr_278_2, hr_278_3, hr_278_4, hr_278_5, hr_278_6, hr_278_7, hr_278_8, hr_278_9, hr_278_10, kr_278_E, hP⟩ := hQ
                          exact r_v hx hb hr hlocks dX12_readLine_374 hS ⟨y_279, y_280, y_281, y_282, y_283, y_284, j_285, F_51, F_97, F_137, F_164, F_200, F_236, F_262, F_263, F_98, F_138, F_165, F_166, F_202, F_203, G_99, G_139, G_167, F_204, F_205, F_206, F_207, y_208, y_209, y_210, y_211, by omega, by omega, by omega, by omega, by omega, by omega, bF_51, bF_97, bF_137, bF_164, bF_200, bF_236, bF_262, bF_263, bF_98, bF_138, bF_165, bF_166, bF_202, bF_203, bF_204, bF_205, bF_206, bF_207, by omega, by omega, by omega, by omega, by omega, by omega, by omega, by omega, kr_278_E, (by omega), hP⟩
                      · skip
                        intro J_266
                        refine sy_if_ne (tgt := 364) hx hb dX12_readLine_330 (by decide) (by omega) (fun c_286 => ?_) (fun c_286 => ?_)
                        · skip
                          exact J_266 _ _ _ ⟨y_229, y_230, y_231, y_232, y_233, y_234, j_235, B_draw, F_237, _, by omega, by omega, by omega, by omega, by omega, by omega, b_B_draw, bF_237, g_238, g_239, by omega, by omega, by omega, by omega, by omega, hP, hS, lv_sub hl [0, 1] rfl, rfl⟩
                        · skip
                          refine lv_aload_n hx hb dX12_readLine_333 rfl (lv_at hl 1 rfl) ?_
                          refine rg_o_told hx hb hts hown hK hP uw_7_41 dX12_readLine_334 ?_
                          refine lv_aload_n hx hb dX12_readLine_337 rfl (lv_at hl 1 rfl) ?_
                          refine rg_o_rb hx hb hts hown hK hP uw_7_57 dX12_readLine_338 ?_
                          refine lv_dup2_11 hx hb dX12_readLine_341 rfl rfl ?_
                          refine rl_told hx hb hK hP dX12_readLine_342 (by omega) bF_237 (fun z_287 _ hz_287 => ?_)
                          refine lv_bipush (v := mI 16) hx hb dX12_readLine_343 (by decide) ?_
                          refine sy_ior hx hb dX12_readLine_345 5 (by decide) 32 (by decide) (by omega) (by omega) (fun z_288 hz_288 => ?_)
                          refine rs_told hx hb hK hP hD hS dX12_readLine_346 (by omega) bF_237 (by omega) (fun F_289 H locs _ bF_289 hP hS => ?_)
                          refine lv_aload_n hx hb dX12_readLine_347 rfl (lv_at hl 1 rfl) ?_
                          refine rg_o_draw hx hb hts hown hK hP uw_7_40 dX12_readLine_348 ?_
                          refine lv_aload_n hx hb dX12_readLine_351 rfl (lv_at hl 1 rfl) ?_
                          refine rg_o_rb hx hb hts hown hK hP uw_7_57 dX12_readLine_352 ?_
                          refine lv_aload_n hx hb dX12_readLine_355 rfl (lv_at hl 1 rfl) ?_
                          refine lv_iconst (v := mI 0) hx hb dX12_readLine_356 rfl ?_
                          refine lv_sipush (v := mI 999) hx hb dX12_readLine_357 (by decide) ?_
                          refine g_i (rDt hD) hS hA (g_V (own := "HideReaderModel") (As := [.int (mI 0), .int (mI 999)]) (rest := [.int (mI x_rb), .ref (a 9)]) hx hb hml hown hts hK hP (rDt hD) (kr_X12_numeral_v0_999 (l := l) (D := D) (k := k) (by decide) (by decide) h_x_size (by omega) (by omega) (by omega) (by omega) (by omega) (by omega) b_B_text g_238) ck_X12_numeral iv_X12_numeral uw_8_46 (rv_o hK hP) rfl hl.1 rfl (Nat.le_of_ble_eq_true rfl) dX12_readLine_360 ⟨Nat.le_of_ble_eq_true rfl, Nat.le_of_ble_eq_true rfl⟩ ⟨Nat.le_of_ble_eq_true rfl, Nat.le_of_ble_eq_true rfl⟩) (fun r_290 H locs hQ hS => ?_)
                          obtain ⟨y_291, y_292, y_293, y_294, y_295, y_296, j_297, hr_290_0, hr_290_1, hr_290_2, hr_290_3, hr_290_4, hr_290_5, hr_290_6, hr_290_7, hr_290_8, hr_290_9, hr_290_10, kr_290_E, hP⟩ := hQ
                          refine rs_draw hx hb hK hP hD hS dX12_readLine_363 (by omega) b_B_draw (by omega) (fun F_298 H locs _ bF_298 hP hS => ?_)
                          exact J_266 _ _ _ ⟨y_291, y_292, y_293, y_294, y_295, y_296, j_297, F_298, F_289, _, by omega, by omega, by omega, by omega, by omega, by omega, bF_298, bF_289, kr_290_E, (by omega), by omega, by omega, by omega, by omega, by omega, hP, hS, lv_sub hl [0, 1] rfl, rfl⟩
                    · skip
                      intro J_240
                      refine sy_if_ne (tgt := 325) hx hb dX12_readLine_292 (by decide) (by omega) (fun c_299 => ?_) (fun c_299 => ?_)
                      · skip
                        exact J_240 _ _ _ ⟨y_193, y_194, y_195, y_196, y_197, y_198, j_199, B_night, F_201, _, by omega, by omega, by omega, by omega, by omega, by omega, b_B_night, bF_201, g_212, g_213, by omega, by omega, by omega, by omega, by omega, hP, hS, lv_sub hl [0, 1] rfl, rfl⟩
                      · skip
                        refine lv_aload_n hx hb dX12_readLine_295 rfl (lv_at hl 1 rfl) ?_
                        refine rg_o_told hx hb hts hown hK hP uw_7_41 dX12_readLine_296 ?_
                        refine lv_aload_n hx hb dX12_readLine_299 rfl (lv_at hl 1 rfl) ?_
                        refine rg_o_rb hx hb hts hown hK hP uw_7_57 dX12_readLine_300 ?_
                        refine lv_dup2_11 hx hb dX12_readLine_303 rfl rfl ?_
                        refine rl_told hx hb hK hP dX12_readLine_304 (by omega) bF_201 (fun z_300 _ hz_300 => ?_)
                        refine lv_bipush (v := mI 8) hx hb dX12_readLine_305 (by decide) ?_
                        refine sy_ior hx hb dX12_readLine_307 5 (by decide) 32 (by decide) (by omega) (by omega) (fun z_301 hz_301 => ?_)
                        refine rs_told hx hb hK hP hD hS dX12_readLine_308 (by omega) bF_201 (by omega) (fun F_302 H locs _ bF_302 hP hS => ?_)
                        refine lv_aload_n hx hb dX12_readLine_309 rfl (lv_at hl 1 rfl) ?_
                        refine rg_o_night hx hb hts hown hK hP uw_7_39 dX12_readLine_310 ?_
                        refine lv_aload_n hx hb dX12_readLine_313 rfl (lv_at hl 1 rfl) ?_
                        refine rg_o_rb hx hb hts hown hK hP uw_7_57 dX12_readLine_314 ?_
                        refine lv_aload_n hx hb dX12_readLine_317 rfl (lv_at hl 1 rfl) ?_
                        refine lv_iconst (v := mI 0) hx hb dX12_readLine_318 rfl ?_
                        refine lv_bipush (v := mI 100) hx hb dX12_readLine_319 (by decide) ?_
                        refine g_i (rDt hD) hS hA (g_V (own := "HideReaderModel") (As := [.int (mI 0), .int (mI 100)]) (rest := [.int (mI x_rb), .ref (a 8)]) hx hb hml hown hts hK hP (rDt hD) (kr_X12_numeral_v0_100 (l := l) (D := D) (k := k) (by decide) (by decide) h_x_size (by omega) (by omega) (by omega) (by omega) (by omega) (by omega) b_B_text g_212) ck_X12_numeral iv_X12_numeral uw_8_46 (rv_o hK hP) rfl hl.1 rfl (Nat.le_of_ble_eq_true rfl) dX12_readLine_321 ⟨Nat.le_of_ble_eq_true rfl, Nat.le_of_ble_eq_true rfl⟩ ⟨Nat.le_of_ble_eq_true rfl, Nat.le_of_ble_eq_true rfl⟩) (fun r_303 H locs hQ hS => ?_)
                        obtain ⟨y_304, y_305, y_306, y_307, y_308, y_309, j_310, hr_303_0, hr_303_1, hr_303_2, hr_303_3, hr_303_4, hr_303_5, hr_303_6, hr_303_7, hr_303_8, hr_303_9, hr_303_10, kr_303_E, hP⟩ := hQ
                        refine rs_night hx hb hK hP hD hS dX12_readLine_324 (by omega) b_B_night (by omega) (fun F_311 H locs _ bF_311 hP hS => ?_)
                        exact J_240 _ _ _ ⟨y_304, y_305, y_306, y_307, y_308, y_309, j_310, F_311, F_302, _, by omega, by omega, by omega, by omega, by omega, by omega, bF_311, bF_302, kr_303_E, (by omega), by omega, by omega, by omega, by omega, by omega, hP, hS, lv_sub hl [0, 1] rfl, rfl⟩
                  · skip
                    intro J_214
                    refine sy_if_ne (tgt := 287) hx hb dX12_readLine_280 (by decide) (by omega) (fun c_312 => ?_) (fun c_312 => ?_)
                    · skip
                      exact J_214 _ _ _ ⟨y_157, y_158, y_159, y_160, y_161, y_162, j_163, B_units, F_61, B_ruleFrom, B_ruleTo, B_code, B_codeNumber, B_eWhat, B_eSign, x_codes, x_within, x_piled, x_unitsInRule, _, by omega, by omega, by omega, by omega, by omega, by omega, b_B_units, bF_61, b_B_ruleFrom, b_B_ruleTo, b_B_code, b_B_codeNumber, b_B_eWhat, b_B_eSign, by omega, by omega, by omega, by omega, g_168, g_169, by omega, by omega, by omega, by omega, by omega, by omega, hP, hS, lv_sub hl [0, 1] rfl, rfl⟩
                    · skip
                      refine lv_aload_n hx hb dX12_readLine_283 rfl (lv_at hl 1 rfl) ?_
                      refine g_v (rDt hD) hS hA (g_V (own := "HideReaderModel") (As := []) (rest := []) hx hb hml hown hts hK hP (rDt hD) (kr_X12_readRule (l := l) (D := D) (k := k) h_x_size (by omega) (by omega) (by omega) (by omega) (by omega) (by omega) h_x_rb h_x_codes b_B_text b_B_units bF_61 b_B_ruleFrom b_B_ruleTo b_B_code b_B_codeNumber b_B_eWhat b_B_eSign g_168 g_169) ck_X12_readRule iv_X12_readRule uw_8_74 (rv_o hK hP) rfl hl.1 rfl (Nat.le_of_ble_eq_true rfl) dX12_readLine_284 ⟨Nat.le_of_ble_eq_true rfl, Nat.le_of_ble_eq_true rfl⟩ ⟨Nat.le_of_ble_eq_true rfl, Nat.le_of_ble_eq_true rfl⟩) (fun H locs hQ hS => ?_)
                      obtain ⟨y_314, y_315, y_316, y_317, y_318, y_319, j_320, F_321, F_322, F_323, F_324, F_325, F_326, F_327, F_328, y_329, y_330, y_331, y_332, hr_313_0, hr_313_1, hr_313_2, hr_313_3, hr_313_4, hr_313_5, bF_321, bF_322, bF_323, bF_324, bF_325, bF_326, bF_327, bF_328, hr_313_14, hr_313_15, hr_313_16, hr_313_17, hr_313_18, hr_313_19, hr_313_20, hr_313_21, hr_313_22, kr_313_E, kr_313_Z, hP⟩ := hQ
                      exact J_214 _ _ _ ⟨y_314, y_315, y_316, y_317, y_318, y_319, j_320, F_321, F_322, F_323, F_324, F_325, F_326, F_327, F_328, y_329, y_330, y_331, y_332, _, by omega, by omega, by omega, by omega, by omega, by omega, bF_321, bF_322, bF_323, bF_324, bF_325, bF_326, bF_327, bF_328, by omega, by omega, by omega, by omega, kr_313_E, kr_313_Z, by omega, by omega, by omega, by omega, by omega, by omega, hP, hS, lv_sub hl [0, 1] rfl, rfl⟩
                · skip
                  intro J_170
                  refine sy_if_ne (tgt := 275) hx hb dX12_readLine_268 (by decide) (by omega) (fun c_333 => ?_) (fun c_333 => ?_)
                  · skip
                    exact J_170 _ _ _ ⟨y_130, y_131, y_132, y_133, y_134, y_135, j_136, B_beasts, B_herdTold, B_born, G_bName, _, by omega, by omega, by omega, by omega, by omega, by omega, b_B_beasts, b_B_herdTold, b_B_born, g_140, g_141, by omega, by omega, by omega, by omega, by omega, hP, hS, lv_sub hl [0, 1] rfl, rfl⟩
                  · skip
                    refine lv_aload_n hx hb dX12_readLine_271 rfl (lv_at hl 1 rfl) ?_
                    refine g_v (rDt hD) hS hA (g_V (own := "HideReaderModel") (As := []) (rest := []) hx hb hml hown hts hK hP (rDt hD) (kr_X12_readBeast (l := l) (D := D) (k := k) h_x_size (by omega) (by omega) (by omega) (by omega) (by omega) (by omega) h_x_rb b_B_text bF_97 b_B_beasts b_B_herdTold b_B_born g_140 (c_11_2 (ez_143.mp (by omega)))) ck_X12_readBeast iv_X12_readBeast uw_8_66 (rv_o hK hP) rfl hl.1 rfl (Nat.le_of_ble_eq_true rfl) dX12_readLine_272 ⟨Nat.le_of_ble_eq_true rfl, Nat.le_of_ble_eq_true rfl⟩ ⟨Nat.le_of_ble_eq_true rfl, Nat.le_of_ble_eq_true rfl⟩) (fun H locs hQ hS => ?_)
                    obtain ⟨y_335, y_336, y_337, y_338, y_339, y_340, j_341, F_342, F_343, F_344, G_345, hr_334_0, hr_334_1, hr_334_2, hr_334_3, hr_334_4, hr_334_5, bF_342, bF_343, bF_344, hr_334_9, hr_334_10, hr_334_11, hr_334_12, kr_334_E, hP⟩ := hQ
                    exact J_170 _ _ _ ⟨y_335, y_336, y_337, y_338, y_339, y_340, j_341, F_342, F_343, F_344, G_345, _, by omega, by omega, by omega, by omega, by omega, by omega, bF_342, bF_343, bF_344, kr_334_E, (by omega), by omega, by omega, by omega, by omega, by omega, hP, hS, lv_sub hl [0, 1] rfl, rfl⟩
              · skip
                intro J_142
                refine sy_if_ne (tgt := 263) hx hb dX12_readLine_171 (by decide) (by omega) (fun c_346 => ?_) (fun c_346 => ?_)
                · skip
                  exact J_142 _ _ _ ⟨y_90, y_91, y_92, y_93, y_94, y_95, j_96, B_irons, B_ironMarks, G_iName, _, by omega, by omega, by omega, by omega, by omega, by omega, b_B_irons, b_B_ironMarks, g_100, g_101, by omega, by omega, by omega, by omega, by omega, hP, hS, lv_sub hl [0, 1] rfl, rfl⟩
                · skip
                  have h_347 : B_irons x_rb.toNat ≤ 5 := c_11_1 (ez_103.mp (by omega))
                  refine lv_aload_n hx hb dX12_readLine_174 rfl (lv_at hl 1 rfl) ?_
                  refine rg_o_iName hx hb hts hown hK hP uw_7_49 dX12_readLine_175 ?_
                  refine lv_bipush (v := mI 6) hx hb dX12_readLine_178 (by decide) ?_
                  refine lv_aload_n hx hb dX12_readLine_180 rfl (lv_at hl 1 rfl) ?_
                  refine rg_o_rb hx hb hts hown hK hP uw_7_57 dX12_readLine_181 ?_
                  refine sy_imul hx hb dX12_readLine_184 (6 * x_rb) rfl ?_
                  refine lv_aload_n hx hb dX12_readLine_185 rfl (lv_at hl 1 rfl) ?_
                  refine rg_o_irons hx hb hts hown hK hP uw_7_36 dX12_readLine_186 ?_
                  refine lv_aload_n hx hb dX12_readLine_189 rfl (lv_at hl 1 rfl) ?_
                  refine rg_o_rb hx hb hts hown hK hP uw_7_57 dX12_readLine_190 ?_
                  refine rl_irons hx hb hK hP dX12_readLine_193 (by omega) b_B_irons (fun z_348 ez_348 hz_348 => ?_)
                  refine sy_iadd hx hb dX12_readLine_194 (6 * x_rb + z_348) rfl ?_
                  refine lv_aload_n hx hb dX12_readLine_195 rfl (lv_at hl 1 rfl) ?_
                  refine lv_aload_n hx hb dX12_readLine_196 rfl (lv_at hl 1 rfl) ?_
                  refine lv_aload_n hx hb dX12_readLine_197 rfl (lv_at hl 1 rfl) ?_
                  refine rg_o_iName hx hb hts hown hK hP uw_7_49 dX12_readLine_198 ?_
                  refine lv_bipush (v := mI 6) hx hb dX12_readLine_201 (by decide) ?_
                  refine lv_aload_n hx hb dX12_readLine_203 rfl (lv_at hl 1 rfl) ?_
                  refine rg_o_rb hx hb hts hown hK hP uw_7_57 dX12_readLine_204 ?_
                  refine sy_imul hx hb dX12_readLine_207 (6 * x_rb) rfl ?_
                  refine lv_aload_n hx hb dX12_readLine_208 rfl (lv_at hl 1 rfl) ?_
                  refine rg_o_irons hx hb hts hown hK hP uw_7_36 dX12_readLine_209 ?_
                  refine lv_aload_n hx hb dX12_readLine_212 rfl (lv_at hl 1 rfl) ?_
                  refine rg_o_rb hx hb hts hown hK hP uw_7_57 dX12_readLine_213 ?_
                  refine rl_irons hx hb hK hP dX12_readLine_216 (by omega) b_B_irons (fun z_349 ez_349 hz_349 => ?_)
                  refine g_i (rDt hD) hS hA (g_V (own := "HideReaderModel") (As := [.ref (a 18), .int (mI (6 * x_rb)), .int (mI z_349)]) (rest := [.ref (a 0), .int (mI (6 * x_rb + z_348)), .ref (a 18)]) hx hb hml hown hts hK hP (rDt hD) (kr_X12_here_o_iName (l := l) (D := D) (k := k) (by omega) (by omega) (by omega)) ck_X12_here iv_X12_here uw_8_50 (rv_o hK hP) rfl hl.1 rfl (Nat.le_of_ble_eq_true rfl) dX12_readLine_217 ⟨Nat.le_of_ble_eq_true rfl, Nat.le_of_ble_eq_true rfl⟩ ⟨Nat.le_of_ble_eq_true rfl, Nat.le_of_ble_eq_true rfl⟩) (fun r_350 H locs hQ hS => ?_)
                  obtain ⟨hr_350_0, hP⟩ := hQ
                  refine g_l (rDt hD) hS hA (g_V (own := "HideReaderModel") (As := [.int (mI r_350)]) (rest := [.int (mI (6 * x_rb + z_348)), .ref (a 18)]) hx hb hml hown hts hK hP (rDt hD) (kr_X12_newName (l := l) (D := D) (k := k) (by omega) h_x_size (by omega) (by omega) (by omega) (by omega) (by omega) (by omega) b_B_text g_100) ck_X12_newName iv_X12_newName uw_8_54 (rv_o hK hP) rfl hl.1 rfl (Nat.le_of_ble_eq_true rfl) dX12_readLine_220 ⟨Nat.le_of_ble_eq_true rfl, Nat.le_of_ble_eq_true rfl⟩ ⟨Nat.le_of_ble_eq_true rfl, Nat.le_of_ble_eq_true rfl⟩) (fun r_351 H locs hQ hS => ?_)
                  obtain ⟨y_352, y_353, y_354, y_355, y_356, y_357, j_358, hr_351_0, hr_351_1, hr_351_2, hr_351_3, hr_351_4, hr_351_5, hr_351_6, hr_351_7, hr_351_8, hr_351_9, kr_351_E, hP⟩ := hQ
                  refine rs_iName hx hb hK hP hD hS dX12_readLine_223 (by omega) (fun F_359 H locs hP hS => ?_)
                  refine lv_aload_n hx hb dX12_readLine_224 rfl (lv_at hl 1 rfl) ?_
                  refine rg_o_ironMarks hx hb hts hown hK hP uw_7_43 dX12_readLine_225 ?_
                  refine lv_bipush (v := mI 6) hx hb dX12_readLine_228 (by decide) ?_
                  refine lv_aload_n hx hb dX12_readLine_230 rfl (lv_at hl 1 rfl) ?_
                  refine rg_o_rb hx hb hts hown hK hP uw_7_57 dX12_readLine_231 ?_
                  refine sy_imul hx hb dX12_readLine_234 (6 * x_rb) rfl ?_
                  refine lv_aload_n hx hb dX12_readLine_235 rfl (lv_at hl 1 rfl) ?_
                  refine rg_o_irons hx hb hts hown hK hP uw_7_36 dX12_readLine_236 ?_
                  refine lv_aload_n hx hb dX12_readLine_239 rfl (lv_at hl 1 rfl) ?_
                  refine rg_o_rb hx hb hts hown hK hP uw_7_57 dX12_readLine_240 ?_
                  refine rl_irons hx hb hK hP dX12_readLine_243 (by omega) b_B_irons (fun z_360 ez_360 hz_360 => ?_)
                  refine sy_iadd hx hb dX12_readLine_244 (6 * x_rb + z_360) rfl ?_
                  refine lv_aload_n hx hb dX12_readLine_245 rfl (lv_at hl 1 rfl) ?_
                  refine g_i (rDt hD) hS hA (g_V (own := "HideReaderModel") (As := []) (rest := [.int (mI (6 * x_rb + z_360)), .ref (a 12)]) hx hb hml hown hts hK hP (rDt hD) (kr_X12_readMark (l := l) (D := D) (k := k) h_x_size (by omega) (by omega) (by omega) (by omega) (by omega) (by omega) b_B_text kr_351_E (by omega)) ck_X12_readMark iv_X12_readMark uw_8_58 (rv_o hK hP) rfl hl.1 rfl (Nat.le_of_ble_eq_true rfl) dX12_readLine_246 ⟨Nat.le_of_ble_eq_true rfl, Nat.le_of_ble_eq_true rfl⟩ ⟨Nat.le_of_ble_eq_true rfl, Nat.le_of_ble_eq_true rfl⟩) (fun r_361 H locs hQ hS => ?_)
                  obtain ⟨y_362, y_363, y_364, y_365, y_366, y_367, j_368, hr_361_0, hr_361_1, hr_361_2, hr_361_3, hr_361_4, hr_361_5, hr_361_6, hr_361_7, hr_361_8, hr_361_9, hr_361_10, kr_361_E, hP⟩ := hQ
                  refine rs_ironMarks hx hb hK hP hD hS dX12_readLine_249 (by omega) b_B_ironMarks (by omega) (fun F_369 H locs _ bF_369 hP hS => ?_)
                  refine lv_aload_n hx hb dX12_readLine_250 rfl (lv_at hl 1 rfl) ?_
                  refine rg_o_irons hx hb hts hown hK hP uw_7_36 dX12_readLine_251 ?_
                  refine lv_aload_n hx hb dX12_readLine_254 rfl (lv_at hl 1 rfl) ?_
                  refine rg_o_rb hx hb hts hown hK hP uw_7_57 dX12_readLine_255 ?_
                  refine lv_dup2_11 hx hb dX12_readLine_258 rfl rfl ?_
                  refine rl_irons hx hb hK hP dX12_readLine_259 (by omega) b_B_irons (fun z_370 ez_370 hz_370 => ?_)
                  refine lv_iconst (v := mI 1) hx hb dX12_readLine_260 rfl ?_
                  refine sy_iadd hx hb dX12_readLine_261 (z_370 + 1) rfl ?_
                  refine rs_irons hx hb hK hP hD hS dX12_readLine_262 (by omega) b_B_irons (by omega) (fun F_371 H locs _ bF_371 hP hS => ?_)
                  exact J_142 _ _ _ ⟨y_362, y_363, y_364, y_365, y_366, y_367, j_368, F_371, F_369, F_359, _, by omega, by omega, by omega, by omega, by omega, by omega, bF_371, bF_369, kr_361_E, (by omega), by omega, by omega, by omega, by omega, by omega, hP, hS, lv_sub hl [0, 1] rfl, rfl⟩
            · skip
              intro J_102
              refine sy_if_ne (tgt := 166) hx hb dX12_readLine_74 (by decide) (by omega) (fun c_372 => ?_) (fun c_372 => ?_)
              · skip
                exact J_102 _ _ _ ⟨y_44, y_45, y_46, y_47, y_48, y_49, j_50, B_herds, B_brands, G_hName, _, by omega, by omega, by omega, by omega, by omega, by omega, b_B_herds, b_B_brands, g_53, g_54, by omega, by omega, by omega, by omega, by omega, hP, hS, lv_sub hl [0, 1] rfl, rfl⟩
              · skip
                have h_373 : B_herds x_rb.toNat ≤ 7 := c_11_0 (ez_63.mp (by omega))
                refine lv_aload_n hx hb dX12_readLine_77 rfl (lv_at hl 1 rfl) ?_
                refine rg_o_hName hx hb hts hown hK hP uw_7_48 dX12_readLine_78 ?_
                refine lv_bipush (v := mI 8) hx hb dX12_readLine_81 (by decide) ?_
                refine lv_aload_n hx hb dX12_readLine_83 rfl (lv_at hl 1 rfl) ?_
                refine rg_o_rb hx hb hts hown hK hP uw_7_57 dX12_readLine_84 ?_
                refine sy_imul hx hb dX12_readLine_87 (8 * x_rb) rfl ?_
                refine lv_aload_n hx hb dX12_readLine_88 rfl (lv_at hl 1 rfl) ?_
                refine rg_o_herds hx hb hts hown hK hP uw_7_35 dX12_readLine_89 ?_
                refine lv_aload_n hx hb dX12_readLine_92 rfl (lv_at hl 1 rfl) ?_
                refine rg_o_rb hx hb hts hown hK hP uw_7_57 dX12_readLine_93 ?_
                refine rl_herds hx hb hK hP dX12_readLine_96 (by omega) b_B_herds (fun z_374 ez_374 hz_374 => ?_)
                refine sy_iadd hx hb dX12_readLine_97 (8 * x_rb + z_374) rfl ?_
                refine lv_aload_n hx hb dX12_readLine_98 rfl (lv_at hl 1 rfl) ?_
                refine lv_aload_n hx hb dX12_readLine_99 rfl (lv_at hl 1 rfl) ?_
                refine lv_aload_n hx hb dX12_readLine_100 rfl (lv_at hl 1 rfl) ?_
                refine rg_o_hName hx hb hts hown hK hP uw_7_48 dX12_readLine_101 ?_
                refine lv_bipush (v := mI 8) hx hb dX12_readLine_104 (by decide) ?_
                refine lv_aload_n hx hb dX12_readLine_106 rfl (lv_at hl 1 rfl) ?_
                refine rg_o_rb hx hb hts hown hK hP uw_7_57 dX12_readLine_107 ?_
                refine sy_imul hx hb dX12_readLine_110 (8 * x_rb) rfl ?_
                refine lv_aload_n hx hb dX12_readLine_111 rfl (lv_at hl 1 rfl) ?_
                refine rg_o_herds hx hb hts hown hK hP uw_7_35 dX12_readLine_112 ?_
                refine lv_aload_n hx hb dX12_readLine_115 rfl (lv_at hl 1 rfl) ?_
                refine rg_o_rb hx hb hts hown hK hP uw_7_57 dX12_readLine_116 ?_
                refine rl_herds hx hb hK hP dX12_readLine_119 (by omega) b_B_herds (fun z_375 ez_375 hz_375 => ?_)
                refine g_i (rDt hD) hS hA (g_V (own := "HideReaderModel") (As := [.ref (a 17), .int (mI (8 * x_rb)), .int (mI z_375)]) (rest := [.ref (a 0), .int (mI (8 * x_rb + z_374)), .ref (a 17)]) hx hb hml hown hts hK hP (rDt hD) (kr_X12_here_o_hName (l := l) (D := D) (k := k) (by omega) (by omega) (by omega)) ck_X12_here iv_X12_here uw_8_50 (rv_o hK hP) rfl hl.1 rfl (Nat.le_of_ble_eq_true rfl) dX12_readLine_120 ⟨Nat.le_of_ble_eq_true rfl, Nat.le_of_ble_eq_true rfl⟩ ⟨Nat.le_of_ble_eq_true rfl, Nat.le_of_ble_eq_true rfl⟩) (fun r_376 H locs hQ hS => ?_)
                obtain ⟨hr_376_0, hP⟩ := hQ
                refine g_l (rDt hD) hS hA (g_V (own := "HideReaderModel") (As := [.int (mI r_376)]) (rest := [.int (mI (8 * x_rb + z_374)), .ref (a 17)]) hx hb hml hown hts hK hP (rDt hD) (kr_X12_newName (l := l) (D := D) (k := k) (by omega) h_x_size (by omega) (by omega) (by omega) (by omega) (by omega) (by omega) b_B_text g_53) ck_X12_newName iv_X12_newName uw_8_54 (rv_o hK hP) rfl hl.1 rfl (Nat.le_of_ble_eq_true rfl) dX12_readLine_123 ⟨Nat.le_of_ble_eq_true rfl, Nat.le_of_ble_eq_true rfl⟩ ⟨Nat.le_of_ble_eq_true rfl, Nat.le_of_ble_eq_true rfl⟩) (fun r_377 H locs hQ hS => ?_)
                obtain ⟨y_378, y_379, y_380, y_381, y_382, y_383, j_384, hr_377_0, hr_377_1, hr_377_2, hr_377_3, hr_377_4, hr_377_5, hr_377_6, hr_377_7, hr_377_8, hr_377_9, kr_377_E, hP⟩ := hQ
                refine rs_hName hx hb hK hP hD hS dX12_readLine_126 (by omega) (fun F_385 H locs hP hS => ?_)
                refine lv_aload_n hx hb dX12_readLine_127 rfl (lv_at hl 1 rfl) ?_
                refine rg_o_brands hx hb hts hown hK hP uw_7_42 dX12_readLine_128 ?_
                refine lv_bipush (v := mI 8) hx hb dX12_readLine_131 (by decide) ?_
                refine lv_aload_n hx hb dX12_readLine_133 rfl (lv_at hl 1 rfl) ?_
                refine rg_o_rb hx hb hts hown hK hP uw_7_57 dX12_readLine_134 ?_
                refine sy_imul hx hb dX12_readLine_137 (8 * x_rb) rfl ?_
                refine lv_aload_n hx hb dX12_readLine_138 rfl (lv_at hl 1 rfl) ?_
                refine rg_o_herds hx hb hts hown hK hP uw_7_35 dX12_readLine_139 ?_
                refine lv_aload_n hx hb dX12_readLine_142 rfl (lv_at hl 1 rfl) ?_
                refine rg_o_rb hx hb hts hown hK hP uw_7_57 dX12_readLine_143 ?_
                refine rl_herds hx hb hK hP dX12_readLine_146 (by omega) b_B_herds (fun z_386 ez_386 hz_386 => ?_)
                refine sy_iadd hx hb dX12_readLine_147 (8 * x_rb + z_386) rfl ?_
                refine lv_aload_n hx hb dX12_readLine_148 rfl (lv_at hl 1 rfl) ?_
                refine g_i (rDt hD) hS hA (g_V (own := "HideReaderModel") (As := []) (rest := [.int (mI (8 * x_rb + z_386)), .ref (a 11)]) hx hb hml hown hts hK hP (rDt hD) (kr_X12_readMark (l := l) (D := D) (k := k) h_x_size (by omega) (by omega) (by omega) (by omega) (by omega) (by omega) b_B_text kr_377_E (by omega)) ck_X12_readMark iv_X12_readMark uw_8_58 (rv_o hK hP) rfl hl.1 rfl (Nat.le_of_ble_eq_true rfl) dX12_readLine_149 ⟨Nat.le_of_ble_eq_true rfl, Nat.le_of_ble_eq_true rfl⟩ ⟨Nat.le_of_ble_eq_true rfl, Nat.le_of_ble_eq_true rfl⟩) (fun r_387 H locs hQ hS => ?_)
                obtain ⟨y_388, y_389, y_390, y_391, y_392, y_393, j_394, hr_387_0, hr_387_1, hr_387_2, hr_387_3, hr_387_4, hr_387_5, hr_387_6, hr_387_7, hr_387_8, hr_387_9, hr_387_10, kr_387_E, hP⟩ := hQ
                refine rs_brands hx hb hK hP hD hS dX12_readLine_152 (by omega) b_B_brands (by omega) (fun F_395 H locs _ bF_395 hP hS => ?_)
                refine lv_aload_n hx hb dX12_readLine_153 rfl (lv_at hl 1 rfl) ?_
                refine rg_o_herds hx hb hts hown hK hP uw_7_35 dX12_readLine_154 ?_
                refine lv_aload_n hx hb dX12_readLine_157 rfl (lv_at hl 1 rfl) ?_
                refine rg_o_rb hx hb hts hown hK hP uw_7_57 dX12_readLine_158 ?_
                refine lv_dup2_11 hx hb dX12_readLine_161 rfl rfl ?_
                refine rl_herds hx hb hK hP dX12_readLine_162 (by omega) b_B_herds (fun z_396 ez_396 hz_396 => ?_)
                refine lv_iconst (v := mI 1) hx hb dX12_readLine_163 rfl ?_
                refine sy_iadd hx hb dX12_readLine_164 (z_396 + 1) rfl ?_
                refine rs_herds hx hb hK hP hD hS dX12_readLine_165 (by omega) b_B_herds (by omega) (fun F_397 H locs _ bF_397 hP hS => ?_)
                exact J_102 _ _ _ ⟨y_388, y_389, y_390, y_391, y_392, y_393, j_394, F_397, F_395, F_385, _, by omega, by omega, by omega, by omega, by omega, by omega, bF_397, bF_395, kr_387_E, (by omega), by omega, by omega, by omega, by omega, by omega, hP, hS, lv_sub hl [0, 1] rfl, rfl⟩
          · skip
            intro J_62
            refine sy_if_ne (tgt := 69) hx hb dX12_readLine_53 (by decide) (by omega) (fun c_398 => ?_) (fun c_398 => ?_)
            · skip
              exact J_62 _ _ _ ⟨F_52, _, bF_52, by omega, hP, hS, lv_sub hl [0, 1] rfl, rfl⟩
            · skip
              refine lv_aload_n hx hb dX12_readLine_56 rfl (lv_at hl 1 rfl) ?_
              refine rg_o_told hx hb hts hown hK hP uw_7_41 dX12_readLine_57 ?_
              refine lv_aload_n hx hb dX12_readLine_60 rfl (lv_at hl 1 rfl) ?_
              refine rg_o_rb hx hb hts hown hK hP uw_7_57 dX12_readLine_61 ?_
              refine lv_dup2_11 hx hb dX12_readLine_64 rfl rfl ?_
              refine rl_told hx hb hK hP dX12_readLine_65 (by omega) bF_52 (fun z_399 _ hz_399 => ?_)
              refine lv_iconst (v := mI 4) hx hb dX12_readLine_66 rfl ?_
              refine sy_ior hx hb dX12_readLine_67 5 (by decide) 32 (by decide) (by omega) (by omega) (fun z_400 hz_400 => ?_)
              refine rs_told hx hb hK hP hD hS dX12_readLine_68 (by omega) bF_52 (by omega) (fun F_401 H locs _ bF_401 hP hS => ?_)
              exact J_62 _ _ _ ⟨F_401, _, bF_401, by omega, hP, hS, lv_sub hl [0, 1] rfl, rfl⟩
        · skip
          intro J_55
          refine sy_if_ne (tgt := 48) hx hb dX12_readLine_41 (by decide) (by omega) (fun c_402 => ?_) (fun c_402 => ?_)
          · skip
            exact J_55 _ _ _ ⟨x_faultKind, x_faultPlace, y_27, y_28, y_29, y_30, j_31, B_turns, B_told, _, by omega, by omega, by omega, by omega, by omega, by omega, b_B_turns, b_B_told, kr_26_E, g_Z, by omega, by omega, by omega, by omega, hP, hS, lv_sub hl [0, 1] rfl, rfl⟩
          · skip
            refine lv_aload_n hx hb dX12_readLine_44 rfl (lv_at hl 1 rfl) ?_
            refine g_v (rDt hD) hS hA (g_V (own := "HideReaderModel") (As := []) (rest := []) hx hb hml hown hts hK hP (rDt hD) (kr_X12_readTurns (l := l) (D := D) (k := k) h_x_size h_x_faultKind h_x_faultPlace (by omega) (by omega) (by omega) (by omega) h_x_rb b_B_text b_B_turns b_B_told kr_26_E) ck_X12_readTurns iv_X12_readTurns uw_8_42 (rv_o hK hP) rfl hl.1 rfl (Nat.le_of_ble_eq_true rfl) dX12_readLine_45 ⟨Nat.le_of_ble_eq_true rfl, Nat.le_of_ble_eq_true rfl⟩ ⟨Nat.le_of_ble_eq_true rfl, Nat.le_of_ble_eq_true rfl⟩) (fun H locs hQ hS => ?_)
            obtain ⟨y_404, y_405, y_406, y_407, y_408, y_409, j_410, F_411, F_412, hr_403_0, hr_403_1, hr_403_2, hr_403_3, hr_403_4, hr_403_5, bF_411, bF_412, hr_403_8, hr_403_9, hr_403_10, hr_403_11, kr_403_E, hP⟩ := hQ
            exact J_55 _ _ _ ⟨y_404, y_405, y_406, y_407, y_408, y_409, j_410, F_411, F_412, _, by omega, by omega, by omega, by omega, by omega, by omega, bF_411, bF_412, kr_403_E, (by omega), by omega, by omega, by omega, by omega, hP, hS, lv_sub hl [0, 1] rfl, rfl⟩
set_option maxHeartbeats 4000000 in
set_option maxRecDepth 100000 in
theorem kr_X12_layPlaced (h_x_bank : 0 ≤ x_bank ∧ x_bank ≤ 1) (b_B_turns : bd (1) 4 B_turns) (b_B_irons : bd (0) 6 B_irons) (b_B_told : bd (0) 31 B_told) (b_B_ironMarks : bd (0) 4095 B_ironMarks) (b_B_burned : bd (0) 4095 B_burned) : MetG l D k yX12_layPlaced cX12_layPlaced 2 none 3 [.ref (a 0)] (rW k a x_taped x_size x_faultKind x_faultPlace x_at x_end x_token x_number x_bank x_rb x_codes x_within x_piled x_unitsInRule x_askBeast x_askStroke x_askAge x_askSeason x_acts x_undone x_laid x_seens x_time x_fitting n_name B_tape B_text B_turns B_herds B_irons B_beasts B_units B_night B_draw B_told B_brands B_ironMarks B_herdTold B_born B_ruleFrom B_ruleTo B_code B_codeNumber B_eWhat B_eSign B_pile B_all B_burned B_was B_need B_laidRow B_long8 B_brings B_sBurning B_sStroke B_sIs B_sTold B_sUntold B_parts B_boxAll B_isBoxed G_hName G_iName G_bName ex) (qGv (fun H => ∃ (F_burned : Nat → Int), (bd (0) 4095 F_burned) ∧ va_P D vwCl (rW k a x_taped x_size x_faultKind x_faultPlace x_at x_end x_token x_number x_bank x_rb x_codes x_within x_piled x_unitsInRule x_askBeast x_askStroke x_askAge x_askSeason x_acts x_undone x_laid x_seens x_time x_fitting n_name B_tape B_text B_turns B_herds B_irons B_beasts B_units B_night B_draw B_told B_brands B_ironMarks B_herdTold B_born B_ruleFrom B_ruleTo B_code B_codeNumber B_eWhat B_eSign B_pile B_all F_burned B_was B_need B_laidRow B_long8 B_brings B_sBurning B_sStroke B_sIs B_sTold B_sUntold B_parts B_boxAll B_isBoxed G_hName G_iName G_bName ex) H)) := by
  refine metG_of 0 ck_X12_layPlaced (Nat.le_of_ble_eq_true rfl) rMap (fun p e s m args below meth c A hx hb hml hr hlocks hown hts hK hD hA hP hS ls hl => ?_)
  have hown : s.vm.findClass "HideReaderModel" = some m.cls := hown
  have hl : lv_has ls 2 [(0, .ref (a 0))] := hl
  refine lv_iconst (v := mI 0) hx hb dX12_layPlaced_0 rfl ?_
  refine lv_istore_n (lv' := [(1, .int (mI 0)), (0, .ref (a 0))]) hx hb dX12_layPlaced_1 rfl hl (by decide) rfl (fun ls hl => ?_)
  refine sy_loop (I := fun n H locs g => ∃ (z_97 : Int) (F_98 : Nat → Int) (ls : Array Slot), (0 ≤ z_97 ∧ z_97 ≤ 48) ∧ (bd (0) 4095 F_98) ∧ (48 - z_97).toNat = n ∧ va_P D vwCl (rW k a x_taped x_size x_faultKind x_faultPlace x_at x_end x_token x_number x_bank x_rb x_codes x_within x_piled x_unitsInRule x_askBeast x_askStroke x_askAge x_askSeason x_acts x_undone x_laid x_seens x_time x_fitting n_name B_tape B_text B_turns B_herds B_irons B_beasts B_units B_night B_draw B_told B_brands B_ironMarks B_herdTold B_born B_ruleFrom B_ruleTo B_code B_codeNumber B_eWhat B_eSign B_pile B_all F_98 B_was B_need B_laidRow B_long8 B_brings B_sBurning B_sStroke B_sIs B_sTold B_sUntold B_parts B_boxAll B_isBoxed G_hName G_iName G_bName ex) H ∧ va_S A s.heap H locs ∧ lv_has ls 2 [(1, .int (mI z_97)), (0, .ref (a 0))] ∧ g = F0 m 2 ls []) ?_ _ ⟨0, B_burned, _, by omega, b_B_burned, rfl, hP, hS, lv_sub hl [0, 1] rfl, rfl⟩
  intro n_111 H locs g hI ih_112
  obtain ⟨z_97, F_98, ls, h2_0, bF_98, mn_111, hP, hS, hl, rfl⟩ := hI
  refine lv_iload_n hx hb dX12_layPlaced_2 rfl (lv_at hl 0 rfl) ?_
  refine lv_aload_n hx hb dX12_layPlaced_3 rfl (lv_at hl 1 rfl) ?_
  refine g_i (rDt hD) hS hA (g_V (own := "HideReaderModel") (As := []) (rest := [.int (mI z_97)]) hx hb hml hown hts hK hP (rDt hD) (kr_X12_tools (l := l) (D := D) (k := k) h_x_bank b_B_irons) ck_X12_tools iv_X12_tools uw_6_235 (rv_o hK hP) rfl hl.1 rfl (Nat.le_of_ble_eq_true rfl) dX12_layPlaced_4 ⟨Nat.le_of_ble_eq_true rfl, Nat.le_of_ble_eq_true rfl⟩ ⟨Nat.le_of_ble_eq_true rfl, Nat.le_of_ble_eq_true rfl⟩) (fun r_113 H locs hQ hS => ?_)
  obtain ⟨hr_113_0, hr_113_1, hP⟩ := hQ
  refine lv_aload_n hx hb dX12_layPlaced_7 rfl (lv_at hl 1 rfl) ?_
  refine g_i (rDt hD) hS hA (g_V (own := "HideReaderModel") (As := []) (rest := [.int (mI r_113), .int (mI z_97)]) hx hb hml hown hts hK hP (rDt hD) (kr_X12_placements (l := l) (D := D) (k := k) h_x_bank b_B_turns b_B_told) ck_X12_placements iv_X12_placements uw_6_239 (rv_o hK hP) rfl hl.1 rfl (Nat.le_of_ble_eq_true rfl) dX12_layPlaced_8 ⟨Nat.le_of_ble_eq_true rfl, Nat.le_of_ble_eq_true rfl⟩ ⟨Nat.le_of_ble_eq_true rfl, Nat.le_of_ble_eq_true rfl⟩) (fun r_114 H locs hQ hS => ?_)
  obtain ⟨hr_114_0, hr_114_1, hP⟩ := hQ
  refine sy_imulB (A := 6) (B := 8) hx hb dX12_layPlaced_11 48 (by decide) (by omega) (by omega) (fun z_115 ez_115 hz_115 => ?_)
  refine sy_icmp_ge (tgt := 47) hx hb dX12_layPlaced_12 (by decide) (by omega) (by omega) (fun c_116 => ?_) (fun c_116 => ?_)
  · skip
    exact r_v hx hb hr hlocks dX12_layPlaced_47 hS ⟨F_98, bF_98, hP⟩
  · skip
    refine lv_aload_n hx hb dX12_layPlaced_15 rfl (lv_at hl 1 rfl) ?_
    refine rg_o_burned hx hb hts hown hK hP uw_7_67 dX12_layPlaced_16 ?_
    refine lv_iload_n hx hb dX12_layPlaced_19 rfl (lv_at hl 0 rfl) ?_
    refine lv_aload_n hx hb dX12_layPlaced_20 rfl (lv_at hl 1 rfl) ?_
    refine lv_aload_n hx hb dX12_layPlaced_21 rfl (lv_at hl 1 rfl) ?_
    refine lv_iload_n hx hb dX12_layPlaced_22 rfl (lv_at hl 0 rfl) ?_
    refine lv_aload_n hx hb dX12_layPlaced_23 rfl (lv_at hl 1 rfl) ?_
    refine g_i (rDt hD) hS hA (g_V (own := "HideReaderModel") (As := []) (rest := [.int (mI z_97), .ref (a 0), .ref (a 0), .int (mI z_97), .ref (a 26)]) hx hb hml hown hts hK hP (rDt hD) (kr_X12_placements (l := l) (D := D) (k := k) h_x_bank b_B_turns b_B_told) ck_X12_placements iv_X12_placements uw_6_239 (rv_o hK hP) rfl hl.1 rfl (Nat.le_of_ble_eq_true rfl) dX12_layPlaced_24 ⟨Nat.le_of_ble_eq_true rfl, Nat.le_of_ble_eq_true rfl⟩ ⟨Nat.le_of_ble_eq_true rfl, Nat.le_of_ble_eq_true rfl⟩) (fun r_117 H locs hQ hS => ?_)
    obtain ⟨hr_117_0, hr_117_1, hP⟩ := hQ
    refine sy_idiv hx hb dX12_layPlaced_27 (by omega) (by omega) (fun z_118 ez_118 hz_118 => ?_)
    have h_119 := dv_lt ez_115 (by omega) (by omega) (by omega) ez_118
    refine g_i (rDt hD) hS hA (g_V (own := "HideReaderModel") (As := [.int (mI z_118)]) (rest := [.ref (a 0), .int (mI z_97), .ref (a 26)]) hx hb hml hown hts hK hP (rDt hD) (kr_X12_ironOf (l := l) (D := D) (k := k) (by omega) h_x_bank b_B_ironMarks) ck_X12_ironOf iv_X12_ironOf uw_7_3 (rv_o hK hP) rfl hl.1 rfl (Nat.le_of_ble_eq_true rfl) dX12_layPlaced_28 ⟨Nat.le_of_ble_eq_true rfl, Nat.le_of_ble_eq_true rfl⟩ ⟨Nat.le_of_ble_eq_true rfl, Nat.le_of_ble_eq_true rfl⟩) (fun r_120 H locs hQ hS => ?_)
    obtain ⟨hr_120_0, hP⟩ := hQ
    refine lv_iload_n hx hb dX12_layPlaced_31 rfl (lv_at hl 0 rfl) ?_
    refine lv_aload_n hx hb dX12_layPlaced_32 rfl (lv_at hl 1 rfl) ?_
    refine g_i (rDt hD) hS hA (g_V (own := "HideReaderModel") (As := []) (rest := [.int (mI z_97), .int (mI r_120), .ref (a 0), .int (mI z_97), .ref (a 26)]) hx hb hml hown hts hK hP (rDt hD) (kr_X12_placements (l := l) (D := D) (k := k) h_x_bank b_B_turns b_B_told) ck_X12_placements iv_X12_placements uw_6_239 (rv_o hK hP) rfl hl.1 rfl (Nat.le_of_ble_eq_true rfl) dX12_layPlaced_33 ⟨Nat.le_of_ble_eq_true rfl, Nat.le_of_ble_eq_true rfl⟩ ⟨Nat.le_of_ble_eq_true rfl, Nat.le_of_ble_eq_true rfl⟩) (fun r_121 H locs hQ hS => ?_)
    obtain ⟨hr_121_0, hr_121_1, hP⟩ := hQ
    refine sy_irem hx hb dX12_layPlaced_36 (by omega) (by omega) (fun z_122 ez_122 hz_122 => ?_)
    refine g_i (rDt hD) hS hA (g_V (own := "HideReaderModel") (As := [.int (mI r_120), .int (mI z_122)]) (rest := [.int (mI z_97), .ref (a 26)]) hx hb hml hown hts hK hP (rDt hD) (kr_X12_placedBy (l := l) (D := D) (k := k) (by omega) (by omega) h_x_bank b_B_turns) ck_X12_placedBy iv_X12_placedBy uw_7_7 (rv_o hK hP) rfl hl.1 rfl (Nat.le_of_ble_eq_true rfl) dX12_layPlaced_37 ⟨Nat.le_of_ble_eq_true rfl, Nat.le_of_ble_eq_true rfl⟩ ⟨Nat.le_of_ble_eq_true rfl, Nat.le_of_ble_eq_true rfl⟩) (fun r_123 H locs hQ hS => ?_)
    obtain ⟨hr_123_0, hP⟩ := hQ
    refine rs_burned hx hb hK hP hD hS dX12_layPlaced_40 (by omega) bF_98 (by omega) (fun F_124 H locs _ bF_124 hP hS => ?_)
    refine lv_iinc (v := mI (z_97 + 1)) (lv' := [(1, .int (mI (z_97 + 1))), (0, .ref (a 0))]) hx hb dX12_layPlaced_41 hl (k := 0) rfl (mI_ad rfl) (by decide) rfl (fun ls hl => ?_)
    refine lv_goto (tgt := 2) hx hb dX12_layPlaced_44 (by decide) ?_
    exact ih_112 _ _ _ _ (by omega) ⟨(z_97 + 1), F_124, _, by omega, bF_124, rfl, hP, hS, lv_sub hl [0, 1] rfl, rfl⟩
set_option maxHeartbeats 4000000 in
set_option maxRecDepth 100000 in
theorem kr_X12_startAnew (h_x_bank : 0 ≤ x_bank ∧ x_bank ≤ 1) (h_x_acts : 0 ≤ x_acts ∧ x_acts ≤ 40) (h_x_undone : 0 ≤ x_undone ∧ x_undone ≤ 40) (h_x_laid : 0 ≤ x_laid ∧ x_laid ≤ 8) (h_x_seens : 0 ≤ x_seens ∧ x_seens ≤ 30) (b_B_turns : bd (1) 4 B_turns) (b_B_irons : bd (0) 6 B_irons) (b_B_beasts : bd (0) 8 B_beasts) (b_B_draw : bd (0) 999 B_draw) (b_B_told : bd (0) 31 B_told) (b_B_brands : bd (0) 4095 B_brands) (b_B_ironMarks : bd (0) 4095 B_ironMarks) (b_B_herdTold : bd (0) 7 B_herdTold) (b_B_born : bd (0) 99 B_born) (b_B_all : bA B_all) (b_B_burned : bd (0) 4095 B_burned) (b_B_isBoxed : bd (0) 1 B_isBoxed) : MetG l D k yX12_startAnew cX12_startAnew 3 none 4 [.ref (a 0)] (rW k a x_taped x_size x_faultKind x_faultPlace x_at x_end x_token x_number x_bank x_rb x_codes x_within x_piled x_unitsInRule x_askBeast x_askStroke x_askAge x_askSeason x_acts x_undone x_laid x_seens x_time x_fitting n_name B_tape B_text B_turns B_herds B_irons B_beasts B_units B_night B_draw B_told B_brands B_ironMarks B_herdTold B_born B_ruleFrom B_ruleTo B_code B_codeNumber B_eWhat B_eSign B_pile B_all B_burned B_was B_need B_laidRow B_long8 B_brings B_sBurning B_sStroke B_sIs B_sTold B_sUntold B_parts B_boxAll B_isBoxed G_hName G_iName G_bName ex) (qGv (fun H => ∃ (F_all : Nat → Int) (F_burned : Nat → Int) (y_acts : Int) (y_undone : Int) (y_laid : Int) (y_seens : Int) (F_isBoxed : Nat → Int), (bA F_all) ∧ (bd (0) 4095 F_burned) ∧ (0 ≤ y_acts ∧ y_acts ≤ 0) ∧ (0 ≤ y_undone ∧ y_undone ≤ 0) ∧ (0 ≤ y_laid ∧ y_laid ≤ 0) ∧ (0 ≤ y_seens ∧ y_seens ≤ 0) ∧ (bd (0) 1 F_isBoxed) ∧ (0 ≤ -y_acts + x_acts) ∧ (0 ≤ -y_undone + x_undone) ∧ (0 ≤ -y_laid + x_laid) ∧ (0 ≤ -y_seens + x_seens) ∧ (0 ≤ 40 - y_acts - y_undone) ∧ va_P D vwCl (rW k a x_taped x_size x_faultKind x_faultPlace x_at x_end x_token x_number x_bank x_rb x_codes x_within x_piled x_unitsInRule x_askBeast x_askStroke x_askAge x_askSeason y_acts y_undone y_laid y_seens x_time x_fitting n_name B_tape B_text B_turns B_herds B_irons B_beasts B_units B_night B_draw B_told B_brands B_ironMarks B_herdTold B_born B_ruleFrom B_ruleTo B_code B_codeNumber B_eWhat B_eSign B_pile F_all F_burned B_was B_need B_laidRow B_long8 B_brings B_sBurning B_sStroke B_sIs B_sTold B_sUntold B_parts B_boxAll F_isBoxed G_hName G_iName G_bName ex) H)) := by
  refine metG_of 0 ck_X12_startAnew (Nat.le_of_ble_eq_true rfl) rMap (fun p e s m args below meth c A hx hb hml hr hlocks hown hts hK hD hA hP hS ls hl => ?_)
  have hown : s.vm.findClass "HideReaderModel" = some m.cls := hown
  have hl : lv_has ls 3 [(0, .ref (a 0))] := hl
  refine lv_iconst (v := mI 0) hx hb dX12_startAnew_0 rfl ?_
  refine lv_istore_n (lv' := [(1, .int (mI 0)), (0, .ref (a 0))]) hx hb dX12_startAnew_1 rfl hl (by decide) rfl (fun ls hl => ?_)
  refine sy_loop (I := fun n H locs g => ∃ (z_16283 : Int) (F_16284 : Nat → Int) (ls : Array Slot), (0 ≤ z_16283 ∧ z_16283 ≤ 114) ∧ (bA F_16284) ∧ (114 - z_16283).toNat = n ∧ va_P D vwCl (rW k a x_taped x_size x_faultKind x_faultPlace x_at x_end x_token x_number x_bank x_rb x_codes x_within x_piled x_unitsInRule x_askBeast x_askStroke x_askAge x_askSeason x_acts x_undone x_laid x_seens x_time x_fitting n_name B_tape B_text B_turns B_herds B_irons B_beasts B_units B_night B_draw B_told B_brands B_ironMarks B_herdTold B_born B_ruleFrom B_ruleTo B_code B_codeNumber B_eWhat B_eSign B_pile F_16284 B_burned B_was B_need B_laidRow B_long8 B_brings B_sBurning B_sStroke B_sIs B_sTold B_sUntold B_parts B_boxAll B_isBoxed G_hName G_iName G_bName ex) H ∧ va_S A s.heap H locs ∧ lv_has ls 3 [(1, .int (mI z_16283)), (0, .ref (a 0))] ∧ g = F0 m 2 ls []) ?_ _ ⟨0, B_all, _, by omega, b_B_all, rfl, hP, hS, lv_sub hl [0, 1] rfl, rfl⟩
  intro n_18996 H locs g hI ih_18997
  obtain ⟨z_16283, F_16284, ls, h2_0, bF_16284, mn_18996, hP, hS, hl, rfl⟩ := hI
  refine lv_iload_n hx hb dX12_startAnew_2 rfl (lv_at hl 0 rfl) ?_
  refine lv_bipush (v := mI 114) hx hb dX12_startAnew_3 (by decide) ?_
  refine sy_icmp_ge (tgt := 21) hx hb dX12_startAnew_5 (by decide) (by omega) (by decide) (fun c_19000 => ?_) (fun c_19000 => ?_)
  · skip
    refine lv_iconst (v := mI 0) hx hb dX12_startAnew_21 rfl ?_
    refine lv_istore_n (lv' := [(1, .int (mI 0)), (0, .ref (a 0))]) hx hb dX12_startAnew_22 rfl hl (by decide) rfl (fun ls hl => ?_)
    refine sy_loop (I := fun n H locs g => ∃ (z_21106 : Int) (F_21107 : Nat → Int) (ls : Array Slot), (0 ≤ z_21106 ∧ z_21106 ≤ 8) ∧ (bA F_21107) ∧ (8 - z_21106).toNat = n ∧ va_P D vwCl (rW k a x_taped x_size x_faultKind x_faultPlace x_at x_end x_token x_number x_bank x_rb x_codes x_within x_piled x_unitsInRule x_askBeast x_askStroke x_askAge x_askSeason x_acts x_undone x_laid x_seens x_time x_fitting n_name B_tape B_text B_turns B_herds B_irons B_beasts B_units B_night B_draw B_told B_brands B_ironMarks B_herdTold B_born B_ruleFrom B_ruleTo B_code B_codeNumber B_eWhat B_eSign B_pile F_21107 B_burned B_was B_need B_laidRow B_long8 B_brings B_sBurning B_sStroke B_sIs B_sTold B_sUntold B_parts B_boxAll B_isBoxed G_hName G_iName G_bName ex) H ∧ va_S A s.heap H locs ∧ lv_has ls 3 [(1, .int (mI z_21106)), (0, .ref (a 0))] ∧ g = F0 m 23 ls []) ?_ _ ⟨0, F_16284, _, by omega, bF_16284, rfl, hP, hS, lv_sub hl [0, 1] rfl, rfl⟩
    intro n_21407 H locs g hI ih_21408
    obtain ⟨z_21106, F_21107, ls, h23_0, bF_21107, mn_21407, hP, hS, hl, rfl⟩ := hI
    refine lv_iload_n hx hb dX12_startAnew_23 rfl (lv_at hl 0 rfl) ?_
    refine lv_aload_n hx hb dX12_startAnew_24 rfl (lv_at hl 1 rfl) ?_
    refine g_i (rDt hD) hS hA (g_V (own := "HideReaderModel") (As := []) (rest := [.int (mI z_21106)]) hx hb hml hown hts hK hP (rDt hD) (kr_X12_cattle (l := l) (D := D) (k := k) h_x_bank b_B_beasts) ck_X12_cattle iv_X12_cattle uw_6_212 (rv_o hK hP) rfl hl.1 rfl (Nat.le_of_ble_eq_true rfl) dX12_startAnew_25 ⟨Nat.le_of_ble_eq_true rfl, Nat.le_of_ble_eq_true rfl⟩ ⟨Nat.le_of_ble_eq_true rfl, Nat.le_of_ble_eq_true rfl⟩) (fun r_21409 H locs hQ hS => ?_)
    obtain ⟨hr_21409_0, hr_21409_1, hP⟩ := hQ
    refine sy_icmp_ge (tgt := 126) hx hb dX12_startAnew_28 (by decide) (by omega) (by omega) (fun c_21540 => ?_) (fun c_21540 => ?_)
    · skip
      refine lv_aload_n hx hb dX12_startAnew_126 rfl (lv_at hl 1 rfl) ?_
      refine rg_o_all hx hb hts hown hK hP uw_7_66 dX12_startAnew_127 ?_
      refine lv_bipush (v := mI 113) hx hb dX12_startAnew_130 (by decide) ?_
      refine lv_aload_n hx hb dX12_startAnew_132 rfl (lv_at hl 1 rfl) ?_
      refine rg_o_draw hx hb hts hown hK hP uw_7_40 dX12_startAnew_133 ?_
      refine lv_aload_n hx hb dX12_startAnew_136 rfl (lv_at hl 1 rfl) ?_
      refine rg_o_bank hx hb hts hown hK hP uw_7_56 dX12_startAnew_137 ?_
      refine rl_draw hx hb hK hP dX12_startAnew_140 (by omega) b_B_draw (fun z_21541 _ hz_21541 => ?_)
      refine rs_all hx hb hK hP hD hS dX12_startAnew_141 (by omega) (bA_bd bF_21107) (by omega) (fun F_21542 H locs eF_21542 bF_21542 hP hS => ?_)
      have bF_21542 := bA_s999 bF_21107 eF_21542 (by omega) (by omega)
      refine lv_aload_n hx hb dX12_startAnew_142 rfl (lv_at hl 1 rfl) ?_
      refine g_v (rDt hD) hS hA (g_V (own := "HideReaderModel") (As := []) (rest := []) hx hb hml hown hts hK hP (rDt hD) (kr_X12_layPlaced (l := l) (D := D) (k := k) h_x_bank b_B_turns b_B_irons b_B_told b_B_ironMarks b_B_burned) ck_X12_layPlaced iv_X12_layPlaced uw_6_231 (rv_o hK hP) rfl hl.1 rfl (Nat.le_of_ble_eq_true rfl) dX12_startAnew_143 ⟨Nat.le_of_ble_eq_true rfl, Nat.le_of_ble_eq_true rfl⟩ ⟨Nat.le_of_ble_eq_true rfl, Nat.le_of_ble_eq_true rfl⟩) (fun H locs hQ hS => ?_)
      obtain ⟨F_21544, bF_21544, hP⟩ := hQ
      refine lv_aload_n hx hb dX12_startAnew_146 rfl (lv_at hl 1 rfl) ?_
      refine lv_iconst (v := mI 0) hx hb dX12_startAnew_147 rfl ?_
      refine rp_o_acts hx hb hts hown hK hP hD hS uw_7_69 dX12_startAnew_148 (fun H locs hP hS => ?_)
      refine lv_aload_n hx hb dX12_startAnew_151 rfl (lv_at hl 1 rfl) ?_
      refine lv_iconst (v := mI 0) hx hb dX12_startAnew_152 rfl ?_
      refine rp_o_undone hx hb hts hown hK hP hD hS uw_7_70 dX12_startAnew_153 (fun H locs hP hS => ?_)
      refine lv_aload_n hx hb dX12_startAnew_156 rfl (lv_at hl 1 rfl) ?_
      refine lv_iconst (v := mI 0) hx hb dX12_startAnew_157 rfl ?_
      refine rp_o_seens hx hb hts hown hK hP hD hS uw_7_82 dX12_startAnew_158 (fun H locs hP hS => ?_)
      refine lv_aload_n hx hb dX12_startAnew_161 rfl (lv_at hl 1 rfl) ?_
      refine lv_iconst (v := mI 0) hx hb dX12_startAnew_162 rfl ?_
      refine rp_o_laid hx hb hts hown hK hP hD hS uw_7_73 dX12_startAnew_163 (fun H locs hP hS => ?_)
      refine lv_iconst (v := mI 0) hx hb dX12_startAnew_166 rfl ?_
      refine lv_istore_n (lv' := [(1, .int (mI 0)), (0, .ref (a 0))]) hx hb dX12_startAnew_167 rfl hl (by decide) rfl (fun ls hl => ?_)
      refine sy_loop (I := fun n H locs g => ∃ (z_21571 : Int) (F_21572 : Nat → Int) (ls : Array Slot), (0 ≤ z_21571 ∧ z_21571 ≤ 3) ∧ (bd (0) 1 F_21572) ∧ (3 - z_21571).toNat = n ∧ va_P D vwCl (rW k a x_taped x_size x_faultKind x_faultPlace x_at x_end x_token x_number x_bank x_rb x_codes x_within x_piled x_unitsInRule x_askBeast x_askStroke x_askAge x_askSeason 0 0 0 0 x_time x_fitting n_name B_tape B_text B_turns B_herds B_irons B_beasts B_units B_night B_draw B_told B_brands B_ironMarks B_herdTold B_born B_ruleFrom B_ruleTo B_code B_codeNumber B_eWhat B_eSign B_pile F_21542 F_21544 B_was B_need B_laidRow B_long8 B_brings B_sBurning B_sStroke B_sIs B_sTold B_sUntold B_parts B_boxAll F_21572 G_hName G_iName G_bName ex) H ∧ va_S A s.heap H locs ∧ lv_has ls 3 [(1, .int (mI z_21571)), (0, .ref (a 0))] ∧ g = F0 m 168 ls []) ?_ _ ⟨0, B_isBoxed, _, by omega, b_B_isBoxed, rfl, hP, hS, lv_sub hl [0, 1] rfl, rfl⟩
      intro n_21575 H locs g hI ih_21576
      obtain ⟨z_21571, F_21572, ls, h168_0, bF_21572, mn_21575, hP, hS, hl, rfl⟩ := hI
      refine lv_iload_n hx hb dX12_startAnew_168 rfl (lv_at hl 0 rfl) ?_
      refine lv_iconst (v := mI 3) hx hb dX12_startAnew_169 rfl ?_
      refine sy_icmp_ge (tgt := 186) hx hb dX12_startAnew_170 (by decide) (by omega) (by decide) (fun c_21577 => ?_) (fun c_21577 => ?_)
      · skip
        exact r_v hx hb hr hlocks dX12_startAnew_186 hS ⟨F_21542, F_21544, 0, 0, 0, 0, F_21572, bF_21542, bF_21544, by omega, by omega, by omega, by omega, bF_21572, by omega, by omega, by omega, by omega, (by omega), hP⟩
      · skip
        refine lv_aload_n hx hb dX12_startAnew_173 rfl (lv_at hl 1 rfl) ?_
        refine rg_o_isBoxed hx hb hts hown hK hP uw_7_86 dX12_startAnew_174 ?_
        refine lv_iload_n hx hb dX12_startAnew_177 rfl (lv_at hl 0 rfl) ?_
        refine lv_iconst (v := mI 0) hx hb dX12_startAnew_178 rfl ?_
        refine rs_isBoxed hx hb hK hP hD hS (by decide) dX12_startAnew_179 (by omega) bF_21572 (by omega) (fun F_21578 H locs _ bF_21578 hP hS => ?_)
        refine lv_iinc (v := mI (z_21571 + 1)) (lv' := [(1, .int (mI (z_21571 + 1))), (0, .ref (a 0))]) hx hb dX12_startAnew_180 hl (k := 0) rfl (mI_ad rfl) (by decide) rfl (fun ls hl => ?_)
        refine lv_goto (tgt := 168) hx hb dX12_startAnew_183 (by decide) ?_
        exact ih_21576 _ _ _ _ (by omega) ⟨(z_21571 + 1), F_21578, _, by omega, bF_21578, rfl, hP, hS, lv_sub hl [0, 1] rfl, rfl⟩
    · skip
      refine lv_aload_n hx hb dX12_startAnew_31 rfl (lv_at hl 1 rfl) ?_
      refine rg_o_all hx hb hts hown hK hP uw_7_66 dX12_startAnew_32 ?_
      refine lv_iconst (v := mI 0) hx hb dX12_startAnew_35 rfl ?_
      refine lv_iload_n hx hb dX12_startAnew_36 rfl (lv_at hl 0 rfl) ?_
      refine sy_iadd hx hb dX12_startAnew_37 z_21106 (by omega) ?_
      refine lv_aload_n hx hb dX12_startAnew_38 rfl (lv_at hl 1 rfl) ?_
      refine lv_aload_n hx hb dX12_startAnew_39 rfl (lv_at hl 1 rfl) ?_
      refine lv_iload_n hx hb dX12_startAnew_40 rfl (lv_at hl 0 rfl) ?_
      refine g_i (rDt hD) hS hA (g_V (own := "HideReaderModel") (As := [.int (mI z_21106)]) (rest := [.ref (a 0), .int (mI z_21106), .ref (a 25)]) hx hb hml hown hts hK hP (rDt hD) (kr_X12_firstHerd (l := l) (D := D) (k := k) (by omega) h_x_bank b_B_herdTold) ck_X12_firstHerd iv_X12_firstHerd uw_6_216 (rv_o hK hP) rfl hl.1 rfl (Nat.le_of_ble_eq_true rfl) dX12_startAnew_41 ⟨Nat.le_of_ble_eq_true rfl, Nat.le_of_ble_eq_true rfl⟩ ⟨Nat.le_of_ble_eq_true rfl, Nat.le_of_ble_eq_true rfl⟩) (fun r_21579 H locs hQ hS => ?_)
      obtain ⟨hr_21579_0, hP⟩ := hQ
      refine g_i (rDt hD) hS hA (g_V (own := "HideReaderModel") (As := [.int (mI r_21579)]) (rest := [.int (mI z_21106), .ref (a 25)]) hx hb hml hown hts hK hP (rDt hD) (kr_X12_brandOf (l := l) (D := D) (k := k) (by omega) h_x_bank b_B_brands) ck_X12_brandOf iv_X12_brandOf uw_6_220 (rv_o hK hP) rfl hl.1 rfl (Nat.le_of_ble_eq_true rfl) dX12_startAnew_44 ⟨Nat.le_of_ble_eq_true rfl, Nat.le_of_ble_eq_true rfl⟩ ⟨Nat.le_of_ble_eq_true rfl, Nat.le_of_ble_eq_true rfl⟩) (fun r_21580 H locs hQ hS => ?_)
      obtain ⟨hr_21580_0, hP⟩ := hQ
      refine rs_all hx hb hK hP hD hS dX12_startAnew_47 (by omega) (bA_bd bF_21107) (by omega) (fun F_21581 H locs eF_21581 bF_21581 hP hS => ?_)
      have bF_21581 := bA_s4095 bF_21107 eF_21581 (by omega) (by omega)
      refine lv_aload_n hx hb dX12_startAnew_48 rfl (lv_at hl 1 rfl) ?_
      refine rg_o_all hx hb hts hown hK hP uw_7_66 dX12_startAnew_49 ?_
      refine lv_bipush (v := mI 8) hx hb dX12_startAnew_52 (by decide) ?_
      refine lv_iload_n hx hb dX12_startAnew_54 rfl (lv_at hl 0 rfl) ?_
      refine sy_iadd hx hb dX12_startAnew_55 (z_21106 + 8) (by omega) ?_
      refine lv_aload_n hx hb dX12_startAnew_56 rfl (lv_at hl 1 rfl) ?_
      refine lv_iload_n hx hb dX12_startAnew_57 rfl (lv_at hl 0 rfl) ?_
      refine g_i (rDt hD) hS hA (g_V (own := "HideReaderModel") (As := [.int (mI z_21106)]) (rest := [.int (mI (z_21106 + 8)), .ref (a 25)]) hx hb hml hown hts hK hP (rDt hD) (kr_X12_firstHerd (l := l) (D := D) (k := k) (by omega) h_x_bank b_B_herdTold) ck_X12_firstHerd iv_X12_firstHerd uw_6_216 (rv_o hK hP) rfl hl.1 rfl (Nat.le_of_ble_eq_true rfl) dX12_startAnew_58 ⟨Nat.le_of_ble_eq_true rfl, Nat.le_of_ble_eq_true rfl⟩ ⟨Nat.le_of_ble_eq_true rfl, Nat.le_of_ble_eq_true rfl⟩) (fun r_21582 H locs hQ hS => ?_)
      obtain ⟨hr_21582_0, hP⟩ := hQ
      refine rs_all hx hb hK hP hD hS dX12_startAnew_61 (by omega) (bA_bd bF_21581) (by omega) (fun F_21583 H locs eF_21583 bF_21583 hP hS => ?_)
      have bF_21583 := bA_s7 bF_21581 eF_21583 (by omega)
      refine lv_iconst (v := mI 0) hx hb dX12_startAnew_62 rfl ?_
      refine lv_istore_n (lv' := [(2, .int (mI 0)), (1, .int (mI z_21106)), (0, .ref (a 0))]) hx hb dX12_startAnew_63 rfl hl (by decide) rfl (fun ls hl => ?_)
      refine sy_loop (I := fun n H locs g => ∃ (z_21680 : Int) (F_21681 : Nat → Int) (ls : Array Slot), (0 ≤ z_21680 ∧ z_21680 ≤ 12) ∧ (bA F_21681) ∧ (12 - z_21680).toNat = n ∧ va_P D vwCl (rW k a x_taped x_size x_faultKind x_faultPlace x_at x_end x_token x_number x_bank x_rb x_codes x_within x_piled x_unitsInRule x_askBeast x_askStroke x_askAge x_askSeason x_acts x_undone x_laid x_seens x_time x_fitting n_name B_tape B_text B_turns B_herds B_irons B_beasts B_units B_night B_draw B_told B_brands B_ironMarks B_herdTold B_born B_ruleFrom B_ruleTo B_code B_codeNumber B_eWhat B_eSign B_pile F_21681 B_burned B_was B_need B_laidRow B_long8 B_brings B_sBurning B_sStroke B_sIs B_sTold B_sUntold B_parts B_boxAll B_isBoxed G_hName G_iName G_bName ex) H ∧ va_S A s.heap H locs ∧ lv_has ls 3 [(2, .int (mI z_21680)), (1, .int (mI z_21106)), (0, .ref (a 0))] ∧ g = F0 m 64 ls []) ?_ _ ⟨0, F_21583, _, by omega, bF_21583, rfl, hP, hS, lv_sub hl [0, 1, 2] rfl, rfl⟩
      intro n_21694 H locs g hI ih_21695
      obtain ⟨z_21680, F_21681, ls, h64_0, bF_21681, mn_21694, hP, hS, hl, rfl⟩ := hI
      refine lv_iload_n hx hb dX12_startAnew_64 rfl (lv_at hl 0 rfl) ?_
      refine lv_bipush (v := mI 12) hx hb dX12_startAnew_65 (by decide) ?_
      refine sy_icmp_ge (tgt := 120) hx hb dX12_startAnew_67 (by decide) (by omega) (by decide) (fun c_21696 => ?_) (fun c_21696 => ?_)
      · skip
        refine lv_iinc (v := mI (z_21106 + 1)) (lv' := [(1, .int (mI (z_21106 + 1))), (2, .int (mI z_21680)), (0, .ref (a 0))]) hx hb dX12_startAnew_120 hl (k := 1) rfl (mI_ad rfl) (by decide) rfl (fun ls hl => ?_)
        refine lv_goto (tgt := 23) hx hb dX12_startAnew_123 (by decide) ?_
        exact ih_21408 _ _ _ _ (by omega) ⟨(z_21106 + 1), F_21681, _, by omega, bF_21681, rfl, hP, hS, lv_sub hl [0, 2] rfl, rfl⟩
      · skip
        refine lv_aload_n hx hb dX12_startAnew_70 rfl (lv_at hl 2 rfl) ?_
        refine rg_o_all hx hb hts hown hK hP uw_7_66 dX12_startAnew_71 ?_
        refine lv_aload_n hx hb dX12_startAnew_74 rfl (lv_at hl 2 rfl) ?_
        refine lv_iload_n hx hb dX12_startAnew_75 rfl (lv_at hl 1 rfl) ?_
        refine lv_iload_n hx hb dX12_startAnew_76 rfl (lv_at hl 0 rfl) ?_
        refine g_i (rDt hD) hS hA (g_V (own := "HideReaderModel") (As := [.int (mI z_21106), .int (mI z_21680)]) (rest := [.ref (a 25)]) hx hb hml hown hts hK hP (rDt hD) (kr_X12_slot (l := l) (D := D) (k := k) (by omega) (by omega)) ck_X12_slot iv_X12_slot uw_6_224 (rv_o hK hP) rfl hl.1 rfl (Nat.le_of_ble_eq_true rfl) dX12_startAnew_77 ⟨Nat.le_of_ble_eq_true rfl, Nat.le_of_ble_eq_true rfl⟩ ⟨Nat.le_of_ble_eq_true rfl, Nat.le_of_ble_eq_true rfl⟩) (fun r_21697 H locs hQ hS => ?_)
        obtain ⟨hq_r_21697, hP⟩ := hQ
        obtain rfl := hq_r_21697
        refine lv_aload_n hx hb dX12_startAnew_80 rfl (lv_at hl 2 rfl) ?_
        refine rg_o_all hx hb hts hown hK hP uw_7_66 dX12_startAnew_81 ?_
        refine lv_iconst (v := mI 0) hx hb dX12_startAnew_84 rfl ?_
        refine lv_iload_n hx hb dX12_startAnew_85 rfl (lv_at hl 1 rfl) ?_
        refine sy_iadd hx hb dX12_startAnew_86 z_21106 (by omega) ?_
        refine rl_all hx hb hK hP dX12_startAnew_87 (by omega) (bA_bd bF_21681) (fun z_21699 ez_21699 hz_21699 => ?_)
        have hz_21699 := bA_hid bF_21681 (by omega) ez_21699
        refine lv_iload_n hx hb dX12_startAnew_88 rfl (lv_at hl 0 rfl) ?_
        refine g_i (rDt hD) hS hA (g_S (own := "HideReaderModel") (As := [.int (mI z_21699), .int (mI z_21680)]) (rest := [.int (mI (12 * z_21106 + z_21680 + 16)), .ref (a 25)]) hx hb hml hown hts hK hP (rDt hD) (kr_bit (l := l) (D := D) (k := k)) ck_X12_bit uw_6_229 uw_6_228 rfl hl.1 rfl (Nat.le_of_ble_eq_true rfl) dX12_startAnew_89 ⟨Nat.le_of_ble_eq_true rfl, Nat.le_of_ble_eq_true rfl⟩ ⟨Nat.le_of_ble_eq_true rfl, Nat.le_of_ble_eq_true rfl⟩) (fun r_21700 H locs hQ hS => ?_)
        obtain ⟨hq_r_21700, hP⟩ := hQ
        rcases hq_r_21700 with ⟨rfl, c_21701_0⟩ | ⟨rfl, c_21702_0⟩
        · skip
          refine sy_if_eq (tgt := 112) hx hb dX12_startAnew_92 (by decide) (by decide) (fun c9 => absurd c9 (by decide)) (fun c_21703 => ?_)
          refine lv_aload_n hx hb dX12_startAnew_95 rfl (lv_at hl 2 rfl) ?_
          refine rg_o_born hx hb hts hown hK hP uw_7_45 dX12_startAnew_96 ?_
          refine lv_bipush (v := mI 8) hx hb dX12_startAnew_99 (by decide) ?_
          refine lv_aload_n hx hb dX12_startAnew_101 rfl (lv_at hl 2 rfl) ?_
          refine rg_o_bank hx hb hts hown hK hP uw_7_56 dX12_startAnew_102 ?_
          refine sy_imul hx hb dX12_startAnew_105 (8 * x_bank) rfl ?_
          refine lv_iload_n hx hb dX12_startAnew_106 rfl (lv_at hl 1 rfl) ?_
          refine sy_iadd hx hb dX12_startAnew_107 (8 * x_bank + z_21106) rfl ?_
          refine rl_born hx hb hK hP dX12_startAnew_108 (by omega) b_B_born (fun z_21704 _ hz_21704 => ?_)
          refine lv_goto (tgt := 113) hx hb dX12_startAnew_109 (by decide) ?_
          refine rs_all hx hb hK hP hD hS dX12_startAnew_113 (by omega) (bA_bd bF_21681) (by omega) (fun F_21705 H locs eF_21705 bF_21705 hP hS => ?_)
          have bF_21705 := bA_s999 bF_21681 eF_21705 (by omega) (by omega)
          refine lv_iinc (v := mI (z_21680 + 1)) (lv' := [(2, .int (mI (z_21680 + 1))), (1, .int (mI z_21106)), (0, .ref (a 0))]) hx hb dX12_startAnew_114 hl (k := 0) rfl (mI_ad rfl) (by decide) rfl (fun ls hl => ?_)
          refine lv_goto (tgt := 64) hx hb dX12_startAnew_117 (by decide) ?_
          exact ih_21695 _ _ _ _ (by omega) ⟨(z_21680 + 1), F_21705, _, by omega, bF_21705, rfl, hP, hS, lv_sub hl [0, 1, 2] rfl, rfl⟩
        · skip
          refine sy_if_eq (tgt := 112) hx hb dX12_startAnew_92 (by decide) (by decide) (fun c_21706 => ?_) (fun c9 => absurd c9 (by decide))
          refine lv_iconst (v := mI 0) hx hb dX12_startAnew_112 rfl ?_
          refine rs_all hx hb hK hP hD hS dX12_startAnew_113 (by omega) (bA_bd bF_21681) (by omega) (fun F_21707 H locs eF_21707 bF_21707 hP hS => ?_)
          have bF_21707 := bA_s7 bF_21681 eF_21707 (by omega)
          refine lv_iinc (v := mI (z_21680 + 1)) (lv' := [(2, .int (mI (z_21680 + 1))), (1, .int (mI z_21106)), (0, .ref (a 0))]) hx hb dX12_startAnew_114 hl (k := 0) rfl (mI_ad rfl) (by decide) rfl (fun ls hl => ?_)
          refine lv_goto (tgt := 64) hx hb dX12_startAnew_117 (by decide) ?_
          exact ih_21695 _ _ _ _ (by omega) ⟨(z_21680 + 1), F_21707, _, by omega, bF_21707, rfl, hP, hS, lv_sub hl [0, 1, 2] rfl, rfl⟩
  · skip
    refine lv_aload_n hx hb dX12_startAnew_8 rfl (lv_at hl 1 rfl) ?_
    refine rg_o_all hx hb hts hown hK hP uw_7_66 dX12_startAnew_9 ?_
    refine lv_iload_n hx hb dX12_startAnew_12 rfl (lv_at hl 0 rfl) ?_
    refine lv_iconst (v := mI 0) hx hb dX12_startAnew_13 rfl ?_
    refine rs_all hx hb hK hP hD hS dX12_startAnew_14 (by omega) (bA_bd bF_16284) (by omega) (fun F_21708 H locs eF_21708 bF_21708 hP hS => ?_)
    have bF_21708 := bA_s7 bF_16284 eF_21708 (by omega)
    refine lv_iinc (v := mI (z_16283 + 1)) (lv' := [(1, .int (mI (z_16283 + 1))), (0, .ref (a 0))]) hx hb dX12_startAnew_15 hl (k := 0) rfl (mI_ad rfl) (by decide) rfl (fun ls hl => ?_)
    refine lv_goto (tgt := 2) hx hb dX12_startAnew_18 (by decide) ?_
    exact ih_18997 _ _ _ _ (by omega) ⟨(z_16283 + 1), F_21708, _, by omega, bF_21708, rfl, hP, hS, lv_sub hl [0, 1] rfl, rfl⟩
set_option maxHeartbeats 4000000 in
set_option maxRecDepth 100000 in
theorem kr_X12_valley (h_x_taped : 0 ≤ x_taped ∧ x_taped ≤ 1600) (h_x_number : -2147483648 ≤ x_number ∧ x_number ≤ 2147483647) (h_x_bank : 0 ≤ x_bank ∧ x_bank ≤ 1) (h_x_within : 0 ≤ x_within ∧ x_within ≤ 7) (h_x_piled : 0 ≤ x_piled ∧ x_piled ≤ 90) (h_x_unitsInRule : 0 ≤ x_unitsInRule ∧ x_unitsInRule ≤ 30) (h_x_acts : 0 ≤ x_acts ∧ x_acts ≤ 40) (h_x_undone : 0 ≤ x_undone ∧ x_undone ≤ 40) (h_x_laid : 0 ≤ x_laid ∧ x_laid ≤ 8) (h_x_seens : 0 ≤ x_seens ∧ x_seens ≤ 30) (b_B_tape : bd (-128) 127 B_tape) (b_B_text : bd (-128) 127 B_text) (b_B_turns : bd (1) 4 B_turns) (b_B_herds : bd (0) 8 B_herds) (b_B_irons : bd (0) 6 B_irons) (b_B_beasts : bd (0) 8 B_beasts) (b_B_units : bd (0) 60 B_units) (b_B_night : bd (0) 100 B_night) (b_B_draw : bd (0) 999 B_draw) (b_B_told : bd (0) 31 B_told) (b_B_brands : bd (0) 4095 B_brands) (b_B_ironMarks : bd (0) 4095 B_ironMarks) (b_B_herdTold : bd (0) 7 B_herdTold) (b_B_born : bd (0) 99 B_born) (b_B_ruleFrom : bd (0) 1120 B_ruleFrom) (b_B_ruleTo : bd (0) 1120 B_ruleTo) (b_B_code : bd (-2147483648) 2147483647 B_code) (b_B_codeNumber : bd (-2147483648) 2147483647 B_codeNumber) (b_B_eWhat : bd (0) 8 B_eWhat) (b_B_eSign : bd (-2147483648) 2147483647 B_eSign) (b_B_all : bA B_all) (b_B_burned : bd (0) 4095 B_burned) (b_B_isBoxed : bd (0) 1 B_isBoxed) (g_A : 0 ≤ 40 - x_acts - x_undone) : MetG l D k yX12_valley cX12_valley 2 (some .int) 7 [.ref (a 0)] (rW k a x_taped x_size x_faultKind x_faultPlace x_at x_end x_token x_number x_bank x_rb x_codes x_within x_piled x_unitsInRule x_askBeast x_askStroke x_askAge x_askSeason x_acts x_undone x_laid x_seens x_time x_fitting n_name B_tape B_text B_turns B_herds B_irons B_beasts B_units B_night B_draw B_told B_brands B_ironMarks B_herdTold B_born B_ruleFrom B_ruleTo B_code B_codeNumber B_eWhat B_eSign B_pile B_all B_burned B_was B_need B_laidRow B_long8 B_brings B_sBurning B_sStroke B_sIs B_sTold B_sUntold B_parts B_boxAll B_isBoxed G_hName G_iName G_bName ex) (qGi (fun r0 H => ∃ (F_text : Nat → Int) (y_taped : Int) (y_size : Int) (y_faultKind : Int) (y_faultPlace : Int) (y_at : Int) (y_end : Int) (y_token : Int) (y_number : Int) (j_name : Int64) (F_turns : Nat → Int) (F_herds : Nat → Int) (F_irons : Nat → Int) (F_beasts : Nat → Int) (F_units : Nat → Int) (F_night : Nat → Int) (F_draw : Nat → Int) (F_told : Nat → Int) (F_brands : Nat → Int) (F_ironMarks : Nat → Int) (F_herdTold : Nat → Int) (F_born : Nat → Int) (F_ruleFrom : Nat → Int) (F_ruleTo : Nat → Int) (G_hName : Nat → Int64) (G_iName : Nat → Int64) (G_bName : Nat → Int64) (F_code : Nat → Int) (F_codeNumber : Nat → Int) (F_eWhat : Nat → Int) (F_eSign : Nat → Int) (y_bank : Int) (y_rb : Int) (y_codes : Int) (y_within : Int) (y_piled : Int) (y_unitsInRule : Int) (F_all : Nat → Int) (F_burned : Nat → Int) (y_acts : Int) (y_undone : Int) (y_laid : Int) (y_seens : Int) (F_isBoxed : Nat → Int), (-1 ≤ r0 ∧ r0 ≤ 8) ∧ (bd (-128) 127 F_text) ∧ (0 ≤ y_taped ∧ y_taped ≤ 0) ∧ (0 ≤ y_size ∧ y_size ≤ 1600) ∧ (0 ≤ y_faultKind ∧ y_faultKind ≤ 5) ∧ (-1 ≤ y_faultPlace ∧ y_faultPlace ≤ 1600) ∧ (0 ≤ y_at ∧ y_at ≤ 1600) ∧ (0 ≤ y_end ∧ y_end ≤ 1600) ∧ (0 ≤ y_token ∧ y_token ≤ 5) ∧ (-2147483648 ≤ y_number ∧ y_number ≤ 2147483647) ∧ (bd (1) 4 F_turns) ∧ (bd (0) 8 F_herds) ∧ (bd (0) 6 F_irons) ∧ (bd (0) 8 F_beasts) ∧ (bd (0) 60 F_units) ∧ (bd (0) 100 F_night) ∧ (bd (0) 999 F_draw) ∧ (bd (0) 31 F_told) ∧ (bd (0) 4095 F_brands) ∧ (bd (0) 4095 F_ironMarks) ∧ (bd (0) 7 F_herdTold) ∧ (bd (0) 99 F_born) ∧ (bd (0) 1120 F_ruleFrom) ∧ (bd (0) 1120 F_ruleTo) ∧ (bd (-2147483648) 2147483647 F_code) ∧ (bd (-2147483648) 2147483647 F_codeNumber) ∧ (bd (0) 8 F_eWhat) ∧ (bd (-2147483648) 2147483647 F_eSign) ∧ (0 ≤ y_bank ∧ y_bank ≤ 1) ∧ (0 ≤ y_rb ∧ y_rb ≤ 1) ∧ (0 ≤ y_codes ∧ y_codes ≤ 1120) ∧ (0 ≤ y_within ∧ y_within ≤ 7) ∧ (0 ≤ y_piled ∧ y_piled ≤ 90) ∧ (0 ≤ y_unitsInRule ∧ y_unitsInRule ≤ 30) ∧ (bA F_all) ∧ (bd (0) 4095 F_burned) ∧ (0 ≤ y_acts ∧ y_acts ≤ 40) ∧ (0 ≤ y_undone ∧ y_undone ≤ 40) ∧ (0 ≤ y_laid ∧ y_laid ≤ 8) ∧ (0 ≤ y_seens ∧ y_seens ≤ 30) ∧ (bd (0) 1 F_isBoxed) ∧ (0 ≤ -y_taped + x_taped) ∧ (0 ≤ -y_acts + x_acts) ∧ (0 ≤ -y_undone + x_undone) ∧ (0 ≤ -y_laid + x_laid) ∧ (0 ≤ -y_seens + x_seens) ∧ (0 ≤ 40 - y_acts - y_undone) ∧ (y_end ≤ y_size) ∧ (1 ≤ y_faultKind ∨ 0 ≤ 560 * y_rb + 9 * F_units y_rb.toNat - y_codes) ∧ va_P D vwCl (rW k a y_taped y_size y_faultKind y_faultPlace y_at y_end y_token y_number y_bank y_rb y_codes y_within y_piled y_unitsInRule x_askBeast x_askStroke x_askAge x_askSeason y_acts y_undone y_laid y_seens x_time x_fitting j_name B_tape F_text F_turns F_herds F_irons F_beasts F_units F_night F_draw F_told F_brands F_ironMarks F_herdTold F_born F_ruleFrom F_ruleTo F_code F_codeNumber F_eWhat F_eSign B_pile F_all F_burned B_was B_need B_laidRow B_long8 B_brings B_sBurning B_sStroke B_sIs B_sTold B_sUntold B_parts B_boxAll F_isBoxed G_hName G_iName G_bName ex) H)) := by
  refine metG_of 0 ck_X12_valley (Nat.le_of_ble_eq_true rfl) rMap (fun p e s m args below meth c A hx hb hml hr hlocks hown hts hK hD hA hP hS ls hl => ?_)
  have hown : s.vm.findClass "HideReaderModel" = some m.cls := hown
  have hl : lv_has ls 2 [(0, .ref (a 0))] := hl
  refine lv_aload_n hx hb dX12_valley_0 rfl (lv_at hl 0 rfl) ?_
  refine lv_iconst (v := mI 0) hx hb dX12_valley_1 rfl ?_
  refine rp_o_faultKind hx hb hts hown hK hP hD hS uw_7_27 dX12_valley_2 (fun H locs hP hS => ?_)
  refine lv_aload_n hx hb dX12_valley_5 rfl (lv_at hl 0 rfl) ?_
  refine lv_iconst (v := mI (-1)) hx hb dX12_valley_6 rfl ?_
  refine rp_o_faultPlace hx hb hts hown hK hP hD hS uw_7_28 dX12_valley_7 (fun H locs hP hS => ?_)
  refine lv_aload_n hx hb dX12_valley_10 rfl (lv_at hl 0 rfl) ?_
  refine lv_aload_n hx hb dX12_valley_11 rfl (lv_at hl 0 rfl) ?_
  refine rg_o_taped hx hb hts hown hK hP uw_7_25 dX12_valley_12 ?_
  refine rp_o_size hx hb hts hown hK hP hD hS uw_7_26 dX12_valley_15 (fun H locs hP hS => ?_)
  refine lv_iconst (v := mI 0) hx hb dX12_valley_18 rfl ?_
  refine lv_istore_n (lv' := [(1, .int (mI 0)), (0, .ref (a 0))]) hx hb dX12_valley_19 rfl hl (by decide) rfl (fun ls hl => ?_)
  refine sy_loop (I := fun n H locs g => ∃ (z_10863 : Int) (F_10864 : Nat → Int) (ls : Array Slot), (0 ≤ z_10863 ∧ z_10863 ≤ 1600) ∧ (bd (-128) 127 F_10864) ∧ (1600 - z_10863).toNat = n ∧ va_P D vwCl (rW k a x_taped x_taped 0 (-1) x_at x_end x_token x_number x_bank x_rb x_codes x_within x_piled x_unitsInRule x_askBeast x_askStroke x_askAge x_askSeason x_acts x_undone x_laid x_seens x_time x_fitting n_name B_tape F_10864 B_turns B_herds B_irons B_beasts B_units B_night B_draw B_told B_brands B_ironMarks B_herdTold B_born B_ruleFrom B_ruleTo B_code B_codeNumber B_eWhat B_eSign B_pile B_all B_burned B_was B_need B_laidRow B_long8 B_brings B_sBurning B_sStroke B_sIs B_sTold B_sUntold B_parts B_boxAll B_isBoxed G_hName G_iName G_bName ex) H ∧ va_S A s.heap H locs ∧ lv_has ls 2 [(1, .int (mI z_10863)), (0, .ref (a 0))] ∧ g = F0 m 20 ls []) ?_ _ ⟨0, B_text, _, by omega, b_B_text, rfl, hP, hS, lv_sub hl [0, 1] rfl, rfl⟩
  intro n_12415 H locs g hI ih_12416
  obtain ⟨z_10863, F_10864, ls, h20_0, bF_10864, mn_12415, hP, hS, hl, rfl⟩ := hI
  refine lv_iload_n hx hb dX12_valley_20 rfl (lv_at hl 0 rfl) ?_
  refine lv_aload_n hx hb dX12_valley_21 rfl (lv_at hl 1 rfl) ?_
  refine rg_o_size hx hb hts hown hK hP uw_7_26 dX12_valley_22 ?_
  refine sy_icmp_ge (tgt := 46) hx hb dX12_valley_25 (by decide) (by omega) (by omega) (fun c_12420 => ?_) (fun c_12420 => ?_)
  · skip
    refine lv_aload_n hx hb dX12_valley_46 rfl (lv_at hl 1 rfl) ?_
    refine lv_iconst (v := mI 0) hx hb dX12_valley_47 rfl ?_
    refine rp_o_taped hx hb hts hown hK hP hD hS uw_7_25 dX12_valley_48 (fun H locs hP hS => ?_)
    refine lv_aload_n hx hb dX12_valley_51 rfl (lv_at hl 1 rfl) ?_
    refine lv_iconst (v := mI 0) hx hb dX12_valley_52 rfl ?_
    refine rp_o_end hx hb hts hown hK hP hD hS uw_7_30 dX12_valley_53 (fun H locs hP hS => ?_)
    refine lv_aload_n hx hb dX12_valley_56 rfl (lv_at hl 1 rfl) ?_
    refine lv_iconst (v := mI 1) hx hb dX12_valley_57 rfl ?_
    refine lv_aload_n hx hb dX12_valley_58 rfl (lv_at hl 1 rfl) ?_
    refine rg_o_bank hx hb hts hown hK hP uw_7_56 dX12_valley_59 ?_
    refine sy_isub hx hb dX12_valley_62 (-x_bank + 1) (by omega) ?_
    refine rp_o_rb hx hb hts hown hK hP hD hS uw_7_57 dX12_valley_63 (fun H locs hP hS => ?_)
    refine lv_aload_n hx hb dX12_valley_66 rfl (lv_at hl 1 rfl) ?_
    refine g_v (rDt hD) hS hA (g_V (own := "HideReaderModel") (As := []) (rest := []) hx hb hml hown hts hK hP (rDt hD) (kr_X12_clearBank (l := l) (D := D) (k := k) (by omega) b_B_turns b_B_herds b_B_irons b_B_beasts b_B_units b_B_night b_B_draw b_B_told) ck_X12_clearBank iv_X12_clearBank uw_6_204 (rv_o hK hP) rfl hl.1 rfl (Nat.le_of_ble_eq_true rfl) dX12_valley_67 ⟨Nat.le_of_ble_eq_true rfl, Nat.le_of_ble_eq_true rfl⟩ ⟨Nat.le_of_ble_eq_true rfl, Nat.le_of_ble_eq_true rfl⟩) (fun H locs hQ hS => ?_)
    obtain ⟨F_12422, F_12423, F_12424, F_12425, F_12426, F_12427, F_12428, F_12429, y_12430, bF_12422, bF_12423, bF_12424, bF_12425, bF_12426, bF_12427, bF_12428, bF_12429, hr_12421_8, hr_12421_9, hr_12421_10, kr_12421_Z, hP⟩ := hQ
    refine lv_aload_n hx hb dX12_valley_70 rfl (lv_at hl 1 rfl) ?_
    refine g_v (rDt hD) hS hA (g_V (own := "HideReaderModel") (As := []) (rest := []) hx hb hml hown hts hK hP (rDt hD) (kr_X12_goOn (l := l) (D := D) (k := k) (by omega) (by omega) h_x_number bF_10864 (by omega)) ck_X12_goOn iv_X12_goOn uw_7_220 (rv_o hK hP) rfl hl.1 rfl (Nat.le_of_ble_eq_true rfl) dX12_valley_71 ⟨Nat.le_of_ble_eq_true rfl, Nat.le_of_ble_eq_true rfl⟩ ⟨Nat.le_of_ble_eq_true rfl, Nat.le_of_ble_eq_true rfl⟩) (fun H locs hQ hS => ?_)
    obtain ⟨y_12432, y_12433, y_12434, y_12435, j_12436, hr_12431_0, hr_12431_1, hr_12431_2, hr_12431_3, hr_12431_4, hr_12431_5, kr_12431_E, hP⟩ := hQ
    refine sy_loop (I := fun n H locs g => ∃ (y_13677 : Int) (y_13678 : Int) (y_13679 : Int) (y_13680 : Int) (y_13681 : Int) (y_13682 : Int) (j_13683 : Int64) (F_13684 : Nat → Int) (F_13685 : Nat → Int) (F_13686 : Nat → Int) (F_13687 : Nat → Int) (F_13688 : Nat → Int) (F_13689 : Nat → Int) (F_13690 : Nat → Int) (F_13691 : Nat → Int) (F_13692 : Nat → Int) (F_13693 : Nat → Int) (F_13694 : Nat → Int) (F_13695 : Nat → Int) (F_13696 : Nat → Int) (F_13697 : Nat → Int) (G_13698 : Nat → Int64) (G_13699 : Nat → Int64) (G_13700 : Nat → Int64) (F_13701 : Nat → Int) (F_13702 : Nat → Int) (F_13703 : Nat → Int) (F_13704 : Nat → Int) (y_13705 : Int) (y_13706 : Int) (y_13707 : Int) (y_13708 : Int) (ls : Array Slot), (0 ≤ y_13677 ∧ y_13677 ≤ 5) ∧ (-1 ≤ y_13678 ∧ y_13678 ≤ 1600) ∧ (0 ≤ y_13679 ∧ y_13679 ≤ 1600) ∧ (0 ≤ y_13680 ∧ y_13680 ≤ 1600) ∧ (0 ≤ y_13681 ∧ y_13681 ≤ 5) ∧ (-2147483648 ≤ y_13682 ∧ y_13682 ≤ 2147483647) ∧ (bd (1) 4 F_13684) ∧ (bd (0) 8 F_13685) ∧ (bd (0) 6 F_13686) ∧ (bd (0) 8 F_13687) ∧ (bd (0) 60 F_13688) ∧ (bd (0) 100 F_13689) ∧ (bd (0) 999 F_13690) ∧ (bd (0) 31 F_13691) ∧ (bd (0) 4095 F_13692) ∧ (bd (0) 4095 F_13693) ∧ (bd (0) 7 F_13694) ∧ (bd (0) 99 F_13695) ∧ (bd (0) 1120 F_13696) ∧ (bd (0) 1120 F_13697) ∧ (bd (-2147483648) 2147483647 F_13701) ∧ (bd (-2147483648) 2147483647 F_13702) ∧ (bd (0) 8 F_13703) ∧ (bd (-2147483648) 2147483647 F_13704) ∧ (0 ≤ y_13705 ∧ y_13705 ≤ 1120) ∧ (0 ≤ y_13706 ∧ y_13706 ≤ 7) ∧ (0 ≤ y_13707 ∧ y_13707 ≤ 90) ∧ (0 ≤ y_13708 ∧ y_13708 ≤ 30) ∧ (y_13680 ≤ x_taped) ∧ (1 ≤ y_13677 ∨ 0 ≤ 560 * (-x_bank + 1) + 9 * F_13688 (-x_bank + 1).toNat - y_13705) ∧ (0 ≤ y_13705 - y_12430) ∧ (0 ≤ y_13680 - y_12433) ∧ (6 * (1600 - y_13680) + 5 - y_13677).toNat = n ∧ va_P D vwCl (rW k a 0 x_taped y_13677 y_13678 y_13679 y_13680 y_13681 y_13682 x_bank (-x_bank + 1) y_13705 y_13706 y_13707 y_13708 x_askBeast x_askStroke x_askAge x_askSeason x_acts x_undone x_laid x_seens x_time x_fitting j_13683 B_tape F_10864 F_13684 F_13685 F_13686 F_13687 F_13688 F_13689 F_13690 F_13691 F_13692 F_13693 F_13694 F_13695 F_13696 F_13697 F_13701 F_13702 F_13703 F_13704 B_pile B_all B_burned B_was B_need B_laidRow B_long8 B_brings B_sBurning B_sStroke B_sIs B_sTold B_sUntold B_parts B_boxAll B_isBoxed G_13698 G_13699 G_13700 ex) H ∧ va_S A s.heap H locs ∧ lv_has ls 2 [(1, .int (mI z_10863)), (0, .ref (a 0))] ∧ g = F0 m 74 ls []) ?_ _ ⟨0, (-1), y_12432, y_12433, y_12434, y_12435, j_12436, F_12422, F_12423, F_12424, F_12425, F_12426, F_12427, F_12428, F_12429, B_brands, B_ironMarks, B_herdTold, B_born, B_ruleFrom, B_ruleTo, G_hName, G_iName, G_bName, B_code, B_codeNumber, B_eWhat, B_eSign, y_12430, x_within, x_piled, x_unitsInRule, _, by omega, by omega, by omega, by omega, by omega, by omega, bF_12422, bF_12423, bF_12424, bF_12425, bF_12426, bF_12427, bF_12428, bF_12429, b_B_brands, b_B_ironMarks, b_B_herdTold, b_B_born, b_B_ruleFrom, b_B_ruleTo, b_B_code, b_B_codeNumber, b_B_eWhat, b_B_eSign, by omega, by omega, by omega, by omega, kr_12431_E, kr_12421_Z, by omega, by omega, rfl, hP, hS, lv_sub hl [0, 1] rfl, rfl⟩
    intro n_13837 H locs g hI ih_13838
    obtain ⟨y_13677, y_13678, y_13679, y_13680, y_13681, y_13682, j_13683, F_13684, F_13685, F_13686, F_13687, F_13688, F_13689, F_13690, F_13691, F_13692, F_13693, F_13694, F_13695, F_13696, F_13697, G_13698, G_13699, G_13700, F_13701, F_13702, F_13703, F_13704, y_13705, y_13706, y_13707, y_13708, ls, h74_0, h74_1, h74_2, h74_3, h74_4, h74_5, bF_13684, bF_13685, bF_13686, bF_13687, bF_13688, bF_13689, bF_13690, bF_13691, bF_13692, bF_13693, bF_13694, bF_13695, bF_13696, bF_13697, bF_13701, bF_13702, bF_13703, bF_13704, h74_24, h74_25, h74_26, h74_27, g_13709, g_13710, h74_30, h74_31, mn_13837, hP, hS, hl, rfl⟩ := hI
    refine lv_aload_n hx hb dX12_valley_74 rfl (lv_at hl 1 rfl) ?_
    refine g_i (rDt hD) hS hA (g_V (own := "HideReaderModel") (As := []) (rest := []) hx hb hml hown hts hK hP (rDt hD) (kr_X12_isGood (l := l) (D := D) (k := k) (by omega)) ck_X12_isGood iv_X12_isGood uw_8_18 (rv_o hK hP) rfl hl.1 rfl (Nat.le_of_ble_eq_true rfl) dX12_valley_75 ⟨Nat.le_of_ble_eq_true rfl, Nat.le_of_ble_eq_true rfl⟩ ⟨Nat.le_of_ble_eq_true rfl, Nat.le_of_ble_eq_true rfl⟩) (fun r_13839 H locs hQ hS => ?_)
    obtain ⟨hq_r_13839, hP⟩ := hQ
    rcases hq_r_13839 with ⟨rfl, c_13840_0, c_13840_1⟩ | ⟨rfl, c_13841_0⟩
    · skip
      refine sy_if_eq (tgt := 95) hx hb dX12_valley_78 (by decide) (by decide) (fun c_13843 => ?_) (fun c9 => absurd c9 (by decide))
      refine lv_aload_n hx hb dX12_valley_95 rfl (lv_at hl 1 rfl) ?_
      refine g_i (rDt hD) hS hA (g_V (own := "HideReaderModel") (As := []) (rest := []) hx hb hml hown hts hK hP (rDt hD) (kr_X12_isGood (l := l) (D := D) (k := k) (by omega)) ck_X12_isGood iv_X12_isGood uw_8_18 (rv_o hK hP) rfl hl.1 rfl (Nat.le_of_ble_eq_true rfl) dX12_valley_96 ⟨Nat.le_of_ble_eq_true rfl, Nat.le_of_ble_eq_true rfl⟩ ⟨Nat.le_of_ble_eq_true rfl, Nat.le_of_ble_eq_true rfl⟩) (fun r_13844 H locs hQ hS => ?_)
      obtain ⟨hq_r_13844, hP⟩ := hQ
      rcases hq_r_13844 with ⟨rfl, c_13845_0, c_13845_1⟩ | ⟨rfl, c_13846_0⟩
      · skip
        refine sy_if_ne (tgt := 104) hx hb dX12_valley_99 (by decide) (by decide) (fun c9 => absurd c9 (by decide)) (fun c_13847 => ?_)
        refine lv_iconst (v := mI (-1)) hx hb dX12_valley_102 rfl ?_
        exact r_i hx hb hr hlocks dX12_valley_103 hS ⟨F_10864, 0, x_taped, y_13677, y_13678, y_13679, y_13680, y_13681, y_13682, j_13683, F_13684, F_13685, F_13686, F_13687, F_13688, F_13689, F_13690, F_13691, F_13692, F_13693, F_13694, F_13695, F_13696, F_13697, G_13698, G_13699, G_13700, F_13701, F_13702, F_13703, F_13704, x_bank, (-x_bank + 1), y_13705, y_13706, y_13707, y_13708, B_all, B_burned, x_acts, x_undone, x_laid, x_seens, B_isBoxed, by omega, bF_10864, by omega, by omega, by omega, by omega, by omega, by omega, by omega, by omega, bF_13684, bF_13685, bF_13686, bF_13687, bF_13688, bF_13689, bF_13690, bF_13691, bF_13692, bF_13693, bF_13694, bF_13695, bF_13696, bF_13697, bF_13701, bF_13702, bF_13703, bF_13704, by omega, by omega, by omega, by omega, by omega, by omega, b_B_all, b_B_burned, by omega, by omega, by omega, by omega, b_B_isBoxed, by omega, by omega, by omega, by omega, by omega, g_A, g_13709, g_13710, hP⟩
      exact False.elim (by omega)
    · skip
      refine sy_if_eq (tgt := 95) hx hb dX12_valley_78 (by decide) (by decide) (fun c9 => absurd c9 (by decide)) (fun c_13883 => ?_)
      refine lv_aload_n hx hb dX12_valley_81 rfl (lv_at hl 1 rfl) ?_
      refine rg_o_token hx hb hts hown hK hP uw_7_31 dX12_valley_82 ?_
      refine sy_if_eq (tgt := 95) hx hb dX12_valley_85 (by decide) (by omega) (fun c_13918 => ?_) (fun c_13918 => ?_)
      · skip
        refine lv_aload_n hx hb dX12_valley_95 rfl (lv_at hl 1 rfl) ?_
        refine g_i (rDt hD) hS hA (g_V (own := "HideReaderModel") (As := []) (rest := []) hx hb hml hown hts hK hP (rDt hD) (kr_X12_isGood (l := l) (D := D) (k := k) (by omega)) ck_X12_isGood iv_X12_isGood uw_8_18 (rv_o hK hP) rfl hl.1 rfl (Nat.le_of_ble_eq_true rfl) dX12_valley_96 ⟨Nat.le_of_ble_eq_true rfl, Nat.le_of_ble_eq_true rfl⟩ ⟨Nat.le_of_ble_eq_true rfl, Nat.le_of_ble_eq_true rfl⟩) (fun r_13919 H locs hQ hS => ?_)
        obtain ⟨hq_r_13919, hP⟩ := hQ
        rcases hq_r_13919 with ⟨rfl, c_13920_0, c_13920_1⟩ | ⟨rfl, c_13921_0⟩
        exact False.elim (by omega)
        · skip
          refine sy_if_ne (tgt := 104) hx hb dX12_valley_99 (by decide) (by decide) (fun c_13922 => ?_) (fun c9 => absurd c9 (by decide))
          refine lv_aload_n hx hb dX12_valley_104 rfl (lv_at hl 1 rfl) ?_
          refine lv_aload_n hx hb dX12_valley_105 rfl (lv_at hl 1 rfl) ?_
          refine rg_o_rb hx hb hts hown hK hP uw_7_57 dX12_valley_106 ?_
          refine rp_o_bank hx hb hts hown hK hP hD hS uw_7_56 dX12_valley_109 (fun H locs hP hS => ?_)
          refine lv_aload_n hx hb dX12_valley_112 rfl (lv_at hl 1 rfl) ?_
          refine g_v (rDt hD) hS hA (g_V (own := "HideReaderModel") (As := []) (rest := []) hx hb hml hown hts hK hP (rDt hD) (kr_X12_startAnew (l := l) (D := D) (k := k) (by omega) h_x_acts h_x_undone h_x_laid h_x_seens bF_13684 bF_13686 bF_13687 bF_13690 bF_13691 bF_13692 bF_13693 bF_13694 bF_13695 b_B_all b_B_burned b_B_isBoxed) ck_X12_startAnew iv_X12_startAnew uw_6_208 (rv_o hK hP) rfl hl.1 rfl (Nat.le_of_ble_eq_true rfl) dX12_valley_113 ⟨Nat.le_of_ble_eq_true rfl, Nat.le_of_ble_eq_true rfl⟩ ⟨Nat.le_of_ble_eq_true rfl, Nat.le_of_ble_eq_true rfl⟩) (fun H locs hQ hS => ?_)
          obtain ⟨F_13924, F_13925, y_13926, y_13927, y_13928, y_13929, F_13930, bF_13924, bF_13925, hr_13923_2, hr_13923_3, hr_13923_4, hr_13923_5, bF_13930, hr_13923_7, hr_13923_8, hr_13923_9, hr_13923_10, kr_13923_A, hP⟩ := hQ
          refine lv_aload_n hx hb dX12_valley_116 rfl (lv_at hl 1 rfl) ?_
          refine rg_o_herds hx hb hts hown hK hP uw_7_35 dX12_valley_117 ?_
          refine lv_aload_n hx hb dX12_valley_120 rfl (lv_at hl 1 rfl) ?_
          refine rg_o_bank hx hb hts hown hK hP uw_7_56 dX12_valley_121 ?_
          refine rl_herds hx hb hK hP dX12_valley_124 (by omega) bF_13685 (fun z_13931 ez_13931 hz_13931 => ?_)
          exact r_i hx hb hr hlocks dX12_valley_125 hS ⟨F_10864, 0, x_taped, y_13677, y_13678, y_13679, y_13680, y_13681, y_13682, j_13683, F_13684, F_13685, F_13686, F_13687, F_13688, F_13689, F_13690, F_13691, F_13692, F_13693, F_13694, F_13695, F_13696, F_13697, G_13698, G_13699, G_13700, F_13701, F_13702, F_13703, F_13704, (-x_bank + 1), (-x_bank + 1), y_13705, y_13706, y_13707, y_13708, F_13924, F_13925, y_13926, y_13927, y_13928, y_13929, F_13930, by omega, bF_10864, by omega, by omega, by omega, by omega, by omega, by omega, by omega, by omega, bF_13684, bF_13685, bF_13686, bF_13687, bF_13688, bF_13689, bF_13690, bF_13691, bF_13692, bF_13693, bF_13694, bF_13695, bF_13696, bF_13697, bF_13701, bF_13702, bF_13703, bF_13704, by omega, by omega, by omega, by omega, by omega, by omega, bF_13924, bF_13925, by omega, by omega, by omega, by omega, bF_13930, by omega, by omega, by omega, by omega, by omega, kr_13923_A, g_13709, g_13710, hP⟩
      · skip
        refine lv_aload_n hx hb dX12_valley_88 rfl (lv_at hl 1 rfl) ?_
        refine g_v (rDt hD) hS hA (g_V (own := "HideReaderModel") (As := []) (rest := []) hx hb hml hown hts hK hP (rDt hD) (kr_X12_readLine (l := l) (D := D) (k := k) (by omega) (by omega) (by omega) (by omega) (by omega) (by omega) (by omega) (by omega) (by omega) (by omega) (by omega) (by omega) bF_10864 bF_13684 bF_13685 bF_13686 bF_13687 bF_13688 bF_13689 bF_13690 bF_13691 bF_13692 bF_13693 bF_13694 bF_13695 bF_13696 bF_13697 bF_13701 bF_13702 bF_13703 bF_13704 g_13709 g_13710) ck_X12_readLine iv_X12_readLine uw_8_22 (rv_o hK hP) rfl hl.1 rfl (Nat.le_of_ble_eq_true rfl) dX12_valley_89 ⟨Nat.le_of_ble_eq_true rfl, Nat.le_of_ble_eq_true rfl⟩ ⟨Nat.le_of_ble_eq_true rfl, Nat.le_of_ble_eq_true rfl⟩) (fun H locs hQ hS => ?_)
        obtain ⟨y_13933, y_13934, y_13935, y_13936, y_13937, y_13938, j_13939, F_13940, F_13941, F_13942, F_13943, F_13944, F_13945, F_13946, F_13947, F_13948, F_13949, F_13950, F_13951, F_13952, F_13953, G_13954, G_13955, G_13956, F_13957, F_13958, F_13959, F_13960, y_13961, y_13962, y_13963, y_13964, hr_13932_0, hr_13932_1, hr_13932_2, hr_13932_3, hr_13932_4, hr_13932_5, bF_13940, bF_13941, bF_13942, bF_13943, bF_13944, bF_13945, bF_13946, bF_13947, bF_13948, bF_13949, bF_13950, bF_13951, bF_13952, bF_13953, bF_13957, bF_13958, bF_13959, bF_13960, hr_13932_24, hr_13932_25, hr_13932_26, hr_13932_27, hr_13932_28, hr_13932_29, hr_13932_30, hr_13932_31, kr_13932_E, kr_13932_Z, hP⟩ := hQ
        refine lv_goto (tgt := 74) hx hb dX12_valley_92 (by decide) ?_
        exact ih_13838 _ _ _ _ (by omega) ⟨y_13933, y_13934, y_13935, y_13936, y_13937, y_13938, j_13939, F_13940, F_13941, F_13942, F_13943, F_13944, F_13945, F_13946, F_13947, F_13948, F_13949, F_13950, F_13951, F_13952, F_13953, G_13954, G_13955, G_13956, F_13957, F_13958, F_13959, F_13960, y_13961, y_13962, y_13963, y_13964, _, by omega, by omega, by omega, by omega, by omega, by omega, bF_13940, bF_13941, bF_13942, bF_13943, bF_13944, bF_13945, bF_13946, bF_13947, bF_13948, bF_13949, bF_13950, bF_13951, bF_13952, bF_13953, bF_13957, bF_13958, bF_13959, bF_13960, by omega, by omega, by omega, by omega, kr_13932_E, kr_13932_Z, by omega, by omega, rfl, hP, hS, lv_sub hl [0, 1] rfl, rfl⟩
  · skip
    refine lv_aload_n hx hb dX12_valley_28 rfl (lv_at hl 1 rfl) ?_
    refine rg_o_text hx hb hts hown hK hP uw_7_24 dX12_valley_29 ?_
    refine lv_iload_n hx hb dX12_valley_32 rfl (lv_at hl 0 rfl) ?_
    refine lv_aload_n hx hb dX12_valley_33 rfl (lv_at hl 1 rfl) ?_
    refine rg_o_tape hx hb hts hown hK hP uw_7_23 dX12_valley_34 ?_
    refine lv_iload_n hx hb dX12_valley_37 rfl (lv_at hl 0 rfl) ?_
    refine rl_tape hx hb hK hP dX12_valley_38 (by omega) b_B_tape (fun z_13965 _ hz_13965 => ?_)
    refine rs_text hx hb hK hP hD hS (by decide) dX12_valley_39 (by omega) bF_10864 (by omega) (fun F_13966 H locs _ bF_13966 hP hS => ?_)
    refine lv_iinc (v := mI (z_10863 + 1)) (lv' := [(1, .int (mI (z_10863 + 1))), (0, .ref (a 0))]) hx hb dX12_valley_40 hl (k := 0) rfl (mI_ad rfl) (by decide) rfl (fun ls hl => ?_)
    refine lv_goto (tgt := 20) hx hb dX12_valley_43 (by decide) ?_
    exact ih_12416 _ _ _ _ (by omega) ⟨(z_10863 + 1), F_13966, _, by omega, bF_13966, rfl, hP, hS, lv_sub hl [0, 1] rfl, rfl⟩
end Kr
