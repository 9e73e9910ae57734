section Kr
variable {l : Launch} {D : va_G} {k : Nat → ClassId} {a : Nat → Nat} {ex : va_W} {x_taped x_size x_faultKind x_faultPlace x_at x_end x_token x_number x_bank x_rb x_codes x_within x_piled x_unitsInRule x_askBeast x_askStroke x_askAge x_askSeason x_acts x_undone x_laid x_seens x_time x_fitting : Int} {n_name : Int64} {B_tape B_text B_turns B_herds B_irons B_beasts B_units B_night B_draw B_told B_brands B_ironMarks B_herdTold B_born B_ruleFrom B_ruleTo B_code B_codeNumber B_eWhat B_eSign B_pile B_all B_burned B_was B_need B_laidRow B_long8 B_brings B_sBurning B_sStroke B_sIs B_sTold B_sUntold B_parts B_boxAll B_isBoxed : Nat → Int} {G_hName G_iName G_bName : Nat → Int64}
set_option maxHeartbeats 4000000 in
set_option maxRecDepth 100000 in
theorem kr_X12_isCompared (h_x_piled : 1 ≤ x_piled ∧ x_piled ≤ 90) (b_B_eWhat : bd (0) 8 B_eWhat) (h08 : B_eWhat 0 = 8) : MetG l D k yX12_isCompared cX12_isCompared 2 (some .boolean) 0 [.ref (a 0)] (rW k a x_taped x_size x_faultKind x_faultPlace x_at x_end x_token x_number x_bank x_rb x_codes x_within x_piled x_unitsInRule x_askBeast x_askStroke x_askAge x_askSeason x_acts x_undone x_laid x_seens x_time x_fitting n_name B_tape B_text B_turns B_herds B_irons B_beasts B_units B_night B_draw B_told B_brands B_ironMarks B_herdTold B_born B_ruleFrom B_ruleTo B_code B_codeNumber B_eWhat B_eSign B_pile B_all B_burned B_was B_need B_laidRow B_long8 B_brings B_sBurning B_sStroke B_sIs B_sTold B_sUntold B_parts B_boxAll B_isBoxed G_hName G_iName G_bName ex) (qGi (fun r0 H => (0 ≤ r0 ∧ r0 ≤ 1) ∧ va_P D vwCl (rW k a x_taped x_size x_faultKind x_faultPlace x_at x_end x_token x_number x_bank x_rb x_codes x_within x_piled x_unitsInRule x_askBeast x_askStroke x_askAge x_askSeason x_acts x_undone x_laid x_seens x_time x_fitting n_name B_tape B_text B_turns B_herds B_irons B_beasts B_units B_night B_draw B_told B_brands B_ironMarks B_herdTold B_born B_ruleFrom B_ruleTo B_code B_codeNumber B_eWhat B_eSign B_pile B_all B_burned B_was B_need B_laidRow B_long8 B_brings B_sBurning B_sStroke B_sIs B_sTold B_sUntold B_parts B_boxAll B_isBoxed G_hName G_iName G_bName ex) H)) := by
  refine metG_of 0 ck_X12_isCompared (Nat.le_of_ble_eq_true rfl) rMap (fun p e s m args below meth c A hx hb hml hr hlocks hown hts hK hD hA hP hS ls hl => ?_)
  have hown : s.vm.findClass "HideReaderModel" = some m.cls := hown
  have hl : lv_has ls 2 [(0, .ref (a 0))] := hl
  refine lv_aload_n hx hb dX12_isCompared_0 rfl (lv_at hl 0 rfl) ?_
  refine rg_o_piled hx hb hts hown hK hP uw_7_60 dX12_isCompared_1 ?_
  refine lv_iconst (v := mI 1) hx hb dX12_isCompared_4 rfl ?_
  refine sy_isub hx hb dX12_isCompared_5 (x_piled - 1) rfl ?_
  refine lv_istore_n (lv' := [(1, .int (mI (x_piled - 1))), (0, .ref (a 0))]) hx hb dX12_isCompared_6 rfl hl (by decide) rfl (fun ls hl => ?_)
  refine sy_loop (I := fun n H locs g => ∃ (z_84 : Int) (ls : Array Slot), (0 ≤ z_84 ∧ z_84 ≤ 89) ∧ (0 ≤ x_piled - z_84 - 1) ∧ (z_84 - (0)).toNat = n ∧ va_P D vwCl (rW k a x_taped x_size x_faultKind x_faultPlace x_at x_end x_token x_number x_bank x_rb x_codes x_within x_piled x_unitsInRule x_askBeast x_askStroke x_askAge x_askSeason x_acts x_undone x_laid x_seens x_time x_fitting n_name B_tape B_text B_turns B_herds B_irons B_beasts B_units B_night B_draw B_told B_brands B_ironMarks B_herdTold B_born B_ruleFrom B_ruleTo B_code B_codeNumber B_eWhat B_eSign B_pile B_all B_burned B_was B_need B_laidRow B_long8 B_brings B_sBurning B_sStroke B_sIs B_sTold B_sUntold B_parts B_boxAll B_isBoxed G_hName G_iName G_bName ex) H ∧ va_S A s.heap H locs ∧ lv_has ls 2 [(1, .int (mI z_84)), (0, .ref (a 0))] ∧ g = F0 m 7 ls []) ?_ _ ⟨(x_piled - 1), _, by omega, by omega, rfl, hP, hS, lv_sub hl [0, 1] rfl, rfl⟩
  intro n_96 H locs g hI ih_97
  obtain ⟨z_84, ls, h7_0, h7_1, mn_96, hP, hS, hl, rfl⟩ := hI
  refine lv_aload_n hx hb dX12_isCompared_7 rfl (lv_at hl 1 rfl) ?_
  refine rg_o_eWhat hx hb hts hown hK hP uw_7_53 dX12_isCompared_8 ?_
  refine lv_iload_n hx hb dX12_isCompared_11 rfl (lv_at hl 0 rfl) ?_
  refine rl_eWhat hx hb hK hP dX12_isCompared_12 (by omega) b_B_eWhat (fun z_98 ez_98 hz_98 => ?_)
  have h_99 := el_c (k := z_84) h08 ez_98
  refine lv_iconst (v := mI 5) hx hb dX12_isCompared_13 rfl ?_
  refine sy_icmp_eq (tgt := 28) hx hb dX12_isCompared_14 (by decide) (by omega) (by decide) (fun c_101 => ?_) (fun c_101 => ?_)
  · skip
    refine lv_iinc (v := mI (z_84 - 1)) (lv' := [(1, .int (mI (z_84 - 1))), (0, .ref (a 0))]) hx hb dX12_isCompared_28 hl (k := 0) rfl (mI_ad (by omega)) (by decide) rfl (fun ls hl => ?_)
    refine lv_goto (tgt := 7) hx hb dX12_isCompared_31 (by decide) ?_
    exact ih_97 _ _ _ _ (by omega) ⟨(z_84 - 1), _, by omega, by omega, rfl, hP, hS, lv_sub hl [0, 1] rfl, rfl⟩
  · skip
    refine lv_aload_n hx hb dX12_isCompared_17 rfl (lv_at hl 1 rfl) ?_
    refine rg_o_eWhat hx hb hts hown hK hP uw_7_53 dX12_isCompared_18 ?_
    refine lv_iload_n hx hb dX12_isCompared_21 rfl (lv_at hl 0 rfl) ?_
    refine rl_eWhat hx hb hK hP dX12_isCompared_22 (by omega) b_B_eWhat (fun z_102 ez_102 hz_102 => ?_)
    have h_103 := el_c (k := z_84) h08 ez_102
    refine lv_bipush (v := mI 6) hx hb dX12_isCompared_23 (by decide) ?_
    refine sy_icmp_ne (tgt := 34) hx hb dX12_isCompared_25 (by decide) (by omega) (by decide) (fun c_105 => ?_) (fun c_105 => ?_)
    · skip
      refine lv_aload_n hx hb dX12_isCompared_34 rfl (lv_at hl 1 rfl) ?_
      refine rg_o_eWhat hx hb hts hown hK hP uw_7_53 dX12_isCompared_35 ?_
      refine lv_iload_n hx hb dX12_isCompared_38 rfl (lv_at hl 0 rfl) ?_
      refine rl_eWhat hx hb hK hP dX12_isCompared_39 (by omega) b_B_eWhat (fun z_106 ez_106 hz_106 => ?_)
      have h_107 := el_c (k := z_84) h08 ez_106
      refine lv_iconst (v := mI 4) hx hb dX12_isCompared_40 rfl ?_
      refine sy_icmp_ne (tgt := 48) hx hb dX12_isCompared_41 (by decide) (by omega) (by decide) (fun c_108 => ?_) (fun c_108 => ?_)
      · skip
        refine lv_iconst (v := mI 0) hx hb dX12_isCompared_48 rfl ?_
        exact r_z hx hb hr hlocks dX12_isCompared_49 hS (by decide) ⟨by omega, hP⟩
      · skip
        refine lv_iconst (v := mI 1) hx hb dX12_isCompared_44 rfl ?_
        refine lv_goto (tgt := 49) hx hb dX12_isCompared_45 (by decide) ?_
        exact r_z hx hb hr hlocks dX12_isCompared_49 hS (by decide) ⟨by omega, hP⟩
    · skip
      refine lv_iinc (v := mI (z_84 - 1)) (lv' := [(1, .int (mI (z_84 - 1))), (0, .ref (a 0))]) hx hb dX12_isCompared_28 hl (k := 0) rfl (mI_ad (by omega)) (by decide) rfl (fun ls hl => ?_)
      refine lv_goto (tgt := 7) hx hb dX12_isCompared_31 (by decide) ?_
      exact ih_97 _ _ _ _ (by omega) ⟨(z_84 - 1), _, by omega, by omega, rfl, hP, hS, lv_sub hl [0, 1] rfl, rfl⟩
set_option maxHeartbeats 4000000 in
set_option maxRecDepth 100000 in
theorem kr_X12_behindUnit (h_x_size : 0 ≤ x_size ∧ x_size ≤ 1600) (h_x_faultKind : 0 ≤ x_faultKind ∧ x_faultKind ≤ 0) (h_x_faultPlace : -1 ≤ x_faultPlace ∧ x_faultPlace ≤ 1600) (h_x_at : 0 ≤ x_at ∧ x_at ≤ 1600) (h_x_end : 0 ≤ x_end ∧ x_end ≤ 1600) (h_x_token : 0 ≤ x_token ∧ x_token ≤ 5) (h_x_number : -2147483648 ≤ x_number ∧ x_number ≤ 2147483647) (h_x_bank : 0 ≤ x_bank ∧ x_bank ≤ 1) (h_x_rb : 0 ≤ x_rb ∧ x_rb ≤ 1) (h_x_codes : 0 ≤ x_codes ∧ x_codes ≤ 1119) (h_x_within : 0 ≤ x_within ∧ x_within ≤ 7) (h_x_piled : 1 ≤ x_piled ∧ x_piled ≤ 60) (h_x_unitsInRule : 0 ≤ x_unitsInRule ∧ x_unitsInRule ≤ 30) (b_B_text : bd (-128) 127 B_text) (b_B_units : bd (0) 60 B_units) (b_B_code : bd (-2147483648) 2147483647 B_code) (b_B_codeNumber : bd (-2147483648) 2147483647 B_codeNumber) (b_B_eWhat : bd (0) 8 B_eWhat) (b_B_eSign : bd (-2147483648) 2147483647 B_eSign) (g_E : x_end ≤ x_size) (g_L : x_rb + x_bank = 1) (g_Q : rQ x_bank B_told B_ruleFrom B_ruleTo B_code) {c0 : Int} (gW : eI 0 c0 x_codes x_piled x_within x_unitsInRule B_code B_eWhat B_eSign) (hY : (0 ≤ 560 * x_rb + 9 * B_units x_rb.toNat - 9 * x_unitsInRule - c0 ∧ 560 * x_rb ≤ c0)) : MetG l D k yX12_behindUnit cX12_behindUnit 2 (some .boolean) 3 [.ref (a 0)] (rW k a x_taped x_size x_faultKind x_faultPlace x_at x_end x_token x_number x_bank x_rb x_codes x_within x_piled x_unitsInRule x_askBeast x_askStroke x_askAge x_askSeason x_acts x_undone x_laid x_seens x_time x_fitting n_name B_tape B_text B_turns B_herds B_irons B_beasts B_units B_night B_draw B_told B_brands B_ironMarks B_herdTold B_born B_ruleFrom B_ruleTo B_code B_codeNumber B_eWhat B_eSign B_pile B_all B_burned B_was B_need B_laidRow B_long8 B_brings B_sBurning B_sStroke B_sIs B_sTold B_sUntold B_parts B_boxAll B_isBoxed G_hName G_iName G_bName ex) (qGi (fun r0 H => ∃ (y_faultKind : Int) (y_faultPlace : Int) (y_at : Int) (y_end : Int) (y_token : Int) (y_number : Int) (j_name : Int64) (F_code : Nat → Int) (F_codeNumber : Nat → Int) (F_eWhat : Nat → Int) (F_eSign : Nat → Int) (y_codes : Int) (y_within : Int) (y_piled : Int), (0 ≤ r0 ∧ r0 ≤ 1) ∧ (0 ≤ y_faultKind ∧ y_faultKind ≤ 5) ∧ (-1 ≤ y_faultPlace ∧ y_faultPlace ≤ 1600) ∧ (0 ≤ y_at ∧ y_at ≤ 1600) ∧ (0 ≤ y_end ∧ y_end ≤ 1600) ∧ (0 ≤ y_token ∧ y_token ≤ 5) ∧ (-2147483648 ≤ y_number ∧ y_number ≤ 2147483647) ∧ (bd (-2147483648) 2147483647 F_code) ∧ (bd (-2147483648) 2147483647 F_codeNumber) ∧ (bd (0) 8 F_eWhat) ∧ (bd (-2147483648) 2147483647 F_eSign) ∧ (0 ≤ y_codes ∧ y_codes ≤ 1120) ∧ (0 ≤ y_within ∧ y_within ≤ 7) ∧ (0 ≤ y_piled ∧ y_piled ≤ 61) ∧ (0 ≤ y_faultKind - x_faultKind) ∧ (0 ≤ y_end - x_end) ∧ (0 ≤ y_codes - x_codes) ∧ (0 ≤ -y_within + x_within) ∧ (eSt y_faultKind r0 c0 y_codes y_piled y_within x_unitsInRule F_code F_eWhat F_eSign) ∧ ((0 ≤ 560 * x_rb + 9 * B_units x_rb.toNat - 9 * x_unitsInRule - c0 ∧ 560 * x_rb ≤ c0)) ∧ (y_faultKind ≤ 0 ∨ (y_piled ≤ x_piled ∧ y_token = x_token ∧ y_end = x_end)) ∧ (1 ≤ y_faultKind ∨ (r0 = 1 ∧ 1 ≤ x_token ∧ (y_token ≤ 0 ∨ x_end + 1 ≤ y_end) ∧ y_piled ≤ x_piled + 1) ∨ (r0 = 0 ∧ y_piled ≤ x_piled - 1 ∧ ((y_token = x_token ∧ y_end = x_end) ∨ y_token ≤ 0 ∨ x_end + 1 ≤ y_end))) ∧ (y_end ≤ x_size) ∧ (rQ x_bank B_told B_ruleFrom B_ruleTo F_code) ∧ va_P D vwCl (rW k a x_taped x_size y_faultKind y_faultPlace y_at y_end y_token y_number x_bank x_rb y_codes y_within y_piled x_unitsInRule x_askBeast x_askStroke x_askAge x_askSeason x_acts x_undone x_laid x_seens x_time x_fitting j_name B_tape B_text B_turns B_herds B_irons B_beasts B_units B_night B_draw B_told B_brands B_ironMarks B_herdTold B_born B_ruleFrom B_ruleTo F_code F_codeNumber F_eWhat F_eSign B_pile B_all B_burned B_was B_need B_laidRow B_long8 B_brings B_sBurning B_sStroke B_sIs B_sTold B_sUntold B_parts B_boxAll B_isBoxed G_hName G_iName G_bName ex) H)) := by
  refine metG_of 0 ck_X12_behindUnit (Nat.le_of_ble_eq_true rfl) rMap (fun p e s m args below meth c A hx hb hml hr hlocks hown hts hK hD hA hP hS ls hl => ?_)
  have hown : s.vm.findClass "HideReaderModel" = some m.cls := hown
  have hl : lv_has ls 2 [(0, .ref (a 0))] := hl
  refine lv_aload_n hx hb dX12_behindUnit_0 rfl (lv_at hl 0 rfl) ?_
  refine g_i (rDt hD) hS hA (g_V (own := "HideReaderModel") (As := []) (rest := []) hx hb hml hown hts hK hP (rDt hD) (kr_X12_rankHere (l := l) (D := D) (k := k) h_x_size h_x_at h_x_token b_B_text) ck_X12_rankHere iv_X12_rankHere uw_8_106 (rv_o hK hP) rfl hl.1 rfl (Nat.le_of_ble_eq_true rfl) dX12_behindUnit_1 ⟨Nat.le_of_ble_eq_true rfl, Nat.le_of_ble_eq_true rfl⟩ ⟨Nat.le_of_ble_eq_true rfl, Nat.le_of_ble_eq_true rfl⟩) (fun r_1 H locs hQ hS => ?_)
  obtain ⟨hr_1_0, hr_1_1, hr_1_2, hr_1_3, hP⟩ := hQ
  refine lv_istore_n (lv' := [(1, .int (mI r_1)), (0, .ref (a 0))]) hx hb dX12_behindUnit_4 rfl hl (by decide) rfl (fun ls hl => ?_)
  refine lv_iload_n hx hb dX12_behindUnit_5 rfl (lv_at hl 0 rfl) ?_
  refine lv_iconst (v := mI 4) hx hb dX12_behindUnit_6 rfl ?_
  refine sy_icmp_ne (tgt := 23) hx hb dX12_behindUnit_7 (by decide) (by omega) (by decide) (fun c_2 => ?_) (fun c_2 => ?_)
  · skip
    refine sy_loop (I := fun n H locs g => ∃ (F_917 : Nat → Int) (F_918 : Nat → Int) (y_919 : Int) (y_920 : Int) (y_921 : Int) (ls : Array Slot), (bd (-2147483648) 2147483647 F_917) ∧ (bd (-2147483648) 2147483647 F_918) ∧ (0 ≤ y_919 ∧ y_919 ≤ 1120) ∧ (0 ≤ y_920 ∧ y_920 ≤ 7) ∧ (1 ≤ y_921 ∧ y_921 ≤ 60) ∧ (rQ x_bank B_told B_ruleFrom B_ruleTo F_917) ∧ (0 ≤ y_919 - x_codes) ∧ (0 ≤ x_piled - y_921) ∧ (0 ≤ x_within - y_920) ∧ (eI 0 c0 y_919 y_921 y_920 x_unitsInRule F_917 B_eWhat B_eSign) ∧ (1120 - y_919).toNat = n ∧ va_P D vwCl (rW k a x_taped x_size x_faultKind x_faultPlace x_at x_end x_token x_number x_bank x_rb y_919 y_920 y_921 x_unitsInRule x_askBeast x_askStroke x_askAge x_askSeason x_acts x_undone x_laid x_seens x_time x_fitting n_name B_tape B_text B_turns B_herds B_irons B_beasts B_units B_night B_draw B_told B_brands B_ironMarks B_herdTold B_born B_ruleFrom B_ruleTo F_917 F_918 B_eWhat B_eSign B_pile B_all B_burned B_was B_need B_laidRow B_long8 B_brings B_sBurning B_sStroke B_sIs B_sTold B_sUntold B_parts B_boxAll B_isBoxed G_hName G_iName G_bName ex) H ∧ va_S A s.heap H locs ∧ lv_has ls 2 [(1, .int (mI r_1)), (0, .ref (a 0))] ∧ g = F0 m 23 ls []) ?_ _ ⟨B_code, B_codeNumber, x_codes, x_within, x_piled, _, b_B_code, b_B_codeNumber, by omega, by omega, by omega, g_Q, by omega, by omega, by omega, gW, rfl, hP, hS, lv_sub hl [0, 1] rfl, rfl⟩
    intro n_1032 H locs g hI ih_1033
    obtain ⟨F_917, F_918, y_919, y_920, y_921, ls, bF_917, bF_918, h23_2, h23_3, h23_4, g_922, h23_6, h23_7, h23_8, h23_9, mn_1032, hP, hS, hl, rfl⟩ := hI
    refine lv_aload_n hx hb dX12_behindUnit_23 rfl (lv_at hl 1 rfl) ?_
    refine rg_o_eWhat hx hb hts hown hK hP uw_7_53 dX12_behindUnit_24 ?_
    refine lv_aload_n hx hb dX12_behindUnit_27 rfl (lv_at hl 1 rfl) ?_
    refine rg_o_piled hx hb hts hown hK hP uw_7_60 dX12_behindUnit_28 ?_
    refine lv_iconst (v := mI 1) hx hb dX12_behindUnit_31 rfl ?_
    refine sy_isub hx hb dX12_behindUnit_32 (y_921 - 1) rfl ?_
    refine rl_eWhat hx hb hK hP dX12_behindUnit_33 (by omega) b_B_eWhat (fun z_1034 ez_1034 hz_1034 => ?_)
    refine lv_bipush (v := mI 6) hx hb dX12_behindUnit_34 (by decide) ?_
    refine sy_icmp_gt (tgt := 104) hx hb dX12_behindUnit_36 (by decide) (by omega) (by decide) (fun c_1035 => ?_) (fun c_1035 => ?_)
    · skip
      refine lv_iload_n hx hb dX12_behindUnit_104 rfl (lv_at hl 0 rfl) ?_
      refine sy_if_le (tgt := 147) hx hb dX12_behindUnit_105 (by decide) (by omega) (fun c_1036 => ?_) (fun c_1036 => ?_)
      · skip
        have h_1037w := eI_w3 h23_9 ez_1034
        refine lv_aload_n hx hb dX12_behindUnit_147 rfl (lv_at hl 1 rfl) ?_
        refine lv_dup hx hb dX12_behindUnit_148 rfl ?_
        refine rg_o_piled hx hb hts hown hK hP uw_7_60 dX12_behindUnit_149 ?_
        refine lv_iconst (v := mI 1) hx hb dX12_behindUnit_152 rfl ?_
        refine sy_isub hx hb dX12_behindUnit_153 (y_921 - 1) rfl ?_
        refine rp_o_piled hx hb hts hown hK hP hD hS uw_7_60 dX12_behindUnit_154 (fun H locs hP hS => ?_)
        refine lv_aload_n hx hb dX12_behindUnit_157 rfl (lv_at hl 1 rfl) ?_
        refine rg_o_eWhat hx hb hts hown hK hP uw_7_53 dX12_behindUnit_158 ?_
        refine lv_aload_n hx hb dX12_behindUnit_161 rfl (lv_at hl 1 rfl) ?_
        refine rg_o_piled hx hb hts hown hK hP uw_7_60 dX12_behindUnit_162 ?_
        refine rl_eWhat hx hb hK hP dX12_behindUnit_165 (by omega) b_B_eWhat (fun z_1038 ez_1038 hz_1038 => ?_)
        refine lv_bipush (v := mI 7) hx hb dX12_behindUnit_166 (by decide) ?_
        refine sy_icmp_ne (tgt := 191) hx hb dX12_behindUnit_168 (by decide) (by omega) (by decide) (fun c_1039 => ?_) (fun c_1039 => ?_)
        · skip
          refine lv_iconst (v := mI 0) hx hb dX12_behindUnit_191 rfl ?_
          exact r_z hx hb hr hlocks dX12_behindUnit_192 hS (by decide) ⟨x_faultKind, x_faultPlace, x_at, x_end, x_token, x_number, n_name, F_917, F_918, B_eWhat, B_eSign, y_919, y_920, (y_921 - 1), by omega, by omega, by omega, by omega, by omega, by omega, by omega, bF_917, bF_918, b_B_eWhat, b_B_eSign, by omega, by omega, by omega, by omega, by omega, by omega, by omega, (eS_end h23_9 ez_1038 (by omega) (by omega)), by omega, by omega, by omega, g_E, g_922, hP⟩
        · skip
          refine lv_aload_n hx hb dX12_behindUnit_171 rfl (lv_at hl 1 rfl) ?_
          refine lv_dup hx hb dX12_behindUnit_172 rfl ?_
          refine rg_o_within hx hb hts hown hK hP uw_7_59 dX12_behindUnit_173 ?_
          refine lv_iconst (v := mI 1) hx hb dX12_behindUnit_176 rfl ?_
          refine sy_isub hx hb dX12_behindUnit_177 (y_920 - 1) rfl ?_
          refine rp_o_within hx hb hts hown hK hP hD hS uw_7_59 dX12_behindUnit_178 (fun H locs hP hS => ?_)
          refine lv_aload_n hx hb dX12_behindUnit_181 rfl (lv_at hl 1 rfl) ?_
          refine lv_aload_n hx hb dX12_behindUnit_182 rfl (lv_at hl 1 rfl) ?_
          refine lv_bipush (v := mI 41) hx hb dX12_behindUnit_183 (by decide) ?_
          refine g_i (rDt hD) hS hA (g_V (own := "HideReaderModel") (As := [.int (mI 41)]) (rest := [.ref (a 0)]) hx hb hml hown hts hK hP (rDt hD) (kr_X12_isSignHere (l := l) (D := D) (k := k) (by decide) h_x_size h_x_at h_x_token b_B_text) ck_X12_isSignHere iv_X12_isSignHere uw_8_90 (rv_o hK hP) rfl hl.1 rfl (Nat.le_of_ble_eq_true rfl) dX12_behindUnit_185 ⟨Nat.le_of_ble_eq_true rfl, Nat.le_of_ble_eq_true rfl⟩ ⟨Nat.le_of_ble_eq_true rfl, Nat.le_of_ble_eq_true rfl⟩) (fun r_1040 H locs hQ hS => ?_)
          obtain ⟨hq_r_1040, hP⟩ := hQ
          rcases hq_r_1040 with ⟨rfl, c_1041_0⟩ | ⟨rfl, c_1042_0, c_1042_1, c_1042_2⟩
          · skip
            refine g_v (rDt hD) hS hA (g_V (own := "HideReaderModel") (As := [.int (mI 0)]) (rest := []) hx hb hml hown hts hK hP (rDt hD) (kr_X12_must (l := l) (D := D) (k := k) (by decide) h_x_size (by omega) h_x_faultPlace h_x_at h_x_end h_x_token h_x_number b_B_text g_E) ck_X12_must iv_X12_must uw_8_62 (rv_o hK hP) rfl hl.1 rfl (Nat.le_of_ble_eq_true rfl) dX12_behindUnit_188 ⟨Nat.le_of_ble_eq_true rfl, Nat.le_of_ble_eq_true rfl⟩ ⟨Nat.le_of_ble_eq_true rfl, Nat.le_of_ble_eq_true rfl⟩) (fun H locs hQ hS => ?_)
            obtain ⟨y_1044, y_1045, y_1046, y_1047, y_1048, y_1049, j_1050, hr_1043_0, hr_1043_1, hr_1043_2, hr_1043_3, hr_1043_4, hr_1043_5, hr_1043_6, hr_1043_7, hr_1043_8, hr_1043_9, hr_1043_10, kr_1043_E, hP⟩ := hQ
            refine lv_iconst (v := mI 0) hx hb dX12_behindUnit_191 rfl ?_
            exact r_z hx hb hr hlocks dX12_behindUnit_192 hS (by decide) ⟨y_1044, y_1045, y_1046, y_1047, y_1048, y_1049, j_1050, F_917, F_918, B_eWhat, B_eSign, y_919, (y_920 - 1), (y_921 - 1), by omega, by omega, by omega, by omega, by omega, by omega, by omega, bF_917, bF_918, b_B_eWhat, b_B_eSign, by omega, by omega, by omega, by omega, by omega, by omega, by omega, (eS_close h23_9 ez_1038 (by omega) (by omega)), by omega, by omega, by omega, kr_1043_E, g_922, hP⟩
          · skip
            refine g_v (rDt hD) hS hA (g_V (own := "HideReaderModel") (As := [.int (mI 1)]) (rest := []) hx hb hml hown hts hK hP (rDt hD) (kr_X12_must (l := l) (D := D) (k := k) (by decide) h_x_size (by omega) h_x_faultPlace h_x_at h_x_end h_x_token h_x_number b_B_text g_E) ck_X12_must iv_X12_must uw_8_62 (rv_o hK hP) rfl hl.1 rfl (Nat.le_of_ble_eq_true rfl) dX12_behindUnit_188 ⟨Nat.le_of_ble_eq_true rfl, Nat.le_of_ble_eq_true rfl⟩ ⟨Nat.le_of_ble_eq_true rfl, Nat.le_of_ble_eq_true rfl⟩) (fun H locs hQ hS => ?_)
            obtain ⟨y_1052, y_1053, y_1054, y_1055, y_1056, y_1057, j_1058, hr_1051_0, hr_1051_1, hr_1051_2, hr_1051_3, hr_1051_4, hr_1051_5, hr_1051_6, hr_1051_7, hr_1051_8, hr_1051_9, hr_1051_10, kr_1051_E, hP⟩ := hQ
            refine lv_iconst (v := mI 0) hx hb dX12_behindUnit_191 rfl ?_
            exact r_z hx hb hr hlocks dX12_behindUnit_192 hS (by decide) ⟨y_1052, y_1053, y_1054, y_1055, y_1056, y_1057, j_1058, F_917, F_918, B_eWhat, B_eSign, y_919, (y_920 - 1), (y_921 - 1), by omega, by omega, by omega, by omega, by omega, by omega, by omega, bF_917, bF_918, b_B_eWhat, b_B_eSign, by omega, by omega, by omega, by omega, by omega, by omega, by omega, (eS_close h23_9 ez_1038 (by omega) (by omega)), by omega, by omega, by omega, kr_1051_E, g_922, hP⟩
      · skip
        refine lv_aload_n hx hb dX12_behindUnit_108 rfl (lv_at hl 1 rfl) ?_
        refine lv_iload_n hx hb dX12_behindUnit_109 rfl (lv_at hl 0 rfl) ?_
        refine lv_iload_n hx hb dX12_behindUnit_110 rfl (lv_at hl 0 rfl) ?_
        refine lv_iconst (v := mI 2) hx hb dX12_behindUnit_111 rfl ?_
        refine sy_icmp_ne (tgt := 120) hx hb dX12_behindUnit_112 (by decide) (by omega) (by decide) (fun c_1059 => ?_) (fun c_1059 => ?_)
        · skip
          refine lv_iload_n hx hb dX12_behindUnit_120 rfl (lv_at hl 0 rfl) ?_
          refine lv_iconst (v := mI 1) hx hb dX12_behindUnit_121 rfl ?_
          refine sy_icmp_ne (tgt := 130) hx hb dX12_behindUnit_122 (by decide) (by omega) (by decide) (fun c_1060 => ?_) (fun c_1060 => ?_)
          · skip
            refine lv_aload_n hx hb dX12_behindUnit_130 rfl (lv_at hl 1 rfl) ?_
            refine lv_aload_n hx hb dX12_behindUnit_131 rfl (lv_at hl 1 rfl) ?_
            refine rg_o_at hx hb hts hown hK hP uw_7_29 dX12_behindUnit_132 ?_
            refine g_i (rDt hD) hS hA (g_V (own := "HideReaderModel") (As := [.int (mI x_at)]) (rest := [.int (mI r_1), .ref (a 0)]) hx hb hml hown hts hK hP (rDt hD) (kr_X12_sign (l := l) (D := D) (k := k) (by omega) h_x_size b_B_text) ck_X12_sign iv_X12_sign uw_7_224 (rv_o hK hP) rfl hl.1 rfl (Nat.le_of_ble_eq_true rfl) dX12_behindUnit_135 ⟨Nat.le_of_ble_eq_true rfl, Nat.le_of_ble_eq_true rfl⟩ ⟨Nat.le_of_ble_eq_true rfl, Nat.le_of_ble_eq_true rfl⟩) (fun r_1061 H locs hQ hS => ?_)
            obtain ⟨hr_1061_0, hr_1061_1, hr_1061_2, hP⟩ := hQ
            refine g_v (rDt hD) hS hA (g_V (own := "HideReaderModel") (As := [.int (mI r_1), .int (mI r_1061)]) (rest := []) hx hb hml hown hts hK hP (rDt hD) (kr_X12_pushE (l := l) (D := D) (k := k) (by omega) (by omega) (by omega) b_B_eWhat b_B_eSign) ck_X12_pushE iv_X12_pushE uw_8_82 (rv_o hK hP) rfl hl.1 rfl (Nat.le_of_ble_eq_true rfl) dX12_behindUnit_138 ⟨Nat.le_of_ble_eq_true rfl, Nat.le_of_ble_eq_true rfl⟩ ⟨Nat.le_of_ble_eq_true rfl, Nat.le_of_ble_eq_true rfl⟩) (fun H locs hQ hS => ?_)
            obtain ⟨F_1063, F_1064, y_1065, bF_1063, bF_1064, hr_1062_2, hr_1062_3, hr_1062_4, hr_1062_5, hr_1062_6, hP⟩ := hQ
            refine lv_aload_n hx hb dX12_behindUnit_141 rfl (lv_at hl 1 rfl) ?_
            refine g_v (rDt hD) hS hA (g_V (own := "HideReaderModel") (As := []) (rest := []) hx hb hml hown hts hK hP (rDt hD) (kr_X12_goOn (l := l) (D := D) (k := k) h_x_size h_x_end h_x_number b_B_text g_E) ck_X12_goOn iv_X12_goOn uw_7_220 (rv_o hK hP) rfl hl.1 rfl (Nat.le_of_ble_eq_true rfl) dX12_behindUnit_142 ⟨Nat.le_of_ble_eq_true rfl, Nat.le_of_ble_eq_true rfl⟩ ⟨Nat.le_of_ble_eq_true rfl, Nat.le_of_ble_eq_true rfl⟩) (fun H locs hQ hS => ?_)
            obtain ⟨y_1067, y_1068, y_1069, y_1070, j_1071, hr_1066_0, hr_1066_1, hr_1066_2, hr_1066_3, hr_1066_4, hr_1066_5, kr_1066_E, hP⟩ := hQ
            refine lv_iconst (v := mI 1) hx hb dX12_behindUnit_145 rfl ?_
            exact r_z hx hb hr hlocks dX12_behindUnit_146 hS (by decide) ⟨x_faultKind, x_faultPlace, y_1067, y_1068, y_1069, y_1070, j_1071, F_917, F_918, F_1063, F_1064, y_919, y_920, y_1065, by omega, by omega, by omega, by omega, by omega, by omega, by omega, bF_917, bF_918, bF_1063, bF_1064, by omega, by omega, by omega, by omega, by omega, by omega, by omega, (eS_bin h23_9 (by omega) (by omega) hr_1062_5 hr_1062_6 (by omega) (by omega)), by omega, by omega, by omega, kr_1066_E, g_922, hP⟩
          · skip
            refine lv_bipush (v := mI 124) hx hb dX12_behindUnit_125 (by decide) ?_
            refine lv_goto (tgt := 138) hx hb dX12_behindUnit_127 (by decide) ?_
            refine g_v (rDt hD) hS hA (g_V (own := "HideReaderModel") (As := [.int (mI r_1), .int (mI 124)]) (rest := []) hx hb hml hown hts hK hP (rDt hD) (kr_X12_pushE (l := l) (D := D) (k := k) (by omega) (by decide) (by omega) b_B_eWhat b_B_eSign) ck_X12_pushE iv_X12_pushE uw_8_82 (rv_o hK hP) rfl hl.1 rfl (Nat.le_of_ble_eq_true rfl) dX12_behindUnit_138 ⟨Nat.le_of_ble_eq_true rfl, Nat.le_of_ble_eq_true rfl⟩ ⟨Nat.le_of_ble_eq_true rfl, Nat.le_of_ble_eq_true rfl⟩) (fun H locs hQ hS => ?_)
            obtain ⟨F_1073, F_1074, y_1075, bF_1073, bF_1074, hr_1072_2, hr_1072_3, hr_1072_4, hr_1072_5, hr_1072_6, hP⟩ := hQ
            refine lv_aload_n hx hb dX12_behindUnit_141 rfl (lv_at hl 1 rfl) ?_
            refine g_v (rDt hD) hS hA (g_V (own := "HideReaderModel") (As := []) (rest := []) hx hb hml hown hts hK hP (rDt hD) (kr_X12_goOn (l := l) (D := D) (k := k) h_x_size h_x_end h_x_number b_B_text g_E) ck_X12_goOn iv_X12_goOn uw_7_220 (rv_o hK hP) rfl hl.1 rfl (Nat.le_of_ble_eq_true rfl) dX12_behindUnit_142 ⟨Nat.le_of_ble_eq_true rfl, Nat.le_of_ble_eq_true rfl⟩ ⟨Nat.le_of_ble_eq_true rfl, Nat.le_of_ble_eq_true rfl⟩) (fun H locs hQ hS => ?_)
            obtain ⟨y_1077, y_1078, y_1079, y_1080, j_1081, hr_1076_0, hr_1076_1, hr_1076_2, hr_1076_3, hr_1076_4, hr_1076_5, kr_1076_E, hP⟩ := hQ
            refine lv_iconst (v := mI 1) hx hb dX12_behindUnit_145 rfl ?_
            exact r_z hx hb hr hlocks dX12_behindUnit_146 hS (by decide) ⟨x_faultKind, x_faultPlace, y_1077, y_1078, y_1079, y_1080, j_1081, F_917, F_918, F_1073, F_1074, y_919, y_920, y_1075, by omega, by omega, by omega, by omega, by omega, by omega, by omega, bF_917, bF_918, bF_1073, bF_1074, by omega, by omega, by omega, by omega, by omega, by omega, by omega, (eS_bin h23_9 (by omega) (by omega) hr_1072_5 hr_1072_6 (by omega) (by omega)), by omega, by omega, by omega, kr_1076_E, g_922, hP⟩
        · skip
          refine lv_bipush (v := mI 38) hx hb dX12_behindUnit_115 (by decide) ?_
          refine lv_goto (tgt := 138) hx hb dX12_behindUnit_117 (by decide) ?_
          refine g_v (rDt hD) hS hA (g_V (own := "HideReaderModel") (As := [.int (mI r_1), .int (mI 38)]) (rest := []) hx hb hml hown hts hK hP (rDt hD) (kr_X12_pushE (l := l) (D := D) (k := k) (by omega) (by decide) (by omega) b_B_eWhat b_B_eSign) ck_X12_pushE iv_X12_pushE uw_8_82 (rv_o hK hP) rfl hl.1 rfl (Nat.le_of_ble_eq_true rfl) dX12_behindUnit_138 ⟨Nat.le_of_ble_eq_true rfl, Nat.le_of_ble_eq_true rfl⟩ ⟨Nat.le_of_ble_eq_true rfl, Nat.le_of_ble_eq_true rfl⟩) (fun H locs hQ hS => ?_)
          obtain ⟨F_1083, F_1084, y_1085, bF_1083, bF_1084, hr_1082_2, hr_1082_3, hr_1082_4, hr_1082_5, hr_1082_6, hP⟩ := hQ
          refine lv_aload_n hx hb dX12_behindUnit_141 rfl (lv_at hl 1 rfl) ?_
          refine g_v (rDt hD) hS hA (g_V (own := "HideReaderModel") (As := []) (rest := []) hx hb hml hown hts hK hP (rDt hD) (kr_X12_goOn (l := l) (D := D) (k := k) h_x_size h_x_end h_x_number b_B_text g_E) ck_X12_goOn iv_X12_goOn uw_7_220 (rv_o hK hP) rfl hl.1 rfl (Nat.le_of_ble_eq_true rfl) dX12_behindUnit_142 ⟨Nat.le_of_ble_eq_true rfl, Nat.le_of_ble_eq_true rfl⟩ ⟨Nat.le_of_ble_eq_true rfl, Nat.le_of_ble_eq_true rfl⟩) (fun H locs hQ hS => ?_)
          obtain ⟨y_1087, y_1088, y_1089, y_1090, j_1091, hr_1086_0, hr_1086_1, hr_1086_2, hr_1086_3, hr_1086_4, hr_1086_5, kr_1086_E, hP⟩ := hQ
          refine lv_iconst (v := mI 1) hx hb dX12_behindUnit_145 rfl ?_
          exact r_z hx hb hr hlocks dX12_behindUnit_146 hS (by decide) ⟨x_faultKind, x_faultPlace, y_1087, y_1088, y_1089, y_1090, j_1091, F_917, F_918, F_1083, F_1084, y_919, y_920, y_1085, by omega, by omega, by omega, by omega, by omega, by omega, by omega, bF_917, bF_918, bF_1083, bF_1084, by omega, by omega, by omega, by omega, by omega, by omega, by omega, (eS_bin h23_9 (by omega) (by omega) hr_1082_5 hr_1082_6 (by omega) (by omega)), by omega, by omega, by omega, kr_1086_E, g_922, hP⟩
    · skip
      refine lv_aload_n hx hb dX12_behindUnit_39 rfl (lv_at hl 1 rfl) ?_
      refine rg_o_eWhat hx hb hts hown hK hP uw_7_53 dX12_behindUnit_40 ?_
      refine lv_aload_n hx hb dX12_behindUnit_43 rfl (lv_at hl 1 rfl) ?_
      refine rg_o_piled hx hb hts hown hK hP uw_7_60 dX12_behindUnit_44 ?_
      refine lv_iconst (v := mI 1) hx hb dX12_behindUnit_47 rfl ?_
      refine sy_isub hx hb dX12_behindUnit_48 (y_921 - 1) rfl ?_
      refine rl_eWhat hx hb hK hP dX12_behindUnit_49 (by omega) b_B_eWhat (fun z_1092 ez_1092 hz_1092 => ?_)
      refine lv_iload_n hx hb dX12_behindUnit_50 rfl (lv_at hl 0 rfl) ?_
      refine sy_icmp_lt (tgt := 104) hx hb dX12_behindUnit_51 (by decide) (by omega) (by omega) (fun c_1093 => ?_) (fun c_1093 => ?_)
      · skip
        refine lv_iload_n hx hb dX12_behindUnit_104 rfl (lv_at hl 0 rfl) ?_
        refine sy_if_le (tgt := 147) hx hb dX12_behindUnit_105 (by decide) (by omega) (fun c9 => False.elim (by omega)) (fun c_1094 => ?_)
        refine lv_aload_n hx hb dX12_behindUnit_108 rfl (lv_at hl 1 rfl) ?_
        refine lv_iload_n hx hb dX12_behindUnit_109 rfl (lv_at hl 0 rfl) ?_
        refine lv_iload_n hx hb dX12_behindUnit_110 rfl (lv_at hl 0 rfl) ?_
        refine lv_iconst (v := mI 2) hx hb dX12_behindUnit_111 rfl ?_
        refine sy_icmp_ne (tgt := 120) hx hb dX12_behindUnit_112 (by decide) (by omega) (by decide) (fun c_1095 => ?_) (fun c_1095 => ?_)
        · skip
          refine lv_iload_n hx hb dX12_behindUnit_120 rfl (lv_at hl 0 rfl) ?_
          refine lv_iconst (v := mI 1) hx hb dX12_behindUnit_121 rfl ?_
          refine sy_icmp_ne (tgt := 130) hx hb dX12_behindUnit_122 (by decide) (by omega) (by decide) (fun c_1096 => ?_) (fun c_1096 => ?_)
          · skip
            refine lv_aload_n hx hb dX12_behindUnit_130 rfl (lv_at hl 1 rfl) ?_
            refine lv_aload_n hx hb dX12_behindUnit_131 rfl (lv_at hl 1 rfl) ?_
            refine rg_o_at hx hb hts hown hK hP uw_7_29 dX12_behindUnit_132 ?_
            refine g_i (rDt hD) hS hA (g_V (own := "HideReaderModel") (As := [.int (mI x_at)]) (rest := [.int (mI r_1), .ref (a 0)]) hx hb hml hown hts hK hP (rDt hD) (kr_X12_sign (l := l) (D := D) (k := k) (by omega) h_x_size b_B_text) ck_X12_sign iv_X12_sign uw_7_224 (rv_o hK hP) rfl hl.1 rfl (Nat.le_of_ble_eq_true rfl) dX12_behindUnit_135 ⟨Nat.le_of_ble_eq_true rfl, Nat.le_of_ble_eq_true rfl⟩ ⟨Nat.le_of_ble_eq_true rfl, Nat.le_of_ble_eq_true rfl⟩) (fun r_1097 H locs hQ hS => ?_)
            obtain ⟨hr_1097_0, hr_1097_1, hr_1097_2, hP⟩ := hQ
            refine g_v (rDt hD) hS hA (g_V (own := "HideReaderModel") (As := [.int (mI r_1), .int (mI r_1097)]) (rest := []) hx hb hml hown hts hK hP (rDt hD) (kr_X12_pushE (l := l) (D := D) (k := k) (by omega) (by omega) (by omega) b_B_eWhat b_B_eSign) ck_X12_pushE iv_X12_pushE uw_8_82 (rv_o hK hP) rfl hl.1 rfl (Nat.le_of_ble_eq_true rfl) dX12_behindUnit_138 ⟨Nat.le_of_ble_eq_true rfl, Nat.le_of_ble_eq_true rfl⟩ ⟨Nat.le_of_ble_eq_true rfl, Nat.le_of_ble_eq_true rfl⟩) (fun H locs hQ hS => ?_)
            obtain ⟨F_1099, F_1100, y_1101, bF_1099, bF_1100, hr_1098_2, hr_1098_3, hr_1098_4, hr_1098_5, hr_1098_6, hP⟩ := hQ
            refine lv_aload_n hx hb dX12_behindUnit_141 rfl (lv_at hl 1 rfl) ?_
            refine g_v (rDt hD) hS hA (g_V (own := "HideReaderModel") (As := []) (rest := []) hx hb hml hown hts hK hP (rDt hD) (kr_X12_goOn (l := l) (D := D) (k := k) h_x_size h_x_end h_x_number b_B_text g_E) ck_X12_goOn iv_X12_goOn uw_7_220 (rv_o hK hP) rfl hl.1 rfl (Nat.le_of_ble_eq_true rfl) dX12_behindUnit_142 ⟨Nat.le_of_ble_eq_true rfl, Nat.le_of_ble_eq_true rfl⟩ ⟨Nat.le_of_ble_eq_true rfl, Nat.le_of_ble_eq_true rfl⟩) (fun H locs hQ hS => ?_)
            obtain ⟨y_1103, y_1104, y_1105, y_1106, j_1107, hr_1102_0, hr_1102_1, hr_1102_2, hr_1102_3, hr_1102_4, hr_1102_5, kr_1102_E, hP⟩ := hQ
            refine lv_iconst (v := mI 1) hx hb dX12_behindUnit_145 rfl ?_
            exact r_z hx hb hr hlocks dX12_behindUnit_146 hS (by decide) ⟨x_faultKind, x_faultPlace, y_1103, y_1104, y_1105, y_1106, j_1107, F_917, F_918, F_1099, F_1100, y_919, y_920, y_1101, by omega, by omega, by omega, by omega, by omega, by omega, by omega, bF_917, bF_918, bF_1099, bF_1100, by omega, by omega, by omega, by omega, by omega, by omega, by omega, (eS_bin h23_9 (by omega) (by omega) hr_1098_5 hr_1098_6 (by omega) (by omega)), by omega, by omega, by omega, kr_1102_E, g_922, hP⟩
          · skip
            refine lv_bipush (v := mI 124) hx hb dX12_behindUnit_125 (by decide) ?_
            refine lv_goto (tgt := 138) hx hb dX12_behindUnit_127 (by decide) ?_
            refine g_v (rDt hD) hS hA (g_V (own := "HideReaderModel") (As := [.int (mI r_1), .int (mI 124)]) (rest := []) hx hb hml hown hts hK hP (rDt hD) (kr_X12_pushE (l := l) (D := D) (k := k) (by omega) (by decide) (by omega) b_B_eWhat b_B_eSign) ck_X12_pushE iv_X12_pushE uw_8_82 (rv_o hK hP) rfl hl.1 rfl (Nat.le_of_ble_eq_true rfl) dX12_behindUnit_138 ⟨Nat.le_of_ble_eq_true rfl, Nat.le_of_ble_eq_true rfl⟩ ⟨Nat.le_of_ble_eq_true rfl, Nat.le_of_ble_eq_true rfl⟩) (fun H locs hQ hS => ?_)
            obtain ⟨F_1109, F_1110, y_1111, bF_1109, bF_1110, hr_1108_2, hr_1108_3, hr_1108_4, hr_1108_5, hr_1108_6, hP⟩ := hQ
            refine lv_aload_n hx hb dX12_behindUnit_141 rfl (lv_at hl 1 rfl) ?_
            refine g_v (rDt hD) hS hA (g_V (own := "HideReaderModel") (As := []) (rest := []) hx hb hml hown hts hK hP (rDt hD) (kr_X12_goOn (l := l) (D := D) (k := k) h_x_size h_x_end h_x_number b_B_text g_E) ck_X12_goOn iv_X12_goOn uw_7_220 (rv_o hK hP) rfl hl.1 rfl (Nat.le_of_ble_eq_true rfl) dX12_behindUnit_142 ⟨Nat.le_of_ble_eq_true rfl, Nat.le_of_ble_eq_true rfl⟩ ⟨Nat.le_of_ble_eq_true rfl, Nat.le_of_ble_eq_true rfl⟩) (fun H locs hQ hS => ?_)
            obtain ⟨y_1113, y_1114, y_1115, y_1116, j_1117, hr_1112_0, hr_1112_1, hr_1112_2, hr_1112_3, hr_1112_4, hr_1112_5, kr_1112_E, hP⟩ := hQ
            refine lv_iconst (v := mI 1) hx hb dX12_behindUnit_145 rfl ?_
            exact r_z hx hb hr hlocks dX12_behindUnit_146 hS (by decide) ⟨x_faultKind, x_faultPlace, y_1113, y_1114, y_1115, y_1116, j_1117, F_917, F_918, F_1109, F_1110, y_919, y_920, y_1111, by omega, by omega, by omega, by omega, by omega, by omega, by omega, bF_917, bF_918, bF_1109, bF_1110, by omega, by omega, by omega, by omega, by omega, by omega, by omega, (eS_bin h23_9 (by omega) (by omega) hr_1108_5 hr_1108_6 (by omega) (by omega)), by omega, by omega, by omega, kr_1112_E, g_922, hP⟩
        · skip
          refine lv_bipush (v := mI 38) hx hb dX12_behindUnit_115 (by decide) ?_
          refine lv_goto (tgt := 138) hx hb dX12_behindUnit_117 (by decide) ?_
          refine g_v (rDt hD) hS hA (g_V (own := "HideReaderModel") (As := [.int (mI r_1), .int (mI 38)]) (rest := []) hx hb hml hown hts hK hP (rDt hD) (kr_X12_pushE (l := l) (D := D) (k := k) (by omega) (by decide) (by omega) b_B_eWhat b_B_eSign) ck_X12_pushE iv_X12_pushE uw_8_82 (rv_o hK hP) rfl hl.1 rfl (Nat.le_of_ble_eq_true rfl) dX12_behindUnit_138 ⟨Nat.le_of_ble_eq_true rfl, Nat.le_of_ble_eq_true rfl⟩ ⟨Nat.le_of_ble_eq_true rfl, Nat.le_of_ble_eq_true rfl⟩) (fun H locs hQ hS => ?_)
          obtain ⟨F_1119, F_1120, y_1121, bF_1119, bF_1120, hr_1118_2, hr_1118_3, hr_1118_4, hr_1118_5, hr_1118_6, hP⟩ := hQ
          refine lv_aload_n hx hb dX12_behindUnit_141 rfl (lv_at hl 1 rfl) ?_
          refine g_v (rDt hD) hS hA (g_V (own := "HideReaderModel") (As := []) (rest := []) hx hb hml hown hts hK hP (rDt hD) (kr_X12_goOn (l := l) (D := D) (k := k) h_x_size h_x_end h_x_number b_B_text g_E) ck_X12_goOn iv_X12_goOn uw_7_220 (rv_o hK hP) rfl hl.1 rfl (Nat.le_of_ble_eq_true rfl) dX12_behindUnit_142 ⟨Nat.le_of_ble_eq_true rfl, Nat.le_of_ble_eq_true rfl⟩ ⟨Nat.le_of_ble_eq_true rfl, Nat.le_of_ble_eq_true rfl⟩) (fun H locs hQ hS => ?_)
          obtain ⟨y_1123, y_1124, y_1125, y_1126, j_1127, hr_1122_0, hr_1122_1, hr_1122_2, hr_1122_3, hr_1122_4, hr_1122_5, kr_1122_E, hP⟩ := hQ
          refine lv_iconst (v := mI 1) hx hb dX12_behindUnit_145 rfl ?_
          exact r_z hx hb hr hlocks dX12_behindUnit_146 hS (by decide) ⟨x_faultKind, x_faultPlace, y_1123, y_1124, y_1125, y_1126, j_1127, F_917, F_918, F_1119, F_1120, y_919, y_920, y_1121, by omega, by omega, by omega, by omega, by omega, by omega, by omega, bF_917, bF_918, bF_1119, bF_1120, by omega, by omega, by omega, by omega, by omega, by omega, by omega, (eS_bin h23_9 (by omega) (by omega) hr_1118_5 hr_1118_6 (by omega) (by omega)), by omega, by omega, by omega, kr_1122_E, g_922, hP⟩
      · skip
        have h_1128 := eI_b h23_9
        have h_1128u := b_B_units x_rb.toNat
        have h_1128c : y_919 ≤ 1119 ∧ 560 * x_rb ≤ y_919 ∧ y_919 ≤ 560 * x_rb + 559 := by omega
        have h_1128w := eI_w3 h23_9 ez_1092
        have h_1128p := eI_not1 h23_9 ez_1092
        refine lv_aload_n hx hb dX12_behindUnit_54 rfl (lv_at hl 1 rfl) ?_
        refine lv_dup hx hb dX12_behindUnit_55 rfl ?_
        refine rg_o_piled hx hb hts hown hK hP uw_7_60 dX12_behindUnit_56 ?_
        refine lv_iconst (v := mI 1) hx hb dX12_behindUnit_59 rfl ?_
        refine sy_isub hx hb dX12_behindUnit_60 (y_921 - 1) rfl ?_
        refine rp_o_piled hx hb hts hown hK hP hD hS uw_7_60 dX12_behindUnit_61 (fun H locs hP hS => ?_)
        refine lv_aload_n hx hb dX12_behindUnit_64 rfl (lv_at hl 1 rfl) ?_
        refine rg_o_eWhat hx hb hts hown hK hP uw_7_53 dX12_behindUnit_65 ?_
        refine lv_aload_n hx hb dX12_behindUnit_68 rfl (lv_at hl 1 rfl) ?_
        refine rg_o_piled hx hb hts hown hK hP uw_7_60 dX12_behindUnit_69 ?_
        refine rl_eWhat hx hb hK hP dX12_behindUnit_72 (by omega) b_B_eWhat (fun z_1129 ez_1129 hz_1129 => ?_)
        refine lv_iconst (v := mI 3) hx hb dX12_behindUnit_73 rfl ?_
        refine sy_icmp_ne (tgt := 87) hx hb dX12_behindUnit_74 (by decide) (by omega) (by decide) (fun c_1130 => ?_) (fun c_1130 => ?_)
        · skip
          refine lv_aload_n hx hb dX12_behindUnit_87 rfl (lv_at hl 1 rfl) ?_
          refine lv_aload_n hx hb dX12_behindUnit_88 rfl (lv_at hl 1 rfl) ?_
          refine rg_o_eSign hx hb hts hown hK hP uw_7_54 dX12_behindUnit_89 ?_
          refine lv_aload_n hx hb dX12_behindUnit_92 rfl (lv_at hl 1 rfl) ?_
          refine rg_o_piled hx hb hts hown hK hP uw_7_60 dX12_behindUnit_93 ?_
          refine rl_eSign hx hb hK hP dX12_behindUnit_96 (by omega) b_B_eSign (fun z_1131 ez_1131 hz_1131 => ?_)
          refine lv_iconst (v := mI 0) hx hb dX12_behindUnit_97 rfl ?_
          refine g_v (rDt hD) hS hA (g_V (own := "HideReaderModel") (As := [.int (mI z_1131), .int (mI 0)]) (rest := []) hx hb hml hown hts hK hP (rDt hD) (kr_X12_emit (l := l) (D := D) (k := k) (by omega) (by decide) h_x_bank h_x_rb (by omega) bF_917 bF_918 g_L g_922 (by omega) (by omega)) ck_X12_emit iv_X12_emit uw_8_98 (rv_o hK hP) rfl hl.1 rfl (Nat.le_of_ble_eq_true rfl) dX12_behindUnit_98 ⟨Nat.le_of_ble_eq_true rfl, Nat.le_of_ble_eq_true rfl⟩ ⟨Nat.le_of_ble_eq_true rfl, Nat.le_of_ble_eq_true rfl⟩) (fun H locs hQ hS => ?_)
          obtain ⟨F_1133, F_1134, y_1135, bF_1133, bF_1134, hr_1132_2, hr_1132_3, hr_1132_4, hr_1132_5, kr_1132_Q, hP⟩ := hQ
          obtain ⟨g_1136p, g_1136⟩ := eS_pop (within2 := y_920) h23_9 ez_1129 (by omega) ez_1131 hr_1132_5 (by omega) (by omega)
          refine lv_goto (tgt := 23) hx hb dX12_behindUnit_101 (by decide) ?_
          exact ih_1033 _ _ _ _ (by omega) ⟨F_1133, F_1134, y_1135, y_920, (y_921 - 1), _, bF_1133, bF_1134, by omega, by omega, by omega, kr_1132_Q, by omega, by omega, by omega, g_1136, rfl, hP, hS, lv_sub hl [0, 1] rfl, rfl⟩
        · skip
          refine lv_aload_n hx hb dX12_behindUnit_77 rfl (lv_at hl 1 rfl) ?_
          refine lv_dup hx hb dX12_behindUnit_78 rfl ?_
          refine rg_o_within hx hb hts hown hK hP uw_7_59 dX12_behindUnit_79 ?_
          refine lv_iconst (v := mI 1) hx hb dX12_behindUnit_82 rfl ?_
          refine sy_isub hx hb dX12_behindUnit_83 (y_920 - 1) rfl ?_
          refine rp_o_within hx hb hts hown hK hP hD hS uw_7_59 dX12_behindUnit_84 (fun H locs hP hS => ?_)
          refine lv_aload_n hx hb dX12_behindUnit_87 rfl (lv_at hl 1 rfl) ?_
          refine lv_aload_n hx hb dX12_behindUnit_88 rfl (lv_at hl 1 rfl) ?_
          refine rg_o_eSign hx hb hts hown hK hP uw_7_54 dX12_behindUnit_89 ?_
          refine lv_aload_n hx hb dX12_behindUnit_92 rfl (lv_at hl 1 rfl) ?_
          refine rg_o_piled hx hb hts hown hK hP uw_7_60 dX12_behindUnit_93 ?_
          refine rl_eSign hx hb hK hP dX12_behindUnit_96 (by omega) b_B_eSign (fun z_1137 ez_1137 hz_1137 => ?_)
          refine lv_iconst (v := mI 0) hx hb dX12_behindUnit_97 rfl ?_
          refine g_v (rDt hD) hS hA (g_V (own := "HideReaderModel") (As := [.int (mI z_1137), .int (mI 0)]) (rest := []) hx hb hml hown hts hK hP (rDt hD) (kr_X12_emit (l := l) (D := D) (k := k) (by omega) (by decide) h_x_bank h_x_rb (by omega) bF_917 bF_918 g_L g_922 (by omega) (by omega)) ck_X12_emit iv_X12_emit uw_8_98 (rv_o hK hP) rfl hl.1 rfl (Nat.le_of_ble_eq_true rfl) dX12_behindUnit_98 ⟨Nat.le_of_ble_eq_true rfl, Nat.le_of_ble_eq_true rfl⟩ ⟨Nat.le_of_ble_eq_true rfl, Nat.le_of_ble_eq_true rfl⟩) (fun H locs hQ hS => ?_)
          obtain ⟨F_1139, F_1140, y_1141, bF_1139, bF_1140, hr_1138_2, hr_1138_3, hr_1138_4, hr_1138_5, kr_1138_Q, hP⟩ := hQ
          obtain ⟨g_1142p, g_1142⟩ := eS_pop (within2 := (y_920 - 1)) h23_9 ez_1129 (by omega) ez_1137 hr_1138_5 (by omega) (by omega)
          refine lv_goto (tgt := 23) hx hb dX12_behindUnit_101 (by decide) ?_
          exact ih_1033 _ _ _ _ (by omega) ⟨F_1139, F_1140, y_1141, (y_920 - 1), (y_921 - 1), _, bF_1139, bF_1140, by omega, by omega, by omega, kr_1138_Q, by omega, by omega, by omega, g_1142, rfl, hP, hS, lv_sub hl [0, 1] rfl, rfl⟩
  · skip
    refine lv_aload_n hx hb dX12_behindUnit_10 rfl (lv_at hl 1 rfl) ?_
    refine g_i (rDt hD) hS hA (g_V (own := "HideReaderModel") (As := []) (rest := []) hx hb hml hown hts hK hP (rDt hD) (kr_X12_isCompared (l := l) (D := D) (k := k) (by omega) b_B_eWhat (eI_b gW).2.2.2.2) ck_X12_isCompared iv_X12_isCompared uw_8_110 (rv_o hK hP) rfl hl.1 rfl (Nat.le_of_ble_eq_true rfl) dX12_behindUnit_11 ⟨Nat.le_of_ble_eq_true rfl, Nat.le_of_ble_eq_true rfl⟩ ⟨Nat.le_of_ble_eq_true rfl, Nat.le_of_ble_eq_true rfl⟩) (fun r_1143 H locs hQ hS => ?_)
    obtain ⟨hr_1143_0, hP⟩ := hQ
    refine sy_if_eq (tgt := 23) hx hb dX12_behindUnit_14 (by decide) (by omega) (fun c_1144 => ?_) (fun c_1144 => ?_)
    · skip
      refine sy_loop (I := fun n H locs g => ∃ (F_1508 : Nat → Int) (F_1509 : Nat → Int) (y_1510 : Int) (y_1511 : Int) (ls : Array Slot), (bd (-2147483648) 2147483647 F_1508) ∧ (bd (-2147483648) 2147483647 F_1509) ∧ (0 ≤ y_1510 ∧ y_1510 ≤ 1120) ∧ (1 ≤ y_1511 ∧ y_1511 ≤ 60) ∧ (rQ x_bank B_told B_ruleFrom B_ruleTo F_1508) ∧ (0 ≤ y_1510 - x_codes) ∧ (0 ≤ x_piled - y_1511) ∧ (eI 0 c0 y_1510 y_1511 x_within x_unitsInRule F_1508 B_eWhat B_eSign) ∧ (1120 - y_1510).toNat = n ∧ va_P D vwCl (rW k a x_taped x_size x_faultKind x_faultPlace x_at x_end x_token x_number x_bank x_rb y_1510 x_within y_1511 x_unitsInRule x_askBeast x_askStroke x_askAge x_askSeason x_acts x_undone x_laid x_seens x_time x_fitting n_name B_tape B_text B_turns B_herds B_irons B_beasts B_units B_night B_draw B_told B_brands B_ironMarks B_herdTold B_born B_ruleFrom B_ruleTo F_1508 F_1509 B_eWhat B_eSign B_pile B_all B_burned B_was B_need B_laidRow B_long8 B_brings B_sBurning B_sStroke B_sIs B_sTold B_sUntold B_parts B_boxAll B_isBoxed G_hName G_iName G_bName ex) H ∧ va_S A s.heap H locs ∧ lv_has ls 2 [(1, .int (mI r_1)), (0, .ref (a 0))] ∧ g = F0 m 23 ls []) ?_ _ ⟨B_code, B_codeNumber, x_codes, x_piled, _, b_B_code, b_B_codeNumber, by omega, by omega, g_Q, by omega, by omega, gW, rfl, hP, hS, lv_sub hl [0, 1] rfl, rfl⟩
      intro n_1554 H locs g hI ih_1555
      obtain ⟨F_1508, F_1509, y_1510, y_1511, ls, bF_1508, bF_1509, h23_2, h23_3, g_1512, h23_5, h23_6, h23_7, mn_1554, hP, hS, hl, rfl⟩ := hI
      refine lv_aload_n hx hb dX12_behindUnit_23 rfl (lv_at hl 1 rfl) ?_
      refine rg_o_eWhat hx hb hts hown hK hP uw_7_53 dX12_behindUnit_24 ?_
      refine lv_aload_n hx hb dX12_behindUnit_27 rfl (lv_at hl 1 rfl) ?_
      refine rg_o_piled hx hb hts hown hK hP uw_7_60 dX12_behindUnit_28 ?_
      refine lv_iconst (v := mI 1) hx hb dX12_behindUnit_31 rfl ?_
      refine sy_isub hx hb dX12_behindUnit_32 (y_1511 - 1) rfl ?_
      refine rl_eWhat hx hb hK hP dX12_behindUnit_33 (by omega) b_B_eWhat (fun z_1556 ez_1556 hz_1556 => ?_)
      refine lv_bipush (v := mI 6) hx hb dX12_behindUnit_34 (by decide) ?_
      refine sy_icmp_gt (tgt := 104) hx hb dX12_behindUnit_36 (by decide) (by omega) (by decide) (fun c_1557 => ?_) (fun c_1557 => ?_)
      · skip
        refine lv_iload_n hx hb dX12_behindUnit_104 rfl (lv_at hl 0 rfl) ?_
        refine sy_if_le (tgt := 147) hx hb dX12_behindUnit_105 (by decide) (by omega) (fun c9 => False.elim (by omega)) (fun c_1558 => ?_)
        refine lv_aload_n hx hb dX12_behindUnit_108 rfl (lv_at hl 1 rfl) ?_
        refine lv_iload_n hx hb dX12_behindUnit_109 rfl (lv_at hl 0 rfl) ?_
        refine lv_iload_n hx hb dX12_behindUnit_110 rfl (lv_at hl 0 rfl) ?_
        refine lv_iconst (v := mI 2) hx hb dX12_behindUnit_111 rfl ?_
        refine sy_icmp_ne (tgt := 120) hx hb dX12_behindUnit_112 (by decide) (by omega) (by decide) (fun c_1559 => ?_) (fun c9 => False.elim (by omega))
        refine lv_iload_n hx hb dX12_behindUnit_120 rfl (lv_at hl 0 rfl) ?_
        refine lv_iconst (v := mI 1) hx hb dX12_behindUnit_121 rfl ?_
        refine sy_icmp_ne (tgt := 130) hx hb dX12_behindUnit_122 (by decide) (by omega) (by decide) (fun c_1560 => ?_) (fun c9 => False.elim (by omega))
        refine lv_aload_n hx hb dX12_behindUnit_130 rfl (lv_at hl 1 rfl) ?_
        refine lv_aload_n hx hb dX12_behindUnit_131 rfl (lv_at hl 1 rfl) ?_
        refine rg_o_at hx hb hts hown hK hP uw_7_29 dX12_behindUnit_132 ?_
        refine g_i (rDt hD) hS hA (g_V (own := "HideReaderModel") (As := [.int (mI x_at)]) (rest := [.int (mI r_1), .ref (a 0)]) hx hb hml hown hts hK hP (rDt hD) (kr_X12_sign (l := l) (D := D) (k := k) (by omega) h_x_size b_B_text) ck_X12_sign iv_X12_sign uw_7_224 (rv_o hK hP) rfl hl.1 rfl (Nat.le_of_ble_eq_true rfl) dX12_behindUnit_135 ⟨Nat.le_of_ble_eq_true rfl, Nat.le_of_ble_eq_true rfl⟩ ⟨Nat.le_of_ble_eq_true rfl, Nat.le_of_ble_eq_true rfl⟩) (fun r_1561 H locs hQ hS => ?_)
        obtain ⟨hr_1561_0, hr_1561_1, hr_1561_2, hP⟩ := hQ
        refine g_v (rDt hD) hS hA (g_V (own := "HideReaderModel") (As := [.int (mI r_1), .int (mI r_1561)]) (rest := []) hx hb hml hown hts hK hP (rDt hD) (kr_X12_pushE (l := l) (D := D) (k := k) (by omega) (by omega) (by omega) b_B_eWhat b_B_eSign) ck_X12_pushE iv_X12_pushE uw_8_82 (rv_o hK hP) rfl hl.1 rfl (Nat.le_of_ble_eq_true rfl) dX12_behindUnit_138 ⟨Nat.le_of_ble_eq_true rfl, Nat.le_of_ble_eq_true rfl⟩ ⟨Nat.le_of_ble_eq_true rfl, Nat.le_of_ble_eq_true rfl⟩) (fun H locs hQ hS => ?_)
        obtain ⟨F_1563, F_1564, y_1565, bF_1563, bF_1564, hr_1562_2, hr_1562_3, hr_1562_4, hr_1562_5, hr_1562_6, hP⟩ := hQ
        refine lv_aload_n hx hb dX12_behindUnit_141 rfl (lv_at hl 1 rfl) ?_
        refine g_v (rDt hD) hS hA (g_V (own := "HideReaderModel") (As := []) (rest := []) hx hb hml hown hts hK hP (rDt hD) (kr_X12_goOn (l := l) (D := D) (k := k) h_x_size h_x_end h_x_number b_B_text g_E) ck_X12_goOn iv_X12_goOn uw_7_220 (rv_o hK hP) rfl hl.1 rfl (Nat.le_of_ble_eq_true rfl) dX12_behindUnit_142 ⟨Nat.le_of_ble_eq_true rfl, Nat.le_of_ble_eq_true rfl⟩ ⟨Nat.le_of_ble_eq_true rfl, Nat.le_of_ble_eq_true rfl⟩) (fun H locs hQ hS => ?_)
        obtain ⟨y_1567, y_1568, y_1569, y_1570, j_1571, hr_1566_0, hr_1566_1, hr_1566_2, hr_1566_3, hr_1566_4, hr_1566_5, kr_1566_E, hP⟩ := hQ
        refine lv_iconst (v := mI 1) hx hb dX12_behindUnit_145 rfl ?_
        exact r_z hx hb hr hlocks dX12_behindUnit_146 hS (by decide) ⟨x_faultKind, x_faultPlace, y_1567, y_1568, y_1569, y_1570, j_1571, F_1508, F_1509, F_1563, F_1564, y_1510, x_within, y_1565, by omega, by omega, by omega, by omega, by omega, by omega, by omega, bF_1508, bF_1509, bF_1563, bF_1564, by omega, by omega, by omega, by omega, by omega, by omega, by omega, (eS_bin h23_7 (by omega) (by omega) hr_1562_5 hr_1562_6 (by omega) (by omega)), by omega, by omega, by omega, kr_1566_E, g_1512, hP⟩
      · skip
        refine lv_aload_n hx hb dX12_behindUnit_39 rfl (lv_at hl 1 rfl) ?_
        refine rg_o_eWhat hx hb hts hown hK hP uw_7_53 dX12_behindUnit_40 ?_
        refine lv_aload_n hx hb dX12_behindUnit_43 rfl (lv_at hl 1 rfl) ?_
        refine rg_o_piled hx hb hts hown hK hP uw_7_60 dX12_behindUnit_44 ?_
        refine lv_iconst (v := mI 1) hx hb dX12_behindUnit_47 rfl ?_
        refine sy_isub hx hb dX12_behindUnit_48 (y_1511 - 1) rfl ?_
        refine rl_eWhat hx hb hK hP dX12_behindUnit_49 (by omega) b_B_eWhat (fun z_1572 ez_1572 hz_1572 => ?_)
        refine lv_iload_n hx hb dX12_behindUnit_50 rfl (lv_at hl 0 rfl) ?_
        refine sy_icmp_lt (tgt := 104) hx hb dX12_behindUnit_51 (by decide) (by omega) (by omega) (fun c_1573 => ?_) (fun c_1573 => ?_)
        · skip
          refine lv_iload_n hx hb dX12_behindUnit_104 rfl (lv_at hl 0 rfl) ?_
          refine sy_if_le (tgt := 147) hx hb dX12_behindUnit_105 (by decide) (by omega) (fun c9 => False.elim (by omega)) (fun c_1574 => ?_)
          refine lv_aload_n hx hb dX12_behindUnit_108 rfl (lv_at hl 1 rfl) ?_
          refine lv_iload_n hx hb dX12_behindUnit_109 rfl (lv_at hl 0 rfl) ?_
          refine lv_iload_n hx hb dX12_behindUnit_110 rfl (lv_at hl 0 rfl) ?_
          refine lv_iconst (v := mI 2) hx hb dX12_behindUnit_111 rfl ?_
          refine sy_icmp_ne (tgt := 120) hx hb dX12_behindUnit_112 (by decide) (by omega) (by decide) (fun c_1575 => ?_) (fun c9 => False.elim (by omega))
          refine lv_iload_n hx hb dX12_behindUnit_120 rfl (lv_at hl 0 rfl) ?_
          refine lv_iconst (v := mI 1) hx hb dX12_behindUnit_121 rfl ?_
          refine sy_icmp_ne (tgt := 130) hx hb dX12_behindUnit_122 (by decide) (by omega) (by decide) (fun c_1576 => ?_) (fun c9 => False.elim (by omega))
          refine lv_aload_n hx hb dX12_behindUnit_130 rfl (lv_at hl 1 rfl) ?_
          refine lv_aload_n hx hb dX12_behindUnit_131 rfl (lv_at hl 1 rfl) ?_
          refine rg_o_at hx hb hts hown hK hP uw_7_29 dX12_behindUnit_132 ?_
          refine g_i (rDt hD) hS hA (g_V (own := "HideReaderModel") (As := [.int (mI x_at)]) (rest := [.int (mI r_1), .ref (a 0)]) hx hb hml hown hts hK hP (rDt hD) (kr_X12_sign (l := l) (D := D) (k := k) (by omega) h_x_size b_B_text) ck_X12_sign iv_X12_sign uw_7_224 (rv_o hK hP) rfl hl.1 rfl (Nat.le_of_ble_eq_true rfl) dX12_behindUnit_135 ⟨Nat.le_of_ble_eq_true rfl, Nat.le_of_ble_eq_true rfl⟩ ⟨Nat.le_of_ble_eq_true rfl, Nat.le_of_ble_eq_true rfl⟩) (fun r_1577 H locs hQ hS => ?_)
          obtain ⟨hr_1577_0, hr_1577_1, hr_1577_2, hP⟩ := hQ
          refine g_v (rDt hD) hS hA (g_V (own := "HideReaderModel") (As := [.int (mI r_1), .int (mI r_1577)]) (rest := []) hx hb hml hown hts hK hP (rDt hD) (kr_X12_pushE (l := l) (D := D) (k := k) (by omega) (by omega) (by omega) b_B_eWhat b_B_eSign) ck_X12_pushE iv_X12_pushE uw_8_82 (rv_o hK hP) rfl hl.1 rfl (Nat.le_of_ble_eq_true rfl) dX12_behindUnit_138 ⟨Nat.le_of_ble_eq_true rfl, Nat.le_of_ble_eq_true rfl⟩ ⟨Nat.le_of_ble_eq_true rfl, Nat.le_of_ble_eq_true rfl⟩) (fun H locs hQ hS => ?_)
          obtain ⟨F_1579, F_1580, y_1581, bF_1579, bF_1580, hr_1578_2, hr_1578_3, hr_1578_4, hr_1578_5, hr_1578_6, hP⟩ := hQ
          refine lv_aload_n hx hb dX12_behindUnit_141 rfl (lv_at hl 1 rfl) ?_
          refine g_v (rDt hD) hS hA (g_V (own := "HideReaderModel") (As := []) (rest := []) hx hb hml hown hts hK hP (rDt hD) (kr_X12_goOn (l := l) (D := D) (k := k) h_x_size h_x_end h_x_number b_B_text g_E) ck_X12_goOn iv_X12_goOn uw_7_220 (rv_o hK hP) rfl hl.1 rfl (Nat.le_of_ble_eq_true rfl) dX12_behindUnit_142 ⟨Nat.le_of_ble_eq_true rfl, Nat.le_of_ble_eq_true rfl⟩ ⟨Nat.le_of_ble_eq_true rfl, Nat.le_of_ble_eq_true rfl⟩) (fun H locs hQ hS => ?_)
          obtain ⟨y_1583, y_1584, y_1585, y_1586, j_1587, hr_1582_0, hr_1582_1, hr_1582_2, hr_1582_3, hr_1582_4, hr_1582_5, kr_1582_E, hP⟩ := hQ
          refine lv_iconst (v := mI 1) hx hb dX12_behindUnit_145 rfl ?_
          exact r_z hx hb hr hlocks dX12_behindUnit_146 hS (by decide) ⟨x_faultKind, x_faultPlace, y_1583, y_1584, y_1585, y_1586, j_1587, F_1508, F_1509, F_1579, F_1580, y_1510, x_within, y_1581, by omega, by omega, by omega, by omega, by omega, by omega, by omega, bF_1508, bF_1509, bF_1579, bF_1580, by omega, by omega, by omega, by omega, by omega, by omega, by omega, (eS_bin h23_7 (by omega) (by omega) hr_1578_5 hr_1578_6 (by omega) (by omega)), by omega, by omega, by omega, kr_1582_E, g_1512, hP⟩
        · skip
          have h_1588 := eI_b h23_7
          have h_1588u := b_B_units x_rb.toNat
          have h_1588c : y_1510 ≤ 1119 ∧ 560 * x_rb ≤ y_1510 ∧ y_1510 ≤ 560 * x_rb + 559 := by omega
          have h_1588w := eI_w3 h23_7 ez_1572
          have h_1588p := eI_not1 h23_7 ez_1572
          refine lv_aload_n hx hb dX12_behindUnit_54 rfl (lv_at hl 1 rfl) ?_
          refine lv_dup hx hb dX12_behindUnit_55 rfl ?_
          refine rg_o_piled hx hb hts hown hK hP uw_7_60 dX12_behindUnit_56 ?_
          refine lv_iconst (v := mI 1) hx hb dX12_behindUnit_59 rfl ?_
          refine sy_isub hx hb dX12_behindUnit_60 (y_1511 - 1) rfl ?_
          refine rp_o_piled hx hb hts hown hK hP hD hS uw_7_60 dX12_behindUnit_61 (fun H locs hP hS => ?_)
          refine lv_aload_n hx hb dX12_behindUnit_64 rfl (lv_at hl 1 rfl) ?_
          refine rg_o_eWhat hx hb hts hown hK hP uw_7_53 dX12_behindUnit_65 ?_
          refine lv_aload_n hx hb dX12_behindUnit_68 rfl (lv_at hl 1 rfl) ?_
          refine rg_o_piled hx hb hts hown hK hP uw_7_60 dX12_behindUnit_69 ?_
          refine rl_eWhat hx hb hK hP dX12_behindUnit_72 (by omega) b_B_eWhat (fun z_1589 ez_1589 hz_1589 => ?_)
          refine lv_iconst (v := mI 3) hx hb dX12_behindUnit_73 rfl ?_
          refine sy_icmp_ne (tgt := 87) hx hb dX12_behindUnit_74 (by decide) (by omega) (by decide) (fun c_1590 => ?_) (fun c9 => False.elim (by omega))
          refine lv_aload_n hx hb dX12_behindUnit_87 rfl (lv_at hl 1 rfl) ?_
          refine lv_aload_n hx hb dX12_behindUnit_88 rfl (lv_at hl 1 rfl) ?_
          refine rg_o_eSign hx hb hts hown hK hP uw_7_54 dX12_behindUnit_89 ?_
          refine lv_aload_n hx hb dX12_behindUnit_92 rfl (lv_at hl 1 rfl) ?_
          refine rg_o_piled hx hb hts hown hK hP uw_7_60 dX12_behindUnit_93 ?_
          refine rl_eSign hx hb hK hP dX12_behindUnit_96 (by omega) b_B_eSign (fun z_1591 ez_1591 hz_1591 => ?_)
          refine lv_iconst (v := mI 0) hx hb dX12_behindUnit_97 rfl ?_
          refine g_v (rDt hD) hS hA (g_V (own := "HideReaderModel") (As := [.int (mI z_1591), .int (mI 0)]) (rest := []) hx hb hml hown hts hK hP (rDt hD) (kr_X12_emit (l := l) (D := D) (k := k) (by omega) (by decide) h_x_bank h_x_rb (by omega) bF_1508 bF_1509 g_L g_1512 (by omega) (by omega)) ck_X12_emit iv_X12_emit uw_8_98 (rv_o hK hP) rfl hl.1 rfl (Nat.le_of_ble_eq_true rfl) dX12_behindUnit_98 ⟨Nat.le_of_ble_eq_true rfl, Nat.le_of_ble_eq_true rfl⟩ ⟨Nat.le_of_ble_eq_true rfl, Nat.le_of_ble_eq_true rfl⟩) (fun H locs hQ hS => ?_)
          obtain ⟨F_1593, F_1594, y_1595, bF_1593, bF_1594, hr_1592_2, hr_1592_3, hr_1592_4, hr_1592_5, kr_1592_Q, hP⟩ := hQ
          obtain ⟨g_1596p, g_1596⟩ := eS_pop (within2 := x_within) h23_7 ez_1589 (by omega) ez_1591 hr_1592_5 (by omega) (by omega)
          refine lv_goto (tgt := 23) hx hb dX12_behindUnit_101 (by decide) ?_
          exact ih_1555 _ _ _ _ (by omega) ⟨F_1593, F_1594, y_1595, (y_1511 - 1), _, bF_1593, bF_1594, by omega, by omega, kr_1592_Q, by omega, by omega, g_1596, rfl, hP, hS, lv_sub hl [0, 1] rfl, rfl⟩
    · skip
      refine lv_aload_n hx hb dX12_behindUnit_17 rfl (lv_at hl 1 rfl) ?_
      refine g_v (rDt hD) hS hA (g_V (own := "HideReaderModel") (As := []) (rest := []) hx hb hml hown hts hK hP (rDt hD) (kr_X12_misplaced (l := l) (D := D) (k := k) (by omega) h_x_faultPlace h_x_at h_x_token) ck_X12_misplaced iv_X12_misplaced uw_8_34 (rv_o hK hP) rfl hl.1 rfl (Nat.le_of_ble_eq_true rfl) dX12_behindUnit_18 ⟨Nat.le_of_ble_eq_true rfl, Nat.le_of_ble_eq_true rfl⟩ ⟨Nat.le_of_ble_eq_true rfl, Nat.le_of_ble_eq_true rfl⟩) (fun H locs hQ hS => ?_)
      obtain ⟨y_1598, y_1599, hr_1597_0, hr_1597_1, hr_1597_2, hP⟩ := hQ
      refine lv_iconst (v := mI 1) hx hb dX12_behindUnit_21 rfl ?_
      exact r_z hx hb hr hlocks dX12_behindUnit_22 hS (by decide) ⟨y_1598, y_1599, x_at, x_end, x_token, x_number, n_name, B_code, B_codeNumber, B_eWhat, B_eSign, x_codes, x_within, x_piled, by omega, by omega, by omega, by omega, by omega, by omega, by omega, b_B_code, b_B_codeNumber, b_B_eWhat, b_B_eSign, by omega, by omega, by omega, by omega, by omega, by omega, by omega, (eS_f (by omega)), by omega, by omega, by omega, g_E, g_Q, hP⟩
set_option maxHeartbeats 4000000 in
set_option maxRecDepth 100000 in
theorem kr_X12_e (h_x_size : 0 ≤ x_size ∧ x_size ≤ 1600) (h_x_faultKind : 0 ≤ x_faultKind ∧ x_faultKind ≤ 5) (h_x_faultPlace : -1 ≤ x_faultPlace ∧ x_faultPlace ≤ 1600) (h_x_at : 0 ≤ x_at ∧ x_at ≤ 1600) (h_x_end : 0 ≤ x_end ∧ x_end ≤ 1600) (h_x_token : 0 ≤ x_token ∧ x_token ≤ 5) (h_x_number : -2147483648 ≤ x_number ∧ x_number ≤ 2147483647) (h_x_bank : 0 ≤ x_bank ∧ x_bank ≤ 1) (h_x_rb : 0 ≤ x_rb ∧ x_rb ≤ 1) (h_x_codes : 0 ≤ x_codes ∧ x_codes ≤ 1120) (h_x_unitsInRule : 0 ≤ x_unitsInRule ∧ x_unitsInRule ≤ 0) (b_B_text : bd (-128) 127 B_text) (b_B_units : bd (0) 60 B_units) (b_B_code : bd (-2147483648) 2147483647 B_code) (b_B_codeNumber : bd (-2147483648) 2147483647 B_codeNumber) (b_B_eWhat : bd (0) 8 B_eWhat) (b_B_eSign : bd (-2147483648) 2147483647 B_eSign) (g_E : x_end ≤ x_size) (g_L : x_rb + x_bank = 1) (g_Q : rQ x_bank B_told B_ruleFrom B_ruleTo B_code) (g_SS : 1 ≤ x_faultKind ∨ (1 ≤ B_turns x_rb.toNat ∧ ¬ B_turns x_rb.toNat = 3)) (hY : 1 ≤ x_faultKind ∨ (0 ≤ 560 * x_rb + 9 * B_units x_rb.toNat - x_codes ∧ 560 * x_rb ≤ x_codes)) : MetG l D k yX12_e cX12_e 2 none 4 [.ref (a 0)] (rW k a x_taped x_size x_faultKind x_faultPlace x_at x_end x_token x_number x_bank x_rb x_codes x_within x_piled x_unitsInRule x_askBeast x_askStroke x_askAge x_askSeason x_acts x_undone x_laid x_seens x_time x_fitting n_name B_tape B_text B_turns B_herds B_irons B_beasts B_units B_night B_draw B_told B_brands B_ironMarks B_herdTold B_born B_ruleFrom B_ruleTo B_code B_codeNumber B_eWhat B_eSign B_pile B_all B_burned B_was B_need B_laidRow B_long8 B_brings B_sBurning B_sStroke B_sIs B_sTold B_sUntold B_parts B_boxAll B_isBoxed G_hName G_iName G_bName ex) (qGv (fun H => ∃ (y_faultKind : Int) (y_faultPlace : Int) (y_at : Int) (y_end : Int) (y_token : Int) (y_number : Int) (j_name : Int64) (F_units : Nat → Int) (F_code : Nat → Int) (F_codeNumber : Nat → Int) (F_eWhat : Nat → Int) (F_eSign : Nat → Int) (y_codes : Int) (y_within : Int) (y_piled : Int) (y_unitsInRule : Int), (0 ≤ y_faultKind ∧ y_faultKind ≤ 5) ∧ (-1 ≤ y_faultPlace ∧ y_faultPlace ≤ 1600) ∧ (0 ≤ y_at ∧ y_at ≤ 1600) ∧ (0 ≤ y_end ∧ y_end ≤ 1600) ∧ (0 ≤ y_token ∧ y_token ≤ 5) ∧ (-2147483648 ≤ y_number ∧ y_number ≤ 2147483647) ∧ (bd (0) 60 F_units) ∧ (bd (-2147483648) 2147483647 F_code) ∧ (bd (-2147483648) 2147483647 F_codeNumber) ∧ (bd (0) 8 F_eWhat) ∧ (bd (-2147483648) 2147483647 F_eSign) ∧ (0 ≤ y_codes ∧ y_codes ≤ 1120) ∧ (0 ≤ y_within ∧ y_within ≤ 7) ∧ (0 ≤ y_piled ∧ y_piled ≤ 38) ∧ (0 ≤ y_unitsInRule ∧ y_unitsInRule ≤ 30) ∧ (0 ≤ y_faultKind - x_faultKind) ∧ (0 ≤ y_end - x_end) ∧ (0 ≤ y_codes - x_codes) ∧ (0 ≤ y_unitsInRule - x_unitsInRule) ∧ (1 ≤ x_token ∨ 1 ≤ y_faultKind) ∧ (1 ≤ y_faultKind ∨ y_token ≤ 0 ∨ x_end + 1 ≤ y_end) ∧ (1 ≤ y_faultKind ∨ eOK x_codes y_codes y_unitsInRule F_code) ∧ (1 ≤ y_faultKind ∨ (0 ≤ 560 * x_rb + 9 * F_units x_rb.toNat - 9 * y_unitsInRule - x_codes ∧ 560 * x_rb ≤ x_codes)) ∧ (y_end ≤ x_size) ∧ (rQ x_bank B_told B_ruleFrom B_ruleTo F_code) ∧ va_P D vwCl (rW k a x_taped x_size y_faultKind y_faultPlace y_at y_end y_token y_number x_bank x_rb y_codes y_within y_piled y_unitsInRule x_askBeast x_askStroke x_askAge x_askSeason x_acts x_undone x_laid x_seens x_time x_fitting j_name B_tape B_text B_turns B_herds B_irons B_beasts F_units B_night B_draw B_told B_brands B_ironMarks B_herdTold B_born B_ruleFrom B_ruleTo F_code F_codeNumber F_eWhat F_eSign B_pile B_all B_burned B_was B_need B_laidRow B_long8 B_brings B_sBurning B_sStroke B_sIs B_sTold B_sUntold B_parts B_boxAll B_isBoxed G_hName G_iName G_bName ex) H)) := by
  refine metG_of 0 ck_X12_e (Nat.le_of_ble_eq_true rfl) rMap (fun p e s m args below meth c A hx hb hml hr hlocks hown hts hK hD hA hP hS ls hl => ?_)
  have hown : s.vm.findClass "HideReaderModel" = some m.cls := hown
  have hl : lv_has ls 2 [(0, .ref (a 0))] := hl
  refine lv_aload_n hx hb dX12_e_0 rfl (lv_at hl 0 rfl) ?_
  refine lv_iconst (v := mI 0) hx hb dX12_e_1 rfl ?_
  refine rp_o_piled hx hb hts hown hK hP hD hS uw_7_60 dX12_e_2 (fun H locs hP hS => ?_)
  refine lv_aload_n hx hb dX12_e_5 rfl (lv_at hl 0 rfl) ?_
  refine lv_iconst (v := mI 0) hx hb dX12_e_6 rfl ?_
  refine rp_o_within hx hb hts hown hK hP hD hS uw_7_59 dX12_e_7 (fun H locs hP hS => ?_)
  refine lv_aload_n hx hb dX12_e_10 rfl (lv_at hl 0 rfl) ?_
  refine lv_bipush (v := mI 8) hx hb dX12_e_11 (by decide) ?_
  refine lv_iconst (v := mI 0) hx hb dX12_e_13 rfl ?_
  refine g_v (rDt hD) hS hA (g_V (own := "HideReaderModel") (As := [.int (mI 8), .int (mI 0)]) (rest := []) hx hb hml hown hts hK hP (rDt hD) (kr_X12_pushE (l := l) (D := D) (k := k) (by decide) (by decide) (by omega) b_B_eWhat b_B_eSign) ck_X12_pushE iv_X12_pushE uw_8_82 (rv_o hK hP) rfl hl.1 rfl (Nat.le_of_ble_eq_true rfl) dX12_e_14 ⟨Nat.le_of_ble_eq_true rfl, Nat.le_of_ble_eq_true rfl⟩ ⟨Nat.le_of_ble_eq_true rfl, Nat.le_of_ble_eq_true rfl⟩) (fun H locs hQ hS => ?_)
  obtain ⟨F_2, F_3, y_4, bF_2, bF_3, hr_1_2, hr_1_3, hr_1_4, hr_1_5, hr_1_6, hP⟩ := hQ
  refine lv_iconst (v := mI 1) hx hb dX12_e_17 rfl ?_
  refine lv_istore_n (lv' := [(1, .int (mI 1)), (0, .ref (a 0))]) hx hb dX12_e_18 rfl hl (by decide) rfl (fun ls hl => ?_)
  refine sy_loop (I := fun n H locs g => ∃ (z_1312 : Int) (y_1313 : Int) (y_1314 : Int) (y_1315 : Int) (y_1316 : Int) (y_1317 : Int) (y_1318 : Int) (j_1319 : Int64) (F_1320 : Nat → Int) (F_1321 : Nat → Int) (F_1322 : Nat → Int) (F_1323 : Nat → Int) (F_1324 : Nat → Int) (y_1325 : Int) (y_1326 : Int) (y_1327 : Int) (y_1328 : Int) (ls : Array Slot), (0 ≤ z_1312 ∧ z_1312 ≤ 1) ∧ (0 ≤ y_1313 ∧ y_1313 ≤ 5) ∧ (-1 ≤ y_1314 ∧ y_1314 ≤ 1600) ∧ (0 ≤ y_1315 ∧ y_1315 ≤ 1600) ∧ (0 ≤ y_1316 ∧ y_1316 ≤ 1600) ∧ (0 ≤ y_1317 ∧ y_1317 ≤ 5) ∧ (-2147483648 ≤ y_1318 ∧ y_1318 ≤ 2147483647) ∧ (bd (0) 60 F_1320) ∧ (bd (-2147483648) 2147483647 F_1321) ∧ (bd (-2147483648) 2147483647 F_1322) ∧ (bd (0) 8 F_1323) ∧ (bd (-2147483648) 2147483647 F_1324) ∧ (0 ≤ y_1325 ∧ y_1325 ≤ 1120) ∧ (0 ≤ y_1326 ∧ y_1326 ≤ 7) ∧ (0 ≤ y_1327 ∧ y_1327 ≤ 38) ∧ (0 ≤ y_1328 ∧ y_1328 ≤ 30) ∧ (y_1316 ≤ x_size) ∧ (rQ x_bank B_told B_ruleFrom B_ruleTo F_1321) ∧ (1 ≤ y_1313 ∨ (1 ≤ B_turns x_rb.toNat ∧ ¬ B_turns x_rb.toNat = 3)) ∧ (0 ≤ y_1325 - x_codes) ∧ (0 ≤ y_1316 - x_end) ∧ (0 ≤ y_1313 - x_faultKind) ∧ (0 ≤ y_1328 - x_unitsInRule) ∧ (eSt y_1313 z_1312 x_codes y_1325 y_1327 y_1326 y_1328 F_1321 F_1323 F_1324) ∧ (1 ≤ y_1313 ∨ (0 ≤ 560 * x_rb + 9 * F_1320 x_rb.toNat - 9 * y_1328 - x_codes ∧ 560 * x_rb ≤ x_codes)) ∧ (1 ≤ x_token ∨ 1 ≤ y_1313 ∨ (z_1312 = 1 ∧ y_1317 = x_token)) ∧ (1 ≤ y_1313 ∨ y_1317 ≤ 0 ∨ x_end + 1 ≤ y_1316 ∨ (z_1312 = 1 ∧ y_1316 = x_end ∧ y_1317 = x_token)) ∧ (1000 * (2 * (1600 - y_1316) + (y_1317 + 4) / 5) + 10 * y_1327 + 5 - y_1313).toNat = n ∧ va_P D vwCl (rW k a x_taped x_size y_1313 y_1314 y_1315 y_1316 y_1317 y_1318 x_bank x_rb y_1325 y_1326 y_1327 y_1328 x_askBeast x_askStroke x_askAge x_askSeason x_acts x_undone x_laid x_seens x_time x_fitting j_1319 B_tape B_text B_turns B_herds B_irons B_beasts F_1320 B_night B_draw B_told B_brands B_ironMarks B_herdTold B_born B_ruleFrom B_ruleTo F_1321 F_1322 F_1323 F_1324 B_pile B_all B_burned B_was B_need B_laidRow B_long8 B_brings B_sBurning B_sStroke B_sIs B_sTold B_sUntold B_parts B_boxAll B_isBoxed G_hName G_iName G_bName ex) H ∧ va_S A s.heap H locs ∧ lv_has ls 2 [(1, .int (mI z_1312)), (0, .ref (a 0))] ∧ g = F0 m 19 ls []) ?_ _ ⟨1, x_faultKind, x_faultPlace, x_at, x_end, x_token, x_number, n_name, B_units, B_code, B_codeNumber, F_2, F_3, x_codes, 0, y_4, x_unitsInRule, _, by omega, by omega, by omega, by omega, by omega, by omega, by omega, b_B_units, b_B_code, b_B_codeNumber, bF_2, bF_3, by omega, by omega, by omega, by omega, g_E, g_Q, g_SS, by omega, by omega, by omega, by omega, (eS_0 hr_1_5 (by omega) (by omega) (by omega) (by omega)), by omega, by omega, by omega, rfl, hP, hS, lv_sub hl [0, 1] rfl, rfl⟩
  intro n_1376 H locs g hI ih_1377
  obtain ⟨z_1312, y_1313, y_1314, y_1315, y_1316, y_1317, y_1318, j_1319, F_1320, F_1321, F_1322, F_1323, F_1324, y_1325, y_1326, y_1327, y_1328, ls, h19_0, h19_1, h19_2, h19_3, h19_4, h19_5, h19_6, bF_1320, bF_1321, bF_1322, bF_1323, bF_1324, h19_12, h19_13, h19_14, h19_15, g_1329, g_1330, g_1331, h19_19, h19_20, h19_21, h19_22, h19_23, h19_24, h19_25, h19_26, mn_1376, hP, hS, hl, rfl⟩ := hI
  refine lv_aload_n hx hb dX12_e_19 rfl (lv_at hl 1 rfl) ?_
  refine g_i (rDt hD) hS hA (g_V (own := "HideReaderModel") (As := []) (rest := []) hx hb hml hown hts hK hP (rDt hD) (kr_X12_isGood (l := l) (D := D) (k := k) (by omega)) ck_X12_isGood iv_X12_isGood uw_8_18 (rv_o hK hP) rfl hl.1 rfl (Nat.le_of_ble_eq_true rfl) dX12_e_20 ⟨Nat.le_of_ble_eq_true rfl, Nat.le_of_ble_eq_true rfl⟩ ⟨Nat.le_of_ble_eq_true rfl, Nat.le_of_ble_eq_true rfl⟩) (fun r_1378 H locs hQ hS => ?_)
  obtain ⟨hq_r_1378, hP⟩ := hQ
  rcases hq_r_1378 with ⟨rfl, c_1379_0, c_1379_1⟩ | ⟨rfl, c_1380_0⟩
  · skip
    refine sy_if_eq (tgt := 52) hx hb dX12_e_23 (by decide) (by decide) (fun c_1381 => ?_) (fun c9 => absurd c9 (by decide))
    exact r_v hx hb hr hlocks dX12_e_52 hS ⟨y_1313, y_1314, y_1315, y_1316, y_1317, y_1318, j_1319, F_1320, F_1321, F_1322, F_1323, F_1324, y_1325, y_1326, y_1327, y_1328, by omega, by omega, by omega, by omega, by omega, by omega, bF_1320, bF_1321, bF_1322, bF_1323, bF_1324, by omega, by omega, by omega, by omega, by omega, by omega, by omega, by omega, by omega, by omega, (Or.inl (by omega)), by omega, g_1329, g_1330, hP⟩
  · skip
    refine sy_if_eq (tgt := 52) hx hb dX12_e_23 (by decide) (by decide) (fun c9 => absurd c9 (by decide)) (fun c_1382 => ?_)
    have h_1383 := eSt_p h19_23
    refine lv_aload_n hx hb dX12_e_26 rfl (lv_at hl 1 rfl) ?_
    refine rg_o_piled hx hb hts hown hK hP uw_7_60 dX12_e_27 ?_
    refine sy_if_le (tgt := 52) hx hb dX12_e_30 (by decide) (by omega) (fun c_1384 => ?_) (fun c_1384 => ?_)
    · skip
      exact r_v hx hb hr hlocks dX12_e_52 hS ⟨y_1313, y_1314, y_1315, y_1316, y_1317, y_1318, j_1319, F_1320, F_1321, F_1322, F_1323, F_1324, y_1325, y_1326, y_1327, y_1328, by omega, by omega, by omega, by omega, by omega, by omega, bF_1320, bF_1321, bF_1322, bF_1323, bF_1324, by omega, by omega, by omega, by omega, by omega, by omega, by omega, by omega, by omega, by omega, (Or.inr (eSt_e h19_23 (by omega) (by omega)).2), by omega, g_1329, g_1330, hP⟩
    · skip
      refine lv_iload_n hx hb dX12_e_33 rfl (lv_at hl 0 rfl) ?_
      refine sy_if_eq (tgt := 44) hx hb dX12_e_34 (by decide) (by omega) (fun c_1385 => ?_) (fun c_1385 => ?_)
      · skip
        have h_1386g := eSt_0 h19_23 (by omega) (by omega) (by omega)
        have h_1386 := eI_b h_1386g
        have h_1386u := bF_1320 x_rb.toNat
        have h_1386c : y_1325 ≤ 1119 := by omega
        refine lv_aload_n hx hb dX12_e_44 rfl (lv_at hl 1 rfl) ?_
        refine g_i (rDt hD) hS hA (g_V (own := "HideReaderModel") (As := []) (rest := []) hx hb hml hown hts hK hP (rDt hD) (kr_X12_behindUnit (l := l) (D := D) (k := k) h_x_size (by omega) (by omega) (by omega) (by omega) (by omega) (by omega) h_x_bank h_x_rb (by omega) (by omega) (by omega) (by omega) b_B_text bF_1320 bF_1321 bF_1322 bF_1323 bF_1324 g_1329 g_L g_1330 h_1386g (by omega)) ck_X12_behindUnit iv_X12_behindUnit uw_8_102 (rv_o hK hP) rfl hl.1 rfl (Nat.le_of_ble_eq_true rfl) dX12_e_45 ⟨Nat.le_of_ble_eq_true rfl, Nat.le_of_ble_eq_true rfl⟩ ⟨Nat.le_of_ble_eq_true rfl, Nat.le_of_ble_eq_true rfl⟩) (fun r_1387 H locs hQ hS => ?_)
        obtain ⟨y_1388, y_1389, y_1390, y_1391, y_1392, y_1393, j_1394, F_1395, F_1396, F_1397, F_1398, y_1399, y_1400, y_1401, hr_1387_0, hr_1387_1, hr_1387_2, hr_1387_3, hr_1387_4, hr_1387_5, hr_1387_6, bF_1395, bF_1396, bF_1397, bF_1398, hr_1387_11, hr_1387_12, hr_1387_13, hr_1387_14, hr_1387_15, hr_1387_16, hr_1387_17, hr_1387_18, hr_1387_19, hr_1387_20, hr_1387_21, kr_1387_E, kr_1387_Q, hP⟩ := hQ
        have h_1402 := eSt_b hr_1387_18
        have h_1402p : y_1401 ≤ 38 := by omega
        refine lv_istore_n (lv' := [(1, .int (mI r_1387)), (0, .ref (a 0))]) hx hb dX12_e_48 rfl hl (by decide) rfl (fun ls hl => ?_)
        refine lv_goto (tgt := 19) hx hb dX12_e_49 (by decide) ?_
        exact ih_1377 _ _ _ _ (by omega) ⟨r_1387, y_1388, y_1389, y_1390, y_1391, y_1392, y_1393, j_1394, F_1320, F_1395, F_1396, F_1397, F_1398, y_1399, y_1400, y_1401, y_1328, _, by omega, by omega, by omega, by omega, by omega, by omega, by omega, bF_1320, bF_1395, bF_1396, bF_1397, bF_1398, by omega, by omega, by omega, by omega, kr_1387_E, kr_1387_Q, (by omega), by omega, by omega, by omega, by omega, hr_1387_18, by omega, by omega, by omega, rfl, hP, hS, lv_sub hl [0, 1] rfl, rfl⟩
      · skip
        have h_1403g := eSt_1 h19_23 (by omega) (by omega)
        have h_1403 := eI_b h_1403g
        have h_1403u := bF_1320 x_rb.toNat
        have h_1403c : y_1325 ≤ 1119 := by omega
        refine lv_aload_n hx hb dX12_e_37 rfl (lv_at hl 1 rfl) ?_
        refine g_i (rDt hD) hS hA (g_V (own := "HideReaderModel") (As := []) (rest := []) hx hb hml hown hts hK hP (rDt hD) (kr_X12_unit (l := l) (D := D) (k := k) h_x_size (by omega) (by omega) (by omega) (by omega) (by omega) (by omega) h_x_bank h_x_rb (by omega) (by omega) (by omega) (by omega) b_B_text bF_1320 bF_1321 bF_1322 bF_1323 bF_1324 g_1329 g_L g_1330 h_1403g (by omega)) ck_X12_unit iv_X12_unit uw_8_86 (rv_o hK hP) rfl hl.1 rfl (Nat.le_of_ble_eq_true rfl) dX12_e_38 ⟨Nat.le_of_ble_eq_true rfl, Nat.le_of_ble_eq_true rfl⟩ ⟨Nat.le_of_ble_eq_true rfl, Nat.le_of_ble_eq_true rfl⟩) (fun r_1404 H locs hQ hS => ?_)
        obtain ⟨y_1405, y_1406, y_1407, y_1408, y_1409, y_1410, j_1411, F_1412, F_1413, F_1414, F_1415, F_1416, y_1417, y_1418, y_1419, y_1420, hr_1404_0, hr_1404_1, hr_1404_2, hr_1404_3, hr_1404_4, hr_1404_5, hr_1404_6, bF_1412, bF_1413, bF_1414, bF_1415, bF_1416, hr_1404_12, hr_1404_13, hr_1404_14, hr_1404_15, hr_1404_16, hr_1404_17, hr_1404_18, hr_1404_19, hr_1404_20, hr_1404_21, hr_1404_22, hr_1404_23, hr_1404_24, hr_1404_25, kr_1404_E, kr_1404_Q, hP⟩ := hQ
        have h_1421 := eSt_b hr_1404_22
        have h_1421p : y_1419 ≤ 38 := by omega
        refine lv_goto (tgt := 48) hx hb dX12_e_41 (by decide) ?_
        refine lv_istore_n (lv' := [(1, .int (mI r_1404)), (0, .ref (a 0))]) hx hb dX12_e_48 rfl hl (by decide) rfl (fun ls hl => ?_)
        refine lv_goto (tgt := 19) hx hb dX12_e_49 (by decide) ?_
        exact ih_1377 _ _ _ _ (by omega) ⟨r_1404, y_1405, y_1406, y_1407, y_1408, y_1409, y_1410, j_1411, F_1412, F_1413, F_1414, F_1415, F_1416, y_1417, y_1418, y_1419, y_1420, _, by omega, by omega, by omega, by omega, by omega, by omega, by omega, bF_1412, bF_1413, bF_1414, bF_1415, bF_1416, by omega, by omega, by omega, by omega, kr_1404_E, kr_1404_Q, (by omega), by omega, by omega, by omega, by omega, hr_1404_22, by omega, by omega, by omega, rfl, hP, hS, lv_sub hl [0, 1] rfl, rfl⟩
set_option maxHeartbeats 4000000 in
set_option maxRecDepth 100000 in
theorem kr_X12_readRule (h_x_size : 0 ≤ x_size ∧ x_size ≤ 1600) (h_x_faultKind : 0 ≤ x_faultKind ∧ x_faultKind ≤ 5) (h_x_faultPlace : -1 ≤ x_faultPlace ∧ x_faultPlace ≤ 1600) (h_x_at : 0 ≤ x_at ∧ x_at ≤ 1600) (h_x_end : 0 ≤ x_end ∧ x_end ≤ 1600) (h_x_token : 0 ≤ x_token ∧ x_token ≤ 5) (h_x_number : -2147483648 ≤ x_number ∧ x_number ≤ 2147483647) (h_x_bank : 0 ≤ x_bank ∧ x_bank ≤ 1) (h_x_rb : 0 ≤ x_rb ∧ x_rb ≤ 1) (h_x_codes : 0 ≤ x_codes ∧ x_codes ≤ 1120) (b_B_text : bd (-128) 127 B_text) (b_B_units : bd (0) 60 B_units) (b_B_told : bd (0) 31 B_told) (b_B_ruleFrom : bd (0) 1120 B_ruleFrom) (b_B_ruleTo : bd (0) 1120 B_ruleTo) (b_B_code : bd (-2147483648) 2147483647 B_code) (b_B_codeNumber : bd (-2147483648) 2147483647 B_codeNumber) (b_B_eWhat : bd (0) 8 B_eWhat) (b_B_eSign : bd (-2147483648) 2147483647 B_eSign) (g_E : x_end ≤ x_size) (g_Z : 1 ≤ x_faultKind ∨ (0 ≤ 560 * x_rb + 9 * B_units x_rb.toNat - x_codes ∧ 560 * x_rb ≤ x_codes)) (g_L : x_rb + x_bank = 1) (g_Q : rQ x_bank B_told B_ruleFrom B_ruleTo B_code) (g_SS : 1 ≤ x_faultKind ∨ (1 ≤ B_turns x_rb.toNat ∧ ¬ B_turns x_rb.toNat = 3)) : MetG l D k yX12_readRule cX12_readRule 1 none 5 [.ref (a 0)] (rW k a x_taped x_size x_faultKind x_faultPlace x_at x_end x_token x_number x_bank x_rb x_codes x_within x_piled x_unitsInRule x_askBeast x_askStroke x_askAge x_askSeason x_acts x_undone x_laid x_seens x_time x_fitting n_name B_tape B_text B_turns B_herds B_irons B_beasts B_units B_night B_draw B_told B_brands B_ironMarks B_herdTold B_born B_ruleFrom B_ruleTo B_code B_codeNumber B_eWhat B_eSign B_pile B_all B_burned B_was B_need B_laidRow B_long8 B_brings B_sBurning B_sStroke B_sIs B_sTold B_sUntold B_parts B_boxAll B_isBoxed G_hName G_iName G_bName ex) (qGv (fun H => ∃ (y_faultKind : Int) (y_faultPlace : Int) (y_at : Int) (y_end : Int) (y_token : Int) (y_number : Int) (j_name : Int64) (F_units : Nat → Int) (F_told : Nat → Int) (F_ruleFrom : Nat → Int) (F_ruleTo : Nat → Int) (F_code : Nat → Int) (F_codeNumber : Nat → Int) (F_eWhat : Nat → Int) (F_eSign : Nat → Int) (y_codes : Int) (y_within : Int) (y_piled : Int) (y_unitsInRule : Int), (0 ≤ y_faultKind ∧ y_faultKind ≤ 5) ∧ (-1 ≤ y_faultPlace ∧ y_faultPlace ≤ 1600) ∧ (0 ≤ y_at ∧ y_at ≤ 1600) ∧ (0 ≤ y_end ∧ y_end ≤ 1600) ∧ (0 ≤ y_token ∧ y_token ≤ 5) ∧ (-2147483648 ≤ y_number ∧ y_number ≤ 2147483647) ∧ (bd (0) 60 F_units) ∧ (bd (0) 31 F_told) ∧ (bd (0) 1120 F_ruleFrom) ∧ (bd (0) 1120 F_ruleTo) ∧ (bd (-2147483648) 2147483647 F_code) ∧ (bd (-2147483648) 2147483647 F_codeNumber) ∧ (bd (0) 8 F_eWhat) ∧ (bd (-2147483648) 2147483647 F_eSign) ∧ (0 ≤ y_codes ∧ y_codes ≤ 1120) ∧ (0 ≤ y_within ∧ y_within ≤ 7) ∧ (0 ≤ y_piled ∧ y_piled ≤ 38) ∧ (0 ≤ y_unitsInRule ∧ y_unitsInRule ≤ 30) ∧ (0 ≤ y_faultKind - x_faultKind) ∧ (0 ≤ y_end - x_end) ∧ (0 ≤ y_codes - x_codes) ∧ (1 ≤ y_faultKind ∨ y_token ≤ 0 ∨ x_end + 1 ≤ y_end) ∧ (1 ≤ x_token ∨ 1 ≤ y_faultKind) ∧ (y_end ≤ x_size) ∧ (1 ≤ y_faultKind ∨ (0 ≤ 560 * x_rb + 9 * F_units x_rb.toNat - y_codes ∧ 560 * x_rb ≤ y_codes)) ∧ (rQ x_bank F_told F_ruleFrom F_ruleTo F_code) ∧ (1 ≤ y_faultKind ∨ rQ x_rb F_told F_ruleFrom F_ruleTo F_code) ∧ va_P D vwCl (rW k a x_taped x_size y_faultKind y_faultPlace y_at y_end y_token y_number x_bank x_rb y_codes y_within y_piled y_unitsInRule x_askBeast x_askStroke x_askAge x_askSeason x_acts x_undone x_laid x_seens x_time x_fitting j_name B_tape B_text B_turns B_herds B_irons B_beasts F_units B_night B_draw F_told B_brands B_ironMarks B_herdTold B_born F_ruleFrom F_ruleTo F_code F_codeNumber F_eWhat F_eSign B_pile B_all B_burned B_was B_need B_laidRow B_long8 B_brings B_sBurning B_sStroke B_sIs B_sTold B_sUntold B_parts B_boxAll B_isBoxed G_hName G_iName G_bName ex) H)) := by
  refine metG_of 0 ck_X12_readRule (Nat.le_of_ble_eq_true rfl) rMap (fun p e s m args below meth c A hx hb hml hr hlocks hown hts hK hD hA hP hS ls hl => ?_)
  have hown : s.vm.findClass "HideReaderModel" = some m.cls := hown
  have hl : lv_has ls 1 [(0, .ref (a 0))] := hl
  refine lv_aload_n hx hb dX12_readRule_0 rfl (lv_at hl 0 rfl) ?_
  refine rg_o_told hx hb hts hown hK hP uw_7_41 dX12_readRule_1 ?_
  refine lv_aload_n hx hb dX12_readRule_4 rfl (lv_at hl 0 rfl) ?_
  refine rg_o_rb hx hb hts hown hK hP uw_7_57 dX12_readRule_5 ?_
  refine lv_dup2_11 hx hb dX12_readRule_8 rfl rfl ?_
  refine rl_told hx hb hK hP dX12_readRule_9 (by omega) b_B_told (fun z_1 ez_1 hz_1 => ?_)
  refine lv_iconst (v := mI 1) hx hb dX12_readRule_10 rfl ?_
  refine sy_ior hx hb dX12_readRule_11 5 (by decide) 32 (by decide) (by omega) (by omega) (fun z_2 hz_2 => ?_)
  refine rs_told hx hb hK hP hD hS dX12_readRule_12 (by omega) b_B_told (by omega) (fun F_3 H locs eF_3 bF_3 hP hS => ?_)
  have g_4 := rQ_told g_Q eF_3 (by omega)
  refine lv_aload_n hx hb dX12_readRule_13 rfl (lv_at hl 0 rfl) ?_
  refine lv_iconst (v := mI 0) hx hb dX12_readRule_14 rfl ?_
  refine rp_o_unitsInRule hx hb hts hown hK hP hD hS uw_7_61 dX12_readRule_15 (fun H locs hP hS => ?_)
  refine lv_aload_n hx hb dX12_readRule_18 rfl (lv_at hl 0 rfl) ?_
  refine rg_o_ruleFrom hx hb hts hown hK hP uw_7_46 dX12_readRule_19 ?_
  refine lv_aload_n hx hb dX12_readRule_22 rfl (lv_at hl 0 rfl) ?_
  refine rg_o_rb hx hb hts hown hK hP uw_7_57 dX12_readRule_23 ?_
  refine lv_aload_n hx hb dX12_readRule_26 rfl (lv_at hl 0 rfl) ?_
  refine rg_o_codes hx hb hts hown hK hP uw_7_58 dX12_readRule_27 ?_
  refine rs_ruleFrom hx hb hK hP hD hS dX12_readRule_30 (by omega) b_B_ruleFrom (by omega) (fun F_5 H locs eF_5 bF_5 hP hS => ?_)
  have g_6 := rQ_from g_4 eF_5 (by omega)
  refine lv_aload_n hx hb dX12_readRule_31 rfl (lv_at hl 0 rfl) ?_
  refine g_v (rDt hD) hS hA (g_V (own := "HideReaderModel") (As := []) (rest := []) hx hb hml hown hts hK hP (rDt hD) (kr_X12_e (l := l) (D := D) (k := k) h_x_size h_x_faultKind h_x_faultPlace h_x_at h_x_end h_x_token h_x_number h_x_bank h_x_rb h_x_codes (by omega) b_B_text b_B_units b_B_code b_B_codeNumber b_B_eWhat b_B_eSign g_E g_L g_6 g_SS (by omega)) ck_X12_e iv_X12_e uw_8_78 (rv_o hK hP) rfl hl.1 rfl (Nat.le_of_ble_eq_true rfl) dX12_readRule_32 ⟨Nat.le_of_ble_eq_true rfl, Nat.le_of_ble_eq_true rfl⟩ ⟨Nat.le_of_ble_eq_true rfl, Nat.le_of_ble_eq_true rfl⟩) (fun H locs hQ hS => ?_)
  obtain ⟨y_8, y_9, y_10, y_11, y_12, y_13, j_14, F_15, F_16, F_17, F_18, F_19, y_20, y_21, y_22, y_23, hr_7_0, hr_7_1, hr_7_2, hr_7_3, hr_7_4, hr_7_5, bF_15, bF_16, bF_17, bF_18, bF_19, hr_7_11, hr_7_12, hr_7_13, hr_7_14, hr_7_15, hr_7_16, hr_7_17, hr_7_18, hr_7_19, hr_7_20, hr_7_21, hr_7_22, kr_7_E, kr_7_Q, hP⟩ := hQ
  have h_24 := eOK_o hr_7_21
  have h_24u := bF_15 x_rb.toNat
  refine lv_aload_n hx hb dX12_readRule_35 rfl (lv_at hl 0 rfl) ?_
  refine rg_o_ruleTo hx hb hts hown hK hP uw_7_47 dX12_readRule_36 ?_
  refine lv_aload_n hx hb dX12_readRule_39 rfl (lv_at hl 0 rfl) ?_
  refine rg_o_rb hx hb hts hown hK hP uw_7_57 dX12_readRule_40 ?_
  refine lv_aload_n hx hb dX12_readRule_43 rfl (lv_at hl 0 rfl) ?_
  refine rg_o_codes hx hb hts hown hK hP uw_7_58 dX12_readRule_44 ?_
  refine rs_ruleTo hx hb hK hP hD hS dX12_readRule_47 (by omega) b_B_ruleTo (by omega) (fun F_25 H locs eF_25 bF_25 hP hS => ?_)
  have g_26 := rQ_to kr_7_Q eF_25 (by omega)
  have g_27 : 1 ≤ y_8 ∨ rQ x_rb F_3 F_5 F_25 F_16 := rQ_mk hr_7_21 eF_5 eF_25 (by omega)
  exact r_v hx hb hr hlocks dX12_readRule_48 hS ⟨y_8, y_9, y_10, y_11, y_12, y_13, j_14, F_15, F_3, F_5, F_25, F_16, F_17, F_18, F_19, y_20, y_21, y_22, y_23, by omega, by omega, by omega, by omega, by omega, by omega, bF_15, bF_3, bF_5, bF_25, bF_16, bF_17, bF_18, bF_19, by omega, by omega, by omega, by omega, by omega, by omega, by omega, by omega, by omega, kr_7_E, (by omega), g_26, g_27, hP⟩
set_option maxHeartbeats 4000000 in
set_option maxRecDepth 100000 in
theorem kr_X12_numeral_v0_100 (h_c0 : 0 ≤ 0 ∧ 0 ≤ 0) (h_c1 : 100 ≤ 100 ∧ 100 ≤ 100) (h_x_size : 0 ≤ x_size ∧ x_size ≤ 1600) (h_x_faultKind : 0 ≤ x_faultKind ∧ x_faultKind ≤ 5) (h_x_faultPlace : -1 ≤ x_faultPlace ∧ x_faultPlace ≤ 1600) (h_x_at : 0 ≤ x_at ∧ x_at ≤ 1600) (h_x_end : 0 ≤ x_end ∧ x_end ≤ 1600) (h_x_token : 0 ≤ x_token ∧ x_token ≤ 5) (h_x_number : -2147483648 ≤ x_number ∧ x_number ≤ 2147483647) (b_B_text : bd (-128) 127 B_text) (g_E : x_end ≤ x_size) : MetG l D k yX12_numeral cX12_numeral 4 (some .int) 2 [.ref (a 0), .int (mI 0), .int (mI 100)] (rW k a x_taped x_size x_faultKind x_faultPlace x_at x_end x_token x_number x_bank x_rb x_codes x_within x_piled x_unitsInRule x_askBeast x_askStroke x_askAge x_askSeason x_acts x_undone x_laid x_seens x_time x_fitting n_name B_tape B_text B_turns B_herds B_irons B_beasts B_units B_night B_draw B_told B_brands B_ironMarks B_herdTold B_born B_ruleFrom B_ruleTo B_code B_codeNumber B_eWhat B_eSign B_pile B_all B_burned B_was B_need B_laidRow B_long8 B_brings B_sBurning B_sStroke B_sIs B_sTold B_sUntold B_parts B_boxAll B_isBoxed G_hName G_iName G_bName ex) (qGi (fun r0 H => ∃ (y_faultKind : Int) (y_faultPlace : Int) (y_at : Int) (y_end : Int) (y_token : Int) (y_number : Int) (j_name : Int64), (0 ≤ r0 ∧ r0 ≤ 100) ∧ (0 ≤ y_faultKind ∧ y_faultKind ≤ 5) ∧ (-1 ≤ y_faultPlace ∧ y_faultPlace ≤ 1600) ∧ (0 ≤ y_at ∧ y_at ≤ 1600) ∧ (0 ≤ y_end ∧ y_end ≤ 1600) ∧ (0 ≤ y_token ∧ y_token ≤ 5) ∧ (-2147483648 ≤ y_number ∧ y_number ≤ 2147483647) ∧ (0 ≤ y_faultKind - x_faultKind) ∧ (0 ≤ y_end - x_end) ∧ (1 ≤ y_faultKind ∨ y_token ≤ 0 ∨ x_end + 1 ≤ y_end) ∧ (x_token = 4 ∨ 1 ≤ y_faultKind) ∧ (y_end ≤ x_size) ∧ va_P D vwCl (rW k a x_taped x_size y_faultKind y_faultPlace y_at y_end y_token y_number x_bank x_rb x_codes x_within x_piled x_unitsInRule x_askBeast x_askStroke x_askAge x_askSeason x_acts x_undone x_laid x_seens x_time x_fitting j_name B_tape B_text B_turns B_herds B_irons B_beasts B_units B_night B_draw B_told B_brands B_ironMarks B_herdTold B_born B_ruleFrom B_ruleTo B_code B_codeNumber B_eWhat B_eSign B_pile B_all B_burned B_was B_need B_laidRow B_long8 B_brings B_sBurning B_sStroke B_sIs B_sTold B_sUntold B_parts B_boxAll B_isBoxed G_hName G_iName G_bName ex) H)) := by
  refine metG_of 2 ck_X12_numeral (Nat.le_of_ble_eq_true rfl) rMap (fun p e s m args below meth c A hx hb hml hr hlocks hown hts hK hD hA hP hS ls hl => ?_)
  have hown : s.vm.findClass "HideReaderModel" = some m.cls := hown
  have hl : lv_has ls 4 [(0, .ref (a 0)), (1, .int (mI 0)), (2, .int (mI 100))] := hl
  refine lv_aload_n hx hb dX12_numeral_0 rfl (lv_at hl 0 rfl) ?_
  refine g_i (rDt hD) hS hA (g_V (own := "HideReaderModel") (As := []) (rest := []) hx hb hml hown hts hK hP (rDt hD) (kr_X12_isGood (l := l) (D := D) (k := k) h_x_faultKind) ck_X12_isGood iv_X12_isGood uw_8_18 (rv_o hK hP) rfl hl.1 rfl (Nat.le_of_ble_eq_true rfl) dX12_numeral_1 ⟨Nat.le_of_ble_eq_true rfl, Nat.le_of_ble_eq_true rfl⟩ ⟨Nat.le_of_ble_eq_true rfl, Nat.le_of_ble_eq_true rfl⟩) (fun r_1 H locs hQ hS => ?_)
  obtain ⟨hq_r_1, hP⟩ := hQ
  rcases hq_r_1 with ⟨rfl, c_2_0, c_2_1⟩ | ⟨rfl, c_3_0⟩
  · skip
    refine sy_if_ne (tgt := 9) hx hb dX12_numeral_4 (by decide) (by decide) (fun c9 => absurd c9 (by decide)) (fun c_4 => ?_)
    refine lv_iload_n hx hb dX12_numeral_7 rfl (lv_at hl 1 rfl) ?_
    exact r_i hx hb hr hlocks dX12_numeral_8 hS ⟨x_faultKind, x_faultPlace, x_at, x_end, x_token, x_number, n_name, by omega, by omega, by omega, by omega, by omega, by omega, by omega, by omega, by omega, by omega, by omega, g_E, hP⟩
  · skip
    refine sy_if_ne (tgt := 9) hx hb dX12_numeral_4 (by decide) (by decide) (fun c_5 => ?_) (fun c9 => absurd c9 (by decide))
    refine lv_aload_n hx hb dX12_numeral_9 rfl (lv_at hl 0 rfl) ?_
    refine rg_o_token hx hb hts hown hK hP uw_7_31 dX12_numeral_10 ?_
    refine lv_iconst (v := mI 4) hx hb dX12_numeral_13 rfl ?_
    refine sy_icmp_eq (tgt := 21) hx hb dX12_numeral_14 (by decide) (by omega) (by decide) (fun c_6 => ?_) (fun c_6 => ?_)
    · skip
      refine lv_aload_n hx hb dX12_numeral_21 rfl (lv_at hl 0 rfl) ?_
      refine g_i (rDt hD) hS hA (g_V (own := "HideReaderModel") (As := []) (rest := []) hx hb hml hown hts hK hP (rDt hD) (kr_X12_isGood (l := l) (D := D) (k := k) h_x_faultKind) ck_X12_isGood iv_X12_isGood uw_8_18 (rv_o hK hP) rfl hl.1 rfl (Nat.le_of_ble_eq_true rfl) dX12_numeral_22 ⟨Nat.le_of_ble_eq_true rfl, Nat.le_of_ble_eq_true rfl⟩ ⟨Nat.le_of_ble_eq_true rfl, Nat.le_of_ble_eq_true rfl⟩) (fun r_7 H locs hQ hS => ?_)
      obtain ⟨hq_r_7, hP⟩ := hQ
      rcases hq_r_7 with ⟨rfl, c_8_0, c_8_1⟩ | ⟨rfl, c_9_0⟩
      exact False.elim (by omega)
      · skip
        refine sy_if_eq (tgt := 53) hx hb dX12_numeral_25 (by decide) (by decide) (fun c9 => absurd c9 (by decide)) (fun c_10 => ?_)
        refine lv_aload_n hx hb dX12_numeral_28 rfl (lv_at hl 0 rfl) ?_
        refine rg_o_number hx hb hts hown hK hP uw_7_32 dX12_numeral_29 ?_
        refine lv_iload_n hx hb dX12_numeral_32 rfl (lv_at hl 1 rfl) ?_
        refine sy_icmp_lt (tgt := 44) hx hb dX12_numeral_33 (by decide) (by omega) (by decide) (fun c_11 => ?_) (fun c_11 => ?_)
        · skip
          refine lv_aload_n hx hb dX12_numeral_44 rfl (lv_at hl 0 rfl) ?_
          refine lv_iconst (v := mI 4) hx hb dX12_numeral_45 rfl ?_
          refine lv_aload_n hx hb dX12_numeral_46 rfl (lv_at hl 0 rfl) ?_
          refine rg_o_at hx hb hts hown hK hP uw_7_29 dX12_numeral_47 ?_
          refine g_v (rDt hD) hS hA (g_V (own := "HideReaderModel") (As := [.int (mI 4), .int (mI x_at)]) (rest := []) hx hb hml hown hts hK hP (rDt hD) (kr_X12_fails (l := l) (D := D) (k := k) (by decide) (by omega) h_x_faultKind h_x_faultPlace) ck_X12_fails iv_X12_fails uw_8_38 (rv_o hK hP) rfl hl.1 rfl (Nat.le_of_ble_eq_true rfl) dX12_numeral_50 ⟨Nat.le_of_ble_eq_true rfl, Nat.le_of_ble_eq_true rfl⟩ ⟨Nat.le_of_ble_eq_true rfl, Nat.le_of_ble_eq_true rfl⟩) (fun H locs hQ hS => ?_)
          obtain ⟨y_13, y_14, hr_12_0, hr_12_1, hr_12_2, hP⟩ := hQ
          refine lv_aload_n hx hb dX12_numeral_53 rfl (lv_at hl 0 rfl) ?_
          refine rg_o_number hx hb hts hown hK hP uw_7_32 dX12_numeral_54 ?_
          refine lv_istore_n (lv' := [(3, .int (mI x_number)), (0, .ref (a 0)), (1, .int (mI 0)), (2, .int (mI 100))]) hx hb dX12_numeral_57 rfl hl (by decide) rfl (fun ls hl => ?_)
          refine lv_aload_n hx hb dX12_numeral_58 rfl (lv_at hl 1 rfl) ?_
          refine g_i (rDt hD) hS hA (g_V (own := "HideReaderModel") (As := []) (rest := []) hx hb hml hown hts hK hP (rDt hD) (kr_X12_isGood (l := l) (D := D) (k := k) (by omega)) ck_X12_isGood iv_X12_isGood uw_8_18 (rv_o hK hP) rfl hl.1 rfl (Nat.le_of_ble_eq_true rfl) dX12_numeral_59 ⟨Nat.le_of_ble_eq_true rfl, Nat.le_of_ble_eq_true rfl⟩ ⟨Nat.le_of_ble_eq_true rfl, Nat.le_of_ble_eq_true rfl⟩) (fun r_15 H locs hQ hS => ?_)
          obtain ⟨hq_r_15, hP⟩ := hQ
          rcases hq_r_15 with ⟨rfl, c_16_0, c_16_1⟩ | ⟨rfl, c_17_0⟩
          · skip
            refine sy_if_eq (tgt := 69) hx hb dX12_numeral_62 (by decide) (by decide) (fun c_18 => ?_) (fun c9 => absurd c9 (by decide))
            refine lv_aload_n hx hb dX12_numeral_69 rfl (lv_at hl 1 rfl) ?_
            refine g_i (rDt hD) hS hA (g_V (own := "HideReaderModel") (As := []) (rest := []) hx hb hml hown hts hK hP (rDt hD) (kr_X12_isGood (l := l) (D := D) (k := k) (by omega)) ck_X12_isGood iv_X12_isGood uw_8_18 (rv_o hK hP) rfl hl.1 rfl (Nat.le_of_ble_eq_true rfl) dX12_numeral_70 ⟨Nat.le_of_ble_eq_true rfl, Nat.le_of_ble_eq_true rfl⟩ ⟨Nat.le_of_ble_eq_true rfl, Nat.le_of_ble_eq_true rfl⟩) (fun r_19 H locs hQ hS => ?_)
            obtain ⟨hq_r_19, hP⟩ := hQ
            rcases hq_r_19 with ⟨rfl, c_20_0, c_20_1⟩ | ⟨rfl, c_21_0⟩
            · skip
              refine sy_if_eq (tgt := 80) hx hb dX12_numeral_73 (by decide) (by decide) (fun c_22 => ?_) (fun c9 => absurd c9 (by decide))
              refine lv_iload_n hx hb dX12_numeral_80 rfl (lv_at hl 2 rfl) ?_
              exact r_i hx hb hr hlocks dX12_numeral_81 hS ⟨y_13, y_14, x_at, x_end, x_token, x_number, n_name, by omega, by omega, by omega, by omega, by omega, by omega, by omega, by omega, by omega, by omega, by omega, g_E, hP⟩
            exact False.elim (by omega)
          exact False.elim (by omega)
        · skip
          refine lv_aload_n hx hb dX12_numeral_36 rfl (lv_at hl 0 rfl) ?_
          refine rg_o_number hx hb hts hown hK hP uw_7_32 dX12_numeral_37 ?_
          refine lv_iload_n hx hb dX12_numeral_40 rfl (lv_at hl 2 rfl) ?_
          refine sy_icmp_le (tgt := 53) hx hb dX12_numeral_41 (by decide) (by omega) (by decide) (fun c_23 => ?_) (fun c_23 => ?_)
          · skip
            refine lv_aload_n hx hb dX12_numeral_53 rfl (lv_at hl 0 rfl) ?_
            refine rg_o_number hx hb hts hown hK hP uw_7_32 dX12_numeral_54 ?_
            refine lv_istore_n (lv' := [(3, .int (mI x_number)), (0, .ref (a 0)), (1, .int (mI 0)), (2, .int (mI 100))]) hx hb dX12_numeral_57 rfl hl (by decide) rfl (fun ls hl => ?_)
            refine lv_aload_n hx hb dX12_numeral_58 rfl (lv_at hl 1 rfl) ?_
            refine g_i (rDt hD) hS hA (g_V (own := "HideReaderModel") (As := []) (rest := []) hx hb hml hown hts hK hP (rDt hD) (kr_X12_isGood (l := l) (D := D) (k := k) h_x_faultKind) ck_X12_isGood iv_X12_isGood uw_8_18 (rv_o hK hP) rfl hl.1 rfl (Nat.le_of_ble_eq_true rfl) dX12_numeral_59 ⟨Nat.le_of_ble_eq_true rfl, Nat.le_of_ble_eq_true rfl⟩ ⟨Nat.le_of_ble_eq_true rfl, Nat.le_of_ble_eq_true rfl⟩) (fun r_24 H locs hQ hS => ?_)
            obtain ⟨hq_r_24, hP⟩ := hQ
            rcases hq_r_24 with ⟨rfl, c_25_0, c_25_1⟩ | ⟨rfl, c_26_0⟩
            exact False.elim (by omega)
            · skip
              refine sy_if_eq (tgt := 69) hx hb dX12_numeral_62 (by decide) (by decide) (fun c9 => absurd c9 (by decide)) (fun c_27 => ?_)
              refine lv_aload_n hx hb dX12_numeral_65 rfl (lv_at hl 1 rfl) ?_
              refine g_v (rDt hD) hS hA (g_V (own := "HideReaderModel") (As := []) (rest := []) hx hb hml hown hts hK hP (rDt hD) (kr_X12_goOn (l := l) (D := D) (k := k) h_x_size h_x_end h_x_number b_B_text g_E) ck_X12_goOn iv_X12_goOn uw_7_220 (rv_o hK hP) rfl hl.1 rfl (Nat.le_of_ble_eq_true rfl) dX12_numeral_66 ⟨Nat.le_of_ble_eq_true rfl, Nat.le_of_ble_eq_true rfl⟩ ⟨Nat.le_of_ble_eq_true rfl, Nat.le_of_ble_eq_true rfl⟩) (fun H locs hQ hS => ?_)
              obtain ⟨y_29, y_30, y_31, y_32, j_33, hr_28_0, hr_28_1, hr_28_2, hr_28_3, hr_28_4, hr_28_5, kr_28_E, hP⟩ := hQ
              refine lv_aload_n hx hb dX12_numeral_69 rfl (lv_at hl 1 rfl) ?_
              refine g_i (rDt hD) hS hA (g_V (own := "HideReaderModel") (As := []) (rest := []) hx hb hml hown hts hK hP (rDt hD) (kr_X12_isGood (l := l) (D := D) (k := k) h_x_faultKind) ck_X12_isGood iv_X12_isGood uw_8_18 (rv_o hK hP) rfl hl.1 rfl (Nat.le_of_ble_eq_true rfl) dX12_numeral_70 ⟨Nat.le_of_ble_eq_true rfl, Nat.le_of_ble_eq_true rfl⟩ ⟨Nat.le_of_ble_eq_true rfl, Nat.le_of_ble_eq_true rfl⟩) (fun r_34 H locs hQ hS => ?_)
              obtain ⟨hq_r_34, hP⟩ := hQ
              rcases hq_r_34 with ⟨rfl, c_35_0, c_35_1⟩ | ⟨rfl, c_36_0⟩
              exact False.elim (by omega)
              · skip
                refine sy_if_eq (tgt := 80) hx hb dX12_numeral_73 (by decide) (by decide) (fun c9 => absurd c9 (by decide)) (fun c_37 => ?_)
                refine lv_iload_n hx hb dX12_numeral_76 rfl (lv_at hl 0 rfl) ?_
                refine lv_goto (tgt := 81) hx hb dX12_numeral_77 (by decide) ?_
                exact r_i hx hb hr hlocks dX12_numeral_81 hS ⟨x_faultKind, x_faultPlace, y_29, y_30, y_31, y_32, j_33, by omega, by omega, by omega, by omega, by omega, by omega, by omega, by omega, by omega, by omega, by omega, kr_28_E, hP⟩
          · skip
            refine lv_aload_n hx hb dX12_numeral_44 rfl (lv_at hl 0 rfl) ?_
            refine lv_iconst (v := mI 4) hx hb dX12_numeral_45 rfl ?_
            refine lv_aload_n hx hb dX12_numeral_46 rfl (lv_at hl 0 rfl) ?_
            refine rg_o_at hx hb hts hown hK hP uw_7_29 dX12_numeral_47 ?_
            refine g_v (rDt hD) hS hA (g_V (own := "HideReaderModel") (As := [.int (mI 4), .int (mI x_at)]) (rest := []) hx hb hml hown hts hK hP (rDt hD) (kr_X12_fails (l := l) (D := D) (k := k) (by decide) (by omega) h_x_faultKind h_x_faultPlace) ck_X12_fails iv_X12_fails uw_8_38 (rv_o hK hP) rfl hl.1 rfl (Nat.le_of_ble_eq_true rfl) dX12_numeral_50 ⟨Nat.le_of_ble_eq_true rfl, Nat.le_of_ble_eq_true rfl⟩ ⟨Nat.le_of_ble_eq_true rfl, Nat.le_of_ble_eq_true rfl⟩) (fun H locs hQ hS => ?_)
            obtain ⟨y_39, y_40, hr_38_0, hr_38_1, hr_38_2, hP⟩ := hQ
            refine lv_aload_n hx hb dX12_numeral_53 rfl (lv_at hl 0 rfl) ?_
            refine rg_o_number hx hb hts hown hK hP uw_7_32 dX12_numeral_54 ?_
            refine lv_istore_n (lv' := [(3, .int (mI x_number)), (0, .ref (a 0)), (1, .int (mI 0)), (2, .int (mI 100))]) hx hb dX12_numeral_57 rfl hl (by decide) rfl (fun ls hl => ?_)
            refine lv_aload_n hx hb dX12_numeral_58 rfl (lv_at hl 1 rfl) ?_
            refine g_i (rDt hD) hS hA (g_V (own := "HideReaderModel") (As := []) (rest := []) hx hb hml hown hts hK hP (rDt hD) (kr_X12_isGood (l := l) (D := D) (k := k) (by omega)) ck_X12_isGood iv_X12_isGood uw_8_18 (rv_o hK hP) rfl hl.1 rfl (Nat.le_of_ble_eq_true rfl) dX12_numeral_59 ⟨Nat.le_of_ble_eq_true rfl, Nat.le_of_ble_eq_true rfl⟩ ⟨Nat.le_of_ble_eq_true rfl, Nat.le_of_ble_eq_true rfl⟩) (fun r_41 H locs hQ hS => ?_)
            obtain ⟨hq_r_41, hP⟩ := hQ
            rcases hq_r_41 with ⟨rfl, c_42_0, c_42_1⟩ | ⟨rfl, c_43_0⟩
            · skip
              refine sy_if_eq (tgt := 69) hx hb dX12_numeral_62 (by decide) (by decide) (fun c_44 => ?_) (fun c9 => absurd c9 (by decide))
              refine lv_aload_n hx hb dX12_numeral_69 rfl (lv_at hl 1 rfl) ?_
              refine g_i (rDt hD) hS hA (g_V (own := "HideReaderModel") (As := []) (rest := []) hx hb hml hown hts hK hP (rDt hD) (kr_X12_isGood (l := l) (D := D) (k := k) (by omega)) ck_X12_isGood iv_X12_isGood uw_8_18 (rv_o hK hP) rfl hl.1 rfl (Nat.le_of_ble_eq_true rfl) dX12_numeral_70 ⟨Nat.le_of_ble_eq_true rfl, Nat.le_of_ble_eq_true rfl⟩ ⟨Nat.le_of_ble_eq_true rfl, Nat.le_of_ble_eq_true rfl⟩) (fun r_45 H locs hQ hS => ?_)
              obtain ⟨hq_r_45, hP⟩ := hQ
              rcases hq_r_45 with ⟨rfl, c_46_0, c_46_1⟩ | ⟨rfl, c_47_0⟩
              · skip
                refine sy_if_eq (tgt := 80) hx hb dX12_numeral_73 (by decide) (by decide) (fun c_48 => ?_) (fun c9 => absurd c9 (by decide))
                refine lv_iload_n hx hb dX12_numeral_80 rfl (lv_at hl 2 rfl) ?_
                exact r_i hx hb hr hlocks dX12_numeral_81 hS ⟨y_39, y_40, x_at, x_end, x_token, x_number, n_name, by omega, by omega, by omega, by omega, by omega, by omega, by omega, by omega, by omega, by omega, by omega, g_E, hP⟩
              exact False.elim (by omega)
            exact False.elim (by omega)
    · skip
      refine lv_aload_n hx hb dX12_numeral_17 rfl (lv_at hl 0 rfl) ?_
      refine g_v (rDt hD) hS hA (g_V (own := "HideReaderModel") (As := []) (rest := []) hx hb hml hown hts hK hP (rDt hD) (kr_X12_misplaced (l := l) (D := D) (k := k) h_x_faultKind h_x_faultPlace h_x_at h_x_token) ck_X12_misplaced iv_X12_misplaced uw_8_34 (rv_o hK hP) rfl hl.1 rfl (Nat.le_of_ble_eq_true rfl) dX12_numeral_18 ⟨Nat.le_of_ble_eq_true rfl, Nat.le_of_ble_eq_true rfl⟩ ⟨Nat.le_of_ble_eq_true rfl, Nat.le_of_ble_eq_true rfl⟩) (fun H locs hQ hS => ?_)
      obtain ⟨y_50, y_51, hr_49_0, hr_49_1, hr_49_2, hP⟩ := hQ
      refine lv_aload_n hx hb dX12_numeral_21 rfl (lv_at hl 0 rfl) ?_
      refine g_i (rDt hD) hS hA (g_V (own := "HideReaderModel") (As := []) (rest := []) hx hb hml hown hts hK hP (rDt hD) (kr_X12_isGood (l := l) (D := D) (k := k) (by omega)) ck_X12_isGood iv_X12_isGood uw_8_18 (rv_o hK hP) rfl hl.1 rfl (Nat.le_of_ble_eq_true rfl) dX12_numeral_22 ⟨Nat.le_of_ble_eq_true rfl, Nat.le_of_ble_eq_true rfl⟩ ⟨Nat.le_of_ble_eq_true rfl, Nat.le_of_ble_eq_true rfl⟩) (fun r_52 H locs hQ hS => ?_)
      obtain ⟨hq_r_52, hP⟩ := hQ
      rcases hq_r_52 with ⟨rfl, c_53_0, c_53_1⟩ | ⟨rfl, c_54_0⟩
      · skip
        refine sy_if_eq (tgt := 53) hx hb dX12_numeral_25 (by decide) (by decide) (fun c_55 => ?_) (fun c9 => absurd c9 (by decide))
        refine lv_aload_n hx hb dX12_numeral_53 rfl (lv_at hl 0 rfl) ?_
        refine rg_o_number hx hb hts hown hK hP uw_7_32 dX12_numeral_54 ?_
        refine lv_istore_n (lv' := [(3, .int (mI x_number)), (0, .ref (a 0)), (1, .int (mI 0)), (2, .int (mI 100))]) hx hb dX12_numeral_57 rfl hl (by decide) rfl (fun ls hl => ?_)
        refine lv_aload_n hx hb dX12_numeral_58 rfl (lv_at hl 1 rfl) ?_
        refine g_i (rDt hD) hS hA (g_V (own := "HideReaderModel") (As := []) (rest := []) hx hb hml hown hts hK hP (rDt hD) (kr_X12_isGood (l := l) (D := D) (k := k) (by omega)) ck_X12_isGood iv_X12_isGood uw_8_18 (rv_o hK hP) rfl hl.1 rfl (Nat.le_of_ble_eq_true rfl) dX12_numeral_59 ⟨Nat.le_of_ble_eq_true rfl, Nat.le_of_ble_eq_true rfl⟩ ⟨Nat.le_of_ble_eq_true rfl, Nat.le_of_ble_eq_true rfl⟩) (fun r_56 H locs hQ hS => ?_)
        obtain ⟨hq_r_56, hP⟩ := hQ
        rcases hq_r_56 with ⟨rfl, c_57_0, c_57_1⟩ | ⟨rfl, c_58_0⟩
        · skip
          refine sy_if_eq (tgt := 69) hx hb dX12_numeral_62 (by decide) (by decide) (fun c_59 => ?_) (fun c9 => absurd c9 (by decide))
          refine lv_aload_n hx hb dX12_numeral_69 rfl (lv_at hl 1 rfl) ?_
          refine g_i (rDt hD) hS hA (g_V (own := "HideReaderModel") (As := []) (rest := []) hx hb hml hown hts hK hP (rDt hD) (kr_X12_isGood (l := l) (D := D) (k := k) (by omega)) ck_X12_isGood iv_X12_isGood uw_8_18 (rv_o hK hP) rfl hl.1 rfl (Nat.le_of_ble_eq_true rfl) dX12_numeral_70 ⟨Nat.le_of_ble_eq_true rfl, Nat.le_of_ble_eq_true rfl⟩ ⟨Nat.le_of_ble_eq_true rfl, Nat.le_of_ble_eq_true rfl⟩) (fun r_60 H locs hQ hS => ?_)
          obtain ⟨hq_r_60, hP⟩ := hQ
          rcases hq_r_60 with ⟨rfl, c_61_0, c_61_1⟩ | ⟨rfl, c_62_0⟩
          · skip
            refine sy_if_eq (tgt := 80) hx hb dX12_numeral_73 (by decide) (by decide) (fun c_63 => ?_) (fun c9 => absurd c9 (by decide))
            refine lv_iload_n hx hb dX12_numeral_80 rfl (lv_at hl 2 rfl) ?_
            exact r_i hx hb hr hlocks dX12_numeral_81 hS ⟨y_50, y_51, x_at, x_end, x_token, x_number, n_name, by omega, by omega, by omega, by omega, by omega, by omega, by omega, by omega, by omega, by omega, by omega, g_E, hP⟩
          exact False.elim (by omega)
        exact False.elim (by omega)
      exact False.elim (by omega)
set_option maxHeartbeats 4000000 in
set_option maxRecDepth 100000 in
theorem kr_X12_numeral_v0_999 (h_c0 : 0 ≤ 0 ∧ 0 ≤ 0) (h_c1 : 999 ≤ 999 ∧ 999 ≤ 999) (h_x_size : 0 ≤ x_size ∧ x_size ≤ 1600) (h_x_faultKind : 0 ≤ x_faultKind ∧ x_faultKind ≤ 5) (h_x_faultPlace : -1 ≤ x_faultPlace ∧ x_faultPlace ≤ 1600) (h_x_at : 0 ≤ x_at ∧ x_at ≤ 1600) (h_x_end : 0 ≤ x_end ∧ x_end ≤ 1600) (h_x_token : 0 ≤ x_token ∧ x_token ≤ 5) (h_x_number : -2147483648 ≤ x_number ∧ x_number ≤ 2147483647) (b_B_text : bd (-128) 127 B_text) (g_E : x_end ≤ x_size) : MetG l D k yX12_numeral cX12_numeral 4 (some .int) 2 [.ref (a 0), .int (mI 0), .int (mI 999)] (rW k a x_taped x_size x_faultKind x_faultPlace x_at x_end x_token x_number x_bank x_rb x_codes x_within x_piled x_unitsInRule x_askBeast x_askStroke x_askAge x_askSeason x_acts x_undone x_laid x_seens x_time x_fitting n_name B_tape B_text B_turns B_herds B_irons B_beasts B_units B_night B_draw B_told B_brands B_ironMarks B_herdTold B_born B_ruleFrom B_ruleTo B_code B_codeNumber B_eWhat B_eSign B_pile B_all B_burned B_was B_need B_laidRow B_long8 B_brings B_sBurning B_sStroke B_sIs B_sTold B_sUntold B_parts B_boxAll B_isBoxed G_hName G_iName G_bName ex) (qGi (fun r0 H => ∃ (y_faultKind : Int) (y_faultPlace : Int) (y_at : Int) (y_end : Int) (y_token : Int) (y_number : Int) (j_name : Int64), (0 ≤ r0 ∧ r0 ≤ 999) ∧ (0 ≤ y_faultKind ∧ y_faultKind ≤ 5) ∧ (-1 ≤ y_faultPlace ∧ y_faultPlace ≤ 1600) ∧ (0 ≤ y_at ∧ y_at ≤ 1600) ∧ (0 ≤ y_end ∧ y_end ≤ 1600) ∧ (0 ≤ y_token ∧ y_token ≤ 5) ∧ (-2147483648 ≤ y_number ∧ y_number ≤ 2147483647) ∧ (0 ≤ y_faultKind - x_faultKind) ∧ (0 ≤ y_end - x_end) ∧ (1 ≤ y_faultKind ∨ y_token ≤ 0 ∨ x_end + 1 ≤ y_end) ∧ (x_token = 4 ∨ 1 ≤ y_faultKind) ∧ (y_end ≤ x_size) ∧ va_P D vwCl (rW k a x_taped x_size y_faultKind y_faultPlace y_at y_end y_token y_number x_bank x_rb x_codes x_within x_piled x_unitsInRule x_askBeast x_askStroke x_askAge x_askSeason x_acts x_undone x_laid x_seens x_time x_fitting j_name B_tape B_text B_turns B_herds B_irons B_beasts B_units B_night B_draw B_told B_brands B_ironMarks B_herdTold B_born B_ruleFrom B_ruleTo B_code B_codeNumber B_eWhat B_eSign B_pile B_all B_burned B_was B_need B_laidRow B_long8 B_brings B_sBurning B_sStroke B_sIs B_sTold B_sUntold B_parts B_boxAll B_isBoxed G_hName G_iName G_bName ex) H)) := by
  refine metG_of 2 ck_X12_numeral (Nat.le_of_ble_eq_true rfl) rMap (fun p e s m args below meth c A hx hb hml hr hlocks hown hts hK hD hA hP hS ls hl => ?_)
  have hown : s.vm.findClass "HideReaderModel" = some m.cls := hown
  have hl : lv_has ls 4 [(0, .ref (a 0)), (1, .int (mI 0)), (2, .int (mI 999))] := hl
  refine lv_aload_n hx hb dX12_numeral_0 rfl (lv_at hl 0 rfl) ?_
  refine g_i (rDt hD) hS hA (g_V (own := "HideReaderModel") (As := []) (rest := []) hx hb hml hown hts hK hP (rDt hD) (kr_X12_isGood (l := l) (D := D) (k := k) h_x_faultKind) ck_X12_isGood iv_X12_isGood uw_8_18 (rv_o hK hP) rfl hl.1 rfl (Nat.le_of_ble_eq_true rfl) dX12_numeral_1 ⟨Nat.le_of_ble_eq_true rfl, Nat.le_of_ble_eq_true rfl⟩ ⟨Nat.le_of_ble_eq_true rfl, Nat.le_of_ble_eq_true rfl⟩) (fun r_1 H locs hQ hS => ?_)
  obtain ⟨hq_r_1, hP⟩ := hQ
  rcases hq_r_1 with ⟨rfl, c_2_0, c_2_1⟩ | ⟨rfl, c_3_0⟩
  · skip
    refine sy_if_ne (tgt := 9) hx hb dX12_numeral_4 (by decide) (by decide) (fun c9 => absurd c9 (by decide)) (fun c_4 => ?_)
    refine lv_iload_n hx hb dX12_numeral_7 rfl (lv_at hl 1 rfl) ?_
    exact r_i hx hb hr hlocks dX12_numeral_8 hS ⟨x_faultKind, x_faultPlace, x_at, x_end, x_token, x_number, n_name, by omega, by omega, by omega, by omega, by omega, by omega, by omega, by omega, by omega, by omega, by omega, g_E, hP⟩
  · skip
    refine sy_if_ne (tgt := 9) hx hb dX12_numeral_4 (by decide) (by decide) (fun c_5 => ?_) (fun c9 => absurd c9 (by decide))
    refine lv_aload_n hx hb dX12_numeral_9 rfl (lv_at hl 0 rfl) ?_
    refine rg_o_token hx hb hts hown hK hP uw_7_31 dX12_numeral_10 ?_
    refine lv_iconst (v := mI 4) hx hb dX12_numeral_13 rfl ?_
    refine sy_icmp_eq (tgt := 21) hx hb dX12_numeral_14 (by decide) (by omega) (by decide) (fun c_6 => ?_) (fun c_6 => ?_)
    · skip
      refine lv_aload_n hx hb dX12_numeral_21 rfl (lv_at hl 0 rfl) ?_
      refine g_i (rDt hD) hS hA (g_V (own := "HideReaderModel") (As := []) (rest := []) hx hb hml hown hts hK hP (rDt hD) (kr_X12_isGood (l := l) (D := D) (k := k) h_x_faultKind) ck_X12_isGood iv_X12_isGood uw_8_18 (rv_o hK hP) rfl hl.1 rfl (Nat.le_of_ble_eq_true rfl) dX12_numeral_22 ⟨Nat.le_of_ble_eq_true rfl, Nat.le_of_ble_eq_true rfl⟩ ⟨Nat.le_of_ble_eq_true rfl, Nat.le_of_ble_eq_true rfl⟩) (fun r_7 H locs hQ hS => ?_)
      obtain ⟨hq_r_7, hP⟩ := hQ
      rcases hq_r_7 with ⟨rfl, c_8_0, c_8_1⟩ | ⟨rfl, c_9_0⟩
      exact False.elim (by omega)
      · skip
        refine sy_if_eq (tgt := 53) hx hb dX12_numeral_25 (by decide) (by decide) (fun c9 => absurd c9 (by decide)) (fun c_10 => ?_)
        refine lv_aload_n hx hb dX12_numeral_28 rfl (lv_at hl 0 rfl) ?_
        refine rg_o_number hx hb hts hown hK hP uw_7_32 dX12_numeral_29 ?_
        refine lv_iload_n hx hb dX12_numeral_32 rfl (lv_at hl 1 rfl) ?_
        refine sy_icmp_lt (tgt := 44) hx hb dX12_numeral_33 (by decide) (by omega) (by decide) (fun c_11 => ?_) (fun c_11 => ?_)
        · skip
          refine lv_aload_n hx hb dX12_numeral_44 rfl (lv_at hl 0 rfl) ?_
          refine lv_iconst (v := mI 4) hx hb dX12_numeral_45 rfl ?_
          refine lv_aload_n hx hb dX12_numeral_46 rfl (lv_at hl 0 rfl) ?_
          refine rg_o_at hx hb hts hown hK hP uw_7_29 dX12_numeral_47 ?_
          refine g_v (rDt hD) hS hA (g_V (own := "HideReaderModel") (As := [.int (mI 4), .int (mI x_at)]) (rest := []) hx hb hml hown hts hK hP (rDt hD) (kr_X12_fails (l := l) (D := D) (k := k) (by decide) (by omega) h_x_faultKind h_x_faultPlace) ck_X12_fails iv_X12_fails uw_8_38 (rv_o hK hP) rfl hl.1 rfl (Nat.le_of_ble_eq_true rfl) dX12_numeral_50 ⟨Nat.le_of_ble_eq_true rfl, Nat.le_of_ble_eq_true rfl⟩ ⟨Nat.le_of_ble_eq_true rfl, Nat.le_of_ble_eq_true rfl⟩) (fun H locs hQ hS => ?_)
          obtain ⟨y_13, y_14, hr_12_0, hr_12_1, hr_12_2, hP⟩ := hQ
          refine lv_aload_n hx hb dX12_numeral_53 rfl (lv_at hl 0 rfl) ?_
          refine rg_o_number hx hb hts hown hK hP uw_7_32 dX12_numeral_54 ?_
          refine lv_istore_n (lv' := [(3, .int (mI x_number)), (0, .ref (a 0)), (1, .int (mI 0)), (2, .int (mI 999))]) hx hb dX12_numeral_57 rfl hl (by decide) rfl (fun ls hl => ?_)
          refine lv_aload_n hx hb dX12_numeral_58 rfl (lv_at hl 1 rfl) ?_
          refine g_i (rDt hD) hS hA (g_V (own := "HideReaderModel") (As := []) (rest := []) hx hb hml hown hts hK hP (rDt hD) (kr_X12_isGood (l := l) (D := D) (k := k) (by omega)) ck_X12_isGood iv_X12_isGood uw_8_18 (rv_o hK hP) rfl hl.1 rfl (Nat.le_of_ble_eq_true rfl) dX12_numeral_59 ⟨Nat.le_of_ble_eq_true rfl, Nat.le_of_ble_eq_true rfl⟩ ⟨Nat.le_of_ble_eq_true rfl, Nat.le_of_ble_eq_true rfl⟩) (fun r_15 H locs hQ hS => ?_)
          obtain ⟨hq_r_15, hP⟩ := hQ
          rcases hq_r_15 with ⟨rfl, c_16_0, c_16_1⟩ | ⟨rfl, c_17_0⟩
          · skip
            refine sy_if_eq (tgt := 69) hx hb dX12_numeral_62 (by decide) (by decide) (fun c_18 => ?_) (fun c9 => absurd c9 (by decide))
            refine lv_aload_n hx hb dX12_numeral_69 rfl (lv_at hl 1 rfl) ?_
            refine g_i (rDt hD) hS hA (g_V (own := "HideReaderModel") (As := []) (rest := []) hx hb hml hown hts hK hP (rDt hD) (kr_X12_isGood (l := l) (D := D) (k := k) (by omega)) ck_X12_isGood iv_X12_isGood uw_8_18 (rv_o hK hP) rfl hl.1 rfl (Nat.le_of_ble_eq_true rfl) dX12_numeral_70 ⟨Nat.le_of_ble_eq_true rfl, Nat.le_of_ble_eq_true rfl⟩ ⟨Nat.le_of_ble_eq_true rfl, Nat.le_of_ble_eq_true rfl⟩) (fun r_19 H locs hQ hS => ?_)
            obtain ⟨hq_r_19, hP⟩ := hQ
            rcases hq_r_19 with ⟨rfl, c_20_0, c_20_1⟩ | ⟨rfl, c_21_0⟩
            · skip
              refine sy_if_eq (tgt := 80) hx hb dX12_numeral_73 (by decide) (by decide) (fun c_22 => ?_) (fun c9 => absurd c9 (by decide))
              refine lv_iload_n hx hb dX12_numeral_80 rfl (lv_at hl 2 rfl) ?_
              exact r_i hx hb hr hlocks dX12_numeral_81 hS ⟨y_13, y_14, x_at, x_end, x_token, x_number, n_name, by omega, by omega, by omega, by omega, by omega, by omega, by omega, by omega, by omega, by omega, by omega, g_E, hP⟩
            exact False.elim (by omega)
          exact False.elim (by omega)
        · skip
          refine lv_aload_n hx hb dX12_numeral_36 rfl (lv_at hl 0 rfl) ?_
          refine rg_o_number hx hb hts hown hK hP uw_7_32 dX12_numeral_37 ?_
          refine lv_iload_n hx hb dX12_numeral_40 rfl (lv_at hl 2 rfl) ?_
          refine sy_icmp_le (tgt := 53) hx hb dX12_numeral_41 (by decide) (by omega) (by decide) (fun c_23 => ?_) (fun c_23 => ?_)
          · skip
            refine lv_aload_n hx hb dX12_numeral_53 rfl (lv_at hl 0 rfl) ?_
            refine rg_o_number hx hb hts hown hK hP uw_7_32 dX12_numeral_54 ?_
            refine lv_istore_n (lv' := [(3, .int (mI x_number)), (0, .ref (a 0)), (1, .int (mI 0)), (2, .int (mI 999))]) hx hb dX12_numeral_57 rfl hl (by decide) rfl (fun ls hl => ?_)
            refine lv_aload_n hx hb dX12_numeral_58 rfl (lv_at hl 1 rfl) ?_
            refine g_i (rDt hD) hS hA (g_V (own := "HideReaderModel") (As := []) (rest := []) hx hb hml hown hts hK hP (rDt hD) (kr_X12_isGood (l := l) (D := D) (k := k) h_x_faultKind) ck_X12_isGood iv_X12_isGood uw_8_18 (rv_o hK hP) rfl hl.1 rfl (Nat.le_of_ble_eq_true rfl) dX12_numeral_59 ⟨Nat.le_of_ble_eq_true rfl, Nat.le_of_ble_eq_true rfl⟩ ⟨Nat.le_of_ble_eq_true rfl, Nat.le_of_ble_eq_true rfl⟩) (fun r_24 H locs hQ hS => ?_)
            obtain ⟨hq_r_24, hP⟩ := hQ
            rcases hq_r_24 with ⟨rfl, c_25_0, c_25_1⟩ | ⟨rfl, c_26_0⟩
            exact False.elim (by omega)
            · skip
              refine sy_if_eq (tgt := 69) hx hb dX12_numeral_62 (by decide) (by decide) (fun c9 => absurd c9 (by decide)) (fun c_27 => ?_)
              refine lv_aload_n hx hb dX12_numeral_65 rfl (lv_at hl 1 rfl) ?_
              refine g_v (rDt hD) hS hA (g_V (own := "HideReaderModel") (As := []) (rest := []) hx hb hml hown hts hK hP (rDt hD) (kr_X12_goOn (l := l) (D := D) (k := k) h_x_size h_x_end h_x_number b_B_text g_E) ck_X12_goOn iv_X12_goOn uw_7_220 (rv_o hK hP) rfl hl.1 rfl (Nat.le_of_ble_eq_true rfl) dX12_numeral_66 ⟨Nat.le_of_ble_eq_true rfl, Nat.le_of_ble_eq_true rfl⟩ ⟨Nat.le_of_ble_eq_true rfl, Nat.le_of_ble_eq_true rfl⟩) (fun H locs hQ hS => ?_)
              obtain ⟨y_29, y_30, y_31, y_32, j_33, hr_28_0, hr_28_1, hr_28_2, hr_28_3, hr_28_4, hr_28_5, kr_28_E, hP⟩ := hQ
              refine lv_aload_n hx hb dX12_numeral_69 rfl (lv_at hl 1 rfl) ?_
              refine g_i (rDt hD) hS hA (g_V (own := "HideReaderModel") (As := []) (rest := []) hx hb hml hown hts hK hP (rDt hD) (kr_X12_isGood (l := l) (D := D) (k := k) h_x_faultKind) ck_X12_isGood iv_X12_isGood uw_8_18 (rv_o hK hP) rfl hl.1 rfl (Nat.le_of_ble_eq_true rfl) dX12_numeral_70 ⟨Nat.le_of_ble_eq_true rfl, Nat.le_of_ble_eq_true rfl⟩ ⟨Nat.le_of_ble_eq_true rfl, Nat.le_of_ble_eq_true rfl⟩) (fun r_34 H locs hQ hS => ?_)
              obtain ⟨hq_r_34, hP⟩ := hQ
              rcases hq_r_34 with ⟨rfl, c_35_0, c_35_1⟩ | ⟨rfl, c_36_0⟩
              exact False.elim (by omega)
              · skip
                refine sy_if_eq (tgt := 80) hx hb dX12_numeral_73 (by decide) (by decide) (fun c9 => absurd c9 (by decide)) (fun c_37 => ?_)
                refine lv_iload_n hx hb dX12_numeral_76 rfl (lv_at hl 0 rfl) ?_
                refine lv_goto (tgt := 81) hx hb dX12_numeral_77 (by decide) ?_
                exact r_i hx hb hr hlocks dX12_numeral_81 hS ⟨x_faultKind, x_faultPlace, y_29, y_30, y_31, y_32, j_33, by omega, by omega, by omega, by omega, by omega, by omega, by omega, by omega, by omega, by omega, by omega, kr_28_E, hP⟩
          · skip
            refine lv_aload_n hx hb dX12_numeral_44 rfl (lv_at hl 0 rfl) ?_
            refine lv_iconst (v := mI 4) hx hb dX12_numeral_45 rfl ?_
            refine lv_aload_n hx hb dX12_numeral_46 rfl (lv_at hl 0 rfl) ?_
            refine rg_o_at hx hb hts hown hK hP uw_7_29 dX12_numeral_47 ?_
            refine g_v (rDt hD) hS hA (g_V (own := "HideReaderModel") (As := [.int (mI 4), .int (mI x_at)]) (rest := []) hx hb hml hown hts hK hP (rDt hD) (kr_X12_fails (l := l) (D := D) (k := k) (by decide) (by omega) h_x_faultKind h_x_faultPlace) ck_X12_fails iv_X12_fails uw_8_38 (rv_o hK hP) rfl hl.1 rfl (Nat.le_of_ble_eq_true rfl) dX12_numeral_50 ⟨Nat.le_of_ble_eq_true rfl, Nat.le_of_ble_eq_true rfl⟩ ⟨Nat.le_of_ble_eq_true rfl, Nat.le_of_ble_eq_true rfl⟩) (fun H locs hQ hS => ?_)
            obtain ⟨y_39, y_40, hr_38_0, hr_38_1, hr_38_2, hP⟩ := hQ
            refine lv_aload_n hx hb dX12_numeral_53 rfl (lv_at hl 0 rfl) ?_
            refine rg_o_number hx hb hts hown hK hP uw_7_32 dX12_numeral_54 ?_
            refine lv_istore_n (lv' := [(3, .int (mI x_number)), (0, .ref (a 0)), (1, .int (mI 0)), (2, .int (mI 999))]) hx hb dX12_numeral_57 rfl hl (by decide) rfl (fun ls hl => ?_)
            refine lv_aload_n hx hb dX12_numeral_58 rfl (lv_at hl 1 rfl) ?_
            refine g_i (rDt hD) hS hA (g_V (own := "HideReaderModel") (As := []) (rest := []) hx hb hml hown hts hK hP (rDt hD) (kr_X12_isGood (l := l) (D := D) (k := k) (by omega)) ck_X12_isGood iv_X12_isGood uw_8_18 (rv_o hK hP) rfl hl.1 rfl (Nat.le_of_ble_eq_true rfl) dX12_numeral_59 ⟨Nat.le_of_ble_eq_true rfl, Nat.le_of_ble_eq_true rfl⟩ ⟨Nat.le_of_ble_eq_true rfl, Nat.le_of_ble_eq_true rfl⟩) (fun r_41 H locs hQ hS => ?_)
            obtain ⟨hq_r_41, hP⟩ := hQ
            rcases hq_r_41 with ⟨rfl, c_42_0, c_42_1⟩ | ⟨rfl, c_43_0⟩
            · skip
              refine sy_if_eq (tgt := 69) hx hb dX12_numeral_62 (by decide) (by decide) (fun c_44 => ?_) (fun c9 => absurd c9 (by decide))
              refine lv_aload_n hx hb dX12_numeral_69 rfl (lv_at hl 1 rfl) ?_
              refine g_i (rDt hD) hS hA (g_V (own := "HideReaderModel") (As := []) (rest := []) hx hb hml hown hts hK hP (rDt hD) (kr_X12_isGood (l := l) (D := D) (k := k) (by omega)) ck_X12_isGood iv_X12_isGood uw_8_18 (rv_o hK hP) rfl hl.1 rfl (Nat.le_of_ble_eq_true rfl) dX12_numeral_70 ⟨Nat.le_of_ble_eq_true rfl, Nat.le_of_ble_eq_true rfl⟩ ⟨Nat.le_of_ble_eq_true rfl, Nat.le_of_ble_eq_true rfl⟩) (fun r_45 H locs hQ hS => ?_)
              obtain ⟨hq_r_45, hP⟩ := hQ
              rcases hq_r_45 with ⟨rfl, c_46_0, c_46_1⟩ | ⟨rfl, c_47_0⟩
              · skip
                refine sy_if_eq (tgt := 80) hx hb dX12_numeral_73 (by decide) (by decide) (fun c_48 => ?_) (fun c9 => absurd c9 (by decide))
                refine lv_iload_n hx hb dX12_numeral_80 rfl (lv_at hl 2 rfl) ?_
                exact r_i hx hb hr hlocks dX12_numeral_81 hS ⟨y_39, y_40, x_at, x_end, x_token, x_number, n_name, by omega, by omega, by omega, by omega, by omega, by omega, by omega, by omega, by omega, by omega, by omega, g_E, hP⟩
              exact False.elim (by omega)
            exact False.elim (by omega)
    · skip
      refine lv_aload_n hx hb dX12_numeral_17 rfl (lv_at hl 0 rfl) ?_
      refine g_v (rDt hD) hS hA (g_V (own := "HideReaderModel") (As := []) (rest := []) hx hb hml hown hts hK hP (rDt hD) (kr_X12_misplaced (l := l) (D := D) (k := k) h_x_faultKind h_x_faultPlace h_x_at h_x_token) ck_X12_misplaced iv_X12_misplaced uw_8_34 (rv_o hK hP) rfl hl.1 rfl (Nat.le_of_ble_eq_true rfl) dX12_numeral_18 ⟨Nat.le_of_ble_eq_true rfl, Nat.le_of_ble_eq_true rfl⟩ ⟨Nat.le_of_ble_eq_true rfl, Nat.le_of_ble_eq_true rfl⟩) (fun H locs hQ hS => ?_)
      obtain ⟨y_50, y_51, hr_49_0, hr_49_1, hr_49_2, hP⟩ := hQ
      refine lv_aload_n hx hb dX12_numeral_21 rfl (lv_at hl 0 rfl) ?_
      refine g_i (rDt hD) hS hA (g_V (own := "HideReaderModel") (As := []) (rest := []) hx hb hml hown hts hK hP (rDt hD) (kr_X12_isGood (l := l) (D := D) (k := k) (by omega)) ck_X12_isGood iv_X12_isGood uw_8_18 (rv_o hK hP) rfl hl.1 rfl (Nat.le_of_ble_eq_true rfl) dX12_numeral_22 ⟨Nat.le_of_ble_eq_true rfl, Nat.le_of_ble_eq_true rfl⟩ ⟨Nat.le_of_ble_eq_true rfl, Nat.le_of_ble_eq_true rfl⟩) (fun r_52 H locs hQ hS => ?_)
      obtain ⟨hq_r_52, hP⟩ := hQ
      rcases hq_r_52 with ⟨rfl, c_53_0, c_53_1⟩ | ⟨rfl, c_54_0⟩
      · skip
        refine sy_if_eq (tgt := 53) hx hb dX12_numeral_25 (by decide) (by decide) (fun c_55 => ?_) (fun c9 => absurd c9 (by decide))
        refine lv_aload_n hx hb dX12_numeral_53 rfl (lv_at hl 0 rfl) ?_
        refine rg_o_number hx hb hts hown hK hP uw_7_32 dX12_numeral_54 ?_
        refine lv_istore_n (lv' := [(3, .int (mI x_number)), (0, .ref (a 0)), (1, .int (mI 0)), (2, .int (mI 999))]) hx hb dX12_numeral_57 rfl hl (by decide) rfl (fun ls hl => ?_)
        refine lv_aload_n hx hb dX12_numeral_58 rfl (lv_at hl 1 rfl) ?_
        refine g_i (rDt hD) hS hA (g_V (own := "HideReaderModel") (As := []) (rest := []) hx hb hml hown hts hK hP (rDt hD) (kr_X12_isGood (l := l) (D := D) (k := k) (by omega)) ck_X12_isGood iv_X12_isGood uw_8_18 (rv_o hK hP) rfl hl.1 rfl (Nat.le_of_ble_eq_true rfl) dX12_numeral_59 ⟨Nat.le_of_ble_eq_true rfl, Nat.le_of_ble_eq_true rfl⟩ ⟨Nat.le_of_ble_eq_true rfl, Nat.le_of_ble_eq_true rfl⟩) (fun r_56 H locs hQ hS => ?_)
        obtain ⟨hq_r_56, hP⟩ := hQ
        rcases hq_r_56 with ⟨rfl, c_57_0, c_57_1⟩ | ⟨rfl, c_58_0⟩
        · skip
          refine sy_if_eq (tgt := 69) hx hb dX12_numeral_62 (by decide) (by decide) (fun c_59 => ?_) (fun c9 => absurd c9 (by decide))
          refine lv_aload_n hx hb dX12_numeral_69 rfl (lv_at hl 1 rfl) ?_
          refine g_i (rDt hD) hS hA (g_V (own := "HideReaderModel") (As := []) (rest := []) hx hb hml hown hts hK hP (rDt hD) (kr_X12_isGood (l := l) (D := D) (k := k) (by omega)) ck_X12_isGood iv_X12_isGood uw_8_18 (rv_o hK hP) rfl hl.1 rfl (Nat.le_of_ble_eq_true rfl) dX12_numeral_70 ⟨Nat.le_of_ble_eq_true rfl, Nat.le_of_ble_eq_true rfl⟩ ⟨Nat.le_of_ble_eq_true rfl, Nat.le_of_ble_eq_true rfl⟩) (fun r_60 H locs hQ hS => ?_)
          obtain ⟨hq_r_60, hP⟩ := hQ
          rcases hq_r_60 with ⟨rfl, c_61_0, c_61_1⟩ | ⟨rfl, c_62_0⟩
          · skip
            refine sy_if_eq (tgt := 80) hx hb dX12_numeral_73 (by decide) (by decide) (fun c_63 => ?_) (fun c9 => absurd c9 (by decide))
            refine lv_iload_n hx hb dX12_numeral_80 rfl (lv_at hl 2 rfl) ?_
            exact r_i hx hb hr hlocks dX12_numeral_81 hS ⟨y_50, y_51, x_at, x_end, x_token, x_number, n_name, by omega, by omega, by omega, by omega, by omega, by omega, by omega, by omega, by omega, by omega, by omega, g_E, hP⟩
          exact False.elim (by omega)
        exact False.elim (by omega)
      exact False.elim (by omega)
set_option maxHeartbeats 4000000 in
set_option maxRecDepth 100000 in
theorem kr_X12_readLine (h_x_size : 0 ≤ x_size ∧ x_size ≤ 1600) (h_x_faultKind : 0 ≤ x_faultKind ∧ x_faultKind ≤ 5) (h_x_faultPlace : -1 ≤ x_faultPlace ∧ x_faultPlace ≤ 1600) (h_x_at : 0 ≤ x_at ∧ x_at ≤ 1600) (h_x_end : 0 ≤ x_end ∧ x_end ≤ 1600) (h_x_token : 0 ≤ x_token ∧ x_token ≤ 5) (h_x_number : -2147483648 ≤ x_number ∧ x_number ≤ 2147483647) (h_x_bank : 0 ≤ x_bank ∧ x_bank ≤ 1) (h_x_rb : 0 ≤ x_rb ∧ x_rb ≤ 1) (h_x_codes : 0 ≤ x_codes ∧ x_codes ≤ 1120) (h_x_within : 0 ≤ x_within ∧ x_within ≤ 7) (h_x_piled : 0 ≤ x_piled ∧ x_piled ≤ 90) (h_x_unitsInRule : 0 ≤ x_unitsInRule ∧ x_unitsInRule ≤ 30) (b_B_text : bd (-128) 127 B_text) (b_B_turns : bd (0) 4 B_turns) (b_B_herds : bd (0) 8 B_herds) (b_B_irons : bd (0) 6 B_irons) (b_B_beasts : bd (0) 8 B_beasts) (b_B_units : bd (0) 60 B_units) (b_B_night : bd (0) 100 B_night) (b_B_draw : bd (0) 999 B_draw) (b_B_told : bd (0) 31 B_told) (b_B_brands : bd (0) 4095 B_brands) (b_B_ironMarks : bd (0) 4095 B_ironMarks) (b_B_herdTold : bd (0) 7 B_herdTold) (b_B_born : bd (0) 99 B_born) (b_B_ruleFrom : bd (0) 1120 B_ruleFrom) (b_B_ruleTo : bd (0) 1120 B_ruleTo) (b_B_code : bd (-2147483648) 2147483647 B_code) (b_B_codeNumber : bd (-2147483648) 2147483647 B_codeNumber) (b_B_eWhat : bd (0) 8 B_eWhat) (b_B_eSign : bd (-2147483648) 2147483647 B_eSign) (g_E : x_end ≤ x_size) (g_Z : 1 ≤ x_faultKind ∨ (0 ≤ 560 * x_rb + 9 * B_units x_rb.toNat - x_codes ∧ 560 * x_rb ≤ x_codes)) (g_L : x_rb + x_bank = 1) (g_Q : rQ x_bank B_told B_ruleFrom B_ruleTo B_code) (g_VV : 1 ≤ x_faultKind ∨ rQ x_rb B_told B_ruleFrom B_ruleTo B_code) (g_R : 1 ≤ B_turns x_bank.toNat ∧ ¬ B_turns x_bank.toNat = 3) (g_SS : 1 ≤ x_faultKind ∨ (1 ≤ B_turns x_rb.toNat ∧ ¬ B_turns x_rb.toNat = 3)) : MetG l D k yX12_readLine cX12_readLine 3 none 6 [.ref (a 0)] (rW k a x_taped x_size x_faultKind x_faultPlace x_at x_end x_token x_number x_bank x_rb x_codes x_within x_piled x_unitsInRule x_askBeast x_askStroke x_askAge x_askSeason x_acts x_undone x_laid x_seens x_time x_fitting n_name B_tape B_text B_turns B_herds B_irons B_beasts B_units B_night B_draw B_told B_brands B_ironMarks B_herdTold B_born B_ruleFrom B_ruleTo B_code B_codeNumber B_eWhat B_eSign B_pile B_all B_burned B_was B_need B_laidRow B_long8 B_brings B_sBurning B_sStroke B_sIs B_sTold B_sUntold B_parts B_boxAll B_isBoxed G_hName G_iName G_bName ex) (qGv (fun H => ∃ (y_faultKind : Int) (y_faultPlace : Int) (y_at : Int) (y_end : Int) (y_token : Int) (y_number : Int) (j_name : Int64) (F_turns : Nat → Int) (F_herds : Nat → Int) (F_irons : Nat → Int) (F_beasts : Nat → Int) (F_units : Nat → Int) (F_night : Nat → Int) (F_draw : Nat → Int) (F_told : Nat → Int) (F_brands : Nat → Int) (F_ironMarks : Nat → Int) (F_herdTold : Nat → Int) (F_born : Nat → Int) (F_ruleFrom : Nat → Int) (F_ruleTo : Nat → Int) (G_hName : Nat → Int64) (G_iName : Nat → Int64) (G_bName : Nat → Int64) (F_code : Nat → Int) (F_codeNumber : Nat → Int) (F_eWhat : Nat → Int) (F_eSign : Nat → Int) (y_codes : Int) (y_within : Int) (y_piled : Int) (y_unitsInRule : Int), (0 ≤ y_faultKind ∧ y_faultKind ≤ 5) ∧ (-1 ≤ y_faultPlace ∧ y_faultPlace ≤ 1600) ∧ (0 ≤ y_at ∧ y_at ≤ 1600) ∧ (0 ≤ y_end ∧ y_end ≤ 1600) ∧ (0 ≤ y_token ∧ y_token ≤ 5) ∧ (-2147483648 ≤ y_number ∧ y_number ≤ 2147483647) ∧ (bd (0) 4 F_turns) ∧ (bd (0) 8 F_herds) ∧ (bd (0) 6 F_irons) ∧ (bd (0) 8 F_beasts) ∧ (bd (0) 60 F_units) ∧ (bd (0) 100 F_night) ∧ (bd (0) 999 F_draw) ∧ (bd (0) 31 F_told) ∧ (bd (0) 4095 F_brands) ∧ (bd (0) 4095 F_ironMarks) ∧ (bd (0) 7 F_herdTold) ∧ (bd (0) 99 F_born) ∧ (bd (0) 1120 F_ruleFrom) ∧ (bd (0) 1120 F_ruleTo) ∧ (bd (-2147483648) 2147483647 F_code) ∧ (bd (-2147483648) 2147483647 F_codeNumber) ∧ (bd (0) 8 F_eWhat) ∧ (bd (-2147483648) 2147483647 F_eSign) ∧ (0 ≤ y_codes ∧ y_codes ≤ 1120) ∧ (0 ≤ y_within ∧ y_within ≤ 7) ∧ (0 ≤ y_piled ∧ y_piled ≤ 90) ∧ (0 ≤ y_unitsInRule ∧ y_unitsInRule ≤ 30) ∧ (0 ≤ y_faultKind - x_faultKind) ∧ (0 ≤ y_end - x_end) ∧ (0 ≤ y_codes - x_codes) ∧ (1 ≤ y_faultKind ∨ x_end + 1 ≤ y_end) ∧ (y_end ≤ x_size) ∧ (1 ≤ y_faultKind ∨ (0 ≤ 560 * x_rb + 9 * F_units x_rb.toNat - y_codes ∧ 560 * x_rb ≤ y_codes)) ∧ (rQ x_bank F_told F_ruleFrom F_ruleTo F_code) ∧ (1 ≤ y_faultKind ∨ rQ x_rb F_told F_ruleFrom F_ruleTo F_code) ∧ (1 ≤ F_turns x_bank.toNat ∧ ¬ F_turns x_bank.toNat = 3) ∧ (1 ≤ y_faultKind ∨ (1 ≤ F_turns x_rb.toNat ∧ ¬ F_turns x_rb.toNat = 3)) ∧ va_P D vwCl (rW k a x_taped x_size y_faultKind y_faultPlace y_at y_end y_token y_number x_bank x_rb y_codes y_within y_piled y_unitsInRule x_askBeast x_askStroke x_askAge x_askSeason x_acts x_undone x_laid x_seens x_time x_fitting j_name B_tape B_text F_turns F_herds F_irons F_beasts F_units F_night F_draw F_told F_brands F_ironMarks F_herdTold F_born F_ruleFrom F_ruleTo F_code F_codeNumber F_eWhat F_eSign B_pile B_all B_burned B_was B_need B_laidRow B_long8 B_brings B_sBurning B_sStroke B_sIs B_sTold B_sUntold B_parts B_boxAll B_isBoxed G_hName G_iName G_bName ex) H)) := by
  refine metG_of 0 ck_X12_readLine (Nat.le_of_ble_eq_true rfl) rMap (fun p e s m args below meth c A hx hb hml hr hlocks hown hts hK hD hA hP hS ls hl => ?_)
  have hown : s.vm.findClass "HideReaderModel" = some m.cls := hown
  have hl : lv_has ls 3 [(0, .ref (a 0))] := hl
  refine lv_aload_n hx hb dX12_readLine_0 rfl (lv_at hl 0 rfl) ?_
  refine rg_o_name hx hb hts hown hK hP uw_7_33 dX12_readLine_1 ?_
  refine lv_lstore_n (lv' := [(1, .long n_name), (0, .ref (a 0))]) hx hb dX12_readLine_4 rfl hl (by decide) rfl (fun ls hl => ?_)
  refine lv_aload_n hx hb dX12_readLine_5 rfl (lv_at hl 1 rfl) ?_
  refine rg_o_token hx hb hts hown hK hP uw_7_31 dX12_readLine_6 ?_
  refine lv_iconst (v := mI 3) hx hb dX12_readLine_9 rfl ?_
  refine sy_icmp_ne (tgt := 20) hx hb dX12_readLine_10 (by decide) (by omega) (by decide) (fun c_1 => ?_) (fun c_1 => ?_)
  · skip
    refine lv_aload_n hx hb dX12_readLine_20 rfl (lv_at hl 1 rfl) ?_
    refine g_v (rDt hD) hS hA (g_V (own := "HideReaderModel") (As := []) (rest := []) hx hb hml hown hts hK hP (rDt hD) (kr_X12_misplaced (l := l) (D := D) (k := k) h_x_faultKind h_x_faultPlace h_x_at h_x_token) ck_X12_misplaced iv_X12_misplaced uw_8_34 (rv_o hK hP) rfl hl.1 rfl (Nat.le_of_ble_eq_true rfl) dX12_readLine_21 ⟨Nat.le_of_ble_eq_true rfl, Nat.le_of_ble_eq_true rfl⟩ ⟨Nat.le_of_ble_eq_true rfl, Nat.le_of_ble_eq_true rfl⟩) (fun H locs hQ hS => ?_)
    obtain ⟨y_3, y_4, hr_2_0, hr_2_1, hr_2_2, hP⟩ := hQ
    refine lv_aload_n hx hb dX12_readLine_24 rfl (lv_at hl 1 rfl) ?_
    refine g_i (rDt hD) hS hA (g_V (own := "HideReaderModel") (As := []) (rest := []) hx hb hml hown hts hK hP (rDt hD) (kr_X12_isGood (l := l) (D := D) (k := k) (by omega)) ck_X12_isGood iv_X12_isGood uw_8_18 (rv_o hK hP) rfl hl.1 rfl (Nat.le_of_ble_eq_true rfl) dX12_readLine_25 ⟨Nat.le_of_ble_eq_true rfl, Nat.le_of_ble_eq_true rfl⟩ ⟨Nat.le_of_ble_eq_true rfl, Nat.le_of_ble_eq_true rfl⟩) (fun r_5 H locs hQ hS => ?_)
    obtain ⟨hq_r_5, hP⟩ := hQ
    rcases hq_r_5 with ⟨rfl, c_6_0, c_6_1⟩ | ⟨rfl, c_7_0⟩
    · skip
      refine sy_if_ne (tgt := 32) hx hb dX12_readLine_28 (by decide) (by decide) (fun c9 => absurd c9 (by decide)) (fun c_8 => ?_)
      exact r_v hx hb hr hlocks dX12_readLine_31 hS ⟨y_3, y_4, x_at, x_end, x_token, x_number, n_name, B_turns, B_herds, B_irons, B_beasts, B_units, B_night, B_draw, B_told, B_brands, B_ironMarks, B_herdTold, B_born, B_ruleFrom, B_ruleTo, G_hName, G_iName, G_bName, B_code, B_codeNumber, B_eWhat, B_eSign, x_codes, x_within, x_piled, x_unitsInRule, by omega, by omega, by omega, by omega, by omega, by omega, b_B_turns, b_B_herds, b_B_irons, b_B_beasts, b_B_units, b_B_night, b_B_draw, b_B_told, b_B_brands, b_B_ironMarks, b_B_herdTold, b_B_born, b_B_ruleFrom, b_B_ruleTo, b_B_code, b_B_codeNumber, b_B_eWhat, b_B_eSign, by omega, by omega, by omega, by omega, by omega, by omega, by omega, by omega, g_E, (by omega), g_Q, (Or.imp_left (fun h9 => by omega) (g_VV : 1 ≤ x_faultKind ∨ rQ x_rb B_told B_ruleFrom B_ruleTo B_code) : 1 ≤ y_3 ∨ rQ x_rb B_told B_ruleFrom B_ruleTo B_code), g_R, (by omega), hP⟩
    exact False.elim (by omega)
  · skip
    refine lv_aload_n hx hb dX12_readLine_13 rfl (lv_at hl 1 rfl) ?_
    refine g_i (rDt hD) hS hA (g_V (own := "HideReaderModel") (As := []) (rest := []) hx hb hml hown hts hK hP (rDt hD) (kr_X12_isFull (l := l) (D := D) (k := k) (by omega) h_x_rb b_B_herds b_B_irons b_B_beasts b_B_told) ck_X12_isFull iv_X12_isFull uw_8_26 (rv_o hK hP) rfl hl.1 rfl (Nat.le_of_ble_eq_true rfl) dX12_readLine_14 ⟨Nat.le_of_ble_eq_true rfl, Nat.le_of_ble_eq_true rfl⟩ ⟨Nat.le_of_ble_eq_true rfl, Nat.le_of_ble_eq_true rfl⟩) (fun r_9 H locs hQ hS => ?_)
    obtain ⟨hq_r_9, hP⟩ := hQ
    rcases hq_r_9 with rfl | ⟨rfl, c_11_0, c_11_1, c_11_2⟩
    · skip
      refine sy_if_eq (tgt := 24) hx hb dX12_readLine_17 (by decide) (by decide) (fun c9 => absurd c9 (by decide)) (fun c_12 => ?_)
      refine lv_aload_n hx hb dX12_readLine_20 rfl (lv_at hl 1 rfl) ?_
      refine g_v (rDt hD) hS hA (g_V (own := "HideReaderModel") (As := []) (rest := []) hx hb hml hown hts hK hP (rDt hD) (kr_X12_misplaced (l := l) (D := D) (k := k) h_x_faultKind h_x_faultPlace h_x_at h_x_token) ck_X12_misplaced iv_X12_misplaced uw_8_34 (rv_o hK hP) rfl hl.1 rfl (Nat.le_of_ble_eq_true rfl) dX12_readLine_21 ⟨Nat.le_of_ble_eq_true rfl, Nat.le_of_ble_eq_true rfl⟩ ⟨Nat.le_of_ble_eq_true rfl, Nat.le_of_ble_eq_true rfl⟩) (fun H locs hQ hS => ?_)
      obtain ⟨y_14, y_15, hr_13_0, hr_13_1, hr_13_2, hP⟩ := hQ
      refine lv_aload_n hx hb dX12_readLine_24 rfl (lv_at hl 1 rfl) ?_
      refine g_i (rDt hD) hS hA (g_V (own := "HideReaderModel") (As := []) (rest := []) hx hb hml hown hts hK hP (rDt hD) (kr_X12_isGood (l := l) (D := D) (k := k) (by omega)) ck_X12_isGood iv_X12_isGood uw_8_18 (rv_o hK hP) rfl hl.1 rfl (Nat.le_of_ble_eq_true rfl) dX12_readLine_25 ⟨Nat.le_of_ble_eq_true rfl, Nat.le_of_ble_eq_true rfl⟩ ⟨Nat.le_of_ble_eq_true rfl, Nat.le_of_ble_eq_true rfl⟩) (fun r_16 H locs hQ hS => ?_)
      obtain ⟨hq_r_16, hP⟩ := hQ
      rcases hq_r_16 with ⟨rfl, c_17_0, c_17_1⟩ | ⟨rfl, c_18_0⟩
      · skip
        refine sy_if_ne (tgt := 32) hx hb dX12_readLine_28 (by decide) (by decide) (fun c9 => absurd c9 (by decide)) (fun c_19 => ?_)
        exact r_v hx hb hr hlocks dX12_readLine_31 hS ⟨y_14, y_15, x_at, x_end, x_token, x_number, n_name, B_turns, B_herds, B_irons, B_beasts, B_units, B_night, B_draw, B_told, B_brands, B_ironMarks, B_herdTold, B_born, B_ruleFrom, B_ruleTo, G_hName, G_iName, G_bName, B_code, B_codeNumber, B_eWhat, B_eSign, x_codes, x_within, x_piled, x_unitsInRule, by omega, by omega, by omega, by omega, by omega, by omega, b_B_turns, b_B_herds, b_B_irons, b_B_beasts, b_B_units, b_B_night, b_B_draw, b_B_told, b_B_brands, b_B_ironMarks, b_B_herdTold, b_B_born, b_B_ruleFrom, b_B_ruleTo, b_B_code, b_B_codeNumber, b_B_eWhat, b_B_eSign, by omega, by omega, by omega, by omega, by omega, by omega, by omega, by omega, g_E, (by omega), g_Q, (Or.imp_left (fun h9 => by omega) (g_VV : 1 ≤ x_faultKind ∨ rQ x_rb B_told B_ruleFrom B_ruleTo B_code) : 1 ≤ y_14 ∨ rQ x_rb B_told B_ruleFrom B_ruleTo B_code), g_R, (by omega), hP⟩
      exact False.elim (by omega)
    · skip
      refine sy_if_eq (tgt := 24) hx hb dX12_readLine_17 (by decide) (by decide) (fun c_20 => ?_) (fun c9 => absurd c9 (by decide))
      refine lv_aload_n hx hb dX12_readLine_24 rfl (lv_at hl 1 rfl) ?_
      refine g_i (rDt hD) hS hA (g_V (own := "HideReaderModel") (As := []) (rest := []) hx hb hml hown hts hK hP (rDt hD) (kr_X12_isGood (l := l) (D := D) (k := k) h_x_faultKind) ck_X12_isGood iv_X12_isGood uw_8_18 (rv_o hK hP) rfl hl.1 rfl (Nat.le_of_ble_eq_true rfl) dX12_readLine_25 ⟨Nat.le_of_ble_eq_true rfl, Nat.le_of_ble_eq_true rfl⟩ ⟨Nat.le_of_ble_eq_true rfl, Nat.le_of_ble_eq_true rfl⟩) (fun r_21 H locs hQ hS => ?_)
      obtain ⟨hq_r_21, hP⟩ := hQ
      rcases hq_r_21 with ⟨rfl, c_22_0, c_22_1⟩ | ⟨rfl, c_23_0⟩
      · skip
        refine sy_if_ne (tgt := 32) hx hb dX12_readLine_28 (by decide) (by decide) (fun c9 => absurd c9 (by decide)) (fun c_24 => ?_)
        exact r_v hx hb hr hlocks dX12_readLine_31 hS ⟨x_faultKind, x_faultPlace, x_at, x_end, x_token, x_number, n_name, B_turns, B_herds, B_irons, B_beasts, B_units, B_night, B_draw, B_told, B_brands, B_ironMarks, B_herdTold, B_born, B_ruleFrom, B_ruleTo, G_hName, G_iName, G_bName, B_code, B_codeNumber, B_eWhat, B_eSign, x_codes, x_within, x_piled, x_unitsInRule, by omega, by omega, by omega, by omega, by omega, by omega, b_B_turns, b_B_herds, b_B_irons, b_B_beasts, b_B_units, b_B_night, b_B_draw, b_B_told, b_B_brands, b_B_ironMarks, b_B_herdTold, b_B_born, b_B_ruleFrom, b_B_ruleTo, b_B_code, b_B_codeNumber, b_B_eWhat, b_B_eSign, by omega, by omega, by omega, by omega, by omega, by omega, by omega, by omega, g_E, g_Z, g_Q, g_VV, g_R, g_SS, hP⟩
      · skip
        refine sy_if_ne (tgt := 32) hx hb dX12_readLine_28 (by decide) (by decide) (fun c_25 => ?_) (fun c9 => absurd c9 (by decide))
        refine lv_aload_n hx hb dX12_readLine_32 rfl (lv_at hl 1 rfl) ?_
        refine g_v (rDt hD) hS hA (g_V (own := "HideReaderModel") (As := []) (rest := []) hx hb hml hown hts hK hP (rDt hD) (kr_X12_goOn (l := l) (D := D) (k := k) h_x_size h_x_end h_x_number b_B_text g_E) ck_X12_goOn iv_X12_goOn uw_7_220 (rv_o hK hP) rfl hl.1 rfl (Nat.le_of_ble_eq_true rfl) dX12_readLine_33 ⟨Nat.le_of_ble_eq_true rfl, Nat.le_of_ble_eq_true rfl⟩ ⟨Nat.le_of_ble_eq_true rfl, Nat.le_of_ble_eq_true rfl⟩) (fun H locs hQ hS => ?_)
        obtain ⟨y_27, y_28, y_29, y_30, j_31, hr_26_0, hr_26_1, hr_26_2, hr_26_3, hr_26_4, hr_26_5, kr_26_E, hP⟩ := hQ
        refine lv_lload_n hx hb dX12_readLine_36 rfl (lv_at hl 0 rfl) ?_
        refine lv_ldc2 (own := "HideReaderModel") (v := 500186639987) hx hb hown (hts _ uw_7_234) dX12_readLine_37 ?_
        refine sy_lcmpE hx hb dX12_readLine_40 (fun z_32 ez_32 hz_32 => ?_)
        refine sy_join (I := fun H locs g => ∃ (y_44 : Int) (y_45 : Int) (y_46 : Int) (y_47 : Int) (y_48 : Int) (y_49 : Int) (j_50 : Int64) (F_51 : Nat → Int) (F_52 : Nat → Int) (ls : Array Slot), (0 ≤ y_44 ∧ y_44 ≤ 5) ∧ (-1 ≤ y_45 ∧ y_45 ≤ 1600) ∧ (0 ≤ y_46 ∧ y_46 ≤ 1600) ∧ (0 ≤ y_47 ∧ y_47 ≤ 1600) ∧ (0 ≤ y_48 ∧ y_48 ≤ 5) ∧ (-2147483648 ≤ y_49 ∧ y_49 ≤ 2147483647) ∧ (bd (0) 4 F_51) ∧ (bd (0) 31 F_52) ∧ (y_47 ≤ x_size) ∧ (1 ≤ y_44 ∨ (0 ≤ 560 * x_rb + 9 * B_units x_rb.toNat - x_codes ∧ 560 * x_rb ≤ x_codes)) ∧ (rQ x_bank F_52 B_ruleFrom B_ruleTo B_code) ∧ (1 ≤ y_44 ∨ rQ x_rb F_52 B_ruleFrom B_ruleTo B_code) ∧ (1 ≤ F_51 x_bank.toNat ∧ ¬ F_51 x_bank.toNat = 3) ∧ (1 ≤ y_44 ∨ (1 ≤ F_51 x_rb.toNat ∧ ¬ F_51 x_rb.toNat = 3)) ∧ (x_faultKind ≤ y_44) ∧ (x_end ≤ y_47) ∧ (y_28 ≤ y_47) ∧ (1 ≤ y_44 ∨ y_48 ≤ 0 ∨ x_end + 1 ≤ y_47) ∧ va_P D vwCl (rW k a x_taped x_size y_44 y_45 y_46 y_47 y_48 y_49 x_bank x_rb x_codes x_within x_piled x_unitsInRule x_askBeast x_askStroke x_askAge x_askSeason x_acts x_undone x_laid x_seens x_time x_fitting j_50 B_tape B_text F_51 B_herds B_irons B_beasts B_units B_night B_draw F_52 B_brands B_ironMarks B_herdTold B_born B_ruleFrom B_ruleTo B_code B_codeNumber B_eWhat B_eSign B_pile B_all B_burned B_was B_need B_laidRow B_long8 B_brings B_sBurning B_sStroke B_sIs B_sTold B_sUntold B_parts B_boxAll B_isBoxed G_hName G_iName G_bName ex) H ∧ va_S A s.heap H locs ∧ lv_has ls 3 [(1, .long n_name), (0, .ref (a 0))] ∧ g = F0 m 48 ls []) ?_ ?_
        · skip
          intro H locs g hI
          obtain ⟨y_44, y_45, y_46, y_47, y_48, y_49, j_50, F_51, F_52, ls, h48_0, h48_1, h48_2, h48_3, h48_4, h48_5, bF_51, bF_52, g_53, g_54, g_55, g_56, g_57, g_58, h48_14, h48_15, h48_16, h48_17, hP, hS, hl, rfl⟩ := hI
          refine lv_lload_n hx hb dX12_readLine_48 rfl (lv_at hl 0 rfl) ?_
          refine lv_ldc2 (own := "HideReaderModel") (v := 120299659095922) hx hb hown (hts _ uw_7_235) dX12_readLine_49 ?_
          refine sy_lcmpE hx hb dX12_readLine_52 (fun z_60 ez_60 hz_60 => ?_)
          refine sy_join (I := fun H locs g => ∃ (F_67 : Nat → Int) (ls : Array Slot), (bd (0) 31 F_67) ∧ (rQ x_bank F_67 B_ruleFrom B_ruleTo B_code) ∧ (1 ≤ y_44 ∨ rQ x_rb F_67 B_ruleFrom B_ruleTo B_code) ∧ (1 ≤ y_44 ∨ y_48 ≤ 0 ∨ x_end + 1 ≤ y_47) ∧ va_P D vwCl (rW k a x_taped x_size y_44 y_45 y_46 y_47 y_48 y_49 x_bank x_rb x_codes x_within x_piled x_unitsInRule x_askBeast x_askStroke x_askAge x_askSeason x_acts x_undone x_laid x_seens x_time x_fitting j_50 B_tape B_text F_51 B_herds B_irons B_beasts B_units B_night B_draw F_67 B_brands B_ironMarks B_herdTold B_born B_ruleFrom B_ruleTo B_code B_codeNumber B_eWhat B_eSign B_pile B_all B_burned B_was B_need B_laidRow B_long8 B_brings B_sBurning B_sStroke B_sIs B_sTold B_sUntold B_parts B_boxAll B_isBoxed G_hName G_iName G_bName ex) H ∧ va_S A s.heap H locs ∧ lv_has ls 3 [(1, .long n_name), (0, .ref (a 0))] ∧ g = F0 m 69 ls []) ?_ ?_
          · skip
            intro H locs g hI
            obtain ⟨F_67, ls, bF_67, g_68, g_69, h69_3, hP, hS, hl, rfl⟩ := hI
            refine lv_lload_n hx hb dX12_readLine_69 rfl (lv_at hl 0 rfl) ?_
            refine lv_ldc2 (own := "HideReaderModel") (v := 1751478884) hx hb hown (hts _ uw_7_236) dX12_readLine_70 ?_
            refine sy_lcmpE hx hb dX12_readLine_73 (fun z_71 ez_71 hz_71 => ?_)
            refine sy_join (I := fun H locs g => ∃ (y_98 : Int) (y_99 : Int) (y_100 : Int) (y_101 : Int) (y_102 : Int) (y_103 : Int) (j_104 : Int64) (F_105 : Nat → Int) (F_106 : Nat → Int) (G_107 : Nat → Int64) (ls : Array Slot), (0 ≤ y_98 ∧ y_98 ≤ 5) ∧ (-1 ≤ y_99 ∧ y_99 ≤ 1600) ∧ (0 ≤ y_100 ∧ y_100 ≤ 1600) ∧ (0 ≤ y_101 ∧ y_101 ≤ 1600) ∧ (0 ≤ y_102 ∧ y_102 ≤ 5) ∧ (-2147483648 ≤ y_103 ∧ y_103 ≤ 2147483647) ∧ (bd (0) 8 F_105) ∧ (bd (0) 4095 F_106) ∧ (y_101 ≤ x_size) ∧ (1 ≤ y_98 ∨ (0 ≤ 560 * x_rb + 9 * B_units x_rb.toNat - x_codes ∧ 560 * x_rb ≤ x_codes)) ∧ (1 ≤ y_98 ∨ rQ x_rb F_67 B_ruleFrom B_ruleTo B_code) ∧ (1 ≤ y_98 ∨ (1 ≤ F_51 x_rb.toNat ∧ ¬ F_51 x_rb.toNat = 3)) ∧ (x_faultKind ≤ y_98) ∧ (y_44 ≤ y_98) ∧ (x_end ≤ y_101) ∧ (y_47 ≤ y_101) ∧ (1 ≤ y_98 ∨ y_102 ≤ 0 ∨ x_end + 1 ≤ y_101) ∧ va_P D vwCl (rW k a x_taped x_size y_98 y_99 y_100 y_101 y_102 y_103 x_bank x_rb x_codes x_within x_piled x_unitsInRule x_askBeast x_askStroke x_askAge x_askSeason x_acts x_undone x_laid x_seens x_time x_fitting j_104 B_tape B_text F_51 F_105 B_irons B_beasts B_units B_night B_draw F_67 F_106 B_ironMarks B_herdTold B_born B_ruleFrom B_ruleTo B_code B_codeNumber B_eWhat B_eSign B_pile B_all B_burned B_was B_need B_laidRow B_long8 B_brings B_sBurning B_sStroke B_sIs B_sTold B_sUntold B_parts B_boxAll B_isBoxed G_107 G_iName G_bName ex) H ∧ va_S A s.heap H locs ∧ lv_has ls 3 [(1, .long n_name), (0, .ref (a 0))] ∧ g = F0 m 166 ls []) ?_ ?_
            · skip
              intro H locs g hI
              obtain ⟨y_98, y_99, y_100, y_101, y_102, y_103, j_104, F_105, F_106, G_107, ls, h166_0, h166_1, h166_2, h166_3, h166_4, h166_5, bF_105, bF_106, g_108, g_109, g_110, g_111, h166_12, h166_13, h166_14, h166_15, h166_16, hP, hS, hl, rfl⟩ := hI
              refine lv_lload_n hx hb dX12_readLine_166 rfl (lv_at hl 0 rfl) ?_
              refine lv_ldc2 (own := "HideReaderModel") (v := 1769107310) hx hb hown (hts _ uw_7_238) dX12_readLine_167 ?_
              refine sy_lcmpE hx hb dX12_readLine_170 (fun z_113 ez_113 hz_113 => ?_)
              refine sy_join (I := fun H locs g => ∃ (y_140 : Int) (y_141 : Int) (y_142 : Int) (y_143 : Int) (y_144 : Int) (y_145 : Int) (j_146 : Int64) (F_147 : Nat → Int) (F_148 : Nat → Int) (G_149 : Nat → Int64) (ls : Array Slot), (0 ≤ y_140 ∧ y_140 ≤ 5) ∧ (-1 ≤ y_141 ∧ y_141 ≤ 1600) ∧ (0 ≤ y_142 ∧ y_142 ≤ 1600) ∧ (0 ≤ y_143 ∧ y_143 ≤ 1600) ∧ (0 ≤ y_144 ∧ y_144 ≤ 5) ∧ (-2147483648 ≤ y_145 ∧ y_145 ≤ 2147483647) ∧ (bd (0) 6 F_147) ∧ (bd (0) 4095 F_148) ∧ (y_143 ≤ x_size) ∧ (1 ≤ y_140 ∨ (0 ≤ 560 * x_rb + 9 * B_units x_rb.toNat - x_codes ∧ 560 * x_rb ≤ x_codes)) ∧ (1 ≤ y_140 ∨ rQ x_rb F_67 B_ruleFrom B_ruleTo B_code) ∧ (1 ≤ y_140 ∨ (1 ≤ F_51 x_rb.toNat ∧ ¬ F_51 x_rb.toNat = 3)) ∧ (x_faultKind ≤ y_140) ∧ (y_98 ≤ y_140) ∧ (x_end ≤ y_143) ∧ (y_101 ≤ y_143) ∧ (1 ≤ y_140 ∨ y_144 ≤ 0 ∨ x_end + 1 ≤ y_143) ∧ va_P D vwCl (rW k a x_taped x_size y_140 y_141 y_142 y_143 y_144 y_145 x_bank x_rb x_codes x_within x_piled x_unitsInRule x_askBeast x_askStroke x_askAge x_askSeason x_acts x_undone x_laid x_seens x_time x_fitting j_146 B_tape B_text F_51 F_105 F_147 B_beasts B_units B_night B_draw F_67 F_106 F_148 B_herdTold B_born B_ruleFrom B_ruleTo B_code B_codeNumber B_eWhat B_eSign B_pile B_all B_burned B_was B_need B_laidRow B_long8 B_brings B_sBurning B_sStroke B_sIs B_sTold B_sUntold B_parts B_boxAll B_isBoxed G_107 G_149 G_bName ex) H ∧ va_S A s.heap H locs ∧ lv_has ls 3 [(1, .long n_name), (0, .ref (a 0))] ∧ g = F0 m 263 ls []) ?_ ?_
              · skip
                intro H locs g hI
                obtain ⟨y_140, y_141, y_142, y_143, y_144, y_145, j_146, F_147, F_148, G_149, ls, h263_0, h263_1, h263_2, h263_3, h263_4, h263_5, bF_147, bF_148, g_150, g_151, g_152, g_153, h263_12, h263_13, h263_14, h263_15, h263_16, hP, hS, hl, rfl⟩ := hI
                refine lv_lload_n hx hb dX12_readLine_263 rfl (lv_at hl 0 rfl) ?_
                refine lv_ldc2 (own := "HideReaderModel") (v := 422607680372) hx hb hown (hts _ uw_7_239) dX12_readLine_264 ?_
                refine sy_lcmpE hx hb dX12_readLine_267 (fun z_155 ez_155 hz_155 => ?_)
                refine sy_join (I := fun H locs g => ∃ (y_169 : Int) (y_170 : Int) (y_171 : Int) (y_172 : Int) (y_173 : Int) (y_174 : Int) (j_175 : Int64) (F_176 : Nat → Int) (F_177 : Nat → Int) (F_178 : Nat → Int) (G_179 : Nat → Int64) (ls : Array Slot), (0 ≤ y_169 ∧ y_169 ≤ 5) ∧ (-1 ≤ y_170 ∧ y_170 ≤ 1600) ∧ (0 ≤ y_171 ∧ y_171 ≤ 1600) ∧ (0 ≤ y_172 ∧ y_172 ≤ 1600) ∧ (0 ≤ y_173 ∧ y_173 ≤ 5) ∧ (-2147483648 ≤ y_174 ∧ y_174 ≤ 2147483647) ∧ (bd (0) 8 F_176) ∧ (bd (0) 7 F_177) ∧ (bd (0) 99 F_178) ∧ (y_172 ≤ x_size) ∧ (1 ≤ y_169 ∨ (0 ≤ 560 * x_rb + 9 * B_units x_rb.toNat - x_codes ∧ 560 * x_rb ≤ x_codes)) ∧ (1 ≤ y_169 ∨ rQ x_rb F_67 B_ruleFrom B_ruleTo B_code) ∧ (1 ≤ y_169 ∨ (1 ≤ F_51 x_rb.toNat ∧ ¬ F_51 x_rb.toNat = 3)) ∧ (x_faultKind ≤ y_169) ∧ (y_140 ≤ y_169) ∧ (x_end ≤ y_172) ∧ (y_143 ≤ y_172) ∧ (1 ≤ y_169 ∨ y_173 ≤ 0 ∨ x_end + 1 ≤ y_172) ∧ va_P D vwCl (rW k a x_taped x_size y_169 y_170 y_171 y_172 y_173 y_174 x_bank x_rb x_codes x_within x_piled x_unitsInRule x_askBeast x_askStroke x_askAge x_askSeason x_acts x_undone x_laid x_seens x_time x_fitting j_175 B_tape B_text F_51 F_105 F_147 F_176 B_units B_night B_draw F_67 F_106 F_148 F_177 F_178 B_ruleFrom B_ruleTo B_code B_codeNumber B_eWhat B_eSign B_pile B_all B_burned B_was B_need B_laidRow B_long8 B_brings B_sBurning B_sStroke B_sIs B_sTold B_sUntold B_parts B_boxAll B_isBoxed G_107 G_149 G_179 ex) H ∧ va_S A s.heap H locs ∧ lv_has ls 3 [(1, .long n_name), (0, .ref (a 0))] ∧ g = F0 m 275 ls []) ?_ ?_
                · skip
                  intro H locs g hI
                  obtain ⟨y_169, y_170, y_171, y_172, y_173, y_174, j_175, F_176, F_177, F_178, G_179, ls, h275_0, h275_1, h275_2, h275_3, h275_4, h275_5, bF_176, bF_177, bF_178, g_180, g_181, g_182, g_183, h275_13, h275_14, h275_15, h275_16, h275_17, hP, hS, hl, rfl⟩ := hI
                  refine lv_lload_n hx hb dX12_readLine_275 rfl (lv_at hl 0 rfl) ?_
                  refine lv_ldc2 (own := "HideReaderModel") (v := 495673374579) hx hb hown (hts _ uw_8_2) dX12_readLine_276 ?_
                  refine sy_lcmpE hx hb dX12_readLine_279 (fun z_185 ez_185 hz_185 => ?_)
                  refine sy_join (I := fun H locs g => ∃ (y_207 : Int) (y_208 : Int) (y_209 : Int) (y_210 : Int) (y_211 : Int) (y_212 : Int) (j_213 : Int64) (F_214 : Nat → Int) (F_215 : Nat → Int) (F_216 : Nat → Int) (F_217 : Nat → Int) (F_218 : Nat → Int) (F_219 : Nat → Int) (F_220 : Nat → Int) (F_221 : Nat → Int) (y_222 : Int) (y_223 : Int) (y_224 : Int) (y_225 : Int) (ls : Array Slot), (0 ≤ y_207 ∧ y_207 ≤ 5) ∧ (-1 ≤ y_208 ∧ y_208 ≤ 1600) ∧ (0 ≤ y_209 ∧ y_209 ≤ 1600) ∧ (0 ≤ y_210 ∧ y_210 ≤ 1600) ∧ (0 ≤ y_211 ∧ y_211 ≤ 5) ∧ (-2147483648 ≤ y_212 ∧ y_212 ≤ 2147483647) ∧ (bd (0) 60 F_214) ∧ (bd (0) 31 F_215) ∧ (bd (0) 1120 F_216) ∧ (bd (0) 1120 F_217) ∧ (bd (-2147483648) 2147483647 F_218) ∧ (bd (-2147483648) 2147483647 F_219) ∧ (bd (0) 8 F_220) ∧ (bd (-2147483648) 2147483647 F_221) ∧ (0 ≤ y_222 ∧ y_222 ≤ 1120) ∧ (0 ≤ y_223 ∧ y_223 ≤ 7) ∧ (0 ≤ y_224 ∧ y_224 ≤ 90) ∧ (0 ≤ y_225 ∧ y_225 ≤ 30) ∧ (y_210 ≤ x_size) ∧ (1 ≤ y_207 ∨ (0 ≤ 560 * x_rb + 9 * F_214 x_rb.toNat - y_222 ∧ 560 * x_rb ≤ y_222)) ∧ (rQ x_bank F_215 F_216 F_217 F_218) ∧ (1 ≤ y_207 ∨ rQ x_rb F_215 F_216 F_217 F_218) ∧ (1 ≤ y_207 ∨ (1 ≤ F_51 x_rb.toNat ∧ ¬ F_51 x_rb.toNat = 3)) ∧ (x_faultKind ≤ y_207) ∧ (y_169 ≤ y_207) ∧ (x_end ≤ y_210) ∧ (y_172 ≤ y_210) ∧ (x_codes ≤ y_222) ∧ (1 ≤ y_207 ∨ y_211 ≤ 0 ∨ x_end + 1 ≤ y_210) ∧ va_P D vwCl (rW k a x_taped x_size y_207 y_208 y_209 y_210 y_211 y_212 x_bank x_rb y_222 y_223 y_224 y_225 x_askBeast x_askStroke x_askAge x_askSeason x_acts x_undone x_laid x_seens x_time x_fitting j_213 B_tape B_text F_51 F_105 F_147 F_176 F_214 B_night B_draw F_215 F_106 F_148 F_177 F_178 F_216 F_217 F_218 F_219 F_220 F_221 B_pile B_all B_burned B_was B_need B_laidRow B_long8 B_brings B_sBurning B_sStroke B_sIs B_sTold B_sUntold B_parts B_boxAll B_isBoxed G_107 G_149 G_179 ex) H ∧ va_S A s.heap H locs ∧ lv_has ls 3 [(1, .long n_name), (0, .ref (a 0))] ∧ g = F0 m 287 ls []) ?_ ?_
                  · skip
                    intro H locs g hI
                    obtain ⟨y_207, y_208, y_209, y_210, y_211, y_212, j_213, F_214, F_215, F_216, F_217, F_218, F_219, F_220, F_221, y_222, y_223, y_224, y_225, ls, h287_0, h287_1, h287_2, h287_3, h287_4, h287_5, bF_214, bF_215, bF_216, bF_217, bF_218, bF_219, bF_220, bF_221, h287_14, h287_15, h287_16, h287_17, g_226, g_227, g_228, g_229, g_230, h287_23, h287_24, h287_25, h287_26, h287_27, h287_28, hP, hS, hl, rfl⟩ := hI
                    refine lv_lload_n hx hb dX12_readLine_287 rfl (lv_at hl 0 rfl) ?_
                    refine lv_ldc2 (own := "HideReaderModel") (v := 474214787188) hx hb hown (hts _ uw_8_3) dX12_readLine_288 ?_
                    refine sy_lcmpE hx hb dX12_readLine_291 (fun z_232 ez_232 hz_232 => ?_)
                    refine sy_join (I := fun H locs g => ∃ (y_248 : Int) (y_249 : Int) (y_250 : Int) (y_251 : Int) (y_252 : Int) (y_253 : Int) (j_254 : Int64) (F_255 : Nat → Int) (F_256 : Nat → Int) (ls : Array Slot), (0 ≤ y_248 ∧ y_248 ≤ 5) ∧ (-1 ≤ y_249 ∧ y_249 ≤ 1600) ∧ (0 ≤ y_250 ∧ y_250 ≤ 1600) ∧ (0 ≤ y_251 ∧ y_251 ≤ 1600) ∧ (0 ≤ y_252 ∧ y_252 ≤ 5) ∧ (-2147483648 ≤ y_253 ∧ y_253 ≤ 2147483647) ∧ (bd (0) 100 F_255) ∧ (bd (0) 31 F_256) ∧ (y_251 ≤ x_size) ∧ (1 ≤ y_248 ∨ (0 ≤ 560 * x_rb + 9 * F_214 x_rb.toNat - y_222 ∧ 560 * x_rb ≤ y_222)) ∧ (rQ x_bank F_256 F_216 F_217 F_218) ∧ (1 ≤ y_248 ∨ rQ x_rb F_256 F_216 F_217 F_218) ∧ (1 ≤ y_248 ∨ (1 ≤ F_51 x_rb.toNat ∧ ¬ F_51 x_rb.toNat = 3)) ∧ (x_faultKind ≤ y_248) ∧ (y_207 ≤ y_248) ∧ (x_end ≤ y_251) ∧ (y_210 ≤ y_251) ∧ (1 ≤ y_248 ∨ y_252 ≤ 0 ∨ x_end + 1 ≤ y_251) ∧ va_P D vwCl (rW k a x_taped x_size y_248 y_249 y_250 y_251 y_252 y_253 x_bank x_rb y_222 y_223 y_224 y_225 x_askBeast x_askStroke x_askAge x_askSeason x_acts x_undone x_laid x_seens x_time x_fitting j_254 B_tape B_text F_51 F_105 F_147 F_176 F_214 F_255 B_draw F_256 F_106 F_148 F_177 F_178 F_216 F_217 F_218 F_219 F_220 F_221 B_pile B_all B_burned B_was B_need B_laidRow B_long8 B_brings B_sBurning B_sStroke B_sIs B_sTold B_sUntold B_parts B_boxAll B_isBoxed G_107 G_149 G_179 ex) H ∧ va_S A s.heap H locs ∧ lv_has ls 3 [(1, .long n_name), (0, .ref (a 0))] ∧ g = F0 m 325 ls []) ?_ ?_
                    · skip
                      intro H locs g hI
                      obtain ⟨y_248, y_249, y_250, y_251, y_252, y_253, j_254, F_255, F_256, ls, h325_0, h325_1, h325_2, h325_3, h325_4, h325_5, bF_255, bF_256, g_257, g_258, g_259, g_260, g_261, h325_13, h325_14, h325_15, h325_16, h325_17, hP, hS, hl, rfl⟩ := hI
                      refine lv_lload_n hx hb dX12_readLine_325 rfl (lv_at hl 0 rfl) ?_
                      refine lv_ldc2 (own := "HideReaderModel") (v := 1685217655) hx hb hown (hts _ uw_8_4) dX12_readLine_326 ?_
                      refine sy_lcmpE hx hb dX12_readLine_329 (fun z_263 ez_263 hz_263 => ?_)
                      refine sy_join (I := fun H locs g => ∃ (y_279 : Int) (y_280 : Int) (y_281 : Int) (y_282 : Int) (y_283 : Int) (y_284 : Int) (j_285 : Int64) (F_286 : Nat → Int) (F_287 : Nat → Int) (ls : Array Slot), (0 ≤ y_279 ∧ y_279 ≤ 5) ∧ (-1 ≤ y_280 ∧ y_280 ≤ 1600) ∧ (0 ≤ y_281 ∧ y_281 ≤ 1600) ∧ (0 ≤ y_282 ∧ y_282 ≤ 1600) ∧ (0 ≤ y_283 ∧ y_283 ≤ 5) ∧ (-2147483648 ≤ y_284 ∧ y_284 ≤ 2147483647) ∧ (bd (0) 999 F_286) ∧ (bd (0) 31 F_287) ∧ (y_282 ≤ x_size) ∧ (1 ≤ y_279 ∨ (0 ≤ 560 * x_rb + 9 * F_214 x_rb.toNat - y_222 ∧ 560 * x_rb ≤ y_222)) ∧ (rQ x_bank F_287 F_216 F_217 F_218) ∧ (1 ≤ y_279 ∨ rQ x_rb F_287 F_216 F_217 F_218) ∧ (1 ≤ y_279 ∨ (1 ≤ F_51 x_rb.toNat ∧ ¬ F_51 x_rb.toNat = 3)) ∧ (x_faultKind ≤ y_279) ∧ (y_248 ≤ y_279) ∧ (x_end ≤ y_282) ∧ (y_251 ≤ y_282) ∧ (1 ≤ y_279 ∨ y_283 ≤ 0 ∨ x_end + 1 ≤ y_282) ∧ va_P D vwCl (rW k a x_taped x_size y_279 y_280 y_281 y_282 y_283 y_284 x_bank x_rb y_222 y_223 y_224 y_225 x_askBeast x_askStroke x_askAge x_askSeason x_acts x_undone x_laid x_seens x_time x_fitting j_285 B_tape B_text F_51 F_105 F_147 F_176 F_214 F_255 F_286 F_287 F_106 F_148 F_177 F_178 F_216 F_217 F_218 F_219 F_220 F_221 B_pile B_all B_burned B_was B_need B_laidRow B_long8 B_brings B_sBurning B_sStroke B_sIs B_sTold B_sUntold B_parts B_boxAll B_isBoxed G_107 G_149 G_179 ex) H ∧ va_S A s.heap H locs ∧ lv_has ls 3 [(1, .long n_name), (0, .ref (a 0))] ∧ g = F0 m 364 ls []) ?_ ?_
                      · skip
                        intro H locs g hI
                        obtain ⟨y_279, y_280, y_281, y_282, y_283, y_284, j_285, F_286, F_287, ls, h364_0, h364_1, h364_2, h364_3, h364_4, h364_5, bF_286, bF_287, g_288, g_289, g_290, g_291, g_292, h364_13, h364_14, h364_15, h364_16, h364_17, hP, hS, hl, rfl⟩ := hI
                        refine lv_aload_n hx hb dX12_readLine_364 rfl (lv_at hl 1 rfl) ?_
                        refine lv_aload_n hx hb dX12_readLine_365 rfl (lv_at hl 1 rfl) ?_
                        refine lv_bipush (v := mI 59) hx hb dX12_readLine_366 (by decide) ?_
                        refine g_i (rDt hD) hS hA (g_V (own := "HideReaderModel") (As := [.int (mI 59)]) (rest := [.ref (a 0)]) hx hb hml hown hts hK hP (rDt hD) (kr_X12_isSignHere (l := l) (D := D) (k := k) (by decide) h_x_size (by omega) (by omega) b_B_text) ck_X12_isSignHere iv_X12_isSignHere uw_8_90 (rv_o hK hP) rfl hl.1 rfl (Nat.le_of_ble_eq_true rfl) dX12_readLine_368 ⟨Nat.le_of_ble_eq_true rfl, Nat.le_of_ble_eq_true rfl⟩ ⟨Nat.le_of_ble_eq_true rfl, Nat.le_of_ble_eq_true rfl⟩) (fun r_294 H locs hQ hS => ?_)
                        obtain ⟨hq_r_294, hP⟩ := hQ
                        rcases hq_r_294 with ⟨rfl, c_295_0⟩ | ⟨rfl, c_296_0, c_296_1, c_296_2⟩
                        · skip
                          refine g_v (rDt hD) hS hA (g_V (own := "HideReaderModel") (As := [.int (mI 0)]) (rest := []) hx hb hml hown hts hK hP (rDt hD) (kr_X12_must (l := l) (D := D) (k := k) (by decide) h_x_size (by omega) (by omega) (by omega) (by omega) (by omega) (by omega) b_B_text g_288) ck_X12_must iv_X12_must uw_8_62 (rv_o hK hP) rfl hl.1 rfl (Nat.le_of_ble_eq_true rfl) dX12_readLine_371 ⟨Nat.le_of_ble_eq_true rfl, Nat.le_of_ble_eq_true rfl⟩ ⟨Nat.le_of_ble_eq_true rfl, Nat.le_of_ble_eq_true rfl⟩) (fun H locs hQ hS => ?_)
                          obtain ⟨y_298, y_299, y_300, y_301, y_302, y_303, j_304, hr_297_0, hr_297_1, hr_297_2, hr_297_3, hr_297_4, hr_297_5, hr_297_6, hr_297_7, hr_297_8, hr_297_9, hr_297_10, kr_297_E, hP⟩ := hQ
                          exact r_v hx hb hr hlocks dX12_readLine_374 hS ⟨y_298, y_299, y_300, y_301, y_302, y_303, j_304, F_51, F_105, F_147, F_176, F_214, F_255, F_286, F_287, F_106, F_148, F_177, F_178, F_216, F_217, G_107, G_149, G_179, F_218, F_219, F_220, F_221, y_222, y_223, y_224, y_225, by omega, by omega, by omega, by omega, by omega, by omega, bF_51, bF_105, bF_147, bF_176, bF_214, bF_255, bF_286, bF_287, bF_106, bF_148, bF_177, bF_178, bF_216, bF_217, bF_218, bF_219, bF_220, bF_221, by omega, by omega, by omega, by omega, by omega, by omega, by omega, by omega, kr_297_E, (by omega), g_290, (Or.imp_left (fun h9 => by omega) (g_291 : 1 ≤ y_279 ∨ rQ x_rb F_287 F_216 F_217 F_218) : 1 ≤ y_298 ∨ rQ x_rb F_287 F_216 F_217 F_218), g_57, (by omega), hP⟩
                        · skip
                          refine g_v (rDt hD) hS hA (g_V (own := "HideReaderModel") (As := [.int (mI 1)]) (rest := []) hx hb hml hown hts hK hP (rDt hD) (kr_X12_must (l := l) (D := D) (k := k) (by decide) h_x_size (by omega) (by omega) (by omega) (by omega) (by omega) (by omega) b_B_text g_288) ck_X12_must iv_X12_must uw_8_62 (rv_o hK hP) rfl hl.1 rfl (Nat.le_of_ble_eq_true rfl) dX12_readLine_371 ⟨Nat.le_of_ble_eq_true rfl, Nat.le_of_ble_eq_true rfl⟩ ⟨Nat.le_of_ble_eq_true rfl, Nat.le_of_ble_eq_true rfl⟩) (fun H locs hQ hS => ?_)
                          obtain ⟨y_306, y_307, y_308, y_309, y_310, y_311, j_312, hr_305_0, hr_305_1, hr_305_2, hr_305_3, hr_305_4, hr_305_5, hr_305_6, hr_305_7, hr_305_8, hr_305_9, hr_305_10, kr_305_E, hP⟩ := hQ
                          exact r_v hx hb hr hlocks dX12_readLine_374 hS ⟨y_306, y_307, y_308, y_309, y_310, y_311, j_312, F_51, F_105, F_147, F_176, F_214, F_255, F_286, F_287, F_106, F_148, F_177, F_178, F_216, F_217, G_107, G_149, G_179, F_218, F_219, F_220, F_221, y_222, y_223, y_224, y_225, by omega, by omega, by omega, by omega, by omega, by omega, bF_51, bF_105, bF_147, bF_176, bF_214, bF_255, bF_286, bF_287, bF_106, bF_148, bF_177, bF_178, bF_216, bF_217, bF_218, bF_219, bF_220, bF_221, by omega, by omega, by omega, by omega, by omega, by omega, by omega, by omega, kr_305_E, (by omega), g_290, (Or.imp_left (fun h9 => by omega) (g_291 : 1 ≤ y_279 ∨ rQ x_rb F_287 F_216 F_217 F_218) : 1 ≤ y_306 ∨ rQ x_rb F_287 F_216 F_217 F_218), g_57, (by omega), hP⟩
                      · skip
                        intro J_293
                        refine sy_if_ne (tgt := 364) hx hb dX12_readLine_330 (by decide) (by omega) (fun c_313 => ?_) (fun c_313 => ?_)
                        · skip
                          exact J_293 _ _ _ ⟨y_248, y_249, y_250, y_251, y_252, y_253, j_254, B_draw, F_256, _, by omega, by omega, by omega, by omega, by omega, by omega, b_B_draw, bF_256, g_257, g_258, g_259, g_260, g_261, by omega, by omega, by omega, by omega, by omega, hP, hS, lv_sub hl [0, 1] rfl, rfl⟩
                        · skip
                          refine lv_aload_n hx hb dX12_readLine_333 rfl (lv_at hl 1 rfl) ?_
                          refine rg_o_told hx hb hts hown hK hP uw_7_41 dX12_readLine_334 ?_
                          refine lv_aload_n hx hb dX12_readLine_337 rfl (lv_at hl 1 rfl) ?_
                          refine rg_o_rb hx hb hts hown hK hP uw_7_57 dX12_readLine_338 ?_
                          refine lv_dup2_11 hx hb dX12_readLine_341 rfl rfl ?_
                          refine rl_told hx hb hK hP dX12_readLine_342 (by omega) bF_256 (fun z_314 ez_314 hz_314 => ?_)
                          refine lv_bipush (v := mI 16) hx hb dX12_readLine_343 (by decide) ?_
                          refine sy_iorE hx hb dX12_readLine_345 5 (by decide) 32 (by decide) (by omega) (by omega) (fun z_315 ez_315 hz_315 => ?_)
                          refine rs_told hx hb hK hP hD hS dX12_readLine_346 (by omega) bF_256 (by omega) (fun F_316 H locs eF_316 bF_316 hP hS => ?_)
                          have g_317 := rQ_told g_259 eF_316 (by omega)
                          have g_318 := rQ_or g_260 ez_314 eF_316 ez_315 (by decide)
                          refine lv_aload_n hx hb dX12_readLine_347 rfl (lv_at hl 1 rfl) ?_
                          refine rg_o_draw hx hb hts hown hK hP uw_7_40 dX12_readLine_348 ?_
                          refine lv_aload_n hx hb dX12_readLine_351 rfl (lv_at hl 1 rfl) ?_
                          refine rg_o_rb hx hb hts hown hK hP uw_7_57 dX12_readLine_352 ?_
                          refine lv_aload_n hx hb dX12_readLine_355 rfl (lv_at hl 1 rfl) ?_
                          refine lv_iconst (v := mI 0) hx hb dX12_readLine_356 rfl ?_
                          refine lv_sipush (v := mI 999) hx hb dX12_readLine_357 (by decide) ?_
                          refine g_i (rDt hD) hS hA (g_V (own := "HideReaderModel") (As := [.int (mI 0), .int (mI 999)]) (rest := [.int (mI x_rb), .ref (a 9)]) hx hb hml hown hts hK hP (rDt hD) (kr_X12_numeral_v0_999 (l := l) (D := D) (k := k) (by decide) (by decide) h_x_size (by omega) (by omega) (by omega) (by omega) (by omega) (by omega) b_B_text g_257) ck_X12_numeral iv_X12_numeral uw_8_46 (rv_o hK hP) rfl hl.1 rfl (Nat.le_of_ble_eq_true rfl) dX12_readLine_360 ⟨Nat.le_of_ble_eq_true rfl, Nat.le_of_ble_eq_true rfl⟩ ⟨Nat.le_of_ble_eq_true rfl, Nat.le_of_ble_eq_true rfl⟩) (fun r_319 H locs hQ hS => ?_)
                          obtain ⟨y_320, y_321, y_322, y_323, y_324, y_325, j_326, hr_319_0, hr_319_1, hr_319_2, hr_319_3, hr_319_4, hr_319_5, hr_319_6, hr_319_7, hr_319_8, hr_319_9, hr_319_10, kr_319_E, hP⟩ := hQ
                          refine rs_draw hx hb hK hP hD hS dX12_readLine_363 (by omega) b_B_draw (by omega) (fun F_327 H locs _ bF_327 hP hS => ?_)
                          exact J_293 _ _ _ ⟨y_320, y_321, y_322, y_323, y_324, y_325, j_326, F_327, F_316, _, by omega, by omega, by omega, by omega, by omega, by omega, bF_327, bF_316, kr_319_E, (by omega), g_317, (Or.imp_left (fun h9 => by omega) (g_318 : 1 ≤ y_248 ∨ rQ x_rb F_316 F_216 F_217 F_218) : 1 ≤ y_320 ∨ rQ x_rb F_316 F_216 F_217 F_218), (by omega), by omega, by omega, by omega, by omega, by omega, hP, hS, lv_sub hl [0, 1] rfl, rfl⟩
                    · skip
                      intro J_262
                      refine sy_if_ne (tgt := 325) hx hb dX12_readLine_292 (by decide) (by omega) (fun c_328 => ?_) (fun c_328 => ?_)
                      · skip
                        exact J_262 _ _ _ ⟨y_207, y_208, y_209, y_210, y_211, y_212, j_213, B_night, F_215, _, by omega, by omega, by omega, by omega, by omega, by omega, b_B_night, bF_215, g_226, g_227, g_228, g_229, g_230, by omega, by omega, by omega, by omega, by omega, hP, hS, lv_sub hl [0, 1] rfl, rfl⟩
                      · skip
                        refine lv_aload_n hx hb dX12_readLine_295 rfl (lv_at hl 1 rfl) ?_
                        refine rg_o_told hx hb hts hown hK hP uw_7_41 dX12_readLine_296 ?_
                        refine lv_aload_n hx hb dX12_readLine_299 rfl (lv_at hl 1 rfl) ?_
                        refine rg_o_rb hx hb hts hown hK hP uw_7_57 dX12_readLine_300 ?_
                        refine lv_dup2_11 hx hb dX12_readLine_303 rfl rfl ?_
                        refine rl_told hx hb hK hP dX12_readLine_304 (by omega) bF_215 (fun z_329 ez_329 hz_329 => ?_)
                        refine lv_bipush (v := mI 8) hx hb dX12_readLine_305 (by decide) ?_
                        refine sy_iorE hx hb dX12_readLine_307 5 (by decide) 32 (by decide) (by omega) (by omega) (fun z_330 ez_330 hz_330 => ?_)
                        refine rs_told hx hb hK hP hD hS dX12_readLine_308 (by omega) bF_215 (by omega) (fun F_331 H locs eF_331 bF_331 hP hS => ?_)
                        have g_332 := rQ_told g_228 eF_331 (by omega)
                        have g_333 := rQ_or g_229 ez_329 eF_331 ez_330 (by decide)
                        refine lv_aload_n hx hb dX12_readLine_309 rfl (lv_at hl 1 rfl) ?_
                        refine rg_o_night hx hb hts hown hK hP uw_7_39 dX12_readLine_310 ?_
                        refine lv_aload_n hx hb dX12_readLine_313 rfl (lv_at hl 1 rfl) ?_
                        refine rg_o_rb hx hb hts hown hK hP uw_7_57 dX12_readLine_314 ?_
                        refine lv_aload_n hx hb dX12_readLine_317 rfl (lv_at hl 1 rfl) ?_
                        refine lv_iconst (v := mI 0) hx hb dX12_readLine_318 rfl ?_
                        refine lv_bipush (v := mI 100) hx hb dX12_readLine_319 (by decide) ?_
                        refine g_i (rDt hD) hS hA (g_V (own := "HideReaderModel") (As := [.int (mI 0), .int (mI 100)]) (rest := [.int (mI x_rb), .ref (a 8)]) hx hb hml hown hts hK hP (rDt hD) (kr_X12_numeral_v0_100 (l := l) (D := D) (k := k) (by decide) (by decide) h_x_size (by omega) (by omega) (by omega) (by omega) (by omega) (by omega) b_B_text g_226) ck_X12_numeral iv_X12_numeral uw_8_46 (rv_o hK hP) rfl hl.1 rfl (Nat.le_of_ble_eq_true rfl) dX12_readLine_321 ⟨Nat.le_of_ble_eq_true rfl, Nat.le_of_ble_eq_true rfl⟩ ⟨Nat.le_of_ble_eq_true rfl, Nat.le_of_ble_eq_true rfl⟩) (fun r_334 H locs hQ hS => ?_)
                        obtain ⟨y_335, y_336, y_337, y_338, y_339, y_340, j_341, hr_334_0, hr_334_1, hr_334_2, hr_334_3, hr_334_4, hr_334_5, hr_334_6, hr_334_7, hr_334_8, hr_334_9, hr_334_10, kr_334_E, hP⟩ := hQ
                        refine rs_night hx hb hK hP hD hS dX12_readLine_324 (by omega) b_B_night (by omega) (fun F_342 H locs _ bF_342 hP hS => ?_)
                        exact J_262 _ _ _ ⟨y_335, y_336, y_337, y_338, y_339, y_340, j_341, F_342, F_331, _, by omega, by omega, by omega, by omega, by omega, by omega, bF_342, bF_331, kr_334_E, (by omega), g_332, (Or.imp_left (fun h9 => by omega) (g_333 : 1 ≤ y_207 ∨ rQ x_rb F_331 F_216 F_217 F_218) : 1 ≤ y_335 ∨ rQ x_rb F_331 F_216 F_217 F_218), (by omega), by omega, by omega, by omega, by omega, by omega, hP, hS, lv_sub hl [0, 1] rfl, rfl⟩
                  · skip
                    intro J_231
                    refine sy_if_ne (tgt := 287) hx hb dX12_readLine_280 (by decide) (by omega) (fun c_343 => ?_) (fun c_343 => ?_)
                    · skip
                      exact J_231 _ _ _ ⟨y_169, y_170, y_171, y_172, y_173, y_174, j_175, B_units, F_67, B_ruleFrom, B_ruleTo, B_code, B_codeNumber, B_eWhat, B_eSign, x_codes, x_within, x_piled, x_unitsInRule, _, by omega, by omega, by omega, by omega, by omega, by omega, b_B_units, bF_67, b_B_ruleFrom, b_B_ruleTo, b_B_code, b_B_codeNumber, b_B_eWhat, b_B_eSign, by omega, by omega, by omega, by omega, g_180, g_181, g_68, g_182, g_183, by omega, by omega, by omega, by omega, by omega, by omega, hP, hS, lv_sub hl [0, 1] rfl, rfl⟩
                    · skip
                      refine lv_aload_n hx hb dX12_readLine_283 rfl (lv_at hl 1 rfl) ?_
                      refine g_v (rDt hD) hS hA (g_V (own := "HideReaderModel") (As := []) (rest := []) hx hb hml hown hts hK hP (rDt hD) (kr_X12_readRule (l := l) (D := D) (k := k) h_x_size (by omega) (by omega) (by omega) (by omega) (by omega) (by omega) h_x_bank h_x_rb h_x_codes b_B_text b_B_units bF_67 b_B_ruleFrom b_B_ruleTo b_B_code b_B_codeNumber b_B_eWhat b_B_eSign g_180 g_181 g_L g_68 g_183) ck_X12_readRule iv_X12_readRule uw_8_74 (rv_o hK hP) rfl hl.1 rfl (Nat.le_of_ble_eq_true rfl) dX12_readLine_284 ⟨Nat.le_of_ble_eq_true rfl, Nat.le_of_ble_eq_true rfl⟩ ⟨Nat.le_of_ble_eq_true rfl, Nat.le_of_ble_eq_true rfl⟩) (fun H locs hQ hS => ?_)
                      obtain ⟨y_345, y_346, y_347, y_348, y_349, y_350, j_351, F_352, F_353, F_354, F_355, F_356, F_357, F_358, F_359, y_360, y_361, y_362, y_363, hr_344_0, hr_344_1, hr_344_2, hr_344_3, hr_344_4, hr_344_5, bF_352, bF_353, bF_354, bF_355, bF_356, bF_357, bF_358, bF_359, hr_344_14, hr_344_15, hr_344_16, hr_344_17, hr_344_18, hr_344_19, hr_344_20, hr_344_21, hr_344_22, kr_344_E, kr_344_Z, kr_344_Q, kr_344_VV, hP⟩ := hQ
                      exact J_231 _ _ _ ⟨y_345, y_346, y_347, y_348, y_349, y_350, j_351, F_352, F_353, F_354, F_355, F_356, F_357, F_358, F_359, y_360, y_361, y_362, y_363, _, by omega, by omega, by omega, by omega, by omega, by omega, bF_352, bF_353, bF_354, bF_355, bF_356, bF_357, bF_358, bF_359, by omega, by omega, by omega, by omega, kr_344_E, kr_344_Z, kr_344_Q, kr_344_VV, (by omega), by omega, by omega, by omega, by omega, by omega, by omega, hP, hS, lv_sub hl [0, 1] rfl, rfl⟩
                · skip
                  intro J_184
                  refine sy_if_ne (tgt := 275) hx hb dX12_readLine_268 (by decide) (by omega) (fun c_364 => ?_) (fun c_364 => ?_)
                  · skip
                    exact J_184 _ _ _ ⟨y_140, y_141, y_142, y_143, y_144, y_145, j_146, B_beasts, B_herdTold, B_born, G_bName, _, by omega, by omega, by omega, by omega, by omega, by omega, b_B_beasts, b_B_herdTold, b_B_born, g_150, g_151, g_152, g_153, by omega, by omega, by omega, by omega, by omega, hP, hS, lv_sub hl [0, 1] rfl, rfl⟩
                  · skip
                    refine lv_aload_n hx hb dX12_readLine_271 rfl (lv_at hl 1 rfl) ?_
                    refine g_v (rDt hD) hS hA (g_V (own := "HideReaderModel") (As := []) (rest := []) hx hb hml hown hts hK hP (rDt hD) (kr_X12_readBeast (l := l) (D := D) (k := k) h_x_size (by omega) (by omega) (by omega) (by omega) (by omega) (by omega) h_x_rb b_B_text bF_105 b_B_beasts b_B_herdTold b_B_born g_150 (c_11_2 (ez_155.mp (by omega)))) ck_X12_readBeast iv_X12_readBeast uw_8_66 (rv_o hK hP) rfl hl.1 rfl (Nat.le_of_ble_eq_true rfl) dX12_readLine_272 ⟨Nat.le_of_ble_eq_true rfl, Nat.le_of_ble_eq_true rfl⟩ ⟨Nat.le_of_ble_eq_true rfl, Nat.le_of_ble_eq_true rfl⟩) (fun H locs hQ hS => ?_)
                    obtain ⟨y_366, y_367, y_368, y_369, y_370, y_371, j_372, F_373, F_374, F_375, G_376, hr_365_0, hr_365_1, hr_365_2, hr_365_3, hr_365_4, hr_365_5, bF_373, bF_374, bF_375, hr_365_9, hr_365_10, hr_365_11, hr_365_12, kr_365_E, hP⟩ := hQ
                    exact J_184 _ _ _ ⟨y_366, y_367, y_368, y_369, y_370, y_371, j_372, F_373, F_374, F_375, G_376, _, by omega, by omega, by omega, by omega, by omega, by omega, bF_373, bF_374, bF_375, kr_365_E, (by omega), (Or.imp_left (fun h9 => by omega) (g_152 : 1 ≤ y_140 ∨ rQ x_rb F_67 B_ruleFrom B_ruleTo B_code) : 1 ≤ y_366 ∨ rQ x_rb F_67 B_ruleFrom B_ruleTo B_code), (by omega), by omega, by omega, by omega, by omega, by omega, hP, hS, lv_sub hl [0, 1] rfl, rfl⟩
              · skip
                intro J_154
                refine sy_if_ne (tgt := 263) hx hb dX12_readLine_171 (by decide) (by omega) (fun c_377 => ?_) (fun c_377 => ?_)
                · skip
                  exact J_154 _ _ _ ⟨y_98, y_99, y_100, y_101, y_102, y_103, j_104, B_irons, B_ironMarks, G_iName, _, by omega, by omega, by omega, by omega, by omega, by omega, b_B_irons, b_B_ironMarks, g_108, g_109, g_110, g_111, by omega, by omega, by omega, by omega, by omega, hP, hS, lv_sub hl [0, 1] rfl, rfl⟩
                · skip
                  have h_378 : B_irons x_rb.toNat ≤ 5 := c_11_1 (ez_113.mp (by omega))
                  refine lv_aload_n hx hb dX12_readLine_174 rfl (lv_at hl 1 rfl) ?_
                  refine rg_o_iName hx hb hts hown hK hP uw_7_49 dX12_readLine_175 ?_
                  refine lv_bipush (v := mI 6) hx hb dX12_readLine_178 (by decide) ?_
                  refine lv_aload_n hx hb dX12_readLine_180 rfl (lv_at hl 1 rfl) ?_
                  refine rg_o_rb hx hb hts hown hK hP uw_7_57 dX12_readLine_181 ?_
                  refine sy_imul hx hb dX12_readLine_184 (6 * x_rb) rfl ?_
                  refine lv_aload_n hx hb dX12_readLine_185 rfl (lv_at hl 1 rfl) ?_
                  refine rg_o_irons hx hb hts hown hK hP uw_7_36 dX12_readLine_186 ?_
                  refine lv_aload_n hx hb dX12_readLine_189 rfl (lv_at hl 1 rfl) ?_
                  refine rg_o_rb hx hb hts hown hK hP uw_7_57 dX12_readLine_190 ?_
                  refine rl_irons hx hb hK hP dX12_readLine_193 (by omega) b_B_irons (fun z_379 ez_379 hz_379 => ?_)
                  refine sy_iadd hx hb dX12_readLine_194 (6 * x_rb + z_379) rfl ?_
                  refine lv_aload_n hx hb dX12_readLine_195 rfl (lv_at hl 1 rfl) ?_
                  refine lv_aload_n hx hb dX12_readLine_196 rfl (lv_at hl 1 rfl) ?_
                  refine lv_aload_n hx hb dX12_readLine_197 rfl (lv_at hl 1 rfl) ?_
                  refine rg_o_iName hx hb hts hown hK hP uw_7_49 dX12_readLine_198 ?_
                  refine lv_bipush (v := mI 6) hx hb dX12_readLine_201 (by decide) ?_
                  refine lv_aload_n hx hb dX12_readLine_203 rfl (lv_at hl 1 rfl) ?_
                  refine rg_o_rb hx hb hts hown hK hP uw_7_57 dX12_readLine_204 ?_
                  refine sy_imul hx hb dX12_readLine_207 (6 * x_rb) rfl ?_
                  refine lv_aload_n hx hb dX12_readLine_208 rfl (lv_at hl 1 rfl) ?_
                  refine rg_o_irons hx hb hts hown hK hP uw_7_36 dX12_readLine_209 ?_
                  refine lv_aload_n hx hb dX12_readLine_212 rfl (lv_at hl 1 rfl) ?_
                  refine rg_o_rb hx hb hts hown hK hP uw_7_57 dX12_readLine_213 ?_
                  refine rl_irons hx hb hK hP dX12_readLine_216 (by omega) b_B_irons (fun z_380 ez_380 hz_380 => ?_)
                  refine g_i (rDt hD) hS hA (g_V (own := "HideReaderModel") (As := [.ref (a 18), .int (mI (6 * x_rb)), .int (mI z_380)]) (rest := [.ref (a 0), .int (mI (6 * x_rb + z_379)), .ref (a 18)]) hx hb hml hown hts hK hP (rDt hD) (kr_X12_here_o_iName (l := l) (D := D) (k := k) (by omega) (by omega) (by omega)) ck_X12_here iv_X12_here uw_8_50 (rv_o hK hP) rfl hl.1 rfl (Nat.le_of_ble_eq_true rfl) dX12_readLine_217 ⟨Nat.le_of_ble_eq_true rfl, Nat.le_of_ble_eq_true rfl⟩ ⟨Nat.le_of_ble_eq_true rfl, Nat.le_of_ble_eq_true rfl⟩) (fun r_381 H locs hQ hS => ?_)
                  obtain ⟨hr_381_0, hP⟩ := hQ
                  refine g_l (rDt hD) hS hA (g_V (own := "HideReaderModel") (As := [.int (mI r_381)]) (rest := [.int (mI (6 * x_rb + z_379)), .ref (a 18)]) hx hb hml hown hts hK hP (rDt hD) (kr_X12_newName (l := l) (D := D) (k := k) (by omega) h_x_size (by omega) (by omega) (by omega) (by omega) (by omega) (by omega) b_B_text g_108) ck_X12_newName iv_X12_newName uw_8_54 (rv_o hK hP) rfl hl.1 rfl (Nat.le_of_ble_eq_true rfl) dX12_readLine_220 ⟨Nat.le_of_ble_eq_true rfl, Nat.le_of_ble_eq_true rfl⟩ ⟨Nat.le_of_ble_eq_true rfl, Nat.le_of_ble_eq_true rfl⟩) (fun r_382 H locs hQ hS => ?_)
                  obtain ⟨y_383, y_384, y_385, y_386, y_387, y_388, j_389, hr_382_0, hr_382_1, hr_382_2, hr_382_3, hr_382_4, hr_382_5, hr_382_6, hr_382_7, hr_382_8, hr_382_9, kr_382_E, hP⟩ := hQ
                  refine rs_iName hx hb hK hP hD hS dX12_readLine_223 (by omega) (fun F_390 H locs hP hS => ?_)
                  refine lv_aload_n hx hb dX12_readLine_224 rfl (lv_at hl 1 rfl) ?_
                  refine rg_o_ironMarks hx hb hts hown hK hP uw_7_43 dX12_readLine_225 ?_
                  refine lv_bipush (v := mI 6) hx hb dX12_readLine_228 (by decide) ?_
                  refine lv_aload_n hx hb dX12_readLine_230 rfl (lv_at hl 1 rfl) ?_
                  refine rg_o_rb hx hb hts hown hK hP uw_7_57 dX12_readLine_231 ?_
                  refine sy_imul hx hb dX12_readLine_234 (6 * x_rb) rfl ?_
                  refine lv_aload_n hx hb dX12_readLine_235 rfl (lv_at hl 1 rfl) ?_
                  refine rg_o_irons hx hb hts hown hK hP uw_7_36 dX12_readLine_236 ?_
                  refine lv_aload_n hx hb dX12_readLine_239 rfl (lv_at hl 1 rfl) ?_
                  refine rg_o_rb hx hb hts hown hK hP uw_7_57 dX12_readLine_240 ?_
                  refine rl_irons hx hb hK hP dX12_readLine_243 (by omega) b_B_irons (fun z_391 ez_391 hz_391 => ?_)
                  refine sy_iadd hx hb dX12_readLine_244 (6 * x_rb + z_391) rfl ?_
                  refine lv_aload_n hx hb dX12_readLine_245 rfl (lv_at hl 1 rfl) ?_
                  refine g_i (rDt hD) hS hA (g_V (own := "HideReaderModel") (As := []) (rest := [.int (mI (6 * x_rb + z_391)), .ref (a 12)]) hx hb hml hown hts hK hP (rDt hD) (kr_X12_readMark (l := l) (D := D) (k := k) h_x_size (by omega) (by omega) (by omega) (by omega) (by omega) (by omega) b_B_text kr_382_E (by omega) (Or.imp_left (fun h9 => by omega) (g_110 : 1 ≤ y_98 ∨ rQ x_rb F_67 B_ruleFrom B_ruleTo B_code) : 1 ≤ y_383 ∨ rQ x_rb F_67 B_ruleFrom B_ruleTo B_code) (by omega)) ck_X12_readMark iv_X12_readMark uw_8_58 (rv_o hK hP) rfl hl.1 rfl (Nat.le_of_ble_eq_true rfl) dX12_readLine_246 ⟨Nat.le_of_ble_eq_true rfl, Nat.le_of_ble_eq_true rfl⟩ ⟨Nat.le_of_ble_eq_true rfl, Nat.le_of_ble_eq_true rfl⟩) (fun r_392 H locs hQ hS => ?_)
                  obtain ⟨y_393, y_394, y_395, y_396, y_397, y_398, j_399, hr_392_0, hr_392_1, hr_392_2, hr_392_3, hr_392_4, hr_392_5, hr_392_6, hr_392_7, hr_392_8, hr_392_9, hr_392_10, kr_392_E, hP⟩ := hQ
                  refine rs_ironMarks hx hb hK hP hD hS dX12_readLine_249 (by omega) b_B_ironMarks (by omega) (fun F_400 H locs _ bF_400 hP hS => ?_)
                  refine lv_aload_n hx hb dX12_readLine_250 rfl (lv_at hl 1 rfl) ?_
                  refine rg_o_irons hx hb hts hown hK hP uw_7_36 dX12_readLine_251 ?_
                  refine lv_aload_n hx hb dX12_readLine_254 rfl (lv_at hl 1 rfl) ?_
                  refine rg_o_rb hx hb hts hown hK hP uw_7_57 dX12_readLine_255 ?_
                  refine lv_dup2_11 hx hb dX12_readLine_258 rfl rfl ?_
                  refine rl_irons hx hb hK hP dX12_readLine_259 (by omega) b_B_irons (fun z_401 ez_401 hz_401 => ?_)
                  refine lv_iconst (v := mI 1) hx hb dX12_readLine_260 rfl ?_
                  refine sy_iadd hx hb dX12_readLine_261 (z_401 + 1) rfl ?_
                  refine rs_irons hx hb hK hP hD hS dX12_readLine_262 (by omega) b_B_irons (by omega) (fun F_402 H locs _ bF_402 hP hS => ?_)
                  exact J_154 _ _ _ ⟨y_393, y_394, y_395, y_396, y_397, y_398, j_399, F_402, F_400, F_390, _, by omega, by omega, by omega, by omega, by omega, by omega, bF_402, bF_400, kr_392_E, (by omega), (Or.imp_left (fun h9 => by omega) ((Or.imp_left (fun h9 => by omega) (g_110 : 1 ≤ y_98 ∨ rQ x_rb F_67 B_ruleFrom B_ruleTo B_code) : 1 ≤ y_383 ∨ rQ x_rb F_67 B_ruleFrom B_ruleTo B_code) : 1 ≤ y_383 ∨ rQ x_rb F_67 B_ruleFrom B_ruleTo B_code) : 1 ≤ y_393 ∨ rQ x_rb F_67 B_ruleFrom B_ruleTo B_code), (by omega), by omega, by omega, by omega, by omega, by omega, hP, hS, lv_sub hl [0, 1] rfl, rfl⟩
            · skip
              intro J_112
              refine sy_if_ne (tgt := 166) hx hb dX12_readLine_74 (by decide) (by omega) (fun c_403 => ?_) (fun c_403 => ?_)
              · skip
                exact J_112 _ _ _ ⟨y_44, y_45, y_46, y_47, y_48, y_49, j_50, B_herds, B_brands, G_hName, _, by omega, by omega, by omega, by omega, by omega, by omega, b_B_herds, b_B_brands, g_53, g_54, g_69, g_58, by omega, by omega, by omega, by omega, by omega, hP, hS, lv_sub hl [0, 1] rfl, rfl⟩
              · skip
                have h_404 : B_herds x_rb.toNat ≤ 7 := c_11_0 (ez_71.mp (by omega))
                refine lv_aload_n hx hb dX12_readLine_77 rfl (lv_at hl 1 rfl) ?_
                refine rg_o_hName hx hb hts hown hK hP uw_7_48 dX12_readLine_78 ?_
                refine lv_bipush (v := mI 8) hx hb dX12_readLine_81 (by decide) ?_
                refine lv_aload_n hx hb dX12_readLine_83 rfl (lv_at hl 1 rfl) ?_
                refine rg_o_rb hx hb hts hown hK hP uw_7_57 dX12_readLine_84 ?_
                refine sy_imul hx hb dX12_readLine_87 (8 * x_rb) rfl ?_
                refine lv_aload_n hx hb dX12_readLine_88 rfl (lv_at hl 1 rfl) ?_
                refine rg_o_herds hx hb hts hown hK hP uw_7_35 dX12_readLine_89 ?_
                refine lv_aload_n hx hb dX12_readLine_92 rfl (lv_at hl 1 rfl) ?_
                refine rg_o_rb hx hb hts hown hK hP uw_7_57 dX12_readLine_93 ?_
                refine rl_herds hx hb hK hP dX12_readLine_96 (by omega) b_B_herds (fun z_405 ez_405 hz_405 => ?_)
                refine sy_iadd hx hb dX12_readLine_97 (8 * x_rb + z_405) rfl ?_
                refine lv_aload_n hx hb dX12_readLine_98 rfl (lv_at hl 1 rfl) ?_
                refine lv_aload_n hx hb dX12_readLine_99 rfl (lv_at hl 1 rfl) ?_
                refine lv_aload_n hx hb dX12_readLine_100 rfl (lv_at hl 1 rfl) ?_
                refine rg_o_hName hx hb hts hown hK hP uw_7_48 dX12_readLine_101 ?_
                refine lv_bipush (v := mI 8) hx hb dX12_readLine_104 (by decide) ?_
                refine lv_aload_n hx hb dX12_readLine_106 rfl (lv_at hl 1 rfl) ?_
                refine rg_o_rb hx hb hts hown hK hP uw_7_57 dX12_readLine_107 ?_
                refine sy_imul hx hb dX12_readLine_110 (8 * x_rb) rfl ?_
                refine lv_aload_n hx hb dX12_readLine_111 rfl (lv_at hl 1 rfl) ?_
                refine rg_o_herds hx hb hts hown hK hP uw_7_35 dX12_readLine_112 ?_
                refine lv_aload_n hx hb dX12_readLine_115 rfl (lv_at hl 1 rfl) ?_
                refine rg_o_rb hx hb hts hown hK hP uw_7_57 dX12_readLine_116 ?_
                refine rl_herds hx hb hK hP dX12_readLine_119 (by omega) b_B_herds (fun z_406 ez_406 hz_406 => ?_)
                refine g_i (rDt hD) hS hA (g_V (own := "HideReaderModel") (As := [.ref (a 17), .int (mI (8 * x_rb)), .int (mI z_406)]) (rest := [.ref (a 0), .int (mI (8 * x_rb + z_405)), .ref (a 17)]) hx hb hml hown hts hK hP (rDt hD) (kr_X12_here_o_hName (l := l) (D := D) (k := k) (by omega) (by omega) (by omega)) ck_X12_here iv_X12_here uw_8_50 (rv_o hK hP) rfl hl.1 rfl (Nat.le_of_ble_eq_true rfl) dX12_readLine_120 ⟨Nat.le_of_ble_eq_true rfl, Nat.le_of_ble_eq_true rfl⟩ ⟨Nat.le_of_ble_eq_true rfl, Nat.le_of_ble_eq_true rfl⟩) (fun r_407 H locs hQ hS => ?_)
                obtain ⟨hr_407_0, hP⟩ := hQ
                refine g_l (rDt hD) hS hA (g_V (own := "HideReaderModel") (As := [.int (mI r_407)]) (rest := [.int (mI (8 * x_rb + z_405)), .ref (a 17)]) hx hb hml hown hts hK hP (rDt hD) (kr_X12_newName (l := l) (D := D) (k := k) (by omega) h_x_size (by omega) (by omega) (by omega) (by omega) (by omega) (by omega) b_B_text g_53) ck_X12_newName iv_X12_newName uw_8_54 (rv_o hK hP) rfl hl.1 rfl (Nat.le_of_ble_eq_true rfl) dX12_readLine_123 ⟨Nat.le_of_ble_eq_true rfl, Nat.le_of_ble_eq_true rfl⟩ ⟨Nat.le_of_ble_eq_true rfl, Nat.le_of_ble_eq_true rfl⟩) (fun r_408 H locs hQ hS => ?_)
                obtain ⟨y_409, y_410, y_411, y_412, y_413, y_414, j_415, hr_408_0, hr_408_1, hr_408_2, hr_408_3, hr_408_4, hr_408_5, hr_408_6, hr_408_7, hr_408_8, hr_408_9, kr_408_E, hP⟩ := hQ
                refine rs_hName hx hb hK hP hD hS dX12_readLine_126 (by omega) (fun F_416 H locs hP hS => ?_)
                refine lv_aload_n hx hb dX12_readLine_127 rfl (lv_at hl 1 rfl) ?_
                refine rg_o_brands hx hb hts hown hK hP uw_7_42 dX12_readLine_128 ?_
                refine lv_bipush (v := mI 8) hx hb dX12_readLine_131 (by decide) ?_
                refine lv_aload_n hx hb dX12_readLine_133 rfl (lv_at hl 1 rfl) ?_
                refine rg_o_rb hx hb hts hown hK hP uw_7_57 dX12_readLine_134 ?_
                refine sy_imul hx hb dX12_readLine_137 (8 * x_rb) rfl ?_
                refine lv_aload_n hx hb dX12_readLine_138 rfl (lv_at hl 1 rfl) ?_
                refine rg_o_herds hx hb hts hown hK hP uw_7_35 dX12_readLine_139 ?_
                refine lv_aload_n hx hb dX12_readLine_142 rfl (lv_at hl 1 rfl) ?_
                refine rg_o_rb hx hb hts hown hK hP uw_7_57 dX12_readLine_143 ?_
                refine rl_herds hx hb hK hP dX12_readLine_146 (by omega) b_B_herds (fun z_417 ez_417 hz_417 => ?_)
                refine sy_iadd hx hb dX12_readLine_147 (8 * x_rb + z_417) rfl ?_
                refine lv_aload_n hx hb dX12_readLine_148 rfl (lv_at hl 1 rfl) ?_
                refine g_i (rDt hD) hS hA (g_V (own := "HideReaderModel") (As := []) (rest := [.int (mI (8 * x_rb + z_417)), .ref (a 11)]) hx hb hml hown hts hK hP (rDt hD) (kr_X12_readMark (l := l) (D := D) (k := k) h_x_size (by omega) (by omega) (by omega) (by omega) (by omega) (by omega) b_B_text kr_408_E (by omega) (Or.imp_left (fun h9 => by omega) (g_69 : 1 ≤ y_44 ∨ rQ x_rb F_67 B_ruleFrom B_ruleTo B_code) : 1 ≤ y_409 ∨ rQ x_rb F_67 B_ruleFrom B_ruleTo B_code) (by omega)) ck_X12_readMark iv_X12_readMark uw_8_58 (rv_o hK hP) rfl hl.1 rfl (Nat.le_of_ble_eq_true rfl) dX12_readLine_149 ⟨Nat.le_of_ble_eq_true rfl, Nat.le_of_ble_eq_true rfl⟩ ⟨Nat.le_of_ble_eq_true rfl, Nat.le_of_ble_eq_true rfl⟩) (fun r_418 H locs hQ hS => ?_)
                obtain ⟨y_419, y_420, y_421, y_422, y_423, y_424, j_425, hr_418_0, hr_418_1, hr_418_2, hr_418_3, hr_418_4, hr_418_5, hr_418_6, hr_418_7, hr_418_8, hr_418_9, hr_418_10, kr_418_E, hP⟩ := hQ
                refine rs_brands hx hb hK hP hD hS dX12_readLine_152 (by omega) b_B_brands (by omega) (fun F_426 H locs _ bF_426 hP hS => ?_)
                refine lv_aload_n hx hb dX12_readLine_153 rfl (lv_at hl 1 rfl) ?_
                refine rg_o_herds hx hb hts hown hK hP uw_7_35 dX12_readLine_154 ?_
                refine lv_aload_n hx hb dX12_readLine_157 rfl (lv_at hl 1 rfl) ?_
                refine rg_o_rb hx hb hts hown hK hP uw_7_57 dX12_readLine_158 ?_
                refine lv_dup2_11 hx hb dX12_readLine_161 rfl rfl ?_
                refine rl_herds hx hb hK hP dX12_readLine_162 (by omega) b_B_herds (fun z_427 ez_427 hz_427 => ?_)
                refine lv_iconst (v := mI 1) hx hb dX12_readLine_163 rfl ?_
                refine sy_iadd hx hb dX12_readLine_164 (z_427 + 1) rfl ?_
                refine rs_herds hx hb hK hP hD hS dX12_readLine_165 (by omega) b_B_herds (by omega) (fun F_428 H locs _ bF_428 hP hS => ?_)
                exact J_112 _ _ _ ⟨y_419, y_420, y_421, y_422, y_423, y_424, j_425, F_428, F_426, F_416, _, by omega, by omega, by omega, by omega, by omega, by omega, bF_428, bF_426, kr_418_E, (by omega), (Or.imp_left (fun h9 => by omega) ((Or.imp_left (fun h9 => by omega) (g_69 : 1 ≤ y_44 ∨ rQ x_rb F_67 B_ruleFrom B_ruleTo B_code) : 1 ≤ y_409 ∨ rQ x_rb F_67 B_ruleFrom B_ruleTo B_code) : 1 ≤ y_409 ∨ rQ x_rb F_67 B_ruleFrom B_ruleTo B_code) : 1 ≤ y_419 ∨ rQ x_rb F_67 B_ruleFrom B_ruleTo B_code), (by omega), by omega, by omega, by omega, by omega, by omega, hP, hS, lv_sub hl [0, 1] rfl, rfl⟩
          · skip
            intro J_70
            refine sy_if_ne (tgt := 69) hx hb dX12_readLine_53 (by decide) (by omega) (fun c_429 => ?_) (fun c_429 => ?_)
            · skip
              exact J_70 _ _ _ ⟨F_52, _, bF_52, g_55, g_56, by omega, hP, hS, lv_sub hl [0, 1] rfl, rfl⟩
            · skip
              refine lv_aload_n hx hb dX12_readLine_56 rfl (lv_at hl 1 rfl) ?_
              refine rg_o_told hx hb hts hown hK hP uw_7_41 dX12_readLine_57 ?_
              refine lv_aload_n hx hb dX12_readLine_60 rfl (lv_at hl 1 rfl) ?_
              refine rg_o_rb hx hb hts hown hK hP uw_7_57 dX12_readLine_61 ?_
              refine lv_dup2_11 hx hb dX12_readLine_64 rfl rfl ?_
              refine rl_told hx hb hK hP dX12_readLine_65 (by omega) bF_52 (fun z_430 ez_430 hz_430 => ?_)
              refine lv_iconst (v := mI 4) hx hb dX12_readLine_66 rfl ?_
              refine sy_iorE hx hb dX12_readLine_67 5 (by decide) 32 (by decide) (by omega) (by omega) (fun z_431 ez_431 hz_431 => ?_)
              refine rs_told hx hb hK hP hD hS dX12_readLine_68 (by omega) bF_52 (by omega) (fun F_432 H locs eF_432 bF_432 hP hS => ?_)
              have g_433 := rQ_told g_55 eF_432 (by omega)
              have g_434 := rQ_or g_56 ez_430 eF_432 ez_431 (by decide)
              exact J_70 _ _ _ ⟨F_432, _, bF_432, g_433, g_434, by omega, hP, hS, lv_sub hl [0, 1] rfl, rfl⟩
        · skip
          intro J_59
          refine sy_if_ne (tgt := 48) hx hb dX12_readLine_41 (by decide) (by omega) (fun c_435 => ?_) (fun c_435 => ?_)
          · skip
            exact J_59 _ _ _ ⟨x_faultKind, x_faultPlace, y_27, y_28, y_29, y_30, j_31, B_turns, B_told, _, by omega, by omega, by omega, by omega, by omega, by omega, b_B_turns, b_B_told, kr_26_E, g_Z, g_Q, g_VV, g_R, g_SS, by omega, by omega, by omega, by omega, hP, hS, lv_sub hl [0, 1] rfl, rfl⟩
          · skip
            refine lv_aload_n hx hb dX12_readLine_44 rfl (lv_at hl 1 rfl) ?_
            refine g_v (rDt hD) hS hA (g_V (own := "HideReaderModel") (As := []) (rest := []) hx hb hml hown hts hK hP (rDt hD) (kr_X12_readTurns (l := l) (D := D) (k := k) h_x_size h_x_faultKind h_x_faultPlace (by omega) (by omega) (by omega) (by omega) h_x_bank h_x_rb b_B_text b_B_turns b_B_told kr_26_E g_L g_Q g_VV g_R g_SS) ck_X12_readTurns iv_X12_readTurns uw_8_42 (rv_o hK hP) rfl hl.1 rfl (Nat.le_of_ble_eq_true rfl) dX12_readLine_45 ⟨Nat.le_of_ble_eq_true rfl, Nat.le_of_ble_eq_true rfl⟩ ⟨Nat.le_of_ble_eq_true rfl, Nat.le_of_ble_eq_true rfl⟩) (fun H locs hQ hS => ?_)
            obtain ⟨y_437, y_438, y_439, y_440, y_441, y_442, j_443, F_444, F_445, hr_436_0, hr_436_1, hr_436_2, hr_436_3, hr_436_4, hr_436_5, bF_444, bF_445, hr_436_8, hr_436_9, hr_436_10, hr_436_11, kr_436_E, kr_436_Q, kr_436_VV, kr_436_R, kr_436_SS, hP⟩ := hQ
            exact J_59 _ _ _ ⟨y_437, y_438, y_439, y_440, y_441, y_442, j_443, F_444, F_445, _, by omega, by omega, by omega, by omega, by omega, by omega, bF_444, bF_445, kr_436_E, (by omega), kr_436_Q, kr_436_VV, kr_436_R, kr_436_SS, by omega, by omega, by omega, by omega, hP, hS, lv_sub hl [0, 1] rfl, rfl⟩
set_option maxHeartbeats 4000000 in
set_option maxRecDepth 100000 in
theorem kr_X12_layPlaced (h_x_bank : 0 ≤ x_bank ∧ x_bank ≤ 1) (b_B_turns : bd (0) 4 B_turns) (b_B_irons : bd (0) 6 B_irons) (b_B_told : bd (0) 31 B_told) (b_B_ironMarks : bd (0) 4095 B_ironMarks) (b_B_burned : bd (0) 4095 B_burned) (g_R : 1 ≤ B_turns x_bank.toNat ∧ ¬ B_turns x_bank.toNat = 3) : MetG l D k yX12_layPlaced cX12_layPlaced 2 none 3 [.ref (a 0)] (rW k a x_taped x_size x_faultKind x_faultPlace x_at x_end x_token x_number x_bank x_rb x_codes x_within x_piled x_unitsInRule x_askBeast x_askStroke x_askAge x_askSeason x_acts x_undone x_laid x_seens x_time x_fitting n_name B_tape B_text B_turns B_herds B_irons B_beasts B_units B_night B_draw B_told B_brands B_ironMarks B_herdTold B_born B_ruleFrom B_ruleTo B_code B_codeNumber B_eWhat B_eSign B_pile B_all B_burned B_was B_need B_laidRow B_long8 B_brings B_sBurning B_sStroke B_sIs B_sTold B_sUntold B_parts B_boxAll B_isBoxed G_hName G_iName G_bName ex) (qGv (fun H => ∃ (F_burned : Nat → Int), (bd (0) 4095 F_burned) ∧ va_P D vwCl (rW k a x_taped x_size x_faultKind x_faultPlace x_at x_end x_token x_number x_bank x_rb x_codes x_within x_piled x_unitsInRule x_askBeast x_askStroke x_askAge x_askSeason x_acts x_undone x_laid x_seens x_time x_fitting n_name B_tape B_text B_turns B_herds B_irons B_beasts B_units B_night B_draw B_told B_brands B_ironMarks B_herdTold B_born B_ruleFrom B_ruleTo B_code B_codeNumber B_eWhat B_eSign B_pile B_all F_burned B_was B_need B_laidRow B_long8 B_brings B_sBurning B_sStroke B_sIs B_sTold B_sUntold B_parts B_boxAll B_isBoxed G_hName G_iName G_bName ex) H)) := by
  refine metG_of 0 ck_X12_layPlaced (Nat.le_of_ble_eq_true rfl) rMap (fun p e s m args below meth c A hx hb hml hr hlocks hown hts hK hD hA hP hS ls hl => ?_)
  have hown : s.vm.findClass "HideReaderModel" = some m.cls := hown
  have hl : lv_has ls 2 [(0, .ref (a 0))] := hl
  refine lv_iconst (v := mI 0) hx hb dX12_layPlaced_0 rfl ?_
  refine lv_istore_n (lv' := [(1, .int (mI 0)), (0, .ref (a 0))]) hx hb dX12_layPlaced_1 rfl hl (by decide) rfl (fun ls hl => ?_)
  refine sy_loop (I := fun n H locs g => ∃ (z_97 : Int) (F_98 : Nat → Int) (ls : Array Slot), (0 ≤ z_97 ∧ z_97 ≤ 48) ∧ (bd (0) 4095 F_98) ∧ (48 - z_97).toNat = n ∧ va_P D vwCl (rW k a x_taped x_size x_faultKind x_faultPlace x_at x_end x_token x_number x_bank x_rb x_codes x_within x_piled x_unitsInRule x_askBeast x_askStroke x_askAge x_askSeason x_acts x_undone x_laid x_seens x_time x_fitting n_name B_tape B_text B_turns B_herds B_irons B_beasts B_units B_night B_draw B_told B_brands B_ironMarks B_herdTold B_born B_ruleFrom B_ruleTo B_code B_codeNumber B_eWhat B_eSign B_pile B_all F_98 B_was B_need B_laidRow B_long8 B_brings B_sBurning B_sStroke B_sIs B_sTold B_sUntold B_parts B_boxAll B_isBoxed G_hName G_iName G_bName ex) H ∧ va_S A s.heap H locs ∧ lv_has ls 2 [(1, .int (mI z_97)), (0, .ref (a 0))] ∧ g = F0 m 2 ls []) ?_ _ ⟨0, B_burned, _, by omega, b_B_burned, rfl, hP, hS, lv_sub hl [0, 1] rfl, rfl⟩
  intro n_111 H locs g hI ih_112
  obtain ⟨z_97, F_98, ls, h2_0, bF_98, mn_111, hP, hS, hl, rfl⟩ := hI
  refine lv_iload_n hx hb dX12_layPlaced_2 rfl (lv_at hl 0 rfl) ?_
  refine lv_aload_n hx hb dX12_layPlaced_3 rfl (lv_at hl 1 rfl) ?_
  refine g_i (rDt hD) hS hA (g_V (own := "HideReaderModel") (As := []) (rest := [.int (mI z_97)]) hx hb hml hown hts hK hP (rDt hD) (kr_X12_tools (l := l) (D := D) (k := k) h_x_bank b_B_irons) ck_X12_tools iv_X12_tools uw_6_235 (rv_o hK hP) rfl hl.1 rfl (Nat.le_of_ble_eq_true rfl) dX12_layPlaced_4 ⟨Nat.le_of_ble_eq_true rfl, Nat.le_of_ble_eq_true rfl⟩ ⟨Nat.le_of_ble_eq_true rfl, Nat.le_of_ble_eq_true rfl⟩) (fun r_113 H locs hQ hS => ?_)
  obtain ⟨hr_113_0, hr_113_1, hP⟩ := hQ
  refine lv_aload_n hx hb dX12_layPlaced_7 rfl (lv_at hl 1 rfl) ?_
  refine g_i (rDt hD) hS hA (g_V (own := "HideReaderModel") (As := []) (rest := [.int (mI r_113), .int (mI z_97)]) hx hb hml hown hts hK hP (rDt hD) (kr_X12_placements (l := l) (D := D) (k := k) h_x_bank b_B_turns b_B_told g_R) ck_X12_placements iv_X12_placements uw_6_239 (rv_o hK hP) rfl hl.1 rfl (Nat.le_of_ble_eq_true rfl) dX12_layPlaced_8 ⟨Nat.le_of_ble_eq_true rfl, Nat.le_of_ble_eq_true rfl⟩ ⟨Nat.le_of_ble_eq_true rfl, Nat.le_of_ble_eq_true rfl⟩) (fun r_114 H locs hQ hS => ?_)
  obtain ⟨hr_114_0, hr_114_1, hP⟩ := hQ
  refine sy_imulB (A := 6) (B := 8) hx hb dX12_layPlaced_11 48 (by decide) (by omega) (by omega) (fun z_115 ez_115 hz_115 => ?_)
  refine sy_icmp_ge (tgt := 47) hx hb dX12_layPlaced_12 (by decide) (by omega) (by omega) (fun c_116 => ?_) (fun c_116 => ?_)
  · skip
    exact r_v hx hb hr hlocks dX12_layPlaced_47 hS ⟨F_98, bF_98, hP⟩
  · skip
    refine lv_aload_n hx hb dX12_layPlaced_15 rfl (lv_at hl 1 rfl) ?_
    refine rg_o_burned hx hb hts hown hK hP uw_7_67 dX12_layPlaced_16 ?_
    refine lv_iload_n hx hb dX12_layPlaced_19 rfl (lv_at hl 0 rfl) ?_
    refine lv_aload_n hx hb dX12_layPlaced_20 rfl (lv_at hl 1 rfl) ?_
    refine lv_aload_n hx hb dX12_layPlaced_21 rfl (lv_at hl 1 rfl) ?_
    refine lv_iload_n hx hb dX12_layPlaced_22 rfl (lv_at hl 0 rfl) ?_
    refine lv_aload_n hx hb dX12_layPlaced_23 rfl (lv_at hl 1 rfl) ?_
    refine g_i (rDt hD) hS hA (g_V (own := "HideReaderModel") (As := []) (rest := [.int (mI z_97), .ref (a 0), .ref (a 0), .int (mI z_97), .ref (a 26)]) hx hb hml hown hts hK hP (rDt hD) (kr_X12_placements (l := l) (D := D) (k := k) h_x_bank b_B_turns b_B_told g_R) ck_X12_placements iv_X12_placements uw_6_239 (rv_o hK hP) rfl hl.1 rfl (Nat.le_of_ble_eq_true rfl) dX12_layPlaced_24 ⟨Nat.le_of_ble_eq_true rfl, Nat.le_of_ble_eq_true rfl⟩ ⟨Nat.le_of_ble_eq_true rfl, Nat.le_of_ble_eq_true rfl⟩) (fun r_117 H locs hQ hS => ?_)
    obtain ⟨hr_117_0, hr_117_1, hP⟩ := hQ
    refine sy_idiv hx hb dX12_layPlaced_27 (by omega) (by omega) (fun z_118 ez_118 hz_118 => ?_)
    have h_119 := dv_lt ez_115 (by omega) (by omega) (by omega) ez_118
    refine g_i (rDt hD) hS hA (g_V (own := "HideReaderModel") (As := [.int (mI z_118)]) (rest := [.ref (a 0), .int (mI z_97), .ref (a 26)]) hx hb hml hown hts hK hP (rDt hD) (kr_X12_ironOf (l := l) (D := D) (k := k) (by omega) h_x_bank b_B_ironMarks) ck_X12_ironOf iv_X12_ironOf uw_7_3 (rv_o hK hP) rfl hl.1 rfl (Nat.le_of_ble_eq_true rfl) dX12_layPlaced_28 ⟨Nat.le_of_ble_eq_true rfl, Nat.le_of_ble_eq_true rfl⟩ ⟨Nat.le_of_ble_eq_true rfl, Nat.le_of_ble_eq_true rfl⟩) (fun r_120 H locs hQ hS => ?_)
    obtain ⟨hr_120_0, hP⟩ := hQ
    refine lv_iload_n hx hb dX12_layPlaced_31 rfl (lv_at hl 0 rfl) ?_
    refine lv_aload_n hx hb dX12_layPlaced_32 rfl (lv_at hl 1 rfl) ?_
    refine g_i (rDt hD) hS hA (g_V (own := "HideReaderModel") (As := []) (rest := [.int (mI z_97), .int (mI r_120), .ref (a 0), .int (mI z_97), .ref (a 26)]) hx hb hml hown hts hK hP (rDt hD) (kr_X12_placements (l := l) (D := D) (k := k) h_x_bank b_B_turns b_B_told g_R) ck_X12_placements iv_X12_placements uw_6_239 (rv_o hK hP) rfl hl.1 rfl (Nat.le_of_ble_eq_true rfl) dX12_layPlaced_33 ⟨Nat.le_of_ble_eq_true rfl, Nat.le_of_ble_eq_true rfl⟩ ⟨Nat.le_of_ble_eq_true rfl, Nat.le_of_ble_eq_true rfl⟩) (fun r_121 H locs hQ hS => ?_)
    obtain ⟨hr_121_0, hr_121_1, hP⟩ := hQ
    refine sy_irem hx hb dX12_layPlaced_36 (by omega) (by omega) (fun z_122 ez_122 hz_122 => ?_)
    refine g_i (rDt hD) hS hA (g_V (own := "HideReaderModel") (As := [.int (mI r_120), .int (mI z_122)]) (rest := [.int (mI z_97), .ref (a 26)]) hx hb hml hown hts hK hP (rDt hD) (kr_X12_placedBy (l := l) (D := D) (k := k) (by omega) (by omega) h_x_bank b_B_turns g_R) ck_X12_placedBy iv_X12_placedBy uw_7_7 (rv_o hK hP) rfl hl.1 rfl (Nat.le_of_ble_eq_true rfl) dX12_layPlaced_37 ⟨Nat.le_of_ble_eq_true rfl, Nat.le_of_ble_eq_true rfl⟩ ⟨Nat.le_of_ble_eq_true rfl, Nat.le_of_ble_eq_true rfl⟩) (fun r_123 H locs hQ hS => ?_)
    obtain ⟨hr_123_0, hr_123_1, hP⟩ := hQ
    refine rs_burned hx hb hK hP hD hS dX12_layPlaced_40 (by omega) bF_98 (by omega) (fun F_124 H locs _ bF_124 hP hS => ?_)
    refine lv_iinc (v := mI (z_97 + 1)) (lv' := [(1, .int (mI (z_97 + 1))), (0, .ref (a 0))]) hx hb dX12_layPlaced_41 hl (k := 0) rfl (mI_ad rfl) (by decide) rfl (fun ls hl => ?_)
    refine lv_goto (tgt := 2) hx hb dX12_layPlaced_44 (by decide) ?_
    exact ih_112 _ _ _ _ (by omega) ⟨(z_97 + 1), F_124, _, by omega, bF_124, rfl, hP, hS, lv_sub hl [0, 1] rfl, rfl⟩
set_option maxHeartbeats 4000000 in
set_option maxRecDepth 100000 in
theorem kr_X12_startAnew (h_x_bank : 0 ≤ x_bank ∧ x_bank ≤ 1) (h_x_acts : 0 ≤ x_acts ∧ x_acts ≤ 40) (h_x_undone : 0 ≤ x_undone ∧ x_undone ≤ 40) (h_x_laid : 0 ≤ x_laid ∧ x_laid ≤ 8) (h_x_seens : 0 ≤ x_seens ∧ x_seens ≤ 30) (b_B_turns : bd (0) 4 B_turns) (b_B_irons : bd (0) 6 B_irons) (b_B_beasts : bd (0) 8 B_beasts) (b_B_draw : bd (0) 999 B_draw) (b_B_told : bd (0) 31 B_told) (b_B_brands : bd (0) 4095 B_brands) (b_B_ironMarks : bd (0) 4095 B_ironMarks) (b_B_herdTold : bd (0) 7 B_herdTold) (b_B_born : bd (0) 99 B_born) (b_B_all : bA B_all) (b_B_burned : bd (0) 4095 B_burned) (b_B_isBoxed : bd (0) 1 B_isBoxed) (g_R : 1 ≤ B_turns x_bank.toNat ∧ ¬ B_turns x_bank.toNat = 3) : MetG l D k yX12_startAnew cX12_startAnew 3 none 4 [.ref (a 0)] (rW k a x_taped x_size x_faultKind x_faultPlace x_at x_end x_token x_number x_bank x_rb x_codes x_within x_piled x_unitsInRule x_askBeast x_askStroke x_askAge x_askSeason x_acts x_undone x_laid x_seens x_time x_fitting n_name B_tape B_text B_turns B_herds B_irons B_beasts B_units B_night B_draw B_told B_brands B_ironMarks B_herdTold B_born B_ruleFrom B_ruleTo B_code B_codeNumber B_eWhat B_eSign B_pile B_all B_burned B_was B_need B_laidRow B_long8 B_brings B_sBurning B_sStroke B_sIs B_sTold B_sUntold B_parts B_boxAll B_isBoxed G_hName G_iName G_bName ex) (qGv (fun H => ∃ (F_all : Nat → Int) (F_burned : Nat → Int) (y_acts : Int) (y_undone : Int) (y_laid : Int) (y_seens : Int) (F_isBoxed : Nat → Int), (bA F_all) ∧ (bd (0) 4095 F_burned) ∧ (0 ≤ y_acts ∧ y_acts ≤ 0) ∧ (0 ≤ y_undone ∧ y_undone ≤ 0) ∧ (0 ≤ y_laid ∧ y_laid ≤ 0) ∧ (0 ≤ y_seens ∧ y_seens ≤ 0) ∧ (bd (0) 1 F_isBoxed) ∧ (0 ≤ -y_acts + x_acts) ∧ (0 ≤ -y_undone + x_undone) ∧ (0 ≤ -y_laid + x_laid) ∧ (0 ≤ -y_seens + x_seens) ∧ (0 ≤ 40 - y_acts - y_undone) ∧ va_P D vwCl (rW k a x_taped x_size x_faultKind x_faultPlace x_at x_end x_token x_number x_bank x_rb x_codes x_within x_piled x_unitsInRule x_askBeast x_askStroke x_askAge x_askSeason y_acts y_undone y_laid y_seens x_time x_fitting n_name B_tape B_text B_turns B_herds B_irons B_beasts B_units B_night B_draw B_told B_brands B_ironMarks B_herdTold B_born B_ruleFrom B_ruleTo B_code B_codeNumber B_eWhat B_eSign B_pile F_all F_burned B_was B_need B_laidRow B_long8 B_brings B_sBurning B_sStroke B_sIs B_sTold B_sUntold B_parts B_boxAll F_isBoxed G_hName G_iName G_bName ex) H)) := by
  refine metG_of 0 ck_X12_startAnew (Nat.le_of_ble_eq_true rfl) rMap (fun p e s m args below meth c A hx hb hml hr hlocks hown hts hK hD hA hP hS ls hl => ?_)
  have hown : s.vm.findClass "HideReaderModel" = some m.cls := hown
  have hl : lv_has ls 3 [(0, .ref (a 0))] := hl
  refine lv_iconst (v := mI 0) hx hb dX12_startAnew_0 rfl ?_
  refine lv_istore_n (lv' := [(1, .int (mI 0)), (0, .ref (a 0))]) hx hb dX12_startAnew_1 rfl hl (by decide) rfl (fun ls hl => ?_)
  refine sy_loop (I := fun n H locs g => ∃ (z_16283 : Int) (F_16284 : Nat → Int) (ls : Array Slot), (0 ≤ z_16283 ∧ z_16283 ≤ 114) ∧ (bA F_16284) ∧ (114 - z_16283).toNat = n ∧ va_P D vwCl (rW k a x_taped x_size x_faultKind x_faultPlace x_at x_end x_token x_number x_bank x_rb x_codes x_within x_piled x_unitsInRule x_askBeast x_askStroke x_askAge x_askSeason x_acts x_undone x_laid x_seens x_time x_fitting n_name B_tape B_text B_turns B_herds B_irons B_beasts B_units B_night B_draw B_told B_brands B_ironMarks B_herdTold B_born B_ruleFrom B_ruleTo B_code B_codeNumber B_eWhat B_eSign B_pile F_16284 B_burned B_was B_need B_laidRow B_long8 B_brings B_sBurning B_sStroke B_sIs B_sTold B_sUntold B_parts B_boxAll B_isBoxed G_hName G_iName G_bName ex) H ∧ va_S A s.heap H locs ∧ lv_has ls 3 [(1, .int (mI z_16283)), (0, .ref (a 0))] ∧ g = F0 m 2 ls []) ?_ _ ⟨0, B_all, _, by omega, b_B_all, rfl, hP, hS, lv_sub hl [0, 1] rfl, rfl⟩
  intro n_18996 H locs g hI ih_18997
  obtain ⟨z_16283, F_16284, ls, h2_0, bF_16284, mn_18996, hP, hS, hl, rfl⟩ := hI
  refine lv_iload_n hx hb dX12_startAnew_2 rfl (lv_at hl 0 rfl) ?_
  refine lv_bipush (v := mI 114) hx hb dX12_startAnew_3 (by decide) ?_
  refine sy_icmp_ge (tgt := 21) hx hb dX12_startAnew_5 (by decide) (by omega) (by decide) (fun c_19000 => ?_) (fun c_19000 => ?_)
  · skip
    refine lv_iconst (v := mI 0) hx hb dX12_startAnew_21 rfl ?_
    refine lv_istore_n (lv' := [(1, .int (mI 0)), (0, .ref (a 0))]) hx hb dX12_startAnew_22 rfl hl (by decide) rfl (fun ls hl => ?_)
    refine sy_loop (I := fun n H locs g => ∃ (z_21106 : Int) (F_21107 : Nat → Int) (ls : Array Slot), (0 ≤ z_21106 ∧ z_21106 ≤ 8) ∧ (bA F_21107) ∧ (8 - z_21106).toNat = n ∧ va_P D vwCl (rW k a x_taped x_size x_faultKind x_faultPlace x_at x_end x_token x_number x_bank x_rb x_codes x_within x_piled x_unitsInRule x_askBeast x_askStroke x_askAge x_askSeason x_acts x_undone x_laid x_seens x_time x_fitting n_name B_tape B_text B_turns B_herds B_irons B_beasts B_units B_night B_draw B_told B_brands B_ironMarks B_herdTold B_born B_ruleFrom B_ruleTo B_code B_codeNumber B_eWhat B_eSign B_pile F_21107 B_burned B_was B_need B_laidRow B_long8 B_brings B_sBurning B_sStroke B_sIs B_sTold B_sUntold B_parts B_boxAll B_isBoxed G_hName G_iName G_bName ex) H ∧ va_S A s.heap H locs ∧ lv_has ls 3 [(1, .int (mI z_21106)), (0, .ref (a 0))] ∧ g = F0 m 23 ls []) ?_ _ ⟨0, F_16284, _, by omega, bF_16284, rfl, hP, hS, lv_sub hl [0, 1] rfl, rfl⟩
    intro n_21407 H locs g hI ih_21408
    obtain ⟨z_21106, F_21107, ls, h23_0, bF_21107, mn_21407, hP, hS, hl, rfl⟩ := hI
    refine lv_iload_n hx hb dX12_startAnew_23 rfl (lv_at hl 0 rfl) ?_
    refine lv_aload_n hx hb dX12_startAnew_24 rfl (lv_at hl 1 rfl) ?_
    refine g_i (rDt hD) hS hA (g_V (own := "HideReaderModel") (As := []) (rest := [.int (mI z_21106)]) hx hb hml hown hts hK hP (rDt hD) (kr_X12_cattle (l := l) (D := D) (k := k) h_x_bank b_B_beasts) ck_X12_cattle iv_X12_cattle uw_6_212 (rv_o hK hP) rfl hl.1 rfl (Nat.le_of_ble_eq_true rfl) dX12_startAnew_25 ⟨Nat.le_of_ble_eq_true rfl, Nat.le_of_ble_eq_true rfl⟩ ⟨Nat.le_of_ble_eq_true rfl, Nat.le_of_ble_eq_true rfl⟩) (fun r_21409 H locs hQ hS => ?_)
    obtain ⟨hr_21409_0, hr_21409_1, hP⟩ := hQ
    refine sy_icmp_ge (tgt := 126) hx hb dX12_startAnew_28 (by decide) (by omega) (by omega) (fun c_21540 => ?_) (fun c_21540 => ?_)
    · skip
      refine lv_aload_n hx hb dX12_startAnew_126 rfl (lv_at hl 1 rfl) ?_
      refine rg_o_all hx hb hts hown hK hP uw_7_66 dX12_startAnew_127 ?_
      refine lv_bipush (v := mI 113) hx hb dX12_startAnew_130 (by decide) ?_
      refine lv_aload_n hx hb dX12_startAnew_132 rfl (lv_at hl 1 rfl) ?_
      refine rg_o_draw hx hb hts hown hK hP uw_7_40 dX12_startAnew_133 ?_
      refine lv_aload_n hx hb dX12_startAnew_136 rfl (lv_at hl 1 rfl) ?_
      refine rg_o_bank hx hb hts hown hK hP uw_7_56 dX12_startAnew_137 ?_
      refine rl_draw hx hb hK hP dX12_startAnew_140 (by omega) b_B_draw (fun z_21541 _ hz_21541 => ?_)
      refine rs_all hx hb hK hP hD hS dX12_startAnew_141 (by omega) (bA_bd bF_21107) (by omega) (fun F_21542 H locs eF_21542 bF_21542 hP hS => ?_)
      have bF_21542 := bA_s999 bF_21107 eF_21542 (by omega) (by omega)
      refine lv_aload_n hx hb dX12_startAnew_142 rfl (lv_at hl 1 rfl) ?_
      refine g_v (rDt hD) hS hA (g_V (own := "HideReaderModel") (As := []) (rest := []) hx hb hml hown hts hK hP (rDt hD) (kr_X12_layPlaced (l := l) (D := D) (k := k) h_x_bank b_B_turns b_B_irons b_B_told b_B_ironMarks b_B_burned g_R) ck_X12_layPlaced iv_X12_layPlaced uw_6_231 (rv_o hK hP) rfl hl.1 rfl (Nat.le_of_ble_eq_true rfl) dX12_startAnew_143 ⟨Nat.le_of_ble_eq_true rfl, Nat.le_of_ble_eq_true rfl⟩ ⟨Nat.le_of_ble_eq_true rfl, Nat.le_of_ble_eq_true rfl⟩) (fun H locs hQ hS => ?_)
      obtain ⟨F_21544, bF_21544, hP⟩ := hQ
      refine lv_aload_n hx hb dX12_startAnew_146 rfl (lv_at hl 1 rfl) ?_
      refine lv_iconst (v := mI 0) hx hb dX12_startAnew_147 rfl ?_
      refine rp_o_acts hx hb hts hown hK hP hD hS uw_7_69 dX12_startAnew_148 (fun H locs hP hS => ?_)
      refine lv_aload_n hx hb dX12_startAnew_151 rfl (lv_at hl 1 rfl) ?_
      refine lv_iconst (v := mI 0) hx hb dX12_startAnew_152 rfl ?_
      refine rp_o_undone hx hb hts hown hK hP hD hS uw_7_70 dX12_startAnew_153 (fun H locs hP hS => ?_)
      refine lv_aload_n hx hb dX12_startAnew_156 rfl (lv_at hl 1 rfl) ?_
      refine lv_iconst (v := mI 0) hx hb dX12_startAnew_157 rfl ?_
      refine rp_o_seens hx hb hts hown hK hP hD hS uw_7_82 dX12_startAnew_158 (fun H locs hP hS => ?_)
      refine lv_aload_n hx hb dX12_startAnew_161 rfl (lv_at hl 1 rfl) ?_
      refine lv_iconst (v := mI 0) hx hb dX12_startAnew_162 rfl ?_
      refine rp_o_laid hx hb hts hown hK hP hD hS uw_7_73 dX12_startAnew_163 (fun H locs hP hS => ?_)
      refine lv_iconst (v := mI 0) hx hb dX12_startAnew_166 rfl ?_
      refine lv_istore_n (lv' := [(1, .int (mI 0)), (0, .ref (a 0))]) hx hb dX12_startAnew_167 rfl hl (by decide) rfl (fun ls hl => ?_)
      refine sy_loop (I := fun n H locs g => ∃ (z_21571 : Int) (F_21572 : Nat → Int) (ls : Array Slot), (0 ≤ z_21571 ∧ z_21571 ≤ 3) ∧ (bd (0) 1 F_21572) ∧ (3 - z_21571).toNat = n ∧ va_P D vwCl (rW k a x_taped x_size x_faultKind x_faultPlace x_at x_end x_token x_number x_bank x_rb x_codes x_within x_piled x_unitsInRule x_askBeast x_askStroke x_askAge x_askSeason 0 0 0 0 x_time x_fitting n_name B_tape B_text B_turns B_herds B_irons B_beasts B_units B_night B_draw B_told B_brands B_ironMarks B_herdTold B_born B_ruleFrom B_ruleTo B_code B_codeNumber B_eWhat B_eSign B_pile F_21542 F_21544 B_was B_need B_laidRow B_long8 B_brings B_sBurning B_sStroke B_sIs B_sTold B_sUntold B_parts B_boxAll F_21572 G_hName G_iName G_bName ex) H ∧ va_S A s.heap H locs ∧ lv_has ls 3 [(1, .int (mI z_21571)), (0, .ref (a 0))] ∧ g = F0 m 168 ls []) ?_ _ ⟨0, B_isBoxed, _, by omega, b_B_isBoxed, rfl, hP, hS, lv_sub hl [0, 1] rfl, rfl⟩
      intro n_21575 H locs g hI ih_21576
      obtain ⟨z_21571, F_21572, ls, h168_0, bF_21572, mn_21575, hP, hS, hl, rfl⟩ := hI
      refine lv_iload_n hx hb dX12_startAnew_168 rfl (lv_at hl 0 rfl) ?_
      refine lv_iconst (v := mI 3) hx hb dX12_startAnew_169 rfl ?_
      refine sy_icmp_ge (tgt := 186) hx hb dX12_startAnew_170 (by decide) (by omega) (by decide) (fun c_21577 => ?_) (fun c_21577 => ?_)
      · skip
        exact r_v hx hb hr hlocks dX12_startAnew_186 hS ⟨F_21542, F_21544, 0, 0, 0, 0, F_21572, bF_21542, bF_21544, by omega, by omega, by omega, by omega, bF_21572, by omega, by omega, by omega, by omega, (by omega), hP⟩
      · skip
        refine lv_aload_n hx hb dX12_startAnew_173 rfl (lv_at hl 1 rfl) ?_
        refine rg_o_isBoxed hx hb hts hown hK hP uw_7_86 dX12_startAnew_174 ?_
        refine lv_iload_n hx hb dX12_startAnew_177 rfl (lv_at hl 0 rfl) ?_
        refine lv_iconst (v := mI 0) hx hb dX12_startAnew_178 rfl ?_
        refine rs_isBoxed hx hb hK hP hD hS (by decide) dX12_startAnew_179 (by omega) bF_21572 (by omega) (fun F_21578 H locs _ bF_21578 hP hS => ?_)
        refine lv_iinc (v := mI (z_21571 + 1)) (lv' := [(1, .int (mI (z_21571 + 1))), (0, .ref (a 0))]) hx hb dX12_startAnew_180 hl (k := 0) rfl (mI_ad rfl) (by decide) rfl (fun ls hl => ?_)
        refine lv_goto (tgt := 168) hx hb dX12_startAnew_183 (by decide) ?_
        exact ih_21576 _ _ _ _ (by omega) ⟨(z_21571 + 1), F_21578, _, by omega, bF_21578, rfl, hP, hS, lv_sub hl [0, 1] rfl, rfl⟩
    · skip
      refine lv_aload_n hx hb dX12_startAnew_31 rfl (lv_at hl 1 rfl) ?_
      refine rg_o_all hx hb hts hown hK hP uw_7_66 dX12_startAnew_32 ?_
      refine lv_iconst (v := mI 0) hx hb dX12_startAnew_35 rfl ?_
      refine lv_iload_n hx hb dX12_startAnew_36 rfl (lv_at hl 0 rfl) ?_
      refine sy_iadd hx hb dX12_startAnew_37 z_21106 (by omega) ?_
      refine lv_aload_n hx hb dX12_startAnew_38 rfl (lv_at hl 1 rfl) ?_
      refine lv_aload_n hx hb dX12_startAnew_39 rfl (lv_at hl 1 rfl) ?_
      refine lv_iload_n hx hb dX12_startAnew_40 rfl (lv_at hl 0 rfl) ?_
      refine g_i (rDt hD) hS hA (g_V (own := "HideReaderModel") (As := [.int (mI z_21106)]) (rest := [.ref (a 0), .int (mI z_21106), .ref (a 25)]) hx hb hml hown hts hK hP (rDt hD) (kr_X12_firstHerd (l := l) (D := D) (k := k) (by omega) h_x_bank b_B_herdTold) ck_X12_firstHerd iv_X12_firstHerd uw_6_216 (rv_o hK hP) rfl hl.1 rfl (Nat.le_of_ble_eq_true rfl) dX12_startAnew_41 ⟨Nat.le_of_ble_eq_true rfl, Nat.le_of_ble_eq_true rfl⟩ ⟨Nat.le_of_ble_eq_true rfl, Nat.le_of_ble_eq_true rfl⟩) (fun r_21579 H locs hQ hS => ?_)
      obtain ⟨hr_21579_0, hP⟩ := hQ
      refine g_i (rDt hD) hS hA (g_V (own := "HideReaderModel") (As := [.int (mI r_21579)]) (rest := [.int (mI z_21106), .ref (a 25)]) hx hb hml hown hts hK hP (rDt hD) (kr_X12_brandOf (l := l) (D := D) (k := k) (by omega) h_x_bank b_B_brands) ck_X12_brandOf iv_X12_brandOf uw_6_220 (rv_o hK hP) rfl hl.1 rfl (Nat.le_of_ble_eq_true rfl) dX12_startAnew_44 ⟨Nat.le_of_ble_eq_true rfl, Nat.le_of_ble_eq_true rfl⟩ ⟨Nat.le_of_ble_eq_true rfl, Nat.le_of_ble_eq_true rfl⟩) (fun r_21580 H locs hQ hS => ?_)
      obtain ⟨hr_21580_0, hr_21580_1, hP⟩ := hQ
      refine rs_all hx hb hK hP hD hS dX12_startAnew_47 (by omega) (bA_bd bF_21107) (by omega) (fun F_21581 H locs eF_21581 bF_21581 hP hS => ?_)
      have bF_21581 := bA_s4095 bF_21107 eF_21581 (by omega) (by omega)
      refine lv_aload_n hx hb dX12_startAnew_48 rfl (lv_at hl 1 rfl) ?_
      refine rg_o_all hx hb hts hown hK hP uw_7_66 dX12_startAnew_49 ?_
      refine lv_bipush (v := mI 8) hx hb dX12_startAnew_52 (by decide) ?_
      refine lv_iload_n hx hb dX12_startAnew_54 rfl (lv_at hl 0 rfl) ?_
      refine sy_iadd hx hb dX12_startAnew_55 (z_21106 + 8) (by omega) ?_
      refine lv_aload_n hx hb dX12_startAnew_56 rfl (lv_at hl 1 rfl) ?_
      refine lv_iload_n hx hb dX12_startAnew_57 rfl (lv_at hl 0 rfl) ?_
      refine g_i (rDt hD) hS hA (g_V (own := "HideReaderModel") (As := [.int (mI z_21106)]) (rest := [.int (mI (z_21106 + 8)), .ref (a 25)]) hx hb hml hown hts hK hP (rDt hD) (kr_X12_firstHerd (l := l) (D := D) (k := k) (by omega) h_x_bank b_B_herdTold) ck_X12_firstHerd iv_X12_firstHerd uw_6_216 (rv_o hK hP) rfl hl.1 rfl (Nat.le_of_ble_eq_true rfl) dX12_startAnew_58 ⟨Nat.le_of_ble_eq_true rfl, Nat.le_of_ble_eq_true rfl⟩ ⟨Nat.le_of_ble_eq_true rfl, Nat.le_of_ble_eq_true rfl⟩) (fun r_21582 H locs hQ hS => ?_)
      obtain ⟨hr_21582_0, hP⟩ := hQ
      refine rs_all hx hb hK hP hD hS dX12_startAnew_61 (by omega) (bA_bd bF_21581) (by omega) (fun F_21583 H locs eF_21583 bF_21583 hP hS => ?_)
      have bF_21583 := bA_s7 bF_21581 eF_21583 (by omega)
      refine lv_iconst (v := mI 0) hx hb dX12_startAnew_62 rfl ?_
      refine lv_istore_n (lv' := [(2, .int (mI 0)), (1, .int (mI z_21106)), (0, .ref (a 0))]) hx hb dX12_startAnew_63 rfl hl (by decide) rfl (fun ls hl => ?_)
      refine sy_loop (I := fun n H locs g => ∃ (z_21680 : Int) (F_21681 : Nat → Int) (ls : Array Slot), (0 ≤ z_21680 ∧ z_21680 ≤ 12) ∧ (bA F_21681) ∧ (12 - z_21680).toNat = n ∧ va_P D vwCl (rW k a x_taped x_size x_faultKind x_faultPlace x_at x_end x_token x_number x_bank x_rb x_codes x_within x_piled x_unitsInRule x_askBeast x_askStroke x_askAge x_askSeason x_acts x_undone x_laid x_seens x_time x_fitting n_name B_tape B_text B_turns B_herds B_irons B_beasts B_units B_night B_draw B_told B_brands B_ironMarks B_herdTold B_born B_ruleFrom B_ruleTo B_code B_codeNumber B_eWhat B_eSign B_pile F_21681 B_burned B_was B_need B_laidRow B_long8 B_brings B_sBurning B_sStroke B_sIs B_sTold B_sUntold B_parts B_boxAll B_isBoxed G_hName G_iName G_bName ex) H ∧ va_S A s.heap H locs ∧ lv_has ls 3 [(2, .int (mI z_21680)), (1, .int (mI z_21106)), (0, .ref (a 0))] ∧ g = F0 m 64 ls []) ?_ _ ⟨0, F_21583, _, by omega, bF_21583, rfl, hP, hS, lv_sub hl [0, 1, 2] rfl, rfl⟩
      intro n_21694 H locs g hI ih_21695
      obtain ⟨z_21680, F_21681, ls, h64_0, bF_21681, mn_21694, hP, hS, hl, rfl⟩ := hI
      refine lv_iload_n hx hb dX12_startAnew_64 rfl (lv_at hl 0 rfl) ?_
      refine lv_bipush (v := mI 12) hx hb dX12_startAnew_65 (by decide) ?_
      refine sy_icmp_ge (tgt := 120) hx hb dX12_startAnew_67 (by decide) (by omega) (by decide) (fun c_21696 => ?_) (fun c_21696 => ?_)
      · skip
        refine lv_iinc (v := mI (z_21106 + 1)) (lv' := [(1, .int (mI (z_21106 + 1))), (2, .int (mI z_21680)), (0, .ref (a 0))]) hx hb dX12_startAnew_120 hl (k := 1) rfl (mI_ad rfl) (by decide) rfl (fun ls hl => ?_)
        refine lv_goto (tgt := 23) hx hb dX12_startAnew_123 (by decide) ?_
        exact ih_21408 _ _ _ _ (by omega) ⟨(z_21106 + 1), F_21681, _, by omega, bF_21681, rfl, hP, hS, lv_sub hl [0, 2] rfl, rfl⟩
      · skip
        refine lv_aload_n hx hb dX12_startAnew_70 rfl (lv_at hl 2 rfl) ?_
        refine rg_o_all hx hb hts hown hK hP uw_7_66 dX12_startAnew_71 ?_
        refine lv_aload_n hx hb dX12_startAnew_74 rfl (lv_at hl 2 rfl) ?_
        refine lv_iload_n hx hb dX12_startAnew_75 rfl (lv_at hl 1 rfl) ?_
        refine lv_iload_n hx hb dX12_startAnew_76 rfl (lv_at hl 0 rfl) ?_
        refine g_i (rDt hD) hS hA (g_V (own := "HideReaderModel") (As := [.int (mI z_21106), .int (mI z_21680)]) (rest := [.ref (a 25)]) hx hb hml hown hts hK hP (rDt hD) (kr_X12_slot (l := l) (D := D) (k := k) (by omega) (by omega)) ck_X12_slot iv_X12_slot uw_6_224 (rv_o hK hP) rfl hl.1 rfl (Nat.le_of_ble_eq_true rfl) dX12_startAnew_77 ⟨Nat.le_of_ble_eq_true rfl, Nat.le_of_ble_eq_true rfl⟩ ⟨Nat.le_of_ble_eq_true rfl, Nat.le_of_ble_eq_true rfl⟩) (fun r_21697 H locs hQ hS => ?_)
        obtain ⟨hq_r_21697, hP⟩ := hQ
        obtain rfl := hq_r_21697
        refine lv_aload_n hx hb dX12_startAnew_80 rfl (lv_at hl 2 rfl) ?_
        refine rg_o_all hx hb hts hown hK hP uw_7_66 dX12_startAnew_81 ?_
        refine lv_iconst (v := mI 0) hx hb dX12_startAnew_84 rfl ?_
        refine lv_iload_n hx hb dX12_startAnew_85 rfl (lv_at hl 1 rfl) ?_
        refine sy_iadd hx hb dX12_startAnew_86 z_21106 (by omega) ?_
        refine rl_all hx hb hK hP dX12_startAnew_87 (by omega) (bA_bd bF_21681) (fun z_21699 ez_21699 hz_21699 => ?_)
        have hz_21699 := bA_hid bF_21681 (by omega) ez_21699
        refine lv_iload_n hx hb dX12_startAnew_88 rfl (lv_at hl 0 rfl) ?_
        refine g_i (rDt hD) hS hA (g_S (own := "HideReaderModel") (As := [.int (mI z_21699), .int (mI z_21680)]) (rest := [.int (mI (12 * z_21106 + z_21680 + 16)), .ref (a 25)]) hx hb hml hown hts hK hP (rDt hD) (kr_bit (l := l) (D := D) (k := k)) ck_X12_bit uw_6_229 uw_6_228 rfl hl.1 rfl (Nat.le_of_ble_eq_true rfl) dX12_startAnew_89 ⟨Nat.le_of_ble_eq_true rfl, Nat.le_of_ble_eq_true rfl⟩ ⟨Nat.le_of_ble_eq_true rfl, Nat.le_of_ble_eq_true rfl⟩) (fun r_21700 H locs hQ hS => ?_)
        obtain ⟨hq_r_21700, hP⟩ := hQ
        rcases hq_r_21700 with ⟨rfl, c_21701_0⟩ | ⟨rfl, c_21702_0⟩
        · skip
          refine sy_if_eq (tgt := 112) hx hb dX12_startAnew_92 (by decide) (by decide) (fun c9 => absurd c9 (by decide)) (fun c_21703 => ?_)
          refine lv_aload_n hx hb dX12_startAnew_95 rfl (lv_at hl 2 rfl) ?_
          refine rg_o_born hx hb hts hown hK hP uw_7_45 dX12_startAnew_96 ?_
          refine lv_bipush (v := mI 8) hx hb dX12_startAnew_99 (by decide) ?_
          refine lv_aload_n hx hb dX12_startAnew_101 rfl (lv_at hl 2 rfl) ?_
          refine rg_o_bank hx hb hts hown hK hP uw_7_56 dX12_startAnew_102 ?_
          refine sy_imul hx hb dX12_startAnew_105 (8 * x_bank) rfl ?_
          refine lv_iload_n hx hb dX12_startAnew_106 rfl (lv_at hl 1 rfl) ?_
          refine sy_iadd hx hb dX12_startAnew_107 (8 * x_bank + z_21106) rfl ?_
          refine rl_born hx hb hK hP dX12_startAnew_108 (by omega) b_B_born (fun z_21704 _ hz_21704 => ?_)
          refine lv_goto (tgt := 113) hx hb dX12_startAnew_109 (by decide) ?_
          refine rs_all hx hb hK hP hD hS dX12_startAnew_113 (by omega) (bA_bd bF_21681) (by omega) (fun F_21705 H locs eF_21705 bF_21705 hP hS => ?_)
          have bF_21705 := bA_s999 bF_21681 eF_21705 (by omega) (by omega)
          refine lv_iinc (v := mI (z_21680 + 1)) (lv' := [(2, .int (mI (z_21680 + 1))), (1, .int (mI z_21106)), (0, .ref (a 0))]) hx hb dX12_startAnew_114 hl (k := 0) rfl (mI_ad rfl) (by decide) rfl (fun ls hl => ?_)
          refine lv_goto (tgt := 64) hx hb dX12_startAnew_117 (by decide) ?_
          exact ih_21695 _ _ _ _ (by omega) ⟨(z_21680 + 1), F_21705, _, by omega, bF_21705, rfl, hP, hS, lv_sub hl [0, 1, 2] rfl, rfl⟩
        · skip
          refine sy_if_eq (tgt := 112) hx hb dX12_startAnew_92 (by decide) (by decide) (fun c_21706 => ?_) (fun c9 => absurd c9 (by decide))
          refine lv_iconst (v := mI 0) hx hb dX12_startAnew_112 rfl ?_
          refine rs_all hx hb hK hP hD hS dX12_startAnew_113 (by omega) (bA_bd bF_21681) (by omega) (fun F_21707 H locs eF_21707 bF_21707 hP hS => ?_)
          have bF_21707 := bA_s7 bF_21681 eF_21707 (by omega)
          refine lv_iinc (v := mI (z_21680 + 1)) (lv' := [(2, .int (mI (z_21680 + 1))), (1, .int (mI z_21106)), (0, .ref (a 0))]) hx hb dX12_startAnew_114 hl (k := 0) rfl (mI_ad rfl) (by decide) rfl (fun ls hl => ?_)
          refine lv_goto (tgt := 64) hx hb dX12_startAnew_117 (by decide) ?_
          exact ih_21695 _ _ _ _ (by omega) ⟨(z_21680 + 1), F_21707, _, by omega, bF_21707, rfl, hP, hS, lv_sub hl [0, 1, 2] rfl, rfl⟩
  · skip
    refine lv_aload_n hx hb dX12_startAnew_8 rfl (lv_at hl 1 rfl) ?_
    refine rg_o_all hx hb hts hown hK hP uw_7_66 dX12_startAnew_9 ?_
    refine lv_iload_n hx hb dX12_startAnew_12 rfl (lv_at hl 0 rfl) ?_
    refine lv_iconst (v := mI 0) hx hb dX12_startAnew_13 rfl ?_
    refine rs_all hx hb hK hP hD hS dX12_startAnew_14 (by omega) (bA_bd bF_16284) (by omega) (fun F_21708 H locs eF_21708 bF_21708 hP hS => ?_)
    have bF_21708 := bA_s7 bF_16284 eF_21708 (by omega)
    refine lv_iinc (v := mI (z_16283 + 1)) (lv' := [(1, .int (mI (z_16283 + 1))), (0, .ref (a 0))]) hx hb dX12_startAnew_15 hl (k := 0) rfl (mI_ad rfl) (by decide) rfl (fun ls hl => ?_)
    refine lv_goto (tgt := 2) hx hb dX12_startAnew_18 (by decide) ?_
    exact ih_18997 _ _ _ _ (by omega) ⟨(z_16283 + 1), F_21708, _, by omega, bF_21708, rfl, hP, hS, lv_sub hl [0, 1] rfl, rfl⟩
set_option maxHeartbeats 4000000 in
set_option maxRecDepth 100000 in
theorem kr_X12_valley (h_x_taped : 0 ≤ x_taped ∧ x_taped ≤ 1600) (h_x_number : -2147483648 ≤ x_number ∧ x_number ≤ 2147483647) (h_x_bank : 0 ≤ x_bank ∧ x_bank ≤ 1) (h_x_within : 0 ≤ x_within ∧ x_within ≤ 7) (h_x_piled : 0 ≤ x_piled ∧ x_piled ≤ 90) (h_x_unitsInRule : 0 ≤ x_unitsInRule ∧ x_unitsInRule ≤ 30) (h_x_acts : 0 ≤ x_acts ∧ x_acts ≤ 40) (h_x_undone : 0 ≤ x_undone ∧ x_undone ≤ 40) (h_x_laid : 0 ≤ x_laid ∧ x_laid ≤ 8) (h_x_seens : 0 ≤ x_seens ∧ x_seens ≤ 30) (b_B_tape : bd (-128) 127 B_tape) (b_B_text : bd (-128) 127 B_text) (b_B_turns : bd (0) 4 B_turns) (b_B_herds : bd (0) 8 B_herds) (b_B_irons : bd (0) 6 B_irons) (b_B_beasts : bd (0) 8 B_beasts) (b_B_units : bd (0) 60 B_units) (b_B_night : bd (0) 100 B_night) (b_B_draw : bd (0) 999 B_draw) (b_B_told : bd (0) 31 B_told) (b_B_brands : bd (0) 4095 B_brands) (b_B_ironMarks : bd (0) 4095 B_ironMarks) (b_B_herdTold : bd (0) 7 B_herdTold) (b_B_born : bd (0) 99 B_born) (b_B_ruleFrom : bd (0) 1120 B_ruleFrom) (b_B_ruleTo : bd (0) 1120 B_ruleTo) (b_B_code : bd (-2147483648) 2147483647 B_code) (b_B_codeNumber : bd (-2147483648) 2147483647 B_codeNumber) (b_B_eWhat : bd (0) 8 B_eWhat) (b_B_eSign : bd (-2147483648) 2147483647 B_eSign) (b_B_all : bA B_all) (b_B_burned : bd (0) 4095 B_burned) (b_B_isBoxed : bd (0) 1 B_isBoxed) (g_A : 0 ≤ 40 - x_acts - x_undone) (g_Q : rQ x_bank B_told B_ruleFrom B_ruleTo B_code) (g_R : 1 ≤ B_turns x_bank.toNat ∧ ¬ B_turns x_bank.toNat = 3) : MetG l D k yX12_valley cX12_valley 2 (some .int) 7 [.ref (a 0)] (rW k a x_taped x_size x_faultKind x_faultPlace x_at x_end x_token x_number x_bank x_rb x_codes x_within x_piled x_unitsInRule x_askBeast x_askStroke x_askAge x_askSeason x_acts x_undone x_laid x_seens x_time x_fitting n_name B_tape B_text B_turns B_herds B_irons B_beasts B_units B_night B_draw B_told B_brands B_ironMarks B_herdTold B_born B_ruleFrom B_ruleTo B_code B_codeNumber B_eWhat B_eSign B_pile B_all B_burned B_was B_need B_laidRow B_long8 B_brings B_sBurning B_sStroke B_sIs B_sTold B_sUntold B_parts B_boxAll B_isBoxed G_hName G_iName G_bName ex) (qGi (fun r0 H => ∃ (F_text : Nat → Int) (y_taped : Int) (y_size : Int) (y_faultKind : Int) (y_faultPlace : Int) (y_at : Int) (y_end : Int) (y_token : Int) (y_number : Int) (j_name : Int64) (F_turns : Nat → Int) (F_herds : Nat → Int) (F_irons : Nat → Int) (F_beasts : Nat → Int) (F_units : Nat → Int) (F_night : Nat → Int) (F_draw : Nat → Int) (F_told : Nat → Int) (F_brands : Nat → Int) (F_ironMarks : Nat → Int) (F_herdTold : Nat → Int) (F_born : Nat → Int) (F_ruleFrom : Nat → Int) (F_ruleTo : Nat → Int) (G_hName : Nat → Int64) (G_iName : Nat → Int64) (G_bName : Nat → Int64) (F_code : Nat → Int) (F_codeNumber : Nat → Int) (F_eWhat : Nat → Int) (F_eSign : Nat → Int) (y_bank : Int) (y_rb : Int) (y_codes : Int) (y_within : Int) (y_piled : Int) (y_unitsInRule : Int) (F_all : Nat → Int) (F_burned : Nat → Int) (y_acts : Int) (y_undone : Int) (y_laid : Int) (y_seens : Int) (F_isBoxed : Nat → Int), (-1 ≤ r0 ∧ r0 ≤ 8) ∧ (bd (-128) 127 F_text) ∧ (0 ≤ y_taped ∧ y_taped ≤ 0) ∧ (0 ≤ y_size ∧ y_size ≤ 1600) ∧ (0 ≤ y_faultKind ∧ y_faultKind ≤ 5) ∧ (-1 ≤ y_faultPlace ∧ y_faultPlace ≤ 1600) ∧ (0 ≤ y_at ∧ y_at ≤ 1600) ∧ (0 ≤ y_end ∧ y_end ≤ 1600) ∧ (0 ≤ y_token ∧ y_token ≤ 5) ∧ (-2147483648 ≤ y_number ∧ y_number ≤ 2147483647) ∧ (bd (0) 4 F_turns) ∧ (bd (0) 8 F_herds) ∧ (bd (0) 6 F_irons) ∧ (bd (0) 8 F_beasts) ∧ (bd (0) 60 F_units) ∧ (bd (0) 100 F_night) ∧ (bd (0) 999 F_draw) ∧ (bd (0) 31 F_told) ∧ (bd (0) 4095 F_brands) ∧ (bd (0) 4095 F_ironMarks) ∧ (bd (0) 7 F_herdTold) ∧ (bd (0) 99 F_born) ∧ (bd (0) 1120 F_ruleFrom) ∧ (bd (0) 1120 F_ruleTo) ∧ (bd (-2147483648) 2147483647 F_code) ∧ (bd (-2147483648) 2147483647 F_codeNumber) ∧ (bd (0) 8 F_eWhat) ∧ (bd (-2147483648) 2147483647 F_eSign) ∧ (0 ≤ y_bank ∧ y_bank ≤ 1) ∧ (0 ≤ y_rb ∧ y_rb ≤ 1) ∧ (0 ≤ y_codes ∧ y_codes ≤ 1120) ∧ (0 ≤ y_within ∧ y_within ≤ 7) ∧ (0 ≤ y_piled ∧ y_piled ≤ 90) ∧ (0 ≤ y_unitsInRule ∧ y_unitsInRule ≤ 30) ∧ (bA F_all) ∧ (bd (0) 4095 F_burned) ∧ (0 ≤ y_acts ∧ y_acts ≤ 40) ∧ (0 ≤ y_undone ∧ y_undone ≤ 40) ∧ (0 ≤ y_laid ∧ y_laid ≤ 8) ∧ (0 ≤ y_seens ∧ y_seens ≤ 30) ∧ (bd (0) 1 F_isBoxed) ∧ (0 ≤ -y_taped + x_taped) ∧ (0 ≤ -y_acts + x_acts) ∧ (0 ≤ -y_undone + x_undone) ∧ (0 ≤ -y_laid + x_laid) ∧ (0 ≤ -y_seens + x_seens) ∧ (0 ≤ 40 - y_acts - y_undone) ∧ (y_end ≤ y_size) ∧ (rQ y_bank F_told F_ruleFrom F_ruleTo F_code) ∧ (1 ≤ F_turns y_bank.toNat ∧ ¬ F_turns y_bank.toNat = 3) ∧ va_P D vwCl (rW k a y_taped y_size y_faultKind y_faultPlace y_at y_end y_token y_number y_bank y_rb y_codes y_within y_piled y_unitsInRule x_askBeast x_askStroke x_askAge x_askSeason y_acts y_undone y_laid y_seens x_time x_fitting j_name B_tape F_text F_turns F_herds F_irons F_beasts F_units F_night F_draw F_told F_brands F_ironMarks F_herdTold F_born F_ruleFrom F_ruleTo F_code F_codeNumber F_eWhat F_eSign B_pile F_all F_burned B_was B_need B_laidRow B_long8 B_brings B_sBurning B_sStroke B_sIs B_sTold B_sUntold B_parts B_boxAll F_isBoxed G_hName G_iName G_bName ex) H)) := by
  refine metG_of 0 ck_X12_valley (Nat.le_of_ble_eq_true rfl) rMap (fun p e s m args below meth c A hx hb hml hr hlocks hown hts hK hD hA hP hS ls hl => ?_)
  have hown : s.vm.findClass "HideReaderModel" = some m.cls := hown
  have hl : lv_has ls 2 [(0, .ref (a 0))] := hl
  refine lv_aload_n hx hb dX12_valley_0 rfl (lv_at hl 0 rfl) ?_
  refine lv_iconst (v := mI 0) hx hb dX12_valley_1 rfl ?_
  refine rp_o_faultKind hx hb hts hown hK hP hD hS uw_7_27 dX12_valley_2 (fun H locs hP hS => ?_)
  refine lv_aload_n hx hb dX12_valley_5 rfl (lv_at hl 0 rfl) ?_
  refine lv_iconst (v := mI (-1)) hx hb dX12_valley_6 rfl ?_
  refine rp_o_faultPlace hx hb hts hown hK hP hD hS uw_7_28 dX12_valley_7 (fun H locs hP hS => ?_)
  refine lv_aload_n hx hb dX12_valley_10 rfl (lv_at hl 0 rfl) ?_
  refine lv_aload_n hx hb dX12_valley_11 rfl (lv_at hl 0 rfl) ?_
  refine rg_o_taped hx hb hts hown hK hP uw_7_25 dX12_valley_12 ?_
  refine rp_o_size hx hb hts hown hK hP hD hS uw_7_26 dX12_valley_15 (fun H locs hP hS => ?_)
  refine lv_iconst (v := mI 0) hx hb dX12_valley_18 rfl ?_
  refine lv_istore_n (lv' := [(1, .int (mI 0)), (0, .ref (a 0))]) hx hb dX12_valley_19 rfl hl (by decide) rfl (fun ls hl => ?_)
  refine sy_loop (I := fun n H locs g => ∃ (z_11227 : Int) (F_11228 : Nat → Int) (ls : Array Slot), (0 ≤ z_11227 ∧ z_11227 ≤ 1600) ∧ (bd (-128) 127 F_11228) ∧ (1600 - z_11227).toNat = n ∧ va_P D vwCl (rW k a x_taped x_taped 0 (-1) x_at x_end x_token x_number x_bank x_rb x_codes x_within x_piled x_unitsInRule x_askBeast x_askStroke x_askAge x_askSeason x_acts x_undone x_laid x_seens x_time x_fitting n_name B_tape F_11228 B_turns B_herds B_irons B_beasts B_units B_night B_draw B_told B_brands B_ironMarks B_herdTold B_born B_ruleFrom B_ruleTo B_code B_codeNumber B_eWhat B_eSign B_pile B_all B_burned B_was B_need B_laidRow B_long8 B_brings B_sBurning B_sStroke B_sIs B_sTold B_sUntold B_parts B_boxAll B_isBoxed G_hName G_iName G_bName ex) H ∧ va_S A s.heap H locs ∧ lv_has ls 2 [(1, .int (mI z_11227)), (0, .ref (a 0))] ∧ g = F0 m 20 ls []) ?_ _ ⟨0, B_text, _, by omega, b_B_text, rfl, hP, hS, lv_sub hl [0, 1] rfl, rfl⟩
  intro n_12831 H locs g hI ih_12832
  obtain ⟨z_11227, F_11228, ls, h20_0, bF_11228, mn_12831, hP, hS, hl, rfl⟩ := hI
  refine lv_iload_n hx hb dX12_valley_20 rfl (lv_at hl 0 rfl) ?_
  refine lv_aload_n hx hb dX12_valley_21 rfl (lv_at hl 1 rfl) ?_
  refine rg_o_size hx hb hts hown hK hP uw_7_26 dX12_valley_22 ?_
  refine sy_icmp_ge (tgt := 46) hx hb dX12_valley_25 (by decide) (by omega) (by omega) (fun c_12836 => ?_) (fun c_12836 => ?_)
  · skip
    refine lv_aload_n hx hb dX12_valley_46 rfl (lv_at hl 1 rfl) ?_
    refine lv_iconst (v := mI 0) hx hb dX12_valley_47 rfl ?_
    refine rp_o_taped hx hb hts hown hK hP hD hS uw_7_25 dX12_valley_48 (fun H locs hP hS => ?_)
    refine lv_aload_n hx hb dX12_valley_51 rfl (lv_at hl 1 rfl) ?_
    refine lv_iconst (v := mI 0) hx hb dX12_valley_52 rfl ?_
    refine rp_o_end hx hb hts hown hK hP hD hS uw_7_30 dX12_valley_53 (fun H locs hP hS => ?_)
    refine lv_aload_n hx hb dX12_valley_56 rfl (lv_at hl 1 rfl) ?_
    refine lv_iconst (v := mI 1) hx hb dX12_valley_57 rfl ?_
    refine lv_aload_n hx hb dX12_valley_58 rfl (lv_at hl 1 rfl) ?_
    refine rg_o_bank hx hb hts hown hK hP uw_7_56 dX12_valley_59 ?_
    refine sy_isub hx hb dX12_valley_62 (-x_bank + 1) (by omega) ?_
    refine rp_o_rb hx hb hts hown hK hP hD hS uw_7_57 dX12_valley_63 (fun H locs hP hS => ?_)
    refine lv_aload_n hx hb dX12_valley_66 rfl (lv_at hl 1 rfl) ?_
    refine g_v (rDt hD) hS hA (g_V (own := "HideReaderModel") (As := []) (rest := []) hx hb hml hown hts hK hP (rDt hD) (kr_X12_clearBank (l := l) (D := D) (k := k) h_x_bank (by omega) b_B_turns b_B_herds b_B_irons b_B_beasts b_B_units b_B_night b_B_draw b_B_told (by omega) g_Q g_R) ck_X12_clearBank iv_X12_clearBank uw_6_204 (rv_o hK hP) rfl hl.1 rfl (Nat.le_of_ble_eq_true rfl) dX12_valley_67 ⟨Nat.le_of_ble_eq_true rfl, Nat.le_of_ble_eq_true rfl⟩ ⟨Nat.le_of_ble_eq_true rfl, Nat.le_of_ble_eq_true rfl⟩) (fun H locs hQ hS => ?_)
    obtain ⟨F_12838, F_12839, F_12840, F_12841, F_12842, F_12843, F_12844, F_12845, y_12846, bF_12838, bF_12839, bF_12840, bF_12841, bF_12842, bF_12843, bF_12844, bF_12845, hr_12837_8, hr_12837_9, hr_12837_10, kr_12837_Z, kr_12837_Q, kr_12837_VV, kr_12837_R, kr_12837_SS, hP⟩ := hQ
    refine lv_aload_n hx hb dX12_valley_70 rfl (lv_at hl 1 rfl) ?_
    refine g_v (rDt hD) hS hA (g_V (own := "HideReaderModel") (As := []) (rest := []) hx hb hml hown hts hK hP (rDt hD) (kr_X12_goOn (l := l) (D := D) (k := k) (by omega) (by omega) h_x_number bF_11228 (by omega)) ck_X12_goOn iv_X12_goOn uw_7_220 (rv_o hK hP) rfl hl.1 rfl (Nat.le_of_ble_eq_true rfl) dX12_valley_71 ⟨Nat.le_of_ble_eq_true rfl, Nat.le_of_ble_eq_true rfl⟩ ⟨Nat.le_of_ble_eq_true rfl, Nat.le_of_ble_eq_true rfl⟩) (fun H locs hQ hS => ?_)
    obtain ⟨y_12848, y_12849, y_12850, y_12851, j_12852, hr_12847_0, hr_12847_1, hr_12847_2, hr_12847_3, hr_12847_4, hr_12847_5, kr_12847_E, hP⟩ := hQ
    refine sy_loop (I := fun n H locs g => ∃ (y_14137 : Int) (y_14138 : Int) (y_14139 : Int) (y_14140 : Int) (y_14141 : Int) (y_14142 : Int) (j_14143 : Int64) (F_14144 : Nat → Int) (F_14145 : Nat → Int) (F_14146 : Nat → Int) (F_14147 : Nat → Int) (F_14148 : Nat → Int) (F_14149 : Nat → Int) (F_14150 : Nat → Int) (F_14151 : Nat → Int) (F_14152 : Nat → Int) (F_14153 : Nat → Int) (F_14154 : Nat → Int) (F_14155 : Nat → Int) (F_14156 : Nat → Int) (F_14157 : Nat → Int) (G_14158 : Nat → Int64) (G_14159 : Nat → Int64) (G_14160 : Nat → Int64) (F_14161 : Nat → Int) (F_14162 : Nat → Int) (F_14163 : Nat → Int) (F_14164 : Nat → Int) (y_14165 : Int) (y_14166 : Int) (y_14167 : Int) (y_14168 : Int) (ls : Array Slot), (0 ≤ y_14137 ∧ y_14137 ≤ 5) ∧ (-1 ≤ y_14138 ∧ y_14138 ≤ 1600) ∧ (0 ≤ y_14139 ∧ y_14139 ≤ 1600) ∧ (0 ≤ y_14140 ∧ y_14140 ≤ 1600) ∧ (0 ≤ y_14141 ∧ y_14141 ≤ 5) ∧ (-2147483648 ≤ y_14142 ∧ y_14142 ≤ 2147483647) ∧ (bd (0) 4 F_14144) ∧ (bd (0) 8 F_14145) ∧ (bd (0) 6 F_14146) ∧ (bd (0) 8 F_14147) ∧ (bd (0) 60 F_14148) ∧ (bd (0) 100 F_14149) ∧ (bd (0) 999 F_14150) ∧ (bd (0) 31 F_14151) ∧ (bd (0) 4095 F_14152) ∧ (bd (0) 4095 F_14153) ∧ (bd (0) 7 F_14154) ∧ (bd (0) 99 F_14155) ∧ (bd (0) 1120 F_14156) ∧ (bd (0) 1120 F_14157) ∧ (bd (-2147483648) 2147483647 F_14161) ∧ (bd (-2147483648) 2147483647 F_14162) ∧ (bd (0) 8 F_14163) ∧ (bd (-2147483648) 2147483647 F_14164) ∧ (0 ≤ y_14165 ∧ y_14165 ≤ 1120) ∧ (0 ≤ y_14166 ∧ y_14166 ≤ 7) ∧ (0 ≤ y_14167 ∧ y_14167 ≤ 90) ∧ (0 ≤ y_14168 ∧ y_14168 ≤ 30) ∧ (y_14140 ≤ x_taped) ∧ (1 ≤ y_14137 ∨ (0 ≤ 560 * (-x_bank + 1) + 9 * F_14148 (-x_bank + 1).toNat - y_14165 ∧ 560 * (-x_bank + 1) ≤ y_14165)) ∧ (rQ x_bank F_14151 F_14156 F_14157 F_14161) ∧ (1 ≤ y_14137 ∨ rQ (-x_bank + 1) F_14151 F_14156 F_14157 F_14161) ∧ (1 ≤ F_14144 x_bank.toNat ∧ ¬ F_14144 x_bank.toNat = 3) ∧ (1 ≤ y_14137 ∨ (1 ≤ F_14144 (-x_bank + 1).toNat ∧ ¬ F_14144 (-x_bank + 1).toNat = 3)) ∧ (0 ≤ y_14165 - y_12846) ∧ (0 ≤ y_14140 - y_12849) ∧ (6 * (1600 - y_14140) + 5 - y_14137).toNat = n ∧ va_P D vwCl (rW k a 0 x_taped y_14137 y_14138 y_14139 y_14140 y_14141 y_14142 x_bank (-x_bank + 1) y_14165 y_14166 y_14167 y_14168 x_askBeast x_askStroke x_askAge x_askSeason x_acts x_undone x_laid x_seens x_time x_fitting j_14143 B_tape F_11228 F_14144 F_14145 F_14146 F_14147 F_14148 F_14149 F_14150 F_14151 F_14152 F_14153 F_14154 F_14155 F_14156 F_14157 F_14161 F_14162 F_14163 F_14164 B_pile B_all B_burned B_was B_need B_laidRow B_long8 B_brings B_sBurning B_sStroke B_sIs B_sTold B_sUntold B_parts B_boxAll B_isBoxed G_14158 G_14159 G_14160 ex) H ∧ va_S A s.heap H locs ∧ lv_has ls 2 [(1, .int (mI z_11227)), (0, .ref (a 0))] ∧ g = F0 m 74 ls []) ?_ _ ⟨0, (-1), y_12848, y_12849, y_12850, y_12851, j_12852, F_12838, F_12839, F_12840, F_12841, F_12842, F_12843, F_12844, F_12845, B_brands, B_ironMarks, B_herdTold, B_born, B_ruleFrom, B_ruleTo, G_hName, G_iName, G_bName, B_code, B_codeNumber, B_eWhat, B_eSign, y_12846, x_within, x_piled, x_unitsInRule, _, by omega, by omega, by omega, by omega, by omega, by omega, bF_12838, bF_12839, bF_12840, bF_12841, bF_12842, bF_12843, bF_12844, bF_12845, b_B_brands, b_B_ironMarks, b_B_herdTold, b_B_born, b_B_ruleFrom, b_B_ruleTo, b_B_code, b_B_codeNumber, b_B_eWhat, b_B_eSign, by omega, by omega, by omega, by omega, kr_12847_E, kr_12837_Z, kr_12837_Q, kr_12837_VV, kr_12837_R, kr_12837_SS, by omega, by omega, rfl, hP, hS, lv_sub hl [0, 1] rfl, rfl⟩
    intro n_14303 H locs g hI ih_14304
    obtain ⟨y_14137, y_14138, y_14139, y_14140, y_14141, y_14142, j_14143, F_14144, F_14145, F_14146, F_14147, F_14148, F_14149, F_14150, F_14151, F_14152, F_14153, F_14154, F_14155, F_14156, F_14157, G_14158, G_14159, G_14160, F_14161, F_14162, F_14163, F_14164, y_14165, y_14166, y_14167, y_14168, ls, h74_0, h74_1, h74_2, h74_3, h74_4, h74_5, bF_14144, bF_14145, bF_14146, bF_14147, bF_14148, bF_14149, bF_14150, bF_14151, bF_14152, bF_14153, bF_14154, bF_14155, bF_14156, bF_14157, bF_14161, bF_14162, bF_14163, bF_14164, h74_24, h74_25, h74_26, h74_27, g_14169, g_14170, g_14171, g_14172, g_14173, g_14174, h74_34, h74_35, mn_14303, hP, hS, hl, rfl⟩ := hI
    refine lv_aload_n hx hb dX12_valley_74 rfl (lv_at hl 1 rfl) ?_
    refine g_i (rDt hD) hS hA (g_V (own := "HideReaderModel") (As := []) (rest := []) hx hb hml hown hts hK hP (rDt hD) (kr_X12_isGood (l := l) (D := D) (k := k) (by omega)) ck_X12_isGood iv_X12_isGood uw_8_18 (rv_o hK hP) rfl hl.1 rfl (Nat.le_of_ble_eq_true rfl) dX12_valley_75 ⟨Nat.le_of_ble_eq_true rfl, Nat.le_of_ble_eq_true rfl⟩ ⟨Nat.le_of_ble_eq_true rfl, Nat.le_of_ble_eq_true rfl⟩) (fun r_14305 H locs hQ hS => ?_)
    obtain ⟨hq_r_14305, hP⟩ := hQ
    rcases hq_r_14305 with ⟨rfl, c_14306_0, c_14306_1⟩ | ⟨rfl, c_14307_0⟩
    · skip
      refine sy_if_eq (tgt := 95) hx hb dX12_valley_78 (by decide) (by decide) (fun c_14309 => ?_) (fun c9 => absurd c9 (by decide))
      refine lv_aload_n hx hb dX12_valley_95 rfl (lv_at hl 1 rfl) ?_
      refine g_i (rDt hD) hS hA (g_V (own := "HideReaderModel") (As := []) (rest := []) hx hb hml hown hts hK hP (rDt hD) (kr_X12_isGood (l := l) (D := D) (k := k) (by omega)) ck_X12_isGood iv_X12_isGood uw_8_18 (rv_o hK hP) rfl hl.1 rfl (Nat.le_of_ble_eq_true rfl) dX12_valley_96 ⟨Nat.le_of_ble_eq_true rfl, Nat.le_of_ble_eq_true rfl⟩ ⟨Nat.le_of_ble_eq_true rfl, Nat.le_of_ble_eq_true rfl⟩) (fun r_14310 H locs hQ hS => ?_)
      obtain ⟨hq_r_14310, hP⟩ := hQ
      rcases hq_r_14310 with ⟨rfl, c_14311_0, c_14311_1⟩ | ⟨rfl, c_14312_0⟩
      · skip
        refine sy_if_ne (tgt := 104) hx hb dX12_valley_99 (by decide) (by decide) (fun c9 => absurd c9 (by decide)) (fun c_14313 => ?_)
        refine lv_iconst (v := mI (-1)) hx hb dX12_valley_102 rfl ?_
        exact r_i hx hb hr hlocks dX12_valley_103 hS ⟨F_11228, 0, x_taped, y_14137, y_14138, y_14139, y_14140, y_14141, y_14142, j_14143, F_14144, F_14145, F_14146, F_14147, F_14148, F_14149, F_14150, F_14151, F_14152, F_14153, F_14154, F_14155, F_14156, F_14157, G_14158, G_14159, G_14160, F_14161, F_14162, F_14163, F_14164, x_bank, (-x_bank + 1), y_14165, y_14166, y_14167, y_14168, B_all, B_burned, x_acts, x_undone, x_laid, x_seens, B_isBoxed, by omega, bF_11228, by omega, by omega, by omega, by omega, by omega, by omega, by omega, by omega, bF_14144, bF_14145, bF_14146, bF_14147, bF_14148, bF_14149, bF_14150, bF_14151, bF_14152, bF_14153, bF_14154, bF_14155, bF_14156, bF_14157, bF_14161, bF_14162, bF_14163, bF_14164, by omega, by omega, by omega, by omega, by omega, by omega, b_B_all, b_B_burned, by omega, by omega, by omega, by omega, b_B_isBoxed, by omega, by omega, by omega, by omega, by omega, g_A, g_14169, g_14171, g_14173, hP⟩
      exact False.elim (by omega)
    · skip
      refine sy_if_eq (tgt := 95) hx hb dX12_valley_78 (by decide) (by decide) (fun c9 => absurd c9 (by decide)) (fun c_14349 => ?_)
      refine lv_aload_n hx hb dX12_valley_81 rfl (lv_at hl 1 rfl) ?_
      refine rg_o_token hx hb hts hown hK hP uw_7_31 dX12_valley_82 ?_
      refine sy_if_eq (tgt := 95) hx hb dX12_valley_85 (by decide) (by omega) (fun c_14384 => ?_) (fun c_14384 => ?_)
      · skip
        refine lv_aload_n hx hb dX12_valley_95 rfl (lv_at hl 1 rfl) ?_
        refine g_i (rDt hD) hS hA (g_V (own := "HideReaderModel") (As := []) (rest := []) hx hb hml hown hts hK hP (rDt hD) (kr_X12_isGood (l := l) (D := D) (k := k) (by omega)) ck_X12_isGood iv_X12_isGood uw_8_18 (rv_o hK hP) rfl hl.1 rfl (Nat.le_of_ble_eq_true rfl) dX12_valley_96 ⟨Nat.le_of_ble_eq_true rfl, Nat.le_of_ble_eq_true rfl⟩ ⟨Nat.le_of_ble_eq_true rfl, Nat.le_of_ble_eq_true rfl⟩) (fun r_14385 H locs hQ hS => ?_)
        obtain ⟨hq_r_14385, hP⟩ := hQ
        rcases hq_r_14385 with ⟨rfl, c_14386_0, c_14386_1⟩ | ⟨rfl, c_14387_0⟩
        exact False.elim (by omega)
        · skip
          refine sy_if_ne (tgt := 104) hx hb dX12_valley_99 (by decide) (by decide) (fun c_14388 => ?_) (fun c9 => absurd c9 (by decide))
          refine lv_aload_n hx hb dX12_valley_104 rfl (lv_at hl 1 rfl) ?_
          refine lv_aload_n hx hb dX12_valley_105 rfl (lv_at hl 1 rfl) ?_
          refine rg_o_rb hx hb hts hown hK hP uw_7_57 dX12_valley_106 ?_
          refine rp_o_bank hx hb hts hown hK hP hD hS uw_7_56 dX12_valley_109 (fun H locs hP hS => ?_)
          have g_14389 : rQ (-x_bank + 1) F_14151 F_14156 F_14157 F_14161 := Or.resolve_left g_14172 (by omega)
          have g_14390 : 1 ≤ F_14144 (-x_bank + 1).toNat ∧ ¬ F_14144 (-x_bank + 1).toNat = 3 := by omega
          refine lv_aload_n hx hb dX12_valley_112 rfl (lv_at hl 1 rfl) ?_
          refine g_v (rDt hD) hS hA (g_V (own := "HideReaderModel") (As := []) (rest := []) hx hb hml hown hts hK hP (rDt hD) (kr_X12_startAnew (l := l) (D := D) (k := k) (by omega) h_x_acts h_x_undone h_x_laid h_x_seens bF_14144 bF_14146 bF_14147 bF_14150 bF_14151 bF_14152 bF_14153 bF_14154 bF_14155 b_B_all b_B_burned b_B_isBoxed g_14390) ck_X12_startAnew iv_X12_startAnew uw_6_208 (rv_o hK hP) rfl hl.1 rfl (Nat.le_of_ble_eq_true rfl) dX12_valley_113 ⟨Nat.le_of_ble_eq_true rfl, Nat.le_of_ble_eq_true rfl⟩ ⟨Nat.le_of_ble_eq_true rfl, Nat.le_of_ble_eq_true rfl⟩) (fun H locs hQ hS => ?_)
          obtain ⟨F_14392, F_14393, y_14394, y_14395, y_14396, y_14397, F_14398, bF_14392, bF_14393, hr_14391_2, hr_14391_3, hr_14391_4, hr_14391_5, bF_14398, hr_14391_7, hr_14391_8, hr_14391_9, hr_14391_10, kr_14391_A, hP⟩ := hQ
          refine lv_aload_n hx hb dX12_valley_116 rfl (lv_at hl 1 rfl) ?_
          refine rg_o_herds hx hb hts hown hK hP uw_7_35 dX12_valley_117 ?_
          refine lv_aload_n hx hb dX12_valley_120 rfl (lv_at hl 1 rfl) ?_
          refine rg_o_bank hx hb hts hown hK hP uw_7_56 dX12_valley_121 ?_
          refine rl_herds hx hb hK hP dX12_valley_124 (by omega) bF_14145 (fun z_14399 ez_14399 hz_14399 => ?_)
          exact r_i hx hb hr hlocks dX12_valley_125 hS ⟨F_11228, 0, x_taped, y_14137, y_14138, y_14139, y_14140, y_14141, y_14142, j_14143, F_14144, F_14145, F_14146, F_14147, F_14148, F_14149, F_14150, F_14151, F_14152, F_14153, F_14154, F_14155, F_14156, F_14157, G_14158, G_14159, G_14160, F_14161, F_14162, F_14163, F_14164, (-x_bank + 1), (-x_bank + 1), y_14165, y_14166, y_14167, y_14168, F_14392, F_14393, y_14394, y_14395, y_14396, y_14397, F_14398, by omega, bF_11228, by omega, by omega, by omega, by omega, by omega, by omega, by omega, by omega, bF_14144, bF_14145, bF_14146, bF_14147, bF_14148, bF_14149, bF_14150, bF_14151, bF_14152, bF_14153, bF_14154, bF_14155, bF_14156, bF_14157, bF_14161, bF_14162, bF_14163, bF_14164, by omega, by omega, by omega, by omega, by omega, by omega, bF_14392, bF_14393, by omega, by omega, by omega, by omega, bF_14398, by omega, by omega, by omega, by omega, by omega, kr_14391_A, g_14169, g_14389, g_14390, hP⟩
      · skip
        refine lv_aload_n hx hb dX12_valley_88 rfl (lv_at hl 1 rfl) ?_
        refine g_v (rDt hD) hS hA (g_V (own := "HideReaderModel") (As := []) (rest := []) hx hb hml hown hts hK hP (rDt hD) (kr_X12_readLine (l := l) (D := D) (k := k) (by omega) (by omega) (by omega) (by omega) (by omega) (by omega) (by omega) h_x_bank (by omega) (by omega) (by omega) (by omega) (by omega) bF_11228 bF_14144 bF_14145 bF_14146 bF_14147 bF_14148 bF_14149 bF_14150 bF_14151 bF_14152 bF_14153 bF_14154 bF_14155 bF_14156 bF_14157 bF_14161 bF_14162 bF_14163 bF_14164 g_14169 g_14170 (by omega) g_14171 g_14172 g_14173 g_14174) ck_X12_readLine iv_X12_readLine uw_8_22 (rv_o hK hP) rfl hl.1 rfl (Nat.le_of_ble_eq_true rfl) dX12_valley_89 ⟨Nat.le_of_ble_eq_true rfl, Nat.le_of_ble_eq_true rfl⟩ ⟨Nat.le_of_ble_eq_true rfl, Nat.le_of_ble_eq_true rfl⟩) (fun H locs hQ hS => ?_)
        obtain ⟨y_14401, y_14402, y_14403, y_14404, y_14405, y_14406, j_14407, F_14408, F_14409, F_14410, F_14411, F_14412, F_14413, F_14414, F_14415, F_14416, F_14417, F_14418, F_14419, F_14420, F_14421, G_14422, G_14423, G_14424, F_14425, F_14426, F_14427, F_14428, y_14429, y_14430, y_14431, y_14432, hr_14400_0, hr_14400_1, hr_14400_2, hr_14400_3, hr_14400_4, hr_14400_5, bF_14408, bF_14409, bF_14410, bF_14411, bF_14412, bF_14413, bF_14414, bF_14415, bF_14416, bF_14417, bF_14418, bF_14419, bF_14420, bF_14421, bF_14425, bF_14426, bF_14427, bF_14428, hr_14400_24, hr_14400_25, hr_14400_26, hr_14400_27, hr_14400_28, hr_14400_29, hr_14400_30, hr_14400_31, kr_14400_E, kr_14400_Z, kr_14400_Q, kr_14400_VV, kr_14400_R, kr_14400_SS, hP⟩ := hQ
        refine lv_goto (tgt := 74) hx hb dX12_valley_92 (by decide) ?_
        exact ih_14304 _ _ _ _ (by omega) ⟨y_14401, y_14402, y_14403, y_14404, y_14405, y_14406, j_14407, F_14408, F_14409, F_14410, F_14411, F_14412, F_14413, F_14414, F_14415, F_14416, F_14417, F_14418, F_14419, F_14420, F_14421, G_14422, G_14423, G_14424, F_14425, F_14426, F_14427, F_14428, y_14429, y_14430, y_14431, y_14432, _, by omega, by omega, by omega, by omega, by omega, by omega, bF_14408, bF_14409, bF_14410, bF_14411, bF_14412, bF_14413, bF_14414, bF_14415, bF_14416, bF_14417, bF_14418, bF_14419, bF_14420, bF_14421, bF_14425, bF_14426, bF_14427, bF_14428, by omega, by omega, by omega, by omega, kr_14400_E, kr_14400_Z, kr_14400_Q, kr_14400_VV, kr_14400_R, kr_14400_SS, by omega, by omega, rfl, hP, hS, lv_sub hl [0, 1] rfl, rfl⟩
  · skip
    refine lv_aload_n hx hb dX12_valley_28 rfl (lv_at hl 1 rfl) ?_
    refine rg_o_text hx hb hts hown hK hP uw_7_24 dX12_valley_29 ?_
    refine lv_iload_n hx hb dX12_valley_32 rfl (lv_at hl 0 rfl) ?_
    refine lv_aload_n hx hb dX12_valley_33 rfl (lv_at hl 1 rfl) ?_
    refine rg_o_tape hx hb hts hown hK hP uw_7_23 dX12_valley_34 ?_
    refine lv_iload_n hx hb dX12_valley_37 rfl (lv_at hl 0 rfl) ?_
    refine rl_tape hx hb hK hP dX12_valley_38 (by omega) b_B_tape (fun z_14433 _ hz_14433 => ?_)
    refine rs_text hx hb hK hP hD hS (by decide) dX12_valley_39 (by omega) bF_11228 (by omega) (fun F_14434 H locs _ bF_14434 hP hS => ?_)
    refine lv_iinc (v := mI (z_11227 + 1)) (lv' := [(1, .int (mI (z_11227 + 1))), (0, .ref (a 0))]) hx hb dX12_valley_40 hl (k := 0) rfl (mI_ad rfl) (by decide) rfl (fun ls hl => ?_)
    refine lv_goto (tgt := 20) hx hb dX12_valley_43 (by decide) ?_
    exact ih_12832 _ _ _ _ (by omega) ⟨(z_11227 + 1), F_14434, _, by omega, bF_14434, rfl, hP, hS, lv_sub hl [0, 1] rfl, rfl⟩
end Kr
