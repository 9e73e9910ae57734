section Kr
variable {l : Launch} {D : va_G} {k : Nat → ClassId} {a : Nat → Nat} {ex : va_W} {x_taped x_size x_faultKind x_faultPlace x_at x_end x_token x_number x_bank x_rb x_codes x_within x_piled x_unitsInRule x_askBeast x_askStroke x_askAge x_askSeason x_acts x_undone x_laid x_seens x_time x_fitting : Int} {n_name : Int64} {B_tape B_text B_turns B_herds B_irons B_beasts B_units B_night B_draw B_told B_brands B_ironMarks B_herdTold B_born B_ruleFrom B_ruleTo B_code B_codeNumber B_eWhat B_eSign B_pile B_all B_burned B_was B_need B_laidRow B_long8 B_brings B_sBurning B_sStroke B_sIs B_sTold B_sUntold B_parts B_boxAll B_isBoxed : Nat → Int} {G_hName G_iName G_bName : Nat → Int64}
set_option maxHeartbeats 4000000 in
set_option maxRecDepth 100000 in
theorem kr_X12_undo (h_x_acts : 0 ≤ x_acts ∧ x_acts ≤ 40) (h_x_undone : 0 ≤ x_undone ∧ x_undone ≤ 40) (b_B_all : bA B_all) (b_B_was : bA B_was) (g_A : 0 ≤ 40 - x_acts - x_undone) : MetG l D k yX12_undo cX12_undo 1 (some .boolean) 1 [.ref (a 0)] (rW k a x_taped x_size x_faultKind x_faultPlace x_at x_end x_token x_number x_bank x_rb x_codes x_within x_piled x_unitsInRule x_askBeast x_askStroke x_askAge x_askSeason x_acts x_undone x_laid x_seens x_time x_fitting n_name B_tape B_text B_turns B_herds B_irons B_beasts B_units B_night B_draw B_told B_brands B_ironMarks B_herdTold B_born B_ruleFrom B_ruleTo B_code B_codeNumber B_eWhat B_eSign B_pile B_all B_burned B_was B_need B_laidRow B_long8 B_brings B_sBurning B_sStroke B_sIs B_sTold B_sUntold B_parts B_boxAll B_isBoxed G_hName G_iName G_bName ex) (qGi (fun r0 H => ∃ (F_all : Nat → Int) (F_was : Nat → Int) (y_acts : Int) (y_undone : Int), (0 ≤ r0 ∧ r0 ≤ 1) ∧ (bA F_all) ∧ (bA F_was) ∧ (0 ≤ y_acts ∧ y_acts ≤ 39) ∧ (0 ≤ y_undone ∧ y_undone ≤ 40) ∧ (0 ≤ -y_acts + x_acts) ∧ (0 ≤ y_undone - x_undone) ∧ (0 ≤ 40 - y_acts - y_undone) ∧ va_P D vwCl (rW k a x_taped x_size x_faultKind x_faultPlace x_at x_end x_token x_number x_bank x_rb x_codes x_within x_piled x_unitsInRule x_askBeast x_askStroke x_askAge x_askSeason y_acts y_undone x_laid x_seens x_time x_fitting n_name B_tape B_text B_turns B_herds B_irons B_beasts B_units B_night B_draw B_told B_brands B_ironMarks B_herdTold B_born B_ruleFrom B_ruleTo B_code B_codeNumber B_eWhat B_eSign B_pile F_all B_burned F_was B_need B_laidRow B_long8 B_brings B_sBurning B_sStroke B_sIs B_sTold B_sUntold B_parts B_boxAll B_isBoxed G_hName G_iName G_bName ex) H)) := by
  refine metG_of 0 ck_X12_undo (Nat.le_of_ble_eq_true rfl) rMap (fun p e s m args below meth c A hx hb hml hr hlocks hown hts hK hD hA hP hS ls hl => ?_)
  have hown : s.vm.findClass "HideReaderModel" = some m.cls := hown
  have hl : lv_has ls 1 [(0, .ref (a 0))] := hl
  refine lv_aload_n hx hb dX12_undo_0 rfl (lv_at hl 0 rfl) ?_
  refine rg_o_acts hx hb hts hown hK hP uw_7_69 dX12_undo_1 ?_
  refine sy_if_ne (tgt := 9) hx hb dX12_undo_4 (by decide) (by omega) (fun c_1 => ?_) (fun c_1 => ?_)
  · skip
    refine lv_aload_n hx hb dX12_undo_9 rfl (lv_at hl 0 rfl) ?_
    refine lv_dup hx hb dX12_undo_10 rfl ?_
    refine rg_o_acts hx hb hts hown hK hP uw_7_69 dX12_undo_11 ?_
    refine lv_iconst (v := mI 1) hx hb dX12_undo_14 rfl ?_
    refine sy_isub hx hb dX12_undo_15 (x_acts - 1) rfl ?_
    refine rp_o_acts hx hb hts hown hK hP hD hS uw_7_69 dX12_undo_16 (fun H locs hP hS => ?_)
    refine lv_aload_n hx hb dX12_undo_19 rfl (lv_at hl 0 rfl) ?_
    refine lv_dup hx hb dX12_undo_20 rfl ?_
    refine rg_o_undone hx hb hts hown hK hP uw_7_70 dX12_undo_21 ?_
    refine lv_iconst (v := mI 1) hx hb dX12_undo_24 rfl ?_
    refine sy_iadd hx hb dX12_undo_25 (x_undone + 1) rfl ?_
    refine rp_o_undone hx hb hts hown hK hP hD hS uw_7_70 dX12_undo_26 (fun H locs hP hS => ?_)
    refine lv_aload_n hx hb dX12_undo_29 rfl (lv_at hl 0 rfl) ?_
    refine g_v (rDt hD) hS hA (g_V (own := "HideReaderModel") (As := []) (rest := []) hx hb hml hown hts hK hP (rDt hD) (kr_X12_swapAll (l := l) (D := D) (k := k) (by omega) b_B_all b_B_was) ck_X12_swapAll iv_X12_swapAll uw_9_22 (rv_o hK hP) rfl hl.1 rfl (Nat.le_of_ble_eq_true rfl) dX12_undo_30 ⟨Nat.le_of_ble_eq_true rfl, Nat.le_of_ble_eq_true rfl⟩ ⟨Nat.le_of_ble_eq_true rfl, Nat.le_of_ble_eq_true rfl⟩) (fun H locs hQ hS => ?_)
    obtain ⟨F_3, F_4, bF_3, bF_4, hP⟩ := hQ
    refine lv_iconst (v := mI 1) hx hb dX12_undo_33 rfl ?_
    exact r_z hx hb hr hlocks dX12_undo_34 hS (by decide) ⟨F_3, F_4, (x_acts - 1), (x_undone + 1), by omega, bF_3, bF_4, by omega, by omega, by omega, by omega, (by omega), hP⟩
  · skip
    refine lv_iconst (v := mI 0) hx hb dX12_undo_7 rfl ?_
    exact r_z hx hb hr hlocks dX12_undo_8 hS (by decide) ⟨B_all, B_was, x_acts, x_undone, by omega, b_B_all, b_B_was, by omega, by omega, by omega, by omega, g_A, hP⟩
set_option maxHeartbeats 4000000 in
set_option maxRecDepth 100000 in
theorem kr_X12_redo (h_x_acts : 0 ≤ x_acts ∧ x_acts ≤ 40) (h_x_undone : 0 ≤ x_undone ∧ x_undone ≤ 40) (b_B_all : bA B_all) (b_B_was : bA B_was) (g_A : 0 ≤ 40 - x_acts - x_undone) : MetG l D k yX12_redo cX12_redo 1 (some .boolean) 1 [.ref (a 0)] (rW k a x_taped x_size x_faultKind x_faultPlace x_at x_end x_token x_number x_bank x_rb x_codes x_within x_piled x_unitsInRule x_askBeast x_askStroke x_askAge x_askSeason x_acts x_undone x_laid x_seens x_time x_fitting n_name B_tape B_text B_turns B_herds B_irons B_beasts B_units B_night B_draw B_told B_brands B_ironMarks B_herdTold B_born B_ruleFrom B_ruleTo B_code B_codeNumber B_eWhat B_eSign B_pile B_all B_burned B_was B_need B_laidRow B_long8 B_brings B_sBurning B_sStroke B_sIs B_sTold B_sUntold B_parts B_boxAll B_isBoxed G_hName G_iName G_bName ex) (qGi (fun r0 H => ∃ (F_all : Nat → Int) (F_was : Nat → Int) (y_acts : Int) (y_undone : Int), (0 ≤ r0 ∧ r0 ≤ 1) ∧ (bA F_all) ∧ (bA F_was) ∧ (0 ≤ y_acts ∧ y_acts ≤ 40) ∧ (0 ≤ y_undone ∧ y_undone ≤ 39) ∧ (0 ≤ y_acts - x_acts) ∧ (0 ≤ -y_undone + x_undone) ∧ (0 ≤ 40 - y_acts - y_undone) ∧ va_P D vwCl (rW k a x_taped x_size x_faultKind x_faultPlace x_at x_end x_token x_number x_bank x_rb x_codes x_within x_piled x_unitsInRule x_askBeast x_askStroke x_askAge x_askSeason y_acts y_undone x_laid x_seens x_time x_fitting n_name B_tape B_text B_turns B_herds B_irons B_beasts B_units B_night B_draw B_told B_brands B_ironMarks B_herdTold B_born B_ruleFrom B_ruleTo B_code B_codeNumber B_eWhat B_eSign B_pile F_all B_burned F_was B_need B_laidRow B_long8 B_brings B_sBurning B_sStroke B_sIs B_sTold B_sUntold B_parts B_boxAll B_isBoxed G_hName G_iName G_bName ex) H)) := by
  refine metG_of 0 ck_X12_redo (Nat.le_of_ble_eq_true rfl) rMap (fun p e s m args below meth c A hx hb hml hr hlocks hown hts hK hD hA hP hS ls hl => ?_)
  have hown : s.vm.findClass "HideReaderModel" = some m.cls := hown
  have hl : lv_has ls 1 [(0, .ref (a 0))] := hl
  refine lv_aload_n hx hb dX12_redo_0 rfl (lv_at hl 0 rfl) ?_
  refine rg_o_undone hx hb hts hown hK hP uw_7_70 dX12_redo_1 ?_
  refine sy_if_ne (tgt := 9) hx hb dX12_redo_4 (by decide) (by omega) (fun c_1 => ?_) (fun c_1 => ?_)
  · skip
    refine lv_aload_n hx hb dX12_redo_9 rfl (lv_at hl 0 rfl) ?_
    refine g_v (rDt hD) hS hA (g_V (own := "HideReaderModel") (As := []) (rest := []) hx hb hml hown hts hK hP (rDt hD) (kr_X12_swapAll (l := l) (D := D) (k := k) h_x_acts b_B_all b_B_was) ck_X12_swapAll iv_X12_swapAll uw_9_22 (rv_o hK hP) rfl hl.1 rfl (Nat.le_of_ble_eq_true rfl) dX12_redo_10 ⟨Nat.le_of_ble_eq_true rfl, Nat.le_of_ble_eq_true rfl⟩ ⟨Nat.le_of_ble_eq_true rfl, Nat.le_of_ble_eq_true rfl⟩) (fun H locs hQ hS => ?_)
    obtain ⟨F_3, F_4, bF_3, bF_4, hP⟩ := hQ
    refine lv_aload_n hx hb dX12_redo_13 rfl (lv_at hl 0 rfl) ?_
    refine lv_dup hx hb dX12_redo_14 rfl ?_
    refine rg_o_acts hx hb hts hown hK hP uw_7_69 dX12_redo_15 ?_
    refine lv_iconst (v := mI 1) hx hb dX12_redo_18 rfl ?_
    refine sy_iadd hx hb dX12_redo_19 (x_acts + 1) rfl ?_
    refine rp_o_acts hx hb hts hown hK hP hD hS uw_7_69 dX12_redo_20 (fun H locs hP hS => ?_)
    refine lv_aload_n hx hb dX12_redo_23 rfl (lv_at hl 0 rfl) ?_
    refine lv_dup hx hb dX12_redo_24 rfl ?_
    refine rg_o_undone hx hb hts hown hK hP uw_7_70 dX12_redo_25 ?_
    refine lv_iconst (v := mI 1) hx hb dX12_redo_28 rfl ?_
    refine sy_isub hx hb dX12_redo_29 (x_undone - 1) rfl ?_
    refine rp_o_undone hx hb hts hown hK hP hD hS uw_7_70 dX12_redo_30 (fun H locs hP hS => ?_)
    refine lv_iconst (v := mI 1) hx hb dX12_redo_33 rfl ?_
    exact r_z hx hb hr hlocks dX12_redo_34 hS (by decide) ⟨F_3, F_4, (x_acts + 1), (x_undone - 1), by omega, bF_3, bF_4, by omega, by omega, by omega, by omega, (by omega), hP⟩
  · skip
    refine lv_iconst (v := mI 0) hx hb dX12_redo_7 rfl ?_
    exact r_z hx hb hr hlocks dX12_redo_8 hS (by decide) ⟨B_all, B_was, x_acts, x_undone, by omega, b_B_all, b_B_was, by omega, by omega, by omega, by omega, g_A, hP⟩
set_option maxHeartbeats 4000000 in
set_option maxRecDepth 100000 in
theorem kr_X12_lies {p0 : Int} (hp0 : -2147483648 ≤ p0 ∧ p0 ≤ 2147483647) (h_x_laid : 0 ≤ x_laid ∧ x_laid ≤ 8) (b_B_laidRow : bd (0) 47 B_laidRow) : MetG l D k yX12_lies cX12_lies 2 (some .int) 1 [.ref (a 0), .int (mI p0)] (rW k a x_taped x_size x_faultKind x_faultPlace x_at x_end x_token x_number x_bank x_rb x_codes x_within x_piled x_unitsInRule x_askBeast x_askStroke x_askAge x_askSeason x_acts x_undone x_laid x_seens x_time x_fitting n_name B_tape B_text B_turns B_herds B_irons B_beasts B_units B_night B_draw B_told B_brands B_ironMarks B_herdTold B_born B_ruleFrom B_ruleTo B_code B_codeNumber B_eWhat B_eSign B_pile B_all B_burned B_was B_need B_laidRow B_long8 B_brings B_sBurning B_sStroke B_sIs B_sTold B_sUntold B_parts B_boxAll B_isBoxed G_hName G_iName G_bName ex) (qGi (fun r0 H => (-1 ≤ r0 ∧ r0 ≤ 47) ∧ va_P D vwCl (rW k a x_taped x_size x_faultKind x_faultPlace x_at x_end x_token x_number x_bank x_rb x_codes x_within x_piled x_unitsInRule x_askBeast x_askStroke x_askAge x_askSeason x_acts x_undone x_laid x_seens x_time x_fitting n_name B_tape B_text B_turns B_herds B_irons B_beasts B_units B_night B_draw B_told B_brands B_ironMarks B_herdTold B_born B_ruleFrom B_ruleTo B_code B_codeNumber B_eWhat B_eSign B_pile B_all B_burned B_was B_need B_laidRow B_long8 B_brings B_sBurning B_sStroke B_sIs B_sTold B_sUntold B_parts B_boxAll B_isBoxed G_hName G_iName G_bName ex) H)) := by
  refine metG_of 1 ck_X12_lies (Nat.le_of_ble_eq_true rfl) rMap (fun p e s m args below meth c A hx hb hml hr hlocks hown hts hK hD hA hP hS ls hl => ?_)
  have hown : s.vm.findClass "HideReaderModel" = some m.cls := hown
  have hl : lv_has ls 2 [(0, .ref (a 0)), (1, .int (mI p0))] := hl
  refine lv_iload_n hx hb dX12_lies_0 rfl (lv_at hl 1 rfl) ?_
  refine lv_iconst (v := mI 0) hx hb dX12_lies_1 rfl ?_
  refine lv_aload_n hx hb dX12_lies_2 rfl (lv_at hl 0 rfl) ?_
  refine rg_o_laid hx hb hts hown hK hP uw_7_73 dX12_lies_3 ?_
  refine lv_iconst (v := mI 1) hx hb dX12_lies_6 rfl ?_
  refine sy_isub hx hb dX12_lies_7 (x_laid - 1) rfl ?_
  refine g_i (rDt hD) hS hA (g_S (own := "HideReaderModel") (As := [.int (mI p0), .int (mI 0), .int (mI (x_laid - 1))]) (rest := []) hx hb hml hown hts hK hP (rDt hD) (kr_X12_isIn (l := l) (D := D) (k := k) (by omega) (by decide) (by omega)) ck_X12_isIn uw_8_131 uw_8_130 rfl hl.1 rfl (Nat.le_of_ble_eq_true rfl) dX12_lies_8 ⟨Nat.le_of_ble_eq_true rfl, Nat.le_of_ble_eq_true rfl⟩ ⟨Nat.le_of_ble_eq_true rfl, Nat.le_of_ble_eq_true rfl⟩) (fun r_1 H locs hQ hS => ?_)
  obtain ⟨hq_r_1, hP⟩ := hQ
  rcases hq_r_1 with ⟨rfl, c_2_0⟩ | ⟨rfl, c_3_0, c_3_1⟩
  · skip
    refine sy_if_eq (tgt := 23) hx hb dX12_lies_11 (by decide) (by decide) (fun c_4 => ?_) (fun c9 => absurd c9 (by decide))
    refine lv_iconst (v := mI (-1)) hx hb dX12_lies_23 rfl ?_
    exact r_i hx hb hr hlocks dX12_lies_24 hS ⟨by omega, hP⟩
  · skip
    refine sy_if_eq (tgt := 23) hx hb dX12_lies_11 (by decide) (by decide) (fun c9 => absurd c9 (by decide)) (fun c_5 => ?_)
    refine lv_aload_n hx hb dX12_lies_14 rfl (lv_at hl 0 rfl) ?_
    refine rg_o_laidRow hx hb hts hown hK hP uw_7_72 dX12_lies_15 ?_
    refine lv_iload_n hx hb dX12_lies_18 rfl (lv_at hl 1 rfl) ?_
    refine rl_laidRow hx hb hK hP dX12_lies_19 (by omega) b_B_laidRow (fun z_6 _ hz_6 => ?_)
    refine lv_goto (tgt := 24) hx hb dX12_lies_20 (by decide) ?_
    exact r_i hx hb hr hlocks dX12_lies_24 hS ⟨by omega, hP⟩
set_option maxHeartbeats 4000000 in
set_option maxRecDepth 100000 in
theorem kr_X12_layNeed {p0 : Int} (hp0 : 0 ≤ p0 ∧ p0 ≤ 4095) (h_x_bank : 0 ≤ x_bank ∧ x_bank ≤ 1) (b_B_turns : bd (0) 4 B_turns) (b_B_irons : bd (0) 6 B_irons) (b_B_told : bd (0) 31 B_told) (b_B_burned : bd (0) 4095 B_burned) (b_B_need : bd (0) 100 B_need) (g_R : 1 ≤ B_turns x_bank.toNat ∧ ¬ B_turns x_bank.toNat = 3) : MetG l D k yX12_layNeed cX12_layNeed 6 none 4 [.ref (a 0), .int (mI p0)] (rW k a x_taped x_size x_faultKind x_faultPlace x_at x_end x_token x_number x_bank x_rb x_codes x_within x_piled x_unitsInRule x_askBeast x_askStroke x_askAge x_askSeason x_acts x_undone x_laid x_seens x_time x_fitting n_name B_tape B_text B_turns B_herds B_irons B_beasts B_units B_night B_draw B_told B_brands B_ironMarks B_herdTold B_born B_ruleFrom B_ruleTo B_code B_codeNumber B_eWhat B_eSign B_pile B_all B_burned B_was B_need B_laidRow B_long8 B_brings B_sBurning B_sStroke B_sIs B_sTold B_sUntold B_parts B_boxAll B_isBoxed G_hName G_iName G_bName ex) (qGv (fun H => ∃ (F_need : Nat → Int), (bd (0) 100 F_need) ∧ (nA F_need B_burned 0) ∧ va_P D vwCl (rW k a x_taped x_size x_faultKind x_faultPlace x_at x_end x_token x_number x_bank x_rb x_codes x_within x_piled x_unitsInRule x_askBeast x_askStroke x_askAge x_askSeason x_acts x_undone x_laid x_seens x_time x_fitting n_name B_tape B_text B_turns B_herds B_irons B_beasts B_units B_night B_draw B_told B_brands B_ironMarks B_herdTold B_born B_ruleFrom B_ruleTo B_code B_codeNumber B_eWhat B_eSign B_pile B_all B_burned B_was F_need B_laidRow B_long8 B_brings B_sBurning B_sStroke B_sIs B_sTold B_sUntold B_parts B_boxAll B_isBoxed G_hName G_iName G_bName ex) H)) := by
  refine metG_of 1 ck_X12_layNeed (Nat.le_of_ble_eq_true rfl) rMap (fun p e s m args below meth c A hx hb hml hr hlocks hown hts hK hD hA hP hS ls hl => ?_)
  have hown : s.vm.findClass "HideReaderModel" = some m.cls := hown
  have hl : lv_has ls 6 [(0, .ref (a 0)), (1, .int (mI p0))] := hl
  refine lv_aload_n hx hb dX12_layNeed_0 rfl (lv_at hl 0 rfl) ?_
  refine lv_iload_n hx hb dX12_layNeed_1 rfl (lv_at hl 1 rfl) ?_
  refine g_i (rDt hD) hS hA (g_V (own := "HideReaderModel") (As := [.int (mI p0)]) (rest := []) hx hb hml hown hts hK hP (rDt hD) (kr_X12_normOf (l := l) (D := D) (k := k) (by omega) h_x_bank b_B_turns b_B_told g_R) ck_X12_normOf iv_X12_normOf uw_8_194 (rv_o hK hP) rfl hl.1 rfl (Nat.le_of_ble_eq_true rfl) dX12_layNeed_2 ⟨Nat.le_of_ble_eq_true rfl, Nat.le_of_ble_eq_true rfl⟩ ⟨Nat.le_of_ble_eq_true rfl, Nat.le_of_ble_eq_true rfl⟩) (fun r_1 H locs hQ hS => ?_)
  obtain ⟨hr_1_0, hr_1_1, hP⟩ := hQ
  refine lv_istore_n (lv' := [(2, .int (mI r_1)), (0, .ref (a 0)), (1, .int (mI p0))]) hx hb dX12_layNeed_5 rfl hl (by decide) rfl (fun ls hl => ?_)
  refine lv_sipush (v := mI 4095) hx hb dX12_layNeed_6 (by decide) ?_
  refine lv_istore_n (lv' := [(3, .int (mI 4095)), (2, .int (mI r_1)), (0, .ref (a 0)), (1, .int (mI p0))]) hx hb dX12_layNeed_9 rfl hl (by decide) rfl (fun ls hl => ?_)
  refine sy_loop (I := fun n H locs g => ∃ (z_1148 : Int) (F_1149 : Nat → Int) (ls : Array Slot), (-1 ≤ z_1148 ∧ z_1148 ≤ 4095) ∧ (bd (0) 100 F_1149) ∧ (nA F_1149 B_burned (z_1148 + 1)) ∧ (z_1148 - (-1)).toNat = n ∧ va_P D vwCl (rW k a x_taped x_size x_faultKind x_faultPlace x_at x_end x_token x_number x_bank x_rb x_codes x_within x_piled x_unitsInRule x_askBeast x_askStroke x_askAge x_askSeason x_acts x_undone x_laid x_seens x_time x_fitting n_name B_tape B_text B_turns B_herds B_irons B_beasts B_units B_night B_draw B_told B_brands B_ironMarks B_herdTold B_born B_ruleFrom B_ruleTo B_code B_codeNumber B_eWhat B_eSign B_pile B_all B_burned B_was F_1149 B_laidRow B_long8 B_brings B_sBurning B_sStroke B_sIs B_sTold B_sUntold B_parts B_boxAll B_isBoxed G_hName G_iName G_bName ex) H ∧ va_S A s.heap H locs ∧ lv_has ls 6 [(3, .int (mI z_1148)), (2, .int (mI r_1)), (0, .ref (a 0)), (1, .int (mI p0))] ∧ g = F0 m 10 ls []) ?_ _ ⟨4095, B_need, _, by omega, b_B_need, (nA_w (nA_0 (need := B_need) (burned := B_burned) (m := 4096) (by decide)) (by omega)), rfl, hP, hS, lv_sub hl [0, 1, 2, 3] rfl, rfl⟩
  intro n_1312 H locs g hI ih_1313
  obtain ⟨z_1148, F_1149, ls, h10_0, bF_1149, h10_2, mn_1312, hP, hS, hl, rfl⟩ := hI
  refine lv_iload_n hx hb dX12_layNeed_10 rfl (lv_at hl 0 rfl) ?_
  refine sy_if_lt (tgt := 143) hx hb dX12_layNeed_11 (by decide) (by omega) (fun c_1314 => ?_) (fun c_1314 => ?_)
  · skip
    exact r_v hx hb hr hlocks dX12_layNeed_143 hS ⟨F_1149, bF_1149, (nA_w h10_2 (by omega)), hP⟩
  · skip
    refine lv_aload_n hx hb dX12_layNeed_14 rfl (lv_at hl 2 rfl) ?_
    refine rg_o_need hx hb hts hown hK hP uw_7_71 dX12_layNeed_15 ?_
    refine lv_iload_n hx hb dX12_layNeed_18 rfl (lv_at hl 0 rfl) ?_
    refine lv_bipush (v := mI 100) hx hb dX12_layNeed_19 (by decide) ?_
    refine rs_need hx hb hK hP hD hS dX12_layNeed_21 (by omega) bF_1149 (by omega) (fun F_1315 H locs eF_1315 bF_1315 hP hS => ?_)
    have h_1316 := nA_c h10_2 (by omega) eF_1315 (by omega)
    refine lv_iload_n hx hb dX12_layNeed_22 rfl (lv_at hl 0 rfl) ?_
    refine g_i (rDt hD) hS hA (g_S (own := "HideReaderModel") (As := [.int (mI z_1148)]) (rest := []) hx hb hml hown hts hK hP (rDt hD) (kr_X12_bitsOf (l := l) (D := D) (k := k) (by omega)) ck_X12_bitsOf uw_8_166 uw_8_165 rfl hl.1 rfl (Nat.le_of_ble_eq_true rfl) dX12_layNeed_23 ⟨Nat.le_of_ble_eq_true rfl, Nat.le_of_ble_eq_true rfl⟩ ⟨Nat.le_of_ble_eq_true rfl, Nat.le_of_ble_eq_true rfl⟩) (fun r_1317 H locs hQ hS => ?_)
    obtain ⟨hr_1317_0, hP⟩ := hQ
    refine lv_iload_n hx hb dX12_layNeed_26 rfl (lv_at hl 3 rfl) ?_
    refine g_i (rDt hD) hS hA (g_S (own := "HideReaderModel") (As := [.int (mI p0)]) (rest := [.int (mI r_1317)]) hx hb hml hown hts hK hP (rDt hD) (kr_X12_bitsOf (l := l) (D := D) (k := k) (by omega)) ck_X12_bitsOf uw_8_166 uw_8_165 rfl hl.1 rfl (Nat.le_of_ble_eq_true rfl) dX12_layNeed_27 ⟨Nat.le_of_ble_eq_true rfl, Nat.le_of_ble_eq_true rfl⟩ ⟨Nat.le_of_ble_eq_true rfl, Nat.le_of_ble_eq_true rfl⟩) (fun r_1318 H locs hQ hS => ?_)
    obtain ⟨hr_1318_0, hP⟩ := hQ
    refine sy_join (I := fun H locs g => ∃ (F_1324 : Nat → Int) (ls : Array Slot), (bd (0) 100 F_1324) ∧ (nA F_1324 B_burned z_1148) ∧ va_P D vwCl (rW k a x_taped x_size x_faultKind x_faultPlace x_at x_end x_token x_number x_bank x_rb x_codes x_within x_piled x_unitsInRule x_askBeast x_askStroke x_askAge x_askSeason x_acts x_undone x_laid x_seens x_time x_fitting n_name B_tape B_text B_turns B_herds B_irons B_beasts B_units B_night B_draw B_told B_brands B_ironMarks B_herdTold B_born B_ruleFrom B_ruleTo B_code B_codeNumber B_eWhat B_eSign B_pile B_all B_burned B_was F_1324 B_laidRow B_long8 B_brings B_sBurning B_sStroke B_sIs B_sTold B_sUntold B_parts B_boxAll B_isBoxed G_hName G_iName G_bName ex) H ∧ va_S A s.heap H locs ∧ lv_has ls 6 [(3, .int (mI z_1148)), (2, .int (mI r_1)), (0, .ref (a 0)), (1, .int (mI p0))] ∧ g = F0 m 49 ls []) ?_ ?_
    · skip
      intro H locs g hI
      obtain ⟨F_1324, ls, bF_1324, h49_1, hP, hS, hl, rfl⟩ := hI
      refine lv_iload_n hx hb dX12_layNeed_49 rfl (lv_at hl 0 rfl) ?_
      refine g_i (rDt hD) hS hA (g_S (own := "HideReaderModel") (As := [.int (mI z_1148)]) (rest := []) hx hb hml hown hts hK hP (rDt hD) (kr_X12_bitsOf (l := l) (D := D) (k := k) (by omega)) ck_X12_bitsOf uw_8_166 uw_8_165 rfl hl.1 rfl (Nat.le_of_ble_eq_true rfl) dX12_layNeed_50 ⟨Nat.le_of_ble_eq_true rfl, Nat.le_of_ble_eq_true rfl⟩ ⟨Nat.le_of_ble_eq_true rfl, Nat.le_of_ble_eq_true rfl⟩) (fun r_1326 H locs hQ hS => ?_)
      obtain ⟨hr_1326_0, hP⟩ := hQ
      refine lv_iload_n hx hb dX12_layNeed_53 rfl (lv_at hl 3 rfl) ?_
      refine g_i (rDt hD) hS hA (g_S (own := "HideReaderModel") (As := [.int (mI p0)]) (rest := [.int (mI r_1326)]) hx hb hml hown hts hK hP (rDt hD) (kr_X12_bitsOf (l := l) (D := D) (k := k) (by omega)) ck_X12_bitsOf uw_8_166 uw_8_165 rfl hl.1 rfl (Nat.le_of_ble_eq_true rfl) dX12_layNeed_54 ⟨Nat.le_of_ble_eq_true rfl, Nat.le_of_ble_eq_true rfl⟩ ⟨Nat.le_of_ble_eq_true rfl, Nat.le_of_ble_eq_true rfl⟩) (fun r_1327 H locs hQ hS => ?_)
      obtain ⟨hr_1327_0, hP⟩ := hQ
      refine sy_icmp_lt (tgt := 63) hx hb dX12_layNeed_57 (by decide) (by omega) (by omega) (fun c_1328 => ?_) (fun c_1328 => ?_)
      · skip
        refine lv_iconst (v := mI 0) hx hb dX12_layNeed_63 rfl ?_
        refine lv_istore (lv' := [(4, .int (mI 0)), (3, .int (mI z_1148)), (2, .int (mI r_1)), (0, .ref (a 0)), (1, .int (mI p0))]) hx hb dX12_layNeed_64 hl (by decide) rfl (fun ls hl => ?_)
        refine sy_loop (I := fun n H locs g => ∃ (z_1439 : Int) (F_1440 : Nat → Int) (ls : Array Slot), (0 ≤ z_1439 ∧ z_1439 ≤ 48) ∧ (bd (0) 100 F_1440) ∧ (nA F_1440 B_burned z_1148) ∧ (48 - z_1439).toNat = n ∧ va_P D vwCl (rW k a x_taped x_size x_faultKind x_faultPlace x_at x_end x_token x_number x_bank x_rb x_codes x_within x_piled x_unitsInRule x_askBeast x_askStroke x_askAge x_askSeason x_acts x_undone x_laid x_seens x_time x_fitting n_name B_tape B_text B_turns B_herds B_irons B_beasts B_units B_night B_draw B_told B_brands B_ironMarks B_herdTold B_born B_ruleFrom B_ruleTo B_code B_codeNumber B_eWhat B_eSign B_pile B_all B_burned B_was F_1440 B_laidRow B_long8 B_brings B_sBurning B_sStroke B_sIs B_sTold B_sUntold B_parts B_boxAll B_isBoxed G_hName G_iName G_bName ex) H ∧ va_S A s.heap H locs ∧ lv_has ls 6 [(4, .int (mI z_1439)), (3, .int (mI z_1148)), (2, .int (mI r_1)), (0, .ref (a 0)), (1, .int (mI p0))] ∧ g = F0 m 66 ls []) ?_ _ ⟨0, F_1324, _, by omega, bF_1324, (nA_w h49_1 (by omega)), rfl, hP, hS, lv_sub hl [0, 1, 2, 3, 4] rfl, rfl⟩
        intro n_1455 H locs g hI ih_1456
        obtain ⟨z_1439, F_1440, ls, h66_0, bF_1440, h66_2, mn_1455, hP, hS, hl, rfl⟩ := hI
        refine lv_iload hx hb dX12_layNeed_66 (lv_at hl 0 rfl) ?_
        refine lv_aload_n hx hb dX12_layNeed_68 rfl (lv_at hl 3 rfl) ?_
        refine g_i (rDt hD) hS hA (g_V (own := "HideReaderModel") (As := []) (rest := [.int (mI z_1439)]) hx hb hml hown hts hK hP (rDt hD) (kr_X12_tools (l := l) (D := D) (k := k) h_x_bank b_B_irons) ck_X12_tools iv_X12_tools uw_6_235 (rv_o hK hP) rfl hl.1 rfl (Nat.le_of_ble_eq_true rfl) dX12_layNeed_69 ⟨Nat.le_of_ble_eq_true rfl, Nat.le_of_ble_eq_true rfl⟩ ⟨Nat.le_of_ble_eq_true rfl, Nat.le_of_ble_eq_true rfl⟩) (fun r_1457 H locs hQ hS => ?_)
        obtain ⟨hr_1457_0, hr_1457_1, hP⟩ := hQ
        refine lv_aload_n hx hb dX12_layNeed_72 rfl (lv_at hl 3 rfl) ?_
        refine g_i (rDt hD) hS hA (g_V (own := "HideReaderModel") (As := []) (rest := [.int (mI r_1457), .int (mI z_1439)]) hx hb hml hown hts hK hP (rDt hD) (kr_X12_placements (l := l) (D := D) (k := k) h_x_bank b_B_turns b_B_told g_R) ck_X12_placements iv_X12_placements uw_6_239 (rv_o hK hP) rfl hl.1 rfl (Nat.le_of_ble_eq_true rfl) dX12_layNeed_73 ⟨Nat.le_of_ble_eq_true rfl, Nat.le_of_ble_eq_true rfl⟩ ⟨Nat.le_of_ble_eq_true rfl, Nat.le_of_ble_eq_true rfl⟩) (fun r_1458 H locs hQ hS => ?_)
        obtain ⟨hr_1458_0, hr_1458_1, hP⟩ := hQ
        refine sy_imulB (A := 6) (B := 8) hx hb dX12_layNeed_76 48 (by decide) (by omega) (by omega) (fun z_1459 ez_1459 hz_1459 => ?_)
        refine sy_icmp_ge (tgt := 137) hx hb dX12_layNeed_77 (by decide) (by omega) (by omega) (fun c_1460 => ?_) (fun c_1460 => ?_)
        · skip
          refine lv_iinc (v := mI (z_1148 - 1)) (lv' := [(3, .int (mI (z_1148 - 1))), (4, .int (mI z_1439)), (2, .int (mI r_1)), (0, .ref (a 0)), (1, .int (mI p0))]) hx hb dX12_layNeed_137 hl (k := 1) rfl (mI_ad (by omega)) (by decide) rfl (fun ls hl => ?_)
          refine lv_goto (tgt := 10) hx hb dX12_layNeed_140 (by decide) ?_
          exact ih_1313 _ _ _ _ (by omega) ⟨(z_1148 - 1), F_1440, _, by omega, bF_1440, (nA_w h66_2 (by omega)), rfl, hP, hS, lv_sub hl [0, 2, 3, 4] rfl, rfl⟩
        · skip
          refine lv_aload_n hx hb dX12_layNeed_80 rfl (lv_at hl 3 rfl) ?_
          refine rg_o_need hx hb hts hown hK hP uw_7_71 dX12_layNeed_81 ?_
          refine lv_iload_n hx hb dX12_layNeed_84 rfl (lv_at hl 1 rfl) ?_
          refine lv_aload_n hx hb dX12_layNeed_85 rfl (lv_at hl 3 rfl) ?_
          refine rg_o_burned hx hb hts hown hK hP uw_7_67 dX12_layNeed_86 ?_
          refine lv_iload hx hb dX12_layNeed_89 (lv_at hl 0 rfl) ?_
          refine rl_burned hx hb hK hP dX12_layNeed_91 (by omega) b_B_burned (fun z_1461 ez_1461 hz_1461 => ?_)
          refine sy_iorE hx hb dX12_layNeed_92 12 (by decide) 4096 (by decide) (by omega) (by omega) (fun z_1462 ez_1462 hz_1462 => ?_)
          refine rl_need hx hb hK hP dX12_layNeed_93 (by omega) bF_1440 (fun z_1463 ez_1463 hz_1463 => ?_)
          refine lv_iconst (v := mI 1) hx hb dX12_layNeed_94 rfl ?_
          refine sy_iadd hx hb dX12_layNeed_95 (z_1463 + 1) rfl ?_
          refine lv_istore (lv' := [(5, .int (mI (z_1463 + 1))), (4, .int (mI z_1439)), (3, .int (mI z_1148)), (2, .int (mI r_1)), (0, .ref (a 0)), (1, .int (mI p0))]) hx hb dX12_layNeed_96 hl (by decide) rfl (fun ls hl => ?_)
          refine lv_aload_n hx hb dX12_layNeed_98 rfl (lv_at hl 4 rfl) ?_
          refine rg_o_burned hx hb hts hown hK hP uw_7_67 dX12_layNeed_99 ?_
          refine lv_iload hx hb dX12_layNeed_102 (lv_at hl 1 rfl) ?_
          refine rl_burned hx hb hK hP dX12_layNeed_104 (by omega) b_B_burned (fun z_1464 ez_1464 hz_1464 => ?_)
          refine lv_iload_n hx hb dX12_layNeed_105 rfl (lv_at hl 2 rfl) ?_
          refine sy_andn hx hb dX12_layNeed_106 dX12_layNeed_107 dX12_layNeed_108 (fun z_1465 ez_1465 hz_1465 => ?_)
          refine sy_if_eq (tgt := 131) hx hb dX12_layNeed_109 (by decide) (by omega) (fun c_1466 => ?_) (fun c_1466 => ?_)
          · skip
            refine lv_iinc (v := mI (z_1439 + 1)) (lv' := [(4, .int (mI (z_1439 + 1))), (5, .int (mI (z_1463 + 1))), (3, .int (mI z_1148)), (2, .int (mI r_1)), (0, .ref (a 0)), (1, .int (mI p0))]) hx hb dX12_layNeed_131 hl (k := 1) rfl (mI_ad rfl) (by decide) rfl (fun ls hl => ?_)
            refine lv_goto (tgt := 66) hx hb dX12_layNeed_134 (by decide) ?_
            exact ih_1456 _ _ _ _ (by omega) ⟨(z_1439 + 1), F_1440, _, by omega, bF_1440, (nA_w h66_2 (by omega)), rfl, hP, hS, lv_sub hl [0, 2, 3, 4, 5] rfl, rfl⟩
          · skip
            refine lv_iload hx hb dX12_layNeed_112 (lv_at hl 0 rfl) ?_
            refine lv_aload_n hx hb dX12_layNeed_114 rfl (lv_at hl 4 rfl) ?_
            refine rg_o_need hx hb hts hown hK hP uw_7_71 dX12_layNeed_115 ?_
            refine lv_iload_n hx hb dX12_layNeed_118 rfl (lv_at hl 2 rfl) ?_
            refine rl_need hx hb hK hP dX12_layNeed_119 (by omega) bF_1440 (fun z_1467 ez_1467 hz_1467 => ?_)
            refine sy_icmp_ge (tgt := 131) hx hb dX12_layNeed_120 (by decide) (by omega) (by omega) (fun c_1468 => ?_) (fun c_1468 => ?_)
            · skip
              refine lv_iinc (v := mI (z_1439 + 1)) (lv' := [(4, .int (mI (z_1439 + 1))), (5, .int (mI (z_1463 + 1))), (3, .int (mI z_1148)), (2, .int (mI r_1)), (0, .ref (a 0)), (1, .int (mI p0))]) hx hb dX12_layNeed_131 hl (k := 1) rfl (mI_ad rfl) (by decide) rfl (fun ls hl => ?_)
              refine lv_goto (tgt := 66) hx hb dX12_layNeed_134 (by decide) ?_
              exact ih_1456 _ _ _ _ (by omega) ⟨(z_1439 + 1), F_1440, _, by omega, bF_1440, (nA_w h66_2 (by omega)), rfl, hP, hS, lv_sub hl [0, 2, 3, 4, 5] rfl, rfl⟩
            · skip
              refine lv_aload_n hx hb dX12_layNeed_123 rfl (lv_at hl 4 rfl) ?_
              refine rg_o_need hx hb hts hown hK hP uw_7_71 dX12_layNeed_124 ?_
              refine lv_iload_n hx hb dX12_layNeed_127 rfl (lv_at hl 2 rfl) ?_
              refine lv_iload hx hb dX12_layNeed_128 (lv_at hl 0 rfl) ?_
              refine rs_need hx hb hK hP hD hS dX12_layNeed_130 (by omega) bF_1440 (by omega) (fun F_1469 H locs eF_1469 bF_1469 hP hS => ?_)
              have h_1470 := nA_s h66_2 (by omega) eF_1469 (by omega) ez_1461 (by omega) ez_1462 (by omega) ez_1463 ez_1464 ez_1465 (by omega) (by omega)
              refine lv_iinc (v := mI (z_1439 + 1)) (lv' := [(4, .int (mI (z_1439 + 1))), (5, .int (mI (z_1463 + 1))), (3, .int (mI z_1148)), (2, .int (mI r_1)), (0, .ref (a 0)), (1, .int (mI p0))]) hx hb dX12_layNeed_131 hl (k := 1) rfl (mI_ad rfl) (by decide) rfl (fun ls hl => ?_)
              refine lv_goto (tgt := 66) hx hb dX12_layNeed_134 (by decide) ?_
              exact ih_1456 _ _ _ _ (by omega) ⟨(z_1439 + 1), F_1469, _, by omega, bF_1469, (nA_w h_1470 (by omega)), rfl, hP, hS, lv_sub hl [0, 2, 3, 4, 5] rfl, rfl⟩
      · skip
        refine lv_goto (tgt := 137) hx hb dX12_layNeed_60 (by decide) ?_
        refine lv_iinc (v := mI (z_1148 - 1)) (lv' := [(3, .int (mI (z_1148 - 1))), (2, .int (mI r_1)), (0, .ref (a 0)), (1, .int (mI p0))]) hx hb dX12_layNeed_137 hl (k := 0) rfl (mI_ad (by omega)) (by decide) rfl (fun ls hl => ?_)
        refine lv_goto (tgt := 10) hx hb dX12_layNeed_140 (by decide) ?_
        exact ih_1313 _ _ _ _ (by omega) ⟨(z_1148 - 1), F_1324, _, by omega, bF_1324, (nA_w h49_1 (by omega)), rfl, hP, hS, lv_sub hl [0, 1, 2, 3] rfl, rfl⟩
    · skip
      intro J_1325
      refine sy_icmp_ne (tgt := 49) hx hb dX12_layNeed_30 (by decide) (by omega) (by omega) (fun c_1471 => ?_) (fun c_1471 => ?_)
      · skip
        exact J_1325 _ _ _ ⟨F_1315, _, bF_1315, (nA_w h_1316 (by omega)), hP, hS, lv_sub hl [0, 1, 2, 3] rfl, rfl⟩
      · skip
        refine lv_aload_n hx hb dX12_layNeed_33 rfl (lv_at hl 2 rfl) ?_
        refine lv_iload_n hx hb dX12_layNeed_34 rfl (lv_at hl 0 rfl) ?_
        refine g_i (rDt hD) hS hA (g_V (own := "HideReaderModel") (As := [.int (mI z_1148)]) (rest := []) hx hb hml hown hts hK hP (rDt hD) (kr_X12_normOf (l := l) (D := D) (k := k) (by omega) h_x_bank b_B_turns b_B_told g_R) ck_X12_normOf iv_X12_normOf uw_8_194 (rv_o hK hP) rfl hl.1 rfl (Nat.le_of_ble_eq_true rfl) dX12_layNeed_35 ⟨Nat.le_of_ble_eq_true rfl, Nat.le_of_ble_eq_true rfl⟩ ⟨Nat.le_of_ble_eq_true rfl, Nat.le_of_ble_eq_true rfl⟩) (fun r_1472 H locs hQ hS => ?_)
        obtain ⟨hr_1472_0, hr_1472_1, hP⟩ := hQ
        refine lv_iload_n hx hb dX12_layNeed_38 rfl (lv_at hl 1 rfl) ?_
        refine sy_icmp_ne (tgt := 49) hx hb dX12_layNeed_39 (by decide) (by omega) (by omega) (fun c_1473 => ?_) (fun c_1473 => ?_)
        · skip
          exact J_1325 _ _ _ ⟨F_1315, _, bF_1315, (nA_w h_1316 (by omega)), hP, hS, lv_sub hl [0, 1, 2, 3] rfl, rfl⟩
        · skip
          refine lv_aload_n hx hb dX12_layNeed_42 rfl (lv_at hl 2 rfl) ?_
          refine rg_o_need hx hb hts hown hK hP uw_7_71 dX12_layNeed_43 ?_
          refine lv_iload_n hx hb dX12_layNeed_46 rfl (lv_at hl 0 rfl) ?_
          refine lv_iconst (v := mI 0) hx hb dX12_layNeed_47 rfl ?_
          refine rs_need hx hb hK hP hD hS dX12_layNeed_48 (by omega) bF_1315 (by omega) (fun F_1474 H locs eF_1474 bF_1474 hP hS => ?_)
          have h_1475 := nA_c (nA_w h_1316 (by omega)) (by omega) eF_1474 (by omega)
          exact J_1325 _ _ _ ⟨F_1474, _, bF_1474, (nA_w h_1475 (by omega)), hP, hS, lv_sub hl [0, 1, 2, 3] rfl, rfl⟩
set_option maxHeartbeats 4000000 in
set_option maxRecDepth 100000 in
theorem kr_X12_canMake {p0 : Int} (hp0 : 0 ≤ p0 ∧ p0 ≤ 4095) (b_B_need : bd (0) 100 B_need) : MetG l D k yX12_canMake cX12_canMake 2 (some .boolean) 0 [.ref (a 0), .int (mI p0)] (rW k a x_taped x_size x_faultKind x_faultPlace x_at x_end x_token x_number x_bank x_rb x_codes x_within x_piled x_unitsInRule x_askBeast x_askStroke x_askAge x_askSeason x_acts x_undone x_laid x_seens x_time x_fitting n_name B_tape B_text B_turns B_herds B_irons B_beasts B_units B_night B_draw B_told B_brands B_ironMarks B_herdTold B_born B_ruleFrom B_ruleTo B_code B_codeNumber B_eWhat B_eSign B_pile B_all B_burned B_was B_need B_laidRow B_long8 B_brings B_sBurning B_sStroke B_sIs B_sTold B_sUntold B_parts B_boxAll B_isBoxed G_hName G_iName G_bName ex) (qGi (fun r0 H => ((0 = r0) ∨ (1 = r0 ∧ (B_need p0.toNat ≤ 4))) ∧ va_P D vwCl (rW k a x_taped x_size x_faultKind x_faultPlace x_at x_end x_token x_number x_bank x_rb x_codes x_within x_piled x_unitsInRule x_askBeast x_askStroke x_askAge x_askSeason x_acts x_undone x_laid x_seens x_time x_fitting n_name B_tape B_text B_turns B_herds B_irons B_beasts B_units B_night B_draw B_told B_brands B_ironMarks B_herdTold B_born B_ruleFrom B_ruleTo B_code B_codeNumber B_eWhat B_eSign B_pile B_all B_burned B_was B_need B_laidRow B_long8 B_brings B_sBurning B_sStroke B_sIs B_sTold B_sUntold B_parts B_boxAll B_isBoxed G_hName G_iName G_bName ex) H)) := by
  refine metG_of 1 ck_X12_canMake (Nat.le_of_ble_eq_true rfl) rMap (fun p e s m args below meth c A hx hb hml hr hlocks hown hts hK hD hA hP hS ls hl => ?_)
  have hown : s.vm.findClass "HideReaderModel" = some m.cls := hown
  have hl : lv_has ls 2 [(0, .ref (a 0)), (1, .int (mI p0))] := hl
  refine lv_aload_n hx hb dX12_canMake_0 rfl (lv_at hl 0 rfl) ?_
  refine rg_o_need hx hb hts hown hK hP uw_7_71 dX12_canMake_1 ?_
  refine lv_iload_n hx hb dX12_canMake_4 rfl (lv_at hl 1 rfl) ?_
  refine rl_need hx hb hK hP dX12_canMake_5 (by omega) b_B_need (fun z_1 ez_1 hz_1 => ?_)
  refine lv_iconst (v := mI 4) hx hb dX12_canMake_6 rfl ?_
  refine sy_icmp_gt (tgt := 14) hx hb dX12_canMake_7 (by decide) (by omega) (by decide) (fun c_2 => ?_) (fun c_2 => ?_)
  · skip
    refine lv_iconst (v := mI 0) hx hb dX12_canMake_14 rfl ?_
    exact r_z hx hb hr hlocks dX12_canMake_15 hS (by decide) ⟨Or.inl (rfl), hP⟩
  · skip
    refine lv_iconst (v := mI 1) hx hb dX12_canMake_10 rfl ?_
    refine lv_goto (tgt := 15) hx hb dX12_canMake_11 (by decide) ?_
    exact r_z hx hb hr hlocks dX12_canMake_15 hS (by decide) ⟨Or.inr (⟨rfl, (by omega)⟩), hP⟩
set_option maxHeartbeats 4000000 in
set_option maxRecDepth 100000 in
theorem kr_X12_make {p0 p1 : Int} (hp0 : -2147483648 ≤ p0 ∧ p0 ≤ 2147483647) (hp1 : -2147483648 ≤ p1 ∧ p1 ≤ 2147483647) (h_x_bank : 0 ≤ x_bank ∧ x_bank ≤ 1) (b_B_turns : bd (0) 4 B_turns) (b_B_irons : bd (0) 6 B_irons) (b_B_told : bd (0) 31 B_told) (b_B_burned : bd (0) 4095 B_burned) (b_B_need : bd (0) 100 B_need) (g_R : 1 ≤ B_turns x_bank.toNat ∧ ¬ B_turns x_bank.toNat = 3) : MetG l D k yX12_make cX12_make 3 (some .int) 5 [.ref (a 0), .int (mI p0), .int (mI p1)] (rW k a x_taped x_size x_faultKind x_faultPlace x_at x_end x_token x_number x_bank x_rb x_codes x_within x_piled x_unitsInRule x_askBeast x_askStroke x_askAge x_askSeason x_acts x_undone x_laid x_seens x_time x_fitting n_name B_tape B_text B_turns B_herds B_irons B_beasts B_units B_night B_draw B_told B_brands B_ironMarks B_herdTold B_born B_ruleFrom B_ruleTo B_code B_codeNumber B_eWhat B_eSign B_pile B_all B_burned B_was B_need B_laidRow B_long8 B_brings B_sBurning B_sStroke B_sIs B_sTold B_sUntold B_parts B_boxAll B_isBoxed G_hName G_iName G_bName ex) (qGi (fun r0 H => ∃ (F_need : Nat → Int), (-1 ≤ r0 ∧ r0 ≤ 100) ∧ (bd (0) 100 F_need) ∧ va_P D vwCl (rW k a x_taped x_size x_faultKind x_faultPlace x_at x_end x_token x_number x_bank x_rb x_codes x_within x_piled x_unitsInRule x_askBeast x_askStroke x_askAge x_askSeason x_acts x_undone x_laid x_seens x_time x_fitting n_name B_tape B_text B_turns B_herds B_irons B_beasts B_units B_night B_draw B_told B_brands B_ironMarks B_herdTold B_born B_ruleFrom B_ruleTo B_code B_codeNumber B_eWhat B_eSign B_pile B_all B_burned B_was F_need B_laidRow B_long8 B_brings B_sBurning B_sStroke B_sIs B_sTold B_sUntold B_parts B_boxAll B_isBoxed G_hName G_iName G_bName ex) H)) := by
  refine metG_of 2 ck_X12_make (Nat.le_of_ble_eq_true rfl) rMap (fun p e s m args below meth c A hx hb hml hr hlocks hown hts hK hD hA hP hS ls hl => ?_)
  have hown : s.vm.findClass "HideReaderModel" = some m.cls := hown
  have hl : lv_has ls 3 [(0, .ref (a 0)), (1, .int (mI p0)), (2, .int (mI p1))] := hl
  refine lv_iload_n hx hb dX12_make_0 rfl (lv_at hl 1 rfl) ?_
  refine g_i (rDt hD) hS hA (g_S (own := "HideReaderModel") (As := [.int (mI p0)]) (rest := []) hx hb hml hown hts hK hP (rDt hD) (kr_X12_isMark (l := l) (D := D) (k := k) (by omega)) ck_X12_isMark uw_8_180 uw_8_179 rfl hl.1 rfl (Nat.le_of_ble_eq_true rfl) dX12_make_1 ⟨Nat.le_of_ble_eq_true rfl, Nat.le_of_ble_eq_true rfl⟩ ⟨Nat.le_of_ble_eq_true rfl, Nat.le_of_ble_eq_true rfl⟩) (fun r_1 H locs hQ hS => ?_)
  obtain ⟨hq_r_1, hP⟩ := hQ
  rcases hq_r_1 with ⟨rfl, c_2_0⟩ | ⟨rfl, c_3_0⟩
  · skip
    refine sy_if_eq (tgt := 14) hx hb dX12_make_4 (by decide) (by decide) (fun c_4 => ?_) (fun c9 => absurd c9 (by decide))
    refine lv_iconst (v := mI (-1)) hx hb dX12_make_14 rfl ?_
    exact r_i hx hb hr hlocks dX12_make_15 hS ⟨B_need, by omega, b_B_need, hP⟩
  · skip
    refine sy_if_eq (tgt := 14) hx hb dX12_make_4 (by decide) (by decide) (fun c9 => absurd c9 (by decide)) (fun c_5 => ?_)
    refine lv_iload_n hx hb dX12_make_7 rfl (lv_at hl 2 rfl) ?_
    refine g_i (rDt hD) hS hA (g_S (own := "HideReaderModel") (As := [.int (mI p1)]) (rest := []) hx hb hml hown hts hK hP (rDt hD) (kr_X12_isMark (l := l) (D := D) (k := k) (by omega)) ck_X12_isMark uw_8_180 uw_8_179 rfl hl.1 rfl (Nat.le_of_ble_eq_true rfl) dX12_make_8 ⟨Nat.le_of_ble_eq_true rfl, Nat.le_of_ble_eq_true rfl⟩ ⟨Nat.le_of_ble_eq_true rfl, Nat.le_of_ble_eq_true rfl⟩) (fun r_6 H locs hQ hS => ?_)
    obtain ⟨hq_r_6, hP⟩ := hQ
    rcases hq_r_6 with ⟨rfl, c_7_0⟩ | ⟨rfl, c_8_0⟩
    · skip
      refine sy_if_ne (tgt := 16) hx hb dX12_make_11 (by decide) (by decide) (fun c9 => absurd c9 (by decide)) (fun c_9 => ?_)
      refine lv_iconst (v := mI (-1)) hx hb dX12_make_14 rfl ?_
      exact r_i hx hb hr hlocks dX12_make_15 hS ⟨B_need, by omega, b_B_need, hP⟩
    · skip
      refine sy_if_ne (tgt := 16) hx hb dX12_make_11 (by decide) (by decide) (fun c_10 => ?_) (fun c9 => absurd c9 (by decide))
      refine lv_aload_n hx hb dX12_make_16 rfl (lv_at hl 0 rfl) ?_
      refine lv_iload_n hx hb dX12_make_17 rfl (lv_at hl 2 rfl) ?_
      refine g_v (rDt hD) hS hA (g_V (own := "HideReaderModel") (As := [.int (mI p1)]) (rest := []) hx hb hml hown hts hK hP (rDt hD) (kr_X12_layNeed (l := l) (D := D) (k := k) (by omega) h_x_bank b_B_turns b_B_irons b_B_told b_B_burned b_B_need g_R) ck_X12_layNeed iv_X12_layNeed uw_9_38 (rv_o hK hP) rfl hl.1 rfl (Nat.le_of_ble_eq_true rfl) dX12_make_18 ⟨Nat.le_of_ble_eq_true rfl, Nat.le_of_ble_eq_true rfl⟩ ⟨Nat.le_of_ble_eq_true rfl, Nat.le_of_ble_eq_true rfl⟩) (fun H locs hQ hS => ?_)
      obtain ⟨F_12, bF_12, hr_11_1, hP⟩ := hQ
      refine lv_aload_n hx hb dX12_make_21 rfl (lv_at hl 0 rfl) ?_
      refine lv_iload_n hx hb dX12_make_22 rfl (lv_at hl 1 rfl) ?_
      refine g_i (rDt hD) hS hA (g_V (own := "HideReaderModel") (As := [.int (mI p0)]) (rest := []) hx hb hml hown hts hK hP (rDt hD) (kr_X12_canMake (l := l) (D := D) (k := k) (by omega) bF_12) ck_X12_canMake iv_X12_canMake uw_9_42 (rv_o hK hP) rfl hl.1 rfl (Nat.le_of_ble_eq_true rfl) dX12_make_23 ⟨Nat.le_of_ble_eq_true rfl, Nat.le_of_ble_eq_true rfl⟩ ⟨Nat.le_of_ble_eq_true rfl, Nat.le_of_ble_eq_true rfl⟩) (fun r_13 H locs hQ hS => ?_)
      obtain ⟨hq_r_13, hP⟩ := hQ
      rcases hq_r_13 with rfl | ⟨rfl, c_15_0⟩
      · skip
        refine sy_if_eq (tgt := 38) hx hb dX12_make_26 (by decide) (by decide) (fun c_16 => ?_) (fun c9 => absurd c9 (by decide))
        refine lv_iconst (v := mI (-1)) hx hb dX12_make_38 rfl ?_
        exact r_i hx hb hr hlocks dX12_make_39 hS ⟨F_12, by omega, bF_12, hP⟩
      · skip
        refine sy_if_eq (tgt := 38) hx hb dX12_make_26 (by decide) (by decide) (fun c9 => absurd c9 (by decide)) (fun c_17 => ?_)
        refine lv_aload_n hx hb dX12_make_29 rfl (lv_at hl 0 rfl) ?_
        refine rg_o_need hx hb hts hown hK hP uw_7_71 dX12_make_30 ?_
        refine lv_iload_n hx hb dX12_make_33 rfl (lv_at hl 1 rfl) ?_
        refine rl_need hx hb hK hP dX12_make_34 (by omega) bF_12 (fun z_18 _ hz_18 => ?_)
        refine lv_goto (tgt := 39) hx hb dX12_make_35 (by decide) ?_
        exact r_i hx hb hr hlocks dX12_make_39 hS ⟨F_12, by omega, bF_12, hP⟩
set_option maxHeartbeats 4000000 in
set_option maxRecDepth 100000 in
theorem kr_X12_origins {p0 : Int} (hp0 : -2147483648 ≤ p0 ∧ p0 ≤ 2147483647) (h_x_bank : 0 ≤ x_bank ∧ x_bank ≤ 1) (b_B_turns : bd (0) 4 B_turns) (b_B_herds : bd (0) 8 B_herds) (b_B_irons : bd (0) 6 B_irons) (b_B_beasts : bd (0) 8 B_beasts) (b_B_told : bd (0) 31 B_told) (b_B_brands : bd (0) 4095 B_brands) (b_B_all : bA B_all) (b_B_burned : bd (0) 4095 B_burned) (b_B_need : bd (0) 100 B_need) (g_R : 1 ≤ B_turns x_bank.toNat ∧ ¬ B_turns x_bank.toNat = 3) : MetG l D k yX12_origins cX12_origins 4 (some .int) 5 [.ref (a 0), .int (mI p0)] (rW k a x_taped x_size x_faultKind x_faultPlace x_at x_end x_token x_number x_bank x_rb x_codes x_within x_piled x_unitsInRule x_askBeast x_askStroke x_askAge x_askSeason x_acts x_undone x_laid x_seens x_time x_fitting n_name B_tape B_text B_turns B_herds B_irons B_beasts B_units B_night B_draw B_told B_brands B_ironMarks B_herdTold B_born B_ruleFrom B_ruleTo B_code B_codeNumber B_eWhat B_eSign B_pile B_all B_burned B_was B_need B_laidRow B_long8 B_brings B_sBurning B_sStroke B_sIs B_sTold B_sUntold B_parts B_boxAll B_isBoxed G_hName G_iName G_bName ex) (qGi (fun r0 H => ∃ (F_need : Nat → Int), (-1 ≤ r0 ∧ r0 ≤ 255) ∧ (bd (0) 100 F_need) ∧ va_P D vwCl (rW k a x_taped x_size x_faultKind x_faultPlace x_at x_end x_token x_number x_bank x_rb x_codes x_within x_piled x_unitsInRule x_askBeast x_askStroke x_askAge x_askSeason x_acts x_undone x_laid x_seens x_time x_fitting n_name B_tape B_text B_turns B_herds B_irons B_beasts B_units B_night B_draw B_told B_brands B_ironMarks B_herdTold B_born B_ruleFrom B_ruleTo B_code B_codeNumber B_eWhat B_eSign B_pile B_all B_burned B_was F_need B_laidRow B_long8 B_brings B_sBurning B_sStroke B_sIs B_sTold B_sUntold B_parts B_boxAll B_isBoxed G_hName G_iName G_bName ex) H)) := by
  refine metG_of 1 ck_X12_origins (Nat.le_of_ble_eq_true rfl) rMap (fun p e s m args below meth c A hx hb hml hr hlocks hown hts hK hD hA hP hS ls hl => ?_)
  have hown : s.vm.findClass "HideReaderModel" = some m.cls := hown
  have hl : lv_has ls 4 [(0, .ref (a 0)), (1, .int (mI p0))] := hl
  refine lv_aload_n hx hb dX12_origins_0 rfl (lv_at hl 0 rfl) ?_
  refine lv_iload_n hx hb dX12_origins_1 rfl (lv_at hl 1 rfl) ?_
  refine g_i (rDt hD) hS hA (g_V (own := "HideReaderModel") (As := [.int (mI p0)]) (rest := []) hx hb hml hown hts hK hP (rDt hD) (kr_X12_isBeast (l := l) (D := D) (k := k) (by omega) h_x_bank b_B_beasts) ck_X12_isBeast iv_X12_isBeast uw_8_145 (rv_o hK hP) rfl hl.1 rfl (Nat.le_of_ble_eq_true rfl) dX12_origins_2 ⟨Nat.le_of_ble_eq_true rfl, Nat.le_of_ble_eq_true rfl⟩ ⟨Nat.le_of_ble_eq_true rfl, Nat.le_of_ble_eq_true rfl⟩) (fun r_1 H locs hQ hS => ?_)
  obtain ⟨hq_r_1, hP⟩ := hQ
  rcases hq_r_1 with rfl | ⟨rfl, c_3_0⟩
  · skip
    refine sy_if_ne (tgt := 10) hx hb dX12_origins_5 (by decide) (by decide) (fun c9 => absurd c9 (by decide)) (fun c_4 => ?_)
    refine lv_iconst (v := mI (-1)) hx hb dX12_origins_8 rfl ?_
    exact r_i hx hb hr hlocks dX12_origins_9 hS ⟨B_need, by omega, b_B_need, hP⟩
  · skip
    refine sy_if_ne (tgt := 10) hx hb dX12_origins_5 (by decide) (by decide) (fun c_5 => ?_) (fun c9 => absurd c9 (by decide))
    refine lv_aload_n hx hb dX12_origins_10 rfl (lv_at hl 0 rfl) ?_
    refine lv_aload_n hx hb dX12_origins_11 rfl (lv_at hl 0 rfl) ?_
    refine rg_o_all hx hb hts hown hK hP uw_7_66 dX12_origins_12 ?_
    refine lv_iconst (v := mI 0) hx hb dX12_origins_15 rfl ?_
    refine lv_iload_n hx hb dX12_origins_16 rfl (lv_at hl 1 rfl) ?_
    refine sy_iadd hx hb dX12_origins_17 p0 (by omega) ?_
    refine rl_all hx hb hK hP dX12_origins_18 (by omega) (bA_bd b_B_all) (fun z_6 ez_6 hz_6 => ?_)
    have hz_6 := bA_hid b_B_all (by omega) ez_6
    refine g_v (rDt hD) hS hA (g_V (own := "HideReaderModel") (As := [.int (mI z_6)]) (rest := []) hx hb hml hown hts hK hP (rDt hD) (kr_X12_layNeed (l := l) (D := D) (k := k) (by omega) h_x_bank b_B_turns b_B_irons b_B_told b_B_burned b_B_need g_R) ck_X12_layNeed iv_X12_layNeed uw_9_38 (rv_o hK hP) rfl hl.1 rfl (Nat.le_of_ble_eq_true rfl) dX12_origins_19 ⟨Nat.le_of_ble_eq_true rfl, Nat.le_of_ble_eq_true rfl⟩ ⟨Nat.le_of_ble_eq_true rfl, Nat.le_of_ble_eq_true rfl⟩) (fun H locs hQ hS => ?_)
    obtain ⟨F_8, bF_8, hr_7_1, hP⟩ := hQ
    refine lv_iconst (v := mI 0) hx hb dX12_origins_22 rfl ?_
    refine lv_istore_n (lv' := [(2, .int (mI 0)), (0, .ref (a 0)), (1, .int (mI p0))]) hx hb dX12_origins_23 rfl hl (by decide) rfl (fun ls hl => ?_)
    refine lv_iconst (v := mI 0) hx hb dX12_origins_24 rfl ?_
    refine lv_istore_n (lv' := [(3, .int (mI 0)), (2, .int (mI 0)), (0, .ref (a 0)), (1, .int (mI p0))]) hx hb dX12_origins_25 rfl hl (by decide) rfl (fun ls hl => ?_)
    refine sy_loop (I := fun n H locs g => ∃ (z_355 : Int) (z_356 : Int) (ls : Array Slot), (0 ≤ z_355 ∧ z_355 ≤ 8) ∧ (0 ≤ z_356 ∧ z_356 ≤ 255) ∧ (8 - z_355).toNat = n ∧ va_P D vwCl (rW k a x_taped x_size x_faultKind x_faultPlace x_at x_end x_token x_number x_bank x_rb x_codes x_within x_piled x_unitsInRule x_askBeast x_askStroke x_askAge x_askSeason x_acts x_undone x_laid x_seens x_time x_fitting n_name B_tape B_text B_turns B_herds B_irons B_beasts B_units B_night B_draw B_told B_brands B_ironMarks B_herdTold B_born B_ruleFrom B_ruleTo B_code B_codeNumber B_eWhat B_eSign B_pile B_all B_burned B_was F_8 B_laidRow B_long8 B_brings B_sBurning B_sStroke B_sIs B_sTold B_sUntold B_parts B_boxAll B_isBoxed G_hName G_iName G_bName ex) H ∧ va_S A s.heap H locs ∧ lv_has ls 4 [(3, .int (mI z_355)), (2, .int (mI z_356)), (0, .ref (a 0)), (1, .int (mI p0))] ∧ g = F0 m 26 ls []) ?_ _ ⟨0, 0, _, by omega, by omega, rfl, hP, hS, lv_sub hl [0, 1, 2, 3] rfl, rfl⟩
    intro n_367 H locs g hI ih_368
    obtain ⟨z_355, z_356, ls, h26_0, h26_1, mn_367, hP, hS, hl, rfl⟩ := hI
    refine lv_iload_n hx hb dX12_origins_26 rfl (lv_at hl 0 rfl) ?_
    refine lv_aload_n hx hb dX12_origins_27 rfl (lv_at hl 2 rfl) ?_
    refine g_i (rDt hD) hS hA (g_V (own := "HideReaderModel") (As := []) (rest := [.int (mI z_355)]) hx hb hml hown hts hK hP (rDt hD) (kr_X12_stocks (l := l) (D := D) (k := k) h_x_bank b_B_herds) ck_X12_stocks iv_X12_stocks uw_8_126 (rv_o hK hP) rfl hl.1 rfl (Nat.le_of_ble_eq_true rfl) dX12_origins_28 ⟨Nat.le_of_ble_eq_true rfl, Nat.le_of_ble_eq_true rfl⟩ ⟨Nat.le_of_ble_eq_true rfl, Nat.le_of_ble_eq_true rfl⟩) (fun r_369 H locs hQ hS => ?_)
    obtain ⟨hr_369_0, hr_369_1, hP⟩ := hQ
    refine sy_icmp_ge (tgt := 58) hx hb dX12_origins_31 (by decide) (by omega) (by omega) (fun c_370 => ?_) (fun c_370 => ?_)
    · skip
      refine lv_iload_n hx hb dX12_origins_58 rfl (lv_at hl 1 rfl) ?_
      exact r_i hx hb hr hlocks dX12_origins_59 hS ⟨F_8, by omega, bF_8, hP⟩
    · skip
      refine lv_aload_n hx hb dX12_origins_34 rfl (lv_at hl 2 rfl) ?_
      refine lv_aload_n hx hb dX12_origins_35 rfl (lv_at hl 2 rfl) ?_
      refine lv_iload_n hx hb dX12_origins_36 rfl (lv_at hl 0 rfl) ?_
      refine g_i (rDt hD) hS hA (g_V (own := "HideReaderModel") (As := [.int (mI z_355)]) (rest := [.ref (a 0)]) hx hb hml hown hts hK hP (rDt hD) (kr_X12_brandOf (l := l) (D := D) (k := k) (by omega) h_x_bank b_B_brands) ck_X12_brandOf iv_X12_brandOf uw_6_220 (rv_o hK hP) rfl hl.1 rfl (Nat.le_of_ble_eq_true rfl) dX12_origins_37 ⟨Nat.le_of_ble_eq_true rfl, Nat.le_of_ble_eq_true rfl⟩ ⟨Nat.le_of_ble_eq_true rfl, Nat.le_of_ble_eq_true rfl⟩) (fun r_371 H locs hQ hS => ?_)
      obtain ⟨hr_371_0, hr_371_1, hP⟩ := hQ
      refine g_i (rDt hD) hS hA (g_V (own := "HideReaderModel") (As := [.int (mI r_371)]) (rest := []) hx hb hml hown hts hK hP (rDt hD) (kr_X12_canMake (l := l) (D := D) (k := k) (by omega) bF_8) ck_X12_canMake iv_X12_canMake uw_9_42 (rv_o hK hP) rfl hl.1 rfl (Nat.le_of_ble_eq_true rfl) dX12_origins_40 ⟨Nat.le_of_ble_eq_true rfl, Nat.le_of_ble_eq_true rfl⟩ ⟨Nat.le_of_ble_eq_true rfl, Nat.le_of_ble_eq_true rfl⟩) (fun r_372 H locs hQ hS => ?_)
      obtain ⟨hq_r_372, hP⟩ := hQ
      rcases hq_r_372 with rfl | ⟨rfl, c_374_0⟩
      · skip
        refine sy_if_eq (tgt := 52) hx hb dX12_origins_43 (by decide) (by decide) (fun c_375 => ?_) (fun c9 => absurd c9 (by decide))
        refine lv_iinc (v := mI (z_355 + 1)) (lv' := [(3, .int (mI (z_355 + 1))), (2, .int (mI z_356)), (0, .ref (a 0)), (1, .int (mI p0))]) hx hb dX12_origins_52 hl (k := 0) rfl (mI_ad rfl) (by decide) rfl (fun ls hl => ?_)
        refine lv_goto (tgt := 26) hx hb dX12_origins_55 (by decide) ?_
        exact ih_368 _ _ _ _ (by omega) ⟨(z_355 + 1), z_356, _, by omega, by omega, rfl, hP, hS, lv_sub hl [0, 1, 2, 3] rfl, rfl⟩
      · skip
        refine sy_if_eq (tgt := 52) hx hb dX12_origins_43 (by decide) (by decide) (fun c9 => absurd c9 (by decide)) (fun c_376 => ?_)
        refine lv_iload_n hx hb dX12_origins_46 rfl (lv_at hl 1 rfl) ?_
        refine lv_iconst (v := mI 1) hx hb dX12_origins_47 rfl ?_
        refine lv_iload_n hx hb dX12_origins_48 rfl (lv_at hl 0 rfl) ?_
        refine sy_shl1 hx hb dX12_origins_49 7 (by decide) 128 (by decide) (by omega) (fun z_377 ez_377 hz_377 => ?_)
        refine sy_ior hx hb dX12_origins_50 8 (by decide) 256 (by decide) (by omega) (by omega) (fun z_378 hz_378 => ?_)
        refine lv_istore_n (lv' := [(2, .int (mI z_378)), (3, .int (mI z_355)), (0, .ref (a 0)), (1, .int (mI p0))]) hx hb dX12_origins_51 rfl hl (by decide) rfl (fun ls hl => ?_)
        refine lv_iinc (v := mI (z_355 + 1)) (lv' := [(3, .int (mI (z_355 + 1))), (2, .int (mI z_378)), (0, .ref (a 0)), (1, .int (mI p0))]) hx hb dX12_origins_52 hl (k := 1) rfl (mI_ad rfl) (by decide) rfl (fun ls hl => ?_)
        refine lv_goto (tgt := 26) hx hb dX12_origins_55 (by decide) ?_
        exact ih_368 _ _ _ _ (by omega) ⟨(z_355 + 1), z_378, _, by omega, by omega, rfl, hP, hS, lv_sub hl [0, 1, 2, 3] rfl, rfl⟩
set_option maxHeartbeats 4000000 in
set_option maxRecDepth 100000 in
theorem kr_X12_claim {p0 : Int} (hp0 : -2147483648 ≤ p0 ∧ p0 ≤ 2147483647) (h_x_bank : 0 ≤ x_bank ∧ x_bank ≤ 1) (b_B_turns : bd (0) 4 B_turns) (b_B_herds : bd (0) 8 B_herds) (b_B_irons : bd (0) 6 B_irons) (b_B_beasts : bd (0) 8 B_beasts) (b_B_told : bd (0) 31 B_told) (b_B_brands : bd (0) 4095 B_brands) (b_B_all : bA B_all) (b_B_burned : bd (0) 4095 B_burned) (b_B_need : bd (0) 100 B_need) (g_R : 1 ≤ B_turns x_bank.toNat ∧ ¬ B_turns x_bank.toNat = 3) : MetG l D k yX12_claim cX12_claim 4 (some .int) 5 [.ref (a 0), .int (mI p0)] (rW k a x_taped x_size x_faultKind x_faultPlace x_at x_end x_token x_number x_bank x_rb x_codes x_within x_piled x_unitsInRule x_askBeast x_askStroke x_askAge x_askSeason x_acts x_undone x_laid x_seens x_time x_fitting n_name B_tape B_text B_turns B_herds B_irons B_beasts B_units B_night B_draw B_told B_brands B_ironMarks B_herdTold B_born B_ruleFrom B_ruleTo B_code B_codeNumber B_eWhat B_eSign B_pile B_all B_burned B_was B_need B_laidRow B_long8 B_brings B_sBurning B_sStroke B_sIs B_sTold B_sUntold B_parts B_boxAll B_isBoxed G_hName G_iName G_bName ex) (qGi (fun r0 H => ∃ (F_need : Nat → Int), (-1 ≤ r0 ∧ r0 ≤ 255) ∧ (bd (0) 100 F_need) ∧ va_P D vwCl (rW k a x_taped x_size x_faultKind x_faultPlace x_at x_end x_token x_number x_bank x_rb x_codes x_within x_piled x_unitsInRule x_askBeast x_askStroke x_askAge x_askSeason x_acts x_undone x_laid x_seens x_time x_fitting n_name B_tape B_text B_turns B_herds B_irons B_beasts B_units B_night B_draw B_told B_brands B_ironMarks B_herdTold B_born B_ruleFrom B_ruleTo B_code B_codeNumber B_eWhat B_eSign B_pile B_all B_burned B_was F_need B_laidRow B_long8 B_brings B_sBurning B_sStroke B_sIs B_sTold B_sUntold B_parts B_boxAll B_isBoxed G_hName G_iName G_bName ex) H)) := by
  refine metG_of 1 ck_X12_claim (Nat.le_of_ble_eq_true rfl) rMap (fun p e s m args below meth c A hx hb hml hr hlocks hown hts hK hD hA hP hS ls hl => ?_)
  have hown : s.vm.findClass "HideReaderModel" = some m.cls := hown
  have hl : lv_has ls 4 [(0, .ref (a 0)), (1, .int (mI p0))] := hl
  refine lv_aload_n hx hb dX12_claim_0 rfl (lv_at hl 0 rfl) ?_
  refine lv_iload_n hx hb dX12_claim_1 rfl (lv_at hl 1 rfl) ?_
  refine g_i (rDt hD) hS hA (g_V (own := "HideReaderModel") (As := [.int (mI p0)]) (rest := []) hx hb hml hown hts hK hP (rDt hD) (kr_X12_isHerd (l := l) (D := D) (k := k) (by omega) h_x_bank b_B_herds) ck_X12_isHerd iv_X12_isHerd uw_8_122 (rv_o hK hP) rfl hl.1 rfl (Nat.le_of_ble_eq_true rfl) dX12_claim_2 ⟨Nat.le_of_ble_eq_true rfl, Nat.le_of_ble_eq_true rfl⟩ ⟨Nat.le_of_ble_eq_true rfl, Nat.le_of_ble_eq_true rfl⟩) (fun r_1 H locs hQ hS => ?_)
  obtain ⟨hq_r_1, hP⟩ := hQ
  rcases hq_r_1 with rfl | ⟨rfl, c_3_0⟩
  · skip
    refine sy_if_ne (tgt := 10) hx hb dX12_claim_5 (by decide) (by decide) (fun c9 => absurd c9 (by decide)) (fun c_4 => ?_)
    refine lv_iconst (v := mI (-1)) hx hb dX12_claim_8 rfl ?_
    exact r_i hx hb hr hlocks dX12_claim_9 hS ⟨B_need, by omega, b_B_need, hP⟩
  · skip
    refine sy_if_ne (tgt := 10) hx hb dX12_claim_5 (by decide) (by decide) (fun c_5 => ?_) (fun c9 => absurd c9 (by decide))
    refine lv_aload_n hx hb dX12_claim_10 rfl (lv_at hl 0 rfl) ?_
    refine lv_aload_n hx hb dX12_claim_11 rfl (lv_at hl 0 rfl) ?_
    refine lv_iload_n hx hb dX12_claim_12 rfl (lv_at hl 1 rfl) ?_
    refine g_i (rDt hD) hS hA (g_V (own := "HideReaderModel") (As := [.int (mI p0)]) (rest := [.ref (a 0)]) hx hb hml hown hts hK hP (rDt hD) (kr_X12_brandOf (l := l) (D := D) (k := k) (by omega) h_x_bank b_B_brands) ck_X12_brandOf iv_X12_brandOf uw_6_220 (rv_o hK hP) rfl hl.1 rfl (Nat.le_of_ble_eq_true rfl) dX12_claim_13 ⟨Nat.le_of_ble_eq_true rfl, Nat.le_of_ble_eq_true rfl⟩ ⟨Nat.le_of_ble_eq_true rfl, Nat.le_of_ble_eq_true rfl⟩) (fun r_6 H locs hQ hS => ?_)
    obtain ⟨hr_6_0, hr_6_1, hP⟩ := hQ
    refine g_v (rDt hD) hS hA (g_V (own := "HideReaderModel") (As := [.int (mI r_6)]) (rest := []) hx hb hml hown hts hK hP (rDt hD) (kr_X12_layNeed (l := l) (D := D) (k := k) (by omega) h_x_bank b_B_turns b_B_irons b_B_told b_B_burned b_B_need g_R) ck_X12_layNeed iv_X12_layNeed uw_9_38 (rv_o hK hP) rfl hl.1 rfl (Nat.le_of_ble_eq_true rfl) dX12_claim_16 ⟨Nat.le_of_ble_eq_true rfl, Nat.le_of_ble_eq_true rfl⟩ ⟨Nat.le_of_ble_eq_true rfl, Nat.le_of_ble_eq_true rfl⟩) (fun H locs hQ hS => ?_)
    obtain ⟨F_8, bF_8, hr_7_1, hP⟩ := hQ
    refine lv_iconst (v := mI 0) hx hb dX12_claim_19 rfl ?_
    refine lv_istore_n (lv' := [(2, .int (mI 0)), (0, .ref (a 0)), (1, .int (mI p0))]) hx hb dX12_claim_20 rfl hl (by decide) rfl (fun ls hl => ?_)
    refine lv_iconst (v := mI 0) hx hb dX12_claim_21 rfl ?_
    refine lv_istore_n (lv' := [(3, .int (mI 0)), (2, .int (mI 0)), (0, .ref (a 0)), (1, .int (mI p0))]) hx hb dX12_claim_22 rfl hl (by decide) rfl (fun ls hl => ?_)
    refine sy_loop (I := fun n H locs g => ∃ (z_413 : Int) (z_414 : Int) (ls : Array Slot), (0 ≤ z_413 ∧ z_413 ≤ 8) ∧ (0 ≤ z_414 ∧ z_414 ≤ 255) ∧ (8 - z_413).toNat = n ∧ va_P D vwCl (rW k a x_taped x_size x_faultKind x_faultPlace x_at x_end x_token x_number x_bank x_rb x_codes x_within x_piled x_unitsInRule x_askBeast x_askStroke x_askAge x_askSeason x_acts x_undone x_laid x_seens x_time x_fitting n_name B_tape B_text B_turns B_herds B_irons B_beasts B_units B_night B_draw B_told B_brands B_ironMarks B_herdTold B_born B_ruleFrom B_ruleTo B_code B_codeNumber B_eWhat B_eSign B_pile B_all B_burned B_was F_8 B_laidRow B_long8 B_brings B_sBurning B_sStroke B_sIs B_sTold B_sUntold B_parts B_boxAll B_isBoxed G_hName G_iName G_bName ex) H ∧ va_S A s.heap H locs ∧ lv_has ls 4 [(3, .int (mI z_413)), (2, .int (mI z_414)), (0, .ref (a 0)), (1, .int (mI p0))] ∧ g = F0 m 23 ls []) ?_ _ ⟨0, 0, _, by omega, by omega, rfl, hP, hS, lv_sub hl [0, 1, 2, 3] rfl, rfl⟩
    intro n_427 H locs g hI ih_428
    obtain ⟨z_413, z_414, ls, h23_0, h23_1, mn_427, hP, hS, hl, rfl⟩ := hI
    refine lv_iload_n hx hb dX12_claim_23 rfl (lv_at hl 0 rfl) ?_
    refine lv_aload_n hx hb dX12_claim_24 rfl (lv_at hl 2 rfl) ?_
    refine g_i (rDt hD) hS hA (g_V (own := "HideReaderModel") (As := []) (rest := [.int (mI z_413)]) hx hb hml hown hts hK hP (rDt hD) (kr_X12_cattle (l := l) (D := D) (k := k) h_x_bank b_B_beasts) ck_X12_cattle iv_X12_cattle uw_6_212 (rv_o hK hP) rfl hl.1 rfl (Nat.le_of_ble_eq_true rfl) dX12_claim_25 ⟨Nat.le_of_ble_eq_true rfl, Nat.le_of_ble_eq_true rfl⟩ ⟨Nat.le_of_ble_eq_true rfl, Nat.le_of_ble_eq_true rfl⟩) (fun r_429 H locs hQ hS => ?_)
    obtain ⟨hr_429_0, hr_429_1, hP⟩ := hQ
    refine sy_icmp_ge (tgt := 71) hx hb dX12_claim_28 (by decide) (by omega) (by omega) (fun c_430 => ?_) (fun c_430 => ?_)
    · skip
      refine lv_iload_n hx hb dX12_claim_71 rfl (lv_at hl 1 rfl) ?_
      exact r_i hx hb hr hlocks dX12_claim_72 hS ⟨F_8, by omega, bF_8, hP⟩
    · skip
      refine lv_aload_n hx hb dX12_claim_31 rfl (lv_at hl 2 rfl) ?_
      refine rg_o_all hx hb hts hown hK hP uw_7_66 dX12_claim_32 ?_
      refine lv_bipush (v := mI 8) hx hb dX12_claim_35 (by decide) ?_
      refine lv_iload_n hx hb dX12_claim_37 rfl (lv_at hl 0 rfl) ?_
      refine sy_iadd hx hb dX12_claim_38 (z_413 + 8) (by omega) ?_
      refine rl_all hx hb hK hP dX12_claim_39 (by omega) (bA_bd b_B_all) (fun z_431 ez_431 hz_431 => ?_)
      have hz_431 := bA_own b_B_all (by omega) ez_431
      refine lv_iload_n hx hb dX12_claim_40 rfl (lv_at hl 3 rfl) ?_
      refine sy_icmp_eq (tgt := 65) hx hb dX12_claim_41 (by decide) (by omega) (by omega) (fun c_432 => ?_) (fun c_432 => ?_)
      · skip
        refine lv_iinc (v := mI (z_413 + 1)) (lv' := [(3, .int (mI (z_413 + 1))), (2, .int (mI z_414)), (0, .ref (a 0)), (1, .int (mI p0))]) hx hb dX12_claim_65 hl (k := 0) rfl (mI_ad rfl) (by decide) rfl (fun ls hl => ?_)
        refine lv_goto (tgt := 23) hx hb dX12_claim_68 (by decide) ?_
        exact ih_428 _ _ _ _ (by omega) ⟨(z_413 + 1), z_414, _, by omega, by omega, rfl, hP, hS, lv_sub hl [0, 1, 2, 3] rfl, rfl⟩
      · skip
        refine lv_aload_n hx hb dX12_claim_44 rfl (lv_at hl 2 rfl) ?_
        refine lv_aload_n hx hb dX12_claim_45 rfl (lv_at hl 2 rfl) ?_
        refine rg_o_all hx hb hts hown hK hP uw_7_66 dX12_claim_46 ?_
        refine lv_iconst (v := mI 0) hx hb dX12_claim_49 rfl ?_
        refine lv_iload_n hx hb dX12_claim_50 rfl (lv_at hl 0 rfl) ?_
        refine sy_iadd hx hb dX12_claim_51 z_413 (by omega) ?_
        refine rl_all hx hb hK hP dX12_claim_52 (by omega) (bA_bd b_B_all) (fun z_433 ez_433 hz_433 => ?_)
        have hz_433 := bA_hid b_B_all (by omega) ez_433
        refine g_i (rDt hD) hS hA (g_V (own := "HideReaderModel") (As := [.int (mI z_433)]) (rest := []) hx hb hml hown hts hK hP (rDt hD) (kr_X12_canMake (l := l) (D := D) (k := k) (by omega) bF_8) ck_X12_canMake iv_X12_canMake uw_9_42 (rv_o hK hP) rfl hl.1 rfl (Nat.le_of_ble_eq_true rfl) dX12_claim_53 ⟨Nat.le_of_ble_eq_true rfl, Nat.le_of_ble_eq_true rfl⟩ ⟨Nat.le_of_ble_eq_true rfl, Nat.le_of_ble_eq_true rfl⟩) (fun r_434 H locs hQ hS => ?_)
        obtain ⟨hq_r_434, hP⟩ := hQ
        rcases hq_r_434 with rfl | ⟨rfl, c_436_0⟩
        · skip
          refine sy_if_eq (tgt := 65) hx hb dX12_claim_56 (by decide) (by decide) (fun c_437 => ?_) (fun c9 => absurd c9 (by decide))
          refine lv_iinc (v := mI (z_413 + 1)) (lv' := [(3, .int (mI (z_413 + 1))), (2, .int (mI z_414)), (0, .ref (a 0)), (1, .int (mI p0))]) hx hb dX12_claim_65 hl (k := 0) rfl (mI_ad rfl) (by decide) rfl (fun ls hl => ?_)
          refine lv_goto (tgt := 23) hx hb dX12_claim_68 (by decide) ?_
          exact ih_428 _ _ _ _ (by omega) ⟨(z_413 + 1), z_414, _, by omega, by omega, rfl, hP, hS, lv_sub hl [0, 1, 2, 3] rfl, rfl⟩
        · skip
          refine sy_if_eq (tgt := 65) hx hb dX12_claim_56 (by decide) (by decide) (fun c9 => absurd c9 (by decide)) (fun c_438 => ?_)
          refine lv_iload_n hx hb dX12_claim_59 rfl (lv_at hl 1 rfl) ?_
          refine lv_iconst (v := mI 1) hx hb dX12_claim_60 rfl ?_
          refine lv_iload_n hx hb dX12_claim_61 rfl (lv_at hl 0 rfl) ?_
          refine sy_shl1 hx hb dX12_claim_62 7 (by decide) 128 (by decide) (by omega) (fun z_439 ez_439 hz_439 => ?_)
          refine sy_ior hx hb dX12_claim_63 8 (by decide) 256 (by decide) (by omega) (by omega) (fun z_440 hz_440 => ?_)
          refine lv_istore_n (lv' := [(2, .int (mI z_440)), (3, .int (mI z_413)), (0, .ref (a 0)), (1, .int (mI p0))]) hx hb dX12_claim_64 rfl hl (by decide) rfl (fun ls hl => ?_)
          refine lv_iinc (v := mI (z_413 + 1)) (lv' := [(3, .int (mI (z_413 + 1))), (2, .int (mI z_440)), (0, .ref (a 0)), (1, .int (mI p0))]) hx hb dX12_claim_65 hl (k := 1) rfl (mI_ad rfl) (by decide) rfl (fun ls hl => ?_)
          refine lv_goto (tgt := 23) hx hb dX12_claim_68 (by decide) ?_
          exact ih_428 _ _ _ _ (by omega) ⟨(z_413 + 1), z_440, _, by omega, by omega, rfl, hP, hS, lv_sub hl [0, 1, 2, 3] rfl, rfl⟩
set_option maxHeartbeats 4000000 in
set_option maxRecDepth 100000 in
theorem kr_X12_safe (h_x_bank : 0 ≤ x_bank ∧ x_bank ≤ 1) (b_B_turns : bd (0) 4 B_turns) (b_B_herds : bd (0) 8 B_herds) (b_B_irons : bd (0) 6 B_irons) (b_B_told : bd (0) 31 B_told) (b_B_brands : bd (0) 4095 B_brands) (b_B_burned : bd (0) 4095 B_burned) (b_B_need : bd (0) 100 B_need) (g_R : 1 ≤ B_turns x_bank.toNat ∧ ¬ B_turns x_bank.toNat = 3) : MetG l D k yX12_safe cX12_safe 4 (some .int) 5 [.ref (a 0)] (rW k a x_taped x_size x_faultKind x_faultPlace x_at x_end x_token x_number x_bank x_rb x_codes x_within x_piled x_unitsInRule x_askBeast x_askStroke x_askAge x_askSeason x_acts x_undone x_laid x_seens x_time x_fitting n_name B_tape B_text B_turns B_herds B_irons B_beasts B_units B_night B_draw B_told B_brands B_ironMarks B_herdTold B_born B_ruleFrom B_ruleTo B_code B_codeNumber B_eWhat B_eSign B_pile B_all B_burned B_was B_need B_laidRow B_long8 B_brings B_sBurning B_sStroke B_sIs B_sTold B_sUntold B_parts B_boxAll B_isBoxed G_hName G_iName G_bName ex) (qGi (fun r0 H => ∃ (F_need : Nat → Int), (0 ≤ r0 ∧ r0 ≤ 255) ∧ (bd (0) 100 F_need) ∧ va_P D vwCl (rW k a x_taped x_size x_faultKind x_faultPlace x_at x_end x_token x_number x_bank x_rb x_codes x_within x_piled x_unitsInRule x_askBeast x_askStroke x_askAge x_askSeason x_acts x_undone x_laid x_seens x_time x_fitting n_name B_tape B_text B_turns B_herds B_irons B_beasts B_units B_night B_draw B_told B_brands B_ironMarks B_herdTold B_born B_ruleFrom B_ruleTo B_code B_codeNumber B_eWhat B_eSign B_pile B_all B_burned B_was F_need B_laidRow B_long8 B_brings B_sBurning B_sStroke B_sIs B_sTold B_sUntold B_parts B_boxAll B_isBoxed G_hName G_iName G_bName ex) H)) := by
  refine metG_of 0 ck_X12_safe (Nat.le_of_ble_eq_true rfl) rMap (fun p e s m args below meth c A hx hb hml hr hlocks hown hts hK hD hA hP hS ls hl => ?_)
  have hown : s.vm.findClass "HideReaderModel" = some m.cls := hown
  have hl : lv_has ls 4 [(0, .ref (a 0))] := hl
  refine lv_iconst (v := mI 1) hx hb dX12_safe_0 rfl ?_
  refine lv_aload_n hx hb dX12_safe_1 rfl (lv_at hl 0 rfl) ?_
  refine g_i (rDt hD) hS hA (g_V (own := "HideReaderModel") (As := []) (rest := [.int (mI 1)]) hx hb hml hown hts hK hP (rDt hD) (kr_X12_stocks (l := l) (D := D) (k := k) h_x_bank b_B_herds) ck_X12_stocks iv_X12_stocks uw_8_126 (rv_o hK hP) rfl hl.1 rfl (Nat.le_of_ble_eq_true rfl) dX12_safe_2 ⟨Nat.le_of_ble_eq_true rfl, Nat.le_of_ble_eq_true rfl⟩ ⟨Nat.le_of_ble_eq_true rfl, Nat.le_of_ble_eq_true rfl⟩) (fun r_1 H locs hQ hS => ?_)
  obtain ⟨hr_1_0, hr_1_1, hP⟩ := hQ
  refine sy_shl1 hx hb dX12_safe_5 8 (by decide) 256 (by decide) (by omega) (fun z_2 ez_2 hz_2 => ?_)
  refine lv_iconst (v := mI 1) hx hb dX12_safe_6 rfl ?_
  refine sy_isub hx hb dX12_safe_7 (z_2 - 1) rfl ?_
  refine lv_istore_n (lv' := [(1, .int (mI (z_2 - 1))), (0, .ref (a 0))]) hx hb dX12_safe_8 rfl hl (by decide) rfl (fun ls hl => ?_)
  refine lv_iconst (v := mI 0) hx hb dX12_safe_9 rfl ?_
  refine lv_istore_n (lv' := [(2, .int (mI 0)), (1, .int (mI (z_2 - 1))), (0, .ref (a 0))]) hx hb dX12_safe_10 rfl hl (by decide) rfl (fun ls hl => ?_)
  refine sy_loop (I := fun n H locs g => ∃ (z_1648 : Int) (z_1649 : Int) (F_1650 : Nat → Int) (ls : Array Slot), (0 ≤ z_1648 ∧ z_1648 ≤ 8) ∧ (0 ≤ z_1649 ∧ z_1649 ≤ 255) ∧ (bd (0) 100 F_1650) ∧ (0 ≤ z_2 - z_1649 - 1) ∧ (8 - z_1648).toNat = n ∧ va_P D vwCl (rW k a x_taped x_size x_faultKind x_faultPlace x_at x_end x_token x_number x_bank x_rb x_codes x_within x_piled x_unitsInRule x_askBeast x_askStroke x_askAge x_askSeason x_acts x_undone x_laid x_seens x_time x_fitting n_name B_tape B_text B_turns B_herds B_irons B_beasts B_units B_night B_draw B_told B_brands B_ironMarks B_herdTold B_born B_ruleFrom B_ruleTo B_code B_codeNumber B_eWhat B_eSign B_pile B_all B_burned B_was F_1650 B_laidRow B_long8 B_brings B_sBurning B_sStroke B_sIs B_sTold B_sUntold B_parts B_boxAll B_isBoxed G_hName G_iName G_bName ex) H ∧ va_S A s.heap H locs ∧ lv_has ls 4 [(2, .int (mI z_1648)), (1, .int (mI z_1649)), (0, .ref (a 0))] ∧ g = F0 m 11 ls []) ?_ _ ⟨0, (z_2 - 1), B_need, _, by omega, by omega, b_B_need, by omega, rfl, hP, hS, lv_sub hl [0, 1, 2] rfl, rfl⟩
  intro n_1854 H locs g hI ih_1855
  obtain ⟨z_1648, z_1649, F_1650, ls, h11_0, h11_1, bF_1650, h11_3, mn_1854, hP, hS, hl, rfl⟩ := hI
  refine lv_iload_n hx hb dX12_safe_11 rfl (lv_at hl 0 rfl) ?_
  refine lv_aload_n hx hb dX12_safe_12 rfl (lv_at hl 2 rfl) ?_
  refine g_i (rDt hD) hS hA (g_V (own := "HideReaderModel") (As := []) (rest := [.int (mI z_1648)]) hx hb hml hown hts hK hP (rDt hD) (kr_X12_stocks (l := l) (D := D) (k := k) h_x_bank b_B_herds) ck_X12_stocks iv_X12_stocks uw_8_126 (rv_o hK hP) rfl hl.1 rfl (Nat.le_of_ble_eq_true rfl) dX12_safe_13 ⟨Nat.le_of_ble_eq_true rfl, Nat.le_of_ble_eq_true rfl⟩ ⟨Nat.le_of_ble_eq_true rfl, Nat.le_of_ble_eq_true rfl⟩) (fun r_1856 H locs hQ hS => ?_)
  obtain ⟨hr_1856_0, hr_1856_1, hP⟩ := hQ
  refine sy_icmp_ge (tgt := 87) hx hb dX12_safe_16 (by decide) (by omega) (by omega) (fun c_1857 => ?_) (fun c_1857 => ?_)
  · skip
    refine lv_iload_n hx hb dX12_safe_87 rfl (lv_at hl 1 rfl) ?_
    exact r_i hx hb hr hlocks dX12_safe_88 hS ⟨F_1650, by omega, bF_1650, hP⟩
  · skip
    refine lv_aload_n hx hb dX12_safe_19 rfl (lv_at hl 2 rfl) ?_
    refine lv_aload_n hx hb dX12_safe_20 rfl (lv_at hl 2 rfl) ?_
    refine lv_iload_n hx hb dX12_safe_21 rfl (lv_at hl 0 rfl) ?_
    refine g_i (rDt hD) hS hA (g_V (own := "HideReaderModel") (As := [.int (mI z_1648)]) (rest := [.ref (a 0)]) hx hb hml hown hts hK hP (rDt hD) (kr_X12_brandOf (l := l) (D := D) (k := k) (by omega) h_x_bank b_B_brands) ck_X12_brandOf iv_X12_brandOf uw_6_220 (rv_o hK hP) rfl hl.1 rfl (Nat.le_of_ble_eq_true rfl) dX12_safe_22 ⟨Nat.le_of_ble_eq_true rfl, Nat.le_of_ble_eq_true rfl⟩ ⟨Nat.le_of_ble_eq_true rfl, Nat.le_of_ble_eq_true rfl⟩) (fun r_1858 H locs hQ hS => ?_)
    obtain ⟨hr_1858_0, hr_1858_1, hP⟩ := hQ
    refine g_v (rDt hD) hS hA (g_V (own := "HideReaderModel") (As := [.int (mI r_1858)]) (rest := []) hx hb hml hown hts hK hP (rDt hD) (kr_X12_layNeed (l := l) (D := D) (k := k) (by omega) h_x_bank b_B_turns b_B_irons b_B_told b_B_burned bF_1650 g_R) ck_X12_layNeed iv_X12_layNeed uw_9_38 (rv_o hK hP) rfl hl.1 rfl (Nat.le_of_ble_eq_true rfl) dX12_safe_25 ⟨Nat.le_of_ble_eq_true rfl, Nat.le_of_ble_eq_true rfl⟩ ⟨Nat.le_of_ble_eq_true rfl, Nat.le_of_ble_eq_true rfl⟩) (fun H locs hQ hS => ?_)
    obtain ⟨F_1860, bF_1860, hr_1859_1, hP⟩ := hQ
    refine lv_iconst (v := mI 0) hx hb dX12_safe_28 rfl ?_
    refine lv_istore_n (lv' := [(3, .int (mI 0)), (2, .int (mI z_1648)), (1, .int (mI z_1649)), (0, .ref (a 0))]) hx hb dX12_safe_29 rfl hl (by decide) rfl (fun ls hl => ?_)
    refine sy_loop (I := fun n H locs g => ∃ (z_2019 : Int) (z_2020 : Int) (ls : Array Slot), (0 ≤ z_2019 ∧ z_2019 ≤ 8) ∧ (0 ≤ z_2020 ∧ z_2020 ≤ 255) ∧ (0 ≤ z_1649 - z_2020) ∧ (8 - z_2019).toNat = n ∧ va_P D vwCl (rW k a x_taped x_size x_faultKind x_faultPlace x_at x_end x_token x_number x_bank x_rb x_codes x_within x_piled x_unitsInRule x_askBeast x_askStroke x_askAge x_askSeason x_acts x_undone x_laid x_seens x_time x_fitting n_name B_tape B_text B_turns B_herds B_irons B_beasts B_units B_night B_draw B_told B_brands B_ironMarks B_herdTold B_born B_ruleFrom B_ruleTo B_code B_codeNumber B_eWhat B_eSign B_pile B_all B_burned B_was F_1860 B_laidRow B_long8 B_brings B_sBurning B_sStroke B_sIs B_sTold B_sUntold B_parts B_boxAll B_isBoxed G_hName G_iName G_bName ex) H ∧ va_S A s.heap H locs ∧ lv_has ls 4 [(3, .int (mI z_2019)), (2, .int (mI z_1648)), (1, .int (mI z_2020)), (0, .ref (a 0))] ∧ g = F0 m 30 ls []) ?_ _ ⟨0, z_1649, _, by omega, by omega, by omega, rfl, hP, hS, lv_sub hl [0, 1, 2, 3] rfl, rfl⟩
    intro n_2039 H locs g hI ih_2040
    obtain ⟨z_2019, z_2020, ls, h30_0, h30_1, h30_2, mn_2039, hP, hS, hl, rfl⟩ := hI
    refine lv_iload_n hx hb dX12_safe_30 rfl (lv_at hl 0 rfl) ?_
    refine lv_aload_n hx hb dX12_safe_31 rfl (lv_at hl 3 rfl) ?_
    refine g_i (rDt hD) hS hA (g_V (own := "HideReaderModel") (As := []) (rest := [.int (mI z_2019)]) hx hb hml hown hts hK hP (rDt hD) (kr_X12_stocks (l := l) (D := D) (k := k) h_x_bank b_B_herds) ck_X12_stocks iv_X12_stocks uw_8_126 (rv_o hK hP) rfl hl.1 rfl (Nat.le_of_ble_eq_true rfl) dX12_safe_32 ⟨Nat.le_of_ble_eq_true rfl, Nat.le_of_ble_eq_true rfl⟩ ⟨Nat.le_of_ble_eq_true rfl, Nat.le_of_ble_eq_true rfl⟩) (fun r_2041 H locs hQ hS => ?_)
    obtain ⟨hr_2041_0, hr_2041_1, hP⟩ := hQ
    refine sy_icmp_ge (tgt := 81) hx hb dX12_safe_35 (by decide) (by omega) (by omega) (fun c_2042 => ?_) (fun c_2042 => ?_)
    · skip
      refine lv_iinc (v := mI (z_1648 + 1)) (lv' := [(2, .int (mI (z_1648 + 1))), (3, .int (mI z_2019)), (1, .int (mI z_2020)), (0, .ref (a 0))]) hx hb dX12_safe_81 hl (k := 1) rfl (mI_ad rfl) (by decide) rfl (fun ls hl => ?_)
      refine lv_goto (tgt := 11) hx hb dX12_safe_84 (by decide) ?_
      exact ih_1855 _ _ _ _ (by omega) ⟨(z_1648 + 1), z_2020, F_1860, _, by omega, by omega, bF_1860, by omega, rfl, hP, hS, lv_sub hl [0, 2, 3] rfl, rfl⟩
    · skip
      refine lv_aload_n hx hb dX12_safe_38 rfl (lv_at hl 3 rfl) ?_
      refine lv_aload_n hx hb dX12_safe_39 rfl (lv_at hl 3 rfl) ?_
      refine lv_iload_n hx hb dX12_safe_40 rfl (lv_at hl 0 rfl) ?_
      refine g_i (rDt hD) hS hA (g_V (own := "HideReaderModel") (As := [.int (mI z_2019)]) (rest := [.ref (a 0)]) hx hb hml hown hts hK hP (rDt hD) (kr_X12_brandOf (l := l) (D := D) (k := k) (by omega) h_x_bank b_B_brands) ck_X12_brandOf iv_X12_brandOf uw_6_220 (rv_o hK hP) rfl hl.1 rfl (Nat.le_of_ble_eq_true rfl) dX12_safe_41 ⟨Nat.le_of_ble_eq_true rfl, Nat.le_of_ble_eq_true rfl⟩ ⟨Nat.le_of_ble_eq_true rfl, Nat.le_of_ble_eq_true rfl⟩) (fun r_2043 H locs hQ hS => ?_)
      obtain ⟨hr_2043_0, hr_2043_1, hP⟩ := hQ
      refine lv_aload_n hx hb dX12_safe_44 rfl (lv_at hl 3 rfl) ?_
      refine lv_iload_n hx hb dX12_safe_45 rfl (lv_at hl 1 rfl) ?_
      refine g_i (rDt hD) hS hA (g_V (own := "HideReaderModel") (As := [.int (mI z_1648)]) (rest := [.int (mI r_2043), .ref (a 0)]) hx hb hml hown hts hK hP (rDt hD) (kr_X12_brandOf (l := l) (D := D) (k := k) (by omega) h_x_bank b_B_brands) ck_X12_brandOf iv_X12_brandOf uw_6_220 (rv_o hK hP) rfl hl.1 rfl (Nat.le_of_ble_eq_true rfl) dX12_safe_46 ⟨Nat.le_of_ble_eq_true rfl, Nat.le_of_ble_eq_true rfl⟩ ⟨Nat.le_of_ble_eq_true rfl, Nat.le_of_ble_eq_true rfl⟩) (fun r_2044 H locs hQ hS => ?_)
      obtain ⟨hr_2044_0, hr_2044_1, hP⟩ := hQ
      refine g_i (rDt hD) hS hA (g_V (own := "HideReaderModel") (As := [.int (mI r_2043), .int (mI r_2044)]) (rest := []) hx hb hml hown hts hK hP (rDt hD) (kr_X12_areOne (l := l) (D := D) (k := k) (by omega) (by omega) h_x_bank b_B_turns b_B_told g_R) ck_X12_areOne iv_X12_areOne uw_8_210 (rv_o hK hP) rfl hl.1 rfl (Nat.le_of_ble_eq_true rfl) dX12_safe_49 ⟨Nat.le_of_ble_eq_true rfl, Nat.le_of_ble_eq_true rfl⟩ ⟨Nat.le_of_ble_eq_true rfl, Nat.le_of_ble_eq_true rfl⟩) (fun r_2045 H locs hQ hS => ?_)
      obtain ⟨hq_r_2045, hP⟩ := hQ
      rcases hq_r_2045 with ⟨rfl, c_2046_0⟩ | ⟨rfl, c_2047_0⟩
      · skip
        refine sy_if_ne (tgt := 75) hx hb dX12_safe_52 (by decide) (by decide) (fun c9 => absurd c9 (by decide)) (fun c_2048 => ?_)
        refine lv_aload_n hx hb dX12_safe_55 rfl (lv_at hl 3 rfl) ?_
        refine lv_aload_n hx hb dX12_safe_56 rfl (lv_at hl 3 rfl) ?_
        refine lv_iload_n hx hb dX12_safe_57 rfl (lv_at hl 0 rfl) ?_
        refine g_i (rDt hD) hS hA (g_V (own := "HideReaderModel") (As := [.int (mI z_2019)]) (rest := [.ref (a 0)]) hx hb hml hown hts hK hP (rDt hD) (kr_X12_brandOf (l := l) (D := D) (k := k) (by omega) h_x_bank b_B_brands) ck_X12_brandOf iv_X12_brandOf uw_6_220 (rv_o hK hP) rfl hl.1 rfl (Nat.le_of_ble_eq_true rfl) dX12_safe_58 ⟨Nat.le_of_ble_eq_true rfl, Nat.le_of_ble_eq_true rfl⟩ ⟨Nat.le_of_ble_eq_true rfl, Nat.le_of_ble_eq_true rfl⟩) (fun r_2049 H locs hQ hS => ?_)
        obtain ⟨hr_2049_0, hr_2049_1, hP⟩ := hQ
        refine g_i (rDt hD) hS hA (g_V (own := "HideReaderModel") (As := [.int (mI r_2049)]) (rest := []) hx hb hml hown hts hK hP (rDt hD) (kr_X12_canMake (l := l) (D := D) (k := k) (by omega) bF_1860) ck_X12_canMake iv_X12_canMake uw_9_42 (rv_o hK hP) rfl hl.1 rfl (Nat.le_of_ble_eq_true rfl) dX12_safe_61 ⟨Nat.le_of_ble_eq_true rfl, Nat.le_of_ble_eq_true rfl⟩ ⟨Nat.le_of_ble_eq_true rfl, Nat.le_of_ble_eq_true rfl⟩) (fun r_2050 H locs hQ hS => ?_)
        obtain ⟨hq_r_2050, hP⟩ := hQ
        rcases hq_r_2050 with rfl | ⟨rfl, c_2052_0⟩
        · skip
          refine sy_if_eq (tgt := 75) hx hb dX12_safe_64 (by decide) (by decide) (fun c_2053 => ?_) (fun c9 => absurd c9 (by decide))
          refine lv_iinc (v := mI (z_2019 + 1)) (lv' := [(3, .int (mI (z_2019 + 1))), (2, .int (mI z_1648)), (1, .int (mI z_2020)), (0, .ref (a 0))]) hx hb dX12_safe_75 hl (k := 0) rfl (mI_ad rfl) (by decide) rfl (fun ls hl => ?_)
          refine lv_goto (tgt := 30) hx hb dX12_safe_78 (by decide) ?_
          exact ih_2040 _ _ _ _ (by omega) ⟨(z_2019 + 1), z_2020, _, by omega, by omega, by omega, rfl, hP, hS, lv_sub hl [0, 1, 2, 3] rfl, rfl⟩
        · skip
          refine sy_if_eq (tgt := 75) hx hb dX12_safe_64 (by decide) (by decide) (fun c9 => absurd c9 (by decide)) (fun c_2054 => ?_)
          refine lv_iload_n hx hb dX12_safe_67 rfl (lv_at hl 2 rfl) ?_
          refine lv_iconst (v := mI 1) hx hb dX12_safe_68 rfl ?_
          refine lv_iload_n hx hb dX12_safe_69 rfl (lv_at hl 0 rfl) ?_
          refine sy_shl1 hx hb dX12_safe_70 7 (by decide) 128 (by decide) (by omega) (fun z_2055 ez_2055 hz_2055 => ?_)
          refine lv_iconst (v := mI (-1)) hx hb dX12_safe_71 rfl ?_
          refine lv_ixor hx hb dX12_safe_72 ?_
          refine sy_any (fun z_2056 hz_2056 => ?_)
          refine sy_iandL hx hb dX12_safe_73 (by omega) (fun z_2057 hz_2057 => ?_)
          refine lv_istore_n (lv' := [(1, .int (mI z_2057)), (3, .int (mI z_2019)), (2, .int (mI z_1648)), (0, .ref (a 0))]) hx hb dX12_safe_74 rfl hl (by decide) rfl (fun ls hl => ?_)
          refine lv_iinc (v := mI (z_2019 + 1)) (lv' := [(3, .int (mI (z_2019 + 1))), (1, .int (mI z_2057)), (2, .int (mI z_1648)), (0, .ref (a 0))]) hx hb dX12_safe_75 hl (k := 1) rfl (mI_ad rfl) (by decide) rfl (fun ls hl => ?_)
          refine lv_goto (tgt := 30) hx hb dX12_safe_78 (by decide) ?_
          exact ih_2040 _ _ _ _ (by omega) ⟨(z_2019 + 1), z_2057, _, by omega, by omega, by omega, rfl, hP, hS, lv_sub hl [0, 2, 1, 3] rfl, rfl⟩
      · skip
        refine sy_if_ne (tgt := 75) hx hb dX12_safe_52 (by decide) (by decide) (fun c_2058 => ?_) (fun c9 => absurd c9 (by decide))
        refine lv_iinc (v := mI (z_2019 + 1)) (lv' := [(3, .int (mI (z_2019 + 1))), (2, .int (mI z_1648)), (1, .int (mI z_2020)), (0, .ref (a 0))]) hx hb dX12_safe_75 hl (k := 0) rfl (mI_ad rfl) (by decide) rfl (fun ls hl => ?_)
        refine lv_goto (tgt := 30) hx hb dX12_safe_78 (by decide) ?_
        exact ih_2040 _ _ _ _ (by omega) ⟨(z_2019 + 1), z_2020, _, by omega, by omega, by omega, rfl, hP, hS, lv_sub hl [0, 1, 2, 3] rfl, rfl⟩
set_option maxHeartbeats 4000000 in
set_option maxRecDepth 100000 in
theorem kr_X12_king {p0 : Int} (hp0 : -2147483648 ≤ p0 ∧ p0 ≤ 2147483647) (h_x_bank : 0 ≤ x_bank ∧ x_bank ≤ 1) (b_B_turns : bd (0) 4 B_turns) (b_B_herds : bd (0) 8 B_herds) (b_B_irons : bd (0) 6 B_irons) (b_B_told : bd (0) 31 B_told) (b_B_brands : bd (0) 4095 B_brands) (b_B_burned : bd (0) 4095 B_burned) (b_B_need : bd (0) 100 B_need) (g_R : 1 ≤ B_turns x_bank.toNat ∧ ¬ B_turns x_bank.toNat = 3) : MetG l D k yX12_king cX12_king 7 (some .int) 5 [.ref (a 0), .int (mI p0)] (rW k a x_taped x_size x_faultKind x_faultPlace x_at x_end x_token x_number x_bank x_rb x_codes x_within x_piled x_unitsInRule x_askBeast x_askStroke x_askAge x_askSeason x_acts x_undone x_laid x_seens x_time x_fitting n_name B_tape B_text B_turns B_herds B_irons B_beasts B_units B_night B_draw B_told B_brands B_ironMarks B_herdTold B_born B_ruleFrom B_ruleTo B_code B_codeNumber B_eWhat B_eSign B_pile B_all B_burned B_was B_need B_laidRow B_long8 B_brings B_sBurning B_sStroke B_sIs B_sTold B_sUntold B_parts B_boxAll B_isBoxed G_hName G_iName G_bName ex) (qGi (fun r0 H => ∃ (F_need : Nat → Int), (-1 ≤ r0 ∧ r0 ≤ 8) ∧ (bd (0) 100 F_need) ∧ va_P D vwCl (rW k a x_taped x_size x_faultKind x_faultPlace x_at x_end x_token x_number x_bank x_rb x_codes x_within x_piled x_unitsInRule x_askBeast x_askStroke x_askAge x_askSeason x_acts x_undone x_laid x_seens x_time x_fitting n_name B_tape B_text B_turns B_herds B_irons B_beasts B_units B_night B_draw B_told B_brands B_ironMarks B_herdTold B_born B_ruleFrom B_ruleTo B_code B_codeNumber B_eWhat B_eSign B_pile B_all B_burned B_was F_need B_laidRow B_long8 B_brings B_sBurning B_sStroke B_sIs B_sTold B_sUntold B_parts B_boxAll B_isBoxed G_hName G_iName G_bName ex) H)) := by
  refine metG_of 1 ck_X12_king (Nat.le_of_ble_eq_true rfl) rMap (fun p e s m args below meth c A hx hb hml hr hlocks hown hts hK hD hA hP hS ls hl => ?_)
  have hown : s.vm.findClass "HideReaderModel" = some m.cls := hown
  have hl : lv_has ls 7 [(0, .ref (a 0)), (1, .int (mI p0))] := hl
  refine lv_iload_n hx hb dX12_king_0 rfl (lv_at hl 1 rfl) ?_
  refine lv_iconst (v := mI 0) hx hb dX12_king_1 rfl ?_
  refine lv_iconst (v := mI 1) hx hb dX12_king_2 rfl ?_
  refine g_i (rDt hD) hS hA (g_S (own := "HideReaderModel") (As := [.int (mI p0), .int (mI 0), .int (mI 1)]) (rest := []) hx hb hml hown hts hK hP (rDt hD) (kr_X12_isIn (l := l) (D := D) (k := k) (by omega) (by decide) (by decide)) ck_X12_isIn uw_8_131 uw_8_130 rfl hl.1 rfl (Nat.le_of_ble_eq_true rfl) dX12_king_3 ⟨Nat.le_of_ble_eq_true rfl, Nat.le_of_ble_eq_true rfl⟩ ⟨Nat.le_of_ble_eq_true rfl, Nat.le_of_ble_eq_true rfl⟩) (fun r_1 H locs hQ hS => ?_)
  obtain ⟨hq_r_1, hP⟩ := hQ
  rcases hq_r_1 with ⟨rfl, c_2_0⟩ | ⟨rfl, c_3_0, c_3_1⟩
  · skip
    refine sy_if_ne (tgt := 11) hx hb dX12_king_6 (by decide) (by decide) (fun c9 => absurd c9 (by decide)) (fun c_4 => ?_)
    refine lv_iconst (v := mI (-1)) hx hb dX12_king_9 rfl ?_
    exact r_i hx hb hr hlocks dX12_king_10 hS ⟨B_need, by omega, b_B_need, hP⟩
  · skip
    refine sy_if_ne (tgt := 11) hx hb dX12_king_6 (by decide) (by decide) (fun c_5 => ?_) (fun c9 => absurd c9 (by decide))
    refine lv_iconst (v := mI (-1)) hx hb dX12_king_11 rfl ?_
    refine lv_istore_n (lv' := [(2, .int (mI (-1))), (0, .ref (a 0)), (1, .int (mI p0))]) hx hb dX12_king_12 rfl hl (by decide) rfl (fun ls hl => ?_)
    refine lv_iconst (v := mI (-1)) hx hb dX12_king_13 rfl ?_
    refine lv_istore_n (lv' := [(3, .int (mI (-1))), (2, .int (mI (-1))), (0, .ref (a 0)), (1, .int (mI p0))]) hx hb dX12_king_14 rfl hl (by decide) rfl (fun ls hl => ?_)
    refine lv_iconst (v := mI 0) hx hb dX12_king_15 rfl ?_
    refine lv_istore (lv' := [(4, .int (mI 0)), (3, .int (mI (-1))), (2, .int (mI (-1))), (0, .ref (a 0)), (1, .int (mI p0))]) hx hb dX12_king_16 hl (by decide) rfl (fun ls hl => ?_)
    refine sy_loop (I := fun n H locs g => ∃ (z_7184 : Int) (z_7185 : Int) (z_7186 : Int) (F_7187 : Nat → Int) (ls : Array Slot), (0 ≤ z_7184 ∧ z_7184 ≤ 8) ∧ (-1 ≤ z_7185 ∧ z_7185 ≤ 8) ∧ (-1 ≤ z_7186 ∧ z_7186 ≤ 7) ∧ (bd (0) 100 F_7187) ∧ (0 ≤ z_7184 - z_7186) ∧ (8 - z_7184).toNat = n ∧ va_P D vwCl (rW k a x_taped x_size x_faultKind x_faultPlace x_at x_end x_token x_number x_bank x_rb x_codes x_within x_piled x_unitsInRule x_askBeast x_askStroke x_askAge x_askSeason x_acts x_undone x_laid x_seens x_time x_fitting n_name B_tape B_text B_turns B_herds B_irons B_beasts B_units B_night B_draw B_told B_brands B_ironMarks B_herdTold B_born B_ruleFrom B_ruleTo B_code B_codeNumber B_eWhat B_eSign B_pile B_all B_burned B_was F_7187 B_laidRow B_long8 B_brings B_sBurning B_sStroke B_sIs B_sTold B_sUntold B_parts B_boxAll B_isBoxed G_hName G_iName G_bName ex) H ∧ va_S A s.heap H locs ∧ lv_has ls 7 [(4, .int (mI z_7184)), (3, .int (mI z_7185)), (2, .int (mI z_7186)), (0, .ref (a 0)), (1, .int (mI p0))] ∧ g = F0 m 18 ls []) ?_ _ ⟨0, (-1), (-1), B_need, _, by omega, by omega, by omega, b_B_need, by omega, rfl, hP, hS, lv_sub hl [0, 1, 2, 3, 4] rfl, rfl⟩
    intro n_7632 H locs g hI ih_7633
    obtain ⟨z_7184, z_7185, z_7186, F_7187, ls, h18_0, h18_1, h18_2, bF_7187, h18_4, mn_7632, hP, hS, hl, rfl⟩ := hI
    refine lv_iload hx hb dX12_king_18 (lv_at hl 0 rfl) ?_
    refine lv_aload_n hx hb dX12_king_20 rfl (lv_at hl 3 rfl) ?_
    refine g_i (rDt hD) hS hA (g_V (own := "HideReaderModel") (As := []) (rest := [.int (mI z_7184)]) hx hb hml hown hts hK hP (rDt hD) (kr_X12_stocks (l := l) (D := D) (k := k) h_x_bank b_B_herds) ck_X12_stocks iv_X12_stocks uw_8_126 (rv_o hK hP) rfl hl.1 rfl (Nat.le_of_ble_eq_true rfl) dX12_king_21 ⟨Nat.le_of_ble_eq_true rfl, Nat.le_of_ble_eq_true rfl⟩ ⟨Nat.le_of_ble_eq_true rfl, Nat.le_of_ble_eq_true rfl⟩) (fun r_7634 H locs hQ hS => ?_)
    obtain ⟨hr_7634_0, hr_7634_1, hP⟩ := hQ
    refine sy_icmp_ge (tgt := 109) hx hb dX12_king_24 (by decide) (by omega) (by omega) (fun c_7856 => ?_) (fun c_7856 => ?_)
    · skip
      refine lv_iload_n hx hb dX12_king_109 rfl (lv_at hl 4 rfl) ?_
      refine sy_if_ne (tgt := 117) hx hb dX12_king_110 (by decide) (by omega) (fun c_7857 => ?_) (fun c_7857 => ?_)
      · skip
        refine lv_iload_n hx hb dX12_king_117 rfl (lv_at hl 1 rfl) ?_
        exact r_i hx hb hr hlocks dX12_king_118 hS ⟨F_7187, by omega, bF_7187, hP⟩
      · skip
        refine lv_iload_n hx hb dX12_king_113 rfl (lv_at hl 2 rfl) ?_
        refine lv_goto (tgt := 118) hx hb dX12_king_114 (by decide) ?_
        exact r_i hx hb hr hlocks dX12_king_118 hS ⟨F_7187, by omega, bF_7187, hP⟩
    · skip
      refine lv_aload_n hx hb dX12_king_27 rfl (lv_at hl 3 rfl) ?_
      refine lv_aload_n hx hb dX12_king_28 rfl (lv_at hl 3 rfl) ?_
      refine lv_iload hx hb dX12_king_29 (lv_at hl 0 rfl) ?_
      refine g_i (rDt hD) hS hA (g_V (own := "HideReaderModel") (As := [.int (mI z_7184)]) (rest := [.ref (a 0)]) hx hb hml hown hts hK hP (rDt hD) (kr_X12_brandOf (l := l) (D := D) (k := k) (by omega) h_x_bank b_B_brands) ck_X12_brandOf iv_X12_brandOf uw_6_220 (rv_o hK hP) rfl hl.1 rfl (Nat.le_of_ble_eq_true rfl) dX12_king_31 ⟨Nat.le_of_ble_eq_true rfl, Nat.le_of_ble_eq_true rfl⟩ ⟨Nat.le_of_ble_eq_true rfl, Nat.le_of_ble_eq_true rfl⟩) (fun r_7858 H locs hQ hS => ?_)
      obtain ⟨hr_7858_0, hr_7858_1, hP⟩ := hQ
      refine g_v (rDt hD) hS hA (g_V (own := "HideReaderModel") (As := [.int (mI r_7858)]) (rest := []) hx hb hml hown hts hK hP (rDt hD) (kr_X12_layNeed (l := l) (D := D) (k := k) (by omega) h_x_bank b_B_turns b_B_irons b_B_told b_B_burned bF_7187 g_R) ck_X12_layNeed iv_X12_layNeed uw_9_38 (rv_o hK hP) rfl hl.1 rfl (Nat.le_of_ble_eq_true rfl) dX12_king_34 ⟨Nat.le_of_ble_eq_true rfl, Nat.le_of_ble_eq_true rfl⟩ ⟨Nat.le_of_ble_eq_true rfl, Nat.le_of_ble_eq_true rfl⟩) (fun H locs hQ hS => ?_)
      obtain ⟨F_7860, bF_7860, hr_7859_1, hP⟩ := hQ
      refine lv_iconst (v := mI 0) hx hb dX12_king_37 rfl ?_
      refine lv_istore (lv' := [(5, .int (mI 0)), (4, .int (mI z_7184)), (3, .int (mI z_7185)), (2, .int (mI z_7186)), (0, .ref (a 0)), (1, .int (mI p0))]) hx hb dX12_king_38 hl (by decide) rfl (fun ls hl => ?_)
      refine lv_iconst (v := mI 0) hx hb dX12_king_40 rfl ?_
      refine lv_istore (lv' := [(6, .int (mI 0)), (5, .int (mI 0)), (4, .int (mI z_7184)), (3, .int (mI z_7185)), (2, .int (mI z_7186)), (0, .ref (a 0)), (1, .int (mI p0))]) hx hb dX12_king_41 hl (by decide) rfl (fun ls hl => ?_)
      refine sy_loop (I := fun n H locs g => ∃ (z_8038 : Int) (z_8039 : Int) (ls : Array Slot), (0 ≤ z_8038 ∧ z_8038 ≤ 8) ∧ (0 ≤ z_8039 ∧ z_8039 ≤ 8) ∧ (0 ≤ z_8038 - z_8039) ∧ (8 - z_8038).toNat = n ∧ va_P D vwCl (rW k a x_taped x_size x_faultKind x_faultPlace x_at x_end x_token x_number x_bank x_rb x_codes x_within x_piled x_unitsInRule x_askBeast x_askStroke x_askAge x_askSeason x_acts x_undone x_laid x_seens x_time x_fitting n_name B_tape B_text B_turns B_herds B_irons B_beasts B_units B_night B_draw B_told B_brands B_ironMarks B_herdTold B_born B_ruleFrom B_ruleTo B_code B_codeNumber B_eWhat B_eSign B_pile B_all B_burned B_was F_7860 B_laidRow B_long8 B_brings B_sBurning B_sStroke B_sIs B_sTold B_sUntold B_parts B_boxAll B_isBoxed G_hName G_iName G_bName ex) H ∧ va_S A s.heap H locs ∧ lv_has ls 7 [(6, .int (mI z_8038)), (5, .int (mI z_8039)), (4, .int (mI z_7184)), (3, .int (mI z_7185)), (2, .int (mI z_7186)), (0, .ref (a 0)), (1, .int (mI p0))] ∧ g = F0 m 43 ls []) ?_ _ ⟨0, 0, _, by omega, by omega, by omega, rfl, hP, hS, lv_sub hl [0, 1, 2, 3, 4, 5, 6] rfl, rfl⟩
      intro n_8058 H locs g hI ih_8059
      obtain ⟨z_8038, z_8039, ls, h43_0, h43_1, h43_2, mn_8058, hP, hS, hl, rfl⟩ := hI
      refine lv_iload hx hb dX12_king_43 (lv_at hl 0 rfl) ?_
      refine lv_aload_n hx hb dX12_king_45 rfl (lv_at hl 5 rfl) ?_
      refine g_i (rDt hD) hS hA (g_V (own := "HideReaderModel") (As := []) (rest := [.int (mI z_8038)]) hx hb hml hown hts hK hP (rDt hD) (kr_X12_stocks (l := l) (D := D) (k := k) h_x_bank b_B_herds) ck_X12_stocks iv_X12_stocks uw_8_126 (rv_o hK hP) rfl hl.1 rfl (Nat.le_of_ble_eq_true rfl) dX12_king_46 ⟨Nat.le_of_ble_eq_true rfl, Nat.le_of_ble_eq_true rfl⟩ ⟨Nat.le_of_ble_eq_true rfl, Nat.le_of_ble_eq_true rfl⟩) (fun r_8060 H locs hQ hS => ?_)
      obtain ⟨hr_8060_0, hr_8060_1, hP⟩ := hQ
      refine sy_icmp_ge (tgt := 88) hx hb dX12_king_49 (by decide) (by omega) (by omega) (fun c_8069 => ?_) (fun c_8069 => ?_)
      · skip
        refine lv_iload hx hb dX12_king_88 (lv_at hl 1 rfl) ?_
        refine lv_iload_n hx hb dX12_king_90 rfl (lv_at hl 3 rfl) ?_
        refine sy_icmp_gt (tgt := 97) hx hb dX12_king_91 (by decide) (by omega) (by omega) (fun c_8070 => ?_) (fun c_8070 => ?_)
        · skip
          refine lv_iload hx hb dX12_king_97 (lv_at hl 2 rfl) ?_
          refine lv_istore_n (lv' := [(2, .int (mI z_7184)), (6, .int (mI z_8038)), (5, .int (mI z_8039)), (4, .int (mI z_7184)), (3, .int (mI z_7185)), (0, .ref (a 0)), (1, .int (mI p0))]) hx hb dX12_king_99 rfl hl (by decide) rfl (fun ls hl => ?_)
          refine lv_iload hx hb dX12_king_100 (lv_at hl 2 rfl) ?_
          refine lv_istore_n (lv' := [(3, .int (mI z_8039)), (2, .int (mI z_7184)), (6, .int (mI z_8038)), (5, .int (mI z_8039)), (4, .int (mI z_7184)), (0, .ref (a 0)), (1, .int (mI p0))]) hx hb dX12_king_102 rfl hl (by decide) rfl (fun ls hl => ?_)
          refine lv_iinc (v := mI (z_7184 + 1)) (lv' := [(4, .int (mI (z_7184 + 1))), (3, .int (mI z_8039)), (2, .int (mI z_7184)), (6, .int (mI z_8038)), (5, .int (mI z_8039)), (0, .ref (a 0)), (1, .int (mI p0))]) hx hb dX12_king_103 hl (k := 4) rfl (mI_ad rfl) (by decide) rfl (fun ls hl => ?_)
          refine lv_goto (tgt := 18) hx hb dX12_king_106 (by decide) ?_
          exact ih_7633 _ _ _ _ (by omega) ⟨(z_7184 + 1), z_8039, z_7184, F_7860, _, by omega, by omega, by omega, bF_7860, by omega, rfl, hP, hS, lv_sub hl [0, 1, 2, 5, 6] rfl, rfl⟩
        · skip
          refine lv_goto (tgt := 103) hx hb dX12_king_94 (by decide) ?_
          refine lv_iinc (v := mI (z_7184 + 1)) (lv' := [(4, .int (mI (z_7184 + 1))), (6, .int (mI z_8038)), (5, .int (mI z_8039)), (3, .int (mI z_7185)), (2, .int (mI z_7186)), (0, .ref (a 0)), (1, .int (mI p0))]) hx hb dX12_king_103 hl (k := 2) rfl (mI_ad rfl) (by decide) rfl (fun ls hl => ?_)
          refine lv_goto (tgt := 18) hx hb dX12_king_106 (by decide) ?_
          exact ih_7633 _ _ _ _ (by omega) ⟨(z_7184 + 1), z_7185, z_7186, F_7860, _, by omega, by omega, by omega, bF_7860, by omega, rfl, hP, hS, lv_sub hl [0, 3, 4, 5, 6] rfl, rfl⟩
      · skip
        refine lv_iload hx hb dX12_king_52 (lv_at hl 1 rfl) ?_
        refine lv_iload hx hb dX12_king_54 (lv_at hl 0 rfl) ?_
        refine lv_iload hx hb dX12_king_56 (lv_at hl 2 rfl) ?_
        refine sy_icmp_eq (tgt := 78) hx hb dX12_king_58 (by decide) (by omega) (by omega) (fun c_8071 => ?_) (fun c_8071 => ?_)
        · skip
          refine lv_iconst (v := mI 0) hx hb dX12_king_78 rfl ?_
          refine sy_iadd hx hb dX12_king_79 z_8039 (by omega) ?_
          refine lv_istore (lv' := [(5, .int (mI z_8039)), (6, .int (mI z_8038)), (4, .int (mI z_7184)), (3, .int (mI z_7185)), (2, .int (mI z_7186)), (0, .ref (a 0)), (1, .int (mI p0))]) hx hb dX12_king_80 hl (by decide) rfl (fun ls hl => ?_)
          refine lv_iinc (v := mI (z_8038 + 1)) (lv' := [(6, .int (mI (z_8038 + 1))), (5, .int (mI z_8039)), (4, .int (mI z_7184)), (3, .int (mI z_7185)), (2, .int (mI z_7186)), (0, .ref (a 0)), (1, .int (mI p0))]) hx hb dX12_king_82 hl (k := 1) rfl (mI_ad rfl) (by decide) rfl (fun ls hl => ?_)
          refine lv_goto (tgt := 43) hx hb dX12_king_85 (by decide) ?_
          exact ih_8059 _ _ _ _ (by omega) ⟨(z_8038 + 1), z_8039, _, by omega, by omega, by omega, rfl, hP, hS, lv_sub hl [0, 1, 2, 3, 4, 5, 6] rfl, rfl⟩
        · skip
          refine lv_aload_n hx hb dX12_king_61 rfl (lv_at hl 5 rfl) ?_
          refine lv_aload_n hx hb dX12_king_62 rfl (lv_at hl 5 rfl) ?_
          refine lv_iload hx hb dX12_king_63 (lv_at hl 0 rfl) ?_
          refine g_i (rDt hD) hS hA (g_V (own := "HideReaderModel") (As := [.int (mI z_8038)]) (rest := [.ref (a 0), .int (mI z_8039)]) hx hb hml hown hts hK hP (rDt hD) (kr_X12_brandOf (l := l) (D := D) (k := k) (by omega) h_x_bank b_B_brands) ck_X12_brandOf iv_X12_brandOf uw_6_220 (rv_o hK hP) rfl hl.1 rfl (Nat.le_of_ble_eq_true rfl) dX12_king_65 ⟨Nat.le_of_ble_eq_true rfl, Nat.le_of_ble_eq_true rfl⟩ ⟨Nat.le_of_ble_eq_true rfl, Nat.le_of_ble_eq_true rfl⟩) (fun r_8072 H locs hQ hS => ?_)
          obtain ⟨hr_8072_0, hr_8072_1, hP⟩ := hQ
          refine g_i (rDt hD) hS hA (g_V (own := "HideReaderModel") (As := [.int (mI r_8072)]) (rest := [.int (mI z_8039)]) hx hb hml hown hts hK hP (rDt hD) (kr_X12_canMake (l := l) (D := D) (k := k) (by omega) bF_7860) ck_X12_canMake iv_X12_canMake uw_9_42 (rv_o hK hP) rfl hl.1 rfl (Nat.le_of_ble_eq_true rfl) dX12_king_68 ⟨Nat.le_of_ble_eq_true rfl, Nat.le_of_ble_eq_true rfl⟩ ⟨Nat.le_of_ble_eq_true rfl, Nat.le_of_ble_eq_true rfl⟩) (fun r_8073 H locs hQ hS => ?_)
          obtain ⟨hq_r_8073, hP⟩ := hQ
          rcases hq_r_8073 with rfl | ⟨rfl, c_8075_0⟩
          · skip
            refine sy_if_eq (tgt := 78) hx hb dX12_king_71 (by decide) (by decide) (fun c_8076 => ?_) (fun c9 => absurd c9 (by decide))
            refine lv_iconst (v := mI 0) hx hb dX12_king_78 rfl ?_
            refine sy_iadd hx hb dX12_king_79 z_8039 (by omega) ?_
            refine lv_istore (lv' := [(5, .int (mI z_8039)), (6, .int (mI z_8038)), (4, .int (mI z_7184)), (3, .int (mI z_7185)), (2, .int (mI z_7186)), (0, .ref (a 0)), (1, .int (mI p0))]) hx hb dX12_king_80 hl (by decide) rfl (fun ls hl => ?_)
            refine lv_iinc (v := mI (z_8038 + 1)) (lv' := [(6, .int (mI (z_8038 + 1))), (5, .int (mI z_8039)), (4, .int (mI z_7184)), (3, .int (mI z_7185)), (2, .int (mI z_7186)), (0, .ref (a 0)), (1, .int (mI p0))]) hx hb dX12_king_82 hl (k := 1) rfl (mI_ad rfl) (by decide) rfl (fun ls hl => ?_)
            refine lv_goto (tgt := 43) hx hb dX12_king_85 (by decide) ?_
            exact ih_8059 _ _ _ _ (by omega) ⟨(z_8038 + 1), z_8039, _, by omega, by omega, by omega, rfl, hP, hS, lv_sub hl [0, 1, 2, 3, 4, 5, 6] rfl, rfl⟩
          · skip
            refine sy_if_eq (tgt := 78) hx hb dX12_king_71 (by decide) (by decide) (fun c9 => absurd c9 (by decide)) (fun c_8077 => ?_)
            refine lv_iconst (v := mI 1) hx hb dX12_king_74 rfl ?_
            refine lv_goto (tgt := 79) hx hb dX12_king_75 (by decide) ?_
            refine sy_iadd hx hb dX12_king_79 (z_8039 + 1) rfl ?_
            refine lv_istore (lv' := [(5, .int (mI (z_8039 + 1))), (6, .int (mI z_8038)), (4, .int (mI z_7184)), (3, .int (mI z_7185)), (2, .int (mI z_7186)), (0, .ref (a 0)), (1, .int (mI p0))]) hx hb dX12_king_80 hl (by decide) rfl (fun ls hl => ?_)
            refine lv_iinc (v := mI (z_8038 + 1)) (lv' := [(6, .int (mI (z_8038 + 1))), (5, .int (mI (z_8039 + 1))), (4, .int (mI z_7184)), (3, .int (mI z_7185)), (2, .int (mI z_7186)), (0, .ref (a 0)), (1, .int (mI p0))]) hx hb dX12_king_82 hl (k := 1) rfl (mI_ad rfl) (by decide) rfl (fun ls hl => ?_)
            refine lv_goto (tgt := 43) hx hb dX12_king_85 (by decide) ?_
            exact ih_8059 _ _ _ _ (by omega) ⟨(z_8038 + 1), (z_8039 + 1), _, by omega, by omega, by omega, rfl, hP, hS, lv_sub hl [0, 1, 2, 3, 4, 5, 6] rfl, rfl⟩
set_option maxHeartbeats 4000000 in
set_option maxRecDepth 100000 in
theorem kr_X12_tempt {p0 p1 : Int} (hp0 : -2147483648 ≤ p0 ∧ p0 ≤ 2147483647) (hp1 : -2147483648 ≤ p1 ∧ p1 ≤ 2147483647) (h_x_bank : 0 ≤ x_bank ∧ x_bank ≤ 1) (b_B_turns : bd (0) 4 B_turns) (b_B_herds : bd (0) 8 B_herds) (b_B_irons : bd (0) 6 B_irons) (b_B_beasts : bd (0) 8 B_beasts) (b_B_told : bd (0) 31 B_told) (b_B_brands : bd (0) 4095 B_brands) (b_B_all : bA B_all) (b_B_burned : bd (0) 4095 B_burned) (b_B_need : bd (0) 100 B_need) (g_R : 1 ≤ B_turns x_bank.toNat ∧ ¬ B_turns x_bank.toNat = 3) : MetG l D k yX12_tempt cX12_tempt 7 (some .int) 5 [.ref (a 0), .int (mI p0), .int (mI p1)] (rW k a x_taped x_size x_faultKind x_faultPlace x_at x_end x_token x_number x_bank x_rb x_codes x_within x_piled x_unitsInRule x_askBeast x_askStroke x_askAge x_askSeason x_acts x_undone x_laid x_seens x_time x_fitting n_name B_tape B_text B_turns B_herds B_irons B_beasts B_units B_night B_draw B_told B_brands B_ironMarks B_herdTold B_born B_ruleFrom B_ruleTo B_code B_codeNumber B_eWhat B_eSign B_pile B_all B_burned B_was B_need B_laidRow B_long8 B_brings B_sBurning B_sStroke B_sIs B_sTold B_sUntold B_parts B_boxAll B_isBoxed G_hName G_iName G_bName ex) (qGi (fun r0 H => ∃ (F_need : Nat → Int), (-1 ≤ r0 ∧ r0 ≤ 100) ∧ (bd (0) 100 F_need) ∧ va_P D vwCl (rW k a x_taped x_size x_faultKind x_faultPlace x_at x_end x_token x_number x_bank x_rb x_codes x_within x_piled x_unitsInRule x_askBeast x_askStroke x_askAge x_askSeason x_acts x_undone x_laid x_seens x_time x_fitting n_name B_tape B_text B_turns B_herds B_irons B_beasts B_units B_night B_draw B_told B_brands B_ironMarks B_herdTold B_born B_ruleFrom B_ruleTo B_code B_codeNumber B_eWhat B_eSign B_pile B_all B_burned B_was F_need B_laidRow B_long8 B_brings B_sBurning B_sStroke B_sIs B_sTold B_sUntold B_parts B_boxAll B_isBoxed G_hName G_iName G_bName ex) H)) := by
  refine metG_of 2 ck_X12_tempt (Nat.le_of_ble_eq_true rfl) rMap (fun p e s m args below meth c A hx hb hml hr hlocks hown hts hK hD hA hP hS ls hl => ?_)
  have hown : s.vm.findClass "HideReaderModel" = some m.cls := hown
  have hl : lv_has ls 7 [(0, .ref (a 0)), (1, .int (mI p0)), (2, .int (mI p1))] := hl
  refine lv_aload_n hx hb dX12_tempt_0 rfl (lv_at hl 0 rfl) ?_
  refine lv_iload_n hx hb dX12_tempt_1 rfl (lv_at hl 1 rfl) ?_
  refine g_i (rDt hD) hS hA (g_V (own := "HideReaderModel") (As := [.int (mI p0)]) (rest := []) hx hb hml hown hts hK hP (rDt hD) (kr_X12_isBeast (l := l) (D := D) (k := k) (by omega) h_x_bank b_B_beasts) ck_X12_isBeast iv_X12_isBeast uw_8_145 (rv_o hK hP) rfl hl.1 rfl (Nat.le_of_ble_eq_true rfl) dX12_tempt_2 ⟨Nat.le_of_ble_eq_true rfl, Nat.le_of_ble_eq_true rfl⟩ ⟨Nat.le_of_ble_eq_true rfl, Nat.le_of_ble_eq_true rfl⟩) (fun r_1 H locs hQ hS => ?_)
  obtain ⟨hq_r_1, hP⟩ := hQ
  rcases hq_r_1 with rfl | ⟨rfl, c_3_0⟩
  · skip
    refine sy_if_eq (tgt := 17) hx hb dX12_tempt_5 (by decide) (by decide) (fun c_4 => ?_) (fun c9 => absurd c9 (by decide))
    refine lv_iconst (v := mI (-1)) hx hb dX12_tempt_17 rfl ?_
    exact r_i hx hb hr hlocks dX12_tempt_18 hS ⟨B_need, by omega, b_B_need, hP⟩
  · skip
    refine sy_if_eq (tgt := 17) hx hb dX12_tempt_5 (by decide) (by decide) (fun c9 => absurd c9 (by decide)) (fun c_5 => ?_)
    refine lv_iload_n hx hb dX12_tempt_8 rfl (lv_at hl 2 rfl) ?_
    refine lv_iconst (v := mI 0) hx hb dX12_tempt_9 rfl ?_
    refine lv_iconst (v := mI 1) hx hb dX12_tempt_10 rfl ?_
    refine g_i (rDt hD) hS hA (g_S (own := "HideReaderModel") (As := [.int (mI p1), .int (mI 0), .int (mI 1)]) (rest := []) hx hb hml hown hts hK hP (rDt hD) (kr_X12_isIn (l := l) (D := D) (k := k) (by omega) (by decide) (by decide)) ck_X12_isIn uw_8_131 uw_8_130 rfl hl.1 rfl (Nat.le_of_ble_eq_true rfl) dX12_tempt_11 ⟨Nat.le_of_ble_eq_true rfl, Nat.le_of_ble_eq_true rfl⟩ ⟨Nat.le_of_ble_eq_true rfl, Nat.le_of_ble_eq_true rfl⟩) (fun r_6 H locs hQ hS => ?_)
    obtain ⟨hq_r_6, hP⟩ := hQ
    rcases hq_r_6 with ⟨rfl, c_7_0⟩ | ⟨rfl, c_8_0, c_8_1⟩
    · skip
      refine sy_if_ne (tgt := 19) hx hb dX12_tempt_14 (by decide) (by decide) (fun c9 => absurd c9 (by decide)) (fun c_9 => ?_)
      refine lv_iconst (v := mI (-1)) hx hb dX12_tempt_17 rfl ?_
      exact r_i hx hb hr hlocks dX12_tempt_18 hS ⟨B_need, by omega, b_B_need, hP⟩
    · skip
      refine sy_if_ne (tgt := 19) hx hb dX12_tempt_14 (by decide) (by decide) (fun c_10 => ?_) (fun c9 => absurd c9 (by decide))
      refine lv_iconst (v := mI (-1)) hx hb dX12_tempt_19 rfl ?_
      refine lv_istore_n (lv' := [(3, .int (mI (-1))), (0, .ref (a 0)), (1, .int (mI p0)), (2, .int (mI p1))]) hx hb dX12_tempt_20 rfl hl (by decide) rfl (fun ls hl => ?_)
      refine lv_bipush (v := mI 100) hx hb dX12_tempt_21 (by decide) ?_
      refine lv_istore (lv' := [(4, .int (mI 100)), (3, .int (mI (-1))), (0, .ref (a 0)), (1, .int (mI p0)), (2, .int (mI p1))]) hx hb dX12_tempt_23 hl (by decide) rfl (fun ls hl => ?_)
      refine lv_iconst (v := mI 0) hx hb dX12_tempt_25 rfl ?_
      refine lv_istore (lv' := [(5, .int (mI 0)), (4, .int (mI 100)), (3, .int (mI (-1))), (0, .ref (a 0)), (1, .int (mI p0)), (2, .int (mI p1))]) hx hb dX12_tempt_26 hl (by decide) rfl (fun ls hl => ?_)
      refine sy_loop (I := fun n H locs g => ∃ (z_356 : Int) (z_357 : Int) (z_358 : Int) (F_359 : Nat → Int) (ls : Array Slot), (0 ≤ z_356 ∧ z_356 ≤ 8) ∧ (0 ≤ z_357 ∧ z_357 ≤ 100) ∧ (-1 ≤ z_358 ∧ z_358 ≤ 7) ∧ (bd (0) 100 F_359) ∧ (0 ≤ z_356 - z_358) ∧ (8 - z_356).toNat = n ∧ va_P D vwCl (rW k a x_taped x_size x_faultKind x_faultPlace x_at x_end x_token x_number x_bank x_rb x_codes x_within x_piled x_unitsInRule x_askBeast x_askStroke x_askAge x_askSeason x_acts x_undone x_laid x_seens x_time x_fitting n_name B_tape B_text B_turns B_herds B_irons B_beasts B_units B_night B_draw B_told B_brands B_ironMarks B_herdTold B_born B_ruleFrom B_ruleTo B_code B_codeNumber B_eWhat B_eSign B_pile B_all B_burned B_was F_359 B_laidRow B_long8 B_brings B_sBurning B_sStroke B_sIs B_sTold B_sUntold B_parts B_boxAll B_isBoxed G_hName G_iName G_bName ex) H ∧ va_S A s.heap H locs ∧ lv_has ls 7 [(5, .int (mI z_356)), (4, .int (mI z_357)), (3, .int (mI z_358)), (0, .ref (a 0)), (1, .int (mI p0)), (2, .int (mI p1))] ∧ g = F0 m 28 ls []) ?_ _ ⟨0, 100, (-1), B_need, _, by omega, by omega, by omega, b_B_need, by omega, rfl, hP, hS, lv_sub hl [0, 1, 2, 3, 4, 5] rfl, rfl⟩
      intro n_391 H locs g hI ih_392
      obtain ⟨z_356, z_357, z_358, F_359, ls, h28_0, h28_1, h28_2, bF_359, h28_4, mn_391, hP, hS, hl, rfl⟩ := hI
      refine lv_iload hx hb dX12_tempt_28 (lv_at hl 0 rfl) ?_
      refine lv_aload_n hx hb dX12_tempt_30 rfl (lv_at hl 3 rfl) ?_
      refine g_i (rDt hD) hS hA (g_V (own := "HideReaderModel") (As := []) (rest := [.int (mI z_356)]) hx hb hml hown hts hK hP (rDt hD) (kr_X12_stocks (l := l) (D := D) (k := k) h_x_bank b_B_herds) ck_X12_stocks iv_X12_stocks uw_8_126 (rv_o hK hP) rfl hl.1 rfl (Nat.le_of_ble_eq_true rfl) dX12_tempt_31 ⟨Nat.le_of_ble_eq_true rfl, Nat.le_of_ble_eq_true rfl⟩ ⟨Nat.le_of_ble_eq_true rfl, Nat.le_of_ble_eq_true rfl⟩) (fun r_393 H locs hQ hS => ?_)
      obtain ⟨hr_393_0, hr_393_1, hP⟩ := hQ
      refine sy_icmp_ge (tgt := 112) hx hb dX12_tempt_34 (by decide) (by omega) (by omega) (fun c_408 => ?_) (fun c_408 => ?_)
      · skip
        refine lv_iload_n hx hb dX12_tempt_112 rfl (lv_at hl 2 rfl) ?_
        refine sy_if_ge (tgt := 120) hx hb dX12_tempt_113 (by decide) (by omega) (fun c_409 => ?_) (fun c_409 => ?_)
        · skip
          refine lv_iload_n hx hb dX12_tempt_120 rfl (lv_at hl 5 rfl) ?_
          refine sy_if_ne (tgt := 128) hx hb dX12_tempt_121 (by decide) (by omega) (fun c_410 => ?_) (fun c_410 => ?_)
          · skip
            refine lv_iload hx hb dX12_tempt_128 (lv_at hl 1 rfl) ?_
            exact r_i hx hb hr hlocks dX12_tempt_130 hS ⟨F_359, by omega, bF_359, hP⟩
          · skip
            refine lv_iload_n hx hb dX12_tempt_124 rfl (lv_at hl 2 rfl) ?_
            refine lv_goto (tgt := 130) hx hb dX12_tempt_125 (by decide) ?_
            exact r_i hx hb hr hlocks dX12_tempt_130 hS ⟨F_359, by omega, bF_359, hP⟩
        · skip
          refine lv_iconst (v := mI (-1)) hx hb dX12_tempt_116 rfl ?_
          refine lv_goto (tgt := 130) hx hb dX12_tempt_117 (by decide) ?_
          exact r_i hx hb hr hlocks dX12_tempt_130 hS ⟨F_359, by omega, bF_359, hP⟩
      · skip
        refine lv_iload hx hb dX12_tempt_37 (lv_at hl 0 rfl) ?_
        refine lv_aload_n hx hb dX12_tempt_39 rfl (lv_at hl 3 rfl) ?_
        refine rg_o_all hx hb hts hown hK hP uw_7_66 dX12_tempt_40 ?_
        refine lv_bipush (v := mI 8) hx hb dX12_tempt_43 (by decide) ?_
        refine lv_iload_n hx hb dX12_tempt_45 rfl (lv_at hl 4 rfl) ?_
        refine sy_iadd hx hb dX12_tempt_46 (p0 + 8) (by omega) ?_
        refine rl_all hx hb hK hP dX12_tempt_47 (by omega) (bA_bd b_B_all) (fun z_411 ez_411 hz_411 => ?_)
        have hz_411 := bA_own b_B_all (by omega) ez_411
        refine sy_icmp_ne (tgt := 54) hx hb dX12_tempt_48 (by decide) (by omega) (by omega) (fun c_412 => ?_) (fun c_412 => ?_)
        · skip
          refine lv_aload_n hx hb dX12_tempt_54 rfl (lv_at hl 3 rfl) ?_
          refine lv_aload_n hx hb dX12_tempt_55 rfl (lv_at hl 3 rfl) ?_
          refine lv_iload hx hb dX12_tempt_56 (lv_at hl 0 rfl) ?_
          refine g_i (rDt hD) hS hA (g_V (own := "HideReaderModel") (As := [.int (mI z_356)]) (rest := [.ref (a 0)]) hx hb hml hown hts hK hP (rDt hD) (kr_X12_brandOf (l := l) (D := D) (k := k) (by omega) h_x_bank b_B_brands) ck_X12_brandOf iv_X12_brandOf uw_6_220 (rv_o hK hP) rfl hl.1 rfl (Nat.le_of_ble_eq_true rfl) dX12_tempt_58 ⟨Nat.le_of_ble_eq_true rfl, Nat.le_of_ble_eq_true rfl⟩ ⟨Nat.le_of_ble_eq_true rfl, Nat.le_of_ble_eq_true rfl⟩) (fun r_413 H locs hQ hS => ?_)
          obtain ⟨hr_413_0, hr_413_1, hP⟩ := hQ
          refine g_v (rDt hD) hS hA (g_V (own := "HideReaderModel") (As := [.int (mI r_413)]) (rest := []) hx hb hml hown hts hK hP (rDt hD) (kr_X12_layNeed (l := l) (D := D) (k := k) (by omega) h_x_bank b_B_turns b_B_irons b_B_told b_B_burned bF_359 g_R) ck_X12_layNeed iv_X12_layNeed uw_9_38 (rv_o hK hP) rfl hl.1 rfl (Nat.le_of_ble_eq_true rfl) dX12_tempt_61 ⟨Nat.le_of_ble_eq_true rfl, Nat.le_of_ble_eq_true rfl⟩ ⟨Nat.le_of_ble_eq_true rfl, Nat.le_of_ble_eq_true rfl⟩) (fun H locs hQ hS => ?_)
          obtain ⟨F_415, bF_415, hr_414_1, hP⟩ := hQ
          refine lv_aload_n hx hb dX12_tempt_64 rfl (lv_at hl 3 rfl) ?_
          refine rg_o_need hx hb hts hown hK hP uw_7_71 dX12_tempt_65 ?_
          refine lv_aload_n hx hb dX12_tempt_68 rfl (lv_at hl 3 rfl) ?_
          refine rg_o_all hx hb hts hown hK hP uw_7_66 dX12_tempt_69 ?_
          refine lv_iconst (v := mI 0) hx hb dX12_tempt_72 rfl ?_
          refine lv_iload_n hx hb dX12_tempt_73 rfl (lv_at hl 4 rfl) ?_
          refine sy_iadd hx hb dX12_tempt_74 p0 (by omega) ?_
          refine rl_all hx hb hK hP dX12_tempt_75 (by omega) (bA_bd b_B_all) (fun z_416 ez_416 hz_416 => ?_)
          have hz_416 := bA_hid b_B_all (by omega) ez_416
          refine rl_need hx hb hK hP dX12_tempt_76 (by omega) bF_415 (fun z_417 _ hz_417 => ?_)
          refine lv_istore (lv' := [(6, .int (mI z_417)), (5, .int (mI z_356)), (4, .int (mI z_357)), (3, .int (mI z_358)), (0, .ref (a 0)), (1, .int (mI p0)), (2, .int (mI p1))]) hx hb dX12_tempt_77 hl (by decide) rfl (fun ls hl => ?_)
          refine lv_iload hx hb dX12_tempt_79 (lv_at hl 0 rfl) ?_
          refine lv_iconst (v := mI 1) hx hb dX12_tempt_81 rfl ?_
          refine lv_iconst (v := mI 4) hx hb dX12_tempt_82 rfl ?_
          refine g_i (rDt hD) hS hA (g_S (own := "HideReaderModel") (As := [.int (mI z_417), .int (mI 1), .int (mI 4)]) (rest := []) hx hb hml hown hts hK hP (rDt hD) (kr_X12_isIn (l := l) (D := D) (k := k) (by omega) (by decide) (by decide)) ck_X12_isIn uw_8_131 uw_8_130 rfl hl.1 rfl (Nat.le_of_ble_eq_true rfl) dX12_tempt_83 ⟨Nat.le_of_ble_eq_true rfl, Nat.le_of_ble_eq_true rfl⟩ ⟨Nat.le_of_ble_eq_true rfl, Nat.le_of_ble_eq_true rfl⟩) (fun r_418 H locs hQ hS => ?_)
          obtain ⟨hq_r_418, hP⟩ := hQ
          rcases hq_r_418 with ⟨rfl, c_419_0⟩ | ⟨rfl, c_420_0, c_420_1⟩
          · skip
            refine sy_if_eq (tgt := 106) hx hb dX12_tempt_86 (by decide) (by decide) (fun c_421 => ?_) (fun c9 => absurd c9 (by decide))
            refine lv_iinc (v := mI (z_356 + 1)) (lv' := [(5, .int (mI (z_356 + 1))), (6, .int (mI z_417)), (4, .int (mI z_357)), (3, .int (mI z_358)), (0, .ref (a 0)), (1, .int (mI p0)), (2, .int (mI p1))]) hx hb dX12_tempt_106 hl (k := 1) rfl (mI_ad rfl) (by decide) rfl (fun ls hl => ?_)
            refine lv_goto (tgt := 28) hx hb dX12_tempt_109 (by decide) ?_
            exact ih_392 _ _ _ _ (by omega) ⟨(z_356 + 1), z_357, z_358, F_415, _, by omega, by omega, by omega, bF_415, by omega, rfl, hP, hS, lv_sub hl [0, 2, 3, 4, 5, 6] rfl, rfl⟩
          · skip
            refine sy_if_eq (tgt := 106) hx hb dX12_tempt_86 (by decide) (by decide) (fun c9 => absurd c9 (by decide)) (fun c_422 => ?_)
            refine lv_iload hx hb dX12_tempt_89 (lv_at hl 0 rfl) ?_
            refine lv_iload hx hb dX12_tempt_91 (lv_at hl 2 rfl) ?_
            refine sy_icmp_lt (tgt := 99) hx hb dX12_tempt_93 (by decide) (by omega) (by omega) (fun c_423 => ?_) (fun c_423 => ?_)
            · skip
              refine lv_iload hx hb dX12_tempt_99 (lv_at hl 1 rfl) ?_
              refine lv_istore_n (lv' := [(3, .int (mI z_356)), (6, .int (mI z_417)), (5, .int (mI z_356)), (4, .int (mI z_357)), (0, .ref (a 0)), (1, .int (mI p0)), (2, .int (mI p1))]) hx hb dX12_tempt_101 rfl hl (by decide) rfl (fun ls hl => ?_)
              refine lv_iload hx hb dX12_tempt_102 (lv_at hl 1 rfl) ?_
              refine lv_istore (lv' := [(4, .int (mI z_417)), (3, .int (mI z_356)), (6, .int (mI z_417)), (5, .int (mI z_356)), (0, .ref (a 0)), (1, .int (mI p0)), (2, .int (mI p1))]) hx hb dX12_tempt_104 hl (by decide) rfl (fun ls hl => ?_)
              refine lv_iinc (v := mI (z_356 + 1)) (lv' := [(5, .int (mI (z_356 + 1))), (4, .int (mI z_417)), (3, .int (mI z_356)), (6, .int (mI z_417)), (0, .ref (a 0)), (1, .int (mI p0)), (2, .int (mI p1))]) hx hb dX12_tempt_106 hl (k := 3) rfl (mI_ad rfl) (by decide) rfl (fun ls hl => ?_)
              refine lv_goto (tgt := 28) hx hb dX12_tempt_109 (by decide) ?_
              exact ih_392 _ _ _ _ (by omega) ⟨(z_356 + 1), z_417, z_356, F_415, _, by omega, by omega, by omega, bF_415, by omega, rfl, hP, hS, lv_sub hl [0, 1, 2, 4, 5, 6] rfl, rfl⟩
            · skip
              refine lv_goto (tgt := 106) hx hb dX12_tempt_96 (by decide) ?_
              refine lv_iinc (v := mI (z_356 + 1)) (lv' := [(5, .int (mI (z_356 + 1))), (6, .int (mI z_417)), (4, .int (mI z_357)), (3, .int (mI z_358)), (0, .ref (a 0)), (1, .int (mI p0)), (2, .int (mI p1))]) hx hb dX12_tempt_106 hl (k := 1) rfl (mI_ad rfl) (by decide) rfl (fun ls hl => ?_)
              refine lv_goto (tgt := 28) hx hb dX12_tempt_109 (by decide) ?_
              exact ih_392 _ _ _ _ (by omega) ⟨(z_356 + 1), z_357, z_358, F_415, _, by omega, by omega, by omega, bF_415, by omega, rfl, hP, hS, lv_sub hl [0, 2, 3, 4, 5, 6] rfl, rfl⟩
        · skip
          refine lv_goto (tgt := 106) hx hb dX12_tempt_51 (by decide) ?_
          refine lv_iinc (v := mI (z_356 + 1)) (lv' := [(5, .int (mI (z_356 + 1))), (4, .int (mI z_357)), (3, .int (mI z_358)), (0, .ref (a 0)), (1, .int (mI p0)), (2, .int (mI p1))]) hx hb dX12_tempt_106 hl (k := 0) rfl (mI_ad rfl) (by decide) rfl (fun ls hl => ?_)
          refine lv_goto (tgt := 28) hx hb dX12_tempt_109 (by decide) ?_
          exact ih_392 _ _ _ _ (by omega) ⟨(z_356 + 1), z_357, z_358, F_359, _, by omega, by omega, by omega, bF_359, by omega, rfl, hP, hS, lv_sub hl [0, 1, 2, 3, 4, 5] rfl, rfl⟩
set_option maxHeartbeats 4000000 in
set_option maxRecDepth 100000 in
theorem kr_X12_useful (h_x_bank : 0 ≤ x_bank ∧ x_bank ≤ 1) (b_B_turns : bd (0) 4 B_turns) (b_B_herds : bd (0) 8 B_herds) (b_B_irons : bd (0) 6 B_irons) (b_B_told : bd (0) 31 B_told) (b_B_brands : bd (0) 4095 B_brands) (b_B_burned : bd (0) 4095 B_burned) (g_R : 1 ≤ B_turns x_bank.toNat ∧ ¬ B_turns x_bank.toNat = 3) : MetG l D k yX12_useful cX12_useful 5 (some .int) 5 [.ref (a 0)] (rW k a x_taped x_size x_faultKind x_faultPlace x_at x_end x_token x_number x_bank x_rb x_codes x_within x_piled x_unitsInRule x_askBeast x_askStroke x_askAge x_askSeason x_acts x_undone x_laid x_seens x_time x_fitting n_name B_tape B_text B_turns B_herds B_irons B_beasts B_units B_night B_draw B_told B_brands B_ironMarks B_herdTold B_born B_ruleFrom B_ruleTo B_code B_codeNumber B_eWhat B_eSign B_pile B_all B_burned B_was B_need B_laidRow B_long8 B_brings B_sBurning B_sStroke B_sIs B_sTold B_sUntold B_parts B_boxAll B_isBoxed G_hName G_iName G_bName ex) (qGi (fun r0 H => (0 ≤ r0 ∧ r0 ≤ 63) ∧ va_P D vwCl (rW k a x_taped x_size x_faultKind x_faultPlace x_at x_end x_token x_number x_bank x_rb x_codes x_within x_piled x_unitsInRule x_askBeast x_askStroke x_askAge x_askSeason x_acts x_undone x_laid x_seens x_time x_fitting n_name B_tape B_text B_turns B_herds B_irons B_beasts B_units B_night B_draw B_told B_brands B_ironMarks B_herdTold B_born B_ruleFrom B_ruleTo B_code B_codeNumber B_eWhat B_eSign B_pile B_all B_burned B_was B_need B_laidRow B_long8 B_brings B_sBurning B_sStroke B_sIs B_sTold B_sUntold B_parts B_boxAll B_isBoxed G_hName G_iName G_bName ex) H)) := by
  refine metG_of 0 ck_X12_useful (Nat.le_of_ble_eq_true rfl) rMap (fun p e s m args below meth c A hx hb hml hr hlocks hown hts hK hD hA hP hS ls hl => ?_)
  have hown : s.vm.findClass "HideReaderModel" = some m.cls := hown
  have hl : lv_has ls 5 [(0, .ref (a 0))] := hl
  refine lv_iconst (v := mI 0) hx hb dX12_useful_0 rfl ?_
  refine lv_istore_n (lv' := [(1, .int (mI 0)), (0, .ref (a 0))]) hx hb dX12_useful_1 rfl hl (by decide) rfl (fun ls hl => ?_)
  refine lv_iconst (v := mI 0) hx hb dX12_useful_2 rfl ?_
  refine lv_istore_n (lv' := [(2, .int (mI 0)), (1, .int (mI 0)), (0, .ref (a 0))]) hx hb dX12_useful_3 rfl hl (by decide) rfl (fun ls hl => ?_)
  refine sy_loop (I := fun n H locs g => ∃ (z_140627 : Int) (z_140628 : Int) (ls : Array Slot), (0 ≤ z_140627 ∧ z_140627 ≤ 48) ∧ (0 ≤ z_140628 ∧ z_140628 ≤ 63) ∧ (48 - z_140627).toNat = n ∧ va_P D vwCl (rW k a x_taped x_size x_faultKind x_faultPlace x_at x_end x_token x_number x_bank x_rb x_codes x_within x_piled x_unitsInRule x_askBeast x_askStroke x_askAge x_askSeason x_acts x_undone x_laid x_seens x_time x_fitting n_name B_tape B_text B_turns B_herds B_irons B_beasts B_units B_night B_draw B_told B_brands B_ironMarks B_herdTold B_born B_ruleFrom B_ruleTo B_code B_codeNumber B_eWhat B_eSign B_pile B_all B_burned B_was B_need B_laidRow B_long8 B_brings B_sBurning B_sStroke B_sIs B_sTold B_sUntold B_parts B_boxAll B_isBoxed G_hName G_iName G_bName ex) H ∧ va_S A s.heap H locs ∧ lv_has ls 5 [(2, .int (mI z_140627)), (1, .int (mI z_140628)), (0, .ref (a 0))] ∧ g = F0 m 4 ls []) ?_ _ ⟨0, 0, _, by omega, by omega, rfl, hP, hS, lv_sub hl [0, 1, 2] rfl, rfl⟩
  intro n_143151 H locs g hI ih_143152
  obtain ⟨z_140627, z_140628, ls, h4_0, h4_1, mn_143151, hP, hS, hl, rfl⟩ := hI
  refine lv_iload_n hx hb dX12_useful_4 rfl (lv_at hl 0 rfl) ?_
  refine lv_aload_n hx hb dX12_useful_5 rfl (lv_at hl 2 rfl) ?_
  refine g_i (rDt hD) hS hA (g_V (own := "HideReaderModel") (As := []) (rest := [.int (mI z_140627)]) hx hb hml hown hts hK hP (rDt hD) (kr_X12_tools (l := l) (D := D) (k := k) h_x_bank b_B_irons) ck_X12_tools iv_X12_tools uw_6_235 (rv_o hK hP) rfl hl.1 rfl (Nat.le_of_ble_eq_true rfl) dX12_useful_6 ⟨Nat.le_of_ble_eq_true rfl, Nat.le_of_ble_eq_true rfl⟩ ⟨Nat.le_of_ble_eq_true rfl, Nat.le_of_ble_eq_true rfl⟩) (fun r_143153 H locs hQ hS => ?_)
  obtain ⟨hr_143153_0, hr_143153_1, hP⟩ := hQ
  refine lv_aload_n hx hb dX12_useful_9 rfl (lv_at hl 2 rfl) ?_
  refine g_i (rDt hD) hS hA (g_V (own := "HideReaderModel") (As := []) (rest := [.int (mI r_143153), .int (mI z_140627)]) hx hb hml hown hts hK hP (rDt hD) (kr_X12_placements (l := l) (D := D) (k := k) h_x_bank b_B_turns b_B_told g_R) ck_X12_placements iv_X12_placements uw_6_239 (rv_o hK hP) rfl hl.1 rfl (Nat.le_of_ble_eq_true rfl) dX12_useful_10 ⟨Nat.le_of_ble_eq_true rfl, Nat.le_of_ble_eq_true rfl⟩ ⟨Nat.le_of_ble_eq_true rfl, Nat.le_of_ble_eq_true rfl⟩) (fun r_143154 H locs hQ hS => ?_)
  obtain ⟨hr_143154_0, hr_143154_1, hP⟩ := hQ
  refine sy_imulB (A := 6) (B := 8) hx hb dX12_useful_13 48 (by decide) (by omega) (by omega) (fun z_143155 ez_143155 hz_143155 => ?_)
  refine sy_icmp_ge (tgt := 111) hx hb dX12_useful_14 (by decide) (by omega) (by omega) (fun c_143156 => ?_) (fun c_143156 => ?_)
  · skip
    refine lv_iload_n hx hb dX12_useful_111 rfl (lv_at hl 1 rfl) ?_
    exact r_i hx hb hr hlocks dX12_useful_112 hS ⟨by omega, hP⟩
  · skip
    refine lv_iconst (v := mI 0) hx hb dX12_useful_17 rfl ?_
    refine lv_istore_n (lv' := [(3, .int (mI 0)), (2, .int (mI z_140627)), (1, .int (mI z_140628)), (0, .ref (a 0))]) hx hb dX12_useful_18 rfl hl (by decide) rfl (fun ls hl => ?_)
    refine sy_loop (I := fun n H locs g => ∃ (z_145171 : Int) (z_145172 : Int) (ls : Array Slot), (0 ≤ z_145171 ∧ z_145171 ≤ 8) ∧ (0 ≤ z_145172 ∧ z_145172 ≤ 63) ∧ (8 - z_145171).toNat = n ∧ va_P D vwCl (rW k a x_taped x_size x_faultKind x_faultPlace x_at x_end x_token x_number x_bank x_rb x_codes x_within x_piled x_unitsInRule x_askBeast x_askStroke x_askAge x_askSeason x_acts x_undone x_laid x_seens x_time x_fitting n_name B_tape B_text B_turns B_herds B_irons B_beasts B_units B_night B_draw B_told B_brands B_ironMarks B_herdTold B_born B_ruleFrom B_ruleTo B_code B_codeNumber B_eWhat B_eSign B_pile B_all B_burned B_was B_need B_laidRow B_long8 B_brings B_sBurning B_sStroke B_sIs B_sTold B_sUntold B_parts B_boxAll B_isBoxed G_hName G_iName G_bName ex) H ∧ va_S A s.heap H locs ∧ lv_has ls 5 [(3, .int (mI z_145171)), (2, .int (mI z_140627)), (1, .int (mI z_145172)), (0, .ref (a 0))] ∧ g = F0 m 19 ls []) ?_ _ ⟨0, z_140628, _, by omega, by omega, rfl, hP, hS, lv_sub hl [0, 1, 2, 3] rfl, rfl⟩
    intro n_145423 H locs g hI ih_145424
    obtain ⟨z_145171, z_145172, ls, h19_0, h19_1, mn_145423, hP, hS, hl, rfl⟩ := hI
    refine lv_iload_n hx hb dX12_useful_19 rfl (lv_at hl 0 rfl) ?_
    refine lv_aload_n hx hb dX12_useful_20 rfl (lv_at hl 3 rfl) ?_
    refine g_i (rDt hD) hS hA (g_V (own := "HideReaderModel") (As := []) (rest := [.int (mI z_145171)]) hx hb hml hown hts hK hP (rDt hD) (kr_X12_stocks (l := l) (D := D) (k := k) h_x_bank b_B_herds) ck_X12_stocks iv_X12_stocks uw_8_126 (rv_o hK hP) rfl hl.1 rfl (Nat.le_of_ble_eq_true rfl) dX12_useful_21 ⟨Nat.le_of_ble_eq_true rfl, Nat.le_of_ble_eq_true rfl⟩ ⟨Nat.le_of_ble_eq_true rfl, Nat.le_of_ble_eq_true rfl⟩) (fun r_145425 H locs hQ hS => ?_)
    obtain ⟨hr_145425_0, hr_145425_1, hP⟩ := hQ
    refine sy_icmp_ge (tgt := 105) hx hb dX12_useful_24 (by decide) (by omega) (by omega) (fun c_145426 => ?_) (fun c_145426 => ?_)
    · skip
      refine lv_iinc (v := mI (z_140627 + 1)) (lv' := [(2, .int (mI (z_140627 + 1))), (3, .int (mI z_145171)), (1, .int (mI z_145172)), (0, .ref (a 0))]) hx hb dX12_useful_105 hl (k := 1) rfl (mI_ad rfl) (by decide) rfl (fun ls hl => ?_)
      refine lv_goto (tgt := 4) hx hb dX12_useful_108 (by decide) ?_
      exact ih_143152 _ _ _ _ (by omega) ⟨(z_140627 + 1), z_145172, _, by omega, by omega, rfl, hP, hS, lv_sub hl [0, 2, 3] rfl, rfl⟩
    · skip
      refine lv_iconst (v := mI 0) hx hb dX12_useful_27 rfl ?_
      refine lv_istore (lv' := [(4, .int (mI 0)), (3, .int (mI z_145171)), (2, .int (mI z_140627)), (1, .int (mI z_145172)), (0, .ref (a 0))]) hx hb dX12_useful_28 hl (by decide) rfl (fun ls hl => ?_)
      refine sy_loop (I := fun n H locs g => ∃ (z_145625 : Int) (z_145626 : Int) (ls : Array Slot), (0 ≤ z_145625 ∧ z_145625 ≤ 8) ∧ (0 ≤ z_145626 ∧ z_145626 ≤ 63) ∧ (8 - z_145625).toNat = n ∧ va_P D vwCl (rW k a x_taped x_size x_faultKind x_faultPlace x_at x_end x_token x_number x_bank x_rb x_codes x_within x_piled x_unitsInRule x_askBeast x_askStroke x_askAge x_askSeason x_acts x_undone x_laid x_seens x_time x_fitting n_name B_tape B_text B_turns B_herds B_irons B_beasts B_units B_night B_draw B_told B_brands B_ironMarks B_herdTold B_born B_ruleFrom B_ruleTo B_code B_codeNumber B_eWhat B_eSign B_pile B_all B_burned B_was B_need B_laidRow B_long8 B_brings B_sBurning B_sStroke B_sIs B_sTold B_sUntold B_parts B_boxAll B_isBoxed G_hName G_iName G_bName ex) H ∧ va_S A s.heap H locs ∧ lv_has ls 5 [(4, .int (mI z_145625)), (3, .int (mI z_145171)), (2, .int (mI z_140627)), (1, .int (mI z_145626)), (0, .ref (a 0))] ∧ g = F0 m 30 ls []) ?_ _ ⟨0, z_145172, _, by omega, by omega, rfl, hP, hS, lv_sub hl [0, 1, 2, 3, 4] rfl, rfl⟩
      intro n_145650 H locs g hI ih_145651
      obtain ⟨z_145625, z_145626, ls, h30_0, h30_1, mn_145650, hP, hS, hl, rfl⟩ := hI
      refine lv_iload hx hb dX12_useful_30 (lv_at hl 0 rfl) ?_
      refine lv_aload_n hx hb dX12_useful_32 rfl (lv_at hl 4 rfl) ?_
      refine g_i (rDt hD) hS hA (g_V (own := "HideReaderModel") (As := []) (rest := [.int (mI z_145625)]) hx hb hml hown hts hK hP (rDt hD) (kr_X12_stocks (l := l) (D := D) (k := k) h_x_bank b_B_herds) ck_X12_stocks iv_X12_stocks uw_8_126 (rv_o hK hP) rfl hl.1 rfl (Nat.le_of_ble_eq_true rfl) dX12_useful_33 ⟨Nat.le_of_ble_eq_true rfl, Nat.le_of_ble_eq_true rfl⟩ ⟨Nat.le_of_ble_eq_true rfl, Nat.le_of_ble_eq_true rfl⟩) (fun r_145652 H locs hQ hS => ?_)
      obtain ⟨hr_145652_0, hr_145652_1, hP⟩ := hQ
      refine sy_icmp_ge (tgt := 99) hx hb dX12_useful_36 (by decide) (by omega) (by omega) (fun c_145653 => ?_) (fun c_145653 => ?_)
      · skip
        refine lv_iinc (v := mI (z_145171 + 1)) (lv' := [(3, .int (mI (z_145171 + 1))), (4, .int (mI z_145625)), (2, .int (mI z_140627)), (1, .int (mI z_145626)), (0, .ref (a 0))]) hx hb dX12_useful_99 hl (k := 1) rfl (mI_ad rfl) (by decide) rfl (fun ls hl => ?_)
        refine lv_goto (tgt := 19) hx hb dX12_useful_102 (by decide) ?_
        exact ih_145424 _ _ _ _ (by omega) ⟨(z_145171 + 1), z_145626, _, by omega, by omega, rfl, hP, hS, lv_sub hl [0, 2, 3, 4] rfl, rfl⟩
      · skip
        refine lv_aload_n hx hb dX12_useful_39 rfl (lv_at hl 4 rfl) ?_
        refine lv_aload_n hx hb dX12_useful_40 rfl (lv_at hl 4 rfl) ?_
        refine lv_iload_n hx hb dX12_useful_41 rfl (lv_at hl 1 rfl) ?_
        refine g_i (rDt hD) hS hA (g_V (own := "HideReaderModel") (As := [.int (mI z_145171)]) (rest := [.ref (a 0)]) hx hb hml hown hts hK hP (rDt hD) (kr_X12_brandOf (l := l) (D := D) (k := k) (by omega) h_x_bank b_B_brands) ck_X12_brandOf iv_X12_brandOf uw_6_220 (rv_o hK hP) rfl hl.1 rfl (Nat.le_of_ble_eq_true rfl) dX12_useful_42 ⟨Nat.le_of_ble_eq_true rfl, Nat.le_of_ble_eq_true rfl⟩ ⟨Nat.le_of_ble_eq_true rfl, Nat.le_of_ble_eq_true rfl⟩) (fun r_145654 H locs hQ hS => ?_)
        obtain ⟨hr_145654_0, hr_145654_1, hP⟩ := hQ
        refine lv_aload_n hx hb dX12_useful_45 rfl (lv_at hl 4 rfl) ?_
        refine lv_iload hx hb dX12_useful_46 (lv_at hl 0 rfl) ?_
        refine g_i (rDt hD) hS hA (g_V (own := "HideReaderModel") (As := [.int (mI z_145625)]) (rest := [.int (mI r_145654), .ref (a 0)]) hx hb hml hown hts hK hP (rDt hD) (kr_X12_brandOf (l := l) (D := D) (k := k) (by omega) h_x_bank b_B_brands) ck_X12_brandOf iv_X12_brandOf uw_6_220 (rv_o hK hP) rfl hl.1 rfl (Nat.le_of_ble_eq_true rfl) dX12_useful_48 ⟨Nat.le_of_ble_eq_true rfl, Nat.le_of_ble_eq_true rfl⟩ ⟨Nat.le_of_ble_eq_true rfl, Nat.le_of_ble_eq_true rfl⟩) (fun r_145655 H locs hQ hS => ?_)
        obtain ⟨hr_145655_0, hr_145655_1, hP⟩ := hQ
        refine g_i (rDt hD) hS hA (g_V (own := "HideReaderModel") (As := [.int (mI r_145654), .int (mI r_145655)]) (rest := []) hx hb hml hown hts hK hP (rDt hD) (kr_X12_areOne (l := l) (D := D) (k := k) (by omega) (by omega) h_x_bank b_B_turns b_B_told g_R) ck_X12_areOne iv_X12_areOne uw_8_210 (rv_o hK hP) rfl hl.1 rfl (Nat.le_of_ble_eq_true rfl) dX12_useful_51 ⟨Nat.le_of_ble_eq_true rfl, Nat.le_of_ble_eq_true rfl⟩ ⟨Nat.le_of_ble_eq_true rfl, Nat.le_of_ble_eq_true rfl⟩) (fun r_145656 H locs hQ hS => ?_)
        obtain ⟨hq_r_145656, hP⟩ := hQ
        rcases hq_r_145656 with ⟨rfl, c_145657_0⟩ | ⟨rfl, c_145658_0⟩
        · skip
          refine sy_if_ne (tgt := 93) hx hb dX12_useful_54 (by decide) (by decide) (fun c9 => absurd c9 (by decide)) (fun c_145659 => ?_)
          refine lv_aload_n hx hb dX12_useful_57 rfl (lv_at hl 4 rfl) ?_
          refine lv_aload_n hx hb dX12_useful_58 rfl (lv_at hl 4 rfl) ?_
          refine lv_iload_n hx hb dX12_useful_59 rfl (lv_at hl 1 rfl) ?_
          refine g_i (rDt hD) hS hA (g_V (own := "HideReaderModel") (As := [.int (mI z_145171)]) (rest := [.ref (a 0)]) hx hb hml hown hts hK hP (rDt hD) (kr_X12_brandOf (l := l) (D := D) (k := k) (by omega) h_x_bank b_B_brands) ck_X12_brandOf iv_X12_brandOf uw_6_220 (rv_o hK hP) rfl hl.1 rfl (Nat.le_of_ble_eq_true rfl) dX12_useful_60 ⟨Nat.le_of_ble_eq_true rfl, Nat.le_of_ble_eq_true rfl⟩ ⟨Nat.le_of_ble_eq_true rfl, Nat.le_of_ble_eq_true rfl⟩) (fun r_145660 H locs hQ hS => ?_)
          obtain ⟨hr_145660_0, hr_145660_1, hP⟩ := hQ
          refine lv_aload_n hx hb dX12_useful_63 rfl (lv_at hl 4 rfl) ?_
          refine rg_o_burned hx hb hts hown hK hP uw_7_67 dX12_useful_64 ?_
          refine lv_iload_n hx hb dX12_useful_67 rfl (lv_at hl 2 rfl) ?_
          refine rl_burned hx hb hK hP dX12_useful_68 (by omega) b_B_burned (fun z_145661 _ hz_145661 => ?_)
          refine sy_ior hx hb dX12_useful_69 12 (by decide) 4096 (by decide) (by omega) (by omega) (fun z_145662 hz_145662 => ?_)
          refine lv_aload_n hx hb dX12_useful_70 rfl (lv_at hl 4 rfl) ?_
          refine lv_iload hx hb dX12_useful_71 (lv_at hl 0 rfl) ?_
          refine g_i (rDt hD) hS hA (g_V (own := "HideReaderModel") (As := [.int (mI z_145625)]) (rest := [.int (mI z_145662), .ref (a 0)]) hx hb hml hown hts hK hP (rDt hD) (kr_X12_brandOf (l := l) (D := D) (k := k) (by omega) h_x_bank b_B_brands) ck_X12_brandOf iv_X12_brandOf uw_6_220 (rv_o hK hP) rfl hl.1 rfl (Nat.le_of_ble_eq_true rfl) dX12_useful_73 ⟨Nat.le_of_ble_eq_true rfl, Nat.le_of_ble_eq_true rfl⟩ ⟨Nat.le_of_ble_eq_true rfl, Nat.le_of_ble_eq_true rfl⟩) (fun r_145663 H locs hQ hS => ?_)
          obtain ⟨hr_145663_0, hr_145663_1, hP⟩ := hQ
          refine g_i (rDt hD) hS hA (g_V (own := "HideReaderModel") (As := [.int (mI z_145662), .int (mI r_145663)]) (rest := []) hx hb hml hown hts hK hP (rDt hD) (kr_X12_areOne (l := l) (D := D) (k := k) (by omega) (by omega) h_x_bank b_B_turns b_B_told g_R) ck_X12_areOne iv_X12_areOne uw_8_210 (rv_o hK hP) rfl hl.1 rfl (Nat.le_of_ble_eq_true rfl) dX12_useful_76 ⟨Nat.le_of_ble_eq_true rfl, Nat.le_of_ble_eq_true rfl⟩ ⟨Nat.le_of_ble_eq_true rfl, Nat.le_of_ble_eq_true rfl⟩) (fun r_145664 H locs hQ hS => ?_)
          obtain ⟨hq_r_145664, hP⟩ := hQ
          rcases hq_r_145664 with ⟨rfl, c_145665_0⟩ | ⟨rfl, c_145666_0⟩
          · skip
            refine sy_if_eq (tgt := 93) hx hb dX12_useful_79 (by decide) (by decide) (fun c_145667 => ?_) (fun c9 => absurd c9 (by decide))
            refine lv_iinc (v := mI (z_145625 + 1)) (lv' := [(4, .int (mI (z_145625 + 1))), (3, .int (mI z_145171)), (2, .int (mI z_140627)), (1, .int (mI z_145626)), (0, .ref (a 0))]) hx hb dX12_useful_93 hl (k := 0) rfl (mI_ad rfl) (by decide) rfl (fun ls hl => ?_)
            refine lv_goto (tgt := 30) hx hb dX12_useful_96 (by decide) ?_
            exact ih_145651 _ _ _ _ (by omega) ⟨(z_145625 + 1), z_145626, _, by omega, by omega, rfl, hP, hS, lv_sub hl [0, 1, 2, 3, 4] rfl, rfl⟩
          · skip
            refine sy_if_eq (tgt := 93) hx hb dX12_useful_79 (by decide) (by decide) (fun c9 => absurd c9 (by decide)) (fun c_145668 => ?_)
            refine lv_iload_n hx hb dX12_useful_82 rfl (lv_at hl 3 rfl) ?_
            refine lv_iconst (v := mI 1) hx hb dX12_useful_83 rfl ?_
            refine lv_iload_n hx hb dX12_useful_84 rfl (lv_at hl 2 rfl) ?_
            refine lv_aload_n hx hb dX12_useful_85 rfl (lv_at hl 4 rfl) ?_
            refine g_i (rDt hD) hS hA (g_V (own := "HideReaderModel") (As := []) (rest := [.int (mI z_140627), .int (mI 1), .int (mI z_145626)]) hx hb hml hown hts hK hP (rDt hD) (kr_X12_placements (l := l) (D := D) (k := k) h_x_bank b_B_turns b_B_told g_R) ck_X12_placements iv_X12_placements uw_6_239 (rv_o hK hP) rfl hl.1 rfl (Nat.le_of_ble_eq_true rfl) dX12_useful_86 ⟨Nat.le_of_ble_eq_true rfl, Nat.le_of_ble_eq_true rfl⟩ ⟨Nat.le_of_ble_eq_true rfl, Nat.le_of_ble_eq_true rfl⟩) (fun r_145669 H locs hQ hS => ?_)
            obtain ⟨hr_145669_0, hr_145669_1, hP⟩ := hQ
            refine sy_idiv hx hb dX12_useful_89 (by omega) (by omega) (fun z_145670 ez_145670 hz_145670 => ?_)
            have h_145671 := dv_lt ez_143155 (by omega) (by omega) (by omega) ez_145670
            refine sy_shl1 hx hb dX12_useful_90 5 (by decide) 32 (by decide) (by omega) (fun z_145672 ez_145672 hz_145672 => ?_)
            refine sy_ior hx hb dX12_useful_91 6 (by decide) 64 (by decide) (by omega) (by omega) (fun z_145673 hz_145673 => ?_)
            refine lv_istore_n (lv' := [(1, .int (mI z_145673)), (4, .int (mI z_145625)), (3, .int (mI z_145171)), (2, .int (mI z_140627)), (0, .ref (a 0))]) hx hb dX12_useful_92 rfl hl (by decide) rfl (fun ls hl => ?_)
            refine lv_iinc (v := mI (z_145625 + 1)) (lv' := [(4, .int (mI (z_145625 + 1))), (1, .int (mI z_145673)), (3, .int (mI z_145171)), (2, .int (mI z_140627)), (0, .ref (a 0))]) hx hb dX12_useful_93 hl (k := 1) rfl (mI_ad rfl) (by decide) rfl (fun ls hl => ?_)
            refine lv_goto (tgt := 30) hx hb dX12_useful_96 (by decide) ?_
            exact ih_145651 _ _ _ _ (by omega) ⟨(z_145625 + 1), z_145673, _, by omega, by omega, rfl, hP, hS, lv_sub hl [0, 2, 3, 1, 4] rfl, rfl⟩
        · skip
          refine sy_if_ne (tgt := 93) hx hb dX12_useful_54 (by decide) (by decide) (fun c_145674 => ?_) (fun c9 => absurd c9 (by decide))
          refine lv_iinc (v := mI (z_145625 + 1)) (lv' := [(4, .int (mI (z_145625 + 1))), (3, .int (mI z_145171)), (2, .int (mI z_140627)), (1, .int (mI z_145626)), (0, .ref (a 0))]) hx hb dX12_useful_93 hl (k := 0) rfl (mI_ad rfl) (by decide) rfl (fun ls hl => ?_)
          refine lv_goto (tgt := 30) hx hb dX12_useful_96 (by decide) ?_
          exact ih_145651 _ _ _ _ (by omega) ⟨(z_145625 + 1), z_145626, _, by omega, by omega, rfl, hP, hS, lv_sub hl [0, 1, 2, 3, 4] rfl, rfl⟩
set_option maxHeartbeats 4000000 in
set_option maxRecDepth 100000 in
theorem kr_X12_isBelow {p0 p1 : Int} (hp0 : 0 ≤ p0 ∧ p0 ≤ 7) (hp1 : 0 ≤ p1 ∧ p1 ≤ 7) (h_x_bank : 0 ≤ x_bank ∧ x_bank ≤ 1) (b_B_turns : bd (0) 4 B_turns) (b_B_told : bd (0) 31 B_told) (b_B_brands : bd (0) 4095 B_brands) (g_R : 1 ≤ B_turns x_bank.toNat ∧ ¬ B_turns x_bank.toNat = 3) : MetG l D k yX12_isBelow cX12_isBelow 3 (some .boolean) 5 [.ref (a 0), .int (mI p0), .int (mI p1)] (rW k a x_taped x_size x_faultKind x_faultPlace x_at x_end x_token x_number x_bank x_rb x_codes x_within x_piled x_unitsInRule x_askBeast x_askStroke x_askAge x_askSeason x_acts x_undone x_laid x_seens x_time x_fitting n_name B_tape B_text B_turns B_herds B_irons B_beasts B_units B_night B_draw B_told B_brands B_ironMarks B_herdTold B_born B_ruleFrom B_ruleTo B_code B_codeNumber B_eWhat B_eSign B_pile B_all B_burned B_was B_need B_laidRow B_long8 B_brings B_sBurning B_sStroke B_sIs B_sTold B_sUntold B_parts B_boxAll B_isBoxed G_hName G_iName G_bName ex) (qGi (fun r0 H => ((0 = r0 ∧ (¬ rB B_told B_turns B_brands x_bank p0 p1)) ∨ (1 = r0 ∧ (rB B_told B_turns B_brands x_bank p0 p1))) ∧ va_P D vwCl (rW k a x_taped x_size x_faultKind x_faultPlace x_at x_end x_token x_number x_bank x_rb x_codes x_within x_piled x_unitsInRule x_askBeast x_askStroke x_askAge x_askSeason x_acts x_undone x_laid x_seens x_time x_fitting n_name B_tape B_text B_turns B_herds B_irons B_beasts B_units B_night B_draw B_told B_brands B_ironMarks B_herdTold B_born B_ruleFrom B_ruleTo B_code B_codeNumber B_eWhat B_eSign B_pile B_all B_burned B_was B_need B_laidRow B_long8 B_brings B_sBurning B_sStroke B_sIs B_sTold B_sUntold B_parts B_boxAll B_isBoxed G_hName G_iName G_bName ex) H)) := by
  refine metG_of 2 ck_X12_isBelow (Nat.le_of_ble_eq_true rfl) rMap (fun p e s m args below meth c A hx hb hml hr hlocks hown hts hK hD hA hP hS ls hl => ?_)
  have hown : s.vm.findClass "HideReaderModel" = some m.cls := hown
  have hl : lv_has ls 3 [(0, .ref (a 0)), (1, .int (mI p0)), (2, .int (mI p1))] := hl
  refine lv_aload_n hx hb dX12_isBelow_0 rfl (lv_at hl 0 rfl) ?_
  refine lv_aload_n hx hb dX12_isBelow_1 rfl (lv_at hl 0 rfl) ?_
  refine lv_iload_n hx hb dX12_isBelow_2 rfl (lv_at hl 1 rfl) ?_
  refine g_i (rDt hD) hS hA (g_V (own := "HideReaderModel") (As := [.int (mI p0)]) (rest := [.ref (a 0)]) hx hb hml hown hts hK hP (rDt hD) (kr_X12_brandOf (l := l) (D := D) (k := k) (by omega) h_x_bank b_B_brands) ck_X12_brandOf iv_X12_brandOf uw_6_220 (rv_o hK hP) rfl hl.1 rfl (Nat.le_of_ble_eq_true rfl) dX12_isBelow_3 ⟨Nat.le_of_ble_eq_true rfl, Nat.le_of_ble_eq_true rfl⟩ ⟨Nat.le_of_ble_eq_true rfl, Nat.le_of_ble_eq_true rfl⟩) (fun r_1 H locs hQ hS => ?_)
  obtain ⟨hr_1_0, hr_1_1, hP⟩ := hQ
  refine lv_aload_n hx hb dX12_isBelow_6 rfl (lv_at hl 0 rfl) ?_
  refine lv_iload_n hx hb dX12_isBelow_7 rfl (lv_at hl 2 rfl) ?_
  refine g_i (rDt hD) hS hA (g_V (own := "HideReaderModel") (As := [.int (mI p1)]) (rest := [.int (mI r_1), .ref (a 0)]) hx hb hml hown hts hK hP (rDt hD) (kr_X12_brandOf (l := l) (D := D) (k := k) (by omega) h_x_bank b_B_brands) ck_X12_brandOf iv_X12_brandOf uw_6_220 (rv_o hK hP) rfl hl.1 rfl (Nat.le_of_ble_eq_true rfl) dX12_isBelow_8 ⟨Nat.le_of_ble_eq_true rfl, Nat.le_of_ble_eq_true rfl⟩ ⟨Nat.le_of_ble_eq_true rfl, Nat.le_of_ble_eq_true rfl⟩) (fun r_2 H locs hQ hS => ?_)
  obtain ⟨hr_2_0, hr_2_1, hP⟩ := hQ
  refine g_i (rDt hD) hS hA (g_V (own := "HideReaderModel") (As := [.int (mI r_1), .int (mI r_2)]) (rest := []) hx hb hml hown hts hK hP (rDt hD) (kr_X12_isUnder (l := l) (D := D) (k := k) (by omega) (by omega) h_x_bank b_B_turns b_B_told g_R) ck_X12_isUnder iv_X12_isUnder uw_8_186 (rv_o hK hP) rfl hl.1 rfl (Nat.le_of_ble_eq_true rfl) dX12_isBelow_11 ⟨Nat.le_of_ble_eq_true rfl, Nat.le_of_ble_eq_true rfl⟩ ⟨Nat.le_of_ble_eq_true rfl, Nat.le_of_ble_eq_true rfl⟩) (fun r_3 H locs hQ hS => ?_)
  obtain ⟨hr_3_0, hr_3_1, hP⟩ := hQ
  refine sy_if_eq (tgt := 38) hx hb dX12_isBelow_14 (by decide) (by omega) (fun c_4 => ?_) (fun c_4 => ?_)
  · skip
    refine lv_iconst (v := mI 0) hx hb dX12_isBelow_38 rfl ?_
    exact r_z hx hb hr hlocks dX12_isBelow_39 hS (by decide) ⟨Or.inl (⟨rfl, (rB_n1 hr_1_1 hr_2_1 hr_3_1 (by omega))⟩), hP⟩
  · skip
    refine lv_aload_n hx hb dX12_isBelow_17 rfl (lv_at hl 0 rfl) ?_
    refine lv_aload_n hx hb dX12_isBelow_18 rfl (lv_at hl 0 rfl) ?_
    refine lv_iload_n hx hb dX12_isBelow_19 rfl (lv_at hl 1 rfl) ?_
    refine g_i (rDt hD) hS hA (g_V (own := "HideReaderModel") (As := [.int (mI p0)]) (rest := [.ref (a 0)]) hx hb hml hown hts hK hP (rDt hD) (kr_X12_brandOf (l := l) (D := D) (k := k) (by omega) h_x_bank b_B_brands) ck_X12_brandOf iv_X12_brandOf uw_6_220 (rv_o hK hP) rfl hl.1 rfl (Nat.le_of_ble_eq_true rfl) dX12_isBelow_20 ⟨Nat.le_of_ble_eq_true rfl, Nat.le_of_ble_eq_true rfl⟩ ⟨Nat.le_of_ble_eq_true rfl, Nat.le_of_ble_eq_true rfl⟩) (fun r_5 H locs hQ hS => ?_)
    obtain ⟨hr_5_0, hr_5_1, hP⟩ := hQ
    refine lv_aload_n hx hb dX12_isBelow_23 rfl (lv_at hl 0 rfl) ?_
    refine lv_iload_n hx hb dX12_isBelow_24 rfl (lv_at hl 2 rfl) ?_
    refine g_i (rDt hD) hS hA (g_V (own := "HideReaderModel") (As := [.int (mI p1)]) (rest := [.int (mI r_5), .ref (a 0)]) hx hb hml hown hts hK hP (rDt hD) (kr_X12_brandOf (l := l) (D := D) (k := k) (by omega) h_x_bank b_B_brands) ck_X12_brandOf iv_X12_brandOf uw_6_220 (rv_o hK hP) rfl hl.1 rfl (Nat.le_of_ble_eq_true rfl) dX12_isBelow_25 ⟨Nat.le_of_ble_eq_true rfl, Nat.le_of_ble_eq_true rfl⟩ ⟨Nat.le_of_ble_eq_true rfl, Nat.le_of_ble_eq_true rfl⟩) (fun r_6 H locs hQ hS => ?_)
    obtain ⟨hr_6_0, hr_6_1, hP⟩ := hQ
    refine g_i (rDt hD) hS hA (g_V (own := "HideReaderModel") (As := [.int (mI r_5), .int (mI r_6)]) (rest := []) hx hb hml hown hts hK hP (rDt hD) (kr_X12_areOne (l := l) (D := D) (k := k) (by omega) (by omega) h_x_bank b_B_turns b_B_told g_R) ck_X12_areOne iv_X12_areOne uw_8_210 (rv_o hK hP) rfl hl.1 rfl (Nat.le_of_ble_eq_true rfl) dX12_isBelow_28 ⟨Nat.le_of_ble_eq_true rfl, Nat.le_of_ble_eq_true rfl⟩ ⟨Nat.le_of_ble_eq_true rfl, Nat.le_of_ble_eq_true rfl⟩) (fun r_7 H locs hQ hS => ?_)
    obtain ⟨hq_r_7, hP⟩ := hQ
    rcases hq_r_7 with ⟨rfl, c_8_0⟩ | ⟨rfl, c_9_0⟩
    · skip
      refine sy_if_ne (tgt := 38) hx hb dX12_isBelow_31 (by decide) (by decide) (fun c9 => absurd c9 (by decide)) (fun c_10 => ?_)
      refine lv_iconst (v := mI 1) hx hb dX12_isBelow_34 rfl ?_
      refine lv_goto (tgt := 39) hx hb dX12_isBelow_35 (by decide) ?_
      exact r_z hx hb hr hlocks dX12_isBelow_39 hS (by decide) ⟨Or.inr (⟨rfl, (rB_y hr_1_1 hr_2_1 hr_5_1 hr_6_1 hr_3_1 (by omega) c_8_0)⟩), hP⟩
    · skip
      refine sy_if_ne (tgt := 38) hx hb dX12_isBelow_31 (by decide) (by decide) (fun c_11 => ?_) (fun c9 => absurd c9 (by decide))
      refine lv_iconst (v := mI 0) hx hb dX12_isBelow_38 rfl ?_
      exact r_z hx hb hr hlocks dX12_isBelow_39 hS (by decide) ⟨Or.inl (⟨rfl, (rB_n2 hr_5_1 hr_6_1 c_9_0)⟩), hP⟩
set_option maxHeartbeats 4000000 in
set_option maxRecDepth 100000 in
theorem kr_X12_lowest (h_x_bank : 0 ≤ x_bank ∧ x_bank ≤ 1) (b_B_turns : bd (0) 4 B_turns) (b_B_herds : bd (0) 8 B_herds) (b_B_told : bd (0) 31 B_told) (b_B_brands : bd (0) 4095 B_brands) (g_R : 1 ≤ B_turns x_bank.toNat ∧ ¬ B_turns x_bank.toNat = 3) : MetG l D k yX12_lowest cX12_lowest 5 (some .int) 6 [.ref (a 0)] (rW k a x_taped x_size x_faultKind x_faultPlace x_at x_end x_token x_number x_bank x_rb x_codes x_within x_piled x_unitsInRule x_askBeast x_askStroke x_askAge x_askSeason x_acts x_undone x_laid x_seens x_time x_fitting n_name B_tape B_text B_turns B_herds B_irons B_beasts B_units B_night B_draw B_told B_brands B_ironMarks B_herdTold B_born B_ruleFrom B_ruleTo B_code B_codeNumber B_eWhat B_eSign B_pile B_all B_burned B_was B_need B_laidRow B_long8 B_brings B_sBurning B_sStroke B_sIs B_sTold B_sUntold B_parts B_boxAll B_isBoxed G_hName G_iName G_bName ex) (qGi (fun r0 H => (0 ≤ r0 ∧ r0 ≤ 255) ∧ va_P D vwCl (rW k a x_taped x_size x_faultKind x_faultPlace x_at x_end x_token x_number x_bank x_rb x_codes x_within x_piled x_unitsInRule x_askBeast x_askStroke x_askAge x_askSeason x_acts x_undone x_laid x_seens x_time x_fitting n_name B_tape B_text B_turns B_herds B_irons B_beasts B_units B_night B_draw B_told B_brands B_ironMarks B_herdTold B_born B_ruleFrom B_ruleTo B_code B_codeNumber B_eWhat B_eSign B_pile B_all B_burned B_was B_need B_laidRow B_long8 B_brings B_sBurning B_sStroke B_sIs B_sTold B_sUntold B_parts B_boxAll B_isBoxed G_hName G_iName G_bName ex) H)) := by
  refine metG_of 0 ck_X12_lowest (Nat.le_of_ble_eq_true rfl) rMap (fun p e s m args below meth c A hx hb hml hr hlocks hown hts hK hD hA hP hS ls hl => ?_)
  have hown : s.vm.findClass "HideReaderModel" = some m.cls := hown
  have hl : lv_has ls 5 [(0, .ref (a 0))] := hl
  refine lv_iconst (v := mI 0) hx hb dX12_lowest_0 rfl ?_
  refine lv_istore_n (lv' := [(1, .int (mI 0)), (0, .ref (a 0))]) hx hb dX12_lowest_1 rfl hl (by decide) rfl (fun ls hl => ?_)
  refine lv_iconst (v := mI 0) hx hb dX12_lowest_2 rfl ?_
  refine lv_istore_n (lv' := [(2, .int (mI 0)), (1, .int (mI 0)), (0, .ref (a 0))]) hx hb dX12_lowest_3 rfl hl (by decide) rfl (fun ls hl => ?_)
  refine sy_loop (I := fun n H locs g => ∃ (z_5770 : Int) (z_5771 : Int) (ls : Array Slot), (0 ≤ z_5770 ∧ z_5770 ≤ 8) ∧ (0 ≤ z_5771 ∧ z_5771 ≤ 255) ∧ (8 - z_5770).toNat = n ∧ va_P D vwCl (rW k a x_taped x_size x_faultKind x_faultPlace x_at x_end x_token x_number x_bank x_rb x_codes x_within x_piled x_unitsInRule x_askBeast x_askStroke x_askAge x_askSeason x_acts x_undone x_laid x_seens x_time x_fitting n_name B_tape B_text B_turns B_herds B_irons B_beasts B_units B_night B_draw B_told B_brands B_ironMarks B_herdTold B_born B_ruleFrom B_ruleTo B_code B_codeNumber B_eWhat B_eSign B_pile B_all B_burned B_was B_need B_laidRow B_long8 B_brings B_sBurning B_sStroke B_sIs B_sTold B_sUntold B_parts B_boxAll B_isBoxed G_hName G_iName G_bName ex) H ∧ va_S A s.heap H locs ∧ lv_has ls 5 [(2, .int (mI z_5770)), (1, .int (mI z_5771)), (0, .ref (a 0))] ∧ g = F0 m 4 ls []) ?_ _ ⟨0, 0, _, by omega, by omega, rfl, hP, hS, lv_sub hl [0, 1, 2] rfl, rfl⟩
  intro n_5969 H locs g hI ih_5970
  obtain ⟨z_5770, z_5771, ls, h4_0, h4_1, mn_5969, hP, hS, hl, rfl⟩ := hI
  refine lv_iload_n hx hb dX12_lowest_4 rfl (lv_at hl 0 rfl) ?_
  refine lv_aload_n hx hb dX12_lowest_5 rfl (lv_at hl 2 rfl) ?_
  refine g_i (rDt hD) hS hA (g_V (own := "HideReaderModel") (As := []) (rest := [.int (mI z_5770)]) hx hb hml hown hts hK hP (rDt hD) (kr_X12_stocks (l := l) (D := D) (k := k) h_x_bank b_B_herds) ck_X12_stocks iv_X12_stocks uw_8_126 (rv_o hK hP) rfl hl.1 rfl (Nat.le_of_ble_eq_true rfl) dX12_lowest_6 ⟨Nat.le_of_ble_eq_true rfl, Nat.le_of_ble_eq_true rfl⟩ ⟨Nat.le_of_ble_eq_true rfl, Nat.le_of_ble_eq_true rfl⟩) (fun r_5971 H locs hQ hS => ?_)
  obtain ⟨hr_5971_0, hr_5971_1, hP⟩ := hQ
  refine sy_icmp_ge (tgt := 68) hx hb dX12_lowest_9 (by decide) (by omega) (by omega) (fun c_5972 => ?_) (fun c_5972 => ?_)
  · skip
    refine lv_iload_n hx hb dX12_lowest_68 rfl (lv_at hl 1 rfl) ?_
    exact r_i hx hb hr hlocks dX12_lowest_69 hS ⟨by omega, hP⟩
  · skip
    refine lv_iconst (v := mI 1) hx hb dX12_lowest_12 rfl ?_
    refine lv_istore_n (lv' := [(3, .int (mI 1)), (2, .int (mI z_5770)), (1, .int (mI z_5771)), (0, .ref (a 0))]) hx hb dX12_lowest_13 rfl hl (by decide) rfl (fun ls hl => ?_)
    refine lv_iconst (v := mI 0) hx hb dX12_lowest_14 rfl ?_
    refine lv_istore (lv' := [(4, .int (mI 0)), (3, .int (mI 1)), (2, .int (mI z_5770)), (1, .int (mI z_5771)), (0, .ref (a 0))]) hx hb dX12_lowest_15 hl (by decide) rfl (fun ls hl => ?_)
    refine sy_loop (I := fun n H locs g => ∃ (z_6128 : Int) (z_6129 : Int) (ls : Array Slot), (0 ≤ z_6128 ∧ z_6128 ≤ 8) ∧ (0 ≤ z_6129 ∧ z_6129 ≤ 1) ∧ (8 - z_6128).toNat = n ∧ va_P D vwCl (rW k a x_taped x_size x_faultKind x_faultPlace x_at x_end x_token x_number x_bank x_rb x_codes x_within x_piled x_unitsInRule x_askBeast x_askStroke x_askAge x_askSeason x_acts x_undone x_laid x_seens x_time x_fitting n_name B_tape B_text B_turns B_herds B_irons B_beasts B_units B_night B_draw B_told B_brands B_ironMarks B_herdTold B_born B_ruleFrom B_ruleTo B_code B_codeNumber B_eWhat B_eSign B_pile B_all B_burned B_was B_need B_laidRow B_long8 B_brings B_sBurning B_sStroke B_sIs B_sTold B_sUntold B_parts B_boxAll B_isBoxed G_hName G_iName G_bName ex) H ∧ va_S A s.heap H locs ∧ lv_has ls 5 [(4, .int (mI z_6128)), (3, .int (mI z_6129)), (2, .int (mI z_5770)), (1, .int (mI z_5771)), (0, .ref (a 0))] ∧ g = F0 m 17 ls []) ?_ _ ⟨0, 1, _, by omega, by omega, rfl, hP, hS, lv_sub hl [0, 1, 2, 3, 4] rfl, rfl⟩
    intro n_6148 H locs g hI ih_6149
    obtain ⟨z_6128, z_6129, ls, h17_0, h17_1, mn_6148, hP, hS, hl, rfl⟩ := hI
    refine lv_iload hx hb dX12_lowest_17 (lv_at hl 0 rfl) ?_
    refine lv_aload_n hx hb dX12_lowest_19 rfl (lv_at hl 4 rfl) ?_
    refine g_i (rDt hD) hS hA (g_V (own := "HideReaderModel") (As := []) (rest := [.int (mI z_6128)]) hx hb hml hown hts hK hP (rDt hD) (kr_X12_stocks (l := l) (D := D) (k := k) h_x_bank b_B_herds) ck_X12_stocks iv_X12_stocks uw_8_126 (rv_o hK hP) rfl hl.1 rfl (Nat.le_of_ble_eq_true rfl) dX12_lowest_20 ⟨Nat.le_of_ble_eq_true rfl, Nat.le_of_ble_eq_true rfl⟩ ⟨Nat.le_of_ble_eq_true rfl, Nat.le_of_ble_eq_true rfl⟩) (fun r_6150 H locs hQ hS => ?_)
    obtain ⟨hr_6150_0, hr_6150_1, hP⟩ := hQ
    refine sy_icmp_ge (tgt := 52) hx hb dX12_lowest_23 (by decide) (by omega) (by omega) (fun c_6158 => ?_) (fun c_6158 => ?_)
    · skip
      refine lv_iload_n hx hb dX12_lowest_52 rfl (lv_at hl 1 rfl) ?_
      refine sy_if_eq (tgt := 62) hx hb dX12_lowest_53 (by decide) (by omega) (fun c_6159 => ?_) (fun c_6159 => ?_)
      · skip
        refine lv_iinc (v := mI (z_5770 + 1)) (lv' := [(2, .int (mI (z_5770 + 1))), (4, .int (mI z_6128)), (3, .int (mI z_6129)), (1, .int (mI z_5771)), (0, .ref (a 0))]) hx hb dX12_lowest_62 hl (k := 2) rfl (mI_ad rfl) (by decide) rfl (fun ls hl => ?_)
        refine lv_goto (tgt := 4) hx hb dX12_lowest_65 (by decide) ?_
        exact ih_5970 _ _ _ _ (by omega) ⟨(z_5770 + 1), z_5771, _, by omega, by omega, rfl, hP, hS, lv_sub hl [0, 3, 4] rfl, rfl⟩
      · skip
        refine lv_iload_n hx hb dX12_lowest_56 rfl (lv_at hl 3 rfl) ?_
        refine lv_iconst (v := mI 1) hx hb dX12_lowest_57 rfl ?_
        refine lv_iload_n hx hb dX12_lowest_58 rfl (lv_at hl 2 rfl) ?_
        refine sy_shl1 hx hb dX12_lowest_59 7 (by decide) 128 (by decide) (by omega) (fun z_6160 ez_6160 hz_6160 => ?_)
        refine sy_ior hx hb dX12_lowest_60 8 (by decide) 256 (by decide) (by omega) (by omega) (fun z_6161 hz_6161 => ?_)
        refine lv_istore_n (lv' := [(1, .int (mI z_6161)), (4, .int (mI z_6128)), (3, .int (mI z_6129)), (2, .int (mI z_5770)), (0, .ref (a 0))]) hx hb dX12_lowest_61 rfl hl (by decide) rfl (fun ls hl => ?_)
        refine lv_iinc (v := mI (z_5770 + 1)) (lv' := [(2, .int (mI (z_5770 + 1))), (1, .int (mI z_6161)), (4, .int (mI z_6128)), (3, .int (mI z_6129)), (0, .ref (a 0))]) hx hb dX12_lowest_62 hl (k := 3) rfl (mI_ad rfl) (by decide) rfl (fun ls hl => ?_)
        refine lv_goto (tgt := 4) hx hb dX12_lowest_65 (by decide) ?_
        exact ih_5970 _ _ _ _ (by omega) ⟨(z_5770 + 1), z_6161, _, by omega, by omega, rfl, hP, hS, lv_sub hl [0, 1, 4] rfl, rfl⟩
    · skip
      refine lv_iload_n hx hb dX12_lowest_26 rfl (lv_at hl 1 rfl) ?_
      refine sy_if_eq (tgt := 44) hx hb dX12_lowest_27 (by decide) (by omega) (fun c_6162 => ?_) (fun c_6162 => ?_)
      · skip
        refine lv_iconst (v := mI 0) hx hb dX12_lowest_44 rfl ?_
        refine lv_istore_n (lv' := [(3, .int (mI 0)), (4, .int (mI z_6128)), (2, .int (mI z_5770)), (1, .int (mI z_5771)), (0, .ref (a 0))]) hx hb dX12_lowest_45 rfl hl (by decide) rfl (fun ls hl => ?_)
        refine lv_iinc (v := mI (z_6128 + 1)) (lv' := [(4, .int (mI (z_6128 + 1))), (3, .int (mI 0)), (2, .int (mI z_5770)), (1, .int (mI z_5771)), (0, .ref (a 0))]) hx hb dX12_lowest_46 hl (k := 1) rfl (mI_ad rfl) (by decide) rfl (fun ls hl => ?_)
        refine lv_goto (tgt := 17) hx hb dX12_lowest_49 (by decide) ?_
        exact ih_6149 _ _ _ _ (by omega) ⟨(z_6128 + 1), 0, _, by omega, by omega, rfl, hP, hS, lv_sub hl [0, 1, 2, 3, 4] rfl, rfl⟩
      · skip
        refine lv_aload_n hx hb dX12_lowest_30 rfl (lv_at hl 4 rfl) ?_
        refine lv_iload hx hb dX12_lowest_31 (lv_at hl 0 rfl) ?_
        refine lv_iload_n hx hb dX12_lowest_33 rfl (lv_at hl 2 rfl) ?_
        refine g_i (rDt hD) hS hA (g_V (own := "HideReaderModel") (As := [.int (mI z_6128), .int (mI z_5770)]) (rest := []) hx hb hml hown hts hK hP (rDt hD) (kr_X12_isBelow (l := l) (D := D) (k := k) (by omega) (by omega) h_x_bank b_B_turns b_B_told b_B_brands g_R) ck_X12_isBelow iv_X12_isBelow uw_9_78 (rv_o hK hP) rfl hl.1 rfl (Nat.le_of_ble_eq_true rfl) dX12_lowest_34 ⟨Nat.le_of_ble_eq_true rfl, Nat.le_of_ble_eq_true rfl⟩ ⟨Nat.le_of_ble_eq_true rfl, Nat.le_of_ble_eq_true rfl⟩) (fun r_6163 H locs hQ hS => ?_)
        obtain ⟨hq_r_6163, hP⟩ := hQ
        rcases hq_r_6163 with ⟨rfl, c_6164_0⟩ | ⟨rfl, c_6165_0⟩
        · skip
          refine sy_if_ne (tgt := 44) hx hb dX12_lowest_37 (by decide) (by decide) (fun c9 => absurd c9 (by decide)) (fun c_6166 => ?_)
          refine lv_iconst (v := mI 1) hx hb dX12_lowest_40 rfl ?_
          refine lv_goto (tgt := 45) hx hb dX12_lowest_41 (by decide) ?_
          refine lv_istore_n (lv' := [(3, .int (mI 1)), (4, .int (mI z_6128)), (2, .int (mI z_5770)), (1, .int (mI z_5771)), (0, .ref (a 0))]) hx hb dX12_lowest_45 rfl hl (by decide) rfl (fun ls hl => ?_)
          refine lv_iinc (v := mI (z_6128 + 1)) (lv' := [(4, .int (mI (z_6128 + 1))), (3, .int (mI 1)), (2, .int (mI z_5770)), (1, .int (mI z_5771)), (0, .ref (a 0))]) hx hb dX12_lowest_46 hl (k := 1) rfl (mI_ad rfl) (by decide) rfl (fun ls hl => ?_)
          refine lv_goto (tgt := 17) hx hb dX12_lowest_49 (by decide) ?_
          exact ih_6149 _ _ _ _ (by omega) ⟨(z_6128 + 1), 1, _, by omega, by omega, rfl, hP, hS, lv_sub hl [0, 1, 2, 3, 4] rfl, rfl⟩
        · skip
          refine sy_if_ne (tgt := 44) hx hb dX12_lowest_37 (by decide) (by decide) (fun c_6167 => ?_) (fun c9 => absurd c9 (by decide))
          refine lv_iconst (v := mI 0) hx hb dX12_lowest_44 rfl ?_
          refine lv_istore_n (lv' := [(3, .int (mI 0)), (4, .int (mI z_6128)), (2, .int (mI z_5770)), (1, .int (mI z_5771)), (0, .ref (a 0))]) hx hb dX12_lowest_45 rfl hl (by decide) rfl (fun ls hl => ?_)
          refine lv_iinc (v := mI (z_6128 + 1)) (lv' := [(4, .int (mI (z_6128 + 1))), (3, .int (mI 0)), (2, .int (mI z_5770)), (1, .int (mI z_5771)), (0, .ref (a 0))]) hx hb dX12_lowest_46 hl (k := 1) rfl (mI_ad rfl) (by decide) rfl (fun ls hl => ?_)
          refine lv_goto (tgt := 17) hx hb dX12_lowest_49 (by decide) ?_
          exact ih_6149 _ _ _ _ (by omega) ⟨(z_6128 + 1), 0, _, by omega, by omega, rfl, hP, hS, lv_sub hl [0, 1, 2, 3, 4] rfl, rfl⟩
set_option maxHeartbeats 4000000 in
set_option maxRecDepth 100000 in
theorem kr_X12_highest (h_x_bank : 0 ≤ x_bank ∧ x_bank ≤ 1) (b_B_turns : bd (0) 4 B_turns) (b_B_herds : bd (0) 8 B_herds) (b_B_told : bd (0) 31 B_told) (b_B_brands : bd (0) 4095 B_brands) (g_R : 1 ≤ B_turns x_bank.toNat ∧ ¬ B_turns x_bank.toNat = 3) : MetG l D k yX12_highest cX12_highest 5 (some .int) 6 [.ref (a 0)] (rW k a x_taped x_size x_faultKind x_faultPlace x_at x_end x_token x_number x_bank x_rb x_codes x_within x_piled x_unitsInRule x_askBeast x_askStroke x_askAge x_askSeason x_acts x_undone x_laid x_seens x_time x_fitting n_name B_tape B_text B_turns B_herds B_irons B_beasts B_units B_night B_draw B_told B_brands B_ironMarks B_herdTold B_born B_ruleFrom B_ruleTo B_code B_codeNumber B_eWhat B_eSign B_pile B_all B_burned B_was B_need B_laidRow B_long8 B_brings B_sBurning B_sStroke B_sIs B_sTold B_sUntold B_parts B_boxAll B_isBoxed G_hName G_iName G_bName ex) (qGi (fun r0 H => (0 ≤ r0 ∧ r0 ≤ 255) ∧ va_P D vwCl (rW k a x_taped x_size x_faultKind x_faultPlace x_at x_end x_token x_number x_bank x_rb x_codes x_within x_piled x_unitsInRule x_askBeast x_askStroke x_askAge x_askSeason x_acts x_undone x_laid x_seens x_time x_fitting n_name B_tape B_text B_turns B_herds B_irons B_beasts B_units B_night B_draw B_told B_brands B_ironMarks B_herdTold B_born B_ruleFrom B_ruleTo B_code B_codeNumber B_eWhat B_eSign B_pile B_all B_burned B_was B_need B_laidRow B_long8 B_brings B_sBurning B_sStroke B_sIs B_sTold B_sUntold B_parts B_boxAll B_isBoxed G_hName G_iName G_bName ex) H)) := by
  refine metG_of 0 ck_X12_highest (Nat.le_of_ble_eq_true rfl) rMap (fun p e s m args below meth c A hx hb hml hr hlocks hown hts hK hD hA hP hS ls hl => ?_)
  have hown : s.vm.findClass "HideReaderModel" = some m.cls := hown
  have hl : lv_has ls 5 [(0, .ref (a 0))] := hl
  refine lv_iconst (v := mI 0) hx hb dX12_highest_0 rfl ?_
  refine lv_istore_n (lv' := [(1, .int (mI 0)), (0, .ref (a 0))]) hx hb dX12_highest_1 rfl hl (by decide) rfl (fun ls hl => ?_)
  refine lv_iconst (v := mI 0) hx hb dX12_highest_2 rfl ?_
  refine lv_istore_n (lv' := [(2, .int (mI 0)), (1, .int (mI 0)), (0, .ref (a 0))]) hx hb dX12_highest_3 rfl hl (by decide) rfl (fun ls hl => ?_)
  refine sy_loop (I := fun n H locs g => ∃ (z_5770 : Int) (z_5771 : Int) (ls : Array Slot), (0 ≤ z_5770 ∧ z_5770 ≤ 8) ∧ (0 ≤ z_5771 ∧ z_5771 ≤ 255) ∧ (8 - z_5770).toNat = n ∧ va_P D vwCl (rW k a x_taped x_size x_faultKind x_faultPlace x_at x_end x_token x_number x_bank x_rb x_codes x_within x_piled x_unitsInRule x_askBeast x_askStroke x_askAge x_askSeason x_acts x_undone x_laid x_seens x_time x_fitting n_name B_tape B_text B_turns B_herds B_irons B_beasts B_units B_night B_draw B_told B_brands B_ironMarks B_herdTold B_born B_ruleFrom B_ruleTo B_code B_codeNumber B_eWhat B_eSign B_pile B_all B_burned B_was B_need B_laidRow B_long8 B_brings B_sBurning B_sStroke B_sIs B_sTold B_sUntold B_parts B_boxAll B_isBoxed G_hName G_iName G_bName ex) H ∧ va_S A s.heap H locs ∧ lv_has ls 5 [(2, .int (mI z_5770)), (1, .int (mI z_5771)), (0, .ref (a 0))] ∧ g = F0 m 4 ls []) ?_ _ ⟨0, 0, _, by omega, by omega, rfl, hP, hS, lv_sub hl [0, 1, 2] rfl, rfl⟩
  intro n_5969 H locs g hI ih_5970
  obtain ⟨z_5770, z_5771, ls, h4_0, h4_1, mn_5969, hP, hS, hl, rfl⟩ := hI
  refine lv_iload_n hx hb dX12_highest_4 rfl (lv_at hl 0 rfl) ?_
  refine lv_aload_n hx hb dX12_highest_5 rfl (lv_at hl 2 rfl) ?_
  refine g_i (rDt hD) hS hA (g_V (own := "HideReaderModel") (As := []) (rest := [.int (mI z_5770)]) hx hb hml hown hts hK hP (rDt hD) (kr_X12_stocks (l := l) (D := D) (k := k) h_x_bank b_B_herds) ck_X12_stocks iv_X12_stocks uw_8_126 (rv_o hK hP) rfl hl.1 rfl (Nat.le_of_ble_eq_true rfl) dX12_highest_6 ⟨Nat.le_of_ble_eq_true rfl, Nat.le_of_ble_eq_true rfl⟩ ⟨Nat.le_of_ble_eq_true rfl, Nat.le_of_ble_eq_true rfl⟩) (fun r_5971 H locs hQ hS => ?_)
  obtain ⟨hr_5971_0, hr_5971_1, hP⟩ := hQ
  refine sy_icmp_ge (tgt := 68) hx hb dX12_highest_9 (by decide) (by omega) (by omega) (fun c_5972 => ?_) (fun c_5972 => ?_)
  · skip
    refine lv_iload_n hx hb dX12_highest_68 rfl (lv_at hl 1 rfl) ?_
    exact r_i hx hb hr hlocks dX12_highest_69 hS ⟨by omega, hP⟩
  · skip
    refine lv_iconst (v := mI 1) hx hb dX12_highest_12 rfl ?_
    refine lv_istore_n (lv' := [(3, .int (mI 1)), (2, .int (mI z_5770)), (1, .int (mI z_5771)), (0, .ref (a 0))]) hx hb dX12_highest_13 rfl hl (by decide) rfl (fun ls hl => ?_)
    refine lv_iconst (v := mI 0) hx hb dX12_highest_14 rfl ?_
    refine lv_istore (lv' := [(4, .int (mI 0)), (3, .int (mI 1)), (2, .int (mI z_5770)), (1, .int (mI z_5771)), (0, .ref (a 0))]) hx hb dX12_highest_15 hl (by decide) rfl (fun ls hl => ?_)
    refine sy_loop (I := fun n H locs g => ∃ (z_6128 : Int) (z_6129 : Int) (ls : Array Slot), (0 ≤ z_6128 ∧ z_6128 ≤ 8) ∧ (0 ≤ z_6129 ∧ z_6129 ≤ 1) ∧ (8 - z_6128).toNat = n ∧ va_P D vwCl (rW k a x_taped x_size x_faultKind x_faultPlace x_at x_end x_token x_number x_bank x_rb x_codes x_within x_piled x_unitsInRule x_askBeast x_askStroke x_askAge x_askSeason x_acts x_undone x_laid x_seens x_time x_fitting n_name B_tape B_text B_turns B_herds B_irons B_beasts B_units B_night B_draw B_told B_brands B_ironMarks B_herdTold B_born B_ruleFrom B_ruleTo B_code B_codeNumber B_eWhat B_eSign B_pile B_all B_burned B_was B_need B_laidRow B_long8 B_brings B_sBurning B_sStroke B_sIs B_sTold B_sUntold B_parts B_boxAll B_isBoxed G_hName G_iName G_bName ex) H ∧ va_S A s.heap H locs ∧ lv_has ls 5 [(4, .int (mI z_6128)), (3, .int (mI z_6129)), (2, .int (mI z_5770)), (1, .int (mI z_5771)), (0, .ref (a 0))] ∧ g = F0 m 17 ls []) ?_ _ ⟨0, 1, _, by omega, by omega, rfl, hP, hS, lv_sub hl [0, 1, 2, 3, 4] rfl, rfl⟩
    intro n_6148 H locs g hI ih_6149
    obtain ⟨z_6128, z_6129, ls, h17_0, h17_1, mn_6148, hP, hS, hl, rfl⟩ := hI
    refine lv_iload hx hb dX12_highest_17 (lv_at hl 0 rfl) ?_
    refine lv_aload_n hx hb dX12_highest_19 rfl (lv_at hl 4 rfl) ?_
    refine g_i (rDt hD) hS hA (g_V (own := "HideReaderModel") (As := []) (rest := [.int (mI z_6128)]) hx hb hml hown hts hK hP (rDt hD) (kr_X12_stocks (l := l) (D := D) (k := k) h_x_bank b_B_herds) ck_X12_stocks iv_X12_stocks uw_8_126 (rv_o hK hP) rfl hl.1 rfl (Nat.le_of_ble_eq_true rfl) dX12_highest_20 ⟨Nat.le_of_ble_eq_true rfl, Nat.le_of_ble_eq_true rfl⟩ ⟨Nat.le_of_ble_eq_true rfl, Nat.le_of_ble_eq_true rfl⟩) (fun r_6150 H locs hQ hS => ?_)
    obtain ⟨hr_6150_0, hr_6150_1, hP⟩ := hQ
    refine sy_icmp_ge (tgt := 52) hx hb dX12_highest_23 (by decide) (by omega) (by omega) (fun c_6158 => ?_) (fun c_6158 => ?_)
    · skip
      refine lv_iload_n hx hb dX12_highest_52 rfl (lv_at hl 1 rfl) ?_
      refine sy_if_eq (tgt := 62) hx hb dX12_highest_53 (by decide) (by omega) (fun c_6159 => ?_) (fun c_6159 => ?_)
      · skip
        refine lv_iinc (v := mI (z_5770 + 1)) (lv' := [(2, .int (mI (z_5770 + 1))), (4, .int (mI z_6128)), (3, .int (mI z_6129)), (1, .int (mI z_5771)), (0, .ref (a 0))]) hx hb dX12_highest_62 hl (k := 2) rfl (mI_ad rfl) (by decide) rfl (fun ls hl => ?_)
        refine lv_goto (tgt := 4) hx hb dX12_highest_65 (by decide) ?_
        exact ih_5970 _ _ _ _ (by omega) ⟨(z_5770 + 1), z_5771, _, by omega, by omega, rfl, hP, hS, lv_sub hl [0, 3, 4] rfl, rfl⟩
      · skip
        refine lv_iload_n hx hb dX12_highest_56 rfl (lv_at hl 3 rfl) ?_
        refine lv_iconst (v := mI 1) hx hb dX12_highest_57 rfl ?_
        refine lv_iload_n hx hb dX12_highest_58 rfl (lv_at hl 2 rfl) ?_
        refine sy_shl1 hx hb dX12_highest_59 7 (by decide) 128 (by decide) (by omega) (fun z_6160 ez_6160 hz_6160 => ?_)
        refine sy_ior hx hb dX12_highest_60 8 (by decide) 256 (by decide) (by omega) (by omega) (fun z_6161 hz_6161 => ?_)
        refine lv_istore_n (lv' := [(1, .int (mI z_6161)), (4, .int (mI z_6128)), (3, .int (mI z_6129)), (2, .int (mI z_5770)), (0, .ref (a 0))]) hx hb dX12_highest_61 rfl hl (by decide) rfl (fun ls hl => ?_)
        refine lv_iinc (v := mI (z_5770 + 1)) (lv' := [(2, .int (mI (z_5770 + 1))), (1, .int (mI z_6161)), (4, .int (mI z_6128)), (3, .int (mI z_6129)), (0, .ref (a 0))]) hx hb dX12_highest_62 hl (k := 3) rfl (mI_ad rfl) (by decide) rfl (fun ls hl => ?_)
        refine lv_goto (tgt := 4) hx hb dX12_highest_65 (by decide) ?_
        exact ih_5970 _ _ _ _ (by omega) ⟨(z_5770 + 1), z_6161, _, by omega, by omega, rfl, hP, hS, lv_sub hl [0, 1, 4] rfl, rfl⟩
    · skip
      refine lv_iload_n hx hb dX12_highest_26 rfl (lv_at hl 1 rfl) ?_
      refine sy_if_eq (tgt := 44) hx hb dX12_highest_27 (by decide) (by omega) (fun c_6162 => ?_) (fun c_6162 => ?_)
      · skip
        refine lv_iconst (v := mI 0) hx hb dX12_highest_44 rfl ?_
        refine lv_istore_n (lv' := [(3, .int (mI 0)), (4, .int (mI z_6128)), (2, .int (mI z_5770)), (1, .int (mI z_5771)), (0, .ref (a 0))]) hx hb dX12_highest_45 rfl hl (by decide) rfl (fun ls hl => ?_)
        refine lv_iinc (v := mI (z_6128 + 1)) (lv' := [(4, .int (mI (z_6128 + 1))), (3, .int (mI 0)), (2, .int (mI z_5770)), (1, .int (mI z_5771)), (0, .ref (a 0))]) hx hb dX12_highest_46 hl (k := 1) rfl (mI_ad rfl) (by decide) rfl (fun ls hl => ?_)
        refine lv_goto (tgt := 17) hx hb dX12_highest_49 (by decide) ?_
        exact ih_6149 _ _ _ _ (by omega) ⟨(z_6128 + 1), 0, _, by omega, by omega, rfl, hP, hS, lv_sub hl [0, 1, 2, 3, 4] rfl, rfl⟩
      · skip
        refine lv_aload_n hx hb dX12_highest_30 rfl (lv_at hl 4 rfl) ?_
        refine lv_iload_n hx hb dX12_highest_31 rfl (lv_at hl 2 rfl) ?_
        refine lv_iload hx hb dX12_highest_32 (lv_at hl 0 rfl) ?_
        refine g_i (rDt hD) hS hA (g_V (own := "HideReaderModel") (As := [.int (mI z_5770), .int (mI z_6128)]) (rest := []) hx hb hml hown hts hK hP (rDt hD) (kr_X12_isBelow (l := l) (D := D) (k := k) (by omega) (by omega) h_x_bank b_B_turns b_B_told b_B_brands g_R) ck_X12_isBelow iv_X12_isBelow uw_9_78 (rv_o hK hP) rfl hl.1 rfl (Nat.le_of_ble_eq_true rfl) dX12_highest_34 ⟨Nat.le_of_ble_eq_true rfl, Nat.le_of_ble_eq_true rfl⟩ ⟨Nat.le_of_ble_eq_true rfl, Nat.le_of_ble_eq_true rfl⟩) (fun r_6163 H locs hQ hS => ?_)
        obtain ⟨hq_r_6163, hP⟩ := hQ
        rcases hq_r_6163 with ⟨rfl, c_6164_0⟩ | ⟨rfl, c_6165_0⟩
        · skip
          refine sy_if_ne (tgt := 44) hx hb dX12_highest_37 (by decide) (by decide) (fun c9 => absurd c9 (by decide)) (fun c_6166 => ?_)
          refine lv_iconst (v := mI 1) hx hb dX12_highest_40 rfl ?_
          refine lv_goto (tgt := 45) hx hb dX12_highest_41 (by decide) ?_
          refine lv_istore_n (lv' := [(3, .int (mI 1)), (4, .int (mI z_6128)), (2, .int (mI z_5770)), (1, .int (mI z_5771)), (0, .ref (a 0))]) hx hb dX12_highest_45 rfl hl (by decide) rfl (fun ls hl => ?_)
          refine lv_iinc (v := mI (z_6128 + 1)) (lv' := [(4, .int (mI (z_6128 + 1))), (3, .int (mI 1)), (2, .int (mI z_5770)), (1, .int (mI z_5771)), (0, .ref (a 0))]) hx hb dX12_highest_46 hl (k := 1) rfl (mI_ad rfl) (by decide) rfl (fun ls hl => ?_)
          refine lv_goto (tgt := 17) hx hb dX12_highest_49 (by decide) ?_
          exact ih_6149 _ _ _ _ (by omega) ⟨(z_6128 + 1), 1, _, by omega, by omega, rfl, hP, hS, lv_sub hl [0, 1, 2, 3, 4] rfl, rfl⟩
        · skip
          refine sy_if_ne (tgt := 44) hx hb dX12_highest_37 (by decide) (by decide) (fun c_6167 => ?_) (fun c9 => absurd c9 (by decide))
          refine lv_iconst (v := mI 0) hx hb dX12_highest_44 rfl ?_
          refine lv_istore_n (lv' := [(3, .int (mI 0)), (4, .int (mI z_6128)), (2, .int (mI z_5770)), (1, .int (mI z_5771)), (0, .ref (a 0))]) hx hb dX12_highest_45 rfl hl (by decide) rfl (fun ls hl => ?_)
          refine lv_iinc (v := mI (z_6128 + 1)) (lv' := [(4, .int (mI (z_6128 + 1))), (3, .int (mI 0)), (2, .int (mI z_5770)), (1, .int (mI z_5771)), (0, .ref (a 0))]) hx hb dX12_highest_46 hl (k := 1) rfl (mI_ad rfl) (by decide) rfl (fun ls hl => ?_)
          refine lv_goto (tgt := 17) hx hb dX12_highest_49 (by decide) ?_
          exact ih_6149 _ _ _ _ (by omega) ⟨(z_6128 + 1), 0, _, by omega, by omega, rfl, hP, hS, lv_sub hl [0, 1, 2, 3, 4] rfl, rfl⟩
set_option maxHeartbeats 4000000 in
set_option maxRecDepth 100000 in
theorem kr_X12_closed (h_x_bank : 0 ≤ x_bank ∧ x_bank ≤ 1) (b_B_turns : bd (0) 4 B_turns) (b_B_herds : bd (0) 8 B_herds) (b_B_told : bd (0) 31 B_told) (b_B_brands : bd (0) 4095 B_brands) (g_R : 1 ≤ B_turns x_bank.toNat ∧ ¬ B_turns x_bank.toNat = 3) : MetG l D k yX12_closed cX12_closed 3 (some .int) 4 [.ref (a 0)] (rW k a x_taped x_size x_faultKind x_faultPlace x_at x_end x_token x_number x_bank x_rb x_codes x_within x_piled x_unitsInRule x_askBeast x_askStroke x_askAge x_askSeason x_acts x_undone x_laid x_seens x_time x_fitting n_name B_tape B_text B_turns B_herds B_irons B_beasts B_units B_night B_draw B_told B_brands B_ironMarks B_herdTold B_born B_ruleFrom B_ruleTo B_code B_codeNumber B_eWhat B_eSign B_pile B_all B_burned B_was B_need B_laidRow B_long8 B_brings B_sBurning B_sStroke B_sIs B_sTold B_sUntold B_parts B_boxAll B_isBoxed G_hName G_iName G_bName ex) (qGi (fun r0 H => (0 ≤ r0 ∧ r0 ≤ 1) ∧ va_P D vwCl (rW k a x_taped x_size x_faultKind x_faultPlace x_at x_end x_token x_number x_bank x_rb x_codes x_within x_piled x_unitsInRule x_askBeast x_askStroke x_askAge x_askSeason x_acts x_undone x_laid x_seens x_time x_fitting n_name B_tape B_text B_turns B_herds B_irons B_beasts B_units B_night B_draw B_told B_brands B_ironMarks B_herdTold B_born B_ruleFrom B_ruleTo B_code B_codeNumber B_eWhat B_eSign B_pile B_all B_burned B_was B_need B_laidRow B_long8 B_brings B_sBurning B_sStroke B_sIs B_sTold B_sUntold B_parts B_boxAll B_isBoxed G_hName G_iName G_bName ex) H)) := by
  refine metG_of 0 ck_X12_closed (Nat.le_of_ble_eq_true rfl) rMap (fun p e s m args below meth c A hx hb hml hr hlocks hown hts hK hD hA hP hS ls hl => ?_)
  have hown : s.vm.findClass "HideReaderModel" = some m.cls := hown
  have hl : lv_has ls 3 [(0, .ref (a 0))] := hl
  refine lv_iconst (v := mI 0) hx hb dX12_closed_0 rfl ?_
  refine lv_istore_n (lv' := [(1, .int (mI 0)), (0, .ref (a 0))]) hx hb dX12_closed_1 rfl hl (by decide) rfl (fun ls hl => ?_)
  refine sy_loop (I := fun n H locs g => ∃ (z_521 : Int) (ls : Array Slot), (0 ≤ z_521 ∧ z_521 ≤ 8) ∧ (8 - z_521).toNat = n ∧ va_P D vwCl (rW k a x_taped x_size x_faultKind x_faultPlace x_at x_end x_token x_number x_bank x_rb x_codes x_within x_piled x_unitsInRule x_askBeast x_askStroke x_askAge x_askSeason x_acts x_undone x_laid x_seens x_time x_fitting n_name B_tape B_text B_turns B_herds B_irons B_beasts B_units B_night B_draw B_told B_brands B_ironMarks B_herdTold B_born B_ruleFrom B_ruleTo B_code B_codeNumber B_eWhat B_eSign B_pile B_all B_burned B_was B_need B_laidRow B_long8 B_brings B_sBurning B_sStroke B_sIs B_sTold B_sUntold B_parts B_boxAll B_isBoxed G_hName G_iName G_bName ex) H ∧ va_S A s.heap H locs ∧ lv_has ls 3 [(1, .int (mI z_521)), (0, .ref (a 0))] ∧ g = F0 m 2 ls []) ?_ _ ⟨0, _, by omega, rfl, hP, hS, lv_sub hl [0, 1] rfl, rfl⟩
  intro n_596 H locs g hI ih_597
  obtain ⟨z_521, ls, h2_0, mn_596, hP, hS, hl, rfl⟩ := hI
  refine lv_iload_n hx hb dX12_closed_2 rfl (lv_at hl 0 rfl) ?_
  refine lv_aload_n hx hb dX12_closed_3 rfl (lv_at hl 1 rfl) ?_
  refine g_i (rDt hD) hS hA (g_V (own := "HideReaderModel") (As := []) (rest := [.int (mI z_521)]) hx hb hml hown hts hK hP (rDt hD) (kr_X12_stocks (l := l) (D := D) (k := k) h_x_bank b_B_herds) ck_X12_stocks iv_X12_stocks uw_8_126 (rv_o hK hP) rfl hl.1 rfl (Nat.le_of_ble_eq_true rfl) dX12_closed_4 ⟨Nat.le_of_ble_eq_true rfl, Nat.le_of_ble_eq_true rfl⟩ ⟨Nat.le_of_ble_eq_true rfl, Nat.le_of_ble_eq_true rfl⟩) (fun r_598 H locs hQ hS => ?_)
  obtain ⟨hr_598_0, hr_598_1, hP⟩ := hQ
  refine sy_icmp_ge (tgt := 56) hx hb dX12_closed_7 (by decide) (by omega) (by omega) (fun c_599 => ?_) (fun c_599 => ?_)
  · skip
    refine lv_iconst (v := mI 1) hx hb dX12_closed_56 rfl ?_
    exact r_i hx hb hr hlocks dX12_closed_57 hS ⟨by omega, hP⟩
  · skip
    refine lv_iconst (v := mI 0) hx hb dX12_closed_10 rfl ?_
    refine lv_istore_n (lv' := [(2, .int (mI 0)), (1, .int (mI z_521)), (0, .ref (a 0))]) hx hb dX12_closed_11 rfl hl (by decide) rfl (fun ls hl => ?_)
    refine sy_loop (I := fun n H locs g => ∃ (z_655 : Int) (ls : Array Slot), (0 ≤ z_655 ∧ z_655 ≤ 8) ∧ (8 - z_655).toNat = n ∧ va_P D vwCl (rW k a x_taped x_size x_faultKind x_faultPlace x_at x_end x_token x_number x_bank x_rb x_codes x_within x_piled x_unitsInRule x_askBeast x_askStroke x_askAge x_askSeason x_acts x_undone x_laid x_seens x_time x_fitting n_name B_tape B_text B_turns B_herds B_irons B_beasts B_units B_night B_draw B_told B_brands B_ironMarks B_herdTold B_born B_ruleFrom B_ruleTo B_code B_codeNumber B_eWhat B_eSign B_pile B_all B_burned B_was B_need B_laidRow B_long8 B_brings B_sBurning B_sStroke B_sIs B_sTold B_sUntold B_parts B_boxAll B_isBoxed G_hName G_iName G_bName ex) H ∧ va_S A s.heap H locs ∧ lv_has ls 3 [(2, .int (mI z_655)), (1, .int (mI z_521)), (0, .ref (a 0))] ∧ g = F0 m 12 ls []) ?_ _ ⟨0, _, by omega, rfl, hP, hS, lv_sub hl [0, 1, 2] rfl, rfl⟩
    intro n_663 H locs g hI ih_664
    obtain ⟨z_655, ls, h12_0, mn_663, hP, hS, hl, rfl⟩ := hI
    refine lv_iload_n hx hb dX12_closed_12 rfl (lv_at hl 0 rfl) ?_
    refine lv_aload_n hx hb dX12_closed_13 rfl (lv_at hl 2 rfl) ?_
    refine g_i (rDt hD) hS hA (g_V (own := "HideReaderModel") (As := []) (rest := [.int (mI z_655)]) hx hb hml hown hts hK hP (rDt hD) (kr_X12_stocks (l := l) (D := D) (k := k) h_x_bank b_B_herds) ck_X12_stocks iv_X12_stocks uw_8_126 (rv_o hK hP) rfl hl.1 rfl (Nat.le_of_ble_eq_true rfl) dX12_closed_14 ⟨Nat.le_of_ble_eq_true rfl, Nat.le_of_ble_eq_true rfl⟩ ⟨Nat.le_of_ble_eq_true rfl, Nat.le_of_ble_eq_true rfl⟩) (fun r_665 H locs hQ hS => ?_)
    obtain ⟨hr_665_0, hr_665_1, hP⟩ := hQ
    refine sy_icmp_ge (tgt := 50) hx hb dX12_closed_17 (by decide) (by omega) (by omega) (fun c_666 => ?_) (fun c_666 => ?_)
    · skip
      refine lv_iinc (v := mI (z_521 + 1)) (lv' := [(1, .int (mI (z_521 + 1))), (2, .int (mI z_655)), (0, .ref (a 0))]) hx hb dX12_closed_50 hl (k := 1) rfl (mI_ad rfl) (by decide) rfl (fun ls hl => ?_)
      refine lv_goto (tgt := 2) hx hb dX12_closed_53 (by decide) ?_
      exact ih_597 _ _ _ _ (by omega) ⟨(z_521 + 1), _, by omega, rfl, hP, hS, lv_sub hl [0, 2] rfl, rfl⟩
    · skip
      refine lv_iload_n hx hb dX12_closed_20 rfl (lv_at hl 1 rfl) ?_
      refine lv_iload_n hx hb dX12_closed_21 rfl (lv_at hl 0 rfl) ?_
      refine sy_icmp_eq (tgt := 44) hx hb dX12_closed_22 (by decide) (by omega) (by omega) (fun c_667 => ?_) (fun c_667 => ?_)
      · skip
        refine lv_iinc (v := mI (z_655 + 1)) (lv' := [(2, .int (mI (z_655 + 1))), (1, .int (mI z_521)), (0, .ref (a 0))]) hx hb dX12_closed_44 hl (k := 0) rfl (mI_ad rfl) (by decide) rfl (fun ls hl => ?_)
        refine lv_goto (tgt := 12) hx hb dX12_closed_47 (by decide) ?_
        exact ih_664 _ _ _ _ (by omega) ⟨(z_655 + 1), _, by omega, rfl, hP, hS, lv_sub hl [0, 1, 2] rfl, rfl⟩
      · skip
        refine lv_aload_n hx hb dX12_closed_25 rfl (lv_at hl 2 rfl) ?_
        refine lv_aload_n hx hb dX12_closed_26 rfl (lv_at hl 2 rfl) ?_
        refine lv_iload_n hx hb dX12_closed_27 rfl (lv_at hl 1 rfl) ?_
        refine g_i (rDt hD) hS hA (g_V (own := "HideReaderModel") (As := [.int (mI z_521)]) (rest := [.ref (a 0)]) hx hb hml hown hts hK hP (rDt hD) (kr_X12_brandOf (l := l) (D := D) (k := k) (by omega) h_x_bank b_B_brands) ck_X12_brandOf iv_X12_brandOf uw_6_220 (rv_o hK hP) rfl hl.1 rfl (Nat.le_of_ble_eq_true rfl) dX12_closed_28 ⟨Nat.le_of_ble_eq_true rfl, Nat.le_of_ble_eq_true rfl⟩ ⟨Nat.le_of_ble_eq_true rfl, Nat.le_of_ble_eq_true rfl⟩) (fun r_668 H locs hQ hS => ?_)
        obtain ⟨hr_668_0, hr_668_1, hP⟩ := hQ
        refine lv_aload_n hx hb dX12_closed_31 rfl (lv_at hl 2 rfl) ?_
        refine lv_iload_n hx hb dX12_closed_32 rfl (lv_at hl 0 rfl) ?_
        refine g_i (rDt hD) hS hA (g_V (own := "HideReaderModel") (As := [.int (mI z_655)]) (rest := [.int (mI r_668), .ref (a 0)]) hx hb hml hown hts hK hP (rDt hD) (kr_X12_brandOf (l := l) (D := D) (k := k) (by omega) h_x_bank b_B_brands) ck_X12_brandOf iv_X12_brandOf uw_6_220 (rv_o hK hP) rfl hl.1 rfl (Nat.le_of_ble_eq_true rfl) dX12_closed_33 ⟨Nat.le_of_ble_eq_true rfl, Nat.le_of_ble_eq_true rfl⟩ ⟨Nat.le_of_ble_eq_true rfl, Nat.le_of_ble_eq_true rfl⟩) (fun r_669 H locs hQ hS => ?_)
        obtain ⟨hr_669_0, hr_669_1, hP⟩ := hQ
        refine g_i (rDt hD) hS hA (g_V (own := "HideReaderModel") (As := [.int (mI r_668), .int (mI r_669)]) (rest := []) hx hb hml hown hts hK hP (rDt hD) (kr_X12_isUnder (l := l) (D := D) (k := k) (by omega) (by omega) h_x_bank b_B_turns b_B_told g_R) ck_X12_isUnder iv_X12_isUnder uw_8_186 (rv_o hK hP) rfl hl.1 rfl (Nat.le_of_ble_eq_true rfl) dX12_closed_36 ⟨Nat.le_of_ble_eq_true rfl, Nat.le_of_ble_eq_true rfl⟩ ⟨Nat.le_of_ble_eq_true rfl, Nat.le_of_ble_eq_true rfl⟩) (fun r_670 H locs hQ hS => ?_)
        obtain ⟨hr_670_0, hr_670_1, hP⟩ := hQ
        refine sy_if_eq (tgt := 44) hx hb dX12_closed_39 (by decide) (by omega) (fun c_671 => ?_) (fun c_671 => ?_)
        · skip
          refine lv_iinc (v := mI (z_655 + 1)) (lv' := [(2, .int (mI (z_655 + 1))), (1, .int (mI z_521)), (0, .ref (a 0))]) hx hb dX12_closed_44 hl (k := 0) rfl (mI_ad rfl) (by decide) rfl (fun ls hl => ?_)
          refine lv_goto (tgt := 12) hx hb dX12_closed_47 (by decide) ?_
          exact ih_664 _ _ _ _ (by omega) ⟨(z_655 + 1), _, by omega, rfl, hP, hS, lv_sub hl [0, 1, 2] rfl, rfl⟩
        · skip
          refine lv_iconst (v := mI 0) hx hb dX12_closed_42 rfl ?_
          exact r_i hx hb hr hlocks dX12_closed_43 hS ⟨by omega, hP⟩
set_option maxHeartbeats 4000000 in
set_option maxRecDepth 100000 in
theorem kr_X12_twins (h_x_bank : 0 ≤ x_bank ∧ x_bank ≤ 1) (b_B_turns : bd (0) 4 B_turns) (b_B_herds : bd (0) 8 B_herds) (b_B_told : bd (0) 31 B_told) (b_B_brands : bd (0) 4095 B_brands) (g_R : 1 ≤ B_turns x_bank.toNat ∧ ¬ B_turns x_bank.toNat = 3) : MetG l D k yX12_twins cX12_twins 4 (some .int) 5 [.ref (a 0)] (rW k a x_taped x_size x_faultKind x_faultPlace x_at x_end x_token x_number x_bank x_rb x_codes x_within x_piled x_unitsInRule x_askBeast x_askStroke x_askAge x_askSeason x_acts x_undone x_laid x_seens x_time x_fitting n_name B_tape B_text B_turns B_herds B_irons B_beasts B_units B_night B_draw B_told B_brands B_ironMarks B_herdTold B_born B_ruleFrom B_ruleTo B_code B_codeNumber B_eWhat B_eSign B_pile B_all B_burned B_was B_need B_laidRow B_long8 B_brings B_sBurning B_sStroke B_sIs B_sTold B_sUntold B_parts B_boxAll B_isBoxed G_hName G_iName G_bName ex) (qGi (fun r0 H => (-2147483648 ≤ r0 ∧ r0 ≤ 2147483647) ∧ va_P D vwCl (rW k a x_taped x_size x_faultKind x_faultPlace x_at x_end x_token x_number x_bank x_rb x_codes x_within x_piled x_unitsInRule x_askBeast x_askStroke x_askAge x_askSeason x_acts x_undone x_laid x_seens x_time x_fitting n_name B_tape B_text B_turns B_herds B_irons B_beasts B_units B_night B_draw B_told B_brands B_ironMarks B_herdTold B_born B_ruleFrom B_ruleTo B_code B_codeNumber B_eWhat B_eSign B_pile B_all B_burned B_was B_need B_laidRow B_long8 B_brings B_sBurning B_sStroke B_sIs B_sTold B_sUntold B_parts B_boxAll B_isBoxed G_hName G_iName G_bName ex) H)) := by
  refine metG_of 0 ck_X12_twins (Nat.le_of_ble_eq_true rfl) rMap (fun p e s m args below meth c A hx hb hml hr hlocks hown hts hK hD hA hP hS ls hl => ?_)
  have hown : s.vm.findClass "HideReaderModel" = some m.cls := hown
  have hl : lv_has ls 4 [(0, .ref (a 0))] := hl
  refine lv_iconst (v := mI 0) hx hb dX12_twins_0 rfl ?_
  refine lv_istore_n (lv' := [(1, .int (mI 0)), (0, .ref (a 0))]) hx hb dX12_twins_1 rfl hl (by decide) rfl (fun ls hl => ?_)
  refine lv_iconst (v := mI 0) hx hb dX12_twins_2 rfl ?_
  refine lv_istore_n (lv' := [(2, .int (mI 0)), (1, .int (mI 0)), (0, .ref (a 0))]) hx hb dX12_twins_3 rfl hl (by decide) rfl (fun ls hl => ?_)
  refine sy_loop (I := fun n H locs g => ∃ (z_12206 : Int) (z_12207 : Int) (ls : Array Slot), (0 ≤ z_12206 ∧ z_12206 ≤ 8) ∧ (-2147483648 ≤ z_12207 ∧ z_12207 ≤ 2147483647) ∧ (8 - z_12206).toNat = n ∧ va_P D vwCl (rW k a x_taped x_size x_faultKind x_faultPlace x_at x_end x_token x_number x_bank x_rb x_codes x_within x_piled x_unitsInRule x_askBeast x_askStroke x_askAge x_askSeason x_acts x_undone x_laid x_seens x_time x_fitting n_name B_tape B_text B_turns B_herds B_irons B_beasts B_units B_night B_draw B_told B_brands B_ironMarks B_herdTold B_born B_ruleFrom B_ruleTo B_code B_codeNumber B_eWhat B_eSign B_pile B_all B_burned B_was B_need B_laidRow B_long8 B_brings B_sBurning B_sStroke B_sIs B_sTold B_sUntold B_parts B_boxAll B_isBoxed G_hName G_iName G_bName ex) H ∧ va_S A s.heap H locs ∧ lv_has ls 4 [(2, .int (mI z_12206)), (1, .int (mI z_12207)), (0, .ref (a 0))] ∧ g = F0 m 4 ls []) ?_ _ ⟨0, 0, _, by omega, by omega, rfl, hP, hS, lv_sub hl [0, 1, 2] rfl, rfl⟩
  intro n_12323 H locs g hI ih_12324
  obtain ⟨z_12206, z_12207, ls, h4_0, h4_1, mn_12323, hP, hS, hl, rfl⟩ := hI
  refine lv_iload_n hx hb dX12_twins_4 rfl (lv_at hl 0 rfl) ?_
  refine lv_aload_n hx hb dX12_twins_5 rfl (lv_at hl 2 rfl) ?_
  refine g_i (rDt hD) hS hA (g_V (own := "HideReaderModel") (As := []) (rest := [.int (mI z_12206)]) hx hb hml hown hts hK hP (rDt hD) (kr_X12_stocks (l := l) (D := D) (k := k) h_x_bank b_B_herds) ck_X12_stocks iv_X12_stocks uw_8_126 (rv_o hK hP) rfl hl.1 rfl (Nat.le_of_ble_eq_true rfl) dX12_twins_6 ⟨Nat.le_of_ble_eq_true rfl, Nat.le_of_ble_eq_true rfl⟩ ⟨Nat.le_of_ble_eq_true rfl, Nat.le_of_ble_eq_true rfl⟩) (fun r_12325 H locs hQ hS => ?_)
  obtain ⟨hr_12325_0, hr_12325_1, hP⟩ := hQ
  refine sy_icmp_ge (tgt := 56) hx hb dX12_twins_9 (by decide) (by omega) (by omega) (fun c_12326 => ?_) (fun c_12326 => ?_)
  · skip
    refine lv_iload_n hx hb dX12_twins_56 rfl (lv_at hl 1 rfl) ?_
    exact r_i hx hb hr hlocks dX12_twins_57 hS ⟨by omega, hP⟩
  · skip
    refine lv_iconst (v := mI 0) hx hb dX12_twins_12 rfl ?_
    refine lv_istore_n (lv' := [(3, .int (mI 0)), (2, .int (mI z_12206)), (1, .int (mI z_12207)), (0, .ref (a 0))]) hx hb dX12_twins_13 rfl hl (by decide) rfl (fun ls hl => ?_)
    refine sy_loop (I := fun n H locs g => ∃ (z_12418 : Int) (z_12419 : Int) (ls : Array Slot), (0 ≤ z_12418 ∧ z_12418 ≤ 7) ∧ (-2147483648 ≤ z_12419 ∧ z_12419 ≤ 2147483647) ∧ (7 - z_12418).toNat = n ∧ va_P D vwCl (rW k a x_taped x_size x_faultKind x_faultPlace x_at x_end x_token x_number x_bank x_rb x_codes x_within x_piled x_unitsInRule x_askBeast x_askStroke x_askAge x_askSeason x_acts x_undone x_laid x_seens x_time x_fitting n_name B_tape B_text B_turns B_herds B_irons B_beasts B_units B_night B_draw B_told B_brands B_ironMarks B_herdTold B_born B_ruleFrom B_ruleTo B_code B_codeNumber B_eWhat B_eSign B_pile B_all B_burned B_was B_need B_laidRow B_long8 B_brings B_sBurning B_sStroke B_sIs B_sTold B_sUntold B_parts B_boxAll B_isBoxed G_hName G_iName G_bName ex) H ∧ va_S A s.heap H locs ∧ lv_has ls 4 [(3, .int (mI z_12418)), (2, .int (mI z_12206)), (1, .int (mI z_12419)), (0, .ref (a 0))] ∧ g = F0 m 14 ls []) ?_ _ ⟨0, z_12207, _, by omega, by omega, rfl, hP, hS, lv_sub hl [0, 1, 2, 3] rfl, rfl⟩
    intro n_12429 H locs g hI ih_12430
    obtain ⟨z_12418, z_12419, ls, h14_0, h14_1, mn_12429, hP, hS, hl, rfl⟩ := hI
    refine lv_iload_n hx hb dX12_twins_14 rfl (lv_at hl 0 rfl) ?_
    refine lv_iload_n hx hb dX12_twins_15 rfl (lv_at hl 1 rfl) ?_
    refine sy_icmp_ge (tgt := 50) hx hb dX12_twins_16 (by decide) (by omega) (by omega) (fun c_12431 => ?_) (fun c_12431 => ?_)
    · skip
      refine lv_iinc (v := mI (z_12206 + 1)) (lv' := [(2, .int (mI (z_12206 + 1))), (3, .int (mI z_12418)), (1, .int (mI z_12419)), (0, .ref (a 0))]) hx hb dX12_twins_50 hl (k := 1) rfl (mI_ad rfl) (by decide) rfl (fun ls hl => ?_)
      refine lv_goto (tgt := 4) hx hb dX12_twins_53 (by decide) ?_
      exact ih_12324 _ _ _ _ (by omega) ⟨(z_12206 + 1), z_12419, _, by omega, by omega, rfl, hP, hS, lv_sub hl [0, 2, 3] rfl, rfl⟩
    · skip
      refine lv_iload_n hx hb dX12_twins_19 rfl (lv_at hl 2 rfl) ?_
      refine lv_aload_n hx hb dX12_twins_20 rfl (lv_at hl 3 rfl) ?_
      refine lv_aload_n hx hb dX12_twins_21 rfl (lv_at hl 3 rfl) ?_
      refine lv_iload_n hx hb dX12_twins_22 rfl (lv_at hl 1 rfl) ?_
      refine g_i (rDt hD) hS hA (g_V (own := "HideReaderModel") (As := [.int (mI z_12206)]) (rest := [.ref (a 0), .int (mI z_12419)]) hx hb hml hown hts hK hP (rDt hD) (kr_X12_brandOf (l := l) (D := D) (k := k) (by omega) h_x_bank b_B_brands) ck_X12_brandOf iv_X12_brandOf uw_6_220 (rv_o hK hP) rfl hl.1 rfl (Nat.le_of_ble_eq_true rfl) dX12_twins_23 ⟨Nat.le_of_ble_eq_true rfl, Nat.le_of_ble_eq_true rfl⟩ ⟨Nat.le_of_ble_eq_true rfl, Nat.le_of_ble_eq_true rfl⟩) (fun r_12432 H locs hQ hS => ?_)
      obtain ⟨hr_12432_0, hr_12432_1, hP⟩ := hQ
      refine lv_aload_n hx hb dX12_twins_26 rfl (lv_at hl 3 rfl) ?_
      refine lv_iload_n hx hb dX12_twins_27 rfl (lv_at hl 0 rfl) ?_
      refine g_i (rDt hD) hS hA (g_V (own := "HideReaderModel") (As := [.int (mI z_12418)]) (rest := [.int (mI r_12432), .ref (a 0), .int (mI z_12419)]) hx hb hml hown hts hK hP (rDt hD) (kr_X12_brandOf (l := l) (D := D) (k := k) (by omega) h_x_bank b_B_brands) ck_X12_brandOf iv_X12_brandOf uw_6_220 (rv_o hK hP) rfl hl.1 rfl (Nat.le_of_ble_eq_true rfl) dX12_twins_28 ⟨Nat.le_of_ble_eq_true rfl, Nat.le_of_ble_eq_true rfl⟩ ⟨Nat.le_of_ble_eq_true rfl, Nat.le_of_ble_eq_true rfl⟩) (fun r_12433 H locs hQ hS => ?_)
      obtain ⟨hr_12433_0, hr_12433_1, hP⟩ := hQ
      refine g_i (rDt hD) hS hA (g_V (own := "HideReaderModel") (As := [.int (mI r_12432), .int (mI r_12433)]) (rest := [.int (mI z_12419)]) hx hb hml hown hts hK hP (rDt hD) (kr_X12_areOne (l := l) (D := D) (k := k) (by omega) (by omega) h_x_bank b_B_turns b_B_told g_R) ck_X12_areOne iv_X12_areOne uw_8_210 (rv_o hK hP) rfl hl.1 rfl (Nat.le_of_ble_eq_true rfl) dX12_twins_31 ⟨Nat.le_of_ble_eq_true rfl, Nat.le_of_ble_eq_true rfl⟩ ⟨Nat.le_of_ble_eq_true rfl, Nat.le_of_ble_eq_true rfl⟩) (fun r_12434 H locs hQ hS => ?_)
      obtain ⟨hq_r_12434, hP⟩ := hQ
      rcases hq_r_12434 with ⟨rfl, c_12435_0⟩ | ⟨rfl, c_12436_0⟩
      · skip
        refine sy_if_eq (tgt := 41) hx hb dX12_twins_34 (by decide) (by decide) (fun c_12437 => ?_) (fun c9 => absurd c9 (by decide))
        refine lv_iconst (v := mI 0) hx hb dX12_twins_41 rfl ?_
        refine sy_iadd hx hb dX12_twins_42 z_12419 (by omega) ?_
        refine lv_istore_n (lv' := [(1, .int (mI z_12419)), (3, .int (mI z_12418)), (2, .int (mI z_12206)), (0, .ref (a 0))]) hx hb dX12_twins_43 rfl hl (by decide) rfl (fun ls hl => ?_)
        refine lv_iinc (v := mI (z_12418 + 1)) (lv' := [(3, .int (mI (z_12418 + 1))), (1, .int (mI z_12419)), (2, .int (mI z_12206)), (0, .ref (a 0))]) hx hb dX12_twins_44 hl (k := 1) rfl (mI_ad rfl) (by decide) rfl (fun ls hl => ?_)
        refine lv_goto (tgt := 14) hx hb dX12_twins_47 (by decide) ?_
        exact ih_12430 _ _ _ _ (by omega) ⟨(z_12418 + 1), z_12419, _, by omega, by omega, rfl, hP, hS, lv_sub hl [0, 2, 1, 3] rfl, rfl⟩
      · skip
        refine sy_if_eq (tgt := 41) hx hb dX12_twins_34 (by decide) (by decide) (fun c9 => absurd c9 (by decide)) (fun c_12438 => ?_)
        refine lv_iconst (v := mI 1) hx hb dX12_twins_37 rfl ?_
        refine lv_goto (tgt := 42) hx hb dX12_twins_38 (by decide) ?_
        refine sy_iadd hx hb dX12_twins_42 (z_12419 + 1) rfl ?_
        refine sy_any (fun z_12439 hz_12439 => ?_)
        refine lv_istore_n (lv' := [(1, .int (mI z_12439)), (3, .int (mI z_12418)), (2, .int (mI z_12206)), (0, .ref (a 0))]) hx hb dX12_twins_43 rfl hl (by decide) rfl (fun ls hl => ?_)
        refine lv_iinc (v := mI (z_12418 + 1)) (lv' := [(3, .int (mI (z_12418 + 1))), (1, .int (mI z_12439)), (2, .int (mI z_12206)), (0, .ref (a 0))]) hx hb dX12_twins_44 hl (k := 1) rfl (mI_ad rfl) (by decide) rfl (fun ls hl => ?_)
        refine lv_goto (tgt := 14) hx hb dX12_twins_47 (by decide) ?_
        exact ih_12430 _ _ _ _ (by omega) ⟨(z_12418 + 1), z_12439, _, by omega, by omega, rfl, hP, hS, lv_sub hl [0, 2, 1, 3] rfl, rfl⟩
set_option maxHeartbeats 4000000 in
set_option maxRecDepth 100000 in
theorem kr_X12_differ {p0 p1 : Int} (hp0 : 0 ≤ p0 ∧ p0 ≤ 4095) (hp1 : 0 ≤ p1 ∧ p1 ≤ 4095) (h_x_bank : 0 ≤ x_bank ∧ x_bank ≤ 1) (b_B_turns : bd (0) 4 B_turns) (b_B_told : bd (0) 31 B_told) (g_R : 1 ≤ B_turns x_bank.toNat ∧ ¬ B_turns x_bank.toNat = 3) : MetG l D k yX12_differ cX12_differ 6 (some .int) 3 [.ref (a 0), .int (mI p0), .int (mI p1)] (rW k a x_taped x_size x_faultKind x_faultPlace x_at x_end x_token x_number x_bank x_rb x_codes x_within x_piled x_unitsInRule x_askBeast x_askStroke x_askAge x_askSeason x_acts x_undone x_laid x_seens x_time x_fitting n_name B_tape B_text B_turns B_herds B_irons B_beasts B_units B_night B_draw B_told B_brands B_ironMarks B_herdTold B_born B_ruleFrom B_ruleTo B_code B_codeNumber B_eWhat B_eSign B_pile B_all B_burned B_was B_need B_laidRow B_long8 B_brings B_sBurning B_sStroke B_sIs B_sTold B_sUntold B_parts B_boxAll B_isBoxed G_hName G_iName G_bName ex) (qGi (fun r0 H => (-2147483648 ≤ r0 ∧ r0 ≤ 12) ∧ va_P D vwCl (rW k a x_taped x_size x_faultKind x_faultPlace x_at x_end x_token x_number x_bank x_rb x_codes x_within x_piled x_unitsInRule x_askBeast x_askStroke x_askAge x_askSeason x_acts x_undone x_laid x_seens x_time x_fitting n_name B_tape B_text B_turns B_herds B_irons B_beasts B_units B_night B_draw B_told B_brands B_ironMarks B_herdTold B_born B_ruleFrom B_ruleTo B_code B_codeNumber B_eWhat B_eSign B_pile B_all B_burned B_was B_need B_laidRow B_long8 B_brings B_sBurning B_sStroke B_sIs B_sTold B_sUntold B_parts B_boxAll B_isBoxed G_hName G_iName G_bName ex) H)) := by
  refine metG_of 2 ck_X12_differ (Nat.le_of_ble_eq_true rfl) rMap (fun p e s m args below meth c A hx hb hml hr hlocks hown hts hK hD hA hP hS ls hl => ?_)
  have hown : s.vm.findClass "HideReaderModel" = some m.cls := hown
  have hl : lv_has ls 6 [(0, .ref (a 0)), (1, .int (mI p0)), (2, .int (mI p1))] := hl
  refine lv_bipush (v := mI 12) hx hb dX12_differ_0 (by decide) ?_
  refine lv_istore_n (lv' := [(3, .int (mI 12)), (0, .ref (a 0)), (1, .int (mI p0)), (2, .int (mI p1))]) hx hb dX12_differ_2 rfl hl (by decide) rfl (fun ls hl => ?_)
  refine lv_iconst (v := mI 0) hx hb dX12_differ_3 rfl ?_
  refine lv_istore (lv' := [(4, .int (mI 0)), (3, .int (mI 12)), (0, .ref (a 0)), (1, .int (mI p0)), (2, .int (mI p1))]) hx hb dX12_differ_4 hl (by decide) rfl (fun ls hl => ?_)
  refine sy_loop (I := fun n H locs g => ∃ (z_95 : Int) (z_96 : Int) (ls : Array Slot), (0 ≤ z_95 ∧ z_95 ≤ 8) ∧ (-2147483648 ≤ z_96 ∧ z_96 ≤ 12) ∧ (8 - z_95).toNat = n ∧ va_P D vwCl (rW k a x_taped x_size x_faultKind x_faultPlace x_at x_end x_token x_number x_bank x_rb x_codes x_within x_piled x_unitsInRule x_askBeast x_askStroke x_askAge x_askSeason x_acts x_undone x_laid x_seens x_time x_fitting n_name B_tape B_text B_turns B_herds B_irons B_beasts B_units B_night B_draw B_told B_brands B_ironMarks B_herdTold B_born B_ruleFrom B_ruleTo B_code B_codeNumber B_eWhat B_eSign B_pile B_all B_burned B_was B_need B_laidRow B_long8 B_brings B_sBurning B_sStroke B_sIs B_sTold B_sUntold B_parts B_boxAll B_isBoxed G_hName G_iName G_bName ex) H ∧ va_S A s.heap H locs ∧ lv_has ls 6 [(4, .int (mI z_95)), (3, .int (mI z_96)), (0, .ref (a 0)), (1, .int (mI p0)), (2, .int (mI p1))] ∧ g = F0 m 6 ls []) ?_ _ ⟨0, 12, _, by omega, by omega, rfl, hP, hS, lv_sub hl [0, 1, 2, 3, 4] rfl, rfl⟩
  intro n_103 H locs g hI ih_104
  obtain ⟨z_95, z_96, ls, h6_0, h6_1, mn_103, hP, hS, hl, rfl⟩ := hI
  refine lv_iload hx hb dX12_differ_6 (lv_at hl 0 rfl) ?_
  refine lv_aload_n hx hb dX12_differ_8 rfl (lv_at hl 2 rfl) ?_
  refine g_i (rDt hD) hS hA (g_V (own := "HideReaderModel") (As := []) (rest := [.int (mI z_95)]) hx hb hml hown hts hK hP (rDt hD) (kr_X12_placements (l := l) (D := D) (k := k) h_x_bank b_B_turns b_B_told g_R) ck_X12_placements iv_X12_placements uw_6_239 (rv_o hK hP) rfl hl.1 rfl (Nat.le_of_ble_eq_true rfl) dX12_differ_9 ⟨Nat.le_of_ble_eq_true rfl, Nat.le_of_ble_eq_true rfl⟩ ⟨Nat.le_of_ble_eq_true rfl, Nat.le_of_ble_eq_true rfl⟩) (fun r_105 H locs hQ hS => ?_)
  obtain ⟨hr_105_0, hr_105_1, hP⟩ := hQ
  refine sy_icmp_ge (tgt := 44) hx hb dX12_differ_12 (by decide) (by omega) (by omega) (fun c_106 => ?_) (fun c_106 => ?_)
  · skip
    refine lv_iload_n hx hb dX12_differ_44 rfl (lv_at hl 1 rfl) ?_
    exact r_i hx hb hr hlocks dX12_differ_45 hS ⟨by omega, hP⟩
  · skip
    refine lv_aload_n hx hb dX12_differ_15 rfl (lv_at hl 2 rfl) ?_
    refine lv_iload_n hx hb dX12_differ_16 rfl (lv_at hl 3 rfl) ?_
    refine lv_iload hx hb dX12_differ_17 (lv_at hl 0 rfl) ?_
    refine g_i (rDt hD) hS hA (g_V (own := "HideReaderModel") (As := [.int (mI p0), .int (mI z_95)]) (rest := []) hx hb hml hown hts hK hP (rDt hD) (kr_X12_placedBy (l := l) (D := D) (k := k) (by omega) (by omega) h_x_bank b_B_turns g_R) ck_X12_placedBy iv_X12_placedBy uw_7_7 (rv_o hK hP) rfl hl.1 rfl (Nat.le_of_ble_eq_true rfl) dX12_differ_19 ⟨Nat.le_of_ble_eq_true rfl, Nat.le_of_ble_eq_true rfl⟩ ⟨Nat.le_of_ble_eq_true rfl, Nat.le_of_ble_eq_true rfl⟩) (fun r_107 H locs hQ hS => ?_)
    obtain ⟨hr_107_0, hr_107_1, hP⟩ := hQ
    refine lv_iload_n hx hb dX12_differ_22 rfl (lv_at hl 4 rfl) ?_
    refine sy_ixor hx hb dX12_differ_23 12 (by decide) 4096 (by decide) (by omega) (by omega) (fun z_108 hz_108 => ?_)
    refine g_i (rDt hD) hS hA (g_S (own := "HideReaderModel") (As := [.int (mI z_108)]) (rest := []) hx hb hml hown hts hK hP (rDt hD) (kr_X12_bitsOf (l := l) (D := D) (k := k) (by omega)) ck_X12_bitsOf uw_8_166 uw_8_165 rfl hl.1 rfl (Nat.le_of_ble_eq_true rfl) dX12_differ_24 ⟨Nat.le_of_ble_eq_true rfl, Nat.le_of_ble_eq_true rfl⟩ ⟨Nat.le_of_ble_eq_true rfl, Nat.le_of_ble_eq_true rfl⟩) (fun r_109 H locs hQ hS => ?_)
    obtain ⟨hr_109_0, hP⟩ := hQ
    refine lv_istore (lv' := [(5, .int (mI r_109)), (4, .int (mI z_95)), (3, .int (mI z_96)), (0, .ref (a 0)), (1, .int (mI p0)), (2, .int (mI p1))]) hx hb dX12_differ_27 hl (by decide) rfl (fun ls hl => ?_)
    refine lv_iload hx hb dX12_differ_29 (lv_at hl 0 rfl) ?_
    refine lv_iload_n hx hb dX12_differ_31 rfl (lv_at hl 2 rfl) ?_
    refine sy_icmp_ge (tgt := 38) hx hb dX12_differ_32 (by decide) (by omega) (by omega) (fun c_110 => ?_) (fun c_110 => ?_)
    · skip
      refine lv_iinc (v := mI (z_95 + 1)) (lv' := [(4, .int (mI (z_95 + 1))), (5, .int (mI r_109)), (3, .int (mI z_96)), (0, .ref (a 0)), (1, .int (mI p0)), (2, .int (mI p1))]) hx hb dX12_differ_38 hl (k := 1) rfl (mI_ad rfl) (by decide) rfl (fun ls hl => ?_)
      refine lv_goto (tgt := 6) hx hb dX12_differ_41 (by decide) ?_
      exact ih_104 _ _ _ _ (by omega) ⟨(z_95 + 1), z_96, _, by omega, by omega, rfl, hP, hS, lv_sub hl [0, 2, 3, 4, 5] rfl, rfl⟩
    · skip
      refine lv_iload hx hb dX12_differ_35 (lv_at hl 0 rfl) ?_
      refine lv_istore_n (lv' := [(3, .int (mI r_109)), (5, .int (mI r_109)), (4, .int (mI z_95)), (0, .ref (a 0)), (1, .int (mI p0)), (2, .int (mI p1))]) hx hb dX12_differ_37 rfl hl (by decide) rfl (fun ls hl => ?_)
      refine lv_iinc (v := mI (z_95 + 1)) (lv' := [(4, .int (mI (z_95 + 1))), (3, .int (mI r_109)), (5, .int (mI r_109)), (0, .ref (a 0)), (1, .int (mI p0)), (2, .int (mI p1))]) hx hb dX12_differ_38 hl (k := 2) rfl (mI_ad rfl) (by decide) rfl (fun ls hl => ?_)
      refine lv_goto (tgt := 6) hx hb dX12_differ_41 (by decide) ?_
      exact ih_104 _ _ _ _ (by omega) ⟨(z_95 + 1), r_109, _, by omega, by omega, rfl, hP, hS, lv_sub hl [0, 1, 3, 4, 5] rfl, rfl⟩
set_option maxHeartbeats 4000000 in
set_option maxRecDepth 100000 in
theorem kr_X12_nearest {p0 p1 : Int} (hp0 : -2147483648 ≤ p0 ∧ p0 ≤ 2147483647) (hp1 : -2147483648 ≤ p1 ∧ p1 ≤ 2147483647) (h_x_bank : 0 ≤ x_bank ∧ x_bank ≤ 1) (b_B_turns : bd (0) 4 B_turns) (b_B_herds : bd (0) 8 B_herds) (b_B_told : bd (0) 31 B_told) (b_B_brands : bd (0) 4095 B_brands) (g_R : 1 ≤ B_turns x_bank.toNat ∧ ¬ B_turns x_bank.toNat = 3) : MetG l D k yX12_nearest cX12_nearest 5 (some .int) 4 [.ref (a 0), .int (mI p0), .int (mI p1)] (rW k a x_taped x_size x_faultKind x_faultPlace x_at x_end x_token x_number x_bank x_rb x_codes x_within x_piled x_unitsInRule x_askBeast x_askStroke x_askAge x_askSeason x_acts x_undone x_laid x_seens x_time x_fitting n_name B_tape B_text B_turns B_herds B_irons B_beasts B_units B_night B_draw B_told B_brands B_ironMarks B_herdTold B_born B_ruleFrom B_ruleTo B_code B_codeNumber B_eWhat B_eSign B_pile B_all B_burned B_was B_need B_laidRow B_long8 B_brings B_sBurning B_sStroke B_sIs B_sTold B_sUntold B_parts B_boxAll B_isBoxed G_hName G_iName G_bName ex) (qGi (fun r0 H => (-2147483648 ≤ r0 ∧ r0 ≤ 12) ∧ va_P D vwCl (rW k a x_taped x_size x_faultKind x_faultPlace x_at x_end x_token x_number x_bank x_rb x_codes x_within x_piled x_unitsInRule x_askBeast x_askStroke x_askAge x_askSeason x_acts x_undone x_laid x_seens x_time x_fitting n_name B_tape B_text B_turns B_herds B_irons B_beasts B_units B_night B_draw B_told B_brands B_ironMarks B_herdTold B_born B_ruleFrom B_ruleTo B_code B_codeNumber B_eWhat B_eSign B_pile B_all B_burned B_was B_need B_laidRow B_long8 B_brings B_sBurning B_sStroke B_sIs B_sTold B_sUntold B_parts B_boxAll B_isBoxed G_hName G_iName G_bName ex) H)) := by
  refine metG_of 2 ck_X12_nearest (Nat.le_of_ble_eq_true rfl) rMap (fun p e s m args below meth c A hx hb hml hr hlocks hown hts hK hD hA hP hS ls hl => ?_)
  have hown : s.vm.findClass "HideReaderModel" = some m.cls := hown
  have hl : lv_has ls 5 [(0, .ref (a 0)), (1, .int (mI p0)), (2, .int (mI p1))] := hl
  refine lv_iload_n hx hb dX12_nearest_0 rfl (lv_at hl 1 rfl) ?_
  refine g_i (rDt hD) hS hA (g_S (own := "HideReaderModel") (As := [.int (mI p0)]) (rest := []) hx hb hml hown hts hK hP (rDt hD) (kr_X12_isMark (l := l) (D := D) (k := k) (by omega)) ck_X12_isMark uw_8_180 uw_8_179 rfl hl.1 rfl (Nat.le_of_ble_eq_true rfl) dX12_nearest_1 ⟨Nat.le_of_ble_eq_true rfl, Nat.le_of_ble_eq_true rfl⟩ ⟨Nat.le_of_ble_eq_true rfl, Nat.le_of_ble_eq_true rfl⟩) (fun r_1 H locs hQ hS => ?_)
  obtain ⟨hq_r_1, hP⟩ := hQ
  rcases hq_r_1 with ⟨rfl, c_2_0⟩ | ⟨rfl, c_3_0⟩
  · skip
    refine sy_if_eq (tgt := 16) hx hb dX12_nearest_4 (by decide) (by decide) (fun c_4 => ?_) (fun c9 => absurd c9 (by decide))
    refine lv_iconst (v := mI (-1)) hx hb dX12_nearest_16 rfl ?_
    exact r_i hx hb hr hlocks dX12_nearest_17 hS ⟨by omega, hP⟩
  · skip
    refine sy_if_eq (tgt := 16) hx hb dX12_nearest_4 (by decide) (by decide) (fun c9 => absurd c9 (by decide)) (fun c_5 => ?_)
    refine lv_iload_n hx hb dX12_nearest_7 rfl (lv_at hl 2 rfl) ?_
    refine lv_iconst (v := mI 0) hx hb dX12_nearest_8 rfl ?_
    refine lv_iconst (v := mI 1) hx hb dX12_nearest_9 rfl ?_
    refine g_i (rDt hD) hS hA (g_S (own := "HideReaderModel") (As := [.int (mI p1), .int (mI 0), .int (mI 1)]) (rest := []) hx hb hml hown hts hK hP (rDt hD) (kr_X12_isIn (l := l) (D := D) (k := k) (by omega) (by decide) (by decide)) ck_X12_isIn uw_8_131 uw_8_130 rfl hl.1 rfl (Nat.le_of_ble_eq_true rfl) dX12_nearest_10 ⟨Nat.le_of_ble_eq_true rfl, Nat.le_of_ble_eq_true rfl⟩ ⟨Nat.le_of_ble_eq_true rfl, Nat.le_of_ble_eq_true rfl⟩) (fun r_6 H locs hQ hS => ?_)
    obtain ⟨hq_r_6, hP⟩ := hQ
    rcases hq_r_6 with ⟨rfl, c_7_0⟩ | ⟨rfl, c_8_0, c_8_1⟩
    · skip
      refine sy_if_ne (tgt := 18) hx hb dX12_nearest_13 (by decide) (by decide) (fun c9 => absurd c9 (by decide)) (fun c_9 => ?_)
      refine lv_iconst (v := mI (-1)) hx hb dX12_nearest_16 rfl ?_
      exact r_i hx hb hr hlocks dX12_nearest_17 hS ⟨by omega, hP⟩
    · skip
      refine sy_if_ne (tgt := 18) hx hb dX12_nearest_13 (by decide) (by decide) (fun c_10 => ?_) (fun c9 => absurd c9 (by decide))
      refine lv_iconst (v := mI (-1)) hx hb dX12_nearest_18 rfl ?_
      refine lv_istore_n (lv' := [(3, .int (mI (-1))), (0, .ref (a 0)), (1, .int (mI p0)), (2, .int (mI p1))]) hx hb dX12_nearest_19 rfl hl (by decide) rfl (fun ls hl => ?_)
      refine lv_iconst (v := mI 0) hx hb dX12_nearest_20 rfl ?_
      refine lv_istore (lv' := [(4, .int (mI 0)), (3, .int (mI (-1))), (0, .ref (a 0)), (1, .int (mI p0)), (2, .int (mI p1))]) hx hb dX12_nearest_21 hl (by decide) rfl (fun ls hl => ?_)
      refine sy_loop (I := fun n H locs g => ∃ (z_164 : Int) (z_165 : Int) (ls : Array Slot), (0 ≤ z_164 ∧ z_164 ≤ 8) ∧ (-1 ≤ z_165 ∧ z_165 ≤ 7) ∧ (0 ≤ z_164 - z_165) ∧ (8 - z_164).toNat = n ∧ va_P D vwCl (rW k a x_taped x_size x_faultKind x_faultPlace x_at x_end x_token x_number x_bank x_rb x_codes x_within x_piled x_unitsInRule x_askBeast x_askStroke x_askAge x_askSeason x_acts x_undone x_laid x_seens x_time x_fitting n_name B_tape B_text B_turns B_herds B_irons B_beasts B_units B_night B_draw B_told B_brands B_ironMarks B_herdTold B_born B_ruleFrom B_ruleTo B_code B_codeNumber B_eWhat B_eSign B_pile B_all B_burned B_was B_need B_laidRow B_long8 B_brings B_sBurning B_sStroke B_sIs B_sTold B_sUntold B_parts B_boxAll B_isBoxed G_hName G_iName G_bName ex) H ∧ va_S A s.heap H locs ∧ lv_has ls 5 [(4, .int (mI z_164)), (3, .int (mI z_165)), (0, .ref (a 0)), (1, .int (mI p0)), (2, .int (mI p1))] ∧ g = F0 m 23 ls []) ?_ _ ⟨0, (-1), _, by omega, by omega, by omega, rfl, hP, hS, lv_sub hl [0, 1, 2, 3, 4] rfl, rfl⟩
      intro n_185 H locs g hI ih_186
      obtain ⟨z_164, z_165, ls, h23_0, h23_1, h23_2, mn_185, hP, hS, hl, rfl⟩ := hI
      refine lv_iload hx hb dX12_nearest_23 (lv_at hl 0 rfl) ?_
      refine lv_aload_n hx hb dX12_nearest_25 rfl (lv_at hl 2 rfl) ?_
      refine g_i (rDt hD) hS hA (g_V (own := "HideReaderModel") (As := []) (rest := [.int (mI z_164)]) hx hb hml hown hts hK hP (rDt hD) (kr_X12_stocks (l := l) (D := D) (k := k) h_x_bank b_B_herds) ck_X12_stocks iv_X12_stocks uw_8_126 (rv_o hK hP) rfl hl.1 rfl (Nat.le_of_ble_eq_true rfl) dX12_nearest_26 ⟨Nat.le_of_ble_eq_true rfl, Nat.le_of_ble_eq_true rfl⟩ ⟨Nat.le_of_ble_eq_true rfl, Nat.le_of_ble_eq_true rfl⟩) (fun r_187 H locs hQ hS => ?_)
      obtain ⟨hr_187_0, hr_187_1, hP⟩ := hQ
      refine sy_icmp_ge (tgt := 69) hx hb dX12_nearest_29 (by decide) (by omega) (by omega) (fun c_195 => ?_) (fun c_195 => ?_)
      · skip
        refine lv_iload_n hx hb dX12_nearest_69 rfl (lv_at hl 1 rfl) ?_
        refine sy_if_ge (tgt := 77) hx hb dX12_nearest_70 (by decide) (by omega) (fun c_196 => ?_) (fun c_196 => ?_)
        · skip
          refine lv_iload_n hx hb dX12_nearest_77 rfl (lv_at hl 4 rfl) ?_
          refine sy_if_ne (tgt := 85) hx hb dX12_nearest_78 (by decide) (by omega) (fun c_197 => ?_) (fun c_197 => ?_)
          · skip
            refine lv_aload_n hx hb dX12_nearest_85 rfl (lv_at hl 2 rfl) ?_
            refine lv_aload_n hx hb dX12_nearest_86 rfl (lv_at hl 2 rfl) ?_
            refine lv_iload_n hx hb dX12_nearest_87 rfl (lv_at hl 1 rfl) ?_
            refine g_i (rDt hD) hS hA (g_V (own := "HideReaderModel") (As := [.int (mI z_165)]) (rest := [.ref (a 0)]) hx hb hml hown hts hK hP (rDt hD) (kr_X12_brandOf (l := l) (D := D) (k := k) (by omega) h_x_bank b_B_brands) ck_X12_brandOf iv_X12_brandOf uw_6_220 (rv_o hK hP) rfl hl.1 rfl (Nat.le_of_ble_eq_true rfl) dX12_nearest_88 ⟨Nat.le_of_ble_eq_true rfl, Nat.le_of_ble_eq_true rfl⟩ ⟨Nat.le_of_ble_eq_true rfl, Nat.le_of_ble_eq_true rfl⟩) (fun r_198 H locs hQ hS => ?_)
            obtain ⟨hr_198_0, hr_198_1, hP⟩ := hQ
            refine lv_iload_n hx hb dX12_nearest_91 rfl (lv_at hl 3 rfl) ?_
            refine g_i (rDt hD) hS hA (g_V (own := "HideReaderModel") (As := [.int (mI r_198), .int (mI p0)]) (rest := []) hx hb hml hown hts hK hP (rDt hD) (kr_X12_differ (l := l) (D := D) (k := k) (by omega) (by omega) h_x_bank b_B_turns b_B_told g_R) ck_X12_differ iv_X12_differ uw_9_102 (rv_o hK hP) rfl hl.1 rfl (Nat.le_of_ble_eq_true rfl) dX12_nearest_92 ⟨Nat.le_of_ble_eq_true rfl, Nat.le_of_ble_eq_true rfl⟩ ⟨Nat.le_of_ble_eq_true rfl, Nat.le_of_ble_eq_true rfl⟩) (fun r_199 H locs hQ hS => ?_)
            obtain ⟨hr_199_0, hP⟩ := hQ
            exact r_i hx hb hr hlocks dX12_nearest_95 hS ⟨by omega, hP⟩
          · skip
            refine lv_iload_n hx hb dX12_nearest_81 rfl (lv_at hl 1 rfl) ?_
            refine lv_goto (tgt := 95) hx hb dX12_nearest_82 (by decide) ?_
            exact r_i hx hb hr hlocks dX12_nearest_95 hS ⟨by omega, hP⟩
        · skip
          refine lv_iconst (v := mI (-1)) hx hb dX12_nearest_73 rfl ?_
          refine lv_goto (tgt := 95) hx hb dX12_nearest_74 (by decide) ?_
          exact r_i hx hb hr hlocks dX12_nearest_95 hS ⟨by omega, hP⟩
      · skip
        refine lv_iload_n hx hb dX12_nearest_32 rfl (lv_at hl 1 rfl) ?_
        refine sy_if_lt (tgt := 60) hx hb dX12_nearest_33 (by decide) (by omega) (fun c_200 => ?_) (fun c_200 => ?_)
        · skip
          refine lv_iload hx hb dX12_nearest_60 (lv_at hl 0 rfl) ?_
          refine lv_istore_n (lv' := [(3, .int (mI z_164)), (4, .int (mI z_164)), (0, .ref (a 0)), (1, .int (mI p0)), (2, .int (mI p1))]) hx hb dX12_nearest_62 rfl hl (by decide) rfl (fun ls hl => ?_)
          refine lv_iinc (v := mI (z_164 + 1)) (lv' := [(4, .int (mI (z_164 + 1))), (3, .int (mI z_164)), (0, .ref (a 0)), (1, .int (mI p0)), (2, .int (mI p1))]) hx hb dX12_nearest_63 hl (k := 1) rfl (mI_ad rfl) (by decide) rfl (fun ls hl => ?_)
          refine lv_goto (tgt := 23) hx hb dX12_nearest_66 (by decide) ?_
          exact ih_186 _ _ _ _ (by omega) ⟨(z_164 + 1), z_164, _, by omega, by omega, by omega, rfl, hP, hS, lv_sub hl [0, 1, 2, 3, 4] rfl, rfl⟩
        · skip
          refine lv_aload_n hx hb dX12_nearest_36 rfl (lv_at hl 2 rfl) ?_
          refine lv_aload_n hx hb dX12_nearest_37 rfl (lv_at hl 2 rfl) ?_
          refine lv_iload hx hb dX12_nearest_38 (lv_at hl 0 rfl) ?_
          refine g_i (rDt hD) hS hA (g_V (own := "HideReaderModel") (As := [.int (mI z_164)]) (rest := [.ref (a 0)]) hx hb hml hown hts hK hP (rDt hD) (kr_X12_brandOf (l := l) (D := D) (k := k) (by omega) h_x_bank b_B_brands) ck_X12_brandOf iv_X12_brandOf uw_6_220 (rv_o hK hP) rfl hl.1 rfl (Nat.le_of_ble_eq_true rfl) dX12_nearest_40 ⟨Nat.le_of_ble_eq_true rfl, Nat.le_of_ble_eq_true rfl⟩ ⟨Nat.le_of_ble_eq_true rfl, Nat.le_of_ble_eq_true rfl⟩) (fun r_201 H locs hQ hS => ?_)
          obtain ⟨hr_201_0, hr_201_1, hP⟩ := hQ
          refine lv_iload_n hx hb dX12_nearest_43 rfl (lv_at hl 3 rfl) ?_
          refine g_i (rDt hD) hS hA (g_V (own := "HideReaderModel") (As := [.int (mI r_201), .int (mI p0)]) (rest := []) hx hb hml hown hts hK hP (rDt hD) (kr_X12_differ (l := l) (D := D) (k := k) (by omega) (by omega) h_x_bank b_B_turns b_B_told g_R) ck_X12_differ iv_X12_differ uw_9_102 (rv_o hK hP) rfl hl.1 rfl (Nat.le_of_ble_eq_true rfl) dX12_nearest_44 ⟨Nat.le_of_ble_eq_true rfl, Nat.le_of_ble_eq_true rfl⟩ ⟨Nat.le_of_ble_eq_true rfl, Nat.le_of_ble_eq_true rfl⟩) (fun r_202 H locs hQ hS => ?_)
          obtain ⟨hr_202_0, hP⟩ := hQ
          refine lv_aload_n hx hb dX12_nearest_47 rfl (lv_at hl 2 rfl) ?_
          refine lv_aload_n hx hb dX12_nearest_48 rfl (lv_at hl 2 rfl) ?_
          refine lv_iload_n hx hb dX12_nearest_49 rfl (lv_at hl 1 rfl) ?_
          refine g_i (rDt hD) hS hA (g_V (own := "HideReaderModel") (As := [.int (mI z_165)]) (rest := [.ref (a 0), .int (mI r_202)]) hx hb hml hown hts hK hP (rDt hD) (kr_X12_brandOf (l := l) (D := D) (k := k) (by omega) h_x_bank b_B_brands) ck_X12_brandOf iv_X12_brandOf uw_6_220 (rv_o hK hP) rfl hl.1 rfl (Nat.le_of_ble_eq_true rfl) dX12_nearest_50 ⟨Nat.le_of_ble_eq_true rfl, Nat.le_of_ble_eq_true rfl⟩ ⟨Nat.le_of_ble_eq_true rfl, Nat.le_of_ble_eq_true rfl⟩) (fun r_203 H locs hQ hS => ?_)
          obtain ⟨hr_203_0, hr_203_1, hP⟩ := hQ
          refine lv_iload_n hx hb dX12_nearest_53 rfl (lv_at hl 3 rfl) ?_
          refine g_i (rDt hD) hS hA (g_V (own := "HideReaderModel") (As := [.int (mI r_203), .int (mI p0)]) (rest := [.int (mI r_202)]) hx hb hml hown hts hK hP (rDt hD) (kr_X12_differ (l := l) (D := D) (k := k) (by omega) (by omega) h_x_bank b_B_turns b_B_told g_R) ck_X12_differ iv_X12_differ uw_9_102 (rv_o hK hP) rfl hl.1 rfl (Nat.le_of_ble_eq_true rfl) dX12_nearest_54 ⟨Nat.le_of_ble_eq_true rfl, Nat.le_of_ble_eq_true rfl⟩ ⟨Nat.le_of_ble_eq_true rfl, Nat.le_of_ble_eq_true rfl⟩) (fun r_204 H locs hQ hS => ?_)
          obtain ⟨hr_204_0, hP⟩ := hQ
          refine sy_icmp_ge (tgt := 63) hx hb dX12_nearest_57 (by decide) (by omega) (by omega) (fun c_205 => ?_) (fun c_205 => ?_)
          · skip
            refine lv_iinc (v := mI (z_164 + 1)) (lv' := [(4, .int (mI (z_164 + 1))), (3, .int (mI z_165)), (0, .ref (a 0)), (1, .int (mI p0)), (2, .int (mI p1))]) hx hb dX12_nearest_63 hl (k := 0) rfl (mI_ad rfl) (by decide) rfl (fun ls hl => ?_)
            refine lv_goto (tgt := 23) hx hb dX12_nearest_66 (by decide) ?_
            exact ih_186 _ _ _ _ (by omega) ⟨(z_164 + 1), z_165, _, by omega, by omega, by omega, rfl, hP, hS, lv_sub hl [0, 1, 2, 3, 4] rfl, rfl⟩
          · skip
            refine lv_iload hx hb dX12_nearest_60 (lv_at hl 0 rfl) ?_
            refine lv_istore_n (lv' := [(3, .int (mI z_164)), (4, .int (mI z_164)), (0, .ref (a 0)), (1, .int (mI p0)), (2, .int (mI p1))]) hx hb dX12_nearest_62 rfl hl (by decide) rfl (fun ls hl => ?_)
            refine lv_iinc (v := mI (z_164 + 1)) (lv' := [(4, .int (mI (z_164 + 1))), (3, .int (mI z_164)), (0, .ref (a 0)), (1, .int (mI p0)), (2, .int (mI p1))]) hx hb dX12_nearest_63 hl (k := 1) rfl (mI_ad rfl) (by decide) rfl (fun ls hl => ?_)
            refine lv_goto (tgt := 23) hx hb dX12_nearest_66 (by decide) ?_
            exact ih_186 _ _ _ _ (by omega) ⟨(z_164 + 1), z_164, _, by omega, by omega, by omega, rfl, hP, hS, lv_sub hl [0, 1, 2, 3, 4] rfl, rfl⟩
set_option maxHeartbeats 4000000 in
set_option maxRecDepth 100000 in
theorem kr_X12_shared {p0 p1 : Int} (hp0 : -2147483648 ≤ p0 ∧ p0 ≤ 2147483647) (hp1 : -2147483648 ≤ p1 ∧ p1 ≤ 2147483647) (h_x_bank : 0 ≤ x_bank ∧ x_bank ≤ 1) (b_B_turns : bd (0) 4 B_turns) (b_B_herds : bd (0) 8 B_herds) (b_B_told : bd (0) 31 B_told) (b_B_brands : bd (0) 4095 B_brands) (g_R : 1 ≤ B_turns x_bank.toNat ∧ ¬ B_turns x_bank.toNat = 3) : MetG l D k yX12_shared cX12_shared 6 (some .int) 3 [.ref (a 0), .int (mI p0), .int (mI p1)] (rW k a x_taped x_size x_faultKind x_faultPlace x_at x_end x_token x_number x_bank x_rb x_codes x_within x_piled x_unitsInRule x_askBeast x_askStroke x_askAge x_askSeason x_acts x_undone x_laid x_seens x_time x_fitting n_name B_tape B_text B_turns B_herds B_irons B_beasts B_units B_night B_draw B_told B_brands B_ironMarks B_herdTold B_born B_ruleFrom B_ruleTo B_code B_codeNumber B_eWhat B_eSign B_pile B_all B_burned B_was B_need B_laidRow B_long8 B_brings B_sBurning B_sStroke B_sIs B_sTold B_sUntold B_parts B_boxAll B_isBoxed G_hName G_iName G_bName ex) (qGi (fun r0 H => (-1 ≤ r0 ∧ r0 ≤ 2147483647) ∧ va_P D vwCl (rW k a x_taped x_size x_faultKind x_faultPlace x_at x_end x_token x_number x_bank x_rb x_codes x_within x_piled x_unitsInRule x_askBeast x_askStroke x_askAge x_askSeason x_acts x_undone x_laid x_seens x_time x_fitting n_name B_tape B_text B_turns B_herds B_irons B_beasts B_units B_night B_draw B_told B_brands B_ironMarks B_herdTold B_born B_ruleFrom B_ruleTo B_code B_codeNumber B_eWhat B_eSign B_pile B_all B_burned B_was B_need B_laidRow B_long8 B_brings B_sBurning B_sStroke B_sIs B_sTold B_sUntold B_parts B_boxAll B_isBoxed G_hName G_iName G_bName ex) H)) := by
  refine metG_of 2 ck_X12_shared (Nat.le_of_ble_eq_true rfl) rMap (fun p e s m args below meth c A hx hb hml hr hlocks hown hts hK hD hA hP hS ls hl => ?_)
  have hown : s.vm.findClass "HideReaderModel" = some m.cls := hown
  have hl : lv_has ls 6 [(0, .ref (a 0)), (1, .int (mI p0)), (2, .int (mI p1))] := hl
  refine lv_aload_n hx hb dX12_shared_0 rfl (lv_at hl 0 rfl) ?_
  refine lv_iload_n hx hb dX12_shared_1 rfl (lv_at hl 1 rfl) ?_
  refine g_i (rDt hD) hS hA (g_V (own := "HideReaderModel") (As := [.int (mI p0)]) (rest := []) hx hb hml hown hts hK hP (rDt hD) (kr_X12_isHerd (l := l) (D := D) (k := k) (by omega) h_x_bank b_B_herds) ck_X12_isHerd iv_X12_isHerd uw_8_122 (rv_o hK hP) rfl hl.1 rfl (Nat.le_of_ble_eq_true rfl) dX12_shared_2 ⟨Nat.le_of_ble_eq_true rfl, Nat.le_of_ble_eq_true rfl⟩ ⟨Nat.le_of_ble_eq_true rfl, Nat.le_of_ble_eq_true rfl⟩) (fun r_1 H locs hQ hS => ?_)
  obtain ⟨hq_r_1, hP⟩ := hQ
  rcases hq_r_1 with rfl | ⟨rfl, c_3_0⟩
  · skip
    refine sy_if_eq (tgt := 16) hx hb dX12_shared_5 (by decide) (by decide) (fun c_4 => ?_) (fun c9 => absurd c9 (by decide))
    refine lv_iconst (v := mI (-1)) hx hb dX12_shared_16 rfl ?_
    exact r_i hx hb hr hlocks dX12_shared_17 hS ⟨by omega, hP⟩
  · skip
    refine sy_if_eq (tgt := 16) hx hb dX12_shared_5 (by decide) (by decide) (fun c9 => absurd c9 (by decide)) (fun c_5 => ?_)
    refine lv_aload_n hx hb dX12_shared_8 rfl (lv_at hl 0 rfl) ?_
    refine lv_iload_n hx hb dX12_shared_9 rfl (lv_at hl 2 rfl) ?_
    refine g_i (rDt hD) hS hA (g_V (own := "HideReaderModel") (As := [.int (mI p1)]) (rest := []) hx hb hml hown hts hK hP (rDt hD) (kr_X12_isHerd (l := l) (D := D) (k := k) (by omega) h_x_bank b_B_herds) ck_X12_isHerd iv_X12_isHerd uw_8_122 (rv_o hK hP) rfl hl.1 rfl (Nat.le_of_ble_eq_true rfl) dX12_shared_10 ⟨Nat.le_of_ble_eq_true rfl, Nat.le_of_ble_eq_true rfl⟩ ⟨Nat.le_of_ble_eq_true rfl, Nat.le_of_ble_eq_true rfl⟩) (fun r_6 H locs hQ hS => ?_)
    obtain ⟨hq_r_6, hP⟩ := hQ
    rcases hq_r_6 with rfl | ⟨rfl, c_8_0⟩
    · skip
      refine sy_if_ne (tgt := 18) hx hb dX12_shared_13 (by decide) (by decide) (fun c9 => absurd c9 (by decide)) (fun c_9 => ?_)
      refine lv_iconst (v := mI (-1)) hx hb dX12_shared_16 rfl ?_
      exact r_i hx hb hr hlocks dX12_shared_17 hS ⟨by omega, hP⟩
    · skip
      refine sy_if_ne (tgt := 18) hx hb dX12_shared_13 (by decide) (by decide) (fun c_10 => ?_) (fun c9 => absurd c9 (by decide))
      refine lv_iconst (v := mI 0) hx hb dX12_shared_18 rfl ?_
      refine lv_istore_n (lv' := [(3, .int (mI 0)), (0, .ref (a 0)), (1, .int (mI p0)), (2, .int (mI p1))]) hx hb dX12_shared_19 rfl hl (by decide) rfl (fun ls hl => ?_)
      refine lv_iconst (v := mI 0) hx hb dX12_shared_20 rfl ?_
      refine lv_istore (lv' := [(4, .int (mI 0)), (3, .int (mI 0)), (0, .ref (a 0)), (1, .int (mI p0)), (2, .int (mI p1))]) hx hb dX12_shared_21 hl (by decide) rfl (fun ls hl => ?_)
      refine sy_loop (I := fun n H locs g => ∃ (z_399 : Int) (z_400 : Int) (ls : Array Slot), (0 ≤ z_399 ∧ z_399 ≤ 8) ∧ (0 ≤ z_400 ∧ z_400 ≤ 2147483647) ∧ (8 - z_399).toNat = n ∧ va_P D vwCl (rW k a x_taped x_size x_faultKind x_faultPlace x_at x_end x_token x_number x_bank x_rb x_codes x_within x_piled x_unitsInRule x_askBeast x_askStroke x_askAge x_askSeason x_acts x_undone x_laid x_seens x_time x_fitting n_name B_tape B_text B_turns B_herds B_irons B_beasts B_units B_night B_draw B_told B_brands B_ironMarks B_herdTold B_born B_ruleFrom B_ruleTo B_code B_codeNumber B_eWhat B_eSign B_pile B_all B_burned B_was B_need B_laidRow B_long8 B_brings B_sBurning B_sStroke B_sIs B_sTold B_sUntold B_parts B_boxAll B_isBoxed G_hName G_iName G_bName ex) H ∧ va_S A s.heap H locs ∧ lv_has ls 6 [(4, .int (mI z_399)), (3, .int (mI z_400)), (0, .ref (a 0)), (1, .int (mI p0)), (2, .int (mI p1))] ∧ g = F0 m 23 ls []) ?_ _ ⟨0, 0, _, by omega, by omega, rfl, hP, hS, lv_sub hl [0, 1, 2, 3, 4] rfl, rfl⟩
      intro n_409 H locs g hI ih_410
      obtain ⟨z_399, z_400, ls, h23_0, h23_1, mn_409, hP, hS, hl, rfl⟩ := hI
      refine lv_iload hx hb dX12_shared_23 (lv_at hl 0 rfl) ?_
      refine lv_aload_n hx hb dX12_shared_25 rfl (lv_at hl 2 rfl) ?_
      refine g_i (rDt hD) hS hA (g_V (own := "HideReaderModel") (As := []) (rest := [.int (mI z_399)]) hx hb hml hown hts hK hP (rDt hD) (kr_X12_placements (l := l) (D := D) (k := k) h_x_bank b_B_turns b_B_told g_R) ck_X12_placements iv_X12_placements uw_6_239 (rv_o hK hP) rfl hl.1 rfl (Nat.le_of_ble_eq_true rfl) dX12_shared_26 ⟨Nat.le_of_ble_eq_true rfl, Nat.le_of_ble_eq_true rfl⟩ ⟨Nat.le_of_ble_eq_true rfl, Nat.le_of_ble_eq_true rfl⟩) (fun r_411 H locs hQ hS => ?_)
      obtain ⟨hr_411_0, hr_411_1, hP⟩ := hQ
      refine sy_icmp_ge (tgt := 69) hx hb dX12_shared_29 (by decide) (by omega) (by omega) (fun c_412 => ?_) (fun c_412 => ?_)
      · skip
        refine lv_iload_n hx hb dX12_shared_69 rfl (lv_at hl 1 rfl) ?_
        exact r_i hx hb hr hlocks dX12_shared_70 hS ⟨by omega, hP⟩
      · skip
        refine lv_aload_n hx hb dX12_shared_32 rfl (lv_at hl 2 rfl) ?_
        refine lv_aload_n hx hb dX12_shared_33 rfl (lv_at hl 2 rfl) ?_
        refine lv_iload_n hx hb dX12_shared_34 rfl (lv_at hl 3 rfl) ?_
        refine g_i (rDt hD) hS hA (g_V (own := "HideReaderModel") (As := [.int (mI p0)]) (rest := [.ref (a 0)]) hx hb hml hown hts hK hP (rDt hD) (kr_X12_brandOf (l := l) (D := D) (k := k) (by omega) h_x_bank b_B_brands) ck_X12_brandOf iv_X12_brandOf uw_6_220 (rv_o hK hP) rfl hl.1 rfl (Nat.le_of_ble_eq_true rfl) dX12_shared_35 ⟨Nat.le_of_ble_eq_true rfl, Nat.le_of_ble_eq_true rfl⟩ ⟨Nat.le_of_ble_eq_true rfl, Nat.le_of_ble_eq_true rfl⟩) (fun r_413 H locs hQ hS => ?_)
        obtain ⟨hr_413_0, hr_413_1, hP⟩ := hQ
        refine lv_iload hx hb dX12_shared_38 (lv_at hl 0 rfl) ?_
        refine g_i (rDt hD) hS hA (g_V (own := "HideReaderModel") (As := [.int (mI r_413), .int (mI z_399)]) (rest := []) hx hb hml hown hts hK hP (rDt hD) (kr_X12_placedBy (l := l) (D := D) (k := k) (by omega) (by omega) h_x_bank b_B_turns g_R) ck_X12_placedBy iv_X12_placedBy uw_7_7 (rv_o hK hP) rfl hl.1 rfl (Nat.le_of_ble_eq_true rfl) dX12_shared_40 ⟨Nat.le_of_ble_eq_true rfl, Nat.le_of_ble_eq_true rfl⟩ ⟨Nat.le_of_ble_eq_true rfl, Nat.le_of_ble_eq_true rfl⟩) (fun r_414 H locs hQ hS => ?_)
        obtain ⟨hr_414_0, hr_414_1, hP⟩ := hQ
        refine lv_aload_n hx hb dX12_shared_43 rfl (lv_at hl 2 rfl) ?_
        refine lv_iload_n hx hb dX12_shared_44 rfl (lv_at hl 4 rfl) ?_
        refine g_i (rDt hD) hS hA (g_V (own := "HideReaderModel") (As := [.int (mI p1)]) (rest := [.int (mI r_414)]) hx hb hml hown hts hK hP (rDt hD) (kr_X12_brandOf (l := l) (D := D) (k := k) (by omega) h_x_bank b_B_brands) ck_X12_brandOf iv_X12_brandOf uw_6_220 (rv_o hK hP) rfl hl.1 rfl (Nat.le_of_ble_eq_true rfl) dX12_shared_45 ⟨Nat.le_of_ble_eq_true rfl, Nat.le_of_ble_eq_true rfl⟩ ⟨Nat.le_of_ble_eq_true rfl, Nat.le_of_ble_eq_true rfl⟩) (fun r_415 H locs hQ hS => ?_)
        obtain ⟨hr_415_0, hr_415_1, hP⟩ := hQ
        refine sy_iandR hx hb dX12_shared_48 (by omega) (fun z_416 hz_416 => ?_)
        refine g_i (rDt hD) hS hA (g_S (own := "HideReaderModel") (As := [.int (mI z_416)]) (rest := []) hx hb hml hown hts hK hP (rDt hD) (kr_X12_bitsOf (l := l) (D := D) (k := k) (by omega)) ck_X12_bitsOf uw_8_166 uw_8_165 rfl hl.1 rfl (Nat.le_of_ble_eq_true rfl) dX12_shared_49 ⟨Nat.le_of_ble_eq_true rfl, Nat.le_of_ble_eq_true rfl⟩ ⟨Nat.le_of_ble_eq_true rfl, Nat.le_of_ble_eq_true rfl⟩) (fun r_417 H locs hQ hS => ?_)
        obtain ⟨hr_417_0, hP⟩ := hQ
        refine lv_istore (lv' := [(5, .int (mI r_417)), (4, .int (mI z_399)), (3, .int (mI z_400)), (0, .ref (a 0)), (1, .int (mI p0)), (2, .int (mI p1))]) hx hb dX12_shared_52 hl (by decide) rfl (fun ls hl => ?_)
        refine lv_iload hx hb dX12_shared_54 (lv_at hl 0 rfl) ?_
        refine lv_iload_n hx hb dX12_shared_56 rfl (lv_at hl 2 rfl) ?_
        refine sy_icmp_le (tgt := 63) hx hb dX12_shared_57 (by decide) (by omega) (by omega) (fun c_418 => ?_) (fun c_418 => ?_)
        · skip
          refine lv_iinc (v := mI (z_399 + 1)) (lv' := [(4, .int (mI (z_399 + 1))), (5, .int (mI r_417)), (3, .int (mI z_400)), (0, .ref (a 0)), (1, .int (mI p0)), (2, .int (mI p1))]) hx hb dX12_shared_63 hl (k := 1) rfl (mI_ad rfl) (by decide) rfl (fun ls hl => ?_)
          refine lv_goto (tgt := 23) hx hb dX12_shared_66 (by decide) ?_
          exact ih_410 _ _ _ _ (by omega) ⟨(z_399 + 1), z_400, _, by omega, by omega, rfl, hP, hS, lv_sub hl [0, 2, 3, 4, 5] rfl, rfl⟩
        · skip
          refine lv_iload hx hb dX12_shared_60 (lv_at hl 0 rfl) ?_
          refine lv_istore_n (lv' := [(3, .int (mI r_417)), (5, .int (mI r_417)), (4, .int (mI z_399)), (0, .ref (a 0)), (1, .int (mI p0)), (2, .int (mI p1))]) hx hb dX12_shared_62 rfl hl (by decide) rfl (fun ls hl => ?_)
          refine lv_iinc (v := mI (z_399 + 1)) (lv' := [(4, .int (mI (z_399 + 1))), (3, .int (mI r_417)), (5, .int (mI r_417)), (0, .ref (a 0)), (1, .int (mI p0)), (2, .int (mI p1))]) hx hb dX12_shared_63 hl (k := 2) rfl (mI_ad rfl) (by decide) rfl (fun ls hl => ?_)
          refine lv_goto (tgt := 23) hx hb dX12_shared_66 (by decide) ?_
          exact ih_410 _ _ _ _ (by omega) ⟨(z_399 + 1), r_417, _, by omega, by omega, rfl, hP, hS, lv_sub hl [0, 1, 3, 4, 5] rfl, rfl⟩
set_option maxHeartbeats 4000000 in
set_option maxRecDepth 100000 in
theorem kr_X12_isFresh {p0 : Int} (hp0 : 0 ≤ p0 ∧ p0 ≤ 4095) (h_x_bank : 0 ≤ x_bank ∧ x_bank ≤ 1) (b_B_turns : bd (0) 4 B_turns) (b_B_herds : bd (0) 8 B_herds) (b_B_told : bd (0) 31 B_told) (b_B_brands : bd (0) 4095 B_brands) (g_R : 1 ≤ B_turns x_bank.toNat ∧ ¬ B_turns x_bank.toNat = 3) : MetG l D k yX12_isFresh cX12_isFresh 3 (some .boolean) 4 [.ref (a 0), .int (mI p0)] (rW k a x_taped x_size x_faultKind x_faultPlace x_at x_end x_token x_number x_bank x_rb x_codes x_within x_piled x_unitsInRule x_askBeast x_askStroke x_askAge x_askSeason x_acts x_undone x_laid x_seens x_time x_fitting n_name B_tape B_text B_turns B_herds B_irons B_beasts B_units B_night B_draw B_told B_brands B_ironMarks B_herdTold B_born B_ruleFrom B_ruleTo B_code B_codeNumber B_eWhat B_eSign B_pile B_all B_burned B_was B_need B_laidRow B_long8 B_brings B_sBurning B_sStroke B_sIs B_sTold B_sUntold B_parts B_boxAll B_isBoxed G_hName G_iName G_bName ex) (qGi (fun r0 H => (0 ≤ r0 ∧ r0 ≤ 1) ∧ va_P D vwCl (rW k a x_taped x_size x_faultKind x_faultPlace x_at x_end x_token x_number x_bank x_rb x_codes x_within x_piled x_unitsInRule x_askBeast x_askStroke x_askAge x_askSeason x_acts x_undone x_laid x_seens x_time x_fitting n_name B_tape B_text B_turns B_herds B_irons B_beasts B_units B_night B_draw B_told B_brands B_ironMarks B_herdTold B_born B_ruleFrom B_ruleTo B_code B_codeNumber B_eWhat B_eSign B_pile B_all B_burned B_was B_need B_laidRow B_long8 B_brings B_sBurning B_sStroke B_sIs B_sTold B_sUntold B_parts B_boxAll B_isBoxed G_hName G_iName G_bName ex) H)) := by
  refine metG_of 1 ck_X12_isFresh (Nat.le_of_ble_eq_true rfl) rMap (fun p e s m args below meth c A hx hb hml hr hlocks hown hts hK hD hA hP hS ls hl => ?_)
  have hown : s.vm.findClass "HideReaderModel" = some m.cls := hown
  have hl : lv_has ls 3 [(0, .ref (a 0)), (1, .int (mI p0))] := hl
  refine lv_iconst (v := mI 0) hx hb dX12_isFresh_0 rfl ?_
  refine lv_istore_n (lv' := [(2, .int (mI 0)), (0, .ref (a 0)), (1, .int (mI p0))]) hx hb dX12_isFresh_1 rfl hl (by decide) rfl (fun ls hl => ?_)
  refine sy_loop (I := fun n H locs g => ∃ (z_63 : Int) (ls : Array Slot), (0 ≤ z_63 ∧ z_63 ≤ 8) ∧ (8 - z_63).toNat = n ∧ va_P D vwCl (rW k a x_taped x_size x_faultKind x_faultPlace x_at x_end x_token x_number x_bank x_rb x_codes x_within x_piled x_unitsInRule x_askBeast x_askStroke x_askAge x_askSeason x_acts x_undone x_laid x_seens x_time x_fitting n_name B_tape B_text B_turns B_herds B_irons B_beasts B_units B_night B_draw B_told B_brands B_ironMarks B_herdTold B_born B_ruleFrom B_ruleTo B_code B_codeNumber B_eWhat B_eSign B_pile B_all B_burned B_was B_need B_laidRow B_long8 B_brings B_sBurning B_sStroke B_sIs B_sTold B_sUntold B_parts B_boxAll B_isBoxed G_hName G_iName G_bName ex) H ∧ va_S A s.heap H locs ∧ lv_has ls 3 [(2, .int (mI z_63)), (0, .ref (a 0)), (1, .int (mI p0))] ∧ g = F0 m 2 ls []) ?_ _ ⟨0, _, by omega, rfl, hP, hS, lv_sub hl [0, 1, 2] rfl, rfl⟩
  intro n_72 H locs g hI ih_73
  obtain ⟨z_63, ls, h2_0, mn_72, hP, hS, hl, rfl⟩ := hI
  refine lv_iload_n hx hb dX12_isFresh_2 rfl (lv_at hl 0 rfl) ?_
  refine lv_aload_n hx hb dX12_isFresh_3 rfl (lv_at hl 1 rfl) ?_
  refine g_i (rDt hD) hS hA (g_V (own := "HideReaderModel") (As := []) (rest := [.int (mI z_63)]) hx hb hml hown hts hK hP (rDt hD) (kr_X12_stocks (l := l) (D := D) (k := k) h_x_bank b_B_herds) ck_X12_stocks iv_X12_stocks uw_8_126 (rv_o hK hP) rfl hl.1 rfl (Nat.le_of_ble_eq_true rfl) dX12_isFresh_4 ⟨Nat.le_of_ble_eq_true rfl, Nat.le_of_ble_eq_true rfl⟩ ⟨Nat.le_of_ble_eq_true rfl, Nat.le_of_ble_eq_true rfl⟩) (fun r_74 H locs hQ hS => ?_)
  obtain ⟨hr_74_0, hr_74_1, hP⟩ := hQ
  refine sy_icmp_ge (tgt := 44) hx hb dX12_isFresh_7 (by decide) (by omega) (by omega) (fun c_75 => ?_) (fun c_75 => ?_)
  · skip
    refine lv_iconst (v := mI 1) hx hb dX12_isFresh_44 rfl ?_
    exact r_z hx hb hr hlocks dX12_isFresh_45 hS (by decide) ⟨by omega, hP⟩
  · skip
    refine lv_aload_n hx hb dX12_isFresh_10 rfl (lv_at hl 1 rfl) ?_
    refine lv_iload_n hx hb dX12_isFresh_11 rfl (lv_at hl 2 rfl) ?_
    refine lv_aload_n hx hb dX12_isFresh_12 rfl (lv_at hl 1 rfl) ?_
    refine lv_iload_n hx hb dX12_isFresh_13 rfl (lv_at hl 0 rfl) ?_
    refine g_i (rDt hD) hS hA (g_V (own := "HideReaderModel") (As := [.int (mI z_63)]) (rest := [.int (mI p0), .ref (a 0)]) hx hb hml hown hts hK hP (rDt hD) (kr_X12_brandOf (l := l) (D := D) (k := k) (by omega) h_x_bank b_B_brands) ck_X12_brandOf iv_X12_brandOf uw_6_220 (rv_o hK hP) rfl hl.1 rfl (Nat.le_of_ble_eq_true rfl) dX12_isFresh_14 ⟨Nat.le_of_ble_eq_true rfl, Nat.le_of_ble_eq_true rfl⟩ ⟨Nat.le_of_ble_eq_true rfl, Nat.le_of_ble_eq_true rfl⟩) (fun r_76 H locs hQ hS => ?_)
    obtain ⟨hr_76_0, hr_76_1, hP⟩ := hQ
    refine g_i (rDt hD) hS hA (g_V (own := "HideReaderModel") (As := [.int (mI p0), .int (mI r_76)]) (rest := []) hx hb hml hown hts hK hP (rDt hD) (kr_X12_isUnder (l := l) (D := D) (k := k) (by omega) (by omega) h_x_bank b_B_turns b_B_told g_R) ck_X12_isUnder iv_X12_isUnder uw_8_186 (rv_o hK hP) rfl hl.1 rfl (Nat.le_of_ble_eq_true rfl) dX12_isFresh_17 ⟨Nat.le_of_ble_eq_true rfl, Nat.le_of_ble_eq_true rfl⟩ ⟨Nat.le_of_ble_eq_true rfl, Nat.le_of_ble_eq_true rfl⟩) (fun r_77 H locs hQ hS => ?_)
    obtain ⟨hr_77_0, hr_77_1, hP⟩ := hQ
    refine sy_if_ne (tgt := 36) hx hb dX12_isFresh_20 (by decide) (by omega) (fun c_78 => ?_) (fun c_78 => ?_)
    · skip
      refine lv_iconst (v := mI 0) hx hb dX12_isFresh_36 rfl ?_
      exact r_z hx hb hr hlocks dX12_isFresh_37 hS (by decide) ⟨by omega, hP⟩
    · skip
      refine lv_aload_n hx hb dX12_isFresh_23 rfl (lv_at hl 1 rfl) ?_
      refine lv_aload_n hx hb dX12_isFresh_24 rfl (lv_at hl 1 rfl) ?_
      refine lv_iload_n hx hb dX12_isFresh_25 rfl (lv_at hl 0 rfl) ?_
      refine g_i (rDt hD) hS hA (g_V (own := "HideReaderModel") (As := [.int (mI z_63)]) (rest := [.ref (a 0)]) hx hb hml hown hts hK hP (rDt hD) (kr_X12_brandOf (l := l) (D := D) (k := k) (by omega) h_x_bank b_B_brands) ck_X12_brandOf iv_X12_brandOf uw_6_220 (rv_o hK hP) rfl hl.1 rfl (Nat.le_of_ble_eq_true rfl) dX12_isFresh_26 ⟨Nat.le_of_ble_eq_true rfl, Nat.le_of_ble_eq_true rfl⟩ ⟨Nat.le_of_ble_eq_true rfl, Nat.le_of_ble_eq_true rfl⟩) (fun r_79 H locs hQ hS => ?_)
      obtain ⟨hr_79_0, hr_79_1, hP⟩ := hQ
      refine lv_iload_n hx hb dX12_isFresh_29 rfl (lv_at hl 2 rfl) ?_
      refine g_i (rDt hD) hS hA (g_V (own := "HideReaderModel") (As := [.int (mI r_79), .int (mI p0)]) (rest := []) hx hb hml hown hts hK hP (rDt hD) (kr_X12_isUnder (l := l) (D := D) (k := k) (by omega) (by omega) h_x_bank b_B_turns b_B_told g_R) ck_X12_isUnder iv_X12_isUnder uw_8_186 (rv_o hK hP) rfl hl.1 rfl (Nat.le_of_ble_eq_true rfl) dX12_isFresh_30 ⟨Nat.le_of_ble_eq_true rfl, Nat.le_of_ble_eq_true rfl⟩ ⟨Nat.le_of_ble_eq_true rfl, Nat.le_of_ble_eq_true rfl⟩) (fun r_80 H locs hQ hS => ?_)
      obtain ⟨hr_80_0, hr_80_1, hP⟩ := hQ
      refine sy_if_eq (tgt := 38) hx hb dX12_isFresh_33 (by decide) (by omega) (fun c_81 => ?_) (fun c_81 => ?_)
      · skip
        refine lv_iinc (v := mI (z_63 + 1)) (lv' := [(2, .int (mI (z_63 + 1))), (0, .ref (a 0)), (1, .int (mI p0))]) hx hb dX12_isFresh_38 hl (k := 0) rfl (mI_ad rfl) (by decide) rfl (fun ls hl => ?_)
        refine lv_goto (tgt := 2) hx hb dX12_isFresh_41 (by decide) ?_
        exact ih_73 _ _ _ _ (by omega) ⟨(z_63 + 1), _, by omega, rfl, hP, hS, lv_sub hl [0, 1, 2] rfl, rfl⟩
      · skip
        refine lv_iconst (v := mI 0) hx hb dX12_isFresh_36 rfl ?_
        exact r_z hx hb hr hlocks dX12_isFresh_37 hS (by decide) ⟨by omega, hP⟩
set_option maxHeartbeats 4000000 in
set_option maxRecDepth 100000 in
theorem kr_X12_fresh (h_x_bank : 0 ≤ x_bank ∧ x_bank ≤ 1) (b_B_turns : bd (0) 4 B_turns) (b_B_herds : bd (0) 8 B_herds) (b_B_told : bd (0) 31 B_told) (b_B_brands : bd (0) 4095 B_brands) (g_R : 1 ≤ B_turns x_bank.toNat ∧ ¬ B_turns x_bank.toNat = 3) : MetG l D k yX12_fresh cX12_fresh 3 (some .int) 5 [.ref (a 0)] (rW k a x_taped x_size x_faultKind x_faultPlace x_at x_end x_token x_number x_bank x_rb x_codes x_within x_piled x_unitsInRule x_askBeast x_askStroke x_askAge x_askSeason x_acts x_undone x_laid x_seens x_time x_fitting n_name B_tape B_text B_turns B_herds B_irons B_beasts B_units B_night B_draw B_told B_brands B_ironMarks B_herdTold B_born B_ruleFrom B_ruleTo B_code B_codeNumber B_eWhat B_eSign B_pile B_all B_burned B_was B_need B_laidRow B_long8 B_brings B_sBurning B_sStroke B_sIs B_sTold B_sUntold B_parts B_boxAll B_isBoxed G_hName G_iName G_bName ex) (qGi (fun r0 H => (-1 ≤ r0 ∧ r0 ≤ 4095) ∧ va_P D vwCl (rW k a x_taped x_size x_faultKind x_faultPlace x_at x_end x_token x_number x_bank x_rb x_codes x_within x_piled x_unitsInRule x_askBeast x_askStroke x_askAge x_askSeason x_acts x_undone x_laid x_seens x_time x_fitting n_name B_tape B_text B_turns B_herds B_irons B_beasts B_units B_night B_draw B_told B_brands B_ironMarks B_herdTold B_born B_ruleFrom B_ruleTo B_code B_codeNumber B_eWhat B_eSign B_pile B_all B_burned B_was B_need B_laidRow B_long8 B_brings B_sBurning B_sStroke B_sIs B_sTold B_sUntold B_parts B_boxAll B_isBoxed G_hName G_iName G_bName ex) H)) := by
  refine metG_of 0 ck_X12_fresh (Nat.le_of_ble_eq_true rfl) rMap (fun p e s m args below meth c A hx hb hml hr hlocks hown hts hK hD hA hP hS ls hl => ?_)
  have hown : s.vm.findClass "HideReaderModel" = some m.cls := hown
  have hl : lv_has ls 3 [(0, .ref (a 0))] := hl
  refine lv_iconst (v := mI (-1)) hx hb dX12_fresh_0 rfl ?_
  refine lv_istore_n (lv' := [(1, .int (mI (-1))), (0, .ref (a 0))]) hx hb dX12_fresh_1 rfl hl (by decide) rfl (fun ls hl => ?_)
  refine lv_iconst (v := mI 1) hx hb dX12_fresh_2 rfl ?_
  refine lv_istore_n (lv' := [(2, .int (mI 1)), (1, .int (mI (-1))), (0, .ref (a 0))]) hx hb dX12_fresh_3 rfl hl (by decide) rfl (fun ls hl => ?_)
  refine sy_loop (I := fun n H locs g => ∃ (z_82 : Int) (z_83 : Int) (ls : Array Slot), (1 ≤ z_82 ∧ z_82 ≤ 4096) ∧ (-1 ≤ z_83 ∧ z_83 ≤ 4095) ∧ (0 ≤ z_82 - z_83) ∧ (4096 - z_82).toNat = n ∧ va_P D vwCl (rW k a x_taped x_size x_faultKind x_faultPlace x_at x_end x_token x_number x_bank x_rb x_codes x_within x_piled x_unitsInRule x_askBeast x_askStroke x_askAge x_askSeason x_acts x_undone x_laid x_seens x_time x_fitting n_name B_tape B_text B_turns B_herds B_irons B_beasts B_units B_night B_draw B_told B_brands B_ironMarks B_herdTold B_born B_ruleFrom B_ruleTo B_code B_codeNumber B_eWhat B_eSign B_pile B_all B_burned B_was B_need B_laidRow B_long8 B_brings B_sBurning B_sStroke B_sIs B_sTold B_sUntold B_parts B_boxAll B_isBoxed G_hName G_iName G_bName ex) H ∧ va_S A s.heap H locs ∧ lv_has ls 3 [(2, .int (mI z_82)), (1, .int (mI z_83)), (0, .ref (a 0))] ∧ g = F0 m 4 ls []) ?_ _ ⟨1, (-1), _, by omega, by omega, by omega, rfl, hP, hS, lv_sub hl [0, 1, 2] rfl, rfl⟩
  intro n_93 H locs g hI ih_94
  obtain ⟨z_82, z_83, ls, h4_0, h4_1, h4_2, mn_93, hP, hS, hl, rfl⟩ := hI
  refine lv_iload_n hx hb dX12_fresh_4 rfl (lv_at hl 0 rfl) ?_
  refine lv_sipush (v := mI 4096) hx hb dX12_fresh_5 (by decide) ?_
  refine sy_icmp_ge (tgt := 42) hx hb dX12_fresh_8 (by decide) (by omega) (by decide) (fun c_95 => ?_) (fun c_95 => ?_)
  · skip
    refine lv_iload_n hx hb dX12_fresh_42 rfl (lv_at hl 1 rfl) ?_
    exact r_i hx hb hr hlocks dX12_fresh_43 hS ⟨by omega, hP⟩
  · skip
    refine lv_iload_n hx hb dX12_fresh_11 rfl (lv_at hl 1 rfl) ?_
    refine sy_if_lt (tgt := 26) hx hb dX12_fresh_12 (by decide) (by omega) (fun c_96 => ?_) (fun c_96 => ?_)
    · skip
      refine lv_aload_n hx hb dX12_fresh_26 rfl (lv_at hl 2 rfl) ?_
      refine lv_iload_n hx hb dX12_fresh_27 rfl (lv_at hl 0 rfl) ?_
      refine g_i (rDt hD) hS hA (g_V (own := "HideReaderModel") (As := [.int (mI z_82)]) (rest := []) hx hb hml hown hts hK hP (rDt hD) (kr_X12_isFresh (l := l) (D := D) (k := k) (by omega) h_x_bank b_B_turns b_B_herds b_B_told b_B_brands g_R) ck_X12_isFresh iv_X12_isFresh uw_9_122 (rv_o hK hP) rfl hl.1 rfl (Nat.le_of_ble_eq_true rfl) dX12_fresh_28 ⟨Nat.le_of_ble_eq_true rfl, Nat.le_of_ble_eq_true rfl⟩ ⟨Nat.le_of_ble_eq_true rfl, Nat.le_of_ble_eq_true rfl⟩) (fun r_97 H locs hQ hS => ?_)
      obtain ⟨hr_97_0, hP⟩ := hQ
      refine sy_if_eq (tgt := 36) hx hb dX12_fresh_31 (by decide) (by omega) (fun c_98 => ?_) (fun c_98 => ?_)
      · skip
        refine lv_iinc (v := mI (z_82 + 1)) (lv' := [(2, .int (mI (z_82 + 1))), (1, .int (mI z_83)), (0, .ref (a 0))]) hx hb dX12_fresh_36 hl (k := 0) rfl (mI_ad rfl) (by decide) rfl (fun ls hl => ?_)
        refine lv_goto (tgt := 4) hx hb dX12_fresh_39 (by decide) ?_
        exact ih_94 _ _ _ _ (by omega) ⟨(z_82 + 1), z_83, _, by omega, by omega, by omega, rfl, hP, hS, lv_sub hl [0, 1, 2] rfl, rfl⟩
      · skip
        refine lv_iload_n hx hb dX12_fresh_34 rfl (lv_at hl 0 rfl) ?_
        refine lv_istore_n (lv' := [(1, .int (mI z_82)), (2, .int (mI z_82)), (0, .ref (a 0))]) hx hb dX12_fresh_35 rfl hl (by decide) rfl (fun ls hl => ?_)
        refine lv_iinc (v := mI (z_82 + 1)) (lv' := [(2, .int (mI (z_82 + 1))), (1, .int (mI z_82)), (0, .ref (a 0))]) hx hb dX12_fresh_36 hl (k := 1) rfl (mI_ad rfl) (by decide) rfl (fun ls hl => ?_)
        refine lv_goto (tgt := 4) hx hb dX12_fresh_39 (by decide) ?_
        exact ih_94 _ _ _ _ (by omega) ⟨(z_82 + 1), z_82, _, by omega, by omega, by omega, rfl, hP, hS, lv_sub hl [0, 1, 2] rfl, rfl⟩
    · skip
      refine lv_iload_n hx hb dX12_fresh_15 rfl (lv_at hl 0 rfl) ?_
      refine g_i (rDt hD) hS hA (g_S (own := "HideReaderModel") (As := [.int (mI z_82)]) (rest := []) hx hb hml hown hts hK hP (rDt hD) (kr_X12_bitsOf (l := l) (D := D) (k := k) (by omega)) ck_X12_bitsOf uw_8_166 uw_8_165 rfl hl.1 rfl (Nat.le_of_ble_eq_true rfl) dX12_fresh_16 ⟨Nat.le_of_ble_eq_true rfl, Nat.le_of_ble_eq_true rfl⟩ ⟨Nat.le_of_ble_eq_true rfl, Nat.le_of_ble_eq_true rfl⟩) (fun r_99 H locs hQ hS => ?_)
      obtain ⟨hr_99_0, hP⟩ := hQ
      refine lv_iload_n hx hb dX12_fresh_19 rfl (lv_at hl 1 rfl) ?_
      refine g_i (rDt hD) hS hA (g_S (own := "HideReaderModel") (As := [.int (mI z_83)]) (rest := [.int (mI r_99)]) hx hb hml hown hts hK hP (rDt hD) (kr_X12_bitsOf (l := l) (D := D) (k := k) (by omega)) ck_X12_bitsOf uw_8_166 uw_8_165 rfl hl.1 rfl (Nat.le_of_ble_eq_true rfl) dX12_fresh_20 ⟨Nat.le_of_ble_eq_true rfl, Nat.le_of_ble_eq_true rfl⟩ ⟨Nat.le_of_ble_eq_true rfl, Nat.le_of_ble_eq_true rfl⟩) (fun r_100 H locs hQ hS => ?_)
      obtain ⟨hr_100_0, hP⟩ := hQ
      refine sy_icmp_ge (tgt := 36) hx hb dX12_fresh_23 (by decide) (by omega) (by omega) (fun c_101 => ?_) (fun c_101 => ?_)
      · skip
        refine lv_iinc (v := mI (z_82 + 1)) (lv' := [(2, .int (mI (z_82 + 1))), (1, .int (mI z_83)), (0, .ref (a 0))]) hx hb dX12_fresh_36 hl (k := 0) rfl (mI_ad rfl) (by decide) rfl (fun ls hl => ?_)
        refine lv_goto (tgt := 4) hx hb dX12_fresh_39 (by decide) ?_
        exact ih_94 _ _ _ _ (by omega) ⟨(z_82 + 1), z_83, _, by omega, by omega, by omega, rfl, hP, hS, lv_sub hl [0, 1, 2] rfl, rfl⟩
      · skip
        refine lv_aload_n hx hb dX12_fresh_26 rfl (lv_at hl 2 rfl) ?_
        refine lv_iload_n hx hb dX12_fresh_27 rfl (lv_at hl 0 rfl) ?_
        refine g_i (rDt hD) hS hA (g_V (own := "HideReaderModel") (As := [.int (mI z_82)]) (rest := []) hx hb hml hown hts hK hP (rDt hD) (kr_X12_isFresh (l := l) (D := D) (k := k) (by omega) h_x_bank b_B_turns b_B_herds b_B_told b_B_brands g_R) ck_X12_isFresh iv_X12_isFresh uw_9_122 (rv_o hK hP) rfl hl.1 rfl (Nat.le_of_ble_eq_true rfl) dX12_fresh_28 ⟨Nat.le_of_ble_eq_true rfl, Nat.le_of_ble_eq_true rfl⟩ ⟨Nat.le_of_ble_eq_true rfl, Nat.le_of_ble_eq_true rfl⟩) (fun r_102 H locs hQ hS => ?_)
        obtain ⟨hr_102_0, hP⟩ := hQ
        refine sy_if_eq (tgt := 36) hx hb dX12_fresh_31 (by decide) (by omega) (fun c_103 => ?_) (fun c_103 => ?_)
        · skip
          refine lv_iinc (v := mI (z_82 + 1)) (lv' := [(2, .int (mI (z_82 + 1))), (1, .int (mI z_83)), (0, .ref (a 0))]) hx hb dX12_fresh_36 hl (k := 0) rfl (mI_ad rfl) (by decide) rfl (fun ls hl => ?_)
          refine lv_goto (tgt := 4) hx hb dX12_fresh_39 (by decide) ?_
          exact ih_94 _ _ _ _ (by omega) ⟨(z_82 + 1), z_83, _, by omega, by omega, by omega, rfl, hP, hS, lv_sub hl [0, 1, 2] rfl, rfl⟩
        · skip
          refine lv_iload_n hx hb dX12_fresh_34 rfl (lv_at hl 0 rfl) ?_
          refine lv_istore_n (lv' := [(1, .int (mI z_82)), (2, .int (mI z_82)), (0, .ref (a 0))]) hx hb dX12_fresh_35 rfl hl (by decide) rfl (fun ls hl => ?_)
          refine lv_iinc (v := mI (z_82 + 1)) (lv' := [(2, .int (mI (z_82 + 1))), (1, .int (mI z_82)), (0, .ref (a 0))]) hx hb dX12_fresh_36 hl (k := 1) rfl (mI_ad rfl) (by decide) rfl (fun ls hl => ?_)
          refine lv_goto (tgt := 4) hx hb dX12_fresh_39 (by decide) ?_
          exact ih_94 _ _ _ _ (by omega) ⟨(z_82 + 1), z_82, _, by omega, by omega, by omega, rfl, hP, hS, lv_sub hl [0, 1, 2] rfl, rfl⟩
end Kr
