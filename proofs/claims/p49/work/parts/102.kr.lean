section Kr
variable {l : Launch} {D : va_G} {k : Nat → ClassId} {a : Nat → Nat} {ex : va_W} {x_taped x_size x_faultKind x_faultPlace x_at x_end x_token x_number x_bank x_rb x_codes x_within x_piled x_unitsInRule x_askBeast x_askStroke x_askAge x_askSeason x_acts x_undone x_laid x_seens x_time x_fitting : Int} {n_name : Int64} {B_tape B_text B_turns B_herds B_irons B_beasts B_units B_night B_draw B_told B_brands B_ironMarks B_herdTold B_born B_ruleFrom B_ruleTo B_code B_codeNumber B_eWhat B_eSign B_pile B_all B_burned B_was B_need B_laidRow B_long8 B_brings B_sBurning B_sStroke B_sIs B_sTold B_sUntold B_parts B_boxAll B_isBoxed : Nat → Int} {G_hName G_iName G_bName : Nat → Int64}
set_option maxHeartbeats 4000000 in
set_option maxRecDepth 100000 in
theorem kr_X12_undo (h_x_acts : 0 ≤ x_acts ∧ x_acts ≤ 40) (h_x_undone : 0 ≤ x_undone ∧ x_undone ≤ 40) (b_B_all : bA B_all) (b_B_was : bA B_was) : MetG l D k yX12_undo cX12_undo 1 (some .boolean) 1 [.ref (a 0)] (rW k a x_taped x_size x_faultKind x_faultPlace x_at x_end x_token x_number x_bank x_rb x_codes x_within x_piled x_unitsInRule x_askBeast x_askStroke x_askAge x_askSeason x_acts x_undone x_laid x_seens x_time x_fitting n_name B_tape B_text B_turns B_herds B_irons B_beasts B_units B_night B_draw B_told B_brands B_ironMarks B_herdTold B_born B_ruleFrom B_ruleTo B_code B_codeNumber B_eWhat B_eSign B_pile B_all B_burned B_was B_need B_laidRow B_long8 B_brings B_sBurning B_sStroke B_sIs B_sTold B_sUntold B_parts B_boxAll B_isBoxed G_hName G_iName G_bName ex) (qGi (fun r0 H => ∃ (F_all : Nat → Int) (F_was : Nat → Int) (y_acts : Int) (y_undone : Int), (0 ≤ r0 ∧ r0 ≤ 1) ∧ (bA F_all) ∧ (bA F_was) ∧ (0 ≤ y_acts ∧ y_acts ≤ 39) ∧ (0 ≤ y_undone ∧ y_undone ≤ 41) ∧ (0 ≤ -y_acts + x_acts) ∧ (0 ≤ y_undone - x_undone) ∧ va_P D vwCl (rW k a x_taped x_size x_faultKind x_faultPlace x_at x_end x_token x_number x_bank x_rb x_codes x_within x_piled x_unitsInRule x_askBeast x_askStroke x_askAge x_askSeason y_acts y_undone x_laid x_seens x_time x_fitting n_name B_tape B_text B_turns B_herds B_irons B_beasts B_units B_night B_draw B_told B_brands B_ironMarks B_herdTold B_born B_ruleFrom B_ruleTo B_code B_codeNumber B_eWhat B_eSign B_pile F_all B_burned F_was B_need B_laidRow B_long8 B_brings B_sBurning B_sStroke B_sIs B_sTold B_sUntold B_parts B_boxAll B_isBoxed G_hName G_iName G_bName ex) H)) := by
  refine metG_of 0 ck_X12_undo (Nat.le_of_ble_eq_true rfl) rMap (fun p e s m args below meth c A hx hb hml hr hlocks hown hts hK hD hA hP hS ls hl => ?_)
  have hown : s.vm.findClass "HideReaderModel" = some m.cls := hown
  have hl : lv_has ls 1 [(0, .ref (a 0))] := hl
  refine lv_aload_n hx hb dX12_undo_0 rfl (lv_at hl 0 rfl) ?_
  refine rg_o_acts hx hb hts hown hK hP uw_7_69 dX12_undo_1 ?_
  refine sy_if_ne (tgt := 9) hx hb dX12_undo_4 (by decide) (by omega) (fun c_1 => ?_) (fun c_1 => ?_)
  · skip
    refine lv_aload_n hx hb dX12_undo_9 rfl (lv_at hl 0 rfl) ?_
    refine lv_dup hx hb dX12_undo_10 rfl ?_
    refine rg_o_acts hx hb hts hown hK hP uw_7_69 dX12_undo_11 ?_
    refine lv_iconst (v := mI 1) hx hb dX12_undo_14 rfl ?_
    refine sy_isub hx hb dX12_undo_15 (x_acts - 1) rfl ?_
    refine rp_o_acts hx hb hts hown hK hP hD hS uw_7_69 dX12_undo_16 (fun H locs hP hS => ?_)
    refine lv_aload_n hx hb dX12_undo_19 rfl (lv_at hl 0 rfl) ?_
    refine lv_dup hx hb dX12_undo_20 rfl ?_
    refine rg_o_undone hx hb hts hown hK hP uw_7_70 dX12_undo_21 ?_
    refine lv_iconst (v := mI 1) hx hb dX12_undo_24 rfl ?_
    refine sy_iadd hx hb dX12_undo_25 (x_undone + 1) rfl ?_
    refine rp_o_undone hx hb hts hown hK hP hD hS uw_7_70 dX12_undo_26 (fun H locs hP hS => ?_)
    refine lv_aload_n hx hb dX12_undo_29 rfl (lv_at hl 0 rfl) ?_
    refine g_v (rDt hD) hS hA (g_V (own := "HideReaderModel") (As := []) (rest := []) hx hb hml hown hts hK hP (rDt hD) (kr_X12_swapAll (l := l) (D := D) (k := k) (by omega) b_B_all b_B_was) ck_X12_swapAll iv_X12_swapAll uw_9_22 (rv_o hK hP) rfl hl.1 rfl (Nat.le_of_ble_eq_true rfl) dX12_undo_30 ⟨Nat.le_of_ble_eq_true rfl, Nat.le_of_ble_eq_true rfl⟩ ⟨Nat.le_of_ble_eq_true rfl, Nat.le_of_ble_eq_true rfl⟩) (fun H locs hQ hS => ?_)
    obtain ⟨F_3, F_4, bF_3, bF_4, hP⟩ := hQ
    refine lv_iconst (v := mI 1) hx hb dX12_undo_33 rfl ?_
    exact r_z hx hb hr hlocks dX12_undo_34 hS (by decide) ⟨F_3, F_4, (x_acts - 1), (x_undone + 1), by omega, bF_3, bF_4, by omega, by omega, by omega, by omega, hP⟩
  · skip
    refine lv_iconst (v := mI 0) hx hb dX12_undo_7 rfl ?_
    exact r_z hx hb hr hlocks dX12_undo_8 hS (by decide) ⟨B_all, B_was, x_acts, x_undone, by omega, b_B_all, b_B_was, by omega, by omega, by omega, by omega, hP⟩
set_option maxHeartbeats 4000000 in
set_option maxRecDepth 100000 in
theorem kr_X12_redo (h_x_acts : 0 ≤ x_acts ∧ x_acts ≤ 40) (h_x_undone : 0 ≤ x_undone ∧ x_undone ≤ 40) (b_B_all : bA B_all) (b_B_was : bA B_was) : MetG l D k yX12_redo cX12_redo 1 (some .boolean) 1 [.ref (a 0)] (rW k a x_taped x_size x_faultKind x_faultPlace x_at x_end x_token x_number x_bank x_rb x_codes x_within x_piled x_unitsInRule x_askBeast x_askStroke x_askAge x_askSeason x_acts x_undone x_laid x_seens x_time x_fitting n_name B_tape B_text B_turns B_herds B_irons B_beasts B_units B_night B_draw B_told B_brands B_ironMarks B_herdTold B_born B_ruleFrom B_ruleTo B_code B_codeNumber B_eWhat B_eSign B_pile B_all B_burned B_was B_need B_laidRow B_long8 B_brings B_sBurning B_sStroke B_sIs B_sTold B_sUntold B_parts B_boxAll B_isBoxed G_hName G_iName G_bName ex) (qGi (fun r0 H => ∃ (F_all : Nat → Int) (F_was : Nat → Int) (y_acts : Int) (y_undone : Int), (0 ≤ r0 ∧ r0 ≤ 1) ∧ (bA F_all) ∧ (bA F_was) ∧ (0 ≤ y_acts ∧ y_acts ≤ 41) ∧ (0 ≤ y_undone ∧ y_undone ≤ 39) ∧ (0 ≤ y_acts - x_acts) ∧ (0 ≤ -y_undone + x_undone) ∧ va_P D vwCl (rW k a x_taped x_size x_faultKind x_faultPlace x_at x_end x_token x_number x_bank x_rb x_codes x_within x_piled x_unitsInRule x_askBeast x_askStroke x_askAge x_askSeason y_acts y_undone x_laid x_seens x_time x_fitting n_name B_tape B_text B_turns B_herds B_irons B_beasts B_units B_night B_draw B_told B_brands B_ironMarks B_herdTold B_born B_ruleFrom B_ruleTo B_code B_codeNumber B_eWhat B_eSign B_pile F_all B_burned F_was B_need B_laidRow B_long8 B_brings B_sBurning B_sStroke B_sIs B_sTold B_sUntold B_parts B_boxAll B_isBoxed G_hName G_iName G_bName ex) H)) := by
  refine metG_of 0 ck_X12_redo (Nat.le_of_ble_eq_true rfl) rMap (fun p e s m args below meth c A hx hb hml hr hlocks hown hts hK hD hA hP hS ls hl => ?_)
  have hown : s.vm.findClass "HideReaderModel" = some m.cls := hown
  have hl : lv_has ls 1 [(0, .ref (a 0))] := hl
  refine lv_aload_n hx hb dX12_redo_0 rfl (lv_at hl 0 rfl) ?_
  refine rg_o_undone hx hb hts hown hK hP uw_7_70 dX12_redo_1 ?_
  refine sy_if_ne (tgt := 9) hx hb dX12_redo_4 (by decide) (by omega) (fun c_1 => ?_) (fun c_1 => ?_)
  · skip
    refine lv_aload_n hx hb dX12_redo_9 rfl (lv_at hl 0 rfl) ?_
    refine g_v (rDt hD) hS hA (g_V (own := "HideReaderModel") (As := []) (rest := []) hx hb hml hown hts hK hP (rDt hD) (kr_X12_swapAll (l := l) (D := D) (k := k) h_x_acts b_B_all b_B_was) ck_X12_swapAll iv_X12_swapAll uw_9_22 (rv_o hK hP) rfl hl.1 rfl (Nat.le_of_ble_eq_true rfl) dX12_redo_10 ⟨Nat.le_of_ble_eq_true rfl, Nat.le_of_ble_eq_true rfl⟩ ⟨Nat.le_of_ble_eq_true rfl, Nat.le_of_ble_eq_true rfl⟩) (fun H locs hQ hS => ?_)
    obtain ⟨F_3, F_4, bF_3, bF_4, hP⟩ := hQ
    refine lv_aload_n hx hb dX12_redo_13 rfl (lv_at hl 0 rfl) ?_
    refine lv_dup hx hb dX12_redo_14 rfl ?_
    refine rg_o_acts hx hb hts hown hK hP uw_7_69 dX12_redo_15 ?_
    refine lv_iconst (v := mI 1) hx hb dX12_redo_18 rfl ?_
    refine sy_iadd hx hb dX12_redo_19 (x_acts + 1) rfl ?_
    refine rp_o_acts hx hb hts hown hK hP hD hS uw_7_69 dX12_redo_20 (fun H locs hP hS => ?_)
    refine lv_aload_n hx hb dX12_redo_23 rfl (lv_at hl 0 rfl) ?_
    refine lv_dup hx hb dX12_redo_24 rfl ?_
    refine rg_o_undone hx hb hts hown hK hP uw_7_70 dX12_redo_25 ?_
    refine lv_iconst (v := mI 1) hx hb dX12_redo_28 rfl ?_
    refine sy_isub hx hb dX12_redo_29 (x_undone - 1) rfl ?_
    refine rp_o_undone hx hb hts hown hK hP hD hS uw_7_70 dX12_redo_30 (fun H locs hP hS => ?_)
    refine lv_iconst (v := mI 1) hx hb dX12_redo_33 rfl ?_
    exact r_z hx hb hr hlocks dX12_redo_34 hS (by decide) ⟨F_3, F_4, (x_acts + 1), (x_undone - 1), by omega, bF_3, bF_4, by omega, by omega, by omega, by omega, hP⟩
  · skip
    refine lv_iconst (v := mI 0) hx hb dX12_redo_7 rfl ?_
    exact r_z hx hb hr hlocks dX12_redo_8 hS (by decide) ⟨B_all, B_was, x_acts, x_undone, by omega, b_B_all, b_B_was, by omega, by omega, by omega, by omega, hP⟩
set_option maxHeartbeats 4000000 in
set_option maxRecDepth 100000 in
theorem kr_X12_lies {p0 : Int} (hp0 : -2147483648 ≤ p0 ∧ p0 ≤ 2147483647) (h_x_laid : 0 ≤ x_laid ∧ x_laid ≤ 8) (b_B_laidRow : bd (0) 47 B_laidRow) : MetG l D k yX12_lies cX12_lies 2 (some .int) 1 [.ref (a 0), .int (mI p0)] (rW k a x_taped x_size x_faultKind x_faultPlace x_at x_end x_token x_number x_bank x_rb x_codes x_within x_piled x_unitsInRule x_askBeast x_askStroke x_askAge x_askSeason x_acts x_undone x_laid x_seens x_time x_fitting n_name B_tape B_text B_turns B_herds B_irons B_beasts B_units B_night B_draw B_told B_brands B_ironMarks B_herdTold B_born B_ruleFrom B_ruleTo B_code B_codeNumber B_eWhat B_eSign B_pile B_all B_burned B_was B_need B_laidRow B_long8 B_brings B_sBurning B_sStroke B_sIs B_sTold B_sUntold B_parts B_boxAll B_isBoxed G_hName G_iName G_bName ex) (qGi (fun r0 H => (-1 ≤ r0 ∧ r0 ≤ 47) ∧ va_P D vwCl (rW k a x_taped x_size x_faultKind x_faultPlace x_at x_end x_token x_number x_bank x_rb x_codes x_within x_piled x_unitsInRule x_askBeast x_askStroke x_askAge x_askSeason x_acts x_undone x_laid x_seens x_time x_fitting n_name B_tape B_text B_turns B_herds B_irons B_beasts B_units B_night B_draw B_told B_brands B_ironMarks B_herdTold B_born B_ruleFrom B_ruleTo B_code B_codeNumber B_eWhat B_eSign B_pile B_all B_burned B_was B_need B_laidRow B_long8 B_brings B_sBurning B_sStroke B_sIs B_sTold B_sUntold B_parts B_boxAll B_isBoxed G_hName G_iName G_bName ex) H)) := by
  refine metG_of 1 ck_X12_lies (Nat.le_of_ble_eq_true rfl) rMap (fun p e s m args below meth c A hx hb hml hr hlocks hown hts hK hD hA hP hS ls hl => ?_)
  have hown : s.vm.findClass "HideReaderModel" = some m.cls := hown
  have hl : lv_has ls 2 [(0, .ref (a 0)), (1, .int (mI p0))] := hl
  refine lv_iload_n hx hb dX12_lies_0 rfl (lv_at hl 1 rfl) ?_
  refine lv_iconst (v := mI 0) hx hb dX12_lies_1 rfl ?_
  refine lv_aload_n hx hb dX12_lies_2 rfl (lv_at hl 0 rfl) ?_
  refine rg_o_laid hx hb hts hown hK hP uw_7_73 dX12_lies_3 ?_
  refine lv_iconst (v := mI 1) hx hb dX12_lies_6 rfl ?_
  refine sy_isub hx hb dX12_lies_7 (x_laid - 1) rfl ?_
  refine g_i (rDt hD) hS hA (g_S (own := "HideReaderModel") (As := [.int (mI p0), .int (mI 0), .int (mI (x_laid - 1))]) (rest := []) hx hb hml hown hts hK hP (rDt hD) (kr_X12_isIn (l := l) (D := D) (k := k) (by omega) (by decide) (by omega)) ck_X12_isIn uw_8_131 uw_8_130 rfl hl.1 rfl (Nat.le_of_ble_eq_true rfl) dX12_lies_8 ⟨Nat.le_of_ble_eq_true rfl, Nat.le_of_ble_eq_true rfl⟩ ⟨Nat.le_of_ble_eq_true rfl, Nat.le_of_ble_eq_true rfl⟩) (fun r_1 H locs hQ hS => ?_)
  obtain ⟨hq_r_1, hP⟩ := hQ
  rcases hq_r_1 with rfl | ⟨rfl, c_3_0, c_3_1⟩
  · skip
    refine sy_if_eq (tgt := 23) hx hb dX12_lies_11 (by decide) (by decide) (fun c_4 => ?_) (fun c9 => absurd c9 (by decide))
    refine lv_iconst (v := mI (-1)) hx hb dX12_lies_23 rfl ?_
    exact r_i hx hb hr hlocks dX12_lies_24 hS ⟨by omega, hP⟩
  · skip
    refine sy_if_eq (tgt := 23) hx hb dX12_lies_11 (by decide) (by decide) (fun c9 => absurd c9 (by decide)) (fun c_5 => ?_)
    refine lv_aload_n hx hb dX12_lies_14 rfl (lv_at hl 0 rfl) ?_
    refine rg_o_laidRow hx hb hts hown hK hP uw_7_72 dX12_lies_15 ?_
    refine lv_iload_n hx hb dX12_lies_18 rfl (lv_at hl 1 rfl) ?_
    refine rl_laidRow hx hb hK hP dX12_lies_19 (by omega) b_B_laidRow (fun z_6 _ hz_6 => ?_)
    refine lv_goto (tgt := 24) hx hb dX12_lies_20 (by decide) ?_
    exact r_i hx hb hr hlocks dX12_lies_24 hS ⟨by omega, hP⟩
set_option maxHeartbeats 4000000 in
set_option maxRecDepth 100000 in
theorem kr_X12_layNeed {p0 : Int} (hp0 : 0 ≤ p0 ∧ p0 ≤ 4095) (h_x_bank : 0 ≤ x_bank ∧ x_bank ≤ 1) (b_B_turns : bd (1) 4 B_turns) (b_B_irons : bd (0) 6 B_irons) (b_B_told : bd (0) 31 B_told) (b_B_burned : bd (0) 4095 B_burned) (b_B_need : bd (0) 100 B_need) : MetG l D k yX12_layNeed cX12_layNeed 6 none 4 [.ref (a 0), .int (mI p0)] (rW k a x_taped x_size x_faultKind x_faultPlace x_at x_end x_token x_number x_bank x_rb x_codes x_within x_piled x_unitsInRule x_askBeast x_askStroke x_askAge x_askSeason x_acts x_undone x_laid x_seens x_time x_fitting n_name B_tape B_text B_turns B_herds B_irons B_beasts B_units B_night B_draw B_told B_brands B_ironMarks B_herdTold B_born B_ruleFrom B_ruleTo B_code B_codeNumber B_eWhat B_eSign B_pile B_all B_burned B_was B_need B_laidRow B_long8 B_brings B_sBurning B_sStroke B_sIs B_sTold B_sUntold B_parts B_boxAll B_isBoxed G_hName G_iName G_bName ex) (qGv (fun H => ∃ (F_need : Nat → Int), (bd (0) 100 F_need) ∧ va_P D vwCl (rW k a x_taped x_size x_faultKind x_faultPlace x_at x_end x_token x_number x_bank x_rb x_codes x_within x_piled x_unitsInRule x_askBeast x_askStroke x_askAge x_askSeason x_acts x_undone x_laid x_seens x_time x_fitting n_name B_tape B_text B_turns B_herds B_irons B_beasts B_units B_night B_draw B_told B_brands B_ironMarks B_herdTold B_born B_ruleFrom B_ruleTo B_code B_codeNumber B_eWhat B_eSign B_pile B_all B_burned B_was F_need B_laidRow B_long8 B_brings B_sBurning B_sStroke B_sIs B_sTold B_sUntold B_parts B_boxAll B_isBoxed G_hName G_iName G_bName ex) H)) := by
  refine metG_of 1 ck_X12_layNeed (Nat.le_of_ble_eq_true rfl) rMap (fun p e s m args below meth c A hx hb hml hr hlocks hown hts hK hD hA hP hS ls hl => ?_)
  have hown : s.vm.findClass "HideReaderModel" = some m.cls := hown
  have hl : lv_has ls 6 [(0, .ref (a 0)), (1, .int (mI p0))] := hl
  refine lv_aload_n hx hb dX12_layNeed_0 rfl (lv_at hl 0 rfl) ?_
  refine lv_iload_n hx hb dX12_layNeed_1 rfl (lv_at hl 1 rfl) ?_
  refine g_i (rDt hD) hS hA (g_V (own := "HideReaderModel") (As := [.int (mI p0)]) (rest := []) hx hb hml hown hts hK hP (rDt hD) (kr_X12_normOf (l := l) (D := D) (k := k) (by omega) h_x_bank b_B_turns b_B_told) ck_X12_normOf iv_X12_normOf uw_8_194 (rv_o hK hP) rfl hl.1 rfl (Nat.le_of_ble_eq_true rfl) dX12_layNeed_2 ⟨Nat.le_of_ble_eq_true rfl, Nat.le_of_ble_eq_true rfl⟩ ⟨Nat.le_of_ble_eq_true rfl, Nat.le_of_ble_eq_true rfl⟩) (fun r_1 H locs hQ hS => ?_)
  obtain ⟨hr_1_0, hP⟩ := hQ
  refine lv_istore_n (lv' := [(2, .int (mI r_1)), (0, .ref (a 0)), (1, .int (mI p0))]) hx hb dX12_layNeed_5 rfl hl (by decide) rfl (fun ls hl => ?_)
  refine lv_sipush (v := mI 4095) hx hb dX12_layNeed_6 (by decide) ?_
  refine lv_istore_n (lv' := [(3, .int (mI 4095)), (2, .int (mI r_1)), (0, .ref (a 0)), (1, .int (mI p0))]) hx hb dX12_layNeed_9 rfl hl (by decide) rfl (fun ls hl => ?_)
  refine sy_loop (I := fun n H locs g => ∃ (z_657 : Int) (F_658 : Nat → Int) (ls : Array Slot), (-1 ≤ z_657 ∧ z_657 ≤ 4095) ∧ (bd (0) 100 F_658) ∧ (z_657 - (-1)).toNat = n ∧ va_P D vwCl (rW k a x_taped x_size x_faultKind x_faultPlace x_at x_end x_token x_number x_bank x_rb x_codes x_within x_piled x_unitsInRule x_askBeast x_askStroke x_askAge x_askSeason x_acts x_undone x_laid x_seens x_time x_fitting n_name B_tape B_text B_turns B_herds B_irons B_beasts B_units B_night B_draw B_told B_brands B_ironMarks B_herdTold B_born B_ruleFrom B_ruleTo B_code B_codeNumber B_eWhat B_eSign B_pile B_all B_burned B_was F_658 B_laidRow B_long8 B_brings B_sBurning B_sStroke B_sIs B_sTold B_sUntold B_parts B_boxAll B_isBoxed G_hName G_iName G_bName ex) H ∧ va_S A s.heap H locs ∧ lv_has ls 6 [(3, .int (mI z_657)), (2, .int (mI r_1)), (0, .ref (a 0)), (1, .int (mI p0))] ∧ g = F0 m 10 ls []) ?_ _ ⟨4095, B_need, _, by omega, b_B_need, rfl, hP, hS, lv_sub hl [0, 1, 2, 3] rfl, rfl⟩
  intro n_788 H locs g hI ih_789
  obtain ⟨z_657, F_658, ls, h10_0, bF_658, mn_788, hP, hS, hl, rfl⟩ := hI
  refine lv_iload_n hx hb dX12_layNeed_10 rfl (lv_at hl 0 rfl) ?_
  refine sy_if_lt (tgt := 143) hx hb dX12_layNeed_11 (by decide) (by omega) (fun c_790 => ?_) (fun c_790 => ?_)
  · skip
    exact r_v hx hb hr hlocks dX12_layNeed_143 hS ⟨F_658, bF_658, hP⟩
  · skip
    refine lv_aload_n hx hb dX12_layNeed_14 rfl (lv_at hl 2 rfl) ?_
    refine rg_o_need hx hb hts hown hK hP uw_7_71 dX12_layNeed_15 ?_
    refine lv_iload_n hx hb dX12_layNeed_18 rfl (lv_at hl 0 rfl) ?_
    refine lv_bipush (v := mI 100) hx hb dX12_layNeed_19 (by decide) ?_
    refine rs_need hx hb hK hP hD hS dX12_layNeed_21 (by omega) bF_658 (by omega) (fun F_791 H locs _ bF_791 hP hS => ?_)
    refine lv_iload_n hx hb dX12_layNeed_22 rfl (lv_at hl 0 rfl) ?_
    refine g_i (rDt hD) hS hA (g_S (own := "HideReaderModel") (As := [.int (mI z_657)]) (rest := []) hx hb hml hown hts hK hP (rDt hD) (kr_X12_bitsOf (l := l) (D := D) (k := k) (by omega)) ck_X12_bitsOf uw_8_166 uw_8_165 rfl hl.1 rfl (Nat.le_of_ble_eq_true rfl) dX12_layNeed_23 ⟨Nat.le_of_ble_eq_true rfl, Nat.le_of_ble_eq_true rfl⟩ ⟨Nat.le_of_ble_eq_true rfl, Nat.le_of_ble_eq_true rfl⟩) (fun r_792 H locs hQ hS => ?_)
    obtain ⟨hr_792_0, hP⟩ := hQ
    refine lv_iload_n hx hb dX12_layNeed_26 rfl (lv_at hl 3 rfl) ?_
    refine g_i (rDt hD) hS hA (g_S (own := "HideReaderModel") (As := [.int (mI p0)]) (rest := [.int (mI r_792)]) hx hb hml hown hts hK hP (rDt hD) (kr_X12_bitsOf (l := l) (D := D) (k := k) (by omega)) ck_X12_bitsOf uw_8_166 uw_8_165 rfl hl.1 rfl (Nat.le_of_ble_eq_true rfl) dX12_layNeed_27 ⟨Nat.le_of_ble_eq_true rfl, Nat.le_of_ble_eq_true rfl⟩ ⟨Nat.le_of_ble_eq_true rfl, Nat.le_of_ble_eq_true rfl⟩) (fun r_793 H locs hQ hS => ?_)
    obtain ⟨hr_793_0, hP⟩ := hQ
    refine sy_join (I := fun H locs g => ∃ (F_798 : Nat → Int) (ls : Array Slot), (bd (0) 100 F_798) ∧ va_P D vwCl (rW k a x_taped x_size x_faultKind x_faultPlace x_at x_end x_token x_number x_bank x_rb x_codes x_within x_piled x_unitsInRule x_askBeast x_askStroke x_askAge x_askSeason x_acts x_undone x_laid x_seens x_time x_fitting n_name B_tape B_text B_turns B_herds B_irons B_beasts B_units B_night B_draw B_told B_brands B_ironMarks B_herdTold B_born B_ruleFrom B_ruleTo B_code B_codeNumber B_eWhat B_eSign B_pile B_all B_burned B_was F_798 B_laidRow B_long8 B_brings B_sBurning B_sStroke B_sIs B_sTold B_sUntold B_parts B_boxAll B_isBoxed G_hName G_iName G_bName ex) H ∧ va_S A s.heap H locs ∧ lv_has ls 6 [(3, .int (mI z_657)), (2, .int (mI r_1)), (0, .ref (a 0)), (1, .int (mI p0))] ∧ g = F0 m 49 ls []) ?_ ?_
    · skip
      intro H locs g hI
      obtain ⟨F_798, ls, bF_798, hP, hS, hl, rfl⟩ := hI
      refine lv_iload_n hx hb dX12_layNeed_49 rfl (lv_at hl 0 rfl) ?_
      refine g_i (rDt hD) hS hA (g_S (own := "HideReaderModel") (As := [.int (mI z_657)]) (rest := []) hx hb hml hown hts hK hP (rDt hD) (kr_X12_bitsOf (l := l) (D := D) (k := k) (by omega)) ck_X12_bitsOf uw_8_166 uw_8_165 rfl hl.1 rfl (Nat.le_of_ble_eq_true rfl) dX12_layNeed_50 ⟨Nat.le_of_ble_eq_true rfl, Nat.le_of_ble_eq_true rfl⟩ ⟨Nat.le_of_ble_eq_true rfl, Nat.le_of_ble_eq_true rfl⟩) (fun r_800 H locs hQ hS => ?_)
      obtain ⟨hr_800_0, hP⟩ := hQ
      refine lv_iload_n hx hb dX12_layNeed_53 rfl (lv_at hl 3 rfl) ?_
      refine g_i (rDt hD) hS hA (g_S (own := "HideReaderModel") (As := [.int (mI p0)]) (rest := [.int (mI r_800)]) hx hb hml hown hts hK hP (rDt hD) (kr_X12_bitsOf (l := l) (D := D) (k := k) (by omega)) ck_X12_bitsOf uw_8_166 uw_8_165 rfl hl.1 rfl (Nat.le_of_ble_eq_true rfl) dX12_layNeed_54 ⟨Nat.le_of_ble_eq_true rfl, Nat.le_of_ble_eq_true rfl⟩ ⟨Nat.le_of_ble_eq_true rfl, Nat.le_of_ble_eq_true rfl⟩) (fun r_801 H locs hQ hS => ?_)
      obtain ⟨hr_801_0, hP⟩ := hQ
      refine sy_icmp_lt (tgt := 63) hx hb dX12_layNeed_57 (by decide) (by omega) (by omega) (fun c_802 => ?_) (fun c_802 => ?_)
      · skip
        refine lv_iconst (v := mI 0) hx hb dX12_layNeed_63 rfl ?_
        refine lv_istore (lv' := [(4, .int (mI 0)), (3, .int (mI z_657)), (2, .int (mI r_1)), (0, .ref (a 0)), (1, .int (mI p0))]) hx hb dX12_layNeed_64 hl (by decide) rfl (fun ls hl => ?_)
        refine sy_loop (I := fun n H locs g => ∃ (z_883 : Int) (F_884 : Nat → Int) (ls : Array Slot), (0 ≤ z_883 ∧ z_883 ≤ 48) ∧ (bd (0) 100 F_884) ∧ (48 - z_883).toNat = n ∧ va_P D vwCl (rW k a x_taped x_size x_faultKind x_faultPlace x_at x_end x_token x_number x_bank x_rb x_codes x_within x_piled x_unitsInRule x_askBeast x_askStroke x_askAge x_askSeason x_acts x_undone x_laid x_seens x_time x_fitting n_name B_tape B_text B_turns B_herds B_irons B_beasts B_units B_night B_draw B_told B_brands B_ironMarks B_herdTold B_born B_ruleFrom B_ruleTo B_code B_codeNumber B_eWhat B_eSign B_pile B_all B_burned B_was F_884 B_laidRow B_long8 B_brings B_sBurning B_sStroke B_sIs B_sTold B_sUntold B_parts B_boxAll B_isBoxed G_hName G_iName G_bName ex) H ∧ va_S A s.heap H locs ∧ lv_has ls 6 [(4, .int (mI z_883)), (3, .int (mI z_657)), (2, .int (mI r_1)), (0, .ref (a 0)), (1, .int (mI p0))] ∧ g = F0 m 66 ls []) ?_ _ ⟨0, F_798, _, by omega, bF_798, rfl, hP, hS, lv_sub hl [0, 1, 2, 3, 4] rfl, rfl⟩
        intro n_899 H locs g hI ih_900
        obtain ⟨z_883, F_884, ls, h66_0, bF_884, mn_899, hP, hS, hl, rfl⟩ := hI
        refine lv_iload hx hb dX12_layNeed_66 (lv_at hl 0 rfl) ?_
        refine lv_aload_n hx hb dX12_layNeed_68 rfl (lv_at hl 3 rfl) ?_
        refine g_i (rDt hD) hS hA (g_V (own := "HideReaderModel") (As := []) (rest := [.int (mI z_883)]) hx hb hml hown hts hK hP (rDt hD) (kr_X12_tools (l := l) (D := D) (k := k) h_x_bank b_B_irons) ck_X12_tools iv_X12_tools uw_6_235 (rv_o hK hP) rfl hl.1 rfl (Nat.le_of_ble_eq_true rfl) dX12_layNeed_69 ⟨Nat.le_of_ble_eq_true rfl, Nat.le_of_ble_eq_true rfl⟩ ⟨Nat.le_of_ble_eq_true rfl, Nat.le_of_ble_eq_true rfl⟩) (fun r_901 H locs hQ hS => ?_)
        obtain ⟨hr_901_0, hP⟩ := hQ
        refine lv_aload_n hx hb dX12_layNeed_72 rfl (lv_at hl 3 rfl) ?_
        refine g_i (rDt hD) hS hA (g_V (own := "HideReaderModel") (As := []) (rest := [.int (mI r_901), .int (mI z_883)]) hx hb hml hown hts hK hP (rDt hD) (kr_X12_placements (l := l) (D := D) (k := k) h_x_bank b_B_turns b_B_told) ck_X12_placements iv_X12_placements uw_6_239 (rv_o hK hP) rfl hl.1 rfl (Nat.le_of_ble_eq_true rfl) dX12_layNeed_73 ⟨Nat.le_of_ble_eq_true rfl, Nat.le_of_ble_eq_true rfl⟩ ⟨Nat.le_of_ble_eq_true rfl, Nat.le_of_ble_eq_true rfl⟩) (fun r_902 H locs hQ hS => ?_)
        obtain ⟨hr_902_0, hP⟩ := hQ
        refine sy_imulB (A := 6) (B := 8) hx hb dX12_layNeed_76 48 (by decide) (by omega) (by omega) (fun z_903 ez_903 hz_903 => ?_)
        refine sy_icmp_ge (tgt := 137) hx hb dX12_layNeed_77 (by decide) (by omega) (by omega) (fun c_904 => ?_) (fun c_904 => ?_)
        · skip
          refine lv_iinc (v := mI (z_657 - 1)) (lv' := [(3, .int (mI (z_657 - 1))), (4, .int (mI z_883)), (2, .int (mI r_1)), (0, .ref (a 0)), (1, .int (mI p0))]) hx hb dX12_layNeed_137 hl (k := 1) rfl (mI_ad (by omega)) (by decide) rfl (fun ls hl => ?_)
          refine lv_goto (tgt := 10) hx hb dX12_layNeed_140 (by decide) ?_
          exact ih_789 _ _ _ _ (by omega) ⟨(z_657 - 1), F_884, _, by omega, bF_884, rfl, hP, hS, lv_sub hl [0, 2, 3, 4] rfl, rfl⟩
        · skip
          refine lv_aload_n hx hb dX12_layNeed_80 rfl (lv_at hl 3 rfl) ?_
          refine rg_o_need hx hb hts hown hK hP uw_7_71 dX12_layNeed_81 ?_
          refine lv_iload_n hx hb dX12_layNeed_84 rfl (lv_at hl 1 rfl) ?_
          refine lv_aload_n hx hb dX12_layNeed_85 rfl (lv_at hl 3 rfl) ?_
          refine rg_o_burned hx hb hts hown hK hP uw_7_67 dX12_layNeed_86 ?_
          refine lv_iload hx hb dX12_layNeed_89 (lv_at hl 0 rfl) ?_
          refine rl_burned hx hb hK hP dX12_layNeed_91 (by omega) b_B_burned (fun z_905 _ hz_905 => ?_)
          refine sy_ior hx hb dX12_layNeed_92 12 (by decide) 4096 (by decide) (by omega) (by omega) (fun z_906 hz_906 => ?_)
          refine rl_need hx hb hK hP dX12_layNeed_93 (by omega) bF_884 (fun z_907 _ hz_907 => ?_)
          refine lv_iconst (v := mI 1) hx hb dX12_layNeed_94 rfl ?_
          refine sy_iadd hx hb dX12_layNeed_95 (z_907 + 1) rfl ?_
          refine lv_istore (lv' := [(5, .int (mI (z_907 + 1))), (4, .int (mI z_883)), (3, .int (mI z_657)), (2, .int (mI r_1)), (0, .ref (a 0)), (1, .int (mI p0))]) hx hb dX12_layNeed_96 hl (by decide) rfl (fun ls hl => ?_)
          refine lv_aload_n hx hb dX12_layNeed_98 rfl (lv_at hl 4 rfl) ?_
          refine rg_o_burned hx hb hts hown hK hP uw_7_67 dX12_layNeed_99 ?_
          refine lv_iload hx hb dX12_layNeed_102 (lv_at hl 1 rfl) ?_
          refine rl_burned hx hb hK hP dX12_layNeed_104 (by omega) b_B_burned (fun z_908 _ hz_908 => ?_)
          refine lv_iload_n hx hb dX12_layNeed_105 rfl (lv_at hl 2 rfl) ?_
          refine lv_iconst (v := mI (-1)) hx hb dX12_layNeed_106 rfl ?_
          refine lv_ixor hx hb dX12_layNeed_107 ?_
          refine sy_any (fun z_909 hz_909 => ?_)
          refine sy_iandL hx hb dX12_layNeed_108 (by omega) (fun z_910 hz_910 => ?_)
          refine sy_if_eq (tgt := 131) hx hb dX12_layNeed_109 (by decide) (by omega) (fun c_911 => ?_) (fun c_911 => ?_)
          · skip
            refine lv_iinc (v := mI (z_883 + 1)) (lv' := [(4, .int (mI (z_883 + 1))), (5, .int (mI (z_907 + 1))), (3, .int (mI z_657)), (2, .int (mI r_1)), (0, .ref (a 0)), (1, .int (mI p0))]) hx hb dX12_layNeed_131 hl (k := 1) rfl (mI_ad rfl) (by decide) rfl (fun ls hl => ?_)
            refine lv_goto (tgt := 66) hx hb dX12_layNeed_134 (by decide) ?_
            exact ih_900 _ _ _ _ (by omega) ⟨(z_883 + 1), F_884, _, by omega, bF_884, rfl, hP, hS, lv_sub hl [0, 2, 3, 4, 5] rfl, rfl⟩
          · skip
            refine lv_iload hx hb dX12_layNeed_112 (lv_at hl 0 rfl) ?_
            refine lv_aload_n hx hb dX12_layNeed_114 rfl (lv_at hl 4 rfl) ?_
            refine rg_o_need hx hb hts hown hK hP uw_7_71 dX12_layNeed_115 ?_
            refine lv_iload_n hx hb dX12_layNeed_118 rfl (lv_at hl 2 rfl) ?_
            refine rl_need hx hb hK hP dX12_layNeed_119 (by omega) bF_884 (fun z_912 _ hz_912 => ?_)
            refine sy_icmp_ge (tgt := 131) hx hb dX12_layNeed_120 (by decide) (by omega) (by omega) (fun c_913 => ?_) (fun c_913 => ?_)
            · skip
              refine lv_iinc (v := mI (z_883 + 1)) (lv' := [(4, .int (mI (z_883 + 1))), (5, .int (mI (z_907 + 1))), (3, .int (mI z_657)), (2, .int (mI r_1)), (0, .ref (a 0)), (1, .int (mI p0))]) hx hb dX12_layNeed_131 hl (k := 1) rfl (mI_ad rfl) (by decide) rfl (fun ls hl => ?_)
              refine lv_goto (tgt := 66) hx hb dX12_layNeed_134 (by decide) ?_
              exact ih_900 _ _ _ _ (by omega) ⟨(z_883 + 1), F_884, _, by omega, bF_884, rfl, hP, hS, lv_sub hl [0, 2, 3, 4, 5] rfl, rfl⟩
            · skip
              refine lv_aload_n hx hb dX12_layNeed_123 rfl (lv_at hl 4 rfl) ?_
              refine rg_o_need hx hb hts hown hK hP uw_7_71 dX12_layNeed_124 ?_
              refine lv_iload_n hx hb dX12_layNeed_127 rfl (lv_at hl 2 rfl) ?_
              refine lv_iload hx hb dX12_layNeed_128 (lv_at hl 0 rfl) ?_
              refine rs_need hx hb hK hP hD hS dX12_layNeed_130 (by omega) bF_884 (by omega) (fun F_914 H locs _ bF_914 hP hS => ?_)
              refine lv_iinc (v := mI (z_883 + 1)) (lv' := [(4, .int (mI (z_883 + 1))), (5, .int (mI (z_907 + 1))), (3, .int (mI z_657)), (2, .int (mI r_1)), (0, .ref (a 0)), (1, .int (mI p0))]) hx hb dX12_layNeed_131 hl (k := 1) rfl (mI_ad rfl) (by decide) rfl (fun ls hl => ?_)
              refine lv_goto (tgt := 66) hx hb dX12_layNeed_134 (by decide) ?_
              exact ih_900 _ _ _ _ (by omega) ⟨(z_883 + 1), F_914, _, by omega, bF_914, rfl, hP, hS, lv_sub hl [0, 2, 3, 4, 5] rfl, rfl⟩
      · skip
        refine lv_goto (tgt := 137) hx hb dX12_layNeed_60 (by decide) ?_
        refine lv_iinc (v := mI (z_657 - 1)) (lv' := [(3, .int (mI (z_657 - 1))), (2, .int (mI r_1)), (0, .ref (a 0)), (1, .int (mI p0))]) hx hb dX12_layNeed_137 hl (k := 0) rfl (mI_ad (by omega)) (by decide) rfl (fun ls hl => ?_)
        refine lv_goto (tgt := 10) hx hb dX12_layNeed_140 (by decide) ?_
        exact ih_789 _ _ _ _ (by omega) ⟨(z_657 - 1), F_798, _, by omega, bF_798, rfl, hP, hS, lv_sub hl [0, 1, 2, 3] rfl, rfl⟩
    · skip
      intro J_799
      refine sy_icmp_ne (tgt := 49) hx hb dX12_layNeed_30 (by decide) (by omega) (by omega) (fun c_915 => ?_) (fun c_915 => ?_)
      · skip
        exact J_799 _ _ _ ⟨F_791, _, bF_791, hP, hS, lv_sub hl [0, 1, 2, 3] rfl, rfl⟩
      · skip
        refine lv_aload_n hx hb dX12_layNeed_33 rfl (lv_at hl 2 rfl) ?_
        refine lv_iload_n hx hb dX12_layNeed_34 rfl (lv_at hl 0 rfl) ?_
        refine g_i (rDt hD) hS hA (g_V (own := "HideReaderModel") (As := [.int (mI z_657)]) (rest := []) hx hb hml hown hts hK hP (rDt hD) (kr_X12_normOf (l := l) (D := D) (k := k) (by omega) h_x_bank b_B_turns b_B_told) ck_X12_normOf iv_X12_normOf uw_8_194 (rv_o hK hP) rfl hl.1 rfl (Nat.le_of_ble_eq_true rfl) dX12_layNeed_35 ⟨Nat.le_of_ble_eq_true rfl, Nat.le_of_ble_eq_true rfl⟩ ⟨Nat.le_of_ble_eq_true rfl, Nat.le_of_ble_eq_true rfl⟩) (fun r_916 H locs hQ hS => ?_)
        obtain ⟨hr_916_0, hP⟩ := hQ
        refine lv_iload_n hx hb dX12_layNeed_38 rfl (lv_at hl 1 rfl) ?_
        refine sy_icmp_ne (tgt := 49) hx hb dX12_layNeed_39 (by decide) (by omega) (by omega) (fun c_917 => ?_) (fun c_917 => ?_)
        · skip
          exact J_799 _ _ _ ⟨F_791, _, bF_791, hP, hS, lv_sub hl [0, 1, 2, 3] rfl, rfl⟩
        · skip
          refine lv_aload_n hx hb dX12_layNeed_42 rfl (lv_at hl 2 rfl) ?_
          refine rg_o_need hx hb hts hown hK hP uw_7_71 dX12_layNeed_43 ?_
          refine lv_iload_n hx hb dX12_layNeed_46 rfl (lv_at hl 0 rfl) ?_
          refine lv_iconst (v := mI 0) hx hb dX12_layNeed_47 rfl ?_
          refine rs_need hx hb hK hP hD hS dX12_layNeed_48 (by omega) bF_791 (by omega) (fun F_918 H locs _ bF_918 hP hS => ?_)
          exact J_799 _ _ _ ⟨F_918, _, bF_918, hP, hS, lv_sub hl [0, 1, 2, 3] rfl, rfl⟩
set_option maxHeartbeats 4000000 in
set_option maxRecDepth 100000 in
theorem kr_X12_canMake {p0 : Int} (hp0 : 0 ≤ p0 ∧ p0 ≤ 4095) (b_B_need : bd (0) 100 B_need) : MetG l D k yX12_canMake cX12_canMake 2 (some .boolean) 0 [.ref (a 0), .int (mI p0)] (rW k a x_taped x_size x_faultKind x_faultPlace x_at x_end x_token x_number x_bank x_rb x_codes x_within x_piled x_unitsInRule x_askBeast x_askStroke x_askAge x_askSeason x_acts x_undone x_laid x_seens x_time x_fitting n_name B_tape B_text B_turns B_herds B_irons B_beasts B_units B_night B_draw B_told B_brands B_ironMarks B_herdTold B_born B_ruleFrom B_ruleTo B_code B_codeNumber B_eWhat B_eSign B_pile B_all B_burned B_was B_need B_laidRow B_long8 B_brings B_sBurning B_sStroke B_sIs B_sTold B_sUntold B_parts B_boxAll B_isBoxed G_hName G_iName G_bName ex) (qGi (fun r0 H => ((r0 = 0) ∨ (r0 = 1)) ∧ va_P D vwCl (rW k a x_taped x_size x_faultKind x_faultPlace x_at x_end x_token x_number x_bank x_rb x_codes x_within x_piled x_unitsInRule x_askBeast x_askStroke x_askAge x_askSeason x_acts x_undone x_laid x_seens x_time x_fitting n_name B_tape B_text B_turns B_herds B_irons B_beasts B_units B_night B_draw B_told B_brands B_ironMarks B_herdTold B_born B_ruleFrom B_ruleTo B_code B_codeNumber B_eWhat B_eSign B_pile B_all B_burned B_was B_need B_laidRow B_long8 B_brings B_sBurning B_sStroke B_sIs B_sTold B_sUntold B_parts B_boxAll B_isBoxed G_hName G_iName G_bName ex) H)) := by
  refine metG_of 1 ck_X12_canMake (Nat.le_of_ble_eq_true rfl) rMap (fun p e s m args below meth c A hx hb hml hr hlocks hown hts hK hD hA hP hS ls hl => ?_)
  have hown : s.vm.findClass "HideReaderModel" = some m.cls := hown
  have hl : lv_has ls 2 [(0, .ref (a 0)), (1, .int (mI p0))] := hl
  refine lv_aload_n hx hb dX12_canMake_0 rfl (lv_at hl 0 rfl) ?_
  refine rg_o_need hx hb hts hown hK hP uw_7_71 dX12_canMake_1 ?_
  refine lv_iload_n hx hb dX12_canMake_4 rfl (lv_at hl 1 rfl) ?_
  refine rl_need hx hb hK hP dX12_canMake_5 (by omega) b_B_need (fun z_1 _ hz_1 => ?_)
  refine lv_iconst (v := mI 4) hx hb dX12_canMake_6 rfl ?_
  refine sy_icmp_gt (tgt := 14) hx hb dX12_canMake_7 (by decide) (by omega) (by decide) (fun c_2 => ?_) (fun c_2 => ?_)
  · skip
    refine lv_iconst (v := mI 0) hx hb dX12_canMake_14 rfl ?_
    exact r_z hx hb hr hlocks dX12_canMake_15 hS (by decide) ⟨Or.inl (rfl), hP⟩
  · skip
    refine lv_iconst (v := mI 1) hx hb dX12_canMake_10 rfl ?_
    refine lv_goto (tgt := 15) hx hb dX12_canMake_11 (by decide) ?_
    exact r_z hx hb hr hlocks dX12_canMake_15 hS (by decide) ⟨Or.inr (rfl), hP⟩
set_option maxHeartbeats 4000000 in
set_option maxRecDepth 100000 in
theorem kr_X12_make {p0 p1 : Int} (hp0 : -2147483648 ≤ p0 ∧ p0 ≤ 2147483647) (hp1 : -2147483648 ≤ p1 ∧ p1 ≤ 2147483647) (h_x_bank : 0 ≤ x_bank ∧ x_bank ≤ 1) (b_B_turns : bd (1) 4 B_turns) (b_B_irons : bd (0) 6 B_irons) (b_B_told : bd (0) 31 B_told) (b_B_burned : bd (0) 4095 B_burned) (b_B_need : bd (0) 100 B_need) : MetG l D k yX12_make cX12_make 3 (some .int) 5 [.ref (a 0), .int (mI p0), .int (mI p1)] (rW k a x_taped x_size x_faultKind x_faultPlace x_at x_end x_token x_number x_bank x_rb x_codes x_within x_piled x_unitsInRule x_askBeast x_askStroke x_askAge x_askSeason x_acts x_undone x_laid x_seens x_time x_fitting n_name B_tape B_text B_turns B_herds B_irons B_beasts B_units B_night B_draw B_told B_brands B_ironMarks B_herdTold B_born B_ruleFrom B_ruleTo B_code B_codeNumber B_eWhat B_eSign B_pile B_all B_burned B_was B_need B_laidRow B_long8 B_brings B_sBurning B_sStroke B_sIs B_sTold B_sUntold B_parts B_boxAll B_isBoxed G_hName G_iName G_bName ex) (qGi (fun r0 H => ∃ (F_need : Nat → Int), (-1 ≤ r0 ∧ r0 ≤ 100) ∧ (bd (0) 100 F_need) ∧ va_P D vwCl (rW k a x_taped x_size x_faultKind x_faultPlace x_at x_end x_token x_number x_bank x_rb x_codes x_within x_piled x_unitsInRule x_askBeast x_askStroke x_askAge x_askSeason x_acts x_undone x_laid x_seens x_time x_fitting n_name B_tape B_text B_turns B_herds B_irons B_beasts B_units B_night B_draw B_told B_brands B_ironMarks B_herdTold B_born B_ruleFrom B_ruleTo B_code B_codeNumber B_eWhat B_eSign B_pile B_all B_burned B_was F_need B_laidRow B_long8 B_brings B_sBurning B_sStroke B_sIs B_sTold B_sUntold B_parts B_boxAll B_isBoxed G_hName G_iName G_bName ex) H)) := by
  refine metG_of 2 ck_X12_make (Nat.le_of_ble_eq_true rfl) rMap (fun p e s m args below meth c A hx hb hml hr hlocks hown hts hK hD hA hP hS ls hl => ?_)
  have hown : s.vm.findClass "HideReaderModel" = some m.cls := hown
  have hl : lv_has ls 3 [(0, .ref (a 0)), (1, .int (mI p0)), (2, .int (mI p1))] := hl
  refine lv_iload_n hx hb dX12_make_0 rfl (lv_at hl 1 rfl) ?_
  refine g_i (rDt hD) hS hA (g_S (own := "HideReaderModel") (As := [.int (mI p0)]) (rest := []) hx hb hml hown hts hK hP (rDt hD) (kr_X12_isMark (l := l) (D := D) (k := k) (by omega)) ck_X12_isMark uw_8_180 uw_8_179 rfl hl.1 rfl (Nat.le_of_ble_eq_true rfl) dX12_make_1 ⟨Nat.le_of_ble_eq_true rfl, Nat.le_of_ble_eq_true rfl⟩ ⟨Nat.le_of_ble_eq_true rfl, Nat.le_of_ble_eq_true rfl⟩) (fun r_1 H locs hQ hS => ?_)
  obtain ⟨hq_r_1, hP⟩ := hQ
  rcases hq_r_1 with rfl | ⟨rfl, c_3_0⟩
  · skip
    refine sy_if_eq (tgt := 14) hx hb dX12_make_4 (by decide) (by decide) (fun c_4 => ?_) (fun c9 => absurd c9 (by decide))
    refine lv_iconst (v := mI (-1)) hx hb dX12_make_14 rfl ?_
    exact r_i hx hb hr hlocks dX12_make_15 hS ⟨B_need, by omega, b_B_need, hP⟩
  · skip
    refine sy_if_eq (tgt := 14) hx hb dX12_make_4 (by decide) (by decide) (fun c9 => absurd c9 (by decide)) (fun c_5 => ?_)
    refine lv_iload_n hx hb dX12_make_7 rfl (lv_at hl 2 rfl) ?_
    refine g_i (rDt hD) hS hA (g_S (own := "HideReaderModel") (As := [.int (mI p1)]) (rest := []) hx hb hml hown hts hK hP (rDt hD) (kr_X12_isMark (l := l) (D := D) (k := k) (by omega)) ck_X12_isMark uw_8_180 uw_8_179 rfl hl.1 rfl (Nat.le_of_ble_eq_true rfl) dX12_make_8 ⟨Nat.le_of_ble_eq_true rfl, Nat.le_of_ble_eq_true rfl⟩ ⟨Nat.le_of_ble_eq_true rfl, Nat.le_of_ble_eq_true rfl⟩) (fun r_6 H locs hQ hS => ?_)
    obtain ⟨hq_r_6, hP⟩ := hQ
    rcases hq_r_6 with rfl | ⟨rfl, c_8_0⟩
    · skip
      refine sy_if_ne (tgt := 16) hx hb dX12_make_11 (by decide) (by decide) (fun c9 => absurd c9 (by decide)) (fun c_9 => ?_)
      refine lv_iconst (v := mI (-1)) hx hb dX12_make_14 rfl ?_
      exact r_i hx hb hr hlocks dX12_make_15 hS ⟨B_need, by omega, b_B_need, hP⟩
    · skip
      refine sy_if_ne (tgt := 16) hx hb dX12_make_11 (by decide) (by decide) (fun c_10 => ?_) (fun c9 => absurd c9 (by decide))
      refine lv_aload_n hx hb dX12_make_16 rfl (lv_at hl 0 rfl) ?_
      refine lv_iload_n hx hb dX12_make_17 rfl (lv_at hl 2 rfl) ?_
      refine g_v (rDt hD) hS hA (g_V (own := "HideReaderModel") (As := [.int (mI p1)]) (rest := []) hx hb hml hown hts hK hP (rDt hD) (kr_X12_layNeed (l := l) (D := D) (k := k) (by omega) h_x_bank b_B_turns b_B_irons b_B_told b_B_burned b_B_need) ck_X12_layNeed iv_X12_layNeed uw_9_38 (rv_o hK hP) rfl hl.1 rfl (Nat.le_of_ble_eq_true rfl) dX12_make_18 ⟨Nat.le_of_ble_eq_true rfl, Nat.le_of_ble_eq_true rfl⟩ ⟨Nat.le_of_ble_eq_true rfl, Nat.le_of_ble_eq_true rfl⟩) (fun H locs hQ hS => ?_)
      obtain ⟨F_12, bF_12, hP⟩ := hQ
      refine lv_aload_n hx hb dX12_make_21 rfl (lv_at hl 0 rfl) ?_
      refine lv_iload_n hx hb dX12_make_22 rfl (lv_at hl 1 rfl) ?_
      refine g_i (rDt hD) hS hA (g_V (own := "HideReaderModel") (As := [.int (mI p0)]) (rest := []) hx hb hml hown hts hK hP (rDt hD) (kr_X12_canMake (l := l) (D := D) (k := k) (by omega) bF_12) ck_X12_canMake iv_X12_canMake uw_9_42 (rv_o hK hP) rfl hl.1 rfl (Nat.le_of_ble_eq_true rfl) dX12_make_23 ⟨Nat.le_of_ble_eq_true rfl, Nat.le_of_ble_eq_true rfl⟩ ⟨Nat.le_of_ble_eq_true rfl, Nat.le_of_ble_eq_true rfl⟩) (fun r_13 H locs hQ hS => ?_)
      obtain ⟨hq_r_13, hP⟩ := hQ
      rcases hq_r_13 with rfl | rfl
      · skip
        refine sy_if_eq (tgt := 38) hx hb dX12_make_26 (by decide) (by decide) (fun c_16 => ?_) (fun c9 => absurd c9 (by decide))
        refine lv_iconst (v := mI (-1)) hx hb dX12_make_38 rfl ?_
        exact r_i hx hb hr hlocks dX12_make_39 hS ⟨F_12, by omega, bF_12, hP⟩
      · skip
        refine sy_if_eq (tgt := 38) hx hb dX12_make_26 (by decide) (by decide) (fun c9 => absurd c9 (by decide)) (fun c_17 => ?_)
        refine lv_aload_n hx hb dX12_make_29 rfl (lv_at hl 0 rfl) ?_
        refine rg_o_need hx hb hts hown hK hP uw_7_71 dX12_make_30 ?_
        refine lv_iload_n hx hb dX12_make_33 rfl (lv_at hl 1 rfl) ?_
        refine rl_need hx hb hK hP dX12_make_34 (by omega) bF_12 (fun z_18 _ hz_18 => ?_)
        refine lv_goto (tgt := 39) hx hb dX12_make_35 (by decide) ?_
        exact r_i hx hb hr hlocks dX12_make_39 hS ⟨F_12, by omega, bF_12, hP⟩
set_option maxHeartbeats 4000000 in
set_option maxRecDepth 100000 in
theorem kr_X12_origins {p0 : Int} (hp0 : -2147483648 ≤ p0 ∧ p0 ≤ 2147483647) (h_x_bank : 0 ≤ x_bank ∧ x_bank ≤ 1) (b_B_turns : bd (1) 4 B_turns) (b_B_herds : bd (0) 8 B_herds) (b_B_irons : bd (0) 6 B_irons) (b_B_beasts : bd (0) 8 B_beasts) (b_B_told : bd (0) 31 B_told) (b_B_brands : bd (0) 4095 B_brands) (b_B_all : bA B_all) (b_B_burned : bd (0) 4095 B_burned) (b_B_need : bd (0) 100 B_need) : MetG l D k yX12_origins cX12_origins 4 (some .int) 5 [.ref (a 0), .int (mI p0)] (rW k a x_taped x_size x_faultKind x_faultPlace x_at x_end x_token x_number x_bank x_rb x_codes x_within x_piled x_unitsInRule x_askBeast x_askStroke x_askAge x_askSeason x_acts x_undone x_laid x_seens x_time x_fitting n_name B_tape B_text B_turns B_herds B_irons B_beasts B_units B_night B_draw B_told B_brands B_ironMarks B_herdTold B_born B_ruleFrom B_ruleTo B_code B_codeNumber B_eWhat B_eSign B_pile B_all B_burned B_was B_need B_laidRow B_long8 B_brings B_sBurning B_sStroke B_sIs B_sTold B_sUntold B_parts B_boxAll B_isBoxed G_hName G_iName G_bName ex) (qGi (fun r0 H => ∃ (F_need : Nat → Int), (-1 ≤ r0 ∧ r0 ≤ 255) ∧ (bd (0) 100 F_need) ∧ va_P D vwCl (rW k a x_taped x_size x_faultKind x_faultPlace x_at x_end x_token x_number x_bank x_rb x_codes x_within x_piled x_unitsInRule x_askBeast x_askStroke x_askAge x_askSeason x_acts x_undone x_laid x_seens x_time x_fitting n_name B_tape B_text B_turns B_herds B_irons B_beasts B_units B_night B_draw B_told B_brands B_ironMarks B_herdTold B_born B_ruleFrom B_ruleTo B_code B_codeNumber B_eWhat B_eSign B_pile B_all B_burned B_was F_need B_laidRow B_long8 B_brings B_sBurning B_sStroke B_sIs B_sTold B_sUntold B_parts B_boxAll B_isBoxed G_hName G_iName G_bName ex) H)) := by
  refine metG_of 1 ck_X12_origins (Nat.le_of_ble_eq_true rfl) rMap (fun p e s m args below meth c A hx hb hml hr hlocks hown hts hK hD hA hP hS ls hl => ?_)
  have hown : s.vm.findClass "HideReaderModel" = some m.cls := hown
  have hl : lv_has ls 4 [(0, .ref (a 0)), (1, .int (mI p0))] := hl
  refine lv_aload_n hx hb dX12_origins_0 rfl (lv_at hl 0 rfl) ?_
  refine lv_iload_n hx hb dX12_origins_1 rfl (lv_at hl 1 rfl) ?_
  refine g_i (rDt hD) hS hA (g_V (own := "HideReaderModel") (As := [.int (mI p0)]) (rest := []) hx hb hml hown hts hK hP (rDt hD) (kr_X12_isBeast (l := l) (D := D) (k := k) (by omega) h_x_bank b_B_beasts) ck_X12_isBeast iv_X12_isBeast uw_8_145 (rv_o hK hP) rfl hl.1 rfl (Nat.le_of_ble_eq_true rfl) dX12_origins_2 ⟨Nat.le_of_ble_eq_true rfl, Nat.le_of_ble_eq_true rfl⟩ ⟨Nat.le_of_ble_eq_true rfl, Nat.le_of_ble_eq_true rfl⟩) (fun r_1 H locs hQ hS => ?_)
  obtain ⟨hq_r_1, hP⟩ := hQ
  rcases hq_r_1 with rfl | ⟨rfl, c_3_0⟩
  · skip
    refine sy_if_ne (tgt := 10) hx hb dX12_origins_5 (by decide) (by decide) (fun c9 => absurd c9 (by decide)) (fun c_4 => ?_)
    refine lv_iconst (v := mI (-1)) hx hb dX12_origins_8 rfl ?_
    exact r_i hx hb hr hlocks dX12_origins_9 hS ⟨B_need, by omega, b_B_need, hP⟩
  · skip
    refine sy_if_ne (tgt := 10) hx hb dX12_origins_5 (by decide) (by decide) (fun c_5 => ?_) (fun c9 => absurd c9 (by decide))
    refine lv_aload_n hx hb dX12_origins_10 rfl (lv_at hl 0 rfl) ?_
    refine lv_aload_n hx hb dX12_origins_11 rfl (lv_at hl 0 rfl) ?_
    refine rg_o_all hx hb hts hown hK hP uw_7_66 dX12_origins_12 ?_
    refine lv_iconst (v := mI 0) hx hb dX12_origins_15 rfl ?_
    refine lv_iload_n hx hb dX12_origins_16 rfl (lv_at hl 1 rfl) ?_
    refine sy_iadd hx hb dX12_origins_17 p0 (by omega) ?_
    refine rl_all hx hb hK hP dX12_origins_18 (by omega) (bA_bd b_B_all) (fun z_6 ez_6 hz_6 => ?_)
    refine g_v (rDt hD) hS hA (g_V (own := "HideReaderModel") (As := [.int (mI z_6)]) (rest := []) hx hb hml hown hts hK hP (rDt hD) (kr_X12_layNeed (l := l) (D := D) (k := k) (by omega) h_x_bank b_B_turns b_B_irons b_B_told b_B_burned b_B_need) ck_X12_layNeed iv_X12_layNeed uw_9_38 (rv_o hK hP) rfl hl.1 rfl (Nat.le_of_ble_eq_true rfl) dX12_origins_19 ⟨Nat.le_of_ble_eq_true rfl, Nat.le_of_ble_eq_true rfl⟩ ⟨Nat.le_of_ble_eq_true rfl, Nat.le_of_ble_eq_true rfl⟩) (fun H locs hQ hS => ?_)
    obtain ⟨F_8, bF_8, hP⟩ := hQ
    refine lv_iconst (v := mI 0) hx hb dX12_origins_22 rfl ?_
    refine lv_istore_n (lv' := [(2, .int (mI 0)), (0, .ref (a 0)), (1, .int (mI p0))]) hx hb dX12_origins_23 rfl hl (by decide) rfl (fun ls hl => ?_)
    refine lv_iconst (v := mI 0) hx hb dX12_origins_24 rfl ?_
    refine lv_istore_n (lv' := [(3, .int (mI 0)), (2, .int (mI 0)), (0, .ref (a 0)), (1, .int (mI p0))]) hx hb dX12_origins_25 rfl hl (by decide) rfl (fun ls hl => ?_)
    refine sy_loop (I := fun n H locs g => ∃ (z_225 : Int) (z_226 : Int) (ls : Array Slot), (0 ≤ z_225 ∧ z_225 ≤ 8) ∧ (0 ≤ z_226 ∧ z_226 ≤ 255) ∧ (8 - z_225).toNat = n ∧ va_P D vwCl (rW k a x_taped x_size x_faultKind x_faultPlace x_at x_end x_token x_number x_bank x_rb x_codes x_within x_piled x_unitsInRule x_askBeast x_askStroke x_askAge x_askSeason x_acts x_undone x_laid x_seens x_time x_fitting n_name B_tape B_text B_turns B_herds B_irons B_beasts B_units B_night B_draw B_told B_brands B_ironMarks B_herdTold B_born B_ruleFrom B_ruleTo B_code B_codeNumber B_eWhat B_eSign B_pile B_all B_burned B_was F_8 B_laidRow B_long8 B_brings B_sBurning B_sStroke B_sIs B_sTold B_sUntold B_parts B_boxAll B_isBoxed G_hName G_iName G_bName ex) H ∧ va_S A s.heap H locs ∧ lv_has ls 4 [(3, .int (mI z_225)), (2, .int (mI z_226)), (0, .ref (a 0)), (1, .int (mI p0))] ∧ g = F0 m 26 ls []) ?_ _ ⟨0, 0, _, by omega, by omega, rfl, hP, hS, lv_sub hl [0, 1, 2, 3] rfl, rfl⟩
    intro n_237 H locs g hI ih_238
    obtain ⟨z_225, z_226, ls, h26_0, h26_1, mn_237, hP, hS, hl, rfl⟩ := hI
    refine lv_iload_n hx hb dX12_origins_26 rfl (lv_at hl 0 rfl) ?_
    refine lv_aload_n hx hb dX12_origins_27 rfl (lv_at hl 2 rfl) ?_
    refine g_i (rDt hD) hS hA (g_V (own := "HideReaderModel") (As := []) (rest := [.int (mI z_225)]) hx hb hml hown hts hK hP (rDt hD) (kr_X12_stocks (l := l) (D := D) (k := k) h_x_bank b_B_herds) ck_X12_stocks iv_X12_stocks uw_8_126 (rv_o hK hP) rfl hl.1 rfl (Nat.le_of_ble_eq_true rfl) dX12_origins_28 ⟨Nat.le_of_ble_eq_true rfl, Nat.le_of_ble_eq_true rfl⟩ ⟨Nat.le_of_ble_eq_true rfl, Nat.le_of_ble_eq_true rfl⟩) (fun r_239 H locs hQ hS => ?_)
    obtain ⟨hr_239_0, hP⟩ := hQ
    refine sy_icmp_ge (tgt := 58) hx hb dX12_origins_31 (by decide) (by omega) (by omega) (fun c_240 => ?_) (fun c_240 => ?_)
    · skip
      refine lv_iload_n hx hb dX12_origins_58 rfl (lv_at hl 1 rfl) ?_
      exact r_i hx hb hr hlocks dX12_origins_59 hS ⟨F_8, by omega, bF_8, hP⟩
    · skip
      refine lv_aload_n hx hb dX12_origins_34 rfl (lv_at hl 2 rfl) ?_
      refine lv_aload_n hx hb dX12_origins_35 rfl (lv_at hl 2 rfl) ?_
      refine lv_iload_n hx hb dX12_origins_36 rfl (lv_at hl 0 rfl) ?_
      refine g_i (rDt hD) hS hA (g_V (own := "HideReaderModel") (As := [.int (mI z_225)]) (rest := [.ref (a 0)]) hx hb hml hown hts hK hP (rDt hD) (kr_X12_brandOf (l := l) (D := D) (k := k) (by omega) h_x_bank b_B_brands) ck_X12_brandOf iv_X12_brandOf uw_6_220 (rv_o hK hP) rfl hl.1 rfl (Nat.le_of_ble_eq_true rfl) dX12_origins_37 ⟨Nat.le_of_ble_eq_true rfl, Nat.le_of_ble_eq_true rfl⟩ ⟨Nat.le_of_ble_eq_true rfl, Nat.le_of_ble_eq_true rfl⟩) (fun r_241 H locs hQ hS => ?_)
      obtain ⟨hr_241_0, hP⟩ := hQ
      refine g_i (rDt hD) hS hA (g_V (own := "HideReaderModel") (As := [.int (mI r_241)]) (rest := []) hx hb hml hown hts hK hP (rDt hD) (kr_X12_canMake (l := l) (D := D) (k := k) (by omega) bF_8) ck_X12_canMake iv_X12_canMake uw_9_42 (rv_o hK hP) rfl hl.1 rfl (Nat.le_of_ble_eq_true rfl) dX12_origins_40 ⟨Nat.le_of_ble_eq_true rfl, Nat.le_of_ble_eq_true rfl⟩ ⟨Nat.le_of_ble_eq_true rfl, Nat.le_of_ble_eq_true rfl⟩) (fun r_242 H locs hQ hS => ?_)
      obtain ⟨hq_r_242, hP⟩ := hQ
      rcases hq_r_242 with rfl | rfl
      · skip
        refine sy_if_eq (tgt := 52) hx hb dX12_origins_43 (by decide) (by decide) (fun c_245 => ?_) (fun c9 => absurd c9 (by decide))
        refine lv_iinc (v := mI (z_225 + 1)) (lv' := [(3, .int (mI (z_225 + 1))), (2, .int (mI z_226)), (0, .ref (a 0)), (1, .int (mI p0))]) hx hb dX12_origins_52 hl (k := 0) rfl (mI_ad rfl) (by decide) rfl (fun ls hl => ?_)
        refine lv_goto (tgt := 26) hx hb dX12_origins_55 (by decide) ?_
        exact ih_238 _ _ _ _ (by omega) ⟨(z_225 + 1), z_226, _, by omega, by omega, rfl, hP, hS, lv_sub hl [0, 1, 2, 3] rfl, rfl⟩
      · skip
        refine sy_if_eq (tgt := 52) hx hb dX12_origins_43 (by decide) (by decide) (fun c9 => absurd c9 (by decide)) (fun c_246 => ?_)
        refine lv_iload_n hx hb dX12_origins_46 rfl (lv_at hl 1 rfl) ?_
        refine lv_iconst (v := mI 1) hx hb dX12_origins_47 rfl ?_
        refine lv_iload_n hx hb dX12_origins_48 rfl (lv_at hl 0 rfl) ?_
        refine sy_shl1 hx hb dX12_origins_49 7 (by decide) 128 (by decide) (by omega) (fun z_247 ez_247 hz_247 => ?_)
        refine sy_ior hx hb dX12_origins_50 8 (by decide) 256 (by decide) (by omega) (by omega) (fun z_248 hz_248 => ?_)
        refine lv_istore_n (lv' := [(2, .int (mI z_248)), (3, .int (mI z_225)), (0, .ref (a 0)), (1, .int (mI p0))]) hx hb dX12_origins_51 rfl hl (by decide) rfl (fun ls hl => ?_)
        refine lv_iinc (v := mI (z_225 + 1)) (lv' := [(3, .int (mI (z_225 + 1))), (2, .int (mI z_248)), (0, .ref (a 0)), (1, .int (mI p0))]) hx hb dX12_origins_52 hl (k := 1) rfl (mI_ad rfl) (by decide) rfl (fun ls hl => ?_)
        refine lv_goto (tgt := 26) hx hb dX12_origins_55 (by decide) ?_
        exact ih_238 _ _ _ _ (by omega) ⟨(z_225 + 1), z_248, _, by omega, by omega, rfl, hP, hS, lv_sub hl [0, 1, 2, 3] rfl, rfl⟩
set_option maxHeartbeats 4000000 in
set_option maxRecDepth 100000 in
theorem kr_X12_claim {p0 : Int} (hp0 : -2147483648 ≤ p0 ∧ p0 ≤ 2147483647) (h_x_bank : 0 ≤ x_bank ∧ x_bank ≤ 1) (b_B_turns : bd (1) 4 B_turns) (b_B_herds : bd (0) 8 B_herds) (b_B_irons : bd (0) 6 B_irons) (b_B_beasts : bd (0) 8 B_beasts) (b_B_told : bd (0) 31 B_told) (b_B_brands : bd (0) 4095 B_brands) (b_B_all : bA B_all) (b_B_burned : bd (0) 4095 B_burned) (b_B_need : bd (0) 100 B_need) : MetG l D k yX12_claim cX12_claim 4 (some .int) 5 [.ref (a 0), .int (mI p0)] (rW k a x_taped x_size x_faultKind x_faultPlace x_at x_end x_token x_number x_bank x_rb x_codes x_within x_piled x_unitsInRule x_askBeast x_askStroke x_askAge x_askSeason x_acts x_undone x_laid x_seens x_time x_fitting n_name B_tape B_text B_turns B_herds B_irons B_beasts B_units B_night B_draw B_told B_brands B_ironMarks B_herdTold B_born B_ruleFrom B_ruleTo B_code B_codeNumber B_eWhat B_eSign B_pile B_all B_burned B_was B_need B_laidRow B_long8 B_brings B_sBurning B_sStroke B_sIs B_sTold B_sUntold B_parts B_boxAll B_isBoxed G_hName G_iName G_bName ex) (qGi (fun r0 H => ∃ (F_need : Nat → Int), (-1 ≤ r0 ∧ r0 ≤ 255) ∧ (bd (0) 100 F_need) ∧ va_P D vwCl (rW k a x_taped x_size x_faultKind x_faultPlace x_at x_end x_token x_number x_bank x_rb x_codes x_within x_piled x_unitsInRule x_askBeast x_askStroke x_askAge x_askSeason x_acts x_undone x_laid x_seens x_time x_fitting n_name B_tape B_text B_turns B_herds B_irons B_beasts B_units B_night B_draw B_told B_brands B_ironMarks B_herdTold B_born B_ruleFrom B_ruleTo B_code B_codeNumber B_eWhat B_eSign B_pile B_all B_burned B_was F_need B_laidRow B_long8 B_brings B_sBurning B_sStroke B_sIs B_sTold B_sUntold B_parts B_boxAll B_isBoxed G_hName G_iName G_bName ex) H)) := by
  refine metG_of 1 ck_X12_claim (Nat.le_of_ble_eq_true rfl) rMap (fun p e s m args below meth c A hx hb hml hr hlocks hown hts hK hD hA hP hS ls hl => ?_)
  have hown : s.vm.findClass "HideReaderModel" = some m.cls := hown
  have hl : lv_has ls 4 [(0, .ref (a 0)), (1, .int (mI p0))] := hl
  refine lv_aload_n hx hb dX12_claim_0 rfl (lv_at hl 0 rfl) ?_
  refine lv_iload_n hx hb dX12_claim_1 rfl (lv_at hl 1 rfl) ?_
  refine g_i (rDt hD) hS hA (g_V (own := "HideReaderModel") (As := [.int (mI p0)]) (rest := []) hx hb hml hown hts hK hP (rDt hD) (kr_X12_isHerd (l := l) (D := D) (k := k) (by omega) h_x_bank b_B_herds) ck_X12_isHerd iv_X12_isHerd uw_8_122 (rv_o hK hP) rfl hl.1 rfl (Nat.le_of_ble_eq_true rfl) dX12_claim_2 ⟨Nat.le_of_ble_eq_true rfl, Nat.le_of_ble_eq_true rfl⟩ ⟨Nat.le_of_ble_eq_true rfl, Nat.le_of_ble_eq_true rfl⟩) (fun r_1 H locs hQ hS => ?_)
  obtain ⟨hq_r_1, hP⟩ := hQ
  rcases hq_r_1 with rfl | ⟨rfl, c_3_0⟩
  · skip
    refine sy_if_ne (tgt := 10) hx hb dX12_claim_5 (by decide) (by decide) (fun c9 => absurd c9 (by decide)) (fun c_4 => ?_)
    refine lv_iconst (v := mI (-1)) hx hb dX12_claim_8 rfl ?_
    exact r_i hx hb hr hlocks dX12_claim_9 hS ⟨B_need, by omega, b_B_need, hP⟩
  · skip
    refine sy_if_ne (tgt := 10) hx hb dX12_claim_5 (by decide) (by decide) (fun c_5 => ?_) (fun c9 => absurd c9 (by decide))
    refine lv_aload_n hx hb dX12_claim_10 rfl (lv_at hl 0 rfl) ?_
    refine lv_aload_n hx hb dX12_claim_11 rfl (lv_at hl 0 rfl) ?_
    refine lv_iload_n hx hb dX12_claim_12 rfl (lv_at hl 1 rfl) ?_
    refine g_i (rDt hD) hS hA (g_V (own := "HideReaderModel") (As := [.int (mI p0)]) (rest := [.ref (a 0)]) hx hb hml hown hts hK hP (rDt hD) (kr_X12_brandOf (l := l) (D := D) (k := k) (by omega) h_x_bank b_B_brands) ck_X12_brandOf iv_X12_brandOf uw_6_220 (rv_o hK hP) rfl hl.1 rfl (Nat.le_of_ble_eq_true rfl) dX12_claim_13 ⟨Nat.le_of_ble_eq_true rfl, Nat.le_of_ble_eq_true rfl⟩ ⟨Nat.le_of_ble_eq_true rfl, Nat.le_of_ble_eq_true rfl⟩) (fun r_6 H locs hQ hS => ?_)
    obtain ⟨hr_6_0, hP⟩ := hQ
    refine g_v (rDt hD) hS hA (g_V (own := "HideReaderModel") (As := [.int (mI r_6)]) (rest := []) hx hb hml hown hts hK hP (rDt hD) (kr_X12_layNeed (l := l) (D := D) (k := k) (by omega) h_x_bank b_B_turns b_B_irons b_B_told b_B_burned b_B_need) ck_X12_layNeed iv_X12_layNeed uw_9_38 (rv_o hK hP) rfl hl.1 rfl (Nat.le_of_ble_eq_true rfl) dX12_claim_16 ⟨Nat.le_of_ble_eq_true rfl, Nat.le_of_ble_eq_true rfl⟩ ⟨Nat.le_of_ble_eq_true rfl, Nat.le_of_ble_eq_true rfl⟩) (fun H locs hQ hS => ?_)
    obtain ⟨F_8, bF_8, hP⟩ := hQ
    refine lv_iconst (v := mI 0) hx hb dX12_claim_19 rfl ?_
    refine lv_istore_n (lv' := [(2, .int (mI 0)), (0, .ref (a 0)), (1, .int (mI p0))]) hx hb dX12_claim_20 rfl hl (by decide) rfl (fun ls hl => ?_)
    refine lv_iconst (v := mI 0) hx hb dX12_claim_21 rfl ?_
    refine lv_istore_n (lv' := [(3, .int (mI 0)), (2, .int (mI 0)), (0, .ref (a 0)), (1, .int (mI p0))]) hx hb dX12_claim_22 rfl hl (by decide) rfl (fun ls hl => ?_)
    refine sy_loop (I := fun n H locs g => ∃ (z_261 : Int) (z_262 : Int) (ls : Array Slot), (0 ≤ z_261 ∧ z_261 ≤ 8) ∧ (0 ≤ z_262 ∧ z_262 ≤ 255) ∧ (8 - z_261).toNat = n ∧ va_P D vwCl (rW k a x_taped x_size x_faultKind x_faultPlace x_at x_end x_token x_number x_bank x_rb x_codes x_within x_piled x_unitsInRule x_askBeast x_askStroke x_askAge x_askSeason x_acts x_undone x_laid x_seens x_time x_fitting n_name B_tape B_text B_turns B_herds B_irons B_beasts B_units B_night B_draw B_told B_brands B_ironMarks B_herdTold B_born B_ruleFrom B_ruleTo B_code B_codeNumber B_eWhat B_eSign B_pile B_all B_burned B_was F_8 B_laidRow B_long8 B_brings B_sBurning B_sStroke B_sIs B_sTold B_sUntold B_parts B_boxAll B_isBoxed G_hName G_iName G_bName ex) H ∧ va_S A s.heap H locs ∧ lv_has ls 4 [(3, .int (mI z_261)), (2, .int (mI z_262)), (0, .ref (a 0)), (1, .int (mI p0))] ∧ g = F0 m 23 ls []) ?_ _ ⟨0, 0, _, by omega, by omega, rfl, hP, hS, lv_sub hl [0, 1, 2, 3] rfl, rfl⟩
    intro n_275 H locs g hI ih_276
    obtain ⟨z_261, z_262, ls, h23_0, h23_1, mn_275, hP, hS, hl, rfl⟩ := hI
    refine lv_iload_n hx hb dX12_claim_23 rfl (lv_at hl 0 rfl) ?_
    refine lv_aload_n hx hb dX12_claim_24 rfl (lv_at hl 2 rfl) ?_
    refine g_i (rDt hD) hS hA (g_V (own := "HideReaderModel") (As := []) (rest := [.int (mI z_261)]) hx hb hml hown hts hK hP (rDt hD) (kr_X12_cattle (l := l) (D := D) (k := k) h_x_bank b_B_beasts) ck_X12_cattle iv_X12_cattle uw_6_212 (rv_o hK hP) rfl hl.1 rfl (Nat.le_of_ble_eq_true rfl) dX12_claim_25 ⟨Nat.le_of_ble_eq_true rfl, Nat.le_of_ble_eq_true rfl⟩ ⟨Nat.le_of_ble_eq_true rfl, Nat.le_of_ble_eq_true rfl⟩) (fun r_277 H locs hQ hS => ?_)
    obtain ⟨hr_277_0, hP⟩ := hQ
    refine sy_icmp_ge (tgt := 71) hx hb dX12_claim_28 (by decide) (by omega) (by omega) (fun c_278 => ?_) (fun c_278 => ?_)
    · skip
      refine lv_iload_n hx hb dX12_claim_71 rfl (lv_at hl 1 rfl) ?_
      exact r_i hx hb hr hlocks dX12_claim_72 hS ⟨F_8, by omega, bF_8, hP⟩
    · skip
      refine lv_aload_n hx hb dX12_claim_31 rfl (lv_at hl 2 rfl) ?_
      refine rg_o_all hx hb hts hown hK hP uw_7_66 dX12_claim_32 ?_
      refine lv_bipush (v := mI 8) hx hb dX12_claim_35 (by decide) ?_
      refine lv_iload_n hx hb dX12_claim_37 rfl (lv_at hl 0 rfl) ?_
      refine sy_iadd hx hb dX12_claim_38 (z_261 + 8) (by omega) ?_
      refine rl_all hx hb hK hP dX12_claim_39 (by omega) (bA_bd b_B_all) (fun z_279 ez_279 hz_279 => ?_)
      have hz_279 := bA_own b_B_all (by omega) ez_279
      refine lv_iload_n hx hb dX12_claim_40 rfl (lv_at hl 3 rfl) ?_
      refine sy_icmp_eq (tgt := 65) hx hb dX12_claim_41 (by decide) (by omega) (by omega) (fun c_280 => ?_) (fun c_280 => ?_)
      · skip
        refine lv_iinc (v := mI (z_261 + 1)) (lv' := [(3, .int (mI (z_261 + 1))), (2, .int (mI z_262)), (0, .ref (a 0)), (1, .int (mI p0))]) hx hb dX12_claim_65 hl (k := 0) rfl (mI_ad rfl) (by decide) rfl (fun ls hl => ?_)
        refine lv_goto (tgt := 23) hx hb dX12_claim_68 (by decide) ?_
        exact ih_276 _ _ _ _ (by omega) ⟨(z_261 + 1), z_262, _, by omega, by omega, rfl, hP, hS, lv_sub hl [0, 1, 2, 3] rfl, rfl⟩
      · skip
        refine lv_aload_n hx hb dX12_claim_44 rfl (lv_at hl 2 rfl) ?_
        refine lv_aload_n hx hb dX12_claim_45 rfl (lv_at hl 2 rfl) ?_
        refine rg_o_all hx hb hts hown hK hP uw_7_66 dX12_claim_46 ?_
        refine lv_iconst (v := mI 0) hx hb dX12_claim_49 rfl ?_
        refine lv_iload_n hx hb dX12_claim_50 rfl (lv_at hl 0 rfl) ?_
        refine sy_iadd hx hb dX12_claim_51 z_261 (by omega) ?_
        refine rl_all hx hb hK hP dX12_claim_52 (by omega) (bA_bd b_B_all) (fun z_281 ez_281 hz_281 => ?_)
        refine g_i (rDt hD) hS hA (g_V (own := "HideReaderModel") (As := [.int (mI z_281)]) (rest := []) hx hb hml hown hts hK hP (rDt hD) (kr_X12_canMake (l := l) (D := D) (k := k) (by omega) bF_8) ck_X12_canMake iv_X12_canMake uw_9_42 (rv_o hK hP) rfl hl.1 rfl (Nat.le_of_ble_eq_true rfl) dX12_claim_53 ⟨Nat.le_of_ble_eq_true rfl, Nat.le_of_ble_eq_true rfl⟩ ⟨Nat.le_of_ble_eq_true rfl, Nat.le_of_ble_eq_true rfl⟩) (fun r_282 H locs hQ hS => ?_)
        obtain ⟨hq_r_282, hP⟩ := hQ
        rcases hq_r_282 with rfl | rfl
        · skip
          refine sy_if_eq (tgt := 65) hx hb dX12_claim_56 (by decide) (by decide) (fun c_285 => ?_) (fun c9 => absurd c9 (by decide))
          refine lv_iinc (v := mI (z_261 + 1)) (lv' := [(3, .int (mI (z_261 + 1))), (2, .int (mI z_262)), (0, .ref (a 0)), (1, .int (mI p0))]) hx hb dX12_claim_65 hl (k := 0) rfl (mI_ad rfl) (by decide) rfl (fun ls hl => ?_)
          refine lv_goto (tgt := 23) hx hb dX12_claim_68 (by decide) ?_
          exact ih_276 _ _ _ _ (by omega) ⟨(z_261 + 1), z_262, _, by omega, by omega, rfl, hP, hS, lv_sub hl [0, 1, 2, 3] rfl, rfl⟩
        · skip
          refine sy_if_eq (tgt := 65) hx hb dX12_claim_56 (by decide) (by decide) (fun c9 => absurd c9 (by decide)) (fun c_286 => ?_)
          refine lv_iload_n hx hb dX12_claim_59 rfl (lv_at hl 1 rfl) ?_
          refine lv_iconst (v := mI 1) hx hb dX12_claim_60 rfl ?_
          refine lv_iload_n hx hb dX12_claim_61 rfl (lv_at hl 0 rfl) ?_
          refine sy_shl1 hx hb dX12_claim_62 7 (by decide) 128 (by decide) (by omega) (fun z_287 ez_287 hz_287 => ?_)
          refine sy_ior hx hb dX12_claim_63 8 (by decide) 256 (by decide) (by omega) (by omega) (fun z_288 hz_288 => ?_)
          refine lv_istore_n (lv' := [(2, .int (mI z_288)), (3, .int (mI z_261)), (0, .ref (a 0)), (1, .int (mI p0))]) hx hb dX12_claim_64 rfl hl (by decide) rfl (fun ls hl => ?_)
          refine lv_iinc (v := mI (z_261 + 1)) (lv' := [(3, .int (mI (z_261 + 1))), (2, .int (mI z_288)), (0, .ref (a 0)), (1, .int (mI p0))]) hx hb dX12_claim_65 hl (k := 1) rfl (mI_ad rfl) (by decide) rfl (fun ls hl => ?_)
          refine lv_goto (tgt := 23) hx hb dX12_claim_68 (by decide) ?_
          exact ih_276 _ _ _ _ (by omega) ⟨(z_261 + 1), z_288, _, by omega, by omega, rfl, hP, hS, lv_sub hl [0, 1, 2, 3] rfl, rfl⟩
set_option maxHeartbeats 4000000 in
set_option maxRecDepth 100000 in
theorem kr_X12_safe (h_x_bank : 0 ≤ x_bank ∧ x_bank ≤ 1) (b_B_turns : bd (1) 4 B_turns) (b_B_herds : bd (0) 8 B_herds) (b_B_irons : bd (0) 6 B_irons) (b_B_told : bd (0) 31 B_told) (b_B_brands : bd (0) 4095 B_brands) (b_B_burned : bd (0) 4095 B_burned) (b_B_need : bd (0) 100 B_need) : MetG l D k yX12_safe cX12_safe 4 (some .int) 5 [.ref (a 0)] (rW k a x_taped x_size x_faultKind x_faultPlace x_at x_end x_token x_number x_bank x_rb x_codes x_within x_piled x_unitsInRule x_askBeast x_askStroke x_askAge x_askSeason x_acts x_undone x_laid x_seens x_time x_fitting n_name B_tape B_text B_turns B_herds B_irons B_beasts B_units B_night B_draw B_told B_brands B_ironMarks B_herdTold B_born B_ruleFrom B_ruleTo B_code B_codeNumber B_eWhat B_eSign B_pile B_all B_burned B_was B_need B_laidRow B_long8 B_brings B_sBurning B_sStroke B_sIs B_sTold B_sUntold B_parts B_boxAll B_isBoxed G_hName G_iName G_bName ex) (qGi (fun r0 H => ∃ (F_need : Nat → Int), (0 ≤ r0 ∧ r0 ≤ 255) ∧ (bd (0) 100 F_need) ∧ va_P D vwCl (rW k a x_taped x_size x_faultKind x_faultPlace x_at x_end x_token x_number x_bank x_rb x_codes x_within x_piled x_unitsInRule x_askBeast x_askStroke x_askAge x_askSeason x_acts x_undone x_laid x_seens x_time x_fitting n_name B_tape B_text B_turns B_herds B_irons B_beasts B_units B_night B_draw B_told B_brands B_ironMarks B_herdTold B_born B_ruleFrom B_ruleTo B_code B_codeNumber B_eWhat B_eSign B_pile B_all B_burned B_was F_need B_laidRow B_long8 B_brings B_sBurning B_sStroke B_sIs B_sTold B_sUntold B_parts B_boxAll B_isBoxed G_hName G_iName G_bName ex) H)) := by
  refine metG_of 0 ck_X12_safe (Nat.le_of_ble_eq_true rfl) rMap (fun p e s m args below meth c A hx hb hml hr hlocks hown hts hK hD hA hP hS ls hl => ?_)
  have hown : s.vm.findClass "HideReaderModel" = some m.cls := hown
  have hl : lv_has ls 4 [(0, .ref (a 0))] := hl
  refine lv_iconst (v := mI 1) hx hb dX12_safe_0 rfl ?_
  refine lv_aload_n hx hb dX12_safe_1 rfl (lv_at hl 0 rfl) ?_
  refine g_i (rDt hD) hS hA (g_V (own := "HideReaderModel") (As := []) (rest := [.int (mI 1)]) hx hb hml hown hts hK hP (rDt hD) (kr_X12_stocks (l := l) (D := D) (k := k) h_x_bank b_B_herds) ck_X12_stocks iv_X12_stocks uw_8_126 (rv_o hK hP) rfl hl.1 rfl (Nat.le_of_ble_eq_true rfl) dX12_safe_2 ⟨Nat.le_of_ble_eq_true rfl, Nat.le_of_ble_eq_true rfl⟩ ⟨Nat.le_of_ble_eq_true rfl, Nat.le_of_ble_eq_true rfl⟩) (fun r_1 H locs hQ hS => ?_)
  obtain ⟨hr_1_0, hP⟩ := hQ
  refine sy_shl1 hx hb dX12_safe_5 8 (by decide) 256 (by decide) (by omega) (fun z_2 ez_2 hz_2 => ?_)
  refine lv_iconst (v := mI 1) hx hb dX12_safe_6 rfl ?_
  refine sy_isub hx hb dX12_safe_7 (z_2 - 1) rfl ?_
  refine lv_istore_n (lv' := [(1, .int (mI (z_2 - 1))), (0, .ref (a 0))]) hx hb dX12_safe_8 rfl hl (by decide) rfl (fun ls hl => ?_)
  refine lv_iconst (v := mI 0) hx hb dX12_safe_9 rfl ?_
  refine lv_istore_n (lv' := [(2, .int (mI 0)), (1, .int (mI (z_2 - 1))), (0, .ref (a 0))]) hx hb dX12_safe_10 rfl hl (by decide) rfl (fun ls hl => ?_)
  refine sy_loop (I := fun n H locs g => ∃ (z_1011 : Int) (z_1012 : Int) (F_1013 : Nat → Int) (ls : Array Slot), (0 ≤ z_1011 ∧ z_1011 ≤ 8) ∧ (0 ≤ z_1012 ∧ z_1012 ≤ 255) ∧ (bd (0) 100 F_1013) ∧ (z_1012 ≤ z_2 - 1) ∧ (8 - z_1011).toNat = n ∧ va_P D vwCl (rW k a x_taped x_size x_faultKind x_faultPlace x_at x_end x_token x_number x_bank x_rb x_codes x_within x_piled x_unitsInRule x_askBeast x_askStroke x_askAge x_askSeason x_acts x_undone x_laid x_seens x_time x_fitting n_name B_tape B_text B_turns B_herds B_irons B_beasts B_units B_night B_draw B_told B_brands B_ironMarks B_herdTold B_born B_ruleFrom B_ruleTo B_code B_codeNumber B_eWhat B_eSign B_pile B_all B_burned B_was F_1013 B_laidRow B_long8 B_brings B_sBurning B_sStroke B_sIs B_sTold B_sUntold B_parts B_boxAll B_isBoxed G_hName G_iName G_bName ex) H ∧ va_S A s.heap H locs ∧ lv_has ls 4 [(2, .int (mI z_1011)), (1, .int (mI z_1012)), (0, .ref (a 0))] ∧ g = F0 m 11 ls []) ?_ _ ⟨0, (z_2 - 1), B_need, _, by omega, by omega, b_B_need, by omega, rfl, hP, hS, lv_sub hl [0, 1, 2] rfl, rfl⟩
  intro n_1179 H locs g hI ih_1180
  obtain ⟨z_1011, z_1012, F_1013, ls, h11_0, h11_1, bF_1013, h11_3, mn_1179, hP, hS, hl, rfl⟩ := hI
  refine lv_iload_n hx hb dX12_safe_11 rfl (lv_at hl 0 rfl) ?_
  refine lv_aload_n hx hb dX12_safe_12 rfl (lv_at hl 2 rfl) ?_
  refine g_i (rDt hD) hS hA (g_V (own := "HideReaderModel") (As := []) (rest := [.int (mI z_1011)]) hx hb hml hown hts hK hP (rDt hD) (kr_X12_stocks (l := l) (D := D) (k := k) h_x_bank b_B_herds) ck_X12_stocks iv_X12_stocks uw_8_126 (rv_o hK hP) rfl hl.1 rfl (Nat.le_of_ble_eq_true rfl) dX12_safe_13 ⟨Nat.le_of_ble_eq_true rfl, Nat.le_of_ble_eq_true rfl⟩ ⟨Nat.le_of_ble_eq_true rfl, Nat.le_of_ble_eq_true rfl⟩) (fun r_1181 H locs hQ hS => ?_)
  obtain ⟨hr_1181_0, hP⟩ := hQ
  refine sy_icmp_ge (tgt := 87) hx hb dX12_safe_16 (by decide) (by omega) (by omega) (fun c_1182 => ?_) (fun c_1182 => ?_)
  · skip
    refine lv_iload_n hx hb dX12_safe_87 rfl (lv_at hl 1 rfl) ?_
    exact r_i hx hb hr hlocks dX12_safe_88 hS ⟨F_1013, by omega, bF_1013, hP⟩
  · skip
    refine lv_aload_n hx hb dX12_safe_19 rfl (lv_at hl 2 rfl) ?_
    refine lv_aload_n hx hb dX12_safe_20 rfl (lv_at hl 2 rfl) ?_
    refine lv_iload_n hx hb dX12_safe_21 rfl (lv_at hl 0 rfl) ?_
    refine g_i (rDt hD) hS hA (g_V (own := "HideReaderModel") (As := [.int (mI z_1011)]) (rest := [.ref (a 0)]) hx hb hml hown hts hK hP (rDt hD) (kr_X12_brandOf (l := l) (D := D) (k := k) (by omega) h_x_bank b_B_brands) ck_X12_brandOf iv_X12_brandOf uw_6_220 (rv_o hK hP) rfl hl.1 rfl (Nat.le_of_ble_eq_true rfl) dX12_safe_22 ⟨Nat.le_of_ble_eq_true rfl, Nat.le_of_ble_eq_true rfl⟩ ⟨Nat.le_of_ble_eq_true rfl, Nat.le_of_ble_eq_true rfl⟩) (fun r_1183 H locs hQ hS => ?_)
    obtain ⟨hr_1183_0, hP⟩ := hQ
    refine g_v (rDt hD) hS hA (g_V (own := "HideReaderModel") (As := [.int (mI r_1183)]) (rest := []) hx hb hml hown hts hK hP (rDt hD) (kr_X12_layNeed (l := l) (D := D) (k := k) (by omega) h_x_bank b_B_turns b_B_irons b_B_told b_B_burned bF_1013) ck_X12_layNeed iv_X12_layNeed uw_9_38 (rv_o hK hP) rfl hl.1 rfl (Nat.le_of_ble_eq_true rfl) dX12_safe_25 ⟨Nat.le_of_ble_eq_true rfl, Nat.le_of_ble_eq_true rfl⟩ ⟨Nat.le_of_ble_eq_true rfl, Nat.le_of_ble_eq_true rfl⟩) (fun H locs hQ hS => ?_)
    obtain ⟨F_1185, bF_1185, hP⟩ := hQ
    refine lv_iconst (v := mI 0) hx hb dX12_safe_28 rfl ?_
    refine lv_istore_n (lv' := [(3, .int (mI 0)), (2, .int (mI z_1011)), (1, .int (mI z_1012)), (0, .ref (a 0))]) hx hb dX12_safe_29 rfl hl (by decide) rfl (fun ls hl => ?_)
    refine sy_loop (I := fun n H locs g => ∃ (z_1306 : Int) (z_1307 : Int) (ls : Array Slot), (0 ≤ z_1306 ∧ z_1306 ≤ 8) ∧ (0 ≤ z_1307 ∧ z_1307 ≤ 255) ∧ (z_1307 ≤ z_1012) ∧ (8 - z_1306).toNat = n ∧ va_P D vwCl (rW k a x_taped x_size x_faultKind x_faultPlace x_at x_end x_token x_number x_bank x_rb x_codes x_within x_piled x_unitsInRule x_askBeast x_askStroke x_askAge x_askSeason x_acts x_undone x_laid x_seens x_time x_fitting n_name B_tape B_text B_turns B_herds B_irons B_beasts B_units B_night B_draw B_told B_brands B_ironMarks B_herdTold B_born B_ruleFrom B_ruleTo B_code B_codeNumber B_eWhat B_eSign B_pile B_all B_burned B_was F_1185 B_laidRow B_long8 B_brings B_sBurning B_sStroke B_sIs B_sTold B_sUntold B_parts B_boxAll B_isBoxed G_hName G_iName G_bName ex) H ∧ va_S A s.heap H locs ∧ lv_has ls 4 [(3, .int (mI z_1306)), (2, .int (mI z_1011)), (1, .int (mI z_1307)), (0, .ref (a 0))] ∧ g = F0 m 30 ls []) ?_ _ ⟨0, z_1012, _, by omega, by omega, by omega, rfl, hP, hS, lv_sub hl [0, 1, 2, 3] rfl, rfl⟩
    intro n_1326 H locs g hI ih_1327
    obtain ⟨z_1306, z_1307, ls, h30_0, h30_1, h30_2, mn_1326, hP, hS, hl, rfl⟩ := hI
    refine lv_iload_n hx hb dX12_safe_30 rfl (lv_at hl 0 rfl) ?_
    refine lv_aload_n hx hb dX12_safe_31 rfl (lv_at hl 3 rfl) ?_
    refine g_i (rDt hD) hS hA (g_V (own := "HideReaderModel") (As := []) (rest := [.int (mI z_1306)]) hx hb hml hown hts hK hP (rDt hD) (kr_X12_stocks (l := l) (D := D) (k := k) h_x_bank b_B_herds) ck_X12_stocks iv_X12_stocks uw_8_126 (rv_o hK hP) rfl hl.1 rfl (Nat.le_of_ble_eq_true rfl) dX12_safe_32 ⟨Nat.le_of_ble_eq_true rfl, Nat.le_of_ble_eq_true rfl⟩ ⟨Nat.le_of_ble_eq_true rfl, Nat.le_of_ble_eq_true rfl⟩) (fun r_1328 H locs hQ hS => ?_)
    obtain ⟨hr_1328_0, hP⟩ := hQ
    refine sy_icmp_ge (tgt := 81) hx hb dX12_safe_35 (by decide) (by omega) (by omega) (fun c_1329 => ?_) (fun c_1329 => ?_)
    · skip
      refine lv_iinc (v := mI (z_1011 + 1)) (lv' := [(2, .int (mI (z_1011 + 1))), (3, .int (mI z_1306)), (1, .int (mI z_1307)), (0, .ref (a 0))]) hx hb dX12_safe_81 hl (k := 1) rfl (mI_ad rfl) (by decide) rfl (fun ls hl => ?_)
      refine lv_goto (tgt := 11) hx hb dX12_safe_84 (by decide) ?_
      exact ih_1180 _ _ _ _ (by omega) ⟨(z_1011 + 1), z_1307, F_1185, _, by omega, by omega, bF_1185, by omega, rfl, hP, hS, lv_sub hl [0, 2, 3] rfl, rfl⟩
    · skip
      refine lv_aload_n hx hb dX12_safe_38 rfl (lv_at hl 3 rfl) ?_
      refine lv_aload_n hx hb dX12_safe_39 rfl (lv_at hl 3 rfl) ?_
      refine lv_iload_n hx hb dX12_safe_40 rfl (lv_at hl 0 rfl) ?_
      refine g_i (rDt hD) hS hA (g_V (own := "HideReaderModel") (As := [.int (mI z_1306)]) (rest := [.ref (a 0)]) hx hb hml hown hts hK hP (rDt hD) (kr_X12_brandOf (l := l) (D := D) (k := k) (by omega) h_x_bank b_B_brands) ck_X12_brandOf iv_X12_brandOf uw_6_220 (rv_o hK hP) rfl hl.1 rfl (Nat.le_of_ble_eq_true rfl) dX12_safe_41 ⟨Nat.le_of_ble_eq_true rfl, Nat.le_of_ble_eq_true rfl⟩ ⟨Nat.le_of_ble_eq_true rfl, Nat.le_of_ble_eq_true rfl⟩) (fun r_1330 H locs hQ hS => ?_)
      obtain ⟨hr_1330_0, hP⟩ := hQ
      refine lv_aload_n hx hb dX12_safe_44 rfl (lv_at hl 3 rfl) ?_
      refine lv_iload_n hx hb dX12_safe_45 rfl (lv_at hl 1 rfl) ?_
      refine g_i (rDt hD) hS hA (g_V (own := "HideReaderModel") (As := [.int (mI z_1011)]) (rest := [.int (mI r_1330), .ref (a 0)]) hx hb hml hown hts hK hP (rDt hD) (kr_X12_brandOf (l := l) (D := D) (k := k) (by omega) h_x_bank b_B_brands) ck_X12_brandOf iv_X12_brandOf uw_6_220 (rv_o hK hP) rfl hl.1 rfl (Nat.le_of_ble_eq_true rfl) dX12_safe_46 ⟨Nat.le_of_ble_eq_true rfl, Nat.le_of_ble_eq_true rfl⟩ ⟨Nat.le_of_ble_eq_true rfl, Nat.le_of_ble_eq_true rfl⟩) (fun r_1331 H locs hQ hS => ?_)
      obtain ⟨hr_1331_0, hP⟩ := hQ
      refine g_i (rDt hD) hS hA (g_V (own := "HideReaderModel") (As := [.int (mI r_1330), .int (mI r_1331)]) (rest := []) hx hb hml hown hts hK hP (rDt hD) (kr_X12_areOne (l := l) (D := D) (k := k) (by omega) (by omega) h_x_bank b_B_turns b_B_told) ck_X12_areOne iv_X12_areOne uw_8_210 (rv_o hK hP) rfl hl.1 rfl (Nat.le_of_ble_eq_true rfl) dX12_safe_49 ⟨Nat.le_of_ble_eq_true rfl, Nat.le_of_ble_eq_true rfl⟩ ⟨Nat.le_of_ble_eq_true rfl, Nat.le_of_ble_eq_true rfl⟩) (fun r_1332 H locs hQ hS => ?_)
      obtain ⟨hq_r_1332, hP⟩ := hQ
      rcases hq_r_1332 with rfl | rfl
      · skip
        refine sy_if_ne (tgt := 75) hx hb dX12_safe_52 (by decide) (by decide) (fun c9 => absurd c9 (by decide)) (fun c_1335 => ?_)
        refine lv_aload_n hx hb dX12_safe_55 rfl (lv_at hl 3 rfl) ?_
        refine lv_aload_n hx hb dX12_safe_56 rfl (lv_at hl 3 rfl) ?_
        refine lv_iload_n hx hb dX12_safe_57 rfl (lv_at hl 0 rfl) ?_
        refine g_i (rDt hD) hS hA (g_V (own := "HideReaderModel") (As := [.int (mI z_1306)]) (rest := [.ref (a 0)]) hx hb hml hown hts hK hP (rDt hD) (kr_X12_brandOf (l := l) (D := D) (k := k) (by omega) h_x_bank b_B_brands) ck_X12_brandOf iv_X12_brandOf uw_6_220 (rv_o hK hP) rfl hl.1 rfl (Nat.le_of_ble_eq_true rfl) dX12_safe_58 ⟨Nat.le_of_ble_eq_true rfl, Nat.le_of_ble_eq_true rfl⟩ ⟨Nat.le_of_ble_eq_true rfl, Nat.le_of_ble_eq_true rfl⟩) (fun r_1336 H locs hQ hS => ?_)
        obtain ⟨hr_1336_0, hP⟩ := hQ
        refine g_i (rDt hD) hS hA (g_V (own := "HideReaderModel") (As := [.int (mI r_1336)]) (rest := []) hx hb hml hown hts hK hP (rDt hD) (kr_X12_canMake (l := l) (D := D) (k := k) (by omega) bF_1185) ck_X12_canMake iv_X12_canMake uw_9_42 (rv_o hK hP) rfl hl.1 rfl (Nat.le_of_ble_eq_true rfl) dX12_safe_61 ⟨Nat.le_of_ble_eq_true rfl, Nat.le_of_ble_eq_true rfl⟩ ⟨Nat.le_of_ble_eq_true rfl, Nat.le_of_ble_eq_true rfl⟩) (fun r_1337 H locs hQ hS => ?_)
        obtain ⟨hq_r_1337, hP⟩ := hQ
        rcases hq_r_1337 with rfl | rfl
        · skip
          refine sy_if_eq (tgt := 75) hx hb dX12_safe_64 (by decide) (by decide) (fun c_1340 => ?_) (fun c9 => absurd c9 (by decide))
          refine lv_iinc (v := mI (z_1306 + 1)) (lv' := [(3, .int (mI (z_1306 + 1))), (2, .int (mI z_1011)), (1, .int (mI z_1307)), (0, .ref (a 0))]) hx hb dX12_safe_75 hl (k := 0) rfl (mI_ad rfl) (by decide) rfl (fun ls hl => ?_)
          refine lv_goto (tgt := 30) hx hb dX12_safe_78 (by decide) ?_
          exact ih_1327 _ _ _ _ (by omega) ⟨(z_1306 + 1), z_1307, _, by omega, by omega, by omega, rfl, hP, hS, lv_sub hl [0, 1, 2, 3] rfl, rfl⟩
        · skip
          refine sy_if_eq (tgt := 75) hx hb dX12_safe_64 (by decide) (by decide) (fun c9 => absurd c9 (by decide)) (fun c_1341 => ?_)
          refine lv_iload_n hx hb dX12_safe_67 rfl (lv_at hl 2 rfl) ?_
          refine lv_iconst (v := mI 1) hx hb dX12_safe_68 rfl ?_
          refine lv_iload_n hx hb dX12_safe_69 rfl (lv_at hl 0 rfl) ?_
          refine sy_shl1 hx hb dX12_safe_70 7 (by decide) 128 (by decide) (by omega) (fun z_1342 ez_1342 hz_1342 => ?_)
          refine lv_iconst (v := mI (-1)) hx hb dX12_safe_71 rfl ?_
          refine lv_ixor hx hb dX12_safe_72 ?_
          refine sy_any (fun z_1343 hz_1343 => ?_)
          refine sy_iandL hx hb dX12_safe_73 (by omega) (fun z_1344 hz_1344 => ?_)
          refine lv_istore_n (lv' := [(1, .int (mI z_1344)), (3, .int (mI z_1306)), (2, .int (mI z_1011)), (0, .ref (a 0))]) hx hb dX12_safe_74 rfl hl (by decide) rfl (fun ls hl => ?_)
          refine lv_iinc (v := mI (z_1306 + 1)) (lv' := [(3, .int (mI (z_1306 + 1))), (1, .int (mI z_1344)), (2, .int (mI z_1011)), (0, .ref (a 0))]) hx hb dX12_safe_75 hl (k := 1) rfl (mI_ad rfl) (by decide) rfl (fun ls hl => ?_)
          refine lv_goto (tgt := 30) hx hb dX12_safe_78 (by decide) ?_
          exact ih_1327 _ _ _ _ (by omega) ⟨(z_1306 + 1), z_1344, _, by omega, by omega, by omega, rfl, hP, hS, lv_sub hl [0, 2, 1, 3] rfl, rfl⟩
      · skip
        refine sy_if_ne (tgt := 75) hx hb dX12_safe_52 (by decide) (by decide) (fun c_1345 => ?_) (fun c9 => absurd c9 (by decide))
        refine lv_iinc (v := mI (z_1306 + 1)) (lv' := [(3, .int (mI (z_1306 + 1))), (2, .int (mI z_1011)), (1, .int (mI z_1307)), (0, .ref (a 0))]) hx hb dX12_safe_75 hl (k := 0) rfl (mI_ad rfl) (by decide) rfl (fun ls hl => ?_)
        refine lv_goto (tgt := 30) hx hb dX12_safe_78 (by decide) ?_
        exact ih_1327 _ _ _ _ (by omega) ⟨(z_1306 + 1), z_1307, _, by omega, by omega, by omega, rfl, hP, hS, lv_sub hl [0, 1, 2, 3] rfl, rfl⟩
set_option maxHeartbeats 4000000 in
set_option maxRecDepth 100000 in
theorem kr_X12_king {p0 : Int} (hp0 : -2147483648 ≤ p0 ∧ p0 ≤ 2147483647) (h_x_bank : 0 ≤ x_bank ∧ x_bank ≤ 1) (b_B_turns : bd (1) 4 B_turns) (b_B_herds : bd (0) 8 B_herds) (b_B_irons : bd (0) 6 B_irons) (b_B_told : bd (0) 31 B_told) (b_B_brands : bd (0) 4095 B_brands) (b_B_burned : bd (0) 4095 B_burned) (b_B_need : bd (0) 100 B_need) : MetG l D k yX12_king cX12_king 7 (some .int) 5 [.ref (a 0), .int (mI p0)] (rW k a x_taped x_size x_faultKind x_faultPlace x_at x_end x_token x_number x_bank x_rb x_codes x_within x_piled x_unitsInRule x_askBeast x_askStroke x_askAge x_askSeason x_acts x_undone x_laid x_seens x_time x_fitting n_name B_tape B_text B_turns B_herds B_irons B_beasts B_units B_night B_draw B_told B_brands B_ironMarks B_herdTold B_born B_ruleFrom B_ruleTo B_code B_codeNumber B_eWhat B_eSign B_pile B_all B_burned B_was B_need B_laidRow B_long8 B_brings B_sBurning B_sStroke B_sIs B_sTold B_sUntold B_parts B_boxAll B_isBoxed G_hName G_iName G_bName ex) (qGi (fun r0 H => ∃ (F_need : Nat → Int), (-1 ≤ r0 ∧ r0 ≤ 2147483647) ∧ (bd (0) 100 F_need) ∧ va_P D vwCl (rW k a x_taped x_size x_faultKind x_faultPlace x_at x_end x_token x_number x_bank x_rb x_codes x_within x_piled x_unitsInRule x_askBeast x_askStroke x_askAge x_askSeason x_acts x_undone x_laid x_seens x_time x_fitting n_name B_tape B_text B_turns B_herds B_irons B_beasts B_units B_night B_draw B_told B_brands B_ironMarks B_herdTold B_born B_ruleFrom B_ruleTo B_code B_codeNumber B_eWhat B_eSign B_pile B_all B_burned B_was F_need B_laidRow B_long8 B_brings B_sBurning B_sStroke B_sIs B_sTold B_sUntold B_parts B_boxAll B_isBoxed G_hName G_iName G_bName ex) H)) := by
  refine metG_of 1 ck_X12_king (Nat.le_of_ble_eq_true rfl) rMap (fun p e s m args below meth c A hx hb hml hr hlocks hown hts hK hD hA hP hS ls hl => ?_)
  have hown : s.vm.findClass "HideReaderModel" = some m.cls := hown
  have hl : lv_has ls 7 [(0, .ref (a 0)), (1, .int (mI p0))] := hl
  refine lv_iload_n hx hb dX12_king_0 rfl (lv_at hl 1 rfl) ?_
  refine lv_iconst (v := mI 0) hx hb dX12_king_1 rfl ?_
  refine lv_iconst (v := mI 1) hx hb dX12_king_2 rfl ?_
  refine g_i (rDt hD) hS hA (g_S (own := "HideReaderModel") (As := [.int (mI p0), .int (mI 0), .int (mI 1)]) (rest := []) hx hb hml hown hts hK hP (rDt hD) (kr_X12_isIn (l := l) (D := D) (k := k) (by omega) (by decide) (by decide)) ck_X12_isIn uw_8_131 uw_8_130 rfl hl.1 rfl (Nat.le_of_ble_eq_true rfl) dX12_king_3 ⟨Nat.le_of_ble_eq_true rfl, Nat.le_of_ble_eq_true rfl⟩ ⟨Nat.le_of_ble_eq_true rfl, Nat.le_of_ble_eq_true rfl⟩) (fun r_1 H locs hQ hS => ?_)
  obtain ⟨hq_r_1, hP⟩ := hQ
  rcases hq_r_1 with rfl | ⟨rfl, c_3_0, c_3_1⟩
  · skip
    refine sy_if_ne (tgt := 11) hx hb dX12_king_6 (by decide) (by decide) (fun c9 => absurd c9 (by decide)) (fun c_4 => ?_)
    refine lv_iconst (v := mI (-1)) hx hb dX12_king_9 rfl ?_
    exact r_i hx hb hr hlocks dX12_king_10 hS ⟨B_need, by omega, b_B_need, hP⟩
  · skip
    refine sy_if_ne (tgt := 11) hx hb dX12_king_6 (by decide) (by decide) (fun c_5 => ?_) (fun c9 => absurd c9 (by decide))
    refine lv_iconst (v := mI (-1)) hx hb dX12_king_11 rfl ?_
    refine lv_istore_n (lv' := [(2, .int (mI (-1))), (0, .ref (a 0)), (1, .int (mI p0))]) hx hb dX12_king_12 rfl hl (by decide) rfl (fun ls hl => ?_)
    refine lv_iconst (v := mI (-1)) hx hb dX12_king_13 rfl ?_
    refine lv_istore_n (lv' := [(3, .int (mI (-1))), (2, .int (mI (-1))), (0, .ref (a 0)), (1, .int (mI p0))]) hx hb dX12_king_14 rfl hl (by decide) rfl (fun ls hl => ?_)
    refine lv_iconst (v := mI 0) hx hb dX12_king_15 rfl ?_
    refine lv_istore (lv' := [(4, .int (mI 0)), (3, .int (mI (-1))), (2, .int (mI (-1))), (0, .ref (a 0)), (1, .int (mI p0))]) hx hb dX12_king_16 hl (by decide) rfl (fun ls hl => ?_)
    refine sy_loop (I := fun n H locs g => ∃ (z_33814 : Int) (z_33815 : Int) (z_33816 : Int) (F_33817 : Nat → Int) (ls : Array Slot), (0 ≤ z_33814 ∧ z_33814 ≤ 8) ∧ (-1 ≤ z_33815 ∧ z_33815 ≤ 2147483647) ∧ (-1 ≤ z_33816 ∧ z_33816 ≤ 7) ∧ (bd (0) 100 F_33817) ∧ (8 - z_33814).toNat = n ∧ va_P D vwCl (rW k a x_taped x_size x_faultKind x_faultPlace x_at x_end x_token x_number x_bank x_rb x_codes x_within x_piled x_unitsInRule x_askBeast x_askStroke x_askAge x_askSeason x_acts x_undone x_laid x_seens x_time x_fitting n_name B_tape B_text B_turns B_herds B_irons B_beasts B_units B_night B_draw B_told B_brands B_ironMarks B_herdTold B_born B_ruleFrom B_ruleTo B_code B_codeNumber B_eWhat B_eSign B_pile B_all B_burned B_was F_33817 B_laidRow B_long8 B_brings B_sBurning B_sStroke B_sIs B_sTold B_sUntold B_parts B_boxAll B_isBoxed G_hName G_iName G_bName ex) H ∧ va_S A s.heap H locs ∧ lv_has ls 7 [(4, .int (mI z_33814)), (3, .int (mI z_33815)), (2, .int (mI z_33816)), (0, .ref (a 0)), (1, .int (mI p0))] ∧ g = F0 m 18 ls []) ?_ _ ⟨0, (-1), (-1), B_need, _, by omega, by omega, by omega, b_B_need, rfl, hP, hS, lv_sub hl [0, 1, 2, 3, 4] rfl, rfl⟩
    intro n_35100 H locs g hI ih_35101
    obtain ⟨z_33814, z_33815, z_33816, F_33817, ls, h18_0, h18_1, h18_2, bF_33817, mn_35100, hP, hS, hl, rfl⟩ := hI
    refine lv_iload hx hb dX12_king_18 (lv_at hl 0 rfl) ?_
    refine lv_aload_n hx hb dX12_king_20 rfl (lv_at hl 3 rfl) ?_
    refine g_i (rDt hD) hS hA (g_V (own := "HideReaderModel") (As := []) (rest := [.int (mI z_33814)]) hx hb hml hown hts hK hP (rDt hD) (kr_X12_stocks (l := l) (D := D) (k := k) h_x_bank b_B_herds) ck_X12_stocks iv_X12_stocks uw_8_126 (rv_o hK hP) rfl hl.1 rfl (Nat.le_of_ble_eq_true rfl) dX12_king_21 ⟨Nat.le_of_ble_eq_true rfl, Nat.le_of_ble_eq_true rfl⟩ ⟨Nat.le_of_ble_eq_true rfl, Nat.le_of_ble_eq_true rfl⟩) (fun r_35102 H locs hQ hS => ?_)
    obtain ⟨hr_35102_0, hP⟩ := hQ
    refine sy_icmp_ge (tgt := 109) hx hb dX12_king_24 (by decide) (by omega) (by omega) (fun c_35743 => ?_) (fun c_35743 => ?_)
    · skip
      refine lv_iload_n hx hb dX12_king_109 rfl (lv_at hl 4 rfl) ?_
      refine sy_if_ne (tgt := 117) hx hb dX12_king_110 (by decide) (by omega) (fun c_35744 => ?_) (fun c_35744 => ?_)
      · skip
        refine lv_iload_n hx hb dX12_king_117 rfl (lv_at hl 1 rfl) ?_
        exact r_i hx hb hr hlocks dX12_king_118 hS ⟨F_33817, by omega, bF_33817, hP⟩
      · skip
        refine lv_iload_n hx hb dX12_king_113 rfl (lv_at hl 2 rfl) ?_
        refine lv_goto (tgt := 118) hx hb dX12_king_114 (by decide) ?_
        exact r_i hx hb hr hlocks dX12_king_118 hS ⟨F_33817, by omega, bF_33817, hP⟩
    · skip
      refine lv_aload_n hx hb dX12_king_27 rfl (lv_at hl 3 rfl) ?_
      refine lv_aload_n hx hb dX12_king_28 rfl (lv_at hl 3 rfl) ?_
      refine lv_iload hx hb dX12_king_29 (lv_at hl 0 rfl) ?_
      refine g_i (rDt hD) hS hA (g_V (own := "HideReaderModel") (As := [.int (mI z_33814)]) (rest := [.ref (a 0)]) hx hb hml hown hts hK hP (rDt hD) (kr_X12_brandOf (l := l) (D := D) (k := k) (by omega) h_x_bank b_B_brands) ck_X12_brandOf iv_X12_brandOf uw_6_220 (rv_o hK hP) rfl hl.1 rfl (Nat.le_of_ble_eq_true rfl) dX12_king_31 ⟨Nat.le_of_ble_eq_true rfl, Nat.le_of_ble_eq_true rfl⟩ ⟨Nat.le_of_ble_eq_true rfl, Nat.le_of_ble_eq_true rfl⟩) (fun r_35745 H locs hQ hS => ?_)
      obtain ⟨hr_35745_0, hP⟩ := hQ
      refine g_v (rDt hD) hS hA (g_V (own := "HideReaderModel") (As := [.int (mI r_35745)]) (rest := []) hx hb hml hown hts hK hP (rDt hD) (kr_X12_layNeed (l := l) (D := D) (k := k) (by omega) h_x_bank b_B_turns b_B_irons b_B_told b_B_burned bF_33817) ck_X12_layNeed iv_X12_layNeed uw_9_38 (rv_o hK hP) rfl hl.1 rfl (Nat.le_of_ble_eq_true rfl) dX12_king_34 ⟨Nat.le_of_ble_eq_true rfl, Nat.le_of_ble_eq_true rfl⟩ ⟨Nat.le_of_ble_eq_true rfl, Nat.le_of_ble_eq_true rfl⟩) (fun H locs hQ hS => ?_)
      obtain ⟨F_35747, bF_35747, hP⟩ := hQ
      refine lv_iconst (v := mI 0) hx hb dX12_king_37 rfl ?_
      refine lv_istore (lv' := [(5, .int (mI 0)), (4, .int (mI z_33814)), (3, .int (mI z_33815)), (2, .int (mI z_33816)), (0, .ref (a 0)), (1, .int (mI p0))]) hx hb dX12_king_38 hl (by decide) rfl (fun ls hl => ?_)
      refine lv_iconst (v := mI 0) hx hb dX12_king_40 rfl ?_
      refine lv_istore (lv' := [(6, .int (mI 0)), (5, .int (mI 0)), (4, .int (mI z_33814)), (3, .int (mI z_33815)), (2, .int (mI z_33816)), (0, .ref (a 0)), (1, .int (mI p0))]) hx hb dX12_king_41 hl (by decide) rfl (fun ls hl => ?_)
      refine sy_loop (I := fun n H locs g => ∃ (z_36340 : Int) (z_36341 : Int) (ls : Array Slot), (0 ≤ z_36340 ∧ z_36340 ≤ 8) ∧ (-2147483648 ≤ z_36341 ∧ z_36341 ≤ 2147483647) ∧ (8 - z_36340).toNat = n ∧ va_P D vwCl (rW k a x_taped x_size x_faultKind x_faultPlace x_at x_end x_token x_number x_bank x_rb x_codes x_within x_piled x_unitsInRule x_askBeast x_askStroke x_askAge x_askSeason x_acts x_undone x_laid x_seens x_time x_fitting n_name B_tape B_text B_turns B_herds B_irons B_beasts B_units B_night B_draw B_told B_brands B_ironMarks B_herdTold B_born B_ruleFrom B_ruleTo B_code B_codeNumber B_eWhat B_eSign B_pile B_all B_burned B_was F_35747 B_laidRow B_long8 B_brings B_sBurning B_sStroke B_sIs B_sTold B_sUntold B_parts B_boxAll B_isBoxed G_hName G_iName G_bName ex) H ∧ va_S A s.heap H locs ∧ lv_has ls 7 [(6, .int (mI z_36340)), (5, .int (mI z_36341)), (4, .int (mI z_33814)), (3, .int (mI z_33815)), (2, .int (mI z_33816)), (0, .ref (a 0)), (1, .int (mI p0))] ∧ g = F0 m 43 ls []) ?_ _ ⟨0, 0, _, by omega, by omega, rfl, hP, hS, lv_sub hl [0, 1, 2, 3, 4, 5, 6] rfl, rfl⟩
      intro n_36362 H locs g hI ih_36363
      obtain ⟨z_36340, z_36341, ls, h43_0, h43_1, mn_36362, hP, hS, hl, rfl⟩ := hI
      refine lv_iload hx hb dX12_king_43 (lv_at hl 0 rfl) ?_
      refine lv_aload_n hx hb dX12_king_45 rfl (lv_at hl 5 rfl) ?_
      refine g_i (rDt hD) hS hA (g_V (own := "HideReaderModel") (As := []) (rest := [.int (mI z_36340)]) hx hb hml hown hts hK hP (rDt hD) (kr_X12_stocks (l := l) (D := D) (k := k) h_x_bank b_B_herds) ck_X12_stocks iv_X12_stocks uw_8_126 (rv_o hK hP) rfl hl.1 rfl (Nat.le_of_ble_eq_true rfl) dX12_king_46 ⟨Nat.le_of_ble_eq_true rfl, Nat.le_of_ble_eq_true rfl⟩ ⟨Nat.le_of_ble_eq_true rfl, Nat.le_of_ble_eq_true rfl⟩) (fun r_36364 H locs hQ hS => ?_)
      obtain ⟨hr_36364_0, hP⟩ := hQ
      refine sy_icmp_ge (tgt := 88) hx hb dX12_king_49 (by decide) (by omega) (by omega) (fun c_36374 => ?_) (fun c_36374 => ?_)
      · skip
        refine lv_iload hx hb dX12_king_88 (lv_at hl 1 rfl) ?_
        refine lv_iload_n hx hb dX12_king_90 rfl (lv_at hl 3 rfl) ?_
        refine sy_icmp_gt (tgt := 97) hx hb dX12_king_91 (by decide) (by omega) (by omega) (fun c_36375 => ?_) (fun c_36375 => ?_)
        · skip
          refine lv_iload hx hb dX12_king_97 (lv_at hl 2 rfl) ?_
          refine lv_istore_n (lv' := [(2, .int (mI z_33814)), (6, .int (mI z_36340)), (5, .int (mI z_36341)), (4, .int (mI z_33814)), (3, .int (mI z_33815)), (0, .ref (a 0)), (1, .int (mI p0))]) hx hb dX12_king_99 rfl hl (by decide) rfl (fun ls hl => ?_)
          refine lv_iload hx hb dX12_king_100 (lv_at hl 2 rfl) ?_
          refine lv_istore_n (lv' := [(3, .int (mI z_36341)), (2, .int (mI z_33814)), (6, .int (mI z_36340)), (5, .int (mI z_36341)), (4, .int (mI z_33814)), (0, .ref (a 0)), (1, .int (mI p0))]) hx hb dX12_king_102 rfl hl (by decide) rfl (fun ls hl => ?_)
          refine lv_iinc (v := mI (z_33814 + 1)) (lv' := [(4, .int (mI (z_33814 + 1))), (3, .int (mI z_36341)), (2, .int (mI z_33814)), (6, .int (mI z_36340)), (5, .int (mI z_36341)), (0, .ref (a 0)), (1, .int (mI p0))]) hx hb dX12_king_103 hl (k := 4) rfl (mI_ad rfl) (by decide) rfl (fun ls hl => ?_)
          refine lv_goto (tgt := 18) hx hb dX12_king_106 (by decide) ?_
          exact ih_35101 _ _ _ _ (by omega) ⟨(z_33814 + 1), z_36341, z_33814, F_35747, _, by omega, by omega, by omega, bF_35747, rfl, hP, hS, lv_sub hl [0, 1, 2, 5, 6] rfl, rfl⟩
        · skip
          refine lv_goto (tgt := 103) hx hb dX12_king_94 (by decide) ?_
          refine lv_iinc (v := mI (z_33814 + 1)) (lv' := [(4, .int (mI (z_33814 + 1))), (6, .int (mI z_36340)), (5, .int (mI z_36341)), (3, .int (mI z_33815)), (2, .int (mI z_33816)), (0, .ref (a 0)), (1, .int (mI p0))]) hx hb dX12_king_103 hl (k := 2) rfl (mI_ad rfl) (by decide) rfl (fun ls hl => ?_)
          refine lv_goto (tgt := 18) hx hb dX12_king_106 (by decide) ?_
          exact ih_35101 _ _ _ _ (by omega) ⟨(z_33814 + 1), z_33815, z_33816, F_35747, _, by omega, by omega, by omega, bF_35747, rfl, hP, hS, lv_sub hl [0, 3, 4, 5, 6] rfl, rfl⟩
      · skip
        refine lv_iload hx hb dX12_king_52 (lv_at hl 1 rfl) ?_
        refine lv_iload hx hb dX12_king_54 (lv_at hl 0 rfl) ?_
        refine lv_iload hx hb dX12_king_56 (lv_at hl 2 rfl) ?_
        refine sy_icmp_eq (tgt := 78) hx hb dX12_king_58 (by decide) (by omega) (by omega) (fun c_36376 => ?_) (fun c_36376 => ?_)
        · skip
          refine lv_iconst (v := mI 0) hx hb dX12_king_78 rfl ?_
          refine sy_iadd hx hb dX12_king_79 z_36341 (by omega) ?_
          refine lv_istore (lv' := [(5, .int (mI z_36341)), (6, .int (mI z_36340)), (4, .int (mI z_33814)), (3, .int (mI z_33815)), (2, .int (mI z_33816)), (0, .ref (a 0)), (1, .int (mI p0))]) hx hb dX12_king_80 hl (by decide) rfl (fun ls hl => ?_)
          refine lv_iinc (v := mI (z_36340 + 1)) (lv' := [(6, .int (mI (z_36340 + 1))), (5, .int (mI z_36341)), (4, .int (mI z_33814)), (3, .int (mI z_33815)), (2, .int (mI z_33816)), (0, .ref (a 0)), (1, .int (mI p0))]) hx hb dX12_king_82 hl (k := 1) rfl (mI_ad rfl) (by decide) rfl (fun ls hl => ?_)
          refine lv_goto (tgt := 43) hx hb dX12_king_85 (by decide) ?_
          exact ih_36363 _ _ _ _ (by omega) ⟨(z_36340 + 1), z_36341, _, by omega, by omega, rfl, hP, hS, lv_sub hl [0, 1, 2, 3, 4, 5, 6] rfl, rfl⟩
        · skip
          refine lv_aload_n hx hb dX12_king_61 rfl (lv_at hl 5 rfl) ?_
          refine lv_aload_n hx hb dX12_king_62 rfl (lv_at hl 5 rfl) ?_
          refine lv_iload hx hb dX12_king_63 (lv_at hl 0 rfl) ?_
          refine g_i (rDt hD) hS hA (g_V (own := "HideReaderModel") (As := [.int (mI z_36340)]) (rest := [.ref (a 0), .int (mI z_36341)]) hx hb hml hown hts hK hP (rDt hD) (kr_X12_brandOf (l := l) (D := D) (k := k) (by omega) h_x_bank b_B_brands) ck_X12_brandOf iv_X12_brandOf uw_6_220 (rv_o hK hP) rfl hl.1 rfl (Nat.le_of_ble_eq_true rfl) dX12_king_65 ⟨Nat.le_of_ble_eq_true rfl, Nat.le_of_ble_eq_true rfl⟩ ⟨Nat.le_of_ble_eq_true rfl, Nat.le_of_ble_eq_true rfl⟩) (fun r_36377 H locs hQ hS => ?_)
          obtain ⟨hr_36377_0, hP⟩ := hQ
          refine g_i (rDt hD) hS hA (g_V (own := "HideReaderModel") (As := [.int (mI r_36377)]) (rest := [.int (mI z_36341)]) hx hb hml hown hts hK hP (rDt hD) (kr_X12_canMake (l := l) (D := D) (k := k) (by omega) bF_35747) ck_X12_canMake iv_X12_canMake uw_9_42 (rv_o hK hP) rfl hl.1 rfl (Nat.le_of_ble_eq_true rfl) dX12_king_68 ⟨Nat.le_of_ble_eq_true rfl, Nat.le_of_ble_eq_true rfl⟩ ⟨Nat.le_of_ble_eq_true rfl, Nat.le_of_ble_eq_true rfl⟩) (fun r_36378 H locs hQ hS => ?_)
          obtain ⟨hq_r_36378, hP⟩ := hQ
          rcases hq_r_36378 with rfl | rfl
          · skip
            refine sy_if_eq (tgt := 78) hx hb dX12_king_71 (by decide) (by decide) (fun c_36381 => ?_) (fun c9 => absurd c9 (by decide))
            refine lv_iconst (v := mI 0) hx hb dX12_king_78 rfl ?_
            refine sy_iadd hx hb dX12_king_79 z_36341 (by omega) ?_
            refine lv_istore (lv' := [(5, .int (mI z_36341)), (6, .int (mI z_36340)), (4, .int (mI z_33814)), (3, .int (mI z_33815)), (2, .int (mI z_33816)), (0, .ref (a 0)), (1, .int (mI p0))]) hx hb dX12_king_80 hl (by decide) rfl (fun ls hl => ?_)
            refine lv_iinc (v := mI (z_36340 + 1)) (lv' := [(6, .int (mI (z_36340 + 1))), (5, .int (mI z_36341)), (4, .int (mI z_33814)), (3, .int (mI z_33815)), (2, .int (mI z_33816)), (0, .ref (a 0)), (1, .int (mI p0))]) hx hb dX12_king_82 hl (k := 1) rfl (mI_ad rfl) (by decide) rfl (fun ls hl => ?_)
            refine lv_goto (tgt := 43) hx hb dX12_king_85 (by decide) ?_
            exact ih_36363 _ _ _ _ (by omega) ⟨(z_36340 + 1), z_36341, _, by omega, by omega, rfl, hP, hS, lv_sub hl [0, 1, 2, 3, 4, 5, 6] rfl, rfl⟩
          · skip
            refine sy_if_eq (tgt := 78) hx hb dX12_king_71 (by decide) (by decide) (fun c9 => absurd c9 (by decide)) (fun c_36382 => ?_)
            refine lv_iconst (v := mI 1) hx hb dX12_king_74 rfl ?_
            refine lv_goto (tgt := 79) hx hb dX12_king_75 (by decide) ?_
            refine sy_iadd hx hb dX12_king_79 (z_36341 + 1) rfl ?_
            refine sy_any (fun z_36383 hz_36383 => ?_)
            refine lv_istore (lv' := [(5, .int (mI z_36383)), (6, .int (mI z_36340)), (4, .int (mI z_33814)), (3, .int (mI z_33815)), (2, .int (mI z_33816)), (0, .ref (a 0)), (1, .int (mI p0))]) hx hb dX12_king_80 hl (by decide) rfl (fun ls hl => ?_)
            refine lv_iinc (v := mI (z_36340 + 1)) (lv' := [(6, .int (mI (z_36340 + 1))), (5, .int (mI z_36383)), (4, .int (mI z_33814)), (3, .int (mI z_33815)), (2, .int (mI z_33816)), (0, .ref (a 0)), (1, .int (mI p0))]) hx hb dX12_king_82 hl (k := 1) rfl (mI_ad rfl) (by decide) rfl (fun ls hl => ?_)
            refine lv_goto (tgt := 43) hx hb dX12_king_85 (by decide) ?_
            exact ih_36363 _ _ _ _ (by omega) ⟨(z_36340 + 1), z_36383, _, by omega, by omega, rfl, hP, hS, lv_sub hl [0, 1, 2, 3, 4, 5, 6] rfl, rfl⟩
set_option maxHeartbeats 4000000 in
set_option maxRecDepth 100000 in
theorem kr_X12_tempt {p0 p1 : Int} (hp0 : -2147483648 ≤ p0 ∧ p0 ≤ 2147483647) (hp1 : -2147483648 ≤ p1 ∧ p1 ≤ 2147483647) (h_x_bank : 0 ≤ x_bank ∧ x_bank ≤ 1) (b_B_turns : bd (1) 4 B_turns) (b_B_herds : bd (0) 8 B_herds) (b_B_irons : bd (0) 6 B_irons) (b_B_beasts : bd (0) 8 B_beasts) (b_B_told : bd (0) 31 B_told) (b_B_brands : bd (0) 4095 B_brands) (b_B_all : bA B_all) (b_B_burned : bd (0) 4095 B_burned) (b_B_need : bd (0) 100 B_need) : MetG l D k yX12_tempt cX12_tempt 7 (some .int) 5 [.ref (a 0), .int (mI p0), .int (mI p1)] (rW k a x_taped x_size x_faultKind x_faultPlace x_at x_end x_token x_number x_bank x_rb x_codes x_within x_piled x_unitsInRule x_askBeast x_askStroke x_askAge x_askSeason x_acts x_undone x_laid x_seens x_time x_fitting n_name B_tape B_text B_turns B_herds B_irons B_beasts B_units B_night B_draw B_told B_brands B_ironMarks B_herdTold B_born B_ruleFrom B_ruleTo B_code B_codeNumber B_eWhat B_eSign B_pile B_all B_burned B_was B_need B_laidRow B_long8 B_brings B_sBurning B_sStroke B_sIs B_sTold B_sUntold B_parts B_boxAll B_isBoxed G_hName G_iName G_bName ex) (qGi (fun r0 H => ∃ (F_need : Nat → Int), (-1 ≤ r0 ∧ r0 ≤ 100) ∧ (bd (0) 100 F_need) ∧ va_P D vwCl (rW k a x_taped x_size x_faultKind x_faultPlace x_at x_end x_token x_number x_bank x_rb x_codes x_within x_piled x_unitsInRule x_askBeast x_askStroke x_askAge x_askSeason x_acts x_undone x_laid x_seens x_time x_fitting n_name B_tape B_text B_turns B_herds B_irons B_beasts B_units B_night B_draw B_told B_brands B_ironMarks B_herdTold B_born B_ruleFrom B_ruleTo B_code B_codeNumber B_eWhat B_eSign B_pile B_all B_burned B_was F_need B_laidRow B_long8 B_brings B_sBurning B_sStroke B_sIs B_sTold B_sUntold B_parts B_boxAll B_isBoxed G_hName G_iName G_bName ex) H)) := by
  refine metG_of 2 ck_X12_tempt (Nat.le_of_ble_eq_true rfl) rMap (fun p e s m args below meth c A hx hb hml hr hlocks hown hts hK hD hA hP hS ls hl => ?_)
  have hown : s.vm.findClass "HideReaderModel" = some m.cls := hown
  have hl : lv_has ls 7 [(0, .ref (a 0)), (1, .int (mI p0)), (2, .int (mI p1))] := hl
  refine lv_aload_n hx hb dX12_tempt_0 rfl (lv_at hl 0 rfl) ?_
  refine lv_iload_n hx hb dX12_tempt_1 rfl (lv_at hl 1 rfl) ?_
  refine g_i (rDt hD) hS hA (g_V (own := "HideReaderModel") (As := [.int (mI p0)]) (rest := []) hx hb hml hown hts hK hP (rDt hD) (kr_X12_isBeast (l := l) (D := D) (k := k) (by omega) h_x_bank b_B_beasts) ck_X12_isBeast iv_X12_isBeast uw_8_145 (rv_o hK hP) rfl hl.1 rfl (Nat.le_of_ble_eq_true rfl) dX12_tempt_2 ⟨Nat.le_of_ble_eq_true rfl, Nat.le_of_ble_eq_true rfl⟩ ⟨Nat.le_of_ble_eq_true rfl, Nat.le_of_ble_eq_true rfl⟩) (fun r_1 H locs hQ hS => ?_)
  obtain ⟨hq_r_1, hP⟩ := hQ
  rcases hq_r_1 with rfl | ⟨rfl, c_3_0⟩
  · skip
    refine sy_if_eq (tgt := 17) hx hb dX12_tempt_5 (by decide) (by decide) (fun c_4 => ?_) (fun c9 => absurd c9 (by decide))
    refine lv_iconst (v := mI (-1)) hx hb dX12_tempt_17 rfl ?_
    exact r_i hx hb hr hlocks dX12_tempt_18 hS ⟨B_need, by omega, b_B_need, hP⟩
  · skip
    refine sy_if_eq (tgt := 17) hx hb dX12_tempt_5 (by decide) (by decide) (fun c9 => absurd c9 (by decide)) (fun c_5 => ?_)
    refine lv_iload_n hx hb dX12_tempt_8 rfl (lv_at hl 2 rfl) ?_
    refine lv_iconst (v := mI 0) hx hb dX12_tempt_9 rfl ?_
    refine lv_iconst (v := mI 1) hx hb dX12_tempt_10 rfl ?_
    refine g_i (rDt hD) hS hA (g_S (own := "HideReaderModel") (As := [.int (mI p1), .int (mI 0), .int (mI 1)]) (rest := []) hx hb hml hown hts hK hP (rDt hD) (kr_X12_isIn (l := l) (D := D) (k := k) (by omega) (by decide) (by decide)) ck_X12_isIn uw_8_131 uw_8_130 rfl hl.1 rfl (Nat.le_of_ble_eq_true rfl) dX12_tempt_11 ⟨Nat.le_of_ble_eq_true rfl, Nat.le_of_ble_eq_true rfl⟩ ⟨Nat.le_of_ble_eq_true rfl, Nat.le_of_ble_eq_true rfl⟩) (fun r_6 H locs hQ hS => ?_)
    obtain ⟨hq_r_6, hP⟩ := hQ
    rcases hq_r_6 with rfl | ⟨rfl, c_8_0, c_8_1⟩
    · skip
      refine sy_if_ne (tgt := 19) hx hb dX12_tempt_14 (by decide) (by decide) (fun c9 => absurd c9 (by decide)) (fun c_9 => ?_)
      refine lv_iconst (v := mI (-1)) hx hb dX12_tempt_17 rfl ?_
      exact r_i hx hb hr hlocks dX12_tempt_18 hS ⟨B_need, by omega, b_B_need, hP⟩
    · skip
      refine sy_if_ne (tgt := 19) hx hb dX12_tempt_14 (by decide) (by decide) (fun c_10 => ?_) (fun c9 => absurd c9 (by decide))
      refine lv_iconst (v := mI (-1)) hx hb dX12_tempt_19 rfl ?_
      refine lv_istore_n (lv' := [(3, .int (mI (-1))), (0, .ref (a 0)), (1, .int (mI p0)), (2, .int (mI p1))]) hx hb dX12_tempt_20 rfl hl (by decide) rfl (fun ls hl => ?_)
      refine lv_bipush (v := mI 100) hx hb dX12_tempt_21 (by decide) ?_
      refine lv_istore (lv' := [(4, .int (mI 100)), (3, .int (mI (-1))), (0, .ref (a 0)), (1, .int (mI p0)), (2, .int (mI p1))]) hx hb dX12_tempt_23 hl (by decide) rfl (fun ls hl => ?_)
      refine lv_iconst (v := mI 0) hx hb dX12_tempt_25 rfl ?_
      refine lv_istore (lv' := [(5, .int (mI 0)), (4, .int (mI 100)), (3, .int (mI (-1))), (0, .ref (a 0)), (1, .int (mI p0)), (2, .int (mI p1))]) hx hb dX12_tempt_26 hl (by decide) rfl (fun ls hl => ?_)
      refine sy_loop (I := fun n H locs g => ∃ (z_325 : Int) (z_326 : Int) (z_327 : Int) (F_328 : Nat → Int) (ls : Array Slot), (0 ≤ z_325 ∧ z_325 ≤ 8) ∧ (0 ≤ z_326 ∧ z_326 ≤ 100) ∧ (-1 ≤ z_327 ∧ z_327 ≤ 7) ∧ (bd (0) 100 F_328) ∧ (8 - z_325).toNat = n ∧ va_P D vwCl (rW k a x_taped x_size x_faultKind x_faultPlace x_at x_end x_token x_number x_bank x_rb x_codes x_within x_piled x_unitsInRule x_askBeast x_askStroke x_askAge x_askSeason x_acts x_undone x_laid x_seens x_time x_fitting n_name B_tape B_text B_turns B_herds B_irons B_beasts B_units B_night B_draw B_told B_brands B_ironMarks B_herdTold B_born B_ruleFrom B_ruleTo B_code B_codeNumber B_eWhat B_eSign B_pile B_all B_burned B_was F_328 B_laidRow B_long8 B_brings B_sBurning B_sStroke B_sIs B_sTold B_sUntold B_parts B_boxAll B_isBoxed G_hName G_iName G_bName ex) H ∧ va_S A s.heap H locs ∧ lv_has ls 7 [(5, .int (mI z_325)), (4, .int (mI z_326)), (3, .int (mI z_327)), (0, .ref (a 0)), (1, .int (mI p0)), (2, .int (mI p1))] ∧ g = F0 m 28 ls []) ?_ _ ⟨0, 100, (-1), B_need, _, by omega, by omega, by omega, b_B_need, rfl, hP, hS, lv_sub hl [0, 1, 2, 3, 4, 5] rfl, rfl⟩
      intro n_360 H locs g hI ih_361
      obtain ⟨z_325, z_326, z_327, F_328, ls, h28_0, h28_1, h28_2, bF_328, mn_360, hP, hS, hl, rfl⟩ := hI
      refine lv_iload hx hb dX12_tempt_28 (lv_at hl 0 rfl) ?_
      refine lv_aload_n hx hb dX12_tempt_30 rfl (lv_at hl 3 rfl) ?_
      refine g_i (rDt hD) hS hA (g_V (own := "HideReaderModel") (As := []) (rest := [.int (mI z_325)]) hx hb hml hown hts hK hP (rDt hD) (kr_X12_stocks (l := l) (D := D) (k := k) h_x_bank b_B_herds) ck_X12_stocks iv_X12_stocks uw_8_126 (rv_o hK hP) rfl hl.1 rfl (Nat.le_of_ble_eq_true rfl) dX12_tempt_31 ⟨Nat.le_of_ble_eq_true rfl, Nat.le_of_ble_eq_true rfl⟩ ⟨Nat.le_of_ble_eq_true rfl, Nat.le_of_ble_eq_true rfl⟩) (fun r_362 H locs hQ hS => ?_)
      obtain ⟨hr_362_0, hP⟩ := hQ
      refine sy_icmp_ge (tgt := 112) hx hb dX12_tempt_34 (by decide) (by omega) (by omega) (fun c_377 => ?_) (fun c_377 => ?_)
      · skip
        refine lv_iload_n hx hb dX12_tempt_112 rfl (lv_at hl 2 rfl) ?_
        refine sy_if_ge (tgt := 120) hx hb dX12_tempt_113 (by decide) (by omega) (fun c_378 => ?_) (fun c_378 => ?_)
        · skip
          refine lv_iload_n hx hb dX12_tempt_120 rfl (lv_at hl 5 rfl) ?_
          refine sy_if_ne (tgt := 128) hx hb dX12_tempt_121 (by decide) (by omega) (fun c_379 => ?_) (fun c_379 => ?_)
          · skip
            refine lv_iload hx hb dX12_tempt_128 (lv_at hl 1 rfl) ?_
            exact r_i hx hb hr hlocks dX12_tempt_130 hS ⟨F_328, by omega, bF_328, hP⟩
          · skip
            refine lv_iload_n hx hb dX12_tempt_124 rfl (lv_at hl 2 rfl) ?_
            refine lv_goto (tgt := 130) hx hb dX12_tempt_125 (by decide) ?_
            exact r_i hx hb hr hlocks dX12_tempt_130 hS ⟨F_328, by omega, bF_328, hP⟩
        · skip
          refine lv_iconst (v := mI (-1)) hx hb dX12_tempt_116 rfl ?_
          refine lv_goto (tgt := 130) hx hb dX12_tempt_117 (by decide) ?_
          exact r_i hx hb hr hlocks dX12_tempt_130 hS ⟨F_328, by omega, bF_328, hP⟩
      · skip
        refine lv_iload hx hb dX12_tempt_37 (lv_at hl 0 rfl) ?_
        refine lv_aload_n hx hb dX12_tempt_39 rfl (lv_at hl 3 rfl) ?_
        refine rg_o_all hx hb hts hown hK hP uw_7_66 dX12_tempt_40 ?_
        refine lv_bipush (v := mI 8) hx hb dX12_tempt_43 (by decide) ?_
        refine lv_iload_n hx hb dX12_tempt_45 rfl (lv_at hl 4 rfl) ?_
        refine sy_iadd hx hb dX12_tempt_46 (p0 + 8) (by omega) ?_
        refine rl_all hx hb hK hP dX12_tempt_47 (by omega) (bA_bd b_B_all) (fun z_380 ez_380 hz_380 => ?_)
        have hz_380 := bA_own b_B_all (by omega) ez_380
        refine sy_icmp_ne (tgt := 54) hx hb dX12_tempt_48 (by decide) (by omega) (by omega) (fun c_381 => ?_) (fun c_381 => ?_)
        · skip
          refine lv_aload_n hx hb dX12_tempt_54 rfl (lv_at hl 3 rfl) ?_
          refine lv_aload_n hx hb dX12_tempt_55 rfl (lv_at hl 3 rfl) ?_
          refine lv_iload hx hb dX12_tempt_56 (lv_at hl 0 rfl) ?_
          refine g_i (rDt hD) hS hA (g_V (own := "HideReaderModel") (As := [.int (mI z_325)]) (rest := [.ref (a 0)]) hx hb hml hown hts hK hP (rDt hD) (kr_X12_brandOf (l := l) (D := D) (k := k) (by omega) h_x_bank b_B_brands) ck_X12_brandOf iv_X12_brandOf uw_6_220 (rv_o hK hP) rfl hl.1 rfl (Nat.le_of_ble_eq_true rfl) dX12_tempt_58 ⟨Nat.le_of_ble_eq_true rfl, Nat.le_of_ble_eq_true rfl⟩ ⟨Nat.le_of_ble_eq_true rfl, Nat.le_of_ble_eq_true rfl⟩) (fun r_382 H locs hQ hS => ?_)
          obtain ⟨hr_382_0, hP⟩ := hQ
          refine g_v (rDt hD) hS hA (g_V (own := "HideReaderModel") (As := [.int (mI r_382)]) (rest := []) hx hb hml hown hts hK hP (rDt hD) (kr_X12_layNeed (l := l) (D := D) (k := k) (by omega) h_x_bank b_B_turns b_B_irons b_B_told b_B_burned bF_328) ck_X12_layNeed iv_X12_layNeed uw_9_38 (rv_o hK hP) rfl hl.1 rfl (Nat.le_of_ble_eq_true rfl) dX12_tempt_61 ⟨Nat.le_of_ble_eq_true rfl, Nat.le_of_ble_eq_true rfl⟩ ⟨Nat.le_of_ble_eq_true rfl, Nat.le_of_ble_eq_true rfl⟩) (fun H locs hQ hS => ?_)
          obtain ⟨F_384, bF_384, hP⟩ := hQ
          refine lv_aload_n hx hb dX12_tempt_64 rfl (lv_at hl 3 rfl) ?_
          refine rg_o_need hx hb hts hown hK hP uw_7_71 dX12_tempt_65 ?_
          refine lv_aload_n hx hb dX12_tempt_68 rfl (lv_at hl 3 rfl) ?_
          refine rg_o_all hx hb hts hown hK hP uw_7_66 dX12_tempt_69 ?_
          refine lv_iconst (v := mI 0) hx hb dX12_tempt_72 rfl ?_
          refine lv_iload_n hx hb dX12_tempt_73 rfl (lv_at hl 4 rfl) ?_
          refine sy_iadd hx hb dX12_tempt_74 p0 (by omega) ?_
          refine rl_all hx hb hK hP dX12_tempt_75 (by omega) (bA_bd b_B_all) (fun z_385 ez_385 hz_385 => ?_)
          refine rl_need hx hb hK hP dX12_tempt_76 (by omega) bF_384 (fun z_386 _ hz_386 => ?_)
          refine lv_istore (lv' := [(6, .int (mI z_386)), (5, .int (mI z_325)), (4, .int (mI z_326)), (3, .int (mI z_327)), (0, .ref (a 0)), (1, .int (mI p0)), (2, .int (mI p1))]) hx hb dX12_tempt_77 hl (by decide) rfl (fun ls hl => ?_)
          refine lv_iload hx hb dX12_tempt_79 (lv_at hl 0 rfl) ?_
          refine lv_iconst (v := mI 1) hx hb dX12_tempt_81 rfl ?_
          refine lv_iconst (v := mI 4) hx hb dX12_tempt_82 rfl ?_
          refine g_i (rDt hD) hS hA (g_S (own := "HideReaderModel") (As := [.int (mI z_386), .int (mI 1), .int (mI 4)]) (rest := []) hx hb hml hown hts hK hP (rDt hD) (kr_X12_isIn (l := l) (D := D) (k := k) (by omega) (by decide) (by decide)) ck_X12_isIn uw_8_131 uw_8_130 rfl hl.1 rfl (Nat.le_of_ble_eq_true rfl) dX12_tempt_83 ⟨Nat.le_of_ble_eq_true rfl, Nat.le_of_ble_eq_true rfl⟩ ⟨Nat.le_of_ble_eq_true rfl, Nat.le_of_ble_eq_true rfl⟩) (fun r_387 H locs hQ hS => ?_)
          obtain ⟨hq_r_387, hP⟩ := hQ
          rcases hq_r_387 with rfl | ⟨rfl, c_389_0, c_389_1⟩
          · skip
            refine sy_if_eq (tgt := 106) hx hb dX12_tempt_86 (by decide) (by decide) (fun c_390 => ?_) (fun c9 => absurd c9 (by decide))
            refine lv_iinc (v := mI (z_325 + 1)) (lv' := [(5, .int (mI (z_325 + 1))), (6, .int (mI z_386)), (4, .int (mI z_326)), (3, .int (mI z_327)), (0, .ref (a 0)), (1, .int (mI p0)), (2, .int (mI p1))]) hx hb dX12_tempt_106 hl (k := 1) rfl (mI_ad rfl) (by decide) rfl (fun ls hl => ?_)
            refine lv_goto (tgt := 28) hx hb dX12_tempt_109 (by decide) ?_
            exact ih_361 _ _ _ _ (by omega) ⟨(z_325 + 1), z_326, z_327, F_384, _, by omega, by omega, by omega, bF_384, rfl, hP, hS, lv_sub hl [0, 2, 3, 4, 5, 6] rfl, rfl⟩
          · skip
            refine sy_if_eq (tgt := 106) hx hb dX12_tempt_86 (by decide) (by decide) (fun c9 => absurd c9 (by decide)) (fun c_391 => ?_)
            refine lv_iload hx hb dX12_tempt_89 (lv_at hl 0 rfl) ?_
            refine lv_iload hx hb dX12_tempt_91 (lv_at hl 2 rfl) ?_
            refine sy_icmp_lt (tgt := 99) hx hb dX12_tempt_93 (by decide) (by omega) (by omega) (fun c_392 => ?_) (fun c_392 => ?_)
            · skip
              refine lv_iload hx hb dX12_tempt_99 (lv_at hl 1 rfl) ?_
              refine lv_istore_n (lv' := [(3, .int (mI z_325)), (6, .int (mI z_386)), (5, .int (mI z_325)), (4, .int (mI z_326)), (0, .ref (a 0)), (1, .int (mI p0)), (2, .int (mI p1))]) hx hb dX12_tempt_101 rfl hl (by decide) rfl (fun ls hl => ?_)
              refine lv_iload hx hb dX12_tempt_102 (lv_at hl 1 rfl) ?_
              refine lv_istore (lv' := [(4, .int (mI z_386)), (3, .int (mI z_325)), (6, .int (mI z_386)), (5, .int (mI z_325)), (0, .ref (a 0)), (1, .int (mI p0)), (2, .int (mI p1))]) hx hb dX12_tempt_104 hl (by decide) rfl (fun ls hl => ?_)
              refine lv_iinc (v := mI (z_325 + 1)) (lv' := [(5, .int (mI (z_325 + 1))), (4, .int (mI z_386)), (3, .int (mI z_325)), (6, .int (mI z_386)), (0, .ref (a 0)), (1, .int (mI p0)), (2, .int (mI p1))]) hx hb dX12_tempt_106 hl (k := 3) rfl (mI_ad rfl) (by decide) rfl (fun ls hl => ?_)
              refine lv_goto (tgt := 28) hx hb dX12_tempt_109 (by decide) ?_
              exact ih_361 _ _ _ _ (by omega) ⟨(z_325 + 1), z_386, z_325, F_384, _, by omega, by omega, by omega, bF_384, rfl, hP, hS, lv_sub hl [0, 1, 2, 4, 5, 6] rfl, rfl⟩
            · skip
              refine lv_goto (tgt := 106) hx hb dX12_tempt_96 (by decide) ?_
              refine lv_iinc (v := mI (z_325 + 1)) (lv' := [(5, .int (mI (z_325 + 1))), (6, .int (mI z_386)), (4, .int (mI z_326)), (3, .int (mI z_327)), (0, .ref (a 0)), (1, .int (mI p0)), (2, .int (mI p1))]) hx hb dX12_tempt_106 hl (k := 1) rfl (mI_ad rfl) (by decide) rfl (fun ls hl => ?_)
              refine lv_goto (tgt := 28) hx hb dX12_tempt_109 (by decide) ?_
              exact ih_361 _ _ _ _ (by omega) ⟨(z_325 + 1), z_326, z_327, F_384, _, by omega, by omega, by omega, bF_384, rfl, hP, hS, lv_sub hl [0, 2, 3, 4, 5, 6] rfl, rfl⟩
        · skip
          refine lv_goto (tgt := 106) hx hb dX12_tempt_51 (by decide) ?_
          refine lv_iinc (v := mI (z_325 + 1)) (lv' := [(5, .int (mI (z_325 + 1))), (4, .int (mI z_326)), (3, .int (mI z_327)), (0, .ref (a 0)), (1, .int (mI p0)), (2, .int (mI p1))]) hx hb dX12_tempt_106 hl (k := 0) rfl (mI_ad rfl) (by decide) rfl (fun ls hl => ?_)
          refine lv_goto (tgt := 28) hx hb dX12_tempt_109 (by decide) ?_
          exact ih_361 _ _ _ _ (by omega) ⟨(z_325 + 1), z_326, z_327, F_328, _, by omega, by omega, by omega, bF_328, rfl, hP, hS, lv_sub hl [0, 1, 2, 3, 4, 5] rfl, rfl⟩
set_option maxHeartbeats 4000000 in
set_option maxRecDepth 100000 in
theorem kr_X12_useful (h_x_bank : 0 ≤ x_bank ∧ x_bank ≤ 1) (b_B_turns : bd (1) 4 B_turns) (b_B_herds : bd (0) 8 B_herds) (b_B_irons : bd (0) 6 B_irons) (b_B_told : bd (0) 31 B_told) (b_B_brands : bd (0) 4095 B_brands) (b_B_burned : bd (0) 4095 B_burned) : MetG l D k yX12_useful cX12_useful 5 (some .int) 5 [.ref (a 0)] (rW k a x_taped x_size x_faultKind x_faultPlace x_at x_end x_token x_number x_bank x_rb x_codes x_within x_piled x_unitsInRule x_askBeast x_askStroke x_askAge x_askSeason x_acts x_undone x_laid x_seens x_time x_fitting n_name B_tape B_text B_turns B_herds B_irons B_beasts B_units B_night B_draw B_told B_brands B_ironMarks B_herdTold B_born B_ruleFrom B_ruleTo B_code B_codeNumber B_eWhat B_eSign B_pile B_all B_burned B_was B_need B_laidRow B_long8 B_brings B_sBurning B_sStroke B_sIs B_sTold B_sUntold B_parts B_boxAll B_isBoxed G_hName G_iName G_bName ex) (qGi (fun r0 H => (-2147483648 ≤ r0 ∧ r0 ≤ 2147483647) ∧ va_P D vwCl (rW k a x_taped x_size x_faultKind x_faultPlace x_at x_end x_token x_number x_bank x_rb x_codes x_within x_piled x_unitsInRule x_askBeast x_askStroke x_askAge x_askSeason x_acts x_undone x_laid x_seens x_time x_fitting n_name B_tape B_text B_turns B_herds B_irons B_beasts B_units B_night B_draw B_told B_brands B_ironMarks B_herdTold B_born B_ruleFrom B_ruleTo B_code B_codeNumber B_eWhat B_eSign B_pile B_all B_burned B_was B_need B_laidRow B_long8 B_brings B_sBurning B_sStroke B_sIs B_sTold B_sUntold B_parts B_boxAll B_isBoxed G_hName G_iName G_bName ex) H)) := by
  refine metG_of 0 ck_X12_useful (Nat.le_of_ble_eq_true rfl) rMap (fun p e s m args below meth c A hx hb hml hr hlocks hown hts hK hD hA hP hS ls hl => ?_)
  have hown : s.vm.findClass "HideReaderModel" = some m.cls := hown
  have hl : lv_has ls 5 [(0, .ref (a 0))] := hl
  refine lv_iconst (v := mI 0) hx hb dX12_useful_0 rfl ?_
  refine lv_istore_n (lv' := [(1, .int (mI 0)), (0, .ref (a 0))]) hx hb dX12_useful_1 rfl hl (by decide) rfl (fun ls hl => ?_)
  refine lv_iconst (v := mI 0) hx hb dX12_useful_2 rfl ?_
  refine lv_istore_n (lv' := [(2, .int (mI 0)), (1, .int (mI 0)), (0, .ref (a 0))]) hx hb dX12_useful_3 rfl hl (by decide) rfl (fun ls hl => ?_)
  refine sy_loop (I := fun n H locs g => ∃ (z_169241 : Int) (z_169242 : Int) (ls : Array Slot), (0 ≤ z_169241 ∧ z_169241 ≤ 48) ∧ (-2147483648 ≤ z_169242 ∧ z_169242 ≤ 2147483647) ∧ (48 - z_169241).toNat = n ∧ va_P D vwCl (rW k a x_taped x_size x_faultKind x_faultPlace x_at x_end x_token x_number x_bank x_rb x_codes x_within x_piled x_unitsInRule x_askBeast x_askStroke x_askAge x_askSeason x_acts x_undone x_laid x_seens x_time x_fitting n_name B_tape B_text B_turns B_herds B_irons B_beasts B_units B_night B_draw B_told B_brands B_ironMarks B_herdTold B_born B_ruleFrom B_ruleTo B_code B_codeNumber B_eWhat B_eSign B_pile B_all B_burned B_was B_need B_laidRow B_long8 B_brings B_sBurning B_sStroke B_sIs B_sTold B_sUntold B_parts B_boxAll B_isBoxed G_hName G_iName G_bName ex) H ∧ va_S A s.heap H locs ∧ lv_has ls 5 [(2, .int (mI z_169241)), (1, .int (mI z_169242)), (0, .ref (a 0))] ∧ g = F0 m 4 ls []) ?_ _ ⟨0, 0, _, by omega, by omega, rfl, hP, hS, lv_sub hl [0, 1, 2] rfl, rfl⟩
  intro n_170815 H locs g hI ih_170816
  obtain ⟨z_169241, z_169242, ls, h4_0, h4_1, mn_170815, hP, hS, hl, rfl⟩ := hI
  refine lv_iload_n hx hb dX12_useful_4 rfl (lv_at hl 0 rfl) ?_
  refine lv_aload_n hx hb dX12_useful_5 rfl (lv_at hl 2 rfl) ?_
  refine g_i (rDt hD) hS hA (g_V (own := "HideReaderModel") (As := []) (rest := [.int (mI z_169241)]) hx hb hml hown hts hK hP (rDt hD) (kr_X12_tools (l := l) (D := D) (k := k) h_x_bank b_B_irons) ck_X12_tools iv_X12_tools uw_6_235 (rv_o hK hP) rfl hl.1 rfl (Nat.le_of_ble_eq_true rfl) dX12_useful_6 ⟨Nat.le_of_ble_eq_true rfl, Nat.le_of_ble_eq_true rfl⟩ ⟨Nat.le_of_ble_eq_true rfl, Nat.le_of_ble_eq_true rfl⟩) (fun r_170817 H locs hQ hS => ?_)
  obtain ⟨hr_170817_0, hP⟩ := hQ
  refine lv_aload_n hx hb dX12_useful_9 rfl (lv_at hl 2 rfl) ?_
  refine g_i (rDt hD) hS hA (g_V (own := "HideReaderModel") (As := []) (rest := [.int (mI r_170817), .int (mI z_169241)]) hx hb hml hown hts hK hP (rDt hD) (kr_X12_placements (l := l) (D := D) (k := k) h_x_bank b_B_turns b_B_told) ck_X12_placements iv_X12_placements uw_6_239 (rv_o hK hP) rfl hl.1 rfl (Nat.le_of_ble_eq_true rfl) dX12_useful_10 ⟨Nat.le_of_ble_eq_true rfl, Nat.le_of_ble_eq_true rfl⟩ ⟨Nat.le_of_ble_eq_true rfl, Nat.le_of_ble_eq_true rfl⟩) (fun r_170818 H locs hQ hS => ?_)
  obtain ⟨hr_170818_0, hP⟩ := hQ
  refine sy_imulB (A := 6) (B := 8) hx hb dX12_useful_13 48 (by decide) (by omega) (by omega) (fun z_170819 ez_170819 hz_170819 => ?_)
  refine sy_icmp_ge (tgt := 111) hx hb dX12_useful_14 (by decide) (by omega) (by omega) (fun c_170820 => ?_) (fun c_170820 => ?_)
  · skip
    refine lv_iload_n hx hb dX12_useful_111 rfl (lv_at hl 1 rfl) ?_
    exact r_i hx hb hr hlocks dX12_useful_112 hS ⟨by omega, hP⟩
  · skip
    refine lv_iconst (v := mI 0) hx hb dX12_useful_17 rfl ?_
    refine lv_istore_n (lv' := [(3, .int (mI 0)), (2, .int (mI z_169241)), (1, .int (mI z_169242)), (0, .ref (a 0))]) hx hb dX12_useful_18 rfl hl (by decide) rfl (fun ls hl => ?_)
    refine sy_loop (I := fun n H locs g => ∃ (z_171997 : Int) (z_171998 : Int) (ls : Array Slot), (0 ≤ z_171997 ∧ z_171997 ≤ 8) ∧ (-2147483648 ≤ z_171998 ∧ z_171998 ≤ 2147483647) ∧ (8 - z_171997).toNat = n ∧ va_P D vwCl (rW k a x_taped x_size x_faultKind x_faultPlace x_at x_end x_token x_number x_bank x_rb x_codes x_within x_piled x_unitsInRule x_askBeast x_askStroke x_askAge x_askSeason x_acts x_undone x_laid x_seens x_time x_fitting n_name B_tape B_text B_turns B_herds B_irons B_beasts B_units B_night B_draw B_told B_brands B_ironMarks B_herdTold B_born B_ruleFrom B_ruleTo B_code B_codeNumber B_eWhat B_eSign B_pile B_all B_burned B_was B_need B_laidRow B_long8 B_brings B_sBurning B_sStroke B_sIs B_sTold B_sUntold B_parts B_boxAll B_isBoxed G_hName G_iName G_bName ex) H ∧ va_S A s.heap H locs ∧ lv_has ls 5 [(3, .int (mI z_171997)), (2, .int (mI z_169241)), (1, .int (mI z_171998)), (0, .ref (a 0))] ∧ g = F0 m 19 ls []) ?_ _ ⟨0, z_169242, _, by omega, by omega, rfl, hP, hS, lv_sub hl [0, 1, 2, 3] rfl, rfl⟩
    intro n_172193 H locs g hI ih_172194
    obtain ⟨z_171997, z_171998, ls, h19_0, h19_1, mn_172193, hP, hS, hl, rfl⟩ := hI
    refine lv_iload_n hx hb dX12_useful_19 rfl (lv_at hl 0 rfl) ?_
    refine lv_aload_n hx hb dX12_useful_20 rfl (lv_at hl 3 rfl) ?_
    refine g_i (rDt hD) hS hA (g_V (own := "HideReaderModel") (As := []) (rest := [.int (mI z_171997)]) hx hb hml hown hts hK hP (rDt hD) (kr_X12_stocks (l := l) (D := D) (k := k) h_x_bank b_B_herds) ck_X12_stocks iv_X12_stocks uw_8_126 (rv_o hK hP) rfl hl.1 rfl (Nat.le_of_ble_eq_true rfl) dX12_useful_21 ⟨Nat.le_of_ble_eq_true rfl, Nat.le_of_ble_eq_true rfl⟩ ⟨Nat.le_of_ble_eq_true rfl, Nat.le_of_ble_eq_true rfl⟩) (fun r_172195 H locs hQ hS => ?_)
    obtain ⟨hr_172195_0, hP⟩ := hQ
    refine sy_icmp_ge (tgt := 105) hx hb dX12_useful_24 (by decide) (by omega) (by omega) (fun c_172196 => ?_) (fun c_172196 => ?_)
    · skip
      refine lv_iinc (v := mI (z_169241 + 1)) (lv' := [(2, .int (mI (z_169241 + 1))), (3, .int (mI z_171997)), (1, .int (mI z_171998)), (0, .ref (a 0))]) hx hb dX12_useful_105 hl (k := 1) rfl (mI_ad rfl) (by decide) rfl (fun ls hl => ?_)
      refine lv_goto (tgt := 4) hx hb dX12_useful_108 (by decide) ?_
      exact ih_170816 _ _ _ _ (by omega) ⟨(z_169241 + 1), z_171998, _, by omega, by omega, rfl, hP, hS, lv_sub hl [0, 2, 3] rfl, rfl⟩
    · skip
      refine lv_iconst (v := mI 0) hx hb dX12_useful_27 rfl ?_
      refine lv_istore (lv' := [(4, .int (mI 0)), (3, .int (mI z_171997)), (2, .int (mI z_169241)), (1, .int (mI z_171998)), (0, .ref (a 0))]) hx hb dX12_useful_28 hl (by decide) rfl (fun ls hl => ?_)
      refine sy_loop (I := fun n H locs g => ∃ (z_172341 : Int) (z_172342 : Int) (ls : Array Slot), (0 ≤ z_172341 ∧ z_172341 ≤ 8) ∧ (-2147483648 ≤ z_172342 ∧ z_172342 ≤ 2147483647) ∧ (8 - z_172341).toNat = n ∧ va_P D vwCl (rW k a x_taped x_size x_faultKind x_faultPlace x_at x_end x_token x_number x_bank x_rb x_codes x_within x_piled x_unitsInRule x_askBeast x_askStroke x_askAge x_askSeason x_acts x_undone x_laid x_seens x_time x_fitting n_name B_tape B_text B_turns B_herds B_irons B_beasts B_units B_night B_draw B_told B_brands B_ironMarks B_herdTold B_born B_ruleFrom B_ruleTo B_code B_codeNumber B_eWhat B_eSign B_pile B_all B_burned B_was B_need B_laidRow B_long8 B_brings B_sBurning B_sStroke B_sIs B_sTold B_sUntold B_parts B_boxAll B_isBoxed G_hName G_iName G_bName ex) H ∧ va_S A s.heap H locs ∧ lv_has ls 5 [(4, .int (mI z_172341)), (3, .int (mI z_171997)), (2, .int (mI z_169241)), (1, .int (mI z_172342)), (0, .ref (a 0))] ∧ g = F0 m 30 ls []) ?_ _ ⟨0, z_171998, _, by omega, by omega, rfl, hP, hS, lv_sub hl [0, 1, 2, 3, 4] rfl, rfl⟩
      intro n_172365 H locs g hI ih_172366
      obtain ⟨z_172341, z_172342, ls, h30_0, h30_1, mn_172365, hP, hS, hl, rfl⟩ := hI
      refine lv_iload hx hb dX12_useful_30 (lv_at hl 0 rfl) ?_
      refine lv_aload_n hx hb dX12_useful_32 rfl (lv_at hl 4 rfl) ?_
      refine g_i (rDt hD) hS hA (g_V (own := "HideReaderModel") (As := []) (rest := [.int (mI z_172341)]) hx hb hml hown hts hK hP (rDt hD) (kr_X12_stocks (l := l) (D := D) (k := k) h_x_bank b_B_herds) ck_X12_stocks iv_X12_stocks uw_8_126 (rv_o hK hP) rfl hl.1 rfl (Nat.le_of_ble_eq_true rfl) dX12_useful_33 ⟨Nat.le_of_ble_eq_true rfl, Nat.le_of_ble_eq_true rfl⟩ ⟨Nat.le_of_ble_eq_true rfl, Nat.le_of_ble_eq_true rfl⟩) (fun r_172367 H locs hQ hS => ?_)
      obtain ⟨hr_172367_0, hP⟩ := hQ
      refine sy_icmp_ge (tgt := 99) hx hb dX12_useful_36 (by decide) (by omega) (by omega) (fun c_172368 => ?_) (fun c_172368 => ?_)
      · skip
        refine lv_iinc (v := mI (z_171997 + 1)) (lv' := [(3, .int (mI (z_171997 + 1))), (4, .int (mI z_172341)), (2, .int (mI z_169241)), (1, .int (mI z_172342)), (0, .ref (a 0))]) hx hb dX12_useful_99 hl (k := 1) rfl (mI_ad rfl) (by decide) rfl (fun ls hl => ?_)
        refine lv_goto (tgt := 19) hx hb dX12_useful_102 (by decide) ?_
        exact ih_172194 _ _ _ _ (by omega) ⟨(z_171997 + 1), z_172342, _, by omega, by omega, rfl, hP, hS, lv_sub hl [0, 2, 3, 4] rfl, rfl⟩
      · skip
        refine lv_aload_n hx hb dX12_useful_39 rfl (lv_at hl 4 rfl) ?_
        refine lv_aload_n hx hb dX12_useful_40 rfl (lv_at hl 4 rfl) ?_
        refine lv_iload_n hx hb dX12_useful_41 rfl (lv_at hl 1 rfl) ?_
        refine g_i (rDt hD) hS hA (g_V (own := "HideReaderModel") (As := [.int (mI z_171997)]) (rest := [.ref (a 0)]) hx hb hml hown hts hK hP (rDt hD) (kr_X12_brandOf (l := l) (D := D) (k := k) (by omega) h_x_bank b_B_brands) ck_X12_brandOf iv_X12_brandOf uw_6_220 (rv_o hK hP) rfl hl.1 rfl (Nat.le_of_ble_eq_true rfl) dX12_useful_42 ⟨Nat.le_of_ble_eq_true rfl, Nat.le_of_ble_eq_true rfl⟩ ⟨Nat.le_of_ble_eq_true rfl, Nat.le_of_ble_eq_true rfl⟩) (fun r_172369 H locs hQ hS => ?_)
        obtain ⟨hr_172369_0, hP⟩ := hQ
        refine lv_aload_n hx hb dX12_useful_45 rfl (lv_at hl 4 rfl) ?_
        refine lv_iload hx hb dX12_useful_46 (lv_at hl 0 rfl) ?_
        refine g_i (rDt hD) hS hA (g_V (own := "HideReaderModel") (As := [.int (mI z_172341)]) (rest := [.int (mI r_172369), .ref (a 0)]) hx hb hml hown hts hK hP (rDt hD) (kr_X12_brandOf (l := l) (D := D) (k := k) (by omega) h_x_bank b_B_brands) ck_X12_brandOf iv_X12_brandOf uw_6_220 (rv_o hK hP) rfl hl.1 rfl (Nat.le_of_ble_eq_true rfl) dX12_useful_48 ⟨Nat.le_of_ble_eq_true rfl, Nat.le_of_ble_eq_true rfl⟩ ⟨Nat.le_of_ble_eq_true rfl, Nat.le_of_ble_eq_true rfl⟩) (fun r_172370 H locs hQ hS => ?_)
        obtain ⟨hr_172370_0, hP⟩ := hQ
        refine g_i (rDt hD) hS hA (g_V (own := "HideReaderModel") (As := [.int (mI r_172369), .int (mI r_172370)]) (rest := []) hx hb hml hown hts hK hP (rDt hD) (kr_X12_areOne (l := l) (D := D) (k := k) (by omega) (by omega) h_x_bank b_B_turns b_B_told) ck_X12_areOne iv_X12_areOne uw_8_210 (rv_o hK hP) rfl hl.1 rfl (Nat.le_of_ble_eq_true rfl) dX12_useful_51 ⟨Nat.le_of_ble_eq_true rfl, Nat.le_of_ble_eq_true rfl⟩ ⟨Nat.le_of_ble_eq_true rfl, Nat.le_of_ble_eq_true rfl⟩) (fun r_172371 H locs hQ hS => ?_)
        obtain ⟨hq_r_172371, hP⟩ := hQ
        rcases hq_r_172371 with rfl | rfl
        · skip
          refine sy_if_ne (tgt := 93) hx hb dX12_useful_54 (by decide) (by decide) (fun c9 => absurd c9 (by decide)) (fun c_172374 => ?_)
          refine lv_aload_n hx hb dX12_useful_57 rfl (lv_at hl 4 rfl) ?_
          refine lv_aload_n hx hb dX12_useful_58 rfl (lv_at hl 4 rfl) ?_
          refine lv_iload_n hx hb dX12_useful_59 rfl (lv_at hl 1 rfl) ?_
          refine g_i (rDt hD) hS hA (g_V (own := "HideReaderModel") (As := [.int (mI z_171997)]) (rest := [.ref (a 0)]) hx hb hml hown hts hK hP (rDt hD) (kr_X12_brandOf (l := l) (D := D) (k := k) (by omega) h_x_bank b_B_brands) ck_X12_brandOf iv_X12_brandOf uw_6_220 (rv_o hK hP) rfl hl.1 rfl (Nat.le_of_ble_eq_true rfl) dX12_useful_60 ⟨Nat.le_of_ble_eq_true rfl, Nat.le_of_ble_eq_true rfl⟩ ⟨Nat.le_of_ble_eq_true rfl, Nat.le_of_ble_eq_true rfl⟩) (fun r_172375 H locs hQ hS => ?_)
          obtain ⟨hr_172375_0, hP⟩ := hQ
          refine lv_aload_n hx hb dX12_useful_63 rfl (lv_at hl 4 rfl) ?_
          refine rg_o_burned hx hb hts hown hK hP uw_7_67 dX12_useful_64 ?_
          refine lv_iload_n hx hb dX12_useful_67 rfl (lv_at hl 2 rfl) ?_
          refine rl_burned hx hb hK hP dX12_useful_68 (by omega) b_B_burned (fun z_172376 _ hz_172376 => ?_)
          refine sy_ior hx hb dX12_useful_69 12 (by decide) 4096 (by decide) (by omega) (by omega) (fun z_172377 hz_172377 => ?_)
          refine lv_aload_n hx hb dX12_useful_70 rfl (lv_at hl 4 rfl) ?_
          refine lv_iload hx hb dX12_useful_71 (lv_at hl 0 rfl) ?_
          refine g_i (rDt hD) hS hA (g_V (own := "HideReaderModel") (As := [.int (mI z_172341)]) (rest := [.int (mI z_172377), .ref (a 0)]) hx hb hml hown hts hK hP (rDt hD) (kr_X12_brandOf (l := l) (D := D) (k := k) (by omega) h_x_bank b_B_brands) ck_X12_brandOf iv_X12_brandOf uw_6_220 (rv_o hK hP) rfl hl.1 rfl (Nat.le_of_ble_eq_true rfl) dX12_useful_73 ⟨Nat.le_of_ble_eq_true rfl, Nat.le_of_ble_eq_true rfl⟩ ⟨Nat.le_of_ble_eq_true rfl, Nat.le_of_ble_eq_true rfl⟩) (fun r_172378 H locs hQ hS => ?_)
          obtain ⟨hr_172378_0, hP⟩ := hQ
          refine g_i (rDt hD) hS hA (g_V (own := "HideReaderModel") (As := [.int (mI z_172377), .int (mI r_172378)]) (rest := []) hx hb hml hown hts hK hP (rDt hD) (kr_X12_areOne (l := l) (D := D) (k := k) (by omega) (by omega) h_x_bank b_B_turns b_B_told) ck_X12_areOne iv_X12_areOne uw_8_210 (rv_o hK hP) rfl hl.1 rfl (Nat.le_of_ble_eq_true rfl) dX12_useful_76 ⟨Nat.le_of_ble_eq_true rfl, Nat.le_of_ble_eq_true rfl⟩ ⟨Nat.le_of_ble_eq_true rfl, Nat.le_of_ble_eq_true rfl⟩) (fun r_172379 H locs hQ hS => ?_)
          obtain ⟨hq_r_172379, hP⟩ := hQ
          rcases hq_r_172379 with rfl | rfl
          · skip
            refine sy_if_eq (tgt := 93) hx hb dX12_useful_79 (by decide) (by decide) (fun c_172382 => ?_) (fun c9 => absurd c9 (by decide))
            refine lv_iinc (v := mI (z_172341 + 1)) (lv' := [(4, .int (mI (z_172341 + 1))), (3, .int (mI z_171997)), (2, .int (mI z_169241)), (1, .int (mI z_172342)), (0, .ref (a 0))]) hx hb dX12_useful_93 hl (k := 0) rfl (mI_ad rfl) (by decide) rfl (fun ls hl => ?_)
            refine lv_goto (tgt := 30) hx hb dX12_useful_96 (by decide) ?_
            exact ih_172366 _ _ _ _ (by omega) ⟨(z_172341 + 1), z_172342, _, by omega, by omega, rfl, hP, hS, lv_sub hl [0, 1, 2, 3, 4] rfl, rfl⟩
          · skip
            refine sy_if_eq (tgt := 93) hx hb dX12_useful_79 (by decide) (by decide) (fun c9 => absurd c9 (by decide)) (fun c_172383 => ?_)
            refine lv_iload_n hx hb dX12_useful_82 rfl (lv_at hl 3 rfl) ?_
            refine lv_iconst (v := mI 1) hx hb dX12_useful_83 rfl ?_
            refine lv_iload_n hx hb dX12_useful_84 rfl (lv_at hl 2 rfl) ?_
            refine lv_aload_n hx hb dX12_useful_85 rfl (lv_at hl 4 rfl) ?_
            refine g_i (rDt hD) hS hA (g_V (own := "HideReaderModel") (As := []) (rest := [.int (mI z_169241), .int (mI 1), .int (mI z_172342)]) hx hb hml hown hts hK hP (rDt hD) (kr_X12_placements (l := l) (D := D) (k := k) h_x_bank b_B_turns b_B_told) ck_X12_placements iv_X12_placements uw_6_239 (rv_o hK hP) rfl hl.1 rfl (Nat.le_of_ble_eq_true rfl) dX12_useful_86 ⟨Nat.le_of_ble_eq_true rfl, Nat.le_of_ble_eq_true rfl⟩ ⟨Nat.le_of_ble_eq_true rfl, Nat.le_of_ble_eq_true rfl⟩) (fun r_172384 H locs hQ hS => ?_)
            obtain ⟨hr_172384_0, hP⟩ := hQ
            refine sy_idiv hx hb dX12_useful_89 (by omega) (by omega) (fun z_172385 ez_172385 hz_172385 => ?_)
            refine lv_ishl hx hb dX12_useful_90 ?_
            refine sy_any (fun z_172386 hz_172386 => ?_)
            refine lv_ior hx hb dX12_useful_91 ?_
            refine sy_any (fun z_172387 hz_172387 => ?_)
            refine lv_istore_n (lv' := [(1, .int (mI z_172387)), (4, .int (mI z_172341)), (3, .int (mI z_171997)), (2, .int (mI z_169241)), (0, .ref (a 0))]) hx hb dX12_useful_92 rfl hl (by decide) rfl (fun ls hl => ?_)
            refine lv_iinc (v := mI (z_172341 + 1)) (lv' := [(4, .int (mI (z_172341 + 1))), (1, .int (mI z_172387)), (3, .int (mI z_171997)), (2, .int (mI z_169241)), (0, .ref (a 0))]) hx hb dX12_useful_93 hl (k := 1) rfl (mI_ad rfl) (by decide) rfl (fun ls hl => ?_)
            refine lv_goto (tgt := 30) hx hb dX12_useful_96 (by decide) ?_
            exact ih_172366 _ _ _ _ (by omega) ⟨(z_172341 + 1), z_172387, _, by omega, by omega, rfl, hP, hS, lv_sub hl [0, 2, 3, 1, 4] rfl, rfl⟩
        · skip
          refine sy_if_ne (tgt := 93) hx hb dX12_useful_54 (by decide) (by decide) (fun c_172388 => ?_) (fun c9 => absurd c9 (by decide))
          refine lv_iinc (v := mI (z_172341 + 1)) (lv' := [(4, .int (mI (z_172341 + 1))), (3, .int (mI z_171997)), (2, .int (mI z_169241)), (1, .int (mI z_172342)), (0, .ref (a 0))]) hx hb dX12_useful_93 hl (k := 0) rfl (mI_ad rfl) (by decide) rfl (fun ls hl => ?_)
          refine lv_goto (tgt := 30) hx hb dX12_useful_96 (by decide) ?_
          exact ih_172366 _ _ _ _ (by omega) ⟨(z_172341 + 1), z_172342, _, by omega, by omega, rfl, hP, hS, lv_sub hl [0, 1, 2, 3, 4] rfl, rfl⟩
set_option maxHeartbeats 4000000 in
set_option maxRecDepth 100000 in
theorem kr_X12_isBelow {p0 p1 : Int} (hp0 : 0 ≤ p0 ∧ p0 ≤ 7) (hp1 : 0 ≤ p1 ∧ p1 ≤ 7) (h_x_bank : 0 ≤ x_bank ∧ x_bank ≤ 1) (b_B_turns : bd (1) 4 B_turns) (b_B_told : bd (0) 31 B_told) (b_B_brands : bd (0) 4095 B_brands) : MetG l D k yX12_isBelow cX12_isBelow 3 (some .boolean) 5 [.ref (a 0), .int (mI p0), .int (mI p1)] (rW k a x_taped x_size x_faultKind x_faultPlace x_at x_end x_token x_number x_bank x_rb x_codes x_within x_piled x_unitsInRule x_askBeast x_askStroke x_askAge x_askSeason x_acts x_undone x_laid x_seens x_time x_fitting n_name B_tape B_text B_turns B_herds B_irons B_beasts B_units B_night B_draw B_told B_brands B_ironMarks B_herdTold B_born B_ruleFrom B_ruleTo B_code B_codeNumber B_eWhat B_eSign B_pile B_all B_burned B_was B_need B_laidRow B_long8 B_brings B_sBurning B_sStroke B_sIs B_sTold B_sUntold B_parts B_boxAll B_isBoxed G_hName G_iName G_bName ex) (qGi (fun r0 H => ((r0 = 0) ∨ (r0 = 1)) ∧ va_P D vwCl (rW k a x_taped x_size x_faultKind x_faultPlace x_at x_end x_token x_number x_bank x_rb x_codes x_within x_piled x_unitsInRule x_askBeast x_askStroke x_askAge x_askSeason x_acts x_undone x_laid x_seens x_time x_fitting n_name B_tape B_text B_turns B_herds B_irons B_beasts B_units B_night B_draw B_told B_brands B_ironMarks B_herdTold B_born B_ruleFrom B_ruleTo B_code B_codeNumber B_eWhat B_eSign B_pile B_all B_burned B_was B_need B_laidRow B_long8 B_brings B_sBurning B_sStroke B_sIs B_sTold B_sUntold B_parts B_boxAll B_isBoxed G_hName G_iName G_bName ex) H)) := by
  refine metG_of 2 ck_X12_isBelow (Nat.le_of_ble_eq_true rfl) rMap (fun p e s m args below meth c A hx hb hml hr hlocks hown hts hK hD hA hP hS ls hl => ?_)
  have hown : s.vm.findClass "HideReaderModel" = some m.cls := hown
  have hl : lv_has ls 3 [(0, .ref (a 0)), (1, .int (mI p0)), (2, .int (mI p1))] := hl
  refine lv_aload_n hx hb dX12_isBelow_0 rfl (lv_at hl 0 rfl) ?_
  refine lv_aload_n hx hb dX12_isBelow_1 rfl (lv_at hl 0 rfl) ?_
  refine lv_iload_n hx hb dX12_isBelow_2 rfl (lv_at hl 1 rfl) ?_
  refine g_i (rDt hD) hS hA (g_V (own := "HideReaderModel") (As := [.int (mI p0)]) (rest := [.ref (a 0)]) hx hb hml hown hts hK hP (rDt hD) (kr_X12_brandOf (l := l) (D := D) (k := k) (by omega) h_x_bank b_B_brands) ck_X12_brandOf iv_X12_brandOf uw_6_220 (rv_o hK hP) rfl hl.1 rfl (Nat.le_of_ble_eq_true rfl) dX12_isBelow_3 ⟨Nat.le_of_ble_eq_true rfl, Nat.le_of_ble_eq_true rfl⟩ ⟨Nat.le_of_ble_eq_true rfl, Nat.le_of_ble_eq_true rfl⟩) (fun r_1 H locs hQ hS => ?_)
  obtain ⟨hr_1_0, hP⟩ := hQ
  refine lv_aload_n hx hb dX12_isBelow_6 rfl (lv_at hl 0 rfl) ?_
  refine lv_iload_n hx hb dX12_isBelow_7 rfl (lv_at hl 2 rfl) ?_
  refine g_i (rDt hD) hS hA (g_V (own := "HideReaderModel") (As := [.int (mI p1)]) (rest := [.int (mI r_1), .ref (a 0)]) hx hb hml hown hts hK hP (rDt hD) (kr_X12_brandOf (l := l) (D := D) (k := k) (by omega) h_x_bank b_B_brands) ck_X12_brandOf iv_X12_brandOf uw_6_220 (rv_o hK hP) rfl hl.1 rfl (Nat.le_of_ble_eq_true rfl) dX12_isBelow_8 ⟨Nat.le_of_ble_eq_true rfl, Nat.le_of_ble_eq_true rfl⟩ ⟨Nat.le_of_ble_eq_true rfl, Nat.le_of_ble_eq_true rfl⟩) (fun r_2 H locs hQ hS => ?_)
  obtain ⟨hr_2_0, hP⟩ := hQ
  refine g_i (rDt hD) hS hA (g_V (own := "HideReaderModel") (As := [.int (mI r_1), .int (mI r_2)]) (rest := []) hx hb hml hown hts hK hP (rDt hD) (kr_X12_isUnder (l := l) (D := D) (k := k) (by omega) (by omega) h_x_bank b_B_turns b_B_told) ck_X12_isUnder iv_X12_isUnder uw_8_186 (rv_o hK hP) rfl hl.1 rfl (Nat.le_of_ble_eq_true rfl) dX12_isBelow_11 ⟨Nat.le_of_ble_eq_true rfl, Nat.le_of_ble_eq_true rfl⟩ ⟨Nat.le_of_ble_eq_true rfl, Nat.le_of_ble_eq_true rfl⟩) (fun r_3 H locs hQ hS => ?_)
  obtain ⟨hr_3_0, hP⟩ := hQ
  refine sy_if_eq (tgt := 38) hx hb dX12_isBelow_14 (by decide) (by omega) (fun c_4 => ?_) (fun c_4 => ?_)
  · skip
    refine lv_iconst (v := mI 0) hx hb dX12_isBelow_38 rfl ?_
    exact r_z hx hb hr hlocks dX12_isBelow_39 hS (by decide) ⟨Or.inl (rfl), hP⟩
  · skip
    refine lv_aload_n hx hb dX12_isBelow_17 rfl (lv_at hl 0 rfl) ?_
    refine lv_aload_n hx hb dX12_isBelow_18 rfl (lv_at hl 0 rfl) ?_
    refine lv_iload_n hx hb dX12_isBelow_19 rfl (lv_at hl 1 rfl) ?_
    refine g_i (rDt hD) hS hA (g_V (own := "HideReaderModel") (As := [.int (mI p0)]) (rest := [.ref (a 0)]) hx hb hml hown hts hK hP (rDt hD) (kr_X12_brandOf (l := l) (D := D) (k := k) (by omega) h_x_bank b_B_brands) ck_X12_brandOf iv_X12_brandOf uw_6_220 (rv_o hK hP) rfl hl.1 rfl (Nat.le_of_ble_eq_true rfl) dX12_isBelow_20 ⟨Nat.le_of_ble_eq_true rfl, Nat.le_of_ble_eq_true rfl⟩ ⟨Nat.le_of_ble_eq_true rfl, Nat.le_of_ble_eq_true rfl⟩) (fun r_5 H locs hQ hS => ?_)
    obtain ⟨hr_5_0, hP⟩ := hQ
    refine lv_aload_n hx hb dX12_isBelow_23 rfl (lv_at hl 0 rfl) ?_
    refine lv_iload_n hx hb dX12_isBelow_24 rfl (lv_at hl 2 rfl) ?_
    refine g_i (rDt hD) hS hA (g_V (own := "HideReaderModel") (As := [.int (mI p1)]) (rest := [.int (mI r_5), .ref (a 0)]) hx hb hml hown hts hK hP (rDt hD) (kr_X12_brandOf (l := l) (D := D) (k := k) (by omega) h_x_bank b_B_brands) ck_X12_brandOf iv_X12_brandOf uw_6_220 (rv_o hK hP) rfl hl.1 rfl (Nat.le_of_ble_eq_true rfl) dX12_isBelow_25 ⟨Nat.le_of_ble_eq_true rfl, Nat.le_of_ble_eq_true rfl⟩ ⟨Nat.le_of_ble_eq_true rfl, Nat.le_of_ble_eq_true rfl⟩) (fun r_6 H locs hQ hS => ?_)
    obtain ⟨hr_6_0, hP⟩ := hQ
    refine g_i (rDt hD) hS hA (g_V (own := "HideReaderModel") (As := [.int (mI r_5), .int (mI r_6)]) (rest := []) hx hb hml hown hts hK hP (rDt hD) (kr_X12_areOne (l := l) (D := D) (k := k) (by omega) (by omega) h_x_bank b_B_turns b_B_told) ck_X12_areOne iv_X12_areOne uw_8_210 (rv_o hK hP) rfl hl.1 rfl (Nat.le_of_ble_eq_true rfl) dX12_isBelow_28 ⟨Nat.le_of_ble_eq_true rfl, Nat.le_of_ble_eq_true rfl⟩ ⟨Nat.le_of_ble_eq_true rfl, Nat.le_of_ble_eq_true rfl⟩) (fun r_7 H locs hQ hS => ?_)
    obtain ⟨hq_r_7, hP⟩ := hQ
    rcases hq_r_7 with rfl | rfl
    · skip
      refine sy_if_ne (tgt := 38) hx hb dX12_isBelow_31 (by decide) (by decide) (fun c9 => absurd c9 (by decide)) (fun c_10 => ?_)
      refine lv_iconst (v := mI 1) hx hb dX12_isBelow_34 rfl ?_
      refine lv_goto (tgt := 39) hx hb dX12_isBelow_35 (by decide) ?_
      exact r_z hx hb hr hlocks dX12_isBelow_39 hS (by decide) ⟨Or.inr (rfl), hP⟩
    · skip
      refine sy_if_ne (tgt := 38) hx hb dX12_isBelow_31 (by decide) (by decide) (fun c_11 => ?_) (fun c9 => absurd c9 (by decide))
      refine lv_iconst (v := mI 0) hx hb dX12_isBelow_38 rfl ?_
      exact r_z hx hb hr hlocks dX12_isBelow_39 hS (by decide) ⟨Or.inl (rfl), hP⟩
set_option maxHeartbeats 4000000 in
set_option maxRecDepth 100000 in
theorem kr_X12_lowest (h_x_bank : 0 ≤ x_bank ∧ x_bank ≤ 1) (b_B_turns : bd (1) 4 B_turns) (b_B_herds : bd (0) 8 B_herds) (b_B_told : bd (0) 31 B_told) (b_B_brands : bd (0) 4095 B_brands) : MetG l D k yX12_lowest cX12_lowest 5 (some .int) 6 [.ref (a 0)] (rW k a x_taped x_size x_faultKind x_faultPlace x_at x_end x_token x_number x_bank x_rb x_codes x_within x_piled x_unitsInRule x_askBeast x_askStroke x_askAge x_askSeason x_acts x_undone x_laid x_seens x_time x_fitting n_name B_tape B_text B_turns B_herds B_irons B_beasts B_units B_night B_draw B_told B_brands B_ironMarks B_herdTold B_born B_ruleFrom B_ruleTo B_code B_codeNumber B_eWhat B_eSign B_pile B_all B_burned B_was B_need B_laidRow B_long8 B_brings B_sBurning B_sStroke B_sIs B_sTold B_sUntold B_parts B_boxAll B_isBoxed G_hName G_iName G_bName ex) (qGi (fun r0 H => (0 ≤ r0 ∧ r0 ≤ 255) ∧ va_P D vwCl (rW k a x_taped x_size x_faultKind x_faultPlace x_at x_end x_token x_number x_bank x_rb x_codes x_within x_piled x_unitsInRule x_askBeast x_askStroke x_askAge x_askSeason x_acts x_undone x_laid x_seens x_time x_fitting n_name B_tape B_text B_turns B_herds B_irons B_beasts B_units B_night B_draw B_told B_brands B_ironMarks B_herdTold B_born B_ruleFrom B_ruleTo B_code B_codeNumber B_eWhat B_eSign B_pile B_all B_burned B_was B_need B_laidRow B_long8 B_brings B_sBurning B_sStroke B_sIs B_sTold B_sUntold B_parts B_boxAll B_isBoxed G_hName G_iName G_bName ex) H)) := by
  refine metG_of 0 ck_X12_lowest (Nat.le_of_ble_eq_true rfl) rMap (fun p e s m args below meth c A hx hb hml hr hlocks hown hts hK hD hA hP hS ls hl => ?_)
  have hown : s.vm.findClass "HideReaderModel" = some m.cls := hown
  have hl : lv_has ls 5 [(0, .ref (a 0))] := hl
  refine lv_iconst (v := mI 0) hx hb dX12_lowest_0 rfl ?_
  refine lv_istore_n (lv' := [(1, .int (mI 0)), (0, .ref (a 0))]) hx hb dX12_lowest_1 rfl hl (by decide) rfl (fun ls hl => ?_)
  refine lv_iconst (v := mI 0) hx hb dX12_lowest_2 rfl ?_
  refine lv_istore_n (lv' := [(2, .int (mI 0)), (1, .int (mI 0)), (0, .ref (a 0))]) hx hb dX12_lowest_3 rfl hl (by decide) rfl (fun ls hl => ?_)
  refine sy_loop (I := fun n H locs g => ∃ (z_2593 : Int) (z_2594 : Int) (ls : Array Slot), (0 ≤ z_2593 ∧ z_2593 ≤ 8) ∧ (0 ≤ z_2594 ∧ z_2594 ≤ 255) ∧ (8 - z_2593).toNat = n ∧ va_P D vwCl (rW k a x_taped x_size x_faultKind x_faultPlace x_at x_end x_token x_number x_bank x_rb x_codes x_within x_piled x_unitsInRule x_askBeast x_askStroke x_askAge x_askSeason x_acts x_undone x_laid x_seens x_time x_fitting n_name B_tape B_text B_turns B_herds B_irons B_beasts B_units B_night B_draw B_told B_brands B_ironMarks B_herdTold B_born B_ruleFrom B_ruleTo B_code B_codeNumber B_eWhat B_eSign B_pile B_all B_burned B_was B_need B_laidRow B_long8 B_brings B_sBurning B_sStroke B_sIs B_sTold B_sUntold B_parts B_boxAll B_isBoxed G_hName G_iName G_bName ex) H ∧ va_S A s.heap H locs ∧ lv_has ls 5 [(2, .int (mI z_2593)), (1, .int (mI z_2594)), (0, .ref (a 0))] ∧ g = F0 m 4 ls []) ?_ _ ⟨0, 0, _, by omega, by omega, rfl, hP, hS, lv_sub hl [0, 1, 2] rfl, rfl⟩
  intro n_2737 H locs g hI ih_2738
  obtain ⟨z_2593, z_2594, ls, h4_0, h4_1, mn_2737, hP, hS, hl, rfl⟩ := hI
  refine lv_iload_n hx hb dX12_lowest_4 rfl (lv_at hl 0 rfl) ?_
  refine lv_aload_n hx hb dX12_lowest_5 rfl (lv_at hl 2 rfl) ?_
  refine g_i (rDt hD) hS hA (g_V (own := "HideReaderModel") (As := []) (rest := [.int (mI z_2593)]) hx hb hml hown hts hK hP (rDt hD) (kr_X12_stocks (l := l) (D := D) (k := k) h_x_bank b_B_herds) ck_X12_stocks iv_X12_stocks uw_8_126 (rv_o hK hP) rfl hl.1 rfl (Nat.le_of_ble_eq_true rfl) dX12_lowest_6 ⟨Nat.le_of_ble_eq_true rfl, Nat.le_of_ble_eq_true rfl⟩ ⟨Nat.le_of_ble_eq_true rfl, Nat.le_of_ble_eq_true rfl⟩) (fun r_2739 H locs hQ hS => ?_)
  obtain ⟨hr_2739_0, hP⟩ := hQ
  refine sy_icmp_ge (tgt := 68) hx hb dX12_lowest_9 (by decide) (by omega) (by omega) (fun c_2740 => ?_) (fun c_2740 => ?_)
  · skip
    refine lv_iload_n hx hb dX12_lowest_68 rfl (lv_at hl 1 rfl) ?_
    exact r_i hx hb hr hlocks dX12_lowest_69 hS ⟨by omega, hP⟩
  · skip
    refine lv_iconst (v := mI 1) hx hb dX12_lowest_12 rfl ?_
    refine lv_istore_n (lv' := [(3, .int (mI 1)), (2, .int (mI z_2593)), (1, .int (mI z_2594)), (0, .ref (a 0))]) hx hb dX12_lowest_13 rfl hl (by decide) rfl (fun ls hl => ?_)
    refine lv_iconst (v := mI 0) hx hb dX12_lowest_14 rfl ?_
    refine lv_istore (lv' := [(4, .int (mI 0)), (3, .int (mI 1)), (2, .int (mI z_2593)), (1, .int (mI z_2594)), (0, .ref (a 0))]) hx hb dX12_lowest_15 hl (by decide) rfl (fun ls hl => ?_)
    refine sy_loop (I := fun n H locs g => ∃ (z_2841 : Int) (z_2842 : Int) (ls : Array Slot), (0 ≤ z_2841 ∧ z_2841 ≤ 8) ∧ (0 ≤ z_2842 ∧ z_2842 ≤ 1) ∧ (8 - z_2841).toNat = n ∧ va_P D vwCl (rW k a x_taped x_size x_faultKind x_faultPlace x_at x_end x_token x_number x_bank x_rb x_codes x_within x_piled x_unitsInRule x_askBeast x_askStroke x_askAge x_askSeason x_acts x_undone x_laid x_seens x_time x_fitting n_name B_tape B_text B_turns B_herds B_irons B_beasts B_units B_night B_draw B_told B_brands B_ironMarks B_herdTold B_born B_ruleFrom B_ruleTo B_code B_codeNumber B_eWhat B_eSign B_pile B_all B_burned B_was B_need B_laidRow B_long8 B_brings B_sBurning B_sStroke B_sIs B_sTold B_sUntold B_parts B_boxAll B_isBoxed G_hName G_iName G_bName ex) H ∧ va_S A s.heap H locs ∧ lv_has ls 5 [(4, .int (mI z_2841)), (3, .int (mI z_2842)), (2, .int (mI z_2593)), (1, .int (mI z_2594)), (0, .ref (a 0))] ∧ g = F0 m 17 ls []) ?_ _ ⟨0, 1, _, by omega, by omega, rfl, hP, hS, lv_sub hl [0, 1, 2, 3, 4] rfl, rfl⟩
    intro n_2861 H locs g hI ih_2862
    obtain ⟨z_2841, z_2842, ls, h17_0, h17_1, mn_2861, hP, hS, hl, rfl⟩ := hI
    refine lv_iload hx hb dX12_lowest_17 (lv_at hl 0 rfl) ?_
    refine lv_aload_n hx hb dX12_lowest_19 rfl (lv_at hl 4 rfl) ?_
    refine g_i (rDt hD) hS hA (g_V (own := "HideReaderModel") (As := []) (rest := [.int (mI z_2841)]) hx hb hml hown hts hK hP (rDt hD) (kr_X12_stocks (l := l) (D := D) (k := k) h_x_bank b_B_herds) ck_X12_stocks iv_X12_stocks uw_8_126 (rv_o hK hP) rfl hl.1 rfl (Nat.le_of_ble_eq_true rfl) dX12_lowest_20 ⟨Nat.le_of_ble_eq_true rfl, Nat.le_of_ble_eq_true rfl⟩ ⟨Nat.le_of_ble_eq_true rfl, Nat.le_of_ble_eq_true rfl⟩) (fun r_2863 H locs hQ hS => ?_)
    obtain ⟨hr_2863_0, hP⟩ := hQ
    refine sy_icmp_ge (tgt := 52) hx hb dX12_lowest_23 (by decide) (by omega) (by omega) (fun c_2871 => ?_) (fun c_2871 => ?_)
    · skip
      refine lv_iload_n hx hb dX12_lowest_52 rfl (lv_at hl 1 rfl) ?_
      refine sy_if_eq (tgt := 62) hx hb dX12_lowest_53 (by decide) (by omega) (fun c_2872 => ?_) (fun c_2872 => ?_)
      · skip
        refine lv_iinc (v := mI (z_2593 + 1)) (lv' := [(2, .int (mI (z_2593 + 1))), (4, .int (mI z_2841)), (3, .int (mI z_2842)), (1, .int (mI z_2594)), (0, .ref (a 0))]) hx hb dX12_lowest_62 hl (k := 2) rfl (mI_ad rfl) (by decide) rfl (fun ls hl => ?_)
        refine lv_goto (tgt := 4) hx hb dX12_lowest_65 (by decide) ?_
        exact ih_2738 _ _ _ _ (by omega) ⟨(z_2593 + 1), z_2594, _, by omega, by omega, rfl, hP, hS, lv_sub hl [0, 3, 4] rfl, rfl⟩
      · skip
        refine lv_iload_n hx hb dX12_lowest_56 rfl (lv_at hl 3 rfl) ?_
        refine lv_iconst (v := mI 1) hx hb dX12_lowest_57 rfl ?_
        refine lv_iload_n hx hb dX12_lowest_58 rfl (lv_at hl 2 rfl) ?_
        refine sy_shl1 hx hb dX12_lowest_59 7 (by decide) 128 (by decide) (by omega) (fun z_2873 ez_2873 hz_2873 => ?_)
        refine sy_ior hx hb dX12_lowest_60 8 (by decide) 256 (by decide) (by omega) (by omega) (fun z_2874 hz_2874 => ?_)
        refine lv_istore_n (lv' := [(1, .int (mI z_2874)), (4, .int (mI z_2841)), (3, .int (mI z_2842)), (2, .int (mI z_2593)), (0, .ref (a 0))]) hx hb dX12_lowest_61 rfl hl (by decide) rfl (fun ls hl => ?_)
        refine lv_iinc (v := mI (z_2593 + 1)) (lv' := [(2, .int (mI (z_2593 + 1))), (1, .int (mI z_2874)), (4, .int (mI z_2841)), (3, .int (mI z_2842)), (0, .ref (a 0))]) hx hb dX12_lowest_62 hl (k := 3) rfl (mI_ad rfl) (by decide) rfl (fun ls hl => ?_)
        refine lv_goto (tgt := 4) hx hb dX12_lowest_65 (by decide) ?_
        exact ih_2738 _ _ _ _ (by omega) ⟨(z_2593 + 1), z_2874, _, by omega, by omega, rfl, hP, hS, lv_sub hl [0, 1, 4] rfl, rfl⟩
    · skip
      refine lv_iload_n hx hb dX12_lowest_26 rfl (lv_at hl 1 rfl) ?_
      refine sy_if_eq (tgt := 44) hx hb dX12_lowest_27 (by decide) (by omega) (fun c_2875 => ?_) (fun c_2875 => ?_)
      · skip
        refine lv_iconst (v := mI 0) hx hb dX12_lowest_44 rfl ?_
        refine lv_istore_n (lv' := [(3, .int (mI 0)), (4, .int (mI z_2841)), (2, .int (mI z_2593)), (1, .int (mI z_2594)), (0, .ref (a 0))]) hx hb dX12_lowest_45 rfl hl (by decide) rfl (fun ls hl => ?_)
        refine lv_iinc (v := mI (z_2841 + 1)) (lv' := [(4, .int (mI (z_2841 + 1))), (3, .int (mI 0)), (2, .int (mI z_2593)), (1, .int (mI z_2594)), (0, .ref (a 0))]) hx hb dX12_lowest_46 hl (k := 1) rfl (mI_ad rfl) (by decide) rfl (fun ls hl => ?_)
        refine lv_goto (tgt := 17) hx hb dX12_lowest_49 (by decide) ?_
        exact ih_2862 _ _ _ _ (by omega) ⟨(z_2841 + 1), 0, _, by omega, by omega, rfl, hP, hS, lv_sub hl [0, 1, 2, 3, 4] rfl, rfl⟩
      · skip
        refine lv_aload_n hx hb dX12_lowest_30 rfl (lv_at hl 4 rfl) ?_
        refine lv_iload hx hb dX12_lowest_31 (lv_at hl 0 rfl) ?_
        refine lv_iload_n hx hb dX12_lowest_33 rfl (lv_at hl 2 rfl) ?_
        refine g_i (rDt hD) hS hA (g_V (own := "HideReaderModel") (As := [.int (mI z_2841), .int (mI z_2593)]) (rest := []) hx hb hml hown hts hK hP (rDt hD) (kr_X12_isBelow (l := l) (D := D) (k := k) (by omega) (by omega) h_x_bank b_B_turns b_B_told b_B_brands) ck_X12_isBelow iv_X12_isBelow uw_9_78 (rv_o hK hP) rfl hl.1 rfl (Nat.le_of_ble_eq_true rfl) dX12_lowest_34 ⟨Nat.le_of_ble_eq_true rfl, Nat.le_of_ble_eq_true rfl⟩ ⟨Nat.le_of_ble_eq_true rfl, Nat.le_of_ble_eq_true rfl⟩) (fun r_2876 H locs hQ hS => ?_)
        obtain ⟨hq_r_2876, hP⟩ := hQ
        rcases hq_r_2876 with rfl | rfl
        · skip
          refine sy_if_ne (tgt := 44) hx hb dX12_lowest_37 (by decide) (by decide) (fun c9 => absurd c9 (by decide)) (fun c_2879 => ?_)
          refine lv_iconst (v := mI 1) hx hb dX12_lowest_40 rfl ?_
          refine lv_goto (tgt := 45) hx hb dX12_lowest_41 (by decide) ?_
          refine lv_istore_n (lv' := [(3, .int (mI 1)), (4, .int (mI z_2841)), (2, .int (mI z_2593)), (1, .int (mI z_2594)), (0, .ref (a 0))]) hx hb dX12_lowest_45 rfl hl (by decide) rfl (fun ls hl => ?_)
          refine lv_iinc (v := mI (z_2841 + 1)) (lv' := [(4, .int (mI (z_2841 + 1))), (3, .int (mI 1)), (2, .int (mI z_2593)), (1, .int (mI z_2594)), (0, .ref (a 0))]) hx hb dX12_lowest_46 hl (k := 1) rfl (mI_ad rfl) (by decide) rfl (fun ls hl => ?_)
          refine lv_goto (tgt := 17) hx hb dX12_lowest_49 (by decide) ?_
          exact ih_2862 _ _ _ _ (by omega) ⟨(z_2841 + 1), 1, _, by omega, by omega, rfl, hP, hS, lv_sub hl [0, 1, 2, 3, 4] rfl, rfl⟩
        · skip
          refine sy_if_ne (tgt := 44) hx hb dX12_lowest_37 (by decide) (by decide) (fun c_2880 => ?_) (fun c9 => absurd c9 (by decide))
          refine lv_iconst (v := mI 0) hx hb dX12_lowest_44 rfl ?_
          refine lv_istore_n (lv' := [(3, .int (mI 0)), (4, .int (mI z_2841)), (2, .int (mI z_2593)), (1, .int (mI z_2594)), (0, .ref (a 0))]) hx hb dX12_lowest_45 rfl hl (by decide) rfl (fun ls hl => ?_)
          refine lv_iinc (v := mI (z_2841 + 1)) (lv' := [(4, .int (mI (z_2841 + 1))), (3, .int (mI 0)), (2, .int (mI z_2593)), (1, .int (mI z_2594)), (0, .ref (a 0))]) hx hb dX12_lowest_46 hl (k := 1) rfl (mI_ad rfl) (by decide) rfl (fun ls hl => ?_)
          refine lv_goto (tgt := 17) hx hb dX12_lowest_49 (by decide) ?_
          exact ih_2862 _ _ _ _ (by omega) ⟨(z_2841 + 1), 0, _, by omega, by omega, rfl, hP, hS, lv_sub hl [0, 1, 2, 3, 4] rfl, rfl⟩
set_option maxHeartbeats 4000000 in
set_option maxRecDepth 100000 in
theorem kr_X12_highest (h_x_bank : 0 ≤ x_bank ∧ x_bank ≤ 1) (b_B_turns : bd (1) 4 B_turns) (b_B_herds : bd (0) 8 B_herds) (b_B_told : bd (0) 31 B_told) (b_B_brands : bd (0) 4095 B_brands) : MetG l D k yX12_highest cX12_highest 5 (some .int) 6 [.ref (a 0)] (rW k a x_taped x_size x_faultKind x_faultPlace x_at x_end x_token x_number x_bank x_rb x_codes x_within x_piled x_unitsInRule x_askBeast x_askStroke x_askAge x_askSeason x_acts x_undone x_laid x_seens x_time x_fitting n_name B_tape B_text B_turns B_herds B_irons B_beasts B_units B_night B_draw B_told B_brands B_ironMarks B_herdTold B_born B_ruleFrom B_ruleTo B_code B_codeNumber B_eWhat B_eSign B_pile B_all B_burned B_was B_need B_laidRow B_long8 B_brings B_sBurning B_sStroke B_sIs B_sTold B_sUntold B_parts B_boxAll B_isBoxed G_hName G_iName G_bName ex) (qGi (fun r0 H => (0 ≤ r0 ∧ r0 ≤ 255) ∧ va_P D vwCl (rW k a x_taped x_size x_faultKind x_faultPlace x_at x_end x_token x_number x_bank x_rb x_codes x_within x_piled x_unitsInRule x_askBeast x_askStroke x_askAge x_askSeason x_acts x_undone x_laid x_seens x_time x_fitting n_name B_tape B_text B_turns B_herds B_irons B_beasts B_units B_night B_draw B_told B_brands B_ironMarks B_herdTold B_born B_ruleFrom B_ruleTo B_code B_codeNumber B_eWhat B_eSign B_pile B_all B_burned B_was B_need B_laidRow B_long8 B_brings B_sBurning B_sStroke B_sIs B_sTold B_sUntold B_parts B_boxAll B_isBoxed G_hName G_iName G_bName ex) H)) := by
  refine metG_of 0 ck_X12_highest (Nat.le_of_ble_eq_true rfl) rMap (fun p e s m args below meth c A hx hb hml hr hlocks hown hts hK hD hA hP hS ls hl => ?_)
  have hown : s.vm.findClass "HideReaderModel" = some m.cls := hown
  have hl : lv_has ls 5 [(0, .ref (a 0))] := hl
  refine lv_iconst (v := mI 0) hx hb dX12_highest_0 rfl ?_
  refine lv_istore_n (lv' := [(1, .int (mI 0)), (0, .ref (a 0))]) hx hb dX12_highest_1 rfl hl (by decide) rfl (fun ls hl => ?_)
  refine lv_iconst (v := mI 0) hx hb dX12_highest_2 rfl ?_
  refine lv_istore_n (lv' := [(2, .int (mI 0)), (1, .int (mI 0)), (0, .ref (a 0))]) hx hb dX12_highest_3 rfl hl (by decide) rfl (fun ls hl => ?_)
  refine sy_loop (I := fun n H locs g => ∃ (z_2593 : Int) (z_2594 : Int) (ls : Array Slot), (0 ≤ z_2593 ∧ z_2593 ≤ 8) ∧ (0 ≤ z_2594 ∧ z_2594 ≤ 255) ∧ (8 - z_2593).toNat = n ∧ va_P D vwCl (rW k a x_taped x_size x_faultKind x_faultPlace x_at x_end x_token x_number x_bank x_rb x_codes x_within x_piled x_unitsInRule x_askBeast x_askStroke x_askAge x_askSeason x_acts x_undone x_laid x_seens x_time x_fitting n_name B_tape B_text B_turns B_herds B_irons B_beasts B_units B_night B_draw B_told B_brands B_ironMarks B_herdTold B_born B_ruleFrom B_ruleTo B_code B_codeNumber B_eWhat B_eSign B_pile B_all B_burned B_was B_need B_laidRow B_long8 B_brings B_sBurning B_sStroke B_sIs B_sTold B_sUntold B_parts B_boxAll B_isBoxed G_hName G_iName G_bName ex) H ∧ va_S A s.heap H locs ∧ lv_has ls 5 [(2, .int (mI z_2593)), (1, .int (mI z_2594)), (0, .ref (a 0))] ∧ g = F0 m 4 ls []) ?_ _ ⟨0, 0, _, by omega, by omega, rfl, hP, hS, lv_sub hl [0, 1, 2] rfl, rfl⟩
  intro n_2737 H locs g hI ih_2738
  obtain ⟨z_2593, z_2594, ls, h4_0, h4_1, mn_2737, hP, hS, hl, rfl⟩ := hI
  refine lv_iload_n hx hb dX12_highest_4 rfl (lv_at hl 0 rfl) ?_
  refine lv_aload_n hx hb dX12_highest_5 rfl (lv_at hl 2 rfl) ?_
  refine g_i (rDt hD) hS hA (g_V (own := "HideReaderModel") (As := []) (rest := [.int (mI z_2593)]) hx hb hml hown hts hK hP (rDt hD) (kr_X12_stocks (l := l) (D := D) (k := k) h_x_bank b_B_herds) ck_X12_stocks iv_X12_stocks uw_8_126 (rv_o hK hP) rfl hl.1 rfl (Nat.le_of_ble_eq_true rfl) dX12_highest_6 ⟨Nat.le_of_ble_eq_true rfl, Nat.le_of_ble_eq_true rfl⟩ ⟨Nat.le_of_ble_eq_true rfl, Nat.le_of_ble_eq_true rfl⟩) (fun r_2739 H locs hQ hS => ?_)
  obtain ⟨hr_2739_0, hP⟩ := hQ
  refine sy_icmp_ge (tgt := 68) hx hb dX12_highest_9 (by decide) (by omega) (by omega) (fun c_2740 => ?_) (fun c_2740 => ?_)
  · skip
    refine lv_iload_n hx hb dX12_highest_68 rfl (lv_at hl 1 rfl) ?_
    exact r_i hx hb hr hlocks dX12_highest_69 hS ⟨by omega, hP⟩
  · skip
    refine lv_iconst (v := mI 1) hx hb dX12_highest_12 rfl ?_
    refine lv_istore_n (lv' := [(3, .int (mI 1)), (2, .int (mI z_2593)), (1, .int (mI z_2594)), (0, .ref (a 0))]) hx hb dX12_highest_13 rfl hl (by decide) rfl (fun ls hl => ?_)
    refine lv_iconst (v := mI 0) hx hb dX12_highest_14 rfl ?_
    refine lv_istore (lv' := [(4, .int (mI 0)), (3, .int (mI 1)), (2, .int (mI z_2593)), (1, .int (mI z_2594)), (0, .ref (a 0))]) hx hb dX12_highest_15 hl (by decide) rfl (fun ls hl => ?_)
    refine sy_loop (I := fun n H locs g => ∃ (z_2841 : Int) (z_2842 : Int) (ls : Array Slot), (0 ≤ z_2841 ∧ z_2841 ≤ 8) ∧ (0 ≤ z_2842 ∧ z_2842 ≤ 1) ∧ (8 - z_2841).toNat = n ∧ va_P D vwCl (rW k a x_taped x_size x_faultKind x_faultPlace x_at x_end x_token x_number x_bank x_rb x_codes x_within x_piled x_unitsInRule x_askBeast x_askStroke x_askAge x_askSeason x_acts x_undone x_laid x_seens x_time x_fitting n_name B_tape B_text B_turns B_herds B_irons B_beasts B_units B_night B_draw B_told B_brands B_ironMarks B_herdTold B_born B_ruleFrom B_ruleTo B_code B_codeNumber B_eWhat B_eSign B_pile B_all B_burned B_was B_need B_laidRow B_long8 B_brings B_sBurning B_sStroke B_sIs B_sTold B_sUntold B_parts B_boxAll B_isBoxed G_hName G_iName G_bName ex) H ∧ va_S A s.heap H locs ∧ lv_has ls 5 [(4, .int (mI z_2841)), (3, .int (mI z_2842)), (2, .int (mI z_2593)), (1, .int (mI z_2594)), (0, .ref (a 0))] ∧ g = F0 m 17 ls []) ?_ _ ⟨0, 1, _, by omega, by omega, rfl, hP, hS, lv_sub hl [0, 1, 2, 3, 4] rfl, rfl⟩
    intro n_2861 H locs g hI ih_2862
    obtain ⟨z_2841, z_2842, ls, h17_0, h17_1, mn_2861, hP, hS, hl, rfl⟩ := hI
    refine lv_iload hx hb dX12_highest_17 (lv_at hl 0 rfl) ?_
    refine lv_aload_n hx hb dX12_highest_19 rfl (lv_at hl 4 rfl) ?_
    refine g_i (rDt hD) hS hA (g_V (own := "HideReaderModel") (As := []) (rest := [.int (mI z_2841)]) hx hb hml hown hts hK hP (rDt hD) (kr_X12_stocks (l := l) (D := D) (k := k) h_x_bank b_B_herds) ck_X12_stocks iv_X12_stocks uw_8_126 (rv_o hK hP) rfl hl.1 rfl (Nat.le_of_ble_eq_true rfl) dX12_highest_20 ⟨Nat.le_of_ble_eq_true rfl, Nat.le_of_ble_eq_true rfl⟩ ⟨Nat.le_of_ble_eq_true rfl, Nat.le_of_ble_eq_true rfl⟩) (fun r_2863 H locs hQ hS => ?_)
    obtain ⟨hr_2863_0, hP⟩ := hQ
    refine sy_icmp_ge (tgt := 52) hx hb dX12_highest_23 (by decide) (by omega) (by omega) (fun c_2871 => ?_) (fun c_2871 => ?_)
    · skip
      refine lv_iload_n hx hb dX12_highest_52 rfl (lv_at hl 1 rfl) ?_
      refine sy_if_eq (tgt := 62) hx hb dX12_highest_53 (by decide) (by omega) (fun c_2872 => ?_) (fun c_2872 => ?_)
      · skip
        refine lv_iinc (v := mI (z_2593 + 1)) (lv' := [(2, .int (mI (z_2593 + 1))), (4, .int (mI z_2841)), (3, .int (mI z_2842)), (1, .int (mI z_2594)), (0, .ref (a 0))]) hx hb dX12_highest_62 hl (k := 2) rfl (mI_ad rfl) (by decide) rfl (fun ls hl => ?_)
        refine lv_goto (tgt := 4) hx hb dX12_highest_65 (by decide) ?_
        exact ih_2738 _ _ _ _ (by omega) ⟨(z_2593 + 1), z_2594, _, by omega, by omega, rfl, hP, hS, lv_sub hl [0, 3, 4] rfl, rfl⟩
      · skip
        refine lv_iload_n hx hb dX12_highest_56 rfl (lv_at hl 3 rfl) ?_
        refine lv_iconst (v := mI 1) hx hb dX12_highest_57 rfl ?_
        refine lv_iload_n hx hb dX12_highest_58 rfl (lv_at hl 2 rfl) ?_
        refine sy_shl1 hx hb dX12_highest_59 7 (by decide) 128 (by decide) (by omega) (fun z_2873 ez_2873 hz_2873 => ?_)
        refine sy_ior hx hb dX12_highest_60 8 (by decide) 256 (by decide) (by omega) (by omega) (fun z_2874 hz_2874 => ?_)
        refine lv_istore_n (lv' := [(1, .int (mI z_2874)), (4, .int (mI z_2841)), (3, .int (mI z_2842)), (2, .int (mI z_2593)), (0, .ref (a 0))]) hx hb dX12_highest_61 rfl hl (by decide) rfl (fun ls hl => ?_)
        refine lv_iinc (v := mI (z_2593 + 1)) (lv' := [(2, .int (mI (z_2593 + 1))), (1, .int (mI z_2874)), (4, .int (mI z_2841)), (3, .int (mI z_2842)), (0, .ref (a 0))]) hx hb dX12_highest_62 hl (k := 3) rfl (mI_ad rfl) (by decide) rfl (fun ls hl => ?_)
        refine lv_goto (tgt := 4) hx hb dX12_highest_65 (by decide) ?_
        exact ih_2738 _ _ _ _ (by omega) ⟨(z_2593 + 1), z_2874, _, by omega, by omega, rfl, hP, hS, lv_sub hl [0, 1, 4] rfl, rfl⟩
    · skip
      refine lv_iload_n hx hb dX12_highest_26 rfl (lv_at hl 1 rfl) ?_
      refine sy_if_eq (tgt := 44) hx hb dX12_highest_27 (by decide) (by omega) (fun c_2875 => ?_) (fun c_2875 => ?_)
      · skip
        refine lv_iconst (v := mI 0) hx hb dX12_highest_44 rfl ?_
        refine lv_istore_n (lv' := [(3, .int (mI 0)), (4, .int (mI z_2841)), (2, .int (mI z_2593)), (1, .int (mI z_2594)), (0, .ref (a 0))]) hx hb dX12_highest_45 rfl hl (by decide) rfl (fun ls hl => ?_)
        refine lv_iinc (v := mI (z_2841 + 1)) (lv' := [(4, .int (mI (z_2841 + 1))), (3, .int (mI 0)), (2, .int (mI z_2593)), (1, .int (mI z_2594)), (0, .ref (a 0))]) hx hb dX12_highest_46 hl (k := 1) rfl (mI_ad rfl) (by decide) rfl (fun ls hl => ?_)
        refine lv_goto (tgt := 17) hx hb dX12_highest_49 (by decide) ?_
        exact ih_2862 _ _ _ _ (by omega) ⟨(z_2841 + 1), 0, _, by omega, by omega, rfl, hP, hS, lv_sub hl [0, 1, 2, 3, 4] rfl, rfl⟩
      · skip
        refine lv_aload_n hx hb dX12_highest_30 rfl (lv_at hl 4 rfl) ?_
        refine lv_iload_n hx hb dX12_highest_31 rfl (lv_at hl 2 rfl) ?_
        refine lv_iload hx hb dX12_highest_32 (lv_at hl 0 rfl) ?_
        refine g_i (rDt hD) hS hA (g_V (own := "HideReaderModel") (As := [.int (mI z_2593), .int (mI z_2841)]) (rest := []) hx hb hml hown hts hK hP (rDt hD) (kr_X12_isBelow (l := l) (D := D) (k := k) (by omega) (by omega) h_x_bank b_B_turns b_B_told b_B_brands) ck_X12_isBelow iv_X12_isBelow uw_9_78 (rv_o hK hP) rfl hl.1 rfl (Nat.le_of_ble_eq_true rfl) dX12_highest_34 ⟨Nat.le_of_ble_eq_true rfl, Nat.le_of_ble_eq_true rfl⟩ ⟨Nat.le_of_ble_eq_true rfl, Nat.le_of_ble_eq_true rfl⟩) (fun r_2876 H locs hQ hS => ?_)
        obtain ⟨hq_r_2876, hP⟩ := hQ
        rcases hq_r_2876 with rfl | rfl
        · skip
          refine sy_if_ne (tgt := 44) hx hb dX12_highest_37 (by decide) (by decide) (fun c9 => absurd c9 (by decide)) (fun c_2879 => ?_)
          refine lv_iconst (v := mI 1) hx hb dX12_highest_40 rfl ?_
          refine lv_goto (tgt := 45) hx hb dX12_highest_41 (by decide) ?_
          refine lv_istore_n (lv' := [(3, .int (mI 1)), (4, .int (mI z_2841)), (2, .int (mI z_2593)), (1, .int (mI z_2594)), (0, .ref (a 0))]) hx hb dX12_highest_45 rfl hl (by decide) rfl (fun ls hl => ?_)
          refine lv_iinc (v := mI (z_2841 + 1)) (lv' := [(4, .int (mI (z_2841 + 1))), (3, .int (mI 1)), (2, .int (mI z_2593)), (1, .int (mI z_2594)), (0, .ref (a 0))]) hx hb dX12_highest_46 hl (k := 1) rfl (mI_ad rfl) (by decide) rfl (fun ls hl => ?_)
          refine lv_goto (tgt := 17) hx hb dX12_highest_49 (by decide) ?_
          exact ih_2862 _ _ _ _ (by omega) ⟨(z_2841 + 1), 1, _, by omega, by omega, rfl, hP, hS, lv_sub hl [0, 1, 2, 3, 4] rfl, rfl⟩
        · skip
          refine sy_if_ne (tgt := 44) hx hb dX12_highest_37 (by decide) (by decide) (fun c_2880 => ?_) (fun c9 => absurd c9 (by decide))
          refine lv_iconst (v := mI 0) hx hb dX12_highest_44 rfl ?_
          refine lv_istore_n (lv' := [(3, .int (mI 0)), (4, .int (mI z_2841)), (2, .int (mI z_2593)), (1, .int (mI z_2594)), (0, .ref (a 0))]) hx hb dX12_highest_45 rfl hl (by decide) rfl (fun ls hl => ?_)
          refine lv_iinc (v := mI (z_2841 + 1)) (lv' := [(4, .int (mI (z_2841 + 1))), (3, .int (mI 0)), (2, .int (mI z_2593)), (1, .int (mI z_2594)), (0, .ref (a 0))]) hx hb dX12_highest_46 hl (k := 1) rfl (mI_ad rfl) (by decide) rfl (fun ls hl => ?_)
          refine lv_goto (tgt := 17) hx hb dX12_highest_49 (by decide) ?_
          exact ih_2862 _ _ _ _ (by omega) ⟨(z_2841 + 1), 0, _, by omega, by omega, rfl, hP, hS, lv_sub hl [0, 1, 2, 3, 4] rfl, rfl⟩
set_option maxHeartbeats 4000000 in
set_option maxRecDepth 100000 in
theorem kr_X12_closed (h_x_bank : 0 ≤ x_bank ∧ x_bank ≤ 1) (b_B_turns : bd (1) 4 B_turns) (b_B_herds : bd (0) 8 B_herds) (b_B_told : bd (0) 31 B_told) (b_B_brands : bd (0) 4095 B_brands) : MetG l D k yX12_closed cX12_closed 3 (some .int) 4 [.ref (a 0)] (rW k a x_taped x_size x_faultKind x_faultPlace x_at x_end x_token x_number x_bank x_rb x_codes x_within x_piled x_unitsInRule x_askBeast x_askStroke x_askAge x_askSeason x_acts x_undone x_laid x_seens x_time x_fitting n_name B_tape B_text B_turns B_herds B_irons B_beasts B_units B_night B_draw B_told B_brands B_ironMarks B_herdTold B_born B_ruleFrom B_ruleTo B_code B_codeNumber B_eWhat B_eSign B_pile B_all B_burned B_was B_need B_laidRow B_long8 B_brings B_sBurning B_sStroke B_sIs B_sTold B_sUntold B_parts B_boxAll B_isBoxed G_hName G_iName G_bName ex) (qGi (fun r0 H => (0 ≤ r0 ∧ r0 ≤ 1) ∧ va_P D vwCl (rW k a x_taped x_size x_faultKind x_faultPlace x_at x_end x_token x_number x_bank x_rb x_codes x_within x_piled x_unitsInRule x_askBeast x_askStroke x_askAge x_askSeason x_acts x_undone x_laid x_seens x_time x_fitting n_name B_tape B_text B_turns B_herds B_irons B_beasts B_units B_night B_draw B_told B_brands B_ironMarks B_herdTold B_born B_ruleFrom B_ruleTo B_code B_codeNumber B_eWhat B_eSign B_pile B_all B_burned B_was B_need B_laidRow B_long8 B_brings B_sBurning B_sStroke B_sIs B_sTold B_sUntold B_parts B_boxAll B_isBoxed G_hName G_iName G_bName ex) H)) := by
  refine metG_of 0 ck_X12_closed (Nat.le_of_ble_eq_true rfl) rMap (fun p e s m args below meth c A hx hb hml hr hlocks hown hts hK hD hA hP hS ls hl => ?_)
  have hown : s.vm.findClass "HideReaderModel" = some m.cls := hown
  have hl : lv_has ls 3 [(0, .ref (a 0))] := hl
  refine lv_iconst (v := mI 0) hx hb dX12_closed_0 rfl ?_
  refine lv_istore_n (lv' := [(1, .int (mI 0)), (0, .ref (a 0))]) hx hb dX12_closed_1 rfl hl (by decide) rfl (fun ls hl => ?_)
  refine sy_loop (I := fun n H locs g => ∃ (z_297 : Int) (ls : Array Slot), (0 ≤ z_297 ∧ z_297 ≤ 8) ∧ (8 - z_297).toNat = n ∧ va_P D vwCl (rW k a x_taped x_size x_faultKind x_faultPlace x_at x_end x_token x_number x_bank x_rb x_codes x_within x_piled x_unitsInRule x_askBeast x_askStroke x_askAge x_askSeason x_acts x_undone x_laid x_seens x_time x_fitting n_name B_tape B_text B_turns B_herds B_irons B_beasts B_units B_night B_draw B_told B_brands B_ironMarks B_herdTold B_born B_ruleFrom B_ruleTo B_code B_codeNumber B_eWhat B_eSign B_pile B_all B_burned B_was B_need B_laidRow B_long8 B_brings B_sBurning B_sStroke B_sIs B_sTold B_sUntold B_parts B_boxAll B_isBoxed G_hName G_iName G_bName ex) H ∧ va_S A s.heap H locs ∧ lv_has ls 3 [(1, .int (mI z_297)), (0, .ref (a 0))] ∧ g = F0 m 2 ls []) ?_ _ ⟨0, _, by omega, rfl, hP, hS, lv_sub hl [0, 1] rfl, rfl⟩
  intro n_357 H locs g hI ih_358
  obtain ⟨z_297, ls, h2_0, mn_357, hP, hS, hl, rfl⟩ := hI
  refine lv_iload_n hx hb dX12_closed_2 rfl (lv_at hl 0 rfl) ?_
  refine lv_aload_n hx hb dX12_closed_3 rfl (lv_at hl 1 rfl) ?_
  refine g_i (rDt hD) hS hA (g_V (own := "HideReaderModel") (As := []) (rest := [.int (mI z_297)]) hx hb hml hown hts hK hP (rDt hD) (kr_X12_stocks (l := l) (D := D) (k := k) h_x_bank b_B_herds) ck_X12_stocks iv_X12_stocks uw_8_126 (rv_o hK hP) rfl hl.1 rfl (Nat.le_of_ble_eq_true rfl) dX12_closed_4 ⟨Nat.le_of_ble_eq_true rfl, Nat.le_of_ble_eq_true rfl⟩ ⟨Nat.le_of_ble_eq_true rfl, Nat.le_of_ble_eq_true rfl⟩) (fun r_359 H locs hQ hS => ?_)
  obtain ⟨hr_359_0, hP⟩ := hQ
  refine sy_icmp_ge (tgt := 56) hx hb dX12_closed_7 (by decide) (by omega) (by omega) (fun c_360 => ?_) (fun c_360 => ?_)
  · skip
    refine lv_iconst (v := mI 1) hx hb dX12_closed_56 rfl ?_
    exact r_i hx hb hr hlocks dX12_closed_57 hS ⟨by omega, hP⟩
  · skip
    refine lv_iconst (v := mI 0) hx hb dX12_closed_10 rfl ?_
    refine lv_istore_n (lv' := [(2, .int (mI 0)), (1, .int (mI z_297)), (0, .ref (a 0))]) hx hb dX12_closed_11 rfl hl (by decide) rfl (fun ls hl => ?_)
    refine sy_loop (I := fun n H locs g => ∃ (z_401 : Int) (ls : Array Slot), (0 ≤ z_401 ∧ z_401 ≤ 8) ∧ (8 - z_401).toNat = n ∧ va_P D vwCl (rW k a x_taped x_size x_faultKind x_faultPlace x_at x_end x_token x_number x_bank x_rb x_codes x_within x_piled x_unitsInRule x_askBeast x_askStroke x_askAge x_askSeason x_acts x_undone x_laid x_seens x_time x_fitting n_name B_tape B_text B_turns B_herds B_irons B_beasts B_units B_night B_draw B_told B_brands B_ironMarks B_herdTold B_born B_ruleFrom B_ruleTo B_code B_codeNumber B_eWhat B_eSign B_pile B_all B_burned B_was B_need B_laidRow B_long8 B_brings B_sBurning B_sStroke B_sIs B_sTold B_sUntold B_parts B_boxAll B_isBoxed G_hName G_iName G_bName ex) H ∧ va_S A s.heap H locs ∧ lv_has ls 3 [(2, .int (mI z_401)), (1, .int (mI z_297)), (0, .ref (a 0))] ∧ g = F0 m 12 ls []) ?_ _ ⟨0, _, by omega, rfl, hP, hS, lv_sub hl [0, 1, 2] rfl, rfl⟩
    intro n_409 H locs g hI ih_410
    obtain ⟨z_401, ls, h12_0, mn_409, hP, hS, hl, rfl⟩ := hI
    refine lv_iload_n hx hb dX12_closed_12 rfl (lv_at hl 0 rfl) ?_
    refine lv_aload_n hx hb dX12_closed_13 rfl (lv_at hl 2 rfl) ?_
    refine g_i (rDt hD) hS hA (g_V (own := "HideReaderModel") (As := []) (rest := [.int (mI z_401)]) hx hb hml hown hts hK hP (rDt hD) (kr_X12_stocks (l := l) (D := D) (k := k) h_x_bank b_B_herds) ck_X12_stocks iv_X12_stocks uw_8_126 (rv_o hK hP) rfl hl.1 rfl (Nat.le_of_ble_eq_true rfl) dX12_closed_14 ⟨Nat.le_of_ble_eq_true rfl, Nat.le_of_ble_eq_true rfl⟩ ⟨Nat.le_of_ble_eq_true rfl, Nat.le_of_ble_eq_true rfl⟩) (fun r_411 H locs hQ hS => ?_)
    obtain ⟨hr_411_0, hP⟩ := hQ
    refine sy_icmp_ge (tgt := 50) hx hb dX12_closed_17 (by decide) (by omega) (by omega) (fun c_412 => ?_) (fun c_412 => ?_)
    · skip
      refine lv_iinc (v := mI (z_297 + 1)) (lv' := [(1, .int (mI (z_297 + 1))), (2, .int (mI z_401)), (0, .ref (a 0))]) hx hb dX12_closed_50 hl (k := 1) rfl (mI_ad rfl) (by decide) rfl (fun ls hl => ?_)
      refine lv_goto (tgt := 2) hx hb dX12_closed_53 (by decide) ?_
      exact ih_358 _ _ _ _ (by omega) ⟨(z_297 + 1), _, by omega, rfl, hP, hS, lv_sub hl [0, 2] rfl, rfl⟩
    · skip
      refine lv_iload_n hx hb dX12_closed_20 rfl (lv_at hl 1 rfl) ?_
      refine lv_iload_n hx hb dX12_closed_21 rfl (lv_at hl 0 rfl) ?_
      refine sy_icmp_eq (tgt := 44) hx hb dX12_closed_22 (by decide) (by omega) (by omega) (fun c_413 => ?_) (fun c_413 => ?_)
      · skip
        refine lv_iinc (v := mI (z_401 + 1)) (lv' := [(2, .int (mI (z_401 + 1))), (1, .int (mI z_297)), (0, .ref (a 0))]) hx hb dX12_closed_44 hl (k := 0) rfl (mI_ad rfl) (by decide) rfl (fun ls hl => ?_)
        refine lv_goto (tgt := 12) hx hb dX12_closed_47 (by decide) ?_
        exact ih_410 _ _ _ _ (by omega) ⟨(z_401 + 1), _, by omega, rfl, hP, hS, lv_sub hl [0, 1, 2] rfl, rfl⟩
      · skip
        refine lv_aload_n hx hb dX12_closed_25 rfl (lv_at hl 2 rfl) ?_
        refine lv_aload_n hx hb dX12_closed_26 rfl (lv_at hl 2 rfl) ?_
        refine lv_iload_n hx hb dX12_closed_27 rfl (lv_at hl 1 rfl) ?_
        refine g_i (rDt hD) hS hA (g_V (own := "HideReaderModel") (As := [.int (mI z_297)]) (rest := [.ref (a 0)]) hx hb hml hown hts hK hP (rDt hD) (kr_X12_brandOf (l := l) (D := D) (k := k) (by omega) h_x_bank b_B_brands) ck_X12_brandOf iv_X12_brandOf uw_6_220 (rv_o hK hP) rfl hl.1 rfl (Nat.le_of_ble_eq_true rfl) dX12_closed_28 ⟨Nat.le_of_ble_eq_true rfl, Nat.le_of_ble_eq_true rfl⟩ ⟨Nat.le_of_ble_eq_true rfl, Nat.le_of_ble_eq_true rfl⟩) (fun r_414 H locs hQ hS => ?_)
        obtain ⟨hr_414_0, hP⟩ := hQ
        refine lv_aload_n hx hb dX12_closed_31 rfl (lv_at hl 2 rfl) ?_
        refine lv_iload_n hx hb dX12_closed_32 rfl (lv_at hl 0 rfl) ?_
        refine g_i (rDt hD) hS hA (g_V (own := "HideReaderModel") (As := [.int (mI z_401)]) (rest := [.int (mI r_414), .ref (a 0)]) hx hb hml hown hts hK hP (rDt hD) (kr_X12_brandOf (l := l) (D := D) (k := k) (by omega) h_x_bank b_B_brands) ck_X12_brandOf iv_X12_brandOf uw_6_220 (rv_o hK hP) rfl hl.1 rfl (Nat.le_of_ble_eq_true rfl) dX12_closed_33 ⟨Nat.le_of_ble_eq_true rfl, Nat.le_of_ble_eq_true rfl⟩ ⟨Nat.le_of_ble_eq_true rfl, Nat.le_of_ble_eq_true rfl⟩) (fun r_415 H locs hQ hS => ?_)
        obtain ⟨hr_415_0, hP⟩ := hQ
        refine g_i (rDt hD) hS hA (g_V (own := "HideReaderModel") (As := [.int (mI r_414), .int (mI r_415)]) (rest := []) hx hb hml hown hts hK hP (rDt hD) (kr_X12_isUnder (l := l) (D := D) (k := k) (by omega) (by omega) h_x_bank b_B_turns b_B_told) ck_X12_isUnder iv_X12_isUnder uw_8_186 (rv_o hK hP) rfl hl.1 rfl (Nat.le_of_ble_eq_true rfl) dX12_closed_36 ⟨Nat.le_of_ble_eq_true rfl, Nat.le_of_ble_eq_true rfl⟩ ⟨Nat.le_of_ble_eq_true rfl, Nat.le_of_ble_eq_true rfl⟩) (fun r_416 H locs hQ hS => ?_)
        obtain ⟨hr_416_0, hP⟩ := hQ
        refine sy_if_eq (tgt := 44) hx hb dX12_closed_39 (by decide) (by omega) (fun c_417 => ?_) (fun c_417 => ?_)
        · skip
          refine lv_iinc (v := mI (z_401 + 1)) (lv' := [(2, .int (mI (z_401 + 1))), (1, .int (mI z_297)), (0, .ref (a 0))]) hx hb dX12_closed_44 hl (k := 0) rfl (mI_ad rfl) (by decide) rfl (fun ls hl => ?_)
          refine lv_goto (tgt := 12) hx hb dX12_closed_47 (by decide) ?_
          exact ih_410 _ _ _ _ (by omega) ⟨(z_401 + 1), _, by omega, rfl, hP, hS, lv_sub hl [0, 1, 2] rfl, rfl⟩
        · skip
          refine lv_iconst (v := mI 0) hx hb dX12_closed_42 rfl ?_
          exact r_i hx hb hr hlocks dX12_closed_43 hS ⟨by omega, hP⟩
set_option maxHeartbeats 4000000 in
set_option maxRecDepth 100000 in
theorem kr_X12_twins (h_x_bank : 0 ≤ x_bank ∧ x_bank ≤ 1) (b_B_turns : bd (1) 4 B_turns) (b_B_herds : bd (0) 8 B_herds) (b_B_told : bd (0) 31 B_told) (b_B_brands : bd (0) 4095 B_brands) : MetG l D k yX12_twins cX12_twins 4 (some .int) 5 [.ref (a 0)] (rW k a x_taped x_size x_faultKind x_faultPlace x_at x_end x_token x_number x_bank x_rb x_codes x_within x_piled x_unitsInRule x_askBeast x_askStroke x_askAge x_askSeason x_acts x_undone x_laid x_seens x_time x_fitting n_name B_tape B_text B_turns B_herds B_irons B_beasts B_units B_night B_draw B_told B_brands B_ironMarks B_herdTold B_born B_ruleFrom B_ruleTo B_code B_codeNumber B_eWhat B_eSign B_pile B_all B_burned B_was B_need B_laidRow B_long8 B_brings B_sBurning B_sStroke B_sIs B_sTold B_sUntold B_parts B_boxAll B_isBoxed G_hName G_iName G_bName ex) (qGi (fun r0 H => (-2147483648 ≤ r0 ∧ r0 ≤ 2147483647) ∧ va_P D vwCl (rW k a x_taped x_size x_faultKind x_faultPlace x_at x_end x_token x_number x_bank x_rb x_codes x_within x_piled x_unitsInRule x_askBeast x_askStroke x_askAge x_askSeason x_acts x_undone x_laid x_seens x_time x_fitting n_name B_tape B_text B_turns B_herds B_irons B_beasts B_units B_night B_draw B_told B_brands B_ironMarks B_herdTold B_born B_ruleFrom B_ruleTo B_code B_codeNumber B_eWhat B_eSign B_pile B_all B_burned B_was B_need B_laidRow B_long8 B_brings B_sBurning B_sStroke B_sIs B_sTold B_sUntold B_parts B_boxAll B_isBoxed G_hName G_iName G_bName ex) H)) := by
  refine metG_of 0 ck_X12_twins (Nat.le_of_ble_eq_true rfl) rMap (fun p e s m args below meth c A hx hb hml hr hlocks hown hts hK hD hA hP hS ls hl => ?_)
  have hown : s.vm.findClass "HideReaderModel" = some m.cls := hown
  have hl : lv_has ls 4 [(0, .ref (a 0))] := hl
  refine lv_iconst (v := mI 0) hx hb dX12_twins_0 rfl ?_
  refine lv_istore_n (lv' := [(1, .int (mI 0)), (0, .ref (a 0))]) hx hb dX12_twins_1 rfl hl (by decide) rfl (fun ls hl => ?_)
  refine lv_iconst (v := mI 0) hx hb dX12_twins_2 rfl ?_
  refine lv_istore_n (lv' := [(2, .int (mI 0)), (1, .int (mI 0)), (0, .ref (a 0))]) hx hb dX12_twins_3 rfl hl (by decide) rfl (fun ls hl => ?_)
  refine sy_loop (I := fun n H locs g => ∃ (z_6066 : Int) (z_6067 : Int) (ls : Array Slot), (0 ≤ z_6066 ∧ z_6066 ≤ 8) ∧ (-2147483648 ≤ z_6067 ∧ z_6067 ≤ 2147483647) ∧ (8 - z_6066).toNat = n ∧ va_P D vwCl (rW k a x_taped x_size x_faultKind x_faultPlace x_at x_end x_token x_number x_bank x_rb x_codes x_within x_piled x_unitsInRule x_askBeast x_askStroke x_askAge x_askSeason x_acts x_undone x_laid x_seens x_time x_fitting n_name B_tape B_text B_turns B_herds B_irons B_beasts B_units B_night B_draw B_told B_brands B_ironMarks B_herdTold B_born B_ruleFrom B_ruleTo B_code B_codeNumber B_eWhat B_eSign B_pile B_all B_burned B_was B_need B_laidRow B_long8 B_brings B_sBurning B_sStroke B_sIs B_sTold B_sUntold B_parts B_boxAll B_isBoxed G_hName G_iName G_bName ex) H ∧ va_S A s.heap H locs ∧ lv_has ls 4 [(2, .int (mI z_6066)), (1, .int (mI z_6067)), (0, .ref (a 0))] ∧ g = F0 m 4 ls []) ?_ _ ⟨0, 0, _, by omega, by omega, rfl, hP, hS, lv_sub hl [0, 1, 2] rfl, rfl⟩
  intro n_6154 H locs g hI ih_6155
  obtain ⟨z_6066, z_6067, ls, h4_0, h4_1, mn_6154, hP, hS, hl, rfl⟩ := hI
  refine lv_iload_n hx hb dX12_twins_4 rfl (lv_at hl 0 rfl) ?_
  refine lv_aload_n hx hb dX12_twins_5 rfl (lv_at hl 2 rfl) ?_
  refine g_i (rDt hD) hS hA (g_V (own := "HideReaderModel") (As := []) (rest := [.int (mI z_6066)]) hx hb hml hown hts hK hP (rDt hD) (kr_X12_stocks (l := l) (D := D) (k := k) h_x_bank b_B_herds) ck_X12_stocks iv_X12_stocks uw_8_126 (rv_o hK hP) rfl hl.1 rfl (Nat.le_of_ble_eq_true rfl) dX12_twins_6 ⟨Nat.le_of_ble_eq_true rfl, Nat.le_of_ble_eq_true rfl⟩ ⟨Nat.le_of_ble_eq_true rfl, Nat.le_of_ble_eq_true rfl⟩) (fun r_6156 H locs hQ hS => ?_)
  obtain ⟨hr_6156_0, hP⟩ := hQ
  refine sy_icmp_ge (tgt := 56) hx hb dX12_twins_9 (by decide) (by omega) (by omega) (fun c_6157 => ?_) (fun c_6157 => ?_)
  · skip
    refine lv_iload_n hx hb dX12_twins_56 rfl (lv_at hl 1 rfl) ?_
    exact r_i hx hb hr hlocks dX12_twins_57 hS ⟨by omega, hP⟩
  · skip
    refine lv_iconst (v := mI 0) hx hb dX12_twins_12 rfl ?_
    refine lv_istore_n (lv' := [(3, .int (mI 0)), (2, .int (mI z_6066)), (1, .int (mI z_6067)), (0, .ref (a 0))]) hx hb dX12_twins_13 rfl hl (by decide) rfl (fun ls hl => ?_)
    refine sy_loop (I := fun n H locs g => ∃ (z_6220 : Int) (z_6221 : Int) (ls : Array Slot), (0 ≤ z_6220 ∧ z_6220 ≤ 7) ∧ (-2147483648 ≤ z_6221 ∧ z_6221 ≤ 2147483647) ∧ (7 - z_6220).toNat = n ∧ va_P D vwCl (rW k a x_taped x_size x_faultKind x_faultPlace x_at x_end x_token x_number x_bank x_rb x_codes x_within x_piled x_unitsInRule x_askBeast x_askStroke x_askAge x_askSeason x_acts x_undone x_laid x_seens x_time x_fitting n_name B_tape B_text B_turns B_herds B_irons B_beasts B_units B_night B_draw B_told B_brands B_ironMarks B_herdTold B_born B_ruleFrom B_ruleTo B_code B_codeNumber B_eWhat B_eSign B_pile B_all B_burned B_was B_need B_laidRow B_long8 B_brings B_sBurning B_sStroke B_sIs B_sTold B_sUntold B_parts B_boxAll B_isBoxed G_hName G_iName G_bName ex) H ∧ va_S A s.heap H locs ∧ lv_has ls 4 [(3, .int (mI z_6220)), (2, .int (mI z_6066)), (1, .int (mI z_6221)), (0, .ref (a 0))] ∧ g = F0 m 14 ls []) ?_ _ ⟨0, z_6067, _, by omega, by omega, rfl, hP, hS, lv_sub hl [0, 1, 2, 3] rfl, rfl⟩
    intro n_6231 H locs g hI ih_6232
    obtain ⟨z_6220, z_6221, ls, h14_0, h14_1, mn_6231, hP, hS, hl, rfl⟩ := hI
    refine lv_iload_n hx hb dX12_twins_14 rfl (lv_at hl 0 rfl) ?_
    refine lv_iload_n hx hb dX12_twins_15 rfl (lv_at hl 1 rfl) ?_
    refine sy_icmp_ge (tgt := 50) hx hb dX12_twins_16 (by decide) (by omega) (by omega) (fun c_6233 => ?_) (fun c_6233 => ?_)
    · skip
      refine lv_iinc (v := mI (z_6066 + 1)) (lv' := [(2, .int (mI (z_6066 + 1))), (3, .int (mI z_6220)), (1, .int (mI z_6221)), (0, .ref (a 0))]) hx hb dX12_twins_50 hl (k := 1) rfl (mI_ad rfl) (by decide) rfl (fun ls hl => ?_)
      refine lv_goto (tgt := 4) hx hb dX12_twins_53 (by decide) ?_
      exact ih_6155 _ _ _ _ (by omega) ⟨(z_6066 + 1), z_6221, _, by omega, by omega, rfl, hP, hS, lv_sub hl [0, 2, 3] rfl, rfl⟩
    · skip
      refine lv_iload_n hx hb dX12_twins_19 rfl (lv_at hl 2 rfl) ?_
      refine lv_aload_n hx hb dX12_twins_20 rfl (lv_at hl 3 rfl) ?_
      refine lv_aload_n hx hb dX12_twins_21 rfl (lv_at hl 3 rfl) ?_
      refine lv_iload_n hx hb dX12_twins_22 rfl (lv_at hl 1 rfl) ?_
      refine g_i (rDt hD) hS hA (g_V (own := "HideReaderModel") (As := [.int (mI z_6066)]) (rest := [.ref (a 0), .int (mI z_6221)]) hx hb hml hown hts hK hP (rDt hD) (kr_X12_brandOf (l := l) (D := D) (k := k) (by omega) h_x_bank b_B_brands) ck_X12_brandOf iv_X12_brandOf uw_6_220 (rv_o hK hP) rfl hl.1 rfl (Nat.le_of_ble_eq_true rfl) dX12_twins_23 ⟨Nat.le_of_ble_eq_true rfl, Nat.le_of_ble_eq_true rfl⟩ ⟨Nat.le_of_ble_eq_true rfl, Nat.le_of_ble_eq_true rfl⟩) (fun r_6234 H locs hQ hS => ?_)
      obtain ⟨hr_6234_0, hP⟩ := hQ
      refine lv_aload_n hx hb dX12_twins_26 rfl (lv_at hl 3 rfl) ?_
      refine lv_iload_n hx hb dX12_twins_27 rfl (lv_at hl 0 rfl) ?_
      refine g_i (rDt hD) hS hA (g_V (own := "HideReaderModel") (As := [.int (mI z_6220)]) (rest := [.int (mI r_6234), .ref (a 0), .int (mI z_6221)]) hx hb hml hown hts hK hP (rDt hD) (kr_X12_brandOf (l := l) (D := D) (k := k) (by omega) h_x_bank b_B_brands) ck_X12_brandOf iv_X12_brandOf uw_6_220 (rv_o hK hP) rfl hl.1 rfl (Nat.le_of_ble_eq_true rfl) dX12_twins_28 ⟨Nat.le_of_ble_eq_true rfl, Nat.le_of_ble_eq_true rfl⟩ ⟨Nat.le_of_ble_eq_true rfl, Nat.le_of_ble_eq_true rfl⟩) (fun r_6235 H locs hQ hS => ?_)
      obtain ⟨hr_6235_0, hP⟩ := hQ
      refine g_i (rDt hD) hS hA (g_V (own := "HideReaderModel") (As := [.int (mI r_6234), .int (mI r_6235)]) (rest := [.int (mI z_6221)]) hx hb hml hown hts hK hP (rDt hD) (kr_X12_areOne (l := l) (D := D) (k := k) (by omega) (by omega) h_x_bank b_B_turns b_B_told) ck_X12_areOne iv_X12_areOne uw_8_210 (rv_o hK hP) rfl hl.1 rfl (Nat.le_of_ble_eq_true rfl) dX12_twins_31 ⟨Nat.le_of_ble_eq_true rfl, Nat.le_of_ble_eq_true rfl⟩ ⟨Nat.le_of_ble_eq_true rfl, Nat.le_of_ble_eq_true rfl⟩) (fun r_6236 H locs hQ hS => ?_)
      obtain ⟨hq_r_6236, hP⟩ := hQ
      rcases hq_r_6236 with rfl | rfl
      · skip
        refine sy_if_eq (tgt := 41) hx hb dX12_twins_34 (by decide) (by decide) (fun c_6239 => ?_) (fun c9 => absurd c9 (by decide))
        refine lv_iconst (v := mI 0) hx hb dX12_twins_41 rfl ?_
        refine sy_iadd hx hb dX12_twins_42 z_6221 (by omega) ?_
        refine lv_istore_n (lv' := [(1, .int (mI z_6221)), (3, .int (mI z_6220)), (2, .int (mI z_6066)), (0, .ref (a 0))]) hx hb dX12_twins_43 rfl hl (by decide) rfl (fun ls hl => ?_)
        refine lv_iinc (v := mI (z_6220 + 1)) (lv' := [(3, .int (mI (z_6220 + 1))), (1, .int (mI z_6221)), (2, .int (mI z_6066)), (0, .ref (a 0))]) hx hb dX12_twins_44 hl (k := 1) rfl (mI_ad rfl) (by decide) rfl (fun ls hl => ?_)
        refine lv_goto (tgt := 14) hx hb dX12_twins_47 (by decide) ?_
        exact ih_6232 _ _ _ _ (by omega) ⟨(z_6220 + 1), z_6221, _, by omega, by omega, rfl, hP, hS, lv_sub hl [0, 2, 1, 3] rfl, rfl⟩
      · skip
        refine sy_if_eq (tgt := 41) hx hb dX12_twins_34 (by decide) (by decide) (fun c9 => absurd c9 (by decide)) (fun c_6240 => ?_)
        refine lv_iconst (v := mI 1) hx hb dX12_twins_37 rfl ?_
        refine lv_goto (tgt := 42) hx hb dX12_twins_38 (by decide) ?_
        refine sy_iadd hx hb dX12_twins_42 (z_6221 + 1) rfl ?_
        refine sy_any (fun z_6241 hz_6241 => ?_)
        refine lv_istore_n (lv' := [(1, .int (mI z_6241)), (3, .int (mI z_6220)), (2, .int (mI z_6066)), (0, .ref (a 0))]) hx hb dX12_twins_43 rfl hl (by decide) rfl (fun ls hl => ?_)
        refine lv_iinc (v := mI (z_6220 + 1)) (lv' := [(3, .int (mI (z_6220 + 1))), (1, .int (mI z_6241)), (2, .int (mI z_6066)), (0, .ref (a 0))]) hx hb dX12_twins_44 hl (k := 1) rfl (mI_ad rfl) (by decide) rfl (fun ls hl => ?_)
        refine lv_goto (tgt := 14) hx hb dX12_twins_47 (by decide) ?_
        exact ih_6232 _ _ _ _ (by omega) ⟨(z_6220 + 1), z_6241, _, by omega, by omega, rfl, hP, hS, lv_sub hl [0, 2, 1, 3] rfl, rfl⟩
set_option maxHeartbeats 4000000 in
set_option maxRecDepth 100000 in
theorem kr_X12_differ {p0 p1 : Int} (hp0 : 0 ≤ p0 ∧ p0 ≤ 4095) (hp1 : 0 ≤ p1 ∧ p1 ≤ 4095) (h_x_bank : 0 ≤ x_bank ∧ x_bank ≤ 1) (b_B_turns : bd (1) 4 B_turns) (b_B_told : bd (0) 31 B_told) : MetG l D k yX12_differ cX12_differ 6 (some .int) 3 [.ref (a 0), .int (mI p0), .int (mI p1)] (rW k a x_taped x_size x_faultKind x_faultPlace x_at x_end x_token x_number x_bank x_rb x_codes x_within x_piled x_unitsInRule x_askBeast x_askStroke x_askAge x_askSeason x_acts x_undone x_laid x_seens x_time x_fitting n_name B_tape B_text B_turns B_herds B_irons B_beasts B_units B_night B_draw B_told B_brands B_ironMarks B_herdTold B_born B_ruleFrom B_ruleTo B_code B_codeNumber B_eWhat B_eSign B_pile B_all B_burned B_was B_need B_laidRow B_long8 B_brings B_sBurning B_sStroke B_sIs B_sTold B_sUntold B_parts B_boxAll B_isBoxed G_hName G_iName G_bName ex) (qGi (fun r0 H => (-2147483648 ≤ r0 ∧ r0 ≤ 12) ∧ va_P D vwCl (rW k a x_taped x_size x_faultKind x_faultPlace x_at x_end x_token x_number x_bank x_rb x_codes x_within x_piled x_unitsInRule x_askBeast x_askStroke x_askAge x_askSeason x_acts x_undone x_laid x_seens x_time x_fitting n_name B_tape B_text B_turns B_herds B_irons B_beasts B_units B_night B_draw B_told B_brands B_ironMarks B_herdTold B_born B_ruleFrom B_ruleTo B_code B_codeNumber B_eWhat B_eSign B_pile B_all B_burned B_was B_need B_laidRow B_long8 B_brings B_sBurning B_sStroke B_sIs B_sTold B_sUntold B_parts B_boxAll B_isBoxed G_hName G_iName G_bName ex) H)) := by
  refine metG_of 2 ck_X12_differ (Nat.le_of_ble_eq_true rfl) rMap (fun p e s m args below meth c A hx hb hml hr hlocks hown hts hK hD hA hP hS ls hl => ?_)
  have hown : s.vm.findClass "HideReaderModel" = some m.cls := hown
  have hl : lv_has ls 6 [(0, .ref (a 0)), (1, .int (mI p0)), (2, .int (mI p1))] := hl
  refine lv_bipush (v := mI 12) hx hb dX12_differ_0 (by decide) ?_
  refine lv_istore_n (lv' := [(3, .int (mI 12)), (0, .ref (a 0)), (1, .int (mI p0)), (2, .int (mI p1))]) hx hb dX12_differ_2 rfl hl (by decide) rfl (fun ls hl => ?_)
  refine lv_iconst (v := mI 0) hx hb dX12_differ_3 rfl ?_
  refine lv_istore (lv' := [(4, .int (mI 0)), (3, .int (mI 12)), (0, .ref (a 0)), (1, .int (mI p0)), (2, .int (mI p1))]) hx hb dX12_differ_4 hl (by decide) rfl (fun ls hl => ?_)
  refine sy_loop (I := fun n H locs g => ∃ (z_73 : Int) (z_74 : Int) (ls : Array Slot), (0 ≤ z_73 ∧ z_73 ≤ 8) ∧ (-2147483648 ≤ z_74 ∧ z_74 ≤ 12) ∧ (8 - z_73).toNat = n ∧ va_P D vwCl (rW k a x_taped x_size x_faultKind x_faultPlace x_at x_end x_token x_number x_bank x_rb x_codes x_within x_piled x_unitsInRule x_askBeast x_askStroke x_askAge x_askSeason x_acts x_undone x_laid x_seens x_time x_fitting n_name B_tape B_text B_turns B_herds B_irons B_beasts B_units B_night B_draw B_told B_brands B_ironMarks B_herdTold B_born B_ruleFrom B_ruleTo B_code B_codeNumber B_eWhat B_eSign B_pile B_all B_burned B_was B_need B_laidRow B_long8 B_brings B_sBurning B_sStroke B_sIs B_sTold B_sUntold B_parts B_boxAll B_isBoxed G_hName G_iName G_bName ex) H ∧ va_S A s.heap H locs ∧ lv_has ls 6 [(4, .int (mI z_73)), (3, .int (mI z_74)), (0, .ref (a 0)), (1, .int (mI p0)), (2, .int (mI p1))] ∧ g = F0 m 6 ls []) ?_ _ ⟨0, 12, _, by omega, by omega, rfl, hP, hS, lv_sub hl [0, 1, 2, 3, 4] rfl, rfl⟩
  intro n_81 H locs g hI ih_82
  obtain ⟨z_73, z_74, ls, h6_0, h6_1, mn_81, hP, hS, hl, rfl⟩ := hI
  refine lv_iload hx hb dX12_differ_6 (lv_at hl 0 rfl) ?_
  refine lv_aload_n hx hb dX12_differ_8 rfl (lv_at hl 2 rfl) ?_
  refine g_i (rDt hD) hS hA (g_V (own := "HideReaderModel") (As := []) (rest := [.int (mI z_73)]) hx hb hml hown hts hK hP (rDt hD) (kr_X12_placements (l := l) (D := D) (k := k) h_x_bank b_B_turns b_B_told) ck_X12_placements iv_X12_placements uw_6_239 (rv_o hK hP) rfl hl.1 rfl (Nat.le_of_ble_eq_true rfl) dX12_differ_9 ⟨Nat.le_of_ble_eq_true rfl, Nat.le_of_ble_eq_true rfl⟩ ⟨Nat.le_of_ble_eq_true rfl, Nat.le_of_ble_eq_true rfl⟩) (fun r_83 H locs hQ hS => ?_)
  obtain ⟨hr_83_0, hP⟩ := hQ
  refine sy_icmp_ge (tgt := 44) hx hb dX12_differ_12 (by decide) (by omega) (by omega) (fun c_84 => ?_) (fun c_84 => ?_)
  · skip
    refine lv_iload_n hx hb dX12_differ_44 rfl (lv_at hl 1 rfl) ?_
    exact r_i hx hb hr hlocks dX12_differ_45 hS ⟨by omega, hP⟩
  · skip
    refine lv_aload_n hx hb dX12_differ_15 rfl (lv_at hl 2 rfl) ?_
    refine lv_iload_n hx hb dX12_differ_16 rfl (lv_at hl 3 rfl) ?_
    refine lv_iload hx hb dX12_differ_17 (lv_at hl 0 rfl) ?_
    refine g_i (rDt hD) hS hA (g_V (own := "HideReaderModel") (As := [.int (mI p0), .int (mI z_73)]) (rest := []) hx hb hml hown hts hK hP (rDt hD) (kr_X12_placedBy (l := l) (D := D) (k := k) (by omega) (by omega) h_x_bank b_B_turns) ck_X12_placedBy iv_X12_placedBy uw_7_7 (rv_o hK hP) rfl hl.1 rfl (Nat.le_of_ble_eq_true rfl) dX12_differ_19 ⟨Nat.le_of_ble_eq_true rfl, Nat.le_of_ble_eq_true rfl⟩ ⟨Nat.le_of_ble_eq_true rfl, Nat.le_of_ble_eq_true rfl⟩) (fun r_85 H locs hQ hS => ?_)
    obtain ⟨hr_85_0, hP⟩ := hQ
    refine lv_iload_n hx hb dX12_differ_22 rfl (lv_at hl 4 rfl) ?_
    refine sy_ixor hx hb dX12_differ_23 12 (by decide) 4096 (by decide) (by omega) (by omega) (fun z_86 hz_86 => ?_)
    refine g_i (rDt hD) hS hA (g_S (own := "HideReaderModel") (As := [.int (mI z_86)]) (rest := []) hx hb hml hown hts hK hP (rDt hD) (kr_X12_bitsOf (l := l) (D := D) (k := k) (by omega)) ck_X12_bitsOf uw_8_166 uw_8_165 rfl hl.1 rfl (Nat.le_of_ble_eq_true rfl) dX12_differ_24 ⟨Nat.le_of_ble_eq_true rfl, Nat.le_of_ble_eq_true rfl⟩ ⟨Nat.le_of_ble_eq_true rfl, Nat.le_of_ble_eq_true rfl⟩) (fun r_87 H locs hQ hS => ?_)
    obtain ⟨hr_87_0, hP⟩ := hQ
    refine lv_istore (lv' := [(5, .int (mI r_87)), (4, .int (mI z_73)), (3, .int (mI z_74)), (0, .ref (a 0)), (1, .int (mI p0)), (2, .int (mI p1))]) hx hb dX12_differ_27 hl (by decide) rfl (fun ls hl => ?_)
    refine lv_iload hx hb dX12_differ_29 (lv_at hl 0 rfl) ?_
    refine lv_iload_n hx hb dX12_differ_31 rfl (lv_at hl 2 rfl) ?_
    refine sy_icmp_ge (tgt := 38) hx hb dX12_differ_32 (by decide) (by omega) (by omega) (fun c_88 => ?_) (fun c_88 => ?_)
    · skip
      refine lv_iinc (v := mI (z_73 + 1)) (lv' := [(4, .int (mI (z_73 + 1))), (5, .int (mI r_87)), (3, .int (mI z_74)), (0, .ref (a 0)), (1, .int (mI p0)), (2, .int (mI p1))]) hx hb dX12_differ_38 hl (k := 1) rfl (mI_ad rfl) (by decide) rfl (fun ls hl => ?_)
      refine lv_goto (tgt := 6) hx hb dX12_differ_41 (by decide) ?_
      exact ih_82 _ _ _ _ (by omega) ⟨(z_73 + 1), z_74, _, by omega, by omega, rfl, hP, hS, lv_sub hl [0, 2, 3, 4, 5] rfl, rfl⟩
    · skip
      refine lv_iload hx hb dX12_differ_35 (lv_at hl 0 rfl) ?_
      refine lv_istore_n (lv' := [(3, .int (mI r_87)), (5, .int (mI r_87)), (4, .int (mI z_73)), (0, .ref (a 0)), (1, .int (mI p0)), (2, .int (mI p1))]) hx hb dX12_differ_37 rfl hl (by decide) rfl (fun ls hl => ?_)
      refine lv_iinc (v := mI (z_73 + 1)) (lv' := [(4, .int (mI (z_73 + 1))), (3, .int (mI r_87)), (5, .int (mI r_87)), (0, .ref (a 0)), (1, .int (mI p0)), (2, .int (mI p1))]) hx hb dX12_differ_38 hl (k := 2) rfl (mI_ad rfl) (by decide) rfl (fun ls hl => ?_)
      refine lv_goto (tgt := 6) hx hb dX12_differ_41 (by decide) ?_
      exact ih_82 _ _ _ _ (by omega) ⟨(z_73 + 1), r_87, _, by omega, by omega, rfl, hP, hS, lv_sub hl [0, 1, 3, 4, 5] rfl, rfl⟩
set_option maxHeartbeats 4000000 in
set_option maxRecDepth 100000 in
theorem kr_X12_nearest {p0 p1 : Int} (hp0 : -2147483648 ≤ p0 ∧ p0 ≤ 2147483647) (hp1 : -2147483648 ≤ p1 ∧ p1 ≤ 2147483647) (h_x_bank : 0 ≤ x_bank ∧ x_bank ≤ 1) (b_B_turns : bd (1) 4 B_turns) (b_B_herds : bd (0) 8 B_herds) (b_B_told : bd (0) 31 B_told) (b_B_brands : bd (0) 4095 B_brands) : MetG l D k yX12_nearest cX12_nearest 5 (some .int) 4 [.ref (a 0), .int (mI p0), .int (mI p1)] (rW k a x_taped x_size x_faultKind x_faultPlace x_at x_end x_token x_number x_bank x_rb x_codes x_within x_piled x_unitsInRule x_askBeast x_askStroke x_askAge x_askSeason x_acts x_undone x_laid x_seens x_time x_fitting n_name B_tape B_text B_turns B_herds B_irons B_beasts B_units B_night B_draw B_told B_brands B_ironMarks B_herdTold B_born B_ruleFrom B_ruleTo B_code B_codeNumber B_eWhat B_eSign B_pile B_all B_burned B_was B_need B_laidRow B_long8 B_brings B_sBurning B_sStroke B_sIs B_sTold B_sUntold B_parts B_boxAll B_isBoxed G_hName G_iName G_bName ex) (qGi (fun r0 H => (-2147483648 ≤ r0 ∧ r0 ≤ 12) ∧ va_P D vwCl (rW k a x_taped x_size x_faultKind x_faultPlace x_at x_end x_token x_number x_bank x_rb x_codes x_within x_piled x_unitsInRule x_askBeast x_askStroke x_askAge x_askSeason x_acts x_undone x_laid x_seens x_time x_fitting n_name B_tape B_text B_turns B_herds B_irons B_beasts B_units B_night B_draw B_told B_brands B_ironMarks B_herdTold B_born B_ruleFrom B_ruleTo B_code B_codeNumber B_eWhat B_eSign B_pile B_all B_burned B_was B_need B_laidRow B_long8 B_brings B_sBurning B_sStroke B_sIs B_sTold B_sUntold B_parts B_boxAll B_isBoxed G_hName G_iName G_bName ex) H)) := by
  refine metG_of 2 ck_X12_nearest (Nat.le_of_ble_eq_true rfl) rMap (fun p e s m args below meth c A hx hb hml hr hlocks hown hts hK hD hA hP hS ls hl => ?_)
  have hown : s.vm.findClass "HideReaderModel" = some m.cls := hown
  have hl : lv_has ls 5 [(0, .ref (a 0)), (1, .int (mI p0)), (2, .int (mI p1))] := hl
  refine lv_iload_n hx hb dX12_nearest_0 rfl (lv_at hl 1 rfl) ?_
  refine g_i (rDt hD) hS hA (g_S (own := "HideReaderModel") (As := [.int (mI p0)]) (rest := []) hx hb hml hown hts hK hP (rDt hD) (kr_X12_isMark (l := l) (D := D) (k := k) (by omega)) ck_X12_isMark uw_8_180 uw_8_179 rfl hl.1 rfl (Nat.le_of_ble_eq_true rfl) dX12_nearest_1 ⟨Nat.le_of_ble_eq_true rfl, Nat.le_of_ble_eq_true rfl⟩ ⟨Nat.le_of_ble_eq_true rfl, Nat.le_of_ble_eq_true rfl⟩) (fun r_1 H locs hQ hS => ?_)
  obtain ⟨hq_r_1, hP⟩ := hQ
  rcases hq_r_1 with rfl | ⟨rfl, c_3_0⟩
  · skip
    refine sy_if_eq (tgt := 16) hx hb dX12_nearest_4 (by decide) (by decide) (fun c_4 => ?_) (fun c9 => absurd c9 (by decide))
    refine lv_iconst (v := mI (-1)) hx hb dX12_nearest_16 rfl ?_
    exact r_i hx hb hr hlocks dX12_nearest_17 hS ⟨by omega, hP⟩
  · skip
    refine sy_if_eq (tgt := 16) hx hb dX12_nearest_4 (by decide) (by decide) (fun c9 => absurd c9 (by decide)) (fun c_5 => ?_)
    refine lv_iload_n hx hb dX12_nearest_7 rfl (lv_at hl 2 rfl) ?_
    refine lv_iconst (v := mI 0) hx hb dX12_nearest_8 rfl ?_
    refine lv_iconst (v := mI 1) hx hb dX12_nearest_9 rfl ?_
    refine g_i (rDt hD) hS hA (g_S (own := "HideReaderModel") (As := [.int (mI p1), .int (mI 0), .int (mI 1)]) (rest := []) hx hb hml hown hts hK hP (rDt hD) (kr_X12_isIn (l := l) (D := D) (k := k) (by omega) (by decide) (by decide)) ck_X12_isIn uw_8_131 uw_8_130 rfl hl.1 rfl (Nat.le_of_ble_eq_true rfl) dX12_nearest_10 ⟨Nat.le_of_ble_eq_true rfl, Nat.le_of_ble_eq_true rfl⟩ ⟨Nat.le_of_ble_eq_true rfl, Nat.le_of_ble_eq_true rfl⟩) (fun r_6 H locs hQ hS => ?_)
    obtain ⟨hq_r_6, hP⟩ := hQ
    rcases hq_r_6 with rfl | ⟨rfl, c_8_0, c_8_1⟩
    · skip
      refine sy_if_ne (tgt := 18) hx hb dX12_nearest_13 (by decide) (by decide) (fun c9 => absurd c9 (by decide)) (fun c_9 => ?_)
      refine lv_iconst (v := mI (-1)) hx hb dX12_nearest_16 rfl ?_
      exact r_i hx hb hr hlocks dX12_nearest_17 hS ⟨by omega, hP⟩
    · skip
      refine sy_if_ne (tgt := 18) hx hb dX12_nearest_13 (by decide) (by decide) (fun c_10 => ?_) (fun c9 => absurd c9 (by decide))
      refine lv_iconst (v := mI (-1)) hx hb dX12_nearest_18 rfl ?_
      refine lv_istore_n (lv' := [(3, .int (mI (-1))), (0, .ref (a 0)), (1, .int (mI p0)), (2, .int (mI p1))]) hx hb dX12_nearest_19 rfl hl (by decide) rfl (fun ls hl => ?_)
      refine lv_iconst (v := mI 0) hx hb dX12_nearest_20 rfl ?_
      refine lv_istore (lv' := [(4, .int (mI 0)), (3, .int (mI (-1))), (0, .ref (a 0)), (1, .int (mI p0)), (2, .int (mI p1))]) hx hb dX12_nearest_21 hl (by decide) rfl (fun ls hl => ?_)
      refine sy_loop (I := fun n H locs g => ∃ (z_166 : Int) (z_167 : Int) (ls : Array Slot), (0 ≤ z_166 ∧ z_166 ≤ 8) ∧ (-1 ≤ z_167 ∧ z_167 ≤ 7) ∧ (8 - z_166).toNat = n ∧ va_P D vwCl (rW k a x_taped x_size x_faultKind x_faultPlace x_at x_end x_token x_number x_bank x_rb x_codes x_within x_piled x_unitsInRule x_askBeast x_askStroke x_askAge x_askSeason x_acts x_undone x_laid x_seens x_time x_fitting n_name B_tape B_text B_turns B_herds B_irons B_beasts B_units B_night B_draw B_told B_brands B_ironMarks B_herdTold B_born B_ruleFrom B_ruleTo B_code B_codeNumber B_eWhat B_eSign B_pile B_all B_burned B_was B_need B_laidRow B_long8 B_brings B_sBurning B_sStroke B_sIs B_sTold B_sUntold B_parts B_boxAll B_isBoxed G_hName G_iName G_bName ex) H ∧ va_S A s.heap H locs ∧ lv_has ls 5 [(4, .int (mI z_166)), (3, .int (mI z_167)), (0, .ref (a 0)), (1, .int (mI p0)), (2, .int (mI p1))] ∧ g = F0 m 23 ls []) ?_ _ ⟨0, (-1), _, by omega, by omega, rfl, hP, hS, lv_sub hl [0, 1, 2, 3, 4] rfl, rfl⟩
      intro n_187 H locs g hI ih_188
      obtain ⟨z_166, z_167, ls, h23_0, h23_1, mn_187, hP, hS, hl, rfl⟩ := hI
      refine lv_iload hx hb dX12_nearest_23 (lv_at hl 0 rfl) ?_
      refine lv_aload_n hx hb dX12_nearest_25 rfl (lv_at hl 2 rfl) ?_
      refine g_i (rDt hD) hS hA (g_V (own := "HideReaderModel") (As := []) (rest := [.int (mI z_166)]) hx hb hml hown hts hK hP (rDt hD) (kr_X12_stocks (l := l) (D := D) (k := k) h_x_bank b_B_herds) ck_X12_stocks iv_X12_stocks uw_8_126 (rv_o hK hP) rfl hl.1 rfl (Nat.le_of_ble_eq_true rfl) dX12_nearest_26 ⟨Nat.le_of_ble_eq_true rfl, Nat.le_of_ble_eq_true rfl⟩ ⟨Nat.le_of_ble_eq_true rfl, Nat.le_of_ble_eq_true rfl⟩) (fun r_189 H locs hQ hS => ?_)
      obtain ⟨hr_189_0, hP⟩ := hQ
      refine sy_icmp_ge (tgt := 69) hx hb dX12_nearest_29 (by decide) (by omega) (by omega) (fun c_197 => ?_) (fun c_197 => ?_)
      · skip
        refine lv_iload_n hx hb dX12_nearest_69 rfl (lv_at hl 1 rfl) ?_
        refine sy_if_ge (tgt := 77) hx hb dX12_nearest_70 (by decide) (by omega) (fun c_198 => ?_) (fun c_198 => ?_)
        · skip
          refine lv_iload_n hx hb dX12_nearest_77 rfl (lv_at hl 4 rfl) ?_
          refine sy_if_ne (tgt := 85) hx hb dX12_nearest_78 (by decide) (by omega) (fun c_199 => ?_) (fun c_199 => ?_)
          · skip
            refine lv_aload_n hx hb dX12_nearest_85 rfl (lv_at hl 2 rfl) ?_
            refine lv_aload_n hx hb dX12_nearest_86 rfl (lv_at hl 2 rfl) ?_
            refine lv_iload_n hx hb dX12_nearest_87 rfl (lv_at hl 1 rfl) ?_
            refine g_i (rDt hD) hS hA (g_V (own := "HideReaderModel") (As := [.int (mI z_167)]) (rest := [.ref (a 0)]) hx hb hml hown hts hK hP (rDt hD) (kr_X12_brandOf (l := l) (D := D) (k := k) (by omega) h_x_bank b_B_brands) ck_X12_brandOf iv_X12_brandOf uw_6_220 (rv_o hK hP) rfl hl.1 rfl (Nat.le_of_ble_eq_true rfl) dX12_nearest_88 ⟨Nat.le_of_ble_eq_true rfl, Nat.le_of_ble_eq_true rfl⟩ ⟨Nat.le_of_ble_eq_true rfl, Nat.le_of_ble_eq_true rfl⟩) (fun r_200 H locs hQ hS => ?_)
            obtain ⟨hr_200_0, hP⟩ := hQ
            refine lv_iload_n hx hb dX12_nearest_91 rfl (lv_at hl 3 rfl) ?_
            refine g_i (rDt hD) hS hA (g_V (own := "HideReaderModel") (As := [.int (mI r_200), .int (mI p0)]) (rest := []) hx hb hml hown hts hK hP (rDt hD) (kr_X12_differ (l := l) (D := D) (k := k) (by omega) (by omega) h_x_bank b_B_turns b_B_told) ck_X12_differ iv_X12_differ uw_9_102 (rv_o hK hP) rfl hl.1 rfl (Nat.le_of_ble_eq_true rfl) dX12_nearest_92 ⟨Nat.le_of_ble_eq_true rfl, Nat.le_of_ble_eq_true rfl⟩ ⟨Nat.le_of_ble_eq_true rfl, Nat.le_of_ble_eq_true rfl⟩) (fun r_201 H locs hQ hS => ?_)
            obtain ⟨hr_201_0, hP⟩ := hQ
            exact r_i hx hb hr hlocks dX12_nearest_95 hS ⟨by omega, hP⟩
          · skip
            refine lv_iload_n hx hb dX12_nearest_81 rfl (lv_at hl 1 rfl) ?_
            refine lv_goto (tgt := 95) hx hb dX12_nearest_82 (by decide) ?_
            exact r_i hx hb hr hlocks dX12_nearest_95 hS ⟨by omega, hP⟩
        · skip
          refine lv_iconst (v := mI (-1)) hx hb dX12_nearest_73 rfl ?_
          refine lv_goto (tgt := 95) hx hb dX12_nearest_74 (by decide) ?_
          exact r_i hx hb hr hlocks dX12_nearest_95 hS ⟨by omega, hP⟩
      · skip
        refine lv_iload_n hx hb dX12_nearest_32 rfl (lv_at hl 1 rfl) ?_
        refine sy_if_lt (tgt := 60) hx hb dX12_nearest_33 (by decide) (by omega) (fun c_202 => ?_) (fun c_202 => ?_)
        · skip
          refine lv_iload hx hb dX12_nearest_60 (lv_at hl 0 rfl) ?_
          refine lv_istore_n (lv' := [(3, .int (mI z_166)), (4, .int (mI z_166)), (0, .ref (a 0)), (1, .int (mI p0)), (2, .int (mI p1))]) hx hb dX12_nearest_62 rfl hl (by decide) rfl (fun ls hl => ?_)
          refine lv_iinc (v := mI (z_166 + 1)) (lv' := [(4, .int (mI (z_166 + 1))), (3, .int (mI z_166)), (0, .ref (a 0)), (1, .int (mI p0)), (2, .int (mI p1))]) hx hb dX12_nearest_63 hl (k := 1) rfl (mI_ad rfl) (by decide) rfl (fun ls hl => ?_)
          refine lv_goto (tgt := 23) hx hb dX12_nearest_66 (by decide) ?_
          exact ih_188 _ _ _ _ (by omega) ⟨(z_166 + 1), z_166, _, by omega, by omega, rfl, hP, hS, lv_sub hl [0, 1, 2, 3, 4] rfl, rfl⟩
        · skip
          refine lv_aload_n hx hb dX12_nearest_36 rfl (lv_at hl 2 rfl) ?_
          refine lv_aload_n hx hb dX12_nearest_37 rfl (lv_at hl 2 rfl) ?_
          refine lv_iload hx hb dX12_nearest_38 (lv_at hl 0 rfl) ?_
          refine g_i (rDt hD) hS hA (g_V (own := "HideReaderModel") (As := [.int (mI z_166)]) (rest := [.ref (a 0)]) hx hb hml hown hts hK hP (rDt hD) (kr_X12_brandOf (l := l) (D := D) (k := k) (by omega) h_x_bank b_B_brands) ck_X12_brandOf iv_X12_brandOf uw_6_220 (rv_o hK hP) rfl hl.1 rfl (Nat.le_of_ble_eq_true rfl) dX12_nearest_40 ⟨Nat.le_of_ble_eq_true rfl, Nat.le_of_ble_eq_true rfl⟩ ⟨Nat.le_of_ble_eq_true rfl, Nat.le_of_ble_eq_true rfl⟩) (fun r_203 H locs hQ hS => ?_)
          obtain ⟨hr_203_0, hP⟩ := hQ
          refine lv_iload_n hx hb dX12_nearest_43 rfl (lv_at hl 3 rfl) ?_
          refine g_i (rDt hD) hS hA (g_V (own := "HideReaderModel") (As := [.int (mI r_203), .int (mI p0)]) (rest := []) hx hb hml hown hts hK hP (rDt hD) (kr_X12_differ (l := l) (D := D) (k := k) (by omega) (by omega) h_x_bank b_B_turns b_B_told) ck_X12_differ iv_X12_differ uw_9_102 (rv_o hK hP) rfl hl.1 rfl (Nat.le_of_ble_eq_true rfl) dX12_nearest_44 ⟨Nat.le_of_ble_eq_true rfl, Nat.le_of_ble_eq_true rfl⟩ ⟨Nat.le_of_ble_eq_true rfl, Nat.le_of_ble_eq_true rfl⟩) (fun r_204 H locs hQ hS => ?_)
          obtain ⟨hr_204_0, hP⟩ := hQ
          refine lv_aload_n hx hb dX12_nearest_47 rfl (lv_at hl 2 rfl) ?_
          refine lv_aload_n hx hb dX12_nearest_48 rfl (lv_at hl 2 rfl) ?_
          refine lv_iload_n hx hb dX12_nearest_49 rfl (lv_at hl 1 rfl) ?_
          refine g_i (rDt hD) hS hA (g_V (own := "HideReaderModel") (As := [.int (mI z_167)]) (rest := [.ref (a 0), .int (mI r_204)]) hx hb hml hown hts hK hP (rDt hD) (kr_X12_brandOf (l := l) (D := D) (k := k) (by omega) h_x_bank b_B_brands) ck_X12_brandOf iv_X12_brandOf uw_6_220 (rv_o hK hP) rfl hl.1 rfl (Nat.le_of_ble_eq_true rfl) dX12_nearest_50 ⟨Nat.le_of_ble_eq_true rfl, Nat.le_of_ble_eq_true rfl⟩ ⟨Nat.le_of_ble_eq_true rfl, Nat.le_of_ble_eq_true rfl⟩) (fun r_205 H locs hQ hS => ?_)
          obtain ⟨hr_205_0, hP⟩ := hQ
          refine lv_iload_n hx hb dX12_nearest_53 rfl (lv_at hl 3 rfl) ?_
          refine g_i (rDt hD) hS hA (g_V (own := "HideReaderModel") (As := [.int (mI r_205), .int (mI p0)]) (rest := [.int (mI r_204)]) hx hb hml hown hts hK hP (rDt hD) (kr_X12_differ (l := l) (D := D) (k := k) (by omega) (by omega) h_x_bank b_B_turns b_B_told) ck_X12_differ iv_X12_differ uw_9_102 (rv_o hK hP) rfl hl.1 rfl (Nat.le_of_ble_eq_true rfl) dX12_nearest_54 ⟨Nat.le_of_ble_eq_true rfl, Nat.le_of_ble_eq_true rfl⟩ ⟨Nat.le_of_ble_eq_true rfl, Nat.le_of_ble_eq_true rfl⟩) (fun r_206 H locs hQ hS => ?_)
          obtain ⟨hr_206_0, hP⟩ := hQ
          refine sy_icmp_ge (tgt := 63) hx hb dX12_nearest_57 (by decide) (by omega) (by omega) (fun c_207 => ?_) (fun c_207 => ?_)
          · skip
            refine lv_iinc (v := mI (z_166 + 1)) (lv' := [(4, .int (mI (z_166 + 1))), (3, .int (mI z_167)), (0, .ref (a 0)), (1, .int (mI p0)), (2, .int (mI p1))]) hx hb dX12_nearest_63 hl (k := 0) rfl (mI_ad rfl) (by decide) rfl (fun ls hl => ?_)
            refine lv_goto (tgt := 23) hx hb dX12_nearest_66 (by decide) ?_
            exact ih_188 _ _ _ _ (by omega) ⟨(z_166 + 1), z_167, _, by omega, by omega, rfl, hP, hS, lv_sub hl [0, 1, 2, 3, 4] rfl, rfl⟩
          · skip
            refine lv_iload hx hb dX12_nearest_60 (lv_at hl 0 rfl) ?_
            refine lv_istore_n (lv' := [(3, .int (mI z_166)), (4, .int (mI z_166)), (0, .ref (a 0)), (1, .int (mI p0)), (2, .int (mI p1))]) hx hb dX12_nearest_62 rfl hl (by decide) rfl (fun ls hl => ?_)
            refine lv_iinc (v := mI (z_166 + 1)) (lv' := [(4, .int (mI (z_166 + 1))), (3, .int (mI z_166)), (0, .ref (a 0)), (1, .int (mI p0)), (2, .int (mI p1))]) hx hb dX12_nearest_63 hl (k := 1) rfl (mI_ad rfl) (by decide) rfl (fun ls hl => ?_)
            refine lv_goto (tgt := 23) hx hb dX12_nearest_66 (by decide) ?_
            exact ih_188 _ _ _ _ (by omega) ⟨(z_166 + 1), z_166, _, by omega, by omega, rfl, hP, hS, lv_sub hl [0, 1, 2, 3, 4] rfl, rfl⟩
set_option maxHeartbeats 4000000 in
set_option maxRecDepth 100000 in
theorem kr_X12_shared {p0 p1 : Int} (hp0 : -2147483648 ≤ p0 ∧ p0 ≤ 2147483647) (hp1 : -2147483648 ≤ p1 ∧ p1 ≤ 2147483647) (h_x_bank : 0 ≤ x_bank ∧ x_bank ≤ 1) (b_B_turns : bd (1) 4 B_turns) (b_B_herds : bd (0) 8 B_herds) (b_B_told : bd (0) 31 B_told) (b_B_brands : bd (0) 4095 B_brands) : MetG l D k yX12_shared cX12_shared 6 (some .int) 3 [.ref (a 0), .int (mI p0), .int (mI p1)] (rW k a x_taped x_size x_faultKind x_faultPlace x_at x_end x_token x_number x_bank x_rb x_codes x_within x_piled x_unitsInRule x_askBeast x_askStroke x_askAge x_askSeason x_acts x_undone x_laid x_seens x_time x_fitting n_name B_tape B_text B_turns B_herds B_irons B_beasts B_units B_night B_draw B_told B_brands B_ironMarks B_herdTold B_born B_ruleFrom B_ruleTo B_code B_codeNumber B_eWhat B_eSign B_pile B_all B_burned B_was B_need B_laidRow B_long8 B_brings B_sBurning B_sStroke B_sIs B_sTold B_sUntold B_parts B_boxAll B_isBoxed G_hName G_iName G_bName ex) (qGi (fun r0 H => (-1 ≤ r0 ∧ r0 ≤ 2147483647) ∧ va_P D vwCl (rW k a x_taped x_size x_faultKind x_faultPlace x_at x_end x_token x_number x_bank x_rb x_codes x_within x_piled x_unitsInRule x_askBeast x_askStroke x_askAge x_askSeason x_acts x_undone x_laid x_seens x_time x_fitting n_name B_tape B_text B_turns B_herds B_irons B_beasts B_units B_night B_draw B_told B_brands B_ironMarks B_herdTold B_born B_ruleFrom B_ruleTo B_code B_codeNumber B_eWhat B_eSign B_pile B_all B_burned B_was B_need B_laidRow B_long8 B_brings B_sBurning B_sStroke B_sIs B_sTold B_sUntold B_parts B_boxAll B_isBoxed G_hName G_iName G_bName ex) H)) := by
  refine metG_of 2 ck_X12_shared (Nat.le_of_ble_eq_true rfl) rMap (fun p e s m args below meth c A hx hb hml hr hlocks hown hts hK hD hA hP hS ls hl => ?_)
  have hown : s.vm.findClass "HideReaderModel" = some m.cls := hown
  have hl : lv_has ls 6 [(0, .ref (a 0)), (1, .int (mI p0)), (2, .int (mI p1))] := hl
  refine lv_aload_n hx hb dX12_shared_0 rfl (lv_at hl 0 rfl) ?_
  refine lv_iload_n hx hb dX12_shared_1 rfl (lv_at hl 1 rfl) ?_
  refine g_i (rDt hD) hS hA (g_V (own := "HideReaderModel") (As := [.int (mI p0)]) (rest := []) hx hb hml hown hts hK hP (rDt hD) (kr_X12_isHerd (l := l) (D := D) (k := k) (by omega) h_x_bank b_B_herds) ck_X12_isHerd iv_X12_isHerd uw_8_122 (rv_o hK hP) rfl hl.1 rfl (Nat.le_of_ble_eq_true rfl) dX12_shared_2 ⟨Nat.le_of_ble_eq_true rfl, Nat.le_of_ble_eq_true rfl⟩ ⟨Nat.le_of_ble_eq_true rfl, Nat.le_of_ble_eq_true rfl⟩) (fun r_1 H locs hQ hS => ?_)
  obtain ⟨hq_r_1, hP⟩ := hQ
  rcases hq_r_1 with rfl | ⟨rfl, c_3_0⟩
  · skip
    refine sy_if_eq (tgt := 16) hx hb dX12_shared_5 (by decide) (by decide) (fun c_4 => ?_) (fun c9 => absurd c9 (by decide))
    refine lv_iconst (v := mI (-1)) hx hb dX12_shared_16 rfl ?_
    exact r_i hx hb hr hlocks dX12_shared_17 hS ⟨by omega, hP⟩
  · skip
    refine sy_if_eq (tgt := 16) hx hb dX12_shared_5 (by decide) (by decide) (fun c9 => absurd c9 (by decide)) (fun c_5 => ?_)
    refine lv_aload_n hx hb dX12_shared_8 rfl (lv_at hl 0 rfl) ?_
    refine lv_iload_n hx hb dX12_shared_9 rfl (lv_at hl 2 rfl) ?_
    refine g_i (rDt hD) hS hA (g_V (own := "HideReaderModel") (As := [.int (mI p1)]) (rest := []) hx hb hml hown hts hK hP (rDt hD) (kr_X12_isHerd (l := l) (D := D) (k := k) (by omega) h_x_bank b_B_herds) ck_X12_isHerd iv_X12_isHerd uw_8_122 (rv_o hK hP) rfl hl.1 rfl (Nat.le_of_ble_eq_true rfl) dX12_shared_10 ⟨Nat.le_of_ble_eq_true rfl, Nat.le_of_ble_eq_true rfl⟩ ⟨Nat.le_of_ble_eq_true rfl, Nat.le_of_ble_eq_true rfl⟩) (fun r_6 H locs hQ hS => ?_)
    obtain ⟨hq_r_6, hP⟩ := hQ
    rcases hq_r_6 with rfl | ⟨rfl, c_8_0⟩
    · skip
      refine sy_if_ne (tgt := 18) hx hb dX12_shared_13 (by decide) (by decide) (fun c9 => absurd c9 (by decide)) (fun c_9 => ?_)
      refine lv_iconst (v := mI (-1)) hx hb dX12_shared_16 rfl ?_
      exact r_i hx hb hr hlocks dX12_shared_17 hS ⟨by omega, hP⟩
    · skip
      refine sy_if_ne (tgt := 18) hx hb dX12_shared_13 (by decide) (by decide) (fun c_10 => ?_) (fun c9 => absurd c9 (by decide))
      refine lv_iconst (v := mI 0) hx hb dX12_shared_18 rfl ?_
      refine lv_istore_n (lv' := [(3, .int (mI 0)), (0, .ref (a 0)), (1, .int (mI p0)), (2, .int (mI p1))]) hx hb dX12_shared_19 rfl hl (by decide) rfl (fun ls hl => ?_)
      refine lv_iconst (v := mI 0) hx hb dX12_shared_20 rfl ?_
      refine lv_istore (lv' := [(4, .int (mI 0)), (3, .int (mI 0)), (0, .ref (a 0)), (1, .int (mI p0)), (2, .int (mI p1))]) hx hb dX12_shared_21 hl (by decide) rfl (fun ls hl => ?_)
      refine sy_loop (I := fun n H locs g => ∃ (z_251 : Int) (z_252 : Int) (ls : Array Slot), (0 ≤ z_251 ∧ z_251 ≤ 8) ∧ (0 ≤ z_252 ∧ z_252 ≤ 2147483647) ∧ (8 - z_251).toNat = n ∧ va_P D vwCl (rW k a x_taped x_size x_faultKind x_faultPlace x_at x_end x_token x_number x_bank x_rb x_codes x_within x_piled x_unitsInRule x_askBeast x_askStroke x_askAge x_askSeason x_acts x_undone x_laid x_seens x_time x_fitting n_name B_tape B_text B_turns B_herds B_irons B_beasts B_units B_night B_draw B_told B_brands B_ironMarks B_herdTold B_born B_ruleFrom B_ruleTo B_code B_codeNumber B_eWhat B_eSign B_pile B_all B_burned B_was B_need B_laidRow B_long8 B_brings B_sBurning B_sStroke B_sIs B_sTold B_sUntold B_parts B_boxAll B_isBoxed G_hName G_iName G_bName ex) H ∧ va_S A s.heap H locs ∧ lv_has ls 6 [(4, .int (mI z_251)), (3, .int (mI z_252)), (0, .ref (a 0)), (1, .int (mI p0)), (2, .int (mI p1))] ∧ g = F0 m 23 ls []) ?_ _ ⟨0, 0, _, by omega, by omega, rfl, hP, hS, lv_sub hl [0, 1, 2, 3, 4] rfl, rfl⟩
      intro n_261 H locs g hI ih_262
      obtain ⟨z_251, z_252, ls, h23_0, h23_1, mn_261, hP, hS, hl, rfl⟩ := hI
      refine lv_iload hx hb dX12_shared_23 (lv_at hl 0 rfl) ?_
      refine lv_aload_n hx hb dX12_shared_25 rfl (lv_at hl 2 rfl) ?_
      refine g_i (rDt hD) hS hA (g_V (own := "HideReaderModel") (As := []) (rest := [.int (mI z_251)]) hx hb hml hown hts hK hP (rDt hD) (kr_X12_placements (l := l) (D := D) (k := k) h_x_bank b_B_turns b_B_told) ck_X12_placements iv_X12_placements uw_6_239 (rv_o hK hP) rfl hl.1 rfl (Nat.le_of_ble_eq_true rfl) dX12_shared_26 ⟨Nat.le_of_ble_eq_true rfl, Nat.le_of_ble_eq_true rfl⟩ ⟨Nat.le_of_ble_eq_true rfl, Nat.le_of_ble_eq_true rfl⟩) (fun r_263 H locs hQ hS => ?_)
      obtain ⟨hr_263_0, hP⟩ := hQ
      refine sy_icmp_ge (tgt := 69) hx hb dX12_shared_29 (by decide) (by omega) (by omega) (fun c_264 => ?_) (fun c_264 => ?_)
      · skip
        refine lv_iload_n hx hb dX12_shared_69 rfl (lv_at hl 1 rfl) ?_
        exact r_i hx hb hr hlocks dX12_shared_70 hS ⟨by omega, hP⟩
      · skip
        refine lv_aload_n hx hb dX12_shared_32 rfl (lv_at hl 2 rfl) ?_
        refine lv_aload_n hx hb dX12_shared_33 rfl (lv_at hl 2 rfl) ?_
        refine lv_iload_n hx hb dX12_shared_34 rfl (lv_at hl 3 rfl) ?_
        refine g_i (rDt hD) hS hA (g_V (own := "HideReaderModel") (As := [.int (mI p0)]) (rest := [.ref (a 0)]) hx hb hml hown hts hK hP (rDt hD) (kr_X12_brandOf (l := l) (D := D) (k := k) (by omega) h_x_bank b_B_brands) ck_X12_brandOf iv_X12_brandOf uw_6_220 (rv_o hK hP) rfl hl.1 rfl (Nat.le_of_ble_eq_true rfl) dX12_shared_35 ⟨Nat.le_of_ble_eq_true rfl, Nat.le_of_ble_eq_true rfl⟩ ⟨Nat.le_of_ble_eq_true rfl, Nat.le_of_ble_eq_true rfl⟩) (fun r_265 H locs hQ hS => ?_)
        obtain ⟨hr_265_0, hP⟩ := hQ
        refine lv_iload hx hb dX12_shared_38 (lv_at hl 0 rfl) ?_
        refine g_i (rDt hD) hS hA (g_V (own := "HideReaderModel") (As := [.int (mI r_265), .int (mI z_251)]) (rest := []) hx hb hml hown hts hK hP (rDt hD) (kr_X12_placedBy (l := l) (D := D) (k := k) (by omega) (by omega) h_x_bank b_B_turns) ck_X12_placedBy iv_X12_placedBy uw_7_7 (rv_o hK hP) rfl hl.1 rfl (Nat.le_of_ble_eq_true rfl) dX12_shared_40 ⟨Nat.le_of_ble_eq_true rfl, Nat.le_of_ble_eq_true rfl⟩ ⟨Nat.le_of_ble_eq_true rfl, Nat.le_of_ble_eq_true rfl⟩) (fun r_266 H locs hQ hS => ?_)
        obtain ⟨hr_266_0, hP⟩ := hQ
        refine lv_aload_n hx hb dX12_shared_43 rfl (lv_at hl 2 rfl) ?_
        refine lv_iload_n hx hb dX12_shared_44 rfl (lv_at hl 4 rfl) ?_
        refine g_i (rDt hD) hS hA (g_V (own := "HideReaderModel") (As := [.int (mI p1)]) (rest := [.int (mI r_266)]) hx hb hml hown hts hK hP (rDt hD) (kr_X12_brandOf (l := l) (D := D) (k := k) (by omega) h_x_bank b_B_brands) ck_X12_brandOf iv_X12_brandOf uw_6_220 (rv_o hK hP) rfl hl.1 rfl (Nat.le_of_ble_eq_true rfl) dX12_shared_45 ⟨Nat.le_of_ble_eq_true rfl, Nat.le_of_ble_eq_true rfl⟩ ⟨Nat.le_of_ble_eq_true rfl, Nat.le_of_ble_eq_true rfl⟩) (fun r_267 H locs hQ hS => ?_)
        obtain ⟨hr_267_0, hP⟩ := hQ
        refine sy_iandR hx hb dX12_shared_48 (by omega) (fun z_268 hz_268 => ?_)
        refine g_i (rDt hD) hS hA (g_S (own := "HideReaderModel") (As := [.int (mI z_268)]) (rest := []) hx hb hml hown hts hK hP (rDt hD) (kr_X12_bitsOf (l := l) (D := D) (k := k) (by omega)) ck_X12_bitsOf uw_8_166 uw_8_165 rfl hl.1 rfl (Nat.le_of_ble_eq_true rfl) dX12_shared_49 ⟨Nat.le_of_ble_eq_true rfl, Nat.le_of_ble_eq_true rfl⟩ ⟨Nat.le_of_ble_eq_true rfl, Nat.le_of_ble_eq_true rfl⟩) (fun r_269 H locs hQ hS => ?_)
        obtain ⟨hr_269_0, hP⟩ := hQ
        refine lv_istore (lv' := [(5, .int (mI r_269)), (4, .int (mI z_251)), (3, .int (mI z_252)), (0, .ref (a 0)), (1, .int (mI p0)), (2, .int (mI p1))]) hx hb dX12_shared_52 hl (by decide) rfl (fun ls hl => ?_)
        refine lv_iload hx hb dX12_shared_54 (lv_at hl 0 rfl) ?_
        refine lv_iload_n hx hb dX12_shared_56 rfl (lv_at hl 2 rfl) ?_
        refine sy_icmp_le (tgt := 63) hx hb dX12_shared_57 (by decide) (by omega) (by omega) (fun c_270 => ?_) (fun c_270 => ?_)
        · skip
          refine lv_iinc (v := mI (z_251 + 1)) (lv' := [(4, .int (mI (z_251 + 1))), (5, .int (mI r_269)), (3, .int (mI z_252)), (0, .ref (a 0)), (1, .int (mI p0)), (2, .int (mI p1))]) hx hb dX12_shared_63 hl (k := 1) rfl (mI_ad rfl) (by decide) rfl (fun ls hl => ?_)
          refine lv_goto (tgt := 23) hx hb dX12_shared_66 (by decide) ?_
          exact ih_262 _ _ _ _ (by omega) ⟨(z_251 + 1), z_252, _, by omega, by omega, rfl, hP, hS, lv_sub hl [0, 2, 3, 4, 5] rfl, rfl⟩
        · skip
          refine lv_iload hx hb dX12_shared_60 (lv_at hl 0 rfl) ?_
          refine lv_istore_n (lv' := [(3, .int (mI r_269)), (5, .int (mI r_269)), (4, .int (mI z_251)), (0, .ref (a 0)), (1, .int (mI p0)), (2, .int (mI p1))]) hx hb dX12_shared_62 rfl hl (by decide) rfl (fun ls hl => ?_)
          refine lv_iinc (v := mI (z_251 + 1)) (lv' := [(4, .int (mI (z_251 + 1))), (3, .int (mI r_269)), (5, .int (mI r_269)), (0, .ref (a 0)), (1, .int (mI p0)), (2, .int (mI p1))]) hx hb dX12_shared_63 hl (k := 2) rfl (mI_ad rfl) (by decide) rfl (fun ls hl => ?_)
          refine lv_goto (tgt := 23) hx hb dX12_shared_66 (by decide) ?_
          exact ih_262 _ _ _ _ (by omega) ⟨(z_251 + 1), r_269, _, by omega, by omega, rfl, hP, hS, lv_sub hl [0, 1, 3, 4, 5] rfl, rfl⟩
set_option maxHeartbeats 4000000 in
set_option maxRecDepth 100000 in
theorem kr_X12_isFresh {p0 : Int} (hp0 : 0 ≤ p0 ∧ p0 ≤ 4095) (h_x_bank : 0 ≤ x_bank ∧ x_bank ≤ 1) (b_B_turns : bd (1) 4 B_turns) (b_B_herds : bd (0) 8 B_herds) (b_B_told : bd (0) 31 B_told) (b_B_brands : bd (0) 4095 B_brands) : MetG l D k yX12_isFresh cX12_isFresh 3 (some .boolean) 4 [.ref (a 0), .int (mI p0)] (rW k a x_taped x_size x_faultKind x_faultPlace x_at x_end x_token x_number x_bank x_rb x_codes x_within x_piled x_unitsInRule x_askBeast x_askStroke x_askAge x_askSeason x_acts x_undone x_laid x_seens x_time x_fitting n_name B_tape B_text B_turns B_herds B_irons B_beasts B_units B_night B_draw B_told B_brands B_ironMarks B_herdTold B_born B_ruleFrom B_ruleTo B_code B_codeNumber B_eWhat B_eSign B_pile B_all B_burned B_was B_need B_laidRow B_long8 B_brings B_sBurning B_sStroke B_sIs B_sTold B_sUntold B_parts B_boxAll B_isBoxed G_hName G_iName G_bName ex) (qGi (fun r0 H => (0 ≤ r0 ∧ r0 ≤ 1) ∧ va_P D vwCl (rW k a x_taped x_size x_faultKind x_faultPlace x_at x_end x_token x_number x_bank x_rb x_codes x_within x_piled x_unitsInRule x_askBeast x_askStroke x_askAge x_askSeason x_acts x_undone x_laid x_seens x_time x_fitting n_name B_tape B_text B_turns B_herds B_irons B_beasts B_units B_night B_draw B_told B_brands B_ironMarks B_herdTold B_born B_ruleFrom B_ruleTo B_code B_codeNumber B_eWhat B_eSign B_pile B_all B_burned B_was B_need B_laidRow B_long8 B_brings B_sBurning B_sStroke B_sIs B_sTold B_sUntold B_parts B_boxAll B_isBoxed G_hName G_iName G_bName ex) H)) := by
  refine metG_of 1 ck_X12_isFresh (Nat.le_of_ble_eq_true rfl) rMap (fun p e s m args below meth c A hx hb hml hr hlocks hown hts hK hD hA hP hS ls hl => ?_)
  have hown : s.vm.findClass "HideReaderModel" = some m.cls := hown
  have hl : lv_has ls 3 [(0, .ref (a 0)), (1, .int (mI p0))] := hl
  refine lv_iconst (v := mI 0) hx hb dX12_isFresh_0 rfl ?_
  refine lv_istore_n (lv' := [(2, .int (mI 0)), (0, .ref (a 0)), (1, .int (mI p0))]) hx hb dX12_isFresh_1 rfl hl (by decide) rfl (fun ls hl => ?_)
  refine sy_loop (I := fun n H locs g => ∃ (z_46 : Int) (ls : Array Slot), (0 ≤ z_46 ∧ z_46 ≤ 8) ∧ (8 - z_46).toNat = n ∧ va_P D vwCl (rW k a x_taped x_size x_faultKind x_faultPlace x_at x_end x_token x_number x_bank x_rb x_codes x_within x_piled x_unitsInRule x_askBeast x_askStroke x_askAge x_askSeason x_acts x_undone x_laid x_seens x_time x_fitting n_name B_tape B_text B_turns B_herds B_irons B_beasts B_units B_night B_draw B_told B_brands B_ironMarks B_herdTold B_born B_ruleFrom B_ruleTo B_code B_codeNumber B_eWhat B_eSign B_pile B_all B_burned B_was B_need B_laidRow B_long8 B_brings B_sBurning B_sStroke B_sIs B_sTold B_sUntold B_parts B_boxAll B_isBoxed G_hName G_iName G_bName ex) H ∧ va_S A s.heap H locs ∧ lv_has ls 3 [(2, .int (mI z_46)), (0, .ref (a 0)), (1, .int (mI p0))] ∧ g = F0 m 2 ls []) ?_ _ ⟨0, _, by omega, rfl, hP, hS, lv_sub hl [0, 1, 2] rfl, rfl⟩
  intro n_55 H locs g hI ih_56
  obtain ⟨z_46, ls, h2_0, mn_55, hP, hS, hl, rfl⟩ := hI
  refine lv_iload_n hx hb dX12_isFresh_2 rfl (lv_at hl 0 rfl) ?_
  refine lv_aload_n hx hb dX12_isFresh_3 rfl (lv_at hl 1 rfl) ?_
  refine g_i (rDt hD) hS hA (g_V (own := "HideReaderModel") (As := []) (rest := [.int (mI z_46)]) hx hb hml hown hts hK hP (rDt hD) (kr_X12_stocks (l := l) (D := D) (k := k) h_x_bank b_B_herds) ck_X12_stocks iv_X12_stocks uw_8_126 (rv_o hK hP) rfl hl.1 rfl (Nat.le_of_ble_eq_true rfl) dX12_isFresh_4 ⟨Nat.le_of_ble_eq_true rfl, Nat.le_of_ble_eq_true rfl⟩ ⟨Nat.le_of_ble_eq_true rfl, Nat.le_of_ble_eq_true rfl⟩) (fun r_57 H locs hQ hS => ?_)
  obtain ⟨hr_57_0, hP⟩ := hQ
  refine sy_icmp_ge (tgt := 44) hx hb dX12_isFresh_7 (by decide) (by omega) (by omega) (fun c_58 => ?_) (fun c_58 => ?_)
  · skip
    refine lv_iconst (v := mI 1) hx hb dX12_isFresh_44 rfl ?_
    exact r_z hx hb hr hlocks dX12_isFresh_45 hS (by decide) ⟨by omega, hP⟩
  · skip
    refine lv_aload_n hx hb dX12_isFresh_10 rfl (lv_at hl 1 rfl) ?_
    refine lv_iload_n hx hb dX12_isFresh_11 rfl (lv_at hl 2 rfl) ?_
    refine lv_aload_n hx hb dX12_isFresh_12 rfl (lv_at hl 1 rfl) ?_
    refine lv_iload_n hx hb dX12_isFresh_13 rfl (lv_at hl 0 rfl) ?_
    refine g_i (rDt hD) hS hA (g_V (own := "HideReaderModel") (As := [.int (mI z_46)]) (rest := [.int (mI p0), .ref (a 0)]) hx hb hml hown hts hK hP (rDt hD) (kr_X12_brandOf (l := l) (D := D) (k := k) (by omega) h_x_bank b_B_brands) ck_X12_brandOf iv_X12_brandOf uw_6_220 (rv_o hK hP) rfl hl.1 rfl (Nat.le_of_ble_eq_true rfl) dX12_isFresh_14 ⟨Nat.le_of_ble_eq_true rfl, Nat.le_of_ble_eq_true rfl⟩ ⟨Nat.le_of_ble_eq_true rfl, Nat.le_of_ble_eq_true rfl⟩) (fun r_59 H locs hQ hS => ?_)
    obtain ⟨hr_59_0, hP⟩ := hQ
    refine g_i (rDt hD) hS hA (g_V (own := "HideReaderModel") (As := [.int (mI p0), .int (mI r_59)]) (rest := []) hx hb hml hown hts hK hP (rDt hD) (kr_X12_isUnder (l := l) (D := D) (k := k) (by omega) (by omega) h_x_bank b_B_turns b_B_told) ck_X12_isUnder iv_X12_isUnder uw_8_186 (rv_o hK hP) rfl hl.1 rfl (Nat.le_of_ble_eq_true rfl) dX12_isFresh_17 ⟨Nat.le_of_ble_eq_true rfl, Nat.le_of_ble_eq_true rfl⟩ ⟨Nat.le_of_ble_eq_true rfl, Nat.le_of_ble_eq_true rfl⟩) (fun r_60 H locs hQ hS => ?_)
    obtain ⟨hr_60_0, hP⟩ := hQ
    refine sy_if_ne (tgt := 36) hx hb dX12_isFresh_20 (by decide) (by omega) (fun c_61 => ?_) (fun c_61 => ?_)
    · skip
      refine lv_iconst (v := mI 0) hx hb dX12_isFresh_36 rfl ?_
      exact r_z hx hb hr hlocks dX12_isFresh_37 hS (by decide) ⟨by omega, hP⟩
    · skip
      refine lv_aload_n hx hb dX12_isFresh_23 rfl (lv_at hl 1 rfl) ?_
      refine lv_aload_n hx hb dX12_isFresh_24 rfl (lv_at hl 1 rfl) ?_
      refine lv_iload_n hx hb dX12_isFresh_25 rfl (lv_at hl 0 rfl) ?_
      refine g_i (rDt hD) hS hA (g_V (own := "HideReaderModel") (As := [.int (mI z_46)]) (rest := [.ref (a 0)]) hx hb hml hown hts hK hP (rDt hD) (kr_X12_brandOf (l := l) (D := D) (k := k) (by omega) h_x_bank b_B_brands) ck_X12_brandOf iv_X12_brandOf uw_6_220 (rv_o hK hP) rfl hl.1 rfl (Nat.le_of_ble_eq_true rfl) dX12_isFresh_26 ⟨Nat.le_of_ble_eq_true rfl, Nat.le_of_ble_eq_true rfl⟩ ⟨Nat.le_of_ble_eq_true rfl, Nat.le_of_ble_eq_true rfl⟩) (fun r_62 H locs hQ hS => ?_)
      obtain ⟨hr_62_0, hP⟩ := hQ
      refine lv_iload_n hx hb dX12_isFresh_29 rfl (lv_at hl 2 rfl) ?_
      refine g_i (rDt hD) hS hA (g_V (own := "HideReaderModel") (As := [.int (mI r_62), .int (mI p0)]) (rest := []) hx hb hml hown hts hK hP (rDt hD) (kr_X12_isUnder (l := l) (D := D) (k := k) (by omega) (by omega) h_x_bank b_B_turns b_B_told) ck_X12_isUnder iv_X12_isUnder uw_8_186 (rv_o hK hP) rfl hl.1 rfl (Nat.le_of_ble_eq_true rfl) dX12_isFresh_30 ⟨Nat.le_of_ble_eq_true rfl, Nat.le_of_ble_eq_true rfl⟩ ⟨Nat.le_of_ble_eq_true rfl, Nat.le_of_ble_eq_true rfl⟩) (fun r_63 H locs hQ hS => ?_)
      obtain ⟨hr_63_0, hP⟩ := hQ
      refine sy_if_eq (tgt := 38) hx hb dX12_isFresh_33 (by decide) (by omega) (fun c_64 => ?_) (fun c_64 => ?_)
      · skip
        refine lv_iinc (v := mI (z_46 + 1)) (lv' := [(2, .int (mI (z_46 + 1))), (0, .ref (a 0)), (1, .int (mI p0))]) hx hb dX12_isFresh_38 hl (k := 0) rfl (mI_ad rfl) (by decide) rfl (fun ls hl => ?_)
        refine lv_goto (tgt := 2) hx hb dX12_isFresh_41 (by decide) ?_
        exact ih_56 _ _ _ _ (by omega) ⟨(z_46 + 1), _, by omega, rfl, hP, hS, lv_sub hl [0, 1, 2] rfl, rfl⟩
      · skip
        refine lv_iconst (v := mI 0) hx hb dX12_isFresh_36 rfl ?_
        exact r_z hx hb hr hlocks dX12_isFresh_37 hS (by decide) ⟨by omega, hP⟩
set_option maxHeartbeats 4000000 in
set_option maxRecDepth 100000 in
theorem kr_X12_fresh (h_x_bank : 0 ≤ x_bank ∧ x_bank ≤ 1) (b_B_turns : bd (1) 4 B_turns) (b_B_herds : bd (0) 8 B_herds) (b_B_told : bd (0) 31 B_told) (b_B_brands : bd (0) 4095 B_brands) : MetG l D k yX12_fresh cX12_fresh 3 (some .int) 5 [.ref (a 0)] (rW k a x_taped x_size x_faultKind x_faultPlace x_at x_end x_token x_number x_bank x_rb x_codes x_within x_piled x_unitsInRule x_askBeast x_askStroke x_askAge x_askSeason x_acts x_undone x_laid x_seens x_time x_fitting n_name B_tape B_text B_turns B_herds B_irons B_beasts B_units B_night B_draw B_told B_brands B_ironMarks B_herdTold B_born B_ruleFrom B_ruleTo B_code B_codeNumber B_eWhat B_eSign B_pile B_all B_burned B_was B_need B_laidRow B_long8 B_brings B_sBurning B_sStroke B_sIs B_sTold B_sUntold B_parts B_boxAll B_isBoxed G_hName G_iName G_bName ex) (qGi (fun r0 H => (-1 ≤ r0 ∧ r0 ≤ 4095) ∧ va_P D vwCl (rW k a x_taped x_size x_faultKind x_faultPlace x_at x_end x_token x_number x_bank x_rb x_codes x_within x_piled x_unitsInRule x_askBeast x_askStroke x_askAge x_askSeason x_acts x_undone x_laid x_seens x_time x_fitting n_name B_tape B_text B_turns B_herds B_irons B_beasts B_units B_night B_draw B_told B_brands B_ironMarks B_herdTold B_born B_ruleFrom B_ruleTo B_code B_codeNumber B_eWhat B_eSign B_pile B_all B_burned B_was B_need B_laidRow B_long8 B_brings B_sBurning B_sStroke B_sIs B_sTold B_sUntold B_parts B_boxAll B_isBoxed G_hName G_iName G_bName ex) H)) := by
  refine metG_of 0 ck_X12_fresh (Nat.le_of_ble_eq_true rfl) rMap (fun p e s m args below meth c A hx hb hml hr hlocks hown hts hK hD hA hP hS ls hl => ?_)
  have hown : s.vm.findClass "HideReaderModel" = some m.cls := hown
  have hl : lv_has ls 3 [(0, .ref (a 0))] := hl
  refine lv_iconst (v := mI (-1)) hx hb dX12_fresh_0 rfl ?_
  refine lv_istore_n (lv' := [(1, .int (mI (-1))), (0, .ref (a 0))]) hx hb dX12_fresh_1 rfl hl (by decide) rfl (fun ls hl => ?_)
  refine lv_iconst (v := mI 1) hx hb dX12_fresh_2 rfl ?_
  refine lv_istore_n (lv' := [(2, .int (mI 1)), (1, .int (mI (-1))), (0, .ref (a 0))]) hx hb dX12_fresh_3 rfl hl (by decide) rfl (fun ls hl => ?_)
  refine sy_loop (I := fun n H locs g => ∃ (z_216 : Int) (z_217 : Int) (ls : Array Slot), (1 ≤ z_216 ∧ z_216 ≤ 4096) ∧ (-1 ≤ z_217 ∧ z_217 ≤ 4095) ∧ (4096 - z_216).toNat = n ∧ va_P D vwCl (rW k a x_taped x_size x_faultKind x_faultPlace x_at x_end x_token x_number x_bank x_rb x_codes x_within x_piled x_unitsInRule x_askBeast x_askStroke x_askAge x_askSeason x_acts x_undone x_laid x_seens x_time x_fitting n_name B_tape B_text B_turns B_herds B_irons B_beasts B_units B_night B_draw B_told B_brands B_ironMarks B_herdTold B_born B_ruleFrom B_ruleTo B_code B_codeNumber B_eWhat B_eSign B_pile B_all B_burned B_was B_need B_laidRow B_long8 B_brings B_sBurning B_sStroke B_sIs B_sTold B_sUntold B_parts B_boxAll B_isBoxed G_hName G_iName G_bName ex) H ∧ va_S A s.heap H locs ∧ lv_has ls 3 [(2, .int (mI z_216)), (1, .int (mI z_217)), (0, .ref (a 0))] ∧ g = F0 m 4 ls []) ?_ _ ⟨1, (-1), _, by omega, by omega, rfl, hP, hS, lv_sub hl [0, 1, 2] rfl, rfl⟩
  intro n_227 H locs g hI ih_228
  obtain ⟨z_216, z_217, ls, h4_0, h4_1, mn_227, hP, hS, hl, rfl⟩ := hI
  refine lv_iload_n hx hb dX12_fresh_4 rfl (lv_at hl 0 rfl) ?_
  refine lv_sipush (v := mI 4096) hx hb dX12_fresh_5 (by decide) ?_
  refine sy_icmp_ge (tgt := 42) hx hb dX12_fresh_8 (by decide) (by omega) (by decide) (fun c_229 => ?_) (fun c_229 => ?_)
  · skip
    refine lv_iload_n hx hb dX12_fresh_42 rfl (lv_at hl 1 rfl) ?_
    exact r_i hx hb hr hlocks dX12_fresh_43 hS ⟨by omega, hP⟩
  · skip
    refine lv_iload_n hx hb dX12_fresh_11 rfl (lv_at hl 1 rfl) ?_
    refine sy_if_lt (tgt := 26) hx hb dX12_fresh_12 (by decide) (by omega) (fun c_230 => ?_) (fun c_230 => ?_)
    · skip
      refine lv_aload_n hx hb dX12_fresh_26 rfl (lv_at hl 2 rfl) ?_
      refine lv_iload_n hx hb dX12_fresh_27 rfl (lv_at hl 0 rfl) ?_
      refine g_i (rDt hD) hS hA (g_V (own := "HideReaderModel") (As := [.int (mI z_216)]) (rest := []) hx hb hml hown hts hK hP (rDt hD) (kr_X12_isFresh (l := l) (D := D) (k := k) (by omega) h_x_bank b_B_turns b_B_herds b_B_told b_B_brands) ck_X12_isFresh iv_X12_isFresh uw_9_122 (rv_o hK hP) rfl hl.1 rfl (Nat.le_of_ble_eq_true rfl) dX12_fresh_28 ⟨Nat.le_of_ble_eq_true rfl, Nat.le_of_ble_eq_true rfl⟩ ⟨Nat.le_of_ble_eq_true rfl, Nat.le_of_ble_eq_true rfl⟩) (fun r_231 H locs hQ hS => ?_)
      obtain ⟨hr_231_0, hP⟩ := hQ
      refine sy_if_eq (tgt := 36) hx hb dX12_fresh_31 (by decide) (by omega) (fun c_232 => ?_) (fun c_232 => ?_)
      · skip
        refine lv_iinc (v := mI (z_216 + 1)) (lv' := [(2, .int (mI (z_216 + 1))), (1, .int (mI z_217)), (0, .ref (a 0))]) hx hb dX12_fresh_36 hl (k := 0) rfl (mI_ad rfl) (by decide) rfl (fun ls hl => ?_)
        refine lv_goto (tgt := 4) hx hb dX12_fresh_39 (by decide) ?_
        exact ih_228 _ _ _ _ (by omega) ⟨(z_216 + 1), z_217, _, by omega, by omega, rfl, hP, hS, lv_sub hl [0, 1, 2] rfl, rfl⟩
      · skip
        refine lv_iload_n hx hb dX12_fresh_34 rfl (lv_at hl 0 rfl) ?_
        refine lv_istore_n (lv' := [(1, .int (mI z_216)), (2, .int (mI z_216)), (0, .ref (a 0))]) hx hb dX12_fresh_35 rfl hl (by decide) rfl (fun ls hl => ?_)
        refine lv_iinc (v := mI (z_216 + 1)) (lv' := [(2, .int (mI (z_216 + 1))), (1, .int (mI z_216)), (0, .ref (a 0))]) hx hb dX12_fresh_36 hl (k := 1) rfl (mI_ad rfl) (by decide) rfl (fun ls hl => ?_)
        refine lv_goto (tgt := 4) hx hb dX12_fresh_39 (by decide) ?_
        exact ih_228 _ _ _ _ (by omega) ⟨(z_216 + 1), z_216, _, by omega, by omega, rfl, hP, hS, lv_sub hl [0, 1, 2] rfl, rfl⟩
    · skip
      refine lv_iload_n hx hb dX12_fresh_15 rfl (lv_at hl 0 rfl) ?_
      refine g_i (rDt hD) hS hA (g_S (own := "HideReaderModel") (As := [.int (mI z_216)]) (rest := []) hx hb hml hown hts hK hP (rDt hD) (kr_X12_bitsOf (l := l) (D := D) (k := k) (by omega)) ck_X12_bitsOf uw_8_166 uw_8_165 rfl hl.1 rfl (Nat.le_of_ble_eq_true rfl) dX12_fresh_16 ⟨Nat.le_of_ble_eq_true rfl, Nat.le_of_ble_eq_true rfl⟩ ⟨Nat.le_of_ble_eq_true rfl, Nat.le_of_ble_eq_true rfl⟩) (fun r_233 H locs hQ hS => ?_)
      obtain ⟨hr_233_0, hP⟩ := hQ
      refine lv_iload_n hx hb dX12_fresh_19 rfl (lv_at hl 1 rfl) ?_
      refine g_i (rDt hD) hS hA (g_S (own := "HideReaderModel") (As := [.int (mI z_217)]) (rest := [.int (mI r_233)]) hx hb hml hown hts hK hP (rDt hD) (kr_X12_bitsOf (l := l) (D := D) (k := k) (by omega)) ck_X12_bitsOf uw_8_166 uw_8_165 rfl hl.1 rfl (Nat.le_of_ble_eq_true rfl) dX12_fresh_20 ⟨Nat.le_of_ble_eq_true rfl, Nat.le_of_ble_eq_true rfl⟩ ⟨Nat.le_of_ble_eq_true rfl, Nat.le_of_ble_eq_true rfl⟩) (fun r_234 H locs hQ hS => ?_)
      obtain ⟨hr_234_0, hP⟩ := hQ
      refine sy_icmp_ge (tgt := 36) hx hb dX12_fresh_23 (by decide) (by omega) (by omega) (fun c_235 => ?_) (fun c_235 => ?_)
      · skip
        refine lv_iinc (v := mI (z_216 + 1)) (lv' := [(2, .int (mI (z_216 + 1))), (1, .int (mI z_217)), (0, .ref (a 0))]) hx hb dX12_fresh_36 hl (k := 0) rfl (mI_ad rfl) (by decide) rfl (fun ls hl => ?_)
        refine lv_goto (tgt := 4) hx hb dX12_fresh_39 (by decide) ?_
        exact ih_228 _ _ _ _ (by omega) ⟨(z_216 + 1), z_217, _, by omega, by omega, rfl, hP, hS, lv_sub hl [0, 1, 2] rfl, rfl⟩
      · skip
        refine lv_aload_n hx hb dX12_fresh_26 rfl (lv_at hl 2 rfl) ?_
        refine lv_iload_n hx hb dX12_fresh_27 rfl (lv_at hl 0 rfl) ?_
        refine g_i (rDt hD) hS hA (g_V (own := "HideReaderModel") (As := [.int (mI z_216)]) (rest := []) hx hb hml hown hts hK hP (rDt hD) (kr_X12_isFresh (l := l) (D := D) (k := k) (by omega) h_x_bank b_B_turns b_B_herds b_B_told b_B_brands) ck_X12_isFresh iv_X12_isFresh uw_9_122 (rv_o hK hP) rfl hl.1 rfl (Nat.le_of_ble_eq_true rfl) dX12_fresh_28 ⟨Nat.le_of_ble_eq_true rfl, Nat.le_of_ble_eq_true rfl⟩ ⟨Nat.le_of_ble_eq_true rfl, Nat.le_of_ble_eq_true rfl⟩) (fun r_236 H locs hQ hS => ?_)
        obtain ⟨hr_236_0, hP⟩ := hQ
        refine sy_if_eq (tgt := 36) hx hb dX12_fresh_31 (by decide) (by omega) (fun c_237 => ?_) (fun c_237 => ?_)
        · skip
          refine lv_iinc (v := mI (z_216 + 1)) (lv' := [(2, .int (mI (z_216 + 1))), (1, .int (mI z_217)), (0, .ref (a 0))]) hx hb dX12_fresh_36 hl (k := 0) rfl (mI_ad rfl) (by decide) rfl (fun ls hl => ?_)
          refine lv_goto (tgt := 4) hx hb dX12_fresh_39 (by decide) ?_
          exact ih_228 _ _ _ _ (by omega) ⟨(z_216 + 1), z_217, _, by omega, by omega, rfl, hP, hS, lv_sub hl [0, 1, 2] rfl, rfl⟩
        · skip
          refine lv_iload_n hx hb dX12_fresh_34 rfl (lv_at hl 0 rfl) ?_
          refine lv_istore_n (lv' := [(1, .int (mI z_216)), (2, .int (mI z_216)), (0, .ref (a 0))]) hx hb dX12_fresh_35 rfl hl (by decide) rfl (fun ls hl => ?_)
          refine lv_iinc (v := mI (z_216 + 1)) (lv' := [(2, .int (mI (z_216 + 1))), (1, .int (mI z_216)), (0, .ref (a 0))]) hx hb dX12_fresh_36 hl (k := 1) rfl (mI_ad rfl) (by decide) rfl (fun ls hl => ?_)
          refine lv_goto (tgt := 4) hx hb dX12_fresh_39 (by decide) ?_
          exact ih_228 _ _ _ _ (by omega) ⟨(z_216 + 1), z_216, _, by omega, by omega, rfl, hP, hS, lv_sub hl [0, 1, 2] rfl, rfl⟩
end Kr
