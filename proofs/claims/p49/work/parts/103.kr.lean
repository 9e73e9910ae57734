section Kr
variable {l : Launch} {D : va_G} {k : Nat → ClassId} {a : Nat → Nat} {ex : va_W} {x_taped x_size x_faultKind x_faultPlace x_at x_end x_token x_number x_bank x_rb x_codes x_within x_piled x_unitsInRule x_askBeast x_askStroke x_askAge x_askSeason x_acts x_undone x_laid x_seens x_time x_fitting : Int} {n_name : Int64} {B_tape B_text B_turns B_herds B_irons B_beasts B_units B_night B_draw B_told B_brands B_ironMarks B_herdTold B_born B_ruleFrom B_ruleTo B_code B_codeNumber B_eWhat B_eSign B_pile B_all B_burned B_was B_need B_laidRow B_long8 B_brings B_sBurning B_sStroke B_sIs B_sTold B_sUntold B_parts B_boxAll B_isBoxed : Nat → Int} {G_hName G_iName G_bName : Nat → Int64}
set_option maxHeartbeats 4000000 in
set_option maxRecDepth 100000 in
theorem kr_X12_layBrings {p0 p1 : Int} (hp0 : 0 ≤ p0 ∧ p0 ≤ 1) (hp1 : 0 ≤ p1 ∧ p1 ≤ 7) (h_x_bank : 0 ≤ x_bank ∧ x_bank ≤ 1) (b_B_turns : bd (0) 4 B_turns) (b_B_irons : bd (0) 6 B_irons) (b_B_beasts : bd (0) 8 B_beasts) (b_B_told : bd (0) 31 B_told) (b_B_brands : bd (0) 4095 B_brands) (b_B_all : bA B_all) (b_B_burned : bd (0) 4095 B_burned) (b_B_need : bd (0) 100 B_need) (b_B_brings : bd (-2147483648) 2147483647 B_brings) (g_R : 1 ≤ B_turns x_bank.toNat ∧ ¬ B_turns x_bank.toNat = 3) : MetG l D k yX12_layBrings cX12_layBrings 4 none 5 [.ref (a 0), .int (mI p0), .int (mI p1)] (rW k a x_taped x_size x_faultKind x_faultPlace x_at x_end x_token x_number x_bank x_rb x_codes x_within x_piled x_unitsInRule x_askBeast x_askStroke x_askAge x_askSeason x_acts x_undone x_laid x_seens x_time x_fitting n_name B_tape B_text B_turns B_herds B_irons B_beasts B_units B_night B_draw B_told B_brands B_ironMarks B_herdTold B_born B_ruleFrom B_ruleTo B_code B_codeNumber B_eWhat B_eSign B_pile B_all B_burned B_was B_need B_laidRow B_long8 B_brings B_sBurning B_sStroke B_sIs B_sTold B_sUntold B_parts B_boxAll B_isBoxed G_hName G_iName G_bName ex) (qGv (fun H => ∃ (F_need : Nat → Int) (F_brings : Nat → Int), (bd (0) 100 F_need) ∧ (bd (-2147483648) 2147483647 F_brings) ∧ va_P D vwCl (rW k a x_taped x_size x_faultKind x_faultPlace x_at x_end x_token x_number x_bank x_rb x_codes x_within x_piled x_unitsInRule x_askBeast x_askStroke x_askAge x_askSeason x_acts x_undone x_laid x_seens x_time x_fitting n_name B_tape B_text B_turns B_herds B_irons B_beasts B_units B_night B_draw B_told B_brands B_ironMarks B_herdTold B_born B_ruleFrom B_ruleTo B_code B_codeNumber B_eWhat B_eSign B_pile B_all B_burned B_was F_need B_laidRow B_long8 F_brings B_sBurning B_sStroke B_sIs B_sTold B_sUntold B_parts B_boxAll B_isBoxed G_hName G_iName G_bName ex) H)) := by
  refine metG_of 2 ck_X12_layBrings (Nat.le_of_ble_eq_true rfl) rMap (fun p e s m args below meth c A hx hb hml hr hlocks hown hts hK hD hA hP hS ls hl => ?_)
  have hown : s.vm.findClass "HideReaderModel" = some m.cls := hown
  have hl : lv_has ls 4 [(0, .ref (a 0)), (1, .int (mI p0)), (2, .int (mI p1))] := hl
  refine lv_aload_n hx hb dX12_layBrings_0 rfl (lv_at hl 0 rfl) ?_
  refine lv_aload_n hx hb dX12_layBrings_1 rfl (lv_at hl 0 rfl) ?_
  refine lv_iload_n hx hb dX12_layBrings_2 rfl (lv_at hl 2 rfl) ?_
  refine g_i (rDt hD) hS hA (g_V (own := "HideReaderModel") (As := [.int (mI p1)]) (rest := [.ref (a 0)]) hx hb hml hown hts hK hP (rDt hD) (kr_X12_brandOf (l := l) (D := D) (k := k) (by omega) h_x_bank b_B_brands) ck_X12_brandOf iv_X12_brandOf uw_6_220 (rv_o hK hP) rfl hl.1 rfl (Nat.le_of_ble_eq_true rfl) dX12_layBrings_3 ⟨Nat.le_of_ble_eq_true rfl, Nat.le_of_ble_eq_true rfl⟩ ⟨Nat.le_of_ble_eq_true rfl, Nat.le_of_ble_eq_true rfl⟩) (fun r_1 H locs hQ hS => ?_)
  obtain ⟨hr_1_0, hr_1_1, hP⟩ := hQ
  refine g_v (rDt hD) hS hA (g_V (own := "HideReaderModel") (As := [.int (mI r_1)]) (rest := []) hx hb hml hown hts hK hP (rDt hD) (kr_X12_layNeed (l := l) (D := D) (k := k) (by omega) h_x_bank b_B_turns b_B_irons b_B_told b_B_burned b_B_need g_R) ck_X12_layNeed iv_X12_layNeed uw_9_38 (rv_o hK hP) rfl hl.1 rfl (Nat.le_of_ble_eq_true rfl) dX12_layBrings_6 ⟨Nat.le_of_ble_eq_true rfl, Nat.le_of_ble_eq_true rfl⟩ ⟨Nat.le_of_ble_eq_true rfl, Nat.le_of_ble_eq_true rfl⟩) (fun H locs hQ hS => ?_)
  obtain ⟨F_3, bF_3, hr_2_1, hP⟩ := hQ
  refine lv_iconst (v := mI 0) hx hb dX12_layBrings_9 rfl ?_
  refine lv_istore_n (lv' := [(3, .int (mI 0)), (0, .ref (a 0)), (1, .int (mI p0)), (2, .int (mI p1))]) hx hb dX12_layBrings_10 rfl hl (by decide) rfl (fun ls hl => ?_)
  refine sy_loop (I := fun n H locs g => ∃ (z_100 : Int) (F_101 : Nat → Int) (ls : Array Slot), (0 ≤ z_100 ∧ z_100 ≤ 8) ∧ (bd (-2147483648) 2147483647 F_101) ∧ (8 - z_100).toNat = n ∧ va_P D vwCl (rW k a x_taped x_size x_faultKind x_faultPlace x_at x_end x_token x_number x_bank x_rb x_codes x_within x_piled x_unitsInRule x_askBeast x_askStroke x_askAge x_askSeason x_acts x_undone x_laid x_seens x_time x_fitting n_name B_tape B_text B_turns B_herds B_irons B_beasts B_units B_night B_draw B_told B_brands B_ironMarks B_herdTold B_born B_ruleFrom B_ruleTo B_code B_codeNumber B_eWhat B_eSign B_pile B_all B_burned B_was F_3 B_laidRow B_long8 F_101 B_sBurning B_sStroke B_sIs B_sTold B_sUntold B_parts B_boxAll B_isBoxed G_hName G_iName G_bName ex) H ∧ va_S A s.heap H locs ∧ lv_has ls 4 [(3, .int (mI z_100)), (0, .ref (a 0)), (1, .int (mI p0)), (2, .int (mI p1))] ∧ g = F0 m 11 ls []) ?_ _ ⟨0, B_brings, _, by omega, b_B_brings, rfl, hP, hS, lv_sub hl [0, 1, 2, 3] rfl, rfl⟩
  intro n_114 H locs g hI ih_115
  obtain ⟨z_100, F_101, ls, h11_0, bF_101, mn_114, hP, hS, hl, rfl⟩ := hI
  refine lv_iload_n hx hb dX12_layBrings_11 rfl (lv_at hl 0 rfl) ?_
  refine lv_aload_n hx hb dX12_layBrings_12 rfl (lv_at hl 1 rfl) ?_
  refine g_i (rDt hD) hS hA (g_V (own := "HideReaderModel") (As := []) (rest := [.int (mI z_100)]) hx hb hml hown hts hK hP (rDt hD) (kr_X12_cattle (l := l) (D := D) (k := k) h_x_bank b_B_beasts) ck_X12_cattle iv_X12_cattle uw_6_212 (rv_o hK hP) rfl hl.1 rfl (Nat.le_of_ble_eq_true rfl) dX12_layBrings_13 ⟨Nat.le_of_ble_eq_true rfl, Nat.le_of_ble_eq_true rfl⟩ ⟨Nat.le_of_ble_eq_true rfl, Nat.le_of_ble_eq_true rfl⟩) (fun r_116 H locs hQ hS => ?_)
  obtain ⟨hr_116_0, hr_116_1, hP⟩ := hQ
  refine sy_icmp_ge (tgt := 71) hx hb dX12_layBrings_16 (by decide) (by omega) (by omega) (fun c_117 => ?_) (fun c_117 => ?_)
  · skip
    exact r_v hx hb hr hlocks dX12_layBrings_71 hS ⟨F_3, F_101, bF_3, bF_101, hP⟩
  · skip
    refine lv_aload_n hx hb dX12_layBrings_19 rfl (lv_at hl 1 rfl) ?_
    refine rg_o_brings hx hb hts hown hK hP uw_7_75 dX12_layBrings_20 ?_
    refine lv_bipush (v := mI 8) hx hb dX12_layBrings_23 (by decide) ?_
    refine lv_iload_n hx hb dX12_layBrings_25 rfl (lv_at hl 2 rfl) ?_
    refine sy_imul hx hb dX12_layBrings_26 (8 * p0) rfl ?_
    refine lv_iload_n hx hb dX12_layBrings_27 rfl (lv_at hl 0 rfl) ?_
    refine sy_iadd hx hb dX12_layBrings_28 (8 * p0 + z_100) rfl ?_
    refine lv_aload_n hx hb dX12_layBrings_29 rfl (lv_at hl 1 rfl) ?_
    refine lv_aload_n hx hb dX12_layBrings_30 rfl (lv_at hl 1 rfl) ?_
    refine rg_o_all hx hb hts hown hK hP uw_7_66 dX12_layBrings_31 ?_
    refine lv_iconst (v := mI 0) hx hb dX12_layBrings_34 rfl ?_
    refine lv_iload_n hx hb dX12_layBrings_35 rfl (lv_at hl 0 rfl) ?_
    refine sy_iadd hx hb dX12_layBrings_36 z_100 (by omega) ?_
    refine rl_all hx hb hK hP dX12_layBrings_37 (by omega) (bA_bd b_B_all) (fun z_118 ez_118 hz_118 => ?_)
    have hz_118 := bA_hid b_B_all (by omega) ez_118
    refine g_i (rDt hD) hS hA (g_V (own := "HideReaderModel") (As := [.int (mI z_118)]) (rest := [.int (mI (8 * p0 + z_100)), .ref (a 31)]) hx hb hml hown hts hK hP (rDt hD) (kr_X12_canMake (l := l) (D := D) (k := k) (by omega) bF_3) ck_X12_canMake iv_X12_canMake uw_9_42 (rv_o hK hP) rfl hl.1 rfl (Nat.le_of_ble_eq_true rfl) dX12_layBrings_38 ⟨Nat.le_of_ble_eq_true rfl, Nat.le_of_ble_eq_true rfl⟩ ⟨Nat.le_of_ble_eq_true rfl, Nat.le_of_ble_eq_true rfl⟩) (fun r_119 H locs hQ hS => ?_)
    obtain ⟨hq_r_119, hP⟩ := hQ
    rcases hq_r_119 with rfl | ⟨rfl, c_121_0⟩
    · skip
      refine sy_if_eq (tgt := 63) hx hb dX12_layBrings_41 (by decide) (by decide) (fun c_122 => ?_) (fun c9 => absurd c9 (by decide))
      refine lv_iconst (v := mI 0) hx hb dX12_layBrings_63 rfl ?_
      refine rs_brings hx hb hK hP hD hS dX12_layBrings_64 (by omega) bF_101 (by omega) (fun F_123 H locs _ bF_123 hP hS => ?_)
      refine lv_iinc (v := mI (z_100 + 1)) (lv' := [(3, .int (mI (z_100 + 1))), (0, .ref (a 0)), (1, .int (mI p0)), (2, .int (mI p1))]) hx hb dX12_layBrings_65 hl (k := 0) rfl (mI_ad rfl) (by decide) rfl (fun ls hl => ?_)
      refine lv_goto (tgt := 11) hx hb dX12_layBrings_68 (by decide) ?_
      exact ih_115 _ _ _ _ (by omega) ⟨(z_100 + 1), F_123, _, by omega, bF_123, rfl, hP, hS, lv_sub hl [0, 1, 2, 3] rfl, rfl⟩
    · skip
      refine sy_if_eq (tgt := 63) hx hb dX12_layBrings_41 (by decide) (by decide) (fun c9 => absurd c9 (by decide)) (fun c_124 => ?_)
      refine lv_bipush (v := mI 10) hx hb dX12_layBrings_44 (by decide) ?_
      refine lv_aload_n hx hb dX12_layBrings_46 rfl (lv_at hl 1 rfl) ?_
      refine rg_o_need hx hb hts hown hK hP uw_7_71 dX12_layBrings_47 ?_
      refine lv_aload_n hx hb dX12_layBrings_50 rfl (lv_at hl 1 rfl) ?_
      refine rg_o_all hx hb hts hown hK hP uw_7_66 dX12_layBrings_51 ?_
      refine lv_iconst (v := mI 0) hx hb dX12_layBrings_54 rfl ?_
      refine lv_iload_n hx hb dX12_layBrings_55 rfl (lv_at hl 0 rfl) ?_
      refine sy_iadd hx hb dX12_layBrings_56 z_100 (by omega) ?_
      refine rl_all hx hb hK hP dX12_layBrings_57 (by omega) (bA_bd b_B_all) (fun z_125 ez_125 hz_125 => ?_)
      have hz_125 := bA_hid b_B_all (by omega) ez_125
      refine rl_need hx hb hK hP dX12_layBrings_58 (by omega) bF_3 (fun z_126 _ hz_126 => ?_)
      refine sy_isub hx hb dX12_layBrings_59 (-z_126 + 10) (by omega) ?_
      refine lv_goto (tgt := 64) hx hb dX12_layBrings_60 (by decide) ?_
      refine rs_brings hx hb hK hP hD hS dX12_layBrings_64 (by omega) bF_101 (by omega) (fun F_127 H locs _ bF_127 hP hS => ?_)
      refine lv_iinc (v := mI (z_100 + 1)) (lv' := [(3, .int (mI (z_100 + 1))), (0, .ref (a 0)), (1, .int (mI p0)), (2, .int (mI p1))]) hx hb dX12_layBrings_65 hl (k := 0) rfl (mI_ad rfl) (by decide) rfl (fun ls hl => ?_)
      refine lv_goto (tgt := 11) hx hb dX12_layBrings_68 (by decide) ?_
      exact ih_115 _ _ _ _ (by omega) ⟨(z_100 + 1), F_127, _, by omega, bF_127, rfl, hP, hS, lv_sub hl [0, 1, 2, 3] rfl, rfl⟩
set_option maxHeartbeats 4000000 in
set_option maxRecDepth 100000 in
theorem kr_X12_isRest {p0 p1 : Int} (hp0 : 0 ≤ p0 ∧ p0 ≤ 7) (hp1 : 0 ≤ p1 ∧ p1 ≤ 7) (h_x_bank : 0 ≤ x_bank ∧ x_bank ≤ 1) (b_B_beasts : bd (0) 8 B_beasts) (b_B_brings : bd (-2147483648) 2147483647 B_brings) : MetG l D k yX12_isRest cX12_isRest 6 (some .boolean) 1 [.ref (a 0), .int (mI p0), .int (mI p1)] (rW k a x_taped x_size x_faultKind x_faultPlace x_at x_end x_token x_number x_bank x_rb x_codes x_within x_piled x_unitsInRule x_askBeast x_askStroke x_askAge x_askSeason x_acts x_undone x_laid x_seens x_time x_fitting n_name B_tape B_text B_turns B_herds B_irons B_beasts B_units B_night B_draw B_told B_brands B_ironMarks B_herdTold B_born B_ruleFrom B_ruleTo B_code B_codeNumber B_eWhat B_eSign B_pile B_all B_burned B_was B_need B_laidRow B_long8 B_brings B_sBurning B_sStroke B_sIs B_sTold B_sUntold B_parts B_boxAll B_isBoxed G_hName G_iName G_bName ex) (qGi (fun r0 H => (0 ≤ r0 ∧ r0 ≤ 1) ∧ va_P D vwCl (rW k a x_taped x_size x_faultKind x_faultPlace x_at x_end x_token x_number x_bank x_rb x_codes x_within x_piled x_unitsInRule x_askBeast x_askStroke x_askAge x_askSeason x_acts x_undone x_laid x_seens x_time x_fitting n_name B_tape B_text B_turns B_herds B_irons B_beasts B_units B_night B_draw B_told B_brands B_ironMarks B_herdTold B_born B_ruleFrom B_ruleTo B_code B_codeNumber B_eWhat B_eSign B_pile B_all B_burned B_was B_need B_laidRow B_long8 B_brings B_sBurning B_sStroke B_sIs B_sTold B_sUntold B_parts B_boxAll B_isBoxed G_hName G_iName G_bName ex) H)) := by
  refine metG_of 2 ck_X12_isRest (Nat.le_of_ble_eq_true rfl) rMap (fun p e s m args below meth c A hx hb hml hr hlocks hown hts hK hD hA hP hS ls hl => ?_)
  have hown : s.vm.findClass "HideReaderModel" = some m.cls := hown
  have hl : lv_has ls 6 [(0, .ref (a 0)), (1, .int (mI p0)), (2, .int (mI p1))] := hl
  refine lv_iload_n hx hb dX12_isRest_0 rfl (lv_at hl 1 rfl) ?_
  refine lv_iload_n hx hb dX12_isRest_1 rfl (lv_at hl 2 rfl) ?_
  refine sy_join (I := fun H locs g => ∃ (z_3 : Int) (ls : Array Slot), (-2147483648 ≤ z_3 ∧ z_3 ≤ 2147483647) ∧ va_P D vwCl (rW k a x_taped x_size x_faultKind x_faultPlace x_at x_end x_token x_number x_bank x_rb x_codes x_within x_piled x_unitsInRule x_askBeast x_askStroke x_askAge x_askSeason x_acts x_undone x_laid x_seens x_time x_fitting n_name B_tape B_text B_turns B_herds B_irons B_beasts B_units B_night B_draw B_told B_brands B_ironMarks B_herdTold B_born B_ruleFrom B_ruleTo B_code B_codeNumber B_eWhat B_eSign B_pile B_all B_burned B_was B_need B_laidRow B_long8 B_brings B_sBurning B_sStroke B_sIs B_sTold B_sUntold B_parts B_boxAll B_isBoxed G_hName G_iName G_bName ex) H ∧ va_S A s.heap H locs ∧ lv_has ls 6 [(0, .ref (a 0)), (1, .int (mI p0)), (2, .int (mI p1))] ∧ g = F0 m 15 ls [.int (mI z_3)]) ?_ ?_
  · skip
    intro H locs g hI
    obtain ⟨z_3, ls, h15_0, hP, hS, hl, rfl⟩ := hI
    refine lv_istore_n (lv' := [(3, .int (mI z_3)), (0, .ref (a 0)), (1, .int (mI p0)), (2, .int (mI p1))]) hx hb dX12_isRest_15 rfl hl (by decide) rfl (fun ls hl => ?_)
    refine lv_iload_n hx hb dX12_isRest_16 rfl (lv_at hl 2 rfl) ?_
    refine lv_iload_n hx hb dX12_isRest_17 rfl (lv_at hl 3 rfl) ?_
    refine sy_join (I := fun H locs g => ∃ (z_7 : Int) (ls : Array Slot), (-2147483648 ≤ z_7 ∧ z_7 ≤ 2147483647) ∧ va_P D vwCl (rW k a x_taped x_size x_faultKind x_faultPlace x_at x_end x_token x_number x_bank x_rb x_codes x_within x_piled x_unitsInRule x_askBeast x_askStroke x_askAge x_askSeason x_acts x_undone x_laid x_seens x_time x_fitting n_name B_tape B_text B_turns B_herds B_irons B_beasts B_units B_night B_draw B_told B_brands B_ironMarks B_herdTold B_born B_ruleFrom B_ruleTo B_code B_codeNumber B_eWhat B_eSign B_pile B_all B_burned B_was B_need B_laidRow B_long8 B_brings B_sBurning B_sStroke B_sIs B_sTold B_sUntold B_parts B_boxAll B_isBoxed G_hName G_iName G_bName ex) H ∧ va_S A s.heap H locs ∧ lv_has ls 6 [(3, .int (mI z_3)), (0, .ref (a 0)), (1, .int (mI p0)), (2, .int (mI p1))] ∧ g = F0 m 34 ls [.int (mI z_7)]) ?_ ?_
    · skip
      intro H locs g hI
      obtain ⟨z_7, ls, h34_0, hP, hS, hl, rfl⟩ := hI
      refine lv_istore (lv' := [(4, .int (mI z_7)), (3, .int (mI z_3)), (0, .ref (a 0)), (1, .int (mI p0)), (2, .int (mI p1))]) hx hb dX12_isRest_34 hl (by decide) rfl (fun ls hl => ?_)
      refine lv_iconst (v := mI 0) hx hb dX12_isRest_36 rfl ?_
      refine lv_istore (lv' := [(5, .int (mI 0)), (4, .int (mI z_7)), (3, .int (mI z_3)), (0, .ref (a 0)), (1, .int (mI p0)), (2, .int (mI p1))]) hx hb dX12_isRest_37 hl (by decide) rfl (fun ls hl => ?_)
      refine sy_loop (I := fun n H locs g => ∃ (z_92 : Int) (ls : Array Slot), (0 ≤ z_92 ∧ z_92 ≤ 8) ∧ (8 - z_92).toNat = n ∧ va_P D vwCl (rW k a x_taped x_size x_faultKind x_faultPlace x_at x_end x_token x_number x_bank x_rb x_codes x_within x_piled x_unitsInRule x_askBeast x_askStroke x_askAge x_askSeason x_acts x_undone x_laid x_seens x_time x_fitting n_name B_tape B_text B_turns B_herds B_irons B_beasts B_units B_night B_draw B_told B_brands B_ironMarks B_herdTold B_born B_ruleFrom B_ruleTo B_code B_codeNumber B_eWhat B_eSign B_pile B_all B_burned B_was B_need B_laidRow B_long8 B_brings B_sBurning B_sStroke B_sIs B_sTold B_sUntold B_parts B_boxAll B_isBoxed G_hName G_iName G_bName ex) H ∧ va_S A s.heap H locs ∧ lv_has ls 6 [(5, .int (mI z_92)), (4, .int (mI z_7)), (3, .int (mI z_3)), (0, .ref (a 0)), (1, .int (mI p0)), (2, .int (mI p1))] ∧ g = F0 m 39 ls []) ?_ _ ⟨0, _, by omega, rfl, hP, hS, lv_sub hl [0, 1, 2, 3, 4, 5] rfl, rfl⟩
      intro n_104 H locs g hI ih_105
      obtain ⟨z_92, ls, h39_0, mn_104, hP, hS, hl, rfl⟩ := hI
      refine lv_iload hx hb dX12_isRest_39 (lv_at hl 0 rfl) ?_
      refine lv_aload_n hx hb dX12_isRest_41 rfl (lv_at hl 3 rfl) ?_
      refine g_i (rDt hD) hS hA (g_V (own := "HideReaderModel") (As := []) (rest := [.int (mI z_92)]) hx hb hml hown hts hK hP (rDt hD) (kr_X12_cattle (l := l) (D := D) (k := k) h_x_bank b_B_beasts) ck_X12_cattle iv_X12_cattle uw_6_212 (rv_o hK hP) rfl hl.1 rfl (Nat.le_of_ble_eq_true rfl) dX12_isRest_42 ⟨Nat.le_of_ble_eq_true rfl, Nat.le_of_ble_eq_true rfl⟩ ⟨Nat.le_of_ble_eq_true rfl, Nat.le_of_ble_eq_true rfl⟩) (fun r_106 H locs hQ hS => ?_)
      obtain ⟨hr_106_0, hr_106_1, hP⟩ := hQ
      refine sy_icmp_ge (tgt := 94) hx hb dX12_isRest_45 (by decide) (by omega) (by omega) (fun c_107 => ?_) (fun c_107 => ?_)
      · skip
        refine lv_iconst (v := mI 1) hx hb dX12_isRest_94 rfl ?_
        exact r_z hx hb hr hlocks dX12_isRest_95 hS (by decide) ⟨by omega, hP⟩
      · skip
        refine lv_iload hx hb dX12_isRest_48 (lv_at hl 0 rfl) ?_
        refine lv_iload_n hx hb dX12_isRest_50 rfl (lv_at hl 5 rfl) ?_
        refine sy_icmp_eq (tgt := 65) hx hb dX12_isRest_51 (by decide) (by omega) (by omega) (fun c_108 => ?_) (fun c_108 => ?_)
        · skip
          refine lv_iload hx hb dX12_isRest_65 (lv_at hl 0 rfl) ?_
          refine lv_iload_n hx hb dX12_isRest_67 rfl (lv_at hl 4 rfl) ?_
          refine sy_icmp_eq (tgt := 88) hx hb dX12_isRest_68 (by decide) (by omega) (by omega) (fun c_109 => ?_) (fun c_109 => ?_)
          · skip
            refine lv_iinc (v := mI (z_92 + 1)) (lv' := [(5, .int (mI (z_92 + 1))), (4, .int (mI z_7)), (3, .int (mI z_3)), (0, .ref (a 0)), (1, .int (mI p0)), (2, .int (mI p1))]) hx hb dX12_isRest_88 hl (k := 0) rfl (mI_ad rfl) (by decide) rfl (fun ls hl => ?_)
            refine lv_goto (tgt := 39) hx hb dX12_isRest_91 (by decide) ?_
            exact ih_105 _ _ _ _ (by omega) ⟨(z_92 + 1), _, by omega, rfl, hP, hS, lv_sub hl [0, 1, 2, 3, 4, 5] rfl, rfl⟩
          · skip
            refine lv_aload_n hx hb dX12_isRest_71 rfl (lv_at hl 3 rfl) ?_
            refine rg_o_brings hx hb hts hown hK hP uw_7_75 dX12_isRest_72 ?_
            refine lv_bipush (v := mI 8) hx hb dX12_isRest_75 (by decide) ?_
            refine lv_iload hx hb dX12_isRest_77 (lv_at hl 0 rfl) ?_
            refine sy_iadd hx hb dX12_isRest_79 (z_92 + 8) (by omega) ?_
            refine rl_brings hx hb hK hP dX12_isRest_80 (by omega) b_B_brings (fun z_110 _ hz_110 => ?_)
            refine lv_iload hx hb dX12_isRest_81 (lv_at hl 1 rfl) ?_
            refine sy_icmp_le (tgt := 88) hx hb dX12_isRest_83 (by decide) (by omega) (by omega) (fun c_111 => ?_) (fun c_111 => ?_)
            · skip
              refine lv_iinc (v := mI (z_92 + 1)) (lv' := [(5, .int (mI (z_92 + 1))), (4, .int (mI z_7)), (3, .int (mI z_3)), (0, .ref (a 0)), (1, .int (mI p0)), (2, .int (mI p1))]) hx hb dX12_isRest_88 hl (k := 0) rfl (mI_ad rfl) (by decide) rfl (fun ls hl => ?_)
              refine lv_goto (tgt := 39) hx hb dX12_isRest_91 (by decide) ?_
              exact ih_105 _ _ _ _ (by omega) ⟨(z_92 + 1), _, by omega, rfl, hP, hS, lv_sub hl [0, 1, 2, 3, 4, 5] rfl, rfl⟩
            · skip
              refine lv_iconst (v := mI 0) hx hb dX12_isRest_86 rfl ?_
              exact r_z hx hb hr hlocks dX12_isRest_87 hS (by decide) ⟨by omega, hP⟩
        · skip
          refine lv_aload_n hx hb dX12_isRest_54 rfl (lv_at hl 3 rfl) ?_
          refine rg_o_brings hx hb hts hown hK hP uw_7_75 dX12_isRest_55 ?_
          refine lv_iload hx hb dX12_isRest_58 (lv_at hl 0 rfl) ?_
          refine rl_brings hx hb hK hP dX12_isRest_60 (by omega) b_B_brings (fun z_112 _ hz_112 => ?_)
          refine lv_iload_n hx hb dX12_isRest_61 rfl (lv_at hl 2 rfl) ?_
          refine sy_icmp_gt (tgt := 86) hx hb dX12_isRest_62 (by decide) (by omega) (by omega) (fun c_113 => ?_) (fun c_113 => ?_)
          · skip
            refine lv_iconst (v := mI 0) hx hb dX12_isRest_86 rfl ?_
            exact r_z hx hb hr hlocks dX12_isRest_87 hS (by decide) ⟨by omega, hP⟩
          · skip
            refine lv_iload hx hb dX12_isRest_65 (lv_at hl 0 rfl) ?_
            refine lv_iload_n hx hb dX12_isRest_67 rfl (lv_at hl 4 rfl) ?_
            refine sy_icmp_eq (tgt := 88) hx hb dX12_isRest_68 (by decide) (by omega) (by omega) (fun c_114 => ?_) (fun c_114 => ?_)
            · skip
              refine lv_iinc (v := mI (z_92 + 1)) (lv' := [(5, .int (mI (z_92 + 1))), (4, .int (mI z_7)), (3, .int (mI z_3)), (0, .ref (a 0)), (1, .int (mI p0)), (2, .int (mI p1))]) hx hb dX12_isRest_88 hl (k := 0) rfl (mI_ad rfl) (by decide) rfl (fun ls hl => ?_)
              refine lv_goto (tgt := 39) hx hb dX12_isRest_91 (by decide) ?_
              exact ih_105 _ _ _ _ (by omega) ⟨(z_92 + 1), _, by omega, rfl, hP, hS, lv_sub hl [0, 1, 2, 3, 4, 5] rfl, rfl⟩
            · skip
              refine lv_aload_n hx hb dX12_isRest_71 rfl (lv_at hl 3 rfl) ?_
              refine rg_o_brings hx hb hts hown hK hP uw_7_75 dX12_isRest_72 ?_
              refine lv_bipush (v := mI 8) hx hb dX12_isRest_75 (by decide) ?_
              refine lv_iload hx hb dX12_isRest_77 (lv_at hl 0 rfl) ?_
              refine sy_iadd hx hb dX12_isRest_79 (z_92 + 8) (by omega) ?_
              refine rl_brings hx hb hK hP dX12_isRest_80 (by omega) b_B_brings (fun z_115 _ hz_115 => ?_)
              refine lv_iload hx hb dX12_isRest_81 (lv_at hl 1 rfl) ?_
              refine sy_icmp_le (tgt := 88) hx hb dX12_isRest_83 (by decide) (by omega) (by omega) (fun c_116 => ?_) (fun c_116 => ?_)
              · skip
                refine lv_iinc (v := mI (z_92 + 1)) (lv' := [(5, .int (mI (z_92 + 1))), (4, .int (mI z_7)), (3, .int (mI z_3)), (0, .ref (a 0)), (1, .int (mI p0)), (2, .int (mI p1))]) hx hb dX12_isRest_88 hl (k := 0) rfl (mI_ad rfl) (by decide) rfl (fun ls hl => ?_)
                refine lv_goto (tgt := 39) hx hb dX12_isRest_91 (by decide) ?_
                exact ih_105 _ _ _ _ (by omega) ⟨(z_92 + 1), _, by omega, rfl, hP, hS, lv_sub hl [0, 1, 2, 3, 4, 5] rfl, rfl⟩
              · skip
                refine lv_iconst (v := mI 0) hx hb dX12_isRest_86 rfl ?_
                exact r_z hx hb hr hlocks dX12_isRest_87 hS (by decide) ⟨by omega, hP⟩
    · skip
      intro J_8
      refine sy_icmp_ne (tgt := 25) hx hb dX12_isRest_18 (by decide) (by omega) (by omega) (fun c_117 => ?_) (fun c_117 => ?_)
      · skip
        refine lv_aload_n hx hb dX12_isRest_25 rfl (lv_at hl 1 rfl) ?_
        refine rg_o_brings hx hb hts hown hK hP uw_7_75 dX12_isRest_26 ?_
        refine lv_bipush (v := mI 8) hx hb dX12_isRest_29 (by decide) ?_
        refine lv_iload_n hx hb dX12_isRest_31 rfl (lv_at hl 3 rfl) ?_
        refine sy_iadd hx hb dX12_isRest_32 (p1 + 8) (by omega) ?_
        refine rl_brings hx hb hK hP dX12_isRest_33 (by omega) b_B_brings (fun z_118 _ hz_118 => ?_)
        exact J_8 _ _ _ ⟨z_118, _, by omega, hP, hS, lv_sub hl [0, 1, 2, 3] rfl, rfl⟩
      · skip
        refine lv_iconst (v := mI 0) hx hb dX12_isRest_21 rfl ?_
        refine lv_goto (tgt := 34) hx hb dX12_isRest_22 (by decide) ?_
        exact J_8 _ _ _ ⟨0, _, by omega, hP, hS, lv_sub hl [0, 1, 2, 3] rfl, rfl⟩
  · skip
    intro J_4
    refine sy_icmp_ne (tgt := 9) hx hb dX12_isRest_2 (by decide) (by omega) (by omega) (fun c_119 => ?_) (fun c_119 => ?_)
    · skip
      refine lv_aload_n hx hb dX12_isRest_9 rfl (lv_at hl 0 rfl) ?_
      refine rg_o_brings hx hb hts hown hK hP uw_7_75 dX12_isRest_10 ?_
      refine lv_iload_n hx hb dX12_isRest_13 rfl (lv_at hl 1 rfl) ?_
      refine rl_brings hx hb hK hP dX12_isRest_14 (by omega) b_B_brings (fun z_120 _ hz_120 => ?_)
      exact J_4 _ _ _ ⟨z_120, _, by omega, hP, hS, lv_sub hl [0, 1, 2] rfl, rfl⟩
    · skip
      refine lv_iconst (v := mI 0) hx hb dX12_isRest_5 rfl ?_
      refine lv_goto (tgt := 15) hx hb dX12_isRest_6 (by decide) ?_
      exact J_4 _ _ _ ⟨0, _, by omega, hP, hS, lv_sub hl [0, 1, 2] rfl, rfl⟩
set_option maxHeartbeats 4000000 in
set_option maxRecDepth 100000 in
theorem kr_X12_power_vc {p1 : Int} (h_c0 : 100 ≤ 100 ∧ 100 ≤ 100) (hp1 : 0 ≤ p1 ∧ p1 ≤ 4) : MetG l D k yX12_power cX12_power 4 (some .int) 0 [.int (mI 100), .int (mI p1)] (rW k a x_taped x_size x_faultKind x_faultPlace x_at x_end x_token x_number x_bank x_rb x_codes x_within x_piled x_unitsInRule x_askBeast x_askStroke x_askAge x_askSeason x_acts x_undone x_laid x_seens x_time x_fitting n_name B_tape B_text B_turns B_herds B_irons B_beasts B_units B_night B_draw B_told B_brands B_ironMarks B_herdTold B_born B_ruleFrom B_ruleTo B_code B_codeNumber B_eWhat B_eSign B_pile B_all B_burned B_was B_need B_laidRow B_long8 B_brings B_sBurning B_sStroke B_sIs B_sTold B_sUntold B_parts B_boxAll B_isBoxed G_hName G_iName G_bName ex) (qGi (fun r0 H => (1 ≤ r0 ∧ r0 ≤ 100000000) ∧ va_P D vwCl (rW k a x_taped x_size x_faultKind x_faultPlace x_at x_end x_token x_number x_bank x_rb x_codes x_within x_piled x_unitsInRule x_askBeast x_askStroke x_askAge x_askSeason x_acts x_undone x_laid x_seens x_time x_fitting n_name B_tape B_text B_turns B_herds B_irons B_beasts B_units B_night B_draw B_told B_brands B_ironMarks B_herdTold B_born B_ruleFrom B_ruleTo B_code B_codeNumber B_eWhat B_eSign B_pile B_all B_burned B_was B_need B_laidRow B_long8 B_brings B_sBurning B_sStroke B_sIs B_sTold B_sUntold B_parts B_boxAll B_isBoxed G_hName G_iName G_bName ex) H)) := by
  refine metG_of 2 ck_X12_power (Nat.le_of_ble_eq_true rfl) rMap (fun p e s m args below meth c A hx hb hml hr hlocks hown hts hK hD hA hP hS ls hl => ?_)
  have hown : s.vm.findClass "HideReaderModel" = some m.cls := hown
  have hl : lv_has ls 4 [(0, .int (mI 100)), (1, .int (mI p1))] := hl
  refine lv_iconst (v := mI 1) hx hb dX12_power_0 rfl ?_
  refine lv_istore_n (lv' := [(2, .int (mI 1)), (0, .int (mI 100)), (1, .int (mI p1))]) hx hb dX12_power_1 rfl hl (by decide) rfl (fun ls hl => ?_)
  refine lv_iconst (v := mI 0) hx hb dX12_power_2 rfl ?_
  refine lv_istore_n (lv' := [(3, .int (mI 0)), (2, .int (mI 1)), (0, .int (mI 100)), (1, .int (mI p1))]) hx hb dX12_power_3 rfl hl (by decide) rfl (fun ls hl => ?_)
  refine lv_iload_n hx hb dX12_power_4 rfl (lv_at hl 0 rfl) ?_
  refine lv_iload_n hx hb dX12_power_5 rfl (lv_at hl 3 rfl) ?_
  refine sy_icmp_ge (tgt := 19) hx hb dX12_power_6 (by decide) (by decide) (by omega) (fun c_1 => ?_) (fun c_1 => ?_)
  · skip
    refine lv_iload_n hx hb dX12_power_19 rfl (lv_at hl 1 rfl) ?_
    exact r_i hx hb hr hlocks dX12_power_20 hS ⟨by omega, hP⟩
  · skip
    refine lv_iload_n hx hb dX12_power_9 rfl (lv_at hl 1 rfl) ?_
    refine lv_iload_n hx hb dX12_power_10 rfl (lv_at hl 2 rfl) ?_
    refine sy_imul hx hb dX12_power_11 100 (by omega) ?_
    refine lv_istore_n (lv' := [(2, .int (mI 100)), (3, .int (mI 0)), (0, .int (mI 100)), (1, .int (mI p1))]) hx hb dX12_power_12 rfl hl (by decide) rfl (fun ls hl => ?_)
    refine lv_iinc (v := mI 1) (lv' := [(3, .int (mI 1)), (2, .int (mI 100)), (0, .int (mI 100)), (1, .int (mI p1))]) hx hb dX12_power_13 hl (k := 1) rfl (mI_ad (by omega)) (by decide) rfl (fun ls hl => ?_)
    refine lv_goto (tgt := 4) hx hb dX12_power_16 (by decide) ?_
    refine lv_iload_n hx hb dX12_power_4 rfl (lv_at hl 0 rfl) ?_
    refine lv_iload_n hx hb dX12_power_5 rfl (lv_at hl 3 rfl) ?_
    refine sy_icmp_ge (tgt := 19) hx hb dX12_power_6 (by decide) (by decide) (by omega) (fun c_2 => ?_) (fun c_2 => ?_)
    · skip
      refine lv_iload_n hx hb dX12_power_19 rfl (lv_at hl 1 rfl) ?_
      exact r_i hx hb hr hlocks dX12_power_20 hS ⟨by omega, hP⟩
    · skip
      refine lv_iload_n hx hb dX12_power_9 rfl (lv_at hl 1 rfl) ?_
      refine lv_iload_n hx hb dX12_power_10 rfl (lv_at hl 2 rfl) ?_
      refine sy_imul hx hb dX12_power_11 10000 (by omega) ?_
      refine lv_istore_n (lv' := [(2, .int (mI 10000)), (3, .int (mI 1)), (0, .int (mI 100)), (1, .int (mI p1))]) hx hb dX12_power_12 rfl hl (by decide) rfl (fun ls hl => ?_)
      refine lv_iinc (v := mI 2) (lv' := [(3, .int (mI 2)), (2, .int (mI 10000)), (0, .int (mI 100)), (1, .int (mI p1))]) hx hb dX12_power_13 hl (k := 1) rfl (mI_ad (by omega)) (by decide) rfl (fun ls hl => ?_)
      refine lv_goto (tgt := 4) hx hb dX12_power_16 (by decide) ?_
      refine lv_iload_n hx hb dX12_power_4 rfl (lv_at hl 0 rfl) ?_
      refine lv_iload_n hx hb dX12_power_5 rfl (lv_at hl 3 rfl) ?_
      refine sy_icmp_ge (tgt := 19) hx hb dX12_power_6 (by decide) (by decide) (by omega) (fun c_3 => ?_) (fun c_3 => ?_)
      · skip
        refine lv_iload_n hx hb dX12_power_19 rfl (lv_at hl 1 rfl) ?_
        exact r_i hx hb hr hlocks dX12_power_20 hS ⟨by omega, hP⟩
      · skip
        refine lv_iload_n hx hb dX12_power_9 rfl (lv_at hl 1 rfl) ?_
        refine lv_iload_n hx hb dX12_power_10 rfl (lv_at hl 2 rfl) ?_
        refine sy_imul hx hb dX12_power_11 1000000 (by omega) ?_
        refine lv_istore_n (lv' := [(2, .int (mI 1000000)), (3, .int (mI 2)), (0, .int (mI 100)), (1, .int (mI p1))]) hx hb dX12_power_12 rfl hl (by decide) rfl (fun ls hl => ?_)
        refine lv_iinc (v := mI 3) (lv' := [(3, .int (mI 3)), (2, .int (mI 1000000)), (0, .int (mI 100)), (1, .int (mI p1))]) hx hb dX12_power_13 hl (k := 1) rfl (mI_ad (by omega)) (by decide) rfl (fun ls hl => ?_)
        refine lv_goto (tgt := 4) hx hb dX12_power_16 (by decide) ?_
        refine lv_iload_n hx hb dX12_power_4 rfl (lv_at hl 0 rfl) ?_
        refine lv_iload_n hx hb dX12_power_5 rfl (lv_at hl 3 rfl) ?_
        refine sy_icmp_ge (tgt := 19) hx hb dX12_power_6 (by decide) (by decide) (by omega) (fun c_4 => ?_) (fun c_4 => ?_)
        · skip
          refine lv_iload_n hx hb dX12_power_19 rfl (lv_at hl 1 rfl) ?_
          exact r_i hx hb hr hlocks dX12_power_20 hS ⟨by omega, hP⟩
        · skip
          refine lv_iload_n hx hb dX12_power_9 rfl (lv_at hl 1 rfl) ?_
          refine lv_iload_n hx hb dX12_power_10 rfl (lv_at hl 2 rfl) ?_
          refine sy_imul hx hb dX12_power_11 100000000 (by omega) ?_
          refine lv_istore_n (lv' := [(2, .int (mI 100000000)), (3, .int (mI 3)), (0, .int (mI 100)), (1, .int (mI p1))]) hx hb dX12_power_12 rfl hl (by decide) rfl (fun ls hl => ?_)
          refine lv_iinc (v := mI 4) (lv' := [(3, .int (mI 4)), (2, .int (mI 100000000)), (0, .int (mI 100)), (1, .int (mI p1))]) hx hb dX12_power_13 hl (k := 1) rfl (mI_ad (by omega)) (by decide) rfl (fun ls hl => ?_)
          refine lv_goto (tgt := 4) hx hb dX12_power_16 (by decide) ?_
          refine lv_iload_n hx hb dX12_power_4 rfl (lv_at hl 0 rfl) ?_
          refine lv_iload_n hx hb dX12_power_5 rfl (lv_at hl 3 rfl) ?_
          refine sy_icmp_ge (tgt := 19) hx hb dX12_power_6 (by decide) (by decide) (by omega) (fun c_5 => ?_) (fun c9 => False.elim (by omega))
          refine lv_iload_n hx hb dX12_power_19 rfl (lv_at hl 1 rfl) ?_
          exact r_i hx hb hr hlocks dX12_power_20 hS ⟨by omega, hP⟩
set_option maxHeartbeats 4000000 in
set_option maxRecDepth 100000 in
theorem kr_X12_odds {p0 p1 : Int} (hp0 : -2147483648 ≤ p0 ∧ p0 ≤ 2147483647) (hp1 : -2147483648 ≤ p1 ∧ p1 ≤ 2147483647) (h_x_bank : 0 ≤ x_bank ∧ x_bank ≤ 1) (b_B_night : bd (0) 100 B_night) : MetG l D k yX12_odds cX12_odds 5 (some .int) 1 [.ref (a 0), .int (mI p0), .int (mI p1)] (rW k a x_taped x_size x_faultKind x_faultPlace x_at x_end x_token x_number x_bank x_rb x_codes x_within x_piled x_unitsInRule x_askBeast x_askStroke x_askAge x_askSeason x_acts x_undone x_laid x_seens x_time x_fitting n_name B_tape B_text B_turns B_herds B_irons B_beasts B_units B_night B_draw B_told B_brands B_ironMarks B_herdTold B_born B_ruleFrom B_ruleTo B_code B_codeNumber B_eWhat B_eSign B_pile B_all B_burned B_was B_need B_laidRow B_long8 B_brings B_sBurning B_sStroke B_sIs B_sTold B_sUntold B_parts B_boxAll B_isBoxed G_hName G_iName G_bName ex) (qGi (fun r0 H => (-1 ≤ r0 ∧ r0 ≤ 100000000) ∧ va_P D vwCl (rW k a x_taped x_size x_faultKind x_faultPlace x_at x_end x_token x_number x_bank x_rb x_codes x_within x_piled x_unitsInRule x_askBeast x_askStroke x_askAge x_askSeason x_acts x_undone x_laid x_seens x_time x_fitting n_name B_tape B_text B_turns B_herds B_irons B_beasts B_units B_night B_draw B_told B_brands B_ironMarks B_herdTold B_born B_ruleFrom B_ruleTo B_code B_codeNumber B_eWhat B_eSign B_pile B_all B_burned B_was B_need B_laidRow B_long8 B_brings B_sBurning B_sStroke B_sIs B_sTold B_sUntold B_parts B_boxAll B_isBoxed G_hName G_iName G_bName ex) H)) := by
  refine metG_of 2 ck_X12_odds (Nat.le_of_ble_eq_true rfl) rMap (fun p e s m args below meth c A hx hb hml hr hlocks hown hts hK hD hA hP hS ls hl => ?_)
  have hown : s.vm.findClass "HideReaderModel" = some m.cls := hown
  have hl : lv_has ls 5 [(0, .ref (a 0)), (1, .int (mI p0)), (2, .int (mI p1))] := hl
  refine lv_iload_n hx hb dX12_odds_0 rfl (lv_at hl 1 rfl) ?_
  refine lv_iconst (v := mI 0) hx hb dX12_odds_1 rfl ?_
  refine lv_iconst (v := mI 4) hx hb dX12_odds_2 rfl ?_
  refine g_i (rDt hD) hS hA (g_S (own := "HideReaderModel") (As := [.int (mI p0), .int (mI 0), .int (mI 4)]) (rest := []) hx hb hml hown hts hK hP (rDt hD) (kr_X12_isIn (l := l) (D := D) (k := k) (by omega) (by decide) (by decide)) ck_X12_isIn uw_8_131 uw_8_130 rfl hl.1 rfl (Nat.le_of_ble_eq_true rfl) dX12_odds_3 ⟨Nat.le_of_ble_eq_true rfl, Nat.le_of_ble_eq_true rfl⟩ ⟨Nat.le_of_ble_eq_true rfl, Nat.le_of_ble_eq_true rfl⟩) (fun r_1 H locs hQ hS => ?_)
  obtain ⟨hq_r_1, hP⟩ := hQ
  rcases hq_r_1 with ⟨rfl, c_2_0⟩ | ⟨rfl, c_3_0, c_3_1⟩
  · skip
    refine sy_if_eq (tgt := 18) hx hb dX12_odds_6 (by decide) (by decide) (fun c_4 => ?_) (fun c9 => absurd c9 (by decide))
    refine lv_iconst (v := mI (-1)) hx hb dX12_odds_18 rfl ?_
    exact r_i hx hb hr hlocks dX12_odds_19 hS ⟨by omega, hP⟩
  · skip
    refine sy_if_eq (tgt := 18) hx hb dX12_odds_6 (by decide) (by decide) (fun c9 => absurd c9 (by decide)) (fun c_5 => ?_)
    refine lv_iload_n hx hb dX12_odds_9 rfl (lv_at hl 2 rfl) ?_
    refine lv_iconst (v := mI 0) hx hb dX12_odds_10 rfl ?_
    refine lv_iconst (v := mI 1) hx hb dX12_odds_11 rfl ?_
    refine g_i (rDt hD) hS hA (g_S (own := "HideReaderModel") (As := [.int (mI p1), .int (mI 0), .int (mI 1)]) (rest := []) hx hb hml hown hts hK hP (rDt hD) (kr_X12_isIn (l := l) (D := D) (k := k) (by omega) (by decide) (by decide)) ck_X12_isIn uw_8_131 uw_8_130 rfl hl.1 rfl (Nat.le_of_ble_eq_true rfl) dX12_odds_12 ⟨Nat.le_of_ble_eq_true rfl, Nat.le_of_ble_eq_true rfl⟩ ⟨Nat.le_of_ble_eq_true rfl, Nat.le_of_ble_eq_true rfl⟩) (fun r_6 H locs hQ hS => ?_)
    obtain ⟨hq_r_6, hP⟩ := hQ
    rcases hq_r_6 with ⟨rfl, c_7_0⟩ | ⟨rfl, c_8_0, c_8_1⟩
    · skip
      refine sy_if_ne (tgt := 20) hx hb dX12_odds_15 (by decide) (by decide) (fun c9 => absurd c9 (by decide)) (fun c_9 => ?_)
      refine lv_iconst (v := mI (-1)) hx hb dX12_odds_18 rfl ?_
      exact r_i hx hb hr hlocks dX12_odds_19 hS ⟨by omega, hP⟩
    · skip
      refine sy_if_ne (tgt := 20) hx hb dX12_odds_15 (by decide) (by decide) (fun c_10 => ?_) (fun c9 => absurd c9 (by decide))
      refine lv_bipush (v := mI 100) hx hb dX12_odds_20 (by decide) ?_
      refine lv_aload_n hx hb dX12_odds_22 rfl (lv_at hl 0 rfl) ?_
      refine rg_o_night hx hb hts hown hK hP uw_7_39 dX12_odds_23 ?_
      refine lv_aload_n hx hb dX12_odds_26 rfl (lv_at hl 0 rfl) ?_
      refine rg_o_bank hx hb hts hown hK hP uw_7_56 dX12_odds_27 ?_
      refine rl_night hx hb hK hP dX12_odds_30 (by omega) b_B_night (fun z_11 _ hz_11 => ?_)
      refine sy_isub hx hb dX12_odds_31 (-z_11 + 100) (by omega) ?_
      refine lv_iload_n hx hb dX12_odds_32 rfl (lv_at hl 1 rfl) ?_
      refine g_i (rDt hD) hS hA (g_S (own := "HideReaderModel") (As := [.int (mI (-z_11 + 100)), .int (mI p0)]) (rest := []) hx hb hml hown hts hK hP (rDt hD) (kr_X12_power (l := l) (D := D) (k := k) (by omega) (by omega)) ck_X12_power uw_9_147 uw_9_146 rfl hl.1 rfl (Nat.le_of_ble_eq_true rfl) dX12_odds_33 ⟨Nat.le_of_ble_eq_true rfl, Nat.le_of_ble_eq_true rfl⟩ ⟨Nat.le_of_ble_eq_true rfl, Nat.le_of_ble_eq_true rfl⟩) (fun r_12 H locs hQ hS => ?_)
      obtain ⟨hr_12_0, hP⟩ := hQ
      refine lv_istore_n (lv' := [(3, .int (mI r_12)), (0, .ref (a 0)), (1, .int (mI p0)), (2, .int (mI p1))]) hx hb dX12_odds_36 rfl hl (by decide) rfl (fun ls hl => ?_)
      refine lv_bipush (v := mI 100) hx hb dX12_odds_37 (by decide) ?_
      refine lv_iload_n hx hb dX12_odds_39 rfl (lv_at hl 2 rfl) ?_
      refine g_i (rDt hD) hS hA (g_S (own := "HideReaderModel") (As := [.int (mI 100), .int (mI p0)]) (rest := []) hx hb hml hown hts hK hP (rDt hD) (kr_X12_power_vc (l := l) (D := D) (k := k) (by decide) (by omega)) ck_X12_power uw_9_147 uw_9_146 rfl hl.1 rfl (Nat.le_of_ble_eq_true rfl) dX12_odds_40 ⟨Nat.le_of_ble_eq_true rfl, Nat.le_of_ble_eq_true rfl⟩ ⟨Nat.le_of_ble_eq_true rfl, Nat.le_of_ble_eq_true rfl⟩) (fun r_13 H locs hQ hS => ?_)
      obtain ⟨hr_13_0, hP⟩ := hQ
      refine lv_istore (lv' := [(4, .int (mI r_13)), (3, .int (mI r_12)), (0, .ref (a 0)), (1, .int (mI p0)), (2, .int (mI p1))]) hx hb dX12_odds_43 hl (by decide) rfl (fun ls hl => ?_)
      refine lv_iload_n hx hb dX12_odds_45 rfl (lv_at hl 4 rfl) ?_
      refine sy_join (I := fun H locs g => ∃ (z_15 : Int) (ls : Array Slot), (0 ≤ z_15 ∧ z_15 ≤ 100000000) ∧ va_P D vwCl (rW k a x_taped x_size x_faultKind x_faultPlace x_at x_end x_token x_number x_bank x_rb x_codes x_within x_piled x_unitsInRule x_askBeast x_askStroke x_askAge x_askSeason x_acts x_undone x_laid x_seens x_time x_fitting n_name B_tape B_text B_turns B_herds B_irons B_beasts B_units B_night B_draw B_told B_brands B_ironMarks B_herdTold B_born B_ruleFrom B_ruleTo B_code B_codeNumber B_eWhat B_eSign B_pile B_all B_burned B_was B_need B_laidRow B_long8 B_brings B_sBurning B_sStroke B_sIs B_sTold B_sUntold B_parts B_boxAll B_isBoxed G_hName G_iName G_bName ex) H ∧ va_S A s.heap H locs ∧ lv_has ls 5 [(4, .int (mI r_13)), (3, .int (mI r_12)), (0, .ref (a 0)), (1, .int (mI p0)), (2, .int (mI p1))] ∧ g = F0 m 55 ls [.int (mI z_15)]) ?_ ?_
      · skip
        intro H locs g hI
        obtain ⟨z_15, ls, h55_0, hP, hS, hl, rfl⟩ := hI
        refine lv_iload hx hb dX12_odds_55 (lv_at hl 0 rfl) ?_
        refine lv_iload_n hx hb dX12_odds_57 rfl (lv_at hl 1 rfl) ?_
        refine g_i (rDt hD) hS hA (g_S (own := "HideReaderModel") (As := [.int (mI r_13), .int (mI r_12)]) (rest := [.int (mI z_15)]) hx hb hml hown hts hK hP (rDt hD) (kr_X12_divisor (l := l) (D := D) (k := k) (by omega) (by omega)) ck_X12_divisor uw_9_150 uw_9_149 rfl hl.1 rfl (Nat.le_of_ble_eq_true rfl) dX12_odds_58 ⟨Nat.le_of_ble_eq_true rfl, Nat.le_of_ble_eq_true rfl⟩ ⟨Nat.le_of_ble_eq_true rfl, Nat.le_of_ble_eq_true rfl⟩) (fun r_17 H locs hQ hS => ?_)
        obtain ⟨hr_17_0, hP⟩ := hQ
        refine sy_idiv hx hb dX12_odds_61 (by omega) (by omega) (fun z_18 ez_18 hz_18 => ?_)
        exact r_i hx hb hr hlocks dX12_odds_62 hS ⟨by omega, hP⟩
      · skip
        intro J_16
        refine sy_if_ne (tgt := 53) hx hb dX12_odds_46 (by decide) (by omega) (fun c_19 => ?_) (fun c_19 => ?_)
        · skip
          refine lv_iload hx hb dX12_odds_53 (lv_at hl 0 rfl) ?_
          exact J_16 _ _ _ ⟨r_13, _, by omega, hP, hS, lv_sub hl [0, 1, 2, 3, 4] rfl, rfl⟩
        · skip
          refine lv_iload_n hx hb dX12_odds_49 rfl (lv_at hl 1 rfl) ?_
          refine lv_goto (tgt := 55) hx hb dX12_odds_50 (by decide) ?_
          exact J_16 _ _ _ ⟨r_12, _, by omega, hP, hS, lv_sub hl [0, 1, 2, 3, 4] rfl, rfl⟩
set_option maxHeartbeats 4000000 in
set_option maxRecDepth 100000 in
theorem kr_X12_seen {p0 p1 p2 : Int} (hp0 : -2147483648 ≤ p0 ∧ p0 ≤ 2147483647) (hp1 : -2147483648 ≤ p1 ∧ p1 ≤ 2147483647) (hp2 : 0 ≤ p2 ∧ p2 ≤ 1) (h_x_bank : 0 ≤ x_bank ∧ x_bank ≤ 1) (h_x_seens : 0 ≤ x_seens ∧ x_seens ≤ 30) (h_x_time : 0 ≤ x_time ∧ x_time ≤ 100000) (b_B_beasts : bd (0) 8 B_beasts) (b_B_sBurning : bd (0) 2 B_sBurning) (b_B_sStroke : bd (0) 11 B_sStroke) (b_B_sIs : bd (0) 1 B_sIs) (b_B_sTold : bd (0) 100000 B_sTold) (b_B_sUntold : bd (-1) 100000 B_sUntold) : MetG l D k yX12_seen cX12_seen 4 (some .int) 1 [.ref (a 0), .int (mI p0), .int (mI p1), .int (mI p2)] (rW k a x_taped x_size x_faultKind x_faultPlace x_at x_end x_token x_number x_bank x_rb x_codes x_within x_piled x_unitsInRule x_askBeast x_askStroke x_askAge x_askSeason x_acts x_undone x_laid x_seens x_time x_fitting n_name B_tape B_text B_turns B_herds B_irons B_beasts B_units B_night B_draw B_told B_brands B_ironMarks B_herdTold B_born B_ruleFrom B_ruleTo B_code B_codeNumber B_eWhat B_eSign B_pile B_all B_burned B_was B_need B_laidRow B_long8 B_brings B_sBurning B_sStroke B_sIs B_sTold B_sUntold B_parts B_boxAll B_isBoxed G_hName G_iName G_bName ex) (qGi (fun r0 H => ∃ (F_sBurning : Nat → Int) (F_sStroke : Nat → Int) (F_sIs : Nat → Int) (F_sTold : Nat → Int) (F_sUntold : Nat → Int) (y_seens : Int), (-1 ≤ r0 ∧ r0 ≤ 29) ∧ (bd (0) 2 F_sBurning) ∧ (bd (0) 11 F_sStroke) ∧ (bd (0) 1 F_sIs) ∧ (bd (0) 100000 F_sTold) ∧ (bd (-1) 100000 F_sUntold) ∧ (0 ≤ y_seens ∧ y_seens ≤ 30) ∧ (0 ≤ y_seens - x_seens) ∧ va_P D vwCl (rW k a x_taped x_size x_faultKind x_faultPlace x_at x_end x_token x_number x_bank x_rb x_codes x_within x_piled x_unitsInRule x_askBeast x_askStroke x_askAge x_askSeason x_acts x_undone x_laid y_seens x_time x_fitting n_name B_tape B_text B_turns B_herds B_irons B_beasts B_units B_night B_draw B_told B_brands B_ironMarks B_herdTold B_born B_ruleFrom B_ruleTo B_code B_codeNumber B_eWhat B_eSign B_pile B_all B_burned B_was B_need B_laidRow B_long8 B_brings F_sBurning F_sStroke F_sIs F_sTold F_sUntold B_parts B_boxAll B_isBoxed G_hName G_iName G_bName ex) H)) := by
  refine metG_of 3 ck_X12_seen (Nat.le_of_ble_eq_true rfl) rMap (fun p e s m args below meth c A hx hb hml hr hlocks hown hts hK hD hA hP hS ls hl => ?_)
  have hown : s.vm.findClass "HideReaderModel" = some m.cls := hown
  have hl : lv_has ls 4 [(0, .ref (a 0)), (1, .int (mI p0)), (2, .int (mI p1)), (3, .int (mI p2))] := hl
  refine lv_iload_n hx hb dX12_seen_0 rfl (lv_at hl 1 rfl) ?_
  refine lv_iconst (v := mI 1) hx hb dX12_seen_1 rfl ?_
  refine lv_iconst (v := mI 2) hx hb dX12_seen_2 rfl ?_
  refine g_i (rDt hD) hS hA (g_S (own := "HideReaderModel") (As := [.int (mI p0), .int (mI 1), .int (mI 2)]) (rest := []) hx hb hml hown hts hK hP (rDt hD) (kr_X12_isIn (l := l) (D := D) (k := k) (by omega) (by decide) (by decide)) ck_X12_isIn uw_8_131 uw_8_130 rfl hl.1 rfl (Nat.le_of_ble_eq_true rfl) dX12_seen_3 ⟨Nat.le_of_ble_eq_true rfl, Nat.le_of_ble_eq_true rfl⟩ ⟨Nat.le_of_ble_eq_true rfl, Nat.le_of_ble_eq_true rfl⟩) (fun r_1 H locs hQ hS => ?_)
  obtain ⟨hq_r_1, hP⟩ := hQ
  rcases hq_r_1 with ⟨rfl, c_2_0⟩ | ⟨rfl, c_3_0, c_3_1⟩
  · skip
    refine sy_if_eq (tgt := 35) hx hb dX12_seen_6 (by decide) (by decide) (fun c_4 => ?_) (fun c9 => absurd c9 (by decide))
    refine lv_iconst (v := mI (-1)) hx hb dX12_seen_35 rfl ?_
    exact r_i hx hb hr hlocks dX12_seen_36 hS ⟨B_sBurning, B_sStroke, B_sIs, B_sTold, B_sUntold, x_seens, by omega, b_B_sBurning, b_B_sStroke, b_B_sIs, b_B_sTold, b_B_sUntold, by omega, by omega, hP⟩
  · skip
    refine sy_if_eq (tgt := 35) hx hb dX12_seen_6 (by decide) (by decide) (fun c9 => absurd c9 (by decide)) (fun c_5 => ?_)
    refine lv_iload_n hx hb dX12_seen_9 rfl (lv_at hl 2 rfl) ?_
    refine lv_iconst (v := mI 0) hx hb dX12_seen_10 rfl ?_
    refine lv_bipush (v := mI 11) hx hb dX12_seen_11 (by decide) ?_
    refine g_i (rDt hD) hS hA (g_S (own := "HideReaderModel") (As := [.int (mI p1), .int (mI 0), .int (mI 11)]) (rest := []) hx hb hml hown hts hK hP (rDt hD) (kr_X12_isIn (l := l) (D := D) (k := k) (by omega) (by decide) (by decide)) ck_X12_isIn uw_8_131 uw_8_130 rfl hl.1 rfl (Nat.le_of_ble_eq_true rfl) dX12_seen_13 ⟨Nat.le_of_ble_eq_true rfl, Nat.le_of_ble_eq_true rfl⟩ ⟨Nat.le_of_ble_eq_true rfl, Nat.le_of_ble_eq_true rfl⟩) (fun r_6 H locs hQ hS => ?_)
    obtain ⟨hq_r_6, hP⟩ := hQ
    rcases hq_r_6 with ⟨rfl, c_7_0⟩ | ⟨rfl, c_8_0, c_8_1⟩
    · skip
      refine sy_if_eq (tgt := 35) hx hb dX12_seen_16 (by decide) (by decide) (fun c_9 => ?_) (fun c9 => absurd c9 (by decide))
      refine lv_iconst (v := mI (-1)) hx hb dX12_seen_35 rfl ?_
      exact r_i hx hb hr hlocks dX12_seen_36 hS ⟨B_sBurning, B_sStroke, B_sIs, B_sTold, B_sUntold, x_seens, by omega, b_B_sBurning, b_B_sStroke, b_B_sIs, b_B_sTold, b_B_sUntold, by omega, by omega, hP⟩
    · skip
      refine sy_if_eq (tgt := 35) hx hb dX12_seen_16 (by decide) (by decide) (fun c9 => absurd c9 (by decide)) (fun c_10 => ?_)
      refine lv_aload_n hx hb dX12_seen_19 rfl (lv_at hl 0 rfl) ?_
      refine rg_o_seens hx hb hts hown hK hP uw_7_82 dX12_seen_20 ?_
      refine lv_bipush (v := mI 30) hx hb dX12_seen_23 (by decide) ?_
      refine sy_icmp_eq (tgt := 35) hx hb dX12_seen_25 (by decide) (by omega) (by decide) (fun c_11 => ?_) (fun c_11 => ?_)
      · skip
        refine lv_iconst (v := mI (-1)) hx hb dX12_seen_35 rfl ?_
        exact r_i hx hb hr hlocks dX12_seen_36 hS ⟨B_sBurning, B_sStroke, B_sIs, B_sTold, B_sUntold, x_seens, by omega, b_B_sBurning, b_B_sStroke, b_B_sIs, b_B_sTold, b_B_sUntold, by omega, by omega, hP⟩
      · skip
        refine lv_aload_n hx hb dX12_seen_28 rfl (lv_at hl 0 rfl) ?_
        refine g_i (rDt hD) hS hA (g_V (own := "HideReaderModel") (As := []) (rest := []) hx hb hml hown hts hK hP (rDt hD) (kr_X12_cattle (l := l) (D := D) (k := k) h_x_bank b_B_beasts) ck_X12_cattle iv_X12_cattle uw_6_212 (rv_o hK hP) rfl hl.1 rfl (Nat.le_of_ble_eq_true rfl) dX12_seen_29 ⟨Nat.le_of_ble_eq_true rfl, Nat.le_of_ble_eq_true rfl⟩ ⟨Nat.le_of_ble_eq_true rfl, Nat.le_of_ble_eq_true rfl⟩) (fun r_12 H locs hQ hS => ?_)
        obtain ⟨hr_12_0, hr_12_1, hP⟩ := hQ
        refine sy_if_ne (tgt := 37) hx hb dX12_seen_32 (by decide) (by omega) (fun c_13 => ?_) (fun c_13 => ?_)
        · skip
          refine lv_aload_n hx hb dX12_seen_37 rfl (lv_at hl 0 rfl) ?_
          refine rg_o_sBurning hx hb hts hown hK hP uw_7_76 dX12_seen_38 ?_
          refine lv_aload_n hx hb dX12_seen_41 rfl (lv_at hl 0 rfl) ?_
          refine rg_o_seens hx hb hts hown hK hP uw_7_82 dX12_seen_42 ?_
          refine lv_iload_n hx hb dX12_seen_45 rfl (lv_at hl 1 rfl) ?_
          refine rs_sBurning hx hb hK hP hD hS dX12_seen_46 (by omega) b_B_sBurning (by omega) (fun F_14 H locs _ bF_14 hP hS => ?_)
          refine lv_aload_n hx hb dX12_seen_47 rfl (lv_at hl 0 rfl) ?_
          refine rg_o_sStroke hx hb hts hown hK hP uw_7_77 dX12_seen_48 ?_
          refine lv_aload_n hx hb dX12_seen_51 rfl (lv_at hl 0 rfl) ?_
          refine rg_o_seens hx hb hts hown hK hP uw_7_82 dX12_seen_52 ?_
          refine lv_iload_n hx hb dX12_seen_55 rfl (lv_at hl 2 rfl) ?_
          refine rs_sStroke hx hb hK hP hD hS dX12_seen_56 (by omega) b_B_sStroke (by omega) (fun F_15 H locs _ bF_15 hP hS => ?_)
          refine lv_aload_n hx hb dX12_seen_57 rfl (lv_at hl 0 rfl) ?_
          refine rg_o_sIs hx hb hts hown hK hP uw_7_78 dX12_seen_58 ?_
          refine lv_aload_n hx hb dX12_seen_61 rfl (lv_at hl 0 rfl) ?_
          refine rg_o_seens hx hb hts hown hK hP uw_7_82 dX12_seen_62 ?_
          refine lv_iload_n hx hb dX12_seen_65 rfl (lv_at hl 3 rfl) ?_
          refine sy_join (I := fun H locs g => ∃ (z_17 : Int) (ls : Array Slot), (0 ≤ z_17 ∧ z_17 ≤ 1) ∧ va_P D vwCl (rW k a x_taped x_size x_faultKind x_faultPlace x_at x_end x_token x_number x_bank x_rb x_codes x_within x_piled x_unitsInRule x_askBeast x_askStroke x_askAge x_askSeason x_acts x_undone x_laid x_seens x_time x_fitting n_name B_tape B_text B_turns B_herds B_irons B_beasts B_units B_night B_draw B_told B_brands B_ironMarks B_herdTold B_born B_ruleFrom B_ruleTo B_code B_codeNumber B_eWhat B_eSign B_pile B_all B_burned B_was B_need B_laidRow B_long8 B_brings F_14 F_15 B_sIs B_sTold B_sUntold B_parts B_boxAll B_isBoxed G_hName G_iName G_bName ex) H ∧ va_S A s.heap H locs ∧ lv_has ls 4 [(0, .ref (a 0)), (1, .int (mI p0)), (2, .int (mI p1)), (3, .int (mI p2))] ∧ g = F0 m 74 ls [.int (mI z_17), .int (mI x_seens), .ref (a 34)]) ?_ ?_
          · skip
            intro H locs g hI
            obtain ⟨z_17, ls, h74_0, hP, hS, hl, rfl⟩ := hI
            refine rs_sIs hx hb hK hP hD hS dX12_seen_74 (by omega) b_B_sIs (by omega) (fun F_19 H locs _ bF_19 hP hS => ?_)
            refine lv_aload_n hx hb dX12_seen_75 rfl (lv_at hl 0 rfl) ?_
            refine rg_o_sTold hx hb hts hown hK hP uw_7_79 dX12_seen_76 ?_
            refine lv_aload_n hx hb dX12_seen_79 rfl (lv_at hl 0 rfl) ?_
            refine rg_o_seens hx hb hts hown hK hP uw_7_82 dX12_seen_80 ?_
            refine lv_aload_n hx hb dX12_seen_83 rfl (lv_at hl 0 rfl) ?_
            refine rg_o_time hx hb hts hown hK hP uw_7_83 dX12_seen_84 ?_
            refine rs_sTold hx hb hK hP hD hS dX12_seen_87 (by omega) b_B_sTold (by omega) (fun F_20 H locs _ bF_20 hP hS => ?_)
            refine lv_aload_n hx hb dX12_seen_88 rfl (lv_at hl 0 rfl) ?_
            refine rg_o_sUntold hx hb hts hown hK hP uw_7_80 dX12_seen_89 ?_
            refine lv_aload_n hx hb dX12_seen_92 rfl (lv_at hl 0 rfl) ?_
            refine rg_o_seens hx hb hts hown hK hP uw_7_82 dX12_seen_93 ?_
            refine lv_iconst (v := mI (-1)) hx hb dX12_seen_96 rfl ?_
            refine rs_sUntold hx hb hK hP hD hS dX12_seen_97 (by omega) b_B_sUntold (by omega) (fun F_21 H locs _ bF_21 hP hS => ?_)
            refine lv_aload_n hx hb dX12_seen_98 rfl (lv_at hl 0 rfl) ?_
            refine lv_dup hx hb dX12_seen_99 rfl ?_
            refine rg_o_seens hx hb hts hown hK hP uw_7_82 dX12_seen_100 ?_
            refine lv_iconst (v := mI 1) hx hb dX12_seen_103 rfl ?_
            refine sy_iadd hx hb dX12_seen_104 (x_seens + 1) rfl ?_
            refine rp_o_seens hx hb hts hown hK hP hD hS uw_7_82 dX12_seen_105 (fun H locs hP hS => ?_)
            refine lv_aload_n hx hb dX12_seen_108 rfl (lv_at hl 0 rfl) ?_
            refine rg_o_seens hx hb hts hown hK hP uw_7_82 dX12_seen_109 ?_
            refine lv_iconst (v := mI 1) hx hb dX12_seen_112 rfl ?_
            refine sy_isub hx hb dX12_seen_113 x_seens (by omega) ?_
            exact r_i hx hb hr hlocks dX12_seen_114 hS ⟨F_14, F_15, F_19, F_20, F_21, (x_seens + 1), by omega, bF_14, bF_15, bF_19, bF_20, bF_21, by omega, by omega, hP⟩
          · skip
            intro J_18
            refine sy_if_eq (tgt := 73) hx hb dX12_seen_66 (by decide) (by omega) (fun c_22 => ?_) (fun c_22 => ?_)
            · skip
              refine lv_iconst (v := mI 0) hx hb dX12_seen_73 rfl ?_
              exact J_18 _ _ _ ⟨0, _, by omega, hP, hS, lv_sub hl [0, 1, 2, 3] rfl, rfl⟩
            · skip
              refine lv_iconst (v := mI 1) hx hb dX12_seen_69 rfl ?_
              refine lv_goto (tgt := 74) hx hb dX12_seen_70 (by decide) ?_
              exact J_18 _ _ _ ⟨1, _, by omega, hP, hS, lv_sub hl [0, 1, 2, 3] rfl, rfl⟩
        · skip
          refine lv_iconst (v := mI (-1)) hx hb dX12_seen_35 rfl ?_
          exact r_i hx hb hr hlocks dX12_seen_36 hS ⟨B_sBurning, B_sStroke, B_sIs, B_sTold, B_sUntold, x_seens, by omega, b_B_sBurning, b_B_sStroke, b_B_sIs, b_B_sTold, b_B_sUntold, by omega, by omega, hP⟩
set_option maxHeartbeats 4000000 in
set_option maxRecDepth 100000 in
theorem kr_X12_untell {p0 : Int} (hp0 : -2147483648 ≤ p0 ∧ p0 ≤ 2147483647) (h_x_seens : 0 ≤ x_seens ∧ x_seens ≤ 30) (h_x_time : 0 ≤ x_time ∧ x_time ≤ 100000) (b_B_sUntold : bd (-1) 100000 B_sUntold) : MetG l D k yX12_untell cX12_untell 2 (some .boolean) 1 [.ref (a 0), .int (mI p0)] (rW k a x_taped x_size x_faultKind x_faultPlace x_at x_end x_token x_number x_bank x_rb x_codes x_within x_piled x_unitsInRule x_askBeast x_askStroke x_askAge x_askSeason x_acts x_undone x_laid x_seens x_time x_fitting n_name B_tape B_text B_turns B_herds B_irons B_beasts B_units B_night B_draw B_told B_brands B_ironMarks B_herdTold B_born B_ruleFrom B_ruleTo B_code B_codeNumber B_eWhat B_eSign B_pile B_all B_burned B_was B_need B_laidRow B_long8 B_brings B_sBurning B_sStroke B_sIs B_sTold B_sUntold B_parts B_boxAll B_isBoxed G_hName G_iName G_bName ex) (qGi (fun r0 H => ∃ (F_sUntold : Nat → Int), (0 ≤ r0 ∧ r0 ≤ 1) ∧ (bd (-1) 100000 F_sUntold) ∧ va_P D vwCl (rW k a x_taped x_size x_faultKind x_faultPlace x_at x_end x_token x_number x_bank x_rb x_codes x_within x_piled x_unitsInRule x_askBeast x_askStroke x_askAge x_askSeason x_acts x_undone x_laid x_seens x_time x_fitting n_name B_tape B_text B_turns B_herds B_irons B_beasts B_units B_night B_draw B_told B_brands B_ironMarks B_herdTold B_born B_ruleFrom B_ruleTo B_code B_codeNumber B_eWhat B_eSign B_pile B_all B_burned B_was B_need B_laidRow B_long8 B_brings B_sBurning B_sStroke B_sIs B_sTold F_sUntold B_parts B_boxAll B_isBoxed G_hName G_iName G_bName ex) H)) := by
  refine metG_of 1 ck_X12_untell (Nat.le_of_ble_eq_true rfl) rMap (fun p e s m args below meth c A hx hb hml hr hlocks hown hts hK hD hA hP hS ls hl => ?_)
  have hown : s.vm.findClass "HideReaderModel" = some m.cls := hown
  have hl : lv_has ls 2 [(0, .ref (a 0)), (1, .int (mI p0))] := hl
  refine lv_iload_n hx hb dX12_untell_0 rfl (lv_at hl 1 rfl) ?_
  refine lv_iconst (v := mI 0) hx hb dX12_untell_1 rfl ?_
  refine lv_aload_n hx hb dX12_untell_2 rfl (lv_at hl 0 rfl) ?_
  refine rg_o_seens hx hb hts hown hK hP uw_7_82 dX12_untell_3 ?_
  refine lv_iconst (v := mI 1) hx hb dX12_untell_6 rfl ?_
  refine sy_isub hx hb dX12_untell_7 (x_seens - 1) rfl ?_
  refine g_i (rDt hD) hS hA (g_S (own := "HideReaderModel") (As := [.int (mI p0), .int (mI 0), .int (mI (x_seens - 1))]) (rest := []) hx hb hml hown hts hK hP (rDt hD) (kr_X12_isIn (l := l) (D := D) (k := k) (by omega) (by decide) (by omega)) ck_X12_isIn uw_8_131 uw_8_130 rfl hl.1 rfl (Nat.le_of_ble_eq_true rfl) dX12_untell_8 ⟨Nat.le_of_ble_eq_true rfl, Nat.le_of_ble_eq_true rfl⟩ ⟨Nat.le_of_ble_eq_true rfl, Nat.le_of_ble_eq_true rfl⟩) (fun r_1 H locs hQ hS => ?_)
  obtain ⟨hq_r_1, hP⟩ := hQ
  rcases hq_r_1 with ⟨rfl, c_2_0⟩ | ⟨rfl, c_3_0, c_3_1⟩
  · skip
    refine sy_if_eq (tgt := 23) hx hb dX12_untell_11 (by decide) (by decide) (fun c_4 => ?_) (fun c9 => absurd c9 (by decide))
    refine lv_iconst (v := mI 0) hx hb dX12_untell_23 rfl ?_
    exact r_z hx hb hr hlocks dX12_untell_24 hS (by decide) ⟨B_sUntold, by omega, b_B_sUntold, hP⟩
  · skip
    refine sy_if_eq (tgt := 23) hx hb dX12_untell_11 (by decide) (by decide) (fun c9 => absurd c9 (by decide)) (fun c_5 => ?_)
    refine lv_aload_n hx hb dX12_untell_14 rfl (lv_at hl 0 rfl) ?_
    refine rg_o_sUntold hx hb hts hown hK hP uw_7_80 dX12_untell_15 ?_
    refine lv_iload_n hx hb dX12_untell_18 rfl (lv_at hl 1 rfl) ?_
    refine rl_sUntold hx hb hK hP dX12_untell_19 (by omega) b_B_sUntold (fun z_6 _ hz_6 => ?_)
    refine sy_if_lt (tgt := 25) hx hb dX12_untell_20 (by decide) (by omega) (fun c_7 => ?_) (fun c_7 => ?_)
    · skip
      refine lv_aload_n hx hb dX12_untell_25 rfl (lv_at hl 0 rfl) ?_
      refine rg_o_sUntold hx hb hts hown hK hP uw_7_80 dX12_untell_26 ?_
      refine lv_iload_n hx hb dX12_untell_29 rfl (lv_at hl 1 rfl) ?_
      refine lv_aload_n hx hb dX12_untell_30 rfl (lv_at hl 0 rfl) ?_
      refine rg_o_time hx hb hts hown hK hP uw_7_83 dX12_untell_31 ?_
      refine rs_sUntold hx hb hK hP hD hS dX12_untell_34 (by omega) b_B_sUntold (by omega) (fun F_8 H locs _ bF_8 hP hS => ?_)
      refine lv_iconst (v := mI 1) hx hb dX12_untell_35 rfl ?_
      exact r_z hx hb hr hlocks dX12_untell_36 hS (by decide) ⟨F_8, by omega, bF_8, hP⟩
    · skip
      refine lv_iconst (v := mI 0) hx hb dX12_untell_23 rfl ?_
      exact r_z hx hb hr hlocks dX12_untell_24 hS (by decide) ⟨B_sUntold, by omega, b_B_sUntold, hP⟩
set_option maxHeartbeats 4000000 in
set_option maxRecDepth 100000 in
theorem kr_X12_later {p0 : Int} (hp0 : -2147483648 ≤ p0 ∧ p0 ≤ 2147483647) (h_x_time : 0 ≤ x_time ∧ x_time ≤ 100000) : MetG l D k yX12_later cX12_later 2 (some .int) 1 [.ref (a 0), .int (mI p0)] (rW k a x_taped x_size x_faultKind x_faultPlace x_at x_end x_token x_number x_bank x_rb x_codes x_within x_piled x_unitsInRule x_askBeast x_askStroke x_askAge x_askSeason x_acts x_undone x_laid x_seens x_time x_fitting n_name B_tape B_text B_turns B_herds B_irons B_beasts B_units B_night B_draw B_told B_brands B_ironMarks B_herdTold B_born B_ruleFrom B_ruleTo B_code B_codeNumber B_eWhat B_eSign B_pile B_all B_burned B_was B_need B_laidRow B_long8 B_brings B_sBurning B_sStroke B_sIs B_sTold B_sUntold B_parts B_boxAll B_isBoxed G_hName G_iName G_bName ex) (qGi (fun r0 H => ∃ (y_time : Int), (-1 ≤ r0 ∧ r0 ≤ 100000) ∧ (0 ≤ y_time ∧ y_time ≤ 100000) ∧ (0 ≤ y_time - x_time) ∧ ((0 ≤ p0 ∧ p0 ≤ 1000 ∧ x_time + p0 ≤ 100000 ∧ r0 = x_time + p0 ∧ y_time = x_time + p0) ∨ (¬ (0 ≤ p0 ∧ p0 ≤ 1000 ∧ x_time + p0 ≤ 100000) ∧ r0 = -1 ∧ y_time = x_time)) ∧ va_P D vwCl (rW k a x_taped x_size x_faultKind x_faultPlace x_at x_end x_token x_number x_bank x_rb x_codes x_within x_piled x_unitsInRule x_askBeast x_askStroke x_askAge x_askSeason x_acts x_undone x_laid x_seens y_time x_fitting n_name B_tape B_text B_turns B_herds B_irons B_beasts B_units B_night B_draw B_told B_brands B_ironMarks B_herdTold B_born B_ruleFrom B_ruleTo B_code B_codeNumber B_eWhat B_eSign B_pile B_all B_burned B_was B_need B_laidRow B_long8 B_brings B_sBurning B_sStroke B_sIs B_sTold B_sUntold B_parts B_boxAll B_isBoxed G_hName G_iName G_bName ex) H)) := by
  refine metG_of 1 ck_X12_later (Nat.le_of_ble_eq_true rfl) rMap (fun p e s m args below meth c A hx hb hml hr hlocks hown hts hK hD hA hP hS ls hl => ?_)
  have hown : s.vm.findClass "HideReaderModel" = some m.cls := hown
  have hl : lv_has ls 2 [(0, .ref (a 0)), (1, .int (mI p0))] := hl
  refine lv_iload_n hx hb dX12_later_0 rfl (lv_at hl 1 rfl) ?_
  refine lv_iconst (v := mI 0) hx hb dX12_later_1 rfl ?_
  refine lv_sipush (v := mI 1000) hx hb dX12_later_2 (by decide) ?_
  refine g_i (rDt hD) hS hA (g_S (own := "HideReaderModel") (As := [.int (mI p0), .int (mI 0), .int (mI 1000)]) (rest := []) hx hb hml hown hts hK hP (rDt hD) (kr_X12_isIn (l := l) (D := D) (k := k) (by omega) (by decide) (by decide)) ck_X12_isIn uw_8_131 uw_8_130 rfl hl.1 rfl (Nat.le_of_ble_eq_true rfl) dX12_later_5 ⟨Nat.le_of_ble_eq_true rfl, Nat.le_of_ble_eq_true rfl⟩ ⟨Nat.le_of_ble_eq_true rfl, Nat.le_of_ble_eq_true rfl⟩) (fun r_1 H locs hQ hS => ?_)
  obtain ⟨hq_r_1, hP⟩ := hQ
  rcases hq_r_1 with ⟨rfl, c_2_0⟩ | ⟨rfl, c_3_0, c_3_1⟩
  · skip
    refine sy_if_eq (tgt := 23) hx hb dX12_later_8 (by decide) (by decide) (fun c_4 => ?_) (fun c9 => absurd c9 (by decide))
    refine lv_iconst (v := mI (-1)) hx hb dX12_later_23 rfl ?_
    exact r_i hx hb hr hlocks dX12_later_24 hS ⟨x_time, by omega, by omega, by omega, by omega, hP⟩
  · skip
    refine sy_if_eq (tgt := 23) hx hb dX12_later_8 (by decide) (by decide) (fun c9 => absurd c9 (by decide)) (fun c_5 => ?_)
    refine lv_aload_n hx hb dX12_later_11 rfl (lv_at hl 0 rfl) ?_
    refine rg_o_time hx hb hts hown hK hP uw_7_83 dX12_later_12 ?_
    refine lv_iload_n hx hb dX12_later_15 rfl (lv_at hl 1 rfl) ?_
    refine sy_iadd hx hb dX12_later_16 (x_time + p0) rfl ?_
    refine lv_ldcw (own := "HideReaderModel") (v := mI 100000) hx hb hown (hts _ uw_9_164) dX12_later_17 ?_
    refine sy_icmp_le (tgt := 25) hx hb dX12_later_20 (by decide) (by omega) (by decide) (fun c_6 => ?_) (fun c_6 => ?_)
    · skip
      refine lv_aload_n hx hb dX12_later_25 rfl (lv_at hl 0 rfl) ?_
      refine lv_dup hx hb dX12_later_26 rfl ?_
      refine rg_o_time hx hb hts hown hK hP uw_7_83 dX12_later_27 ?_
      refine lv_iload_n hx hb dX12_later_30 rfl (lv_at hl 1 rfl) ?_
      refine sy_iadd hx hb dX12_later_31 (x_time + p0) rfl ?_
      refine rp_o_time hx hb hts hown hK hP hD hS uw_7_83 dX12_later_32 (fun H locs hP hS => ?_)
      refine lv_aload_n hx hb dX12_later_35 rfl (lv_at hl 0 rfl) ?_
      refine rg_o_time hx hb hts hown hK hP uw_7_83 dX12_later_36 ?_
      exact r_i hx hb hr hlocks dX12_later_39 hS ⟨(x_time + p0), by omega, by omega, by omega, by omega, hP⟩
    · skip
      refine lv_iconst (v := mI (-1)) hx hb dX12_later_23 rfl ?_
      exact r_i hx hb hr hlocks dX12_later_24 hS ⟨x_time, by omega, by omega, by omega, by omega, hP⟩
set_option maxHeartbeats 4000000 in
set_option maxRecDepth 100000 in
theorem kr_X12_doesFit {p0 p1 p2 : Int} (hp0 : 0 ≤ p0 ∧ p0 ≤ 4095) (hp1 : 0 ≤ p1 ∧ p1 ≤ 4095) (hp2 : -2147483648 ≤ p2 ∧ p2 ≤ 2147483647) (h_x_seens : 0 ≤ x_seens ∧ x_seens ≤ 30) (b_B_sBurning : bd (0) 2 B_sBurning) (b_B_sStroke : bd (0) 11 B_sStroke) (b_B_sIs : bd (0) 1 B_sIs) (b_B_sTold : bd (0) 100000 B_sTold) (b_B_sUntold : bd (-1) 100000 B_sUntold) : MetG l D k yX12_doesFit cX12_doesFit 6 (some .boolean) 0 [.ref (a 0), .int (mI p0), .int (mI p1), .int (mI p2)] (rW k a x_taped x_size x_faultKind x_faultPlace x_at x_end x_token x_number x_bank x_rb x_codes x_within x_piled x_unitsInRule x_askBeast x_askStroke x_askAge x_askSeason x_acts x_undone x_laid x_seens x_time x_fitting n_name B_tape B_text B_turns B_herds B_irons B_beasts B_units B_night B_draw B_told B_brands B_ironMarks B_herdTold B_born B_ruleFrom B_ruleTo B_code B_codeNumber B_eWhat B_eSign B_pile B_all B_burned B_was B_need B_laidRow B_long8 B_brings B_sBurning B_sStroke B_sIs B_sTold B_sUntold B_parts B_boxAll B_isBoxed G_hName G_iName G_bName ex) (qGi (fun r0 H => (0 ≤ r0 ∧ r0 ≤ 1) ∧ va_P D vwCl (rW k a x_taped x_size x_faultKind x_faultPlace x_at x_end x_token x_number x_bank x_rb x_codes x_within x_piled x_unitsInRule x_askBeast x_askStroke x_askAge x_askSeason x_acts x_undone x_laid x_seens x_time x_fitting n_name B_tape B_text B_turns B_herds B_irons B_beasts B_units B_night B_draw B_told B_brands B_ironMarks B_herdTold B_born B_ruleFrom B_ruleTo B_code B_codeNumber B_eWhat B_eSign B_pile B_all B_burned B_was B_need B_laidRow B_long8 B_brings B_sBurning B_sStroke B_sIs B_sTold B_sUntold B_parts B_boxAll B_isBoxed G_hName G_iName G_bName ex) H)) := by
  refine metG_of 3 ck_X12_doesFit (Nat.le_of_ble_eq_true rfl) rMap (fun p e s m args below meth c A hx hb hml hr hlocks hown hts hK hD hA hP hS ls hl => ?_)
  have hown : s.vm.findClass "HideReaderModel" = some m.cls := hown
  have hl : lv_has ls 6 [(0, .ref (a 0)), (1, .int (mI p0)), (2, .int (mI p1)), (3, .int (mI p2))] := hl
  refine lv_iconst (v := mI 0) hx hb dX12_doesFit_0 rfl ?_
  refine lv_istore (lv' := [(4, .int (mI 0)), (0, .ref (a 0)), (1, .int (mI p0)), (2, .int (mI p1)), (3, .int (mI p2))]) hx hb dX12_doesFit_1 hl (by decide) rfl (fun ls hl => ?_)
  refine sy_loop (I := fun n H locs g => ∃ (z_196 : Int) (ls : Array Slot), (0 ≤ z_196 ∧ z_196 ≤ 30) ∧ (30 - z_196).toNat = n ∧ va_P D vwCl (rW k a x_taped x_size x_faultKind x_faultPlace x_at x_end x_token x_number x_bank x_rb x_codes x_within x_piled x_unitsInRule x_askBeast x_askStroke x_askAge x_askSeason x_acts x_undone x_laid x_seens x_time x_fitting n_name B_tape B_text B_turns B_herds B_irons B_beasts B_units B_night B_draw B_told B_brands B_ironMarks B_herdTold B_born B_ruleFrom B_ruleTo B_code B_codeNumber B_eWhat B_eSign B_pile B_all B_burned B_was B_need B_laidRow B_long8 B_brings B_sBurning B_sStroke B_sIs B_sTold B_sUntold B_parts B_boxAll B_isBoxed G_hName G_iName G_bName ex) H ∧ va_S A s.heap H locs ∧ lv_has ls 6 [(4, .int (mI z_196)), (0, .ref (a 0)), (1, .int (mI p0)), (2, .int (mI p1)), (3, .int (mI p2))] ∧ g = F0 m 3 ls []) ?_ _ ⟨0, _, by omega, rfl, hP, hS, lv_sub hl [0, 1, 2, 3, 4] rfl, rfl⟩
  intro n_224 H locs g hI ih_225
  obtain ⟨z_196, ls, h3_0, mn_224, hP, hS, hl, rfl⟩ := hI
  refine lv_iload hx hb dX12_doesFit_3 (lv_at hl 0 rfl) ?_
  refine lv_aload_n hx hb dX12_doesFit_5 rfl (lv_at hl 1 rfl) ?_
  refine rg_o_seens hx hb hts hown hK hP uw_7_82 dX12_doesFit_6 ?_
  refine sy_icmp_ge (tgt := 95) hx hb dX12_doesFit_9 (by decide) (by omega) (by omega) (fun c_226 => ?_) (fun c_226 => ?_)
  · skip
    refine lv_iconst (v := mI 1) hx hb dX12_doesFit_95 rfl ?_
    exact r_z hx hb hr hlocks dX12_doesFit_96 hS (by decide) ⟨by omega, hP⟩
  · skip
    refine lv_aload_n hx hb dX12_doesFit_12 rfl (lv_at hl 1 rfl) ?_
    refine rg_o_sTold hx hb hts hown hK hP uw_7_79 dX12_doesFit_13 ?_
    refine lv_iload hx hb dX12_doesFit_16 (lv_at hl 0 rfl) ?_
    refine rl_sTold hx hb hK hP dX12_doesFit_18 (by omega) b_B_sTold (fun z_227 _ hz_227 => ?_)
    refine lv_iload_n hx hb dX12_doesFit_19 rfl (lv_at hl 4 rfl) ?_
    refine sy_icmp_gt (tgt := 89) hx hb dX12_doesFit_20 (by decide) (by omega) (by omega) (fun c_228 => ?_) (fun c_228 => ?_)
    · skip
      refine lv_iinc (v := mI (z_196 + 1)) (lv' := [(4, .int (mI (z_196 + 1))), (0, .ref (a 0)), (1, .int (mI p0)), (2, .int (mI p1)), (3, .int (mI p2))]) hx hb dX12_doesFit_89 hl (k := 0) rfl (mI_ad rfl) (by decide) rfl (fun ls hl => ?_)
      refine lv_goto (tgt := 3) hx hb dX12_doesFit_92 (by decide) ?_
      exact ih_225 _ _ _ _ (by omega) ⟨(z_196 + 1), _, by omega, rfl, hP, hS, lv_sub hl [0, 1, 2, 3, 4] rfl, rfl⟩
    · skip
      refine lv_aload_n hx hb dX12_doesFit_23 rfl (lv_at hl 1 rfl) ?_
      refine rg_o_sUntold hx hb hts hown hK hP uw_7_80 dX12_doesFit_24 ?_
      refine lv_iload hx hb dX12_doesFit_27 (lv_at hl 0 rfl) ?_
      refine rl_sUntold hx hb hK hP dX12_doesFit_29 (by omega) b_B_sUntold (fun z_229 _ hz_229 => ?_)
      refine sy_if_lt (tgt := 47) hx hb dX12_doesFit_30 (by decide) (by omega) (fun c_230 => ?_) (fun c_230 => ?_)
      · skip
        refine lv_aload_n hx hb dX12_doesFit_47 rfl (lv_at hl 1 rfl) ?_
        refine rg_o_sBurning hx hb hts hown hK hP uw_7_76 dX12_doesFit_48 ?_
        refine lv_iload hx hb dX12_doesFit_51 (lv_at hl 0 rfl) ?_
        refine rl_sBurning hx hb hK hP dX12_doesFit_53 (by omega) b_B_sBurning (fun z_231 _ hz_231 => ?_)
        refine lv_iconst (v := mI 1) hx hb dX12_doesFit_54 rfl ?_
        refine sy_join (I := fun H locs g => ∃ (z_233 : Int) (ls : Array Slot), (0 ≤ z_233 ∧ z_233 ≤ 4095) ∧ va_P D vwCl (rW k a x_taped x_size x_faultKind x_faultPlace x_at x_end x_token x_number x_bank x_rb x_codes x_within x_piled x_unitsInRule x_askBeast x_askStroke x_askAge x_askSeason x_acts x_undone x_laid x_seens x_time x_fitting n_name B_tape B_text B_turns B_herds B_irons B_beasts B_units B_night B_draw B_told B_brands B_ironMarks B_herdTold B_born B_ruleFrom B_ruleTo B_code B_codeNumber B_eWhat B_eSign B_pile B_all B_burned B_was B_need B_laidRow B_long8 B_brings B_sBurning B_sStroke B_sIs B_sTold B_sUntold B_parts B_boxAll B_isBoxed G_hName G_iName G_bName ex) H ∧ va_S A s.heap H locs ∧ lv_has ls 6 [(4, .int (mI z_196)), (0, .ref (a 0)), (1, .int (mI p0)), (2, .int (mI p1)), (3, .int (mI p2))] ∧ g = F0 m 63 ls [.int (mI z_233)]) ?_ ?_
        · skip
          intro H locs g hI
          obtain ⟨z_233, ls, h63_0, hP, hS, hl, rfl⟩ := hI
          refine lv_istore (lv' := [(5, .int (mI z_233)), (4, .int (mI z_196)), (0, .ref (a 0)), (1, .int (mI p0)), (2, .int (mI p1)), (3, .int (mI p2))]) hx hb dX12_doesFit_63 hl (by decide) rfl (fun ls hl => ?_)
          refine lv_iload hx hb dX12_doesFit_65 (lv_at hl 0 rfl) ?_
          refine lv_aload_n hx hb dX12_doesFit_67 rfl (lv_at hl 2 rfl) ?_
          refine rg_o_sStroke hx hb hts hown hK hP uw_7_77 dX12_doesFit_68 ?_
          refine lv_iload hx hb dX12_doesFit_71 (lv_at hl 1 rfl) ?_
          refine rl_sStroke hx hb hK hP dX12_doesFit_73 (by omega) b_B_sStroke (fun z_235 _ hz_235 => ?_)
          refine sy_shrV hx hb dX12_doesFit_74 (by omega) (fun z_236 hz_236 => ?_)
          refine lv_iconst (v := mI 1) hx hb dX12_doesFit_75 rfl ?_
          refine sy_iandR hx hb dX12_doesFit_76 (by decide) (fun z_237 hz_237 => ?_)
          refine lv_aload_n hx hb dX12_doesFit_77 rfl (lv_at hl 2 rfl) ?_
          refine rg_o_sIs hx hb hts hown hK hP uw_7_78 dX12_doesFit_78 ?_
          refine lv_iload hx hb dX12_doesFit_81 (lv_at hl 1 rfl) ?_
          refine rl_sIs hx hb hK hP dX12_doesFit_83 (by omega) b_B_sIs (fun z_238 _ hz_238 => ?_)
          refine sy_icmp_eq (tgt := 89) hx hb dX12_doesFit_84 (by decide) (by omega) (by omega) (fun c_239 => ?_) (fun c_239 => ?_)
          · skip
            refine lv_iinc (v := mI (z_196 + 1)) (lv' := [(4, .int (mI (z_196 + 1))), (5, .int (mI z_233)), (0, .ref (a 0)), (1, .int (mI p0)), (2, .int (mI p1)), (3, .int (mI p2))]) hx hb dX12_doesFit_89 hl (k := 1) rfl (mI_ad rfl) (by decide) rfl (fun ls hl => ?_)
            refine lv_goto (tgt := 3) hx hb dX12_doesFit_92 (by decide) ?_
            exact ih_225 _ _ _ _ (by omega) ⟨(z_196 + 1), _, by omega, rfl, hP, hS, lv_sub hl [0, 2, 3, 4, 5] rfl, rfl⟩
          · skip
            refine lv_iconst (v := mI 0) hx hb dX12_doesFit_87 rfl ?_
            exact r_z hx hb hr hlocks dX12_doesFit_88 hS (by decide) ⟨by omega, hP⟩
        · skip
          intro J_234
          refine sy_icmp_ne (tgt := 62) hx hb dX12_doesFit_55 (by decide) (by omega) (by decide) (fun c_240 => ?_) (fun c_240 => ?_)
          · skip
            refine lv_iload_n hx hb dX12_doesFit_62 rfl (lv_at hl 3 rfl) ?_
            exact J_234 _ _ _ ⟨p1, _, by omega, hP, hS, lv_sub hl [0, 1, 2, 3, 4] rfl, rfl⟩
          · skip
            refine lv_iload_n hx hb dX12_doesFit_58 rfl (lv_at hl 2 rfl) ?_
            refine lv_goto (tgt := 63) hx hb dX12_doesFit_59 (by decide) ?_
            exact J_234 _ _ _ ⟨p0, _, by omega, hP, hS, lv_sub hl [0, 1, 2, 3, 4] rfl, rfl⟩
      · skip
        refine lv_aload_n hx hb dX12_doesFit_33 rfl (lv_at hl 1 rfl) ?_
        refine rg_o_sUntold hx hb hts hown hK hP uw_7_80 dX12_doesFit_34 ?_
        refine lv_iload hx hb dX12_doesFit_37 (lv_at hl 0 rfl) ?_
        refine rl_sUntold hx hb hK hP dX12_doesFit_39 (by omega) b_B_sUntold (fun z_241 _ hz_241 => ?_)
        refine lv_iload_n hx hb dX12_doesFit_40 rfl (lv_at hl 4 rfl) ?_
        refine sy_icmp_gt (tgt := 47) hx hb dX12_doesFit_41 (by decide) (by omega) (by omega) (fun c_242 => ?_) (fun c_242 => ?_)
        · skip
          refine lv_aload_n hx hb dX12_doesFit_47 rfl (lv_at hl 1 rfl) ?_
          refine rg_o_sBurning hx hb hts hown hK hP uw_7_76 dX12_doesFit_48 ?_
          refine lv_iload hx hb dX12_doesFit_51 (lv_at hl 0 rfl) ?_
          refine rl_sBurning hx hb hK hP dX12_doesFit_53 (by omega) b_B_sBurning (fun z_243 _ hz_243 => ?_)
          refine lv_iconst (v := mI 1) hx hb dX12_doesFit_54 rfl ?_
          refine sy_join (I := fun H locs g => ∃ (z_245 : Int) (ls : Array Slot), (0 ≤ z_245 ∧ z_245 ≤ 4095) ∧ va_P D vwCl (rW k a x_taped x_size x_faultKind x_faultPlace x_at x_end x_token x_number x_bank x_rb x_codes x_within x_piled x_unitsInRule x_askBeast x_askStroke x_askAge x_askSeason x_acts x_undone x_laid x_seens x_time x_fitting n_name B_tape B_text B_turns B_herds B_irons B_beasts B_units B_night B_draw B_told B_brands B_ironMarks B_herdTold B_born B_ruleFrom B_ruleTo B_code B_codeNumber B_eWhat B_eSign B_pile B_all B_burned B_was B_need B_laidRow B_long8 B_brings B_sBurning B_sStroke B_sIs B_sTold B_sUntold B_parts B_boxAll B_isBoxed G_hName G_iName G_bName ex) H ∧ va_S A s.heap H locs ∧ lv_has ls 6 [(4, .int (mI z_196)), (0, .ref (a 0)), (1, .int (mI p0)), (2, .int (mI p1)), (3, .int (mI p2))] ∧ g = F0 m 63 ls [.int (mI z_245)]) ?_ ?_
          · skip
            intro H locs g hI
            obtain ⟨z_245, ls, h63_0, hP, hS, hl, rfl⟩ := hI
            refine lv_istore (lv' := [(5, .int (mI z_245)), (4, .int (mI z_196)), (0, .ref (a 0)), (1, .int (mI p0)), (2, .int (mI p1)), (3, .int (mI p2))]) hx hb dX12_doesFit_63 hl (by decide) rfl (fun ls hl => ?_)
            refine lv_iload hx hb dX12_doesFit_65 (lv_at hl 0 rfl) ?_
            refine lv_aload_n hx hb dX12_doesFit_67 rfl (lv_at hl 2 rfl) ?_
            refine rg_o_sStroke hx hb hts hown hK hP uw_7_77 dX12_doesFit_68 ?_
            refine lv_iload hx hb dX12_doesFit_71 (lv_at hl 1 rfl) ?_
            refine rl_sStroke hx hb hK hP dX12_doesFit_73 (by omega) b_B_sStroke (fun z_247 _ hz_247 => ?_)
            refine sy_shrV hx hb dX12_doesFit_74 (by omega) (fun z_248 hz_248 => ?_)
            refine lv_iconst (v := mI 1) hx hb dX12_doesFit_75 rfl ?_
            refine sy_iandR hx hb dX12_doesFit_76 (by decide) (fun z_249 hz_249 => ?_)
            refine lv_aload_n hx hb dX12_doesFit_77 rfl (lv_at hl 2 rfl) ?_
            refine rg_o_sIs hx hb hts hown hK hP uw_7_78 dX12_doesFit_78 ?_
            refine lv_iload hx hb dX12_doesFit_81 (lv_at hl 1 rfl) ?_
            refine rl_sIs hx hb hK hP dX12_doesFit_83 (by omega) b_B_sIs (fun z_250 _ hz_250 => ?_)
            refine sy_icmp_eq (tgt := 89) hx hb dX12_doesFit_84 (by decide) (by omega) (by omega) (fun c_251 => ?_) (fun c_251 => ?_)
            · skip
              refine lv_iinc (v := mI (z_196 + 1)) (lv' := [(4, .int (mI (z_196 + 1))), (5, .int (mI z_245)), (0, .ref (a 0)), (1, .int (mI p0)), (2, .int (mI p1)), (3, .int (mI p2))]) hx hb dX12_doesFit_89 hl (k := 1) rfl (mI_ad rfl) (by decide) rfl (fun ls hl => ?_)
              refine lv_goto (tgt := 3) hx hb dX12_doesFit_92 (by decide) ?_
              exact ih_225 _ _ _ _ (by omega) ⟨(z_196 + 1), _, by omega, rfl, hP, hS, lv_sub hl [0, 2, 3, 4, 5] rfl, rfl⟩
            · skip
              refine lv_iconst (v := mI 0) hx hb dX12_doesFit_87 rfl ?_
              exact r_z hx hb hr hlocks dX12_doesFit_88 hS (by decide) ⟨by omega, hP⟩
          · skip
            intro J_246
            refine sy_icmp_ne (tgt := 62) hx hb dX12_doesFit_55 (by decide) (by omega) (by decide) (fun c_252 => ?_) (fun c_252 => ?_)
            · skip
              refine lv_iload_n hx hb dX12_doesFit_62 rfl (lv_at hl 3 rfl) ?_
              exact J_246 _ _ _ ⟨p1, _, by omega, hP, hS, lv_sub hl [0, 1, 2, 3, 4] rfl, rfl⟩
            · skip
              refine lv_iload_n hx hb dX12_doesFit_58 rfl (lv_at hl 2 rfl) ?_
              refine lv_goto (tgt := 63) hx hb dX12_doesFit_59 (by decide) ?_
              exact J_246 _ _ _ ⟨p0, _, by omega, hP, hS, lv_sub hl [0, 1, 2, 3, 4] rfl, rfl⟩
        · skip
          refine lv_goto (tgt := 89) hx hb dX12_doesFit_44 (by decide) ?_
          refine lv_iinc (v := mI (z_196 + 1)) (lv' := [(4, .int (mI (z_196 + 1))), (0, .ref (a 0)), (1, .int (mI p0)), (2, .int (mI p1)), (3, .int (mI p2))]) hx hb dX12_doesFit_89 hl (k := 0) rfl (mI_ad rfl) (by decide) rfl (fun ls hl => ?_)
          refine lv_goto (tgt := 3) hx hb dX12_doesFit_92 (by decide) ?_
          exact ih_225 _ _ _ _ (by omega) ⟨(z_196 + 1), _, by omega, rfl, hP, hS, lv_sub hl [0, 1, 2, 3, 4] rfl, rfl⟩
set_option maxHeartbeats 4000000 in
set_option maxRecDepth 100000 in
theorem kr_X12_mostOf {p0 : Int} (hp0 : 0 ≤ p0 ∧ p0 ≤ 1) (b_B_parts : bd (-2147483648) 2147483647 B_parts) : MetG l D k yX12_mostOf cX12_mostOf 4 (some .int) 0 [.ref (a 0), .int (mI p0)] (rW k a x_taped x_size x_faultKind x_faultPlace x_at x_end x_token x_number x_bank x_rb x_codes x_within x_piled x_unitsInRule x_askBeast x_askStroke x_askAge x_askSeason x_acts x_undone x_laid x_seens x_time x_fitting n_name B_tape B_text B_turns B_herds B_irons B_beasts B_units B_night B_draw B_told B_brands B_ironMarks B_herdTold B_born B_ruleFrom B_ruleTo B_code B_codeNumber B_eWhat B_eSign B_pile B_all B_burned B_was B_need B_laidRow B_long8 B_brings B_sBurning B_sStroke B_sIs B_sTold B_sUntold B_parts B_boxAll B_isBoxed G_hName G_iName G_bName ex) (qGi (fun r0 H => (-2147483648 ≤ r0 ∧ r0 ≤ 2147483647) ∧ va_P D vwCl (rW k a x_taped x_size x_faultKind x_faultPlace x_at x_end x_token x_number x_bank x_rb x_codes x_within x_piled x_unitsInRule x_askBeast x_askStroke x_askAge x_askSeason x_acts x_undone x_laid x_seens x_time x_fitting n_name B_tape B_text B_turns B_herds B_irons B_beasts B_units B_night B_draw B_told B_brands B_ironMarks B_herdTold B_born B_ruleFrom B_ruleTo B_code B_codeNumber B_eWhat B_eSign B_pile B_all B_burned B_was B_need B_laidRow B_long8 B_brings B_sBurning B_sStroke B_sIs B_sTold B_sUntold B_parts B_boxAll B_isBoxed G_hName G_iName G_bName ex) H)) := by
  refine metG_of 1 ck_X12_mostOf (Nat.le_of_ble_eq_true rfl) rMap (fun p e s m args below meth c A hx hb hml hr hlocks hown hts hK hD hA hP hS ls hl => ?_)
  have hown : s.vm.findClass "HideReaderModel" = some m.cls := hown
  have hl : lv_has ls 4 [(0, .ref (a 0)), (1, .int (mI p0))] := hl
  refine lv_iconst (v := mI 0) hx hb dX12_mostOf_0 rfl ?_
  refine lv_istore_n (lv' := [(2, .int (mI 0)), (0, .ref (a 0)), (1, .int (mI p0))]) hx hb dX12_mostOf_1 rfl hl (by decide) rfl (fun ls hl => ?_)
  refine lv_iconst (v := mI 0) hx hb dX12_mostOf_2 rfl ?_
  refine lv_istore_n (lv' := [(3, .int (mI 0)), (2, .int (mI 0)), (0, .ref (a 0)), (1, .int (mI p0))]) hx hb dX12_mostOf_3 rfl hl (by decide) rfl (fun ls hl => ?_)
  refine sy_loop (I := fun n H locs g => ∃ (z_257 : Int) (z_258 : Int) (ls : Array Slot), (0 ≤ z_257 ∧ z_257 ≤ 6) ∧ (-2147483648 ≤ z_258 ∧ z_258 ≤ 2147483647) ∧ (6 - z_257).toNat = n ∧ va_P D vwCl (rW k a x_taped x_size x_faultKind x_faultPlace x_at x_end x_token x_number x_bank x_rb x_codes x_within x_piled x_unitsInRule x_askBeast x_askStroke x_askAge x_askSeason x_acts x_undone x_laid x_seens x_time x_fitting n_name B_tape B_text B_turns B_herds B_irons B_beasts B_units B_night B_draw B_told B_brands B_ironMarks B_herdTold B_born B_ruleFrom B_ruleTo B_code B_codeNumber B_eWhat B_eSign B_pile B_all B_burned B_was B_need B_laidRow B_long8 B_brings B_sBurning B_sStroke B_sIs B_sTold B_sUntold B_parts B_boxAll B_isBoxed G_hName G_iName G_bName ex) H ∧ va_S A s.heap H locs ∧ lv_has ls 4 [(3, .int (mI z_257)), (2, .int (mI z_258)), (0, .ref (a 0)), (1, .int (mI p0))] ∧ g = F0 m 4 ls []) ?_ _ ⟨0, 0, _, by omega, by omega, rfl, hP, hS, lv_sub hl [0, 1, 2, 3] rfl, rfl⟩
  intro n_263 H locs g hI ih_264
  obtain ⟨z_257, z_258, ls, h4_0, h4_1, mn_263, hP, hS, hl, rfl⟩ := hI
  refine lv_iload_n hx hb dX12_mostOf_4 rfl (lv_at hl 0 rfl) ?_
  refine lv_bipush (v := mI 6) hx hb dX12_mostOf_5 (by decide) ?_
  refine sy_icmp_ge (tgt := 43) hx hb dX12_mostOf_7 (by decide) (by omega) (by decide) (fun c_265 => ?_) (fun c_265 => ?_)
  · skip
    refine lv_iload_n hx hb dX12_mostOf_43 rfl (lv_at hl 1 rfl) ?_
    exact r_i hx hb hr hlocks dX12_mostOf_44 hS ⟨by omega, hP⟩
  · skip
    refine lv_aload_n hx hb dX12_mostOf_10 rfl (lv_at hl 2 rfl) ?_
    refine rg_o_parts hx hb hts hown hK hP uw_7_81 dX12_mostOf_11 ?_
    refine lv_bipush (v := mI 6) hx hb dX12_mostOf_14 (by decide) ?_
    refine lv_iload_n hx hb dX12_mostOf_16 rfl (lv_at hl 3 rfl) ?_
    refine sy_imul hx hb dX12_mostOf_17 (6 * p0) rfl ?_
    refine lv_iload_n hx hb dX12_mostOf_18 rfl (lv_at hl 0 rfl) ?_
    refine sy_iadd hx hb dX12_mostOf_19 (6 * p0 + z_257) rfl ?_
    refine rl_parts hx hb hK hP dX12_mostOf_20 (by omega) b_B_parts (fun z_266 _ hz_266 => ?_)
    refine lv_iload_n hx hb dX12_mostOf_21 rfl (lv_at hl 1 rfl) ?_
    refine sy_icmp_le (tgt := 37) hx hb dX12_mostOf_22 (by decide) (by omega) (by omega) (fun c_267 => ?_) (fun c_267 => ?_)
    · skip
      refine lv_iinc (v := mI (z_257 + 1)) (lv' := [(3, .int (mI (z_257 + 1))), (2, .int (mI z_258)), (0, .ref (a 0)), (1, .int (mI p0))]) hx hb dX12_mostOf_37 hl (k := 0) rfl (mI_ad rfl) (by decide) rfl (fun ls hl => ?_)
      refine lv_goto (tgt := 4) hx hb dX12_mostOf_40 (by decide) ?_
      exact ih_264 _ _ _ _ (by omega) ⟨(z_257 + 1), z_258, _, by omega, by omega, rfl, hP, hS, lv_sub hl [0, 1, 2, 3] rfl, rfl⟩
    · skip
      refine lv_aload_n hx hb dX12_mostOf_25 rfl (lv_at hl 2 rfl) ?_
      refine rg_o_parts hx hb hts hown hK hP uw_7_81 dX12_mostOf_26 ?_
      refine lv_bipush (v := mI 6) hx hb dX12_mostOf_29 (by decide) ?_
      refine lv_iload_n hx hb dX12_mostOf_31 rfl (lv_at hl 3 rfl) ?_
      refine sy_imul hx hb dX12_mostOf_32 (6 * p0) rfl ?_
      refine lv_iload_n hx hb dX12_mostOf_33 rfl (lv_at hl 0 rfl) ?_
      refine sy_iadd hx hb dX12_mostOf_34 (6 * p0 + z_257) rfl ?_
      refine rl_parts hx hb hK hP dX12_mostOf_35 (by omega) b_B_parts (fun z_268 _ hz_268 => ?_)
      refine lv_istore_n (lv' := [(2, .int (mI z_268)), (3, .int (mI z_257)), (0, .ref (a 0)), (1, .int (mI p0))]) hx hb dX12_mostOf_36 rfl hl (by decide) rfl (fun ls hl => ?_)
      refine lv_iinc (v := mI (z_257 + 1)) (lv' := [(3, .int (mI (z_257 + 1))), (2, .int (mI z_268)), (0, .ref (a 0)), (1, .int (mI p0))]) hx hb dX12_mostOf_37 hl (k := 1) rfl (mI_ad rfl) (by decide) rfl (fun ls hl => ?_)
      refine lv_goto (tgt := 4) hx hb dX12_mostOf_40 (by decide) ?_
      exact ih_264 _ _ _ _ (by omega) ⟨(z_257 + 1), z_268, _, by omega, by omega, rfl, hP, hS, lv_sub hl [0, 1, 2, 3] rfl, rfl⟩
set_option maxHeartbeats 4000000 in
set_option maxRecDepth 100000 in
theorem kr_X12_image {p0 : Int} (hp0 : -2147483648 ≤ p0 ∧ p0 ≤ 2147483647) (b_B_all : bA B_all) (b_B_boxAll : bA B_boxAll) (b_B_isBoxed : bd (0) 1 B_isBoxed) : MetG l D k yX12_image cX12_image 3 (some .int) 1 [.ref (a 0), .int (mI p0)] (rW k a x_taped x_size x_faultKind x_faultPlace x_at x_end x_token x_number x_bank x_rb x_codes x_within x_piled x_unitsInRule x_askBeast x_askStroke x_askAge x_askSeason x_acts x_undone x_laid x_seens x_time x_fitting n_name B_tape B_text B_turns B_herds B_irons B_beasts B_units B_night B_draw B_told B_brands B_ironMarks B_herdTold B_born B_ruleFrom B_ruleTo B_code B_codeNumber B_eWhat B_eSign B_pile B_all B_burned B_was B_need B_laidRow B_long8 B_brings B_sBurning B_sStroke B_sIs B_sTold B_sUntold B_parts B_boxAll B_isBoxed G_hName G_iName G_bName ex) (qGi (fun r0 H => ∃ (F_boxAll : Nat → Int) (F_isBoxed : Nat → Int), (-2147483648 ≤ r0 ∧ r0 ≤ 2147483647) ∧ (bA F_boxAll) ∧ (bd (0) 1 F_isBoxed) ∧ va_P D vwCl (rW k a x_taped x_size x_faultKind x_faultPlace x_at x_end x_token x_number x_bank x_rb x_codes x_within x_piled x_unitsInRule x_askBeast x_askStroke x_askAge x_askSeason x_acts x_undone x_laid x_seens x_time x_fitting n_name B_tape B_text B_turns B_herds B_irons B_beasts B_units B_night B_draw B_told B_brands B_ironMarks B_herdTold B_born B_ruleFrom B_ruleTo B_code B_codeNumber B_eWhat B_eSign B_pile B_all B_burned B_was B_need B_laidRow B_long8 B_brings B_sBurning B_sStroke B_sIs B_sTold B_sUntold B_parts F_boxAll F_isBoxed G_hName G_iName G_bName ex) H)) := by
  refine metG_of 1 ck_X12_image (Nat.le_of_ble_eq_true rfl) rMap (fun p e s m args below meth c A hx hb hml hr hlocks hown hts hK hD hA hP hS ls hl => ?_)
  have hown : s.vm.findClass "HideReaderModel" = some m.cls := hown
  have hl : lv_has ls 3 [(0, .ref (a 0)), (1, .int (mI p0))] := hl
  refine lv_iload_n hx hb dX12_image_0 rfl (lv_at hl 1 rfl) ?_
  refine lv_iconst (v := mI 0) hx hb dX12_image_1 rfl ?_
  refine lv_iconst (v := mI 2) hx hb dX12_image_2 rfl ?_
  refine g_i (rDt hD) hS hA (g_S (own := "HideReaderModel") (As := [.int (mI p0), .int (mI 0), .int (mI 2)]) (rest := []) hx hb hml hown hts hK hP (rDt hD) (kr_X12_isIn (l := l) (D := D) (k := k) (by omega) (by decide) (by decide)) ck_X12_isIn uw_8_131 uw_8_130 rfl hl.1 rfl (Nat.le_of_ble_eq_true rfl) dX12_image_3 ⟨Nat.le_of_ble_eq_true rfl, Nat.le_of_ble_eq_true rfl⟩ ⟨Nat.le_of_ble_eq_true rfl, Nat.le_of_ble_eq_true rfl⟩) (fun r_1 H locs hQ hS => ?_)
  obtain ⟨hq_r_1, hP⟩ := hQ
  rcases hq_r_1 with ⟨rfl, c_2_0⟩ | ⟨rfl, c_3_0, c_3_1⟩
  · skip
    refine sy_if_ne (tgt := 11) hx hb dX12_image_6 (by decide) (by decide) (fun c9 => absurd c9 (by decide)) (fun c_4 => ?_)
    refine lv_iconst (v := mI (-1)) hx hb dX12_image_9 rfl ?_
    exact r_i hx hb hr hlocks dX12_image_10 hS ⟨B_boxAll, B_isBoxed, by omega, b_B_boxAll, b_B_isBoxed, hP⟩
  · skip
    refine sy_if_ne (tgt := 11) hx hb dX12_image_6 (by decide) (by decide) (fun c_5 => ?_) (fun c9 => absurd c9 (by decide))
    refine lv_iconst (v := mI 0) hx hb dX12_image_11 rfl ?_
    refine lv_istore_n (lv' := [(2, .int (mI 0)), (0, .ref (a 0)), (1, .int (mI p0))]) hx hb dX12_image_12 rfl hl (by decide) rfl (fun ls hl => ?_)
    refine sy_loop (I := fun n H locs g => ∃ (z_72 : Int) (F_73 : Nat → Int) (ls : Array Slot), (0 ≤ z_72 ∧ z_72 ≤ 114) ∧ (bA F_73) ∧ (114 - z_72).toNat = n ∧ va_P D vwCl (rW k a x_taped x_size x_faultKind x_faultPlace x_at x_end x_token x_number x_bank x_rb x_codes x_within x_piled x_unitsInRule x_askBeast x_askStroke x_askAge x_askSeason x_acts x_undone x_laid x_seens x_time x_fitting n_name B_tape B_text B_turns B_herds B_irons B_beasts B_units B_night B_draw B_told B_brands B_ironMarks B_herdTold B_born B_ruleFrom B_ruleTo B_code B_codeNumber B_eWhat B_eSign B_pile B_all B_burned B_was B_need B_laidRow B_long8 B_brings B_sBurning B_sStroke B_sIs B_sTold B_sUntold B_parts F_73 B_isBoxed G_hName G_iName G_bName ex) H ∧ va_S A s.heap H locs ∧ lv_has ls 3 [(2, .int (mI z_72)), (0, .ref (a 0)), (1, .int (mI p0))] ∧ g = F0 m 13 ls []) ?_ _ ⟨0, B_boxAll, _, by omega, b_B_boxAll, rfl, hP, hS, lv_sub hl [0, 1, 2] rfl, rfl⟩
    intro n_82 H locs g hI ih_83
    obtain ⟨z_72, F_73, ls, h13_0, bF_73, mn_82, hP, hS, hl, rfl⟩ := hI
    refine lv_iload_n hx hb dX12_image_13 rfl (lv_at hl 0 rfl) ?_
    refine lv_bipush (v := mI 114) hx hb dX12_image_14 (by decide) ?_
    refine sy_icmp_ge (tgt := 42) hx hb dX12_image_16 (by decide) (by omega) (by decide) (fun c_87 => ?_) (fun c_87 => ?_)
    · skip
      refine lv_aload_n hx hb dX12_image_42 rfl (lv_at hl 1 rfl) ?_
      refine rg_o_isBoxed hx hb hts hown hK hP uw_7_86 dX12_image_43 ?_
      refine lv_iload_n hx hb dX12_image_46 rfl (lv_at hl 2 rfl) ?_
      refine lv_iconst (v := mI 1) hx hb dX12_image_47 rfl ?_
      refine rs_isBoxed hx hb hK hP hD hS (by decide) dX12_image_48 (by omega) b_B_isBoxed (by omega) (fun F_88 H locs _ bF_88 hP hS => ?_)
      refine lv_aload_n hx hb dX12_image_49 rfl (lv_at hl 1 rfl) ?_
      refine rg_o_all hx hb hts hown hK hP uw_7_66 dX12_image_50 ?_
      refine lv_bipush (v := mI 112) hx hb dX12_image_53 (by decide) ?_
      refine rl_all hx hb hK hP dX12_image_55 (by omega) (bA_bd b_B_all) (fun z_89 ez_89 hz_89 => ?_)
      exact r_i hx hb hr hlocks dX12_image_56 hS ⟨F_73, F_88, by omega, bF_73, bF_88, hP⟩
    · skip
      refine lv_aload_n hx hb dX12_image_19 rfl (lv_at hl 1 rfl) ?_
      refine rg_o_boxAll hx hb hts hown hK hP uw_7_85 dX12_image_20 ?_
      refine lv_bipush (v := mI 114) hx hb dX12_image_23 (by decide) ?_
      refine lv_iload_n hx hb dX12_image_25 rfl (lv_at hl 2 rfl) ?_
      refine sy_imul hx hb dX12_image_26 (114 * p0) rfl ?_
      refine lv_iload_n hx hb dX12_image_27 rfl (lv_at hl 0 rfl) ?_
      refine sy_iadd hx hb dX12_image_28 (114 * p0 + z_72) rfl ?_
      refine lv_aload_n hx hb dX12_image_29 rfl (lv_at hl 1 rfl) ?_
      refine rg_o_all hx hb hts hown hK hP uw_7_66 dX12_image_30 ?_
      refine lv_iload_n hx hb dX12_image_33 rfl (lv_at hl 0 rfl) ?_
      refine rl_all hx hb hK hP dX12_image_34 (by omega) (bA_bd b_B_all) (fun z_90 ez_90 hz_90 => ?_)
      refine rs_boxAll hx hb hK hP hD hS dX12_image_35 (by omega) (bA_bd bF_73) (by omega) (fun F_91 H locs eF_91 bF_91 hP hS => ?_)
      have bF_91 := bA_cp bF_73 b_B_all eF_91 ez_90 (by omega) (by omega) (by omega)
      refine lv_iinc (v := mI (z_72 + 1)) (lv' := [(2, .int (mI (z_72 + 1))), (0, .ref (a 0)), (1, .int (mI p0))]) hx hb dX12_image_36 hl (k := 0) rfl (mI_ad rfl) (by decide) rfl (fun ls hl => ?_)
      refine lv_goto (tgt := 13) hx hb dX12_image_39 (by decide) ?_
      exact ih_83 _ _ _ _ (by omega) ⟨(z_72 + 1), F_91, _, by omega, bF_91, rfl, hP, hS, lv_sub hl [0, 1, 2] rfl, rfl⟩
set_option maxHeartbeats 4000000 in
set_option maxRecDepth 100000 in
theorem kr_X12_back {p0 : Int} (hp0 : -2147483648 ≤ p0 ∧ p0 ≤ 2147483647) (h_x_acts : 0 ≤ x_acts ∧ x_acts ≤ 40) (h_x_undone : 0 ≤ x_undone ∧ x_undone ≤ 40) (b_B_all : bA B_all) (b_B_boxAll : bA B_boxAll) (b_B_isBoxed : bd (0) 1 B_isBoxed) (g_A : 0 ≤ 40 - x_acts - x_undone) : MetG l D k yX12_back cX12_back 3 (some .int) 1 [.ref (a 0), .int (mI p0)] (rW k a x_taped x_size x_faultKind x_faultPlace x_at x_end x_token x_number x_bank x_rb x_codes x_within x_piled x_unitsInRule x_askBeast x_askStroke x_askAge x_askSeason x_acts x_undone x_laid x_seens x_time x_fitting n_name B_tape B_text B_turns B_herds B_irons B_beasts B_units B_night B_draw B_told B_brands B_ironMarks B_herdTold B_born B_ruleFrom B_ruleTo B_code B_codeNumber B_eWhat B_eSign B_pile B_all B_burned B_was B_need B_laidRow B_long8 B_brings B_sBurning B_sStroke B_sIs B_sTold B_sUntold B_parts B_boxAll B_isBoxed G_hName G_iName G_bName ex) (qGi (fun r0 H => ∃ (F_all : Nat → Int) (y_acts : Int) (y_undone : Int), (-2147483648 ≤ r0 ∧ r0 ≤ 2147483647) ∧ (bA F_all) ∧ (0 ≤ y_acts ∧ y_acts ≤ 40) ∧ (0 ≤ y_undone ∧ y_undone ≤ 40) ∧ (0 ≤ -y_acts + x_acts) ∧ (0 ≤ -y_undone + x_undone) ∧ (0 ≤ 40 - y_acts - y_undone) ∧ va_P D vwCl (rW k a x_taped x_size x_faultKind x_faultPlace x_at x_end x_token x_number x_bank x_rb x_codes x_within x_piled x_unitsInRule x_askBeast x_askStroke x_askAge x_askSeason y_acts y_undone x_laid x_seens x_time x_fitting n_name B_tape B_text B_turns B_herds B_irons B_beasts B_units B_night B_draw B_told B_brands B_ironMarks B_herdTold B_born B_ruleFrom B_ruleTo B_code B_codeNumber B_eWhat B_eSign B_pile F_all B_burned B_was B_need B_laidRow B_long8 B_brings B_sBurning B_sStroke B_sIs B_sTold B_sUntold B_parts B_boxAll B_isBoxed G_hName G_iName G_bName ex) H)) := by
  refine metG_of 1 ck_X12_back (Nat.le_of_ble_eq_true rfl) rMap (fun p e s m args below meth c A hx hb hml hr hlocks hown hts hK hD hA hP hS ls hl => ?_)
  have hown : s.vm.findClass "HideReaderModel" = some m.cls := hown
  have hl : lv_has ls 3 [(0, .ref (a 0)), (1, .int (mI p0))] := hl
  refine lv_iload_n hx hb dX12_back_0 rfl (lv_at hl 1 rfl) ?_
  refine lv_iconst (v := mI 0) hx hb dX12_back_1 rfl ?_
  refine lv_iconst (v := mI 2) hx hb dX12_back_2 rfl ?_
  refine g_i (rDt hD) hS hA (g_S (own := "HideReaderModel") (As := [.int (mI p0), .int (mI 0), .int (mI 2)]) (rest := []) hx hb hml hown hts hK hP (rDt hD) (kr_X12_isIn (l := l) (D := D) (k := k) (by omega) (by decide) (by decide)) ck_X12_isIn uw_8_131 uw_8_130 rfl hl.1 rfl (Nat.le_of_ble_eq_true rfl) dX12_back_3 ⟨Nat.le_of_ble_eq_true rfl, Nat.le_of_ble_eq_true rfl⟩ ⟨Nat.le_of_ble_eq_true rfl, Nat.le_of_ble_eq_true rfl⟩) (fun r_1 H locs hQ hS => ?_)
  obtain ⟨hq_r_1, hP⟩ := hQ
  rcases hq_r_1 with ⟨rfl, c_2_0⟩ | ⟨rfl, c_3_0, c_3_1⟩
  · skip
    refine sy_if_eq (tgt := 18) hx hb dX12_back_6 (by decide) (by decide) (fun c_4 => ?_) (fun c9 => absurd c9 (by decide))
    refine lv_iconst (v := mI (-1)) hx hb dX12_back_18 rfl ?_
    exact r_i hx hb hr hlocks dX12_back_19 hS ⟨B_all, x_acts, x_undone, by omega, b_B_all, by omega, by omega, by omega, by omega, g_A, hP⟩
  · skip
    refine sy_if_eq (tgt := 18) hx hb dX12_back_6 (by decide) (by decide) (fun c9 => absurd c9 (by decide)) (fun c_5 => ?_)
    refine lv_aload_n hx hb dX12_back_9 rfl (lv_at hl 0 rfl) ?_
    refine rg_o_isBoxed hx hb hts hown hK hP uw_7_86 dX12_back_10 ?_
    refine lv_iload_n hx hb dX12_back_13 rfl (lv_at hl 1 rfl) ?_
    refine rl_isBoxed hx hb hK hP dX12_back_14 (by omega) b_B_isBoxed (fun z_6 _ hz_6 => ?_)
    refine sy_if_ne (tgt := 20) hx hb dX12_back_15 (by decide) (by omega) (fun c_7 => ?_) (fun c_7 => ?_)
    · skip
      refine lv_iconst (v := mI 0) hx hb dX12_back_20 rfl ?_
      refine lv_istore_n (lv' := [(2, .int (mI 0)), (0, .ref (a 0)), (1, .int (mI p0))]) hx hb dX12_back_21 rfl hl (by decide) rfl (fun ls hl => ?_)
      refine sy_loop (I := fun n H locs g => ∃ (z_68 : Int) (F_69 : Nat → Int) (ls : Array Slot), (0 ≤ z_68 ∧ z_68 ≤ 114) ∧ (bA F_69) ∧ (114 - z_68).toNat = n ∧ va_P D vwCl (rW k a x_taped x_size x_faultKind x_faultPlace x_at x_end x_token x_number x_bank x_rb x_codes x_within x_piled x_unitsInRule x_askBeast x_askStroke x_askAge x_askSeason x_acts x_undone x_laid x_seens x_time x_fitting n_name B_tape B_text B_turns B_herds B_irons B_beasts B_units B_night B_draw B_told B_brands B_ironMarks B_herdTold B_born B_ruleFrom B_ruleTo B_code B_codeNumber B_eWhat B_eSign B_pile F_69 B_burned B_was B_need B_laidRow B_long8 B_brings B_sBurning B_sStroke B_sIs B_sTold B_sUntold B_parts B_boxAll B_isBoxed G_hName G_iName G_bName ex) H ∧ va_S A s.heap H locs ∧ lv_has ls 3 [(2, .int (mI z_68)), (0, .ref (a 0)), (1, .int (mI p0))] ∧ g = F0 m 22 ls []) ?_ _ ⟨0, B_all, _, by omega, b_B_all, rfl, hP, hS, lv_sub hl [0, 1, 2] rfl, rfl⟩
      intro n_77 H locs g hI ih_78
      obtain ⟨z_68, F_69, ls, h22_0, bF_69, mn_77, hP, hS, hl, rfl⟩ := hI
      refine lv_iload_n hx hb dX12_back_22 rfl (lv_at hl 0 rfl) ?_
      refine lv_bipush (v := mI 114) hx hb dX12_back_23 (by decide) ?_
      refine sy_icmp_ge (tgt := 51) hx hb dX12_back_25 (by decide) (by omega) (by decide) (fun c_82 => ?_) (fun c_82 => ?_)
      · skip
        refine lv_aload_n hx hb dX12_back_51 rfl (lv_at hl 1 rfl) ?_
        refine lv_iconst (v := mI 0) hx hb dX12_back_52 rfl ?_
        refine rp_o_acts hx hb hts hown hK hP hD hS uw_7_69 dX12_back_53 (fun H locs hP hS => ?_)
        refine lv_aload_n hx hb dX12_back_56 rfl (lv_at hl 1 rfl) ?_
        refine lv_iconst (v := mI 0) hx hb dX12_back_57 rfl ?_
        refine rp_o_undone hx hb hts hown hK hP hD hS uw_7_70 dX12_back_58 (fun H locs hP hS => ?_)
        refine lv_aload_n hx hb dX12_back_61 rfl (lv_at hl 1 rfl) ?_
        refine rg_o_all hx hb hts hown hK hP uw_7_66 dX12_back_62 ?_
        refine lv_bipush (v := mI 112) hx hb dX12_back_65 (by decide) ?_
        refine rl_all hx hb hK hP dX12_back_67 (by omega) (bA_bd bF_69) (fun z_83 ez_83 hz_83 => ?_)
        exact r_i hx hb hr hlocks dX12_back_68 hS ⟨F_69, 0, 0, by omega, bF_69, by omega, by omega, by omega, by omega, (by omega), hP⟩
      · skip
        refine lv_aload_n hx hb dX12_back_28 rfl (lv_at hl 1 rfl) ?_
        refine rg_o_all hx hb hts hown hK hP uw_7_66 dX12_back_29 ?_
        refine lv_iload_n hx hb dX12_back_32 rfl (lv_at hl 0 rfl) ?_
        refine lv_aload_n hx hb dX12_back_33 rfl (lv_at hl 1 rfl) ?_
        refine rg_o_boxAll hx hb hts hown hK hP uw_7_85 dX12_back_34 ?_
        refine lv_bipush (v := mI 114) hx hb dX12_back_37 (by decide) ?_
        refine lv_iload_n hx hb dX12_back_39 rfl (lv_at hl 2 rfl) ?_
        refine sy_imul hx hb dX12_back_40 (114 * p0) rfl ?_
        refine lv_iload_n hx hb dX12_back_41 rfl (lv_at hl 0 rfl) ?_
        refine sy_iadd hx hb dX12_back_42 (114 * p0 + z_68) rfl ?_
        refine rl_boxAll hx hb hK hP dX12_back_43 (by omega) (bA_bd b_B_boxAll) (fun z_84 ez_84 hz_84 => ?_)
        refine rs_all hx hb hK hP hD hS dX12_back_44 (by omega) (bA_bd bF_69) (by omega) (fun F_85 H locs eF_85 bF_85 hP hS => ?_)
        have bF_85 := bA_cp bF_69 b_B_boxAll eF_85 ez_84 (by omega) (by omega) (by omega)
        refine lv_iinc (v := mI (z_68 + 1)) (lv' := [(2, .int (mI (z_68 + 1))), (0, .ref (a 0)), (1, .int (mI p0))]) hx hb dX12_back_45 hl (k := 0) rfl (mI_ad rfl) (by decide) rfl (fun ls hl => ?_)
        refine lv_goto (tgt := 22) hx hb dX12_back_48 (by decide) ?_
        exact ih_78 _ _ _ _ (by omega) ⟨(z_68 + 1), F_85, _, by omega, bF_85, rfl, hP, hS, lv_sub hl [0, 1, 2] rfl, rfl⟩
    · skip
      refine lv_iconst (v := mI (-1)) hx hb dX12_back_18 rfl ?_
      exact r_i hx hb hr hlocks dX12_back_19 hS ⟨B_all, x_acts, x_undone, by omega, b_B_all, by omega, by omega, by omega, by omega, g_A, hP⟩
set_option maxHeartbeats 4000000 in
set_option maxRecDepth 100000 in
theorem kr_X12_about {p0 : Int} (hp0 : -2147483648 ≤ p0 ∧ p0 ≤ 2147483647) (h_x_taped : 0 ≤ x_taped ∧ x_taped ≤ 1600) (h_x_bank : 0 ≤ x_bank ∧ x_bank ≤ 1) (h_x_acts : 0 ≤ x_acts ∧ x_acts ≤ 40) (h_x_undone : 0 ≤ x_undone ∧ x_undone ≤ 40) (h_x_laid : 0 ≤ x_laid ∧ x_laid ≤ 8) (h_x_seens : 0 ≤ x_seens ∧ x_seens ≤ 30) (h_x_time : 0 ≤ x_time ∧ x_time ≤ 100000) (b_B_turns : bd (0) 4 B_turns) (b_B_herds : bd (0) 8 B_herds) (b_B_irons : bd (0) 6 B_irons) (b_B_beasts : bd (0) 8 B_beasts) (b_B_units : bd (0) 60 B_units) (b_B_night : bd (0) 100 B_night) (b_B_told : bd (0) 31 B_told) (b_B_all : bA B_all) (g_R : 1 ≤ B_turns x_bank.toNat ∧ ¬ B_turns x_bank.toNat = 3) : MetG l D k yX12_about cX12_about 2 (some .int) 2 [.ref (a 0), .int (mI p0)] (rW k a x_taped x_size x_faultKind x_faultPlace x_at x_end x_token x_number x_bank x_rb x_codes x_within x_piled x_unitsInRule x_askBeast x_askStroke x_askAge x_askSeason x_acts x_undone x_laid x_seens x_time x_fitting n_name B_tape B_text B_turns B_herds B_irons B_beasts B_units B_night B_draw B_told B_brands B_ironMarks B_herdTold B_born B_ruleFrom B_ruleTo B_code B_codeNumber B_eWhat B_eSign B_pile B_all B_burned B_was B_need B_laidRow B_long8 B_brings B_sBurning B_sStroke B_sIs B_sTold B_sUntold B_parts B_boxAll B_isBoxed G_hName G_iName G_bName ex) (qGi (fun r0 H => (-2147483648 ≤ r0 ∧ r0 ≤ 2147483647) ∧ va_P D vwCl (rW k a x_taped x_size x_faultKind x_faultPlace x_at x_end x_token x_number x_bank x_rb x_codes x_within x_piled x_unitsInRule x_askBeast x_askStroke x_askAge x_askSeason x_acts x_undone x_laid x_seens x_time x_fitting n_name B_tape B_text B_turns B_herds B_irons B_beasts B_units B_night B_draw B_told B_brands B_ironMarks B_herdTold B_born B_ruleFrom B_ruleTo B_code B_codeNumber B_eWhat B_eSign B_pile B_all B_burned B_was B_need B_laidRow B_long8 B_brings B_sBurning B_sStroke B_sIs B_sTold B_sUntold B_parts B_boxAll B_isBoxed G_hName G_iName G_bName ex) H)) := by
  refine metG_of 1 ck_X12_about (Nat.le_of_ble_eq_true rfl) rMap (fun p e s m args below meth c A hx hb hml hr hlocks hown hts hK hD hA hP hS ls hl => ?_)
  have hown : s.vm.findClass "HideReaderModel" = some m.cls := hown
  have hl : lv_has ls 2 [(0, .ref (a 0)), (1, .int (mI p0))] := hl
  refine lv_iload_n hx hb dX12_about_0 rfl (lv_at hl 1 rfl) ?_
  rcases (by omega : (p0 < 0 ∨ 14 < p0) ∨ p0 = 0 ∨ p0 = 1 ∨ p0 = 2 ∨ p0 = 3 ∨ p0 = 4 ∨ p0 = 5 ∨ p0 = 6 ∨ p0 = 7 ∨ p0 = 8 ∨ p0 = 9 ∨ p0 = 10 ∨ p0 = 11 ∨ p0 = 12 ∨ p0 = 13 ∨ p0 = 14) with c_1 | c_1 | c_1 | c_1 | c_1 | c_1 | c_1 | c_1 | c_1 | c_1 | c_1 | c_1 | c_1 | c_1 | c_1 | c_1
  · skip
    refine sy_tableOut (tgt := 172) hx hb dX12_about_1 (by omega) c_1 (by decide) ?_
    refine lv_iconst (v := mI (-1)) hx hb dX12_about_172 rfl ?_
    exact r_i hx hb hr hlocks dX12_about_173 hS ⟨by omega, hP⟩
  · skip
    refine sy_tableIn (tgt := 76) hx hb dX12_about_1 0 c_1 (by decide) rfl (by decide) ?_
    refine lv_aload_n hx hb dX12_about_76 rfl (lv_at hl 0 rfl) ?_
    refine g_i (rDt hD) hS hA (g_V (own := "HideReaderModel") (As := []) (rest := []) hx hb hml hown hts hK hP (rDt hD) (kr_X12_stocks (l := l) (D := D) (k := k) h_x_bank b_B_herds) ck_X12_stocks iv_X12_stocks uw_8_126 (rv_o hK hP) rfl hl.1 rfl (Nat.le_of_ble_eq_true rfl) dX12_about_77 ⟨Nat.le_of_ble_eq_true rfl, Nat.le_of_ble_eq_true rfl⟩ ⟨Nat.le_of_ble_eq_true rfl, Nat.le_of_ble_eq_true rfl⟩) (fun r_2 H locs hQ hS => ?_)
    obtain ⟨hr_2_0, hr_2_1, hP⟩ := hQ
    exact r_i hx hb hr hlocks dX12_about_80 hS ⟨by omega, hP⟩
  · skip
    refine sy_tableIn (tgt := 81) hx hb dX12_about_1 1 c_1 (by decide) rfl (by decide) ?_
    refine lv_aload_n hx hb dX12_about_81 rfl (lv_at hl 0 rfl) ?_
    refine g_i (rDt hD) hS hA (g_V (own := "HideReaderModel") (As := []) (rest := []) hx hb hml hown hts hK hP (rDt hD) (kr_X12_tools (l := l) (D := D) (k := k) h_x_bank b_B_irons) ck_X12_tools iv_X12_tools uw_6_235 (rv_o hK hP) rfl hl.1 rfl (Nat.le_of_ble_eq_true rfl) dX12_about_82 ⟨Nat.le_of_ble_eq_true rfl, Nat.le_of_ble_eq_true rfl⟩ ⟨Nat.le_of_ble_eq_true rfl, Nat.le_of_ble_eq_true rfl⟩) (fun r_3 H locs hQ hS => ?_)
    obtain ⟨hr_3_0, hr_3_1, hP⟩ := hQ
    exact r_i hx hb hr hlocks dX12_about_85 hS ⟨by omega, hP⟩
  · skip
    refine sy_tableIn (tgt := 86) hx hb dX12_about_1 2 c_1 (by decide) rfl (by decide) ?_
    refine lv_aload_n hx hb dX12_about_86 rfl (lv_at hl 0 rfl) ?_
    refine g_i (rDt hD) hS hA (g_V (own := "HideReaderModel") (As := []) (rest := []) hx hb hml hown hts hK hP (rDt hD) (kr_X12_cattle (l := l) (D := D) (k := k) h_x_bank b_B_beasts) ck_X12_cattle iv_X12_cattle uw_6_212 (rv_o hK hP) rfl hl.1 rfl (Nat.le_of_ble_eq_true rfl) dX12_about_87 ⟨Nat.le_of_ble_eq_true rfl, Nat.le_of_ble_eq_true rfl⟩ ⟨Nat.le_of_ble_eq_true rfl, Nat.le_of_ble_eq_true rfl⟩) (fun r_4 H locs hQ hS => ?_)
    obtain ⟨hr_4_0, hr_4_1, hP⟩ := hQ
    exact r_i hx hb hr hlocks dX12_about_90 hS ⟨by omega, hP⟩
  · skip
    refine sy_tableIn (tgt := 91) hx hb dX12_about_1 3 c_1 (by decide) rfl (by decide) ?_
    refine lv_aload_n hx hb dX12_about_91 rfl (lv_at hl 0 rfl) ?_
    refine g_i (rDt hD) hS hA (g_V (own := "HideReaderModel") (As := []) (rest := []) hx hb hml hown hts hK hP (rDt hD) (kr_X12_placements (l := l) (D := D) (k := k) h_x_bank b_B_turns b_B_told g_R) ck_X12_placements iv_X12_placements uw_6_239 (rv_o hK hP) rfl hl.1 rfl (Nat.le_of_ble_eq_true rfl) dX12_about_92 ⟨Nat.le_of_ble_eq_true rfl, Nat.le_of_ble_eq_true rfl⟩ ⟨Nat.le_of_ble_eq_true rfl, Nat.le_of_ble_eq_true rfl⟩) (fun r_5 H locs hQ hS => ?_)
    obtain ⟨hr_5_0, hr_5_1, hP⟩ := hQ
    exact r_i hx hb hr hlocks dX12_about_95 hS ⟨by omega, hP⟩
  · skip
    refine sy_tableIn (tgt := 96) hx hb dX12_about_1 4 c_1 (by decide) rfl (by decide) ?_
    refine lv_aload_n hx hb dX12_about_96 rfl (lv_at hl 0 rfl) ?_
    refine rg_o_all hx hb hts hown hK hP uw_7_66 dX12_about_97 ?_
    refine lv_bipush (v := mI 112) hx hb dX12_about_100 (by decide) ?_
    refine rl_all hx hb hK hP dX12_about_102 (by omega) (bA_bd b_B_all) (fun z_6 ez_6 hz_6 => ?_)
    exact r_i hx hb hr hlocks dX12_about_103 hS ⟨by omega, hP⟩
  · skip
    refine sy_tableIn (tgt := 104) hx hb dX12_about_1 5 c_1 (by decide) rfl (by decide) ?_
    refine lv_aload_n hx hb dX12_about_104 rfl (lv_at hl 0 rfl) ?_
    refine rg_o_all hx hb hts hown hK hP uw_7_66 dX12_about_105 ?_
    refine lv_bipush (v := mI 113) hx hb dX12_about_108 (by decide) ?_
    refine rl_all hx hb hK hP dX12_about_110 (by omega) (bA_bd b_B_all) (fun z_7 ez_7 hz_7 => ?_)
    have hz_7 := bA_age b_B_all (by omega) ez_7
    exact r_i hx hb hr hlocks dX12_about_111 hS ⟨by omega, hP⟩
  · skip
    refine sy_tableIn (tgt := 112) hx hb dX12_about_1 6 c_1 (by decide) rfl (by decide) ?_
    refine lv_aload_n hx hb dX12_about_112 rfl (lv_at hl 0 rfl) ?_
    refine rg_o_acts hx hb hts hown hK hP uw_7_69 dX12_about_113 ?_
    exact r_i hx hb hr hlocks dX12_about_116 hS ⟨by omega, hP⟩
  · skip
    refine sy_tableIn (tgt := 117) hx hb dX12_about_1 7 c_1 (by decide) rfl (by decide) ?_
    refine lv_aload_n hx hb dX12_about_117 rfl (lv_at hl 0 rfl) ?_
    refine rg_o_undone hx hb hts hown hK hP uw_7_70 dX12_about_118 ?_
    exact r_i hx hb hr hlocks dX12_about_121 hS ⟨by omega, hP⟩
  · skip
    refine sy_tableIn (tgt := 122) hx hb dX12_about_1 8 c_1 (by decide) rfl (by decide) ?_
    refine lv_aload_n hx hb dX12_about_122 rfl (lv_at hl 0 rfl) ?_
    refine rg_o_seens hx hb hts hown hK hP uw_7_82 dX12_about_123 ?_
    exact r_i hx hb hr hlocks dX12_about_126 hS ⟨by omega, hP⟩
  · skip
    refine sy_tableIn (tgt := 127) hx hb dX12_about_1 9 c_1 (by decide) rfl (by decide) ?_
    refine lv_aload_n hx hb dX12_about_127 rfl (lv_at hl 0 rfl) ?_
    refine rg_o_time hx hb hts hown hK hP uw_7_83 dX12_about_128 ?_
    exact r_i hx hb hr hlocks dX12_about_131 hS ⟨by omega, hP⟩
  · skip
    refine sy_tableIn (tgt := 132) hx hb dX12_about_1 10 c_1 (by decide) rfl (by decide) ?_
    refine lv_aload_n hx hb dX12_about_132 rfl (lv_at hl 0 rfl) ?_
    refine rg_o_taped hx hb hts hown hK hP uw_7_25 dX12_about_133 ?_
    exact r_i hx hb hr hlocks dX12_about_136 hS ⟨by omega, hP⟩
  · skip
    refine sy_tableIn (tgt := 137) hx hb dX12_about_1 11 c_1 (by decide) rfl (by decide) ?_
    refine lv_aload_n hx hb dX12_about_137 rfl (lv_at hl 0 rfl) ?_
    refine rg_o_units hx hb hts hown hK hP uw_7_38 dX12_about_138 ?_
    refine lv_aload_n hx hb dX12_about_141 rfl (lv_at hl 0 rfl) ?_
    refine rg_o_bank hx hb hts hown hK hP uw_7_56 dX12_about_142 ?_
    refine rl_units hx hb hK hP dX12_about_145 (by omega) b_B_units (fun z_8 _ hz_8 => ?_)
    exact r_i hx hb hr hlocks dX12_about_146 hS ⟨by omega, hP⟩
  · skip
    refine sy_tableIn (tgt := 147) hx hb dX12_about_1 12 c_1 (by decide) rfl (by decide) ?_
    refine lv_aload_n hx hb dX12_about_147 rfl (lv_at hl 0 rfl) ?_
    refine rg_o_laid hx hb hts hown hK hP uw_7_73 dX12_about_148 ?_
    exact r_i hx hb hr hlocks dX12_about_151 hS ⟨by omega, hP⟩
  · skip
    refine sy_tableIn (tgt := 152) hx hb dX12_about_1 13 c_1 (by decide) rfl (by decide) ?_
    refine lv_aload_n hx hb dX12_about_152 rfl (lv_at hl 0 rfl) ?_
    refine rg_o_night hx hb hts hown hK hP uw_7_39 dX12_about_153 ?_
    refine lv_aload_n hx hb dX12_about_156 rfl (lv_at hl 0 rfl) ?_
    refine rg_o_bank hx hb hts hown hK hP uw_7_56 dX12_about_157 ?_
    refine rl_night hx hb hK hP dX12_about_160 (by omega) b_B_night (fun z_9 _ hz_9 => ?_)
    exact r_i hx hb hr hlocks dX12_about_161 hS ⟨by omega, hP⟩
  · skip
    refine sy_tableIn (tgt := 162) hx hb dX12_about_1 14 c_1 (by decide) rfl (by decide) ?_
    refine lv_aload_n hx hb dX12_about_162 rfl (lv_at hl 0 rfl) ?_
    refine rg_o_turns hx hb hts hown hK hP uw_7_34 dX12_about_163 ?_
    refine lv_aload_n hx hb dX12_about_166 rfl (lv_at hl 0 rfl) ?_
    refine rg_o_bank hx hb hts hown hK hP uw_7_56 dX12_about_167 ?_
    refine rl_turns hx hb hK hP dX12_about_170 (by omega) b_B_turns (fun z_10 ez_10 hz_10 => ?_)
    have h_11 := g_R
    exact r_i hx hb hr hlocks dX12_about_171 hS ⟨by omega, hP⟩
set_option maxHeartbeats 4000000 in
set_option maxRecDepth 100000 in
theorem kr_X12_feed {p0 p1 p2 p3 p4 : Int} (hp0 : -2147483648 ≤ p0 ∧ p0 ≤ 2147483647) (hp1 : -2147483648 ≤ p1 ∧ p1 ≤ 2147483647) (hp2 : -2147483648 ≤ p2 ∧ p2 ≤ 2147483647) (hp3 : -2147483648 ≤ p3 ∧ p3 ≤ 2147483647) (hp4 : -2147483648 ≤ p4 ∧ p4 ≤ 2147483647) (h_x_taped : 0 ≤ x_taped ∧ x_taped ≤ 1600) (b_B_tape : bd (-128) 127 B_tape) : MetG l D k yX12_feed cX12_feed 8 (some .int) 0 [.ref (a 0), .int (mI p0), .int (mI p1), .int (mI p2), .int (mI p3), .int (mI p4)] (rW k a x_taped x_size x_faultKind x_faultPlace x_at x_end x_token x_number x_bank x_rb x_codes x_within x_piled x_unitsInRule x_askBeast x_askStroke x_askAge x_askSeason x_acts x_undone x_laid x_seens x_time x_fitting n_name B_tape B_text B_turns B_herds B_irons B_beasts B_units B_night B_draw B_told B_brands B_ironMarks B_herdTold B_born B_ruleFrom B_ruleTo B_code B_codeNumber B_eWhat B_eSign B_pile B_all B_burned B_was B_need B_laidRow B_long8 B_brings B_sBurning B_sStroke B_sIs B_sTold B_sUntold B_parts B_boxAll B_isBoxed G_hName G_iName G_bName ex) (qGi (fun r0 H => ∃ (F_tape : Nat → Int) (y_taped : Int), (-1 ≤ r0 ∧ r0 ≤ 1600) ∧ (bd (-128) 127 F_tape) ∧ (20 ≤ y_taped ∧ y_taped ≤ 1600) ∧ (0 ≤ y_taped - x_taped) ∧ va_P D vwCl (rW k a y_taped x_size x_faultKind x_faultPlace x_at x_end x_token x_number x_bank x_rb x_codes x_within x_piled x_unitsInRule x_askBeast x_askStroke x_askAge x_askSeason x_acts x_undone x_laid x_seens x_time x_fitting n_name F_tape B_text B_turns B_herds B_irons B_beasts B_units B_night B_draw B_told B_brands B_ironMarks B_herdTold B_born B_ruleFrom B_ruleTo B_code B_codeNumber B_eWhat B_eSign B_pile B_all B_burned B_was B_need B_laidRow B_long8 B_brings B_sBurning B_sStroke B_sIs B_sTold B_sUntold B_parts B_boxAll B_isBoxed G_hName G_iName G_bName ex) H)) := by
  refine metG_of 5 ck_X12_feed (Nat.le_of_ble_eq_true rfl) rMap (fun p e s m args below meth c A hx hb hml hr hlocks hown hts hK hD hA hP hS ls hl => ?_)
  have hown : s.vm.findClass "HideReaderModel" = some m.cls := hown
  have hl : lv_has ls 8 [(0, .ref (a 0)), (1, .int (mI p0)), (2, .int (mI p1)), (3, .int (mI p2)), (4, .int (mI p3)), (5, .int (mI p4))] := hl
  refine lv_aload_n hx hb dX12_feed_0 rfl (lv_at hl 0 rfl) ?_
  refine rg_o_taped hx hb hts hown hK hP uw_7_25 dX12_feed_1 ?_
  refine lv_bipush (v := mI 20) hx hb dX12_feed_4 (by decide) ?_
  refine sy_iadd hx hb dX12_feed_6 (x_taped + 20) rfl ?_
  refine lv_sipush (v := mI 1600) hx hb dX12_feed_7 (by decide) ?_
  refine sy_icmp_le (tgt := 15) hx hb dX12_feed_10 (by decide) (by omega) (by decide) (fun c_1 => ?_) (fun c_1 => ?_)
  · skip
    refine lv_iconst (v := mI 0) hx hb dX12_feed_15 rfl ?_
    refine lv_istore (lv' := [(6, .int (mI 0)), (0, .ref (a 0)), (1, .int (mI p0)), (2, .int (mI p1)), (3, .int (mI p2)), (4, .int (mI p3)), (5, .int (mI p4))]) hx hb dX12_feed_16 hl (by decide) rfl (fun ls hl => ?_)
    refine sy_loop (I := fun n H locs g => ∃ (z_208 : Int) (F_209 : Nat → Int) (ls : Array Slot), (0 ≤ z_208 ∧ z_208 ≤ 20) ∧ (bd (-128) 127 F_209) ∧ (20 - z_208).toNat = n ∧ va_P D vwCl (rW k a x_taped x_size x_faultKind x_faultPlace x_at x_end x_token x_number x_bank x_rb x_codes x_within x_piled x_unitsInRule x_askBeast x_askStroke x_askAge x_askSeason x_acts x_undone x_laid x_seens x_time x_fitting n_name F_209 B_text B_turns B_herds B_irons B_beasts B_units B_night B_draw B_told B_brands B_ironMarks B_herdTold B_born B_ruleFrom B_ruleTo B_code B_codeNumber B_eWhat B_eSign B_pile B_all B_burned B_was B_need B_laidRow B_long8 B_brings B_sBurning B_sStroke B_sIs B_sTold B_sUntold B_parts B_boxAll B_isBoxed G_hName G_iName G_bName ex) H ∧ va_S A s.heap H locs ∧ lv_has ls 8 [(6, .int (mI z_208)), (0, .ref (a 0)), (1, .int (mI p0)), (2, .int (mI p1)), (3, .int (mI p2)), (4, .int (mI p3)), (5, .int (mI p4))] ∧ g = F0 m 18 ls []) ?_ _ ⟨0, B_tape, _, by omega, b_B_tape, rfl, hP, hS, lv_sub hl [0, 1, 2, 3, 4, 5, 6] rfl, rfl⟩
    intro n_240 H locs g hI ih_241
    obtain ⟨z_208, F_209, ls, h18_0, bF_209, mn_240, hP, hS, hl, rfl⟩ := hI
    refine lv_iload hx hb dX12_feed_18 (lv_at hl 0 rfl) ?_
    refine lv_bipush (v := mI 20) hx hb dX12_feed_20 (by decide) ?_
    refine sy_icmp_ge (tgt := 105) hx hb dX12_feed_22 (by decide) (by omega) (by decide) (fun c_257 => ?_) (fun c_257 => ?_)
    · skip
      refine lv_aload_n hx hb dX12_feed_105 rfl (lv_at hl 1 rfl) ?_
      refine lv_dup hx hb dX12_feed_106 rfl ?_
      refine rg_o_taped hx hb hts hown hK hP uw_7_25 dX12_feed_107 ?_
      refine lv_bipush (v := mI 20) hx hb dX12_feed_110 (by decide) ?_
      refine sy_iadd hx hb dX12_feed_112 (x_taped + 20) rfl ?_
      refine rp_o_taped hx hb hts hown hK hP hD hS uw_7_25 dX12_feed_113 (fun H locs hP hS => ?_)
      refine lv_aload_n hx hb dX12_feed_116 rfl (lv_at hl 1 rfl) ?_
      refine rg_o_taped hx hb hts hown hK hP uw_7_25 dX12_feed_117 ?_
      exact r_i hx hb hr hlocks dX12_feed_120 hS ⟨F_209, (x_taped + 20), by omega, bF_209, by omega, by omega, hP⟩
    · skip
      refine lv_iload hx hb dX12_feed_25 (lv_at hl 0 rfl) ?_
      refine lv_iconst (v := mI 4) hx hb dX12_feed_27 rfl ?_
      refine sy_join (I := fun H locs g => ∃ (z_262 : Int) (ls : Array Slot), (-2147483648 ≤ z_262 ∧ z_262 ≤ 2147483647) ∧ va_P D vwCl (rW k a x_taped x_size x_faultKind x_faultPlace x_at x_end x_token x_number x_bank x_rb x_codes x_within x_piled x_unitsInRule x_askBeast x_askStroke x_askAge x_askSeason x_acts x_undone x_laid x_seens x_time x_fitting n_name F_209 B_text B_turns B_herds B_irons B_beasts B_units B_night B_draw B_told B_brands B_ironMarks B_herdTold B_born B_ruleFrom B_ruleTo B_code B_codeNumber B_eWhat B_eSign B_pile B_all B_burned B_was B_need B_laidRow B_long8 B_brings B_sBurning B_sStroke B_sIs B_sTold B_sUntold B_parts B_boxAll B_isBoxed G_hName G_iName G_bName ex) H ∧ va_S A s.heap H locs ∧ lv_has ls 8 [(6, .int (mI z_208)), (0, .ref (a 0)), (1, .int (mI p0)), (2, .int (mI p1)), (3, .int (mI p2)), (4, .int (mI p3)), (5, .int (mI p4))] ∧ g = F0 m 71 ls [.int (mI z_262)]) ?_ ?_
      · skip
        intro H locs g hI
        obtain ⟨z_262, ls, h71_0, hP, hS, hl, rfl⟩ := hI
        refine lv_istore (lv' := [(7, .int (mI z_262)), (6, .int (mI z_208)), (0, .ref (a 0)), (1, .int (mI p0)), (2, .int (mI p1)), (3, .int (mI p2)), (4, .int (mI p3)), (5, .int (mI p4))]) hx hb dX12_feed_71 hl (by decide) rfl (fun ls hl => ?_)
        refine lv_aload_n hx hb dX12_feed_73 rfl (lv_at hl 2 rfl) ?_
        refine rg_o_tape hx hb hts hown hK hP uw_7_23 dX12_feed_74 ?_
        refine lv_aload_n hx hb dX12_feed_77 rfl (lv_at hl 2 rfl) ?_
        refine rg_o_taped hx hb hts hown hK hP uw_7_25 dX12_feed_78 ?_
        refine lv_iload hx hb dX12_feed_81 (lv_at hl 1 rfl) ?_
        refine sy_iadd hx hb dX12_feed_83 (x_taped + z_208) rfl ?_
        refine lv_iload hx hb dX12_feed_84 (lv_at hl 0 rfl) ?_
        refine lv_bipush (v := mI 24) hx hb dX12_feed_86 (by decide) ?_
        refine lv_bipush (v := mI 8) hx hb dX12_feed_88 (by decide) ?_
        refine lv_iload hx hb dX12_feed_90 (lv_at hl 1 rfl) ?_
        refine lv_iconst (v := mI 3) hx hb dX12_feed_92 rfl ?_
        refine sy_iandR hx hb dX12_feed_93 (by decide) (fun z_264 hz_264 => ?_)
        refine sy_imul hx hb dX12_feed_94 (8 * z_264) rfl ?_
        refine sy_isub hx hb dX12_feed_95 (-8 * z_264 + 24) (by omega) ?_
        refine lv_ishr hx hb dX12_feed_96 ?_
        refine sy_any (fun z_265 hz_265 => ?_)
        refine sy_i2b hx hb dX12_feed_97 (fun z_266 hz_266 => ?_)
        refine rs_tape hx hb hK hP hD hS (by decide) dX12_feed_98 (by omega) bF_209 (by omega) (fun F_267 H locs _ bF_267 hP hS => ?_)
        refine lv_iinc (v := mI (z_208 + 1)) (lv' := [(6, .int (mI (z_208 + 1))), (7, .int (mI z_262)), (0, .ref (a 0)), (1, .int (mI p0)), (2, .int (mI p1)), (3, .int (mI p2)), (4, .int (mI p3)), (5, .int (mI p4))]) hx hb dX12_feed_99 hl (k := 1) rfl (mI_ad rfl) (by decide) rfl (fun ls hl => ?_)
        refine lv_goto (tgt := 18) hx hb dX12_feed_102 (by decide) ?_
        exact ih_241 _ _ _ _ (by omega) ⟨(z_208 + 1), F_267, _, by omega, bF_267, rfl, hP, hS, lv_sub hl [0, 2, 3, 4, 5, 6, 7] rfl, rfl⟩
      · skip
        intro J_263
        refine sy_icmp_ge (tgt := 35) hx hb dX12_feed_28 (by decide) (by omega) (by decide) (fun c_268 => ?_) (fun c_268 => ?_)
        · skip
          refine lv_iload hx hb dX12_feed_35 (lv_at hl 0 rfl) ?_
          refine lv_bipush (v := mI 8) hx hb dX12_feed_37 (by decide) ?_
          refine sy_icmp_ge (tgt := 46) hx hb dX12_feed_39 (by decide) (by omega) (by decide) (fun c_269 => ?_) (fun c_269 => ?_)
          · skip
            refine lv_iload hx hb dX12_feed_46 (lv_at hl 0 rfl) ?_
            refine lv_bipush (v := mI 12) hx hb dX12_feed_48 (by decide) ?_
            refine sy_icmp_ge (tgt := 57) hx hb dX12_feed_50 (by decide) (by omega) (by decide) (fun c_270 => ?_) (fun c_270 => ?_)
            · skip
              refine lv_iload hx hb dX12_feed_57 (lv_at hl 0 rfl) ?_
              refine lv_bipush (v := mI 16) hx hb dX12_feed_59 (by decide) ?_
              refine sy_icmp_ge (tgt := 69) hx hb dX12_feed_61 (by decide) (by omega) (by decide) (fun c_271 => ?_) (fun c_271 => ?_)
              · skip
                refine lv_iload hx hb dX12_feed_69 (lv_at hl 6 rfl) ?_
                exact J_263 _ _ _ ⟨p4, _, by omega, hP, hS, lv_sub hl [0, 1, 2, 3, 4, 5, 6] rfl, rfl⟩
              · skip
                refine lv_iload hx hb dX12_feed_64 (lv_at hl 5 rfl) ?_
                refine lv_goto (tgt := 71) hx hb dX12_feed_66 (by decide) ?_
                exact J_263 _ _ _ ⟨p3, _, by omega, hP, hS, lv_sub hl [0, 1, 2, 3, 4, 5, 6] rfl, rfl⟩
            · skip
              refine lv_iload_n hx hb dX12_feed_53 rfl (lv_at hl 4 rfl) ?_
              refine lv_goto (tgt := 71) hx hb dX12_feed_54 (by decide) ?_
              exact J_263 _ _ _ ⟨p2, _, by omega, hP, hS, lv_sub hl [0, 1, 2, 3, 4, 5, 6] rfl, rfl⟩
          · skip
            refine lv_iload_n hx hb dX12_feed_42 rfl (lv_at hl 3 rfl) ?_
            refine lv_goto (tgt := 71) hx hb dX12_feed_43 (by decide) ?_
            exact J_263 _ _ _ ⟨p1, _, by omega, hP, hS, lv_sub hl [0, 1, 2, 3, 4, 5, 6] rfl, rfl⟩
        · skip
          refine lv_iload_n hx hb dX12_feed_31 rfl (lv_at hl 2 rfl) ?_
          refine lv_goto (tgt := 71) hx hb dX12_feed_32 (by decide) ?_
          exact J_263 _ _ _ ⟨p0, _, by omega, hP, hS, lv_sub hl [0, 1, 2, 3, 4, 5, 6] rfl, rfl⟩
  · skip
    refine lv_iconst (v := mI (-1)) hx hb dX12_feed_13 rfl ?_
    exact r_i hx hb hr hlocks dX12_feed_14 hS ⟨B_tape, x_taped, by omega, b_B_tape, by omega, by omega, hP⟩
set_option maxHeartbeats 4000000 in
set_option maxRecDepth 100000 in
theorem kr_X12_end {p0 : Int} (hp0 : -2147483648 ≤ p0 ∧ p0 ≤ 2147483647) (h_x_taped : 0 ≤ x_taped ∧ x_taped ≤ 1600) : MetG l D k yX12_end cX12_end 2 (some .int) 0 [.ref (a 0), .int (mI p0)] (rW k a x_taped x_size x_faultKind x_faultPlace x_at x_end x_token x_number x_bank x_rb x_codes x_within x_piled x_unitsInRule x_askBeast x_askStroke x_askAge x_askSeason x_acts x_undone x_laid x_seens x_time x_fitting n_name B_tape B_text B_turns B_herds B_irons B_beasts B_units B_night B_draw B_told B_brands B_ironMarks B_herdTold B_born B_ruleFrom B_ruleTo B_code B_codeNumber B_eWhat B_eSign B_pile B_all B_burned B_was B_need B_laidRow B_long8 B_brings B_sBurning B_sStroke B_sIs B_sTold B_sUntold B_parts B_boxAll B_isBoxed G_hName G_iName G_bName ex) (qGi (fun r0 H => ∃ (y_taped : Int), (-1 ≤ r0 ∧ r0 ≤ 1600) ∧ (0 ≤ y_taped ∧ y_taped ≤ 1600) ∧ (0 ≤ -y_taped + x_taped) ∧ va_P D vwCl (rW k a y_taped x_size x_faultKind x_faultPlace x_at x_end x_token x_number x_bank x_rb x_codes x_within x_piled x_unitsInRule x_askBeast x_askStroke x_askAge x_askSeason x_acts x_undone x_laid x_seens x_time x_fitting n_name B_tape B_text B_turns B_herds B_irons B_beasts B_units B_night B_draw B_told B_brands B_ironMarks B_herdTold B_born B_ruleFrom B_ruleTo B_code B_codeNumber B_eWhat B_eSign B_pile B_all B_burned B_was B_need B_laidRow B_long8 B_brings B_sBurning B_sStroke B_sIs B_sTold B_sUntold B_parts B_boxAll B_isBoxed G_hName G_iName G_bName ex) H)) := by
  refine metG_of 1 ck_X12_end (Nat.le_of_ble_eq_true rfl) rMap (fun p e s m args below meth c A hx hb hml hr hlocks hown hts hK hD hA hP hS ls hl => ?_)
  have hown : s.vm.findClass "HideReaderModel" = some m.cls := hown
  have hl : lv_has ls 2 [(0, .ref (a 0)), (1, .int (mI p0))] := hl
  refine lv_iload_n hx hb dX12_end_0 rfl (lv_at hl 1 rfl) ?_
  refine sy_if_lt (tgt := 12) hx hb dX12_end_1 (by decide) (by omega) (fun c_1 => ?_) (fun c_1 => ?_)
  · skip
    refine lv_iconst (v := mI (-1)) hx hb dX12_end_12 rfl ?_
    exact r_i hx hb hr hlocks dX12_end_13 hS ⟨x_taped, by omega, by omega, by omega, hP⟩
  · skip
    refine lv_iload_n hx hb dX12_end_4 rfl (lv_at hl 1 rfl) ?_
    refine lv_aload_n hx hb dX12_end_5 rfl (lv_at hl 0 rfl) ?_
    refine rg_o_taped hx hb hts hown hK hP uw_7_25 dX12_end_6 ?_
    refine sy_icmp_le (tgt := 14) hx hb dX12_end_9 (by decide) (by omega) (by omega) (fun c_2 => ?_) (fun c_2 => ?_)
    · skip
      refine lv_aload_n hx hb dX12_end_14 rfl (lv_at hl 0 rfl) ?_
      refine lv_iload_n hx hb dX12_end_15 rfl (lv_at hl 1 rfl) ?_
      refine rp_o_taped hx hb hts hown hK hP hD hS uw_7_25 dX12_end_16 (fun H locs hP hS => ?_)
      refine lv_iload_n hx hb dX12_end_19 rfl (lv_at hl 1 rfl) ?_
      exact r_i hx hb hr hlocks dX12_end_20 hS ⟨p0, by omega, by omega, by omega, hP⟩
    · skip
      refine lv_iconst (v := mI (-1)) hx hb dX12_end_12 rfl ?_
      exact r_i hx hb hr hlocks dX12_end_13 hS ⟨x_taped, by omega, by omega, by omega, hP⟩
end Kr
