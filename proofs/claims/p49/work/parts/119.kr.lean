section Kr
variable {l : Launch} {D : va_G} {k : Nat → ClassId} {a : Nat → Nat} {ex : va_W} {x_taped x_size x_faultKind x_faultPlace x_at x_end x_token x_number x_bank x_rb x_codes x_within x_piled x_unitsInRule x_askBeast x_askStroke x_askAge x_askSeason x_acts x_undone x_laid x_seens x_time x_fitting : Int} {n_name : Int64} {B_tape B_text B_turns B_herds B_irons B_beasts B_units B_night B_draw B_told B_brands B_ironMarks B_herdTold B_born B_ruleFrom B_ruleTo B_code B_codeNumber B_eWhat B_eSign B_pile B_all B_burned B_was B_need B_laidRow B_long8 B_brings B_sBurning B_sStroke B_sIs B_sTold B_sUntold B_parts B_boxAll B_isBoxed : Nat → Int} {G_hName G_iName G_bName : Nat → Int64}
set_option maxHeartbeats 4000000 in
set_option maxRecDepth 100000 in
theorem kr_X12_season (h_x_bank : 0 ≤ x_bank ∧ x_bank ≤ 1) (h_x_acts : 0 ≤ x_acts ∧ x_acts ≤ 40) (h_x_undone : 0 ≤ x_undone ∧ x_undone ≤ 40) (b_B_beasts : bd (0) 8 B_beasts) (b_B_night : bd (0) 100 B_night) (b_B_all : bA B_all) (b_B_was : bA B_was) (g_A : 0 ≤ 40 - x_acts - x_undone) : MetG l D k yX12_season cX12_season 4 (some .int) 2 [.ref (a 0)] (rW k a x_taped x_size x_faultKind x_faultPlace x_at x_end x_token x_number x_bank x_rb x_codes x_within x_piled x_unitsInRule x_askBeast x_askStroke x_askAge x_askSeason x_acts x_undone x_laid x_seens x_time x_fitting n_name B_tape B_text B_turns B_herds B_irons B_beasts B_units B_night B_draw B_told B_brands B_ironMarks B_herdTold B_born B_ruleFrom B_ruleTo B_code B_codeNumber B_eWhat B_eSign B_pile B_all B_burned B_was B_need B_laidRow B_long8 B_brings B_sBurning B_sStroke B_sIs B_sTold B_sUntold B_parts B_boxAll B_isBoxed G_hName G_iName G_bName ex) (qGi (fun r0 H => ∃ (F_all : Nat → Int) (F_was : Nat → Int) (y_acts : Int) (y_undone : Int), (-1 ≤ r0 ∧ r0 ≤ 255) ∧ (bA F_all) ∧ (bA F_was) ∧ (0 ≤ y_acts ∧ y_acts ≤ 40) ∧ (0 ≤ y_undone ∧ y_undone ≤ 40) ∧ (0 ≤ -y_undone + x_undone) ∧ (0 ≤ 40 - y_acts - y_undone) ∧ va_P D vwCl (rW k a x_taped x_size x_faultKind x_faultPlace x_at x_end x_token x_number x_bank x_rb x_codes x_within x_piled x_unitsInRule x_askBeast x_askStroke x_askAge x_askSeason y_acts y_undone x_laid x_seens x_time x_fitting n_name B_tape B_text B_turns B_herds B_irons B_beasts B_units B_night B_draw B_told B_brands B_ironMarks B_herdTold B_born B_ruleFrom B_ruleTo B_code B_codeNumber B_eWhat B_eSign B_pile F_all B_burned F_was B_need B_laidRow B_long8 B_brings B_sBurning B_sStroke B_sIs B_sTold B_sUntold B_parts B_boxAll B_isBoxed G_hName G_iName G_bName ex) H)) := by
  refine metG_of 0 ck_X12_season (Nat.le_of_ble_eq_true rfl) rMap (fun p e s m args below meth c A hx hb hml hr hlocks hown hts hK hD hA hP hS ls hl => ?_)
  have hown : s.vm.findClass "HideReaderModel" = some m.cls := hown
  have hl : lv_has ls 4 [(0, .ref (a 0))] := hl
  refine lv_aload_n hx hb dX12_season_0 rfl (lv_at hl 0 rfl) ?_
  refine rg_o_all hx hb hts hown hK hP uw_7_66 dX12_season_1 ?_
  refine lv_bipush (v := mI 112) hx hb dX12_season_4 (by decide) ?_
  refine rl_all hx hb hK hP dX12_season_6 (by omega) (bA_bd b_B_all) (fun z_1 ez_1 hz_1 => ?_)
  refine lv_sipush (v := mI 999) hx hb dX12_season_7 (by decide) ?_
  refine sy_icmp_ne (tgt := 15) hx hb dX12_season_10 (by decide) (by omega) (by decide) (fun c_2 => ?_) (fun c_2 => ?_)
  · skip
    refine lv_aload_n hx hb dX12_season_15 rfl (lv_at hl 0 rfl) ?_
    refine g_v (rDt hD) hS hA (g_V (own := "HideReaderModel") (As := []) (rest := []) hx hb hml hown hts hK hP (rDt hD) (kr_X12_keepAct (l := l) (D := D) (k := k) h_x_acts h_x_undone b_B_all b_B_was g_A) ck_X12_keepAct iv_X12_keepAct uw_8_238 (rv_o hK hP) rfl hl.1 rfl (Nat.le_of_ble_eq_true rfl) dX12_season_16 ⟨Nat.le_of_ble_eq_true rfl, Nat.le_of_ble_eq_true rfl⟩ ⟨Nat.le_of_ble_eq_true rfl, Nat.le_of_ble_eq_true rfl⟩) (fun H locs hQ hS => ?_)
    obtain ⟨F_4, y_5, y_6, bF_4, hr_3_1, hr_3_2, hr_3_3, kr_3_A, hP⟩ := hQ
    refine lv_iconst (v := mI 0) hx hb dX12_season_19 rfl ?_
    refine lv_istore_n (lv' := [(1, .int (mI 0)), (0, .ref (a 0))]) hx hb dX12_season_20 rfl hl (by decide) rfl (fun ls hl => ?_)
    refine sy_loop (I := fun n H locs g => ∃ (z_5684 : Int) (F_5685 : Nat → Int) (ls : Array Slot), (0 ≤ z_5684 ∧ z_5684 ≤ 8) ∧ (bA F_5685) ∧ (8 - z_5684).toNat = n ∧ va_P D vwCl (rW k a x_taped x_size x_faultKind x_faultPlace x_at x_end x_token x_number x_bank x_rb x_codes x_within x_piled x_unitsInRule x_askBeast x_askStroke x_askAge x_askSeason y_5 y_6 x_laid x_seens x_time x_fitting n_name B_tape B_text B_turns B_herds B_irons B_beasts B_units B_night B_draw B_told B_brands B_ironMarks B_herdTold B_born B_ruleFrom B_ruleTo B_code B_codeNumber B_eWhat B_eSign B_pile F_5685 B_burned F_4 B_need B_laidRow B_long8 B_brings B_sBurning B_sStroke B_sIs B_sTold B_sUntold B_parts B_boxAll B_isBoxed G_hName G_iName G_bName ex) H ∧ va_S A s.heap H locs ∧ lv_has ls 4 [(1, .int (mI z_5684)), (0, .ref (a 0))] ∧ g = F0 m 21 ls []) ?_ _ ⟨0, B_all, _, by omega, b_B_all, rfl, hP, hS, lv_sub hl [0, 1] rfl, rfl⟩
    intro n_6579 H locs g hI ih_6580
    obtain ⟨z_5684, F_5685, ls, h21_0, bF_5685, mn_6579, hP, hS, hl, rfl⟩ := hI
    refine lv_iload_n hx hb dX12_season_21 rfl (lv_at hl 0 rfl) ?_
    refine lv_aload_n hx hb dX12_season_22 rfl (lv_at hl 1 rfl) ?_
    refine g_i (rDt hD) hS hA (g_V (own := "HideReaderModel") (As := []) (rest := [.int (mI z_5684)]) hx hb hml hown hts hK hP (rDt hD) (kr_X12_cattle (l := l) (D := D) (k := k) h_x_bank b_B_beasts) ck_X12_cattle iv_X12_cattle uw_6_212 (rv_o hK hP) rfl hl.1 rfl (Nat.le_of_ble_eq_true rfl) dX12_season_23 ⟨Nat.le_of_ble_eq_true rfl, Nat.le_of_ble_eq_true rfl⟩ ⟨Nat.le_of_ble_eq_true rfl, Nat.le_of_ble_eq_true rfl⟩) (fun r_6581 H locs hQ hS => ?_)
    obtain ⟨hr_6581_0, hr_6581_1, hP⟩ := hQ
    refine sy_icmp_ge (tgt := 96) hx hb dX12_season_26 (by decide) (by omega) (by omega) (fun c_6734 => ?_) (fun c_6734 => ?_)
    · skip
      refine lv_aload_n hx hb dX12_season_96 rfl (lv_at hl 1 rfl) ?_
      refine rg_o_all hx hb hts hown hK hP uw_7_66 dX12_season_97 ?_
      refine lv_bipush (v := mI 112) hx hb dX12_season_100 (by decide) ?_
      refine lv_dup2_11 hx hb dX12_season_102 rfl rfl ?_
      refine rl_all hx hb hK hP dX12_season_103 (by omega) (bA_bd bF_5685) (fun z_6735 ez_6735 hz_6735 => ?_)
      refine lv_iconst (v := mI 1) hx hb dX12_season_104 rfl ?_
      refine sy_iadd hx hb dX12_season_105 (z_6735 + 1) rfl ?_
      refine sy_any (fun z_6736 hz_6736 => ?_)
      refine rs_all hx hb hK hP hD hS dX12_season_106 (by omega) (bA_bd bF_5685) (by omega) (fun F_6737 H locs eF_6737 bF_6737 hP hS => ?_)
      have bF_6737 := bA_s112 bF_5685 eF_6737 (by omega) (by omega)
      refine lv_iconst (v := mI 0) hx hb dX12_season_107 rfl ?_
      refine lv_istore_n (lv' := [(1, .int (mI 0)), (0, .ref (a 0))]) hx hb dX12_season_108 rfl hl (by decide) rfl (fun ls hl => ?_)
      refine lv_iconst (v := mI 0) hx hb dX12_season_109 rfl ?_
      refine lv_istore_n (lv' := [(2, .int (mI 0)), (1, .int (mI 0)), (0, .ref (a 0))]) hx hb dX12_season_110 rfl hl (by decide) rfl (fun ls hl => ?_)
      refine sy_loop (I := fun n H locs g => ∃ (z_7286 : Int) (z_7287 : Int) (F_7288 : Nat → Int) (ls : Array Slot), (0 ≤ z_7286 ∧ z_7286 ≤ 8) ∧ (0 ≤ z_7287 ∧ z_7287 ≤ 255) ∧ (bA F_7288) ∧ (8 - z_7286).toNat = n ∧ va_P D vwCl (rW k a x_taped x_size x_faultKind x_faultPlace x_at x_end x_token x_number x_bank x_rb x_codes x_within x_piled x_unitsInRule x_askBeast x_askStroke x_askAge x_askSeason y_5 y_6 x_laid x_seens x_time x_fitting n_name B_tape B_text B_turns B_herds B_irons B_beasts B_units B_night B_draw B_told B_brands B_ironMarks B_herdTold B_born B_ruleFrom B_ruleTo B_code B_codeNumber B_eWhat B_eSign B_pile F_7288 B_burned F_4 B_need B_laidRow B_long8 B_brings B_sBurning B_sStroke B_sIs B_sTold B_sUntold B_parts B_boxAll B_isBoxed G_hName G_iName G_bName ex) H ∧ va_S A s.heap H locs ∧ lv_has ls 4 [(2, .int (mI z_7286)), (1, .int (mI z_7287)), (0, .ref (a 0))] ∧ g = F0 m 111 ls []) ?_ _ ⟨0, 0, F_6737, _, by omega, by omega, bF_6737, rfl, hP, hS, lv_sub hl [0, 1, 2] rfl, rfl⟩
      intro n_7305 H locs g hI ih_7306
      obtain ⟨z_7286, z_7287, F_7288, ls, h111_0, h111_1, bF_7288, mn_7305, hP, hS, hl, rfl⟩ := hI
      refine lv_iload_n hx hb dX12_season_111 rfl (lv_at hl 0 rfl) ?_
      refine lv_aload_n hx hb dX12_season_112 rfl (lv_at hl 2 rfl) ?_
      refine g_i (rDt hD) hS hA (g_V (own := "HideReaderModel") (As := []) (rest := [.int (mI z_7286)]) hx hb hml hown hts hK hP (rDt hD) (kr_X12_cattle (l := l) (D := D) (k := k) h_x_bank b_B_beasts) ck_X12_cattle iv_X12_cattle uw_6_212 (rv_o hK hP) rfl hl.1 rfl (Nat.le_of_ble_eq_true rfl) dX12_season_113 ⟨Nat.le_of_ble_eq_true rfl, Nat.le_of_ble_eq_true rfl⟩ ⟨Nat.le_of_ble_eq_true rfl, Nat.le_of_ble_eq_true rfl⟩) (fun r_7307 H locs hQ hS => ?_)
      obtain ⟨hr_7307_0, hr_7307_1, hP⟩ := hQ
      refine sy_icmp_ge (tgt := 199) hx hb dX12_season_116 (by decide) (by omega) (by omega) (fun c_7308 => ?_) (fun c_7308 => ?_)
      · skip
        refine lv_iload_n hx hb dX12_season_199 rfl (lv_at hl 1 rfl) ?_
        exact r_i hx hb hr hlocks dX12_season_200 hS ⟨F_7288, F_4, y_5, y_6, by omega, bF_7288, bF_4, by omega, by omega, by omega, kr_3_A, hP⟩
      · skip
        refine lv_aload_n hx hb dX12_season_119 rfl (lv_at hl 2 rfl) ?_
        refine rg_o_all hx hb hts hown hK hP uw_7_66 dX12_season_120 ?_
        refine lv_bipush (v := mI 113) hx hb dX12_season_123 (by decide) ?_
        refine lv_sipush (v := mI 137) hx hb dX12_season_125 (by decide) ?_
        refine lv_aload_n hx hb dX12_season_128 rfl (lv_at hl 2 rfl) ?_
        refine rg_o_all hx hb hts hown hK hP uw_7_66 dX12_season_129 ?_
        refine lv_bipush (v := mI 113) hx hb dX12_season_132 (by decide) ?_
        refine rl_all hx hb hK hP dX12_season_134 (by omega) (bA_bd bF_7288) (fun z_7309 ez_7309 hz_7309 => ?_)
        have hz_7309 := bA_age bF_7288 (by omega) ez_7309
        refine sy_imul hx hb dX12_season_135 (137 * z_7309) rfl ?_
        refine lv_bipush (v := mI 71) hx hb dX12_season_136 (by decide) ?_
        refine sy_iadd hx hb dX12_season_138 (137 * z_7309 + 71) rfl ?_
        refine lv_sipush (v := mI 1000) hx hb dX12_season_139 (by decide) ?_
        refine sy_irem hx hb dX12_season_142 (by omega) (by omega) (fun z_7310 ez_7310 hz_7310 => ?_)
        refine rs_all hx hb hK hP hD hS dX12_season_143 (by omega) (bA_bd bF_7288) (by omega) (fun F_7311 H locs eF_7311 bF_7311 hP hS => ?_)
        have bF_7311 := bA_s999 bF_7288 eF_7311 (by omega) (by omega)
        refine lv_aload_n hx hb dX12_season_144 rfl (lv_at hl 2 rfl) ?_
        refine rg_o_all hx hb hts hown hK hP uw_7_66 dX12_season_145 ?_
        refine lv_bipush (v := mI 113) hx hb dX12_season_148 (by decide) ?_
        refine rl_all hx hb hK hP dX12_season_150 (by omega) (bA_bd bF_7311) (fun z_7312 ez_7312 hz_7312 => ?_)
        have hz_7312 := bA_age bF_7311 (by omega) ez_7312
        refine lv_bipush (v := mI 100) hx hb dX12_season_151 (by decide) ?_
        refine sy_irem hx hb dX12_season_153 (by omega) (by omega) (fun z_7313 ez_7313 hz_7313 => ?_)
        refine lv_aload_n hx hb dX12_season_154 rfl (lv_at hl 2 rfl) ?_
        refine rg_o_night hx hb hts hown hK hP uw_7_39 dX12_season_155 ?_
        refine lv_aload_n hx hb dX12_season_158 rfl (lv_at hl 2 rfl) ?_
        refine rg_o_bank hx hb hts hown hK hP uw_7_56 dX12_season_159 ?_
        refine rl_night hx hb hK hP dX12_season_162 (by omega) b_B_night (fun z_7314 _ hz_7314 => ?_)
        refine sy_icmp_lt (tgt := 169) hx hb dX12_season_163 (by decide) (by omega) (by omega) (fun c_7315 => ?_) (fun c_7315 => ?_)
        · skip
          refine lv_iload_n hx hb dX12_season_169 rfl (lv_at hl 1 rfl) ?_
          refine lv_iconst (v := mI 1) hx hb dX12_season_170 rfl ?_
          refine lv_iload_n hx hb dX12_season_171 rfl (lv_at hl 0 rfl) ?_
          refine sy_shl1 hx hb dX12_season_172 7 (by decide) 128 (by decide) (by omega) (fun z_7316 ez_7316 hz_7316 => ?_)
          refine sy_ior hx hb dX12_season_173 8 (by decide) 256 (by decide) (by omega) (by omega) (fun z_7317 hz_7317 => ?_)
          refine lv_istore_n (lv' := [(1, .int (mI z_7317)), (2, .int (mI z_7286)), (0, .ref (a 0))]) hx hb dX12_season_174 rfl hl (by decide) rfl (fun ls hl => ?_)
          refine lv_aload_n hx hb dX12_season_175 rfl (lv_at hl 2 rfl) ?_
          refine lv_iload_n hx hb dX12_season_176 rfl (lv_at hl 1 rfl) ?_
          refine lv_iconst (v := mI 1) hx hb dX12_season_177 rfl ?_
          refine lv_aload_n hx hb dX12_season_178 rfl (lv_at hl 2 rfl) ?_
          refine rg_o_all hx hb hts hown hK hP uw_7_66 dX12_season_179 ?_
          refine lv_bipush (v := mI 113) hx hb dX12_season_182 (by decide) ?_
          refine rl_all hx hb hK hP dX12_season_184 (by omega) (bA_bd bF_7311) (fun z_7318 ez_7318 hz_7318 => ?_)
          have hz_7318 := bA_age bF_7311 (by omega) ez_7318
          refine lv_bipush (v := mI 12) hx hb dX12_season_185 (by decide) ?_
          refine sy_irem hx hb dX12_season_187 (by omega) (by omega) (fun z_7319 ez_7319 hz_7319 => ?_)
          refine sy_shl1 hx hb dX12_season_188 11 (by decide) 2048 (by decide) (by omega) (fun z_7320 ez_7320 hz_7320 => ?_)
          refine g_i (rDt hD) hS hA (g_V (own := "HideReaderModel") (As := [.int (mI z_7286), .int (mI z_7320)]) (rest := []) hx hb hml hown hts hK hP (rDt hD) (kr_X12_burnIn (l := l) (D := D) (k := k) (by omega) (by omega) bF_7311) ck_X12_burnIn iv_X12_burnIn uw_9_2 (rv_o hK hP) rfl hl.1 rfl (Nat.le_of_ble_eq_true rfl) dX12_season_189 ⟨Nat.le_of_ble_eq_true rfl, Nat.le_of_ble_eq_true rfl⟩ ⟨Nat.le_of_ble_eq_true rfl, Nat.le_of_ble_eq_true rfl⟩) (fun r_7321 H locs hQ hS => ?_)
          obtain ⟨F_7322, hr_7321_0, bF_7322, hP⟩ := hQ
          refine lv_istore_n (lv' := [(3, .int (mI r_7321)), (1, .int (mI z_7317)), (2, .int (mI z_7286)), (0, .ref (a 0))]) hx hb dX12_season_192 rfl hl (by decide) rfl (fun ls hl => ?_)
          refine lv_iinc (v := mI (z_7286 + 1)) (lv' := [(2, .int (mI (z_7286 + 1))), (3, .int (mI r_7321)), (1, .int (mI z_7317)), (0, .ref (a 0))]) hx hb dX12_season_193 hl (k := 2) rfl (mI_ad rfl) (by decide) rfl (fun ls hl => ?_)
          refine lv_goto (tgt := 111) hx hb dX12_season_196 (by decide) ?_
          exact ih_7306 _ _ _ _ (by omega) ⟨(z_7286 + 1), z_7317, F_7322, _, by omega, by omega, bF_7322, rfl, hP, hS, lv_sub hl [0, 2, 3] rfl, rfl⟩
        · skip
          refine lv_goto (tgt := 193) hx hb dX12_season_166 (by decide) ?_
          refine lv_iinc (v := mI (z_7286 + 1)) (lv' := [(2, .int (mI (z_7286 + 1))), (1, .int (mI z_7287)), (0, .ref (a 0))]) hx hb dX12_season_193 hl (k := 0) rfl (mI_ad rfl) (by decide) rfl (fun ls hl => ?_)
          refine lv_goto (tgt := 111) hx hb dX12_season_196 (by decide) ?_
          exact ih_7306 _ _ _ _ (by omega) ⟨(z_7286 + 1), z_7287, F_7311, _, by omega, by omega, bF_7311, rfl, hP, hS, lv_sub hl [0, 1, 2] rfl, rfl⟩
    · skip
      refine lv_iconst (v := mI 0) hx hb dX12_season_29 rfl ?_
      refine lv_istore_n (lv' := [(2, .int (mI 0)), (1, .int (mI z_5684)), (0, .ref (a 0))]) hx hb dX12_season_30 rfl hl (by decide) rfl (fun ls hl => ?_)
      refine sy_loop (I := fun n H locs g => ∃ (z_7440 : Int) (F_7441 : Nat → Int) (ls : Array Slot), (0 ≤ z_7440 ∧ z_7440 ≤ 12) ∧ (bA F_7441) ∧ (12 - z_7440).toNat = n ∧ va_P D vwCl (rW k a x_taped x_size x_faultKind x_faultPlace x_at x_end x_token x_number x_bank x_rb x_codes x_within x_piled x_unitsInRule x_askBeast x_askStroke x_askAge x_askSeason y_5 y_6 x_laid x_seens x_time x_fitting n_name B_tape B_text B_turns B_herds B_irons B_beasts B_units B_night B_draw B_told B_brands B_ironMarks B_herdTold B_born B_ruleFrom B_ruleTo B_code B_codeNumber B_eWhat B_eSign B_pile F_7441 B_burned F_4 B_need B_laidRow B_long8 B_brings B_sBurning B_sStroke B_sIs B_sTold B_sUntold B_parts B_boxAll B_isBoxed G_hName G_iName G_bName ex) H ∧ va_S A s.heap H locs ∧ lv_has ls 4 [(2, .int (mI z_7440)), (1, .int (mI z_5684)), (0, .ref (a 0))] ∧ g = F0 m 31 ls []) ?_ _ ⟨0, F_5685, _, by omega, bF_5685, rfl, hP, hS, lv_sub hl [0, 1, 2] rfl, rfl⟩
      intro n_7457 H locs g hI ih_7458
      obtain ⟨z_7440, F_7441, ls, h31_0, bF_7441, mn_7457, hP, hS, hl, rfl⟩ := hI
      refine lv_iload_n hx hb dX12_season_31 rfl (lv_at hl 0 rfl) ?_
      refine lv_bipush (v := mI 12) hx hb dX12_season_32 (by decide) ?_
      refine sy_icmp_ge (tgt := 90) hx hb dX12_season_34 (by decide) (by omega) (by decide) (fun c_7459 => ?_) (fun c_7459 => ?_)
      · skip
        refine lv_iinc (v := mI (z_5684 + 1)) (lv' := [(1, .int (mI (z_5684 + 1))), (2, .int (mI z_7440)), (0, .ref (a 0))]) hx hb dX12_season_90 hl (k := 1) rfl (mI_ad rfl) (by decide) rfl (fun ls hl => ?_)
        refine lv_goto (tgt := 21) hx hb dX12_season_93 (by decide) ?_
        exact ih_6580 _ _ _ _ (by omega) ⟨(z_5684 + 1), F_7441, _, by omega, bF_7441, rfl, hP, hS, lv_sub hl [0, 2] rfl, rfl⟩
      · skip
        refine lv_aload_n hx hb dX12_season_37 rfl (lv_at hl 2 rfl) ?_
        refine rg_o_all hx hb hts hown hK hP uw_7_66 dX12_season_38 ?_
        refine lv_iconst (v := mI 0) hx hb dX12_season_41 rfl ?_
        refine lv_iload_n hx hb dX12_season_42 rfl (lv_at hl 1 rfl) ?_
        refine sy_iadd hx hb dX12_season_43 z_5684 (by omega) ?_
        refine rl_all hx hb hK hP dX12_season_44 (by omega) (bA_bd bF_7441) (fun z_7460 ez_7460 hz_7460 => ?_)
        have hz_7460 := bA_hid bF_7441 (by omega) ez_7460
        refine lv_iload_n hx hb dX12_season_45 rfl (lv_at hl 0 rfl) ?_
        refine g_i (rDt hD) hS hA (g_S (own := "HideReaderModel") (As := [.int (mI z_7460), .int (mI z_7440)]) (rest := []) hx hb hml hown hts hK hP (rDt hD) (kr_bit (l := l) (D := D) (k := k)) ck_X12_bit uw_6_229 uw_6_228 rfl hl.1 rfl (Nat.le_of_ble_eq_true rfl) dX12_season_46 ⟨Nat.le_of_ble_eq_true rfl, Nat.le_of_ble_eq_true rfl⟩ ⟨Nat.le_of_ble_eq_true rfl, Nat.le_of_ble_eq_true rfl⟩) (fun r_7461 H locs hQ hS => ?_)
        obtain ⟨hq_r_7461, hP⟩ := hQ
        rcases hq_r_7461 with ⟨rfl, c_7462_0⟩ | ⟨rfl, c_7463_0⟩
        · skip
          refine sy_if_eq (tgt := 84) hx hb dX12_season_49 (by decide) (by decide) (fun c9 => absurd c9 (by decide)) (fun c_7464 => ?_)
          refine lv_aload_n hx hb dX12_season_52 rfl (lv_at hl 2 rfl) ?_
          refine rg_o_all hx hb hts hown hK hP uw_7_66 dX12_season_53 ?_
          refine lv_aload_n hx hb dX12_season_56 rfl (lv_at hl 2 rfl) ?_
          refine lv_iload_n hx hb dX12_season_57 rfl (lv_at hl 1 rfl) ?_
          refine lv_iload_n hx hb dX12_season_58 rfl (lv_at hl 0 rfl) ?_
          refine g_i (rDt hD) hS hA (g_V (own := "HideReaderModel") (As := [.int (mI z_5684), .int (mI z_7440)]) (rest := [.ref (a 25)]) hx hb hml hown hts hK hP (rDt hD) (kr_X12_slot (l := l) (D := D) (k := k) (by omega) (by omega)) ck_X12_slot iv_X12_slot uw_6_224 (rv_o hK hP) rfl hl.1 rfl (Nat.le_of_ble_eq_true rfl) dX12_season_59 ⟨Nat.le_of_ble_eq_true rfl, Nat.le_of_ble_eq_true rfl⟩ ⟨Nat.le_of_ble_eq_true rfl, Nat.le_of_ble_eq_true rfl⟩) (fun r_7465 H locs hQ hS => ?_)
          obtain ⟨hq_r_7465, hP⟩ := hQ
          obtain rfl := hq_r_7465
          refine rl_all hx hb hK hP dX12_season_62 (by omega) (bA_bd bF_7441) (fun z_7467 ez_7467 hz_7467 => ?_)
          have hz_7467 := bA_age bF_7441 (by omega) ez_7467
          refine lv_sipush (v := mI 999) hx hb dX12_season_63 (by decide) ?_
          refine sy_icmp_ge (tgt := 84) hx hb dX12_season_66 (by decide) (by omega) (by decide) (fun c_7468 => ?_) (fun c_7468 => ?_)
          · skip
            refine lv_iinc (v := mI (z_7440 + 1)) (lv' := [(2, .int (mI (z_7440 + 1))), (1, .int (mI z_5684)), (0, .ref (a 0))]) hx hb dX12_season_84 hl (k := 0) rfl (mI_ad rfl) (by decide) rfl (fun ls hl => ?_)
            refine lv_goto (tgt := 31) hx hb dX12_season_87 (by decide) ?_
            exact ih_7458 _ _ _ _ (by omega) ⟨(z_7440 + 1), F_7441, _, by omega, bF_7441, rfl, hP, hS, lv_sub hl [0, 1, 2] rfl, rfl⟩
          · skip
            refine lv_aload_n hx hb dX12_season_69 rfl (lv_at hl 2 rfl) ?_
            refine rg_o_all hx hb hts hown hK hP uw_7_66 dX12_season_70 ?_
            refine lv_aload_n hx hb dX12_season_73 rfl (lv_at hl 2 rfl) ?_
            refine lv_iload_n hx hb dX12_season_74 rfl (lv_at hl 1 rfl) ?_
            refine lv_iload_n hx hb dX12_season_75 rfl (lv_at hl 0 rfl) ?_
            refine g_i (rDt hD) hS hA (g_V (own := "HideReaderModel") (As := [.int (mI z_5684), .int (mI z_7440)]) (rest := [.ref (a 25)]) hx hb hml hown hts hK hP (rDt hD) (kr_X12_slot (l := l) (D := D) (k := k) (by omega) (by omega)) ck_X12_slot iv_X12_slot uw_6_224 (rv_o hK hP) rfl hl.1 rfl (Nat.le_of_ble_eq_true rfl) dX12_season_76 ⟨Nat.le_of_ble_eq_true rfl, Nat.le_of_ble_eq_true rfl⟩ ⟨Nat.le_of_ble_eq_true rfl, Nat.le_of_ble_eq_true rfl⟩) (fun r_7469 H locs hQ hS => ?_)
            obtain ⟨hq_r_7469, hP⟩ := hQ
            obtain rfl := hq_r_7469
            refine lv_dup2_11 hx hb dX12_season_79 rfl rfl ?_
            refine rl_all hx hb hK hP dX12_season_80 (by omega) (bA_bd bF_7441) (fun z_7471 ez_7471 hz_7471 => ?_)
            have hz_7471 := bA_age bF_7441 (by omega) ez_7471
            refine lv_iconst (v := mI 1) hx hb dX12_season_81 rfl ?_
            refine sy_iadd hx hb dX12_season_82 (z_7471 + 1) rfl ?_
            refine rs_all hx hb hK hP hD hS dX12_season_83 (by omega) (bA_bd bF_7441) (by omega) (fun F_7472 H locs eF_7472 bF_7472 hP hS => ?_)
            have bF_7472 := bA_s999 bF_7441 eF_7472 (by omega) (by omega)
            refine lv_iinc (v := mI (z_7440 + 1)) (lv' := [(2, .int (mI (z_7440 + 1))), (1, .int (mI z_5684)), (0, .ref (a 0))]) hx hb dX12_season_84 hl (k := 0) rfl (mI_ad rfl) (by decide) rfl (fun ls hl => ?_)
            refine lv_goto (tgt := 31) hx hb dX12_season_87 (by decide) ?_
            exact ih_7458 _ _ _ _ (by omega) ⟨(z_7440 + 1), F_7472, _, by omega, bF_7472, rfl, hP, hS, lv_sub hl [0, 1, 2] rfl, rfl⟩
        · skip
          refine sy_if_eq (tgt := 84) hx hb dX12_season_49 (by decide) (by decide) (fun c_7473 => ?_) (fun c9 => absurd c9 (by decide))
          refine lv_iinc (v := mI (z_7440 + 1)) (lv' := [(2, .int (mI (z_7440 + 1))), (1, .int (mI z_5684)), (0, .ref (a 0))]) hx hb dX12_season_84 hl (k := 0) rfl (mI_ad rfl) (by decide) rfl (fun ls hl => ?_)
          refine lv_goto (tgt := 31) hx hb dX12_season_87 (by decide) ?_
          exact ih_7458 _ _ _ _ (by omega) ⟨(z_7440 + 1), F_7441, _, by omega, bF_7441, rfl, hP, hS, lv_sub hl [0, 1, 2] rfl, rfl⟩
  · skip
    refine lv_iconst (v := mI (-1)) hx hb dX12_season_13 rfl ?_
    exact r_i hx hb hr hlocks dX12_season_14 hS ⟨B_all, B_was, x_acts, x_undone, by omega, b_B_all, b_B_was, by omega, by omega, by omega, g_A, hP⟩
set_option maxHeartbeats 4000000 in
set_option maxRecDepth 100000 in
theorem kr_X12_raid {p0 p1 : Int} (hp0 : -2147483648 ≤ p0 ∧ p0 ≤ 2147483647) (hp1 : -2147483648 ≤ p1 ∧ p1 ≤ 2147483647) (h_x_bank : 0 ≤ x_bank ∧ x_bank ≤ 1) (b_B_turns : bd (0) 4 B_turns) (b_B_herds : bd (0) 8 B_herds) (b_B_irons : bd (0) 6 B_irons) (b_B_beasts : bd (0) 8 B_beasts) (b_B_told : bd (0) 31 B_told) (b_B_brands : bd (0) 4095 B_brands) (b_B_all : bA B_all) (b_B_burned : bd (0) 4095 B_burned) (b_B_need : bd (0) 100 B_need) (b_B_laidRow : bd (0) 47 B_laidRow) (b_B_brings : bd (-2147483648) 2147483647 B_brings) (g_R : 1 ≤ B_turns x_bank.toNat ∧ ¬ B_turns x_bank.toNat = 3) : MetG l D k yX12_raid cX12_raid 5 (some .int) 6 [.ref (a 0), .int (mI p0), .int (mI p1)] (rW k a x_taped x_size x_faultKind x_faultPlace x_at x_end x_token x_number x_bank x_rb x_codes x_within x_piled x_unitsInRule x_askBeast x_askStroke x_askAge x_askSeason x_acts x_undone x_laid x_seens x_time x_fitting n_name B_tape B_text B_turns B_herds B_irons B_beasts B_units B_night B_draw B_told B_brands B_ironMarks B_herdTold B_born B_ruleFrom B_ruleTo B_code B_codeNumber B_eWhat B_eSign B_pile B_all B_burned B_was B_need B_laidRow B_long8 B_brings B_sBurning B_sStroke B_sIs B_sTold B_sUntold B_parts B_boxAll B_isBoxed G_hName G_iName G_bName ex) (qGi (fun r0 H => ∃ (F_need : Nat → Int) (F_laidRow : Nat → Int) (y_laid : Int) (F_brings : Nat → Int), (-1 ≤ r0 ∧ r0 ≤ 64) ∧ (bd (0) 100 F_need) ∧ (bd (0) 47 F_laidRow) ∧ (0 ≤ y_laid ∧ y_laid ≤ 2) ∧ (bd (-2147483648) 2147483647 F_brings) ∧ va_P D vwCl (rW k a x_taped x_size x_faultKind x_faultPlace x_at x_end x_token x_number x_bank x_rb x_codes x_within x_piled x_unitsInRule x_askBeast x_askStroke x_askAge x_askSeason x_acts x_undone y_laid x_seens x_time x_fitting n_name B_tape B_text B_turns B_herds B_irons B_beasts B_units B_night B_draw B_told B_brands B_ironMarks B_herdTold B_born B_ruleFrom B_ruleTo B_code B_codeNumber B_eWhat B_eSign B_pile B_all B_burned B_was F_need F_laidRow B_long8 F_brings B_sBurning B_sStroke B_sIs B_sTold B_sUntold B_parts B_boxAll B_isBoxed G_hName G_iName G_bName ex) H)) := by
  refine metG_of 2 ck_X12_raid (Nat.le_of_ble_eq_true rfl) rMap (fun p e s m args below meth c A hx hb hml hr hlocks hown hts hK hD hA hP hS ls hl => ?_)
  have hown : s.vm.findClass "HideReaderModel" = some m.cls := hown
  have hl : lv_has ls 5 [(0, .ref (a 0)), (1, .int (mI p0)), (2, .int (mI p1))] := hl
  refine lv_aload_n hx hb dX12_raid_0 rfl (lv_at hl 0 rfl) ?_
  refine lv_iconst (v := mI 0) hx hb dX12_raid_1 rfl ?_
  refine rp_o_laid hx hb hts hown hK hP hD hS uw_7_73 dX12_raid_2 (fun H locs hP hS => ?_)
  refine lv_aload_n hx hb dX12_raid_5 rfl (lv_at hl 0 rfl) ?_
  refine lv_iload_n hx hb dX12_raid_6 rfl (lv_at hl 1 rfl) ?_
  refine g_i (rDt hD) hS hA (g_V (own := "HideReaderModel") (As := [.int (mI p0)]) (rest := []) hx hb hml hown hts hK hP (rDt hD) (kr_X12_isHerd (l := l) (D := D) (k := k) (by omega) h_x_bank b_B_herds) ck_X12_isHerd iv_X12_isHerd uw_8_122 (rv_o hK hP) rfl hl.1 rfl (Nat.le_of_ble_eq_true rfl) dX12_raid_7 ⟨Nat.le_of_ble_eq_true rfl, Nat.le_of_ble_eq_true rfl⟩ ⟨Nat.le_of_ble_eq_true rfl, Nat.le_of_ble_eq_true rfl⟩) (fun r_1 H locs hQ hS => ?_)
  obtain ⟨hq_r_1, hP⟩ := hQ
  rcases hq_r_1 with rfl | ⟨rfl, c_3_0⟩
  · skip
    refine sy_if_eq (tgt := 33) hx hb dX12_raid_10 (by decide) (by decide) (fun c_4 => ?_) (fun c9 => absurd c9 (by decide))
    refine lv_iconst (v := mI (-1)) hx hb dX12_raid_33 rfl ?_
    exact r_i hx hb hr hlocks dX12_raid_34 hS ⟨B_need, B_laidRow, 0, B_brings, by omega, b_B_need, b_B_laidRow, by omega, b_B_brings, hP⟩
  · skip
    refine sy_if_eq (tgt := 33) hx hb dX12_raid_10 (by decide) (by decide) (fun c9 => absurd c9 (by decide)) (fun c_5 => ?_)
    refine lv_aload_n hx hb dX12_raid_13 rfl (lv_at hl 0 rfl) ?_
    refine lv_iload_n hx hb dX12_raid_14 rfl (lv_at hl 2 rfl) ?_
    refine g_i (rDt hD) hS hA (g_V (own := "HideReaderModel") (As := [.int (mI p1)]) (rest := []) hx hb hml hown hts hK hP (rDt hD) (kr_X12_isHerd (l := l) (D := D) (k := k) (by omega) h_x_bank b_B_herds) ck_X12_isHerd iv_X12_isHerd uw_8_122 (rv_o hK hP) rfl hl.1 rfl (Nat.le_of_ble_eq_true rfl) dX12_raid_15 ⟨Nat.le_of_ble_eq_true rfl, Nat.le_of_ble_eq_true rfl⟩ ⟨Nat.le_of_ble_eq_true rfl, Nat.le_of_ble_eq_true rfl⟩) (fun r_6 H locs hQ hS => ?_)
    obtain ⟨hq_r_6, hP⟩ := hQ
    rcases hq_r_6 with rfl | ⟨rfl, c_8_0⟩
    · skip
      refine sy_if_eq (tgt := 33) hx hb dX12_raid_18 (by decide) (by decide) (fun c_9 => ?_) (fun c9 => absurd c9 (by decide))
      refine lv_iconst (v := mI (-1)) hx hb dX12_raid_33 rfl ?_
      exact r_i hx hb hr hlocks dX12_raid_34 hS ⟨B_need, B_laidRow, 0, B_brings, by omega, b_B_need, b_B_laidRow, by omega, b_B_brings, hP⟩
    · skip
      refine sy_if_eq (tgt := 33) hx hb dX12_raid_18 (by decide) (by decide) (fun c9 => absurd c9 (by decide)) (fun c_10 => ?_)
      refine lv_iload_n hx hb dX12_raid_21 rfl (lv_at hl 1 rfl) ?_
      refine lv_iload_n hx hb dX12_raid_22 rfl (lv_at hl 2 rfl) ?_
      refine sy_icmp_eq (tgt := 33) hx hb dX12_raid_23 (by decide) (by omega) (by omega) (fun c_11 => ?_) (fun c_11 => ?_)
      · skip
        refine lv_iconst (v := mI (-1)) hx hb dX12_raid_33 rfl ?_
        exact r_i hx hb hr hlocks dX12_raid_34 hS ⟨B_need, B_laidRow, 0, B_brings, by omega, b_B_need, b_B_laidRow, by omega, b_B_brings, hP⟩
      · skip
        refine lv_aload_n hx hb dX12_raid_26 rfl (lv_at hl 0 rfl) ?_
        refine g_i (rDt hD) hS hA (g_V (own := "HideReaderModel") (As := []) (rest := []) hx hb hml hown hts hK hP (rDt hD) (kr_X12_cattle (l := l) (D := D) (k := k) h_x_bank b_B_beasts) ck_X12_cattle iv_X12_cattle uw_6_212 (rv_o hK hP) rfl hl.1 rfl (Nat.le_of_ble_eq_true rfl) dX12_raid_27 ⟨Nat.le_of_ble_eq_true rfl, Nat.le_of_ble_eq_true rfl⟩ ⟨Nat.le_of_ble_eq_true rfl, Nat.le_of_ble_eq_true rfl⟩) (fun r_12 H locs hQ hS => ?_)
        obtain ⟨hr_12_0, hr_12_1, hP⟩ := hQ
        refine sy_if_ne (tgt := 35) hx hb dX12_raid_30 (by decide) (by omega) (fun c_13 => ?_) (fun c_13 => ?_)
        · skip
          refine lv_aload_n hx hb dX12_raid_35 rfl (lv_at hl 0 rfl) ?_
          refine lv_iconst (v := mI 0) hx hb dX12_raid_36 rfl ?_
          refine lv_iload_n hx hb dX12_raid_37 rfl (lv_at hl 1 rfl) ?_
          refine g_v (rDt hD) hS hA (g_V (own := "HideReaderModel") (As := [.int (mI 0), .int (mI p0)]) (rest := []) hx hb hml hown hts hK hP (rDt hD) (kr_X12_layBrings (l := l) (D := D) (k := k) (by decide) (by omega) h_x_bank b_B_turns b_B_irons b_B_beasts b_B_told b_B_brands b_B_all b_B_burned b_B_need b_B_brings g_R) ck_X12_layBrings iv_X12_layBrings uw_9_134 (rv_o hK hP) rfl hl.1 rfl (Nat.le_of_ble_eq_true rfl) dX12_raid_38 ⟨Nat.le_of_ble_eq_true rfl, Nat.le_of_ble_eq_true rfl⟩ ⟨Nat.le_of_ble_eq_true rfl, Nat.le_of_ble_eq_true rfl⟩) (fun H locs hQ hS => ?_)
          obtain ⟨F_15, F_16, bF_15, bF_16, hP⟩ := hQ
          refine lv_aload_n hx hb dX12_raid_41 rfl (lv_at hl 0 rfl) ?_
          refine lv_iconst (v := mI 1) hx hb dX12_raid_42 rfl ?_
          refine lv_iload_n hx hb dX12_raid_43 rfl (lv_at hl 2 rfl) ?_
          refine g_v (rDt hD) hS hA (g_V (own := "HideReaderModel") (As := [.int (mI 1), .int (mI p1)]) (rest := []) hx hb hml hown hts hK hP (rDt hD) (kr_X12_layBrings (l := l) (D := D) (k := k) (by decide) (by omega) h_x_bank b_B_turns b_B_irons b_B_beasts b_B_told b_B_brands b_B_all b_B_burned bF_15 bF_16 g_R) ck_X12_layBrings iv_X12_layBrings uw_9_134 (rv_o hK hP) rfl hl.1 rfl (Nat.le_of_ble_eq_true rfl) dX12_raid_44 ⟨Nat.le_of_ble_eq_true rfl, Nat.le_of_ble_eq_true rfl⟩ ⟨Nat.le_of_ble_eq_true rfl, Nat.le_of_ble_eq_true rfl⟩) (fun H locs hQ hS => ?_)
          obtain ⟨F_18, F_19, bF_18, bF_19, hP⟩ := hQ
          refine lv_iconst (v := mI 0) hx hb dX12_raid_47 rfl ?_
          refine lv_istore_n (lv' := [(3, .int (mI 0)), (0, .ref (a 0)), (1, .int (mI p0)), (2, .int (mI p1))]) hx hb dX12_raid_48 rfl hl (by decide) rfl (fun ls hl => ?_)
          refine lv_iconst (v := mI 0) hx hb dX12_raid_49 rfl ?_
          refine lv_istore (lv' := [(4, .int (mI 0)), (3, .int (mI 0)), (0, .ref (a 0)), (1, .int (mI p0)), (2, .int (mI p1))]) hx hb dX12_raid_50 hl (by decide) rfl (fun ls hl => ?_)
          refine sy_loop (I := fun n H locs g => ∃ (z_269 : Int) (z_270 : Int) (F_271 : Nat → Int) (y_272 : Int) (ls : Array Slot), (0 ≤ z_269 ∧ z_269 ≤ 64) ∧ (0 ≤ z_270 ∧ z_270 ≤ 64) ∧ (bd (0) 47 F_271) ∧ (0 ≤ y_272 ∧ y_272 ≤ 2) ∧ (0 ≤ z_269 - z_270) ∧ (64 - z_269).toNat = n ∧ va_P D vwCl (rW k a x_taped x_size x_faultKind x_faultPlace x_at x_end x_token x_number x_bank x_rb x_codes x_within x_piled x_unitsInRule x_askBeast x_askStroke x_askAge x_askSeason x_acts x_undone y_272 x_seens x_time x_fitting n_name B_tape B_text B_turns B_herds B_irons B_beasts B_units B_night B_draw B_told B_brands B_ironMarks B_herdTold B_born B_ruleFrom B_ruleTo B_code B_codeNumber B_eWhat B_eSign B_pile B_all B_burned B_was F_18 F_271 B_long8 F_19 B_sBurning B_sStroke B_sIs B_sTold B_sUntold B_parts B_boxAll B_isBoxed G_hName G_iName G_bName ex) H ∧ va_S A s.heap H locs ∧ lv_has ls 5 [(4, .int (mI z_269)), (3, .int (mI z_270)), (0, .ref (a 0)), (1, .int (mI p0)), (2, .int (mI p1))] ∧ g = F0 m 52 ls []) ?_ _ ⟨0, 0, B_laidRow, 0, _, by omega, by omega, b_B_laidRow, by omega, by omega, rfl, hP, hS, lv_sub hl [0, 1, 2, 3, 4] rfl, rfl⟩
          intro n_292 H locs g hI ih_293
          obtain ⟨z_269, z_270, F_271, y_272, ls, h52_0, h52_1, bF_271, h52_3, h52_4, mn_292, hP, hS, hl, rfl⟩ := hI
          refine lv_iload hx hb dX12_raid_52 (lv_at hl 0 rfl) ?_
          refine lv_aload_n hx hb dX12_raid_54 rfl (lv_at hl 2 rfl) ?_
          refine g_i (rDt hD) hS hA (g_V (own := "HideReaderModel") (As := []) (rest := [.int (mI z_269)]) hx hb hml hown hts hK hP (rDt hD) (kr_X12_cattle (l := l) (D := D) (k := k) h_x_bank b_B_beasts) ck_X12_cattle iv_X12_cattle uw_6_212 (rv_o hK hP) rfl hl.1 rfl (Nat.le_of_ble_eq_true rfl) dX12_raid_55 ⟨Nat.le_of_ble_eq_true rfl, Nat.le_of_ble_eq_true rfl⟩ ⟨Nat.le_of_ble_eq_true rfl, Nat.le_of_ble_eq_true rfl⟩) (fun r_294 H locs hQ hS => ?_)
          obtain ⟨hr_294_0, hr_294_1, hP⟩ := hQ
          refine lv_aload_n hx hb dX12_raid_58 rfl (lv_at hl 2 rfl) ?_
          refine g_i (rDt hD) hS hA (g_V (own := "HideReaderModel") (As := []) (rest := [.int (mI r_294), .int (mI z_269)]) hx hb hml hown hts hK hP (rDt hD) (kr_X12_cattle (l := l) (D := D) (k := k) h_x_bank b_B_beasts) ck_X12_cattle iv_X12_cattle uw_6_212 (rv_o hK hP) rfl hl.1 rfl (Nat.le_of_ble_eq_true rfl) dX12_raid_59 ⟨Nat.le_of_ble_eq_true rfl, Nat.le_of_ble_eq_true rfl⟩ ⟨Nat.le_of_ble_eq_true rfl, Nat.le_of_ble_eq_true rfl⟩) (fun r_295 H locs hQ hS => ?_)
          obtain ⟨hr_295_0, hr_295_1, hP⟩ := hQ
          refine sy_imulB (A := 8) (B := 8) hx hb dX12_raid_62 64 (by decide) (by omega) (by omega) (fun z_296 ez_296 hz_296 => ?_)
          refine sy_icmp_ge (tgt := 134) hx hb dX12_raid_63 (by decide) (by omega) (by omega) (fun c_297 => ?_) (fun c_297 => ?_)
          · skip
            refine lv_iload_n hx hb dX12_raid_134 rfl (lv_at hl 1 rfl) ?_
            exact r_i hx hb hr hlocks dX12_raid_135 hS ⟨F_18, F_271, y_272, F_19, by omega, bF_18, bF_271, by omega, bF_19, hP⟩
          · skip
            refine lv_aload_n hx hb dX12_raid_66 rfl (lv_at hl 2 rfl) ?_
            refine lv_iload hx hb dX12_raid_67 (lv_at hl 0 rfl) ?_
            refine lv_aload_n hx hb dX12_raid_69 rfl (lv_at hl 2 rfl) ?_
            refine g_i (rDt hD) hS hA (g_V (own := "HideReaderModel") (As := []) (rest := [.int (mI z_269), .ref (a 0)]) hx hb hml hown hts hK hP (rDt hD) (kr_X12_cattle (l := l) (D := D) (k := k) h_x_bank b_B_beasts) ck_X12_cattle iv_X12_cattle uw_6_212 (rv_o hK hP) rfl hl.1 rfl (Nat.le_of_ble_eq_true rfl) dX12_raid_70 ⟨Nat.le_of_ble_eq_true rfl, Nat.le_of_ble_eq_true rfl⟩ ⟨Nat.le_of_ble_eq_true rfl, Nat.le_of_ble_eq_true rfl⟩) (fun r_298 H locs hQ hS => ?_)
            obtain ⟨hr_298_0, hr_298_1, hP⟩ := hQ
            refine sy_idiv hx hb dX12_raid_73 (by omega) (by omega) (fun z_299 ez_299 hz_299 => ?_)
            have h_300 := dv_lt ez_296 (by omega) (by omega) (by omega) ez_299
            refine lv_iload hx hb dX12_raid_74 (lv_at hl 0 rfl) ?_
            refine lv_aload_n hx hb dX12_raid_76 rfl (lv_at hl 2 rfl) ?_
            refine g_i (rDt hD) hS hA (g_V (own := "HideReaderModel") (As := []) (rest := [.int (mI z_269), .int (mI z_299), .ref (a 0)]) hx hb hml hown hts hK hP (rDt hD) (kr_X12_cattle (l := l) (D := D) (k := k) h_x_bank b_B_beasts) ck_X12_cattle iv_X12_cattle uw_6_212 (rv_o hK hP) rfl hl.1 rfl (Nat.le_of_ble_eq_true rfl) dX12_raid_77 ⟨Nat.le_of_ble_eq_true rfl, Nat.le_of_ble_eq_true rfl⟩ ⟨Nat.le_of_ble_eq_true rfl, Nat.le_of_ble_eq_true rfl⟩) (fun r_301 H locs hQ hS => ?_)
            obtain ⟨hr_301_0, hr_301_1, hP⟩ := hQ
            refine sy_irem hx hb dX12_raid_80 (by omega) (by omega) (fun z_302 ez_302 hz_302 => ?_)
            refine g_i (rDt hD) hS hA (g_V (own := "HideReaderModel") (As := [.int (mI z_299), .int (mI z_302)]) (rest := []) hx hb hml hown hts hK hP (rDt hD) (kr_X12_isRest (l := l) (D := D) (k := k) (by omega) (by omega) h_x_bank b_B_beasts bF_19) ck_X12_isRest iv_X12_isRest uw_9_138 (rv_o hK hP) rfl hl.1 rfl (Nat.le_of_ble_eq_true rfl) dX12_raid_81 ⟨Nat.le_of_ble_eq_true rfl, Nat.le_of_ble_eq_true rfl⟩ ⟨Nat.le_of_ble_eq_true rfl, Nat.le_of_ble_eq_true rfl⟩) (fun r_303 H locs hQ hS => ?_)
            obtain ⟨hr_303_0, hP⟩ := hQ
            refine sy_if_ne (tgt := 90) hx hb dX12_raid_84 (by decide) (by omega) (fun c_304 => ?_) (fun c_304 => ?_)
            · skip
              refine lv_iload_n hx hb dX12_raid_90 rfl (lv_at hl 1 rfl) ?_
              refine sy_if_ne (tgt := 125) hx hb dX12_raid_91 (by decide) (by omega) (fun c_305 => ?_) (fun c_305 => ?_)
              · skip
                refine lv_iinc (v := mI (z_270 + 1)) (lv' := [(3, .int (mI (z_270 + 1))), (4, .int (mI z_269)), (0, .ref (a 0)), (1, .int (mI p0)), (2, .int (mI p1))]) hx hb dX12_raid_125 hl (k := 1) rfl (mI_ad rfl) (by decide) rfl (fun ls hl => ?_)
                refine lv_iinc (v := mI (z_269 + 1)) (lv' := [(4, .int (mI (z_269 + 1))), (3, .int (mI (z_270 + 1))), (0, .ref (a 0)), (1, .int (mI p0)), (2, .int (mI p1))]) hx hb dX12_raid_128 hl (k := 1) rfl (mI_ad rfl) (by decide) rfl (fun ls hl => ?_)
                refine lv_goto (tgt := 52) hx hb dX12_raid_131 (by decide) ?_
                exact ih_293 _ _ _ _ (by omega) ⟨(z_269 + 1), (z_270 + 1), F_271, y_272, _, by omega, by omega, bF_271, by omega, by omega, rfl, hP, hS, lv_sub hl [0, 1, 2, 3, 4] rfl, rfl⟩
              · skip
                refine lv_aload_n hx hb dX12_raid_94 rfl (lv_at hl 2 rfl) ?_
                refine rg_o_laidRow hx hb hts hown hK hP uw_7_72 dX12_raid_95 ?_
                refine lv_iconst (v := mI 0) hx hb dX12_raid_98 rfl ?_
                refine lv_iload hx hb dX12_raid_99 (lv_at hl 0 rfl) ?_
                refine lv_aload_n hx hb dX12_raid_101 rfl (lv_at hl 2 rfl) ?_
                refine g_i (rDt hD) hS hA (g_V (own := "HideReaderModel") (As := []) (rest := [.int (mI z_269), .int (mI 0), .ref (a 29)]) hx hb hml hown hts hK hP (rDt hD) (kr_X12_cattle (l := l) (D := D) (k := k) h_x_bank b_B_beasts) ck_X12_cattle iv_X12_cattle uw_6_212 (rv_o hK hP) rfl hl.1 rfl (Nat.le_of_ble_eq_true rfl) dX12_raid_102 ⟨Nat.le_of_ble_eq_true rfl, Nat.le_of_ble_eq_true rfl⟩ ⟨Nat.le_of_ble_eq_true rfl, Nat.le_of_ble_eq_true rfl⟩) (fun r_306 H locs hQ hS => ?_)
                obtain ⟨hr_306_0, hr_306_1, hP⟩ := hQ
                refine sy_idiv hx hb dX12_raid_105 (by omega) (by omega) (fun z_307 ez_307 hz_307 => ?_)
                have h_308 := dv_lt ez_296 (by omega) (by omega) (by omega) ez_307
                refine rs_laidRow hx hb hK hP hD hS dX12_raid_106 (by omega) bF_271 (by omega) (fun F_309 H locs _ bF_309 hP hS => ?_)
                refine lv_aload_n hx hb dX12_raid_107 rfl (lv_at hl 2 rfl) ?_
                refine rg_o_laidRow hx hb hts hown hK hP uw_7_72 dX12_raid_108 ?_
                refine lv_iconst (v := mI 1) hx hb dX12_raid_111 rfl ?_
                refine lv_iload hx hb dX12_raid_112 (lv_at hl 0 rfl) ?_
                refine lv_aload_n hx hb dX12_raid_114 rfl (lv_at hl 2 rfl) ?_
                refine g_i (rDt hD) hS hA (g_V (own := "HideReaderModel") (As := []) (rest := [.int (mI z_269), .int (mI 1), .ref (a 29)]) hx hb hml hown hts hK hP (rDt hD) (kr_X12_cattle (l := l) (D := D) (k := k) h_x_bank b_B_beasts) ck_X12_cattle iv_X12_cattle uw_6_212 (rv_o hK hP) rfl hl.1 rfl (Nat.le_of_ble_eq_true rfl) dX12_raid_115 ⟨Nat.le_of_ble_eq_true rfl, Nat.le_of_ble_eq_true rfl⟩ ⟨Nat.le_of_ble_eq_true rfl, Nat.le_of_ble_eq_true rfl⟩) (fun r_310 H locs hQ hS => ?_)
                obtain ⟨hr_310_0, hr_310_1, hP⟩ := hQ
                refine sy_irem hx hb dX12_raid_118 (by omega) (by omega) (fun z_311 ez_311 hz_311 => ?_)
                refine rs_laidRow hx hb hK hP hD hS dX12_raid_119 (by omega) bF_309 (by omega) (fun F_312 H locs _ bF_312 hP hS => ?_)
                refine lv_aload_n hx hb dX12_raid_120 rfl (lv_at hl 2 rfl) ?_
                refine lv_iconst (v := mI 2) hx hb dX12_raid_121 rfl ?_
                refine rp_o_laid hx hb hts hown hK hP hD hS uw_7_73 dX12_raid_122 (fun H locs hP hS => ?_)
                refine lv_iinc (v := mI (z_270 + 1)) (lv' := [(3, .int (mI (z_270 + 1))), (4, .int (mI z_269)), (0, .ref (a 0)), (1, .int (mI p0)), (2, .int (mI p1))]) hx hb dX12_raid_125 hl (k := 1) rfl (mI_ad rfl) (by decide) rfl (fun ls hl => ?_)
                refine lv_iinc (v := mI (z_269 + 1)) (lv' := [(4, .int (mI (z_269 + 1))), (3, .int (mI (z_270 + 1))), (0, .ref (a 0)), (1, .int (mI p0)), (2, .int (mI p1))]) hx hb dX12_raid_128 hl (k := 1) rfl (mI_ad rfl) (by decide) rfl (fun ls hl => ?_)
                refine lv_goto (tgt := 52) hx hb dX12_raid_131 (by decide) ?_
                exact ih_293 _ _ _ _ (by omega) ⟨(z_269 + 1), (z_270 + 1), F_312, 2, _, by omega, by omega, bF_312, by omega, by omega, rfl, hP, hS, lv_sub hl [0, 1, 2, 3, 4] rfl, rfl⟩
            · skip
              refine lv_goto (tgt := 128) hx hb dX12_raid_87 (by decide) ?_
              refine lv_iinc (v := mI (z_269 + 1)) (lv' := [(4, .int (mI (z_269 + 1))), (3, .int (mI z_270)), (0, .ref (a 0)), (1, .int (mI p0)), (2, .int (mI p1))]) hx hb dX12_raid_128 hl (k := 0) rfl (mI_ad rfl) (by decide) rfl (fun ls hl => ?_)
              refine lv_goto (tgt := 52) hx hb dX12_raid_131 (by decide) ?_
              exact ih_293 _ _ _ _ (by omega) ⟨(z_269 + 1), z_270, F_271, y_272, _, by omega, by omega, bF_271, by omega, by omega, rfl, hP, hS, lv_sub hl [0, 1, 2, 3, 4] rfl, rfl⟩
        · skip
          refine lv_iconst (v := mI (-1)) hx hb dX12_raid_33 rfl ?_
          exact r_i hx hb hr hlocks dX12_raid_34 hS ⟨B_need, B_laidRow, 0, B_brings, by omega, b_B_need, b_B_laidRow, by omega, b_B_brings, hP⟩
set_option maxHeartbeats 4000000 in
set_option maxRecDepth 100000 in
theorem kr_X12_layRows {p0 : Int} (hp0 : -2147483648 ≤ p0 ∧ p0 ≤ 2147483647) (h_x_bank : 0 ≤ x_bank ∧ x_bank ≤ 1) (h_x_seens : 0 ≤ x_seens ∧ x_seens ≤ 30) (b_B_turns : bd (0) 4 B_turns) (b_B_irons : bd (0) 6 B_irons) (b_B_beasts : bd (0) 8 B_beasts) (b_B_told : bd (0) 31 B_told) (b_B_brands : bd (0) 4095 B_brands) (b_B_herdTold : bd (0) 7 B_herdTold) (b_B_burned : bd (0) 4095 B_burned) (b_B_sBurning : bd (0) 2 B_sBurning) (b_B_sStroke : bd (0) 11 B_sStroke) (b_B_sIs : bd (0) 1 B_sIs) (b_B_sTold : bd (0) 100000 B_sTold) (b_B_sUntold : bd (-1) 100000 B_sUntold) (b_B_parts : bd (-2147483648) 2147483647 B_parts) (g_R : 1 ≤ B_turns x_bank.toNat ∧ ¬ B_turns x_bank.toNat = 3) : MetG l D k yX12_layRows cX12_layRows 5 none 2 [.ref (a 0), .int (mI p0)] (rW k a x_taped x_size x_faultKind x_faultPlace x_at x_end x_token x_number x_bank x_rb x_codes x_within x_piled x_unitsInRule x_askBeast x_askStroke x_askAge x_askSeason x_acts x_undone x_laid x_seens x_time x_fitting n_name B_tape B_text B_turns B_herds B_irons B_beasts B_units B_night B_draw B_told B_brands B_ironMarks B_herdTold B_born B_ruleFrom B_ruleTo B_code B_codeNumber B_eWhat B_eSign B_pile B_all B_burned B_was B_need B_laidRow B_long8 B_brings B_sBurning B_sStroke B_sIs B_sTold B_sUntold B_parts B_boxAll B_isBoxed G_hName G_iName G_bName ex) (qGv (fun H => ∃ (F_parts : Nat → Int) (y_fitting : Int), (bd (-2147483648) 2147483647 F_parts) ∧ (-2147483648 ≤ y_fitting ∧ y_fitting ≤ 2147483647) ∧ va_P D vwCl (rW k a x_taped x_size x_faultKind x_faultPlace x_at x_end x_token x_number x_bank x_rb x_codes x_within x_piled x_unitsInRule x_askBeast x_askStroke x_askAge x_askSeason x_acts x_undone x_laid x_seens x_time y_fitting n_name B_tape B_text B_turns B_herds B_irons B_beasts B_units B_night B_draw B_told B_brands B_ironMarks B_herdTold B_born B_ruleFrom B_ruleTo B_code B_codeNumber B_eWhat B_eSign B_pile B_all B_burned B_was B_need B_laidRow B_long8 B_brings B_sBurning B_sStroke B_sIs B_sTold B_sUntold F_parts B_boxAll B_isBoxed G_hName G_iName G_bName ex) H)) := by
  refine metG_of 1 ck_X12_layRows (Nat.le_of_ble_eq_true rfl) rMap (fun p e s m args below meth c A hx hb hml hr hlocks hown hts hK hD hA hP hS ls hl => ?_)
  have hown : s.vm.findClass "HideReaderModel" = some m.cls := hown
  have hl : lv_has ls 5 [(0, .ref (a 0)), (1, .int (mI p0))] := hl
  refine lv_aload_n hx hb dX12_layRows_0 rfl (lv_at hl 0 rfl) ?_
  refine lv_iconst (v := mI 0) hx hb dX12_layRows_1 rfl ?_
  refine rp_o_fitting hx hb hts hown hK hP hD hS uw_7_84 dX12_layRows_2 (fun H locs hP hS => ?_)
  refine lv_iconst (v := mI 0) hx hb dX12_layRows_5 rfl ?_
  refine lv_istore_n (lv' := [(2, .int (mI 0)), (0, .ref (a 0)), (1, .int (mI p0))]) hx hb dX12_layRows_6 rfl hl (by decide) rfl (fun ls hl => ?_)
  refine sy_loop (I := fun n H locs g => ∃ (z_8213 : Int) (F_8214 : Nat → Int) (ls : Array Slot), (0 ≤ z_8213 ∧ z_8213 ≤ 12) ∧ (bd (-2147483648) 2147483647 F_8214) ∧ (12 - z_8213).toNat = n ∧ va_P D vwCl (rW k a x_taped x_size x_faultKind x_faultPlace x_at x_end x_token x_number x_bank x_rb x_codes x_within x_piled x_unitsInRule x_askBeast x_askStroke x_askAge x_askSeason x_acts x_undone x_laid x_seens x_time 0 n_name B_tape B_text B_turns B_herds B_irons B_beasts B_units B_night B_draw B_told B_brands B_ironMarks B_herdTold B_born B_ruleFrom B_ruleTo B_code B_codeNumber B_eWhat B_eSign B_pile B_all B_burned B_was B_need B_laidRow B_long8 B_brings B_sBurning B_sStroke B_sIs B_sTold B_sUntold F_8214 B_boxAll B_isBoxed G_hName G_iName G_bName ex) H ∧ va_S A s.heap H locs ∧ lv_has ls 5 [(2, .int (mI z_8213)), (0, .ref (a 0)), (1, .int (mI p0))] ∧ g = F0 m 7 ls []) ?_ _ ⟨0, B_parts, _, by omega, b_B_parts, rfl, hP, hS, lv_sub hl [0, 1, 2] rfl, rfl⟩
  intro n_9747 H locs g hI ih_9748
  obtain ⟨z_8213, F_8214, ls, h7_0, bF_8214, mn_9747, hP, hS, hl, rfl⟩ := hI
  refine lv_iload_n hx hb dX12_layRows_7 rfl (lv_at hl 0 rfl) ?_
  refine lv_bipush (v := mI 12) hx hb dX12_layRows_8 (by decide) ?_
  refine sy_icmp_ge (tgt := 26) hx hb dX12_layRows_10 (by decide) (by omega) (by decide) (fun c_9751 => ?_) (fun c_9751 => ?_)
  · skip
    refine lv_aload_n hx hb dX12_layRows_26 rfl (lv_at hl 1 rfl) ?_
    refine g_i (rDt hD) hS hA (g_V (own := "HideReaderModel") (As := []) (rest := []) hx hb hml hown hts hK hP (rDt hD) (kr_X12_tools (l := l) (D := D) (k := k) h_x_bank b_B_irons) ck_X12_tools iv_X12_tools uw_6_235 (rv_o hK hP) rfl hl.1 rfl (Nat.le_of_ble_eq_true rfl) dX12_layRows_27 ⟨Nat.le_of_ble_eq_true rfl, Nat.le_of_ble_eq_true rfl⟩ ⟨Nat.le_of_ble_eq_true rfl, Nat.le_of_ble_eq_true rfl⟩) (fun r_9752 H locs hQ hS => ?_)
    obtain ⟨hr_9752_0, hr_9752_1, hP⟩ := hQ
    refine lv_aload_n hx hb dX12_layRows_30 rfl (lv_at hl 1 rfl) ?_
    refine g_i (rDt hD) hS hA (g_V (own := "HideReaderModel") (As := []) (rest := [.int (mI r_9752)]) hx hb hml hown hts hK hP (rDt hD) (kr_X12_placements (l := l) (D := D) (k := k) h_x_bank b_B_turns b_B_told g_R) ck_X12_placements iv_X12_placements uw_6_239 (rv_o hK hP) rfl hl.1 rfl (Nat.le_of_ble_eq_true rfl) dX12_layRows_31 ⟨Nat.le_of_ble_eq_true rfl, Nat.le_of_ble_eq_true rfl⟩ ⟨Nat.le_of_ble_eq_true rfl, Nat.le_of_ble_eq_true rfl⟩) (fun r_9753 H locs hQ hS => ?_)
    obtain ⟨hr_9753_0, hr_9753_1, hP⟩ := hQ
    refine sy_imulB (A := 6) (B := 8) hx hb dX12_layRows_34 48 (by decide) (by omega) (by omega) (fun z_9754 ez_9754 hz_9754 => ?_)
    refine lv_istore_n (lv' := [(2, .int (mI z_9754)), (0, .ref (a 0)), (1, .int (mI p0))]) hx hb dX12_layRows_35 rfl hl (by decide) rfl (fun ls hl => ?_)
    refine lv_iconst (v := mI 0) hx hb dX12_layRows_36 rfl ?_
    refine lv_istore_n (lv' := [(3, .int (mI 0)), (2, .int (mI z_9754)), (0, .ref (a 0)), (1, .int (mI p0))]) hx hb dX12_layRows_37 rfl hl (by decide) rfl (fun ls hl => ?_)
    refine sy_loop (I := fun n H locs g => ∃ (z_11211 : Int) (F_11212 : Nat → Int) (y_11213 : Int) (ls : Array Slot), (0 ≤ z_11211 ∧ z_11211 ≤ 2304) ∧ (bd (-2147483648) 2147483647 F_11212) ∧ (-2147483648 ≤ y_11213 ∧ y_11213 ≤ 2147483647) ∧ (2304 - z_11211).toNat = n ∧ va_P D vwCl (rW k a x_taped x_size x_faultKind x_faultPlace x_at x_end x_token x_number x_bank x_rb x_codes x_within x_piled x_unitsInRule x_askBeast x_askStroke x_askAge x_askSeason x_acts x_undone x_laid x_seens x_time y_11213 n_name B_tape B_text B_turns B_herds B_irons B_beasts B_units B_night B_draw B_told B_brands B_ironMarks B_herdTold B_born B_ruleFrom B_ruleTo B_code B_codeNumber B_eWhat B_eSign B_pile B_all B_burned B_was B_need B_laidRow B_long8 B_brings B_sBurning B_sStroke B_sIs B_sTold B_sUntold F_11212 B_boxAll B_isBoxed G_hName G_iName G_bName ex) H ∧ va_S A s.heap H locs ∧ lv_has ls 5 [(3, .int (mI z_11211)), (2, .int (mI z_9754)), (0, .ref (a 0)), (1, .int (mI p0))] ∧ g = F0 m 38 ls []) ?_ _ ⟨0, F_8214, 0, _, by omega, bF_8214, by omega, rfl, hP, hS, lv_sub hl [0, 1, 2, 3] rfl, rfl⟩
    intro n_11246 H locs g hI ih_11247
    obtain ⟨z_11211, F_11212, y_11213, ls, h38_0, bF_11212, h38_2, mn_11246, hP, hS, hl, rfl⟩ := hI
    refine lv_iload_n hx hb dX12_layRows_38 rfl (lv_at hl 0 rfl) ?_
    refine lv_iload_n hx hb dX12_layRows_39 rfl (lv_at hl 1 rfl) ?_
    refine lv_iload_n hx hb dX12_layRows_40 rfl (lv_at hl 1 rfl) ?_
    refine sy_imulB (A := 48) (B := 48) hx hb dX12_layRows_41 2304 (by decide) (by omega) (by omega) (fun z_11248 ez_11248 hz_11248 => ?_)
    refine sy_icmp_ge (tgt := 149) hx hb dX12_layRows_42 (by decide) (by omega) (by omega) (fun c_11249 => ?_) (fun c_11249 => ?_)
    · skip
      exact r_v hx hb hr hlocks dX12_layRows_149 hS ⟨F_11212, y_11213, bF_11212, by omega, hP⟩
    · skip
      refine lv_aload_n hx hb dX12_layRows_45 rfl (lv_at hl 2 rfl) ?_
      refine g_i (rDt hD) hS hA (g_V (own := "HideReaderModel") (As := []) (rest := []) hx hb hml hown hts hK hP (rDt hD) (kr_X12_cattle (l := l) (D := D) (k := k) h_x_bank b_B_beasts) ck_X12_cattle iv_X12_cattle uw_6_212 (rv_o hK hP) rfl hl.1 rfl (Nat.le_of_ble_eq_true rfl) dX12_layRows_46 ⟨Nat.le_of_ble_eq_true rfl, Nat.le_of_ble_eq_true rfl⟩ ⟨Nat.le_of_ble_eq_true rfl, Nat.le_of_ble_eq_true rfl⟩) (fun r_11250 H locs hQ hS => ?_)
      obtain ⟨hr_11250_0, hr_11250_1, hP⟩ := hQ
      refine sy_if_le (tgt := 149) hx hb dX12_layRows_49 (by decide) (by omega) (fun c_11251 => ?_) (fun c_11251 => ?_)
      · skip
        exact r_v hx hb hr hlocks dX12_layRows_149 hS ⟨F_11212, y_11213, bF_11212, by omega, hP⟩
      · skip
        refine lv_aload_n hx hb dX12_layRows_52 rfl (lv_at hl 2 rfl) ?_
        refine lv_aload_n hx hb dX12_layRows_53 rfl (lv_at hl 2 rfl) ?_
        refine lv_iconst (v := mI 0) hx hb dX12_layRows_54 rfl ?_
        refine g_i (rDt hD) hS hA (g_V (own := "HideReaderModel") (As := [.int (mI 0)]) (rest := [.ref (a 0)]) hx hb hml hown hts hK hP (rDt hD) (kr_X12_firstHerd (l := l) (D := D) (k := k) (by decide) h_x_bank b_B_herdTold) ck_X12_firstHerd iv_X12_firstHerd uw_6_216 (rv_o hK hP) rfl hl.1 rfl (Nat.le_of_ble_eq_true rfl) dX12_layRows_55 ⟨Nat.le_of_ble_eq_true rfl, Nat.le_of_ble_eq_true rfl⟩ ⟨Nat.le_of_ble_eq_true rfl, Nat.le_of_ble_eq_true rfl⟩) (fun r_11252 H locs hQ hS => ?_)
        obtain ⟨hr_11252_0, hP⟩ := hQ
        refine g_i (rDt hD) hS hA (g_V (own := "HideReaderModel") (As := [.int (mI r_11252)]) (rest := []) hx hb hml hown hts hK hP (rDt hD) (kr_X12_brandOf (l := l) (D := D) (k := k) (by omega) h_x_bank b_B_brands) ck_X12_brandOf iv_X12_brandOf uw_6_220 (rv_o hK hP) rfl hl.1 rfl (Nat.le_of_ble_eq_true rfl) dX12_layRows_58 ⟨Nat.le_of_ble_eq_true rfl, Nat.le_of_ble_eq_true rfl⟩ ⟨Nat.le_of_ble_eq_true rfl, Nat.le_of_ble_eq_true rfl⟩) (fun r_11253 H locs hQ hS => ?_)
        obtain ⟨hr_11253_0, hr_11253_1, hP⟩ := hQ
        refine lv_aload_n hx hb dX12_layRows_61 rfl (lv_at hl 2 rfl) ?_
        refine rg_o_burned hx hb hts hown hK hP uw_7_67 dX12_layRows_62 ?_
        refine lv_iload_n hx hb dX12_layRows_65 rfl (lv_at hl 0 rfl) ?_
        refine lv_iload_n hx hb dX12_layRows_66 rfl (lv_at hl 1 rfl) ?_
        have h_11254 := pz_l ez_11248 (by omega) (by omega) (by omega)
        refine sy_idiv hx hb dX12_layRows_67 (by omega) (by omega) (fun z_11255 ez_11255 hz_11255 => ?_)
        have h_11256 := dv_lt ez_11248 (by omega) (by omega) (by omega) ez_11255
        refine rl_burned hx hb hK hP dX12_layRows_68 (by omega) b_B_burned (fun z_11257 _ hz_11257 => ?_)
        refine sy_ior hx hb dX12_layRows_69 12 (by decide) 4096 (by decide) (by omega) (by omega) (fun z_11258 hz_11258 => ?_)
        refine lv_istore (lv' := [(4, .int (mI z_11258)), (3, .int (mI z_11211)), (2, .int (mI z_9754)), (0, .ref (a 0)), (1, .int (mI p0))]) hx hb dX12_layRows_70 hl (by decide) rfl (fun ls hl => ?_)
        refine lv_aload_n hx hb dX12_layRows_72 rfl (lv_at hl 3 rfl) ?_
        refine lv_iload hx hb dX12_layRows_73 (lv_at hl 0 rfl) ?_
        refine lv_iload hx hb dX12_layRows_75 (lv_at hl 0 rfl) ?_
        refine lv_aload_n hx hb dX12_layRows_77 rfl (lv_at hl 3 rfl) ?_
        refine rg_o_burned hx hb hts hown hK hP uw_7_67 dX12_layRows_78 ?_
        refine lv_iload_n hx hb dX12_layRows_81 rfl (lv_at hl 1 rfl) ?_
        refine lv_iload_n hx hb dX12_layRows_82 rfl (lv_at hl 2 rfl) ?_
        refine sy_irem hx hb dX12_layRows_83 (by omega) (by omega) (fun z_11259 ez_11259 hz_11259 => ?_)
        refine rl_burned hx hb hK hP dX12_layRows_84 (by omega) b_B_burned (fun z_11260 _ hz_11260 => ?_)
        refine sy_ior hx hb dX12_layRows_85 12 (by decide) 4096 (by decide) (by omega) (by omega) (fun z_11261 hz_11261 => ?_)
        refine lv_iload_n hx hb dX12_layRows_86 rfl (lv_at hl 4 rfl) ?_
        refine g_i (rDt hD) hS hA (g_V (own := "HideReaderModel") (As := [.int (mI z_11258), .int (mI z_11261), .int (mI p0)]) (rest := []) hx hb hml hown hts hK hP (rDt hD) (kr_X12_doesFit (l := l) (D := D) (k := k) (by omega) (by omega) (by omega) h_x_seens b_B_sBurning b_B_sStroke b_B_sIs b_B_sTold b_B_sUntold) ck_X12_doesFit iv_X12_doesFit uw_9_173 (rv_o hK hP) rfl hl.1 rfl (Nat.le_of_ble_eq_true rfl) dX12_layRows_87 ⟨Nat.le_of_ble_eq_true rfl, Nat.le_of_ble_eq_true rfl⟩ ⟨Nat.le_of_ble_eq_true rfl, Nat.le_of_ble_eq_true rfl⟩) (fun r_11262 H locs hQ hS => ?_)
        obtain ⟨hr_11262_0, hP⟩ := hQ
        refine sy_if_ne (tgt := 96) hx hb dX12_layRows_90 (by decide) (by omega) (fun c_11263 => ?_) (fun c_11263 => ?_)
        · skip
          refine lv_aload_n hx hb dX12_layRows_96 rfl (lv_at hl 3 rfl) ?_
          refine lv_dup hx hb dX12_layRows_97 rfl ?_
          refine rg_o_fitting hx hb hts hown hK hP uw_7_84 dX12_layRows_98 ?_
          refine lv_iconst (v := mI 1) hx hb dX12_layRows_101 rfl ?_
          refine sy_iadd hx hb dX12_layRows_102 (y_11213 + 1) rfl ?_
          refine sy_any (fun z_11264 hz_11264 => ?_)
          refine rp_o_fitting hx hb hts hown hK hP hD hS uw_7_84 dX12_layRows_103 (fun H locs hP hS => ?_)
          refine lv_aload_n hx hb dX12_layRows_106 rfl (lv_at hl 3 rfl) ?_
          refine rg_o_parts hx hb hts hown hK hP uw_7_81 dX12_layRows_107 ?_
          refine lv_iload_n hx hb dX12_layRows_110 rfl (lv_at hl 1 rfl) ?_
          refine lv_iload_n hx hb dX12_layRows_111 rfl (lv_at hl 2 rfl) ?_
          refine sy_idiv hx hb dX12_layRows_112 (by omega) (by omega) (fun z_11265 ez_11265 hz_11265 => ?_)
          have h_11266 := dv_lt ez_11248 (by omega) (by omega) (by omega) ez_11265
          refine lv_aload_n hx hb dX12_layRows_113 rfl (lv_at hl 3 rfl) ?_
          refine g_i (rDt hD) hS hA (g_V (own := "HideReaderModel") (As := []) (rest := [.int (mI z_11265), .ref (a 37)]) hx hb hml hown hts hK hP (rDt hD) (kr_X12_placements (l := l) (D := D) (k := k) h_x_bank b_B_turns b_B_told g_R) ck_X12_placements iv_X12_placements uw_6_239 (rv_o hK hP) rfl hl.1 rfl (Nat.le_of_ble_eq_true rfl) dX12_layRows_114 ⟨Nat.le_of_ble_eq_true rfl, Nat.le_of_ble_eq_true rfl⟩ ⟨Nat.le_of_ble_eq_true rfl, Nat.le_of_ble_eq_true rfl⟩) (fun r_11267 H locs hQ hS => ?_)
          obtain ⟨hr_11267_0, hr_11267_1, hP⟩ := hQ
          refine sy_idiv hx hb dX12_layRows_117 (by omega) (by omega) (fun z_11268 ez_11268 hz_11268 => ?_)
          have h_11269 := dv_lt ez_9754 (by omega) (by omega) (by omega) ez_11268
          refine lv_dup2_11 hx hb dX12_layRows_118 rfl rfl ?_
          refine rl_parts hx hb hK hP dX12_layRows_119 (by omega) bF_11212 (fun z_11270 _ hz_11270 => ?_)
          refine lv_iconst (v := mI 1) hx hb dX12_layRows_120 rfl ?_
          refine sy_iadd hx hb dX12_layRows_121 (z_11270 + 1) rfl ?_
          refine sy_any (fun z_11271 hz_11271 => ?_)
          refine rs_parts hx hb hK hP hD hS dX12_layRows_122 (by omega) bF_11212 (by omega) (fun F_11272 H locs _ bF_11272 hP hS => ?_)
          refine lv_aload_n hx hb dX12_layRows_123 rfl (lv_at hl 3 rfl) ?_
          refine rg_o_parts hx hb hts hown hK hP uw_7_81 dX12_layRows_124 ?_
          refine lv_bipush (v := mI 6) hx hb dX12_layRows_127 (by decide) ?_
          refine lv_iload_n hx hb dX12_layRows_129 rfl (lv_at hl 1 rfl) ?_
          refine lv_iload_n hx hb dX12_layRows_130 rfl (lv_at hl 2 rfl) ?_
          refine sy_irem hx hb dX12_layRows_131 (by omega) (by omega) (fun z_11273 ez_11273 hz_11273 => ?_)
          refine lv_aload_n hx hb dX12_layRows_132 rfl (lv_at hl 3 rfl) ?_
          refine g_i (rDt hD) hS hA (g_V (own := "HideReaderModel") (As := []) (rest := [.int (mI z_11273), .int (mI 6), .ref (a 37)]) hx hb hml hown hts hK hP (rDt hD) (kr_X12_placements (l := l) (D := D) (k := k) h_x_bank b_B_turns b_B_told g_R) ck_X12_placements iv_X12_placements uw_6_239 (rv_o hK hP) rfl hl.1 rfl (Nat.le_of_ble_eq_true rfl) dX12_layRows_133 ⟨Nat.le_of_ble_eq_true rfl, Nat.le_of_ble_eq_true rfl⟩ ⟨Nat.le_of_ble_eq_true rfl, Nat.le_of_ble_eq_true rfl⟩) (fun r_11274 H locs hQ hS => ?_)
          obtain ⟨hr_11274_0, hr_11274_1, hP⟩ := hQ
          refine sy_idiv hx hb dX12_layRows_136 (by omega) (by omega) (fun z_11275 ez_11275 hz_11275 => ?_)
          have h_11276 := dv_lt ez_9754 (by omega) (by omega) (by omega) ez_11275
          refine sy_iadd hx hb dX12_layRows_137 (z_11275 + 6) (by omega) ?_
          refine lv_dup2_11 hx hb dX12_layRows_138 rfl rfl ?_
          refine rl_parts hx hb hK hP dX12_layRows_139 (by omega) bF_11272 (fun z_11277 _ hz_11277 => ?_)
          refine lv_iconst (v := mI 1) hx hb dX12_layRows_140 rfl ?_
          refine sy_iadd hx hb dX12_layRows_141 (z_11277 + 1) rfl ?_
          refine sy_any (fun z_11278 hz_11278 => ?_)
          refine rs_parts hx hb hK hP hD hS dX12_layRows_142 (by omega) bF_11272 (by omega) (fun F_11279 H locs _ bF_11279 hP hS => ?_)
          refine lv_iinc (v := mI (z_11211 + 1)) (lv' := [(3, .int (mI (z_11211 + 1))), (4, .int (mI z_11258)), (2, .int (mI z_9754)), (0, .ref (a 0)), (1, .int (mI p0))]) hx hb dX12_layRows_143 hl (k := 1) rfl (mI_ad rfl) (by decide) rfl (fun ls hl => ?_)
          refine lv_goto (tgt := 38) hx hb dX12_layRows_146 (by decide) ?_
          exact ih_11247 _ _ _ _ (by omega) ⟨(z_11211 + 1), F_11279, z_11264, _, by omega, bF_11279, by omega, rfl, hP, hS, lv_sub hl [0, 2, 3, 4] rfl, rfl⟩
        · skip
          refine lv_goto (tgt := 143) hx hb dX12_layRows_93 (by decide) ?_
          refine lv_iinc (v := mI (z_11211 + 1)) (lv' := [(3, .int (mI (z_11211 + 1))), (4, .int (mI z_11258)), (2, .int (mI z_9754)), (0, .ref (a 0)), (1, .int (mI p0))]) hx hb dX12_layRows_143 hl (k := 1) rfl (mI_ad rfl) (by decide) rfl (fun ls hl => ?_)
          refine lv_goto (tgt := 38) hx hb dX12_layRows_146 (by decide) ?_
          exact ih_11247 _ _ _ _ (by omega) ⟨(z_11211 + 1), F_11212, y_11213, _, by omega, bF_11212, by omega, rfl, hP, hS, lv_sub hl [0, 2, 3, 4] rfl, rfl⟩
  · skip
    refine lv_aload_n hx hb dX12_layRows_13 rfl (lv_at hl 1 rfl) ?_
    refine rg_o_parts hx hb hts hown hK hP uw_7_81 dX12_layRows_14 ?_
    refine lv_iload_n hx hb dX12_layRows_17 rfl (lv_at hl 0 rfl) ?_
    refine lv_iconst (v := mI 0) hx hb dX12_layRows_18 rfl ?_
    refine rs_parts hx hb hK hP hD hS dX12_layRows_19 (by omega) bF_8214 (by omega) (fun F_11280 H locs _ bF_11280 hP hS => ?_)
    refine lv_iinc (v := mI (z_8213 + 1)) (lv' := [(2, .int (mI (z_8213 + 1))), (0, .ref (a 0)), (1, .int (mI p0))]) hx hb dX12_layRows_20 hl (k := 0) rfl (mI_ad rfl) (by decide) rfl (fun ls hl => ?_)
    refine lv_goto (tgt := 7) hx hb dX12_layRows_23 (by decide) ?_
    exact ih_9748 _ _ _ _ (by omega) ⟨(z_8213 + 1), F_11280, _, by omega, bF_11280, rfl, hP, hS, lv_sub hl [0, 1, 2] rfl, rfl⟩
set_option maxHeartbeats 4000000 in
set_option maxRecDepth 100000 in
theorem kr_X12_rows {p0 : Int} (hp0 : -2147483648 ≤ p0 ∧ p0 ≤ 2147483647) (h_x_bank : 0 ≤ x_bank ∧ x_bank ≤ 1) (h_x_seens : 0 ≤ x_seens ∧ x_seens ≤ 30) (b_B_turns : bd (0) 4 B_turns) (b_B_irons : bd (0) 6 B_irons) (b_B_beasts : bd (0) 8 B_beasts) (b_B_told : bd (0) 31 B_told) (b_B_brands : bd (0) 4095 B_brands) (b_B_herdTold : bd (0) 7 B_herdTold) (b_B_burned : bd (0) 4095 B_burned) (b_B_sBurning : bd (0) 2 B_sBurning) (b_B_sStroke : bd (0) 11 B_sStroke) (b_B_sIs : bd (0) 1 B_sIs) (b_B_sTold : bd (0) 100000 B_sTold) (b_B_sUntold : bd (-1) 100000 B_sUntold) (b_B_parts : bd (-2147483648) 2147483647 B_parts) (g_R : 1 ≤ B_turns x_bank.toNat ∧ ¬ B_turns x_bank.toNat = 3) : MetG l D k yX12_rows cX12_rows 2 (some .int) 3 [.ref (a 0), .int (mI p0)] (rW k a x_taped x_size x_faultKind x_faultPlace x_at x_end x_token x_number x_bank x_rb x_codes x_within x_piled x_unitsInRule x_askBeast x_askStroke x_askAge x_askSeason x_acts x_undone x_laid x_seens x_time x_fitting n_name B_tape B_text B_turns B_herds B_irons B_beasts B_units B_night B_draw B_told B_brands B_ironMarks B_herdTold B_born B_ruleFrom B_ruleTo B_code B_codeNumber B_eWhat B_eSign B_pile B_all B_burned B_was B_need B_laidRow B_long8 B_brings B_sBurning B_sStroke B_sIs B_sTold B_sUntold B_parts B_boxAll B_isBoxed G_hName G_iName G_bName ex) (qGi (fun r0 H => ∃ (F_parts : Nat → Int) (y_fitting : Int), (-2147483648 ≤ r0 ∧ r0 ≤ 2147483647) ∧ (bd (-2147483648) 2147483647 F_parts) ∧ (-2147483648 ≤ y_fitting ∧ y_fitting ≤ 2147483647) ∧ va_P D vwCl (rW k a x_taped x_size x_faultKind x_faultPlace x_at x_end x_token x_number x_bank x_rb x_codes x_within x_piled x_unitsInRule x_askBeast x_askStroke x_askAge x_askSeason x_acts x_undone x_laid x_seens x_time y_fitting n_name B_tape B_text B_turns B_herds B_irons B_beasts B_units B_night B_draw B_told B_brands B_ironMarks B_herdTold B_born B_ruleFrom B_ruleTo B_code B_codeNumber B_eWhat B_eSign B_pile B_all B_burned B_was B_need B_laidRow B_long8 B_brings B_sBurning B_sStroke B_sIs B_sTold B_sUntold F_parts B_boxAll B_isBoxed G_hName G_iName G_bName ex) H)) := by
  refine metG_of 1 ck_X12_rows (Nat.le_of_ble_eq_true rfl) rMap (fun p e s m args below meth c A hx hb hml hr hlocks hown hts hK hD hA hP hS ls hl => ?_)
  have hown : s.vm.findClass "HideReaderModel" = some m.cls := hown
  have hl : lv_has ls 2 [(0, .ref (a 0)), (1, .int (mI p0))] := hl
  refine lv_aload_n hx hb dX12_rows_0 rfl (lv_at hl 0 rfl) ?_
  refine lv_iload_n hx hb dX12_rows_1 rfl (lv_at hl 1 rfl) ?_
  refine g_v (rDt hD) hS hA (g_V (own := "HideReaderModel") (As := [.int (mI p0)]) (rest := []) hx hb hml hown hts hK hP (rDt hD) (kr_X12_layRows (l := l) (D := D) (k := k) (by omega) h_x_bank h_x_seens b_B_turns b_B_irons b_B_beasts b_B_told b_B_brands b_B_herdTold b_B_burned b_B_sBurning b_B_sStroke b_B_sIs b_B_sTold b_B_sUntold b_B_parts g_R) ck_X12_layRows iv_X12_layRows uw_9_169 (rv_o hK hP) rfl hl.1 rfl (Nat.le_of_ble_eq_true rfl) dX12_rows_2 ⟨Nat.le_of_ble_eq_true rfl, Nat.le_of_ble_eq_true rfl⟩ ⟨Nat.le_of_ble_eq_true rfl, Nat.le_of_ble_eq_true rfl⟩) (fun H locs hQ hS => ?_)
  obtain ⟨F_2, y_3, bF_2, hr_1_1, hP⟩ := hQ
  refine lv_aload_n hx hb dX12_rows_5 rfl (lv_at hl 0 rfl) ?_
  refine rg_o_fitting hx hb hts hown hK hP uw_7_84 dX12_rows_6 ?_
  exact r_i hx hb hr hlocks dX12_rows_9 hS ⟨F_2, y_3, by omega, bF_2, by omega, hP⟩
set_option maxHeartbeats 4000000 in
set_option maxRecDepth 100000 in
theorem kr_X12_sure {p0 p1 : Int} (hp0 : -2147483648 ≤ p0 ∧ p0 ≤ 2147483647) (hp1 : -2147483648 ≤ p1 ∧ p1 ≤ 2147483647) (h_x_bank : 0 ≤ x_bank ∧ x_bank ≤ 1) (h_x_seens : 0 ≤ x_seens ∧ x_seens ≤ 30) (h_x_fitting : -2147483648 ≤ x_fitting ∧ x_fitting ≤ 2147483647) (b_B_turns : bd (0) 4 B_turns) (b_B_irons : bd (0) 6 B_irons) (b_B_beasts : bd (0) 8 B_beasts) (b_B_told : bd (0) 31 B_told) (b_B_brands : bd (0) 4095 B_brands) (b_B_herdTold : bd (0) 7 B_herdTold) (b_B_burned : bd (0) 4095 B_burned) (b_B_sBurning : bd (0) 2 B_sBurning) (b_B_sStroke : bd (0) 11 B_sStroke) (b_B_sIs : bd (0) 1 B_sIs) (b_B_sTold : bd (0) 100000 B_sTold) (b_B_sUntold : bd (-1) 100000 B_sUntold) (b_B_parts : bd (-2147483648) 2147483647 B_parts) (g_R : 1 ≤ B_turns x_bank.toNat ∧ ¬ B_turns x_bank.toNat = 3) : MetG l D k yX12_sure cX12_sure 4 (some .int) 3 [.ref (a 0), .int (mI p0), .int (mI p1)] (rW k a x_taped x_size x_faultKind x_faultPlace x_at x_end x_token x_number x_bank x_rb x_codes x_within x_piled x_unitsInRule x_askBeast x_askStroke x_askAge x_askSeason x_acts x_undone x_laid x_seens x_time x_fitting n_name B_tape B_text B_turns B_herds B_irons B_beasts B_units B_night B_draw B_told B_brands B_ironMarks B_herdTold B_born B_ruleFrom B_ruleTo B_code B_codeNumber B_eWhat B_eSign B_pile B_all B_burned B_was B_need B_laidRow B_long8 B_brings B_sBurning B_sStroke B_sIs B_sTold B_sUntold B_parts B_boxAll B_isBoxed G_hName G_iName G_bName ex) (qGi (fun r0 H => ∃ (F_parts : Nat → Int) (y_fitting : Int), (-2 ≤ r0 ∧ r0 ≤ 5) ∧ (bd (-2147483648) 2147483647 F_parts) ∧ (-2147483648 ≤ y_fitting ∧ y_fitting ≤ 2147483647) ∧ va_P D vwCl (rW k a x_taped x_size x_faultKind x_faultPlace x_at x_end x_token x_number x_bank x_rb x_codes x_within x_piled x_unitsInRule x_askBeast x_askStroke x_askAge x_askSeason x_acts x_undone x_laid x_seens x_time y_fitting n_name B_tape B_text B_turns B_herds B_irons B_beasts B_units B_night B_draw B_told B_brands B_ironMarks B_herdTold B_born B_ruleFrom B_ruleTo B_code B_codeNumber B_eWhat B_eSign B_pile B_all B_burned B_was B_need B_laidRow B_long8 B_brings B_sBurning B_sStroke B_sIs B_sTold B_sUntold F_parts B_boxAll B_isBoxed G_hName G_iName G_bName ex) H)) := by
  refine metG_of 2 ck_X12_sure (Nat.le_of_ble_eq_true rfl) rMap (fun p e s m args below meth c A hx hb hml hr hlocks hown hts hK hD hA hP hS ls hl => ?_)
  have hown : s.vm.findClass "HideReaderModel" = some m.cls := hown
  have hl : lv_has ls 4 [(0, .ref (a 0)), (1, .int (mI p0)), (2, .int (mI p1))] := hl
  refine lv_iload_n hx hb dX12_sure_0 rfl (lv_at hl 1 rfl) ?_
  refine lv_iconst (v := mI 1) hx hb dX12_sure_1 rfl ?_
  refine lv_iconst (v := mI 2) hx hb dX12_sure_2 rfl ?_
  refine g_i (rDt hD) hS hA (g_S (own := "HideReaderModel") (As := [.int (mI p0), .int (mI 1), .int (mI 2)]) (rest := []) hx hb hml hown hts hK hP (rDt hD) (kr_X12_isIn (l := l) (D := D) (k := k) (by omega) (by decide) (by decide)) ck_X12_isIn uw_8_131 uw_8_130 rfl hl.1 rfl (Nat.le_of_ble_eq_true rfl) dX12_sure_3 ⟨Nat.le_of_ble_eq_true rfl, Nat.le_of_ble_eq_true rfl⟩ ⟨Nat.le_of_ble_eq_true rfl, Nat.le_of_ble_eq_true rfl⟩) (fun r_1 H locs hQ hS => ?_)
  obtain ⟨hq_r_1, hP⟩ := hQ
  rcases hq_r_1 with ⟨rfl, c_2_0⟩ | ⟨rfl, c_3_0, c_3_1⟩
  · skip
    refine sy_if_ne (tgt := 11) hx hb dX12_sure_6 (by decide) (by decide) (fun c9 => absurd c9 (by decide)) (fun c_4 => ?_)
    refine lv_iconst (v := mI (-1)) hx hb dX12_sure_9 rfl ?_
    exact r_i hx hb hr hlocks dX12_sure_10 hS ⟨B_parts, x_fitting, by omega, b_B_parts, by omega, hP⟩
  · skip
    refine sy_if_ne (tgt := 11) hx hb dX12_sure_6 (by decide) (by decide) (fun c_5 => ?_) (fun c9 => absurd c9 (by decide))
    refine lv_aload_n hx hb dX12_sure_11 rfl (lv_at hl 0 rfl) ?_
    refine lv_iload_n hx hb dX12_sure_12 rfl (lv_at hl 2 rfl) ?_
    refine g_v (rDt hD) hS hA (g_V (own := "HideReaderModel") (As := [.int (mI p1)]) (rest := []) hx hb hml hown hts hK hP (rDt hD) (kr_X12_layRows (l := l) (D := D) (k := k) (by omega) h_x_bank h_x_seens b_B_turns b_B_irons b_B_beasts b_B_told b_B_brands b_B_herdTold b_B_burned b_B_sBurning b_B_sStroke b_B_sIs b_B_sTold b_B_sUntold b_B_parts g_R) ck_X12_layRows iv_X12_layRows uw_9_169 (rv_o hK hP) rfl hl.1 rfl (Nat.le_of_ble_eq_true rfl) dX12_sure_13 ⟨Nat.le_of_ble_eq_true rfl, Nat.le_of_ble_eq_true rfl⟩ ⟨Nat.le_of_ble_eq_true rfl, Nat.le_of_ble_eq_true rfl⟩) (fun H locs hQ hS => ?_)
    obtain ⟨F_7, y_8, bF_7, hr_6_1, hP⟩ := hQ
    refine lv_aload_n hx hb dX12_sure_16 rfl (lv_at hl 0 rfl) ?_
    refine rg_o_fitting hx hb hts hown hK hP uw_7_84 dX12_sure_17 ?_
    refine sy_if_ne (tgt := 25) hx hb dX12_sure_20 (by decide) (by omega) (fun c_9 => ?_) (fun c_9 => ?_)
    · skip
      refine lv_iconst (v := mI 0) hx hb dX12_sure_25 rfl ?_
      refine lv_istore_n (lv' := [(3, .int (mI 0)), (0, .ref (a 0)), (1, .int (mI p0)), (2, .int (mI p1))]) hx hb dX12_sure_26 rfl hl (by decide) rfl (fun ls hl => ?_)
      refine sy_loop (I := fun n H locs g => ∃ (z_44 : Int) (ls : Array Slot), (0 ≤ z_44 ∧ z_44 ≤ 6) ∧ (6 - z_44).toNat = n ∧ va_P D vwCl (rW k a x_taped x_size x_faultKind x_faultPlace x_at x_end x_token x_number x_bank x_rb x_codes x_within x_piled x_unitsInRule x_askBeast x_askStroke x_askAge x_askSeason x_acts x_undone x_laid x_seens x_time y_8 n_name B_tape B_text B_turns B_herds B_irons B_beasts B_units B_night B_draw B_told B_brands B_ironMarks B_herdTold B_born B_ruleFrom B_ruleTo B_code B_codeNumber B_eWhat B_eSign B_pile B_all B_burned B_was B_need B_laidRow B_long8 B_brings B_sBurning B_sStroke B_sIs B_sTold B_sUntold F_7 B_boxAll B_isBoxed G_hName G_iName G_bName ex) H ∧ va_S A s.heap H locs ∧ lv_has ls 4 [(3, .int (mI z_44)), (0, .ref (a 0)), (1, .int (mI p0)), (2, .int (mI p1))] ∧ g = F0 m 27 ls []) ?_ _ ⟨0, _, by omega, rfl, hP, hS, lv_sub hl [0, 1, 2, 3] rfl, rfl⟩
      intro n_49 H locs g hI ih_50
      obtain ⟨z_44, ls, h27_0, mn_49, hP, hS, hl, rfl⟩ := hI
      refine lv_iload_n hx hb dX12_sure_27 rfl (lv_at hl 0 rfl) ?_
      refine lv_aload_n hx hb dX12_sure_28 rfl (lv_at hl 1 rfl) ?_
      refine g_i (rDt hD) hS hA (g_V (own := "HideReaderModel") (As := []) (rest := [.int (mI z_44)]) hx hb hml hown hts hK hP (rDt hD) (kr_X12_tools (l := l) (D := D) (k := k) h_x_bank b_B_irons) ck_X12_tools iv_X12_tools uw_6_235 (rv_o hK hP) rfl hl.1 rfl (Nat.le_of_ble_eq_true rfl) dX12_sure_29 ⟨Nat.le_of_ble_eq_true rfl, Nat.le_of_ble_eq_true rfl⟩ ⟨Nat.le_of_ble_eq_true rfl, Nat.le_of_ble_eq_true rfl⟩) (fun r_51 H locs hQ hS => ?_)
      obtain ⟨hr_51_0, hr_51_1, hP⟩ := hQ
      refine sy_icmp_ge (tgt := 63) hx hb dX12_sure_32 (by decide) (by omega) (by omega) (fun c_52 => ?_) (fun c_52 => ?_)
      · skip
        refine lv_bipush (v := mI (-2)) hx hb dX12_sure_63 (by decide) ?_
        exact r_i hx hb hr hlocks dX12_sure_65 hS ⟨F_7, y_8, by omega, bF_7, by omega, hP⟩
      · skip
        refine lv_aload_n hx hb dX12_sure_35 rfl (lv_at hl 1 rfl) ?_
        refine rg_o_parts hx hb hts hown hK hP uw_7_81 dX12_sure_36 ?_
        refine lv_bipush (v := mI 6) hx hb dX12_sure_39 (by decide) ?_
        refine lv_iload_n hx hb dX12_sure_41 rfl (lv_at hl 2 rfl) ?_
        refine lv_iconst (v := mI 1) hx hb dX12_sure_42 rfl ?_
        refine sy_isub hx hb dX12_sure_43 (p0 - 1) rfl ?_
        refine sy_imul hx hb dX12_sure_44 (6 * p0 - 6) (by omega) ?_
        refine lv_iload_n hx hb dX12_sure_45 rfl (lv_at hl 0 rfl) ?_
        refine sy_iadd hx hb dX12_sure_46 (6 * p0 + z_44 - 6) (by omega) ?_
        refine rl_parts hx hb hK hP dX12_sure_47 (by omega) bF_7 (fun z_53 _ hz_53 => ?_)
        refine lv_aload_n hx hb dX12_sure_48 rfl (lv_at hl 1 rfl) ?_
        refine rg_o_fitting hx hb hts hown hK hP uw_7_84 dX12_sure_49 ?_
        refine sy_icmp_ne (tgt := 57) hx hb dX12_sure_52 (by decide) (by omega) (by omega) (fun c_54 => ?_) (fun c_54 => ?_)
        · skip
          refine lv_iinc (v := mI (z_44 + 1)) (lv' := [(3, .int (mI (z_44 + 1))), (0, .ref (a 0)), (1, .int (mI p0)), (2, .int (mI p1))]) hx hb dX12_sure_57 hl (k := 0) rfl (mI_ad rfl) (by decide) rfl (fun ls hl => ?_)
          refine lv_goto (tgt := 27) hx hb dX12_sure_60 (by decide) ?_
          exact ih_50 _ _ _ _ (by omega) ⟨(z_44 + 1), _, by omega, rfl, hP, hS, lv_sub hl [0, 1, 2, 3] rfl, rfl⟩
        · skip
          refine lv_iload_n hx hb dX12_sure_55 rfl (lv_at hl 0 rfl) ?_
          exact r_i hx hb hr hlocks dX12_sure_56 hS ⟨F_7, y_8, by omega, bF_7, by omega, hP⟩
    · skip
      refine lv_iconst (v := mI (-1)) hx hb dX12_sure_23 rfl ?_
      exact r_i hx hb hr hlocks dX12_sure_24 hS ⟨F_7, y_8, by omega, bF_7, by omega, hP⟩
set_option maxHeartbeats 4000000 in
set_option maxRecDepth 100000 in
theorem kr_X12_ask {p0 p1 : Int} (hp0 : -2147483648 ≤ p0 ∧ p0 ≤ 2147483647) (hp1 : -2147483648 ≤ p1 ∧ p1 ≤ 2147483647) (h_x_bank : 0 ≤ x_bank ∧ x_bank ≤ 1) (h_x_seens : 0 ≤ x_seens ∧ x_seens ≤ 30) (h_x_fitting : -2147483648 ≤ x_fitting ∧ x_fitting ≤ 2147483647) (b_B_turns : bd (0) 4 B_turns) (b_B_irons : bd (0) 6 B_irons) (b_B_beasts : bd (0) 8 B_beasts) (b_B_told : bd (0) 31 B_told) (b_B_brands : bd (0) 4095 B_brands) (b_B_herdTold : bd (0) 7 B_herdTold) (b_B_burned : bd (0) 4095 B_burned) (b_B_sBurning : bd (0) 2 B_sBurning) (b_B_sStroke : bd (0) 11 B_sStroke) (b_B_sIs : bd (0) 1 B_sIs) (b_B_sTold : bd (0) 100000 B_sTold) (b_B_sUntold : bd (-1) 100000 B_sUntold) (b_B_parts : bd (-2147483648) 2147483647 B_parts) (g_R : 1 ≤ B_turns x_bank.toNat ∧ ¬ B_turns x_bank.toNat = 3) : MetG l D k yX12_ask cX12_ask 4 (some .int) 3 [.ref (a 0), .int (mI p0), .int (mI p1)] (rW k a x_taped x_size x_faultKind x_faultPlace x_at x_end x_token x_number x_bank x_rb x_codes x_within x_piled x_unitsInRule x_askBeast x_askStroke x_askAge x_askSeason x_acts x_undone x_laid x_seens x_time x_fitting n_name B_tape B_text B_turns B_herds B_irons B_beasts B_units B_night B_draw B_told B_brands B_ironMarks B_herdTold B_born B_ruleFrom B_ruleTo B_code B_codeNumber B_eWhat B_eSign B_pile B_all B_burned B_was B_need B_laidRow B_long8 B_brings B_sBurning B_sStroke B_sIs B_sTold B_sUntold B_parts B_boxAll B_isBoxed G_hName G_iName G_bName ex) (qGi (fun r0 H => ∃ (F_parts : Nat → Int) (y_fitting : Int), (-2147483648 ≤ r0 ∧ r0 ≤ 2147483647) ∧ (bd (-2147483648) 2147483647 F_parts) ∧ (-2147483648 ≤ y_fitting ∧ y_fitting ≤ 2147483647) ∧ va_P D vwCl (rW k a x_taped x_size x_faultKind x_faultPlace x_at x_end x_token x_number x_bank x_rb x_codes x_within x_piled x_unitsInRule x_askBeast x_askStroke x_askAge x_askSeason x_acts x_undone x_laid x_seens x_time y_fitting n_name B_tape B_text B_turns B_herds B_irons B_beasts B_units B_night B_draw B_told B_brands B_ironMarks B_herdTold B_born B_ruleFrom B_ruleTo B_code B_codeNumber B_eWhat B_eSign B_pile B_all B_burned B_was B_need B_laidRow B_long8 B_brings B_sBurning B_sStroke B_sIs B_sTold B_sUntold F_parts B_boxAll B_isBoxed G_hName G_iName G_bName ex) H)) := by
  refine metG_of 2 ck_X12_ask (Nat.le_of_ble_eq_true rfl) rMap (fun p e s m args below meth c A hx hb hml hr hlocks hown hts hK hD hA hP hS ls hl => ?_)
  have hown : s.vm.findClass "HideReaderModel" = some m.cls := hown
  have hl : lv_has ls 4 [(0, .ref (a 0)), (1, .int (mI p0)), (2, .int (mI p1))] := hl
  refine lv_iload_n hx hb dX12_ask_0 rfl (lv_at hl 1 rfl) ?_
  refine lv_iconst (v := mI 0) hx hb dX12_ask_1 rfl ?_
  refine lv_iconst (v := mI 1) hx hb dX12_ask_2 rfl ?_
  refine g_i (rDt hD) hS hA (g_S (own := "HideReaderModel") (As := [.int (mI p0), .int (mI 0), .int (mI 1)]) (rest := []) hx hb hml hown hts hK hP (rDt hD) (kr_X12_isIn (l := l) (D := D) (k := k) (by omega) (by decide) (by decide)) ck_X12_isIn uw_8_131 uw_8_130 rfl hl.1 rfl (Nat.le_of_ble_eq_true rfl) dX12_ask_3 ⟨Nat.le_of_ble_eq_true rfl, Nat.le_of_ble_eq_true rfl⟩ ⟨Nat.le_of_ble_eq_true rfl, Nat.le_of_ble_eq_true rfl⟩) (fun r_1 H locs hQ hS => ?_)
  obtain ⟨hq_r_1, hP⟩ := hQ
  rcases hq_r_1 with ⟨rfl, c_2_0⟩ | ⟨rfl, c_3_0, c_3_1⟩
  · skip
    refine sy_if_ne (tgt := 11) hx hb dX12_ask_6 (by decide) (by decide) (fun c9 => absurd c9 (by decide)) (fun c_4 => ?_)
    refine lv_iconst (v := mI (-1)) hx hb dX12_ask_9 rfl ?_
    exact r_i hx hb hr hlocks dX12_ask_10 hS ⟨B_parts, x_fitting, by omega, b_B_parts, by omega, hP⟩
  · skip
    refine sy_if_ne (tgt := 11) hx hb dX12_ask_6 (by decide) (by decide) (fun c_5 => ?_) (fun c9 => absurd c9 (by decide))
    refine lv_aload_n hx hb dX12_ask_11 rfl (lv_at hl 0 rfl) ?_
    refine lv_iload_n hx hb dX12_ask_12 rfl (lv_at hl 2 rfl) ?_
    refine g_v (rDt hD) hS hA (g_V (own := "HideReaderModel") (As := [.int (mI p1)]) (rest := []) hx hb hml hown hts hK hP (rDt hD) (kr_X12_layRows (l := l) (D := D) (k := k) (by omega) h_x_bank h_x_seens b_B_turns b_B_irons b_B_beasts b_B_told b_B_brands b_B_herdTold b_B_burned b_B_sBurning b_B_sStroke b_B_sIs b_B_sTold b_B_sUntold b_B_parts g_R) ck_X12_layRows iv_X12_layRows uw_9_169 (rv_o hK hP) rfl hl.1 rfl (Nat.le_of_ble_eq_true rfl) dX12_ask_13 ⟨Nat.le_of_ble_eq_true rfl, Nat.le_of_ble_eq_true rfl⟩ ⟨Nat.le_of_ble_eq_true rfl, Nat.le_of_ble_eq_true rfl⟩) (fun H locs hQ hS => ?_)
    obtain ⟨F_7, y_8, bF_7, hr_6_1, hP⟩ := hQ
    refine lv_aload_n hx hb dX12_ask_16 rfl (lv_at hl 0 rfl) ?_
    refine rg_o_fitting hx hb hts hown hK hP uw_7_84 dX12_ask_17 ?_
    refine sy_if_ne (tgt := 25) hx hb dX12_ask_20 (by decide) (by omega) (fun c_9 => ?_) (fun c_9 => ?_)
    · skip
      refine lv_aload_n hx hb dX12_ask_25 rfl (lv_at hl 0 rfl) ?_
      refine lv_iconst (v := mI 1) hx hb dX12_ask_26 rfl ?_
      refine g_i (rDt hD) hS hA (g_V (own := "HideReaderModel") (As := [.int (mI 1)]) (rest := []) hx hb hml hown hts hK hP (rDt hD) (kr_X12_mostOf (l := l) (D := D) (k := k) (by decide) bF_7) ck_X12_mostOf iv_X12_mostOf uw_9_185 (rv_o hK hP) rfl hl.1 rfl (Nat.le_of_ble_eq_true rfl) dX12_ask_27 ⟨Nat.le_of_ble_eq_true rfl, Nat.le_of_ble_eq_true rfl⟩ ⟨Nat.le_of_ble_eq_true rfl, Nat.le_of_ble_eq_true rfl⟩) (fun r_10 H locs hQ hS => ?_)
      obtain ⟨hr_10_0, hP⟩ := hQ
      refine lv_aload_n hx hb dX12_ask_30 rfl (lv_at hl 0 rfl) ?_
      refine lv_iconst (v := mI 0) hx hb dX12_ask_31 rfl ?_
      refine g_i (rDt hD) hS hA (g_V (own := "HideReaderModel") (As := [.int (mI 0)]) (rest := [.int (mI r_10)]) hx hb hml hown hts hK hP (rDt hD) (kr_X12_mostOf (l := l) (D := D) (k := k) (by decide) bF_7) ck_X12_mostOf iv_X12_mostOf uw_9_185 (rv_o hK hP) rfl hl.1 rfl (Nat.le_of_ble_eq_true rfl) dX12_ask_32 ⟨Nat.le_of_ble_eq_true rfl, Nat.le_of_ble_eq_true rfl⟩ ⟨Nat.le_of_ble_eq_true rfl, Nat.le_of_ble_eq_true rfl⟩) (fun r_11 H locs hQ hS => ?_)
      obtain ⟨hr_11_0, hP⟩ := hQ
      refine sy_join (I := fun H locs g => ∃ (z_13 : Int) (ls : Array Slot), (0 ≤ z_13 ∧ z_13 ≤ 1) ∧ va_P D vwCl (rW k a x_taped x_size x_faultKind x_faultPlace x_at x_end x_token x_number x_bank x_rb x_codes x_within x_piled x_unitsInRule x_askBeast x_askStroke x_askAge x_askSeason x_acts x_undone x_laid x_seens x_time y_8 n_name B_tape B_text B_turns B_herds B_irons B_beasts B_units B_night B_draw B_told B_brands B_ironMarks B_herdTold B_born B_ruleFrom B_ruleTo B_code B_codeNumber B_eWhat B_eSign B_pile B_all B_burned B_was B_need B_laidRow B_long8 B_brings B_sBurning B_sStroke B_sIs B_sTold B_sUntold F_7 B_boxAll B_isBoxed G_hName G_iName G_bName ex) H ∧ va_S A s.heap H locs ∧ lv_has ls 4 [(0, .ref (a 0)), (1, .int (mI p0)), (2, .int (mI p1))] ∧ g = F0 m 43 ls [.int (mI z_13)]) ?_ ?_
      · skip
        intro H locs g hI
        obtain ⟨z_13, ls, h43_0, hP, hS, hl, rfl⟩ := hI
        refine lv_istore_n (lv' := [(3, .int (mI z_13)), (0, .ref (a 0)), (1, .int (mI p0)), (2, .int (mI p1))]) hx hb dX12_ask_43 rfl hl (by decide) rfl (fun ls hl => ?_)
        refine lv_iload_n hx hb dX12_ask_44 rfl (lv_at hl 2 rfl) ?_
        refine sy_if_ne (tgt := 54) hx hb dX12_ask_45 (by decide) (by omega) (fun c_15 => ?_) (fun c_15 => ?_)
        · skip
          refine lv_aload_n hx hb dX12_ask_54 rfl (lv_at hl 1 rfl) ?_
          refine lv_iload_n hx hb dX12_ask_55 rfl (lv_at hl 0 rfl) ?_
          refine g_i (rDt hD) hS hA (g_V (own := "HideReaderModel") (As := [.int (mI z_13)]) (rest := []) hx hb hml hown hts hK hP (rDt hD) (kr_X12_mostOf (l := l) (D := D) (k := k) (by omega) bF_7) ck_X12_mostOf iv_X12_mostOf uw_9_185 (rv_o hK hP) rfl hl.1 rfl (Nat.le_of_ble_eq_true rfl) dX12_ask_56 ⟨Nat.le_of_ble_eq_true rfl, Nat.le_of_ble_eq_true rfl⟩ ⟨Nat.le_of_ble_eq_true rfl, Nat.le_of_ble_eq_true rfl⟩) (fun r_16 H locs hQ hS => ?_)
          obtain ⟨hr_16_0, hP⟩ := hQ
          exact r_i hx hb hr hlocks dX12_ask_59 hS ⟨F_7, y_8, by omega, bF_7, by omega, hP⟩
        · skip
          refine lv_iload_n hx hb dX12_ask_48 rfl (lv_at hl 0 rfl) ?_
          refine lv_iconst (v := mI 1) hx hb dX12_ask_49 rfl ?_
          refine sy_iadd hx hb dX12_ask_50 (z_13 + 1) rfl ?_
          refine lv_goto (tgt := 59) hx hb dX12_ask_51 (by decide) ?_
          exact r_i hx hb hr hlocks dX12_ask_59 hS ⟨F_7, y_8, by omega, bF_7, by omega, hP⟩
      · skip
        intro J_14
        refine sy_icmp_ge (tgt := 42) hx hb dX12_ask_35 (by decide) (by omega) (by omega) (fun c_17 => ?_) (fun c_17 => ?_)
        · skip
          refine lv_iconst (v := mI 0) hx hb dX12_ask_42 rfl ?_
          exact J_14 _ _ _ ⟨0, _, by omega, hP, hS, lv_sub hl [0, 1, 2] rfl, rfl⟩
        · skip
          refine lv_iconst (v := mI 1) hx hb dX12_ask_38 rfl ?_
          refine lv_goto (tgt := 43) hx hb dX12_ask_39 (by decide) ?_
          exact J_14 _ _ _ ⟨1, _, by omega, hP, hS, lv_sub hl [0, 1, 2] rfl, rfl⟩
    · skip
      refine lv_iconst (v := mI (-1)) hx hb dX12_ask_23 rfl ?_
      exact r_i hx hb hr hlocks dX12_ask_24 hS ⟨F_7, y_8, by omega, bF_7, by omega, hP⟩
end Kr
