section Kr
variable {l : Launch} {D : va_G} {k : Nat → ClassId} {a : Nat → Nat} {ex : va_W} {x_taped x_size x_faultKind x_faultPlace x_at x_end x_token x_number x_bank x_rb x_codes x_within x_piled x_unitsInRule x_askBeast x_askStroke x_askAge x_askSeason x_acts x_undone x_laid x_seens x_time x_fitting : Int} {n_name : Int64} {B_tape B_text B_turns B_herds B_irons B_beasts B_units B_night B_draw B_told B_brands B_ironMarks B_herdTold B_born B_ruleFrom B_ruleTo B_code B_codeNumber B_eWhat B_eSign B_pile B_all B_burned B_was B_need B_laidRow B_long8 B_brings B_sBurning B_sStroke B_sIs B_sTold B_sUntold B_parts B_boxAll B_isBoxed : Nat → Int} {G_hName G_iName G_bName : Nat → Int64}
set_option maxHeartbeats 4000000 in
set_option maxRecDepth 100000 in
theorem kr_X12_comes (h_x_bank : 0 ≤ x_bank ∧ x_bank ≤ 1) (h_x_askBeast : 0 ≤ x_askBeast ∧ x_askBeast ≤ 7) (h_x_askStroke : -2147483648 ≤ x_askStroke ∧ x_askStroke ≤ 2147483647) (h_x_askAge : -2147483648 ≤ x_askAge ∧ x_askAge ≤ 2147483647) (h_x_askSeason : -2147483648 ≤ x_askSeason ∧ x_askSeason ≤ 2147483647) (b_B_born : bd (0) 99 B_born) (b_B_ruleFrom : bd (0) 1120 B_ruleFrom) (b_B_ruleTo : bd (0) 1120 B_ruleTo) (b_B_code : bd (-2147483648) 2147483647 B_code) (b_B_codeNumber : bd (-2147483648) 2147483647 B_codeNumber) (b_B_pile : bd (-2147483648) 2147483647 B_pile) (b_B_all : bA B_all) (gC : rC x_bank B_ruleFrom B_ruleTo B_code) : MetG l D k yX12_comes cX12_comes 4 (some .int) 2 [.ref (a 0)] (rW k a x_taped x_size x_faultKind x_faultPlace x_at x_end x_token x_number x_bank x_rb x_codes x_within x_piled x_unitsInRule x_askBeast x_askStroke x_askAge x_askSeason x_acts x_undone x_laid x_seens x_time x_fitting n_name B_tape B_text B_turns B_herds B_irons B_beasts B_units B_night B_draw B_told B_brands B_ironMarks B_herdTold B_born B_ruleFrom B_ruleTo B_code B_codeNumber B_eWhat B_eSign B_pile B_all B_burned B_was B_need B_laidRow B_long8 B_brings B_sBurning B_sStroke B_sIs B_sTold B_sUntold B_parts B_boxAll B_isBoxed G_hName G_iName G_bName ex) (qGi (fun r0 H => ∃ (F_pile : Nat → Int), (-2147483648 ≤ r0 ∧ r0 ≤ 2147483647) ∧ (bd (-2147483648) 2147483647 F_pile) ∧ va_P D vwCl (rW k a x_taped x_size x_faultKind x_faultPlace x_at x_end x_token x_number x_bank x_rb x_codes x_within x_piled x_unitsInRule x_askBeast x_askStroke x_askAge x_askSeason x_acts x_undone x_laid x_seens x_time x_fitting n_name B_tape B_text B_turns B_herds B_irons B_beasts B_units B_night B_draw B_told B_brands B_ironMarks B_herdTold B_born B_ruleFrom B_ruleTo B_code B_codeNumber B_eWhat B_eSign F_pile B_all B_burned B_was B_need B_laidRow B_long8 B_brings B_sBurning B_sStroke B_sIs B_sTold B_sUntold B_parts B_boxAll B_isBoxed G_hName G_iName G_bName ex) H)) := by
  refine metG_of 0 ck_X12_comes (Nat.le_of_ble_eq_true rfl) rMap (fun p e s m args below meth c A hx hb hml hr hlocks hown hts hK hD hA hP hS ls hl => ?_)
  have hown : s.vm.findClass "HideReaderModel" = some m.cls := hown
  have hl : lv_has ls 4 [(0, .ref (a 0))] := hl
  refine lv_iconst (v := mI 0) hx hb dX12_comes_0 rfl ?_
  refine lv_istore_n (lv' := [(1, .int (mI 0)), (0, .ref (a 0))]) hx hb dX12_comes_1 rfl hl (by decide) rfl (fun ls hl => ?_)
  refine lv_aload_n hx hb dX12_comes_2 rfl (lv_at hl 1 rfl) ?_
  refine rg_o_ruleFrom hx hb hts hown hK hP uw_7_46 dX12_comes_3 ?_
  refine lv_aload_n hx hb dX12_comes_6 rfl (lv_at hl 1 rfl) ?_
  refine rg_o_bank hx hb hts hown hK hP uw_7_56 dX12_comes_7 ?_
  refine rl_ruleFrom hx hb hK hP dX12_comes_10 (by omega) b_B_ruleFrom (fun z_1 ez_1 hz_1 => ?_)
  refine lv_istore_n (lv' := [(2, .int (mI z_1)), (1, .int (mI 0)), (0, .ref (a 0))]) hx hb dX12_comes_11 rfl hl (by decide) rfl (fun ls hl => ?_)
  refine sy_loop (I := fun n H locs g => ∃ (z_248 : Int) (z_249 : Int) (F_250 : Nat → Int) (ls : Array Slot), (0 ≤ z_248 ∧ z_248 ≤ 1120) ∧ (0 ≤ z_249 ∧ z_249 ≤ 60) ∧ (bd (-2147483648) 2147483647 F_250) ∧ (0 ≤ z_248 - z_249) ∧ (0 ≤ z_248 - z_1) ∧ (rkA B_code z_1 z_248 z_249) ∧ (1120 - z_248).toNat = n ∧ va_P D vwCl (rW k a x_taped x_size x_faultKind x_faultPlace x_at x_end x_token x_number x_bank x_rb x_codes x_within x_piled x_unitsInRule x_askBeast x_askStroke x_askAge x_askSeason x_acts x_undone x_laid x_seens x_time x_fitting n_name B_tape B_text B_turns B_herds B_irons B_beasts B_units B_night B_draw B_told B_brands B_ironMarks B_herdTold B_born B_ruleFrom B_ruleTo B_code B_codeNumber B_eWhat B_eSign F_250 B_all B_burned B_was B_need B_laidRow B_long8 B_brings B_sBurning B_sStroke B_sIs B_sTold B_sUntold B_parts B_boxAll B_isBoxed G_hName G_iName G_bName ex) H ∧ va_S A s.heap H locs ∧ lv_has ls 4 [(2, .int (mI z_248)), (1, .int (mI z_249)), (0, .ref (a 0))] ∧ g = F0 m 12 ls []) ?_ _ ⟨z_1, 0, B_pile, _, by omega, by omega, b_B_pile, by omega, by omega, (rkA_0 (by omega)), rfl, hP, hS, lv_sub hl [0, 1, 2] rfl, rfl⟩
  intro n_281 H locs g hI ih_282
  obtain ⟨z_248, z_249, F_250, ls, h12_0, h12_1, bF_250, h12_3, h12_4, h12_5, mn_281, hP, hS, hl, rfl⟩ := hI
  refine lv_iload_n hx hb dX12_comes_12 rfl (lv_at hl 0 rfl) ?_
  refine lv_aload_n hx hb dX12_comes_13 rfl (lv_at hl 2 rfl) ?_
  refine rg_o_ruleTo hx hb hts hown hK hP uw_7_47 dX12_comes_14 ?_
  refine lv_aload_n hx hb dX12_comes_17 rfl (lv_at hl 2 rfl) ?_
  refine rg_o_bank hx hb hts hown hK hP uw_7_56 dX12_comes_18 ?_
  refine rl_ruleTo hx hb hK hP dX12_comes_21 (by omega) b_B_ruleTo (fun z_283 ez_283 hz_283 => ?_)
  have h_284 := (rC_f gC ez_1 ez_283).1
  refine sy_icmp_ge (tgt := 130) hx hb dX12_comes_22 (by decide) (by omega) (by omega) (fun c_285 => ?_) (fun c_285 => ?_)
  · skip
    refine lv_aload_n hx hb dX12_comes_130 rfl (lv_at hl 2 rfl) ?_
    refine rg_o_pile hx hb hts hown hK hP uw_7_55 dX12_comes_131 ?_
    refine lv_iconst (v := mI 0) hx hb dX12_comes_134 rfl ?_
    refine rl_pile hx hb hK hP dX12_comes_135 (by omega) bF_250 (fun z_286 ez_286 hz_286 => ?_)
    exact r_i hx hb hr hlocks dX12_comes_136 hS ⟨F_250, by omega, bF_250, hP⟩
  · skip
    refine lv_aload_n hx hb dX12_comes_25 rfl (lv_at hl 2 rfl) ?_
    refine rg_o_code hx hb hts hown hK hP uw_7_51 dX12_comes_26 ?_
    refine lv_iload_n hx hb dX12_comes_29 rfl (lv_at hl 0 rfl) ?_
    refine rl_code hx hb hK hP dX12_comes_30 (by omega) b_B_code (fun z_287 ez_287 hz_287 => ?_)
    refine lv_istore_n (lv' := [(3, .int (mI z_287)), (2, .int (mI z_248)), (1, .int (mI z_249)), (0, .ref (a 0))]) hx hb dX12_comes_31 rfl hl (by decide) rfl (fun ls hl => ?_)
    rcases rkA_step h12_5 (rC_f gC ez_1 ez_283).2 (by omega) ez_287 with ⟨h_288a, h_288b, h_288⟩ | ⟨h_288a, h_288b, h_288⟩ | ⟨h_288a, h_288b, h_288⟩
    · skip
      refine lv_iload_n hx hb dX12_comes_32 rfl (lv_at hl 0 rfl) ?_
      refine lv_bipush (v := mI 126) hx hb dX12_comes_33 (by decide) ?_
      refine sy_icmp_ne (tgt := 65) hx hb dX12_comes_35 (by decide) (by omega) (by decide) (fun c9 => False.elim (by omega)) (fun c_289 => ?_)
      refine lv_aload_n hx hb dX12_comes_38 rfl (lv_at hl 3 rfl) ?_
      refine rg_o_pile hx hb hts hown hK hP uw_7_55 dX12_comes_39 ?_
      refine lv_iload_n hx hb dX12_comes_42 rfl (lv_at hl 2 rfl) ?_
      refine lv_iconst (v := mI 1) hx hb dX12_comes_43 rfl ?_
      refine sy_isub hx hb dX12_comes_44 (z_249 - 1) rfl ?_
      refine lv_aload_n hx hb dX12_comes_45 rfl (lv_at hl 3 rfl) ?_
      refine rg_o_pile hx hb hts hown hK hP uw_7_55 dX12_comes_46 ?_
      refine lv_iload_n hx hb dX12_comes_49 rfl (lv_at hl 2 rfl) ?_
      refine lv_iconst (v := mI 1) hx hb dX12_comes_50 rfl ?_
      refine sy_isub hx hb dX12_comes_51 (z_249 - 1) rfl ?_
      refine rl_pile hx hb hK hP dX12_comes_52 (by omega) bF_250 (fun z_290 ez_290 hz_290 => ?_)
      refine sy_if_ne (tgt := 60) hx hb dX12_comes_53 (by decide) (by omega) (fun c_291 => ?_) (fun c_291 => ?_)
      · skip
        refine lv_iconst (v := mI 0) hx hb dX12_comes_60 rfl ?_
        refine rs_pile hx hb hK hP hD hS dX12_comes_61 (by omega) bF_250 (by omega) (fun F_292 H locs eF_292 bF_292 hP hS => ?_)
        refine lv_goto (tgt := 124) hx hb dX12_comes_62 (by decide) ?_
        refine lv_iinc (v := mI (z_248 + 1)) (lv' := [(2, .int (mI (z_248 + 1))), (3, .int (mI z_287)), (1, .int (mI z_249)), (0, .ref (a 0))]) hx hb dX12_comes_124 hl (k := 1) rfl (mI_ad rfl) (by decide) rfl (fun ls hl => ?_)
        refine lv_goto (tgt := 12) hx hb dX12_comes_127 (by decide) ?_
        exact ih_282 _ _ _ _ (by omega) ⟨(z_248 + 1), z_249, F_292, _, by omega, by omega, bF_292, by omega, by omega, h_288, rfl, hP, hS, lv_sub hl [0, 2, 3] rfl, rfl⟩
      · skip
        refine lv_iconst (v := mI 1) hx hb dX12_comes_56 rfl ?_
        refine lv_goto (tgt := 61) hx hb dX12_comes_57 (by decide) ?_
        refine rs_pile hx hb hK hP hD hS dX12_comes_61 (by omega) bF_250 (by omega) (fun F_293 H locs eF_293 bF_293 hP hS => ?_)
        refine lv_goto (tgt := 124) hx hb dX12_comes_62 (by decide) ?_
        refine lv_iinc (v := mI (z_248 + 1)) (lv' := [(2, .int (mI (z_248 + 1))), (3, .int (mI z_287)), (1, .int (mI z_249)), (0, .ref (a 0))]) hx hb dX12_comes_124 hl (k := 1) rfl (mI_ad rfl) (by decide) rfl (fun ls hl => ?_)
        refine lv_goto (tgt := 12) hx hb dX12_comes_127 (by decide) ?_
        exact ih_282 _ _ _ _ (by omega) ⟨(z_248 + 1), z_249, F_293, _, by omega, by omega, bF_293, by omega, by omega, h_288, rfl, hP, hS, lv_sub hl [0, 2, 3] rfl, rfl⟩
    · skip
      refine lv_iload_n hx hb dX12_comes_32 rfl (lv_at hl 0 rfl) ?_
      refine lv_bipush (v := mI 126) hx hb dX12_comes_33 (by decide) ?_
      refine sy_icmp_ne (tgt := 65) hx hb dX12_comes_35 (by decide) (by omega) (by decide) (fun c_294 => ?_) (fun c9 => False.elim (by omega))
      refine lv_iload_n hx hb dX12_comes_65 rfl (lv_at hl 0 rfl) ?_
      refine g_i (rDt hD) hS hA (g_S (own := "HideReaderModel") (As := [.int (mI z_287)]) (rest := []) hx hb hml hown hts hK hP (rDt hD) (kr_X12_isLetter (l := l) (D := D) (k := k) (by omega)) ck_X12_isLetter uw_7_229 uw_7_228 rfl hl.1 rfl (Nat.le_of_ble_eq_true rfl) dX12_comes_66 ⟨Nat.le_of_ble_eq_true rfl, Nat.le_of_ble_eq_true rfl⟩ ⟨Nat.le_of_ble_eq_true rfl, Nat.le_of_ble_eq_true rfl⟩) (fun r_295 H locs hQ hS => ?_)
      obtain ⟨hq_r_295, hP⟩ := hQ
      rcases hq_r_295 with ⟨rfl, c_296_0⟩ | ⟨rfl, c_297_0⟩
      · skip
        refine sy_if_eq (tgt := 95) hx hb dX12_comes_69 (by decide) (by decide) (fun c_298 => ?_) (fun c9 => absurd c9 (by decide))
        exact False.elim (by omega)
      · skip
        refine sy_if_eq (tgt := 95) hx hb dX12_comes_69 (by decide) (by decide) (fun c9 => absurd c9 (by decide)) (fun c_299 => ?_)
        refine lv_aload_n hx hb dX12_comes_72 rfl (lv_at hl 3 rfl) ?_
        refine rg_o_pile hx hb hts hown hK hP uw_7_55 dX12_comes_73 ?_
        refine lv_iload_n hx hb dX12_comes_76 rfl (lv_at hl 2 rfl) ?_
        refine lv_aload_n hx hb dX12_comes_77 rfl (lv_at hl 3 rfl) ?_
        refine lv_iload_n hx hb dX12_comes_78 rfl (lv_at hl 0 rfl) ?_
        refine lv_aload_n hx hb dX12_comes_79 rfl (lv_at hl 3 rfl) ?_
        refine rg_o_codeNumber hx hb hts hown hK hP uw_7_52 dX12_comes_80 ?_
        refine lv_iload_n hx hb dX12_comes_83 rfl (lv_at hl 1 rfl) ?_
        refine rl_codeNumber hx hb hK hP dX12_comes_84 (by omega) b_B_codeNumber (fun z_300 ez_300 hz_300 => ?_)
        refine g_i (rDt hD) hS hA (g_V (own := "HideReaderModel") (As := [.int (mI z_287), .int (mI z_300)]) (rest := [.int (mI z_249), .ref (a 24)]) hx hb hml hown hts hK hP (rDt hD) (kr_X12_asked (l := l) (D := D) (k := k) (by omega) (by omega) h_x_bank h_x_askBeast h_x_askStroke h_x_askAge h_x_askSeason b_B_born b_B_all) ck_X12_asked iv_X12_asked uw_8_161 (rv_o hK hP) rfl hl.1 rfl (Nat.le_of_ble_eq_true rfl) dX12_comes_85 ⟨Nat.le_of_ble_eq_true rfl, Nat.le_of_ble_eq_true rfl⟩ ⟨Nat.le_of_ble_eq_true rfl, Nat.le_of_ble_eq_true rfl⟩) (fun r_301 H locs hQ hS => ?_)
        obtain ⟨hr_301_0, hP⟩ := hQ
        refine rs_pile hx hb hK hP hD hS dX12_comes_88 (by omega) bF_250 (by omega) (fun F_302 H locs eF_302 bF_302 hP hS => ?_)
        refine lv_iinc (v := mI (z_249 + 1)) (lv' := [(1, .int (mI (z_249 + 1))), (3, .int (mI z_287)), (2, .int (mI z_248)), (0, .ref (a 0))]) hx hb dX12_comes_89 hl (k := 2) rfl (mI_ad rfl) (by decide) rfl (fun ls hl => ?_)
        refine lv_goto (tgt := 124) hx hb dX12_comes_92 (by decide) ?_
        refine lv_iinc (v := mI (z_248 + 1)) (lv' := [(2, .int (mI (z_248 + 1))), (1, .int (mI (z_249 + 1))), (3, .int (mI z_287)), (0, .ref (a 0))]) hx hb dX12_comes_124 hl (k := 2) rfl (mI_ad rfl) (by decide) rfl (fun ls hl => ?_)
        refine lv_goto (tgt := 12) hx hb dX12_comes_127 (by decide) ?_
        exact ih_282 _ _ _ _ (by omega) ⟨(z_248 + 1), (z_249 + 1), F_302, _, by omega, by omega, bF_302, by omega, by omega, h_288, rfl, hP, hS, lv_sub hl [0, 1, 3] rfl, rfl⟩
    · skip
      refine lv_iload_n hx hb dX12_comes_32 rfl (lv_at hl 0 rfl) ?_
      refine lv_bipush (v := mI 126) hx hb dX12_comes_33 (by decide) ?_
      refine sy_icmp_ne (tgt := 65) hx hb dX12_comes_35 (by decide) (by omega) (by decide) (fun c_303 => ?_) (fun c_303 => ?_)
      · skip
        refine lv_iload_n hx hb dX12_comes_65 rfl (lv_at hl 0 rfl) ?_
        refine g_i (rDt hD) hS hA (g_S (own := "HideReaderModel") (As := [.int (mI z_287)]) (rest := []) hx hb hml hown hts hK hP (rDt hD) (kr_X12_isLetter (l := l) (D := D) (k := k) (by omega)) ck_X12_isLetter uw_7_229 uw_7_228 rfl hl.1 rfl (Nat.le_of_ble_eq_true rfl) dX12_comes_66 ⟨Nat.le_of_ble_eq_true rfl, Nat.le_of_ble_eq_true rfl⟩ ⟨Nat.le_of_ble_eq_true rfl, Nat.le_of_ble_eq_true rfl⟩) (fun r_304 H locs hQ hS => ?_)
        obtain ⟨hq_r_304, hP⟩ := hQ
        rcases hq_r_304 with ⟨rfl, c_305_0⟩ | ⟨rfl, c_306_0⟩
        · skip
          refine sy_if_eq (tgt := 95) hx hb dX12_comes_69 (by decide) (by decide) (fun c_307 => ?_) (fun c9 => absurd c9 (by decide))
          refine lv_iinc (v := mI (z_249 - 1)) (lv' := [(1, .int (mI (z_249 - 1))), (3, .int (mI z_287)), (2, .int (mI z_248)), (0, .ref (a 0))]) hx hb dX12_comes_95 hl (k := 2) rfl (mI_ad (by omega)) (by decide) rfl (fun ls hl => ?_)
          refine lv_aload_n hx hb dX12_comes_98 rfl (lv_at hl 3 rfl) ?_
          refine rg_o_pile hx hb hts hown hK hP uw_7_55 dX12_comes_99 ?_
          refine lv_iload_n hx hb dX12_comes_102 rfl (lv_at hl 0 rfl) ?_
          refine lv_iconst (v := mI 1) hx hb dX12_comes_103 rfl ?_
          refine sy_isub hx hb dX12_comes_104 (z_249 - 2) (by omega) ?_
          refine lv_iload_n hx hb dX12_comes_105 rfl (lv_at hl 1 rfl) ?_
          refine lv_aload_n hx hb dX12_comes_106 rfl (lv_at hl 3 rfl) ?_
          refine rg_o_pile hx hb hts hown hK hP uw_7_55 dX12_comes_107 ?_
          refine lv_iload_n hx hb dX12_comes_110 rfl (lv_at hl 0 rfl) ?_
          refine lv_iconst (v := mI 1) hx hb dX12_comes_111 rfl ?_
          refine sy_isub hx hb dX12_comes_112 (z_249 - 2) (by omega) ?_
          refine rl_pile hx hb hK hP dX12_comes_113 (by omega) bF_250 (fun z_308 ez_308 hz_308 => ?_)
          refine lv_aload_n hx hb dX12_comes_114 rfl (lv_at hl 3 rfl) ?_
          refine rg_o_pile hx hb hts hown hK hP uw_7_55 dX12_comes_115 ?_
          refine lv_iload_n hx hb dX12_comes_118 rfl (lv_at hl 0 rfl) ?_
          refine rl_pile hx hb hK hP dX12_comes_119 (by omega) bF_250 (fun z_309 ez_309 hz_309 => ?_)
          refine g_i (rDt hD) hS hA (g_S (own := "HideReaderModel") (As := [.int (mI z_287), .int (mI z_308), .int (mI z_309)]) (rest := [.int (mI (z_249 - 2)), .ref (a 24)]) hx hb hml hown hts hK hP (rDt hD) (kr_X12_two (l := l) (D := D) (k := k) (by omega) (by omega) (by omega)) ck_X12_two uw_8_169 uw_8_168 rfl hl.1 rfl (Nat.le_of_ble_eq_true rfl) dX12_comes_120 ⟨Nat.le_of_ble_eq_true rfl, Nat.le_of_ble_eq_true rfl⟩ ⟨Nat.le_of_ble_eq_true rfl, Nat.le_of_ble_eq_true rfl⟩) (fun r_310 H locs hQ hS => ?_)
          obtain ⟨hr_310_0, hP⟩ := hQ
          refine rs_pile hx hb hK hP hD hS dX12_comes_123 (by omega) bF_250 (by omega) (fun F_311 H locs eF_311 bF_311 hP hS => ?_)
          refine lv_iinc (v := mI (z_248 + 1)) (lv' := [(2, .int (mI (z_248 + 1))), (1, .int (mI (z_249 - 1))), (3, .int (mI z_287)), (0, .ref (a 0))]) hx hb dX12_comes_124 hl (k := 2) rfl (mI_ad rfl) (by decide) rfl (fun ls hl => ?_)
          refine lv_goto (tgt := 12) hx hb dX12_comes_127 (by decide) ?_
          exact ih_282 _ _ _ _ (by omega) ⟨(z_248 + 1), (z_249 - 1), F_311, _, by omega, by omega, bF_311, by omega, by omega, h_288, rfl, hP, hS, lv_sub hl [0, 1, 3] rfl, rfl⟩
        · skip
          refine sy_if_eq (tgt := 95) hx hb dX12_comes_69 (by decide) (by decide) (fun c9 => absurd c9 (by decide)) (fun c_312 => ?_)
          exact False.elim (by omega)
      · skip
        exact False.elim (by omega)
set_option maxHeartbeats 4000000 in
set_option maxRecDepth 100000 in
theorem kr_X12_doesShow {p0 p1 p2 p3 : Int} (hp0 : 0 ≤ p0 ∧ p0 ≤ 7) (hp1 : 0 ≤ p1 ∧ p1 ≤ 11) (hp2 : -2147483648 ≤ p2 ∧ p2 ≤ 2147483647) (hp3 : -2147483648 ≤ p3 ∧ p3 ≤ 2147483647) (h_x_bank : 0 ≤ x_bank ∧ x_bank ≤ 1) (b_B_told : bd (0) 31 B_told) (b_B_born : bd (0) 99 B_born) (b_B_ruleFrom : bd (0) 1120 B_ruleFrom) (b_B_ruleTo : bd (0) 1120 B_ruleTo) (b_B_code : bd (-2147483648) 2147483647 B_code) (b_B_codeNumber : bd (-2147483648) 2147483647 B_codeNumber) (b_B_pile : bd (-2147483648) 2147483647 B_pile) (b_B_all : bA B_all) (g_Q : rQ x_bank B_told B_ruleFrom B_ruleTo B_code) : MetG l D k yX12_doesShow cX12_doesShow 5 (some .boolean) 3 [.ref (a 0), .int (mI p0), .int (mI p1), .int (mI p2), .int (mI p3)] (rW k a x_taped x_size x_faultKind x_faultPlace x_at x_end x_token x_number x_bank x_rb x_codes x_within x_piled x_unitsInRule x_askBeast x_askStroke x_askAge x_askSeason x_acts x_undone x_laid x_seens x_time x_fitting n_name B_tape B_text B_turns B_herds B_irons B_beasts B_units B_night B_draw B_told B_brands B_ironMarks B_herdTold B_born B_ruleFrom B_ruleTo B_code B_codeNumber B_eWhat B_eSign B_pile B_all B_burned B_was B_need B_laidRow B_long8 B_brings B_sBurning B_sStroke B_sIs B_sTold B_sUntold B_parts B_boxAll B_isBoxed G_hName G_iName G_bName ex) (qGi (fun r0 H => ∃ (F_pile : Nat → Int) (y_askBeast : Int) (y_askStroke : Int) (y_askAge : Int) (y_askSeason : Int), (0 ≤ r0 ∧ r0 ≤ 1) ∧ (bd (-2147483648) 2147483647 F_pile) ∧ (0 ≤ y_askBeast ∧ y_askBeast ≤ 7) ∧ (0 ≤ y_askStroke ∧ y_askStroke ≤ 11) ∧ (-2147483648 ≤ y_askAge ∧ y_askAge ≤ 2147483647) ∧ (-2147483648 ≤ y_askSeason ∧ y_askSeason ≤ 2147483647) ∧ va_P D vwCl (rW k a x_taped x_size x_faultKind x_faultPlace x_at x_end x_token x_number x_bank x_rb x_codes x_within x_piled x_unitsInRule y_askBeast y_askStroke y_askAge y_askSeason x_acts x_undone x_laid x_seens x_time x_fitting n_name B_tape B_text B_turns B_herds B_irons B_beasts B_units B_night B_draw B_told B_brands B_ironMarks B_herdTold B_born B_ruleFrom B_ruleTo B_code B_codeNumber B_eWhat B_eSign F_pile B_all B_burned B_was B_need B_laidRow B_long8 B_brings B_sBurning B_sStroke B_sIs B_sTold B_sUntold B_parts B_boxAll B_isBoxed G_hName G_iName G_bName ex) H)) := by
  refine metG_of 4 ck_X12_doesShow (Nat.le_of_ble_eq_true rfl) rMap (fun p e s m args below meth c A hx hb hml hr hlocks hown hts hK hD hA hP hS ls hl => ?_)
  have hown : s.vm.findClass "HideReaderModel" = some m.cls := hown
  have hl : lv_has ls 5 [(0, .ref (a 0)), (1, .int (mI p0)), (2, .int (mI p1)), (3, .int (mI p2)), (4, .int (mI p3))] := hl
  refine lv_aload_n hx hb dX12_doesShow_0 rfl (lv_at hl 0 rfl) ?_
  refine lv_iload_n hx hb dX12_doesShow_1 rfl (lv_at hl 1 rfl) ?_
  refine rp_o_askBeast hx hb hts hown hK hP hD hS uw_7_62 dX12_doesShow_2 (fun H locs hP hS => ?_)
  refine lv_aload_n hx hb dX12_doesShow_5 rfl (lv_at hl 0 rfl) ?_
  refine lv_iload_n hx hb dX12_doesShow_6 rfl (lv_at hl 2 rfl) ?_
  refine rp_o_askStroke hx hb hts hown hK hP hD hS uw_7_63 dX12_doesShow_7 (fun H locs hP hS => ?_)
  refine lv_aload_n hx hb dX12_doesShow_10 rfl (lv_at hl 0 rfl) ?_
  refine lv_iload_n hx hb dX12_doesShow_11 rfl (lv_at hl 3 rfl) ?_
  refine rp_o_askAge hx hb hts hown hK hP hD hS uw_7_64 dX12_doesShow_12 (fun H locs hP hS => ?_)
  refine lv_aload_n hx hb dX12_doesShow_15 rfl (lv_at hl 0 rfl) ?_
  refine lv_iload hx hb dX12_doesShow_16 (lv_at hl 4 rfl) ?_
  refine rp_o_askSeason hx hb hts hown hK hP hD hS uw_7_65 dX12_doesShow_18 (fun H locs hP hS => ?_)
  refine lv_aload_n hx hb dX12_doesShow_21 rfl (lv_at hl 0 rfl) ?_
  refine rg_o_told hx hb hts hown hK hP uw_7_41 dX12_doesShow_22 ?_
  refine lv_aload_n hx hb dX12_doesShow_25 rfl (lv_at hl 0 rfl) ?_
  refine rg_o_bank hx hb hts hown hK hP uw_7_56 dX12_doesShow_26 ?_
  refine rl_told hx hb hK hP dX12_doesShow_29 (by omega) b_B_told (fun z_1 ez_1 hz_1 => ?_)
  refine lv_iconst (v := mI 0) hx hb dX12_doesShow_30 rfl ?_
  refine g_i (rDt hD) hS hA (g_S (own := "HideReaderModel") (As := [.int (mI z_1), .int (mI 0)]) (rest := []) hx hb hml hown hts hK hP (rDt hD) (kr_bit (l := l) (D := D) (k := k)) ck_X12_bit uw_6_229 uw_6_228 rfl hl.1 rfl (Nat.le_of_ble_eq_true rfl) dX12_doesShow_31 ⟨Nat.le_of_ble_eq_true rfl, Nat.le_of_ble_eq_true rfl⟩ ⟨Nat.le_of_ble_eq_true rfl, Nat.le_of_ble_eq_true rfl⟩) (fun r_2 H locs hQ hS => ?_)
  obtain ⟨hq_r_2, hP⟩ := hQ
  rcases hq_r_2 with ⟨rfl, c_3_0⟩ | ⟨rfl, c_4_0⟩
  · skip
    refine sy_if_eq (tgt := 44) hx hb dX12_doesShow_34 (by decide) (by decide) (fun c9 => absurd c9 (by decide)) (fun c_5 => ?_)
    refine lv_aload_n hx hb dX12_doesShow_37 rfl (lv_at hl 0 rfl) ?_
    refine g_i (rDt hD) hS hA (g_V (own := "HideReaderModel") (As := []) (rest := []) hx hb hml hown hts hK hP (rDt hD) (kr_X12_comes (l := l) (D := D) (k := k) h_x_bank (by omega) (by omega) (by omega) (by omega) b_B_born b_B_ruleFrom b_B_ruleTo b_B_code b_B_codeNumber b_B_pile b_B_all (rQ_use g_Q ez_1 c_3_0)) ck_X12_comes iv_X12_comes uw_8_157 (rv_o hK hP) rfl hl.1 rfl (Nat.le_of_ble_eq_true rfl) dX12_doesShow_38 ⟨Nat.le_of_ble_eq_true rfl, Nat.le_of_ble_eq_true rfl⟩ ⟨Nat.le_of_ble_eq_true rfl, Nat.le_of_ble_eq_true rfl⟩) (fun r_6 H locs hQ hS => ?_)
    obtain ⟨F_7, hr_6_0, bF_7, hP⟩ := hQ
    refine sy_if_eq (tgt := 48) hx hb dX12_doesShow_41 (by decide) (by omega) (fun c_8 => ?_) (fun c_8 => ?_)
    · skip
      refine lv_iconst (v := mI 0) hx hb dX12_doesShow_48 rfl ?_
      exact r_z hx hb hr hlocks dX12_doesShow_49 hS (by decide) ⟨F_7, p0, p1, p2, p3, by omega, bF_7, by omega, by omega, by omega, by omega, hP⟩
    · skip
      refine lv_iconst (v := mI 1) hx hb dX12_doesShow_44 rfl ?_
      refine lv_goto (tgt := 49) hx hb dX12_doesShow_45 (by decide) ?_
      exact r_z hx hb hr hlocks dX12_doesShow_49 hS (by decide) ⟨F_7, p0, p1, p2, p3, by omega, bF_7, by omega, by omega, by omega, by omega, hP⟩
  · skip
    refine sy_if_eq (tgt := 44) hx hb dX12_doesShow_34 (by decide) (by decide) (fun c_9 => ?_) (fun c9 => absurd c9 (by decide))
    refine lv_iconst (v := mI 1) hx hb dX12_doesShow_44 rfl ?_
    refine lv_goto (tgt := 49) hx hb dX12_doesShow_45 (by decide) ?_
    exact r_z hx hb hr hlocks dX12_doesShow_49 hS (by decide) ⟨B_pile, p0, p1, p2, p3, by omega, b_B_pile, by omega, by omega, by omega, by omega, hP⟩
set_option maxHeartbeats 4000000 in
set_option maxRecDepth 100000 in
theorem kr_X12_shownOf {p0 : Int} (hp0 : 0 ≤ p0 ∧ p0 ≤ 7) (h_x_bank : 0 ≤ x_bank ∧ x_bank ≤ 1) (h_x_askBeast : 0 ≤ x_askBeast ∧ x_askBeast ≤ 7) (h_x_askStroke : -2147483648 ≤ x_askStroke ∧ x_askStroke ≤ 2147483647) (h_x_askAge : -2147483648 ≤ x_askAge ∧ x_askAge ≤ 2147483647) (h_x_askSeason : -2147483648 ≤ x_askSeason ∧ x_askSeason ≤ 2147483647) (b_B_told : bd (0) 31 B_told) (b_B_born : bd (0) 99 B_born) (b_B_ruleFrom : bd (0) 1120 B_ruleFrom) (b_B_ruleTo : bd (0) 1120 B_ruleTo) (b_B_code : bd (-2147483648) 2147483647 B_code) (b_B_codeNumber : bd (-2147483648) 2147483647 B_codeNumber) (b_B_pile : bd (-2147483648) 2147483647 B_pile) (b_B_all : bA B_all) (g_Q : rQ x_bank B_told B_ruleFrom B_ruleTo B_code) : MetG l D k yX12_shownOf cX12_shownOf 4 (some .int) 4 [.ref (a 0), .int (mI p0)] (rW k a x_taped x_size x_faultKind x_faultPlace x_at x_end x_token x_number x_bank x_rb x_codes x_within x_piled x_unitsInRule x_askBeast x_askStroke x_askAge x_askSeason x_acts x_undone x_laid x_seens x_time x_fitting n_name B_tape B_text B_turns B_herds B_irons B_beasts B_units B_night B_draw B_told B_brands B_ironMarks B_herdTold B_born B_ruleFrom B_ruleTo B_code B_codeNumber B_eWhat B_eSign B_pile B_all B_burned B_was B_need B_laidRow B_long8 B_brings B_sBurning B_sStroke B_sIs B_sTold B_sUntold B_parts B_boxAll B_isBoxed G_hName G_iName G_bName ex) (qGi (fun r0 H => ∃ (F_pile : Nat → Int) (y_askBeast : Int) (y_askStroke : Int) (y_askAge : Int) (y_askSeason : Int), (0 ≤ r0 ∧ r0 ≤ 4095) ∧ (bd (-2147483648) 2147483647 F_pile) ∧ (0 ≤ y_askBeast ∧ y_askBeast ≤ 7) ∧ (-2147483648 ≤ y_askStroke ∧ y_askStroke ≤ 2147483647) ∧ (-2147483648 ≤ y_askAge ∧ y_askAge ≤ 2147483647) ∧ (-2147483648 ≤ y_askSeason ∧ y_askSeason ≤ 2147483647) ∧ va_P D vwCl (rW k a x_taped x_size x_faultKind x_faultPlace x_at x_end x_token x_number x_bank x_rb x_codes x_within x_piled x_unitsInRule y_askBeast y_askStroke y_askAge y_askSeason x_acts x_undone x_laid x_seens x_time x_fitting n_name B_tape B_text B_turns B_herds B_irons B_beasts B_units B_night B_draw B_told B_brands B_ironMarks B_herdTold B_born B_ruleFrom B_ruleTo B_code B_codeNumber B_eWhat B_eSign F_pile B_all B_burned B_was B_need B_laidRow B_long8 B_brings B_sBurning B_sStroke B_sIs B_sTold B_sUntold B_parts B_boxAll B_isBoxed G_hName G_iName G_bName ex) H)) := by
  refine metG_of 1 ck_X12_shownOf (Nat.le_of_ble_eq_true rfl) rMap (fun p e s m args below meth c A hx hb hml hr hlocks hown hts hK hD hA hP hS ls hl => ?_)
  have hown : s.vm.findClass "HideReaderModel" = some m.cls := hown
  have hl : lv_has ls 4 [(0, .ref (a 0)), (1, .int (mI p0))] := hl
  refine lv_iconst (v := mI 0) hx hb dX12_shownOf_0 rfl ?_
  refine lv_istore_n (lv' := [(2, .int (mI 0)), (0, .ref (a 0)), (1, .int (mI p0))]) hx hb dX12_shownOf_1 rfl hl (by decide) rfl (fun ls hl => ?_)
  refine lv_iconst (v := mI 0) hx hb dX12_shownOf_2 rfl ?_
  refine lv_istore_n (lv' := [(3, .int (mI 0)), (2, .int (mI 0)), (0, .ref (a 0)), (1, .int (mI p0))]) hx hb dX12_shownOf_3 rfl hl (by decide) rfl (fun ls hl => ?_)
  refine sy_loop (I := fun n H locs g => ∃ (z_939 : Int) (z_940 : Int) (F_941 : Nat → Int) (y_942 : Int) (y_943 : Int) (y_944 : Int) (y_945 : Int) (ls : Array Slot), (0 ≤ z_939 ∧ z_939 ≤ 12) ∧ (0 ≤ z_940 ∧ z_940 ≤ 4095) ∧ (bd (-2147483648) 2147483647 F_941) ∧ (0 ≤ y_942 ∧ y_942 ≤ 7) ∧ (-2147483648 ≤ y_943 ∧ y_943 ≤ 2147483647) ∧ (-2147483648 ≤ y_944 ∧ y_944 ≤ 2147483647) ∧ (-2147483648 ≤ y_945 ∧ y_945 ≤ 2147483647) ∧ (12 - z_939).toNat = n ∧ va_P D vwCl (rW k a x_taped x_size x_faultKind x_faultPlace x_at x_end x_token x_number x_bank x_rb x_codes x_within x_piled x_unitsInRule y_942 y_943 y_944 y_945 x_acts x_undone x_laid x_seens x_time x_fitting n_name B_tape B_text B_turns B_herds B_irons B_beasts B_units B_night B_draw B_told B_brands B_ironMarks B_herdTold B_born B_ruleFrom B_ruleTo B_code B_codeNumber B_eWhat B_eSign F_941 B_all B_burned B_was B_need B_laidRow B_long8 B_brings B_sBurning B_sStroke B_sIs B_sTold B_sUntold B_parts B_boxAll B_isBoxed G_hName G_iName G_bName ex) H ∧ va_S A s.heap H locs ∧ lv_has ls 4 [(3, .int (mI z_939)), (2, .int (mI z_940)), (0, .ref (a 0)), (1, .int (mI p0))] ∧ g = F0 m 4 ls []) ?_ _ ⟨0, 0, B_pile, x_askBeast, x_askStroke, x_askAge, x_askSeason, _, by omega, by omega, b_B_pile, by omega, by omega, by omega, by omega, rfl, hP, hS, lv_sub hl [0, 1, 2, 3] rfl, rfl⟩
  intro n_966 H locs g hI ih_967
  obtain ⟨z_939, z_940, F_941, y_942, y_943, y_944, y_945, ls, h4_0, h4_1, bF_941, h4_3, h4_4, h4_5, h4_6, mn_966, hP, hS, hl, rfl⟩ := hI
  refine lv_iload_n hx hb dX12_shownOf_4 rfl (lv_at hl 0 rfl) ?_
  refine lv_bipush (v := mI 12) hx hb dX12_shownOf_5 (by decide) ?_
  refine sy_icmp_ge (tgt := 64) hx hb dX12_shownOf_7 (by decide) (by omega) (by decide) (fun c_968 => ?_) (fun c_968 => ?_)
  · skip
    refine lv_iload_n hx hb dX12_shownOf_64 rfl (lv_at hl 1 rfl) ?_
    exact r_i hx hb hr hlocks dX12_shownOf_65 hS ⟨F_941, y_942, y_943, y_944, y_945, by omega, bF_941, by omega, by omega, by omega, by omega, hP⟩
  · skip
    refine lv_aload_n hx hb dX12_shownOf_10 rfl (lv_at hl 2 rfl) ?_
    refine rg_o_all hx hb hts hown hK hP uw_7_66 dX12_shownOf_11 ?_
    refine lv_iconst (v := mI 0) hx hb dX12_shownOf_14 rfl ?_
    refine lv_iload_n hx hb dX12_shownOf_15 rfl (lv_at hl 3 rfl) ?_
    refine sy_iadd hx hb dX12_shownOf_16 p0 (by omega) ?_
    refine rl_all hx hb hK hP dX12_shownOf_17 (by omega) (bA_bd b_B_all) (fun z_969 ez_969 hz_969 => ?_)
    have hz_969 := bA_hid b_B_all (by omega) ez_969
    refine lv_iload_n hx hb dX12_shownOf_18 rfl (lv_at hl 0 rfl) ?_
    refine g_i (rDt hD) hS hA (g_S (own := "HideReaderModel") (As := [.int (mI z_969), .int (mI z_939)]) (rest := []) hx hb hml hown hts hK hP (rDt hD) (kr_bit (l := l) (D := D) (k := k)) ck_X12_bit uw_6_229 uw_6_228 rfl hl.1 rfl (Nat.le_of_ble_eq_true rfl) dX12_shownOf_19 ⟨Nat.le_of_ble_eq_true rfl, Nat.le_of_ble_eq_true rfl⟩ ⟨Nat.le_of_ble_eq_true rfl, Nat.le_of_ble_eq_true rfl⟩) (fun r_970 H locs hQ hS => ?_)
    obtain ⟨hq_r_970, hP⟩ := hQ
    rcases hq_r_970 with ⟨rfl, c_971_0⟩ | ⟨rfl, c_972_0⟩
    · skip
      refine sy_if_eq (tgt := 58) hx hb dX12_shownOf_22 (by decide) (by decide) (fun c9 => absurd c9 (by decide)) (fun c_973 => ?_)
      refine lv_aload_n hx hb dX12_shownOf_25 rfl (lv_at hl 2 rfl) ?_
      refine lv_iload_n hx hb dX12_shownOf_26 rfl (lv_at hl 3 rfl) ?_
      refine lv_iload_n hx hb dX12_shownOf_27 rfl (lv_at hl 0 rfl) ?_
      refine lv_aload_n hx hb dX12_shownOf_28 rfl (lv_at hl 2 rfl) ?_
      refine rg_o_all hx hb hts hown hK hP uw_7_66 dX12_shownOf_29 ?_
      refine lv_aload_n hx hb dX12_shownOf_32 rfl (lv_at hl 2 rfl) ?_
      refine lv_iload_n hx hb dX12_shownOf_33 rfl (lv_at hl 3 rfl) ?_
      refine lv_iload_n hx hb dX12_shownOf_34 rfl (lv_at hl 0 rfl) ?_
      refine g_i (rDt hD) hS hA (g_V (own := "HideReaderModel") (As := [.int (mI p0), .int (mI z_939)]) (rest := [.ref (a 25), .int (mI z_939), .int (mI p0), .ref (a 0)]) hx hb hml hown hts hK hP (rDt hD) (kr_X12_slot (l := l) (D := D) (k := k) (by omega) (by omega)) ck_X12_slot iv_X12_slot uw_6_224 (rv_o hK hP) rfl hl.1 rfl (Nat.le_of_ble_eq_true rfl) dX12_shownOf_35 ⟨Nat.le_of_ble_eq_true rfl, Nat.le_of_ble_eq_true rfl⟩ ⟨Nat.le_of_ble_eq_true rfl, Nat.le_of_ble_eq_true rfl⟩) (fun r_974 H locs hQ hS => ?_)
      obtain ⟨hq_r_974, hP⟩ := hQ
      obtain rfl := hq_r_974
      refine rl_all hx hb hK hP dX12_shownOf_38 (by omega) (bA_bd b_B_all) (fun z_976 ez_976 hz_976 => ?_)
      have hz_976 := bA_age b_B_all (by omega) ez_976
      refine lv_aload_n hx hb dX12_shownOf_39 rfl (lv_at hl 2 rfl) ?_
      refine rg_o_all hx hb hts hown hK hP uw_7_66 dX12_shownOf_40 ?_
      refine lv_bipush (v := mI 112) hx hb dX12_shownOf_43 (by decide) ?_
      refine rl_all hx hb hK hP dX12_shownOf_45 (by omega) (bA_bd b_B_all) (fun z_977 ez_977 hz_977 => ?_)
      refine g_i (rDt hD) hS hA (g_V (own := "HideReaderModel") (As := [.int (mI p0), .int (mI z_939), .int (mI z_976), .int (mI z_977)]) (rest := []) hx hb hml hown hts hK hP (rDt hD) (kr_X12_doesShow (l := l) (D := D) (k := k) (by omega) (by omega) (by omega) (by omega) h_x_bank b_B_told b_B_born b_B_ruleFrom b_B_ruleTo b_B_code b_B_codeNumber bF_941 b_B_all g_Q) ck_X12_doesShow iv_X12_doesShow uw_8_153 (rv_o hK hP) rfl hl.1 rfl (Nat.le_of_ble_eq_true rfl) dX12_shownOf_46 ⟨Nat.le_of_ble_eq_true rfl, Nat.le_of_ble_eq_true rfl⟩ ⟨Nat.le_of_ble_eq_true rfl, Nat.le_of_ble_eq_true rfl⟩) (fun r_978 H locs hQ hS => ?_)
      obtain ⟨F_979, y_980, y_981, y_982, y_983, hr_978_0, bF_979, hr_978_2, hr_978_3, hr_978_4, hr_978_5, hP⟩ := hQ
      refine sy_if_eq (tgt := 58) hx hb dX12_shownOf_49 (by decide) (by omega) (fun c_984 => ?_) (fun c_984 => ?_)
      · skip
        refine lv_iinc (v := mI (z_939 + 1)) (lv' := [(3, .int (mI (z_939 + 1))), (2, .int (mI z_940)), (0, .ref (a 0)), (1, .int (mI p0))]) hx hb dX12_shownOf_58 hl (k := 0) rfl (mI_ad rfl) (by decide) rfl (fun ls hl => ?_)
        refine lv_goto (tgt := 4) hx hb dX12_shownOf_61 (by decide) ?_
        exact ih_967 _ _ _ _ (by omega) ⟨(z_939 + 1), z_940, F_979, y_980, y_981, y_982, y_983, _, by omega, by omega, bF_979, by omega, by omega, by omega, by omega, rfl, hP, hS, lv_sub hl [0, 1, 2, 3] rfl, rfl⟩
      · skip
        refine lv_iload_n hx hb dX12_shownOf_52 rfl (lv_at hl 1 rfl) ?_
        refine lv_iconst (v := mI 1) hx hb dX12_shownOf_53 rfl ?_
        refine lv_iload_n hx hb dX12_shownOf_54 rfl (lv_at hl 0 rfl) ?_
        refine sy_shl1 hx hb dX12_shownOf_55 11 (by decide) 2048 (by decide) (by omega) (fun z_985 ez_985 hz_985 => ?_)
        refine sy_ior hx hb dX12_shownOf_56 12 (by decide) 4096 (by decide) (by omega) (by omega) (fun z_986 hz_986 => ?_)
        refine lv_istore_n (lv' := [(2, .int (mI z_986)), (3, .int (mI z_939)), (0, .ref (a 0)), (1, .int (mI p0))]) hx hb dX12_shownOf_57 rfl hl (by decide) rfl (fun ls hl => ?_)
        refine lv_iinc (v := mI (z_939 + 1)) (lv' := [(3, .int (mI (z_939 + 1))), (2, .int (mI z_986)), (0, .ref (a 0)), (1, .int (mI p0))]) hx hb dX12_shownOf_58 hl (k := 1) rfl (mI_ad rfl) (by decide) rfl (fun ls hl => ?_)
        refine lv_goto (tgt := 4) hx hb dX12_shownOf_61 (by decide) ?_
        exact ih_967 _ _ _ _ (by omega) ⟨(z_939 + 1), z_986, F_979, y_980, y_981, y_982, y_983, _, by omega, by omega, bF_979, by omega, by omega, by omega, by omega, rfl, hP, hS, lv_sub hl [0, 1, 2, 3] rfl, rfl⟩
    · skip
      refine sy_if_eq (tgt := 58) hx hb dX12_shownOf_22 (by decide) (by decide) (fun c_987 => ?_) (fun c9 => absurd c9 (by decide))
      refine lv_iinc (v := mI (z_939 + 1)) (lv' := [(3, .int (mI (z_939 + 1))), (2, .int (mI z_940)), (0, .ref (a 0)), (1, .int (mI p0))]) hx hb dX12_shownOf_58 hl (k := 0) rfl (mI_ad rfl) (by decide) rfl (fun ls hl => ?_)
      refine lv_goto (tgt := 4) hx hb dX12_shownOf_61 (by decide) ?_
      exact ih_967 _ _ _ _ (by omega) ⟨(z_939 + 1), z_940, F_941, y_942, y_943, y_944, y_945, _, by omega, by omega, bF_941, by omega, by omega, by omega, by omega, rfl, hP, hS, lv_sub hl [0, 1, 2, 3] rfl, rfl⟩
set_option maxHeartbeats 4000000 in
set_option maxRecDepth 100000 in
theorem kr_X12_beast {p0 p1 : Int} (hp0 : -2147483648 ≤ p0 ∧ p0 ≤ 2147483647) (hp1 : -2147483648 ≤ p1 ∧ p1 ≤ 2147483647) (h_x_bank : 0 ≤ x_bank ∧ x_bank ≤ 1) (h_x_askBeast : 0 ≤ x_askBeast ∧ x_askBeast ≤ 7) (h_x_askStroke : -2147483648 ≤ x_askStroke ∧ x_askStroke ≤ 2147483647) (h_x_askAge : -2147483648 ≤ x_askAge ∧ x_askAge ≤ 2147483647) (h_x_askSeason : -2147483648 ≤ x_askSeason ∧ x_askSeason ≤ 2147483647) (b_B_beasts : bd (0) 8 B_beasts) (b_B_told : bd (0) 31 B_told) (b_B_herdTold : bd (0) 7 B_herdTold) (b_B_born : bd (0) 99 B_born) (b_B_ruleFrom : bd (0) 1120 B_ruleFrom) (b_B_ruleTo : bd (0) 1120 B_ruleTo) (b_B_code : bd (-2147483648) 2147483647 B_code) (b_B_codeNumber : bd (-2147483648) 2147483647 B_codeNumber) (b_B_pile : bd (-2147483648) 2147483647 B_pile) (b_B_all : bA B_all) (g_Q : rQ x_bank B_told B_ruleFrom B_ruleTo B_code) : MetG l D k yX12_beast cX12_beast 3 (some .int) 5 [.ref (a 0), .int (mI p0), .int (mI p1)] (rW k a x_taped x_size x_faultKind x_faultPlace x_at x_end x_token x_number x_bank x_rb x_codes x_within x_piled x_unitsInRule x_askBeast x_askStroke x_askAge x_askSeason x_acts x_undone x_laid x_seens x_time x_fitting n_name B_tape B_text B_turns B_herds B_irons B_beasts B_units B_night B_draw B_told B_brands B_ironMarks B_herdTold B_born B_ruleFrom B_ruleTo B_code B_codeNumber B_eWhat B_eSign B_pile B_all B_burned B_was B_need B_laidRow B_long8 B_brings B_sBurning B_sStroke B_sIs B_sTold B_sUntold B_parts B_boxAll B_isBoxed G_hName G_iName G_bName ex) (qGi (fun r0 H => ∃ (F_pile : Nat → Int) (y_askBeast : Int) (y_askStroke : Int) (y_askAge : Int) (y_askSeason : Int), (-2147483648 ≤ r0 ∧ r0 ≤ 2147483647) ∧ (bd (-2147483648) 2147483647 F_pile) ∧ (0 ≤ y_askBeast ∧ y_askBeast ≤ 7) ∧ (-2147483648 ≤ y_askStroke ∧ y_askStroke ≤ 2147483647) ∧ (-2147483648 ≤ y_askAge ∧ y_askAge ≤ 2147483647) ∧ (-2147483648 ≤ y_askSeason ∧ y_askSeason ≤ 2147483647) ∧ va_P D vwCl (rW k a x_taped x_size x_faultKind x_faultPlace x_at x_end x_token x_number x_bank x_rb x_codes x_within x_piled x_unitsInRule y_askBeast y_askStroke y_askAge y_askSeason x_acts x_undone x_laid x_seens x_time x_fitting n_name B_tape B_text B_turns B_herds B_irons B_beasts B_units B_night B_draw B_told B_brands B_ironMarks B_herdTold B_born B_ruleFrom B_ruleTo B_code B_codeNumber B_eWhat B_eSign F_pile B_all B_burned B_was B_need B_laidRow B_long8 B_brings B_sBurning B_sStroke B_sIs B_sTold B_sUntold B_parts B_boxAll B_isBoxed G_hName G_iName G_bName ex) H)) := by
  refine metG_of 2 ck_X12_beast (Nat.le_of_ble_eq_true rfl) rMap (fun p e s m args below meth c A hx hb hml hr hlocks hown hts hK hD hA hP hS ls hl => ?_)
  have hown : s.vm.findClass "HideReaderModel" = some m.cls := hown
  have hl : lv_has ls 3 [(0, .ref (a 0)), (1, .int (mI p0)), (2, .int (mI p1))] := hl
  refine lv_aload_n hx hb dX12_beast_0 rfl (lv_at hl 0 rfl) ?_
  refine lv_iload_n hx hb dX12_beast_1 rfl (lv_at hl 1 rfl) ?_
  refine g_i (rDt hD) hS hA (g_V (own := "HideReaderModel") (As := [.int (mI p0)]) (rest := []) hx hb hml hown hts hK hP (rDt hD) (kr_X12_isBeast (l := l) (D := D) (k := k) (by omega) h_x_bank b_B_beasts) ck_X12_isBeast iv_X12_isBeast uw_8_145 (rv_o hK hP) rfl hl.1 rfl (Nat.le_of_ble_eq_true rfl) dX12_beast_2 ⟨Nat.le_of_ble_eq_true rfl, Nat.le_of_ble_eq_true rfl⟩ ⟨Nat.le_of_ble_eq_true rfl, Nat.le_of_ble_eq_true rfl⟩) (fun r_1 H locs hQ hS => ?_)
  obtain ⟨hq_r_1, hP⟩ := hQ
  rcases hq_r_1 with rfl | ⟨rfl, c_3_0⟩
  · skip
    refine sy_if_ne (tgt := 10) hx hb dX12_beast_5 (by decide) (by decide) (fun c9 => absurd c9 (by decide)) (fun c_4 => ?_)
    refine lv_iconst (v := mI (-1)) hx hb dX12_beast_8 rfl ?_
    exact r_i hx hb hr hlocks dX12_beast_9 hS ⟨B_pile, x_askBeast, x_askStroke, x_askAge, x_askSeason, by omega, b_B_pile, by omega, by omega, by omega, by omega, hP⟩
  · skip
    refine sy_if_ne (tgt := 10) hx hb dX12_beast_5 (by decide) (by decide) (fun c_5 => ?_) (fun c9 => absurd c9 (by decide))
    refine lv_iload_n hx hb dX12_beast_10 rfl (lv_at hl 2 rfl) ?_
    rcases (by omega : (p1 < 0 ∨ 5 < p1) ∨ p1 = 0 ∨ p1 = 1 ∨ p1 = 2 ∨ p1 = 3 ∨ p1 = 4 ∨ p1 = 5) with c_6 | c_6 | c_6 | c_6 | c_6 | c_6 | c_6
    · skip
      refine sy_tableOut (tgt := 106) hx hb dX12_beast_11 (by omega) c_6 (by decide) ?_
      refine lv_iconst (v := mI (-1)) hx hb dX12_beast_106 rfl ?_
      exact r_i hx hb hr hlocks dX12_beast_107 hS ⟨B_pile, x_askBeast, x_askStroke, x_askAge, x_askSeason, by omega, b_B_pile, by omega, by omega, by omega, by omega, hP⟩
    · skip
      refine sy_tableIn (tgt := 48) hx hb dX12_beast_11 0 c_6 (by decide) rfl (by decide) ?_
      refine lv_aload_n hx hb dX12_beast_48 rfl (lv_at hl 0 rfl) ?_
      refine rg_o_all hx hb hts hown hK hP uw_7_66 dX12_beast_49 ?_
      refine lv_iconst (v := mI 0) hx hb dX12_beast_52 rfl ?_
      refine lv_iload_n hx hb dX12_beast_53 rfl (lv_at hl 1 rfl) ?_
      refine sy_iadd hx hb dX12_beast_54 p0 (by omega) ?_
      refine rl_all hx hb hK hP dX12_beast_55 (by omega) (bA_bd b_B_all) (fun z_7 ez_7 hz_7 => ?_)
      have hz_7 := bA_hid b_B_all (by omega) ez_7
      exact r_i hx hb hr hlocks dX12_beast_56 hS ⟨B_pile, x_askBeast, x_askStroke, x_askAge, x_askSeason, by omega, b_B_pile, by omega, by omega, by omega, by omega, hP⟩
    · skip
      refine sy_tableIn (tgt := 57) hx hb dX12_beast_11 1 c_6 (by decide) rfl (by decide) ?_
      refine lv_aload_n hx hb dX12_beast_57 rfl (lv_at hl 0 rfl) ?_
      refine lv_iload_n hx hb dX12_beast_58 rfl (lv_at hl 1 rfl) ?_
      refine g_i (rDt hD) hS hA (g_V (own := "HideReaderModel") (As := [.int (mI p0)]) (rest := []) hx hb hml hown hts hK hP (rDt hD) (kr_X12_shownOf (l := l) (D := D) (k := k) (by omega) h_x_bank h_x_askBeast h_x_askStroke h_x_askAge h_x_askSeason b_B_told b_B_born b_B_ruleFrom b_B_ruleTo b_B_code b_B_codeNumber b_B_pile b_B_all g_Q) ck_X12_shownOf iv_X12_shownOf uw_8_149 (rv_o hK hP) rfl hl.1 rfl (Nat.le_of_ble_eq_true rfl) dX12_beast_59 ⟨Nat.le_of_ble_eq_true rfl, Nat.le_of_ble_eq_true rfl⟩ ⟨Nat.le_of_ble_eq_true rfl, Nat.le_of_ble_eq_true rfl⟩) (fun r_8 H locs hQ hS => ?_)
      obtain ⟨F_9, y_10, y_11, y_12, y_13, hr_8_0, bF_9, hr_8_2, hr_8_3, hr_8_4, hr_8_5, hP⟩ := hQ
      exact r_i hx hb hr hlocks dX12_beast_62 hS ⟨F_9, y_10, y_11, y_12, y_13, by omega, bF_9, by omega, by omega, by omega, by omega, hP⟩
    · skip
      refine sy_tableIn (tgt := 63) hx hb dX12_beast_11 2 c_6 (by decide) rfl (by decide) ?_
      refine lv_aload_n hx hb dX12_beast_63 rfl (lv_at hl 0 rfl) ?_
      refine rg_o_all hx hb hts hown hK hP uw_7_66 dX12_beast_64 ?_
      refine lv_bipush (v := mI 8) hx hb dX12_beast_67 (by decide) ?_
      refine lv_iload_n hx hb dX12_beast_69 rfl (lv_at hl 1 rfl) ?_
      refine sy_iadd hx hb dX12_beast_70 (p0 + 8) (by omega) ?_
      refine rl_all hx hb hK hP dX12_beast_71 (by omega) (bA_bd b_B_all) (fun z_14 ez_14 hz_14 => ?_)
      have hz_14 := bA_own b_B_all (by omega) ez_14
      exact r_i hx hb hr hlocks dX12_beast_72 hS ⟨B_pile, x_askBeast, x_askStroke, x_askAge, x_askSeason, by omega, b_B_pile, by omega, by omega, by omega, by omega, hP⟩
    · skip
      refine sy_tableIn (tgt := 73) hx hb dX12_beast_11 3 c_6 (by decide) rfl (by decide) ?_
      refine lv_aload_n hx hb dX12_beast_73 rfl (lv_at hl 0 rfl) ?_
      refine lv_iload_n hx hb dX12_beast_74 rfl (lv_at hl 1 rfl) ?_
      refine g_i (rDt hD) hS hA (g_V (own := "HideReaderModel") (As := [.int (mI p0)]) (rest := []) hx hb hml hown hts hK hP (rDt hD) (kr_X12_firstHerd (l := l) (D := D) (k := k) (by omega) h_x_bank b_B_herdTold) ck_X12_firstHerd iv_X12_firstHerd uw_6_216 (rv_o hK hP) rfl hl.1 rfl (Nat.le_of_ble_eq_true rfl) dX12_beast_75 ⟨Nat.le_of_ble_eq_true rfl, Nat.le_of_ble_eq_true rfl⟩ ⟨Nat.le_of_ble_eq_true rfl, Nat.le_of_ble_eq_true rfl⟩) (fun r_15 H locs hQ hS => ?_)
      obtain ⟨hr_15_0, hP⟩ := hQ
      exact r_i hx hb hr hlocks dX12_beast_78 hS ⟨B_pile, x_askBeast, x_askStroke, x_askAge, x_askSeason, by omega, b_B_pile, by omega, by omega, by omega, by omega, hP⟩
    · skip
      refine sy_tableIn (tgt := 79) hx hb dX12_beast_11 4 c_6 (by decide) rfl (by decide) ?_
      refine lv_aload_n hx hb dX12_beast_79 rfl (lv_at hl 0 rfl) ?_
      refine rg_o_born hx hb hts hown hK hP uw_7_45 dX12_beast_80 ?_
      refine lv_bipush (v := mI 8) hx hb dX12_beast_83 (by decide) ?_
      refine lv_aload_n hx hb dX12_beast_85 rfl (lv_at hl 0 rfl) ?_
      refine rg_o_bank hx hb hts hown hK hP uw_7_56 dX12_beast_86 ?_
      refine sy_imul hx hb dX12_beast_89 (8 * x_bank) rfl ?_
      refine lv_iload_n hx hb dX12_beast_90 rfl (lv_at hl 1 rfl) ?_
      refine sy_iadd hx hb dX12_beast_91 (8 * x_bank + p0) rfl ?_
      refine rl_born hx hb hK hP dX12_beast_92 (by omega) b_B_born (fun z_16 _ hz_16 => ?_)
      exact r_i hx hb hr hlocks dX12_beast_93 hS ⟨B_pile, x_askBeast, x_askStroke, x_askAge, x_askSeason, by omega, b_B_pile, by omega, by omega, by omega, by omega, hP⟩
    · skip
      refine sy_tableIn (tgt := 94) hx hb dX12_beast_11 5 c_6 (by decide) rfl (by decide) ?_
      refine lv_aload_n hx hb dX12_beast_94 rfl (lv_at hl 0 rfl) ?_
      refine rg_o_all hx hb hts hown hK hP uw_7_66 dX12_beast_95 ?_
      refine lv_iconst (v := mI 0) hx hb dX12_beast_98 rfl ?_
      refine lv_iload_n hx hb dX12_beast_99 rfl (lv_at hl 1 rfl) ?_
      refine sy_iadd hx hb dX12_beast_100 p0 (by omega) ?_
      refine rl_all hx hb hK hP dX12_beast_101 (by omega) (bA_bd b_B_all) (fun z_17 ez_17 hz_17 => ?_)
      have hz_17 := bA_hid b_B_all (by omega) ez_17
      refine g_i (rDt hD) hS hA (g_S (own := "HideReaderModel") (As := [.int (mI z_17)]) (rest := []) hx hb hml hown hts hK hP (rDt hD) (kr_X12_bitsOf (l := l) (D := D) (k := k) (by omega)) ck_X12_bitsOf uw_8_166 uw_8_165 rfl hl.1 rfl (Nat.le_of_ble_eq_true rfl) dX12_beast_102 ⟨Nat.le_of_ble_eq_true rfl, Nat.le_of_ble_eq_true rfl⟩ ⟨Nat.le_of_ble_eq_true rfl, Nat.le_of_ble_eq_true rfl⟩) (fun r_18 H locs hQ hS => ?_)
      obtain ⟨hr_18_0, hP⟩ := hQ
      exact r_i hx hb hr hlocks dX12_beast_105 hS ⟨B_pile, x_askBeast, x_askStroke, x_askAge, x_askSeason, by omega, b_B_pile, by omega, by omega, by omega, by omega, hP⟩
set_option maxHeartbeats 4000000 in
set_option maxRecDepth 100000 in
theorem kr_X12_shownAt {p0 p1 : Int} (hp0 : 0 ≤ p0 ∧ p0 ≤ 60) (hp1 : -1 ≤ p1 ∧ p1 ≤ 99) (h_x_bank : 0 ≤ x_bank ∧ x_bank ≤ 1) (h_x_askBeast : 0 ≤ x_askBeast ∧ x_askBeast ≤ 7) (h_x_askStroke : -2147483648 ≤ x_askStroke ∧ x_askStroke ≤ 2147483647) (h_x_askAge : -2147483648 ≤ x_askAge ∧ x_askAge ≤ 2147483647) (h_x_askSeason : -2147483648 ≤ x_askSeason ∧ x_askSeason ≤ 2147483647) (b_B_beasts : bd (0) 8 B_beasts) (b_B_told : bd (0) 31 B_told) (b_B_born : bd (0) 99 B_born) (b_B_ruleFrom : bd (0) 1120 B_ruleFrom) (b_B_ruleTo : bd (0) 1120 B_ruleTo) (b_B_code : bd (-2147483648) 2147483647 B_code) (b_B_codeNumber : bd (-2147483648) 2147483647 B_codeNumber) (b_B_pile : bd (-2147483648) 2147483647 B_pile) (b_B_all : bA B_all) (g_Q : rQ x_bank B_told B_ruleFrom B_ruleTo B_code) : MetG l D k yX12_shownAt cX12_shownAt 7 (some .int) 4 [.ref (a 0), .int (mI p0), .int (mI p1)] (rW k a x_taped x_size x_faultKind x_faultPlace x_at x_end x_token x_number x_bank x_rb x_codes x_within x_piled x_unitsInRule x_askBeast x_askStroke x_askAge x_askSeason x_acts x_undone x_laid x_seens x_time x_fitting n_name B_tape B_text B_turns B_herds B_irons B_beasts B_units B_night B_draw B_told B_brands B_ironMarks B_herdTold B_born B_ruleFrom B_ruleTo B_code B_codeNumber B_eWhat B_eSign B_pile B_all B_burned B_was B_need B_laidRow B_long8 B_brings B_sBurning B_sStroke B_sIs B_sTold B_sUntold B_parts B_boxAll B_isBoxed G_hName G_iName G_bName ex) (qGi (fun r0 H => ∃ (F_pile : Nat → Int) (y_askBeast : Int) (y_askStroke : Int) (y_askAge : Int) (y_askSeason : Int), (-2147483648 ≤ r0 ∧ r0 ≤ 2147483647) ∧ (bd (-2147483648) 2147483647 F_pile) ∧ (0 ≤ y_askBeast ∧ y_askBeast ≤ 7) ∧ (-2147483648 ≤ y_askStroke ∧ y_askStroke ≤ 2147483647) ∧ (-2147483648 ≤ y_askAge ∧ y_askAge ≤ 2147483647) ∧ (-2147483648 ≤ y_askSeason ∧ y_askSeason ≤ 2147483647) ∧ va_P D vwCl (rW k a x_taped x_size x_faultKind x_faultPlace x_at x_end x_token x_number x_bank x_rb x_codes x_within x_piled x_unitsInRule y_askBeast y_askStroke y_askAge y_askSeason x_acts x_undone x_laid x_seens x_time x_fitting n_name B_tape B_text B_turns B_herds B_irons B_beasts B_units B_night B_draw B_told B_brands B_ironMarks B_herdTold B_born B_ruleFrom B_ruleTo B_code B_codeNumber B_eWhat B_eSign F_pile B_all B_burned B_was B_need B_laidRow B_long8 B_brings B_sBurning B_sStroke B_sIs B_sTold B_sUntold B_parts B_boxAll B_isBoxed G_hName G_iName G_bName ex) H)) := by
  refine metG_of 2 ck_X12_shownAt (Nat.le_of_ble_eq_true rfl) rMap (fun p e s m args below meth c A hx hb hml hr hlocks hown hts hK hD hA hP hS ls hl => ?_)
  have hown : s.vm.findClass "HideReaderModel" = some m.cls := hown
  have hl : lv_has ls 7 [(0, .ref (a 0)), (1, .int (mI p0)), (2, .int (mI p1))] := hl
  refine lv_iconst (v := mI 0) hx hb dX12_shownAt_0 rfl ?_
  refine lv_istore_n (lv' := [(3, .int (mI 0)), (0, .ref (a 0)), (1, .int (mI p0)), (2, .int (mI p1))]) hx hb dX12_shownAt_1 rfl hl (by decide) rfl (fun ls hl => ?_)
  refine lv_iconst (v := mI 0) hx hb dX12_shownAt_2 rfl ?_
  refine lv_istore (lv' := [(4, .int (mI 0)), (3, .int (mI 0)), (0, .ref (a 0)), (1, .int (mI p0)), (2, .int (mI p1))]) hx hb dX12_shownAt_3 hl (by decide) rfl (fun ls hl => ?_)
  refine sy_loop (I := fun n H locs g => ∃ (z_37511 : Int) (z_37512 : Int) (F_37513 : Nat → Int) (y_37514 : Int) (y_37515 : Int) (y_37516 : Int) (y_37517 : Int) (ls : Array Slot), (0 ≤ z_37511 ∧ z_37511 ≤ 8) ∧ (-2147483648 ≤ z_37512 ∧ z_37512 ≤ 2147483647) ∧ (bd (-2147483648) 2147483647 F_37513) ∧ (0 ≤ y_37514 ∧ y_37514 ≤ 7) ∧ (-2147483648 ≤ y_37515 ∧ y_37515 ≤ 2147483647) ∧ (-2147483648 ≤ y_37516 ∧ y_37516 ≤ 2147483647) ∧ (-2147483648 ≤ y_37517 ∧ y_37517 ≤ 2147483647) ∧ (8 - z_37511).toNat = n ∧ va_P D vwCl (rW k a x_taped x_size x_faultKind x_faultPlace x_at x_end x_token x_number x_bank x_rb x_codes x_within x_piled x_unitsInRule y_37514 y_37515 y_37516 y_37517 x_acts x_undone x_laid x_seens x_time x_fitting n_name B_tape B_text B_turns B_herds B_irons B_beasts B_units B_night B_draw B_told B_brands B_ironMarks B_herdTold B_born B_ruleFrom B_ruleTo B_code B_codeNumber B_eWhat B_eSign F_37513 B_all B_burned B_was B_need B_laidRow B_long8 B_brings B_sBurning B_sStroke B_sIs B_sTold B_sUntold B_parts B_boxAll B_isBoxed G_hName G_iName G_bName ex) H ∧ va_S A s.heap H locs ∧ lv_has ls 7 [(4, .int (mI z_37511)), (3, .int (mI z_37512)), (0, .ref (a 0)), (1, .int (mI p0)), (2, .int (mI p1))] ∧ g = F0 m 5 ls []) ?_ _ ⟨0, 0, B_pile, x_askBeast, x_askStroke, x_askAge, x_askSeason, _, by omega, by omega, b_B_pile, by omega, by omega, by omega, by omega, rfl, hP, hS, lv_sub hl [0, 1, 2, 3, 4] rfl, rfl⟩
  intro n_37859 H locs g hI ih_37860
  obtain ⟨z_37511, z_37512, F_37513, y_37514, y_37515, y_37516, y_37517, ls, h5_0, h5_1, bF_37513, h5_3, h5_4, h5_5, h5_6, mn_37859, hP, hS, hl, rfl⟩ := hI
  refine lv_iload hx hb dX12_shownAt_5 (lv_at hl 0 rfl) ?_
  refine lv_aload_n hx hb dX12_shownAt_7 rfl (lv_at hl 2 rfl) ?_
  refine g_i (rDt hD) hS hA (g_V (own := "HideReaderModel") (As := []) (rest := [.int (mI z_37511)]) hx hb hml hown hts hK hP (rDt hD) (kr_X12_cattle (l := l) (D := D) (k := k) h_x_bank b_B_beasts) ck_X12_cattle iv_X12_cattle uw_6_212 (rv_o hK hP) rfl hl.1 rfl (Nat.le_of_ble_eq_true rfl) dX12_shownAt_8 ⟨Nat.le_of_ble_eq_true rfl, Nat.le_of_ble_eq_true rfl⟩ ⟨Nat.le_of_ble_eq_true rfl, Nat.le_of_ble_eq_true rfl⟩) (fun r_37861 H locs hQ hS => ?_)
  obtain ⟨hr_37861_0, hr_37861_1, hP⟩ := hQ
  refine sy_icmp_ge (tgt := 129) hx hb dX12_shownAt_11 (by decide) (by omega) (by omega) (fun c_37862 => ?_) (fun c_37862 => ?_)
  · skip
    refine lv_iload_n hx hb dX12_shownAt_129 rfl (lv_at hl 1 rfl) ?_
    exact r_i hx hb hr hlocks dX12_shownAt_130 hS ⟨F_37513, y_37514, y_37515, y_37516, y_37517, by omega, bF_37513, by omega, by omega, by omega, by omega, hP⟩
  · skip
    refine lv_iconst (v := mI 0) hx hb dX12_shownAt_14 rfl ?_
    refine lv_istore (lv' := [(5, .int (mI 0)), (4, .int (mI z_37511)), (3, .int (mI z_37512)), (0, .ref (a 0)), (1, .int (mI p0)), (2, .int (mI p1))]) hx hb dX12_shownAt_15 hl (by decide) rfl (fun ls hl => ?_)
    refine sy_loop (I := fun n H locs g => ∃ (z_38141 : Int) (z_38142 : Int) (F_38143 : Nat → Int) (y_38144 : Int) (y_38145 : Int) (y_38146 : Int) (y_38147 : Int) (ls : Array Slot), (0 ≤ z_38141 ∧ z_38141 ≤ 12) ∧ (-2147483648 ≤ z_38142 ∧ z_38142 ≤ 2147483647) ∧ (bd (-2147483648) 2147483647 F_38143) ∧ (0 ≤ y_38144 ∧ y_38144 ≤ 7) ∧ (-2147483648 ≤ y_38145 ∧ y_38145 ≤ 2147483647) ∧ (-2147483648 ≤ y_38146 ∧ y_38146 ≤ 2147483647) ∧ (-2147483648 ≤ y_38147 ∧ y_38147 ≤ 2147483647) ∧ (12 - z_38141).toNat = n ∧ va_P D vwCl (rW k a x_taped x_size x_faultKind x_faultPlace x_at x_end x_token x_number x_bank x_rb x_codes x_within x_piled x_unitsInRule y_38144 y_38145 y_38146 y_38147 x_acts x_undone x_laid x_seens x_time x_fitting n_name B_tape B_text B_turns B_herds B_irons B_beasts B_units B_night B_draw B_told B_brands B_ironMarks B_herdTold B_born B_ruleFrom B_ruleTo B_code B_codeNumber B_eWhat B_eSign F_38143 B_all B_burned B_was B_need B_laidRow B_long8 B_brings B_sBurning B_sStroke B_sIs B_sTold B_sUntold B_parts B_boxAll B_isBoxed G_hName G_iName G_bName ex) H ∧ va_S A s.heap H locs ∧ lv_has ls 7 [(5, .int (mI z_38141)), (4, .int (mI z_37511)), (3, .int (mI z_38142)), (0, .ref (a 0)), (1, .int (mI p0)), (2, .int (mI p1))] ∧ g = F0 m 17 ls []) ?_ _ ⟨0, z_37512, F_37513, y_37514, y_37515, y_37516, y_37517, _, by omega, by omega, bF_37513, by omega, by omega, by omega, by omega, rfl, hP, hS, lv_sub hl [0, 1, 2, 3, 4, 5] rfl, rfl⟩
    intro n_38174 H locs g hI ih_38175
    obtain ⟨z_38141, z_38142, F_38143, y_38144, y_38145, y_38146, y_38147, ls, h17_0, h17_1, bF_38143, h17_3, h17_4, h17_5, h17_6, mn_38174, hP, hS, hl, rfl⟩ := hI
    refine lv_iload hx hb dX12_shownAt_17 (lv_at hl 0 rfl) ?_
    refine lv_bipush (v := mI 12) hx hb dX12_shownAt_19 (by decide) ?_
    refine sy_icmp_ge (tgt := 123) hx hb dX12_shownAt_21 (by decide) (by omega) (by decide) (fun c_38176 => ?_) (fun c_38176 => ?_)
    · skip
      refine lv_iinc (v := mI (z_37511 + 1)) (lv' := [(4, .int (mI (z_37511 + 1))), (5, .int (mI z_38141)), (3, .int (mI z_38142)), (0, .ref (a 0)), (1, .int (mI p0)), (2, .int (mI p1))]) hx hb dX12_shownAt_123 hl (k := 1) rfl (mI_ad rfl) (by decide) rfl (fun ls hl => ?_)
      refine lv_goto (tgt := 5) hx hb dX12_shownAt_126 (by decide) ?_
      exact ih_37860 _ _ _ _ (by omega) ⟨(z_37511 + 1), z_38142, F_38143, y_38144, y_38145, y_38146, y_38147, _, by omega, by omega, bF_38143, by omega, by omega, by omega, by omega, rfl, hP, hS, lv_sub hl [0, 2, 3, 4, 5] rfl, rfl⟩
    · skip
      refine lv_aload_n hx hb dX12_shownAt_24 rfl (lv_at hl 3 rfl) ?_
      refine rg_o_all hx hb hts hown hK hP uw_7_66 dX12_shownAt_25 ?_
      refine lv_iconst (v := mI 0) hx hb dX12_shownAt_28 rfl ?_
      refine lv_iload hx hb dX12_shownAt_29 (lv_at hl 1 rfl) ?_
      refine sy_iadd hx hb dX12_shownAt_31 z_37511 (by omega) ?_
      refine rl_all hx hb hK hP dX12_shownAt_32 (by omega) (bA_bd b_B_all) (fun z_38177 ez_38177 hz_38177 => ?_)
      have hz_38177 := bA_hid b_B_all (by omega) ez_38177
      refine lv_iload hx hb dX12_shownAt_33 (lv_at hl 0 rfl) ?_
      refine g_i (rDt hD) hS hA (g_S (own := "HideReaderModel") (As := [.int (mI z_38177), .int (mI z_38141)]) (rest := []) hx hb hml hown hts hK hP (rDt hD) (kr_bit (l := l) (D := D) (k := k)) ck_X12_bit uw_6_229 uw_6_228 rfl hl.1 rfl (Nat.le_of_ble_eq_true rfl) dX12_shownAt_35 ⟨Nat.le_of_ble_eq_true rfl, Nat.le_of_ble_eq_true rfl⟩ ⟨Nat.le_of_ble_eq_true rfl, Nat.le_of_ble_eq_true rfl⟩) (fun r_38178 H locs hQ hS => ?_)
      obtain ⟨hq_r_38178, hP⟩ := hQ
      rcases hq_r_38178 with ⟨rfl, c_38179_0⟩ | ⟨rfl, c_38180_0⟩
      · skip
        refine sy_if_ne (tgt := 44) hx hb dX12_shownAt_38 (by decide) (by decide) (fun c_38181 => ?_) (fun c9 => absurd c9 (by decide))
        refine lv_aload_n hx hb dX12_shownAt_44 rfl (lv_at hl 3 rfl) ?_
        refine rg_o_all hx hb hts hown hK hP uw_7_66 dX12_shownAt_45 ?_
        refine lv_aload_n hx hb dX12_shownAt_48 rfl (lv_at hl 3 rfl) ?_
        refine lv_iload hx hb dX12_shownAt_49 (lv_at hl 1 rfl) ?_
        refine lv_iload hx hb dX12_shownAt_51 (lv_at hl 0 rfl) ?_
        refine g_i (rDt hD) hS hA (g_V (own := "HideReaderModel") (As := [.int (mI z_37511), .int (mI z_38141)]) (rest := [.ref (a 25)]) hx hb hml hown hts hK hP (rDt hD) (kr_X12_slot (l := l) (D := D) (k := k) (by omega) (by omega)) ck_X12_slot iv_X12_slot uw_6_224 (rv_o hK hP) rfl hl.1 rfl (Nat.le_of_ble_eq_true rfl) dX12_shownAt_53 ⟨Nat.le_of_ble_eq_true rfl, Nat.le_of_ble_eq_true rfl⟩ ⟨Nat.le_of_ble_eq_true rfl, Nat.le_of_ble_eq_true rfl⟩) (fun r_38182 H locs hQ hS => ?_)
        obtain ⟨hq_r_38182, hP⟩ := hQ
        obtain rfl := hq_r_38182
        refine rl_all hx hb hK hP dX12_shownAt_56 (by omega) (bA_bd b_B_all) (fun z_38184 ez_38184 hz_38184 => ?_)
        have hz_38184 := bA_age b_B_all (by omega) ez_38184
        refine lv_iload_n hx hb dX12_shownAt_57 rfl (lv_at hl 4 rfl) ?_
        refine sy_iadd hx hb dX12_shownAt_58 (z_38184 + p0) rfl ?_
        refine lv_istore (lv' := [(6, .int (mI (z_38184 + p0))), (5, .int (mI z_38141)), (4, .int (mI z_37511)), (3, .int (mI z_38142)), (0, .ref (a 0)), (1, .int (mI p0)), (2, .int (mI p1))]) hx hb dX12_shownAt_59 hl (by decide) rfl (fun ls hl => ?_)
        refine lv_iload_n hx hb dX12_shownAt_61 rfl (lv_at hl 6 rfl) ?_
        refine sy_join (I := fun H locs g => ∃ (z_38187 : Int) (ls : Array Slot), (0 ≤ z_38187 ∧ z_38187 ≤ 999) ∧ va_P D vwCl (rW k a x_taped x_size x_faultKind x_faultPlace x_at x_end x_token x_number x_bank x_rb x_codes x_within x_piled x_unitsInRule y_38144 y_38145 y_38146 y_38147 x_acts x_undone x_laid x_seens x_time x_fitting n_name B_tape B_text B_turns B_herds B_irons B_beasts B_units B_night B_draw B_told B_brands B_ironMarks B_herdTold B_born B_ruleFrom B_ruleTo B_code B_codeNumber B_eWhat B_eSign F_38143 B_all B_burned B_was B_need B_laidRow B_long8 B_brings B_sBurning B_sStroke B_sIs B_sTold B_sUntold B_parts B_boxAll B_isBoxed G_hName G_iName G_bName ex) H ∧ va_S A s.heap H locs ∧ lv_has ls 7 [(6, .int (mI (z_38184 + p0))), (5, .int (mI z_38141)), (4, .int (mI z_37511)), (3, .int (mI z_38142)), (0, .ref (a 0)), (1, .int (mI p0)), (2, .int (mI p1))] ∧ g = F0 m 85 ls [.int (mI z_38187)]) ?_ ?_
        · skip
          intro H locs g hI
          obtain ⟨z_38187, ls, h85_0, hP, hS, hl, rfl⟩ := hI
          refine lv_istore (lv' := [(6, .int (mI z_38187)), (5, .int (mI z_38141)), (4, .int (mI z_37511)), (3, .int (mI z_38142)), (0, .ref (a 0)), (1, .int (mI p0)), (2, .int (mI p1))]) hx hb dX12_shownAt_85 hl (by decide) rfl (fun ls hl => ?_)
          refine lv_iload_n hx hb dX12_shownAt_87 rfl (lv_at hl 3 rfl) ?_
          refine lv_aload_n hx hb dX12_shownAt_88 rfl (lv_at hl 4 rfl) ?_
          refine lv_iload hx hb dX12_shownAt_89 (lv_at hl 2 rfl) ?_
          refine lv_iload hx hb dX12_shownAt_91 (lv_at hl 1 rfl) ?_
          refine lv_iload hx hb dX12_shownAt_93 (lv_at hl 0 rfl) ?_
          refine lv_aload_n hx hb dX12_shownAt_95 rfl (lv_at hl 4 rfl) ?_
          refine rg_o_all hx hb hts hown hK hP uw_7_66 dX12_shownAt_96 ?_
          refine lv_bipush (v := mI 112) hx hb dX12_shownAt_99 (by decide) ?_
          refine rl_all hx hb hK hP dX12_shownAt_101 (by omega) (bA_bd b_B_all) (fun z_38189 ez_38189 hz_38189 => ?_)
          refine lv_iload_n hx hb dX12_shownAt_102 rfl (lv_at hl 5 rfl) ?_
          refine sy_iadd hx hb dX12_shownAt_103 (z_38189 + p0) rfl ?_
          refine sy_any (fun z_38190 hz_38190 => ?_)
          refine g_i (rDt hD) hS hA (g_V (own := "HideReaderModel") (As := [.int (mI z_37511), .int (mI z_38141), .int (mI z_38187), .int (mI z_38190)]) (rest := [.int (mI z_38142)]) hx hb hml hown hts hK hP (rDt hD) (kr_X12_doesShow (l := l) (D := D) (k := k) (by omega) (by omega) (by omega) (by omega) h_x_bank b_B_told b_B_born b_B_ruleFrom b_B_ruleTo b_B_code b_B_codeNumber bF_38143 b_B_all g_Q) ck_X12_doesShow iv_X12_doesShow uw_8_153 (rv_o hK hP) rfl hl.1 rfl (Nat.le_of_ble_eq_true rfl) dX12_shownAt_104 ⟨Nat.le_of_ble_eq_true rfl, Nat.le_of_ble_eq_true rfl⟩ ⟨Nat.le_of_ble_eq_true rfl, Nat.le_of_ble_eq_true rfl⟩) (fun r_38191 H locs hQ hS => ?_)
          obtain ⟨F_38192, y_38193, y_38194, y_38195, y_38196, hr_38191_0, bF_38192, hr_38191_2, hr_38191_3, hr_38191_4, hr_38191_5, hP⟩ := hQ
          refine sy_if_eq (tgt := 114) hx hb dX12_shownAt_107 (by decide) (by omega) (fun c_38197 => ?_) (fun c_38197 => ?_)
          · skip
            refine lv_iconst (v := mI 0) hx hb dX12_shownAt_114 rfl ?_
            refine sy_iadd hx hb dX12_shownAt_115 z_38142 (by omega) ?_
            refine lv_istore_n (lv' := [(3, .int (mI z_38142)), (6, .int (mI z_38187)), (5, .int (mI z_38141)), (4, .int (mI z_37511)), (0, .ref (a 0)), (1, .int (mI p0)), (2, .int (mI p1))]) hx hb dX12_shownAt_116 rfl hl (by decide) rfl (fun ls hl => ?_)
            refine lv_iinc (v := mI (z_38141 + 1)) (lv' := [(5, .int (mI (z_38141 + 1))), (3, .int (mI z_38142)), (6, .int (mI z_38187)), (4, .int (mI z_37511)), (0, .ref (a 0)), (1, .int (mI p0)), (2, .int (mI p1))]) hx hb dX12_shownAt_117 hl (k := 2) rfl (mI_ad rfl) (by decide) rfl (fun ls hl => ?_)
            refine lv_goto (tgt := 17) hx hb dX12_shownAt_120 (by decide) ?_
            exact ih_38175 _ _ _ _ (by omega) ⟨(z_38141 + 1), z_38142, F_38192, y_38193, y_38194, y_38195, y_38196, _, by omega, by omega, bF_38192, by omega, by omega, by omega, by omega, rfl, hP, hS, lv_sub hl [0, 3, 1, 4, 5, 6] rfl, rfl⟩
          · skip
            refine lv_iconst (v := mI 1) hx hb dX12_shownAt_110 rfl ?_
            refine lv_goto (tgt := 115) hx hb dX12_shownAt_111 (by decide) ?_
            refine sy_iadd hx hb dX12_shownAt_115 (z_38142 + 1) rfl ?_
            refine sy_any (fun z_38198 hz_38198 => ?_)
            refine lv_istore_n (lv' := [(3, .int (mI z_38198)), (6, .int (mI z_38187)), (5, .int (mI z_38141)), (4, .int (mI z_37511)), (0, .ref (a 0)), (1, .int (mI p0)), (2, .int (mI p1))]) hx hb dX12_shownAt_116 rfl hl (by decide) rfl (fun ls hl => ?_)
            refine lv_iinc (v := mI (z_38141 + 1)) (lv' := [(5, .int (mI (z_38141 + 1))), (3, .int (mI z_38198)), (6, .int (mI z_38187)), (4, .int (mI z_37511)), (0, .ref (a 0)), (1, .int (mI p0)), (2, .int (mI p1))]) hx hb dX12_shownAt_117 hl (k := 2) rfl (mI_ad rfl) (by decide) rfl (fun ls hl => ?_)
            refine lv_goto (tgt := 17) hx hb dX12_shownAt_120 (by decide) ?_
            exact ih_38175 _ _ _ _ (by omega) ⟨(z_38141 + 1), z_38198, F_38192, y_38193, y_38194, y_38195, y_38196, _, by omega, by omega, bF_38192, by omega, by omega, by omega, by omega, rfl, hP, hS, lv_sub hl [0, 3, 1, 4, 5, 6] rfl, rfl⟩
        · skip
          intro J_38188
          refine sy_if_lt (tgt := 69) hx hb dX12_shownAt_62 (by decide) (by omega) (fun c_38199 => ?_) (fun c_38199 => ?_)
          · skip
            refine lv_iload hx hb dX12_shownAt_69 (lv_at hl 0 rfl) ?_
            refine lv_sipush (v := mI 999) hx hb dX12_shownAt_71 (by decide) ?_
            refine sy_icmp_ge (tgt := 82) hx hb dX12_shownAt_74 (by decide) (by omega) (by decide) (fun c_38200 => ?_) (fun c_38200 => ?_)
            · skip
              refine lv_sipush (v := mI 999) hx hb dX12_shownAt_82 (by decide) ?_
              exact J_38188 _ _ _ ⟨999, _, by omega, hP, hS, lv_sub hl [0, 1, 2, 3, 4, 5, 6] rfl, rfl⟩
            · skip
              refine lv_iload hx hb dX12_shownAt_77 (lv_at hl 0 rfl) ?_
              refine lv_goto (tgt := 85) hx hb dX12_shownAt_79 (by decide) ?_
              exact J_38188 _ _ _ ⟨(z_38184 + p0), _, by omega, hP, hS, lv_sub hl [0, 1, 2, 3, 4, 5, 6] rfl, rfl⟩
          · skip
            refine lv_iload_n hx hb dX12_shownAt_65 rfl (lv_at hl 6 rfl) ?_
            refine lv_goto (tgt := 85) hx hb dX12_shownAt_66 (by decide) ?_
            exact J_38188 _ _ _ ⟨p1, _, by omega, hP, hS, lv_sub hl [0, 1, 2, 3, 4, 5, 6] rfl, rfl⟩
      · skip
        refine sy_if_ne (tgt := 44) hx hb dX12_shownAt_38 (by decide) (by decide) (fun c9 => absurd c9 (by decide)) (fun c_38201 => ?_)
        refine lv_goto (tgt := 117) hx hb dX12_shownAt_41 (by decide) ?_
        refine lv_iinc (v := mI (z_38141 + 1)) (lv' := [(5, .int (mI (z_38141 + 1))), (4, .int (mI z_37511)), (3, .int (mI z_38142)), (0, .ref (a 0)), (1, .int (mI p0)), (2, .int (mI p1))]) hx hb dX12_shownAt_117 hl (k := 0) rfl (mI_ad rfl) (by decide) rfl (fun ls hl => ?_)
        refine lv_goto (tgt := 17) hx hb dX12_shownAt_120 (by decide) ?_
        exact ih_38175 _ _ _ _ (by omega) ⟨(z_38141 + 1), z_38142, F_38143, y_38144, y_38145, y_38146, y_38147, _, by omega, by omega, bF_38143, by omega, by omega, by omega, by omega, rfl, hP, hS, lv_sub hl [0, 1, 2, 3, 4, 5] rfl, rfl⟩
set_option maxHeartbeats 4000000 in
set_option maxRecDepth 100000 in
theorem kr_X12_will {p0 : Int} (hp0 : -2147483648 ≤ p0 ∧ p0 ≤ 2147483647) (h_x_bank : 0 ≤ x_bank ∧ x_bank ≤ 1) (h_x_askBeast : 0 ≤ x_askBeast ∧ x_askBeast ≤ 7) (h_x_askStroke : -2147483648 ≤ x_askStroke ∧ x_askStroke ≤ 2147483647) (h_x_askAge : -2147483648 ≤ x_askAge ∧ x_askAge ≤ 2147483647) (h_x_askSeason : -2147483648 ≤ x_askSeason ∧ x_askSeason ≤ 2147483647) (b_B_beasts : bd (0) 8 B_beasts) (b_B_told : bd (0) 31 B_told) (b_B_born : bd (0) 99 B_born) (b_B_ruleFrom : bd (0) 1120 B_ruleFrom) (b_B_ruleTo : bd (0) 1120 B_ruleTo) (b_B_code : bd (-2147483648) 2147483647 B_code) (b_B_codeNumber : bd (-2147483648) 2147483647 B_codeNumber) (b_B_pile : bd (-2147483648) 2147483647 B_pile) (b_B_all : bA B_all) (g_Q : rQ x_bank B_told B_ruleFrom B_ruleTo B_code) : MetG l D k yX12_will cX12_will 2 (some .int) 5 [.ref (a 0), .int (mI p0)] (rW k a x_taped x_size x_faultKind x_faultPlace x_at x_end x_token x_number x_bank x_rb x_codes x_within x_piled x_unitsInRule x_askBeast x_askStroke x_askAge x_askSeason x_acts x_undone x_laid x_seens x_time x_fitting n_name B_tape B_text B_turns B_herds B_irons B_beasts B_units B_night B_draw B_told B_brands B_ironMarks B_herdTold B_born B_ruleFrom B_ruleTo B_code B_codeNumber B_eWhat B_eSign B_pile B_all B_burned B_was B_need B_laidRow B_long8 B_brings B_sBurning B_sStroke B_sIs B_sTold B_sUntold B_parts B_boxAll B_isBoxed G_hName G_iName G_bName ex) (qGi (fun r0 H => ∃ (F_pile : Nat → Int) (y_askBeast : Int) (y_askStroke : Int) (y_askAge : Int) (y_askSeason : Int), (-2147483648 ≤ r0 ∧ r0 ≤ 2147483647) ∧ (bd (-2147483648) 2147483647 F_pile) ∧ (0 ≤ y_askBeast ∧ y_askBeast ≤ 7) ∧ (-2147483648 ≤ y_askStroke ∧ y_askStroke ≤ 2147483647) ∧ (-2147483648 ≤ y_askAge ∧ y_askAge ≤ 2147483647) ∧ (-2147483648 ≤ y_askSeason ∧ y_askSeason ≤ 2147483647) ∧ va_P D vwCl (rW k a x_taped x_size x_faultKind x_faultPlace x_at x_end x_token x_number x_bank x_rb x_codes x_within x_piled x_unitsInRule y_askBeast y_askStroke y_askAge y_askSeason x_acts x_undone x_laid x_seens x_time x_fitting n_name B_tape B_text B_turns B_herds B_irons B_beasts B_units B_night B_draw B_told B_brands B_ironMarks B_herdTold B_born B_ruleFrom B_ruleTo B_code B_codeNumber B_eWhat B_eSign F_pile B_all B_burned B_was B_need B_laidRow B_long8 B_brings B_sBurning B_sStroke B_sIs B_sTold B_sUntold B_parts B_boxAll B_isBoxed G_hName G_iName G_bName ex) H)) := by
  refine metG_of 1 ck_X12_will (Nat.le_of_ble_eq_true rfl) rMap (fun p e s m args below meth c A hx hb hml hr hlocks hown hts hK hD hA hP hS ls hl => ?_)
  have hown : s.vm.findClass "HideReaderModel" = some m.cls := hown
  have hl : lv_has ls 2 [(0, .ref (a 0)), (1, .int (mI p0))] := hl
  refine lv_iload_n hx hb dX12_will_0 rfl (lv_at hl 1 rfl) ?_
  refine lv_iconst (v := mI 0) hx hb dX12_will_1 rfl ?_
  refine lv_bipush (v := mI 60) hx hb dX12_will_2 (by decide) ?_
  refine g_i (rDt hD) hS hA (g_S (own := "HideReaderModel") (As := [.int (mI p0), .int (mI 0), .int (mI 60)]) (rest := []) hx hb hml hown hts hK hP (rDt hD) (kr_X12_isIn (l := l) (D := D) (k := k) (by omega) (by decide) (by decide)) ck_X12_isIn uw_8_131 uw_8_130 rfl hl.1 rfl (Nat.le_of_ble_eq_true rfl) dX12_will_4 ⟨Nat.le_of_ble_eq_true rfl, Nat.le_of_ble_eq_true rfl⟩ ⟨Nat.le_of_ble_eq_true rfl, Nat.le_of_ble_eq_true rfl⟩) (fun r_1 H locs hQ hS => ?_)
  obtain ⟨hq_r_1, hP⟩ := hQ
  rcases hq_r_1 with ⟨rfl, c_2_0⟩ | ⟨rfl, c_3_0, c_3_1⟩
  · skip
    refine sy_if_eq (tgt := 19) hx hb dX12_will_7 (by decide) (by decide) (fun c_4 => ?_) (fun c9 => absurd c9 (by decide))
    refine lv_iconst (v := mI (-1)) hx hb dX12_will_19 rfl ?_
    exact r_i hx hb hr hlocks dX12_will_20 hS ⟨B_pile, x_askBeast, x_askStroke, x_askAge, x_askSeason, by omega, b_B_pile, by omega, by omega, by omega, by omega, hP⟩
  · skip
    refine sy_if_eq (tgt := 19) hx hb dX12_will_7 (by decide) (by decide) (fun c9 => absurd c9 (by decide)) (fun c_5 => ?_)
    refine lv_aload_n hx hb dX12_will_10 rfl (lv_at hl 0 rfl) ?_
    refine lv_iload_n hx hb dX12_will_11 rfl (lv_at hl 1 rfl) ?_
    refine lv_iconst (v := mI (-1)) hx hb dX12_will_12 rfl ?_
    refine g_i (rDt hD) hS hA (g_V (own := "HideReaderModel") (As := [.int (mI p0), .int (mI (-1))]) (rest := []) hx hb hml hown hts hK hP (rDt hD) (kr_X12_shownAt (l := l) (D := D) (k := k) (by omega) (by decide) h_x_bank h_x_askBeast h_x_askStroke h_x_askAge h_x_askSeason b_B_beasts b_B_told b_B_born b_B_ruleFrom b_B_ruleTo b_B_code b_B_codeNumber b_B_pile b_B_all g_Q) ck_X12_shownAt iv_X12_shownAt uw_8_226 (rv_o hK hP) rfl hl.1 rfl (Nat.le_of_ble_eq_true rfl) dX12_will_13 ⟨Nat.le_of_ble_eq_true rfl, Nat.le_of_ble_eq_true rfl⟩ ⟨Nat.le_of_ble_eq_true rfl, Nat.le_of_ble_eq_true rfl⟩) (fun r_6 H locs hQ hS => ?_)
    obtain ⟨F_7, y_8, y_9, y_10, y_11, hr_6_0, bF_7, hr_6_2, hr_6_3, hr_6_4, hr_6_5, hP⟩ := hQ
    refine lv_goto (tgt := 20) hx hb dX12_will_16 (by decide) ?_
    exact r_i hx hb hr hlocks dX12_will_20 hS ⟨F_7, y_8, y_9, y_10, y_11, by omega, bF_7, by omega, by omega, by omega, by omega, hP⟩
set_option maxHeartbeats 4000000 in
set_option maxRecDepth 100000 in
theorem kr_X12_law {p0 : Int} (hp0 : -2147483648 ≤ p0 ∧ p0 ≤ 2147483647) (h_x_bank : 0 ≤ x_bank ∧ x_bank ≤ 1) (h_x_askBeast : 0 ≤ x_askBeast ∧ x_askBeast ≤ 7) (h_x_askStroke : -2147483648 ≤ x_askStroke ∧ x_askStroke ≤ 2147483647) (h_x_askAge : -2147483648 ≤ x_askAge ∧ x_askAge ≤ 2147483647) (h_x_askSeason : -2147483648 ≤ x_askSeason ∧ x_askSeason ≤ 2147483647) (b_B_beasts : bd (0) 8 B_beasts) (b_B_told : bd (0) 31 B_told) (b_B_born : bd (0) 99 B_born) (b_B_ruleFrom : bd (0) 1120 B_ruleFrom) (b_B_ruleTo : bd (0) 1120 B_ruleTo) (b_B_code : bd (-2147483648) 2147483647 B_code) (b_B_codeNumber : bd (-2147483648) 2147483647 B_codeNumber) (b_B_pile : bd (-2147483648) 2147483647 B_pile) (b_B_all : bA B_all) (g_Q : rQ x_bank B_told B_ruleFrom B_ruleTo B_code) : MetG l D k yX12_law cX12_law 2 (some .int) 5 [.ref (a 0), .int (mI p0)] (rW k a x_taped x_size x_faultKind x_faultPlace x_at x_end x_token x_number x_bank x_rb x_codes x_within x_piled x_unitsInRule x_askBeast x_askStroke x_askAge x_askSeason x_acts x_undone x_laid x_seens x_time x_fitting n_name B_tape B_text B_turns B_herds B_irons B_beasts B_units B_night B_draw B_told B_brands B_ironMarks B_herdTold B_born B_ruleFrom B_ruleTo B_code B_codeNumber B_eWhat B_eSign B_pile B_all B_burned B_was B_need B_laidRow B_long8 B_brings B_sBurning B_sStroke B_sIs B_sTold B_sUntold B_parts B_boxAll B_isBoxed G_hName G_iName G_bName ex) (qGi (fun r0 H => ∃ (F_pile : Nat → Int) (y_askBeast : Int) (y_askStroke : Int) (y_askAge : Int) (y_askSeason : Int), (-2147483648 ≤ r0 ∧ r0 ≤ 2147483647) ∧ (bd (-2147483648) 2147483647 F_pile) ∧ (0 ≤ y_askBeast ∧ y_askBeast ≤ 7) ∧ (-2147483648 ≤ y_askStroke ∧ y_askStroke ≤ 2147483647) ∧ (-2147483648 ≤ y_askAge ∧ y_askAge ≤ 2147483647) ∧ (-2147483648 ≤ y_askSeason ∧ y_askSeason ≤ 2147483647) ∧ va_P D vwCl (rW k a x_taped x_size x_faultKind x_faultPlace x_at x_end x_token x_number x_bank x_rb x_codes x_within x_piled x_unitsInRule y_askBeast y_askStroke y_askAge y_askSeason x_acts x_undone x_laid x_seens x_time x_fitting n_name B_tape B_text B_turns B_herds B_irons B_beasts B_units B_night B_draw B_told B_brands B_ironMarks B_herdTold B_born B_ruleFrom B_ruleTo B_code B_codeNumber B_eWhat B_eSign F_pile B_all B_burned B_was B_need B_laidRow B_long8 B_brings B_sBurning B_sStroke B_sIs B_sTold B_sUntold B_parts B_boxAll B_isBoxed G_hName G_iName G_bName ex) H)) := by
  refine metG_of 1 ck_X12_law (Nat.le_of_ble_eq_true rfl) rMap (fun p e s m args below meth c A hx hb hml hr hlocks hown hts hK hD hA hP hS ls hl => ?_)
  have hown : s.vm.findClass "HideReaderModel" = some m.cls := hown
  have hl : lv_has ls 2 [(0, .ref (a 0)), (1, .int (mI p0))] := hl
  refine lv_iload_n hx hb dX12_law_0 rfl (lv_at hl 1 rfl) ?_
  refine lv_iconst (v := mI 0) hx hb dX12_law_1 rfl ?_
  refine lv_bipush (v := mI 99) hx hb dX12_law_2 (by decide) ?_
  refine g_i (rDt hD) hS hA (g_S (own := "HideReaderModel") (As := [.int (mI p0), .int (mI 0), .int (mI 99)]) (rest := []) hx hb hml hown hts hK hP (rDt hD) (kr_X12_isIn (l := l) (D := D) (k := k) (by omega) (by decide) (by decide)) ck_X12_isIn uw_8_131 uw_8_130 rfl hl.1 rfl (Nat.le_of_ble_eq_true rfl) dX12_law_4 ⟨Nat.le_of_ble_eq_true rfl, Nat.le_of_ble_eq_true rfl⟩ ⟨Nat.le_of_ble_eq_true rfl, Nat.le_of_ble_eq_true rfl⟩) (fun r_1 H locs hQ hS => ?_)
  obtain ⟨hq_r_1, hP⟩ := hQ
  rcases hq_r_1 with ⟨rfl, c_2_0⟩ | ⟨rfl, c_3_0, c_3_1⟩
  · skip
    refine sy_if_eq (tgt := 19) hx hb dX12_law_7 (by decide) (by decide) (fun c_4 => ?_) (fun c9 => absurd c9 (by decide))
    refine lv_iconst (v := mI (-1)) hx hb dX12_law_19 rfl ?_
    exact r_i hx hb hr hlocks dX12_law_20 hS ⟨B_pile, x_askBeast, x_askStroke, x_askAge, x_askSeason, by omega, b_B_pile, by omega, by omega, by omega, by omega, hP⟩
  · skip
    refine sy_if_eq (tgt := 19) hx hb dX12_law_7 (by decide) (by decide) (fun c9 => absurd c9 (by decide)) (fun c_5 => ?_)
    refine lv_aload_n hx hb dX12_law_10 rfl (lv_at hl 0 rfl) ?_
    refine lv_iconst (v := mI 0) hx hb dX12_law_11 rfl ?_
    refine lv_iload_n hx hb dX12_law_12 rfl (lv_at hl 1 rfl) ?_
    refine g_i (rDt hD) hS hA (g_V (own := "HideReaderModel") (As := [.int (mI 0), .int (mI p0)]) (rest := []) hx hb hml hown hts hK hP (rDt hD) (kr_X12_shownAt (l := l) (D := D) (k := k) (by decide) (by omega) h_x_bank h_x_askBeast h_x_askStroke h_x_askAge h_x_askSeason b_B_beasts b_B_told b_B_born b_B_ruleFrom b_B_ruleTo b_B_code b_B_codeNumber b_B_pile b_B_all g_Q) ck_X12_shownAt iv_X12_shownAt uw_8_226 (rv_o hK hP) rfl hl.1 rfl (Nat.le_of_ble_eq_true rfl) dX12_law_13 ⟨Nat.le_of_ble_eq_true rfl, Nat.le_of_ble_eq_true rfl⟩ ⟨Nat.le_of_ble_eq_true rfl, Nat.le_of_ble_eq_true rfl⟩) (fun r_6 H locs hQ hS => ?_)
    obtain ⟨F_7, y_8, y_9, y_10, y_11, hr_6_0, bF_7, hr_6_2, hr_6_3, hr_6_4, hr_6_5, hP⟩ := hQ
    refine lv_goto (tgt := 20) hx hb dX12_law_16 (by decide) ?_
    exact r_i hx hb hr hlocks dX12_law_20 hS ⟨F_7, y_8, y_9, y_10, y_11, by omega, bF_7, by omega, by omega, by omega, by omega, hP⟩
set_option maxHeartbeats 4000000 in
set_option maxRecDepth 100000 in
theorem kr_X12_shownBehind {p0 p1 : Int} (hp0 : 0 ≤ p0 ∧ p0 ≤ 7) (hp1 : 0 ≤ p1 ∧ p1 ≤ 60) (h_x_bank : 0 ≤ x_bank ∧ x_bank ≤ 1) (h_x_askBeast : 0 ≤ x_askBeast ∧ x_askBeast ≤ 7) (h_x_askStroke : -2147483648 ≤ x_askStroke ∧ x_askStroke ≤ 2147483647) (h_x_askAge : -2147483648 ≤ x_askAge ∧ x_askAge ≤ 2147483647) (h_x_askSeason : -2147483648 ≤ x_askSeason ∧ x_askSeason ≤ 2147483647) (b_B_told : bd (0) 31 B_told) (b_B_born : bd (0) 99 B_born) (b_B_ruleFrom : bd (0) 1120 B_ruleFrom) (b_B_ruleTo : bd (0) 1120 B_ruleTo) (b_B_code : bd (-2147483648) 2147483647 B_code) (b_B_codeNumber : bd (-2147483648) 2147483647 B_codeNumber) (b_B_pile : bd (-2147483648) 2147483647 B_pile) (b_B_all : bA B_all) (g_Q : rQ x_bank B_told B_ruleFrom B_ruleTo B_code) : MetG l D k yX12_shownBehind cX12_shownBehind 6 (some .int) 4 [.ref (a 0), .int (mI p0), .int (mI p1)] (rW k a x_taped x_size x_faultKind x_faultPlace x_at x_end x_token x_number x_bank x_rb x_codes x_within x_piled x_unitsInRule x_askBeast x_askStroke x_askAge x_askSeason x_acts x_undone x_laid x_seens x_time x_fitting n_name B_tape B_text B_turns B_herds B_irons B_beasts B_units B_night B_draw B_told B_brands B_ironMarks B_herdTold B_born B_ruleFrom B_ruleTo B_code B_codeNumber B_eWhat B_eSign B_pile B_all B_burned B_was B_need B_laidRow B_long8 B_brings B_sBurning B_sStroke B_sIs B_sTold B_sUntold B_parts B_boxAll B_isBoxed G_hName G_iName G_bName ex) (qGi (fun r0 H => ∃ (F_pile : Nat → Int) (y_askBeast : Int) (y_askStroke : Int) (y_askAge : Int) (y_askSeason : Int), (0 ≤ r0 ∧ r0 ≤ 12) ∧ (bd (-2147483648) 2147483647 F_pile) ∧ (0 ≤ y_askBeast ∧ y_askBeast ≤ 7) ∧ (-2147483648 ≤ y_askStroke ∧ y_askStroke ≤ 2147483647) ∧ (-2147483648 ≤ y_askAge ∧ y_askAge ≤ 2147483647) ∧ (-2147483648 ≤ y_askSeason ∧ y_askSeason ≤ 2147483647) ∧ va_P D vwCl (rW k a x_taped x_size x_faultKind x_faultPlace x_at x_end x_token x_number x_bank x_rb x_codes x_within x_piled x_unitsInRule y_askBeast y_askStroke y_askAge y_askSeason x_acts x_undone x_laid x_seens x_time x_fitting n_name B_tape B_text B_turns B_herds B_irons B_beasts B_units B_night B_draw B_told B_brands B_ironMarks B_herdTold B_born B_ruleFrom B_ruleTo B_code B_codeNumber B_eWhat B_eSign F_pile B_all B_burned B_was B_need B_laidRow B_long8 B_brings B_sBurning B_sStroke B_sIs B_sTold B_sUntold B_parts B_boxAll B_isBoxed G_hName G_iName G_bName ex) H)) := by
  refine metG_of 2 ck_X12_shownBehind (Nat.le_of_ble_eq_true rfl) rMap (fun p e s m args below meth c A hx hb hml hr hlocks hown hts hK hD hA hP hS ls hl => ?_)
  have hown : s.vm.findClass "HideReaderModel" = some m.cls := hown
  have hl : lv_has ls 6 [(0, .ref (a 0)), (1, .int (mI p0)), (2, .int (mI p1))] := hl
  refine lv_iconst (v := mI 0) hx hb dX12_shownBehind_0 rfl ?_
  refine lv_istore_n (lv' := [(3, .int (mI 0)), (0, .ref (a 0)), (1, .int (mI p0)), (2, .int (mI p1))]) hx hb dX12_shownBehind_1 rfl hl (by decide) rfl (fun ls hl => ?_)
  refine lv_iconst (v := mI 0) hx hb dX12_shownBehind_2 rfl ?_
  refine lv_istore (lv' := [(4, .int (mI 0)), (3, .int (mI 0)), (0, .ref (a 0)), (1, .int (mI p0)), (2, .int (mI p1))]) hx hb dX12_shownBehind_3 hl (by decide) rfl (fun ls hl => ?_)
  refine sy_loop (I := fun n H locs g => ∃ (z_258 : Int) (z_259 : Int) (F_260 : Nat → Int) (y_261 : Int) (y_262 : Int) (y_263 : Int) (y_264 : Int) (ls : Array Slot), (0 ≤ z_258 ∧ z_258 ≤ 12) ∧ (0 ≤ z_259 ∧ z_259 ≤ 12) ∧ (bd (-2147483648) 2147483647 F_260) ∧ (0 ≤ y_261 ∧ y_261 ≤ 7) ∧ (-2147483648 ≤ y_262 ∧ y_262 ≤ 2147483647) ∧ (-2147483648 ≤ y_263 ∧ y_263 ≤ 2147483647) ∧ (-2147483648 ≤ y_264 ∧ y_264 ≤ 2147483647) ∧ (0 ≤ z_258 - z_259) ∧ (12 - z_258).toNat = n ∧ va_P D vwCl (rW k a x_taped x_size x_faultKind x_faultPlace x_at x_end x_token x_number x_bank x_rb x_codes x_within x_piled x_unitsInRule y_261 y_262 y_263 y_264 x_acts x_undone x_laid x_seens x_time x_fitting n_name B_tape B_text B_turns B_herds B_irons B_beasts B_units B_night B_draw B_told B_brands B_ironMarks B_herdTold B_born B_ruleFrom B_ruleTo B_code B_codeNumber B_eWhat B_eSign F_260 B_all B_burned B_was B_need B_laidRow B_long8 B_brings B_sBurning B_sStroke B_sIs B_sTold B_sUntold B_parts B_boxAll B_isBoxed G_hName G_iName G_bName ex) H ∧ va_S A s.heap H locs ∧ lv_has ls 6 [(4, .int (mI z_258)), (3, .int (mI z_259)), (0, .ref (a 0)), (1, .int (mI p0)), (2, .int (mI p1))] ∧ g = F0 m 5 ls []) ?_ _ ⟨0, 0, B_pile, x_askBeast, x_askStroke, x_askAge, x_askSeason, _, by omega, by omega, b_B_pile, by omega, by omega, by omega, by omega, by omega, rfl, hP, hS, lv_sub hl [0, 1, 2, 3, 4] rfl, rfl⟩
  intro n_288 H locs g hI ih_289
  obtain ⟨z_258, z_259, F_260, y_261, y_262, y_263, y_264, ls, h5_0, h5_1, bF_260, h5_3, h5_4, h5_5, h5_6, h5_7, mn_288, hP, hS, hl, rfl⟩ := hI
  refine lv_iload hx hb dX12_shownBehind_5 (lv_at hl 0 rfl) ?_
  refine lv_bipush (v := mI 12) hx hb dX12_shownBehind_7 (by decide) ?_
  refine sy_icmp_ge (tgt := 96) hx hb dX12_shownBehind_9 (by decide) (by omega) (by decide) (fun c_290 => ?_) (fun c_290 => ?_)
  · skip
    refine lv_iload_n hx hb dX12_shownBehind_96 rfl (lv_at hl 1 rfl) ?_
    exact r_i hx hb hr hlocks dX12_shownBehind_97 hS ⟨F_260, y_261, y_262, y_263, y_264, by omega, bF_260, by omega, by omega, by omega, by omega, hP⟩
  · skip
    refine lv_aload_n hx hb dX12_shownBehind_12 rfl (lv_at hl 2 rfl) ?_
    refine rg_o_all hx hb hts hown hK hP uw_7_66 dX12_shownBehind_13 ?_
    refine lv_iconst (v := mI 0) hx hb dX12_shownBehind_16 rfl ?_
    refine lv_iload_n hx hb dX12_shownBehind_17 rfl (lv_at hl 3 rfl) ?_
    refine sy_iadd hx hb dX12_shownBehind_18 p0 (by omega) ?_
    refine rl_all hx hb hK hP dX12_shownBehind_19 (by omega) (bA_bd b_B_all) (fun z_291 ez_291 hz_291 => ?_)
    have hz_291 := bA_hid b_B_all (by omega) ez_291
    refine lv_iload hx hb dX12_shownBehind_20 (lv_at hl 0 rfl) ?_
    refine g_i (rDt hD) hS hA (g_S (own := "HideReaderModel") (As := [.int (mI z_291), .int (mI z_258)]) (rest := []) hx hb hml hown hts hK hP (rDt hD) (kr_bit (l := l) (D := D) (k := k)) ck_X12_bit uw_6_229 uw_6_228 rfl hl.1 rfl (Nat.le_of_ble_eq_true rfl) dX12_shownBehind_22 ⟨Nat.le_of_ble_eq_true rfl, Nat.le_of_ble_eq_true rfl⟩ ⟨Nat.le_of_ble_eq_true rfl, Nat.le_of_ble_eq_true rfl⟩) (fun r_292 H locs hQ hS => ?_)
    obtain ⟨hq_r_292, hP⟩ := hQ
    rcases hq_r_292 with ⟨rfl, c_293_0⟩ | ⟨rfl, c_294_0⟩
    · skip
      refine sy_if_ne (tgt := 31) hx hb dX12_shownBehind_25 (by decide) (by decide) (fun c_295 => ?_) (fun c9 => absurd c9 (by decide))
      refine lv_aload_n hx hb dX12_shownBehind_31 rfl (lv_at hl 2 rfl) ?_
      refine rg_o_all hx hb hts hown hK hP uw_7_66 dX12_shownBehind_32 ?_
      refine lv_aload_n hx hb dX12_shownBehind_35 rfl (lv_at hl 2 rfl) ?_
      refine lv_iload_n hx hb dX12_shownBehind_36 rfl (lv_at hl 3 rfl) ?_
      refine lv_iload hx hb dX12_shownBehind_37 (lv_at hl 0 rfl) ?_
      refine g_i (rDt hD) hS hA (g_V (own := "HideReaderModel") (As := [.int (mI p0), .int (mI z_258)]) (rest := [.ref (a 25)]) hx hb hml hown hts hK hP (rDt hD) (kr_X12_slot (l := l) (D := D) (k := k) (by omega) (by omega)) ck_X12_slot iv_X12_slot uw_6_224 (rv_o hK hP) rfl hl.1 rfl (Nat.le_of_ble_eq_true rfl) dX12_shownBehind_39 ⟨Nat.le_of_ble_eq_true rfl, Nat.le_of_ble_eq_true rfl⟩ ⟨Nat.le_of_ble_eq_true rfl, Nat.le_of_ble_eq_true rfl⟩) (fun r_296 H locs hQ hS => ?_)
      obtain ⟨hq_r_296, hP⟩ := hQ
      obtain rfl := hq_r_296
      refine rl_all hx hb hK hP dX12_shownBehind_42 (by omega) (bA_bd b_B_all) (fun z_298 ez_298 hz_298 => ?_)
      have hz_298 := bA_age b_B_all (by omega) ez_298
      refine lv_iload_n hx hb dX12_shownBehind_43 rfl (lv_at hl 4 rfl) ?_
      refine sy_iadd hx hb dX12_shownBehind_44 (z_298 + p1) rfl ?_
      refine lv_istore (lv' := [(5, .int (mI (z_298 + p1))), (4, .int (mI z_258)), (3, .int (mI z_259)), (0, .ref (a 0)), (1, .int (mI p0)), (2, .int (mI p1))]) hx hb dX12_shownBehind_45 hl (by decide) rfl (fun ls hl => ?_)
      refine lv_iload_n hx hb dX12_shownBehind_47 rfl (lv_at hl 2 rfl) ?_
      refine lv_aload_n hx hb dX12_shownBehind_48 rfl (lv_at hl 3 rfl) ?_
      refine lv_iload_n hx hb dX12_shownBehind_49 rfl (lv_at hl 4 rfl) ?_
      refine lv_iload hx hb dX12_shownBehind_50 (lv_at hl 1 rfl) ?_
      refine lv_iload hx hb dX12_shownBehind_52 (lv_at hl 0 rfl) ?_
      refine lv_sipush (v := mI 999) hx hb dX12_shownBehind_54 (by decide) ?_
      refine sy_join (I := fun H locs g => ∃ (z_300 : Int) (ls : Array Slot), (0 ≤ z_300 ∧ z_300 ≤ 999) ∧ va_P D vwCl (rW k a x_taped x_size x_faultKind x_faultPlace x_at x_end x_token x_number x_bank x_rb x_codes x_within x_piled x_unitsInRule y_261 y_262 y_263 y_264 x_acts x_undone x_laid x_seens x_time x_fitting n_name B_tape B_text B_turns B_herds B_irons B_beasts B_units B_night B_draw B_told B_brands B_ironMarks B_herdTold B_born B_ruleFrom B_ruleTo B_code B_codeNumber B_eWhat B_eSign F_260 B_all B_burned B_was B_need B_laidRow B_long8 B_brings B_sBurning B_sStroke B_sIs B_sTold B_sUntold B_parts B_boxAll B_isBoxed G_hName G_iName G_bName ex) H ∧ va_S A s.heap H locs ∧ lv_has ls 6 [(5, .int (mI (z_298 + p1))), (4, .int (mI z_258)), (3, .int (mI z_259)), (0, .ref (a 0)), (1, .int (mI p0)), (2, .int (mI p1))] ∧ g = F0 m 68 ls [.int (mI z_300), .int (mI z_258), .int (mI p0), .ref (a 0), .int (mI z_259)]) ?_ ?_
      · skip
        intro H locs g hI
        obtain ⟨z_300, ls, h68_0, hP, hS, hl, rfl⟩ := hI
        refine lv_aload_n hx hb dX12_shownBehind_68 rfl (lv_at hl 3 rfl) ?_
        refine rg_o_all hx hb hts hown hK hP uw_7_66 dX12_shownBehind_69 ?_
        refine lv_bipush (v := mI 112) hx hb dX12_shownBehind_72 (by decide) ?_
        refine rl_all hx hb hK hP dX12_shownBehind_74 (by omega) (bA_bd b_B_all) (fun z_302 ez_302 hz_302 => ?_)
        refine lv_iload_n hx hb dX12_shownBehind_75 rfl (lv_at hl 5 rfl) ?_
        refine sy_iadd hx hb dX12_shownBehind_76 (z_302 + p1) rfl ?_
        refine sy_any (fun z_303 hz_303 => ?_)
        refine g_i (rDt hD) hS hA (g_V (own := "HideReaderModel") (As := [.int (mI p0), .int (mI z_258), .int (mI z_300), .int (mI z_303)]) (rest := [.int (mI z_259)]) hx hb hml hown hts hK hP (rDt hD) (kr_X12_doesShow (l := l) (D := D) (k := k) (by omega) (by omega) (by omega) (by omega) h_x_bank b_B_told b_B_born b_B_ruleFrom b_B_ruleTo b_B_code b_B_codeNumber bF_260 b_B_all g_Q) ck_X12_doesShow iv_X12_doesShow uw_8_153 (rv_o hK hP) rfl hl.1 rfl (Nat.le_of_ble_eq_true rfl) dX12_shownBehind_77 ⟨Nat.le_of_ble_eq_true rfl, Nat.le_of_ble_eq_true rfl⟩ ⟨Nat.le_of_ble_eq_true rfl, Nat.le_of_ble_eq_true rfl⟩) (fun r_304 H locs hQ hS => ?_)
        obtain ⟨F_305, y_306, y_307, y_308, y_309, hr_304_0, bF_305, hr_304_2, hr_304_3, hr_304_4, hr_304_5, hP⟩ := hQ
        refine sy_if_eq (tgt := 87) hx hb dX12_shownBehind_80 (by decide) (by omega) (fun c_310 => ?_) (fun c_310 => ?_)
        · skip
          refine lv_iconst (v := mI 0) hx hb dX12_shownBehind_87 rfl ?_
          refine sy_iadd hx hb dX12_shownBehind_88 z_259 (by omega) ?_
          refine lv_istore_n (lv' := [(3, .int (mI z_259)), (5, .int (mI (z_298 + p1))), (4, .int (mI z_258)), (0, .ref (a 0)), (1, .int (mI p0)), (2, .int (mI p1))]) hx hb dX12_shownBehind_89 rfl hl (by decide) rfl (fun ls hl => ?_)
          refine lv_iinc (v := mI (z_258 + 1)) (lv' := [(4, .int (mI (z_258 + 1))), (3, .int (mI z_259)), (5, .int (mI (z_298 + p1))), (0, .ref (a 0)), (1, .int (mI p0)), (2, .int (mI p1))]) hx hb dX12_shownBehind_90 hl (k := 2) rfl (mI_ad rfl) (by decide) rfl (fun ls hl => ?_)
          refine lv_goto (tgt := 5) hx hb dX12_shownBehind_93 (by decide) ?_
          exact ih_289 _ _ _ _ (by omega) ⟨(z_258 + 1), z_259, F_305, y_306, y_307, y_308, y_309, _, by omega, by omega, bF_305, by omega, by omega, by omega, by omega, by omega, rfl, hP, hS, lv_sub hl [0, 1, 3, 4, 5] rfl, rfl⟩
        · skip
          refine lv_iconst (v := mI 1) hx hb dX12_shownBehind_83 rfl ?_
          refine lv_goto (tgt := 88) hx hb dX12_shownBehind_84 (by decide) ?_
          refine sy_iadd hx hb dX12_shownBehind_88 (z_259 + 1) rfl ?_
          refine lv_istore_n (lv' := [(3, .int (mI (z_259 + 1))), (5, .int (mI (z_298 + p1))), (4, .int (mI z_258)), (0, .ref (a 0)), (1, .int (mI p0)), (2, .int (mI p1))]) hx hb dX12_shownBehind_89 rfl hl (by decide) rfl (fun ls hl => ?_)
          refine lv_iinc (v := mI (z_258 + 1)) (lv' := [(4, .int (mI (z_258 + 1))), (3, .int (mI (z_259 + 1))), (5, .int (mI (z_298 + p1))), (0, .ref (a 0)), (1, .int (mI p0)), (2, .int (mI p1))]) hx hb dX12_shownBehind_90 hl (k := 2) rfl (mI_ad rfl) (by decide) rfl (fun ls hl => ?_)
          refine lv_goto (tgt := 5) hx hb dX12_shownBehind_93 (by decide) ?_
          exact ih_289 _ _ _ _ (by omega) ⟨(z_258 + 1), (z_259 + 1), F_305, y_306, y_307, y_308, y_309, _, by omega, by omega, bF_305, by omega, by omega, by omega, by omega, by omega, rfl, hP, hS, lv_sub hl [0, 1, 3, 4, 5] rfl, rfl⟩
      · skip
        intro J_301
        refine sy_icmp_ge (tgt := 65) hx hb dX12_shownBehind_57 (by decide) (by omega) (by decide) (fun c_311 => ?_) (fun c_311 => ?_)
        · skip
          refine lv_sipush (v := mI 999) hx hb dX12_shownBehind_65 (by decide) ?_
          exact J_301 _ _ _ ⟨999, _, by omega, hP, hS, lv_sub hl [0, 1, 2, 3, 4, 5] rfl, rfl⟩
        · skip
          refine lv_iload hx hb dX12_shownBehind_60 (lv_at hl 0 rfl) ?_
          refine lv_goto (tgt := 68) hx hb dX12_shownBehind_62 (by decide) ?_
          exact J_301 _ _ _ ⟨(z_298 + p1), _, by omega, hP, hS, lv_sub hl [0, 1, 2, 3, 4, 5] rfl, rfl⟩
    · skip
      refine sy_if_ne (tgt := 31) hx hb dX12_shownBehind_25 (by decide) (by decide) (fun c9 => absurd c9 (by decide)) (fun c_312 => ?_)
      refine lv_goto (tgt := 90) hx hb dX12_shownBehind_28 (by decide) ?_
      refine lv_iinc (v := mI (z_258 + 1)) (lv' := [(4, .int (mI (z_258 + 1))), (3, .int (mI z_259)), (0, .ref (a 0)), (1, .int (mI p0)), (2, .int (mI p1))]) hx hb dX12_shownBehind_90 hl (k := 0) rfl (mI_ad rfl) (by decide) rfl (fun ls hl => ?_)
      refine lv_goto (tgt := 5) hx hb dX12_shownBehind_93 (by decide) ?_
      exact ih_289 _ _ _ _ (by omega) ⟨(z_258 + 1), z_259, F_260, y_261, y_262, y_263, y_264, _, by omega, by omega, bF_260, by omega, by omega, by omega, by omega, by omega, rfl, hP, hS, lv_sub hl [0, 1, 2, 3, 4] rfl, rfl⟩
set_option maxHeartbeats 4000000 in
set_option maxRecDepth 100000 in
theorem kr_X12_fades {p0 : Int} (hp0 : -2147483648 ≤ p0 ∧ p0 ≤ 2147483647) (h_x_bank : 0 ≤ x_bank ∧ x_bank ≤ 1) (h_x_askBeast : 0 ≤ x_askBeast ∧ x_askBeast ≤ 7) (h_x_askStroke : -2147483648 ≤ x_askStroke ∧ x_askStroke ≤ 2147483647) (h_x_askAge : -2147483648 ≤ x_askAge ∧ x_askAge ≤ 2147483647) (h_x_askSeason : -2147483648 ≤ x_askSeason ∧ x_askSeason ≤ 2147483647) (b_B_beasts : bd (0) 8 B_beasts) (b_B_told : bd (0) 31 B_told) (b_B_born : bd (0) 99 B_born) (b_B_ruleFrom : bd (0) 1120 B_ruleFrom) (b_B_ruleTo : bd (0) 1120 B_ruleTo) (b_B_code : bd (-2147483648) 2147483647 B_code) (b_B_codeNumber : bd (-2147483648) 2147483647 B_codeNumber) (b_B_pile : bd (-2147483648) 2147483647 B_pile) (b_B_all : bA B_all) (g_Q : rQ x_bank B_told B_ruleFrom B_ruleTo B_code) : MetG l D k yX12_fades cX12_fades 3 (some .int) 5 [.ref (a 0), .int (mI p0)] (rW k a x_taped x_size x_faultKind x_faultPlace x_at x_end x_token x_number x_bank x_rb x_codes x_within x_piled x_unitsInRule x_askBeast x_askStroke x_askAge x_askSeason x_acts x_undone x_laid x_seens x_time x_fitting n_name B_tape B_text B_turns B_herds B_irons B_beasts B_units B_night B_draw B_told B_brands B_ironMarks B_herdTold B_born B_ruleFrom B_ruleTo B_code B_codeNumber B_eWhat B_eSign B_pile B_all B_burned B_was B_need B_laidRow B_long8 B_brings B_sBurning B_sStroke B_sIs B_sTold B_sUntold B_parts B_boxAll B_isBoxed G_hName G_iName G_bName ex) (qGi (fun r0 H => ∃ (F_pile : Nat → Int) (y_askBeast : Int) (y_askStroke : Int) (y_askAge : Int) (y_askSeason : Int), (-1 ≤ r0 ∧ r0 ≤ 60) ∧ (bd (-2147483648) 2147483647 F_pile) ∧ (0 ≤ y_askBeast ∧ y_askBeast ≤ 7) ∧ (-2147483648 ≤ y_askStroke ∧ y_askStroke ≤ 2147483647) ∧ (-2147483648 ≤ y_askAge ∧ y_askAge ≤ 2147483647) ∧ (-2147483648 ≤ y_askSeason ∧ y_askSeason ≤ 2147483647) ∧ va_P D vwCl (rW k a x_taped x_size x_faultKind x_faultPlace x_at x_end x_token x_number x_bank x_rb x_codes x_within x_piled x_unitsInRule y_askBeast y_askStroke y_askAge y_askSeason x_acts x_undone x_laid x_seens x_time x_fitting n_name B_tape B_text B_turns B_herds B_irons B_beasts B_units B_night B_draw B_told B_brands B_ironMarks B_herdTold B_born B_ruleFrom B_ruleTo B_code B_codeNumber B_eWhat B_eSign F_pile B_all B_burned B_was B_need B_laidRow B_long8 B_brings B_sBurning B_sStroke B_sIs B_sTold B_sUntold B_parts B_boxAll B_isBoxed G_hName G_iName G_bName ex) H)) := by
  refine metG_of 1 ck_X12_fades (Nat.le_of_ble_eq_true rfl) rMap (fun p e s m args below meth c A hx hb hml hr hlocks hown hts hK hD hA hP hS ls hl => ?_)
  have hown : s.vm.findClass "HideReaderModel" = some m.cls := hown
  have hl : lv_has ls 3 [(0, .ref (a 0)), (1, .int (mI p0))] := hl
  refine lv_iconst (v := mI 0) hx hb dX12_fades_0 rfl ?_
  refine lv_istore_n (lv' := [(2, .int (mI 0)), (0, .ref (a 0)), (1, .int (mI p0))]) hx hb dX12_fades_1 rfl hl (by decide) rfl (fun ls hl => ?_)
  refine sy_loop (I := fun n H locs g => ∃ (z_147 : Int) (F_148 : Nat → Int) (y_149 : Int) (y_150 : Int) (y_151 : Int) (y_152 : Int) (ls : Array Slot), (0 ≤ z_147 ∧ z_147 ≤ 61) ∧ (bd (-2147483648) 2147483647 F_148) ∧ (0 ≤ y_149 ∧ y_149 ≤ 7) ∧ (-2147483648 ≤ y_150 ∧ y_150 ≤ 2147483647) ∧ (-2147483648 ≤ y_151 ∧ y_151 ≤ 2147483647) ∧ (-2147483648 ≤ y_152 ∧ y_152 ≤ 2147483647) ∧ (61 - z_147).toNat = n ∧ va_P D vwCl (rW k a x_taped x_size x_faultKind x_faultPlace x_at x_end x_token x_number x_bank x_rb x_codes x_within x_piled x_unitsInRule y_149 y_150 y_151 y_152 x_acts x_undone x_laid x_seens x_time x_fitting n_name B_tape B_text B_turns B_herds B_irons B_beasts B_units B_night B_draw B_told B_brands B_ironMarks B_herdTold B_born B_ruleFrom B_ruleTo B_code B_codeNumber B_eWhat B_eSign F_148 B_all B_burned B_was B_need B_laidRow B_long8 B_brings B_sBurning B_sStroke B_sIs B_sTold B_sUntold B_parts B_boxAll B_isBoxed G_hName G_iName G_bName ex) H ∧ va_S A s.heap H locs ∧ lv_has ls 3 [(2, .int (mI z_147)), (0, .ref (a 0)), (1, .int (mI p0))] ∧ g = F0 m 2 ls []) ?_ _ ⟨0, B_pile, x_askBeast, x_askStroke, x_askAge, x_askSeason, _, by omega, b_B_pile, by omega, by omega, by omega, by omega, rfl, hP, hS, lv_sub hl [0, 1, 2] rfl, rfl⟩
  intro n_166 H locs g hI ih_167
  obtain ⟨z_147, F_148, y_149, y_150, y_151, y_152, ls, h2_0, bF_148, h2_2, h2_3, h2_4, h2_5, mn_166, hP, hS, hl, rfl⟩ := hI
  refine lv_iload_n hx hb dX12_fades_2 rfl (lv_at hl 0 rfl) ?_
  refine lv_bipush (v := mI 60) hx hb dX12_fades_3 (by decide) ?_
  refine sy_icmp_gt (tgt := 33) hx hb dX12_fades_5 (by decide) (by omega) (by decide) (fun c_168 => ?_) (fun c_168 => ?_)
  · skip
    refine lv_iconst (v := mI (-1)) hx hb dX12_fades_33 rfl ?_
    exact r_i hx hb hr hlocks dX12_fades_34 hS ⟨F_148, y_149, y_150, y_151, y_152, by omega, bF_148, by omega, by omega, by omega, by omega, hP⟩
  · skip
    refine lv_aload_n hx hb dX12_fades_8 rfl (lv_at hl 1 rfl) ?_
    refine lv_iload_n hx hb dX12_fades_9 rfl (lv_at hl 2 rfl) ?_
    refine g_i (rDt hD) hS hA (g_V (own := "HideReaderModel") (As := [.int (mI p0)]) (rest := []) hx hb hml hown hts hK hP (rDt hD) (kr_X12_isBeast (l := l) (D := D) (k := k) (by omega) h_x_bank b_B_beasts) ck_X12_isBeast iv_X12_isBeast uw_8_145 (rv_o hK hP) rfl hl.1 rfl (Nat.le_of_ble_eq_true rfl) dX12_fades_10 ⟨Nat.le_of_ble_eq_true rfl, Nat.le_of_ble_eq_true rfl⟩ ⟨Nat.le_of_ble_eq_true rfl, Nat.le_of_ble_eq_true rfl⟩) (fun r_169 H locs hQ hS => ?_)
    obtain ⟨hq_r_169, hP⟩ := hQ
    rcases hq_r_169 with rfl | ⟨rfl, c_171_0⟩
    · skip
      refine sy_if_eq (tgt := 33) hx hb dX12_fades_13 (by decide) (by decide) (fun c_172 => ?_) (fun c9 => absurd c9 (by decide))
      refine lv_iconst (v := mI (-1)) hx hb dX12_fades_33 rfl ?_
      exact r_i hx hb hr hlocks dX12_fades_34 hS ⟨F_148, y_149, y_150, y_151, y_152, by omega, bF_148, by omega, by omega, by omega, by omega, hP⟩
    · skip
      refine sy_if_eq (tgt := 33) hx hb dX12_fades_13 (by decide) (by decide) (fun c9 => absurd c9 (by decide)) (fun c_173 => ?_)
      refine lv_aload_n hx hb dX12_fades_16 rfl (lv_at hl 1 rfl) ?_
      refine lv_iload_n hx hb dX12_fades_17 rfl (lv_at hl 2 rfl) ?_
      refine lv_iload_n hx hb dX12_fades_18 rfl (lv_at hl 0 rfl) ?_
      refine g_i (rDt hD) hS hA (g_V (own := "HideReaderModel") (As := [.int (mI p0), .int (mI z_147)]) (rest := []) hx hb hml hown hts hK hP (rDt hD) (kr_X12_shownBehind (l := l) (D := D) (k := k) (by omega) (by omega) h_x_bank (by omega) (by omega) (by omega) (by omega) b_B_told b_B_born b_B_ruleFrom b_B_ruleTo b_B_code b_B_codeNumber bF_148 b_B_all g_Q) ck_X12_shownBehind iv_X12_shownBehind uw_9_114 (rv_o hK hP) rfl hl.1 rfl (Nat.le_of_ble_eq_true rfl) dX12_fades_19 ⟨Nat.le_of_ble_eq_true rfl, Nat.le_of_ble_eq_true rfl⟩ ⟨Nat.le_of_ble_eq_true rfl, Nat.le_of_ble_eq_true rfl⟩) (fun r_174 H locs hQ hS => ?_)
      obtain ⟨F_175, y_176, y_177, y_178, y_179, hr_174_0, bF_175, hr_174_2, hr_174_3, hr_174_4, hr_174_5, hP⟩ := hQ
      refine sy_if_ne (tgt := 27) hx hb dX12_fades_22 (by decide) (by omega) (fun c_180 => ?_) (fun c_180 => ?_)
      · skip
        refine lv_iinc (v := mI (z_147 + 1)) (lv' := [(2, .int (mI (z_147 + 1))), (0, .ref (a 0)), (1, .int (mI p0))]) hx hb dX12_fades_27 hl (k := 0) rfl (mI_ad rfl) (by decide) rfl (fun ls hl => ?_)
        refine lv_goto (tgt := 2) hx hb dX12_fades_30 (by decide) ?_
        exact ih_167 _ _ _ _ (by omega) ⟨(z_147 + 1), F_175, y_176, y_177, y_178, y_179, _, by omega, bF_175, by omega, by omega, by omega, by omega, rfl, hP, hS, lv_sub hl [0, 1, 2] rfl, rfl⟩
      · skip
        refine lv_iload_n hx hb dX12_fades_25 rfl (lv_at hl 0 rfl) ?_
        exact r_i hx hb hr hlocks dX12_fades_26 hS ⟨F_175, y_176, y_177, y_178, y_179, by omega, bF_175, by omega, by omega, by omega, by omega, hP⟩
set_option maxHeartbeats 4000000 in
set_option maxRecDepth 100000 in
theorem kr_X12_read {p0 : Int} (hp0 : -2147483648 ≤ p0 ∧ p0 ≤ 2147483647) (h_x_bank : 0 ≤ x_bank ∧ x_bank ≤ 1) (h_x_askBeast : 0 ≤ x_askBeast ∧ x_askBeast ≤ 7) (h_x_askStroke : -2147483648 ≤ x_askStroke ∧ x_askStroke ≤ 2147483647) (h_x_askAge : -2147483648 ≤ x_askAge ∧ x_askAge ≤ 2147483647) (h_x_askSeason : -2147483648 ≤ x_askSeason ∧ x_askSeason ≤ 2147483647) (b_B_turns : bd (0) 4 B_turns) (b_B_herds : bd (0) 8 B_herds) (b_B_beasts : bd (0) 8 B_beasts) (b_B_told : bd (0) 31 B_told) (b_B_brands : bd (0) 4095 B_brands) (b_B_born : bd (0) 99 B_born) (b_B_ruleFrom : bd (0) 1120 B_ruleFrom) (b_B_ruleTo : bd (0) 1120 B_ruleTo) (b_B_code : bd (-2147483648) 2147483647 B_code) (b_B_codeNumber : bd (-2147483648) 2147483647 B_codeNumber) (b_B_pile : bd (-2147483648) 2147483647 B_pile) (b_B_all : bA B_all) (g_Q : rQ x_bank B_told B_ruleFrom B_ruleTo B_code) (g_R : 1 ≤ B_turns x_bank.toNat ∧ ¬ B_turns x_bank.toNat = 3) : MetG l D k yX12_read cX12_read 4 (some .int) 5 [.ref (a 0), .int (mI p0)] (rW k a x_taped x_size x_faultKind x_faultPlace x_at x_end x_token x_number x_bank x_rb x_codes x_within x_piled x_unitsInRule x_askBeast x_askStroke x_askAge x_askSeason x_acts x_undone x_laid x_seens x_time x_fitting n_name B_tape B_text B_turns B_herds B_irons B_beasts B_units B_night B_draw B_told B_brands B_ironMarks B_herdTold B_born B_ruleFrom B_ruleTo B_code B_codeNumber B_eWhat B_eSign B_pile B_all B_burned B_was B_need B_laidRow B_long8 B_brings B_sBurning B_sStroke B_sIs B_sTold B_sUntold B_parts B_boxAll B_isBoxed G_hName G_iName G_bName ex) (qGi (fun r0 H => ∃ (F_pile : Nat → Int) (y_askBeast : Int) (y_askStroke : Int) (y_askAge : Int) (y_askSeason : Int), (-1 ≤ r0 ∧ r0 ≤ 255) ∧ (bd (-2147483648) 2147483647 F_pile) ∧ (0 ≤ y_askBeast ∧ y_askBeast ≤ 7) ∧ (-2147483648 ≤ y_askStroke ∧ y_askStroke ≤ 2147483647) ∧ (-2147483648 ≤ y_askAge ∧ y_askAge ≤ 2147483647) ∧ (-2147483648 ≤ y_askSeason ∧ y_askSeason ≤ 2147483647) ∧ va_P D vwCl (rW k a x_taped x_size x_faultKind x_faultPlace x_at x_end x_token x_number x_bank x_rb x_codes x_within x_piled x_unitsInRule y_askBeast y_askStroke y_askAge y_askSeason x_acts x_undone x_laid x_seens x_time x_fitting n_name B_tape B_text B_turns B_herds B_irons B_beasts B_units B_night B_draw B_told B_brands B_ironMarks B_herdTold B_born B_ruleFrom B_ruleTo B_code B_codeNumber B_eWhat B_eSign F_pile B_all B_burned B_was B_need B_laidRow B_long8 B_brings B_sBurning B_sStroke B_sIs B_sTold B_sUntold B_parts B_boxAll B_isBoxed G_hName G_iName G_bName ex) H)) := by
  refine metG_of 1 ck_X12_read (Nat.le_of_ble_eq_true rfl) rMap (fun p e s m args below meth c A hx hb hml hr hlocks hown hts hK hD hA hP hS ls hl => ?_)
  have hown : s.vm.findClass "HideReaderModel" = some m.cls := hown
  have hl : lv_has ls 4 [(0, .ref (a 0)), (1, .int (mI p0))] := hl
  refine lv_aload_n hx hb dX12_read_0 rfl (lv_at hl 0 rfl) ?_
  refine lv_iload_n hx hb dX12_read_1 rfl (lv_at hl 1 rfl) ?_
  refine g_i (rDt hD) hS hA (g_V (own := "HideReaderModel") (As := [.int (mI p0)]) (rest := []) hx hb hml hown hts hK hP (rDt hD) (kr_X12_isBeast (l := l) (D := D) (k := k) (by omega) h_x_bank b_B_beasts) ck_X12_isBeast iv_X12_isBeast uw_8_145 (rv_o hK hP) rfl hl.1 rfl (Nat.le_of_ble_eq_true rfl) dX12_read_2 ⟨Nat.le_of_ble_eq_true rfl, Nat.le_of_ble_eq_true rfl⟩ ⟨Nat.le_of_ble_eq_true rfl, Nat.le_of_ble_eq_true rfl⟩) (fun r_1 H locs hQ hS => ?_)
  obtain ⟨hq_r_1, hP⟩ := hQ
  rcases hq_r_1 with rfl | ⟨rfl, c_3_0⟩
  · skip
    refine sy_if_ne (tgt := 10) hx hb dX12_read_5 (by decide) (by decide) (fun c9 => absurd c9 (by decide)) (fun c_4 => ?_)
    refine lv_iconst (v := mI (-1)) hx hb dX12_read_8 rfl ?_
    exact r_i hx hb hr hlocks dX12_read_9 hS ⟨B_pile, x_askBeast, x_askStroke, x_askAge, x_askSeason, by omega, b_B_pile, by omega, by omega, by omega, by omega, hP⟩
  · skip
    refine sy_if_ne (tgt := 10) hx hb dX12_read_5 (by decide) (by decide) (fun c_5 => ?_) (fun c9 => absurd c9 (by decide))
    refine lv_iconst (v := mI 0) hx hb dX12_read_10 rfl ?_
    refine lv_istore_n (lv' := [(2, .int (mI 0)), (0, .ref (a 0)), (1, .int (mI p0))]) hx hb dX12_read_11 rfl hl (by decide) rfl (fun ls hl => ?_)
    refine lv_iconst (v := mI 0) hx hb dX12_read_12 rfl ?_
    refine lv_istore_n (lv' := [(3, .int (mI 0)), (2, .int (mI 0)), (0, .ref (a 0)), (1, .int (mI p0))]) hx hb dX12_read_13 rfl hl (by decide) rfl (fun ls hl => ?_)
    refine sy_loop (I := fun n H locs g => ∃ (z_666 : Int) (z_667 : Int) (F_668 : Nat → Int) (y_669 : Int) (y_670 : Int) (y_671 : Int) (y_672 : Int) (ls : Array Slot), (0 ≤ z_666 ∧ z_666 ≤ 8) ∧ (0 ≤ z_667 ∧ z_667 ≤ 255) ∧ (bd (-2147483648) 2147483647 F_668) ∧ (0 ≤ y_669 ∧ y_669 ≤ 7) ∧ (-2147483648 ≤ y_670 ∧ y_670 ≤ 2147483647) ∧ (-2147483648 ≤ y_671 ∧ y_671 ≤ 2147483647) ∧ (-2147483648 ≤ y_672 ∧ y_672 ≤ 2147483647) ∧ (8 - z_666).toNat = n ∧ va_P D vwCl (rW k a x_taped x_size x_faultKind x_faultPlace x_at x_end x_token x_number x_bank x_rb x_codes x_within x_piled x_unitsInRule y_669 y_670 y_671 y_672 x_acts x_undone x_laid x_seens x_time x_fitting n_name B_tape B_text B_turns B_herds B_irons B_beasts B_units B_night B_draw B_told B_brands B_ironMarks B_herdTold B_born B_ruleFrom B_ruleTo B_code B_codeNumber B_eWhat B_eSign F_668 B_all B_burned B_was B_need B_laidRow B_long8 B_brings B_sBurning B_sStroke B_sIs B_sTold B_sUntold B_parts B_boxAll B_isBoxed G_hName G_iName G_bName ex) H ∧ va_S A s.heap H locs ∧ lv_has ls 4 [(3, .int (mI z_666)), (2, .int (mI z_667)), (0, .ref (a 0)), (1, .int (mI p0))] ∧ g = F0 m 14 ls []) ?_ _ ⟨0, 0, B_pile, x_askBeast, x_askStroke, x_askAge, x_askSeason, _, by omega, by omega, b_B_pile, by omega, by omega, by omega, by omega, rfl, hP, hS, lv_sub hl [0, 1, 2, 3] rfl, rfl⟩
    intro n_689 H locs g hI ih_690
    obtain ⟨z_666, z_667, F_668, y_669, y_670, y_671, y_672, ls, h14_0, h14_1, bF_668, h14_3, h14_4, h14_5, h14_6, mn_689, hP, hS, hl, rfl⟩ := hI
    refine lv_iload_n hx hb dX12_read_14 rfl (lv_at hl 0 rfl) ?_
    refine lv_aload_n hx hb dX12_read_15 rfl (lv_at hl 2 rfl) ?_
    refine g_i (rDt hD) hS hA (g_V (own := "HideReaderModel") (As := []) (rest := [.int (mI z_666)]) hx hb hml hown hts hK hP (rDt hD) (kr_X12_stocks (l := l) (D := D) (k := k) h_x_bank b_B_herds) ck_X12_stocks iv_X12_stocks uw_8_126 (rv_o hK hP) rfl hl.1 rfl (Nat.le_of_ble_eq_true rfl) dX12_read_16 ⟨Nat.le_of_ble_eq_true rfl, Nat.le_of_ble_eq_true rfl⟩ ⟨Nat.le_of_ble_eq_true rfl, Nat.le_of_ble_eq_true rfl⟩) (fun r_691 H locs hQ hS => ?_)
    obtain ⟨hr_691_0, hr_691_1, hP⟩ := hQ
    refine sy_icmp_ge (tgt := 51) hx hb dX12_read_19 (by decide) (by omega) (by omega) (fun c_692 => ?_) (fun c_692 => ?_)
    · skip
      refine lv_iload_n hx hb dX12_read_51 rfl (lv_at hl 1 rfl) ?_
      exact r_i hx hb hr hlocks dX12_read_52 hS ⟨F_668, y_669, y_670, y_671, y_672, by omega, bF_668, by omega, by omega, by omega, by omega, hP⟩
    · skip
      refine lv_aload_n hx hb dX12_read_22 rfl (lv_at hl 2 rfl) ?_
      refine lv_aload_n hx hb dX12_read_23 rfl (lv_at hl 2 rfl) ?_
      refine lv_iload_n hx hb dX12_read_24 rfl (lv_at hl 3 rfl) ?_
      refine g_i (rDt hD) hS hA (g_V (own := "HideReaderModel") (As := [.int (mI p0)]) (rest := [.ref (a 0)]) hx hb hml hown hts hK hP (rDt hD) (kr_X12_shownOf (l := l) (D := D) (k := k) (by omega) h_x_bank (by omega) (by omega) (by omega) (by omega) b_B_told b_B_born b_B_ruleFrom b_B_ruleTo b_B_code b_B_codeNumber bF_668 b_B_all g_Q) ck_X12_shownOf iv_X12_shownOf uw_8_149 (rv_o hK hP) rfl hl.1 rfl (Nat.le_of_ble_eq_true rfl) dX12_read_25 ⟨Nat.le_of_ble_eq_true rfl, Nat.le_of_ble_eq_true rfl⟩ ⟨Nat.le_of_ble_eq_true rfl, Nat.le_of_ble_eq_true rfl⟩) (fun r_693 H locs hQ hS => ?_)
      obtain ⟨F_694, y_695, y_696, y_697, y_698, hr_693_0, bF_694, hr_693_2, hr_693_3, hr_693_4, hr_693_5, hP⟩ := hQ
      refine lv_aload_n hx hb dX12_read_28 rfl (lv_at hl 2 rfl) ?_
      refine lv_iload_n hx hb dX12_read_29 rfl (lv_at hl 0 rfl) ?_
      refine g_i (rDt hD) hS hA (g_V (own := "HideReaderModel") (As := [.int (mI z_666)]) (rest := [.int (mI r_693), .ref (a 0)]) hx hb hml hown hts hK hP (rDt hD) (kr_X12_brandOf (l := l) (D := D) (k := k) (by omega) h_x_bank b_B_brands) ck_X12_brandOf iv_X12_brandOf uw_6_220 (rv_o hK hP) rfl hl.1 rfl (Nat.le_of_ble_eq_true rfl) dX12_read_30 ⟨Nat.le_of_ble_eq_true rfl, Nat.le_of_ble_eq_true rfl⟩ ⟨Nat.le_of_ble_eq_true rfl, Nat.le_of_ble_eq_true rfl⟩) (fun r_699 H locs hQ hS => ?_)
      obtain ⟨hr_699_0, hr_699_1, hP⟩ := hQ
      refine g_i (rDt hD) hS hA (g_V (own := "HideReaderModel") (As := [.int (mI r_693), .int (mI r_699)]) (rest := []) hx hb hml hown hts hK hP (rDt hD) (kr_X12_areOne (l := l) (D := D) (k := k) (by omega) (by omega) h_x_bank b_B_turns b_B_told g_R) ck_X12_areOne iv_X12_areOne uw_8_210 (rv_o hK hP) rfl hl.1 rfl (Nat.le_of_ble_eq_true rfl) dX12_read_33 ⟨Nat.le_of_ble_eq_true rfl, Nat.le_of_ble_eq_true rfl⟩ ⟨Nat.le_of_ble_eq_true rfl, Nat.le_of_ble_eq_true rfl⟩) (fun r_700 H locs hQ hS => ?_)
      obtain ⟨hq_r_700, hP⟩ := hQ
      rcases hq_r_700 with ⟨rfl, c_701_0⟩ | ⟨rfl, c_702_0⟩
      · skip
        refine sy_if_eq (tgt := 45) hx hb dX12_read_36 (by decide) (by decide) (fun c_703 => ?_) (fun c9 => absurd c9 (by decide))
        refine lv_iinc (v := mI (z_666 + 1)) (lv' := [(3, .int (mI (z_666 + 1))), (2, .int (mI z_667)), (0, .ref (a 0)), (1, .int (mI p0))]) hx hb dX12_read_45 hl (k := 0) rfl (mI_ad rfl) (by decide) rfl (fun ls hl => ?_)
        refine lv_goto (tgt := 14) hx hb dX12_read_48 (by decide) ?_
        exact ih_690 _ _ _ _ (by omega) ⟨(z_666 + 1), z_667, F_694, y_695, y_696, y_697, y_698, _, by omega, by omega, bF_694, by omega, by omega, by omega, by omega, rfl, hP, hS, lv_sub hl [0, 1, 2, 3] rfl, rfl⟩
      · skip
        refine sy_if_eq (tgt := 45) hx hb dX12_read_36 (by decide) (by decide) (fun c9 => absurd c9 (by decide)) (fun c_704 => ?_)
        refine lv_iload_n hx hb dX12_read_39 rfl (lv_at hl 1 rfl) ?_
        refine lv_iconst (v := mI 1) hx hb dX12_read_40 rfl ?_
        refine lv_iload_n hx hb dX12_read_41 rfl (lv_at hl 0 rfl) ?_
        refine sy_shl1 hx hb dX12_read_42 7 (by decide) 128 (by decide) (by omega) (fun z_705 ez_705 hz_705 => ?_)
        refine sy_ior hx hb dX12_read_43 8 (by decide) 256 (by decide) (by omega) (by omega) (fun z_706 hz_706 => ?_)
        refine lv_istore_n (lv' := [(2, .int (mI z_706)), (3, .int (mI z_666)), (0, .ref (a 0)), (1, .int (mI p0))]) hx hb dX12_read_44 rfl hl (by decide) rfl (fun ls hl => ?_)
        refine lv_iinc (v := mI (z_666 + 1)) (lv' := [(3, .int (mI (z_666 + 1))), (2, .int (mI z_706)), (0, .ref (a 0)), (1, .int (mI p0))]) hx hb dX12_read_45 hl (k := 1) rfl (mI_ad rfl) (by decide) rfl (fun ls hl => ?_)
        refine lv_goto (tgt := 14) hx hb dX12_read_48 (by decide) ?_
        exact ih_690 _ _ _ _ (by omega) ⟨(z_666 + 1), z_706, F_694, y_695, y_696, y_697, y_698, _, by omega, by omega, bF_694, by omega, by omega, by omega, by omega, rfl, hP, hS, lv_sub hl [0, 1, 2, 3] rfl, rfl⟩
end Kr
