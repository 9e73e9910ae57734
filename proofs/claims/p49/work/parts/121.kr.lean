section Kr
variable {l : Launch} {D : va_G} {k : Nat → ClassId} {a : Nat → Nat} {ex : va_W} {x_taped x_size x_faultKind x_faultPlace x_at x_end x_token x_number x_bank x_rb x_codes x_within x_piled x_unitsInRule x_askBeast x_askStroke x_askAge x_askSeason x_acts x_undone x_laid x_seens x_time x_fitting : Int} {n_name : Int64} {B_tape B_text B_turns B_herds B_irons B_beasts B_units B_night B_draw B_told B_brands B_ironMarks B_herdTold B_born B_ruleFrom B_ruleTo B_code B_codeNumber B_eWhat B_eSign B_pile B_all B_burned B_was B_need B_laidRow B_long8 B_brings B_sBurning B_sStroke B_sIs B_sTold B_sUntold B_parts B_boxAll B_isBoxed : Nat → Int} {G_hName G_iName G_bName : Nat → Int64}
set_option maxHeartbeats 4000000 in
set_option maxRecDepth 100000 in
theorem kr_X12_forge {p0 p1 : Int} (hp0 : -2147483648 ≤ p0 ∧ p0 ≤ 2147483647) (hp1 : -2147483648 ≤ p1 ∧ p1 ≤ 2147483647) (h_x_bank : 0 ≤ x_bank ∧ x_bank ≤ 1) (b_B_turns : bd (0) 4 B_turns) (b_B_herds : bd (0) 8 B_herds) (b_B_irons : bd (0) 6 B_irons) (b_B_beasts : bd (0) 8 B_beasts) (b_B_told : bd (0) 31 B_told) (b_B_brands : bd (0) 4095 B_brands) (b_B_all : bA B_all) (b_B_burned : bd (0) 4095 B_burned) (b_B_need : bd (0) 100 B_need) (b_B_laidRow : bd (0) 47 B_laidRow) (g_R : 1 ≤ B_turns x_bank.toNat ∧ ¬ B_turns x_bank.toNat = 3) : MetG l D k yX12_forge cX12_forge 6 (some .int) 5 [.ref (a 0), .int (mI p0), .int (mI p1)] (rW k a x_taped x_size x_faultKind x_faultPlace x_at x_end x_token x_number x_bank x_rb x_codes x_within x_piled x_unitsInRule x_askBeast x_askStroke x_askAge x_askSeason x_acts x_undone x_laid x_seens x_time x_fitting n_name B_tape B_text B_turns B_herds B_irons B_beasts B_units B_night B_draw B_told B_brands B_ironMarks B_herdTold B_born B_ruleFrom B_ruleTo B_code B_codeNumber B_eWhat B_eSign B_pile B_all B_burned B_was B_need B_laidRow B_long8 B_brings B_sBurning B_sStroke B_sIs B_sTold B_sUntold B_parts B_boxAll B_isBoxed G_hName G_iName G_bName ex) (qGi (fun r0 H => ∃ (F_need : Nat → Int) (F_laidRow : Nat → Int) (y_laid : Int), (-1 ≤ r0 ∧ r0 ≤ 4) ∧ (bd (0) 100 F_need) ∧ (bd (0) 47 F_laidRow) ∧ (0 ≤ y_laid ∧ y_laid ≤ 8) ∧ va_P D vwCl (rW k a x_taped x_size x_faultKind x_faultPlace x_at x_end x_token x_number x_bank x_rb x_codes x_within x_piled x_unitsInRule x_askBeast x_askStroke x_askAge x_askSeason x_acts x_undone y_laid x_seens x_time x_fitting n_name B_tape B_text B_turns B_herds B_irons B_beasts B_units B_night B_draw B_told B_brands B_ironMarks B_herdTold B_born B_ruleFrom B_ruleTo B_code B_codeNumber B_eWhat B_eSign B_pile B_all B_burned B_was F_need F_laidRow B_long8 B_brings B_sBurning B_sStroke B_sIs B_sTold B_sUntold B_parts B_boxAll B_isBoxed G_hName G_iName G_bName ex) H)) := by
  refine metG_of 2 ck_X12_forge (Nat.le_of_ble_eq_true rfl) rMap (fun p e s m args below meth c A hx hb hml hr hlocks hown hts hK hD hA hP hS ls hl => ?_)
  have hown : s.vm.findClass "HideReaderModel" = some m.cls := hown
  have hl : lv_has ls 6 [(0, .ref (a 0)), (1, .int (mI p0)), (2, .int (mI p1))] := hl
  refine lv_aload_n hx hb dX12_forge_0 rfl (lv_at hl 0 rfl) ?_
  refine lv_iconst (v := mI 0) hx hb dX12_forge_1 rfl ?_
  refine rp_o_laid hx hb hts hown hK hP hD hS uw_7_73 dX12_forge_2 (fun H locs hP hS => ?_)
  refine lv_aload_n hx hb dX12_forge_5 rfl (lv_at hl 0 rfl) ?_
  refine lv_iload_n hx hb dX12_forge_6 rfl (lv_at hl 1 rfl) ?_
  refine g_i (rDt hD) hS hA (g_V (own := "HideReaderModel") (As := [.int (mI p0)]) (rest := []) hx hb hml hown hts hK hP (rDt hD) (kr_X12_isBeast (l := l) (D := D) (k := k) (by omega) h_x_bank b_B_beasts) ck_X12_isBeast iv_X12_isBeast uw_8_145 (rv_o hK hP) rfl hl.1 rfl (Nat.le_of_ble_eq_true rfl) dX12_forge_7 ⟨Nat.le_of_ble_eq_true rfl, Nat.le_of_ble_eq_true rfl⟩ ⟨Nat.le_of_ble_eq_true rfl, Nat.le_of_ble_eq_true rfl⟩) (fun r_1 H locs hQ hS => ?_)
  obtain ⟨hq_r_1, hP⟩ := hQ
  rcases hq_r_1 with rfl | ⟨rfl, c_3_0⟩
  · skip
    refine sy_if_eq (tgt := 21) hx hb dX12_forge_10 (by decide) (by decide) (fun c_4 => ?_) (fun c9 => absurd c9 (by decide))
    refine lv_iconst (v := mI (-1)) hx hb dX12_forge_21 rfl ?_
    exact r_i hx hb hr hlocks dX12_forge_22 hS ⟨B_need, B_laidRow, 0, by omega, b_B_need, b_B_laidRow, by omega, hP⟩
  · skip
    refine sy_if_eq (tgt := 21) hx hb dX12_forge_10 (by decide) (by decide) (fun c9 => absurd c9 (by decide)) (fun c_5 => ?_)
    refine lv_aload_n hx hb dX12_forge_13 rfl (lv_at hl 0 rfl) ?_
    refine lv_iload_n hx hb dX12_forge_14 rfl (lv_at hl 2 rfl) ?_
    refine g_i (rDt hD) hS hA (g_V (own := "HideReaderModel") (As := [.int (mI p1)]) (rest := []) hx hb hml hown hts hK hP (rDt hD) (kr_X12_isHerd (l := l) (D := D) (k := k) (by omega) h_x_bank b_B_herds) ck_X12_isHerd iv_X12_isHerd uw_8_122 (rv_o hK hP) rfl hl.1 rfl (Nat.le_of_ble_eq_true rfl) dX12_forge_15 ⟨Nat.le_of_ble_eq_true rfl, Nat.le_of_ble_eq_true rfl⟩ ⟨Nat.le_of_ble_eq_true rfl, Nat.le_of_ble_eq_true rfl⟩) (fun r_6 H locs hQ hS => ?_)
    obtain ⟨hq_r_6, hP⟩ := hQ
    rcases hq_r_6 with rfl | ⟨rfl, c_8_0⟩
    · skip
      refine sy_if_ne (tgt := 23) hx hb dX12_forge_18 (by decide) (by decide) (fun c9 => absurd c9 (by decide)) (fun c_9 => ?_)
      refine lv_iconst (v := mI (-1)) hx hb dX12_forge_21 rfl ?_
      exact r_i hx hb hr hlocks dX12_forge_22 hS ⟨B_need, B_laidRow, 0, by omega, b_B_need, b_B_laidRow, by omega, hP⟩
    · skip
      refine sy_if_ne (tgt := 23) hx hb dX12_forge_18 (by decide) (by decide) (fun c_10 => ?_) (fun c9 => absurd c9 (by decide))
      refine lv_aload_n hx hb dX12_forge_23 rfl (lv_at hl 0 rfl) ?_
      refine lv_aload_n hx hb dX12_forge_24 rfl (lv_at hl 0 rfl) ?_
      refine lv_iload_n hx hb dX12_forge_25 rfl (lv_at hl 2 rfl) ?_
      refine g_i (rDt hD) hS hA (g_V (own := "HideReaderModel") (As := [.int (mI p1)]) (rest := [.ref (a 0)]) hx hb hml hown hts hK hP (rDt hD) (kr_X12_brandOf (l := l) (D := D) (k := k) (by omega) h_x_bank b_B_brands) ck_X12_brandOf iv_X12_brandOf uw_6_220 (rv_o hK hP) rfl hl.1 rfl (Nat.le_of_ble_eq_true rfl) dX12_forge_26 ⟨Nat.le_of_ble_eq_true rfl, Nat.le_of_ble_eq_true rfl⟩ ⟨Nat.le_of_ble_eq_true rfl, Nat.le_of_ble_eq_true rfl⟩) (fun r_11 H locs hQ hS => ?_)
      obtain ⟨hr_11_0, hr_11_1, hP⟩ := hQ
      refine g_v (rDt hD) hS hA (g_V (own := "HideReaderModel") (As := [.int (mI r_11)]) (rest := []) hx hb hml hown hts hK hP (rDt hD) (kr_X12_layNeed (l := l) (D := D) (k := k) (by omega) h_x_bank b_B_turns b_B_irons b_B_told b_B_burned b_B_need g_R) ck_X12_layNeed iv_X12_layNeed uw_9_38 (rv_o hK hP) rfl hl.1 rfl (Nat.le_of_ble_eq_true rfl) dX12_forge_29 ⟨Nat.le_of_ble_eq_true rfl, Nat.le_of_ble_eq_true rfl⟩ ⟨Nat.le_of_ble_eq_true rfl, Nat.le_of_ble_eq_true rfl⟩) (fun H locs hQ hS => ?_)
      obtain ⟨F_13, bF_13, hr_12_1, hP⟩ := hQ
      refine lv_aload_n hx hb dX12_forge_32 rfl (lv_at hl 0 rfl) ?_
      refine rg_o_all hx hb hts hown hK hP uw_7_66 dX12_forge_33 ?_
      refine lv_iconst (v := mI 0) hx hb dX12_forge_36 rfl ?_
      refine lv_iload_n hx hb dX12_forge_37 rfl (lv_at hl 1 rfl) ?_
      refine sy_iadd hx hb dX12_forge_38 p0 (by omega) ?_
      refine rl_all hx hb hK hP dX12_forge_39 (by omega) (bA_bd b_B_all) (fun z_14 ez_14 hz_14 => ?_)
      have hz_14 := bA_hid b_B_all (by omega) ez_14
      refine lv_istore_n (lv' := [(3, .int (mI z_14)), (0, .ref (a 0)), (1, .int (mI p0)), (2, .int (mI p1))]) hx hb dX12_forge_40 rfl hl (by decide) rfl (fun ls hl => ?_)
      refine lv_aload_n hx hb dX12_forge_41 rfl (lv_at hl 1 rfl) ?_
      refine lv_iload_n hx hb dX12_forge_42 rfl (lv_at hl 0 rfl) ?_
      refine g_i (rDt hD) hS hA (g_V (own := "HideReaderModel") (As := [.int (mI z_14)]) (rest := []) hx hb hml hown hts hK hP (rDt hD) (kr_X12_canMake (l := l) (D := D) (k := k) (by omega) bF_13) ck_X12_canMake iv_X12_canMake uw_9_42 (rv_o hK hP) rfl hl.1 rfl (Nat.le_of_ble_eq_true rfl) dX12_forge_43 ⟨Nat.le_of_ble_eq_true rfl, Nat.le_of_ble_eq_true rfl⟩ ⟨Nat.le_of_ble_eq_true rfl, Nat.le_of_ble_eq_true rfl⟩) (fun r_15 H locs hQ hS => ?_)
      obtain ⟨hq_r_15, hP⟩ := hQ
      rcases hq_r_15 with rfl | ⟨rfl, c_17_0⟩
      · skip
        refine sy_if_ne (tgt := 51) hx hb dX12_forge_46 (by decide) (by decide) (fun c9 => absurd c9 (by decide)) (fun c_18 => ?_)
        refine lv_iconst (v := mI (-1)) hx hb dX12_forge_49 rfl ?_
        exact r_i hx hb hr hlocks dX12_forge_50 hS ⟨F_13, B_laidRow, 0, by omega, bF_13, b_B_laidRow, by omega, hP⟩
      · skip
        refine sy_if_ne (tgt := 51) hx hb dX12_forge_46 (by decide) (by decide) (fun c_19 => ?_) (fun c9 => absurd c9 (by decide))
        refine lv_aload_n hx hb dX12_forge_51 rfl (lv_at hl 1 rfl) ?_
        refine rg_o_need hx hb hts hown hK hP uw_7_71 dX12_forge_52 ?_
        refine lv_iload_n hx hb dX12_forge_55 rfl (lv_at hl 0 rfl) ?_
        refine rl_need hx hb hK hP dX12_forge_56 (by omega) bF_13 (fun z_20 ez_20 hz_20 => ?_)
        refine lv_istore (lv' := [(4, .int (mI z_20)), (3, .int (mI z_14)), (0, .ref (a 0)), (1, .int (mI p0)), (2, .int (mI p1))]) hx hb dX12_forge_57 hl (by decide) rfl (fun ls hl => ?_)
        refine sy_loop (I := fun n H locs g => ∃ (z_1282 : Int) (F_1283 : Nat → Int) (y_1284 : Int) (ls : Array Slot), (0 ≤ z_1282 ∧ z_1282 ≤ 4095) ∧ (bd (0) 47 F_1283) ∧ (0 ≤ y_1284 ∧ y_1284 ≤ 8) ∧ (y_1284 + 2 * F_13 z_1282.toNat ≤ 8) ∧ (F_13 z_1282.toNat).toNat = n ∧ va_P D vwCl (rW k a x_taped x_size x_faultKind x_faultPlace x_at x_end x_token x_number x_bank x_rb x_codes x_within x_piled x_unitsInRule x_askBeast x_askStroke x_askAge x_askSeason x_acts x_undone y_1284 x_seens x_time x_fitting n_name B_tape B_text B_turns B_herds B_irons B_beasts B_units B_night B_draw B_told B_brands B_ironMarks B_herdTold B_born B_ruleFrom B_ruleTo B_code B_codeNumber B_eWhat B_eSign B_pile B_all B_burned B_was F_13 F_1283 B_long8 B_brings B_sBurning B_sStroke B_sIs B_sTold B_sUntold B_parts B_boxAll B_isBoxed G_hName G_iName G_bName ex) H ∧ va_S A s.heap H locs ∧ lv_has ls 6 [(4, .int (mI z_20)), (3, .int (mI z_1282)), (0, .ref (a 0)), (1, .int (mI p0)), (2, .int (mI p1))] ∧ g = F0 m 59 ls []) ?_ _ ⟨z_14, B_laidRow, 0, _, by omega, b_B_laidRow, by omega, by omega, rfl, hP, hS, lv_sub hl [0, 1, 2, 3, 4] rfl, rfl⟩
        intro n_1440 H locs g hI ih_1441
        obtain ⟨z_1282, F_1283, y_1284, ls, h59_0, bF_1283, h59_2, h59_3, mn_1440, hP, hS, hl, rfl⟩ := hI
        refine lv_aload_n hx hb dX12_forge_59 rfl (lv_at hl 2 rfl) ?_
        refine rg_o_need hx hb hts hown hK hP uw_7_71 dX12_forge_60 ?_
        refine lv_iload_n hx hb dX12_forge_63 rfl (lv_at hl 1 rfl) ?_
        refine rl_need hx hb hK hP dX12_forge_64 (by omega) bF_13 (fun z_1442 ez_1442 hz_1442 => ?_)
        refine sy_if_le (tgt := 159) hx hb dX12_forge_65 (by decide) (by omega) (fun c_1443 => ?_) (fun c_1443 => ?_)
        · skip
          refine lv_iload hx hb dX12_forge_159 (lv_at hl 0 rfl) ?_
          exact r_i hx hb hr hlocks dX12_forge_161 hS ⟨F_13, F_1283, y_1284, by omega, bF_13, bF_1283, by omega, hP⟩
        · skip
          refine lv_iconst (v := mI 0) hx hb dX12_forge_68 rfl ?_
          refine lv_istore (lv' := [(5, .int (mI 0)), (4, .int (mI z_20)), (3, .int (mI z_1282)), (0, .ref (a 0)), (1, .int (mI p0)), (2, .int (mI p1))]) hx hb dX12_forge_69 hl (by decide) rfl (fun ls hl => ?_)
          refine sy_loop (I := fun n H locs g => ∃ (z_1562 : Int) (ls : Array Slot), (0 ≤ z_1562 ∧ z_1562 ≤ 48) ∧ (nE F_13 B_burned z_1282 z_1562) ∧ (48 - z_1562).toNat = n ∧ va_P D vwCl (rW k a x_taped x_size x_faultKind x_faultPlace x_at x_end x_token x_number x_bank x_rb x_codes x_within x_piled x_unitsInRule x_askBeast x_askStroke x_askAge x_askSeason x_acts x_undone y_1284 x_seens x_time x_fitting n_name B_tape B_text B_turns B_herds B_irons B_beasts B_units B_night B_draw B_told B_brands B_ironMarks B_herdTold B_born B_ruleFrom B_ruleTo B_code B_codeNumber B_eWhat B_eSign B_pile B_all B_burned B_was F_13 F_1283 B_long8 B_brings B_sBurning B_sStroke B_sIs B_sTold B_sUntold B_parts B_boxAll B_isBoxed G_hName G_iName G_bName ex) H ∧ va_S A s.heap H locs ∧ lv_has ls 6 [(5, .int (mI z_1562)), (4, .int (mI z_20)), (3, .int (mI z_1282)), (0, .ref (a 0)), (1, .int (mI p0)), (2, .int (mI p1))] ∧ g = F0 m 71 ls []) ?_ _ ⟨0, _, by omega, (nE_0 hr_12_1 (by omega) ez_1442 (by omega)), rfl, hP, hS, lv_sub hl [0, 1, 2, 3, 4, 5] rfl, rfl⟩
          intro n_1579 H locs g hI ih_1580
          obtain ⟨z_1562, ls, h71_0, h71_1, mn_1579, hP, hS, hl, rfl⟩ := hI
          have h_1581 := nE_b h71_1
          refine lv_aload_n hx hb dX12_forge_71 rfl (lv_at hl 3 rfl) ?_
          refine rg_o_need hx hb hts hown hK hP uw_7_71 dX12_forge_72 ?_
          refine lv_iload_n hx hb dX12_forge_75 rfl (lv_at hl 2 rfl) ?_
          refine lv_aload_n hx hb dX12_forge_76 rfl (lv_at hl 3 rfl) ?_
          refine rg_o_burned hx hb hts hown hK hP uw_7_67 dX12_forge_77 ?_
          refine lv_iload hx hb dX12_forge_80 (lv_at hl 0 rfl) ?_
          refine rl_burned hx hb hK hP dX12_forge_82 (by omega) b_B_burned (fun z_1582 ez_1582 hz_1582 => ?_)
          refine sy_iorE hx hb dX12_forge_83 12 (by decide) 4096 (by decide) (by omega) (by omega) (fun z_1583 ez_1583 hz_1583 => ?_)
          refine rl_need hx hb hK hP dX12_forge_84 (by omega) bF_13 (fun z_1584 ez_1584 hz_1584 => ?_)
          refine lv_aload_n hx hb dX12_forge_85 rfl (lv_at hl 3 rfl) ?_
          refine rg_o_need hx hb hts hown hK hP uw_7_71 dX12_forge_86 ?_
          refine lv_iload_n hx hb dX12_forge_89 rfl (lv_at hl 2 rfl) ?_
          refine rl_need hx hb hK hP dX12_forge_90 (by omega) bF_13 (fun z_1585 ez_1585 hz_1585 => ?_)
          refine lv_iconst (v := mI 1) hx hb dX12_forge_91 rfl ?_
          refine sy_isub hx hb dX12_forge_92 (z_1585 - 1) rfl ?_
          refine sy_icmp_eq (tgt := 102) hx hb dX12_forge_93 (by decide) (by omega) (by omega) (fun c_1587 => ?_) (fun c_1587 => ?_)
          · skip
            refine lv_aload_n hx hb dX12_forge_102 rfl (lv_at hl 3 rfl) ?_
            refine rg_o_laidRow hx hb hts hown hK hP uw_7_72 dX12_forge_103 ?_
            refine lv_aload_n hx hb dX12_forge_106 rfl (lv_at hl 3 rfl) ?_
            refine rg_o_laid hx hb hts hown hK hP uw_7_73 dX12_forge_107 ?_
            refine lv_iload hx hb dX12_forge_110 (lv_at hl 0 rfl) ?_
            refine lv_aload_n hx hb dX12_forge_112 rfl (lv_at hl 3 rfl) ?_
            refine g_i (rDt hD) hS hA (g_V (own := "HideReaderModel") (As := []) (rest := [.int (mI z_1562), .int (mI y_1284), .ref (a 29)]) hx hb hml hown hts hK hP (rDt hD) (kr_X12_placements (l := l) (D := D) (k := k) h_x_bank b_B_turns b_B_told g_R) ck_X12_placements iv_X12_placements uw_6_239 (rv_o hK hP) rfl hl.1 rfl (Nat.le_of_ble_eq_true rfl) dX12_forge_113 ⟨Nat.le_of_ble_eq_true rfl, Nat.le_of_ble_eq_true rfl⟩ ⟨Nat.le_of_ble_eq_true rfl, Nat.le_of_ble_eq_true rfl⟩) (fun r_1588 H locs hQ hS => ?_)
            obtain ⟨hr_1588_0, hr_1588_1, hP⟩ := hQ
            refine sy_idiv hx hb dX12_forge_116 (by omega) (by omega) (fun z_1589 ez_1589 hz_1589 => ?_)
            refine rs_laidRow hx hb hK hP hD hS dX12_forge_117 (by omega) bF_1283 (by omega) (fun F_1590 H locs eF_1590 bF_1590 hP hS => ?_)
            refine lv_aload_n hx hb dX12_forge_118 rfl (lv_at hl 3 rfl) ?_
            refine rg_o_laidRow hx hb hts hown hK hP uw_7_72 dX12_forge_119 ?_
            refine lv_aload_n hx hb dX12_forge_122 rfl (lv_at hl 3 rfl) ?_
            refine rg_o_laid hx hb hts hown hK hP uw_7_73 dX12_forge_123 ?_
            refine lv_iconst (v := mI 1) hx hb dX12_forge_126 rfl ?_
            refine sy_iadd hx hb dX12_forge_127 (y_1284 + 1) rfl ?_
            refine lv_iload hx hb dX12_forge_128 (lv_at hl 0 rfl) ?_
            refine lv_aload_n hx hb dX12_forge_130 rfl (lv_at hl 3 rfl) ?_
            refine g_i (rDt hD) hS hA (g_V (own := "HideReaderModel") (As := []) (rest := [.int (mI z_1562), .int (mI (y_1284 + 1)), .ref (a 29)]) hx hb hml hown hts hK hP (rDt hD) (kr_X12_placements (l := l) (D := D) (k := k) h_x_bank b_B_turns b_B_told g_R) ck_X12_placements iv_X12_placements uw_6_239 (rv_o hK hP) rfl hl.1 rfl (Nat.le_of_ble_eq_true rfl) dX12_forge_131 ⟨Nat.le_of_ble_eq_true rfl, Nat.le_of_ble_eq_true rfl⟩ ⟨Nat.le_of_ble_eq_true rfl, Nat.le_of_ble_eq_true rfl⟩) (fun r_1591 H locs hQ hS => ?_)
            obtain ⟨hr_1591_0, hr_1591_1, hP⟩ := hQ
            refine sy_irem hx hb dX12_forge_134 (by omega) (by omega) (fun z_1592 ez_1592 hz_1592 => ?_)
            refine rs_laidRow hx hb hK hP hD hS dX12_forge_135 (by omega) bF_1590 (by omega) (fun F_1593 H locs eF_1593 bF_1593 hP hS => ?_)
            refine lv_aload_n hx hb dX12_forge_136 rfl (lv_at hl 3 rfl) ?_
            refine lv_dup hx hb dX12_forge_137 rfl ?_
            refine rg_o_laid hx hb hts hown hK hP uw_7_73 dX12_forge_138 ?_
            refine lv_iconst (v := mI 2) hx hb dX12_forge_141 rfl ?_
            refine sy_iadd hx hb dX12_forge_142 (y_1284 + 2) rfl ?_
            refine rp_o_laid hx hb hts hown hK hP hD hS uw_7_73 dX12_forge_143 (fun H locs hP hS => ?_)
            refine lv_iload_n hx hb dX12_forge_146 rfl (lv_at hl 2 rfl) ?_
            refine lv_aload_n hx hb dX12_forge_147 rfl (lv_at hl 3 rfl) ?_
            refine rg_o_burned hx hb hts hown hK hP uw_7_67 dX12_forge_148 ?_
            refine lv_iload hx hb dX12_forge_151 (lv_at hl 0 rfl) ?_
            refine rl_burned hx hb hK hP dX12_forge_153 (by omega) b_B_burned (fun z_1594 ez_1594 hz_1594 => ?_)
            refine sy_iorE hx hb dX12_forge_154 12 (by decide) 4096 (by decide) (by omega) (by omega) (fun z_1595 ez_1595 hz_1595 => ?_)
            have h_1596 := or_u ez_1583 ez_1595 (by omega) (by omega) (by omega)
            have h_1596n : F_13 z_1595.toNat = z_1584 := by rw [h_1596]; exact ez_1584
            refine lv_istore_n (lv' := [(3, .int (mI z_1595)), (5, .int (mI z_1562)), (4, .int (mI z_20)), (0, .ref (a 0)), (1, .int (mI p0)), (2, .int (mI p1))]) hx hb dX12_forge_155 rfl hl (by decide) rfl (fun ls hl => ?_)
            refine lv_goto (tgt := 59) hx hb dX12_forge_156 (by decide) ?_
            exact ih_1441 _ _ _ _ (by omega) ⟨z_1595, F_1593, (y_1284 + 2), _, by omega, bF_1593, by omega, by omega, rfl, hP, hS, lv_sub hl [2, 0, 3, 4, 5] rfl, rfl⟩
          · skip
            refine lv_iinc (v := mI (z_1562 + 1)) (lv' := [(5, .int (mI (z_1562 + 1))), (4, .int (mI z_20)), (3, .int (mI z_1282)), (0, .ref (a 0)), (1, .int (mI p0)), (2, .int (mI p1))]) hx hb dX12_forge_96 hl (k := 0) rfl (mI_ad rfl) (by decide) rfl (fun ls hl => ?_)
            refine lv_goto (tgt := 71) hx hb dX12_forge_99 (by decide) ?_
            exact ih_1580 _ _ _ _ (by omega) ⟨(z_1562 + 1), _, by omega, (nE_s h71_1 (by omega) (by omega) ez_1582 (by omega) ez_1583 (by omega) ez_1584 ez_1585 (by omega)), rfl, hP, hS, lv_sub hl [0, 1, 2, 3, 4, 5] rfl, rfl⟩
set_option maxHeartbeats 4000000 in
set_option maxRecDepth 100000 in
theorem kr_X12_chain (h_x_bank : 0 ≤ x_bank ∧ x_bank ≤ 1) (b_B_turns : bd (0) 4 B_turns) (b_B_herds : bd (0) 8 B_herds) (b_B_told : bd (0) 31 B_told) (b_B_brands : bd (0) 4095 B_brands) (b_B_laidRow : bd (0) 47 B_laidRow) (b_B_long8 : bd (-2147483648) 2147483647 B_long8) (g_R : 1 ≤ B_turns x_bank.toNat ∧ ¬ B_turns x_bank.toNat = 3) : MetG l D k yX12_chain cX12_chain 5 (some .int) 6 [.ref (a 0)] (rW k a x_taped x_size x_faultKind x_faultPlace x_at x_end x_token x_number x_bank x_rb x_codes x_within x_piled x_unitsInRule x_askBeast x_askStroke x_askAge x_askSeason x_acts x_undone x_laid x_seens x_time x_fitting n_name B_tape B_text B_turns B_herds B_irons B_beasts B_units B_night B_draw B_told B_brands B_ironMarks B_herdTold B_born B_ruleFrom B_ruleTo B_code B_codeNumber B_eWhat B_eSign B_pile B_all B_burned B_was B_need B_laidRow B_long8 B_brings B_sBurning B_sStroke B_sIs B_sTold B_sUntold B_parts B_boxAll B_isBoxed G_hName G_iName G_bName ex) (qGi (fun r0 H => ∃ (F_laidRow : Nat → Int) (y_laid : Int) (F_long8 : Nat → Int), (0 ≤ r0 ∧ r0 ≤ 8) ∧ (bd (0) 47 F_laidRow) ∧ (0 ≤ y_laid ∧ y_laid ≤ 8) ∧ (bd (-2147483648) 2147483647 F_long8) ∧ va_P D vwCl (rW k a x_taped x_size x_faultKind x_faultPlace x_at x_end x_token x_number x_bank x_rb x_codes x_within x_piled x_unitsInRule x_askBeast x_askStroke x_askAge x_askSeason x_acts x_undone y_laid x_seens x_time x_fitting n_name B_tape B_text B_turns B_herds B_irons B_beasts B_units B_night B_draw B_told B_brands B_ironMarks B_herdTold B_born B_ruleFrom B_ruleTo B_code B_codeNumber B_eWhat B_eSign B_pile B_all B_burned B_was B_need F_laidRow F_long8 B_brings B_sBurning B_sStroke B_sIs B_sTold B_sUntold B_parts B_boxAll B_isBoxed G_hName G_iName G_bName ex) H)) := by
  refine metG_of 0 ck_X12_chain (Nat.le_of_ble_eq_true rfl) rMap (fun p e s m args below meth c A hx hb hml hr hlocks hown hts hK hD hA hP hS ls hl => ?_)
  have hown : s.vm.findClass "HideReaderModel" = some m.cls := hown
  have hl : lv_has ls 5 [(0, .ref (a 0))] := hl
  obtain ⟨rkR, hrk⟩ := rank_ex (T := B_told) (b := x_bank) b_B_turns g_R b_B_brands
  have hs8 : B_herds x_bank.toNat ≤ 8 := (b_B_herds x_bank.toNat).2
  refine lv_iconst (v := mI 0) hx hb dX12_chain_0 rfl ?_
  refine lv_istore_n (lv' := [(1, .int (mI 0)), (0, .ref (a 0))]) hx hb dX12_chain_1 rfl hl (by decide) rfl (fun ls hl => ?_)
  refine lv_iconst (v := mI 0) hx hb dX12_chain_2 rfl ?_
  refine lv_istore_n (lv' := [(2, .int (mI 0)), (1, .int (mI 0)), (0, .ref (a 0))]) hx hb dX12_chain_3 rfl hl (by decide) rfl (fun ls hl => ?_)
  refine sy_loop (I := fun n H locs g => ∃ (z_271677 : Int) (z_271678 : Int) (F_271679 : Nat → Int) (ls : Array Slot), (0 ≤ z_271677 ∧ z_271677 ≤ 12) ∧ (0 ≤ z_271678 ∧ z_271678 ≤ 2147483647) ∧ (bd (-2147483648) 2147483647 F_271679) ∧ (cH (rB B_told B_turns B_brands x_bank) rkR (B_herds x_bank.toNat) z_271677 0 z_271678 F_271679) ∧ (12 - z_271677).toNat = n ∧ va_P D vwCl (rW k a x_taped x_size x_faultKind x_faultPlace x_at x_end x_token x_number x_bank x_rb x_codes x_within x_piled x_unitsInRule x_askBeast x_askStroke x_askAge x_askSeason x_acts x_undone x_laid x_seens x_time x_fitting n_name B_tape B_text B_turns B_herds B_irons B_beasts B_units B_night B_draw B_told B_brands B_ironMarks B_herdTold B_born B_ruleFrom B_ruleTo B_code B_codeNumber B_eWhat B_eSign B_pile B_all B_burned B_was B_need B_laidRow F_271679 B_brings B_sBurning B_sStroke B_sIs B_sTold B_sUntold B_parts B_boxAll B_isBoxed G_hName G_iName G_bName ex) H ∧ va_S A s.heap H locs ∧ lv_has ls 5 [(2, .int (mI z_271677)), (1, .int (mI z_271678)), (0, .ref (a 0))] ∧ g = F0 m 4 ls []) ?_ _ ⟨0, 0, B_long8, _, by omega, by omega, b_B_long8, (cH_0 rfl rfl rfl), rfl, hP, hS, lv_sub hl [0, 1, 2] rfl, rfl⟩
  intro n_275605 H locs g hI ih_275606
  obtain ⟨z_271677, z_271678, F_271679, ls, h4_0, h4_1, bF_271679, h4_3, mn_275605, hP, hS, hl, rfl⟩ := hI
  refine lv_iload_n hx hb dX12_chain_4 rfl (lv_at hl 0 rfl) ?_
  refine lv_bipush (v := mI 12) hx hb dX12_chain_5 (by decide) ?_
  refine sy_icmp_ge (tgt := 123) hx hb dX12_chain_7 (by decide) (by omega) (by decide) (fun c_275607 => ?_) (fun c_275607 => ?_)
  · skip
    have h_275608 := cF_of hrk hs8 h4_3 (by omega)
    have h_275609 := h_275608.2.2
    refine lv_aload_n hx hb dX12_chain_123 rfl (lv_at hl 2 rfl) ?_
    refine lv_iconst (v := mI 0) hx hb dX12_chain_124 rfl ?_
    refine rp_o_laid hx hb hts hown hK hP hD hS uw_7_73 dX12_chain_125 (fun H locs hP hS => ?_)
    refine lv_iconst (v := mI 0) hx hb dX12_chain_128 rfl ?_
    refine lv_istore_n (lv' := [(2, .int (mI 0)), (1, .int (mI z_271678)), (0, .ref (a 0))]) hx hb dX12_chain_129 rfl hl (by decide) rfl (fun ls hl => ?_)
    refine sy_loop (I := fun n H locs g => ∃ (z_276853 : Int) (F_276854 : Nat → Int) (y_276855 : Int) (ls : Array Slot), (0 ≤ z_276853 ∧ z_276853 ≤ 8) ∧ (bd (0) 47 F_276854) ∧ (0 ≤ y_276855 ∧ y_276855 ≤ 8) ∧ (0 ≤ z_276853 - y_276855) ∧ (0 ≤ y_276855 - z_276853) ∧ (cK (B_herds x_bank.toNat) F_271679 F_276854 z_271678 z_276853) ∧ (8 - z_276853).toNat = n ∧ va_P D vwCl (rW k a x_taped x_size x_faultKind x_faultPlace x_at x_end x_token x_number x_bank x_rb x_codes x_within x_piled x_unitsInRule x_askBeast x_askStroke x_askAge x_askSeason x_acts x_undone y_276855 x_seens x_time x_fitting n_name B_tape B_text B_turns B_herds B_irons B_beasts B_units B_night B_draw B_told B_brands B_ironMarks B_herdTold B_born B_ruleFrom B_ruleTo B_code B_codeNumber B_eWhat B_eSign B_pile B_all B_burned B_was B_need F_276854 F_271679 B_brings B_sBurning B_sStroke B_sIs B_sTold B_sUntold B_parts B_boxAll B_isBoxed G_hName G_iName G_bName ex) H ∧ va_S A s.heap H locs ∧ lv_has ls 5 [(2, .int (mI z_276853)), (1, .int (mI z_271678)), (0, .ref (a 0))] ∧ g = F0 m 130 ls []) ?_ _ ⟨0, B_laidRow, 0, _, by omega, b_B_laidRow, by omega, by omega, by omega, (Or.inl (by omega)), rfl, hP, hS, lv_sub hl [0, 1, 2] rfl, rfl⟩
    intro n_277020 H locs g hI ih_277021
    obtain ⟨z_276853, F_276854, y_276855, ls, h130_0, bF_276854, h130_2, h130_3, h130_4, h130_5, mn_277020, hP, hS, hl, rfl⟩ := hI
    refine lv_iload_n hx hb dX12_chain_130 rfl (lv_at hl 0 rfl) ?_
    refine lv_iload_n hx hb dX12_chain_131 rfl (lv_at hl 1 rfl) ?_
    refine sy_icmp_ge (tgt := 198) hx hb dX12_chain_132 (by decide) (by omega) (by omega) (fun c_277022 => ?_) (fun c_277022 => ?_)
    · skip
      refine lv_iload_n hx hb dX12_chain_198 rfl (lv_at hl 1 rfl) ?_
      exact r_i hx hb hr hlocks dX12_chain_199 hS ⟨F_276854, y_276855, F_271679, by omega, bF_276854, by omega, bF_271679, hP⟩
    · skip
      have h_277023 := cE_0 (h := 0) h_275608 h130_5 (by omega) rfl
      refine lv_iconst (v := mI 0) hx hb dX12_chain_135 rfl ?_
      refine lv_istore_n (lv' := [(3, .int (mI 0)), (2, .int (mI z_276853)), (1, .int (mI z_271678)), (0, .ref (a 0))]) hx hb dX12_chain_136 rfl hl (by decide) rfl (fun ls hl => ?_)
      refine sy_loop (I := fun n H locs g => ∃ (z_277149 : Int) (ls : Array Slot), (0 ≤ z_277149 ∧ z_277149 ≤ 8) ∧ (cE (rB B_told B_turns B_brands x_bank) (B_herds x_bank.toNat) F_271679 F_276854 z_271678 z_276853 z_277149) ∧ (8 - z_277149).toNat = n ∧ va_P D vwCl (rW k a x_taped x_size x_faultKind x_faultPlace x_at x_end x_token x_number x_bank x_rb x_codes x_within x_piled x_unitsInRule x_askBeast x_askStroke x_askAge x_askSeason x_acts x_undone y_276855 x_seens x_time x_fitting n_name B_tape B_text B_turns B_herds B_irons B_beasts B_units B_night B_draw B_told B_brands B_ironMarks B_herdTold B_born B_ruleFrom B_ruleTo B_code B_codeNumber B_eWhat B_eSign B_pile B_all B_burned B_was B_need F_276854 F_271679 B_brings B_sBurning B_sStroke B_sIs B_sTold B_sUntold B_parts B_boxAll B_isBoxed G_hName G_iName G_bName ex) H ∧ va_S A s.heap H locs ∧ lv_has ls 5 [(3, .int (mI z_277149)), (2, .int (mI z_276853)), (1, .int (mI z_271678)), (0, .ref (a 0))] ∧ g = F0 m 137 ls []) ?_ _ ⟨0, _, by omega, h_277023, rfl, hP, hS, lv_sub hl [0, 1, 2, 3] rfl, rfl⟩
      intro n_277167 H locs g hI ih_277168
      obtain ⟨z_277149, ls, h137_0, h137_1, mn_277167, hP, hS, hl, rfl⟩ := hI
      have h_277169 := cE_b h137_1
      refine lv_aload_n hx hb dX12_chain_137 rfl (lv_at hl 3 rfl) ?_
      refine rg_o_long8 hx hb hts hown hK hP uw_7_74 dX12_chain_138 ?_
      refine lv_iload_n hx hb dX12_chain_141 rfl (lv_at hl 0 rfl) ?_
      refine rl_long8 hx hb hK hP dX12_chain_142 (by omega) bF_271679 (fun z_277170 ez_277170 hz_277170 => ?_)
      refine lv_iload_n hx hb dX12_chain_143 rfl (lv_at hl 2 rfl) ?_
      refine lv_iload_n hx hb dX12_chain_144 rfl (lv_at hl 1 rfl) ?_
      refine sy_isub hx hb dX12_chain_145 (z_271678 - z_276853) rfl ?_
      refine sy_icmp_ne (tgt := 169) hx hb dX12_chain_146 (by decide) (by omega) (by omega) (fun c_277171 => ?_) (fun c_277171 => ?_)
      · skip
        have h_277172 := cE_n h137_1 (by omega) ez_277170 (by omega)
        refine lv_iinc (v := mI (z_277149 + 1)) (lv' := [(3, .int (mI (z_277149 + 1))), (2, .int (mI z_276853)), (1, .int (mI z_271678)), (0, .ref (a 0))]) hx hb dX12_chain_169 hl (k := 0) rfl (mI_ad rfl) (by decide) rfl (fun ls hl => ?_)
        refine lv_goto (tgt := 137) hx hb dX12_chain_172 (by decide) ?_
        exact ih_277168 _ _ _ _ (by omega) ⟨(z_277149 + 1), _, by omega, h_277172, rfl, hP, hS, lv_sub hl [0, 1, 2, 3] rfl, rfl⟩
      · skip
        refine lv_iload_n hx hb dX12_chain_149 rfl (lv_at hl 1 rfl) ?_
        refine sy_if_le (tgt := 175) hx hb dX12_chain_150 (by decide) (by omega) (fun c_277173 => ?_) (fun c_277173 => ?_)
        · skip
          refine lv_aload_n hx hb dX12_chain_175 rfl (lv_at hl 3 rfl) ?_
          refine rg_o_laidRow hx hb hts hown hK hP uw_7_72 dX12_chain_176 ?_
          refine lv_iload_n hx hb dX12_chain_179 rfl (lv_at hl 1 rfl) ?_
          refine lv_iload_n hx hb dX12_chain_180 rfl (lv_at hl 0 rfl) ?_
          refine rs_laidRow hx hb hK hP hD hS dX12_chain_181 (by omega) bF_276854 (by omega) (fun F_277174 H locs eF_277174 bF_277174 hP hS => ?_)
          have h_277175 := cK_s (s := (B_herds x_bank.toNat)) (most := z_271678) (by omega) (by omega) ez_277170 (by omega) eF_277174
          refine lv_aload_n hx hb dX12_chain_182 rfl (lv_at hl 3 rfl) ?_
          refine lv_dup hx hb dX12_chain_183 rfl ?_
          refine rg_o_laid hx hb hts hown hK hP uw_7_73 dX12_chain_184 ?_
          refine lv_iconst (v := mI 1) hx hb dX12_chain_187 rfl ?_
          refine sy_iadd hx hb dX12_chain_188 (y_276855 + 1) rfl ?_
          refine rp_o_laid hx hb hts hown hK hP hD hS uw_7_73 dX12_chain_189 (fun H locs hP hS => ?_)
          refine lv_iinc (v := mI (z_276853 + 1)) (lv' := [(2, .int (mI (z_276853 + 1))), (3, .int (mI z_277149)), (1, .int (mI z_271678)), (0, .ref (a 0))]) hx hb dX12_chain_192 hl (k := 1) rfl (mI_ad rfl) (by decide) rfl (fun ls hl => ?_)
          refine lv_goto (tgt := 130) hx hb dX12_chain_195 (by decide) ?_
          exact ih_277021 _ _ _ _ (by omega) ⟨(z_276853 + 1), F_277174, (y_276855 + 1), _, by omega, bF_277174, by omega, by omega, by omega, h_277175, rfl, hP, hS, lv_sub hl [0, 2, 3] rfl, rfl⟩
        · skip
          refine lv_aload_n hx hb dX12_chain_153 rfl (lv_at hl 3 rfl) ?_
          refine lv_aload_n hx hb dX12_chain_154 rfl (lv_at hl 3 rfl) ?_
          refine rg_o_laidRow hx hb hts hown hK hP uw_7_72 dX12_chain_155 ?_
          refine lv_iload_n hx hb dX12_chain_158 rfl (lv_at hl 1 rfl) ?_
          refine lv_iconst (v := mI 1) hx hb dX12_chain_159 rfl ?_
          refine sy_isub hx hb dX12_chain_160 (z_276853 - 1) rfl ?_
          refine rl_laidRow hx hb hK hP dX12_chain_161 (by omega) bF_276854 (fun z_277176 ez_277176 hz_277176 => ?_)
          have h_277177 := cK_b h130_5 (by omega) ez_277176
          refine lv_iload_n hx hb dX12_chain_162 rfl (lv_at hl 0 rfl) ?_
          refine g_i (rDt hD) hS hA (g_V (own := "HideReaderModel") (As := [.int (mI z_277176), .int (mI z_277149)]) (rest := []) hx hb hml hown hts hK hP (rDt hD) (kr_X12_isBelow (l := l) (D := D) (k := k) (by omega) (by omega) h_x_bank b_B_turns b_B_told b_B_brands g_R) ck_X12_isBelow iv_X12_isBelow uw_9_78 (rv_o hK hP) rfl hl.1 rfl (Nat.le_of_ble_eq_true rfl) dX12_chain_163 ⟨Nat.le_of_ble_eq_true rfl, Nat.le_of_ble_eq_true rfl⟩ ⟨Nat.le_of_ble_eq_true rfl, Nat.le_of_ble_eq_true rfl⟩) (fun r_277178 H locs hQ hS => ?_)
          obtain ⟨hq_r_277178, hP⟩ := hQ
          rcases hq_r_277178 with ⟨rfl, c_277179_0⟩ | ⟨rfl, c_277180_0⟩
          · skip
            refine sy_if_ne (tgt := 175) hx hb dX12_chain_166 (by decide) (by decide) (fun c9 => absurd c9 (by decide)) (fun c_277181 => ?_)
            have h_277182 := cE_n2 h137_1 (by omega) (by omega) ez_277176 c_277179_0
            refine lv_iinc (v := mI (z_277149 + 1)) (lv' := [(3, .int (mI (z_277149 + 1))), (2, .int (mI z_276853)), (1, .int (mI z_271678)), (0, .ref (a 0))]) hx hb dX12_chain_169 hl (k := 0) rfl (mI_ad rfl) (by decide) rfl (fun ls hl => ?_)
            refine lv_goto (tgt := 137) hx hb dX12_chain_172 (by decide) ?_
            exact ih_277168 _ _ _ _ (by omega) ⟨(z_277149 + 1), _, by omega, h_277182, rfl, hP, hS, lv_sub hl [0, 1, 2, 3] rfl, rfl⟩
          · skip
            refine sy_if_ne (tgt := 175) hx hb dX12_chain_166 (by decide) (by decide) (fun c_277183 => ?_) (fun c9 => absurd c9 (by decide))
            refine lv_aload_n hx hb dX12_chain_175 rfl (lv_at hl 3 rfl) ?_
            refine rg_o_laidRow hx hb hts hown hK hP uw_7_72 dX12_chain_176 ?_
            refine lv_iload_n hx hb dX12_chain_179 rfl (lv_at hl 1 rfl) ?_
            refine lv_iload_n hx hb dX12_chain_180 rfl (lv_at hl 0 rfl) ?_
            refine rs_laidRow hx hb hK hP hD hS dX12_chain_181 (by omega) bF_276854 (by omega) (fun F_277184 H locs eF_277184 bF_277184 hP hS => ?_)
            have h_277185 := cK_s (s := (B_herds x_bank.toNat)) (most := z_271678) (by omega) (by omega) ez_277170 (by omega) eF_277184
            refine lv_aload_n hx hb dX12_chain_182 rfl (lv_at hl 3 rfl) ?_
            refine lv_dup hx hb dX12_chain_183 rfl ?_
            refine rg_o_laid hx hb hts hown hK hP uw_7_73 dX12_chain_184 ?_
            refine lv_iconst (v := mI 1) hx hb dX12_chain_187 rfl ?_
            refine sy_iadd hx hb dX12_chain_188 (y_276855 + 1) rfl ?_
            refine rp_o_laid hx hb hts hown hK hP hD hS uw_7_73 dX12_chain_189 (fun H locs hP hS => ?_)
            refine lv_iinc (v := mI (z_276853 + 1)) (lv' := [(2, .int (mI (z_276853 + 1))), (3, .int (mI z_277149)), (1, .int (mI z_271678)), (0, .ref (a 0))]) hx hb dX12_chain_192 hl (k := 1) rfl (mI_ad rfl) (by decide) rfl (fun ls hl => ?_)
            refine lv_goto (tgt := 130) hx hb dX12_chain_195 (by decide) ?_
            exact ih_277021 _ _ _ _ (by omega) ⟨(z_276853 + 1), F_277184, (y_276855 + 1), _, by omega, bF_277184, by omega, by omega, by omega, h_277185, rfl, hP, hS, lv_sub hl [0, 2, 3] rfl, rfl⟩
  · skip
    refine lv_iconst (v := mI 0) hx hb dX12_chain_10 rfl ?_
    refine lv_istore_n (lv' := [(3, .int (mI 0)), (2, .int (mI z_271677)), (1, .int (mI z_271678)), (0, .ref (a 0))]) hx hb dX12_chain_11 rfl hl (by decide) rfl (fun ls hl => ?_)
    refine sy_loop (I := fun n H locs g => ∃ (z_279063 : Int) (z_279064 : Int) (F_279065 : Nat → Int) (ls : Array Slot), (0 ≤ z_279063 ∧ z_279063 ≤ 8) ∧ (0 ≤ z_279064 ∧ z_279064 ≤ 2147483647) ∧ (bd (-2147483648) 2147483647 F_279065) ∧ (cH (rB B_told B_turns B_brands x_bank) rkR (B_herds x_bank.toNat) z_271677 z_279063 z_279064 F_279065) ∧ (8 - z_279063).toNat = n ∧ va_P D vwCl (rW k a x_taped x_size x_faultKind x_faultPlace x_at x_end x_token x_number x_bank x_rb x_codes x_within x_piled x_unitsInRule x_askBeast x_askStroke x_askAge x_askSeason x_acts x_undone x_laid x_seens x_time x_fitting n_name B_tape B_text B_turns B_herds B_irons B_beasts B_units B_night B_draw B_told B_brands B_ironMarks B_herdTold B_born B_ruleFrom B_ruleTo B_code B_codeNumber B_eWhat B_eSign B_pile B_all B_burned B_was B_need B_laidRow F_279065 B_brings B_sBurning B_sStroke B_sIs B_sTold B_sUntold B_parts B_boxAll B_isBoxed G_hName G_iName G_bName ex) H ∧ va_S A s.heap H locs ∧ lv_has ls 5 [(3, .int (mI z_279063)), (2, .int (mI z_271677)), (1, .int (mI z_279064)), (0, .ref (a 0))] ∧ g = F0 m 12 ls []) ?_ _ ⟨0, z_271678, F_271679, _, by omega, by omega, bF_271679, h4_3, rfl, hP, hS, lv_sub hl [0, 1, 2, 3] rfl, rfl⟩
    intro n_279298 H locs g hI ih_279299
    obtain ⟨z_279063, z_279064, F_279065, ls, h12_0, h12_1, bF_279065, h12_3, mn_279298, hP, hS, hl, rfl⟩ := hI
    refine lv_iload_n hx hb dX12_chain_12 rfl (lv_at hl 0 rfl) ?_
    refine lv_aload_n hx hb dX12_chain_13 rfl (lv_at hl 3 rfl) ?_
    refine g_i (rDt hD) hS hA (g_V (own := "HideReaderModel") (As := []) (rest := [.int (mI z_279063)]) hx hb hml hown hts hK hP (rDt hD) (kr_X12_stocks (l := l) (D := D) (k := k) h_x_bank b_B_herds) ck_X12_stocks iv_X12_stocks uw_8_126 (rv_o hK hP) rfl hl.1 rfl (Nat.le_of_ble_eq_true rfl) dX12_chain_14 ⟨Nat.le_of_ble_eq_true rfl, Nat.le_of_ble_eq_true rfl⟩ ⟨Nat.le_of_ble_eq_true rfl, Nat.le_of_ble_eq_true rfl⟩) (fun r_279300 H locs hQ hS => ?_)
    obtain ⟨hr_279300_0, hr_279300_1, hP⟩ := hQ
    refine sy_icmp_ge (tgt := 117) hx hb dX12_chain_17 (by decide) (by omega) (by omega) (fun c_279301 => ?_) (fun c_279301 => ?_)
    · skip
      have h_279302 := cH_r h12_3 (by omega) (by omega)
      refine lv_iinc (v := mI (z_271677 + 1)) (lv' := [(2, .int (mI (z_271677 + 1))), (3, .int (mI z_279063)), (1, .int (mI z_279064)), (0, .ref (a 0))]) hx hb dX12_chain_117 hl (k := 1) rfl (mI_ad rfl) (by decide) rfl (fun ls hl => ?_)
      refine lv_goto (tgt := 4) hx hb dX12_chain_120 (by decide) ?_
      exact ih_275606 _ _ _ _ (by omega) ⟨(z_271677 + 1), z_279064, F_279065, _, by omega, by omega, bF_279065, h_279302, rfl, hP, hS, lv_sub hl [0, 2, 3] rfl, rfl⟩
    · skip
      refine lv_iload_n hx hb dX12_chain_20 rfl (lv_at hl 1 rfl) ?_
      refine sy_if_ne (tgt := 31) hx hb dX12_chain_21 (by decide) (by omega) (fun c_279303 => ?_) (fun c_279303 => ?_)
      · skip
        have h_279304 := cO_0 (o := 0) h12_3 (by omega) (by omega) rfl
        refine lv_iconst (v := mI 0) hx hb dX12_chain_31 rfl ?_
        refine lv_istore (lv' := [(4, .int (mI 0)), (3, .int (mI z_279063)), (2, .int (mI z_271677)), (1, .int (mI z_279064)), (0, .ref (a 0))]) hx hb dX12_chain_32 hl (by decide) rfl (fun ls hl => ?_)
        refine sy_loop (I := fun n H locs g => ∃ (z_279466 : Int) (F_279467 : Nat → Int) (ls : Array Slot), (0 ≤ z_279466 ∧ z_279466 ≤ 8) ∧ (bd (-2147483648) 2147483647 F_279467) ∧ (cO (rB B_told B_turns B_brands x_bank) rkR (B_herds x_bank.toNat) z_271677 z_279063 z_279466 z_279064 F_279467) ∧ (8 - z_279466).toNat = n ∧ va_P D vwCl (rW k a x_taped x_size x_faultKind x_faultPlace x_at x_end x_token x_number x_bank x_rb x_codes x_within x_piled x_unitsInRule x_askBeast x_askStroke x_askAge x_askSeason x_acts x_undone x_laid x_seens x_time x_fitting n_name B_tape B_text B_turns B_herds B_irons B_beasts B_units B_night B_draw B_told B_brands B_ironMarks B_herdTold B_born B_ruleFrom B_ruleTo B_code B_codeNumber B_eWhat B_eSign B_pile B_all B_burned B_was B_need B_laidRow F_279467 B_brings B_sBurning B_sStroke B_sIs B_sTold B_sUntold B_parts B_boxAll B_isBoxed G_hName G_iName G_bName ex) H ∧ va_S A s.heap H locs ∧ lv_has ls 5 [(4, .int (mI z_279466)), (3, .int (mI z_279063)), (2, .int (mI z_271677)), (1, .int (mI z_279064)), (0, .ref (a 0))] ∧ g = F0 m 34 ls []) ?_ _ ⟨0, F_279065, _, by omega, bF_279065, h_279304, rfl, hP, hS, lv_sub hl [0, 1, 2, 3, 4] rfl, rfl⟩
        intro n_279490 H locs g hI ih_279491
        obtain ⟨z_279466, F_279467, ls, h34_0, bF_279467, h34_2, mn_279490, hP, hS, hl, rfl⟩ := hI
        refine lv_iload hx hb dX12_chain_34 (lv_at hl 0 rfl) ?_
        refine lv_aload_n hx hb dX12_chain_36 rfl (lv_at hl 4 rfl) ?_
        refine g_i (rDt hD) hS hA (g_V (own := "HideReaderModel") (As := []) (rest := [.int (mI z_279466)]) hx hb hml hown hts hK hP (rDt hD) (kr_X12_stocks (l := l) (D := D) (k := k) h_x_bank b_B_herds) ck_X12_stocks iv_X12_stocks uw_8_126 (rv_o hK hP) rfl hl.1 rfl (Nat.le_of_ble_eq_true rfl) dX12_chain_37 ⟨Nat.le_of_ble_eq_true rfl, Nat.le_of_ble_eq_true rfl⟩ ⟨Nat.le_of_ble_eq_true rfl, Nat.le_of_ble_eq_true rfl⟩) (fun r_279492 H locs hQ hS => ?_)
        obtain ⟨hr_279492_0, hr_279492_1, hP⟩ := hQ
        refine sy_icmp_ge (tgt := 94) hx hb dX12_chain_40 (by decide) (by omega) (by omega) (fun c_279493 => ?_) (fun c_279493 => ?_)
        · skip
          refine lv_aload_n hx hb dX12_chain_94 rfl (lv_at hl 4 rfl) ?_
          refine rg_o_long8 hx hb hts hown hK hP uw_7_74 dX12_chain_95 ?_
          refine lv_iload_n hx hb dX12_chain_98 rfl (lv_at hl 1 rfl) ?_
          refine rl_long8 hx hb hK hP dX12_chain_99 (by omega) bF_279467 (fun z_279494 ez_279494 hz_279494 => ?_)
          refine lv_iload_n hx hb dX12_chain_100 rfl (lv_at hl 3 rfl) ?_
          refine sy_icmp_le (tgt := 111) hx hb dX12_chain_101 (by decide) (by omega) (by omega) (fun c_279495 => ?_) (fun c_279495 => ?_)
          · skip
            have h_279496 := cO_e (m2 := z_279064) hrk hs8 h34_2 (by omega) (by omega) (by omega) ez_279494 (by omega)
            refine lv_iinc (v := mI (z_279063 + 1)) (lv' := [(3, .int (mI (z_279063 + 1))), (4, .int (mI z_279466)), (2, .int (mI z_271677)), (1, .int (mI z_279064)), (0, .ref (a 0))]) hx hb dX12_chain_111 hl (k := 1) rfl (mI_ad rfl) (by decide) rfl (fun ls hl => ?_)
            refine lv_goto (tgt := 12) hx hb dX12_chain_114 (by decide) ?_
            exact ih_279299 _ _ _ _ (by omega) ⟨(z_279063 + 1), z_279064, F_279467, _, by omega, by omega, bF_279467, h_279496, rfl, hP, hS, lv_sub hl [0, 2, 3, 4] rfl, rfl⟩
          · skip
            refine lv_aload_n hx hb dX12_chain_104 rfl (lv_at hl 4 rfl) ?_
            refine rg_o_long8 hx hb hts hown hK hP uw_7_74 dX12_chain_105 ?_
            refine lv_iload_n hx hb dX12_chain_108 rfl (lv_at hl 1 rfl) ?_
            refine rl_long8 hx hb hK hP dX12_chain_109 (by omega) bF_279467 (fun z_279497 ez_279497 hz_279497 => ?_)
            refine lv_istore_n (lv' := [(1, .int (mI z_279497)), (4, .int (mI z_279466)), (3, .int (mI z_279063)), (2, .int (mI z_271677)), (0, .ref (a 0))]) hx hb dX12_chain_110 rfl hl (by decide) rfl (fun ls hl => ?_)
            have h_279498 := cO_e (m2 := z_279497) hrk hs8 h34_2 (by omega) (by omega) (by omega) ez_279494 (by omega)
            refine lv_iinc (v := mI (z_279063 + 1)) (lv' := [(3, .int (mI (z_279063 + 1))), (1, .int (mI z_279497)), (4, .int (mI z_279466)), (2, .int (mI z_271677)), (0, .ref (a 0))]) hx hb dX12_chain_111 hl (k := 2) rfl (mI_ad rfl) (by decide) rfl (fun ls hl => ?_)
            refine lv_goto (tgt := 12) hx hb dX12_chain_114 (by decide) ?_
            exact ih_279299 _ _ _ _ (by omega) ⟨(z_279063 + 1), z_279497, F_279467, _, by omega, by omega, bF_279467, h_279498, rfl, hP, hS, lv_sub hl [0, 3, 1, 4] rfl, rfl⟩
        · skip
          refine lv_iload_n hx hb dX12_chain_43 rfl (lv_at hl 2 rfl) ?_
          refine sy_if_le (tgt := 94) hx hb dX12_chain_44 (by decide) (by omega) (fun c9 => False.elim (by omega)) (fun c_279499 => ?_)
          refine lv_aload_n hx hb dX12_chain_47 rfl (lv_at hl 4 rfl) ?_
          refine lv_iload_n hx hb dX12_chain_48 rfl (lv_at hl 1 rfl) ?_
          refine lv_iload hx hb dX12_chain_49 (lv_at hl 0 rfl) ?_
          refine g_i (rDt hD) hS hA (g_V (own := "HideReaderModel") (As := [.int (mI z_279063), .int (mI z_279466)]) (rest := []) hx hb hml hown hts hK hP (rDt hD) (kr_X12_isBelow (l := l) (D := D) (k := k) (by omega) (by omega) h_x_bank b_B_turns b_B_told b_B_brands g_R) ck_X12_isBelow iv_X12_isBelow uw_9_78 (rv_o hK hP) rfl hl.1 rfl (Nat.le_of_ble_eq_true rfl) dX12_chain_51 ⟨Nat.le_of_ble_eq_true rfl, Nat.le_of_ble_eq_true rfl⟩ ⟨Nat.le_of_ble_eq_true rfl, Nat.le_of_ble_eq_true rfl⟩) (fun r_279500 H locs hQ hS => ?_)
          obtain ⟨hq_r_279500, hP⟩ := hQ
          rcases hq_r_279500 with ⟨rfl, c_279501_0⟩ | ⟨rfl, c_279502_0⟩
          · skip
            refine sy_if_eq (tgt := 88) hx hb dX12_chain_54 (by decide) (by decide) (fun c_279503 => ?_) (fun c9 => absurd c9 (by decide))
            have h_279504 := cO_kn h34_2 (by omega) (by omega) c_279501_0
            refine lv_iinc (v := mI (z_279466 + 1)) (lv' := [(4, .int (mI (z_279466 + 1))), (3, .int (mI z_279063)), (2, .int (mI z_271677)), (1, .int (mI z_279064)), (0, .ref (a 0))]) hx hb dX12_chain_88 hl (k := 0) rfl (mI_ad rfl) (by decide) rfl (fun ls hl => ?_)
            refine lv_goto (tgt := 34) hx hb dX12_chain_91 (by decide) ?_
            exact ih_279491 _ _ _ _ (by omega) ⟨(z_279466 + 1), F_279467, _, by omega, bF_279467, h_279504, rfl, hP, hS, lv_sub hl [0, 1, 2, 3, 4] rfl, rfl⟩
          · skip
            refine sy_if_eq (tgt := 88) hx hb dX12_chain_54 (by decide) (by decide) (fun c9 => absurd c9 (by decide)) (fun c_279505 => ?_)
            refine lv_aload_n hx hb dX12_chain_57 rfl (lv_at hl 4 rfl) ?_
            refine rg_o_long8 hx hb hts hown hK hP uw_7_74 dX12_chain_58 ?_
            refine lv_iload hx hb dX12_chain_61 (lv_at hl 0 rfl) ?_
            refine rl_long8 hx hb hK hP dX12_chain_63 (by omega) bF_279467 (fun z_279506 ez_279506 hz_279506 => ?_)
            refine lv_aload_n hx hb dX12_chain_64 rfl (lv_at hl 4 rfl) ?_
            refine rg_o_long8 hx hb hts hown hK hP uw_7_74 dX12_chain_65 ?_
            refine lv_iload_n hx hb dX12_chain_68 rfl (lv_at hl 1 rfl) ?_
            refine rl_long8 hx hb hK hP dX12_chain_69 (by omega) bF_279467 (fun z_279507 ez_279507 hz_279507 => ?_)
            refine sy_icmp_lt (tgt := 88) hx hb dX12_chain_70 (by decide) (by omega) (by omega) (fun c_279508 => ?_) (fun c_279508 => ?_)
            · skip
              have h_279509 := cO_k h34_2 (by omega) (by omega) ez_279506 ez_279507 (Or.inr (by omega))
              refine lv_iinc (v := mI (z_279466 + 1)) (lv' := [(4, .int (mI (z_279466 + 1))), (3, .int (mI z_279063)), (2, .int (mI z_271677)), (1, .int (mI z_279064)), (0, .ref (a 0))]) hx hb dX12_chain_88 hl (k := 0) rfl (mI_ad rfl) (by decide) rfl (fun ls hl => ?_)
              refine lv_goto (tgt := 34) hx hb dX12_chain_91 (by decide) ?_
              exact ih_279491 _ _ _ _ (by omega) ⟨(z_279466 + 1), F_279467, _, by omega, bF_279467, h_279509, rfl, hP, hS, lv_sub hl [0, 1, 2, 3, 4] rfl, rfl⟩
            · skip
              refine lv_aload_n hx hb dX12_chain_73 rfl (lv_at hl 4 rfl) ?_
              refine rg_o_long8 hx hb hts hown hK hP uw_7_74 dX12_chain_74 ?_
              refine lv_iload_n hx hb dX12_chain_77 rfl (lv_at hl 1 rfl) ?_
              refine lv_aload_n hx hb dX12_chain_78 rfl (lv_at hl 4 rfl) ?_
              refine rg_o_long8 hx hb hts hown hK hP uw_7_74 dX12_chain_79 ?_
              refine lv_iload hx hb dX12_chain_82 (lv_at hl 0 rfl) ?_
              refine rl_long8 hx hb hK hP dX12_chain_84 (by omega) bF_279467 (fun z_279510 ez_279510 hz_279510 => ?_)
              have h_279511 := cO_b hrk hs8 h34_2 (by omega) (i := z_279466) (by omega) ez_279510
              refine lv_iconst (v := mI 1) hx hb dX12_chain_85 rfl ?_
              refine sy_iadd hx hb dX12_chain_86 (z_279510 + 1) rfl ?_
              refine rs_long8 hx hb hK hP hD hS dX12_chain_87 (by omega) bF_279467 (by omega) (fun F_279512 H locs eF_279512 bF_279512 hP hS => ?_)
              have h_279513 := cO_u hrk hs8 h34_2 (by omega) (by omega) (by omega) c_279502_0 ez_279506 ez_279507 (by omega) eF_279512 (by omega)
              refine lv_iinc (v := mI (z_279466 + 1)) (lv' := [(4, .int (mI (z_279466 + 1))), (3, .int (mI z_279063)), (2, .int (mI z_271677)), (1, .int (mI z_279064)), (0, .ref (a 0))]) hx hb dX12_chain_88 hl (k := 0) rfl (mI_ad rfl) (by decide) rfl (fun ls hl => ?_)
              refine lv_goto (tgt := 34) hx hb dX12_chain_91 (by decide) ?_
              exact ih_279491 _ _ _ _ (by omega) ⟨(z_279466 + 1), F_279512, _, by omega, bF_279512, h_279513, rfl, hP, hS, lv_sub hl [0, 1, 2, 3, 4] rfl, rfl⟩
      · skip
        refine lv_aload_n hx hb dX12_chain_24 rfl (lv_at hl 3 rfl) ?_
        refine rg_o_long8 hx hb hts hown hK hP uw_7_74 dX12_chain_25 ?_
        refine lv_iload_n hx hb dX12_chain_28 rfl (lv_at hl 0 rfl) ?_
        refine lv_iconst (v := mI 1) hx hb dX12_chain_29 rfl ?_
        refine rs_long8 hx hb hK hP hD hS dX12_chain_30 (by omega) bF_279065 (by omega) (fun F_279514 H locs eF_279514 bF_279514 hP hS => ?_)
        have h_279515 := cO_00 (o := 0) hrk hs8 h12_3 (by omega) (by omega) eF_279514
        refine lv_iconst (v := mI 0) hx hb dX12_chain_31 rfl ?_
        refine lv_istore (lv' := [(4, .int (mI 0)), (3, .int (mI z_279063)), (2, .int (mI z_271677)), (1, .int (mI z_279064)), (0, .ref (a 0))]) hx hb dX12_chain_32 hl (by decide) rfl (fun ls hl => ?_)
        refine lv_iload hx hb dX12_chain_34 (lv_at hl 0 rfl) ?_
        refine lv_aload_n hx hb dX12_chain_36 rfl (lv_at hl 4 rfl) ?_
        refine g_i (rDt hD) hS hA (g_V (own := "HideReaderModel") (As := []) (rest := [.int (mI 0)]) hx hb hml hown hts hK hP (rDt hD) (kr_X12_stocks (l := l) (D := D) (k := k) h_x_bank b_B_herds) ck_X12_stocks iv_X12_stocks uw_8_126 (rv_o hK hP) rfl hl.1 rfl (Nat.le_of_ble_eq_true rfl) dX12_chain_37 ⟨Nat.le_of_ble_eq_true rfl, Nat.le_of_ble_eq_true rfl⟩ ⟨Nat.le_of_ble_eq_true rfl, Nat.le_of_ble_eq_true rfl⟩) (fun r_279524 H locs hQ hS => ?_)
        obtain ⟨hr_279524_0, hr_279524_1, hP⟩ := hQ
        refine sy_icmp_ge (tgt := 94) hx hb dX12_chain_40 (by decide) (by decide) (by omega) (fun c9 => False.elim (by omega)) (fun c_279525 => ?_)
        refine lv_iload_n hx hb dX12_chain_43 rfl (lv_at hl 2 rfl) ?_
        refine sy_if_le (tgt := 94) hx hb dX12_chain_44 (by decide) (by omega) (fun c_279526 => ?_) (fun c9 => False.elim (by omega))
        refine lv_aload_n hx hb dX12_chain_94 rfl (lv_at hl 4 rfl) ?_
        refine rg_o_long8 hx hb hts hown hK hP uw_7_74 dX12_chain_95 ?_
        refine lv_iload_n hx hb dX12_chain_98 rfl (lv_at hl 1 rfl) ?_
        refine rl_long8 hx hb hK hP dX12_chain_99 (by omega) bF_279514 (fun z_279527 ez_279527 hz_279527 => ?_)
        refine lv_iload_n hx hb dX12_chain_100 rfl (lv_at hl 3 rfl) ?_
        refine sy_icmp_le (tgt := 111) hx hb dX12_chain_101 (by decide) (by omega) (by omega) (fun c_279528 => ?_) (fun c_279528 => ?_)
        · skip
          have h_279529 := cO_e (m2 := z_279064) hrk hs8 h_279515 (by omega) (by omega) (by omega) ez_279527 (by omega)
          refine lv_iinc (v := mI (z_279063 + 1)) (lv' := [(3, .int (mI (z_279063 + 1))), (4, .int (mI 0)), (2, .int (mI z_271677)), (1, .int (mI z_279064)), (0, .ref (a 0))]) hx hb dX12_chain_111 hl (k := 1) rfl (mI_ad rfl) (by decide) rfl (fun ls hl => ?_)
          refine lv_goto (tgt := 12) hx hb dX12_chain_114 (by decide) ?_
          exact ih_279299 _ _ _ _ (by omega) ⟨(z_279063 + 1), z_279064, F_279514, _, by omega, by omega, bF_279514, h_279529, rfl, hP, hS, lv_sub hl [0, 2, 3, 4] rfl, rfl⟩
        · skip
          refine lv_aload_n hx hb dX12_chain_104 rfl (lv_at hl 4 rfl) ?_
          refine rg_o_long8 hx hb hts hown hK hP uw_7_74 dX12_chain_105 ?_
          refine lv_iload_n hx hb dX12_chain_108 rfl (lv_at hl 1 rfl) ?_
          refine rl_long8 hx hb hK hP dX12_chain_109 (by omega) bF_279514 (fun z_279530 ez_279530 hz_279530 => ?_)
          refine lv_istore_n (lv' := [(1, .int (mI z_279530)), (4, .int (mI 0)), (3, .int (mI z_279063)), (2, .int (mI z_271677)), (0, .ref (a 0))]) hx hb dX12_chain_110 rfl hl (by decide) rfl (fun ls hl => ?_)
          have h_279531 := cO_e (m2 := z_279530) hrk hs8 h_279515 (by omega) (by omega) (by omega) ez_279527 (by omega)
          refine lv_iinc (v := mI (z_279063 + 1)) (lv' := [(3, .int (mI (z_279063 + 1))), (1, .int (mI z_279530)), (4, .int (mI 0)), (2, .int (mI z_271677)), (0, .ref (a 0))]) hx hb dX12_chain_111 hl (k := 2) rfl (mI_ad rfl) (by decide) rfl (fun ls hl => ?_)
          refine lv_goto (tgt := 12) hx hb dX12_chain_114 (by decide) ?_
          exact ih_279299 _ _ _ _ (by omega) ⟨(z_279063 + 1), z_279530, F_279514, _, by omega, by omega, bF_279514, h_279531, rfl, hP, hS, lv_sub hl [0, 3, 1, 4] rfl, rfl⟩
end Kr
