section Kr
variable {l : Launch} {D : va_G} {k : Nat → ClassId} {a : Nat → Nat} {ex : va_W} {x_taped x_size x_faultKind x_faultPlace x_at x_end x_token x_number x_bank x_rb x_codes x_within x_piled x_unitsInRule x_askBeast x_askStroke x_askAge x_askSeason x_acts x_undone x_laid x_seens x_time x_fitting : Int} {n_name : Int64} {B_tape B_text B_turns B_herds B_irons B_beasts B_units B_night B_draw B_told B_brands B_ironMarks B_herdTold B_born B_ruleFrom B_ruleTo B_code B_codeNumber B_eWhat B_eSign B_pile B_all B_burned B_was B_need B_laidRow B_long8 B_brings B_sBurning B_sStroke B_sIs B_sTold B_sUntold B_parts B_boxAll B_isBoxed : Nat → Int} {G_hName G_iName G_bName : Nat → Int64}
set_option maxHeartbeats 4000000 in
set_option maxRecDepth 100000 in
theorem kr_X12_numeral_v0_99 (h_c0 : 0 ≤ 0 ∧ 0 ≤ 0) (h_c1 : 99 ≤ 99 ∧ 99 ≤ 99) (h_x_size : 0 ≤ x_size ∧ x_size ≤ 1600) (h_x_faultKind : 0 ≤ x_faultKind ∧ x_faultKind ≤ 5) (h_x_faultPlace : -1 ≤ x_faultPlace ∧ x_faultPlace ≤ 1600) (h_x_at : 0 ≤ x_at ∧ x_at ≤ 1600) (h_x_end : 0 ≤ x_end ∧ x_end ≤ 1600) (h_x_token : 0 ≤ x_token ∧ x_token ≤ 5) (h_x_number : -2147483648 ≤ x_number ∧ x_number ≤ 2147483647) (b_B_text : bd (-128) 127 B_text) (g_E : x_end ≤ x_size) : MetG l D k yX12_numeral cX12_numeral 4 (some .int) 2 [.ref (a 0), .int (mI 0), .int (mI 99)] (rW k a x_taped x_size x_faultKind x_faultPlace x_at x_end x_token x_number x_bank x_rb x_codes x_within x_piled x_unitsInRule x_askBeast x_askStroke x_askAge x_askSeason x_acts x_undone x_laid x_seens x_time x_fitting n_name B_tape B_text B_turns B_herds B_irons B_beasts B_units B_night B_draw B_told B_brands B_ironMarks B_herdTold B_born B_ruleFrom B_ruleTo B_code B_codeNumber B_eWhat B_eSign B_pile B_all B_burned B_was B_need B_laidRow B_long8 B_brings B_sBurning B_sStroke B_sIs B_sTold B_sUntold B_parts B_boxAll B_isBoxed G_hName G_iName G_bName ex) (qGi (fun r0 H => ∃ (y_faultKind : Int) (y_faultPlace : Int) (y_at : Int) (y_end : Int) (y_token : Int) (y_number : Int) (j_name : Int64), (0 ≤ r0 ∧ r0 ≤ 99) ∧ (0 ≤ y_faultKind ∧ y_faultKind ≤ 5) ∧ (-1 ≤ y_faultPlace ∧ y_faultPlace ≤ 1600) ∧ (0 ≤ y_at ∧ y_at ≤ 1600) ∧ (0 ≤ y_end ∧ y_end ≤ 1600) ∧ (0 ≤ y_token ∧ y_token ≤ 5) ∧ (-2147483648 ≤ y_number ∧ y_number ≤ 2147483647) ∧ (0 ≤ y_faultKind - x_faultKind) ∧ (0 ≤ y_end - x_end) ∧ (1 ≤ y_faultKind ∨ y_token ≤ 0 ∨ x_end + 1 ≤ y_end) ∧ (x_token = 4 ∨ 1 ≤ y_faultKind) ∧ (y_end ≤ x_size) ∧ va_P D vwCl (rW k a x_taped x_size y_faultKind y_faultPlace y_at y_end y_token y_number x_bank x_rb x_codes x_within x_piled x_unitsInRule x_askBeast x_askStroke x_askAge x_askSeason x_acts x_undone x_laid x_seens x_time x_fitting j_name B_tape B_text B_turns B_herds B_irons B_beasts B_units B_night B_draw B_told B_brands B_ironMarks B_herdTold B_born B_ruleFrom B_ruleTo B_code B_codeNumber B_eWhat B_eSign B_pile B_all B_burned B_was B_need B_laidRow B_long8 B_brings B_sBurning B_sStroke B_sIs B_sTold B_sUntold B_parts B_boxAll B_isBoxed G_hName G_iName G_bName ex) H)) := by
  refine metG_of 2 ck_X12_numeral (Nat.le_of_ble_eq_true rfl) rMap (fun p e s m args below meth c A hx hb hml hr hlocks hown hts hK hD hA hP hS ls hl => ?_)
  have hown : s.vm.findClass "HideReaderModel" = some m.cls := hown
  have hl : lv_has ls 4 [(0, .ref (a 0)), (1, .int (mI 0)), (2, .int (mI 99))] := hl
  refine lv_aload_n hx hb dX12_numeral_0 rfl (lv_at hl 0 rfl) ?_
  refine g_i (rDt hD) hS hA (g_V (own := "HideReaderModel") (As := []) (rest := []) hx hb hml hown hts hK hP (rDt hD) (kr_X12_isGood (l := l) (D := D) (k := k) h_x_faultKind) ck_X12_isGood iv_X12_isGood uw_8_18 (rv_o hK hP) rfl hl.1 rfl (Nat.le_of_ble_eq_true rfl) dX12_numeral_1 ⟨Nat.le_of_ble_eq_true rfl, Nat.le_of_ble_eq_true rfl⟩ ⟨Nat.le_of_ble_eq_true rfl, Nat.le_of_ble_eq_true rfl⟩) (fun r_1 H locs hQ hS => ?_)
  obtain ⟨hq_r_1, hP⟩ := hQ
  rcases hq_r_1 with ⟨rfl, c_2_0, c_2_1⟩ | ⟨rfl, c_3_0⟩
  · skip
    refine sy_if_ne (tgt := 9) hx hb dX12_numeral_4 (by decide) (by decide) (fun c9 => absurd c9 (by decide)) (fun c_4 => ?_)
    refine lv_iload_n hx hb dX12_numeral_7 rfl (lv_at hl 1 rfl) ?_
    exact r_i hx hb hr hlocks dX12_numeral_8 hS ⟨x_faultKind, x_faultPlace, x_at, x_end, x_token, x_number, n_name, by omega, by omega, by omega, by omega, by omega, by omega, by omega, by omega, by omega, by omega, by omega, g_E, hP⟩
  · skip
    refine sy_if_ne (tgt := 9) hx hb dX12_numeral_4 (by decide) (by decide) (fun c_5 => ?_) (fun c9 => absurd c9 (by decide))
    refine lv_aload_n hx hb dX12_numeral_9 rfl (lv_at hl 0 rfl) ?_
    refine rg_o_token hx hb hts hown hK hP uw_7_31 dX12_numeral_10 ?_
    refine lv_iconst (v := mI 4) hx hb dX12_numeral_13 rfl ?_
    refine sy_icmp_eq (tgt := 21) hx hb dX12_numeral_14 (by decide) (by omega) (by decide) (fun c_6 => ?_) (fun c_6 => ?_)
    · skip
      refine lv_aload_n hx hb dX12_numeral_21 rfl (lv_at hl 0 rfl) ?_
      refine g_i (rDt hD) hS hA (g_V (own := "HideReaderModel") (As := []) (rest := []) hx hb hml hown hts hK hP (rDt hD) (kr_X12_isGood (l := l) (D := D) (k := k) h_x_faultKind) ck_X12_isGood iv_X12_isGood uw_8_18 (rv_o hK hP) rfl hl.1 rfl (Nat.le_of_ble_eq_true rfl) dX12_numeral_22 ⟨Nat.le_of_ble_eq_true rfl, Nat.le_of_ble_eq_true rfl⟩ ⟨Nat.le_of_ble_eq_true rfl, Nat.le_of_ble_eq_true rfl⟩) (fun r_7 H locs hQ hS => ?_)
      obtain ⟨hq_r_7, hP⟩ := hQ
      rcases hq_r_7 with ⟨rfl, c_8_0, c_8_1⟩ | ⟨rfl, c_9_0⟩
      exact False.elim (by omega)
      · skip
        refine sy_if_eq (tgt := 53) hx hb dX12_numeral_25 (by decide) (by decide) (fun c9 => absurd c9 (by decide)) (fun c_10 => ?_)
        refine lv_aload_n hx hb dX12_numeral_28 rfl (lv_at hl 0 rfl) ?_
        refine rg_o_number hx hb hts hown hK hP uw_7_32 dX12_numeral_29 ?_
        refine lv_iload_n hx hb dX12_numeral_32 rfl (lv_at hl 1 rfl) ?_
        refine sy_icmp_lt (tgt := 44) hx hb dX12_numeral_33 (by decide) (by omega) (by decide) (fun c_11 => ?_) (fun c_11 => ?_)
        · skip
          refine lv_aload_n hx hb dX12_numeral_44 rfl (lv_at hl 0 rfl) ?_
          refine lv_iconst (v := mI 4) hx hb dX12_numeral_45 rfl ?_
          refine lv_aload_n hx hb dX12_numeral_46 rfl (lv_at hl 0 rfl) ?_
          refine rg_o_at hx hb hts hown hK hP uw_7_29 dX12_numeral_47 ?_
          refine g_v (rDt hD) hS hA (g_V (own := "HideReaderModel") (As := [.int (mI 4), .int (mI x_at)]) (rest := []) hx hb hml hown hts hK hP (rDt hD) (kr_X12_fails (l := l) (D := D) (k := k) (by decide) (by omega) h_x_faultKind h_x_faultPlace) ck_X12_fails iv_X12_fails uw_8_38 (rv_o hK hP) rfl hl.1 rfl (Nat.le_of_ble_eq_true rfl) dX12_numeral_50 ⟨Nat.le_of_ble_eq_true rfl, Nat.le_of_ble_eq_true rfl⟩ ⟨Nat.le_of_ble_eq_true rfl, Nat.le_of_ble_eq_true rfl⟩) (fun H locs hQ hS => ?_)
          obtain ⟨y_13, y_14, hr_12_0, hr_12_1, hr_12_2, hP⟩ := hQ
          refine lv_aload_n hx hb dX12_numeral_53 rfl (lv_at hl 0 rfl) ?_
          refine rg_o_number hx hb hts hown hK hP uw_7_32 dX12_numeral_54 ?_
          refine lv_istore_n (lv' := [(3, .int (mI x_number)), (0, .ref (a 0)), (1, .int (mI 0)), (2, .int (mI 99))]) hx hb dX12_numeral_57 rfl hl (by decide) rfl (fun ls hl => ?_)
          refine lv_aload_n hx hb dX12_numeral_58 rfl (lv_at hl 1 rfl) ?_
          refine g_i (rDt hD) hS hA (g_V (own := "HideReaderModel") (As := []) (rest := []) hx hb hml hown hts hK hP (rDt hD) (kr_X12_isGood (l := l) (D := D) (k := k) (by omega)) ck_X12_isGood iv_X12_isGood uw_8_18 (rv_o hK hP) rfl hl.1 rfl (Nat.le_of_ble_eq_true rfl) dX12_numeral_59 ⟨Nat.le_of_ble_eq_true rfl, Nat.le_of_ble_eq_true rfl⟩ ⟨Nat.le_of_ble_eq_true rfl, Nat.le_of_ble_eq_true rfl⟩) (fun r_15 H locs hQ hS => ?_)
          obtain ⟨hq_r_15, hP⟩ := hQ
          rcases hq_r_15 with ⟨rfl, c_16_0, c_16_1⟩ | ⟨rfl, c_17_0⟩
          · skip
            refine sy_if_eq (tgt := 69) hx hb dX12_numeral_62 (by decide) (by decide) (fun c_18 => ?_) (fun c9 => absurd c9 (by decide))
            refine lv_aload_n hx hb dX12_numeral_69 rfl (lv_at hl 1 rfl) ?_
            refine g_i (rDt hD) hS hA (g_V (own := "HideReaderModel") (As := []) (rest := []) hx hb hml hown hts hK hP (rDt hD) (kr_X12_isGood (l := l) (D := D) (k := k) (by omega)) ck_X12_isGood iv_X12_isGood uw_8_18 (rv_o hK hP) rfl hl.1 rfl (Nat.le_of_ble_eq_true rfl) dX12_numeral_70 ⟨Nat.le_of_ble_eq_true rfl, Nat.le_of_ble_eq_true rfl⟩ ⟨Nat.le_of_ble_eq_true rfl, Nat.le_of_ble_eq_true rfl⟩) (fun r_19 H locs hQ hS => ?_)
            obtain ⟨hq_r_19, hP⟩ := hQ
            rcases hq_r_19 with ⟨rfl, c_20_0, c_20_1⟩ | ⟨rfl, c_21_0⟩
            · skip
              refine sy_if_eq (tgt := 80) hx hb dX12_numeral_73 (by decide) (by decide) (fun c_22 => ?_) (fun c9 => absurd c9 (by decide))
              refine lv_iload_n hx hb dX12_numeral_80 rfl (lv_at hl 2 rfl) ?_
              exact r_i hx hb hr hlocks dX12_numeral_81 hS ⟨y_13, y_14, x_at, x_end, x_token, x_number, n_name, by omega, by omega, by omega, by omega, by omega, by omega, by omega, by omega, by omega, by omega, by omega, g_E, hP⟩
            exact False.elim (by omega)
          exact False.elim (by omega)
        · skip
          refine lv_aload_n hx hb dX12_numeral_36 rfl (lv_at hl 0 rfl) ?_
          refine rg_o_number hx hb hts hown hK hP uw_7_32 dX12_numeral_37 ?_
          refine lv_iload_n hx hb dX12_numeral_40 rfl (lv_at hl 2 rfl) ?_
          refine sy_icmp_le (tgt := 53) hx hb dX12_numeral_41 (by decide) (by omega) (by decide) (fun c_23 => ?_) (fun c_23 => ?_)
          · skip
            refine lv_aload_n hx hb dX12_numeral_53 rfl (lv_at hl 0 rfl) ?_
            refine rg_o_number hx hb hts hown hK hP uw_7_32 dX12_numeral_54 ?_
            refine lv_istore_n (lv' := [(3, .int (mI x_number)), (0, .ref (a 0)), (1, .int (mI 0)), (2, .int (mI 99))]) hx hb dX12_numeral_57 rfl hl (by decide) rfl (fun ls hl => ?_)
            refine lv_aload_n hx hb dX12_numeral_58 rfl (lv_at hl 1 rfl) ?_
            refine g_i (rDt hD) hS hA (g_V (own := "HideReaderModel") (As := []) (rest := []) hx hb hml hown hts hK hP (rDt hD) (kr_X12_isGood (l := l) (D := D) (k := k) h_x_faultKind) ck_X12_isGood iv_X12_isGood uw_8_18 (rv_o hK hP) rfl hl.1 rfl (Nat.le_of_ble_eq_true rfl) dX12_numeral_59 ⟨Nat.le_of_ble_eq_true rfl, Nat.le_of_ble_eq_true rfl⟩ ⟨Nat.le_of_ble_eq_true rfl, Nat.le_of_ble_eq_true rfl⟩) (fun r_24 H locs hQ hS => ?_)
            obtain ⟨hq_r_24, hP⟩ := hQ
            rcases hq_r_24 with ⟨rfl, c_25_0, c_25_1⟩ | ⟨rfl, c_26_0⟩
            exact False.elim (by omega)
            · skip
              refine sy_if_eq (tgt := 69) hx hb dX12_numeral_62 (by decide) (by decide) (fun c9 => absurd c9 (by decide)) (fun c_27 => ?_)
              refine lv_aload_n hx hb dX12_numeral_65 rfl (lv_at hl 1 rfl) ?_
              refine g_v (rDt hD) hS hA (g_V (own := "HideReaderModel") (As := []) (rest := []) hx hb hml hown hts hK hP (rDt hD) (kr_X12_goOn (l := l) (D := D) (k := k) h_x_size h_x_end h_x_number b_B_text g_E) ck_X12_goOn iv_X12_goOn uw_7_220 (rv_o hK hP) rfl hl.1 rfl (Nat.le_of_ble_eq_true rfl) dX12_numeral_66 ⟨Nat.le_of_ble_eq_true rfl, Nat.le_of_ble_eq_true rfl⟩ ⟨Nat.le_of_ble_eq_true rfl, Nat.le_of_ble_eq_true rfl⟩) (fun H locs hQ hS => ?_)
              obtain ⟨y_29, y_30, y_31, y_32, j_33, hr_28_0, hr_28_1, hr_28_2, hr_28_3, hr_28_4, hr_28_5, kr_28_E, hP⟩ := hQ
              refine lv_aload_n hx hb dX12_numeral_69 rfl (lv_at hl 1 rfl) ?_
              refine g_i (rDt hD) hS hA (g_V (own := "HideReaderModel") (As := []) (rest := []) hx hb hml hown hts hK hP (rDt hD) (kr_X12_isGood (l := l) (D := D) (k := k) h_x_faultKind) ck_X12_isGood iv_X12_isGood uw_8_18 (rv_o hK hP) rfl hl.1 rfl (Nat.le_of_ble_eq_true rfl) dX12_numeral_70 ⟨Nat.le_of_ble_eq_true rfl, Nat.le_of_ble_eq_true rfl⟩ ⟨Nat.le_of_ble_eq_true rfl, Nat.le_of_ble_eq_true rfl⟩) (fun r_34 H locs hQ hS => ?_)
              obtain ⟨hq_r_34, hP⟩ := hQ
              rcases hq_r_34 with ⟨rfl, c_35_0, c_35_1⟩ | ⟨rfl, c_36_0⟩
              exact False.elim (by omega)
              · skip
                refine sy_if_eq (tgt := 80) hx hb dX12_numeral_73 (by decide) (by decide) (fun c9 => absurd c9 (by decide)) (fun c_37 => ?_)
                refine lv_iload_n hx hb dX12_numeral_76 rfl (lv_at hl 0 rfl) ?_
                refine lv_goto (tgt := 81) hx hb dX12_numeral_77 (by decide) ?_
                exact r_i hx hb hr hlocks dX12_numeral_81 hS ⟨x_faultKind, x_faultPlace, y_29, y_30, y_31, y_32, j_33, by omega, by omega, by omega, by omega, by omega, by omega, by omega, by omega, by omega, by omega, by omega, kr_28_E, hP⟩
          · skip
            refine lv_aload_n hx hb dX12_numeral_44 rfl (lv_at hl 0 rfl) ?_
            refine lv_iconst (v := mI 4) hx hb dX12_numeral_45 rfl ?_
            refine lv_aload_n hx hb dX12_numeral_46 rfl (lv_at hl 0 rfl) ?_
            refine rg_o_at hx hb hts hown hK hP uw_7_29 dX12_numeral_47 ?_
            refine g_v (rDt hD) hS hA (g_V (own := "HideReaderModel") (As := [.int (mI 4), .int (mI x_at)]) (rest := []) hx hb hml hown hts hK hP (rDt hD) (kr_X12_fails (l := l) (D := D) (k := k) (by decide) (by omega) h_x_faultKind h_x_faultPlace) ck_X12_fails iv_X12_fails uw_8_38 (rv_o hK hP) rfl hl.1 rfl (Nat.le_of_ble_eq_true rfl) dX12_numeral_50 ⟨Nat.le_of_ble_eq_true rfl, Nat.le_of_ble_eq_true rfl⟩ ⟨Nat.le_of_ble_eq_true rfl, Nat.le_of_ble_eq_true rfl⟩) (fun H locs hQ hS => ?_)
            obtain ⟨y_39, y_40, hr_38_0, hr_38_1, hr_38_2, hP⟩ := hQ
            refine lv_aload_n hx hb dX12_numeral_53 rfl (lv_at hl 0 rfl) ?_
            refine rg_o_number hx hb hts hown hK hP uw_7_32 dX12_numeral_54 ?_
            refine lv_istore_n (lv' := [(3, .int (mI x_number)), (0, .ref (a 0)), (1, .int (mI 0)), (2, .int (mI 99))]) hx hb dX12_numeral_57 rfl hl (by decide) rfl (fun ls hl => ?_)
            refine lv_aload_n hx hb dX12_numeral_58 rfl (lv_at hl 1 rfl) ?_
            refine g_i (rDt hD) hS hA (g_V (own := "HideReaderModel") (As := []) (rest := []) hx hb hml hown hts hK hP (rDt hD) (kr_X12_isGood (l := l) (D := D) (k := k) (by omega)) ck_X12_isGood iv_X12_isGood uw_8_18 (rv_o hK hP) rfl hl.1 rfl (Nat.le_of_ble_eq_true rfl) dX12_numeral_59 ⟨Nat.le_of_ble_eq_true rfl, Nat.le_of_ble_eq_true rfl⟩ ⟨Nat.le_of_ble_eq_true rfl, Nat.le_of_ble_eq_true rfl⟩) (fun r_41 H locs hQ hS => ?_)
            obtain ⟨hq_r_41, hP⟩ := hQ
            rcases hq_r_41 with ⟨rfl, c_42_0, c_42_1⟩ | ⟨rfl, c_43_0⟩
            · skip
              refine sy_if_eq (tgt := 69) hx hb dX12_numeral_62 (by decide) (by decide) (fun c_44 => ?_) (fun c9 => absurd c9 (by decide))
              refine lv_aload_n hx hb dX12_numeral_69 rfl (lv_at hl 1 rfl) ?_
              refine g_i (rDt hD) hS hA (g_V (own := "HideReaderModel") (As := []) (rest := []) hx hb hml hown hts hK hP (rDt hD) (kr_X12_isGood (l := l) (D := D) (k := k) (by omega)) ck_X12_isGood iv_X12_isGood uw_8_18 (rv_o hK hP) rfl hl.1 rfl (Nat.le_of_ble_eq_true rfl) dX12_numeral_70 ⟨Nat.le_of_ble_eq_true rfl, Nat.le_of_ble_eq_true rfl⟩ ⟨Nat.le_of_ble_eq_true rfl, Nat.le_of_ble_eq_true rfl⟩) (fun r_45 H locs hQ hS => ?_)
              obtain ⟨hq_r_45, hP⟩ := hQ
              rcases hq_r_45 with ⟨rfl, c_46_0, c_46_1⟩ | ⟨rfl, c_47_0⟩
              · skip
                refine sy_if_eq (tgt := 80) hx hb dX12_numeral_73 (by decide) (by decide) (fun c_48 => ?_) (fun c9 => absurd c9 (by decide))
                refine lv_iload_n hx hb dX12_numeral_80 rfl (lv_at hl 2 rfl) ?_
                exact r_i hx hb hr hlocks dX12_numeral_81 hS ⟨y_39, y_40, x_at, x_end, x_token, x_number, n_name, by omega, by omega, by omega, by omega, by omega, by omega, by omega, by omega, by omega, by omega, by omega, g_E, hP⟩
              exact False.elim (by omega)
            exact False.elim (by omega)
    · skip
      refine lv_aload_n hx hb dX12_numeral_17 rfl (lv_at hl 0 rfl) ?_
      refine g_v (rDt hD) hS hA (g_V (own := "HideReaderModel") (As := []) (rest := []) hx hb hml hown hts hK hP (rDt hD) (kr_X12_misplaced (l := l) (D := D) (k := k) h_x_faultKind h_x_faultPlace h_x_at h_x_token) ck_X12_misplaced iv_X12_misplaced uw_8_34 (rv_o hK hP) rfl hl.1 rfl (Nat.le_of_ble_eq_true rfl) dX12_numeral_18 ⟨Nat.le_of_ble_eq_true rfl, Nat.le_of_ble_eq_true rfl⟩ ⟨Nat.le_of_ble_eq_true rfl, Nat.le_of_ble_eq_true rfl⟩) (fun H locs hQ hS => ?_)
      obtain ⟨y_50, y_51, hr_49_0, hr_49_1, hr_49_2, hP⟩ := hQ
      refine lv_aload_n hx hb dX12_numeral_21 rfl (lv_at hl 0 rfl) ?_
      refine g_i (rDt hD) hS hA (g_V (own := "HideReaderModel") (As := []) (rest := []) hx hb hml hown hts hK hP (rDt hD) (kr_X12_isGood (l := l) (D := D) (k := k) (by omega)) ck_X12_isGood iv_X12_isGood uw_8_18 (rv_o hK hP) rfl hl.1 rfl (Nat.le_of_ble_eq_true rfl) dX12_numeral_22 ⟨Nat.le_of_ble_eq_true rfl, Nat.le_of_ble_eq_true rfl⟩ ⟨Nat.le_of_ble_eq_true rfl, Nat.le_of_ble_eq_true rfl⟩) (fun r_52 H locs hQ hS => ?_)
      obtain ⟨hq_r_52, hP⟩ := hQ
      rcases hq_r_52 with ⟨rfl, c_53_0, c_53_1⟩ | ⟨rfl, c_54_0⟩
      · skip
        refine sy_if_eq (tgt := 53) hx hb dX12_numeral_25 (by decide) (by decide) (fun c_55 => ?_) (fun c9 => absurd c9 (by decide))
        refine lv_aload_n hx hb dX12_numeral_53 rfl (lv_at hl 0 rfl) ?_
        refine rg_o_number hx hb hts hown hK hP uw_7_32 dX12_numeral_54 ?_
        refine lv_istore_n (lv' := [(3, .int (mI x_number)), (0, .ref (a 0)), (1, .int (mI 0)), (2, .int (mI 99))]) hx hb dX12_numeral_57 rfl hl (by decide) rfl (fun ls hl => ?_)
        refine lv_aload_n hx hb dX12_numeral_58 rfl (lv_at hl 1 rfl) ?_
        refine g_i (rDt hD) hS hA (g_V (own := "HideReaderModel") (As := []) (rest := []) hx hb hml hown hts hK hP (rDt hD) (kr_X12_isGood (l := l) (D := D) (k := k) (by omega)) ck_X12_isGood iv_X12_isGood uw_8_18 (rv_o hK hP) rfl hl.1 rfl (Nat.le_of_ble_eq_true rfl) dX12_numeral_59 ⟨Nat.le_of_ble_eq_true rfl, Nat.le_of_ble_eq_true rfl⟩ ⟨Nat.le_of_ble_eq_true rfl, Nat.le_of_ble_eq_true rfl⟩) (fun r_56 H locs hQ hS => ?_)
        obtain ⟨hq_r_56, hP⟩ := hQ
        rcases hq_r_56 with ⟨rfl, c_57_0, c_57_1⟩ | ⟨rfl, c_58_0⟩
        · skip
          refine sy_if_eq (tgt := 69) hx hb dX12_numeral_62 (by decide) (by decide) (fun c_59 => ?_) (fun c9 => absurd c9 (by decide))
          refine lv_aload_n hx hb dX12_numeral_69 rfl (lv_at hl 1 rfl) ?_
          refine g_i (rDt hD) hS hA (g_V (own := "HideReaderModel") (As := []) (rest := []) hx hb hml hown hts hK hP (rDt hD) (kr_X12_isGood (l := l) (D := D) (k := k) (by omega)) ck_X12_isGood iv_X12_isGood uw_8_18 (rv_o hK hP) rfl hl.1 rfl (Nat.le_of_ble_eq_true rfl) dX12_numeral_70 ⟨Nat.le_of_ble_eq_true rfl, Nat.le_of_ble_eq_true rfl⟩ ⟨Nat.le_of_ble_eq_true rfl, Nat.le_of_ble_eq_true rfl⟩) (fun r_60 H locs hQ hS => ?_)
          obtain ⟨hq_r_60, hP⟩ := hQ
          rcases hq_r_60 with ⟨rfl, c_61_0, c_61_1⟩ | ⟨rfl, c_62_0⟩
          · skip
            refine sy_if_eq (tgt := 80) hx hb dX12_numeral_73 (by decide) (by decide) (fun c_63 => ?_) (fun c9 => absurd c9 (by decide))
            refine lv_iload_n hx hb dX12_numeral_80 rfl (lv_at hl 2 rfl) ?_
            exact r_i hx hb hr hlocks dX12_numeral_81 hS ⟨y_50, y_51, x_at, x_end, x_token, x_number, n_name, by omega, by omega, by omega, by omega, by omega, by omega, by omega, by omega, by omega, by omega, by omega, g_E, hP⟩
          exact False.elim (by omega)
        exact False.elim (by omega)
      exact False.elim (by omega)
set_option maxHeartbeats 4000000 in
set_option maxRecDepth 100000 in
theorem kr_X12_after {p0 : Int64} (h_c1 : 0 ≤ 0 ∧ 0 ≤ 0) (h_c2 : 99 ≤ 99 ∧ 99 ≤ 99) (h_x_size : 0 ≤ x_size ∧ x_size ≤ 1600) (h_x_faultKind : 0 ≤ x_faultKind ∧ x_faultKind ≤ 5) (h_x_faultPlace : -1 ≤ x_faultPlace ∧ x_faultPlace ≤ 1600) (h_x_at : 0 ≤ x_at ∧ x_at ≤ 1600) (h_x_end : 0 ≤ x_end ∧ x_end ≤ 1600) (h_x_token : 0 ≤ x_token ∧ x_token ≤ 5) (h_x_number : -2147483648 ≤ x_number ∧ x_number ≤ 2147483647) (b_B_text : bd (-128) 127 B_text) (g_E : x_end ≤ x_size) : MetG l D k yX12_after cX12_after 5 (some .int) 3 [.ref (a 0), .long p0, .int (mI 0), .int (mI 99)] (rW k a x_taped x_size x_faultKind x_faultPlace x_at x_end x_token x_number x_bank x_rb x_codes x_within x_piled x_unitsInRule x_askBeast x_askStroke x_askAge x_askSeason x_acts x_undone x_laid x_seens x_time x_fitting n_name B_tape B_text B_turns B_herds B_irons B_beasts B_units B_night B_draw B_told B_brands B_ironMarks B_herdTold B_born B_ruleFrom B_ruleTo B_code B_codeNumber B_eWhat B_eSign B_pile B_all B_burned B_was B_need B_laidRow B_long8 B_brings B_sBurning B_sStroke B_sIs B_sTold B_sUntold B_parts B_boxAll B_isBoxed G_hName G_iName G_bName ex) (qGi (fun r0 H => ∃ (y_faultKind : Int) (y_faultPlace : Int) (y_at : Int) (y_end : Int) (y_token : Int) (y_number : Int) (j_name : Int64), (0 ≤ r0 ∧ r0 ≤ 99) ∧ (0 ≤ y_faultKind ∧ y_faultKind ≤ 5) ∧ (-1 ≤ y_faultPlace ∧ y_faultPlace ≤ 1600) ∧ (0 ≤ y_at ∧ y_at ≤ 1600) ∧ (0 ≤ y_end ∧ y_end ≤ 1600) ∧ (0 ≤ y_token ∧ y_token ≤ 5) ∧ (-2147483648 ≤ y_number ∧ y_number ≤ 2147483647) ∧ (0 ≤ y_faultKind - x_faultKind) ∧ (0 ≤ y_end - x_end) ∧ (1 ≤ y_faultKind ∨ y_token ≤ 0 ∨ x_end + 1 ≤ y_end) ∧ (x_token = 3 ∨ 1 ≤ y_faultKind) ∧ (y_end ≤ x_size) ∧ va_P D vwCl (rW k a x_taped x_size y_faultKind y_faultPlace y_at y_end y_token y_number x_bank x_rb x_codes x_within x_piled x_unitsInRule x_askBeast x_askStroke x_askAge x_askSeason x_acts x_undone x_laid x_seens x_time x_fitting j_name B_tape B_text B_turns B_herds B_irons B_beasts B_units B_night B_draw B_told B_brands B_ironMarks B_herdTold B_born B_ruleFrom B_ruleTo B_code B_codeNumber B_eWhat B_eSign B_pile B_all B_burned B_was B_need B_laidRow B_long8 B_brings B_sBurning B_sStroke B_sIs B_sTold B_sUntold B_parts B_boxAll B_isBoxed G_hName G_iName G_bName ex) H)) := by
  refine metG_of 3 ck_X12_after (Nat.le_of_ble_eq_true rfl) rMap (fun p e s m args below meth c A hx hb hml hr hlocks hown hts hK hD hA hP hS ls hl => ?_)
  have hown : s.vm.findClass "HideReaderModel" = some m.cls := hown
  have hl : lv_has ls 5 [(0, .ref (a 0)), (1, .long p0), (3, .int (mI 0)), (4, .int (mI 99))] := hl
  refine lv_aload_n hx hb dX12_after_0 rfl (lv_at hl 0 rfl) ?_
  refine lv_aload_n hx hb dX12_after_1 rfl (lv_at hl 0 rfl) ?_
  refine lv_lload_n hx hb dX12_after_2 rfl (lv_at hl 1 rfl) ?_
  refine g_i (rDt hD) hS hA (g_V (own := "HideReaderModel") (As := [.long p0]) (rest := [.ref (a 0)]) hx hb hml hown hts hK hP (rDt hD) (kr_X12_isWord (l := l) (D := D) (k := k) h_x_token) ck_X12_isWord iv_X12_isWord uw_8_30 (rv_o hK hP) rfl hl.1 rfl (Nat.le_of_ble_eq_true rfl) dX12_after_3 ⟨Nat.le_of_ble_eq_true rfl, Nat.le_of_ble_eq_true rfl⟩ ⟨Nat.le_of_ble_eq_true rfl, Nat.le_of_ble_eq_true rfl⟩) (fun r_1 H locs hQ hS => ?_)
  obtain ⟨hq_r_1, hP⟩ := hQ
  rcases hq_r_1 with ⟨rfl, c_2_0, c_2_1⟩ | ⟨rfl, c_3_0, c_3_1⟩
  · skip
    refine g_v (rDt hD) hS hA (g_V (own := "HideReaderModel") (As := [.int (mI 0)]) (rest := []) hx hb hml hown hts hK hP (rDt hD) (kr_X12_must (l := l) (D := D) (k := k) (by decide) h_x_size h_x_faultKind h_x_faultPlace h_x_at h_x_end h_x_token h_x_number b_B_text g_E) ck_X12_must iv_X12_must uw_8_62 (rv_o hK hP) rfl hl.1 rfl (Nat.le_of_ble_eq_true rfl) dX12_after_6 ⟨Nat.le_of_ble_eq_true rfl, Nat.le_of_ble_eq_true rfl⟩ ⟨Nat.le_of_ble_eq_true rfl, Nat.le_of_ble_eq_true rfl⟩) (fun H locs hQ hS => ?_)
    obtain ⟨y_5, y_6, y_7, y_8, y_9, y_10, j_11, hr_4_0, hr_4_1, hr_4_2, hr_4_3, hr_4_4, hr_4_5, hr_4_6, hr_4_7, hr_4_8, hr_4_9, kr_4_E, hP⟩ := hQ
    refine lv_aload_n hx hb dX12_after_9 rfl (lv_at hl 0 rfl) ?_
    refine lv_iload_n hx hb dX12_after_10 rfl (lv_at hl 2 rfl) ?_
    refine lv_iload hx hb dX12_after_11 (lv_at hl 3 rfl) ?_
    refine g_i (rDt hD) hS hA (g_V (own := "HideReaderModel") (As := [.int (mI 0), .int (mI 99)]) (rest := []) hx hb hml hown hts hK hP (rDt hD) (kr_X12_numeral_v0_99 (l := l) (D := D) (k := k) (by decide) (by decide) h_x_size (by omega) (by omega) (by omega) (by omega) (by omega) (by omega) b_B_text kr_4_E) ck_X12_numeral iv_X12_numeral uw_8_46 (rv_o hK hP) rfl hl.1 rfl (Nat.le_of_ble_eq_true rfl) dX12_after_13 ⟨Nat.le_of_ble_eq_true rfl, Nat.le_of_ble_eq_true rfl⟩ ⟨Nat.le_of_ble_eq_true rfl, Nat.le_of_ble_eq_true rfl⟩) (fun r_12 H locs hQ hS => ?_)
    obtain ⟨y_13, y_14, y_15, y_16, y_17, y_18, j_19, hr_12_0, hr_12_1, hr_12_2, hr_12_3, hr_12_4, hr_12_5, hr_12_6, hr_12_7, hr_12_8, hr_12_9, hr_12_10, kr_12_E, hP⟩ := hQ
    exact r_i hx hb hr hlocks dX12_after_16 hS ⟨y_13, y_14, y_15, y_16, y_17, y_18, j_19, by omega, by omega, by omega, by omega, by omega, by omega, by omega, by omega, by omega, by omega, by omega, kr_12_E, hP⟩
  · skip
    refine g_v (rDt hD) hS hA (g_V (own := "HideReaderModel") (As := [.int (mI 1)]) (rest := []) hx hb hml hown hts hK hP (rDt hD) (kr_X12_must (l := l) (D := D) (k := k) (by decide) h_x_size h_x_faultKind h_x_faultPlace h_x_at h_x_end h_x_token h_x_number b_B_text g_E) ck_X12_must iv_X12_must uw_8_62 (rv_o hK hP) rfl hl.1 rfl (Nat.le_of_ble_eq_true rfl) dX12_after_6 ⟨Nat.le_of_ble_eq_true rfl, Nat.le_of_ble_eq_true rfl⟩ ⟨Nat.le_of_ble_eq_true rfl, Nat.le_of_ble_eq_true rfl⟩) (fun H locs hQ hS => ?_)
    obtain ⟨y_21, y_22, y_23, y_24, y_25, y_26, j_27, hr_20_0, hr_20_1, hr_20_2, hr_20_3, hr_20_4, hr_20_5, hr_20_6, hr_20_7, hr_20_8, hr_20_9, kr_20_E, hP⟩ := hQ
    refine lv_aload_n hx hb dX12_after_9 rfl (lv_at hl 0 rfl) ?_
    refine lv_iload_n hx hb dX12_after_10 rfl (lv_at hl 2 rfl) ?_
    refine lv_iload hx hb dX12_after_11 (lv_at hl 3 rfl) ?_
    refine g_i (rDt hD) hS hA (g_V (own := "HideReaderModel") (As := [.int (mI 0), .int (mI 99)]) (rest := []) hx hb hml hown hts hK hP (rDt hD) (kr_X12_numeral_v0_99 (l := l) (D := D) (k := k) (by decide) (by decide) h_x_size (by omega) (by omega) (by omega) (by omega) (by omega) (by omega) b_B_text kr_20_E) ck_X12_numeral iv_X12_numeral uw_8_46 (rv_o hK hP) rfl hl.1 rfl (Nat.le_of_ble_eq_true rfl) dX12_after_13 ⟨Nat.le_of_ble_eq_true rfl, Nat.le_of_ble_eq_true rfl⟩ ⟨Nat.le_of_ble_eq_true rfl, Nat.le_of_ble_eq_true rfl⟩) (fun r_28 H locs hQ hS => ?_)
    obtain ⟨y_29, y_30, y_31, y_32, y_33, y_34, j_35, hr_28_0, hr_28_1, hr_28_2, hr_28_3, hr_28_4, hr_28_5, hr_28_6, hr_28_7, hr_28_8, hr_28_9, hr_28_10, kr_28_E, hP⟩ := hQ
    exact r_i hx hb hr hlocks dX12_after_16 hS ⟨y_29, y_30, y_31, y_32, y_33, y_34, j_35, by omega, by omega, by omega, by omega, by omega, by omega, by omega, by omega, by omega, by omega, by omega, kr_28_E, hP⟩
set_option maxHeartbeats 4000000 in
set_option maxRecDepth 100000 in
theorem kr_X12_numeral_v1_4 (h_c0 : 1 ≤ 1 ∧ 1 ≤ 1) (h_c1 : 4 ≤ 4 ∧ 4 ≤ 4) (h_x_size : 0 ≤ x_size ∧ x_size ≤ 1600) (h_x_faultKind : 0 ≤ x_faultKind ∧ x_faultKind ≤ 5) (h_x_faultPlace : -1 ≤ x_faultPlace ∧ x_faultPlace ≤ 1600) (h_x_at : 0 ≤ x_at ∧ x_at ≤ 1600) (h_x_end : 0 ≤ x_end ∧ x_end ≤ 1600) (h_x_token : 0 ≤ x_token ∧ x_token ≤ 5) (h_x_number : -2147483648 ≤ x_number ∧ x_number ≤ 2147483647) (b_B_text : bd (-128) 127 B_text) (g_E : x_end ≤ x_size) : MetG l D k yX12_numeral cX12_numeral 4 (some .int) 2 [.ref (a 0), .int (mI 1), .int (mI 4)] (rW k a x_taped x_size x_faultKind x_faultPlace x_at x_end x_token x_number x_bank x_rb x_codes x_within x_piled x_unitsInRule x_askBeast x_askStroke x_askAge x_askSeason x_acts x_undone x_laid x_seens x_time x_fitting n_name B_tape B_text B_turns B_herds B_irons B_beasts B_units B_night B_draw B_told B_brands B_ironMarks B_herdTold B_born B_ruleFrom B_ruleTo B_code B_codeNumber B_eWhat B_eSign B_pile B_all B_burned B_was B_need B_laidRow B_long8 B_brings B_sBurning B_sStroke B_sIs B_sTold B_sUntold B_parts B_boxAll B_isBoxed G_hName G_iName G_bName ex) (qGi (fun r0 H => ∃ (y_faultKind : Int) (y_faultPlace : Int) (y_at : Int) (y_end : Int) (y_token : Int) (y_number : Int) (j_name : Int64), (1 ≤ r0 ∧ r0 ≤ 4) ∧ (0 ≤ y_faultKind ∧ y_faultKind ≤ 5) ∧ (-1 ≤ y_faultPlace ∧ y_faultPlace ≤ 1600) ∧ (0 ≤ y_at ∧ y_at ≤ 1600) ∧ (0 ≤ y_end ∧ y_end ≤ 1600) ∧ (0 ≤ y_token ∧ y_token ≤ 5) ∧ (-2147483648 ≤ y_number ∧ y_number ≤ 2147483647) ∧ (0 ≤ y_faultKind - x_faultKind) ∧ (0 ≤ y_end - x_end) ∧ (1 ≤ y_faultKind ∨ y_token ≤ 0 ∨ x_end + 1 ≤ y_end) ∧ (x_token = 4 ∨ 1 ≤ y_faultKind) ∧ (y_end ≤ x_size) ∧ va_P D vwCl (rW k a x_taped x_size y_faultKind y_faultPlace y_at y_end y_token y_number x_bank x_rb x_codes x_within x_piled x_unitsInRule x_askBeast x_askStroke x_askAge x_askSeason x_acts x_undone x_laid x_seens x_time x_fitting j_name B_tape B_text B_turns B_herds B_irons B_beasts B_units B_night B_draw B_told B_brands B_ironMarks B_herdTold B_born B_ruleFrom B_ruleTo B_code B_codeNumber B_eWhat B_eSign B_pile B_all B_burned B_was B_need B_laidRow B_long8 B_brings B_sBurning B_sStroke B_sIs B_sTold B_sUntold B_parts B_boxAll B_isBoxed G_hName G_iName G_bName ex) H)) := by
  refine metG_of 2 ck_X12_numeral (Nat.le_of_ble_eq_true rfl) rMap (fun p e s m args below meth c A hx hb hml hr hlocks hown hts hK hD hA hP hS ls hl => ?_)
  have hown : s.vm.findClass "HideReaderModel" = some m.cls := hown
  have hl : lv_has ls 4 [(0, .ref (a 0)), (1, .int (mI 1)), (2, .int (mI 4))] := hl
  refine lv_aload_n hx hb dX12_numeral_0 rfl (lv_at hl 0 rfl) ?_
  refine g_i (rDt hD) hS hA (g_V (own := "HideReaderModel") (As := []) (rest := []) hx hb hml hown hts hK hP (rDt hD) (kr_X12_isGood (l := l) (D := D) (k := k) h_x_faultKind) ck_X12_isGood iv_X12_isGood uw_8_18 (rv_o hK hP) rfl hl.1 rfl (Nat.le_of_ble_eq_true rfl) dX12_numeral_1 ⟨Nat.le_of_ble_eq_true rfl, Nat.le_of_ble_eq_true rfl⟩ ⟨Nat.le_of_ble_eq_true rfl, Nat.le_of_ble_eq_true rfl⟩) (fun r_1 H locs hQ hS => ?_)
  obtain ⟨hq_r_1, hP⟩ := hQ
  rcases hq_r_1 with ⟨rfl, c_2_0, c_2_1⟩ | ⟨rfl, c_3_0⟩
  · skip
    refine sy_if_ne (tgt := 9) hx hb dX12_numeral_4 (by decide) (by decide) (fun c9 => absurd c9 (by decide)) (fun c_4 => ?_)
    refine lv_iload_n hx hb dX12_numeral_7 rfl (lv_at hl 1 rfl) ?_
    exact r_i hx hb hr hlocks dX12_numeral_8 hS ⟨x_faultKind, x_faultPlace, x_at, x_end, x_token, x_number, n_name, by omega, by omega, by omega, by omega, by omega, by omega, by omega, by omega, by omega, by omega, by omega, g_E, hP⟩
  · skip
    refine sy_if_ne (tgt := 9) hx hb dX12_numeral_4 (by decide) (by decide) (fun c_5 => ?_) (fun c9 => absurd c9 (by decide))
    refine lv_aload_n hx hb dX12_numeral_9 rfl (lv_at hl 0 rfl) ?_
    refine rg_o_token hx hb hts hown hK hP uw_7_31 dX12_numeral_10 ?_
    refine lv_iconst (v := mI 4) hx hb dX12_numeral_13 rfl ?_
    refine sy_icmp_eq (tgt := 21) hx hb dX12_numeral_14 (by decide) (by omega) (by decide) (fun c_6 => ?_) (fun c_6 => ?_)
    · skip
      refine lv_aload_n hx hb dX12_numeral_21 rfl (lv_at hl 0 rfl) ?_
      refine g_i (rDt hD) hS hA (g_V (own := "HideReaderModel") (As := []) (rest := []) hx hb hml hown hts hK hP (rDt hD) (kr_X12_isGood (l := l) (D := D) (k := k) h_x_faultKind) ck_X12_isGood iv_X12_isGood uw_8_18 (rv_o hK hP) rfl hl.1 rfl (Nat.le_of_ble_eq_true rfl) dX12_numeral_22 ⟨Nat.le_of_ble_eq_true rfl, Nat.le_of_ble_eq_true rfl⟩ ⟨Nat.le_of_ble_eq_true rfl, Nat.le_of_ble_eq_true rfl⟩) (fun r_7 H locs hQ hS => ?_)
      obtain ⟨hq_r_7, hP⟩ := hQ
      rcases hq_r_7 with ⟨rfl, c_8_0, c_8_1⟩ | ⟨rfl, c_9_0⟩
      exact False.elim (by omega)
      · skip
        refine sy_if_eq (tgt := 53) hx hb dX12_numeral_25 (by decide) (by decide) (fun c9 => absurd c9 (by decide)) (fun c_10 => ?_)
        refine lv_aload_n hx hb dX12_numeral_28 rfl (lv_at hl 0 rfl) ?_
        refine rg_o_number hx hb hts hown hK hP uw_7_32 dX12_numeral_29 ?_
        refine lv_iload_n hx hb dX12_numeral_32 rfl (lv_at hl 1 rfl) ?_
        refine sy_icmp_lt (tgt := 44) hx hb dX12_numeral_33 (by decide) (by omega) (by decide) (fun c_11 => ?_) (fun c_11 => ?_)
        · skip
          refine lv_aload_n hx hb dX12_numeral_44 rfl (lv_at hl 0 rfl) ?_
          refine lv_iconst (v := mI 4) hx hb dX12_numeral_45 rfl ?_
          refine lv_aload_n hx hb dX12_numeral_46 rfl (lv_at hl 0 rfl) ?_
          refine rg_o_at hx hb hts hown hK hP uw_7_29 dX12_numeral_47 ?_
          refine g_v (rDt hD) hS hA (g_V (own := "HideReaderModel") (As := [.int (mI 4), .int (mI x_at)]) (rest := []) hx hb hml hown hts hK hP (rDt hD) (kr_X12_fails (l := l) (D := D) (k := k) (by decide) (by omega) h_x_faultKind h_x_faultPlace) ck_X12_fails iv_X12_fails uw_8_38 (rv_o hK hP) rfl hl.1 rfl (Nat.le_of_ble_eq_true rfl) dX12_numeral_50 ⟨Nat.le_of_ble_eq_true rfl, Nat.le_of_ble_eq_true rfl⟩ ⟨Nat.le_of_ble_eq_true rfl, Nat.le_of_ble_eq_true rfl⟩) (fun H locs hQ hS => ?_)
          obtain ⟨y_13, y_14, hr_12_0, hr_12_1, hr_12_2, hP⟩ := hQ
          refine lv_aload_n hx hb dX12_numeral_53 rfl (lv_at hl 0 rfl) ?_
          refine rg_o_number hx hb hts hown hK hP uw_7_32 dX12_numeral_54 ?_
          refine lv_istore_n (lv' := [(3, .int (mI x_number)), (0, .ref (a 0)), (1, .int (mI 1)), (2, .int (mI 4))]) hx hb dX12_numeral_57 rfl hl (by decide) rfl (fun ls hl => ?_)
          refine lv_aload_n hx hb dX12_numeral_58 rfl (lv_at hl 1 rfl) ?_
          refine g_i (rDt hD) hS hA (g_V (own := "HideReaderModel") (As := []) (rest := []) hx hb hml hown hts hK hP (rDt hD) (kr_X12_isGood (l := l) (D := D) (k := k) (by omega)) ck_X12_isGood iv_X12_isGood uw_8_18 (rv_o hK hP) rfl hl.1 rfl (Nat.le_of_ble_eq_true rfl) dX12_numeral_59 ⟨Nat.le_of_ble_eq_true rfl, Nat.le_of_ble_eq_true rfl⟩ ⟨Nat.le_of_ble_eq_true rfl, Nat.le_of_ble_eq_true rfl⟩) (fun r_15 H locs hQ hS => ?_)
          obtain ⟨hq_r_15, hP⟩ := hQ
          rcases hq_r_15 with ⟨rfl, c_16_0, c_16_1⟩ | ⟨rfl, c_17_0⟩
          · skip
            refine sy_if_eq (tgt := 69) hx hb dX12_numeral_62 (by decide) (by decide) (fun c_18 => ?_) (fun c9 => absurd c9 (by decide))
            refine lv_aload_n hx hb dX12_numeral_69 rfl (lv_at hl 1 rfl) ?_
            refine g_i (rDt hD) hS hA (g_V (own := "HideReaderModel") (As := []) (rest := []) hx hb hml hown hts hK hP (rDt hD) (kr_X12_isGood (l := l) (D := D) (k := k) (by omega)) ck_X12_isGood iv_X12_isGood uw_8_18 (rv_o hK hP) rfl hl.1 rfl (Nat.le_of_ble_eq_true rfl) dX12_numeral_70 ⟨Nat.le_of_ble_eq_true rfl, Nat.le_of_ble_eq_true rfl⟩ ⟨Nat.le_of_ble_eq_true rfl, Nat.le_of_ble_eq_true rfl⟩) (fun r_19 H locs hQ hS => ?_)
            obtain ⟨hq_r_19, hP⟩ := hQ
            rcases hq_r_19 with ⟨rfl, c_20_0, c_20_1⟩ | ⟨rfl, c_21_0⟩
            · skip
              refine sy_if_eq (tgt := 80) hx hb dX12_numeral_73 (by decide) (by decide) (fun c_22 => ?_) (fun c9 => absurd c9 (by decide))
              refine lv_iload_n hx hb dX12_numeral_80 rfl (lv_at hl 2 rfl) ?_
              exact r_i hx hb hr hlocks dX12_numeral_81 hS ⟨y_13, y_14, x_at, x_end, x_token, x_number, n_name, by omega, by omega, by omega, by omega, by omega, by omega, by omega, by omega, by omega, by omega, by omega, g_E, hP⟩
            exact False.elim (by omega)
          exact False.elim (by omega)
        · skip
          refine lv_aload_n hx hb dX12_numeral_36 rfl (lv_at hl 0 rfl) ?_
          refine rg_o_number hx hb hts hown hK hP uw_7_32 dX12_numeral_37 ?_
          refine lv_iload_n hx hb dX12_numeral_40 rfl (lv_at hl 2 rfl) ?_
          refine sy_icmp_le (tgt := 53) hx hb dX12_numeral_41 (by decide) (by omega) (by decide) (fun c_23 => ?_) (fun c_23 => ?_)
          · skip
            refine lv_aload_n hx hb dX12_numeral_53 rfl (lv_at hl 0 rfl) ?_
            refine rg_o_number hx hb hts hown hK hP uw_7_32 dX12_numeral_54 ?_
            refine lv_istore_n (lv' := [(3, .int (mI x_number)), (0, .ref (a 0)), (1, .int (mI 1)), (2, .int (mI 4))]) hx hb dX12_numeral_57 rfl hl (by decide) rfl (fun ls hl => ?_)
            refine lv_aload_n hx hb dX12_numeral_58 rfl (lv_at hl 1 rfl) ?_
            refine g_i (rDt hD) hS hA (g_V (own := "HideReaderModel") (As := []) (rest := []) hx hb hml hown hts hK hP (rDt hD) (kr_X12_isGood (l := l) (D := D) (k := k) h_x_faultKind) ck_X12_isGood iv_X12_isGood uw_8_18 (rv_o hK hP) rfl hl.1 rfl (Nat.le_of_ble_eq_true rfl) dX12_numeral_59 ⟨Nat.le_of_ble_eq_true rfl, Nat.le_of_ble_eq_true rfl⟩ ⟨Nat.le_of_ble_eq_true rfl, Nat.le_of_ble_eq_true rfl⟩) (fun r_24 H locs hQ hS => ?_)
            obtain ⟨hq_r_24, hP⟩ := hQ
            rcases hq_r_24 with ⟨rfl, c_25_0, c_25_1⟩ | ⟨rfl, c_26_0⟩
            exact False.elim (by omega)
            · skip
              refine sy_if_eq (tgt := 69) hx hb dX12_numeral_62 (by decide) (by decide) (fun c9 => absurd c9 (by decide)) (fun c_27 => ?_)
              refine lv_aload_n hx hb dX12_numeral_65 rfl (lv_at hl 1 rfl) ?_
              refine g_v (rDt hD) hS hA (g_V (own := "HideReaderModel") (As := []) (rest := []) hx hb hml hown hts hK hP (rDt hD) (kr_X12_goOn (l := l) (D := D) (k := k) h_x_size h_x_end h_x_number b_B_text g_E) ck_X12_goOn iv_X12_goOn uw_7_220 (rv_o hK hP) rfl hl.1 rfl (Nat.le_of_ble_eq_true rfl) dX12_numeral_66 ⟨Nat.le_of_ble_eq_true rfl, Nat.le_of_ble_eq_true rfl⟩ ⟨Nat.le_of_ble_eq_true rfl, Nat.le_of_ble_eq_true rfl⟩) (fun H locs hQ hS => ?_)
              obtain ⟨y_29, y_30, y_31, y_32, j_33, hr_28_0, hr_28_1, hr_28_2, hr_28_3, hr_28_4, hr_28_5, kr_28_E, hP⟩ := hQ
              refine lv_aload_n hx hb dX12_numeral_69 rfl (lv_at hl 1 rfl) ?_
              refine g_i (rDt hD) hS hA (g_V (own := "HideReaderModel") (As := []) (rest := []) hx hb hml hown hts hK hP (rDt hD) (kr_X12_isGood (l := l) (D := D) (k := k) h_x_faultKind) ck_X12_isGood iv_X12_isGood uw_8_18 (rv_o hK hP) rfl hl.1 rfl (Nat.le_of_ble_eq_true rfl) dX12_numeral_70 ⟨Nat.le_of_ble_eq_true rfl, Nat.le_of_ble_eq_true rfl⟩ ⟨Nat.le_of_ble_eq_true rfl, Nat.le_of_ble_eq_true rfl⟩) (fun r_34 H locs hQ hS => ?_)
              obtain ⟨hq_r_34, hP⟩ := hQ
              rcases hq_r_34 with ⟨rfl, c_35_0, c_35_1⟩ | ⟨rfl, c_36_0⟩
              exact False.elim (by omega)
              · skip
                refine sy_if_eq (tgt := 80) hx hb dX12_numeral_73 (by decide) (by decide) (fun c9 => absurd c9 (by decide)) (fun c_37 => ?_)
                refine lv_iload_n hx hb dX12_numeral_76 rfl (lv_at hl 0 rfl) ?_
                refine lv_goto (tgt := 81) hx hb dX12_numeral_77 (by decide) ?_
                exact r_i hx hb hr hlocks dX12_numeral_81 hS ⟨x_faultKind, x_faultPlace, y_29, y_30, y_31, y_32, j_33, by omega, by omega, by omega, by omega, by omega, by omega, by omega, by omega, by omega, by omega, by omega, kr_28_E, hP⟩
          · skip
            refine lv_aload_n hx hb dX12_numeral_44 rfl (lv_at hl 0 rfl) ?_
            refine lv_iconst (v := mI 4) hx hb dX12_numeral_45 rfl ?_
            refine lv_aload_n hx hb dX12_numeral_46 rfl (lv_at hl 0 rfl) ?_
            refine rg_o_at hx hb hts hown hK hP uw_7_29 dX12_numeral_47 ?_
            refine g_v (rDt hD) hS hA (g_V (own := "HideReaderModel") (As := [.int (mI 4), .int (mI x_at)]) (rest := []) hx hb hml hown hts hK hP (rDt hD) (kr_X12_fails (l := l) (D := D) (k := k) (by decide) (by omega) h_x_faultKind h_x_faultPlace) ck_X12_fails iv_X12_fails uw_8_38 (rv_o hK hP) rfl hl.1 rfl (Nat.le_of_ble_eq_true rfl) dX12_numeral_50 ⟨Nat.le_of_ble_eq_true rfl, Nat.le_of_ble_eq_true rfl⟩ ⟨Nat.le_of_ble_eq_true rfl, Nat.le_of_ble_eq_true rfl⟩) (fun H locs hQ hS => ?_)
            obtain ⟨y_39, y_40, hr_38_0, hr_38_1, hr_38_2, hP⟩ := hQ
            refine lv_aload_n hx hb dX12_numeral_53 rfl (lv_at hl 0 rfl) ?_
            refine rg_o_number hx hb hts hown hK hP uw_7_32 dX12_numeral_54 ?_
            refine lv_istore_n (lv' := [(3, .int (mI x_number)), (0, .ref (a 0)), (1, .int (mI 1)), (2, .int (mI 4))]) hx hb dX12_numeral_57 rfl hl (by decide) rfl (fun ls hl => ?_)
            refine lv_aload_n hx hb dX12_numeral_58 rfl (lv_at hl 1 rfl) ?_
            refine g_i (rDt hD) hS hA (g_V (own := "HideReaderModel") (As := []) (rest := []) hx hb hml hown hts hK hP (rDt hD) (kr_X12_isGood (l := l) (D := D) (k := k) (by omega)) ck_X12_isGood iv_X12_isGood uw_8_18 (rv_o hK hP) rfl hl.1 rfl (Nat.le_of_ble_eq_true rfl) dX12_numeral_59 ⟨Nat.le_of_ble_eq_true rfl, Nat.le_of_ble_eq_true rfl⟩ ⟨Nat.le_of_ble_eq_true rfl, Nat.le_of_ble_eq_true rfl⟩) (fun r_41 H locs hQ hS => ?_)
            obtain ⟨hq_r_41, hP⟩ := hQ
            rcases hq_r_41 with ⟨rfl, c_42_0, c_42_1⟩ | ⟨rfl, c_43_0⟩
            · skip
              refine sy_if_eq (tgt := 69) hx hb dX12_numeral_62 (by decide) (by decide) (fun c_44 => ?_) (fun c9 => absurd c9 (by decide))
              refine lv_aload_n hx hb dX12_numeral_69 rfl (lv_at hl 1 rfl) ?_
              refine g_i (rDt hD) hS hA (g_V (own := "HideReaderModel") (As := []) (rest := []) hx hb hml hown hts hK hP (rDt hD) (kr_X12_isGood (l := l) (D := D) (k := k) (by omega)) ck_X12_isGood iv_X12_isGood uw_8_18 (rv_o hK hP) rfl hl.1 rfl (Nat.le_of_ble_eq_true rfl) dX12_numeral_70 ⟨Nat.le_of_ble_eq_true rfl, Nat.le_of_ble_eq_true rfl⟩ ⟨Nat.le_of_ble_eq_true rfl, Nat.le_of_ble_eq_true rfl⟩) (fun r_45 H locs hQ hS => ?_)
              obtain ⟨hq_r_45, hP⟩ := hQ
              rcases hq_r_45 with ⟨rfl, c_46_0, c_46_1⟩ | ⟨rfl, c_47_0⟩
              · skip
                refine sy_if_eq (tgt := 80) hx hb dX12_numeral_73 (by decide) (by decide) (fun c_48 => ?_) (fun c9 => absurd c9 (by decide))
                refine lv_iload_n hx hb dX12_numeral_80 rfl (lv_at hl 2 rfl) ?_
                exact r_i hx hb hr hlocks dX12_numeral_81 hS ⟨y_39, y_40, x_at, x_end, x_token, x_number, n_name, by omega, by omega, by omega, by omega, by omega, by omega, by omega, by omega, by omega, by omega, by omega, g_E, hP⟩
              exact False.elim (by omega)
            exact False.elim (by omega)
    · skip
      refine lv_aload_n hx hb dX12_numeral_17 rfl (lv_at hl 0 rfl) ?_
      refine g_v (rDt hD) hS hA (g_V (own := "HideReaderModel") (As := []) (rest := []) hx hb hml hown hts hK hP (rDt hD) (kr_X12_misplaced (l := l) (D := D) (k := k) h_x_faultKind h_x_faultPlace h_x_at h_x_token) ck_X12_misplaced iv_X12_misplaced uw_8_34 (rv_o hK hP) rfl hl.1 rfl (Nat.le_of_ble_eq_true rfl) dX12_numeral_18 ⟨Nat.le_of_ble_eq_true rfl, Nat.le_of_ble_eq_true rfl⟩ ⟨Nat.le_of_ble_eq_true rfl, Nat.le_of_ble_eq_true rfl⟩) (fun H locs hQ hS => ?_)
      obtain ⟨y_50, y_51, hr_49_0, hr_49_1, hr_49_2, hP⟩ := hQ
      refine lv_aload_n hx hb dX12_numeral_21 rfl (lv_at hl 0 rfl) ?_
      refine g_i (rDt hD) hS hA (g_V (own := "HideReaderModel") (As := []) (rest := []) hx hb hml hown hts hK hP (rDt hD) (kr_X12_isGood (l := l) (D := D) (k := k) (by omega)) ck_X12_isGood iv_X12_isGood uw_8_18 (rv_o hK hP) rfl hl.1 rfl (Nat.le_of_ble_eq_true rfl) dX12_numeral_22 ⟨Nat.le_of_ble_eq_true rfl, Nat.le_of_ble_eq_true rfl⟩ ⟨Nat.le_of_ble_eq_true rfl, Nat.le_of_ble_eq_true rfl⟩) (fun r_52 H locs hQ hS => ?_)
      obtain ⟨hq_r_52, hP⟩ := hQ
      rcases hq_r_52 with ⟨rfl, c_53_0, c_53_1⟩ | ⟨rfl, c_54_0⟩
      · skip
        refine sy_if_eq (tgt := 53) hx hb dX12_numeral_25 (by decide) (by decide) (fun c_55 => ?_) (fun c9 => absurd c9 (by decide))
        refine lv_aload_n hx hb dX12_numeral_53 rfl (lv_at hl 0 rfl) ?_
        refine rg_o_number hx hb hts hown hK hP uw_7_32 dX12_numeral_54 ?_
        refine lv_istore_n (lv' := [(3, .int (mI x_number)), (0, .ref (a 0)), (1, .int (mI 1)), (2, .int (mI 4))]) hx hb dX12_numeral_57 rfl hl (by decide) rfl (fun ls hl => ?_)
        refine lv_aload_n hx hb dX12_numeral_58 rfl (lv_at hl 1 rfl) ?_
        refine g_i (rDt hD) hS hA (g_V (own := "HideReaderModel") (As := []) (rest := []) hx hb hml hown hts hK hP (rDt hD) (kr_X12_isGood (l := l) (D := D) (k := k) (by omega)) ck_X12_isGood iv_X12_isGood uw_8_18 (rv_o hK hP) rfl hl.1 rfl (Nat.le_of_ble_eq_true rfl) dX12_numeral_59 ⟨Nat.le_of_ble_eq_true rfl, Nat.le_of_ble_eq_true rfl⟩ ⟨Nat.le_of_ble_eq_true rfl, Nat.le_of_ble_eq_true rfl⟩) (fun r_56 H locs hQ hS => ?_)
        obtain ⟨hq_r_56, hP⟩ := hQ
        rcases hq_r_56 with ⟨rfl, c_57_0, c_57_1⟩ | ⟨rfl, c_58_0⟩
        · skip
          refine sy_if_eq (tgt := 69) hx hb dX12_numeral_62 (by decide) (by decide) (fun c_59 => ?_) (fun c9 => absurd c9 (by decide))
          refine lv_aload_n hx hb dX12_numeral_69 rfl (lv_at hl 1 rfl) ?_
          refine g_i (rDt hD) hS hA (g_V (own := "HideReaderModel") (As := []) (rest := []) hx hb hml hown hts hK hP (rDt hD) (kr_X12_isGood (l := l) (D := D) (k := k) (by omega)) ck_X12_isGood iv_X12_isGood uw_8_18 (rv_o hK hP) rfl hl.1 rfl (Nat.le_of_ble_eq_true rfl) dX12_numeral_70 ⟨Nat.le_of_ble_eq_true rfl, Nat.le_of_ble_eq_true rfl⟩ ⟨Nat.le_of_ble_eq_true rfl, Nat.le_of_ble_eq_true rfl⟩) (fun r_60 H locs hQ hS => ?_)
          obtain ⟨hq_r_60, hP⟩ := hQ
          rcases hq_r_60 with ⟨rfl, c_61_0, c_61_1⟩ | ⟨rfl, c_62_0⟩
          · skip
            refine sy_if_eq (tgt := 80) hx hb dX12_numeral_73 (by decide) (by decide) (fun c_63 => ?_) (fun c9 => absurd c9 (by decide))
            refine lv_iload_n hx hb dX12_numeral_80 rfl (lv_at hl 2 rfl) ?_
            exact r_i hx hb hr hlocks dX12_numeral_81 hS ⟨y_50, y_51, x_at, x_end, x_token, x_number, n_name, by omega, by omega, by omega, by omega, by omega, by omega, by omega, by omega, by omega, by omega, by omega, g_E, hP⟩
          exact False.elim (by omega)
        exact False.elim (by omega)
      exact False.elim (by omega)
set_option maxHeartbeats 4000000 in
set_option maxRecDepth 100000 in
theorem kr_X12_readTurns (h_x_size : 0 ≤ x_size ∧ x_size ≤ 1600) (h_x_faultKind : 0 ≤ x_faultKind ∧ x_faultKind ≤ 5) (h_x_faultPlace : -1 ≤ x_faultPlace ∧ x_faultPlace ≤ 1600) (h_x_at : 0 ≤ x_at ∧ x_at ≤ 1600) (h_x_end : 0 ≤ x_end ∧ x_end ≤ 1600) (h_x_token : 0 ≤ x_token ∧ x_token ≤ 5) (h_x_number : -2147483648 ≤ x_number ∧ x_number ≤ 2147483647) (h_x_rb : 0 ≤ x_rb ∧ x_rb ≤ 1) (b_B_text : bd (-128) 127 B_text) (b_B_turns : bd (1) 4 B_turns) (b_B_told : bd (0) 31 B_told) (g_E : x_end ≤ x_size) : MetG l D k yX12_readTurns cX12_readTurns 2 none 3 [.ref (a 0)] (rW k a x_taped x_size x_faultKind x_faultPlace x_at x_end x_token x_number x_bank x_rb x_codes x_within x_piled x_unitsInRule x_askBeast x_askStroke x_askAge x_askSeason x_acts x_undone x_laid x_seens x_time x_fitting n_name B_tape B_text B_turns B_herds B_irons B_beasts B_units B_night B_draw B_told B_brands B_ironMarks B_herdTold B_born B_ruleFrom B_ruleTo B_code B_codeNumber B_eWhat B_eSign B_pile B_all B_burned B_was B_need B_laidRow B_long8 B_brings B_sBurning B_sStroke B_sIs B_sTold B_sUntold B_parts B_boxAll B_isBoxed G_hName G_iName G_bName ex) (qGv (fun H => ∃ (y_faultKind : Int) (y_faultPlace : Int) (y_at : Int) (y_end : Int) (y_token : Int) (y_number : Int) (j_name : Int64) (F_turns : Nat → Int) (F_told : Nat → Int), (0 ≤ y_faultKind ∧ y_faultKind ≤ 5) ∧ (-1 ≤ y_faultPlace ∧ y_faultPlace ≤ 1600) ∧ (0 ≤ y_at ∧ y_at ≤ 1600) ∧ (0 ≤ y_end ∧ y_end ≤ 1600) ∧ (0 ≤ y_token ∧ y_token ≤ 5) ∧ (-2147483648 ≤ y_number ∧ y_number ≤ 2147483647) ∧ (bd (1) 4 F_turns) ∧ (bd (0) 31 F_told) ∧ (0 ≤ y_faultKind - x_faultKind) ∧ (0 ≤ y_end - x_end) ∧ (1 ≤ y_faultKind ∨ y_token ≤ 0 ∨ x_end + 1 ≤ y_end) ∧ (x_token = 4 ∨ 1 ≤ y_faultKind) ∧ (y_end ≤ x_size) ∧ va_P D vwCl (rW k a x_taped x_size y_faultKind y_faultPlace y_at y_end y_token y_number x_bank x_rb x_codes x_within x_piled x_unitsInRule x_askBeast x_askStroke x_askAge x_askSeason x_acts x_undone x_laid x_seens x_time x_fitting j_name B_tape B_text F_turns B_herds B_irons B_beasts B_units B_night B_draw F_told B_brands B_ironMarks B_herdTold B_born B_ruleFrom B_ruleTo B_code B_codeNumber B_eWhat B_eSign B_pile B_all B_burned B_was B_need B_laidRow B_long8 B_brings B_sBurning B_sStroke B_sIs B_sTold B_sUntold B_parts B_boxAll B_isBoxed G_hName G_iName G_bName ex) H)) := by
  refine metG_of 0 ck_X12_readTurns (Nat.le_of_ble_eq_true rfl) rMap (fun p e s m args below meth c A hx hb hml hr hlocks hown hts hK hD hA hP hS ls hl => ?_)
  have hown : s.vm.findClass "HideReaderModel" = some m.cls := hown
  have hl : lv_has ls 2 [(0, .ref (a 0))] := hl
  refine lv_aload_n hx hb dX12_readTurns_0 rfl (lv_at hl 0 rfl) ?_
  refine rg_o_told hx hb hts hown hK hP uw_7_41 dX12_readTurns_1 ?_
  refine lv_aload_n hx hb dX12_readTurns_4 rfl (lv_at hl 0 rfl) ?_
  refine rg_o_rb hx hb hts hown hK hP uw_7_57 dX12_readTurns_5 ?_
  refine lv_dup2_11 hx hb dX12_readTurns_8 rfl rfl ?_
  refine rl_told hx hb hK hP dX12_readTurns_9 (by omega) b_B_told (fun z_1 _ hz_1 => ?_)
  refine lv_iconst (v := mI 2) hx hb dX12_readTurns_10 rfl ?_
  refine sy_ior hx hb dX12_readTurns_11 5 (by decide) 32 (by decide) (by omega) (by omega) (fun z_2 hz_2 => ?_)
  refine rs_told hx hb hK hP hD hS dX12_readTurns_12 (by omega) b_B_told (by omega) (fun F_3 H locs _ bF_3 hP hS => ?_)
  refine lv_aload_n hx hb dX12_readTurns_13 rfl (lv_at hl 0 rfl) ?_
  refine rg_o_at hx hb hts hown hK hP uw_7_29 dX12_readTurns_14 ?_
  refine lv_istore_n (lv' := [(1, .int (mI x_at)), (0, .ref (a 0))]) hx hb dX12_readTurns_17 rfl hl (by decide) rfl (fun ls hl => ?_)
  refine lv_aload_n hx hb dX12_readTurns_18 rfl (lv_at hl 1 rfl) ?_
  refine rg_o_turns hx hb hts hown hK hP uw_7_34 dX12_readTurns_19 ?_
  refine lv_aload_n hx hb dX12_readTurns_22 rfl (lv_at hl 1 rfl) ?_
  refine rg_o_rb hx hb hts hown hK hP uw_7_57 dX12_readTurns_23 ?_
  refine lv_aload_n hx hb dX12_readTurns_26 rfl (lv_at hl 1 rfl) ?_
  refine lv_iconst (v := mI 1) hx hb dX12_readTurns_27 rfl ?_
  refine lv_iconst (v := mI 4) hx hb dX12_readTurns_28 rfl ?_
  refine g_i (rDt hD) hS hA (g_V (own := "HideReaderModel") (As := [.int (mI 1), .int (mI 4)]) (rest := [.int (mI x_rb), .ref (a 3)]) hx hb hml hown hts hK hP (rDt hD) (kr_X12_numeral_v1_4 (l := l) (D := D) (k := k) (by decide) (by decide) h_x_size h_x_faultKind h_x_faultPlace h_x_at h_x_end h_x_token h_x_number b_B_text g_E) ck_X12_numeral iv_X12_numeral uw_8_46 (rv_o hK hP) rfl hl.1 rfl (Nat.le_of_ble_eq_true rfl) dX12_readTurns_29 ⟨Nat.le_of_ble_eq_true rfl, Nat.le_of_ble_eq_true rfl⟩ ⟨Nat.le_of_ble_eq_true rfl, Nat.le_of_ble_eq_true rfl⟩) (fun r_4 H locs hQ hS => ?_)
  obtain ⟨y_5, y_6, y_7, y_8, y_9, y_10, j_11, hr_4_0, hr_4_1, hr_4_2, hr_4_3, hr_4_4, hr_4_5, hr_4_6, hr_4_7, hr_4_8, hr_4_9, hr_4_10, kr_4_E, hP⟩ := hQ
  refine rs_turns hx hb hK hP hD hS dX12_readTurns_32 (by omega) b_B_turns (by omega) (fun F_12 H locs _ bF_12 hP hS => ?_)
  refine lv_aload_n hx hb dX12_readTurns_33 rfl (lv_at hl 1 rfl) ?_
  refine rg_o_turns hx hb hts hown hK hP uw_7_34 dX12_readTurns_34 ?_
  refine lv_aload_n hx hb dX12_readTurns_37 rfl (lv_at hl 1 rfl) ?_
  refine rg_o_rb hx hb hts hown hK hP uw_7_57 dX12_readTurns_38 ?_
  refine rl_turns hx hb hK hP dX12_readTurns_41 (by omega) bF_12 (fun z_13 _ hz_13 => ?_)
  refine lv_iconst (v := mI 3) hx hb dX12_readTurns_42 rfl ?_
  refine sy_icmp_ne (tgt := 52) hx hb dX12_readTurns_43 (by decide) (by omega) (by decide) (fun c_14 => ?_) (fun c_14 => ?_)
  · skip
    exact r_v hx hb hr hlocks dX12_readTurns_52 hS ⟨y_5, y_6, y_7, y_8, y_9, y_10, j_11, F_12, F_3, by omega, by omega, by omega, by omega, by omega, by omega, bF_12, bF_3, by omega, by omega, by omega, by omega, kr_4_E, hP⟩
  · skip
    refine lv_aload_n hx hb dX12_readTurns_46 rfl (lv_at hl 1 rfl) ?_
    refine lv_iconst (v := mI 4) hx hb dX12_readTurns_47 rfl ?_
    refine lv_iload_n hx hb dX12_readTurns_48 rfl (lv_at hl 0 rfl) ?_
    refine g_v (rDt hD) hS hA (g_V (own := "HideReaderModel") (As := [.int (mI 4), .int (mI x_at)]) (rest := []) hx hb hml hown hts hK hP (rDt hD) (kr_X12_fails (l := l) (D := D) (k := k) (by decide) (by omega) (by omega) (by omega)) ck_X12_fails iv_X12_fails uw_8_38 (rv_o hK hP) rfl hl.1 rfl (Nat.le_of_ble_eq_true rfl) dX12_readTurns_49 ⟨Nat.le_of_ble_eq_true rfl, Nat.le_of_ble_eq_true rfl⟩ ⟨Nat.le_of_ble_eq_true rfl, Nat.le_of_ble_eq_true rfl⟩) (fun H locs hQ hS => ?_)
    obtain ⟨y_16, y_17, hr_15_0, hr_15_1, hr_15_2, hP⟩ := hQ
    exact r_v hx hb hr hlocks dX12_readTurns_52 hS ⟨y_16, y_17, y_7, y_8, y_9, y_10, j_11, F_12, F_3, by omega, by omega, by omega, by omega, by omega, by omega, bF_12, bF_3, by omega, by omega, by omega, by omega, kr_4_E, hP⟩
set_option maxHeartbeats 4000000 in
set_option maxRecDepth 100000 in
theorem kr_X12_here_o_hName {p1 p2 : Int} (hp1 : 0 ≤ p1 ∧ p1 ≤ 8) (hp2 : 0 ≤ p2 ∧ p2 ≤ 8) (h_x_token : 0 ≤ x_token ∧ x_token ≤ 5) : MetG l D k yX12_here cX12_here 5 (some .int) 0 [.ref (a 0), .ref (a 17), .int (mI p1), .int (mI p2)] (rW k a x_taped x_size x_faultKind x_faultPlace x_at x_end x_token x_number x_bank x_rb x_codes x_within x_piled x_unitsInRule x_askBeast x_askStroke x_askAge x_askSeason x_acts x_undone x_laid x_seens x_time x_fitting n_name B_tape B_text B_turns B_herds B_irons B_beasts B_units B_night B_draw B_told B_brands B_ironMarks B_herdTold B_born B_ruleFrom B_ruleTo B_code B_codeNumber B_eWhat B_eSign B_pile B_all B_burned B_was B_need B_laidRow B_long8 B_brings B_sBurning B_sStroke B_sIs B_sTold B_sUntold B_parts B_boxAll B_isBoxed G_hName G_iName G_bName ex) (qGi (fun r0 H => (-1 ≤ r0 ∧ r0 ≤ 7) ∧ va_P D vwCl (rW k a x_taped x_size x_faultKind x_faultPlace x_at x_end x_token x_number x_bank x_rb x_codes x_within x_piled x_unitsInRule x_askBeast x_askStroke x_askAge x_askSeason x_acts x_undone x_laid x_seens x_time x_fitting n_name B_tape B_text B_turns B_herds B_irons B_beasts B_units B_night B_draw B_told B_brands B_ironMarks B_herdTold B_born B_ruleFrom B_ruleTo B_code B_codeNumber B_eWhat B_eSign B_pile B_all B_burned B_was B_need B_laidRow B_long8 B_brings B_sBurning B_sStroke B_sIs B_sTold B_sUntold B_parts B_boxAll B_isBoxed G_hName G_iName G_bName ex) H)) := by
  refine metG_of 3 ck_X12_here (Nat.le_of_ble_eq_true rfl) rMap (fun p e s m args below meth c A hx hb hml hr hlocks hown hts hK hD hA hP hS ls hl => ?_)
  have hown : s.vm.findClass "HideReaderModel" = some m.cls := hown
  have hl : lv_has ls 5 [(0, .ref (a 0)), (1, .ref (a 17)), (2, .int (mI p1)), (3, .int (mI p2))] := hl
  refine lv_iconst (v := mI 0) hx hb dX12_here_0 rfl ?_
  refine lv_istore (lv' := [(4, .int (mI 0)), (0, .ref (a 0)), (1, .ref (a 17)), (2, .int (mI p1)), (3, .int (mI p2))]) hx hb dX12_here_1 hl (by decide) rfl (fun ls hl => ?_)
  refine sy_loop (I := fun n H locs g => ∃ (z_42 : Int) (ls : Array Slot), (0 ≤ z_42 ∧ z_42 ≤ 8) ∧ (8 - z_42).toNat = n ∧ va_P D vwCl (rW k a x_taped x_size x_faultKind x_faultPlace x_at x_end x_token x_number x_bank x_rb x_codes x_within x_piled x_unitsInRule x_askBeast x_askStroke x_askAge x_askSeason x_acts x_undone x_laid x_seens x_time x_fitting n_name B_tape B_text B_turns B_herds B_irons B_beasts B_units B_night B_draw B_told B_brands B_ironMarks B_herdTold B_born B_ruleFrom B_ruleTo B_code B_codeNumber B_eWhat B_eSign B_pile B_all B_burned B_was B_need B_laidRow B_long8 B_brings B_sBurning B_sStroke B_sIs B_sTold B_sUntold B_parts B_boxAll B_isBoxed G_hName G_iName G_bName ex) H ∧ va_S A s.heap H locs ∧ lv_has ls 5 [(4, .int (mI z_42)), (0, .ref (a 0)), (1, .ref (a 17)), (2, .int (mI p1)), (3, .int (mI p2))] ∧ g = F0 m 3 ls []) ?_ _ ⟨0, _, by omega, rfl, hP, hS, lv_sub hl [0, 1, 2, 3, 4] rfl, rfl⟩
  intro n_48 H locs g hI ih_49
  obtain ⟨z_42, ls, h3_0, mn_48, hP, hS, hl, rfl⟩ := hI
  refine lv_iload hx hb dX12_here_3 (lv_at hl 0 rfl) ?_
  refine lv_iload_n hx hb dX12_here_5 rfl (lv_at hl 4 rfl) ?_
  refine sy_icmp_ge (tgt := 40) hx hb dX12_here_6 (by decide) (by omega) (by omega) (fun c_50 => ?_) (fun c_50 => ?_)
  · skip
    refine lv_iconst (v := mI (-1)) hx hb dX12_here_40 rfl ?_
    exact r_i hx hb hr hlocks dX12_here_41 hS ⟨by omega, hP⟩
  · skip
    refine lv_aload_n hx hb dX12_here_9 rfl (lv_at hl 1 rfl) ?_
    refine rg_o_token hx hb hts hown hK hP uw_7_31 dX12_here_10 ?_
    refine lv_iconst (v := mI 2) hx hb dX12_here_13 rfl ?_
    refine sy_icmp_ne (tgt := 34) hx hb dX12_here_14 (by decide) (by omega) (by decide) (fun c_51 => ?_) (fun c_51 => ?_)
    · skip
      refine lv_iinc (v := mI (z_42 + 1)) (lv' := [(4, .int (mI (z_42 + 1))), (0, .ref (a 0)), (1, .ref (a 17)), (2, .int (mI p1)), (3, .int (mI p2))]) hx hb dX12_here_34 hl (k := 0) rfl (mI_ad rfl) (by decide) rfl (fun ls hl => ?_)
      refine lv_goto (tgt := 3) hx hb dX12_here_37 (by decide) ?_
      exact ih_49 _ _ _ _ (by omega) ⟨(z_42 + 1), _, by omega, rfl, hP, hS, lv_sub hl [0, 1, 2, 3, 4] rfl, rfl⟩
    · skip
      refine lv_aload_n hx hb dX12_here_17 rfl (lv_at hl 2 rfl) ?_
      refine lv_iload_n hx hb dX12_here_18 rfl (lv_at hl 3 rfl) ?_
      refine lv_iload hx hb dX12_here_19 (lv_at hl 0 rfl) ?_
      refine sy_iadd hx hb dX12_here_21 (p1 + z_42) rfl ?_
      refine rl_hName hx hb hK hP dX12_here_22 (by omega) (fun j_52 => ?_)
      refine lv_aload_n hx hb dX12_here_23 rfl (lv_at hl 1 rfl) ?_
      refine rg_o_name hx hb hts hown hK hP uw_7_33 dX12_here_24 ?_
      refine sy_lcmp hx hb dX12_here_27 (fun z_53 hz_53 => ?_)
      refine sy_if_ne (tgt := 34) hx hb dX12_here_28 (by decide) (by omega) (fun c_54 => ?_) (fun c_54 => ?_)
      · skip
        refine lv_iinc (v := mI (z_42 + 1)) (lv' := [(4, .int (mI (z_42 + 1))), (0, .ref (a 0)), (1, .ref (a 17)), (2, .int (mI p1)), (3, .int (mI p2))]) hx hb dX12_here_34 hl (k := 0) rfl (mI_ad rfl) (by decide) rfl (fun ls hl => ?_)
        refine lv_goto (tgt := 3) hx hb dX12_here_37 (by decide) ?_
        exact ih_49 _ _ _ _ (by omega) ⟨(z_42 + 1), _, by omega, rfl, hP, hS, lv_sub hl [0, 1, 2, 3, 4] rfl, rfl⟩
      · skip
        refine lv_iload hx hb dX12_here_31 (lv_at hl 0 rfl) ?_
        exact r_i hx hb hr hlocks dX12_here_33 hS ⟨by omega, hP⟩
set_option maxHeartbeats 4000000 in
set_option maxRecDepth 100000 in
theorem kr_X12_numeral_v0_11 (h_c0 : 0 ≤ 0 ∧ 0 ≤ 0) (h_c1 : 11 ≤ 11 ∧ 11 ≤ 11) (h_x_size : 0 ≤ x_size ∧ x_size ≤ 1600) (h_x_faultKind : 0 ≤ x_faultKind ∧ x_faultKind ≤ 5) (h_x_faultPlace : -1 ≤ x_faultPlace ∧ x_faultPlace ≤ 1600) (h_x_at : 0 ≤ x_at ∧ x_at ≤ 1600) (h_x_end : 0 ≤ x_end ∧ x_end ≤ 1600) (h_x_token : 0 ≤ x_token ∧ x_token ≤ 5) (h_x_number : -2147483648 ≤ x_number ∧ x_number ≤ 2147483647) (b_B_text : bd (-128) 127 B_text) (g_E : x_end ≤ x_size) : MetG l D k yX12_numeral cX12_numeral 4 (some .int) 2 [.ref (a 0), .int (mI 0), .int (mI 11)] (rW k a x_taped x_size x_faultKind x_faultPlace x_at x_end x_token x_number x_bank x_rb x_codes x_within x_piled x_unitsInRule x_askBeast x_askStroke x_askAge x_askSeason x_acts x_undone x_laid x_seens x_time x_fitting n_name B_tape B_text B_turns B_herds B_irons B_beasts B_units B_night B_draw B_told B_brands B_ironMarks B_herdTold B_born B_ruleFrom B_ruleTo B_code B_codeNumber B_eWhat B_eSign B_pile B_all B_burned B_was B_need B_laidRow B_long8 B_brings B_sBurning B_sStroke B_sIs B_sTold B_sUntold B_parts B_boxAll B_isBoxed G_hName G_iName G_bName ex) (qGi (fun r0 H => ∃ (y_faultKind : Int) (y_faultPlace : Int) (y_at : Int) (y_end : Int) (y_token : Int) (y_number : Int) (j_name : Int64), (0 ≤ r0 ∧ r0 ≤ 11) ∧ (0 ≤ y_faultKind ∧ y_faultKind ≤ 5) ∧ (-1 ≤ y_faultPlace ∧ y_faultPlace ≤ 1600) ∧ (0 ≤ y_at ∧ y_at ≤ 1600) ∧ (0 ≤ y_end ∧ y_end ≤ 1600) ∧ (0 ≤ y_token ∧ y_token ≤ 5) ∧ (-2147483648 ≤ y_number ∧ y_number ≤ 2147483647) ∧ (0 ≤ y_faultKind - x_faultKind) ∧ (0 ≤ y_end - x_end) ∧ (1 ≤ y_faultKind ∨ y_token ≤ 0 ∨ x_end + 1 ≤ y_end) ∧ (x_token = 4 ∨ 1 ≤ y_faultKind) ∧ (y_end ≤ x_size) ∧ va_P D vwCl (rW k a x_taped x_size y_faultKind y_faultPlace y_at y_end y_token y_number x_bank x_rb x_codes x_within x_piled x_unitsInRule x_askBeast x_askStroke x_askAge x_askSeason x_acts x_undone x_laid x_seens x_time x_fitting j_name B_tape B_text B_turns B_herds B_irons B_beasts B_units B_night B_draw B_told B_brands B_ironMarks B_herdTold B_born B_ruleFrom B_ruleTo B_code B_codeNumber B_eWhat B_eSign B_pile B_all B_burned B_was B_need B_laidRow B_long8 B_brings B_sBurning B_sStroke B_sIs B_sTold B_sUntold B_parts B_boxAll B_isBoxed G_hName G_iName G_bName ex) H)) := by
  refine metG_of 2 ck_X12_numeral (Nat.le_of_ble_eq_true rfl) rMap (fun p e s m args below meth c A hx hb hml hr hlocks hown hts hK hD hA hP hS ls hl => ?_)
  have hown : s.vm.findClass "HideReaderModel" = some m.cls := hown
  have hl : lv_has ls 4 [(0, .ref (a 0)), (1, .int (mI 0)), (2, .int (mI 11))] := hl
  refine lv_aload_n hx hb dX12_numeral_0 rfl (lv_at hl 0 rfl) ?_
  refine g_i (rDt hD) hS hA (g_V (own := "HideReaderModel") (As := []) (rest := []) hx hb hml hown hts hK hP (rDt hD) (kr_X12_isGood (l := l) (D := D) (k := k) h_x_faultKind) ck_X12_isGood iv_X12_isGood uw_8_18 (rv_o hK hP) rfl hl.1 rfl (Nat.le_of_ble_eq_true rfl) dX12_numeral_1 ⟨Nat.le_of_ble_eq_true rfl, Nat.le_of_ble_eq_true rfl⟩ ⟨Nat.le_of_ble_eq_true rfl, Nat.le_of_ble_eq_true rfl⟩) (fun r_1 H locs hQ hS => ?_)
  obtain ⟨hq_r_1, hP⟩ := hQ
  rcases hq_r_1 with ⟨rfl, c_2_0, c_2_1⟩ | ⟨rfl, c_3_0⟩
  · skip
    refine sy_if_ne (tgt := 9) hx hb dX12_numeral_4 (by decide) (by decide) (fun c9 => absurd c9 (by decide)) (fun c_4 => ?_)
    refine lv_iload_n hx hb dX12_numeral_7 rfl (lv_at hl 1 rfl) ?_
    exact r_i hx hb hr hlocks dX12_numeral_8 hS ⟨x_faultKind, x_faultPlace, x_at, x_end, x_token, x_number, n_name, by omega, by omega, by omega, by omega, by omega, by omega, by omega, by omega, by omega, by omega, by omega, g_E, hP⟩
  · skip
    refine sy_if_ne (tgt := 9) hx hb dX12_numeral_4 (by decide) (by decide) (fun c_5 => ?_) (fun c9 => absurd c9 (by decide))
    refine lv_aload_n hx hb dX12_numeral_9 rfl (lv_at hl 0 rfl) ?_
    refine rg_o_token hx hb hts hown hK hP uw_7_31 dX12_numeral_10 ?_
    refine lv_iconst (v := mI 4) hx hb dX12_numeral_13 rfl ?_
    refine sy_icmp_eq (tgt := 21) hx hb dX12_numeral_14 (by decide) (by omega) (by decide) (fun c_6 => ?_) (fun c_6 => ?_)
    · skip
      refine lv_aload_n hx hb dX12_numeral_21 rfl (lv_at hl 0 rfl) ?_
      refine g_i (rDt hD) hS hA (g_V (own := "HideReaderModel") (As := []) (rest := []) hx hb hml hown hts hK hP (rDt hD) (kr_X12_isGood (l := l) (D := D) (k := k) h_x_faultKind) ck_X12_isGood iv_X12_isGood uw_8_18 (rv_o hK hP) rfl hl.1 rfl (Nat.le_of_ble_eq_true rfl) dX12_numeral_22 ⟨Nat.le_of_ble_eq_true rfl, Nat.le_of_ble_eq_true rfl⟩ ⟨Nat.le_of_ble_eq_true rfl, Nat.le_of_ble_eq_true rfl⟩) (fun r_7 H locs hQ hS => ?_)
      obtain ⟨hq_r_7, hP⟩ := hQ
      rcases hq_r_7 with ⟨rfl, c_8_0, c_8_1⟩ | ⟨rfl, c_9_0⟩
      exact False.elim (by omega)
      · skip
        refine sy_if_eq (tgt := 53) hx hb dX12_numeral_25 (by decide) (by decide) (fun c9 => absurd c9 (by decide)) (fun c_10 => ?_)
        refine lv_aload_n hx hb dX12_numeral_28 rfl (lv_at hl 0 rfl) ?_
        refine rg_o_number hx hb hts hown hK hP uw_7_32 dX12_numeral_29 ?_
        refine lv_iload_n hx hb dX12_numeral_32 rfl (lv_at hl 1 rfl) ?_
        refine sy_icmp_lt (tgt := 44) hx hb dX12_numeral_33 (by decide) (by omega) (by decide) (fun c_11 => ?_) (fun c_11 => ?_)
        · skip
          refine lv_aload_n hx hb dX12_numeral_44 rfl (lv_at hl 0 rfl) ?_
          refine lv_iconst (v := mI 4) hx hb dX12_numeral_45 rfl ?_
          refine lv_aload_n hx hb dX12_numeral_46 rfl (lv_at hl 0 rfl) ?_
          refine rg_o_at hx hb hts hown hK hP uw_7_29 dX12_numeral_47 ?_
          refine g_v (rDt hD) hS hA (g_V (own := "HideReaderModel") (As := [.int (mI 4), .int (mI x_at)]) (rest := []) hx hb hml hown hts hK hP (rDt hD) (kr_X12_fails (l := l) (D := D) (k := k) (by decide) (by omega) h_x_faultKind h_x_faultPlace) ck_X12_fails iv_X12_fails uw_8_38 (rv_o hK hP) rfl hl.1 rfl (Nat.le_of_ble_eq_true rfl) dX12_numeral_50 ⟨Nat.le_of_ble_eq_true rfl, Nat.le_of_ble_eq_true rfl⟩ ⟨Nat.le_of_ble_eq_true rfl, Nat.le_of_ble_eq_true rfl⟩) (fun H locs hQ hS => ?_)
          obtain ⟨y_13, y_14, hr_12_0, hr_12_1, hr_12_2, hP⟩ := hQ
          refine lv_aload_n hx hb dX12_numeral_53 rfl (lv_at hl 0 rfl) ?_
          refine rg_o_number hx hb hts hown hK hP uw_7_32 dX12_numeral_54 ?_
          refine lv_istore_n (lv' := [(3, .int (mI x_number)), (0, .ref (a 0)), (1, .int (mI 0)), (2, .int (mI 11))]) hx hb dX12_numeral_57 rfl hl (by decide) rfl (fun ls hl => ?_)
          refine lv_aload_n hx hb dX12_numeral_58 rfl (lv_at hl 1 rfl) ?_
          refine g_i (rDt hD) hS hA (g_V (own := "HideReaderModel") (As := []) (rest := []) hx hb hml hown hts hK hP (rDt hD) (kr_X12_isGood (l := l) (D := D) (k := k) (by omega)) ck_X12_isGood iv_X12_isGood uw_8_18 (rv_o hK hP) rfl hl.1 rfl (Nat.le_of_ble_eq_true rfl) dX12_numeral_59 ⟨Nat.le_of_ble_eq_true rfl, Nat.le_of_ble_eq_true rfl⟩ ⟨Nat.le_of_ble_eq_true rfl, Nat.le_of_ble_eq_true rfl⟩) (fun r_15 H locs hQ hS => ?_)
          obtain ⟨hq_r_15, hP⟩ := hQ
          rcases hq_r_15 with ⟨rfl, c_16_0, c_16_1⟩ | ⟨rfl, c_17_0⟩
          · skip
            refine sy_if_eq (tgt := 69) hx hb dX12_numeral_62 (by decide) (by decide) (fun c_18 => ?_) (fun c9 => absurd c9 (by decide))
            refine lv_aload_n hx hb dX12_numeral_69 rfl (lv_at hl 1 rfl) ?_
            refine g_i (rDt hD) hS hA (g_V (own := "HideReaderModel") (As := []) (rest := []) hx hb hml hown hts hK hP (rDt hD) (kr_X12_isGood (l := l) (D := D) (k := k) (by omega)) ck_X12_isGood iv_X12_isGood uw_8_18 (rv_o hK hP) rfl hl.1 rfl (Nat.le_of_ble_eq_true rfl) dX12_numeral_70 ⟨Nat.le_of_ble_eq_true rfl, Nat.le_of_ble_eq_true rfl⟩ ⟨Nat.le_of_ble_eq_true rfl, Nat.le_of_ble_eq_true rfl⟩) (fun r_19 H locs hQ hS => ?_)
            obtain ⟨hq_r_19, hP⟩ := hQ
            rcases hq_r_19 with ⟨rfl, c_20_0, c_20_1⟩ | ⟨rfl, c_21_0⟩
            · skip
              refine sy_if_eq (tgt := 80) hx hb dX12_numeral_73 (by decide) (by decide) (fun c_22 => ?_) (fun c9 => absurd c9 (by decide))
              refine lv_iload_n hx hb dX12_numeral_80 rfl (lv_at hl 2 rfl) ?_
              exact r_i hx hb hr hlocks dX12_numeral_81 hS ⟨y_13, y_14, x_at, x_end, x_token, x_number, n_name, by omega, by omega, by omega, by omega, by omega, by omega, by omega, by omega, by omega, by omega, by omega, g_E, hP⟩
            exact False.elim (by omega)
          exact False.elim (by omega)
        · skip
          refine lv_aload_n hx hb dX12_numeral_36 rfl (lv_at hl 0 rfl) ?_
          refine rg_o_number hx hb hts hown hK hP uw_7_32 dX12_numeral_37 ?_
          refine lv_iload_n hx hb dX12_numeral_40 rfl (lv_at hl 2 rfl) ?_
          refine sy_icmp_le (tgt := 53) hx hb dX12_numeral_41 (by decide) (by omega) (by decide) (fun c_23 => ?_) (fun c_23 => ?_)
          · skip
            refine lv_aload_n hx hb dX12_numeral_53 rfl (lv_at hl 0 rfl) ?_
            refine rg_o_number hx hb hts hown hK hP uw_7_32 dX12_numeral_54 ?_
            refine lv_istore_n (lv' := [(3, .int (mI x_number)), (0, .ref (a 0)), (1, .int (mI 0)), (2, .int (mI 11))]) hx hb dX12_numeral_57 rfl hl (by decide) rfl (fun ls hl => ?_)
            refine lv_aload_n hx hb dX12_numeral_58 rfl (lv_at hl 1 rfl) ?_
            refine g_i (rDt hD) hS hA (g_V (own := "HideReaderModel") (As := []) (rest := []) hx hb hml hown hts hK hP (rDt hD) (kr_X12_isGood (l := l) (D := D) (k := k) h_x_faultKind) ck_X12_isGood iv_X12_isGood uw_8_18 (rv_o hK hP) rfl hl.1 rfl (Nat.le_of_ble_eq_true rfl) dX12_numeral_59 ⟨Nat.le_of_ble_eq_true rfl, Nat.le_of_ble_eq_true rfl⟩ ⟨Nat.le_of_ble_eq_true rfl, Nat.le_of_ble_eq_true rfl⟩) (fun r_24 H locs hQ hS => ?_)
            obtain ⟨hq_r_24, hP⟩ := hQ
            rcases hq_r_24 with ⟨rfl, c_25_0, c_25_1⟩ | ⟨rfl, c_26_0⟩
            exact False.elim (by omega)
            · skip
              refine sy_if_eq (tgt := 69) hx hb dX12_numeral_62 (by decide) (by decide) (fun c9 => absurd c9 (by decide)) (fun c_27 => ?_)
              refine lv_aload_n hx hb dX12_numeral_65 rfl (lv_at hl 1 rfl) ?_
              refine g_v (rDt hD) hS hA (g_V (own := "HideReaderModel") (As := []) (rest := []) hx hb hml hown hts hK hP (rDt hD) (kr_X12_goOn (l := l) (D := D) (k := k) h_x_size h_x_end h_x_number b_B_text g_E) ck_X12_goOn iv_X12_goOn uw_7_220 (rv_o hK hP) rfl hl.1 rfl (Nat.le_of_ble_eq_true rfl) dX12_numeral_66 ⟨Nat.le_of_ble_eq_true rfl, Nat.le_of_ble_eq_true rfl⟩ ⟨Nat.le_of_ble_eq_true rfl, Nat.le_of_ble_eq_true rfl⟩) (fun H locs hQ hS => ?_)
              obtain ⟨y_29, y_30, y_31, y_32, j_33, hr_28_0, hr_28_1, hr_28_2, hr_28_3, hr_28_4, hr_28_5, kr_28_E, hP⟩ := hQ
              refine lv_aload_n hx hb dX12_numeral_69 rfl (lv_at hl 1 rfl) ?_
              refine g_i (rDt hD) hS hA (g_V (own := "HideReaderModel") (As := []) (rest := []) hx hb hml hown hts hK hP (rDt hD) (kr_X12_isGood (l := l) (D := D) (k := k) h_x_faultKind) ck_X12_isGood iv_X12_isGood uw_8_18 (rv_o hK hP) rfl hl.1 rfl (Nat.le_of_ble_eq_true rfl) dX12_numeral_70 ⟨Nat.le_of_ble_eq_true rfl, Nat.le_of_ble_eq_true rfl⟩ ⟨Nat.le_of_ble_eq_true rfl, Nat.le_of_ble_eq_true rfl⟩) (fun r_34 H locs hQ hS => ?_)
              obtain ⟨hq_r_34, hP⟩ := hQ
              rcases hq_r_34 with ⟨rfl, c_35_0, c_35_1⟩ | ⟨rfl, c_36_0⟩
              exact False.elim (by omega)
              · skip
                refine sy_if_eq (tgt := 80) hx hb dX12_numeral_73 (by decide) (by decide) (fun c9 => absurd c9 (by decide)) (fun c_37 => ?_)
                refine lv_iload_n hx hb dX12_numeral_76 rfl (lv_at hl 0 rfl) ?_
                refine lv_goto (tgt := 81) hx hb dX12_numeral_77 (by decide) ?_
                exact r_i hx hb hr hlocks dX12_numeral_81 hS ⟨x_faultKind, x_faultPlace, y_29, y_30, y_31, y_32, j_33, by omega, by omega, by omega, by omega, by omega, by omega, by omega, by omega, by omega, by omega, by omega, kr_28_E, hP⟩
          · skip
            refine lv_aload_n hx hb dX12_numeral_44 rfl (lv_at hl 0 rfl) ?_
            refine lv_iconst (v := mI 4) hx hb dX12_numeral_45 rfl ?_
            refine lv_aload_n hx hb dX12_numeral_46 rfl (lv_at hl 0 rfl) ?_
            refine rg_o_at hx hb hts hown hK hP uw_7_29 dX12_numeral_47 ?_
            refine g_v (rDt hD) hS hA (g_V (own := "HideReaderModel") (As := [.int (mI 4), .int (mI x_at)]) (rest := []) hx hb hml hown hts hK hP (rDt hD) (kr_X12_fails (l := l) (D := D) (k := k) (by decide) (by omega) h_x_faultKind h_x_faultPlace) ck_X12_fails iv_X12_fails uw_8_38 (rv_o hK hP) rfl hl.1 rfl (Nat.le_of_ble_eq_true rfl) dX12_numeral_50 ⟨Nat.le_of_ble_eq_true rfl, Nat.le_of_ble_eq_true rfl⟩ ⟨Nat.le_of_ble_eq_true rfl, Nat.le_of_ble_eq_true rfl⟩) (fun H locs hQ hS => ?_)
            obtain ⟨y_39, y_40, hr_38_0, hr_38_1, hr_38_2, hP⟩ := hQ
            refine lv_aload_n hx hb dX12_numeral_53 rfl (lv_at hl 0 rfl) ?_
            refine rg_o_number hx hb hts hown hK hP uw_7_32 dX12_numeral_54 ?_
            refine lv_istore_n (lv' := [(3, .int (mI x_number)), (0, .ref (a 0)), (1, .int (mI 0)), (2, .int (mI 11))]) hx hb dX12_numeral_57 rfl hl (by decide) rfl (fun ls hl => ?_)
            refine lv_aload_n hx hb dX12_numeral_58 rfl (lv_at hl 1 rfl) ?_
            refine g_i (rDt hD) hS hA (g_V (own := "HideReaderModel") (As := []) (rest := []) hx hb hml hown hts hK hP (rDt hD) (kr_X12_isGood (l := l) (D := D) (k := k) (by omega)) ck_X12_isGood iv_X12_isGood uw_8_18 (rv_o hK hP) rfl hl.1 rfl (Nat.le_of_ble_eq_true rfl) dX12_numeral_59 ⟨Nat.le_of_ble_eq_true rfl, Nat.le_of_ble_eq_true rfl⟩ ⟨Nat.le_of_ble_eq_true rfl, Nat.le_of_ble_eq_true rfl⟩) (fun r_41 H locs hQ hS => ?_)
            obtain ⟨hq_r_41, hP⟩ := hQ
            rcases hq_r_41 with ⟨rfl, c_42_0, c_42_1⟩ | ⟨rfl, c_43_0⟩
            · skip
              refine sy_if_eq (tgt := 69) hx hb dX12_numeral_62 (by decide) (by decide) (fun c_44 => ?_) (fun c9 => absurd c9 (by decide))
              refine lv_aload_n hx hb dX12_numeral_69 rfl (lv_at hl 1 rfl) ?_
              refine g_i (rDt hD) hS hA (g_V (own := "HideReaderModel") (As := []) (rest := []) hx hb hml hown hts hK hP (rDt hD) (kr_X12_isGood (l := l) (D := D) (k := k) (by omega)) ck_X12_isGood iv_X12_isGood uw_8_18 (rv_o hK hP) rfl hl.1 rfl (Nat.le_of_ble_eq_true rfl) dX12_numeral_70 ⟨Nat.le_of_ble_eq_true rfl, Nat.le_of_ble_eq_true rfl⟩ ⟨Nat.le_of_ble_eq_true rfl, Nat.le_of_ble_eq_true rfl⟩) (fun r_45 H locs hQ hS => ?_)
              obtain ⟨hq_r_45, hP⟩ := hQ
              rcases hq_r_45 with ⟨rfl, c_46_0, c_46_1⟩ | ⟨rfl, c_47_0⟩
              · skip
                refine sy_if_eq (tgt := 80) hx hb dX12_numeral_73 (by decide) (by decide) (fun c_48 => ?_) (fun c9 => absurd c9 (by decide))
                refine lv_iload_n hx hb dX12_numeral_80 rfl (lv_at hl 2 rfl) ?_
                exact r_i hx hb hr hlocks dX12_numeral_81 hS ⟨y_39, y_40, x_at, x_end, x_token, x_number, n_name, by omega, by omega, by omega, by omega, by omega, by omega, by omega, by omega, by omega, by omega, by omega, g_E, hP⟩
              exact False.elim (by omega)
            exact False.elim (by omega)
    · skip
      refine lv_aload_n hx hb dX12_numeral_17 rfl (lv_at hl 0 rfl) ?_
      refine g_v (rDt hD) hS hA (g_V (own := "HideReaderModel") (As := []) (rest := []) hx hb hml hown hts hK hP (rDt hD) (kr_X12_misplaced (l := l) (D := D) (k := k) h_x_faultKind h_x_faultPlace h_x_at h_x_token) ck_X12_misplaced iv_X12_misplaced uw_8_34 (rv_o hK hP) rfl hl.1 rfl (Nat.le_of_ble_eq_true rfl) dX12_numeral_18 ⟨Nat.le_of_ble_eq_true rfl, Nat.le_of_ble_eq_true rfl⟩ ⟨Nat.le_of_ble_eq_true rfl, Nat.le_of_ble_eq_true rfl⟩) (fun H locs hQ hS => ?_)
      obtain ⟨y_50, y_51, hr_49_0, hr_49_1, hr_49_2, hP⟩ := hQ
      refine lv_aload_n hx hb dX12_numeral_21 rfl (lv_at hl 0 rfl) ?_
      refine g_i (rDt hD) hS hA (g_V (own := "HideReaderModel") (As := []) (rest := []) hx hb hml hown hts hK hP (rDt hD) (kr_X12_isGood (l := l) (D := D) (k := k) (by omega)) ck_X12_isGood iv_X12_isGood uw_8_18 (rv_o hK hP) rfl hl.1 rfl (Nat.le_of_ble_eq_true rfl) dX12_numeral_22 ⟨Nat.le_of_ble_eq_true rfl, Nat.le_of_ble_eq_true rfl⟩ ⟨Nat.le_of_ble_eq_true rfl, Nat.le_of_ble_eq_true rfl⟩) (fun r_52 H locs hQ hS => ?_)
      obtain ⟨hq_r_52, hP⟩ := hQ
      rcases hq_r_52 with ⟨rfl, c_53_0, c_53_1⟩ | ⟨rfl, c_54_0⟩
      · skip
        refine sy_if_eq (tgt := 53) hx hb dX12_numeral_25 (by decide) (by decide) (fun c_55 => ?_) (fun c9 => absurd c9 (by decide))
        refine lv_aload_n hx hb dX12_numeral_53 rfl (lv_at hl 0 rfl) ?_
        refine rg_o_number hx hb hts hown hK hP uw_7_32 dX12_numeral_54 ?_
        refine lv_istore_n (lv' := [(3, .int (mI x_number)), (0, .ref (a 0)), (1, .int (mI 0)), (2, .int (mI 11))]) hx hb dX12_numeral_57 rfl hl (by decide) rfl (fun ls hl => ?_)
        refine lv_aload_n hx hb dX12_numeral_58 rfl (lv_at hl 1 rfl) ?_
        refine g_i (rDt hD) hS hA (g_V (own := "HideReaderModel") (As := []) (rest := []) hx hb hml hown hts hK hP (rDt hD) (kr_X12_isGood (l := l) (D := D) (k := k) (by omega)) ck_X12_isGood iv_X12_isGood uw_8_18 (rv_o hK hP) rfl hl.1 rfl (Nat.le_of_ble_eq_true rfl) dX12_numeral_59 ⟨Nat.le_of_ble_eq_true rfl, Nat.le_of_ble_eq_true rfl⟩ ⟨Nat.le_of_ble_eq_true rfl, Nat.le_of_ble_eq_true rfl⟩) (fun r_56 H locs hQ hS => ?_)
        obtain ⟨hq_r_56, hP⟩ := hQ
        rcases hq_r_56 with ⟨rfl, c_57_0, c_57_1⟩ | ⟨rfl, c_58_0⟩
        · skip
          refine sy_if_eq (tgt := 69) hx hb dX12_numeral_62 (by decide) (by decide) (fun c_59 => ?_) (fun c9 => absurd c9 (by decide))
          refine lv_aload_n hx hb dX12_numeral_69 rfl (lv_at hl 1 rfl) ?_
          refine g_i (rDt hD) hS hA (g_V (own := "HideReaderModel") (As := []) (rest := []) hx hb hml hown hts hK hP (rDt hD) (kr_X12_isGood (l := l) (D := D) (k := k) (by omega)) ck_X12_isGood iv_X12_isGood uw_8_18 (rv_o hK hP) rfl hl.1 rfl (Nat.le_of_ble_eq_true rfl) dX12_numeral_70 ⟨Nat.le_of_ble_eq_true rfl, Nat.le_of_ble_eq_true rfl⟩ ⟨Nat.le_of_ble_eq_true rfl, Nat.le_of_ble_eq_true rfl⟩) (fun r_60 H locs hQ hS => ?_)
          obtain ⟨hq_r_60, hP⟩ := hQ
          rcases hq_r_60 with ⟨rfl, c_61_0, c_61_1⟩ | ⟨rfl, c_62_0⟩
          · skip
            refine sy_if_eq (tgt := 80) hx hb dX12_numeral_73 (by decide) (by decide) (fun c_63 => ?_) (fun c9 => absurd c9 (by decide))
            refine lv_iload_n hx hb dX12_numeral_80 rfl (lv_at hl 2 rfl) ?_
            exact r_i hx hb hr hlocks dX12_numeral_81 hS ⟨y_50, y_51, x_at, x_end, x_token, x_number, n_name, by omega, by omega, by omega, by omega, by omega, by omega, by omega, by omega, by omega, by omega, by omega, g_E, hP⟩
          exact False.elim (by omega)
        exact False.elim (by omega)
      exact False.elim (by omega)
set_option maxHeartbeats 4000000 in
set_option maxRecDepth 100000 in
theorem kr_X12_readMark (h_x_size : 0 ≤ x_size ∧ x_size ≤ 1600) (h_x_faultKind : 0 ≤ x_faultKind ∧ x_faultKind ≤ 5) (h_x_faultPlace : -1 ≤ x_faultPlace ∧ x_faultPlace ≤ 1600) (h_x_at : 0 ≤ x_at ∧ x_at ≤ 1600) (h_x_end : 0 ≤ x_end ∧ x_end ≤ 1600) (h_x_token : 0 ≤ x_token ∧ x_token ≤ 5) (h_x_number : -2147483648 ≤ x_number ∧ x_number ≤ 2147483647) (b_B_text : bd (-128) 127 B_text) (g_E : x_end ≤ x_size) : MetG l D k yX12_readMark cX12_readMark 4 (some .int) 3 [.ref (a 0)] (rW k a x_taped x_size x_faultKind x_faultPlace x_at x_end x_token x_number x_bank x_rb x_codes x_within x_piled x_unitsInRule x_askBeast x_askStroke x_askAge x_askSeason x_acts x_undone x_laid x_seens x_time x_fitting n_name B_tape B_text B_turns B_herds B_irons B_beasts B_units B_night B_draw B_told B_brands B_ironMarks B_herdTold B_born B_ruleFrom B_ruleTo B_code B_codeNumber B_eWhat B_eSign B_pile B_all B_burned B_was B_need B_laidRow B_long8 B_brings B_sBurning B_sStroke B_sIs B_sTold B_sUntold B_parts B_boxAll B_isBoxed G_hName G_iName G_bName ex) (qGi (fun r0 H => ∃ (y_faultKind : Int) (y_faultPlace : Int) (y_at : Int) (y_end : Int) (y_token : Int) (y_number : Int) (j_name : Int64), (0 ≤ r0 ∧ r0 ≤ 4095) ∧ (0 ≤ y_faultKind ∧ y_faultKind ≤ 5) ∧ (-1 ≤ y_faultPlace ∧ y_faultPlace ≤ 1600) ∧ (0 ≤ y_at ∧ y_at ≤ 1600) ∧ (0 ≤ y_end ∧ y_end ≤ 1600) ∧ (0 ≤ y_token ∧ y_token ≤ 5) ∧ (-2147483648 ≤ y_number ∧ y_number ≤ 2147483647) ∧ (0 ≤ y_faultKind - x_faultKind) ∧ (0 ≤ y_end - x_end) ∧ (1 ≤ y_faultKind ∨ y_token ≤ 0 ∨ x_end + 1 ≤ y_end) ∧ (x_token = 3 ∨ 1 ≤ y_faultKind) ∧ (y_end ≤ x_size) ∧ va_P D vwCl (rW k a x_taped x_size y_faultKind y_faultPlace y_at y_end y_token y_number x_bank x_rb x_codes x_within x_piled x_unitsInRule x_askBeast x_askStroke x_askAge x_askSeason x_acts x_undone x_laid x_seens x_time x_fitting j_name B_tape B_text B_turns B_herds B_irons B_beasts B_units B_night B_draw B_told B_brands B_ironMarks B_herdTold B_born B_ruleFrom B_ruleTo B_code B_codeNumber B_eWhat B_eSign B_pile B_all B_burned B_was B_need B_laidRow B_long8 B_brings B_sBurning B_sStroke B_sIs B_sTold B_sUntold B_parts B_boxAll B_isBoxed G_hName G_iName G_bName ex) H)) := by
  refine metG_of 0 ck_X12_readMark (Nat.le_of_ble_eq_true rfl) rMap (fun p e s m args below meth c A hx hb hml hr hlocks hown hts hK hD hA hP hS ls hl => ?_)
  have hown : s.vm.findClass "HideReaderModel" = some m.cls := hown
  have hl : lv_has ls 4 [(0, .ref (a 0))] := hl
  refine lv_aload_n hx hb dX12_readMark_0 rfl (lv_at hl 0 rfl) ?_
  refine lv_aload_n hx hb dX12_readMark_1 rfl (lv_at hl 0 rfl) ?_
  refine lv_ldc2 (own := "HideReaderModel") (v := 32497657166128499) hx hb hown (hts _ uw_7_237) dX12_readMark_2 ?_
  refine g_i (rDt hD) hS hA (g_V (own := "HideReaderModel") (As := [.long 32497657166128499]) (rest := [.ref (a 0)]) hx hb hml hown hts hK hP (rDt hD) (kr_X12_isWord (l := l) (D := D) (k := k) h_x_token) ck_X12_isWord iv_X12_isWord uw_8_30 (rv_o hK hP) rfl hl.1 rfl (Nat.le_of_ble_eq_true rfl) dX12_readMark_5 ⟨Nat.le_of_ble_eq_true rfl, Nat.le_of_ble_eq_true rfl⟩ ⟨Nat.le_of_ble_eq_true rfl, Nat.le_of_ble_eq_true rfl⟩) (fun r_1 H locs hQ hS => ?_)
  obtain ⟨hq_r_1, hP⟩ := hQ
  rcases hq_r_1 with ⟨rfl, c_2_0, c_2_1⟩ | ⟨rfl, c_3_0, c_3_1⟩
  · skip
    refine g_v (rDt hD) hS hA (g_V (own := "HideReaderModel") (As := [.int (mI 0)]) (rest := []) hx hb hml hown hts hK hP (rDt hD) (kr_X12_must (l := l) (D := D) (k := k) (by decide) h_x_size h_x_faultKind h_x_faultPlace h_x_at h_x_end h_x_token h_x_number b_B_text g_E) ck_X12_must iv_X12_must uw_8_62 (rv_o hK hP) rfl hl.1 rfl (Nat.le_of_ble_eq_true rfl) dX12_readMark_8 ⟨Nat.le_of_ble_eq_true rfl, Nat.le_of_ble_eq_true rfl⟩ ⟨Nat.le_of_ble_eq_true rfl, Nat.le_of_ble_eq_true rfl⟩) (fun H locs hQ hS => ?_)
    obtain ⟨y_5, y_6, y_7, y_8, y_9, y_10, j_11, hr_4_0, hr_4_1, hr_4_2, hr_4_3, hr_4_4, hr_4_5, hr_4_6, hr_4_7, hr_4_8, hr_4_9, kr_4_E, hP⟩ := hQ
    refine lv_iconst (v := mI 0) hx hb dX12_readMark_11 rfl ?_
    refine lv_istore_n (lv' := [(1, .int (mI 0)), (0, .ref (a 0))]) hx hb dX12_readMark_12 rfl hl (by decide) rfl (fun ls hl => ?_)
    refine lv_iconst (v := mI 1) hx hb dX12_readMark_13 rfl ?_
    refine lv_istore_n (lv' := [(2, .int (mI 1)), (1, .int (mI 0)), (0, .ref (a 0))]) hx hb dX12_readMark_14 rfl hl (by decide) rfl (fun ls hl => ?_)
    refine sy_loop (I := fun n H locs g => ∃ (z_2102 : Int) (z_2103 : Int) (y_2104 : Int) (y_2105 : Int) (y_2106 : Int) (y_2107 : Int) (y_2108 : Int) (y_2109 : Int) (j_2110 : Int64) (ls : Array Slot), (0 ≤ z_2102 ∧ z_2102 ≤ 1) ∧ (0 ≤ z_2103 ∧ z_2103 ≤ 4095) ∧ (0 ≤ y_2104 ∧ y_2104 ≤ 5) ∧ (-1 ≤ y_2105 ∧ y_2105 ≤ 1600) ∧ (0 ≤ y_2106 ∧ y_2106 ≤ 1600) ∧ (0 ≤ y_2107 ∧ y_2107 ≤ 1600) ∧ (0 ≤ y_2108 ∧ y_2108 ≤ 5) ∧ (-2147483648 ≤ y_2109 ∧ y_2109 ≤ 2147483647) ∧ (y_2107 ≤ x_size) ∧ (0 ≤ y_2107 - y_8) ∧ (0 ≤ y_2104 - y_5) ∧ (1 ≤ y_2104 ∨ y_2108 ≤ 0 ∨ x_end + 1 ≤ y_2107) ∧ (6 * (1601 - y_2107 + z_2102) - y_2104).toNat = n ∧ va_P D vwCl (rW k a x_taped x_size y_2104 y_2105 y_2106 y_2107 y_2108 y_2109 x_bank x_rb x_codes x_within x_piled x_unitsInRule x_askBeast x_askStroke x_askAge x_askSeason x_acts x_undone x_laid x_seens x_time x_fitting j_2110 B_tape B_text B_turns B_herds B_irons B_beasts B_units B_night B_draw B_told B_brands B_ironMarks B_herdTold B_born B_ruleFrom B_ruleTo B_code B_codeNumber B_eWhat B_eSign B_pile B_all B_burned B_was B_need B_laidRow B_long8 B_brings B_sBurning B_sStroke B_sIs B_sTold B_sUntold B_parts B_boxAll B_isBoxed G_hName G_iName G_bName ex) H ∧ va_S A s.heap H locs ∧ lv_has ls 4 [(2, .int (mI z_2102)), (1, .int (mI z_2103)), (0, .ref (a 0))] ∧ g = F0 m 15 ls []) ?_ _ ⟨1, 0, y_5, y_6, y_7, y_8, y_9, y_10, j_11, _, by omega, by omega, by omega, by omega, by omega, by omega, by omega, by omega, kr_4_E, by omega, by omega, by omega, rfl, hP, hS, lv_sub hl [0, 1, 2] rfl, rfl⟩
    intro n_2162 H locs g hI ih_2163
    obtain ⟨z_2102, z_2103, y_2104, y_2105, y_2106, y_2107, y_2108, y_2109, j_2110, ls, h15_0, h15_1, h15_2, h15_3, h15_4, h15_5, h15_6, h15_7, g_2111, h15_9, h15_10, h15_11, mn_2162, hP, hS, hl, rfl⟩ := hI
    refine lv_aload_n hx hb dX12_readMark_15 rfl (lv_at hl 2 rfl) ?_
    refine g_i (rDt hD) hS hA (g_V (own := "HideReaderModel") (As := []) (rest := []) hx hb hml hown hts hK hP (rDt hD) (kr_X12_isGood (l := l) (D := D) (k := k) (by omega)) ck_X12_isGood iv_X12_isGood uw_8_18 (rv_o hK hP) rfl hl.1 rfl (Nat.le_of_ble_eq_true rfl) dX12_readMark_16 ⟨Nat.le_of_ble_eq_true rfl, Nat.le_of_ble_eq_true rfl⟩ ⟨Nat.le_of_ble_eq_true rfl, Nat.le_of_ble_eq_true rfl⟩) (fun r_2164 H locs hQ hS => ?_)
    obtain ⟨hq_r_2164, hP⟩ := hQ
    rcases hq_r_2164 with ⟨rfl, c_2165_0, c_2165_1⟩ | ⟨rfl, c_2166_0⟩
    · skip
      refine sy_if_eq (tgt := 101) hx hb dX12_readMark_19 (by decide) (by decide) (fun c_2167 => ?_) (fun c9 => absurd c9 (by decide))
      refine lv_iload_n hx hb dX12_readMark_101 rfl (lv_at hl 1 rfl) ?_
      exact r_i hx hb hr hlocks dX12_readMark_102 hS ⟨y_2104, y_2105, y_2106, y_2107, y_2108, y_2109, j_2110, by omega, by omega, by omega, by omega, by omega, by omega, by omega, by omega, by omega, by omega, by omega, g_2111, hP⟩
    · skip
      refine sy_if_eq (tgt := 101) hx hb dX12_readMark_19 (by decide) (by decide) (fun c9 => absurd c9 (by decide)) (fun c_2168 => ?_)
      refine lv_iload_n hx hb dX12_readMark_22 rfl (lv_at hl 0 rfl) ?_
      refine sy_if_eq (tgt := 101) hx hb dX12_readMark_23 (by decide) (by omega) (fun c_2169 => ?_) (fun c_2169 => ?_)
      · skip
        refine lv_iload_n hx hb dX12_readMark_101 rfl (lv_at hl 1 rfl) ?_
        exact r_i hx hb hr hlocks dX12_readMark_102 hS ⟨y_2104, y_2105, y_2106, y_2107, y_2108, y_2109, j_2110, by omega, by omega, by omega, by omega, by omega, by omega, by omega, by omega, by omega, by omega, by omega, g_2111, hP⟩
      · skip
        refine lv_aload_n hx hb dX12_readMark_26 rfl (lv_at hl 2 rfl) ?_
        refine rg_o_token hx hb hts hown hK hP uw_7_31 dX12_readMark_27 ?_
        refine lv_iconst (v := mI 4) hx hb dX12_readMark_30 rfl ?_
        refine sy_join (I := fun H locs g => ∃ (y_2180 : Int) (y_2181 : Int) (ls : Array Slot), (0 ≤ y_2180 ∧ y_2180 ≤ 5) ∧ (-1 ≤ y_2181 ∧ y_2181 ≤ 1600) ∧ (y_2104 ≤ y_2180) ∧ (1 ≤ y_2180 ∨ y_2108 ≤ 0 ∨ x_end + 1 ≤ y_2107) ∧ va_P D vwCl (rW k a x_taped x_size y_2180 y_2181 y_2106 y_2107 y_2108 y_2109 x_bank x_rb x_codes x_within x_piled x_unitsInRule x_askBeast x_askStroke x_askAge x_askSeason x_acts x_undone x_laid x_seens x_time x_fitting j_2110 B_tape B_text B_turns B_herds B_irons B_beasts B_units B_night B_draw B_told B_brands B_ironMarks B_herdTold B_born B_ruleFrom B_ruleTo B_code B_codeNumber B_eWhat B_eSign B_pile B_all B_burned B_was B_need B_laidRow B_long8 B_brings B_sBurning B_sStroke B_sIs B_sTold B_sUntold B_parts B_boxAll B_isBoxed G_hName G_iName G_bName ex) H ∧ va_S A s.heap H locs ∧ lv_has ls 4 [(2, .int (mI z_2102)), (1, .int (mI z_2103)), (0, .ref (a 0))] ∧ g = F0 m 63 ls []) ?_ ?_
        · skip
          intro H locs g hI
          obtain ⟨y_2180, y_2181, ls, h63_0, h63_1, h63_2, h63_3, hP, hS, hl, rfl⟩ := hI
          refine lv_aload_n hx hb dX12_readMark_63 rfl (lv_at hl 2 rfl) ?_
          refine lv_iconst (v := mI 0) hx hb dX12_readMark_64 rfl ?_
          refine lv_bipush (v := mI 11) hx hb dX12_readMark_65 (by decide) ?_
          refine g_i (rDt hD) hS hA (g_V (own := "HideReaderModel") (As := [.int (mI 0), .int (mI 11)]) (rest := []) hx hb hml hown hts hK hP (rDt hD) (kr_X12_numeral_v0_11 (l := l) (D := D) (k := k) (by decide) (by decide) h_x_size (by omega) (by omega) (by omega) (by omega) (by omega) (by omega) b_B_text g_2111) ck_X12_numeral iv_X12_numeral uw_8_46 (rv_o hK hP) rfl hl.1 rfl (Nat.le_of_ble_eq_true rfl) dX12_readMark_67 ⟨Nat.le_of_ble_eq_true rfl, Nat.le_of_ble_eq_true rfl⟩ ⟨Nat.le_of_ble_eq_true rfl, Nat.le_of_ble_eq_true rfl⟩) (fun r_2183 H locs hQ hS => ?_)
          obtain ⟨y_2184, y_2185, y_2186, y_2187, y_2188, y_2189, j_2190, hr_2183_0, hr_2183_1, hr_2183_2, hr_2183_3, hr_2183_4, hr_2183_5, hr_2183_6, hr_2183_7, hr_2183_8, hr_2183_9, hr_2183_10, kr_2183_E, hP⟩ := hQ
          refine lv_istore_n (lv' := [(3, .int (mI r_2183)), (2, .int (mI z_2102)), (1, .int (mI z_2103)), (0, .ref (a 0))]) hx hb dX12_readMark_70 rfl hl (by decide) rfl (fun ls hl => ?_)
          refine lv_aload_n hx hb dX12_readMark_71 rfl (lv_at hl 3 rfl) ?_
          refine g_i (rDt hD) hS hA (g_V (own := "HideReaderModel") (As := []) (rest := []) hx hb hml hown hts hK hP (rDt hD) (kr_X12_isGood (l := l) (D := D) (k := k) (by omega)) ck_X12_isGood iv_X12_isGood uw_8_18 (rv_o hK hP) rfl hl.1 rfl (Nat.le_of_ble_eq_true rfl) dX12_readMark_72 ⟨Nat.le_of_ble_eq_true rfl, Nat.le_of_ble_eq_true rfl⟩ ⟨Nat.le_of_ble_eq_true rfl, Nat.le_of_ble_eq_true rfl⟩) (fun r_2191 H locs hQ hS => ?_)
          obtain ⟨hq_r_2191, hP⟩ := hQ
          rcases hq_r_2191 with ⟨rfl, c_2192_0, c_2192_1⟩ | ⟨rfl, c_2193_0⟩
          · skip
            refine sy_if_eq (tgt := 84) hx hb dX12_readMark_75 (by decide) (by decide) (fun c_2195 => ?_) (fun c9 => absurd c9 (by decide))
            refine lv_aload_n hx hb dX12_readMark_84 rfl (lv_at hl 3 rfl) ?_
            refine rg_o_token hx hb hts hown hK hP uw_7_31 dX12_readMark_85 ?_
            refine lv_iconst (v := mI 4) hx hb dX12_readMark_88 rfl ?_
            refine sy_icmp_ne (tgt := 96) hx hb dX12_readMark_89 (by decide) (by omega) (by decide) (fun c_2196 => ?_) (fun c_2196 => ?_)
            · skip
              refine lv_iconst (v := mI 0) hx hb dX12_readMark_96 rfl ?_
              refine lv_istore_n (lv' := [(2, .int (mI 0)), (3, .int (mI r_2183)), (1, .int (mI z_2103)), (0, .ref (a 0))]) hx hb dX12_readMark_97 rfl hl (by decide) rfl (fun ls hl => ?_)
              refine lv_goto (tgt := 15) hx hb dX12_readMark_98 (by decide) ?_
              exact ih_2163 _ _ _ _ (by omega) ⟨0, z_2103, y_2184, y_2185, y_2186, y_2187, y_2188, y_2189, j_2190, _, by omega, by omega, by omega, by omega, by omega, by omega, by omega, by omega, kr_2183_E, by omega, by omega, by omega, rfl, hP, hS, lv_sub hl [0, 2, 3] rfl, rfl⟩
            · skip
              refine lv_iconst (v := mI 1) hx hb dX12_readMark_92 rfl ?_
              refine lv_goto (tgt := 97) hx hb dX12_readMark_93 (by decide) ?_
              refine lv_istore_n (lv' := [(2, .int (mI 1)), (3, .int (mI r_2183)), (1, .int (mI z_2103)), (0, .ref (a 0))]) hx hb dX12_readMark_97 rfl hl (by decide) rfl (fun ls hl => ?_)
              refine lv_goto (tgt := 15) hx hb dX12_readMark_98 (by decide) ?_
              exact ih_2163 _ _ _ _ (by omega) ⟨1, z_2103, y_2184, y_2185, y_2186, y_2187, y_2188, y_2189, j_2190, _, by omega, by omega, by omega, by omega, by omega, by omega, by omega, by omega, kr_2183_E, by omega, by omega, by omega, rfl, hP, hS, lv_sub hl [0, 2, 3] rfl, rfl⟩
          · skip
            refine sy_if_eq (tgt := 84) hx hb dX12_readMark_75 (by decide) (by decide) (fun c9 => absurd c9 (by decide)) (fun c_2200 => ?_)
            refine lv_iload_n hx hb dX12_readMark_78 rfl (lv_at hl 2 rfl) ?_
            refine lv_iconst (v := mI 1) hx hb dX12_readMark_79 rfl ?_
            refine lv_iload_n hx hb dX12_readMark_80 rfl (lv_at hl 0 rfl) ?_
            refine sy_shl1 hx hb dX12_readMark_81 11 (by decide) 2048 (by decide) (by omega) (fun z_2201 ez_2201 hz_2201 => ?_)
            refine sy_ior hx hb dX12_readMark_82 12 (by decide) 4096 (by decide) (by omega) (by omega) (fun z_2202 hz_2202 => ?_)
            refine lv_istore_n (lv' := [(1, .int (mI z_2202)), (3, .int (mI r_2183)), (2, .int (mI z_2102)), (0, .ref (a 0))]) hx hb dX12_readMark_83 rfl hl (by decide) rfl (fun ls hl => ?_)
            refine lv_aload_n hx hb dX12_readMark_84 rfl (lv_at hl 3 rfl) ?_
            refine rg_o_token hx hb hts hown hK hP uw_7_31 dX12_readMark_85 ?_
            refine lv_iconst (v := mI 4) hx hb dX12_readMark_88 rfl ?_
            refine sy_icmp_ne (tgt := 96) hx hb dX12_readMark_89 (by decide) (by omega) (by decide) (fun c_2203 => ?_) (fun c_2203 => ?_)
            · skip
              refine lv_iconst (v := mI 0) hx hb dX12_readMark_96 rfl ?_
              refine lv_istore_n (lv' := [(2, .int (mI 0)), (1, .int (mI z_2202)), (3, .int (mI r_2183)), (0, .ref (a 0))]) hx hb dX12_readMark_97 rfl hl (by decide) rfl (fun ls hl => ?_)
              refine lv_goto (tgt := 15) hx hb dX12_readMark_98 (by decide) ?_
              exact ih_2163 _ _ _ _ (by omega) ⟨0, z_2202, y_2184, y_2185, y_2186, y_2187, y_2188, y_2189, j_2190, _, by omega, by omega, by omega, by omega, by omega, by omega, by omega, by omega, kr_2183_E, by omega, by omega, by omega, rfl, hP, hS, lv_sub hl [0, 1, 3] rfl, rfl⟩
            · skip
              refine lv_iconst (v := mI 1) hx hb dX12_readMark_92 rfl ?_
              refine lv_goto (tgt := 97) hx hb dX12_readMark_93 (by decide) ?_
              refine lv_istore_n (lv' := [(2, .int (mI 1)), (1, .int (mI z_2202)), (3, .int (mI r_2183)), (0, .ref (a 0))]) hx hb dX12_readMark_97 rfl hl (by decide) rfl (fun ls hl => ?_)
              refine lv_goto (tgt := 15) hx hb dX12_readMark_98 (by decide) ?_
              exact ih_2163 _ _ _ _ (by omega) ⟨1, z_2202, y_2184, y_2185, y_2186, y_2187, y_2188, y_2189, j_2190, _, by omega, by omega, by omega, by omega, by omega, by omega, by omega, by omega, kr_2183_E, by omega, by omega, by omega, rfl, hP, hS, lv_sub hl [0, 1, 3] rfl, rfl⟩
        · skip
          intro J_2182
          refine sy_icmp_ne (tgt := 63) hx hb dX12_readMark_31 (by decide) (by omega) (by decide) (fun c_2204 => ?_) (fun c_2204 => ?_)
          · skip
            exact J_2182 _ _ _ ⟨y_2104, y_2105, _, by omega, by omega, by omega, by omega, hP, hS, lv_sub hl [0, 1, 2] rfl, rfl⟩
          · skip
            refine lv_aload_n hx hb dX12_readMark_34 rfl (lv_at hl 2 rfl) ?_
            refine rg_o_number hx hb hts hown hK hP uw_7_32 dX12_readMark_35 ?_
            refine lv_bipush (v := mI 12) hx hb dX12_readMark_38 (by decide) ?_
            refine sy_icmp_ge (tgt := 63) hx hb dX12_readMark_40 (by decide) (by omega) (by decide) (fun c_2205 => ?_) (fun c_2205 => ?_)
            · skip
              exact J_2182 _ _ _ ⟨y_2104, y_2105, _, by omega, by omega, by omega, by omega, hP, hS, lv_sub hl [0, 1, 2] rfl, rfl⟩
            · skip
              refine lv_iload_n hx hb dX12_readMark_43 rfl (lv_at hl 1 rfl) ?_
              refine lv_aload_n hx hb dX12_readMark_44 rfl (lv_at hl 2 rfl) ?_
              refine rg_o_number hx hb hts hown hK hP uw_7_32 dX12_readMark_45 ?_
              refine g_i (rDt hD) hS hA (g_S (own := "HideReaderModel") (As := [.int (mI z_2103), .int (mI y_2109)]) (rest := []) hx hb hml hown hts hK hP (rDt hD) (kr_bit (l := l) (D := D) (k := k)) ck_X12_bit uw_6_229 uw_6_228 rfl hl.1 rfl (Nat.le_of_ble_eq_true rfl) dX12_readMark_48 ⟨Nat.le_of_ble_eq_true rfl, Nat.le_of_ble_eq_true rfl⟩ ⟨Nat.le_of_ble_eq_true rfl, Nat.le_of_ble_eq_true rfl⟩) (fun r_2206 H locs hQ hS => ?_)
              obtain ⟨hq_r_2206, hP⟩ := hQ
              rcases hq_r_2206 with ⟨rfl, c_2207_0⟩ | ⟨rfl, c_2208_0⟩
              · skip
                refine sy_if_eq (tgt := 63) hx hb dX12_readMark_51 (by decide) (by decide) (fun c9 => absurd c9 (by decide)) (fun c_2209 => ?_)
                refine lv_aload_n hx hb dX12_readMark_54 rfl (lv_at hl 2 rfl) ?_
                refine lv_iconst (v := mI 3) hx hb dX12_readMark_55 rfl ?_
                refine lv_aload_n hx hb dX12_readMark_56 rfl (lv_at hl 2 rfl) ?_
                refine rg_o_at hx hb hts hown hK hP uw_7_29 dX12_readMark_57 ?_
                refine g_v (rDt hD) hS hA (g_V (own := "HideReaderModel") (As := [.int (mI 3), .int (mI y_2106)]) (rest := []) hx hb hml hown hts hK hP (rDt hD) (kr_X12_fails (l := l) (D := D) (k := k) (by decide) (by omega) (by omega) (by omega)) ck_X12_fails iv_X12_fails uw_8_38 (rv_o hK hP) rfl hl.1 rfl (Nat.le_of_ble_eq_true rfl) dX12_readMark_60 ⟨Nat.le_of_ble_eq_true rfl, Nat.le_of_ble_eq_true rfl⟩ ⟨Nat.le_of_ble_eq_true rfl, Nat.le_of_ble_eq_true rfl⟩) (fun H locs hQ hS => ?_)
                obtain ⟨y_2211, y_2212, hr_2210_0, hr_2210_1, hr_2210_2, hP⟩ := hQ
                exact J_2182 _ _ _ ⟨y_2211, y_2212, _, by omega, by omega, by omega, by omega, hP, hS, lv_sub hl [0, 1, 2] rfl, rfl⟩
              · skip
                refine sy_if_eq (tgt := 63) hx hb dX12_readMark_51 (by decide) (by decide) (fun c_2213 => ?_) (fun c9 => absurd c9 (by decide))
                exact J_2182 _ _ _ ⟨y_2104, y_2105, _, by omega, by omega, by omega, by omega, hP, hS, lv_sub hl [0, 1, 2] rfl, rfl⟩
  · skip
    refine g_v (rDt hD) hS hA (g_V (own := "HideReaderModel") (As := [.int (mI 1)]) (rest := []) hx hb hml hown hts hK hP (rDt hD) (kr_X12_must (l := l) (D := D) (k := k) (by decide) h_x_size h_x_faultKind h_x_faultPlace h_x_at h_x_end h_x_token h_x_number b_B_text g_E) ck_X12_must iv_X12_must uw_8_62 (rv_o hK hP) rfl hl.1 rfl (Nat.le_of_ble_eq_true rfl) dX12_readMark_8 ⟨Nat.le_of_ble_eq_true rfl, Nat.le_of_ble_eq_true rfl⟩ ⟨Nat.le_of_ble_eq_true rfl, Nat.le_of_ble_eq_true rfl⟩) (fun H locs hQ hS => ?_)
    obtain ⟨y_2215, y_2216, y_2217, y_2218, y_2219, y_2220, j_2221, hr_2214_0, hr_2214_1, hr_2214_2, hr_2214_3, hr_2214_4, hr_2214_5, hr_2214_6, hr_2214_7, hr_2214_8, hr_2214_9, kr_2214_E, hP⟩ := hQ
    refine lv_iconst (v := mI 0) hx hb dX12_readMark_11 rfl ?_
    refine lv_istore_n (lv' := [(1, .int (mI 0)), (0, .ref (a 0))]) hx hb dX12_readMark_12 rfl hl (by decide) rfl (fun ls hl => ?_)
    refine lv_iconst (v := mI 1) hx hb dX12_readMark_13 rfl ?_
    refine lv_istore_n (lv' := [(2, .int (mI 1)), (1, .int (mI 0)), (0, .ref (a 0))]) hx hb dX12_readMark_14 rfl hl (by decide) rfl (fun ls hl => ?_)
    refine sy_loop (I := fun n H locs g => ∃ (z_4312 : Int) (z_4313 : Int) (y_4314 : Int) (y_4315 : Int) (y_4316 : Int) (y_4317 : Int) (y_4318 : Int) (y_4319 : Int) (j_4320 : Int64) (ls : Array Slot), (0 ≤ z_4312 ∧ z_4312 ≤ 1) ∧ (0 ≤ z_4313 ∧ z_4313 ≤ 4095) ∧ (0 ≤ y_4314 ∧ y_4314 ≤ 5) ∧ (-1 ≤ y_4315 ∧ y_4315 ≤ 1600) ∧ (0 ≤ y_4316 ∧ y_4316 ≤ 1600) ∧ (0 ≤ y_4317 ∧ y_4317 ≤ 1600) ∧ (0 ≤ y_4318 ∧ y_4318 ≤ 5) ∧ (-2147483648 ≤ y_4319 ∧ y_4319 ≤ 2147483647) ∧ (y_4317 ≤ x_size) ∧ (0 ≤ y_4317 - y_2218) ∧ (0 ≤ y_4314 - y_2215) ∧ (1 ≤ y_4314 ∨ y_4318 ≤ 0 ∨ x_end + 1 ≤ y_4317) ∧ (6 * (1601 - y_4317 + z_4312) - y_4314).toNat = n ∧ va_P D vwCl (rW k a x_taped x_size y_4314 y_4315 y_4316 y_4317 y_4318 y_4319 x_bank x_rb x_codes x_within x_piled x_unitsInRule x_askBeast x_askStroke x_askAge x_askSeason x_acts x_undone x_laid x_seens x_time x_fitting j_4320 B_tape B_text B_turns B_herds B_irons B_beasts B_units B_night B_draw B_told B_brands B_ironMarks B_herdTold B_born B_ruleFrom B_ruleTo B_code B_codeNumber B_eWhat B_eSign B_pile B_all B_burned B_was B_need B_laidRow B_long8 B_brings B_sBurning B_sStroke B_sIs B_sTold B_sUntold B_parts B_boxAll B_isBoxed G_hName G_iName G_bName ex) H ∧ va_S A s.heap H locs ∧ lv_has ls 4 [(2, .int (mI z_4312)), (1, .int (mI z_4313)), (0, .ref (a 0))] ∧ g = F0 m 15 ls []) ?_ _ ⟨1, 0, y_2215, y_2216, y_2217, y_2218, y_2219, y_2220, j_2221, _, by omega, by omega, by omega, by omega, by omega, by omega, by omega, by omega, kr_2214_E, by omega, by omega, by omega, rfl, hP, hS, lv_sub hl [0, 1, 2] rfl, rfl⟩
    intro n_4372 H locs g hI ih_4373
    obtain ⟨z_4312, z_4313, y_4314, y_4315, y_4316, y_4317, y_4318, y_4319, j_4320, ls, h15_0, h15_1, h15_2, h15_3, h15_4, h15_5, h15_6, h15_7, g_4321, h15_9, h15_10, h15_11, mn_4372, hP, hS, hl, rfl⟩ := hI
    refine lv_aload_n hx hb dX12_readMark_15 rfl (lv_at hl 2 rfl) ?_
    refine g_i (rDt hD) hS hA (g_V (own := "HideReaderModel") (As := []) (rest := []) hx hb hml hown hts hK hP (rDt hD) (kr_X12_isGood (l := l) (D := D) (k := k) (by omega)) ck_X12_isGood iv_X12_isGood uw_8_18 (rv_o hK hP) rfl hl.1 rfl (Nat.le_of_ble_eq_true rfl) dX12_readMark_16 ⟨Nat.le_of_ble_eq_true rfl, Nat.le_of_ble_eq_true rfl⟩ ⟨Nat.le_of_ble_eq_true rfl, Nat.le_of_ble_eq_true rfl⟩) (fun r_4374 H locs hQ hS => ?_)
    obtain ⟨hq_r_4374, hP⟩ := hQ
    rcases hq_r_4374 with ⟨rfl, c_4375_0, c_4375_1⟩ | ⟨rfl, c_4376_0⟩
    · skip
      refine sy_if_eq (tgt := 101) hx hb dX12_readMark_19 (by decide) (by decide) (fun c_4377 => ?_) (fun c9 => absurd c9 (by decide))
      refine lv_iload_n hx hb dX12_readMark_101 rfl (lv_at hl 1 rfl) ?_
      exact r_i hx hb hr hlocks dX12_readMark_102 hS ⟨y_4314, y_4315, y_4316, y_4317, y_4318, y_4319, j_4320, by omega, by omega, by omega, by omega, by omega, by omega, by omega, by omega, by omega, by omega, by omega, g_4321, hP⟩
    · skip
      refine sy_if_eq (tgt := 101) hx hb dX12_readMark_19 (by decide) (by decide) (fun c9 => absurd c9 (by decide)) (fun c_4378 => ?_)
      refine lv_iload_n hx hb dX12_readMark_22 rfl (lv_at hl 0 rfl) ?_
      refine sy_if_eq (tgt := 101) hx hb dX12_readMark_23 (by decide) (by omega) (fun c_4379 => ?_) (fun c_4379 => ?_)
      · skip
        refine lv_iload_n hx hb dX12_readMark_101 rfl (lv_at hl 1 rfl) ?_
        exact r_i hx hb hr hlocks dX12_readMark_102 hS ⟨y_4314, y_4315, y_4316, y_4317, y_4318, y_4319, j_4320, by omega, by omega, by omega, by omega, by omega, by omega, by omega, by omega, by omega, by omega, by omega, g_4321, hP⟩
      · skip
        refine lv_aload_n hx hb dX12_readMark_26 rfl (lv_at hl 2 rfl) ?_
        refine rg_o_token hx hb hts hown hK hP uw_7_31 dX12_readMark_27 ?_
        refine lv_iconst (v := mI 4) hx hb dX12_readMark_30 rfl ?_
        refine sy_join (I := fun H locs g => ∃ (y_4390 : Int) (y_4391 : Int) (ls : Array Slot), (0 ≤ y_4390 ∧ y_4390 ≤ 5) ∧ (-1 ≤ y_4391 ∧ y_4391 ≤ 1600) ∧ (y_4314 ≤ y_4390) ∧ (1 ≤ y_4390 ∨ y_4318 ≤ 0 ∨ x_end + 1 ≤ y_4317) ∧ va_P D vwCl (rW k a x_taped x_size y_4390 y_4391 y_4316 y_4317 y_4318 y_4319 x_bank x_rb x_codes x_within x_piled x_unitsInRule x_askBeast x_askStroke x_askAge x_askSeason x_acts x_undone x_laid x_seens x_time x_fitting j_4320 B_tape B_text B_turns B_herds B_irons B_beasts B_units B_night B_draw B_told B_brands B_ironMarks B_herdTold B_born B_ruleFrom B_ruleTo B_code B_codeNumber B_eWhat B_eSign B_pile B_all B_burned B_was B_need B_laidRow B_long8 B_brings B_sBurning B_sStroke B_sIs B_sTold B_sUntold B_parts B_boxAll B_isBoxed G_hName G_iName G_bName ex) H ∧ va_S A s.heap H locs ∧ lv_has ls 4 [(2, .int (mI z_4312)), (1, .int (mI z_4313)), (0, .ref (a 0))] ∧ g = F0 m 63 ls []) ?_ ?_
        · skip
          intro H locs g hI
          obtain ⟨y_4390, y_4391, ls, h63_0, h63_1, h63_2, h63_3, hP, hS, hl, rfl⟩ := hI
          refine lv_aload_n hx hb dX12_readMark_63 rfl (lv_at hl 2 rfl) ?_
          refine lv_iconst (v := mI 0) hx hb dX12_readMark_64 rfl ?_
          refine lv_bipush (v := mI 11) hx hb dX12_readMark_65 (by decide) ?_
          refine g_i (rDt hD) hS hA (g_V (own := "HideReaderModel") (As := [.int (mI 0), .int (mI 11)]) (rest := []) hx hb hml hown hts hK hP (rDt hD) (kr_X12_numeral_v0_11 (l := l) (D := D) (k := k) (by decide) (by decide) h_x_size (by omega) (by omega) (by omega) (by omega) (by omega) (by omega) b_B_text g_4321) ck_X12_numeral iv_X12_numeral uw_8_46 (rv_o hK hP) rfl hl.1 rfl (Nat.le_of_ble_eq_true rfl) dX12_readMark_67 ⟨Nat.le_of_ble_eq_true rfl, Nat.le_of_ble_eq_true rfl⟩ ⟨Nat.le_of_ble_eq_true rfl, Nat.le_of_ble_eq_true rfl⟩) (fun r_4393 H locs hQ hS => ?_)
          obtain ⟨y_4394, y_4395, y_4396, y_4397, y_4398, y_4399, j_4400, hr_4393_0, hr_4393_1, hr_4393_2, hr_4393_3, hr_4393_4, hr_4393_5, hr_4393_6, hr_4393_7, hr_4393_8, hr_4393_9, hr_4393_10, kr_4393_E, hP⟩ := hQ
          refine lv_istore_n (lv' := [(3, .int (mI r_4393)), (2, .int (mI z_4312)), (1, .int (mI z_4313)), (0, .ref (a 0))]) hx hb dX12_readMark_70 rfl hl (by decide) rfl (fun ls hl => ?_)
          refine lv_aload_n hx hb dX12_readMark_71 rfl (lv_at hl 3 rfl) ?_
          refine g_i (rDt hD) hS hA (g_V (own := "HideReaderModel") (As := []) (rest := []) hx hb hml hown hts hK hP (rDt hD) (kr_X12_isGood (l := l) (D := D) (k := k) (by omega)) ck_X12_isGood iv_X12_isGood uw_8_18 (rv_o hK hP) rfl hl.1 rfl (Nat.le_of_ble_eq_true rfl) dX12_readMark_72 ⟨Nat.le_of_ble_eq_true rfl, Nat.le_of_ble_eq_true rfl⟩ ⟨Nat.le_of_ble_eq_true rfl, Nat.le_of_ble_eq_true rfl⟩) (fun r_4401 H locs hQ hS => ?_)
          obtain ⟨hq_r_4401, hP⟩ := hQ
          rcases hq_r_4401 with ⟨rfl, c_4402_0, c_4402_1⟩ | ⟨rfl, c_4403_0⟩
          · skip
            refine sy_if_eq (tgt := 84) hx hb dX12_readMark_75 (by decide) (by decide) (fun c_4405 => ?_) (fun c9 => absurd c9 (by decide))
            refine lv_aload_n hx hb dX12_readMark_84 rfl (lv_at hl 3 rfl) ?_
            refine rg_o_token hx hb hts hown hK hP uw_7_31 dX12_readMark_85 ?_
            refine lv_iconst (v := mI 4) hx hb dX12_readMark_88 rfl ?_
            refine sy_icmp_ne (tgt := 96) hx hb dX12_readMark_89 (by decide) (by omega) (by decide) (fun c_4406 => ?_) (fun c_4406 => ?_)
            · skip
              refine lv_iconst (v := mI 0) hx hb dX12_readMark_96 rfl ?_
              refine lv_istore_n (lv' := [(2, .int (mI 0)), (3, .int (mI r_4393)), (1, .int (mI z_4313)), (0, .ref (a 0))]) hx hb dX12_readMark_97 rfl hl (by decide) rfl (fun ls hl => ?_)
              refine lv_goto (tgt := 15) hx hb dX12_readMark_98 (by decide) ?_
              exact ih_4373 _ _ _ _ (by omega) ⟨0, z_4313, y_4394, y_4395, y_4396, y_4397, y_4398, y_4399, j_4400, _, by omega, by omega, by omega, by omega, by omega, by omega, by omega, by omega, kr_4393_E, by omega, by omega, by omega, rfl, hP, hS, lv_sub hl [0, 2, 3] rfl, rfl⟩
            · skip
              refine lv_iconst (v := mI 1) hx hb dX12_readMark_92 rfl ?_
              refine lv_goto (tgt := 97) hx hb dX12_readMark_93 (by decide) ?_
              refine lv_istore_n (lv' := [(2, .int (mI 1)), (3, .int (mI r_4393)), (1, .int (mI z_4313)), (0, .ref (a 0))]) hx hb dX12_readMark_97 rfl hl (by decide) rfl (fun ls hl => ?_)
              refine lv_goto (tgt := 15) hx hb dX12_readMark_98 (by decide) ?_
              exact ih_4373 _ _ _ _ (by omega) ⟨1, z_4313, y_4394, y_4395, y_4396, y_4397, y_4398, y_4399, j_4400, _, by omega, by omega, by omega, by omega, by omega, by omega, by omega, by omega, kr_4393_E, by omega, by omega, by omega, rfl, hP, hS, lv_sub hl [0, 2, 3] rfl, rfl⟩
          · skip
            refine sy_if_eq (tgt := 84) hx hb dX12_readMark_75 (by decide) (by decide) (fun c9 => absurd c9 (by decide)) (fun c_4410 => ?_)
            refine lv_iload_n hx hb dX12_readMark_78 rfl (lv_at hl 2 rfl) ?_
            refine lv_iconst (v := mI 1) hx hb dX12_readMark_79 rfl ?_
            refine lv_iload_n hx hb dX12_readMark_80 rfl (lv_at hl 0 rfl) ?_
            refine sy_shl1 hx hb dX12_readMark_81 11 (by decide) 2048 (by decide) (by omega) (fun z_4411 ez_4411 hz_4411 => ?_)
            refine sy_ior hx hb dX12_readMark_82 12 (by decide) 4096 (by decide) (by omega) (by omega) (fun z_4412 hz_4412 => ?_)
            refine lv_istore_n (lv' := [(1, .int (mI z_4412)), (3, .int (mI r_4393)), (2, .int (mI z_4312)), (0, .ref (a 0))]) hx hb dX12_readMark_83 rfl hl (by decide) rfl (fun ls hl => ?_)
            refine lv_aload_n hx hb dX12_readMark_84 rfl (lv_at hl 3 rfl) ?_
            refine rg_o_token hx hb hts hown hK hP uw_7_31 dX12_readMark_85 ?_
            refine lv_iconst (v := mI 4) hx hb dX12_readMark_88 rfl ?_
            refine sy_icmp_ne (tgt := 96) hx hb dX12_readMark_89 (by decide) (by omega) (by decide) (fun c_4413 => ?_) (fun c_4413 => ?_)
            · skip
              refine lv_iconst (v := mI 0) hx hb dX12_readMark_96 rfl ?_
              refine lv_istore_n (lv' := [(2, .int (mI 0)), (1, .int (mI z_4412)), (3, .int (mI r_4393)), (0, .ref (a 0))]) hx hb dX12_readMark_97 rfl hl (by decide) rfl (fun ls hl => ?_)
              refine lv_goto (tgt := 15) hx hb dX12_readMark_98 (by decide) ?_
              exact ih_4373 _ _ _ _ (by omega) ⟨0, z_4412, y_4394, y_4395, y_4396, y_4397, y_4398, y_4399, j_4400, _, by omega, by omega, by omega, by omega, by omega, by omega, by omega, by omega, kr_4393_E, by omega, by omega, by omega, rfl, hP, hS, lv_sub hl [0, 1, 3] rfl, rfl⟩
            · skip
              refine lv_iconst (v := mI 1) hx hb dX12_readMark_92 rfl ?_
              refine lv_goto (tgt := 97) hx hb dX12_readMark_93 (by decide) ?_
              refine lv_istore_n (lv' := [(2, .int (mI 1)), (1, .int (mI z_4412)), (3, .int (mI r_4393)), (0, .ref (a 0))]) hx hb dX12_readMark_97 rfl hl (by decide) rfl (fun ls hl => ?_)
              refine lv_goto (tgt := 15) hx hb dX12_readMark_98 (by decide) ?_
              exact ih_4373 _ _ _ _ (by omega) ⟨1, z_4412, y_4394, y_4395, y_4396, y_4397, y_4398, y_4399, j_4400, _, by omega, by omega, by omega, by omega, by omega, by omega, by omega, by omega, kr_4393_E, by omega, by omega, by omega, rfl, hP, hS, lv_sub hl [0, 1, 3] rfl, rfl⟩
        · skip
          intro J_4392
          refine sy_icmp_ne (tgt := 63) hx hb dX12_readMark_31 (by decide) (by omega) (by decide) (fun c_4414 => ?_) (fun c_4414 => ?_)
          · skip
            exact J_4392 _ _ _ ⟨y_4314, y_4315, _, by omega, by omega, by omega, by omega, hP, hS, lv_sub hl [0, 1, 2] rfl, rfl⟩
          · skip
            refine lv_aload_n hx hb dX12_readMark_34 rfl (lv_at hl 2 rfl) ?_
            refine rg_o_number hx hb hts hown hK hP uw_7_32 dX12_readMark_35 ?_
            refine lv_bipush (v := mI 12) hx hb dX12_readMark_38 (by decide) ?_
            refine sy_icmp_ge (tgt := 63) hx hb dX12_readMark_40 (by decide) (by omega) (by decide) (fun c_4415 => ?_) (fun c_4415 => ?_)
            · skip
              exact J_4392 _ _ _ ⟨y_4314, y_4315, _, by omega, by omega, by omega, by omega, hP, hS, lv_sub hl [0, 1, 2] rfl, rfl⟩
            · skip
              refine lv_iload_n hx hb dX12_readMark_43 rfl (lv_at hl 1 rfl) ?_
              refine lv_aload_n hx hb dX12_readMark_44 rfl (lv_at hl 2 rfl) ?_
              refine rg_o_number hx hb hts hown hK hP uw_7_32 dX12_readMark_45 ?_
              refine g_i (rDt hD) hS hA (g_S (own := "HideReaderModel") (As := [.int (mI z_4313), .int (mI y_4319)]) (rest := []) hx hb hml hown hts hK hP (rDt hD) (kr_bit (l := l) (D := D) (k := k)) ck_X12_bit uw_6_229 uw_6_228 rfl hl.1 rfl (Nat.le_of_ble_eq_true rfl) dX12_readMark_48 ⟨Nat.le_of_ble_eq_true rfl, Nat.le_of_ble_eq_true rfl⟩ ⟨Nat.le_of_ble_eq_true rfl, Nat.le_of_ble_eq_true rfl⟩) (fun r_4416 H locs hQ hS => ?_)
              obtain ⟨hq_r_4416, hP⟩ := hQ
              rcases hq_r_4416 with ⟨rfl, c_4417_0⟩ | ⟨rfl, c_4418_0⟩
              · skip
                refine sy_if_eq (tgt := 63) hx hb dX12_readMark_51 (by decide) (by decide) (fun c9 => absurd c9 (by decide)) (fun c_4419 => ?_)
                refine lv_aload_n hx hb dX12_readMark_54 rfl (lv_at hl 2 rfl) ?_
                refine lv_iconst (v := mI 3) hx hb dX12_readMark_55 rfl ?_
                refine lv_aload_n hx hb dX12_readMark_56 rfl (lv_at hl 2 rfl) ?_
                refine rg_o_at hx hb hts hown hK hP uw_7_29 dX12_readMark_57 ?_
                refine g_v (rDt hD) hS hA (g_V (own := "HideReaderModel") (As := [.int (mI 3), .int (mI y_4316)]) (rest := []) hx hb hml hown hts hK hP (rDt hD) (kr_X12_fails (l := l) (D := D) (k := k) (by decide) (by omega) (by omega) (by omega)) ck_X12_fails iv_X12_fails uw_8_38 (rv_o hK hP) rfl hl.1 rfl (Nat.le_of_ble_eq_true rfl) dX12_readMark_60 ⟨Nat.le_of_ble_eq_true rfl, Nat.le_of_ble_eq_true rfl⟩ ⟨Nat.le_of_ble_eq_true rfl, Nat.le_of_ble_eq_true rfl⟩) (fun H locs hQ hS => ?_)
                obtain ⟨y_4421, y_4422, hr_4420_0, hr_4420_1, hr_4420_2, hP⟩ := hQ
                exact J_4392 _ _ _ ⟨y_4421, y_4422, _, by omega, by omega, by omega, by omega, hP, hS, lv_sub hl [0, 1, 2] rfl, rfl⟩
              · skip
                refine sy_if_eq (tgt := 63) hx hb dX12_readMark_51 (by decide) (by decide) (fun c_4423 => ?_) (fun c9 => absurd c9 (by decide))
                exact J_4392 _ _ _ ⟨y_4314, y_4315, _, by omega, by omega, by omega, by omega, hP, hS, lv_sub hl [0, 1, 2] rfl, rfl⟩
set_option maxHeartbeats 4000000 in
set_option maxRecDepth 100000 in
theorem kr_X12_here_o_iName {p1 p2 : Int} (hp1 : 0 ≤ p1 ∧ p1 ≤ 6) (hp2 : 0 ≤ p2 ∧ p2 ≤ 6) (h_x_token : 0 ≤ x_token ∧ x_token ≤ 5) : MetG l D k yX12_here cX12_here 5 (some .int) 0 [.ref (a 0), .ref (a 18), .int (mI p1), .int (mI p2)] (rW k a x_taped x_size x_faultKind x_faultPlace x_at x_end x_token x_number x_bank x_rb x_codes x_within x_piled x_unitsInRule x_askBeast x_askStroke x_askAge x_askSeason x_acts x_undone x_laid x_seens x_time x_fitting n_name B_tape B_text B_turns B_herds B_irons B_beasts B_units B_night B_draw B_told B_brands B_ironMarks B_herdTold B_born B_ruleFrom B_ruleTo B_code B_codeNumber B_eWhat B_eSign B_pile B_all B_burned B_was B_need B_laidRow B_long8 B_brings B_sBurning B_sStroke B_sIs B_sTold B_sUntold B_parts B_boxAll B_isBoxed G_hName G_iName G_bName ex) (qGi (fun r0 H => (-1 ≤ r0 ∧ r0 ≤ 5) ∧ va_P D vwCl (rW k a x_taped x_size x_faultKind x_faultPlace x_at x_end x_token x_number x_bank x_rb x_codes x_within x_piled x_unitsInRule x_askBeast x_askStroke x_askAge x_askSeason x_acts x_undone x_laid x_seens x_time x_fitting n_name B_tape B_text B_turns B_herds B_irons B_beasts B_units B_night B_draw B_told B_brands B_ironMarks B_herdTold B_born B_ruleFrom B_ruleTo B_code B_codeNumber B_eWhat B_eSign B_pile B_all B_burned B_was B_need B_laidRow B_long8 B_brings B_sBurning B_sStroke B_sIs B_sTold B_sUntold B_parts B_boxAll B_isBoxed G_hName G_iName G_bName ex) H)) := by
  refine metG_of 3 ck_X12_here (Nat.le_of_ble_eq_true rfl) rMap (fun p e s m args below meth c A hx hb hml hr hlocks hown hts hK hD hA hP hS ls hl => ?_)
  have hown : s.vm.findClass "HideReaderModel" = some m.cls := hown
  have hl : lv_has ls 5 [(0, .ref (a 0)), (1, .ref (a 18)), (2, .int (mI p1)), (3, .int (mI p2))] := hl
  refine lv_iconst (v := mI 0) hx hb dX12_here_0 rfl ?_
  refine lv_istore (lv' := [(4, .int (mI 0)), (0, .ref (a 0)), (1, .ref (a 18)), (2, .int (mI p1)), (3, .int (mI p2))]) hx hb dX12_here_1 hl (by decide) rfl (fun ls hl => ?_)
  refine sy_loop (I := fun n H locs g => ∃ (z_42 : Int) (ls : Array Slot), (0 ≤ z_42 ∧ z_42 ≤ 6) ∧ (6 - z_42).toNat = n ∧ va_P D vwCl (rW k a x_taped x_size x_faultKind x_faultPlace x_at x_end x_token x_number x_bank x_rb x_codes x_within x_piled x_unitsInRule x_askBeast x_askStroke x_askAge x_askSeason x_acts x_undone x_laid x_seens x_time x_fitting n_name B_tape B_text B_turns B_herds B_irons B_beasts B_units B_night B_draw B_told B_brands B_ironMarks B_herdTold B_born B_ruleFrom B_ruleTo B_code B_codeNumber B_eWhat B_eSign B_pile B_all B_burned B_was B_need B_laidRow B_long8 B_brings B_sBurning B_sStroke B_sIs B_sTold B_sUntold B_parts B_boxAll B_isBoxed G_hName G_iName G_bName ex) H ∧ va_S A s.heap H locs ∧ lv_has ls 5 [(4, .int (mI z_42)), (0, .ref (a 0)), (1, .ref (a 18)), (2, .int (mI p1)), (3, .int (mI p2))] ∧ g = F0 m 3 ls []) ?_ _ ⟨0, _, by omega, rfl, hP, hS, lv_sub hl [0, 1, 2, 3, 4] rfl, rfl⟩
  intro n_48 H locs g hI ih_49
  obtain ⟨z_42, ls, h3_0, mn_48, hP, hS, hl, rfl⟩ := hI
  refine lv_iload hx hb dX12_here_3 (lv_at hl 0 rfl) ?_
  refine lv_iload_n hx hb dX12_here_5 rfl (lv_at hl 4 rfl) ?_
  refine sy_icmp_ge (tgt := 40) hx hb dX12_here_6 (by decide) (by omega) (by omega) (fun c_50 => ?_) (fun c_50 => ?_)
  · skip
    refine lv_iconst (v := mI (-1)) hx hb dX12_here_40 rfl ?_
    exact r_i hx hb hr hlocks dX12_here_41 hS ⟨by omega, hP⟩
  · skip
    refine lv_aload_n hx hb dX12_here_9 rfl (lv_at hl 1 rfl) ?_
    refine rg_o_token hx hb hts hown hK hP uw_7_31 dX12_here_10 ?_
    refine lv_iconst (v := mI 2) hx hb dX12_here_13 rfl ?_
    refine sy_icmp_ne (tgt := 34) hx hb dX12_here_14 (by decide) (by omega) (by decide) (fun c_51 => ?_) (fun c_51 => ?_)
    · skip
      refine lv_iinc (v := mI (z_42 + 1)) (lv' := [(4, .int (mI (z_42 + 1))), (0, .ref (a 0)), (1, .ref (a 18)), (2, .int (mI p1)), (3, .int (mI p2))]) hx hb dX12_here_34 hl (k := 0) rfl (mI_ad rfl) (by decide) rfl (fun ls hl => ?_)
      refine lv_goto (tgt := 3) hx hb dX12_here_37 (by decide) ?_
      exact ih_49 _ _ _ _ (by omega) ⟨(z_42 + 1), _, by omega, rfl, hP, hS, lv_sub hl [0, 1, 2, 3, 4] rfl, rfl⟩
    · skip
      refine lv_aload_n hx hb dX12_here_17 rfl (lv_at hl 2 rfl) ?_
      refine lv_iload_n hx hb dX12_here_18 rfl (lv_at hl 3 rfl) ?_
      refine lv_iload hx hb dX12_here_19 (lv_at hl 0 rfl) ?_
      refine sy_iadd hx hb dX12_here_21 (p1 + z_42) rfl ?_
      refine rl_iName hx hb hK hP dX12_here_22 (by omega) (fun j_52 => ?_)
      refine lv_aload_n hx hb dX12_here_23 rfl (lv_at hl 1 rfl) ?_
      refine rg_o_name hx hb hts hown hK hP uw_7_33 dX12_here_24 ?_
      refine sy_lcmp hx hb dX12_here_27 (fun z_53 hz_53 => ?_)
      refine sy_if_ne (tgt := 34) hx hb dX12_here_28 (by decide) (by omega) (fun c_54 => ?_) (fun c_54 => ?_)
      · skip
        refine lv_iinc (v := mI (z_42 + 1)) (lv' := [(4, .int (mI (z_42 + 1))), (0, .ref (a 0)), (1, .ref (a 18)), (2, .int (mI p1)), (3, .int (mI p2))]) hx hb dX12_here_34 hl (k := 0) rfl (mI_ad rfl) (by decide) rfl (fun ls hl => ?_)
        refine lv_goto (tgt := 3) hx hb dX12_here_37 (by decide) ?_
        exact ih_49 _ _ _ _ (by omega) ⟨(z_42 + 1), _, by omega, rfl, hP, hS, lv_sub hl [0, 1, 2, 3, 4] rfl, rfl⟩
      · skip
        refine lv_iload hx hb dX12_here_31 (lv_at hl 0 rfl) ?_
        exact r_i hx hb hr hlocks dX12_here_33 hS ⟨by omega, hP⟩
set_option maxHeartbeats 4000000 in
set_option maxRecDepth 100000 in
theorem kr_X12_readBeast (h_x_size : 0 ≤ x_size ∧ x_size ≤ 1600) (h_x_faultKind : 0 ≤ x_faultKind ∧ x_faultKind ≤ 5) (h_x_faultPlace : -1 ≤ x_faultPlace ∧ x_faultPlace ≤ 1600) (h_x_at : 0 ≤ x_at ∧ x_at ≤ 1600) (h_x_end : 0 ≤ x_end ∧ x_end ≤ 1600) (h_x_token : 0 ≤ x_token ∧ x_token ≤ 5) (h_x_number : -2147483648 ≤ x_number ∧ x_number ≤ 2147483647) (h_x_rb : 0 ≤ x_rb ∧ x_rb ≤ 1) (b_B_text : bd (-128) 127 B_text) (b_B_herds : bd (0) 8 B_herds) (b_B_beasts : bd (0) 8 B_beasts) (b_B_herdTold : bd (0) 7 B_herdTold) (b_B_born : bd (0) 99 B_born) (g_E : x_end ≤ x_size) (hbe : B_beasts x_rb.toNat ≤ 7) : MetG l D k yX12_readBeast cX12_readBeast 3 none 4 [.ref (a 0)] (rW k a x_taped x_size x_faultKind x_faultPlace x_at x_end x_token x_number x_bank x_rb x_codes x_within x_piled x_unitsInRule x_askBeast x_askStroke x_askAge x_askSeason x_acts x_undone x_laid x_seens x_time x_fitting n_name B_tape B_text B_turns B_herds B_irons B_beasts B_units B_night B_draw B_told B_brands B_ironMarks B_herdTold B_born B_ruleFrom B_ruleTo B_code B_codeNumber B_eWhat B_eSign B_pile B_all B_burned B_was B_need B_laidRow B_long8 B_brings B_sBurning B_sStroke B_sIs B_sTold B_sUntold B_parts B_boxAll B_isBoxed G_hName G_iName G_bName ex) (qGv (fun H => ∃ (y_faultKind : Int) (y_faultPlace : Int) (y_at : Int) (y_end : Int) (y_token : Int) (y_number : Int) (j_name : Int64) (F_beasts : Nat → Int) (F_herdTold : Nat → Int) (F_born : Nat → Int) (G_bName : Nat → Int64), (0 ≤ y_faultKind ∧ y_faultKind ≤ 5) ∧ (-1 ≤ y_faultPlace ∧ y_faultPlace ≤ 1600) ∧ (0 ≤ y_at ∧ y_at ≤ 1600) ∧ (0 ≤ y_end ∧ y_end ≤ 1600) ∧ (0 ≤ y_token ∧ y_token ≤ 5) ∧ (-2147483648 ≤ y_number ∧ y_number ≤ 2147483647) ∧ (bd (0) 8 F_beasts) ∧ (bd (0) 7 F_herdTold) ∧ (bd (0) 99 F_born) ∧ (0 ≤ y_faultKind - x_faultKind) ∧ (1 ≤ y_faultKind ∨ y_token ≤ 0 ∨ x_end + 1 ≤ y_end) ∧ (x_token = 2 ∨ 1 ≤ y_faultKind) ∧ (y_end ≤ x_size) ∧ va_P D vwCl (rW k a x_taped x_size y_faultKind y_faultPlace y_at y_end y_token y_number x_bank x_rb x_codes x_within x_piled x_unitsInRule x_askBeast x_askStroke x_askAge x_askSeason x_acts x_undone x_laid x_seens x_time x_fitting j_name B_tape B_text B_turns B_herds B_irons F_beasts B_units B_night B_draw B_told B_brands B_ironMarks F_herdTold F_born B_ruleFrom B_ruleTo B_code B_codeNumber B_eWhat B_eSign B_pile B_all B_burned B_was B_need B_laidRow B_long8 B_brings B_sBurning B_sStroke B_sIs B_sTold B_sUntold B_parts B_boxAll B_isBoxed G_hName G_iName G_bName ex) H)) := by
  refine metG_of 0 ck_X12_readBeast (Nat.le_of_ble_eq_true rfl) rMap (fun p e s m args below meth c A hx hb hml hr hlocks hown hts hK hD hA hP hS ls hl => ?_)
  have hown : s.vm.findClass "HideReaderModel" = some m.cls := hown
  have hl : lv_has ls 3 [(0, .ref (a 0))] := hl
  refine lv_bipush (v := mI 8) hx hb dX12_readBeast_0 (by decide) ?_
  refine lv_aload_n hx hb dX12_readBeast_2 rfl (lv_at hl 0 rfl) ?_
  refine rg_o_rb hx hb hts hown hK hP uw_7_57 dX12_readBeast_3 ?_
  refine sy_imul hx hb dX12_readBeast_6 (8 * x_rb) rfl ?_
  refine lv_aload_n hx hb dX12_readBeast_7 rfl (lv_at hl 0 rfl) ?_
  refine rg_o_beasts hx hb hts hown hK hP uw_7_37 dX12_readBeast_8 ?_
  refine lv_aload_n hx hb dX12_readBeast_11 rfl (lv_at hl 0 rfl) ?_
  refine rg_o_rb hx hb hts hown hK hP uw_7_57 dX12_readBeast_12 ?_
  refine rl_beasts hx hb hK hP dX12_readBeast_15 (by omega) b_B_beasts (fun z_1 ez_1 hz_1 => ?_)
  refine sy_iadd hx hb dX12_readBeast_16 (8 * x_rb + z_1) rfl ?_
  refine lv_istore_n (lv' := [(1, .int (mI (8 * x_rb + z_1))), (0, .ref (a 0))]) hx hb dX12_readBeast_17 rfl hl (by decide) rfl (fun ls hl => ?_)
  refine lv_aload_n hx hb dX12_readBeast_18 rfl (lv_at hl 1 rfl) ?_
  refine rg_o_bName hx hb hts hown hK hP uw_7_50 dX12_readBeast_19 ?_
  refine lv_iload_n hx hb dX12_readBeast_22 rfl (lv_at hl 0 rfl) ?_
  refine lv_aload_n hx hb dX12_readBeast_23 rfl (lv_at hl 1 rfl) ?_
  refine lv_aload_n hx hb dX12_readBeast_24 rfl (lv_at hl 1 rfl) ?_
  refine lv_aload_n hx hb dX12_readBeast_25 rfl (lv_at hl 1 rfl) ?_
  refine rg_o_bName hx hb hts hown hK hP uw_7_50 dX12_readBeast_26 ?_
  refine lv_bipush (v := mI 8) hx hb dX12_readBeast_29 (by decide) ?_
  refine lv_aload_n hx hb dX12_readBeast_31 rfl (lv_at hl 1 rfl) ?_
  refine rg_o_rb hx hb hts hown hK hP uw_7_57 dX12_readBeast_32 ?_
  refine sy_imul hx hb dX12_readBeast_35 (8 * x_rb) rfl ?_
  refine lv_aload_n hx hb dX12_readBeast_36 rfl (lv_at hl 1 rfl) ?_
  refine rg_o_beasts hx hb hts hown hK hP uw_7_37 dX12_readBeast_37 ?_
  refine lv_aload_n hx hb dX12_readBeast_40 rfl (lv_at hl 1 rfl) ?_
  refine rg_o_rb hx hb hts hown hK hP uw_7_57 dX12_readBeast_41 ?_
  refine rl_beasts hx hb hK hP dX12_readBeast_44 (by omega) b_B_beasts (fun z_2 ez_2 hz_2 => ?_)
  refine g_i (rDt hD) hS hA (g_V (own := "HideReaderModel") (As := [.ref (a 19), .int (mI (8 * x_rb)), .int (mI z_2)]) (rest := [.ref (a 0), .int (mI (8 * x_rb + z_1)), .ref (a 19)]) hx hb hml hown hts hK hP (rDt hD) (kr_X12_here_o_bName (l := l) (D := D) (k := k) (by omega) (by omega) h_x_token) ck_X12_here iv_X12_here uw_8_50 (rv_o hK hP) rfl hl.1 rfl (Nat.le_of_ble_eq_true rfl) dX12_readBeast_45 ⟨Nat.le_of_ble_eq_true rfl, Nat.le_of_ble_eq_true rfl⟩ ⟨Nat.le_of_ble_eq_true rfl, Nat.le_of_ble_eq_true rfl⟩) (fun r_3 H locs hQ hS => ?_)
  obtain ⟨hr_3_0, hP⟩ := hQ
  refine g_l (rDt hD) hS hA (g_V (own := "HideReaderModel") (As := [.int (mI r_3)]) (rest := [.int (mI (8 * x_rb + z_1)), .ref (a 19)]) hx hb hml hown hts hK hP (rDt hD) (kr_X12_newName (l := l) (D := D) (k := k) (by omega) h_x_size h_x_faultKind h_x_faultPlace h_x_at h_x_end h_x_token h_x_number b_B_text g_E) ck_X12_newName iv_X12_newName uw_8_54 (rv_o hK hP) rfl hl.1 rfl (Nat.le_of_ble_eq_true rfl) dX12_readBeast_48 ⟨Nat.le_of_ble_eq_true rfl, Nat.le_of_ble_eq_true rfl⟩ ⟨Nat.le_of_ble_eq_true rfl, Nat.le_of_ble_eq_true rfl⟩) (fun r_4 H locs hQ hS => ?_)
  obtain ⟨y_5, y_6, y_7, y_8, y_9, y_10, j_11, hr_4_0, hr_4_1, hr_4_2, hr_4_3, hr_4_4, hr_4_5, hr_4_6, hr_4_7, hr_4_8, hr_4_9, kr_4_E, hP⟩ := hQ
  refine rs_bName hx hb hK hP hD hS dX12_readBeast_51 (by omega) (fun F_12 H locs hP hS => ?_)
  refine lv_aload_n hx hb dX12_readBeast_52 rfl (lv_at hl 1 rfl) ?_
  refine lv_aload_n hx hb dX12_readBeast_53 rfl (lv_at hl 1 rfl) ?_
  refine lv_ldc2 (own := "HideReaderModel") (v := 28518) hx hb hown (hts _ uw_8_0) dX12_readBeast_54 ?_
  refine g_i (rDt hD) hS hA (g_V (own := "HideReaderModel") (As := [.long 28518]) (rest := [.ref (a 0)]) hx hb hml hown hts hK hP (rDt hD) (kr_X12_isWord (l := l) (D := D) (k := k) (by omega)) ck_X12_isWord iv_X12_isWord uw_8_30 (rv_o hK hP) rfl hl.1 rfl (Nat.le_of_ble_eq_true rfl) dX12_readBeast_57 ⟨Nat.le_of_ble_eq_true rfl, Nat.le_of_ble_eq_true rfl⟩ ⟨Nat.le_of_ble_eq_true rfl, Nat.le_of_ble_eq_true rfl⟩) (fun r_13 H locs hQ hS => ?_)
  obtain ⟨hq_r_13, hP⟩ := hQ
  rcases hq_r_13 with ⟨rfl, c_14_0, c_14_1⟩ | ⟨rfl, c_15_0, c_15_1⟩
  · skip
    refine g_v (rDt hD) hS hA (g_V (own := "HideReaderModel") (As := [.int (mI 0)]) (rest := []) hx hb hml hown hts hK hP (rDt hD) (kr_X12_must (l := l) (D := D) (k := k) (by decide) h_x_size (by omega) (by omega) (by omega) (by omega) (by omega) (by omega) b_B_text kr_4_E) ck_X12_must iv_X12_must uw_8_62 (rv_o hK hP) rfl hl.1 rfl (Nat.le_of_ble_eq_true rfl) dX12_readBeast_60 ⟨Nat.le_of_ble_eq_true rfl, Nat.le_of_ble_eq_true rfl⟩ ⟨Nat.le_of_ble_eq_true rfl, Nat.le_of_ble_eq_true rfl⟩) (fun H locs hQ hS => ?_)
    obtain ⟨y_17, y_18, y_19, y_20, y_21, y_22, j_23, hr_16_0, hr_16_1, hr_16_2, hr_16_3, hr_16_4, hr_16_5, hr_16_6, hr_16_7, hr_16_8, hr_16_9, kr_16_E, hP⟩ := hQ
    refine lv_aload_n hx hb dX12_readBeast_63 rfl (lv_at hl 1 rfl) ?_
    refine g_i (rDt hD) hS hA (g_V (own := "HideReaderModel") (As := []) (rest := []) hx hb hml hown hts hK hP (rDt hD) (kr_X12_isGood (l := l) (D := D) (k := k) (by omega)) ck_X12_isGood iv_X12_isGood uw_8_18 (rv_o hK hP) rfl hl.1 rfl (Nat.le_of_ble_eq_true rfl) dX12_readBeast_64 ⟨Nat.le_of_ble_eq_true rfl, Nat.le_of_ble_eq_true rfl⟩ ⟨Nat.le_of_ble_eq_true rfl, Nat.le_of_ble_eq_true rfl⟩) (fun r_24 H locs hQ hS => ?_)
    obtain ⟨hq_r_24, hP⟩ := hQ
    rcases hq_r_24 with ⟨rfl, c_25_0, c_25_1⟩ | ⟨rfl, c_26_0⟩
    · skip
      refine sy_if_ne (tgt := 71) hx hb dX12_readBeast_67 (by decide) (by decide) (fun c9 => absurd c9 (by decide)) (fun c_27 => ?_)
      exact r_v hx hb hr hlocks dX12_readBeast_70 hS ⟨y_17, y_18, y_19, y_20, y_21, y_22, j_23, B_beasts, B_herdTold, B_born, F_12, by omega, by omega, by omega, by omega, by omega, by omega, b_B_beasts, b_B_herdTold, b_B_born, by omega, by omega, by omega, kr_16_E, hP⟩
    · skip
      refine sy_if_ne (tgt := 71) hx hb dX12_readBeast_67 (by decide) (by decide) (fun c_28 => ?_) (fun c9 => absurd c9 (by decide))
      refine lv_aload_n hx hb dX12_readBeast_71 rfl (lv_at hl 1 rfl) ?_
      refine lv_aload_n hx hb dX12_readBeast_72 rfl (lv_at hl 1 rfl) ?_
      refine rg_o_hName hx hb hts hown hK hP uw_7_48 dX12_readBeast_73 ?_
      refine lv_bipush (v := mI 8) hx hb dX12_readBeast_76 (by decide) ?_
      refine lv_aload_n hx hb dX12_readBeast_78 rfl (lv_at hl 1 rfl) ?_
      refine rg_o_rb hx hb hts hown hK hP uw_7_57 dX12_readBeast_79 ?_
      refine sy_imul hx hb dX12_readBeast_82 (8 * x_rb) rfl ?_
      refine lv_aload_n hx hb dX12_readBeast_83 rfl (lv_at hl 1 rfl) ?_
      refine rg_o_herds hx hb hts hown hK hP uw_7_35 dX12_readBeast_84 ?_
      refine lv_aload_n hx hb dX12_readBeast_87 rfl (lv_at hl 1 rfl) ?_
      refine rg_o_rb hx hb hts hown hK hP uw_7_57 dX12_readBeast_88 ?_
      refine rl_herds hx hb hK hP dX12_readBeast_91 (by omega) b_B_herds (fun z_29 ez_29 hz_29 => ?_)
      refine g_i (rDt hD) hS hA (g_V (own := "HideReaderModel") (As := [.ref (a 17), .int (mI (8 * x_rb)), .int (mI z_29)]) (rest := []) hx hb hml hown hts hK hP (rDt hD) (kr_X12_here_o_hName (l := l) (D := D) (k := k) (by omega) (by omega) (by omega)) ck_X12_here iv_X12_here uw_8_50 (rv_o hK hP) rfl hl.1 rfl (Nat.le_of_ble_eq_true rfl) dX12_readBeast_92 ⟨Nat.le_of_ble_eq_true rfl, Nat.le_of_ble_eq_true rfl⟩ ⟨Nat.le_of_ble_eq_true rfl, Nat.le_of_ble_eq_true rfl⟩) (fun r_30 H locs hQ hS => ?_)
      obtain ⟨hr_30_0, hP⟩ := hQ
      refine lv_istore_n (lv' := [(2, .int (mI r_30)), (1, .int (mI (8 * x_rb + z_1))), (0, .ref (a 0))]) hx hb dX12_readBeast_95 rfl hl (by decide) rfl (fun ls hl => ?_)
      refine lv_aload_n hx hb dX12_readBeast_96 rfl (lv_at hl 2 rfl) ?_
      refine rg_o_token hx hb hts hown hK hP uw_7_31 dX12_readBeast_97 ?_
      refine lv_iconst (v := mI 2) hx hb dX12_readBeast_100 rfl ?_
      refine sy_icmp_eq (tgt := 111) hx hb dX12_readBeast_101 (by decide) (by omega) (by decide) (fun c_31 => ?_) (fun c_31 => ?_)
      · skip
        refine lv_iload_n hx hb dX12_readBeast_111 rfl (lv_at hl 0 rfl) ?_
        refine sy_if_ge (tgt := 124) hx hb dX12_readBeast_112 (by decide) (by omega) (fun c_32 => ?_) (fun c_32 => ?_)
        · skip
          refine lv_aload_n hx hb dX12_readBeast_124 rfl (lv_at hl 2 rfl) ?_
          refine g_i (rDt hD) hS hA (g_V (own := "HideReaderModel") (As := []) (rest := []) hx hb hml hown hts hK hP (rDt hD) (kr_X12_isGood (l := l) (D := D) (k := k) (by omega)) ck_X12_isGood iv_X12_isGood uw_8_18 (rv_o hK hP) rfl hl.1 rfl (Nat.le_of_ble_eq_true rfl) dX12_readBeast_125 ⟨Nat.le_of_ble_eq_true rfl, Nat.le_of_ble_eq_true rfl⟩ ⟨Nat.le_of_ble_eq_true rfl, Nat.le_of_ble_eq_true rfl⟩) (fun r_33 H locs hQ hS => ?_)
          obtain ⟨hq_r_33, hP⟩ := hQ
          rcases hq_r_33 with ⟨rfl, c_34_0, c_34_1⟩ | ⟨rfl, c_35_0⟩
          exact False.elim (by omega)
          · skip
            refine sy_if_ne (tgt := 132) hx hb dX12_readBeast_128 (by decide) (by decide) (fun c_36 => ?_) (fun c9 => absurd c9 (by decide))
            refine lv_aload_n hx hb dX12_readBeast_132 rfl (lv_at hl 2 rfl) ?_
            refine rg_o_herdTold hx hb hts hown hK hP uw_7_44 dX12_readBeast_133 ?_
            refine lv_iload_n hx hb dX12_readBeast_136 rfl (lv_at hl 1 rfl) ?_
            refine lv_iload_n hx hb dX12_readBeast_137 rfl (lv_at hl 0 rfl) ?_
            refine rs_herdTold hx hb hK hP hD hS dX12_readBeast_138 (by omega) b_B_herdTold (by omega) (fun F_37 H locs _ bF_37 hP hS => ?_)
            refine lv_aload_n hx hb dX12_readBeast_139 rfl (lv_at hl 2 rfl) ?_
            refine g_v (rDt hD) hS hA (g_V (own := "HideReaderModel") (As := []) (rest := []) hx hb hml hown hts hK hP (rDt hD) (kr_X12_goOn (l := l) (D := D) (k := k) h_x_size (by omega) (by omega) b_B_text kr_16_E) ck_X12_goOn iv_X12_goOn uw_7_220 (rv_o hK hP) rfl hl.1 rfl (Nat.le_of_ble_eq_true rfl) dX12_readBeast_140 ⟨Nat.le_of_ble_eq_true rfl, Nat.le_of_ble_eq_true rfl⟩ ⟨Nat.le_of_ble_eq_true rfl, Nat.le_of_ble_eq_true rfl⟩) (fun H locs hQ hS => ?_)
            obtain ⟨y_39, y_40, y_41, y_42, j_43, hr_38_0, hr_38_1, hr_38_2, hr_38_3, hr_38_4, hr_38_5, kr_38_E, hP⟩ := hQ
            refine lv_aload_n hx hb dX12_readBeast_143 rfl (lv_at hl 2 rfl) ?_
            refine rg_o_born hx hb hts hown hK hP uw_7_45 dX12_readBeast_144 ?_
            refine lv_iload_n hx hb dX12_readBeast_147 rfl (lv_at hl 1 rfl) ?_
            refine lv_aload_n hx hb dX12_readBeast_148 rfl (lv_at hl 2 rfl) ?_
            refine lv_ldc2 (own := "HideReaderModel") (v := 1651470958) hx hb hown (hts _ uw_8_1) dX12_readBeast_149 ?_
            refine g_i (rDt hD) hS hA (g_V (own := "HideReaderModel") (As := [.long 1651470958]) (rest := [.int (mI (8 * x_rb + z_1)), .ref (a 14)]) hx hb hml hown hts hK hP (rDt hD) (kr_X12_isWord (l := l) (D := D) (k := k) (by omega)) ck_X12_isWord iv_X12_isWord uw_8_30 (rv_o hK hP) rfl hl.1 rfl (Nat.le_of_ble_eq_true rfl) dX12_readBeast_152 ⟨Nat.le_of_ble_eq_true rfl, Nat.le_of_ble_eq_true rfl⟩ ⟨Nat.le_of_ble_eq_true rfl, Nat.le_of_ble_eq_true rfl⟩) (fun r_44 H locs hQ hS => ?_)
            obtain ⟨hq_r_44, hP⟩ := hQ
            rcases hq_r_44 with ⟨rfl, c_45_0, c_45_1⟩ | ⟨rfl, c_46_0, c_46_1⟩
            · skip
              refine sy_if_eq (tgt := 171) hx hb dX12_readBeast_155 (by decide) (by decide) (fun c_48 => ?_) (fun c9 => absurd c9 (by decide))
              refine lv_iconst (v := mI 0) hx hb dX12_readBeast_171 rfl ?_
              refine rs_born hx hb hK hP hD hS dX12_readBeast_172 (by omega) b_B_born (by omega) (fun F_49 H locs _ bF_49 hP hS => ?_)
              refine lv_aload_n hx hb dX12_readBeast_173 rfl (lv_at hl 2 rfl) ?_
              refine rg_o_beasts hx hb hts hown hK hP uw_7_37 dX12_readBeast_174 ?_
              refine lv_aload_n hx hb dX12_readBeast_177 rfl (lv_at hl 2 rfl) ?_
              refine rg_o_rb hx hb hts hown hK hP uw_7_57 dX12_readBeast_178 ?_
              refine lv_dup2_11 hx hb dX12_readBeast_181 rfl rfl ?_
              refine rl_beasts hx hb hK hP dX12_readBeast_182 (by omega) b_B_beasts (fun z_50 ez_50 hz_50 => ?_)
              refine lv_iconst (v := mI 1) hx hb dX12_readBeast_183 rfl ?_
              refine sy_iadd hx hb dX12_readBeast_184 (z_50 + 1) rfl ?_
              refine rs_beasts hx hb hK hP hD hS dX12_readBeast_185 (by omega) b_B_beasts (by omega) (fun F_51 H locs _ bF_51 hP hS => ?_)
              exact r_v hx hb hr hlocks dX12_readBeast_186 hS ⟨y_17, y_18, y_39, y_40, y_41, y_42, j_43, F_51, F_37, F_49, F_12, by omega, by omega, by omega, by omega, by omega, by omega, bF_51, bF_37, bF_49, by omega, by omega, by omega, kr_38_E, hP⟩
            · skip
              refine sy_if_eq (tgt := 171) hx hb dX12_readBeast_155 (by decide) (by decide) (fun c9 => absurd c9 (by decide)) (fun c_61 => ?_)
              refine lv_aload_n hx hb dX12_readBeast_158 rfl (lv_at hl 2 rfl) ?_
              refine lv_ldc2 (own := "HideReaderModel") (v := 1651470958) hx hb hown (hts _ uw_8_1) dX12_readBeast_159 ?_
              refine lv_iconst (v := mI 0) hx hb dX12_readBeast_162 rfl ?_
              refine lv_bipush (v := mI 99) hx hb dX12_readBeast_163 (by decide) ?_
              refine g_i (rDt hD) hS hA (g_V (own := "HideReaderModel") (As := [.long 1651470958, .int (mI 0), .int (mI 99)]) (rest := [.int (mI (8 * x_rb + z_1)), .ref (a 14)]) hx hb hml hown hts hK hP (rDt hD) (kr_X12_after (l := l) (D := D) (k := k) (by decide) (by decide) h_x_size (by omega) (by omega) (by omega) (by omega) (by omega) (by omega) b_B_text kr_38_E) ck_X12_after iv_X12_after uw_8_70 (rv_o hK hP) rfl hl.1 rfl (Nat.le_of_ble_eq_true rfl) dX12_readBeast_165 ⟨Nat.le_of_ble_eq_true rfl, Nat.le_of_ble_eq_true rfl⟩ ⟨Nat.le_of_ble_eq_true rfl, Nat.le_of_ble_eq_true rfl⟩) (fun r_62 H locs hQ hS => ?_)
              obtain ⟨y_63, y_64, y_65, y_66, y_67, y_68, j_69, hr_62_0, hr_62_1, hr_62_2, hr_62_3, hr_62_4, hr_62_5, hr_62_6, hr_62_7, hr_62_8, hr_62_9, hr_62_10, kr_62_E, hP⟩ := hQ
              refine lv_goto (tgt := 172) hx hb dX12_readBeast_168 (by decide) ?_
              refine rs_born hx hb hK hP hD hS dX12_readBeast_172 (by omega) b_B_born (by omega) (fun F_70 H locs _ bF_70 hP hS => ?_)
              refine lv_aload_n hx hb dX12_readBeast_173 rfl (lv_at hl 2 rfl) ?_
              refine rg_o_beasts hx hb hts hown hK hP uw_7_37 dX12_readBeast_174 ?_
              refine lv_aload_n hx hb dX12_readBeast_177 rfl (lv_at hl 2 rfl) ?_
              refine rg_o_rb hx hb hts hown hK hP uw_7_57 dX12_readBeast_178 ?_
              refine lv_dup2_11 hx hb dX12_readBeast_181 rfl rfl ?_
              refine rl_beasts hx hb hK hP dX12_readBeast_182 (by omega) b_B_beasts (fun z_71 ez_71 hz_71 => ?_)
              refine lv_iconst (v := mI 1) hx hb dX12_readBeast_183 rfl ?_
              refine sy_iadd hx hb dX12_readBeast_184 (z_71 + 1) rfl ?_
              refine rs_beasts hx hb hK hP hD hS dX12_readBeast_185 (by omega) b_B_beasts (by omega) (fun F_72 H locs _ bF_72 hP hS => ?_)
              exact r_v hx hb hr hlocks dX12_readBeast_186 hS ⟨y_63, y_64, y_65, y_66, y_67, y_68, j_69, F_72, F_37, F_70, F_12, by omega, by omega, by omega, by omega, by omega, by omega, bF_72, bF_37, bF_70, by omega, by omega, by omega, kr_62_E, hP⟩
        · skip
          refine lv_aload_n hx hb dX12_readBeast_115 rfl (lv_at hl 2 rfl) ?_
          refine lv_iconst (v := mI 5) hx hb dX12_readBeast_116 rfl ?_
          refine lv_aload_n hx hb dX12_readBeast_117 rfl (lv_at hl 2 rfl) ?_
          refine rg_o_at hx hb hts hown hK hP uw_7_29 dX12_readBeast_118 ?_
          refine g_v (rDt hD) hS hA (g_V (own := "HideReaderModel") (As := [.int (mI 5), .int (mI y_19)]) (rest := []) hx hb hml hown hts hK hP (rDt hD) (kr_X12_fails (l := l) (D := D) (k := k) (by decide) (by omega) (by omega) (by omega)) ck_X12_fails iv_X12_fails uw_8_38 (rv_o hK hP) rfl hl.1 rfl (Nat.le_of_ble_eq_true rfl) dX12_readBeast_121 ⟨Nat.le_of_ble_eq_true rfl, Nat.le_of_ble_eq_true rfl⟩ ⟨Nat.le_of_ble_eq_true rfl, Nat.le_of_ble_eq_true rfl⟩) (fun H locs hQ hS => ?_)
          obtain ⟨y_74, y_75, hr_73_0, hr_73_1, hr_73_2, hP⟩ := hQ
          refine lv_aload_n hx hb dX12_readBeast_124 rfl (lv_at hl 2 rfl) ?_
          refine g_i (rDt hD) hS hA (g_V (own := "HideReaderModel") (As := []) (rest := []) hx hb hml hown hts hK hP (rDt hD) (kr_X12_isGood (l := l) (D := D) (k := k) (by omega)) ck_X12_isGood iv_X12_isGood uw_8_18 (rv_o hK hP) rfl hl.1 rfl (Nat.le_of_ble_eq_true rfl) dX12_readBeast_125 ⟨Nat.le_of_ble_eq_true rfl, Nat.le_of_ble_eq_true rfl⟩ ⟨Nat.le_of_ble_eq_true rfl, Nat.le_of_ble_eq_true rfl⟩) (fun r_76 H locs hQ hS => ?_)
          obtain ⟨hq_r_76, hP⟩ := hQ
          rcases hq_r_76 with ⟨rfl, c_77_0, c_77_1⟩ | ⟨rfl, c_78_0⟩
          · skip
            refine sy_if_ne (tgt := 132) hx hb dX12_readBeast_128 (by decide) (by decide) (fun c9 => absurd c9 (by decide)) (fun c_79 => ?_)
            exact r_v hx hb hr hlocks dX12_readBeast_131 hS ⟨y_74, y_75, y_19, y_20, y_21, y_22, j_23, B_beasts, B_herdTold, B_born, F_12, by omega, by omega, by omega, by omega, by omega, by omega, b_B_beasts, b_B_herdTold, b_B_born, by omega, by omega, by omega, kr_16_E, hP⟩
          exact False.elim (by omega)
      · skip
        refine lv_aload_n hx hb dX12_readBeast_104 rfl (lv_at hl 2 rfl) ?_
        refine g_v (rDt hD) hS hA (g_V (own := "HideReaderModel") (As := []) (rest := []) hx hb hml hown hts hK hP (rDt hD) (kr_X12_misplaced (l := l) (D := D) (k := k) (by omega) (by omega) (by omega) (by omega)) ck_X12_misplaced iv_X12_misplaced uw_8_34 (rv_o hK hP) rfl hl.1 rfl (Nat.le_of_ble_eq_true rfl) dX12_readBeast_105 ⟨Nat.le_of_ble_eq_true rfl, Nat.le_of_ble_eq_true rfl⟩ ⟨Nat.le_of_ble_eq_true rfl, Nat.le_of_ble_eq_true rfl⟩) (fun H locs hQ hS => ?_)
        obtain ⟨y_81, y_82, hr_80_0, hr_80_1, hr_80_2, hP⟩ := hQ
        refine lv_goto (tgt := 124) hx hb dX12_readBeast_108 (by decide) ?_
        refine lv_aload_n hx hb dX12_readBeast_124 rfl (lv_at hl 2 rfl) ?_
        refine g_i (rDt hD) hS hA (g_V (own := "HideReaderModel") (As := []) (rest := []) hx hb hml hown hts hK hP (rDt hD) (kr_X12_isGood (l := l) (D := D) (k := k) (by omega)) ck_X12_isGood iv_X12_isGood uw_8_18 (rv_o hK hP) rfl hl.1 rfl (Nat.le_of_ble_eq_true rfl) dX12_readBeast_125 ⟨Nat.le_of_ble_eq_true rfl, Nat.le_of_ble_eq_true rfl⟩ ⟨Nat.le_of_ble_eq_true rfl, Nat.le_of_ble_eq_true rfl⟩) (fun r_83 H locs hQ hS => ?_)
        obtain ⟨hq_r_83, hP⟩ := hQ
        rcases hq_r_83 with ⟨rfl, c_84_0, c_84_1⟩ | ⟨rfl, c_85_0⟩
        · skip
          refine sy_if_ne (tgt := 132) hx hb dX12_readBeast_128 (by decide) (by decide) (fun c9 => absurd c9 (by decide)) (fun c_86 => ?_)
          exact r_v hx hb hr hlocks dX12_readBeast_131 hS ⟨y_81, y_82, y_19, y_20, y_21, y_22, j_23, B_beasts, B_herdTold, B_born, F_12, by omega, by omega, by omega, by omega, by omega, by omega, b_B_beasts, b_B_herdTold, b_B_born, by omega, by omega, by omega, kr_16_E, hP⟩
        exact False.elim (by omega)
  · skip
    refine g_v (rDt hD) hS hA (g_V (own := "HideReaderModel") (As := [.int (mI 1)]) (rest := []) hx hb hml hown hts hK hP (rDt hD) (kr_X12_must (l := l) (D := D) (k := k) (by decide) h_x_size (by omega) (by omega) (by omega) (by omega) (by omega) (by omega) b_B_text kr_4_E) ck_X12_must iv_X12_must uw_8_62 (rv_o hK hP) rfl hl.1 rfl (Nat.le_of_ble_eq_true rfl) dX12_readBeast_60 ⟨Nat.le_of_ble_eq_true rfl, Nat.le_of_ble_eq_true rfl⟩ ⟨Nat.le_of_ble_eq_true rfl, Nat.le_of_ble_eq_true rfl⟩) (fun H locs hQ hS => ?_)
    obtain ⟨y_88, y_89, y_90, y_91, y_92, y_93, j_94, hr_87_0, hr_87_1, hr_87_2, hr_87_3, hr_87_4, hr_87_5, hr_87_6, hr_87_7, hr_87_8, hr_87_9, kr_87_E, hP⟩ := hQ
    refine lv_aload_n hx hb dX12_readBeast_63 rfl (lv_at hl 1 rfl) ?_
    refine g_i (rDt hD) hS hA (g_V (own := "HideReaderModel") (As := []) (rest := []) hx hb hml hown hts hK hP (rDt hD) (kr_X12_isGood (l := l) (D := D) (k := k) (by omega)) ck_X12_isGood iv_X12_isGood uw_8_18 (rv_o hK hP) rfl hl.1 rfl (Nat.le_of_ble_eq_true rfl) dX12_readBeast_64 ⟨Nat.le_of_ble_eq_true rfl, Nat.le_of_ble_eq_true rfl⟩ ⟨Nat.le_of_ble_eq_true rfl, Nat.le_of_ble_eq_true rfl⟩) (fun r_95 H locs hQ hS => ?_)
    obtain ⟨hq_r_95, hP⟩ := hQ
    rcases hq_r_95 with ⟨rfl, c_96_0, c_96_1⟩ | ⟨rfl, c_97_0⟩
    · skip
      refine sy_if_ne (tgt := 71) hx hb dX12_readBeast_67 (by decide) (by decide) (fun c9 => absurd c9 (by decide)) (fun c_98 => ?_)
      exact r_v hx hb hr hlocks dX12_readBeast_70 hS ⟨y_88, y_89, y_90, y_91, y_92, y_93, j_94, B_beasts, B_herdTold, B_born, F_12, by omega, by omega, by omega, by omega, by omega, by omega, b_B_beasts, b_B_herdTold, b_B_born, by omega, by omega, by omega, kr_87_E, hP⟩
    · skip
      refine sy_if_ne (tgt := 71) hx hb dX12_readBeast_67 (by decide) (by decide) (fun c_99 => ?_) (fun c9 => absurd c9 (by decide))
      refine lv_aload_n hx hb dX12_readBeast_71 rfl (lv_at hl 1 rfl) ?_
      refine lv_aload_n hx hb dX12_readBeast_72 rfl (lv_at hl 1 rfl) ?_
      refine rg_o_hName hx hb hts hown hK hP uw_7_48 dX12_readBeast_73 ?_
      refine lv_bipush (v := mI 8) hx hb dX12_readBeast_76 (by decide) ?_
      refine lv_aload_n hx hb dX12_readBeast_78 rfl (lv_at hl 1 rfl) ?_
      refine rg_o_rb hx hb hts hown hK hP uw_7_57 dX12_readBeast_79 ?_
      refine sy_imul hx hb dX12_readBeast_82 (8 * x_rb) rfl ?_
      refine lv_aload_n hx hb dX12_readBeast_83 rfl (lv_at hl 1 rfl) ?_
      refine rg_o_herds hx hb hts hown hK hP uw_7_35 dX12_readBeast_84 ?_
      refine lv_aload_n hx hb dX12_readBeast_87 rfl (lv_at hl 1 rfl) ?_
      refine rg_o_rb hx hb hts hown hK hP uw_7_57 dX12_readBeast_88 ?_
      refine rl_herds hx hb hK hP dX12_readBeast_91 (by omega) b_B_herds (fun z_100 ez_100 hz_100 => ?_)
      refine g_i (rDt hD) hS hA (g_V (own := "HideReaderModel") (As := [.ref (a 17), .int (mI (8 * x_rb)), .int (mI z_100)]) (rest := []) hx hb hml hown hts hK hP (rDt hD) (kr_X12_here_o_hName (l := l) (D := D) (k := k) (by omega) (by omega) (by omega)) ck_X12_here iv_X12_here uw_8_50 (rv_o hK hP) rfl hl.1 rfl (Nat.le_of_ble_eq_true rfl) dX12_readBeast_92 ⟨Nat.le_of_ble_eq_true rfl, Nat.le_of_ble_eq_true rfl⟩ ⟨Nat.le_of_ble_eq_true rfl, Nat.le_of_ble_eq_true rfl⟩) (fun r_101 H locs hQ hS => ?_)
      obtain ⟨hr_101_0, hP⟩ := hQ
      refine lv_istore_n (lv' := [(2, .int (mI r_101)), (1, .int (mI (8 * x_rb + z_1))), (0, .ref (a 0))]) hx hb dX12_readBeast_95 rfl hl (by decide) rfl (fun ls hl => ?_)
      refine lv_aload_n hx hb dX12_readBeast_96 rfl (lv_at hl 2 rfl) ?_
      refine rg_o_token hx hb hts hown hK hP uw_7_31 dX12_readBeast_97 ?_
      refine lv_iconst (v := mI 2) hx hb dX12_readBeast_100 rfl ?_
      refine sy_icmp_eq (tgt := 111) hx hb dX12_readBeast_101 (by decide) (by omega) (by decide) (fun c_102 => ?_) (fun c_102 => ?_)
      · skip
        refine lv_iload_n hx hb dX12_readBeast_111 rfl (lv_at hl 0 rfl) ?_
        refine sy_if_ge (tgt := 124) hx hb dX12_readBeast_112 (by decide) (by omega) (fun c_103 => ?_) (fun c_103 => ?_)
        · skip
          refine lv_aload_n hx hb dX12_readBeast_124 rfl (lv_at hl 2 rfl) ?_
          refine g_i (rDt hD) hS hA (g_V (own := "HideReaderModel") (As := []) (rest := []) hx hb hml hown hts hK hP (rDt hD) (kr_X12_isGood (l := l) (D := D) (k := k) (by omega)) ck_X12_isGood iv_X12_isGood uw_8_18 (rv_o hK hP) rfl hl.1 rfl (Nat.le_of_ble_eq_true rfl) dX12_readBeast_125 ⟨Nat.le_of_ble_eq_true rfl, Nat.le_of_ble_eq_true rfl⟩ ⟨Nat.le_of_ble_eq_true rfl, Nat.le_of_ble_eq_true rfl⟩) (fun r_104 H locs hQ hS => ?_)
          obtain ⟨hq_r_104, hP⟩ := hQ
          rcases hq_r_104 with ⟨rfl, c_105_0, c_105_1⟩ | ⟨rfl, c_106_0⟩
          exact False.elim (by omega)
          · skip
            refine sy_if_ne (tgt := 132) hx hb dX12_readBeast_128 (by decide) (by decide) (fun c_107 => ?_) (fun c9 => absurd c9 (by decide))
            refine lv_aload_n hx hb dX12_readBeast_132 rfl (lv_at hl 2 rfl) ?_
            refine rg_o_herdTold hx hb hts hown hK hP uw_7_44 dX12_readBeast_133 ?_
            refine lv_iload_n hx hb dX12_readBeast_136 rfl (lv_at hl 1 rfl) ?_
            refine lv_iload_n hx hb dX12_readBeast_137 rfl (lv_at hl 0 rfl) ?_
            refine rs_herdTold hx hb hK hP hD hS dX12_readBeast_138 (by omega) b_B_herdTold (by omega) (fun F_108 H locs _ bF_108 hP hS => ?_)
            refine lv_aload_n hx hb dX12_readBeast_139 rfl (lv_at hl 2 rfl) ?_
            refine g_v (rDt hD) hS hA (g_V (own := "HideReaderModel") (As := []) (rest := []) hx hb hml hown hts hK hP (rDt hD) (kr_X12_goOn (l := l) (D := D) (k := k) h_x_size (by omega) (by omega) b_B_text kr_87_E) ck_X12_goOn iv_X12_goOn uw_7_220 (rv_o hK hP) rfl hl.1 rfl (Nat.le_of_ble_eq_true rfl) dX12_readBeast_140 ⟨Nat.le_of_ble_eq_true rfl, Nat.le_of_ble_eq_true rfl⟩ ⟨Nat.le_of_ble_eq_true rfl, Nat.le_of_ble_eq_true rfl⟩) (fun H locs hQ hS => ?_)
            obtain ⟨y_110, y_111, y_112, y_113, j_114, hr_109_0, hr_109_1, hr_109_2, hr_109_3, hr_109_4, hr_109_5, kr_109_E, hP⟩ := hQ
            refine lv_aload_n hx hb dX12_readBeast_143 rfl (lv_at hl 2 rfl) ?_
            refine rg_o_born hx hb hts hown hK hP uw_7_45 dX12_readBeast_144 ?_
            refine lv_iload_n hx hb dX12_readBeast_147 rfl (lv_at hl 1 rfl) ?_
            refine lv_aload_n hx hb dX12_readBeast_148 rfl (lv_at hl 2 rfl) ?_
            refine lv_ldc2 (own := "HideReaderModel") (v := 1651470958) hx hb hown (hts _ uw_8_1) dX12_readBeast_149 ?_
            refine g_i (rDt hD) hS hA (g_V (own := "HideReaderModel") (As := [.long 1651470958]) (rest := [.int (mI (8 * x_rb + z_1)), .ref (a 14)]) hx hb hml hown hts hK hP (rDt hD) (kr_X12_isWord (l := l) (D := D) (k := k) (by omega)) ck_X12_isWord iv_X12_isWord uw_8_30 (rv_o hK hP) rfl hl.1 rfl (Nat.le_of_ble_eq_true rfl) dX12_readBeast_152 ⟨Nat.le_of_ble_eq_true rfl, Nat.le_of_ble_eq_true rfl⟩ ⟨Nat.le_of_ble_eq_true rfl, Nat.le_of_ble_eq_true rfl⟩) (fun r_115 H locs hQ hS => ?_)
            obtain ⟨hq_r_115, hP⟩ := hQ
            rcases hq_r_115 with ⟨rfl, c_116_0, c_116_1⟩ | ⟨rfl, c_117_0, c_117_1⟩
            · skip
              refine sy_if_eq (tgt := 171) hx hb dX12_readBeast_155 (by decide) (by decide) (fun c_119 => ?_) (fun c9 => absurd c9 (by decide))
              refine lv_iconst (v := mI 0) hx hb dX12_readBeast_171 rfl ?_
              refine rs_born hx hb hK hP hD hS dX12_readBeast_172 (by omega) b_B_born (by omega) (fun F_120 H locs _ bF_120 hP hS => ?_)
              refine lv_aload_n hx hb dX12_readBeast_173 rfl (lv_at hl 2 rfl) ?_
              refine rg_o_beasts hx hb hts hown hK hP uw_7_37 dX12_readBeast_174 ?_
              refine lv_aload_n hx hb dX12_readBeast_177 rfl (lv_at hl 2 rfl) ?_
              refine rg_o_rb hx hb hts hown hK hP uw_7_57 dX12_readBeast_178 ?_
              refine lv_dup2_11 hx hb dX12_readBeast_181 rfl rfl ?_
              refine rl_beasts hx hb hK hP dX12_readBeast_182 (by omega) b_B_beasts (fun z_121 ez_121 hz_121 => ?_)
              refine lv_iconst (v := mI 1) hx hb dX12_readBeast_183 rfl ?_
              refine sy_iadd hx hb dX12_readBeast_184 (z_121 + 1) rfl ?_
              refine rs_beasts hx hb hK hP hD hS dX12_readBeast_185 (by omega) b_B_beasts (by omega) (fun F_122 H locs _ bF_122 hP hS => ?_)
              exact r_v hx hb hr hlocks dX12_readBeast_186 hS ⟨y_88, y_89, y_110, y_111, y_112, y_113, j_114, F_122, F_108, F_120, F_12, by omega, by omega, by omega, by omega, by omega, by omega, bF_122, bF_108, bF_120, by omega, by omega, by omega, kr_109_E, hP⟩
            · skip
              refine sy_if_eq (tgt := 171) hx hb dX12_readBeast_155 (by decide) (by decide) (fun c9 => absurd c9 (by decide)) (fun c_132 => ?_)
              refine lv_aload_n hx hb dX12_readBeast_158 rfl (lv_at hl 2 rfl) ?_
              refine lv_ldc2 (own := "HideReaderModel") (v := 1651470958) hx hb hown (hts _ uw_8_1) dX12_readBeast_159 ?_
              refine lv_iconst (v := mI 0) hx hb dX12_readBeast_162 rfl ?_
              refine lv_bipush (v := mI 99) hx hb dX12_readBeast_163 (by decide) ?_
              refine g_i (rDt hD) hS hA (g_V (own := "HideReaderModel") (As := [.long 1651470958, .int (mI 0), .int (mI 99)]) (rest := [.int (mI (8 * x_rb + z_1)), .ref (a 14)]) hx hb hml hown hts hK hP (rDt hD) (kr_X12_after (l := l) (D := D) (k := k) (by decide) (by decide) h_x_size (by omega) (by omega) (by omega) (by omega) (by omega) (by omega) b_B_text kr_109_E) ck_X12_after iv_X12_after uw_8_70 (rv_o hK hP) rfl hl.1 rfl (Nat.le_of_ble_eq_true rfl) dX12_readBeast_165 ⟨Nat.le_of_ble_eq_true rfl, Nat.le_of_ble_eq_true rfl⟩ ⟨Nat.le_of_ble_eq_true rfl, Nat.le_of_ble_eq_true rfl⟩) (fun r_133 H locs hQ hS => ?_)
              obtain ⟨y_134, y_135, y_136, y_137, y_138, y_139, j_140, hr_133_0, hr_133_1, hr_133_2, hr_133_3, hr_133_4, hr_133_5, hr_133_6, hr_133_7, hr_133_8, hr_133_9, hr_133_10, kr_133_E, hP⟩ := hQ
              refine lv_goto (tgt := 172) hx hb dX12_readBeast_168 (by decide) ?_
              refine rs_born hx hb hK hP hD hS dX12_readBeast_172 (by omega) b_B_born (by omega) (fun F_141 H locs _ bF_141 hP hS => ?_)
              refine lv_aload_n hx hb dX12_readBeast_173 rfl (lv_at hl 2 rfl) ?_
              refine rg_o_beasts hx hb hts hown hK hP uw_7_37 dX12_readBeast_174 ?_
              refine lv_aload_n hx hb dX12_readBeast_177 rfl (lv_at hl 2 rfl) ?_
              refine rg_o_rb hx hb hts hown hK hP uw_7_57 dX12_readBeast_178 ?_
              refine lv_dup2_11 hx hb dX12_readBeast_181 rfl rfl ?_
              refine rl_beasts hx hb hK hP dX12_readBeast_182 (by omega) b_B_beasts (fun z_142 ez_142 hz_142 => ?_)
              refine lv_iconst (v := mI 1) hx hb dX12_readBeast_183 rfl ?_
              refine sy_iadd hx hb dX12_readBeast_184 (z_142 + 1) rfl ?_
              refine rs_beasts hx hb hK hP hD hS dX12_readBeast_185 (by omega) b_B_beasts (by omega) (fun F_143 H locs _ bF_143 hP hS => ?_)
              exact r_v hx hb hr hlocks dX12_readBeast_186 hS ⟨y_134, y_135, y_136, y_137, y_138, y_139, j_140, F_143, F_108, F_141, F_12, by omega, by omega, by omega, by omega, by omega, by omega, bF_143, bF_108, bF_141, by omega, by omega, by omega, kr_133_E, hP⟩
        · skip
          refine lv_aload_n hx hb dX12_readBeast_115 rfl (lv_at hl 2 rfl) ?_
          refine lv_iconst (v := mI 5) hx hb dX12_readBeast_116 rfl ?_
          refine lv_aload_n hx hb dX12_readBeast_117 rfl (lv_at hl 2 rfl) ?_
          refine rg_o_at hx hb hts hown hK hP uw_7_29 dX12_readBeast_118 ?_
          refine g_v (rDt hD) hS hA (g_V (own := "HideReaderModel") (As := [.int (mI 5), .int (mI y_90)]) (rest := []) hx hb hml hown hts hK hP (rDt hD) (kr_X12_fails (l := l) (D := D) (k := k) (by decide) (by omega) (by omega) (by omega)) ck_X12_fails iv_X12_fails uw_8_38 (rv_o hK hP) rfl hl.1 rfl (Nat.le_of_ble_eq_true rfl) dX12_readBeast_121 ⟨Nat.le_of_ble_eq_true rfl, Nat.le_of_ble_eq_true rfl⟩ ⟨Nat.le_of_ble_eq_true rfl, Nat.le_of_ble_eq_true rfl⟩) (fun H locs hQ hS => ?_)
          obtain ⟨y_145, y_146, hr_144_0, hr_144_1, hr_144_2, hP⟩ := hQ
          refine lv_aload_n hx hb dX12_readBeast_124 rfl (lv_at hl 2 rfl) ?_
          refine g_i (rDt hD) hS hA (g_V (own := "HideReaderModel") (As := []) (rest := []) hx hb hml hown hts hK hP (rDt hD) (kr_X12_isGood (l := l) (D := D) (k := k) (by omega)) ck_X12_isGood iv_X12_isGood uw_8_18 (rv_o hK hP) rfl hl.1 rfl (Nat.le_of_ble_eq_true rfl) dX12_readBeast_125 ⟨Nat.le_of_ble_eq_true rfl, Nat.le_of_ble_eq_true rfl⟩ ⟨Nat.le_of_ble_eq_true rfl, Nat.le_of_ble_eq_true rfl⟩) (fun r_147 H locs hQ hS => ?_)
          obtain ⟨hq_r_147, hP⟩ := hQ
          rcases hq_r_147 with ⟨rfl, c_148_0, c_148_1⟩ | ⟨rfl, c_149_0⟩
          · skip
            refine sy_if_ne (tgt := 132) hx hb dX12_readBeast_128 (by decide) (by decide) (fun c9 => absurd c9 (by decide)) (fun c_150 => ?_)
            exact r_v hx hb hr hlocks dX12_readBeast_131 hS ⟨y_145, y_146, y_90, y_91, y_92, y_93, j_94, B_beasts, B_herdTold, B_born, F_12, by omega, by omega, by omega, by omega, by omega, by omega, b_B_beasts, b_B_herdTold, b_B_born, by omega, by omega, by omega, kr_87_E, hP⟩
          exact False.elim (by omega)
      · skip
        refine lv_aload_n hx hb dX12_readBeast_104 rfl (lv_at hl 2 rfl) ?_
        refine g_v (rDt hD) hS hA (g_V (own := "HideReaderModel") (As := []) (rest := []) hx hb hml hown hts hK hP (rDt hD) (kr_X12_misplaced (l := l) (D := D) (k := k) (by omega) (by omega) (by omega) (by omega)) ck_X12_misplaced iv_X12_misplaced uw_8_34 (rv_o hK hP) rfl hl.1 rfl (Nat.le_of_ble_eq_true rfl) dX12_readBeast_105 ⟨Nat.le_of_ble_eq_true rfl, Nat.le_of_ble_eq_true rfl⟩ ⟨Nat.le_of_ble_eq_true rfl, Nat.le_of_ble_eq_true rfl⟩) (fun H locs hQ hS => ?_)
        obtain ⟨y_152, y_153, hr_151_0, hr_151_1, hr_151_2, hP⟩ := hQ
        refine lv_goto (tgt := 124) hx hb dX12_readBeast_108 (by decide) ?_
        refine lv_aload_n hx hb dX12_readBeast_124 rfl (lv_at hl 2 rfl) ?_
        refine g_i (rDt hD) hS hA (g_V (own := "HideReaderModel") (As := []) (rest := []) hx hb hml hown hts hK hP (rDt hD) (kr_X12_isGood (l := l) (D := D) (k := k) (by omega)) ck_X12_isGood iv_X12_isGood uw_8_18 (rv_o hK hP) rfl hl.1 rfl (Nat.le_of_ble_eq_true rfl) dX12_readBeast_125 ⟨Nat.le_of_ble_eq_true rfl, Nat.le_of_ble_eq_true rfl⟩ ⟨Nat.le_of_ble_eq_true rfl, Nat.le_of_ble_eq_true rfl⟩) (fun r_154 H locs hQ hS => ?_)
        obtain ⟨hq_r_154, hP⟩ := hQ
        rcases hq_r_154 with ⟨rfl, c_155_0, c_155_1⟩ | ⟨rfl, c_156_0⟩
        · skip
          refine sy_if_ne (tgt := 132) hx hb dX12_readBeast_128 (by decide) (by decide) (fun c9 => absurd c9 (by decide)) (fun c_157 => ?_)
          exact r_v hx hb hr hlocks dX12_readBeast_131 hS ⟨y_152, y_153, y_90, y_91, y_92, y_93, j_94, B_beasts, B_herdTold, B_born, F_12, by omega, by omega, by omega, by omega, by omega, by omega, b_B_beasts, b_B_herdTold, b_B_born, by omega, by omega, by omega, kr_87_E, hP⟩
        exact False.elim (by omega)
set_option maxHeartbeats 4000000 in
set_option maxRecDepth 100000 in
theorem kr_X12_layPlaced (h_x_bank : 0 ≤ x_bank ∧ x_bank ≤ 1) (b_B_turns : bd (1) 4 B_turns) (b_B_irons : bd (0) 6 B_irons) (b_B_told : bd (0) 31 B_told) (b_B_ironMarks : bd (0) 4095 B_ironMarks) (b_B_burned : bd (0) 4095 B_burned) : MetG l D k yX12_layPlaced cX12_layPlaced 2 none 3 [.ref (a 0)] (rW k a x_taped x_size x_faultKind x_faultPlace x_at x_end x_token x_number x_bank x_rb x_codes x_within x_piled x_unitsInRule x_askBeast x_askStroke x_askAge x_askSeason x_acts x_undone x_laid x_seens x_time x_fitting n_name B_tape B_text B_turns B_herds B_irons B_beasts B_units B_night B_draw B_told B_brands B_ironMarks B_herdTold B_born B_ruleFrom B_ruleTo B_code B_codeNumber B_eWhat B_eSign B_pile B_all B_burned B_was B_need B_laidRow B_long8 B_brings B_sBurning B_sStroke B_sIs B_sTold B_sUntold B_parts B_boxAll B_isBoxed G_hName G_iName G_bName ex) (qGv (fun H => ∃ (F_burned : Nat → Int), (bd (0) 4095 F_burned) ∧ va_P D vwCl (rW k a x_taped x_size x_faultKind x_faultPlace x_at x_end x_token x_number x_bank x_rb x_codes x_within x_piled x_unitsInRule x_askBeast x_askStroke x_askAge x_askSeason x_acts x_undone x_laid x_seens x_time x_fitting n_name B_tape B_text B_turns B_herds B_irons B_beasts B_units B_night B_draw B_told B_brands B_ironMarks B_herdTold B_born B_ruleFrom B_ruleTo B_code B_codeNumber B_eWhat B_eSign B_pile B_all F_burned B_was B_need B_laidRow B_long8 B_brings B_sBurning B_sStroke B_sIs B_sTold B_sUntold B_parts B_boxAll B_isBoxed G_hName G_iName G_bName ex) H)) := by
  refine metG_of 0 ck_X12_layPlaced (Nat.le_of_ble_eq_true rfl) rMap (fun p e s m args below meth c A hx hb hml hr hlocks hown hts hK hD hA hP hS ls hl => ?_)
  have hown : s.vm.findClass "HideReaderModel" = some m.cls := hown
  have hl : lv_has ls 2 [(0, .ref (a 0))] := hl
  refine lv_iconst (v := mI 0) hx hb dX12_layPlaced_0 rfl ?_
  refine lv_istore_n (lv' := [(1, .int (mI 0)), (0, .ref (a 0))]) hx hb dX12_layPlaced_1 rfl hl (by decide) rfl (fun ls hl => ?_)
  refine sy_loop (I := fun n H locs g => ∃ (z_97 : Int) (F_98 : Nat → Int) (ls : Array Slot), (0 ≤ z_97 ∧ z_97 ≤ 48) ∧ (bd (0) 4095 F_98) ∧ (48 - z_97).toNat = n ∧ va_P D vwCl (rW k a x_taped x_size x_faultKind x_faultPlace x_at x_end x_token x_number x_bank x_rb x_codes x_within x_piled x_unitsInRule x_askBeast x_askStroke x_askAge x_askSeason x_acts x_undone x_laid x_seens x_time x_fitting n_name B_tape B_text B_turns B_herds B_irons B_beasts B_units B_night B_draw B_told B_brands B_ironMarks B_herdTold B_born B_ruleFrom B_ruleTo B_code B_codeNumber B_eWhat B_eSign B_pile B_all F_98 B_was B_need B_laidRow B_long8 B_brings B_sBurning B_sStroke B_sIs B_sTold B_sUntold B_parts B_boxAll B_isBoxed G_hName G_iName G_bName ex) H ∧ va_S A s.heap H locs ∧ lv_has ls 2 [(1, .int (mI z_97)), (0, .ref (a 0))] ∧ g = F0 m 2 ls []) ?_ _ ⟨0, B_burned, _, by omega, b_B_burned, rfl, hP, hS, lv_sub hl [0, 1] rfl, rfl⟩
  intro n_111 H locs g hI ih_112
  obtain ⟨z_97, F_98, ls, h2_0, bF_98, mn_111, hP, hS, hl, rfl⟩ := hI
  refine lv_iload_n hx hb dX12_layPlaced_2 rfl (lv_at hl 0 rfl) ?_
  refine lv_aload_n hx hb dX12_layPlaced_3 rfl (lv_at hl 1 rfl) ?_
  refine g_i (rDt hD) hS hA (g_V (own := "HideReaderModel") (As := []) (rest := [.int (mI z_97)]) hx hb hml hown hts hK hP (rDt hD) (kr_X12_tools (l := l) (D := D) (k := k) h_x_bank b_B_irons) ck_X12_tools iv_X12_tools uw_6_235 (rv_o hK hP) rfl hl.1 rfl (Nat.le_of_ble_eq_true rfl) dX12_layPlaced_4 ⟨Nat.le_of_ble_eq_true rfl, Nat.le_of_ble_eq_true rfl⟩ ⟨Nat.le_of_ble_eq_true rfl, Nat.le_of_ble_eq_true rfl⟩) (fun r_113 H locs hQ hS => ?_)
  obtain ⟨hr_113_0, hr_113_1, hP⟩ := hQ
  refine lv_aload_n hx hb dX12_layPlaced_7 rfl (lv_at hl 1 rfl) ?_
  refine g_i (rDt hD) hS hA (g_V (own := "HideReaderModel") (As := []) (rest := [.int (mI r_113), .int (mI z_97)]) hx hb hml hown hts hK hP (rDt hD) (kr_X12_placements (l := l) (D := D) (k := k) h_x_bank b_B_turns b_B_told) ck_X12_placements iv_X12_placements uw_6_239 (rv_o hK hP) rfl hl.1 rfl (Nat.le_of_ble_eq_true rfl) dX12_layPlaced_8 ⟨Nat.le_of_ble_eq_true rfl, Nat.le_of_ble_eq_true rfl⟩ ⟨Nat.le_of_ble_eq_true rfl, Nat.le_of_ble_eq_true rfl⟩) (fun r_114 H locs hQ hS => ?_)
  obtain ⟨hr_114_0, hr_114_1, hP⟩ := hQ
  refine sy_imulB (A := 6) (B := 8) hx hb dX12_layPlaced_11 48 (by decide) (by omega) (by omega) (fun z_115 ez_115 hz_115 => ?_)
  refine sy_icmp_ge (tgt := 47) hx hb dX12_layPlaced_12 (by decide) (by omega) (by omega) (fun c_116 => ?_) (fun c_116 => ?_)
  · skip
    exact r_v hx hb hr hlocks dX12_layPlaced_47 hS ⟨F_98, bF_98, hP⟩
  · skip
    refine lv_aload_n hx hb dX12_layPlaced_15 rfl (lv_at hl 1 rfl) ?_
    refine rg_o_burned hx hb hts hown hK hP uw_7_67 dX12_layPlaced_16 ?_
    refine lv_iload_n hx hb dX12_layPlaced_19 rfl (lv_at hl 0 rfl) ?_
    refine lv_aload_n hx hb dX12_layPlaced_20 rfl (lv_at hl 1 rfl) ?_
    refine lv_aload_n hx hb dX12_layPlaced_21 rfl (lv_at hl 1 rfl) ?_
    refine lv_iload_n hx hb dX12_layPlaced_22 rfl (lv_at hl 0 rfl) ?_
    refine lv_aload_n hx hb dX12_layPlaced_23 rfl (lv_at hl 1 rfl) ?_
    refine g_i (rDt hD) hS hA (g_V (own := "HideReaderModel") (As := []) (rest := [.int (mI z_97), .ref (a 0), .ref (a 0), .int (mI z_97), .ref (a 26)]) hx hb hml hown hts hK hP (rDt hD) (kr_X12_placements (l := l) (D := D) (k := k) h_x_bank b_B_turns b_B_told) ck_X12_placements iv_X12_placements uw_6_239 (rv_o hK hP) rfl hl.1 rfl (Nat.le_of_ble_eq_true rfl) dX12_layPlaced_24 ⟨Nat.le_of_ble_eq_true rfl, Nat.le_of_ble_eq_true rfl⟩ ⟨Nat.le_of_ble_eq_true rfl, Nat.le_of_ble_eq_true rfl⟩) (fun r_117 H locs hQ hS => ?_)
    obtain ⟨hr_117_0, hr_117_1, hP⟩ := hQ
    refine sy_idiv hx hb dX12_layPlaced_27 (by omega) (by omega) (fun z_118 ez_118 hz_118 => ?_)
    have h_119 := dv_lt ez_115 (by omega) (by omega) (by omega) ez_118
    refine g_i (rDt hD) hS hA (g_V (own := "HideReaderModel") (As := [.int (mI z_118)]) (rest := [.ref (a 0), .int (mI z_97), .ref (a 26)]) hx hb hml hown hts hK hP (rDt hD) (kr_X12_ironOf (l := l) (D := D) (k := k) (by omega) h_x_bank b_B_ironMarks) ck_X12_ironOf iv_X12_ironOf uw_7_3 (rv_o hK hP) rfl hl.1 rfl (Nat.le_of_ble_eq_true rfl) dX12_layPlaced_28 ⟨Nat.le_of_ble_eq_true rfl, Nat.le_of_ble_eq_true rfl⟩ ⟨Nat.le_of_ble_eq_true rfl, Nat.le_of_ble_eq_true rfl⟩) (fun r_120 H locs hQ hS => ?_)
    obtain ⟨hr_120_0, hP⟩ := hQ
    refine lv_iload_n hx hb dX12_layPlaced_31 rfl (lv_at hl 0 rfl) ?_
    refine lv_aload_n hx hb dX12_layPlaced_32 rfl (lv_at hl 1 rfl) ?_
    refine g_i (rDt hD) hS hA (g_V (own := "HideReaderModel") (As := []) (rest := [.int (mI z_97), .int (mI r_120), .ref (a 0), .int (mI z_97), .ref (a 26)]) hx hb hml hown hts hK hP (rDt hD) (kr_X12_placements (l := l) (D := D) (k := k) h_x_bank b_B_turns b_B_told) ck_X12_placements iv_X12_placements uw_6_239 (rv_o hK hP) rfl hl.1 rfl (Nat.le_of_ble_eq_true rfl) dX12_layPlaced_33 ⟨Nat.le_of_ble_eq_true rfl, Nat.le_of_ble_eq_true rfl⟩ ⟨Nat.le_of_ble_eq_true rfl, Nat.le_of_ble_eq_true rfl⟩) (fun r_121 H locs hQ hS => ?_)
    obtain ⟨hr_121_0, hr_121_1, hP⟩ := hQ
    refine sy_irem hx hb dX12_layPlaced_36 (by omega) (by omega) (fun z_122 ez_122 hz_122 => ?_)
    refine g_i (rDt hD) hS hA (g_V (own := "HideReaderModel") (As := [.int (mI r_120), .int (mI z_122)]) (rest := [.int (mI z_97), .ref (a 26)]) hx hb hml hown hts hK hP (rDt hD) (kr_X12_placedBy (l := l) (D := D) (k := k) (by omega) (by omega) h_x_bank b_B_turns) ck_X12_placedBy iv_X12_placedBy uw_7_7 (rv_o hK hP) rfl hl.1 rfl (Nat.le_of_ble_eq_true rfl) dX12_layPlaced_37 ⟨Nat.le_of_ble_eq_true rfl, Nat.le_of_ble_eq_true rfl⟩ ⟨Nat.le_of_ble_eq_true rfl, Nat.le_of_ble_eq_true rfl⟩) (fun r_123 H locs hQ hS => ?_)
    obtain ⟨hr_123_0, hP⟩ := hQ
    refine rs_burned hx hb hK hP hD hS dX12_layPlaced_40 (by omega) bF_98 (by omega) (fun F_124 H locs _ bF_124 hP hS => ?_)
    refine lv_iinc (v := mI (z_97 + 1)) (lv' := [(1, .int (mI (z_97 + 1))), (0, .ref (a 0))]) hx hb dX12_layPlaced_41 hl (k := 0) rfl (mI_ad rfl) (by decide) rfl (fun ls hl => ?_)
    refine lv_goto (tgt := 2) hx hb dX12_layPlaced_44 (by decide) ?_
    exact ih_112 _ _ _ _ (by omega) ⟨(z_97 + 1), F_124, _, by omega, bF_124, rfl, hP, hS, lv_sub hl [0, 1] rfl, rfl⟩
set_option maxHeartbeats 4000000 in
set_option maxRecDepth 100000 in
theorem kr_X12_startAnew (h_x_bank : 0 ≤ x_bank ∧ x_bank ≤ 1) (h_x_acts : 0 ≤ x_acts ∧ x_acts ≤ 40) (h_x_undone : 0 ≤ x_undone ∧ x_undone ≤ 40) (h_x_laid : 0 ≤ x_laid ∧ x_laid ≤ 8) (h_x_seens : 0 ≤ x_seens ∧ x_seens ≤ 30) (b_B_turns : bd (1) 4 B_turns) (b_B_irons : bd (0) 6 B_irons) (b_B_beasts : bd (0) 8 B_beasts) (b_B_draw : bd (0) 999 B_draw) (b_B_told : bd (0) 31 B_told) (b_B_brands : bd (0) 4095 B_brands) (b_B_ironMarks : bd (0) 4095 B_ironMarks) (b_B_herdTold : bd (0) 7 B_herdTold) (b_B_born : bd (0) 99 B_born) (b_B_all : bA B_all) (b_B_burned : bd (0) 4095 B_burned) (b_B_isBoxed : bd (0) 1 B_isBoxed) : MetG l D k yX12_startAnew cX12_startAnew 3 none 4 [.ref (a 0)] (rW k a x_taped x_size x_faultKind x_faultPlace x_at x_end x_token x_number x_bank x_rb x_codes x_within x_piled x_unitsInRule x_askBeast x_askStroke x_askAge x_askSeason x_acts x_undone x_laid x_seens x_time x_fitting n_name B_tape B_text B_turns B_herds B_irons B_beasts B_units B_night B_draw B_told B_brands B_ironMarks B_herdTold B_born B_ruleFrom B_ruleTo B_code B_codeNumber B_eWhat B_eSign B_pile B_all B_burned B_was B_need B_laidRow B_long8 B_brings B_sBurning B_sStroke B_sIs B_sTold B_sUntold B_parts B_boxAll B_isBoxed G_hName G_iName G_bName ex) (qGv (fun H => ∃ (F_all : Nat → Int) (F_burned : Nat → Int) (y_acts : Int) (y_undone : Int) (y_laid : Int) (y_seens : Int) (F_isBoxed : Nat → Int), (bA F_all) ∧ (bd (0) 4095 F_burned) ∧ (0 ≤ y_acts ∧ y_acts ≤ 0) ∧ (0 ≤ y_undone ∧ y_undone ≤ 0) ∧ (0 ≤ y_laid ∧ y_laid ≤ 0) ∧ (0 ≤ y_seens ∧ y_seens ≤ 0) ∧ (bd (0) 1 F_isBoxed) ∧ (0 ≤ -y_acts + x_acts) ∧ (0 ≤ -y_undone + x_undone) ∧ (0 ≤ -y_laid + x_laid) ∧ (0 ≤ -y_seens + x_seens) ∧ (0 ≤ 40 - y_acts - y_undone) ∧ va_P D vwCl (rW k a x_taped x_size x_faultKind x_faultPlace x_at x_end x_token x_number x_bank x_rb x_codes x_within x_piled x_unitsInRule x_askBeast x_askStroke x_askAge x_askSeason y_acts y_undone y_laid y_seens x_time x_fitting n_name B_tape B_text B_turns B_herds B_irons B_beasts B_units B_night B_draw B_told B_brands B_ironMarks B_herdTold B_born B_ruleFrom B_ruleTo B_code B_codeNumber B_eWhat B_eSign B_pile F_all F_burned B_was B_need B_laidRow B_long8 B_brings B_sBurning B_sStroke B_sIs B_sTold B_sUntold B_parts B_boxAll F_isBoxed G_hName G_iName G_bName ex) H)) := by
  refine metG_of 0 ck_X12_startAnew (Nat.le_of_ble_eq_true rfl) rMap (fun p e s m args below meth c A hx hb hml hr hlocks hown hts hK hD hA hP hS ls hl => ?_)
  have hown : s.vm.findClass "HideReaderModel" = some m.cls := hown
  have hl : lv_has ls 3 [(0, .ref (a 0))] := hl
  refine lv_iconst (v := mI 0) hx hb dX12_startAnew_0 rfl ?_
  refine lv_istore_n (lv' := [(1, .int (mI 0)), (0, .ref (a 0))]) hx hb dX12_startAnew_1 rfl hl (by decide) rfl (fun ls hl => ?_)
  refine sy_loop (I := fun n H locs g => ∃ (z_16283 : Int) (F_16284 : Nat → Int) (ls : Array Slot), (0 ≤ z_16283 ∧ z_16283 ≤ 114) ∧ (bA F_16284) ∧ (114 - z_16283).toNat = n ∧ va_P D vwCl (rW k a x_taped x_size x_faultKind x_faultPlace x_at x_end x_token x_number x_bank x_rb x_codes x_within x_piled x_unitsInRule x_askBeast x_askStroke x_askAge x_askSeason x_acts x_undone x_laid x_seens x_time x_fitting n_name B_tape B_text B_turns B_herds B_irons B_beasts B_units B_night B_draw B_told B_brands B_ironMarks B_herdTold B_born B_ruleFrom B_ruleTo B_code B_codeNumber B_eWhat B_eSign B_pile F_16284 B_burned B_was B_need B_laidRow B_long8 B_brings B_sBurning B_sStroke B_sIs B_sTold B_sUntold B_parts B_boxAll B_isBoxed G_hName G_iName G_bName ex) H ∧ va_S A s.heap H locs ∧ lv_has ls 3 [(1, .int (mI z_16283)), (0, .ref (a 0))] ∧ g = F0 m 2 ls []) ?_ _ ⟨0, B_all, _, by omega, b_B_all, rfl, hP, hS, lv_sub hl [0, 1] rfl, rfl⟩
  intro n_18996 H locs g hI ih_18997
  obtain ⟨z_16283, F_16284, ls, h2_0, bF_16284, mn_18996, hP, hS, hl, rfl⟩ := hI
  refine lv_iload_n hx hb dX12_startAnew_2 rfl (lv_at hl 0 rfl) ?_
  refine lv_bipush (v := mI 114) hx hb dX12_startAnew_3 (by decide) ?_
  refine sy_icmp_ge (tgt := 21) hx hb dX12_startAnew_5 (by decide) (by omega) (by decide) (fun c_19000 => ?_) (fun c_19000 => ?_)
  · skip
    refine lv_iconst (v := mI 0) hx hb dX12_startAnew_21 rfl ?_
    refine lv_istore_n (lv' := [(1, .int (mI 0)), (0, .ref (a 0))]) hx hb dX12_startAnew_22 rfl hl (by decide) rfl (fun ls hl => ?_)
    refine sy_loop (I := fun n H locs g => ∃ (z_21106 : Int) (F_21107 : Nat → Int) (ls : Array Slot), (0 ≤ z_21106 ∧ z_21106 ≤ 8) ∧ (bA F_21107) ∧ (8 - z_21106).toNat = n ∧ va_P D vwCl (rW k a x_taped x_size x_faultKind x_faultPlace x_at x_end x_token x_number x_bank x_rb x_codes x_within x_piled x_unitsInRule x_askBeast x_askStroke x_askAge x_askSeason x_acts x_undone x_laid x_seens x_time x_fitting n_name B_tape B_text B_turns B_herds B_irons B_beasts B_units B_night B_draw B_told B_brands B_ironMarks B_herdTold B_born B_ruleFrom B_ruleTo B_code B_codeNumber B_eWhat B_eSign B_pile F_21107 B_burned B_was B_need B_laidRow B_long8 B_brings B_sBurning B_sStroke B_sIs B_sTold B_sUntold B_parts B_boxAll B_isBoxed G_hName G_iName G_bName ex) H ∧ va_S A s.heap H locs ∧ lv_has ls 3 [(1, .int (mI z_21106)), (0, .ref (a 0))] ∧ g = F0 m 23 ls []) ?_ _ ⟨0, F_16284, _, by omega, bF_16284, rfl, hP, hS, lv_sub hl [0, 1] rfl, rfl⟩
    intro n_21407 H locs g hI ih_21408
    obtain ⟨z_21106, F_21107, ls, h23_0, bF_21107, mn_21407, hP, hS, hl, rfl⟩ := hI
    refine lv_iload_n hx hb dX12_startAnew_23 rfl (lv_at hl 0 rfl) ?_
    refine lv_aload_n hx hb dX12_startAnew_24 rfl (lv_at hl 1 rfl) ?_
    refine g_i (rDt hD) hS hA (g_V (own := "HideReaderModel") (As := []) (rest := [.int (mI z_21106)]) hx hb hml hown hts hK hP (rDt hD) (kr_X12_cattle (l := l) (D := D) (k := k) h_x_bank b_B_beasts) ck_X12_cattle iv_X12_cattle uw_6_212 (rv_o hK hP) rfl hl.1 rfl (Nat.le_of_ble_eq_true rfl) dX12_startAnew_25 ⟨Nat.le_of_ble_eq_true rfl, Nat.le_of_ble_eq_true rfl⟩ ⟨Nat.le_of_ble_eq_true rfl, Nat.le_of_ble_eq_true rfl⟩) (fun r_21409 H locs hQ hS => ?_)
    obtain ⟨hr_21409_0, hr_21409_1, hP⟩ := hQ
    refine sy_icmp_ge (tgt := 126) hx hb dX12_startAnew_28 (by decide) (by omega) (by omega) (fun c_21540 => ?_) (fun c_21540 => ?_)
    · skip
      refine lv_aload_n hx hb dX12_startAnew_126 rfl (lv_at hl 1 rfl) ?_
      refine rg_o_all hx hb hts hown hK hP uw_7_66 dX12_startAnew_127 ?_
      refine lv_bipush (v := mI 113) hx hb dX12_startAnew_130 (by decide) ?_
      refine lv_aload_n hx hb dX12_startAnew_132 rfl (lv_at hl 1 rfl) ?_
      refine rg_o_draw hx hb hts hown hK hP uw_7_40 dX12_startAnew_133 ?_
      refine lv_aload_n hx hb dX12_startAnew_136 rfl (lv_at hl 1 rfl) ?_
      refine rg_o_bank hx hb hts hown hK hP uw_7_56 dX12_startAnew_137 ?_
      refine rl_draw hx hb hK hP dX12_startAnew_140 (by omega) b_B_draw (fun z_21541 _ hz_21541 => ?_)
      refine rs_all hx hb hK hP hD hS dX12_startAnew_141 (by omega) (bA_bd bF_21107) (by omega) (fun F_21542 H locs eF_21542 bF_21542 hP hS => ?_)
      have bF_21542 := bA_s999 bF_21107 eF_21542 (by omega) (by omega)
      refine lv_aload_n hx hb dX12_startAnew_142 rfl (lv_at hl 1 rfl) ?_
      refine g_v (rDt hD) hS hA (g_V (own := "HideReaderModel") (As := []) (rest := []) hx hb hml hown hts hK hP (rDt hD) (kr_X12_layPlaced (l := l) (D := D) (k := k) h_x_bank b_B_turns b_B_irons b_B_told b_B_ironMarks b_B_burned) ck_X12_layPlaced iv_X12_layPlaced uw_6_231 (rv_o hK hP) rfl hl.1 rfl (Nat.le_of_ble_eq_true rfl) dX12_startAnew_143 ⟨Nat.le_of_ble_eq_true rfl, Nat.le_of_ble_eq_true rfl⟩ ⟨Nat.le_of_ble_eq_true rfl, Nat.le_of_ble_eq_true rfl⟩) (fun H locs hQ hS => ?_)
      obtain ⟨F_21544, bF_21544, hP⟩ := hQ
      refine lv_aload_n hx hb dX12_startAnew_146 rfl (lv_at hl 1 rfl) ?_
      refine lv_iconst (v := mI 0) hx hb dX12_startAnew_147 rfl ?_
      refine rp_o_acts hx hb hts hown hK hP hD hS uw_7_69 dX12_startAnew_148 (fun H locs hP hS => ?_)
      refine lv_aload_n hx hb dX12_startAnew_151 rfl (lv_at hl 1 rfl) ?_
      refine lv_iconst (v := mI 0) hx hb dX12_startAnew_152 rfl ?_
      refine rp_o_undone hx hb hts hown hK hP hD hS uw_7_70 dX12_startAnew_153 (fun H locs hP hS => ?_)
      refine lv_aload_n hx hb dX12_startAnew_156 rfl (lv_at hl 1 rfl) ?_
      refine lv_iconst (v := mI 0) hx hb dX12_startAnew_157 rfl ?_
      refine rp_o_seens hx hb hts hown hK hP hD hS uw_7_82 dX12_startAnew_158 (fun H locs hP hS => ?_)
      refine lv_aload_n hx hb dX12_startAnew_161 rfl (lv_at hl 1 rfl) ?_
      refine lv_iconst (v := mI 0) hx hb dX12_startAnew_162 rfl ?_
      refine rp_o_laid hx hb hts hown hK hP hD hS uw_7_73 dX12_startAnew_163 (fun H locs hP hS => ?_)
      refine lv_iconst (v := mI 0) hx hb dX12_startAnew_166 rfl ?_
      refine lv_istore_n (lv' := [(1, .int (mI 0)), (0, .ref (a 0))]) hx hb dX12_startAnew_167 rfl hl (by decide) rfl (fun ls hl => ?_)
      refine sy_loop (I := fun n H locs g => ∃ (z_21571 : Int) (F_21572 : Nat → Int) (ls : Array Slot), (0 ≤ z_21571 ∧ z_21571 ≤ 3) ∧ (bd (0) 1 F_21572) ∧ (3 - z_21571).toNat = n ∧ va_P D vwCl (rW k a x_taped x_size x_faultKind x_faultPlace x_at x_end x_token x_number x_bank x_rb x_codes x_within x_piled x_unitsInRule x_askBeast x_askStroke x_askAge x_askSeason 0 0 0 0 x_time x_fitting n_name B_tape B_text B_turns B_herds B_irons B_beasts B_units B_night B_draw B_told B_brands B_ironMarks B_herdTold B_born B_ruleFrom B_ruleTo B_code B_codeNumber B_eWhat B_eSign B_pile F_21542 F_21544 B_was B_need B_laidRow B_long8 B_brings B_sBurning B_sStroke B_sIs B_sTold B_sUntold B_parts B_boxAll F_21572 G_hName G_iName G_bName ex) H ∧ va_S A s.heap H locs ∧ lv_has ls 3 [(1, .int (mI z_21571)), (0, .ref (a 0))] ∧ g = F0 m 168 ls []) ?_ _ ⟨0, B_isBoxed, _, by omega, b_B_isBoxed, rfl, hP, hS, lv_sub hl [0, 1] rfl, rfl⟩
      intro n_21575 H locs g hI ih_21576
      obtain ⟨z_21571, F_21572, ls, h168_0, bF_21572, mn_21575, hP, hS, hl, rfl⟩ := hI
      refine lv_iload_n hx hb dX12_startAnew_168 rfl (lv_at hl 0 rfl) ?_
      refine lv_iconst (v := mI 3) hx hb dX12_startAnew_169 rfl ?_
      refine sy_icmp_ge (tgt := 186) hx hb dX12_startAnew_170 (by decide) (by omega) (by decide) (fun c_21577 => ?_) (fun c_21577 => ?_)
      · skip
        exact r_v hx hb hr hlocks dX12_startAnew_186 hS ⟨F_21542, F_21544, 0, 0, 0, 0, F_21572, bF_21542, bF_21544, by omega, by omega, by omega, by omega, bF_21572, by omega, by omega, by omega, by omega, (by omega), hP⟩
      · skip
        refine lv_aload_n hx hb dX12_startAnew_173 rfl (lv_at hl 1 rfl) ?_
        refine rg_o_isBoxed hx hb hts hown hK hP uw_7_86 dX12_startAnew_174 ?_
        refine lv_iload_n hx hb dX12_startAnew_177 rfl (lv_at hl 0 rfl) ?_
        refine lv_iconst (v := mI 0) hx hb dX12_startAnew_178 rfl ?_
        refine rs_isBoxed hx hb hK hP hD hS (by decide) dX12_startAnew_179 (by omega) bF_21572 (by omega) (fun F_21578 H locs _ bF_21578 hP hS => ?_)
        refine lv_iinc (v := mI (z_21571 + 1)) (lv' := [(1, .int (mI (z_21571 + 1))), (0, .ref (a 0))]) hx hb dX12_startAnew_180 hl (k := 0) rfl (mI_ad rfl) (by decide) rfl (fun ls hl => ?_)
        refine lv_goto (tgt := 168) hx hb dX12_startAnew_183 (by decide) ?_
        exact ih_21576 _ _ _ _ (by omega) ⟨(z_21571 + 1), F_21578, _, by omega, bF_21578, rfl, hP, hS, lv_sub hl [0, 1] rfl, rfl⟩
    · skip
      refine lv_aload_n hx hb dX12_startAnew_31 rfl (lv_at hl 1 rfl) ?_
      refine rg_o_all hx hb hts hown hK hP uw_7_66 dX12_startAnew_32 ?_
      refine lv_iconst (v := mI 0) hx hb dX12_startAnew_35 rfl ?_
      refine lv_iload_n hx hb dX12_startAnew_36 rfl (lv_at hl 0 rfl) ?_
      refine sy_iadd hx hb dX12_startAnew_37 z_21106 (by omega) ?_
      refine lv_aload_n hx hb dX12_startAnew_38 rfl (lv_at hl 1 rfl) ?_
      refine lv_aload_n hx hb dX12_startAnew_39 rfl (lv_at hl 1 rfl) ?_
      refine lv_iload_n hx hb dX12_startAnew_40 rfl (lv_at hl 0 rfl) ?_
      refine g_i (rDt hD) hS hA (g_V (own := "HideReaderModel") (As := [.int (mI z_21106)]) (rest := [.ref (a 0), .int (mI z_21106), .ref (a 25)]) hx hb hml hown hts hK hP (rDt hD) (kr_X12_firstHerd (l := l) (D := D) (k := k) (by omega) h_x_bank b_B_herdTold) ck_X12_firstHerd iv_X12_firstHerd uw_6_216 (rv_o hK hP) rfl hl.1 rfl (Nat.le_of_ble_eq_true rfl) dX12_startAnew_41 ⟨Nat.le_of_ble_eq_true rfl, Nat.le_of_ble_eq_true rfl⟩ ⟨Nat.le_of_ble_eq_true rfl, Nat.le_of_ble_eq_true rfl⟩) (fun r_21579 H locs hQ hS => ?_)
      obtain ⟨hr_21579_0, hP⟩ := hQ
      refine g_i (rDt hD) hS hA (g_V (own := "HideReaderModel") (As := [.int (mI r_21579)]) (rest := [.int (mI z_21106), .ref (a 25)]) hx hb hml hown hts hK hP (rDt hD) (kr_X12_brandOf (l := l) (D := D) (k := k) (by omega) h_x_bank b_B_brands) ck_X12_brandOf iv_X12_brandOf uw_6_220 (rv_o hK hP) rfl hl.1 rfl (Nat.le_of_ble_eq_true rfl) dX12_startAnew_44 ⟨Nat.le_of_ble_eq_true rfl, Nat.le_of_ble_eq_true rfl⟩ ⟨Nat.le_of_ble_eq_true rfl, Nat.le_of_ble_eq_true rfl⟩) (fun r_21580 H locs hQ hS => ?_)
      obtain ⟨hr_21580_0, hP⟩ := hQ
      refine rs_all hx hb hK hP hD hS dX12_startAnew_47 (by omega) (bA_bd bF_21107) (by omega) (fun F_21581 H locs eF_21581 bF_21581 hP hS => ?_)
      have bF_21581 := bA_s4095 bF_21107 eF_21581 (by omega) (by omega)
      refine lv_aload_n hx hb dX12_startAnew_48 rfl (lv_at hl 1 rfl) ?_
      refine rg_o_all hx hb hts hown hK hP uw_7_66 dX12_startAnew_49 ?_
      refine lv_bipush (v := mI 8) hx hb dX12_startAnew_52 (by decide) ?_
      refine lv_iload_n hx hb dX12_startAnew_54 rfl (lv_at hl 0 rfl) ?_
      refine sy_iadd hx hb dX12_startAnew_55 (z_21106 + 8) (by omega) ?_
      refine lv_aload_n hx hb dX12_startAnew_56 rfl (lv_at hl 1 rfl) ?_
      refine lv_iload_n hx hb dX12_startAnew_57 rfl (lv_at hl 0 rfl) ?_
      refine g_i (rDt hD) hS hA (g_V (own := "HideReaderModel") (As := [.int (mI z_21106)]) (rest := [.int (mI (z_21106 + 8)), .ref (a 25)]) hx hb hml hown hts hK hP (rDt hD) (kr_X12_firstHerd (l := l) (D := D) (k := k) (by omega) h_x_bank b_B_herdTold) ck_X12_firstHerd iv_X12_firstHerd uw_6_216 (rv_o hK hP) rfl hl.1 rfl (Nat.le_of_ble_eq_true rfl) dX12_startAnew_58 ⟨Nat.le_of_ble_eq_true rfl, Nat.le_of_ble_eq_true rfl⟩ ⟨Nat.le_of_ble_eq_true rfl, Nat.le_of_ble_eq_true rfl⟩) (fun r_21582 H locs hQ hS => ?_)
      obtain ⟨hr_21582_0, hP⟩ := hQ
      refine rs_all hx hb hK hP hD hS dX12_startAnew_61 (by omega) (bA_bd bF_21581) (by omega) (fun F_21583 H locs eF_21583 bF_21583 hP hS => ?_)
      have bF_21583 := bA_s7 bF_21581 eF_21583 (by omega)
      refine lv_iconst (v := mI 0) hx hb dX12_startAnew_62 rfl ?_
      refine lv_istore_n (lv' := [(2, .int (mI 0)), (1, .int (mI z_21106)), (0, .ref (a 0))]) hx hb dX12_startAnew_63 rfl hl (by decide) rfl (fun ls hl => ?_)
      refine sy_loop (I := fun n H locs g => ∃ (z_21680 : Int) (F_21681 : Nat → Int) (ls : Array Slot), (0 ≤ z_21680 ∧ z_21680 ≤ 12) ∧ (bA F_21681) ∧ (12 - z_21680).toNat = n ∧ va_P D vwCl (rW k a x_taped x_size x_faultKind x_faultPlace x_at x_end x_token x_number x_bank x_rb x_codes x_within x_piled x_unitsInRule x_askBeast x_askStroke x_askAge x_askSeason x_acts x_undone x_laid x_seens x_time x_fitting n_name B_tape B_text B_turns B_herds B_irons B_beasts B_units B_night B_draw B_told B_brands B_ironMarks B_herdTold B_born B_ruleFrom B_ruleTo B_code B_codeNumber B_eWhat B_eSign B_pile F_21681 B_burned B_was B_need B_laidRow B_long8 B_brings B_sBurning B_sStroke B_sIs B_sTold B_sUntold B_parts B_boxAll B_isBoxed G_hName G_iName G_bName ex) H ∧ va_S A s.heap H locs ∧ lv_has ls 3 [(2, .int (mI z_21680)), (1, .int (mI z_21106)), (0, .ref (a 0))] ∧ g = F0 m 64 ls []) ?_ _ ⟨0, F_21583, _, by omega, bF_21583, rfl, hP, hS, lv_sub hl [0, 1, 2] rfl, rfl⟩
      intro n_21694 H locs g hI ih_21695
      obtain ⟨z_21680, F_21681, ls, h64_0, bF_21681, mn_21694, hP, hS, hl, rfl⟩ := hI
      refine lv_iload_n hx hb dX12_startAnew_64 rfl (lv_at hl 0 rfl) ?_
      refine lv_bipush (v := mI 12) hx hb dX12_startAnew_65 (by decide) ?_
      refine sy_icmp_ge (tgt := 120) hx hb dX12_startAnew_67 (by decide) (by omega) (by decide) (fun c_21696 => ?_) (fun c_21696 => ?_)
      · skip
        refine lv_iinc (v := mI (z_21106 + 1)) (lv' := [(1, .int (mI (z_21106 + 1))), (2, .int (mI z_21680)), (0, .ref (a 0))]) hx hb dX12_startAnew_120 hl (k := 1) rfl (mI_ad rfl) (by decide) rfl (fun ls hl => ?_)
        refine lv_goto (tgt := 23) hx hb dX12_startAnew_123 (by decide) ?_
        exact ih_21408 _ _ _ _ (by omega) ⟨(z_21106 + 1), F_21681, _, by omega, bF_21681, rfl, hP, hS, lv_sub hl [0, 2] rfl, rfl⟩
      · skip
        refine lv_aload_n hx hb dX12_startAnew_70 rfl (lv_at hl 2 rfl) ?_
        refine rg_o_all hx hb hts hown hK hP uw_7_66 dX12_startAnew_71 ?_
        refine lv_aload_n hx hb dX12_startAnew_74 rfl (lv_at hl 2 rfl) ?_
        refine lv_iload_n hx hb dX12_startAnew_75 rfl (lv_at hl 1 rfl) ?_
        refine lv_iload_n hx hb dX12_startAnew_76 rfl (lv_at hl 0 rfl) ?_
        refine g_i (rDt hD) hS hA (g_V (own := "HideReaderModel") (As := [.int (mI z_21106), .int (mI z_21680)]) (rest := [.ref (a 25)]) hx hb hml hown hts hK hP (rDt hD) (kr_X12_slot (l := l) (D := D) (k := k) (by omega) (by omega)) ck_X12_slot iv_X12_slot uw_6_224 (rv_o hK hP) rfl hl.1 rfl (Nat.le_of_ble_eq_true rfl) dX12_startAnew_77 ⟨Nat.le_of_ble_eq_true rfl, Nat.le_of_ble_eq_true rfl⟩ ⟨Nat.le_of_ble_eq_true rfl, Nat.le_of_ble_eq_true rfl⟩) (fun r_21697 H locs hQ hS => ?_)
        obtain ⟨hq_r_21697, hP⟩ := hQ
        obtain rfl := hq_r_21697
        refine lv_aload_n hx hb dX12_startAnew_80 rfl (lv_at hl 2 rfl) ?_
        refine rg_o_all hx hb hts hown hK hP uw_7_66 dX12_startAnew_81 ?_
        refine lv_iconst (v := mI 0) hx hb dX12_startAnew_84 rfl ?_
        refine lv_iload_n hx hb dX12_startAnew_85 rfl (lv_at hl 1 rfl) ?_
        refine sy_iadd hx hb dX12_startAnew_86 z_21106 (by omega) ?_
        refine rl_all hx hb hK hP dX12_startAnew_87 (by omega) (bA_bd bF_21681) (fun z_21699 ez_21699 hz_21699 => ?_)
        have hz_21699 := bA_hid bF_21681 (by omega) ez_21699
        refine lv_iload_n hx hb dX12_startAnew_88 rfl (lv_at hl 0 rfl) ?_
        refine g_i (rDt hD) hS hA (g_S (own := "HideReaderModel") (As := [.int (mI z_21699), .int (mI z_21680)]) (rest := [.int (mI (12 * z_21106 + z_21680 + 16)), .ref (a 25)]) hx hb hml hown hts hK hP (rDt hD) (kr_bit (l := l) (D := D) (k := k)) ck_X12_bit uw_6_229 uw_6_228 rfl hl.1 rfl (Nat.le_of_ble_eq_true rfl) dX12_startAnew_89 ⟨Nat.le_of_ble_eq_true rfl, Nat.le_of_ble_eq_true rfl⟩ ⟨Nat.le_of_ble_eq_true rfl, Nat.le_of_ble_eq_true rfl⟩) (fun r_21700 H locs hQ hS => ?_)
        obtain ⟨hq_r_21700, hP⟩ := hQ
        rcases hq_r_21700 with ⟨rfl, c_21701_0⟩ | ⟨rfl, c_21702_0⟩
        · skip
          refine sy_if_eq (tgt := 112) hx hb dX12_startAnew_92 (by decide) (by decide) (fun c9 => absurd c9 (by decide)) (fun c_21703 => ?_)
          refine lv_aload_n hx hb dX12_startAnew_95 rfl (lv_at hl 2 rfl) ?_
          refine rg_o_born hx hb hts hown hK hP uw_7_45 dX12_startAnew_96 ?_
          refine lv_bipush (v := mI 8) hx hb dX12_startAnew_99 (by decide) ?_
          refine lv_aload_n hx hb dX12_startAnew_101 rfl (lv_at hl 2 rfl) ?_
          refine rg_o_bank hx hb hts hown hK hP uw_7_56 dX12_startAnew_102 ?_
          refine sy_imul hx hb dX12_startAnew_105 (8 * x_bank) rfl ?_
          refine lv_iload_n hx hb dX12_startAnew_106 rfl (lv_at hl 1 rfl) ?_
          refine sy_iadd hx hb dX12_startAnew_107 (8 * x_bank + z_21106) rfl ?_
          refine rl_born hx hb hK hP dX12_startAnew_108 (by omega) b_B_born (fun z_21704 _ hz_21704 => ?_)
          refine lv_goto (tgt := 113) hx hb dX12_startAnew_109 (by decide) ?_
          refine rs_all hx hb hK hP hD hS dX12_startAnew_113 (by omega) (bA_bd bF_21681) (by omega) (fun F_21705 H locs eF_21705 bF_21705 hP hS => ?_)
          have bF_21705 := bA_s999 bF_21681 eF_21705 (by omega) (by omega)
          refine lv_iinc (v := mI (z_21680 + 1)) (lv' := [(2, .int (mI (z_21680 + 1))), (1, .int (mI z_21106)), (0, .ref (a 0))]) hx hb dX12_startAnew_114 hl (k := 0) rfl (mI_ad rfl) (by decide) rfl (fun ls hl => ?_)
          refine lv_goto (tgt := 64) hx hb dX12_startAnew_117 (by decide) ?_
          exact ih_21695 _ _ _ _ (by omega) ⟨(z_21680 + 1), F_21705, _, by omega, bF_21705, rfl, hP, hS, lv_sub hl [0, 1, 2] rfl, rfl⟩
        · skip
          refine sy_if_eq (tgt := 112) hx hb dX12_startAnew_92 (by decide) (by decide) (fun c_21706 => ?_) (fun c9 => absurd c9 (by decide))
          refine lv_iconst (v := mI 0) hx hb dX12_startAnew_112 rfl ?_
          refine rs_all hx hb hK hP hD hS dX12_startAnew_113 (by omega) (bA_bd bF_21681) (by omega) (fun F_21707 H locs eF_21707 bF_21707 hP hS => ?_)
          have bF_21707 := bA_s7 bF_21681 eF_21707 (by omega)
          refine lv_iinc (v := mI (z_21680 + 1)) (lv' := [(2, .int (mI (z_21680 + 1))), (1, .int (mI z_21106)), (0, .ref (a 0))]) hx hb dX12_startAnew_114 hl (k := 0) rfl (mI_ad rfl) (by decide) rfl (fun ls hl => ?_)
          refine lv_goto (tgt := 64) hx hb dX12_startAnew_117 (by decide) ?_
          exact ih_21695 _ _ _ _ (by omega) ⟨(z_21680 + 1), F_21707, _, by omega, bF_21707, rfl, hP, hS, lv_sub hl [0, 1, 2] rfl, rfl⟩
  · skip
    refine lv_aload_n hx hb dX12_startAnew_8 rfl (lv_at hl 1 rfl) ?_
    refine rg_o_all hx hb hts hown hK hP uw_7_66 dX12_startAnew_9 ?_
    refine lv_iload_n hx hb dX12_startAnew_12 rfl (lv_at hl 0 rfl) ?_
    refine lv_iconst (v := mI 0) hx hb dX12_startAnew_13 rfl ?_
    refine rs_all hx hb hK hP hD hS dX12_startAnew_14 (by omega) (bA_bd bF_16284) (by omega) (fun F_21708 H locs eF_21708 bF_21708 hP hS => ?_)
    have bF_21708 := bA_s7 bF_16284 eF_21708 (by omega)
    refine lv_iinc (v := mI (z_16283 + 1)) (lv' := [(1, .int (mI (z_16283 + 1))), (0, .ref (a 0))]) hx hb dX12_startAnew_15 hl (k := 0) rfl (mI_ad rfl) (by decide) rfl (fun ls hl => ?_)
    refine lv_goto (tgt := 2) hx hb dX12_startAnew_18 (by decide) ?_
    exact ih_18997 _ _ _ _ (by omega) ⟨(z_16283 + 1), F_21708, _, by omega, bF_21708, rfl, hP, hS, lv_sub hl [0, 1] rfl, rfl⟩
set_option maxHeartbeats 4000000 in
set_option maxRecDepth 100000 in
theorem kr_X12_season (h_x_bank : 0 ≤ x_bank ∧ x_bank ≤ 1) (h_x_acts : 0 ≤ x_acts ∧ x_acts ≤ 40) (h_x_undone : 0 ≤ x_undone ∧ x_undone ≤ 40) (b_B_beasts : bd (0) 8 B_beasts) (b_B_night : bd (0) 100 B_night) (b_B_all : bA B_all) (b_B_was : bA B_was) (g_A : 0 ≤ 40 - x_acts - x_undone) : MetG l D k yX12_season cX12_season 4 (some .int) 2 [.ref (a 0)] (rW k a x_taped x_size x_faultKind x_faultPlace x_at x_end x_token x_number x_bank x_rb x_codes x_within x_piled x_unitsInRule x_askBeast x_askStroke x_askAge x_askSeason x_acts x_undone x_laid x_seens x_time x_fitting n_name B_tape B_text B_turns B_herds B_irons B_beasts B_units B_night B_draw B_told B_brands B_ironMarks B_herdTold B_born B_ruleFrom B_ruleTo B_code B_codeNumber B_eWhat B_eSign B_pile B_all B_burned B_was B_need B_laidRow B_long8 B_brings B_sBurning B_sStroke B_sIs B_sTold B_sUntold B_parts B_boxAll B_isBoxed G_hName G_iName G_bName ex) (qGi (fun r0 H => ∃ (F_all : Nat → Int) (F_was : Nat → Int) (y_acts : Int) (y_undone : Int), (-1 ≤ r0 ∧ r0 ≤ 255) ∧ (bA F_all) ∧ (bA F_was) ∧ (0 ≤ y_acts ∧ y_acts ≤ 40) ∧ (0 ≤ y_undone ∧ y_undone ≤ 40) ∧ (0 ≤ -y_undone + x_undone) ∧ (0 ≤ 40 - y_acts - y_undone) ∧ va_P D vwCl (rW k a x_taped x_size x_faultKind x_faultPlace x_at x_end x_token x_number x_bank x_rb x_codes x_within x_piled x_unitsInRule x_askBeast x_askStroke x_askAge x_askSeason y_acts y_undone x_laid x_seens x_time x_fitting n_name B_tape B_text B_turns B_herds B_irons B_beasts B_units B_night B_draw B_told B_brands B_ironMarks B_herdTold B_born B_ruleFrom B_ruleTo B_code B_codeNumber B_eWhat B_eSign B_pile F_all B_burned F_was B_need B_laidRow B_long8 B_brings B_sBurning B_sStroke B_sIs B_sTold B_sUntold B_parts B_boxAll B_isBoxed G_hName G_iName G_bName ex) H)) := by
  refine metG_of 0 ck_X12_season (Nat.le_of_ble_eq_true rfl) rMap (fun p e s m args below meth c A hx hb hml hr hlocks hown hts hK hD hA hP hS ls hl => ?_)
  have hown : s.vm.findClass "HideReaderModel" = some m.cls := hown
  have hl : lv_has ls 4 [(0, .ref (a 0))] := hl
  refine lv_aload_n hx hb dX12_season_0 rfl (lv_at hl 0 rfl) ?_
  refine rg_o_all hx hb hts hown hK hP uw_7_66 dX12_season_1 ?_
  refine lv_bipush (v := mI 112) hx hb dX12_season_4 (by decide) ?_
  refine rl_all hx hb hK hP dX12_season_6 (by omega) (bA_bd b_B_all) (fun z_1 ez_1 hz_1 => ?_)
  refine lv_sipush (v := mI 999) hx hb dX12_season_7 (by decide) ?_
  refine sy_icmp_ne (tgt := 15) hx hb dX12_season_10 (by decide) (by omega) (by decide) (fun c_2 => ?_) (fun c_2 => ?_)
  · skip
    refine lv_aload_n hx hb dX12_season_15 rfl (lv_at hl 0 rfl) ?_
    refine g_v (rDt hD) hS hA (g_V (own := "HideReaderModel") (As := []) (rest := []) hx hb hml hown hts hK hP (rDt hD) (kr_X12_keepAct (l := l) (D := D) (k := k) h_x_acts h_x_undone b_B_all b_B_was g_A) ck_X12_keepAct iv_X12_keepAct uw_8_238 (rv_o hK hP) rfl hl.1 rfl (Nat.le_of_ble_eq_true rfl) dX12_season_16 ⟨Nat.le_of_ble_eq_true rfl, Nat.le_of_ble_eq_true rfl⟩ ⟨Nat.le_of_ble_eq_true rfl, Nat.le_of_ble_eq_true rfl⟩) (fun H locs hQ hS => ?_)
    obtain ⟨F_4, y_5, y_6, bF_4, hr_3_1, hr_3_2, hr_3_3, kr_3_A, hP⟩ := hQ
    refine lv_iconst (v := mI 0) hx hb dX12_season_19 rfl ?_
    refine lv_istore_n (lv' := [(1, .int (mI 0)), (0, .ref (a 0))]) hx hb dX12_season_20 rfl hl (by decide) rfl (fun ls hl => ?_)
    refine sy_loop (I := fun n H locs g => ∃ (z_5684 : Int) (F_5685 : Nat → Int) (ls : Array Slot), (0 ≤ z_5684 ∧ z_5684 ≤ 8) ∧ (bA F_5685) ∧ (8 - z_5684).toNat = n ∧ va_P D vwCl (rW k a x_taped x_size x_faultKind x_faultPlace x_at x_end x_token x_number x_bank x_rb x_codes x_within x_piled x_unitsInRule x_askBeast x_askStroke x_askAge x_askSeason y_5 y_6 x_laid x_seens x_time x_fitting n_name B_tape B_text B_turns B_herds B_irons B_beasts B_units B_night B_draw B_told B_brands B_ironMarks B_herdTold B_born B_ruleFrom B_ruleTo B_code B_codeNumber B_eWhat B_eSign B_pile F_5685 B_burned F_4 B_need B_laidRow B_long8 B_brings B_sBurning B_sStroke B_sIs B_sTold B_sUntold B_parts B_boxAll B_isBoxed G_hName G_iName G_bName ex) H ∧ va_S A s.heap H locs ∧ lv_has ls 4 [(1, .int (mI z_5684)), (0, .ref (a 0))] ∧ g = F0 m 21 ls []) ?_ _ ⟨0, B_all, _, by omega, b_B_all, rfl, hP, hS, lv_sub hl [0, 1] rfl, rfl⟩
    intro n_6579 H locs g hI ih_6580
    obtain ⟨z_5684, F_5685, ls, h21_0, bF_5685, mn_6579, hP, hS, hl, rfl⟩ := hI
    refine lv_iload_n hx hb dX12_season_21 rfl (lv_at hl 0 rfl) ?_
    refine lv_aload_n hx hb dX12_season_22 rfl (lv_at hl 1 rfl) ?_
    refine g_i (rDt hD) hS hA (g_V (own := "HideReaderModel") (As := []) (rest := [.int (mI z_5684)]) hx hb hml hown hts hK hP (rDt hD) (kr_X12_cattle (l := l) (D := D) (k := k) h_x_bank b_B_beasts) ck_X12_cattle iv_X12_cattle uw_6_212 (rv_o hK hP) rfl hl.1 rfl (Nat.le_of_ble_eq_true rfl) dX12_season_23 ⟨Nat.le_of_ble_eq_true rfl, Nat.le_of_ble_eq_true rfl⟩ ⟨Nat.le_of_ble_eq_true rfl, Nat.le_of_ble_eq_true rfl⟩) (fun r_6581 H locs hQ hS => ?_)
    obtain ⟨hr_6581_0, hr_6581_1, hP⟩ := hQ
    refine sy_icmp_ge (tgt := 96) hx hb dX12_season_26 (by decide) (by omega) (by omega) (fun c_6734 => ?_) (fun c_6734 => ?_)
    · skip
      refine lv_aload_n hx hb dX12_season_96 rfl (lv_at hl 1 rfl) ?_
      refine rg_o_all hx hb hts hown hK hP uw_7_66 dX12_season_97 ?_
      refine lv_bipush (v := mI 112) hx hb dX12_season_100 (by decide) ?_
      refine lv_dup2_11 hx hb dX12_season_102 rfl rfl ?_
      refine rl_all hx hb hK hP dX12_season_103 (by omega) (bA_bd bF_5685) (fun z_6735 ez_6735 hz_6735 => ?_)
      refine lv_iconst (v := mI 1) hx hb dX12_season_104 rfl ?_
      refine sy_iadd hx hb dX12_season_105 (z_6735 + 1) rfl ?_
      refine sy_any (fun z_6736 hz_6736 => ?_)
      refine rs_all hx hb hK hP hD hS dX12_season_106 (by omega) (bA_bd bF_5685) (by omega) (fun F_6737 H locs eF_6737 bF_6737 hP hS => ?_)
      have bF_6737 := bA_s112 bF_5685 eF_6737 (by omega) (by omega)
      refine lv_iconst (v := mI 0) hx hb dX12_season_107 rfl ?_
      refine lv_istore_n (lv' := [(1, .int (mI 0)), (0, .ref (a 0))]) hx hb dX12_season_108 rfl hl (by decide) rfl (fun ls hl => ?_)
      refine lv_iconst (v := mI 0) hx hb dX12_season_109 rfl ?_
      refine lv_istore_n (lv' := [(2, .int (mI 0)), (1, .int (mI 0)), (0, .ref (a 0))]) hx hb dX12_season_110 rfl hl (by decide) rfl (fun ls hl => ?_)
      refine sy_loop (I := fun n H locs g => ∃ (z_7286 : Int) (z_7287 : Int) (F_7288 : Nat → Int) (ls : Array Slot), (0 ≤ z_7286 ∧ z_7286 ≤ 8) ∧ (0 ≤ z_7287 ∧ z_7287 ≤ 255) ∧ (bA F_7288) ∧ (8 - z_7286).toNat = n ∧ va_P D vwCl (rW k a x_taped x_size x_faultKind x_faultPlace x_at x_end x_token x_number x_bank x_rb x_codes x_within x_piled x_unitsInRule x_askBeast x_askStroke x_askAge x_askSeason y_5 y_6 x_laid x_seens x_time x_fitting n_name B_tape B_text B_turns B_herds B_irons B_beasts B_units B_night B_draw B_told B_brands B_ironMarks B_herdTold B_born B_ruleFrom B_ruleTo B_code B_codeNumber B_eWhat B_eSign B_pile F_7288 B_burned F_4 B_need B_laidRow B_long8 B_brings B_sBurning B_sStroke B_sIs B_sTold B_sUntold B_parts B_boxAll B_isBoxed G_hName G_iName G_bName ex) H ∧ va_S A s.heap H locs ∧ lv_has ls 4 [(2, .int (mI z_7286)), (1, .int (mI z_7287)), (0, .ref (a 0))] ∧ g = F0 m 111 ls []) ?_ _ ⟨0, 0, F_6737, _, by omega, by omega, bF_6737, rfl, hP, hS, lv_sub hl [0, 1, 2] rfl, rfl⟩
      intro n_7305 H locs g hI ih_7306
      obtain ⟨z_7286, z_7287, F_7288, ls, h111_0, h111_1, bF_7288, mn_7305, hP, hS, hl, rfl⟩ := hI
      refine lv_iload_n hx hb dX12_season_111 rfl (lv_at hl 0 rfl) ?_
      refine lv_aload_n hx hb dX12_season_112 rfl (lv_at hl 2 rfl) ?_
      refine g_i (rDt hD) hS hA (g_V (own := "HideReaderModel") (As := []) (rest := [.int (mI z_7286)]) hx hb hml hown hts hK hP (rDt hD) (kr_X12_cattle (l := l) (D := D) (k := k) h_x_bank b_B_beasts) ck_X12_cattle iv_X12_cattle uw_6_212 (rv_o hK hP) rfl hl.1 rfl (Nat.le_of_ble_eq_true rfl) dX12_season_113 ⟨Nat.le_of_ble_eq_true rfl, Nat.le_of_ble_eq_true rfl⟩ ⟨Nat.le_of_ble_eq_true rfl, Nat.le_of_ble_eq_true rfl⟩) (fun r_7307 H locs hQ hS => ?_)
      obtain ⟨hr_7307_0, hr_7307_1, hP⟩ := hQ
      refine sy_icmp_ge (tgt := 199) hx hb dX12_season_116 (by decide) (by omega) (by omega) (fun c_7308 => ?_) (fun c_7308 => ?_)
      · skip
        refine lv_iload_n hx hb dX12_season_199 rfl (lv_at hl 1 rfl) ?_
        exact r_i hx hb hr hlocks dX12_season_200 hS ⟨F_7288, F_4, y_5, y_6, by omega, bF_7288, bF_4, by omega, by omega, by omega, kr_3_A, hP⟩
      · skip
        refine lv_aload_n hx hb dX12_season_119 rfl (lv_at hl 2 rfl) ?_
        refine rg_o_all hx hb hts hown hK hP uw_7_66 dX12_season_120 ?_
        refine lv_bipush (v := mI 113) hx hb dX12_season_123 (by decide) ?_
        refine lv_sipush (v := mI 137) hx hb dX12_season_125 (by decide) ?_
        refine lv_aload_n hx hb dX12_season_128 rfl (lv_at hl 2 rfl) ?_
        refine rg_o_all hx hb hts hown hK hP uw_7_66 dX12_season_129 ?_
        refine lv_bipush (v := mI 113) hx hb dX12_season_132 (by decide) ?_
        refine rl_all hx hb hK hP dX12_season_134 (by omega) (bA_bd bF_7288) (fun z_7309 ez_7309 hz_7309 => ?_)
        have hz_7309 := bA_age bF_7288 (by omega) ez_7309
        refine sy_imul hx hb dX12_season_135 (137 * z_7309) rfl ?_
        refine lv_bipush (v := mI 71) hx hb dX12_season_136 (by decide) ?_
        refine sy_iadd hx hb dX12_season_138 (137 * z_7309 + 71) rfl ?_
        refine lv_sipush (v := mI 1000) hx hb dX12_season_139 (by decide) ?_
        refine sy_irem hx hb dX12_season_142 (by omega) (by omega) (fun z_7310 ez_7310 hz_7310 => ?_)
        refine rs_all hx hb hK hP hD hS dX12_season_143 (by omega) (bA_bd bF_7288) (by omega) (fun F_7311 H locs eF_7311 bF_7311 hP hS => ?_)
        have bF_7311 := bA_s999 bF_7288 eF_7311 (by omega) (by omega)
        refine lv_aload_n hx hb dX12_season_144 rfl (lv_at hl 2 rfl) ?_
        refine rg_o_all hx hb hts hown hK hP uw_7_66 dX12_season_145 ?_
        refine lv_bipush (v := mI 113) hx hb dX12_season_148 (by decide) ?_
        refine rl_all hx hb hK hP dX12_season_150 (by omega) (bA_bd bF_7311) (fun z_7312 ez_7312 hz_7312 => ?_)
        have hz_7312 := bA_age bF_7311 (by omega) ez_7312
        refine lv_bipush (v := mI 100) hx hb dX12_season_151 (by decide) ?_
        refine sy_irem hx hb dX12_season_153 (by omega) (by omega) (fun z_7313 ez_7313 hz_7313 => ?_)
        refine lv_aload_n hx hb dX12_season_154 rfl (lv_at hl 2 rfl) ?_
        refine rg_o_night hx hb hts hown hK hP uw_7_39 dX12_season_155 ?_
        refine lv_aload_n hx hb dX12_season_158 rfl (lv_at hl 2 rfl) ?_
        refine rg_o_bank hx hb hts hown hK hP uw_7_56 dX12_season_159 ?_
        refine rl_night hx hb hK hP dX12_season_162 (by omega) b_B_night (fun z_7314 _ hz_7314 => ?_)
        refine sy_icmp_lt (tgt := 169) hx hb dX12_season_163 (by decide) (by omega) (by omega) (fun c_7315 => ?_) (fun c_7315 => ?_)
        · skip
          refine lv_iload_n hx hb dX12_season_169 rfl (lv_at hl 1 rfl) ?_
          refine lv_iconst (v := mI 1) hx hb dX12_season_170 rfl ?_
          refine lv_iload_n hx hb dX12_season_171 rfl (lv_at hl 0 rfl) ?_
          refine sy_shl1 hx hb dX12_season_172 7 (by decide) 128 (by decide) (by omega) (fun z_7316 ez_7316 hz_7316 => ?_)
          refine sy_ior hx hb dX12_season_173 8 (by decide) 256 (by decide) (by omega) (by omega) (fun z_7317 hz_7317 => ?_)
          refine lv_istore_n (lv' := [(1, .int (mI z_7317)), (2, .int (mI z_7286)), (0, .ref (a 0))]) hx hb dX12_season_174 rfl hl (by decide) rfl (fun ls hl => ?_)
          refine lv_aload_n hx hb dX12_season_175 rfl (lv_at hl 2 rfl) ?_
          refine lv_iload_n hx hb dX12_season_176 rfl (lv_at hl 1 rfl) ?_
          refine lv_iconst (v := mI 1) hx hb dX12_season_177 rfl ?_
          refine lv_aload_n hx hb dX12_season_178 rfl (lv_at hl 2 rfl) ?_
          refine rg_o_all hx hb hts hown hK hP uw_7_66 dX12_season_179 ?_
          refine lv_bipush (v := mI 113) hx hb dX12_season_182 (by decide) ?_
          refine rl_all hx hb hK hP dX12_season_184 (by omega) (bA_bd bF_7311) (fun z_7318 ez_7318 hz_7318 => ?_)
          have hz_7318 := bA_age bF_7311 (by omega) ez_7318
          refine lv_bipush (v := mI 12) hx hb dX12_season_185 (by decide) ?_
          refine sy_irem hx hb dX12_season_187 (by omega) (by omega) (fun z_7319 ez_7319 hz_7319 => ?_)
          refine sy_shl1 hx hb dX12_season_188 11 (by decide) 2048 (by decide) (by omega) (fun z_7320 ez_7320 hz_7320 => ?_)
          refine g_i (rDt hD) hS hA (g_V (own := "HideReaderModel") (As := [.int (mI z_7286), .int (mI z_7320)]) (rest := []) hx hb hml hown hts hK hP (rDt hD) (kr_X12_burnIn (l := l) (D := D) (k := k) (by omega) (by omega) bF_7311) ck_X12_burnIn iv_X12_burnIn uw_9_2 (rv_o hK hP) rfl hl.1 rfl (Nat.le_of_ble_eq_true rfl) dX12_season_189 ⟨Nat.le_of_ble_eq_true rfl, Nat.le_of_ble_eq_true rfl⟩ ⟨Nat.le_of_ble_eq_true rfl, Nat.le_of_ble_eq_true rfl⟩) (fun r_7321 H locs hQ hS => ?_)
          obtain ⟨F_7322, hr_7321_0, bF_7322, hP⟩ := hQ
          refine lv_istore_n (lv' := [(3, .int (mI r_7321)), (1, .int (mI z_7317)), (2, .int (mI z_7286)), (0, .ref (a 0))]) hx hb dX12_season_192 rfl hl (by decide) rfl (fun ls hl => ?_)
          refine lv_iinc (v := mI (z_7286 + 1)) (lv' := [(2, .int (mI (z_7286 + 1))), (3, .int (mI r_7321)), (1, .int (mI z_7317)), (0, .ref (a 0))]) hx hb dX12_season_193 hl (k := 2) rfl (mI_ad rfl) (by decide) rfl (fun ls hl => ?_)
          refine lv_goto (tgt := 111) hx hb dX12_season_196 (by decide) ?_
          exact ih_7306 _ _ _ _ (by omega) ⟨(z_7286 + 1), z_7317, F_7322, _, by omega, by omega, bF_7322, rfl, hP, hS, lv_sub hl [0, 2, 3] rfl, rfl⟩
        · skip
          refine lv_goto (tgt := 193) hx hb dX12_season_166 (by decide) ?_
          refine lv_iinc (v := mI (z_7286 + 1)) (lv' := [(2, .int (mI (z_7286 + 1))), (1, .int (mI z_7287)), (0, .ref (a 0))]) hx hb dX12_season_193 hl (k := 0) rfl (mI_ad rfl) (by decide) rfl (fun ls hl => ?_)
          refine lv_goto (tgt := 111) hx hb dX12_season_196 (by decide) ?_
          exact ih_7306 _ _ _ _ (by omega) ⟨(z_7286 + 1), z_7287, F_7311, _, by omega, by omega, bF_7311, rfl, hP, hS, lv_sub hl [0, 1, 2] rfl, rfl⟩
    · skip
      refine lv_iconst (v := mI 0) hx hb dX12_season_29 rfl ?_
      refine lv_istore_n (lv' := [(2, .int (mI 0)), (1, .int (mI z_5684)), (0, .ref (a 0))]) hx hb dX12_season_30 rfl hl (by decide) rfl (fun ls hl => ?_)
      refine sy_loop (I := fun n H locs g => ∃ (z_7440 : Int) (F_7441 : Nat → Int) (ls : Array Slot), (0 ≤ z_7440 ∧ z_7440 ≤ 12) ∧ (bA F_7441) ∧ (12 - z_7440).toNat = n ∧ va_P D vwCl (rW k a x_taped x_size x_faultKind x_faultPlace x_at x_end x_token x_number x_bank x_rb x_codes x_within x_piled x_unitsInRule x_askBeast x_askStroke x_askAge x_askSeason y_5 y_6 x_laid x_seens x_time x_fitting n_name B_tape B_text B_turns B_herds B_irons B_beasts B_units B_night B_draw B_told B_brands B_ironMarks B_herdTold B_born B_ruleFrom B_ruleTo B_code B_codeNumber B_eWhat B_eSign B_pile F_7441 B_burned F_4 B_need B_laidRow B_long8 B_brings B_sBurning B_sStroke B_sIs B_sTold B_sUntold B_parts B_boxAll B_isBoxed G_hName G_iName G_bName ex) H ∧ va_S A s.heap H locs ∧ lv_has ls 4 [(2, .int (mI z_7440)), (1, .int (mI z_5684)), (0, .ref (a 0))] ∧ g = F0 m 31 ls []) ?_ _ ⟨0, F_5685, _, by omega, bF_5685, rfl, hP, hS, lv_sub hl [0, 1, 2] rfl, rfl⟩
      intro n_7457 H locs g hI ih_7458
      obtain ⟨z_7440, F_7441, ls, h31_0, bF_7441, mn_7457, hP, hS, hl, rfl⟩ := hI
      refine lv_iload_n hx hb dX12_season_31 rfl (lv_at hl 0 rfl) ?_
      refine lv_bipush (v := mI 12) hx hb dX12_season_32 (by decide) ?_
      refine sy_icmp_ge (tgt := 90) hx hb dX12_season_34 (by decide) (by omega) (by decide) (fun c_7459 => ?_) (fun c_7459 => ?_)
      · skip
        refine lv_iinc (v := mI (z_5684 + 1)) (lv' := [(1, .int (mI (z_5684 + 1))), (2, .int (mI z_7440)), (0, .ref (a 0))]) hx hb dX12_season_90 hl (k := 1) rfl (mI_ad rfl) (by decide) rfl (fun ls hl => ?_)
        refine lv_goto (tgt := 21) hx hb dX12_season_93 (by decide) ?_
        exact ih_6580 _ _ _ _ (by omega) ⟨(z_5684 + 1), F_7441, _, by omega, bF_7441, rfl, hP, hS, lv_sub hl [0, 2] rfl, rfl⟩
      · skip
        refine lv_aload_n hx hb dX12_season_37 rfl (lv_at hl 2 rfl) ?_
        refine rg_o_all hx hb hts hown hK hP uw_7_66 dX12_season_38 ?_
        refine lv_iconst (v := mI 0) hx hb dX12_season_41 rfl ?_
        refine lv_iload_n hx hb dX12_season_42 rfl (lv_at hl 1 rfl) ?_
        refine sy_iadd hx hb dX12_season_43 z_5684 (by omega) ?_
        refine rl_all hx hb hK hP dX12_season_44 (by omega) (bA_bd bF_7441) (fun z_7460 ez_7460 hz_7460 => ?_)
        have hz_7460 := bA_hid bF_7441 (by omega) ez_7460
        refine lv_iload_n hx hb dX12_season_45 rfl (lv_at hl 0 rfl) ?_
        refine g_i (rDt hD) hS hA (g_S (own := "HideReaderModel") (As := [.int (mI z_7460), .int (mI z_7440)]) (rest := []) hx hb hml hown hts hK hP (rDt hD) (kr_bit (l := l) (D := D) (k := k)) ck_X12_bit uw_6_229 uw_6_228 rfl hl.1 rfl (Nat.le_of_ble_eq_true rfl) dX12_season_46 ⟨Nat.le_of_ble_eq_true rfl, Nat.le_of_ble_eq_true rfl⟩ ⟨Nat.le_of_ble_eq_true rfl, Nat.le_of_ble_eq_true rfl⟩) (fun r_7461 H locs hQ hS => ?_)
        obtain ⟨hq_r_7461, hP⟩ := hQ
        rcases hq_r_7461 with ⟨rfl, c_7462_0⟩ | ⟨rfl, c_7463_0⟩
        · skip
          refine sy_if_eq (tgt := 84) hx hb dX12_season_49 (by decide) (by decide) (fun c9 => absurd c9 (by decide)) (fun c_7464 => ?_)
          refine lv_aload_n hx hb dX12_season_52 rfl (lv_at hl 2 rfl) ?_
          refine rg_o_all hx hb hts hown hK hP uw_7_66 dX12_season_53 ?_
          refine lv_aload_n hx hb dX12_season_56 rfl (lv_at hl 2 rfl) ?_
          refine lv_iload_n hx hb dX12_season_57 rfl (lv_at hl 1 rfl) ?_
          refine lv_iload_n hx hb dX12_season_58 rfl (lv_at hl 0 rfl) ?_
          refine g_i (rDt hD) hS hA (g_V (own := "HideReaderModel") (As := [.int (mI z_5684), .int (mI z_7440)]) (rest := [.ref (a 25)]) hx hb hml hown hts hK hP (rDt hD) (kr_X12_slot (l := l) (D := D) (k := k) (by omega) (by omega)) ck_X12_slot iv_X12_slot uw_6_224 (rv_o hK hP) rfl hl.1 rfl (Nat.le_of_ble_eq_true rfl) dX12_season_59 ⟨Nat.le_of_ble_eq_true rfl, Nat.le_of_ble_eq_true rfl⟩ ⟨Nat.le_of_ble_eq_true rfl, Nat.le_of_ble_eq_true rfl⟩) (fun r_7465 H locs hQ hS => ?_)
          obtain ⟨hq_r_7465, hP⟩ := hQ
          obtain rfl := hq_r_7465
          refine rl_all hx hb hK hP dX12_season_62 (by omega) (bA_bd bF_7441) (fun z_7467 ez_7467 hz_7467 => ?_)
          have hz_7467 := bA_age bF_7441 (by omega) ez_7467
          refine lv_sipush (v := mI 999) hx hb dX12_season_63 (by decide) ?_
          refine sy_icmp_ge (tgt := 84) hx hb dX12_season_66 (by decide) (by omega) (by decide) (fun c_7468 => ?_) (fun c_7468 => ?_)
          · skip
            refine lv_iinc (v := mI (z_7440 + 1)) (lv' := [(2, .int (mI (z_7440 + 1))), (1, .int (mI z_5684)), (0, .ref (a 0))]) hx hb dX12_season_84 hl (k := 0) rfl (mI_ad rfl) (by decide) rfl (fun ls hl => ?_)
            refine lv_goto (tgt := 31) hx hb dX12_season_87 (by decide) ?_
            exact ih_7458 _ _ _ _ (by omega) ⟨(z_7440 + 1), F_7441, _, by omega, bF_7441, rfl, hP, hS, lv_sub hl [0, 1, 2] rfl, rfl⟩
          · skip
            refine lv_aload_n hx hb dX12_season_69 rfl (lv_at hl 2 rfl) ?_
            refine rg_o_all hx hb hts hown hK hP uw_7_66 dX12_season_70 ?_
            refine lv_aload_n hx hb dX12_season_73 rfl (lv_at hl 2 rfl) ?_
            refine lv_iload_n hx hb dX12_season_74 rfl (lv_at hl 1 rfl) ?_
            refine lv_iload_n hx hb dX12_season_75 rfl (lv_at hl 0 rfl) ?_
            refine g_i (rDt hD) hS hA (g_V (own := "HideReaderModel") (As := [.int (mI z_5684), .int (mI z_7440)]) (rest := [.ref (a 25)]) hx hb hml hown hts hK hP (rDt hD) (kr_X12_slot (l := l) (D := D) (k := k) (by omega) (by omega)) ck_X12_slot iv_X12_slot uw_6_224 (rv_o hK hP) rfl hl.1 rfl (Nat.le_of_ble_eq_true rfl) dX12_season_76 ⟨Nat.le_of_ble_eq_true rfl, Nat.le_of_ble_eq_true rfl⟩ ⟨Nat.le_of_ble_eq_true rfl, Nat.le_of_ble_eq_true rfl⟩) (fun r_7469 H locs hQ hS => ?_)
            obtain ⟨hq_r_7469, hP⟩ := hQ
            obtain rfl := hq_r_7469
            refine lv_dup2_11 hx hb dX12_season_79 rfl rfl ?_
            refine rl_all hx hb hK hP dX12_season_80 (by omega) (bA_bd bF_7441) (fun z_7471 ez_7471 hz_7471 => ?_)
            have hz_7471 := bA_age bF_7441 (by omega) ez_7471
            refine lv_iconst (v := mI 1) hx hb dX12_season_81 rfl ?_
            refine sy_iadd hx hb dX12_season_82 (z_7471 + 1) rfl ?_
            refine rs_all hx hb hK hP hD hS dX12_season_83 (by omega) (bA_bd bF_7441) (by omega) (fun F_7472 H locs eF_7472 bF_7472 hP hS => ?_)
            have bF_7472 := bA_s999 bF_7441 eF_7472 (by omega) (by omega)
            refine lv_iinc (v := mI (z_7440 + 1)) (lv' := [(2, .int (mI (z_7440 + 1))), (1, .int (mI z_5684)), (0, .ref (a 0))]) hx hb dX12_season_84 hl (k := 0) rfl (mI_ad rfl) (by decide) rfl (fun ls hl => ?_)
            refine lv_goto (tgt := 31) hx hb dX12_season_87 (by decide) ?_
            exact ih_7458 _ _ _ _ (by omega) ⟨(z_7440 + 1), F_7472, _, by omega, bF_7472, rfl, hP, hS, lv_sub hl [0, 1, 2] rfl, rfl⟩
        · skip
          refine sy_if_eq (tgt := 84) hx hb dX12_season_49 (by decide) (by decide) (fun c_7473 => ?_) (fun c9 => absurd c9 (by decide))
          refine lv_iinc (v := mI (z_7440 + 1)) (lv' := [(2, .int (mI (z_7440 + 1))), (1, .int (mI z_5684)), (0, .ref (a 0))]) hx hb dX12_season_84 hl (k := 0) rfl (mI_ad rfl) (by decide) rfl (fun ls hl => ?_)
          refine lv_goto (tgt := 31) hx hb dX12_season_87 (by decide) ?_
          exact ih_7458 _ _ _ _ (by omega) ⟨(z_7440 + 1), F_7441, _, by omega, bF_7441, rfl, hP, hS, lv_sub hl [0, 1, 2] rfl, rfl⟩
  · skip
    refine lv_iconst (v := mI (-1)) hx hb dX12_season_13 rfl ?_
    exact r_i hx hb hr hlocks dX12_season_14 hS ⟨B_all, B_was, x_acts, x_undone, by omega, b_B_all, b_B_was, by omega, by omega, by omega, g_A, hP⟩
set_option maxHeartbeats 4000000 in
set_option maxRecDepth 100000 in
theorem kr_X12_raid {p0 p1 : Int} (hp0 : -2147483648 ≤ p0 ∧ p0 ≤ 2147483647) (hp1 : -2147483648 ≤ p1 ∧ p1 ≤ 2147483647) (h_x_bank : 0 ≤ x_bank ∧ x_bank ≤ 1) (b_B_turns : bd (1) 4 B_turns) (b_B_herds : bd (0) 8 B_herds) (b_B_irons : bd (0) 6 B_irons) (b_B_beasts : bd (0) 8 B_beasts) (b_B_told : bd (0) 31 B_told) (b_B_brands : bd (0) 4095 B_brands) (b_B_all : bA B_all) (b_B_burned : bd (0) 4095 B_burned) (b_B_need : bd (0) 100 B_need) (b_B_laidRow : bd (0) 47 B_laidRow) (b_B_brings : bd (-2147483648) 2147483647 B_brings) : MetG l D k yX12_raid cX12_raid 5 (some .int) 6 [.ref (a 0), .int (mI p0), .int (mI p1)] (rW k a x_taped x_size x_faultKind x_faultPlace x_at x_end x_token x_number x_bank x_rb x_codes x_within x_piled x_unitsInRule x_askBeast x_askStroke x_askAge x_askSeason x_acts x_undone x_laid x_seens x_time x_fitting n_name B_tape B_text B_turns B_herds B_irons B_beasts B_units B_night B_draw B_told B_brands B_ironMarks B_herdTold B_born B_ruleFrom B_ruleTo B_code B_codeNumber B_eWhat B_eSign B_pile B_all B_burned B_was B_need B_laidRow B_long8 B_brings B_sBurning B_sStroke B_sIs B_sTold B_sUntold B_parts B_boxAll B_isBoxed G_hName G_iName G_bName ex) (qGi (fun r0 H => ∃ (F_need : Nat → Int) (F_laidRow : Nat → Int) (y_laid : Int) (F_brings : Nat → Int), (-1 ≤ r0 ∧ r0 ≤ 64) ∧ (bd (0) 100 F_need) ∧ (bd (0) 47 F_laidRow) ∧ (0 ≤ y_laid ∧ y_laid ≤ 2) ∧ (bd (-2147483648) 2147483647 F_brings) ∧ va_P D vwCl (rW k a x_taped x_size x_faultKind x_faultPlace x_at x_end x_token x_number x_bank x_rb x_codes x_within x_piled x_unitsInRule x_askBeast x_askStroke x_askAge x_askSeason x_acts x_undone y_laid x_seens x_time x_fitting n_name B_tape B_text B_turns B_herds B_irons B_beasts B_units B_night B_draw B_told B_brands B_ironMarks B_herdTold B_born B_ruleFrom B_ruleTo B_code B_codeNumber B_eWhat B_eSign B_pile B_all B_burned B_was F_need F_laidRow B_long8 F_brings B_sBurning B_sStroke B_sIs B_sTold B_sUntold B_parts B_boxAll B_isBoxed G_hName G_iName G_bName ex) H)) := by
  refine metG_of 2 ck_X12_raid (Nat.le_of_ble_eq_true rfl) rMap (fun p e s m args below meth c A hx hb hml hr hlocks hown hts hK hD hA hP hS ls hl => ?_)
  have hown : s.vm.findClass "HideReaderModel" = some m.cls := hown
  have hl : lv_has ls 5 [(0, .ref (a 0)), (1, .int (mI p0)), (2, .int (mI p1))] := hl
  refine lv_aload_n hx hb dX12_raid_0 rfl (lv_at hl 0 rfl) ?_
  refine lv_iconst (v := mI 0) hx hb dX12_raid_1 rfl ?_
  refine rp_o_laid hx hb hts hown hK hP hD hS uw_7_73 dX12_raid_2 (fun H locs hP hS => ?_)
  refine lv_aload_n hx hb dX12_raid_5 rfl (lv_at hl 0 rfl) ?_
  refine lv_iload_n hx hb dX12_raid_6 rfl (lv_at hl 1 rfl) ?_
  refine g_i (rDt hD) hS hA (g_V (own := "HideReaderModel") (As := [.int (mI p0)]) (rest := []) hx hb hml hown hts hK hP (rDt hD) (kr_X12_isHerd (l := l) (D := D) (k := k) (by omega) h_x_bank b_B_herds) ck_X12_isHerd iv_X12_isHerd uw_8_122 (rv_o hK hP) rfl hl.1 rfl (Nat.le_of_ble_eq_true rfl) dX12_raid_7 ⟨Nat.le_of_ble_eq_true rfl, Nat.le_of_ble_eq_true rfl⟩ ⟨Nat.le_of_ble_eq_true rfl, Nat.le_of_ble_eq_true rfl⟩) (fun r_1 H locs hQ hS => ?_)
  obtain ⟨hq_r_1, hP⟩ := hQ
  rcases hq_r_1 with rfl | ⟨rfl, c_3_0⟩
  · skip
    refine sy_if_eq (tgt := 33) hx hb dX12_raid_10 (by decide) (by decide) (fun c_4 => ?_) (fun c9 => absurd c9 (by decide))
    refine lv_iconst (v := mI (-1)) hx hb dX12_raid_33 rfl ?_
    exact r_i hx hb hr hlocks dX12_raid_34 hS ⟨B_need, B_laidRow, 0, B_brings, by omega, b_B_need, b_B_laidRow, by omega, b_B_brings, hP⟩
  · skip
    refine sy_if_eq (tgt := 33) hx hb dX12_raid_10 (by decide) (by decide) (fun c9 => absurd c9 (by decide)) (fun c_5 => ?_)
    refine lv_aload_n hx hb dX12_raid_13 rfl (lv_at hl 0 rfl) ?_
    refine lv_iload_n hx hb dX12_raid_14 rfl (lv_at hl 2 rfl) ?_
    refine g_i (rDt hD) hS hA (g_V (own := "HideReaderModel") (As := [.int (mI p1)]) (rest := []) hx hb hml hown hts hK hP (rDt hD) (kr_X12_isHerd (l := l) (D := D) (k := k) (by omega) h_x_bank b_B_herds) ck_X12_isHerd iv_X12_isHerd uw_8_122 (rv_o hK hP) rfl hl.1 rfl (Nat.le_of_ble_eq_true rfl) dX12_raid_15 ⟨Nat.le_of_ble_eq_true rfl, Nat.le_of_ble_eq_true rfl⟩ ⟨Nat.le_of_ble_eq_true rfl, Nat.le_of_ble_eq_true rfl⟩) (fun r_6 H locs hQ hS => ?_)
    obtain ⟨hq_r_6, hP⟩ := hQ
    rcases hq_r_6 with rfl | ⟨rfl, c_8_0⟩
    · skip
      refine sy_if_eq (tgt := 33) hx hb dX12_raid_18 (by decide) (by decide) (fun c_9 => ?_) (fun c9 => absurd c9 (by decide))
      refine lv_iconst (v := mI (-1)) hx hb dX12_raid_33 rfl ?_
      exact r_i hx hb hr hlocks dX12_raid_34 hS ⟨B_need, B_laidRow, 0, B_brings, by omega, b_B_need, b_B_laidRow, by omega, b_B_brings, hP⟩
    · skip
      refine sy_if_eq (tgt := 33) hx hb dX12_raid_18 (by decide) (by decide) (fun c9 => absurd c9 (by decide)) (fun c_10 => ?_)
      refine lv_iload_n hx hb dX12_raid_21 rfl (lv_at hl 1 rfl) ?_
      refine lv_iload_n hx hb dX12_raid_22 rfl (lv_at hl 2 rfl) ?_
      refine sy_icmp_eq (tgt := 33) hx hb dX12_raid_23 (by decide) (by omega) (by omega) (fun c_11 => ?_) (fun c_11 => ?_)
      · skip
        refine lv_iconst (v := mI (-1)) hx hb dX12_raid_33 rfl ?_
        exact r_i hx hb hr hlocks dX12_raid_34 hS ⟨B_need, B_laidRow, 0, B_brings, by omega, b_B_need, b_B_laidRow, by omega, b_B_brings, hP⟩
      · skip
        refine lv_aload_n hx hb dX12_raid_26 rfl (lv_at hl 0 rfl) ?_
        refine g_i (rDt hD) hS hA (g_V (own := "HideReaderModel") (As := []) (rest := []) hx hb hml hown hts hK hP (rDt hD) (kr_X12_cattle (l := l) (D := D) (k := k) h_x_bank b_B_beasts) ck_X12_cattle iv_X12_cattle uw_6_212 (rv_o hK hP) rfl hl.1 rfl (Nat.le_of_ble_eq_true rfl) dX12_raid_27 ⟨Nat.le_of_ble_eq_true rfl, Nat.le_of_ble_eq_true rfl⟩ ⟨Nat.le_of_ble_eq_true rfl, Nat.le_of_ble_eq_true rfl⟩) (fun r_12 H locs hQ hS => ?_)
        obtain ⟨hr_12_0, hr_12_1, hP⟩ := hQ
        refine sy_if_ne (tgt := 35) hx hb dX12_raid_30 (by decide) (by omega) (fun c_13 => ?_) (fun c_13 => ?_)
        · skip
          refine lv_aload_n hx hb dX12_raid_35 rfl (lv_at hl 0 rfl) ?_
          refine lv_iconst (v := mI 0) hx hb dX12_raid_36 rfl ?_
          refine lv_iload_n hx hb dX12_raid_37 rfl (lv_at hl 1 rfl) ?_
          refine g_v (rDt hD) hS hA (g_V (own := "HideReaderModel") (As := [.int (mI 0), .int (mI p0)]) (rest := []) hx hb hml hown hts hK hP (rDt hD) (kr_X12_layBrings (l := l) (D := D) (k := k) (by decide) (by omega) h_x_bank b_B_turns b_B_irons b_B_beasts b_B_told b_B_brands b_B_all b_B_burned b_B_need b_B_brings) ck_X12_layBrings iv_X12_layBrings uw_9_134 (rv_o hK hP) rfl hl.1 rfl (Nat.le_of_ble_eq_true rfl) dX12_raid_38 ⟨Nat.le_of_ble_eq_true rfl, Nat.le_of_ble_eq_true rfl⟩ ⟨Nat.le_of_ble_eq_true rfl, Nat.le_of_ble_eq_true rfl⟩) (fun H locs hQ hS => ?_)
          obtain ⟨F_15, F_16, bF_15, bF_16, hP⟩ := hQ
          refine lv_aload_n hx hb dX12_raid_41 rfl (lv_at hl 0 rfl) ?_
          refine lv_iconst (v := mI 1) hx hb dX12_raid_42 rfl ?_
          refine lv_iload_n hx hb dX12_raid_43 rfl (lv_at hl 2 rfl) ?_
          refine g_v (rDt hD) hS hA (g_V (own := "HideReaderModel") (As := [.int (mI 1), .int (mI p1)]) (rest := []) hx hb hml hown hts hK hP (rDt hD) (kr_X12_layBrings (l := l) (D := D) (k := k) (by decide) (by omega) h_x_bank b_B_turns b_B_irons b_B_beasts b_B_told b_B_brands b_B_all b_B_burned bF_15 bF_16) ck_X12_layBrings iv_X12_layBrings uw_9_134 (rv_o hK hP) rfl hl.1 rfl (Nat.le_of_ble_eq_true rfl) dX12_raid_44 ⟨Nat.le_of_ble_eq_true rfl, Nat.le_of_ble_eq_true rfl⟩ ⟨Nat.le_of_ble_eq_true rfl, Nat.le_of_ble_eq_true rfl⟩) (fun H locs hQ hS => ?_)
          obtain ⟨F_18, F_19, bF_18, bF_19, hP⟩ := hQ
          refine lv_iconst (v := mI 0) hx hb dX12_raid_47 rfl ?_
          refine lv_istore_n (lv' := [(3, .int (mI 0)), (0, .ref (a 0)), (1, .int (mI p0)), (2, .int (mI p1))]) hx hb dX12_raid_48 rfl hl (by decide) rfl (fun ls hl => ?_)
          refine lv_iconst (v := mI 0) hx hb dX12_raid_49 rfl ?_
          refine lv_istore (lv' := [(4, .int (mI 0)), (3, .int (mI 0)), (0, .ref (a 0)), (1, .int (mI p0)), (2, .int (mI p1))]) hx hb dX12_raid_50 hl (by decide) rfl (fun ls hl => ?_)
          refine sy_loop (I := fun n H locs g => ∃ (z_269 : Int) (z_270 : Int) (F_271 : Nat → Int) (y_272 : Int) (ls : Array Slot), (0 ≤ z_269 ∧ z_269 ≤ 64) ∧ (0 ≤ z_270 ∧ z_270 ≤ 64) ∧ (bd (0) 47 F_271) ∧ (0 ≤ y_272 ∧ y_272 ≤ 2) ∧ (0 ≤ z_269 - z_270) ∧ (64 - z_269).toNat = n ∧ va_P D vwCl (rW k a x_taped x_size x_faultKind x_faultPlace x_at x_end x_token x_number x_bank x_rb x_codes x_within x_piled x_unitsInRule x_askBeast x_askStroke x_askAge x_askSeason x_acts x_undone y_272 x_seens x_time x_fitting n_name B_tape B_text B_turns B_herds B_irons B_beasts B_units B_night B_draw B_told B_brands B_ironMarks B_herdTold B_born B_ruleFrom B_ruleTo B_code B_codeNumber B_eWhat B_eSign B_pile B_all B_burned B_was F_18 F_271 B_long8 F_19 B_sBurning B_sStroke B_sIs B_sTold B_sUntold B_parts B_boxAll B_isBoxed G_hName G_iName G_bName ex) H ∧ va_S A s.heap H locs ∧ lv_has ls 5 [(4, .int (mI z_269)), (3, .int (mI z_270)), (0, .ref (a 0)), (1, .int (mI p0)), (2, .int (mI p1))] ∧ g = F0 m 52 ls []) ?_ _ ⟨0, 0, B_laidRow, 0, _, by omega, by omega, b_B_laidRow, by omega, by omega, rfl, hP, hS, lv_sub hl [0, 1, 2, 3, 4] rfl, rfl⟩
          intro n_292 H locs g hI ih_293
          obtain ⟨z_269, z_270, F_271, y_272, ls, h52_0, h52_1, bF_271, h52_3, h52_4, mn_292, hP, hS, hl, rfl⟩ := hI
          refine lv_iload hx hb dX12_raid_52 (lv_at hl 0 rfl) ?_
          refine lv_aload_n hx hb dX12_raid_54 rfl (lv_at hl 2 rfl) ?_
          refine g_i (rDt hD) hS hA (g_V (own := "HideReaderModel") (As := []) (rest := [.int (mI z_269)]) hx hb hml hown hts hK hP (rDt hD) (kr_X12_cattle (l := l) (D := D) (k := k) h_x_bank b_B_beasts) ck_X12_cattle iv_X12_cattle uw_6_212 (rv_o hK hP) rfl hl.1 rfl (Nat.le_of_ble_eq_true rfl) dX12_raid_55 ⟨Nat.le_of_ble_eq_true rfl, Nat.le_of_ble_eq_true rfl⟩ ⟨Nat.le_of_ble_eq_true rfl, Nat.le_of_ble_eq_true rfl⟩) (fun r_294 H locs hQ hS => ?_)
          obtain ⟨hr_294_0, hr_294_1, hP⟩ := hQ
          refine lv_aload_n hx hb dX12_raid_58 rfl (lv_at hl 2 rfl) ?_
          refine g_i (rDt hD) hS hA (g_V (own := "HideReaderModel") (As := []) (rest := [.int (mI r_294), .int (mI z_269)]) hx hb hml hown hts hK hP (rDt hD) (kr_X12_cattle (l := l) (D := D) (k := k) h_x_bank b_B_beasts) ck_X12_cattle iv_X12_cattle uw_6_212 (rv_o hK hP) rfl hl.1 rfl (Nat.le_of_ble_eq_true rfl) dX12_raid_59 ⟨Nat.le_of_ble_eq_true rfl, Nat.le_of_ble_eq_true rfl⟩ ⟨Nat.le_of_ble_eq_true rfl, Nat.le_of_ble_eq_true rfl⟩) (fun r_295 H locs hQ hS => ?_)
          obtain ⟨hr_295_0, hr_295_1, hP⟩ := hQ
          refine sy_imulB (A := 8) (B := 8) hx hb dX12_raid_62 64 (by decide) (by omega) (by omega) (fun z_296 ez_296 hz_296 => ?_)
          refine sy_icmp_ge (tgt := 134) hx hb dX12_raid_63 (by decide) (by omega) (by omega) (fun c_297 => ?_) (fun c_297 => ?_)
          · skip
            refine lv_iload_n hx hb dX12_raid_134 rfl (lv_at hl 1 rfl) ?_
            exact r_i hx hb hr hlocks dX12_raid_135 hS ⟨F_18, F_271, y_272, F_19, by omega, bF_18, bF_271, by omega, bF_19, hP⟩
          · skip
            refine lv_aload_n hx hb dX12_raid_66 rfl (lv_at hl 2 rfl) ?_
            refine lv_iload hx hb dX12_raid_67 (lv_at hl 0 rfl) ?_
            refine lv_aload_n hx hb dX12_raid_69 rfl (lv_at hl 2 rfl) ?_
            refine g_i (rDt hD) hS hA (g_V (own := "HideReaderModel") (As := []) (rest := [.int (mI z_269), .ref (a 0)]) hx hb hml hown hts hK hP (rDt hD) (kr_X12_cattle (l := l) (D := D) (k := k) h_x_bank b_B_beasts) ck_X12_cattle iv_X12_cattle uw_6_212 (rv_o hK hP) rfl hl.1 rfl (Nat.le_of_ble_eq_true rfl) dX12_raid_70 ⟨Nat.le_of_ble_eq_true rfl, Nat.le_of_ble_eq_true rfl⟩ ⟨Nat.le_of_ble_eq_true rfl, Nat.le_of_ble_eq_true rfl⟩) (fun r_298 H locs hQ hS => ?_)
            obtain ⟨hr_298_0, hr_298_1, hP⟩ := hQ
            refine sy_idiv hx hb dX12_raid_73 (by omega) (by omega) (fun z_299 ez_299 hz_299 => ?_)
            have h_300 := dv_lt ez_296 (by omega) (by omega) (by omega) ez_299
            refine lv_iload hx hb dX12_raid_74 (lv_at hl 0 rfl) ?_
            refine lv_aload_n hx hb dX12_raid_76 rfl (lv_at hl 2 rfl) ?_
            refine g_i (rDt hD) hS hA (g_V (own := "HideReaderModel") (As := []) (rest := [.int (mI z_269), .int (mI z_299), .ref (a 0)]) hx hb hml hown hts hK hP (rDt hD) (kr_X12_cattle (l := l) (D := D) (k := k) h_x_bank b_B_beasts) ck_X12_cattle iv_X12_cattle uw_6_212 (rv_o hK hP) rfl hl.1 rfl (Nat.le_of_ble_eq_true rfl) dX12_raid_77 ⟨Nat.le_of_ble_eq_true rfl, Nat.le_of_ble_eq_true rfl⟩ ⟨Nat.le_of_ble_eq_true rfl, Nat.le_of_ble_eq_true rfl⟩) (fun r_301 H locs hQ hS => ?_)
            obtain ⟨hr_301_0, hr_301_1, hP⟩ := hQ
            refine sy_irem hx hb dX12_raid_80 (by omega) (by omega) (fun z_302 ez_302 hz_302 => ?_)
            refine g_i (rDt hD) hS hA (g_V (own := "HideReaderModel") (As := [.int (mI z_299), .int (mI z_302)]) (rest := []) hx hb hml hown hts hK hP (rDt hD) (kr_X12_isRest (l := l) (D := D) (k := k) (by omega) (by omega) h_x_bank b_B_beasts bF_19) ck_X12_isRest iv_X12_isRest uw_9_138 (rv_o hK hP) rfl hl.1 rfl (Nat.le_of_ble_eq_true rfl) dX12_raid_81 ⟨Nat.le_of_ble_eq_true rfl, Nat.le_of_ble_eq_true rfl⟩ ⟨Nat.le_of_ble_eq_true rfl, Nat.le_of_ble_eq_true rfl⟩) (fun r_303 H locs hQ hS => ?_)
            obtain ⟨hr_303_0, hP⟩ := hQ
            refine sy_if_ne (tgt := 90) hx hb dX12_raid_84 (by decide) (by omega) (fun c_304 => ?_) (fun c_304 => ?_)
            · skip
              refine lv_iload_n hx hb dX12_raid_90 rfl (lv_at hl 1 rfl) ?_
              refine sy_if_ne (tgt := 125) hx hb dX12_raid_91 (by decide) (by omega) (fun c_305 => ?_) (fun c_305 => ?_)
              · skip
                refine lv_iinc (v := mI (z_270 + 1)) (lv' := [(3, .int (mI (z_270 + 1))), (4, .int (mI z_269)), (0, .ref (a 0)), (1, .int (mI p0)), (2, .int (mI p1))]) hx hb dX12_raid_125 hl (k := 1) rfl (mI_ad rfl) (by decide) rfl (fun ls hl => ?_)
                refine lv_iinc (v := mI (z_269 + 1)) (lv' := [(4, .int (mI (z_269 + 1))), (3, .int (mI (z_270 + 1))), (0, .ref (a 0)), (1, .int (mI p0)), (2, .int (mI p1))]) hx hb dX12_raid_128 hl (k := 1) rfl (mI_ad rfl) (by decide) rfl (fun ls hl => ?_)
                refine lv_goto (tgt := 52) hx hb dX12_raid_131 (by decide) ?_
                exact ih_293 _ _ _ _ (by omega) ⟨(z_269 + 1), (z_270 + 1), F_271, y_272, _, by omega, by omega, bF_271, by omega, by omega, rfl, hP, hS, lv_sub hl [0, 1, 2, 3, 4] rfl, rfl⟩
              · skip
                refine lv_aload_n hx hb dX12_raid_94 rfl (lv_at hl 2 rfl) ?_
                refine rg_o_laidRow hx hb hts hown hK hP uw_7_72 dX12_raid_95 ?_
                refine lv_iconst (v := mI 0) hx hb dX12_raid_98 rfl ?_
                refine lv_iload hx hb dX12_raid_99 (lv_at hl 0 rfl) ?_
                refine lv_aload_n hx hb dX12_raid_101 rfl (lv_at hl 2 rfl) ?_
                refine g_i (rDt hD) hS hA (g_V (own := "HideReaderModel") (As := []) (rest := [.int (mI z_269), .int (mI 0), .ref (a 29)]) hx hb hml hown hts hK hP (rDt hD) (kr_X12_cattle (l := l) (D := D) (k := k) h_x_bank b_B_beasts) ck_X12_cattle iv_X12_cattle uw_6_212 (rv_o hK hP) rfl hl.1 rfl (Nat.le_of_ble_eq_true rfl) dX12_raid_102 ⟨Nat.le_of_ble_eq_true rfl, Nat.le_of_ble_eq_true rfl⟩ ⟨Nat.le_of_ble_eq_true rfl, Nat.le_of_ble_eq_true rfl⟩) (fun r_306 H locs hQ hS => ?_)
                obtain ⟨hr_306_0, hr_306_1, hP⟩ := hQ
                refine sy_idiv hx hb dX12_raid_105 (by omega) (by omega) (fun z_307 ez_307 hz_307 => ?_)
                have h_308 := dv_lt ez_296 (by omega) (by omega) (by omega) ez_307
                refine rs_laidRow hx hb hK hP hD hS dX12_raid_106 (by omega) bF_271 (by omega) (fun F_309 H locs _ bF_309 hP hS => ?_)
                refine lv_aload_n hx hb dX12_raid_107 rfl (lv_at hl 2 rfl) ?_
                refine rg_o_laidRow hx hb hts hown hK hP uw_7_72 dX12_raid_108 ?_
                refine lv_iconst (v := mI 1) hx hb dX12_raid_111 rfl ?_
                refine lv_iload hx hb dX12_raid_112 (lv_at hl 0 rfl) ?_
                refine lv_aload_n hx hb dX12_raid_114 rfl (lv_at hl 2 rfl) ?_
                refine g_i (rDt hD) hS hA (g_V (own := "HideReaderModel") (As := []) (rest := [.int (mI z_269), .int (mI 1), .ref (a 29)]) hx hb hml hown hts hK hP (rDt hD) (kr_X12_cattle (l := l) (D := D) (k := k) h_x_bank b_B_beasts) ck_X12_cattle iv_X12_cattle uw_6_212 (rv_o hK hP) rfl hl.1 rfl (Nat.le_of_ble_eq_true rfl) dX12_raid_115 ⟨Nat.le_of_ble_eq_true rfl, Nat.le_of_ble_eq_true rfl⟩ ⟨Nat.le_of_ble_eq_true rfl, Nat.le_of_ble_eq_true rfl⟩) (fun r_310 H locs hQ hS => ?_)
                obtain ⟨hr_310_0, hr_310_1, hP⟩ := hQ
                refine sy_irem hx hb dX12_raid_118 (by omega) (by omega) (fun z_311 ez_311 hz_311 => ?_)
                refine rs_laidRow hx hb hK hP hD hS dX12_raid_119 (by omega) bF_309 (by omega) (fun F_312 H locs _ bF_312 hP hS => ?_)
                refine lv_aload_n hx hb dX12_raid_120 rfl (lv_at hl 2 rfl) ?_
                refine lv_iconst (v := mI 2) hx hb dX12_raid_121 rfl ?_
                refine rp_o_laid hx hb hts hown hK hP hD hS uw_7_73 dX12_raid_122 (fun H locs hP hS => ?_)
                refine lv_iinc (v := mI (z_270 + 1)) (lv' := [(3, .int (mI (z_270 + 1))), (4, .int (mI z_269)), (0, .ref (a 0)), (1, .int (mI p0)), (2, .int (mI p1))]) hx hb dX12_raid_125 hl (k := 1) rfl (mI_ad rfl) (by decide) rfl (fun ls hl => ?_)
                refine lv_iinc (v := mI (z_269 + 1)) (lv' := [(4, .int (mI (z_269 + 1))), (3, .int (mI (z_270 + 1))), (0, .ref (a 0)), (1, .int (mI p0)), (2, .int (mI p1))]) hx hb dX12_raid_128 hl (k := 1) rfl (mI_ad rfl) (by decide) rfl (fun ls hl => ?_)
                refine lv_goto (tgt := 52) hx hb dX12_raid_131 (by decide) ?_
                exact ih_293 _ _ _ _ (by omega) ⟨(z_269 + 1), (z_270 + 1), F_312, 2, _, by omega, by omega, bF_312, by omega, by omega, rfl, hP, hS, lv_sub hl [0, 1, 2, 3, 4] rfl, rfl⟩
            · skip
              refine lv_goto (tgt := 128) hx hb dX12_raid_87 (by decide) ?_
              refine lv_iinc (v := mI (z_269 + 1)) (lv' := [(4, .int (mI (z_269 + 1))), (3, .int (mI z_270)), (0, .ref (a 0)), (1, .int (mI p0)), (2, .int (mI p1))]) hx hb dX12_raid_128 hl (k := 0) rfl (mI_ad rfl) (by decide) rfl (fun ls hl => ?_)
              refine lv_goto (tgt := 52) hx hb dX12_raid_131 (by decide) ?_
              exact ih_293 _ _ _ _ (by omega) ⟨(z_269 + 1), z_270, F_271, y_272, _, by omega, by omega, bF_271, by omega, by omega, rfl, hP, hS, lv_sub hl [0, 1, 2, 3, 4] rfl, rfl⟩
        · skip
          refine lv_iconst (v := mI (-1)) hx hb dX12_raid_33 rfl ?_
          exact r_i hx hb hr hlocks dX12_raid_34 hS ⟨B_need, B_laidRow, 0, B_brings, by omega, b_B_need, b_B_laidRow, by omega, b_B_brings, hP⟩
end Kr
