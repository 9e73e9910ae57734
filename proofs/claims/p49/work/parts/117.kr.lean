section Kr
variable {l : Launch} {D : va_G} {k : Nat → ClassId} {a : Nat → Nat} {ex : va_W} {x_taped x_size x_faultKind x_faultPlace x_at x_end x_token x_number x_bank x_rb x_codes x_within x_piled x_unitsInRule x_askBeast x_askStroke x_askAge x_askSeason x_acts x_undone x_laid x_seens x_time x_fitting : Int} {n_name : Int64} {B_tape B_text B_turns B_herds B_irons B_beasts B_units B_night B_draw B_told B_brands B_ironMarks B_herdTold B_born B_ruleFrom B_ruleTo B_code B_codeNumber B_eWhat B_eSign B_pile B_all B_burned B_was B_need B_laidRow B_long8 B_brings B_sBurning B_sStroke B_sIs B_sTold B_sUntold B_parts B_boxAll B_isBoxed : Nat → Int} {G_hName G_iName G_bName : Nat → Int64}
set_option maxHeartbeats 4000000 in
set_option maxRecDepth 100000 in
theorem kr_X12_numeral_v0_99 (h_c0 : 0 ≤ 0 ∧ 0 ≤ 0) (h_c1 : 99 ≤ 99 ∧ 99 ≤ 99) (h_x_size : 0 ≤ x_size ∧ x_size ≤ 1600) (h_x_faultKind : 0 ≤ x_faultKind ∧ x_faultKind ≤ 5) (h_x_faultPlace : -1 ≤ x_faultPlace ∧ x_faultPlace ≤ 1600) (h_x_at : 0 ≤ x_at ∧ x_at ≤ 1600) (h_x_end : 0 ≤ x_end ∧ x_end ≤ 1600) (h_x_token : 0 ≤ x_token ∧ x_token ≤ 5) (h_x_number : -2147483648 ≤ x_number ∧ x_number ≤ 2147483647) (b_B_text : bd (-128) 127 B_text) (g_E : x_end ≤ x_size) : MetG l D k yX12_numeral cX12_numeral 4 (some .int) 2 [.ref (a 0), .int (mI 0), .int (mI 99)] (rW k a x_taped x_size x_faultKind x_faultPlace x_at x_end x_token x_number x_bank x_rb x_codes x_within x_piled x_unitsInRule x_askBeast x_askStroke x_askAge x_askSeason x_acts x_undone x_laid x_seens x_time x_fitting n_name B_tape B_text B_turns B_herds B_irons B_beasts B_units B_night B_draw B_told B_brands B_ironMarks B_herdTold B_born B_ruleFrom B_ruleTo B_code B_codeNumber B_eWhat B_eSign B_pile B_all B_burned B_was B_need B_laidRow B_long8 B_brings B_sBurning B_sStroke B_sIs B_sTold B_sUntold B_parts B_boxAll B_isBoxed G_hName G_iName G_bName ex) (qGi (fun r0 H => ∃ (y_faultKind : Int) (y_faultPlace : Int) (y_at : Int) (y_end : Int) (y_token : Int) (y_number : Int) (j_name : Int64), (0 ≤ r0 ∧ r0 ≤ 99) ∧ (0 ≤ y_faultKind ∧ y_faultKind ≤ 5) ∧ (-1 ≤ y_faultPlace ∧ y_faultPlace ≤ 1600) ∧ (0 ≤ y_at ∧ y_at ≤ 1600) ∧ (0 ≤ y_end ∧ y_end ≤ 1600) ∧ (0 ≤ y_token ∧ y_token ≤ 5) ∧ (-2147483648 ≤ y_number ∧ y_number ≤ 2147483647) ∧ (0 ≤ y_faultKind - x_faultKind) ∧ (0 ≤ y_end - x_end) ∧ (1 ≤ y_faultKind ∨ y_token ≤ 0 ∨ x_end + 1 ≤ y_end) ∧ (x_token = 4 ∨ 1 ≤ y_faultKind) ∧ (y_end ≤ x_size) ∧ va_P D vwCl (rW k a x_taped x_size y_faultKind y_faultPlace y_at y_end y_token y_number x_bank x_rb x_codes x_within x_piled x_unitsInRule x_askBeast x_askStroke x_askAge x_askSeason x_acts x_undone x_laid x_seens x_time x_fitting j_name B_tape B_text B_turns B_herds B_irons B_beasts B_units B_night B_draw B_told B_brands B_ironMarks B_herdTold B_born B_ruleFrom B_ruleTo B_code B_codeNumber B_eWhat B_eSign B_pile B_all B_burned B_was B_need B_laidRow B_long8 B_brings B_sBurning B_sStroke B_sIs B_sTold B_sUntold B_parts B_boxAll B_isBoxed G_hName G_iName G_bName ex) H)) := by
  refine metG_of 2 ck_X12_numeral (Nat.le_of_ble_eq_true rfl) rMap (fun p e s m args below meth c A hx hb hml hr hlocks hown hts hK hD hA hP hS ls hl => ?_)
  have hown : s.vm.findClass "HideReaderModel" = some m.cls := hown
  have hl : lv_has ls 4 [(0, .ref (a 0)), (1, .int (mI 0)), (2, .int (mI 99))] := hl
  refine lv_aload_n hx hb dX12_numeral_0 rfl (lv_at hl 0 rfl) ?_
  refine g_i (rDt hD) hS hA (g_V (own := "HideReaderModel") (As := []) (rest := []) hx hb hml hown hts hK hP (rDt hD) (kr_X12_isGood (l := l) (D := D) (k := k) h_x_faultKind) ck_X12_isGood iv_X12_isGood uw_8_18 (rv_o hK hP) rfl hl.1 rfl (Nat.le_of_ble_eq_true rfl) dX12_numeral_1 ⟨Nat.le_of_ble_eq_true rfl, Nat.le_of_ble_eq_true rfl⟩ ⟨Nat.le_of_ble_eq_true rfl, Nat.le_of_ble_eq_true rfl⟩) (fun r_1 H locs hQ hS => ?_)
  obtain ⟨hq_r_1, hP⟩ := hQ
  rcases hq_r_1 with ⟨rfl, c_2_0, c_2_1⟩ | ⟨rfl, c_3_0⟩
  · skip
    refine sy_if_ne (tgt := 9) hx hb dX12_numeral_4 (by decide) (by decide) (fun c9 => absurd c9 (by decide)) (fun c_4 => ?_)
    refine lv_iload_n hx hb dX12_numeral_7 rfl (lv_at hl 1 rfl) ?_
    exact r_i hx hb hr hlocks dX12_numeral_8 hS ⟨x_faultKind, x_faultPlace, x_at, x_end, x_token, x_number, n_name, by omega, by omega, by omega, by omega, by omega, by omega, by omega, by omega, by omega, by omega, by omega, g_E, hP⟩
  · skip
    refine sy_if_ne (tgt := 9) hx hb dX12_numeral_4 (by decide) (by decide) (fun c_5 => ?_) (fun c9 => absurd c9 (by decide))
    refine lv_aload_n hx hb dX12_numeral_9 rfl (lv_at hl 0 rfl) ?_
    refine rg_o_token hx hb hts hown hK hP uw_7_31 dX12_numeral_10 ?_
    refine lv_iconst (v := mI 4) hx hb dX12_numeral_13 rfl ?_
    refine sy_icmp_eq (tgt := 21) hx hb dX12_numeral_14 (by decide) (by omega) (by decide) (fun c_6 => ?_) (fun c_6 => ?_)
    · skip
      refine lv_aload_n hx hb dX12_numeral_21 rfl (lv_at hl 0 rfl) ?_
      refine g_i (rDt hD) hS hA (g_V (own := "HideReaderModel") (As := []) (rest := []) hx hb hml hown hts hK hP (rDt hD) (kr_X12_isGood (l := l) (D := D) (k := k) h_x_faultKind) ck_X12_isGood iv_X12_isGood uw_8_18 (rv_o hK hP) rfl hl.1 rfl (Nat.le_of_ble_eq_true rfl) dX12_numeral_22 ⟨Nat.le_of_ble_eq_true rfl, Nat.le_of_ble_eq_true rfl⟩ ⟨Nat.le_of_ble_eq_true rfl, Nat.le_of_ble_eq_true rfl⟩) (fun r_7 H locs hQ hS => ?_)
      obtain ⟨hq_r_7, hP⟩ := hQ
      rcases hq_r_7 with ⟨rfl, c_8_0, c_8_1⟩ | ⟨rfl, c_9_0⟩
      exact False.elim (by omega)
      · skip
        refine sy_if_eq (tgt := 53) hx hb dX12_numeral_25 (by decide) (by decide) (fun c9 => absurd c9 (by decide)) (fun c_10 => ?_)
        refine lv_aload_n hx hb dX12_numeral_28 rfl (lv_at hl 0 rfl) ?_
        refine rg_o_number hx hb hts hown hK hP uw_7_32 dX12_numeral_29 ?_
        refine lv_iload_n hx hb dX12_numeral_32 rfl (lv_at hl 1 rfl) ?_
        refine sy_icmp_lt (tgt := 44) hx hb dX12_numeral_33 (by decide) (by omega) (by decide) (fun c_11 => ?_) (fun c_11 => ?_)
        · skip
          refine lv_aload_n hx hb dX12_numeral_44 rfl (lv_at hl 0 rfl) ?_
          refine lv_iconst (v := mI 4) hx hb dX12_numeral_45 rfl ?_
          refine lv_aload_n hx hb dX12_numeral_46 rfl (lv_at hl 0 rfl) ?_
          refine rg_o_at hx hb hts hown hK hP uw_7_29 dX12_numeral_47 ?_
          refine g_v (rDt hD) hS hA (g_V (own := "HideReaderModel") (As := [.int (mI 4), .int (mI x_at)]) (rest := []) hx hb hml hown hts hK hP (rDt hD) (kr_X12_fails (l := l) (D := D) (k := k) (by decide) (by omega) h_x_faultKind h_x_faultPlace) ck_X12_fails iv_X12_fails uw_8_38 (rv_o hK hP) rfl hl.1 rfl (Nat.le_of_ble_eq_true rfl) dX12_numeral_50 ⟨Nat.le_of_ble_eq_true rfl, Nat.le_of_ble_eq_true rfl⟩ ⟨Nat.le_of_ble_eq_true rfl, Nat.le_of_ble_eq_true rfl⟩) (fun H locs hQ hS => ?_)
          obtain ⟨y_13, y_14, hr_12_0, hr_12_1, hr_12_2, hP⟩ := hQ
          refine lv_aload_n hx hb dX12_numeral_53 rfl (lv_at hl 0 rfl) ?_
          refine rg_o_number hx hb hts hown hK hP uw_7_32 dX12_numeral_54 ?_
          refine lv_istore_n (lv' := [(3, .int (mI x_number)), (0, .ref (a 0)), (1, .int (mI 0)), (2, .int (mI 99))]) hx hb dX12_numeral_57 rfl hl (by decide) rfl (fun ls hl => ?_)
          refine lv_aload_n hx hb dX12_numeral_58 rfl (lv_at hl 1 rfl) ?_
          refine g_i (rDt hD) hS hA (g_V (own := "HideReaderModel") (As := []) (rest := []) hx hb hml hown hts hK hP (rDt hD) (kr_X12_isGood (l := l) (D := D) (k := k) (by omega)) ck_X12_isGood iv_X12_isGood uw_8_18 (rv_o hK hP) rfl hl.1 rfl (Nat.le_of_ble_eq_true rfl) dX12_numeral_59 ⟨Nat.le_of_ble_eq_true rfl, Nat.le_of_ble_eq_true rfl⟩ ⟨Nat.le_of_ble_eq_true rfl, Nat.le_of_ble_eq_true rfl⟩) (fun r_15 H locs hQ hS => ?_)
          obtain ⟨hq_r_15, hP⟩ := hQ
          rcases hq_r_15 with ⟨rfl, c_16_0, c_16_1⟩ | ⟨rfl, c_17_0⟩
          · skip
            refine sy_if_eq (tgt := 69) hx hb dX12_numeral_62 (by decide) (by decide) (fun c_18 => ?_) (fun c9 => absurd c9 (by decide))
            refine lv_aload_n hx hb dX12_numeral_69 rfl (lv_at hl 1 rfl) ?_
            refine g_i (rDt hD) hS hA (g_V (own := "HideReaderModel") (As := []) (rest := []) hx hb hml hown hts hK hP (rDt hD) (kr_X12_isGood (l := l) (D := D) (k := k) (by omega)) ck_X12_isGood iv_X12_isGood uw_8_18 (rv_o hK hP) rfl hl.1 rfl (Nat.le_of_ble_eq_true rfl) dX12_numeral_70 ⟨Nat.le_of_ble_eq_true rfl, Nat.le_of_ble_eq_true rfl⟩ ⟨Nat.le_of_ble_eq_true rfl, Nat.le_of_ble_eq_true rfl⟩) (fun r_19 H locs hQ hS => ?_)
            obtain ⟨hq_r_19, hP⟩ := hQ
            rcases hq_r_19 with ⟨rfl, c_20_0, c_20_1⟩ | ⟨rfl, c_21_0⟩
            · skip
              refine sy_if_eq (tgt := 80) hx hb dX12_numeral_73 (by decide) (by decide) (fun c_22 => ?_) (fun c9 => absurd c9 (by decide))
              refine lv_iload_n hx hb dX12_numeral_80 rfl (lv_at hl 2 rfl) ?_
              exact r_i hx hb hr hlocks dX12_numeral_81 hS ⟨y_13, y_14, x_at, x_end, x_token, x_number, n_name, by omega, by omega, by omega, by omega, by omega, by omega, by omega, by omega, by omega, by omega, by omega, g_E, hP⟩
            exact False.elim (by omega)
          exact False.elim (by omega)
        · skip
          refine lv_aload_n hx hb dX12_numeral_36 rfl (lv_at hl 0 rfl) ?_
          refine rg_o_number hx hb hts hown hK hP uw_7_32 dX12_numeral_37 ?_
          refine lv_iload_n hx hb dX12_numeral_40 rfl (lv_at hl 2 rfl) ?_
          refine sy_icmp_le (tgt := 53) hx hb dX12_numeral_41 (by decide) (by omega) (by decide) (fun c_23 => ?_) (fun c_23 => ?_)
          · skip
            refine lv_aload_n hx hb dX12_numeral_53 rfl (lv_at hl 0 rfl) ?_
            refine rg_o_number hx hb hts hown hK hP uw_7_32 dX12_numeral_54 ?_
            refine lv_istore_n (lv' := [(3, .int (mI x_number)), (0, .ref (a 0)), (1, .int (mI 0)), (2, .int (mI 99))]) hx hb dX12_numeral_57 rfl hl (by decide) rfl (fun ls hl => ?_)
            refine lv_aload_n hx hb dX12_numeral_58 rfl (lv_at hl 1 rfl) ?_
            refine g_i (rDt hD) hS hA (g_V (own := "HideReaderModel") (As := []) (rest := []) hx hb hml hown hts hK hP (rDt hD) (kr_X12_isGood (l := l) (D := D) (k := k) h_x_faultKind) ck_X12_isGood iv_X12_isGood uw_8_18 (rv_o hK hP) rfl hl.1 rfl (Nat.le_of_ble_eq_true rfl) dX12_numeral_59 ⟨Nat.le_of_ble_eq_true rfl, Nat.le_of_ble_eq_true rfl⟩ ⟨Nat.le_of_ble_eq_true rfl, Nat.le_of_ble_eq_true rfl⟩) (fun r_24 H locs hQ hS => ?_)
            obtain ⟨hq_r_24, hP⟩ := hQ
            rcases hq_r_24 with ⟨rfl, c_25_0, c_25_1⟩ | ⟨rfl, c_26_0⟩
            exact False.elim (by omega)
            · skip
              refine sy_if_eq (tgt := 69) hx hb dX12_numeral_62 (by decide) (by decide) (fun c9 => absurd c9 (by decide)) (fun c_27 => ?_)
              refine lv_aload_n hx hb dX12_numeral_65 rfl (lv_at hl 1 rfl) ?_
              refine g_v (rDt hD) hS hA (g_V (own := "HideReaderModel") (As := []) (rest := []) hx hb hml hown hts hK hP (rDt hD) (kr_X12_goOn (l := l) (D := D) (k := k) h_x_size h_x_end h_x_number b_B_text g_E) ck_X12_goOn iv_X12_goOn uw_7_220 (rv_o hK hP) rfl hl.1 rfl (Nat.le_of_ble_eq_true rfl) dX12_numeral_66 ⟨Nat.le_of_ble_eq_true rfl, Nat.le_of_ble_eq_true rfl⟩ ⟨Nat.le_of_ble_eq_true rfl, Nat.le_of_ble_eq_true rfl⟩) (fun H locs hQ hS => ?_)
              obtain ⟨y_29, y_30, y_31, y_32, j_33, hr_28_0, hr_28_1, hr_28_2, hr_28_3, hr_28_4, hr_28_5, kr_28_E, hP⟩ := hQ
              refine lv_aload_n hx hb dX12_numeral_69 rfl (lv_at hl 1 rfl) ?_
              refine g_i (rDt hD) hS hA (g_V (own := "HideReaderModel") (As := []) (rest := []) hx hb hml hown hts hK hP (rDt hD) (kr_X12_isGood (l := l) (D := D) (k := k) h_x_faultKind) ck_X12_isGood iv_X12_isGood uw_8_18 (rv_o hK hP) rfl hl.1 rfl (Nat.le_of_ble_eq_true rfl) dX12_numeral_70 ⟨Nat.le_of_ble_eq_true rfl, Nat.le_of_ble_eq_true rfl⟩ ⟨Nat.le_of_ble_eq_true rfl, Nat.le_of_ble_eq_true rfl⟩) (fun r_34 H locs hQ hS => ?_)
              obtain ⟨hq_r_34, hP⟩ := hQ
              rcases hq_r_34 with ⟨rfl, c_35_0, c_35_1⟩ | ⟨rfl, c_36_0⟩
              exact False.elim (by omega)
              · skip
                refine sy_if_eq (tgt := 80) hx hb dX12_numeral_73 (by decide) (by decide) (fun c9 => absurd c9 (by decide)) (fun c_37 => ?_)
                refine lv_iload_n hx hb dX12_numeral_76 rfl (lv_at hl 0 rfl) ?_
                refine lv_goto (tgt := 81) hx hb dX12_numeral_77 (by decide) ?_
                exact r_i hx hb hr hlocks dX12_numeral_81 hS ⟨x_faultKind, x_faultPlace, y_29, y_30, y_31, y_32, j_33, by omega, by omega, by omega, by omega, by omega, by omega, by omega, by omega, by omega, by omega, by omega, kr_28_E, hP⟩
          · skip
            refine lv_aload_n hx hb dX12_numeral_44 rfl (lv_at hl 0 rfl) ?_
            refine lv_iconst (v := mI 4) hx hb dX12_numeral_45 rfl ?_
            refine lv_aload_n hx hb dX12_numeral_46 rfl (lv_at hl 0 rfl) ?_
            refine rg_o_at hx hb hts hown hK hP uw_7_29 dX12_numeral_47 ?_
            refine g_v (rDt hD) hS hA (g_V (own := "HideReaderModel") (As := [.int (mI 4), .int (mI x_at)]) (rest := []) hx hb hml hown hts hK hP (rDt hD) (kr_X12_fails (l := l) (D := D) (k := k) (by decide) (by omega) h_x_faultKind h_x_faultPlace) ck_X12_fails iv_X12_fails uw_8_38 (rv_o hK hP) rfl hl.1 rfl (Nat.le_of_ble_eq_true rfl) dX12_numeral_50 ⟨Nat.le_of_ble_eq_true rfl, Nat.le_of_ble_eq_true rfl⟩ ⟨Nat.le_of_ble_eq_true rfl, Nat.le_of_ble_eq_true rfl⟩) (fun H locs hQ hS => ?_)
            obtain ⟨y_39, y_40, hr_38_0, hr_38_1, hr_38_2, hP⟩ := hQ
            refine lv_aload_n hx hb dX12_numeral_53 rfl (lv_at hl 0 rfl) ?_
            refine rg_o_number hx hb hts hown hK hP uw_7_32 dX12_numeral_54 ?_
            refine lv_istore_n (lv' := [(3, .int (mI x_number)), (0, .ref (a 0)), (1, .int (mI 0)), (2, .int (mI 99))]) hx hb dX12_numeral_57 rfl hl (by decide) rfl (fun ls hl => ?_)
            refine lv_aload_n hx hb dX12_numeral_58 rfl (lv_at hl 1 rfl) ?_
            refine g_i (rDt hD) hS hA (g_V (own := "HideReaderModel") (As := []) (rest := []) hx hb hml hown hts hK hP (rDt hD) (kr_X12_isGood (l := l) (D := D) (k := k) (by omega)) ck_X12_isGood iv_X12_isGood uw_8_18 (rv_o hK hP) rfl hl.1 rfl (Nat.le_of_ble_eq_true rfl) dX12_numeral_59 ⟨Nat.le_of_ble_eq_true rfl, Nat.le_of_ble_eq_true rfl⟩ ⟨Nat.le_of_ble_eq_true rfl, Nat.le_of_ble_eq_true rfl⟩) (fun r_41 H locs hQ hS => ?_)
            obtain ⟨hq_r_41, hP⟩ := hQ
            rcases hq_r_41 with ⟨rfl, c_42_0, c_42_1⟩ | ⟨rfl, c_43_0⟩
            · skip
              refine sy_if_eq (tgt := 69) hx hb dX12_numeral_62 (by decide) (by decide) (fun c_44 => ?_) (fun c9 => absurd c9 (by decide))
              refine lv_aload_n hx hb dX12_numeral_69 rfl (lv_at hl 1 rfl) ?_
              refine g_i (rDt hD) hS hA (g_V (own := "HideReaderModel") (As := []) (rest := []) hx hb hml hown hts hK hP (rDt hD) (kr_X12_isGood (l := l) (D := D) (k := k) (by omega)) ck_X12_isGood iv_X12_isGood uw_8_18 (rv_o hK hP) rfl hl.1 rfl (Nat.le_of_ble_eq_true rfl) dX12_numeral_70 ⟨Nat.le_of_ble_eq_true rfl, Nat.le_of_ble_eq_true rfl⟩ ⟨Nat.le_of_ble_eq_true rfl, Nat.le_of_ble_eq_true rfl⟩) (fun r_45 H locs hQ hS => ?_)
              obtain ⟨hq_r_45, hP⟩ := hQ
              rcases hq_r_45 with ⟨rfl, c_46_0, c_46_1⟩ | ⟨rfl, c_47_0⟩
              · skip
                refine sy_if_eq (tgt := 80) hx hb dX12_numeral_73 (by decide) (by decide) (fun c_48 => ?_) (fun c9 => absurd c9 (by decide))
                refine lv_iload_n hx hb dX12_numeral_80 rfl (lv_at hl 2 rfl) ?_
                exact r_i hx hb hr hlocks dX12_numeral_81 hS ⟨y_39, y_40, x_at, x_end, x_token, x_number, n_name, by omega, by omega, by omega, by omega, by omega, by omega, by omega, by omega, by omega, by omega, by omega, g_E, hP⟩
              exact False.elim (by omega)
            exact False.elim (by omega)
    · skip
      refine lv_aload_n hx hb dX12_numeral_17 rfl (lv_at hl 0 rfl) ?_
      refine g_v (rDt hD) hS hA (g_V (own := "HideReaderModel") (As := []) (rest := []) hx hb hml hown hts hK hP (rDt hD) (kr_X12_misplaced (l := l) (D := D) (k := k) h_x_faultKind h_x_faultPlace h_x_at h_x_token) ck_X12_misplaced iv_X12_misplaced uw_8_34 (rv_o hK hP) rfl hl.1 rfl (Nat.le_of_ble_eq_true rfl) dX12_numeral_18 ⟨Nat.le_of_ble_eq_true rfl, Nat.le_of_ble_eq_true rfl⟩ ⟨Nat.le_of_ble_eq_true rfl, Nat.le_of_ble_eq_true rfl⟩) (fun H locs hQ hS => ?_)
      obtain ⟨y_50, y_51, hr_49_0, hr_49_1, hr_49_2, hP⟩ := hQ
      refine lv_aload_n hx hb dX12_numeral_21 rfl (lv_at hl 0 rfl) ?_
      refine g_i (rDt hD) hS hA (g_V (own := "HideReaderModel") (As := []) (rest := []) hx hb hml hown hts hK hP (rDt hD) (kr_X12_isGood (l := l) (D := D) (k := k) (by omega)) ck_X12_isGood iv_X12_isGood uw_8_18 (rv_o hK hP) rfl hl.1 rfl (Nat.le_of_ble_eq_true rfl) dX12_numeral_22 ⟨Nat.le_of_ble_eq_true rfl, Nat.le_of_ble_eq_true rfl⟩ ⟨Nat.le_of_ble_eq_true rfl, Nat.le_of_ble_eq_true rfl⟩) (fun r_52 H locs hQ hS => ?_)
      obtain ⟨hq_r_52, hP⟩ := hQ
      rcases hq_r_52 with ⟨rfl, c_53_0, c_53_1⟩ | ⟨rfl, c_54_0⟩
      · skip
        refine sy_if_eq (tgt := 53) hx hb dX12_numeral_25 (by decide) (by decide) (fun c_55 => ?_) (fun c9 => absurd c9 (by decide))
        refine lv_aload_n hx hb dX12_numeral_53 rfl (lv_at hl 0 rfl) ?_
        refine rg_o_number hx hb hts hown hK hP uw_7_32 dX12_numeral_54 ?_
        refine lv_istore_n (lv' := [(3, .int (mI x_number)), (0, .ref (a 0)), (1, .int (mI 0)), (2, .int (mI 99))]) hx hb dX12_numeral_57 rfl hl (by decide) rfl (fun ls hl => ?_)
        refine lv_aload_n hx hb dX12_numeral_58 rfl (lv_at hl 1 rfl) ?_
        refine g_i (rDt hD) hS hA (g_V (own := "HideReaderModel") (As := []) (rest := []) hx hb hml hown hts hK hP (rDt hD) (kr_X12_isGood (l := l) (D := D) (k := k) (by omega)) ck_X12_isGood iv_X12_isGood uw_8_18 (rv_o hK hP) rfl hl.1 rfl (Nat.le_of_ble_eq_true rfl) dX12_numeral_59 ⟨Nat.le_of_ble_eq_true rfl, Nat.le_of_ble_eq_true rfl⟩ ⟨Nat.le_of_ble_eq_true rfl, Nat.le_of_ble_eq_true rfl⟩) (fun r_56 H locs hQ hS => ?_)
        obtain ⟨hq_r_56, hP⟩ := hQ
        rcases hq_r_56 with ⟨rfl, c_57_0, c_57_1⟩ | ⟨rfl, c_58_0⟩
        · skip
          refine sy_if_eq (tgt := 69) hx hb dX12_numeral_62 (by decide) (by decide) (fun c_59 => ?_) (fun c9 => absurd c9 (by decide))
          refine lv_aload_n hx hb dX12_numeral_69 rfl (lv_at hl 1 rfl) ?_
          refine g_i (rDt hD) hS hA (g_V (own := "HideReaderModel") (As := []) (rest := []) hx hb hml hown hts hK hP (rDt hD) (kr_X12_isGood (l := l) (D := D) (k := k) (by omega)) ck_X12_isGood iv_X12_isGood uw_8_18 (rv_o hK hP) rfl hl.1 rfl (Nat.le_of_ble_eq_true rfl) dX12_numeral_70 ⟨Nat.le_of_ble_eq_true rfl, Nat.le_of_ble_eq_true rfl⟩ ⟨Nat.le_of_ble_eq_true rfl, Nat.le_of_ble_eq_true rfl⟩) (fun r_60 H locs hQ hS => ?_)
          obtain ⟨hq_r_60, hP⟩ := hQ
          rcases hq_r_60 with ⟨rfl, c_61_0, c_61_1⟩ | ⟨rfl, c_62_0⟩
          · skip
            refine sy_if_eq (tgt := 80) hx hb dX12_numeral_73 (by decide) (by decide) (fun c_63 => ?_) (fun c9 => absurd c9 (by decide))
            refine lv_iload_n hx hb dX12_numeral_80 rfl (lv_at hl 2 rfl) ?_
            exact r_i hx hb hr hlocks dX12_numeral_81 hS ⟨y_50, y_51, x_at, x_end, x_token, x_number, n_name, by omega, by omega, by omega, by omega, by omega, by omega, by omega, by omega, by omega, by omega, by omega, g_E, hP⟩
          exact False.elim (by omega)
        exact False.elim (by omega)
      exact False.elim (by omega)
set_option maxHeartbeats 4000000 in
set_option maxRecDepth 100000 in
theorem kr_X12_after {p0 : Int64} (h_c1 : 0 ≤ 0 ∧ 0 ≤ 0) (h_c2 : 99 ≤ 99 ∧ 99 ≤ 99) (h_x_size : 0 ≤ x_size ∧ x_size ≤ 1600) (h_x_faultKind : 0 ≤ x_faultKind ∧ x_faultKind ≤ 5) (h_x_faultPlace : -1 ≤ x_faultPlace ∧ x_faultPlace ≤ 1600) (h_x_at : 0 ≤ x_at ∧ x_at ≤ 1600) (h_x_end : 0 ≤ x_end ∧ x_end ≤ 1600) (h_x_token : 0 ≤ x_token ∧ x_token ≤ 5) (h_x_number : -2147483648 ≤ x_number ∧ x_number ≤ 2147483647) (b_B_text : bd (-128) 127 B_text) (g_E : x_end ≤ x_size) : MetG l D k yX12_after cX12_after 5 (some .int) 3 [.ref (a 0), .long p0, .int (mI 0), .int (mI 99)] (rW k a x_taped x_size x_faultKind x_faultPlace x_at x_end x_token x_number x_bank x_rb x_codes x_within x_piled x_unitsInRule x_askBeast x_askStroke x_askAge x_askSeason x_acts x_undone x_laid x_seens x_time x_fitting n_name B_tape B_text B_turns B_herds B_irons B_beasts B_units B_night B_draw B_told B_brands B_ironMarks B_herdTold B_born B_ruleFrom B_ruleTo B_code B_codeNumber B_eWhat B_eSign B_pile B_all B_burned B_was B_need B_laidRow B_long8 B_brings B_sBurning B_sStroke B_sIs B_sTold B_sUntold B_parts B_boxAll B_isBoxed G_hName G_iName G_bName ex) (qGi (fun r0 H => ∃ (y_faultKind : Int) (y_faultPlace : Int) (y_at : Int) (y_end : Int) (y_token : Int) (y_number : Int) (j_name : Int64), (0 ≤ r0 ∧ r0 ≤ 99) ∧ (0 ≤ y_faultKind ∧ y_faultKind ≤ 5) ∧ (-1 ≤ y_faultPlace ∧ y_faultPlace ≤ 1600) ∧ (0 ≤ y_at ∧ y_at ≤ 1600) ∧ (0 ≤ y_end ∧ y_end ≤ 1600) ∧ (0 ≤ y_token ∧ y_token ≤ 5) ∧ (-2147483648 ≤ y_number ∧ y_number ≤ 2147483647) ∧ (0 ≤ y_faultKind - x_faultKind) ∧ (0 ≤ y_end - x_end) ∧ (1 ≤ y_faultKind ∨ y_token ≤ 0 ∨ x_end + 1 ≤ y_end) ∧ (x_token = 3 ∨ 1 ≤ y_faultKind) ∧ (y_end ≤ x_size) ∧ va_P D vwCl (rW k a x_taped x_size y_faultKind y_faultPlace y_at y_end y_token y_number x_bank x_rb x_codes x_within x_piled x_unitsInRule x_askBeast x_askStroke x_askAge x_askSeason x_acts x_undone x_laid x_seens x_time x_fitting j_name B_tape B_text B_turns B_herds B_irons B_beasts B_units B_night B_draw B_told B_brands B_ironMarks B_herdTold B_born B_ruleFrom B_ruleTo B_code B_codeNumber B_eWhat B_eSign B_pile B_all B_burned B_was B_need B_laidRow B_long8 B_brings B_sBurning B_sStroke B_sIs B_sTold B_sUntold B_parts B_boxAll B_isBoxed G_hName G_iName G_bName ex) H)) := by
  refine metG_of 3 ck_X12_after (Nat.le_of_ble_eq_true rfl) rMap (fun p e s m args below meth c A hx hb hml hr hlocks hown hts hK hD hA hP hS ls hl => ?_)
  have hown : s.vm.findClass "HideReaderModel" = some m.cls := hown
  have hl : lv_has ls 5 [(0, .ref (a 0)), (1, .long p0), (3, .int (mI 0)), (4, .int (mI 99))] := hl
  refine lv_aload_n hx hb dX12_after_0 rfl (lv_at hl 0 rfl) ?_
  refine lv_aload_n hx hb dX12_after_1 rfl (lv_at hl 0 rfl) ?_
  refine lv_lload_n hx hb dX12_after_2 rfl (lv_at hl 1 rfl) ?_
  refine g_i (rDt hD) hS hA (g_V (own := "HideReaderModel") (As := [.long p0]) (rest := [.ref (a 0)]) hx hb hml hown hts hK hP (rDt hD) (kr_X12_isWord (l := l) (D := D) (k := k) h_x_token) ck_X12_isWord iv_X12_isWord uw_8_30 (rv_o hK hP) rfl hl.1 rfl (Nat.le_of_ble_eq_true rfl) dX12_after_3 ⟨Nat.le_of_ble_eq_true rfl, Nat.le_of_ble_eq_true rfl⟩ ⟨Nat.le_of_ble_eq_true rfl, Nat.le_of_ble_eq_true rfl⟩) (fun r_1 H locs hQ hS => ?_)
  obtain ⟨hq_r_1, hP⟩ := hQ
  rcases hq_r_1 with ⟨rfl, c_2_0, c_2_1⟩ | ⟨rfl, c_3_0, c_3_1⟩
  · skip
    refine g_v (rDt hD) hS hA (g_V (own := "HideReaderModel") (As := [.int (mI 0)]) (rest := []) hx hb hml hown hts hK hP (rDt hD) (kr_X12_must (l := l) (D := D) (k := k) (by decide) h_x_size h_x_faultKind h_x_faultPlace h_x_at h_x_end h_x_token h_x_number b_B_text g_E) ck_X12_must iv_X12_must uw_8_62 (rv_o hK hP) rfl hl.1 rfl (Nat.le_of_ble_eq_true rfl) dX12_after_6 ⟨Nat.le_of_ble_eq_true rfl, Nat.le_of_ble_eq_true rfl⟩ ⟨Nat.le_of_ble_eq_true rfl, Nat.le_of_ble_eq_true rfl⟩) (fun H locs hQ hS => ?_)
    obtain ⟨y_5, y_6, y_7, y_8, y_9, y_10, j_11, hr_4_0, hr_4_1, hr_4_2, hr_4_3, hr_4_4, hr_4_5, hr_4_6, hr_4_7, hr_4_8, hr_4_9, hr_4_10, kr_4_E, hP⟩ := hQ
    refine lv_aload_n hx hb dX12_after_9 rfl (lv_at hl 0 rfl) ?_
    refine lv_iload_n hx hb dX12_after_10 rfl (lv_at hl 2 rfl) ?_
    refine lv_iload hx hb dX12_after_11 (lv_at hl 3 rfl) ?_
    refine g_i (rDt hD) hS hA (g_V (own := "HideReaderModel") (As := [.int (mI 0), .int (mI 99)]) (rest := []) hx hb hml hown hts hK hP (rDt hD) (kr_X12_numeral_v0_99 (l := l) (D := D) (k := k) (by decide) (by decide) h_x_size (by omega) (by omega) (by omega) (by omega) (by omega) (by omega) b_B_text kr_4_E) ck_X12_numeral iv_X12_numeral uw_8_46 (rv_o hK hP) rfl hl.1 rfl (Nat.le_of_ble_eq_true rfl) dX12_after_13 ⟨Nat.le_of_ble_eq_true rfl, Nat.le_of_ble_eq_true rfl⟩ ⟨Nat.le_of_ble_eq_true rfl, Nat.le_of_ble_eq_true rfl⟩) (fun r_12 H locs hQ hS => ?_)
    obtain ⟨y_13, y_14, y_15, y_16, y_17, y_18, j_19, hr_12_0, hr_12_1, hr_12_2, hr_12_3, hr_12_4, hr_12_5, hr_12_6, hr_12_7, hr_12_8, hr_12_9, hr_12_10, kr_12_E, hP⟩ := hQ
    exact r_i hx hb hr hlocks dX12_after_16 hS ⟨y_13, y_14, y_15, y_16, y_17, y_18, j_19, by omega, by omega, by omega, by omega, by omega, by omega, by omega, by omega, by omega, by omega, by omega, kr_12_E, hP⟩
  · skip
    refine g_v (rDt hD) hS hA (g_V (own := "HideReaderModel") (As := [.int (mI 1)]) (rest := []) hx hb hml hown hts hK hP (rDt hD) (kr_X12_must (l := l) (D := D) (k := k) (by decide) h_x_size h_x_faultKind h_x_faultPlace h_x_at h_x_end h_x_token h_x_number b_B_text g_E) ck_X12_must iv_X12_must uw_8_62 (rv_o hK hP) rfl hl.1 rfl (Nat.le_of_ble_eq_true rfl) dX12_after_6 ⟨Nat.le_of_ble_eq_true rfl, Nat.le_of_ble_eq_true rfl⟩ ⟨Nat.le_of_ble_eq_true rfl, Nat.le_of_ble_eq_true rfl⟩) (fun H locs hQ hS => ?_)
    obtain ⟨y_21, y_22, y_23, y_24, y_25, y_26, j_27, hr_20_0, hr_20_1, hr_20_2, hr_20_3, hr_20_4, hr_20_5, hr_20_6, hr_20_7, hr_20_8, hr_20_9, hr_20_10, kr_20_E, hP⟩ := hQ
    refine lv_aload_n hx hb dX12_after_9 rfl (lv_at hl 0 rfl) ?_
    refine lv_iload_n hx hb dX12_after_10 rfl (lv_at hl 2 rfl) ?_
    refine lv_iload hx hb dX12_after_11 (lv_at hl 3 rfl) ?_
    refine g_i (rDt hD) hS hA (g_V (own := "HideReaderModel") (As := [.int (mI 0), .int (mI 99)]) (rest := []) hx hb hml hown hts hK hP (rDt hD) (kr_X12_numeral_v0_99 (l := l) (D := D) (k := k) (by decide) (by decide) h_x_size (by omega) (by omega) (by omega) (by omega) (by omega) (by omega) b_B_text kr_20_E) ck_X12_numeral iv_X12_numeral uw_8_46 (rv_o hK hP) rfl hl.1 rfl (Nat.le_of_ble_eq_true rfl) dX12_after_13 ⟨Nat.le_of_ble_eq_true rfl, Nat.le_of_ble_eq_true rfl⟩ ⟨Nat.le_of_ble_eq_true rfl, Nat.le_of_ble_eq_true rfl⟩) (fun r_28 H locs hQ hS => ?_)
    obtain ⟨y_29, y_30, y_31, y_32, y_33, y_34, j_35, hr_28_0, hr_28_1, hr_28_2, hr_28_3, hr_28_4, hr_28_5, hr_28_6, hr_28_7, hr_28_8, hr_28_9, hr_28_10, kr_28_E, hP⟩ := hQ
    exact r_i hx hb hr hlocks dX12_after_16 hS ⟨y_29, y_30, y_31, y_32, y_33, y_34, j_35, by omega, by omega, by omega, by omega, by omega, by omega, by omega, by omega, by omega, by omega, by omega, kr_28_E, hP⟩
set_option maxHeartbeats 4000000 in
set_option maxRecDepth 100000 in
theorem kr_X12_numeral_v1_4 (h_c0 : 1 ≤ 1 ∧ 1 ≤ 1) (h_c1 : 4 ≤ 4 ∧ 4 ≤ 4) (h_x_size : 0 ≤ x_size ∧ x_size ≤ 1600) (h_x_faultKind : 0 ≤ x_faultKind ∧ x_faultKind ≤ 5) (h_x_faultPlace : -1 ≤ x_faultPlace ∧ x_faultPlace ≤ 1600) (h_x_at : 0 ≤ x_at ∧ x_at ≤ 1600) (h_x_end : 0 ≤ x_end ∧ x_end ≤ 1600) (h_x_token : 0 ≤ x_token ∧ x_token ≤ 5) (h_x_number : -2147483648 ≤ x_number ∧ x_number ≤ 2147483647) (b_B_text : bd (-128) 127 B_text) (g_E : x_end ≤ x_size) : MetG l D k yX12_numeral cX12_numeral 4 (some .int) 2 [.ref (a 0), .int (mI 1), .int (mI 4)] (rW k a x_taped x_size x_faultKind x_faultPlace x_at x_end x_token x_number x_bank x_rb x_codes x_within x_piled x_unitsInRule x_askBeast x_askStroke x_askAge x_askSeason x_acts x_undone x_laid x_seens x_time x_fitting n_name B_tape B_text B_turns B_herds B_irons B_beasts B_units B_night B_draw B_told B_brands B_ironMarks B_herdTold B_born B_ruleFrom B_ruleTo B_code B_codeNumber B_eWhat B_eSign B_pile B_all B_burned B_was B_need B_laidRow B_long8 B_brings B_sBurning B_sStroke B_sIs B_sTold B_sUntold B_parts B_boxAll B_isBoxed G_hName G_iName G_bName ex) (qGi (fun r0 H => ∃ (y_faultKind : Int) (y_faultPlace : Int) (y_at : Int) (y_end : Int) (y_token : Int) (y_number : Int) (j_name : Int64), (1 ≤ r0 ∧ r0 ≤ 4) ∧ (0 ≤ y_faultKind ∧ y_faultKind ≤ 5) ∧ (-1 ≤ y_faultPlace ∧ y_faultPlace ≤ 1600) ∧ (0 ≤ y_at ∧ y_at ≤ 1600) ∧ (0 ≤ y_end ∧ y_end ≤ 1600) ∧ (0 ≤ y_token ∧ y_token ≤ 5) ∧ (-2147483648 ≤ y_number ∧ y_number ≤ 2147483647) ∧ (0 ≤ y_faultKind - x_faultKind) ∧ (0 ≤ y_end - x_end) ∧ (1 ≤ y_faultKind ∨ y_token ≤ 0 ∨ x_end + 1 ≤ y_end) ∧ (x_token = 4 ∨ 1 ≤ y_faultKind) ∧ (y_end ≤ x_size) ∧ va_P D vwCl (rW k a x_taped x_size y_faultKind y_faultPlace y_at y_end y_token y_number x_bank x_rb x_codes x_within x_piled x_unitsInRule x_askBeast x_askStroke x_askAge x_askSeason x_acts x_undone x_laid x_seens x_time x_fitting j_name B_tape B_text B_turns B_herds B_irons B_beasts B_units B_night B_draw B_told B_brands B_ironMarks B_herdTold B_born B_ruleFrom B_ruleTo B_code B_codeNumber B_eWhat B_eSign B_pile B_all B_burned B_was B_need B_laidRow B_long8 B_brings B_sBurning B_sStroke B_sIs B_sTold B_sUntold B_parts B_boxAll B_isBoxed G_hName G_iName G_bName ex) H)) := by
  refine metG_of 2 ck_X12_numeral (Nat.le_of_ble_eq_true rfl) rMap (fun p e s m args below meth c A hx hb hml hr hlocks hown hts hK hD hA hP hS ls hl => ?_)
  have hown : s.vm.findClass "HideReaderModel" = some m.cls := hown
  have hl : lv_has ls 4 [(0, .ref (a 0)), (1, .int (mI 1)), (2, .int (mI 4))] := hl
  refine lv_aload_n hx hb dX12_numeral_0 rfl (lv_at hl 0 rfl) ?_
  refine g_i (rDt hD) hS hA (g_V (own := "HideReaderModel") (As := []) (rest := []) hx hb hml hown hts hK hP (rDt hD) (kr_X12_isGood (l := l) (D := D) (k := k) h_x_faultKind) ck_X12_isGood iv_X12_isGood uw_8_18 (rv_o hK hP) rfl hl.1 rfl (Nat.le_of_ble_eq_true rfl) dX12_numeral_1 ⟨Nat.le_of_ble_eq_true rfl, Nat.le_of_ble_eq_true rfl⟩ ⟨Nat.le_of_ble_eq_true rfl, Nat.le_of_ble_eq_true rfl⟩) (fun r_1 H locs hQ hS => ?_)
  obtain ⟨hq_r_1, hP⟩ := hQ
  rcases hq_r_1 with ⟨rfl, c_2_0, c_2_1⟩ | ⟨rfl, c_3_0⟩
  · skip
    refine sy_if_ne (tgt := 9) hx hb dX12_numeral_4 (by decide) (by decide) (fun c9 => absurd c9 (by decide)) (fun c_4 => ?_)
    refine lv_iload_n hx hb dX12_numeral_7 rfl (lv_at hl 1 rfl) ?_
    exact r_i hx hb hr hlocks dX12_numeral_8 hS ⟨x_faultKind, x_faultPlace, x_at, x_end, x_token, x_number, n_name, by omega, by omega, by omega, by omega, by omega, by omega, by omega, by omega, by omega, by omega, by omega, g_E, hP⟩
  · skip
    refine sy_if_ne (tgt := 9) hx hb dX12_numeral_4 (by decide) (by decide) (fun c_5 => ?_) (fun c9 => absurd c9 (by decide))
    refine lv_aload_n hx hb dX12_numeral_9 rfl (lv_at hl 0 rfl) ?_
    refine rg_o_token hx hb hts hown hK hP uw_7_31 dX12_numeral_10 ?_
    refine lv_iconst (v := mI 4) hx hb dX12_numeral_13 rfl ?_
    refine sy_icmp_eq (tgt := 21) hx hb dX12_numeral_14 (by decide) (by omega) (by decide) (fun c_6 => ?_) (fun c_6 => ?_)
    · skip
      refine lv_aload_n hx hb dX12_numeral_21 rfl (lv_at hl 0 rfl) ?_
      refine g_i (rDt hD) hS hA (g_V (own := "HideReaderModel") (As := []) (rest := []) hx hb hml hown hts hK hP (rDt hD) (kr_X12_isGood (l := l) (D := D) (k := k) h_x_faultKind) ck_X12_isGood iv_X12_isGood uw_8_18 (rv_o hK hP) rfl hl.1 rfl (Nat.le_of_ble_eq_true rfl) dX12_numeral_22 ⟨Nat.le_of_ble_eq_true rfl, Nat.le_of_ble_eq_true rfl⟩ ⟨Nat.le_of_ble_eq_true rfl, Nat.le_of_ble_eq_true rfl⟩) (fun r_7 H locs hQ hS => ?_)
      obtain ⟨hq_r_7, hP⟩ := hQ
      rcases hq_r_7 with ⟨rfl, c_8_0, c_8_1⟩ | ⟨rfl, c_9_0⟩
      exact False.elim (by omega)
      · skip
        refine sy_if_eq (tgt := 53) hx hb dX12_numeral_25 (by decide) (by decide) (fun c9 => absurd c9 (by decide)) (fun c_10 => ?_)
        refine lv_aload_n hx hb dX12_numeral_28 rfl (lv_at hl 0 rfl) ?_
        refine rg_o_number hx hb hts hown hK hP uw_7_32 dX12_numeral_29 ?_
        refine lv_iload_n hx hb dX12_numeral_32 rfl (lv_at hl 1 rfl) ?_
        refine sy_icmp_lt (tgt := 44) hx hb dX12_numeral_33 (by decide) (by omega) (by decide) (fun c_11 => ?_) (fun c_11 => ?_)
        · skip
          refine lv_aload_n hx hb dX12_numeral_44 rfl (lv_at hl 0 rfl) ?_
          refine lv_iconst (v := mI 4) hx hb dX12_numeral_45 rfl ?_
          refine lv_aload_n hx hb dX12_numeral_46 rfl (lv_at hl 0 rfl) ?_
          refine rg_o_at hx hb hts hown hK hP uw_7_29 dX12_numeral_47 ?_
          refine g_v (rDt hD) hS hA (g_V (own := "HideReaderModel") (As := [.int (mI 4), .int (mI x_at)]) (rest := []) hx hb hml hown hts hK hP (rDt hD) (kr_X12_fails (l := l) (D := D) (k := k) (by decide) (by omega) h_x_faultKind h_x_faultPlace) ck_X12_fails iv_X12_fails uw_8_38 (rv_o hK hP) rfl hl.1 rfl (Nat.le_of_ble_eq_true rfl) dX12_numeral_50 ⟨Nat.le_of_ble_eq_true rfl, Nat.le_of_ble_eq_true rfl⟩ ⟨Nat.le_of_ble_eq_true rfl, Nat.le_of_ble_eq_true rfl⟩) (fun H locs hQ hS => ?_)
          obtain ⟨y_13, y_14, hr_12_0, hr_12_1, hr_12_2, hP⟩ := hQ
          refine lv_aload_n hx hb dX12_numeral_53 rfl (lv_at hl 0 rfl) ?_
          refine rg_o_number hx hb hts hown hK hP uw_7_32 dX12_numeral_54 ?_
          refine lv_istore_n (lv' := [(3, .int (mI x_number)), (0, .ref (a 0)), (1, .int (mI 1)), (2, .int (mI 4))]) hx hb dX12_numeral_57 rfl hl (by decide) rfl (fun ls hl => ?_)
          refine lv_aload_n hx hb dX12_numeral_58 rfl (lv_at hl 1 rfl) ?_
          refine g_i (rDt hD) hS hA (g_V (own := "HideReaderModel") (As := []) (rest := []) hx hb hml hown hts hK hP (rDt hD) (kr_X12_isGood (l := l) (D := D) (k := k) (by omega)) ck_X12_isGood iv_X12_isGood uw_8_18 (rv_o hK hP) rfl hl.1 rfl (Nat.le_of_ble_eq_true rfl) dX12_numeral_59 ⟨Nat.le_of_ble_eq_true rfl, Nat.le_of_ble_eq_true rfl⟩ ⟨Nat.le_of_ble_eq_true rfl, Nat.le_of_ble_eq_true rfl⟩) (fun r_15 H locs hQ hS => ?_)
          obtain ⟨hq_r_15, hP⟩ := hQ
          rcases hq_r_15 with ⟨rfl, c_16_0, c_16_1⟩ | ⟨rfl, c_17_0⟩
          · skip
            refine sy_if_eq (tgt := 69) hx hb dX12_numeral_62 (by decide) (by decide) (fun c_18 => ?_) (fun c9 => absurd c9 (by decide))
            refine lv_aload_n hx hb dX12_numeral_69 rfl (lv_at hl 1 rfl) ?_
            refine g_i (rDt hD) hS hA (g_V (own := "HideReaderModel") (As := []) (rest := []) hx hb hml hown hts hK hP (rDt hD) (kr_X12_isGood (l := l) (D := D) (k := k) (by omega)) ck_X12_isGood iv_X12_isGood uw_8_18 (rv_o hK hP) rfl hl.1 rfl (Nat.le_of_ble_eq_true rfl) dX12_numeral_70 ⟨Nat.le_of_ble_eq_true rfl, Nat.le_of_ble_eq_true rfl⟩ ⟨Nat.le_of_ble_eq_true rfl, Nat.le_of_ble_eq_true rfl⟩) (fun r_19 H locs hQ hS => ?_)
            obtain ⟨hq_r_19, hP⟩ := hQ
            rcases hq_r_19 with ⟨rfl, c_20_0, c_20_1⟩ | ⟨rfl, c_21_0⟩
            · skip
              refine sy_if_eq (tgt := 80) hx hb dX12_numeral_73 (by decide) (by decide) (fun c_22 => ?_) (fun c9 => absurd c9 (by decide))
              refine lv_iload_n hx hb dX12_numeral_80 rfl (lv_at hl 2 rfl) ?_
              exact r_i hx hb hr hlocks dX12_numeral_81 hS ⟨y_13, y_14, x_at, x_end, x_token, x_number, n_name, by omega, by omega, by omega, by omega, by omega, by omega, by omega, by omega, by omega, by omega, by omega, g_E, hP⟩
            exact False.elim (by omega)
          exact False.elim (by omega)
        · skip
          refine lv_aload_n hx hb dX12_numeral_36 rfl (lv_at hl 0 rfl) ?_
          refine rg_o_number hx hb hts hown hK hP uw_7_32 dX12_numeral_37 ?_
          refine lv_iload_n hx hb dX12_numeral_40 rfl (lv_at hl 2 rfl) ?_
          refine sy_icmp_le (tgt := 53) hx hb dX12_numeral_41 (by decide) (by omega) (by decide) (fun c_23 => ?_) (fun c_23 => ?_)
          · skip
            refine lv_aload_n hx hb dX12_numeral_53 rfl (lv_at hl 0 rfl) ?_
            refine rg_o_number hx hb hts hown hK hP uw_7_32 dX12_numeral_54 ?_
            refine lv_istore_n (lv' := [(3, .int (mI x_number)), (0, .ref (a 0)), (1, .int (mI 1)), (2, .int (mI 4))]) hx hb dX12_numeral_57 rfl hl (by decide) rfl (fun ls hl => ?_)
            refine lv_aload_n hx hb dX12_numeral_58 rfl (lv_at hl 1 rfl) ?_
            refine g_i (rDt hD) hS hA (g_V (own := "HideReaderModel") (As := []) (rest := []) hx hb hml hown hts hK hP (rDt hD) (kr_X12_isGood (l := l) (D := D) (k := k) h_x_faultKind) ck_X12_isGood iv_X12_isGood uw_8_18 (rv_o hK hP) rfl hl.1 rfl (Nat.le_of_ble_eq_true rfl) dX12_numeral_59 ⟨Nat.le_of_ble_eq_true rfl, Nat.le_of_ble_eq_true rfl⟩ ⟨Nat.le_of_ble_eq_true rfl, Nat.le_of_ble_eq_true rfl⟩) (fun r_24 H locs hQ hS => ?_)
            obtain ⟨hq_r_24, hP⟩ := hQ
            rcases hq_r_24 with ⟨rfl, c_25_0, c_25_1⟩ | ⟨rfl, c_26_0⟩
            exact False.elim (by omega)
            · skip
              refine sy_if_eq (tgt := 69) hx hb dX12_numeral_62 (by decide) (by decide) (fun c9 => absurd c9 (by decide)) (fun c_27 => ?_)
              refine lv_aload_n hx hb dX12_numeral_65 rfl (lv_at hl 1 rfl) ?_
              refine g_v (rDt hD) hS hA (g_V (own := "HideReaderModel") (As := []) (rest := []) hx hb hml hown hts hK hP (rDt hD) (kr_X12_goOn (l := l) (D := D) (k := k) h_x_size h_x_end h_x_number b_B_text g_E) ck_X12_goOn iv_X12_goOn uw_7_220 (rv_o hK hP) rfl hl.1 rfl (Nat.le_of_ble_eq_true rfl) dX12_numeral_66 ⟨Nat.le_of_ble_eq_true rfl, Nat.le_of_ble_eq_true rfl⟩ ⟨Nat.le_of_ble_eq_true rfl, Nat.le_of_ble_eq_true rfl⟩) (fun H locs hQ hS => ?_)
              obtain ⟨y_29, y_30, y_31, y_32, j_33, hr_28_0, hr_28_1, hr_28_2, hr_28_3, hr_28_4, hr_28_5, kr_28_E, hP⟩ := hQ
              refine lv_aload_n hx hb dX12_numeral_69 rfl (lv_at hl 1 rfl) ?_
              refine g_i (rDt hD) hS hA (g_V (own := "HideReaderModel") (As := []) (rest := []) hx hb hml hown hts hK hP (rDt hD) (kr_X12_isGood (l := l) (D := D) (k := k) h_x_faultKind) ck_X12_isGood iv_X12_isGood uw_8_18 (rv_o hK hP) rfl hl.1 rfl (Nat.le_of_ble_eq_true rfl) dX12_numeral_70 ⟨Nat.le_of_ble_eq_true rfl, Nat.le_of_ble_eq_true rfl⟩ ⟨Nat.le_of_ble_eq_true rfl, Nat.le_of_ble_eq_true rfl⟩) (fun r_34 H locs hQ hS => ?_)
              obtain ⟨hq_r_34, hP⟩ := hQ
              rcases hq_r_34 with ⟨rfl, c_35_0, c_35_1⟩ | ⟨rfl, c_36_0⟩
              exact False.elim (by omega)
              · skip
                refine sy_if_eq (tgt := 80) hx hb dX12_numeral_73 (by decide) (by decide) (fun c9 => absurd c9 (by decide)) (fun c_37 => ?_)
                refine lv_iload_n hx hb dX12_numeral_76 rfl (lv_at hl 0 rfl) ?_
                refine lv_goto (tgt := 81) hx hb dX12_numeral_77 (by decide) ?_
                exact r_i hx hb hr hlocks dX12_numeral_81 hS ⟨x_faultKind, x_faultPlace, y_29, y_30, y_31, y_32, j_33, by omega, by omega, by omega, by omega, by omega, by omega, by omega, by omega, by omega, by omega, by omega, kr_28_E, hP⟩
          · skip
            refine lv_aload_n hx hb dX12_numeral_44 rfl (lv_at hl 0 rfl) ?_
            refine lv_iconst (v := mI 4) hx hb dX12_numeral_45 rfl ?_
            refine lv_aload_n hx hb dX12_numeral_46 rfl (lv_at hl 0 rfl) ?_
            refine rg_o_at hx hb hts hown hK hP uw_7_29 dX12_numeral_47 ?_
            refine g_v (rDt hD) hS hA (g_V (own := "HideReaderModel") (As := [.int (mI 4), .int (mI x_at)]) (rest := []) hx hb hml hown hts hK hP (rDt hD) (kr_X12_fails (l := l) (D := D) (k := k) (by decide) (by omega) h_x_faultKind h_x_faultPlace) ck_X12_fails iv_X12_fails uw_8_38 (rv_o hK hP) rfl hl.1 rfl (Nat.le_of_ble_eq_true rfl) dX12_numeral_50 ⟨Nat.le_of_ble_eq_true rfl, Nat.le_of_ble_eq_true rfl⟩ ⟨Nat.le_of_ble_eq_true rfl, Nat.le_of_ble_eq_true rfl⟩) (fun H locs hQ hS => ?_)
            obtain ⟨y_39, y_40, hr_38_0, hr_38_1, hr_38_2, hP⟩ := hQ
            refine lv_aload_n hx hb dX12_numeral_53 rfl (lv_at hl 0 rfl) ?_
            refine rg_o_number hx hb hts hown hK hP uw_7_32 dX12_numeral_54 ?_
            refine lv_istore_n (lv' := [(3, .int (mI x_number)), (0, .ref (a 0)), (1, .int (mI 1)), (2, .int (mI 4))]) hx hb dX12_numeral_57 rfl hl (by decide) rfl (fun ls hl => ?_)
            refine lv_aload_n hx hb dX12_numeral_58 rfl (lv_at hl 1 rfl) ?_
            refine g_i (rDt hD) hS hA (g_V (own := "HideReaderModel") (As := []) (rest := []) hx hb hml hown hts hK hP (rDt hD) (kr_X12_isGood (l := l) (D := D) (k := k) (by omega)) ck_X12_isGood iv_X12_isGood uw_8_18 (rv_o hK hP) rfl hl.1 rfl (Nat.le_of_ble_eq_true rfl) dX12_numeral_59 ⟨Nat.le_of_ble_eq_true rfl, Nat.le_of_ble_eq_true rfl⟩ ⟨Nat.le_of_ble_eq_true rfl, Nat.le_of_ble_eq_true rfl⟩) (fun r_41 H locs hQ hS => ?_)
            obtain ⟨hq_r_41, hP⟩ := hQ
            rcases hq_r_41 with ⟨rfl, c_42_0, c_42_1⟩ | ⟨rfl, c_43_0⟩
            · skip
              refine sy_if_eq (tgt := 69) hx hb dX12_numeral_62 (by decide) (by decide) (fun c_44 => ?_) (fun c9 => absurd c9 (by decide))
              refine lv_aload_n hx hb dX12_numeral_69 rfl (lv_at hl 1 rfl) ?_
              refine g_i (rDt hD) hS hA (g_V (own := "HideReaderModel") (As := []) (rest := []) hx hb hml hown hts hK hP (rDt hD) (kr_X12_isGood (l := l) (D := D) (k := k) (by omega)) ck_X12_isGood iv_X12_isGood uw_8_18 (rv_o hK hP) rfl hl.1 rfl (Nat.le_of_ble_eq_true rfl) dX12_numeral_70 ⟨Nat.le_of_ble_eq_true rfl, Nat.le_of_ble_eq_true rfl⟩ ⟨Nat.le_of_ble_eq_true rfl, Nat.le_of_ble_eq_true rfl⟩) (fun r_45 H locs hQ hS => ?_)
              obtain ⟨hq_r_45, hP⟩ := hQ
              rcases hq_r_45 with ⟨rfl, c_46_0, c_46_1⟩ | ⟨rfl, c_47_0⟩
              · skip
                refine sy_if_eq (tgt := 80) hx hb dX12_numeral_73 (by decide) (by decide) (fun c_48 => ?_) (fun c9 => absurd c9 (by decide))
                refine lv_iload_n hx hb dX12_numeral_80 rfl (lv_at hl 2 rfl) ?_
                exact r_i hx hb hr hlocks dX12_numeral_81 hS ⟨y_39, y_40, x_at, x_end, x_token, x_number, n_name, by omega, by omega, by omega, by omega, by omega, by omega, by omega, by omega, by omega, by omega, by omega, g_E, hP⟩
              exact False.elim (by omega)
            exact False.elim (by omega)
    · skip
      refine lv_aload_n hx hb dX12_numeral_17 rfl (lv_at hl 0 rfl) ?_
      refine g_v (rDt hD) hS hA (g_V (own := "HideReaderModel") (As := []) (rest := []) hx hb hml hown hts hK hP (rDt hD) (kr_X12_misplaced (l := l) (D := D) (k := k) h_x_faultKind h_x_faultPlace h_x_at h_x_token) ck_X12_misplaced iv_X12_misplaced uw_8_34 (rv_o hK hP) rfl hl.1 rfl (Nat.le_of_ble_eq_true rfl) dX12_numeral_18 ⟨Nat.le_of_ble_eq_true rfl, Nat.le_of_ble_eq_true rfl⟩ ⟨Nat.le_of_ble_eq_true rfl, Nat.le_of_ble_eq_true rfl⟩) (fun H locs hQ hS => ?_)
      obtain ⟨y_50, y_51, hr_49_0, hr_49_1, hr_49_2, hP⟩ := hQ
      refine lv_aload_n hx hb dX12_numeral_21 rfl (lv_at hl 0 rfl) ?_
      refine g_i (rDt hD) hS hA (g_V (own := "HideReaderModel") (As := []) (rest := []) hx hb hml hown hts hK hP (rDt hD) (kr_X12_isGood (l := l) (D := D) (k := k) (by omega)) ck_X12_isGood iv_X12_isGood uw_8_18 (rv_o hK hP) rfl hl.1 rfl (Nat.le_of_ble_eq_true rfl) dX12_numeral_22 ⟨Nat.le_of_ble_eq_true rfl, Nat.le_of_ble_eq_true rfl⟩ ⟨Nat.le_of_ble_eq_true rfl, Nat.le_of_ble_eq_true rfl⟩) (fun r_52 H locs hQ hS => ?_)
      obtain ⟨hq_r_52, hP⟩ := hQ
      rcases hq_r_52 with ⟨rfl, c_53_0, c_53_1⟩ | ⟨rfl, c_54_0⟩
      · skip
        refine sy_if_eq (tgt := 53) hx hb dX12_numeral_25 (by decide) (by decide) (fun c_55 => ?_) (fun c9 => absurd c9 (by decide))
        refine lv_aload_n hx hb dX12_numeral_53 rfl (lv_at hl 0 rfl) ?_
        refine rg_o_number hx hb hts hown hK hP uw_7_32 dX12_numeral_54 ?_
        refine lv_istore_n (lv' := [(3, .int (mI x_number)), (0, .ref (a 0)), (1, .int (mI 1)), (2, .int (mI 4))]) hx hb dX12_numeral_57 rfl hl (by decide) rfl (fun ls hl => ?_)
        refine lv_aload_n hx hb dX12_numeral_58 rfl (lv_at hl 1 rfl) ?_
        refine g_i (rDt hD) hS hA (g_V (own := "HideReaderModel") (As := []) (rest := []) hx hb hml hown hts hK hP (rDt hD) (kr_X12_isGood (l := l) (D := D) (k := k) (by omega)) ck_X12_isGood iv_X12_isGood uw_8_18 (rv_o hK hP) rfl hl.1 rfl (Nat.le_of_ble_eq_true rfl) dX12_numeral_59 ⟨Nat.le_of_ble_eq_true rfl, Nat.le_of_ble_eq_true rfl⟩ ⟨Nat.le_of_ble_eq_true rfl, Nat.le_of_ble_eq_true rfl⟩) (fun r_56 H locs hQ hS => ?_)
        obtain ⟨hq_r_56, hP⟩ := hQ
        rcases hq_r_56 with ⟨rfl, c_57_0, c_57_1⟩ | ⟨rfl, c_58_0⟩
        · skip
          refine sy_if_eq (tgt := 69) hx hb dX12_numeral_62 (by decide) (by decide) (fun c_59 => ?_) (fun c9 => absurd c9 (by decide))
          refine lv_aload_n hx hb dX12_numeral_69 rfl (lv_at hl 1 rfl) ?_
          refine g_i (rDt hD) hS hA (g_V (own := "HideReaderModel") (As := []) (rest := []) hx hb hml hown hts hK hP (rDt hD) (kr_X12_isGood (l := l) (D := D) (k := k) (by omega)) ck_X12_isGood iv_X12_isGood uw_8_18 (rv_o hK hP) rfl hl.1 rfl (Nat.le_of_ble_eq_true rfl) dX12_numeral_70 ⟨Nat.le_of_ble_eq_true rfl, Nat.le_of_ble_eq_true rfl⟩ ⟨Nat.le_of_ble_eq_true rfl, Nat.le_of_ble_eq_true rfl⟩) (fun r_60 H locs hQ hS => ?_)
          obtain ⟨hq_r_60, hP⟩ := hQ
          rcases hq_r_60 with ⟨rfl, c_61_0, c_61_1⟩ | ⟨rfl, c_62_0⟩
          · skip
            refine sy_if_eq (tgt := 80) hx hb dX12_numeral_73 (by decide) (by decide) (fun c_63 => ?_) (fun c9 => absurd c9 (by decide))
            refine lv_iload_n hx hb dX12_numeral_80 rfl (lv_at hl 2 rfl) ?_
            exact r_i hx hb hr hlocks dX12_numeral_81 hS ⟨y_50, y_51, x_at, x_end, x_token, x_number, n_name, by omega, by omega, by omega, by omega, by omega, by omega, by omega, by omega, by omega, by omega, by omega, g_E, hP⟩
          exact False.elim (by omega)
        exact False.elim (by omega)
      exact False.elim (by omega)
set_option maxHeartbeats 4000000 in
set_option maxRecDepth 100000 in
theorem kr_X12_readTurns (h_x_size : 0 ≤ x_size ∧ x_size ≤ 1600) (h_x_faultKind : 0 ≤ x_faultKind ∧ x_faultKind ≤ 5) (h_x_faultPlace : -1 ≤ x_faultPlace ∧ x_faultPlace ≤ 1600) (h_x_at : 0 ≤ x_at ∧ x_at ≤ 1600) (h_x_end : 0 ≤ x_end ∧ x_end ≤ 1600) (h_x_token : 0 ≤ x_token ∧ x_token ≤ 5) (h_x_number : -2147483648 ≤ x_number ∧ x_number ≤ 2147483647) (h_x_bank : 0 ≤ x_bank ∧ x_bank ≤ 1) (h_x_rb : 0 ≤ x_rb ∧ x_rb ≤ 1) (b_B_text : bd (-128) 127 B_text) (b_B_turns : bd (0) 4 B_turns) (b_B_told : bd (0) 31 B_told) (g_E : x_end ≤ x_size) (g_L : x_rb + x_bank = 1) (g_Q : rQ x_bank B_told B_ruleFrom B_ruleTo B_code) (g_VV : 1 ≤ x_faultKind ∨ rQ x_rb B_told B_ruleFrom B_ruleTo B_code) (g_R : 1 ≤ B_turns x_bank.toNat ∧ ¬ B_turns x_bank.toNat = 3) (g_SS : 1 ≤ x_faultKind ∨ (1 ≤ B_turns x_rb.toNat ∧ ¬ B_turns x_rb.toNat = 3)) : MetG l D k yX12_readTurns cX12_readTurns 2 none 3 [.ref (a 0)] (rW k a x_taped x_size x_faultKind x_faultPlace x_at x_end x_token x_number x_bank x_rb x_codes x_within x_piled x_unitsInRule x_askBeast x_askStroke x_askAge x_askSeason x_acts x_undone x_laid x_seens x_time x_fitting n_name B_tape B_text B_turns B_herds B_irons B_beasts B_units B_night B_draw B_told B_brands B_ironMarks B_herdTold B_born B_ruleFrom B_ruleTo B_code B_codeNumber B_eWhat B_eSign B_pile B_all B_burned B_was B_need B_laidRow B_long8 B_brings B_sBurning B_sStroke B_sIs B_sTold B_sUntold B_parts B_boxAll B_isBoxed G_hName G_iName G_bName ex) (qGv (fun H => ∃ (y_faultKind : Int) (y_faultPlace : Int) (y_at : Int) (y_end : Int) (y_token : Int) (y_number : Int) (j_name : Int64) (F_turns : Nat → Int) (F_told : Nat → Int), (0 ≤ y_faultKind ∧ y_faultKind ≤ 5) ∧ (-1 ≤ y_faultPlace ∧ y_faultPlace ≤ 1600) ∧ (0 ≤ y_at ∧ y_at ≤ 1600) ∧ (0 ≤ y_end ∧ y_end ≤ 1600) ∧ (0 ≤ y_token ∧ y_token ≤ 5) ∧ (-2147483648 ≤ y_number ∧ y_number ≤ 2147483647) ∧ (bd (0) 4 F_turns) ∧ (bd (0) 31 F_told) ∧ (0 ≤ y_faultKind - x_faultKind) ∧ (0 ≤ y_end - x_end) ∧ (1 ≤ y_faultKind ∨ y_token ≤ 0 ∨ x_end + 1 ≤ y_end) ∧ (x_token = 4 ∨ 1 ≤ y_faultKind) ∧ (y_end ≤ x_size) ∧ (rQ x_bank F_told B_ruleFrom B_ruleTo B_code) ∧ (1 ≤ y_faultKind ∨ rQ x_rb F_told B_ruleFrom B_ruleTo B_code) ∧ (1 ≤ F_turns x_bank.toNat ∧ ¬ F_turns x_bank.toNat = 3) ∧ (1 ≤ y_faultKind ∨ (1 ≤ F_turns x_rb.toNat ∧ ¬ F_turns x_rb.toNat = 3)) ∧ va_P D vwCl (rW k a x_taped x_size y_faultKind y_faultPlace y_at y_end y_token y_number x_bank x_rb x_codes x_within x_piled x_unitsInRule x_askBeast x_askStroke x_askAge x_askSeason x_acts x_undone x_laid x_seens x_time x_fitting j_name B_tape B_text F_turns B_herds B_irons B_beasts B_units B_night B_draw F_told B_brands B_ironMarks B_herdTold B_born B_ruleFrom B_ruleTo B_code B_codeNumber B_eWhat B_eSign B_pile B_all B_burned B_was B_need B_laidRow B_long8 B_brings B_sBurning B_sStroke B_sIs B_sTold B_sUntold B_parts B_boxAll B_isBoxed G_hName G_iName G_bName ex) H)) := by
  refine metG_of 0 ck_X12_readTurns (Nat.le_of_ble_eq_true rfl) rMap (fun p e s m args below meth c A hx hb hml hr hlocks hown hts hK hD hA hP hS ls hl => ?_)
  have hown : s.vm.findClass "HideReaderModel" = some m.cls := hown
  have hl : lv_has ls 2 [(0, .ref (a 0))] := hl
  refine lv_aload_n hx hb dX12_readTurns_0 rfl (lv_at hl 0 rfl) ?_
  refine rg_o_told hx hb hts hown hK hP uw_7_41 dX12_readTurns_1 ?_
  refine lv_aload_n hx hb dX12_readTurns_4 rfl (lv_at hl 0 rfl) ?_
  refine rg_o_rb hx hb hts hown hK hP uw_7_57 dX12_readTurns_5 ?_
  refine lv_dup2_11 hx hb dX12_readTurns_8 rfl rfl ?_
  refine rl_told hx hb hK hP dX12_readTurns_9 (by omega) b_B_told (fun z_1 ez_1 hz_1 => ?_)
  refine lv_iconst (v := mI 2) hx hb dX12_readTurns_10 rfl ?_
  refine sy_iorE hx hb dX12_readTurns_11 5 (by decide) 32 (by decide) (by omega) (by omega) (fun z_2 ez_2 hz_2 => ?_)
  refine rs_told hx hb hK hP hD hS dX12_readTurns_12 (by omega) b_B_told (by omega) (fun F_3 H locs eF_3 bF_3 hP hS => ?_)
  have g_4 := rQ_told g_Q eF_3 (by omega)
  have g_5 := rQ_or g_VV ez_1 eF_3 ez_2 (by decide)
  refine lv_aload_n hx hb dX12_readTurns_13 rfl (lv_at hl 0 rfl) ?_
  refine rg_o_at hx hb hts hown hK hP uw_7_29 dX12_readTurns_14 ?_
  refine lv_istore_n (lv' := [(1, .int (mI x_at)), (0, .ref (a 0))]) hx hb dX12_readTurns_17 rfl hl (by decide) rfl (fun ls hl => ?_)
  refine lv_aload_n hx hb dX12_readTurns_18 rfl (lv_at hl 1 rfl) ?_
  refine rg_o_turns hx hb hts hown hK hP uw_7_34 dX12_readTurns_19 ?_
  refine lv_aload_n hx hb dX12_readTurns_22 rfl (lv_at hl 1 rfl) ?_
  refine rg_o_rb hx hb hts hown hK hP uw_7_57 dX12_readTurns_23 ?_
  refine lv_aload_n hx hb dX12_readTurns_26 rfl (lv_at hl 1 rfl) ?_
  refine lv_iconst (v := mI 1) hx hb dX12_readTurns_27 rfl ?_
  refine lv_iconst (v := mI 4) hx hb dX12_readTurns_28 rfl ?_
  refine g_i (rDt hD) hS hA (g_V (own := "HideReaderModel") (As := [.int (mI 1), .int (mI 4)]) (rest := [.int (mI x_rb), .ref (a 3)]) hx hb hml hown hts hK hP (rDt hD) (kr_X12_numeral_v1_4 (l := l) (D := D) (k := k) (by decide) (by decide) h_x_size h_x_faultKind h_x_faultPlace h_x_at h_x_end h_x_token h_x_number b_B_text g_E) ck_X12_numeral iv_X12_numeral uw_8_46 (rv_o hK hP) rfl hl.1 rfl (Nat.le_of_ble_eq_true rfl) dX12_readTurns_29 ⟨Nat.le_of_ble_eq_true rfl, Nat.le_of_ble_eq_true rfl⟩ ⟨Nat.le_of_ble_eq_true rfl, Nat.le_of_ble_eq_true rfl⟩) (fun r_6 H locs hQ hS => ?_)
  obtain ⟨y_7, y_8, y_9, y_10, y_11, y_12, j_13, hr_6_0, hr_6_1, hr_6_2, hr_6_3, hr_6_4, hr_6_5, hr_6_6, hr_6_7, hr_6_8, hr_6_9, hr_6_10, kr_6_E, hP⟩ := hQ
  refine rs_turns hx hb hK hP hD hS dX12_readTurns_32 (by omega) b_B_turns (by omega) (fun F_14 H locs eF_14 bF_14 hP hS => ?_)
  have g_15 := rT_n g_R eF_14 (by omega)
  have h_16 : F_14 x_rb.toNat = r_6 := by rw [eF_14, ud_s]
  refine lv_aload_n hx hb dX12_readTurns_33 rfl (lv_at hl 1 rfl) ?_
  refine rg_o_turns hx hb hts hown hK hP uw_7_34 dX12_readTurns_34 ?_
  refine lv_aload_n hx hb dX12_readTurns_37 rfl (lv_at hl 1 rfl) ?_
  refine rg_o_rb hx hb hts hown hK hP uw_7_57 dX12_readTurns_38 ?_
  refine rl_turns hx hb hK hP dX12_readTurns_41 (by omega) bF_14 (fun z_17 ez_17 hz_17 => ?_)
  refine lv_iconst (v := mI 3) hx hb dX12_readTurns_42 rfl ?_
  refine sy_icmp_ne (tgt := 52) hx hb dX12_readTurns_43 (by decide) (by omega) (by decide) (fun c_18 => ?_) (fun c_18 => ?_)
  · skip
    exact r_v hx hb hr hlocks dX12_readTurns_52 hS ⟨y_7, y_8, y_9, y_10, y_11, y_12, j_13, F_14, F_3, by omega, by omega, by omega, by omega, by omega, by omega, bF_14, bF_3, by omega, by omega, by omega, by omega, kr_6_E, g_4, (Or.imp_left (fun h9 => by omega) (g_5 : 1 ≤ x_faultKind ∨ rQ x_rb F_3 B_ruleFrom B_ruleTo B_code) : 1 ≤ y_7 ∨ rQ x_rb F_3 B_ruleFrom B_ruleTo B_code), g_15, (by omega), hP⟩
  · skip
    refine lv_aload_n hx hb dX12_readTurns_46 rfl (lv_at hl 1 rfl) ?_
    refine lv_iconst (v := mI 4) hx hb dX12_readTurns_47 rfl ?_
    refine lv_iload_n hx hb dX12_readTurns_48 rfl (lv_at hl 0 rfl) ?_
    refine g_v (rDt hD) hS hA (g_V (own := "HideReaderModel") (As := [.int (mI 4), .int (mI x_at)]) (rest := []) hx hb hml hown hts hK hP (rDt hD) (kr_X12_fails (l := l) (D := D) (k := k) (by decide) (by omega) (by omega) (by omega)) ck_X12_fails iv_X12_fails uw_8_38 (rv_o hK hP) rfl hl.1 rfl (Nat.le_of_ble_eq_true rfl) dX12_readTurns_49 ⟨Nat.le_of_ble_eq_true rfl, Nat.le_of_ble_eq_true rfl⟩ ⟨Nat.le_of_ble_eq_true rfl, Nat.le_of_ble_eq_true rfl⟩) (fun H locs hQ hS => ?_)
    obtain ⟨y_20, y_21, hr_19_0, hr_19_1, hr_19_2, hP⟩ := hQ
    exact r_v hx hb hr hlocks dX12_readTurns_52 hS ⟨y_20, y_21, y_9, y_10, y_11, y_12, j_13, F_14, F_3, by omega, by omega, by omega, by omega, by omega, by omega, bF_14, bF_3, by omega, by omega, by omega, by omega, kr_6_E, g_4, (Or.imp_left (fun h9 => by omega) ((Or.imp_left (fun h9 => by omega) (g_5 : 1 ≤ x_faultKind ∨ rQ x_rb F_3 B_ruleFrom B_ruleTo B_code) : 1 ≤ y_7 ∨ rQ x_rb F_3 B_ruleFrom B_ruleTo B_code) : 1 ≤ y_7 ∨ rQ x_rb F_3 B_ruleFrom B_ruleTo B_code) : 1 ≤ y_20 ∨ rQ x_rb F_3 B_ruleFrom B_ruleTo B_code), g_15, (by omega), hP⟩
set_option maxHeartbeats 4000000 in
set_option maxRecDepth 100000 in
theorem kr_X12_here_o_hName {p1 p2 : Int} (hp1 : 0 ≤ p1 ∧ p1 ≤ 8) (hp2 : 0 ≤ p2 ∧ p2 ≤ 8) (h_x_token : 0 ≤ x_token ∧ x_token ≤ 5) : MetG l D k yX12_here cX12_here 5 (some .int) 0 [.ref (a 0), .ref (a 17), .int (mI p1), .int (mI p2)] (rW k a x_taped x_size x_faultKind x_faultPlace x_at x_end x_token x_number x_bank x_rb x_codes x_within x_piled x_unitsInRule x_askBeast x_askStroke x_askAge x_askSeason x_acts x_undone x_laid x_seens x_time x_fitting n_name B_tape B_text B_turns B_herds B_irons B_beasts B_units B_night B_draw B_told B_brands B_ironMarks B_herdTold B_born B_ruleFrom B_ruleTo B_code B_codeNumber B_eWhat B_eSign B_pile B_all B_burned B_was B_need B_laidRow B_long8 B_brings B_sBurning B_sStroke B_sIs B_sTold B_sUntold B_parts B_boxAll B_isBoxed G_hName G_iName G_bName ex) (qGi (fun r0 H => (-1 ≤ r0 ∧ r0 ≤ 7) ∧ va_P D vwCl (rW k a x_taped x_size x_faultKind x_faultPlace x_at x_end x_token x_number x_bank x_rb x_codes x_within x_piled x_unitsInRule x_askBeast x_askStroke x_askAge x_askSeason x_acts x_undone x_laid x_seens x_time x_fitting n_name B_tape B_text B_turns B_herds B_irons B_beasts B_units B_night B_draw B_told B_brands B_ironMarks B_herdTold B_born B_ruleFrom B_ruleTo B_code B_codeNumber B_eWhat B_eSign B_pile B_all B_burned B_was B_need B_laidRow B_long8 B_brings B_sBurning B_sStroke B_sIs B_sTold B_sUntold B_parts B_boxAll B_isBoxed G_hName G_iName G_bName ex) H)) := by
  refine metG_of 3 ck_X12_here (Nat.le_of_ble_eq_true rfl) rMap (fun p e s m args below meth c A hx hb hml hr hlocks hown hts hK hD hA hP hS ls hl => ?_)
  have hown : s.vm.findClass "HideReaderModel" = some m.cls := hown
  have hl : lv_has ls 5 [(0, .ref (a 0)), (1, .ref (a 17)), (2, .int (mI p1)), (3, .int (mI p2))] := hl
  refine lv_iconst (v := mI 0) hx hb dX12_here_0 rfl ?_
  refine lv_istore (lv' := [(4, .int (mI 0)), (0, .ref (a 0)), (1, .ref (a 17)), (2, .int (mI p1)), (3, .int (mI p2))]) hx hb dX12_here_1 hl (by decide) rfl (fun ls hl => ?_)
  refine sy_loop (I := fun n H locs g => ∃ (z_42 : Int) (ls : Array Slot), (0 ≤ z_42 ∧ z_42 ≤ 8) ∧ (8 - z_42).toNat = n ∧ va_P D vwCl (rW k a x_taped x_size x_faultKind x_faultPlace x_at x_end x_token x_number x_bank x_rb x_codes x_within x_piled x_unitsInRule x_askBeast x_askStroke x_askAge x_askSeason x_acts x_undone x_laid x_seens x_time x_fitting n_name B_tape B_text B_turns B_herds B_irons B_beasts B_units B_night B_draw B_told B_brands B_ironMarks B_herdTold B_born B_ruleFrom B_ruleTo B_code B_codeNumber B_eWhat B_eSign B_pile B_all B_burned B_was B_need B_laidRow B_long8 B_brings B_sBurning B_sStroke B_sIs B_sTold B_sUntold B_parts B_boxAll B_isBoxed G_hName G_iName G_bName ex) H ∧ va_S A s.heap H locs ∧ lv_has ls 5 [(4, .int (mI z_42)), (0, .ref (a 0)), (1, .ref (a 17)), (2, .int (mI p1)), (3, .int (mI p2))] ∧ g = F0 m 3 ls []) ?_ _ ⟨0, _, by omega, rfl, hP, hS, lv_sub hl [0, 1, 2, 3, 4] rfl, rfl⟩
  intro n_48 H locs g hI ih_49
  obtain ⟨z_42, ls, h3_0, mn_48, hP, hS, hl, rfl⟩ := hI
  refine lv_iload hx hb dX12_here_3 (lv_at hl 0 rfl) ?_
  refine lv_iload_n hx hb dX12_here_5 rfl (lv_at hl 4 rfl) ?_
  refine sy_icmp_ge (tgt := 40) hx hb dX12_here_6 (by decide) (by omega) (by omega) (fun c_50 => ?_) (fun c_50 => ?_)
  · skip
    refine lv_iconst (v := mI (-1)) hx hb dX12_here_40 rfl ?_
    exact r_i hx hb hr hlocks dX12_here_41 hS ⟨by omega, hP⟩
  · skip
    refine lv_aload_n hx hb dX12_here_9 rfl (lv_at hl 1 rfl) ?_
    refine rg_o_token hx hb hts hown hK hP uw_7_31 dX12_here_10 ?_
    refine lv_iconst (v := mI 2) hx hb dX12_here_13 rfl ?_
    refine sy_icmp_ne (tgt := 34) hx hb dX12_here_14 (by decide) (by omega) (by decide) (fun c_51 => ?_) (fun c_51 => ?_)
    · skip
      refine lv_iinc (v := mI (z_42 + 1)) (lv' := [(4, .int (mI (z_42 + 1))), (0, .ref (a 0)), (1, .ref (a 17)), (2, .int (mI p1)), (3, .int (mI p2))]) hx hb dX12_here_34 hl (k := 0) rfl (mI_ad rfl) (by decide) rfl (fun ls hl => ?_)
      refine lv_goto (tgt := 3) hx hb dX12_here_37 (by decide) ?_
      exact ih_49 _ _ _ _ (by omega) ⟨(z_42 + 1), _, by omega, rfl, hP, hS, lv_sub hl [0, 1, 2, 3, 4] rfl, rfl⟩
    · skip
      refine lv_aload_n hx hb dX12_here_17 rfl (lv_at hl 2 rfl) ?_
      refine lv_iload_n hx hb dX12_here_18 rfl (lv_at hl 3 rfl) ?_
      refine lv_iload hx hb dX12_here_19 (lv_at hl 0 rfl) ?_
      refine sy_iadd hx hb dX12_here_21 (p1 + z_42) rfl ?_
      refine rl_hName hx hb hK hP dX12_here_22 (by omega) (fun j_52 => ?_)
      refine lv_aload_n hx hb dX12_here_23 rfl (lv_at hl 1 rfl) ?_
      refine rg_o_name hx hb hts hown hK hP uw_7_33 dX12_here_24 ?_
      refine sy_lcmp hx hb dX12_here_27 (fun z_53 hz_53 => ?_)
      refine sy_if_ne (tgt := 34) hx hb dX12_here_28 (by decide) (by omega) (fun c_54 => ?_) (fun c_54 => ?_)
      · skip
        refine lv_iinc (v := mI (z_42 + 1)) (lv' := [(4, .int (mI (z_42 + 1))), (0, .ref (a 0)), (1, .ref (a 17)), (2, .int (mI p1)), (3, .int (mI p2))]) hx hb dX12_here_34 hl (k := 0) rfl (mI_ad rfl) (by decide) rfl (fun ls hl => ?_)
        refine lv_goto (tgt := 3) hx hb dX12_here_37 (by decide) ?_
        exact ih_49 _ _ _ _ (by omega) ⟨(z_42 + 1), _, by omega, rfl, hP, hS, lv_sub hl [0, 1, 2, 3, 4] rfl, rfl⟩
      · skip
        refine lv_iload hx hb dX12_here_31 (lv_at hl 0 rfl) ?_
        exact r_i hx hb hr hlocks dX12_here_33 hS ⟨by omega, hP⟩
set_option maxHeartbeats 4000000 in
set_option maxRecDepth 100000 in
theorem kr_X12_numeral_v0_11 (h_c0 : 0 ≤ 0 ∧ 0 ≤ 0) (h_c1 : 11 ≤ 11 ∧ 11 ≤ 11) (h_x_size : 0 ≤ x_size ∧ x_size ≤ 1600) (h_x_faultKind : 0 ≤ x_faultKind ∧ x_faultKind ≤ 5) (h_x_faultPlace : -1 ≤ x_faultPlace ∧ x_faultPlace ≤ 1600) (h_x_at : 0 ≤ x_at ∧ x_at ≤ 1600) (h_x_end : 0 ≤ x_end ∧ x_end ≤ 1600) (h_x_token : 0 ≤ x_token ∧ x_token ≤ 5) (h_x_number : -2147483648 ≤ x_number ∧ x_number ≤ 2147483647) (b_B_text : bd (-128) 127 B_text) (g_E : x_end ≤ x_size) : MetG l D k yX12_numeral cX12_numeral 4 (some .int) 2 [.ref (a 0), .int (mI 0), .int (mI 11)] (rW k a x_taped x_size x_faultKind x_faultPlace x_at x_end x_token x_number x_bank x_rb x_codes x_within x_piled x_unitsInRule x_askBeast x_askStroke x_askAge x_askSeason x_acts x_undone x_laid x_seens x_time x_fitting n_name B_tape B_text B_turns B_herds B_irons B_beasts B_units B_night B_draw B_told B_brands B_ironMarks B_herdTold B_born B_ruleFrom B_ruleTo B_code B_codeNumber B_eWhat B_eSign B_pile B_all B_burned B_was B_need B_laidRow B_long8 B_brings B_sBurning B_sStroke B_sIs B_sTold B_sUntold B_parts B_boxAll B_isBoxed G_hName G_iName G_bName ex) (qGi (fun r0 H => ∃ (y_faultKind : Int) (y_faultPlace : Int) (y_at : Int) (y_end : Int) (y_token : Int) (y_number : Int) (j_name : Int64), (0 ≤ r0 ∧ r0 ≤ 11) ∧ (0 ≤ y_faultKind ∧ y_faultKind ≤ 5) ∧ (-1 ≤ y_faultPlace ∧ y_faultPlace ≤ 1600) ∧ (0 ≤ y_at ∧ y_at ≤ 1600) ∧ (0 ≤ y_end ∧ y_end ≤ 1600) ∧ (0 ≤ y_token ∧ y_token ≤ 5) ∧ (-2147483648 ≤ y_number ∧ y_number ≤ 2147483647) ∧ (0 ≤ y_faultKind - x_faultKind) ∧ (0 ≤ y_end - x_end) ∧ (1 ≤ y_faultKind ∨ y_token ≤ 0 ∨ x_end + 1 ≤ y_end) ∧ (x_token = 4 ∨ 1 ≤ y_faultKind) ∧ (y_end ≤ x_size) ∧ va_P D vwCl (rW k a x_taped x_size y_faultKind y_faultPlace y_at y_end y_token y_number x_bank x_rb x_codes x_within x_piled x_unitsInRule x_askBeast x_askStroke x_askAge x_askSeason x_acts x_undone x_laid x_seens x_time x_fitting j_name B_tape B_text B_turns B_herds B_irons B_beasts B_units B_night B_draw B_told B_brands B_ironMarks B_herdTold B_born B_ruleFrom B_ruleTo B_code B_codeNumber B_eWhat B_eSign B_pile B_all B_burned B_was B_need B_laidRow B_long8 B_brings B_sBurning B_sStroke B_sIs B_sTold B_sUntold B_parts B_boxAll B_isBoxed G_hName G_iName G_bName ex) H)) := by
  refine metG_of 2 ck_X12_numeral (Nat.le_of_ble_eq_true rfl) rMap (fun p e s m args below meth c A hx hb hml hr hlocks hown hts hK hD hA hP hS ls hl => ?_)
  have hown : s.vm.findClass "HideReaderModel" = some m.cls := hown
  have hl : lv_has ls 4 [(0, .ref (a 0)), (1, .int (mI 0)), (2, .int (mI 11))] := hl
  refine lv_aload_n hx hb dX12_numeral_0 rfl (lv_at hl 0 rfl) ?_
  refine g_i (rDt hD) hS hA (g_V (own := "HideReaderModel") (As := []) (rest := []) hx hb hml hown hts hK hP (rDt hD) (kr_X12_isGood (l := l) (D := D) (k := k) h_x_faultKind) ck_X12_isGood iv_X12_isGood uw_8_18 (rv_o hK hP) rfl hl.1 rfl (Nat.le_of_ble_eq_true rfl) dX12_numeral_1 ⟨Nat.le_of_ble_eq_true rfl, Nat.le_of_ble_eq_true rfl⟩ ⟨Nat.le_of_ble_eq_true rfl, Nat.le_of_ble_eq_true rfl⟩) (fun r_1 H locs hQ hS => ?_)
  obtain ⟨hq_r_1, hP⟩ := hQ
  rcases hq_r_1 with ⟨rfl, c_2_0, c_2_1⟩ | ⟨rfl, c_3_0⟩
  · skip
    refine sy_if_ne (tgt := 9) hx hb dX12_numeral_4 (by decide) (by decide) (fun c9 => absurd c9 (by decide)) (fun c_4 => ?_)
    refine lv_iload_n hx hb dX12_numeral_7 rfl (lv_at hl 1 rfl) ?_
    exact r_i hx hb hr hlocks dX12_numeral_8 hS ⟨x_faultKind, x_faultPlace, x_at, x_end, x_token, x_number, n_name, by omega, by omega, by omega, by omega, by omega, by omega, by omega, by omega, by omega, by omega, by omega, g_E, hP⟩
  · skip
    refine sy_if_ne (tgt := 9) hx hb dX12_numeral_4 (by decide) (by decide) (fun c_5 => ?_) (fun c9 => absurd c9 (by decide))
    refine lv_aload_n hx hb dX12_numeral_9 rfl (lv_at hl 0 rfl) ?_
    refine rg_o_token hx hb hts hown hK hP uw_7_31 dX12_numeral_10 ?_
    refine lv_iconst (v := mI 4) hx hb dX12_numeral_13 rfl ?_
    refine sy_icmp_eq (tgt := 21) hx hb dX12_numeral_14 (by decide) (by omega) (by decide) (fun c_6 => ?_) (fun c_6 => ?_)
    · skip
      refine lv_aload_n hx hb dX12_numeral_21 rfl (lv_at hl 0 rfl) ?_
      refine g_i (rDt hD) hS hA (g_V (own := "HideReaderModel") (As := []) (rest := []) hx hb hml hown hts hK hP (rDt hD) (kr_X12_isGood (l := l) (D := D) (k := k) h_x_faultKind) ck_X12_isGood iv_X12_isGood uw_8_18 (rv_o hK hP) rfl hl.1 rfl (Nat.le_of_ble_eq_true rfl) dX12_numeral_22 ⟨Nat.le_of_ble_eq_true rfl, Nat.le_of_ble_eq_true rfl⟩ ⟨Nat.le_of_ble_eq_true rfl, Nat.le_of_ble_eq_true rfl⟩) (fun r_7 H locs hQ hS => ?_)
      obtain ⟨hq_r_7, hP⟩ := hQ
      rcases hq_r_7 with ⟨rfl, c_8_0, c_8_1⟩ | ⟨rfl, c_9_0⟩
      exact False.elim (by omega)
      · skip
        refine sy_if_eq (tgt := 53) hx hb dX12_numeral_25 (by decide) (by decide) (fun c9 => absurd c9 (by decide)) (fun c_10 => ?_)
        refine lv_aload_n hx hb dX12_numeral_28 rfl (lv_at hl 0 rfl) ?_
        refine rg_o_number hx hb hts hown hK hP uw_7_32 dX12_numeral_29 ?_
        refine lv_iload_n hx hb dX12_numeral_32 rfl (lv_at hl 1 rfl) ?_
        refine sy_icmp_lt (tgt := 44) hx hb dX12_numeral_33 (by decide) (by omega) (by decide) (fun c_11 => ?_) (fun c_11 => ?_)
        · skip
          refine lv_aload_n hx hb dX12_numeral_44 rfl (lv_at hl 0 rfl) ?_
          refine lv_iconst (v := mI 4) hx hb dX12_numeral_45 rfl ?_
          refine lv_aload_n hx hb dX12_numeral_46 rfl (lv_at hl 0 rfl) ?_
          refine rg_o_at hx hb hts hown hK hP uw_7_29 dX12_numeral_47 ?_
          refine g_v (rDt hD) hS hA (g_V (own := "HideReaderModel") (As := [.int (mI 4), .int (mI x_at)]) (rest := []) hx hb hml hown hts hK hP (rDt hD) (kr_X12_fails (l := l) (D := D) (k := k) (by decide) (by omega) h_x_faultKind h_x_faultPlace) ck_X12_fails iv_X12_fails uw_8_38 (rv_o hK hP) rfl hl.1 rfl (Nat.le_of_ble_eq_true rfl) dX12_numeral_50 ⟨Nat.le_of_ble_eq_true rfl, Nat.le_of_ble_eq_true rfl⟩ ⟨Nat.le_of_ble_eq_true rfl, Nat.le_of_ble_eq_true rfl⟩) (fun H locs hQ hS => ?_)
          obtain ⟨y_13, y_14, hr_12_0, hr_12_1, hr_12_2, hP⟩ := hQ
          refine lv_aload_n hx hb dX12_numeral_53 rfl (lv_at hl 0 rfl) ?_
          refine rg_o_number hx hb hts hown hK hP uw_7_32 dX12_numeral_54 ?_
          refine lv_istore_n (lv' := [(3, .int (mI x_number)), (0, .ref (a 0)), (1, .int (mI 0)), (2, .int (mI 11))]) hx hb dX12_numeral_57 rfl hl (by decide) rfl (fun ls hl => ?_)
          refine lv_aload_n hx hb dX12_numeral_58 rfl (lv_at hl 1 rfl) ?_
          refine g_i (rDt hD) hS hA (g_V (own := "HideReaderModel") (As := []) (rest := []) hx hb hml hown hts hK hP (rDt hD) (kr_X12_isGood (l := l) (D := D) (k := k) (by omega)) ck_X12_isGood iv_X12_isGood uw_8_18 (rv_o hK hP) rfl hl.1 rfl (Nat.le_of_ble_eq_true rfl) dX12_numeral_59 ⟨Nat.le_of_ble_eq_true rfl, Nat.le_of_ble_eq_true rfl⟩ ⟨Nat.le_of_ble_eq_true rfl, Nat.le_of_ble_eq_true rfl⟩) (fun r_15 H locs hQ hS => ?_)
          obtain ⟨hq_r_15, hP⟩ := hQ
          rcases hq_r_15 with ⟨rfl, c_16_0, c_16_1⟩ | ⟨rfl, c_17_0⟩
          · skip
            refine sy_if_eq (tgt := 69) hx hb dX12_numeral_62 (by decide) (by decide) (fun c_18 => ?_) (fun c9 => absurd c9 (by decide))
            refine lv_aload_n hx hb dX12_numeral_69 rfl (lv_at hl 1 rfl) ?_
            refine g_i (rDt hD) hS hA (g_V (own := "HideReaderModel") (As := []) (rest := []) hx hb hml hown hts hK hP (rDt hD) (kr_X12_isGood (l := l) (D := D) (k := k) (by omega)) ck_X12_isGood iv_X12_isGood uw_8_18 (rv_o hK hP) rfl hl.1 rfl (Nat.le_of_ble_eq_true rfl) dX12_numeral_70 ⟨Nat.le_of_ble_eq_true rfl, Nat.le_of_ble_eq_true rfl⟩ ⟨Nat.le_of_ble_eq_true rfl, Nat.le_of_ble_eq_true rfl⟩) (fun r_19 H locs hQ hS => ?_)
            obtain ⟨hq_r_19, hP⟩ := hQ
            rcases hq_r_19 with ⟨rfl, c_20_0, c_20_1⟩ | ⟨rfl, c_21_0⟩
            · skip
              refine sy_if_eq (tgt := 80) hx hb dX12_numeral_73 (by decide) (by decide) (fun c_22 => ?_) (fun c9 => absurd c9 (by decide))
              refine lv_iload_n hx hb dX12_numeral_80 rfl (lv_at hl 2 rfl) ?_
              exact r_i hx hb hr hlocks dX12_numeral_81 hS ⟨y_13, y_14, x_at, x_end, x_token, x_number, n_name, by omega, by omega, by omega, by omega, by omega, by omega, by omega, by omega, by omega, by omega, by omega, g_E, hP⟩
            exact False.elim (by omega)
          exact False.elim (by omega)
        · skip
          refine lv_aload_n hx hb dX12_numeral_36 rfl (lv_at hl 0 rfl) ?_
          refine rg_o_number hx hb hts hown hK hP uw_7_32 dX12_numeral_37 ?_
          refine lv_iload_n hx hb dX12_numeral_40 rfl (lv_at hl 2 rfl) ?_
          refine sy_icmp_le (tgt := 53) hx hb dX12_numeral_41 (by decide) (by omega) (by decide) (fun c_23 => ?_) (fun c_23 => ?_)
          · skip
            refine lv_aload_n hx hb dX12_numeral_53 rfl (lv_at hl 0 rfl) ?_
            refine rg_o_number hx hb hts hown hK hP uw_7_32 dX12_numeral_54 ?_
            refine lv_istore_n (lv' := [(3, .int (mI x_number)), (0, .ref (a 0)), (1, .int (mI 0)), (2, .int (mI 11))]) hx hb dX12_numeral_57 rfl hl (by decide) rfl (fun ls hl => ?_)
            refine lv_aload_n hx hb dX12_numeral_58 rfl (lv_at hl 1 rfl) ?_
            refine g_i (rDt hD) hS hA (g_V (own := "HideReaderModel") (As := []) (rest := []) hx hb hml hown hts hK hP (rDt hD) (kr_X12_isGood (l := l) (D := D) (k := k) h_x_faultKind) ck_X12_isGood iv_X12_isGood uw_8_18 (rv_o hK hP) rfl hl.1 rfl (Nat.le_of_ble_eq_true rfl) dX12_numeral_59 ⟨Nat.le_of_ble_eq_true rfl, Nat.le_of_ble_eq_true rfl⟩ ⟨Nat.le_of_ble_eq_true rfl, Nat.le_of_ble_eq_true rfl⟩) (fun r_24 H locs hQ hS => ?_)
            obtain ⟨hq_r_24, hP⟩ := hQ
            rcases hq_r_24 with ⟨rfl, c_25_0, c_25_1⟩ | ⟨rfl, c_26_0⟩
            exact False.elim (by omega)
            · skip
              refine sy_if_eq (tgt := 69) hx hb dX12_numeral_62 (by decide) (by decide) (fun c9 => absurd c9 (by decide)) (fun c_27 => ?_)
              refine lv_aload_n hx hb dX12_numeral_65 rfl (lv_at hl 1 rfl) ?_
              refine g_v (rDt hD) hS hA (g_V (own := "HideReaderModel") (As := []) (rest := []) hx hb hml hown hts hK hP (rDt hD) (kr_X12_goOn (l := l) (D := D) (k := k) h_x_size h_x_end h_x_number b_B_text g_E) ck_X12_goOn iv_X12_goOn uw_7_220 (rv_o hK hP) rfl hl.1 rfl (Nat.le_of_ble_eq_true rfl) dX12_numeral_66 ⟨Nat.le_of_ble_eq_true rfl, Nat.le_of_ble_eq_true rfl⟩ ⟨Nat.le_of_ble_eq_true rfl, Nat.le_of_ble_eq_true rfl⟩) (fun H locs hQ hS => ?_)
              obtain ⟨y_29, y_30, y_31, y_32, j_33, hr_28_0, hr_28_1, hr_28_2, hr_28_3, hr_28_4, hr_28_5, kr_28_E, hP⟩ := hQ
              refine lv_aload_n hx hb dX12_numeral_69 rfl (lv_at hl 1 rfl) ?_
              refine g_i (rDt hD) hS hA (g_V (own := "HideReaderModel") (As := []) (rest := []) hx hb hml hown hts hK hP (rDt hD) (kr_X12_isGood (l := l) (D := D) (k := k) h_x_faultKind) ck_X12_isGood iv_X12_isGood uw_8_18 (rv_o hK hP) rfl hl.1 rfl (Nat.le_of_ble_eq_true rfl) dX12_numeral_70 ⟨Nat.le_of_ble_eq_true rfl, Nat.le_of_ble_eq_true rfl⟩ ⟨Nat.le_of_ble_eq_true rfl, Nat.le_of_ble_eq_true rfl⟩) (fun r_34 H locs hQ hS => ?_)
              obtain ⟨hq_r_34, hP⟩ := hQ
              rcases hq_r_34 with ⟨rfl, c_35_0, c_35_1⟩ | ⟨rfl, c_36_0⟩
              exact False.elim (by omega)
              · skip
                refine sy_if_eq (tgt := 80) hx hb dX12_numeral_73 (by decide) (by decide) (fun c9 => absurd c9 (by decide)) (fun c_37 => ?_)
                refine lv_iload_n hx hb dX12_numeral_76 rfl (lv_at hl 0 rfl) ?_
                refine lv_goto (tgt := 81) hx hb dX12_numeral_77 (by decide) ?_
                exact r_i hx hb hr hlocks dX12_numeral_81 hS ⟨x_faultKind, x_faultPlace, y_29, y_30, y_31, y_32, j_33, by omega, by omega, by omega, by omega, by omega, by omega, by omega, by omega, by omega, by omega, by omega, kr_28_E, hP⟩
          · skip
            refine lv_aload_n hx hb dX12_numeral_44 rfl (lv_at hl 0 rfl) ?_
            refine lv_iconst (v := mI 4) hx hb dX12_numeral_45 rfl ?_
            refine lv_aload_n hx hb dX12_numeral_46 rfl (lv_at hl 0 rfl) ?_
            refine rg_o_at hx hb hts hown hK hP uw_7_29 dX12_numeral_47 ?_
            refine g_v (rDt hD) hS hA (g_V (own := "HideReaderModel") (As := [.int (mI 4), .int (mI x_at)]) (rest := []) hx hb hml hown hts hK hP (rDt hD) (kr_X12_fails (l := l) (D := D) (k := k) (by decide) (by omega) h_x_faultKind h_x_faultPlace) ck_X12_fails iv_X12_fails uw_8_38 (rv_o hK hP) rfl hl.1 rfl (Nat.le_of_ble_eq_true rfl) dX12_numeral_50 ⟨Nat.le_of_ble_eq_true rfl, Nat.le_of_ble_eq_true rfl⟩ ⟨Nat.le_of_ble_eq_true rfl, Nat.le_of_ble_eq_true rfl⟩) (fun H locs hQ hS => ?_)
            obtain ⟨y_39, y_40, hr_38_0, hr_38_1, hr_38_2, hP⟩ := hQ
            refine lv_aload_n hx hb dX12_numeral_53 rfl (lv_at hl 0 rfl) ?_
            refine rg_o_number hx hb hts hown hK hP uw_7_32 dX12_numeral_54 ?_
            refine lv_istore_n (lv' := [(3, .int (mI x_number)), (0, .ref (a 0)), (1, .int (mI 0)), (2, .int (mI 11))]) hx hb dX12_numeral_57 rfl hl (by decide) rfl (fun ls hl => ?_)
            refine lv_aload_n hx hb dX12_numeral_58 rfl (lv_at hl 1 rfl) ?_
            refine g_i (rDt hD) hS hA (g_V (own := "HideReaderModel") (As := []) (rest := []) hx hb hml hown hts hK hP (rDt hD) (kr_X12_isGood (l := l) (D := D) (k := k) (by omega)) ck_X12_isGood iv_X12_isGood uw_8_18 (rv_o hK hP) rfl hl.1 rfl (Nat.le_of_ble_eq_true rfl) dX12_numeral_59 ⟨Nat.le_of_ble_eq_true rfl, Nat.le_of_ble_eq_true rfl⟩ ⟨Nat.le_of_ble_eq_true rfl, Nat.le_of_ble_eq_true rfl⟩) (fun r_41 H locs hQ hS => ?_)
            obtain ⟨hq_r_41, hP⟩ := hQ
            rcases hq_r_41 with ⟨rfl, c_42_0, c_42_1⟩ | ⟨rfl, c_43_0⟩
            · skip
              refine sy_if_eq (tgt := 69) hx hb dX12_numeral_62 (by decide) (by decide) (fun c_44 => ?_) (fun c9 => absurd c9 (by decide))
              refine lv_aload_n hx hb dX12_numeral_69 rfl (lv_at hl 1 rfl) ?_
              refine g_i (rDt hD) hS hA (g_V (own := "HideReaderModel") (As := []) (rest := []) hx hb hml hown hts hK hP (rDt hD) (kr_X12_isGood (l := l) (D := D) (k := k) (by omega)) ck_X12_isGood iv_X12_isGood uw_8_18 (rv_o hK hP) rfl hl.1 rfl (Nat.le_of_ble_eq_true rfl) dX12_numeral_70 ⟨Nat.le_of_ble_eq_true rfl, Nat.le_of_ble_eq_true rfl⟩ ⟨Nat.le_of_ble_eq_true rfl, Nat.le_of_ble_eq_true rfl⟩) (fun r_45 H locs hQ hS => ?_)
              obtain ⟨hq_r_45, hP⟩ := hQ
              rcases hq_r_45 with ⟨rfl, c_46_0, c_46_1⟩ | ⟨rfl, c_47_0⟩
              · skip
                refine sy_if_eq (tgt := 80) hx hb dX12_numeral_73 (by decide) (by decide) (fun c_48 => ?_) (fun c9 => absurd c9 (by decide))
                refine lv_iload_n hx hb dX12_numeral_80 rfl (lv_at hl 2 rfl) ?_
                exact r_i hx hb hr hlocks dX12_numeral_81 hS ⟨y_39, y_40, x_at, x_end, x_token, x_number, n_name, by omega, by omega, by omega, by omega, by omega, by omega, by omega, by omega, by omega, by omega, by omega, g_E, hP⟩
              exact False.elim (by omega)
            exact False.elim (by omega)
    · skip
      refine lv_aload_n hx hb dX12_numeral_17 rfl (lv_at hl 0 rfl) ?_
      refine g_v (rDt hD) hS hA (g_V (own := "HideReaderModel") (As := []) (rest := []) hx hb hml hown hts hK hP (rDt hD) (kr_X12_misplaced (l := l) (D := D) (k := k) h_x_faultKind h_x_faultPlace h_x_at h_x_token) ck_X12_misplaced iv_X12_misplaced uw_8_34 (rv_o hK hP) rfl hl.1 rfl (Nat.le_of_ble_eq_true rfl) dX12_numeral_18 ⟨Nat.le_of_ble_eq_true rfl, Nat.le_of_ble_eq_true rfl⟩ ⟨Nat.le_of_ble_eq_true rfl, Nat.le_of_ble_eq_true rfl⟩) (fun H locs hQ hS => ?_)
      obtain ⟨y_50, y_51, hr_49_0, hr_49_1, hr_49_2, hP⟩ := hQ
      refine lv_aload_n hx hb dX12_numeral_21 rfl (lv_at hl 0 rfl) ?_
      refine g_i (rDt hD) hS hA (g_V (own := "HideReaderModel") (As := []) (rest := []) hx hb hml hown hts hK hP (rDt hD) (kr_X12_isGood (l := l) (D := D) (k := k) (by omega)) ck_X12_isGood iv_X12_isGood uw_8_18 (rv_o hK hP) rfl hl.1 rfl (Nat.le_of_ble_eq_true rfl) dX12_numeral_22 ⟨Nat.le_of_ble_eq_true rfl, Nat.le_of_ble_eq_true rfl⟩ ⟨Nat.le_of_ble_eq_true rfl, Nat.le_of_ble_eq_true rfl⟩) (fun r_52 H locs hQ hS => ?_)
      obtain ⟨hq_r_52, hP⟩ := hQ
      rcases hq_r_52 with ⟨rfl, c_53_0, c_53_1⟩ | ⟨rfl, c_54_0⟩
      · skip
        refine sy_if_eq (tgt := 53) hx hb dX12_numeral_25 (by decide) (by decide) (fun c_55 => ?_) (fun c9 => absurd c9 (by decide))
        refine lv_aload_n hx hb dX12_numeral_53 rfl (lv_at hl 0 rfl) ?_
        refine rg_o_number hx hb hts hown hK hP uw_7_32 dX12_numeral_54 ?_
        refine lv_istore_n (lv' := [(3, .int (mI x_number)), (0, .ref (a 0)), (1, .int (mI 0)), (2, .int (mI 11))]) hx hb dX12_numeral_57 rfl hl (by decide) rfl (fun ls hl => ?_)
        refine lv_aload_n hx hb dX12_numeral_58 rfl (lv_at hl 1 rfl) ?_
        refine g_i (rDt hD) hS hA (g_V (own := "HideReaderModel") (As := []) (rest := []) hx hb hml hown hts hK hP (rDt hD) (kr_X12_isGood (l := l) (D := D) (k := k) (by omega)) ck_X12_isGood iv_X12_isGood uw_8_18 (rv_o hK hP) rfl hl.1 rfl (Nat.le_of_ble_eq_true rfl) dX12_numeral_59 ⟨Nat.le_of_ble_eq_true rfl, Nat.le_of_ble_eq_true rfl⟩ ⟨Nat.le_of_ble_eq_true rfl, Nat.le_of_ble_eq_true rfl⟩) (fun r_56 H locs hQ hS => ?_)
        obtain ⟨hq_r_56, hP⟩ := hQ
        rcases hq_r_56 with ⟨rfl, c_57_0, c_57_1⟩ | ⟨rfl, c_58_0⟩
        · skip
          refine sy_if_eq (tgt := 69) hx hb dX12_numeral_62 (by decide) (by decide) (fun c_59 => ?_) (fun c9 => absurd c9 (by decide))
          refine lv_aload_n hx hb dX12_numeral_69 rfl (lv_at hl 1 rfl) ?_
          refine g_i (rDt hD) hS hA (g_V (own := "HideReaderModel") (As := []) (rest := []) hx hb hml hown hts hK hP (rDt hD) (kr_X12_isGood (l := l) (D := D) (k := k) (by omega)) ck_X12_isGood iv_X12_isGood uw_8_18 (rv_o hK hP) rfl hl.1 rfl (Nat.le_of_ble_eq_true rfl) dX12_numeral_70 ⟨Nat.le_of_ble_eq_true rfl, Nat.le_of_ble_eq_true rfl⟩ ⟨Nat.le_of_ble_eq_true rfl, Nat.le_of_ble_eq_true rfl⟩) (fun r_60 H locs hQ hS => ?_)
          obtain ⟨hq_r_60, hP⟩ := hQ
          rcases hq_r_60 with ⟨rfl, c_61_0, c_61_1⟩ | ⟨rfl, c_62_0⟩
          · skip
            refine sy_if_eq (tgt := 80) hx hb dX12_numeral_73 (by decide) (by decide) (fun c_63 => ?_) (fun c9 => absurd c9 (by decide))
            refine lv_iload_n hx hb dX12_numeral_80 rfl (lv_at hl 2 rfl) ?_
            exact r_i hx hb hr hlocks dX12_numeral_81 hS ⟨y_50, y_51, x_at, x_end, x_token, x_number, n_name, by omega, by omega, by omega, by omega, by omega, by omega, by omega, by omega, by omega, by omega, by omega, g_E, hP⟩
          exact False.elim (by omega)
        exact False.elim (by omega)
      exact False.elim (by omega)
set_option maxHeartbeats 4000000 in
set_option maxRecDepth 100000 in
theorem kr_X12_readMark (h_x_size : 0 ≤ x_size ∧ x_size ≤ 1600) (h_x_faultKind : 0 ≤ x_faultKind ∧ x_faultKind ≤ 5) (h_x_faultPlace : -1 ≤ x_faultPlace ∧ x_faultPlace ≤ 1600) (h_x_at : 0 ≤ x_at ∧ x_at ≤ 1600) (h_x_end : 0 ≤ x_end ∧ x_end ≤ 1600) (h_x_token : 0 ≤ x_token ∧ x_token ≤ 5) (h_x_number : -2147483648 ≤ x_number ∧ x_number ≤ 2147483647) (b_B_text : bd (-128) 127 B_text) (g_E : x_end ≤ x_size) (g_Z : 1 ≤ x_faultKind ∨ (0 ≤ 560 * x_rb + 9 * B_units x_rb.toNat - x_codes ∧ 560 * x_rb ≤ x_codes)) (g_VV : 1 ≤ x_faultKind ∨ rQ x_rb B_told B_ruleFrom B_ruleTo B_code) (g_SS : 1 ≤ x_faultKind ∨ (1 ≤ B_turns x_rb.toNat ∧ ¬ B_turns x_rb.toNat = 3)) : MetG l D k yX12_readMark cX12_readMark 4 (some .int) 3 [.ref (a 0)] (rW k a x_taped x_size x_faultKind x_faultPlace x_at x_end x_token x_number x_bank x_rb x_codes x_within x_piled x_unitsInRule x_askBeast x_askStroke x_askAge x_askSeason x_acts x_undone x_laid x_seens x_time x_fitting n_name B_tape B_text B_turns B_herds B_irons B_beasts B_units B_night B_draw B_told B_brands B_ironMarks B_herdTold B_born B_ruleFrom B_ruleTo B_code B_codeNumber B_eWhat B_eSign B_pile B_all B_burned B_was B_need B_laidRow B_long8 B_brings B_sBurning B_sStroke B_sIs B_sTold B_sUntold B_parts B_boxAll B_isBoxed G_hName G_iName G_bName ex) (qGi (fun r0 H => ∃ (y_faultKind : Int) (y_faultPlace : Int) (y_at : Int) (y_end : Int) (y_token : Int) (y_number : Int) (j_name : Int64), (0 ≤ r0 ∧ r0 ≤ 4095) ∧ (0 ≤ y_faultKind ∧ y_faultKind ≤ 5) ∧ (-1 ≤ y_faultPlace ∧ y_faultPlace ≤ 1600) ∧ (0 ≤ y_at ∧ y_at ≤ 1600) ∧ (0 ≤ y_end ∧ y_end ≤ 1600) ∧ (0 ≤ y_token ∧ y_token ≤ 5) ∧ (-2147483648 ≤ y_number ∧ y_number ≤ 2147483647) ∧ (0 ≤ y_faultKind - x_faultKind) ∧ (0 ≤ y_end - x_end) ∧ (1 ≤ y_faultKind ∨ y_token ≤ 0 ∨ x_end + 1 ≤ y_end) ∧ (x_token = 3 ∨ 1 ≤ y_faultKind) ∧ (y_end ≤ x_size) ∧ va_P D vwCl (rW k a x_taped x_size y_faultKind y_faultPlace y_at y_end y_token y_number x_bank x_rb x_codes x_within x_piled x_unitsInRule x_askBeast x_askStroke x_askAge x_askSeason x_acts x_undone x_laid x_seens x_time x_fitting j_name B_tape B_text B_turns B_herds B_irons B_beasts B_units B_night B_draw B_told B_brands B_ironMarks B_herdTold B_born B_ruleFrom B_ruleTo B_code B_codeNumber B_eWhat B_eSign B_pile B_all B_burned B_was B_need B_laidRow B_long8 B_brings B_sBurning B_sStroke B_sIs B_sTold B_sUntold B_parts B_boxAll B_isBoxed G_hName G_iName G_bName ex) H)) := by
  refine metG_of 0 ck_X12_readMark (Nat.le_of_ble_eq_true rfl) rMap (fun p e s m args below meth c A hx hb hml hr hlocks hown hts hK hD hA hP hS ls hl => ?_)
  have hown : s.vm.findClass "HideReaderModel" = some m.cls := hown
  have hl : lv_has ls 4 [(0, .ref (a 0))] := hl
  refine lv_aload_n hx hb dX12_readMark_0 rfl (lv_at hl 0 rfl) ?_
  refine lv_aload_n hx hb dX12_readMark_1 rfl (lv_at hl 0 rfl) ?_
  refine lv_ldc2 (own := "HideReaderModel") (v := 32497657166128499) hx hb hown (hts _ uw_7_237) dX12_readMark_2 ?_
  refine g_i (rDt hD) hS hA (g_V (own := "HideReaderModel") (As := [.long 32497657166128499]) (rest := [.ref (a 0)]) hx hb hml hown hts hK hP (rDt hD) (kr_X12_isWord (l := l) (D := D) (k := k) h_x_token) ck_X12_isWord iv_X12_isWord uw_8_30 (rv_o hK hP) rfl hl.1 rfl (Nat.le_of_ble_eq_true rfl) dX12_readMark_5 ⟨Nat.le_of_ble_eq_true rfl, Nat.le_of_ble_eq_true rfl⟩ ⟨Nat.le_of_ble_eq_true rfl, Nat.le_of_ble_eq_true rfl⟩) (fun r_1 H locs hQ hS => ?_)
  obtain ⟨hq_r_1, hP⟩ := hQ
  rcases hq_r_1 with ⟨rfl, c_2_0, c_2_1⟩ | ⟨rfl, c_3_0, c_3_1⟩
  · skip
    refine g_v (rDt hD) hS hA (g_V (own := "HideReaderModel") (As := [.int (mI 0)]) (rest := []) hx hb hml hown hts hK hP (rDt hD) (kr_X12_must (l := l) (D := D) (k := k) (by decide) h_x_size h_x_faultKind h_x_faultPlace h_x_at h_x_end h_x_token h_x_number b_B_text g_E) ck_X12_must iv_X12_must uw_8_62 (rv_o hK hP) rfl hl.1 rfl (Nat.le_of_ble_eq_true rfl) dX12_readMark_8 ⟨Nat.le_of_ble_eq_true rfl, Nat.le_of_ble_eq_true rfl⟩ ⟨Nat.le_of_ble_eq_true rfl, Nat.le_of_ble_eq_true rfl⟩) (fun H locs hQ hS => ?_)
    obtain ⟨y_5, y_6, y_7, y_8, y_9, y_10, j_11, hr_4_0, hr_4_1, hr_4_2, hr_4_3, hr_4_4, hr_4_5, hr_4_6, hr_4_7, hr_4_8, hr_4_9, hr_4_10, kr_4_E, hP⟩ := hQ
    refine lv_iconst (v := mI 0) hx hb dX12_readMark_11 rfl ?_
    refine lv_istore_n (lv' := [(1, .int (mI 0)), (0, .ref (a 0))]) hx hb dX12_readMark_12 rfl hl (by decide) rfl (fun ls hl => ?_)
    refine lv_iconst (v := mI 1) hx hb dX12_readMark_13 rfl ?_
    refine lv_istore_n (lv' := [(2, .int (mI 1)), (1, .int (mI 0)), (0, .ref (a 0))]) hx hb dX12_readMark_14 rfl hl (by decide) rfl (fun ls hl => ?_)
    refine sy_loop (I := fun n H locs g => ∃ (z_2309 : Int) (z_2310 : Int) (y_2311 : Int) (y_2312 : Int) (y_2313 : Int) (y_2314 : Int) (y_2315 : Int) (y_2316 : Int) (j_2317 : Int64) (ls : Array Slot), (0 ≤ z_2309 ∧ z_2309 ≤ 1) ∧ (0 ≤ z_2310 ∧ z_2310 ≤ 4095) ∧ (0 ≤ y_2311 ∧ y_2311 ≤ 5) ∧ (-1 ≤ y_2312 ∧ y_2312 ≤ 1600) ∧ (0 ≤ y_2313 ∧ y_2313 ≤ 1600) ∧ (0 ≤ y_2314 ∧ y_2314 ≤ 1600) ∧ (0 ≤ y_2315 ∧ y_2315 ≤ 5) ∧ (-2147483648 ≤ y_2316 ∧ y_2316 ≤ 2147483647) ∧ (y_2314 ≤ x_size) ∧ (1 ≤ y_2311 ∨ (0 ≤ 560 * x_rb + 9 * B_units x_rb.toNat - x_codes ∧ 560 * x_rb ≤ x_codes)) ∧ (1 ≤ y_2311 ∨ rQ x_rb B_told B_ruleFrom B_ruleTo B_code) ∧ (1 ≤ y_2311 ∨ (1 ≤ B_turns x_rb.toNat ∧ ¬ B_turns x_rb.toNat = 3)) ∧ (0 ≤ y_2314 - x_end) ∧ (0 ≤ y_2314 - y_8) ∧ (0 ≤ y_2311 - x_faultKind) ∧ (0 ≤ y_2311 - y_5) ∧ (1 ≤ y_2311 ∨ y_2315 ≤ 0 ∨ x_end + 1 ≤ y_2314) ∧ (6 * (1601 - y_2314 + z_2309) - y_2311).toNat = n ∧ va_P D vwCl (rW k a x_taped x_size y_2311 y_2312 y_2313 y_2314 y_2315 y_2316 x_bank x_rb x_codes x_within x_piled x_unitsInRule x_askBeast x_askStroke x_askAge x_askSeason x_acts x_undone x_laid x_seens x_time x_fitting j_2317 B_tape B_text B_turns B_herds B_irons B_beasts B_units B_night B_draw B_told B_brands B_ironMarks B_herdTold B_born B_ruleFrom B_ruleTo B_code B_codeNumber B_eWhat B_eSign B_pile B_all B_burned B_was B_need B_laidRow B_long8 B_brings B_sBurning B_sStroke B_sIs B_sTold B_sUntold B_parts B_boxAll B_isBoxed G_hName G_iName G_bName ex) H ∧ va_S A s.heap H locs ∧ lv_has ls 4 [(2, .int (mI z_2309)), (1, .int (mI z_2310)), (0, .ref (a 0))] ∧ g = F0 m 15 ls []) ?_ _ ⟨1, 0, y_5, y_6, y_7, y_8, y_9, y_10, j_11, _, by omega, by omega, by omega, by omega, by omega, by omega, by omega, by omega, kr_4_E, (by omega), (Or.imp_left (fun h9 => by omega) (g_VV : 1 ≤ x_faultKind ∨ rQ x_rb B_told B_ruleFrom B_ruleTo B_code) : 1 ≤ y_5 ∨ rQ x_rb B_told B_ruleFrom B_ruleTo B_code), (by omega), by omega, by omega, by omega, by omega, by omega, rfl, hP, hS, lv_sub hl [0, 1, 2] rfl, rfl⟩
    intro n_2375 H locs g hI ih_2376
    obtain ⟨z_2309, z_2310, y_2311, y_2312, y_2313, y_2314, y_2315, y_2316, j_2317, ls, h15_0, h15_1, h15_2, h15_3, h15_4, h15_5, h15_6, h15_7, g_2318, g_2319, g_2320, g_2321, h15_12, h15_13, h15_14, h15_15, h15_16, mn_2375, hP, hS, hl, rfl⟩ := hI
    refine lv_aload_n hx hb dX12_readMark_15 rfl (lv_at hl 2 rfl) ?_
    refine g_i (rDt hD) hS hA (g_V (own := "HideReaderModel") (As := []) (rest := []) hx hb hml hown hts hK hP (rDt hD) (kr_X12_isGood (l := l) (D := D) (k := k) (by omega)) ck_X12_isGood iv_X12_isGood uw_8_18 (rv_o hK hP) rfl hl.1 rfl (Nat.le_of_ble_eq_true rfl) dX12_readMark_16 ⟨Nat.le_of_ble_eq_true rfl, Nat.le_of_ble_eq_true rfl⟩ ⟨Nat.le_of_ble_eq_true rfl, Nat.le_of_ble_eq_true rfl⟩) (fun r_2377 H locs hQ hS => ?_)
    obtain ⟨hq_r_2377, hP⟩ := hQ
    rcases hq_r_2377 with ⟨rfl, c_2378_0, c_2378_1⟩ | ⟨rfl, c_2379_0⟩
    · skip
      refine sy_if_eq (tgt := 101) hx hb dX12_readMark_19 (by decide) (by decide) (fun c_2380 => ?_) (fun c9 => absurd c9 (by decide))
      refine lv_iload_n hx hb dX12_readMark_101 rfl (lv_at hl 1 rfl) ?_
      exact r_i hx hb hr hlocks dX12_readMark_102 hS ⟨y_2311, y_2312, y_2313, y_2314, y_2315, y_2316, j_2317, by omega, by omega, by omega, by omega, by omega, by omega, by omega, by omega, by omega, by omega, by omega, g_2318, hP⟩
    · skip
      refine sy_if_eq (tgt := 101) hx hb dX12_readMark_19 (by decide) (by decide) (fun c9 => absurd c9 (by decide)) (fun c_2381 => ?_)
      refine lv_iload_n hx hb dX12_readMark_22 rfl (lv_at hl 0 rfl) ?_
      refine sy_if_eq (tgt := 101) hx hb dX12_readMark_23 (by decide) (by omega) (fun c_2382 => ?_) (fun c_2382 => ?_)
      · skip
        refine lv_iload_n hx hb dX12_readMark_101 rfl (lv_at hl 1 rfl) ?_
        exact r_i hx hb hr hlocks dX12_readMark_102 hS ⟨y_2311, y_2312, y_2313, y_2314, y_2315, y_2316, j_2317, by omega, by omega, by omega, by omega, by omega, by omega, by omega, by omega, by omega, by omega, by omega, g_2318, hP⟩
      · skip
        refine lv_aload_n hx hb dX12_readMark_26 rfl (lv_at hl 2 rfl) ?_
        refine rg_o_token hx hb hts hown hK hP uw_7_31 dX12_readMark_27 ?_
        refine lv_iconst (v := mI 4) hx hb dX12_readMark_30 rfl ?_
        refine sy_join (I := fun H locs g => ∃ (y_2393 : Int) (y_2394 : Int) (ls : Array Slot), (0 ≤ y_2393 ∧ y_2393 ≤ 5) ∧ (-1 ≤ y_2394 ∧ y_2394 ≤ 1600) ∧ (1 ≤ y_2393 ∨ (0 ≤ 560 * x_rb + 9 * B_units x_rb.toNat - x_codes ∧ 560 * x_rb ≤ x_codes)) ∧ (1 ≤ y_2393 ∨ rQ x_rb B_told B_ruleFrom B_ruleTo B_code) ∧ (1 ≤ y_2393 ∨ (1 ≤ B_turns x_rb.toNat ∧ ¬ B_turns x_rb.toNat = 3)) ∧ (x_faultKind ≤ y_2393) ∧ (y_2311 ≤ y_2393) ∧ (1 ≤ y_2393 ∨ y_2315 ≤ 0 ∨ x_end + 1 ≤ y_2314) ∧ va_P D vwCl (rW k a x_taped x_size y_2393 y_2394 y_2313 y_2314 y_2315 y_2316 x_bank x_rb x_codes x_within x_piled x_unitsInRule x_askBeast x_askStroke x_askAge x_askSeason x_acts x_undone x_laid x_seens x_time x_fitting j_2317 B_tape B_text B_turns B_herds B_irons B_beasts B_units B_night B_draw B_told B_brands B_ironMarks B_herdTold B_born B_ruleFrom B_ruleTo B_code B_codeNumber B_eWhat B_eSign B_pile B_all B_burned B_was B_need B_laidRow B_long8 B_brings B_sBurning B_sStroke B_sIs B_sTold B_sUntold B_parts B_boxAll B_isBoxed G_hName G_iName G_bName ex) H ∧ va_S A s.heap H locs ∧ lv_has ls 4 [(2, .int (mI z_2309)), (1, .int (mI z_2310)), (0, .ref (a 0))] ∧ g = F0 m 63 ls []) ?_ ?_
        · skip
          intro H locs g hI
          obtain ⟨y_2393, y_2394, ls, h63_0, h63_1, g_2395, g_2396, g_2397, h63_5, h63_6, h63_7, hP, hS, hl, rfl⟩ := hI
          refine lv_aload_n hx hb dX12_readMark_63 rfl (lv_at hl 2 rfl) ?_
          refine lv_iconst (v := mI 0) hx hb dX12_readMark_64 rfl ?_
          refine lv_bipush (v := mI 11) hx hb dX12_readMark_65 (by decide) ?_
          refine g_i (rDt hD) hS hA (g_V (own := "HideReaderModel") (As := [.int (mI 0), .int (mI 11)]) (rest := []) hx hb hml hown hts hK hP (rDt hD) (kr_X12_numeral_v0_11 (l := l) (D := D) (k := k) (by decide) (by decide) h_x_size (by omega) (by omega) (by omega) (by omega) (by omega) (by omega) b_B_text g_2318) ck_X12_numeral iv_X12_numeral uw_8_46 (rv_o hK hP) rfl hl.1 rfl (Nat.le_of_ble_eq_true rfl) dX12_readMark_67 ⟨Nat.le_of_ble_eq_true rfl, Nat.le_of_ble_eq_true rfl⟩ ⟨Nat.le_of_ble_eq_true rfl, Nat.le_of_ble_eq_true rfl⟩) (fun r_2399 H locs hQ hS => ?_)
          obtain ⟨y_2400, y_2401, y_2402, y_2403, y_2404, y_2405, j_2406, hr_2399_0, hr_2399_1, hr_2399_2, hr_2399_3, hr_2399_4, hr_2399_5, hr_2399_6, hr_2399_7, hr_2399_8, hr_2399_9, hr_2399_10, kr_2399_E, hP⟩ := hQ
          refine lv_istore_n (lv' := [(3, .int (mI r_2399)), (2, .int (mI z_2309)), (1, .int (mI z_2310)), (0, .ref (a 0))]) hx hb dX12_readMark_70 rfl hl (by decide) rfl (fun ls hl => ?_)
          refine lv_aload_n hx hb dX12_readMark_71 rfl (lv_at hl 3 rfl) ?_
          refine g_i (rDt hD) hS hA (g_V (own := "HideReaderModel") (As := []) (rest := []) hx hb hml hown hts hK hP (rDt hD) (kr_X12_isGood (l := l) (D := D) (k := k) (by omega)) ck_X12_isGood iv_X12_isGood uw_8_18 (rv_o hK hP) rfl hl.1 rfl (Nat.le_of_ble_eq_true rfl) dX12_readMark_72 ⟨Nat.le_of_ble_eq_true rfl, Nat.le_of_ble_eq_true rfl⟩ ⟨Nat.le_of_ble_eq_true rfl, Nat.le_of_ble_eq_true rfl⟩) (fun r_2407 H locs hQ hS => ?_)
          obtain ⟨hq_r_2407, hP⟩ := hQ
          rcases hq_r_2407 with ⟨rfl, c_2408_0, c_2408_1⟩ | ⟨rfl, c_2409_0⟩
          · skip
            refine sy_if_eq (tgt := 84) hx hb dX12_readMark_75 (by decide) (by decide) (fun c_2411 => ?_) (fun c9 => absurd c9 (by decide))
            refine lv_aload_n hx hb dX12_readMark_84 rfl (lv_at hl 3 rfl) ?_
            refine rg_o_token hx hb hts hown hK hP uw_7_31 dX12_readMark_85 ?_
            refine lv_iconst (v := mI 4) hx hb dX12_readMark_88 rfl ?_
            refine sy_icmp_ne (tgt := 96) hx hb dX12_readMark_89 (by decide) (by omega) (by decide) (fun c_2412 => ?_) (fun c_2412 => ?_)
            · skip
              refine lv_iconst (v := mI 0) hx hb dX12_readMark_96 rfl ?_
              refine lv_istore_n (lv' := [(2, .int (mI 0)), (3, .int (mI r_2399)), (1, .int (mI z_2310)), (0, .ref (a 0))]) hx hb dX12_readMark_97 rfl hl (by decide) rfl (fun ls hl => ?_)
              refine lv_goto (tgt := 15) hx hb dX12_readMark_98 (by decide) ?_
              exact ih_2376 _ _ _ _ (by omega) ⟨0, z_2310, y_2400, y_2401, y_2402, y_2403, y_2404, y_2405, j_2406, _, by omega, by omega, by omega, by omega, by omega, by omega, by omega, by omega, kr_2399_E, (by omega), (Or.imp_left (fun h9 => by omega) (g_2396 : 1 ≤ y_2393 ∨ rQ x_rb B_told B_ruleFrom B_ruleTo B_code) : 1 ≤ y_2400 ∨ rQ x_rb B_told B_ruleFrom B_ruleTo B_code), (by omega), by omega, by omega, by omega, by omega, by omega, rfl, hP, hS, lv_sub hl [0, 2, 3] rfl, rfl⟩
            · skip
              refine lv_iconst (v := mI 1) hx hb dX12_readMark_92 rfl ?_
              refine lv_goto (tgt := 97) hx hb dX12_readMark_93 (by decide) ?_
              refine lv_istore_n (lv' := [(2, .int (mI 1)), (3, .int (mI r_2399)), (1, .int (mI z_2310)), (0, .ref (a 0))]) hx hb dX12_readMark_97 rfl hl (by decide) rfl (fun ls hl => ?_)
              refine lv_goto (tgt := 15) hx hb dX12_readMark_98 (by decide) ?_
              exact ih_2376 _ _ _ _ (by omega) ⟨1, z_2310, y_2400, y_2401, y_2402, y_2403, y_2404, y_2405, j_2406, _, by omega, by omega, by omega, by omega, by omega, by omega, by omega, by omega, kr_2399_E, (by omega), (Or.imp_left (fun h9 => by omega) (g_2396 : 1 ≤ y_2393 ∨ rQ x_rb B_told B_ruleFrom B_ruleTo B_code) : 1 ≤ y_2400 ∨ rQ x_rb B_told B_ruleFrom B_ruleTo B_code), (by omega), by omega, by omega, by omega, by omega, by omega, rfl, hP, hS, lv_sub hl [0, 2, 3] rfl, rfl⟩
          · skip
            refine sy_if_eq (tgt := 84) hx hb dX12_readMark_75 (by decide) (by decide) (fun c9 => absurd c9 (by decide)) (fun c_2416 => ?_)
            refine lv_iload_n hx hb dX12_readMark_78 rfl (lv_at hl 2 rfl) ?_
            refine lv_iconst (v := mI 1) hx hb dX12_readMark_79 rfl ?_
            refine lv_iload_n hx hb dX12_readMark_80 rfl (lv_at hl 0 rfl) ?_
            refine sy_shl1 hx hb dX12_readMark_81 11 (by decide) 2048 (by decide) (by omega) (fun z_2417 ez_2417 hz_2417 => ?_)
            refine sy_ior hx hb dX12_readMark_82 12 (by decide) 4096 (by decide) (by omega) (by omega) (fun z_2418 hz_2418 => ?_)
            refine lv_istore_n (lv' := [(1, .int (mI z_2418)), (3, .int (mI r_2399)), (2, .int (mI z_2309)), (0, .ref (a 0))]) hx hb dX12_readMark_83 rfl hl (by decide) rfl (fun ls hl => ?_)
            refine lv_aload_n hx hb dX12_readMark_84 rfl (lv_at hl 3 rfl) ?_
            refine rg_o_token hx hb hts hown hK hP uw_7_31 dX12_readMark_85 ?_
            refine lv_iconst (v := mI 4) hx hb dX12_readMark_88 rfl ?_
            refine sy_icmp_ne (tgt := 96) hx hb dX12_readMark_89 (by decide) (by omega) (by decide) (fun c_2419 => ?_) (fun c_2419 => ?_)
            · skip
              refine lv_iconst (v := mI 0) hx hb dX12_readMark_96 rfl ?_
              refine lv_istore_n (lv' := [(2, .int (mI 0)), (1, .int (mI z_2418)), (3, .int (mI r_2399)), (0, .ref (a 0))]) hx hb dX12_readMark_97 rfl hl (by decide) rfl (fun ls hl => ?_)
              refine lv_goto (tgt := 15) hx hb dX12_readMark_98 (by decide) ?_
              exact ih_2376 _ _ _ _ (by omega) ⟨0, z_2418, y_2400, y_2401, y_2402, y_2403, y_2404, y_2405, j_2406, _, by omega, by omega, by omega, by omega, by omega, by omega, by omega, by omega, kr_2399_E, (by omega), (Or.imp_left (fun h9 => by omega) (g_2396 : 1 ≤ y_2393 ∨ rQ x_rb B_told B_ruleFrom B_ruleTo B_code) : 1 ≤ y_2400 ∨ rQ x_rb B_told B_ruleFrom B_ruleTo B_code), (by omega), by omega, by omega, by omega, by omega, by omega, rfl, hP, hS, lv_sub hl [0, 1, 3] rfl, rfl⟩
            · skip
              refine lv_iconst (v := mI 1) hx hb dX12_readMark_92 rfl ?_
              refine lv_goto (tgt := 97) hx hb dX12_readMark_93 (by decide) ?_
              refine lv_istore_n (lv' := [(2, .int (mI 1)), (1, .int (mI z_2418)), (3, .int (mI r_2399)), (0, .ref (a 0))]) hx hb dX12_readMark_97 rfl hl (by decide) rfl (fun ls hl => ?_)
              refine lv_goto (tgt := 15) hx hb dX12_readMark_98 (by decide) ?_
              exact ih_2376 _ _ _ _ (by omega) ⟨1, z_2418, y_2400, y_2401, y_2402, y_2403, y_2404, y_2405, j_2406, _, by omega, by omega, by omega, by omega, by omega, by omega, by omega, by omega, kr_2399_E, (by omega), (Or.imp_left (fun h9 => by omega) (g_2396 : 1 ≤ y_2393 ∨ rQ x_rb B_told B_ruleFrom B_ruleTo B_code) : 1 ≤ y_2400 ∨ rQ x_rb B_told B_ruleFrom B_ruleTo B_code), (by omega), by omega, by omega, by omega, by omega, by omega, rfl, hP, hS, lv_sub hl [0, 1, 3] rfl, rfl⟩
        · skip
          intro J_2398
          refine sy_icmp_ne (tgt := 63) hx hb dX12_readMark_31 (by decide) (by omega) (by decide) (fun c_2420 => ?_) (fun c_2420 => ?_)
          · skip
            exact J_2398 _ _ _ ⟨y_2311, y_2312, _, by omega, by omega, g_2319, g_2320, g_2321, by omega, by omega, by omega, hP, hS, lv_sub hl [0, 1, 2] rfl, rfl⟩
          · skip
            refine lv_aload_n hx hb dX12_readMark_34 rfl (lv_at hl 2 rfl) ?_
            refine rg_o_number hx hb hts hown hK hP uw_7_32 dX12_readMark_35 ?_
            refine lv_bipush (v := mI 12) hx hb dX12_readMark_38 (by decide) ?_
            refine sy_icmp_ge (tgt := 63) hx hb dX12_readMark_40 (by decide) (by omega) (by decide) (fun c_2421 => ?_) (fun c_2421 => ?_)
            · skip
              exact J_2398 _ _ _ ⟨y_2311, y_2312, _, by omega, by omega, g_2319, g_2320, g_2321, by omega, by omega, by omega, hP, hS, lv_sub hl [0, 1, 2] rfl, rfl⟩
            · skip
              refine lv_iload_n hx hb dX12_readMark_43 rfl (lv_at hl 1 rfl) ?_
              refine lv_aload_n hx hb dX12_readMark_44 rfl (lv_at hl 2 rfl) ?_
              refine rg_o_number hx hb hts hown hK hP uw_7_32 dX12_readMark_45 ?_
              refine g_i (rDt hD) hS hA (g_S (own := "HideReaderModel") (As := [.int (mI z_2310), .int (mI y_2316)]) (rest := []) hx hb hml hown hts hK hP (rDt hD) (kr_bit (l := l) (D := D) (k := k)) ck_X12_bit uw_6_229 uw_6_228 rfl hl.1 rfl (Nat.le_of_ble_eq_true rfl) dX12_readMark_48 ⟨Nat.le_of_ble_eq_true rfl, Nat.le_of_ble_eq_true rfl⟩ ⟨Nat.le_of_ble_eq_true rfl, Nat.le_of_ble_eq_true rfl⟩) (fun r_2422 H locs hQ hS => ?_)
              obtain ⟨hq_r_2422, hP⟩ := hQ
              rcases hq_r_2422 with ⟨rfl, c_2423_0⟩ | ⟨rfl, c_2424_0⟩
              · skip
                refine sy_if_eq (tgt := 63) hx hb dX12_readMark_51 (by decide) (by decide) (fun c9 => absurd c9 (by decide)) (fun c_2425 => ?_)
                refine lv_aload_n hx hb dX12_readMark_54 rfl (lv_at hl 2 rfl) ?_
                refine lv_iconst (v := mI 3) hx hb dX12_readMark_55 rfl ?_
                refine lv_aload_n hx hb dX12_readMark_56 rfl (lv_at hl 2 rfl) ?_
                refine rg_o_at hx hb hts hown hK hP uw_7_29 dX12_readMark_57 ?_
                refine g_v (rDt hD) hS hA (g_V (own := "HideReaderModel") (As := [.int (mI 3), .int (mI y_2313)]) (rest := []) hx hb hml hown hts hK hP (rDt hD) (kr_X12_fails (l := l) (D := D) (k := k) (by decide) (by omega) (by omega) (by omega)) ck_X12_fails iv_X12_fails uw_8_38 (rv_o hK hP) rfl hl.1 rfl (Nat.le_of_ble_eq_true rfl) dX12_readMark_60 ⟨Nat.le_of_ble_eq_true rfl, Nat.le_of_ble_eq_true rfl⟩ ⟨Nat.le_of_ble_eq_true rfl, Nat.le_of_ble_eq_true rfl⟩) (fun H locs hQ hS => ?_)
                obtain ⟨y_2427, y_2428, hr_2426_0, hr_2426_1, hr_2426_2, hP⟩ := hQ
                exact J_2398 _ _ _ ⟨y_2427, y_2428, _, by omega, by omega, (by omega), (Or.imp_left (fun h9 => by omega) (g_2320 : 1 ≤ y_2311 ∨ rQ x_rb B_told B_ruleFrom B_ruleTo B_code) : 1 ≤ y_2427 ∨ rQ x_rb B_told B_ruleFrom B_ruleTo B_code), (by omega), by omega, by omega, by omega, hP, hS, lv_sub hl [0, 1, 2] rfl, rfl⟩
              · skip
                refine sy_if_eq (tgt := 63) hx hb dX12_readMark_51 (by decide) (by decide) (fun c_2429 => ?_) (fun c9 => absurd c9 (by decide))
                exact J_2398 _ _ _ ⟨y_2311, y_2312, _, by omega, by omega, g_2319, g_2320, g_2321, by omega, by omega, by omega, hP, hS, lv_sub hl [0, 1, 2] rfl, rfl⟩
  · skip
    refine g_v (rDt hD) hS hA (g_V (own := "HideReaderModel") (As := [.int (mI 1)]) (rest := []) hx hb hml hown hts hK hP (rDt hD) (kr_X12_must (l := l) (D := D) (k := k) (by decide) h_x_size h_x_faultKind h_x_faultPlace h_x_at h_x_end h_x_token h_x_number b_B_text g_E) ck_X12_must iv_X12_must uw_8_62 (rv_o hK hP) rfl hl.1 rfl (Nat.le_of_ble_eq_true rfl) dX12_readMark_8 ⟨Nat.le_of_ble_eq_true rfl, Nat.le_of_ble_eq_true rfl⟩ ⟨Nat.le_of_ble_eq_true rfl, Nat.le_of_ble_eq_true rfl⟩) (fun H locs hQ hS => ?_)
    obtain ⟨y_2431, y_2432, y_2433, y_2434, y_2435, y_2436, j_2437, hr_2430_0, hr_2430_1, hr_2430_2, hr_2430_3, hr_2430_4, hr_2430_5, hr_2430_6, hr_2430_7, hr_2430_8, hr_2430_9, hr_2430_10, kr_2430_E, hP⟩ := hQ
    refine lv_iconst (v := mI 0) hx hb dX12_readMark_11 rfl ?_
    refine lv_istore_n (lv' := [(1, .int (mI 0)), (0, .ref (a 0))]) hx hb dX12_readMark_12 rfl hl (by decide) rfl (fun ls hl => ?_)
    refine lv_iconst (v := mI 1) hx hb dX12_readMark_13 rfl ?_
    refine lv_istore_n (lv' := [(2, .int (mI 1)), (1, .int (mI 0)), (0, .ref (a 0))]) hx hb dX12_readMark_14 rfl hl (by decide) rfl (fun ls hl => ?_)
    refine sy_loop (I := fun n H locs g => ∃ (z_4735 : Int) (z_4736 : Int) (y_4737 : Int) (y_4738 : Int) (y_4739 : Int) (y_4740 : Int) (y_4741 : Int) (y_4742 : Int) (j_4743 : Int64) (ls : Array Slot), (0 ≤ z_4735 ∧ z_4735 ≤ 1) ∧ (0 ≤ z_4736 ∧ z_4736 ≤ 4095) ∧ (0 ≤ y_4737 ∧ y_4737 ≤ 5) ∧ (-1 ≤ y_4738 ∧ y_4738 ≤ 1600) ∧ (0 ≤ y_4739 ∧ y_4739 ≤ 1600) ∧ (0 ≤ y_4740 ∧ y_4740 ≤ 1600) ∧ (0 ≤ y_4741 ∧ y_4741 ≤ 5) ∧ (-2147483648 ≤ y_4742 ∧ y_4742 ≤ 2147483647) ∧ (y_4740 ≤ x_size) ∧ (1 ≤ y_4737 ∨ (0 ≤ 560 * x_rb + 9 * B_units x_rb.toNat - x_codes ∧ 560 * x_rb ≤ x_codes)) ∧ (1 ≤ y_4737 ∨ rQ x_rb B_told B_ruleFrom B_ruleTo B_code) ∧ (1 ≤ y_4737 ∨ (1 ≤ B_turns x_rb.toNat ∧ ¬ B_turns x_rb.toNat = 3)) ∧ (0 ≤ y_4740 - x_end) ∧ (0 ≤ y_4740 - y_2434) ∧ (0 ≤ y_4737 - x_faultKind) ∧ (0 ≤ y_4737 - y_2431) ∧ (1 ≤ y_4737 ∨ y_4741 ≤ 0 ∨ x_end + 1 ≤ y_4740) ∧ (6 * (1601 - y_4740 + z_4735) - y_4737).toNat = n ∧ va_P D vwCl (rW k a x_taped x_size y_4737 y_4738 y_4739 y_4740 y_4741 y_4742 x_bank x_rb x_codes x_within x_piled x_unitsInRule x_askBeast x_askStroke x_askAge x_askSeason x_acts x_undone x_laid x_seens x_time x_fitting j_4743 B_tape B_text B_turns B_herds B_irons B_beasts B_units B_night B_draw B_told B_brands B_ironMarks B_herdTold B_born B_ruleFrom B_ruleTo B_code B_codeNumber B_eWhat B_eSign B_pile B_all B_burned B_was B_need B_laidRow B_long8 B_brings B_sBurning B_sStroke B_sIs B_sTold B_sUntold B_parts B_boxAll B_isBoxed G_hName G_iName G_bName ex) H ∧ va_S A s.heap H locs ∧ lv_has ls 4 [(2, .int (mI z_4735)), (1, .int (mI z_4736)), (0, .ref (a 0))] ∧ g = F0 m 15 ls []) ?_ _ ⟨1, 0, y_2431, y_2432, y_2433, y_2434, y_2435, y_2436, j_2437, _, by omega, by omega, by omega, by omega, by omega, by omega, by omega, by omega, kr_2430_E, (by omega), (Or.imp_left (fun h9 => by omega) (g_VV : 1 ≤ x_faultKind ∨ rQ x_rb B_told B_ruleFrom B_ruleTo B_code) : 1 ≤ y_2431 ∨ rQ x_rb B_told B_ruleFrom B_ruleTo B_code), (by omega), by omega, by omega, by omega, by omega, by omega, rfl, hP, hS, lv_sub hl [0, 1, 2] rfl, rfl⟩
    intro n_4801 H locs g hI ih_4802
    obtain ⟨z_4735, z_4736, y_4737, y_4738, y_4739, y_4740, y_4741, y_4742, j_4743, ls, h15_0, h15_1, h15_2, h15_3, h15_4, h15_5, h15_6, h15_7, g_4744, g_4745, g_4746, g_4747, h15_12, h15_13, h15_14, h15_15, h15_16, mn_4801, hP, hS, hl, rfl⟩ := hI
    refine lv_aload_n hx hb dX12_readMark_15 rfl (lv_at hl 2 rfl) ?_
    refine g_i (rDt hD) hS hA (g_V (own := "HideReaderModel") (As := []) (rest := []) hx hb hml hown hts hK hP (rDt hD) (kr_X12_isGood (l := l) (D := D) (k := k) (by omega)) ck_X12_isGood iv_X12_isGood uw_8_18 (rv_o hK hP) rfl hl.1 rfl (Nat.le_of_ble_eq_true rfl) dX12_readMark_16 ⟨Nat.le_of_ble_eq_true rfl, Nat.le_of_ble_eq_true rfl⟩ ⟨Nat.le_of_ble_eq_true rfl, Nat.le_of_ble_eq_true rfl⟩) (fun r_4803 H locs hQ hS => ?_)
    obtain ⟨hq_r_4803, hP⟩ := hQ
    rcases hq_r_4803 with ⟨rfl, c_4804_0, c_4804_1⟩ | ⟨rfl, c_4805_0⟩
    · skip
      refine sy_if_eq (tgt := 101) hx hb dX12_readMark_19 (by decide) (by decide) (fun c_4806 => ?_) (fun c9 => absurd c9 (by decide))
      refine lv_iload_n hx hb dX12_readMark_101 rfl (lv_at hl 1 rfl) ?_
      exact r_i hx hb hr hlocks dX12_readMark_102 hS ⟨y_4737, y_4738, y_4739, y_4740, y_4741, y_4742, j_4743, by omega, by omega, by omega, by omega, by omega, by omega, by omega, by omega, by omega, by omega, by omega, g_4744, hP⟩
    · skip
      refine sy_if_eq (tgt := 101) hx hb dX12_readMark_19 (by decide) (by decide) (fun c9 => absurd c9 (by decide)) (fun c_4807 => ?_)
      refine lv_iload_n hx hb dX12_readMark_22 rfl (lv_at hl 0 rfl) ?_
      refine sy_if_eq (tgt := 101) hx hb dX12_readMark_23 (by decide) (by omega) (fun c_4808 => ?_) (fun c_4808 => ?_)
      · skip
        refine lv_iload_n hx hb dX12_readMark_101 rfl (lv_at hl 1 rfl) ?_
        exact r_i hx hb hr hlocks dX12_readMark_102 hS ⟨y_4737, y_4738, y_4739, y_4740, y_4741, y_4742, j_4743, by omega, by omega, by omega, by omega, by omega, by omega, by omega, by omega, by omega, by omega, by omega, g_4744, hP⟩
      · skip
        refine lv_aload_n hx hb dX12_readMark_26 rfl (lv_at hl 2 rfl) ?_
        refine rg_o_token hx hb hts hown hK hP uw_7_31 dX12_readMark_27 ?_
        refine lv_iconst (v := mI 4) hx hb dX12_readMark_30 rfl ?_
        refine sy_join (I := fun H locs g => ∃ (y_4819 : Int) (y_4820 : Int) (ls : Array Slot), (0 ≤ y_4819 ∧ y_4819 ≤ 5) ∧ (-1 ≤ y_4820 ∧ y_4820 ≤ 1600) ∧ (1 ≤ y_4819 ∨ (0 ≤ 560 * x_rb + 9 * B_units x_rb.toNat - x_codes ∧ 560 * x_rb ≤ x_codes)) ∧ (1 ≤ y_4819 ∨ rQ x_rb B_told B_ruleFrom B_ruleTo B_code) ∧ (1 ≤ y_4819 ∨ (1 ≤ B_turns x_rb.toNat ∧ ¬ B_turns x_rb.toNat = 3)) ∧ (x_faultKind ≤ y_4819) ∧ (y_4737 ≤ y_4819) ∧ (1 ≤ y_4819 ∨ y_4741 ≤ 0 ∨ x_end + 1 ≤ y_4740) ∧ va_P D vwCl (rW k a x_taped x_size y_4819 y_4820 y_4739 y_4740 y_4741 y_4742 x_bank x_rb x_codes x_within x_piled x_unitsInRule x_askBeast x_askStroke x_askAge x_askSeason x_acts x_undone x_laid x_seens x_time x_fitting j_4743 B_tape B_text B_turns B_herds B_irons B_beasts B_units B_night B_draw B_told B_brands B_ironMarks B_herdTold B_born B_ruleFrom B_ruleTo B_code B_codeNumber B_eWhat B_eSign B_pile B_all B_burned B_was B_need B_laidRow B_long8 B_brings B_sBurning B_sStroke B_sIs B_sTold B_sUntold B_parts B_boxAll B_isBoxed G_hName G_iName G_bName ex) H ∧ va_S A s.heap H locs ∧ lv_has ls 4 [(2, .int (mI z_4735)), (1, .int (mI z_4736)), (0, .ref (a 0))] ∧ g = F0 m 63 ls []) ?_ ?_
        · skip
          intro H locs g hI
          obtain ⟨y_4819, y_4820, ls, h63_0, h63_1, g_4821, g_4822, g_4823, h63_5, h63_6, h63_7, hP, hS, hl, rfl⟩ := hI
          refine lv_aload_n hx hb dX12_readMark_63 rfl (lv_at hl 2 rfl) ?_
          refine lv_iconst (v := mI 0) hx hb dX12_readMark_64 rfl ?_
          refine lv_bipush (v := mI 11) hx hb dX12_readMark_65 (by decide) ?_
          refine g_i (rDt hD) hS hA (g_V (own := "HideReaderModel") (As := [.int (mI 0), .int (mI 11)]) (rest := []) hx hb hml hown hts hK hP (rDt hD) (kr_X12_numeral_v0_11 (l := l) (D := D) (k := k) (by decide) (by decide) h_x_size (by omega) (by omega) (by omega) (by omega) (by omega) (by omega) b_B_text g_4744) ck_X12_numeral iv_X12_numeral uw_8_46 (rv_o hK hP) rfl hl.1 rfl (Nat.le_of_ble_eq_true rfl) dX12_readMark_67 ⟨Nat.le_of_ble_eq_true rfl, Nat.le_of_ble_eq_true rfl⟩ ⟨Nat.le_of_ble_eq_true rfl, Nat.le_of_ble_eq_true rfl⟩) (fun r_4825 H locs hQ hS => ?_)
          obtain ⟨y_4826, y_4827, y_4828, y_4829, y_4830, y_4831, j_4832, hr_4825_0, hr_4825_1, hr_4825_2, hr_4825_3, hr_4825_4, hr_4825_5, hr_4825_6, hr_4825_7, hr_4825_8, hr_4825_9, hr_4825_10, kr_4825_E, hP⟩ := hQ
          refine lv_istore_n (lv' := [(3, .int (mI r_4825)), (2, .int (mI z_4735)), (1, .int (mI z_4736)), (0, .ref (a 0))]) hx hb dX12_readMark_70 rfl hl (by decide) rfl (fun ls hl => ?_)
          refine lv_aload_n hx hb dX12_readMark_71 rfl (lv_at hl 3 rfl) ?_
          refine g_i (rDt hD) hS hA (g_V (own := "HideReaderModel") (As := []) (rest := []) hx hb hml hown hts hK hP (rDt hD) (kr_X12_isGood (l := l) (D := D) (k := k) (by omega)) ck_X12_isGood iv_X12_isGood uw_8_18 (rv_o hK hP) rfl hl.1 rfl (Nat.le_of_ble_eq_true rfl) dX12_readMark_72 ⟨Nat.le_of_ble_eq_true rfl, Nat.le_of_ble_eq_true rfl⟩ ⟨Nat.le_of_ble_eq_true rfl, Nat.le_of_ble_eq_true rfl⟩) (fun r_4833 H locs hQ hS => ?_)
          obtain ⟨hq_r_4833, hP⟩ := hQ
          rcases hq_r_4833 with ⟨rfl, c_4834_0, c_4834_1⟩ | ⟨rfl, c_4835_0⟩
          · skip
            refine sy_if_eq (tgt := 84) hx hb dX12_readMark_75 (by decide) (by decide) (fun c_4837 => ?_) (fun c9 => absurd c9 (by decide))
            refine lv_aload_n hx hb dX12_readMark_84 rfl (lv_at hl 3 rfl) ?_
            refine rg_o_token hx hb hts hown hK hP uw_7_31 dX12_readMark_85 ?_
            refine lv_iconst (v := mI 4) hx hb dX12_readMark_88 rfl ?_
            refine sy_icmp_ne (tgt := 96) hx hb dX12_readMark_89 (by decide) (by omega) (by decide) (fun c_4838 => ?_) (fun c_4838 => ?_)
            · skip
              refine lv_iconst (v := mI 0) hx hb dX12_readMark_96 rfl ?_
              refine lv_istore_n (lv' := [(2, .int (mI 0)), (3, .int (mI r_4825)), (1, .int (mI z_4736)), (0, .ref (a 0))]) hx hb dX12_readMark_97 rfl hl (by decide) rfl (fun ls hl => ?_)
              refine lv_goto (tgt := 15) hx hb dX12_readMark_98 (by decide) ?_
              exact ih_4802 _ _ _ _ (by omega) ⟨0, z_4736, y_4826, y_4827, y_4828, y_4829, y_4830, y_4831, j_4832, _, by omega, by omega, by omega, by omega, by omega, by omega, by omega, by omega, kr_4825_E, (by omega), (Or.imp_left (fun h9 => by omega) (g_4822 : 1 ≤ y_4819 ∨ rQ x_rb B_told B_ruleFrom B_ruleTo B_code) : 1 ≤ y_4826 ∨ rQ x_rb B_told B_ruleFrom B_ruleTo B_code), (by omega), by omega, by omega, by omega, by omega, by omega, rfl, hP, hS, lv_sub hl [0, 2, 3] rfl, rfl⟩
            · skip
              refine lv_iconst (v := mI 1) hx hb dX12_readMark_92 rfl ?_
              refine lv_goto (tgt := 97) hx hb dX12_readMark_93 (by decide) ?_
              refine lv_istore_n (lv' := [(2, .int (mI 1)), (3, .int (mI r_4825)), (1, .int (mI z_4736)), (0, .ref (a 0))]) hx hb dX12_readMark_97 rfl hl (by decide) rfl (fun ls hl => ?_)
              refine lv_goto (tgt := 15) hx hb dX12_readMark_98 (by decide) ?_
              exact ih_4802 _ _ _ _ (by omega) ⟨1, z_4736, y_4826, y_4827, y_4828, y_4829, y_4830, y_4831, j_4832, _, by omega, by omega, by omega, by omega, by omega, by omega, by omega, by omega, kr_4825_E, (by omega), (Or.imp_left (fun h9 => by omega) (g_4822 : 1 ≤ y_4819 ∨ rQ x_rb B_told B_ruleFrom B_ruleTo B_code) : 1 ≤ y_4826 ∨ rQ x_rb B_told B_ruleFrom B_ruleTo B_code), (by omega), by omega, by omega, by omega, by omega, by omega, rfl, hP, hS, lv_sub hl [0, 2, 3] rfl, rfl⟩
          · skip
            refine sy_if_eq (tgt := 84) hx hb dX12_readMark_75 (by decide) (by decide) (fun c9 => absurd c9 (by decide)) (fun c_4842 => ?_)
            refine lv_iload_n hx hb dX12_readMark_78 rfl (lv_at hl 2 rfl) ?_
            refine lv_iconst (v := mI 1) hx hb dX12_readMark_79 rfl ?_
            refine lv_iload_n hx hb dX12_readMark_80 rfl (lv_at hl 0 rfl) ?_
            refine sy_shl1 hx hb dX12_readMark_81 11 (by decide) 2048 (by decide) (by omega) (fun z_4843 ez_4843 hz_4843 => ?_)
            refine sy_ior hx hb dX12_readMark_82 12 (by decide) 4096 (by decide) (by omega) (by omega) (fun z_4844 hz_4844 => ?_)
            refine lv_istore_n (lv' := [(1, .int (mI z_4844)), (3, .int (mI r_4825)), (2, .int (mI z_4735)), (0, .ref (a 0))]) hx hb dX12_readMark_83 rfl hl (by decide) rfl (fun ls hl => ?_)
            refine lv_aload_n hx hb dX12_readMark_84 rfl (lv_at hl 3 rfl) ?_
            refine rg_o_token hx hb hts hown hK hP uw_7_31 dX12_readMark_85 ?_
            refine lv_iconst (v := mI 4) hx hb dX12_readMark_88 rfl ?_
            refine sy_icmp_ne (tgt := 96) hx hb dX12_readMark_89 (by decide) (by omega) (by decide) (fun c_4845 => ?_) (fun c_4845 => ?_)
            · skip
              refine lv_iconst (v := mI 0) hx hb dX12_readMark_96 rfl ?_
              refine lv_istore_n (lv' := [(2, .int (mI 0)), (1, .int (mI z_4844)), (3, .int (mI r_4825)), (0, .ref (a 0))]) hx hb dX12_readMark_97 rfl hl (by decide) rfl (fun ls hl => ?_)
              refine lv_goto (tgt := 15) hx hb dX12_readMark_98 (by decide) ?_
              exact ih_4802 _ _ _ _ (by omega) ⟨0, z_4844, y_4826, y_4827, y_4828, y_4829, y_4830, y_4831, j_4832, _, by omega, by omega, by omega, by omega, by omega, by omega, by omega, by omega, kr_4825_E, (by omega), (Or.imp_left (fun h9 => by omega) (g_4822 : 1 ≤ y_4819 ∨ rQ x_rb B_told B_ruleFrom B_ruleTo B_code) : 1 ≤ y_4826 ∨ rQ x_rb B_told B_ruleFrom B_ruleTo B_code), (by omega), by omega, by omega, by omega, by omega, by omega, rfl, hP, hS, lv_sub hl [0, 1, 3] rfl, rfl⟩
            · skip
              refine lv_iconst (v := mI 1) hx hb dX12_readMark_92 rfl ?_
              refine lv_goto (tgt := 97) hx hb dX12_readMark_93 (by decide) ?_
              refine lv_istore_n (lv' := [(2, .int (mI 1)), (1, .int (mI z_4844)), (3, .int (mI r_4825)), (0, .ref (a 0))]) hx hb dX12_readMark_97 rfl hl (by decide) rfl (fun ls hl => ?_)
              refine lv_goto (tgt := 15) hx hb dX12_readMark_98 (by decide) ?_
              exact ih_4802 _ _ _ _ (by omega) ⟨1, z_4844, y_4826, y_4827, y_4828, y_4829, y_4830, y_4831, j_4832, _, by omega, by omega, by omega, by omega, by omega, by omega, by omega, by omega, kr_4825_E, (by omega), (Or.imp_left (fun h9 => by omega) (g_4822 : 1 ≤ y_4819 ∨ rQ x_rb B_told B_ruleFrom B_ruleTo B_code) : 1 ≤ y_4826 ∨ rQ x_rb B_told B_ruleFrom B_ruleTo B_code), (by omega), by omega, by omega, by omega, by omega, by omega, rfl, hP, hS, lv_sub hl [0, 1, 3] rfl, rfl⟩
        · skip
          intro J_4824
          refine sy_icmp_ne (tgt := 63) hx hb dX12_readMark_31 (by decide) (by omega) (by decide) (fun c_4846 => ?_) (fun c_4846 => ?_)
          · skip
            exact J_4824 _ _ _ ⟨y_4737, y_4738, _, by omega, by omega, g_4745, g_4746, g_4747, by omega, by omega, by omega, hP, hS, lv_sub hl [0, 1, 2] rfl, rfl⟩
          · skip
            refine lv_aload_n hx hb dX12_readMark_34 rfl (lv_at hl 2 rfl) ?_
            refine rg_o_number hx hb hts hown hK hP uw_7_32 dX12_readMark_35 ?_
            refine lv_bipush (v := mI 12) hx hb dX12_readMark_38 (by decide) ?_
            refine sy_icmp_ge (tgt := 63) hx hb dX12_readMark_40 (by decide) (by omega) (by decide) (fun c_4847 => ?_) (fun c_4847 => ?_)
            · skip
              exact J_4824 _ _ _ ⟨y_4737, y_4738, _, by omega, by omega, g_4745, g_4746, g_4747, by omega, by omega, by omega, hP, hS, lv_sub hl [0, 1, 2] rfl, rfl⟩
            · skip
              refine lv_iload_n hx hb dX12_readMark_43 rfl (lv_at hl 1 rfl) ?_
              refine lv_aload_n hx hb dX12_readMark_44 rfl (lv_at hl 2 rfl) ?_
              refine rg_o_number hx hb hts hown hK hP uw_7_32 dX12_readMark_45 ?_
              refine g_i (rDt hD) hS hA (g_S (own := "HideReaderModel") (As := [.int (mI z_4736), .int (mI y_4742)]) (rest := []) hx hb hml hown hts hK hP (rDt hD) (kr_bit (l := l) (D := D) (k := k)) ck_X12_bit uw_6_229 uw_6_228 rfl hl.1 rfl (Nat.le_of_ble_eq_true rfl) dX12_readMark_48 ⟨Nat.le_of_ble_eq_true rfl, Nat.le_of_ble_eq_true rfl⟩ ⟨Nat.le_of_ble_eq_true rfl, Nat.le_of_ble_eq_true rfl⟩) (fun r_4848 H locs hQ hS => ?_)
              obtain ⟨hq_r_4848, hP⟩ := hQ
              rcases hq_r_4848 with ⟨rfl, c_4849_0⟩ | ⟨rfl, c_4850_0⟩
              · skip
                refine sy_if_eq (tgt := 63) hx hb dX12_readMark_51 (by decide) (by decide) (fun c9 => absurd c9 (by decide)) (fun c_4851 => ?_)
                refine lv_aload_n hx hb dX12_readMark_54 rfl (lv_at hl 2 rfl) ?_
                refine lv_iconst (v := mI 3) hx hb dX12_readMark_55 rfl ?_
                refine lv_aload_n hx hb dX12_readMark_56 rfl (lv_at hl 2 rfl) ?_
                refine rg_o_at hx hb hts hown hK hP uw_7_29 dX12_readMark_57 ?_
                refine g_v (rDt hD) hS hA (g_V (own := "HideReaderModel") (As := [.int (mI 3), .int (mI y_4739)]) (rest := []) hx hb hml hown hts hK hP (rDt hD) (kr_X12_fails (l := l) (D := D) (k := k) (by decide) (by omega) (by omega) (by omega)) ck_X12_fails iv_X12_fails uw_8_38 (rv_o hK hP) rfl hl.1 rfl (Nat.le_of_ble_eq_true rfl) dX12_readMark_60 ⟨Nat.le_of_ble_eq_true rfl, Nat.le_of_ble_eq_true rfl⟩ ⟨Nat.le_of_ble_eq_true rfl, Nat.le_of_ble_eq_true rfl⟩) (fun H locs hQ hS => ?_)
                obtain ⟨y_4853, y_4854, hr_4852_0, hr_4852_1, hr_4852_2, hP⟩ := hQ
                exact J_4824 _ _ _ ⟨y_4853, y_4854, _, by omega, by omega, (by omega), (Or.imp_left (fun h9 => by omega) (g_4746 : 1 ≤ y_4737 ∨ rQ x_rb B_told B_ruleFrom B_ruleTo B_code) : 1 ≤ y_4853 ∨ rQ x_rb B_told B_ruleFrom B_ruleTo B_code), (by omega), by omega, by omega, by omega, hP, hS, lv_sub hl [0, 1, 2] rfl, rfl⟩
              · skip
                refine sy_if_eq (tgt := 63) hx hb dX12_readMark_51 (by decide) (by decide) (fun c_4855 => ?_) (fun c9 => absurd c9 (by decide))
                exact J_4824 _ _ _ ⟨y_4737, y_4738, _, by omega, by omega, g_4745, g_4746, g_4747, by omega, by omega, by omega, hP, hS, lv_sub hl [0, 1, 2] rfl, rfl⟩
set_option maxHeartbeats 4000000 in
set_option maxRecDepth 100000 in
theorem kr_X12_here_o_iName {p1 p2 : Int} (hp1 : 0 ≤ p1 ∧ p1 ≤ 6) (hp2 : 0 ≤ p2 ∧ p2 ≤ 6) (h_x_token : 0 ≤ x_token ∧ x_token ≤ 5) : MetG l D k yX12_here cX12_here 5 (some .int) 0 [.ref (a 0), .ref (a 18), .int (mI p1), .int (mI p2)] (rW k a x_taped x_size x_faultKind x_faultPlace x_at x_end x_token x_number x_bank x_rb x_codes x_within x_piled x_unitsInRule x_askBeast x_askStroke x_askAge x_askSeason x_acts x_undone x_laid x_seens x_time x_fitting n_name B_tape B_text B_turns B_herds B_irons B_beasts B_units B_night B_draw B_told B_brands B_ironMarks B_herdTold B_born B_ruleFrom B_ruleTo B_code B_codeNumber B_eWhat B_eSign B_pile B_all B_burned B_was B_need B_laidRow B_long8 B_brings B_sBurning B_sStroke B_sIs B_sTold B_sUntold B_parts B_boxAll B_isBoxed G_hName G_iName G_bName ex) (qGi (fun r0 H => (-1 ≤ r0 ∧ r0 ≤ 5) ∧ va_P D vwCl (rW k a x_taped x_size x_faultKind x_faultPlace x_at x_end x_token x_number x_bank x_rb x_codes x_within x_piled x_unitsInRule x_askBeast x_askStroke x_askAge x_askSeason x_acts x_undone x_laid x_seens x_time x_fitting n_name B_tape B_text B_turns B_herds B_irons B_beasts B_units B_night B_draw B_told B_brands B_ironMarks B_herdTold B_born B_ruleFrom B_ruleTo B_code B_codeNumber B_eWhat B_eSign B_pile B_all B_burned B_was B_need B_laidRow B_long8 B_brings B_sBurning B_sStroke B_sIs B_sTold B_sUntold B_parts B_boxAll B_isBoxed G_hName G_iName G_bName ex) H)) := by
  refine metG_of 3 ck_X12_here (Nat.le_of_ble_eq_true rfl) rMap (fun p e s m args below meth c A hx hb hml hr hlocks hown hts hK hD hA hP hS ls hl => ?_)
  have hown : s.vm.findClass "HideReaderModel" = some m.cls := hown
  have hl : lv_has ls 5 [(0, .ref (a 0)), (1, .ref (a 18)), (2, .int (mI p1)), (3, .int (mI p2))] := hl
  refine lv_iconst (v := mI 0) hx hb dX12_here_0 rfl ?_
  refine lv_istore (lv' := [(4, .int (mI 0)), (0, .ref (a 0)), (1, .ref (a 18)), (2, .int (mI p1)), (3, .int (mI p2))]) hx hb dX12_here_1 hl (by decide) rfl (fun ls hl => ?_)
  refine sy_loop (I := fun n H locs g => ∃ (z_42 : Int) (ls : Array Slot), (0 ≤ z_42 ∧ z_42 ≤ 6) ∧ (6 - z_42).toNat = n ∧ va_P D vwCl (rW k a x_taped x_size x_faultKind x_faultPlace x_at x_end x_token x_number x_bank x_rb x_codes x_within x_piled x_unitsInRule x_askBeast x_askStroke x_askAge x_askSeason x_acts x_undone x_laid x_seens x_time x_fitting n_name B_tape B_text B_turns B_herds B_irons B_beasts B_units B_night B_draw B_told B_brands B_ironMarks B_herdTold B_born B_ruleFrom B_ruleTo B_code B_codeNumber B_eWhat B_eSign B_pile B_all B_burned B_was B_need B_laidRow B_long8 B_brings B_sBurning B_sStroke B_sIs B_sTold B_sUntold B_parts B_boxAll B_isBoxed G_hName G_iName G_bName ex) H ∧ va_S A s.heap H locs ∧ lv_has ls 5 [(4, .int (mI z_42)), (0, .ref (a 0)), (1, .ref (a 18)), (2, .int (mI p1)), (3, .int (mI p2))] ∧ g = F0 m 3 ls []) ?_ _ ⟨0, _, by omega, rfl, hP, hS, lv_sub hl [0, 1, 2, 3, 4] rfl, rfl⟩
  intro n_48 H locs g hI ih_49
  obtain ⟨z_42, ls, h3_0, mn_48, hP, hS, hl, rfl⟩ := hI
  refine lv_iload hx hb dX12_here_3 (lv_at hl 0 rfl) ?_
  refine lv_iload_n hx hb dX12_here_5 rfl (lv_at hl 4 rfl) ?_
  refine sy_icmp_ge (tgt := 40) hx hb dX12_here_6 (by decide) (by omega) (by omega) (fun c_50 => ?_) (fun c_50 => ?_)
  · skip
    refine lv_iconst (v := mI (-1)) hx hb dX12_here_40 rfl ?_
    exact r_i hx hb hr hlocks dX12_here_41 hS ⟨by omega, hP⟩
  · skip
    refine lv_aload_n hx hb dX12_here_9 rfl (lv_at hl 1 rfl) ?_
    refine rg_o_token hx hb hts hown hK hP uw_7_31 dX12_here_10 ?_
    refine lv_iconst (v := mI 2) hx hb dX12_here_13 rfl ?_
    refine sy_icmp_ne (tgt := 34) hx hb dX12_here_14 (by decide) (by omega) (by decide) (fun c_51 => ?_) (fun c_51 => ?_)
    · skip
      refine lv_iinc (v := mI (z_42 + 1)) (lv' := [(4, .int (mI (z_42 + 1))), (0, .ref (a 0)), (1, .ref (a 18)), (2, .int (mI p1)), (3, .int (mI p2))]) hx hb dX12_here_34 hl (k := 0) rfl (mI_ad rfl) (by decide) rfl (fun ls hl => ?_)
      refine lv_goto (tgt := 3) hx hb dX12_here_37 (by decide) ?_
      exact ih_49 _ _ _ _ (by omega) ⟨(z_42 + 1), _, by omega, rfl, hP, hS, lv_sub hl [0, 1, 2, 3, 4] rfl, rfl⟩
    · skip
      refine lv_aload_n hx hb dX12_here_17 rfl (lv_at hl 2 rfl) ?_
      refine lv_iload_n hx hb dX12_here_18 rfl (lv_at hl 3 rfl) ?_
      refine lv_iload hx hb dX12_here_19 (lv_at hl 0 rfl) ?_
      refine sy_iadd hx hb dX12_here_21 (p1 + z_42) rfl ?_
      refine rl_iName hx hb hK hP dX12_here_22 (by omega) (fun j_52 => ?_)
      refine lv_aload_n hx hb dX12_here_23 rfl (lv_at hl 1 rfl) ?_
      refine rg_o_name hx hb hts hown hK hP uw_7_33 dX12_here_24 ?_
      refine sy_lcmp hx hb dX12_here_27 (fun z_53 hz_53 => ?_)
      refine sy_if_ne (tgt := 34) hx hb dX12_here_28 (by decide) (by omega) (fun c_54 => ?_) (fun c_54 => ?_)
      · skip
        refine lv_iinc (v := mI (z_42 + 1)) (lv' := [(4, .int (mI (z_42 + 1))), (0, .ref (a 0)), (1, .ref (a 18)), (2, .int (mI p1)), (3, .int (mI p2))]) hx hb dX12_here_34 hl (k := 0) rfl (mI_ad rfl) (by decide) rfl (fun ls hl => ?_)
        refine lv_goto (tgt := 3) hx hb dX12_here_37 (by decide) ?_
        exact ih_49 _ _ _ _ (by omega) ⟨(z_42 + 1), _, by omega, rfl, hP, hS, lv_sub hl [0, 1, 2, 3, 4] rfl, rfl⟩
      · skip
        refine lv_iload hx hb dX12_here_31 (lv_at hl 0 rfl) ?_
        exact r_i hx hb hr hlocks dX12_here_33 hS ⟨by omega, hP⟩
set_option maxHeartbeats 4000000 in
set_option maxRecDepth 100000 in
theorem kr_X12_readBeast (h_x_size : 0 ≤ x_size ∧ x_size ≤ 1600) (h_x_faultKind : 0 ≤ x_faultKind ∧ x_faultKind ≤ 5) (h_x_faultPlace : -1 ≤ x_faultPlace ∧ x_faultPlace ≤ 1600) (h_x_at : 0 ≤ x_at ∧ x_at ≤ 1600) (h_x_end : 0 ≤ x_end ∧ x_end ≤ 1600) (h_x_token : 0 ≤ x_token ∧ x_token ≤ 5) (h_x_number : -2147483648 ≤ x_number ∧ x_number ≤ 2147483647) (h_x_rb : 0 ≤ x_rb ∧ x_rb ≤ 1) (b_B_text : bd (-128) 127 B_text) (b_B_herds : bd (0) 8 B_herds) (b_B_beasts : bd (0) 8 B_beasts) (b_B_herdTold : bd (0) 7 B_herdTold) (b_B_born : bd (0) 99 B_born) (g_E : x_end ≤ x_size) (hbe : B_beasts x_rb.toNat ≤ 7) : MetG l D k yX12_readBeast cX12_readBeast 3 none 4 [.ref (a 0)] (rW k a x_taped x_size x_faultKind x_faultPlace x_at x_end x_token x_number x_bank x_rb x_codes x_within x_piled x_unitsInRule x_askBeast x_askStroke x_askAge x_askSeason x_acts x_undone x_laid x_seens x_time x_fitting n_name B_tape B_text B_turns B_herds B_irons B_beasts B_units B_night B_draw B_told B_brands B_ironMarks B_herdTold B_born B_ruleFrom B_ruleTo B_code B_codeNumber B_eWhat B_eSign B_pile B_all B_burned B_was B_need B_laidRow B_long8 B_brings B_sBurning B_sStroke B_sIs B_sTold B_sUntold B_parts B_boxAll B_isBoxed G_hName G_iName G_bName ex) (qGv (fun H => ∃ (y_faultKind : Int) (y_faultPlace : Int) (y_at : Int) (y_end : Int) (y_token : Int) (y_number : Int) (j_name : Int64) (F_beasts : Nat → Int) (F_herdTold : Nat → Int) (F_born : Nat → Int) (G_bName : Nat → Int64), (0 ≤ y_faultKind ∧ y_faultKind ≤ 5) ∧ (-1 ≤ y_faultPlace ∧ y_faultPlace ≤ 1600) ∧ (0 ≤ y_at ∧ y_at ≤ 1600) ∧ (0 ≤ y_end ∧ y_end ≤ 1600) ∧ (0 ≤ y_token ∧ y_token ≤ 5) ∧ (-2147483648 ≤ y_number ∧ y_number ≤ 2147483647) ∧ (bd (0) 8 F_beasts) ∧ (bd (0) 7 F_herdTold) ∧ (bd (0) 99 F_born) ∧ (0 ≤ y_faultKind - x_faultKind) ∧ (0 ≤ y_end - x_end) ∧ (1 ≤ y_faultKind ∨ y_token ≤ 0 ∨ x_end + 1 ≤ y_end) ∧ (x_token = 2 ∨ 1 ≤ y_faultKind) ∧ (y_end ≤ x_size) ∧ va_P D vwCl (rW k a x_taped x_size y_faultKind y_faultPlace y_at y_end y_token y_number x_bank x_rb x_codes x_within x_piled x_unitsInRule x_askBeast x_askStroke x_askAge x_askSeason x_acts x_undone x_laid x_seens x_time x_fitting j_name B_tape B_text B_turns B_herds B_irons F_beasts B_units B_night B_draw B_told B_brands B_ironMarks F_herdTold F_born B_ruleFrom B_ruleTo B_code B_codeNumber B_eWhat B_eSign B_pile B_all B_burned B_was B_need B_laidRow B_long8 B_brings B_sBurning B_sStroke B_sIs B_sTold B_sUntold B_parts B_boxAll B_isBoxed G_hName G_iName G_bName ex) H)) := by
  refine metG_of 0 ck_X12_readBeast (Nat.le_of_ble_eq_true rfl) rMap (fun p e s m args below meth c A hx hb hml hr hlocks hown hts hK hD hA hP hS ls hl => ?_)
  have hown : s.vm.findClass "HideReaderModel" = some m.cls := hown
  have hl : lv_has ls 3 [(0, .ref (a 0))] := hl
  refine lv_bipush (v := mI 8) hx hb dX12_readBeast_0 (by decide) ?_
  refine lv_aload_n hx hb dX12_readBeast_2 rfl (lv_at hl 0 rfl) ?_
  refine rg_o_rb hx hb hts hown hK hP uw_7_57 dX12_readBeast_3 ?_
  refine sy_imul hx hb dX12_readBeast_6 (8 * x_rb) rfl ?_
  refine lv_aload_n hx hb dX12_readBeast_7 rfl (lv_at hl 0 rfl) ?_
  refine rg_o_beasts hx hb hts hown hK hP uw_7_37 dX12_readBeast_8 ?_
  refine lv_aload_n hx hb dX12_readBeast_11 rfl (lv_at hl 0 rfl) ?_
  refine rg_o_rb hx hb hts hown hK hP uw_7_57 dX12_readBeast_12 ?_
  refine rl_beasts hx hb hK hP dX12_readBeast_15 (by omega) b_B_beasts (fun z_1 ez_1 hz_1 => ?_)
  refine sy_iadd hx hb dX12_readBeast_16 (8 * x_rb + z_1) rfl ?_
  refine lv_istore_n (lv' := [(1, .int (mI (8 * x_rb + z_1))), (0, .ref (a 0))]) hx hb dX12_readBeast_17 rfl hl (by decide) rfl (fun ls hl => ?_)
  refine lv_aload_n hx hb dX12_readBeast_18 rfl (lv_at hl 1 rfl) ?_
  refine rg_o_bName hx hb hts hown hK hP uw_7_50 dX12_readBeast_19 ?_
  refine lv_iload_n hx hb dX12_readBeast_22 rfl (lv_at hl 0 rfl) ?_
  refine lv_aload_n hx hb dX12_readBeast_23 rfl (lv_at hl 1 rfl) ?_
  refine lv_aload_n hx hb dX12_readBeast_24 rfl (lv_at hl 1 rfl) ?_
  refine lv_aload_n hx hb dX12_readBeast_25 rfl (lv_at hl 1 rfl) ?_
  refine rg_o_bName hx hb hts hown hK hP uw_7_50 dX12_readBeast_26 ?_
  refine lv_bipush (v := mI 8) hx hb dX12_readBeast_29 (by decide) ?_
  refine lv_aload_n hx hb dX12_readBeast_31 rfl (lv_at hl 1 rfl) ?_
  refine rg_o_rb hx hb hts hown hK hP uw_7_57 dX12_readBeast_32 ?_
  refine sy_imul hx hb dX12_readBeast_35 (8 * x_rb) rfl ?_
  refine lv_aload_n hx hb dX12_readBeast_36 rfl (lv_at hl 1 rfl) ?_
  refine rg_o_beasts hx hb hts hown hK hP uw_7_37 dX12_readBeast_37 ?_
  refine lv_aload_n hx hb dX12_readBeast_40 rfl (lv_at hl 1 rfl) ?_
  refine rg_o_rb hx hb hts hown hK hP uw_7_57 dX12_readBeast_41 ?_
  refine rl_beasts hx hb hK hP dX12_readBeast_44 (by omega) b_B_beasts (fun z_2 ez_2 hz_2 => ?_)
  refine g_i (rDt hD) hS hA (g_V (own := "HideReaderModel") (As := [.ref (a 19), .int (mI (8 * x_rb)), .int (mI z_2)]) (rest := [.ref (a 0), .int (mI (8 * x_rb + z_1)), .ref (a 19)]) hx hb hml hown hts hK hP (rDt hD) (kr_X12_here_o_bName (l := l) (D := D) (k := k) (by omega) (by omega) h_x_token) ck_X12_here iv_X12_here uw_8_50 (rv_o hK hP) rfl hl.1 rfl (Nat.le_of_ble_eq_true rfl) dX12_readBeast_45 ⟨Nat.le_of_ble_eq_true rfl, Nat.le_of_ble_eq_true rfl⟩ ⟨Nat.le_of_ble_eq_true rfl, Nat.le_of_ble_eq_true rfl⟩) (fun r_3 H locs hQ hS => ?_)
  obtain ⟨hr_3_0, hP⟩ := hQ
  refine g_l (rDt hD) hS hA (g_V (own := "HideReaderModel") (As := [.int (mI r_3)]) (rest := [.int (mI (8 * x_rb + z_1)), .ref (a 19)]) hx hb hml hown hts hK hP (rDt hD) (kr_X12_newName (l := l) (D := D) (k := k) (by omega) h_x_size h_x_faultKind h_x_faultPlace h_x_at h_x_end h_x_token h_x_number b_B_text g_E) ck_X12_newName iv_X12_newName uw_8_54 (rv_o hK hP) rfl hl.1 rfl (Nat.le_of_ble_eq_true rfl) dX12_readBeast_48 ⟨Nat.le_of_ble_eq_true rfl, Nat.le_of_ble_eq_true rfl⟩ ⟨Nat.le_of_ble_eq_true rfl, Nat.le_of_ble_eq_true rfl⟩) (fun r_4 H locs hQ hS => ?_)
  obtain ⟨y_5, y_6, y_7, y_8, y_9, y_10, j_11, hr_4_0, hr_4_1, hr_4_2, hr_4_3, hr_4_4, hr_4_5, hr_4_6, hr_4_7, hr_4_8, hr_4_9, kr_4_E, hP⟩ := hQ
  refine rs_bName hx hb hK hP hD hS dX12_readBeast_51 (by omega) (fun F_12 H locs hP hS => ?_)
  refine lv_aload_n hx hb dX12_readBeast_52 rfl (lv_at hl 1 rfl) ?_
  refine lv_aload_n hx hb dX12_readBeast_53 rfl (lv_at hl 1 rfl) ?_
  refine lv_ldc2 (own := "HideReaderModel") (v := 28518) hx hb hown (hts _ uw_8_0) dX12_readBeast_54 ?_
  refine g_i (rDt hD) hS hA (g_V (own := "HideReaderModel") (As := [.long 28518]) (rest := [.ref (a 0)]) hx hb hml hown hts hK hP (rDt hD) (kr_X12_isWord (l := l) (D := D) (k := k) (by omega)) ck_X12_isWord iv_X12_isWord uw_8_30 (rv_o hK hP) rfl hl.1 rfl (Nat.le_of_ble_eq_true rfl) dX12_readBeast_57 ⟨Nat.le_of_ble_eq_true rfl, Nat.le_of_ble_eq_true rfl⟩ ⟨Nat.le_of_ble_eq_true rfl, Nat.le_of_ble_eq_true rfl⟩) (fun r_13 H locs hQ hS => ?_)
  obtain ⟨hq_r_13, hP⟩ := hQ
  rcases hq_r_13 with ⟨rfl, c_14_0, c_14_1⟩ | ⟨rfl, c_15_0, c_15_1⟩
  · skip
    refine g_v (rDt hD) hS hA (g_V (own := "HideReaderModel") (As := [.int (mI 0)]) (rest := []) hx hb hml hown hts hK hP (rDt hD) (kr_X12_must (l := l) (D := D) (k := k) (by decide) h_x_size (by omega) (by omega) (by omega) (by omega) (by omega) (by omega) b_B_text kr_4_E) ck_X12_must iv_X12_must uw_8_62 (rv_o hK hP) rfl hl.1 rfl (Nat.le_of_ble_eq_true rfl) dX12_readBeast_60 ⟨Nat.le_of_ble_eq_true rfl, Nat.le_of_ble_eq_true rfl⟩ ⟨Nat.le_of_ble_eq_true rfl, Nat.le_of_ble_eq_true rfl⟩) (fun H locs hQ hS => ?_)
    obtain ⟨y_17, y_18, y_19, y_20, y_21, y_22, j_23, hr_16_0, hr_16_1, hr_16_2, hr_16_3, hr_16_4, hr_16_5, hr_16_6, hr_16_7, hr_16_8, hr_16_9, hr_16_10, kr_16_E, hP⟩ := hQ
    refine lv_aload_n hx hb dX12_readBeast_63 rfl (lv_at hl 1 rfl) ?_
    refine g_i (rDt hD) hS hA (g_V (own := "HideReaderModel") (As := []) (rest := []) hx hb hml hown hts hK hP (rDt hD) (kr_X12_isGood (l := l) (D := D) (k := k) (by omega)) ck_X12_isGood iv_X12_isGood uw_8_18 (rv_o hK hP) rfl hl.1 rfl (Nat.le_of_ble_eq_true rfl) dX12_readBeast_64 ⟨Nat.le_of_ble_eq_true rfl, Nat.le_of_ble_eq_true rfl⟩ ⟨Nat.le_of_ble_eq_true rfl, Nat.le_of_ble_eq_true rfl⟩) (fun r_24 H locs hQ hS => ?_)
    obtain ⟨hq_r_24, hP⟩ := hQ
    rcases hq_r_24 with ⟨rfl, c_25_0, c_25_1⟩ | ⟨rfl, c_26_0⟩
    · skip
      refine sy_if_ne (tgt := 71) hx hb dX12_readBeast_67 (by decide) (by decide) (fun c9 => absurd c9 (by decide)) (fun c_27 => ?_)
      exact r_v hx hb hr hlocks dX12_readBeast_70 hS ⟨y_17, y_18, y_19, y_20, y_21, y_22, j_23, B_beasts, B_herdTold, B_born, F_12, by omega, by omega, by omega, by omega, by omega, by omega, b_B_beasts, b_B_herdTold, b_B_born, by omega, by omega, by omega, by omega, kr_16_E, hP⟩
    · skip
      refine sy_if_ne (tgt := 71) hx hb dX12_readBeast_67 (by decide) (by decide) (fun c_28 => ?_) (fun c9 => absurd c9 (by decide))
      refine lv_aload_n hx hb dX12_readBeast_71 rfl (lv_at hl 1 rfl) ?_
      refine lv_aload_n hx hb dX12_readBeast_72 rfl (lv_at hl 1 rfl) ?_
      refine rg_o_hName hx hb hts hown hK hP uw_7_48 dX12_readBeast_73 ?_
      refine lv_bipush (v := mI 8) hx hb dX12_readBeast_76 (by decide) ?_
      refine lv_aload_n hx hb dX12_readBeast_78 rfl (lv_at hl 1 rfl) ?_
      refine rg_o_rb hx hb hts hown hK hP uw_7_57 dX12_readBeast_79 ?_
      refine sy_imul hx hb dX12_readBeast_82 (8 * x_rb) rfl ?_
      refine lv_aload_n hx hb dX12_readBeast_83 rfl (lv_at hl 1 rfl) ?_
      refine rg_o_herds hx hb hts hown hK hP uw_7_35 dX12_readBeast_84 ?_
      refine lv_aload_n hx hb dX12_readBeast_87 rfl (lv_at hl 1 rfl) ?_
      refine rg_o_rb hx hb hts hown hK hP uw_7_57 dX12_readBeast_88 ?_
      refine rl_herds hx hb hK hP dX12_readBeast_91 (by omega) b_B_herds (fun z_29 ez_29 hz_29 => ?_)
      refine g_i (rDt hD) hS hA (g_V (own := "HideReaderModel") (As := [.ref (a 17), .int (mI (8 * x_rb)), .int (mI z_29)]) (rest := []) hx hb hml hown hts hK hP (rDt hD) (kr_X12_here_o_hName (l := l) (D := D) (k := k) (by omega) (by omega) (by omega)) ck_X12_here iv_X12_here uw_8_50 (rv_o hK hP) rfl hl.1 rfl (Nat.le_of_ble_eq_true rfl) dX12_readBeast_92 ⟨Nat.le_of_ble_eq_true rfl, Nat.le_of_ble_eq_true rfl⟩ ⟨Nat.le_of_ble_eq_true rfl, Nat.le_of_ble_eq_true rfl⟩) (fun r_30 H locs hQ hS => ?_)
      obtain ⟨hr_30_0, hP⟩ := hQ
      refine lv_istore_n (lv' := [(2, .int (mI r_30)), (1, .int (mI (8 * x_rb + z_1))), (0, .ref (a 0))]) hx hb dX12_readBeast_95 rfl hl (by decide) rfl (fun ls hl => ?_)
      refine lv_aload_n hx hb dX12_readBeast_96 rfl (lv_at hl 2 rfl) ?_
      refine rg_o_token hx hb hts hown hK hP uw_7_31 dX12_readBeast_97 ?_
      refine lv_iconst (v := mI 2) hx hb dX12_readBeast_100 rfl ?_
      refine sy_icmp_eq (tgt := 111) hx hb dX12_readBeast_101 (by decide) (by omega) (by decide) (fun c_31 => ?_) (fun c_31 => ?_)
      · skip
        refine lv_iload_n hx hb dX12_readBeast_111 rfl (lv_at hl 0 rfl) ?_
        refine sy_if_ge (tgt := 124) hx hb dX12_readBeast_112 (by decide) (by omega) (fun c_32 => ?_) (fun c_32 => ?_)
        · skip
          refine lv_aload_n hx hb dX12_readBeast_124 rfl (lv_at hl 2 rfl) ?_
          refine g_i (rDt hD) hS hA (g_V (own := "HideReaderModel") (As := []) (rest := []) hx hb hml hown hts hK hP (rDt hD) (kr_X12_isGood (l := l) (D := D) (k := k) (by omega)) ck_X12_isGood iv_X12_isGood uw_8_18 (rv_o hK hP) rfl hl.1 rfl (Nat.le_of_ble_eq_true rfl) dX12_readBeast_125 ⟨Nat.le_of_ble_eq_true rfl, Nat.le_of_ble_eq_true rfl⟩ ⟨Nat.le_of_ble_eq_true rfl, Nat.le_of_ble_eq_true rfl⟩) (fun r_33 H locs hQ hS => ?_)
          obtain ⟨hq_r_33, hP⟩ := hQ
          rcases hq_r_33 with ⟨rfl, c_34_0, c_34_1⟩ | ⟨rfl, c_35_0⟩
          exact False.elim (by omega)
          · skip
            refine sy_if_ne (tgt := 132) hx hb dX12_readBeast_128 (by decide) (by decide) (fun c_36 => ?_) (fun c9 => absurd c9 (by decide))
            refine lv_aload_n hx hb dX12_readBeast_132 rfl (lv_at hl 2 rfl) ?_
            refine rg_o_herdTold hx hb hts hown hK hP uw_7_44 dX12_readBeast_133 ?_
            refine lv_iload_n hx hb dX12_readBeast_136 rfl (lv_at hl 1 rfl) ?_
            refine lv_iload_n hx hb dX12_readBeast_137 rfl (lv_at hl 0 rfl) ?_
            refine rs_herdTold hx hb hK hP hD hS dX12_readBeast_138 (by omega) b_B_herdTold (by omega) (fun F_37 H locs _ bF_37 hP hS => ?_)
            refine lv_aload_n hx hb dX12_readBeast_139 rfl (lv_at hl 2 rfl) ?_
            refine g_v (rDt hD) hS hA (g_V (own := "HideReaderModel") (As := []) (rest := []) hx hb hml hown hts hK hP (rDt hD) (kr_X12_goOn (l := l) (D := D) (k := k) h_x_size (by omega) (by omega) b_B_text kr_16_E) ck_X12_goOn iv_X12_goOn uw_7_220 (rv_o hK hP) rfl hl.1 rfl (Nat.le_of_ble_eq_true rfl) dX12_readBeast_140 ⟨Nat.le_of_ble_eq_true rfl, Nat.le_of_ble_eq_true rfl⟩ ⟨Nat.le_of_ble_eq_true rfl, Nat.le_of_ble_eq_true rfl⟩) (fun H locs hQ hS => ?_)
            obtain ⟨y_39, y_40, y_41, y_42, j_43, hr_38_0, hr_38_1, hr_38_2, hr_38_3, hr_38_4, hr_38_5, kr_38_E, hP⟩ := hQ
            refine lv_aload_n hx hb dX12_readBeast_143 rfl (lv_at hl 2 rfl) ?_
            refine rg_o_born hx hb hts hown hK hP uw_7_45 dX12_readBeast_144 ?_
            refine lv_iload_n hx hb dX12_readBeast_147 rfl (lv_at hl 1 rfl) ?_
            refine lv_aload_n hx hb dX12_readBeast_148 rfl (lv_at hl 2 rfl) ?_
            refine lv_ldc2 (own := "HideReaderModel") (v := 1651470958) hx hb hown (hts _ uw_8_1) dX12_readBeast_149 ?_
            refine g_i (rDt hD) hS hA (g_V (own := "HideReaderModel") (As := [.long 1651470958]) (rest := [.int (mI (8 * x_rb + z_1)), .ref (a 14)]) hx hb hml hown hts hK hP (rDt hD) (kr_X12_isWord (l := l) (D := D) (k := k) (by omega)) ck_X12_isWord iv_X12_isWord uw_8_30 (rv_o hK hP) rfl hl.1 rfl (Nat.le_of_ble_eq_true rfl) dX12_readBeast_152 ⟨Nat.le_of_ble_eq_true rfl, Nat.le_of_ble_eq_true rfl⟩ ⟨Nat.le_of_ble_eq_true rfl, Nat.le_of_ble_eq_true rfl⟩) (fun r_44 H locs hQ hS => ?_)
            obtain ⟨hq_r_44, hP⟩ := hQ
            rcases hq_r_44 with ⟨rfl, c_45_0, c_45_1⟩ | ⟨rfl, c_46_0, c_46_1⟩
            · skip
              refine sy_if_eq (tgt := 171) hx hb dX12_readBeast_155 (by decide) (by decide) (fun c_48 => ?_) (fun c9 => absurd c9 (by decide))
              refine lv_iconst (v := mI 0) hx hb dX12_readBeast_171 rfl ?_
              refine rs_born hx hb hK hP hD hS dX12_readBeast_172 (by omega) b_B_born (by omega) (fun F_49 H locs _ bF_49 hP hS => ?_)
              refine lv_aload_n hx hb dX12_readBeast_173 rfl (lv_at hl 2 rfl) ?_
              refine rg_o_beasts hx hb hts hown hK hP uw_7_37 dX12_readBeast_174 ?_
              refine lv_aload_n hx hb dX12_readBeast_177 rfl (lv_at hl 2 rfl) ?_
              refine rg_o_rb hx hb hts hown hK hP uw_7_57 dX12_readBeast_178 ?_
              refine lv_dup2_11 hx hb dX12_readBeast_181 rfl rfl ?_
              refine rl_beasts hx hb hK hP dX12_readBeast_182 (by omega) b_B_beasts (fun z_50 ez_50 hz_50 => ?_)
              refine lv_iconst (v := mI 1) hx hb dX12_readBeast_183 rfl ?_
              refine sy_iadd hx hb dX12_readBeast_184 (z_50 + 1) rfl ?_
              refine rs_beasts hx hb hK hP hD hS dX12_readBeast_185 (by omega) b_B_beasts (by omega) (fun F_51 H locs _ bF_51 hP hS => ?_)
              exact r_v hx hb hr hlocks dX12_readBeast_186 hS ⟨y_17, y_18, y_39, y_40, y_41, y_42, j_43, F_51, F_37, F_49, F_12, by omega, by omega, by omega, by omega, by omega, by omega, bF_51, bF_37, bF_49, by omega, by omega, by omega, by omega, kr_38_E, hP⟩
            · skip
              refine sy_if_eq (tgt := 171) hx hb dX12_readBeast_155 (by decide) (by decide) (fun c9 => absurd c9 (by decide)) (fun c_61 => ?_)
              refine lv_aload_n hx hb dX12_readBeast_158 rfl (lv_at hl 2 rfl) ?_
              refine lv_ldc2 (own := "HideReaderModel") (v := 1651470958) hx hb hown (hts _ uw_8_1) dX12_readBeast_159 ?_
              refine lv_iconst (v := mI 0) hx hb dX12_readBeast_162 rfl ?_
              refine lv_bipush (v := mI 99) hx hb dX12_readBeast_163 (by decide) ?_
              refine g_i (rDt hD) hS hA (g_V (own := "HideReaderModel") (As := [.long 1651470958, .int (mI 0), .int (mI 99)]) (rest := [.int (mI (8 * x_rb + z_1)), .ref (a 14)]) hx hb hml hown hts hK hP (rDt hD) (kr_X12_after (l := l) (D := D) (k := k) (by decide) (by decide) h_x_size (by omega) (by omega) (by omega) (by omega) (by omega) (by omega) b_B_text kr_38_E) ck_X12_after iv_X12_after uw_8_70 (rv_o hK hP) rfl hl.1 rfl (Nat.le_of_ble_eq_true rfl) dX12_readBeast_165 ⟨Nat.le_of_ble_eq_true rfl, Nat.le_of_ble_eq_true rfl⟩ ⟨Nat.le_of_ble_eq_true rfl, Nat.le_of_ble_eq_true rfl⟩) (fun r_62 H locs hQ hS => ?_)
              obtain ⟨y_63, y_64, y_65, y_66, y_67, y_68, j_69, hr_62_0, hr_62_1, hr_62_2, hr_62_3, hr_62_4, hr_62_5, hr_62_6, hr_62_7, hr_62_8, hr_62_9, hr_62_10, kr_62_E, hP⟩ := hQ
              refine lv_goto (tgt := 172) hx hb dX12_readBeast_168 (by decide) ?_
              refine rs_born hx hb hK hP hD hS dX12_readBeast_172 (by omega) b_B_born (by omega) (fun F_70 H locs _ bF_70 hP hS => ?_)
              refine lv_aload_n hx hb dX12_readBeast_173 rfl (lv_at hl 2 rfl) ?_
              refine rg_o_beasts hx hb hts hown hK hP uw_7_37 dX12_readBeast_174 ?_
              refine lv_aload_n hx hb dX12_readBeast_177 rfl (lv_at hl 2 rfl) ?_
              refine rg_o_rb hx hb hts hown hK hP uw_7_57 dX12_readBeast_178 ?_
              refine lv_dup2_11 hx hb dX12_readBeast_181 rfl rfl ?_
              refine rl_beasts hx hb hK hP dX12_readBeast_182 (by omega) b_B_beasts (fun z_71 ez_71 hz_71 => ?_)
              refine lv_iconst (v := mI 1) hx hb dX12_readBeast_183 rfl ?_
              refine sy_iadd hx hb dX12_readBeast_184 (z_71 + 1) rfl ?_
              refine rs_beasts hx hb hK hP hD hS dX12_readBeast_185 (by omega) b_B_beasts (by omega) (fun F_72 H locs _ bF_72 hP hS => ?_)
              exact r_v hx hb hr hlocks dX12_readBeast_186 hS ⟨y_63, y_64, y_65, y_66, y_67, y_68, j_69, F_72, F_37, F_70, F_12, by omega, by omega, by omega, by omega, by omega, by omega, bF_72, bF_37, bF_70, by omega, by omega, by omega, by omega, kr_62_E, hP⟩
        · skip
          refine lv_aload_n hx hb dX12_readBeast_115 rfl (lv_at hl 2 rfl) ?_
          refine lv_iconst (v := mI 5) hx hb dX12_readBeast_116 rfl ?_
          refine lv_aload_n hx hb dX12_readBeast_117 rfl (lv_at hl 2 rfl) ?_
          refine rg_o_at hx hb hts hown hK hP uw_7_29 dX12_readBeast_118 ?_
          refine g_v (rDt hD) hS hA (g_V (own := "HideReaderModel") (As := [.int (mI 5), .int (mI y_19)]) (rest := []) hx hb hml hown hts hK hP (rDt hD) (kr_X12_fails (l := l) (D := D) (k := k) (by decide) (by omega) (by omega) (by omega)) ck_X12_fails iv_X12_fails uw_8_38 (rv_o hK hP) rfl hl.1 rfl (Nat.le_of_ble_eq_true rfl) dX12_readBeast_121 ⟨Nat.le_of_ble_eq_true rfl, Nat.le_of_ble_eq_true rfl⟩ ⟨Nat.le_of_ble_eq_true rfl, Nat.le_of_ble_eq_true rfl⟩) (fun H locs hQ hS => ?_)
          obtain ⟨y_74, y_75, hr_73_0, hr_73_1, hr_73_2, hP⟩ := hQ
          refine lv_aload_n hx hb dX12_readBeast_124 rfl (lv_at hl 2 rfl) ?_
          refine g_i (rDt hD) hS hA (g_V (own := "HideReaderModel") (As := []) (rest := []) hx hb hml hown hts hK hP (rDt hD) (kr_X12_isGood (l := l) (D := D) (k := k) (by omega)) ck_X12_isGood iv_X12_isGood uw_8_18 (rv_o hK hP) rfl hl.1 rfl (Nat.le_of_ble_eq_true rfl) dX12_readBeast_125 ⟨Nat.le_of_ble_eq_true rfl, Nat.le_of_ble_eq_true rfl⟩ ⟨Nat.le_of_ble_eq_true rfl, Nat.le_of_ble_eq_true rfl⟩) (fun r_76 H locs hQ hS => ?_)
          obtain ⟨hq_r_76, hP⟩ := hQ
          rcases hq_r_76 with ⟨rfl, c_77_0, c_77_1⟩ | ⟨rfl, c_78_0⟩
          · skip
            refine sy_if_ne (tgt := 132) hx hb dX12_readBeast_128 (by decide) (by decide) (fun c9 => absurd c9 (by decide)) (fun c_79 => ?_)
            exact r_v hx hb hr hlocks dX12_readBeast_131 hS ⟨y_74, y_75, y_19, y_20, y_21, y_22, j_23, B_beasts, B_herdTold, B_born, F_12, by omega, by omega, by omega, by omega, by omega, by omega, b_B_beasts, b_B_herdTold, b_B_born, by omega, by omega, by omega, by omega, kr_16_E, hP⟩
          exact False.elim (by omega)
      · skip
        refine lv_aload_n hx hb dX12_readBeast_104 rfl (lv_at hl 2 rfl) ?_
        refine g_v (rDt hD) hS hA (g_V (own := "HideReaderModel") (As := []) (rest := []) hx hb hml hown hts hK hP (rDt hD) (kr_X12_misplaced (l := l) (D := D) (k := k) (by omega) (by omega) (by omega) (by omega)) ck_X12_misplaced iv_X12_misplaced uw_8_34 (rv_o hK hP) rfl hl.1 rfl (Nat.le_of_ble_eq_true rfl) dX12_readBeast_105 ⟨Nat.le_of_ble_eq_true rfl, Nat.le_of_ble_eq_true rfl⟩ ⟨Nat.le_of_ble_eq_true rfl, Nat.le_of_ble_eq_true rfl⟩) (fun H locs hQ hS => ?_)
        obtain ⟨y_81, y_82, hr_80_0, hr_80_1, hr_80_2, hP⟩ := hQ
        refine lv_goto (tgt := 124) hx hb dX12_readBeast_108 (by decide) ?_
        refine lv_aload_n hx hb dX12_readBeast_124 rfl (lv_at hl 2 rfl) ?_
        refine g_i (rDt hD) hS hA (g_V (own := "HideReaderModel") (As := []) (rest := []) hx hb hml hown hts hK hP (rDt hD) (kr_X12_isGood (l := l) (D := D) (k := k) (by omega)) ck_X12_isGood iv_X12_isGood uw_8_18 (rv_o hK hP) rfl hl.1 rfl (Nat.le_of_ble_eq_true rfl) dX12_readBeast_125 ⟨Nat.le_of_ble_eq_true rfl, Nat.le_of_ble_eq_true rfl⟩ ⟨Nat.le_of_ble_eq_true rfl, Nat.le_of_ble_eq_true rfl⟩) (fun r_83 H locs hQ hS => ?_)
        obtain ⟨hq_r_83, hP⟩ := hQ
        rcases hq_r_83 with ⟨rfl, c_84_0, c_84_1⟩ | ⟨rfl, c_85_0⟩
        · skip
          refine sy_if_ne (tgt := 132) hx hb dX12_readBeast_128 (by decide) (by decide) (fun c9 => absurd c9 (by decide)) (fun c_86 => ?_)
          exact r_v hx hb hr hlocks dX12_readBeast_131 hS ⟨y_81, y_82, y_19, y_20, y_21, y_22, j_23, B_beasts, B_herdTold, B_born, F_12, by omega, by omega, by omega, by omega, by omega, by omega, b_B_beasts, b_B_herdTold, b_B_born, by omega, by omega, by omega, by omega, kr_16_E, hP⟩
        exact False.elim (by omega)
  · skip
    refine g_v (rDt hD) hS hA (g_V (own := "HideReaderModel") (As := [.int (mI 1)]) (rest := []) hx hb hml hown hts hK hP (rDt hD) (kr_X12_must (l := l) (D := D) (k := k) (by decide) h_x_size (by omega) (by omega) (by omega) (by omega) (by omega) (by omega) b_B_text kr_4_E) ck_X12_must iv_X12_must uw_8_62 (rv_o hK hP) rfl hl.1 rfl (Nat.le_of_ble_eq_true rfl) dX12_readBeast_60 ⟨Nat.le_of_ble_eq_true rfl, Nat.le_of_ble_eq_true rfl⟩ ⟨Nat.le_of_ble_eq_true rfl, Nat.le_of_ble_eq_true rfl⟩) (fun H locs hQ hS => ?_)
    obtain ⟨y_88, y_89, y_90, y_91, y_92, y_93, j_94, hr_87_0, hr_87_1, hr_87_2, hr_87_3, hr_87_4, hr_87_5, hr_87_6, hr_87_7, hr_87_8, hr_87_9, hr_87_10, kr_87_E, hP⟩ := hQ
    refine lv_aload_n hx hb dX12_readBeast_63 rfl (lv_at hl 1 rfl) ?_
    refine g_i (rDt hD) hS hA (g_V (own := "HideReaderModel") (As := []) (rest := []) hx hb hml hown hts hK hP (rDt hD) (kr_X12_isGood (l := l) (D := D) (k := k) (by omega)) ck_X12_isGood iv_X12_isGood uw_8_18 (rv_o hK hP) rfl hl.1 rfl (Nat.le_of_ble_eq_true rfl) dX12_readBeast_64 ⟨Nat.le_of_ble_eq_true rfl, Nat.le_of_ble_eq_true rfl⟩ ⟨Nat.le_of_ble_eq_true rfl, Nat.le_of_ble_eq_true rfl⟩) (fun r_95 H locs hQ hS => ?_)
    obtain ⟨hq_r_95, hP⟩ := hQ
    rcases hq_r_95 with ⟨rfl, c_96_0, c_96_1⟩ | ⟨rfl, c_97_0⟩
    · skip
      refine sy_if_ne (tgt := 71) hx hb dX12_readBeast_67 (by decide) (by decide) (fun c9 => absurd c9 (by decide)) (fun c_98 => ?_)
      exact r_v hx hb hr hlocks dX12_readBeast_70 hS ⟨y_88, y_89, y_90, y_91, y_92, y_93, j_94, B_beasts, B_herdTold, B_born, F_12, by omega, by omega, by omega, by omega, by omega, by omega, b_B_beasts, b_B_herdTold, b_B_born, by omega, by omega, by omega, by omega, kr_87_E, hP⟩
    · skip
      refine sy_if_ne (tgt := 71) hx hb dX12_readBeast_67 (by decide) (by decide) (fun c_99 => ?_) (fun c9 => absurd c9 (by decide))
      refine lv_aload_n hx hb dX12_readBeast_71 rfl (lv_at hl 1 rfl) ?_
      refine lv_aload_n hx hb dX12_readBeast_72 rfl (lv_at hl 1 rfl) ?_
      refine rg_o_hName hx hb hts hown hK hP uw_7_48 dX12_readBeast_73 ?_
      refine lv_bipush (v := mI 8) hx hb dX12_readBeast_76 (by decide) ?_
      refine lv_aload_n hx hb dX12_readBeast_78 rfl (lv_at hl 1 rfl) ?_
      refine rg_o_rb hx hb hts hown hK hP uw_7_57 dX12_readBeast_79 ?_
      refine sy_imul hx hb dX12_readBeast_82 (8 * x_rb) rfl ?_
      refine lv_aload_n hx hb dX12_readBeast_83 rfl (lv_at hl 1 rfl) ?_
      refine rg_o_herds hx hb hts hown hK hP uw_7_35 dX12_readBeast_84 ?_
      refine lv_aload_n hx hb dX12_readBeast_87 rfl (lv_at hl 1 rfl) ?_
      refine rg_o_rb hx hb hts hown hK hP uw_7_57 dX12_readBeast_88 ?_
      refine rl_herds hx hb hK hP dX12_readBeast_91 (by omega) b_B_herds (fun z_100 ez_100 hz_100 => ?_)
      refine g_i (rDt hD) hS hA (g_V (own := "HideReaderModel") (As := [.ref (a 17), .int (mI (8 * x_rb)), .int (mI z_100)]) (rest := []) hx hb hml hown hts hK hP (rDt hD) (kr_X12_here_o_hName (l := l) (D := D) (k := k) (by omega) (by omega) (by omega)) ck_X12_here iv_X12_here uw_8_50 (rv_o hK hP) rfl hl.1 rfl (Nat.le_of_ble_eq_true rfl) dX12_readBeast_92 ⟨Nat.le_of_ble_eq_true rfl, Nat.le_of_ble_eq_true rfl⟩ ⟨Nat.le_of_ble_eq_true rfl, Nat.le_of_ble_eq_true rfl⟩) (fun r_101 H locs hQ hS => ?_)
      obtain ⟨hr_101_0, hP⟩ := hQ
      refine lv_istore_n (lv' := [(2, .int (mI r_101)), (1, .int (mI (8 * x_rb + z_1))), (0, .ref (a 0))]) hx hb dX12_readBeast_95 rfl hl (by decide) rfl (fun ls hl => ?_)
      refine lv_aload_n hx hb dX12_readBeast_96 rfl (lv_at hl 2 rfl) ?_
      refine rg_o_token hx hb hts hown hK hP uw_7_31 dX12_readBeast_97 ?_
      refine lv_iconst (v := mI 2) hx hb dX12_readBeast_100 rfl ?_
      refine sy_icmp_eq (tgt := 111) hx hb dX12_readBeast_101 (by decide) (by omega) (by decide) (fun c_102 => ?_) (fun c_102 => ?_)
      · skip
        refine lv_iload_n hx hb dX12_readBeast_111 rfl (lv_at hl 0 rfl) ?_
        refine sy_if_ge (tgt := 124) hx hb dX12_readBeast_112 (by decide) (by omega) (fun c_103 => ?_) (fun c_103 => ?_)
        · skip
          refine lv_aload_n hx hb dX12_readBeast_124 rfl (lv_at hl 2 rfl) ?_
          refine g_i (rDt hD) hS hA (g_V (own := "HideReaderModel") (As := []) (rest := []) hx hb hml hown hts hK hP (rDt hD) (kr_X12_isGood (l := l) (D := D) (k := k) (by omega)) ck_X12_isGood iv_X12_isGood uw_8_18 (rv_o hK hP) rfl hl.1 rfl (Nat.le_of_ble_eq_true rfl) dX12_readBeast_125 ⟨Nat.le_of_ble_eq_true rfl, Nat.le_of_ble_eq_true rfl⟩ ⟨Nat.le_of_ble_eq_true rfl, Nat.le_of_ble_eq_true rfl⟩) (fun r_104 H locs hQ hS => ?_)
          obtain ⟨hq_r_104, hP⟩ := hQ
          rcases hq_r_104 with ⟨rfl, c_105_0, c_105_1⟩ | ⟨rfl, c_106_0⟩
          exact False.elim (by omega)
          · skip
            refine sy_if_ne (tgt := 132) hx hb dX12_readBeast_128 (by decide) (by decide) (fun c_107 => ?_) (fun c9 => absurd c9 (by decide))
            refine lv_aload_n hx hb dX12_readBeast_132 rfl (lv_at hl 2 rfl) ?_
            refine rg_o_herdTold hx hb hts hown hK hP uw_7_44 dX12_readBeast_133 ?_
            refine lv_iload_n hx hb dX12_readBeast_136 rfl (lv_at hl 1 rfl) ?_
            refine lv_iload_n hx hb dX12_readBeast_137 rfl (lv_at hl 0 rfl) ?_
            refine rs_herdTold hx hb hK hP hD hS dX12_readBeast_138 (by omega) b_B_herdTold (by omega) (fun F_108 H locs _ bF_108 hP hS => ?_)
            refine lv_aload_n hx hb dX12_readBeast_139 rfl (lv_at hl 2 rfl) ?_
            refine g_v (rDt hD) hS hA (g_V (own := "HideReaderModel") (As := []) (rest := []) hx hb hml hown hts hK hP (rDt hD) (kr_X12_goOn (l := l) (D := D) (k := k) h_x_size (by omega) (by omega) b_B_text kr_87_E) ck_X12_goOn iv_X12_goOn uw_7_220 (rv_o hK hP) rfl hl.1 rfl (Nat.le_of_ble_eq_true rfl) dX12_readBeast_140 ⟨Nat.le_of_ble_eq_true rfl, Nat.le_of_ble_eq_true rfl⟩ ⟨Nat.le_of_ble_eq_true rfl, Nat.le_of_ble_eq_true rfl⟩) (fun H locs hQ hS => ?_)
            obtain ⟨y_110, y_111, y_112, y_113, j_114, hr_109_0, hr_109_1, hr_109_2, hr_109_3, hr_109_4, hr_109_5, kr_109_E, hP⟩ := hQ
            refine lv_aload_n hx hb dX12_readBeast_143 rfl (lv_at hl 2 rfl) ?_
            refine rg_o_born hx hb hts hown hK hP uw_7_45 dX12_readBeast_144 ?_
            refine lv_iload_n hx hb dX12_readBeast_147 rfl (lv_at hl 1 rfl) ?_
            refine lv_aload_n hx hb dX12_readBeast_148 rfl (lv_at hl 2 rfl) ?_
            refine lv_ldc2 (own := "HideReaderModel") (v := 1651470958) hx hb hown (hts _ uw_8_1) dX12_readBeast_149 ?_
            refine g_i (rDt hD) hS hA (g_V (own := "HideReaderModel") (As := [.long 1651470958]) (rest := [.int (mI (8 * x_rb + z_1)), .ref (a 14)]) hx hb hml hown hts hK hP (rDt hD) (kr_X12_isWord (l := l) (D := D) (k := k) (by omega)) ck_X12_isWord iv_X12_isWord uw_8_30 (rv_o hK hP) rfl hl.1 rfl (Nat.le_of_ble_eq_true rfl) dX12_readBeast_152 ⟨Nat.le_of_ble_eq_true rfl, Nat.le_of_ble_eq_true rfl⟩ ⟨Nat.le_of_ble_eq_true rfl, Nat.le_of_ble_eq_true rfl⟩) (fun r_115 H locs hQ hS => ?_)
            obtain ⟨hq_r_115, hP⟩ := hQ
            rcases hq_r_115 with ⟨rfl, c_116_0, c_116_1⟩ | ⟨rfl, c_117_0, c_117_1⟩
            · skip
              refine sy_if_eq (tgt := 171) hx hb dX12_readBeast_155 (by decide) (by decide) (fun c_119 => ?_) (fun c9 => absurd c9 (by decide))
              refine lv_iconst (v := mI 0) hx hb dX12_readBeast_171 rfl ?_
              refine rs_born hx hb hK hP hD hS dX12_readBeast_172 (by omega) b_B_born (by omega) (fun F_120 H locs _ bF_120 hP hS => ?_)
              refine lv_aload_n hx hb dX12_readBeast_173 rfl (lv_at hl 2 rfl) ?_
              refine rg_o_beasts hx hb hts hown hK hP uw_7_37 dX12_readBeast_174 ?_
              refine lv_aload_n hx hb dX12_readBeast_177 rfl (lv_at hl 2 rfl) ?_
              refine rg_o_rb hx hb hts hown hK hP uw_7_57 dX12_readBeast_178 ?_
              refine lv_dup2_11 hx hb dX12_readBeast_181 rfl rfl ?_
              refine rl_beasts hx hb hK hP dX12_readBeast_182 (by omega) b_B_beasts (fun z_121 ez_121 hz_121 => ?_)
              refine lv_iconst (v := mI 1) hx hb dX12_readBeast_183 rfl ?_
              refine sy_iadd hx hb dX12_readBeast_184 (z_121 + 1) rfl ?_
              refine rs_beasts hx hb hK hP hD hS dX12_readBeast_185 (by omega) b_B_beasts (by omega) (fun F_122 H locs _ bF_122 hP hS => ?_)
              exact r_v hx hb hr hlocks dX12_readBeast_186 hS ⟨y_88, y_89, y_110, y_111, y_112, y_113, j_114, F_122, F_108, F_120, F_12, by omega, by omega, by omega, by omega, by omega, by omega, bF_122, bF_108, bF_120, by omega, by omega, by omega, by omega, kr_109_E, hP⟩
            · skip
              refine sy_if_eq (tgt := 171) hx hb dX12_readBeast_155 (by decide) (by decide) (fun c9 => absurd c9 (by decide)) (fun c_132 => ?_)
              refine lv_aload_n hx hb dX12_readBeast_158 rfl (lv_at hl 2 rfl) ?_
              refine lv_ldc2 (own := "HideReaderModel") (v := 1651470958) hx hb hown (hts _ uw_8_1) dX12_readBeast_159 ?_
              refine lv_iconst (v := mI 0) hx hb dX12_readBeast_162 rfl ?_
              refine lv_bipush (v := mI 99) hx hb dX12_readBeast_163 (by decide) ?_
              refine g_i (rDt hD) hS hA (g_V (own := "HideReaderModel") (As := [.long 1651470958, .int (mI 0), .int (mI 99)]) (rest := [.int (mI (8 * x_rb + z_1)), .ref (a 14)]) hx hb hml hown hts hK hP (rDt hD) (kr_X12_after (l := l) (D := D) (k := k) (by decide) (by decide) h_x_size (by omega) (by omega) (by omega) (by omega) (by omega) (by omega) b_B_text kr_109_E) ck_X12_after iv_X12_after uw_8_70 (rv_o hK hP) rfl hl.1 rfl (Nat.le_of_ble_eq_true rfl) dX12_readBeast_165 ⟨Nat.le_of_ble_eq_true rfl, Nat.le_of_ble_eq_true rfl⟩ ⟨Nat.le_of_ble_eq_true rfl, Nat.le_of_ble_eq_true rfl⟩) (fun r_133 H locs hQ hS => ?_)
              obtain ⟨y_134, y_135, y_136, y_137, y_138, y_139, j_140, hr_133_0, hr_133_1, hr_133_2, hr_133_3, hr_133_4, hr_133_5, hr_133_6, hr_133_7, hr_133_8, hr_133_9, hr_133_10, kr_133_E, hP⟩ := hQ
              refine lv_goto (tgt := 172) hx hb dX12_readBeast_168 (by decide) ?_
              refine rs_born hx hb hK hP hD hS dX12_readBeast_172 (by omega) b_B_born (by omega) (fun F_141 H locs _ bF_141 hP hS => ?_)
              refine lv_aload_n hx hb dX12_readBeast_173 rfl (lv_at hl 2 rfl) ?_
              refine rg_o_beasts hx hb hts hown hK hP uw_7_37 dX12_readBeast_174 ?_
              refine lv_aload_n hx hb dX12_readBeast_177 rfl (lv_at hl 2 rfl) ?_
              refine rg_o_rb hx hb hts hown hK hP uw_7_57 dX12_readBeast_178 ?_
              refine lv_dup2_11 hx hb dX12_readBeast_181 rfl rfl ?_
              refine rl_beasts hx hb hK hP dX12_readBeast_182 (by omega) b_B_beasts (fun z_142 ez_142 hz_142 => ?_)
              refine lv_iconst (v := mI 1) hx hb dX12_readBeast_183 rfl ?_
              refine sy_iadd hx hb dX12_readBeast_184 (z_142 + 1) rfl ?_
              refine rs_beasts hx hb hK hP hD hS dX12_readBeast_185 (by omega) b_B_beasts (by omega) (fun F_143 H locs _ bF_143 hP hS => ?_)
              exact r_v hx hb hr hlocks dX12_readBeast_186 hS ⟨y_134, y_135, y_136, y_137, y_138, y_139, j_140, F_143, F_108, F_141, F_12, by omega, by omega, by omega, by omega, by omega, by omega, bF_143, bF_108, bF_141, by omega, by omega, by omega, by omega, kr_133_E, hP⟩
        · skip
          refine lv_aload_n hx hb dX12_readBeast_115 rfl (lv_at hl 2 rfl) ?_
          refine lv_iconst (v := mI 5) hx hb dX12_readBeast_116 rfl ?_
          refine lv_aload_n hx hb dX12_readBeast_117 rfl (lv_at hl 2 rfl) ?_
          refine rg_o_at hx hb hts hown hK hP uw_7_29 dX12_readBeast_118 ?_
          refine g_v (rDt hD) hS hA (g_V (own := "HideReaderModel") (As := [.int (mI 5), .int (mI y_90)]) (rest := []) hx hb hml hown hts hK hP (rDt hD) (kr_X12_fails (l := l) (D := D) (k := k) (by decide) (by omega) (by omega) (by omega)) ck_X12_fails iv_X12_fails uw_8_38 (rv_o hK hP) rfl hl.1 rfl (Nat.le_of_ble_eq_true rfl) dX12_readBeast_121 ⟨Nat.le_of_ble_eq_true rfl, Nat.le_of_ble_eq_true rfl⟩ ⟨Nat.le_of_ble_eq_true rfl, Nat.le_of_ble_eq_true rfl⟩) (fun H locs hQ hS => ?_)
          obtain ⟨y_145, y_146, hr_144_0, hr_144_1, hr_144_2, hP⟩ := hQ
          refine lv_aload_n hx hb dX12_readBeast_124 rfl (lv_at hl 2 rfl) ?_
          refine g_i (rDt hD) hS hA (g_V (own := "HideReaderModel") (As := []) (rest := []) hx hb hml hown hts hK hP (rDt hD) (kr_X12_isGood (l := l) (D := D) (k := k) (by omega)) ck_X12_isGood iv_X12_isGood uw_8_18 (rv_o hK hP) rfl hl.1 rfl (Nat.le_of_ble_eq_true rfl) dX12_readBeast_125 ⟨Nat.le_of_ble_eq_true rfl, Nat.le_of_ble_eq_true rfl⟩ ⟨Nat.le_of_ble_eq_true rfl, Nat.le_of_ble_eq_true rfl⟩) (fun r_147 H locs hQ hS => ?_)
          obtain ⟨hq_r_147, hP⟩ := hQ
          rcases hq_r_147 with ⟨rfl, c_148_0, c_148_1⟩ | ⟨rfl, c_149_0⟩
          · skip
            refine sy_if_ne (tgt := 132) hx hb dX12_readBeast_128 (by decide) (by decide) (fun c9 => absurd c9 (by decide)) (fun c_150 => ?_)
            exact r_v hx hb hr hlocks dX12_readBeast_131 hS ⟨y_145, y_146, y_90, y_91, y_92, y_93, j_94, B_beasts, B_herdTold, B_born, F_12, by omega, by omega, by omega, by omega, by omega, by omega, b_B_beasts, b_B_herdTold, b_B_born, by omega, by omega, by omega, by omega, kr_87_E, hP⟩
          exact False.elim (by omega)
      · skip
        refine lv_aload_n hx hb dX12_readBeast_104 rfl (lv_at hl 2 rfl) ?_
        refine g_v (rDt hD) hS hA (g_V (own := "HideReaderModel") (As := []) (rest := []) hx hb hml hown hts hK hP (rDt hD) (kr_X12_misplaced (l := l) (D := D) (k := k) (by omega) (by omega) (by omega) (by omega)) ck_X12_misplaced iv_X12_misplaced uw_8_34 (rv_o hK hP) rfl hl.1 rfl (Nat.le_of_ble_eq_true rfl) dX12_readBeast_105 ⟨Nat.le_of_ble_eq_true rfl, Nat.le_of_ble_eq_true rfl⟩ ⟨Nat.le_of_ble_eq_true rfl, Nat.le_of_ble_eq_true rfl⟩) (fun H locs hQ hS => ?_)
        obtain ⟨y_152, y_153, hr_151_0, hr_151_1, hr_151_2, hP⟩ := hQ
        refine lv_goto (tgt := 124) hx hb dX12_readBeast_108 (by decide) ?_
        refine lv_aload_n hx hb dX12_readBeast_124 rfl (lv_at hl 2 rfl) ?_
        refine g_i (rDt hD) hS hA (g_V (own := "HideReaderModel") (As := []) (rest := []) hx hb hml hown hts hK hP (rDt hD) (kr_X12_isGood (l := l) (D := D) (k := k) (by omega)) ck_X12_isGood iv_X12_isGood uw_8_18 (rv_o hK hP) rfl hl.1 rfl (Nat.le_of_ble_eq_true rfl) dX12_readBeast_125 ⟨Nat.le_of_ble_eq_true rfl, Nat.le_of_ble_eq_true rfl⟩ ⟨Nat.le_of_ble_eq_true rfl, Nat.le_of_ble_eq_true rfl⟩) (fun r_154 H locs hQ hS => ?_)
        obtain ⟨hq_r_154, hP⟩ := hQ
        rcases hq_r_154 with ⟨rfl, c_155_0, c_155_1⟩ | ⟨rfl, c_156_0⟩
        · skip
          refine sy_if_ne (tgt := 132) hx hb dX12_readBeast_128 (by decide) (by decide) (fun c9 => absurd c9 (by decide)) (fun c_157 => ?_)
          exact r_v hx hb hr hlocks dX12_readBeast_131 hS ⟨y_152, y_153, y_90, y_91, y_92, y_93, j_94, B_beasts, B_herdTold, B_born, F_12, by omega, by omega, by omega, by omega, by omega, by omega, b_B_beasts, b_B_herdTold, b_B_born, by omega, by omega, by omega, by omega, kr_87_E, hP⟩
        exact False.elim (by omega)
set_option maxHeartbeats 4000000 in
set_option maxRecDepth 100000 in
theorem kr_X12_pushE {p0 p1 : Int} (hp0 : 1 ≤ p0 ∧ p0 ≤ 8) (hp1 : -2147483648 ≤ p1 ∧ p1 ≤ 2147483647) (h_x_piled : 0 ≤ x_piled ∧ x_piled ≤ 89) (b_B_eWhat : bd (0) 8 B_eWhat) (b_B_eSign : bd (-2147483648) 2147483647 B_eSign) : MetG l D k yX12_pushE cX12_pushE 3 none 0 [.ref (a 0), .int (mI p0), .int (mI p1)] (rW k a x_taped x_size x_faultKind x_faultPlace x_at x_end x_token x_number x_bank x_rb x_codes x_within x_piled x_unitsInRule x_askBeast x_askStroke x_askAge x_askSeason x_acts x_undone x_laid x_seens x_time x_fitting n_name B_tape B_text B_turns B_herds B_irons B_beasts B_units B_night B_draw B_told B_brands B_ironMarks B_herdTold B_born B_ruleFrom B_ruleTo B_code B_codeNumber B_eWhat B_eSign B_pile B_all B_burned B_was B_need B_laidRow B_long8 B_brings B_sBurning B_sStroke B_sIs B_sTold B_sUntold B_parts B_boxAll B_isBoxed G_hName G_iName G_bName ex) (qGv (fun H => ∃ (F_eWhat : Nat → Int) (F_eSign : Nat → Int) (y_piled : Int), (bd (0) 8 F_eWhat) ∧ (bd (-2147483648) 2147483647 F_eSign) ∧ (1 ≤ y_piled ∧ y_piled ≤ 90) ∧ (0 ≤ y_piled - x_piled) ∧ (y_piled = x_piled + 1) ∧ (F_eWhat = ud B_eWhat x_piled.toNat p0) ∧ (F_eSign = ud B_eSign x_piled.toNat p1) ∧ va_P D vwCl (rW k a x_taped x_size x_faultKind x_faultPlace x_at x_end x_token x_number x_bank x_rb x_codes x_within y_piled x_unitsInRule x_askBeast x_askStroke x_askAge x_askSeason x_acts x_undone x_laid x_seens x_time x_fitting n_name B_tape B_text B_turns B_herds B_irons B_beasts B_units B_night B_draw B_told B_brands B_ironMarks B_herdTold B_born B_ruleFrom B_ruleTo B_code B_codeNumber F_eWhat F_eSign B_pile B_all B_burned B_was B_need B_laidRow B_long8 B_brings B_sBurning B_sStroke B_sIs B_sTold B_sUntold B_parts B_boxAll B_isBoxed G_hName G_iName G_bName ex) H)) := by
  refine metG_of 2 ck_X12_pushE (Nat.le_of_ble_eq_true rfl) rMap (fun p e s m args below meth c A hx hb hml hr hlocks hown hts hK hD hA hP hS ls hl => ?_)
  have hown : s.vm.findClass "HideReaderModel" = some m.cls := hown
  have hl : lv_has ls 3 [(0, .ref (a 0)), (1, .int (mI p0)), (2, .int (mI p1))] := hl
  refine lv_aload_n hx hb dX12_pushE_0 rfl (lv_at hl 0 rfl) ?_
  refine rg_o_eWhat hx hb hts hown hK hP uw_7_53 dX12_pushE_1 ?_
  refine lv_aload_n hx hb dX12_pushE_4 rfl (lv_at hl 0 rfl) ?_
  refine rg_o_piled hx hb hts hown hK hP uw_7_60 dX12_pushE_5 ?_
  refine lv_iload_n hx hb dX12_pushE_8 rfl (lv_at hl 1 rfl) ?_
  refine rs_eWhat hx hb hK hP hD hS dX12_pushE_9 (by omega) b_B_eWhat (by omega) (fun F_1 H locs eF_1 bF_1 hP hS => ?_)
  refine lv_aload_n hx hb dX12_pushE_10 rfl (lv_at hl 0 rfl) ?_
  refine rg_o_eSign hx hb hts hown hK hP uw_7_54 dX12_pushE_11 ?_
  refine lv_aload_n hx hb dX12_pushE_14 rfl (lv_at hl 0 rfl) ?_
  refine rg_o_piled hx hb hts hown hK hP uw_7_60 dX12_pushE_15 ?_
  refine lv_iload_n hx hb dX12_pushE_18 rfl (lv_at hl 2 rfl) ?_
  refine rs_eSign hx hb hK hP hD hS dX12_pushE_19 (by omega) b_B_eSign (by omega) (fun F_2 H locs eF_2 bF_2 hP hS => ?_)
  refine lv_aload_n hx hb dX12_pushE_20 rfl (lv_at hl 0 rfl) ?_
  refine lv_dup hx hb dX12_pushE_21 rfl ?_
  refine rg_o_piled hx hb hts hown hK hP uw_7_60 dX12_pushE_22 ?_
  refine lv_iconst (v := mI 1) hx hb dX12_pushE_25 rfl ?_
  refine sy_iadd hx hb dX12_pushE_26 (x_piled + 1) rfl ?_
  refine rp_o_piled hx hb hts hown hK hP hD hS uw_7_60 dX12_pushE_27 (fun H locs hP hS => ?_)
  exact r_v hx hb hr hlocks dX12_pushE_30 hS ⟨F_1, F_2, (x_piled + 1), bF_1, bF_2, by omega, by omega, by omega, eF_1, eF_2, hP⟩
set_option maxHeartbeats 4000000 in
set_option maxRecDepth 100000 in
theorem kr_X12_emit {p0 p1 : Int} (hp0 : -2147483648 ≤ p0 ∧ p0 ≤ 2147483647) (hp1 : -2147483648 ≤ p1 ∧ p1 ≤ 2147483647) (h_x_bank : 0 ≤ x_bank ∧ x_bank ≤ 1) (h_x_rb : 0 ≤ x_rb ∧ x_rb ≤ 1) (h_x_codes : 0 ≤ x_codes ∧ x_codes ≤ 1119) (b_B_code : bd (-2147483648) 2147483647 B_code) (b_B_codeNumber : bd (-2147483648) 2147483647 B_codeNumber) (g_L : x_rb + x_bank = 1) (g_Q : rQ x_bank B_told B_ruleFrom B_ruleTo B_code) (hr0 : 0 ≤ x_codes - 560 * x_rb) (hr1 : 0 ≤ 560 * x_rb - x_codes + 559) : MetG l D k yX12_emit cX12_emit 3 none 0 [.ref (a 0), .int (mI p0), .int (mI p1)] (rW k a x_taped x_size x_faultKind x_faultPlace x_at x_end x_token x_number x_bank x_rb x_codes x_within x_piled x_unitsInRule x_askBeast x_askStroke x_askAge x_askSeason x_acts x_undone x_laid x_seens x_time x_fitting n_name B_tape B_text B_turns B_herds B_irons B_beasts B_units B_night B_draw B_told B_brands B_ironMarks B_herdTold B_born B_ruleFrom B_ruleTo B_code B_codeNumber B_eWhat B_eSign B_pile B_all B_burned B_was B_need B_laidRow B_long8 B_brings B_sBurning B_sStroke B_sIs B_sTold B_sUntold B_parts B_boxAll B_isBoxed G_hName G_iName G_bName ex) (qGv (fun H => ∃ (F_code : Nat → Int) (F_codeNumber : Nat → Int) (y_codes : Int), (bd (-2147483648) 2147483647 F_code) ∧ (bd (-2147483648) 2147483647 F_codeNumber) ∧ (1 ≤ y_codes ∧ y_codes ≤ 1120) ∧ (0 ≤ y_codes - x_codes) ∧ (y_codes = x_codes + 1) ∧ (F_code = ud B_code x_codes.toNat p0) ∧ (rQ x_bank B_told B_ruleFrom B_ruleTo F_code) ∧ va_P D vwCl (rW k a x_taped x_size x_faultKind x_faultPlace x_at x_end x_token x_number x_bank x_rb y_codes x_within x_piled x_unitsInRule x_askBeast x_askStroke x_askAge x_askSeason x_acts x_undone x_laid x_seens x_time x_fitting n_name B_tape B_text B_turns B_herds B_irons B_beasts B_units B_night B_draw B_told B_brands B_ironMarks B_herdTold B_born B_ruleFrom B_ruleTo F_code F_codeNumber B_eWhat B_eSign B_pile B_all B_burned B_was B_need B_laidRow B_long8 B_brings B_sBurning B_sStroke B_sIs B_sTold B_sUntold B_parts B_boxAll B_isBoxed G_hName G_iName G_bName ex) H)) := by
  refine metG_of 2 ck_X12_emit (Nat.le_of_ble_eq_true rfl) rMap (fun p e s m args below meth c A hx hb hml hr hlocks hown hts hK hD hA hP hS ls hl => ?_)
  have hown : s.vm.findClass "HideReaderModel" = some m.cls := hown
  have hl : lv_has ls 3 [(0, .ref (a 0)), (1, .int (mI p0)), (2, .int (mI p1))] := hl
  refine lv_aload_n hx hb dX12_emit_0 rfl (lv_at hl 0 rfl) ?_
  refine rg_o_code hx hb hts hown hK hP uw_7_51 dX12_emit_1 ?_
  refine lv_aload_n hx hb dX12_emit_4 rfl (lv_at hl 0 rfl) ?_
  refine rg_o_codes hx hb hts hown hK hP uw_7_58 dX12_emit_5 ?_
  refine lv_iload_n hx hb dX12_emit_8 rfl (lv_at hl 1 rfl) ?_
  refine rs_code hx hb hK hP hD hS dX12_emit_9 (by omega) b_B_code (by omega) (fun F_1 H locs eF_1 bF_1 hP hS => ?_)
  have g_2 := rQ_code g_Q eF_1 (by omega) (by omega)
  refine lv_aload_n hx hb dX12_emit_10 rfl (lv_at hl 0 rfl) ?_
  refine rg_o_codeNumber hx hb hts hown hK hP uw_7_52 dX12_emit_11 ?_
  refine lv_aload_n hx hb dX12_emit_14 rfl (lv_at hl 0 rfl) ?_
  refine rg_o_codes hx hb hts hown hK hP uw_7_58 dX12_emit_15 ?_
  refine lv_iload_n hx hb dX12_emit_18 rfl (lv_at hl 2 rfl) ?_
  refine rs_codeNumber hx hb hK hP hD hS dX12_emit_19 (by omega) b_B_codeNumber (by omega) (fun F_3 H locs eF_3 bF_3 hP hS => ?_)
  refine lv_aload_n hx hb dX12_emit_20 rfl (lv_at hl 0 rfl) ?_
  refine lv_dup hx hb dX12_emit_21 rfl ?_
  refine rg_o_codes hx hb hts hown hK hP uw_7_58 dX12_emit_22 ?_
  refine lv_iconst (v := mI 1) hx hb dX12_emit_25 rfl ?_
  refine sy_iadd hx hb dX12_emit_26 (x_codes + 1) rfl ?_
  refine rp_o_codes hx hb hts hown hK hP hD hS uw_7_58 dX12_emit_27 (fun H locs hP hS => ?_)
  exact r_v hx hb hr hlocks dX12_emit_30 hS ⟨F_1, F_3, (x_codes + 1), bF_1, bF_3, by omega, by omega, by omega, eF_1, g_2, hP⟩
set_option maxHeartbeats 4000000 in
set_option maxRecDepth 100000 in
theorem kr_X12_unit (h_x_size : 0 ≤ x_size ∧ x_size ≤ 1600) (h_x_faultKind : 0 ≤ x_faultKind ∧ x_faultKind ≤ 0) (h_x_faultPlace : -1 ≤ x_faultPlace ∧ x_faultPlace ≤ 1600) (h_x_at : 0 ≤ x_at ∧ x_at ≤ 1600) (h_x_end : 0 ≤ x_end ∧ x_end ≤ 1600) (h_x_token : 0 ≤ x_token ∧ x_token ≤ 5) (h_x_number : -2147483648 ≤ x_number ∧ x_number ≤ 2147483647) (h_x_bank : 0 ≤ x_bank ∧ x_bank ≤ 1) (h_x_rb : 0 ≤ x_rb ∧ x_rb ≤ 1) (h_x_codes : 0 ≤ x_codes ∧ x_codes ≤ 1119) (h_x_within : 0 ≤ x_within ∧ x_within ≤ 7) (h_x_piled : 1 ≤ x_piled ∧ x_piled ≤ 60) (h_x_unitsInRule : 0 ≤ x_unitsInRule ∧ x_unitsInRule ≤ 30) (b_B_text : bd (-128) 127 B_text) (b_B_units : bd (0) 60 B_units) (b_B_code : bd (-2147483648) 2147483647 B_code) (b_B_codeNumber : bd (-2147483648) 2147483647 B_codeNumber) (b_B_eWhat : bd (0) 8 B_eWhat) (b_B_eSign : bd (-2147483648) 2147483647 B_eSign) (g_E : x_end ≤ x_size) (g_L : x_rb + x_bank = 1) (g_Q : rQ x_bank B_told B_ruleFrom B_ruleTo B_code) {c0 : Int} (gW : eI 1 c0 x_codes x_piled x_within x_unitsInRule B_code B_eWhat B_eSign) (hY : (0 ≤ 560 * x_rb + 9 * B_units x_rb.toNat - 9 * x_unitsInRule - c0 ∧ 560 * x_rb ≤ c0)) : MetG l D k yX12_unit cX12_unit 7 (some .boolean) 2 [.ref (a 0)] (rW k a x_taped x_size x_faultKind x_faultPlace x_at x_end x_token x_number x_bank x_rb x_codes x_within x_piled x_unitsInRule x_askBeast x_askStroke x_askAge x_askSeason x_acts x_undone x_laid x_seens x_time x_fitting n_name B_tape B_text B_turns B_herds B_irons B_beasts B_units B_night B_draw B_told B_brands B_ironMarks B_herdTold B_born B_ruleFrom B_ruleTo B_code B_codeNumber B_eWhat B_eSign B_pile B_all B_burned B_was B_need B_laidRow B_long8 B_brings B_sBurning B_sStroke B_sIs B_sTold B_sUntold B_parts B_boxAll B_isBoxed G_hName G_iName G_bName ex) (qGi (fun r0 H => ∃ (y_faultKind : Int) (y_faultPlace : Int) (y_at : Int) (y_end : Int) (y_token : Int) (y_number : Int) (j_name : Int64) (F_units : Nat → Int) (F_code : Nat → Int) (F_codeNumber : Nat → Int) (F_eWhat : Nat → Int) (F_eSign : Nat → Int) (y_codes : Int) (y_within : Int) (y_piled : Int) (y_unitsInRule : Int), (0 ≤ r0 ∧ r0 ≤ 1) ∧ (0 ≤ y_faultKind ∧ y_faultKind ≤ 5) ∧ (-1 ≤ y_faultPlace ∧ y_faultPlace ≤ 1600) ∧ (0 ≤ y_at ∧ y_at ≤ 1600) ∧ (0 ≤ y_end ∧ y_end ≤ 1600) ∧ (0 ≤ y_token ∧ y_token ≤ 5) ∧ (-2147483648 ≤ y_number ∧ y_number ≤ 2147483647) ∧ (bd (0) 60 F_units) ∧ (bd (-2147483648) 2147483647 F_code) ∧ (bd (-2147483648) 2147483647 F_codeNumber) ∧ (bd (0) 8 F_eWhat) ∧ (bd (-2147483648) 2147483647 F_eSign) ∧ (0 ≤ y_codes ∧ y_codes ≤ 1120) ∧ (0 ≤ y_within ∧ y_within ≤ 7) ∧ (1 ≤ y_piled ∧ y_piled ≤ 61) ∧ (0 ≤ y_unitsInRule ∧ y_unitsInRule ≤ 30) ∧ (0 ≤ y_faultKind - x_faultKind) ∧ (0 ≤ y_end - x_end) ∧ (0 ≤ y_codes - x_codes) ∧ (0 ≤ y_within - x_within) ∧ (0 ≤ y_piled - x_piled) ∧ (0 ≤ y_unitsInRule - x_unitsInRule) ∧ (eSt y_faultKind r0 c0 y_codes y_piled y_within y_unitsInRule F_code F_eWhat F_eSign) ∧ ((0 ≤ 560 * x_rb + 9 * F_units x_rb.toNat - 9 * y_unitsInRule - c0 ∧ 560 * x_rb ≤ c0)) ∧ (y_faultKind ≤ 0 ∨ (y_piled ≤ x_piled ∧ y_token = x_token ∧ y_end = x_end)) ∧ (1 ≤ y_faultKind ∨ (1 ≤ x_token ∧ (y_token ≤ 0 ∨ x_end + 1 ≤ y_end) ∧ y_piled ≤ x_piled + 1)) ∧ (y_end ≤ x_size) ∧ (rQ x_bank B_told B_ruleFrom B_ruleTo F_code) ∧ va_P D vwCl (rW k a x_taped x_size y_faultKind y_faultPlace y_at y_end y_token y_number x_bank x_rb y_codes y_within y_piled y_unitsInRule x_askBeast x_askStroke x_askAge x_askSeason x_acts x_undone x_laid x_seens x_time x_fitting j_name B_tape B_text B_turns B_herds B_irons B_beasts F_units B_night B_draw B_told B_brands B_ironMarks B_herdTold B_born B_ruleFrom B_ruleTo F_code F_codeNumber F_eWhat F_eSign B_pile B_all B_burned B_was B_need B_laidRow B_long8 B_brings B_sBurning B_sStroke B_sIs B_sTold B_sUntold B_parts B_boxAll B_isBoxed G_hName G_iName G_bName ex) H)) := by
  refine metG_of 0 ck_X12_unit (Nat.le_of_ble_eq_true rfl) rMap (fun p e s m args below meth c A hx hb hml hr hlocks hown hts hK hD hA hP hS ls hl => ?_)
  have hown : s.vm.findClass "HideReaderModel" = some m.cls := hown
  have hl : lv_has ls 7 [(0, .ref (a 0))] := hl
  have hgb := eI_b gW
  have hub := b_B_units x_rb.toNat
  have hcl : 560 * x_rb ≤ x_codes ∧ x_codes ≤ 560 * x_rb + 559 := by omega
  refine lv_aload_n hx hb dX12_unit_0 rfl (lv_at hl 0 rfl) ?_
  refine rg_o_eWhat hx hb hts hown hK hP uw_7_53 dX12_unit_1 ?_
  refine lv_aload_n hx hb dX12_unit_4 rfl (lv_at hl 0 rfl) ?_
  refine rg_o_piled hx hb hts hown hK hP uw_7_60 dX12_unit_5 ?_
  refine lv_iconst (v := mI 1) hx hb dX12_unit_8 rfl ?_
  refine sy_isub hx hb dX12_unit_9 (x_piled - 1) rfl ?_
  refine rl_eWhat hx hb hK hP dX12_unit_10 (by omega) b_B_eWhat (fun z_1 ez_1 hz_1 => ?_)
  refine lv_iconst (v := mI 3) hx hb dX12_unit_11 rfl ?_
  refine sy_join (I := fun H locs g => ∃ (z_5 : Int) (ls : Array Slot), (0 ≤ z_5 ∧ z_5 ≤ 1) ∧ va_P D vwCl (rW k a x_taped x_size x_faultKind x_faultPlace x_at x_end x_token x_number x_bank x_rb x_codes x_within x_piled x_unitsInRule x_askBeast x_askStroke x_askAge x_askSeason x_acts x_undone x_laid x_seens x_time x_fitting n_name B_tape B_text B_turns B_herds B_irons B_beasts B_units B_night B_draw B_told B_brands B_ironMarks B_herdTold B_born B_ruleFrom B_ruleTo B_code B_codeNumber B_eWhat B_eSign B_pile B_all B_burned B_was B_need B_laidRow B_long8 B_brings B_sBurning B_sStroke B_sIs B_sTold B_sUntold B_parts B_boxAll B_isBoxed G_hName G_iName G_bName ex) H ∧ va_S A s.heap H locs ∧ lv_has ls 7 [(0, .ref (a 0))] ∧ g = F0 m 36 ls [.int (mI z_5)]) ?_ ?_
  · skip
    intro H locs g hI
    obtain ⟨z_5, ls, h36_0, hP, hS, hl, rfl⟩ := hI
    refine lv_istore_n (lv' := [(1, .int (mI z_5)), (0, .ref (a 0))]) hx hb dX12_unit_36 rfl hl (by decide) rfl (fun ls hl => ?_)
    refine lv_iload_n hx hb dX12_unit_37 rfl (lv_at hl 0 rfl) ?_
    refine sy_join (I := fun H locs g => ∃ (z_13 : Int) (ls : Array Slot), (0 ≤ z_13 ∧ z_13 ≤ 1) ∧ (z_13 ≤ 0 ∨ x_token = 3) ∧ va_P D vwCl (rW k a x_taped x_size x_faultKind x_faultPlace x_at x_end x_token x_number x_bank x_rb x_codes x_within x_piled x_unitsInRule x_askBeast x_askStroke x_askAge x_askSeason x_acts x_undone x_laid x_seens x_time x_fitting n_name B_tape B_text B_turns B_herds B_irons B_beasts B_units B_night B_draw B_told B_brands B_ironMarks B_herdTold B_born B_ruleFrom B_ruleTo B_code B_codeNumber B_eWhat B_eSign B_pile B_all B_burned B_was B_need B_laidRow B_long8 B_brings B_sBurning B_sStroke B_sIs B_sTold B_sUntold B_parts B_boxAll B_isBoxed G_hName G_iName G_bName ex) H ∧ va_S A s.heap H locs ∧ lv_has ls 7 [(1, .int (mI z_5)), (0, .ref (a 0))] ∧ g = F0 m 56 ls [.int (mI z_13)]) ?_ ?_
    · skip
      intro H locs g hI
      obtain ⟨z_13, ls, h56_0, h56_1, hP, hS, hl, rfl⟩ := hI
      refine lv_istore_n (lv' := [(2, .int (mI z_13)), (1, .int (mI z_5)), (0, .ref (a 0))]) hx hb dX12_unit_56 rfl hl (by decide) rfl (fun ls hl => ?_)
      refine lv_aload_n hx hb dX12_unit_57 rfl (lv_at hl 2 rfl) ?_
      refine lv_bipush (v := mI 40) hx hb dX12_unit_58 (by decide) ?_
      refine g_i (rDt hD) hS hA (g_V (own := "HideReaderModel") (As := [.int (mI 40)]) (rest := []) hx hb hml hown hts hK hP (rDt hD) (kr_X12_isSignHere (l := l) (D := D) (k := k) (by decide) h_x_size h_x_at h_x_token b_B_text) ck_X12_isSignHere iv_X12_isSignHere uw_8_90 (rv_o hK hP) rfl hl.1 rfl (Nat.le_of_ble_eq_true rfl) dX12_unit_60 ⟨Nat.le_of_ble_eq_true rfl, Nat.le_of_ble_eq_true rfl⟩ ⟨Nat.le_of_ble_eq_true rfl, Nat.le_of_ble_eq_true rfl⟩) (fun r_15 H locs hQ hS => ?_)
      obtain ⟨hq_r_15, hP⟩ := hQ
      rcases hq_r_15 with ⟨rfl, c_16_0⟩ | ⟨rfl, c_17_0, c_17_1, c_17_2⟩
      · skip
        refine lv_istore_n (lv' := [(3, .int (mI 0)), (2, .int (mI z_13)), (1, .int (mI z_5)), (0, .ref (a 0))]) hx hb dX12_unit_63 rfl hl (by decide) rfl (fun ls hl => ?_)
        refine lv_aload_n hx hb dX12_unit_64 rfl (lv_at hl 3 rfl) ?_
        refine g_i (rDt hD) hS hA (g_V (own := "HideReaderModel") (As := []) (rest := []) hx hb hml hown hts hK hP (rDt hD) (kr_X12_wordHere (l := l) (D := D) (k := k) h_x_token) ck_X12_wordHere iv_X12_wordHere uw_8_94 (rv_o hK hP) rfl hl.1 rfl (Nat.le_of_ble_eq_true rfl) dX12_unit_65 ⟨Nat.le_of_ble_eq_true rfl, Nat.le_of_ble_eq_true rfl⟩ ⟨Nat.le_of_ble_eq_true rfl, Nat.le_of_ble_eq_true rfl⟩) (fun r_18 H locs hQ hS => ?_)
        obtain ⟨hr_18_0, hr_18_1, hP⟩ := hQ
        refine lv_istore (lv' := [(4, .int (mI r_18)), (3, .int (mI 0)), (2, .int (mI z_13)), (1, .int (mI z_5)), (0, .ref (a 0))]) hx hb dX12_unit_68 hl (by decide) rfl (fun ls hl => ?_)
        refine lv_aload_n hx hb dX12_unit_70 rfl (lv_at hl 4 rfl) ?_
        refine rg_o_units hx hb hts hown hK hP uw_7_38 dX12_unit_71 ?_
        refine lv_aload_n hx hb dX12_unit_74 rfl (lv_at hl 4 rfl) ?_
        refine rg_o_rb hx hb hts hown hK hP uw_7_57 dX12_unit_75 ?_
        refine rl_units hx hb hK hP dX12_unit_78 (by omega) b_B_units (fun z_19 ez_19 hz_19 => ?_)
        refine lv_bipush (v := mI 60) hx hb dX12_unit_79 (by decide) ?_
        refine sy_join (I := fun H locs g => ∃ (z_22 : Int) (ls : Array Slot), (0 ≤ z_22 ∧ z_22 ≤ 1) ∧ (1 ≤ z_22 ∨ (x_unitsInRule ≤ 29 ∧ z_19 ≤ 59)) ∧ va_P D vwCl (rW k a x_taped x_size x_faultKind x_faultPlace x_at x_end x_token x_number x_bank x_rb x_codes x_within x_piled x_unitsInRule x_askBeast x_askStroke x_askAge x_askSeason x_acts x_undone x_laid x_seens x_time x_fitting n_name B_tape B_text B_turns B_herds B_irons B_beasts B_units B_night B_draw B_told B_brands B_ironMarks B_herdTold B_born B_ruleFrom B_ruleTo B_code B_codeNumber B_eWhat B_eSign B_pile B_all B_burned B_was B_need B_laidRow B_long8 B_brings B_sBurning B_sStroke B_sIs B_sTold B_sUntold B_parts B_boxAll B_isBoxed G_hName G_iName G_bName ex) H ∧ va_S A s.heap H locs ∧ lv_has ls 7 [(4, .int (mI r_18)), (3, .int (mI 0)), (2, .int (mI z_13)), (1, .int (mI z_5)), (0, .ref (a 0))] ∧ g = F0 m 98 ls [.int (mI z_22)]) ?_ ?_
        · skip
          intro H locs g hI
          obtain ⟨z_22, ls, h98_0, h98_1, hP, hS, hl, rfl⟩ := hI
          refine lv_istore (lv' := [(5, .int (mI z_22)), (4, .int (mI r_18)), (3, .int (mI 0)), (2, .int (mI z_13)), (1, .int (mI z_5)), (0, .ref (a 0))]) hx hb dX12_unit_98 hl (by decide) rfl (fun ls hl => ?_)
          refine lv_iload_n hx hb dX12_unit_100 rfl (lv_at hl 3 rfl) ?_
          refine sy_if_ne (tgt := 126) hx hb dX12_unit_101 (by decide) (by omega) (fun c_24 => ?_) (fun c_24 => ?_)
          · skip
            refine lv_iload_n hx hb dX12_unit_126 rfl (lv_at hl 3 rfl) ?_
            refine sy_if_ne (tgt := 134) hx hb dX12_unit_127 (by decide) (by omega) (fun c_25 => ?_) (fun c9 => False.elim (by omega))
            refine lv_aload_n hx hb dX12_unit_134 rfl (lv_at hl 5 rfl) ?_
            refine rg_o_within hx hb hts hown hK hP uw_7_59 dX12_unit_135 ?_
            refine lv_bipush (v := mI 7) hx hb dX12_unit_138 (by decide) ?_
            refine sy_icmp_ne (tgt := 147) hx hb dX12_unit_140 (by decide) (by omega) (by decide) (fun c_26 => ?_) (fun c_26 => ?_)
            · skip
              refine lv_aload_n hx hb dX12_unit_147 rfl (lv_at hl 5 rfl) ?_
              refine g_i (rDt hD) hS hA (g_V (own := "HideReaderModel") (As := []) (rest := []) hx hb hml hown hts hK hP (rDt hD) (kr_X12_isGood (l := l) (D := D) (k := k) (by omega)) ck_X12_isGood iv_X12_isGood uw_8_18 (rv_o hK hP) rfl hl.1 rfl (Nat.le_of_ble_eq_true rfl) dX12_unit_148 ⟨Nat.le_of_ble_eq_true rfl, Nat.le_of_ble_eq_true rfl⟩ ⟨Nat.le_of_ble_eq_true rfl, Nat.le_of_ble_eq_true rfl⟩) (fun r_27 H locs hQ hS => ?_)
              obtain ⟨hq_r_27, hP⟩ := hQ
              rcases hq_r_27 with ⟨rfl, c_28_0, c_28_1⟩ | ⟨rfl, c_29_0⟩
              exact False.elim (by omega)
              · skip
                refine sy_if_ne (tgt := 156) hx hb dX12_unit_151 (by decide) (by decide) (fun c_30 => ?_) (fun c9 => absurd c9 (by decide))
                refine lv_aload_n hx hb dX12_unit_156 rfl (lv_at hl 5 rfl) ?_
                refine rg_o_units hx hb hts hown hK hP uw_7_38 dX12_unit_157 ?_
                refine lv_aload_n hx hb dX12_unit_160 rfl (lv_at hl 5 rfl) ?_
                refine rg_o_rb hx hb hts hown hK hP uw_7_57 dX12_unit_161 ?_
                refine lv_dup2_11 hx hb dX12_unit_164 rfl rfl ?_
                refine rl_units hx hb hK hP dX12_unit_165 (by omega) b_B_units (fun z_31 ez_31 hz_31 => ?_)
                refine lv_iload_n hx hb dX12_unit_166 rfl (lv_at hl 3 rfl) ?_
                refine sy_if_eq (tgt := 174) hx hb dX12_unit_167 (by decide) (by omega) (fun c9 => False.elim (by omega)) (fun c_32 => ?_)
                refine lv_iconst (v := mI 0) hx hb dX12_unit_170 rfl ?_
                refine lv_goto (tgt := 175) hx hb dX12_unit_171 (by decide) ?_
                refine sy_iadd hx hb dX12_unit_175 z_31 (by omega) ?_
                refine rs_units hx hb hK hP hD hS dX12_unit_176 (by omega) b_B_units (by omega) (fun F_33 H locs eF_33 bF_33 hP hS => ?_)
                have h_34 : F_33 x_rb.toNat = z_31 := by rw [eF_33, ud_s]
                refine lv_aload_n hx hb dX12_unit_177 rfl (lv_at hl 5 rfl) ?_
                refine lv_dup hx hb dX12_unit_178 rfl ?_
                refine rg_o_unitsInRule hx hb hts hown hK hP uw_7_61 dX12_unit_179 ?_
                refine lv_iload_n hx hb dX12_unit_182 rfl (lv_at hl 3 rfl) ?_
                refine sy_if_eq (tgt := 190) hx hb dX12_unit_183 (by decide) (by omega) (fun c9 => False.elim (by omega)) (fun c_35 => ?_)
                refine lv_iconst (v := mI 0) hx hb dX12_unit_186 rfl ?_
                refine lv_goto (tgt := 191) hx hb dX12_unit_187 (by decide) ?_
                refine sy_iadd hx hb dX12_unit_191 x_unitsInRule (by omega) ?_
                refine rp_o_unitsInRule hx hb hts hown hK hP hD hS uw_7_61 dX12_unit_192 (fun H locs hP hS => ?_)
                refine lv_iload hx hb dX12_unit_195 (lv_at hl 1 rfl) ?_
                refine sy_if_ne (tgt := 207) hx hb dX12_unit_197 (by decide) (by omega) (fun c_36 => ?_) (fun c_36 => ?_)
                · skip
                  refine lv_iconst (v := mI 0) hx hb dX12_unit_207 rfl ?_
                  refine lv_istore (lv' := [(6, .int (mI 0)), (5, .int (mI z_22)), (4, .int (mI r_18)), (3, .int (mI 0)), (2, .int (mI z_13)), (1, .int (mI z_5)), (0, .ref (a 0))]) hx hb dX12_unit_208 hl (by decide) rfl (fun ls hl => ?_)
                  refine lv_aload_n hx hb dX12_unit_210 rfl (lv_at hl 6 rfl) ?_
                  refine g_v (rDt hD) hS hA (g_V (own := "HideReaderModel") (As := []) (rest := []) hx hb hml hown hts hK hP (rDt hD) (kr_X12_goOn (l := l) (D := D) (k := k) h_x_size h_x_end h_x_number b_B_text g_E) ck_X12_goOn iv_X12_goOn uw_7_220 (rv_o hK hP) rfl hl.1 rfl (Nat.le_of_ble_eq_true rfl) dX12_unit_211 ⟨Nat.le_of_ble_eq_true rfl, Nat.le_of_ble_eq_true rfl⟩ ⟨Nat.le_of_ble_eq_true rfl, Nat.le_of_ble_eq_true rfl⟩) (fun H locs hQ hS => ?_)
                  obtain ⟨y_38, y_39, y_40, y_41, j_42, hr_37_0, hr_37_1, hr_37_2, hr_37_3, hr_37_4, hr_37_5, kr_37_E, hP⟩ := hQ
                  refine lv_iload_n hx hb dX12_unit_214 rfl (lv_at hl 4 rfl) ?_
                  refine sy_if_ne (tgt := 222) hx hb dX12_unit_215 (by decide) (by omega) (fun c_43 => ?_) (fun c9 => False.elim (by omega))
                  refine lv_aload_n hx hb dX12_unit_222 rfl (lv_at hl 6 rfl) ?_
                  refine lv_iload_n hx hb dX12_unit_223 rfl (lv_at hl 4 rfl) ?_
                  refine sy_if_eq (tgt := 231) hx hb dX12_unit_224 (by decide) (by omega) (fun c9 => False.elim (by omega)) (fun c_44 => ?_)
                  refine lv_iconst (v := mI 3) hx hb dX12_unit_227 rfl ?_
                  refine lv_goto (tgt := 233) hx hb dX12_unit_228 (by decide) ?_
                  refine lv_bipush (v := mI 126) hx hb dX12_unit_233 (by decide) ?_
                  refine g_v (rDt hD) hS hA (g_V (own := "HideReaderModel") (As := [.int (mI 3), .int (mI 126)]) (rest := []) hx hb hml hown hts hK hP (rDt hD) (kr_X12_pushE (l := l) (D := D) (k := k) (by decide) (by decide) (by omega) b_B_eWhat b_B_eSign) ck_X12_pushE iv_X12_pushE uw_8_82 (rv_o hK hP) rfl hl.1 rfl (Nat.le_of_ble_eq_true rfl) dX12_unit_235 ⟨Nat.le_of_ble_eq_true rfl, Nat.le_of_ble_eq_true rfl⟩ ⟨Nat.le_of_ble_eq_true rfl, Nat.le_of_ble_eq_true rfl⟩) (fun H locs hQ hS => ?_)
                  obtain ⟨F_46, F_47, y_48, bF_46, bF_47, hr_45_2, hr_45_3, hr_45_4, hr_45_5, hr_45_6, hP⟩ := hQ
                  refine lv_aload_n hx hb dX12_unit_238 rfl (lv_at hl 6 rfl) ?_
                  refine lv_dup hx hb dX12_unit_239 rfl ?_
                  refine rg_o_within hx hb hts hown hK hP uw_7_59 dX12_unit_240 ?_
                  refine lv_iconst (v := mI 1) hx hb dX12_unit_243 rfl ?_
                  refine sy_iadd hx hb dX12_unit_244 (x_within + 1) rfl ?_
                  refine rp_o_within hx hb hts hown hK hP hD hS uw_7_59 dX12_unit_245 (fun H locs hP hS => ?_)
                  refine lv_iconst (v := mI 1) hx hb dX12_unit_248 rfl ?_
                  exact r_z hx hb hr hlocks dX12_unit_249 hS (by decide) ⟨x_faultKind, x_faultPlace, y_38, y_39, y_40, y_41, j_42, F_33, B_code, B_codeNumber, F_46, F_47, x_codes, (x_within + 1), y_48, x_unitsInRule, by omega, by omega, by omega, by omega, by omega, by omega, by omega, bF_33, b_B_code, b_B_codeNumber, bF_46, bF_47, by omega, by omega, by omega, by omega, by omega, by omega, by omega, by omega, by omega, by omega, (eS_push gW (by omega) hr_45_5 hr_45_6 (by omega) (by omega) (by omega) (by omega) (by omega)), by omega, by omega, by omega, kr_37_E, g_Q, hP⟩
                · skip
                  refine lv_aload_n hx hb dX12_unit_200 rfl (lv_at hl 5 rfl) ?_
                  refine rg_o_number hx hb hts hown hK hP uw_7_32 dX12_unit_201 ?_
                  refine lv_goto (tgt := 208) hx hb dX12_unit_204 (by decide) ?_
                  refine lv_istore (lv' := [(6, .int (mI x_number)), (5, .int (mI z_22)), (4, .int (mI r_18)), (3, .int (mI 0)), (2, .int (mI z_13)), (1, .int (mI z_5)), (0, .ref (a 0))]) hx hb dX12_unit_208 hl (by decide) rfl (fun ls hl => ?_)
                  refine lv_aload_n hx hb dX12_unit_210 rfl (lv_at hl 6 rfl) ?_
                  refine g_v (rDt hD) hS hA (g_V (own := "HideReaderModel") (As := []) (rest := []) hx hb hml hown hts hK hP (rDt hD) (kr_X12_goOn (l := l) (D := D) (k := k) h_x_size h_x_end h_x_number b_B_text g_E) ck_X12_goOn iv_X12_goOn uw_7_220 (rv_o hK hP) rfl hl.1 rfl (Nat.le_of_ble_eq_true rfl) dX12_unit_211 ⟨Nat.le_of_ble_eq_true rfl, Nat.le_of_ble_eq_true rfl⟩ ⟨Nat.le_of_ble_eq_true rfl, Nat.le_of_ble_eq_true rfl⟩) (fun H locs hQ hS => ?_)
                  obtain ⟨y_50, y_51, y_52, y_53, j_54, hr_49_0, hr_49_1, hr_49_2, hr_49_3, hr_49_4, hr_49_5, kr_49_E, hP⟩ := hQ
                  refine lv_iload_n hx hb dX12_unit_214 rfl (lv_at hl 4 rfl) ?_
                  refine sy_if_ne (tgt := 222) hx hb dX12_unit_215 (by decide) (by omega) (fun c_55 => ?_) (fun c9 => False.elim (by omega))
                  refine lv_aload_n hx hb dX12_unit_222 rfl (lv_at hl 6 rfl) ?_
                  refine lv_iload_n hx hb dX12_unit_223 rfl (lv_at hl 4 rfl) ?_
                  refine sy_if_eq (tgt := 231) hx hb dX12_unit_224 (by decide) (by omega) (fun c9 => False.elim (by omega)) (fun c_56 => ?_)
                  refine lv_iconst (v := mI 3) hx hb dX12_unit_227 rfl ?_
                  refine lv_goto (tgt := 233) hx hb dX12_unit_228 (by decide) ?_
                  refine lv_bipush (v := mI 126) hx hb dX12_unit_233 (by decide) ?_
                  refine g_v (rDt hD) hS hA (g_V (own := "HideReaderModel") (As := [.int (mI 3), .int (mI 126)]) (rest := []) hx hb hml hown hts hK hP (rDt hD) (kr_X12_pushE (l := l) (D := D) (k := k) (by decide) (by decide) (by omega) b_B_eWhat b_B_eSign) ck_X12_pushE iv_X12_pushE uw_8_82 (rv_o hK hP) rfl hl.1 rfl (Nat.le_of_ble_eq_true rfl) dX12_unit_235 ⟨Nat.le_of_ble_eq_true rfl, Nat.le_of_ble_eq_true rfl⟩ ⟨Nat.le_of_ble_eq_true rfl, Nat.le_of_ble_eq_true rfl⟩) (fun H locs hQ hS => ?_)
                  obtain ⟨F_58, F_59, y_60, bF_58, bF_59, hr_57_2, hr_57_3, hr_57_4, hr_57_5, hr_57_6, hP⟩ := hQ
                  refine lv_aload_n hx hb dX12_unit_238 rfl (lv_at hl 6 rfl) ?_
                  refine lv_dup hx hb dX12_unit_239 rfl ?_
                  refine rg_o_within hx hb hts hown hK hP uw_7_59 dX12_unit_240 ?_
                  refine lv_iconst (v := mI 1) hx hb dX12_unit_243 rfl ?_
                  refine sy_iadd hx hb dX12_unit_244 (x_within + 1) rfl ?_
                  refine rp_o_within hx hb hts hown hK hP hD hS uw_7_59 dX12_unit_245 (fun H locs hP hS => ?_)
                  refine lv_iconst (v := mI 1) hx hb dX12_unit_248 rfl ?_
                  exact r_z hx hb hr hlocks dX12_unit_249 hS (by decide) ⟨x_faultKind, x_faultPlace, y_50, y_51, y_52, y_53, j_54, F_33, B_code, B_codeNumber, F_58, F_59, x_codes, (x_within + 1), y_60, x_unitsInRule, by omega, by omega, by omega, by omega, by omega, by omega, by omega, bF_33, b_B_code, b_B_codeNumber, bF_58, bF_59, by omega, by omega, by omega, by omega, by omega, by omega, by omega, by omega, by omega, by omega, (eS_push gW (by omega) hr_57_5 hr_57_6 (by omega) (by omega) (by omega) (by omega) (by omega)), by omega, by omega, by omega, kr_49_E, g_Q, hP⟩
            · skip
              refine lv_aload_n hx hb dX12_unit_143 rfl (lv_at hl 5 rfl) ?_
              refine g_v (rDt hD) hS hA (g_V (own := "HideReaderModel") (As := []) (rest := []) hx hb hml hown hts hK hP (rDt hD) (kr_X12_misplaced (l := l) (D := D) (k := k) (by omega) h_x_faultPlace h_x_at h_x_token) ck_X12_misplaced iv_X12_misplaced uw_8_34 (rv_o hK hP) rfl hl.1 rfl (Nat.le_of_ble_eq_true rfl) dX12_unit_144 ⟨Nat.le_of_ble_eq_true rfl, Nat.le_of_ble_eq_true rfl⟩ ⟨Nat.le_of_ble_eq_true rfl, Nat.le_of_ble_eq_true rfl⟩) (fun H locs hQ hS => ?_)
              obtain ⟨y_62, y_63, hr_61_0, hr_61_1, hr_61_2, hP⟩ := hQ
              refine lv_aload_n hx hb dX12_unit_147 rfl (lv_at hl 5 rfl) ?_
              refine g_i (rDt hD) hS hA (g_V (own := "HideReaderModel") (As := []) (rest := []) hx hb hml hown hts hK hP (rDt hD) (kr_X12_isGood (l := l) (D := D) (k := k) (by omega)) ck_X12_isGood iv_X12_isGood uw_8_18 (rv_o hK hP) rfl hl.1 rfl (Nat.le_of_ble_eq_true rfl) dX12_unit_148 ⟨Nat.le_of_ble_eq_true rfl, Nat.le_of_ble_eq_true rfl⟩ ⟨Nat.le_of_ble_eq_true rfl, Nat.le_of_ble_eq_true rfl⟩) (fun r_64 H locs hQ hS => ?_)
              obtain ⟨hq_r_64, hP⟩ := hQ
              rcases hq_r_64 with ⟨rfl, c_65_0, c_65_1⟩ | ⟨rfl, c_66_0⟩
              · skip
                refine sy_if_ne (tgt := 156) hx hb dX12_unit_151 (by decide) (by decide) (fun c9 => absurd c9 (by decide)) (fun c_67 => ?_)
                refine lv_iconst (v := mI 1) hx hb dX12_unit_154 rfl ?_
                exact r_z hx hb hr hlocks dX12_unit_155 hS (by decide) ⟨y_62, y_63, x_at, x_end, x_token, x_number, n_name, B_units, B_code, B_codeNumber, B_eWhat, B_eSign, x_codes, x_within, x_piled, x_unitsInRule, by omega, by omega, by omega, by omega, by omega, by omega, by omega, b_B_units, b_B_code, b_B_codeNumber, b_B_eWhat, b_B_eSign, by omega, by omega, by omega, by omega, by omega, by omega, by omega, by omega, by omega, by omega, (eS_f (by omega)), by omega, by omega, by omega, g_E, g_Q, hP⟩
              exact False.elim (by omega)
          · skip
            refine lv_iload hx hb dX12_unit_104 (lv_at hl 1 rfl) ?_
            refine sy_if_ne (tgt := 121) hx hb dX12_unit_106 (by decide) (by omega) (fun c_68 => ?_) (fun c_68 => ?_)
            · skip
              refine lv_iload hx hb dX12_unit_121 (lv_at hl 0 rfl) ?_
              refine sy_if_ne (tgt := 143) hx hb dX12_unit_123 (by decide) (by omega) (fun c_69 => ?_) (fun c_69 => ?_)
              · skip
                refine lv_aload_n hx hb dX12_unit_143 rfl (lv_at hl 5 rfl) ?_
                refine g_v (rDt hD) hS hA (g_V (own := "HideReaderModel") (As := []) (rest := []) hx hb hml hown hts hK hP (rDt hD) (kr_X12_misplaced (l := l) (D := D) (k := k) (by omega) h_x_faultPlace h_x_at h_x_token) ck_X12_misplaced iv_X12_misplaced uw_8_34 (rv_o hK hP) rfl hl.1 rfl (Nat.le_of_ble_eq_true rfl) dX12_unit_144 ⟨Nat.le_of_ble_eq_true rfl, Nat.le_of_ble_eq_true rfl⟩ ⟨Nat.le_of_ble_eq_true rfl, Nat.le_of_ble_eq_true rfl⟩) (fun H locs hQ hS => ?_)
                obtain ⟨y_71, y_72, hr_70_0, hr_70_1, hr_70_2, hP⟩ := hQ
                refine lv_aload_n hx hb dX12_unit_147 rfl (lv_at hl 5 rfl) ?_
                refine g_i (rDt hD) hS hA (g_V (own := "HideReaderModel") (As := []) (rest := []) hx hb hml hown hts hK hP (rDt hD) (kr_X12_isGood (l := l) (D := D) (k := k) (by omega)) ck_X12_isGood iv_X12_isGood uw_8_18 (rv_o hK hP) rfl hl.1 rfl (Nat.le_of_ble_eq_true rfl) dX12_unit_148 ⟨Nat.le_of_ble_eq_true rfl, Nat.le_of_ble_eq_true rfl⟩ ⟨Nat.le_of_ble_eq_true rfl, Nat.le_of_ble_eq_true rfl⟩) (fun r_73 H locs hQ hS => ?_)
                obtain ⟨hq_r_73, hP⟩ := hQ
                rcases hq_r_73 with ⟨rfl, c_74_0, c_74_1⟩ | ⟨rfl, c_75_0⟩
                · skip
                  refine sy_if_ne (tgt := 156) hx hb dX12_unit_151 (by decide) (by decide) (fun c9 => absurd c9 (by decide)) (fun c_76 => ?_)
                  refine lv_iconst (v := mI 1) hx hb dX12_unit_154 rfl ?_
                  exact r_z hx hb hr hlocks dX12_unit_155 hS (by decide) ⟨y_71, y_72, x_at, x_end, x_token, x_number, n_name, B_units, B_code, B_codeNumber, B_eWhat, B_eSign, x_codes, x_within, x_piled, x_unitsInRule, by omega, by omega, by omega, by omega, by omega, by omega, by omega, b_B_units, b_B_code, b_B_codeNumber, b_B_eWhat, b_B_eSign, by omega, by omega, by omega, by omega, by omega, by omega, by omega, by omega, by omega, by omega, (eS_f (by omega)), by omega, by omega, by omega, g_E, g_Q, hP⟩
                exact False.elim (by omega)
              · skip
                refine lv_iload_n hx hb dX12_unit_126 rfl (lv_at hl 3 rfl) ?_
                refine sy_if_ne (tgt := 134) hx hb dX12_unit_127 (by decide) (by omega) (fun c9 => False.elim (by omega)) (fun c_77 => ?_)
                refine lv_iload_n hx hb dX12_unit_130 rfl (lv_at hl 2 rfl) ?_
                refine sy_if_eq (tgt := 147) hx hb dX12_unit_131 (by decide) (by decide) (fun c_78 => ?_) (fun c9 => absurd c9 (by decide))
                refine lv_aload_n hx hb dX12_unit_147 rfl (lv_at hl 5 rfl) ?_
                refine g_i (rDt hD) hS hA (g_V (own := "HideReaderModel") (As := []) (rest := []) hx hb hml hown hts hK hP (rDt hD) (kr_X12_isGood (l := l) (D := D) (k := k) (by omega)) ck_X12_isGood iv_X12_isGood uw_8_18 (rv_o hK hP) rfl hl.1 rfl (Nat.le_of_ble_eq_true rfl) dX12_unit_148 ⟨Nat.le_of_ble_eq_true rfl, Nat.le_of_ble_eq_true rfl⟩ ⟨Nat.le_of_ble_eq_true rfl, Nat.le_of_ble_eq_true rfl⟩) (fun r_79 H locs hQ hS => ?_)
                obtain ⟨hq_r_79, hP⟩ := hQ
                rcases hq_r_79 with ⟨rfl, c_80_0, c_80_1⟩ | ⟨rfl, c_81_0⟩
                exact False.elim (by omega)
                · skip
                  refine sy_if_ne (tgt := 156) hx hb dX12_unit_151 (by decide) (by decide) (fun c_82 => ?_) (fun c9 => absurd c9 (by decide))
                  refine lv_aload_n hx hb dX12_unit_156 rfl (lv_at hl 5 rfl) ?_
                  refine rg_o_units hx hb hts hown hK hP uw_7_38 dX12_unit_157 ?_
                  refine lv_aload_n hx hb dX12_unit_160 rfl (lv_at hl 5 rfl) ?_
                  refine rg_o_rb hx hb hts hown hK hP uw_7_57 dX12_unit_161 ?_
                  refine lv_dup2_11 hx hb dX12_unit_164 rfl rfl ?_
                  refine rl_units hx hb hK hP dX12_unit_165 (by omega) b_B_units (fun z_83 ez_83 hz_83 => ?_)
                  refine lv_iload_n hx hb dX12_unit_166 rfl (lv_at hl 3 rfl) ?_
                  refine sy_if_eq (tgt := 174) hx hb dX12_unit_167 (by decide) (by omega) (fun c_84 => ?_) (fun c9 => False.elim (by omega))
                  refine lv_iconst (v := mI 1) hx hb dX12_unit_174 rfl ?_
                  refine sy_iadd hx hb dX12_unit_175 (z_83 + 1) rfl ?_
                  refine rs_units hx hb hK hP hD hS dX12_unit_176 (by omega) b_B_units (by omega) (fun F_85 H locs eF_85 bF_85 hP hS => ?_)
                  have h_86 : F_85 x_rb.toNat = z_83 + 1 := by rw [eF_85, ud_s]
                  refine lv_aload_n hx hb dX12_unit_177 rfl (lv_at hl 5 rfl) ?_
                  refine lv_dup hx hb dX12_unit_178 rfl ?_
                  refine rg_o_unitsInRule hx hb hts hown hK hP uw_7_61 dX12_unit_179 ?_
                  refine lv_iload_n hx hb dX12_unit_182 rfl (lv_at hl 3 rfl) ?_
                  refine sy_if_eq (tgt := 190) hx hb dX12_unit_183 (by decide) (by omega) (fun c_87 => ?_) (fun c9 => False.elim (by omega))
                  refine lv_iconst (v := mI 1) hx hb dX12_unit_190 rfl ?_
                  refine sy_iadd hx hb dX12_unit_191 (x_unitsInRule + 1) rfl ?_
                  refine rp_o_unitsInRule hx hb hts hown hK hP hD hS uw_7_61 dX12_unit_192 (fun H locs hP hS => ?_)
                  refine lv_iload hx hb dX12_unit_195 (lv_at hl 1 rfl) ?_
                  refine sy_if_ne (tgt := 207) hx hb dX12_unit_197 (by decide) (by omega) (fun c_88 => ?_) (fun c9 => False.elim (by omega))
                  refine lv_iconst (v := mI 0) hx hb dX12_unit_207 rfl ?_
                  refine lv_istore (lv' := [(6, .int (mI 0)), (5, .int (mI z_22)), (4, .int (mI r_18)), (3, .int (mI 0)), (2, .int (mI z_13)), (1, .int (mI z_5)), (0, .ref (a 0))]) hx hb dX12_unit_208 hl (by decide) rfl (fun ls hl => ?_)
                  refine lv_aload_n hx hb dX12_unit_210 rfl (lv_at hl 6 rfl) ?_
                  refine g_v (rDt hD) hS hA (g_V (own := "HideReaderModel") (As := []) (rest := []) hx hb hml hown hts hK hP (rDt hD) (kr_X12_goOn (l := l) (D := D) (k := k) h_x_size h_x_end h_x_number b_B_text g_E) ck_X12_goOn iv_X12_goOn uw_7_220 (rv_o hK hP) rfl hl.1 rfl (Nat.le_of_ble_eq_true rfl) dX12_unit_211 ⟨Nat.le_of_ble_eq_true rfl, Nat.le_of_ble_eq_true rfl⟩ ⟨Nat.le_of_ble_eq_true rfl, Nat.le_of_ble_eq_true rfl⟩) (fun H locs hQ hS => ?_)
                  obtain ⟨y_90, y_91, y_92, y_93, j_94, hr_89_0, hr_89_1, hr_89_2, hr_89_3, hr_89_4, hr_89_5, kr_89_E, hP⟩ := hQ
                  refine lv_iload_n hx hb dX12_unit_214 rfl (lv_at hl 4 rfl) ?_
                  refine sy_if_ne (tgt := 222) hx hb dX12_unit_215 (by decide) (by omega) (fun c9 => False.elim (by omega)) (fun c_95 => ?_)
                  refine lv_iload_n hx hb dX12_unit_218 rfl (lv_at hl 3 rfl) ?_
                  refine sy_if_eq (tgt := 250) hx hb dX12_unit_219 (by decide) (by decide) (fun c_96 => ?_) (fun c9 => absurd c9 (by decide))
                  refine lv_aload_n hx hb dX12_unit_250 rfl (lv_at hl 6 rfl) ?_
                  refine lv_iload hx hb dX12_unit_251 (lv_at hl 2 rfl) ?_
                  refine sy_if_ne (tgt := 261) hx hb dX12_unit_253 (by decide) (by omega) (fun c_97 => ?_) (fun c9 => False.elim (by omega))
                  refine lv_iload hx hb dX12_unit_261 (lv_at hl 2 rfl) ?_
                  refine lv_iload hx hb dX12_unit_263 (lv_at hl 0 rfl) ?_
                  refine g_v (rDt hD) hS hA (g_V (own := "HideReaderModel") (As := [.int (mI r_18), .int (mI 0)]) (rest := []) hx hb hml hown hts hK hP (rDt hD) (kr_X12_emit (l := l) (D := D) (k := k) (by omega) (by decide) h_x_bank h_x_rb h_x_codes b_B_code b_B_codeNumber g_L g_Q (by omega) (by omega)) ck_X12_emit iv_X12_emit uw_8_98 (rv_o hK hP) rfl hl.1 rfl (Nat.le_of_ble_eq_true rfl) dX12_unit_265 ⟨Nat.le_of_ble_eq_true rfl, Nat.le_of_ble_eq_true rfl⟩ ⟨Nat.le_of_ble_eq_true rfl, Nat.le_of_ble_eq_true rfl⟩) (fun H locs hQ hS => ?_)
                  obtain ⟨F_99, F_100, y_101, bF_99, bF_100, hr_98_2, hr_98_3, hr_98_4, hr_98_5, kr_98_Q, hP⟩ := hQ
                  refine lv_iconst (v := mI 0) hx hb dX12_unit_268 rfl ?_
                  exact r_z hx hb hr hlocks dX12_unit_269 hS (by decide) ⟨x_faultKind, x_faultPlace, y_90, y_91, y_92, y_93, j_94, F_85, F_99, F_100, B_eWhat, B_eSign, y_101, x_within, x_piled, (x_unitsInRule + 1), by omega, by omega, by omega, by omega, by omega, by omega, by omega, bF_85, bF_99, bF_100, b_B_eWhat, b_B_eSign, by omega, by omega, by omega, by omega, by omega, by omega, by omega, by omega, by omega, by omega, (eS_let gW (by omega) hr_98_5 (by omega) (by omega) (by omega) (by omega)), by omega, by omega, by omega, kr_89_E, kr_98_Q, hP⟩
            · skip
              refine lv_aload_n hx hb dX12_unit_109 rfl (lv_at hl 5 rfl) ?_
              refine rg_o_token hx hb hts hown hK hP uw_7_31 dX12_unit_110 ?_
              refine lv_iconst (v := mI 4) hx hb dX12_unit_113 rfl ?_
              refine sy_icmp_eq (tgt := 121) hx hb dX12_unit_114 (by decide) (by omega) (by decide) (fun c_102 => ?_) (fun c_102 => ?_)
              · skip
                refine lv_iload hx hb dX12_unit_121 (lv_at hl 0 rfl) ?_
                refine sy_if_ne (tgt := 143) hx hb dX12_unit_123 (by decide) (by omega) (fun c_103 => ?_) (fun c_103 => ?_)
                · skip
                  refine lv_aload_n hx hb dX12_unit_143 rfl (lv_at hl 5 rfl) ?_
                  refine g_v (rDt hD) hS hA (g_V (own := "HideReaderModel") (As := []) (rest := []) hx hb hml hown hts hK hP (rDt hD) (kr_X12_misplaced (l := l) (D := D) (k := k) (by omega) h_x_faultPlace h_x_at h_x_token) ck_X12_misplaced iv_X12_misplaced uw_8_34 (rv_o hK hP) rfl hl.1 rfl (Nat.le_of_ble_eq_true rfl) dX12_unit_144 ⟨Nat.le_of_ble_eq_true rfl, Nat.le_of_ble_eq_true rfl⟩ ⟨Nat.le_of_ble_eq_true rfl, Nat.le_of_ble_eq_true rfl⟩) (fun H locs hQ hS => ?_)
                  obtain ⟨y_105, y_106, hr_104_0, hr_104_1, hr_104_2, hP⟩ := hQ
                  refine lv_aload_n hx hb dX12_unit_147 rfl (lv_at hl 5 rfl) ?_
                  refine g_i (rDt hD) hS hA (g_V (own := "HideReaderModel") (As := []) (rest := []) hx hb hml hown hts hK hP (rDt hD) (kr_X12_isGood (l := l) (D := D) (k := k) (by omega)) ck_X12_isGood iv_X12_isGood uw_8_18 (rv_o hK hP) rfl hl.1 rfl (Nat.le_of_ble_eq_true rfl) dX12_unit_148 ⟨Nat.le_of_ble_eq_true rfl, Nat.le_of_ble_eq_true rfl⟩ ⟨Nat.le_of_ble_eq_true rfl, Nat.le_of_ble_eq_true rfl⟩) (fun r_107 H locs hQ hS => ?_)
                  obtain ⟨hq_r_107, hP⟩ := hQ
                  rcases hq_r_107 with ⟨rfl, c_108_0, c_108_1⟩ | ⟨rfl, c_109_0⟩
                  · skip
                    refine sy_if_ne (tgt := 156) hx hb dX12_unit_151 (by decide) (by decide) (fun c9 => absurd c9 (by decide)) (fun c_110 => ?_)
                    refine lv_iconst (v := mI 1) hx hb dX12_unit_154 rfl ?_
                    exact r_z hx hb hr hlocks dX12_unit_155 hS (by decide) ⟨y_105, y_106, x_at, x_end, x_token, x_number, n_name, B_units, B_code, B_codeNumber, B_eWhat, B_eSign, x_codes, x_within, x_piled, x_unitsInRule, by omega, by omega, by omega, by omega, by omega, by omega, by omega, b_B_units, b_B_code, b_B_codeNumber, b_B_eWhat, b_B_eSign, by omega, by omega, by omega, by omega, by omega, by omega, by omega, by omega, by omega, by omega, (eS_f (by omega)), by omega, by omega, by omega, g_E, g_Q, hP⟩
                  exact False.elim (by omega)
                · skip
                  refine lv_iload_n hx hb dX12_unit_126 rfl (lv_at hl 3 rfl) ?_
                  refine sy_if_ne (tgt := 134) hx hb dX12_unit_127 (by decide) (by omega) (fun c9 => False.elim (by omega)) (fun c_111 => ?_)
                  refine lv_iload_n hx hb dX12_unit_130 rfl (lv_at hl 2 rfl) ?_
                  refine sy_if_eq (tgt := 147) hx hb dX12_unit_131 (by decide) (by decide) (fun c_112 => ?_) (fun c9 => absurd c9 (by decide))
                  refine lv_aload_n hx hb dX12_unit_147 rfl (lv_at hl 5 rfl) ?_
                  refine g_i (rDt hD) hS hA (g_V (own := "HideReaderModel") (As := []) (rest := []) hx hb hml hown hts hK hP (rDt hD) (kr_X12_isGood (l := l) (D := D) (k := k) (by omega)) ck_X12_isGood iv_X12_isGood uw_8_18 (rv_o hK hP) rfl hl.1 rfl (Nat.le_of_ble_eq_true rfl) dX12_unit_148 ⟨Nat.le_of_ble_eq_true rfl, Nat.le_of_ble_eq_true rfl⟩ ⟨Nat.le_of_ble_eq_true rfl, Nat.le_of_ble_eq_true rfl⟩) (fun r_113 H locs hQ hS => ?_)
                  obtain ⟨hq_r_113, hP⟩ := hQ
                  rcases hq_r_113 with ⟨rfl, c_114_0, c_114_1⟩ | ⟨rfl, c_115_0⟩
                  exact False.elim (by omega)
                  · skip
                    refine sy_if_ne (tgt := 156) hx hb dX12_unit_151 (by decide) (by decide) (fun c_116 => ?_) (fun c9 => absurd c9 (by decide))
                    refine lv_aload_n hx hb dX12_unit_156 rfl (lv_at hl 5 rfl) ?_
                    refine rg_o_units hx hb hts hown hK hP uw_7_38 dX12_unit_157 ?_
                    refine lv_aload_n hx hb dX12_unit_160 rfl (lv_at hl 5 rfl) ?_
                    refine rg_o_rb hx hb hts hown hK hP uw_7_57 dX12_unit_161 ?_
                    refine lv_dup2_11 hx hb dX12_unit_164 rfl rfl ?_
                    refine rl_units hx hb hK hP dX12_unit_165 (by omega) b_B_units (fun z_117 ez_117 hz_117 => ?_)
                    refine lv_iload_n hx hb dX12_unit_166 rfl (lv_at hl 3 rfl) ?_
                    refine sy_if_eq (tgt := 174) hx hb dX12_unit_167 (by decide) (by omega) (fun c_118 => ?_) (fun c9 => False.elim (by omega))
                    refine lv_iconst (v := mI 1) hx hb dX12_unit_174 rfl ?_
                    refine sy_iadd hx hb dX12_unit_175 (z_117 + 1) rfl ?_
                    refine rs_units hx hb hK hP hD hS dX12_unit_176 (by omega) b_B_units (by omega) (fun F_119 H locs eF_119 bF_119 hP hS => ?_)
                    have h_120 : F_119 x_rb.toNat = z_117 + 1 := by rw [eF_119, ud_s]
                    refine lv_aload_n hx hb dX12_unit_177 rfl (lv_at hl 5 rfl) ?_
                    refine lv_dup hx hb dX12_unit_178 rfl ?_
                    refine rg_o_unitsInRule hx hb hts hown hK hP uw_7_61 dX12_unit_179 ?_
                    refine lv_iload_n hx hb dX12_unit_182 rfl (lv_at hl 3 rfl) ?_
                    refine sy_if_eq (tgt := 190) hx hb dX12_unit_183 (by decide) (by omega) (fun c_121 => ?_) (fun c9 => False.elim (by omega))
                    refine lv_iconst (v := mI 1) hx hb dX12_unit_190 rfl ?_
                    refine sy_iadd hx hb dX12_unit_191 (x_unitsInRule + 1) rfl ?_
                    refine rp_o_unitsInRule hx hb hts hown hK hP hD hS uw_7_61 dX12_unit_192 (fun H locs hP hS => ?_)
                    refine lv_iload hx hb dX12_unit_195 (lv_at hl 1 rfl) ?_
                    refine sy_if_ne (tgt := 207) hx hb dX12_unit_197 (by decide) (by omega) (fun c9 => False.elim (by omega)) (fun c_122 => ?_)
                    refine lv_aload_n hx hb dX12_unit_200 rfl (lv_at hl 5 rfl) ?_
                    refine rg_o_number hx hb hts hown hK hP uw_7_32 dX12_unit_201 ?_
                    refine lv_goto (tgt := 208) hx hb dX12_unit_204 (by decide) ?_
                    refine lv_istore (lv' := [(6, .int (mI x_number)), (5, .int (mI z_22)), (4, .int (mI r_18)), (3, .int (mI 0)), (2, .int (mI z_13)), (1, .int (mI z_5)), (0, .ref (a 0))]) hx hb dX12_unit_208 hl (by decide) rfl (fun ls hl => ?_)
                    refine lv_aload_n hx hb dX12_unit_210 rfl (lv_at hl 6 rfl) ?_
                    refine g_v (rDt hD) hS hA (g_V (own := "HideReaderModel") (As := []) (rest := []) hx hb hml hown hts hK hP (rDt hD) (kr_X12_goOn (l := l) (D := D) (k := k) h_x_size h_x_end h_x_number b_B_text g_E) ck_X12_goOn iv_X12_goOn uw_7_220 (rv_o hK hP) rfl hl.1 rfl (Nat.le_of_ble_eq_true rfl) dX12_unit_211 ⟨Nat.le_of_ble_eq_true rfl, Nat.le_of_ble_eq_true rfl⟩ ⟨Nat.le_of_ble_eq_true rfl, Nat.le_of_ble_eq_true rfl⟩) (fun H locs hQ hS => ?_)
                    obtain ⟨y_124, y_125, y_126, y_127, j_128, hr_123_0, hr_123_1, hr_123_2, hr_123_3, hr_123_4, hr_123_5, kr_123_E, hP⟩ := hQ
                    refine lv_iload_n hx hb dX12_unit_214 rfl (lv_at hl 4 rfl) ?_
                    refine sy_if_ne (tgt := 222) hx hb dX12_unit_215 (by decide) (by omega) (fun c9 => False.elim (by omega)) (fun c_129 => ?_)
                    refine lv_iload_n hx hb dX12_unit_218 rfl (lv_at hl 3 rfl) ?_
                    refine sy_if_eq (tgt := 250) hx hb dX12_unit_219 (by decide) (by decide) (fun c_130 => ?_) (fun c9 => absurd c9 (by decide))
                    refine lv_aload_n hx hb dX12_unit_250 rfl (lv_at hl 6 rfl) ?_
                    refine lv_iload hx hb dX12_unit_251 (lv_at hl 2 rfl) ?_
                    refine sy_if_ne (tgt := 261) hx hb dX12_unit_253 (by decide) (by omega) (fun c9 => False.elim (by omega)) (fun c_131 => ?_)
                    refine lv_bipush (v := mI 110) hx hb dX12_unit_256 (by decide) ?_
                    refine lv_goto (tgt := 263) hx hb dX12_unit_258 (by decide) ?_
                    refine lv_iload hx hb dX12_unit_263 (lv_at hl 0 rfl) ?_
                    refine g_v (rDt hD) hS hA (g_V (own := "HideReaderModel") (As := [.int (mI 110), .int (mI x_number)]) (rest := []) hx hb hml hown hts hK hP (rDt hD) (kr_X12_emit (l := l) (D := D) (k := k) (by decide) (by omega) h_x_bank h_x_rb h_x_codes b_B_code b_B_codeNumber g_L g_Q (by omega) (by omega)) ck_X12_emit iv_X12_emit uw_8_98 (rv_o hK hP) rfl hl.1 rfl (Nat.le_of_ble_eq_true rfl) dX12_unit_265 ⟨Nat.le_of_ble_eq_true rfl, Nat.le_of_ble_eq_true rfl⟩ ⟨Nat.le_of_ble_eq_true rfl, Nat.le_of_ble_eq_true rfl⟩) (fun H locs hQ hS => ?_)
                    obtain ⟨F_133, F_134, y_135, bF_133, bF_134, hr_132_2, hr_132_3, hr_132_4, hr_132_5, kr_132_Q, hP⟩ := hQ
                    refine lv_iconst (v := mI 0) hx hb dX12_unit_268 rfl ?_
                    exact r_z hx hb hr hlocks dX12_unit_269 hS (by decide) ⟨x_faultKind, x_faultPlace, y_124, y_125, y_126, y_127, j_128, F_119, F_133, F_134, B_eWhat, B_eSign, y_135, x_within, x_piled, (x_unitsInRule + 1), by omega, by omega, by omega, by omega, by omega, by omega, by omega, bF_119, bF_133, bF_134, b_B_eWhat, b_B_eSign, by omega, by omega, by omega, by omega, by omega, by omega, by omega, by omega, by omega, by omega, (eS_let gW (by omega) hr_132_5 (by omega) (by omega) (by omega) (by omega)), by omega, by omega, by omega, kr_123_E, kr_132_Q, hP⟩
              · skip
                refine lv_iload_n hx hb dX12_unit_117 rfl (lv_at hl 2 rfl) ?_
                refine sy_if_eq (tgt := 143) hx hb dX12_unit_118 (by decide) (by decide) (fun c_136 => ?_) (fun c9 => absurd c9 (by decide))
                refine lv_aload_n hx hb dX12_unit_143 rfl (lv_at hl 5 rfl) ?_
                refine g_v (rDt hD) hS hA (g_V (own := "HideReaderModel") (As := []) (rest := []) hx hb hml hown hts hK hP (rDt hD) (kr_X12_misplaced (l := l) (D := D) (k := k) (by omega) h_x_faultPlace h_x_at h_x_token) ck_X12_misplaced iv_X12_misplaced uw_8_34 (rv_o hK hP) rfl hl.1 rfl (Nat.le_of_ble_eq_true rfl) dX12_unit_144 ⟨Nat.le_of_ble_eq_true rfl, Nat.le_of_ble_eq_true rfl⟩ ⟨Nat.le_of_ble_eq_true rfl, Nat.le_of_ble_eq_true rfl⟩) (fun H locs hQ hS => ?_)
                obtain ⟨y_138, y_139, hr_137_0, hr_137_1, hr_137_2, hP⟩ := hQ
                refine lv_aload_n hx hb dX12_unit_147 rfl (lv_at hl 5 rfl) ?_
                refine g_i (rDt hD) hS hA (g_V (own := "HideReaderModel") (As := []) (rest := []) hx hb hml hown hts hK hP (rDt hD) (kr_X12_isGood (l := l) (D := D) (k := k) (by omega)) ck_X12_isGood iv_X12_isGood uw_8_18 (rv_o hK hP) rfl hl.1 rfl (Nat.le_of_ble_eq_true rfl) dX12_unit_148 ⟨Nat.le_of_ble_eq_true rfl, Nat.le_of_ble_eq_true rfl⟩ ⟨Nat.le_of_ble_eq_true rfl, Nat.le_of_ble_eq_true rfl⟩) (fun r_140 H locs hQ hS => ?_)
                obtain ⟨hq_r_140, hP⟩ := hQ
                rcases hq_r_140 with ⟨rfl, c_141_0, c_141_1⟩ | ⟨rfl, c_142_0⟩
                · skip
                  refine sy_if_ne (tgt := 156) hx hb dX12_unit_151 (by decide) (by decide) (fun c9 => absurd c9 (by decide)) (fun c_143 => ?_)
                  refine lv_iconst (v := mI 1) hx hb dX12_unit_154 rfl ?_
                  exact r_z hx hb hr hlocks dX12_unit_155 hS (by decide) ⟨y_138, y_139, x_at, x_end, x_token, x_number, n_name, B_units, B_code, B_codeNumber, B_eWhat, B_eSign, x_codes, x_within, x_piled, x_unitsInRule, by omega, by omega, by omega, by omega, by omega, by omega, by omega, b_B_units, b_B_code, b_B_codeNumber, b_B_eWhat, b_B_eSign, by omega, by omega, by omega, by omega, by omega, by omega, by omega, by omega, by omega, by omega, (eS_f (by omega)), by omega, by omega, by omega, g_E, g_Q, hP⟩
                exact False.elim (by omega)
        · skip
          intro J_23
          refine sy_icmp_eq (tgt := 93) hx hb dX12_unit_81 (by decide) (by omega) (by decide) (fun c_144 => ?_) (fun c_144 => ?_)
          · skip
            refine lv_iconst (v := mI 1) hx hb dX12_unit_93 rfl ?_
            refine lv_goto (tgt := 98) hx hb dX12_unit_94 (by decide) ?_
            exact J_23 _ _ _ ⟨1, _, by omega, by omega, hP, hS, lv_sub hl [0, 1, 2, 3, 4] rfl, rfl⟩
          · skip
            refine lv_aload_n hx hb dX12_unit_84 rfl (lv_at hl 4 rfl) ?_
            refine rg_o_unitsInRule hx hb hts hown hK hP uw_7_61 dX12_unit_85 ?_
            refine lv_bipush (v := mI 30) hx hb dX12_unit_88 (by decide) ?_
            refine sy_icmp_ne (tgt := 97) hx hb dX12_unit_90 (by decide) (by omega) (by decide) (fun c_145 => ?_) (fun c_145 => ?_)
            · skip
              refine lv_iconst (v := mI 0) hx hb dX12_unit_97 rfl ?_
              exact J_23 _ _ _ ⟨0, _, by omega, by omega, hP, hS, lv_sub hl [0, 1, 2, 3, 4] rfl, rfl⟩
            · skip
              refine lv_iconst (v := mI 1) hx hb dX12_unit_93 rfl ?_
              refine lv_goto (tgt := 98) hx hb dX12_unit_94 (by decide) ?_
              exact J_23 _ _ _ ⟨1, _, by omega, by omega, hP, hS, lv_sub hl [0, 1, 2, 3, 4] rfl, rfl⟩
      · skip
        refine lv_istore_n (lv' := [(3, .int (mI 1)), (2, .int (mI z_13)), (1, .int (mI z_5)), (0, .ref (a 0))]) hx hb dX12_unit_63 rfl hl (by decide) rfl (fun ls hl => ?_)
        refine lv_aload_n hx hb dX12_unit_64 rfl (lv_at hl 3 rfl) ?_
        refine g_i (rDt hD) hS hA (g_V (own := "HideReaderModel") (As := []) (rest := []) hx hb hml hown hts hK hP (rDt hD) (kr_X12_wordHere (l := l) (D := D) (k := k) h_x_token) ck_X12_wordHere iv_X12_wordHere uw_8_94 (rv_o hK hP) rfl hl.1 rfl (Nat.le_of_ble_eq_true rfl) dX12_unit_65 ⟨Nat.le_of_ble_eq_true rfl, Nat.le_of_ble_eq_true rfl⟩ ⟨Nat.le_of_ble_eq_true rfl, Nat.le_of_ble_eq_true rfl⟩) (fun r_146 H locs hQ hS => ?_)
        obtain ⟨hr_146_0, hr_146_1, hP⟩ := hQ
        refine lv_istore (lv' := [(4, .int (mI r_146)), (3, .int (mI 1)), (2, .int (mI z_13)), (1, .int (mI z_5)), (0, .ref (a 0))]) hx hb dX12_unit_68 hl (by decide) rfl (fun ls hl => ?_)
        refine lv_aload_n hx hb dX12_unit_70 rfl (lv_at hl 4 rfl) ?_
        refine rg_o_units hx hb hts hown hK hP uw_7_38 dX12_unit_71 ?_
        refine lv_aload_n hx hb dX12_unit_74 rfl (lv_at hl 4 rfl) ?_
        refine rg_o_rb hx hb hts hown hK hP uw_7_57 dX12_unit_75 ?_
        refine rl_units hx hb hK hP dX12_unit_78 (by omega) b_B_units (fun z_147 ez_147 hz_147 => ?_)
        refine lv_bipush (v := mI 60) hx hb dX12_unit_79 (by decide) ?_
        refine sy_join (I := fun H locs g => ∃ (z_150 : Int) (ls : Array Slot), (0 ≤ z_150 ∧ z_150 ≤ 1) ∧ (1 ≤ z_150 ∨ (x_unitsInRule ≤ 29 ∧ z_147 ≤ 59)) ∧ va_P D vwCl (rW k a x_taped x_size x_faultKind x_faultPlace x_at x_end x_token x_number x_bank x_rb x_codes x_within x_piled x_unitsInRule x_askBeast x_askStroke x_askAge x_askSeason x_acts x_undone x_laid x_seens x_time x_fitting n_name B_tape B_text B_turns B_herds B_irons B_beasts B_units B_night B_draw B_told B_brands B_ironMarks B_herdTold B_born B_ruleFrom B_ruleTo B_code B_codeNumber B_eWhat B_eSign B_pile B_all B_burned B_was B_need B_laidRow B_long8 B_brings B_sBurning B_sStroke B_sIs B_sTold B_sUntold B_parts B_boxAll B_isBoxed G_hName G_iName G_bName ex) H ∧ va_S A s.heap H locs ∧ lv_has ls 7 [(4, .int (mI r_146)), (3, .int (mI 1)), (2, .int (mI z_13)), (1, .int (mI z_5)), (0, .ref (a 0))] ∧ g = F0 m 98 ls [.int (mI z_150)]) ?_ ?_
        · skip
          intro H locs g hI
          obtain ⟨z_150, ls, h98_0, h98_1, hP, hS, hl, rfl⟩ := hI
          refine lv_istore (lv' := [(5, .int (mI z_150)), (4, .int (mI r_146)), (3, .int (mI 1)), (2, .int (mI z_13)), (1, .int (mI z_5)), (0, .ref (a 0))]) hx hb dX12_unit_98 hl (by decide) rfl (fun ls hl => ?_)
          refine lv_iload_n hx hb dX12_unit_100 rfl (lv_at hl 3 rfl) ?_
          refine sy_if_ne (tgt := 126) hx hb dX12_unit_101 (by decide) (by omega) (fun c_152 => ?_) (fun c_152 => ?_)
          · skip
            refine lv_iload_n hx hb dX12_unit_126 rfl (lv_at hl 3 rfl) ?_
            refine sy_if_ne (tgt := 134) hx hb dX12_unit_127 (by decide) (by omega) (fun c_153 => ?_) (fun c9 => False.elim (by omega))
            refine lv_aload_n hx hb dX12_unit_134 rfl (lv_at hl 5 rfl) ?_
            refine rg_o_within hx hb hts hown hK hP uw_7_59 dX12_unit_135 ?_
            refine lv_bipush (v := mI 7) hx hb dX12_unit_138 (by decide) ?_
            refine sy_icmp_ne (tgt := 147) hx hb dX12_unit_140 (by decide) (by omega) (by decide) (fun c_154 => ?_) (fun c_154 => ?_)
            · skip
              refine lv_aload_n hx hb dX12_unit_147 rfl (lv_at hl 5 rfl) ?_
              refine g_i (rDt hD) hS hA (g_V (own := "HideReaderModel") (As := []) (rest := []) hx hb hml hown hts hK hP (rDt hD) (kr_X12_isGood (l := l) (D := D) (k := k) (by omega)) ck_X12_isGood iv_X12_isGood uw_8_18 (rv_o hK hP) rfl hl.1 rfl (Nat.le_of_ble_eq_true rfl) dX12_unit_148 ⟨Nat.le_of_ble_eq_true rfl, Nat.le_of_ble_eq_true rfl⟩ ⟨Nat.le_of_ble_eq_true rfl, Nat.le_of_ble_eq_true rfl⟩) (fun r_155 H locs hQ hS => ?_)
              obtain ⟨hq_r_155, hP⟩ := hQ
              rcases hq_r_155 with ⟨rfl, c_156_0, c_156_1⟩ | ⟨rfl, c_157_0⟩
              exact False.elim (by omega)
              · skip
                refine sy_if_ne (tgt := 156) hx hb dX12_unit_151 (by decide) (by decide) (fun c_158 => ?_) (fun c9 => absurd c9 (by decide))
                refine lv_aload_n hx hb dX12_unit_156 rfl (lv_at hl 5 rfl) ?_
                refine rg_o_units hx hb hts hown hK hP uw_7_38 dX12_unit_157 ?_
                refine lv_aload_n hx hb dX12_unit_160 rfl (lv_at hl 5 rfl) ?_
                refine rg_o_rb hx hb hts hown hK hP uw_7_57 dX12_unit_161 ?_
                refine lv_dup2_11 hx hb dX12_unit_164 rfl rfl ?_
                refine rl_units hx hb hK hP dX12_unit_165 (by omega) b_B_units (fun z_159 ez_159 hz_159 => ?_)
                refine lv_iload_n hx hb dX12_unit_166 rfl (lv_at hl 3 rfl) ?_
                refine sy_if_eq (tgt := 174) hx hb dX12_unit_167 (by decide) (by omega) (fun c9 => False.elim (by omega)) (fun c_160 => ?_)
                refine lv_iconst (v := mI 0) hx hb dX12_unit_170 rfl ?_
                refine lv_goto (tgt := 175) hx hb dX12_unit_171 (by decide) ?_
                refine sy_iadd hx hb dX12_unit_175 z_159 (by omega) ?_
                refine rs_units hx hb hK hP hD hS dX12_unit_176 (by omega) b_B_units (by omega) (fun F_161 H locs eF_161 bF_161 hP hS => ?_)
                have h_162 : F_161 x_rb.toNat = z_159 := by rw [eF_161, ud_s]
                refine lv_aload_n hx hb dX12_unit_177 rfl (lv_at hl 5 rfl) ?_
                refine lv_dup hx hb dX12_unit_178 rfl ?_
                refine rg_o_unitsInRule hx hb hts hown hK hP uw_7_61 dX12_unit_179 ?_
                refine lv_iload_n hx hb dX12_unit_182 rfl (lv_at hl 3 rfl) ?_
                refine sy_if_eq (tgt := 190) hx hb dX12_unit_183 (by decide) (by omega) (fun c9 => False.elim (by omega)) (fun c_163 => ?_)
                refine lv_iconst (v := mI 0) hx hb dX12_unit_186 rfl ?_
                refine lv_goto (tgt := 191) hx hb dX12_unit_187 (by decide) ?_
                refine sy_iadd hx hb dX12_unit_191 x_unitsInRule (by omega) ?_
                refine rp_o_unitsInRule hx hb hts hown hK hP hD hS uw_7_61 dX12_unit_192 (fun H locs hP hS => ?_)
                refine lv_iload hx hb dX12_unit_195 (lv_at hl 1 rfl) ?_
                refine sy_if_ne (tgt := 207) hx hb dX12_unit_197 (by decide) (by omega) (fun c_164 => ?_) (fun c_164 => ?_)
                · skip
                  refine lv_iconst (v := mI 0) hx hb dX12_unit_207 rfl ?_
                  refine lv_istore (lv' := [(6, .int (mI 0)), (5, .int (mI z_150)), (4, .int (mI r_146)), (3, .int (mI 1)), (2, .int (mI z_13)), (1, .int (mI z_5)), (0, .ref (a 0))]) hx hb dX12_unit_208 hl (by decide) rfl (fun ls hl => ?_)
                  refine lv_aload_n hx hb dX12_unit_210 rfl (lv_at hl 6 rfl) ?_
                  refine g_v (rDt hD) hS hA (g_V (own := "HideReaderModel") (As := []) (rest := []) hx hb hml hown hts hK hP (rDt hD) (kr_X12_goOn (l := l) (D := D) (k := k) h_x_size h_x_end h_x_number b_B_text g_E) ck_X12_goOn iv_X12_goOn uw_7_220 (rv_o hK hP) rfl hl.1 rfl (Nat.le_of_ble_eq_true rfl) dX12_unit_211 ⟨Nat.le_of_ble_eq_true rfl, Nat.le_of_ble_eq_true rfl⟩ ⟨Nat.le_of_ble_eq_true rfl, Nat.le_of_ble_eq_true rfl⟩) (fun H locs hQ hS => ?_)
                  obtain ⟨y_166, y_167, y_168, y_169, j_170, hr_165_0, hr_165_1, hr_165_2, hr_165_3, hr_165_4, hr_165_5, kr_165_E, hP⟩ := hQ
                  refine lv_iload_n hx hb dX12_unit_214 rfl (lv_at hl 4 rfl) ?_
                  refine sy_if_ne (tgt := 222) hx hb dX12_unit_215 (by decide) (by omega) (fun c_171 => ?_) (fun c9 => False.elim (by omega))
                  refine lv_aload_n hx hb dX12_unit_222 rfl (lv_at hl 6 rfl) ?_
                  refine lv_iload_n hx hb dX12_unit_223 rfl (lv_at hl 4 rfl) ?_
                  refine sy_if_eq (tgt := 231) hx hb dX12_unit_224 (by decide) (by omega) (fun c9 => False.elim (by omega)) (fun c_172 => ?_)
                  refine lv_iconst (v := mI 3) hx hb dX12_unit_227 rfl ?_
                  refine lv_goto (tgt := 233) hx hb dX12_unit_228 (by decide) ?_
                  refine lv_bipush (v := mI 126) hx hb dX12_unit_233 (by decide) ?_
                  refine g_v (rDt hD) hS hA (g_V (own := "HideReaderModel") (As := [.int (mI 3), .int (mI 126)]) (rest := []) hx hb hml hown hts hK hP (rDt hD) (kr_X12_pushE (l := l) (D := D) (k := k) (by decide) (by decide) (by omega) b_B_eWhat b_B_eSign) ck_X12_pushE iv_X12_pushE uw_8_82 (rv_o hK hP) rfl hl.1 rfl (Nat.le_of_ble_eq_true rfl) dX12_unit_235 ⟨Nat.le_of_ble_eq_true rfl, Nat.le_of_ble_eq_true rfl⟩ ⟨Nat.le_of_ble_eq_true rfl, Nat.le_of_ble_eq_true rfl⟩) (fun H locs hQ hS => ?_)
                  obtain ⟨F_174, F_175, y_176, bF_174, bF_175, hr_173_2, hr_173_3, hr_173_4, hr_173_5, hr_173_6, hP⟩ := hQ
                  refine lv_aload_n hx hb dX12_unit_238 rfl (lv_at hl 6 rfl) ?_
                  refine lv_dup hx hb dX12_unit_239 rfl ?_
                  refine rg_o_within hx hb hts hown hK hP uw_7_59 dX12_unit_240 ?_
                  refine lv_iconst (v := mI 1) hx hb dX12_unit_243 rfl ?_
                  refine sy_iadd hx hb dX12_unit_244 (x_within + 1) rfl ?_
                  refine rp_o_within hx hb hts hown hK hP hD hS uw_7_59 dX12_unit_245 (fun H locs hP hS => ?_)
                  refine lv_iconst (v := mI 1) hx hb dX12_unit_248 rfl ?_
                  exact r_z hx hb hr hlocks dX12_unit_249 hS (by decide) ⟨x_faultKind, x_faultPlace, y_166, y_167, y_168, y_169, j_170, F_161, B_code, B_codeNumber, F_174, F_175, x_codes, (x_within + 1), y_176, x_unitsInRule, by omega, by omega, by omega, by omega, by omega, by omega, by omega, bF_161, b_B_code, b_B_codeNumber, bF_174, bF_175, by omega, by omega, by omega, by omega, by omega, by omega, by omega, by omega, by omega, by omega, (eS_push gW (by omega) hr_173_5 hr_173_6 (by omega) (by omega) (by omega) (by omega) (by omega)), by omega, by omega, by omega, kr_165_E, g_Q, hP⟩
                · skip
                  refine lv_aload_n hx hb dX12_unit_200 rfl (lv_at hl 5 rfl) ?_
                  refine rg_o_number hx hb hts hown hK hP uw_7_32 dX12_unit_201 ?_
                  refine lv_goto (tgt := 208) hx hb dX12_unit_204 (by decide) ?_
                  refine lv_istore (lv' := [(6, .int (mI x_number)), (5, .int (mI z_150)), (4, .int (mI r_146)), (3, .int (mI 1)), (2, .int (mI z_13)), (1, .int (mI z_5)), (0, .ref (a 0))]) hx hb dX12_unit_208 hl (by decide) rfl (fun ls hl => ?_)
                  refine lv_aload_n hx hb dX12_unit_210 rfl (lv_at hl 6 rfl) ?_
                  refine g_v (rDt hD) hS hA (g_V (own := "HideReaderModel") (As := []) (rest := []) hx hb hml hown hts hK hP (rDt hD) (kr_X12_goOn (l := l) (D := D) (k := k) h_x_size h_x_end h_x_number b_B_text g_E) ck_X12_goOn iv_X12_goOn uw_7_220 (rv_o hK hP) rfl hl.1 rfl (Nat.le_of_ble_eq_true rfl) dX12_unit_211 ⟨Nat.le_of_ble_eq_true rfl, Nat.le_of_ble_eq_true rfl⟩ ⟨Nat.le_of_ble_eq_true rfl, Nat.le_of_ble_eq_true rfl⟩) (fun H locs hQ hS => ?_)
                  obtain ⟨y_178, y_179, y_180, y_181, j_182, hr_177_0, hr_177_1, hr_177_2, hr_177_3, hr_177_4, hr_177_5, kr_177_E, hP⟩ := hQ
                  refine lv_iload_n hx hb dX12_unit_214 rfl (lv_at hl 4 rfl) ?_
                  refine sy_if_ne (tgt := 222) hx hb dX12_unit_215 (by decide) (by omega) (fun c_183 => ?_) (fun c9 => False.elim (by omega))
                  refine lv_aload_n hx hb dX12_unit_222 rfl (lv_at hl 6 rfl) ?_
                  refine lv_iload_n hx hb dX12_unit_223 rfl (lv_at hl 4 rfl) ?_
                  refine sy_if_eq (tgt := 231) hx hb dX12_unit_224 (by decide) (by omega) (fun c9 => False.elim (by omega)) (fun c_184 => ?_)
                  refine lv_iconst (v := mI 3) hx hb dX12_unit_227 rfl ?_
                  refine lv_goto (tgt := 233) hx hb dX12_unit_228 (by decide) ?_
                  refine lv_bipush (v := mI 126) hx hb dX12_unit_233 (by decide) ?_
                  refine g_v (rDt hD) hS hA (g_V (own := "HideReaderModel") (As := [.int (mI 3), .int (mI 126)]) (rest := []) hx hb hml hown hts hK hP (rDt hD) (kr_X12_pushE (l := l) (D := D) (k := k) (by decide) (by decide) (by omega) b_B_eWhat b_B_eSign) ck_X12_pushE iv_X12_pushE uw_8_82 (rv_o hK hP) rfl hl.1 rfl (Nat.le_of_ble_eq_true rfl) dX12_unit_235 ⟨Nat.le_of_ble_eq_true rfl, Nat.le_of_ble_eq_true rfl⟩ ⟨Nat.le_of_ble_eq_true rfl, Nat.le_of_ble_eq_true rfl⟩) (fun H locs hQ hS => ?_)
                  obtain ⟨F_186, F_187, y_188, bF_186, bF_187, hr_185_2, hr_185_3, hr_185_4, hr_185_5, hr_185_6, hP⟩ := hQ
                  refine lv_aload_n hx hb dX12_unit_238 rfl (lv_at hl 6 rfl) ?_
                  refine lv_dup hx hb dX12_unit_239 rfl ?_
                  refine rg_o_within hx hb hts hown hK hP uw_7_59 dX12_unit_240 ?_
                  refine lv_iconst (v := mI 1) hx hb dX12_unit_243 rfl ?_
                  refine sy_iadd hx hb dX12_unit_244 (x_within + 1) rfl ?_
                  refine rp_o_within hx hb hts hown hK hP hD hS uw_7_59 dX12_unit_245 (fun H locs hP hS => ?_)
                  refine lv_iconst (v := mI 1) hx hb dX12_unit_248 rfl ?_
                  exact r_z hx hb hr hlocks dX12_unit_249 hS (by decide) ⟨x_faultKind, x_faultPlace, y_178, y_179, y_180, y_181, j_182, F_161, B_code, B_codeNumber, F_186, F_187, x_codes, (x_within + 1), y_188, x_unitsInRule, by omega, by omega, by omega, by omega, by omega, by omega, by omega, bF_161, b_B_code, b_B_codeNumber, bF_186, bF_187, by omega, by omega, by omega, by omega, by omega, by omega, by omega, by omega, by omega, by omega, (eS_push gW (by omega) hr_185_5 hr_185_6 (by omega) (by omega) (by omega) (by omega) (by omega)), by omega, by omega, by omega, kr_177_E, g_Q, hP⟩
            · skip
              refine lv_aload_n hx hb dX12_unit_143 rfl (lv_at hl 5 rfl) ?_
              refine g_v (rDt hD) hS hA (g_V (own := "HideReaderModel") (As := []) (rest := []) hx hb hml hown hts hK hP (rDt hD) (kr_X12_misplaced (l := l) (D := D) (k := k) (by omega) h_x_faultPlace h_x_at h_x_token) ck_X12_misplaced iv_X12_misplaced uw_8_34 (rv_o hK hP) rfl hl.1 rfl (Nat.le_of_ble_eq_true rfl) dX12_unit_144 ⟨Nat.le_of_ble_eq_true rfl, Nat.le_of_ble_eq_true rfl⟩ ⟨Nat.le_of_ble_eq_true rfl, Nat.le_of_ble_eq_true rfl⟩) (fun H locs hQ hS => ?_)
              obtain ⟨y_190, y_191, hr_189_0, hr_189_1, hr_189_2, hP⟩ := hQ
              refine lv_aload_n hx hb dX12_unit_147 rfl (lv_at hl 5 rfl) ?_
              refine g_i (rDt hD) hS hA (g_V (own := "HideReaderModel") (As := []) (rest := []) hx hb hml hown hts hK hP (rDt hD) (kr_X12_isGood (l := l) (D := D) (k := k) (by omega)) ck_X12_isGood iv_X12_isGood uw_8_18 (rv_o hK hP) rfl hl.1 rfl (Nat.le_of_ble_eq_true rfl) dX12_unit_148 ⟨Nat.le_of_ble_eq_true rfl, Nat.le_of_ble_eq_true rfl⟩ ⟨Nat.le_of_ble_eq_true rfl, Nat.le_of_ble_eq_true rfl⟩) (fun r_192 H locs hQ hS => ?_)
              obtain ⟨hq_r_192, hP⟩ := hQ
              rcases hq_r_192 with ⟨rfl, c_193_0, c_193_1⟩ | ⟨rfl, c_194_0⟩
              · skip
                refine sy_if_ne (tgt := 156) hx hb dX12_unit_151 (by decide) (by decide) (fun c9 => absurd c9 (by decide)) (fun c_195 => ?_)
                refine lv_iconst (v := mI 1) hx hb dX12_unit_154 rfl ?_
                exact r_z hx hb hr hlocks dX12_unit_155 hS (by decide) ⟨y_190, y_191, x_at, x_end, x_token, x_number, n_name, B_units, B_code, B_codeNumber, B_eWhat, B_eSign, x_codes, x_within, x_piled, x_unitsInRule, by omega, by omega, by omega, by omega, by omega, by omega, by omega, b_B_units, b_B_code, b_B_codeNumber, b_B_eWhat, b_B_eSign, by omega, by omega, by omega, by omega, by omega, by omega, by omega, by omega, by omega, by omega, (eS_f (by omega)), by omega, by omega, by omega, g_E, g_Q, hP⟩
              exact False.elim (by omega)
          · skip
            refine lv_iload hx hb dX12_unit_104 (lv_at hl 1 rfl) ?_
            refine sy_if_ne (tgt := 121) hx hb dX12_unit_106 (by decide) (by omega) (fun c_196 => ?_) (fun c_196 => ?_)
            · skip
              refine lv_iload hx hb dX12_unit_121 (lv_at hl 0 rfl) ?_
              refine sy_if_ne (tgt := 143) hx hb dX12_unit_123 (by decide) (by omega) (fun c_197 => ?_) (fun c_197 => ?_)
              · skip
                refine lv_aload_n hx hb dX12_unit_143 rfl (lv_at hl 5 rfl) ?_
                refine g_v (rDt hD) hS hA (g_V (own := "HideReaderModel") (As := []) (rest := []) hx hb hml hown hts hK hP (rDt hD) (kr_X12_misplaced (l := l) (D := D) (k := k) (by omega) h_x_faultPlace h_x_at h_x_token) ck_X12_misplaced iv_X12_misplaced uw_8_34 (rv_o hK hP) rfl hl.1 rfl (Nat.le_of_ble_eq_true rfl) dX12_unit_144 ⟨Nat.le_of_ble_eq_true rfl, Nat.le_of_ble_eq_true rfl⟩ ⟨Nat.le_of_ble_eq_true rfl, Nat.le_of_ble_eq_true rfl⟩) (fun H locs hQ hS => ?_)
                obtain ⟨y_199, y_200, hr_198_0, hr_198_1, hr_198_2, hP⟩ := hQ
                refine lv_aload_n hx hb dX12_unit_147 rfl (lv_at hl 5 rfl) ?_
                refine g_i (rDt hD) hS hA (g_V (own := "HideReaderModel") (As := []) (rest := []) hx hb hml hown hts hK hP (rDt hD) (kr_X12_isGood (l := l) (D := D) (k := k) (by omega)) ck_X12_isGood iv_X12_isGood uw_8_18 (rv_o hK hP) rfl hl.1 rfl (Nat.le_of_ble_eq_true rfl) dX12_unit_148 ⟨Nat.le_of_ble_eq_true rfl, Nat.le_of_ble_eq_true rfl⟩ ⟨Nat.le_of_ble_eq_true rfl, Nat.le_of_ble_eq_true rfl⟩) (fun r_201 H locs hQ hS => ?_)
                obtain ⟨hq_r_201, hP⟩ := hQ
                rcases hq_r_201 with ⟨rfl, c_202_0, c_202_1⟩ | ⟨rfl, c_203_0⟩
                · skip
                  refine sy_if_ne (tgt := 156) hx hb dX12_unit_151 (by decide) (by decide) (fun c9 => absurd c9 (by decide)) (fun c_204 => ?_)
                  refine lv_iconst (v := mI 1) hx hb dX12_unit_154 rfl ?_
                  exact r_z hx hb hr hlocks dX12_unit_155 hS (by decide) ⟨y_199, y_200, x_at, x_end, x_token, x_number, n_name, B_units, B_code, B_codeNumber, B_eWhat, B_eSign, x_codes, x_within, x_piled, x_unitsInRule, by omega, by omega, by omega, by omega, by omega, by omega, by omega, b_B_units, b_B_code, b_B_codeNumber, b_B_eWhat, b_B_eSign, by omega, by omega, by omega, by omega, by omega, by omega, by omega, by omega, by omega, by omega, (eS_f (by omega)), by omega, by omega, by omega, g_E, g_Q, hP⟩
                exact False.elim (by omega)
              · skip
                refine lv_iload_n hx hb dX12_unit_126 rfl (lv_at hl 3 rfl) ?_
                refine sy_if_ne (tgt := 134) hx hb dX12_unit_127 (by decide) (by omega) (fun c9 => False.elim (by omega)) (fun c_205 => ?_)
                refine lv_iload_n hx hb dX12_unit_130 rfl (lv_at hl 2 rfl) ?_
                refine sy_if_eq (tgt := 147) hx hb dX12_unit_131 (by decide) (by decide) (fun c9 => absurd c9 (by decide)) (fun c_206 => ?_)
                refine lv_aload_n hx hb dX12_unit_134 rfl (lv_at hl 5 rfl) ?_
                refine rg_o_within hx hb hts hown hK hP uw_7_59 dX12_unit_135 ?_
                refine lv_bipush (v := mI 7) hx hb dX12_unit_138 (by decide) ?_
                refine sy_icmp_ne (tgt := 147) hx hb dX12_unit_140 (by decide) (by omega) (by decide) (fun c_207 => ?_) (fun c_207 => ?_)
                · skip
                  refine lv_aload_n hx hb dX12_unit_147 rfl (lv_at hl 5 rfl) ?_
                  refine g_i (rDt hD) hS hA (g_V (own := "HideReaderModel") (As := []) (rest := []) hx hb hml hown hts hK hP (rDt hD) (kr_X12_isGood (l := l) (D := D) (k := k) (by omega)) ck_X12_isGood iv_X12_isGood uw_8_18 (rv_o hK hP) rfl hl.1 rfl (Nat.le_of_ble_eq_true rfl) dX12_unit_148 ⟨Nat.le_of_ble_eq_true rfl, Nat.le_of_ble_eq_true rfl⟩ ⟨Nat.le_of_ble_eq_true rfl, Nat.le_of_ble_eq_true rfl⟩) (fun r_208 H locs hQ hS => ?_)
                  obtain ⟨hq_r_208, hP⟩ := hQ
                  rcases hq_r_208 with ⟨rfl, c_209_0, c_209_1⟩ | ⟨rfl, c_210_0⟩
                  exact False.elim (by omega)
                  · skip
                    refine sy_if_ne (tgt := 156) hx hb dX12_unit_151 (by decide) (by decide) (fun c_211 => ?_) (fun c9 => absurd c9 (by decide))
                    refine lv_aload_n hx hb dX12_unit_156 rfl (lv_at hl 5 rfl) ?_
                    refine rg_o_units hx hb hts hown hK hP uw_7_38 dX12_unit_157 ?_
                    refine lv_aload_n hx hb dX12_unit_160 rfl (lv_at hl 5 rfl) ?_
                    refine rg_o_rb hx hb hts hown hK hP uw_7_57 dX12_unit_161 ?_
                    refine lv_dup2_11 hx hb dX12_unit_164 rfl rfl ?_
                    refine rl_units hx hb hK hP dX12_unit_165 (by omega) b_B_units (fun z_212 ez_212 hz_212 => ?_)
                    refine lv_iload_n hx hb dX12_unit_166 rfl (lv_at hl 3 rfl) ?_
                    refine sy_if_eq (tgt := 174) hx hb dX12_unit_167 (by decide) (by omega) (fun c_213 => ?_) (fun c9 => False.elim (by omega))
                    refine lv_iconst (v := mI 1) hx hb dX12_unit_174 rfl ?_
                    refine sy_iadd hx hb dX12_unit_175 (z_212 + 1) rfl ?_
                    refine rs_units hx hb hK hP hD hS dX12_unit_176 (by omega) b_B_units (by omega) (fun F_214 H locs eF_214 bF_214 hP hS => ?_)
                    have h_215 : F_214 x_rb.toNat = z_212 + 1 := by rw [eF_214, ud_s]
                    refine lv_aload_n hx hb dX12_unit_177 rfl (lv_at hl 5 rfl) ?_
                    refine lv_dup hx hb dX12_unit_178 rfl ?_
                    refine rg_o_unitsInRule hx hb hts hown hK hP uw_7_61 dX12_unit_179 ?_
                    refine lv_iload_n hx hb dX12_unit_182 rfl (lv_at hl 3 rfl) ?_
                    refine sy_if_eq (tgt := 190) hx hb dX12_unit_183 (by decide) (by omega) (fun c_216 => ?_) (fun c9 => False.elim (by omega))
                    refine lv_iconst (v := mI 1) hx hb dX12_unit_190 rfl ?_
                    refine sy_iadd hx hb dX12_unit_191 (x_unitsInRule + 1) rfl ?_
                    refine rp_o_unitsInRule hx hb hts hown hK hP hD hS uw_7_61 dX12_unit_192 (fun H locs hP hS => ?_)
                    refine lv_iload hx hb dX12_unit_195 (lv_at hl 1 rfl) ?_
                    refine sy_if_ne (tgt := 207) hx hb dX12_unit_197 (by decide) (by omega) (fun c_217 => ?_) (fun c9 => False.elim (by omega))
                    refine lv_iconst (v := mI 0) hx hb dX12_unit_207 rfl ?_
                    refine lv_istore (lv' := [(6, .int (mI 0)), (5, .int (mI z_150)), (4, .int (mI r_146)), (3, .int (mI 1)), (2, .int (mI z_13)), (1, .int (mI z_5)), (0, .ref (a 0))]) hx hb dX12_unit_208 hl (by decide) rfl (fun ls hl => ?_)
                    refine lv_aload_n hx hb dX12_unit_210 rfl (lv_at hl 6 rfl) ?_
                    refine g_v (rDt hD) hS hA (g_V (own := "HideReaderModel") (As := []) (rest := []) hx hb hml hown hts hK hP (rDt hD) (kr_X12_goOn (l := l) (D := D) (k := k) h_x_size h_x_end h_x_number b_B_text g_E) ck_X12_goOn iv_X12_goOn uw_7_220 (rv_o hK hP) rfl hl.1 rfl (Nat.le_of_ble_eq_true rfl) dX12_unit_211 ⟨Nat.le_of_ble_eq_true rfl, Nat.le_of_ble_eq_true rfl⟩ ⟨Nat.le_of_ble_eq_true rfl, Nat.le_of_ble_eq_true rfl⟩) (fun H locs hQ hS => ?_)
                    obtain ⟨y_219, y_220, y_221, y_222, j_223, hr_218_0, hr_218_1, hr_218_2, hr_218_3, hr_218_4, hr_218_5, kr_218_E, hP⟩ := hQ
                    refine lv_iload_n hx hb dX12_unit_214 rfl (lv_at hl 4 rfl) ?_
                    refine sy_if_ne (tgt := 222) hx hb dX12_unit_215 (by decide) (by omega) (fun c9 => False.elim (by omega)) (fun c_224 => ?_)
                    refine lv_iload_n hx hb dX12_unit_218 rfl (lv_at hl 3 rfl) ?_
                    refine sy_if_eq (tgt := 250) hx hb dX12_unit_219 (by decide) (by decide) (fun c9 => absurd c9 (by decide)) (fun c_225 => ?_)
                    refine lv_aload_n hx hb dX12_unit_222 rfl (lv_at hl 6 rfl) ?_
                    refine lv_iload_n hx hb dX12_unit_223 rfl (lv_at hl 4 rfl) ?_
                    refine sy_if_eq (tgt := 231) hx hb dX12_unit_224 (by decide) (by omega) (fun c_226 => ?_) (fun c9 => False.elim (by omega))
                    refine lv_bipush (v := mI 7) hx hb dX12_unit_231 (by decide) ?_
                    refine lv_bipush (v := mI 126) hx hb dX12_unit_233 (by decide) ?_
                    refine g_v (rDt hD) hS hA (g_V (own := "HideReaderModel") (As := [.int (mI 7), .int (mI 126)]) (rest := []) hx hb hml hown hts hK hP (rDt hD) (kr_X12_pushE (l := l) (D := D) (k := k) (by decide) (by decide) (by omega) b_B_eWhat b_B_eSign) ck_X12_pushE iv_X12_pushE uw_8_82 (rv_o hK hP) rfl hl.1 rfl (Nat.le_of_ble_eq_true rfl) dX12_unit_235 ⟨Nat.le_of_ble_eq_true rfl, Nat.le_of_ble_eq_true rfl⟩ ⟨Nat.le_of_ble_eq_true rfl, Nat.le_of_ble_eq_true rfl⟩) (fun H locs hQ hS => ?_)
                    obtain ⟨F_228, F_229, y_230, bF_228, bF_229, hr_227_2, hr_227_3, hr_227_4, hr_227_5, hr_227_6, hP⟩ := hQ
                    refine lv_aload_n hx hb dX12_unit_238 rfl (lv_at hl 6 rfl) ?_
                    refine lv_dup hx hb dX12_unit_239 rfl ?_
                    refine rg_o_within hx hb hts hown hK hP uw_7_59 dX12_unit_240 ?_
                    refine lv_iconst (v := mI 1) hx hb dX12_unit_243 rfl ?_
                    refine sy_iadd hx hb dX12_unit_244 (x_within + 1) rfl ?_
                    refine rp_o_within hx hb hts hown hK hP hD hS uw_7_59 dX12_unit_245 (fun H locs hP hS => ?_)
                    refine lv_iconst (v := mI 1) hx hb dX12_unit_248 rfl ?_
                    exact r_z hx hb hr hlocks dX12_unit_249 hS (by decide) ⟨x_faultKind, x_faultPlace, y_219, y_220, y_221, y_222, j_223, F_214, B_code, B_codeNumber, F_228, F_229, x_codes, (x_within + 1), y_230, (x_unitsInRule + 1), by omega, by omega, by omega, by omega, by omega, by omega, by omega, bF_214, b_B_code, b_B_codeNumber, bF_228, bF_229, by omega, by omega, by omega, by omega, by omega, by omega, by omega, by omega, by omega, by omega, (eS_push gW (by omega) hr_227_5 hr_227_6 (by omega) (by omega) (by omega) (by omega) (by omega)), by omega, by omega, by omega, kr_218_E, g_Q, hP⟩
                · skip
                  refine lv_aload_n hx hb dX12_unit_143 rfl (lv_at hl 5 rfl) ?_
                  refine g_v (rDt hD) hS hA (g_V (own := "HideReaderModel") (As := []) (rest := []) hx hb hml hown hts hK hP (rDt hD) (kr_X12_misplaced (l := l) (D := D) (k := k) (by omega) h_x_faultPlace h_x_at h_x_token) ck_X12_misplaced iv_X12_misplaced uw_8_34 (rv_o hK hP) rfl hl.1 rfl (Nat.le_of_ble_eq_true rfl) dX12_unit_144 ⟨Nat.le_of_ble_eq_true rfl, Nat.le_of_ble_eq_true rfl⟩ ⟨Nat.le_of_ble_eq_true rfl, Nat.le_of_ble_eq_true rfl⟩) (fun H locs hQ hS => ?_)
                  obtain ⟨y_232, y_233, hr_231_0, hr_231_1, hr_231_2, hP⟩ := hQ
                  refine lv_aload_n hx hb dX12_unit_147 rfl (lv_at hl 5 rfl) ?_
                  refine g_i (rDt hD) hS hA (g_V (own := "HideReaderModel") (As := []) (rest := []) hx hb hml hown hts hK hP (rDt hD) (kr_X12_isGood (l := l) (D := D) (k := k) (by omega)) ck_X12_isGood iv_X12_isGood uw_8_18 (rv_o hK hP) rfl hl.1 rfl (Nat.le_of_ble_eq_true rfl) dX12_unit_148 ⟨Nat.le_of_ble_eq_true rfl, Nat.le_of_ble_eq_true rfl⟩ ⟨Nat.le_of_ble_eq_true rfl, Nat.le_of_ble_eq_true rfl⟩) (fun r_234 H locs hQ hS => ?_)
                  obtain ⟨hq_r_234, hP⟩ := hQ
                  rcases hq_r_234 with ⟨rfl, c_235_0, c_235_1⟩ | ⟨rfl, c_236_0⟩
                  · skip
                    refine sy_if_ne (tgt := 156) hx hb dX12_unit_151 (by decide) (by decide) (fun c9 => absurd c9 (by decide)) (fun c_237 => ?_)
                    refine lv_iconst (v := mI 1) hx hb dX12_unit_154 rfl ?_
                    exact r_z hx hb hr hlocks dX12_unit_155 hS (by decide) ⟨y_232, y_233, x_at, x_end, x_token, x_number, n_name, B_units, B_code, B_codeNumber, B_eWhat, B_eSign, x_codes, x_within, x_piled, x_unitsInRule, by omega, by omega, by omega, by omega, by omega, by omega, by omega, b_B_units, b_B_code, b_B_codeNumber, b_B_eWhat, b_B_eSign, by omega, by omega, by omega, by omega, by omega, by omega, by omega, by omega, by omega, by omega, (eS_f (by omega)), by omega, by omega, by omega, g_E, g_Q, hP⟩
                  exact False.elim (by omega)
            · skip
              refine lv_aload_n hx hb dX12_unit_109 rfl (lv_at hl 5 rfl) ?_
              refine rg_o_token hx hb hts hown hK hP uw_7_31 dX12_unit_110 ?_
              refine lv_iconst (v := mI 4) hx hb dX12_unit_113 rfl ?_
              refine sy_icmp_eq (tgt := 121) hx hb dX12_unit_114 (by decide) (by omega) (by decide) (fun c9 => False.elim (by omega)) (fun c_238 => ?_)
              refine lv_iload_n hx hb dX12_unit_117 rfl (lv_at hl 2 rfl) ?_
              refine sy_if_eq (tgt := 143) hx hb dX12_unit_118 (by decide) (by decide) (fun c9 => absurd c9 (by decide)) (fun c_239 => ?_)
              refine lv_iload hx hb dX12_unit_121 (lv_at hl 0 rfl) ?_
              refine sy_if_ne (tgt := 143) hx hb dX12_unit_123 (by decide) (by omega) (fun c_240 => ?_) (fun c_240 => ?_)
              · skip
                refine lv_aload_n hx hb dX12_unit_143 rfl (lv_at hl 5 rfl) ?_
                refine g_v (rDt hD) hS hA (g_V (own := "HideReaderModel") (As := []) (rest := []) hx hb hml hown hts hK hP (rDt hD) (kr_X12_misplaced (l := l) (D := D) (k := k) (by omega) h_x_faultPlace h_x_at h_x_token) ck_X12_misplaced iv_X12_misplaced uw_8_34 (rv_o hK hP) rfl hl.1 rfl (Nat.le_of_ble_eq_true rfl) dX12_unit_144 ⟨Nat.le_of_ble_eq_true rfl, Nat.le_of_ble_eq_true rfl⟩ ⟨Nat.le_of_ble_eq_true rfl, Nat.le_of_ble_eq_true rfl⟩) (fun H locs hQ hS => ?_)
                obtain ⟨y_242, y_243, hr_241_0, hr_241_1, hr_241_2, hP⟩ := hQ
                refine lv_aload_n hx hb dX12_unit_147 rfl (lv_at hl 5 rfl) ?_
                refine g_i (rDt hD) hS hA (g_V (own := "HideReaderModel") (As := []) (rest := []) hx hb hml hown hts hK hP (rDt hD) (kr_X12_isGood (l := l) (D := D) (k := k) (by omega)) ck_X12_isGood iv_X12_isGood uw_8_18 (rv_o hK hP) rfl hl.1 rfl (Nat.le_of_ble_eq_true rfl) dX12_unit_148 ⟨Nat.le_of_ble_eq_true rfl, Nat.le_of_ble_eq_true rfl⟩ ⟨Nat.le_of_ble_eq_true rfl, Nat.le_of_ble_eq_true rfl⟩) (fun r_244 H locs hQ hS => ?_)
                obtain ⟨hq_r_244, hP⟩ := hQ
                rcases hq_r_244 with ⟨rfl, c_245_0, c_245_1⟩ | ⟨rfl, c_246_0⟩
                · skip
                  refine sy_if_ne (tgt := 156) hx hb dX12_unit_151 (by decide) (by decide) (fun c9 => absurd c9 (by decide)) (fun c_247 => ?_)
                  refine lv_iconst (v := mI 1) hx hb dX12_unit_154 rfl ?_
                  exact r_z hx hb hr hlocks dX12_unit_155 hS (by decide) ⟨y_242, y_243, x_at, x_end, x_token, x_number, n_name, B_units, B_code, B_codeNumber, B_eWhat, B_eSign, x_codes, x_within, x_piled, x_unitsInRule, by omega, by omega, by omega, by omega, by omega, by omega, by omega, b_B_units, b_B_code, b_B_codeNumber, b_B_eWhat, b_B_eSign, by omega, by omega, by omega, by omega, by omega, by omega, by omega, by omega, by omega, by omega, (eS_f (by omega)), by omega, by omega, by omega, g_E, g_Q, hP⟩
                exact False.elim (by omega)
              · skip
                refine lv_iload_n hx hb dX12_unit_126 rfl (lv_at hl 3 rfl) ?_
                refine sy_if_ne (tgt := 134) hx hb dX12_unit_127 (by decide) (by omega) (fun c9 => False.elim (by omega)) (fun c_248 => ?_)
                refine lv_iload_n hx hb dX12_unit_130 rfl (lv_at hl 2 rfl) ?_
                refine sy_if_eq (tgt := 147) hx hb dX12_unit_131 (by decide) (by decide) (fun c9 => absurd c9 (by decide)) (fun c_249 => ?_)
                refine lv_aload_n hx hb dX12_unit_134 rfl (lv_at hl 5 rfl) ?_
                refine rg_o_within hx hb hts hown hK hP uw_7_59 dX12_unit_135 ?_
                refine lv_bipush (v := mI 7) hx hb dX12_unit_138 (by decide) ?_
                refine sy_icmp_ne (tgt := 147) hx hb dX12_unit_140 (by decide) (by omega) (by decide) (fun c_250 => ?_) (fun c_250 => ?_)
                · skip
                  refine lv_aload_n hx hb dX12_unit_147 rfl (lv_at hl 5 rfl) ?_
                  refine g_i (rDt hD) hS hA (g_V (own := "HideReaderModel") (As := []) (rest := []) hx hb hml hown hts hK hP (rDt hD) (kr_X12_isGood (l := l) (D := D) (k := k) (by omega)) ck_X12_isGood iv_X12_isGood uw_8_18 (rv_o hK hP) rfl hl.1 rfl (Nat.le_of_ble_eq_true rfl) dX12_unit_148 ⟨Nat.le_of_ble_eq_true rfl, Nat.le_of_ble_eq_true rfl⟩ ⟨Nat.le_of_ble_eq_true rfl, Nat.le_of_ble_eq_true rfl⟩) (fun r_251 H locs hQ hS => ?_)
                  obtain ⟨hq_r_251, hP⟩ := hQ
                  rcases hq_r_251 with ⟨rfl, c_252_0, c_252_1⟩ | ⟨rfl, c_253_0⟩
                  exact False.elim (by omega)
                  · skip
                    refine sy_if_ne (tgt := 156) hx hb dX12_unit_151 (by decide) (by decide) (fun c_254 => ?_) (fun c9 => absurd c9 (by decide))
                    refine lv_aload_n hx hb dX12_unit_156 rfl (lv_at hl 5 rfl) ?_
                    refine rg_o_units hx hb hts hown hK hP uw_7_38 dX12_unit_157 ?_
                    refine lv_aload_n hx hb dX12_unit_160 rfl (lv_at hl 5 rfl) ?_
                    refine rg_o_rb hx hb hts hown hK hP uw_7_57 dX12_unit_161 ?_
                    refine lv_dup2_11 hx hb dX12_unit_164 rfl rfl ?_
                    refine rl_units hx hb hK hP dX12_unit_165 (by omega) b_B_units (fun z_255 ez_255 hz_255 => ?_)
                    refine lv_iload_n hx hb dX12_unit_166 rfl (lv_at hl 3 rfl) ?_
                    refine sy_if_eq (tgt := 174) hx hb dX12_unit_167 (by decide) (by omega) (fun c_256 => ?_) (fun c9 => False.elim (by omega))
                    refine lv_iconst (v := mI 1) hx hb dX12_unit_174 rfl ?_
                    refine sy_iadd hx hb dX12_unit_175 (z_255 + 1) rfl ?_
                    refine rs_units hx hb hK hP hD hS dX12_unit_176 (by omega) b_B_units (by omega) (fun F_257 H locs eF_257 bF_257 hP hS => ?_)
                    have h_258 : F_257 x_rb.toNat = z_255 + 1 := by rw [eF_257, ud_s]
                    refine lv_aload_n hx hb dX12_unit_177 rfl (lv_at hl 5 rfl) ?_
                    refine lv_dup hx hb dX12_unit_178 rfl ?_
                    refine rg_o_unitsInRule hx hb hts hown hK hP uw_7_61 dX12_unit_179 ?_
                    refine lv_iload_n hx hb dX12_unit_182 rfl (lv_at hl 3 rfl) ?_
                    refine sy_if_eq (tgt := 190) hx hb dX12_unit_183 (by decide) (by omega) (fun c_259 => ?_) (fun c9 => False.elim (by omega))
                    refine lv_iconst (v := mI 1) hx hb dX12_unit_190 rfl ?_
                    refine sy_iadd hx hb dX12_unit_191 (x_unitsInRule + 1) rfl ?_
                    refine rp_o_unitsInRule hx hb hts hown hK hP hD hS uw_7_61 dX12_unit_192 (fun H locs hP hS => ?_)
                    refine lv_iload hx hb dX12_unit_195 (lv_at hl 1 rfl) ?_
                    refine sy_if_ne (tgt := 207) hx hb dX12_unit_197 (by decide) (by omega) (fun c9 => False.elim (by omega)) (fun c_260 => ?_)
                    refine lv_aload_n hx hb dX12_unit_200 rfl (lv_at hl 5 rfl) ?_
                    refine rg_o_number hx hb hts hown hK hP uw_7_32 dX12_unit_201 ?_
                    refine lv_goto (tgt := 208) hx hb dX12_unit_204 (by decide) ?_
                    refine lv_istore (lv' := [(6, .int (mI x_number)), (5, .int (mI z_150)), (4, .int (mI r_146)), (3, .int (mI 1)), (2, .int (mI z_13)), (1, .int (mI z_5)), (0, .ref (a 0))]) hx hb dX12_unit_208 hl (by decide) rfl (fun ls hl => ?_)
                    refine lv_aload_n hx hb dX12_unit_210 rfl (lv_at hl 6 rfl) ?_
                    refine g_v (rDt hD) hS hA (g_V (own := "HideReaderModel") (As := []) (rest := []) hx hb hml hown hts hK hP (rDt hD) (kr_X12_goOn (l := l) (D := D) (k := k) h_x_size h_x_end h_x_number b_B_text g_E) ck_X12_goOn iv_X12_goOn uw_7_220 (rv_o hK hP) rfl hl.1 rfl (Nat.le_of_ble_eq_true rfl) dX12_unit_211 ⟨Nat.le_of_ble_eq_true rfl, Nat.le_of_ble_eq_true rfl⟩ ⟨Nat.le_of_ble_eq_true rfl, Nat.le_of_ble_eq_true rfl⟩) (fun H locs hQ hS => ?_)
                    obtain ⟨y_262, y_263, y_264, y_265, j_266, hr_261_0, hr_261_1, hr_261_2, hr_261_3, hr_261_4, hr_261_5, kr_261_E, hP⟩ := hQ
                    refine lv_iload_n hx hb dX12_unit_214 rfl (lv_at hl 4 rfl) ?_
                    refine sy_if_ne (tgt := 222) hx hb dX12_unit_215 (by decide) (by omega) (fun c9 => False.elim (by omega)) (fun c_267 => ?_)
                    refine lv_iload_n hx hb dX12_unit_218 rfl (lv_at hl 3 rfl) ?_
                    refine sy_if_eq (tgt := 250) hx hb dX12_unit_219 (by decide) (by decide) (fun c9 => absurd c9 (by decide)) (fun c_268 => ?_)
                    refine lv_aload_n hx hb dX12_unit_222 rfl (lv_at hl 6 rfl) ?_
                    refine lv_iload_n hx hb dX12_unit_223 rfl (lv_at hl 4 rfl) ?_
                    refine sy_if_eq (tgt := 231) hx hb dX12_unit_224 (by decide) (by omega) (fun c_269 => ?_) (fun c9 => False.elim (by omega))
                    refine lv_bipush (v := mI 7) hx hb dX12_unit_231 (by decide) ?_
                    refine lv_bipush (v := mI 126) hx hb dX12_unit_233 (by decide) ?_
                    refine g_v (rDt hD) hS hA (g_V (own := "HideReaderModel") (As := [.int (mI 7), .int (mI 126)]) (rest := []) hx hb hml hown hts hK hP (rDt hD) (kr_X12_pushE (l := l) (D := D) (k := k) (by decide) (by decide) (by omega) b_B_eWhat b_B_eSign) ck_X12_pushE iv_X12_pushE uw_8_82 (rv_o hK hP) rfl hl.1 rfl (Nat.le_of_ble_eq_true rfl) dX12_unit_235 ⟨Nat.le_of_ble_eq_true rfl, Nat.le_of_ble_eq_true rfl⟩ ⟨Nat.le_of_ble_eq_true rfl, Nat.le_of_ble_eq_true rfl⟩) (fun H locs hQ hS => ?_)
                    obtain ⟨F_271, F_272, y_273, bF_271, bF_272, hr_270_2, hr_270_3, hr_270_4, hr_270_5, hr_270_6, hP⟩ := hQ
                    refine lv_aload_n hx hb dX12_unit_238 rfl (lv_at hl 6 rfl) ?_
                    refine lv_dup hx hb dX12_unit_239 rfl ?_
                    refine rg_o_within hx hb hts hown hK hP uw_7_59 dX12_unit_240 ?_
                    refine lv_iconst (v := mI 1) hx hb dX12_unit_243 rfl ?_
                    refine sy_iadd hx hb dX12_unit_244 (x_within + 1) rfl ?_
                    refine rp_o_within hx hb hts hown hK hP hD hS uw_7_59 dX12_unit_245 (fun H locs hP hS => ?_)
                    refine lv_iconst (v := mI 1) hx hb dX12_unit_248 rfl ?_
                    exact r_z hx hb hr hlocks dX12_unit_249 hS (by decide) ⟨x_faultKind, x_faultPlace, y_262, y_263, y_264, y_265, j_266, F_257, B_code, B_codeNumber, F_271, F_272, x_codes, (x_within + 1), y_273, (x_unitsInRule + 1), by omega, by omega, by omega, by omega, by omega, by omega, by omega, bF_257, b_B_code, b_B_codeNumber, bF_271, bF_272, by omega, by omega, by omega, by omega, by omega, by omega, by omega, by omega, by omega, by omega, (eS_push gW (by omega) hr_270_5 hr_270_6 (by omega) (by omega) (by omega) (by omega) (by omega)), by omega, by omega, by omega, kr_261_E, g_Q, hP⟩
                · skip
                  refine lv_aload_n hx hb dX12_unit_143 rfl (lv_at hl 5 rfl) ?_
                  refine g_v (rDt hD) hS hA (g_V (own := "HideReaderModel") (As := []) (rest := []) hx hb hml hown hts hK hP (rDt hD) (kr_X12_misplaced (l := l) (D := D) (k := k) (by omega) h_x_faultPlace h_x_at h_x_token) ck_X12_misplaced iv_X12_misplaced uw_8_34 (rv_o hK hP) rfl hl.1 rfl (Nat.le_of_ble_eq_true rfl) dX12_unit_144 ⟨Nat.le_of_ble_eq_true rfl, Nat.le_of_ble_eq_true rfl⟩ ⟨Nat.le_of_ble_eq_true rfl, Nat.le_of_ble_eq_true rfl⟩) (fun H locs hQ hS => ?_)
                  obtain ⟨y_275, y_276, hr_274_0, hr_274_1, hr_274_2, hP⟩ := hQ
                  refine lv_aload_n hx hb dX12_unit_147 rfl (lv_at hl 5 rfl) ?_
                  refine g_i (rDt hD) hS hA (g_V (own := "HideReaderModel") (As := []) (rest := []) hx hb hml hown hts hK hP (rDt hD) (kr_X12_isGood (l := l) (D := D) (k := k) (by omega)) ck_X12_isGood iv_X12_isGood uw_8_18 (rv_o hK hP) rfl hl.1 rfl (Nat.le_of_ble_eq_true rfl) dX12_unit_148 ⟨Nat.le_of_ble_eq_true rfl, Nat.le_of_ble_eq_true rfl⟩ ⟨Nat.le_of_ble_eq_true rfl, Nat.le_of_ble_eq_true rfl⟩) (fun r_277 H locs hQ hS => ?_)
                  obtain ⟨hq_r_277, hP⟩ := hQ
                  rcases hq_r_277 with ⟨rfl, c_278_0, c_278_1⟩ | ⟨rfl, c_279_0⟩
                  · skip
                    refine sy_if_ne (tgt := 156) hx hb dX12_unit_151 (by decide) (by decide) (fun c9 => absurd c9 (by decide)) (fun c_280 => ?_)
                    refine lv_iconst (v := mI 1) hx hb dX12_unit_154 rfl ?_
                    exact r_z hx hb hr hlocks dX12_unit_155 hS (by decide) ⟨y_275, y_276, x_at, x_end, x_token, x_number, n_name, B_units, B_code, B_codeNumber, B_eWhat, B_eSign, x_codes, x_within, x_piled, x_unitsInRule, by omega, by omega, by omega, by omega, by omega, by omega, by omega, b_B_units, b_B_code, b_B_codeNumber, b_B_eWhat, b_B_eSign, by omega, by omega, by omega, by omega, by omega, by omega, by omega, by omega, by omega, by omega, (eS_f (by omega)), by omega, by omega, by omega, g_E, g_Q, hP⟩
                  exact False.elim (by omega)
        · skip
          intro J_151
          refine sy_icmp_eq (tgt := 93) hx hb dX12_unit_81 (by decide) (by omega) (by decide) (fun c_281 => ?_) (fun c_281 => ?_)
          · skip
            refine lv_iconst (v := mI 1) hx hb dX12_unit_93 rfl ?_
            refine lv_goto (tgt := 98) hx hb dX12_unit_94 (by decide) ?_
            exact J_151 _ _ _ ⟨1, _, by omega, by omega, hP, hS, lv_sub hl [0, 1, 2, 3, 4] rfl, rfl⟩
          · skip
            refine lv_aload_n hx hb dX12_unit_84 rfl (lv_at hl 4 rfl) ?_
            refine rg_o_unitsInRule hx hb hts hown hK hP uw_7_61 dX12_unit_85 ?_
            refine lv_bipush (v := mI 30) hx hb dX12_unit_88 (by decide) ?_
            refine sy_icmp_ne (tgt := 97) hx hb dX12_unit_90 (by decide) (by omega) (by decide) (fun c_282 => ?_) (fun c_282 => ?_)
            · skip
              refine lv_iconst (v := mI 0) hx hb dX12_unit_97 rfl ?_
              exact J_151 _ _ _ ⟨0, _, by omega, by omega, hP, hS, lv_sub hl [0, 1, 2, 3, 4] rfl, rfl⟩
            · skip
              refine lv_iconst (v := mI 1) hx hb dX12_unit_93 rfl ?_
              refine lv_goto (tgt := 98) hx hb dX12_unit_94 (by decide) ?_
              exact J_151 _ _ _ ⟨1, _, by omega, by omega, hP, hS, lv_sub hl [0, 1, 2, 3, 4] rfl, rfl⟩
    · skip
      intro J_14
      refine sy_if_eq (tgt := 55) hx hb dX12_unit_38 (by decide) (by omega) (fun c_283 => ?_) (fun c_283 => ?_)
      · skip
        refine lv_iconst (v := mI 0) hx hb dX12_unit_55 rfl ?_
        exact J_14 _ _ _ ⟨0, _, by omega, by omega, hP, hS, lv_sub hl [0, 1] rfl, rfl⟩
      · skip
        refine lv_aload_n hx hb dX12_unit_41 rfl (lv_at hl 1 rfl) ?_
        refine lv_ldc2 (own := "HideReaderModel") (v := 7237492) hx hb hown (hts _ uw_8_11) dX12_unit_42 ?_
        refine g_i (rDt hD) hS hA (g_V (own := "HideReaderModel") (As := [.long 7237492]) (rest := []) hx hb hml hown hts hK hP (rDt hD) (kr_X12_isWord (l := l) (D := D) (k := k) h_x_token) ck_X12_isWord iv_X12_isWord uw_8_30 (rv_o hK hP) rfl hl.1 rfl (Nat.le_of_ble_eq_true rfl) dX12_unit_45 ⟨Nat.le_of_ble_eq_true rfl, Nat.le_of_ble_eq_true rfl⟩ ⟨Nat.le_of_ble_eq_true rfl, Nat.le_of_ble_eq_true rfl⟩) (fun r_284 H locs hQ hS => ?_)
        obtain ⟨hq_r_284, hP⟩ := hQ
        rcases hq_r_284 with ⟨rfl, c_285_0, c_285_1⟩ | ⟨rfl, c_286_0, c_286_1⟩
        · skip
          refine sy_if_eq (tgt := 55) hx hb dX12_unit_48 (by decide) (by decide) (fun c_287 => ?_) (fun c9 => absurd c9 (by decide))
          refine lv_iconst (v := mI 0) hx hb dX12_unit_55 rfl ?_
          exact J_14 _ _ _ ⟨0, _, by omega, by omega, hP, hS, lv_sub hl [0, 1] rfl, rfl⟩
        · skip
          refine sy_if_eq (tgt := 55) hx hb dX12_unit_48 (by decide) (by decide) (fun c9 => absurd c9 (by decide)) (fun c_288 => ?_)
          refine lv_iconst (v := mI 1) hx hb dX12_unit_51 rfl ?_
          refine lv_goto (tgt := 56) hx hb dX12_unit_52 (by decide) ?_
          exact J_14 _ _ _ ⟨1, _, by omega, by omega, hP, hS, lv_sub hl [0, 1] rfl, rfl⟩
  · skip
    intro J_6
    refine sy_icmp_le (tgt := 31) hx hb dX12_unit_12 (by decide) (by omega) (by decide) (fun c_289 => ?_) (fun c_289 => ?_)
    · skip
      refine lv_iconst (v := mI 1) hx hb dX12_unit_31 rfl ?_
      refine lv_goto (tgt := 36) hx hb dX12_unit_32 (by decide) ?_
      exact J_6 _ _ _ ⟨1, _, by omega, hP, hS, lv_sub hl [0] rfl, rfl⟩
    · skip
      refine lv_aload_n hx hb dX12_unit_15 rfl (lv_at hl 0 rfl) ?_
      refine rg_o_eWhat hx hb hts hown hK hP uw_7_53 dX12_unit_16 ?_
      refine lv_aload_n hx hb dX12_unit_19 rfl (lv_at hl 0 rfl) ?_
      refine rg_o_piled hx hb hts hown hK hP uw_7_60 dX12_unit_20 ?_
      refine lv_iconst (v := mI 1) hx hb dX12_unit_23 rfl ?_
      refine sy_isub hx hb dX12_unit_24 (x_piled - 1) rfl ?_
      refine rl_eWhat hx hb hK hP dX12_unit_25 (by omega) b_B_eWhat (fun z_290 ez_290 hz_290 => ?_)
      refine lv_bipush (v := mI 7) hx hb dX12_unit_26 (by decide) ?_
      refine sy_icmp_lt (tgt := 35) hx hb dX12_unit_28 (by decide) (by omega) (by decide) (fun c_291 => ?_) (fun c_291 => ?_)
      · skip
        refine lv_iconst (v := mI 0) hx hb dX12_unit_35 rfl ?_
        exact J_6 _ _ _ ⟨0, _, by omega, hP, hS, lv_sub hl [0] rfl, rfl⟩
      · skip
        refine lv_iconst (v := mI 1) hx hb dX12_unit_31 rfl ?_
        refine lv_goto (tgt := 36) hx hb dX12_unit_32 (by decide) ?_
        exact J_6 _ _ _ ⟨1, _, by omega, hP, hS, lv_sub hl [0] rfl, rfl⟩
end Kr
