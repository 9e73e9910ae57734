section Kr
variable {l : Launch} {D : va_G} {k : Nat → ClassId} {a : Nat → Nat} {ex : va_W} {x_taped x_size x_faultKind x_faultPlace x_at x_end x_token x_number x_bank x_rb x_codes x_within x_piled x_unitsInRule x_askBeast x_askStroke x_askAge x_askSeason x_acts x_undone x_laid x_seens x_time x_fitting : Int} {n_name : Int64} {B_tape B_text B_turns B_herds B_irons B_beasts B_units B_night B_draw B_told B_brands B_ironMarks B_herdTold B_born B_ruleFrom B_ruleTo B_code B_codeNumber B_eWhat B_eSign B_pile B_all B_burned B_was B_need B_laidRow B_long8 B_brings B_sBurning B_sStroke B_sIs B_sTold B_sUntold B_parts B_boxAll B_isBoxed : Nat → Int} {G_hName G_iName G_bName : Nat → Int64}
set_option maxHeartbeats 4000000 in
set_option maxRecDepth 100000 in
theorem kr_X12_sign {p0 : Int} (hp0 : 0 ≤ p0 ∧ p0 ≤ 2000) (h_x_size : 0 ≤ x_size ∧ x_size ≤ 1600) (b_B_text : bd (-128) 127 B_text) : MetG l D k yX12_sign cX12_sign 2 (some .int) 0 [.ref (a 0), .int (mI p0)] (rW k a x_taped x_size x_faultKind x_faultPlace x_at x_end x_token x_number x_bank x_rb x_codes x_within x_piled x_unitsInRule x_askBeast x_askStroke x_askAge x_askSeason x_acts x_undone x_laid x_seens x_time x_fitting n_name B_tape B_text B_turns B_herds B_irons B_beasts B_units B_night B_draw B_told B_brands B_ironMarks B_herdTold B_born B_ruleFrom B_ruleTo B_code B_codeNumber B_eWhat B_eSign B_pile B_all B_burned B_was B_need B_laidRow B_long8 B_brings B_sBurning B_sStroke B_sIs B_sTold B_sUntold B_parts B_boxAll B_isBoxed G_hName G_iName G_bName ex) (qGi (fun r0 H => (0 ≤ r0 ∧ r0 ≤ 255) ∧ (r0 ≤ 0 ∨ p0 < x_size) ∧ (r0 = rSg B_text x_size p0) ∧ va_P D vwCl (rW k a x_taped x_size x_faultKind x_faultPlace x_at x_end x_token x_number x_bank x_rb x_codes x_within x_piled x_unitsInRule x_askBeast x_askStroke x_askAge x_askSeason x_acts x_undone x_laid x_seens x_time x_fitting n_name B_tape B_text B_turns B_herds B_irons B_beasts B_units B_night B_draw B_told B_brands B_ironMarks B_herdTold B_born B_ruleFrom B_ruleTo B_code B_codeNumber B_eWhat B_eSign B_pile B_all B_burned B_was B_need B_laidRow B_long8 B_brings B_sBurning B_sStroke B_sIs B_sTold B_sUntold B_parts B_boxAll B_isBoxed G_hName G_iName G_bName ex) H)) := by
  refine metG_of 1 ck_X12_sign (Nat.le_of_ble_eq_true rfl) rMap (fun p e s m args below meth c A hx hb hml hr hlocks hown hts hK hD hA hP hS ls hl => ?_)
  have hown : s.vm.findClass "HideReaderModel" = some m.cls := hown
  have hl : lv_has ls 2 [(0, .ref (a 0)), (1, .int (mI p0))] := hl
  refine lv_iload_n hx hb dX12_sign_0 rfl (lv_at hl 1 rfl) ?_
  refine lv_aload_n hx hb dX12_sign_1 rfl (lv_at hl 0 rfl) ?_
  refine rg_o_size hx hb hts hown hK hP uw_7_26 dX12_sign_2 ?_
  refine sy_icmp_ge (tgt := 21) hx hb dX12_sign_5 (by decide) (by omega) (by omega) (fun c_1 => ?_) (fun c_1 => ?_)
  · skip
    refine lv_iconst (v := mI 0) hx hb dX12_sign_21 rfl ?_
    exact r_i hx hb hr hlocks dX12_sign_22 hS ⟨by omega, by omega, (rSg_f (by omega)), hP⟩
  · skip
    refine lv_aload_n hx hb dX12_sign_8 rfl (lv_at hl 0 rfl) ?_
    refine rg_o_text hx hb hts hown hK hP uw_7_24 dX12_sign_9 ?_
    refine lv_iload_n hx hb dX12_sign_12 rfl (lv_at hl 1 rfl) ?_
    refine rl_text hx hb hK hP dX12_sign_13 (by omega) b_B_text (fun z_2 ez_2 hz_2 => ?_)
    refine lv_sipush (v := mI 255) hx hb dX12_sign_14 (by decide) ?_
    refine sy_iandE hx hb dX12_sign_17 (by decide) (fun z_3 ez_3 hz_3 => ?_)
    refine lv_goto (tgt := 22) hx hb dX12_sign_18 (by decide) ?_
    exact r_i hx hb hr hlocks dX12_sign_22 hS ⟨by omega, by omega, (rSg_t (by omega) ez_2 ez_3 (by omega)), hP⟩
set_option maxHeartbeats 4000000 in
set_option maxRecDepth 100000 in
theorem kr_X12_isLetter {p0 : Int} (hp0 : -2147483648 ≤ p0 ∧ p0 ≤ 2147483647) : MetG l D k yX12_isLetter cX12_isLetter 1 (some .boolean) 0 [.int (mI p0)] (rW k a x_taped x_size x_faultKind x_faultPlace x_at x_end x_token x_number x_bank x_rb x_codes x_within x_piled x_unitsInRule x_askBeast x_askStroke x_askAge x_askSeason x_acts x_undone x_laid x_seens x_time x_fitting n_name B_tape B_text B_turns B_herds B_irons B_beasts B_units B_night B_draw B_told B_brands B_ironMarks B_herdTold B_born B_ruleFrom B_ruleTo B_code B_codeNumber B_eWhat B_eSign B_pile B_all B_burned B_was B_need B_laidRow B_long8 B_brings B_sBurning B_sStroke B_sIs B_sTold B_sUntold B_parts B_boxAll B_isBoxed G_hName G_iName G_bName ex) (qGi (fun r0 H => ((0 = r0 ∧ ((p0 < 97) ∨ (p0 ≥ 97 ∧ p0 > 122))) ∨ (1 = r0 ∧ (97 ≤ p0 ∧ p0 ≤ 122))) ∧ va_P D vwCl (rW k a x_taped x_size x_faultKind x_faultPlace x_at x_end x_token x_number x_bank x_rb x_codes x_within x_piled x_unitsInRule x_askBeast x_askStroke x_askAge x_askSeason x_acts x_undone x_laid x_seens x_time x_fitting n_name B_tape B_text B_turns B_herds B_irons B_beasts B_units B_night B_draw B_told B_brands B_ironMarks B_herdTold B_born B_ruleFrom B_ruleTo B_code B_codeNumber B_eWhat B_eSign B_pile B_all B_burned B_was B_need B_laidRow B_long8 B_brings B_sBurning B_sStroke B_sIs B_sTold B_sUntold B_parts B_boxAll B_isBoxed G_hName G_iName G_bName ex) H)) := by
  refine metG_of 1 ck_X12_isLetter (Nat.le_of_ble_eq_true rfl) rMap (fun p e s m args below meth c A hx hb hml hr hlocks hown hts hK hD hA hP hS ls hl => ?_)
  have hown : s.vm.findClass "HideReaderModel" = some m.cls := hown
  have hl : lv_has ls 1 [(0, .int (mI p0))] := hl
  refine lv_iload_n hx hb dX12_isLetter_0 rfl (lv_at hl 0 rfl) ?_
  refine lv_bipush (v := mI 97) hx hb dX12_isLetter_1 (by decide) ?_
  refine sy_icmp_lt (tgt := 16) hx hb dX12_isLetter_3 (by decide) (by omega) (by decide) (fun c_1 => ?_) (fun c_1 => ?_)
  · skip
    refine lv_iconst (v := mI 0) hx hb dX12_isLetter_16 rfl ?_
    exact r_z hx hb hr hlocks dX12_isLetter_17 hS (by decide) ⟨Or.inl (⟨rfl, by omega⟩), hP⟩
  · skip
    refine lv_iload_n hx hb dX12_isLetter_6 rfl (lv_at hl 0 rfl) ?_
    refine lv_bipush (v := mI 122) hx hb dX12_isLetter_7 (by decide) ?_
    refine sy_icmp_gt (tgt := 16) hx hb dX12_isLetter_9 (by decide) (by omega) (by decide) (fun c_2 => ?_) (fun c_2 => ?_)
    · skip
      refine lv_iconst (v := mI 0) hx hb dX12_isLetter_16 rfl ?_
      exact r_z hx hb hr hlocks dX12_isLetter_17 hS (by decide) ⟨Or.inl (⟨rfl, by omega⟩), hP⟩
    · skip
      refine lv_iconst (v := mI 1) hx hb dX12_isLetter_12 rfl ?_
      refine lv_goto (tgt := 17) hx hb dX12_isLetter_13 (by decide) ?_
      exact r_z hx hb hr hlocks dX12_isLetter_17 hS (by decide) ⟨Or.inr (⟨rfl, by omega⟩), hP⟩
set_option maxHeartbeats 4000000 in
set_option maxRecDepth 100000 in
theorem kr_X12_isDigit {p0 : Int} (hp0 : -2147483648 ≤ p0 ∧ p0 ≤ 2147483647) : MetG l D k yX12_isDigit cX12_isDigit 1 (some .boolean) 0 [.int (mI p0)] (rW k a x_taped x_size x_faultKind x_faultPlace x_at x_end x_token x_number x_bank x_rb x_codes x_within x_piled x_unitsInRule x_askBeast x_askStroke x_askAge x_askSeason x_acts x_undone x_laid x_seens x_time x_fitting n_name B_tape B_text B_turns B_herds B_irons B_beasts B_units B_night B_draw B_told B_brands B_ironMarks B_herdTold B_born B_ruleFrom B_ruleTo B_code B_codeNumber B_eWhat B_eSign B_pile B_all B_burned B_was B_need B_laidRow B_long8 B_brings B_sBurning B_sStroke B_sIs B_sTold B_sUntold B_parts B_boxAll B_isBoxed G_hName G_iName G_bName ex) (qGi (fun r0 H => ((0 = r0 ∧ ((p0 < 48) ∨ (p0 ≥ 48 ∧ p0 > 57))) ∨ (1 = r0 ∧ (48 ≤ p0 ∧ p0 ≤ 57))) ∧ va_P D vwCl (rW k a x_taped x_size x_faultKind x_faultPlace x_at x_end x_token x_number x_bank x_rb x_codes x_within x_piled x_unitsInRule x_askBeast x_askStroke x_askAge x_askSeason x_acts x_undone x_laid x_seens x_time x_fitting n_name B_tape B_text B_turns B_herds B_irons B_beasts B_units B_night B_draw B_told B_brands B_ironMarks B_herdTold B_born B_ruleFrom B_ruleTo B_code B_codeNumber B_eWhat B_eSign B_pile B_all B_burned B_was B_need B_laidRow B_long8 B_brings B_sBurning B_sStroke B_sIs B_sTold B_sUntold B_parts B_boxAll B_isBoxed G_hName G_iName G_bName ex) H)) := by
  refine metG_of 1 ck_X12_isDigit (Nat.le_of_ble_eq_true rfl) rMap (fun p e s m args below meth c A hx hb hml hr hlocks hown hts hK hD hA hP hS ls hl => ?_)
  have hown : s.vm.findClass "HideReaderModel" = some m.cls := hown
  have hl : lv_has ls 1 [(0, .int (mI p0))] := hl
  refine lv_iload_n hx hb dX12_isDigit_0 rfl (lv_at hl 0 rfl) ?_
  refine lv_bipush (v := mI 48) hx hb dX12_isDigit_1 (by decide) ?_
  refine sy_icmp_lt (tgt := 16) hx hb dX12_isDigit_3 (by decide) (by omega) (by decide) (fun c_1 => ?_) (fun c_1 => ?_)
  · skip
    refine lv_iconst (v := mI 0) hx hb dX12_isDigit_16 rfl ?_
    exact r_z hx hb hr hlocks dX12_isDigit_17 hS (by decide) ⟨Or.inl (⟨rfl, by omega⟩), hP⟩
  · skip
    refine lv_iload_n hx hb dX12_isDigit_6 rfl (lv_at hl 0 rfl) ?_
    refine lv_bipush (v := mI 57) hx hb dX12_isDigit_7 (by decide) ?_
    refine sy_icmp_gt (tgt := 16) hx hb dX12_isDigit_9 (by decide) (by omega) (by decide) (fun c_2 => ?_) (fun c_2 => ?_)
    · skip
      refine lv_iconst (v := mI 0) hx hb dX12_isDigit_16 rfl ?_
      exact r_z hx hb hr hlocks dX12_isDigit_17 hS (by decide) ⟨Or.inl (⟨rfl, by omega⟩), hP⟩
    · skip
      refine lv_iconst (v := mI 1) hx hb dX12_isDigit_12 rfl ?_
      refine lv_goto (tgt := 17) hx hb dX12_isDigit_13 (by decide) ?_
      exact r_z hx hb hr hlocks dX12_isDigit_17 hS (by decide) ⟨Or.inr (⟨rfl, by omega⟩), hP⟩
set_option maxHeartbeats 4000000 in
set_option maxRecDepth 100000 in
theorem kr_X12_fails {p0 p1 : Int} (hp0 : 1 ≤ p0 ∧ p0 ≤ 5) (hp1 : 0 ≤ p1 ∧ p1 ≤ 1600) (h_x_faultKind : 0 ≤ x_faultKind ∧ x_faultKind ≤ 5) (h_x_faultPlace : -1 ≤ x_faultPlace ∧ x_faultPlace ≤ 1600) : MetG l D k yX12_fails cX12_fails 3 none 0 [.ref (a 0), .int (mI p0), .int (mI p1)] (rW k a x_taped x_size x_faultKind x_faultPlace x_at x_end x_token x_number x_bank x_rb x_codes x_within x_piled x_unitsInRule x_askBeast x_askStroke x_askAge x_askSeason x_acts x_undone x_laid x_seens x_time x_fitting n_name B_tape B_text B_turns B_herds B_irons B_beasts B_units B_night B_draw B_told B_brands B_ironMarks B_herdTold B_born B_ruleFrom B_ruleTo B_code B_codeNumber B_eWhat B_eSign B_pile B_all B_burned B_was B_need B_laidRow B_long8 B_brings B_sBurning B_sStroke B_sIs B_sTold B_sUntold B_parts B_boxAll B_isBoxed G_hName G_iName G_bName ex) (qGv (fun H => ∃ (y_faultKind : Int) (y_faultPlace : Int), (1 ≤ y_faultKind ∧ y_faultKind ≤ 5) ∧ (-1 ≤ y_faultPlace ∧ y_faultPlace ≤ 1600) ∧ (0 ≤ y_faultKind - x_faultKind) ∧ va_P D vwCl (rW k a x_taped x_size y_faultKind y_faultPlace x_at x_end x_token x_number x_bank x_rb x_codes x_within x_piled x_unitsInRule x_askBeast x_askStroke x_askAge x_askSeason x_acts x_undone x_laid x_seens x_time x_fitting n_name B_tape B_text B_turns B_herds B_irons B_beasts B_units B_night B_draw B_told B_brands B_ironMarks B_herdTold B_born B_ruleFrom B_ruleTo B_code B_codeNumber B_eWhat B_eSign B_pile B_all B_burned B_was B_need B_laidRow B_long8 B_brings B_sBurning B_sStroke B_sIs B_sTold B_sUntold B_parts B_boxAll B_isBoxed G_hName G_iName G_bName ex) H)) := by
  refine metG_of 2 ck_X12_fails (Nat.le_of_ble_eq_true rfl) rMap (fun p e s m args below meth c A hx hb hml hr hlocks hown hts hK hD hA hP hS ls hl => ?_)
  have hown : s.vm.findClass "HideReaderModel" = some m.cls := hown
  have hl : lv_has ls 3 [(0, .ref (a 0)), (1, .int (mI p0)), (2, .int (mI p1))] := hl
  refine lv_aload_n hx hb dX12_fails_0 rfl (lv_at hl 0 rfl) ?_
  refine rg_o_faultKind hx hb hts hown hK hP uw_7_27 dX12_fails_1 ?_
  refine sy_if_le (tgt := 8) hx hb dX12_fails_4 (by decide) (by omega) (fun c_1 => ?_) (fun c_1 => ?_)
  · skip
    refine lv_aload_n hx hb dX12_fails_8 rfl (lv_at hl 0 rfl) ?_
    refine lv_iload_n hx hb dX12_fails_9 rfl (lv_at hl 1 rfl) ?_
    refine rp_o_faultKind hx hb hts hown hK hP hD hS uw_7_27 dX12_fails_10 (fun H locs hP hS => ?_)
    refine lv_aload_n hx hb dX12_fails_13 rfl (lv_at hl 0 rfl) ?_
    refine lv_iload_n hx hb dX12_fails_14 rfl (lv_at hl 2 rfl) ?_
    refine rp_o_faultPlace hx hb hts hown hK hP hD hS uw_7_28 dX12_fails_15 (fun H locs hP hS => ?_)
    exact r_v hx hb hr hlocks dX12_fails_18 hS ⟨p0, p1, by omega, by omega, by omega, hP⟩
  · skip
    exact r_v hx hb hr hlocks dX12_fails_7 hS ⟨x_faultKind, x_faultPlace, by omega, by omega, by omega, hP⟩
set_option maxHeartbeats 4000000 in
set_option maxRecDepth 100000 in
theorem kr_X12_isGood (h_x_faultKind : 0 ≤ x_faultKind ∧ x_faultKind ≤ 5) : MetG l D k yX12_isGood cX12_isGood 1 (some .boolean) 0 [.ref (a 0)] (rW k a x_taped x_size x_faultKind x_faultPlace x_at x_end x_token x_number x_bank x_rb x_codes x_within x_piled x_unitsInRule x_askBeast x_askStroke x_askAge x_askSeason x_acts x_undone x_laid x_seens x_time x_fitting n_name B_tape B_text B_turns B_herds B_irons B_beasts B_units B_night B_draw B_told B_brands B_ironMarks B_herdTold B_born B_ruleFrom B_ruleTo B_code B_codeNumber B_eWhat B_eSign B_pile B_all B_burned B_was B_need B_laidRow B_long8 B_brings B_sBurning B_sStroke B_sIs B_sTold B_sUntold B_parts B_boxAll B_isBoxed G_hName G_iName G_bName ex) (qGi (fun r0 H => ((0 = r0 ∧ (1 ≤ x_faultKind ∧ x_faultKind ≤ 5) ∧ (¬ x_faultKind = 0)) ∨ (1 = r0 ∧ (0 ≤ x_faultKind ∧ x_faultKind ≤ 0))) ∧ va_P D vwCl (rW k a x_taped x_size x_faultKind x_faultPlace x_at x_end x_token x_number x_bank x_rb x_codes x_within x_piled x_unitsInRule x_askBeast x_askStroke x_askAge x_askSeason x_acts x_undone x_laid x_seens x_time x_fitting n_name B_tape B_text B_turns B_herds B_irons B_beasts B_units B_night B_draw B_told B_brands B_ironMarks B_herdTold B_born B_ruleFrom B_ruleTo B_code B_codeNumber B_eWhat B_eSign B_pile B_all B_burned B_was B_need B_laidRow B_long8 B_brings B_sBurning B_sStroke B_sIs B_sTold B_sUntold B_parts B_boxAll B_isBoxed G_hName G_iName G_bName ex) H)) := by
  refine metG_of 0 ck_X12_isGood (Nat.le_of_ble_eq_true rfl) rMap (fun p e s m args below meth c A hx hb hml hr hlocks hown hts hK hD hA hP hS ls hl => ?_)
  have hown : s.vm.findClass "HideReaderModel" = some m.cls := hown
  have hl : lv_has ls 1 [(0, .ref (a 0))] := hl
  refine lv_aload_n hx hb dX12_isGood_0 rfl (lv_at hl 0 rfl) ?_
  refine rg_o_faultKind hx hb hts hown hK hP uw_7_27 dX12_isGood_1 ?_
  refine sy_if_ne (tgt := 11) hx hb dX12_isGood_4 (by decide) (by omega) (fun c_1 => ?_) (fun c_1 => ?_)
  · skip
    refine lv_iconst (v := mI 0) hx hb dX12_isGood_11 rfl ?_
    exact r_z hx hb hr hlocks dX12_isGood_12 hS (by decide) ⟨Or.inl (⟨rfl, by omega, by omega⟩), hP⟩
  · skip
    refine lv_iconst (v := mI 1) hx hb dX12_isGood_7 rfl ?_
    refine lv_goto (tgt := 12) hx hb dX12_isGood_8 (by decide) ?_
    exact r_z hx hb hr hlocks dX12_isGood_12 hS (by decide) ⟨Or.inr (⟨rfl, by omega⟩), hP⟩
set_option maxHeartbeats 4000000 in
set_option maxRecDepth 100000 in
theorem kr_X12_isKept {p0 : Int64} : MetG l D k yX12_isKept cX12_isKept 3 (some .boolean) 0 [.long p0] (rW k a x_taped x_size x_faultKind x_faultPlace x_at x_end x_token x_number x_bank x_rb x_codes x_within x_piled x_unitsInRule x_askBeast x_askStroke x_askAge x_askSeason x_acts x_undone x_laid x_seens x_time x_fitting n_name B_tape B_text B_turns B_herds B_irons B_beasts B_units B_night B_draw B_told B_brands B_ironMarks B_herdTold B_born B_ruleFrom B_ruleTo B_code B_codeNumber B_eWhat B_eSign B_pile B_all B_burned B_was B_need B_laidRow B_long8 B_brings B_sBurning B_sStroke B_sIs B_sTold B_sUntold B_parts B_boxAll B_isBoxed G_hName G_iName G_bName ex) (qGi (fun r0 H => ((1 = r0) ∨ (0 = r0)) ∧ va_P D vwCl (rW k a x_taped x_size x_faultKind x_faultPlace x_at x_end x_token x_number x_bank x_rb x_codes x_within x_piled x_unitsInRule x_askBeast x_askStroke x_askAge x_askSeason x_acts x_undone x_laid x_seens x_time x_fitting n_name B_tape B_text B_turns B_herds B_irons B_beasts B_units B_night B_draw B_told B_brands B_ironMarks B_herdTold B_born B_ruleFrom B_ruleTo B_code B_codeNumber B_eWhat B_eSign B_pile B_all B_burned B_was B_need B_laidRow B_long8 B_brings B_sBurning B_sStroke B_sIs B_sTold B_sUntold B_parts B_boxAll B_isBoxed G_hName G_iName G_bName ex) H)) := by
  refine metG_of 1 ck_X12_isKept (Nat.le_of_ble_eq_true rfl) rMap (fun p e s m args below meth c A hx hb hml hr hlocks hown hts hK hD hA hP hS ls hl => ?_)
  have hown : s.vm.findClass "HideReaderModel" = some m.cls := hown
  have hl : lv_has ls 3 [(0, .long p0)] := hl
  refine lv_lload_n hx hb dX12_isKept_0 rfl (lv_at hl 0 rfl) ?_
  refine lv_ldc2 (own := "HideReaderModel") (v := 500186639987) hx hb hown (hts _ uw_7_234) dX12_isKept_1 ?_
  refine sy_lcmp hx hb dX12_isKept_4 (fun z_1 hz_1 => ?_)
  refine sy_if_eq (tgt := 72) hx hb dX12_isKept_5 (by decide) (by omega) (fun c_2 => ?_) (fun c_2 => ?_)
  · skip
    refine lv_iconst (v := mI 1) hx hb dX12_isKept_72 rfl ?_
    refine lv_goto (tgt := 77) hx hb dX12_isKept_73 (by decide) ?_
    refine lv_istore_n (lv' := [(2, .int (mI 1)), (0, .long p0)]) hx hb dX12_isKept_77 rfl hl (by decide) rfl (fun ls hl => ?_)
    refine lv_iload_n hx hb dX12_isKept_78 rfl (lv_at hl 0 rfl) ?_
    refine sy_if_ne (tgt := 154) hx hb dX12_isKept_79 (by decide) (by decide) (fun c_3 => ?_) (fun c9 => absurd c9 (by decide))
    refine lv_iconst (v := mI 1) hx hb dX12_isKept_154 rfl ?_
    refine lv_goto (tgt := 159) hx hb dX12_isKept_155 (by decide) ?_
    exact r_z hx hb hr hlocks dX12_isKept_159 hS (by decide) ⟨Or.inl (rfl), hP⟩
  · skip
    refine lv_lload_n hx hb dX12_isKept_8 rfl (lv_at hl 0 rfl) ?_
    refine lv_ldc2 (own := "HideReaderModel") (v := 120299659095922) hx hb hown (hts _ uw_7_235) dX12_isKept_9 ?_
    refine sy_lcmp hx hb dX12_isKept_12 (fun z_4 hz_4 => ?_)
    refine sy_if_eq (tgt := 72) hx hb dX12_isKept_13 (by decide) (by omega) (fun c_5 => ?_) (fun c_5 => ?_)
    · skip
      refine lv_iconst (v := mI 1) hx hb dX12_isKept_72 rfl ?_
      refine lv_goto (tgt := 77) hx hb dX12_isKept_73 (by decide) ?_
      refine lv_istore_n (lv' := [(2, .int (mI 1)), (0, .long p0)]) hx hb dX12_isKept_77 rfl hl (by decide) rfl (fun ls hl => ?_)
      refine lv_iload_n hx hb dX12_isKept_78 rfl (lv_at hl 0 rfl) ?_
      refine sy_if_ne (tgt := 154) hx hb dX12_isKept_79 (by decide) (by decide) (fun c_6 => ?_) (fun c9 => absurd c9 (by decide))
      refine lv_iconst (v := mI 1) hx hb dX12_isKept_154 rfl ?_
      refine lv_goto (tgt := 159) hx hb dX12_isKept_155 (by decide) ?_
      exact r_z hx hb hr hlocks dX12_isKept_159 hS (by decide) ⟨Or.inl (rfl), hP⟩
    · skip
      refine lv_lload_n hx hb dX12_isKept_16 rfl (lv_at hl 0 rfl) ?_
      refine lv_ldc2 (own := "HideReaderModel") (v := 1751478884) hx hb hown (hts _ uw_7_236) dX12_isKept_17 ?_
      refine sy_lcmp hx hb dX12_isKept_20 (fun z_7 hz_7 => ?_)
      refine sy_if_eq (tgt := 72) hx hb dX12_isKept_21 (by decide) (by omega) (fun c_8 => ?_) (fun c_8 => ?_)
      · skip
        refine lv_iconst (v := mI 1) hx hb dX12_isKept_72 rfl ?_
        refine lv_goto (tgt := 77) hx hb dX12_isKept_73 (by decide) ?_
        refine lv_istore_n (lv' := [(2, .int (mI 1)), (0, .long p0)]) hx hb dX12_isKept_77 rfl hl (by decide) rfl (fun ls hl => ?_)
        refine lv_iload_n hx hb dX12_isKept_78 rfl (lv_at hl 0 rfl) ?_
        refine sy_if_ne (tgt := 154) hx hb dX12_isKept_79 (by decide) (by decide) (fun c_9 => ?_) (fun c9 => absurd c9 (by decide))
        refine lv_iconst (v := mI 1) hx hb dX12_isKept_154 rfl ?_
        refine lv_goto (tgt := 159) hx hb dX12_isKept_155 (by decide) ?_
        exact r_z hx hb hr hlocks dX12_isKept_159 hS (by decide) ⟨Or.inl (rfl), hP⟩
      · skip
        refine lv_lload_n hx hb dX12_isKept_24 rfl (lv_at hl 0 rfl) ?_
        refine lv_ldc2 (own := "HideReaderModel") (v := 32497657166128499) hx hb hown (hts _ uw_7_237) dX12_isKept_25 ?_
        refine sy_lcmp hx hb dX12_isKept_28 (fun z_10 hz_10 => ?_)
        refine sy_if_eq (tgt := 72) hx hb dX12_isKept_29 (by decide) (by omega) (fun c_11 => ?_) (fun c_11 => ?_)
        · skip
          refine lv_iconst (v := mI 1) hx hb dX12_isKept_72 rfl ?_
          refine lv_goto (tgt := 77) hx hb dX12_isKept_73 (by decide) ?_
          refine lv_istore_n (lv' := [(2, .int (mI 1)), (0, .long p0)]) hx hb dX12_isKept_77 rfl hl (by decide) rfl (fun ls hl => ?_)
          refine lv_iload_n hx hb dX12_isKept_78 rfl (lv_at hl 0 rfl) ?_
          refine sy_if_ne (tgt := 154) hx hb dX12_isKept_79 (by decide) (by decide) (fun c_12 => ?_) (fun c9 => absurd c9 (by decide))
          refine lv_iconst (v := mI 1) hx hb dX12_isKept_154 rfl ?_
          refine lv_goto (tgt := 159) hx hb dX12_isKept_155 (by decide) ?_
          exact r_z hx hb hr hlocks dX12_isKept_159 hS (by decide) ⟨Or.inl (rfl), hP⟩
        · skip
          refine lv_lload_n hx hb dX12_isKept_32 rfl (lv_at hl 0 rfl) ?_
          refine lv_ldc2 (own := "HideReaderModel") (v := 1769107310) hx hb hown (hts _ uw_7_238) dX12_isKept_33 ?_
          refine sy_lcmp hx hb dX12_isKept_36 (fun z_13 hz_13 => ?_)
          refine sy_if_eq (tgt := 72) hx hb dX12_isKept_37 (by decide) (by omega) (fun c_14 => ?_) (fun c_14 => ?_)
          · skip
            refine lv_iconst (v := mI 1) hx hb dX12_isKept_72 rfl ?_
            refine lv_goto (tgt := 77) hx hb dX12_isKept_73 (by decide) ?_
            refine lv_istore_n (lv' := [(2, .int (mI 1)), (0, .long p0)]) hx hb dX12_isKept_77 rfl hl (by decide) rfl (fun ls hl => ?_)
            refine lv_iload_n hx hb dX12_isKept_78 rfl (lv_at hl 0 rfl) ?_
            refine sy_if_ne (tgt := 154) hx hb dX12_isKept_79 (by decide) (by decide) (fun c_15 => ?_) (fun c9 => absurd c9 (by decide))
            refine lv_iconst (v := mI 1) hx hb dX12_isKept_154 rfl ?_
            refine lv_goto (tgt := 159) hx hb dX12_isKept_155 (by decide) ?_
            exact r_z hx hb hr hlocks dX12_isKept_159 hS (by decide) ⟨Or.inl (rfl), hP⟩
          · skip
            refine lv_lload_n hx hb dX12_isKept_40 rfl (lv_at hl 0 rfl) ?_
            refine lv_ldc2 (own := "HideReaderModel") (v := 422607680372) hx hb hown (hts _ uw_7_239) dX12_isKept_41 ?_
            refine sy_lcmp hx hb dX12_isKept_44 (fun z_16 hz_16 => ?_)
            refine sy_if_eq (tgt := 72) hx hb dX12_isKept_45 (by decide) (by omega) (fun c_17 => ?_) (fun c_17 => ?_)
            · skip
              refine lv_iconst (v := mI 1) hx hb dX12_isKept_72 rfl ?_
              refine lv_goto (tgt := 77) hx hb dX12_isKept_73 (by decide) ?_
              refine lv_istore_n (lv' := [(2, .int (mI 1)), (0, .long p0)]) hx hb dX12_isKept_77 rfl hl (by decide) rfl (fun ls hl => ?_)
              refine lv_iload_n hx hb dX12_isKept_78 rfl (lv_at hl 0 rfl) ?_
              refine sy_if_ne (tgt := 154) hx hb dX12_isKept_79 (by decide) (by decide) (fun c_18 => ?_) (fun c9 => absurd c9 (by decide))
              refine lv_iconst (v := mI 1) hx hb dX12_isKept_154 rfl ?_
              refine lv_goto (tgt := 159) hx hb dX12_isKept_155 (by decide) ?_
              exact r_z hx hb hr hlocks dX12_isKept_159 hS (by decide) ⟨Or.inl (rfl), hP⟩
            · skip
              refine lv_lload_n hx hb dX12_isKept_48 rfl (lv_at hl 0 rfl) ?_
              refine lv_ldc2 (own := "HideReaderModel") (v := 28518) hx hb hown (hts _ uw_8_0) dX12_isKept_49 ?_
              refine sy_lcmp hx hb dX12_isKept_52 (fun z_19 hz_19 => ?_)
              refine sy_if_eq (tgt := 72) hx hb dX12_isKept_53 (by decide) (by omega) (fun c_20 => ?_) (fun c_20 => ?_)
              · skip
                refine lv_iconst (v := mI 1) hx hb dX12_isKept_72 rfl ?_
                refine lv_goto (tgt := 77) hx hb dX12_isKept_73 (by decide) ?_
                refine lv_istore_n (lv' := [(2, .int (mI 1)), (0, .long p0)]) hx hb dX12_isKept_77 rfl hl (by decide) rfl (fun ls hl => ?_)
                refine lv_iload_n hx hb dX12_isKept_78 rfl (lv_at hl 0 rfl) ?_
                refine sy_if_ne (tgt := 154) hx hb dX12_isKept_79 (by decide) (by decide) (fun c_21 => ?_) (fun c9 => absurd c9 (by decide))
                refine lv_iconst (v := mI 1) hx hb dX12_isKept_154 rfl ?_
                refine lv_goto (tgt := 159) hx hb dX12_isKept_155 (by decide) ?_
                exact r_z hx hb hr hlocks dX12_isKept_159 hS (by decide) ⟨Or.inl (rfl), hP⟩
              · skip
                refine lv_lload_n hx hb dX12_isKept_56 rfl (lv_at hl 0 rfl) ?_
                refine lv_ldc2 (own := "HideReaderModel") (v := 1651470958) hx hb hown (hts _ uw_8_1) dX12_isKept_57 ?_
                refine sy_lcmp hx hb dX12_isKept_60 (fun z_22 hz_22 => ?_)
                refine sy_if_eq (tgt := 72) hx hb dX12_isKept_61 (by decide) (by omega) (fun c_23 => ?_) (fun c_23 => ?_)
                · skip
                  refine lv_iconst (v := mI 1) hx hb dX12_isKept_72 rfl ?_
                  refine lv_goto (tgt := 77) hx hb dX12_isKept_73 (by decide) ?_
                  refine lv_istore_n (lv' := [(2, .int (mI 1)), (0, .long p0)]) hx hb dX12_isKept_77 rfl hl (by decide) rfl (fun ls hl => ?_)
                  refine lv_iload_n hx hb dX12_isKept_78 rfl (lv_at hl 0 rfl) ?_
                  refine sy_if_ne (tgt := 154) hx hb dX12_isKept_79 (by decide) (by decide) (fun c_24 => ?_) (fun c9 => absurd c9 (by decide))
                  refine lv_iconst (v := mI 1) hx hb dX12_isKept_154 rfl ?_
                  refine lv_goto (tgt := 159) hx hb dX12_isKept_155 (by decide) ?_
                  exact r_z hx hb hr hlocks dX12_isKept_159 hS (by decide) ⟨Or.inl (rfl), hP⟩
                · skip
                  refine lv_lload_n hx hb dX12_isKept_64 rfl (lv_at hl 0 rfl) ?_
                  refine lv_ldc2 (own := "HideReaderModel") (v := 495673374579) hx hb hown (hts _ uw_8_2) dX12_isKept_65 ?_
                  refine sy_lcmp hx hb dX12_isKept_68 (fun z_25 hz_25 => ?_)
                  refine sy_if_ne (tgt := 76) hx hb dX12_isKept_69 (by decide) (by omega) (fun c_26 => ?_) (fun c_26 => ?_)
                  · skip
                    refine lv_iconst (v := mI 0) hx hb dX12_isKept_76 rfl ?_
                    refine lv_istore_n (lv' := [(2, .int (mI 0)), (0, .long p0)]) hx hb dX12_isKept_77 rfl hl (by decide) rfl (fun ls hl => ?_)
                    refine lv_iload_n hx hb dX12_isKept_78 rfl (lv_at hl 0 rfl) ?_
                    refine sy_if_ne (tgt := 154) hx hb dX12_isKept_79 (by decide) (by decide) (fun c9 => absurd c9 (by decide)) (fun c_27 => ?_)
                    refine lv_lload_n hx hb dX12_isKept_82 rfl (lv_at hl 1 rfl) ?_
                    refine lv_ldc2 (own := "HideReaderModel") (v := 474214787188) hx hb hown (hts _ uw_8_3) dX12_isKept_83 ?_
                    refine sy_lcmp hx hb dX12_isKept_86 (fun z_28 hz_28 => ?_)
                    refine sy_if_eq (tgt := 154) hx hb dX12_isKept_87 (by decide) (by omega) (fun c_29 => ?_) (fun c_29 => ?_)
                    · skip
                      refine lv_iconst (v := mI 1) hx hb dX12_isKept_154 rfl ?_
                      refine lv_goto (tgt := 159) hx hb dX12_isKept_155 (by decide) ?_
                      exact r_z hx hb hr hlocks dX12_isKept_159 hS (by decide) ⟨Or.inl (rfl), hP⟩
                    · skip
                      refine lv_lload_n hx hb dX12_isKept_90 rfl (lv_at hl 1 rfl) ?_
                      refine lv_ldc2 (own := "HideReaderModel") (v := 1685217655) hx hb hown (hts _ uw_8_4) dX12_isKept_91 ?_
                      refine sy_lcmp hx hb dX12_isKept_94 (fun z_30 hz_30 => ?_)
                      refine sy_if_eq (tgt := 154) hx hb dX12_isKept_95 (by decide) (by omega) (fun c_31 => ?_) (fun c_31 => ?_)
                      · skip
                        refine lv_iconst (v := mI 1) hx hb dX12_isKept_154 rfl ?_
                        refine lv_goto (tgt := 159) hx hb dX12_isKept_155 (by decide) ?_
                        exact r_z hx hb hr hlocks dX12_isKept_159 hS (by decide) ⟨Or.inl (rfl), hP⟩
                      · skip
                        refine lv_lload_n hx hb dX12_isKept_98 rfl (lv_at hl 1 rfl) ?_
                        refine lv_ldc2 (own := "HideReaderModel") (v := 6383461) hx hb hown (hts _ uw_8_5) dX12_isKept_99 ?_
                        refine sy_lcmp hx hb dX12_isKept_102 (fun z_32 hz_32 => ?_)
                        refine sy_if_eq (tgt := 154) hx hb dX12_isKept_103 (by decide) (by omega) (fun c_33 => ?_) (fun c_33 => ?_)
                        · skip
                          refine lv_iconst (v := mI 1) hx hb dX12_isKept_154 rfl ?_
                          refine lv_goto (tgt := 159) hx hb dX12_isKept_155 (by decide) ?_
                          exact r_z hx hb hr hlocks dX12_isKept_159 hS (by decide) ⟨Or.inl (rfl), hP⟩
                        · skip
                          refine lv_lload_n hx hb dX12_isKept_106 rfl (lv_at hl 1 rfl) ?_
                          refine lv_ldc2 (own := "HideReaderModel") (v := 495588569715) hx hb hown (hts _ uw_8_6) dX12_isKept_107 ?_
                          refine sy_lcmp hx hb dX12_isKept_110 (fun z_34 hz_34 => ?_)
                          refine sy_if_eq (tgt := 154) hx hb dX12_isKept_111 (by decide) (by omega) (fun c_35 => ?_) (fun c_35 => ?_)
                          · skip
                            refine lv_iconst (v := mI 1) hx hb dX12_isKept_154 rfl ?_
                            refine lv_goto (tgt := 159) hx hb dX12_isKept_155 (by decide) ?_
                            exact r_z hx hb hr hlocks dX12_isKept_159 hS (by decide) ⟨Or.inl (rfl), hP⟩
                          · skip
                            refine lv_lload_n hx hb dX12_isKept_114 rfl (lv_at hl 1 rfl) ?_
                            refine lv_ldc2 (own := "HideReaderModel") (v := 126943973305189) hx hb hown (hts _ uw_8_7) dX12_isKept_115 ?_
                            refine sy_lcmp hx hb dX12_isKept_118 (fun z_36 hz_36 => ?_)
                            refine sy_if_eq (tgt := 154) hx hb dX12_isKept_119 (by decide) (by omega) (fun c_37 => ?_) (fun c_37 => ?_)
                            · skip
                              refine lv_iconst (v := mI 1) hx hb dX12_isKept_154 rfl ?_
                              refine lv_goto (tgt := 159) hx hb dX12_isKept_155 (by decide) ?_
                              exact r_z hx hb hr hlocks dX12_isKept_159 hS (by decide) ⟨Or.inl (rfl), hP⟩
                            · skip
                              refine lv_lload_n hx hb dX12_isKept_122 rfl (lv_at hl 1 rfl) ?_
                              refine lv_ldc2 (own := "HideReaderModel") (v := 126879263846254) hx hb hown (hts _ uw_8_8) dX12_isKept_123 ?_
                              refine sy_lcmp hx hb dX12_isKept_126 (fun z_38 hz_38 => ?_)
                              refine sy_if_eq (tgt := 154) hx hb dX12_isKept_127 (by decide) (by omega) (fun c_39 => ?_) (fun c_39 => ?_)
                              · skip
                                refine lv_iconst (v := mI 1) hx hb dX12_isKept_154 rfl ?_
                                refine lv_goto (tgt := 159) hx hb dX12_isKept_155 (by decide) ?_
                                exact r_z hx hb hr hlocks dX12_isKept_159 hS (by decide) ⟨Or.inl (rfl), hP⟩
                              · skip
                                refine lv_lload_n hx hb dX12_isKept_130 rfl (lv_at hl 1 rfl) ?_
                                refine lv_ldc2 (own := "HideReaderModel") (v := 28530) hx hb hown (hts _ uw_8_9) dX12_isKept_131 ?_
                                refine sy_lcmp hx hb dX12_isKept_134 (fun z_40 hz_40 => ?_)
                                refine sy_if_eq (tgt := 154) hx hb dX12_isKept_135 (by decide) (by omega) (fun c_41 => ?_) (fun c_41 => ?_)
                                · skip
                                  refine lv_iconst (v := mI 1) hx hb dX12_isKept_154 rfl ?_
                                  refine lv_goto (tgt := 159) hx hb dX12_isKept_155 (by decide) ?_
                                  exact r_z hx hb hr hlocks dX12_isKept_159 hS (by decide) ⟨Or.inl (rfl), hP⟩
                                · skip
                                  refine lv_lload_n hx hb dX12_isKept_138 rfl (lv_at hl 1 rfl) ?_
                                  refine lv_ldc2 (own := "HideReaderModel") (v := 6385252) hx hb hown (hts _ uw_8_10) dX12_isKept_139 ?_
                                  refine sy_lcmp hx hb dX12_isKept_142 (fun z_42 hz_42 => ?_)
                                  refine sy_if_eq (tgt := 154) hx hb dX12_isKept_143 (by decide) (by omega) (fun c_43 => ?_) (fun c_43 => ?_)
                                  · skip
                                    refine lv_iconst (v := mI 1) hx hb dX12_isKept_154 rfl ?_
                                    refine lv_goto (tgt := 159) hx hb dX12_isKept_155 (by decide) ?_
                                    exact r_z hx hb hr hlocks dX12_isKept_159 hS (by decide) ⟨Or.inl (rfl), hP⟩
                                  · skip
                                    refine lv_lload_n hx hb dX12_isKept_146 rfl (lv_at hl 1 rfl) ?_
                                    refine lv_ldc2 (own := "HideReaderModel") (v := 7237492) hx hb hown (hts _ uw_8_11) dX12_isKept_147 ?_
                                    refine sy_lcmp hx hb dX12_isKept_150 (fun z_44 hz_44 => ?_)
                                    refine sy_if_ne (tgt := 158) hx hb dX12_isKept_151 (by decide) (by omega) (fun c_45 => ?_) (fun c_45 => ?_)
                                    · skip
                                      refine lv_iconst (v := mI 0) hx hb dX12_isKept_158 rfl ?_
                                      exact r_z hx hb hr hlocks dX12_isKept_159 hS (by decide) ⟨Or.inr (rfl), hP⟩
                                    · skip
                                      refine lv_iconst (v := mI 1) hx hb dX12_isKept_154 rfl ?_
                                      refine lv_goto (tgt := 159) hx hb dX12_isKept_155 (by decide) ?_
                                      exact r_z hx hb hr hlocks dX12_isKept_159 hS (by decide) ⟨Or.inl (rfl), hP⟩
                  · skip
                    refine lv_iconst (v := mI 1) hx hb dX12_isKept_72 rfl ?_
                    refine lv_goto (tgt := 77) hx hb dX12_isKept_73 (by decide) ?_
                    refine lv_istore_n (lv' := [(2, .int (mI 1)), (0, .long p0)]) hx hb dX12_isKept_77 rfl hl (by decide) rfl (fun ls hl => ?_)
                    refine lv_iload_n hx hb dX12_isKept_78 rfl (lv_at hl 0 rfl) ?_
                    refine sy_if_ne (tgt := 154) hx hb dX12_isKept_79 (by decide) (by decide) (fun c_46 => ?_) (fun c9 => absurd c9 (by decide))
                    refine lv_iconst (v := mI 1) hx hb dX12_isKept_154 rfl ?_
                    refine lv_goto (tgt := 159) hx hb dX12_isKept_155 (by decide) ?_
                    exact r_z hx hb hr hlocks dX12_isKept_159 hS (by decide) ⟨Or.inl (rfl), hP⟩
set_option maxHeartbeats 4000000 in
set_option maxRecDepth 100000 in
theorem kr_X12_isSign {p0 : Int} (hp0 : -2147483648 ≤ p0 ∧ p0 ≤ 2147483647) : MetG l D k yX12_isSign cX12_isSign 1 (some .boolean) 0 [.int (mI p0)] (rW k a x_taped x_size x_faultKind x_faultPlace x_at x_end x_token x_number x_bank x_rb x_codes x_within x_piled x_unitsInRule x_askBeast x_askStroke x_askAge x_askSeason x_acts x_undone x_laid x_seens x_time x_fitting n_name B_tape B_text B_turns B_herds B_irons B_beasts B_units B_night B_draw B_told B_brands B_ironMarks B_herdTold B_born B_ruleFrom B_ruleTo B_code B_codeNumber B_eWhat B_eSign B_pile B_all B_burned B_was B_need B_laidRow B_long8 B_brings B_sBurning B_sStroke B_sIs B_sTold B_sUntold B_parts B_boxAll B_isBoxed G_hName G_iName G_bName ex) (qGi (fun r0 H => ((1 = r0 ∧ (37 ≤ p0 ∧ p0 ≤ 62)) ∨ (0 = r0 ∧ (¬ p0 = 59) ∧ (¬ p0 = 40) ∧ (¬ p0 = 41) ∧ (¬ p0 = 60) ∧ (¬ p0 = 62) ∧ (¬ p0 = 61) ∧ (¬ p0 = 43) ∧ (¬ p0 = 45) ∧ (¬ p0 = 42) ∧ (¬ p0 = 47) ∧ (¬ p0 = 37))) ∧ va_P D vwCl (rW k a x_taped x_size x_faultKind x_faultPlace x_at x_end x_token x_number x_bank x_rb x_codes x_within x_piled x_unitsInRule x_askBeast x_askStroke x_askAge x_askSeason x_acts x_undone x_laid x_seens x_time x_fitting n_name B_tape B_text B_turns B_herds B_irons B_beasts B_units B_night B_draw B_told B_brands B_ironMarks B_herdTold B_born B_ruleFrom B_ruleTo B_code B_codeNumber B_eWhat B_eSign B_pile B_all B_burned B_was B_need B_laidRow B_long8 B_brings B_sBurning B_sStroke B_sIs B_sTold B_sUntold B_parts B_boxAll B_isBoxed G_hName G_iName G_bName ex) H)) := by
  refine metG_of 1 ck_X12_isSign (Nat.le_of_ble_eq_true rfl) rMap (fun p e s m args below meth c A hx hb hml hr hlocks hown hts hK hD hA hP hS ls hl => ?_)
  have hown : s.vm.findClass "HideReaderModel" = some m.cls := hown
  have hl : lv_has ls 1 [(0, .int (mI p0))] := hl
  refine lv_iload_n hx hb dX12_isSign_0 rfl (lv_at hl 0 rfl) ?_
  refine lv_bipush (v := mI 59) hx hb dX12_isSign_1 (by decide) ?_
  refine sy_icmp_eq (tgt := 66) hx hb dX12_isSign_3 (by decide) (by omega) (by decide) (fun c_1 => ?_) (fun c_1 => ?_)
  · skip
    refine lv_iconst (v := mI 1) hx hb dX12_isSign_66 rfl ?_
    refine lv_goto (tgt := 71) hx hb dX12_isSign_67 (by decide) ?_
    exact r_z hx hb hr hlocks dX12_isSign_71 hS (by decide) ⟨Or.inl (⟨rfl, by omega⟩), hP⟩
  · skip
    refine lv_iload_n hx hb dX12_isSign_6 rfl (lv_at hl 0 rfl) ?_
    refine lv_bipush (v := mI 40) hx hb dX12_isSign_7 (by decide) ?_
    refine sy_icmp_eq (tgt := 66) hx hb dX12_isSign_9 (by decide) (by omega) (by decide) (fun c_2 => ?_) (fun c_2 => ?_)
    · skip
      refine lv_iconst (v := mI 1) hx hb dX12_isSign_66 rfl ?_
      refine lv_goto (tgt := 71) hx hb dX12_isSign_67 (by decide) ?_
      exact r_z hx hb hr hlocks dX12_isSign_71 hS (by decide) ⟨Or.inl (⟨rfl, by omega⟩), hP⟩
    · skip
      refine lv_iload_n hx hb dX12_isSign_12 rfl (lv_at hl 0 rfl) ?_
      refine lv_bipush (v := mI 41) hx hb dX12_isSign_13 (by decide) ?_
      refine sy_icmp_eq (tgt := 66) hx hb dX12_isSign_15 (by decide) (by omega) (by decide) (fun c_3 => ?_) (fun c_3 => ?_)
      · skip
        refine lv_iconst (v := mI 1) hx hb dX12_isSign_66 rfl ?_
        refine lv_goto (tgt := 71) hx hb dX12_isSign_67 (by decide) ?_
        exact r_z hx hb hr hlocks dX12_isSign_71 hS (by decide) ⟨Or.inl (⟨rfl, by omega⟩), hP⟩
      · skip
        refine lv_iload_n hx hb dX12_isSign_18 rfl (lv_at hl 0 rfl) ?_
        refine lv_bipush (v := mI 60) hx hb dX12_isSign_19 (by decide) ?_
        refine sy_icmp_eq (tgt := 66) hx hb dX12_isSign_21 (by decide) (by omega) (by decide) (fun c_4 => ?_) (fun c_4 => ?_)
        · skip
          refine lv_iconst (v := mI 1) hx hb dX12_isSign_66 rfl ?_
          refine lv_goto (tgt := 71) hx hb dX12_isSign_67 (by decide) ?_
          exact r_z hx hb hr hlocks dX12_isSign_71 hS (by decide) ⟨Or.inl (⟨rfl, by omega⟩), hP⟩
        · skip
          refine lv_iload_n hx hb dX12_isSign_24 rfl (lv_at hl 0 rfl) ?_
          refine lv_bipush (v := mI 62) hx hb dX12_isSign_25 (by decide) ?_
          refine sy_icmp_eq (tgt := 66) hx hb dX12_isSign_27 (by decide) (by omega) (by decide) (fun c_5 => ?_) (fun c_5 => ?_)
          · skip
            refine lv_iconst (v := mI 1) hx hb dX12_isSign_66 rfl ?_
            refine lv_goto (tgt := 71) hx hb dX12_isSign_67 (by decide) ?_
            exact r_z hx hb hr hlocks dX12_isSign_71 hS (by decide) ⟨Or.inl (⟨rfl, by omega⟩), hP⟩
          · skip
            refine lv_iload_n hx hb dX12_isSign_30 rfl (lv_at hl 0 rfl) ?_
            refine lv_bipush (v := mI 61) hx hb dX12_isSign_31 (by decide) ?_
            refine sy_icmp_eq (tgt := 66) hx hb dX12_isSign_33 (by decide) (by omega) (by decide) (fun c_6 => ?_) (fun c_6 => ?_)
            · skip
              refine lv_iconst (v := mI 1) hx hb dX12_isSign_66 rfl ?_
              refine lv_goto (tgt := 71) hx hb dX12_isSign_67 (by decide) ?_
              exact r_z hx hb hr hlocks dX12_isSign_71 hS (by decide) ⟨Or.inl (⟨rfl, by omega⟩), hP⟩
            · skip
              refine lv_iload_n hx hb dX12_isSign_36 rfl (lv_at hl 0 rfl) ?_
              refine lv_bipush (v := mI 43) hx hb dX12_isSign_37 (by decide) ?_
              refine sy_icmp_eq (tgt := 66) hx hb dX12_isSign_39 (by decide) (by omega) (by decide) (fun c_7 => ?_) (fun c_7 => ?_)
              · skip
                refine lv_iconst (v := mI 1) hx hb dX12_isSign_66 rfl ?_
                refine lv_goto (tgt := 71) hx hb dX12_isSign_67 (by decide) ?_
                exact r_z hx hb hr hlocks dX12_isSign_71 hS (by decide) ⟨Or.inl (⟨rfl, by omega⟩), hP⟩
              · skip
                refine lv_iload_n hx hb dX12_isSign_42 rfl (lv_at hl 0 rfl) ?_
                refine lv_bipush (v := mI 45) hx hb dX12_isSign_43 (by decide) ?_
                refine sy_icmp_eq (tgt := 66) hx hb dX12_isSign_45 (by decide) (by omega) (by decide) (fun c_8 => ?_) (fun c_8 => ?_)
                · skip
                  refine lv_iconst (v := mI 1) hx hb dX12_isSign_66 rfl ?_
                  refine lv_goto (tgt := 71) hx hb dX12_isSign_67 (by decide) ?_
                  exact r_z hx hb hr hlocks dX12_isSign_71 hS (by decide) ⟨Or.inl (⟨rfl, by omega⟩), hP⟩
                · skip
                  refine lv_iload_n hx hb dX12_isSign_48 rfl (lv_at hl 0 rfl) ?_
                  refine lv_bipush (v := mI 42) hx hb dX12_isSign_49 (by decide) ?_
                  refine sy_icmp_eq (tgt := 66) hx hb dX12_isSign_51 (by decide) (by omega) (by decide) (fun c_9 => ?_) (fun c_9 => ?_)
                  · skip
                    refine lv_iconst (v := mI 1) hx hb dX12_isSign_66 rfl ?_
                    refine lv_goto (tgt := 71) hx hb dX12_isSign_67 (by decide) ?_
                    exact r_z hx hb hr hlocks dX12_isSign_71 hS (by decide) ⟨Or.inl (⟨rfl, by omega⟩), hP⟩
                  · skip
                    refine lv_iload_n hx hb dX12_isSign_54 rfl (lv_at hl 0 rfl) ?_
                    refine lv_bipush (v := mI 47) hx hb dX12_isSign_55 (by decide) ?_
                    refine sy_icmp_eq (tgt := 66) hx hb dX12_isSign_57 (by decide) (by omega) (by decide) (fun c_10 => ?_) (fun c_10 => ?_)
                    · skip
                      refine lv_iconst (v := mI 1) hx hb dX12_isSign_66 rfl ?_
                      refine lv_goto (tgt := 71) hx hb dX12_isSign_67 (by decide) ?_
                      exact r_z hx hb hr hlocks dX12_isSign_71 hS (by decide) ⟨Or.inl (⟨rfl, by omega⟩), hP⟩
                    · skip
                      refine lv_iload_n hx hb dX12_isSign_60 rfl (lv_at hl 0 rfl) ?_
                      refine lv_bipush (v := mI 37) hx hb dX12_isSign_61 (by decide) ?_
                      refine sy_icmp_ne (tgt := 70) hx hb dX12_isSign_63 (by decide) (by omega) (by decide) (fun c_11 => ?_) (fun c_11 => ?_)
                      · skip
                        refine lv_iconst (v := mI 0) hx hb dX12_isSign_70 rfl ?_
                        exact r_z hx hb hr hlocks dX12_isSign_71 hS (by decide) ⟨Or.inr (⟨rfl, by omega, by omega, by omega, by omega, by omega, by omega, by omega, by omega, by omega, by omega, by omega⟩), hP⟩
                      · skip
                        refine lv_iconst (v := mI 1) hx hb dX12_isSign_66 rfl ?_
                        refine lv_goto (tgt := 71) hx hb dX12_isSign_67 (by decide) ?_
                        exact r_z hx hb hr hlocks dX12_isSign_71 hS (by decide) ⟨Or.inl (⟨rfl, by omega⟩), hP⟩
set_option maxHeartbeats 4000000 in
set_option maxRecDepth 100000 in
theorem kr_X12_goOn (h_x_size : 0 ≤ x_size ∧ x_size ≤ 1600) (h_x_end : 0 ≤ x_end ∧ x_end ≤ 1600) (h_x_number : -2147483648 ≤ x_number ∧ x_number ≤ 2147483647) (b_B_text : bd (-128) 127 B_text) (g_E : x_end ≤ x_size) : MetG l D k yX12_goOn cX12_goOn 3 none 1 [.ref (a 0)] (rW k a x_taped x_size x_faultKind x_faultPlace x_at x_end x_token x_number x_bank x_rb x_codes x_within x_piled x_unitsInRule x_askBeast x_askStroke x_askAge x_askSeason x_acts x_undone x_laid x_seens x_time x_fitting n_name B_tape B_text B_turns B_herds B_irons B_beasts B_units B_night B_draw B_told B_brands B_ironMarks B_herdTold B_born B_ruleFrom B_ruleTo B_code B_codeNumber B_eWhat B_eSign B_pile B_all B_burned B_was B_need B_laidRow B_long8 B_brings B_sBurning B_sStroke B_sIs B_sTold B_sUntold B_parts B_boxAll B_isBoxed G_hName G_iName G_bName ex) (qGv (fun H => ∃ (y_at : Int) (y_end : Int) (y_token : Int) (y_number : Int) (j_name : Int64), (0 ≤ y_at ∧ y_at ≤ 1600) ∧ (0 ≤ y_end ∧ y_end ≤ 1600) ∧ (0 ≤ y_token ∧ y_token ≤ 5) ∧ (-2147483648 ≤ y_number ∧ y_number ≤ 2147483647) ∧ (0 ≤ y_end - x_end) ∧ (y_token ≤ 0 ∨ x_end + 1 ≤ y_end) ∧ (y_end ≤ x_size) ∧ va_P D vwCl (rW k a x_taped x_size x_faultKind x_faultPlace y_at y_end y_token y_number x_bank x_rb x_codes x_within x_piled x_unitsInRule x_askBeast x_askStroke x_askAge x_askSeason x_acts x_undone x_laid x_seens x_time x_fitting j_name B_tape B_text B_turns B_herds B_irons B_beasts B_units B_night B_draw B_told B_brands B_ironMarks B_herdTold B_born B_ruleFrom B_ruleTo B_code B_codeNumber B_eWhat B_eSign B_pile B_all B_burned B_was B_need B_laidRow B_long8 B_brings B_sBurning B_sStroke B_sIs B_sTold B_sUntold B_parts B_boxAll B_isBoxed G_hName G_iName G_bName ex) H)) := by
  refine metG_of 0 ck_X12_goOn (Nat.le_of_ble_eq_true rfl) rMap (fun p e s m args below meth c A hx hb hml hr hlocks hown hts hK hD hA hP hS ls hl => ?_)
  have hown : s.vm.findClass "HideReaderModel" = some m.cls := hown
  have hl : lv_has ls 3 [(0, .ref (a 0))] := hl
  refine lv_aload_n hx hb dX12_goOn_0 rfl (lv_at hl 0 rfl) ?_
  refine lv_aload_n hx hb dX12_goOn_1 rfl (lv_at hl 0 rfl) ?_
  refine rg_o_end hx hb hts hown hK hP uw_7_30 dX12_goOn_2 ?_
  refine rp_o_at hx hb hts hown hK hP hD hS uw_7_29 dX12_goOn_5 (fun H locs hP hS => ?_)
  refine sy_loop (I := fun n H locs g => ∃ (y_24378 : Int) (ls : Array Slot), (0 ≤ y_24378 ∧ y_24378 ≤ 1600) ∧ (0 ≤ y_24378 - x_end) ∧ (1600 - y_24378).toNat = n ∧ va_P D vwCl (rW k a x_taped x_size x_faultKind x_faultPlace y_24378 x_end x_token x_number x_bank x_rb x_codes x_within x_piled x_unitsInRule x_askBeast x_askStroke x_askAge x_askSeason x_acts x_undone x_laid x_seens x_time x_fitting n_name B_tape B_text B_turns B_herds B_irons B_beasts B_units B_night B_draw B_told B_brands B_ironMarks B_herdTold B_born B_ruleFrom B_ruleTo B_code B_codeNumber B_eWhat B_eSign B_pile B_all B_burned B_was B_need B_laidRow B_long8 B_brings B_sBurning B_sStroke B_sIs B_sTold B_sUntold B_parts B_boxAll B_isBoxed G_hName G_iName G_bName ex) H ∧ va_S A s.heap H locs ∧ lv_has ls 3 [(0, .ref (a 0))] ∧ g = F0 m 8 ls []) ?_ _ ⟨x_end, _, by omega, by omega, rfl, hP, hS, lv_sub hl [0] rfl, rfl⟩
  intro n_27912 H locs g hI ih_27913
  obtain ⟨y_24378, ls, h8_0, h8_1, mn_27912, hP, hS, hl, rfl⟩ := hI
  refine lv_aload_n hx hb dX12_goOn_8 rfl (lv_at hl 0 rfl) ?_
  refine rg_o_at hx hb hts hown hK hP uw_7_29 dX12_goOn_9 ?_
  refine lv_aload_n hx hb dX12_goOn_12 rfl (lv_at hl 0 rfl) ?_
  refine rg_o_size hx hb hts hown hK hP uw_7_26 dX12_goOn_13 ?_
  refine sy_join (I := fun H locs g => ∃ (ls : Array Slot), va_P D vwCl (rW k a x_taped x_size x_faultKind x_faultPlace y_24378 x_end x_token x_number x_bank x_rb x_codes x_within x_piled x_unitsInRule x_askBeast x_askStroke x_askAge x_askSeason x_acts x_undone x_laid x_seens x_time x_fitting n_name B_tape B_text B_turns B_herds B_irons B_beasts B_units B_night B_draw B_told B_brands B_ironMarks B_herdTold B_born B_ruleFrom B_ruleTo B_code B_codeNumber B_eWhat B_eSign B_pile B_all B_burned B_was B_need B_laidRow B_long8 B_brings B_sBurning B_sStroke B_sIs B_sTold B_sUntold B_parts B_boxAll B_isBoxed G_hName G_iName G_bName ex) H ∧ va_S A s.heap H locs ∧ lv_has ls 3 [(0, .ref (a 0))] ∧ g = F0 m 58 ls []) ?_ ?_
  · skip
    intro H locs g hI
    obtain ⟨ls, hP, hS, hl, rfl⟩ := hI
    refine lv_aload_n hx hb dX12_goOn_58 rfl (lv_at hl 0 rfl) ?_
    refine lv_aload_n hx hb dX12_goOn_59 rfl (lv_at hl 0 rfl) ?_
    refine rg_o_at hx hb hts hown hK hP uw_7_29 dX12_goOn_60 ?_
    refine g_i (rDt hD) hS hA (g_V (own := "HideReaderModel") (As := [.int (mI y_24378)]) (rest := []) hx hb hml hown hts hK hP (rDt hD) (kr_X12_sign (l := l) (D := D) (k := k) (by omega) h_x_size b_B_text) ck_X12_sign iv_X12_sign uw_7_224 (rv_o hK hP) rfl hl.1 rfl (Nat.le_of_ble_eq_true rfl) dX12_goOn_63 ⟨Nat.le_of_ble_eq_true rfl, Nat.le_of_ble_eq_true rfl⟩ ⟨Nat.le_of_ble_eq_true rfl, Nat.le_of_ble_eq_true rfl⟩) (fun r_27920 H locs hQ hS => ?_)
    obtain ⟨hr_27920_0, hr_27920_1, hr_27920_2, hP⟩ := hQ
    refine lv_istore_n (lv' := [(1, .int (mI r_27920)), (0, .ref (a 0))]) hx hb dX12_goOn_66 rfl hl (by decide) rfl (fun ls hl => ?_)
    refine lv_aload_n hx hb dX12_goOn_67 rfl (lv_at hl 1 rfl) ?_
    refine lv_aload_n hx hb dX12_goOn_68 rfl (lv_at hl 1 rfl) ?_
    refine rg_o_at hx hb hts hown hK hP uw_7_29 dX12_goOn_69 ?_
    refine lv_iconst (v := mI 1) hx hb dX12_goOn_72 rfl ?_
    refine sy_iadd hx hb dX12_goOn_73 (y_24378 + 1) rfl ?_
    refine rp_o_end hx hb hts hown hK hP hD hS uw_7_30 dX12_goOn_74 (fun H locs hP hS => ?_)
    refine lv_aload_n hx hb dX12_goOn_77 rfl (lv_at hl 1 rfl) ?_
    refine rg_o_at hx hb hts hown hK hP uw_7_29 dX12_goOn_78 ?_
    refine lv_aload_n hx hb dX12_goOn_81 rfl (lv_at hl 1 rfl) ?_
    refine rg_o_size hx hb hts hown hK hP uw_7_26 dX12_goOn_82 ?_
    refine sy_icmp_lt (tgt := 112) hx hb dX12_goOn_85 (by decide) (by omega) (by omega) (fun c_27921 => ?_) (fun c_27921 => ?_)
    · skip
      refine lv_iload_n hx hb dX12_goOn_112 rfl (lv_at hl 0 rfl) ?_
      refine g_i (rDt hD) hS hA (g_S (own := "HideReaderModel") (As := [.int (mI r_27920)]) (rest := []) hx hb hml hown hts hK hP (rDt hD) (kr_X12_isLetter (l := l) (D := D) (k := k) (by omega)) ck_X12_isLetter uw_7_229 uw_7_228 rfl hl.1 rfl (Nat.le_of_ble_eq_true rfl) dX12_goOn_113 ⟨Nat.le_of_ble_eq_true rfl, Nat.le_of_ble_eq_true rfl⟩ ⟨Nat.le_of_ble_eq_true rfl, Nat.le_of_ble_eq_true rfl⟩) (fun r_27922 H locs hQ hS => ?_)
      obtain ⟨hq_r_27922, hP⟩ := hQ
      rcases hq_r_27922 with ⟨rfl, c_27923_0⟩ | ⟨rfl, c_27924_0⟩
      · skip
        refine sy_if_eq (tgt := 239) hx hb dX12_goOn_116 (by decide) (by decide) (fun c_27925 => ?_) (fun c9 => absurd c9 (by decide))
        refine lv_iload_n hx hb dX12_goOn_239 rfl (lv_at hl 0 rfl) ?_
        refine g_i (rDt hD) hS hA (g_S (own := "HideReaderModel") (As := [.int (mI r_27920)]) (rest := []) hx hb hml hown hts hK hP (rDt hD) (kr_X12_isDigit (l := l) (D := D) (k := k) (by omega)) ck_X12_isDigit uw_8_13 uw_8_12 rfl hl.1 rfl (Nat.le_of_ble_eq_true rfl) dX12_goOn_240 ⟨Nat.le_of_ble_eq_true rfl, Nat.le_of_ble_eq_true rfl⟩ ⟨Nat.le_of_ble_eq_true rfl, Nat.le_of_ble_eq_true rfl⟩) (fun r_27926 H locs hQ hS => ?_)
        obtain ⟨hq_r_27926, hP⟩ := hQ
        rcases hq_r_27926 with ⟨rfl, c_27927_0⟩ | ⟨rfl, c_27928_0⟩
        · skip
          refine sy_if_eq (tgt := 361) hx hb dX12_goOn_243 (by decide) (by decide) (fun c_27929 => ?_) (fun c9 => absurd c9 (by decide))
          refine lv_aload_n hx hb dX12_goOn_361 rfl (lv_at hl 1 rfl) ?_
          refine lv_iload_n hx hb dX12_goOn_362 rfl (lv_at hl 0 rfl) ?_
          refine g_i (rDt hD) hS hA (g_S (own := "HideReaderModel") (As := [.int (mI r_27920)]) (rest := [.ref (a 0)]) hx hb hml hown hts hK hP (rDt hD) (kr_X12_isSign (l := l) (D := D) (k := k) (by omega)) ck_X12_isSign uw_8_16 uw_8_15 rfl hl.1 rfl (Nat.le_of_ble_eq_true rfl) dX12_goOn_363 ⟨Nat.le_of_ble_eq_true rfl, Nat.le_of_ble_eq_true rfl⟩ ⟨Nat.le_of_ble_eq_true rfl, Nat.le_of_ble_eq_true rfl⟩) (fun r_27930 H locs hQ hS => ?_)
          obtain ⟨hq_r_27930, hP⟩ := hQ
          rcases hq_r_27930 with ⟨rfl, c_27931_0⟩ | ⟨rfl, c_27932_0, c_27932_1, c_27932_2, c_27932_3, c_27932_4, c_27932_5, c_27932_6, c_27932_7, c_27932_8, c_27932_9, c_27932_10⟩
          · skip
            refine sy_if_eq (tgt := 373) hx hb dX12_goOn_366 (by decide) (by decide) (fun c9 => absurd c9 (by decide)) (fun c_27933 => ?_)
            refine lv_iconst (v := mI 5) hx hb dX12_goOn_369 rfl ?_
            refine lv_goto (tgt := 374) hx hb dX12_goOn_370 (by decide) ?_
            refine rp_o_token hx hb hts hown hK hP hD hS uw_7_31 dX12_goOn_374 (fun H locs hP hS => ?_)
            exact r_v hx hb hr hlocks dX12_goOn_377 hS ⟨y_24378, (y_24378 + 1), 5, x_number, n_name, by omega, by omega, by omega, by omega, by omega, by omega, (by omega), hP⟩
          · skip
            refine sy_if_eq (tgt := 373) hx hb dX12_goOn_366 (by decide) (by decide) (fun c_27934 => ?_) (fun c9 => absurd c9 (by decide))
            refine lv_iconst (v := mI 1) hx hb dX12_goOn_373 rfl ?_
            refine rp_o_token hx hb hts hown hK hP hD hS uw_7_31 dX12_goOn_374 (fun H locs hP hS => ?_)
            exact r_v hx hb hr hlocks dX12_goOn_377 hS ⟨y_24378, (y_24378 + 1), 1, x_number, n_name, by omega, by omega, by omega, by omega, by omega, by omega, (by omega), hP⟩
        · skip
          refine sy_if_eq (tgt := 361) hx hb dX12_goOn_243 (by decide) (by decide) (fun c9 => absurd c9 (by decide)) (fun c_27935 => ?_)
          refine lv_aload_n hx hb dX12_goOn_246 rfl (lv_at hl 1 rfl) ?_
          refine lv_iconst (v := mI 0) hx hb dX12_goOn_247 rfl ?_
          refine rp_o_number hx hb hts hown hK hP hD hS uw_7_32 dX12_goOn_248 (fun H locs hP hS => ?_)
          refine lv_aload_n hx hb dX12_goOn_251 rfl (lv_at hl 1 rfl) ?_
          refine lv_aload_n hx hb dX12_goOn_252 rfl (lv_at hl 1 rfl) ?_
          refine rg_o_at hx hb hts hown hK hP uw_7_29 dX12_goOn_253 ?_
          refine rp_o_end hx hb hts hown hK hP hD hS uw_7_30 dX12_goOn_256 (fun H locs hP hS => ?_)
          refine sy_loop (I := fun n H locs g => ∃ (y_29366 : Int) (y_29367 : Int) (ls : Array Slot), (0 ≤ y_29366 ∧ y_29366 ≤ 1600) ∧ (-2147483648 ≤ y_29367 ∧ y_29367 ≤ 2147483647) ∧ (y_29366 ≤ x_size) ∧ (0 ≤ y_29366 - x_end) ∧ (0 ≤ y_29366 - y_24378) ∧ (1600 - y_29366).toNat = n ∧ va_P D vwCl (rW k a x_taped x_size x_faultKind x_faultPlace y_24378 y_29366 x_token y_29367 x_bank x_rb x_codes x_within x_piled x_unitsInRule x_askBeast x_askStroke x_askAge x_askSeason x_acts x_undone x_laid x_seens x_time x_fitting n_name B_tape B_text B_turns B_herds B_irons B_beasts B_units B_night B_draw B_told B_brands B_ironMarks B_herdTold B_born B_ruleFrom B_ruleTo B_code B_codeNumber B_eWhat B_eSign B_pile B_all B_burned B_was B_need B_laidRow B_long8 B_brings B_sBurning B_sStroke B_sIs B_sTold B_sUntold B_parts B_boxAll B_isBoxed G_hName G_iName G_bName ex) H ∧ va_S A s.heap H locs ∧ lv_has ls 3 [(1, .int (mI r_27920)), (0, .ref (a 0))] ∧ g = F0 m 259 ls []) ?_ _ ⟨y_24378, 0, _, by omega, by omega, (by omega), by omega, by omega, rfl, hP, hS, lv_sub hl [0, 1] rfl, rfl⟩
          intro n_29409 H locs g hI ih_29410
          obtain ⟨y_29366, y_29367, ls, h259_0, h259_1, g_29368, h259_3, h259_4, mn_29409, hP, hS, hl, rfl⟩ := hI
          refine lv_aload_n hx hb dX12_goOn_259 rfl (lv_at hl 1 rfl) ?_
          refine lv_aload_n hx hb dX12_goOn_260 rfl (lv_at hl 1 rfl) ?_
          refine rg_o_end hx hb hts hown hK hP uw_7_30 dX12_goOn_261 ?_
          refine g_i (rDt hD) hS hA (g_V (own := "HideReaderModel") (As := [.int (mI y_29366)]) (rest := []) hx hb hml hown hts hK hP (rDt hD) (kr_X12_sign (l := l) (D := D) (k := k) (by omega) h_x_size b_B_text) ck_X12_sign iv_X12_sign uw_7_224 (rv_o hK hP) rfl hl.1 rfl (Nat.le_of_ble_eq_true rfl) dX12_goOn_264 ⟨Nat.le_of_ble_eq_true rfl, Nat.le_of_ble_eq_true rfl⟩ ⟨Nat.le_of_ble_eq_true rfl, Nat.le_of_ble_eq_true rfl⟩) (fun r_29411 H locs hQ hS => ?_)
          obtain ⟨hr_29411_0, hr_29411_1, hr_29411_2, hP⟩ := hQ
          have h_29412 := rSg_c hr_27920_2 hr_29411_2
          refine g_i (rDt hD) hS hA (g_S (own := "HideReaderModel") (As := [.int (mI r_29411)]) (rest := []) hx hb hml hown hts hK hP (rDt hD) (kr_X12_isDigit (l := l) (D := D) (k := k) (by omega)) ck_X12_isDigit uw_8_13 uw_8_12 rfl hl.1 rfl (Nat.le_of_ble_eq_true rfl) dX12_goOn_267 ⟨Nat.le_of_ble_eq_true rfl, Nat.le_of_ble_eq_true rfl⟩ ⟨Nat.le_of_ble_eq_true rfl, Nat.le_of_ble_eq_true rfl⟩) (fun r_29413 H locs hQ hS => ?_)
          obtain ⟨hq_r_29413, hP⟩ := hQ
          rcases hq_r_29413 with ⟨rfl, c_29414_0⟩ | ⟨rfl, c_29415_0⟩
          · skip
            refine sy_if_eq (tgt := 322) hx hb dX12_goOn_270 (by decide) (by decide) (fun c_29417 => ?_) (fun c9 => absurd c9 (by decide))
            refine lv_aload_n hx hb dX12_goOn_322 rfl (lv_at hl 1 rfl) ?_
            refine lv_aload_n hx hb dX12_goOn_323 rfl (lv_at hl 1 rfl) ?_
            refine rg_o_end hx hb hts hown hK hP uw_7_30 dX12_goOn_324 ?_
            refine lv_aload_n hx hb dX12_goOn_327 rfl (lv_at hl 1 rfl) ?_
            refine rg_o_at hx hb hts hown hK hP uw_7_29 dX12_goOn_328 ?_
            refine sy_isub hx hb dX12_goOn_331 (y_29366 - y_24378) rfl ?_
            refine lv_iconst (v := mI 4) hx hb dX12_goOn_332 rfl ?_
            refine sy_icmp_gt (tgt := 350) hx hb dX12_goOn_333 (by decide) (by omega) (by decide) (fun c_29418 => ?_) (fun c_29418 => ?_)
            · skip
              refine lv_iconst (v := mI 1) hx hb dX12_goOn_350 rfl ?_
              refine lv_goto (tgt := 355) hx hb dX12_goOn_351 (by decide) ?_
              refine rp_o_token hx hb hts hown hK hP hD hS uw_7_31 dX12_goOn_355 (fun H locs hP hS => ?_)
              refine lv_goto (tgt := 377) hx hb dX12_goOn_358 (by decide) ?_
              exact r_v hx hb hr hlocks dX12_goOn_377 hS ⟨y_24378, y_29366, 1, y_29367, n_name, by omega, by omega, by omega, by omega, by omega, by omega, g_29368, hP⟩
            · skip
              refine lv_aload_n hx hb dX12_goOn_336 rfl (lv_at hl 1 rfl) ?_
              refine lv_aload_n hx hb dX12_goOn_337 rfl (lv_at hl 1 rfl) ?_
              refine rg_o_end hx hb hts hown hK hP uw_7_30 dX12_goOn_338 ?_
              refine g_i (rDt hD) hS hA (g_V (own := "HideReaderModel") (As := [.int (mI y_29366)]) (rest := [.ref (a 0)]) hx hb hml hown hts hK hP (rDt hD) (kr_X12_sign (l := l) (D := D) (k := k) (by omega) h_x_size b_B_text) ck_X12_sign iv_X12_sign uw_7_224 (rv_o hK hP) rfl hl.1 rfl (Nat.le_of_ble_eq_true rfl) dX12_goOn_341 ⟨Nat.le_of_ble_eq_true rfl, Nat.le_of_ble_eq_true rfl⟩ ⟨Nat.le_of_ble_eq_true rfl, Nat.le_of_ble_eq_true rfl⟩) (fun r_29419 H locs hQ hS => ?_)
              obtain ⟨hr_29419_0, hr_29419_1, hr_29419_2, hP⟩ := hQ
              refine g_i (rDt hD) hS hA (g_S (own := "HideReaderModel") (As := [.int (mI r_29419)]) (rest := [.ref (a 0)]) hx hb hml hown hts hK hP (rDt hD) (kr_X12_isLetter (l := l) (D := D) (k := k) (by omega)) ck_X12_isLetter uw_7_229 uw_7_228 rfl hl.1 rfl (Nat.le_of_ble_eq_true rfl) dX12_goOn_344 ⟨Nat.le_of_ble_eq_true rfl, Nat.le_of_ble_eq_true rfl⟩ ⟨Nat.le_of_ble_eq_true rfl, Nat.le_of_ble_eq_true rfl⟩) (fun r_29420 H locs hQ hS => ?_)
              obtain ⟨hq_r_29420, hP⟩ := hQ
              rcases hq_r_29420 with ⟨rfl, c_29421_0⟩ | ⟨rfl, c_29422_0⟩
              · skip
                refine sy_if_eq (tgt := 354) hx hb dX12_goOn_347 (by decide) (by decide) (fun c_29423 => ?_) (fun c9 => absurd c9 (by decide))
                refine lv_iconst (v := mI 4) hx hb dX12_goOn_354 rfl ?_
                refine rp_o_token hx hb hts hown hK hP hD hS uw_7_31 dX12_goOn_355 (fun H locs hP hS => ?_)
                refine lv_goto (tgt := 377) hx hb dX12_goOn_358 (by decide) ?_
                exact r_v hx hb hr hlocks dX12_goOn_377 hS ⟨y_24378, y_29366, 4, y_29367, n_name, by omega, by omega, by omega, by omega, by omega, by omega, g_29368, hP⟩
              · skip
                refine sy_if_eq (tgt := 354) hx hb dX12_goOn_347 (by decide) (by decide) (fun c9 => absurd c9 (by decide)) (fun c_29424 => ?_)
                refine lv_iconst (v := mI 1) hx hb dX12_goOn_350 rfl ?_
                refine lv_goto (tgt := 355) hx hb dX12_goOn_351 (by decide) ?_
                refine rp_o_token hx hb hts hown hK hP hD hS uw_7_31 dX12_goOn_355 (fun H locs hP hS => ?_)
                refine lv_goto (tgt := 377) hx hb dX12_goOn_358 (by decide) ?_
                exact r_v hx hb hr hlocks dX12_goOn_377 hS ⟨y_24378, y_29366, 1, y_29367, n_name, by omega, by omega, by omega, by omega, by omega, by omega, g_29368, hP⟩
          · skip
            refine sy_if_eq (tgt := 322) hx hb dX12_goOn_270 (by decide) (by decide) (fun c9 => absurd c9 (by decide)) (fun c_29438 => ?_)
            refine lv_aload_n hx hb dX12_goOn_273 rfl (lv_at hl 1 rfl) ?_
            refine rg_o_end hx hb hts hown hK hP uw_7_30 dX12_goOn_274 ?_
            refine lv_aload_n hx hb dX12_goOn_277 rfl (lv_at hl 1 rfl) ?_
            refine rg_o_at hx hb hts hown hK hP uw_7_29 dX12_goOn_278 ?_
            refine sy_isub hx hb dX12_goOn_281 (y_29366 - y_24378) rfl ?_
            refine lv_iconst (v := mI 4) hx hb dX12_goOn_282 rfl ?_
            refine sy_join (I := fun H locs g => ∃ (y_29444 : Int) (ls : Array Slot), (-2147483648 ≤ y_29444 ∧ y_29444 ≤ 2147483647) ∧ va_P D vwCl (rW k a x_taped x_size x_faultKind x_faultPlace y_24378 y_29366 x_token y_29444 x_bank x_rb x_codes x_within x_piled x_unitsInRule x_askBeast x_askStroke x_askAge x_askSeason x_acts x_undone x_laid x_seens x_time x_fitting n_name B_tape B_text B_turns B_herds B_irons B_beasts B_units B_night B_draw B_told B_brands B_ironMarks B_herdTold B_born B_ruleFrom B_ruleTo B_code B_codeNumber B_eWhat B_eSign B_pile B_all B_burned B_was B_need B_laidRow B_long8 B_brings B_sBurning B_sStroke B_sIs B_sTold B_sUntold B_parts B_boxAll B_isBoxed G_hName G_iName G_bName ex) H ∧ va_S A s.heap H locs ∧ lv_has ls 3 [(1, .int (mI r_27920)), (0, .ref (a 0))] ∧ g = F0 m 309 ls []) ?_ ?_
            · skip
              intro H locs g hI
              obtain ⟨y_29444, ls, h309_0, hP, hS, hl, rfl⟩ := hI
              refine lv_aload_n hx hb dX12_goOn_309 rfl (lv_at hl 1 rfl) ?_
              refine lv_dup hx hb dX12_goOn_310 rfl ?_
              refine rg_o_end hx hb hts hown hK hP uw_7_30 dX12_goOn_311 ?_
              refine lv_iconst (v := mI 1) hx hb dX12_goOn_314 rfl ?_
              refine sy_iadd hx hb dX12_goOn_315 (y_29366 + 1) rfl ?_
              refine rp_o_end hx hb hts hown hK hP hD hS uw_7_30 dX12_goOn_316 (fun H locs hP hS => ?_)
              refine lv_goto (tgt := 259) hx hb dX12_goOn_319 (by decide) ?_
              exact ih_29410 _ _ _ _ (by omega) ⟨(y_29366 + 1), y_29444, _, by omega, by omega, (by omega), by omega, by omega, rfl, hP, hS, lv_sub hl [0, 1] rfl, rfl⟩
            · skip
              intro J_29445
              refine sy_icmp_ge (tgt := 309) hx hb dX12_goOn_283 (by decide) (by omega) (by decide) (fun c_29446 => ?_) (fun c_29446 => ?_)
              · skip
                exact J_29445 _ _ _ ⟨y_29367, _, by omega, hP, hS, lv_sub hl [0, 1] rfl, rfl⟩
              · skip
                refine lv_aload_n hx hb dX12_goOn_286 rfl (lv_at hl 1 rfl) ?_
                refine lv_bipush (v := mI 10) hx hb dX12_goOn_287 (by decide) ?_
                refine lv_aload_n hx hb dX12_goOn_289 rfl (lv_at hl 1 rfl) ?_
                refine rg_o_number hx hb hts hown hK hP uw_7_32 dX12_goOn_290 ?_
                refine sy_imul hx hb dX12_goOn_293 (10 * y_29367) rfl ?_
                refine sy_any (fun z_29447 hz_29447 => ?_)
                refine lv_aload_n hx hb dX12_goOn_294 rfl (lv_at hl 1 rfl) ?_
                refine lv_aload_n hx hb dX12_goOn_295 rfl (lv_at hl 1 rfl) ?_
                refine rg_o_end hx hb hts hown hK hP uw_7_30 dX12_goOn_296 ?_
                refine g_i (rDt hD) hS hA (g_V (own := "HideReaderModel") (As := [.int (mI y_29366)]) (rest := [.int (mI z_29447), .ref (a 0)]) hx hb hml hown hts hK hP (rDt hD) (kr_X12_sign (l := l) (D := D) (k := k) (by omega) h_x_size b_B_text) ck_X12_sign iv_X12_sign uw_7_224 (rv_o hK hP) rfl hl.1 rfl (Nat.le_of_ble_eq_true rfl) dX12_goOn_299 ⟨Nat.le_of_ble_eq_true rfl, Nat.le_of_ble_eq_true rfl⟩ ⟨Nat.le_of_ble_eq_true rfl, Nat.le_of_ble_eq_true rfl⟩) (fun r_29448 H locs hQ hS => ?_)
                obtain ⟨hr_29448_0, hr_29448_1, hr_29448_2, hP⟩ := hQ
                refine sy_iadd hx hb dX12_goOn_302 (z_29447 + r_29448) rfl ?_
                refine sy_any (fun z_29449 hz_29449 => ?_)
                refine lv_bipush (v := mI 48) hx hb dX12_goOn_303 (by decide) ?_
                refine sy_isub hx hb dX12_goOn_305 (z_29449 - 48) rfl ?_
                refine sy_any (fun z_29450 hz_29450 => ?_)
                refine rp_o_number hx hb hts hown hK hP hD hS uw_7_32 dX12_goOn_306 (fun H locs hP hS => ?_)
                exact J_29445 _ _ _ ⟨z_29450, _, by omega, hP, hS, lv_sub hl [0, 1] rfl, rfl⟩
      · skip
        refine sy_if_eq (tgt := 239) hx hb dX12_goOn_116 (by decide) (by decide) (fun c9 => absurd c9 (by decide)) (fun c_29451 => ?_)
        refine sy_loop (I := fun n H locs g => ∃ (y_30998 : Int) (ls : Array Slot), (1 ≤ y_30998 ∧ y_30998 ≤ 1600) ∧ (y_30998 ≤ x_size) ∧ (0 ≤ y_30998 - x_end) ∧ (0 ≤ y_30998 - y_24378 - 1) ∧ (1600 - y_30998).toNat = n ∧ va_P D vwCl (rW k a x_taped x_size x_faultKind x_faultPlace y_24378 y_30998 x_token x_number x_bank x_rb x_codes x_within x_piled x_unitsInRule x_askBeast x_askStroke x_askAge x_askSeason x_acts x_undone x_laid x_seens x_time x_fitting n_name B_tape B_text B_turns B_herds B_irons B_beasts B_units B_night B_draw B_told B_brands B_ironMarks B_herdTold B_born B_ruleFrom B_ruleTo B_code B_codeNumber B_eWhat B_eSign B_pile B_all B_burned B_was B_need B_laidRow B_long8 B_brings B_sBurning B_sStroke B_sIs B_sTold B_sUntold B_parts B_boxAll B_isBoxed G_hName G_iName G_bName ex) H ∧ va_S A s.heap H locs ∧ lv_has ls 3 [(1, .int (mI r_27920)), (0, .ref (a 0))] ∧ g = F0 m 119 ls []) ?_ _ ⟨(y_24378 + 1), _, by omega, (by omega), by omega, by omega, rfl, hP, hS, lv_sub hl [0, 1] rfl, rfl⟩
        intro n_31220 H locs g hI ih_31221
        obtain ⟨y_30998, ls, h119_0, g_30999, h119_2, h119_3, mn_31220, hP, hS, hl, rfl⟩ := hI
        refine lv_aload_n hx hb dX12_goOn_119 rfl (lv_at hl 1 rfl) ?_
        refine lv_aload_n hx hb dX12_goOn_120 rfl (lv_at hl 1 rfl) ?_
        refine rg_o_end hx hb hts hown hK hP uw_7_30 dX12_goOn_121 ?_
        refine g_i (rDt hD) hS hA (g_V (own := "HideReaderModel") (As := [.int (mI y_30998)]) (rest := []) hx hb hml hown hts hK hP (rDt hD) (kr_X12_sign (l := l) (D := D) (k := k) (by omega) h_x_size b_B_text) ck_X12_sign iv_X12_sign uw_7_224 (rv_o hK hP) rfl hl.1 rfl (Nat.le_of_ble_eq_true rfl) dX12_goOn_124 ⟨Nat.le_of_ble_eq_true rfl, Nat.le_of_ble_eq_true rfl⟩ ⟨Nat.le_of_ble_eq_true rfl, Nat.le_of_ble_eq_true rfl⟩) (fun r_31222 H locs hQ hS => ?_)
        obtain ⟨hr_31222_0, hr_31222_1, hr_31222_2, hP⟩ := hQ
        refine g_i (rDt hD) hS hA (g_S (own := "HideReaderModel") (As := [.int (mI r_31222)]) (rest := []) hx hb hml hown hts hK hP (rDt hD) (kr_X12_isLetter (l := l) (D := D) (k := k) (by omega)) ck_X12_isLetter uw_7_229 uw_7_228 rfl hl.1 rfl (Nat.le_of_ble_eq_true rfl) dX12_goOn_127 ⟨Nat.le_of_ble_eq_true rfl, Nat.le_of_ble_eq_true rfl⟩ ⟨Nat.le_of_ble_eq_true rfl, Nat.le_of_ble_eq_true rfl⟩) (fun r_31223 H locs hQ hS => ?_)
        obtain ⟨hq_r_31223, hP⟩ := hQ
        rcases hq_r_31223 with ⟨rfl, c_31224_0⟩ | ⟨rfl, c_31225_0⟩
        · skip
          refine sy_if_eq (tgt := 146) hx hb dX12_goOn_130 (by decide) (by decide) (fun c_31227 => ?_) (fun c9 => absurd c9 (by decide))
          refine lv_aload_n hx hb dX12_goOn_146 rfl (lv_at hl 1 rfl) ?_
          refine lv_lconst (v := 0) hx hb dX12_goOn_147 rfl ?_
          refine rp_o_name hx hb hts hown hK hP hD hS uw_7_33 dX12_goOn_148 (fun H locs hP hS => ?_)
          refine lv_aload_n hx hb dX12_goOn_151 rfl (lv_at hl 1 rfl) ?_
          refine rg_o_at hx hb hts hown hK hP uw_7_29 dX12_goOn_152 ?_
          refine lv_istore_n (lv' := [(2, .int (mI y_24378)), (1, .int (mI r_27920)), (0, .ref (a 0))]) hx hb dX12_goOn_155 rfl hl (by decide) rfl (fun ls hl => ?_)
          refine sy_loop (I := fun n H locs g => ∃ (z_31398 : Int) (j_31399 : Int64) (ls : Array Slot), (0 ≤ z_31398 ∧ z_31398 ≤ 1600) ∧ (0 ≤ z_31398 - y_24378) ∧ (1600 - z_31398).toNat = n ∧ va_P D vwCl (rW k a x_taped x_size x_faultKind x_faultPlace y_24378 y_30998 x_token x_number x_bank x_rb x_codes x_within x_piled x_unitsInRule x_askBeast x_askStroke x_askAge x_askSeason x_acts x_undone x_laid x_seens x_time x_fitting j_31399 B_tape B_text B_turns B_herds B_irons B_beasts B_units B_night B_draw B_told B_brands B_ironMarks B_herdTold B_born B_ruleFrom B_ruleTo B_code B_codeNumber B_eWhat B_eSign B_pile B_all B_burned B_was B_need B_laidRow B_long8 B_brings B_sBurning B_sStroke B_sIs B_sTold B_sUntold B_parts B_boxAll B_isBoxed G_hName G_iName G_bName ex) H ∧ va_S A s.heap H locs ∧ lv_has ls 3 [(2, .int (mI z_31398)), (1, .int (mI r_27920)), (0, .ref (a 0))] ∧ g = F0 m 156 ls []) ?_ _ ⟨y_24378, 0, _, by omega, by omega, rfl, hP, hS, lv_sub hl [0, 1, 2] rfl, rfl⟩
          intro n_31419 H locs g hI ih_31420
          obtain ⟨z_31398, j_31399, ls, h156_0, h156_1, mn_31419, hP, hS, hl, rfl⟩ := hI
          refine lv_iload_n hx hb dX12_goOn_156 rfl (lv_at hl 0 rfl) ?_
          refine lv_aload_n hx hb dX12_goOn_157 rfl (lv_at hl 2 rfl) ?_
          refine rg_o_end hx hb hts hown hK hP uw_7_30 dX12_goOn_158 ?_
          refine sy_join (I := fun H locs g => ∃ (ls : Array Slot), (1 ≤ z_31398 ∧ z_31398 ≤ 1600) ∧ va_P D vwCl (rW k a x_taped x_size x_faultKind x_faultPlace y_24378 y_30998 x_token x_number x_bank x_rb x_codes x_within x_piled x_unitsInRule x_askBeast x_askStroke x_askAge x_askSeason x_acts x_undone x_laid x_seens x_time x_fitting j_31399 B_tape B_text B_turns B_herds B_irons B_beasts B_units B_night B_draw B_told B_brands B_ironMarks B_herdTold B_born B_ruleFrom B_ruleTo B_code B_codeNumber B_eWhat B_eSign B_pile B_all B_burned B_was B_need B_laidRow B_long8 B_brings B_sBurning B_sStroke B_sIs B_sTold B_sUntold B_parts B_boxAll B_isBoxed G_hName G_iName G_bName ex) H ∧ va_S A s.heap H locs ∧ lv_has ls 3 [(2, .int (mI z_31398)), (1, .int (mI r_27920)), (0, .ref (a 0))] ∧ g = F0 m 199 ls []) ?_ ?_
          · skip
            intro H locs g hI
            obtain ⟨ls, h199_0, hP, hS, hl, rfl⟩ := hI
            refine lv_aload_n hx hb dX12_goOn_199 rfl (lv_at hl 2 rfl) ?_
            refine lv_aload_n hx hb dX12_goOn_200 rfl (lv_at hl 2 rfl) ?_
            refine rg_o_end hx hb hts hown hK hP uw_7_30 dX12_goOn_201 ?_
            refine lv_aload_n hx hb dX12_goOn_204 rfl (lv_at hl 2 rfl) ?_
            refine rg_o_at hx hb hts hown hK hP uw_7_29 dX12_goOn_205 ?_
            refine sy_isub hx hb dX12_goOn_208 (y_30998 - y_24378) rfl ?_
            refine lv_bipush (v := mI 8) hx hb dX12_goOn_209 (by decide) ?_
            refine sy_icmp_le (tgt := 218) hx hb dX12_goOn_211 (by decide) (by omega) (by decide) (fun c_31428 => ?_) (fun c_31428 => ?_)
            · skip
              refine lv_aload_n hx hb dX12_goOn_218 rfl (lv_at hl 2 rfl) ?_
              refine rg_o_name hx hb hts hown hK hP uw_7_33 dX12_goOn_219 ?_
              refine g_i (rDt hD) hS hA (g_S (own := "HideReaderModel") (As := [.long j_31399]) (rest := [.ref (a 0)]) hx hb hml hown hts hK hP (rDt hD) (kr_X12_isKept (l := l) (D := D) (k := k)) ck_X12_isKept uw_7_232 uw_7_231 rfl hl.1 rfl (Nat.le_of_ble_eq_true rfl) dX12_goOn_222 ⟨Nat.le_of_ble_eq_true rfl, Nat.le_of_ble_eq_true rfl⟩ ⟨Nat.le_of_ble_eq_true rfl, Nat.le_of_ble_eq_true rfl⟩) (fun r_31429 H locs hQ hS => ?_)
              obtain ⟨hq_r_31429, hP⟩ := hQ
              rcases hq_r_31429 with rfl | rfl
              · skip
                refine sy_if_eq (tgt := 232) hx hb dX12_goOn_225 (by decide) (by decide) (fun c9 => absurd c9 (by decide)) (fun c_31432 => ?_)
                refine lv_iconst (v := mI 3) hx hb dX12_goOn_228 rfl ?_
                refine lv_goto (tgt := 233) hx hb dX12_goOn_229 (by decide) ?_
                refine rp_o_token hx hb hts hown hK hP hD hS uw_7_31 dX12_goOn_233 (fun H locs hP hS => ?_)
                refine lv_goto (tgt := 377) hx hb dX12_goOn_236 (by decide) ?_
                exact r_v hx hb hr hlocks dX12_goOn_377 hS ⟨y_24378, y_30998, 3, x_number, j_31399, by omega, by omega, by omega, by omega, by omega, by omega, g_30999, hP⟩
              · skip
                refine sy_if_eq (tgt := 232) hx hb dX12_goOn_225 (by decide) (by decide) (fun c_31433 => ?_) (fun c9 => absurd c9 (by decide))
                refine lv_iconst (v := mI 2) hx hb dX12_goOn_232 rfl ?_
                refine rp_o_token hx hb hts hown hK hP hD hS uw_7_31 dX12_goOn_233 (fun H locs hP hS => ?_)
                refine lv_goto (tgt := 377) hx hb dX12_goOn_236 (by decide) ?_
                exact r_v hx hb hr hlocks dX12_goOn_377 hS ⟨y_24378, y_30998, 2, x_number, j_31399, by omega, by omega, by omega, by omega, by omega, by omega, g_30999, hP⟩
            · skip
              refine lv_iconst (v := mI 1) hx hb dX12_goOn_214 rfl ?_
              refine lv_goto (tgt := 233) hx hb dX12_goOn_215 (by decide) ?_
              refine rp_o_token hx hb hts hown hK hP hD hS uw_7_31 dX12_goOn_233 (fun H locs hP hS => ?_)
              refine lv_goto (tgt := 377) hx hb dX12_goOn_236 (by decide) ?_
              exact r_v hx hb hr hlocks dX12_goOn_377 hS ⟨y_24378, y_30998, 1, x_number, j_31399, by omega, by omega, by omega, by omega, by omega, by omega, g_30999, hP⟩
          · skip
            intro J_31427
            refine sy_icmp_ge (tgt := 199) hx hb dX12_goOn_161 (by decide) (by omega) (by omega) (fun c_31434 => ?_) (fun c_31434 => ?_)
            · skip
              exact J_31427 _ _ _ ⟨_, by omega, hP, hS, lv_sub hl [0, 1, 2] rfl, rfl⟩
            · skip
              refine lv_iload_n hx hb dX12_goOn_164 rfl (lv_at hl 0 rfl) ?_
              refine lv_aload_n hx hb dX12_goOn_165 rfl (lv_at hl 2 rfl) ?_
              refine rg_o_at hx hb hts hown hK hP uw_7_29 dX12_goOn_166 ?_
              refine lv_bipush (v := mI 8) hx hb dX12_goOn_169 (by decide) ?_
              refine sy_iadd hx hb dX12_goOn_171 (y_24378 + 8) rfl ?_
              refine sy_icmp_ge (tgt := 199) hx hb dX12_goOn_172 (by decide) (by omega) (by omega) (fun c_31435 => ?_) (fun c_31435 => ?_)
              · skip
                exact J_31427 _ _ _ ⟨_, by omega, hP, hS, lv_sub hl [0, 1, 2] rfl, rfl⟩
              · skip
                refine lv_aload_n hx hb dX12_goOn_175 rfl (lv_at hl 2 rfl) ?_
                refine lv_aload_n hx hb dX12_goOn_176 rfl (lv_at hl 2 rfl) ?_
                refine rg_o_name hx hb hts hown hK hP uw_7_33 dX12_goOn_177 ?_
                refine lv_bipush (v := mI 8) hx hb dX12_goOn_180 (by decide) ?_
                refine lv_lshl hx hb dX12_goOn_182 rfl ?_
                refine lv_topl (fun j_31436 _ => ?_)
                refine lv_aload_n hx hb dX12_goOn_183 rfl (lv_at hl 2 rfl) ?_
                refine lv_iload_n hx hb dX12_goOn_184 rfl (lv_at hl 0 rfl) ?_
                refine g_i (rDt hD) hS hA (g_V (own := "HideReaderModel") (As := [.int (mI z_31398)]) (rest := [.long j_31436, .ref (a 0)]) hx hb hml hown hts hK hP (rDt hD) (kr_X12_sign (l := l) (D := D) (k := k) (by omega) h_x_size b_B_text) ck_X12_sign iv_X12_sign uw_7_224 (rv_o hK hP) rfl hl.1 rfl (Nat.le_of_ble_eq_true rfl) dX12_goOn_185 ⟨Nat.le_of_ble_eq_true rfl, Nat.le_of_ble_eq_true rfl⟩ ⟨Nat.le_of_ble_eq_true rfl, Nat.le_of_ble_eq_true rfl⟩) (fun r_31437 H locs hQ hS => ?_)
                obtain ⟨hr_31437_0, hr_31437_1, hr_31437_2, hP⟩ := hQ
                refine lv_i2l hx hb dX12_goOn_188 rfl ?_
                refine lv_topl (fun j_31438 _ => ?_)
                refine lv_lor hx hb dX12_goOn_189 ?_
                refine lv_topl (fun j_31439 _ => ?_)
                refine rp_o_name hx hb hts hown hK hP hD hS uw_7_33 dX12_goOn_190 (fun H locs hP hS => ?_)
                refine lv_iinc (v := mI (z_31398 + 1)) (lv' := [(2, .int (mI (z_31398 + 1))), (1, .int (mI r_27920)), (0, .ref (a 0))]) hx hb dX12_goOn_193 hl (k := 0) rfl (mI_ad rfl) (by decide) rfl (fun ls hl => ?_)
                refine lv_goto (tgt := 156) hx hb dX12_goOn_196 (by decide) ?_
                exact ih_31420 _ _ _ _ (by omega) ⟨(z_31398 + 1), j_31439, _, by omega, by omega, rfl, hP, hS, lv_sub hl [0, 1, 2] rfl, rfl⟩
        · skip
          refine sy_if_eq (tgt := 146) hx hb dX12_goOn_130 (by decide) (by decide) (fun c9 => absurd c9 (by decide)) (fun c_31441 => ?_)
          refine lv_aload_n hx hb dX12_goOn_133 rfl (lv_at hl 1 rfl) ?_
          refine lv_dup hx hb dX12_goOn_134 rfl ?_
          refine rg_o_end hx hb hts hown hK hP uw_7_30 dX12_goOn_135 ?_
          refine lv_iconst (v := mI 1) hx hb dX12_goOn_138 rfl ?_
          refine sy_iadd hx hb dX12_goOn_139 (y_30998 + 1) rfl ?_
          refine rp_o_end hx hb hts hown hK hP hD hS uw_7_30 dX12_goOn_140 (fun H locs hP hS => ?_)
          refine lv_goto (tgt := 119) hx hb dX12_goOn_143 (by decide) ?_
          exact ih_31221 _ _ _ _ (by omega) ⟨(y_30998 + 1), _, by omega, (by omega), by omega, by omega, rfl, hP, hS, lv_sub hl [0, 1] rfl, rfl⟩
    · skip
      refine lv_aload_n hx hb dX12_goOn_88 rfl (lv_at hl 1 rfl) ?_
      refine lv_iconst (v := mI 0) hx hb dX12_goOn_89 rfl ?_
      refine rp_o_token hx hb hts hown hK hP hD hS uw_7_31 dX12_goOn_90 (fun H locs hP hS => ?_)
      refine lv_aload_n hx hb dX12_goOn_93 rfl (lv_at hl 1 rfl) ?_
      refine lv_aload_n hx hb dX12_goOn_94 rfl (lv_at hl 1 rfl) ?_
      refine rg_o_size hx hb hts hown hK hP uw_7_26 dX12_goOn_95 ?_
      refine rp_o_at hx hb hts hown hK hP hD hS uw_7_29 dX12_goOn_98 (fun H locs hP hS => ?_)
      refine lv_aload_n hx hb dX12_goOn_101 rfl (lv_at hl 1 rfl) ?_
      refine lv_aload_n hx hb dX12_goOn_102 rfl (lv_at hl 1 rfl) ?_
      refine rg_o_size hx hb hts hown hK hP uw_7_26 dX12_goOn_103 ?_
      refine rp_o_end hx hb hts hown hK hP hD hS uw_7_30 dX12_goOn_106 (fun H locs hP hS => ?_)
      refine lv_goto (tgt := 377) hx hb dX12_goOn_109 (by decide) ?_
      exact r_v hx hb hr hlocks dX12_goOn_377 hS ⟨x_size, x_size, 0, x_number, n_name, by omega, by omega, by omega, by omega, by omega, by omega, (by omega), hP⟩
  · skip
    intro J_27919
    refine sy_icmp_ge (tgt := 58) hx hb dX12_goOn_16 (by decide) (by omega) (by omega) (fun c_31442 => ?_) (fun c_31442 => ?_)
    · skip
      exact J_27919 _ _ _ ⟨_, hP, hS, lv_sub hl [0] rfl, rfl⟩
    · skip
      refine lv_aload_n hx hb dX12_goOn_19 rfl (lv_at hl 0 rfl) ?_
      refine lv_aload_n hx hb dX12_goOn_20 rfl (lv_at hl 0 rfl) ?_
      refine rg_o_at hx hb hts hown hK hP uw_7_29 dX12_goOn_21 ?_
      refine g_i (rDt hD) hS hA (g_V (own := "HideReaderModel") (As := [.int (mI y_24378)]) (rest := []) hx hb hml hown hts hK hP (rDt hD) (kr_X12_sign (l := l) (D := D) (k := k) (by omega) h_x_size b_B_text) ck_X12_sign iv_X12_sign uw_7_224 (rv_o hK hP) rfl hl.1 rfl (Nat.le_of_ble_eq_true rfl) dX12_goOn_24 ⟨Nat.le_of_ble_eq_true rfl, Nat.le_of_ble_eq_true rfl⟩ ⟨Nat.le_of_ble_eq_true rfl, Nat.le_of_ble_eq_true rfl⟩) (fun r_31443 H locs hQ hS => ?_)
      obtain ⟨hr_31443_0, hr_31443_1, hr_31443_2, hP⟩ := hQ
      refine lv_bipush (v := mI 32) hx hb dX12_goOn_27 (by decide) ?_
      refine sy_icmp_eq (tgt := 45) hx hb dX12_goOn_29 (by decide) (by omega) (by decide) (fun c_31444 => ?_) (fun c_31444 => ?_)
      · skip
        refine lv_aload_n hx hb dX12_goOn_45 rfl (lv_at hl 0 rfl) ?_
        refine lv_dup hx hb dX12_goOn_46 rfl ?_
        refine rg_o_at hx hb hts hown hK hP uw_7_29 dX12_goOn_47 ?_
        refine lv_iconst (v := mI 1) hx hb dX12_goOn_50 rfl ?_
        refine sy_iadd hx hb dX12_goOn_51 (y_24378 + 1) rfl ?_
        refine rp_o_at hx hb hts hown hK hP hD hS uw_7_29 dX12_goOn_52 (fun H locs hP hS => ?_)
        refine lv_goto (tgt := 8) hx hb dX12_goOn_55 (by decide) ?_
        exact ih_27913 _ _ _ _ (by omega) ⟨(y_24378 + 1), _, by omega, by omega, rfl, hP, hS, lv_sub hl [0] rfl, rfl⟩
      · skip
        refine lv_aload_n hx hb dX12_goOn_32 rfl (lv_at hl 0 rfl) ?_
        refine lv_aload_n hx hb dX12_goOn_33 rfl (lv_at hl 0 rfl) ?_
        refine rg_o_at hx hb hts hown hK hP uw_7_29 dX12_goOn_34 ?_
        refine g_i (rDt hD) hS hA (g_V (own := "HideReaderModel") (As := [.int (mI y_24378)]) (rest := []) hx hb hml hown hts hK hP (rDt hD) (kr_X12_sign (l := l) (D := D) (k := k) (by omega) h_x_size b_B_text) ck_X12_sign iv_X12_sign uw_7_224 (rv_o hK hP) rfl hl.1 rfl (Nat.le_of_ble_eq_true rfl) dX12_goOn_37 ⟨Nat.le_of_ble_eq_true rfl, Nat.le_of_ble_eq_true rfl⟩ ⟨Nat.le_of_ble_eq_true rfl, Nat.le_of_ble_eq_true rfl⟩) (fun r_31445 H locs hQ hS => ?_)
        obtain ⟨hr_31445_0, hr_31445_1, hr_31445_2, hP⟩ := hQ
        refine lv_bipush (v := mI 10) hx hb dX12_goOn_40 (by decide) ?_
        refine sy_icmp_ne (tgt := 58) hx hb dX12_goOn_42 (by decide) (by omega) (by decide) (fun c_31446 => ?_) (fun c_31446 => ?_)
        · skip
          exact J_27919 _ _ _ ⟨_, hP, hS, lv_sub hl [0] rfl, rfl⟩
        · skip
          refine lv_aload_n hx hb dX12_goOn_45 rfl (lv_at hl 0 rfl) ?_
          refine lv_dup hx hb dX12_goOn_46 rfl ?_
          refine rg_o_at hx hb hts hown hK hP uw_7_29 dX12_goOn_47 ?_
          refine lv_iconst (v := mI 1) hx hb dX12_goOn_50 rfl ?_
          refine sy_iadd hx hb dX12_goOn_51 (y_24378 + 1) rfl ?_
          refine rp_o_at hx hb hts hown hK hP hD hS uw_7_29 dX12_goOn_52 (fun H locs hP hS => ?_)
          refine lv_goto (tgt := 8) hx hb dX12_goOn_55 (by decide) ?_
          exact ih_27913 _ _ _ _ (by omega) ⟨(y_24378 + 1), _, by omega, by omega, rfl, hP, hS, lv_sub hl [0] rfl, rfl⟩
set_option maxHeartbeats 4000000 in
set_option maxRecDepth 100000 in
theorem kr_X12_isSignHere {p0 : Int} (hp0 : -2147483648 ≤ p0 ∧ p0 ≤ 2147483647) (h_x_size : 0 ≤ x_size ∧ x_size ≤ 1600) (h_x_at : 0 ≤ x_at ∧ x_at ≤ 1600) (h_x_token : 0 ≤ x_token ∧ x_token ≤ 5) (b_B_text : bd (-128) 127 B_text) : MetG l D k yX12_isSignHere cX12_isSignHere 2 (some .boolean) 1 [.ref (a 0), .int (mI p0)] (rW k a x_taped x_size x_faultKind x_faultPlace x_at x_end x_token x_number x_bank x_rb x_codes x_within x_piled x_unitsInRule x_askBeast x_askStroke x_askAge x_askSeason x_acts x_undone x_laid x_seens x_time x_fitting n_name B_tape B_text B_turns B_herds B_irons B_beasts B_units B_night B_draw B_told B_brands B_ironMarks B_herdTold B_born B_ruleFrom B_ruleTo B_code B_codeNumber B_eWhat B_eSign B_pile B_all B_burned B_was B_need B_laidRow B_long8 B_brings B_sBurning B_sStroke B_sIs B_sTold B_sUntold B_parts B_boxAll B_isBoxed G_hName G_iName G_bName ex) (qGi (fun r0 H => ((0 = r0 ∧ ((x_token ≠ 5) ∨ (x_token = 5))) ∨ (1 = r0 ∧ (0 ≤ p0 ∧ p0 ≤ 255) ∧ (5 ≤ x_token ∧ x_token ≤ 5) ∧ (rSg B_text x_size x_at = p0))) ∧ va_P D vwCl (rW k a x_taped x_size x_faultKind x_faultPlace x_at x_end x_token x_number x_bank x_rb x_codes x_within x_piled x_unitsInRule x_askBeast x_askStroke x_askAge x_askSeason x_acts x_undone x_laid x_seens x_time x_fitting n_name B_tape B_text B_turns B_herds B_irons B_beasts B_units B_night B_draw B_told B_brands B_ironMarks B_herdTold B_born B_ruleFrom B_ruleTo B_code B_codeNumber B_eWhat B_eSign B_pile B_all B_burned B_was B_need B_laidRow B_long8 B_brings B_sBurning B_sStroke B_sIs B_sTold B_sUntold B_parts B_boxAll B_isBoxed G_hName G_iName G_bName ex) H)) := by
  refine metG_of 1 ck_X12_isSignHere (Nat.le_of_ble_eq_true rfl) rMap (fun p e s m args below meth c A hx hb hml hr hlocks hown hts hK hD hA hP hS ls hl => ?_)
  have hown : s.vm.findClass "HideReaderModel" = some m.cls := hown
  have hl : lv_has ls 2 [(0, .ref (a 0)), (1, .int (mI p0))] := hl
  refine lv_aload_n hx hb dX12_isSignHere_0 rfl (lv_at hl 0 rfl) ?_
  refine rg_o_token hx hb hts hown hK hP uw_7_31 dX12_isSignHere_1 ?_
  refine lv_iconst (v := mI 5) hx hb dX12_isSignHere_4 rfl ?_
  refine sy_icmp_ne (tgt := 24) hx hb dX12_isSignHere_5 (by decide) (by omega) (by decide) (fun c_1 => ?_) (fun c_1 => ?_)
  · skip
    refine lv_iconst (v := mI 0) hx hb dX12_isSignHere_24 rfl ?_
    exact r_z hx hb hr hlocks dX12_isSignHere_25 hS (by decide) ⟨Or.inl (⟨rfl, by omega⟩), hP⟩
  · skip
    refine lv_aload_n hx hb dX12_isSignHere_8 rfl (lv_at hl 0 rfl) ?_
    refine lv_aload_n hx hb dX12_isSignHere_9 rfl (lv_at hl 0 rfl) ?_
    refine rg_o_at hx hb hts hown hK hP uw_7_29 dX12_isSignHere_10 ?_
    refine g_i (rDt hD) hS hA (g_V (own := "HideReaderModel") (As := [.int (mI x_at)]) (rest := []) hx hb hml hown hts hK hP (rDt hD) (kr_X12_sign (l := l) (D := D) (k := k) (by omega) h_x_size b_B_text) ck_X12_sign iv_X12_sign uw_7_224 (rv_o hK hP) rfl hl.1 rfl (Nat.le_of_ble_eq_true rfl) dX12_isSignHere_13 ⟨Nat.le_of_ble_eq_true rfl, Nat.le_of_ble_eq_true rfl⟩ ⟨Nat.le_of_ble_eq_true rfl, Nat.le_of_ble_eq_true rfl⟩) (fun r_2 H locs hQ hS => ?_)
    obtain ⟨hr_2_0, hr_2_1, hr_2_2, hP⟩ := hQ
    refine lv_iload_n hx hb dX12_isSignHere_16 rfl (lv_at hl 1 rfl) ?_
    refine sy_icmp_ne (tgt := 24) hx hb dX12_isSignHere_17 (by decide) (by omega) (by omega) (fun c_3 => ?_) (fun c_3 => ?_)
    · skip
      refine lv_iconst (v := mI 0) hx hb dX12_isSignHere_24 rfl ?_
      exact r_z hx hb hr hlocks dX12_isSignHere_25 hS (by decide) ⟨Or.inl (⟨rfl, by omega⟩), hP⟩
    · skip
      refine lv_iconst (v := mI 1) hx hb dX12_isSignHere_20 rfl ?_
      refine lv_goto (tgt := 25) hx hb dX12_isSignHere_21 (by decide) ?_
      exact r_z hx hb hr hlocks dX12_isSignHere_25 hS (by decide) ⟨Or.inr (⟨rfl, by omega, by omega, (by omega)⟩), hP⟩
set_option maxHeartbeats 4000000 in
set_option maxRecDepth 100000 in
theorem kr_X12_isWord {p0 : Int64} (h_x_token : 0 ≤ x_token ∧ x_token ≤ 5) : MetG l D k yX12_isWord cX12_isWord 3 (some .boolean) 0 [.ref (a 0), .long p0] (rW k a x_taped x_size x_faultKind x_faultPlace x_at x_end x_token x_number x_bank x_rb x_codes x_within x_piled x_unitsInRule x_askBeast x_askStroke x_askAge x_askSeason x_acts x_undone x_laid x_seens x_time x_fitting n_name B_tape B_text B_turns B_herds B_irons B_beasts B_units B_night B_draw B_told B_brands B_ironMarks B_herdTold B_born B_ruleFrom B_ruleTo B_code B_codeNumber B_eWhat B_eSign B_pile B_all B_burned B_was B_need B_laidRow B_long8 B_brings B_sBurning B_sStroke B_sIs B_sTold B_sUntold B_parts B_boxAll B_isBoxed G_hName G_iName G_bName ex) (qGi (fun r0 H => ((0 = r0 ∧ ((x_token ≠ 3) ∨ (x_token = 3)) ∧ (¬ (x_token = 3 ∧ n_name = p0))) ∨ (1 = r0 ∧ (3 ≤ x_token ∧ x_token ≤ 3) ∧ (n_name = p0))) ∧ va_P D vwCl (rW k a x_taped x_size x_faultKind x_faultPlace x_at x_end x_token x_number x_bank x_rb x_codes x_within x_piled x_unitsInRule x_askBeast x_askStroke x_askAge x_askSeason x_acts x_undone x_laid x_seens x_time x_fitting n_name B_tape B_text B_turns B_herds B_irons B_beasts B_units B_night B_draw B_told B_brands B_ironMarks B_herdTold B_born B_ruleFrom B_ruleTo B_code B_codeNumber B_eWhat B_eSign B_pile B_all B_burned B_was B_need B_laidRow B_long8 B_brings B_sBurning B_sStroke B_sIs B_sTold B_sUntold B_parts B_boxAll B_isBoxed G_hName G_iName G_bName ex) H)) := by
  refine metG_of 1 ck_X12_isWord (Nat.le_of_ble_eq_true rfl) rMap (fun p e s m args below meth c A hx hb hml hr hlocks hown hts hK hD hA hP hS ls hl => ?_)
  have hown : s.vm.findClass "HideReaderModel" = some m.cls := hown
  have hl : lv_has ls 3 [(0, .ref (a 0)), (1, .long p0)] := hl
  refine lv_aload_n hx hb dX12_isWord_0 rfl (lv_at hl 0 rfl) ?_
  refine rg_o_token hx hb hts hown hK hP uw_7_31 dX12_isWord_1 ?_
  refine lv_iconst (v := mI 3) hx hb dX12_isWord_4 rfl ?_
  refine sy_icmp_ne (tgt := 21) hx hb dX12_isWord_5 (by decide) (by omega) (by decide) (fun c_1 => ?_) (fun c_1 => ?_)
  · skip
    refine lv_iconst (v := mI 0) hx hb dX12_isWord_21 rfl ?_
    exact r_z hx hb hr hlocks dX12_isWord_22 hS (by decide) ⟨Or.inl (⟨rfl, by omega, (fun h9 => absurd h9.1 (by omega))⟩), hP⟩
  · skip
    refine lv_aload_n hx hb dX12_isWord_8 rfl (lv_at hl 0 rfl) ?_
    refine rg_o_name hx hb hts hown hK hP uw_7_33 dX12_isWord_9 ?_
    refine lv_lload_n hx hb dX12_isWord_12 rfl (lv_at hl 1 rfl) ?_
    refine sy_lcmpE hx hb dX12_isWord_13 (fun z_2 ez_2 hz_2 => ?_)
    refine sy_if_ne (tgt := 21) hx hb dX12_isWord_14 (by decide) (by omega) (fun c_3 => ?_) (fun c_3 => ?_)
    · skip
      refine lv_iconst (v := mI 0) hx hb dX12_isWord_21 rfl ?_
      exact r_z hx hb hr hlocks dX12_isWord_22 hS (by decide) ⟨Or.inl (⟨rfl, by omega, (fun h9 => absurd (ez_2.mpr h9.2) (by omega))⟩), hP⟩
    · skip
      refine lv_iconst (v := mI 1) hx hb dX12_isWord_17 rfl ?_
      refine lv_goto (tgt := 22) hx hb dX12_isWord_18 (by decide) ?_
      exact r_z hx hb hr hlocks dX12_isWord_22 hS (by decide) ⟨Or.inr (⟨rfl, by omega, (ez_2.mp (by omega))⟩), hP⟩
set_option maxHeartbeats 4000000 in
set_option maxRecDepth 100000 in
theorem kr_X12_misplaced (h_x_faultKind : 0 ≤ x_faultKind ∧ x_faultKind ≤ 5) (h_x_faultPlace : -1 ≤ x_faultPlace ∧ x_faultPlace ≤ 1600) (h_x_at : 0 ≤ x_at ∧ x_at ≤ 1600) (h_x_token : 0 ≤ x_token ∧ x_token ≤ 5) : MetG l D k yX12_misplaced cX12_misplaced 1 none 1 [.ref (a 0)] (rW k a x_taped x_size x_faultKind x_faultPlace x_at x_end x_token x_number x_bank x_rb x_codes x_within x_piled x_unitsInRule x_askBeast x_askStroke x_askAge x_askSeason x_acts x_undone x_laid x_seens x_time x_fitting n_name B_tape B_text B_turns B_herds B_irons B_beasts B_units B_night B_draw B_told B_brands B_ironMarks B_herdTold B_born B_ruleFrom B_ruleTo B_code B_codeNumber B_eWhat B_eSign B_pile B_all B_burned B_was B_need B_laidRow B_long8 B_brings B_sBurning B_sStroke B_sIs B_sTold B_sUntold B_parts B_boxAll B_isBoxed G_hName G_iName G_bName ex) (qGv (fun H => ∃ (y_faultKind : Int) (y_faultPlace : Int), (1 ≤ y_faultKind ∧ y_faultKind ≤ 5) ∧ (-1 ≤ y_faultPlace ∧ y_faultPlace ≤ 1600) ∧ (0 ≤ y_faultKind - x_faultKind) ∧ va_P D vwCl (rW k a x_taped x_size y_faultKind y_faultPlace x_at x_end x_token x_number x_bank x_rb x_codes x_within x_piled x_unitsInRule x_askBeast x_askStroke x_askAge x_askSeason x_acts x_undone x_laid x_seens x_time x_fitting n_name B_tape B_text B_turns B_herds B_irons B_beasts B_units B_night B_draw B_told B_brands B_ironMarks B_herdTold B_born B_ruleFrom B_ruleTo B_code B_codeNumber B_eWhat B_eSign B_pile B_all B_burned B_was B_need B_laidRow B_long8 B_brings B_sBurning B_sStroke B_sIs B_sTold B_sUntold B_parts B_boxAll B_isBoxed G_hName G_iName G_bName ex) H)) := by
  refine metG_of 0 ck_X12_misplaced (Nat.le_of_ble_eq_true rfl) rMap (fun p e s m args below meth c A hx hb hml hr hlocks hown hts hK hD hA hP hS ls hl => ?_)
  have hown : s.vm.findClass "HideReaderModel" = some m.cls := hown
  have hl : lv_has ls 1 [(0, .ref (a 0))] := hl
  refine lv_aload_n hx hb dX12_misplaced_0 rfl (lv_at hl 0 rfl) ?_
  refine lv_aload_n hx hb dX12_misplaced_1 rfl (lv_at hl 0 rfl) ?_
  refine rg_o_token hx hb hts hown hK hP uw_7_31 dX12_misplaced_2 ?_
  refine lv_iconst (v := mI 1) hx hb dX12_misplaced_5 rfl ?_
  refine sy_join (I := fun H locs g => ∃ (z_2 : Int) (ls : Array Slot), (1 ≤ z_2 ∧ z_2 ≤ 2) ∧ va_P D vwCl (rW k a x_taped x_size x_faultKind x_faultPlace x_at x_end x_token x_number x_bank x_rb x_codes x_within x_piled x_unitsInRule x_askBeast x_askStroke x_askAge x_askSeason x_acts x_undone x_laid x_seens x_time x_fitting n_name B_tape B_text B_turns B_herds B_irons B_beasts B_units B_night B_draw B_told B_brands B_ironMarks B_herdTold B_born B_ruleFrom B_ruleTo B_code B_codeNumber B_eWhat B_eSign B_pile B_all B_burned B_was B_need B_laidRow B_long8 B_brings B_sBurning B_sStroke B_sIs B_sTold B_sUntold B_parts B_boxAll B_isBoxed G_hName G_iName G_bName ex) H ∧ va_S A s.heap H locs ∧ lv_has ls 1 [(0, .ref (a 0))] ∧ g = F0 m 14 ls [.int (mI z_2), .ref (a 0)]) ?_ ?_
  · skip
    intro H locs g hI
    obtain ⟨z_2, ls, h14_0, hP, hS, hl, rfl⟩ := hI
    refine lv_aload_n hx hb dX12_misplaced_14 rfl (lv_at hl 0 rfl) ?_
    refine rg_o_at hx hb hts hown hK hP uw_7_29 dX12_misplaced_15 ?_
    refine g_v (rDt hD) hS hA (g_V (own := "HideReaderModel") (As := [.int (mI z_2), .int (mI x_at)]) (rest := []) hx hb hml hown hts hK hP (rDt hD) (kr_X12_fails (l := l) (D := D) (k := k) (by omega) (by omega) h_x_faultKind h_x_faultPlace) ck_X12_fails iv_X12_fails uw_8_38 (rv_o hK hP) rfl hl.1 rfl (Nat.le_of_ble_eq_true rfl) dX12_misplaced_18 ⟨Nat.le_of_ble_eq_true rfl, Nat.le_of_ble_eq_true rfl⟩ ⟨Nat.le_of_ble_eq_true rfl, Nat.le_of_ble_eq_true rfl⟩) (fun H locs hQ hS => ?_)
    obtain ⟨y_5, y_6, hr_4_0, hr_4_1, hr_4_2, hP⟩ := hQ
    exact r_v hx hb hr hlocks dX12_misplaced_21 hS ⟨y_5, y_6, by omega, by omega, by omega, hP⟩
  · skip
    intro J_3
    refine sy_icmp_ne (tgt := 13) hx hb dX12_misplaced_6 (by decide) (by omega) (by decide) (fun c_7 => ?_) (fun c_7 => ?_)
    · skip
      refine lv_iconst (v := mI 2) hx hb dX12_misplaced_13 rfl ?_
      exact J_3 _ _ _ ⟨2, _, by omega, hP, hS, lv_sub hl [0] rfl, rfl⟩
    · skip
      refine lv_iconst (v := mI 1) hx hb dX12_misplaced_9 rfl ?_
      refine lv_goto (tgt := 14) hx hb dX12_misplaced_10 (by decide) ?_
      exact J_3 _ _ _ ⟨1, _, by omega, hP, hS, lv_sub hl [0] rfl, rfl⟩
set_option maxHeartbeats 4000000 in
set_option maxRecDepth 100000 in
theorem kr_X12_must {p0 : Int} (hp0 : 0 ≤ p0 ∧ p0 ≤ 1) (h_x_size : 0 ≤ x_size ∧ x_size ≤ 1600) (h_x_faultKind : 0 ≤ x_faultKind ∧ x_faultKind ≤ 5) (h_x_faultPlace : -1 ≤ x_faultPlace ∧ x_faultPlace ≤ 1600) (h_x_at : 0 ≤ x_at ∧ x_at ≤ 1600) (h_x_end : 0 ≤ x_end ∧ x_end ≤ 1600) (h_x_token : 0 ≤ x_token ∧ x_token ≤ 5) (h_x_number : -2147483648 ≤ x_number ∧ x_number ≤ 2147483647) (b_B_text : bd (-128) 127 B_text) (g_E : x_end ≤ x_size) : MetG l D k yX12_must cX12_must 2 none 2 [.ref (a 0), .int (mI p0)] (rW k a x_taped x_size x_faultKind x_faultPlace x_at x_end x_token x_number x_bank x_rb x_codes x_within x_piled x_unitsInRule x_askBeast x_askStroke x_askAge x_askSeason x_acts x_undone x_laid x_seens x_time x_fitting n_name B_tape B_text B_turns B_herds B_irons B_beasts B_units B_night B_draw B_told B_brands B_ironMarks B_herdTold B_born B_ruleFrom B_ruleTo B_code B_codeNumber B_eWhat B_eSign B_pile B_all B_burned B_was B_need B_laidRow B_long8 B_brings B_sBurning B_sStroke B_sIs B_sTold B_sUntold B_parts B_boxAll B_isBoxed G_hName G_iName G_bName ex) (qGv (fun H => ∃ (y_faultKind : Int) (y_faultPlace : Int) (y_at : Int) (y_end : Int) (y_token : Int) (y_number : Int) (j_name : Int64), (0 ≤ y_faultKind ∧ y_faultKind ≤ 5) ∧ (-1 ≤ y_faultPlace ∧ y_faultPlace ≤ 1600) ∧ (0 ≤ y_at ∧ y_at ≤ 1600) ∧ (0 ≤ y_end ∧ y_end ≤ 1600) ∧ (0 ≤ y_token ∧ y_token ≤ 5) ∧ (-2147483648 ≤ y_number ∧ y_number ≤ 2147483647) ∧ (0 ≤ y_faultKind - x_faultKind) ∧ (0 ≤ y_end - x_end) ∧ (1 ≤ y_faultKind ∨ y_token ≤ 0 ∨ x_end + 1 ≤ y_end) ∧ (1 ≤ p0 ∨ 1 ≤ y_faultKind) ∧ (y_faultKind ≤ 0 ∨ (y_token = x_token ∧ y_end = x_end)) ∧ (y_end ≤ x_size) ∧ va_P D vwCl (rW k a x_taped x_size y_faultKind y_faultPlace y_at y_end y_token y_number x_bank x_rb x_codes x_within x_piled x_unitsInRule x_askBeast x_askStroke x_askAge x_askSeason x_acts x_undone x_laid x_seens x_time x_fitting j_name B_tape B_text B_turns B_herds B_irons B_beasts B_units B_night B_draw B_told B_brands B_ironMarks B_herdTold B_born B_ruleFrom B_ruleTo B_code B_codeNumber B_eWhat B_eSign B_pile B_all B_burned B_was B_need B_laidRow B_long8 B_brings B_sBurning B_sStroke B_sIs B_sTold B_sUntold B_parts B_boxAll B_isBoxed G_hName G_iName G_bName ex) H)) := by
  refine metG_of 1 ck_X12_must (Nat.le_of_ble_eq_true rfl) rMap (fun p e s m args below meth c A hx hb hml hr hlocks hown hts hK hD hA hP hS ls hl => ?_)
  have hown : s.vm.findClass "HideReaderModel" = some m.cls := hown
  have hl : lv_has ls 2 [(0, .ref (a 0)), (1, .int (mI p0))] := hl
  refine lv_aload_n hx hb dX12_must_0 rfl (lv_at hl 0 rfl) ?_
  refine g_i (rDt hD) hS hA (g_V (own := "HideReaderModel") (As := []) (rest := []) hx hb hml hown hts hK hP (rDt hD) (kr_X12_isGood (l := l) (D := D) (k := k) h_x_faultKind) ck_X12_isGood iv_X12_isGood uw_8_18 (rv_o hK hP) rfl hl.1 rfl (Nat.le_of_ble_eq_true rfl) dX12_must_1 ⟨Nat.le_of_ble_eq_true rfl, Nat.le_of_ble_eq_true rfl⟩ ⟨Nat.le_of_ble_eq_true rfl, Nat.le_of_ble_eq_true rfl⟩) (fun r_1 H locs hQ hS => ?_)
  obtain ⟨hq_r_1, hP⟩ := hQ
  rcases hq_r_1 with ⟨rfl, c_2_0, c_2_1⟩ | ⟨rfl, c_3_0⟩
  · skip
    refine sy_if_ne (tgt := 8) hx hb dX12_must_4 (by decide) (by decide) (fun c9 => absurd c9 (by decide)) (fun c_4 => ?_)
    exact r_v hx hb hr hlocks dX12_must_7 hS ⟨x_faultKind, x_faultPlace, x_at, x_end, x_token, x_number, n_name, by omega, by omega, by omega, by omega, by omega, by omega, by omega, by omega, by omega, by omega, by omega, g_E, hP⟩
  · skip
    refine sy_if_ne (tgt := 8) hx hb dX12_must_4 (by decide) (by decide) (fun c_5 => ?_) (fun c9 => absurd c9 (by decide))
    refine lv_iload_n hx hb dX12_must_8 rfl (lv_at hl 1 rfl) ?_
    refine sy_if_eq (tgt := 19) hx hb dX12_must_9 (by decide) (by omega) (fun c_6 => ?_) (fun c_6 => ?_)
    · skip
      refine lv_aload_n hx hb dX12_must_19 rfl (lv_at hl 0 rfl) ?_
      refine g_v (rDt hD) hS hA (g_V (own := "HideReaderModel") (As := []) (rest := []) hx hb hml hown hts hK hP (rDt hD) (kr_X12_misplaced (l := l) (D := D) (k := k) h_x_faultKind h_x_faultPlace h_x_at h_x_token) ck_X12_misplaced iv_X12_misplaced uw_8_34 (rv_o hK hP) rfl hl.1 rfl (Nat.le_of_ble_eq_true rfl) dX12_must_20 ⟨Nat.le_of_ble_eq_true rfl, Nat.le_of_ble_eq_true rfl⟩ ⟨Nat.le_of_ble_eq_true rfl, Nat.le_of_ble_eq_true rfl⟩) (fun H locs hQ hS => ?_)
      obtain ⟨y_8, y_9, hr_7_0, hr_7_1, hr_7_2, hP⟩ := hQ
      exact r_v hx hb hr hlocks dX12_must_23 hS ⟨y_8, y_9, x_at, x_end, x_token, x_number, n_name, by omega, by omega, by omega, by omega, by omega, by omega, by omega, by omega, by omega, by omega, by omega, g_E, hP⟩
    · skip
      refine lv_aload_n hx hb dX12_must_12 rfl (lv_at hl 0 rfl) ?_
      refine g_v (rDt hD) hS hA (g_V (own := "HideReaderModel") (As := []) (rest := []) hx hb hml hown hts hK hP (rDt hD) (kr_X12_goOn (l := l) (D := D) (k := k) h_x_size h_x_end h_x_number b_B_text g_E) ck_X12_goOn iv_X12_goOn uw_7_220 (rv_o hK hP) rfl hl.1 rfl (Nat.le_of_ble_eq_true rfl) dX12_must_13 ⟨Nat.le_of_ble_eq_true rfl, Nat.le_of_ble_eq_true rfl⟩ ⟨Nat.le_of_ble_eq_true rfl, Nat.le_of_ble_eq_true rfl⟩) (fun H locs hQ hS => ?_)
      obtain ⟨y_11, y_12, y_13, y_14, j_15, hr_10_0, hr_10_1, hr_10_2, hr_10_3, hr_10_4, hr_10_5, kr_10_E, hP⟩ := hQ
      refine lv_goto (tgt := 23) hx hb dX12_must_16 (by decide) ?_
      exact r_v hx hb hr hlocks dX12_must_23 hS ⟨x_faultKind, x_faultPlace, y_11, y_12, y_13, y_14, j_15, by omega, by omega, by omega, by omega, by omega, by omega, by omega, by omega, by omega, by omega, by omega, kr_10_E, hP⟩
set_option maxHeartbeats 4000000 in
set_option maxRecDepth 100000 in
theorem kr_X12_numeral {p0 p1 : Int} (hp0 : 0 ≤ p0 ∧ p0 ≤ 1) (hp1 : 4 ≤ p1 ∧ p1 ≤ 999) (h_x_size : 0 ≤ x_size ∧ x_size ≤ 1600) (h_x_faultKind : 0 ≤ x_faultKind ∧ x_faultKind ≤ 5) (h_x_faultPlace : -1 ≤ x_faultPlace ∧ x_faultPlace ≤ 1600) (h_x_at : 0 ≤ x_at ∧ x_at ≤ 1600) (h_x_end : 0 ≤ x_end ∧ x_end ≤ 1600) (h_x_token : 0 ≤ x_token ∧ x_token ≤ 5) (h_x_number : -2147483648 ≤ x_number ∧ x_number ≤ 2147483647) (b_B_text : bd (-128) 127 B_text) (g_E : x_end ≤ x_size) : MetG l D k yX12_numeral cX12_numeral 4 (some .int) 2 [.ref (a 0), .int (mI p0), .int (mI p1)] (rW k a x_taped x_size x_faultKind x_faultPlace x_at x_end x_token x_number x_bank x_rb x_codes x_within x_piled x_unitsInRule x_askBeast x_askStroke x_askAge x_askSeason x_acts x_undone x_laid x_seens x_time x_fitting n_name B_tape B_text B_turns B_herds B_irons B_beasts B_units B_night B_draw B_told B_brands B_ironMarks B_herdTold B_born B_ruleFrom B_ruleTo B_code B_codeNumber B_eWhat B_eSign B_pile B_all B_burned B_was B_need B_laidRow B_long8 B_brings B_sBurning B_sStroke B_sIs B_sTold B_sUntold B_parts B_boxAll B_isBoxed G_hName G_iName G_bName ex) (qGi (fun r0 H => ∃ (y_faultKind : Int) (y_faultPlace : Int) (y_at : Int) (y_end : Int) (y_token : Int) (y_number : Int) (j_name : Int64), (0 ≤ r0 ∧ r0 ≤ 999) ∧ (0 ≤ y_faultKind ∧ y_faultKind ≤ 5) ∧ (-1 ≤ y_faultPlace ∧ y_faultPlace ≤ 1600) ∧ (0 ≤ y_at ∧ y_at ≤ 1600) ∧ (0 ≤ y_end ∧ y_end ≤ 1600) ∧ (0 ≤ y_token ∧ y_token ≤ 5) ∧ (-2147483648 ≤ y_number ∧ y_number ≤ 2147483647) ∧ (0 ≤ y_faultKind - x_faultKind) ∧ (0 ≤ y_end - x_end) ∧ (1 ≤ y_faultKind ∨ y_token ≤ 0 ∨ x_end + 1 ≤ y_end) ∧ (x_token = 4 ∨ 1 ≤ y_faultKind) ∧ (y_end ≤ x_size) ∧ va_P D vwCl (rW k a x_taped x_size y_faultKind y_faultPlace y_at y_end y_token y_number x_bank x_rb x_codes x_within x_piled x_unitsInRule x_askBeast x_askStroke x_askAge x_askSeason x_acts x_undone x_laid x_seens x_time x_fitting j_name B_tape B_text B_turns B_herds B_irons B_beasts B_units B_night B_draw B_told B_brands B_ironMarks B_herdTold B_born B_ruleFrom B_ruleTo B_code B_codeNumber B_eWhat B_eSign B_pile B_all B_burned B_was B_need B_laidRow B_long8 B_brings B_sBurning B_sStroke B_sIs B_sTold B_sUntold B_parts B_boxAll B_isBoxed G_hName G_iName G_bName ex) H)) := by
  refine metG_of 2 ck_X12_numeral (Nat.le_of_ble_eq_true rfl) rMap (fun p e s m args below meth c A hx hb hml hr hlocks hown hts hK hD hA hP hS ls hl => ?_)
  have hown : s.vm.findClass "HideReaderModel" = some m.cls := hown
  have hl : lv_has ls 4 [(0, .ref (a 0)), (1, .int (mI p0)), (2, .int (mI p1))] := hl
  refine lv_aload_n hx hb dX12_numeral_0 rfl (lv_at hl 0 rfl) ?_
  refine g_i (rDt hD) hS hA (g_V (own := "HideReaderModel") (As := []) (rest := []) hx hb hml hown hts hK hP (rDt hD) (kr_X12_isGood (l := l) (D := D) (k := k) h_x_faultKind) ck_X12_isGood iv_X12_isGood uw_8_18 (rv_o hK hP) rfl hl.1 rfl (Nat.le_of_ble_eq_true rfl) dX12_numeral_1 ⟨Nat.le_of_ble_eq_true rfl, Nat.le_of_ble_eq_true rfl⟩ ⟨Nat.le_of_ble_eq_true rfl, Nat.le_of_ble_eq_true rfl⟩) (fun r_1 H locs hQ hS => ?_)
  obtain ⟨hq_r_1, hP⟩ := hQ
  rcases hq_r_1 with ⟨rfl, c_2_0, c_2_1⟩ | ⟨rfl, c_3_0⟩
  · skip
    refine sy_if_ne (tgt := 9) hx hb dX12_numeral_4 (by decide) (by decide) (fun c9 => absurd c9 (by decide)) (fun c_4 => ?_)
    refine lv_iload_n hx hb dX12_numeral_7 rfl (lv_at hl 1 rfl) ?_
    exact r_i hx hb hr hlocks dX12_numeral_8 hS ⟨x_faultKind, x_faultPlace, x_at, x_end, x_token, x_number, n_name, by omega, by omega, by omega, by omega, by omega, by omega, by omega, by omega, by omega, by omega, by omega, g_E, hP⟩
  · skip
    refine sy_if_ne (tgt := 9) hx hb dX12_numeral_4 (by decide) (by decide) (fun c_5 => ?_) (fun c9 => absurd c9 (by decide))
    refine lv_aload_n hx hb dX12_numeral_9 rfl (lv_at hl 0 rfl) ?_
    refine rg_o_token hx hb hts hown hK hP uw_7_31 dX12_numeral_10 ?_
    refine lv_iconst (v := mI 4) hx hb dX12_numeral_13 rfl ?_
    refine sy_icmp_eq (tgt := 21) hx hb dX12_numeral_14 (by decide) (by omega) (by decide) (fun c_6 => ?_) (fun c_6 => ?_)
    · skip
      refine lv_aload_n hx hb dX12_numeral_21 rfl (lv_at hl 0 rfl) ?_
      refine g_i (rDt hD) hS hA (g_V (own := "HideReaderModel") (As := []) (rest := []) hx hb hml hown hts hK hP (rDt hD) (kr_X12_isGood (l := l) (D := D) (k := k) h_x_faultKind) ck_X12_isGood iv_X12_isGood uw_8_18 (rv_o hK hP) rfl hl.1 rfl (Nat.le_of_ble_eq_true rfl) dX12_numeral_22 ⟨Nat.le_of_ble_eq_true rfl, Nat.le_of_ble_eq_true rfl⟩ ⟨Nat.le_of_ble_eq_true rfl, Nat.le_of_ble_eq_true rfl⟩) (fun r_7 H locs hQ hS => ?_)
      obtain ⟨hq_r_7, hP⟩ := hQ
      rcases hq_r_7 with ⟨rfl, c_8_0, c_8_1⟩ | ⟨rfl, c_9_0⟩
      exact False.elim (by omega)
      · skip
        refine sy_if_eq (tgt := 53) hx hb dX12_numeral_25 (by decide) (by decide) (fun c9 => absurd c9 (by decide)) (fun c_10 => ?_)
        refine lv_aload_n hx hb dX12_numeral_28 rfl (lv_at hl 0 rfl) ?_
        refine rg_o_number hx hb hts hown hK hP uw_7_32 dX12_numeral_29 ?_
        refine lv_iload_n hx hb dX12_numeral_32 rfl (lv_at hl 1 rfl) ?_
        refine sy_icmp_lt (tgt := 44) hx hb dX12_numeral_33 (by decide) (by omega) (by omega) (fun c_11 => ?_) (fun c_11 => ?_)
        · skip
          refine lv_aload_n hx hb dX12_numeral_44 rfl (lv_at hl 0 rfl) ?_
          refine lv_iconst (v := mI 4) hx hb dX12_numeral_45 rfl ?_
          refine lv_aload_n hx hb dX12_numeral_46 rfl (lv_at hl 0 rfl) ?_
          refine rg_o_at hx hb hts hown hK hP uw_7_29 dX12_numeral_47 ?_
          refine g_v (rDt hD) hS hA (g_V (own := "HideReaderModel") (As := [.int (mI 4), .int (mI x_at)]) (rest := []) hx hb hml hown hts hK hP (rDt hD) (kr_X12_fails (l := l) (D := D) (k := k) (by decide) (by omega) h_x_faultKind h_x_faultPlace) ck_X12_fails iv_X12_fails uw_8_38 (rv_o hK hP) rfl hl.1 rfl (Nat.le_of_ble_eq_true rfl) dX12_numeral_50 ⟨Nat.le_of_ble_eq_true rfl, Nat.le_of_ble_eq_true rfl⟩ ⟨Nat.le_of_ble_eq_true rfl, Nat.le_of_ble_eq_true rfl⟩) (fun H locs hQ hS => ?_)
          obtain ⟨y_13, y_14, hr_12_0, hr_12_1, hr_12_2, hP⟩ := hQ
          refine lv_aload_n hx hb dX12_numeral_53 rfl (lv_at hl 0 rfl) ?_
          refine rg_o_number hx hb hts hown hK hP uw_7_32 dX12_numeral_54 ?_
          refine lv_istore_n (lv' := [(3, .int (mI x_number)), (0, .ref (a 0)), (1, .int (mI p0)), (2, .int (mI p1))]) hx hb dX12_numeral_57 rfl hl (by decide) rfl (fun ls hl => ?_)
          refine lv_aload_n hx hb dX12_numeral_58 rfl (lv_at hl 1 rfl) ?_
          refine g_i (rDt hD) hS hA (g_V (own := "HideReaderModel") (As := []) (rest := []) hx hb hml hown hts hK hP (rDt hD) (kr_X12_isGood (l := l) (D := D) (k := k) (by omega)) ck_X12_isGood iv_X12_isGood uw_8_18 (rv_o hK hP) rfl hl.1 rfl (Nat.le_of_ble_eq_true rfl) dX12_numeral_59 ⟨Nat.le_of_ble_eq_true rfl, Nat.le_of_ble_eq_true rfl⟩ ⟨Nat.le_of_ble_eq_true rfl, Nat.le_of_ble_eq_true rfl⟩) (fun r_15 H locs hQ hS => ?_)
          obtain ⟨hq_r_15, hP⟩ := hQ
          rcases hq_r_15 with ⟨rfl, c_16_0, c_16_1⟩ | ⟨rfl, c_17_0⟩
          · skip
            refine sy_if_eq (tgt := 69) hx hb dX12_numeral_62 (by decide) (by decide) (fun c_18 => ?_) (fun c9 => absurd c9 (by decide))
            refine lv_aload_n hx hb dX12_numeral_69 rfl (lv_at hl 1 rfl) ?_
            refine g_i (rDt hD) hS hA (g_V (own := "HideReaderModel") (As := []) (rest := []) hx hb hml hown hts hK hP (rDt hD) (kr_X12_isGood (l := l) (D := D) (k := k) (by omega)) ck_X12_isGood iv_X12_isGood uw_8_18 (rv_o hK hP) rfl hl.1 rfl (Nat.le_of_ble_eq_true rfl) dX12_numeral_70 ⟨Nat.le_of_ble_eq_true rfl, Nat.le_of_ble_eq_true rfl⟩ ⟨Nat.le_of_ble_eq_true rfl, Nat.le_of_ble_eq_true rfl⟩) (fun r_19 H locs hQ hS => ?_)
            obtain ⟨hq_r_19, hP⟩ := hQ
            rcases hq_r_19 with ⟨rfl, c_20_0, c_20_1⟩ | ⟨rfl, c_21_0⟩
            · skip
              refine sy_if_eq (tgt := 80) hx hb dX12_numeral_73 (by decide) (by decide) (fun c_22 => ?_) (fun c9 => absurd c9 (by decide))
              refine lv_iload_n hx hb dX12_numeral_80 rfl (lv_at hl 2 rfl) ?_
              exact r_i hx hb hr hlocks dX12_numeral_81 hS ⟨y_13, y_14, x_at, x_end, x_token, x_number, n_name, by omega, by omega, by omega, by omega, by omega, by omega, by omega, by omega, by omega, by omega, by omega, g_E, hP⟩
            exact False.elim (by omega)
          exact False.elim (by omega)
        · skip
          refine lv_aload_n hx hb dX12_numeral_36 rfl (lv_at hl 0 rfl) ?_
          refine rg_o_number hx hb hts hown hK hP uw_7_32 dX12_numeral_37 ?_
          refine lv_iload_n hx hb dX12_numeral_40 rfl (lv_at hl 2 rfl) ?_
          refine sy_icmp_le (tgt := 53) hx hb dX12_numeral_41 (by decide) (by omega) (by omega) (fun c_23 => ?_) (fun c_23 => ?_)
          · skip
            refine lv_aload_n hx hb dX12_numeral_53 rfl (lv_at hl 0 rfl) ?_
            refine rg_o_number hx hb hts hown hK hP uw_7_32 dX12_numeral_54 ?_
            refine lv_istore_n (lv' := [(3, .int (mI x_number)), (0, .ref (a 0)), (1, .int (mI p0)), (2, .int (mI p1))]) hx hb dX12_numeral_57 rfl hl (by decide) rfl (fun ls hl => ?_)
            refine lv_aload_n hx hb dX12_numeral_58 rfl (lv_at hl 1 rfl) ?_
            refine g_i (rDt hD) hS hA (g_V (own := "HideReaderModel") (As := []) (rest := []) hx hb hml hown hts hK hP (rDt hD) (kr_X12_isGood (l := l) (D := D) (k := k) h_x_faultKind) ck_X12_isGood iv_X12_isGood uw_8_18 (rv_o hK hP) rfl hl.1 rfl (Nat.le_of_ble_eq_true rfl) dX12_numeral_59 ⟨Nat.le_of_ble_eq_true rfl, Nat.le_of_ble_eq_true rfl⟩ ⟨Nat.le_of_ble_eq_true rfl, Nat.le_of_ble_eq_true rfl⟩) (fun r_24 H locs hQ hS => ?_)
            obtain ⟨hq_r_24, hP⟩ := hQ
            rcases hq_r_24 with ⟨rfl, c_25_0, c_25_1⟩ | ⟨rfl, c_26_0⟩
            exact False.elim (by omega)
            · skip
              refine sy_if_eq (tgt := 69) hx hb dX12_numeral_62 (by decide) (by decide) (fun c9 => absurd c9 (by decide)) (fun c_27 => ?_)
              refine lv_aload_n hx hb dX12_numeral_65 rfl (lv_at hl 1 rfl) ?_
              refine g_v (rDt hD) hS hA (g_V (own := "HideReaderModel") (As := []) (rest := []) hx hb hml hown hts hK hP (rDt hD) (kr_X12_goOn (l := l) (D := D) (k := k) h_x_size h_x_end h_x_number b_B_text g_E) ck_X12_goOn iv_X12_goOn uw_7_220 (rv_o hK hP) rfl hl.1 rfl (Nat.le_of_ble_eq_true rfl) dX12_numeral_66 ⟨Nat.le_of_ble_eq_true rfl, Nat.le_of_ble_eq_true rfl⟩ ⟨Nat.le_of_ble_eq_true rfl, Nat.le_of_ble_eq_true rfl⟩) (fun H locs hQ hS => ?_)
              obtain ⟨y_29, y_30, y_31, y_32, j_33, hr_28_0, hr_28_1, hr_28_2, hr_28_3, hr_28_4, hr_28_5, kr_28_E, hP⟩ := hQ
              refine lv_aload_n hx hb dX12_numeral_69 rfl (lv_at hl 1 rfl) ?_
              refine g_i (rDt hD) hS hA (g_V (own := "HideReaderModel") (As := []) (rest := []) hx hb hml hown hts hK hP (rDt hD) (kr_X12_isGood (l := l) (D := D) (k := k) h_x_faultKind) ck_X12_isGood iv_X12_isGood uw_8_18 (rv_o hK hP) rfl hl.1 rfl (Nat.le_of_ble_eq_true rfl) dX12_numeral_70 ⟨Nat.le_of_ble_eq_true rfl, Nat.le_of_ble_eq_true rfl⟩ ⟨Nat.le_of_ble_eq_true rfl, Nat.le_of_ble_eq_true rfl⟩) (fun r_34 H locs hQ hS => ?_)
              obtain ⟨hq_r_34, hP⟩ := hQ
              rcases hq_r_34 with ⟨rfl, c_35_0, c_35_1⟩ | ⟨rfl, c_36_0⟩
              exact False.elim (by omega)
              · skip
                refine sy_if_eq (tgt := 80) hx hb dX12_numeral_73 (by decide) (by decide) (fun c9 => absurd c9 (by decide)) (fun c_37 => ?_)
                refine lv_iload_n hx hb dX12_numeral_76 rfl (lv_at hl 0 rfl) ?_
                refine lv_goto (tgt := 81) hx hb dX12_numeral_77 (by decide) ?_
                exact r_i hx hb hr hlocks dX12_numeral_81 hS ⟨x_faultKind, x_faultPlace, y_29, y_30, y_31, y_32, j_33, by omega, by omega, by omega, by omega, by omega, by omega, by omega, by omega, by omega, by omega, by omega, kr_28_E, hP⟩
          · skip
            refine lv_aload_n hx hb dX12_numeral_44 rfl (lv_at hl 0 rfl) ?_
            refine lv_iconst (v := mI 4) hx hb dX12_numeral_45 rfl ?_
            refine lv_aload_n hx hb dX12_numeral_46 rfl (lv_at hl 0 rfl) ?_
            refine rg_o_at hx hb hts hown hK hP uw_7_29 dX12_numeral_47 ?_
            refine g_v (rDt hD) hS hA (g_V (own := "HideReaderModel") (As := [.int (mI 4), .int (mI x_at)]) (rest := []) hx hb hml hown hts hK hP (rDt hD) (kr_X12_fails (l := l) (D := D) (k := k) (by decide) (by omega) h_x_faultKind h_x_faultPlace) ck_X12_fails iv_X12_fails uw_8_38 (rv_o hK hP) rfl hl.1 rfl (Nat.le_of_ble_eq_true rfl) dX12_numeral_50 ⟨Nat.le_of_ble_eq_true rfl, Nat.le_of_ble_eq_true rfl⟩ ⟨Nat.le_of_ble_eq_true rfl, Nat.le_of_ble_eq_true rfl⟩) (fun H locs hQ hS => ?_)
            obtain ⟨y_39, y_40, hr_38_0, hr_38_1, hr_38_2, hP⟩ := hQ
            refine lv_aload_n hx hb dX12_numeral_53 rfl (lv_at hl 0 rfl) ?_
            refine rg_o_number hx hb hts hown hK hP uw_7_32 dX12_numeral_54 ?_
            refine lv_istore_n (lv' := [(3, .int (mI x_number)), (0, .ref (a 0)), (1, .int (mI p0)), (2, .int (mI p1))]) hx hb dX12_numeral_57 rfl hl (by decide) rfl (fun ls hl => ?_)
            refine lv_aload_n hx hb dX12_numeral_58 rfl (lv_at hl 1 rfl) ?_
            refine g_i (rDt hD) hS hA (g_V (own := "HideReaderModel") (As := []) (rest := []) hx hb hml hown hts hK hP (rDt hD) (kr_X12_isGood (l := l) (D := D) (k := k) (by omega)) ck_X12_isGood iv_X12_isGood uw_8_18 (rv_o hK hP) rfl hl.1 rfl (Nat.le_of_ble_eq_true rfl) dX12_numeral_59 ⟨Nat.le_of_ble_eq_true rfl, Nat.le_of_ble_eq_true rfl⟩ ⟨Nat.le_of_ble_eq_true rfl, Nat.le_of_ble_eq_true rfl⟩) (fun r_41 H locs hQ hS => ?_)
            obtain ⟨hq_r_41, hP⟩ := hQ
            rcases hq_r_41 with ⟨rfl, c_42_0, c_42_1⟩ | ⟨rfl, c_43_0⟩
            · skip
              refine sy_if_eq (tgt := 69) hx hb dX12_numeral_62 (by decide) (by decide) (fun c_44 => ?_) (fun c9 => absurd c9 (by decide))
              refine lv_aload_n hx hb dX12_numeral_69 rfl (lv_at hl 1 rfl) ?_
              refine g_i (rDt hD) hS hA (g_V (own := "HideReaderModel") (As := []) (rest := []) hx hb hml hown hts hK hP (rDt hD) (kr_X12_isGood (l := l) (D := D) (k := k) (by omega)) ck_X12_isGood iv_X12_isGood uw_8_18 (rv_o hK hP) rfl hl.1 rfl (Nat.le_of_ble_eq_true rfl) dX12_numeral_70 ⟨Nat.le_of_ble_eq_true rfl, Nat.le_of_ble_eq_true rfl⟩ ⟨Nat.le_of_ble_eq_true rfl, Nat.le_of_ble_eq_true rfl⟩) (fun r_45 H locs hQ hS => ?_)
              obtain ⟨hq_r_45, hP⟩ := hQ
              rcases hq_r_45 with ⟨rfl, c_46_0, c_46_1⟩ | ⟨rfl, c_47_0⟩
              · skip
                refine sy_if_eq (tgt := 80) hx hb dX12_numeral_73 (by decide) (by decide) (fun c_48 => ?_) (fun c9 => absurd c9 (by decide))
                refine lv_iload_n hx hb dX12_numeral_80 rfl (lv_at hl 2 rfl) ?_
                exact r_i hx hb hr hlocks dX12_numeral_81 hS ⟨y_39, y_40, x_at, x_end, x_token, x_number, n_name, by omega, by omega, by omega, by omega, by omega, by omega, by omega, by omega, by omega, by omega, by omega, g_E, hP⟩
              exact False.elim (by omega)
            exact False.elim (by omega)
    · skip
      refine lv_aload_n hx hb dX12_numeral_17 rfl (lv_at hl 0 rfl) ?_
      refine g_v (rDt hD) hS hA (g_V (own := "HideReaderModel") (As := []) (rest := []) hx hb hml hown hts hK hP (rDt hD) (kr_X12_misplaced (l := l) (D := D) (k := k) h_x_faultKind h_x_faultPlace h_x_at h_x_token) ck_X12_misplaced iv_X12_misplaced uw_8_34 (rv_o hK hP) rfl hl.1 rfl (Nat.le_of_ble_eq_true rfl) dX12_numeral_18 ⟨Nat.le_of_ble_eq_true rfl, Nat.le_of_ble_eq_true rfl⟩ ⟨Nat.le_of_ble_eq_true rfl, Nat.le_of_ble_eq_true rfl⟩) (fun H locs hQ hS => ?_)
      obtain ⟨y_50, y_51, hr_49_0, hr_49_1, hr_49_2, hP⟩ := hQ
      refine lv_aload_n hx hb dX12_numeral_21 rfl (lv_at hl 0 rfl) ?_
      refine g_i (rDt hD) hS hA (g_V (own := "HideReaderModel") (As := []) (rest := []) hx hb hml hown hts hK hP (rDt hD) (kr_X12_isGood (l := l) (D := D) (k := k) (by omega)) ck_X12_isGood iv_X12_isGood uw_8_18 (rv_o hK hP) rfl hl.1 rfl (Nat.le_of_ble_eq_true rfl) dX12_numeral_22 ⟨Nat.le_of_ble_eq_true rfl, Nat.le_of_ble_eq_true rfl⟩ ⟨Nat.le_of_ble_eq_true rfl, Nat.le_of_ble_eq_true rfl⟩) (fun r_52 H locs hQ hS => ?_)
      obtain ⟨hq_r_52, hP⟩ := hQ
      rcases hq_r_52 with ⟨rfl, c_53_0, c_53_1⟩ | ⟨rfl, c_54_0⟩
      · skip
        refine sy_if_eq (tgt := 53) hx hb dX12_numeral_25 (by decide) (by decide) (fun c_55 => ?_) (fun c9 => absurd c9 (by decide))
        refine lv_aload_n hx hb dX12_numeral_53 rfl (lv_at hl 0 rfl) ?_
        refine rg_o_number hx hb hts hown hK hP uw_7_32 dX12_numeral_54 ?_
        refine lv_istore_n (lv' := [(3, .int (mI x_number)), (0, .ref (a 0)), (1, .int (mI p0)), (2, .int (mI p1))]) hx hb dX12_numeral_57 rfl hl (by decide) rfl (fun ls hl => ?_)
        refine lv_aload_n hx hb dX12_numeral_58 rfl (lv_at hl 1 rfl) ?_
        refine g_i (rDt hD) hS hA (g_V (own := "HideReaderModel") (As := []) (rest := []) hx hb hml hown hts hK hP (rDt hD) (kr_X12_isGood (l := l) (D := D) (k := k) (by omega)) ck_X12_isGood iv_X12_isGood uw_8_18 (rv_o hK hP) rfl hl.1 rfl (Nat.le_of_ble_eq_true rfl) dX12_numeral_59 ⟨Nat.le_of_ble_eq_true rfl, Nat.le_of_ble_eq_true rfl⟩ ⟨Nat.le_of_ble_eq_true rfl, Nat.le_of_ble_eq_true rfl⟩) (fun r_56 H locs hQ hS => ?_)
        obtain ⟨hq_r_56, hP⟩ := hQ
        rcases hq_r_56 with ⟨rfl, c_57_0, c_57_1⟩ | ⟨rfl, c_58_0⟩
        · skip
          refine sy_if_eq (tgt := 69) hx hb dX12_numeral_62 (by decide) (by decide) (fun c_59 => ?_) (fun c9 => absurd c9 (by decide))
          refine lv_aload_n hx hb dX12_numeral_69 rfl (lv_at hl 1 rfl) ?_
          refine g_i (rDt hD) hS hA (g_V (own := "HideReaderModel") (As := []) (rest := []) hx hb hml hown hts hK hP (rDt hD) (kr_X12_isGood (l := l) (D := D) (k := k) (by omega)) ck_X12_isGood iv_X12_isGood uw_8_18 (rv_o hK hP) rfl hl.1 rfl (Nat.le_of_ble_eq_true rfl) dX12_numeral_70 ⟨Nat.le_of_ble_eq_true rfl, Nat.le_of_ble_eq_true rfl⟩ ⟨Nat.le_of_ble_eq_true rfl, Nat.le_of_ble_eq_true rfl⟩) (fun r_60 H locs hQ hS => ?_)
          obtain ⟨hq_r_60, hP⟩ := hQ
          rcases hq_r_60 with ⟨rfl, c_61_0, c_61_1⟩ | ⟨rfl, c_62_0⟩
          · skip
            refine sy_if_eq (tgt := 80) hx hb dX12_numeral_73 (by decide) (by decide) (fun c_63 => ?_) (fun c9 => absurd c9 (by decide))
            refine lv_iload_n hx hb dX12_numeral_80 rfl (lv_at hl 2 rfl) ?_
            exact r_i hx hb hr hlocks dX12_numeral_81 hS ⟨y_50, y_51, x_at, x_end, x_token, x_number, n_name, by omega, by omega, by omega, by omega, by omega, by omega, by omega, by omega, by omega, by omega, by omega, g_E, hP⟩
          exact False.elim (by omega)
        exact False.elim (by omega)
      exact False.elim (by omega)
set_option maxHeartbeats 4000000 in
set_option maxRecDepth 100000 in
theorem kr_X12_clearBank (h_x_bank : 0 ≤ x_bank ∧ x_bank ≤ 1) (h_x_rb : 0 ≤ x_rb ∧ x_rb ≤ 1) (b_B_turns : bd (0) 4 B_turns) (b_B_herds : bd (0) 8 B_herds) (b_B_irons : bd (0) 6 B_irons) (b_B_beasts : bd (0) 8 B_beasts) (b_B_units : bd (0) 60 B_units) (b_B_night : bd (0) 100 B_night) (b_B_draw : bd (0) 999 B_draw) (b_B_told : bd (0) 31 B_told) (g_L : x_rb + x_bank = 1) (g_Q : rQ x_bank B_told B_ruleFrom B_ruleTo B_code) (g_R : 1 ≤ B_turns x_bank.toNat ∧ ¬ B_turns x_bank.toNat = 3) : MetG l D k yX12_clearBank cX12_clearBank 1 none 0 [.ref (a 0)] (rW k a x_taped x_size x_faultKind x_faultPlace x_at x_end x_token x_number x_bank x_rb x_codes x_within x_piled x_unitsInRule x_askBeast x_askStroke x_askAge x_askSeason x_acts x_undone x_laid x_seens x_time x_fitting n_name B_tape B_text B_turns B_herds B_irons B_beasts B_units B_night B_draw B_told B_brands B_ironMarks B_herdTold B_born B_ruleFrom B_ruleTo B_code B_codeNumber B_eWhat B_eSign B_pile B_all B_burned B_was B_need B_laidRow B_long8 B_brings B_sBurning B_sStroke B_sIs B_sTold B_sUntold B_parts B_boxAll B_isBoxed G_hName G_iName G_bName ex) (qGv (fun H => ∃ (F_turns : Nat → Int) (F_herds : Nat → Int) (F_irons : Nat → Int) (F_beasts : Nat → Int) (F_units : Nat → Int) (F_night : Nat → Int) (F_draw : Nat → Int) (F_told : Nat → Int) (y_codes : Int), (bd (0) 4 F_turns) ∧ (bd (0) 8 F_herds) ∧ (bd (0) 6 F_irons) ∧ (bd (0) 8 F_beasts) ∧ (bd (0) 60 F_units) ∧ (bd (0) 100 F_night) ∧ (bd (0) 999 F_draw) ∧ (bd (0) 31 F_told) ∧ (0 ≤ y_codes ∧ y_codes ≤ 560) ∧ (F_units x_rb.toNat = 0) ∧ (y_codes = 560 * x_rb) ∧ (1 ≤ x_faultKind ∨ (0 ≤ 560 * x_rb + 9 * F_units x_rb.toNat - y_codes ∧ 560 * x_rb ≤ y_codes)) ∧ (rQ x_bank F_told B_ruleFrom B_ruleTo B_code) ∧ (1 ≤ x_faultKind ∨ rQ x_rb F_told B_ruleFrom B_ruleTo B_code) ∧ (1 ≤ F_turns x_bank.toNat ∧ ¬ F_turns x_bank.toNat = 3) ∧ (1 ≤ x_faultKind ∨ (1 ≤ F_turns x_rb.toNat ∧ ¬ F_turns x_rb.toNat = 3)) ∧ va_P D vwCl (rW k a x_taped x_size x_faultKind x_faultPlace x_at x_end x_token x_number x_bank x_rb y_codes x_within x_piled x_unitsInRule x_askBeast x_askStroke x_askAge x_askSeason x_acts x_undone x_laid x_seens x_time x_fitting n_name B_tape B_text F_turns F_herds F_irons F_beasts F_units F_night F_draw F_told B_brands B_ironMarks B_herdTold B_born B_ruleFrom B_ruleTo B_code B_codeNumber B_eWhat B_eSign B_pile B_all B_burned B_was B_need B_laidRow B_long8 B_brings B_sBurning B_sStroke B_sIs B_sTold B_sUntold B_parts B_boxAll B_isBoxed G_hName G_iName G_bName ex) H)) := by
  refine metG_of 0 ck_X12_clearBank (Nat.le_of_ble_eq_true rfl) rMap (fun p e s m args below meth c A hx hb hml hr hlocks hown hts hK hD hA hP hS ls hl => ?_)
  have hown : s.vm.findClass "HideReaderModel" = some m.cls := hown
  have hl : lv_has ls 1 [(0, .ref (a 0))] := hl
  refine lv_aload_n hx hb dX12_clearBank_0 rfl (lv_at hl 0 rfl) ?_
  refine rg_o_turns hx hb hts hown hK hP uw_7_34 dX12_clearBank_1 ?_
  refine lv_aload_n hx hb dX12_clearBank_4 rfl (lv_at hl 0 rfl) ?_
  refine rg_o_rb hx hb hts hown hK hP uw_7_57 dX12_clearBank_5 ?_
  refine lv_iconst (v := mI 1) hx hb dX12_clearBank_8 rfl ?_
  refine rs_turns hx hb hK hP hD hS dX12_clearBank_9 (by omega) b_B_turns (by omega) (fun F_1 H locs eF_1 bF_1 hP hS => ?_)
  have g_2 := rT_n g_R eF_1 (by omega)
  have h_3 : F_1 x_rb.toNat = 1 := by rw [eF_1, ud_s]
  refine lv_aload_n hx hb dX12_clearBank_10 rfl (lv_at hl 0 rfl) ?_
  refine rg_o_herds hx hb hts hown hK hP uw_7_35 dX12_clearBank_11 ?_
  refine lv_aload_n hx hb dX12_clearBank_14 rfl (lv_at hl 0 rfl) ?_
  refine rg_o_rb hx hb hts hown hK hP uw_7_57 dX12_clearBank_15 ?_
  refine lv_iconst (v := mI 0) hx hb dX12_clearBank_18 rfl ?_
  refine rs_herds hx hb hK hP hD hS dX12_clearBank_19 (by omega) b_B_herds (by omega) (fun F_4 H locs eF_4 bF_4 hP hS => ?_)
  refine lv_aload_n hx hb dX12_clearBank_20 rfl (lv_at hl 0 rfl) ?_
  refine rg_o_irons hx hb hts hown hK hP uw_7_36 dX12_clearBank_21 ?_
  refine lv_aload_n hx hb dX12_clearBank_24 rfl (lv_at hl 0 rfl) ?_
  refine rg_o_rb hx hb hts hown hK hP uw_7_57 dX12_clearBank_25 ?_
  refine lv_iconst (v := mI 0) hx hb dX12_clearBank_28 rfl ?_
  refine rs_irons hx hb hK hP hD hS dX12_clearBank_29 (by omega) b_B_irons (by omega) (fun F_5 H locs eF_5 bF_5 hP hS => ?_)
  refine lv_aload_n hx hb dX12_clearBank_30 rfl (lv_at hl 0 rfl) ?_
  refine rg_o_beasts hx hb hts hown hK hP uw_7_37 dX12_clearBank_31 ?_
  refine lv_aload_n hx hb dX12_clearBank_34 rfl (lv_at hl 0 rfl) ?_
  refine rg_o_rb hx hb hts hown hK hP uw_7_57 dX12_clearBank_35 ?_
  refine lv_iconst (v := mI 0) hx hb dX12_clearBank_38 rfl ?_
  refine rs_beasts hx hb hK hP hD hS dX12_clearBank_39 (by omega) b_B_beasts (by omega) (fun F_6 H locs eF_6 bF_6 hP hS => ?_)
  refine lv_aload_n hx hb dX12_clearBank_40 rfl (lv_at hl 0 rfl) ?_
  refine rg_o_units hx hb hts hown hK hP uw_7_38 dX12_clearBank_41 ?_
  refine lv_aload_n hx hb dX12_clearBank_44 rfl (lv_at hl 0 rfl) ?_
  refine rg_o_rb hx hb hts hown hK hP uw_7_57 dX12_clearBank_45 ?_
  refine lv_iconst (v := mI 0) hx hb dX12_clearBank_48 rfl ?_
  refine rs_units hx hb hK hP hD hS dX12_clearBank_49 (by omega) b_B_units (by omega) (fun F_7 H locs eF_7 bF_7 hP hS => ?_)
  have h_8 : F_7 x_rb.toNat = 0 := by rw [eF_7, ud_s]
  refine lv_aload_n hx hb dX12_clearBank_50 rfl (lv_at hl 0 rfl) ?_
  refine rg_o_night hx hb hts hown hK hP uw_7_39 dX12_clearBank_51 ?_
  refine lv_aload_n hx hb dX12_clearBank_54 rfl (lv_at hl 0 rfl) ?_
  refine rg_o_rb hx hb hts hown hK hP uw_7_57 dX12_clearBank_55 ?_
  refine lv_iconst (v := mI 0) hx hb dX12_clearBank_58 rfl ?_
  refine rs_night hx hb hK hP hD hS dX12_clearBank_59 (by omega) b_B_night (by omega) (fun F_9 H locs eF_9 bF_9 hP hS => ?_)
  refine lv_aload_n hx hb dX12_clearBank_60 rfl (lv_at hl 0 rfl) ?_
  refine rg_o_draw hx hb hts hown hK hP uw_7_40 dX12_clearBank_61 ?_
  refine lv_aload_n hx hb dX12_clearBank_64 rfl (lv_at hl 0 rfl) ?_
  refine rg_o_rb hx hb hts hown hK hP uw_7_57 dX12_clearBank_65 ?_
  refine lv_iconst (v := mI 0) hx hb dX12_clearBank_68 rfl ?_
  refine rs_draw hx hb hK hP hD hS dX12_clearBank_69 (by omega) b_B_draw (by omega) (fun F_10 H locs eF_10 bF_10 hP hS => ?_)
  refine lv_aload_n hx hb dX12_clearBank_70 rfl (lv_at hl 0 rfl) ?_
  refine rg_o_told hx hb hts hown hK hP uw_7_41 dX12_clearBank_71 ?_
  refine lv_aload_n hx hb dX12_clearBank_74 rfl (lv_at hl 0 rfl) ?_
  refine rg_o_rb hx hb hts hown hK hP uw_7_57 dX12_clearBank_75 ?_
  refine lv_iconst (v := mI 0) hx hb dX12_clearBank_78 rfl ?_
  refine rs_told hx hb hK hP hD hS dX12_clearBank_79 (by omega) b_B_told (by omega) (fun F_11 H locs eF_11 bF_11 hP hS => ?_)
  have g_12 := rQ_told g_Q eF_11 (by omega)
  have g_13 : 1 ≤ x_faultKind ∨ rQ x_rb F_11 B_ruleFrom B_ruleTo B_code := Or.inr (rQ_0 eF_11)
  refine lv_aload_n hx hb dX12_clearBank_80 rfl (lv_at hl 0 rfl) ?_
  refine lv_sipush (v := mI 560) hx hb dX12_clearBank_81 (by decide) ?_
  refine lv_aload_n hx hb dX12_clearBank_84 rfl (lv_at hl 0 rfl) ?_
  refine rg_o_rb hx hb hts hown hK hP uw_7_57 dX12_clearBank_85 ?_
  refine sy_imul hx hb dX12_clearBank_88 (560 * x_rb) rfl ?_
  refine rp_o_codes hx hb hts hown hK hP hD hS uw_7_58 dX12_clearBank_89 (fun H locs hP hS => ?_)
  exact r_v hx hb hr hlocks dX12_clearBank_92 hS ⟨F_1, F_4, F_5, F_6, F_7, F_9, F_10, F_11, (560 * x_rb), bF_1, bF_4, bF_5, bF_6, bF_7, bF_9, bF_10, bF_11, by omega, (by rw [eF_7, ud_s]), by omega, (by omega), g_12, g_13, g_2, (by omega), hP⟩
set_option maxHeartbeats 4000000 in
set_option maxRecDepth 100000 in
theorem kr_X12_isFull (h_x_token : 3 ≤ x_token ∧ x_token ≤ 3) (h_x_rb : 0 ≤ x_rb ∧ x_rb ≤ 1) (b_B_herds : bd (0) 8 B_herds) (b_B_irons : bd (0) 6 B_irons) (b_B_beasts : bd (0) 8 B_beasts) (b_B_told : bd (0) 31 B_told) : MetG l D k yX12_isFull cX12_isFull 1 (some .boolean) 1 [.ref (a 0)] (rW k a x_taped x_size x_faultKind x_faultPlace x_at x_end x_token x_number x_bank x_rb x_codes x_within x_piled x_unitsInRule x_askBeast x_askStroke x_askAge x_askSeason x_acts x_undone x_laid x_seens x_time x_fitting n_name B_tape B_text B_turns B_herds B_irons B_beasts B_units B_night B_draw B_told B_brands B_ironMarks B_herdTold B_born B_ruleFrom B_ruleTo B_code B_codeNumber B_eWhat B_eSign B_pile B_all B_burned B_was B_need B_laidRow B_long8 B_brings B_sBurning B_sStroke B_sIs B_sTold B_sUntold B_parts B_boxAll B_isBoxed G_hName G_iName G_bName ex) (qGi (fun r0 H => ((1 = r0) ∨ (0 = r0 ∧ (fImp n_name 1751478884 (B_herds x_rb.toNat) 7) ∧ (fImp n_name 1769107310 (B_irons x_rb.toNat) 5) ∧ (fImp n_name 422607680372 (B_beasts x_rb.toNat) 7))) ∧ va_P D vwCl (rW k a x_taped x_size x_faultKind x_faultPlace x_at x_end x_token x_number x_bank x_rb x_codes x_within x_piled x_unitsInRule x_askBeast x_askStroke x_askAge x_askSeason x_acts x_undone x_laid x_seens x_time x_fitting n_name B_tape B_text B_turns B_herds B_irons B_beasts B_units B_night B_draw B_told B_brands B_ironMarks B_herdTold B_born B_ruleFrom B_ruleTo B_code B_codeNumber B_eWhat B_eSign B_pile B_all B_burned B_was B_need B_laidRow B_long8 B_brings B_sBurning B_sStroke B_sIs B_sTold B_sUntold B_parts B_boxAll B_isBoxed G_hName G_iName G_bName ex) H)) := by
  refine metG_of 0 ck_X12_isFull (Nat.le_of_ble_eq_true rfl) rMap (fun p e s m args below meth c A hx hb hml hr hlocks hown hts hK hD hA hP hS ls hl => ?_)
  have hown : s.vm.findClass "HideReaderModel" = some m.cls := hown
  have hl : lv_has ls 1 [(0, .ref (a 0))] := hl
  refine lv_aload_n hx hb dX12_isFull_0 rfl (lv_at hl 0 rfl) ?_
  refine lv_ldc2 (own := "HideReaderModel") (v := 500186639987) hx hb hown (hts _ uw_7_234) dX12_isFull_1 ?_
  refine g_i (rDt hD) hS hA (g_V (own := "HideReaderModel") (As := [.long 500186639987]) (rest := []) hx hb hml hown hts hK hP (rDt hD) (kr_X12_isWord (l := l) (D := D) (k := k) (by omega)) ck_X12_isWord iv_X12_isWord uw_8_30 (rv_o hK hP) rfl hl.1 rfl (Nat.le_of_ble_eq_true rfl) dX12_isFull_4 ⟨Nat.le_of_ble_eq_true rfl, Nat.le_of_ble_eq_true rfl⟩ ⟨Nat.le_of_ble_eq_true rfl, Nat.le_of_ble_eq_true rfl⟩) (fun r_1 H locs hQ hS => ?_)
  obtain ⟨hq_r_1, hP⟩ := hQ
  rcases hq_r_1 with ⟨rfl, c_2_0, c_2_1⟩ | ⟨rfl, c_3_0, c_3_1⟩
  · skip
    refine sy_if_eq (tgt := 24) hx hb dX12_isFull_7 (by decide) (by decide) (fun c_4 => ?_) (fun c9 => absurd c9 (by decide))
    refine lv_aload_n hx hb dX12_isFull_24 rfl (lv_at hl 0 rfl) ?_
    refine lv_ldc2 (own := "HideReaderModel") (v := 120299659095922) hx hb hown (hts _ uw_7_235) dX12_isFull_25 ?_
    refine g_i (rDt hD) hS hA (g_V (own := "HideReaderModel") (As := [.long 120299659095922]) (rest := []) hx hb hml hown hts hK hP (rDt hD) (kr_X12_isWord (l := l) (D := D) (k := k) (by omega)) ck_X12_isWord iv_X12_isWord uw_8_30 (rv_o hK hP) rfl hl.1 rfl (Nat.le_of_ble_eq_true rfl) dX12_isFull_28 ⟨Nat.le_of_ble_eq_true rfl, Nat.le_of_ble_eq_true rfl⟩ ⟨Nat.le_of_ble_eq_true rfl, Nat.le_of_ble_eq_true rfl⟩) (fun r_5 H locs hQ hS => ?_)
    obtain ⟨hq_r_5, hP⟩ := hQ
    rcases hq_r_5 with ⟨rfl, c_6_0, c_6_1⟩ | ⟨rfl, c_7_0, c_7_1⟩
    · skip
      refine sy_if_eq (tgt := 48) hx hb dX12_isFull_31 (by decide) (by decide) (fun c_8 => ?_) (fun c9 => absurd c9 (by decide))
      refine lv_aload_n hx hb dX12_isFull_48 rfl (lv_at hl 0 rfl) ?_
      refine lv_ldc2 (own := "HideReaderModel") (v := 1751478884) hx hb hown (hts _ uw_7_236) dX12_isFull_49 ?_
      refine g_i (rDt hD) hS hA (g_V (own := "HideReaderModel") (As := [.long 1751478884]) (rest := []) hx hb hml hown hts hK hP (rDt hD) (kr_X12_isWord (l := l) (D := D) (k := k) (by omega)) ck_X12_isWord iv_X12_isWord uw_8_30 (rv_o hK hP) rfl hl.1 rfl (Nat.le_of_ble_eq_true rfl) dX12_isFull_52 ⟨Nat.le_of_ble_eq_true rfl, Nat.le_of_ble_eq_true rfl⟩ ⟨Nat.le_of_ble_eq_true rfl, Nat.le_of_ble_eq_true rfl⟩) (fun r_9 H locs hQ hS => ?_)
      obtain ⟨hq_r_9, hP⟩ := hQ
      rcases hq_r_9 with ⟨rfl, c_10_0, c_10_1⟩ | ⟨rfl, c_11_0, c_11_1⟩
      · skip
        refine sy_if_eq (tgt := 78) hx hb dX12_isFull_55 (by decide) (by decide) (fun c_12 => ?_) (fun c9 => absurd c9 (by decide))
        refine lv_aload_n hx hb dX12_isFull_78 rfl (lv_at hl 0 rfl) ?_
        refine lv_ldc2 (own := "HideReaderModel") (v := 1769107310) hx hb hown (hts _ uw_7_238) dX12_isFull_79 ?_
        refine g_i (rDt hD) hS hA (g_V (own := "HideReaderModel") (As := [.long 1769107310]) (rest := []) hx hb hml hown hts hK hP (rDt hD) (kr_X12_isWord (l := l) (D := D) (k := k) (by omega)) ck_X12_isWord iv_X12_isWord uw_8_30 (rv_o hK hP) rfl hl.1 rfl (Nat.le_of_ble_eq_true rfl) dX12_isFull_82 ⟨Nat.le_of_ble_eq_true rfl, Nat.le_of_ble_eq_true rfl⟩ ⟨Nat.le_of_ble_eq_true rfl, Nat.le_of_ble_eq_true rfl⟩) (fun r_13 H locs hQ hS => ?_)
        obtain ⟨hq_r_13, hP⟩ := hQ
        rcases hq_r_13 with ⟨rfl, c_14_0, c_14_1⟩ | ⟨rfl, c_15_0, c_15_1⟩
        · skip
          refine sy_if_eq (tgt := 108) hx hb dX12_isFull_85 (by decide) (by decide) (fun c_16 => ?_) (fun c9 => absurd c9 (by decide))
          refine lv_aload_n hx hb dX12_isFull_108 rfl (lv_at hl 0 rfl) ?_
          refine lv_ldc2 (own := "HideReaderModel") (v := 422607680372) hx hb hown (hts _ uw_7_239) dX12_isFull_109 ?_
          refine g_i (rDt hD) hS hA (g_V (own := "HideReaderModel") (As := [.long 422607680372]) (rest := []) hx hb hml hown hts hK hP (rDt hD) (kr_X12_isWord (l := l) (D := D) (k := k) (by omega)) ck_X12_isWord iv_X12_isWord uw_8_30 (rv_o hK hP) rfl hl.1 rfl (Nat.le_of_ble_eq_true rfl) dX12_isFull_112 ⟨Nat.le_of_ble_eq_true rfl, Nat.le_of_ble_eq_true rfl⟩ ⟨Nat.le_of_ble_eq_true rfl, Nat.le_of_ble_eq_true rfl⟩) (fun r_17 H locs hQ hS => ?_)
          obtain ⟨hq_r_17, hP⟩ := hQ
          rcases hq_r_17 with ⟨rfl, c_18_0, c_18_1⟩ | ⟨rfl, c_19_0, c_19_1⟩
          · skip
            refine sy_if_eq (tgt := 138) hx hb dX12_isFull_115 (by decide) (by decide) (fun c_20 => ?_) (fun c9 => absurd c9 (by decide))
            refine lv_aload_n hx hb dX12_isFull_138 rfl (lv_at hl 0 rfl) ?_
            refine lv_ldc2 (own := "HideReaderModel") (v := 495673374579) hx hb hown (hts _ uw_8_2) dX12_isFull_139 ?_
            refine g_i (rDt hD) hS hA (g_V (own := "HideReaderModel") (As := [.long 495673374579]) (rest := []) hx hb hml hown hts hK hP (rDt hD) (kr_X12_isWord (l := l) (D := D) (k := k) (by omega)) ck_X12_isWord iv_X12_isWord uw_8_30 (rv_o hK hP) rfl hl.1 rfl (Nat.le_of_ble_eq_true rfl) dX12_isFull_142 ⟨Nat.le_of_ble_eq_true rfl, Nat.le_of_ble_eq_true rfl⟩ ⟨Nat.le_of_ble_eq_true rfl, Nat.le_of_ble_eq_true rfl⟩) (fun r_21 H locs hQ hS => ?_)
            obtain ⟨hq_r_21, hP⟩ := hQ
            rcases hq_r_21 with ⟨rfl, c_22_0, c_22_1⟩ | ⟨rfl, c_23_0, c_23_1⟩
            · skip
              refine sy_if_eq (tgt := 162) hx hb dX12_isFull_145 (by decide) (by decide) (fun c_24 => ?_) (fun c9 => absurd c9 (by decide))
              refine lv_aload_n hx hb dX12_isFull_162 rfl (lv_at hl 0 rfl) ?_
              refine lv_ldc2 (own := "HideReaderModel") (v := 474214787188) hx hb hown (hts _ uw_8_3) dX12_isFull_163 ?_
              refine g_i (rDt hD) hS hA (g_V (own := "HideReaderModel") (As := [.long 474214787188]) (rest := []) hx hb hml hown hts hK hP (rDt hD) (kr_X12_isWord (l := l) (D := D) (k := k) (by omega)) ck_X12_isWord iv_X12_isWord uw_8_30 (rv_o hK hP) rfl hl.1 rfl (Nat.le_of_ble_eq_true rfl) dX12_isFull_166 ⟨Nat.le_of_ble_eq_true rfl, Nat.le_of_ble_eq_true rfl⟩ ⟨Nat.le_of_ble_eq_true rfl, Nat.le_of_ble_eq_true rfl⟩) (fun r_25 H locs hQ hS => ?_)
              obtain ⟨hq_r_25, hP⟩ := hQ
              rcases hq_r_25 with ⟨rfl, c_26_0, c_26_1⟩ | ⟨rfl, c_27_0, c_27_1⟩
              · skip
                refine sy_if_eq (tgt := 186) hx hb dX12_isFull_169 (by decide) (by decide) (fun c_28 => ?_) (fun c9 => absurd c9 (by decide))
                refine lv_aload_n hx hb dX12_isFull_186 rfl (lv_at hl 0 rfl) ?_
                refine lv_ldc2 (own := "HideReaderModel") (v := 1685217655) hx hb hown (hts _ uw_8_4) dX12_isFull_187 ?_
                refine g_i (rDt hD) hS hA (g_V (own := "HideReaderModel") (As := [.long 1685217655]) (rest := []) hx hb hml hown hts hK hP (rDt hD) (kr_X12_isWord (l := l) (D := D) (k := k) (by omega)) ck_X12_isWord iv_X12_isWord uw_8_30 (rv_o hK hP) rfl hl.1 rfl (Nat.le_of_ble_eq_true rfl) dX12_isFull_190 ⟨Nat.le_of_ble_eq_true rfl, Nat.le_of_ble_eq_true rfl⟩ ⟨Nat.le_of_ble_eq_true rfl, Nat.le_of_ble_eq_true rfl⟩) (fun r_29 H locs hQ hS => ?_)
                obtain ⟨hq_r_29, hP⟩ := hQ
                rcases hq_r_29 with ⟨rfl, c_30_0, c_30_1⟩ | ⟨rfl, c_31_0, c_31_1⟩
                · skip
                  refine sy_if_eq (tgt := 212) hx hb dX12_isFull_193 (by decide) (by decide) (fun c_32 => ?_) (fun c9 => absurd c9 (by decide))
                  refine lv_iconst (v := mI 1) hx hb dX12_isFull_212 rfl ?_
                  refine lv_goto (tgt := 217) hx hb dX12_isFull_213 (by decide) ?_
                  exact r_z hx hb hr hlocks dX12_isFull_217 hS (by decide) ⟨Or.inl (rfl), hP⟩
                · skip
                  refine sy_if_eq (tgt := 212) hx hb dX12_isFull_193 (by decide) (by decide) (fun c9 => absurd c9 (by decide)) (fun c_33 => ?_)
                  refine lv_aload_n hx hb dX12_isFull_196 rfl (lv_at hl 0 rfl) ?_
                  refine rg_o_told hx hb hts hown hK hP uw_7_41 dX12_isFull_197 ?_
                  refine lv_aload_n hx hb dX12_isFull_200 rfl (lv_at hl 0 rfl) ?_
                  refine rg_o_rb hx hb hts hown hK hP uw_7_57 dX12_isFull_201 ?_
                  refine rl_told hx hb hK hP dX12_isFull_204 (by omega) b_B_told (fun z_34 ez_34 hz_34 => ?_)
                  refine lv_iconst (v := mI 4) hx hb dX12_isFull_205 rfl ?_
                  refine g_i (rDt hD) hS hA (g_S (own := "HideReaderModel") (As := [.int (mI z_34), .int (mI 4)]) (rest := []) hx hb hml hown hts hK hP (rDt hD) (kr_bit (l := l) (D := D) (k := k)) ck_X12_bit uw_6_229 uw_6_228 rfl hl.1 rfl (Nat.le_of_ble_eq_true rfl) dX12_isFull_206 ⟨Nat.le_of_ble_eq_true rfl, Nat.le_of_ble_eq_true rfl⟩ ⟨Nat.le_of_ble_eq_true rfl, Nat.le_of_ble_eq_true rfl⟩) (fun r_35 H locs hQ hS => ?_)
                  obtain ⟨hq_r_35, hP⟩ := hQ
                  rcases hq_r_35 with ⟨rfl, c_36_0⟩ | ⟨rfl, c_37_0⟩
                  · skip
                    refine sy_if_eq (tgt := 216) hx hb dX12_isFull_209 (by decide) (by decide) (fun c9 => absurd c9 (by decide)) (fun c_38 => ?_)
                    refine lv_iconst (v := mI 1) hx hb dX12_isFull_212 rfl ?_
                    refine lv_goto (tgt := 217) hx hb dX12_isFull_213 (by decide) ?_
                    exact r_z hx hb hr hlocks dX12_isFull_217 hS (by decide) ⟨Or.inl (rfl), hP⟩
                  · skip
                    refine sy_if_eq (tgt := 216) hx hb dX12_isFull_209 (by decide) (by decide) (fun c_39 => ?_) (fun c9 => absurd c9 (by decide))
                    refine lv_iconst (v := mI 0) hx hb dX12_isFull_216 rfl ?_
                    exact r_z hx hb hr hlocks dX12_isFull_217 hS (by decide) ⟨Or.inr (⟨rfl, (fun h9 => absurd ⟨by omega, h9⟩ c_10_1), (fun h9 => absurd ⟨by omega, h9⟩ c_14_1), (fun h9 => absurd ⟨by omega, h9⟩ c_18_1)⟩), hP⟩
              · skip
                refine sy_if_eq (tgt := 186) hx hb dX12_isFull_169 (by decide) (by decide) (fun c9 => absurd c9 (by decide)) (fun c_40 => ?_)
                refine lv_aload_n hx hb dX12_isFull_172 rfl (lv_at hl 0 rfl) ?_
                refine rg_o_told hx hb hts hown hK hP uw_7_41 dX12_isFull_173 ?_
                refine lv_aload_n hx hb dX12_isFull_176 rfl (lv_at hl 0 rfl) ?_
                refine rg_o_rb hx hb hts hown hK hP uw_7_57 dX12_isFull_177 ?_
                refine rl_told hx hb hK hP dX12_isFull_180 (by omega) b_B_told (fun z_41 ez_41 hz_41 => ?_)
                refine lv_iconst (v := mI 3) hx hb dX12_isFull_181 rfl ?_
                refine g_i (rDt hD) hS hA (g_S (own := "HideReaderModel") (As := [.int (mI z_41), .int (mI 3)]) (rest := []) hx hb hml hown hts hK hP (rDt hD) (kr_bit (l := l) (D := D) (k := k)) ck_X12_bit uw_6_229 uw_6_228 rfl hl.1 rfl (Nat.le_of_ble_eq_true rfl) dX12_isFull_182 ⟨Nat.le_of_ble_eq_true rfl, Nat.le_of_ble_eq_true rfl⟩ ⟨Nat.le_of_ble_eq_true rfl, Nat.le_of_ble_eq_true rfl⟩) (fun r_42 H locs hQ hS => ?_)
                obtain ⟨hq_r_42, hP⟩ := hQ
                rcases hq_r_42 with ⟨rfl, c_43_0⟩ | ⟨rfl, c_44_0⟩
                · skip
                  exact r_z hx hb hr hlocks dX12_isFull_185 hS (by decide) ⟨Or.inl (rfl), hP⟩
                · skip
                  exact r_z hx hb hr hlocks dX12_isFull_185 hS (by decide) ⟨Or.inr (⟨rfl, (fun h9 => absurd ⟨by omega, h9⟩ c_10_1), (fun h9 => absurd ⟨by omega, h9⟩ c_14_1), (fun h9 => absurd ⟨by omega, h9⟩ c_18_1)⟩), hP⟩
            · skip
              refine sy_if_eq (tgt := 162) hx hb dX12_isFull_145 (by decide) (by decide) (fun c9 => absurd c9 (by decide)) (fun c_45 => ?_)
              refine lv_aload_n hx hb dX12_isFull_148 rfl (lv_at hl 0 rfl) ?_
              refine rg_o_told hx hb hts hown hK hP uw_7_41 dX12_isFull_149 ?_
              refine lv_aload_n hx hb dX12_isFull_152 rfl (lv_at hl 0 rfl) ?_
              refine rg_o_rb hx hb hts hown hK hP uw_7_57 dX12_isFull_153 ?_
              refine rl_told hx hb hK hP dX12_isFull_156 (by omega) b_B_told (fun z_46 ez_46 hz_46 => ?_)
              refine lv_iconst (v := mI 0) hx hb dX12_isFull_157 rfl ?_
              refine g_i (rDt hD) hS hA (g_S (own := "HideReaderModel") (As := [.int (mI z_46), .int (mI 0)]) (rest := []) hx hb hml hown hts hK hP (rDt hD) (kr_bit (l := l) (D := D) (k := k)) ck_X12_bit uw_6_229 uw_6_228 rfl hl.1 rfl (Nat.le_of_ble_eq_true rfl) dX12_isFull_158 ⟨Nat.le_of_ble_eq_true rfl, Nat.le_of_ble_eq_true rfl⟩ ⟨Nat.le_of_ble_eq_true rfl, Nat.le_of_ble_eq_true rfl⟩) (fun r_47 H locs hQ hS => ?_)
              obtain ⟨hq_r_47, hP⟩ := hQ
              rcases hq_r_47 with ⟨rfl, c_48_0⟩ | ⟨rfl, c_49_0⟩
              · skip
                exact r_z hx hb hr hlocks dX12_isFull_161 hS (by decide) ⟨Or.inl (rfl), hP⟩
              · skip
                exact r_z hx hb hr hlocks dX12_isFull_161 hS (by decide) ⟨Or.inr (⟨rfl, (fun h9 => absurd ⟨by omega, h9⟩ c_10_1), (fun h9 => absurd ⟨by omega, h9⟩ c_14_1), (fun h9 => absurd ⟨by omega, h9⟩ c_18_1)⟩), hP⟩
          · skip
            refine sy_if_eq (tgt := 138) hx hb dX12_isFull_115 (by decide) (by decide) (fun c9 => absurd c9 (by decide)) (fun c_50 => ?_)
            refine lv_aload_n hx hb dX12_isFull_118 rfl (lv_at hl 0 rfl) ?_
            refine rg_o_beasts hx hb hts hown hK hP uw_7_37 dX12_isFull_119 ?_
            refine lv_aload_n hx hb dX12_isFull_122 rfl (lv_at hl 0 rfl) ?_
            refine rg_o_rb hx hb hts hown hK hP uw_7_57 dX12_isFull_123 ?_
            refine rl_beasts hx hb hK hP dX12_isFull_126 (by omega) b_B_beasts (fun z_51 ez_51 hz_51 => ?_)
            refine lv_bipush (v := mI 8) hx hb dX12_isFull_127 (by decide) ?_
            refine sy_icmp_ne (tgt := 136) hx hb dX12_isFull_129 (by decide) (by omega) (by decide) (fun c_52 => ?_) (fun c_52 => ?_)
            · skip
              refine lv_iconst (v := mI 0) hx hb dX12_isFull_136 rfl ?_
              exact r_z hx hb hr hlocks dX12_isFull_137 hS (by decide) ⟨Or.inr (⟨rfl, (fun h9 => absurd ⟨by omega, h9⟩ c_10_1), (fun h9 => absurd ⟨by omega, h9⟩ c_14_1), (fun _ => by omega)⟩), hP⟩
            · skip
              refine lv_iconst (v := mI 1) hx hb dX12_isFull_132 rfl ?_
              refine lv_goto (tgt := 137) hx hb dX12_isFull_133 (by decide) ?_
              exact r_z hx hb hr hlocks dX12_isFull_137 hS (by decide) ⟨Or.inl (rfl), hP⟩
        · skip
          refine sy_if_eq (tgt := 108) hx hb dX12_isFull_85 (by decide) (by decide) (fun c9 => absurd c9 (by decide)) (fun c_53 => ?_)
          refine lv_aload_n hx hb dX12_isFull_88 rfl (lv_at hl 0 rfl) ?_
          refine rg_o_irons hx hb hts hown hK hP uw_7_36 dX12_isFull_89 ?_
          refine lv_aload_n hx hb dX12_isFull_92 rfl (lv_at hl 0 rfl) ?_
          refine rg_o_rb hx hb hts hown hK hP uw_7_57 dX12_isFull_93 ?_
          refine rl_irons hx hb hK hP dX12_isFull_96 (by omega) b_B_irons (fun z_54 ez_54 hz_54 => ?_)
          refine lv_bipush (v := mI 6) hx hb dX12_isFull_97 (by decide) ?_
          refine sy_icmp_ne (tgt := 106) hx hb dX12_isFull_99 (by decide) (by omega) (by decide) (fun c_55 => ?_) (fun c_55 => ?_)
          · skip
            refine lv_iconst (v := mI 0) hx hb dX12_isFull_106 rfl ?_
            exact r_z hx hb hr hlocks dX12_isFull_107 hS (by decide) ⟨Or.inr (⟨rfl, (fun h9 => absurd ⟨by omega, h9⟩ c_10_1), (fun _ => by omega), (fun h9 => absurd (c_15_1.symm.trans h9) (by decide))⟩), hP⟩
          · skip
            refine lv_iconst (v := mI 1) hx hb dX12_isFull_102 rfl ?_
            refine lv_goto (tgt := 107) hx hb dX12_isFull_103 (by decide) ?_
            exact r_z hx hb hr hlocks dX12_isFull_107 hS (by decide) ⟨Or.inl (rfl), hP⟩
      · skip
        refine sy_if_eq (tgt := 78) hx hb dX12_isFull_55 (by decide) (by decide) (fun c9 => absurd c9 (by decide)) (fun c_56 => ?_)
        refine lv_aload_n hx hb dX12_isFull_58 rfl (lv_at hl 0 rfl) ?_
        refine rg_o_herds hx hb hts hown hK hP uw_7_35 dX12_isFull_59 ?_
        refine lv_aload_n hx hb dX12_isFull_62 rfl (lv_at hl 0 rfl) ?_
        refine rg_o_rb hx hb hts hown hK hP uw_7_57 dX12_isFull_63 ?_
        refine rl_herds hx hb hK hP dX12_isFull_66 (by omega) b_B_herds (fun z_57 ez_57 hz_57 => ?_)
        refine lv_bipush (v := mI 8) hx hb dX12_isFull_67 (by decide) ?_
        refine sy_icmp_ne (tgt := 76) hx hb dX12_isFull_69 (by decide) (by omega) (by decide) (fun c_58 => ?_) (fun c_58 => ?_)
        · skip
          refine lv_iconst (v := mI 0) hx hb dX12_isFull_76 rfl ?_
          exact r_z hx hb hr hlocks dX12_isFull_77 hS (by decide) ⟨Or.inr (⟨rfl, (fun _ => by omega), (fun h9 => absurd (c_11_1.symm.trans h9) (by decide)), (fun h9 => absurd (c_11_1.symm.trans h9) (by decide))⟩), hP⟩
        · skip
          refine lv_iconst (v := mI 1) hx hb dX12_isFull_72 rfl ?_
          refine lv_goto (tgt := 77) hx hb dX12_isFull_73 (by decide) ?_
          exact r_z hx hb hr hlocks dX12_isFull_77 hS (by decide) ⟨Or.inl (rfl), hP⟩
    · skip
      refine sy_if_eq (tgt := 48) hx hb dX12_isFull_31 (by decide) (by decide) (fun c9 => absurd c9 (by decide)) (fun c_59 => ?_)
      refine lv_aload_n hx hb dX12_isFull_34 rfl (lv_at hl 0 rfl) ?_
      refine rg_o_told hx hb hts hown hK hP uw_7_41 dX12_isFull_35 ?_
      refine lv_aload_n hx hb dX12_isFull_38 rfl (lv_at hl 0 rfl) ?_
      refine rg_o_rb hx hb hts hown hK hP uw_7_57 dX12_isFull_39 ?_
      refine rl_told hx hb hK hP dX12_isFull_42 (by omega) b_B_told (fun z_60 ez_60 hz_60 => ?_)
      refine lv_iconst (v := mI 2) hx hb dX12_isFull_43 rfl ?_
      refine g_i (rDt hD) hS hA (g_S (own := "HideReaderModel") (As := [.int (mI z_60), .int (mI 2)]) (rest := []) hx hb hml hown hts hK hP (rDt hD) (kr_bit (l := l) (D := D) (k := k)) ck_X12_bit uw_6_229 uw_6_228 rfl hl.1 rfl (Nat.le_of_ble_eq_true rfl) dX12_isFull_44 ⟨Nat.le_of_ble_eq_true rfl, Nat.le_of_ble_eq_true rfl⟩ ⟨Nat.le_of_ble_eq_true rfl, Nat.le_of_ble_eq_true rfl⟩) (fun r_61 H locs hQ hS => ?_)
      obtain ⟨hq_r_61, hP⟩ := hQ
      rcases hq_r_61 with ⟨rfl, c_62_0⟩ | ⟨rfl, c_63_0⟩
      · skip
        exact r_z hx hb hr hlocks dX12_isFull_47 hS (by decide) ⟨Or.inl (rfl), hP⟩
      · skip
        exact r_z hx hb hr hlocks dX12_isFull_47 hS (by decide) ⟨Or.inr (⟨rfl, (fun h9 => absurd (c_7_1.symm.trans h9) (by decide)), (fun h9 => absurd (c_7_1.symm.trans h9) (by decide)), (fun h9 => absurd (c_7_1.symm.trans h9) (by decide))⟩), hP⟩
  · skip
    refine sy_if_eq (tgt := 24) hx hb dX12_isFull_7 (by decide) (by decide) (fun c9 => absurd c9 (by decide)) (fun c_64 => ?_)
    refine lv_aload_n hx hb dX12_isFull_10 rfl (lv_at hl 0 rfl) ?_
    refine rg_o_told hx hb hts hown hK hP uw_7_41 dX12_isFull_11 ?_
    refine lv_aload_n hx hb dX12_isFull_14 rfl (lv_at hl 0 rfl) ?_
    refine rg_o_rb hx hb hts hown hK hP uw_7_57 dX12_isFull_15 ?_
    refine rl_told hx hb hK hP dX12_isFull_18 (by omega) b_B_told (fun z_65 ez_65 hz_65 => ?_)
    refine lv_iconst (v := mI 1) hx hb dX12_isFull_19 rfl ?_
    refine g_i (rDt hD) hS hA (g_S (own := "HideReaderModel") (As := [.int (mI z_65), .int (mI 1)]) (rest := []) hx hb hml hown hts hK hP (rDt hD) (kr_bit (l := l) (D := D) (k := k)) ck_X12_bit uw_6_229 uw_6_228 rfl hl.1 rfl (Nat.le_of_ble_eq_true rfl) dX12_isFull_20 ⟨Nat.le_of_ble_eq_true rfl, Nat.le_of_ble_eq_true rfl⟩ ⟨Nat.le_of_ble_eq_true rfl, Nat.le_of_ble_eq_true rfl⟩) (fun r_66 H locs hQ hS => ?_)
    obtain ⟨hq_r_66, hP⟩ := hQ
    rcases hq_r_66 with ⟨rfl, c_67_0⟩ | ⟨rfl, c_68_0⟩
    · skip
      exact r_z hx hb hr hlocks dX12_isFull_23 hS (by decide) ⟨Or.inl (rfl), hP⟩
    · skip
      exact r_z hx hb hr hlocks dX12_isFull_23 hS (by decide) ⟨Or.inr (⟨rfl, (fun h9 => absurd (c_3_1.symm.trans h9) (by decide)), (fun h9 => absurd (c_3_1.symm.trans h9) (by decide)), (fun h9 => absurd (c_3_1.symm.trans h9) (by decide))⟩), hP⟩
set_option maxHeartbeats 4000000 in
set_option maxRecDepth 100000 in
theorem kr_X12_newName {p0 : Int} (hp0 : -1 ≤ p0 ∧ p0 ≤ 7) (h_x_size : 0 ≤ x_size ∧ x_size ≤ 1600) (h_x_faultKind : 0 ≤ x_faultKind ∧ x_faultKind ≤ 5) (h_x_faultPlace : -1 ≤ x_faultPlace ∧ x_faultPlace ≤ 1600) (h_x_at : 0 ≤ x_at ∧ x_at ≤ 1600) (h_x_end : 0 ≤ x_end ∧ x_end ≤ 1600) (h_x_token : 0 ≤ x_token ∧ x_token ≤ 5) (h_x_number : -2147483648 ≤ x_number ∧ x_number ≤ 2147483647) (b_B_text : bd (-128) 127 B_text) (g_E : x_end ≤ x_size) : MetG l D k yX12_newName cX12_newName 4 (some .long) 2 [.ref (a 0), .int (mI p0)] (rW k a x_taped x_size x_faultKind x_faultPlace x_at x_end x_token x_number x_bank x_rb x_codes x_within x_piled x_unitsInRule x_askBeast x_askStroke x_askAge x_askSeason x_acts x_undone x_laid x_seens x_time x_fitting n_name B_tape B_text B_turns B_herds B_irons B_beasts B_units B_night B_draw B_told B_brands B_ironMarks B_herdTold B_born B_ruleFrom B_ruleTo B_code B_codeNumber B_eWhat B_eSign B_pile B_all B_burned B_was B_need B_laidRow B_long8 B_brings B_sBurning B_sStroke B_sIs B_sTold B_sUntold B_parts B_boxAll B_isBoxed G_hName G_iName G_bName ex) (qGl (fun r0 H => ∃ (y_faultKind : Int) (y_faultPlace : Int) (y_at : Int) (y_end : Int) (y_token : Int) (y_number : Int) (j_name : Int64), (0 ≤ y_faultKind ∧ y_faultKind ≤ 5) ∧ (-1 ≤ y_faultPlace ∧ y_faultPlace ≤ 1600) ∧ (0 ≤ y_at ∧ y_at ≤ 1600) ∧ (0 ≤ y_end ∧ y_end ≤ 1600) ∧ (0 ≤ y_token ∧ y_token ≤ 5) ∧ (-2147483648 ≤ y_number ∧ y_number ≤ 2147483647) ∧ (0 ≤ y_faultKind - x_faultKind) ∧ (0 ≤ y_end - x_end) ∧ (1 ≤ y_faultKind ∨ y_token ≤ 0 ∨ x_end + 1 ≤ y_end) ∧ (x_token = 2 ∨ 1 ≤ y_faultKind) ∧ (y_end ≤ x_size) ∧ va_P D vwCl (rW k a x_taped x_size y_faultKind y_faultPlace y_at y_end y_token y_number x_bank x_rb x_codes x_within x_piled x_unitsInRule x_askBeast x_askStroke x_askAge x_askSeason x_acts x_undone x_laid x_seens x_time x_fitting j_name B_tape B_text B_turns B_herds B_irons B_beasts B_units B_night B_draw B_told B_brands B_ironMarks B_herdTold B_born B_ruleFrom B_ruleTo B_code B_codeNumber B_eWhat B_eSign B_pile B_all B_burned B_was B_need B_laidRow B_long8 B_brings B_sBurning B_sStroke B_sIs B_sTold B_sUntold B_parts B_boxAll B_isBoxed G_hName G_iName G_bName ex) H)) := by
  refine metG_of 1 ck_X12_newName (Nat.le_of_ble_eq_true rfl) rMap (fun p e s m args below meth c A hx hb hml hr hlocks hown hts hK hD hA hP hS ls hl => ?_)
  have hown : s.vm.findClass "HideReaderModel" = some m.cls := hown
  have hl : lv_has ls 4 [(0, .ref (a 0)), (1, .int (mI p0))] := hl
  refine lv_aload_n hx hb dX12_newName_0 rfl (lv_at hl 0 rfl) ?_
  refine g_i (rDt hD) hS hA (g_V (own := "HideReaderModel") (As := []) (rest := []) hx hb hml hown hts hK hP (rDt hD) (kr_X12_isGood (l := l) (D := D) (k := k) h_x_faultKind) ck_X12_isGood iv_X12_isGood uw_8_18 (rv_o hK hP) rfl hl.1 rfl (Nat.le_of_ble_eq_true rfl) dX12_newName_1 ⟨Nat.le_of_ble_eq_true rfl, Nat.le_of_ble_eq_true rfl⟩ ⟨Nat.le_of_ble_eq_true rfl, Nat.le_of_ble_eq_true rfl⟩) (fun r_1 H locs hQ hS => ?_)
  obtain ⟨hq_r_1, hP⟩ := hQ
  rcases hq_r_1 with ⟨rfl, c_2_0, c_2_1⟩ | ⟨rfl, c_3_0⟩
  · skip
    refine sy_if_ne (tgt := 9) hx hb dX12_newName_4 (by decide) (by decide) (fun c9 => absurd c9 (by decide)) (fun c_4 => ?_)
    refine lv_lconst (v := 0) hx hb dX12_newName_7 rfl ?_
    exact r_l hx hb hr hlocks dX12_newName_8 hS ⟨x_faultKind, x_faultPlace, x_at, x_end, x_token, x_number, n_name, by omega, by omega, by omega, by omega, by omega, by omega, by omega, by omega, by omega, by omega, g_E, hP⟩
  · skip
    refine sy_if_ne (tgt := 9) hx hb dX12_newName_4 (by decide) (by decide) (fun c_5 => ?_) (fun c9 => absurd c9 (by decide))
    refine lv_aload_n hx hb dX12_newName_9 rfl (lv_at hl 0 rfl) ?_
    refine rg_o_token hx hb hts hown hK hP uw_7_31 dX12_newName_10 ?_
    refine lv_iconst (v := mI 2) hx hb dX12_newName_13 rfl ?_
    refine sy_icmp_eq (tgt := 24) hx hb dX12_newName_14 (by decide) (by omega) (by decide) (fun c_6 => ?_) (fun c_6 => ?_)
    · skip
      refine lv_iload_n hx hb dX12_newName_24 rfl (lv_at hl 1 rfl) ?_
      refine sy_if_lt (tgt := 37) hx hb dX12_newName_25 (by decide) (by omega) (fun c_7 => ?_) (fun c_7 => ?_)
      · skip
        refine lv_aload_n hx hb dX12_newName_37 rfl (lv_at hl 0 rfl) ?_
        refine rg_o_name hx hb hts hown hK hP uw_7_33 dX12_newName_38 ?_
        refine lv_lstore_n (lv' := [(2, .long n_name), (0, .ref (a 0)), (1, .int (mI p0))]) hx hb dX12_newName_41 rfl hl (by decide) rfl (fun ls hl => ?_)
        refine lv_aload_n hx hb dX12_newName_42 rfl (lv_at hl 1 rfl) ?_
        refine g_i (rDt hD) hS hA (g_V (own := "HideReaderModel") (As := []) (rest := []) hx hb hml hown hts hK hP (rDt hD) (kr_X12_isGood (l := l) (D := D) (k := k) h_x_faultKind) ck_X12_isGood iv_X12_isGood uw_8_18 (rv_o hK hP) rfl hl.1 rfl (Nat.le_of_ble_eq_true rfl) dX12_newName_43 ⟨Nat.le_of_ble_eq_true rfl, Nat.le_of_ble_eq_true rfl⟩ ⟨Nat.le_of_ble_eq_true rfl, Nat.le_of_ble_eq_true rfl⟩) (fun r_8 H locs hQ hS => ?_)
        obtain ⟨hq_r_8, hP⟩ := hQ
        rcases hq_r_8 with ⟨rfl, c_9_0, c_9_1⟩ | ⟨rfl, c_10_0⟩
        exact False.elim (by omega)
        · skip
          refine sy_if_eq (tgt := 53) hx hb dX12_newName_46 (by decide) (by decide) (fun c9 => absurd c9 (by decide)) (fun c_11 => ?_)
          refine lv_aload_n hx hb dX12_newName_49 rfl (lv_at hl 1 rfl) ?_
          refine g_v (rDt hD) hS hA (g_V (own := "HideReaderModel") (As := []) (rest := []) hx hb hml hown hts hK hP (rDt hD) (kr_X12_goOn (l := l) (D := D) (k := k) h_x_size h_x_end h_x_number b_B_text g_E) ck_X12_goOn iv_X12_goOn uw_7_220 (rv_o hK hP) rfl hl.1 rfl (Nat.le_of_ble_eq_true rfl) dX12_newName_50 ⟨Nat.le_of_ble_eq_true rfl, Nat.le_of_ble_eq_true rfl⟩ ⟨Nat.le_of_ble_eq_true rfl, Nat.le_of_ble_eq_true rfl⟩) (fun H locs hQ hS => ?_)
          obtain ⟨y_13, y_14, y_15, y_16, j_17, hr_12_0, hr_12_1, hr_12_2, hr_12_3, hr_12_4, hr_12_5, kr_12_E, hP⟩ := hQ
          refine lv_lload_n hx hb dX12_newName_53 rfl (lv_at hl 0 rfl) ?_
          exact r_l hx hb hr hlocks dX12_newName_54 hS ⟨x_faultKind, x_faultPlace, y_13, y_14, y_15, y_16, j_17, by omega, by omega, by omega, by omega, by omega, by omega, by omega, by omega, by omega, by omega, kr_12_E, hP⟩
      · skip
        refine lv_aload_n hx hb dX12_newName_28 rfl (lv_at hl 0 rfl) ?_
        refine lv_iconst (v := mI 3) hx hb dX12_newName_29 rfl ?_
        refine lv_aload_n hx hb dX12_newName_30 rfl (lv_at hl 0 rfl) ?_
        refine rg_o_at hx hb hts hown hK hP uw_7_29 dX12_newName_31 ?_
        refine g_v (rDt hD) hS hA (g_V (own := "HideReaderModel") (As := [.int (mI 3), .int (mI x_at)]) (rest := []) hx hb hml hown hts hK hP (rDt hD) (kr_X12_fails (l := l) (D := D) (k := k) (by decide) (by omega) h_x_faultKind h_x_faultPlace) ck_X12_fails iv_X12_fails uw_8_38 (rv_o hK hP) rfl hl.1 rfl (Nat.le_of_ble_eq_true rfl) dX12_newName_34 ⟨Nat.le_of_ble_eq_true rfl, Nat.le_of_ble_eq_true rfl⟩ ⟨Nat.le_of_ble_eq_true rfl, Nat.le_of_ble_eq_true rfl⟩) (fun H locs hQ hS => ?_)
        obtain ⟨y_19, y_20, hr_18_0, hr_18_1, hr_18_2, hP⟩ := hQ
        refine lv_aload_n hx hb dX12_newName_37 rfl (lv_at hl 0 rfl) ?_
        refine rg_o_name hx hb hts hown hK hP uw_7_33 dX12_newName_38 ?_
        refine lv_lstore_n (lv' := [(2, .long n_name), (0, .ref (a 0)), (1, .int (mI p0))]) hx hb dX12_newName_41 rfl hl (by decide) rfl (fun ls hl => ?_)
        refine lv_aload_n hx hb dX12_newName_42 rfl (lv_at hl 1 rfl) ?_
        refine g_i (rDt hD) hS hA (g_V (own := "HideReaderModel") (As := []) (rest := []) hx hb hml hown hts hK hP (rDt hD) (kr_X12_isGood (l := l) (D := D) (k := k) (by omega)) ck_X12_isGood iv_X12_isGood uw_8_18 (rv_o hK hP) rfl hl.1 rfl (Nat.le_of_ble_eq_true rfl) dX12_newName_43 ⟨Nat.le_of_ble_eq_true rfl, Nat.le_of_ble_eq_true rfl⟩ ⟨Nat.le_of_ble_eq_true rfl, Nat.le_of_ble_eq_true rfl⟩) (fun r_21 H locs hQ hS => ?_)
        obtain ⟨hq_r_21, hP⟩ := hQ
        rcases hq_r_21 with ⟨rfl, c_22_0, c_22_1⟩ | ⟨rfl, c_23_0⟩
        · skip
          refine sy_if_eq (tgt := 53) hx hb dX12_newName_46 (by decide) (by decide) (fun c_24 => ?_) (fun c9 => absurd c9 (by decide))
          refine lv_lload_n hx hb dX12_newName_53 rfl (lv_at hl 0 rfl) ?_
          exact r_l hx hb hr hlocks dX12_newName_54 hS ⟨y_19, y_20, x_at, x_end, x_token, x_number, n_name, by omega, by omega, by omega, by omega, by omega, by omega, by omega, by omega, by omega, by omega, g_E, hP⟩
        exact False.elim (by omega)
    · skip
      refine lv_aload_n hx hb dX12_newName_17 rfl (lv_at hl 0 rfl) ?_
      refine g_v (rDt hD) hS hA (g_V (own := "HideReaderModel") (As := []) (rest := []) hx hb hml hown hts hK hP (rDt hD) (kr_X12_misplaced (l := l) (D := D) (k := k) h_x_faultKind h_x_faultPlace h_x_at h_x_token) ck_X12_misplaced iv_X12_misplaced uw_8_34 (rv_o hK hP) rfl hl.1 rfl (Nat.le_of_ble_eq_true rfl) dX12_newName_18 ⟨Nat.le_of_ble_eq_true rfl, Nat.le_of_ble_eq_true rfl⟩ ⟨Nat.le_of_ble_eq_true rfl, Nat.le_of_ble_eq_true rfl⟩) (fun H locs hQ hS => ?_)
      obtain ⟨y_26, y_27, hr_25_0, hr_25_1, hr_25_2, hP⟩ := hQ
      refine lv_goto (tgt := 37) hx hb dX12_newName_21 (by decide) ?_
      refine lv_aload_n hx hb dX12_newName_37 rfl (lv_at hl 0 rfl) ?_
      refine rg_o_name hx hb hts hown hK hP uw_7_33 dX12_newName_38 ?_
      refine lv_lstore_n (lv' := [(2, .long n_name), (0, .ref (a 0)), (1, .int (mI p0))]) hx hb dX12_newName_41 rfl hl (by decide) rfl (fun ls hl => ?_)
      refine lv_aload_n hx hb dX12_newName_42 rfl (lv_at hl 1 rfl) ?_
      refine g_i (rDt hD) hS hA (g_V (own := "HideReaderModel") (As := []) (rest := []) hx hb hml hown hts hK hP (rDt hD) (kr_X12_isGood (l := l) (D := D) (k := k) (by omega)) ck_X12_isGood iv_X12_isGood uw_8_18 (rv_o hK hP) rfl hl.1 rfl (Nat.le_of_ble_eq_true rfl) dX12_newName_43 ⟨Nat.le_of_ble_eq_true rfl, Nat.le_of_ble_eq_true rfl⟩ ⟨Nat.le_of_ble_eq_true rfl, Nat.le_of_ble_eq_true rfl⟩) (fun r_28 H locs hQ hS => ?_)
      obtain ⟨hq_r_28, hP⟩ := hQ
      rcases hq_r_28 with ⟨rfl, c_29_0, c_29_1⟩ | ⟨rfl, c_30_0⟩
      · skip
        refine sy_if_eq (tgt := 53) hx hb dX12_newName_46 (by decide) (by decide) (fun c_31 => ?_) (fun c9 => absurd c9 (by decide))
        refine lv_lload_n hx hb dX12_newName_53 rfl (lv_at hl 0 rfl) ?_
        exact r_l hx hb hr hlocks dX12_newName_54 hS ⟨y_26, y_27, x_at, x_end, x_token, x_number, n_name, by omega, by omega, by omega, by omega, by omega, by omega, by omega, by omega, by omega, by omega, g_E, hP⟩
      exact False.elim (by omega)
set_option maxHeartbeats 4000000 in
set_option maxRecDepth 100000 in
theorem kr_X12_here_o_bName {p1 p2 : Int} (hp1 : 0 ≤ p1 ∧ p1 ≤ 8) (hp2 : 0 ≤ p2 ∧ p2 ≤ 8) (h_x_token : 0 ≤ x_token ∧ x_token ≤ 5) : MetG l D k yX12_here cX12_here 5 (some .int) 0 [.ref (a 0), .ref (a 19), .int (mI p1), .int (mI p2)] (rW k a x_taped x_size x_faultKind x_faultPlace x_at x_end x_token x_number x_bank x_rb x_codes x_within x_piled x_unitsInRule x_askBeast x_askStroke x_askAge x_askSeason x_acts x_undone x_laid x_seens x_time x_fitting n_name B_tape B_text B_turns B_herds B_irons B_beasts B_units B_night B_draw B_told B_brands B_ironMarks B_herdTold B_born B_ruleFrom B_ruleTo B_code B_codeNumber B_eWhat B_eSign B_pile B_all B_burned B_was B_need B_laidRow B_long8 B_brings B_sBurning B_sStroke B_sIs B_sTold B_sUntold B_parts B_boxAll B_isBoxed G_hName G_iName G_bName ex) (qGi (fun r0 H => (-1 ≤ r0 ∧ r0 ≤ 7) ∧ va_P D vwCl (rW k a x_taped x_size x_faultKind x_faultPlace x_at x_end x_token x_number x_bank x_rb x_codes x_within x_piled x_unitsInRule x_askBeast x_askStroke x_askAge x_askSeason x_acts x_undone x_laid x_seens x_time x_fitting n_name B_tape B_text B_turns B_herds B_irons B_beasts B_units B_night B_draw B_told B_brands B_ironMarks B_herdTold B_born B_ruleFrom B_ruleTo B_code B_codeNumber B_eWhat B_eSign B_pile B_all B_burned B_was B_need B_laidRow B_long8 B_brings B_sBurning B_sStroke B_sIs B_sTold B_sUntold B_parts B_boxAll B_isBoxed G_hName G_iName G_bName ex) H)) := by
  refine metG_of 3 ck_X12_here (Nat.le_of_ble_eq_true rfl) rMap (fun p e s m args below meth c A hx hb hml hr hlocks hown hts hK hD hA hP hS ls hl => ?_)
  have hown : s.vm.findClass "HideReaderModel" = some m.cls := hown
  have hl : lv_has ls 5 [(0, .ref (a 0)), (1, .ref (a 19)), (2, .int (mI p1)), (3, .int (mI p2))] := hl
  refine lv_iconst (v := mI 0) hx hb dX12_here_0 rfl ?_
  refine lv_istore (lv' := [(4, .int (mI 0)), (0, .ref (a 0)), (1, .ref (a 19)), (2, .int (mI p1)), (3, .int (mI p2))]) hx hb dX12_here_1 hl (by decide) rfl (fun ls hl => ?_)
  refine sy_loop (I := fun n H locs g => ∃ (z_42 : Int) (ls : Array Slot), (0 ≤ z_42 ∧ z_42 ≤ 8) ∧ (8 - z_42).toNat = n ∧ va_P D vwCl (rW k a x_taped x_size x_faultKind x_faultPlace x_at x_end x_token x_number x_bank x_rb x_codes x_within x_piled x_unitsInRule x_askBeast x_askStroke x_askAge x_askSeason x_acts x_undone x_laid x_seens x_time x_fitting n_name B_tape B_text B_turns B_herds B_irons B_beasts B_units B_night B_draw B_told B_brands B_ironMarks B_herdTold B_born B_ruleFrom B_ruleTo B_code B_codeNumber B_eWhat B_eSign B_pile B_all B_burned B_was B_need B_laidRow B_long8 B_brings B_sBurning B_sStroke B_sIs B_sTold B_sUntold B_parts B_boxAll B_isBoxed G_hName G_iName G_bName ex) H ∧ va_S A s.heap H locs ∧ lv_has ls 5 [(4, .int (mI z_42)), (0, .ref (a 0)), (1, .ref (a 19)), (2, .int (mI p1)), (3, .int (mI p2))] ∧ g = F0 m 3 ls []) ?_ _ ⟨0, _, by omega, rfl, hP, hS, lv_sub hl [0, 1, 2, 3, 4] rfl, rfl⟩
  intro n_48 H locs g hI ih_49
  obtain ⟨z_42, ls, h3_0, mn_48, hP, hS, hl, rfl⟩ := hI
  refine lv_iload hx hb dX12_here_3 (lv_at hl 0 rfl) ?_
  refine lv_iload_n hx hb dX12_here_5 rfl (lv_at hl 4 rfl) ?_
  refine sy_icmp_ge (tgt := 40) hx hb dX12_here_6 (by decide) (by omega) (by omega) (fun c_50 => ?_) (fun c_50 => ?_)
  · skip
    refine lv_iconst (v := mI (-1)) hx hb dX12_here_40 rfl ?_
    exact r_i hx hb hr hlocks dX12_here_41 hS ⟨by omega, hP⟩
  · skip
    refine lv_aload_n hx hb dX12_here_9 rfl (lv_at hl 1 rfl) ?_
    refine rg_o_token hx hb hts hown hK hP uw_7_31 dX12_here_10 ?_
    refine lv_iconst (v := mI 2) hx hb dX12_here_13 rfl ?_
    refine sy_icmp_ne (tgt := 34) hx hb dX12_here_14 (by decide) (by omega) (by decide) (fun c_51 => ?_) (fun c_51 => ?_)
    · skip
      refine lv_iinc (v := mI (z_42 + 1)) (lv' := [(4, .int (mI (z_42 + 1))), (0, .ref (a 0)), (1, .ref (a 19)), (2, .int (mI p1)), (3, .int (mI p2))]) hx hb dX12_here_34 hl (k := 0) rfl (mI_ad rfl) (by decide) rfl (fun ls hl => ?_)
      refine lv_goto (tgt := 3) hx hb dX12_here_37 (by decide) ?_
      exact ih_49 _ _ _ _ (by omega) ⟨(z_42 + 1), _, by omega, rfl, hP, hS, lv_sub hl [0, 1, 2, 3, 4] rfl, rfl⟩
    · skip
      refine lv_aload_n hx hb dX12_here_17 rfl (lv_at hl 2 rfl) ?_
      refine lv_iload_n hx hb dX12_here_18 rfl (lv_at hl 3 rfl) ?_
      refine lv_iload hx hb dX12_here_19 (lv_at hl 0 rfl) ?_
      refine sy_iadd hx hb dX12_here_21 (p1 + z_42) rfl ?_
      refine rl_bName hx hb hK hP dX12_here_22 (by omega) (fun j_52 => ?_)
      refine lv_aload_n hx hb dX12_here_23 rfl (lv_at hl 1 rfl) ?_
      refine rg_o_name hx hb hts hown hK hP uw_7_33 dX12_here_24 ?_
      refine sy_lcmp hx hb dX12_here_27 (fun z_53 hz_53 => ?_)
      refine sy_if_ne (tgt := 34) hx hb dX12_here_28 (by decide) (by omega) (fun c_54 => ?_) (fun c_54 => ?_)
      · skip
        refine lv_iinc (v := mI (z_42 + 1)) (lv' := [(4, .int (mI (z_42 + 1))), (0, .ref (a 0)), (1, .ref (a 19)), (2, .int (mI p1)), (3, .int (mI p2))]) hx hb dX12_here_34 hl (k := 0) rfl (mI_ad rfl) (by decide) rfl (fun ls hl => ?_)
        refine lv_goto (tgt := 3) hx hb dX12_here_37 (by decide) ?_
        exact ih_49 _ _ _ _ (by omega) ⟨(z_42 + 1), _, by omega, rfl, hP, hS, lv_sub hl [0, 1, 2, 3, 4] rfl, rfl⟩
      · skip
        refine lv_iload hx hb dX12_here_31 (lv_at hl 0 rfl) ?_
        exact r_i hx hb hr hlocks dX12_here_33 hS ⟨by omega, hP⟩
set_option maxHeartbeats 4000000 in
set_option maxRecDepth 100000 in
theorem kr_X12_wordHere (h_x_token : 0 ≤ x_token ∧ x_token ≤ 5) : MetG l D k yX12_wordHere cX12_wordHere 1 (some .int) 1 [.ref (a 0)] (rW k a x_taped x_size x_faultKind x_faultPlace x_at x_end x_token x_number x_bank x_rb x_codes x_within x_piled x_unitsInRule x_askBeast x_askStroke x_askAge x_askSeason x_acts x_undone x_laid x_seens x_time x_fitting n_name B_tape B_text B_turns B_herds B_irons B_beasts B_units B_night B_draw B_told B_brands B_ironMarks B_herdTold B_born B_ruleFrom B_ruleTo B_code B_codeNumber B_eWhat B_eSign B_pile B_all B_burned B_was B_need B_laidRow B_long8 B_brings B_sBurning B_sStroke B_sIs B_sTold B_sUntold B_parts B_boxAll B_isBoxed G_hName G_iName G_bName ex) (qGi (fun r0 H => (0 ≤ r0 ∧ r0 ≤ 115) ∧ (r0 = 0 ∨ (97 ≤ r0 ∧ r0 ≤ 115 ∧ x_token = 3)) ∧ va_P D vwCl (rW k a x_taped x_size x_faultKind x_faultPlace x_at x_end x_token x_number x_bank x_rb x_codes x_within x_piled x_unitsInRule x_askBeast x_askStroke x_askAge x_askSeason x_acts x_undone x_laid x_seens x_time x_fitting n_name B_tape B_text B_turns B_herds B_irons B_beasts B_units B_night B_draw B_told B_brands B_ironMarks B_herdTold B_born B_ruleFrom B_ruleTo B_code B_codeNumber B_eWhat B_eSign B_pile B_all B_burned B_was B_need B_laidRow B_long8 B_brings B_sBurning B_sStroke B_sIs B_sTold B_sUntold B_parts B_boxAll B_isBoxed G_hName G_iName G_bName ex) H)) := by
  refine metG_of 0 ck_X12_wordHere (Nat.le_of_ble_eq_true rfl) rMap (fun p e s m args below meth c A hx hb hml hr hlocks hown hts hK hD hA hP hS ls hl => ?_)
  have hown : s.vm.findClass "HideReaderModel" = some m.cls := hown
  have hl : lv_has ls 1 [(0, .ref (a 0))] := hl
  refine lv_aload_n hx hb dX12_wordHere_0 rfl (lv_at hl 0 rfl) ?_
  refine lv_ldc2 (own := "HideReaderModel") (v := 6383461) hx hb hown (hts _ uw_8_5) dX12_wordHere_1 ?_
  refine g_i (rDt hD) hS hA (g_V (own := "HideReaderModel") (As := [.long 6383461]) (rest := []) hx hb hml hown hts hK hP (rDt hD) (kr_X12_isWord (l := l) (D := D) (k := k) h_x_token) ck_X12_isWord iv_X12_isWord uw_8_30 (rv_o hK hP) rfl hl.1 rfl (Nat.le_of_ble_eq_true rfl) dX12_wordHere_4 ⟨Nat.le_of_ble_eq_true rfl, Nat.le_of_ble_eq_true rfl⟩ ⟨Nat.le_of_ble_eq_true rfl, Nat.le_of_ble_eq_true rfl⟩) (fun r_1 H locs hQ hS => ?_)
  obtain ⟨hq_r_1, hP⟩ := hQ
  rcases hq_r_1 with ⟨rfl, c_2_0, c_2_1⟩ | ⟨rfl, c_3_0, c_3_1⟩
  · skip
    refine sy_if_eq (tgt := 13) hx hb dX12_wordHere_7 (by decide) (by decide) (fun c_4 => ?_) (fun c9 => absurd c9 (by decide))
    refine lv_aload_n hx hb dX12_wordHere_13 rfl (lv_at hl 0 rfl) ?_
    refine lv_ldc2 (own := "HideReaderModel") (v := 495588569715) hx hb hown (hts _ uw_8_6) dX12_wordHere_14 ?_
    refine g_i (rDt hD) hS hA (g_V (own := "HideReaderModel") (As := [.long 495588569715]) (rest := []) hx hb hml hown hts hK hP (rDt hD) (kr_X12_isWord (l := l) (D := D) (k := k) h_x_token) ck_X12_isWord iv_X12_isWord uw_8_30 (rv_o hK hP) rfl hl.1 rfl (Nat.le_of_ble_eq_true rfl) dX12_wordHere_17 ⟨Nat.le_of_ble_eq_true rfl, Nat.le_of_ble_eq_true rfl⟩ ⟨Nat.le_of_ble_eq_true rfl, Nat.le_of_ble_eq_true rfl⟩) (fun r_5 H locs hQ hS => ?_)
    obtain ⟨hq_r_5, hP⟩ := hQ
    rcases hq_r_5 with ⟨rfl, c_6_0, c_6_1⟩ | ⟨rfl, c_7_0, c_7_1⟩
    · skip
      refine sy_if_eq (tgt := 26) hx hb dX12_wordHere_20 (by decide) (by decide) (fun c_8 => ?_) (fun c9 => absurd c9 (by decide))
      refine lv_aload_n hx hb dX12_wordHere_26 rfl (lv_at hl 0 rfl) ?_
      refine lv_ldc2 (own := "HideReaderModel") (v := 126943973305189) hx hb hown (hts _ uw_8_7) dX12_wordHere_27 ?_
      refine g_i (rDt hD) hS hA (g_V (own := "HideReaderModel") (As := [.long 126943973305189]) (rest := []) hx hb hml hown hts hK hP (rDt hD) (kr_X12_isWord (l := l) (D := D) (k := k) h_x_token) ck_X12_isWord iv_X12_isWord uw_8_30 (rv_o hK hP) rfl hl.1 rfl (Nat.le_of_ble_eq_true rfl) dX12_wordHere_30 ⟨Nat.le_of_ble_eq_true rfl, Nat.le_of_ble_eq_true rfl⟩ ⟨Nat.le_of_ble_eq_true rfl, Nat.le_of_ble_eq_true rfl⟩) (fun r_9 H locs hQ hS => ?_)
      obtain ⟨hq_r_9, hP⟩ := hQ
      rcases hq_r_9 with ⟨rfl, c_10_0, c_10_1⟩ | ⟨rfl, c_11_0, c_11_1⟩
      · skip
        refine sy_if_eq (tgt := 39) hx hb dX12_wordHere_33 (by decide) (by decide) (fun c_12 => ?_) (fun c9 => absurd c9 (by decide))
        refine lv_aload_n hx hb dX12_wordHere_39 rfl (lv_at hl 0 rfl) ?_
        refine lv_ldc2 (own := "HideReaderModel") (v := 1651470958) hx hb hown (hts _ uw_8_1) dX12_wordHere_40 ?_
        refine g_i (rDt hD) hS hA (g_V (own := "HideReaderModel") (As := [.long 1651470958]) (rest := []) hx hb hml hown hts hK hP (rDt hD) (kr_X12_isWord (l := l) (D := D) (k := k) h_x_token) ck_X12_isWord iv_X12_isWord uw_8_30 (rv_o hK hP) rfl hl.1 rfl (Nat.le_of_ble_eq_true rfl) dX12_wordHere_43 ⟨Nat.le_of_ble_eq_true rfl, Nat.le_of_ble_eq_true rfl⟩ ⟨Nat.le_of_ble_eq_true rfl, Nat.le_of_ble_eq_true rfl⟩) (fun r_13 H locs hQ hS => ?_)
        obtain ⟨hq_r_13, hP⟩ := hQ
        rcases hq_r_13 with ⟨rfl, c_14_0, c_14_1⟩ | ⟨rfl, c_15_0, c_15_1⟩
        · skip
          refine sy_if_eq (tgt := 52) hx hb dX12_wordHere_46 (by decide) (by decide) (fun c_16 => ?_) (fun c9 => absurd c9 (by decide))
          refine lv_aload_n hx hb dX12_wordHere_52 rfl (lv_at hl 0 rfl) ?_
          refine lv_ldc2 (own := "HideReaderModel") (v := 126879263846254) hx hb hown (hts _ uw_8_8) dX12_wordHere_53 ?_
          refine g_i (rDt hD) hS hA (g_V (own := "HideReaderModel") (As := [.long 126879263846254]) (rest := []) hx hb hml hown hts hK hP (rDt hD) (kr_X12_isWord (l := l) (D := D) (k := k) h_x_token) ck_X12_isWord iv_X12_isWord uw_8_30 (rv_o hK hP) rfl hl.1 rfl (Nat.le_of_ble_eq_true rfl) dX12_wordHere_56 ⟨Nat.le_of_ble_eq_true rfl, Nat.le_of_ble_eq_true rfl⟩ ⟨Nat.le_of_ble_eq_true rfl, Nat.le_of_ble_eq_true rfl⟩) (fun r_17 H locs hQ hS => ?_)
          obtain ⟨hq_r_17, hP⟩ := hQ
          rcases hq_r_17 with ⟨rfl, c_18_0, c_18_1⟩ | ⟨rfl, c_19_0, c_19_1⟩
          · skip
            refine sy_if_eq (tgt := 67) hx hb dX12_wordHere_59 (by decide) (by decide) (fun c_20 => ?_) (fun c9 => absurd c9 (by decide))
            refine lv_iconst (v := mI 0) hx hb dX12_wordHere_67 rfl ?_
            exact r_i hx hb hr hlocks dX12_wordHere_68 hS ⟨by omega, by omega, hP⟩
          · skip
            refine sy_if_eq (tgt := 67) hx hb dX12_wordHere_59 (by decide) (by decide) (fun c9 => absurd c9 (by decide)) (fun c_21 => ?_)
            refine lv_bipush (v := mI 115) hx hb dX12_wordHere_62 (by decide) ?_
            refine lv_goto (tgt := 68) hx hb dX12_wordHere_64 (by decide) ?_
            exact r_i hx hb hr hlocks dX12_wordHere_68 hS ⟨by omega, by omega, hP⟩
        · skip
          refine sy_if_eq (tgt := 52) hx hb dX12_wordHere_46 (by decide) (by decide) (fun c9 => absurd c9 (by decide)) (fun c_22 => ?_)
          refine lv_bipush (v := mI 98) hx hb dX12_wordHere_49 (by decide) ?_
          exact r_i hx hb hr hlocks dX12_wordHere_51 hS ⟨by omega, by omega, hP⟩
      · skip
        refine sy_if_eq (tgt := 39) hx hb dX12_wordHere_33 (by decide) (by decide) (fun c9 => absurd c9 (by decide)) (fun c_23 => ?_)
        refine lv_bipush (v := mI 107) hx hb dX12_wordHere_36 (by decide) ?_
        exact r_i hx hb hr hlocks dX12_wordHere_38 hS ⟨by omega, by omega, hP⟩
    · skip
      refine sy_if_eq (tgt := 26) hx hb dX12_wordHere_20 (by decide) (by decide) (fun c9 => absurd c9 (by decide)) (fun c_24 => ?_)
      refine lv_bipush (v := mI 99) hx hb dX12_wordHere_23 (by decide) ?_
      exact r_i hx hb hr hlocks dX12_wordHere_25 hS ⟨by omega, by omega, hP⟩
  · skip
    refine sy_if_eq (tgt := 13) hx hb dX12_wordHere_7 (by decide) (by decide) (fun c9 => absurd c9 (by decide)) (fun c_25 => ?_)
    refine lv_bipush (v := mI 97) hx hb dX12_wordHere_10 (by decide) ?_
    exact r_i hx hb hr hlocks dX12_wordHere_12 hS ⟨by omega, by omega, hP⟩
set_option maxHeartbeats 4000000 in
set_option maxRecDepth 100000 in
theorem kr_X12_rankHere (h_x_size : 0 ≤ x_size ∧ x_size ≤ 1600) (h_x_at : 0 ≤ x_at ∧ x_at ≤ 1600) (h_x_token : 0 ≤ x_token ∧ x_token ≤ 5) (b_B_text : bd (-128) 127 B_text) : MetG l D k yX12_rankHere cX12_rankHere 1 (some .int) 2 [.ref (a 0)] (rW k a x_taped x_size x_faultKind x_faultPlace x_at x_end x_token x_number x_bank x_rb x_codes x_within x_piled x_unitsInRule x_askBeast x_askStroke x_askAge x_askSeason x_acts x_undone x_laid x_seens x_time x_fitting n_name B_tape B_text B_turns B_herds B_irons B_beasts B_units B_night B_draw B_told B_brands B_ironMarks B_herdTold B_born B_ruleFrom B_ruleTo B_code B_codeNumber B_eWhat B_eSign B_pile B_all B_burned B_was B_need B_laidRow B_long8 B_brings B_sBurning B_sStroke B_sIs B_sTold B_sUntold B_parts B_boxAll B_isBoxed G_hName G_iName G_bName ex) (qGi (fun r0 H => (0 ≤ r0 ∧ r0 ≤ 6) ∧ (¬ r0 = 3) ∧ (r0 ≤ 3 ∨ (37 ≤ rSg B_text x_size x_at ∧ rSg B_text x_size x_at ≤ 62)) ∧ (r0 ≤ 0 ∨ 1 ≤ x_token) ∧ va_P D vwCl (rW k a x_taped x_size x_faultKind x_faultPlace x_at x_end x_token x_number x_bank x_rb x_codes x_within x_piled x_unitsInRule x_askBeast x_askStroke x_askAge x_askSeason x_acts x_undone x_laid x_seens x_time x_fitting n_name B_tape B_text B_turns B_herds B_irons B_beasts B_units B_night B_draw B_told B_brands B_ironMarks B_herdTold B_born B_ruleFrom B_ruleTo B_code B_codeNumber B_eWhat B_eSign B_pile B_all B_burned B_was B_need B_laidRow B_long8 B_brings B_sBurning B_sStroke B_sIs B_sTold B_sUntold B_parts B_boxAll B_isBoxed G_hName G_iName G_bName ex) H)) := by
  refine metG_of 0 ck_X12_rankHere (Nat.le_of_ble_eq_true rfl) rMap (fun p e s m args below meth c A hx hb hml hr hlocks hown hts hK hD hA hP hS ls hl => ?_)
  have hown : s.vm.findClass "HideReaderModel" = some m.cls := hown
  have hl : lv_has ls 1 [(0, .ref (a 0))] := hl
  refine lv_aload_n hx hb dX12_rankHere_0 rfl (lv_at hl 0 rfl) ?_
  refine lv_ldc2 (own := "HideReaderModel") (v := 6385252) hx hb hown (hts _ uw_8_10) dX12_rankHere_1 ?_
  refine g_i (rDt hD) hS hA (g_V (own := "HideReaderModel") (As := [.long 6385252]) (rest := []) hx hb hml hown hts hK hP (rDt hD) (kr_X12_isWord (l := l) (D := D) (k := k) h_x_token) ck_X12_isWord iv_X12_isWord uw_8_30 (rv_o hK hP) rfl hl.1 rfl (Nat.le_of_ble_eq_true rfl) dX12_rankHere_4 ⟨Nat.le_of_ble_eq_true rfl, Nat.le_of_ble_eq_true rfl⟩ ⟨Nat.le_of_ble_eq_true rfl, Nat.le_of_ble_eq_true rfl⟩) (fun r_1 H locs hQ hS => ?_)
  obtain ⟨hq_r_1, hP⟩ := hQ
  rcases hq_r_1 with ⟨rfl, c_2_0, c_2_1⟩ | ⟨rfl, c_3_0, c_3_1⟩
  · skip
    refine sy_if_eq (tgt := 12) hx hb dX12_rankHere_7 (by decide) (by decide) (fun c_4 => ?_) (fun c9 => absurd c9 (by decide))
    refine lv_aload_n hx hb dX12_rankHere_12 rfl (lv_at hl 0 rfl) ?_
    refine lv_ldc2 (own := "HideReaderModel") (v := 28530) hx hb hown (hts _ uw_8_9) dX12_rankHere_13 ?_
    refine g_i (rDt hD) hS hA (g_V (own := "HideReaderModel") (As := [.long 28530]) (rest := []) hx hb hml hown hts hK hP (rDt hD) (kr_X12_isWord (l := l) (D := D) (k := k) h_x_token) ck_X12_isWord iv_X12_isWord uw_8_30 (rv_o hK hP) rfl hl.1 rfl (Nat.le_of_ble_eq_true rfl) dX12_rankHere_16 ⟨Nat.le_of_ble_eq_true rfl, Nat.le_of_ble_eq_true rfl⟩ ⟨Nat.le_of_ble_eq_true rfl, Nat.le_of_ble_eq_true rfl⟩) (fun r_5 H locs hQ hS => ?_)
    obtain ⟨hq_r_5, hP⟩ := hQ
    rcases hq_r_5 with ⟨rfl, c_6_0, c_6_1⟩ | ⟨rfl, c_7_0, c_7_1⟩
    · skip
      refine sy_if_eq (tgt := 24) hx hb dX12_rankHere_19 (by decide) (by decide) (fun c_8 => ?_) (fun c9 => absurd c9 (by decide))
      refine lv_aload_n hx hb dX12_rankHere_24 rfl (lv_at hl 0 rfl) ?_
      refine lv_bipush (v := mI 60) hx hb dX12_rankHere_25 (by decide) ?_
      refine g_i (rDt hD) hS hA (g_V (own := "HideReaderModel") (As := [.int (mI 60)]) (rest := []) hx hb hml hown hts hK hP (rDt hD) (kr_X12_isSignHere (l := l) (D := D) (k := k) (by decide) h_x_size h_x_at h_x_token b_B_text) ck_X12_isSignHere iv_X12_isSignHere uw_8_90 (rv_o hK hP) rfl hl.1 rfl (Nat.le_of_ble_eq_true rfl) dX12_rankHere_27 ⟨Nat.le_of_ble_eq_true rfl, Nat.le_of_ble_eq_true rfl⟩ ⟨Nat.le_of_ble_eq_true rfl, Nat.le_of_ble_eq_true rfl⟩) (fun r_9 H locs hQ hS => ?_)
      obtain ⟨hq_r_9, hP⟩ := hQ
      rcases hq_r_9 with ⟨rfl, c_10_0⟩ | ⟨rfl, c_11_0, c_11_1, c_11_2⟩
      · skip
        refine sy_if_ne (tgt := 51) hx hb dX12_rankHere_30 (by decide) (by decide) (fun c9 => absurd c9 (by decide)) (fun c_12 => ?_)
        refine lv_aload_n hx hb dX12_rankHere_33 rfl (lv_at hl 0 rfl) ?_
        refine lv_bipush (v := mI 62) hx hb dX12_rankHere_34 (by decide) ?_
        refine g_i (rDt hD) hS hA (g_V (own := "HideReaderModel") (As := [.int (mI 62)]) (rest := []) hx hb hml hown hts hK hP (rDt hD) (kr_X12_isSignHere (l := l) (D := D) (k := k) (by decide) h_x_size h_x_at h_x_token b_B_text) ck_X12_isSignHere iv_X12_isSignHere uw_8_90 (rv_o hK hP) rfl hl.1 rfl (Nat.le_of_ble_eq_true rfl) dX12_rankHere_36 ⟨Nat.le_of_ble_eq_true rfl, Nat.le_of_ble_eq_true rfl⟩ ⟨Nat.le_of_ble_eq_true rfl, Nat.le_of_ble_eq_true rfl⟩) (fun r_13 H locs hQ hS => ?_)
        obtain ⟨hq_r_13, hP⟩ := hQ
        rcases hq_r_13 with ⟨rfl, c_14_0⟩ | ⟨rfl, c_15_0, c_15_1, c_15_2⟩
        · skip
          refine sy_if_ne (tgt := 51) hx hb dX12_rankHere_39 (by decide) (by decide) (fun c9 => absurd c9 (by decide)) (fun c_16 => ?_)
          refine lv_aload_n hx hb dX12_rankHere_42 rfl (lv_at hl 0 rfl) ?_
          refine lv_bipush (v := mI 61) hx hb dX12_rankHere_43 (by decide) ?_
          refine g_i (rDt hD) hS hA (g_V (own := "HideReaderModel") (As := [.int (mI 61)]) (rest := []) hx hb hml hown hts hK hP (rDt hD) (kr_X12_isSignHere (l := l) (D := D) (k := k) (by decide) h_x_size h_x_at h_x_token b_B_text) ck_X12_isSignHere iv_X12_isSignHere uw_8_90 (rv_o hK hP) rfl hl.1 rfl (Nat.le_of_ble_eq_true rfl) dX12_rankHere_45 ⟨Nat.le_of_ble_eq_true rfl, Nat.le_of_ble_eq_true rfl⟩ ⟨Nat.le_of_ble_eq_true rfl, Nat.le_of_ble_eq_true rfl⟩) (fun r_17 H locs hQ hS => ?_)
          obtain ⟨hq_r_17, hP⟩ := hQ
          rcases hq_r_17 with ⟨rfl, c_18_0⟩ | ⟨rfl, c_19_0, c_19_1, c_19_2⟩
          · skip
            refine sy_if_eq (tgt := 53) hx hb dX12_rankHere_48 (by decide) (by decide) (fun c_20 => ?_) (fun c9 => absurd c9 (by decide))
            refine lv_aload_n hx hb dX12_rankHere_53 rfl (lv_at hl 0 rfl) ?_
            refine lv_bipush (v := mI 43) hx hb dX12_rankHere_54 (by decide) ?_
            refine g_i (rDt hD) hS hA (g_V (own := "HideReaderModel") (As := [.int (mI 43)]) (rest := []) hx hb hml hown hts hK hP (rDt hD) (kr_X12_isSignHere (l := l) (D := D) (k := k) (by decide) h_x_size h_x_at h_x_token b_B_text) ck_X12_isSignHere iv_X12_isSignHere uw_8_90 (rv_o hK hP) rfl hl.1 rfl (Nat.le_of_ble_eq_true rfl) dX12_rankHere_56 ⟨Nat.le_of_ble_eq_true rfl, Nat.le_of_ble_eq_true rfl⟩ ⟨Nat.le_of_ble_eq_true rfl, Nat.le_of_ble_eq_true rfl⟩) (fun r_21 H locs hQ hS => ?_)
            obtain ⟨hq_r_21, hP⟩ := hQ
            rcases hq_r_21 with ⟨rfl, c_22_0⟩ | ⟨rfl, c_23_0, c_23_1, c_23_2⟩
            · skip
              refine sy_if_ne (tgt := 71) hx hb dX12_rankHere_59 (by decide) (by decide) (fun c9 => absurd c9 (by decide)) (fun c_24 => ?_)
              refine lv_aload_n hx hb dX12_rankHere_62 rfl (lv_at hl 0 rfl) ?_
              refine lv_bipush (v := mI 45) hx hb dX12_rankHere_63 (by decide) ?_
              refine g_i (rDt hD) hS hA (g_V (own := "HideReaderModel") (As := [.int (mI 45)]) (rest := []) hx hb hml hown hts hK hP (rDt hD) (kr_X12_isSignHere (l := l) (D := D) (k := k) (by decide) h_x_size h_x_at h_x_token b_B_text) ck_X12_isSignHere iv_X12_isSignHere uw_8_90 (rv_o hK hP) rfl hl.1 rfl (Nat.le_of_ble_eq_true rfl) dX12_rankHere_65 ⟨Nat.le_of_ble_eq_true rfl, Nat.le_of_ble_eq_true rfl⟩ ⟨Nat.le_of_ble_eq_true rfl, Nat.le_of_ble_eq_true rfl⟩) (fun r_25 H locs hQ hS => ?_)
              obtain ⟨hq_r_25, hP⟩ := hQ
              rcases hq_r_25 with ⟨rfl, c_26_0⟩ | ⟨rfl, c_27_0, c_27_1, c_27_2⟩
              · skip
                refine sy_if_eq (tgt := 73) hx hb dX12_rankHere_68 (by decide) (by decide) (fun c_28 => ?_) (fun c9 => absurd c9 (by decide))
                refine lv_aload_n hx hb dX12_rankHere_73 rfl (lv_at hl 0 rfl) ?_
                refine lv_bipush (v := mI 42) hx hb dX12_rankHere_74 (by decide) ?_
                refine g_i (rDt hD) hS hA (g_V (own := "HideReaderModel") (As := [.int (mI 42)]) (rest := []) hx hb hml hown hts hK hP (rDt hD) (kr_X12_isSignHere (l := l) (D := D) (k := k) (by decide) h_x_size h_x_at h_x_token b_B_text) ck_X12_isSignHere iv_X12_isSignHere uw_8_90 (rv_o hK hP) rfl hl.1 rfl (Nat.le_of_ble_eq_true rfl) dX12_rankHere_76 ⟨Nat.le_of_ble_eq_true rfl, Nat.le_of_ble_eq_true rfl⟩ ⟨Nat.le_of_ble_eq_true rfl, Nat.le_of_ble_eq_true rfl⟩) (fun r_29 H locs hQ hS => ?_)
                obtain ⟨hq_r_29, hP⟩ := hQ
                rcases hq_r_29 with ⟨rfl, c_30_0⟩ | ⟨rfl, c_31_0, c_31_1, c_31_2⟩
                · skip
                  refine sy_if_ne (tgt := 100) hx hb dX12_rankHere_79 (by decide) (by decide) (fun c9 => absurd c9 (by decide)) (fun c_32 => ?_)
                  refine lv_aload_n hx hb dX12_rankHere_82 rfl (lv_at hl 0 rfl) ?_
                  refine lv_bipush (v := mI 47) hx hb dX12_rankHere_83 (by decide) ?_
                  refine g_i (rDt hD) hS hA (g_V (own := "HideReaderModel") (As := [.int (mI 47)]) (rest := []) hx hb hml hown hts hK hP (rDt hD) (kr_X12_isSignHere (l := l) (D := D) (k := k) (by decide) h_x_size h_x_at h_x_token b_B_text) ck_X12_isSignHere iv_X12_isSignHere uw_8_90 (rv_o hK hP) rfl hl.1 rfl (Nat.le_of_ble_eq_true rfl) dX12_rankHere_85 ⟨Nat.le_of_ble_eq_true rfl, Nat.le_of_ble_eq_true rfl⟩ ⟨Nat.le_of_ble_eq_true rfl, Nat.le_of_ble_eq_true rfl⟩) (fun r_33 H locs hQ hS => ?_)
                  obtain ⟨hq_r_33, hP⟩ := hQ
                  rcases hq_r_33 with ⟨rfl, c_34_0⟩ | ⟨rfl, c_35_0, c_35_1, c_35_2⟩
                  · skip
                    refine sy_if_ne (tgt := 100) hx hb dX12_rankHere_88 (by decide) (by decide) (fun c9 => absurd c9 (by decide)) (fun c_36 => ?_)
                    refine lv_aload_n hx hb dX12_rankHere_91 rfl (lv_at hl 0 rfl) ?_
                    refine lv_bipush (v := mI 37) hx hb dX12_rankHere_92 (by decide) ?_
                    refine g_i (rDt hD) hS hA (g_V (own := "HideReaderModel") (As := [.int (mI 37)]) (rest := []) hx hb hml hown hts hK hP (rDt hD) (kr_X12_isSignHere (l := l) (D := D) (k := k) (by decide) h_x_size h_x_at h_x_token b_B_text) ck_X12_isSignHere iv_X12_isSignHere uw_8_90 (rv_o hK hP) rfl hl.1 rfl (Nat.le_of_ble_eq_true rfl) dX12_rankHere_94 ⟨Nat.le_of_ble_eq_true rfl, Nat.le_of_ble_eq_true rfl⟩ ⟨Nat.le_of_ble_eq_true rfl, Nat.le_of_ble_eq_true rfl⟩) (fun r_37 H locs hQ hS => ?_)
                    obtain ⟨hq_r_37, hP⟩ := hQ
                    rcases hq_r_37 with ⟨rfl, c_38_0⟩ | ⟨rfl, c_39_0, c_39_1, c_39_2⟩
                    · skip
                      refine sy_if_eq (tgt := 105) hx hb dX12_rankHere_97 (by decide) (by decide) (fun c_40 => ?_) (fun c9 => absurd c9 (by decide))
                      refine lv_iconst (v := mI 0) hx hb dX12_rankHere_105 rfl ?_
                      exact r_i hx hb hr hlocks dX12_rankHere_106 hS ⟨by omega, by omega, by omega, by omega, hP⟩
                    · skip
                      refine sy_if_eq (tgt := 105) hx hb dX12_rankHere_97 (by decide) (by decide) (fun c9 => absurd c9 (by decide)) (fun c_41 => ?_)
                      refine lv_bipush (v := mI 6) hx hb dX12_rankHere_100 (by decide) ?_
                      refine lv_goto (tgt := 106) hx hb dX12_rankHere_102 (by decide) ?_
                      exact r_i hx hb hr hlocks dX12_rankHere_106 hS ⟨by omega, by omega, by omega, by omega, hP⟩
                  · skip
                    refine sy_if_ne (tgt := 100) hx hb dX12_rankHere_88 (by decide) (by decide) (fun c_42 => ?_) (fun c9 => absurd c9 (by decide))
                    refine lv_bipush (v := mI 6) hx hb dX12_rankHere_100 (by decide) ?_
                    refine lv_goto (tgt := 106) hx hb dX12_rankHere_102 (by decide) ?_
                    exact r_i hx hb hr hlocks dX12_rankHere_106 hS ⟨by omega, by omega, by omega, by omega, hP⟩
                · skip
                  refine sy_if_ne (tgt := 100) hx hb dX12_rankHere_79 (by decide) (by decide) (fun c_43 => ?_) (fun c9 => absurd c9 (by decide))
                  refine lv_bipush (v := mI 6) hx hb dX12_rankHere_100 (by decide) ?_
                  refine lv_goto (tgt := 106) hx hb dX12_rankHere_102 (by decide) ?_
                  exact r_i hx hb hr hlocks dX12_rankHere_106 hS ⟨by omega, by omega, by omega, by omega, hP⟩
              · skip
                refine sy_if_eq (tgt := 73) hx hb dX12_rankHere_68 (by decide) (by decide) (fun c9 => absurd c9 (by decide)) (fun c_44 => ?_)
                refine lv_iconst (v := mI 5) hx hb dX12_rankHere_71 rfl ?_
                exact r_i hx hb hr hlocks dX12_rankHere_72 hS ⟨by omega, by omega, by omega, by omega, hP⟩
            · skip
              refine sy_if_ne (tgt := 71) hx hb dX12_rankHere_59 (by decide) (by decide) (fun c_45 => ?_) (fun c9 => absurd c9 (by decide))
              refine lv_iconst (v := mI 5) hx hb dX12_rankHere_71 rfl ?_
              exact r_i hx hb hr hlocks dX12_rankHere_72 hS ⟨by omega, by omega, by omega, by omega, hP⟩
          · skip
            refine sy_if_eq (tgt := 53) hx hb dX12_rankHere_48 (by decide) (by decide) (fun c9 => absurd c9 (by decide)) (fun c_46 => ?_)
            refine lv_iconst (v := mI 4) hx hb dX12_rankHere_51 rfl ?_
            exact r_i hx hb hr hlocks dX12_rankHere_52 hS ⟨by omega, by omega, by omega, by omega, hP⟩
        · skip
          refine sy_if_ne (tgt := 51) hx hb dX12_rankHere_39 (by decide) (by decide) (fun c_47 => ?_) (fun c9 => absurd c9 (by decide))
          refine lv_iconst (v := mI 4) hx hb dX12_rankHere_51 rfl ?_
          exact r_i hx hb hr hlocks dX12_rankHere_52 hS ⟨by omega, by omega, by omega, by omega, hP⟩
      · skip
        refine sy_if_ne (tgt := 51) hx hb dX12_rankHere_30 (by decide) (by decide) (fun c_48 => ?_) (fun c9 => absurd c9 (by decide))
        refine lv_iconst (v := mI 4) hx hb dX12_rankHere_51 rfl ?_
        exact r_i hx hb hr hlocks dX12_rankHere_52 hS ⟨by omega, by omega, by omega, by omega, hP⟩
    · skip
      refine sy_if_eq (tgt := 24) hx hb dX12_rankHere_19 (by decide) (by decide) (fun c9 => absurd c9 (by decide)) (fun c_49 => ?_)
      refine lv_iconst (v := mI 1) hx hb dX12_rankHere_22 rfl ?_
      exact r_i hx hb hr hlocks dX12_rankHere_23 hS ⟨by omega, by omega, by omega, by omega, hP⟩
  · skip
    refine sy_if_eq (tgt := 12) hx hb dX12_rankHere_7 (by decide) (by decide) (fun c9 => absurd c9 (by decide)) (fun c_50 => ?_)
    refine lv_iconst (v := mI 2) hx hb dX12_rankHere_10 rfl ?_
    exact r_i hx hb hr hlocks dX12_rankHere_11 hS ⟨by omega, by omega, by omega, by omega, hP⟩
set_option maxHeartbeats 4000000 in
set_option maxRecDepth 100000 in
theorem kr_X12_two {p0 p1 p2 : Int} (hp0 : -2147483648 ≤ p0 ∧ p0 ≤ 2147483647) (hp1 : -2147483648 ≤ p1 ∧ p1 ≤ 2147483647) (hp2 : -2147483648 ≤ p2 ∧ p2 ≤ 2147483647) : MetG l D k yX12_two cX12_two 3 (some .int) 0 [.int (mI p0), .int (mI p1), .int (mI p2)] (rW k a x_taped x_size x_faultKind x_faultPlace x_at x_end x_token x_number x_bank x_rb x_codes x_within x_piled x_unitsInRule x_askBeast x_askStroke x_askAge x_askSeason x_acts x_undone x_laid x_seens x_time x_fitting n_name B_tape B_text B_turns B_herds B_irons B_beasts B_units B_night B_draw B_told B_brands B_ironMarks B_herdTold B_born B_ruleFrom B_ruleTo B_code B_codeNumber B_eWhat B_eSign B_pile B_all B_burned B_was B_need B_laidRow B_long8 B_brings B_sBurning B_sStroke B_sIs B_sTold B_sUntold B_parts B_boxAll B_isBoxed G_hName G_iName G_bName ex) (qGi (fun r0 H => (-2147483648 ≤ r0 ∧ r0 ≤ 2147483647) ∧ va_P D vwCl (rW k a x_taped x_size x_faultKind x_faultPlace x_at x_end x_token x_number x_bank x_rb x_codes x_within x_piled x_unitsInRule x_askBeast x_askStroke x_askAge x_askSeason x_acts x_undone x_laid x_seens x_time x_fitting n_name B_tape B_text B_turns B_herds B_irons B_beasts B_units B_night B_draw B_told B_brands B_ironMarks B_herdTold B_born B_ruleFrom B_ruleTo B_code B_codeNumber B_eWhat B_eSign B_pile B_all B_burned B_was B_need B_laidRow B_long8 B_brings B_sBurning B_sStroke B_sIs B_sTold B_sUntold B_parts B_boxAll B_isBoxed G_hName G_iName G_bName ex) H)) := by
  refine metG_of 3 ck_X12_two (Nat.le_of_ble_eq_true rfl) rMap (fun p e s m args below meth c A hx hb hml hr hlocks hown hts hK hD hA hP hS ls hl => ?_)
  have hown : s.vm.findClass "HideReaderModel" = some m.cls := hown
  have hl : lv_has ls 3 [(0, .int (mI p0)), (1, .int (mI p1)), (2, .int (mI p2))] := hl
  refine lv_iload_n hx hb dX12_two_0 rfl (lv_at hl 0 rfl) ?_
  rcases (by omega : (p0 < 37 ∨ 62 < p0) ∨ p0 = 37 ∨ p0 = 38 ∨ p0 = 39 ∨ p0 = 40 ∨ p0 = 41 ∨ p0 = 42 ∨ p0 = 43 ∨ p0 = 44 ∨ p0 = 45 ∨ p0 = 46 ∨ p0 = 47 ∨ p0 = 48 ∨ p0 = 49 ∨ p0 = 50 ∨ p0 = 51 ∨ p0 = 52 ∨ p0 = 53 ∨ p0 = 54 ∨ p0 = 55 ∨ p0 = 56 ∨ p0 = 57 ∨ p0 = 58 ∨ p0 = 59 ∨ p0 = 60 ∨ p0 = 61 ∨ p0 = 62) with c_1 | c_1 | c_1 | c_1 | c_1 | c_1 | c_1 | c_1 | c_1 | c_1 | c_1 | c_1 | c_1 | c_1 | c_1 | c_1 | c_1 | c_1 | c_1 | c_1 | c_1 | c_1 | c_1 | c_1 | c_1 | c_1 | c_1
  · skip
    refine sy_tableOut (tgt := 203) hx hb dX12_two_1 (by omega) c_1 (by decide) ?_
    refine lv_iload_n hx hb dX12_two_203 rfl (lv_at hl 1 rfl) ?_
    refine sy_if_ne (tgt := 211) hx hb dX12_two_204 (by decide) (by omega) (fun c_2 => ?_) (fun c_2 => ?_)
    · skip
      refine lv_iconst (v := mI 1) hx hb dX12_two_211 rfl ?_
      refine lv_goto (tgt := 216) hx hb dX12_two_212 (by decide) ?_
      exact r_i hx hb hr hlocks dX12_two_216 hS ⟨by omega, hP⟩
    · skip
      refine lv_iload_n hx hb dX12_two_207 rfl (lv_at hl 2 rfl) ?_
      refine sy_if_eq (tgt := 215) hx hb dX12_two_208 (by decide) (by omega) (fun c_3 => ?_) (fun c_3 => ?_)
      · skip
        refine lv_iconst (v := mI 0) hx hb dX12_two_215 rfl ?_
        exact r_i hx hb hr hlocks dX12_two_216 hS ⟨by omega, hP⟩
      · skip
        refine lv_iconst (v := mI 1) hx hb dX12_two_211 rfl ?_
        refine lv_goto (tgt := 216) hx hb dX12_two_212 (by decide) ?_
        exact r_i hx hb hr hlocks dX12_two_216 hS ⟨by omega, hP⟩
  · skip
    refine sy_tableIn (tgt := 144) hx hb dX12_two_1 37 c_1 (by decide) rfl (by decide) ?_
    refine lv_iload_n hx hb dX12_two_144 rfl (lv_at hl 2 rfl) ?_
    refine sy_if_ne (tgt := 152) hx hb dX12_two_145 (by decide) (by omega) (fun c_4 => ?_) (fun c_4 => ?_)
    · skip
      refine lv_iload_n hx hb dX12_two_152 rfl (lv_at hl 1 rfl) ?_
      refine lv_iload_n hx hb dX12_two_153 rfl (lv_at hl 2 rfl) ?_
      refine lv_irem hx hb dX12_two_154 (mI_ne0 (by omega) (by omega)) ?_
      refine sy_any (fun z_5 hz_5 => ?_)
      exact r_i hx hb hr hlocks dX12_two_155 hS ⟨by omega, hP⟩
    · skip
      refine lv_iconst (v := mI 0) hx hb dX12_two_148 rfl ?_
      refine lv_goto (tgt := 155) hx hb dX12_two_149 (by decide) ?_
      exact r_i hx hb hr hlocks dX12_two_155 hS ⟨by omega, hP⟩
  · skip
    refine sy_tableIn (tgt := 189) hx hb dX12_two_1 38 c_1 (by decide) rfl (by decide) ?_
    refine lv_iload_n hx hb dX12_two_189 rfl (lv_at hl 1 rfl) ?_
    refine sy_if_eq (tgt := 201) hx hb dX12_two_190 (by decide) (by omega) (fun c_6 => ?_) (fun c_6 => ?_)
    · skip
      refine lv_iconst (v := mI 0) hx hb dX12_two_201 rfl ?_
      exact r_i hx hb hr hlocks dX12_two_202 hS ⟨by omega, hP⟩
    · skip
      refine lv_iload_n hx hb dX12_two_193 rfl (lv_at hl 2 rfl) ?_
      refine sy_if_eq (tgt := 201) hx hb dX12_two_194 (by decide) (by omega) (fun c_7 => ?_) (fun c_7 => ?_)
      · skip
        refine lv_iconst (v := mI 0) hx hb dX12_two_201 rfl ?_
        exact r_i hx hb hr hlocks dX12_two_202 hS ⟨by omega, hP⟩
      · skip
        refine lv_iconst (v := mI 1) hx hb dX12_two_197 rfl ?_
        refine lv_goto (tgt := 202) hx hb dX12_two_198 (by decide) ?_
        exact r_i hx hb hr hlocks dX12_two_202 hS ⟨by omega, hP⟩
  · skip
    refine sy_tableIn (tgt := 203) hx hb dX12_two_1 39 c_1 (by decide) rfl (by decide) ?_
    refine lv_iload_n hx hb dX12_two_203 rfl (lv_at hl 1 rfl) ?_
    refine sy_if_ne (tgt := 211) hx hb dX12_two_204 (by decide) (by omega) (fun c_8 => ?_) (fun c_8 => ?_)
    · skip
      refine lv_iconst (v := mI 1) hx hb dX12_two_211 rfl ?_
      refine lv_goto (tgt := 216) hx hb dX12_two_212 (by decide) ?_
      exact r_i hx hb hr hlocks dX12_two_216 hS ⟨by omega, hP⟩
    · skip
      refine lv_iload_n hx hb dX12_two_207 rfl (lv_at hl 2 rfl) ?_
      refine sy_if_eq (tgt := 215) hx hb dX12_two_208 (by decide) (by omega) (fun c_9 => ?_) (fun c_9 => ?_)
      · skip
        refine lv_iconst (v := mI 0) hx hb dX12_two_215 rfl ?_
        exact r_i hx hb hr hlocks dX12_two_216 hS ⟨by omega, hP⟩
      · skip
        refine lv_iconst (v := mI 1) hx hb dX12_two_211 rfl ?_
        refine lv_goto (tgt := 216) hx hb dX12_two_212 (by decide) ?_
        exact r_i hx hb hr hlocks dX12_two_216 hS ⟨by omega, hP⟩
  · skip
    refine sy_tableIn (tgt := 203) hx hb dX12_two_1 40 c_1 (by decide) rfl (by decide) ?_
    refine lv_iload_n hx hb dX12_two_203 rfl (lv_at hl 1 rfl) ?_
    refine sy_if_ne (tgt := 211) hx hb dX12_two_204 (by decide) (by omega) (fun c_10 => ?_) (fun c_10 => ?_)
    · skip
      refine lv_iconst (v := mI 1) hx hb dX12_two_211 rfl ?_
      refine lv_goto (tgt := 216) hx hb dX12_two_212 (by decide) ?_
      exact r_i hx hb hr hlocks dX12_two_216 hS ⟨by omega, hP⟩
    · skip
      refine lv_iload_n hx hb dX12_two_207 rfl (lv_at hl 2 rfl) ?_
      refine sy_if_eq (tgt := 215) hx hb dX12_two_208 (by decide) (by omega) (fun c_11 => ?_) (fun c_11 => ?_)
      · skip
        refine lv_iconst (v := mI 0) hx hb dX12_two_215 rfl ?_
        exact r_i hx hb hr hlocks dX12_two_216 hS ⟨by omega, hP⟩
      · skip
        refine lv_iconst (v := mI 1) hx hb dX12_two_211 rfl ?_
        refine lv_goto (tgt := 216) hx hb dX12_two_212 (by decide) ?_
        exact r_i hx hb hr hlocks dX12_two_216 hS ⟨by omega, hP⟩
  · skip
    refine sy_tableIn (tgt := 203) hx hb dX12_two_1 41 c_1 (by decide) rfl (by decide) ?_
    refine lv_iload_n hx hb dX12_two_203 rfl (lv_at hl 1 rfl) ?_
    refine sy_if_ne (tgt := 211) hx hb dX12_two_204 (by decide) (by omega) (fun c_12 => ?_) (fun c_12 => ?_)
    · skip
      refine lv_iconst (v := mI 1) hx hb dX12_two_211 rfl ?_
      refine lv_goto (tgt := 216) hx hb dX12_two_212 (by decide) ?_
      exact r_i hx hb hr hlocks dX12_two_216 hS ⟨by omega, hP⟩
    · skip
      refine lv_iload_n hx hb dX12_two_207 rfl (lv_at hl 2 rfl) ?_
      refine sy_if_eq (tgt := 215) hx hb dX12_two_208 (by decide) (by omega) (fun c_13 => ?_) (fun c_13 => ?_)
      · skip
        refine lv_iconst (v := mI 0) hx hb dX12_two_215 rfl ?_
        exact r_i hx hb hr hlocks dX12_two_216 hS ⟨by omega, hP⟩
      · skip
        refine lv_iconst (v := mI 1) hx hb dX12_two_211 rfl ?_
        refine lv_goto (tgt := 216) hx hb dX12_two_212 (by decide) ?_
        exact r_i hx hb hr hlocks dX12_two_216 hS ⟨by omega, hP⟩
  · skip
    refine sy_tableIn (tgt := 128) hx hb dX12_two_1 42 c_1 (by decide) rfl (by decide) ?_
    refine lv_iload_n hx hb dX12_two_128 rfl (lv_at hl 1 rfl) ?_
    refine lv_iload_n hx hb dX12_two_129 rfl (lv_at hl 2 rfl) ?_
    refine sy_imul hx hb dX12_two_130 _ rfl ?_
    refine sy_any (fun z_14 hz_14 => ?_)
    exact r_i hx hb hr hlocks dX12_two_131 hS ⟨by omega, hP⟩
  · skip
    refine sy_tableIn (tgt := 120) hx hb dX12_two_1 43 c_1 (by decide) rfl (by decide) ?_
    refine lv_iload_n hx hb dX12_two_120 rfl (lv_at hl 1 rfl) ?_
    refine lv_iload_n hx hb dX12_two_121 rfl (lv_at hl 2 rfl) ?_
    refine sy_iadd hx hb dX12_two_122 (p1 + p2) rfl ?_
    refine sy_any (fun z_15 hz_15 => ?_)
    exact r_i hx hb hr hlocks dX12_two_123 hS ⟨by omega, hP⟩
  · skip
    refine sy_tableIn (tgt := 203) hx hb dX12_two_1 44 c_1 (by decide) rfl (by decide) ?_
    refine lv_iload_n hx hb dX12_two_203 rfl (lv_at hl 1 rfl) ?_
    refine sy_if_ne (tgt := 211) hx hb dX12_two_204 (by decide) (by omega) (fun c_16 => ?_) (fun c_16 => ?_)
    · skip
      refine lv_iconst (v := mI 1) hx hb dX12_two_211 rfl ?_
      refine lv_goto (tgt := 216) hx hb dX12_two_212 (by decide) ?_
      exact r_i hx hb hr hlocks dX12_two_216 hS ⟨by omega, hP⟩
    · skip
      refine lv_iload_n hx hb dX12_two_207 rfl (lv_at hl 2 rfl) ?_
      refine sy_if_eq (tgt := 215) hx hb dX12_two_208 (by decide) (by omega) (fun c_17 => ?_) (fun c_17 => ?_)
      · skip
        refine lv_iconst (v := mI 0) hx hb dX12_two_215 rfl ?_
        exact r_i hx hb hr hlocks dX12_two_216 hS ⟨by omega, hP⟩
      · skip
        refine lv_iconst (v := mI 1) hx hb dX12_two_211 rfl ?_
        refine lv_goto (tgt := 216) hx hb dX12_two_212 (by decide) ?_
        exact r_i hx hb hr hlocks dX12_two_216 hS ⟨by omega, hP⟩
  · skip
    refine sy_tableIn (tgt := 124) hx hb dX12_two_1 45 c_1 (by decide) rfl (by decide) ?_
    refine lv_iload_n hx hb dX12_two_124 rfl (lv_at hl 1 rfl) ?_
    refine lv_iload_n hx hb dX12_two_125 rfl (lv_at hl 2 rfl) ?_
    refine sy_isub hx hb dX12_two_126 (p1 - p2) rfl ?_
    refine sy_any (fun z_18 hz_18 => ?_)
    exact r_i hx hb hr hlocks dX12_two_127 hS ⟨by omega, hP⟩
  · skip
    refine sy_tableIn (tgt := 203) hx hb dX12_two_1 46 c_1 (by decide) rfl (by decide) ?_
    refine lv_iload_n hx hb dX12_two_203 rfl (lv_at hl 1 rfl) ?_
    refine sy_if_ne (tgt := 211) hx hb dX12_two_204 (by decide) (by omega) (fun c_19 => ?_) (fun c_19 => ?_)
    · skip
      refine lv_iconst (v := mI 1) hx hb dX12_two_211 rfl ?_
      refine lv_goto (tgt := 216) hx hb dX12_two_212 (by decide) ?_
      exact r_i hx hb hr hlocks dX12_two_216 hS ⟨by omega, hP⟩
    · skip
      refine lv_iload_n hx hb dX12_two_207 rfl (lv_at hl 2 rfl) ?_
      refine sy_if_eq (tgt := 215) hx hb dX12_two_208 (by decide) (by omega) (fun c_20 => ?_) (fun c_20 => ?_)
      · skip
        refine lv_iconst (v := mI 0) hx hb dX12_two_215 rfl ?_
        exact r_i hx hb hr hlocks dX12_two_216 hS ⟨by omega, hP⟩
      · skip
        refine lv_iconst (v := mI 1) hx hb dX12_two_211 rfl ?_
        refine lv_goto (tgt := 216) hx hb dX12_two_212 (by decide) ?_
        exact r_i hx hb hr hlocks dX12_two_216 hS ⟨by omega, hP⟩
  · skip
    refine sy_tableIn (tgt := 132) hx hb dX12_two_1 47 c_1 (by decide) rfl (by decide) ?_
    refine lv_iload_n hx hb dX12_two_132 rfl (lv_at hl 2 rfl) ?_
    refine sy_if_ne (tgt := 140) hx hb dX12_two_133 (by decide) (by omega) (fun c_21 => ?_) (fun c_21 => ?_)
    · skip
      refine lv_iload_n hx hb dX12_two_140 rfl (lv_at hl 1 rfl) ?_
      refine lv_iload_n hx hb dX12_two_141 rfl (lv_at hl 2 rfl) ?_
      refine lv_idiv hx hb dX12_two_142 (mI_ne0 (by omega) (by omega)) ?_
      refine sy_any (fun z_22 hz_22 => ?_)
      exact r_i hx hb hr hlocks dX12_two_143 hS ⟨by omega, hP⟩
    · skip
      refine lv_iconst (v := mI 0) hx hb dX12_two_136 rfl ?_
      refine lv_goto (tgt := 143) hx hb dX12_two_137 (by decide) ?_
      exact r_i hx hb hr hlocks dX12_two_143 hS ⟨by omega, hP⟩
  · skip
    refine sy_tableIn (tgt := 203) hx hb dX12_two_1 48 c_1 (by decide) rfl (by decide) ?_
    refine lv_iload_n hx hb dX12_two_203 rfl (lv_at hl 1 rfl) ?_
    refine sy_if_ne (tgt := 211) hx hb dX12_two_204 (by decide) (by omega) (fun c_23 => ?_) (fun c_23 => ?_)
    · skip
      refine lv_iconst (v := mI 1) hx hb dX12_two_211 rfl ?_
      refine lv_goto (tgt := 216) hx hb dX12_two_212 (by decide) ?_
      exact r_i hx hb hr hlocks dX12_two_216 hS ⟨by omega, hP⟩
    · skip
      refine lv_iload_n hx hb dX12_two_207 rfl (lv_at hl 2 rfl) ?_
      refine sy_if_eq (tgt := 215) hx hb dX12_two_208 (by decide) (by omega) (fun c_24 => ?_) (fun c_24 => ?_)
      · skip
        refine lv_iconst (v := mI 0) hx hb dX12_two_215 rfl ?_
        exact r_i hx hb hr hlocks dX12_two_216 hS ⟨by omega, hP⟩
      · skip
        refine lv_iconst (v := mI 1) hx hb dX12_two_211 rfl ?_
        refine lv_goto (tgt := 216) hx hb dX12_two_212 (by decide) ?_
        exact r_i hx hb hr hlocks dX12_two_216 hS ⟨by omega, hP⟩
  · skip
    refine sy_tableIn (tgt := 203) hx hb dX12_two_1 49 c_1 (by decide) rfl (by decide) ?_
    refine lv_iload_n hx hb dX12_two_203 rfl (lv_at hl 1 rfl) ?_
    refine sy_if_ne (tgt := 211) hx hb dX12_two_204 (by decide) (by omega) (fun c_25 => ?_) (fun c_25 => ?_)
    · skip
      refine lv_iconst (v := mI 1) hx hb dX12_two_211 rfl ?_
      refine lv_goto (tgt := 216) hx hb dX12_two_212 (by decide) ?_
      exact r_i hx hb hr hlocks dX12_two_216 hS ⟨by omega, hP⟩
    · skip
      refine lv_iload_n hx hb dX12_two_207 rfl (lv_at hl 2 rfl) ?_
      refine sy_if_eq (tgt := 215) hx hb dX12_two_208 (by decide) (by omega) (fun c_26 => ?_) (fun c_26 => ?_)
      · skip
        refine lv_iconst (v := mI 0) hx hb dX12_two_215 rfl ?_
        exact r_i hx hb hr hlocks dX12_two_216 hS ⟨by omega, hP⟩
      · skip
        refine lv_iconst (v := mI 1) hx hb dX12_two_211 rfl ?_
        refine lv_goto (tgt := 216) hx hb dX12_two_212 (by decide) ?_
        exact r_i hx hb hr hlocks dX12_two_216 hS ⟨by omega, hP⟩
  · skip
    refine sy_tableIn (tgt := 203) hx hb dX12_two_1 50 c_1 (by decide) rfl (by decide) ?_
    refine lv_iload_n hx hb dX12_two_203 rfl (lv_at hl 1 rfl) ?_
    refine sy_if_ne (tgt := 211) hx hb dX12_two_204 (by decide) (by omega) (fun c_27 => ?_) (fun c_27 => ?_)
    · skip
      refine lv_iconst (v := mI 1) hx hb dX12_two_211 rfl ?_
      refine lv_goto (tgt := 216) hx hb dX12_two_212 (by decide) ?_
      exact r_i hx hb hr hlocks dX12_two_216 hS ⟨by omega, hP⟩
    · skip
      refine lv_iload_n hx hb dX12_two_207 rfl (lv_at hl 2 rfl) ?_
      refine sy_if_eq (tgt := 215) hx hb dX12_two_208 (by decide) (by omega) (fun c_28 => ?_) (fun c_28 => ?_)
      · skip
        refine lv_iconst (v := mI 0) hx hb dX12_two_215 rfl ?_
        exact r_i hx hb hr hlocks dX12_two_216 hS ⟨by omega, hP⟩
      · skip
        refine lv_iconst (v := mI 1) hx hb dX12_two_211 rfl ?_
        refine lv_goto (tgt := 216) hx hb dX12_two_212 (by decide) ?_
        exact r_i hx hb hr hlocks dX12_two_216 hS ⟨by omega, hP⟩
  · skip
    refine sy_tableIn (tgt := 203) hx hb dX12_two_1 51 c_1 (by decide) rfl (by decide) ?_
    refine lv_iload_n hx hb dX12_two_203 rfl (lv_at hl 1 rfl) ?_
    refine sy_if_ne (tgt := 211) hx hb dX12_two_204 (by decide) (by omega) (fun c_29 => ?_) (fun c_29 => ?_)
    · skip
      refine lv_iconst (v := mI 1) hx hb dX12_two_211 rfl ?_
      refine lv_goto (tgt := 216) hx hb dX12_two_212 (by decide) ?_
      exact r_i hx hb hr hlocks dX12_two_216 hS ⟨by omega, hP⟩
    · skip
      refine lv_iload_n hx hb dX12_two_207 rfl (lv_at hl 2 rfl) ?_
      refine sy_if_eq (tgt := 215) hx hb dX12_two_208 (by decide) (by omega) (fun c_30 => ?_) (fun c_30 => ?_)
      · skip
        refine lv_iconst (v := mI 0) hx hb dX12_two_215 rfl ?_
        exact r_i hx hb hr hlocks dX12_two_216 hS ⟨by omega, hP⟩
      · skip
        refine lv_iconst (v := mI 1) hx hb dX12_two_211 rfl ?_
        refine lv_goto (tgt := 216) hx hb dX12_two_212 (by decide) ?_
        exact r_i hx hb hr hlocks dX12_two_216 hS ⟨by omega, hP⟩
  · skip
    refine sy_tableIn (tgt := 203) hx hb dX12_two_1 52 c_1 (by decide) rfl (by decide) ?_
    refine lv_iload_n hx hb dX12_two_203 rfl (lv_at hl 1 rfl) ?_
    refine sy_if_ne (tgt := 211) hx hb dX12_two_204 (by decide) (by omega) (fun c_31 => ?_) (fun c_31 => ?_)
    · skip
      refine lv_iconst (v := mI 1) hx hb dX12_two_211 rfl ?_
      refine lv_goto (tgt := 216) hx hb dX12_two_212 (by decide) ?_
      exact r_i hx hb hr hlocks dX12_two_216 hS ⟨by omega, hP⟩
    · skip
      refine lv_iload_n hx hb dX12_two_207 rfl (lv_at hl 2 rfl) ?_
      refine sy_if_eq (tgt := 215) hx hb dX12_two_208 (by decide) (by omega) (fun c_32 => ?_) (fun c_32 => ?_)
      · skip
        refine lv_iconst (v := mI 0) hx hb dX12_two_215 rfl ?_
        exact r_i hx hb hr hlocks dX12_two_216 hS ⟨by omega, hP⟩
      · skip
        refine lv_iconst (v := mI 1) hx hb dX12_two_211 rfl ?_
        refine lv_goto (tgt := 216) hx hb dX12_two_212 (by decide) ?_
        exact r_i hx hb hr hlocks dX12_two_216 hS ⟨by omega, hP⟩
  · skip
    refine sy_tableIn (tgt := 203) hx hb dX12_two_1 53 c_1 (by decide) rfl (by decide) ?_
    refine lv_iload_n hx hb dX12_two_203 rfl (lv_at hl 1 rfl) ?_
    refine sy_if_ne (tgt := 211) hx hb dX12_two_204 (by decide) (by omega) (fun c_33 => ?_) (fun c_33 => ?_)
    · skip
      refine lv_iconst (v := mI 1) hx hb dX12_two_211 rfl ?_
      refine lv_goto (tgt := 216) hx hb dX12_two_212 (by decide) ?_
      exact r_i hx hb hr hlocks dX12_two_216 hS ⟨by omega, hP⟩
    · skip
      refine lv_iload_n hx hb dX12_two_207 rfl (lv_at hl 2 rfl) ?_
      refine sy_if_eq (tgt := 215) hx hb dX12_two_208 (by decide) (by omega) (fun c_34 => ?_) (fun c_34 => ?_)
      · skip
        refine lv_iconst (v := mI 0) hx hb dX12_two_215 rfl ?_
        exact r_i hx hb hr hlocks dX12_two_216 hS ⟨by omega, hP⟩
      · skip
        refine lv_iconst (v := mI 1) hx hb dX12_two_211 rfl ?_
        refine lv_goto (tgt := 216) hx hb dX12_two_212 (by decide) ?_
        exact r_i hx hb hr hlocks dX12_two_216 hS ⟨by omega, hP⟩
  · skip
    refine sy_tableIn (tgt := 203) hx hb dX12_two_1 54 c_1 (by decide) rfl (by decide) ?_
    refine lv_iload_n hx hb dX12_two_203 rfl (lv_at hl 1 rfl) ?_
    refine sy_if_ne (tgt := 211) hx hb dX12_two_204 (by decide) (by omega) (fun c_35 => ?_) (fun c_35 => ?_)
    · skip
      refine lv_iconst (v := mI 1) hx hb dX12_two_211 rfl ?_
      refine lv_goto (tgt := 216) hx hb dX12_two_212 (by decide) ?_
      exact r_i hx hb hr hlocks dX12_two_216 hS ⟨by omega, hP⟩
    · skip
      refine lv_iload_n hx hb dX12_two_207 rfl (lv_at hl 2 rfl) ?_
      refine sy_if_eq (tgt := 215) hx hb dX12_two_208 (by decide) (by omega) (fun c_36 => ?_) (fun c_36 => ?_)
      · skip
        refine lv_iconst (v := mI 0) hx hb dX12_two_215 rfl ?_
        exact r_i hx hb hr hlocks dX12_two_216 hS ⟨by omega, hP⟩
      · skip
        refine lv_iconst (v := mI 1) hx hb dX12_two_211 rfl ?_
        refine lv_goto (tgt := 216) hx hb dX12_two_212 (by decide) ?_
        exact r_i hx hb hr hlocks dX12_two_216 hS ⟨by omega, hP⟩
  · skip
    refine sy_tableIn (tgt := 203) hx hb dX12_two_1 55 c_1 (by decide) rfl (by decide) ?_
    refine lv_iload_n hx hb dX12_two_203 rfl (lv_at hl 1 rfl) ?_
    refine sy_if_ne (tgt := 211) hx hb dX12_two_204 (by decide) (by omega) (fun c_37 => ?_) (fun c_37 => ?_)
    · skip
      refine lv_iconst (v := mI 1) hx hb dX12_two_211 rfl ?_
      refine lv_goto (tgt := 216) hx hb dX12_two_212 (by decide) ?_
      exact r_i hx hb hr hlocks dX12_two_216 hS ⟨by omega, hP⟩
    · skip
      refine lv_iload_n hx hb dX12_two_207 rfl (lv_at hl 2 rfl) ?_
      refine sy_if_eq (tgt := 215) hx hb dX12_two_208 (by decide) (by omega) (fun c_38 => ?_) (fun c_38 => ?_)
      · skip
        refine lv_iconst (v := mI 0) hx hb dX12_two_215 rfl ?_
        exact r_i hx hb hr hlocks dX12_two_216 hS ⟨by omega, hP⟩
      · skip
        refine lv_iconst (v := mI 1) hx hb dX12_two_211 rfl ?_
        refine lv_goto (tgt := 216) hx hb dX12_two_212 (by decide) ?_
        exact r_i hx hb hr hlocks dX12_two_216 hS ⟨by omega, hP⟩
  · skip
    refine sy_tableIn (tgt := 203) hx hb dX12_two_1 56 c_1 (by decide) rfl (by decide) ?_
    refine lv_iload_n hx hb dX12_two_203 rfl (lv_at hl 1 rfl) ?_
    refine sy_if_ne (tgt := 211) hx hb dX12_two_204 (by decide) (by omega) (fun c_39 => ?_) (fun c_39 => ?_)
    · skip
      refine lv_iconst (v := mI 1) hx hb dX12_two_211 rfl ?_
      refine lv_goto (tgt := 216) hx hb dX12_two_212 (by decide) ?_
      exact r_i hx hb hr hlocks dX12_two_216 hS ⟨by omega, hP⟩
    · skip
      refine lv_iload_n hx hb dX12_two_207 rfl (lv_at hl 2 rfl) ?_
      refine sy_if_eq (tgt := 215) hx hb dX12_two_208 (by decide) (by omega) (fun c_40 => ?_) (fun c_40 => ?_)
      · skip
        refine lv_iconst (v := mI 0) hx hb dX12_two_215 rfl ?_
        exact r_i hx hb hr hlocks dX12_two_216 hS ⟨by omega, hP⟩
      · skip
        refine lv_iconst (v := mI 1) hx hb dX12_two_211 rfl ?_
        refine lv_goto (tgt := 216) hx hb dX12_two_212 (by decide) ?_
        exact r_i hx hb hr hlocks dX12_two_216 hS ⟨by omega, hP⟩
  · skip
    refine sy_tableIn (tgt := 203) hx hb dX12_two_1 57 c_1 (by decide) rfl (by decide) ?_
    refine lv_iload_n hx hb dX12_two_203 rfl (lv_at hl 1 rfl) ?_
    refine sy_if_ne (tgt := 211) hx hb dX12_two_204 (by decide) (by omega) (fun c_41 => ?_) (fun c_41 => ?_)
    · skip
      refine lv_iconst (v := mI 1) hx hb dX12_two_211 rfl ?_
      refine lv_goto (tgt := 216) hx hb dX12_two_212 (by decide) ?_
      exact r_i hx hb hr hlocks dX12_two_216 hS ⟨by omega, hP⟩
    · skip
      refine lv_iload_n hx hb dX12_two_207 rfl (lv_at hl 2 rfl) ?_
      refine sy_if_eq (tgt := 215) hx hb dX12_two_208 (by decide) (by omega) (fun c_42 => ?_) (fun c_42 => ?_)
      · skip
        refine lv_iconst (v := mI 0) hx hb dX12_two_215 rfl ?_
        exact r_i hx hb hr hlocks dX12_two_216 hS ⟨by omega, hP⟩
      · skip
        refine lv_iconst (v := mI 1) hx hb dX12_two_211 rfl ?_
        refine lv_goto (tgt := 216) hx hb dX12_two_212 (by decide) ?_
        exact r_i hx hb hr hlocks dX12_two_216 hS ⟨by omega, hP⟩
  · skip
    refine sy_tableIn (tgt := 203) hx hb dX12_two_1 58 c_1 (by decide) rfl (by decide) ?_
    refine lv_iload_n hx hb dX12_two_203 rfl (lv_at hl 1 rfl) ?_
    refine sy_if_ne (tgt := 211) hx hb dX12_two_204 (by decide) (by omega) (fun c_43 => ?_) (fun c_43 => ?_)
    · skip
      refine lv_iconst (v := mI 1) hx hb dX12_two_211 rfl ?_
      refine lv_goto (tgt := 216) hx hb dX12_two_212 (by decide) ?_
      exact r_i hx hb hr hlocks dX12_two_216 hS ⟨by omega, hP⟩
    · skip
      refine lv_iload_n hx hb dX12_two_207 rfl (lv_at hl 2 rfl) ?_
      refine sy_if_eq (tgt := 215) hx hb dX12_two_208 (by decide) (by omega) (fun c_44 => ?_) (fun c_44 => ?_)
      · skip
        refine lv_iconst (v := mI 0) hx hb dX12_two_215 rfl ?_
        exact r_i hx hb hr hlocks dX12_two_216 hS ⟨by omega, hP⟩
      · skip
        refine lv_iconst (v := mI 1) hx hb dX12_two_211 rfl ?_
        refine lv_goto (tgt := 216) hx hb dX12_two_212 (by decide) ?_
        exact r_i hx hb hr hlocks dX12_two_216 hS ⟨by omega, hP⟩
  · skip
    refine sy_tableIn (tgt := 203) hx hb dX12_two_1 59 c_1 (by decide) rfl (by decide) ?_
    refine lv_iload_n hx hb dX12_two_203 rfl (lv_at hl 1 rfl) ?_
    refine sy_if_ne (tgt := 211) hx hb dX12_two_204 (by decide) (by omega) (fun c_45 => ?_) (fun c_45 => ?_)
    · skip
      refine lv_iconst (v := mI 1) hx hb dX12_two_211 rfl ?_
      refine lv_goto (tgt := 216) hx hb dX12_two_212 (by decide) ?_
      exact r_i hx hb hr hlocks dX12_two_216 hS ⟨by omega, hP⟩
    · skip
      refine lv_iload_n hx hb dX12_two_207 rfl (lv_at hl 2 rfl) ?_
      refine sy_if_eq (tgt := 215) hx hb dX12_two_208 (by decide) (by omega) (fun c_46 => ?_) (fun c_46 => ?_)
      · skip
        refine lv_iconst (v := mI 0) hx hb dX12_two_215 rfl ?_
        exact r_i hx hb hr hlocks dX12_two_216 hS ⟨by omega, hP⟩
      · skip
        refine lv_iconst (v := mI 1) hx hb dX12_two_211 rfl ?_
        refine lv_goto (tgt := 216) hx hb dX12_two_212 (by decide) ?_
        exact r_i hx hb hr hlocks dX12_two_216 hS ⟨by omega, hP⟩
  · skip
    refine sy_tableIn (tgt := 156) hx hb dX12_two_1 60 c_1 (by decide) rfl (by decide) ?_
    refine lv_iload_n hx hb dX12_two_156 rfl (lv_at hl 1 rfl) ?_
    refine lv_iload_n hx hb dX12_two_157 rfl (lv_at hl 2 rfl) ?_
    refine sy_icmp_ge (tgt := 165) hx hb dX12_two_158 (by decide) (by omega) (by omega) (fun c_47 => ?_) (fun c_47 => ?_)
    · skip
      refine lv_iconst (v := mI 0) hx hb dX12_two_165 rfl ?_
      exact r_i hx hb hr hlocks dX12_two_166 hS ⟨by omega, hP⟩
    · skip
      refine lv_iconst (v := mI 1) hx hb dX12_two_161 rfl ?_
      refine lv_goto (tgt := 166) hx hb dX12_two_162 (by decide) ?_
      exact r_i hx hb hr hlocks dX12_two_166 hS ⟨by omega, hP⟩
  · skip
    refine sy_tableIn (tgt := 178) hx hb dX12_two_1 61 c_1 (by decide) rfl (by decide) ?_
    refine lv_iload_n hx hb dX12_two_178 rfl (lv_at hl 1 rfl) ?_
    refine lv_iload_n hx hb dX12_two_179 rfl (lv_at hl 2 rfl) ?_
    refine sy_icmp_ne (tgt := 187) hx hb dX12_two_180 (by decide) (by omega) (by omega) (fun c_48 => ?_) (fun c_48 => ?_)
    · skip
      refine lv_iconst (v := mI 0) hx hb dX12_two_187 rfl ?_
      exact r_i hx hb hr hlocks dX12_two_188 hS ⟨by omega, hP⟩
    · skip
      refine lv_iconst (v := mI 1) hx hb dX12_two_183 rfl ?_
      refine lv_goto (tgt := 188) hx hb dX12_two_184 (by decide) ?_
      exact r_i hx hb hr hlocks dX12_two_188 hS ⟨by omega, hP⟩
  · skip
    refine sy_tableIn (tgt := 167) hx hb dX12_two_1 62 c_1 (by decide) rfl (by decide) ?_
    refine lv_iload_n hx hb dX12_two_167 rfl (lv_at hl 1 rfl) ?_
    refine lv_iload_n hx hb dX12_two_168 rfl (lv_at hl 2 rfl) ?_
    refine sy_icmp_le (tgt := 176) hx hb dX12_two_169 (by decide) (by omega) (by omega) (fun c_49 => ?_) (fun c_49 => ?_)
    · skip
      refine lv_iconst (v := mI 0) hx hb dX12_two_176 rfl ?_
      exact r_i hx hb hr hlocks dX12_two_177 hS ⟨by omega, hP⟩
    · skip
      refine lv_iconst (v := mI 1) hx hb dX12_two_172 rfl ?_
      refine lv_goto (tgt := 177) hx hb dX12_two_173 (by decide) ?_
      exact r_i hx hb hr hlocks dX12_two_177 hS ⟨by omega, hP⟩
set_option maxHeartbeats 4000000 in
set_option maxRecDepth 100000 in
theorem kr_X12_bitsOf {p0 : Int} (hp0 : 0 ≤ p0 ∧ p0 ≤ 4095) : MetG l D k yX12_bitsOf cX12_bitsOf 3 (some .int) 0 [.int (mI p0)] (rW k a x_taped x_size x_faultKind x_faultPlace x_at x_end x_token x_number x_bank x_rb x_codes x_within x_piled x_unitsInRule x_askBeast x_askStroke x_askAge x_askSeason x_acts x_undone x_laid x_seens x_time x_fitting n_name B_tape B_text B_turns B_herds B_irons B_beasts B_units B_night B_draw B_told B_brands B_ironMarks B_herdTold B_born B_ruleFrom B_ruleTo B_code B_codeNumber B_eWhat B_eSign B_pile B_all B_burned B_was B_need B_laidRow B_long8 B_brings B_sBurning B_sStroke B_sIs B_sTold B_sUntold B_parts B_boxAll B_isBoxed G_hName G_iName G_bName ex) (qGi (fun r0 H => (-2147483648 ≤ r0 ∧ r0 ≤ 2147483647) ∧ va_P D vwCl (rW k a x_taped x_size x_faultKind x_faultPlace x_at x_end x_token x_number x_bank x_rb x_codes x_within x_piled x_unitsInRule x_askBeast x_askStroke x_askAge x_askSeason x_acts x_undone x_laid x_seens x_time x_fitting n_name B_tape B_text B_turns B_herds B_irons B_beasts B_units B_night B_draw B_told B_brands B_ironMarks B_herdTold B_born B_ruleFrom B_ruleTo B_code B_codeNumber B_eWhat B_eSign B_pile B_all B_burned B_was B_need B_laidRow B_long8 B_brings B_sBurning B_sStroke B_sIs B_sTold B_sUntold B_parts B_boxAll B_isBoxed G_hName G_iName G_bName ex) H)) := by
  refine metG_of 1 ck_X12_bitsOf (Nat.le_of_ble_eq_true rfl) rMap (fun p e s m args below meth c A hx hb hml hr hlocks hown hts hK hD hA hP hS ls hl => ?_)
  have hown : s.vm.findClass "HideReaderModel" = some m.cls := hown
  have hl : lv_has ls 3 [(0, .int (mI p0))] := hl
  refine lv_iconst (v := mI 0) hx hb dX12_bitsOf_0 rfl ?_
  refine lv_istore_n (lv' := [(1, .int (mI 0)), (0, .int (mI p0))]) hx hb dX12_bitsOf_1 rfl hl (by decide) rfl (fun ls hl => ?_)
  refine lv_iload_n hx hb dX12_bitsOf_2 rfl (lv_at hl 1 rfl) ?_
  refine lv_istore_n (lv' := [(2, .int (mI p0)), (1, .int (mI 0)), (0, .int (mI p0))]) hx hb dX12_bitsOf_3 rfl hl (by decide) rfl (fun ls hl => ?_)
  refine sy_loop (I := fun n H locs g => ∃ (z_178 : Int) (z_179 : Int) (ls : Array Slot), (0 ≤ z_178 ∧ z_178 ≤ 4095) ∧ (-2147483648 ≤ z_179 ∧ z_179 ≤ 2147483647) ∧ (0 ≤ p0 - z_178) ∧ (z_178 - (0)).toNat = n ∧ va_P D vwCl (rW k a x_taped x_size x_faultKind x_faultPlace x_at x_end x_token x_number x_bank x_rb x_codes x_within x_piled x_unitsInRule x_askBeast x_askStroke x_askAge x_askSeason x_acts x_undone x_laid x_seens x_time x_fitting n_name B_tape B_text B_turns B_herds B_irons B_beasts B_units B_night B_draw B_told B_brands B_ironMarks B_herdTold B_born B_ruleFrom B_ruleTo B_code B_codeNumber B_eWhat B_eSign B_pile B_all B_burned B_was B_need B_laidRow B_long8 B_brings B_sBurning B_sStroke B_sIs B_sTold B_sUntold B_parts B_boxAll B_isBoxed G_hName G_iName G_bName ex) H ∧ va_S A s.heap H locs ∧ lv_has ls 3 [(2, .int (mI z_178)), (1, .int (mI z_179)), (0, .int (mI p0))] ∧ g = F0 m 4 ls []) ?_ _ ⟨p0, 0, _, by omega, by omega, by omega, rfl, hP, hS, lv_sub hl [0, 1, 2] rfl, rfl⟩
  intro n_183 H locs g hI ih_184
  obtain ⟨z_178, z_179, ls, h4_0, h4_1, h4_2, mn_183, hP, hS, hl, rfl⟩ := hI
  refine lv_iload_n hx hb dX12_bitsOf_4 rfl (lv_at hl 0 rfl) ?_
  refine sy_if_eq (tgt := 20) hx hb dX12_bitsOf_5 (by decide) (by omega) (fun c_185 => ?_) (fun c_185 => ?_)
  · skip
    refine lv_iload_n hx hb dX12_bitsOf_20 rfl (lv_at hl 1 rfl) ?_
    exact r_i hx hb hr hlocks dX12_bitsOf_21 hS ⟨by omega, hP⟩
  · skip
    refine lv_iinc (v := mI (z_179 + 1)) (lv' := [(1, .int (mI (z_179 + 1))), (2, .int (mI z_178)), (0, .int (mI p0))]) hx hb dX12_bitsOf_8 hl (k := 1) rfl (mI_ad rfl) (by decide) rfl (fun ls hl => ?_)
    obtain ⟨z_186, ez_186, hz_186⟩ := mI_of (mI (z_179 + 1))
    rw [ez_186] at hl
    refine lv_iload_n hx hb dX12_bitsOf_11 rfl (lv_at hl 1 rfl) ?_
    refine lv_iload_n hx hb dX12_bitsOf_12 rfl (lv_at hl 1 rfl) ?_
    refine lv_iconst (v := mI 1) hx hb dX12_bitsOf_13 rfl ?_
    refine sy_isub hx hb dX12_bitsOf_14 (z_178 - 1) rfl ?_
    refine sy_iandR hx hb dX12_bitsOf_15 (by omega) (fun z_187 hz_187 => ?_)
    refine lv_istore_n (lv' := [(2, .int (mI z_187)), (1, .int (mI z_186)), (0, .int (mI p0))]) hx hb dX12_bitsOf_16 rfl hl (by decide) rfl (fun ls hl => ?_)
    refine lv_goto (tgt := 4) hx hb dX12_bitsOf_17 (by decide) ?_
    exact ih_184 _ _ _ _ (by omega) ⟨z_187, z_186, _, by omega, by omega, by omega, rfl, hP, hS, lv_sub hl [0, 1, 2] rfl, rfl⟩
set_option maxHeartbeats 4000000 in
set_option maxRecDepth 100000 in
theorem kr_X12_asked {p0 p1 : Int} (hp0 : -2147483648 ≤ p0 ∧ p0 ≤ 2147483647) (hp1 : -2147483648 ≤ p1 ∧ p1 ≤ 2147483647) (h_x_bank : 0 ≤ x_bank ∧ x_bank ≤ 1) (h_x_askBeast : 0 ≤ x_askBeast ∧ x_askBeast ≤ 7) (h_x_askStroke : -2147483648 ≤ x_askStroke ∧ x_askStroke ≤ 2147483647) (h_x_askAge : -2147483648 ≤ x_askAge ∧ x_askAge ≤ 2147483647) (h_x_askSeason : -2147483648 ≤ x_askSeason ∧ x_askSeason ≤ 2147483647) (b_B_born : bd (0) 99 B_born) (b_B_all : bA B_all) : MetG l D k yX12_asked cX12_asked 3 (some .int) 1 [.ref (a 0), .int (mI p0), .int (mI p1)] (rW k a x_taped x_size x_faultKind x_faultPlace x_at x_end x_token x_number x_bank x_rb x_codes x_within x_piled x_unitsInRule x_askBeast x_askStroke x_askAge x_askSeason x_acts x_undone x_laid x_seens x_time x_fitting n_name B_tape B_text B_turns B_herds B_irons B_beasts B_units B_night B_draw B_told B_brands B_ironMarks B_herdTold B_born B_ruleFrom B_ruleTo B_code B_codeNumber B_eWhat B_eSign B_pile B_all B_burned B_was B_need B_laidRow B_long8 B_brings B_sBurning B_sStroke B_sIs B_sTold B_sUntold B_parts B_boxAll B_isBoxed G_hName G_iName G_bName ex) (qGi (fun r0 H => (-2147483648 ≤ r0 ∧ r0 ≤ 2147483647) ∧ va_P D vwCl (rW k a x_taped x_size x_faultKind x_faultPlace x_at x_end x_token x_number x_bank x_rb x_codes x_within x_piled x_unitsInRule x_askBeast x_askStroke x_askAge x_askSeason x_acts x_undone x_laid x_seens x_time x_fitting n_name B_tape B_text B_turns B_herds B_irons B_beasts B_units B_night B_draw B_told B_brands B_ironMarks B_herdTold B_born B_ruleFrom B_ruleTo B_code B_codeNumber B_eWhat B_eSign B_pile B_all B_burned B_was B_need B_laidRow B_long8 B_brings B_sBurning B_sStroke B_sIs B_sTold B_sUntold B_parts B_boxAll B_isBoxed G_hName G_iName G_bName ex) H)) := by
  refine metG_of 2 ck_X12_asked (Nat.le_of_ble_eq_true rfl) rMap (fun p e s m args below meth c A hx hb hml hr hlocks hown hts hK hD hA hP hS ls hl => ?_)
  have hown : s.vm.findClass "HideReaderModel" = some m.cls := hown
  have hl : lv_has ls 3 [(0, .ref (a 0)), (1, .int (mI p0)), (2, .int (mI p1))] := hl
  refine lv_iload_n hx hb dX12_asked_0 rfl (lv_at hl 1 rfl) ?_
  rcases (by omega : (¬ p0 = 97 ∧ ¬ p0 = 98 ∧ ¬ p0 = 99 ∧ ¬ p0 = 107 ∧ ¬ p0 = 115) ∨ p0 = 97 ∨ p0 = 98 ∨ p0 = 99 ∨ p0 = 107 ∨ p0 = 115) with c_1 | c_1 | c_1 | c_1 | c_1 | c_1
  · skip
    refine lv_lookup (tgt := 100) hx hb dX12_asked_1 (by decide) (lk_out (by omega) (by simp; omega)) (by decide) ?_
    refine lv_iload_n hx hb dX12_asked_100 rfl (lv_at hl 2 rfl) ?_
    exact r_i hx hb hr hlocks dX12_asked_101 hS ⟨by omega, hP⟩
  · skip
    refine sy_lookIn (tgt := 52) hx hb dX12_asked_1 (by decide) 97 c_1 (by decide) rfl (by decide) ?_
    refine lv_aload_n hx hb dX12_asked_52 rfl (lv_at hl 0 rfl) ?_
    refine rg_o_askAge hx hb hts hown hK hP uw_7_64 dX12_asked_53 ?_
    exact r_i hx hb hr hlocks dX12_asked_56 hS ⟨by omega, hP⟩
  · skip
    refine sy_lookIn (tgt := 77) hx hb dX12_asked_1 (by decide) 98 c_1 (by decide) rfl (by decide) ?_
    refine lv_aload_n hx hb dX12_asked_77 rfl (lv_at hl 0 rfl) ?_
    refine rg_o_born hx hb hts hown hK hP uw_7_45 dX12_asked_78 ?_
    refine lv_bipush (v := mI 8) hx hb dX12_asked_81 (by decide) ?_
    refine lv_aload_n hx hb dX12_asked_83 rfl (lv_at hl 0 rfl) ?_
    refine rg_o_bank hx hb hts hown hK hP uw_7_56 dX12_asked_84 ?_
    refine sy_imul hx hb dX12_asked_87 (8 * x_bank) rfl ?_
    refine lv_aload_n hx hb dX12_asked_88 rfl (lv_at hl 0 rfl) ?_
    refine rg_o_askBeast hx hb hts hown hK hP uw_7_62 dX12_asked_89 ?_
    refine sy_iadd hx hb dX12_asked_92 (8 * x_bank + x_askBeast) rfl ?_
    refine rl_born hx hb hK hP dX12_asked_93 (by omega) b_B_born (fun z_2 _ hz_2 => ?_)
    exact r_i hx hb hr hlocks dX12_asked_94 hS ⟨by omega, hP⟩
  · skip
    refine sy_lookIn (tgt := 57) hx hb dX12_asked_1 (by decide) 99 c_1 (by decide) rfl (by decide) ?_
    refine lv_aload_n hx hb dX12_asked_57 rfl (lv_at hl 0 rfl) ?_
    refine rg_o_all hx hb hts hown hK hP uw_7_66 dX12_asked_58 ?_
    refine lv_iconst (v := mI 0) hx hb dX12_asked_61 rfl ?_
    refine lv_aload_n hx hb dX12_asked_62 rfl (lv_at hl 0 rfl) ?_
    refine rg_o_askBeast hx hb hts hown hK hP uw_7_62 dX12_asked_63 ?_
    refine sy_iadd hx hb dX12_asked_66 x_askBeast (by omega) ?_
    refine rl_all hx hb hK hP dX12_asked_67 (by omega) (bA_bd b_B_all) (fun z_3 ez_3 hz_3 => ?_)
    have hz_3 := bA_hid b_B_all (by omega) ez_3
    refine g_i (rDt hD) hS hA (g_S (own := "HideReaderModel") (As := [.int (mI z_3)]) (rest := []) hx hb hml hown hts hK hP (rDt hD) (kr_X12_bitsOf (l := l) (D := D) (k := k) (by omega)) ck_X12_bitsOf uw_8_166 uw_8_165 rfl hl.1 rfl (Nat.le_of_ble_eq_true rfl) dX12_asked_68 ⟨Nat.le_of_ble_eq_true rfl, Nat.le_of_ble_eq_true rfl⟩ ⟨Nat.le_of_ble_eq_true rfl, Nat.le_of_ble_eq_true rfl⟩) (fun r_4 H locs hQ hS => ?_)
    obtain ⟨hr_4_0, hP⟩ := hQ
    exact r_i hx hb hr hlocks dX12_asked_71 hS ⟨by omega, hP⟩
  · skip
    refine sy_lookIn (tgt := 72) hx hb dX12_asked_1 (by decide) 107 c_1 (by decide) rfl (by decide) ?_
    refine lv_aload_n hx hb dX12_asked_72 rfl (lv_at hl 0 rfl) ?_
    refine rg_o_askStroke hx hb hts hown hK hP uw_7_63 dX12_asked_73 ?_
    exact r_i hx hb hr hlocks dX12_asked_76 hS ⟨by omega, hP⟩
  · skip
    refine sy_lookIn (tgt := 95) hx hb dX12_asked_1 (by decide) 115 c_1 (by decide) rfl (by decide) ?_
    refine lv_aload_n hx hb dX12_asked_95 rfl (lv_at hl 0 rfl) ?_
    refine rg_o_askSeason hx hb hts hown hK hP uw_7_65 dX12_asked_96 ?_
    exact r_i hx hb hr hlocks dX12_asked_99 hS ⟨by omega, hP⟩
end Kr
