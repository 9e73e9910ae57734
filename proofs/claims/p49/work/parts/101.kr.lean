section Kr
variable {l : Launch} {D : va_G} {k : Nat → ClassId} {a : Nat → Nat} {ex : va_W} {x_taped x_size x_faultKind x_faultPlace x_at x_end x_token x_number x_bank x_rb x_codes x_within x_piled x_unitsInRule x_askBeast x_askStroke x_askAge x_askSeason x_acts x_undone x_laid x_seens x_time x_fitting : Int} {n_name : Int64} {B_tape B_text B_turns B_herds B_irons B_beasts B_units B_night B_draw B_told B_brands B_ironMarks B_herdTold B_born B_ruleFrom B_ruleTo B_code B_codeNumber B_eWhat B_eSign B_pile B_all B_burned B_was B_need B_laidRow B_long8 B_brings B_sBurning B_sStroke B_sIs B_sTold B_sUntold B_parts B_boxAll B_isBoxed : Nat → Int} {G_hName G_iName G_bName : Nat → Int64}
set_option maxHeartbeats 4000000 in
set_option maxRecDepth 100000 in
theorem kr_X12_fault {p0 : Int} (hp0 : -2147483648 ≤ p0 ∧ p0 ≤ 2147483647) (h_x_faultKind : 0 ≤ x_faultKind ∧ x_faultKind ≤ 5) (h_x_faultPlace : -1 ≤ x_faultPlace ∧ x_faultPlace ≤ 1600) : MetG l D k yX12_fault cX12_fault 2 (some .int) 0 [.ref (a 0), .int (mI p0)] (rW k a x_taped x_size x_faultKind x_faultPlace x_at x_end x_token x_number x_bank x_rb x_codes x_within x_piled x_unitsInRule x_askBeast x_askStroke x_askAge x_askSeason x_acts x_undone x_laid x_seens x_time x_fitting n_name B_tape B_text B_turns B_herds B_irons B_beasts B_units B_night B_draw B_told B_brands B_ironMarks B_herdTold B_born B_ruleFrom B_ruleTo B_code B_codeNumber B_eWhat B_eSign B_pile B_all B_burned B_was B_need B_laidRow B_long8 B_brings B_sBurning B_sStroke B_sIs B_sTold B_sUntold B_parts B_boxAll B_isBoxed G_hName G_iName G_bName ex) (qGi (fun r0 H => (-1 ≤ r0 ∧ r0 ≤ 1600) ∧ va_P D vwCl (rW k a x_taped x_size x_faultKind x_faultPlace x_at x_end x_token x_number x_bank x_rb x_codes x_within x_piled x_unitsInRule x_askBeast x_askStroke x_askAge x_askSeason x_acts x_undone x_laid x_seens x_time x_fitting n_name B_tape B_text B_turns B_herds B_irons B_beasts B_units B_night B_draw B_told B_brands B_ironMarks B_herdTold B_born B_ruleFrom B_ruleTo B_code B_codeNumber B_eWhat B_eSign B_pile B_all B_burned B_was B_need B_laidRow B_long8 B_brings B_sBurning B_sStroke B_sIs B_sTold B_sUntold B_parts B_boxAll B_isBoxed G_hName G_iName G_bName ex) H)) := by
  refine metG_of 1 ck_X12_fault (Nat.le_of_ble_eq_true rfl) rMap (fun p e s m args below meth c A hx hb hml hr hlocks hown hts hK hD hA hP hS ls hl => ?_)
  have hown : s.vm.findClass "HideReaderModel" = some m.cls := hown
  have hl : lv_has ls 2 [(0, .ref (a 0)), (1, .int (mI p0))] := hl
  refine lv_iload_n hx hb dX12_fault_0 rfl (lv_at hl 1 rfl) ?_
  refine sy_if_ne (tgt := 11) hx hb dX12_fault_1 (by decide) (by omega) (fun c_1 => ?_) (fun c_1 => ?_)
  · skip
    refine lv_iload_n hx hb dX12_fault_11 rfl (lv_at hl 1 rfl) ?_
    refine lv_iconst (v := mI 1) hx hb dX12_fault_12 rfl ?_
    refine sy_icmp_ne (tgt := 23) hx hb dX12_fault_13 (by decide) (by omega) (by decide) (fun c_2 => ?_) (fun c_2 => ?_)
    · skip
      refine lv_iconst (v := mI (-1)) hx hb dX12_fault_23 rfl ?_
      exact r_i hx hb hr hlocks dX12_fault_24 hS ⟨by omega, hP⟩
    · skip
      refine lv_aload_n hx hb dX12_fault_16 rfl (lv_at hl 0 rfl) ?_
      refine rg_o_faultPlace hx hb hts hown hK hP uw_7_28 dX12_fault_17 ?_
      refine lv_goto (tgt := 24) hx hb dX12_fault_20 (by decide) ?_
      exact r_i hx hb hr hlocks dX12_fault_24 hS ⟨by omega, hP⟩
  · skip
    refine lv_aload_n hx hb dX12_fault_4 rfl (lv_at hl 0 rfl) ?_
    refine rg_o_faultKind hx hb hts hown hK hP uw_7_27 dX12_fault_5 ?_
    refine lv_goto (tgt := 24) hx hb dX12_fault_8 (by decide) ?_
    exact r_i hx hb hr hlocks dX12_fault_24 hS ⟨by omega, hP⟩
set_option maxHeartbeats 4000000 in
set_option maxRecDepth 100000 in
theorem kr_X12_isIn {p0 p1 p2 : Int} (hp0 : -2147483648 ≤ p0 ∧ p0 ≤ 2147483647) (hp1 : -2147483648 ≤ p1 ∧ p1 ≤ 2147483647) (hp2 : -2147483648 ≤ p2 ∧ p2 ≤ 2147483647) : MetG l D k yX12_isIn cX12_isIn 3 (some .boolean) 0 [.int (mI p0), .int (mI p1), .int (mI p2)] (rW k a x_taped x_size x_faultKind x_faultPlace x_at x_end x_token x_number x_bank x_rb x_codes x_within x_piled x_unitsInRule x_askBeast x_askStroke x_askAge x_askSeason x_acts x_undone x_laid x_seens x_time x_fitting n_name B_tape B_text B_turns B_herds B_irons B_beasts B_units B_night B_draw B_told B_brands B_ironMarks B_herdTold B_born B_ruleFrom B_ruleTo B_code B_codeNumber B_eWhat B_eSign B_pile B_all B_burned B_was B_need B_laidRow B_long8 B_brings B_sBurning B_sStroke B_sIs B_sTold B_sUntold B_parts B_boxAll B_isBoxed G_hName G_iName G_bName ex) (qGi (fun r0 H => ((0 = r0 ∧ ((p0 < p1) ∨ (p0 ≥ p1 ∧ p0 > p2))) ∨ (1 = r0 ∧ (0 ≤ p0 - p1) ∧ (0 ≤ p2 - p0))) ∧ va_P D vwCl (rW k a x_taped x_size x_faultKind x_faultPlace x_at x_end x_token x_number x_bank x_rb x_codes x_within x_piled x_unitsInRule x_askBeast x_askStroke x_askAge x_askSeason x_acts x_undone x_laid x_seens x_time x_fitting n_name B_tape B_text B_turns B_herds B_irons B_beasts B_units B_night B_draw B_told B_brands B_ironMarks B_herdTold B_born B_ruleFrom B_ruleTo B_code B_codeNumber B_eWhat B_eSign B_pile B_all B_burned B_was B_need B_laidRow B_long8 B_brings B_sBurning B_sStroke B_sIs B_sTold B_sUntold B_parts B_boxAll B_isBoxed G_hName G_iName G_bName ex) H)) := by
  refine metG_of 3 ck_X12_isIn (Nat.le_of_ble_eq_true rfl) rMap (fun p e s m args below meth c A hx hb hml hr hlocks hown hts hK hD hA hP hS ls hl => ?_)
  have hown : s.vm.findClass "HideReaderModel" = some m.cls := hown
  have hl : lv_has ls 3 [(0, .int (mI p0)), (1, .int (mI p1)), (2, .int (mI p2))] := hl
  refine lv_iload_n hx hb dX12_isIn_0 rfl (lv_at hl 0 rfl) ?_
  refine lv_iload_n hx hb dX12_isIn_1 rfl (lv_at hl 1 rfl) ?_
  refine sy_icmp_lt (tgt := 14) hx hb dX12_isIn_2 (by decide) (by omega) (by omega) (fun c_1 => ?_) (fun c_1 => ?_)
  · skip
    refine lv_iconst (v := mI 0) hx hb dX12_isIn_14 rfl ?_
    exact r_z hx hb hr hlocks dX12_isIn_15 hS (by decide) ⟨Or.inl (⟨rfl, by omega⟩), hP⟩
  · skip
    refine lv_iload_n hx hb dX12_isIn_5 rfl (lv_at hl 0 rfl) ?_
    refine lv_iload_n hx hb dX12_isIn_6 rfl (lv_at hl 2 rfl) ?_
    refine sy_icmp_gt (tgt := 14) hx hb dX12_isIn_7 (by decide) (by omega) (by omega) (fun c_2 => ?_) (fun c_2 => ?_)
    · skip
      refine lv_iconst (v := mI 0) hx hb dX12_isIn_14 rfl ?_
      exact r_z hx hb hr hlocks dX12_isIn_15 hS (by decide) ⟨Or.inl (⟨rfl, by omega⟩), hP⟩
    · skip
      refine lv_iconst (v := mI 1) hx hb dX12_isIn_10 rfl ?_
      refine lv_goto (tgt := 15) hx hb dX12_isIn_11 (by decide) ?_
      exact r_z hx hb hr hlocks dX12_isIn_15 hS (by decide) ⟨Or.inr (⟨rfl, by omega, by omega⟩), hP⟩
set_option maxHeartbeats 4000000 in
set_option maxRecDepth 100000 in
theorem kr_X12_divisor {p0 p1 : Int} (hp0 : 1 ≤ p0 ∧ p0 ≤ 100000000) (hp1 : 0 ≤ p1 ∧ p1 ≤ 100000000) : MetG l D k yX12_divisor cX12_divisor 5 (some .int) 0 [.int (mI p0), .int (mI p1)] (rW k a x_taped x_size x_faultKind x_faultPlace x_at x_end x_token x_number x_bank x_rb x_codes x_within x_piled x_unitsInRule x_askBeast x_askStroke x_askAge x_askSeason x_acts x_undone x_laid x_seens x_time x_fitting n_name B_tape B_text B_turns B_herds B_irons B_beasts B_units B_night B_draw B_told B_brands B_ironMarks B_herdTold B_born B_ruleFrom B_ruleTo B_code B_codeNumber B_eWhat B_eSign B_pile B_all B_burned B_was B_need B_laidRow B_long8 B_brings B_sBurning B_sStroke B_sIs B_sTold B_sUntold B_parts B_boxAll B_isBoxed G_hName G_iName G_bName ex) (qGi (fun r0 H => (1 ≤ r0 ∧ r0 ≤ 100000000) ∧ va_P D vwCl (rW k a x_taped x_size x_faultKind x_faultPlace x_at x_end x_token x_number x_bank x_rb x_codes x_within x_piled x_unitsInRule x_askBeast x_askStroke x_askAge x_askSeason x_acts x_undone x_laid x_seens x_time x_fitting n_name B_tape B_text B_turns B_herds B_irons B_beasts B_units B_night B_draw B_told B_brands B_ironMarks B_herdTold B_born B_ruleFrom B_ruleTo B_code B_codeNumber B_eWhat B_eSign B_pile B_all B_burned B_was B_need B_laidRow B_long8 B_brings B_sBurning B_sStroke B_sIs B_sTold B_sUntold B_parts B_boxAll B_isBoxed G_hName G_iName G_bName ex) H)) := by
  refine metG_of 2 ck_X12_divisor (Nat.le_of_ble_eq_true rfl) rMap (fun p e s m args below meth c A hx hb hml hr hlocks hown hts hK hD hA hP hS ls hl => ?_)
  have hown : s.vm.findClass "HideReaderModel" = some m.cls := hown
  have hl : lv_has ls 5 [(0, .int (mI p0)), (1, .int (mI p1))] := hl
  refine lv_iload_n hx hb dX12_divisor_0 rfl (lv_at hl 0 rfl) ?_
  refine lv_istore_n (lv' := [(2, .int (mI p0)), (0, .int (mI p0)), (1, .int (mI p1))]) hx hb dX12_divisor_1 rfl hl (by decide) rfl (fun ls hl => ?_)
  refine lv_iload_n hx hb dX12_divisor_2 rfl (lv_at hl 2 rfl) ?_
  refine lv_istore_n (lv' := [(3, .int (mI p1)), (2, .int (mI p0)), (0, .int (mI p0)), (1, .int (mI p1))]) hx hb dX12_divisor_3 rfl hl (by decide) rfl (fun ls hl => ?_)
  refine sy_loop (I := fun n H locs g => ∃ (z_27 : Int) (z_28 : Int) (ls : Array Slot), (0 ≤ z_27 ∧ z_27 ≤ 100000000) ∧ (1 ≤ z_28 ∧ z_28 ≤ 100000000) ∧ (0 ≤ p1 - z_27) ∧ (z_27 - (0)).toNat = n ∧ va_P D vwCl (rW k a x_taped x_size x_faultKind x_faultPlace x_at x_end x_token x_number x_bank x_rb x_codes x_within x_piled x_unitsInRule x_askBeast x_askStroke x_askAge x_askSeason x_acts x_undone x_laid x_seens x_time x_fitting n_name B_tape B_text B_turns B_herds B_irons B_beasts B_units B_night B_draw B_told B_brands B_ironMarks B_herdTold B_born B_ruleFrom B_ruleTo B_code B_codeNumber B_eWhat B_eSign B_pile B_all B_burned B_was B_need B_laidRow B_long8 B_brings B_sBurning B_sStroke B_sIs B_sTold B_sUntold B_parts B_boxAll B_isBoxed G_hName G_iName G_bName ex) H ∧ va_S A s.heap H locs ∧ lv_has ls 5 [(3, .int (mI z_27)), (2, .int (mI z_28)), (0, .int (mI p0)), (1, .int (mI p1))] ∧ g = F0 m 4 ls []) ?_ _ ⟨p1, p0, _, by omega, by omega, by omega, rfl, hP, hS, lv_sub hl [0, 1, 2, 3] rfl, rfl⟩
  intro n_31 H locs g hI ih_32
  obtain ⟨z_27, z_28, ls, h4_0, h4_1, h4_2, mn_31, hP, hS, hl, rfl⟩ := hI
  refine lv_iload_n hx hb dX12_divisor_4 rfl (lv_at hl 0 rfl) ?_
  refine sy_if_le (tgt := 21) hx hb dX12_divisor_5 (by decide) (by omega) (fun c_33 => ?_) (fun c_33 => ?_)
  · skip
    refine lv_iload_n hx hb dX12_divisor_21 rfl (lv_at hl 1 rfl) ?_
    exact r_i hx hb hr hlocks dX12_divisor_22 hS ⟨by omega, hP⟩
  · skip
    refine lv_iload_n hx hb dX12_divisor_8 rfl (lv_at hl 1 rfl) ?_
    refine lv_iload_n hx hb dX12_divisor_9 rfl (lv_at hl 0 rfl) ?_
    refine sy_irem hx hb dX12_divisor_10 (by omega) (by omega) (fun z_34 ez_34 hz_34 => ?_)
    refine lv_istore (lv' := [(4, .int (mI z_34)), (3, .int (mI z_27)), (2, .int (mI z_28)), (0, .int (mI p0)), (1, .int (mI p1))]) hx hb dX12_divisor_11 hl (by decide) rfl (fun ls hl => ?_)
    refine lv_iload_n hx hb dX12_divisor_13 rfl (lv_at hl 1 rfl) ?_
    refine lv_istore_n (lv' := [(2, .int (mI z_27)), (4, .int (mI z_34)), (3, .int (mI z_27)), (0, .int (mI p0)), (1, .int (mI p1))]) hx hb dX12_divisor_14 rfl hl (by decide) rfl (fun ls hl => ?_)
    refine lv_iload hx hb dX12_divisor_15 (lv_at hl 1 rfl) ?_
    refine lv_istore_n (lv' := [(3, .int (mI z_34)), (2, .int (mI z_27)), (4, .int (mI z_34)), (0, .int (mI p0)), (1, .int (mI p1))]) hx hb dX12_divisor_17 rfl hl (by decide) rfl (fun ls hl => ?_)
    refine lv_goto (tgt := 4) hx hb dX12_divisor_18 (by decide) ?_
    exact ih_32 _ _ _ _ (by omega) ⟨z_34, z_27, _, by omega, by omega, by omega, rfl, hP, hS, lv_sub hl [0, 1, 3, 4] rfl, rfl⟩
set_option maxHeartbeats 4000000 in
set_option maxRecDepth 100000 in
theorem kr_X12_power {p0 p1 : Int} (hp0 : 0 ≤ p0 ∧ p0 ≤ 100) (hp1 : 0 ≤ p1 ∧ p1 ≤ 4) : MetG l D k yX12_power cX12_power 4 (some .int) 0 [.int (mI p0), .int (mI p1)] (rW k a x_taped x_size x_faultKind x_faultPlace x_at x_end x_token x_number x_bank x_rb x_codes x_within x_piled x_unitsInRule x_askBeast x_askStroke x_askAge x_askSeason x_acts x_undone x_laid x_seens x_time x_fitting n_name B_tape B_text B_turns B_herds B_irons B_beasts B_units B_night B_draw B_told B_brands B_ironMarks B_herdTold B_born B_ruleFrom B_ruleTo B_code B_codeNumber B_eWhat B_eSign B_pile B_all B_burned B_was B_need B_laidRow B_long8 B_brings B_sBurning B_sStroke B_sIs B_sTold B_sUntold B_parts B_boxAll B_isBoxed G_hName G_iName G_bName ex) (qGi (fun r0 H => (0 ≤ r0 ∧ r0 ≤ 100000000) ∧ va_P D vwCl (rW k a x_taped x_size x_faultKind x_faultPlace x_at x_end x_token x_number x_bank x_rb x_codes x_within x_piled x_unitsInRule x_askBeast x_askStroke x_askAge x_askSeason x_acts x_undone x_laid x_seens x_time x_fitting n_name B_tape B_text B_turns B_herds B_irons B_beasts B_units B_night B_draw B_told B_brands B_ironMarks B_herdTold B_born B_ruleFrom B_ruleTo B_code B_codeNumber B_eWhat B_eSign B_pile B_all B_burned B_was B_need B_laidRow B_long8 B_brings B_sBurning B_sStroke B_sIs B_sTold B_sUntold B_parts B_boxAll B_isBoxed G_hName G_iName G_bName ex) H)) := by
  refine metG_of 2 ck_X12_power (Nat.le_of_ble_eq_true rfl) rMap (fun p e s m args below meth c A hx hb hml hr hlocks hown hts hK hD hA hP hS ls hl => ?_)
  have hown : s.vm.findClass "HideReaderModel" = some m.cls := hown
  have hl : lv_has ls 4 [(0, .int (mI p0)), (1, .int (mI p1))] := hl
  refine lv_iconst (v := mI 1) hx hb dX12_power_0 rfl ?_
  refine lv_istore_n (lv' := [(2, .int (mI 1)), (0, .int (mI p0)), (1, .int (mI p1))]) hx hb dX12_power_1 rfl hl (by decide) rfl (fun ls hl => ?_)
  refine lv_iconst (v := mI 0) hx hb dX12_power_2 rfl ?_
  refine lv_istore_n (lv' := [(3, .int (mI 0)), (2, .int (mI 1)), (0, .int (mI p0)), (1, .int (mI p1))]) hx hb dX12_power_3 rfl hl (by decide) rfl (fun ls hl => ?_)
  refine lv_iload_n hx hb dX12_power_4 rfl (lv_at hl 0 rfl) ?_
  refine lv_iload_n hx hb dX12_power_5 rfl (lv_at hl 3 rfl) ?_
  refine sy_icmp_ge (tgt := 19) hx hb dX12_power_6 (by decide) (by decide) (by omega) (fun c_1 => ?_) (fun c_1 => ?_)
  · skip
    refine lv_iload_n hx hb dX12_power_19 rfl (lv_at hl 1 rfl) ?_
    exact r_i hx hb hr hlocks dX12_power_20 hS ⟨by omega, hP⟩
  · skip
    refine lv_iload_n hx hb dX12_power_9 rfl (lv_at hl 1 rfl) ?_
    refine lv_iload_n hx hb dX12_power_10 rfl (lv_at hl 2 rfl) ?_
    refine sy_imul hx hb dX12_power_11 p0 (by omega) ?_
    refine lv_istore_n (lv' := [(2, .int (mI p0)), (3, .int (mI 0)), (0, .int (mI p0)), (1, .int (mI p1))]) hx hb dX12_power_12 rfl hl (by decide) rfl (fun ls hl => ?_)
    refine lv_iinc (v := mI 1) (lv' := [(3, .int (mI 1)), (2, .int (mI p0)), (0, .int (mI p0)), (1, .int (mI p1))]) hx hb dX12_power_13 hl (k := 1) rfl (mI_ad (by omega)) (by decide) rfl (fun ls hl => ?_)
    refine lv_goto (tgt := 4) hx hb dX12_power_16 (by decide) ?_
    refine lv_iload_n hx hb dX12_power_4 rfl (lv_at hl 0 rfl) ?_
    refine lv_iload_n hx hb dX12_power_5 rfl (lv_at hl 3 rfl) ?_
    refine sy_icmp_ge (tgt := 19) hx hb dX12_power_6 (by decide) (by decide) (by omega) (fun c_2 => ?_) (fun c_2 => ?_)
    · skip
      refine lv_iload_n hx hb dX12_power_19 rfl (lv_at hl 1 rfl) ?_
      exact r_i hx hb hr hlocks dX12_power_20 hS ⟨by omega, hP⟩
    · skip
      refine lv_iload_n hx hb dX12_power_9 rfl (lv_at hl 1 rfl) ?_
      refine lv_iload_n hx hb dX12_power_10 rfl (lv_at hl 2 rfl) ?_
      refine sy_imulB (A := 100) (B := 100) hx hb dX12_power_11 10000 (by decide) (by omega) (by omega) (fun z_3 ez_3 hz_3 => ?_)
      refine lv_istore_n (lv' := [(2, .int (mI z_3)), (3, .int (mI 1)), (0, .int (mI p0)), (1, .int (mI p1))]) hx hb dX12_power_12 rfl hl (by decide) rfl (fun ls hl => ?_)
      refine lv_iinc (v := mI 2) (lv' := [(3, .int (mI 2)), (2, .int (mI z_3)), (0, .int (mI p0)), (1, .int (mI p1))]) hx hb dX12_power_13 hl (k := 1) rfl (mI_ad (by omega)) (by decide) rfl (fun ls hl => ?_)
      refine lv_goto (tgt := 4) hx hb dX12_power_16 (by decide) ?_
      refine lv_iload_n hx hb dX12_power_4 rfl (lv_at hl 0 rfl) ?_
      refine lv_iload_n hx hb dX12_power_5 rfl (lv_at hl 3 rfl) ?_
      refine sy_icmp_ge (tgt := 19) hx hb dX12_power_6 (by decide) (by decide) (by omega) (fun c_4 => ?_) (fun c_4 => ?_)
      · skip
        refine lv_iload_n hx hb dX12_power_19 rfl (lv_at hl 1 rfl) ?_
        exact r_i hx hb hr hlocks dX12_power_20 hS ⟨by omega, hP⟩
      · skip
        refine lv_iload_n hx hb dX12_power_9 rfl (lv_at hl 1 rfl) ?_
        refine lv_iload_n hx hb dX12_power_10 rfl (lv_at hl 2 rfl) ?_
        refine sy_imulB (A := 10000) (B := 100) hx hb dX12_power_11 1000000 (by decide) (by omega) (by omega) (fun z_5 ez_5 hz_5 => ?_)
        refine lv_istore_n (lv' := [(2, .int (mI z_5)), (3, .int (mI 2)), (0, .int (mI p0)), (1, .int (mI p1))]) hx hb dX12_power_12 rfl hl (by decide) rfl (fun ls hl => ?_)
        refine lv_iinc (v := mI 3) (lv' := [(3, .int (mI 3)), (2, .int (mI z_5)), (0, .int (mI p0)), (1, .int (mI p1))]) hx hb dX12_power_13 hl (k := 1) rfl (mI_ad (by omega)) (by decide) rfl (fun ls hl => ?_)
        refine lv_goto (tgt := 4) hx hb dX12_power_16 (by decide) ?_
        refine lv_iload_n hx hb dX12_power_4 rfl (lv_at hl 0 rfl) ?_
        refine lv_iload_n hx hb dX12_power_5 rfl (lv_at hl 3 rfl) ?_
        refine sy_icmp_ge (tgt := 19) hx hb dX12_power_6 (by decide) (by decide) (by omega) (fun c_6 => ?_) (fun c_6 => ?_)
        · skip
          refine lv_iload_n hx hb dX12_power_19 rfl (lv_at hl 1 rfl) ?_
          exact r_i hx hb hr hlocks dX12_power_20 hS ⟨by omega, hP⟩
        · skip
          refine lv_iload_n hx hb dX12_power_9 rfl (lv_at hl 1 rfl) ?_
          refine lv_iload_n hx hb dX12_power_10 rfl (lv_at hl 2 rfl) ?_
          refine sy_imulB (A := 1000000) (B := 100) hx hb dX12_power_11 100000000 (by decide) (by omega) (by omega) (fun z_7 ez_7 hz_7 => ?_)
          refine lv_istore_n (lv' := [(2, .int (mI z_7)), (3, .int (mI 3)), (0, .int (mI p0)), (1, .int (mI p1))]) hx hb dX12_power_12 rfl hl (by decide) rfl (fun ls hl => ?_)
          refine lv_iinc (v := mI 4) (lv' := [(3, .int (mI 4)), (2, .int (mI z_7)), (0, .int (mI p0)), (1, .int (mI p1))]) hx hb dX12_power_13 hl (k := 1) rfl (mI_ad (by omega)) (by decide) rfl (fun ls hl => ?_)
          refine lv_goto (tgt := 4) hx hb dX12_power_16 (by decide) ?_
          refine lv_iload_n hx hb dX12_power_4 rfl (lv_at hl 0 rfl) ?_
          refine lv_iload_n hx hb dX12_power_5 rfl (lv_at hl 3 rfl) ?_
          refine sy_icmp_ge (tgt := 19) hx hb dX12_power_6 (by decide) (by decide) (by omega) (fun c_8 => ?_) (fun c9 => False.elim (by omega))
          refine lv_iload_n hx hb dX12_power_19 rfl (lv_at hl 1 rfl) ?_
          exact r_i hx hb hr hlocks dX12_power_20 hS ⟨by omega, hP⟩
set_option maxHeartbeats 4000000 in
set_option maxRecDepth 100000 in
theorem kr_X12_isMark {p0 : Int} (hp0 : -2147483648 ≤ p0 ∧ p0 ≤ 2147483647) : MetG l D k yX12_isMark cX12_isMark 1 (some .boolean) 0 [.int (mI p0)] (rW k a x_taped x_size x_faultKind x_faultPlace x_at x_end x_token x_number x_bank x_rb x_codes x_within x_piled x_unitsInRule x_askBeast x_askStroke x_askAge x_askSeason x_acts x_undone x_laid x_seens x_time x_fitting n_name B_tape B_text B_turns B_herds B_irons B_beasts B_units B_night B_draw B_told B_brands B_ironMarks B_herdTold B_born B_ruleFrom B_ruleTo B_code B_codeNumber B_eWhat B_eSign B_pile B_all B_burned B_was B_need B_laidRow B_long8 B_brings B_sBurning B_sStroke B_sIs B_sTold B_sUntold B_parts B_boxAll B_isBoxed G_hName G_iName G_bName ex) (qGi (fun r0 H => ((0 = r0 ∧ ((p0 < 0) ∨ (p0 ≥ 0 ∧ p0 ≥ 4096))) ∨ (1 = r0 ∧ (0 ≤ p0 ∧ p0 ≤ 4095))) ∧ va_P D vwCl (rW k a x_taped x_size x_faultKind x_faultPlace x_at x_end x_token x_number x_bank x_rb x_codes x_within x_piled x_unitsInRule x_askBeast x_askStroke x_askAge x_askSeason x_acts x_undone x_laid x_seens x_time x_fitting n_name B_tape B_text B_turns B_herds B_irons B_beasts B_units B_night B_draw B_told B_brands B_ironMarks B_herdTold B_born B_ruleFrom B_ruleTo B_code B_codeNumber B_eWhat B_eSign B_pile B_all B_burned B_was B_need B_laidRow B_long8 B_brings B_sBurning B_sStroke B_sIs B_sTold B_sUntold B_parts B_boxAll B_isBoxed G_hName G_iName G_bName ex) H)) := by
  refine metG_of 1 ck_X12_isMark (Nat.le_of_ble_eq_true rfl) rMap (fun p e s m args below meth c A hx hb hml hr hlocks hown hts hK hD hA hP hS ls hl => ?_)
  have hown : s.vm.findClass "HideReaderModel" = some m.cls := hown
  have hl : lv_has ls 1 [(0, .int (mI p0))] := hl
  refine lv_iload_n hx hb dX12_isMark_0 rfl (lv_at hl 0 rfl) ?_
  refine sy_if_lt (tgt := 15) hx hb dX12_isMark_1 (by decide) (by omega) (fun c_1 => ?_) (fun c_1 => ?_)
  · skip
    refine lv_iconst (v := mI 0) hx hb dX12_isMark_15 rfl ?_
    exact r_z hx hb hr hlocks dX12_isMark_16 hS (by decide) ⟨Or.inl (⟨rfl, by omega⟩), hP⟩
  · skip
    refine lv_iload_n hx hb dX12_isMark_4 rfl (lv_at hl 0 rfl) ?_
    refine lv_sipush (v := mI 4096) hx hb dX12_isMark_5 (by decide) ?_
    refine sy_icmp_ge (tgt := 15) hx hb dX12_isMark_8 (by decide) (by omega) (by decide) (fun c_2 => ?_) (fun c_2 => ?_)
    · skip
      refine lv_iconst (v := mI 0) hx hb dX12_isMark_15 rfl ?_
      exact r_z hx hb hr hlocks dX12_isMark_16 hS (by decide) ⟨Or.inl (⟨rfl, by omega⟩), hP⟩
    · skip
      refine lv_iconst (v := mI 1) hx hb dX12_isMark_11 rfl ?_
      refine lv_goto (tgt := 16) hx hb dX12_isMark_12 (by decide) ?_
      exact r_z hx hb hr hlocks dX12_isMark_16 hS (by decide) ⟨Or.inr (⟨rfl, by omega⟩), hP⟩
set_option maxHeartbeats 4000000 in
set_option maxRecDepth 100000 in
theorem kr_X12_turned {p0 : Int} (hp0 : 0 ≤ p0 ∧ p0 ≤ 11) : MetG l D k yX12_turned cX12_turned 1 (some .int) 0 [.int (mI p0)] (rW k a x_taped x_size x_faultKind x_faultPlace x_at x_end x_token x_number x_bank x_rb x_codes x_within x_piled x_unitsInRule x_askBeast x_askStroke x_askAge x_askSeason x_acts x_undone x_laid x_seens x_time x_fitting n_name B_tape B_text B_turns B_herds B_irons B_beasts B_units B_night B_draw B_told B_brands B_ironMarks B_herdTold B_born B_ruleFrom B_ruleTo B_code B_codeNumber B_eWhat B_eSign B_pile B_all B_burned B_was B_need B_laidRow B_long8 B_brings B_sBurning B_sStroke B_sIs B_sTold B_sUntold B_parts B_boxAll B_isBoxed G_hName G_iName G_bName ex) (qGi (fun r0 H => (0 ≤ r0 ∧ r0 ≤ 11) ∧ (r0 = ((trN p0.toNat : Nat) : Int)) ∧ va_P D vwCl (rW k a x_taped x_size x_faultKind x_faultPlace x_at x_end x_token x_number x_bank x_rb x_codes x_within x_piled x_unitsInRule x_askBeast x_askStroke x_askAge x_askSeason x_acts x_undone x_laid x_seens x_time x_fitting n_name B_tape B_text B_turns B_herds B_irons B_beasts B_units B_night B_draw B_told B_brands B_ironMarks B_herdTold B_born B_ruleFrom B_ruleTo B_code B_codeNumber B_eWhat B_eSign B_pile B_all B_burned B_was B_need B_laidRow B_long8 B_brings B_sBurning B_sStroke B_sIs B_sTold B_sUntold B_parts B_boxAll B_isBoxed G_hName G_iName G_bName ex) H)) := by
  refine metG_of 1 ck_X12_turned (Nat.le_of_ble_eq_true rfl) rMap (fun p e s m args below meth c A hx hb hml hr hlocks hown hts hK hD hA hP hS ls hl => ?_)
  have hown : s.vm.findClass "HideReaderModel" = some m.cls := hown
  have hl : lv_has ls 1 [(0, .int (mI p0))] := hl
  refine lv_iload_n hx hb dX12_turned_0 rfl (lv_at hl 0 rfl) ?_
  refine lv_bipush (v := mI 6) hx hb dX12_turned_1 (by decide) ?_
  refine sy_icmp_ge (tgt := 21) hx hb dX12_turned_3 (by decide) (by omega) (by decide) (fun c_1 => ?_) (fun c_1 => ?_)
  · skip
    refine lv_iconst (v := mI 2) hx hb dX12_turned_21 rfl ?_
    refine lv_iload_n hx hb dX12_turned_22 rfl (lv_at hl 0 rfl) ?_
    refine lv_bipush (v := mI 6) hx hb dX12_turned_23 (by decide) ?_
    refine sy_isub hx hb dX12_turned_25 (p0 - 6) rfl ?_
    refine lv_iconst (v := mI 3) hx hb dX12_turned_26 rfl ?_
    refine sy_irem hx hb dX12_turned_27 (by omega) (by omega) (fun z_2 ez_2 hz_2 => ?_)
    refine sy_imul hx hb dX12_turned_28 (2 * z_2) rfl ?_
    refine lv_iconst (v := mI 1) hx hb dX12_turned_29 rfl ?_
    refine sy_iadd hx hb dX12_turned_30 (2 * z_2 + 1) rfl ?_
    refine lv_iload_n hx hb dX12_turned_31 rfl (lv_at hl 0 rfl) ?_
    refine lv_bipush (v := mI 6) hx hb dX12_turned_32 (by decide) ?_
    refine sy_isub hx hb dX12_turned_34 (p0 - 6) rfl ?_
    refine lv_iconst (v := mI 3) hx hb dX12_turned_35 rfl ?_
    refine sy_idiv hx hb dX12_turned_36 (by omega) (by omega) (fun z_3 ez_3 hz_3 => ?_)
    refine sy_isub hx hb dX12_turned_37 (2 * z_2 - z_3 + 1) (by omega) ?_
    exact r_i hx hb hr hlocks dX12_turned_38 hS ⟨by omega, (by have h9 := trN_d (s := p0) (by omega); omega), hP⟩
  · skip
    refine lv_bipush (v := mI 6) hx hb dX12_turned_6 (by decide) ?_
    refine lv_iconst (v := mI 3) hx hb dX12_turned_8 rfl ?_
    refine lv_iload_n hx hb dX12_turned_9 rfl (lv_at hl 0 rfl) ?_
    refine lv_iconst (v := mI 2) hx hb dX12_turned_10 rfl ?_
    refine sy_irem hx hb dX12_turned_11 (by omega) (by omega) (fun z_4 ez_4 hz_4 => ?_)
    refine sy_imul hx hb dX12_turned_12 (3 * z_4) rfl ?_
    refine sy_iadd hx hb dX12_turned_13 (3 * z_4 + 6) (by omega) ?_
    refine lv_iconst (v := mI 2) hx hb dX12_turned_14 rfl ?_
    refine sy_iadd hx hb dX12_turned_15 (3 * z_4 + 8) (by omega) ?_
    refine lv_iload_n hx hb dX12_turned_16 rfl (lv_at hl 0 rfl) ?_
    refine lv_iconst (v := mI 2) hx hb dX12_turned_17 rfl ?_
    refine sy_idiv hx hb dX12_turned_18 (by omega) (by omega) (fun z_5 ez_5 hz_5 => ?_)
    refine sy_isub hx hb dX12_turned_19 (3 * z_4 - z_5 + 8) (by omega) ?_
    exact r_i hx hb hr hlocks dX12_turned_20 hS ⟨by omega, (by have h9 := trN_d (s := p0) (by omega); omega), hP⟩
set_option maxHeartbeats 4000000 in
set_option maxRecDepth 100000 in
theorem kr_X12_mirrored {p0 : Int} (hp0 : 0 ≤ p0 ∧ p0 ≤ 11) : MetG l D k yX12_mirrored cX12_mirrored 1 (some .int) 0 [.int (mI p0)] (rW k a x_taped x_size x_faultKind x_faultPlace x_at x_end x_token x_number x_bank x_rb x_codes x_within x_piled x_unitsInRule x_askBeast x_askStroke x_askAge x_askSeason x_acts x_undone x_laid x_seens x_time x_fitting n_name B_tape B_text B_turns B_herds B_irons B_beasts B_units B_night B_draw B_told B_brands B_ironMarks B_herdTold B_born B_ruleFrom B_ruleTo B_code B_codeNumber B_eWhat B_eSign B_pile B_all B_burned B_was B_need B_laidRow B_long8 B_brings B_sBurning B_sStroke B_sIs B_sTold B_sUntold B_parts B_boxAll B_isBoxed G_hName G_iName G_bName ex) (qGi (fun r0 H => (0 ≤ r0 ∧ r0 ≤ 11) ∧ (r0 = ((miN p0.toNat : Nat) : Int)) ∧ va_P D vwCl (rW k a x_taped x_size x_faultKind x_faultPlace x_at x_end x_token x_number x_bank x_rb x_codes x_within x_piled x_unitsInRule x_askBeast x_askStroke x_askAge x_askSeason x_acts x_undone x_laid x_seens x_time x_fitting n_name B_tape B_text B_turns B_herds B_irons B_beasts B_units B_night B_draw B_told B_brands B_ironMarks B_herdTold B_born B_ruleFrom B_ruleTo B_code B_codeNumber B_eWhat B_eSign B_pile B_all B_burned B_was B_need B_laidRow B_long8 B_brings B_sBurning B_sStroke B_sIs B_sTold B_sUntold B_parts B_boxAll B_isBoxed G_hName G_iName G_bName ex) H)) := by
  refine metG_of 1 ck_X12_mirrored (Nat.le_of_ble_eq_true rfl) rMap (fun p e s m args below meth c A hx hb hml hr hlocks hown hts hK hD hA hP hS ls hl => ?_)
  have hown : s.vm.findClass "HideReaderModel" = some m.cls := hown
  have hl : lv_has ls 1 [(0, .int (mI p0))] := hl
  refine lv_iload_n hx hb dX12_mirrored_0 rfl (lv_at hl 0 rfl) ?_
  refine lv_bipush (v := mI 6) hx hb dX12_mirrored_1 (by decide) ?_
  refine sy_icmp_ge (tgt := 18) hx hb dX12_mirrored_3 (by decide) (by omega) (by decide) (fun c_1 => ?_) (fun c_1 => ?_)
  · skip
    refine lv_bipush (v := mI 6) hx hb dX12_mirrored_18 (by decide) ?_
    refine lv_iload_n hx hb dX12_mirrored_20 rfl (lv_at hl 0 rfl) ?_
    refine lv_bipush (v := mI 6) hx hb dX12_mirrored_21 (by decide) ?_
    refine sy_isub hx hb dX12_mirrored_23 (p0 - 6) rfl ?_
    refine lv_iconst (v := mI 3) hx hb dX12_mirrored_24 rfl ?_
    refine sy_idiv hx hb dX12_mirrored_25 (by omega) (by omega) (fun z_2 ez_2 hz_2 => ?_)
    refine lv_iconst (v := mI 3) hx hb dX12_mirrored_26 rfl ?_
    refine sy_imul hx hb dX12_mirrored_27 (3 * z_2) (by omega) ?_
    refine sy_iadd hx hb dX12_mirrored_28 (3 * z_2 + 6) (by omega) ?_
    refine lv_iconst (v := mI 2) hx hb dX12_mirrored_29 rfl ?_
    refine sy_iadd hx hb dX12_mirrored_30 (3 * z_2 + 8) (by omega) ?_
    refine lv_iload_n hx hb dX12_mirrored_31 rfl (lv_at hl 0 rfl) ?_
    refine lv_bipush (v := mI 6) hx hb dX12_mirrored_32 (by decide) ?_
    refine sy_isub hx hb dX12_mirrored_34 (p0 - 6) rfl ?_
    refine lv_iconst (v := mI 3) hx hb dX12_mirrored_35 rfl ?_
    refine sy_irem hx hb dX12_mirrored_36 (by omega) (by omega) (fun z_3 ez_3 hz_3 => ?_)
    refine sy_isub hx hb dX12_mirrored_37 (3 * z_2 - z_3 + 8) (by omega) ?_
    exact r_i hx hb hr hlocks dX12_mirrored_38 hS ⟨by omega, (by have h9 := miN_d (s := p0) (by omega); omega), hP⟩
  · skip
    refine lv_iload_n hx hb dX12_mirrored_6 rfl (lv_at hl 0 rfl) ?_
    refine lv_iconst (v := mI 2) hx hb dX12_mirrored_7 rfl ?_
    refine sy_idiv hx hb dX12_mirrored_8 (by omega) (by omega) (fun z_4 ez_4 hz_4 => ?_)
    refine lv_iconst (v := mI 2) hx hb dX12_mirrored_9 rfl ?_
    refine sy_imul hx hb dX12_mirrored_10 (2 * z_4) (by omega) ?_
    refine lv_iconst (v := mI 1) hx hb dX12_mirrored_11 rfl ?_
    refine sy_iadd hx hb dX12_mirrored_12 (2 * z_4 + 1) rfl ?_
    refine lv_iload_n hx hb dX12_mirrored_13 rfl (lv_at hl 0 rfl) ?_
    refine lv_iconst (v := mI 2) hx hb dX12_mirrored_14 rfl ?_
    refine sy_irem hx hb dX12_mirrored_15 (by omega) (by omega) (fun z_5 ez_5 hz_5 => ?_)
    refine sy_isub hx hb dX12_mirrored_16 (2 * z_4 - z_5 + 1) (by omega) ?_
    exact r_i hx hb hr hlocks dX12_mirrored_17 hS ⟨by omega, (by have h9 := miN_d (s := p0) (by omega); omega), hP⟩
set_option maxHeartbeats 4000000 in
set_option maxRecDepth 100000 in
theorem kr_X12_turnedMark {p0 : Int} (hp0 : 0 ≤ p0 ∧ p0 ≤ 4095) : MetG l D k yX12_turnedMark cX12_turnedMark 3 (some .int) 1 [.int (mI p0)] (rW k a x_taped x_size x_faultKind x_faultPlace x_at x_end x_token x_number x_bank x_rb x_codes x_within x_piled x_unitsInRule x_askBeast x_askStroke x_askAge x_askSeason x_acts x_undone x_laid x_seens x_time x_fitting n_name B_tape B_text B_turns B_herds B_irons B_beasts B_units B_night B_draw B_told B_brands B_ironMarks B_herdTold B_born B_ruleFrom B_ruleTo B_code B_codeNumber B_eWhat B_eSign B_pile B_all B_burned B_was B_need B_laidRow B_long8 B_brings B_sBurning B_sStroke B_sIs B_sTold B_sUntold B_parts B_boxAll B_isBoxed G_hName G_iName G_bName ex) (qGi (fun r0 H => (0 ≤ r0 ∧ r0 ≤ 4095) ∧ (r0.toNat = tmN trN p0.toNat 12) ∧ va_P D vwCl (rW k a x_taped x_size x_faultKind x_faultPlace x_at x_end x_token x_number x_bank x_rb x_codes x_within x_piled x_unitsInRule x_askBeast x_askStroke x_askAge x_askSeason x_acts x_undone x_laid x_seens x_time x_fitting n_name B_tape B_text B_turns B_herds B_irons B_beasts B_units B_night B_draw B_told B_brands B_ironMarks B_herdTold B_born B_ruleFrom B_ruleTo B_code B_codeNumber B_eWhat B_eSign B_pile B_all B_burned B_was B_need B_laidRow B_long8 B_brings B_sBurning B_sStroke B_sIs B_sTold B_sUntold B_parts B_boxAll B_isBoxed G_hName G_iName G_bName ex) H)) := by
  refine metG_of 1 ck_X12_turnedMark (Nat.le_of_ble_eq_true rfl) rMap (fun p e s m args below meth c A hx hb hml hr hlocks hown hts hK hD hA hP hS ls hl => ?_)
  have hown : s.vm.findClass "HideReaderModel" = some m.cls := hown
  have hl : lv_has ls 3 [(0, .int (mI p0))] := hl
  refine lv_iconst (v := mI 0) hx hb dX12_turnedMark_0 rfl ?_
  refine lv_istore_n (lv' := [(1, .int (mI 0)), (0, .int (mI p0))]) hx hb dX12_turnedMark_1 rfl hl (by decide) rfl (fun ls hl => ?_)
  refine lv_iconst (v := mI 0) hx hb dX12_turnedMark_2 rfl ?_
  refine lv_istore_n (lv' := [(2, .int (mI 0)), (1, .int (mI 0)), (0, .int (mI p0))]) hx hb dX12_turnedMark_3 rfl hl (by decide) rfl (fun ls hl => ?_)
  refine sy_loop (I := fun n H locs g => ∃ (z_384 : Int) (z_385 : Int) (ls : Array Slot), (0 ≤ z_384 ∧ z_384 ≤ 12) ∧ (0 ≤ z_385 ∧ z_385 ≤ 4095) ∧ (z_385.toNat = tmN trN p0.toNat z_384.toNat) ∧ (12 - z_384).toNat = n ∧ va_P D vwCl (rW k a x_taped x_size x_faultKind x_faultPlace x_at x_end x_token x_number x_bank x_rb x_codes x_within x_piled x_unitsInRule x_askBeast x_askStroke x_askAge x_askSeason x_acts x_undone x_laid x_seens x_time x_fitting n_name B_tape B_text B_turns B_herds B_irons B_beasts B_units B_night B_draw B_told B_brands B_ironMarks B_herdTold B_born B_ruleFrom B_ruleTo B_code B_codeNumber B_eWhat B_eSign B_pile B_all B_burned B_was B_need B_laidRow B_long8 B_brings B_sBurning B_sStroke B_sIs B_sTold B_sUntold B_parts B_boxAll B_isBoxed G_hName G_iName G_bName ex) H ∧ va_S A s.heap H locs ∧ lv_has ls 3 [(2, .int (mI z_384)), (1, .int (mI z_385)), (0, .int (mI p0))] ∧ g = F0 m 4 ls []) ?_ _ ⟨0, 0, _, by omega, by omega, rfl, rfl, hP, hS, lv_sub hl [0, 1, 2] rfl, rfl⟩
  intro n_395 H locs g hI ih_396
  obtain ⟨z_384, z_385, ls, h4_0, h4_1, h4_2, mn_395, hP, hS, hl, rfl⟩ := hI
  refine lv_iload_n hx hb dX12_turnedMark_4 rfl (lv_at hl 0 rfl) ?_
  refine lv_bipush (v := mI 12) hx hb dX12_turnedMark_5 (by decide) ?_
  refine sy_icmp_ge (tgt := 33) hx hb dX12_turnedMark_7 (by decide) (by omega) (by decide) (fun c_397 => ?_) (fun c_397 => ?_)
  · skip
    refine lv_iload_n hx hb dX12_turnedMark_33 rfl (lv_at hl 1 rfl) ?_
    exact r_i hx hb hr hlocks dX12_turnedMark_34 hS ⟨by omega, (tk_e h4_2 (by omega)), hP⟩
  · skip
    refine lv_iload_n hx hb dX12_turnedMark_10 rfl (lv_at hl 2 rfl) ?_
    refine lv_iload_n hx hb dX12_turnedMark_11 rfl (lv_at hl 0 rfl) ?_
    refine g_i (rDt hD) hS hA (g_S (own := "HideReaderModel") (As := [.int (mI p0), .int (mI z_384)]) (rest := []) hx hb hml hown hts hK hP (rDt hD) (kr_bit (l := l) (D := D) (k := k)) ck_X12_bit uw_6_229 uw_6_228 rfl hl.1 rfl (Nat.le_of_ble_eq_true rfl) dX12_turnedMark_12 ⟨Nat.le_of_ble_eq_true rfl, Nat.le_of_ble_eq_true rfl⟩ ⟨Nat.le_of_ble_eq_true rfl, Nat.le_of_ble_eq_true rfl⟩) (fun r_398 H locs hQ hS => ?_)
    obtain ⟨hq_r_398, hP⟩ := hQ
    rcases hq_r_398 with ⟨rfl, c_399_0⟩ | ⟨rfl, c_400_0⟩
    · skip
      refine sy_if_eq (tgt := 27) hx hb dX12_turnedMark_15 (by decide) (by decide) (fun c9 => absurd c9 (by decide)) (fun c_401 => ?_)
      refine lv_iload_n hx hb dX12_turnedMark_18 rfl (lv_at hl 1 rfl) ?_
      refine lv_iconst (v := mI 1) hx hb dX12_turnedMark_19 rfl ?_
      refine lv_iload_n hx hb dX12_turnedMark_20 rfl (lv_at hl 0 rfl) ?_
      refine g_i (rDt hD) hS hA (g_S (own := "HideReaderModel") (As := [.int (mI z_384)]) (rest := [.int (mI 1), .int (mI z_385)]) hx hb hml hown hts hK hP (rDt hD) (kr_X12_turned (l := l) (D := D) (k := k) (by omega)) ck_X12_turned uw_7_21 uw_7_20 rfl hl.1 rfl (Nat.le_of_ble_eq_true rfl) dX12_turnedMark_21 ⟨Nat.le_of_ble_eq_true rfl, Nat.le_of_ble_eq_true rfl⟩ ⟨Nat.le_of_ble_eq_true rfl, Nat.le_of_ble_eq_true rfl⟩) (fun r_402 H locs hQ hS => ?_)
      obtain ⟨hr_402_0, hr_402_1, hP⟩ := hQ
      refine sy_shl1 hx hb dX12_turnedMark_24 11 (by decide) 2048 (by decide) (by omega) (fun z_403 ez_403 hz_403 => ?_)
      refine sy_iorE hx hb dX12_turnedMark_25 12 (by decide) 4096 (by decide) (by omega) (by omega) (fun z_404 ez_404 hz_404 => ?_)
      refine lv_istore_n (lv' := [(1, .int (mI z_404)), (2, .int (mI z_384)), (0, .int (mI p0))]) hx hb dX12_turnedMark_26 rfl hl (by decide) rfl (fun ls hl => ?_)
      refine lv_iinc (v := mI (z_384 + 1)) (lv' := [(2, .int (mI (z_384 + 1))), (1, .int (mI z_404)), (0, .int (mI p0))]) hx hb dX12_turnedMark_27 hl (k := 1) rfl (mI_ad rfl) (by decide) rfl (fun ls hl => ?_)
      refine lv_goto (tgt := 4) hx hb dX12_turnedMark_30 (by decide) ?_
      exact ih_396 _ _ _ _ (by omega) ⟨(z_384 + 1), z_404, _, by omega, by omega, (tk_1 h4_2 (by omega) (by omega) c_399_0 hr_402_1 ez_403 (by omega) (by omega) ez_404 (by omega)), rfl, hP, hS, lv_sub hl [0, 1, 2] rfl, rfl⟩
    · skip
      refine sy_if_eq (tgt := 27) hx hb dX12_turnedMark_15 (by decide) (by decide) (fun c_405 => ?_) (fun c9 => absurd c9 (by decide))
      refine lv_iinc (v := mI (z_384 + 1)) (lv' := [(2, .int (mI (z_384 + 1))), (1, .int (mI z_385)), (0, .int (mI p0))]) hx hb dX12_turnedMark_27 hl (k := 0) rfl (mI_ad rfl) (by decide) rfl (fun ls hl => ?_)
      refine lv_goto (tgt := 4) hx hb dX12_turnedMark_30 (by decide) ?_
      exact ih_396 _ _ _ _ (by omega) ⟨(z_384 + 1), z_385, _, by omega, by omega, (tk_0 h4_2 (by omega) (by omega) c_400_0), rfl, hP, hS, lv_sub hl [0, 1, 2] rfl, rfl⟩
set_option maxHeartbeats 4000000 in
set_option maxRecDepth 100000 in
theorem kr_X12_mirroredMark {p0 : Int} (hp0 : 0 ≤ p0 ∧ p0 ≤ 4095) : MetG l D k yX12_mirroredMark cX12_mirroredMark 3 (some .int) 1 [.int (mI p0)] (rW k a x_taped x_size x_faultKind x_faultPlace x_at x_end x_token x_number x_bank x_rb x_codes x_within x_piled x_unitsInRule x_askBeast x_askStroke x_askAge x_askSeason x_acts x_undone x_laid x_seens x_time x_fitting n_name B_tape B_text B_turns B_herds B_irons B_beasts B_units B_night B_draw B_told B_brands B_ironMarks B_herdTold B_born B_ruleFrom B_ruleTo B_code B_codeNumber B_eWhat B_eSign B_pile B_all B_burned B_was B_need B_laidRow B_long8 B_brings B_sBurning B_sStroke B_sIs B_sTold B_sUntold B_parts B_boxAll B_isBoxed G_hName G_iName G_bName ex) (qGi (fun r0 H => (0 ≤ r0 ∧ r0 ≤ 4095) ∧ (r0.toNat = tmN miN p0.toNat 12) ∧ va_P D vwCl (rW k a x_taped x_size x_faultKind x_faultPlace x_at x_end x_token x_number x_bank x_rb x_codes x_within x_piled x_unitsInRule x_askBeast x_askStroke x_askAge x_askSeason x_acts x_undone x_laid x_seens x_time x_fitting n_name B_tape B_text B_turns B_herds B_irons B_beasts B_units B_night B_draw B_told B_brands B_ironMarks B_herdTold B_born B_ruleFrom B_ruleTo B_code B_codeNumber B_eWhat B_eSign B_pile B_all B_burned B_was B_need B_laidRow B_long8 B_brings B_sBurning B_sStroke B_sIs B_sTold B_sUntold B_parts B_boxAll B_isBoxed G_hName G_iName G_bName ex) H)) := by
  refine metG_of 1 ck_X12_mirroredMark (Nat.le_of_ble_eq_true rfl) rMap (fun p e s m args below meth c A hx hb hml hr hlocks hown hts hK hD hA hP hS ls hl => ?_)
  have hown : s.vm.findClass "HideReaderModel" = some m.cls := hown
  have hl : lv_has ls 3 [(0, .int (mI p0))] := hl
  refine lv_iconst (v := mI 0) hx hb dX12_mirroredMark_0 rfl ?_
  refine lv_istore_n (lv' := [(1, .int (mI 0)), (0, .int (mI p0))]) hx hb dX12_mirroredMark_1 rfl hl (by decide) rfl (fun ls hl => ?_)
  refine lv_iconst (v := mI 0) hx hb dX12_mirroredMark_2 rfl ?_
  refine lv_istore_n (lv' := [(2, .int (mI 0)), (1, .int (mI 0)), (0, .int (mI p0))]) hx hb dX12_mirroredMark_3 rfl hl (by decide) rfl (fun ls hl => ?_)
  refine sy_loop (I := fun n H locs g => ∃ (z_384 : Int) (z_385 : Int) (ls : Array Slot), (0 ≤ z_384 ∧ z_384 ≤ 12) ∧ (0 ≤ z_385 ∧ z_385 ≤ 4095) ∧ (z_385.toNat = tmN miN p0.toNat z_384.toNat) ∧ (12 - z_384).toNat = n ∧ va_P D vwCl (rW k a x_taped x_size x_faultKind x_faultPlace x_at x_end x_token x_number x_bank x_rb x_codes x_within x_piled x_unitsInRule x_askBeast x_askStroke x_askAge x_askSeason x_acts x_undone x_laid x_seens x_time x_fitting n_name B_tape B_text B_turns B_herds B_irons B_beasts B_units B_night B_draw B_told B_brands B_ironMarks B_herdTold B_born B_ruleFrom B_ruleTo B_code B_codeNumber B_eWhat B_eSign B_pile B_all B_burned B_was B_need B_laidRow B_long8 B_brings B_sBurning B_sStroke B_sIs B_sTold B_sUntold B_parts B_boxAll B_isBoxed G_hName G_iName G_bName ex) H ∧ va_S A s.heap H locs ∧ lv_has ls 3 [(2, .int (mI z_384)), (1, .int (mI z_385)), (0, .int (mI p0))] ∧ g = F0 m 4 ls []) ?_ _ ⟨0, 0, _, by omega, by omega, rfl, rfl, hP, hS, lv_sub hl [0, 1, 2] rfl, rfl⟩
  intro n_395 H locs g hI ih_396
  obtain ⟨z_384, z_385, ls, h4_0, h4_1, h4_2, mn_395, hP, hS, hl, rfl⟩ := hI
  refine lv_iload_n hx hb dX12_mirroredMark_4 rfl (lv_at hl 0 rfl) ?_
  refine lv_bipush (v := mI 12) hx hb dX12_mirroredMark_5 (by decide) ?_
  refine sy_icmp_ge (tgt := 33) hx hb dX12_mirroredMark_7 (by decide) (by omega) (by decide) (fun c_397 => ?_) (fun c_397 => ?_)
  · skip
    refine lv_iload_n hx hb dX12_mirroredMark_33 rfl (lv_at hl 1 rfl) ?_
    exact r_i hx hb hr hlocks dX12_mirroredMark_34 hS ⟨by omega, (tk_e h4_2 (by omega)), hP⟩
  · skip
    refine lv_iload_n hx hb dX12_mirroredMark_10 rfl (lv_at hl 2 rfl) ?_
    refine lv_iload_n hx hb dX12_mirroredMark_11 rfl (lv_at hl 0 rfl) ?_
    refine g_i (rDt hD) hS hA (g_S (own := "HideReaderModel") (As := [.int (mI p0), .int (mI z_384)]) (rest := []) hx hb hml hown hts hK hP (rDt hD) (kr_bit (l := l) (D := D) (k := k)) ck_X12_bit uw_6_229 uw_6_228 rfl hl.1 rfl (Nat.le_of_ble_eq_true rfl) dX12_mirroredMark_12 ⟨Nat.le_of_ble_eq_true rfl, Nat.le_of_ble_eq_true rfl⟩ ⟨Nat.le_of_ble_eq_true rfl, Nat.le_of_ble_eq_true rfl⟩) (fun r_398 H locs hQ hS => ?_)
    obtain ⟨hq_r_398, hP⟩ := hQ
    rcases hq_r_398 with ⟨rfl, c_399_0⟩ | ⟨rfl, c_400_0⟩
    · skip
      refine sy_if_eq (tgt := 27) hx hb dX12_mirroredMark_15 (by decide) (by decide) (fun c9 => absurd c9 (by decide)) (fun c_401 => ?_)
      refine lv_iload_n hx hb dX12_mirroredMark_18 rfl (lv_at hl 1 rfl) ?_
      refine lv_iconst (v := mI 1) hx hb dX12_mirroredMark_19 rfl ?_
      refine lv_iload_n hx hb dX12_mirroredMark_20 rfl (lv_at hl 0 rfl) ?_
      refine g_i (rDt hD) hS hA (g_S (own := "HideReaderModel") (As := [.int (mI z_384)]) (rest := [.int (mI 1), .int (mI z_385)]) hx hb hml hown hts hK hP (rDt hD) (kr_X12_mirrored (l := l) (D := D) (k := k) (by omega)) ck_X12_mirrored uw_7_15 uw_7_14 rfl hl.1 rfl (Nat.le_of_ble_eq_true rfl) dX12_mirroredMark_21 ⟨Nat.le_of_ble_eq_true rfl, Nat.le_of_ble_eq_true rfl⟩ ⟨Nat.le_of_ble_eq_true rfl, Nat.le_of_ble_eq_true rfl⟩) (fun r_402 H locs hQ hS => ?_)
      obtain ⟨hr_402_0, hr_402_1, hP⟩ := hQ
      refine sy_shl1 hx hb dX12_mirroredMark_24 11 (by decide) 2048 (by decide) (by omega) (fun z_403 ez_403 hz_403 => ?_)
      refine sy_iorE hx hb dX12_mirroredMark_25 12 (by decide) 4096 (by decide) (by omega) (by omega) (fun z_404 ez_404 hz_404 => ?_)
      refine lv_istore_n (lv' := [(1, .int (mI z_404)), (2, .int (mI z_384)), (0, .int (mI p0))]) hx hb dX12_mirroredMark_26 rfl hl (by decide) rfl (fun ls hl => ?_)
      refine lv_iinc (v := mI (z_384 + 1)) (lv' := [(2, .int (mI (z_384 + 1))), (1, .int (mI z_404)), (0, .int (mI p0))]) hx hb dX12_mirroredMark_27 hl (k := 1) rfl (mI_ad rfl) (by decide) rfl (fun ls hl => ?_)
      refine lv_goto (tgt := 4) hx hb dX12_mirroredMark_30 (by decide) ?_
      exact ih_396 _ _ _ _ (by omega) ⟨(z_384 + 1), z_404, _, by omega, by omega, (tk_1 h4_2 (by omega) (by omega) c_399_0 hr_402_1 ez_403 (by omega) (by omega) ez_404 (by omega)), rfl, hP, hS, lv_sub hl [0, 1, 2] rfl, rfl⟩
    · skip
      refine sy_if_eq (tgt := 27) hx hb dX12_mirroredMark_15 (by decide) (by decide) (fun c_405 => ?_) (fun c9 => absurd c9 (by decide))
      refine lv_iinc (v := mI (z_384 + 1)) (lv' := [(2, .int (mI (z_384 + 1))), (1, .int (mI z_385)), (0, .int (mI p0))]) hx hb dX12_mirroredMark_27 hl (k := 0) rfl (mI_ad rfl) (by decide) rfl (fun ls hl => ?_)
      refine lv_goto (tgt := 4) hx hb dX12_mirroredMark_30 (by decide) ?_
      exact ih_396 _ _ _ _ (by omega) ⟨(z_384 + 1), z_385, _, by omega, by omega, (tk_0 h4_2 (by omega) (by omega) c_400_0), rfl, hP, hS, lv_sub hl [0, 1, 2] rfl, rfl⟩
set_option maxHeartbeats 4000000 in
set_option maxRecDepth 100000 in
theorem kr_X12_placements (h_x_bank : 0 ≤ x_bank ∧ x_bank ≤ 1) (b_B_turns : bd (0) 4 B_turns) (b_B_told : bd (0) 31 B_told) (g_R : 1 ≤ B_turns x_bank.toNat ∧ ¬ B_turns x_bank.toNat = 3) : MetG l D k yX12_placements cX12_placements 1 (some .int) 1 [.ref (a 0)] (rW k a x_taped x_size x_faultKind x_faultPlace x_at x_end x_token x_number x_bank x_rb x_codes x_within x_piled x_unitsInRule x_askBeast x_askStroke x_askAge x_askSeason x_acts x_undone x_laid x_seens x_time x_fitting n_name B_tape B_text B_turns B_herds B_irons B_beasts B_units B_night B_draw B_told B_brands B_ironMarks B_herdTold B_born B_ruleFrom B_ruleTo B_code B_codeNumber B_eWhat B_eSign B_pile B_all B_burned B_was B_need B_laidRow B_long8 B_brings B_sBurning B_sStroke B_sIs B_sTold B_sUntold B_parts B_boxAll B_isBoxed G_hName G_iName G_bName ex) (qGi (fun r0 H => (1 ≤ r0 ∧ r0 ≤ 8) ∧ (r0 = rPl B_told B_turns x_bank) ∧ va_P D vwCl (rW k a x_taped x_size x_faultKind x_faultPlace x_at x_end x_token x_number x_bank x_rb x_codes x_within x_piled x_unitsInRule x_askBeast x_askStroke x_askAge x_askSeason x_acts x_undone x_laid x_seens x_time x_fitting n_name B_tape B_text B_turns B_herds B_irons B_beasts B_units B_night B_draw B_told B_brands B_ironMarks B_herdTold B_born B_ruleFrom B_ruleTo B_code B_codeNumber B_eWhat B_eSign B_pile B_all B_burned B_was B_need B_laidRow B_long8 B_brings B_sBurning B_sStroke B_sIs B_sTold B_sUntold B_parts B_boxAll B_isBoxed G_hName G_iName G_bName ex) H)) := by
  refine metG_of 0 ck_X12_placements (Nat.le_of_ble_eq_true rfl) rMap (fun p e s m args below meth c A hx hb hml hr hlocks hown hts hK hD hA hP hS ls hl => ?_)
  have hown : s.vm.findClass "HideReaderModel" = some m.cls := hown
  have hl : lv_has ls 1 [(0, .ref (a 0))] := hl
  refine lv_aload_n hx hb dX12_placements_0 rfl (lv_at hl 0 rfl) ?_
  refine rg_o_told hx hb hts hown hK hP uw_7_41 dX12_placements_1 ?_
  refine lv_aload_n hx hb dX12_placements_4 rfl (lv_at hl 0 rfl) ?_
  refine rg_o_bank hx hb hts hown hK hP uw_7_56 dX12_placements_5 ?_
  refine rl_told hx hb hK hP dX12_placements_8 (by omega) b_B_told (fun z_1 ez_1 hz_1 => ?_)
  refine lv_iconst (v := mI 2) hx hb dX12_placements_9 rfl ?_
  refine g_i (rDt hD) hS hA (g_S (own := "HideReaderModel") (As := [.int (mI z_1), .int (mI 2)]) (rest := []) hx hb hml hown hts hK hP (rDt hD) (kr_bit (l := l) (D := D) (k := k)) ck_X12_bit uw_6_229 uw_6_228 rfl hl.1 rfl (Nat.le_of_ble_eq_true rfl) dX12_placements_10 ⟨Nat.le_of_ble_eq_true rfl, Nat.le_of_ble_eq_true rfl⟩ ⟨Nat.le_of_ble_eq_true rfl, Nat.le_of_ble_eq_true rfl⟩) (fun r_2 H locs hQ hS => ?_)
  obtain ⟨hq_r_2, hP⟩ := hQ
  rcases hq_r_2 with ⟨rfl, c_3_0⟩ | ⟨rfl, c_4_0⟩
  · skip
    refine sy_if_eq (tgt := 30) hx hb dX12_placements_13 (by decide) (by decide) (fun c9 => absurd c9 (by decide)) (fun c_5 => ?_)
    refine lv_iconst (v := mI 2) hx hb dX12_placements_16 rfl ?_
    refine lv_aload_n hx hb dX12_placements_17 rfl (lv_at hl 0 rfl) ?_
    refine rg_o_turns hx hb hts hown hK hP uw_7_34 dX12_placements_18 ?_
    refine lv_aload_n hx hb dX12_placements_21 rfl (lv_at hl 0 rfl) ?_
    refine rg_o_bank hx hb hts hown hK hP uw_7_56 dX12_placements_22 ?_
    refine rl_turns hx hb hK hP dX12_placements_25 (by omega) b_B_turns (fun z_6 ez_6 hz_6 => ?_)
    have h_7 := g_R
    refine sy_imul hx hb dX12_placements_26 (2 * z_6) rfl ?_
    refine lv_goto (tgt := 39) hx hb dX12_placements_27 (by decide) ?_
    exact r_i hx hb hr hlocks dX12_placements_39 hS ⟨by omega, (rPl_t ez_1 c_3_0 ez_6), hP⟩
  · skip
    refine sy_if_eq (tgt := 30) hx hb dX12_placements_13 (by decide) (by decide) (fun c_8 => ?_) (fun c9 => absurd c9 (by decide))
    refine lv_aload_n hx hb dX12_placements_30 rfl (lv_at hl 0 rfl) ?_
    refine rg_o_turns hx hb hts hown hK hP uw_7_34 dX12_placements_31 ?_
    refine lv_aload_n hx hb dX12_placements_34 rfl (lv_at hl 0 rfl) ?_
    refine rg_o_bank hx hb hts hown hK hP uw_7_56 dX12_placements_35 ?_
    refine rl_turns hx hb hK hP dX12_placements_38 (by omega) b_B_turns (fun z_9 ez_9 hz_9 => ?_)
    have h_10 := g_R
    exact r_i hx hb hr hlocks dX12_placements_39 hS ⟨by omega, (rPl_f ez_1 c_4_0 ez_9), hP⟩
set_option maxHeartbeats 4000000 in
set_option maxRecDepth 100000 in
theorem kr_X12_placedBy {p0 p1 : Int} (hp0 : 0 ≤ p0 ∧ p0 ≤ 4095) (hp1 : 0 ≤ p1 ∧ p1 ≤ 7) (h_x_bank : 0 ≤ x_bank ∧ x_bank ≤ 1) (b_B_turns : bd (0) 4 B_turns) (g_R : 1 ≤ B_turns x_bank.toNat ∧ ¬ B_turns x_bank.toNat = 3) : MetG l D k yX12_placedBy cX12_placedBy 6 (some .int) 2 [.ref (a 0), .int (mI p0), .int (mI p1)] (rW k a x_taped x_size x_faultKind x_faultPlace x_at x_end x_token x_number x_bank x_rb x_codes x_within x_piled x_unitsInRule x_askBeast x_askStroke x_askAge x_askSeason x_acts x_undone x_laid x_seens x_time x_fitting n_name B_tape B_text B_turns B_herds B_irons B_beasts B_units B_night B_draw B_told B_brands B_ironMarks B_herdTold B_born B_ruleFrom B_ruleTo B_code B_codeNumber B_eWhat B_eSign B_pile B_all B_burned B_was B_need B_laidRow B_long8 B_brings B_sBurning B_sStroke B_sIs B_sTold B_sUntold B_parts B_boxAll B_isBoxed G_hName G_iName G_bName ex) (qGi (fun r0 H => (0 ≤ r0 ∧ r0 ≤ 4095) ∧ (r0.toNat = PLn (B_turns x_bank.toNat).toNat p0.toNat p1.toNat) ∧ va_P D vwCl (rW k a x_taped x_size x_faultKind x_faultPlace x_at x_end x_token x_number x_bank x_rb x_codes x_within x_piled x_unitsInRule x_askBeast x_askStroke x_askAge x_askSeason x_acts x_undone x_laid x_seens x_time x_fitting n_name B_tape B_text B_turns B_herds B_irons B_beasts B_units B_night B_draw B_told B_brands B_ironMarks B_herdTold B_born B_ruleFrom B_ruleTo B_code B_codeNumber B_eWhat B_eSign B_pile B_all B_burned B_was B_need B_laidRow B_long8 B_brings B_sBurning B_sStroke B_sIs B_sTold B_sUntold B_parts B_boxAll B_isBoxed G_hName G_iName G_bName ex) H)) := by
  refine metG_of 2 ck_X12_placedBy (Nat.le_of_ble_eq_true rfl) rMap (fun p e s m args below meth c A hx hb hml hr hlocks hown hts hK hD hA hP hS ls hl => ?_)
  have hown : s.vm.findClass "HideReaderModel" = some m.cls := hown
  have hl : lv_has ls 6 [(0, .ref (a 0)), (1, .int (mI p0)), (2, .int (mI p1))] := hl
  refine lv_iload_n hx hb dX12_placedBy_0 rfl (lv_at hl 2 rfl) ?_
  refine lv_aload_n hx hb dX12_placedBy_1 rfl (lv_at hl 0 rfl) ?_
  refine rg_o_turns hx hb hts hown hK hP uw_7_34 dX12_placedBy_2 ?_
  refine lv_aload_n hx hb dX12_placedBy_5 rfl (lv_at hl 0 rfl) ?_
  refine rg_o_bank hx hb hts hown hK hP uw_7_56 dX12_placedBy_6 ?_
  refine rl_turns hx hb hK hP dX12_placedBy_9 (by omega) b_B_turns (fun z_1 ez_1 hz_1 => ?_)
  have h_2 := g_R
  refine sy_join (I := fun H locs g => ∃ (z_5 : Int) (ls : Array Slot), (0 ≤ z_5 ∧ z_5 ≤ 4095) ∧ (z_5.toNat = plS z_1.toNat p0.toNat p1.toNat) ∧ va_P D vwCl (rW k a x_taped x_size x_faultKind x_faultPlace x_at x_end x_token x_number x_bank x_rb x_codes x_within x_piled x_unitsInRule x_askBeast x_askStroke x_askAge x_askSeason x_acts x_undone x_laid x_seens x_time x_fitting n_name B_tape B_text B_turns B_herds B_irons B_beasts B_units B_night B_draw B_told B_brands B_ironMarks B_herdTold B_born B_ruleFrom B_ruleTo B_code B_codeNumber B_eWhat B_eSign B_pile B_all B_burned B_was B_need B_laidRow B_long8 B_brings B_sBurning B_sStroke B_sIs B_sTold B_sUntold B_parts B_boxAll B_isBoxed G_hName G_iName G_bName ex) H ∧ va_S A s.heap H locs ∧ lv_has ls 6 [(0, .ref (a 0)), (1, .int (mI p0)), (2, .int (mI p1))] ∧ g = F0 m 21 ls [.int (mI z_5)]) ?_ ?_
  · skip
    intro H locs g hI
    obtain ⟨z_5, ls, h21_0, h21_1, hP, hS, hl, rfl⟩ := hI
    refine lv_istore_n (lv' := [(3, .int (mI z_5)), (0, .ref (a 0)), (1, .int (mI p0)), (2, .int (mI p1))]) hx hb dX12_placedBy_21 rfl hl (by decide) rfl (fun ls hl => ?_)
    refine lv_iload_n hx hb dX12_placedBy_22 rfl (lv_at hl 3 rfl) ?_
    refine lv_aload_n hx hb dX12_placedBy_23 rfl (lv_at hl 1 rfl) ?_
    refine rg_o_turns hx hb hts hown hK hP uw_7_34 dX12_placedBy_24 ?_
    refine lv_aload_n hx hb dX12_placedBy_27 rfl (lv_at hl 1 rfl) ?_
    refine rg_o_bank hx hb hts hown hK hP uw_7_56 dX12_placedBy_28 ?_
    refine rl_turns hx hb hK hP dX12_placedBy_31 (by omega) b_B_turns (fun z_7 ez_7 hz_7 => ?_)
    have h_8 := g_R
    refine sy_irem hx hb dX12_placedBy_32 (by omega) (by omega) (fun z_9 ez_9 hz_9 => ?_)
    refine lv_iconst (v := mI 4) hx hb dX12_placedBy_33 rfl ?_
    refine lv_aload_n hx hb dX12_placedBy_34 rfl (lv_at hl 1 rfl) ?_
    refine rg_o_turns hx hb hts hown hK hP uw_7_34 dX12_placedBy_35 ?_
    refine lv_aload_n hx hb dX12_placedBy_38 rfl (lv_at hl 1 rfl) ?_
    refine rg_o_bank hx hb hts hown hK hP uw_7_56 dX12_placedBy_39 ?_
    refine rl_turns hx hb hK hP dX12_placedBy_42 (by omega) b_B_turns (fun z_10 ez_10 hz_10 => ?_)
    have h_11 := g_R
    refine sy_idiv hx hb dX12_placedBy_43 (by omega) (by omega) (fun z_12 ez_12 hz_12 => ?_)
    refine sy_imulB (A := 3) (B := 4) hx hb dX12_placedBy_44 12 (by decide) (by omega) (by omega) (fun z_13 ez_13 hz_13 => ?_)
    refine lv_istore (lv' := [(4, .int (mI z_13)), (3, .int (mI z_5)), (0, .ref (a 0)), (1, .int (mI p0)), (2, .int (mI p1))]) hx hb dX12_placedBy_45 hl (by decide) rfl (fun ls hl => ?_)
    refine lv_iconst (v := mI 0) hx hb dX12_placedBy_47 rfl ?_
    refine lv_istore (lv' := [(5, .int (mI 0)), (4, .int (mI z_13)), (3, .int (mI z_5)), (0, .ref (a 0)), (1, .int (mI p0)), (2, .int (mI p1))]) hx hb dX12_placedBy_48 hl (by decide) rfl (fun ls hl => ?_)
    refine sy_loop (I := fun n H locs g => ∃ (z_44 : Int) (z_45 : Int) (ls : Array Slot), (0 ≤ z_44 ∧ z_44 ≤ 12) ∧ (0 ≤ z_45 ∧ z_45 ≤ 4095) ∧ (0 ≤ z_13 - z_44) ∧ (z_45.toNat = itN z_44.toNat (plS z_1.toNat p0.toNat p1.toNat)) ∧ (12 - z_44).toNat = n ∧ va_P D vwCl (rW k a x_taped x_size x_faultKind x_faultPlace x_at x_end x_token x_number x_bank x_rb x_codes x_within x_piled x_unitsInRule x_askBeast x_askStroke x_askAge x_askSeason x_acts x_undone x_laid x_seens x_time x_fitting n_name B_tape B_text B_turns B_herds B_irons B_beasts B_units B_night B_draw B_told B_brands B_ironMarks B_herdTold B_born B_ruleFrom B_ruleTo B_code B_codeNumber B_eWhat B_eSign B_pile B_all B_burned B_was B_need B_laidRow B_long8 B_brings B_sBurning B_sStroke B_sIs B_sTold B_sUntold B_parts B_boxAll B_isBoxed G_hName G_iName G_bName ex) H ∧ va_S A s.heap H locs ∧ lv_has ls 6 [(5, .int (mI z_44)), (4, .int (mI z_13)), (3, .int (mI z_45)), (0, .ref (a 0)), (1, .int (mI p0)), (2, .int (mI p1))] ∧ g = F0 m 50 ls []) ?_ _ ⟨0, z_5, _, by omega, by omega, by omega, (it_0 h21_1), rfl, hP, hS, lv_sub hl [0, 1, 2, 3, 4, 5] rfl, rfl⟩
    intro n_48 H locs g hI ih_49
    obtain ⟨z_44, z_45, ls, h50_0, h50_1, h50_2, h50_3, mn_48, hP, hS, hl, rfl⟩ := hI
    refine lv_iload hx hb dX12_placedBy_50 (lv_at hl 0 rfl) ?_
    refine lv_iload hx hb dX12_placedBy_52 (lv_at hl 1 rfl) ?_
    refine sy_icmp_ge (tgt := 68) hx hb dX12_placedBy_54 (by decide) (by omega) (by omega) (fun c_50 => ?_) (fun c_50 => ?_)
    · skip
      refine lv_iload_n hx hb dX12_placedBy_68 rfl (lv_at hl 2 rfl) ?_
      exact r_i hx hb hr hlocks dX12_placedBy_69 hS ⟨by omega, (pl_e ez_1 (by omega) (by omega) h50_3 (by omega) (by omega) ez_9 ez_12 ez_13 (by omega)), hP⟩
    · skip
      refine lv_iload_n hx hb dX12_placedBy_57 rfl (lv_at hl 2 rfl) ?_
      refine g_i (rDt hD) hS hA (g_S (own := "HideReaderModel") (As := [.int (mI z_45)]) (rest := []) hx hb hml hown hts hK hP (rDt hD) (kr_X12_turnedMark (l := l) (D := D) (k := k) (by omega)) ck_X12_turnedMark uw_7_18 uw_7_17 rfl hl.1 rfl (Nat.le_of_ble_eq_true rfl) dX12_placedBy_58 ⟨Nat.le_of_ble_eq_true rfl, Nat.le_of_ble_eq_true rfl⟩ ⟨Nat.le_of_ble_eq_true rfl, Nat.le_of_ble_eq_true rfl⟩) (fun r_51 H locs hQ hS => ?_)
      obtain ⟨hr_51_0, hr_51_1, hP⟩ := hQ
      refine lv_istore_n (lv' := [(3, .int (mI r_51)), (5, .int (mI z_44)), (4, .int (mI z_13)), (0, .ref (a 0)), (1, .int (mI p0)), (2, .int (mI p1))]) hx hb dX12_placedBy_61 rfl hl (by decide) rfl (fun ls hl => ?_)
      refine lv_iinc (v := mI (z_44 + 1)) (lv' := [(5, .int (mI (z_44 + 1))), (3, .int (mI r_51)), (4, .int (mI z_13)), (0, .ref (a 0)), (1, .int (mI p0)), (2, .int (mI p1))]) hx hb dX12_placedBy_62 hl (k := 1) rfl (mI_ad rfl) (by decide) rfl (fun ls hl => ?_)
      refine lv_goto (tgt := 50) hx hb dX12_placedBy_65 (by decide) ?_
      exact ih_49 _ _ _ _ (by omega) ⟨(z_44 + 1), r_51, _, by omega, by omega, by omega, (it_s h50_3 (by omega) hr_51_1), rfl, hP, hS, lv_sub hl [0, 2, 1, 3, 4, 5] rfl, rfl⟩
  · skip
    intro J_6
    refine sy_icmp_lt (tgt := 20) hx hb dX12_placedBy_10 (by decide) (by omega) (by omega) (fun c_52 => ?_) (fun c_52 => ?_)
    · skip
      refine lv_iload_n hx hb dX12_placedBy_20 rfl (lv_at hl 1 rfl) ?_
      exact J_6 _ _ _ ⟨p0, _, by omega, (ps_f (by omega) (by omega)), hP, hS, lv_sub hl [0, 1, 2] rfl, rfl⟩
    · skip
      refine lv_iload_n hx hb dX12_placedBy_13 rfl (lv_at hl 1 rfl) ?_
      refine g_i (rDt hD) hS hA (g_S (own := "HideReaderModel") (As := [.int (mI p0)]) (rest := []) hx hb hml hown hts hK hP (rDt hD) (kr_X12_mirroredMark (l := l) (D := D) (k := k) (by omega)) ck_X12_mirroredMark uw_7_12 uw_7_11 rfl hl.1 rfl (Nat.le_of_ble_eq_true rfl) dX12_placedBy_14 ⟨Nat.le_of_ble_eq_true rfl, Nat.le_of_ble_eq_true rfl⟩ ⟨Nat.le_of_ble_eq_true rfl, Nat.le_of_ble_eq_true rfl⟩) (fun r_53 H locs hQ hS => ?_)
      obtain ⟨hr_53_0, hr_53_1, hP⟩ := hQ
      refine lv_goto (tgt := 21) hx hb dX12_placedBy_17 (by decide) ?_
      exact J_6 _ _ _ ⟨r_53, _, by omega, (ps_t hr_53_1 (by omega) (by omega)), hP, hS, lv_sub hl [0, 1, 2] rfl, rfl⟩
set_option maxHeartbeats 4000000 in
set_option maxRecDepth 100000 in
theorem kr_X12_isUnder {p0 p1 : Int} (hp0 : 0 ≤ p0 ∧ p0 ≤ 4095) (hp1 : 0 ≤ p1 ∧ p1 ≤ 4095) (h_x_bank : 0 ≤ x_bank ∧ x_bank ≤ 1) (b_B_turns : bd (0) 4 B_turns) (b_B_told : bd (0) 31 B_told) (g_R : 1 ≤ B_turns x_bank.toNat ∧ ¬ B_turns x_bank.toNat = 3) : MetG l D k yX12_isUnder cX12_isUnder 4 (some .boolean) 3 [.ref (a 0), .int (mI p0), .int (mI p1)] (rW k a x_taped x_size x_faultKind x_faultPlace x_at x_end x_token x_number x_bank x_rb x_codes x_within x_piled x_unitsInRule x_askBeast x_askStroke x_askAge x_askSeason x_acts x_undone x_laid x_seens x_time x_fitting n_name B_tape B_text B_turns B_herds B_irons B_beasts B_units B_night B_draw B_told B_brands B_ironMarks B_herdTold B_born B_ruleFrom B_ruleTo B_code B_codeNumber B_eWhat B_eSign B_pile B_all B_burned B_was B_need B_laidRow B_long8 B_brings B_sBurning B_sStroke B_sIs B_sTold B_sUntold B_parts B_boxAll B_isBoxed G_hName G_iName G_bName ex) (qGi (fun r0 H => (0 ≤ r0 ∧ r0 ≤ 1) ∧ ((r0 = 1 ∧ uN (B_turns x_bank.toNat).toNat p0.toNat p1.toNat (rPl B_told B_turns x_bank).toNat) ∨ (r0 = 0 ∧ ¬ uN (B_turns x_bank.toNat).toNat p0.toNat p1.toNat (rPl B_told B_turns x_bank).toNat)) ∧ va_P D vwCl (rW k a x_taped x_size x_faultKind x_faultPlace x_at x_end x_token x_number x_bank x_rb x_codes x_within x_piled x_unitsInRule x_askBeast x_askStroke x_askAge x_askSeason x_acts x_undone x_laid x_seens x_time x_fitting n_name B_tape B_text B_turns B_herds B_irons B_beasts B_units B_night B_draw B_told B_brands B_ironMarks B_herdTold B_born B_ruleFrom B_ruleTo B_code B_codeNumber B_eWhat B_eSign B_pile B_all B_burned B_was B_need B_laidRow B_long8 B_brings B_sBurning B_sStroke B_sIs B_sTold B_sUntold B_parts B_boxAll B_isBoxed G_hName G_iName G_bName ex) H)) := by
  refine metG_of 2 ck_X12_isUnder (Nat.le_of_ble_eq_true rfl) rMap (fun p e s m args below meth c A hx hb hml hr hlocks hown hts hK hD hA hP hS ls hl => ?_)
  have hown : s.vm.findClass "HideReaderModel" = some m.cls := hown
  have hl : lv_has ls 4 [(0, .ref (a 0)), (1, .int (mI p0)), (2, .int (mI p1))] := hl
  refine lv_iconst (v := mI 0) hx hb dX12_isUnder_0 rfl ?_
  refine lv_istore_n (lv' := [(3, .int (mI 0)), (0, .ref (a 0)), (1, .int (mI p0)), (2, .int (mI p1))]) hx hb dX12_isUnder_1 rfl hl (by decide) rfl (fun ls hl => ?_)
  refine sy_loop (I := fun n H locs g => ∃ (z_42 : Int) (ls : Array Slot), (0 ≤ z_42 ∧ z_42 ≤ 8) ∧ (uX (B_turns x_bank.toNat).toNat p0.toNat p1.toNat z_42.toNat) ∧ (8 - z_42).toNat = n ∧ va_P D vwCl (rW k a x_taped x_size x_faultKind x_faultPlace x_at x_end x_token x_number x_bank x_rb x_codes x_within x_piled x_unitsInRule x_askBeast x_askStroke x_askAge x_askSeason x_acts x_undone x_laid x_seens x_time x_fitting n_name B_tape B_text B_turns B_herds B_irons B_beasts B_units B_night B_draw B_told B_brands B_ironMarks B_herdTold B_born B_ruleFrom B_ruleTo B_code B_codeNumber B_eWhat B_eSign B_pile B_all B_burned B_was B_need B_laidRow B_long8 B_brings B_sBurning B_sStroke B_sIs B_sTold B_sUntold B_parts B_boxAll B_isBoxed G_hName G_iName G_bName ex) H ∧ va_S A s.heap H locs ∧ lv_has ls 4 [(3, .int (mI z_42)), (0, .ref (a 0)), (1, .int (mI p0)), (2, .int (mI p1))] ∧ g = F0 m 2 ls []) ?_ _ ⟨0, _, by omega, uX_0, rfl, hP, hS, lv_sub hl [0, 1, 2, 3] rfl, rfl⟩
  intro n_48 H locs g hI ih_49
  obtain ⟨z_42, ls, h2_0, h2_1, mn_48, hP, hS, hl, rfl⟩ := hI
  refine lv_iload_n hx hb dX12_isUnder_2 rfl (lv_at hl 0 rfl) ?_
  refine lv_aload_n hx hb dX12_isUnder_3 rfl (lv_at hl 1 rfl) ?_
  refine g_i (rDt hD) hS hA (g_V (own := "HideReaderModel") (As := []) (rest := [.int (mI z_42)]) hx hb hml hown hts hK hP (rDt hD) (kr_X12_placements (l := l) (D := D) (k := k) h_x_bank b_B_turns b_B_told g_R) ck_X12_placements iv_X12_placements uw_6_239 (rv_o hK hP) rfl hl.1 rfl (Nat.le_of_ble_eq_true rfl) dX12_isUnder_4 ⟨Nat.le_of_ble_eq_true rfl, Nat.le_of_ble_eq_true rfl⟩ ⟨Nat.le_of_ble_eq_true rfl, Nat.le_of_ble_eq_true rfl⟩) (fun r_50 H locs hQ hS => ?_)
  obtain ⟨hr_50_0, hr_50_1, hP⟩ := hQ
  refine sy_icmp_ge (tgt := 31) hx hb dX12_isUnder_7 (by decide) (by omega) (by omega) (fun c_51 => ?_) (fun c_51 => ?_)
  · skip
    refine lv_iconst (v := mI 0) hx hb dX12_isUnder_31 rfl ?_
    exact r_z hx hb hr hlocks dX12_isUnder_32 hS (by decide) ⟨by omega, (Or.inr ⟨rfl, uX_n h2_1 (by omega)⟩), hP⟩
  · skip
    refine lv_aload_n hx hb dX12_isUnder_10 rfl (lv_at hl 1 rfl) ?_
    refine lv_iload_n hx hb dX12_isUnder_11 rfl (lv_at hl 2 rfl) ?_
    refine lv_iload_n hx hb dX12_isUnder_12 rfl (lv_at hl 0 rfl) ?_
    refine g_i (rDt hD) hS hA (g_V (own := "HideReaderModel") (As := [.int (mI p0), .int (mI z_42)]) (rest := []) hx hb hml hown hts hK hP (rDt hD) (kr_X12_placedBy (l := l) (D := D) (k := k) (by omega) (by omega) h_x_bank b_B_turns g_R) ck_X12_placedBy iv_X12_placedBy uw_7_7 (rv_o hK hP) rfl hl.1 rfl (Nat.le_of_ble_eq_true rfl) dX12_isUnder_13 ⟨Nat.le_of_ble_eq_true rfl, Nat.le_of_ble_eq_true rfl⟩ ⟨Nat.le_of_ble_eq_true rfl, Nat.le_of_ble_eq_true rfl⟩) (fun r_52 H locs hQ hS => ?_)
    obtain ⟨hr_52_0, hr_52_1, hP⟩ := hQ
    refine lv_iload_n hx hb dX12_isUnder_16 rfl (lv_at hl 3 rfl) ?_
    refine sy_andn hx hb dX12_isUnder_17 dX12_isUnder_18 dX12_isUnder_19 (fun z_53 ez_53 hz_53 => ?_)
    refine sy_if_ne (tgt := 25) hx hb dX12_isUnder_20 (by decide) (by omega) (fun c_54 => ?_) (fun c_54 => ?_)
    · skip
      refine lv_iinc (v := mI (z_42 + 1)) (lv' := [(3, .int (mI (z_42 + 1))), (0, .ref (a 0)), (1, .int (mI p0)), (2, .int (mI p1))]) hx hb dX12_isUnder_25 hl (k := 0) rfl (mI_ad rfl) (by decide) rfl (fun ls hl => ?_)
      refine lv_goto (tgt := 2) hx hb dX12_isUnder_28 (by decide) ?_
      exact ih_49 _ _ _ _ (by omega) ⟨(z_42 + 1), _, by omega, (uX_s h2_1 (by omega) hr_52_1 rfl ez_53 (by omega) (by omega) (by omega) (by omega)), rfl, hP, hS, lv_sub hl [0, 1, 2, 3] rfl, rfl⟩
    · skip
      refine lv_iconst (v := mI 1) hx hb dX12_isUnder_23 rfl ?_
      exact r_z hx hb hr hlocks dX12_isUnder_24 hS (by decide) ⟨by omega, (Or.inl ⟨rfl, uN_y hr_52_1 rfl ez_53 (by omega) (by omega) (by omega) (by omega)⟩), hP⟩
set_option maxHeartbeats 4000000 in
set_option maxRecDepth 100000 in
theorem kr_X12_normOf {p0 : Int} (hp0 : 0 ≤ p0 ∧ p0 ≤ 4095) (h_x_bank : 0 ≤ x_bank ∧ x_bank ≤ 1) (b_B_turns : bd (0) 4 B_turns) (b_B_told : bd (0) 31 B_told) (g_R : 1 ≤ B_turns x_bank.toNat ∧ ¬ B_turns x_bank.toNat = 3) : MetG l D k yX12_normOf cX12_normOf 5 (some .int) 3 [.ref (a 0), .int (mI p0)] (rW k a x_taped x_size x_faultKind x_faultPlace x_at x_end x_token x_number x_bank x_rb x_codes x_within x_piled x_unitsInRule x_askBeast x_askStroke x_askAge x_askSeason x_acts x_undone x_laid x_seens x_time x_fitting n_name B_tape B_text B_turns B_herds B_irons B_beasts B_units B_night B_draw B_told B_brands B_ironMarks B_herdTold B_born B_ruleFrom B_ruleTo B_code B_codeNumber B_eWhat B_eSign B_pile B_all B_burned B_was B_need B_laidRow B_long8 B_brings B_sBurning B_sStroke B_sIs B_sTold B_sUntold B_parts B_boxAll B_isBoxed G_hName G_iName G_bName ex) (qGi (fun r0 H => (0 ≤ r0 ∧ r0 ≤ 4095) ∧ (nmI (B_turns x_bank.toNat).toNat p0.toNat (rPl B_told B_turns x_bank).toNat r0.toNat) ∧ va_P D vwCl (rW k a x_taped x_size x_faultKind x_faultPlace x_at x_end x_token x_number x_bank x_rb x_codes x_within x_piled x_unitsInRule x_askBeast x_askStroke x_askAge x_askSeason x_acts x_undone x_laid x_seens x_time x_fitting n_name B_tape B_text B_turns B_herds B_irons B_beasts B_units B_night B_draw B_told B_brands B_ironMarks B_herdTold B_born B_ruleFrom B_ruleTo B_code B_codeNumber B_eWhat B_eSign B_pile B_all B_burned B_was B_need B_laidRow B_long8 B_brings B_sBurning B_sStroke B_sIs B_sTold B_sUntold B_parts B_boxAll B_isBoxed G_hName G_iName G_bName ex) H)) := by
  refine metG_of 1 ck_X12_normOf (Nat.le_of_ble_eq_true rfl) rMap (fun p e s m args below meth c A hx hb hml hr hlocks hown hts hK hD hA hP hS ls hl => ?_)
  have hown : s.vm.findClass "HideReaderModel" = some m.cls := hown
  have hl : lv_has ls 5 [(0, .ref (a 0)), (1, .int (mI p0))] := hl
  have hpb := rPl_b (T := B_told) b_B_turns g_R
  have hpt := g_R
  refine lv_iload_n hx hb dX12_normOf_0 rfl (lv_at hl 1 rfl) ?_
  refine lv_istore_n (lv' := [(2, .int (mI p0)), (0, .ref (a 0)), (1, .int (mI p0))]) hx hb dX12_normOf_1 rfl hl (by decide) rfl (fun ls hl => ?_)
  refine lv_iconst (v := mI 1) hx hb dX12_normOf_2 rfl ?_
  refine lv_istore_n (lv' := [(3, .int (mI 1)), (2, .int (mI p0)), (0, .ref (a 0)), (1, .int (mI p0))]) hx hb dX12_normOf_3 rfl hl (by decide) rfl (fun ls hl => ?_)
  refine sy_loop (I := fun n H locs g => ∃ (z_47 : Int) (z_48 : Int) (ls : Array Slot), (1 ≤ z_47 ∧ z_47 ≤ 8) ∧ (0 ≤ z_48 ∧ z_48 ≤ 4095) ∧ (0 ≤ p0 - z_48) ∧ (nmI (B_turns x_bank.toNat).toNat p0.toNat z_47.toNat z_48.toNat) ∧ (z_47 ≤ rPl B_told B_turns x_bank) ∧ (8 - z_47).toNat = n ∧ va_P D vwCl (rW k a x_taped x_size x_faultKind x_faultPlace x_at x_end x_token x_number x_bank x_rb x_codes x_within x_piled x_unitsInRule x_askBeast x_askStroke x_askAge x_askSeason x_acts x_undone x_laid x_seens x_time x_fitting n_name B_tape B_text B_turns B_herds B_irons B_beasts B_units B_night B_draw B_told B_brands B_ironMarks B_herdTold B_born B_ruleFrom B_ruleTo B_code B_codeNumber B_eWhat B_eSign B_pile B_all B_burned B_was B_need B_laidRow B_long8 B_brings B_sBurning B_sStroke B_sIs B_sTold B_sUntold B_parts B_boxAll B_isBoxed G_hName G_iName G_bName ex) H ∧ va_S A s.heap H locs ∧ lv_has ls 5 [(3, .int (mI z_47)), (2, .int (mI z_48)), (0, .ref (a 0)), (1, .int (mI p0))] ∧ g = F0 m 4 ls []) ?_ _ ⟨1, p0, _, by omega, by omega, by omega, (nm_1 (t := B_turns x_bank.toNat) (by omega)), by omega, rfl, hP, hS, lv_sub hl [0, 1, 2, 3] rfl, rfl⟩
  intro n_53 H locs g hI ih_54
  obtain ⟨z_47, z_48, ls, h4_0, h4_1, h4_2, h4_3, h4_4, mn_53, hP, hS, hl, rfl⟩ := hI
  refine lv_iload_n hx hb dX12_normOf_4 rfl (lv_at hl 0 rfl) ?_
  refine lv_aload_n hx hb dX12_normOf_5 rfl (lv_at hl 2 rfl) ?_
  refine g_i (rDt hD) hS hA (g_V (own := "HideReaderModel") (As := []) (rest := [.int (mI z_47)]) hx hb hml hown hts hK hP (rDt hD) (kr_X12_placements (l := l) (D := D) (k := k) h_x_bank b_B_turns b_B_told g_R) ck_X12_placements iv_X12_placements uw_6_239 (rv_o hK hP) rfl hl.1 rfl (Nat.le_of_ble_eq_true rfl) dX12_normOf_6 ⟨Nat.le_of_ble_eq_true rfl, Nat.le_of_ble_eq_true rfl⟩ ⟨Nat.le_of_ble_eq_true rfl, Nat.le_of_ble_eq_true rfl⟩) (fun r_55 H locs hQ hS => ?_)
  obtain ⟨hr_55_0, hr_55_1, hP⟩ := hQ
  refine sy_icmp_ge (tgt := 35) hx hb dX12_normOf_9 (by decide) (by omega) (by omega) (fun c_56 => ?_) (fun c_56 => ?_)
  · skip
    refine lv_iload_n hx hb dX12_normOf_35 rfl (lv_at hl 1 rfl) ?_
    exact r_i hx hb hr hlocks dX12_normOf_36 hS ⟨by omega, (nm_end h4_3 (by omega)), hP⟩
  · skip
    refine lv_aload_n hx hb dX12_normOf_12 rfl (lv_at hl 2 rfl) ?_
    refine lv_iload_n hx hb dX12_normOf_13 rfl (lv_at hl 3 rfl) ?_
    refine lv_iload_n hx hb dX12_normOf_14 rfl (lv_at hl 0 rfl) ?_
    refine g_i (rDt hD) hS hA (g_V (own := "HideReaderModel") (As := [.int (mI p0), .int (mI z_47)]) (rest := []) hx hb hml hown hts hK hP (rDt hD) (kr_X12_placedBy (l := l) (D := D) (k := k) (by omega) (by omega) h_x_bank b_B_turns g_R) ck_X12_placedBy iv_X12_placedBy uw_7_7 (rv_o hK hP) rfl hl.1 rfl (Nat.le_of_ble_eq_true rfl) dX12_normOf_15 ⟨Nat.le_of_ble_eq_true rfl, Nat.le_of_ble_eq_true rfl⟩ ⟨Nat.le_of_ble_eq_true rfl, Nat.le_of_ble_eq_true rfl⟩) (fun r_57 H locs hQ hS => ?_)
    obtain ⟨hr_57_0, hr_57_1, hP⟩ := hQ
    refine lv_istore (lv' := [(4, .int (mI r_57)), (3, .int (mI z_47)), (2, .int (mI z_48)), (0, .ref (a 0)), (1, .int (mI p0))]) hx hb dX12_normOf_18 hl (by decide) rfl (fun ls hl => ?_)
    refine lv_iload hx hb dX12_normOf_20 (lv_at hl 0 rfl) ?_
    refine lv_iload_n hx hb dX12_normOf_22 rfl (lv_at hl 2 rfl) ?_
    refine sy_icmp_ge (tgt := 29) hx hb dX12_normOf_23 (by decide) (by omega) (by omega) (fun c_58 => ?_) (fun c_58 => ?_)
    · skip
      refine lv_iinc (v := mI (z_47 + 1)) (lv' := [(3, .int (mI (z_47 + 1))), (4, .int (mI r_57)), (2, .int (mI z_48)), (0, .ref (a 0)), (1, .int (mI p0))]) hx hb dX12_normOf_29 hl (k := 1) rfl (mI_ad rfl) (by decide) rfl (fun ls hl => ?_)
      refine lv_goto (tgt := 4) hx hb dX12_normOf_32 (by decide) ?_
      exact ih_54 _ _ _ _ (by omega) ⟨(z_47 + 1), z_48, _, by omega, by omega, by omega, (nm_s h4_3 (by omega) hr_57_1 (by omega) (by omega) (by omega)), by omega, rfl, hP, hS, lv_sub hl [0, 2, 3, 4] rfl, rfl⟩
    · skip
      refine lv_iload hx hb dX12_normOf_26 (lv_at hl 0 rfl) ?_
      refine lv_istore_n (lv' := [(2, .int (mI r_57)), (4, .int (mI r_57)), (3, .int (mI z_47)), (0, .ref (a 0)), (1, .int (mI p0))]) hx hb dX12_normOf_28 rfl hl (by decide) rfl (fun ls hl => ?_)
      refine lv_iinc (v := mI (z_47 + 1)) (lv' := [(3, .int (mI (z_47 + 1))), (2, .int (mI r_57)), (4, .int (mI r_57)), (0, .ref (a 0)), (1, .int (mI p0))]) hx hb dX12_normOf_29 hl (k := 2) rfl (mI_ad rfl) (by decide) rfl (fun ls hl => ?_)
      refine lv_goto (tgt := 4) hx hb dX12_normOf_32 (by decide) ?_
      exact ih_54 _ _ _ _ (by omega) ⟨(z_47 + 1), r_57, _, by omega, by omega, by omega, (nm_s h4_3 (by omega) hr_57_1 (by omega) (by omega) (by omega)), by omega, rfl, hP, hS, lv_sub hl [0, 1, 3, 4] rfl, rfl⟩
set_option maxHeartbeats 4000000 in
set_option maxRecDepth 100000 in
theorem kr_X12_areOne {p0 p1 : Int} (hp0 : 0 ≤ p0 ∧ p0 ≤ 4095) (hp1 : 0 ≤ p1 ∧ p1 ≤ 4095) (h_x_bank : 0 ≤ x_bank ∧ x_bank ≤ 1) (b_B_turns : bd (0) 4 B_turns) (b_B_told : bd (0) 31 B_told) (g_R : 1 ≤ B_turns x_bank.toNat ∧ ¬ B_turns x_bank.toNat = 3) : MetG l D k yX12_areOne cX12_areOne 3 (some .boolean) 4 [.ref (a 0), .int (mI p0), .int (mI p1)] (rW k a x_taped x_size x_faultKind x_faultPlace x_at x_end x_token x_number x_bank x_rb x_codes x_within x_piled x_unitsInRule x_askBeast x_askStroke x_askAge x_askSeason x_acts x_undone x_laid x_seens x_time x_fitting n_name B_tape B_text B_turns B_herds B_irons B_beasts B_units B_night B_draw B_told B_brands B_ironMarks B_herdTold B_born B_ruleFrom B_ruleTo B_code B_codeNumber B_eWhat B_eSign B_pile B_all B_burned B_was B_need B_laidRow B_long8 B_brings B_sBurning B_sStroke B_sIs B_sTold B_sUntold B_parts B_boxAll B_isBoxed G_hName G_iName G_bName ex) (qGi (fun r0 H => ((0 = r0 ∧ (¬ oN (B_turns x_bank.toNat).toNat p0.toNat p1.toNat (rPl B_told B_turns x_bank).toNat)) ∨ (1 = r0 ∧ (oN (B_turns x_bank.toNat).toNat p0.toNat p1.toNat (rPl B_told B_turns x_bank).toNat))) ∧ va_P D vwCl (rW k a x_taped x_size x_faultKind x_faultPlace x_at x_end x_token x_number x_bank x_rb x_codes x_within x_piled x_unitsInRule x_askBeast x_askStroke x_askAge x_askSeason x_acts x_undone x_laid x_seens x_time x_fitting n_name B_tape B_text B_turns B_herds B_irons B_beasts B_units B_night B_draw B_told B_brands B_ironMarks B_herdTold B_born B_ruleFrom B_ruleTo B_code B_codeNumber B_eWhat B_eSign B_pile B_all B_burned B_was B_need B_laidRow B_long8 B_brings B_sBurning B_sStroke B_sIs B_sTold B_sUntold B_parts B_boxAll B_isBoxed G_hName G_iName G_bName ex) H)) := by
  refine metG_of 2 ck_X12_areOne (Nat.le_of_ble_eq_true rfl) rMap (fun p e s m args below meth c A hx hb hml hr hlocks hown hts hK hD hA hP hS ls hl => ?_)
  have hown : s.vm.findClass "HideReaderModel" = some m.cls := hown
  have hl : lv_has ls 3 [(0, .ref (a 0)), (1, .int (mI p0)), (2, .int (mI p1))] := hl
  refine lv_aload_n hx hb dX12_areOne_0 rfl (lv_at hl 0 rfl) ?_
  refine lv_iload_n hx hb dX12_areOne_1 rfl (lv_at hl 1 rfl) ?_
  refine g_i (rDt hD) hS hA (g_V (own := "HideReaderModel") (As := [.int (mI p0)]) (rest := []) hx hb hml hown hts hK hP (rDt hD) (kr_X12_normOf (l := l) (D := D) (k := k) (by omega) h_x_bank b_B_turns b_B_told g_R) ck_X12_normOf iv_X12_normOf uw_8_194 (rv_o hK hP) rfl hl.1 rfl (Nat.le_of_ble_eq_true rfl) dX12_areOne_2 ⟨Nat.le_of_ble_eq_true rfl, Nat.le_of_ble_eq_true rfl⟩ ⟨Nat.le_of_ble_eq_true rfl, Nat.le_of_ble_eq_true rfl⟩) (fun r_1 H locs hQ hS => ?_)
  obtain ⟨hr_1_0, hr_1_1, hP⟩ := hQ
  refine lv_aload_n hx hb dX12_areOne_5 rfl (lv_at hl 0 rfl) ?_
  refine lv_iload_n hx hb dX12_areOne_6 rfl (lv_at hl 2 rfl) ?_
  refine g_i (rDt hD) hS hA (g_V (own := "HideReaderModel") (As := [.int (mI p1)]) (rest := [.int (mI r_1)]) hx hb hml hown hts hK hP (rDt hD) (kr_X12_normOf (l := l) (D := D) (k := k) (by omega) h_x_bank b_B_turns b_B_told g_R) ck_X12_normOf iv_X12_normOf uw_8_194 (rv_o hK hP) rfl hl.1 rfl (Nat.le_of_ble_eq_true rfl) dX12_areOne_7 ⟨Nat.le_of_ble_eq_true rfl, Nat.le_of_ble_eq_true rfl⟩ ⟨Nat.le_of_ble_eq_true rfl, Nat.le_of_ble_eq_true rfl⟩) (fun r_2 H locs hQ hS => ?_)
  obtain ⟨hr_2_0, hr_2_1, hP⟩ := hQ
  refine sy_icmp_ne (tgt := 17) hx hb dX12_areOne_10 (by decide) (by omega) (by omega) (fun c_3 => ?_) (fun c_3 => ?_)
  · skip
    refine lv_iconst (v := mI 0) hx hb dX12_areOne_17 rfl ?_
    exact r_z hx hb hr hlocks dX12_areOne_18 hS (by decide) ⟨Or.inl (⟨rfl, (oN_n hr_1_1 hr_2_1 (by omega) (by omega) (by omega))⟩), hP⟩
  · skip
    refine lv_iconst (v := mI 1) hx hb dX12_areOne_13 rfl ?_
    refine lv_goto (tgt := 18) hx hb dX12_areOne_14 (by decide) ?_
    exact r_z hx hb hr hlocks dX12_areOne_18 hS (by decide) ⟨Or.inr (⟨rfl, (oN_y hr_1_1 hr_2_1 (by omega))⟩), hP⟩
set_option maxHeartbeats 4000000 in
set_option maxRecDepth 100000 in
theorem kr_X12_stocks (h_x_bank : 0 ≤ x_bank ∧ x_bank ≤ 1) (b_B_herds : bd (0) 8 B_herds) : MetG l D k yX12_stocks cX12_stocks 1 (some .int) 0 [.ref (a 0)] (rW k a x_taped x_size x_faultKind x_faultPlace x_at x_end x_token x_number x_bank x_rb x_codes x_within x_piled x_unitsInRule x_askBeast x_askStroke x_askAge x_askSeason x_acts x_undone x_laid x_seens x_time x_fitting n_name B_tape B_text B_turns B_herds B_irons B_beasts B_units B_night B_draw B_told B_brands B_ironMarks B_herdTold B_born B_ruleFrom B_ruleTo B_code B_codeNumber B_eWhat B_eSign B_pile B_all B_burned B_was B_need B_laidRow B_long8 B_brings B_sBurning B_sStroke B_sIs B_sTold B_sUntold B_parts B_boxAll B_isBoxed G_hName G_iName G_bName ex) (qGi (fun r0 H => (0 ≤ r0 ∧ r0 ≤ 8) ∧ (r0 = B_herds x_bank.toNat) ∧ va_P D vwCl (rW k a x_taped x_size x_faultKind x_faultPlace x_at x_end x_token x_number x_bank x_rb x_codes x_within x_piled x_unitsInRule x_askBeast x_askStroke x_askAge x_askSeason x_acts x_undone x_laid x_seens x_time x_fitting n_name B_tape B_text B_turns B_herds B_irons B_beasts B_units B_night B_draw B_told B_brands B_ironMarks B_herdTold B_born B_ruleFrom B_ruleTo B_code B_codeNumber B_eWhat B_eSign B_pile B_all B_burned B_was B_need B_laidRow B_long8 B_brings B_sBurning B_sStroke B_sIs B_sTold B_sUntold B_parts B_boxAll B_isBoxed G_hName G_iName G_bName ex) H)) := by
  refine metG_of 0 ck_X12_stocks (Nat.le_of_ble_eq_true rfl) rMap (fun p e s m args below meth c A hx hb hml hr hlocks hown hts hK hD hA hP hS ls hl => ?_)
  have hown : s.vm.findClass "HideReaderModel" = some m.cls := hown
  have hl : lv_has ls 1 [(0, .ref (a 0))] := hl
  refine lv_aload_n hx hb dX12_stocks_0 rfl (lv_at hl 0 rfl) ?_
  refine rg_o_herds hx hb hts hown hK hP uw_7_35 dX12_stocks_1 ?_
  refine lv_aload_n hx hb dX12_stocks_4 rfl (lv_at hl 0 rfl) ?_
  refine rg_o_bank hx hb hts hown hK hP uw_7_56 dX12_stocks_5 ?_
  refine rl_herds hx hb hK hP dX12_stocks_8 (by omega) b_B_herds (fun z_1 ez_1 hz_1 => ?_)
  exact r_i hx hb hr hlocks dX12_stocks_9 hS ⟨by omega, ez_1.symm, hP⟩
set_option maxHeartbeats 4000000 in
set_option maxRecDepth 100000 in
theorem kr_X12_tools (h_x_bank : 0 ≤ x_bank ∧ x_bank ≤ 1) (b_B_irons : bd (0) 6 B_irons) : MetG l D k yX12_tools cX12_tools 1 (some .int) 0 [.ref (a 0)] (rW k a x_taped x_size x_faultKind x_faultPlace x_at x_end x_token x_number x_bank x_rb x_codes x_within x_piled x_unitsInRule x_askBeast x_askStroke x_askAge x_askSeason x_acts x_undone x_laid x_seens x_time x_fitting n_name B_tape B_text B_turns B_herds B_irons B_beasts B_units B_night B_draw B_told B_brands B_ironMarks B_herdTold B_born B_ruleFrom B_ruleTo B_code B_codeNumber B_eWhat B_eSign B_pile B_all B_burned B_was B_need B_laidRow B_long8 B_brings B_sBurning B_sStroke B_sIs B_sTold B_sUntold B_parts B_boxAll B_isBoxed G_hName G_iName G_bName ex) (qGi (fun r0 H => (0 ≤ r0 ∧ r0 ≤ 6) ∧ (r0 = B_irons x_bank.toNat) ∧ va_P D vwCl (rW k a x_taped x_size x_faultKind x_faultPlace x_at x_end x_token x_number x_bank x_rb x_codes x_within x_piled x_unitsInRule x_askBeast x_askStroke x_askAge x_askSeason x_acts x_undone x_laid x_seens x_time x_fitting n_name B_tape B_text B_turns B_herds B_irons B_beasts B_units B_night B_draw B_told B_brands B_ironMarks B_herdTold B_born B_ruleFrom B_ruleTo B_code B_codeNumber B_eWhat B_eSign B_pile B_all B_burned B_was B_need B_laidRow B_long8 B_brings B_sBurning B_sStroke B_sIs B_sTold B_sUntold B_parts B_boxAll B_isBoxed G_hName G_iName G_bName ex) H)) := by
  refine metG_of 0 ck_X12_tools (Nat.le_of_ble_eq_true rfl) rMap (fun p e s m args below meth c A hx hb hml hr hlocks hown hts hK hD hA hP hS ls hl => ?_)
  have hown : s.vm.findClass "HideReaderModel" = some m.cls := hown
  have hl : lv_has ls 1 [(0, .ref (a 0))] := hl
  refine lv_aload_n hx hb dX12_tools_0 rfl (lv_at hl 0 rfl) ?_
  refine rg_o_irons hx hb hts hown hK hP uw_7_36 dX12_tools_1 ?_
  refine lv_aload_n hx hb dX12_tools_4 rfl (lv_at hl 0 rfl) ?_
  refine rg_o_bank hx hb hts hown hK hP uw_7_56 dX12_tools_5 ?_
  refine rl_irons hx hb hK hP dX12_tools_8 (by omega) b_B_irons (fun z_1 ez_1 hz_1 => ?_)
  exact r_i hx hb hr hlocks dX12_tools_9 hS ⟨by omega, ez_1.symm, hP⟩
set_option maxHeartbeats 4000000 in
set_option maxRecDepth 100000 in
theorem kr_X12_cattle (h_x_bank : 0 ≤ x_bank ∧ x_bank ≤ 1) (b_B_beasts : bd (0) 8 B_beasts) : MetG l D k yX12_cattle cX12_cattle 1 (some .int) 0 [.ref (a 0)] (rW k a x_taped x_size x_faultKind x_faultPlace x_at x_end x_token x_number x_bank x_rb x_codes x_within x_piled x_unitsInRule x_askBeast x_askStroke x_askAge x_askSeason x_acts x_undone x_laid x_seens x_time x_fitting n_name B_tape B_text B_turns B_herds B_irons B_beasts B_units B_night B_draw B_told B_brands B_ironMarks B_herdTold B_born B_ruleFrom B_ruleTo B_code B_codeNumber B_eWhat B_eSign B_pile B_all B_burned B_was B_need B_laidRow B_long8 B_brings B_sBurning B_sStroke B_sIs B_sTold B_sUntold B_parts B_boxAll B_isBoxed G_hName G_iName G_bName ex) (qGi (fun r0 H => (0 ≤ r0 ∧ r0 ≤ 8) ∧ (r0 = B_beasts x_bank.toNat) ∧ va_P D vwCl (rW k a x_taped x_size x_faultKind x_faultPlace x_at x_end x_token x_number x_bank x_rb x_codes x_within x_piled x_unitsInRule x_askBeast x_askStroke x_askAge x_askSeason x_acts x_undone x_laid x_seens x_time x_fitting n_name B_tape B_text B_turns B_herds B_irons B_beasts B_units B_night B_draw B_told B_brands B_ironMarks B_herdTold B_born B_ruleFrom B_ruleTo B_code B_codeNumber B_eWhat B_eSign B_pile B_all B_burned B_was B_need B_laidRow B_long8 B_brings B_sBurning B_sStroke B_sIs B_sTold B_sUntold B_parts B_boxAll B_isBoxed G_hName G_iName G_bName ex) H)) := by
  refine metG_of 0 ck_X12_cattle (Nat.le_of_ble_eq_true rfl) rMap (fun p e s m args below meth c A hx hb hml hr hlocks hown hts hK hD hA hP hS ls hl => ?_)
  have hown : s.vm.findClass "HideReaderModel" = some m.cls := hown
  have hl : lv_has ls 1 [(0, .ref (a 0))] := hl
  refine lv_aload_n hx hb dX12_cattle_0 rfl (lv_at hl 0 rfl) ?_
  refine rg_o_beasts hx hb hts hown hK hP uw_7_37 dX12_cattle_1 ?_
  refine lv_aload_n hx hb dX12_cattle_4 rfl (lv_at hl 0 rfl) ?_
  refine rg_o_bank hx hb hts hown hK hP uw_7_56 dX12_cattle_5 ?_
  refine rl_beasts hx hb hK hP dX12_cattle_8 (by omega) b_B_beasts (fun z_1 ez_1 hz_1 => ?_)
  exact r_i hx hb hr hlocks dX12_cattle_9 hS ⟨by omega, ez_1.symm, hP⟩
set_option maxHeartbeats 4000000 in
set_option maxRecDepth 100000 in
theorem kr_X12_isHerd {p0 : Int} (hp0 : -2147483648 ≤ p0 ∧ p0 ≤ 2147483647) (h_x_bank : 0 ≤ x_bank ∧ x_bank ≤ 1) (b_B_herds : bd (0) 8 B_herds) : MetG l D k yX12_isHerd cX12_isHerd 2 (some .boolean) 1 [.ref (a 0), .int (mI p0)] (rW k a x_taped x_size x_faultKind x_faultPlace x_at x_end x_token x_number x_bank x_rb x_codes x_within x_piled x_unitsInRule x_askBeast x_askStroke x_askAge x_askSeason x_acts x_undone x_laid x_seens x_time x_fitting n_name B_tape B_text B_turns B_herds B_irons B_beasts B_units B_night B_draw B_told B_brands B_ironMarks B_herdTold B_born B_ruleFrom B_ruleTo B_code B_codeNumber B_eWhat B_eSign B_pile B_all B_burned B_was B_need B_laidRow B_long8 B_brings B_sBurning B_sStroke B_sIs B_sTold B_sUntold B_parts B_boxAll B_isBoxed G_hName G_iName G_bName ex) (qGi (fun r0 H => ((0 = r0) ∨ (1 = r0 ∧ (0 ≤ p0 ∧ p0 ≤ 7))) ∧ va_P D vwCl (rW k a x_taped x_size x_faultKind x_faultPlace x_at x_end x_token x_number x_bank x_rb x_codes x_within x_piled x_unitsInRule x_askBeast x_askStroke x_askAge x_askSeason x_acts x_undone x_laid x_seens x_time x_fitting n_name B_tape B_text B_turns B_herds B_irons B_beasts B_units B_night B_draw B_told B_brands B_ironMarks B_herdTold B_born B_ruleFrom B_ruleTo B_code B_codeNumber B_eWhat B_eSign B_pile B_all B_burned B_was B_need B_laidRow B_long8 B_brings B_sBurning B_sStroke B_sIs B_sTold B_sUntold B_parts B_boxAll B_isBoxed G_hName G_iName G_bName ex) H)) := by
  refine metG_of 1 ck_X12_isHerd (Nat.le_of_ble_eq_true rfl) rMap (fun p e s m args below meth c A hx hb hml hr hlocks hown hts hK hD hA hP hS ls hl => ?_)
  have hown : s.vm.findClass "HideReaderModel" = some m.cls := hown
  have hl : lv_has ls 2 [(0, .ref (a 0)), (1, .int (mI p0))] := hl
  refine lv_iload_n hx hb dX12_isHerd_0 rfl (lv_at hl 1 rfl) ?_
  refine lv_iconst (v := mI 0) hx hb dX12_isHerd_1 rfl ?_
  refine lv_aload_n hx hb dX12_isHerd_2 rfl (lv_at hl 0 rfl) ?_
  refine g_i (rDt hD) hS hA (g_V (own := "HideReaderModel") (As := []) (rest := [.int (mI 0), .int (mI p0)]) hx hb hml hown hts hK hP (rDt hD) (kr_X12_stocks (l := l) (D := D) (k := k) h_x_bank b_B_herds) ck_X12_stocks iv_X12_stocks uw_8_126 (rv_o hK hP) rfl hl.1 rfl (Nat.le_of_ble_eq_true rfl) dX12_isHerd_3 ⟨Nat.le_of_ble_eq_true rfl, Nat.le_of_ble_eq_true rfl⟩ ⟨Nat.le_of_ble_eq_true rfl, Nat.le_of_ble_eq_true rfl⟩) (fun r_1 H locs hQ hS => ?_)
  obtain ⟨hr_1_0, hr_1_1, hP⟩ := hQ
  refine lv_iconst (v := mI 1) hx hb dX12_isHerd_6 rfl ?_
  refine sy_isub hx hb dX12_isHerd_7 (r_1 - 1) rfl ?_
  refine g_i (rDt hD) hS hA (g_S (own := "HideReaderModel") (As := [.int (mI p0), .int (mI 0), .int (mI (r_1 - 1))]) (rest := []) hx hb hml hown hts hK hP (rDt hD) (kr_X12_isIn (l := l) (D := D) (k := k) (by omega) (by decide) (by omega)) ck_X12_isIn uw_8_131 uw_8_130 rfl hl.1 rfl (Nat.le_of_ble_eq_true rfl) dX12_isHerd_8 ⟨Nat.le_of_ble_eq_true rfl, Nat.le_of_ble_eq_true rfl⟩ ⟨Nat.le_of_ble_eq_true rfl, Nat.le_of_ble_eq_true rfl⟩) (fun r_2 H locs hQ hS => ?_)
  obtain ⟨hq_r_2, hP⟩ := hQ
  rcases hq_r_2 with ⟨rfl, c_3_0⟩ | ⟨rfl, c_4_0, c_4_1⟩
  · skip
    exact r_z hx hb hr hlocks dX12_isHerd_11 hS (by decide) ⟨Or.inl (rfl), hP⟩
  · skip
    exact r_z hx hb hr hlocks dX12_isHerd_11 hS (by decide) ⟨Or.inr (⟨rfl, by omega⟩), hP⟩
set_option maxHeartbeats 4000000 in
set_option maxRecDepth 100000 in
theorem kr_X12_isIron {p0 : Int} (hp0 : -2147483648 ≤ p0 ∧ p0 ≤ 2147483647) (h_x_bank : 0 ≤ x_bank ∧ x_bank ≤ 1) (b_B_irons : bd (0) 6 B_irons) : MetG l D k yX12_isIron cX12_isIron 2 (some .boolean) 1 [.ref (a 0), .int (mI p0)] (rW k a x_taped x_size x_faultKind x_faultPlace x_at x_end x_token x_number x_bank x_rb x_codes x_within x_piled x_unitsInRule x_askBeast x_askStroke x_askAge x_askSeason x_acts x_undone x_laid x_seens x_time x_fitting n_name B_tape B_text B_turns B_herds B_irons B_beasts B_units B_night B_draw B_told B_brands B_ironMarks B_herdTold B_born B_ruleFrom B_ruleTo B_code B_codeNumber B_eWhat B_eSign B_pile B_all B_burned B_was B_need B_laidRow B_long8 B_brings B_sBurning B_sStroke B_sIs B_sTold B_sUntold B_parts B_boxAll B_isBoxed G_hName G_iName G_bName ex) (qGi (fun r0 H => ((0 = r0) ∨ (1 = r0 ∧ (0 ≤ p0 ∧ p0 ≤ 5))) ∧ va_P D vwCl (rW k a x_taped x_size x_faultKind x_faultPlace x_at x_end x_token x_number x_bank x_rb x_codes x_within x_piled x_unitsInRule x_askBeast x_askStroke x_askAge x_askSeason x_acts x_undone x_laid x_seens x_time x_fitting n_name B_tape B_text B_turns B_herds B_irons B_beasts B_units B_night B_draw B_told B_brands B_ironMarks B_herdTold B_born B_ruleFrom B_ruleTo B_code B_codeNumber B_eWhat B_eSign B_pile B_all B_burned B_was B_need B_laidRow B_long8 B_brings B_sBurning B_sStroke B_sIs B_sTold B_sUntold B_parts B_boxAll B_isBoxed G_hName G_iName G_bName ex) H)) := by
  refine metG_of 1 ck_X12_isIron (Nat.le_of_ble_eq_true rfl) rMap (fun p e s m args below meth c A hx hb hml hr hlocks hown hts hK hD hA hP hS ls hl => ?_)
  have hown : s.vm.findClass "HideReaderModel" = some m.cls := hown
  have hl : lv_has ls 2 [(0, .ref (a 0)), (1, .int (mI p0))] := hl
  refine lv_iload_n hx hb dX12_isIron_0 rfl (lv_at hl 1 rfl) ?_
  refine lv_iconst (v := mI 0) hx hb dX12_isIron_1 rfl ?_
  refine lv_aload_n hx hb dX12_isIron_2 rfl (lv_at hl 0 rfl) ?_
  refine g_i (rDt hD) hS hA (g_V (own := "HideReaderModel") (As := []) (rest := [.int (mI 0), .int (mI p0)]) hx hb hml hown hts hK hP (rDt hD) (kr_X12_tools (l := l) (D := D) (k := k) h_x_bank b_B_irons) ck_X12_tools iv_X12_tools uw_6_235 (rv_o hK hP) rfl hl.1 rfl (Nat.le_of_ble_eq_true rfl) dX12_isIron_3 ⟨Nat.le_of_ble_eq_true rfl, Nat.le_of_ble_eq_true rfl⟩ ⟨Nat.le_of_ble_eq_true rfl, Nat.le_of_ble_eq_true rfl⟩) (fun r_1 H locs hQ hS => ?_)
  obtain ⟨hr_1_0, hr_1_1, hP⟩ := hQ
  refine lv_iconst (v := mI 1) hx hb dX12_isIron_6 rfl ?_
  refine sy_isub hx hb dX12_isIron_7 (r_1 - 1) rfl ?_
  refine g_i (rDt hD) hS hA (g_S (own := "HideReaderModel") (As := [.int (mI p0), .int (mI 0), .int (mI (r_1 - 1))]) (rest := []) hx hb hml hown hts hK hP (rDt hD) (kr_X12_isIn (l := l) (D := D) (k := k) (by omega) (by decide) (by omega)) ck_X12_isIn uw_8_131 uw_8_130 rfl hl.1 rfl (Nat.le_of_ble_eq_true rfl) dX12_isIron_8 ⟨Nat.le_of_ble_eq_true rfl, Nat.le_of_ble_eq_true rfl⟩ ⟨Nat.le_of_ble_eq_true rfl, Nat.le_of_ble_eq_true rfl⟩) (fun r_2 H locs hQ hS => ?_)
  obtain ⟨hq_r_2, hP⟩ := hQ
  rcases hq_r_2 with ⟨rfl, c_3_0⟩ | ⟨rfl, c_4_0, c_4_1⟩
  · skip
    exact r_z hx hb hr hlocks dX12_isIron_11 hS (by decide) ⟨Or.inl (rfl), hP⟩
  · skip
    exact r_z hx hb hr hlocks dX12_isIron_11 hS (by decide) ⟨Or.inr (⟨rfl, by omega⟩), hP⟩
set_option maxHeartbeats 4000000 in
set_option maxRecDepth 100000 in
theorem kr_X12_isBeast {p0 : Int} (hp0 : -2147483648 ≤ p0 ∧ p0 ≤ 2147483647) (h_x_bank : 0 ≤ x_bank ∧ x_bank ≤ 1) (b_B_beasts : bd (0) 8 B_beasts) : MetG l D k yX12_isBeast cX12_isBeast 2 (some .boolean) 1 [.ref (a 0), .int (mI p0)] (rW k a x_taped x_size x_faultKind x_faultPlace x_at x_end x_token x_number x_bank x_rb x_codes x_within x_piled x_unitsInRule x_askBeast x_askStroke x_askAge x_askSeason x_acts x_undone x_laid x_seens x_time x_fitting n_name B_tape B_text B_turns B_herds B_irons B_beasts B_units B_night B_draw B_told B_brands B_ironMarks B_herdTold B_born B_ruleFrom B_ruleTo B_code B_codeNumber B_eWhat B_eSign B_pile B_all B_burned B_was B_need B_laidRow B_long8 B_brings B_sBurning B_sStroke B_sIs B_sTold B_sUntold B_parts B_boxAll B_isBoxed G_hName G_iName G_bName ex) (qGi (fun r0 H => ((0 = r0) ∨ (1 = r0 ∧ (0 ≤ p0 ∧ p0 ≤ 7))) ∧ va_P D vwCl (rW k a x_taped x_size x_faultKind x_faultPlace x_at x_end x_token x_number x_bank x_rb x_codes x_within x_piled x_unitsInRule x_askBeast x_askStroke x_askAge x_askSeason x_acts x_undone x_laid x_seens x_time x_fitting n_name B_tape B_text B_turns B_herds B_irons B_beasts B_units B_night B_draw B_told B_brands B_ironMarks B_herdTold B_born B_ruleFrom B_ruleTo B_code B_codeNumber B_eWhat B_eSign B_pile B_all B_burned B_was B_need B_laidRow B_long8 B_brings B_sBurning B_sStroke B_sIs B_sTold B_sUntold B_parts B_boxAll B_isBoxed G_hName G_iName G_bName ex) H)) := by
  refine metG_of 1 ck_X12_isBeast (Nat.le_of_ble_eq_true rfl) rMap (fun p e s m args below meth c A hx hb hml hr hlocks hown hts hK hD hA hP hS ls hl => ?_)
  have hown : s.vm.findClass "HideReaderModel" = some m.cls := hown
  have hl : lv_has ls 2 [(0, .ref (a 0)), (1, .int (mI p0))] := hl
  refine lv_iload_n hx hb dX12_isBeast_0 rfl (lv_at hl 1 rfl) ?_
  refine lv_iconst (v := mI 0) hx hb dX12_isBeast_1 rfl ?_
  refine lv_aload_n hx hb dX12_isBeast_2 rfl (lv_at hl 0 rfl) ?_
  refine g_i (rDt hD) hS hA (g_V (own := "HideReaderModel") (As := []) (rest := [.int (mI 0), .int (mI p0)]) hx hb hml hown hts hK hP (rDt hD) (kr_X12_cattle (l := l) (D := D) (k := k) h_x_bank b_B_beasts) ck_X12_cattle iv_X12_cattle uw_6_212 (rv_o hK hP) rfl hl.1 rfl (Nat.le_of_ble_eq_true rfl) dX12_isBeast_3 ⟨Nat.le_of_ble_eq_true rfl, Nat.le_of_ble_eq_true rfl⟩ ⟨Nat.le_of_ble_eq_true rfl, Nat.le_of_ble_eq_true rfl⟩) (fun r_1 H locs hQ hS => ?_)
  obtain ⟨hr_1_0, hr_1_1, hP⟩ := hQ
  refine lv_iconst (v := mI 1) hx hb dX12_isBeast_6 rfl ?_
  refine sy_isub hx hb dX12_isBeast_7 (r_1 - 1) rfl ?_
  refine g_i (rDt hD) hS hA (g_S (own := "HideReaderModel") (As := [.int (mI p0), .int (mI 0), .int (mI (r_1 - 1))]) (rest := []) hx hb hml hown hts hK hP (rDt hD) (kr_X12_isIn (l := l) (D := D) (k := k) (by omega) (by decide) (by omega)) ck_X12_isIn uw_8_131 uw_8_130 rfl hl.1 rfl (Nat.le_of_ble_eq_true rfl) dX12_isBeast_8 ⟨Nat.le_of_ble_eq_true rfl, Nat.le_of_ble_eq_true rfl⟩ ⟨Nat.le_of_ble_eq_true rfl, Nat.le_of_ble_eq_true rfl⟩) (fun r_2 H locs hQ hS => ?_)
  obtain ⟨hq_r_2, hP⟩ := hQ
  rcases hq_r_2 with ⟨rfl, c_3_0⟩ | ⟨rfl, c_4_0, c_4_1⟩
  · skip
    exact r_z hx hb hr hlocks dX12_isBeast_11 hS (by decide) ⟨Or.inl (rfl), hP⟩
  · skip
    exact r_z hx hb hr hlocks dX12_isBeast_11 hS (by decide) ⟨Or.inr (⟨rfl, by omega⟩), hP⟩
set_option maxHeartbeats 4000000 in
set_option maxRecDepth 100000 in
theorem kr_X12_brandOf {p0 : Int} (hp0 : 0 ≤ p0 ∧ p0 ≤ 7) (h_x_bank : 0 ≤ x_bank ∧ x_bank ≤ 1) (b_B_brands : bd (0) 4095 B_brands) : MetG l D k yX12_brandOf cX12_brandOf 2 (some .int) 0 [.ref (a 0), .int (mI p0)] (rW k a x_taped x_size x_faultKind x_faultPlace x_at x_end x_token x_number x_bank x_rb x_codes x_within x_piled x_unitsInRule x_askBeast x_askStroke x_askAge x_askSeason x_acts x_undone x_laid x_seens x_time x_fitting n_name B_tape B_text B_turns B_herds B_irons B_beasts B_units B_night B_draw B_told B_brands B_ironMarks B_herdTold B_born B_ruleFrom B_ruleTo B_code B_codeNumber B_eWhat B_eSign B_pile B_all B_burned B_was B_need B_laidRow B_long8 B_brings B_sBurning B_sStroke B_sIs B_sTold B_sUntold B_parts B_boxAll B_isBoxed G_hName G_iName G_bName ex) (qGi (fun r0 H => (0 ≤ r0 ∧ r0 ≤ 4095) ∧ (r0 = B_brands (8 * x_bank + p0).toNat) ∧ va_P D vwCl (rW k a x_taped x_size x_faultKind x_faultPlace x_at x_end x_token x_number x_bank x_rb x_codes x_within x_piled x_unitsInRule x_askBeast x_askStroke x_askAge x_askSeason x_acts x_undone x_laid x_seens x_time x_fitting n_name B_tape B_text B_turns B_herds B_irons B_beasts B_units B_night B_draw B_told B_brands B_ironMarks B_herdTold B_born B_ruleFrom B_ruleTo B_code B_codeNumber B_eWhat B_eSign B_pile B_all B_burned B_was B_need B_laidRow B_long8 B_brings B_sBurning B_sStroke B_sIs B_sTold B_sUntold B_parts B_boxAll B_isBoxed G_hName G_iName G_bName ex) H)) := by
  refine metG_of 1 ck_X12_brandOf (Nat.le_of_ble_eq_true rfl) rMap (fun p e s m args below meth c A hx hb hml hr hlocks hown hts hK hD hA hP hS ls hl => ?_)
  have hown : s.vm.findClass "HideReaderModel" = some m.cls := hown
  have hl : lv_has ls 2 [(0, .ref (a 0)), (1, .int (mI p0))] := hl
  refine lv_aload_n hx hb dX12_brandOf_0 rfl (lv_at hl 0 rfl) ?_
  refine rg_o_brands hx hb hts hown hK hP uw_7_42 dX12_brandOf_1 ?_
  refine lv_bipush (v := mI 8) hx hb dX12_brandOf_4 (by decide) ?_
  refine lv_aload_n hx hb dX12_brandOf_6 rfl (lv_at hl 0 rfl) ?_
  refine rg_o_bank hx hb hts hown hK hP uw_7_56 dX12_brandOf_7 ?_
  refine sy_imul hx hb dX12_brandOf_10 (8 * x_bank) rfl ?_
  refine lv_iload_n hx hb dX12_brandOf_11 rfl (lv_at hl 1 rfl) ?_
  refine sy_iadd hx hb dX12_brandOf_12 (8 * x_bank + p0) rfl ?_
  refine rl_brands hx hb hK hP dX12_brandOf_13 (by omega) b_B_brands (fun z_1 ez_1 hz_1 => ?_)
  exact r_i hx hb hr hlocks dX12_brandOf_14 hS ⟨by omega, ez_1.symm, hP⟩
set_option maxHeartbeats 4000000 in
set_option maxRecDepth 100000 in
theorem kr_X12_ironOf {p0 : Int} (hp0 : 0 ≤ p0 ∧ p0 ≤ 5) (h_x_bank : 0 ≤ x_bank ∧ x_bank ≤ 1) (b_B_ironMarks : bd (0) 4095 B_ironMarks) : MetG l D k yX12_ironOf cX12_ironOf 2 (some .int) 0 [.ref (a 0), .int (mI p0)] (rW k a x_taped x_size x_faultKind x_faultPlace x_at x_end x_token x_number x_bank x_rb x_codes x_within x_piled x_unitsInRule x_askBeast x_askStroke x_askAge x_askSeason x_acts x_undone x_laid x_seens x_time x_fitting n_name B_tape B_text B_turns B_herds B_irons B_beasts B_units B_night B_draw B_told B_brands B_ironMarks B_herdTold B_born B_ruleFrom B_ruleTo B_code B_codeNumber B_eWhat B_eSign B_pile B_all B_burned B_was B_need B_laidRow B_long8 B_brings B_sBurning B_sStroke B_sIs B_sTold B_sUntold B_parts B_boxAll B_isBoxed G_hName G_iName G_bName ex) (qGi (fun r0 H => (0 ≤ r0 ∧ r0 ≤ 4095) ∧ va_P D vwCl (rW k a x_taped x_size x_faultKind x_faultPlace x_at x_end x_token x_number x_bank x_rb x_codes x_within x_piled x_unitsInRule x_askBeast x_askStroke x_askAge x_askSeason x_acts x_undone x_laid x_seens x_time x_fitting n_name B_tape B_text B_turns B_herds B_irons B_beasts B_units B_night B_draw B_told B_brands B_ironMarks B_herdTold B_born B_ruleFrom B_ruleTo B_code B_codeNumber B_eWhat B_eSign B_pile B_all B_burned B_was B_need B_laidRow B_long8 B_brings B_sBurning B_sStroke B_sIs B_sTold B_sUntold B_parts B_boxAll B_isBoxed G_hName G_iName G_bName ex) H)) := by
  refine metG_of 1 ck_X12_ironOf (Nat.le_of_ble_eq_true rfl) rMap (fun p e s m args below meth c A hx hb hml hr hlocks hown hts hK hD hA hP hS ls hl => ?_)
  have hown : s.vm.findClass "HideReaderModel" = some m.cls := hown
  have hl : lv_has ls 2 [(0, .ref (a 0)), (1, .int (mI p0))] := hl
  refine lv_aload_n hx hb dX12_ironOf_0 rfl (lv_at hl 0 rfl) ?_
  refine rg_o_ironMarks hx hb hts hown hK hP uw_7_43 dX12_ironOf_1 ?_
  refine lv_bipush (v := mI 6) hx hb dX12_ironOf_4 (by decide) ?_
  refine lv_aload_n hx hb dX12_ironOf_6 rfl (lv_at hl 0 rfl) ?_
  refine rg_o_bank hx hb hts hown hK hP uw_7_56 dX12_ironOf_7 ?_
  refine sy_imul hx hb dX12_ironOf_10 (6 * x_bank) rfl ?_
  refine lv_iload_n hx hb dX12_ironOf_11 rfl (lv_at hl 1 rfl) ?_
  refine sy_iadd hx hb dX12_ironOf_12 (6 * x_bank + p0) rfl ?_
  refine rl_ironMarks hx hb hK hP dX12_ironOf_13 (by omega) b_B_ironMarks (fun z_1 _ hz_1 => ?_)
  exact r_i hx hb hr hlocks dX12_ironOf_14 hS ⟨by omega, hP⟩
set_option maxHeartbeats 4000000 in
set_option maxRecDepth 100000 in
theorem kr_X12_firstHerd {p0 : Int} (hp0 : 0 ≤ p0 ∧ p0 ≤ 7) (h_x_bank : 0 ≤ x_bank ∧ x_bank ≤ 1) (b_B_herdTold : bd (0) 7 B_herdTold) : MetG l D k yX12_firstHerd cX12_firstHerd 2 (some .int) 0 [.ref (a 0), .int (mI p0)] (rW k a x_taped x_size x_faultKind x_faultPlace x_at x_end x_token x_number x_bank x_rb x_codes x_within x_piled x_unitsInRule x_askBeast x_askStroke x_askAge x_askSeason x_acts x_undone x_laid x_seens x_time x_fitting n_name B_tape B_text B_turns B_herds B_irons B_beasts B_units B_night B_draw B_told B_brands B_ironMarks B_herdTold B_born B_ruleFrom B_ruleTo B_code B_codeNumber B_eWhat B_eSign B_pile B_all B_burned B_was B_need B_laidRow B_long8 B_brings B_sBurning B_sStroke B_sIs B_sTold B_sUntold B_parts B_boxAll B_isBoxed G_hName G_iName G_bName ex) (qGi (fun r0 H => (0 ≤ r0 ∧ r0 ≤ 7) ∧ va_P D vwCl (rW k a x_taped x_size x_faultKind x_faultPlace x_at x_end x_token x_number x_bank x_rb x_codes x_within x_piled x_unitsInRule x_askBeast x_askStroke x_askAge x_askSeason x_acts x_undone x_laid x_seens x_time x_fitting n_name B_tape B_text B_turns B_herds B_irons B_beasts B_units B_night B_draw B_told B_brands B_ironMarks B_herdTold B_born B_ruleFrom B_ruleTo B_code B_codeNumber B_eWhat B_eSign B_pile B_all B_burned B_was B_need B_laidRow B_long8 B_brings B_sBurning B_sStroke B_sIs B_sTold B_sUntold B_parts B_boxAll B_isBoxed G_hName G_iName G_bName ex) H)) := by
  refine metG_of 1 ck_X12_firstHerd (Nat.le_of_ble_eq_true rfl) rMap (fun p e s m args below meth c A hx hb hml hr hlocks hown hts hK hD hA hP hS ls hl => ?_)
  have hown : s.vm.findClass "HideReaderModel" = some m.cls := hown
  have hl : lv_has ls 2 [(0, .ref (a 0)), (1, .int (mI p0))] := hl
  refine lv_aload_n hx hb dX12_firstHerd_0 rfl (lv_at hl 0 rfl) ?_
  refine rg_o_herdTold hx hb hts hown hK hP uw_7_44 dX12_firstHerd_1 ?_
  refine lv_bipush (v := mI 8) hx hb dX12_firstHerd_4 (by decide) ?_
  refine lv_aload_n hx hb dX12_firstHerd_6 rfl (lv_at hl 0 rfl) ?_
  refine rg_o_bank hx hb hts hown hK hP uw_7_56 dX12_firstHerd_7 ?_
  refine sy_imul hx hb dX12_firstHerd_10 (8 * x_bank) rfl ?_
  refine lv_iload_n hx hb dX12_firstHerd_11 rfl (lv_at hl 1 rfl) ?_
  refine sy_iadd hx hb dX12_firstHerd_12 (8 * x_bank + p0) rfl ?_
  refine rl_herdTold hx hb hK hP dX12_firstHerd_13 (by omega) b_B_herdTold (fun z_1 _ hz_1 => ?_)
  exact r_i hx hb hr hlocks dX12_firstHerd_14 hS ⟨by omega, hP⟩
set_option maxHeartbeats 4000000 in
set_option maxRecDepth 100000 in
theorem kr_X12_slot {p0 p1 : Int} (hp0 : 0 ≤ p0 ∧ p0 ≤ 7) (hp1 : 0 ≤ p1 ∧ p1 ≤ 11) : MetG l D k yX12_slot cX12_slot 3 (some .int) 0 [.ref (a 0), .int (mI p0), .int (mI p1)] (rW k a x_taped x_size x_faultKind x_faultPlace x_at x_end x_token x_number x_bank x_rb x_codes x_within x_piled x_unitsInRule x_askBeast x_askStroke x_askAge x_askSeason x_acts x_undone x_laid x_seens x_time x_fitting n_name B_tape B_text B_turns B_herds B_irons B_beasts B_units B_night B_draw B_told B_brands B_ironMarks B_herdTold B_born B_ruleFrom B_ruleTo B_code B_codeNumber B_eWhat B_eSign B_pile B_all B_burned B_was B_need B_laidRow B_long8 B_brings B_sBurning B_sStroke B_sIs B_sTold B_sUntold B_parts B_boxAll B_isBoxed G_hName G_iName G_bName ex) (qGi (fun r0 H => ((12 * p0 + p1 + 16 = r0)) ∧ va_P D vwCl (rW k a x_taped x_size x_faultKind x_faultPlace x_at x_end x_token x_number x_bank x_rb x_codes x_within x_piled x_unitsInRule x_askBeast x_askStroke x_askAge x_askSeason x_acts x_undone x_laid x_seens x_time x_fitting n_name B_tape B_text B_turns B_herds B_irons B_beasts B_units B_night B_draw B_told B_brands B_ironMarks B_herdTold B_born B_ruleFrom B_ruleTo B_code B_codeNumber B_eWhat B_eSign B_pile B_all B_burned B_was B_need B_laidRow B_long8 B_brings B_sBurning B_sStroke B_sIs B_sTold B_sUntold B_parts B_boxAll B_isBoxed G_hName G_iName G_bName ex) H)) := by
  refine metG_of 2 ck_X12_slot (Nat.le_of_ble_eq_true rfl) rMap (fun p e s m args below meth c A hx hb hml hr hlocks hown hts hK hD hA hP hS ls hl => ?_)
  have hown : s.vm.findClass "HideReaderModel" = some m.cls := hown
  have hl : lv_has ls 3 [(0, .ref (a 0)), (1, .int (mI p0)), (2, .int (mI p1))] := hl
  refine lv_bipush (v := mI 16) hx hb dX12_slot_0 (by decide) ?_
  refine lv_bipush (v := mI 12) hx hb dX12_slot_2 (by decide) ?_
  refine lv_iload_n hx hb dX12_slot_4 rfl (lv_at hl 1 rfl) ?_
  refine sy_imul hx hb dX12_slot_5 (12 * p0) rfl ?_
  refine sy_iadd hx hb dX12_slot_6 (12 * p0 + 16) (by omega) ?_
  refine lv_iload_n hx hb dX12_slot_7 rfl (lv_at hl 2 rfl) ?_
  refine sy_iadd hx hb dX12_slot_8 (12 * p0 + p1 + 16) (by omega) ?_
  exact r_i hx hb hr hlocks dX12_slot_9 hS ⟨rfl, hP⟩
set_option maxHeartbeats 4000000 in
set_option maxRecDepth 100000 in
theorem kr_X12_brand {p0 : Int} (hp0 : -2147483648 ≤ p0 ∧ p0 ≤ 2147483647) (h_x_bank : 0 ≤ x_bank ∧ x_bank ≤ 1) (b_B_herds : bd (0) 8 B_herds) (b_B_brands : bd (0) 4095 B_brands) : MetG l D k yX12_brand cX12_brand 2 (some .int) 2 [.ref (a 0), .int (mI p0)] (rW k a x_taped x_size x_faultKind x_faultPlace x_at x_end x_token x_number x_bank x_rb x_codes x_within x_piled x_unitsInRule x_askBeast x_askStroke x_askAge x_askSeason x_acts x_undone x_laid x_seens x_time x_fitting n_name B_tape B_text B_turns B_herds B_irons B_beasts B_units B_night B_draw B_told B_brands B_ironMarks B_herdTold B_born B_ruleFrom B_ruleTo B_code B_codeNumber B_eWhat B_eSign B_pile B_all B_burned B_was B_need B_laidRow B_long8 B_brings B_sBurning B_sStroke B_sIs B_sTold B_sUntold B_parts B_boxAll B_isBoxed G_hName G_iName G_bName ex) (qGi (fun r0 H => (-1 ≤ r0 ∧ r0 ≤ 4095) ∧ va_P D vwCl (rW k a x_taped x_size x_faultKind x_faultPlace x_at x_end x_token x_number x_bank x_rb x_codes x_within x_piled x_unitsInRule x_askBeast x_askStroke x_askAge x_askSeason x_acts x_undone x_laid x_seens x_time x_fitting n_name B_tape B_text B_turns B_herds B_irons B_beasts B_units B_night B_draw B_told B_brands B_ironMarks B_herdTold B_born B_ruleFrom B_ruleTo B_code B_codeNumber B_eWhat B_eSign B_pile B_all B_burned B_was B_need B_laidRow B_long8 B_brings B_sBurning B_sStroke B_sIs B_sTold B_sUntold B_parts B_boxAll B_isBoxed G_hName G_iName G_bName ex) H)) := by
  refine metG_of 1 ck_X12_brand (Nat.le_of_ble_eq_true rfl) rMap (fun p e s m args below meth c A hx hb hml hr hlocks hown hts hK hD hA hP hS ls hl => ?_)
  have hown : s.vm.findClass "HideReaderModel" = some m.cls := hown
  have hl : lv_has ls 2 [(0, .ref (a 0)), (1, .int (mI p0))] := hl
  refine lv_aload_n hx hb dX12_brand_0 rfl (lv_at hl 0 rfl) ?_
  refine lv_iload_n hx hb dX12_brand_1 rfl (lv_at hl 1 rfl) ?_
  refine g_i (rDt hD) hS hA (g_V (own := "HideReaderModel") (As := [.int (mI p0)]) (rest := []) hx hb hml hown hts hK hP (rDt hD) (kr_X12_isHerd (l := l) (D := D) (k := k) (by omega) h_x_bank b_B_herds) ck_X12_isHerd iv_X12_isHerd uw_8_122 (rv_o hK hP) rfl hl.1 rfl (Nat.le_of_ble_eq_true rfl) dX12_brand_2 ⟨Nat.le_of_ble_eq_true rfl, Nat.le_of_ble_eq_true rfl⟩ ⟨Nat.le_of_ble_eq_true rfl, Nat.le_of_ble_eq_true rfl⟩) (fun r_1 H locs hQ hS => ?_)
  obtain ⟨hq_r_1, hP⟩ := hQ
  rcases hq_r_1 with rfl | ⟨rfl, c_3_0⟩
  · skip
    refine sy_if_eq (tgt := 16) hx hb dX12_brand_5 (by decide) (by decide) (fun c_4 => ?_) (fun c9 => absurd c9 (by decide))
    refine lv_iconst (v := mI (-1)) hx hb dX12_brand_16 rfl ?_
    exact r_i hx hb hr hlocks dX12_brand_17 hS ⟨by omega, hP⟩
  · skip
    refine sy_if_eq (tgt := 16) hx hb dX12_brand_5 (by decide) (by decide) (fun c9 => absurd c9 (by decide)) (fun c_5 => ?_)
    refine lv_aload_n hx hb dX12_brand_8 rfl (lv_at hl 0 rfl) ?_
    refine lv_iload_n hx hb dX12_brand_9 rfl (lv_at hl 1 rfl) ?_
    refine g_i (rDt hD) hS hA (g_V (own := "HideReaderModel") (As := [.int (mI p0)]) (rest := []) hx hb hml hown hts hK hP (rDt hD) (kr_X12_brandOf (l := l) (D := D) (k := k) (by omega) h_x_bank b_B_brands) ck_X12_brandOf iv_X12_brandOf uw_6_220 (rv_o hK hP) rfl hl.1 rfl (Nat.le_of_ble_eq_true rfl) dX12_brand_10 ⟨Nat.le_of_ble_eq_true rfl, Nat.le_of_ble_eq_true rfl⟩ ⟨Nat.le_of_ble_eq_true rfl, Nat.le_of_ble_eq_true rfl⟩) (fun r_6 H locs hQ hS => ?_)
    obtain ⟨hr_6_0, hr_6_1, hP⟩ := hQ
    refine lv_goto (tgt := 17) hx hb dX12_brand_13 (by decide) ?_
    exact r_i hx hb hr hlocks dX12_brand_17 hS ⟨by omega, hP⟩
set_option maxHeartbeats 4000000 in
set_option maxRecDepth 100000 in
theorem kr_X12_iron {p0 : Int} (hp0 : -2147483648 ≤ p0 ∧ p0 ≤ 2147483647) (h_x_bank : 0 ≤ x_bank ∧ x_bank ≤ 1) (b_B_irons : bd (0) 6 B_irons) (b_B_ironMarks : bd (0) 4095 B_ironMarks) : MetG l D k yX12_iron cX12_iron 2 (some .int) 2 [.ref (a 0), .int (mI p0)] (rW k a x_taped x_size x_faultKind x_faultPlace x_at x_end x_token x_number x_bank x_rb x_codes x_within x_piled x_unitsInRule x_askBeast x_askStroke x_askAge x_askSeason x_acts x_undone x_laid x_seens x_time x_fitting n_name B_tape B_text B_turns B_herds B_irons B_beasts B_units B_night B_draw B_told B_brands B_ironMarks B_herdTold B_born B_ruleFrom B_ruleTo B_code B_codeNumber B_eWhat B_eSign B_pile B_all B_burned B_was B_need B_laidRow B_long8 B_brings B_sBurning B_sStroke B_sIs B_sTold B_sUntold B_parts B_boxAll B_isBoxed G_hName G_iName G_bName ex) (qGi (fun r0 H => (-1 ≤ r0 ∧ r0 ≤ 4095) ∧ va_P D vwCl (rW k a x_taped x_size x_faultKind x_faultPlace x_at x_end x_token x_number x_bank x_rb x_codes x_within x_piled x_unitsInRule x_askBeast x_askStroke x_askAge x_askSeason x_acts x_undone x_laid x_seens x_time x_fitting n_name B_tape B_text B_turns B_herds B_irons B_beasts B_units B_night B_draw B_told B_brands B_ironMarks B_herdTold B_born B_ruleFrom B_ruleTo B_code B_codeNumber B_eWhat B_eSign B_pile B_all B_burned B_was B_need B_laidRow B_long8 B_brings B_sBurning B_sStroke B_sIs B_sTold B_sUntold B_parts B_boxAll B_isBoxed G_hName G_iName G_bName ex) H)) := by
  refine metG_of 1 ck_X12_iron (Nat.le_of_ble_eq_true rfl) rMap (fun p e s m args below meth c A hx hb hml hr hlocks hown hts hK hD hA hP hS ls hl => ?_)
  have hown : s.vm.findClass "HideReaderModel" = some m.cls := hown
  have hl : lv_has ls 2 [(0, .ref (a 0)), (1, .int (mI p0))] := hl
  refine lv_aload_n hx hb dX12_iron_0 rfl (lv_at hl 0 rfl) ?_
  refine lv_iload_n hx hb dX12_iron_1 rfl (lv_at hl 1 rfl) ?_
  refine g_i (rDt hD) hS hA (g_V (own := "HideReaderModel") (As := [.int (mI p0)]) (rest := []) hx hb hml hown hts hK hP (rDt hD) (kr_X12_isIron (l := l) (D := D) (k := k) (by omega) h_x_bank b_B_irons) ck_X12_isIron iv_X12_isIron uw_8_137 (rv_o hK hP) rfl hl.1 rfl (Nat.le_of_ble_eq_true rfl) dX12_iron_2 ⟨Nat.le_of_ble_eq_true rfl, Nat.le_of_ble_eq_true rfl⟩ ⟨Nat.le_of_ble_eq_true rfl, Nat.le_of_ble_eq_true rfl⟩) (fun r_1 H locs hQ hS => ?_)
  obtain ⟨hq_r_1, hP⟩ := hQ
  rcases hq_r_1 with rfl | ⟨rfl, c_3_0⟩
  · skip
    refine sy_if_eq (tgt := 16) hx hb dX12_iron_5 (by decide) (by decide) (fun c_4 => ?_) (fun c9 => absurd c9 (by decide))
    refine lv_iconst (v := mI (-1)) hx hb dX12_iron_16 rfl ?_
    exact r_i hx hb hr hlocks dX12_iron_17 hS ⟨by omega, hP⟩
  · skip
    refine sy_if_eq (tgt := 16) hx hb dX12_iron_5 (by decide) (by decide) (fun c9 => absurd c9 (by decide)) (fun c_5 => ?_)
    refine lv_aload_n hx hb dX12_iron_8 rfl (lv_at hl 0 rfl) ?_
    refine lv_iload_n hx hb dX12_iron_9 rfl (lv_at hl 1 rfl) ?_
    refine g_i (rDt hD) hS hA (g_V (own := "HideReaderModel") (As := [.int (mI p0)]) (rest := []) hx hb hml hown hts hK hP (rDt hD) (kr_X12_ironOf (l := l) (D := D) (k := k) (by omega) h_x_bank b_B_ironMarks) ck_X12_ironOf iv_X12_ironOf uw_7_3 (rv_o hK hP) rfl hl.1 rfl (Nat.le_of_ble_eq_true rfl) dX12_iron_10 ⟨Nat.le_of_ble_eq_true rfl, Nat.le_of_ble_eq_true rfl⟩ ⟨Nat.le_of_ble_eq_true rfl, Nat.le_of_ble_eq_true rfl⟩) (fun r_6 H locs hQ hS => ?_)
    obtain ⟨hr_6_0, hP⟩ := hQ
    refine lv_goto (tgt := 17) hx hb dX12_iron_13 (by decide) ?_
    exact r_i hx hb hr hlocks dX12_iron_17 hS ⟨by omega, hP⟩
set_option maxHeartbeats 4000000 in
set_option maxRecDepth 100000 in
theorem kr_X12_age {p0 p1 : Int} (hp0 : -2147483648 ≤ p0 ∧ p0 ≤ 2147483647) (hp1 : -2147483648 ≤ p1 ∧ p1 ≤ 2147483647) (h_x_bank : 0 ≤ x_bank ∧ x_bank ≤ 1) (b_B_beasts : bd (0) 8 B_beasts) (b_B_all : bA B_all) : MetG l D k yX12_age cX12_age 3 (some .int) 2 [.ref (a 0), .int (mI p0), .int (mI p1)] (rW k a x_taped x_size x_faultKind x_faultPlace x_at x_end x_token x_number x_bank x_rb x_codes x_within x_piled x_unitsInRule x_askBeast x_askStroke x_askAge x_askSeason x_acts x_undone x_laid x_seens x_time x_fitting n_name B_tape B_text B_turns B_herds B_irons B_beasts B_units B_night B_draw B_told B_brands B_ironMarks B_herdTold B_born B_ruleFrom B_ruleTo B_code B_codeNumber B_eWhat B_eSign B_pile B_all B_burned B_was B_need B_laidRow B_long8 B_brings B_sBurning B_sStroke B_sIs B_sTold B_sUntold B_parts B_boxAll B_isBoxed G_hName G_iName G_bName ex) (qGi (fun r0 H => (-1 ≤ r0 ∧ r0 ≤ 999) ∧ va_P D vwCl (rW k a x_taped x_size x_faultKind x_faultPlace x_at x_end x_token x_number x_bank x_rb x_codes x_within x_piled x_unitsInRule x_askBeast x_askStroke x_askAge x_askSeason x_acts x_undone x_laid x_seens x_time x_fitting n_name B_tape B_text B_turns B_herds B_irons B_beasts B_units B_night B_draw B_told B_brands B_ironMarks B_herdTold B_born B_ruleFrom B_ruleTo B_code B_codeNumber B_eWhat B_eSign B_pile B_all B_burned B_was B_need B_laidRow B_long8 B_brings B_sBurning B_sStroke B_sIs B_sTold B_sUntold B_parts B_boxAll B_isBoxed G_hName G_iName G_bName ex) H)) := by
  refine metG_of 2 ck_X12_age (Nat.le_of_ble_eq_true rfl) rMap (fun p e s m args below meth c A hx hb hml hr hlocks hown hts hK hD hA hP hS ls hl => ?_)
  have hown : s.vm.findClass "HideReaderModel" = some m.cls := hown
  have hl : lv_has ls 3 [(0, .ref (a 0)), (1, .int (mI p0)), (2, .int (mI p1))] := hl
  refine lv_aload_n hx hb dX12_age_0 rfl (lv_at hl 0 rfl) ?_
  refine lv_iload_n hx hb dX12_age_1 rfl (lv_at hl 1 rfl) ?_
  refine g_i (rDt hD) hS hA (g_V (own := "HideReaderModel") (As := [.int (mI p0)]) (rest := []) hx hb hml hown hts hK hP (rDt hD) (kr_X12_isBeast (l := l) (D := D) (k := k) (by omega) h_x_bank b_B_beasts) ck_X12_isBeast iv_X12_isBeast uw_8_145 (rv_o hK hP) rfl hl.1 rfl (Nat.le_of_ble_eq_true rfl) dX12_age_2 ⟨Nat.le_of_ble_eq_true rfl, Nat.le_of_ble_eq_true rfl⟩ ⟨Nat.le_of_ble_eq_true rfl, Nat.le_of_ble_eq_true rfl⟩) (fun r_1 H locs hQ hS => ?_)
  obtain ⟨hq_r_1, hP⟩ := hQ
  rcases hq_r_1 with rfl | ⟨rfl, c_3_0⟩
  · skip
    refine sy_if_eq (tgt := 47) hx hb dX12_age_5 (by decide) (by decide) (fun c_4 => ?_) (fun c9 => absurd c9 (by decide))
    refine lv_iconst (v := mI (-1)) hx hb dX12_age_47 rfl ?_
    exact r_i hx hb hr hlocks dX12_age_48 hS ⟨by omega, hP⟩
  · skip
    refine sy_if_eq (tgt := 47) hx hb dX12_age_5 (by decide) (by decide) (fun c9 => absurd c9 (by decide)) (fun c_5 => ?_)
    refine lv_iload_n hx hb dX12_age_8 rfl (lv_at hl 2 rfl) ?_
    refine lv_iconst (v := mI 0) hx hb dX12_age_9 rfl ?_
    refine lv_bipush (v := mI 11) hx hb dX12_age_10 (by decide) ?_
    refine g_i (rDt hD) hS hA (g_S (own := "HideReaderModel") (As := [.int (mI p1), .int (mI 0), .int (mI 11)]) (rest := []) hx hb hml hown hts hK hP (rDt hD) (kr_X12_isIn (l := l) (D := D) (k := k) (by omega) (by decide) (by decide)) ck_X12_isIn uw_8_131 uw_8_130 rfl hl.1 rfl (Nat.le_of_ble_eq_true rfl) dX12_age_12 ⟨Nat.le_of_ble_eq_true rfl, Nat.le_of_ble_eq_true rfl⟩ ⟨Nat.le_of_ble_eq_true rfl, Nat.le_of_ble_eq_true rfl⟩) (fun r_6 H locs hQ hS => ?_)
    obtain ⟨hq_r_6, hP⟩ := hQ
    rcases hq_r_6 with ⟨rfl, c_7_0⟩ | ⟨rfl, c_8_0, c_8_1⟩
    · skip
      refine sy_if_eq (tgt := 47) hx hb dX12_age_15 (by decide) (by decide) (fun c_9 => ?_) (fun c9 => absurd c9 (by decide))
      refine lv_iconst (v := mI (-1)) hx hb dX12_age_47 rfl ?_
      exact r_i hx hb hr hlocks dX12_age_48 hS ⟨by omega, hP⟩
    · skip
      refine sy_if_eq (tgt := 47) hx hb dX12_age_15 (by decide) (by decide) (fun c9 => absurd c9 (by decide)) (fun c_10 => ?_)
      refine lv_aload_n hx hb dX12_age_18 rfl (lv_at hl 0 rfl) ?_
      refine rg_o_all hx hb hts hown hK hP uw_7_66 dX12_age_19 ?_
      refine lv_iconst (v := mI 0) hx hb dX12_age_22 rfl ?_
      refine lv_iload_n hx hb dX12_age_23 rfl (lv_at hl 1 rfl) ?_
      refine sy_iadd hx hb dX12_age_24 p0 (by omega) ?_
      refine rl_all hx hb hK hP dX12_age_25 (by omega) (bA_bd b_B_all) (fun z_11 ez_11 hz_11 => ?_)
      have hz_11 := bA_hid b_B_all (by omega) ez_11
      refine lv_iload_n hx hb dX12_age_26 rfl (lv_at hl 2 rfl) ?_
      refine g_i (rDt hD) hS hA (g_S (own := "HideReaderModel") (As := [.int (mI z_11), .int (mI p1)]) (rest := []) hx hb hml hown hts hK hP (rDt hD) (kr_bit (l := l) (D := D) (k := k)) ck_X12_bit uw_6_229 uw_6_228 rfl hl.1 rfl (Nat.le_of_ble_eq_true rfl) dX12_age_27 ⟨Nat.le_of_ble_eq_true rfl, Nat.le_of_ble_eq_true rfl⟩ ⟨Nat.le_of_ble_eq_true rfl, Nat.le_of_ble_eq_true rfl⟩) (fun r_12 H locs hQ hS => ?_)
      obtain ⟨hq_r_12, hP⟩ := hQ
      rcases hq_r_12 with ⟨rfl, c_13_0⟩ | ⟨rfl, c_14_0⟩
      · skip
        refine sy_if_eq (tgt := 47) hx hb dX12_age_30 (by decide) (by decide) (fun c9 => absurd c9 (by decide)) (fun c_15 => ?_)
        refine lv_aload_n hx hb dX12_age_33 rfl (lv_at hl 0 rfl) ?_
        refine rg_o_all hx hb hts hown hK hP uw_7_66 dX12_age_34 ?_
        refine lv_aload_n hx hb dX12_age_37 rfl (lv_at hl 0 rfl) ?_
        refine lv_iload_n hx hb dX12_age_38 rfl (lv_at hl 1 rfl) ?_
        refine lv_iload_n hx hb dX12_age_39 rfl (lv_at hl 2 rfl) ?_
        refine g_i (rDt hD) hS hA (g_V (own := "HideReaderModel") (As := [.int (mI p0), .int (mI p1)]) (rest := [.ref (a 25)]) hx hb hml hown hts hK hP (rDt hD) (kr_X12_slot (l := l) (D := D) (k := k) (by omega) (by omega)) ck_X12_slot iv_X12_slot uw_6_224 (rv_o hK hP) rfl hl.1 rfl (Nat.le_of_ble_eq_true rfl) dX12_age_40 ⟨Nat.le_of_ble_eq_true rfl, Nat.le_of_ble_eq_true rfl⟩ ⟨Nat.le_of_ble_eq_true rfl, Nat.le_of_ble_eq_true rfl⟩) (fun r_16 H locs hQ hS => ?_)
        obtain ⟨hq_r_16, hP⟩ := hQ
        obtain rfl := hq_r_16
        refine rl_all hx hb hK hP dX12_age_43 (by omega) (bA_bd b_B_all) (fun z_18 ez_18 hz_18 => ?_)
        have hz_18 := bA_age b_B_all (by omega) ez_18
        refine lv_goto (tgt := 48) hx hb dX12_age_44 (by decide) ?_
        exact r_i hx hb hr hlocks dX12_age_48 hS ⟨by omega, hP⟩
      · skip
        refine sy_if_eq (tgt := 47) hx hb dX12_age_30 (by decide) (by decide) (fun c_19 => ?_) (fun c9 => absurd c9 (by decide))
        refine lv_iconst (v := mI (-1)) hx hb dX12_age_47 rfl ?_
        exact r_i hx hb hr hlocks dX12_age_48 hS ⟨by omega, hP⟩
set_option maxHeartbeats 4000000 in
set_option maxRecDepth 100000 in
theorem kr_X12_placed {p0 p1 : Int} (hp0 : -2147483648 ≤ p0 ∧ p0 ≤ 2147483647) (hp1 : -2147483648 ≤ p1 ∧ p1 ≤ 2147483647) (h_x_bank : 0 ≤ x_bank ∧ x_bank ≤ 1) (b_B_turns : bd (0) 4 B_turns) (b_B_told : bd (0) 31 B_told) (g_R : 1 ≤ B_turns x_bank.toNat ∧ ¬ B_turns x_bank.toNat = 3) : MetG l D k yX12_placed cX12_placed 3 (some .int) 3 [.ref (a 0), .int (mI p0), .int (mI p1)] (rW k a x_taped x_size x_faultKind x_faultPlace x_at x_end x_token x_number x_bank x_rb x_codes x_within x_piled x_unitsInRule x_askBeast x_askStroke x_askAge x_askSeason x_acts x_undone x_laid x_seens x_time x_fitting n_name B_tape B_text B_turns B_herds B_irons B_beasts B_units B_night B_draw B_told B_brands B_ironMarks B_herdTold B_born B_ruleFrom B_ruleTo B_code B_codeNumber B_eWhat B_eSign B_pile B_all B_burned B_was B_need B_laidRow B_long8 B_brings B_sBurning B_sStroke B_sIs B_sTold B_sUntold B_parts B_boxAll B_isBoxed G_hName G_iName G_bName ex) (qGi (fun r0 H => (-1 ≤ r0 ∧ r0 ≤ 4095) ∧ va_P D vwCl (rW k a x_taped x_size x_faultKind x_faultPlace x_at x_end x_token x_number x_bank x_rb x_codes x_within x_piled x_unitsInRule x_askBeast x_askStroke x_askAge x_askSeason x_acts x_undone x_laid x_seens x_time x_fitting n_name B_tape B_text B_turns B_herds B_irons B_beasts B_units B_night B_draw B_told B_brands B_ironMarks B_herdTold B_born B_ruleFrom B_ruleTo B_code B_codeNumber B_eWhat B_eSign B_pile B_all B_burned B_was B_need B_laidRow B_long8 B_brings B_sBurning B_sStroke B_sIs B_sTold B_sUntold B_parts B_boxAll B_isBoxed G_hName G_iName G_bName ex) H)) := by
  refine metG_of 2 ck_X12_placed (Nat.le_of_ble_eq_true rfl) rMap (fun p e s m args below meth c A hx hb hml hr hlocks hown hts hK hD hA hP hS ls hl => ?_)
  have hown : s.vm.findClass "HideReaderModel" = some m.cls := hown
  have hl : lv_has ls 3 [(0, .ref (a 0)), (1, .int (mI p0)), (2, .int (mI p1))] := hl
  refine lv_iload_n hx hb dX12_placed_0 rfl (lv_at hl 1 rfl) ?_
  refine g_i (rDt hD) hS hA (g_S (own := "HideReaderModel") (As := [.int (mI p0)]) (rest := []) hx hb hml hown hts hK hP (rDt hD) (kr_X12_isMark (l := l) (D := D) (k := k) (by omega)) ck_X12_isMark uw_8_180 uw_8_179 rfl hl.1 rfl (Nat.le_of_ble_eq_true rfl) dX12_placed_1 ⟨Nat.le_of_ble_eq_true rfl, Nat.le_of_ble_eq_true rfl⟩ ⟨Nat.le_of_ble_eq_true rfl, Nat.le_of_ble_eq_true rfl⟩) (fun r_1 H locs hQ hS => ?_)
  obtain ⟨hq_r_1, hP⟩ := hQ
  rcases hq_r_1 with ⟨rfl, c_2_0⟩ | ⟨rfl, c_3_0⟩
  · skip
    refine sy_if_eq (tgt := 30) hx hb dX12_placed_4 (by decide) (by decide) (fun c_4 => ?_) (fun c9 => absurd c9 (by decide))
    refine lv_iconst (v := mI (-1)) hx hb dX12_placed_30 rfl ?_
    exact r_i hx hb hr hlocks dX12_placed_31 hS ⟨by omega, hP⟩
  · skip
    refine sy_if_eq (tgt := 30) hx hb dX12_placed_4 (by decide) (by decide) (fun c9 => absurd c9 (by decide)) (fun c_5 => ?_)
    refine lv_iload_n hx hb dX12_placed_7 rfl (lv_at hl 2 rfl) ?_
    refine lv_iconst (v := mI 0) hx hb dX12_placed_8 rfl ?_
    refine lv_aload_n hx hb dX12_placed_9 rfl (lv_at hl 0 rfl) ?_
    refine g_i (rDt hD) hS hA (g_V (own := "HideReaderModel") (As := []) (rest := [.int (mI 0), .int (mI p1)]) hx hb hml hown hts hK hP (rDt hD) (kr_X12_placements (l := l) (D := D) (k := k) h_x_bank b_B_turns b_B_told g_R) ck_X12_placements iv_X12_placements uw_6_239 (rv_o hK hP) rfl hl.1 rfl (Nat.le_of_ble_eq_true rfl) dX12_placed_10 ⟨Nat.le_of_ble_eq_true rfl, Nat.le_of_ble_eq_true rfl⟩ ⟨Nat.le_of_ble_eq_true rfl, Nat.le_of_ble_eq_true rfl⟩) (fun r_6 H locs hQ hS => ?_)
    obtain ⟨hr_6_0, hr_6_1, hP⟩ := hQ
    refine lv_iconst (v := mI 1) hx hb dX12_placed_13 rfl ?_
    refine sy_isub hx hb dX12_placed_14 (r_6 - 1) rfl ?_
    refine g_i (rDt hD) hS hA (g_S (own := "HideReaderModel") (As := [.int (mI p1), .int (mI 0), .int (mI (r_6 - 1))]) (rest := []) hx hb hml hown hts hK hP (rDt hD) (kr_X12_isIn (l := l) (D := D) (k := k) (by omega) (by decide) (by omega)) ck_X12_isIn uw_8_131 uw_8_130 rfl hl.1 rfl (Nat.le_of_ble_eq_true rfl) dX12_placed_15 ⟨Nat.le_of_ble_eq_true rfl, Nat.le_of_ble_eq_true rfl⟩ ⟨Nat.le_of_ble_eq_true rfl, Nat.le_of_ble_eq_true rfl⟩) (fun r_7 H locs hQ hS => ?_)
    obtain ⟨hq_r_7, hP⟩ := hQ
    rcases hq_r_7 with ⟨rfl, c_8_0⟩ | ⟨rfl, c_9_0, c_9_1⟩
    · skip
      refine sy_if_eq (tgt := 30) hx hb dX12_placed_18 (by decide) (by decide) (fun c_10 => ?_) (fun c9 => absurd c9 (by decide))
      refine lv_iconst (v := mI (-1)) hx hb dX12_placed_30 rfl ?_
      exact r_i hx hb hr hlocks dX12_placed_31 hS ⟨by omega, hP⟩
    · skip
      refine sy_if_eq (tgt := 30) hx hb dX12_placed_18 (by decide) (by decide) (fun c9 => absurd c9 (by decide)) (fun c_11 => ?_)
      refine lv_aload_n hx hb dX12_placed_21 rfl (lv_at hl 0 rfl) ?_
      refine lv_iload_n hx hb dX12_placed_22 rfl (lv_at hl 1 rfl) ?_
      refine lv_iload_n hx hb dX12_placed_23 rfl (lv_at hl 2 rfl) ?_
      refine g_i (rDt hD) hS hA (g_V (own := "HideReaderModel") (As := [.int (mI p0), .int (mI p1)]) (rest := []) hx hb hml hown hts hK hP (rDt hD) (kr_X12_placedBy (l := l) (D := D) (k := k) (by omega) (by omega) h_x_bank b_B_turns g_R) ck_X12_placedBy iv_X12_placedBy uw_7_7 (rv_o hK hP) rfl hl.1 rfl (Nat.le_of_ble_eq_true rfl) dX12_placed_24 ⟨Nat.le_of_ble_eq_true rfl, Nat.le_of_ble_eq_true rfl⟩ ⟨Nat.le_of_ble_eq_true rfl, Nat.le_of_ble_eq_true rfl⟩) (fun r_12 H locs hQ hS => ?_)
      obtain ⟨hr_12_0, hr_12_1, hP⟩ := hQ
      refine lv_goto (tgt := 31) hx hb dX12_placed_27 (by decide) ?_
      exact r_i hx hb hr hlocks dX12_placed_31 hS ⟨by omega, hP⟩
set_option maxHeartbeats 4000000 in
set_option maxRecDepth 100000 in
theorem kr_X12_under {p0 p1 : Int} (hp0 : -2147483648 ≤ p0 ∧ p0 ≤ 2147483647) (hp1 : -2147483648 ≤ p1 ∧ p1 ≤ 2147483647) (h_x_bank : 0 ≤ x_bank ∧ x_bank ≤ 1) (b_B_turns : bd (0) 4 B_turns) (b_B_told : bd (0) 31 B_told) (g_R : 1 ≤ B_turns x_bank.toNat ∧ ¬ B_turns x_bank.toNat = 3) : MetG l D k yX12_under cX12_under 3 (some .int) 4 [.ref (a 0), .int (mI p0), .int (mI p1)] (rW k a x_taped x_size x_faultKind x_faultPlace x_at x_end x_token x_number x_bank x_rb x_codes x_within x_piled x_unitsInRule x_askBeast x_askStroke x_askAge x_askSeason x_acts x_undone x_laid x_seens x_time x_fitting n_name B_tape B_text B_turns B_herds B_irons B_beasts B_units B_night B_draw B_told B_brands B_ironMarks B_herdTold B_born B_ruleFrom B_ruleTo B_code B_codeNumber B_eWhat B_eSign B_pile B_all B_burned B_was B_need B_laidRow B_long8 B_brings B_sBurning B_sStroke B_sIs B_sTold B_sUntold B_parts B_boxAll B_isBoxed G_hName G_iName G_bName ex) (qGi (fun r0 H => (-1 ≤ r0 ∧ r0 ≤ 1) ∧ va_P D vwCl (rW k a x_taped x_size x_faultKind x_faultPlace x_at x_end x_token x_number x_bank x_rb x_codes x_within x_piled x_unitsInRule x_askBeast x_askStroke x_askAge x_askSeason x_acts x_undone x_laid x_seens x_time x_fitting n_name B_tape B_text B_turns B_herds B_irons B_beasts B_units B_night B_draw B_told B_brands B_ironMarks B_herdTold B_born B_ruleFrom B_ruleTo B_code B_codeNumber B_eWhat B_eSign B_pile B_all B_burned B_was B_need B_laidRow B_long8 B_brings B_sBurning B_sStroke B_sIs B_sTold B_sUntold B_parts B_boxAll B_isBoxed G_hName G_iName G_bName ex) H)) := by
  refine metG_of 2 ck_X12_under (Nat.le_of_ble_eq_true rfl) rMap (fun p e s m args below meth c A hx hb hml hr hlocks hown hts hK hD hA hP hS ls hl => ?_)
  have hown : s.vm.findClass "HideReaderModel" = some m.cls := hown
  have hl : lv_has ls 3 [(0, .ref (a 0)), (1, .int (mI p0)), (2, .int (mI p1))] := hl
  refine lv_iload_n hx hb dX12_under_0 rfl (lv_at hl 1 rfl) ?_
  refine g_i (rDt hD) hS hA (g_S (own := "HideReaderModel") (As := [.int (mI p0)]) (rest := []) hx hb hml hown hts hK hP (rDt hD) (kr_X12_isMark (l := l) (D := D) (k := k) (by omega)) ck_X12_isMark uw_8_180 uw_8_179 rfl hl.1 rfl (Nat.le_of_ble_eq_true rfl) dX12_under_1 ⟨Nat.le_of_ble_eq_true rfl, Nat.le_of_ble_eq_true rfl⟩ ⟨Nat.le_of_ble_eq_true rfl, Nat.le_of_ble_eq_true rfl⟩) (fun r_1 H locs hQ hS => ?_)
  obtain ⟨hq_r_1, hP⟩ := hQ
  rcases hq_r_1 with ⟨rfl, c_2_0⟩ | ⟨rfl, c_3_0⟩
  · skip
    refine sy_if_eq (tgt := 14) hx hb dX12_under_4 (by decide) (by decide) (fun c_4 => ?_) (fun c9 => absurd c9 (by decide))
    refine lv_iconst (v := mI (-1)) hx hb dX12_under_14 rfl ?_
    exact r_i hx hb hr hlocks dX12_under_15 hS ⟨by omega, hP⟩
  · skip
    refine sy_if_eq (tgt := 14) hx hb dX12_under_4 (by decide) (by decide) (fun c9 => absurd c9 (by decide)) (fun c_5 => ?_)
    refine lv_iload_n hx hb dX12_under_7 rfl (lv_at hl 2 rfl) ?_
    refine g_i (rDt hD) hS hA (g_S (own := "HideReaderModel") (As := [.int (mI p1)]) (rest := []) hx hb hml hown hts hK hP (rDt hD) (kr_X12_isMark (l := l) (D := D) (k := k) (by omega)) ck_X12_isMark uw_8_180 uw_8_179 rfl hl.1 rfl (Nat.le_of_ble_eq_true rfl) dX12_under_8 ⟨Nat.le_of_ble_eq_true rfl, Nat.le_of_ble_eq_true rfl⟩ ⟨Nat.le_of_ble_eq_true rfl, Nat.le_of_ble_eq_true rfl⟩) (fun r_6 H locs hQ hS => ?_)
    obtain ⟨hq_r_6, hP⟩ := hQ
    rcases hq_r_6 with ⟨rfl, c_7_0⟩ | ⟨rfl, c_8_0⟩
    · skip
      refine sy_if_ne (tgt := 16) hx hb dX12_under_11 (by decide) (by decide) (fun c9 => absurd c9 (by decide)) (fun c_9 => ?_)
      refine lv_iconst (v := mI (-1)) hx hb dX12_under_14 rfl ?_
      exact r_i hx hb hr hlocks dX12_under_15 hS ⟨by omega, hP⟩
    · skip
      refine sy_if_ne (tgt := 16) hx hb dX12_under_11 (by decide) (by decide) (fun c_10 => ?_) (fun c9 => absurd c9 (by decide))
      refine lv_aload_n hx hb dX12_under_16 rfl (lv_at hl 0 rfl) ?_
      refine lv_iload_n hx hb dX12_under_17 rfl (lv_at hl 1 rfl) ?_
      refine lv_iload_n hx hb dX12_under_18 rfl (lv_at hl 2 rfl) ?_
      refine g_i (rDt hD) hS hA (g_V (own := "HideReaderModel") (As := [.int (mI p0), .int (mI p1)]) (rest := []) hx hb hml hown hts hK hP (rDt hD) (kr_X12_isUnder (l := l) (D := D) (k := k) (by omega) (by omega) h_x_bank b_B_turns b_B_told g_R) ck_X12_isUnder iv_X12_isUnder uw_8_186 (rv_o hK hP) rfl hl.1 rfl (Nat.le_of_ble_eq_true rfl) dX12_under_19 ⟨Nat.le_of_ble_eq_true rfl, Nat.le_of_ble_eq_true rfl⟩ ⟨Nat.le_of_ble_eq_true rfl, Nat.le_of_ble_eq_true rfl⟩) (fun r_11 H locs hQ hS => ?_)
      obtain ⟨hr_11_0, hr_11_1, hP⟩ := hQ
      refine sy_if_eq (tgt := 29) hx hb dX12_under_22 (by decide) (by omega) (fun c_12 => ?_) (fun c_12 => ?_)
      · skip
        refine lv_iconst (v := mI 0) hx hb dX12_under_29 rfl ?_
        exact r_i hx hb hr hlocks dX12_under_30 hS ⟨by omega, hP⟩
      · skip
        refine lv_iconst (v := mI 1) hx hb dX12_under_25 rfl ?_
        refine lv_goto (tgt := 30) hx hb dX12_under_26 (by decide) ?_
        exact r_i hx hb hr hlocks dX12_under_30 hS ⟨by omega, hP⟩
set_option maxHeartbeats 4000000 in
set_option maxRecDepth 100000 in
theorem kr_X12_norm {p0 : Int} (hp0 : -2147483648 ≤ p0 ∧ p0 ≤ 2147483647) (h_x_bank : 0 ≤ x_bank ∧ x_bank ≤ 1) (b_B_turns : bd (0) 4 B_turns) (b_B_told : bd (0) 31 B_told) (g_R : 1 ≤ B_turns x_bank.toNat ∧ ¬ B_turns x_bank.toNat = 3) : MetG l D k yX12_norm cX12_norm 2 (some .int) 4 [.ref (a 0), .int (mI p0)] (rW k a x_taped x_size x_faultKind x_faultPlace x_at x_end x_token x_number x_bank x_rb x_codes x_within x_piled x_unitsInRule x_askBeast x_askStroke x_askAge x_askSeason x_acts x_undone x_laid x_seens x_time x_fitting n_name B_tape B_text B_turns B_herds B_irons B_beasts B_units B_night B_draw B_told B_brands B_ironMarks B_herdTold B_born B_ruleFrom B_ruleTo B_code B_codeNumber B_eWhat B_eSign B_pile B_all B_burned B_was B_need B_laidRow B_long8 B_brings B_sBurning B_sStroke B_sIs B_sTold B_sUntold B_parts B_boxAll B_isBoxed G_hName G_iName G_bName ex) (qGi (fun r0 H => (-1 ≤ r0 ∧ r0 ≤ 4095) ∧ va_P D vwCl (rW k a x_taped x_size x_faultKind x_faultPlace x_at x_end x_token x_number x_bank x_rb x_codes x_within x_piled x_unitsInRule x_askBeast x_askStroke x_askAge x_askSeason x_acts x_undone x_laid x_seens x_time x_fitting n_name B_tape B_text B_turns B_herds B_irons B_beasts B_units B_night B_draw B_told B_brands B_ironMarks B_herdTold B_born B_ruleFrom B_ruleTo B_code B_codeNumber B_eWhat B_eSign B_pile B_all B_burned B_was B_need B_laidRow B_long8 B_brings B_sBurning B_sStroke B_sIs B_sTold B_sUntold B_parts B_boxAll B_isBoxed G_hName G_iName G_bName ex) H)) := by
  refine metG_of 1 ck_X12_norm (Nat.le_of_ble_eq_true rfl) rMap (fun p e s m args below meth c A hx hb hml hr hlocks hown hts hK hD hA hP hS ls hl => ?_)
  have hown : s.vm.findClass "HideReaderModel" = some m.cls := hown
  have hl : lv_has ls 2 [(0, .ref (a 0)), (1, .int (mI p0))] := hl
  refine lv_iload_n hx hb dX12_norm_0 rfl (lv_at hl 1 rfl) ?_
  refine g_i (rDt hD) hS hA (g_S (own := "HideReaderModel") (As := [.int (mI p0)]) (rest := []) hx hb hml hown hts hK hP (rDt hD) (kr_X12_isMark (l := l) (D := D) (k := k) (by omega)) ck_X12_isMark uw_8_180 uw_8_179 rfl hl.1 rfl (Nat.le_of_ble_eq_true rfl) dX12_norm_1 ⟨Nat.le_of_ble_eq_true rfl, Nat.le_of_ble_eq_true rfl⟩ ⟨Nat.le_of_ble_eq_true rfl, Nat.le_of_ble_eq_true rfl⟩) (fun r_1 H locs hQ hS => ?_)
  obtain ⟨hq_r_1, hP⟩ := hQ
  rcases hq_r_1 with ⟨rfl, c_2_0⟩ | ⟨rfl, c_3_0⟩
  · skip
    refine sy_if_eq (tgt := 15) hx hb dX12_norm_4 (by decide) (by decide) (fun c_4 => ?_) (fun c9 => absurd c9 (by decide))
    refine lv_iconst (v := mI (-1)) hx hb dX12_norm_15 rfl ?_
    exact r_i hx hb hr hlocks dX12_norm_16 hS ⟨by omega, hP⟩
  · skip
    refine sy_if_eq (tgt := 15) hx hb dX12_norm_4 (by decide) (by decide) (fun c9 => absurd c9 (by decide)) (fun c_5 => ?_)
    refine lv_aload_n hx hb dX12_norm_7 rfl (lv_at hl 0 rfl) ?_
    refine lv_iload_n hx hb dX12_norm_8 rfl (lv_at hl 1 rfl) ?_
    refine g_i (rDt hD) hS hA (g_V (own := "HideReaderModel") (As := [.int (mI p0)]) (rest := []) hx hb hml hown hts hK hP (rDt hD) (kr_X12_normOf (l := l) (D := D) (k := k) (by omega) h_x_bank b_B_turns b_B_told g_R) ck_X12_normOf iv_X12_normOf uw_8_194 (rv_o hK hP) rfl hl.1 rfl (Nat.le_of_ble_eq_true rfl) dX12_norm_9 ⟨Nat.le_of_ble_eq_true rfl, Nat.le_of_ble_eq_true rfl⟩ ⟨Nat.le_of_ble_eq_true rfl, Nat.le_of_ble_eq_true rfl⟩) (fun r_6 H locs hQ hS => ?_)
    obtain ⟨hr_6_0, hr_6_1, hP⟩ := hQ
    refine lv_goto (tgt := 16) hx hb dX12_norm_12 (by decide) ?_
    exact r_i hx hb hr hlocks dX12_norm_16 hS ⟨by omega, hP⟩
set_option maxHeartbeats 4000000 in
set_option maxRecDepth 100000 in
theorem kr_X12_faces {p0 : Int} (hp0 : -2147483648 ≤ p0 ∧ p0 ≤ 2147483647) (h_x_bank : 0 ≤ x_bank ∧ x_bank ≤ 1) (b_B_turns : bd (0) 4 B_turns) (b_B_told : bd (0) 31 B_told) (g_R : 1 ≤ B_turns x_bank.toNat ∧ ¬ B_turns x_bank.toNat = 3) : MetG l D k yX12_faces cX12_faces 6 (some .int) 3 [.ref (a 0), .int (mI p0)] (rW k a x_taped x_size x_faultKind x_faultPlace x_at x_end x_token x_number x_bank x_rb x_codes x_within x_piled x_unitsInRule x_askBeast x_askStroke x_askAge x_askSeason x_acts x_undone x_laid x_seens x_time x_fitting n_name B_tape B_text B_turns B_herds B_irons B_beasts B_units B_night B_draw B_told B_brands B_ironMarks B_herdTold B_born B_ruleFrom B_ruleTo B_code B_codeNumber B_eWhat B_eSign B_pile B_all B_burned B_was B_need B_laidRow B_long8 B_brings B_sBurning B_sStroke B_sIs B_sTold B_sUntold B_parts B_boxAll B_isBoxed G_hName G_iName G_bName ex) (qGi (fun r0 H => (-1 ≤ r0 ∧ r0 ≤ 8) ∧ va_P D vwCl (rW k a x_taped x_size x_faultKind x_faultPlace x_at x_end x_token x_number x_bank x_rb x_codes x_within x_piled x_unitsInRule x_askBeast x_askStroke x_askAge x_askSeason x_acts x_undone x_laid x_seens x_time x_fitting n_name B_tape B_text B_turns B_herds B_irons B_beasts B_units B_night B_draw B_told B_brands B_ironMarks B_herdTold B_born B_ruleFrom B_ruleTo B_code B_codeNumber B_eWhat B_eSign B_pile B_all B_burned B_was B_need B_laidRow B_long8 B_brings B_sBurning B_sStroke B_sIs B_sTold B_sUntold B_parts B_boxAll B_isBoxed G_hName G_iName G_bName ex) H)) := by
  refine metG_of 1 ck_X12_faces (Nat.le_of_ble_eq_true rfl) rMap (fun p e s m args below meth c A hx hb hml hr hlocks hown hts hK hD hA hP hS ls hl => ?_)
  have hown : s.vm.findClass "HideReaderModel" = some m.cls := hown
  have hl : lv_has ls 6 [(0, .ref (a 0)), (1, .int (mI p0))] := hl
  refine lv_iload_n hx hb dX12_faces_0 rfl (lv_at hl 1 rfl) ?_
  refine g_i (rDt hD) hS hA (g_S (own := "HideReaderModel") (As := [.int (mI p0)]) (rest := []) hx hb hml hown hts hK hP (rDt hD) (kr_X12_isMark (l := l) (D := D) (k := k) (by omega)) ck_X12_isMark uw_8_180 uw_8_179 rfl hl.1 rfl (Nat.le_of_ble_eq_true rfl) dX12_faces_1 ⟨Nat.le_of_ble_eq_true rfl, Nat.le_of_ble_eq_true rfl⟩ ⟨Nat.le_of_ble_eq_true rfl, Nat.le_of_ble_eq_true rfl⟩) (fun r_1 H locs hQ hS => ?_)
  obtain ⟨hq_r_1, hP⟩ := hQ
  rcases hq_r_1 with ⟨rfl, c_2_0⟩ | ⟨rfl, c_3_0⟩
  · skip
    refine sy_if_ne (tgt := 9) hx hb dX12_faces_4 (by decide) (by decide) (fun c9 => absurd c9 (by decide)) (fun c_4 => ?_)
    refine lv_iconst (v := mI (-1)) hx hb dX12_faces_7 rfl ?_
    exact r_i hx hb hr hlocks dX12_faces_8 hS ⟨by omega, hP⟩
  · skip
    refine sy_if_ne (tgt := 9) hx hb dX12_faces_4 (by decide) (by decide) (fun c_5 => ?_) (fun c9 => absurd c9 (by decide))
    refine lv_iconst (v := mI 0) hx hb dX12_faces_9 rfl ?_
    refine lv_istore_n (lv' := [(2, .int (mI 0)), (0, .ref (a 0)), (1, .int (mI p0))]) hx hb dX12_faces_10 rfl hl (by decide) rfl (fun ls hl => ?_)
    refine lv_iconst (v := mI 0) hx hb dX12_faces_11 rfl ?_
    refine lv_istore_n (lv' := [(3, .int (mI 0)), (2, .int (mI 0)), (0, .ref (a 0)), (1, .int (mI p0))]) hx hb dX12_faces_12 rfl hl (by decide) rfl (fun ls hl => ?_)
    refine sy_loop (I := fun n H locs g => ∃ (z_1070 : Int) (z_1071 : Int) (ls : Array Slot), (0 ≤ z_1070 ∧ z_1070 ≤ 8) ∧ (0 ≤ z_1071 ∧ z_1071 ≤ 8) ∧ (0 ≤ z_1070 - z_1071) ∧ (8 - z_1070).toNat = n ∧ va_P D vwCl (rW k a x_taped x_size x_faultKind x_faultPlace x_at x_end x_token x_number x_bank x_rb x_codes x_within x_piled x_unitsInRule x_askBeast x_askStroke x_askAge x_askSeason x_acts x_undone x_laid x_seens x_time x_fitting n_name B_tape B_text B_turns B_herds B_irons B_beasts B_units B_night B_draw B_told B_brands B_ironMarks B_herdTold B_born B_ruleFrom B_ruleTo B_code B_codeNumber B_eWhat B_eSign B_pile B_all B_burned B_was B_need B_laidRow B_long8 B_brings B_sBurning B_sStroke B_sIs B_sTold B_sUntold B_parts B_boxAll B_isBoxed G_hName G_iName G_bName ex) H ∧ va_S A s.heap H locs ∧ lv_has ls 6 [(3, .int (mI z_1070)), (2, .int (mI z_1071)), (0, .ref (a 0)), (1, .int (mI p0))] ∧ g = F0 m 13 ls []) ?_ _ ⟨0, 0, _, by omega, by omega, by omega, rfl, hP, hS, lv_sub hl [0, 1, 2, 3] rfl, rfl⟩
    intro n_1202 H locs g hI ih_1203
    obtain ⟨z_1070, z_1071, ls, h13_0, h13_1, h13_2, mn_1202, hP, hS, hl, rfl⟩ := hI
    refine lv_iload_n hx hb dX12_faces_13 rfl (lv_at hl 0 rfl) ?_
    refine lv_aload_n hx hb dX12_faces_14 rfl (lv_at hl 2 rfl) ?_
    refine g_i (rDt hD) hS hA (g_V (own := "HideReaderModel") (As := []) (rest := [.int (mI z_1070)]) hx hb hml hown hts hK hP (rDt hD) (kr_X12_placements (l := l) (D := D) (k := k) h_x_bank b_B_turns b_B_told g_R) ck_X12_placements iv_X12_placements uw_6_239 (rv_o hK hP) rfl hl.1 rfl (Nat.le_of_ble_eq_true rfl) dX12_faces_15 ⟨Nat.le_of_ble_eq_true rfl, Nat.le_of_ble_eq_true rfl⟩ ⟨Nat.le_of_ble_eq_true rfl, Nat.le_of_ble_eq_true rfl⟩) (fun r_1204 H locs hQ hS => ?_)
    obtain ⟨hr_1204_0, hr_1204_1, hP⟩ := hQ
    refine sy_icmp_ge (tgt := 81) hx hb dX12_faces_18 (by decide) (by omega) (by omega) (fun c_1205 => ?_) (fun c_1205 => ?_)
    · skip
      refine lv_iload_n hx hb dX12_faces_81 rfl (lv_at hl 1 rfl) ?_
      exact r_i hx hb hr hlocks dX12_faces_82 hS ⟨by omega, hP⟩
    · skip
      refine lv_iconst (v := mI 1) hx hb dX12_faces_21 rfl ?_
      refine lv_istore (lv' := [(4, .int (mI 1)), (3, .int (mI z_1070)), (2, .int (mI z_1071)), (0, .ref (a 0)), (1, .int (mI p0))]) hx hb dX12_faces_22 hl (by decide) rfl (fun ls hl => ?_)
      refine lv_iconst (v := mI 0) hx hb dX12_faces_24 rfl ?_
      refine lv_istore (lv' := [(5, .int (mI 0)), (4, .int (mI 1)), (3, .int (mI z_1070)), (2, .int (mI z_1071)), (0, .ref (a 0)), (1, .int (mI p0))]) hx hb dX12_faces_25 hl (by decide) rfl (fun ls hl => ?_)
      refine sy_loop (I := fun n H locs g => ∃ (z_1308 : Int) (z_1309 : Int) (ls : Array Slot), (0 ≤ z_1308 ∧ z_1308 ≤ 7) ∧ (0 ≤ z_1309 ∧ z_1309 ≤ 1) ∧ (7 - z_1308).toNat = n ∧ va_P D vwCl (rW k a x_taped x_size x_faultKind x_faultPlace x_at x_end x_token x_number x_bank x_rb x_codes x_within x_piled x_unitsInRule x_askBeast x_askStroke x_askAge x_askSeason x_acts x_undone x_laid x_seens x_time x_fitting n_name B_tape B_text B_turns B_herds B_irons B_beasts B_units B_night B_draw B_told B_brands B_ironMarks B_herdTold B_born B_ruleFrom B_ruleTo B_code B_codeNumber B_eWhat B_eSign B_pile B_all B_burned B_was B_need B_laidRow B_long8 B_brings B_sBurning B_sStroke B_sIs B_sTold B_sUntold B_parts B_boxAll B_isBoxed G_hName G_iName G_bName ex) H ∧ va_S A s.heap H locs ∧ lv_has ls 6 [(5, .int (mI z_1308)), (4, .int (mI z_1309)), (3, .int (mI z_1070)), (2, .int (mI z_1071)), (0, .ref (a 0)), (1, .int (mI p0))] ∧ g = F0 m 27 ls []) ?_ _ ⟨0, 1, _, by omega, by omega, rfl, hP, hS, lv_sub hl [0, 1, 2, 3, 4, 5] rfl, rfl⟩
      intro n_1321 H locs g hI ih_1322
      obtain ⟨z_1308, z_1309, ls, h27_0, h27_1, mn_1321, hP, hS, hl, rfl⟩ := hI
      refine lv_iload hx hb dX12_faces_27 (lv_at hl 0 rfl) ?_
      refine lv_iload_n hx hb dX12_faces_29 rfl (lv_at hl 2 rfl) ?_
      refine sy_icmp_ge (tgt := 67) hx hb dX12_faces_30 (by decide) (by omega) (by omega) (fun c_1328 => ?_) (fun c_1328 => ?_)
      · skip
        refine lv_iload hx hb dX12_faces_67 (lv_at hl 1 rfl) ?_
        refine sy_if_eq (tgt := 75) hx hb dX12_faces_69 (by decide) (by omega) (fun c_1329 => ?_) (fun c_1329 => ?_)
        · skip
          refine lv_iinc (v := mI (z_1070 + 1)) (lv' := [(3, .int (mI (z_1070 + 1))), (5, .int (mI z_1308)), (4, .int (mI z_1309)), (2, .int (mI z_1071)), (0, .ref (a 0)), (1, .int (mI p0))]) hx hb dX12_faces_75 hl (k := 2) rfl (mI_ad rfl) (by decide) rfl (fun ls hl => ?_)
          refine lv_goto (tgt := 13) hx hb dX12_faces_78 (by decide) ?_
          exact ih_1203 _ _ _ _ (by omega) ⟨(z_1070 + 1), z_1071, _, by omega, by omega, by omega, rfl, hP, hS, lv_sub hl [0, 3, 4, 5] rfl, rfl⟩
        · skip
          refine lv_iinc (v := mI (z_1071 + 1)) (lv' := [(2, .int (mI (z_1071 + 1))), (5, .int (mI z_1308)), (4, .int (mI z_1309)), (3, .int (mI z_1070)), (0, .ref (a 0)), (1, .int (mI p0))]) hx hb dX12_faces_72 hl (k := 3) rfl (mI_ad rfl) (by decide) rfl (fun ls hl => ?_)
          refine lv_iinc (v := mI (z_1070 + 1)) (lv' := [(3, .int (mI (z_1070 + 1))), (2, .int (mI (z_1071 + 1))), (5, .int (mI z_1308)), (4, .int (mI z_1309)), (0, .ref (a 0)), (1, .int (mI p0))]) hx hb dX12_faces_75 hl (k := 3) rfl (mI_ad rfl) (by decide) rfl (fun ls hl => ?_)
          refine lv_goto (tgt := 13) hx hb dX12_faces_78 (by decide) ?_
          exact ih_1203 _ _ _ _ (by omega) ⟨(z_1070 + 1), (z_1071 + 1), _, by omega, by omega, by omega, rfl, hP, hS, lv_sub hl [0, 1, 4, 5] rfl, rfl⟩
      · skip
        refine lv_iload hx hb dX12_faces_33 (lv_at hl 1 rfl) ?_
        refine sy_if_eq (tgt := 58) hx hb dX12_faces_35 (by decide) (by omega) (fun c_1330 => ?_) (fun c_1330 => ?_)
        · skip
          refine lv_iconst (v := mI 0) hx hb dX12_faces_58 rfl ?_
          refine lv_istore (lv' := [(4, .int (mI 0)), (5, .int (mI z_1308)), (3, .int (mI z_1070)), (2, .int (mI z_1071)), (0, .ref (a 0)), (1, .int (mI p0))]) hx hb dX12_faces_59 hl (by decide) rfl (fun ls hl => ?_)
          refine lv_iinc (v := mI (z_1308 + 1)) (lv' := [(5, .int (mI (z_1308 + 1))), (4, .int (mI 0)), (3, .int (mI z_1070)), (2, .int (mI z_1071)), (0, .ref (a 0)), (1, .int (mI p0))]) hx hb dX12_faces_61 hl (k := 1) rfl (mI_ad rfl) (by decide) rfl (fun ls hl => ?_)
          refine lv_goto (tgt := 27) hx hb dX12_faces_64 (by decide) ?_
          exact ih_1322 _ _ _ _ (by omega) ⟨(z_1308 + 1), 0, _, by omega, by omega, rfl, hP, hS, lv_sub hl [0, 1, 2, 3, 4, 5] rfl, rfl⟩
        · skip
          refine lv_aload_n hx hb dX12_faces_38 rfl (lv_at hl 4 rfl) ?_
          refine lv_iload_n hx hb dX12_faces_39 rfl (lv_at hl 5 rfl) ?_
          refine lv_iload hx hb dX12_faces_40 (lv_at hl 0 rfl) ?_
          refine g_i (rDt hD) hS hA (g_V (own := "HideReaderModel") (As := [.int (mI p0), .int (mI z_1308)]) (rest := []) hx hb hml hown hts hK hP (rDt hD) (kr_X12_placedBy (l := l) (D := D) (k := k) (by omega) (by omega) h_x_bank b_B_turns g_R) ck_X12_placedBy iv_X12_placedBy uw_7_7 (rv_o hK hP) rfl hl.1 rfl (Nat.le_of_ble_eq_true rfl) dX12_faces_42 ⟨Nat.le_of_ble_eq_true rfl, Nat.le_of_ble_eq_true rfl⟩ ⟨Nat.le_of_ble_eq_true rfl, Nat.le_of_ble_eq_true rfl⟩) (fun r_1331 H locs hQ hS => ?_)
          obtain ⟨hr_1331_0, hr_1331_1, hP⟩ := hQ
          refine lv_aload_n hx hb dX12_faces_45 rfl (lv_at hl 4 rfl) ?_
          refine lv_iload_n hx hb dX12_faces_46 rfl (lv_at hl 5 rfl) ?_
          refine lv_iload_n hx hb dX12_faces_47 rfl (lv_at hl 2 rfl) ?_
          refine g_i (rDt hD) hS hA (g_V (own := "HideReaderModel") (As := [.int (mI p0), .int (mI z_1070)]) (rest := [.int (mI r_1331)]) hx hb hml hown hts hK hP (rDt hD) (kr_X12_placedBy (l := l) (D := D) (k := k) (by omega) (by omega) h_x_bank b_B_turns g_R) ck_X12_placedBy iv_X12_placedBy uw_7_7 (rv_o hK hP) rfl hl.1 rfl (Nat.le_of_ble_eq_true rfl) dX12_faces_48 ⟨Nat.le_of_ble_eq_true rfl, Nat.le_of_ble_eq_true rfl⟩ ⟨Nat.le_of_ble_eq_true rfl, Nat.le_of_ble_eq_true rfl⟩) (fun r_1332 H locs hQ hS => ?_)
          obtain ⟨hr_1332_0, hr_1332_1, hP⟩ := hQ
          refine sy_icmp_eq (tgt := 58) hx hb dX12_faces_51 (by decide) (by omega) (by omega) (fun c_1333 => ?_) (fun c_1333 => ?_)
          · skip
            refine lv_iconst (v := mI 0) hx hb dX12_faces_58 rfl ?_
            refine lv_istore (lv' := [(4, .int (mI 0)), (5, .int (mI z_1308)), (3, .int (mI z_1070)), (2, .int (mI z_1071)), (0, .ref (a 0)), (1, .int (mI p0))]) hx hb dX12_faces_59 hl (by decide) rfl (fun ls hl => ?_)
            refine lv_iinc (v := mI (z_1308 + 1)) (lv' := [(5, .int (mI (z_1308 + 1))), (4, .int (mI 0)), (3, .int (mI z_1070)), (2, .int (mI z_1071)), (0, .ref (a 0)), (1, .int (mI p0))]) hx hb dX12_faces_61 hl (k := 1) rfl (mI_ad rfl) (by decide) rfl (fun ls hl => ?_)
            refine lv_goto (tgt := 27) hx hb dX12_faces_64 (by decide) ?_
            exact ih_1322 _ _ _ _ (by omega) ⟨(z_1308 + 1), 0, _, by omega, by omega, rfl, hP, hS, lv_sub hl [0, 1, 2, 3, 4, 5] rfl, rfl⟩
          · skip
            refine lv_iconst (v := mI 1) hx hb dX12_faces_54 rfl ?_
            refine lv_goto (tgt := 59) hx hb dX12_faces_55 (by decide) ?_
            refine lv_istore (lv' := [(4, .int (mI 1)), (5, .int (mI z_1308)), (3, .int (mI z_1070)), (2, .int (mI z_1071)), (0, .ref (a 0)), (1, .int (mI p0))]) hx hb dX12_faces_59 hl (by decide) rfl (fun ls hl => ?_)
            refine lv_iinc (v := mI (z_1308 + 1)) (lv' := [(5, .int (mI (z_1308 + 1))), (4, .int (mI 1)), (3, .int (mI z_1070)), (2, .int (mI z_1071)), (0, .ref (a 0)), (1, .int (mI p0))]) hx hb dX12_faces_61 hl (k := 1) rfl (mI_ad rfl) (by decide) rfl (fun ls hl => ?_)
            refine lv_goto (tgt := 27) hx hb dX12_faces_64 (by decide) ?_
            exact ih_1322 _ _ _ _ (by omega) ⟨(z_1308 + 1), 1, _, by omega, by omega, rfl, hP, hS, lv_sub hl [0, 1, 2, 3, 4, 5] rfl, rfl⟩
set_option maxHeartbeats 4000000 in
set_option maxRecDepth 100000 in
theorem kr_X12_oldest {p0 : Int} (hp0 : -2147483648 ≤ p0 ∧ p0 ≤ 2147483647) (h_x_bank : 0 ≤ x_bank ∧ x_bank ≤ 1) (b_B_beasts : bd (0) 8 B_beasts) (b_B_all : bA B_all) : MetG l D k yX12_oldest cX12_oldest 4 (some .int) 2 [.ref (a 0), .int (mI p0)] (rW k a x_taped x_size x_faultKind x_faultPlace x_at x_end x_token x_number x_bank x_rb x_codes x_within x_piled x_unitsInRule x_askBeast x_askStroke x_askAge x_askSeason x_acts x_undone x_laid x_seens x_time x_fitting n_name B_tape B_text B_turns B_herds B_irons B_beasts B_units B_night B_draw B_told B_brands B_ironMarks B_herdTold B_born B_ruleFrom B_ruleTo B_code B_codeNumber B_eWhat B_eSign B_pile B_all B_burned B_was B_need B_laidRow B_long8 B_brings B_sBurning B_sStroke B_sIs B_sTold B_sUntold B_parts B_boxAll B_isBoxed G_hName G_iName G_bName ex) (qGi (fun r0 H => (-1 ≤ r0 ∧ r0 ≤ 999) ∧ va_P D vwCl (rW k a x_taped x_size x_faultKind x_faultPlace x_at x_end x_token x_number x_bank x_rb x_codes x_within x_piled x_unitsInRule x_askBeast x_askStroke x_askAge x_askSeason x_acts x_undone x_laid x_seens x_time x_fitting n_name B_tape B_text B_turns B_herds B_irons B_beasts B_units B_night B_draw B_told B_brands B_ironMarks B_herdTold B_born B_ruleFrom B_ruleTo B_code B_codeNumber B_eWhat B_eSign B_pile B_all B_burned B_was B_need B_laidRow B_long8 B_brings B_sBurning B_sStroke B_sIs B_sTold B_sUntold B_parts B_boxAll B_isBoxed G_hName G_iName G_bName ex) H)) := by
  refine metG_of 1 ck_X12_oldest (Nat.le_of_ble_eq_true rfl) rMap (fun p e s m args below meth c A hx hb hml hr hlocks hown hts hK hD hA hP hS ls hl => ?_)
  have hown : s.vm.findClass "HideReaderModel" = some m.cls := hown
  have hl : lv_has ls 4 [(0, .ref (a 0)), (1, .int (mI p0))] := hl
  refine lv_iconst (v := mI (-1)) hx hb dX12_oldest_0 rfl ?_
  refine lv_istore_n (lv' := [(2, .int (mI (-1))), (0, .ref (a 0)), (1, .int (mI p0))]) hx hb dX12_oldest_1 rfl hl (by decide) rfl (fun ls hl => ?_)
  refine lv_iconst (v := mI 0) hx hb dX12_oldest_2 rfl ?_
  refine lv_istore_n (lv' := [(3, .int (mI 0)), (2, .int (mI (-1))), (0, .ref (a 0)), (1, .int (mI p0))]) hx hb dX12_oldest_3 rfl hl (by decide) rfl (fun ls hl => ?_)
  refine sy_loop (I := fun n H locs g => ∃ (z_650 : Int) (z_651 : Int) (ls : Array Slot), (0 ≤ z_650 ∧ z_650 ≤ 12) ∧ (-1 ≤ z_651 ∧ z_651 ≤ 999) ∧ (12 - z_650).toNat = n ∧ va_P D vwCl (rW k a x_taped x_size x_faultKind x_faultPlace x_at x_end x_token x_number x_bank x_rb x_codes x_within x_piled x_unitsInRule x_askBeast x_askStroke x_askAge x_askSeason x_acts x_undone x_laid x_seens x_time x_fitting n_name B_tape B_text B_turns B_herds B_irons B_beasts B_units B_night B_draw B_told B_brands B_ironMarks B_herdTold B_born B_ruleFrom B_ruleTo B_code B_codeNumber B_eWhat B_eSign B_pile B_all B_burned B_was B_need B_laidRow B_long8 B_brings B_sBurning B_sStroke B_sIs B_sTold B_sUntold B_parts B_boxAll B_isBoxed G_hName G_iName G_bName ex) H ∧ va_S A s.heap H locs ∧ lv_has ls 4 [(3, .int (mI z_650)), (2, .int (mI z_651)), (0, .ref (a 0)), (1, .int (mI p0))] ∧ g = F0 m 4 ls []) ?_ _ ⟨0, (-1), _, by omega, by omega, rfl, hP, hS, lv_sub hl [0, 1, 2, 3] rfl, rfl⟩
  intro n_671 H locs g hI ih_672
  obtain ⟨z_650, z_651, ls, h4_0, h4_1, mn_671, hP, hS, hl, rfl⟩ := hI
  refine lv_iload_n hx hb dX12_oldest_4 rfl (lv_at hl 0 rfl) ?_
  refine lv_bipush (v := mI 12) hx hb dX12_oldest_5 (by decide) ?_
  refine sy_icmp_ge (tgt := 66) hx hb dX12_oldest_7 (by decide) (by omega) (by decide) (fun c_673 => ?_) (fun c_673 => ?_)
  · skip
    refine lv_iload_n hx hb dX12_oldest_66 rfl (lv_at hl 1 rfl) ?_
    exact r_i hx hb hr hlocks dX12_oldest_67 hS ⟨by omega, hP⟩
  · skip
    refine lv_aload_n hx hb dX12_oldest_10 rfl (lv_at hl 2 rfl) ?_
    refine lv_iload_n hx hb dX12_oldest_11 rfl (lv_at hl 3 rfl) ?_
    refine g_i (rDt hD) hS hA (g_V (own := "HideReaderModel") (As := [.int (mI p0)]) (rest := []) hx hb hml hown hts hK hP (rDt hD) (kr_X12_isBeast (l := l) (D := D) (k := k) (by omega) h_x_bank b_B_beasts) ck_X12_isBeast iv_X12_isBeast uw_8_145 (rv_o hK hP) rfl hl.1 rfl (Nat.le_of_ble_eq_true rfl) dX12_oldest_12 ⟨Nat.le_of_ble_eq_true rfl, Nat.le_of_ble_eq_true rfl⟩ ⟨Nat.le_of_ble_eq_true rfl, Nat.le_of_ble_eq_true rfl⟩) (fun r_674 H locs hQ hS => ?_)
    obtain ⟨hq_r_674, hP⟩ := hQ
    rcases hq_r_674 with rfl | ⟨rfl, c_676_0⟩
    · skip
      refine sy_if_eq (tgt := 66) hx hb dX12_oldest_15 (by decide) (by decide) (fun c_677 => ?_) (fun c9 => absurd c9 (by decide))
      refine lv_iload_n hx hb dX12_oldest_66 rfl (lv_at hl 1 rfl) ?_
      exact r_i hx hb hr hlocks dX12_oldest_67 hS ⟨by omega, hP⟩
    · skip
      refine sy_if_eq (tgt := 66) hx hb dX12_oldest_15 (by decide) (by decide) (fun c9 => absurd c9 (by decide)) (fun c_678 => ?_)
      refine lv_aload_n hx hb dX12_oldest_18 rfl (lv_at hl 2 rfl) ?_
      refine rg_o_all hx hb hts hown hK hP uw_7_66 dX12_oldest_19 ?_
      refine lv_iconst (v := mI 0) hx hb dX12_oldest_22 rfl ?_
      refine lv_iload_n hx hb dX12_oldest_23 rfl (lv_at hl 3 rfl) ?_
      refine sy_iadd hx hb dX12_oldest_24 p0 (by omega) ?_
      refine rl_all hx hb hK hP dX12_oldest_25 (by omega) (bA_bd b_B_all) (fun z_679 ez_679 hz_679 => ?_)
      have hz_679 := bA_hid b_B_all (by omega) ez_679
      refine lv_iload_n hx hb dX12_oldest_26 rfl (lv_at hl 0 rfl) ?_
      refine g_i (rDt hD) hS hA (g_S (own := "HideReaderModel") (As := [.int (mI z_679), .int (mI z_650)]) (rest := []) hx hb hml hown hts hK hP (rDt hD) (kr_bit (l := l) (D := D) (k := k)) ck_X12_bit uw_6_229 uw_6_228 rfl hl.1 rfl (Nat.le_of_ble_eq_true rfl) dX12_oldest_27 ⟨Nat.le_of_ble_eq_true rfl, Nat.le_of_ble_eq_true rfl⟩ ⟨Nat.le_of_ble_eq_true rfl, Nat.le_of_ble_eq_true rfl⟩) (fun r_680 H locs hQ hS => ?_)
      obtain ⟨hq_r_680, hP⟩ := hQ
      rcases hq_r_680 with ⟨rfl, c_681_0⟩ | ⟨rfl, c_682_0⟩
      · skip
        refine sy_if_eq (tgt := 60) hx hb dX12_oldest_30 (by decide) (by decide) (fun c9 => absurd c9 (by decide)) (fun c_683 => ?_)
        refine lv_aload_n hx hb dX12_oldest_33 rfl (lv_at hl 2 rfl) ?_
        refine rg_o_all hx hb hts hown hK hP uw_7_66 dX12_oldest_34 ?_
        refine lv_aload_n hx hb dX12_oldest_37 rfl (lv_at hl 2 rfl) ?_
        refine lv_iload_n hx hb dX12_oldest_38 rfl (lv_at hl 3 rfl) ?_
        refine lv_iload_n hx hb dX12_oldest_39 rfl (lv_at hl 0 rfl) ?_
        refine g_i (rDt hD) hS hA (g_V (own := "HideReaderModel") (As := [.int (mI p0), .int (mI z_650)]) (rest := [.ref (a 25)]) hx hb hml hown hts hK hP (rDt hD) (kr_X12_slot (l := l) (D := D) (k := k) (by omega) (by omega)) ck_X12_slot iv_X12_slot uw_6_224 (rv_o hK hP) rfl hl.1 rfl (Nat.le_of_ble_eq_true rfl) dX12_oldest_40 ⟨Nat.le_of_ble_eq_true rfl, Nat.le_of_ble_eq_true rfl⟩ ⟨Nat.le_of_ble_eq_true rfl, Nat.le_of_ble_eq_true rfl⟩) (fun r_684 H locs hQ hS => ?_)
        obtain ⟨hq_r_684, hP⟩ := hQ
        obtain rfl := hq_r_684
        refine rl_all hx hb hK hP dX12_oldest_43 (by omega) (bA_bd b_B_all) (fun z_686 ez_686 hz_686 => ?_)
        have hz_686 := bA_age b_B_all (by omega) ez_686
        refine lv_iload_n hx hb dX12_oldest_44 rfl (lv_at hl 1 rfl) ?_
        refine sy_icmp_le (tgt := 60) hx hb dX12_oldest_45 (by decide) (by omega) (by omega) (fun c_687 => ?_) (fun c_687 => ?_)
        · skip
          refine lv_iinc (v := mI (z_650 + 1)) (lv' := [(3, .int (mI (z_650 + 1))), (2, .int (mI z_651)), (0, .ref (a 0)), (1, .int (mI p0))]) hx hb dX12_oldest_60 hl (k := 0) rfl (mI_ad rfl) (by decide) rfl (fun ls hl => ?_)
          refine lv_goto (tgt := 4) hx hb dX12_oldest_63 (by decide) ?_
          exact ih_672 _ _ _ _ (by omega) ⟨(z_650 + 1), z_651, _, by omega, by omega, rfl, hP, hS, lv_sub hl [0, 1, 2, 3] rfl, rfl⟩
        · skip
          refine lv_aload_n hx hb dX12_oldest_48 rfl (lv_at hl 2 rfl) ?_
          refine rg_o_all hx hb hts hown hK hP uw_7_66 dX12_oldest_49 ?_
          refine lv_aload_n hx hb dX12_oldest_52 rfl (lv_at hl 2 rfl) ?_
          refine lv_iload_n hx hb dX12_oldest_53 rfl (lv_at hl 3 rfl) ?_
          refine lv_iload_n hx hb dX12_oldest_54 rfl (lv_at hl 0 rfl) ?_
          refine g_i (rDt hD) hS hA (g_V (own := "HideReaderModel") (As := [.int (mI p0), .int (mI z_650)]) (rest := [.ref (a 25)]) hx hb hml hown hts hK hP (rDt hD) (kr_X12_slot (l := l) (D := D) (k := k) (by omega) (by omega)) ck_X12_slot iv_X12_slot uw_6_224 (rv_o hK hP) rfl hl.1 rfl (Nat.le_of_ble_eq_true rfl) dX12_oldest_55 ⟨Nat.le_of_ble_eq_true rfl, Nat.le_of_ble_eq_true rfl⟩ ⟨Nat.le_of_ble_eq_true rfl, Nat.le_of_ble_eq_true rfl⟩) (fun r_688 H locs hQ hS => ?_)
          obtain ⟨hq_r_688, hP⟩ := hQ
          obtain rfl := hq_r_688
          refine rl_all hx hb hK hP dX12_oldest_58 (by omega) (bA_bd b_B_all) (fun z_690 ez_690 hz_690 => ?_)
          have hz_690 := bA_age b_B_all (by omega) ez_690
          refine lv_istore_n (lv' := [(2, .int (mI z_690)), (3, .int (mI z_650)), (0, .ref (a 0)), (1, .int (mI p0))]) hx hb dX12_oldest_59 rfl hl (by decide) rfl (fun ls hl => ?_)
          refine lv_iinc (v := mI (z_650 + 1)) (lv' := [(3, .int (mI (z_650 + 1))), (2, .int (mI z_690)), (0, .ref (a 0)), (1, .int (mI p0))]) hx hb dX12_oldest_60 hl (k := 1) rfl (mI_ad rfl) (by decide) rfl (fun ls hl => ?_)
          refine lv_goto (tgt := 4) hx hb dX12_oldest_63 (by decide) ?_
          exact ih_672 _ _ _ _ (by omega) ⟨(z_650 + 1), z_690, _, by omega, by omega, rfl, hP, hS, lv_sub hl [0, 1, 2, 3] rfl, rfl⟩
      · skip
        refine sy_if_eq (tgt := 60) hx hb dX12_oldest_30 (by decide) (by decide) (fun c_691 => ?_) (fun c9 => absurd c9 (by decide))
        refine lv_iinc (v := mI (z_650 + 1)) (lv' := [(3, .int (mI (z_650 + 1))), (2, .int (mI z_651)), (0, .ref (a 0)), (1, .int (mI p0))]) hx hb dX12_oldest_60 hl (k := 0) rfl (mI_ad rfl) (by decide) rfl (fun ls hl => ?_)
        refine lv_goto (tgt := 4) hx hb dX12_oldest_63 (by decide) ?_
        exact ih_672 _ _ _ _ (by omega) ⟨(z_650 + 1), z_651, _, by omega, by omega, rfl, hP, hS, lv_sub hl [0, 1, 2, 3] rfl, rfl⟩
set_option maxHeartbeats 4000000 in
set_option maxRecDepth 100000 in
theorem kr_X12_strays (h_x_bank : 0 ≤ x_bank ∧ x_bank ≤ 1) (b_B_turns : bd (0) 4 B_turns) (b_B_beasts : bd (0) 8 B_beasts) (b_B_told : bd (0) 31 B_told) (b_B_brands : bd (0) 4095 B_brands) (b_B_all : bA B_all) (g_R : 1 ≤ B_turns x_bank.toNat ∧ ¬ B_turns x_bank.toNat = 3) : MetG l D k yX12_strays cX12_strays 3 (some .int) 5 [.ref (a 0)] (rW k a x_taped x_size x_faultKind x_faultPlace x_at x_end x_token x_number x_bank x_rb x_codes x_within x_piled x_unitsInRule x_askBeast x_askStroke x_askAge x_askSeason x_acts x_undone x_laid x_seens x_time x_fitting n_name B_tape B_text B_turns B_herds B_irons B_beasts B_units B_night B_draw B_told B_brands B_ironMarks B_herdTold B_born B_ruleFrom B_ruleTo B_code B_codeNumber B_eWhat B_eSign B_pile B_all B_burned B_was B_need B_laidRow B_long8 B_brings B_sBurning B_sStroke B_sIs B_sTold B_sUntold B_parts B_boxAll B_isBoxed G_hName G_iName G_bName ex) (qGi (fun r0 H => (0 ≤ r0 ∧ r0 ≤ 255) ∧ va_P D vwCl (rW k a x_taped x_size x_faultKind x_faultPlace x_at x_end x_token x_number x_bank x_rb x_codes x_within x_piled x_unitsInRule x_askBeast x_askStroke x_askAge x_askSeason x_acts x_undone x_laid x_seens x_time x_fitting n_name B_tape B_text B_turns B_herds B_irons B_beasts B_units B_night B_draw B_told B_brands B_ironMarks B_herdTold B_born B_ruleFrom B_ruleTo B_code B_codeNumber B_eWhat B_eSign B_pile B_all B_burned B_was B_need B_laidRow B_long8 B_brings B_sBurning B_sStroke B_sIs B_sTold B_sUntold B_parts B_boxAll B_isBoxed G_hName G_iName G_bName ex) H)) := by
  refine metG_of 0 ck_X12_strays (Nat.le_of_ble_eq_true rfl) rMap (fun p e s m args below meth c A hx hb hml hr hlocks hown hts hK hD hA hP hS ls hl => ?_)
  have hown : s.vm.findClass "HideReaderModel" = some m.cls := hown
  have hl : lv_has ls 3 [(0, .ref (a 0))] := hl
  refine lv_iconst (v := mI 0) hx hb dX12_strays_0 rfl ?_
  refine lv_istore_n (lv' := [(1, .int (mI 0)), (0, .ref (a 0))]) hx hb dX12_strays_1 rfl hl (by decide) rfl (fun ls hl => ?_)
  refine lv_iconst (v := mI 0) hx hb dX12_strays_2 rfl ?_
  refine lv_istore_n (lv' := [(2, .int (mI 0)), (1, .int (mI 0)), (0, .ref (a 0))]) hx hb dX12_strays_3 rfl hl (by decide) rfl (fun ls hl => ?_)
  refine sy_loop (I := fun n H locs g => ∃ (z_405 : Int) (z_406 : Int) (ls : Array Slot), (0 ≤ z_405 ∧ z_405 ≤ 8) ∧ (0 ≤ z_406 ∧ z_406 ≤ 255) ∧ (8 - z_405).toNat = n ∧ va_P D vwCl (rW k a x_taped x_size x_faultKind x_faultPlace x_at x_end x_token x_number x_bank x_rb x_codes x_within x_piled x_unitsInRule x_askBeast x_askStroke x_askAge x_askSeason x_acts x_undone x_laid x_seens x_time x_fitting n_name B_tape B_text B_turns B_herds B_irons B_beasts B_units B_night B_draw B_told B_brands B_ironMarks B_herdTold B_born B_ruleFrom B_ruleTo B_code B_codeNumber B_eWhat B_eSign B_pile B_all B_burned B_was B_need B_laidRow B_long8 B_brings B_sBurning B_sStroke B_sIs B_sTold B_sUntold B_parts B_boxAll B_isBoxed G_hName G_iName G_bName ex) H ∧ va_S A s.heap H locs ∧ lv_has ls 3 [(2, .int (mI z_405)), (1, .int (mI z_406)), (0, .ref (a 0))] ∧ g = F0 m 4 ls []) ?_ _ ⟨0, 0, _, by omega, by omega, rfl, hP, hS, lv_sub hl [0, 1, 2] rfl, rfl⟩
  intro n_419 H locs g hI ih_420
  obtain ⟨z_405, z_406, ls, h4_0, h4_1, mn_419, hP, hS, hl, rfl⟩ := hI
  refine lv_iload_n hx hb dX12_strays_4 rfl (lv_at hl 0 rfl) ?_
  refine lv_aload_n hx hb dX12_strays_5 rfl (lv_at hl 2 rfl) ?_
  refine g_i (rDt hD) hS hA (g_V (own := "HideReaderModel") (As := []) (rest := [.int (mI z_405)]) hx hb hml hown hts hK hP (rDt hD) (kr_X12_cattle (l := l) (D := D) (k := k) h_x_bank b_B_beasts) ck_X12_cattle iv_X12_cattle uw_6_212 (rv_o hK hP) rfl hl.1 rfl (Nat.le_of_ble_eq_true rfl) dX12_strays_6 ⟨Nat.le_of_ble_eq_true rfl, Nat.le_of_ble_eq_true rfl⟩ ⟨Nat.le_of_ble_eq_true rfl, Nat.le_of_ble_eq_true rfl⟩) (fun r_421 H locs hQ hS => ?_)
  obtain ⟨hr_421_0, hr_421_1, hP⟩ := hQ
  refine sy_icmp_ge (tgt := 52) hx hb dX12_strays_9 (by decide) (by omega) (by omega) (fun c_422 => ?_) (fun c_422 => ?_)
  · skip
    refine lv_iload_n hx hb dX12_strays_52 rfl (lv_at hl 1 rfl) ?_
    exact r_i hx hb hr hlocks dX12_strays_53 hS ⟨by omega, hP⟩
  · skip
    refine lv_aload_n hx hb dX12_strays_12 rfl (lv_at hl 2 rfl) ?_
    refine lv_aload_n hx hb dX12_strays_13 rfl (lv_at hl 2 rfl) ?_
    refine rg_o_all hx hb hts hown hK hP uw_7_66 dX12_strays_14 ?_
    refine lv_iconst (v := mI 0) hx hb dX12_strays_17 rfl ?_
    refine lv_iload_n hx hb dX12_strays_18 rfl (lv_at hl 0 rfl) ?_
    refine sy_iadd hx hb dX12_strays_19 z_405 (by omega) ?_
    refine rl_all hx hb hK hP dX12_strays_20 (by omega) (bA_bd b_B_all) (fun z_423 ez_423 hz_423 => ?_)
    have hz_423 := bA_hid b_B_all (by omega) ez_423
    refine lv_aload_n hx hb dX12_strays_21 rfl (lv_at hl 2 rfl) ?_
    refine lv_aload_n hx hb dX12_strays_22 rfl (lv_at hl 2 rfl) ?_
    refine rg_o_all hx hb hts hown hK hP uw_7_66 dX12_strays_23 ?_
    refine lv_bipush (v := mI 8) hx hb dX12_strays_26 (by decide) ?_
    refine lv_iload_n hx hb dX12_strays_28 rfl (lv_at hl 0 rfl) ?_
    refine sy_iadd hx hb dX12_strays_29 (z_405 + 8) (by omega) ?_
    refine rl_all hx hb hK hP dX12_strays_30 (by omega) (bA_bd b_B_all) (fun z_424 ez_424 hz_424 => ?_)
    have hz_424 := bA_own b_B_all (by omega) ez_424
    refine g_i (rDt hD) hS hA (g_V (own := "HideReaderModel") (As := [.int (mI z_424)]) (rest := [.int (mI z_423), .ref (a 0)]) hx hb hml hown hts hK hP (rDt hD) (kr_X12_brandOf (l := l) (D := D) (k := k) (by omega) h_x_bank b_B_brands) ck_X12_brandOf iv_X12_brandOf uw_6_220 (rv_o hK hP) rfl hl.1 rfl (Nat.le_of_ble_eq_true rfl) dX12_strays_31 ⟨Nat.le_of_ble_eq_true rfl, Nat.le_of_ble_eq_true rfl⟩ ⟨Nat.le_of_ble_eq_true rfl, Nat.le_of_ble_eq_true rfl⟩) (fun r_425 H locs hQ hS => ?_)
    obtain ⟨hr_425_0, hr_425_1, hP⟩ := hQ
    refine g_i (rDt hD) hS hA (g_V (own := "HideReaderModel") (As := [.int (mI z_423), .int (mI r_425)]) (rest := []) hx hb hml hown hts hK hP (rDt hD) (kr_X12_areOne (l := l) (D := D) (k := k) (by omega) (by omega) h_x_bank b_B_turns b_B_told g_R) ck_X12_areOne iv_X12_areOne uw_8_210 (rv_o hK hP) rfl hl.1 rfl (Nat.le_of_ble_eq_true rfl) dX12_strays_34 ⟨Nat.le_of_ble_eq_true rfl, Nat.le_of_ble_eq_true rfl⟩ ⟨Nat.le_of_ble_eq_true rfl, Nat.le_of_ble_eq_true rfl⟩) (fun r_426 H locs hQ hS => ?_)
    obtain ⟨hq_r_426, hP⟩ := hQ
    rcases hq_r_426 with ⟨rfl, c_427_0⟩ | ⟨rfl, c_428_0⟩
    · skip
      refine sy_if_ne (tgt := 46) hx hb dX12_strays_37 (by decide) (by decide) (fun c9 => absurd c9 (by decide)) (fun c_429 => ?_)
      refine lv_iload_n hx hb dX12_strays_40 rfl (lv_at hl 1 rfl) ?_
      refine lv_iconst (v := mI 1) hx hb dX12_strays_41 rfl ?_
      refine lv_iload_n hx hb dX12_strays_42 rfl (lv_at hl 0 rfl) ?_
      refine sy_shl1 hx hb dX12_strays_43 7 (by decide) 128 (by decide) (by omega) (fun z_430 ez_430 hz_430 => ?_)
      refine sy_ior hx hb dX12_strays_44 8 (by decide) 256 (by decide) (by omega) (by omega) (fun z_431 hz_431 => ?_)
      refine lv_istore_n (lv' := [(1, .int (mI z_431)), (2, .int (mI z_405)), (0, .ref (a 0))]) hx hb dX12_strays_45 rfl hl (by decide) rfl (fun ls hl => ?_)
      refine lv_iinc (v := mI (z_405 + 1)) (lv' := [(2, .int (mI (z_405 + 1))), (1, .int (mI z_431)), (0, .ref (a 0))]) hx hb dX12_strays_46 hl (k := 1) rfl (mI_ad rfl) (by decide) rfl (fun ls hl => ?_)
      refine lv_goto (tgt := 4) hx hb dX12_strays_49 (by decide) ?_
      exact ih_420 _ _ _ _ (by omega) ⟨(z_405 + 1), z_431, _, by omega, by omega, rfl, hP, hS, lv_sub hl [0, 1, 2] rfl, rfl⟩
    · skip
      refine sy_if_ne (tgt := 46) hx hb dX12_strays_37 (by decide) (by decide) (fun c_432 => ?_) (fun c9 => absurd c9 (by decide))
      refine lv_iinc (v := mI (z_405 + 1)) (lv' := [(2, .int (mI (z_405 + 1))), (1, .int (mI z_406)), (0, .ref (a 0))]) hx hb dX12_strays_46 hl (k := 0) rfl (mI_ad rfl) (by decide) rfl (fun ls hl => ?_)
      refine lv_goto (tgt := 4) hx hb dX12_strays_49 (by decide) ?_
      exact ih_420 _ _ _ _ (by omega) ⟨(z_405 + 1), z_406, _, by omega, by omega, rfl, hP, hS, lv_sub hl [0, 1, 2] rfl, rfl⟩
set_option maxHeartbeats 4000000 in
set_option maxRecDepth 100000 in
theorem kr_X12_untouched (h_x_bank : 0 ≤ x_bank ∧ x_bank ≤ 1) (b_B_beasts : bd (0) 8 B_beasts) (b_B_all : bA B_all) : MetG l D k yX12_untouched cX12_untouched 3 (some .int) 1 [.ref (a 0)] (rW k a x_taped x_size x_faultKind x_faultPlace x_at x_end x_token x_number x_bank x_rb x_codes x_within x_piled x_unitsInRule x_askBeast x_askStroke x_askAge x_askSeason x_acts x_undone x_laid x_seens x_time x_fitting n_name B_tape B_text B_turns B_herds B_irons B_beasts B_units B_night B_draw B_told B_brands B_ironMarks B_herdTold B_born B_ruleFrom B_ruleTo B_code B_codeNumber B_eWhat B_eSign B_pile B_all B_burned B_was B_need B_laidRow B_long8 B_brings B_sBurning B_sStroke B_sIs B_sTold B_sUntold B_parts B_boxAll B_isBoxed G_hName G_iName G_bName ex) (qGi (fun r0 H => (0 ≤ r0 ∧ r0 ≤ 4095) ∧ va_P D vwCl (rW k a x_taped x_size x_faultKind x_faultPlace x_at x_end x_token x_number x_bank x_rb x_codes x_within x_piled x_unitsInRule x_askBeast x_askStroke x_askAge x_askSeason x_acts x_undone x_laid x_seens x_time x_fitting n_name B_tape B_text B_turns B_herds B_irons B_beasts B_units B_night B_draw B_told B_brands B_ironMarks B_herdTold B_born B_ruleFrom B_ruleTo B_code B_codeNumber B_eWhat B_eSign B_pile B_all B_burned B_was B_need B_laidRow B_long8 B_brings B_sBurning B_sStroke B_sIs B_sTold B_sUntold B_parts B_boxAll B_isBoxed G_hName G_iName G_bName ex) H)) := by
  refine metG_of 0 ck_X12_untouched (Nat.le_of_ble_eq_true rfl) rMap (fun p e s m args below meth c A hx hb hml hr hlocks hown hts hK hD hA hP hS ls hl => ?_)
  have hown : s.vm.findClass "HideReaderModel" = some m.cls := hown
  have hl : lv_has ls 3 [(0, .ref (a 0))] := hl
  refine lv_sipush (v := mI 4095) hx hb dX12_untouched_0 (by decide) ?_
  refine lv_istore_n (lv' := [(1, .int (mI 4095)), (0, .ref (a 0))]) hx hb dX12_untouched_3 rfl hl (by decide) rfl (fun ls hl => ?_)
  refine lv_iconst (v := mI 0) hx hb dX12_untouched_4 rfl ?_
  refine lv_istore_n (lv' := [(2, .int (mI 0)), (1, .int (mI 4095)), (0, .ref (a 0))]) hx hb dX12_untouched_5 rfl hl (by decide) rfl (fun ls hl => ?_)
  refine sy_loop (I := fun n H locs g => ∃ (z_62 : Int) (z_63 : Int) (ls : Array Slot), (0 ≤ z_62 ∧ z_62 ≤ 8) ∧ (0 ≤ z_63 ∧ z_63 ≤ 4095) ∧ (8 - z_62).toNat = n ∧ va_P D vwCl (rW k a x_taped x_size x_faultKind x_faultPlace x_at x_end x_token x_number x_bank x_rb x_codes x_within x_piled x_unitsInRule x_askBeast x_askStroke x_askAge x_askSeason x_acts x_undone x_laid x_seens x_time x_fitting n_name B_tape B_text B_turns B_herds B_irons B_beasts B_units B_night B_draw B_told B_brands B_ironMarks B_herdTold B_born B_ruleFrom B_ruleTo B_code B_codeNumber B_eWhat B_eSign B_pile B_all B_burned B_was B_need B_laidRow B_long8 B_brings B_sBurning B_sStroke B_sIs B_sTold B_sUntold B_parts B_boxAll B_isBoxed G_hName G_iName G_bName ex) H ∧ va_S A s.heap H locs ∧ lv_has ls 3 [(2, .int (mI z_62)), (1, .int (mI z_63)), (0, .ref (a 0))] ∧ g = F0 m 6 ls []) ?_ _ ⟨0, 4095, _, by omega, by omega, rfl, hP, hS, lv_sub hl [0, 1, 2] rfl, rfl⟩
  intro n_69 H locs g hI ih_70
  obtain ⟨z_62, z_63, ls, h6_0, h6_1, mn_69, hP, hS, hl, rfl⟩ := hI
  refine lv_iload_n hx hb dX12_untouched_6 rfl (lv_at hl 0 rfl) ?_
  refine lv_aload_n hx hb dX12_untouched_7 rfl (lv_at hl 2 rfl) ?_
  refine g_i (rDt hD) hS hA (g_V (own := "HideReaderModel") (As := []) (rest := [.int (mI z_62)]) hx hb hml hown hts hK hP (rDt hD) (kr_X12_cattle (l := l) (D := D) (k := k) h_x_bank b_B_beasts) ck_X12_cattle iv_X12_cattle uw_6_212 (rv_o hK hP) rfl hl.1 rfl (Nat.le_of_ble_eq_true rfl) dX12_untouched_8 ⟨Nat.le_of_ble_eq_true rfl, Nat.le_of_ble_eq_true rfl⟩ ⟨Nat.le_of_ble_eq_true rfl, Nat.le_of_ble_eq_true rfl⟩) (fun r_71 H locs hQ hS => ?_)
  obtain ⟨hr_71_0, hr_71_1, hP⟩ := hQ
  refine sy_icmp_ge (tgt := 33) hx hb dX12_untouched_11 (by decide) (by omega) (by omega) (fun c_72 => ?_) (fun c_72 => ?_)
  · skip
    refine lv_iload_n hx hb dX12_untouched_33 rfl (lv_at hl 1 rfl) ?_
    exact r_i hx hb hr hlocks dX12_untouched_34 hS ⟨by omega, hP⟩
  · skip
    refine lv_iload_n hx hb dX12_untouched_14 rfl (lv_at hl 1 rfl) ?_
    refine lv_aload_n hx hb dX12_untouched_15 rfl (lv_at hl 2 rfl) ?_
    refine rg_o_all hx hb hts hown hK hP uw_7_66 dX12_untouched_16 ?_
    refine lv_iconst (v := mI 0) hx hb dX12_untouched_19 rfl ?_
    refine lv_iload_n hx hb dX12_untouched_20 rfl (lv_at hl 0 rfl) ?_
    refine sy_iadd hx hb dX12_untouched_21 z_62 (by omega) ?_
    refine rl_all hx hb hK hP dX12_untouched_22 (by omega) (bA_bd b_B_all) (fun z_73 ez_73 hz_73 => ?_)
    have hz_73 := bA_hid b_B_all (by omega) ez_73
    refine lv_iconst (v := mI (-1)) hx hb dX12_untouched_23 rfl ?_
    refine lv_ixor hx hb dX12_untouched_24 ?_
    refine sy_any (fun z_74 hz_74 => ?_)
    refine sy_iandL hx hb dX12_untouched_25 (by omega) (fun z_75 hz_75 => ?_)
    refine lv_istore_n (lv' := [(1, .int (mI z_75)), (2, .int (mI z_62)), (0, .ref (a 0))]) hx hb dX12_untouched_26 rfl hl (by decide) rfl (fun ls hl => ?_)
    refine lv_iinc (v := mI (z_62 + 1)) (lv' := [(2, .int (mI (z_62 + 1))), (1, .int (mI z_75)), (0, .ref (a 0))]) hx hb dX12_untouched_27 hl (k := 1) rfl (mI_ad rfl) (by decide) rfl (fun ls hl => ?_)
    refine lv_goto (tgt := 6) hx hb dX12_untouched_30 (by decide) ?_
    exact ih_70 _ _ _ _ (by omega) ⟨(z_62 + 1), z_75, _, by omega, by omega, rfl, hP, hS, lv_sub hl [0, 1, 2] rfl, rfl⟩
set_option maxHeartbeats 4000000 in
set_option maxRecDepth 100000 in
theorem kr_X12_tells (h_x_bank : 0 ≤ x_bank ∧ x_bank ≤ 1) (b_B_beasts : bd (0) 8 B_beasts) (b_B_all : bA B_all) : MetG l D k yX12_tells cX12_tells 6 (some .int) 1 [.ref (a 0)] (rW k a x_taped x_size x_faultKind x_faultPlace x_at x_end x_token x_number x_bank x_rb x_codes x_within x_piled x_unitsInRule x_askBeast x_askStroke x_askAge x_askSeason x_acts x_undone x_laid x_seens x_time x_fitting n_name B_tape B_text B_turns B_herds B_irons B_beasts B_units B_night B_draw B_told B_brands B_ironMarks B_herdTold B_born B_ruleFrom B_ruleTo B_code B_codeNumber B_eWhat B_eSign B_pile B_all B_burned B_was B_need B_laidRow B_long8 B_brings B_sBurning B_sStroke B_sIs B_sTold B_sUntold B_parts B_boxAll B_isBoxed G_hName G_iName G_bName ex) (qGi (fun r0 H => (-1 ≤ r0 ∧ r0 ≤ 11) ∧ va_P D vwCl (rW k a x_taped x_size x_faultKind x_faultPlace x_at x_end x_token x_number x_bank x_rb x_codes x_within x_piled x_unitsInRule x_askBeast x_askStroke x_askAge x_askSeason x_acts x_undone x_laid x_seens x_time x_fitting n_name B_tape B_text B_turns B_herds B_irons B_beasts B_units B_night B_draw B_told B_brands B_ironMarks B_herdTold B_born B_ruleFrom B_ruleTo B_code B_codeNumber B_eWhat B_eSign B_pile B_all B_burned B_was B_need B_laidRow B_long8 B_brings B_sBurning B_sStroke B_sIs B_sTold B_sUntold B_parts B_boxAll B_isBoxed G_hName G_iName G_bName ex) H)) := by
  refine metG_of 0 ck_X12_tells (Nat.le_of_ble_eq_true rfl) rMap (fun p e s m args below meth c A hx hb hml hr hlocks hown hts hK hD hA hP hS ls hl => ?_)
  have hown : s.vm.findClass "HideReaderModel" = some m.cls := hown
  have hl : lv_has ls 6 [(0, .ref (a 0))] := hl
  refine lv_iconst (v := mI (-1)) hx hb dX12_tells_0 rfl ?_
  refine lv_istore_n (lv' := [(1, .int (mI (-1))), (0, .ref (a 0))]) hx hb dX12_tells_1 rfl hl (by decide) rfl (fun ls hl => ?_)
  refine lv_iconst (v := mI 0) hx hb dX12_tells_2 rfl ?_
  refine lv_istore_n (lv' := [(2, .int (mI 0)), (1, .int (mI (-1))), (0, .ref (a 0))]) hx hb dX12_tells_3 rfl hl (by decide) rfl (fun ls hl => ?_)
  refine lv_iconst (v := mI 0) hx hb dX12_tells_4 rfl ?_
  refine lv_istore_n (lv' := [(3, .int (mI 0)), (2, .int (mI 0)), (1, .int (mI (-1))), (0, .ref (a 0))]) hx hb dX12_tells_5 rfl hl (by decide) rfl (fun ls hl => ?_)
  refine sy_loop (I := fun n H locs g => ∃ (z_45787 : Int) (z_45788 : Int) (z_45789 : Int) (ls : Array Slot), (0 ≤ z_45787 ∧ z_45787 ≤ 12) ∧ (-2147483648 ≤ z_45788 ∧ z_45788 ≤ 2147483647) ∧ (-1 ≤ z_45789 ∧ z_45789 ≤ 11) ∧ (0 ≤ z_45787 - z_45789) ∧ (12 - z_45787).toNat = n ∧ va_P D vwCl (rW k a x_taped x_size x_faultKind x_faultPlace x_at x_end x_token x_number x_bank x_rb x_codes x_within x_piled x_unitsInRule x_askBeast x_askStroke x_askAge x_askSeason x_acts x_undone x_laid x_seens x_time x_fitting n_name B_tape B_text B_turns B_herds B_irons B_beasts B_units B_night B_draw B_told B_brands B_ironMarks B_herdTold B_born B_ruleFrom B_ruleTo B_code B_codeNumber B_eWhat B_eSign B_pile B_all B_burned B_was B_need B_laidRow B_long8 B_brings B_sBurning B_sStroke B_sIs B_sTold B_sUntold B_parts B_boxAll B_isBoxed G_hName G_iName G_bName ex) H ∧ va_S A s.heap H locs ∧ lv_has ls 6 [(3, .int (mI z_45787)), (2, .int (mI z_45788)), (1, .int (mI z_45789)), (0, .ref (a 0))] ∧ g = F0 m 6 ls []) ?_ _ ⟨0, 0, (-1), _, by omega, by omega, by omega, by omega, rfl, hP, hS, lv_sub hl [0, 1, 2, 3] rfl, rfl⟩
  intro n_46841 H locs g hI ih_46842
  obtain ⟨z_45787, z_45788, z_45789, ls, h6_0, h6_1, h6_2, h6_3, mn_46841, hP, hS, hl, rfl⟩ := hI
  refine lv_iload_n hx hb dX12_tells_6 rfl (lv_at hl 0 rfl) ?_
  refine lv_bipush (v := mI 12) hx hb dX12_tells_7 (by decide) ?_
  refine sy_icmp_ge (tgt := 109) hx hb dX12_tells_9 (by decide) (by omega) (by decide) (fun c_46843 => ?_) (fun c_46843 => ?_)
  · skip
    refine lv_iload_n hx hb dX12_tells_109 rfl (lv_at hl 2 rfl) ?_
    exact r_i hx hb hr hlocks dX12_tells_110 hS ⟨by omega, hP⟩
  · skip
    refine lv_aload_n hx hb dX12_tells_12 rfl (lv_at hl 3 rfl) ?_
    refine g_i (rDt hD) hS hA (g_V (own := "HideReaderModel") (As := []) (rest := []) hx hb hml hown hts hK hP (rDt hD) (kr_X12_cattle (l := l) (D := D) (k := k) h_x_bank b_B_beasts) ck_X12_cattle iv_X12_cattle uw_6_212 (rv_o hK hP) rfl hl.1 rfl (Nat.le_of_ble_eq_true rfl) dX12_tells_13 ⟨Nat.le_of_ble_eq_true rfl, Nat.le_of_ble_eq_true rfl⟩ ⟨Nat.le_of_ble_eq_true rfl, Nat.le_of_ble_eq_true rfl⟩) (fun r_46844 H locs hQ hS => ?_)
    obtain ⟨hr_46844_0, hr_46844_1, hP⟩ := hQ
    refine sy_if_le (tgt := 109) hx hb dX12_tells_16 (by decide) (by omega) (fun c_46845 => ?_) (fun c_46845 => ?_)
    · skip
      refine lv_iload_n hx hb dX12_tells_109 rfl (lv_at hl 2 rfl) ?_
      exact r_i hx hb hr hlocks dX12_tells_110 hS ⟨by omega, hP⟩
    · skip
      refine lv_aload_n hx hb dX12_tells_19 rfl (lv_at hl 3 rfl) ?_
      refine g_i (rDt hD) hS hA (g_V (own := "HideReaderModel") (As := []) (rest := []) hx hb hml hown hts hK hP (rDt hD) (kr_X12_cattle (l := l) (D := D) (k := k) h_x_bank b_B_beasts) ck_X12_cattle iv_X12_cattle uw_6_212 (rv_o hK hP) rfl hl.1 rfl (Nat.le_of_ble_eq_true rfl) dX12_tells_20 ⟨Nat.le_of_ble_eq_true rfl, Nat.le_of_ble_eq_true rfl⟩ ⟨Nat.le_of_ble_eq_true rfl, Nat.le_of_ble_eq_true rfl⟩) (fun r_46846 H locs hQ hS => ?_)
      obtain ⟨hr_46846_0, hr_46846_1, hP⟩ := hQ
      refine sy_ineg hx hb dX12_tells_23 (-r_46846) (by omega) ?_
      refine lv_istore (lv' := [(4, .int (mI (-r_46846))), (3, .int (mI z_45787)), (2, .int (mI z_45788)), (1, .int (mI z_45789)), (0, .ref (a 0))]) hx hb dX12_tells_24 hl (by decide) rfl (fun ls hl => ?_)
      refine lv_iconst (v := mI 0) hx hb dX12_tells_26 rfl ?_
      refine lv_istore (lv' := [(5, .int (mI 0)), (4, .int (mI (-r_46846))), (3, .int (mI z_45787)), (2, .int (mI z_45788)), (1, .int (mI z_45789)), (0, .ref (a 0))]) hx hb dX12_tells_27 hl (by decide) rfl (fun ls hl => ?_)
      refine sy_loop (I := fun n H locs g => ∃ (z_47840 : Int) (z_47841 : Int) (ls : Array Slot), (0 ≤ z_47840 ∧ z_47840 ≤ 8) ∧ (-2147483648 ≤ z_47841 ∧ z_47841 ≤ 2147483647) ∧ (8 - z_47840).toNat = n ∧ va_P D vwCl (rW k a x_taped x_size x_faultKind x_faultPlace x_at x_end x_token x_number x_bank x_rb x_codes x_within x_piled x_unitsInRule x_askBeast x_askStroke x_askAge x_askSeason x_acts x_undone x_laid x_seens x_time x_fitting n_name B_tape B_text B_turns B_herds B_irons B_beasts B_units B_night B_draw B_told B_brands B_ironMarks B_herdTold B_born B_ruleFrom B_ruleTo B_code B_codeNumber B_eWhat B_eSign B_pile B_all B_burned B_was B_need B_laidRow B_long8 B_brings B_sBurning B_sStroke B_sIs B_sTold B_sUntold B_parts B_boxAll B_isBoxed G_hName G_iName G_bName ex) H ∧ va_S A s.heap H locs ∧ lv_has ls 6 [(5, .int (mI z_47840)), (4, .int (mI z_47841)), (3, .int (mI z_45787)), (2, .int (mI z_45788)), (1, .int (mI z_45789)), (0, .ref (a 0))] ∧ g = F0 m 29 ls []) ?_ _ ⟨0, (-r_46846), _, by omega, by omega, rfl, hP, hS, lv_sub hl [0, 1, 2, 3, 4, 5] rfl, rfl⟩
      intro n_47867 H locs g hI ih_47868
      obtain ⟨z_47840, z_47841, ls, h29_0, h29_1, mn_47867, hP, hS, hl, rfl⟩ := hI
      refine lv_iload hx hb dX12_tells_29 (lv_at hl 0 rfl) ?_
      refine lv_aload_n hx hb dX12_tells_31 rfl (lv_at hl 5 rfl) ?_
      refine g_i (rDt hD) hS hA (g_V (own := "HideReaderModel") (As := []) (rest := [.int (mI z_47840)]) hx hb hml hown hts hK hP (rDt hD) (kr_X12_cattle (l := l) (D := D) (k := k) h_x_bank b_B_beasts) ck_X12_cattle iv_X12_cattle uw_6_212 (rv_o hK hP) rfl hl.1 rfl (Nat.le_of_ble_eq_true rfl) dX12_tells_32 ⟨Nat.le_of_ble_eq_true rfl, Nat.le_of_ble_eq_true rfl⟩ ⟨Nat.le_of_ble_eq_true rfl, Nat.le_of_ble_eq_true rfl⟩) (fun r_47869 H locs hQ hS => ?_)
      obtain ⟨hr_47869_0, hr_47869_1, hP⟩ := hQ
      refine sy_icmp_ge (tgt := 70) hx hb dX12_tells_35 (by decide) (by omega) (by omega) (fun c_47878 => ?_) (fun c_47878 => ?_)
      · skip
        refine lv_iload hx hb dX12_tells_70 (lv_at hl 1 rfl) ?_
        refine sy_join (I := fun H locs g => ∃ (z_47881 : Int) (ls : Array Slot), (-2147483648 ≤ z_47881 ∧ z_47881 ≤ 2147483647) ∧ va_P D vwCl (rW k a x_taped x_size x_faultKind x_faultPlace x_at x_end x_token x_number x_bank x_rb x_codes x_within x_piled x_unitsInRule x_askBeast x_askStroke x_askAge x_askSeason x_acts x_undone x_laid x_seens x_time x_fitting n_name B_tape B_text B_turns B_herds B_irons B_beasts B_units B_night B_draw B_told B_brands B_ironMarks B_herdTold B_born B_ruleFrom B_ruleTo B_code B_codeNumber B_eWhat B_eSign B_pile B_all B_burned B_was B_need B_laidRow B_long8 B_brings B_sBurning B_sStroke B_sIs B_sTold B_sUntold B_parts B_boxAll B_isBoxed G_hName G_iName G_bName ex) H ∧ va_S A s.heap H locs ∧ lv_has ls 6 [(5, .int (mI z_47840)), (4, .int (mI z_47841)), (3, .int (mI z_45787)), (2, .int (mI z_45788)), (1, .int (mI z_45789)), (0, .ref (a 0))] ∧ g = F0 m 83 ls [.int (mI z_47881)]) ?_ ?_
        · skip
          intro H locs g hI
          obtain ⟨z_47881, ls, h83_0, hP, hS, hl, rfl⟩ := hI
          refine lv_istore (lv' := [(4, .int (mI z_47881)), (5, .int (mI z_47840)), (3, .int (mI z_45787)), (2, .int (mI z_45788)), (1, .int (mI z_45789)), (0, .ref (a 0))]) hx hb dX12_tells_83 hl (by decide) rfl (fun ls hl => ?_)
          refine lv_iload_n hx hb dX12_tells_85 rfl (lv_at hl 4 rfl) ?_
          refine sy_if_lt (tgt := 98) hx hb dX12_tells_86 (by decide) (by omega) (fun c_47883 => ?_) (fun c_47883 => ?_)
          · skip
            refine lv_iload_n hx hb dX12_tells_98 rfl (lv_at hl 2 rfl) ?_
            refine lv_istore_n (lv' := [(1, .int (mI z_45787)), (4, .int (mI z_47881)), (5, .int (mI z_47840)), (3, .int (mI z_45787)), (2, .int (mI z_45788)), (0, .ref (a 0))]) hx hb dX12_tells_99 rfl hl (by decide) rfl (fun ls hl => ?_)
            refine lv_iload hx hb dX12_tells_100 (lv_at hl 1 rfl) ?_
            refine lv_istore_n (lv' := [(2, .int (mI z_47881)), (1, .int (mI z_45787)), (4, .int (mI z_47881)), (5, .int (mI z_47840)), (3, .int (mI z_45787)), (0, .ref (a 0))]) hx hb dX12_tells_102 rfl hl (by decide) rfl (fun ls hl => ?_)
            refine lv_iinc (v := mI (z_45787 + 1)) (lv' := [(3, .int (mI (z_45787 + 1))), (2, .int (mI z_47881)), (1, .int (mI z_45787)), (4, .int (mI z_47881)), (5, .int (mI z_47840)), (0, .ref (a 0))]) hx hb dX12_tells_103 hl (k := 4) rfl (mI_ad rfl) (by decide) rfl (fun ls hl => ?_)
            refine lv_goto (tgt := 6) hx hb dX12_tells_106 (by decide) ?_
            exact ih_46842 _ _ _ _ (by omega) ⟨(z_45787 + 1), z_47881, z_45787, _, by omega, by omega, by omega, by omega, rfl, hP, hS, lv_sub hl [0, 1, 2, 5] rfl, rfl⟩
          · skip
            refine lv_iload hx hb dX12_tells_89 (lv_at hl 0 rfl) ?_
            refine lv_iload_n hx hb dX12_tells_91 rfl (lv_at hl 3 rfl) ?_
            refine sy_icmp_lt (tgt := 98) hx hb dX12_tells_92 (by decide) (by omega) (by omega) (fun c_47884 => ?_) (fun c_47884 => ?_)
            · skip
              refine lv_iload_n hx hb dX12_tells_98 rfl (lv_at hl 2 rfl) ?_
              refine lv_istore_n (lv' := [(1, .int (mI z_45787)), (4, .int (mI z_47881)), (5, .int (mI z_47840)), (3, .int (mI z_45787)), (2, .int (mI z_45788)), (0, .ref (a 0))]) hx hb dX12_tells_99 rfl hl (by decide) rfl (fun ls hl => ?_)
              refine lv_iload hx hb dX12_tells_100 (lv_at hl 1 rfl) ?_
              refine lv_istore_n (lv' := [(2, .int (mI z_47881)), (1, .int (mI z_45787)), (4, .int (mI z_47881)), (5, .int (mI z_47840)), (3, .int (mI z_45787)), (0, .ref (a 0))]) hx hb dX12_tells_102 rfl hl (by decide) rfl (fun ls hl => ?_)
              refine lv_iinc (v := mI (z_45787 + 1)) (lv' := [(3, .int (mI (z_45787 + 1))), (2, .int (mI z_47881)), (1, .int (mI z_45787)), (4, .int (mI z_47881)), (5, .int (mI z_47840)), (0, .ref (a 0))]) hx hb dX12_tells_103 hl (k := 4) rfl (mI_ad rfl) (by decide) rfl (fun ls hl => ?_)
              refine lv_goto (tgt := 6) hx hb dX12_tells_106 (by decide) ?_
              exact ih_46842 _ _ _ _ (by omega) ⟨(z_45787 + 1), z_47881, z_45787, _, by omega, by omega, by omega, by omega, rfl, hP, hS, lv_sub hl [0, 1, 2, 5] rfl, rfl⟩
            · skip
              refine lv_goto (tgt := 103) hx hb dX12_tells_95 (by decide) ?_
              refine lv_iinc (v := mI (z_45787 + 1)) (lv' := [(3, .int (mI (z_45787 + 1))), (4, .int (mI z_47881)), (5, .int (mI z_47840)), (2, .int (mI z_45788)), (1, .int (mI z_45789)), (0, .ref (a 0))]) hx hb dX12_tells_103 hl (k := 2) rfl (mI_ad rfl) (by decide) rfl (fun ls hl => ?_)
              refine lv_goto (tgt := 6) hx hb dX12_tells_106 (by decide) ?_
              exact ih_46842 _ _ _ _ (by omega) ⟨(z_45787 + 1), z_45788, z_45789, _, by omega, by omega, by omega, by omega, rfl, hP, hS, lv_sub hl [0, 3, 4, 5] rfl, rfl⟩
        · skip
          intro J_47882
          refine sy_if_ge (tgt := 81) hx hb dX12_tells_72 (by decide) (by omega) (fun c_47885 => ?_) (fun c_47885 => ?_)
          · skip
            refine lv_iload hx hb dX12_tells_81 (lv_at hl 1 rfl) ?_
            exact J_47882 _ _ _ ⟨z_47841, _, by omega, hP, hS, lv_sub hl [0, 1, 2, 3, 4, 5] rfl, rfl⟩
          · skip
            refine lv_iload hx hb dX12_tells_75 (lv_at hl 1 rfl) ?_
            refine sy_ineg hx hb dX12_tells_77 (-z_47841) (by omega) ?_
            refine sy_any (fun z_47886 hz_47886 => ?_)
            refine lv_goto (tgt := 83) hx hb dX12_tells_78 (by decide) ?_
            exact J_47882 _ _ _ ⟨z_47886, _, by omega, hP, hS, lv_sub hl [0, 1, 2, 3, 4, 5] rfl, rfl⟩
      · skip
        refine lv_iload hx hb dX12_tells_38 (lv_at hl 1 rfl) ?_
        refine lv_aload_n hx hb dX12_tells_40 rfl (lv_at hl 5 rfl) ?_
        refine rg_o_all hx hb hts hown hK hP uw_7_66 dX12_tells_41 ?_
        refine lv_iconst (v := mI 0) hx hb dX12_tells_44 rfl ?_
        refine lv_iload hx hb dX12_tells_45 (lv_at hl 0 rfl) ?_
        refine sy_iadd hx hb dX12_tells_47 z_47840 (by omega) ?_
        refine rl_all hx hb hK hP dX12_tells_48 (by omega) (bA_bd b_B_all) (fun z_47887 ez_47887 hz_47887 => ?_)
        have hz_47887 := bA_hid b_B_all (by omega) ez_47887
        refine lv_iload_n hx hb dX12_tells_49 rfl (lv_at hl 2 rfl) ?_
        refine g_i (rDt hD) hS hA (g_S (own := "HideReaderModel") (As := [.int (mI z_47887), .int (mI z_45787)]) (rest := [.int (mI z_47841)]) hx hb hml hown hts hK hP (rDt hD) (kr_bit (l := l) (D := D) (k := k)) ck_X12_bit uw_6_229 uw_6_228 rfl hl.1 rfl (Nat.le_of_ble_eq_true rfl) dX12_tells_50 ⟨Nat.le_of_ble_eq_true rfl, Nat.le_of_ble_eq_true rfl⟩ ⟨Nat.le_of_ble_eq_true rfl, Nat.le_of_ble_eq_true rfl⟩) (fun r_47888 H locs hQ hS => ?_)
        obtain ⟨hq_r_47888, hP⟩ := hQ
        rcases hq_r_47888 with ⟨rfl, c_47889_0⟩ | ⟨rfl, c_47890_0⟩
        · skip
          refine sy_if_eq (tgt := 60) hx hb dX12_tells_53 (by decide) (by decide) (fun c9 => absurd c9 (by decide)) (fun c_47891 => ?_)
          refine lv_iconst (v := mI 2) hx hb dX12_tells_56 rfl ?_
          refine lv_goto (tgt := 61) hx hb dX12_tells_57 (by decide) ?_
          refine sy_iadd hx hb dX12_tells_61 (z_47841 + 2) rfl ?_
          refine sy_any (fun z_47892 hz_47892 => ?_)
          refine lv_istore (lv' := [(4, .int (mI z_47892)), (5, .int (mI z_47840)), (3, .int (mI z_45787)), (2, .int (mI z_45788)), (1, .int (mI z_45789)), (0, .ref (a 0))]) hx hb dX12_tells_62 hl (by decide) rfl (fun ls hl => ?_)
          refine lv_iinc (v := mI (z_47840 + 1)) (lv' := [(5, .int (mI (z_47840 + 1))), (4, .int (mI z_47892)), (3, .int (mI z_45787)), (2, .int (mI z_45788)), (1, .int (mI z_45789)), (0, .ref (a 0))]) hx hb dX12_tells_64 hl (k := 1) rfl (mI_ad rfl) (by decide) rfl (fun ls hl => ?_)
          refine lv_goto (tgt := 29) hx hb dX12_tells_67 (by decide) ?_
          exact ih_47868 _ _ _ _ (by omega) ⟨(z_47840 + 1), z_47892, _, by omega, by omega, rfl, hP, hS, lv_sub hl [0, 1, 2, 3, 4, 5] rfl, rfl⟩
        · skip
          refine sy_if_eq (tgt := 60) hx hb dX12_tells_53 (by decide) (by decide) (fun c_47893 => ?_) (fun c9 => absurd c9 (by decide))
          refine lv_iconst (v := mI 0) hx hb dX12_tells_60 rfl ?_
          refine sy_iadd hx hb dX12_tells_61 z_47841 (by omega) ?_
          refine lv_istore (lv' := [(4, .int (mI z_47841)), (5, .int (mI z_47840)), (3, .int (mI z_45787)), (2, .int (mI z_45788)), (1, .int (mI z_45789)), (0, .ref (a 0))]) hx hb dX12_tells_62 hl (by decide) rfl (fun ls hl => ?_)
          refine lv_iinc (v := mI (z_47840 + 1)) (lv' := [(5, .int (mI (z_47840 + 1))), (4, .int (mI z_47841)), (3, .int (mI z_45787)), (2, .int (mI z_45788)), (1, .int (mI z_45789)), (0, .ref (a 0))]) hx hb dX12_tells_64 hl (k := 1) rfl (mI_ad rfl) (by decide) rfl (fun ls hl => ?_)
          refine lv_goto (tgt := 29) hx hb dX12_tells_67 (by decide) ?_
          exact ih_47868 _ _ _ _ (by omega) ⟨(z_47840 + 1), z_47841, _, by omega, by omega, rfl, hP, hS, lv_sub hl [0, 1, 2, 3, 4, 5] rfl, rfl⟩
set_option maxHeartbeats 4000000 in
set_option maxRecDepth 100000 in
theorem kr_X12_keepAct (h_x_acts : 0 ≤ x_acts ∧ x_acts ≤ 40) (h_x_undone : 0 ≤ x_undone ∧ x_undone ≤ 40) (b_B_all : bA B_all) (b_B_was : bA B_was) (g_A : 0 ≤ 40 - x_acts - x_undone) : MetG l D k yX12_keepAct cX12_keepAct 2 none 0 [.ref (a 0)] (rW k a x_taped x_size x_faultKind x_faultPlace x_at x_end x_token x_number x_bank x_rb x_codes x_within x_piled x_unitsInRule x_askBeast x_askStroke x_askAge x_askSeason x_acts x_undone x_laid x_seens x_time x_fitting n_name B_tape B_text B_turns B_herds B_irons B_beasts B_units B_night B_draw B_told B_brands B_ironMarks B_herdTold B_born B_ruleFrom B_ruleTo B_code B_codeNumber B_eWhat B_eSign B_pile B_all B_burned B_was B_need B_laidRow B_long8 B_brings B_sBurning B_sStroke B_sIs B_sTold B_sUntold B_parts B_boxAll B_isBoxed G_hName G_iName G_bName ex) (qGv (fun H => ∃ (F_was : Nat → Int) (y_acts : Int) (y_undone : Int), (bA F_was) ∧ (1 ≤ y_acts ∧ y_acts ≤ 40) ∧ (0 ≤ y_undone ∧ y_undone ≤ 0) ∧ (0 ≤ -y_undone + x_undone) ∧ (0 ≤ 40 - y_acts - y_undone) ∧ va_P D vwCl (rW k a x_taped x_size x_faultKind x_faultPlace x_at x_end x_token x_number x_bank x_rb x_codes x_within x_piled x_unitsInRule x_askBeast x_askStroke x_askAge x_askSeason y_acts y_undone x_laid x_seens x_time x_fitting n_name B_tape B_text B_turns B_herds B_irons B_beasts B_units B_night B_draw B_told B_brands B_ironMarks B_herdTold B_born B_ruleFrom B_ruleTo B_code B_codeNumber B_eWhat B_eSign B_pile B_all B_burned F_was B_need B_laidRow B_long8 B_brings B_sBurning B_sStroke B_sIs B_sTold B_sUntold B_parts B_boxAll B_isBoxed G_hName G_iName G_bName ex) H)) := by
  refine metG_of 0 ck_X12_keepAct (Nat.le_of_ble_eq_true rfl) rMap (fun p e s m args below meth c A hx hb hml hr hlocks hown hts hK hD hA hP hS ls hl => ?_)
  have hown : s.vm.findClass "HideReaderModel" = some m.cls := hown
  have hl : lv_has ls 2 [(0, .ref (a 0))] := hl
  refine lv_aload_n hx hb dX12_keepAct_0 rfl (lv_at hl 0 rfl) ?_
  refine rg_o_acts hx hb hts hown hK hP uw_7_69 dX12_keepAct_1 ?_
  refine lv_bipush (v := mI 40) hx hb dX12_keepAct_4 (by decide) ?_
  refine sy_join (I := fun H locs g => ∃ (F_45 : Nat → Int) (y_46 : Int) (ls : Array Slot), (bA F_45) ∧ (0 ≤ y_46 ∧ y_46 ≤ 39) ∧ (0 ≤ 40 - y_46 - x_undone) ∧ (y_46 ≤ x_acts) ∧ va_P D vwCl (rW k a x_taped x_size x_faultKind x_faultPlace x_at x_end x_token x_number x_bank x_rb x_codes x_within x_piled x_unitsInRule x_askBeast x_askStroke x_askAge x_askSeason y_46 x_undone x_laid x_seens x_time x_fitting n_name B_tape B_text B_turns B_herds B_irons B_beasts B_units B_night B_draw B_told B_brands B_ironMarks B_herdTold B_born B_ruleFrom B_ruleTo B_code B_codeNumber B_eWhat B_eSign B_pile B_all B_burned F_45 B_need B_laidRow B_long8 B_brings B_sBurning B_sStroke B_sIs B_sTold B_sUntold B_parts B_boxAll B_isBoxed G_hName G_iName G_bName ex) H ∧ va_S A s.heap H locs ∧ lv_has ls 2 [(0, .ref (a 0))] ∧ g = F0 m 49 ls []) ?_ ?_
  · skip
    intro H locs g hI
    obtain ⟨F_45, y_46, ls, bF_45, h49_1, g_47, h49_3, hP, hS, hl, rfl⟩ := hI
    refine lv_iconst (v := mI 0) hx hb dX12_keepAct_49 rfl ?_
    refine lv_istore_n (lv' := [(1, .int (mI 0)), (0, .ref (a 0))]) hx hb dX12_keepAct_50 rfl hl (by decide) rfl (fun ls hl => ?_)
    refine sy_loop (I := fun n H locs g => ∃ (z_103 : Int) (F_104 : Nat → Int) (ls : Array Slot), (0 ≤ z_103 ∧ z_103 ≤ 114) ∧ (bA F_104) ∧ (114 - z_103).toNat = n ∧ va_P D vwCl (rW k a x_taped x_size x_faultKind x_faultPlace x_at x_end x_token x_number x_bank x_rb x_codes x_within x_piled x_unitsInRule x_askBeast x_askStroke x_askAge x_askSeason y_46 x_undone x_laid x_seens x_time x_fitting n_name B_tape B_text B_turns B_herds B_irons B_beasts B_units B_night B_draw B_told B_brands B_ironMarks B_herdTold B_born B_ruleFrom B_ruleTo B_code B_codeNumber B_eWhat B_eSign B_pile B_all B_burned F_104 B_need B_laidRow B_long8 B_brings B_sBurning B_sStroke B_sIs B_sTold B_sUntold B_parts B_boxAll B_isBoxed G_hName G_iName G_bName ex) H ∧ va_S A s.heap H locs ∧ lv_has ls 2 [(1, .int (mI z_103)), (0, .ref (a 0))] ∧ g = F0 m 51 ls []) ?_ _ ⟨0, F_45, _, by omega, bF_45, rfl, hP, hS, lv_sub hl [0, 1] rfl, rfl⟩
    intro n_111 H locs g hI ih_112
    obtain ⟨z_103, F_104, ls, h51_0, bF_104, mn_111, hP, hS, hl, rfl⟩ := hI
    refine lv_iload_n hx hb dX12_keepAct_51 rfl (lv_at hl 0 rfl) ?_
    refine lv_bipush (v := mI 114) hx hb dX12_keepAct_52 (by decide) ?_
    refine sy_icmp_ge (tgt := 83) hx hb dX12_keepAct_54 (by decide) (by omega) (by decide) (fun c_116 => ?_) (fun c_116 => ?_)
    · skip
      refine lv_aload_n hx hb dX12_keepAct_83 rfl (lv_at hl 1 rfl) ?_
      refine lv_dup hx hb dX12_keepAct_84 rfl ?_
      refine rg_o_acts hx hb hts hown hK hP uw_7_69 dX12_keepAct_85 ?_
      refine lv_iconst (v := mI 1) hx hb dX12_keepAct_88 rfl ?_
      refine sy_iadd hx hb dX12_keepAct_89 (y_46 + 1) rfl ?_
      refine rp_o_acts hx hb hts hown hK hP hD hS uw_7_69 dX12_keepAct_90 (fun H locs hP hS => ?_)
      refine lv_aload_n hx hb dX12_keepAct_93 rfl (lv_at hl 1 rfl) ?_
      refine lv_iconst (v := mI 0) hx hb dX12_keepAct_94 rfl ?_
      refine rp_o_undone hx hb hts hown hK hP hD hS uw_7_70 dX12_keepAct_95 (fun H locs hP hS => ?_)
      exact r_v hx hb hr hlocks dX12_keepAct_98 hS ⟨F_104, (y_46 + 1), 0, bF_104, by omega, by omega, by omega, (by omega), hP⟩
    · skip
      refine lv_aload_n hx hb dX12_keepAct_57 rfl (lv_at hl 1 rfl) ?_
      refine rg_o_was hx hb hts hown hK hP uw_7_68 dX12_keepAct_58 ?_
      refine lv_bipush (v := mI 114) hx hb dX12_keepAct_61 (by decide) ?_
      refine lv_aload_n hx hb dX12_keepAct_63 rfl (lv_at hl 1 rfl) ?_
      refine rg_o_acts hx hb hts hown hK hP uw_7_69 dX12_keepAct_64 ?_
      refine sy_imul hx hb dX12_keepAct_67 (114 * y_46) rfl ?_
      refine lv_iload_n hx hb dX12_keepAct_68 rfl (lv_at hl 0 rfl) ?_
      refine sy_iadd hx hb dX12_keepAct_69 (114 * y_46 + z_103) rfl ?_
      refine lv_aload_n hx hb dX12_keepAct_70 rfl (lv_at hl 1 rfl) ?_
      refine rg_o_all hx hb hts hown hK hP uw_7_66 dX12_keepAct_71 ?_
      refine lv_iload_n hx hb dX12_keepAct_74 rfl (lv_at hl 0 rfl) ?_
      refine rl_all hx hb hK hP dX12_keepAct_75 (by omega) (bA_bd b_B_all) (fun z_117 ez_117 hz_117 => ?_)
      refine rs_was hx hb hK hP hD hS dX12_keepAct_76 (by omega) (bA_bd bF_104) (by omega) (fun F_118 H locs eF_118 bF_118 hP hS => ?_)
      have bF_118 := bA_cp bF_104 b_B_all eF_118 ez_117 (by omega) (by omega) (by omega)
      refine lv_iinc (v := mI (z_103 + 1)) (lv' := [(1, .int (mI (z_103 + 1))), (0, .ref (a 0))]) hx hb dX12_keepAct_77 hl (k := 0) rfl (mI_ad rfl) (by decide) rfl (fun ls hl => ?_)
      refine lv_goto (tgt := 51) hx hb dX12_keepAct_80 (by decide) ?_
      exact ih_112 _ _ _ _ (by omega) ⟨(z_103 + 1), F_118, _, by omega, bF_118, rfl, hP, hS, lv_sub hl [0, 1] rfl, rfl⟩
  · skip
    intro J_48
    refine sy_icmp_ne (tgt := 49) hx hb dX12_keepAct_6 (by decide) (by omega) (by decide) (fun c_119 => ?_) (fun c_119 => ?_)
    · skip
      exact J_48 _ _ _ ⟨B_was, x_acts, _, b_B_was, by omega, g_A, by omega, hP, hS, lv_sub hl [0] rfl, rfl⟩
    · skip
      refine lv_iconst (v := mI 0) hx hb dX12_keepAct_9 rfl ?_
      refine lv_istore_n (lv' := [(1, .int (mI 0)), (0, .ref (a 0))]) hx hb dX12_keepAct_10 rfl hl (by decide) rfl (fun ls hl => ?_)
      refine sy_loop (I := fun n H locs g => ∃ (z_153 : Int) (F_154 : Nat → Int) (ls : Array Slot), (0 ≤ z_153 ∧ z_153 ≤ 4560) ∧ (bA F_154) ∧ (4560 - z_153).toNat = n ∧ va_P D vwCl (rW k a x_taped x_size x_faultKind x_faultPlace x_at x_end x_token x_number x_bank x_rb x_codes x_within x_piled x_unitsInRule x_askBeast x_askStroke x_askAge x_askSeason x_acts x_undone x_laid x_seens x_time x_fitting n_name B_tape B_text B_turns B_herds B_irons B_beasts B_units B_night B_draw B_told B_brands B_ironMarks B_herdTold B_born B_ruleFrom B_ruleTo B_code B_codeNumber B_eWhat B_eSign B_pile B_all B_burned F_154 B_need B_laidRow B_long8 B_brings B_sBurning B_sStroke B_sIs B_sTold B_sUntold B_parts B_boxAll B_isBoxed G_hName G_iName G_bName ex) H ∧ va_S A s.heap H locs ∧ lv_has ls 2 [(1, .int (mI z_153)), (0, .ref (a 0))] ∧ g = F0 m 11 ls []) ?_ _ ⟨0, B_was, _, by omega, b_B_was, rfl, hP, hS, lv_sub hl [0, 1] rfl, rfl⟩
      intro n_158 H locs g hI ih_159
      obtain ⟨z_153, F_154, ls, h11_0, bF_154, mn_158, hP, hS, hl, rfl⟩ := hI
      refine lv_iload_n hx hb dX12_keepAct_11 rfl (lv_at hl 0 rfl) ?_
      refine lv_sipush (v := mI 4560) hx hb dX12_keepAct_12 (by decide) ?_
      refine sy_icmp_ge (tgt := 39) hx hb dX12_keepAct_15 (by decide) (by omega) (by decide) (fun c_160 => ?_) (fun c_160 => ?_)
      · skip
        refine lv_aload_n hx hb dX12_keepAct_39 rfl (lv_at hl 1 rfl) ?_
        refine lv_dup hx hb dX12_keepAct_40 rfl ?_
        refine rg_o_acts hx hb hts hown hK hP uw_7_69 dX12_keepAct_41 ?_
        refine lv_iconst (v := mI 1) hx hb dX12_keepAct_44 rfl ?_
        refine sy_isub hx hb dX12_keepAct_45 (x_acts - 1) rfl ?_
        refine rp_o_acts hx hb hts hown hK hP hD hS uw_7_69 dX12_keepAct_46 (fun H locs hP hS => ?_)
        exact J_48 _ _ _ ⟨F_154, (x_acts - 1), _, bF_154, by omega, (by omega), by omega, hP, hS, lv_sub hl [1] rfl, rfl⟩
      · skip
        refine lv_aload_n hx hb dX12_keepAct_18 rfl (lv_at hl 1 rfl) ?_
        refine rg_o_was hx hb hts hown hK hP uw_7_68 dX12_keepAct_19 ?_
        refine lv_iload_n hx hb dX12_keepAct_22 rfl (lv_at hl 0 rfl) ?_
        refine lv_aload_n hx hb dX12_keepAct_23 rfl (lv_at hl 1 rfl) ?_
        refine rg_o_was hx hb hts hown hK hP uw_7_68 dX12_keepAct_24 ?_
        refine lv_iload_n hx hb dX12_keepAct_27 rfl (lv_at hl 0 rfl) ?_
        refine lv_bipush (v := mI 114) hx hb dX12_keepAct_28 (by decide) ?_
        refine sy_iadd hx hb dX12_keepAct_30 (z_153 + 114) rfl ?_
        refine rl_was hx hb hK hP dX12_keepAct_31 (by omega) (bA_bd bF_154) (fun z_161 ez_161 hz_161 => ?_)
        refine rs_was hx hb hK hP hD hS dX12_keepAct_32 (by omega) (bA_bd bF_154) (by omega) (fun F_162 H locs eF_162 bF_162 hP hS => ?_)
        have bF_162 := bA_cp bF_154 bF_154 eF_162 ez_161 (by omega) (by omega) (by omega)
        refine lv_iinc (v := mI (z_153 + 1)) (lv' := [(1, .int (mI (z_153 + 1))), (0, .ref (a 0))]) hx hb dX12_keepAct_33 hl (k := 0) rfl (mI_ad rfl) (by decide) rfl (fun ls hl => ?_)
        refine lv_goto (tgt := 11) hx hb dX12_keepAct_36 (by decide) ?_
        exact ih_159 _ _ _ _ (by omega) ⟨(z_153 + 1), F_162, _, by omega, bF_162, rfl, hP, hS, lv_sub hl [0, 1] rfl, rfl⟩
set_option maxHeartbeats 4000000 in
set_option maxRecDepth 100000 in
theorem kr_X12_swapAll (h_x_acts : 0 ≤ x_acts ∧ x_acts ≤ 40) (b_B_all : bA B_all) (b_B_was : bA B_was) : MetG l D k yX12_swapAll cX12_swapAll 3 none 0 [.ref (a 0)] (rW k a x_taped x_size x_faultKind x_faultPlace x_at x_end x_token x_number x_bank x_rb x_codes x_within x_piled x_unitsInRule x_askBeast x_askStroke x_askAge x_askSeason x_acts x_undone x_laid x_seens x_time x_fitting n_name B_tape B_text B_turns B_herds B_irons B_beasts B_units B_night B_draw B_told B_brands B_ironMarks B_herdTold B_born B_ruleFrom B_ruleTo B_code B_codeNumber B_eWhat B_eSign B_pile B_all B_burned B_was B_need B_laidRow B_long8 B_brings B_sBurning B_sStroke B_sIs B_sTold B_sUntold B_parts B_boxAll B_isBoxed G_hName G_iName G_bName ex) (qGv (fun H => ∃ (F_all : Nat → Int) (F_was : Nat → Int), (bA F_all) ∧ (bA F_was) ∧ va_P D vwCl (rW k a x_taped x_size x_faultKind x_faultPlace x_at x_end x_token x_number x_bank x_rb x_codes x_within x_piled x_unitsInRule x_askBeast x_askStroke x_askAge x_askSeason x_acts x_undone x_laid x_seens x_time x_fitting n_name B_tape B_text B_turns B_herds B_irons B_beasts B_units B_night B_draw B_told B_brands B_ironMarks B_herdTold B_born B_ruleFrom B_ruleTo B_code B_codeNumber B_eWhat B_eSign B_pile F_all B_burned F_was B_need B_laidRow B_long8 B_brings B_sBurning B_sStroke B_sIs B_sTold B_sUntold B_parts B_boxAll B_isBoxed G_hName G_iName G_bName ex) H)) := by
  refine metG_of 0 ck_X12_swapAll (Nat.le_of_ble_eq_true rfl) rMap (fun p e s m args below meth c A hx hb hml hr hlocks hown hts hK hD hA hP hS ls hl => ?_)
  have hown : s.vm.findClass "HideReaderModel" = some m.cls := hown
  have hl : lv_has ls 3 [(0, .ref (a 0))] := hl
  refine lv_iconst (v := mI 0) hx hb dX12_swapAll_0 rfl ?_
  refine lv_istore_n (lv' := [(1, .int (mI 0)), (0, .ref (a 0))]) hx hb dX12_swapAll_1 rfl hl (by decide) rfl (fun ls hl => ?_)
  refine sy_loop (I := fun n H locs g => ∃ (z_54 : Int) (F_55 : Nat → Int) (F_56 : Nat → Int) (ls : Array Slot), (0 ≤ z_54 ∧ z_54 ≤ 114) ∧ (bA F_55) ∧ (bA F_56) ∧ (114 - z_54).toNat = n ∧ va_P D vwCl (rW k a x_taped x_size x_faultKind x_faultPlace x_at x_end x_token x_number x_bank x_rb x_codes x_within x_piled x_unitsInRule x_askBeast x_askStroke x_askAge x_askSeason x_acts x_undone x_laid x_seens x_time x_fitting n_name B_tape B_text B_turns B_herds B_irons B_beasts B_units B_night B_draw B_told B_brands B_ironMarks B_herdTold B_born B_ruleFrom B_ruleTo B_code B_codeNumber B_eWhat B_eSign B_pile F_55 B_burned F_56 B_need B_laidRow B_long8 B_brings B_sBurning B_sStroke B_sIs B_sTold B_sUntold B_parts B_boxAll B_isBoxed G_hName G_iName G_bName ex) H ∧ va_S A s.heap H locs ∧ lv_has ls 3 [(1, .int (mI z_54)), (0, .ref (a 0))] ∧ g = F0 m 2 ls []) ?_ _ ⟨0, B_all, B_was, _, by omega, b_B_all, b_B_was, rfl, hP, hS, lv_sub hl [0, 1] rfl, rfl⟩
  intro n_62 H locs g hI ih_63
  obtain ⟨z_54, F_55, F_56, ls, h2_0, bF_55, bF_56, mn_62, hP, hS, hl, rfl⟩ := hI
  refine lv_iload_n hx hb dX12_swapAll_2 rfl (lv_at hl 0 rfl) ?_
  refine lv_bipush (v := mI 114) hx hb dX12_swapAll_3 (by decide) ?_
  refine sy_icmp_ge (tgt := 56) hx hb dX12_swapAll_5 (by decide) (by omega) (by decide) (fun c_64 => ?_) (fun c_64 => ?_)
  · skip
    exact r_v hx hb hr hlocks dX12_swapAll_56 hS ⟨F_55, F_56, bF_55, bF_56, hP⟩
  · skip
    refine lv_aload_n hx hb dX12_swapAll_8 rfl (lv_at hl 1 rfl) ?_
    refine rg_o_was hx hb hts hown hK hP uw_7_68 dX12_swapAll_9 ?_
    refine lv_bipush (v := mI 114) hx hb dX12_swapAll_12 (by decide) ?_
    refine lv_aload_n hx hb dX12_swapAll_14 rfl (lv_at hl 1 rfl) ?_
    refine rg_o_acts hx hb hts hown hK hP uw_7_69 dX12_swapAll_15 ?_
    refine sy_imul hx hb dX12_swapAll_18 (114 * x_acts) rfl ?_
    refine lv_iload_n hx hb dX12_swapAll_19 rfl (lv_at hl 0 rfl) ?_
    refine sy_iadd hx hb dX12_swapAll_20 (114 * x_acts + z_54) rfl ?_
    refine rl_was hx hb hK hP dX12_swapAll_21 (by omega) (bA_bd bF_56) (fun z_65 ez_65 hz_65 => ?_)
    refine lv_istore_n (lv' := [(2, .int (mI z_65)), (1, .int (mI z_54)), (0, .ref (a 0))]) hx hb dX12_swapAll_22 rfl hl (by decide) rfl (fun ls hl => ?_)
    refine lv_aload_n hx hb dX12_swapAll_23 rfl (lv_at hl 2 rfl) ?_
    refine rg_o_was hx hb hts hown hK hP uw_7_68 dX12_swapAll_24 ?_
    refine lv_bipush (v := mI 114) hx hb dX12_swapAll_27 (by decide) ?_
    refine lv_aload_n hx hb dX12_swapAll_29 rfl (lv_at hl 2 rfl) ?_
    refine rg_o_acts hx hb hts hown hK hP uw_7_69 dX12_swapAll_30 ?_
    refine sy_imul hx hb dX12_swapAll_33 (114 * x_acts) rfl ?_
    refine lv_iload_n hx hb dX12_swapAll_34 rfl (lv_at hl 1 rfl) ?_
    refine sy_iadd hx hb dX12_swapAll_35 (114 * x_acts + z_54) rfl ?_
    refine lv_aload_n hx hb dX12_swapAll_36 rfl (lv_at hl 2 rfl) ?_
    refine rg_o_all hx hb hts hown hK hP uw_7_66 dX12_swapAll_37 ?_
    refine lv_iload_n hx hb dX12_swapAll_40 rfl (lv_at hl 1 rfl) ?_
    refine rl_all hx hb hK hP dX12_swapAll_41 (by omega) (bA_bd bF_55) (fun z_66 ez_66 hz_66 => ?_)
    refine rs_was hx hb hK hP hD hS dX12_swapAll_42 (by omega) (bA_bd bF_56) (by omega) (fun F_67 H locs eF_67 bF_67 hP hS => ?_)
    have bF_67 := bA_cp bF_56 bF_55 eF_67 ez_66 (by omega) (by omega) (by omega)
    refine lv_aload_n hx hb dX12_swapAll_43 rfl (lv_at hl 2 rfl) ?_
    refine rg_o_all hx hb hts hown hK hP uw_7_66 dX12_swapAll_44 ?_
    refine lv_iload_n hx hb dX12_swapAll_47 rfl (lv_at hl 1 rfl) ?_
    refine lv_iload_n hx hb dX12_swapAll_48 rfl (lv_at hl 0 rfl) ?_
    refine rs_all hx hb hK hP hD hS dX12_swapAll_49 (by omega) (bA_bd bF_55) (by omega) (fun F_68 H locs eF_68 bF_68 hP hS => ?_)
    have bF_68 := bA_cp bF_55 bF_56 eF_68 ez_65 (by omega) (by omega) (by omega)
    refine lv_iinc (v := mI (z_54 + 1)) (lv' := [(1, .int (mI (z_54 + 1))), (2, .int (mI z_65)), (0, .ref (a 0))]) hx hb dX12_swapAll_50 hl (k := 1) rfl (mI_ad rfl) (by decide) rfl (fun ls hl => ?_)
    refine lv_goto (tgt := 2) hx hb dX12_swapAll_53 (by decide) ?_
    exact ih_63 _ _ _ _ (by omega) ⟨(z_54 + 1), F_68, F_67, _, by omega, bF_68, bF_67, rfl, hP, hS, lv_sub hl [0, 2] rfl, rfl⟩
set_option maxHeartbeats 4000000 in
set_option maxRecDepth 100000 in
theorem kr_X12_burnIn {p0 p1 : Int} (hp0 : 0 ≤ p0 ∧ p0 ≤ 7) (hp1 : 0 ≤ p1 ∧ p1 ≤ 4095) (b_B_all : bA B_all) : MetG l D k yX12_burnIn cX12_burnIn 5 (some .int) 1 [.ref (a 0), .int (mI p0), .int (mI p1)] (rW k a x_taped x_size x_faultKind x_faultPlace x_at x_end x_token x_number x_bank x_rb x_codes x_within x_piled x_unitsInRule x_askBeast x_askStroke x_askAge x_askSeason x_acts x_undone x_laid x_seens x_time x_fitting n_name B_tape B_text B_turns B_herds B_irons B_beasts B_units B_night B_draw B_told B_brands B_ironMarks B_herdTold B_born B_ruleFrom B_ruleTo B_code B_codeNumber B_eWhat B_eSign B_pile B_all B_burned B_was B_need B_laidRow B_long8 B_brings B_sBurning B_sStroke B_sIs B_sTold B_sUntold B_parts B_boxAll B_isBoxed G_hName G_iName G_bName ex) (qGi (fun r0 H => ∃ (F_all : Nat → Int), (-2147483648 ≤ r0 ∧ r0 ≤ 2147483647) ∧ (bA F_all) ∧ va_P D vwCl (rW k a x_taped x_size x_faultKind x_faultPlace x_at x_end x_token x_number x_bank x_rb x_codes x_within x_piled x_unitsInRule x_askBeast x_askStroke x_askAge x_askSeason x_acts x_undone x_laid x_seens x_time x_fitting n_name B_tape B_text B_turns B_herds B_irons B_beasts B_units B_night B_draw B_told B_brands B_ironMarks B_herdTold B_born B_ruleFrom B_ruleTo B_code B_codeNumber B_eWhat B_eSign B_pile F_all B_burned B_was B_need B_laidRow B_long8 B_brings B_sBurning B_sStroke B_sIs B_sTold B_sUntold B_parts B_boxAll B_isBoxed G_hName G_iName G_bName ex) H)) := by
  refine metG_of 2 ck_X12_burnIn (Nat.le_of_ble_eq_true rfl) rMap (fun p e s m args below meth c A hx hb hml hr hlocks hown hts hK hD hA hP hS ls hl => ?_)
  have hown : s.vm.findClass "HideReaderModel" = some m.cls := hown
  have hl : lv_has ls 5 [(0, .ref (a 0)), (1, .int (mI p0)), (2, .int (mI p1))] := hl
  refine lv_iload_n hx hb dX12_burnIn_0 rfl (lv_at hl 2 rfl) ?_
  refine lv_aload_n hx hb dX12_burnIn_1 rfl (lv_at hl 0 rfl) ?_
  refine rg_o_all hx hb hts hown hK hP uw_7_66 dX12_burnIn_2 ?_
  refine lv_iconst (v := mI 0) hx hb dX12_burnIn_5 rfl ?_
  refine lv_iload_n hx hb dX12_burnIn_6 rfl (lv_at hl 1 rfl) ?_
  refine sy_iadd hx hb dX12_burnIn_7 p0 (by omega) ?_
  refine rl_all hx hb hK hP dX12_burnIn_8 (by omega) (bA_bd b_B_all) (fun z_1 ez_1 hz_1 => ?_)
  have hz_1 := bA_hid b_B_all (by omega) ez_1
  refine lv_iconst (v := mI (-1)) hx hb dX12_burnIn_9 rfl ?_
  refine lv_ixor hx hb dX12_burnIn_10 ?_
  refine sy_any (fun z_2 hz_2 => ?_)
  refine sy_iandL hx hb dX12_burnIn_11 (by omega) (fun z_3 hz_3 => ?_)
  refine lv_istore_n (lv' := [(3, .int (mI z_3)), (0, .ref (a 0)), (1, .int (mI p0)), (2, .int (mI p1))]) hx hb dX12_burnIn_12 rfl hl (by decide) rfl (fun ls hl => ?_)
  refine lv_iconst (v := mI 0) hx hb dX12_burnIn_13 rfl ?_
  refine lv_istore (lv' := [(4, .int (mI 0)), (3, .int (mI z_3)), (0, .ref (a 0)), (1, .int (mI p0)), (2, .int (mI p1))]) hx hb dX12_burnIn_14 hl (by decide) rfl (fun ls hl => ?_)
  refine sy_loop (I := fun n H locs g => ∃ (z_166 : Int) (F_167 : Nat → Int) (ls : Array Slot), (0 ≤ z_166 ∧ z_166 ≤ 12) ∧ (bA F_167) ∧ (12 - z_166).toNat = n ∧ va_P D vwCl (rW k a x_taped x_size x_faultKind x_faultPlace x_at x_end x_token x_number x_bank x_rb x_codes x_within x_piled x_unitsInRule x_askBeast x_askStroke x_askAge x_askSeason x_acts x_undone x_laid x_seens x_time x_fitting n_name B_tape B_text B_turns B_herds B_irons B_beasts B_units B_night B_draw B_told B_brands B_ironMarks B_herdTold B_born B_ruleFrom B_ruleTo B_code B_codeNumber B_eWhat B_eSign B_pile F_167 B_burned B_was B_need B_laidRow B_long8 B_brings B_sBurning B_sStroke B_sIs B_sTold B_sUntold B_parts B_boxAll B_isBoxed G_hName G_iName G_bName ex) H ∧ va_S A s.heap H locs ∧ lv_has ls 5 [(4, .int (mI z_166)), (3, .int (mI z_3)), (0, .ref (a 0)), (1, .int (mI p0)), (2, .int (mI p1))] ∧ g = F0 m 16 ls []) ?_ _ ⟨0, B_all, _, by omega, b_B_all, rfl, hP, hS, lv_sub hl [0, 1, 2, 3, 4] rfl, rfl⟩
  intro n_190 H locs g hI ih_191
  obtain ⟨z_166, F_167, ls, h16_0, bF_167, mn_190, hP, hS, hl, rfl⟩ := hI
  refine lv_iload hx hb dX12_burnIn_16 (lv_at hl 0 rfl) ?_
  refine lv_bipush (v := mI 12) hx hb dX12_burnIn_18 (by decide) ?_
  refine sy_icmp_ge (tgt := 51) hx hb dX12_burnIn_20 (by decide) (by omega) (by decide) (fun c_201 => ?_) (fun c_201 => ?_)
  · skip
    refine lv_aload_n hx hb dX12_burnIn_51 rfl (lv_at hl 2 rfl) ?_
    refine rg_o_all hx hb hts hown hK hP uw_7_66 dX12_burnIn_52 ?_
    refine lv_iconst (v := mI 0) hx hb dX12_burnIn_55 rfl ?_
    refine lv_iload_n hx hb dX12_burnIn_56 rfl (lv_at hl 3 rfl) ?_
    refine sy_iadd hx hb dX12_burnIn_57 p0 (by omega) ?_
    refine lv_dup2_11 hx hb dX12_burnIn_58 rfl rfl ?_
    refine rl_all hx hb hK hP dX12_burnIn_59 (by omega) (bA_bd bF_167) (fun z_202 ez_202 hz_202 => ?_)
    have hz_202 := bA_hid bF_167 (by omega) ez_202
    refine lv_iload_n hx hb dX12_burnIn_60 rfl (lv_at hl 4 rfl) ?_
    refine sy_ior hx hb dX12_burnIn_61 12 (by decide) 4096 (by decide) (by omega) (by omega) (fun z_203 hz_203 => ?_)
    refine rs_all hx hb hK hP hD hS dX12_burnIn_62 (by omega) (bA_bd bF_167) (by omega) (fun F_204 H locs eF_204 bF_204 hP hS => ?_)
    have bF_204 := bA_s4095 bF_167 eF_204 (by omega) (by omega)
    refine lv_iload_n hx hb dX12_burnIn_63 rfl (lv_at hl 1 rfl) ?_
    refine g_i (rDt hD) hS hA (g_S (own := "HideReaderModel") (As := [.int (mI z_3)]) (rest := []) hx hb hml hown hts hK hP (rDt hD) (kr_X12_bitsOf (l := l) (D := D) (k := k) (by omega)) ck_X12_bitsOf uw_8_166 uw_8_165 rfl hl.1 rfl (Nat.le_of_ble_eq_true rfl) dX12_burnIn_64 ⟨Nat.le_of_ble_eq_true rfl, Nat.le_of_ble_eq_true rfl⟩ ⟨Nat.le_of_ble_eq_true rfl, Nat.le_of_ble_eq_true rfl⟩) (fun r_205 H locs hQ hS => ?_)
    obtain ⟨hr_205_0, hP⟩ := hQ
    exact r_i hx hb hr hlocks dX12_burnIn_67 hS ⟨F_204, by omega, bF_204, hP⟩
  · skip
    refine lv_iload_n hx hb dX12_burnIn_23 rfl (lv_at hl 1 rfl) ?_
    refine lv_iload hx hb dX12_burnIn_24 (lv_at hl 0 rfl) ?_
    refine g_i (rDt hD) hS hA (g_S (own := "HideReaderModel") (As := [.int (mI z_3), .int (mI z_166)]) (rest := []) hx hb hml hown hts hK hP (rDt hD) (kr_bit (l := l) (D := D) (k := k)) ck_X12_bit uw_6_229 uw_6_228 rfl hl.1 rfl (Nat.le_of_ble_eq_true rfl) dX12_burnIn_26 ⟨Nat.le_of_ble_eq_true rfl, Nat.le_of_ble_eq_true rfl⟩ ⟨Nat.le_of_ble_eq_true rfl, Nat.le_of_ble_eq_true rfl⟩) (fun r_206 H locs hQ hS => ?_)
    obtain ⟨hq_r_206, hP⟩ := hQ
    rcases hq_r_206 with ⟨rfl, c_207_0⟩ | ⟨rfl, c_208_0⟩
    · skip
      refine sy_if_eq (tgt := 45) hx hb dX12_burnIn_29 (by decide) (by decide) (fun c9 => absurd c9 (by decide)) (fun c_209 => ?_)
      refine lv_aload_n hx hb dX12_burnIn_32 rfl (lv_at hl 2 rfl) ?_
      refine rg_o_all hx hb hts hown hK hP uw_7_66 dX12_burnIn_33 ?_
      refine lv_aload_n hx hb dX12_burnIn_36 rfl (lv_at hl 2 rfl) ?_
      refine lv_iload_n hx hb dX12_burnIn_37 rfl (lv_at hl 3 rfl) ?_
      refine lv_iload hx hb dX12_burnIn_38 (lv_at hl 0 rfl) ?_
      refine g_i (rDt hD) hS hA (g_V (own := "HideReaderModel") (As := [.int (mI p0), .int (mI z_166)]) (rest := [.ref (a 25)]) hx hb hml hown hts hK hP (rDt hD) (kr_X12_slot (l := l) (D := D) (k := k) (by omega) (by omega)) ck_X12_slot iv_X12_slot uw_6_224 (rv_o hK hP) rfl hl.1 rfl (Nat.le_of_ble_eq_true rfl) dX12_burnIn_40 ⟨Nat.le_of_ble_eq_true rfl, Nat.le_of_ble_eq_true rfl⟩ ⟨Nat.le_of_ble_eq_true rfl, Nat.le_of_ble_eq_true rfl⟩) (fun r_210 H locs hQ hS => ?_)
      obtain ⟨hq_r_210, hP⟩ := hQ
      obtain rfl := hq_r_210
      refine lv_iconst (v := mI 0) hx hb dX12_burnIn_43 rfl ?_
      refine rs_all hx hb hK hP hD hS dX12_burnIn_44 (by omega) (bA_bd bF_167) (by omega) (fun F_212 H locs eF_212 bF_212 hP hS => ?_)
      have bF_212 := bA_s7 bF_167 eF_212 (by omega)
      refine lv_iinc (v := mI (z_166 + 1)) (lv' := [(4, .int (mI (z_166 + 1))), (3, .int (mI z_3)), (0, .ref (a 0)), (1, .int (mI p0)), (2, .int (mI p1))]) hx hb dX12_burnIn_45 hl (k := 0) rfl (mI_ad rfl) (by decide) rfl (fun ls hl => ?_)
      refine lv_goto (tgt := 16) hx hb dX12_burnIn_48 (by decide) ?_
      exact ih_191 _ _ _ _ (by omega) ⟨(z_166 + 1), F_212, _, by omega, bF_212, rfl, hP, hS, lv_sub hl [0, 1, 2, 3, 4] rfl, rfl⟩
    · skip
      refine sy_if_eq (tgt := 45) hx hb dX12_burnIn_29 (by decide) (by decide) (fun c_213 => ?_) (fun c9 => absurd c9 (by decide))
      refine lv_iinc (v := mI (z_166 + 1)) (lv' := [(4, .int (mI (z_166 + 1))), (3, .int (mI z_3)), (0, .ref (a 0)), (1, .int (mI p0)), (2, .int (mI p1))]) hx hb dX12_burnIn_45 hl (k := 0) rfl (mI_ad rfl) (by decide) rfl (fun ls hl => ?_)
      refine lv_goto (tgt := 16) hx hb dX12_burnIn_48 (by decide) ?_
      exact ih_191 _ _ _ _ (by omega) ⟨(z_166 + 1), F_167, _, by omega, bF_167, rfl, hP, hS, lv_sub hl [0, 1, 2, 3, 4] rfl, rfl⟩
set_option maxHeartbeats 4000000 in
set_option maxRecDepth 100000 in
theorem kr_X12_burn {p0 p1 p2 : Int} (hp0 : -2147483648 ≤ p0 ∧ p0 ≤ 2147483647) (hp1 : -2147483648 ≤ p1 ∧ p1 ≤ 2147483647) (hp2 : -2147483648 ≤ p2 ∧ p2 ≤ 2147483647) (h_x_bank : 0 ≤ x_bank ∧ x_bank ≤ 1) (h_x_acts : 0 ≤ x_acts ∧ x_acts ≤ 40) (h_x_undone : 0 ≤ x_undone ∧ x_undone ≤ 40) (b_B_turns : bd (0) 4 B_turns) (b_B_irons : bd (0) 6 B_irons) (b_B_beasts : bd (0) 8 B_beasts) (b_B_told : bd (0) 31 B_told) (b_B_all : bA B_all) (b_B_burned : bd (0) 4095 B_burned) (b_B_was : bA B_was) (g_A : 0 ≤ 40 - x_acts - x_undone) (g_R : 1 ≤ B_turns x_bank.toNat ∧ ¬ B_turns x_bank.toNat = 3) : MetG l D k yX12_burn cX12_burn 4 (some .int) 2 [.ref (a 0), .int (mI p0), .int (mI p1), .int (mI p2)] (rW k a x_taped x_size x_faultKind x_faultPlace x_at x_end x_token x_number x_bank x_rb x_codes x_within x_piled x_unitsInRule x_askBeast x_askStroke x_askAge x_askSeason x_acts x_undone x_laid x_seens x_time x_fitting n_name B_tape B_text B_turns B_herds B_irons B_beasts B_units B_night B_draw B_told B_brands B_ironMarks B_herdTold B_born B_ruleFrom B_ruleTo B_code B_codeNumber B_eWhat B_eSign B_pile B_all B_burned B_was B_need B_laidRow B_long8 B_brings B_sBurning B_sStroke B_sIs B_sTold B_sUntold B_parts B_boxAll B_isBoxed G_hName G_iName G_bName ex) (qGi (fun r0 H => ∃ (F_all : Nat → Int) (F_was : Nat → Int) (y_acts : Int) (y_undone : Int), (-2147483648 ≤ r0 ∧ r0 ≤ 2147483647) ∧ (bA F_all) ∧ (bA F_was) ∧ (0 ≤ y_acts ∧ y_acts ≤ 40) ∧ (0 ≤ y_undone ∧ y_undone ≤ 40) ∧ (0 ≤ -y_undone + x_undone) ∧ (0 ≤ 40 - y_acts - y_undone) ∧ va_P D vwCl (rW k a x_taped x_size x_faultKind x_faultPlace x_at x_end x_token x_number x_bank x_rb x_codes x_within x_piled x_unitsInRule x_askBeast x_askStroke x_askAge x_askSeason y_acts y_undone x_laid x_seens x_time x_fitting n_name B_tape B_text B_turns B_herds B_irons B_beasts B_units B_night B_draw B_told B_brands B_ironMarks B_herdTold B_born B_ruleFrom B_ruleTo B_code B_codeNumber B_eWhat B_eSign B_pile F_all B_burned F_was B_need B_laidRow B_long8 B_brings B_sBurning B_sStroke B_sIs B_sTold B_sUntold B_parts B_boxAll B_isBoxed G_hName G_iName G_bName ex) H)) := by
  refine metG_of 3 ck_X12_burn (Nat.le_of_ble_eq_true rfl) rMap (fun p e s m args below meth c A hx hb hml hr hlocks hown hts hK hD hA hP hS ls hl => ?_)
  have hown : s.vm.findClass "HideReaderModel" = some m.cls := hown
  have hl : lv_has ls 4 [(0, .ref (a 0)), (1, .int (mI p0)), (2, .int (mI p1)), (3, .int (mI p2))] := hl
  refine lv_aload_n hx hb dX12_burn_0 rfl (lv_at hl 0 rfl) ?_
  refine lv_iload_n hx hb dX12_burn_1 rfl (lv_at hl 1 rfl) ?_
  refine g_i (rDt hD) hS hA (g_V (own := "HideReaderModel") (As := [.int (mI p0)]) (rest := []) hx hb hml hown hts hK hP (rDt hD) (kr_X12_isBeast (l := l) (D := D) (k := k) (by omega) h_x_bank b_B_beasts) ck_X12_isBeast iv_X12_isBeast uw_8_145 (rv_o hK hP) rfl hl.1 rfl (Nat.le_of_ble_eq_true rfl) dX12_burn_2 ⟨Nat.le_of_ble_eq_true rfl, Nat.le_of_ble_eq_true rfl⟩ ⟨Nat.le_of_ble_eq_true rfl, Nat.le_of_ble_eq_true rfl⟩) (fun r_1 H locs hQ hS => ?_)
  obtain ⟨hq_r_1, hP⟩ := hQ
  rcases hq_r_1 with rfl | ⟨rfl, c_3_0⟩
  · skip
    refine sy_if_eq (tgt := 30) hx hb dX12_burn_5 (by decide) (by decide) (fun c_4 => ?_) (fun c9 => absurd c9 (by decide))
    refine lv_iconst (v := mI (-1)) hx hb dX12_burn_30 rfl ?_
    exact r_i hx hb hr hlocks dX12_burn_31 hS ⟨B_all, B_was, x_acts, x_undone, by omega, b_B_all, b_B_was, by omega, by omega, by omega, g_A, hP⟩
  · skip
    refine sy_if_eq (tgt := 30) hx hb dX12_burn_5 (by decide) (by decide) (fun c9 => absurd c9 (by decide)) (fun c_5 => ?_)
    refine lv_aload_n hx hb dX12_burn_8 rfl (lv_at hl 0 rfl) ?_
    refine lv_iload_n hx hb dX12_burn_9 rfl (lv_at hl 2 rfl) ?_
    refine g_i (rDt hD) hS hA (g_V (own := "HideReaderModel") (As := [.int (mI p1)]) (rest := []) hx hb hml hown hts hK hP (rDt hD) (kr_X12_isIron (l := l) (D := D) (k := k) (by omega) h_x_bank b_B_irons) ck_X12_isIron iv_X12_isIron uw_8_137 (rv_o hK hP) rfl hl.1 rfl (Nat.le_of_ble_eq_true rfl) dX12_burn_10 ⟨Nat.le_of_ble_eq_true rfl, Nat.le_of_ble_eq_true rfl⟩ ⟨Nat.le_of_ble_eq_true rfl, Nat.le_of_ble_eq_true rfl⟩) (fun r_6 H locs hQ hS => ?_)
    obtain ⟨hq_r_6, hP⟩ := hQ
    rcases hq_r_6 with rfl | ⟨rfl, c_8_0⟩
    · skip
      refine sy_if_eq (tgt := 30) hx hb dX12_burn_13 (by decide) (by decide) (fun c_9 => ?_) (fun c9 => absurd c9 (by decide))
      refine lv_iconst (v := mI (-1)) hx hb dX12_burn_30 rfl ?_
      exact r_i hx hb hr hlocks dX12_burn_31 hS ⟨B_all, B_was, x_acts, x_undone, by omega, b_B_all, b_B_was, by omega, by omega, by omega, g_A, hP⟩
    · skip
      refine sy_if_eq (tgt := 30) hx hb dX12_burn_13 (by decide) (by decide) (fun c9 => absurd c9 (by decide)) (fun c_10 => ?_)
      refine lv_iload_n hx hb dX12_burn_16 rfl (lv_at hl 3 rfl) ?_
      refine lv_iconst (v := mI 0) hx hb dX12_burn_17 rfl ?_
      refine lv_aload_n hx hb dX12_burn_18 rfl (lv_at hl 0 rfl) ?_
      refine g_i (rDt hD) hS hA (g_V (own := "HideReaderModel") (As := []) (rest := [.int (mI 0), .int (mI p2)]) hx hb hml hown hts hK hP (rDt hD) (kr_X12_placements (l := l) (D := D) (k := k) h_x_bank b_B_turns b_B_told g_R) ck_X12_placements iv_X12_placements uw_6_239 (rv_o hK hP) rfl hl.1 rfl (Nat.le_of_ble_eq_true rfl) dX12_burn_19 ⟨Nat.le_of_ble_eq_true rfl, Nat.le_of_ble_eq_true rfl⟩ ⟨Nat.le_of_ble_eq_true rfl, Nat.le_of_ble_eq_true rfl⟩) (fun r_11 H locs hQ hS => ?_)
      obtain ⟨hr_11_0, hr_11_1, hP⟩ := hQ
      refine lv_iconst (v := mI 1) hx hb dX12_burn_22 rfl ?_
      refine sy_isub hx hb dX12_burn_23 (r_11 - 1) rfl ?_
      refine g_i (rDt hD) hS hA (g_S (own := "HideReaderModel") (As := [.int (mI p2), .int (mI 0), .int (mI (r_11 - 1))]) (rest := []) hx hb hml hown hts hK hP (rDt hD) (kr_X12_isIn (l := l) (D := D) (k := k) (by omega) (by decide) (by omega)) ck_X12_isIn uw_8_131 uw_8_130 rfl hl.1 rfl (Nat.le_of_ble_eq_true rfl) dX12_burn_24 ⟨Nat.le_of_ble_eq_true rfl, Nat.le_of_ble_eq_true rfl⟩ ⟨Nat.le_of_ble_eq_true rfl, Nat.le_of_ble_eq_true rfl⟩) (fun r_12 H locs hQ hS => ?_)
      obtain ⟨hq_r_12, hP⟩ := hQ
      rcases hq_r_12 with ⟨rfl, c_13_0⟩ | ⟨rfl, c_14_0, c_14_1⟩
      · skip
        refine sy_if_ne (tgt := 32) hx hb dX12_burn_27 (by decide) (by decide) (fun c9 => absurd c9 (by decide)) (fun c_15 => ?_)
        refine lv_iconst (v := mI (-1)) hx hb dX12_burn_30 rfl ?_
        exact r_i hx hb hr hlocks dX12_burn_31 hS ⟨B_all, B_was, x_acts, x_undone, by omega, b_B_all, b_B_was, by omega, by omega, by omega, g_A, hP⟩
      · skip
        refine sy_if_ne (tgt := 32) hx hb dX12_burn_27 (by decide) (by decide) (fun c_16 => ?_) (fun c9 => absurd c9 (by decide))
        refine lv_aload_n hx hb dX12_burn_32 rfl (lv_at hl 0 rfl) ?_
        refine g_v (rDt hD) hS hA (g_V (own := "HideReaderModel") (As := []) (rest := []) hx hb hml hown hts hK hP (rDt hD) (kr_X12_keepAct (l := l) (D := D) (k := k) h_x_acts h_x_undone b_B_all b_B_was g_A) ck_X12_keepAct iv_X12_keepAct uw_8_238 (rv_o hK hP) rfl hl.1 rfl (Nat.le_of_ble_eq_true rfl) dX12_burn_33 ⟨Nat.le_of_ble_eq_true rfl, Nat.le_of_ble_eq_true rfl⟩ ⟨Nat.le_of_ble_eq_true rfl, Nat.le_of_ble_eq_true rfl⟩) (fun H locs hQ hS => ?_)
        obtain ⟨F_18, y_19, y_20, bF_18, hr_17_1, hr_17_2, hr_17_3, kr_17_A, hP⟩ := hQ
        refine lv_aload_n hx hb dX12_burn_36 rfl (lv_at hl 0 rfl) ?_
        refine lv_iload_n hx hb dX12_burn_37 rfl (lv_at hl 1 rfl) ?_
        refine lv_aload_n hx hb dX12_burn_38 rfl (lv_at hl 0 rfl) ?_
        refine rg_o_burned hx hb hts hown hK hP uw_7_67 dX12_burn_39 ?_
        refine lv_iload_n hx hb dX12_burn_42 rfl (lv_at hl 2 rfl) ?_
        refine lv_aload_n hx hb dX12_burn_43 rfl (lv_at hl 0 rfl) ?_
        refine g_i (rDt hD) hS hA (g_V (own := "HideReaderModel") (As := []) (rest := [.int (mI p1), .ref (a 26), .int (mI p0), .ref (a 0)]) hx hb hml hown hts hK hP (rDt hD) (kr_X12_placements (l := l) (D := D) (k := k) h_x_bank b_B_turns b_B_told g_R) ck_X12_placements iv_X12_placements uw_6_239 (rv_o hK hP) rfl hl.1 rfl (Nat.le_of_ble_eq_true rfl) dX12_burn_44 ⟨Nat.le_of_ble_eq_true rfl, Nat.le_of_ble_eq_true rfl⟩ ⟨Nat.le_of_ble_eq_true rfl, Nat.le_of_ble_eq_true rfl⟩) (fun r_21 H locs hQ hS => ?_)
        obtain ⟨hr_21_0, hr_21_1, hP⟩ := hQ
        refine sy_imulB (A := 5) (B := 8) hx hb dX12_burn_47 40 (by decide) (by omega) (by omega) (fun z_22 ez_22 hz_22 => ?_)
        refine lv_iload_n hx hb dX12_burn_48 rfl (lv_at hl 3 rfl) ?_
        refine sy_iadd hx hb dX12_burn_49 (z_22 + p2) rfl ?_
        refine rl_burned hx hb hK hP dX12_burn_50 (by omega) b_B_burned (fun z_23 _ hz_23 => ?_)
        refine g_i (rDt hD) hS hA (g_V (own := "HideReaderModel") (As := [.int (mI p0), .int (mI z_23)]) (rest := []) hx hb hml hown hts hK hP (rDt hD) (kr_X12_burnIn (l := l) (D := D) (k := k) (by omega) (by omega) b_B_all) ck_X12_burnIn iv_X12_burnIn uw_9_2 (rv_o hK hP) rfl hl.1 rfl (Nat.le_of_ble_eq_true rfl) dX12_burn_51 ⟨Nat.le_of_ble_eq_true rfl, Nat.le_of_ble_eq_true rfl⟩ ⟨Nat.le_of_ble_eq_true rfl, Nat.le_of_ble_eq_true rfl⟩) (fun r_24 H locs hQ hS => ?_)
        obtain ⟨F_25, hr_24_0, bF_25, hP⟩ := hQ
        exact r_i hx hb hr hlocks dX12_burn_54 hS ⟨F_25, F_18, y_19, y_20, by omega, bF_25, bF_18, by omega, by omega, by omega, kr_17_A, hP⟩
set_option maxHeartbeats 4000000 in
set_option maxRecDepth 100000 in
theorem kr_X12_sell {p0 p1 : Int} (hp0 : -2147483648 ≤ p0 ∧ p0 ≤ 2147483647) (hp1 : -2147483648 ≤ p1 ∧ p1 ≤ 2147483647) (h_x_bank : 0 ≤ x_bank ∧ x_bank ≤ 1) (h_x_acts : 0 ≤ x_acts ∧ x_acts ≤ 40) (h_x_undone : 0 ≤ x_undone ∧ x_undone ≤ 40) (b_B_herds : bd (0) 8 B_herds) (b_B_beasts : bd (0) 8 B_beasts) (b_B_all : bA B_all) (b_B_was : bA B_was) (g_A : 0 ≤ 40 - x_acts - x_undone) : MetG l D k yX12_sell cX12_sell 4 (some .int) 2 [.ref (a 0), .int (mI p0), .int (mI p1)] (rW k a x_taped x_size x_faultKind x_faultPlace x_at x_end x_token x_number x_bank x_rb x_codes x_within x_piled x_unitsInRule x_askBeast x_askStroke x_askAge x_askSeason x_acts x_undone x_laid x_seens x_time x_fitting n_name B_tape B_text B_turns B_herds B_irons B_beasts B_units B_night B_draw B_told B_brands B_ironMarks B_herdTold B_born B_ruleFrom B_ruleTo B_code B_codeNumber B_eWhat B_eSign B_pile B_all B_burned B_was B_need B_laidRow B_long8 B_brings B_sBurning B_sStroke B_sIs B_sTold B_sUntold B_parts B_boxAll B_isBoxed G_hName G_iName G_bName ex) (qGi (fun r0 H => ∃ (F_all : Nat → Int) (F_was : Nat → Int) (y_acts : Int) (y_undone : Int), (-1 ≤ r0 ∧ r0 ≤ 7) ∧ (bA F_all) ∧ (bA F_was) ∧ (0 ≤ y_acts ∧ y_acts ≤ 40) ∧ (0 ≤ y_undone ∧ y_undone ≤ 40) ∧ (0 ≤ -y_undone + x_undone) ∧ (0 ≤ 40 - y_acts - y_undone) ∧ va_P D vwCl (rW k a x_taped x_size x_faultKind x_faultPlace x_at x_end x_token x_number x_bank x_rb x_codes x_within x_piled x_unitsInRule x_askBeast x_askStroke x_askAge x_askSeason y_acts y_undone x_laid x_seens x_time x_fitting n_name B_tape B_text B_turns B_herds B_irons B_beasts B_units B_night B_draw B_told B_brands B_ironMarks B_herdTold B_born B_ruleFrom B_ruleTo B_code B_codeNumber B_eWhat B_eSign B_pile F_all B_burned F_was B_need B_laidRow B_long8 B_brings B_sBurning B_sStroke B_sIs B_sTold B_sUntold B_parts B_boxAll B_isBoxed G_hName G_iName G_bName ex) H)) := by
  refine metG_of 2 ck_X12_sell (Nat.le_of_ble_eq_true rfl) rMap (fun p e s m args below meth c A hx hb hml hr hlocks hown hts hK hD hA hP hS ls hl => ?_)
  have hown : s.vm.findClass "HideReaderModel" = some m.cls := hown
  have hl : lv_has ls 4 [(0, .ref (a 0)), (1, .int (mI p0)), (2, .int (mI p1))] := hl
  refine lv_aload_n hx hb dX12_sell_0 rfl (lv_at hl 0 rfl) ?_
  refine lv_iload_n hx hb dX12_sell_1 rfl (lv_at hl 1 rfl) ?_
  refine g_i (rDt hD) hS hA (g_V (own := "HideReaderModel") (As := [.int (mI p0)]) (rest := []) hx hb hml hown hts hK hP (rDt hD) (kr_X12_isBeast (l := l) (D := D) (k := k) (by omega) h_x_bank b_B_beasts) ck_X12_isBeast iv_X12_isBeast uw_8_145 (rv_o hK hP) rfl hl.1 rfl (Nat.le_of_ble_eq_true rfl) dX12_sell_2 ⟨Nat.le_of_ble_eq_true rfl, Nat.le_of_ble_eq_true rfl⟩ ⟨Nat.le_of_ble_eq_true rfl, Nat.le_of_ble_eq_true rfl⟩) (fun r_1 H locs hQ hS => ?_)
  obtain ⟨hq_r_1, hP⟩ := hQ
  rcases hq_r_1 with rfl | ⟨rfl, c_3_0⟩
  · skip
    refine sy_if_eq (tgt := 29) hx hb dX12_sell_5 (by decide) (by decide) (fun c_4 => ?_) (fun c9 => absurd c9 (by decide))
    refine lv_iconst (v := mI (-1)) hx hb dX12_sell_29 rfl ?_
    exact r_i hx hb hr hlocks dX12_sell_30 hS ⟨B_all, B_was, x_acts, x_undone, by omega, b_B_all, b_B_was, by omega, by omega, by omega, g_A, hP⟩
  · skip
    refine sy_if_eq (tgt := 29) hx hb dX12_sell_5 (by decide) (by decide) (fun c9 => absurd c9 (by decide)) (fun c_5 => ?_)
    refine lv_aload_n hx hb dX12_sell_8 rfl (lv_at hl 0 rfl) ?_
    refine lv_iload_n hx hb dX12_sell_9 rfl (lv_at hl 2 rfl) ?_
    refine g_i (rDt hD) hS hA (g_V (own := "HideReaderModel") (As := [.int (mI p1)]) (rest := []) hx hb hml hown hts hK hP (rDt hD) (kr_X12_isHerd (l := l) (D := D) (k := k) (by omega) h_x_bank b_B_herds) ck_X12_isHerd iv_X12_isHerd uw_8_122 (rv_o hK hP) rfl hl.1 rfl (Nat.le_of_ble_eq_true rfl) dX12_sell_10 ⟨Nat.le_of_ble_eq_true rfl, Nat.le_of_ble_eq_true rfl⟩ ⟨Nat.le_of_ble_eq_true rfl, Nat.le_of_ble_eq_true rfl⟩) (fun r_6 H locs hQ hS => ?_)
    obtain ⟨hq_r_6, hP⟩ := hQ
    rcases hq_r_6 with rfl | ⟨rfl, c_8_0⟩
    · skip
      refine sy_if_eq (tgt := 29) hx hb dX12_sell_13 (by decide) (by decide) (fun c_9 => ?_) (fun c9 => absurd c9 (by decide))
      refine lv_iconst (v := mI (-1)) hx hb dX12_sell_29 rfl ?_
      exact r_i hx hb hr hlocks dX12_sell_30 hS ⟨B_all, B_was, x_acts, x_undone, by omega, b_B_all, b_B_was, by omega, by omega, by omega, g_A, hP⟩
    · skip
      refine sy_if_eq (tgt := 29) hx hb dX12_sell_13 (by decide) (by decide) (fun c9 => absurd c9 (by decide)) (fun c_10 => ?_)
      refine lv_aload_n hx hb dX12_sell_16 rfl (lv_at hl 0 rfl) ?_
      refine rg_o_all hx hb hts hown hK hP uw_7_66 dX12_sell_17 ?_
      refine lv_bipush (v := mI 8) hx hb dX12_sell_20 (by decide) ?_
      refine lv_iload_n hx hb dX12_sell_22 rfl (lv_at hl 1 rfl) ?_
      refine sy_iadd hx hb dX12_sell_23 (p0 + 8) (by omega) ?_
      refine rl_all hx hb hK hP dX12_sell_24 (by omega) (bA_bd b_B_all) (fun z_11 ez_11 hz_11 => ?_)
      have hz_11 := bA_own b_B_all (by omega) ez_11
      refine lv_iload_n hx hb dX12_sell_25 rfl (lv_at hl 2 rfl) ?_
      refine sy_icmp_ne (tgt := 31) hx hb dX12_sell_26 (by decide) (by omega) (by omega) (fun c_12 => ?_) (fun c_12 => ?_)
      · skip
        refine lv_aload_n hx hb dX12_sell_31 rfl (lv_at hl 0 rfl) ?_
        refine g_v (rDt hD) hS hA (g_V (own := "HideReaderModel") (As := []) (rest := []) hx hb hml hown hts hK hP (rDt hD) (kr_X12_keepAct (l := l) (D := D) (k := k) h_x_acts h_x_undone b_B_all b_B_was g_A) ck_X12_keepAct iv_X12_keepAct uw_8_238 (rv_o hK hP) rfl hl.1 rfl (Nat.le_of_ble_eq_true rfl) dX12_sell_32 ⟨Nat.le_of_ble_eq_true rfl, Nat.le_of_ble_eq_true rfl⟩ ⟨Nat.le_of_ble_eq_true rfl, Nat.le_of_ble_eq_true rfl⟩) (fun H locs hQ hS => ?_)
        obtain ⟨F_14, y_15, y_16, bF_14, hr_13_1, hr_13_2, hr_13_3, kr_13_A, hP⟩ := hQ
        refine lv_aload_n hx hb dX12_sell_35 rfl (lv_at hl 0 rfl) ?_
        refine rg_o_all hx hb hts hown hK hP uw_7_66 dX12_sell_36 ?_
        refine lv_bipush (v := mI 8) hx hb dX12_sell_39 (by decide) ?_
        refine lv_iload_n hx hb dX12_sell_41 rfl (lv_at hl 1 rfl) ?_
        refine sy_iadd hx hb dX12_sell_42 (p0 + 8) (by omega) ?_
        refine rl_all hx hb hK hP dX12_sell_43 (by omega) (bA_bd b_B_all) (fun z_17 ez_17 hz_17 => ?_)
        have hz_17 := bA_own b_B_all (by omega) ez_17
        refine lv_istore_n (lv' := [(3, .int (mI z_17)), (0, .ref (a 0)), (1, .int (mI p0)), (2, .int (mI p1))]) hx hb dX12_sell_44 rfl hl (by decide) rfl (fun ls hl => ?_)
        refine lv_aload_n hx hb dX12_sell_45 rfl (lv_at hl 1 rfl) ?_
        refine rg_o_all hx hb hts hown hK hP uw_7_66 dX12_sell_46 ?_
        refine lv_bipush (v := mI 8) hx hb dX12_sell_49 (by decide) ?_
        refine lv_iload_n hx hb dX12_sell_51 rfl (lv_at hl 2 rfl) ?_
        refine sy_iadd hx hb dX12_sell_52 (p0 + 8) (by omega) ?_
        refine lv_iload_n hx hb dX12_sell_53 rfl (lv_at hl 3 rfl) ?_
        refine rs_all hx hb hK hP hD hS dX12_sell_54 (by omega) (bA_bd b_B_all) (by omega) (fun F_18 H locs eF_18 bF_18 hP hS => ?_)
        have bF_18 := bA_s7 b_B_all eF_18 (by omega)
        refine lv_iload_n hx hb dX12_sell_55 rfl (lv_at hl 0 rfl) ?_
        exact r_i hx hb hr hlocks dX12_sell_56 hS ⟨F_18, F_14, y_15, y_16, by omega, bF_18, bF_14, by omega, by omega, by omega, kr_13_A, hP⟩
      · skip
        refine lv_iconst (v := mI (-1)) hx hb dX12_sell_29 rfl ?_
        exact r_i hx hb hr hlocks dX12_sell_30 hS ⟨B_all, B_was, x_acts, x_undone, by omega, b_B_all, b_B_was, by omega, by omega, by omega, g_A, hP⟩
set_option maxHeartbeats 4000000 in
set_option maxRecDepth 100000 in
theorem kr_X12_clean {p0 : Int} (hp0 : -2147483648 ≤ p0 ∧ p0 ≤ 2147483647) (h_x_bank : 0 ≤ x_bank ∧ x_bank ≤ 1) (h_x_acts : 0 ≤ x_acts ∧ x_acts ≤ 40) (h_x_undone : 0 ≤ x_undone ∧ x_undone ≤ 40) (b_B_beasts : bd (0) 8 B_beasts) (b_B_brands : bd (0) 4095 B_brands) (b_B_herdTold : bd (0) 7 B_herdTold) (b_B_all : bA B_all) (b_B_was : bA B_was) (g_A : 0 ≤ 40 - x_acts - x_undone) : MetG l D k yX12_clean cX12_clean 5 (some .int) 2 [.ref (a 0), .int (mI p0)] (rW k a x_taped x_size x_faultKind x_faultPlace x_at x_end x_token x_number x_bank x_rb x_codes x_within x_piled x_unitsInRule x_askBeast x_askStroke x_askAge x_askSeason x_acts x_undone x_laid x_seens x_time x_fitting n_name B_tape B_text B_turns B_herds B_irons B_beasts B_units B_night B_draw B_told B_brands B_ironMarks B_herdTold B_born B_ruleFrom B_ruleTo B_code B_codeNumber B_eWhat B_eSign B_pile B_all B_burned B_was B_need B_laidRow B_long8 B_brings B_sBurning B_sStroke B_sIs B_sTold B_sUntold B_parts B_boxAll B_isBoxed G_hName G_iName G_bName ex) (qGi (fun r0 H => ∃ (F_all : Nat → Int) (F_was : Nat → Int) (y_acts : Int) (y_undone : Int), (-2147483648 ≤ r0 ∧ r0 ≤ 2147483647) ∧ (bA F_all) ∧ (bA F_was) ∧ (0 ≤ y_acts ∧ y_acts ≤ 40) ∧ (0 ≤ y_undone ∧ y_undone ≤ 40) ∧ (0 ≤ -y_undone + x_undone) ∧ (0 ≤ 40 - y_acts - y_undone) ∧ va_P D vwCl (rW k a x_taped x_size x_faultKind x_faultPlace x_at x_end x_token x_number x_bank x_rb x_codes x_within x_piled x_unitsInRule x_askBeast x_askStroke x_askAge x_askSeason y_acts y_undone x_laid x_seens x_time x_fitting n_name B_tape B_text B_turns B_herds B_irons B_beasts B_units B_night B_draw B_told B_brands B_ironMarks B_herdTold B_born B_ruleFrom B_ruleTo B_code B_codeNumber B_eWhat B_eSign B_pile F_all B_burned F_was B_need B_laidRow B_long8 B_brings B_sBurning B_sStroke B_sIs B_sTold B_sUntold B_parts B_boxAll B_isBoxed G_hName G_iName G_bName ex) H)) := by
  refine metG_of 1 ck_X12_clean (Nat.le_of_ble_eq_true rfl) rMap (fun p e s m args below meth c A hx hb hml hr hlocks hown hts hK hD hA hP hS ls hl => ?_)
  have hown : s.vm.findClass "HideReaderModel" = some m.cls := hown
  have hl : lv_has ls 5 [(0, .ref (a 0)), (1, .int (mI p0))] := hl
  refine lv_aload_n hx hb dX12_clean_0 rfl (lv_at hl 0 rfl) ?_
  refine lv_iload_n hx hb dX12_clean_1 rfl (lv_at hl 1 rfl) ?_
  refine g_i (rDt hD) hS hA (g_V (own := "HideReaderModel") (As := [.int (mI p0)]) (rest := []) hx hb hml hown hts hK hP (rDt hD) (kr_X12_isBeast (l := l) (D := D) (k := k) (by omega) h_x_bank b_B_beasts) ck_X12_isBeast iv_X12_isBeast uw_8_145 (rv_o hK hP) rfl hl.1 rfl (Nat.le_of_ble_eq_true rfl) dX12_clean_2 ⟨Nat.le_of_ble_eq_true rfl, Nat.le_of_ble_eq_true rfl⟩ ⟨Nat.le_of_ble_eq_true rfl, Nat.le_of_ble_eq_true rfl⟩) (fun r_1 H locs hQ hS => ?_)
  obtain ⟨hq_r_1, hP⟩ := hQ
  rcases hq_r_1 with rfl | ⟨rfl, c_3_0⟩
  · skip
    refine sy_if_ne (tgt := 10) hx hb dX12_clean_5 (by decide) (by decide) (fun c9 => absurd c9 (by decide)) (fun c_4 => ?_)
    refine lv_iconst (v := mI (-1)) hx hb dX12_clean_8 rfl ?_
    exact r_i hx hb hr hlocks dX12_clean_9 hS ⟨B_all, B_was, x_acts, x_undone, by omega, b_B_all, b_B_was, by omega, by omega, by omega, g_A, hP⟩
  · skip
    refine sy_if_ne (tgt := 10) hx hb dX12_clean_5 (by decide) (by decide) (fun c_5 => ?_) (fun c9 => absurd c9 (by decide))
    refine lv_aload_n hx hb dX12_clean_10 rfl (lv_at hl 0 rfl) ?_
    refine g_v (rDt hD) hS hA (g_V (own := "HideReaderModel") (As := []) (rest := []) hx hb hml hown hts hK hP (rDt hD) (kr_X12_keepAct (l := l) (D := D) (k := k) h_x_acts h_x_undone b_B_all b_B_was g_A) ck_X12_keepAct iv_X12_keepAct uw_8_238 (rv_o hK hP) rfl hl.1 rfl (Nat.le_of_ble_eq_true rfl) dX12_clean_11 ⟨Nat.le_of_ble_eq_true rfl, Nat.le_of_ble_eq_true rfl⟩ ⟨Nat.le_of_ble_eq_true rfl, Nat.le_of_ble_eq_true rfl⟩) (fun H locs hQ hS => ?_)
    obtain ⟨F_7, y_8, y_9, bF_7, hr_6_1, hr_6_2, hr_6_3, kr_6_A, hP⟩ := hQ
    refine lv_aload_n hx hb dX12_clean_14 rfl (lv_at hl 0 rfl) ?_
    refine lv_aload_n hx hb dX12_clean_15 rfl (lv_at hl 0 rfl) ?_
    refine lv_iload_n hx hb dX12_clean_16 rfl (lv_at hl 1 rfl) ?_
    refine g_i (rDt hD) hS hA (g_V (own := "HideReaderModel") (As := [.int (mI p0)]) (rest := [.ref (a 0)]) hx hb hml hown hts hK hP (rDt hD) (kr_X12_firstHerd (l := l) (D := D) (k := k) (by omega) h_x_bank b_B_herdTold) ck_X12_firstHerd iv_X12_firstHerd uw_6_216 (rv_o hK hP) rfl hl.1 rfl (Nat.le_of_ble_eq_true rfl) dX12_clean_17 ⟨Nat.le_of_ble_eq_true rfl, Nat.le_of_ble_eq_true rfl⟩ ⟨Nat.le_of_ble_eq_true rfl, Nat.le_of_ble_eq_true rfl⟩) (fun r_10 H locs hQ hS => ?_)
    obtain ⟨hr_10_0, hP⟩ := hQ
    refine g_i (rDt hD) hS hA (g_V (own := "HideReaderModel") (As := [.int (mI r_10)]) (rest := []) hx hb hml hown hts hK hP (rDt hD) (kr_X12_brandOf (l := l) (D := D) (k := k) (by omega) h_x_bank b_B_brands) ck_X12_brandOf iv_X12_brandOf uw_6_220 (rv_o hK hP) rfl hl.1 rfl (Nat.le_of_ble_eq_true rfl) dX12_clean_20 ⟨Nat.le_of_ble_eq_true rfl, Nat.le_of_ble_eq_true rfl⟩ ⟨Nat.le_of_ble_eq_true rfl, Nat.le_of_ble_eq_true rfl⟩) (fun r_11 H locs hQ hS => ?_)
    obtain ⟨hr_11_0, hr_11_1, hP⟩ := hQ
    refine lv_istore_n (lv' := [(2, .int (mI r_11)), (0, .ref (a 0)), (1, .int (mI p0))]) hx hb dX12_clean_23 rfl hl (by decide) rfl (fun ls hl => ?_)
    refine lv_aload_n hx hb dX12_clean_24 rfl (lv_at hl 1 rfl) ?_
    refine rg_o_all hx hb hts hown hK hP uw_7_66 dX12_clean_25 ?_
    refine lv_iconst (v := mI 0) hx hb dX12_clean_28 rfl ?_
    refine lv_iload_n hx hb dX12_clean_29 rfl (lv_at hl 2 rfl) ?_
    refine sy_iadd hx hb dX12_clean_30 p0 (by omega) ?_
    refine rl_all hx hb hK hP dX12_clean_31 (by omega) (bA_bd b_B_all) (fun z_12 ez_12 hz_12 => ?_)
    have hz_12 := bA_hid b_B_all (by omega) ez_12
    refine lv_iload_n hx hb dX12_clean_32 rfl (lv_at hl 0 rfl) ?_
    refine lv_iconst (v := mI (-1)) hx hb dX12_clean_33 rfl ?_
    refine lv_ixor hx hb dX12_clean_34 ?_
    refine sy_any (fun z_13 hz_13 => ?_)
    refine sy_iandL hx hb dX12_clean_35 (by omega) (fun z_14 hz_14 => ?_)
    refine g_i (rDt hD) hS hA (g_S (own := "HideReaderModel") (As := [.int (mI z_14)]) (rest := []) hx hb hml hown hts hK hP (rDt hD) (kr_X12_bitsOf (l := l) (D := D) (k := k) (by omega)) ck_X12_bitsOf uw_8_166 uw_8_165 rfl hl.1 rfl (Nat.le_of_ble_eq_true rfl) dX12_clean_36 ⟨Nat.le_of_ble_eq_true rfl, Nat.le_of_ble_eq_true rfl⟩ ⟨Nat.le_of_ble_eq_true rfl, Nat.le_of_ble_eq_true rfl⟩) (fun r_15 H locs hQ hS => ?_)
    obtain ⟨hr_15_0, hP⟩ := hQ
    refine lv_istore_n (lv' := [(3, .int (mI r_15)), (2, .int (mI r_11)), (0, .ref (a 0)), (1, .int (mI p0))]) hx hb dX12_clean_39 rfl hl (by decide) rfl (fun ls hl => ?_)
    refine lv_aload_n hx hb dX12_clean_40 rfl (lv_at hl 2 rfl) ?_
    refine rg_o_all hx hb hts hown hK hP uw_7_66 dX12_clean_41 ?_
    refine lv_iconst (v := mI 0) hx hb dX12_clean_44 rfl ?_
    refine lv_iload_n hx hb dX12_clean_45 rfl (lv_at hl 3 rfl) ?_
    refine sy_iadd hx hb dX12_clean_46 p0 (by omega) ?_
    refine lv_iload_n hx hb dX12_clean_47 rfl (lv_at hl 1 rfl) ?_
    refine rs_all hx hb hK hP hD hS dX12_clean_48 (by omega) (bA_bd b_B_all) (by omega) (fun F_16 H locs eF_16 bF_16 hP hS => ?_)
    have bF_16 := bA_s4095 b_B_all eF_16 (by omega) (by omega)
    refine lv_iconst (v := mI 0) hx hb dX12_clean_49 rfl ?_
    refine lv_istore (lv' := [(4, .int (mI 0)), (3, .int (mI r_15)), (2, .int (mI r_11)), (0, .ref (a 0)), (1, .int (mI p0))]) hx hb dX12_clean_50 hl (by decide) rfl (fun ls hl => ?_)
    refine sy_loop (I := fun n H locs g => ∃ (z_57 : Int) (F_58 : Nat → Int) (ls : Array Slot), (0 ≤ z_57 ∧ z_57 ≤ 12) ∧ (bA F_58) ∧ (12 - z_57).toNat = n ∧ va_P D vwCl (rW k a x_taped x_size x_faultKind x_faultPlace x_at x_end x_token x_number x_bank x_rb x_codes x_within x_piled x_unitsInRule x_askBeast x_askStroke x_askAge x_askSeason y_8 y_9 x_laid x_seens x_time x_fitting n_name B_tape B_text B_turns B_herds B_irons B_beasts B_units B_night B_draw B_told B_brands B_ironMarks B_herdTold B_born B_ruleFrom B_ruleTo B_code B_codeNumber B_eWhat B_eSign B_pile F_58 B_burned F_7 B_need B_laidRow B_long8 B_brings B_sBurning B_sStroke B_sIs B_sTold B_sUntold B_parts B_boxAll B_isBoxed G_hName G_iName G_bName ex) H ∧ va_S A s.heap H locs ∧ lv_has ls 5 [(4, .int (mI z_57)), (3, .int (mI r_15)), (2, .int (mI r_11)), (0, .ref (a 0)), (1, .int (mI p0))] ∧ g = F0 m 52 ls []) ?_ _ ⟨0, F_16, _, by omega, bF_16, rfl, hP, hS, lv_sub hl [0, 1, 2, 3, 4] rfl, rfl⟩
    intro n_63 H locs g hI ih_64
    obtain ⟨z_57, F_58, ls, h52_0, bF_58, mn_63, hP, hS, hl, rfl⟩ := hI
    refine lv_iload hx hb dX12_clean_52 (lv_at hl 0 rfl) ?_
    refine lv_bipush (v := mI 12) hx hb dX12_clean_54 (by decide) ?_
    refine sy_icmp_ge (tgt := 78) hx hb dX12_clean_56 (by decide) (by omega) (by decide) (fun c_65 => ?_) (fun c_65 => ?_)
    · skip
      refine lv_iload_n hx hb dX12_clean_78 rfl (lv_at hl 1 rfl) ?_
      exact r_i hx hb hr hlocks dX12_clean_79 hS ⟨F_58, F_7, y_8, y_9, by omega, bF_58, bF_7, by omega, by omega, by omega, kr_6_A, hP⟩
    · skip
      refine lv_aload_n hx hb dX12_clean_59 rfl (lv_at hl 3 rfl) ?_
      refine rg_o_all hx hb hts hown hK hP uw_7_66 dX12_clean_60 ?_
      refine lv_aload_n hx hb dX12_clean_63 rfl (lv_at hl 3 rfl) ?_
      refine lv_iload_n hx hb dX12_clean_64 rfl (lv_at hl 4 rfl) ?_
      refine lv_iload hx hb dX12_clean_65 (lv_at hl 0 rfl) ?_
      refine g_i (rDt hD) hS hA (g_V (own := "HideReaderModel") (As := [.int (mI p0), .int (mI z_57)]) (rest := [.ref (a 25)]) hx hb hml hown hts hK hP (rDt hD) (kr_X12_slot (l := l) (D := D) (k := k) (by omega) (by omega)) ck_X12_slot iv_X12_slot uw_6_224 (rv_o hK hP) rfl hl.1 rfl (Nat.le_of_ble_eq_true rfl) dX12_clean_67 ⟨Nat.le_of_ble_eq_true rfl, Nat.le_of_ble_eq_true rfl⟩ ⟨Nat.le_of_ble_eq_true rfl, Nat.le_of_ble_eq_true rfl⟩) (fun r_66 H locs hQ hS => ?_)
      obtain ⟨hq_r_66, hP⟩ := hQ
      obtain rfl := hq_r_66
      refine lv_iconst (v := mI 0) hx hb dX12_clean_70 rfl ?_
      refine rs_all hx hb hK hP hD hS dX12_clean_71 (by omega) (bA_bd bF_58) (by omega) (fun F_68 H locs eF_68 bF_68 hP hS => ?_)
      have bF_68 := bA_s7 bF_58 eF_68 (by omega)
      refine lv_iinc (v := mI (z_57 + 1)) (lv' := [(4, .int (mI (z_57 + 1))), (3, .int (mI r_15)), (2, .int (mI r_11)), (0, .ref (a 0)), (1, .int (mI p0))]) hx hb dX12_clean_72 hl (k := 0) rfl (mI_ad rfl) (by decide) rfl (fun ls hl => ?_)
      refine lv_goto (tgt := 52) hx hb dX12_clean_75 (by decide) ?_
      exact ih_64 _ _ _ _ (by omega) ⟨(z_57 + 1), F_68, _, by omega, bF_68, rfl, hP, hS, lv_sub hl [0, 1, 2, 3, 4] rfl, rfl⟩
end Kr
