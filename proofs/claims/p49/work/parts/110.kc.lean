section Kc
variable {l : Launch} {D : va_G} {k : Nat → ClassId} {a : Nat → Nat} {ex : va_W} {x_xo_lyingCount x_tape_length x_tape_next x_tape_kind x_tape_place x_tape_number x_tape_faultKind x_tape_faultPlace x_told_turns x_told_mirror x_told_night x_told_draw x_told_herds x_told_irons x_told_beasts x_told_linesTold x_tfo_steps x_tfo_units x_draft_turns x_draft_mirror x_draft_night x_draft_draw x_draft_herds x_draft_irons x_draft_beasts x_draft_linesTold x_dfo_steps x_dfo_units x_lat_placements x_smi_irons x_smi_aim x_his_here x_his_undoable x_his_redoable x_book_placedCount x_wit_count x_wit_time : Int} {n_tape_name : Int64} {B_xo_lying B_tape_bytes B_told_brands B_told_ironMarks B_told_homes B_told_births B_tfo_kinds B_tfo_numbers B_tfo_stack B_tfo_facts B_draft_brands B_draft_ironMarks B_draft_homes B_draft_births B_dfo_kinds B_dfo_numbers B_dfo_stack B_dfo_facts B_lat_lowHalves B_lat_highHalves B_lat_ways B_smi_placedIrons B_smi_within B_smi_costs B_his_isKept B_book_norms B_book_above B_book_heights B_book_placedBrands B_bea_firstGains B_bea_otherGains B_wit_burnings B_wit_strokes B_wit_wasOn B_wit_toldAt B_wit_untoldAt B_wit_on B_wit_off B_wit_firstCounts B_wit_secondCounts Ps Pd : Nat → Int} {G_tape_wordNames G_told_herdNames G_told_ironNames G_told_beastNames G_draft_herdNames G_draft_ironNames G_draft_beastNames : Nat → Int64} {Ph Po Pg : Nat → Nat → Int} {q : Nat → Nat}
set_option maxHeartbeats 4000000 in
set_option maxRecDepth 100000 in
theorem kc_X11_oldest {p0 : Int} (hp0 : -2147483648 ≤ p0 ∧ p0 ≤ 2147483647) (h_x_told_beasts : 0 ≤ x_told_beasts ∧ x_told_beasts ≤ 8) (h_x_his_here : 0 ≤ x_his_here ∧ x_his_here ≤ 40) (b_Ph : pb (0) 4095 Ph) (b_Pg : pb (-2147483648) 2147483647 Pg) : MetG l D k yX11_oldest cX11_oldest 2 (some .int) 2 [.ref (a 0), .int (mI p0)] (cW k a q x_xo_lyingCount x_tape_length x_tape_next x_tape_kind x_tape_place x_tape_number x_tape_faultKind x_tape_faultPlace x_told_turns x_told_mirror x_told_night x_told_draw x_told_herds x_told_irons x_told_beasts x_told_linesTold x_tfo_steps x_tfo_units x_draft_turns x_draft_mirror x_draft_night x_draft_draw x_draft_herds x_draft_irons x_draft_beasts x_draft_linesTold x_dfo_steps x_dfo_units x_lat_placements x_smi_irons x_smi_aim x_his_here x_his_undoable x_his_redoable x_book_placedCount x_wit_count x_wit_time n_tape_name B_xo_lying B_tape_bytes B_told_brands B_told_ironMarks B_told_homes B_told_births B_tfo_kinds B_tfo_numbers B_tfo_stack B_tfo_facts B_draft_brands B_draft_ironMarks B_draft_homes B_draft_births B_dfo_kinds B_dfo_numbers B_dfo_stack B_dfo_facts B_lat_lowHalves B_lat_highHalves B_lat_ways B_smi_placedIrons B_smi_within B_smi_costs B_his_isKept B_book_norms B_book_above B_book_heights B_book_placedBrands B_bea_firstGains B_bea_otherGains B_wit_burnings B_wit_strokes B_wit_wasOn B_wit_toldAt B_wit_untoldAt B_wit_on B_wit_off B_wit_firstCounts B_wit_secondCounts Ps Pd G_tape_wordNames G_told_herdNames G_told_ironNames G_told_beastNames G_draft_herdNames G_draft_ironNames G_draft_beastNames Ph Po Pg ex) (qGi (fun r0 H => (-1 ≤ r0 ∧ r0 ≤ 2147483647) ∧ va_P D vwCl (cW k a q x_xo_lyingCount x_tape_length x_tape_next x_tape_kind x_tape_place x_tape_number x_tape_faultKind x_tape_faultPlace x_told_turns x_told_mirror x_told_night x_told_draw x_told_herds x_told_irons x_told_beasts x_told_linesTold x_tfo_steps x_tfo_units x_draft_turns x_draft_mirror x_draft_night x_draft_draw x_draft_herds x_draft_irons x_draft_beasts x_draft_linesTold x_dfo_steps x_dfo_units x_lat_placements x_smi_irons x_smi_aim x_his_here x_his_undoable x_his_redoable x_book_placedCount x_wit_count x_wit_time n_tape_name B_xo_lying B_tape_bytes B_told_brands B_told_ironMarks B_told_homes B_told_births B_tfo_kinds B_tfo_numbers B_tfo_stack B_tfo_facts B_draft_brands B_draft_ironMarks B_draft_homes B_draft_births B_dfo_kinds B_dfo_numbers B_dfo_stack B_dfo_facts B_lat_lowHalves B_lat_highHalves B_lat_ways B_smi_placedIrons B_smi_within B_smi_costs B_his_isKept B_book_norms B_book_above B_book_heights B_book_placedBrands B_bea_firstGains B_bea_otherGains B_wit_burnings B_wit_strokes B_wit_wasOn B_wit_toldAt B_wit_untoldAt B_wit_on B_wit_off B_wit_firstCounts B_wit_secondCounts Ps Pd G_tape_wordNames G_told_herdNames G_told_ironNames G_told_beastNames G_draft_herdNames G_draft_ironNames G_draft_beastNames Ph Po Pg ex) H)) := by
  refine metG_of 1 ck_X11_oldest (Nat.le_of_ble_eq_true rfl) cMap (fun p e s m args below meth c A hx hb hml hr hlocks hown hts hK hD hA hP hS ls hl => ?_)
  have hown : s.vm.findClass "HideReader" = some m.cls := hown
  have hl : lv_has ls 2 [(0, .ref (a 0)), (1, .int (mI p0))] := hl
  refine lv_aload_n hx hb dX11_oldest_0 rfl (lv_at hl 0 rfl) ?_
  refine lv_iload_n hx hb dX11_oldest_1 rfl (lv_at hl 1 rfl) ?_
  refine g_i (cDt hD) hS hA (g_V (own := "HideReader") (As := [.int (mI p0)]) (rest := []) hx hb hml hown hts hK hP (cDt hD) (kc_X11_isBeast (l := l) (D := D) (k := k) (by omega) h_x_told_beasts) ck_X11_isBeast iv_X11_isBeast uw_4_121 (cv_xo hK hP) rfl hl.1 rfl (Nat.le_of_ble_eq_true rfl) dX11_oldest_2 ⟨Nat.le_of_ble_eq_true rfl, Nat.le_of_ble_eq_true rfl⟩ ⟨Nat.le_of_ble_eq_true rfl, Nat.le_of_ble_eq_true rfl⟩) (fun r_1 H locs hQ hS => ?_)
  obtain ⟨hq_r_1, hP⟩ := hQ
  rcases hq_r_1 with ⟨rfl, c_2_0⟩ | ⟨rfl, c_3_0, c_3_1, c_3_2⟩
  · skip
    refine sy_if_eq (tgt := 22) hx hb dX11_oldest_5 (by decide) (by decide) (fun c_4 => ?_) (fun c9 => absurd c9 (by decide))
    refine lv_iconst (v := mI (-1)) hx hb dX11_oldest_22 rfl ?_
    exact r_i hx hb hr hlocks dX11_oldest_23 hS ⟨by omega, hP⟩
  · skip
    refine sy_if_eq (tgt := 22) hx hb dX11_oldest_5 (by decide) (by decide) (fun c9 => absurd c9 (by decide)) (fun c_5 => ?_)
    refine lv_aload_n hx hb dX11_oldest_8 rfl (lv_at hl 0 rfl) ?_
    refine cg_xo_history hx hb hts hown hK hP uw_2_235 dX11_oldest_9 ?_
    refine g_r (cDt hD) hS hA (g_V (own := "HideReader") (As := []) (rest := []) hx hb hml hown hts hK hP (cDt hD) (kc_X3_now (l := l) (D := D) (k := k) h_x_his_here) ck_X3_now iv_X3_now uw_4_125 (cv_his hK hP) rfl hl.1 rfl (Nat.le_of_ble_eq_true rfl) dX11_oldest_12 ⟨Nat.le_of_ble_eq_true rfl, Nat.le_of_ble_eq_true rfl⟩ ⟨Nat.le_of_ble_eq_true rfl, Nat.le_of_ble_eq_true rfl⟩) (fun r_6 H locs hQ hS => ?_)
    obtain ⟨hr_6_0, hP⟩ := hQ
    subst hr_6_0
    refine lv_iload_n hx hb dX11_oldest_15 rfl (lv_at hl 1 rfl) ?_
    refine g_i (cDt hD) hS hA (g_V (own := "HideReader") (As := [.int (mI p0)]) (rest := []) hx hb hml hown hts hK hP (cDt hD) (kc_X5_oldestAge (l := l) (D := D) (k := k) (iR := x_his_here.toNat) (by omega) (by omega) b_Ph b_Pg) ck_X5_oldestAge iv_X5_oldestAge uw_6_45 (cv_past (i := x_his_here.toNat) (by omega) hK hP) rfl hl.1 rfl (Nat.le_of_ble_eq_true rfl) dX11_oldest_16 ⟨Nat.le_of_ble_eq_true rfl, Nat.le_of_ble_eq_true rfl⟩ ⟨Nat.le_of_ble_eq_true rfl, Nat.le_of_ble_eq_true rfl⟩) (fun r_7 H locs hQ hS => ?_)
    obtain ⟨hr_7_0, hP⟩ := hQ
    refine lv_goto (tgt := 23) hx hb dX11_oldest_19 (by decide) ?_
    exact r_i hx hb hr hlocks dX11_oldest_23 hS ⟨by omega, hP⟩
set_option maxHeartbeats 4000000 in
set_option maxRecDepth 100000 in
theorem kc_X11_will {p0 : Int} (hp0 : -2147483648 ≤ p0 ∧ p0 ≤ 2147483647) (h_x_told_beasts : 0 ≤ x_told_beasts ∧ x_told_beasts ≤ 8) (h_x_tfo_steps : 0 ≤ x_tfo_steps ∧ x_tfo_steps ≤ 270) (h_x_his_here : 0 ≤ x_his_here ∧ x_his_here ≤ 40) (b_B_told_births : bd (-2147483648) 2147483647 B_told_births) (b_B_tfo_kinds : bd (-2147483648) 2147483647 B_tfo_kinds) (b_B_tfo_numbers : bd (-2147483648) 2147483647 B_tfo_numbers) (b_B_tfo_stack : bd (-2147483648) 2147483647 B_tfo_stack) (b_B_tfo_facts : bd (-2147483648) 2147483647 B_tfo_facts) (b_Ps : bd (-2147483648) 2147483647 Ps) (b_Ph : pb (0) 4095 Ph) (b_Pg : pb (-2147483648) 2147483647 Pg) : MetG l D k yX11_will cX11_will 2 (some .int) 6 [.ref (a 0), .int (mI p0)] (cW k a q x_xo_lyingCount x_tape_length x_tape_next x_tape_kind x_tape_place x_tape_number x_tape_faultKind x_tape_faultPlace x_told_turns x_told_mirror x_told_night x_told_draw x_told_herds x_told_irons x_told_beasts x_told_linesTold x_tfo_steps x_tfo_units x_draft_turns x_draft_mirror x_draft_night x_draft_draw x_draft_herds x_draft_irons x_draft_beasts x_draft_linesTold x_dfo_steps x_dfo_units x_lat_placements x_smi_irons x_smi_aim x_his_here x_his_undoable x_his_redoable x_book_placedCount x_wit_count x_wit_time n_tape_name B_xo_lying B_tape_bytes B_told_brands B_told_ironMarks B_told_homes B_told_births B_tfo_kinds B_tfo_numbers B_tfo_stack B_tfo_facts B_draft_brands B_draft_ironMarks B_draft_homes B_draft_births B_dfo_kinds B_dfo_numbers B_dfo_stack B_dfo_facts B_lat_lowHalves B_lat_highHalves B_lat_ways B_smi_placedIrons B_smi_within B_smi_costs B_his_isKept B_book_norms B_book_above B_book_heights B_book_placedBrands B_bea_firstGains B_bea_otherGains B_wit_burnings B_wit_strokes B_wit_wasOn B_wit_toldAt B_wit_untoldAt B_wit_on B_wit_off B_wit_firstCounts B_wit_secondCounts Ps Pd G_tape_wordNames G_told_herdNames G_told_ironNames G_told_beastNames G_draft_herdNames G_draft_ironNames G_draft_beastNames Ph Po Pg ex) (qGi (fun r0 H => ∃ (F_tfo_stack : Nat → Int) (F_tfo_facts : Nat → Int), (-2147483648 ≤ r0 ∧ r0 ≤ 2147483647) ∧ (bd (-2147483648) 2147483647 F_tfo_stack) ∧ (bd (-2147483648) 2147483647 F_tfo_facts) ∧ va_P D vwCl (cW k a q x_xo_lyingCount x_tape_length x_tape_next x_tape_kind x_tape_place x_tape_number x_tape_faultKind x_tape_faultPlace x_told_turns x_told_mirror x_told_night x_told_draw x_told_herds x_told_irons x_told_beasts x_told_linesTold x_tfo_steps x_tfo_units x_draft_turns x_draft_mirror x_draft_night x_draft_draw x_draft_herds x_draft_irons x_draft_beasts x_draft_linesTold x_dfo_steps x_dfo_units x_lat_placements x_smi_irons x_smi_aim x_his_here x_his_undoable x_his_redoable x_book_placedCount x_wit_count x_wit_time n_tape_name B_xo_lying B_tape_bytes B_told_brands B_told_ironMarks B_told_homes B_told_births B_tfo_kinds B_tfo_numbers F_tfo_stack F_tfo_facts B_draft_brands B_draft_ironMarks B_draft_homes B_draft_births B_dfo_kinds B_dfo_numbers B_dfo_stack B_dfo_facts B_lat_lowHalves B_lat_highHalves B_lat_ways B_smi_placedIrons B_smi_within B_smi_costs B_his_isKept B_book_norms B_book_above B_book_heights B_book_placedBrands B_bea_firstGains B_bea_otherGains B_wit_burnings B_wit_strokes B_wit_wasOn B_wit_toldAt B_wit_untoldAt B_wit_on B_wit_off B_wit_firstCounts B_wit_secondCounts Ps Pd G_tape_wordNames G_told_herdNames G_told_ironNames G_told_beastNames G_draft_herdNames G_draft_ironNames G_draft_beastNames Ph Po Pg ex) H)) := by
  refine metG_of 1 ck_X11_will (Nat.le_of_ble_eq_true rfl) cMap (fun p e s m args below meth c A hx hb hml hr hlocks hown hts hK hD hA hP hS ls hl => ?_)
  have hown : s.vm.findClass "HideReader" = some m.cls := hown
  have hl : lv_has ls 2 [(0, .ref (a 0)), (1, .int (mI p0))] := hl
  refine lv_iload_n hx hb dX11_will_0 rfl (lv_at hl 1 rfl) ?_
  refine sy_if_lt (tgt := 28) hx hb dX11_will_1 (by decide) (by omega) (fun c_1 => ?_) (fun c_1 => ?_)
  · skip
    refine lv_iconst (v := mI (-1)) hx hb dX11_will_28 rfl ?_
    exact r_i hx hb hr hlocks dX11_will_29 hS ⟨B_tfo_stack, B_tfo_facts, by omega, b_B_tfo_stack, b_B_tfo_facts, hP⟩
  · skip
    refine lv_iload_n hx hb dX11_will_4 rfl (lv_at hl 1 rfl) ?_
    refine lv_bipush (v := mI 60) hx hb dX11_will_5 (by decide) ?_
    refine sy_icmp_gt (tgt := 28) hx hb dX11_will_7 (by decide) (by omega) (by decide) (fun c_2 => ?_) (fun c_2 => ?_)
    · skip
      refine lv_iconst (v := mI (-1)) hx hb dX11_will_28 rfl ?_
      exact r_i hx hb hr hlocks dX11_will_29 hS ⟨B_tfo_stack, B_tfo_facts, by omega, b_B_tfo_stack, b_B_tfo_facts, hP⟩
    · skip
      refine lv_aload_n hx hb dX11_will_10 rfl (lv_at hl 0 rfl) ?_
      refine cg_xo_beasts hx hb hts hown hK hP uw_2_237 dX11_will_11 ?_
      refine lv_aload_n hx hb dX11_will_14 rfl (lv_at hl 0 rfl) ?_
      refine cg_xo_history hx hb hts hown hK hP uw_2_235 dX11_will_15 ?_
      refine g_r (cDt hD) hS hA (g_V (own := "HideReader") (As := []) (rest := [.ref (a 49)]) hx hb hml hown hts hK hP (cDt hD) (kc_X3_now (l := l) (D := D) (k := k) h_x_his_here) ck_X3_now iv_X3_now uw_4_125 (cv_his hK hP) rfl hl.1 rfl (Nat.le_of_ble_eq_true rfl) dX11_will_18 ⟨Nat.le_of_ble_eq_true rfl, Nat.le_of_ble_eq_true rfl⟩ ⟨Nat.le_of_ble_eq_true rfl, Nat.le_of_ble_eq_true rfl⟩) (fun r_3 H locs hQ hS => ?_)
      obtain ⟨hr_3_0, hP⟩ := hQ
      subst hr_3_0
      refine lv_iload_n hx hb dX11_will_21 rfl (lv_at hl 1 rfl) ?_
      refine g_i (cDt hD) hS hA (g_V (own := "HideReader") (As := [.ref (q (4 * (x_his_here.toNat))), .int (mI p0)]) (rest := []) hx hb hml hown hts hK hP (cDt hD) (kc_X0_showingBehind (l := l) (D := D) (k := k) (i0 := x_his_here.toNat) (by omega) (by omega) h_x_told_beasts h_x_tfo_steps b_B_told_births b_B_tfo_kinds b_B_tfo_numbers b_B_tfo_stack b_B_tfo_facts b_Ps b_Ph b_Pg) ck_X0_showingBehind iv_X0_showingBehind uw_6_55 (cv_bea hK hP) rfl hl.1 rfl (Nat.le_of_ble_eq_true rfl) dX11_will_22 ⟨Nat.le_of_ble_eq_true rfl, Nat.le_of_ble_eq_true rfl⟩ ⟨Nat.le_of_ble_eq_true rfl, Nat.le_of_ble_eq_true rfl⟩) (fun r_4 H locs hQ hS => ?_)
      obtain ⟨F_5, F_6, hr_4_0, bF_5, bF_6, hP⟩ := hQ
      refine lv_goto (tgt := 29) hx hb dX11_will_25 (by decide) ?_
      exact r_i hx hb hr hlocks dX11_will_29 hS ⟨F_5, F_6, by omega, bF_5, bF_6, hP⟩
set_option maxHeartbeats 4000000 in
set_option maxRecDepth 100000 in
theorem kc_X11_law {p0 : Int} (hp0 : -2147483648 ≤ p0 ∧ p0 ≤ 2147483647) (h_x_told_beasts : 0 ≤ x_told_beasts ∧ x_told_beasts ≤ 8) (h_x_tfo_steps : 0 ≤ x_tfo_steps ∧ x_tfo_steps ≤ 270) (h_x_his_here : 0 ≤ x_his_here ∧ x_his_here ≤ 40) (b_B_told_births : bd (-2147483648) 2147483647 B_told_births) (b_B_tfo_kinds : bd (-2147483648) 2147483647 B_tfo_kinds) (b_B_tfo_numbers : bd (-2147483648) 2147483647 B_tfo_numbers) (b_B_tfo_stack : bd (-2147483648) 2147483647 B_tfo_stack) (b_B_tfo_facts : bd (-2147483648) 2147483647 B_tfo_facts) (b_Ps : bd (-2147483648) 2147483647 Ps) (b_Ph : pb (0) 4095 Ph) : MetG l D k yX11_law cX11_law 2 (some .int) 5 [.ref (a 0), .int (mI p0)] (cW k a q x_xo_lyingCount x_tape_length x_tape_next x_tape_kind x_tape_place x_tape_number x_tape_faultKind x_tape_faultPlace x_told_turns x_told_mirror x_told_night x_told_draw x_told_herds x_told_irons x_told_beasts x_told_linesTold x_tfo_steps x_tfo_units x_draft_turns x_draft_mirror x_draft_night x_draft_draw x_draft_herds x_draft_irons x_draft_beasts x_draft_linesTold x_dfo_steps x_dfo_units x_lat_placements x_smi_irons x_smi_aim x_his_here x_his_undoable x_his_redoable x_book_placedCount x_wit_count x_wit_time n_tape_name B_xo_lying B_tape_bytes B_told_brands B_told_ironMarks B_told_homes B_told_births B_tfo_kinds B_tfo_numbers B_tfo_stack B_tfo_facts B_draft_brands B_draft_ironMarks B_draft_homes B_draft_births B_dfo_kinds B_dfo_numbers B_dfo_stack B_dfo_facts B_lat_lowHalves B_lat_highHalves B_lat_ways B_smi_placedIrons B_smi_within B_smi_costs B_his_isKept B_book_norms B_book_above B_book_heights B_book_placedBrands B_bea_firstGains B_bea_otherGains B_wit_burnings B_wit_strokes B_wit_wasOn B_wit_toldAt B_wit_untoldAt B_wit_on B_wit_off B_wit_firstCounts B_wit_secondCounts Ps Pd G_tape_wordNames G_told_herdNames G_told_ironNames G_told_beastNames G_draft_herdNames G_draft_ironNames G_draft_beastNames Ph Po Pg ex) (qGi (fun r0 H => ∃ (F_tfo_stack : Nat → Int) (F_tfo_facts : Nat → Int), (-2147483648 ≤ r0 ∧ r0 ≤ 2147483647) ∧ (bd (-2147483648) 2147483647 F_tfo_stack) ∧ (bd (-2147483648) 2147483647 F_tfo_facts) ∧ va_P D vwCl (cW k a q x_xo_lyingCount x_tape_length x_tape_next x_tape_kind x_tape_place x_tape_number x_tape_faultKind x_tape_faultPlace x_told_turns x_told_mirror x_told_night x_told_draw x_told_herds x_told_irons x_told_beasts x_told_linesTold x_tfo_steps x_tfo_units x_draft_turns x_draft_mirror x_draft_night x_draft_draw x_draft_herds x_draft_irons x_draft_beasts x_draft_linesTold x_dfo_steps x_dfo_units x_lat_placements x_smi_irons x_smi_aim x_his_here x_his_undoable x_his_redoable x_book_placedCount x_wit_count x_wit_time n_tape_name B_xo_lying B_tape_bytes B_told_brands B_told_ironMarks B_told_homes B_told_births B_tfo_kinds B_tfo_numbers F_tfo_stack F_tfo_facts B_draft_brands B_draft_ironMarks B_draft_homes B_draft_births B_dfo_kinds B_dfo_numbers B_dfo_stack B_dfo_facts B_lat_lowHalves B_lat_highHalves B_lat_ways B_smi_placedIrons B_smi_within B_smi_costs B_his_isKept B_book_norms B_book_above B_book_heights B_book_placedBrands B_bea_firstGains B_bea_otherGains B_wit_burnings B_wit_strokes B_wit_wasOn B_wit_toldAt B_wit_untoldAt B_wit_on B_wit_off B_wit_firstCounts B_wit_secondCounts Ps Pd G_tape_wordNames G_told_herdNames G_told_ironNames G_told_beastNames G_draft_herdNames G_draft_ironNames G_draft_beastNames Ph Po Pg ex) H)) := by
  refine metG_of 1 ck_X11_law (Nat.le_of_ble_eq_true rfl) cMap (fun p e s m args below meth c A hx hb hml hr hlocks hown hts hK hD hA hP hS ls hl => ?_)
  have hown : s.vm.findClass "HideReader" = some m.cls := hown
  have hl : lv_has ls 2 [(0, .ref (a 0)), (1, .int (mI p0))] := hl
  refine lv_iload_n hx hb dX11_law_0 rfl (lv_at hl 1 rfl) ?_
  refine sy_if_lt (tgt := 28) hx hb dX11_law_1 (by decide) (by omega) (fun c_1 => ?_) (fun c_1 => ?_)
  · skip
    refine lv_iconst (v := mI (-1)) hx hb dX11_law_28 rfl ?_
    exact r_i hx hb hr hlocks dX11_law_29 hS ⟨B_tfo_stack, B_tfo_facts, by omega, b_B_tfo_stack, b_B_tfo_facts, hP⟩
  · skip
    refine lv_iload_n hx hb dX11_law_4 rfl (lv_at hl 1 rfl) ?_
    refine lv_bipush (v := mI 99) hx hb dX11_law_5 (by decide) ?_
    refine sy_icmp_gt (tgt := 28) hx hb dX11_law_7 (by decide) (by omega) (by decide) (fun c_2 => ?_) (fun c_2 => ?_)
    · skip
      refine lv_iconst (v := mI (-1)) hx hb dX11_law_28 rfl ?_
      exact r_i hx hb hr hlocks dX11_law_29 hS ⟨B_tfo_stack, B_tfo_facts, by omega, b_B_tfo_stack, b_B_tfo_facts, hP⟩
    · skip
      refine lv_aload_n hx hb dX11_law_10 rfl (lv_at hl 0 rfl) ?_
      refine cg_xo_beasts hx hb hts hown hK hP uw_2_237 dX11_law_11 ?_
      refine lv_aload_n hx hb dX11_law_14 rfl (lv_at hl 0 rfl) ?_
      refine cg_xo_history hx hb hts hown hK hP uw_2_235 dX11_law_15 ?_
      refine g_r (cDt hD) hS hA (g_V (own := "HideReader") (As := []) (rest := [.ref (a 49)]) hx hb hml hown hts hK hP (cDt hD) (kc_X3_now (l := l) (D := D) (k := k) h_x_his_here) ck_X3_now iv_X3_now uw_4_125 (cv_his hK hP) rfl hl.1 rfl (Nat.le_of_ble_eq_true rfl) dX11_law_18 ⟨Nat.le_of_ble_eq_true rfl, Nat.le_of_ble_eq_true rfl⟩ ⟨Nat.le_of_ble_eq_true rfl, Nat.le_of_ble_eq_true rfl⟩) (fun r_3 H locs hQ hS => ?_)
      obtain ⟨hr_3_0, hP⟩ := hQ
      subst hr_3_0
      refine lv_iload_n hx hb dX11_law_21 rfl (lv_at hl 1 rfl) ?_
      refine g_i (cDt hD) hS hA (g_V (own := "HideReader") (As := [.ref (q (4 * (x_his_here.toNat))), .int (mI p0)]) (rest := []) hx hb hml hown hts hK hP (cDt hD) (kc_X0_showingAtAge (l := l) (D := D) (k := k) (i0 := x_his_here.toNat) (by omega) (by omega) h_x_told_beasts h_x_tfo_steps b_B_told_births b_B_tfo_kinds b_B_tfo_numbers b_B_tfo_stack b_B_tfo_facts b_Ps b_Ph) ck_X0_showingAtAge iv_X0_showingAtAge uw_6_63 (cv_bea hK hP) rfl hl.1 rfl (Nat.le_of_ble_eq_true rfl) dX11_law_22 ⟨Nat.le_of_ble_eq_true rfl, Nat.le_of_ble_eq_true rfl⟩ ⟨Nat.le_of_ble_eq_true rfl, Nat.le_of_ble_eq_true rfl⟩) (fun r_4 H locs hQ hS => ?_)
      obtain ⟨F_5, F_6, hr_4_0, bF_5, bF_6, hP⟩ := hQ
      refine lv_goto (tgt := 29) hx hb dX11_law_25 (by decide) ?_
      exact r_i hx hb hr hlocks dX11_law_29 hS ⟨F_5, F_6, by omega, bF_5, bF_6, hP⟩
set_option maxHeartbeats 4000000 in
set_option maxRecDepth 100000 in
theorem kc_X11_withoutCommon {p0 p1 : Int} (hp0 : -2147483648 ≤ p0 ∧ p0 ≤ 2147483647) (hp1 : -2147483648 ≤ p1 ∧ p1 ≤ 2147483647) : MetG l D k yX11_withoutCommon cX11_withoutCommon 3 (some .int) 0 [.int (mI p0), .int (mI p1)] (cW k a q x_xo_lyingCount x_tape_length x_tape_next x_tape_kind x_tape_place x_tape_number x_tape_faultKind x_tape_faultPlace x_told_turns x_told_mirror x_told_night x_told_draw x_told_herds x_told_irons x_told_beasts x_told_linesTold x_tfo_steps x_tfo_units x_draft_turns x_draft_mirror x_draft_night x_draft_draw x_draft_herds x_draft_irons x_draft_beasts x_draft_linesTold x_dfo_steps x_dfo_units x_lat_placements x_smi_irons x_smi_aim x_his_here x_his_undoable x_his_redoable x_book_placedCount x_wit_count x_wit_time n_tape_name B_xo_lying B_tape_bytes B_told_brands B_told_ironMarks B_told_homes B_told_births B_tfo_kinds B_tfo_numbers B_tfo_stack B_tfo_facts B_draft_brands B_draft_ironMarks B_draft_homes B_draft_births B_dfo_kinds B_dfo_numbers B_dfo_stack B_dfo_facts B_lat_lowHalves B_lat_highHalves B_lat_ways B_smi_placedIrons B_smi_within B_smi_costs B_his_isKept B_book_norms B_book_above B_book_heights B_book_placedBrands B_bea_firstGains B_bea_otherGains B_wit_burnings B_wit_strokes B_wit_wasOn B_wit_toldAt B_wit_untoldAt B_wit_on B_wit_off B_wit_firstCounts B_wit_secondCounts Ps Pd G_tape_wordNames G_told_herdNames G_told_ironNames G_told_beastNames G_draft_herdNames G_draft_ironNames G_draft_beastNames Ph Po Pg ex) (qGi (fun r0 H => (-2147483648 ≤ r0 ∧ r0 ≤ 2147483647) ∧ va_P D vwCl (cW k a q x_xo_lyingCount x_tape_length x_tape_next x_tape_kind x_tape_place x_tape_number x_tape_faultKind x_tape_faultPlace x_told_turns x_told_mirror x_told_night x_told_draw x_told_herds x_told_irons x_told_beasts x_told_linesTold x_tfo_steps x_tfo_units x_draft_turns x_draft_mirror x_draft_night x_draft_draw x_draft_herds x_draft_irons x_draft_beasts x_draft_linesTold x_dfo_steps x_dfo_units x_lat_placements x_smi_irons x_smi_aim x_his_here x_his_undoable x_his_redoable x_book_placedCount x_wit_count x_wit_time n_tape_name B_xo_lying B_tape_bytes B_told_brands B_told_ironMarks B_told_homes B_told_births B_tfo_kinds B_tfo_numbers B_tfo_stack B_tfo_facts B_draft_brands B_draft_ironMarks B_draft_homes B_draft_births B_dfo_kinds B_dfo_numbers B_dfo_stack B_dfo_facts B_lat_lowHalves B_lat_highHalves B_lat_ways B_smi_placedIrons B_smi_within B_smi_costs B_his_isKept B_book_norms B_book_above B_book_heights B_book_placedBrands B_bea_firstGains B_bea_otherGains B_wit_burnings B_wit_strokes B_wit_wasOn B_wit_toldAt B_wit_untoldAt B_wit_on B_wit_off B_wit_firstCounts B_wit_secondCounts Ps Pd G_tape_wordNames G_told_herdNames G_told_ironNames G_told_beastNames G_draft_herdNames G_draft_ironNames G_draft_beastNames Ph Po Pg ex) H)) := by
  refine metG_of 2 ck_X11_withoutCommon (Nat.le_of_ble_eq_true rfl) cMap (fun p e s m args below meth c A hx hb hml hr hlocks hown hts hK hD hA hP hS ls hl => ?_)
  have hown : s.vm.findClass "HideReader" = some m.cls := hown
  have hl : lv_has ls 3 [(0, .int (mI p0)), (1, .int (mI p1))] := hl
  refine lv_bipush (v := mI 100) hx hb dX11_withoutCommon_0 (by decide) ?_
  refine lv_istore_n (lv' := [(2, .int (mI 100)), (0, .int (mI p0)), (1, .int (mI p1))]) hx hb dX11_withoutCommon_2 rfl hl (by decide) rfl (fun ls hl => ?_)
  refine sy_loop (I := fun n H locs g => ∃ (z_49 : Int) (ls : Array Slot), (1 ≤ z_49 ∧ z_49 ≤ 100) ∧ (z_49 - (1)).toNat = n ∧ va_P D vwCl (cW k a q x_xo_lyingCount x_tape_length x_tape_next x_tape_kind x_tape_place x_tape_number x_tape_faultKind x_tape_faultPlace x_told_turns x_told_mirror x_told_night x_told_draw x_told_herds x_told_irons x_told_beasts x_told_linesTold x_tfo_steps x_tfo_units x_draft_turns x_draft_mirror x_draft_night x_draft_draw x_draft_herds x_draft_irons x_draft_beasts x_draft_linesTold x_dfo_steps x_dfo_units x_lat_placements x_smi_irons x_smi_aim x_his_here x_his_undoable x_his_redoable x_book_placedCount x_wit_count x_wit_time n_tape_name B_xo_lying B_tape_bytes B_told_brands B_told_ironMarks B_told_homes B_told_births B_tfo_kinds B_tfo_numbers B_tfo_stack B_tfo_facts B_draft_brands B_draft_ironMarks B_draft_homes B_draft_births B_dfo_kinds B_dfo_numbers B_dfo_stack B_dfo_facts B_lat_lowHalves B_lat_highHalves B_lat_ways B_smi_placedIrons B_smi_within B_smi_costs B_his_isKept B_book_norms B_book_above B_book_heights B_book_placedBrands B_bea_firstGains B_bea_otherGains B_wit_burnings B_wit_strokes B_wit_wasOn B_wit_toldAt B_wit_untoldAt B_wit_on B_wit_off B_wit_firstCounts B_wit_secondCounts Ps Pd G_tape_wordNames G_told_herdNames G_told_ironNames G_told_beastNames G_draft_herdNames G_draft_ironNames G_draft_beastNames Ph Po Pg ex) H ∧ va_S A s.heap H locs ∧ lv_has ls 3 [(2, .int (mI z_49)), (0, .int (mI p0)), (1, .int (mI p1))] ∧ g = F0 m 3 ls []) ?_ _ ⟨100, _, by omega, rfl, hP, hS, lv_sub hl [0, 1, 2] rfl, rfl⟩
  intro n_56 H locs g hI ih_57
  obtain ⟨z_49, ls, h3_0, mn_56, hP, hS, hl, rfl⟩ := hI
  refine lv_iload_n hx hb dX11_withoutCommon_3 rfl (lv_at hl 0 rfl) ?_
  refine lv_iconst (v := mI 1) hx hb dX11_withoutCommon_4 rfl ?_
  refine sy_icmp_le (tgt := 31) hx hb dX11_withoutCommon_5 (by decide) (by omega) (by decide) (fun c_58 => ?_) (fun c_58 => ?_)
  · skip
    refine lv_iload_n hx hb dX11_withoutCommon_31 rfl (lv_at hl 1 rfl) ?_
    exact r_i hx hb hr hlocks dX11_withoutCommon_32 hS ⟨by omega, hP⟩
  · skip
    refine lv_iload_n hx hb dX11_withoutCommon_8 rfl (lv_at hl 2 rfl) ?_
    refine lv_iload_n hx hb dX11_withoutCommon_9 rfl (lv_at hl 0 rfl) ?_
    refine lv_irem hx hb dX11_withoutCommon_10 (mI_ne0 (by omega) (by omega)) ?_
    refine sy_any (fun z_59 hz_59 => ?_)
    refine sy_if_ne (tgt := 25) hx hb dX11_withoutCommon_11 (by decide) (by omega) (fun c_60 => ?_) (fun c_60 => ?_)
    · skip
      refine lv_iinc (v := mI (z_49 - 1)) (lv' := [(2, .int (mI (z_49 - 1))), (0, .int (mI p0)), (1, .int (mI p1))]) hx hb dX11_withoutCommon_25 hl (k := 0) rfl (mI_ad (by omega)) (by decide) rfl (fun ls hl => ?_)
      refine lv_goto (tgt := 3) hx hb dX11_withoutCommon_28 (by decide) ?_
      exact ih_57 _ _ _ _ (by omega) ⟨(z_49 - 1), _, by omega, rfl, hP, hS, lv_sub hl [0, 1, 2] rfl, rfl⟩
    · skip
      refine lv_bipush (v := mI 100) hx hb dX11_withoutCommon_14 (by decide) ?_
      refine lv_iload_n hx hb dX11_withoutCommon_16 rfl (lv_at hl 0 rfl) ?_
      refine sy_irem hx hb dX11_withoutCommon_17 (by omega) (by omega) (fun z_61 ez_61 hz_61 => ?_)
      refine sy_if_ne (tgt := 25) hx hb dX11_withoutCommon_18 (by decide) (by omega) (fun c_62 => ?_) (fun c_62 => ?_)
      · skip
        refine lv_iinc (v := mI (z_49 - 1)) (lv' := [(2, .int (mI (z_49 - 1))), (0, .int (mI p0)), (1, .int (mI p1))]) hx hb dX11_withoutCommon_25 hl (k := 0) rfl (mI_ad (by omega)) (by decide) rfl (fun ls hl => ?_)
        refine lv_goto (tgt := 3) hx hb dX11_withoutCommon_28 (by decide) ?_
        exact ih_57 _ _ _ _ (by omega) ⟨(z_49 - 1), _, by omega, rfl, hP, hS, lv_sub hl [0, 1, 2] rfl, rfl⟩
      · skip
        refine lv_iload_n hx hb dX11_withoutCommon_21 rfl (lv_at hl 1 rfl) ?_
        refine lv_iload_n hx hb dX11_withoutCommon_22 rfl (lv_at hl 0 rfl) ?_
        refine lv_idiv hx hb dX11_withoutCommon_23 (mI_ne0 (by omega) (by omega)) ?_
        refine sy_any (fun z_63 hz_63 => ?_)
        exact r_i hx hb hr hlocks dX11_withoutCommon_24 hS ⟨by omega, hP⟩
set_option maxHeartbeats 4000000 in
set_option maxRecDepth 100000 in
theorem kc_X11_odds {p0 p1 : Int} (hp0 : -2147483648 ≤ p0 ∧ p0 ≤ 2147483647) (hp1 : -2147483648 ≤ p1 ∧ p1 ≤ 2147483647) (h_x_told_night : -2147483648 ≤ x_told_night ∧ x_told_night ≤ 2147483647) : MetG l D k yX11_odds cX11_odds 7 (some .int) 1 [.ref (a 0), .int (mI p0), .int (mI p1)] (cW k a q x_xo_lyingCount x_tape_length x_tape_next x_tape_kind x_tape_place x_tape_number x_tape_faultKind x_tape_faultPlace x_told_turns x_told_mirror x_told_night x_told_draw x_told_herds x_told_irons x_told_beasts x_told_linesTold x_tfo_steps x_tfo_units x_draft_turns x_draft_mirror x_draft_night x_draft_draw x_draft_herds x_draft_irons x_draft_beasts x_draft_linesTold x_dfo_steps x_dfo_units x_lat_placements x_smi_irons x_smi_aim x_his_here x_his_undoable x_his_redoable x_book_placedCount x_wit_count x_wit_time n_tape_name B_xo_lying B_tape_bytes B_told_brands B_told_ironMarks B_told_homes B_told_births B_tfo_kinds B_tfo_numbers B_tfo_stack B_tfo_facts B_draft_brands B_draft_ironMarks B_draft_homes B_draft_births B_dfo_kinds B_dfo_numbers B_dfo_stack B_dfo_facts B_lat_lowHalves B_lat_highHalves B_lat_ways B_smi_placedIrons B_smi_within B_smi_costs B_his_isKept B_book_norms B_book_above B_book_heights B_book_placedBrands B_bea_firstGains B_bea_otherGains B_wit_burnings B_wit_strokes B_wit_wasOn B_wit_toldAt B_wit_untoldAt B_wit_on B_wit_off B_wit_firstCounts B_wit_secondCounts Ps Pd G_tape_wordNames G_told_herdNames G_told_ironNames G_told_beastNames G_draft_herdNames G_draft_ironNames G_draft_beastNames Ph Po Pg ex) (qGi (fun r0 H => (-2147483648 ≤ r0 ∧ r0 ≤ 2147483647) ∧ va_P D vwCl (cW k a q x_xo_lyingCount x_tape_length x_tape_next x_tape_kind x_tape_place x_tape_number x_tape_faultKind x_tape_faultPlace x_told_turns x_told_mirror x_told_night x_told_draw x_told_herds x_told_irons x_told_beasts x_told_linesTold x_tfo_steps x_tfo_units x_draft_turns x_draft_mirror x_draft_night x_draft_draw x_draft_herds x_draft_irons x_draft_beasts x_draft_linesTold x_dfo_steps x_dfo_units x_lat_placements x_smi_irons x_smi_aim x_his_here x_his_undoable x_his_redoable x_book_placedCount x_wit_count x_wit_time n_tape_name B_xo_lying B_tape_bytes B_told_brands B_told_ironMarks B_told_homes B_told_births B_tfo_kinds B_tfo_numbers B_tfo_stack B_tfo_facts B_draft_brands B_draft_ironMarks B_draft_homes B_draft_births B_dfo_kinds B_dfo_numbers B_dfo_stack B_dfo_facts B_lat_lowHalves B_lat_highHalves B_lat_ways B_smi_placedIrons B_smi_within B_smi_costs B_his_isKept B_book_norms B_book_above B_book_heights B_book_placedBrands B_bea_firstGains B_bea_otherGains B_wit_burnings B_wit_strokes B_wit_wasOn B_wit_toldAt B_wit_untoldAt B_wit_on B_wit_off B_wit_firstCounts B_wit_secondCounts Ps Pd G_tape_wordNames G_told_herdNames G_told_ironNames G_told_beastNames G_draft_herdNames G_draft_ironNames G_draft_beastNames Ph Po Pg ex) H)) := by
  refine metG_of 2 ck_X11_odds (Nat.le_of_ble_eq_true rfl) cMap (fun p e s m args below meth c A hx hb hml hr hlocks hown hts hK hD hA hP hS ls hl => ?_)
  have hown : s.vm.findClass "HideReader" = some m.cls := hown
  have hl : lv_has ls 7 [(0, .ref (a 0)), (1, .int (mI p0)), (2, .int (mI p1))] := hl
  refine lv_iload_n hx hb dX11_odds_0 rfl (lv_at hl 1 rfl) ?_
  refine sy_if_lt (tgt := 16) hx hb dX11_odds_1 (by decide) (by omega) (fun c_1 => ?_) (fun c_1 => ?_)
  · skip
    refine lv_iconst (v := mI (-1)) hx hb dX11_odds_16 rfl ?_
    exact r_i hx hb hr hlocks dX11_odds_17 hS ⟨by omega, hP⟩
  · skip
    refine lv_iload_n hx hb dX11_odds_4 rfl (lv_at hl 1 rfl) ?_
    refine lv_iconst (v := mI 4) hx hb dX11_odds_5 rfl ?_
    refine sy_icmp_gt (tgt := 16) hx hb dX11_odds_6 (by decide) (by omega) (by decide) (fun c_2 => ?_) (fun c_2 => ?_)
    · skip
      refine lv_iconst (v := mI (-1)) hx hb dX11_odds_16 rfl ?_
      exact r_i hx hb hr hlocks dX11_odds_17 hS ⟨by omega, hP⟩
    · skip
      refine lv_iload_n hx hb dX11_odds_9 rfl (lv_at hl 2 rfl) ?_
      refine g_i (cDt hD) hS hA (g_S (own := "HideReader") (As := [.int (mI p1)]) (rest := []) hx hb hml hown hts hK hP (cDt hD) (kc_X11_isPart (l := l) (D := D) (k := k) (by omega)) ck_X11_isPart uw_5_144 uw_5_143 rfl hl.1 rfl (Nat.le_of_ble_eq_true rfl) dX11_odds_10 ⟨Nat.le_of_ble_eq_true rfl, Nat.le_of_ble_eq_true rfl⟩ ⟨Nat.le_of_ble_eq_true rfl, Nat.le_of_ble_eq_true rfl⟩) (fun r_3 H locs hQ hS => ?_)
      obtain ⟨hq_r_3, hP⟩ := hQ
      rcases hq_r_3 with ⟨rfl, c_4_0, c_4_1⟩ | ⟨rfl, c_5_0, c_5_1⟩
      · skip
        refine sy_if_ne (tgt := 18) hx hb dX11_odds_13 (by decide) (by decide) (fun c_6 => ?_) (fun c9 => absurd c9 (by decide))
        refine lv_bipush (v := mI 100) hx hb dX11_odds_18 (by decide) ?_
        refine lv_aload_n hx hb dX11_odds_20 rfl (lv_at hl 0 rfl) ?_
        refine cg_xo_told hx hb hts hown hK hP uw_2_230 dX11_odds_21 ?_
        refine cg_told_night hx hb hts hown hK hP uw_1_164 dX11_odds_24 ?_
        refine sy_isub hx hb dX11_odds_27 (-x_told_night + 100) (by omega) ?_
        refine sy_any (fun z_7 hz_7 => ?_)
        refine lv_istore_n (lv' := [(3, .int (mI z_7)), (0, .ref (a 0)), (1, .int (mI p0)), (2, .int (mI p1))]) hx hb dX11_odds_28 rfl hl (by decide) rfl (fun ls hl => ?_)
        refine lv_iload_n hx hb dX11_odds_29 rfl (lv_at hl 3 rfl) ?_
        refine sy_join (I := fun H locs g => ∃ (z_9 : Int) (ls : Array Slot), (-2147483648 ≤ z_9 ∧ z_9 ≤ 2147483647) ∧ va_P D vwCl (cW k a q x_xo_lyingCount x_tape_length x_tape_next x_tape_kind x_tape_place x_tape_number x_tape_faultKind x_tape_faultPlace x_told_turns x_told_mirror x_told_night x_told_draw x_told_herds x_told_irons x_told_beasts x_told_linesTold x_tfo_steps x_tfo_units x_draft_turns x_draft_mirror x_draft_night x_draft_draw x_draft_herds x_draft_irons x_draft_beasts x_draft_linesTold x_dfo_steps x_dfo_units x_lat_placements x_smi_irons x_smi_aim x_his_here x_his_undoable x_his_redoable x_book_placedCount x_wit_count x_wit_time n_tape_name B_xo_lying B_tape_bytes B_told_brands B_told_ironMarks B_told_homes B_told_births B_tfo_kinds B_tfo_numbers B_tfo_stack B_tfo_facts B_draft_brands B_draft_ironMarks B_draft_homes B_draft_births B_dfo_kinds B_dfo_numbers B_dfo_stack B_dfo_facts B_lat_lowHalves B_lat_highHalves B_lat_ways B_smi_placedIrons B_smi_within B_smi_costs B_his_isKept B_book_norms B_book_above B_book_heights B_book_placedBrands B_bea_firstGains B_bea_otherGains B_wit_burnings B_wit_strokes B_wit_wasOn B_wit_toldAt B_wit_untoldAt B_wit_on B_wit_off B_wit_firstCounts B_wit_secondCounts Ps Pd G_tape_wordNames G_told_herdNames G_told_ironNames G_told_beastNames G_draft_herdNames G_draft_ironNames G_draft_beastNames Ph Po Pg ex) H ∧ va_S A s.heap H locs ∧ lv_has ls 7 [(3, .int (mI z_7)), (0, .ref (a 0)), (1, .int (mI p0)), (2, .int (mI p1))] ∧ g = F0 m 39 ls [.int (mI z_9)]) ?_ ?_
        · skip
          intro H locs g hI
          obtain ⟨z_9, ls, h39_0, hP, hS, hl, rfl⟩ := hI
          refine lv_iload_n hx hb dX11_odds_39 rfl (lv_at hl 0 rfl) ?_
          refine g_i (cDt hD) hS hA (g_S (own := "HideReader") (As := [.int (mI z_9), .int (mI z_7)]) (rest := []) hx hb hml hown hts hK hP (cDt hD) (kc_X11_withoutCommon (l := l) (D := D) (k := k) (by omega) (by omega)) ck_X11_withoutCommon uw_6_72 uw_6_71 rfl hl.1 rfl (Nat.le_of_ble_eq_true rfl) dX11_odds_40 ⟨Nat.le_of_ble_eq_true rfl, Nat.le_of_ble_eq_true rfl⟩ ⟨Nat.le_of_ble_eq_true rfl, Nat.le_of_ble_eq_true rfl⟩) (fun r_11 H locs hQ hS => ?_)
          obtain ⟨hr_11_0, hP⟩ := hQ
          refine lv_istore (lv' := [(4, .int (mI r_11)), (3, .int (mI z_7)), (0, .ref (a 0)), (1, .int (mI p0)), (2, .int (mI p1))]) hx hb dX11_odds_43 hl (by decide) rfl (fun ls hl => ?_)
          refine lv_iconst (v := mI 1) hx hb dX11_odds_45 rfl ?_
          refine lv_istore (lv' := [(5, .int (mI 1)), (4, .int (mI r_11)), (3, .int (mI z_7)), (0, .ref (a 0)), (1, .int (mI p0)), (2, .int (mI p1))]) hx hb dX11_odds_46 hl (by decide) rfl (fun ls hl => ?_)
          refine lv_iconst (v := mI 0) hx hb dX11_odds_48 rfl ?_
          refine lv_istore (lv' := [(6, .int (mI 0)), (5, .int (mI 1)), (4, .int (mI r_11)), (3, .int (mI z_7)), (0, .ref (a 0)), (1, .int (mI p0)), (2, .int (mI p1))]) hx hb dX11_odds_49 hl (by decide) rfl (fun ls hl => ?_)
          refine sy_loop (I := fun n H locs g => ∃ (z_181 : Int) (z_182 : Int) (ls : Array Slot), (0 ≤ z_181 ∧ z_181 ≤ 4) ∧ (-2147483648 ≤ z_182 ∧ z_182 ≤ 2147483647) ∧ (4 - z_181).toNat = n ∧ va_P D vwCl (cW k a q x_xo_lyingCount x_tape_length x_tape_next x_tape_kind x_tape_place x_tape_number x_tape_faultKind x_tape_faultPlace x_told_turns x_told_mirror x_told_night x_told_draw x_told_herds x_told_irons x_told_beasts x_told_linesTold x_tfo_steps x_tfo_units x_draft_turns x_draft_mirror x_draft_night x_draft_draw x_draft_herds x_draft_irons x_draft_beasts x_draft_linesTold x_dfo_steps x_dfo_units x_lat_placements x_smi_irons x_smi_aim x_his_here x_his_undoable x_his_redoable x_book_placedCount x_wit_count x_wit_time n_tape_name B_xo_lying B_tape_bytes B_told_brands B_told_ironMarks B_told_homes B_told_births B_tfo_kinds B_tfo_numbers B_tfo_stack B_tfo_facts B_draft_brands B_draft_ironMarks B_draft_homes B_draft_births B_dfo_kinds B_dfo_numbers B_dfo_stack B_dfo_facts B_lat_lowHalves B_lat_highHalves B_lat_ways B_smi_placedIrons B_smi_within B_smi_costs B_his_isKept B_book_norms B_book_above B_book_heights B_book_placedBrands B_bea_firstGains B_bea_otherGains B_wit_burnings B_wit_strokes B_wit_wasOn B_wit_toldAt B_wit_untoldAt B_wit_on B_wit_off B_wit_firstCounts B_wit_secondCounts Ps Pd G_tape_wordNames G_told_herdNames G_told_ironNames G_told_beastNames G_draft_herdNames G_draft_ironNames G_draft_beastNames Ph Po Pg ex) H ∧ va_S A s.heap H locs ∧ lv_has ls 7 [(6, .int (mI z_181)), (5, .int (mI z_182)), (4, .int (mI r_11)), (3, .int (mI z_7)), (0, .ref (a 0)), (1, .int (mI p0)), (2, .int (mI p1))] ∧ g = F0 m 51 ls []) ?_ _ ⟨0, 1, _, by omega, by omega, rfl, hP, hS, lv_sub hl [0, 1, 2, 3, 4, 5, 6] rfl, rfl⟩
          intro n_185 H locs g hI ih_186
          obtain ⟨z_181, z_182, ls, h51_0, h51_1, mn_185, hP, hS, hl, rfl⟩ := hI
          refine lv_iload hx hb dX11_odds_51 (lv_at hl 0 rfl) ?_
          refine lv_iload_n hx hb dX11_odds_53 rfl (lv_at hl 5 rfl) ?_
          refine sy_icmp_ge (tgt := 70) hx hb dX11_odds_54 (by decide) (by omega) (by omega) (fun c_187 => ?_) (fun c_187 => ?_)
          · skip
            refine lv_iload hx hb dX11_odds_70 (lv_at hl 1 rfl) ?_
            exact r_i hx hb hr hlocks dX11_odds_72 hS ⟨by omega, hP⟩
          · skip
            refine lv_iload hx hb dX11_odds_57 (lv_at hl 1 rfl) ?_
            refine lv_iload hx hb dX11_odds_59 (lv_at hl 2 rfl) ?_
            refine sy_imul hx hb dX11_odds_61 _ rfl ?_
            refine sy_any (fun z_188 hz_188 => ?_)
            refine lv_istore (lv' := [(5, .int (mI z_188)), (6, .int (mI z_181)), (4, .int (mI r_11)), (3, .int (mI z_7)), (0, .ref (a 0)), (1, .int (mI p0)), (2, .int (mI p1))]) hx hb dX11_odds_62 hl (by decide) rfl (fun ls hl => ?_)
            refine lv_iinc (v := mI (z_181 + 1)) (lv' := [(6, .int (mI (z_181 + 1))), (5, .int (mI z_188)), (4, .int (mI r_11)), (3, .int (mI z_7)), (0, .ref (a 0)), (1, .int (mI p0)), (2, .int (mI p1))]) hx hb dX11_odds_64 hl (k := 1) rfl (mI_ad rfl) (by decide) rfl (fun ls hl => ?_)
            refine lv_goto (tgt := 51) hx hb dX11_odds_67 (by decide) ?_
            exact ih_186 _ _ _ _ (by omega) ⟨(z_181 + 1), z_188, _, by omega, by omega, rfl, hP, hS, lv_sub hl [0, 1, 2, 3, 4, 5, 6] rfl, rfl⟩
        · skip
          intro J_10
          refine sy_if_ne (tgt := 37) hx hb dX11_odds_30 (by decide) (by omega) (fun c_189 => ?_) (fun c_189 => ?_)
          · skip
            refine lv_bipush (v := mI 100) hx hb dX11_odds_37 (by decide) ?_
            exact J_10 _ _ _ ⟨100, _, by omega, hP, hS, lv_sub hl [0, 1, 2, 3] rfl, rfl⟩
          · skip
            refine lv_iload_n hx hb dX11_odds_33 rfl (lv_at hl 0 rfl) ?_
            refine lv_goto (tgt := 39) hx hb dX11_odds_34 (by decide) ?_
            exact J_10 _ _ _ ⟨z_7, _, by omega, hP, hS, lv_sub hl [0, 1, 2, 3] rfl, rfl⟩
      · skip
        refine sy_if_ne (tgt := 18) hx hb dX11_odds_13 (by decide) (by decide) (fun c9 => absurd c9 (by decide)) (fun c_190 => ?_)
        refine lv_iconst (v := mI (-1)) hx hb dX11_odds_16 rfl ?_
        exact r_i hx hb hr hlocks dX11_odds_17 hS ⟨by omega, hP⟩
set_option maxHeartbeats 4000000 in
set_option maxRecDepth 100000 in
theorem kc_X11_lies {p0 : Int} (hp0 : -2147483648 ≤ p0 ∧ p0 ≤ 2147483647) (h_x_xo_lyingCount : 0 ≤ x_xo_lyingCount ∧ x_xo_lyingCount ≤ 16) (b_B_xo_lying : bd (-2147483648) 2147483647 B_xo_lying) : MetG l D k yX11_lies cX11_lies 2 (some .int) 0 [.ref (a 0), .int (mI p0)] (cW k a q x_xo_lyingCount x_tape_length x_tape_next x_tape_kind x_tape_place x_tape_number x_tape_faultKind x_tape_faultPlace x_told_turns x_told_mirror x_told_night x_told_draw x_told_herds x_told_irons x_told_beasts x_told_linesTold x_tfo_steps x_tfo_units x_draft_turns x_draft_mirror x_draft_night x_draft_draw x_draft_herds x_draft_irons x_draft_beasts x_draft_linesTold x_dfo_steps x_dfo_units x_lat_placements x_smi_irons x_smi_aim x_his_here x_his_undoable x_his_redoable x_book_placedCount x_wit_count x_wit_time n_tape_name B_xo_lying B_tape_bytes B_told_brands B_told_ironMarks B_told_homes B_told_births B_tfo_kinds B_tfo_numbers B_tfo_stack B_tfo_facts B_draft_brands B_draft_ironMarks B_draft_homes B_draft_births B_dfo_kinds B_dfo_numbers B_dfo_stack B_dfo_facts B_lat_lowHalves B_lat_highHalves B_lat_ways B_smi_placedIrons B_smi_within B_smi_costs B_his_isKept B_book_norms B_book_above B_book_heights B_book_placedBrands B_bea_firstGains B_bea_otherGains B_wit_burnings B_wit_strokes B_wit_wasOn B_wit_toldAt B_wit_untoldAt B_wit_on B_wit_off B_wit_firstCounts B_wit_secondCounts Ps Pd G_tape_wordNames G_told_herdNames G_told_ironNames G_told_beastNames G_draft_herdNames G_draft_ironNames G_draft_beastNames Ph Po Pg ex) (qGi (fun r0 H => (-2147483648 ≤ r0 ∧ r0 ≤ 2147483647) ∧ va_P D vwCl (cW k a q x_xo_lyingCount x_tape_length x_tape_next x_tape_kind x_tape_place x_tape_number x_tape_faultKind x_tape_faultPlace x_told_turns x_told_mirror x_told_night x_told_draw x_told_herds x_told_irons x_told_beasts x_told_linesTold x_tfo_steps x_tfo_units x_draft_turns x_draft_mirror x_draft_night x_draft_draw x_draft_herds x_draft_irons x_draft_beasts x_draft_linesTold x_dfo_steps x_dfo_units x_lat_placements x_smi_irons x_smi_aim x_his_here x_his_undoable x_his_redoable x_book_placedCount x_wit_count x_wit_time n_tape_name B_xo_lying B_tape_bytes B_told_brands B_told_ironMarks B_told_homes B_told_births B_tfo_kinds B_tfo_numbers B_tfo_stack B_tfo_facts B_draft_brands B_draft_ironMarks B_draft_homes B_draft_births B_dfo_kinds B_dfo_numbers B_dfo_stack B_dfo_facts B_lat_lowHalves B_lat_highHalves B_lat_ways B_smi_placedIrons B_smi_within B_smi_costs B_his_isKept B_book_norms B_book_above B_book_heights B_book_placedBrands B_bea_firstGains B_bea_otherGains B_wit_burnings B_wit_strokes B_wit_wasOn B_wit_toldAt B_wit_untoldAt B_wit_on B_wit_off B_wit_firstCounts B_wit_secondCounts Ps Pd G_tape_wordNames G_told_herdNames G_told_ironNames G_told_beastNames G_draft_herdNames G_draft_ironNames G_draft_beastNames Ph Po Pg ex) H)) := by
  refine metG_of 1 ck_X11_lies (Nat.le_of_ble_eq_true rfl) cMap (fun p e s m args below meth c A hx hb hml hr hlocks hown hts hK hD hA hP hS ls hl => ?_)
  have hown : s.vm.findClass "HideReader" = some m.cls := hown
  have hl : lv_has ls 2 [(0, .ref (a 0)), (1, .int (mI p0))] := hl
  refine lv_iload_n hx hb dX11_lies_0 rfl (lv_at hl 1 rfl) ?_
  refine sy_if_lt (tgt := 21) hx hb dX11_lies_1 (by decide) (by omega) (fun c_1 => ?_) (fun c_1 => ?_)
  · skip
    refine lv_iconst (v := mI (-1)) hx hb dX11_lies_21 rfl ?_
    exact r_i hx hb hr hlocks dX11_lies_22 hS ⟨by omega, hP⟩
  · skip
    refine lv_iload_n hx hb dX11_lies_4 rfl (lv_at hl 1 rfl) ?_
    refine lv_aload_n hx hb dX11_lies_5 rfl (lv_at hl 0 rfl) ?_
    refine cg_xo_lyingCount hx hb hts hown hK hP uw_3_0 dX11_lies_6 ?_
    refine sy_icmp_ge (tgt := 21) hx hb dX11_lies_9 (by decide) (by omega) (by omega) (fun c_2 => ?_) (fun c_2 => ?_)
    · skip
      refine lv_iconst (v := mI (-1)) hx hb dX11_lies_21 rfl ?_
      exact r_i hx hb hr hlocks dX11_lies_22 hS ⟨by omega, hP⟩
    · skip
      refine lv_aload_n hx hb dX11_lies_12 rfl (lv_at hl 0 rfl) ?_
      refine cg_xo_lying hx hb hts hown hK hP uw_2_239 dX11_lies_13 ?_
      refine lv_iload_n hx hb dX11_lies_16 rfl (lv_at hl 1 rfl) ?_
      refine cl_xo_lying hx hb hK hP dX11_lies_17 (by omega) b_B_xo_lying (fun z_3 _ hz_3 => ?_)
      refine lv_goto (tgt := 22) hx hb dX11_lies_18 (by decide) ?_
      exact r_i hx hb hr hlocks dX11_lies_22 hS ⟨by omega, hP⟩
set_option maxHeartbeats 4000000 in
set_option maxRecDepth 100000 in
theorem kc_X11_isBurning {p0 : Int} (hp0 : -2147483648 ≤ p0 ∧ p0 ≤ 2147483647) : MetG l D k yX11_isBurning cX11_isBurning 1 (some .boolean) 0 [.int (mI p0)] (cW k a q x_xo_lyingCount x_tape_length x_tape_next x_tape_kind x_tape_place x_tape_number x_tape_faultKind x_tape_faultPlace x_told_turns x_told_mirror x_told_night x_told_draw x_told_herds x_told_irons x_told_beasts x_told_linesTold x_tfo_steps x_tfo_units x_draft_turns x_draft_mirror x_draft_night x_draft_draw x_draft_herds x_draft_irons x_draft_beasts x_draft_linesTold x_dfo_steps x_dfo_units x_lat_placements x_smi_irons x_smi_aim x_his_here x_his_undoable x_his_redoable x_book_placedCount x_wit_count x_wit_time n_tape_name B_xo_lying B_tape_bytes B_told_brands B_told_ironMarks B_told_homes B_told_births B_tfo_kinds B_tfo_numbers B_tfo_stack B_tfo_facts B_draft_brands B_draft_ironMarks B_draft_homes B_draft_births B_dfo_kinds B_dfo_numbers B_dfo_stack B_dfo_facts B_lat_lowHalves B_lat_highHalves B_lat_ways B_smi_placedIrons B_smi_within B_smi_costs B_his_isKept B_book_norms B_book_above B_book_heights B_book_placedBrands B_bea_firstGains B_bea_otherGains B_wit_burnings B_wit_strokes B_wit_wasOn B_wit_toldAt B_wit_untoldAt B_wit_on B_wit_off B_wit_firstCounts B_wit_secondCounts Ps Pd G_tape_wordNames G_told_herdNames G_told_ironNames G_told_beastNames G_draft_herdNames G_draft_ironNames G_draft_beastNames Ph Po Pg ex) (qGi (fun r0 H => ((1 = r0 ∧ (1 ≤ p0 ∧ p0 ≤ 2) ∧ ((p0 = 1) ∨ (p0 ≠ 1 ∧ p0 = 2))) ∨ (0 = r0 ∧ (¬ p0 = 1) ∧ (¬ p0 = 2))) ∧ va_P D vwCl (cW k a q x_xo_lyingCount x_tape_length x_tape_next x_tape_kind x_tape_place x_tape_number x_tape_faultKind x_tape_faultPlace x_told_turns x_told_mirror x_told_night x_told_draw x_told_herds x_told_irons x_told_beasts x_told_linesTold x_tfo_steps x_tfo_units x_draft_turns x_draft_mirror x_draft_night x_draft_draw x_draft_herds x_draft_irons x_draft_beasts x_draft_linesTold x_dfo_steps x_dfo_units x_lat_placements x_smi_irons x_smi_aim x_his_here x_his_undoable x_his_redoable x_book_placedCount x_wit_count x_wit_time n_tape_name B_xo_lying B_tape_bytes B_told_brands B_told_ironMarks B_told_homes B_told_births B_tfo_kinds B_tfo_numbers B_tfo_stack B_tfo_facts B_draft_brands B_draft_ironMarks B_draft_homes B_draft_births B_dfo_kinds B_dfo_numbers B_dfo_stack B_dfo_facts B_lat_lowHalves B_lat_highHalves B_lat_ways B_smi_placedIrons B_smi_within B_smi_costs B_his_isKept B_book_norms B_book_above B_book_heights B_book_placedBrands B_bea_firstGains B_bea_otherGains B_wit_burnings B_wit_strokes B_wit_wasOn B_wit_toldAt B_wit_untoldAt B_wit_on B_wit_off B_wit_firstCounts B_wit_secondCounts Ps Pd G_tape_wordNames G_told_herdNames G_told_ironNames G_told_beastNames G_draft_herdNames G_draft_ironNames G_draft_beastNames Ph Po Pg ex) H)) := by
  refine metG_of 1 ck_X11_isBurning (Nat.le_of_ble_eq_true rfl) cMap (fun p e s m args below meth c A hx hb hml hr hlocks hown hts hK hD hA hP hS ls hl => ?_)
  have hown : s.vm.findClass "HideReader" = some m.cls := hown
  have hl : lv_has ls 1 [(0, .int (mI p0))] := hl
  refine lv_iload_n hx hb dX11_isBurning_0 rfl (lv_at hl 0 rfl) ?_
  refine lv_iconst (v := mI 1) hx hb dX11_isBurning_1 rfl ?_
  refine sy_icmp_eq (tgt := 10) hx hb dX11_isBurning_2 (by decide) (by omega) (by decide) (fun c_1 => ?_) (fun c_1 => ?_)
  · skip
    refine lv_iconst (v := mI 1) hx hb dX11_isBurning_10 rfl ?_
    refine lv_goto (tgt := 15) hx hb dX11_isBurning_11 (by decide) ?_
    exact r_z hx hb hr hlocks dX11_isBurning_15 hS (by decide) ⟨Or.inl (⟨rfl, by omega, by omega⟩), hP⟩
  · skip
    refine lv_iload_n hx hb dX11_isBurning_5 rfl (lv_at hl 0 rfl) ?_
    refine lv_iconst (v := mI 2) hx hb dX11_isBurning_6 rfl ?_
    refine sy_icmp_ne (tgt := 14) hx hb dX11_isBurning_7 (by decide) (by omega) (by decide) (fun c_2 => ?_) (fun c_2 => ?_)
    · skip
      refine lv_iconst (v := mI 0) hx hb dX11_isBurning_14 rfl ?_
      exact r_z hx hb hr hlocks dX11_isBurning_15 hS (by decide) ⟨Or.inr (⟨rfl, by omega, by omega⟩), hP⟩
    · skip
      refine lv_iconst (v := mI 1) hx hb dX11_isBurning_10 rfl ?_
      refine lv_goto (tgt := 15) hx hb dX11_isBurning_11 (by decide) ?_
      exact r_z hx hb hr hlocks dX11_isBurning_15 hS (by decide) ⟨Or.inl (⟨rfl, by omega, by omega⟩), hP⟩
set_option maxHeartbeats 4000000 in
set_option maxRecDepth 100000 in
theorem kc_X11_seen {p0 p1 p2 : Int} (hp0 : -2147483648 ≤ p0 ∧ p0 ≤ 2147483647) (hp1 : -2147483648 ≤ p1 ∧ p1 ≤ 2147483647) (hp2 : 0 ≤ p2 ∧ p2 ≤ 1) (h_x_told_beasts : 0 ≤ x_told_beasts ∧ x_told_beasts ≤ 8) (h_x_wit_count : 0 ≤ x_wit_count ∧ x_wit_count ≤ 30) (h_x_wit_time : 0 ≤ x_wit_time ∧ x_wit_time ≤ 100000) (b_B_wit_burnings : bd (0) 2 B_wit_burnings) (b_B_wit_strokes : bd (0) 11 B_wit_strokes) (b_B_wit_wasOn : bd (0) 1 B_wit_wasOn) (b_B_wit_toldAt : bd (-2147483648) 2147483647 B_wit_toldAt) (b_B_wit_untoldAt : bd (-2147483648) 2147483647 B_wit_untoldAt) (g_U : bU x_wit_count B_wit_burnings) : MetG l D k yX11_seen cX11_seen 4 (some .int) 1 [.ref (a 0), .int (mI p0), .int (mI p1), .int (mI p2)] (cW k a q x_xo_lyingCount x_tape_length x_tape_next x_tape_kind x_tape_place x_tape_number x_tape_faultKind x_tape_faultPlace x_told_turns x_told_mirror x_told_night x_told_draw x_told_herds x_told_irons x_told_beasts x_told_linesTold x_tfo_steps x_tfo_units x_draft_turns x_draft_mirror x_draft_night x_draft_draw x_draft_herds x_draft_irons x_draft_beasts x_draft_linesTold x_dfo_steps x_dfo_units x_lat_placements x_smi_irons x_smi_aim x_his_here x_his_undoable x_his_redoable x_book_placedCount x_wit_count x_wit_time n_tape_name B_xo_lying B_tape_bytes B_told_brands B_told_ironMarks B_told_homes B_told_births B_tfo_kinds B_tfo_numbers B_tfo_stack B_tfo_facts B_draft_brands B_draft_ironMarks B_draft_homes B_draft_births B_dfo_kinds B_dfo_numbers B_dfo_stack B_dfo_facts B_lat_lowHalves B_lat_highHalves B_lat_ways B_smi_placedIrons B_smi_within B_smi_costs B_his_isKept B_book_norms B_book_above B_book_heights B_book_placedBrands B_bea_firstGains B_bea_otherGains B_wit_burnings B_wit_strokes B_wit_wasOn B_wit_toldAt B_wit_untoldAt B_wit_on B_wit_off B_wit_firstCounts B_wit_secondCounts Ps Pd G_tape_wordNames G_told_herdNames G_told_ironNames G_told_beastNames G_draft_herdNames G_draft_ironNames G_draft_beastNames Ph Po Pg ex) (qGi (fun r0 H => ∃ (F_wit_burnings : Nat → Int) (F_wit_strokes : Nat → Int) (F_wit_wasOn : Nat → Int) (F_wit_toldAt : Nat → Int) (F_wit_untoldAt : Nat → Int) (y_wit_count : Int), (-1 ≤ r0 ∧ r0 ≤ 29) ∧ (bd (0) 2 F_wit_burnings) ∧ (bd (0) 11 F_wit_strokes) ∧ (bd (0) 1 F_wit_wasOn) ∧ (bd (-2147483648) 2147483647 F_wit_toldAt) ∧ (bd (-2147483648) 2147483647 F_wit_untoldAt) ∧ (0 ≤ y_wit_count ∧ y_wit_count ≤ 30) ∧ (0 ≤ y_wit_count - x_wit_count) ∧ (bU y_wit_count F_wit_burnings) ∧ va_P D vwCl (cW k a q x_xo_lyingCount x_tape_length x_tape_next x_tape_kind x_tape_place x_tape_number x_tape_faultKind x_tape_faultPlace x_told_turns x_told_mirror x_told_night x_told_draw x_told_herds x_told_irons x_told_beasts x_told_linesTold x_tfo_steps x_tfo_units x_draft_turns x_draft_mirror x_draft_night x_draft_draw x_draft_herds x_draft_irons x_draft_beasts x_draft_linesTold x_dfo_steps x_dfo_units x_lat_placements x_smi_irons x_smi_aim x_his_here x_his_undoable x_his_redoable x_book_placedCount y_wit_count x_wit_time n_tape_name B_xo_lying B_tape_bytes B_told_brands B_told_ironMarks B_told_homes B_told_births B_tfo_kinds B_tfo_numbers B_tfo_stack B_tfo_facts B_draft_brands B_draft_ironMarks B_draft_homes B_draft_births B_dfo_kinds B_dfo_numbers B_dfo_stack B_dfo_facts B_lat_lowHalves B_lat_highHalves B_lat_ways B_smi_placedIrons B_smi_within B_smi_costs B_his_isKept B_book_norms B_book_above B_book_heights B_book_placedBrands B_bea_firstGains B_bea_otherGains F_wit_burnings F_wit_strokes F_wit_wasOn F_wit_toldAt F_wit_untoldAt B_wit_on B_wit_off B_wit_firstCounts B_wit_secondCounts Ps Pd G_tape_wordNames G_told_herdNames G_told_ironNames G_told_beastNames G_draft_herdNames G_draft_ironNames G_draft_beastNames Ph Po Pg ex) H)) := by
  refine metG_of 3 ck_X11_seen (Nat.le_of_ble_eq_true rfl) cMap (fun p e s m args below meth c A hx hb hml hr hlocks hown hts hK hD hA hP hS ls hl => ?_)
  have hown : s.vm.findClass "HideReader" = some m.cls := hown
  have hl : lv_has ls 4 [(0, .ref (a 0)), (1, .int (mI p0)), (2, .int (mI p1)), (3, .int (mI p2))] := hl
  refine lv_iload_n hx hb dX11_seen_0 rfl (lv_at hl 1 rfl) ?_
  refine g_i (cDt hD) hS hA (g_S (own := "HideReader") (As := [.int (mI p0)]) (rest := []) hx hb hml hown hts hK hP (cDt hD) (kc_X11_isBurning (l := l) (D := D) (k := k) (by omega)) ck_X11_isBurning uw_6_83 uw_6_82 rfl hl.1 rfl (Nat.le_of_ble_eq_true rfl) dX11_seen_1 ⟨Nat.le_of_ble_eq_true rfl, Nat.le_of_ble_eq_true rfl⟩ ⟨Nat.le_of_ble_eq_true rfl, Nat.le_of_ble_eq_true rfl⟩) (fun r_1 H locs hQ hS => ?_)
  obtain ⟨hq_r_1, hP⟩ := hQ
  rcases hq_r_1 with ⟨rfl, c_2_0, c_2_1⟩ | ⟨rfl, c_3_0, c_3_1⟩
  · skip
    refine sy_if_eq (tgt := 24) hx hb dX11_seen_4 (by decide) (by decide) (fun c9 => absurd c9 (by decide)) (fun c_4 => ?_)
    refine lv_iload_n hx hb dX11_seen_7 rfl (lv_at hl 2 rfl) ?_
    refine g_i (cDt hD) hS hA (g_S (own := "HideReader") (As := [.int (mI p1)]) (rest := []) hx hb hml hown hts hK hP (cDt hD) (kc_X11_isStroke (l := l) (D := D) (k := k) (by omega)) ck_X11_isStroke uw_4_163 uw_4_162 rfl hl.1 rfl (Nat.le_of_ble_eq_true rfl) dX11_seen_8 ⟨Nat.le_of_ble_eq_true rfl, Nat.le_of_ble_eq_true rfl⟩ ⟨Nat.le_of_ble_eq_true rfl, Nat.le_of_ble_eq_true rfl⟩) (fun r_5 H locs hQ hS => ?_)
    obtain ⟨hq_r_5, hP⟩ := hQ
    rcases hq_r_5 with ⟨rfl, c_6_0⟩ | ⟨rfl, c_7_0⟩
    · skip
      refine sy_if_eq (tgt := 24) hx hb dX11_seen_11 (by decide) (by decide) (fun c_8 => ?_) (fun c9 => absurd c9 (by decide))
      refine lv_iconst (v := mI (-1)) hx hb dX11_seen_24 rfl ?_
      exact r_i hx hb hr hlocks dX11_seen_25 hS ⟨B_wit_burnings, B_wit_strokes, B_wit_wasOn, B_wit_toldAt, B_wit_untoldAt, x_wit_count, by omega, b_B_wit_burnings, b_B_wit_strokes, b_B_wit_wasOn, b_B_wit_toldAt, b_B_wit_untoldAt, by omega, by omega, g_U, hP⟩
    · skip
      refine sy_if_eq (tgt := 24) hx hb dX11_seen_11 (by decide) (by decide) (fun c9 => absurd c9 (by decide)) (fun c_9 => ?_)
      refine lv_aload_n hx hb dX11_seen_14 rfl (lv_at hl 0 rfl) ?_
      refine cg_xo_told hx hb hts hown hK hP uw_2_230 dX11_seen_15 ?_
      refine cg_told_beasts hx hb hts hown hK hP uw_1_183 dX11_seen_18 ?_
      refine sy_if_ne (tgt := 26) hx hb dX11_seen_21 (by decide) (by omega) (fun c_10 => ?_) (fun c_10 => ?_)
      · skip
        refine lv_aload_n hx hb dX11_seen_26 rfl (lv_at hl 0 rfl) ?_
        refine cg_xo_witness hx hb hts hown hK hP uw_2_238 dX11_seen_27 ?_
        refine lv_iload_n hx hb dX11_seen_30 rfl (lv_at hl 1 rfl) ?_
        refine lv_iload_n hx hb dX11_seen_31 rfl (lv_at hl 2 rfl) ?_
        refine lv_iload_n hx hb dX11_seen_32 rfl (lv_at hl 3 rfl) ?_
        refine g_i (cDt hD) hS hA (g_V (own := "HideReader") (As := [.int (mI p0), .int (mI p1), .int (mI p2)]) (rest := []) hx hb hml hown hts hK hP (cDt hD) (kc_X10_tell (l := l) (D := D) (k := k) (by omega) (by omega) (by omega) h_x_wit_count h_x_wit_time b_B_wit_burnings b_B_wit_strokes b_B_wit_wasOn b_B_wit_toldAt b_B_wit_untoldAt g_U) ck_X10_tell iv_X10_tell uw_6_85 (cv_wit hK hP) rfl hl.1 rfl (Nat.le_of_ble_eq_true rfl) dX11_seen_33 ⟨Nat.le_of_ble_eq_true rfl, Nat.le_of_ble_eq_true rfl⟩ ⟨Nat.le_of_ble_eq_true rfl, Nat.le_of_ble_eq_true rfl⟩) (fun r_11 H locs hQ hS => ?_)
        obtain ⟨F_12, F_13, F_14, F_15, F_16, y_17, hr_11_0, bF_12, bF_13, bF_14, bF_15, bF_16, hr_11_6, hr_11_7, kr_11_U, hP⟩ := hQ
        exact r_i hx hb hr hlocks dX11_seen_36 hS ⟨F_12, F_13, F_14, F_15, F_16, y_17, by omega, bF_12, bF_13, bF_14, bF_15, bF_16, by omega, by omega, kr_11_U, hP⟩
      · skip
        refine lv_iconst (v := mI (-1)) hx hb dX11_seen_24 rfl ?_
        exact r_i hx hb hr hlocks dX11_seen_25 hS ⟨B_wit_burnings, B_wit_strokes, B_wit_wasOn, B_wit_toldAt, B_wit_untoldAt, x_wit_count, by omega, b_B_wit_burnings, b_B_wit_strokes, b_B_wit_wasOn, b_B_wit_toldAt, b_B_wit_untoldAt, by omega, by omega, g_U, hP⟩
  · skip
    refine sy_if_eq (tgt := 24) hx hb dX11_seen_4 (by decide) (by decide) (fun c_18 => ?_) (fun c9 => absurd c9 (by decide))
    refine lv_iconst (v := mI (-1)) hx hb dX11_seen_24 rfl ?_
    exact r_i hx hb hr hlocks dX11_seen_25 hS ⟨B_wit_burnings, B_wit_strokes, B_wit_wasOn, B_wit_toldAt, B_wit_untoldAt, x_wit_count, by omega, b_B_wit_burnings, b_B_wit_strokes, b_B_wit_wasOn, b_B_wit_toldAt, b_B_wit_untoldAt, by omega, by omega, g_U, hP⟩
set_option maxHeartbeats 4000000 in
set_option maxRecDepth 100000 in
theorem kc_X11_untell {p0 : Int} (hp0 : -2147483648 ≤ p0 ∧ p0 ≤ 2147483647) (h_x_wit_count : 0 ≤ x_wit_count ∧ x_wit_count ≤ 30) (h_x_wit_time : 0 ≤ x_wit_time ∧ x_wit_time ≤ 100000) (b_B_wit_untoldAt : bd (-2147483648) 2147483647 B_wit_untoldAt) : MetG l D k yX11_untell cX11_untell 2 (some .boolean) 1 [.ref (a 0), .int (mI p0)] (cW k a q x_xo_lyingCount x_tape_length x_tape_next x_tape_kind x_tape_place x_tape_number x_tape_faultKind x_tape_faultPlace x_told_turns x_told_mirror x_told_night x_told_draw x_told_herds x_told_irons x_told_beasts x_told_linesTold x_tfo_steps x_tfo_units x_draft_turns x_draft_mirror x_draft_night x_draft_draw x_draft_herds x_draft_irons x_draft_beasts x_draft_linesTold x_dfo_steps x_dfo_units x_lat_placements x_smi_irons x_smi_aim x_his_here x_his_undoable x_his_redoable x_book_placedCount x_wit_count x_wit_time n_tape_name B_xo_lying B_tape_bytes B_told_brands B_told_ironMarks B_told_homes B_told_births B_tfo_kinds B_tfo_numbers B_tfo_stack B_tfo_facts B_draft_brands B_draft_ironMarks B_draft_homes B_draft_births B_dfo_kinds B_dfo_numbers B_dfo_stack B_dfo_facts B_lat_lowHalves B_lat_highHalves B_lat_ways B_smi_placedIrons B_smi_within B_smi_costs B_his_isKept B_book_norms B_book_above B_book_heights B_book_placedBrands B_bea_firstGains B_bea_otherGains B_wit_burnings B_wit_strokes B_wit_wasOn B_wit_toldAt B_wit_untoldAt B_wit_on B_wit_off B_wit_firstCounts B_wit_secondCounts Ps Pd G_tape_wordNames G_told_herdNames G_told_ironNames G_told_beastNames G_draft_herdNames G_draft_ironNames G_draft_beastNames Ph Po Pg ex) (qGi (fun r0 H => ∃ (F_wit_untoldAt : Nat → Int), (0 ≤ r0 ∧ r0 ≤ 1) ∧ (bd (-2147483648) 2147483647 F_wit_untoldAt) ∧ va_P D vwCl (cW k a q x_xo_lyingCount x_tape_length x_tape_next x_tape_kind x_tape_place x_tape_number x_tape_faultKind x_tape_faultPlace x_told_turns x_told_mirror x_told_night x_told_draw x_told_herds x_told_irons x_told_beasts x_told_linesTold x_tfo_steps x_tfo_units x_draft_turns x_draft_mirror x_draft_night x_draft_draw x_draft_herds x_draft_irons x_draft_beasts x_draft_linesTold x_dfo_steps x_dfo_units x_lat_placements x_smi_irons x_smi_aim x_his_here x_his_undoable x_his_redoable x_book_placedCount x_wit_count x_wit_time n_tape_name B_xo_lying B_tape_bytes B_told_brands B_told_ironMarks B_told_homes B_told_births B_tfo_kinds B_tfo_numbers B_tfo_stack B_tfo_facts B_draft_brands B_draft_ironMarks B_draft_homes B_draft_births B_dfo_kinds B_dfo_numbers B_dfo_stack B_dfo_facts B_lat_lowHalves B_lat_highHalves B_lat_ways B_smi_placedIrons B_smi_within B_smi_costs B_his_isKept B_book_norms B_book_above B_book_heights B_book_placedBrands B_bea_firstGains B_bea_otherGains B_wit_burnings B_wit_strokes B_wit_wasOn B_wit_toldAt F_wit_untoldAt B_wit_on B_wit_off B_wit_firstCounts B_wit_secondCounts Ps Pd G_tape_wordNames G_told_herdNames G_told_ironNames G_told_beastNames G_draft_herdNames G_draft_ironNames G_draft_beastNames Ph Po Pg ex) H)) := by
  refine metG_of 1 ck_X11_untell (Nat.le_of_ble_eq_true rfl) cMap (fun p e s m args below meth c A hx hb hml hr hlocks hown hts hK hD hA hP hS ls hl => ?_)
  have hown : s.vm.findClass "HideReader" = some m.cls := hown
  have hl : lv_has ls 2 [(0, .ref (a 0)), (1, .int (mI p0))] := hl
  refine lv_aload_n hx hb dX11_untell_0 rfl (lv_at hl 0 rfl) ?_
  refine cg_xo_witness hx hb hts hown hK hP uw_2_238 dX11_untell_1 ?_
  refine lv_iload_n hx hb dX11_untell_4 rfl (lv_at hl 1 rfl) ?_
  refine g_i (cDt hD) hS hA (g_V (own := "HideReader") (As := [.int (mI p0)]) (rest := []) hx hb hml hown hts hK hP (cDt hD) (kc_X10_takeBack (l := l) (D := D) (k := k) (by omega) h_x_wit_count h_x_wit_time b_B_wit_untoldAt) ck_X10_takeBack iv_X10_takeBack uw_6_93 (cv_wit hK hP) rfl hl.1 rfl (Nat.le_of_ble_eq_true rfl) dX11_untell_5 ⟨Nat.le_of_ble_eq_true rfl, Nat.le_of_ble_eq_true rfl⟩ ⟨Nat.le_of_ble_eq_true rfl, Nat.le_of_ble_eq_true rfl⟩) (fun r_1 H locs hQ hS => ?_)
  obtain ⟨F_2, hr_1_0, bF_2, hP⟩ := hQ
  exact r_z hx hb hr hlocks dX11_untell_8 hS (by omega) ⟨F_2, by omega, bF_2, hP⟩
set_option maxHeartbeats 4000000 in
set_option maxRecDepth 100000 in
theorem kc_X11_later {p0 : Int} (hp0 : -2147483648 ≤ p0 ∧ p0 ≤ 2147483647) (h_x_wit_time : 0 ≤ x_wit_time ∧ x_wit_time ≤ 100000) : MetG l D k yX11_later cX11_later 2 (some .int) 1 [.ref (a 0), .int (mI p0)] (cW k a q x_xo_lyingCount x_tape_length x_tape_next x_tape_kind x_tape_place x_tape_number x_tape_faultKind x_tape_faultPlace x_told_turns x_told_mirror x_told_night x_told_draw x_told_herds x_told_irons x_told_beasts x_told_linesTold x_tfo_steps x_tfo_units x_draft_turns x_draft_mirror x_draft_night x_draft_draw x_draft_herds x_draft_irons x_draft_beasts x_draft_linesTold x_dfo_steps x_dfo_units x_lat_placements x_smi_irons x_smi_aim x_his_here x_his_undoable x_his_redoable x_book_placedCount x_wit_count x_wit_time n_tape_name B_xo_lying B_tape_bytes B_told_brands B_told_ironMarks B_told_homes B_told_births B_tfo_kinds B_tfo_numbers B_tfo_stack B_tfo_facts B_draft_brands B_draft_ironMarks B_draft_homes B_draft_births B_dfo_kinds B_dfo_numbers B_dfo_stack B_dfo_facts B_lat_lowHalves B_lat_highHalves B_lat_ways B_smi_placedIrons B_smi_within B_smi_costs B_his_isKept B_book_norms B_book_above B_book_heights B_book_placedBrands B_bea_firstGains B_bea_otherGains B_wit_burnings B_wit_strokes B_wit_wasOn B_wit_toldAt B_wit_untoldAt B_wit_on B_wit_off B_wit_firstCounts B_wit_secondCounts Ps Pd G_tape_wordNames G_told_herdNames G_told_ironNames G_told_beastNames G_draft_herdNames G_draft_ironNames G_draft_beastNames Ph Po Pg ex) (qGi (fun r0 H => ∃ (y_wit_time : Int), (-1 ≤ r0 ∧ r0 ≤ 100000) ∧ (0 ≤ y_wit_time ∧ y_wit_time ≤ 100000) ∧ (0 ≤ y_wit_time - x_wit_time) ∧ ((0 ≤ p0 ∧ p0 ≤ 1000 ∧ x_wit_time + p0 ≤ 100000 ∧ r0 = x_wit_time + p0 ∧ y_wit_time = x_wit_time + p0) ∨ (¬ (0 ≤ p0 ∧ p0 ≤ 1000 ∧ x_wit_time + p0 ≤ 100000) ∧ r0 = -1 ∧ y_wit_time = x_wit_time)) ∧ va_P D vwCl (cW k a q x_xo_lyingCount x_tape_length x_tape_next x_tape_kind x_tape_place x_tape_number x_tape_faultKind x_tape_faultPlace x_told_turns x_told_mirror x_told_night x_told_draw x_told_herds x_told_irons x_told_beasts x_told_linesTold x_tfo_steps x_tfo_units x_draft_turns x_draft_mirror x_draft_night x_draft_draw x_draft_herds x_draft_irons x_draft_beasts x_draft_linesTold x_dfo_steps x_dfo_units x_lat_placements x_smi_irons x_smi_aim x_his_here x_his_undoable x_his_redoable x_book_placedCount x_wit_count y_wit_time n_tape_name B_xo_lying B_tape_bytes B_told_brands B_told_ironMarks B_told_homes B_told_births B_tfo_kinds B_tfo_numbers B_tfo_stack B_tfo_facts B_draft_brands B_draft_ironMarks B_draft_homes B_draft_births B_dfo_kinds B_dfo_numbers B_dfo_stack B_dfo_facts B_lat_lowHalves B_lat_highHalves B_lat_ways B_smi_placedIrons B_smi_within B_smi_costs B_his_isKept B_book_norms B_book_above B_book_heights B_book_placedBrands B_bea_firstGains B_bea_otherGains B_wit_burnings B_wit_strokes B_wit_wasOn B_wit_toldAt B_wit_untoldAt B_wit_on B_wit_off B_wit_firstCounts B_wit_secondCounts Ps Pd G_tape_wordNames G_told_herdNames G_told_ironNames G_told_beastNames G_draft_herdNames G_draft_ironNames G_draft_beastNames Ph Po Pg ex) H)) := by
  refine metG_of 1 ck_X11_later (Nat.le_of_ble_eq_true rfl) cMap (fun p e s m args below meth c A hx hb hml hr hlocks hown hts hK hD hA hP hS ls hl => ?_)
  have hown : s.vm.findClass "HideReader" = some m.cls := hown
  have hl : lv_has ls 2 [(0, .ref (a 0)), (1, .int (mI p0))] := hl
  refine lv_iload_n hx hb dX11_later_0 rfl (lv_at hl 1 rfl) ?_
  refine sy_if_lt (tgt := 22) hx hb dX11_later_1 (by decide) (by omega) (fun c_1 => ?_) (fun c_1 => ?_)
  · skip
    refine lv_iconst (v := mI (-1)) hx hb dX11_later_22 rfl ?_
    exact r_i hx hb hr hlocks dX11_later_23 hS ⟨x_wit_time, by omega, by omega, by omega, by omega, hP⟩
  · skip
    refine lv_iload_n hx hb dX11_later_4 rfl (lv_at hl 1 rfl) ?_
    refine lv_sipush (v := mI 1000) hx hb dX11_later_5 (by decide) ?_
    refine sy_icmp_gt (tgt := 22) hx hb dX11_later_8 (by decide) (by omega) (by decide) (fun c_2 => ?_) (fun c_2 => ?_)
    · skip
      refine lv_iconst (v := mI (-1)) hx hb dX11_later_22 rfl ?_
      exact r_i hx hb hr hlocks dX11_later_23 hS ⟨x_wit_time, by omega, by omega, by omega, by omega, hP⟩
    · skip
      refine lv_aload_n hx hb dX11_later_11 rfl (lv_at hl 0 rfl) ?_
      refine cg_xo_witness hx hb hts hown hK hP uw_2_238 dX11_later_12 ?_
      refine lv_iload_n hx hb dX11_later_15 rfl (lv_at hl 1 rfl) ?_
      refine g_i (cDt hD) hS hA (g_V (own := "HideReader") (As := [.int (mI p0)]) (rest := []) hx hb hml hown hts hK hP (cDt hD) (kc_X10_goOn (l := l) (D := D) (k := k) (by omega) h_x_wit_time) ck_X10_goOn iv_X10_goOn uw_6_101 (cv_wit hK hP) rfl hl.1 rfl (Nat.le_of_ble_eq_true rfl) dX11_later_16 ⟨Nat.le_of_ble_eq_true rfl, Nat.le_of_ble_eq_true rfl⟩ ⟨Nat.le_of_ble_eq_true rfl, Nat.le_of_ble_eq_true rfl⟩) (fun r_3 H locs hQ hS => ?_)
      obtain ⟨y_4, hr_3_0, hr_3_1, hr_3_2, hr_3_3, hP⟩ := hQ
      refine lv_goto (tgt := 23) hx hb dX11_later_19 (by decide) ?_
      exact r_i hx hb hr hlocks dX11_later_23 hS ⟨y_4, by omega, by omega, by omega, by omega, hP⟩
set_option maxHeartbeats 4000000 in
set_option maxRecDepth 100000 in
theorem kc_X11_rows {p0 : Int} (hp0 : -2147483648 ≤ p0 ∧ p0 ≤ 2147483647) (h_x_told_herds : 0 ≤ x_told_herds ∧ x_told_herds ≤ 8) (h_x_told_beasts : 0 ≤ x_told_beasts ∧ x_told_beasts ≤ 8) (h_x_lat_placements : 1 ≤ x_lat_placements ∧ x_lat_placements ≤ 8) (h_x_smi_irons : 0 ≤ x_smi_irons ∧ x_smi_irons ≤ 6) (h_x_wit_count : 0 ≤ x_wit_count ∧ x_wit_count ≤ 30) (b_B_told_brands : bd (-2147483648) 2147483647 B_told_brands) (b_B_told_homes : bd (0) 7 B_told_homes) (b_B_smi_placedIrons : bd (0) 4095 B_smi_placedIrons) (b_B_wit_burnings : bd (0) 2 B_wit_burnings) (b_B_wit_strokes : bd (0) 11 B_wit_strokes) (b_B_wit_wasOn : bd (0) 1 B_wit_wasOn) (b_B_wit_toldAt : bd (-2147483648) 2147483647 B_wit_toldAt) (b_B_wit_untoldAt : bd (-2147483648) 2147483647 B_wit_untoldAt) (b_B_wit_on : bd (-2147483648) 2147483647 B_wit_on) (b_B_wit_off : bd (-2147483648) 2147483647 B_wit_off) (b_B_wit_firstCounts : bd (-2147483648) 2147483647 B_wit_firstCounts) (b_B_wit_secondCounts : bd (-2147483648) 2147483647 B_wit_secondCounts) (g_T : tI x_told_herds x_told_beasts B_told_brands B_told_homes) (g_U : bU x_wit_count B_wit_burnings) : MetG l D k yX11_rows cX11_rows 2 (some .int) 4 [.ref (a 0), .int (mI p0)] (cW k a q x_xo_lyingCount x_tape_length x_tape_next x_tape_kind x_tape_place x_tape_number x_tape_faultKind x_tape_faultPlace x_told_turns x_told_mirror x_told_night x_told_draw x_told_herds x_told_irons x_told_beasts x_told_linesTold x_tfo_steps x_tfo_units x_draft_turns x_draft_mirror x_draft_night x_draft_draw x_draft_herds x_draft_irons x_draft_beasts x_draft_linesTold x_dfo_steps x_dfo_units x_lat_placements x_smi_irons x_smi_aim x_his_here x_his_undoable x_his_redoable x_book_placedCount x_wit_count x_wit_time n_tape_name B_xo_lying B_tape_bytes B_told_brands B_told_ironMarks B_told_homes B_told_births B_tfo_kinds B_tfo_numbers B_tfo_stack B_tfo_facts B_draft_brands B_draft_ironMarks B_draft_homes B_draft_births B_dfo_kinds B_dfo_numbers B_dfo_stack B_dfo_facts B_lat_lowHalves B_lat_highHalves B_lat_ways B_smi_placedIrons B_smi_within B_smi_costs B_his_isKept B_book_norms B_book_above B_book_heights B_book_placedBrands B_bea_firstGains B_bea_otherGains B_wit_burnings B_wit_strokes B_wit_wasOn B_wit_toldAt B_wit_untoldAt B_wit_on B_wit_off B_wit_firstCounts B_wit_secondCounts Ps Pd G_tape_wordNames G_told_herdNames G_told_ironNames G_told_beastNames G_draft_herdNames G_draft_ironNames G_draft_beastNames Ph Po Pg ex) (qGi (fun r0 H => ∃ (F_wit_on : Nat → Int) (F_wit_off : Nat → Int) (F_wit_firstCounts : Nat → Int) (F_wit_secondCounts : Nat → Int), (-2147483648 ≤ r0 ∧ r0 ≤ 2147483647) ∧ (bd (-2147483648) 2147483647 F_wit_on) ∧ (bd (-2147483648) 2147483647 F_wit_off) ∧ (bd (-2147483648) 2147483647 F_wit_firstCounts) ∧ (bd (-2147483648) 2147483647 F_wit_secondCounts) ∧ va_P D vwCl (cW k a q x_xo_lyingCount x_tape_length x_tape_next x_tape_kind x_tape_place x_tape_number x_tape_faultKind x_tape_faultPlace x_told_turns x_told_mirror x_told_night x_told_draw x_told_herds x_told_irons x_told_beasts x_told_linesTold x_tfo_steps x_tfo_units x_draft_turns x_draft_mirror x_draft_night x_draft_draw x_draft_herds x_draft_irons x_draft_beasts x_draft_linesTold x_dfo_steps x_dfo_units x_lat_placements x_smi_irons x_smi_aim x_his_here x_his_undoable x_his_redoable x_book_placedCount x_wit_count x_wit_time n_tape_name B_xo_lying B_tape_bytes B_told_brands B_told_ironMarks B_told_homes B_told_births B_tfo_kinds B_tfo_numbers B_tfo_stack B_tfo_facts B_draft_brands B_draft_ironMarks B_draft_homes B_draft_births B_dfo_kinds B_dfo_numbers B_dfo_stack B_dfo_facts B_lat_lowHalves B_lat_highHalves B_lat_ways B_smi_placedIrons B_smi_within B_smi_costs B_his_isKept B_book_norms B_book_above B_book_heights B_book_placedBrands B_bea_firstGains B_bea_otherGains B_wit_burnings B_wit_strokes B_wit_wasOn B_wit_toldAt B_wit_untoldAt F_wit_on F_wit_off F_wit_firstCounts F_wit_secondCounts Ps Pd G_tape_wordNames G_told_herdNames G_told_ironNames G_told_beastNames G_draft_herdNames G_draft_ironNames G_draft_beastNames Ph Po Pg ex) H)) := by
  refine metG_of 1 ck_X11_rows (Nat.le_of_ble_eq_true rfl) cMap (fun p e s m args below meth c A hx hb hml hr hlocks hown hts hK hD hA hP hS ls hl => ?_)
  have hown : s.vm.findClass "HideReader" = some m.cls := hown
  have hl : lv_has ls 2 [(0, .ref (a 0)), (1, .int (mI p0))] := hl
  refine lv_aload_n hx hb dX11_rows_0 rfl (lv_at hl 0 rfl) ?_
  refine cg_xo_witness hx hb hts hown hK hP uw_2_238 dX11_rows_1 ?_
  refine lv_iload_n hx hb dX11_rows_4 rfl (lv_at hl 1 rfl) ?_
  refine g_i (cDt hD) hS hA (g_V (own := "HideReader") (As := [.int (mI p0)]) (rest := []) hx hb hml hown hts hK hP (cDt hD) (kc_X10_countRows (l := l) (D := D) (k := k) (by omega) h_x_told_herds h_x_told_beasts h_x_lat_placements h_x_smi_irons h_x_wit_count b_B_told_brands b_B_told_homes b_B_smi_placedIrons b_B_wit_burnings b_B_wit_strokes b_B_wit_wasOn b_B_wit_toldAt b_B_wit_untoldAt b_B_wit_on b_B_wit_off b_B_wit_firstCounts b_B_wit_secondCounts g_T g_U) ck_X10_countRows iv_X10_countRows uw_6_110 (cv_wit hK hP) rfl hl.1 rfl (Nat.le_of_ble_eq_true rfl) dX11_rows_5 ⟨Nat.le_of_ble_eq_true rfl, Nat.le_of_ble_eq_true rfl⟩ ⟨Nat.le_of_ble_eq_true rfl, Nat.le_of_ble_eq_true rfl⟩) (fun r_1 H locs hQ hS => ?_)
  obtain ⟨F_2, F_3, F_4, F_5, hr_1_0, bF_2, bF_3, bF_4, bF_5, hP⟩ := hQ
  exact r_i hx hb hr hlocks dX11_rows_8 hS ⟨F_2, F_3, F_4, F_5, by omega, bF_2, bF_3, bF_4, bF_5, hP⟩
set_option maxHeartbeats 4000000 in
set_option maxRecDepth 100000 in
theorem kc_X11_sure {p0 p1 : Int} (hp0 : -2147483648 ≤ p0 ∧ p0 ≤ 2147483647) (hp1 : -2147483648 ≤ p1 ∧ p1 ≤ 2147483647) (h_x_told_herds : 0 ≤ x_told_herds ∧ x_told_herds ≤ 8) (h_x_told_beasts : 0 ≤ x_told_beasts ∧ x_told_beasts ≤ 8) (h_x_lat_placements : 1 ≤ x_lat_placements ∧ x_lat_placements ≤ 8) (h_x_smi_irons : 0 ≤ x_smi_irons ∧ x_smi_irons ≤ 6) (h_x_wit_count : 0 ≤ x_wit_count ∧ x_wit_count ≤ 30) (b_B_told_brands : bd (-2147483648) 2147483647 B_told_brands) (b_B_told_homes : bd (0) 7 B_told_homes) (b_B_smi_placedIrons : bd (0) 4095 B_smi_placedIrons) (b_B_wit_burnings : bd (0) 2 B_wit_burnings) (b_B_wit_strokes : bd (0) 11 B_wit_strokes) (b_B_wit_wasOn : bd (0) 1 B_wit_wasOn) (b_B_wit_toldAt : bd (-2147483648) 2147483647 B_wit_toldAt) (b_B_wit_untoldAt : bd (-2147483648) 2147483647 B_wit_untoldAt) (b_B_wit_on : bd (-2147483648) 2147483647 B_wit_on) (b_B_wit_off : bd (-2147483648) 2147483647 B_wit_off) (b_B_wit_firstCounts : bd (-2147483648) 2147483647 B_wit_firstCounts) (b_B_wit_secondCounts : bd (-2147483648) 2147483647 B_wit_secondCounts) (g_T : tI x_told_herds x_told_beasts B_told_brands B_told_homes) (g_U : bU x_wit_count B_wit_burnings) : MetG l D k yX11_sure cX11_sure 3 (some .int) 5 [.ref (a 0), .int (mI p0), .int (mI p1)] (cW k a q x_xo_lyingCount x_tape_length x_tape_next x_tape_kind x_tape_place x_tape_number x_tape_faultKind x_tape_faultPlace x_told_turns x_told_mirror x_told_night x_told_draw x_told_herds x_told_irons x_told_beasts x_told_linesTold x_tfo_steps x_tfo_units x_draft_turns x_draft_mirror x_draft_night x_draft_draw x_draft_herds x_draft_irons x_draft_beasts x_draft_linesTold x_dfo_steps x_dfo_units x_lat_placements x_smi_irons x_smi_aim x_his_here x_his_undoable x_his_redoable x_book_placedCount x_wit_count x_wit_time n_tape_name B_xo_lying B_tape_bytes B_told_brands B_told_ironMarks B_told_homes B_told_births B_tfo_kinds B_tfo_numbers B_tfo_stack B_tfo_facts B_draft_brands B_draft_ironMarks B_draft_homes B_draft_births B_dfo_kinds B_dfo_numbers B_dfo_stack B_dfo_facts B_lat_lowHalves B_lat_highHalves B_lat_ways B_smi_placedIrons B_smi_within B_smi_costs B_his_isKept B_book_norms B_book_above B_book_heights B_book_placedBrands B_bea_firstGains B_bea_otherGains B_wit_burnings B_wit_strokes B_wit_wasOn B_wit_toldAt B_wit_untoldAt B_wit_on B_wit_off B_wit_firstCounts B_wit_secondCounts Ps Pd G_tape_wordNames G_told_herdNames G_told_ironNames G_told_beastNames G_draft_herdNames G_draft_ironNames G_draft_beastNames Ph Po Pg ex) (qGi (fun r0 H => ∃ (F_wit_on : Nat → Int) (F_wit_off : Nat → Int) (F_wit_firstCounts : Nat → Int) (F_wit_secondCounts : Nat → Int), (-2 ≤ r0 ∧ r0 ≤ 5) ∧ (bd (-2147483648) 2147483647 F_wit_on) ∧ (bd (-2147483648) 2147483647 F_wit_off) ∧ (bd (-2147483648) 2147483647 F_wit_firstCounts) ∧ (bd (-2147483648) 2147483647 F_wit_secondCounts) ∧ va_P D vwCl (cW k a q x_xo_lyingCount x_tape_length x_tape_next x_tape_kind x_tape_place x_tape_number x_tape_faultKind x_tape_faultPlace x_told_turns x_told_mirror x_told_night x_told_draw x_told_herds x_told_irons x_told_beasts x_told_linesTold x_tfo_steps x_tfo_units x_draft_turns x_draft_mirror x_draft_night x_draft_draw x_draft_herds x_draft_irons x_draft_beasts x_draft_linesTold x_dfo_steps x_dfo_units x_lat_placements x_smi_irons x_smi_aim x_his_here x_his_undoable x_his_redoable x_book_placedCount x_wit_count x_wit_time n_tape_name B_xo_lying B_tape_bytes B_told_brands B_told_ironMarks B_told_homes B_told_births B_tfo_kinds B_tfo_numbers B_tfo_stack B_tfo_facts B_draft_brands B_draft_ironMarks B_draft_homes B_draft_births B_dfo_kinds B_dfo_numbers B_dfo_stack B_dfo_facts B_lat_lowHalves B_lat_highHalves B_lat_ways B_smi_placedIrons B_smi_within B_smi_costs B_his_isKept B_book_norms B_book_above B_book_heights B_book_placedBrands B_bea_firstGains B_bea_otherGains B_wit_burnings B_wit_strokes B_wit_wasOn B_wit_toldAt B_wit_untoldAt F_wit_on F_wit_off F_wit_firstCounts F_wit_secondCounts Ps Pd G_tape_wordNames G_told_herdNames G_told_ironNames G_told_beastNames G_draft_herdNames G_draft_ironNames G_draft_beastNames Ph Po Pg ex) H)) := by
  refine metG_of 2 ck_X11_sure (Nat.le_of_ble_eq_true rfl) cMap (fun p e s m args below meth c A hx hb hml hr hlocks hown hts hK hD hA hP hS ls hl => ?_)
  have hown : s.vm.findClass "HideReader" = some m.cls := hown
  have hl : lv_has ls 3 [(0, .ref (a 0)), (1, .int (mI p0)), (2, .int (mI p1))] := hl
  refine lv_iload_n hx hb dX11_sure_0 rfl (lv_at hl 1 rfl) ?_
  refine g_i (cDt hD) hS hA (g_S (own := "HideReader") (As := [.int (mI p0)]) (rest := []) hx hb hml hown hts hK hP (cDt hD) (kc_X11_isBurning (l := l) (D := D) (k := k) (by omega)) ck_X11_isBurning uw_6_83 uw_6_82 rfl hl.1 rfl (Nat.le_of_ble_eq_true rfl) dX11_sure_1 ⟨Nat.le_of_ble_eq_true rfl, Nat.le_of_ble_eq_true rfl⟩ ⟨Nat.le_of_ble_eq_true rfl, Nat.le_of_ble_eq_true rfl⟩) (fun r_1 H locs hQ hS => ?_)
  obtain ⟨hq_r_1, hP⟩ := hQ
  rcases hq_r_1 with ⟨rfl, c_2_0, c_2_1⟩ | ⟨rfl, c_3_0, c_3_1⟩
  · skip
    refine sy_if_eq (tgt := 19) hx hb dX11_sure_4 (by decide) (by decide) (fun c9 => absurd c9 (by decide)) (fun c_4 => ?_)
    refine lv_aload_n hx hb dX11_sure_7 rfl (lv_at hl 0 rfl) ?_
    refine cg_xo_witness hx hb hts hown hK hP uw_2_238 dX11_sure_8 ?_
    refine lv_iload_n hx hb dX11_sure_11 rfl (lv_at hl 1 rfl) ?_
    refine lv_iload_n hx hb dX11_sure_12 rfl (lv_at hl 2 rfl) ?_
    refine g_i (cDt hD) hS hA (g_V (own := "HideReader") (As := [.int (mI p0), .int (mI p1)]) (rest := []) hx hb hml hown hts hK hP (cDt hD) (kc_X10_sureIron (l := l) (D := D) (k := k) (by omega) (by omega) h_x_told_herds h_x_told_beasts h_x_lat_placements h_x_smi_irons h_x_wit_count b_B_told_brands b_B_told_homes b_B_smi_placedIrons b_B_wit_burnings b_B_wit_strokes b_B_wit_wasOn b_B_wit_toldAt b_B_wit_untoldAt b_B_wit_on b_B_wit_off b_B_wit_firstCounts b_B_wit_secondCounts g_T g_U) ck_X10_sureIron iv_X10_sureIron uw_6_140 (cv_wit hK hP) rfl hl.1 rfl (Nat.le_of_ble_eq_true rfl) dX11_sure_13 ⟨Nat.le_of_ble_eq_true rfl, Nat.le_of_ble_eq_true rfl⟩ ⟨Nat.le_of_ble_eq_true rfl, Nat.le_of_ble_eq_true rfl⟩) (fun r_5 H locs hQ hS => ?_)
    obtain ⟨F_6, F_7, F_8, F_9, hr_5_0, bF_6, bF_7, bF_8, bF_9, hP⟩ := hQ
    refine lv_goto (tgt := 20) hx hb dX11_sure_16 (by decide) ?_
    exact r_i hx hb hr hlocks dX11_sure_20 hS ⟨F_6, F_7, F_8, F_9, by omega, bF_6, bF_7, bF_8, bF_9, hP⟩
  · skip
    refine sy_if_eq (tgt := 19) hx hb dX11_sure_4 (by decide) (by decide) (fun c_10 => ?_) (fun c9 => absurd c9 (by decide))
    refine lv_iconst (v := mI (-1)) hx hb dX11_sure_19 rfl ?_
    exact r_i hx hb hr hlocks dX11_sure_20 hS ⟨B_wit_on, B_wit_off, B_wit_firstCounts, B_wit_secondCounts, by omega, b_B_wit_on, b_B_wit_off, b_B_wit_firstCounts, b_B_wit_secondCounts, hP⟩
set_option maxHeartbeats 4000000 in
set_option maxRecDepth 100000 in
theorem kc_X11_ask {p0 p1 : Int} (hp0 : -2147483648 ≤ p0 ∧ p0 ≤ 2147483647) (hp1 : -2147483648 ≤ p1 ∧ p1 ≤ 2147483647) (h_x_told_herds : 0 ≤ x_told_herds ∧ x_told_herds ≤ 8) (h_x_told_beasts : 0 ≤ x_told_beasts ∧ x_told_beasts ≤ 8) (h_x_lat_placements : 1 ≤ x_lat_placements ∧ x_lat_placements ≤ 8) (h_x_smi_irons : 0 ≤ x_smi_irons ∧ x_smi_irons ≤ 6) (h_x_wit_count : 0 ≤ x_wit_count ∧ x_wit_count ≤ 30) (b_B_told_brands : bd (-2147483648) 2147483647 B_told_brands) (b_B_told_homes : bd (0) 7 B_told_homes) (b_B_smi_placedIrons : bd (0) 4095 B_smi_placedIrons) (b_B_wit_burnings : bd (0) 2 B_wit_burnings) (b_B_wit_strokes : bd (0) 11 B_wit_strokes) (b_B_wit_wasOn : bd (0) 1 B_wit_wasOn) (b_B_wit_toldAt : bd (-2147483648) 2147483647 B_wit_toldAt) (b_B_wit_untoldAt : bd (-2147483648) 2147483647 B_wit_untoldAt) (b_B_wit_on : bd (-2147483648) 2147483647 B_wit_on) (b_B_wit_off : bd (-2147483648) 2147483647 B_wit_off) (b_B_wit_firstCounts : bd (-2147483648) 2147483647 B_wit_firstCounts) (b_B_wit_secondCounts : bd (-2147483648) 2147483647 B_wit_secondCounts) (g_T : tI x_told_herds x_told_beasts B_told_brands B_told_homes) (g_U : bU x_wit_count B_wit_burnings) : MetG l D k yX11_ask cX11_ask 5 (some .int) 4 [.ref (a 0), .int (mI p0), .int (mI p1)] (cW k a q x_xo_lyingCount x_tape_length x_tape_next x_tape_kind x_tape_place x_tape_number x_tape_faultKind x_tape_faultPlace x_told_turns x_told_mirror x_told_night x_told_draw x_told_herds x_told_irons x_told_beasts x_told_linesTold x_tfo_steps x_tfo_units x_draft_turns x_draft_mirror x_draft_night x_draft_draw x_draft_herds x_draft_irons x_draft_beasts x_draft_linesTold x_dfo_steps x_dfo_units x_lat_placements x_smi_irons x_smi_aim x_his_here x_his_undoable x_his_redoable x_book_placedCount x_wit_count x_wit_time n_tape_name B_xo_lying B_tape_bytes B_told_brands B_told_ironMarks B_told_homes B_told_births B_tfo_kinds B_tfo_numbers B_tfo_stack B_tfo_facts B_draft_brands B_draft_ironMarks B_draft_homes B_draft_births B_dfo_kinds B_dfo_numbers B_dfo_stack B_dfo_facts B_lat_lowHalves B_lat_highHalves B_lat_ways B_smi_placedIrons B_smi_within B_smi_costs B_his_isKept B_book_norms B_book_above B_book_heights B_book_placedBrands B_bea_firstGains B_bea_otherGains B_wit_burnings B_wit_strokes B_wit_wasOn B_wit_toldAt B_wit_untoldAt B_wit_on B_wit_off B_wit_firstCounts B_wit_secondCounts Ps Pd G_tape_wordNames G_told_herdNames G_told_ironNames G_told_beastNames G_draft_herdNames G_draft_ironNames G_draft_beastNames Ph Po Pg ex) (qGi (fun r0 H => ∃ (F_wit_on : Nat → Int) (F_wit_off : Nat → Int) (F_wit_firstCounts : Nat → Int) (F_wit_secondCounts : Nat → Int), (-1 ≤ r0 ∧ r0 ≤ 2147483647) ∧ (bd (-2147483648) 2147483647 F_wit_on) ∧ (bd (-2147483648) 2147483647 F_wit_off) ∧ (bd (-2147483648) 2147483647 F_wit_firstCounts) ∧ (bd (-2147483648) 2147483647 F_wit_secondCounts) ∧ va_P D vwCl (cW k a q x_xo_lyingCount x_tape_length x_tape_next x_tape_kind x_tape_place x_tape_number x_tape_faultKind x_tape_faultPlace x_told_turns x_told_mirror x_told_night x_told_draw x_told_herds x_told_irons x_told_beasts x_told_linesTold x_tfo_steps x_tfo_units x_draft_turns x_draft_mirror x_draft_night x_draft_draw x_draft_herds x_draft_irons x_draft_beasts x_draft_linesTold x_dfo_steps x_dfo_units x_lat_placements x_smi_irons x_smi_aim x_his_here x_his_undoable x_his_redoable x_book_placedCount x_wit_count x_wit_time n_tape_name B_xo_lying B_tape_bytes B_told_brands B_told_ironMarks B_told_homes B_told_births B_tfo_kinds B_tfo_numbers B_tfo_stack B_tfo_facts B_draft_brands B_draft_ironMarks B_draft_homes B_draft_births B_dfo_kinds B_dfo_numbers B_dfo_stack B_dfo_facts B_lat_lowHalves B_lat_highHalves B_lat_ways B_smi_placedIrons B_smi_within B_smi_costs B_his_isKept B_book_norms B_book_above B_book_heights B_book_placedBrands B_bea_firstGains B_bea_otherGains B_wit_burnings B_wit_strokes B_wit_wasOn B_wit_toldAt B_wit_untoldAt F_wit_on F_wit_off F_wit_firstCounts F_wit_secondCounts Ps Pd G_tape_wordNames G_told_herdNames G_told_ironNames G_told_beastNames G_draft_herdNames G_draft_ironNames G_draft_beastNames Ph Po Pg ex) H)) := by
  refine metG_of 2 ck_X11_ask (Nat.le_of_ble_eq_true rfl) cMap (fun p e s m args below meth c A hx hb hml hr hlocks hown hts hK hD hA hP hS ls hl => ?_)
  have hown : s.vm.findClass "HideReader" = some m.cls := hown
  have hl : lv_has ls 5 [(0, .ref (a 0)), (1, .int (mI p0)), (2, .int (mI p1))] := hl
  refine lv_iload_n hx hb dX11_ask_0 rfl (lv_at hl 1 rfl) ?_
  refine g_i (cDt hD) hS hA (g_S (own := "HideReader") (As := [.int (mI p0)]) (rest := []) hx hb hml hown hts hK hP (cDt hD) (kc_X11_isPart (l := l) (D := D) (k := k) (by omega)) ck_X11_isPart uw_5_144 uw_5_143 rfl hl.1 rfl (Nat.le_of_ble_eq_true rfl) dX11_ask_1 ⟨Nat.le_of_ble_eq_true rfl, Nat.le_of_ble_eq_true rfl⟩ ⟨Nat.le_of_ble_eq_true rfl, Nat.le_of_ble_eq_true rfl⟩) (fun r_1 H locs hQ hS => ?_)
  obtain ⟨hq_r_1, hP⟩ := hQ
  rcases hq_r_1 with ⟨rfl, c_2_0, c_2_1⟩ | ⟨rfl, c_3_0, c_3_1⟩
  · skip
    refine sy_if_eq (tgt := 18) hx hb dX11_ask_4 (by decide) (by decide) (fun c9 => absurd c9 (by decide)) (fun c_4 => ?_)
    refine lv_aload_n hx hb dX11_ask_7 rfl (lv_at hl 0 rfl) ?_
    refine cg_xo_witness hx hb hts hown hK hP uw_2_238 dX11_ask_8 ?_
    refine lv_iload_n hx hb dX11_ask_11 rfl (lv_at hl 2 rfl) ?_
    refine g_i (cDt hD) hS hA (g_V (own := "HideReader") (As := [.int (mI p1)]) (rest := []) hx hb hml hown hts hK hP (cDt hD) (kc_X10_countRows (l := l) (D := D) (k := k) (by omega) h_x_told_herds h_x_told_beasts h_x_lat_placements h_x_smi_irons h_x_wit_count b_B_told_brands b_B_told_homes b_B_smi_placedIrons b_B_wit_burnings b_B_wit_strokes b_B_wit_wasOn b_B_wit_toldAt b_B_wit_untoldAt b_B_wit_on b_B_wit_off b_B_wit_firstCounts b_B_wit_secondCounts g_T g_U) ck_X10_countRows iv_X10_countRows uw_6_110 (cv_wit hK hP) rfl hl.1 rfl (Nat.le_of_ble_eq_true rfl) dX11_ask_12 ⟨Nat.le_of_ble_eq_true rfl, Nat.le_of_ble_eq_true rfl⟩ ⟨Nat.le_of_ble_eq_true rfl, Nat.le_of_ble_eq_true rfl⟩) (fun r_5 H locs hQ hS => ?_)
    obtain ⟨F_6, F_7, F_8, F_9, hr_5_0, bF_6, bF_7, bF_8, bF_9, hP⟩ := hQ
    refine sy_if_ne (tgt := 20) hx hb dX11_ask_15 (by decide) (by omega) (fun c_10 => ?_) (fun c_10 => ?_)
    · skip
      refine lv_aload_n hx hb dX11_ask_20 rfl (lv_at hl 0 rfl) ?_
      refine cg_xo_witness hx hb hts hown hK hP uw_2_238 dX11_ask_21 ?_
      refine lv_iconst (v := mI 1) hx hb dX11_ask_24 rfl ?_
      refine g_i (cDt hD) hS hA (g_V (own := "HideReader") (As := [.int (mI 1)]) (rest := []) hx hb hml hown hts hK hP (cDt hD) (kc_X10_mostLeft (l := l) (D := D) (k := k) (by decide) bF_8 bF_9) ck_X10_mostLeft iv_X10_mostLeft uw_6_149 (cv_wit hK hP) rfl hl.1 rfl (Nat.le_of_ble_eq_true rfl) dX11_ask_25 ⟨Nat.le_of_ble_eq_true rfl, Nat.le_of_ble_eq_true rfl⟩ ⟨Nat.le_of_ble_eq_true rfl, Nat.le_of_ble_eq_true rfl⟩) (fun r_11 H locs hQ hS => ?_)
      obtain ⟨hr_11_0, hP⟩ := hQ
      refine lv_istore_n (lv' := [(3, .int (mI r_11)), (0, .ref (a 0)), (1, .int (mI p0)), (2, .int (mI p1))]) hx hb dX11_ask_28 rfl hl (by decide) rfl (fun ls hl => ?_)
      refine lv_aload_n hx hb dX11_ask_29 rfl (lv_at hl 1 rfl) ?_
      refine cg_xo_witness hx hb hts hown hK hP uw_2_238 dX11_ask_30 ?_
      refine lv_iconst (v := mI 2) hx hb dX11_ask_33 rfl ?_
      refine g_i (cDt hD) hS hA (g_V (own := "HideReader") (As := [.int (mI 2)]) (rest := []) hx hb hml hown hts hK hP (cDt hD) (kc_X10_mostLeft (l := l) (D := D) (k := k) (by decide) bF_8 bF_9) ck_X10_mostLeft iv_X10_mostLeft uw_6_149 (cv_wit hK hP) rfl hl.1 rfl (Nat.le_of_ble_eq_true rfl) dX11_ask_34 ⟨Nat.le_of_ble_eq_true rfl, Nat.le_of_ble_eq_true rfl⟩ ⟨Nat.le_of_ble_eq_true rfl, Nat.le_of_ble_eq_true rfl⟩) (fun r_12 H locs hQ hS => ?_)
      obtain ⟨hr_12_0, hP⟩ := hQ
      refine lv_istore (lv' := [(4, .int (mI r_12)), (3, .int (mI r_11)), (0, .ref (a 0)), (1, .int (mI p0)), (2, .int (mI p1))]) hx hb dX11_ask_37 hl (by decide) rfl (fun ls hl => ?_)
      refine lv_iload_n hx hb dX11_ask_39 rfl (lv_at hl 3 rfl) ?_
      refine lv_iconst (v := mI 1) hx hb dX11_ask_40 rfl ?_
      refine sy_icmp_ne (tgt := 51) hx hb dX11_ask_41 (by decide) (by omega) (by decide) (fun c_13 => ?_) (fun c_13 => ?_)
      · skip
        refine lv_iload hx hb dX11_ask_51 (lv_at hl 0 rfl) ?_
        refine lv_iload_n hx hb dX11_ask_53 rfl (lv_at hl 1 rfl) ?_
        refine sy_icmp_ge (tgt := 61) hx hb dX11_ask_54 (by decide) (by omega) (by omega) (fun c_14 => ?_) (fun c_14 => ?_)
        · skip
          refine lv_iconst (v := mI 1) hx hb dX11_ask_61 rfl ?_
          exact r_i hx hb hr hlocks dX11_ask_62 hS ⟨F_6, F_7, F_8, F_9, by omega, bF_6, bF_7, bF_8, bF_9, hP⟩
        · skip
          refine lv_iconst (v := mI 2) hx hb dX11_ask_57 rfl ?_
          refine lv_goto (tgt := 62) hx hb dX11_ask_58 (by decide) ?_
          exact r_i hx hb hr hlocks dX11_ask_62 hS ⟨F_6, F_7, F_8, F_9, by omega, bF_6, bF_7, bF_8, bF_9, hP⟩
      · skip
        refine lv_iload_n hx hb dX11_ask_44 rfl (lv_at hl 1 rfl) ?_
        refine lv_iload hx hb dX11_ask_45 (lv_at hl 0 rfl) ?_
        refine sy_min hx hb (hml.trans hl.1.symm) hown hts uw_6_154 (Nat.le_of_ble_eq_true rfl) (Nat.le_of_ble_eq_true rfl) (Nat.le_of_ble_eq_true rfl) (Nat.le_of_ble_eq_true rfl) dX11_ask_47 (by omega) (by omega) (fun z_15 hz_15 => ?_)
        exact r_i hx hb hr hlocks dX11_ask_50 hS ⟨F_6, F_7, F_8, F_9, by omega, bF_6, bF_7, bF_8, bF_9, hP⟩
    · skip
      refine lv_iconst (v := mI (-1)) hx hb dX11_ask_18 rfl ?_
      exact r_i hx hb hr hlocks dX11_ask_19 hS ⟨F_6, F_7, F_8, F_9, by omega, bF_6, bF_7, bF_8, bF_9, hP⟩
  · skip
    refine sy_if_eq (tgt := 18) hx hb dX11_ask_4 (by decide) (by decide) (fun c_16 => ?_) (fun c9 => absurd c9 (by decide))
    refine lv_iconst (v := mI (-1)) hx hb dX11_ask_18 rfl ?_
    exact r_i hx hb hr hlocks dX11_ask_19 hS ⟨B_wit_on, B_wit_off, B_wit_firstCounts, B_wit_secondCounts, by omega, b_B_wit_on, b_B_wit_off, b_B_wit_firstCounts, b_B_wit_secondCounts, hP⟩
set_option maxHeartbeats 4000000 in
set_option maxRecDepth 100000 in
theorem kc_X11_isBox {p0 : Int} (hp0 : -2147483648 ≤ p0 ∧ p0 ≤ 2147483647) : MetG l D k yX11_isBox cX11_isBox 1 (some .boolean) 0 [.int (mI p0)] (cW k a q x_xo_lyingCount x_tape_length x_tape_next x_tape_kind x_tape_place x_tape_number x_tape_faultKind x_tape_faultPlace x_told_turns x_told_mirror x_told_night x_told_draw x_told_herds x_told_irons x_told_beasts x_told_linesTold x_tfo_steps x_tfo_units x_draft_turns x_draft_mirror x_draft_night x_draft_draw x_draft_herds x_draft_irons x_draft_beasts x_draft_linesTold x_dfo_steps x_dfo_units x_lat_placements x_smi_irons x_smi_aim x_his_here x_his_undoable x_his_redoable x_book_placedCount x_wit_count x_wit_time n_tape_name B_xo_lying B_tape_bytes B_told_brands B_told_ironMarks B_told_homes B_told_births B_tfo_kinds B_tfo_numbers B_tfo_stack B_tfo_facts B_draft_brands B_draft_ironMarks B_draft_homes B_draft_births B_dfo_kinds B_dfo_numbers B_dfo_stack B_dfo_facts B_lat_lowHalves B_lat_highHalves B_lat_ways B_smi_placedIrons B_smi_within B_smi_costs B_his_isKept B_book_norms B_book_above B_book_heights B_book_placedBrands B_bea_firstGains B_bea_otherGains B_wit_burnings B_wit_strokes B_wit_wasOn B_wit_toldAt B_wit_untoldAt B_wit_on B_wit_off B_wit_firstCounts B_wit_secondCounts Ps Pd G_tape_wordNames G_told_herdNames G_told_ironNames G_told_beastNames G_draft_herdNames G_draft_ironNames G_draft_beastNames Ph Po Pg ex) (qGi (fun r0 H => ((0 = r0 ∧ ((p0 < 0) ∨ (p0 ≥ 0 ∧ p0 ≥ 3))) ∨ (1 = r0 ∧ (0 ≤ p0 ∧ p0 ≤ 2))) ∧ va_P D vwCl (cW k a q x_xo_lyingCount x_tape_length x_tape_next x_tape_kind x_tape_place x_tape_number x_tape_faultKind x_tape_faultPlace x_told_turns x_told_mirror x_told_night x_told_draw x_told_herds x_told_irons x_told_beasts x_told_linesTold x_tfo_steps x_tfo_units x_draft_turns x_draft_mirror x_draft_night x_draft_draw x_draft_herds x_draft_irons x_draft_beasts x_draft_linesTold x_dfo_steps x_dfo_units x_lat_placements x_smi_irons x_smi_aim x_his_here x_his_undoable x_his_redoable x_book_placedCount x_wit_count x_wit_time n_tape_name B_xo_lying B_tape_bytes B_told_brands B_told_ironMarks B_told_homes B_told_births B_tfo_kinds B_tfo_numbers B_tfo_stack B_tfo_facts B_draft_brands B_draft_ironMarks B_draft_homes B_draft_births B_dfo_kinds B_dfo_numbers B_dfo_stack B_dfo_facts B_lat_lowHalves B_lat_highHalves B_lat_ways B_smi_placedIrons B_smi_within B_smi_costs B_his_isKept B_book_norms B_book_above B_book_heights B_book_placedBrands B_bea_firstGains B_bea_otherGains B_wit_burnings B_wit_strokes B_wit_wasOn B_wit_toldAt B_wit_untoldAt B_wit_on B_wit_off B_wit_firstCounts B_wit_secondCounts Ps Pd G_tape_wordNames G_told_herdNames G_told_ironNames G_told_beastNames G_draft_herdNames G_draft_ironNames G_draft_beastNames Ph Po Pg ex) H)) := by
  refine metG_of 1 ck_X11_isBox (Nat.le_of_ble_eq_true rfl) cMap (fun p e s m args below meth c A hx hb hml hr hlocks hown hts hK hD hA hP hS ls hl => ?_)
  have hown : s.vm.findClass "HideReader" = some m.cls := hown
  have hl : lv_has ls 1 [(0, .int (mI p0))] := hl
  refine lv_iload_n hx hb dX11_isBox_0 rfl (lv_at hl 0 rfl) ?_
  refine sy_if_lt (tgt := 13) hx hb dX11_isBox_1 (by decide) (by omega) (fun c_1 => ?_) (fun c_1 => ?_)
  · skip
    refine lv_iconst (v := mI 0) hx hb dX11_isBox_13 rfl ?_
    exact r_z hx hb hr hlocks dX11_isBox_14 hS (by decide) ⟨Or.inl (⟨rfl, by omega⟩), hP⟩
  · skip
    refine lv_iload_n hx hb dX11_isBox_4 rfl (lv_at hl 0 rfl) ?_
    refine lv_iconst (v := mI 3) hx hb dX11_isBox_5 rfl ?_
    refine sy_icmp_ge (tgt := 13) hx hb dX11_isBox_6 (by decide) (by omega) (by decide) (fun c_2 => ?_) (fun c_2 => ?_)
    · skip
      refine lv_iconst (v := mI 0) hx hb dX11_isBox_13 rfl ?_
      exact r_z hx hb hr hlocks dX11_isBox_14 hS (by decide) ⟨Or.inl (⟨rfl, by omega⟩), hP⟩
    · skip
      refine lv_iconst (v := mI 1) hx hb dX11_isBox_9 rfl ?_
      refine lv_goto (tgt := 14) hx hb dX11_isBox_10 (by decide) ?_
      exact r_z hx hb hr hlocks dX11_isBox_14 hS (by decide) ⟨Or.inr (⟨rfl, by omega⟩), hP⟩
set_option maxHeartbeats 4000000 in
set_option maxRecDepth 100000 in
theorem kc_X11_image {p0 : Int} (hp0 : -2147483648 ≤ p0 ∧ p0 ≤ 2147483647) (h_x_his_here : 0 ≤ x_his_here ∧ x_his_here ≤ 40) (b_B_his_isKept : bd (0) 1 B_his_isKept) (b_Ps : bd (-2147483648) 2147483647 Ps) (b_Pd : bd (0) 999 Pd) (b_Ph : pb (0) 4095 Ph) (b_Po : pb (0) 7 Po) (b_Pg : pb (-2147483648) 2147483647 Pg) : MetG l D k yX11_image cX11_image 2 (some .int) 3 [.ref (a 0), .int (mI p0)] (cW k a q x_xo_lyingCount x_tape_length x_tape_next x_tape_kind x_tape_place x_tape_number x_tape_faultKind x_tape_faultPlace x_told_turns x_told_mirror x_told_night x_told_draw x_told_herds x_told_irons x_told_beasts x_told_linesTold x_tfo_steps x_tfo_units x_draft_turns x_draft_mirror x_draft_night x_draft_draw x_draft_herds x_draft_irons x_draft_beasts x_draft_linesTold x_dfo_steps x_dfo_units x_lat_placements x_smi_irons x_smi_aim x_his_here x_his_undoable x_his_redoable x_book_placedCount x_wit_count x_wit_time n_tape_name B_xo_lying B_tape_bytes B_told_brands B_told_ironMarks B_told_homes B_told_births B_tfo_kinds B_tfo_numbers B_tfo_stack B_tfo_facts B_draft_brands B_draft_ironMarks B_draft_homes B_draft_births B_dfo_kinds B_dfo_numbers B_dfo_stack B_dfo_facts B_lat_lowHalves B_lat_highHalves B_lat_ways B_smi_placedIrons B_smi_within B_smi_costs B_his_isKept B_book_norms B_book_above B_book_heights B_book_placedBrands B_bea_firstGains B_bea_otherGains B_wit_burnings B_wit_strokes B_wit_wasOn B_wit_toldAt B_wit_untoldAt B_wit_on B_wit_off B_wit_firstCounts B_wit_secondCounts Ps Pd G_tape_wordNames G_told_herdNames G_told_ironNames G_told_beastNames G_draft_herdNames G_draft_ironNames G_draft_beastNames Ph Po Pg ex) (qGi (fun r0 H => ∃ (F_his_isKept : Nat → Int) (F_Ps : Nat → Int) (F_Pd : Nat → Int) (F_Ph : Nat → Nat → Int) (F_Po : Nat → Nat → Int) (F_Pg : Nat → Nat → Int), (-2147483648 ≤ r0 ∧ r0 ≤ 2147483647) ∧ (bd (0) 1 F_his_isKept) ∧ (bd (-2147483648) 2147483647 F_Ps) ∧ (bd (0) 999 F_Pd) ∧ (pb (0) 4095 F_Ph) ∧ (pb (0) 7 F_Po) ∧ (pb (-2147483648) 2147483647 F_Pg) ∧ va_P D vwCl (cW k a q x_xo_lyingCount x_tape_length x_tape_next x_tape_kind x_tape_place x_tape_number x_tape_faultKind x_tape_faultPlace x_told_turns x_told_mirror x_told_night x_told_draw x_told_herds x_told_irons x_told_beasts x_told_linesTold x_tfo_steps x_tfo_units x_draft_turns x_draft_mirror x_draft_night x_draft_draw x_draft_herds x_draft_irons x_draft_beasts x_draft_linesTold x_dfo_steps x_dfo_units x_lat_placements x_smi_irons x_smi_aim x_his_here x_his_undoable x_his_redoable x_book_placedCount x_wit_count x_wit_time n_tape_name B_xo_lying B_tape_bytes B_told_brands B_told_ironMarks B_told_homes B_told_births B_tfo_kinds B_tfo_numbers B_tfo_stack B_tfo_facts B_draft_brands B_draft_ironMarks B_draft_homes B_draft_births B_dfo_kinds B_dfo_numbers B_dfo_stack B_dfo_facts B_lat_lowHalves B_lat_highHalves B_lat_ways B_smi_placedIrons B_smi_within B_smi_costs F_his_isKept B_book_norms B_book_above B_book_heights B_book_placedBrands B_bea_firstGains B_bea_otherGains B_wit_burnings B_wit_strokes B_wit_wasOn B_wit_toldAt B_wit_untoldAt B_wit_on B_wit_off B_wit_firstCounts B_wit_secondCounts F_Ps F_Pd G_tape_wordNames G_told_herdNames G_told_ironNames G_told_beastNames G_draft_herdNames G_draft_ironNames G_draft_beastNames F_Ph F_Po F_Pg ex) H)) := by
  refine metG_of 1 ck_X11_image (Nat.le_of_ble_eq_true rfl) cMap (fun p e s m args below meth c A hx hb hml hr hlocks hown hts hK hD hA hP hS ls hl => ?_)
  have hown : s.vm.findClass "HideReader" = some m.cls := hown
  have hl : lv_has ls 2 [(0, .ref (a 0)), (1, .int (mI p0))] := hl
  refine lv_iload_n hx hb dX11_image_0 rfl (lv_at hl 1 rfl) ?_
  refine g_i (cDt hD) hS hA (g_S (own := "HideReader") (As := [.int (mI p0)]) (rest := []) hx hb hml hown hts hK hP (cDt hD) (kc_X11_isBox (l := l) (D := D) (k := k) (by omega)) ck_X11_isBox uw_6_160 uw_6_159 rfl hl.1 rfl (Nat.le_of_ble_eq_true rfl) dX11_image_1 ⟨Nat.le_of_ble_eq_true rfl, Nat.le_of_ble_eq_true rfl⟩ ⟨Nat.le_of_ble_eq_true rfl, Nat.le_of_ble_eq_true rfl⟩) (fun r_1 H locs hQ hS => ?_)
  obtain ⟨hq_r_1, hP⟩ := hQ
  rcases hq_r_1 with ⟨rfl, c_2_0⟩ | ⟨rfl, c_3_0⟩
  · skip
    refine sy_if_eq (tgt := 18) hx hb dX11_image_4 (by decide) (by decide) (fun c_4 => ?_) (fun c9 => absurd c9 (by decide))
    refine lv_iconst (v := mI (-1)) hx hb dX11_image_18 rfl ?_
    exact r_i hx hb hr hlocks dX11_image_19 hS ⟨B_his_isKept, Ps, Pd, Ph, Po, Pg, by omega, b_B_his_isKept, b_Ps, b_Pd, b_Ph, b_Po, b_Pg, hP⟩
  · skip
    refine sy_if_eq (tgt := 18) hx hb dX11_image_4 (by decide) (by decide) (fun c9 => absurd c9 (by decide)) (fun c_5 => ?_)
    refine lv_aload_n hx hb dX11_image_7 rfl (lv_at hl 0 rfl) ?_
    refine cg_xo_history hx hb hts hown hK hP uw_2_235 dX11_image_8 ?_
    refine lv_iload_n hx hb dX11_image_11 rfl (lv_at hl 1 rfl) ?_
    refine g_i (cDt hD) hS hA (g_V (own := "HideReader") (As := [.int (mI p0)]) (rest := []) hx hb hml hown hts hK hP (cDt hD) (kc_X3_keep (l := l) (D := D) (k := k) (by omega) h_x_his_here b_B_his_isKept b_Ps b_Pd b_Ph b_Po b_Pg) ck_X3_keep iv_X3_keep uw_6_162 (cv_his hK hP) rfl hl.1 rfl (Nat.le_of_ble_eq_true rfl) dX11_image_12 ⟨Nat.le_of_ble_eq_true rfl, Nat.le_of_ble_eq_true rfl⟩ ⟨Nat.le_of_ble_eq_true rfl, Nat.le_of_ble_eq_true rfl⟩) (fun r_6 H locs hQ hS => ?_)
    obtain ⟨F_7, F_8, F_9, F_10, F_11, F_12, hr_6_0, bF_7, bF_8, bF_9, bF_10, bF_11, bF_12, hP⟩ := hQ
    refine lv_goto (tgt := 19) hx hb dX11_image_15 (by decide) ?_
    exact r_i hx hb hr hlocks dX11_image_19 hS ⟨F_7, F_8, F_9, F_10, F_11, F_12, by omega, bF_7, bF_8, bF_9, bF_10, bF_11, bF_12, hP⟩
set_option maxHeartbeats 4000000 in
set_option maxRecDepth 100000 in
theorem kc_X11_back {p0 : Int} (hp0 : -2147483648 ≤ p0 ∧ p0 ≤ 2147483647) (h_x_his_here : 0 ≤ x_his_here ∧ x_his_here ≤ 40) (h_x_his_undoable : -2147483648 ≤ x_his_undoable ∧ x_his_undoable ≤ 2147483647) (h_x_his_redoable : -2147483648 ≤ x_his_redoable ∧ x_his_redoable ≤ 2147483647) (b_B_his_isKept : bd (0) 1 B_his_isKept) (b_Ps : bd (-2147483648) 2147483647 Ps) (b_Pd : bd (0) 999 Pd) (b_Ph : pb (0) 4095 Ph) (b_Po : pb (0) 7 Po) (b_Pg : pb (-2147483648) 2147483647 Pg) : MetG l D k yX11_back cX11_back 2 (some .int) 3 [.ref (a 0), .int (mI p0)] (cW k a q x_xo_lyingCount x_tape_length x_tape_next x_tape_kind x_tape_place x_tape_number x_tape_faultKind x_tape_faultPlace x_told_turns x_told_mirror x_told_night x_told_draw x_told_herds x_told_irons x_told_beasts x_told_linesTold x_tfo_steps x_tfo_units x_draft_turns x_draft_mirror x_draft_night x_draft_draw x_draft_herds x_draft_irons x_draft_beasts x_draft_linesTold x_dfo_steps x_dfo_units x_lat_placements x_smi_irons x_smi_aim x_his_here x_his_undoable x_his_redoable x_book_placedCount x_wit_count x_wit_time n_tape_name B_xo_lying B_tape_bytes B_told_brands B_told_ironMarks B_told_homes B_told_births B_tfo_kinds B_tfo_numbers B_tfo_stack B_tfo_facts B_draft_brands B_draft_ironMarks B_draft_homes B_draft_births B_dfo_kinds B_dfo_numbers B_dfo_stack B_dfo_facts B_lat_lowHalves B_lat_highHalves B_lat_ways B_smi_placedIrons B_smi_within B_smi_costs B_his_isKept B_book_norms B_book_above B_book_heights B_book_placedBrands B_bea_firstGains B_bea_otherGains B_wit_burnings B_wit_strokes B_wit_wasOn B_wit_toldAt B_wit_untoldAt B_wit_on B_wit_off B_wit_firstCounts B_wit_secondCounts Ps Pd G_tape_wordNames G_told_herdNames G_told_ironNames G_told_beastNames G_draft_herdNames G_draft_ironNames G_draft_beastNames Ph Po Pg ex) (qGi (fun r0 H => ∃ (y_his_undoable : Int) (y_his_redoable : Int) (F_Ps : Nat → Int) (F_Pd : Nat → Int) (F_Ph : Nat → Nat → Int) (F_Po : Nat → Nat → Int) (F_Pg : Nat → Nat → Int), (-2147483648 ≤ r0 ∧ r0 ≤ 2147483647) ∧ (-2147483648 ≤ y_his_undoable ∧ y_his_undoable ≤ 2147483647) ∧ (-2147483648 ≤ y_his_redoable ∧ y_his_redoable ≤ 2147483647) ∧ (bd (-2147483648) 2147483647 F_Ps) ∧ (bd (0) 999 F_Pd) ∧ (pb (0) 4095 F_Ph) ∧ (pb (0) 7 F_Po) ∧ (pb (-2147483648) 2147483647 F_Pg) ∧ va_P D vwCl (cW k a q x_xo_lyingCount x_tape_length x_tape_next x_tape_kind x_tape_place x_tape_number x_tape_faultKind x_tape_faultPlace x_told_turns x_told_mirror x_told_night x_told_draw x_told_herds x_told_irons x_told_beasts x_told_linesTold x_tfo_steps x_tfo_units x_draft_turns x_draft_mirror x_draft_night x_draft_draw x_draft_herds x_draft_irons x_draft_beasts x_draft_linesTold x_dfo_steps x_dfo_units x_lat_placements x_smi_irons x_smi_aim x_his_here y_his_undoable y_his_redoable x_book_placedCount x_wit_count x_wit_time n_tape_name B_xo_lying B_tape_bytes B_told_brands B_told_ironMarks B_told_homes B_told_births B_tfo_kinds B_tfo_numbers B_tfo_stack B_tfo_facts B_draft_brands B_draft_ironMarks B_draft_homes B_draft_births B_dfo_kinds B_dfo_numbers B_dfo_stack B_dfo_facts B_lat_lowHalves B_lat_highHalves B_lat_ways B_smi_placedIrons B_smi_within B_smi_costs B_his_isKept B_book_norms B_book_above B_book_heights B_book_placedBrands B_bea_firstGains B_bea_otherGains B_wit_burnings B_wit_strokes B_wit_wasOn B_wit_toldAt B_wit_untoldAt B_wit_on B_wit_off B_wit_firstCounts B_wit_secondCounts F_Ps F_Pd G_tape_wordNames G_told_herdNames G_told_ironNames G_told_beastNames G_draft_herdNames G_draft_ironNames G_draft_beastNames F_Ph F_Po F_Pg ex) H)) := by
  refine metG_of 1 ck_X11_back (Nat.le_of_ble_eq_true rfl) cMap (fun p e s m args below meth c A hx hb hml hr hlocks hown hts hK hD hA hP hS ls hl => ?_)
  have hown : s.vm.findClass "HideReader" = some m.cls := hown
  have hl : lv_has ls 2 [(0, .ref (a 0)), (1, .int (mI p0))] := hl
  refine lv_iload_n hx hb dX11_back_0 rfl (lv_at hl 1 rfl) ?_
  refine g_i (cDt hD) hS hA (g_S (own := "HideReader") (As := [.int (mI p0)]) (rest := []) hx hb hml hown hts hK hP (cDt hD) (kc_X11_isBox (l := l) (D := D) (k := k) (by omega)) ck_X11_isBox uw_6_160 uw_6_159 rfl hl.1 rfl (Nat.le_of_ble_eq_true rfl) dX11_back_1 ⟨Nat.le_of_ble_eq_true rfl, Nat.le_of_ble_eq_true rfl⟩ ⟨Nat.le_of_ble_eq_true rfl, Nat.le_of_ble_eq_true rfl⟩) (fun r_1 H locs hQ hS => ?_)
  obtain ⟨hq_r_1, hP⟩ := hQ
  rcases hq_r_1 with ⟨rfl, c_2_0⟩ | ⟨rfl, c_3_0⟩
  · skip
    refine sy_if_eq (tgt := 18) hx hb dX11_back_4 (by decide) (by decide) (fun c_4 => ?_) (fun c9 => absurd c9 (by decide))
    refine lv_iconst (v := mI (-1)) hx hb dX11_back_18 rfl ?_
    exact r_i hx hb hr hlocks dX11_back_19 hS ⟨x_his_undoable, x_his_redoable, Ps, Pd, Ph, Po, Pg, by omega, by omega, by omega, b_Ps, b_Pd, b_Ph, b_Po, b_Pg, hP⟩
  · skip
    refine sy_if_eq (tgt := 18) hx hb dX11_back_4 (by decide) (by decide) (fun c9 => absurd c9 (by decide)) (fun c_5 => ?_)
    refine lv_aload_n hx hb dX11_back_7 rfl (lv_at hl 0 rfl) ?_
    refine cg_xo_history hx hb hts hown hK hP uw_2_235 dX11_back_8 ?_
    refine lv_iload_n hx hb dX11_back_11 rfl (lv_at hl 1 rfl) ?_
    refine g_i (cDt hD) hS hA (g_V (own := "HideReader") (As := [.int (mI p0)]) (rest := []) hx hb hml hown hts hK hP (cDt hD) (kc_X3_bringBack (l := l) (D := D) (k := k) (by omega) h_x_his_here h_x_his_undoable h_x_his_redoable b_B_his_isKept b_Ps b_Pd b_Ph b_Po b_Pg) ck_X3_bringBack iv_X3_bringBack uw_6_170 (cv_his hK hP) rfl hl.1 rfl (Nat.le_of_ble_eq_true rfl) dX11_back_12 ⟨Nat.le_of_ble_eq_true rfl, Nat.le_of_ble_eq_true rfl⟩ ⟨Nat.le_of_ble_eq_true rfl, Nat.le_of_ble_eq_true rfl⟩) (fun r_6 H locs hQ hS => ?_)
    obtain ⟨y_7, y_8, F_9, F_10, F_11, F_12, F_13, hr_6_0, hr_6_1, hr_6_2, bF_9, bF_10, bF_11, bF_12, bF_13, hP⟩ := hQ
    refine lv_goto (tgt := 19) hx hb dX11_back_15 (by decide) ?_
    exact r_i hx hb hr hlocks dX11_back_19 hS ⟨y_7, y_8, F_9, F_10, F_11, F_12, F_13, by omega, by omega, by omega, bF_9, bF_10, bF_11, bF_12, bF_13, hP⟩
set_option maxHeartbeats 4000000 in
set_option maxRecDepth 100000 in
theorem kc_X11_about {p0 : Int} (hp0 : -2147483648 ≤ p0 ∧ p0 ≤ 2147483647) (h_x_xo_lyingCount : 0 ≤ x_xo_lyingCount ∧ x_xo_lyingCount ≤ 16) (h_x_tape_length : 0 ≤ x_tape_length ∧ x_tape_length ≤ 1600) (h_x_told_turns : -2147483648 ≤ x_told_turns ∧ x_told_turns ≤ 2147483647) (h_x_told_night : -2147483648 ≤ x_told_night ∧ x_told_night ≤ 2147483647) (h_x_told_herds : 0 ≤ x_told_herds ∧ x_told_herds ≤ 8) (h_x_told_irons : 0 ≤ x_told_irons ∧ x_told_irons ≤ 6) (h_x_told_beasts : 0 ≤ x_told_beasts ∧ x_told_beasts ≤ 8) (h_x_tfo_units : 0 ≤ x_tfo_units ∧ x_tfo_units ≤ 30) (h_x_lat_placements : 1 ≤ x_lat_placements ∧ x_lat_placements ≤ 8) (h_x_his_here : 0 ≤ x_his_here ∧ x_his_here ≤ 40) (h_x_his_undoable : -2147483648 ≤ x_his_undoable ∧ x_his_undoable ≤ 2147483647) (h_x_his_redoable : -2147483648 ≤ x_his_redoable ∧ x_his_redoable ≤ 2147483647) (h_x_wit_count : 0 ≤ x_wit_count ∧ x_wit_count ≤ 30) (h_x_wit_time : 0 ≤ x_wit_time ∧ x_wit_time ≤ 100000) (b_Ps : bd (-2147483648) 2147483647 Ps) (b_Pd : bd (0) 999 Pd) : MetG l D k yX11_about cX11_about 2 (some .int) 1 [.ref (a 0), .int (mI p0)] (cW k a q x_xo_lyingCount x_tape_length x_tape_next x_tape_kind x_tape_place x_tape_number x_tape_faultKind x_tape_faultPlace x_told_turns x_told_mirror x_told_night x_told_draw x_told_herds x_told_irons x_told_beasts x_told_linesTold x_tfo_steps x_tfo_units x_draft_turns x_draft_mirror x_draft_night x_draft_draw x_draft_herds x_draft_irons x_draft_beasts x_draft_linesTold x_dfo_steps x_dfo_units x_lat_placements x_smi_irons x_smi_aim x_his_here x_his_undoable x_his_redoable x_book_placedCount x_wit_count x_wit_time n_tape_name B_xo_lying B_tape_bytes B_told_brands B_told_ironMarks B_told_homes B_told_births B_tfo_kinds B_tfo_numbers B_tfo_stack B_tfo_facts B_draft_brands B_draft_ironMarks B_draft_homes B_draft_births B_dfo_kinds B_dfo_numbers B_dfo_stack B_dfo_facts B_lat_lowHalves B_lat_highHalves B_lat_ways B_smi_placedIrons B_smi_within B_smi_costs B_his_isKept B_book_norms B_book_above B_book_heights B_book_placedBrands B_bea_firstGains B_bea_otherGains B_wit_burnings B_wit_strokes B_wit_wasOn B_wit_toldAt B_wit_untoldAt B_wit_on B_wit_off B_wit_firstCounts B_wit_secondCounts Ps Pd G_tape_wordNames G_told_herdNames G_told_ironNames G_told_beastNames G_draft_herdNames G_draft_ironNames G_draft_beastNames Ph Po Pg ex) (qGi (fun r0 H => (-2147483648 ≤ r0 ∧ r0 ≤ 2147483647) ∧ va_P D vwCl (cW k a q x_xo_lyingCount x_tape_length x_tape_next x_tape_kind x_tape_place x_tape_number x_tape_faultKind x_tape_faultPlace x_told_turns x_told_mirror x_told_night x_told_draw x_told_herds x_told_irons x_told_beasts x_told_linesTold x_tfo_steps x_tfo_units x_draft_turns x_draft_mirror x_draft_night x_draft_draw x_draft_herds x_draft_irons x_draft_beasts x_draft_linesTold x_dfo_steps x_dfo_units x_lat_placements x_smi_irons x_smi_aim x_his_here x_his_undoable x_his_redoable x_book_placedCount x_wit_count x_wit_time n_tape_name B_xo_lying B_tape_bytes B_told_brands B_told_ironMarks B_told_homes B_told_births B_tfo_kinds B_tfo_numbers B_tfo_stack B_tfo_facts B_draft_brands B_draft_ironMarks B_draft_homes B_draft_births B_dfo_kinds B_dfo_numbers B_dfo_stack B_dfo_facts B_lat_lowHalves B_lat_highHalves B_lat_ways B_smi_placedIrons B_smi_within B_smi_costs B_his_isKept B_book_norms B_book_above B_book_heights B_book_placedBrands B_bea_firstGains B_bea_otherGains B_wit_burnings B_wit_strokes B_wit_wasOn B_wit_toldAt B_wit_untoldAt B_wit_on B_wit_off B_wit_firstCounts B_wit_secondCounts Ps Pd G_tape_wordNames G_told_herdNames G_told_ironNames G_told_beastNames G_draft_herdNames G_draft_ironNames G_draft_beastNames Ph Po Pg ex) H)) := by
  refine metG_of 1 ck_X11_about (Nat.le_of_ble_eq_true rfl) cMap (fun p e s m args below meth c A hx hb hml hr hlocks hown hts hK hD hA hP hS ls hl => ?_)
  have hown : s.vm.findClass "HideReader" = some m.cls := hown
  have hl : lv_has ls 2 [(0, .ref (a 0)), (1, .int (mI p0))] := hl
  refine lv_iload_n hx hb dX11_about_0 rfl (lv_at hl 1 rfl) ?_
  rcases (by omega : (p0 < 0 ∨ 14 < p0) ∨ p0 = 0 ∨ p0 = 1 ∨ p0 = 2 ∨ p0 = 3 ∨ p0 = 4 ∨ p0 = 5 ∨ p0 = 6 ∨ p0 = 7 ∨ p0 = 8 ∨ p0 = 9 ∨ p0 = 10 ∨ p0 = 11 ∨ p0 = 12 ∨ p0 = 13 ∨ p0 = 14) with c_1 | c_1 | c_1 | c_1 | c_1 | c_1 | c_1 | c_1 | c_1 | c_1 | c_1 | c_1 | c_1 | c_1 | c_1 | c_1
  · skip
    refine sy_tableOut (tgt := 202) hx hb dX11_about_1 (by omega) c_1 (by decide) ?_
    refine lv_iconst (v := mI (-1)) hx hb dX11_about_202 rfl ?_
    exact r_i hx hb hr hlocks dX11_about_203 hS ⟨by omega, hP⟩
  · skip
    refine sy_tableIn (tgt := 76) hx hb dX11_about_1 0 c_1 (by decide) rfl (by decide) ?_
    refine lv_aload_n hx hb dX11_about_76 rfl (lv_at hl 0 rfl) ?_
    refine cg_xo_told hx hb hts hown hK hP uw_2_230 dX11_about_77 ?_
    refine cg_told_herds hx hb hts hown hK hP uw_1_170 dX11_about_80 ?_
    exact r_i hx hb hr hlocks dX11_about_83 hS ⟨by omega, hP⟩
  · skip
    refine sy_tableIn (tgt := 84) hx hb dX11_about_1 1 c_1 (by decide) rfl (by decide) ?_
    refine lv_aload_n hx hb dX11_about_84 rfl (lv_at hl 0 rfl) ?_
    refine cg_xo_told hx hb hts hown hK hP uw_2_230 dX11_about_85 ?_
    refine cg_told_irons hx hb hts hown hK hP uw_1_177 dX11_about_88 ?_
    exact r_i hx hb hr hlocks dX11_about_91 hS ⟨by omega, hP⟩
  · skip
    refine sy_tableIn (tgt := 92) hx hb dX11_about_1 2 c_1 (by decide) rfl (by decide) ?_
    refine lv_aload_n hx hb dX11_about_92 rfl (lv_at hl 0 rfl) ?_
    refine cg_xo_told hx hb hts hown hK hP uw_2_230 dX11_about_93 ?_
    refine cg_told_beasts hx hb hts hown hK hP uw_1_183 dX11_about_96 ?_
    exact r_i hx hb hr hlocks dX11_about_99 hS ⟨by omega, hP⟩
  · skip
    refine sy_tableIn (tgt := 100) hx hb dX11_about_1 3 c_1 (by decide) rfl (by decide) ?_
    refine lv_aload_n hx hb dX11_about_100 rfl (lv_at hl 0 rfl) ?_
    refine cg_xo_lattice hx hb hts hown hK hP uw_2_233 dX11_about_101 ?_
    refine g_i (cDt hD) hS hA (g_V (own := "HideReader") (As := []) (rest := []) hx hb hml hown hts hK hP (cDt hD) (kc_X4_placements (l := l) (D := D) (k := k) h_x_lat_placements) ck_X4_placements iv_X4_placements uw_4_177 (cv_lat hK hP) rfl hl.1 rfl (Nat.le_of_ble_eq_true rfl) dX11_about_104 ⟨Nat.le_of_ble_eq_true rfl, Nat.le_of_ble_eq_true rfl⟩ ⟨Nat.le_of_ble_eq_true rfl, Nat.le_of_ble_eq_true rfl⟩) (fun r_2 H locs hQ hS => ?_)
    obtain ⟨hq_r_2, hP⟩ := hQ
    obtain rfl := hq_r_2
    exact r_i hx hb hr hlocks dX11_about_107 hS ⟨by omega, hP⟩
  · skip
    refine sy_tableIn (tgt := 108) hx hb dX11_about_1 4 c_1 (by decide) rfl (by decide) ?_
    refine lv_aload_n hx hb dX11_about_108 rfl (lv_at hl 0 rfl) ?_
    refine cg_xo_history hx hb hts hown hK hP uw_2_235 dX11_about_109 ?_
    refine g_r (cDt hD) hS hA (g_V (own := "HideReader") (As := []) (rest := []) hx hb hml hown hts hK hP (cDt hD) (kc_X3_now (l := l) (D := D) (k := k) h_x_his_here) ck_X3_now iv_X3_now uw_4_125 (cv_his hK hP) rfl hl.1 rfl (Nat.le_of_ble_eq_true rfl) dX11_about_112 ⟨Nat.le_of_ble_eq_true rfl, Nat.le_of_ble_eq_true rfl⟩ ⟨Nat.le_of_ble_eq_true rfl, Nat.le_of_ble_eq_true rfl⟩) (fun r_4 H locs hQ hS => ?_)
    obtain ⟨hr_4_0, hP⟩ := hQ
    subst hr_4_0
    refine cg_past_seasons (i := x_his_here.toNat) (by omega) hx hb hts hown hK hP uw_2_96 dX11_about_115 b_Ps (fun z_5 _ hz_5 => ?_)
    exact r_i hx hb hr hlocks dX11_about_118 hS ⟨by omega, hP⟩
  · skip
    refine sy_tableIn (tgt := 119) hx hb dX11_about_1 5 c_1 (by decide) rfl (by decide) ?_
    refine lv_aload_n hx hb dX11_about_119 rfl (lv_at hl 0 rfl) ?_
    refine cg_xo_history hx hb hts hown hK hP uw_2_235 dX11_about_120 ?_
    refine g_r (cDt hD) hS hA (g_V (own := "HideReader") (As := []) (rest := []) hx hb hml hown hts hK hP (cDt hD) (kc_X3_now (l := l) (D := D) (k := k) h_x_his_here) ck_X3_now iv_X3_now uw_4_125 (cv_his hK hP) rfl hl.1 rfl (Nat.le_of_ble_eq_true rfl) dX11_about_123 ⟨Nat.le_of_ble_eq_true rfl, Nat.le_of_ble_eq_true rfl⟩ ⟨Nat.le_of_ble_eq_true rfl, Nat.le_of_ble_eq_true rfl⟩) (fun r_6 H locs hQ hS => ?_)
    obtain ⟨hr_6_0, hP⟩ := hQ
    subst hr_6_0
    refine cg_past_seed (i := x_his_here.toNat) (by omega) hx hb hts hown hK hP uw_2_98 dX11_about_126 b_Pd (fun z_7 _ hz_7 => ?_)
    exact r_i hx hb hr hlocks dX11_about_129 hS ⟨by omega, hP⟩
  · skip
    refine sy_tableIn (tgt := 130) hx hb dX11_about_1 6 c_1 (by decide) rfl (by decide) ?_
    refine lv_aload_n hx hb dX11_about_130 rfl (lv_at hl 0 rfl) ?_
    refine cg_xo_history hx hb hts hown hK hP uw_2_235 dX11_about_131 ?_
    refine g_i (cDt hD) hS hA (g_V (own := "HideReader") (As := []) (rest := []) hx hb hml hown hts hK hP (cDt hD) (kc_X3_undoable (l := l) (D := D) (k := k) h_x_his_undoable) ck_X3_undoable iv_X3_undoable uw_6_178 (cv_his hK hP) rfl hl.1 rfl (Nat.le_of_ble_eq_true rfl) dX11_about_134 ⟨Nat.le_of_ble_eq_true rfl, Nat.le_of_ble_eq_true rfl⟩ ⟨Nat.le_of_ble_eq_true rfl, Nat.le_of_ble_eq_true rfl⟩) (fun r_8 H locs hQ hS => ?_)
    obtain ⟨hq_r_8, hP⟩ := hQ
    obtain rfl := hq_r_8
    exact r_i hx hb hr hlocks dX11_about_137 hS ⟨by omega, hP⟩
  · skip
    refine sy_tableIn (tgt := 138) hx hb dX11_about_1 7 c_1 (by decide) rfl (by decide) ?_
    refine lv_aload_n hx hb dX11_about_138 rfl (lv_at hl 0 rfl) ?_
    refine cg_xo_history hx hb hts hown hK hP uw_2_235 dX11_about_139 ?_
    refine g_i (cDt hD) hS hA (g_V (own := "HideReader") (As := []) (rest := []) hx hb hml hown hts hK hP (cDt hD) (kc_X3_redoable (l := l) (D := D) (k := k) h_x_his_redoable) ck_X3_redoable iv_X3_redoable uw_6_182 (cv_his hK hP) rfl hl.1 rfl (Nat.le_of_ble_eq_true rfl) dX11_about_142 ⟨Nat.le_of_ble_eq_true rfl, Nat.le_of_ble_eq_true rfl⟩ ⟨Nat.le_of_ble_eq_true rfl, Nat.le_of_ble_eq_true rfl⟩) (fun r_10 H locs hQ hS => ?_)
    obtain ⟨hq_r_10, hP⟩ := hQ
    obtain rfl := hq_r_10
    exact r_i hx hb hr hlocks dX11_about_145 hS ⟨by omega, hP⟩
  · skip
    refine sy_tableIn (tgt := 146) hx hb dX11_about_1 8 c_1 (by decide) rfl (by decide) ?_
    refine lv_aload_n hx hb dX11_about_146 rfl (lv_at hl 0 rfl) ?_
    refine cg_xo_witness hx hb hts hown hK hP uw_2_238 dX11_about_147 ?_
    refine g_i (cDt hD) hS hA (g_V (own := "HideReader") (As := []) (rest := []) hx hb hml hown hts hK hP (cDt hD) (kc_X10_count (l := l) (D := D) (k := k) h_x_wit_count) ck_X10_count iv_X10_count uw_6_186 (cv_wit hK hP) rfl hl.1 rfl (Nat.le_of_ble_eq_true rfl) dX11_about_150 ⟨Nat.le_of_ble_eq_true rfl, Nat.le_of_ble_eq_true rfl⟩ ⟨Nat.le_of_ble_eq_true rfl, Nat.le_of_ble_eq_true rfl⟩) (fun r_12 H locs hQ hS => ?_)
    obtain ⟨hq_r_12, hP⟩ := hQ
    obtain rfl := hq_r_12
    exact r_i hx hb hr hlocks dX11_about_153 hS ⟨by omega, hP⟩
  · skip
    refine sy_tableIn (tgt := 154) hx hb dX11_about_1 9 c_1 (by decide) rfl (by decide) ?_
    refine lv_aload_n hx hb dX11_about_154 rfl (lv_at hl 0 rfl) ?_
    refine cg_xo_witness hx hb hts hown hK hP uw_2_238 dX11_about_155 ?_
    refine g_i (cDt hD) hS hA (g_V (own := "HideReader") (As := []) (rest := []) hx hb hml hown hts hK hP (cDt hD) (kc_X10_time (l := l) (D := D) (k := k) h_x_wit_time) ck_X10_time iv_X10_time uw_6_190 (cv_wit hK hP) rfl hl.1 rfl (Nat.le_of_ble_eq_true rfl) dX11_about_158 ⟨Nat.le_of_ble_eq_true rfl, Nat.le_of_ble_eq_true rfl⟩ ⟨Nat.le_of_ble_eq_true rfl, Nat.le_of_ble_eq_true rfl⟩) (fun r_14 H locs hQ hS => ?_)
    obtain ⟨hq_r_14, hP⟩ := hQ
    obtain rfl := hq_r_14
    exact r_i hx hb hr hlocks dX11_about_161 hS ⟨by omega, hP⟩
  · skip
    refine sy_tableIn (tgt := 162) hx hb dX11_about_1 10 c_1 (by decide) rfl (by decide) ?_
    refine lv_aload_n hx hb dX11_about_162 rfl (lv_at hl 0 rfl) ?_
    refine cg_xo_tape hx hb hts hown hK hP uw_2_229 dX11_about_163 ?_
    refine g_i (cDt hD) hS hA (g_V (own := "HideReader") (As := []) (rest := []) hx hb hml hown hts hK hP (cDt hD) (kc_X7_length (l := l) (D := D) (k := k) h_x_tape_length) ck_X7_length iv_X7_length uw_3_30 (cv_tape hK hP) rfl hl.1 rfl (Nat.le_of_ble_eq_true rfl) dX11_about_166 ⟨Nat.le_of_ble_eq_true rfl, Nat.le_of_ble_eq_true rfl⟩ ⟨Nat.le_of_ble_eq_true rfl, Nat.le_of_ble_eq_true rfl⟩) (fun r_16 H locs hQ hS => ?_)
    obtain ⟨hq_r_16, hP⟩ := hQ
    obtain rfl := hq_r_16
    exact r_i hx hb hr hlocks dX11_about_169 hS ⟨by omega, hP⟩
  · skip
    refine sy_tableIn (tgt := 170) hx hb dX11_about_1 11 c_1 (by decide) rfl (by decide) ?_
    refine lv_aload_n hx hb dX11_about_170 rfl (lv_at hl 0 rfl) ?_
    refine cg_xo_told hx hb hts hown hK hP uw_2_230 dX11_about_171 ?_
    refine cg_told_shows hx hb hts hown hK hP uw_1_216 dX11_about_174 ?_
    refine g_i (cDt hD) hS hA (g_V (own := "HideReader") (As := []) (rest := []) hx hb hml hown hts hK hP (cDt hD) (kc_X2_units_tfo (l := l) (D := D) (k := k) h_x_tfo_units) ck_X2_units iv_X2_units uw_6_194 (cv_tfo hK hP) rfl hl.1 rfl (Nat.le_of_ble_eq_true rfl) dX11_about_177 ⟨Nat.le_of_ble_eq_true rfl, Nat.le_of_ble_eq_true rfl⟩ ⟨Nat.le_of_ble_eq_true rfl, Nat.le_of_ble_eq_true rfl⟩) (fun r_18 H locs hQ hS => ?_)
    obtain ⟨hq_r_18, hP⟩ := hQ
    obtain rfl := hq_r_18
    exact r_i hx hb hr hlocks dX11_about_180 hS ⟨by omega, hP⟩
  · skip
    refine sy_tableIn (tgt := 181) hx hb dX11_about_1 12 c_1 (by decide) rfl (by decide) ?_
    refine lv_aload_n hx hb dX11_about_181 rfl (lv_at hl 0 rfl) ?_
    refine cg_xo_lyingCount hx hb hts hown hK hP uw_3_0 dX11_about_182 ?_
    exact r_i hx hb hr hlocks dX11_about_185 hS ⟨by omega, hP⟩
  · skip
    refine sy_tableIn (tgt := 186) hx hb dX11_about_1 13 c_1 (by decide) rfl (by decide) ?_
    refine lv_aload_n hx hb dX11_about_186 rfl (lv_at hl 0 rfl) ?_
    refine cg_xo_told hx hb hts hown hK hP uw_2_230 dX11_about_187 ?_
    refine cg_told_night hx hb hts hown hK hP uw_1_164 dX11_about_190 ?_
    exact r_i hx hb hr hlocks dX11_about_193 hS ⟨by omega, hP⟩
  · skip
    refine sy_tableIn (tgt := 194) hx hb dX11_about_1 14 c_1 (by decide) rfl (by decide) ?_
    refine lv_aload_n hx hb dX11_about_194 rfl (lv_at hl 0 rfl) ?_
    refine cg_xo_told hx hb hts hown hK hP uw_2_230 dX11_about_195 ?_
    refine cg_told_turns hx hb hts hown hK hP uw_1_156 dX11_about_198 ?_
    exact r_i hx hb hr hlocks dX11_about_201 hS ⟨by omega, hP⟩
end Kc
