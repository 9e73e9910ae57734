section Kc
variable {l : Launch} {D : va_G} {k : Nat → ClassId} {a : Nat → Nat} {ex : va_W} {x_xo_lyingCount x_tape_length x_tape_next x_tape_kind x_tape_place x_tape_number x_tape_faultKind x_tape_faultPlace x_told_turns x_told_mirror x_told_night x_told_draw x_told_herds x_told_irons x_told_beasts x_told_linesTold x_tfo_steps x_tfo_units x_draft_turns x_draft_mirror x_draft_night x_draft_draw x_draft_herds x_draft_irons x_draft_beasts x_draft_linesTold x_dfo_steps x_dfo_units x_lat_placements x_smi_irons x_smi_aim x_his_here x_his_undoable x_his_redoable x_book_placedCount x_wit_count x_wit_time : Int} {n_tape_name : Int64} {B_xo_lying B_tape_bytes B_told_brands B_told_ironMarks B_told_homes B_told_births B_tfo_kinds B_tfo_numbers B_tfo_stack B_tfo_facts B_draft_brands B_draft_ironMarks B_draft_homes B_draft_births B_dfo_kinds B_dfo_numbers B_dfo_stack B_dfo_facts B_lat_lowHalves B_lat_highHalves B_lat_ways B_smi_placedIrons B_smi_within B_smi_costs B_his_isKept B_book_norms B_book_above B_book_heights B_book_placedBrands B_bea_firstGains B_bea_otherGains B_wit_burnings B_wit_strokes B_wit_wasOn B_wit_toldAt B_wit_untoldAt B_wit_on B_wit_off B_wit_firstCounts B_wit_secondCounts Ps Pd : Nat → Int} {G_tape_wordNames G_told_herdNames G_told_ironNames G_told_beastNames G_draft_herdNames G_draft_ironNames G_draft_beastNames : Nat → Int64} {Ph Po Pg : Nat → Nat → Int} {q : Nat → Nat}
set_option maxHeartbeats 4000000 in
set_option maxRecDepth 100000 in
theorem kc_X9_copyFrom_told_draft (h_x_draft_turns : -2147483648 ≤ x_draft_turns ∧ x_draft_turns ≤ 2147483647) (h_x_draft_mirror : 0 ≤ x_draft_mirror ∧ x_draft_mirror ≤ 1) (h_x_draft_night : -2147483648 ≤ x_draft_night ∧ x_draft_night ≤ 2147483647) (h_x_draft_draw : 0 ≤ x_draft_draw ∧ x_draft_draw ≤ 999) (h_x_draft_herds : 0 ≤ x_draft_herds ∧ x_draft_herds ≤ 8) (h_x_draft_irons : 0 ≤ x_draft_irons ∧ x_draft_irons ≤ 6) (h_x_draft_beasts : 0 ≤ x_draft_beasts ∧ x_draft_beasts ≤ 8) (h_x_dfo_steps : 0 ≤ x_dfo_steps ∧ x_dfo_steps ≤ 270) (h_x_dfo_units : 0 ≤ x_dfo_units ∧ x_dfo_units ≤ 30) (b_B_told_brands : bd (-2147483648) 2147483647 B_told_brands) (b_B_told_ironMarks : bd (-2147483648) 2147483647 B_told_ironMarks) (b_B_told_homes : bd (0) 7 B_told_homes) (b_B_told_births : bd (-2147483648) 2147483647 B_told_births) (b_B_tfo_kinds : bd (-2147483648) 2147483647 B_tfo_kinds) (b_B_tfo_numbers : bd (-2147483648) 2147483647 B_tfo_numbers) (b_B_draft_brands : bd (-2147483648) 2147483647 B_draft_brands) (b_B_draft_ironMarks : bd (-2147483648) 2147483647 B_draft_ironMarks) (b_B_draft_homes : bd (0) 7 B_draft_homes) (b_B_draft_births : bd (-2147483648) 2147483647 B_draft_births) (b_B_dfo_kinds : bd (-2147483648) 2147483647 B_dfo_kinds) (b_B_dfo_numbers : bd (-2147483648) 2147483647 B_dfo_numbers) (hTd : tI x_draft_herds x_draft_beasts B_draft_brands B_draft_homes) : MetG l D k yX9_copyFrom cX9_copyFrom 2 none 2 [.ref (a 5), .ref (a 18)] (cW k a q x_xo_lyingCount x_tape_length x_tape_next x_tape_kind x_tape_place x_tape_number x_tape_faultKind x_tape_faultPlace x_told_turns x_told_mirror x_told_night x_told_draw x_told_herds x_told_irons x_told_beasts x_told_linesTold x_tfo_steps x_tfo_units x_draft_turns x_draft_mirror x_draft_night x_draft_draw x_draft_herds x_draft_irons x_draft_beasts x_draft_linesTold x_dfo_steps x_dfo_units x_lat_placements x_smi_irons x_smi_aim x_his_here x_his_undoable x_his_redoable x_book_placedCount x_wit_count x_wit_time n_tape_name B_xo_lying B_tape_bytes B_told_brands B_told_ironMarks B_told_homes B_told_births B_tfo_kinds B_tfo_numbers B_tfo_stack B_tfo_facts B_draft_brands B_draft_ironMarks B_draft_homes B_draft_births B_dfo_kinds B_dfo_numbers B_dfo_stack B_dfo_facts B_lat_lowHalves B_lat_highHalves B_lat_ways B_smi_placedIrons B_smi_within B_smi_costs B_his_isKept B_book_norms B_book_above B_book_heights B_book_placedBrands B_bea_firstGains B_bea_otherGains B_wit_burnings B_wit_strokes B_wit_wasOn B_wit_toldAt B_wit_untoldAt B_wit_on B_wit_off B_wit_firstCounts B_wit_secondCounts Ps Pd G_tape_wordNames G_told_herdNames G_told_ironNames G_told_beastNames G_draft_herdNames G_draft_ironNames G_draft_beastNames Ph Po Pg ex) (qGv (fun H => ∃ (y_told_turns : Int) (y_told_mirror : Int) (y_told_night : Int) (y_told_draw : Int) (y_told_herds : Int) (y_told_irons : Int) (y_told_beasts : Int) (F_told_brands : Nat → Int) (F_told_ironMarks : Nat → Int) (F_told_homes : Nat → Int) (F_told_births : Nat → Int) (F_tfo_kinds : Nat → Int) (F_tfo_numbers : Nat → Int) (y_tfo_steps : Int) (y_tfo_units : Int), (-2147483648 ≤ y_told_turns ∧ y_told_turns ≤ 2147483647) ∧ (0 ≤ y_told_mirror ∧ y_told_mirror ≤ 1) ∧ (-2147483648 ≤ y_told_night ∧ y_told_night ≤ 2147483647) ∧ (0 ≤ y_told_draw ∧ y_told_draw ≤ 999) ∧ (0 ≤ y_told_herds ∧ y_told_herds ≤ 8) ∧ (0 ≤ y_told_irons ∧ y_told_irons ≤ 6) ∧ (0 ≤ y_told_beasts ∧ y_told_beasts ≤ 8) ∧ (bd (-2147483648) 2147483647 F_told_brands) ∧ (bd (-2147483648) 2147483647 F_told_ironMarks) ∧ (bd (0) 7 F_told_homes) ∧ (bd (-2147483648) 2147483647 F_told_births) ∧ (bd (-2147483648) 2147483647 F_tfo_kinds) ∧ (bd (-2147483648) 2147483647 F_tfo_numbers) ∧ (0 ≤ y_tfo_steps ∧ y_tfo_steps ≤ 270) ∧ (0 ≤ y_tfo_units ∧ y_tfo_units ≤ 30) ∧ (tI y_told_herds y_told_beasts F_told_brands F_told_homes) ∧ va_P D vwCl (cW k a q x_xo_lyingCount x_tape_length x_tape_next x_tape_kind x_tape_place x_tape_number x_tape_faultKind x_tape_faultPlace y_told_turns y_told_mirror y_told_night y_told_draw y_told_herds y_told_irons y_told_beasts x_told_linesTold y_tfo_steps y_tfo_units x_draft_turns x_draft_mirror x_draft_night x_draft_draw x_draft_herds x_draft_irons x_draft_beasts x_draft_linesTold x_dfo_steps x_dfo_units x_lat_placements x_smi_irons x_smi_aim x_his_here x_his_undoable x_his_redoable x_book_placedCount x_wit_count x_wit_time n_tape_name B_xo_lying B_tape_bytes F_told_brands F_told_ironMarks F_told_homes F_told_births F_tfo_kinds F_tfo_numbers B_tfo_stack B_tfo_facts B_draft_brands B_draft_ironMarks B_draft_homes B_draft_births B_dfo_kinds B_dfo_numbers B_dfo_stack B_dfo_facts B_lat_lowHalves B_lat_highHalves B_lat_ways B_smi_placedIrons B_smi_within B_smi_costs B_his_isKept B_book_norms B_book_above B_book_heights B_book_placedBrands B_bea_firstGains B_bea_otherGains B_wit_burnings B_wit_strokes B_wit_wasOn B_wit_toldAt B_wit_untoldAt B_wit_on B_wit_off B_wit_firstCounts B_wit_secondCounts Ps Pd G_tape_wordNames G_told_herdNames G_told_ironNames G_told_beastNames G_draft_herdNames G_draft_ironNames G_draft_beastNames Ph Po Pg ex) H)) := by
  refine metG_of 1 ck_X9_copyFrom (Nat.le_of_ble_eq_true rfl) cMap (fun p e s m args below meth c A hx hb hml hr hlocks hown hts hK hD hA hP hS ls hl => ?_)
  have hown : s.vm.findClass "HideReader$Valley" = some m.cls := hown
  have hl : lv_has ls 2 [(0, .ref (a 5)), (1, .ref (a 18))] := hl
  refine lv_aload_n hx hb dX9_copyFrom_0 rfl (lv_at hl 0 rfl) ?_
  refine lv_aload_n hx hb dX9_copyFrom_1 rfl (lv_at hl 1 rfl) ?_
  refine cg_draft_turns hx hb hts hown hK hP uw_1_155 dX9_copyFrom_2 ?_
  refine cp_told_turns hx hb hts hown hK hP hD hS uw_1_155 dX9_copyFrom_5 (fun H locs hP hS => ?_)
  refine lv_aload_n hx hb dX9_copyFrom_8 rfl (lv_at hl 0 rfl) ?_
  refine lv_aload_n hx hb dX9_copyFrom_9 rfl (lv_at hl 1 rfl) ?_
  refine cg_draft_mirror hx hb hts hown hK hP uw_1_158 dX9_copyFrom_10 ?_
  refine cp_told_mirror hx hb hts hown hK hP hD hS uw_1_158 dX9_copyFrom_13 (by omega) (fun H locs hP hS => ?_)
  refine lv_aload_n hx hb dX9_copyFrom_16 rfl (lv_at hl 0 rfl) ?_
  refine lv_aload_n hx hb dX9_copyFrom_17 rfl (lv_at hl 1 rfl) ?_
  refine cg_draft_night hx hb hts hown hK hP uw_1_161 dX9_copyFrom_18 ?_
  refine cp_told_night hx hb hts hown hK hP hD hS uw_1_161 dX9_copyFrom_21 (fun H locs hP hS => ?_)
  refine lv_aload_n hx hb dX9_copyFrom_24 rfl (lv_at hl 0 rfl) ?_
  refine lv_aload_n hx hb dX9_copyFrom_25 rfl (lv_at hl 1 rfl) ?_
  refine cg_draft_draw hx hb hts hown hK hP uw_1_165 dX9_copyFrom_26 ?_
  refine cp_told_draw hx hb hts hown hK hP hD hS uw_1_165 dX9_copyFrom_29 (fun H locs hP hS => ?_)
  refine lv_aload_n hx hb dX9_copyFrom_32 rfl (lv_at hl 0 rfl) ?_
  refine lv_aload_n hx hb dX9_copyFrom_33 rfl (lv_at hl 1 rfl) ?_
  refine cg_draft_herds hx hb hts hown hK hP uw_1_168 dX9_copyFrom_34 ?_
  refine cp_told_herds hx hb hts hown hK hP hD hS uw_1_168 dX9_copyFrom_37 (fun H locs hP hS => ?_)
  refine lv_aload_n hx hb dX9_copyFrom_40 rfl (lv_at hl 0 rfl) ?_
  refine lv_aload_n hx hb dX9_copyFrom_41 rfl (lv_at hl 1 rfl) ?_
  refine cg_draft_irons hx hb hts hown hK hP uw_1_173 dX9_copyFrom_42 ?_
  refine cp_told_irons hx hb hts hown hK hP hD hS uw_1_173 dX9_copyFrom_45 (fun H locs hP hS => ?_)
  refine lv_aload_n hx hb dX9_copyFrom_48 rfl (lv_at hl 0 rfl) ?_
  refine lv_aload_n hx hb dX9_copyFrom_49 rfl (lv_at hl 1 rfl) ?_
  refine cg_draft_beasts hx hb hts hown hK hP uw_1_178 dX9_copyFrom_50 ?_
  refine cp_told_beasts hx hb hts hown hK hP hD hS uw_1_178 dX9_copyFrom_53 (fun H locs hP hS => ?_)
  refine lv_aload_n hx hb dX9_copyFrom_56 rfl (lv_at hl 1 rfl) ?_
  refine cg_draft_brands hx hb hts hown hK hP uw_1_192 dX9_copyFrom_57 ?_
  refine lv_iconst (v := mI 0) hx hb dX9_copyFrom_60 rfl ?_
  refine lv_aload_n hx hb dX9_copyFrom_61 rfl (lv_at hl 0 rfl) ?_
  refine cg_told_brands hx hb hts hown hK hP uw_1_192 dX9_copyFrom_62 ?_
  refine lv_iconst (v := mI 0) hx hb dX9_copyFrom_65 rfl ?_
  refine lv_bipush (v := mI 8) hx hb dX9_copyFrom_66 (by decide) ?_
  refine cc_told_brands hx hb (hml.trans hl.1.symm) hts hown uw_4_24 hK hP hD hS dX9_copyFrom_68 b_B_draft_brands b_B_told_brands (Nat.le_of_ble_eq_true rfl) (Nat.le_of_ble_eq_true rfl) (fun F_1 H locs eF_1 bF_1 hP hS => ?_)
  refine lv_aload_n hx hb dX9_copyFrom_71 rfl (lv_at hl 1 rfl) ?_
  refine cg_draft_ironMarks hx hb hts hown hK hP uw_1_199 dX9_copyFrom_72 ?_
  refine lv_iconst (v := mI 0) hx hb dX9_copyFrom_75 rfl ?_
  refine lv_aload_n hx hb dX9_copyFrom_76 rfl (lv_at hl 0 rfl) ?_
  refine cg_told_ironMarks hx hb hts hown hK hP uw_1_199 dX9_copyFrom_77 ?_
  refine lv_iconst (v := mI 0) hx hb dX9_copyFrom_80 rfl ?_
  refine lv_bipush (v := mI 6) hx hb dX9_copyFrom_81 (by decide) ?_
  refine cc_told_ironMarks hx hb (hml.trans hl.1.symm) hts hown uw_4_24 hK hP hD hS dX9_copyFrom_83 b_B_draft_ironMarks b_B_told_ironMarks (Nat.le_of_ble_eq_true rfl) (Nat.le_of_ble_eq_true rfl) (fun F_2 H locs eF_2 bF_2 hP hS => ?_)
  refine lv_aload_n hx hb dX9_copyFrom_86 rfl (lv_at hl 1 rfl) ?_
  refine cg_draft_homes hx hb hts hown hK hP uw_1_203 dX9_copyFrom_87 ?_
  refine lv_iconst (v := mI 0) hx hb dX9_copyFrom_90 rfl ?_
  refine lv_aload_n hx hb dX9_copyFrom_91 rfl (lv_at hl 0 rfl) ?_
  refine cg_told_homes hx hb hts hown hK hP uw_1_203 dX9_copyFrom_92 ?_
  refine lv_iconst (v := mI 0) hx hb dX9_copyFrom_95 rfl ?_
  refine lv_bipush (v := mI 8) hx hb dX9_copyFrom_96 (by decide) ?_
  refine cc_told_homes hx hb (hml.trans hl.1.symm) hts hown uw_4_24 hK hP hD hS dX9_copyFrom_98 b_B_draft_homes b_B_told_homes (Nat.le_of_ble_eq_true rfl) (Nat.le_of_ble_eq_true rfl) (fun F_3 H locs eF_3 bF_3 hP hS => ?_)
  have g_4 := tI_cp hTd (by omega) (by omega) eF_1 eF_3
  refine lv_aload_n hx hb dX9_copyFrom_101 rfl (lv_at hl 1 rfl) ?_
  refine cg_draft_births hx hb hts hown hK hP uw_1_208 dX9_copyFrom_102 ?_
  refine lv_iconst (v := mI 0) hx hb dX9_copyFrom_105 rfl ?_
  refine lv_aload_n hx hb dX9_copyFrom_106 rfl (lv_at hl 0 rfl) ?_
  refine cg_told_births hx hb hts hown hK hP uw_1_208 dX9_copyFrom_107 ?_
  refine lv_iconst (v := mI 0) hx hb dX9_copyFrom_110 rfl ?_
  refine lv_bipush (v := mI 8) hx hb dX9_copyFrom_111 (by decide) ?_
  refine cc_told_births hx hb (hml.trans hl.1.symm) hts hown uw_4_24 hK hP hD hS dX9_copyFrom_113 b_B_draft_births b_B_told_births (Nat.le_of_ble_eq_true rfl) (Nat.le_of_ble_eq_true rfl) (fun F_5 H locs eF_5 bF_5 hP hS => ?_)
  refine lv_aload_n hx hb dX9_copyFrom_116 rfl (lv_at hl 0 rfl) ?_
  refine cg_told_shows hx hb hts hown hK hP uw_1_213 dX9_copyFrom_117 ?_
  refine lv_aload_n hx hb dX9_copyFrom_120 rfl (lv_at hl 1 rfl) ?_
  refine cg_draft_shows hx hb hts hown hK hP uw_1_213 dX9_copyFrom_121 ?_
  refine g_v (cDt hD) hS hA (g_V (own := "HideReader$Valley") (As := [.ref (a 26)]) (rest := []) hx hb hml hown hts hK hP (cDt hD) (kc_X2_copyFrom_tfo_dfo (l := l) (D := D) (k := k) h_x_dfo_steps h_x_dfo_units b_B_tfo_kinds b_B_tfo_numbers b_B_dfo_kinds b_B_dfo_numbers) ck_X2_copyFrom iv_X2_copyFrom uw_4_27 (cv_tfo hK hP) rfl hl.1 rfl (Nat.le_of_ble_eq_true rfl) dX9_copyFrom_124 ⟨Nat.le_of_ble_eq_true rfl, Nat.le_of_ble_eq_true rfl⟩ ⟨Nat.le_of_ble_eq_true rfl, Nat.le_of_ble_eq_true rfl⟩) (fun H locs hQ hS => ?_)
  obtain ⟨F_7, F_8, y_9, y_10, bF_7, bF_8, hr_6_2, hr_6_3, hP⟩ := hQ
  exact r_v hx hb hr hlocks dX9_copyFrom_127 hS ⟨x_draft_turns, x_draft_mirror, x_draft_night, x_draft_draw, x_draft_herds, x_draft_irons, x_draft_beasts, F_1, F_2, F_3, F_5, F_7, F_8, y_9, y_10, by omega, by omega, by omega, by omega, by omega, by omega, by omega, bF_1, bF_2, bF_3, bF_5, bF_7, bF_8, by omega, by omega, g_4, hP⟩
set_option maxHeartbeats 4000000 in
set_option maxRecDepth 100000 in
theorem kc_X10_count (h_x_wit_count : 0 ≤ x_wit_count ∧ x_wit_count ≤ 30) : MetG l D k yX10_count cX10_count 1 (some .int) 0 [.ref (a 52)] (cW k a q x_xo_lyingCount x_tape_length x_tape_next x_tape_kind x_tape_place x_tape_number x_tape_faultKind x_tape_faultPlace x_told_turns x_told_mirror x_told_night x_told_draw x_told_herds x_told_irons x_told_beasts x_told_linesTold x_tfo_steps x_tfo_units x_draft_turns x_draft_mirror x_draft_night x_draft_draw x_draft_herds x_draft_irons x_draft_beasts x_draft_linesTold x_dfo_steps x_dfo_units x_lat_placements x_smi_irons x_smi_aim x_his_here x_his_undoable x_his_redoable x_book_placedCount x_wit_count x_wit_time n_tape_name B_xo_lying B_tape_bytes B_told_brands B_told_ironMarks B_told_homes B_told_births B_tfo_kinds B_tfo_numbers B_tfo_stack B_tfo_facts B_draft_brands B_draft_ironMarks B_draft_homes B_draft_births B_dfo_kinds B_dfo_numbers B_dfo_stack B_dfo_facts B_lat_lowHalves B_lat_highHalves B_lat_ways B_smi_placedIrons B_smi_within B_smi_costs B_his_isKept B_book_norms B_book_above B_book_heights B_book_placedBrands B_bea_firstGains B_bea_otherGains B_wit_burnings B_wit_strokes B_wit_wasOn B_wit_toldAt B_wit_untoldAt B_wit_on B_wit_off B_wit_firstCounts B_wit_secondCounts Ps Pd G_tape_wordNames G_told_herdNames G_told_ironNames G_told_beastNames G_draft_herdNames G_draft_ironNames G_draft_beastNames Ph Po Pg ex) (qGi (fun r0 H => ((x_wit_count = r0)) ∧ va_P D vwCl (cW k a q x_xo_lyingCount x_tape_length x_tape_next x_tape_kind x_tape_place x_tape_number x_tape_faultKind x_tape_faultPlace x_told_turns x_told_mirror x_told_night x_told_draw x_told_herds x_told_irons x_told_beasts x_told_linesTold x_tfo_steps x_tfo_units x_draft_turns x_draft_mirror x_draft_night x_draft_draw x_draft_herds x_draft_irons x_draft_beasts x_draft_linesTold x_dfo_steps x_dfo_units x_lat_placements x_smi_irons x_smi_aim x_his_here x_his_undoable x_his_redoable x_book_placedCount x_wit_count x_wit_time n_tape_name B_xo_lying B_tape_bytes B_told_brands B_told_ironMarks B_told_homes B_told_births B_tfo_kinds B_tfo_numbers B_tfo_stack B_tfo_facts B_draft_brands B_draft_ironMarks B_draft_homes B_draft_births B_dfo_kinds B_dfo_numbers B_dfo_stack B_dfo_facts B_lat_lowHalves B_lat_highHalves B_lat_ways B_smi_placedIrons B_smi_within B_smi_costs B_his_isKept B_book_norms B_book_above B_book_heights B_book_placedBrands B_bea_firstGains B_bea_otherGains B_wit_burnings B_wit_strokes B_wit_wasOn B_wit_toldAt B_wit_untoldAt B_wit_on B_wit_off B_wit_firstCounts B_wit_secondCounts Ps Pd G_tape_wordNames G_told_herdNames G_told_ironNames G_told_beastNames G_draft_herdNames G_draft_ironNames G_draft_beastNames Ph Po Pg ex) H)) := by
  refine metG_of 0 ck_X10_count (Nat.le_of_ble_eq_true rfl) cMap (fun p e s m args below meth c A hx hb hml hr hlocks hown hts hK hD hA hP hS ls hl => ?_)
  have hown : s.vm.findClass "HideReader$Witness" = some m.cls := hown
  have hl : lv_has ls 1 [(0, .ref (a 52))] := hl
  refine lv_aload_n hx hb dX10_count_0 rfl (lv_at hl 0 rfl) ?_
  refine cg_wit_count hx hb hts hown hK hP uw_2_196 dX10_count_1 ?_
  exact r_i hx hb hr hlocks dX10_count_4 hS ⟨rfl, hP⟩
set_option maxHeartbeats 4000000 in
set_option maxRecDepth 100000 in
theorem kc_X10_time (h_x_wit_time : 0 ≤ x_wit_time ∧ x_wit_time ≤ 100000) : MetG l D k yX10_time cX10_time 1 (some .int) 0 [.ref (a 52)] (cW k a q x_xo_lyingCount x_tape_length x_tape_next x_tape_kind x_tape_place x_tape_number x_tape_faultKind x_tape_faultPlace x_told_turns x_told_mirror x_told_night x_told_draw x_told_herds x_told_irons x_told_beasts x_told_linesTold x_tfo_steps x_tfo_units x_draft_turns x_draft_mirror x_draft_night x_draft_draw x_draft_herds x_draft_irons x_draft_beasts x_draft_linesTold x_dfo_steps x_dfo_units x_lat_placements x_smi_irons x_smi_aim x_his_here x_his_undoable x_his_redoable x_book_placedCount x_wit_count x_wit_time n_tape_name B_xo_lying B_tape_bytes B_told_brands B_told_ironMarks B_told_homes B_told_births B_tfo_kinds B_tfo_numbers B_tfo_stack B_tfo_facts B_draft_brands B_draft_ironMarks B_draft_homes B_draft_births B_dfo_kinds B_dfo_numbers B_dfo_stack B_dfo_facts B_lat_lowHalves B_lat_highHalves B_lat_ways B_smi_placedIrons B_smi_within B_smi_costs B_his_isKept B_book_norms B_book_above B_book_heights B_book_placedBrands B_bea_firstGains B_bea_otherGains B_wit_burnings B_wit_strokes B_wit_wasOn B_wit_toldAt B_wit_untoldAt B_wit_on B_wit_off B_wit_firstCounts B_wit_secondCounts Ps Pd G_tape_wordNames G_told_herdNames G_told_ironNames G_told_beastNames G_draft_herdNames G_draft_ironNames G_draft_beastNames Ph Po Pg ex) (qGi (fun r0 H => ((x_wit_time = r0)) ∧ va_P D vwCl (cW k a q x_xo_lyingCount x_tape_length x_tape_next x_tape_kind x_tape_place x_tape_number x_tape_faultKind x_tape_faultPlace x_told_turns x_told_mirror x_told_night x_told_draw x_told_herds x_told_irons x_told_beasts x_told_linesTold x_tfo_steps x_tfo_units x_draft_turns x_draft_mirror x_draft_night x_draft_draw x_draft_herds x_draft_irons x_draft_beasts x_draft_linesTold x_dfo_steps x_dfo_units x_lat_placements x_smi_irons x_smi_aim x_his_here x_his_undoable x_his_redoable x_book_placedCount x_wit_count x_wit_time n_tape_name B_xo_lying B_tape_bytes B_told_brands B_told_ironMarks B_told_homes B_told_births B_tfo_kinds B_tfo_numbers B_tfo_stack B_tfo_facts B_draft_brands B_draft_ironMarks B_draft_homes B_draft_births B_dfo_kinds B_dfo_numbers B_dfo_stack B_dfo_facts B_lat_lowHalves B_lat_highHalves B_lat_ways B_smi_placedIrons B_smi_within B_smi_costs B_his_isKept B_book_norms B_book_above B_book_heights B_book_placedBrands B_bea_firstGains B_bea_otherGains B_wit_burnings B_wit_strokes B_wit_wasOn B_wit_toldAt B_wit_untoldAt B_wit_on B_wit_off B_wit_firstCounts B_wit_secondCounts Ps Pd G_tape_wordNames G_told_herdNames G_told_ironNames G_told_beastNames G_draft_herdNames G_draft_ironNames G_draft_beastNames Ph Po Pg ex) H)) := by
  refine metG_of 0 ck_X10_time (Nat.le_of_ble_eq_true rfl) cMap (fun p e s m args below meth c A hx hb hml hr hlocks hown hts hK hD hA hP hS ls hl => ?_)
  have hown : s.vm.findClass "HideReader$Witness" = some m.cls := hown
  have hl : lv_has ls 1 [(0, .ref (a 52))] := hl
  refine lv_aload_n hx hb dX10_time_0 rfl (lv_at hl 0 rfl) ?_
  refine cg_wit_time hx hb hts hown hK hP uw_2_197 dX10_time_1 ?_
  exact r_i hx hb hr hlocks dX10_time_4 hS ⟨rfl, hP⟩
set_option maxHeartbeats 4000000 in
set_option maxRecDepth 100000 in
theorem kc_X10_forget (h_x_wit_count : 0 ≤ x_wit_count ∧ x_wit_count ≤ 30) : MetG l D k yX10_forget cX10_forget 1 none 0 [.ref (a 52)] (cW k a q x_xo_lyingCount x_tape_length x_tape_next x_tape_kind x_tape_place x_tape_number x_tape_faultKind x_tape_faultPlace x_told_turns x_told_mirror x_told_night x_told_draw x_told_herds x_told_irons x_told_beasts x_told_linesTold x_tfo_steps x_tfo_units x_draft_turns x_draft_mirror x_draft_night x_draft_draw x_draft_herds x_draft_irons x_draft_beasts x_draft_linesTold x_dfo_steps x_dfo_units x_lat_placements x_smi_irons x_smi_aim x_his_here x_his_undoable x_his_redoable x_book_placedCount x_wit_count x_wit_time n_tape_name B_xo_lying B_tape_bytes B_told_brands B_told_ironMarks B_told_homes B_told_births B_tfo_kinds B_tfo_numbers B_tfo_stack B_tfo_facts B_draft_brands B_draft_ironMarks B_draft_homes B_draft_births B_dfo_kinds B_dfo_numbers B_dfo_stack B_dfo_facts B_lat_lowHalves B_lat_highHalves B_lat_ways B_smi_placedIrons B_smi_within B_smi_costs B_his_isKept B_book_norms B_book_above B_book_heights B_book_placedBrands B_bea_firstGains B_bea_otherGains B_wit_burnings B_wit_strokes B_wit_wasOn B_wit_toldAt B_wit_untoldAt B_wit_on B_wit_off B_wit_firstCounts B_wit_secondCounts Ps Pd G_tape_wordNames G_told_herdNames G_told_ironNames G_told_beastNames G_draft_herdNames G_draft_ironNames G_draft_beastNames Ph Po Pg ex) (qGv (fun H => ∃ (y_wit_count : Int), (0 ≤ y_wit_count ∧ y_wit_count ≤ 0) ∧ (0 ≤ -y_wit_count + x_wit_count) ∧ (bU y_wit_count B_wit_burnings) ∧ va_P D vwCl (cW k a q x_xo_lyingCount x_tape_length x_tape_next x_tape_kind x_tape_place x_tape_number x_tape_faultKind x_tape_faultPlace x_told_turns x_told_mirror x_told_night x_told_draw x_told_herds x_told_irons x_told_beasts x_told_linesTold x_tfo_steps x_tfo_units x_draft_turns x_draft_mirror x_draft_night x_draft_draw x_draft_herds x_draft_irons x_draft_beasts x_draft_linesTold x_dfo_steps x_dfo_units x_lat_placements x_smi_irons x_smi_aim x_his_here x_his_undoable x_his_redoable x_book_placedCount y_wit_count x_wit_time n_tape_name B_xo_lying B_tape_bytes B_told_brands B_told_ironMarks B_told_homes B_told_births B_tfo_kinds B_tfo_numbers B_tfo_stack B_tfo_facts B_draft_brands B_draft_ironMarks B_draft_homes B_draft_births B_dfo_kinds B_dfo_numbers B_dfo_stack B_dfo_facts B_lat_lowHalves B_lat_highHalves B_lat_ways B_smi_placedIrons B_smi_within B_smi_costs B_his_isKept B_book_norms B_book_above B_book_heights B_book_placedBrands B_bea_firstGains B_bea_otherGains B_wit_burnings B_wit_strokes B_wit_wasOn B_wit_toldAt B_wit_untoldAt B_wit_on B_wit_off B_wit_firstCounts B_wit_secondCounts Ps Pd G_tape_wordNames G_told_herdNames G_told_ironNames G_told_beastNames G_draft_herdNames G_draft_ironNames G_draft_beastNames Ph Po Pg ex) H)) := by
  refine metG_of 0 ck_X10_forget (Nat.le_of_ble_eq_true rfl) cMap (fun p e s m args below meth c A hx hb hml hr hlocks hown hts hK hD hA hP hS ls hl => ?_)
  have hown : s.vm.findClass "HideReader$Witness" = some m.cls := hown
  have hl : lv_has ls 1 [(0, .ref (a 52))] := hl
  refine lv_aload_n hx hb dX10_forget_0 rfl (lv_at hl 0 rfl) ?_
  refine lv_iconst (v := mI 0) hx hb dX10_forget_1 rfl ?_
  refine cp_wit_count hx hb hts hown hK hP hD hS uw_2_196 dX10_forget_2 (fun H locs hP hS => ?_)
  exact r_v hx hb hr hlocks dX10_forget_5 hS ⟨0, by omega, by omega, (bU_0 _), hP⟩
set_option maxHeartbeats 4000000 in
set_option maxRecDepth 100000 in
theorem kc_X10_tell {p0 p1 p2 : Int} (hp0 : 1 ≤ p0 ∧ p0 ≤ 2) (hp1 : 0 ≤ p1 ∧ p1 ≤ 11) (hp2 : 0 ≤ p2 ∧ p2 ≤ 1) (h_x_wit_count : 0 ≤ x_wit_count ∧ x_wit_count ≤ 30) (h_x_wit_time : 0 ≤ x_wit_time ∧ x_wit_time ≤ 100000) (b_B_wit_burnings : bd (0) 2 B_wit_burnings) (b_B_wit_strokes : bd (0) 11 B_wit_strokes) (b_B_wit_wasOn : bd (0) 1 B_wit_wasOn) (b_B_wit_toldAt : bd (-2147483648) 2147483647 B_wit_toldAt) (b_B_wit_untoldAt : bd (-2147483648) 2147483647 B_wit_untoldAt) (g_U : bU x_wit_count B_wit_burnings) : MetG l D k yX10_tell cX10_tell 4 (some .int) 0 [.ref (a 52), .int (mI p0), .int (mI p1), .int (mI p2)] (cW k a q x_xo_lyingCount x_tape_length x_tape_next x_tape_kind x_tape_place x_tape_number x_tape_faultKind x_tape_faultPlace x_told_turns x_told_mirror x_told_night x_told_draw x_told_herds x_told_irons x_told_beasts x_told_linesTold x_tfo_steps x_tfo_units x_draft_turns x_draft_mirror x_draft_night x_draft_draw x_draft_herds x_draft_irons x_draft_beasts x_draft_linesTold x_dfo_steps x_dfo_units x_lat_placements x_smi_irons x_smi_aim x_his_here x_his_undoable x_his_redoable x_book_placedCount x_wit_count x_wit_time n_tape_name B_xo_lying B_tape_bytes B_told_brands B_told_ironMarks B_told_homes B_told_births B_tfo_kinds B_tfo_numbers B_tfo_stack B_tfo_facts B_draft_brands B_draft_ironMarks B_draft_homes B_draft_births B_dfo_kinds B_dfo_numbers B_dfo_stack B_dfo_facts B_lat_lowHalves B_lat_highHalves B_lat_ways B_smi_placedIrons B_smi_within B_smi_costs B_his_isKept B_book_norms B_book_above B_book_heights B_book_placedBrands B_bea_firstGains B_bea_otherGains B_wit_burnings B_wit_strokes B_wit_wasOn B_wit_toldAt B_wit_untoldAt B_wit_on B_wit_off B_wit_firstCounts B_wit_secondCounts Ps Pd G_tape_wordNames G_told_herdNames G_told_ironNames G_told_beastNames G_draft_herdNames G_draft_ironNames G_draft_beastNames Ph Po Pg ex) (qGi (fun r0 H => ∃ (F_wit_burnings : Nat → Int) (F_wit_strokes : Nat → Int) (F_wit_wasOn : Nat → Int) (F_wit_toldAt : Nat → Int) (F_wit_untoldAt : Nat → Int) (y_wit_count : Int), (-1 ≤ r0 ∧ r0 ≤ 29) ∧ (bd (0) 2 F_wit_burnings) ∧ (bd (0) 11 F_wit_strokes) ∧ (bd (0) 1 F_wit_wasOn) ∧ (bd (-2147483648) 2147483647 F_wit_toldAt) ∧ (bd (-2147483648) 2147483647 F_wit_untoldAt) ∧ (1 ≤ y_wit_count ∧ y_wit_count ≤ 30) ∧ (0 ≤ y_wit_count - x_wit_count) ∧ (bU y_wit_count F_wit_burnings) ∧ va_P D vwCl (cW k a q x_xo_lyingCount x_tape_length x_tape_next x_tape_kind x_tape_place x_tape_number x_tape_faultKind x_tape_faultPlace x_told_turns x_told_mirror x_told_night x_told_draw x_told_herds x_told_irons x_told_beasts x_told_linesTold x_tfo_steps x_tfo_units x_draft_turns x_draft_mirror x_draft_night x_draft_draw x_draft_herds x_draft_irons x_draft_beasts x_draft_linesTold x_dfo_steps x_dfo_units x_lat_placements x_smi_irons x_smi_aim x_his_here x_his_undoable x_his_redoable x_book_placedCount y_wit_count x_wit_time n_tape_name B_xo_lying B_tape_bytes B_told_brands B_told_ironMarks B_told_homes B_told_births B_tfo_kinds B_tfo_numbers B_tfo_stack B_tfo_facts B_draft_brands B_draft_ironMarks B_draft_homes B_draft_births B_dfo_kinds B_dfo_numbers B_dfo_stack B_dfo_facts B_lat_lowHalves B_lat_highHalves B_lat_ways B_smi_placedIrons B_smi_within B_smi_costs B_his_isKept B_book_norms B_book_above B_book_heights B_book_placedBrands B_bea_firstGains B_bea_otherGains F_wit_burnings F_wit_strokes F_wit_wasOn F_wit_toldAt F_wit_untoldAt B_wit_on B_wit_off B_wit_firstCounts B_wit_secondCounts Ps Pd G_tape_wordNames G_told_herdNames G_told_ironNames G_told_beastNames G_draft_herdNames G_draft_ironNames G_draft_beastNames Ph Po Pg ex) H)) := by
  refine metG_of 3 ck_X10_tell (Nat.le_of_ble_eq_true rfl) cMap (fun p e s m args below meth c A hx hb hml hr hlocks hown hts hK hD hA hP hS ls hl => ?_)
  have hown : s.vm.findClass "HideReader$Witness" = some m.cls := hown
  have hl : lv_has ls 4 [(0, .ref (a 52)), (1, .int (mI p0)), (2, .int (mI p1)), (3, .int (mI p2))] := hl
  refine lv_aload_n hx hb dX10_tell_0 rfl (lv_at hl 0 rfl) ?_
  refine cg_wit_count hx hb hts hown hK hP uw_2_196 dX10_tell_1 ?_
  refine lv_bipush (v := mI 30) hx hb dX10_tell_4 (by decide) ?_
  refine sy_icmp_lt (tgt := 11) hx hb dX10_tell_6 (by decide) (by omega) (by decide) (fun c_1 => ?_) (fun c_1 => ?_)
  · skip
    refine lv_aload_n hx hb dX10_tell_11 rfl (lv_at hl 0 rfl) ?_
    refine cg_wit_burnings hx hb hts hown hK hP uw_2_191 dX10_tell_12 ?_
    refine lv_aload_n hx hb dX10_tell_15 rfl (lv_at hl 0 rfl) ?_
    refine cg_wit_count hx hb hts hown hK hP uw_2_196 dX10_tell_16 ?_
    refine lv_iload_n hx hb dX10_tell_19 rfl (lv_at hl 1 rfl) ?_
    refine cs_wit_burnings hx hb hK hP hD hS dX10_tell_20 (by omega) b_B_wit_burnings (by omega) (fun F_2 H locs eF_2 bF_2 hP hS => ?_)
    have g_3 := bU_s g_U eF_2 (by omega) (by omega)
    refine lv_aload_n hx hb dX10_tell_21 rfl (lv_at hl 0 rfl) ?_
    refine cg_wit_strokes hx hb hts hown hK hP uw_2_192 dX10_tell_22 ?_
    refine lv_aload_n hx hb dX10_tell_25 rfl (lv_at hl 0 rfl) ?_
    refine cg_wit_count hx hb hts hown hK hP uw_2_196 dX10_tell_26 ?_
    refine lv_iload_n hx hb dX10_tell_29 rfl (lv_at hl 2 rfl) ?_
    refine cs_wit_strokes hx hb hK hP hD hS dX10_tell_30 (by omega) b_B_wit_strokes (by omega) (fun F_4 H locs _ bF_4 hP hS => ?_)
    refine lv_aload_n hx hb dX10_tell_31 rfl (lv_at hl 0 rfl) ?_
    refine cg_wit_wasOn hx hb hts hown hK hP uw_2_193 dX10_tell_32 ?_
    refine lv_aload_n hx hb dX10_tell_35 rfl (lv_at hl 0 rfl) ?_
    refine cg_wit_count hx hb hts hown hK hP uw_2_196 dX10_tell_36 ?_
    refine lv_iload_n hx hb dX10_tell_39 rfl (lv_at hl 3 rfl) ?_
    refine cs_wit_wasOn hx hb hK hP hD hS (by decide) dX10_tell_40 (by omega) b_B_wit_wasOn (by omega) (fun F_5 H locs _ bF_5 hP hS => ?_)
    refine lv_aload_n hx hb dX10_tell_41 rfl (lv_at hl 0 rfl) ?_
    refine cg_wit_toldAt hx hb hts hown hK hP uw_2_194 dX10_tell_42 ?_
    refine lv_aload_n hx hb dX10_tell_45 rfl (lv_at hl 0 rfl) ?_
    refine cg_wit_count hx hb hts hown hK hP uw_2_196 dX10_tell_46 ?_
    refine lv_aload_n hx hb dX10_tell_49 rfl (lv_at hl 0 rfl) ?_
    refine cg_wit_time hx hb hts hown hK hP uw_2_197 dX10_tell_50 ?_
    refine cs_wit_toldAt hx hb hK hP hD hS dX10_tell_53 (by omega) b_B_wit_toldAt (by omega) (fun F_6 H locs _ bF_6 hP hS => ?_)
    refine lv_aload_n hx hb dX10_tell_54 rfl (lv_at hl 0 rfl) ?_
    refine cg_wit_untoldAt hx hb hts hown hK hP uw_2_195 dX10_tell_55 ?_
    refine lv_aload_n hx hb dX10_tell_58 rfl (lv_at hl 0 rfl) ?_
    refine cg_wit_count hx hb hts hown hK hP uw_2_196 dX10_tell_59 ?_
    refine lv_iconst (v := mI (-1)) hx hb dX10_tell_62 rfl ?_
    refine cs_wit_untoldAt hx hb hK hP hD hS dX10_tell_63 (by omega) b_B_wit_untoldAt (by omega) (fun F_7 H locs _ bF_7 hP hS => ?_)
    refine lv_aload_n hx hb dX10_tell_64 rfl (lv_at hl 0 rfl) ?_
    refine lv_dup hx hb dX10_tell_65 rfl ?_
    refine cg_wit_count hx hb hts hown hK hP uw_2_196 dX10_tell_66 ?_
    refine lv_iconst (v := mI 1) hx hb dX10_tell_69 rfl ?_
    refine sy_iadd hx hb dX10_tell_70 (x_wit_count + 1) rfl ?_
    refine cp_wit_count hx hb hts hown hK hP hD hS uw_2_196 dX10_tell_71 (fun H locs hP hS => ?_)
    refine lv_aload_n hx hb dX10_tell_74 rfl (lv_at hl 0 rfl) ?_
    refine cg_wit_count hx hb hts hown hK hP uw_2_196 dX10_tell_75 ?_
    refine lv_iconst (v := mI 1) hx hb dX10_tell_78 rfl ?_
    refine sy_isub hx hb dX10_tell_79 x_wit_count (by omega) ?_
    exact r_i hx hb hr hlocks dX10_tell_80 hS ⟨F_2, F_4, F_5, F_6, F_7, (x_wit_count + 1), by omega, bF_2, bF_4, bF_5, bF_6, bF_7, by omega, by omega, g_3, hP⟩
  · skip
    refine lv_iconst (v := mI (-1)) hx hb dX10_tell_9 rfl ?_
    exact r_i hx hb hr hlocks dX10_tell_10 hS ⟨B_wit_burnings, B_wit_strokes, B_wit_wasOn, B_wit_toldAt, B_wit_untoldAt, x_wit_count, by omega, b_B_wit_burnings, b_B_wit_strokes, b_B_wit_wasOn, b_B_wit_toldAt, b_B_wit_untoldAt, by omega, by omega, g_U, hP⟩
set_option maxHeartbeats 4000000 in
set_option maxRecDepth 100000 in
theorem kc_X10_takeBack {p0 : Int} (hp0 : -2147483648 ≤ p0 ∧ p0 ≤ 2147483647) (h_x_wit_count : 0 ≤ x_wit_count ∧ x_wit_count ≤ 30) (h_x_wit_time : 0 ≤ x_wit_time ∧ x_wit_time ≤ 100000) (b_B_wit_untoldAt : bd (-2147483648) 2147483647 B_wit_untoldAt) : MetG l D k yX10_takeBack cX10_takeBack 2 (some .boolean) 0 [.ref (a 52), .int (mI p0)] (cW k a q x_xo_lyingCount x_tape_length x_tape_next x_tape_kind x_tape_place x_tape_number x_tape_faultKind x_tape_faultPlace x_told_turns x_told_mirror x_told_night x_told_draw x_told_herds x_told_irons x_told_beasts x_told_linesTold x_tfo_steps x_tfo_units x_draft_turns x_draft_mirror x_draft_night x_draft_draw x_draft_herds x_draft_irons x_draft_beasts x_draft_linesTold x_dfo_steps x_dfo_units x_lat_placements x_smi_irons x_smi_aim x_his_here x_his_undoable x_his_redoable x_book_placedCount x_wit_count x_wit_time n_tape_name B_xo_lying B_tape_bytes B_told_brands B_told_ironMarks B_told_homes B_told_births B_tfo_kinds B_tfo_numbers B_tfo_stack B_tfo_facts B_draft_brands B_draft_ironMarks B_draft_homes B_draft_births B_dfo_kinds B_dfo_numbers B_dfo_stack B_dfo_facts B_lat_lowHalves B_lat_highHalves B_lat_ways B_smi_placedIrons B_smi_within B_smi_costs B_his_isKept B_book_norms B_book_above B_book_heights B_book_placedBrands B_bea_firstGains B_bea_otherGains B_wit_burnings B_wit_strokes B_wit_wasOn B_wit_toldAt B_wit_untoldAt B_wit_on B_wit_off B_wit_firstCounts B_wit_secondCounts Ps Pd G_tape_wordNames G_told_herdNames G_told_ironNames G_told_beastNames G_draft_herdNames G_draft_ironNames G_draft_beastNames Ph Po Pg ex) (qGi (fun r0 H => ∃ (F_wit_untoldAt : Nat → Int), (0 ≤ r0 ∧ r0 ≤ 1) ∧ (bd (-2147483648) 2147483647 F_wit_untoldAt) ∧ va_P D vwCl (cW k a q x_xo_lyingCount x_tape_length x_tape_next x_tape_kind x_tape_place x_tape_number x_tape_faultKind x_tape_faultPlace x_told_turns x_told_mirror x_told_night x_told_draw x_told_herds x_told_irons x_told_beasts x_told_linesTold x_tfo_steps x_tfo_units x_draft_turns x_draft_mirror x_draft_night x_draft_draw x_draft_herds x_draft_irons x_draft_beasts x_draft_linesTold x_dfo_steps x_dfo_units x_lat_placements x_smi_irons x_smi_aim x_his_here x_his_undoable x_his_redoable x_book_placedCount x_wit_count x_wit_time n_tape_name B_xo_lying B_tape_bytes B_told_brands B_told_ironMarks B_told_homes B_told_births B_tfo_kinds B_tfo_numbers B_tfo_stack B_tfo_facts B_draft_brands B_draft_ironMarks B_draft_homes B_draft_births B_dfo_kinds B_dfo_numbers B_dfo_stack B_dfo_facts B_lat_lowHalves B_lat_highHalves B_lat_ways B_smi_placedIrons B_smi_within B_smi_costs B_his_isKept B_book_norms B_book_above B_book_heights B_book_placedBrands B_bea_firstGains B_bea_otherGains B_wit_burnings B_wit_strokes B_wit_wasOn B_wit_toldAt F_wit_untoldAt B_wit_on B_wit_off B_wit_firstCounts B_wit_secondCounts Ps Pd G_tape_wordNames G_told_herdNames G_told_ironNames G_told_beastNames G_draft_herdNames G_draft_ironNames G_draft_beastNames Ph Po Pg ex) H)) := by
  refine metG_of 1 ck_X10_takeBack (Nat.le_of_ble_eq_true rfl) cMap (fun p e s m args below meth c A hx hb hml hr hlocks hown hts hK hD hA hP hS ls hl => ?_)
  have hown : s.vm.findClass "HideReader$Witness" = some m.cls := hown
  have hl : lv_has ls 2 [(0, .ref (a 52)), (1, .int (mI p0))] := hl
  refine lv_iload_n hx hb dX10_takeBack_0 rfl (lv_at hl 1 rfl) ?_
  refine sy_if_lt (tgt := 22) hx hb dX10_takeBack_1 (by decide) (by omega) (fun c_1 => ?_) (fun c_1 => ?_)
  · skip
    refine lv_iconst (v := mI 0) hx hb dX10_takeBack_22 rfl ?_
    exact r_z hx hb hr hlocks dX10_takeBack_23 hS (by decide) ⟨B_wit_untoldAt, by omega, b_B_wit_untoldAt, hP⟩
  · skip
    refine lv_iload_n hx hb dX10_takeBack_4 rfl (lv_at hl 1 rfl) ?_
    refine lv_aload_n hx hb dX10_takeBack_5 rfl (lv_at hl 0 rfl) ?_
    refine cg_wit_count hx hb hts hown hK hP uw_2_196 dX10_takeBack_6 ?_
    refine sy_icmp_ge (tgt := 22) hx hb dX10_takeBack_9 (by decide) (by omega) (by omega) (fun c_2 => ?_) (fun c_2 => ?_)
    · skip
      refine lv_iconst (v := mI 0) hx hb dX10_takeBack_22 rfl ?_
      exact r_z hx hb hr hlocks dX10_takeBack_23 hS (by decide) ⟨B_wit_untoldAt, by omega, b_B_wit_untoldAt, hP⟩
    · skip
      refine lv_aload_n hx hb dX10_takeBack_12 rfl (lv_at hl 0 rfl) ?_
      refine cg_wit_untoldAt hx hb hts hown hK hP uw_2_195 dX10_takeBack_13 ?_
      refine lv_iload_n hx hb dX10_takeBack_16 rfl (lv_at hl 1 rfl) ?_
      refine cl_wit_untoldAt hx hb hK hP dX10_takeBack_17 (by omega) b_B_wit_untoldAt (fun z_3 _ hz_3 => ?_)
      refine lv_iconst (v := mI (-1)) hx hb dX10_takeBack_18 rfl ?_
      refine sy_icmp_eq (tgt := 24) hx hb dX10_takeBack_19 (by decide) (by omega) (by decide) (fun c_4 => ?_) (fun c_4 => ?_)
      · skip
        refine lv_aload_n hx hb dX10_takeBack_24 rfl (lv_at hl 0 rfl) ?_
        refine cg_wit_untoldAt hx hb hts hown hK hP uw_2_195 dX10_takeBack_25 ?_
        refine lv_iload_n hx hb dX10_takeBack_28 rfl (lv_at hl 1 rfl) ?_
        refine lv_aload_n hx hb dX10_takeBack_29 rfl (lv_at hl 0 rfl) ?_
        refine cg_wit_time hx hb hts hown hK hP uw_2_197 dX10_takeBack_30 ?_
        refine cs_wit_untoldAt hx hb hK hP hD hS dX10_takeBack_33 (by omega) b_B_wit_untoldAt (by omega) (fun F_5 H locs _ bF_5 hP hS => ?_)
        refine lv_iconst (v := mI 1) hx hb dX10_takeBack_34 rfl ?_
        exact r_z hx hb hr hlocks dX10_takeBack_35 hS (by decide) ⟨F_5, by omega, bF_5, hP⟩
      · skip
        refine lv_iconst (v := mI 0) hx hb dX10_takeBack_22 rfl ?_
        exact r_z hx hb hr hlocks dX10_takeBack_23 hS (by decide) ⟨B_wit_untoldAt, by omega, b_B_wit_untoldAt, hP⟩
set_option maxHeartbeats 4000000 in
set_option maxRecDepth 100000 in
theorem kc_X10_goOn {p0 : Int} (hp0 : 0 ≤ p0 ∧ p0 ≤ 1000) (h_x_wit_time : 0 ≤ x_wit_time ∧ x_wit_time ≤ 100000) : MetG l D k yX10_goOn cX10_goOn 2 (some .int) 0 [.ref (a 52), .int (mI p0)] (cW k a q x_xo_lyingCount x_tape_length x_tape_next x_tape_kind x_tape_place x_tape_number x_tape_faultKind x_tape_faultPlace x_told_turns x_told_mirror x_told_night x_told_draw x_told_herds x_told_irons x_told_beasts x_told_linesTold x_tfo_steps x_tfo_units x_draft_turns x_draft_mirror x_draft_night x_draft_draw x_draft_herds x_draft_irons x_draft_beasts x_draft_linesTold x_dfo_steps x_dfo_units x_lat_placements x_smi_irons x_smi_aim x_his_here x_his_undoable x_his_redoable x_book_placedCount x_wit_count x_wit_time n_tape_name B_xo_lying B_tape_bytes B_told_brands B_told_ironMarks B_told_homes B_told_births B_tfo_kinds B_tfo_numbers B_tfo_stack B_tfo_facts B_draft_brands B_draft_ironMarks B_draft_homes B_draft_births B_dfo_kinds B_dfo_numbers B_dfo_stack B_dfo_facts B_lat_lowHalves B_lat_highHalves B_lat_ways B_smi_placedIrons B_smi_within B_smi_costs B_his_isKept B_book_norms B_book_above B_book_heights B_book_placedBrands B_bea_firstGains B_bea_otherGains B_wit_burnings B_wit_strokes B_wit_wasOn B_wit_toldAt B_wit_untoldAt B_wit_on B_wit_off B_wit_firstCounts B_wit_secondCounts Ps Pd G_tape_wordNames G_told_herdNames G_told_ironNames G_told_beastNames G_draft_herdNames G_draft_ironNames G_draft_beastNames Ph Po Pg ex) (qGi (fun r0 H => ∃ (y_wit_time : Int), (-1 ≤ r0 ∧ r0 ≤ 100000) ∧ (0 ≤ y_wit_time ∧ y_wit_time ≤ 100000) ∧ (0 ≤ y_wit_time - x_wit_time) ∧ ((x_wit_time + p0 ≤ 100000 ∧ r0 = x_wit_time + p0 ∧ y_wit_time = x_wit_time + p0) ∨ (100001 ≤ x_wit_time + p0 ∧ r0 = -1 ∧ y_wit_time = x_wit_time)) ∧ va_P D vwCl (cW k a q x_xo_lyingCount x_tape_length x_tape_next x_tape_kind x_tape_place x_tape_number x_tape_faultKind x_tape_faultPlace x_told_turns x_told_mirror x_told_night x_told_draw x_told_herds x_told_irons x_told_beasts x_told_linesTold x_tfo_steps x_tfo_units x_draft_turns x_draft_mirror x_draft_night x_draft_draw x_draft_herds x_draft_irons x_draft_beasts x_draft_linesTold x_dfo_steps x_dfo_units x_lat_placements x_smi_irons x_smi_aim x_his_here x_his_undoable x_his_redoable x_book_placedCount x_wit_count y_wit_time n_tape_name B_xo_lying B_tape_bytes B_told_brands B_told_ironMarks B_told_homes B_told_births B_tfo_kinds B_tfo_numbers B_tfo_stack B_tfo_facts B_draft_brands B_draft_ironMarks B_draft_homes B_draft_births B_dfo_kinds B_dfo_numbers B_dfo_stack B_dfo_facts B_lat_lowHalves B_lat_highHalves B_lat_ways B_smi_placedIrons B_smi_within B_smi_costs B_his_isKept B_book_norms B_book_above B_book_heights B_book_placedBrands B_bea_firstGains B_bea_otherGains B_wit_burnings B_wit_strokes B_wit_wasOn B_wit_toldAt B_wit_untoldAt B_wit_on B_wit_off B_wit_firstCounts B_wit_secondCounts Ps Pd G_tape_wordNames G_told_herdNames G_told_ironNames G_told_beastNames G_draft_herdNames G_draft_ironNames G_draft_beastNames Ph Po Pg ex) H)) := by
  refine metG_of 1 ck_X10_goOn (Nat.le_of_ble_eq_true rfl) cMap (fun p e s m args below meth c A hx hb hml hr hlocks hown hts hK hD hA hP hS ls hl => ?_)
  have hown : s.vm.findClass "HideReader$Witness" = some m.cls := hown
  have hl : lv_has ls 2 [(0, .ref (a 52)), (1, .int (mI p0))] := hl
  refine lv_aload_n hx hb dX10_goOn_0 rfl (lv_at hl 0 rfl) ?_
  refine cg_wit_time hx hb hts hown hK hP uw_2_197 dX10_goOn_1 ?_
  refine lv_iload_n hx hb dX10_goOn_4 rfl (lv_at hl 1 rfl) ?_
  refine sy_iadd hx hb dX10_goOn_5 (x_wit_time + p0) rfl ?_
  refine lv_ldc (own := "HideReader$Witness") (v := mI 100000) hx hb hown (hts _ uw_6_105) dX10_goOn_6 ?_
  refine sy_icmp_le (tgt := 13) hx hb dX10_goOn_8 (by decide) (by omega) (by decide) (fun c_1 => ?_) (fun c_1 => ?_)
  · skip
    refine lv_aload_n hx hb dX10_goOn_13 rfl (lv_at hl 0 rfl) ?_
    refine lv_dup hx hb dX10_goOn_14 rfl ?_
    refine cg_wit_time hx hb hts hown hK hP uw_2_197 dX10_goOn_15 ?_
    refine lv_iload_n hx hb dX10_goOn_18 rfl (lv_at hl 1 rfl) ?_
    refine sy_iadd hx hb dX10_goOn_19 (x_wit_time + p0) rfl ?_
    refine cp_wit_time hx hb hts hown hK hP hD hS uw_2_197 dX10_goOn_20 (fun H locs hP hS => ?_)
    refine lv_aload_n hx hb dX10_goOn_23 rfl (lv_at hl 0 rfl) ?_
    refine cg_wit_time hx hb hts hown hK hP uw_2_197 dX10_goOn_24 ?_
    exact r_i hx hb hr hlocks dX10_goOn_27 hS ⟨(x_wit_time + p0), by omega, by omega, by omega, by omega, hP⟩
  · skip
    refine lv_iconst (v := mI (-1)) hx hb dX10_goOn_11 rfl ?_
    exact r_i hx hb hr hlocks dX10_goOn_12 hS ⟨x_wit_time, by omega, by omega, by omega, by omega, hP⟩
set_option maxHeartbeats 4000000 in
set_option maxRecDepth 100000 in
theorem kc_J7_fill_53178_wit_on {p1 : Int} (hp1 : -2147483648 ≤ p1 ∧ p1 ≤ 2147483647) (b_B_wit_on : bd (-2147483648) 2147483647 B_wit_on) : MetG l D k yJ7_fill_53178 cJ7_fill_53178 4 none 0 [.ref (a 58), .int (mI p1)] (cW k a q x_xo_lyingCount x_tape_length x_tape_next x_tape_kind x_tape_place x_tape_number x_tape_faultKind x_tape_faultPlace x_told_turns x_told_mirror x_told_night x_told_draw x_told_herds x_told_irons x_told_beasts x_told_linesTold x_tfo_steps x_tfo_units x_draft_turns x_draft_mirror x_draft_night x_draft_draw x_draft_herds x_draft_irons x_draft_beasts x_draft_linesTold x_dfo_steps x_dfo_units x_lat_placements x_smi_irons x_smi_aim x_his_here x_his_undoable x_his_redoable x_book_placedCount x_wit_count x_wit_time n_tape_name B_xo_lying B_tape_bytes B_told_brands B_told_ironMarks B_told_homes B_told_births B_tfo_kinds B_tfo_numbers B_tfo_stack B_tfo_facts B_draft_brands B_draft_ironMarks B_draft_homes B_draft_births B_dfo_kinds B_dfo_numbers B_dfo_stack B_dfo_facts B_lat_lowHalves B_lat_highHalves B_lat_ways B_smi_placedIrons B_smi_within B_smi_costs B_his_isKept B_book_norms B_book_above B_book_heights B_book_placedBrands B_bea_firstGains B_bea_otherGains B_wit_burnings B_wit_strokes B_wit_wasOn B_wit_toldAt B_wit_untoldAt B_wit_on B_wit_off B_wit_firstCounts B_wit_secondCounts Ps Pd G_tape_wordNames G_told_herdNames G_told_ironNames G_told_beastNames G_draft_herdNames G_draft_ironNames G_draft_beastNames Ph Po Pg ex) (qGv (fun H => ∃ (F_wit_on : Nat → Int), (bd (-2147483648) 2147483647 F_wit_on) ∧ va_P D vwCl (cW k a q x_xo_lyingCount x_tape_length x_tape_next x_tape_kind x_tape_place x_tape_number x_tape_faultKind x_tape_faultPlace x_told_turns x_told_mirror x_told_night x_told_draw x_told_herds x_told_irons x_told_beasts x_told_linesTold x_tfo_steps x_tfo_units x_draft_turns x_draft_mirror x_draft_night x_draft_draw x_draft_herds x_draft_irons x_draft_beasts x_draft_linesTold x_dfo_steps x_dfo_units x_lat_placements x_smi_irons x_smi_aim x_his_here x_his_undoable x_his_redoable x_book_placedCount x_wit_count x_wit_time n_tape_name B_xo_lying B_tape_bytes B_told_brands B_told_ironMarks B_told_homes B_told_births B_tfo_kinds B_tfo_numbers B_tfo_stack B_tfo_facts B_draft_brands B_draft_ironMarks B_draft_homes B_draft_births B_dfo_kinds B_dfo_numbers B_dfo_stack B_dfo_facts B_lat_lowHalves B_lat_highHalves B_lat_ways B_smi_placedIrons B_smi_within B_smi_costs B_his_isKept B_book_norms B_book_above B_book_heights B_book_placedBrands B_bea_firstGains B_bea_otherGains B_wit_burnings B_wit_strokes B_wit_wasOn B_wit_toldAt B_wit_untoldAt F_wit_on B_wit_off B_wit_firstCounts B_wit_secondCounts Ps Pd G_tape_wordNames G_told_herdNames G_told_ironNames G_told_beastNames G_draft_herdNames G_draft_ironNames G_draft_beastNames Ph Po Pg ex) H)) := by
  refine metG_of 2 ck_J7_fill_53178 (Nat.le_of_ble_eq_true rfl) cMap (fun p e s m args below meth c A hx hb hml hr hlocks hown hts hK hD hA hP hS ls hl => ?_)
  have hown : s.vm.findClass "java/util/Arrays" = some m.cls := hown
  have hl : lv_has ls 4 [(0, .ref (a 58)), (1, .int (mI p1))] := hl
  refine lv_iconst (v := mI 0) hx hb dJ7_fill_53178_0 rfl ?_
  refine lv_istore_n (lv' := [(2, .int (mI 0)), (0, .ref (a 58)), (1, .int (mI p1))]) hx hb dJ7_fill_53178_1 rfl hl (by decide) rfl (fun ls hl => ?_)
  refine lv_aload_n hx hb dJ7_fill_53178_2 rfl (lv_at hl 1 rfl) ?_
  refine cn_wit_on hx hb hK hP dJ7_fill_53178_3 ?_
  refine lv_istore_n (lv' := [(3, .int (mI 2)), (2, .int (mI 0)), (0, .ref (a 58)), (1, .int (mI p1))]) hx hb dJ7_fill_53178_4 rfl hl (by decide) rfl (fun ls hl => ?_)
  refine sy_loop (I := fun n H locs g => ∃ (z_27 : Int) (F_28 : Nat → Int) (ls : Array Slot), (0 ≤ z_27 ∧ z_27 ≤ 2) ∧ (bd (-2147483648) 2147483647 F_28) ∧ (2 - z_27).toNat = n ∧ va_P D vwCl (cW k a q x_xo_lyingCount x_tape_length x_tape_next x_tape_kind x_tape_place x_tape_number x_tape_faultKind x_tape_faultPlace x_told_turns x_told_mirror x_told_night x_told_draw x_told_herds x_told_irons x_told_beasts x_told_linesTold x_tfo_steps x_tfo_units x_draft_turns x_draft_mirror x_draft_night x_draft_draw x_draft_herds x_draft_irons x_draft_beasts x_draft_linesTold x_dfo_steps x_dfo_units x_lat_placements x_smi_irons x_smi_aim x_his_here x_his_undoable x_his_redoable x_book_placedCount x_wit_count x_wit_time n_tape_name B_xo_lying B_tape_bytes B_told_brands B_told_ironMarks B_told_homes B_told_births B_tfo_kinds B_tfo_numbers B_tfo_stack B_tfo_facts B_draft_brands B_draft_ironMarks B_draft_homes B_draft_births B_dfo_kinds B_dfo_numbers B_dfo_stack B_dfo_facts B_lat_lowHalves B_lat_highHalves B_lat_ways B_smi_placedIrons B_smi_within B_smi_costs B_his_isKept B_book_norms B_book_above B_book_heights B_book_placedBrands B_bea_firstGains B_bea_otherGains B_wit_burnings B_wit_strokes B_wit_wasOn B_wit_toldAt B_wit_untoldAt F_28 B_wit_off B_wit_firstCounts B_wit_secondCounts Ps Pd G_tape_wordNames G_told_herdNames G_told_ironNames G_told_beastNames G_draft_herdNames G_draft_ironNames G_draft_beastNames Ph Po Pg ex) H ∧ va_S A s.heap H locs ∧ lv_has ls 4 [(3, .int (mI 2)), (2, .int (mI z_27)), (0, .ref (a 58)), (1, .int (mI p1))] ∧ g = F0 m 5 ls []) ?_ _ ⟨0, B_wit_on, _, by omega, b_B_wit_on, rfl, hP, hS, lv_sub hl [0, 1, 2, 3] rfl, rfl⟩
  intro n_31 H locs g hI ih_32
  obtain ⟨z_27, F_28, ls, h5_0, bF_28, mn_31, hP, hS, hl, rfl⟩ := hI
  refine lv_iload_n hx hb dJ7_fill_53178_5 rfl (lv_at hl 1 rfl) ?_
  refine lv_iload_n hx hb dJ7_fill_53178_6 rfl (lv_at hl 0 rfl) ?_
  refine sy_icmp_ge (tgt := 20) hx hb dJ7_fill_53178_7 (by decide) (by omega) (by decide) (fun c_33 => ?_) (fun c_33 => ?_)
  · skip
    exact r_v hx hb hr hlocks dJ7_fill_53178_20 hS ⟨F_28, bF_28, hP⟩
  · skip
    refine lv_aload_n hx hb dJ7_fill_53178_10 rfl (lv_at hl 2 rfl) ?_
    refine lv_iload_n hx hb dJ7_fill_53178_11 rfl (lv_at hl 1 rfl) ?_
    refine lv_iload_n hx hb dJ7_fill_53178_12 rfl (lv_at hl 3 rfl) ?_
    refine cs_wit_on hx hb hK hP hD hS dJ7_fill_53178_13 (by omega) bF_28 (by omega) (fun F_34 H locs _ bF_34 hP hS => ?_)
    refine lv_iinc (v := mI (z_27 + 1)) (lv' := [(2, .int (mI (z_27 + 1))), (3, .int (mI 2)), (0, .ref (a 58)), (1, .int (mI p1))]) hx hb dJ7_fill_53178_14 hl (k := 1) rfl (mI_ad rfl) (by decide) rfl (fun ls hl => ?_)
    refine lv_goto (tgt := 5) hx hb dJ7_fill_53178_17 (by decide) ?_
    exact ih_32 _ _ _ _ (by omega) ⟨(z_27 + 1), F_34, _, by omega, bF_34, rfl, hP, hS, lv_sub hl [1, 0, 2, 3] rfl, rfl⟩
set_option maxHeartbeats 4000000 in
set_option maxRecDepth 100000 in
theorem kc_J7_fill_53178_wit_off {p1 : Int} (hp1 : -2147483648 ≤ p1 ∧ p1 ≤ 2147483647) (b_B_wit_off : bd (-2147483648) 2147483647 B_wit_off) : MetG l D k yJ7_fill_53178 cJ7_fill_53178 4 none 0 [.ref (a 59), .int (mI p1)] (cW k a q x_xo_lyingCount x_tape_length x_tape_next x_tape_kind x_tape_place x_tape_number x_tape_faultKind x_tape_faultPlace x_told_turns x_told_mirror x_told_night x_told_draw x_told_herds x_told_irons x_told_beasts x_told_linesTold x_tfo_steps x_tfo_units x_draft_turns x_draft_mirror x_draft_night x_draft_draw x_draft_herds x_draft_irons x_draft_beasts x_draft_linesTold x_dfo_steps x_dfo_units x_lat_placements x_smi_irons x_smi_aim x_his_here x_his_undoable x_his_redoable x_book_placedCount x_wit_count x_wit_time n_tape_name B_xo_lying B_tape_bytes B_told_brands B_told_ironMarks B_told_homes B_told_births B_tfo_kinds B_tfo_numbers B_tfo_stack B_tfo_facts B_draft_brands B_draft_ironMarks B_draft_homes B_draft_births B_dfo_kinds B_dfo_numbers B_dfo_stack B_dfo_facts B_lat_lowHalves B_lat_highHalves B_lat_ways B_smi_placedIrons B_smi_within B_smi_costs B_his_isKept B_book_norms B_book_above B_book_heights B_book_placedBrands B_bea_firstGains B_bea_otherGains B_wit_burnings B_wit_strokes B_wit_wasOn B_wit_toldAt B_wit_untoldAt B_wit_on B_wit_off B_wit_firstCounts B_wit_secondCounts Ps Pd G_tape_wordNames G_told_herdNames G_told_ironNames G_told_beastNames G_draft_herdNames G_draft_ironNames G_draft_beastNames Ph Po Pg ex) (qGv (fun H => ∃ (F_wit_off : Nat → Int), (bd (-2147483648) 2147483647 F_wit_off) ∧ va_P D vwCl (cW k a q x_xo_lyingCount x_tape_length x_tape_next x_tape_kind x_tape_place x_tape_number x_tape_faultKind x_tape_faultPlace x_told_turns x_told_mirror x_told_night x_told_draw x_told_herds x_told_irons x_told_beasts x_told_linesTold x_tfo_steps x_tfo_units x_draft_turns x_draft_mirror x_draft_night x_draft_draw x_draft_herds x_draft_irons x_draft_beasts x_draft_linesTold x_dfo_steps x_dfo_units x_lat_placements x_smi_irons x_smi_aim x_his_here x_his_undoable x_his_redoable x_book_placedCount x_wit_count x_wit_time n_tape_name B_xo_lying B_tape_bytes B_told_brands B_told_ironMarks B_told_homes B_told_births B_tfo_kinds B_tfo_numbers B_tfo_stack B_tfo_facts B_draft_brands B_draft_ironMarks B_draft_homes B_draft_births B_dfo_kinds B_dfo_numbers B_dfo_stack B_dfo_facts B_lat_lowHalves B_lat_highHalves B_lat_ways B_smi_placedIrons B_smi_within B_smi_costs B_his_isKept B_book_norms B_book_above B_book_heights B_book_placedBrands B_bea_firstGains B_bea_otherGains B_wit_burnings B_wit_strokes B_wit_wasOn B_wit_toldAt B_wit_untoldAt B_wit_on F_wit_off B_wit_firstCounts B_wit_secondCounts Ps Pd G_tape_wordNames G_told_herdNames G_told_ironNames G_told_beastNames G_draft_herdNames G_draft_ironNames G_draft_beastNames Ph Po Pg ex) H)) := by
  refine metG_of 2 ck_J7_fill_53178 (Nat.le_of_ble_eq_true rfl) cMap (fun p e s m args below meth c A hx hb hml hr hlocks hown hts hK hD hA hP hS ls hl => ?_)
  have hown : s.vm.findClass "java/util/Arrays" = some m.cls := hown
  have hl : lv_has ls 4 [(0, .ref (a 59)), (1, .int (mI p1))] := hl
  refine lv_iconst (v := mI 0) hx hb dJ7_fill_53178_0 rfl ?_
  refine lv_istore_n (lv' := [(2, .int (mI 0)), (0, .ref (a 59)), (1, .int (mI p1))]) hx hb dJ7_fill_53178_1 rfl hl (by decide) rfl (fun ls hl => ?_)
  refine lv_aload_n hx hb dJ7_fill_53178_2 rfl (lv_at hl 1 rfl) ?_
  refine cn_wit_off hx hb hK hP dJ7_fill_53178_3 ?_
  refine lv_istore_n (lv' := [(3, .int (mI 2)), (2, .int (mI 0)), (0, .ref (a 59)), (1, .int (mI p1))]) hx hb dJ7_fill_53178_4 rfl hl (by decide) rfl (fun ls hl => ?_)
  refine sy_loop (I := fun n H locs g => ∃ (z_27 : Int) (F_28 : Nat → Int) (ls : Array Slot), (0 ≤ z_27 ∧ z_27 ≤ 2) ∧ (bd (-2147483648) 2147483647 F_28) ∧ (2 - z_27).toNat = n ∧ va_P D vwCl (cW k a q x_xo_lyingCount x_tape_length x_tape_next x_tape_kind x_tape_place x_tape_number x_tape_faultKind x_tape_faultPlace x_told_turns x_told_mirror x_told_night x_told_draw x_told_herds x_told_irons x_told_beasts x_told_linesTold x_tfo_steps x_tfo_units x_draft_turns x_draft_mirror x_draft_night x_draft_draw x_draft_herds x_draft_irons x_draft_beasts x_draft_linesTold x_dfo_steps x_dfo_units x_lat_placements x_smi_irons x_smi_aim x_his_here x_his_undoable x_his_redoable x_book_placedCount x_wit_count x_wit_time n_tape_name B_xo_lying B_tape_bytes B_told_brands B_told_ironMarks B_told_homes B_told_births B_tfo_kinds B_tfo_numbers B_tfo_stack B_tfo_facts B_draft_brands B_draft_ironMarks B_draft_homes B_draft_births B_dfo_kinds B_dfo_numbers B_dfo_stack B_dfo_facts B_lat_lowHalves B_lat_highHalves B_lat_ways B_smi_placedIrons B_smi_within B_smi_costs B_his_isKept B_book_norms B_book_above B_book_heights B_book_placedBrands B_bea_firstGains B_bea_otherGains B_wit_burnings B_wit_strokes B_wit_wasOn B_wit_toldAt B_wit_untoldAt B_wit_on F_28 B_wit_firstCounts B_wit_secondCounts Ps Pd G_tape_wordNames G_told_herdNames G_told_ironNames G_told_beastNames G_draft_herdNames G_draft_ironNames G_draft_beastNames Ph Po Pg ex) H ∧ va_S A s.heap H locs ∧ lv_has ls 4 [(3, .int (mI 2)), (2, .int (mI z_27)), (0, .ref (a 59)), (1, .int (mI p1))] ∧ g = F0 m 5 ls []) ?_ _ ⟨0, B_wit_off, _, by omega, b_B_wit_off, rfl, hP, hS, lv_sub hl [0, 1, 2, 3] rfl, rfl⟩
  intro n_31 H locs g hI ih_32
  obtain ⟨z_27, F_28, ls, h5_0, bF_28, mn_31, hP, hS, hl, rfl⟩ := hI
  refine lv_iload_n hx hb dJ7_fill_53178_5 rfl (lv_at hl 1 rfl) ?_
  refine lv_iload_n hx hb dJ7_fill_53178_6 rfl (lv_at hl 0 rfl) ?_
  refine sy_icmp_ge (tgt := 20) hx hb dJ7_fill_53178_7 (by decide) (by omega) (by decide) (fun c_33 => ?_) (fun c_33 => ?_)
  · skip
    exact r_v hx hb hr hlocks dJ7_fill_53178_20 hS ⟨F_28, bF_28, hP⟩
  · skip
    refine lv_aload_n hx hb dJ7_fill_53178_10 rfl (lv_at hl 2 rfl) ?_
    refine lv_iload_n hx hb dJ7_fill_53178_11 rfl (lv_at hl 1 rfl) ?_
    refine lv_iload_n hx hb dJ7_fill_53178_12 rfl (lv_at hl 3 rfl) ?_
    refine cs_wit_off hx hb hK hP hD hS dJ7_fill_53178_13 (by omega) bF_28 (by omega) (fun F_34 H locs _ bF_34 hP hS => ?_)
    refine lv_iinc (v := mI (z_27 + 1)) (lv' := [(2, .int (mI (z_27 + 1))), (3, .int (mI 2)), (0, .ref (a 59)), (1, .int (mI p1))]) hx hb dJ7_fill_53178_14 hl (k := 1) rfl (mI_ad rfl) (by decide) rfl (fun ls hl => ?_)
    refine lv_goto (tgt := 5) hx hb dJ7_fill_53178_17 (by decide) ?_
    exact ih_32 _ _ _ _ (by omega) ⟨(z_27 + 1), F_34, _, by omega, bF_34, rfl, hP, hS, lv_sub hl [1, 0, 2, 3] rfl, rfl⟩
set_option maxHeartbeats 4000000 in
set_option maxRecDepth 100000 in
theorem kc_X10_gather {p0 : Int} (hp0 : -2147483648 ≤ p0 ∧ p0 ≤ 2147483647) (h_x_wit_count : 0 ≤ x_wit_count ∧ x_wit_count ≤ 30) (b_B_wit_burnings : bd (0) 2 B_wit_burnings) (b_B_wit_strokes : bd (0) 11 B_wit_strokes) (b_B_wit_wasOn : bd (0) 1 B_wit_wasOn) (b_B_wit_toldAt : bd (-2147483648) 2147483647 B_wit_toldAt) (b_B_wit_untoldAt : bd (-2147483648) 2147483647 B_wit_untoldAt) (b_B_wit_on : bd (-2147483648) 2147483647 B_wit_on) (b_B_wit_off : bd (-2147483648) 2147483647 B_wit_off) (g_U : bU x_wit_count B_wit_burnings) : MetG l D k yX10_gather cX10_gather 5 none 1 [.ref (a 52), .int (mI p0)] (cW k a q x_xo_lyingCount x_tape_length x_tape_next x_tape_kind x_tape_place x_tape_number x_tape_faultKind x_tape_faultPlace x_told_turns x_told_mirror x_told_night x_told_draw x_told_herds x_told_irons x_told_beasts x_told_linesTold x_tfo_steps x_tfo_units x_draft_turns x_draft_mirror x_draft_night x_draft_draw x_draft_herds x_draft_irons x_draft_beasts x_draft_linesTold x_dfo_steps x_dfo_units x_lat_placements x_smi_irons x_smi_aim x_his_here x_his_undoable x_his_redoable x_book_placedCount x_wit_count x_wit_time n_tape_name B_xo_lying B_tape_bytes B_told_brands B_told_ironMarks B_told_homes B_told_births B_tfo_kinds B_tfo_numbers B_tfo_stack B_tfo_facts B_draft_brands B_draft_ironMarks B_draft_homes B_draft_births B_dfo_kinds B_dfo_numbers B_dfo_stack B_dfo_facts B_lat_lowHalves B_lat_highHalves B_lat_ways B_smi_placedIrons B_smi_within B_smi_costs B_his_isKept B_book_norms B_book_above B_book_heights B_book_placedBrands B_bea_firstGains B_bea_otherGains B_wit_burnings B_wit_strokes B_wit_wasOn B_wit_toldAt B_wit_untoldAt B_wit_on B_wit_off B_wit_firstCounts B_wit_secondCounts Ps Pd G_tape_wordNames G_told_herdNames G_told_ironNames G_told_beastNames G_draft_herdNames G_draft_ironNames G_draft_beastNames Ph Po Pg ex) (qGv (fun H => ∃ (F_wit_on : Nat → Int) (F_wit_off : Nat → Int), (bd (-2147483648) 2147483647 F_wit_on) ∧ (bd (-2147483648) 2147483647 F_wit_off) ∧ va_P D vwCl (cW k a q x_xo_lyingCount x_tape_length x_tape_next x_tape_kind x_tape_place x_tape_number x_tape_faultKind x_tape_faultPlace x_told_turns x_told_mirror x_told_night x_told_draw x_told_herds x_told_irons x_told_beasts x_told_linesTold x_tfo_steps x_tfo_units x_draft_turns x_draft_mirror x_draft_night x_draft_draw x_draft_herds x_draft_irons x_draft_beasts x_draft_linesTold x_dfo_steps x_dfo_units x_lat_placements x_smi_irons x_smi_aim x_his_here x_his_undoable x_his_redoable x_book_placedCount x_wit_count x_wit_time n_tape_name B_xo_lying B_tape_bytes B_told_brands B_told_ironMarks B_told_homes B_told_births B_tfo_kinds B_tfo_numbers B_tfo_stack B_tfo_facts B_draft_brands B_draft_ironMarks B_draft_homes B_draft_births B_dfo_kinds B_dfo_numbers B_dfo_stack B_dfo_facts B_lat_lowHalves B_lat_highHalves B_lat_ways B_smi_placedIrons B_smi_within B_smi_costs B_his_isKept B_book_norms B_book_above B_book_heights B_book_placedBrands B_bea_firstGains B_bea_otherGains B_wit_burnings B_wit_strokes B_wit_wasOn B_wit_toldAt B_wit_untoldAt F_wit_on F_wit_off B_wit_firstCounts B_wit_secondCounts Ps Pd G_tape_wordNames G_told_herdNames G_told_ironNames G_told_beastNames G_draft_herdNames G_draft_ironNames G_draft_beastNames Ph Po Pg ex) H)) := by
  refine metG_of 1 ck_X10_gather (Nat.le_of_ble_eq_true rfl) cMap (fun p e s m args below meth c A hx hb hml hr hlocks hown hts hK hD hA hP hS ls hl => ?_)
  have hown : s.vm.findClass "HideReader$Witness" = some m.cls := hown
  have hl : lv_has ls 5 [(0, .ref (a 52)), (1, .int (mI p0))] := hl
  refine lv_aload_n hx hb dX10_gather_0 rfl (lv_at hl 0 rfl) ?_
  refine cg_wit_on hx hb hts hown hK hP uw_2_198 dX10_gather_1 ?_
  refine lv_iconst (v := mI 0) hx hb dX10_gather_4 rfl ?_
  refine g_v (cDt hD) hS hA (g_S (own := "HideReader$Witness") (As := [.ref (a 58), .int (mI 0)]) (rest := []) hx hb hml hown hts hK hP (cDt hD) (kc_J7_fill_53178_wit_on (l := l) (D := D) (k := k) (by decide) b_B_wit_on) ck_J7_fill_53178 uw_5_52 uw_6_118 rfl hl.1 rfl (Nat.le_of_ble_eq_true rfl) dX10_gather_5 ⟨Nat.le_of_ble_eq_true rfl, Nat.le_of_ble_eq_true rfl⟩ ⟨Nat.le_of_ble_eq_true rfl, Nat.le_of_ble_eq_true rfl⟩) (fun H locs hQ hS => ?_)
  obtain ⟨F_2, bF_2, hP⟩ := hQ
  refine lv_aload_n hx hb dX10_gather_8 rfl (lv_at hl 0 rfl) ?_
  refine cg_wit_off hx hb hts hown hK hP uw_2_199 dX10_gather_9 ?_
  refine lv_iconst (v := mI 0) hx hb dX10_gather_12 rfl ?_
  refine g_v (cDt hD) hS hA (g_S (own := "HideReader$Witness") (As := [.ref (a 59), .int (mI 0)]) (rest := []) hx hb hml hown hts hK hP (cDt hD) (kc_J7_fill_53178_wit_off (l := l) (D := D) (k := k) (by decide) b_B_wit_off) ck_J7_fill_53178 uw_5_52 uw_6_118 rfl hl.1 rfl (Nat.le_of_ble_eq_true rfl) dX10_gather_13 ⟨Nat.le_of_ble_eq_true rfl, Nat.le_of_ble_eq_true rfl⟩ ⟨Nat.le_of_ble_eq_true rfl, Nat.le_of_ble_eq_true rfl⟩) (fun H locs hQ hS => ?_)
  obtain ⟨F_4, bF_4, hP⟩ := hQ
  refine lv_iconst (v := mI 0) hx hb dX10_gather_16 rfl ?_
  refine lv_istore_n (lv' := [(2, .int (mI 0)), (0, .ref (a 52)), (1, .int (mI p0))]) hx hb dX10_gather_17 rfl hl (by decide) rfl (fun ls hl => ?_)
  refine sy_loop (I := fun n H locs g => ∃ (z_219 : Int) (F_220 : Nat → Int) (F_221 : Nat → Int) (ls : Array Slot), (0 ≤ z_219 ∧ z_219 ≤ 30) ∧ (bd (-2147483648) 2147483647 F_220) ∧ (bd (-2147483648) 2147483647 F_221) ∧ (30 - z_219).toNat = n ∧ va_P D vwCl (cW k a q x_xo_lyingCount x_tape_length x_tape_next x_tape_kind x_tape_place x_tape_number x_tape_faultKind x_tape_faultPlace x_told_turns x_told_mirror x_told_night x_told_draw x_told_herds x_told_irons x_told_beasts x_told_linesTold x_tfo_steps x_tfo_units x_draft_turns x_draft_mirror x_draft_night x_draft_draw x_draft_herds x_draft_irons x_draft_beasts x_draft_linesTold x_dfo_steps x_dfo_units x_lat_placements x_smi_irons x_smi_aim x_his_here x_his_undoable x_his_redoable x_book_placedCount x_wit_count x_wit_time n_tape_name B_xo_lying B_tape_bytes B_told_brands B_told_ironMarks B_told_homes B_told_births B_tfo_kinds B_tfo_numbers B_tfo_stack B_tfo_facts B_draft_brands B_draft_ironMarks B_draft_homes B_draft_births B_dfo_kinds B_dfo_numbers B_dfo_stack B_dfo_facts B_lat_lowHalves B_lat_highHalves B_lat_ways B_smi_placedIrons B_smi_within B_smi_costs B_his_isKept B_book_norms B_book_above B_book_heights B_book_placedBrands B_bea_firstGains B_bea_otherGains B_wit_burnings B_wit_strokes B_wit_wasOn B_wit_toldAt B_wit_untoldAt F_220 F_221 B_wit_firstCounts B_wit_secondCounts Ps Pd G_tape_wordNames G_told_herdNames G_told_ironNames G_told_beastNames G_draft_herdNames G_draft_ironNames G_draft_beastNames Ph Po Pg ex) H ∧ va_S A s.heap H locs ∧ lv_has ls 5 [(2, .int (mI z_219)), (0, .ref (a 52)), (1, .int (mI p0))] ∧ g = F0 m 18 ls []) ?_ _ ⟨0, F_2, F_4, _, by omega, bF_2, bF_4, rfl, hP, hS, lv_sub hl [0, 1, 2] rfl, rfl⟩
  intro n_250 H locs g hI ih_251
  obtain ⟨z_219, F_220, F_221, ls, h18_0, bF_220, bF_221, mn_250, hP, hS, hl, rfl⟩ := hI
  refine lv_iload_n hx hb dX10_gather_18 rfl (lv_at hl 0 rfl) ?_
  refine lv_aload_n hx hb dX10_gather_19 rfl (lv_at hl 1 rfl) ?_
  refine cg_wit_count hx hb hts hown hK hP uw_2_196 dX10_gather_20 ?_
  refine sy_icmp_ge (tgt := 116) hx hb dX10_gather_23 (by decide) (by omega) (by omega) (fun c_252 => ?_) (fun c_252 => ?_)
  · skip
    exact r_v hx hb hr hlocks dX10_gather_116 hS ⟨F_220, F_221, bF_220, bF_221, hP⟩
  · skip
    refine lv_aload_n hx hb dX10_gather_26 rfl (lv_at hl 1 rfl) ?_
    refine cg_wit_untoldAt hx hb hts hown hK hP uw_2_195 dX10_gather_27 ?_
    refine lv_iload_n hx hb dX10_gather_30 rfl (lv_at hl 0 rfl) ?_
    refine cl_wit_untoldAt hx hb hK hP dX10_gather_31 (by omega) b_B_wit_untoldAt (fun z_253 _ hz_253 => ?_)
    refine lv_iconst (v := mI (-1)) hx hb dX10_gather_32 rfl ?_
    refine sy_join (I := fun H locs g => ∃ (z_257 : Int) (ls : Array Slot), (0 ≤ z_257 ∧ z_257 ≤ 1) ∧ va_P D vwCl (cW k a q x_xo_lyingCount x_tape_length x_tape_next x_tape_kind x_tape_place x_tape_number x_tape_faultKind x_tape_faultPlace x_told_turns x_told_mirror x_told_night x_told_draw x_told_herds x_told_irons x_told_beasts x_told_linesTold x_tfo_steps x_tfo_units x_draft_turns x_draft_mirror x_draft_night x_draft_draw x_draft_herds x_draft_irons x_draft_beasts x_draft_linesTold x_dfo_steps x_dfo_units x_lat_placements x_smi_irons x_smi_aim x_his_here x_his_undoable x_his_redoable x_book_placedCount x_wit_count x_wit_time n_tape_name B_xo_lying B_tape_bytes B_told_brands B_told_ironMarks B_told_homes B_told_births B_tfo_kinds B_tfo_numbers B_tfo_stack B_tfo_facts B_draft_brands B_draft_ironMarks B_draft_homes B_draft_births B_dfo_kinds B_dfo_numbers B_dfo_stack B_dfo_facts B_lat_lowHalves B_lat_highHalves B_lat_ways B_smi_placedIrons B_smi_within B_smi_costs B_his_isKept B_book_norms B_book_above B_book_heights B_book_placedBrands B_bea_firstGains B_bea_otherGains B_wit_burnings B_wit_strokes B_wit_wasOn B_wit_toldAt B_wit_untoldAt F_220 F_221 B_wit_firstCounts B_wit_secondCounts Ps Pd G_tape_wordNames G_told_herdNames G_told_ironNames G_told_beastNames G_draft_herdNames G_draft_ironNames G_draft_beastNames Ph Po Pg ex) H ∧ va_S A s.heap H locs ∧ lv_has ls 5 [(2, .int (mI z_219)), (0, .ref (a 52)), (1, .int (mI p0))] ∧ g = F0 m 51 ls [.int (mI z_257)]) ?_ ?_
    · skip
      intro H locs g hI
      obtain ⟨z_257, ls, h51_0, hP, hS, hl, rfl⟩ := hI
      refine lv_istore_n (lv' := [(3, .int (mI z_257)), (2, .int (mI z_219)), (0, .ref (a 52)), (1, .int (mI p0))]) hx hb dX10_gather_51 rfl hl (by decide) rfl (fun ls hl => ?_)
      refine lv_aload_n hx hb dX10_gather_52 rfl (lv_at hl 2 rfl) ?_
      refine cg_wit_toldAt hx hb hts hown hK hP uw_2_194 dX10_gather_53 ?_
      refine lv_iload_n hx hb dX10_gather_56 rfl (lv_at hl 1 rfl) ?_
      refine cl_wit_toldAt hx hb hK hP dX10_gather_57 (by omega) b_B_wit_toldAt (fun z_259 _ hz_259 => ?_)
      refine lv_iload_n hx hb dX10_gather_58 rfl (lv_at hl 3 rfl) ?_
      refine sy_icmp_gt (tgt := 110) hx hb dX10_gather_59 (by decide) (by omega) (by omega) (fun c_260 => ?_) (fun c_260 => ?_)
      · skip
        refine lv_iinc (v := mI (z_219 + 1)) (lv' := [(2, .int (mI (z_219 + 1))), (3, .int (mI z_257)), (0, .ref (a 52)), (1, .int (mI p0))]) hx hb dX10_gather_110 hl (k := 1) rfl (mI_ad rfl) (by decide) rfl (fun ls hl => ?_)
        refine lv_goto (tgt := 18) hx hb dX10_gather_113 (by decide) ?_
        exact ih_251 _ _ _ _ (by omega) ⟨(z_219 + 1), F_220, F_221, _, by omega, bF_220, bF_221, rfl, hP, hS, lv_sub hl [0, 2, 3] rfl, rfl⟩
      · skip
        refine lv_iload_n hx hb dX10_gather_62 rfl (lv_at hl 0 rfl) ?_
        refine sy_if_ne (tgt := 110) hx hb dX10_gather_63 (by decide) (by omega) (fun c_261 => ?_) (fun c_261 => ?_)
        · skip
          refine lv_iinc (v := mI (z_219 + 1)) (lv' := [(2, .int (mI (z_219 + 1))), (3, .int (mI z_257)), (0, .ref (a 52)), (1, .int (mI p0))]) hx hb dX10_gather_110 hl (k := 1) rfl (mI_ad rfl) (by decide) rfl (fun ls hl => ?_)
          refine lv_goto (tgt := 18) hx hb dX10_gather_113 (by decide) ?_
          exact ih_251 _ _ _ _ (by omega) ⟨(z_219 + 1), F_220, F_221, _, by omega, bF_220, bF_221, rfl, hP, hS, lv_sub hl [0, 2, 3] rfl, rfl⟩
        · skip
          refine lv_aload_n hx hb dX10_gather_66 rfl (lv_at hl 2 rfl) ?_
          refine cg_wit_wasOn hx hb hts hown hK hP uw_2_193 dX10_gather_67 ?_
          refine lv_iload_n hx hb dX10_gather_70 rfl (lv_at hl 1 rfl) ?_
          refine cl_wit_wasOn hx hb hK hP dX10_gather_71 (by omega) b_B_wit_wasOn (fun z_262 _ hz_262 => ?_)
          refine sy_if_eq (tgt := 82) hx hb dX10_gather_72 (by decide) (by omega) (fun c_264 => ?_) (fun c_264 => ?_)
          · skip
            refine lv_aload_n hx hb dX10_gather_82 rfl (lv_at hl 2 rfl) ?_
            refine cg_wit_off hx hb hts hown hK hP uw_2_199 dX10_gather_83 ?_
            refine lv_astore (lv' := [(4, .ref (a 59)), (3, .int (mI z_257)), (2, .int (mI z_219)), (0, .ref (a 52)), (1, .int (mI p0))]) hx hb dX10_gather_86 hl (by decide) rfl (fun ls hl => ?_)
            refine lv_aload hx hb dX10_gather_88 (lv_at hl 0 rfl) ?_
            refine lv_aload_n hx hb dX10_gather_90 rfl (lv_at hl 3 rfl) ?_
            refine cg_wit_burnings hx hb hts hown hK hP uw_2_191 dX10_gather_91 ?_
            refine lv_iload_n hx hb dX10_gather_94 rfl (lv_at hl 2 rfl) ?_
            refine cl_wit_burnings hx hb hK hP dX10_gather_95 (by omega) b_B_wit_burnings (fun z_265 ez_265 hz_265 => ?_)
            have tz_265 := bU_l g_U (by omega) ez_265
            refine lv_iconst (v := mI 1) hx hb dX10_gather_96 rfl ?_
            refine sy_isub hx hb dX10_gather_97 (z_265 - 1) rfl ?_
            refine lv_dup2_11 hx hb dX10_gather_98 rfl rfl ?_
            refine cl_wit_off hx hb hK hP dX10_gather_99 (by omega) bF_221 (fun z_266 _ hz_266 => ?_)
            refine lv_iconst (v := mI 1) hx hb dX10_gather_100 rfl ?_
            refine lv_aload_n hx hb dX10_gather_101 rfl (lv_at hl 3 rfl) ?_
            refine cg_wit_strokes hx hb hts hown hK hP uw_2_192 dX10_gather_102 ?_
            refine lv_iload_n hx hb dX10_gather_105 rfl (lv_at hl 2 rfl) ?_
            refine cl_wit_strokes hx hb hK hP dX10_gather_106 (by omega) b_B_wit_strokes (fun z_267 _ hz_267 => ?_)
            refine sy_shl1 hx hb dX10_gather_107 11 (by decide) 2048 (by decide) (by omega) (fun z_268 ez_268 hz_268 => ?_)
            refine lv_ior hx hb dX10_gather_108 ?_
            refine sy_any (fun z_269 hz_269 => ?_)
            refine cs_wit_off hx hb hK hP hD hS dX10_gather_109 (by omega) bF_221 (by omega) (fun F_270 H locs _ bF_270 hP hS => ?_)
            refine lv_iinc (v := mI (z_219 + 1)) (lv' := [(2, .int (mI (z_219 + 1))), (4, .ref (a 59)), (3, .int (mI z_257)), (0, .ref (a 52)), (1, .int (mI p0))]) hx hb dX10_gather_110 hl (k := 2) rfl (mI_ad rfl) (by decide) rfl (fun ls hl => ?_)
            refine lv_goto (tgt := 18) hx hb dX10_gather_113 (by decide) ?_
            exact ih_251 _ _ _ _ (by omega) ⟨(z_219 + 1), F_220, F_270, _, by omega, bF_220, bF_270, rfl, hP, hS, lv_sub hl [0, 3, 4] rfl, rfl⟩
          · skip
            refine lv_aload_n hx hb dX10_gather_75 rfl (lv_at hl 2 rfl) ?_
            refine cg_wit_on hx hb hts hown hK hP uw_2_198 dX10_gather_76 ?_
            refine lv_goto (tgt := 86) hx hb dX10_gather_79 (by decide) ?_
            refine lv_astore (lv' := [(4, .ref (a 58)), (3, .int (mI z_257)), (2, .int (mI z_219)), (0, .ref (a 52)), (1, .int (mI p0))]) hx hb dX10_gather_86 hl (by decide) rfl (fun ls hl => ?_)
            refine lv_aload hx hb dX10_gather_88 (lv_at hl 0 rfl) ?_
            refine lv_aload_n hx hb dX10_gather_90 rfl (lv_at hl 3 rfl) ?_
            refine cg_wit_burnings hx hb hts hown hK hP uw_2_191 dX10_gather_91 ?_
            refine lv_iload_n hx hb dX10_gather_94 rfl (lv_at hl 2 rfl) ?_
            refine cl_wit_burnings hx hb hK hP dX10_gather_95 (by omega) b_B_wit_burnings (fun z_271 ez_271 hz_271 => ?_)
            have tz_271 := bU_l g_U (by omega) ez_271
            refine lv_iconst (v := mI 1) hx hb dX10_gather_96 rfl ?_
            refine sy_isub hx hb dX10_gather_97 (z_271 - 1) rfl ?_
            refine lv_dup2_11 hx hb dX10_gather_98 rfl rfl ?_
            refine cl_wit_on hx hb hK hP dX10_gather_99 (by omega) bF_220 (fun z_272 _ hz_272 => ?_)
            refine lv_iconst (v := mI 1) hx hb dX10_gather_100 rfl ?_
            refine lv_aload_n hx hb dX10_gather_101 rfl (lv_at hl 3 rfl) ?_
            refine cg_wit_strokes hx hb hts hown hK hP uw_2_192 dX10_gather_102 ?_
            refine lv_iload_n hx hb dX10_gather_105 rfl (lv_at hl 2 rfl) ?_
            refine cl_wit_strokes hx hb hK hP dX10_gather_106 (by omega) b_B_wit_strokes (fun z_273 _ hz_273 => ?_)
            refine sy_shl1 hx hb dX10_gather_107 11 (by decide) 2048 (by decide) (by omega) (fun z_274 ez_274 hz_274 => ?_)
            refine lv_ior hx hb dX10_gather_108 ?_
            refine sy_any (fun z_275 hz_275 => ?_)
            refine cs_wit_on hx hb hK hP hD hS dX10_gather_109 (by omega) bF_220 (by omega) (fun F_276 H locs _ bF_276 hP hS => ?_)
            refine lv_iinc (v := mI (z_219 + 1)) (lv' := [(2, .int (mI (z_219 + 1))), (4, .ref (a 58)), (3, .int (mI z_257)), (0, .ref (a 52)), (1, .int (mI p0))]) hx hb dX10_gather_110 hl (k := 2) rfl (mI_ad rfl) (by decide) rfl (fun ls hl => ?_)
            refine lv_goto (tgt := 18) hx hb dX10_gather_113 (by decide) ?_
            exact ih_251 _ _ _ _ (by omega) ⟨(z_219 + 1), F_276, F_221, _, by omega, bF_276, bF_221, rfl, hP, hS, lv_sub hl [0, 3, 4] rfl, rfl⟩
    · skip
      intro J_258
      refine sy_icmp_eq (tgt := 50) hx hb dX10_gather_33 (by decide) (by omega) (by decide) (fun c_277 => ?_) (fun c_277 => ?_)
      · skip
        refine lv_iconst (v := mI 0) hx hb dX10_gather_50 rfl ?_
        exact J_258 _ _ _ ⟨0, _, by omega, hP, hS, lv_sub hl [0, 1, 2] rfl, rfl⟩
      · skip
        refine lv_aload_n hx hb dX10_gather_36 rfl (lv_at hl 1 rfl) ?_
        refine cg_wit_untoldAt hx hb hts hown hK hP uw_2_195 dX10_gather_37 ?_
        refine lv_iload_n hx hb dX10_gather_40 rfl (lv_at hl 0 rfl) ?_
        refine cl_wit_untoldAt hx hb hK hP dX10_gather_41 (by omega) b_B_wit_untoldAt (fun z_278 _ hz_278 => ?_)
        refine lv_iload_n hx hb dX10_gather_42 rfl (lv_at hl 2 rfl) ?_
        refine sy_icmp_gt (tgt := 50) hx hb dX10_gather_43 (by decide) (by omega) (by omega) (fun c_279 => ?_) (fun c_279 => ?_)
        · skip
          refine lv_iconst (v := mI 0) hx hb dX10_gather_50 rfl ?_
          exact J_258 _ _ _ ⟨0, _, by omega, hP, hS, lv_sub hl [0, 1, 2] rfl, rfl⟩
        · skip
          refine lv_iconst (v := mI 1) hx hb dX10_gather_46 rfl ?_
          refine lv_goto (tgt := 51) hx hb dX10_gather_47 (by decide) ?_
          exact J_258 _ _ _ ⟨1, _, by omega, hP, hS, lv_sub hl [0, 1, 2] rfl, rfl⟩
set_option maxHeartbeats 4000000 in
set_option maxRecDepth 100000 in
theorem kc_J7_fill_53178_wit_firstCounts {p1 : Int} (hp1 : -2147483648 ≤ p1 ∧ p1 ≤ 2147483647) (b_B_wit_firstCounts : bd (-2147483648) 2147483647 B_wit_firstCounts) : MetG l D k yJ7_fill_53178 cJ7_fill_53178 4 none 0 [.ref (a 60), .int (mI p1)] (cW k a q x_xo_lyingCount x_tape_length x_tape_next x_tape_kind x_tape_place x_tape_number x_tape_faultKind x_tape_faultPlace x_told_turns x_told_mirror x_told_night x_told_draw x_told_herds x_told_irons x_told_beasts x_told_linesTold x_tfo_steps x_tfo_units x_draft_turns x_draft_mirror x_draft_night x_draft_draw x_draft_herds x_draft_irons x_draft_beasts x_draft_linesTold x_dfo_steps x_dfo_units x_lat_placements x_smi_irons x_smi_aim x_his_here x_his_undoable x_his_redoable x_book_placedCount x_wit_count x_wit_time n_tape_name B_xo_lying B_tape_bytes B_told_brands B_told_ironMarks B_told_homes B_told_births B_tfo_kinds B_tfo_numbers B_tfo_stack B_tfo_facts B_draft_brands B_draft_ironMarks B_draft_homes B_draft_births B_dfo_kinds B_dfo_numbers B_dfo_stack B_dfo_facts B_lat_lowHalves B_lat_highHalves B_lat_ways B_smi_placedIrons B_smi_within B_smi_costs B_his_isKept B_book_norms B_book_above B_book_heights B_book_placedBrands B_bea_firstGains B_bea_otherGains B_wit_burnings B_wit_strokes B_wit_wasOn B_wit_toldAt B_wit_untoldAt B_wit_on B_wit_off B_wit_firstCounts B_wit_secondCounts Ps Pd G_tape_wordNames G_told_herdNames G_told_ironNames G_told_beastNames G_draft_herdNames G_draft_ironNames G_draft_beastNames Ph Po Pg ex) (qGv (fun H => ∃ (F_wit_firstCounts : Nat → Int), (bd (-2147483648) 2147483647 F_wit_firstCounts) ∧ va_P D vwCl (cW k a q x_xo_lyingCount x_tape_length x_tape_next x_tape_kind x_tape_place x_tape_number x_tape_faultKind x_tape_faultPlace x_told_turns x_told_mirror x_told_night x_told_draw x_told_herds x_told_irons x_told_beasts x_told_linesTold x_tfo_steps x_tfo_units x_draft_turns x_draft_mirror x_draft_night x_draft_draw x_draft_herds x_draft_irons x_draft_beasts x_draft_linesTold x_dfo_steps x_dfo_units x_lat_placements x_smi_irons x_smi_aim x_his_here x_his_undoable x_his_redoable x_book_placedCount x_wit_count x_wit_time n_tape_name B_xo_lying B_tape_bytes B_told_brands B_told_ironMarks B_told_homes B_told_births B_tfo_kinds B_tfo_numbers B_tfo_stack B_tfo_facts B_draft_brands B_draft_ironMarks B_draft_homes B_draft_births B_dfo_kinds B_dfo_numbers B_dfo_stack B_dfo_facts B_lat_lowHalves B_lat_highHalves B_lat_ways B_smi_placedIrons B_smi_within B_smi_costs B_his_isKept B_book_norms B_book_above B_book_heights B_book_placedBrands B_bea_firstGains B_bea_otherGains B_wit_burnings B_wit_strokes B_wit_wasOn B_wit_toldAt B_wit_untoldAt B_wit_on B_wit_off F_wit_firstCounts B_wit_secondCounts Ps Pd G_tape_wordNames G_told_herdNames G_told_ironNames G_told_beastNames G_draft_herdNames G_draft_ironNames G_draft_beastNames Ph Po Pg ex) H)) := by
  refine metG_of 2 ck_J7_fill_53178 (Nat.le_of_ble_eq_true rfl) cMap (fun p e s m args below meth c A hx hb hml hr hlocks hown hts hK hD hA hP hS ls hl => ?_)
  have hown : s.vm.findClass "java/util/Arrays" = some m.cls := hown
  have hl : lv_has ls 4 [(0, .ref (a 60)), (1, .int (mI p1))] := hl
  refine lv_iconst (v := mI 0) hx hb dJ7_fill_53178_0 rfl ?_
  refine lv_istore_n (lv' := [(2, .int (mI 0)), (0, .ref (a 60)), (1, .int (mI p1))]) hx hb dJ7_fill_53178_1 rfl hl (by decide) rfl (fun ls hl => ?_)
  refine lv_aload_n hx hb dJ7_fill_53178_2 rfl (lv_at hl 1 rfl) ?_
  refine cn_wit_firstCounts hx hb hK hP dJ7_fill_53178_3 ?_
  refine lv_istore_n (lv' := [(3, .int (mI 6)), (2, .int (mI 0)), (0, .ref (a 60)), (1, .int (mI p1))]) hx hb dJ7_fill_53178_4 rfl hl (by decide) rfl (fun ls hl => ?_)
  refine sy_loop (I := fun n H locs g => ∃ (z_27 : Int) (F_28 : Nat → Int) (ls : Array Slot), (0 ≤ z_27 ∧ z_27 ≤ 6) ∧ (bd (-2147483648) 2147483647 F_28) ∧ (6 - z_27).toNat = n ∧ va_P D vwCl (cW k a q x_xo_lyingCount x_tape_length x_tape_next x_tape_kind x_tape_place x_tape_number x_tape_faultKind x_tape_faultPlace x_told_turns x_told_mirror x_told_night x_told_draw x_told_herds x_told_irons x_told_beasts x_told_linesTold x_tfo_steps x_tfo_units x_draft_turns x_draft_mirror x_draft_night x_draft_draw x_draft_herds x_draft_irons x_draft_beasts x_draft_linesTold x_dfo_steps x_dfo_units x_lat_placements x_smi_irons x_smi_aim x_his_here x_his_undoable x_his_redoable x_book_placedCount x_wit_count x_wit_time n_tape_name B_xo_lying B_tape_bytes B_told_brands B_told_ironMarks B_told_homes B_told_births B_tfo_kinds B_tfo_numbers B_tfo_stack B_tfo_facts B_draft_brands B_draft_ironMarks B_draft_homes B_draft_births B_dfo_kinds B_dfo_numbers B_dfo_stack B_dfo_facts B_lat_lowHalves B_lat_highHalves B_lat_ways B_smi_placedIrons B_smi_within B_smi_costs B_his_isKept B_book_norms B_book_above B_book_heights B_book_placedBrands B_bea_firstGains B_bea_otherGains B_wit_burnings B_wit_strokes B_wit_wasOn B_wit_toldAt B_wit_untoldAt B_wit_on B_wit_off F_28 B_wit_secondCounts Ps Pd G_tape_wordNames G_told_herdNames G_told_ironNames G_told_beastNames G_draft_herdNames G_draft_ironNames G_draft_beastNames Ph Po Pg ex) H ∧ va_S A s.heap H locs ∧ lv_has ls 4 [(3, .int (mI 6)), (2, .int (mI z_27)), (0, .ref (a 60)), (1, .int (mI p1))] ∧ g = F0 m 5 ls []) ?_ _ ⟨0, B_wit_firstCounts, _, by omega, b_B_wit_firstCounts, rfl, hP, hS, lv_sub hl [0, 1, 2, 3] rfl, rfl⟩
  intro n_31 H locs g hI ih_32
  obtain ⟨z_27, F_28, ls, h5_0, bF_28, mn_31, hP, hS, hl, rfl⟩ := hI
  refine lv_iload_n hx hb dJ7_fill_53178_5 rfl (lv_at hl 1 rfl) ?_
  refine lv_iload_n hx hb dJ7_fill_53178_6 rfl (lv_at hl 0 rfl) ?_
  refine sy_icmp_ge (tgt := 20) hx hb dJ7_fill_53178_7 (by decide) (by omega) (by decide) (fun c_33 => ?_) (fun c_33 => ?_)
  · skip
    exact r_v hx hb hr hlocks dJ7_fill_53178_20 hS ⟨F_28, bF_28, hP⟩
  · skip
    refine lv_aload_n hx hb dJ7_fill_53178_10 rfl (lv_at hl 2 rfl) ?_
    refine lv_iload_n hx hb dJ7_fill_53178_11 rfl (lv_at hl 1 rfl) ?_
    refine lv_iload_n hx hb dJ7_fill_53178_12 rfl (lv_at hl 3 rfl) ?_
    refine cs_wit_firstCounts hx hb hK hP hD hS dJ7_fill_53178_13 (by omega) bF_28 (by omega) (fun F_34 H locs _ bF_34 hP hS => ?_)
    refine lv_iinc (v := mI (z_27 + 1)) (lv' := [(2, .int (mI (z_27 + 1))), (3, .int (mI 6)), (0, .ref (a 60)), (1, .int (mI p1))]) hx hb dJ7_fill_53178_14 hl (k := 1) rfl (mI_ad rfl) (by decide) rfl (fun ls hl => ?_)
    refine lv_goto (tgt := 5) hx hb dJ7_fill_53178_17 (by decide) ?_
    exact ih_32 _ _ _ _ (by omega) ⟨(z_27 + 1), F_34, _, by omega, bF_34, rfl, hP, hS, lv_sub hl [1, 0, 2, 3] rfl, rfl⟩
set_option maxHeartbeats 4000000 in
set_option maxRecDepth 100000 in
theorem kc_J7_fill_53178_wit_secondCounts {p1 : Int} (hp1 : -2147483648 ≤ p1 ∧ p1 ≤ 2147483647) (b_B_wit_secondCounts : bd (-2147483648) 2147483647 B_wit_secondCounts) : MetG l D k yJ7_fill_53178 cJ7_fill_53178 4 none 0 [.ref (a 61), .int (mI p1)] (cW k a q x_xo_lyingCount x_tape_length x_tape_next x_tape_kind x_tape_place x_tape_number x_tape_faultKind x_tape_faultPlace x_told_turns x_told_mirror x_told_night x_told_draw x_told_herds x_told_irons x_told_beasts x_told_linesTold x_tfo_steps x_tfo_units x_draft_turns x_draft_mirror x_draft_night x_draft_draw x_draft_herds x_draft_irons x_draft_beasts x_draft_linesTold x_dfo_steps x_dfo_units x_lat_placements x_smi_irons x_smi_aim x_his_here x_his_undoable x_his_redoable x_book_placedCount x_wit_count x_wit_time n_tape_name B_xo_lying B_tape_bytes B_told_brands B_told_ironMarks B_told_homes B_told_births B_tfo_kinds B_tfo_numbers B_tfo_stack B_tfo_facts B_draft_brands B_draft_ironMarks B_draft_homes B_draft_births B_dfo_kinds B_dfo_numbers B_dfo_stack B_dfo_facts B_lat_lowHalves B_lat_highHalves B_lat_ways B_smi_placedIrons B_smi_within B_smi_costs B_his_isKept B_book_norms B_book_above B_book_heights B_book_placedBrands B_bea_firstGains B_bea_otherGains B_wit_burnings B_wit_strokes B_wit_wasOn B_wit_toldAt B_wit_untoldAt B_wit_on B_wit_off B_wit_firstCounts B_wit_secondCounts Ps Pd G_tape_wordNames G_told_herdNames G_told_ironNames G_told_beastNames G_draft_herdNames G_draft_ironNames G_draft_beastNames Ph Po Pg ex) (qGv (fun H => ∃ (F_wit_secondCounts : Nat → Int), (bd (-2147483648) 2147483647 F_wit_secondCounts) ∧ va_P D vwCl (cW k a q x_xo_lyingCount x_tape_length x_tape_next x_tape_kind x_tape_place x_tape_number x_tape_faultKind x_tape_faultPlace x_told_turns x_told_mirror x_told_night x_told_draw x_told_herds x_told_irons x_told_beasts x_told_linesTold x_tfo_steps x_tfo_units x_draft_turns x_draft_mirror x_draft_night x_draft_draw x_draft_herds x_draft_irons x_draft_beasts x_draft_linesTold x_dfo_steps x_dfo_units x_lat_placements x_smi_irons x_smi_aim x_his_here x_his_undoable x_his_redoable x_book_placedCount x_wit_count x_wit_time n_tape_name B_xo_lying B_tape_bytes B_told_brands B_told_ironMarks B_told_homes B_told_births B_tfo_kinds B_tfo_numbers B_tfo_stack B_tfo_facts B_draft_brands B_draft_ironMarks B_draft_homes B_draft_births B_dfo_kinds B_dfo_numbers B_dfo_stack B_dfo_facts B_lat_lowHalves B_lat_highHalves B_lat_ways B_smi_placedIrons B_smi_within B_smi_costs B_his_isKept B_book_norms B_book_above B_book_heights B_book_placedBrands B_bea_firstGains B_bea_otherGains B_wit_burnings B_wit_strokes B_wit_wasOn B_wit_toldAt B_wit_untoldAt B_wit_on B_wit_off B_wit_firstCounts F_wit_secondCounts Ps Pd G_tape_wordNames G_told_herdNames G_told_ironNames G_told_beastNames G_draft_herdNames G_draft_ironNames G_draft_beastNames Ph Po Pg ex) H)) := by
  refine metG_of 2 ck_J7_fill_53178 (Nat.le_of_ble_eq_true rfl) cMap (fun p e s m args below meth c A hx hb hml hr hlocks hown hts hK hD hA hP hS ls hl => ?_)
  have hown : s.vm.findClass "java/util/Arrays" = some m.cls := hown
  have hl : lv_has ls 4 [(0, .ref (a 61)), (1, .int (mI p1))] := hl
  refine lv_iconst (v := mI 0) hx hb dJ7_fill_53178_0 rfl ?_
  refine lv_istore_n (lv' := [(2, .int (mI 0)), (0, .ref (a 61)), (1, .int (mI p1))]) hx hb dJ7_fill_53178_1 rfl hl (by decide) rfl (fun ls hl => ?_)
  refine lv_aload_n hx hb dJ7_fill_53178_2 rfl (lv_at hl 1 rfl) ?_
  refine cn_wit_secondCounts hx hb hK hP dJ7_fill_53178_3 ?_
  refine lv_istore_n (lv' := [(3, .int (mI 6)), (2, .int (mI 0)), (0, .ref (a 61)), (1, .int (mI p1))]) hx hb dJ7_fill_53178_4 rfl hl (by decide) rfl (fun ls hl => ?_)
  refine sy_loop (I := fun n H locs g => ∃ (z_27 : Int) (F_28 : Nat → Int) (ls : Array Slot), (0 ≤ z_27 ∧ z_27 ≤ 6) ∧ (bd (-2147483648) 2147483647 F_28) ∧ (6 - z_27).toNat = n ∧ va_P D vwCl (cW k a q x_xo_lyingCount x_tape_length x_tape_next x_tape_kind x_tape_place x_tape_number x_tape_faultKind x_tape_faultPlace x_told_turns x_told_mirror x_told_night x_told_draw x_told_herds x_told_irons x_told_beasts x_told_linesTold x_tfo_steps x_tfo_units x_draft_turns x_draft_mirror x_draft_night x_draft_draw x_draft_herds x_draft_irons x_draft_beasts x_draft_linesTold x_dfo_steps x_dfo_units x_lat_placements x_smi_irons x_smi_aim x_his_here x_his_undoable x_his_redoable x_book_placedCount x_wit_count x_wit_time n_tape_name B_xo_lying B_tape_bytes B_told_brands B_told_ironMarks B_told_homes B_told_births B_tfo_kinds B_tfo_numbers B_tfo_stack B_tfo_facts B_draft_brands B_draft_ironMarks B_draft_homes B_draft_births B_dfo_kinds B_dfo_numbers B_dfo_stack B_dfo_facts B_lat_lowHalves B_lat_highHalves B_lat_ways B_smi_placedIrons B_smi_within B_smi_costs B_his_isKept B_book_norms B_book_above B_book_heights B_book_placedBrands B_bea_firstGains B_bea_otherGains B_wit_burnings B_wit_strokes B_wit_wasOn B_wit_toldAt B_wit_untoldAt B_wit_on B_wit_off B_wit_firstCounts F_28 Ps Pd G_tape_wordNames G_told_herdNames G_told_ironNames G_told_beastNames G_draft_herdNames G_draft_ironNames G_draft_beastNames Ph Po Pg ex) H ∧ va_S A s.heap H locs ∧ lv_has ls 4 [(3, .int (mI 6)), (2, .int (mI z_27)), (0, .ref (a 61)), (1, .int (mI p1))] ∧ g = F0 m 5 ls []) ?_ _ ⟨0, B_wit_secondCounts, _, by omega, b_B_wit_secondCounts, rfl, hP, hS, lv_sub hl [0, 1, 2, 3] rfl, rfl⟩
  intro n_31 H locs g hI ih_32
  obtain ⟨z_27, F_28, ls, h5_0, bF_28, mn_31, hP, hS, hl, rfl⟩ := hI
  refine lv_iload_n hx hb dJ7_fill_53178_5 rfl (lv_at hl 1 rfl) ?_
  refine lv_iload_n hx hb dJ7_fill_53178_6 rfl (lv_at hl 0 rfl) ?_
  refine sy_icmp_ge (tgt := 20) hx hb dJ7_fill_53178_7 (by decide) (by omega) (by decide) (fun c_33 => ?_) (fun c_33 => ?_)
  · skip
    exact r_v hx hb hr hlocks dJ7_fill_53178_20 hS ⟨F_28, bF_28, hP⟩
  · skip
    refine lv_aload_n hx hb dJ7_fill_53178_10 rfl (lv_at hl 2 rfl) ?_
    refine lv_iload_n hx hb dJ7_fill_53178_11 rfl (lv_at hl 1 rfl) ?_
    refine lv_iload_n hx hb dJ7_fill_53178_12 rfl (lv_at hl 3 rfl) ?_
    refine cs_wit_secondCounts hx hb hK hP hD hS dJ7_fill_53178_13 (by omega) bF_28 (by omega) (fun F_34 H locs _ bF_34 hP hS => ?_)
    refine lv_iinc (v := mI (z_27 + 1)) (lv' := [(2, .int (mI (z_27 + 1))), (3, .int (mI 6)), (0, .ref (a 61)), (1, .int (mI p1))]) hx hb dJ7_fill_53178_14 hl (k := 1) rfl (mI_ad rfl) (by decide) rfl (fun ls hl => ?_)
    refine lv_goto (tgt := 5) hx hb dJ7_fill_53178_17 (by decide) ?_
    exact ih_32 _ _ _ _ (by omega) ⟨(z_27 + 1), F_34, _, by omega, bF_34, rfl, hP, hS, lv_sub hl [1, 0, 2, 3] rfl, rfl⟩
set_option maxHeartbeats 4000000 in
set_option maxRecDepth 100000 in
theorem kc_X10_agrees {p0 p1 : Int} (hp0 : -2147483648 ≤ p0 ∧ p0 ≤ 2147483647) (hp1 : 0 ≤ p1 ∧ p1 ≤ 1) (b_B_wit_on : bd (-2147483648) 2147483647 B_wit_on) (b_B_wit_off : bd (-2147483648) 2147483647 B_wit_off) : MetG l D k yX10_agrees cX10_agrees 3 (some .boolean) 0 [.ref (a 52), .int (mI p0), .int (mI p1)] (cW k a q x_xo_lyingCount x_tape_length x_tape_next x_tape_kind x_tape_place x_tape_number x_tape_faultKind x_tape_faultPlace x_told_turns x_told_mirror x_told_night x_told_draw x_told_herds x_told_irons x_told_beasts x_told_linesTold x_tfo_steps x_tfo_units x_draft_turns x_draft_mirror x_draft_night x_draft_draw x_draft_herds x_draft_irons x_draft_beasts x_draft_linesTold x_dfo_steps x_dfo_units x_lat_placements x_smi_irons x_smi_aim x_his_here x_his_undoable x_his_redoable x_book_placedCount x_wit_count x_wit_time n_tape_name B_xo_lying B_tape_bytes B_told_brands B_told_ironMarks B_told_homes B_told_births B_tfo_kinds B_tfo_numbers B_tfo_stack B_tfo_facts B_draft_brands B_draft_ironMarks B_draft_homes B_draft_births B_dfo_kinds B_dfo_numbers B_dfo_stack B_dfo_facts B_lat_lowHalves B_lat_highHalves B_lat_ways B_smi_placedIrons B_smi_within B_smi_costs B_his_isKept B_book_norms B_book_above B_book_heights B_book_placedBrands B_bea_firstGains B_bea_otherGains B_wit_burnings B_wit_strokes B_wit_wasOn B_wit_toldAt B_wit_untoldAt B_wit_on B_wit_off B_wit_firstCounts B_wit_secondCounts Ps Pd G_tape_wordNames G_told_herdNames G_told_ironNames G_told_beastNames G_draft_herdNames G_draft_ironNames G_draft_beastNames Ph Po Pg ex) (qGi (fun r0 H => ((0 = r0) ∨ (1 = r0)) ∧ va_P D vwCl (cW k a q x_xo_lyingCount x_tape_length x_tape_next x_tape_kind x_tape_place x_tape_number x_tape_faultKind x_tape_faultPlace x_told_turns x_told_mirror x_told_night x_told_draw x_told_herds x_told_irons x_told_beasts x_told_linesTold x_tfo_steps x_tfo_units x_draft_turns x_draft_mirror x_draft_night x_draft_draw x_draft_herds x_draft_irons x_draft_beasts x_draft_linesTold x_dfo_steps x_dfo_units x_lat_placements x_smi_irons x_smi_aim x_his_here x_his_undoable x_his_redoable x_book_placedCount x_wit_count x_wit_time n_tape_name B_xo_lying B_tape_bytes B_told_brands B_told_ironMarks B_told_homes B_told_births B_tfo_kinds B_tfo_numbers B_tfo_stack B_tfo_facts B_draft_brands B_draft_ironMarks B_draft_homes B_draft_births B_dfo_kinds B_dfo_numbers B_dfo_stack B_dfo_facts B_lat_lowHalves B_lat_highHalves B_lat_ways B_smi_placedIrons B_smi_within B_smi_costs B_his_isKept B_book_norms B_book_above B_book_heights B_book_placedBrands B_bea_firstGains B_bea_otherGains B_wit_burnings B_wit_strokes B_wit_wasOn B_wit_toldAt B_wit_untoldAt B_wit_on B_wit_off B_wit_firstCounts B_wit_secondCounts Ps Pd G_tape_wordNames G_told_herdNames G_told_ironNames G_told_beastNames G_draft_herdNames G_draft_ironNames G_draft_beastNames Ph Po Pg ex) H)) := by
  refine metG_of 2 ck_X10_agrees (Nat.le_of_ble_eq_true rfl) cMap (fun p e s m args below meth c A hx hb hml hr hlocks hown hts hK hD hA hP hS ls hl => ?_)
  have hown : s.vm.findClass "HideReader$Witness" = some m.cls := hown
  have hl : lv_has ls 3 [(0, .ref (a 52)), (1, .int (mI p0)), (2, .int (mI p1))] := hl
  refine lv_aload_n hx hb dX10_agrees_0 rfl (lv_at hl 0 rfl) ?_
  refine cg_wit_on hx hb hts hown hK hP uw_2_198 dX10_agrees_1 ?_
  refine lv_iload_n hx hb dX10_agrees_4 rfl (lv_at hl 2 rfl) ?_
  refine cl_wit_on hx hb hK hP dX10_agrees_5 (by omega) b_B_wit_on (fun z_1 _ hz_1 => ?_)
  refine lv_iload_n hx hb dX10_agrees_6 rfl (lv_at hl 1 rfl) ?_
  refine lv_iconst (v := mI (-1)) hx hb dX10_agrees_7 rfl ?_
  refine lv_ixor hx hb dX10_agrees_8 ?_
  refine sy_any (fun z_2 hz_2 => ?_)
  refine lv_iand hx hb dX10_agrees_9 ?_
  refine sy_any (fun z_3 hz_3 => ?_)
  refine sy_if_ne (tgt := 28) hx hb dX10_agrees_10 (by decide) (by omega) (fun c_4 => ?_) (fun c_4 => ?_)
  · skip
    refine lv_iconst (v := mI 0) hx hb dX10_agrees_28 rfl ?_
    exact r_z hx hb hr hlocks dX10_agrees_29 hS (by decide) ⟨Or.inl (rfl), hP⟩
  · skip
    refine lv_aload_n hx hb dX10_agrees_13 rfl (lv_at hl 0 rfl) ?_
    refine cg_wit_off hx hb hts hown hK hP uw_2_199 dX10_agrees_14 ?_
    refine lv_iload_n hx hb dX10_agrees_17 rfl (lv_at hl 2 rfl) ?_
    refine cl_wit_off hx hb hK hP dX10_agrees_18 (by omega) b_B_wit_off (fun z_5 _ hz_5 => ?_)
    refine lv_iload_n hx hb dX10_agrees_19 rfl (lv_at hl 1 rfl) ?_
    refine lv_iand hx hb dX10_agrees_20 ?_
    refine sy_any (fun z_6 hz_6 => ?_)
    refine sy_if_ne (tgt := 28) hx hb dX10_agrees_21 (by decide) (by omega) (fun c_7 => ?_) (fun c_7 => ?_)
    · skip
      refine lv_iconst (v := mI 0) hx hb dX10_agrees_28 rfl ?_
      exact r_z hx hb hr hlocks dX10_agrees_29 hS (by decide) ⟨Or.inl (rfl), hP⟩
    · skip
      refine lv_iconst (v := mI 1) hx hb dX10_agrees_24 rfl ?_
      refine lv_goto (tgt := 29) hx hb dX10_agrees_25 (by decide) ?_
      exact r_z hx hb hr hlocks dX10_agrees_29 hS (by decide) ⟨Or.inr (rfl), hP⟩
set_option maxHeartbeats 4000000 in
set_option maxRecDepth 100000 in
theorem kc_X10_countSecond {p0 : Int} (hp0 : -2147483648 ≤ p0 ∧ p0 ≤ 2147483647) (h_x_lat_placements : 1 ≤ x_lat_placements ∧ x_lat_placements ≤ 8) (h_x_smi_irons : 0 ≤ x_smi_irons ∧ x_smi_irons ≤ 6) (b_B_smi_placedIrons : bd (0) 4095 B_smi_placedIrons) (b_B_wit_on : bd (-2147483648) 2147483647 B_wit_on) (b_B_wit_off : bd (-2147483648) 2147483647 B_wit_off) (b_B_wit_secondCounts : bd (-2147483648) 2147483647 B_wit_secondCounts) : MetG l D k yX10_countSecond cX10_countSecond 5 (some .int) 2 [.ref (a 52), .int (mI p0)] (cW k a q x_xo_lyingCount x_tape_length x_tape_next x_tape_kind x_tape_place x_tape_number x_tape_faultKind x_tape_faultPlace x_told_turns x_told_mirror x_told_night x_told_draw x_told_herds x_told_irons x_told_beasts x_told_linesTold x_tfo_steps x_tfo_units x_draft_turns x_draft_mirror x_draft_night x_draft_draw x_draft_herds x_draft_irons x_draft_beasts x_draft_linesTold x_dfo_steps x_dfo_units x_lat_placements x_smi_irons x_smi_aim x_his_here x_his_undoable x_his_redoable x_book_placedCount x_wit_count x_wit_time n_tape_name B_xo_lying B_tape_bytes B_told_brands B_told_ironMarks B_told_homes B_told_births B_tfo_kinds B_tfo_numbers B_tfo_stack B_tfo_facts B_draft_brands B_draft_ironMarks B_draft_homes B_draft_births B_dfo_kinds B_dfo_numbers B_dfo_stack B_dfo_facts B_lat_lowHalves B_lat_highHalves B_lat_ways B_smi_placedIrons B_smi_within B_smi_costs B_his_isKept B_book_norms B_book_above B_book_heights B_book_placedBrands B_bea_firstGains B_bea_otherGains B_wit_burnings B_wit_strokes B_wit_wasOn B_wit_toldAt B_wit_untoldAt B_wit_on B_wit_off B_wit_firstCounts B_wit_secondCounts Ps Pd G_tape_wordNames G_told_herdNames G_told_ironNames G_told_beastNames G_draft_herdNames G_draft_ironNames G_draft_beastNames Ph Po Pg ex) (qGi (fun r0 H => ∃ (F_wit_secondCounts : Nat → Int), (-2147483648 ≤ r0 ∧ r0 ≤ 2147483647) ∧ (bd (-2147483648) 2147483647 F_wit_secondCounts) ∧ va_P D vwCl (cW k a q x_xo_lyingCount x_tape_length x_tape_next x_tape_kind x_tape_place x_tape_number x_tape_faultKind x_tape_faultPlace x_told_turns x_told_mirror x_told_night x_told_draw x_told_herds x_told_irons x_told_beasts x_told_linesTold x_tfo_steps x_tfo_units x_draft_turns x_draft_mirror x_draft_night x_draft_draw x_draft_herds x_draft_irons x_draft_beasts x_draft_linesTold x_dfo_steps x_dfo_units x_lat_placements x_smi_irons x_smi_aim x_his_here x_his_undoable x_his_redoable x_book_placedCount x_wit_count x_wit_time n_tape_name B_xo_lying B_tape_bytes B_told_brands B_told_ironMarks B_told_homes B_told_births B_tfo_kinds B_tfo_numbers B_tfo_stack B_tfo_facts B_draft_brands B_draft_ironMarks B_draft_homes B_draft_births B_dfo_kinds B_dfo_numbers B_dfo_stack B_dfo_facts B_lat_lowHalves B_lat_highHalves B_lat_ways B_smi_placedIrons B_smi_within B_smi_costs B_his_isKept B_book_norms B_book_above B_book_heights B_book_placedBrands B_bea_firstGains B_bea_otherGains B_wit_burnings B_wit_strokes B_wit_wasOn B_wit_toldAt B_wit_untoldAt B_wit_on B_wit_off B_wit_firstCounts F_wit_secondCounts Ps Pd G_tape_wordNames G_told_herdNames G_told_ironNames G_told_beastNames G_draft_herdNames G_draft_ironNames G_draft_beastNames Ph Po Pg ex) H)) := by
  refine metG_of 1 ck_X10_countSecond (Nat.le_of_ble_eq_true rfl) cMap (fun p e s m args below meth c A hx hb hml hr hlocks hown hts hK hD hA hP hS ls hl => ?_)
  have hown : s.vm.findClass "HideReader$Witness" = some m.cls := hown
  have hl : lv_has ls 5 [(0, .ref (a 52)), (1, .int (mI p0))] := hl
  refine lv_iconst (v := mI 0) hx hb dX10_countSecond_0 rfl ?_
  refine lv_istore_n (lv' := [(2, .int (mI 0)), (0, .ref (a 52)), (1, .int (mI p0))]) hx hb dX10_countSecond_1 rfl hl (by decide) rfl (fun ls hl => ?_)
  refine lv_iconst (v := mI 0) hx hb dX10_countSecond_2 rfl ?_
  refine lv_istore_n (lv' := [(3, .int (mI 0)), (2, .int (mI 0)), (0, .ref (a 52)), (1, .int (mI p0))]) hx hb dX10_countSecond_3 rfl hl (by decide) rfl (fun ls hl => ?_)
  refine sy_loop (I := fun n H locs g => ∃ (z_18965 : Int) (z_18966 : Int) (F_18967 : Nat → Int) (ls : Array Slot), (0 ≤ z_18965 ∧ z_18965 ≤ 6) ∧ (-2147483648 ≤ z_18966 ∧ z_18966 ≤ 2147483647) ∧ (bd (-2147483648) 2147483647 F_18967) ∧ (6 - z_18965).toNat = n ∧ va_P D vwCl (cW k a q x_xo_lyingCount x_tape_length x_tape_next x_tape_kind x_tape_place x_tape_number x_tape_faultKind x_tape_faultPlace x_told_turns x_told_mirror x_told_night x_told_draw x_told_herds x_told_irons x_told_beasts x_told_linesTold x_tfo_steps x_tfo_units x_draft_turns x_draft_mirror x_draft_night x_draft_draw x_draft_herds x_draft_irons x_draft_beasts x_draft_linesTold x_dfo_steps x_dfo_units x_lat_placements x_smi_irons x_smi_aim x_his_here x_his_undoable x_his_redoable x_book_placedCount x_wit_count x_wit_time n_tape_name B_xo_lying B_tape_bytes B_told_brands B_told_ironMarks B_told_homes B_told_births B_tfo_kinds B_tfo_numbers B_tfo_stack B_tfo_facts B_draft_brands B_draft_ironMarks B_draft_homes B_draft_births B_dfo_kinds B_dfo_numbers B_dfo_stack B_dfo_facts B_lat_lowHalves B_lat_highHalves B_lat_ways B_smi_placedIrons B_smi_within B_smi_costs B_his_isKept B_book_norms B_book_above B_book_heights B_book_placedBrands B_bea_firstGains B_bea_otherGains B_wit_burnings B_wit_strokes B_wit_wasOn B_wit_toldAt B_wit_untoldAt B_wit_on B_wit_off B_wit_firstCounts F_18967 Ps Pd G_tape_wordNames G_told_herdNames G_told_ironNames G_told_beastNames G_draft_herdNames G_draft_ironNames G_draft_beastNames Ph Po Pg ex) H ∧ va_S A s.heap H locs ∧ lv_has ls 5 [(3, .int (mI z_18965)), (2, .int (mI z_18966)), (0, .ref (a 52)), (1, .int (mI p0))] ∧ g = F0 m 4 ls []) ?_ _ ⟨0, 0, B_wit_secondCounts, _, by omega, by omega, b_B_wit_secondCounts, rfl, hP, hS, lv_sub hl [0, 1, 2, 3] rfl, rfl⟩
  intro n_19142 H locs g hI ih_19143
  obtain ⟨z_18965, z_18966, F_18967, ls, h4_0, h4_1, bF_18967, mn_19142, hP, hS, hl, rfl⟩ := hI
  refine lv_iload_n hx hb dX10_countSecond_4 rfl (lv_at hl 0 rfl) ?_
  refine lv_aload_n hx hb dX10_countSecond_5 rfl (lv_at hl 2 rfl) ?_
  refine cg_wit_smith hx hb hts hown hK hP uw_2_190 dX10_countSecond_6 ?_
  refine g_i (cDt hD) hS hA (g_V (own := "HideReader$Witness") (As := []) (rest := [.int (mI z_18965)]) hx hb hml hown hts hK hP (cDt hD) (kc_X6_irons (l := l) (D := D) (k := k) h_x_smi_irons) ck_X6_irons iv_X6_irons uw_6_119 (cv_smi hK hP) rfl hl.1 rfl (Nat.le_of_ble_eq_true rfl) dX10_countSecond_9 ⟨Nat.le_of_ble_eq_true rfl, Nat.le_of_ble_eq_true rfl⟩ ⟨Nat.le_of_ble_eq_true rfl, Nat.le_of_ble_eq_true rfl⟩) (fun r_19144 H locs hQ hS => ?_)
  obtain ⟨hq_r_19144, hP⟩ := hQ
  obtain rfl := hq_r_19144
  refine sy_icmp_ge (tgt := 75) hx hb dX10_countSecond_12 (by decide) (by omega) (by omega) (fun c_19146 => ?_) (fun c_19146 => ?_)
  · skip
    refine lv_iload_n hx hb dX10_countSecond_75 rfl (lv_at hl 1 rfl) ?_
    exact r_i hx hb hr hlocks dX10_countSecond_76 hS ⟨F_18967, by omega, bF_18967, hP⟩
  · skip
    refine lv_iconst (v := mI 0) hx hb dX10_countSecond_15 rfl ?_
    refine lv_istore (lv' := [(4, .int (mI 0)), (3, .int (mI z_18965)), (2, .int (mI z_18966)), (0, .ref (a 52)), (1, .int (mI p0))]) hx hb dX10_countSecond_16 hl (by decide) rfl (fun ls hl => ?_)
    refine sy_loop (I := fun n H locs g => ∃ (z_19285 : Int) (z_19286 : Int) (F_19287 : Nat → Int) (ls : Array Slot), (0 ≤ z_19285 ∧ z_19285 ≤ 8) ∧ (-2147483648 ≤ z_19286 ∧ z_19286 ≤ 2147483647) ∧ (bd (-2147483648) 2147483647 F_19287) ∧ (8 - z_19285).toNat = n ∧ va_P D vwCl (cW k a q x_xo_lyingCount x_tape_length x_tape_next x_tape_kind x_tape_place x_tape_number x_tape_faultKind x_tape_faultPlace x_told_turns x_told_mirror x_told_night x_told_draw x_told_herds x_told_irons x_told_beasts x_told_linesTold x_tfo_steps x_tfo_units x_draft_turns x_draft_mirror x_draft_night x_draft_draw x_draft_herds x_draft_irons x_draft_beasts x_draft_linesTold x_dfo_steps x_dfo_units x_lat_placements x_smi_irons x_smi_aim x_his_here x_his_undoable x_his_redoable x_book_placedCount x_wit_count x_wit_time n_tape_name B_xo_lying B_tape_bytes B_told_brands B_told_ironMarks B_told_homes B_told_births B_tfo_kinds B_tfo_numbers B_tfo_stack B_tfo_facts B_draft_brands B_draft_ironMarks B_draft_homes B_draft_births B_dfo_kinds B_dfo_numbers B_dfo_stack B_dfo_facts B_lat_lowHalves B_lat_highHalves B_lat_ways B_smi_placedIrons B_smi_within B_smi_costs B_his_isKept B_book_norms B_book_above B_book_heights B_book_placedBrands B_bea_firstGains B_bea_otherGains B_wit_burnings B_wit_strokes B_wit_wasOn B_wit_toldAt B_wit_untoldAt B_wit_on B_wit_off B_wit_firstCounts F_19287 Ps Pd G_tape_wordNames G_told_herdNames G_told_ironNames G_told_beastNames G_draft_herdNames G_draft_ironNames G_draft_beastNames Ph Po Pg ex) H ∧ va_S A s.heap H locs ∧ lv_has ls 5 [(4, .int (mI z_19285)), (3, .int (mI z_18965)), (2, .int (mI z_19286)), (0, .ref (a 52)), (1, .int (mI p0))] ∧ g = F0 m 18 ls []) ?_ _ ⟨0, z_18966, F_18967, _, by omega, by omega, bF_18967, rfl, hP, hS, lv_sub hl [0, 1, 2, 3, 4] rfl, rfl⟩
    intro n_19302 H locs g hI ih_19303
    obtain ⟨z_19285, z_19286, F_19287, ls, h18_0, h18_1, bF_19287, mn_19302, hP, hS, hl, rfl⟩ := hI
    refine lv_iload hx hb dX10_countSecond_18 (lv_at hl 0 rfl) ?_
    refine lv_aload_n hx hb dX10_countSecond_20 rfl (lv_at hl 3 rfl) ?_
    refine cg_wit_smith hx hb hts hown hK hP uw_2_190 dX10_countSecond_21 ?_
    refine g_i (cDt hD) hS hA (g_V (own := "HideReader$Witness") (As := []) (rest := [.int (mI z_19285)]) hx hb hml hown hts hK hP (cDt hD) (kc_X6_placements (l := l) (D := D) (k := k) h_x_lat_placements) ck_X6_placements iv_X6_placements uw_6_123 (cv_smi hK hP) rfl hl.1 rfl (Nat.le_of_ble_eq_true rfl) dX10_countSecond_24 ⟨Nat.le_of_ble_eq_true rfl, Nat.le_of_ble_eq_true rfl⟩ ⟨Nat.le_of_ble_eq_true rfl, Nat.le_of_ble_eq_true rfl⟩) (fun r_19304 H locs hQ hS => ?_)
    obtain ⟨hq_r_19304, hP⟩ := hQ
    obtain rfl := hq_r_19304
    refine sy_icmp_ge (tgt := 69) hx hb dX10_countSecond_27 (by decide) (by omega) (by omega) (fun c_19306 => ?_) (fun c_19306 => ?_)
    · skip
      refine lv_iinc (v := mI (z_18965 + 1)) (lv' := [(3, .int (mI (z_18965 + 1))), (4, .int (mI z_19285)), (2, .int (mI z_19286)), (0, .ref (a 52)), (1, .int (mI p0))]) hx hb dX10_countSecond_69 hl (k := 1) rfl (mI_ad rfl) (by decide) rfl (fun ls hl => ?_)
      refine lv_goto (tgt := 4) hx hb dX10_countSecond_72 (by decide) ?_
      exact ih_19143 _ _ _ _ (by omega) ⟨(z_18965 + 1), z_19286, F_19287, _, by omega, by omega, bF_19287, rfl, hP, hS, lv_sub hl [0, 2, 3, 4] rfl, rfl⟩
    · skip
      refine lv_aload_n hx hb dX10_countSecond_30 rfl (lv_at hl 3 rfl) ?_
      refine lv_iload_n hx hb dX10_countSecond_31 rfl (lv_at hl 4 rfl) ?_
      refine lv_aload_n hx hb dX10_countSecond_32 rfl (lv_at hl 3 rfl) ?_
      refine cg_wit_smith hx hb hts hown hK hP uw_2_190 dX10_countSecond_33 ?_
      refine lv_iload_n hx hb dX10_countSecond_36 rfl (lv_at hl 1 rfl) ?_
      refine lv_iload hx hb dX10_countSecond_37 (lv_at hl 0 rfl) ?_
      refine g_i (cDt hD) hS hA (g_V (own := "HideReader$Witness") (As := [.int (mI z_18965), .int (mI z_19285)]) (rest := [.int (mI p0), .ref (a 52)]) hx hb hml hown hts hK hP (cDt hD) (kc_X6_placedIron (l := l) (D := D) (k := k) (by omega) (by omega) b_B_smi_placedIrons) ck_X6_placedIron iv_X6_placedIron uw_6_127 (cv_smi hK hP) rfl hl.1 rfl (Nat.le_of_ble_eq_true rfl) dX10_countSecond_39 ⟨Nat.le_of_ble_eq_true rfl, Nat.le_of_ble_eq_true rfl⟩ ⟨Nat.le_of_ble_eq_true rfl, Nat.le_of_ble_eq_true rfl⟩) (fun r_19307 H locs hQ hS => ?_)
      obtain ⟨hr_19307_0, hP⟩ := hQ
      refine lv_ior hx hb dX10_countSecond_42 ?_
      refine sy_any (fun z_19308 hz_19308 => ?_)
      refine lv_iconst (v := mI 1) hx hb dX10_countSecond_43 rfl ?_
      refine g_i (cDt hD) hS hA (g_V (own := "HideReader$Witness") (As := [.int (mI z_19308), .int (mI 1)]) (rest := []) hx hb hml hown hts hK hP (cDt hD) (kc_X10_agrees (l := l) (D := D) (k := k) (by omega) (by decide) b_B_wit_on b_B_wit_off) ck_X10_agrees iv_X10_agrees uw_6_128 (cv_wit hK hP) rfl hl.1 rfl (Nat.le_of_ble_eq_true rfl) dX10_countSecond_44 ⟨Nat.le_of_ble_eq_true rfl, Nat.le_of_ble_eq_true rfl⟩ ⟨Nat.le_of_ble_eq_true rfl, Nat.le_of_ble_eq_true rfl⟩) (fun r_19309 H locs hQ hS => ?_)
      obtain ⟨hq_r_19309, hP⟩ := hQ
      rcases hq_r_19309 with rfl | rfl
      · skip
        refine sy_if_eq (tgt := 63) hx hb dX10_countSecond_47 (by decide) (by decide) (fun c_19312 => ?_) (fun c9 => absurd c9 (by decide))
        refine lv_iinc (v := mI (z_19285 + 1)) (lv' := [(4, .int (mI (z_19285 + 1))), (3, .int (mI z_18965)), (2, .int (mI z_19286)), (0, .ref (a 52)), (1, .int (mI p0))]) hx hb dX10_countSecond_63 hl (k := 0) rfl (mI_ad rfl) (by decide) rfl (fun ls hl => ?_)
        refine lv_goto (tgt := 18) hx hb dX10_countSecond_66 (by decide) ?_
        exact ih_19303 _ _ _ _ (by omega) ⟨(z_19285 + 1), z_19286, F_19287, _, by omega, by omega, bF_19287, rfl, hP, hS, lv_sub hl [0, 1, 2, 3, 4] rfl, rfl⟩
      · skip
        refine sy_if_eq (tgt := 63) hx hb dX10_countSecond_47 (by decide) (by decide) (fun c9 => absurd c9 (by decide)) (fun c_19313 => ?_)
        refine lv_aload_n hx hb dX10_countSecond_50 rfl (lv_at hl 3 rfl) ?_
        refine cg_wit_secondCounts hx hb hts hown hK hP uw_2_201 dX10_countSecond_51 ?_
        refine lv_iload_n hx hb dX10_countSecond_54 rfl (lv_at hl 1 rfl) ?_
        refine lv_dup2_11 hx hb dX10_countSecond_55 rfl rfl ?_
        refine cl_wit_secondCounts hx hb hK hP dX10_countSecond_56 (by omega) bF_19287 (fun z_19314 _ hz_19314 => ?_)
        refine lv_iconst (v := mI 1) hx hb dX10_countSecond_57 rfl ?_
        refine sy_iadd hx hb dX10_countSecond_58 (z_19314 + 1) rfl ?_
        refine sy_any (fun z_19315 hz_19315 => ?_)
        refine cs_wit_secondCounts hx hb hK hP hD hS dX10_countSecond_59 (by omega) bF_19287 (by omega) (fun F_19316 H locs _ bF_19316 hP hS => ?_)
        refine lv_iinc (v := mI (z_19286 + 1)) (lv' := [(2, .int (mI (z_19286 + 1))), (4, .int (mI z_19285)), (3, .int (mI z_18965)), (0, .ref (a 52)), (1, .int (mI p0))]) hx hb dX10_countSecond_60 hl (k := 2) rfl (mI_ad rfl) (by decide) rfl (fun ls hl => ?_)
        obtain ⟨z_19317, ez_19317, hz_19317⟩ := mI_of (mI (z_19286 + 1))
        rw [ez_19317] at hl
        refine lv_iinc (v := mI (z_19285 + 1)) (lv' := [(4, .int (mI (z_19285 + 1))), (2, .int (mI z_19317)), (3, .int (mI z_18965)), (0, .ref (a 52)), (1, .int (mI p0))]) hx hb dX10_countSecond_63 hl (k := 1) rfl (mI_ad rfl) (by decide) rfl (fun ls hl => ?_)
        refine lv_goto (tgt := 18) hx hb dX10_countSecond_66 (by decide) ?_
        exact ih_19303 _ _ _ _ (by omega) ⟨(z_19285 + 1), z_19317, F_19316, _, by omega, by omega, bF_19316, rfl, hP, hS, lv_sub hl [0, 2, 1, 3, 4] rfl, rfl⟩
set_option maxHeartbeats 4000000 in
set_option maxRecDepth 100000 in
theorem kc_X10_countRows {p0 : Int} (hp0 : -2147483648 ≤ p0 ∧ p0 ≤ 2147483647) (h_x_told_herds : 0 ≤ x_told_herds ∧ x_told_herds ≤ 8) (h_x_told_beasts : 0 ≤ x_told_beasts ∧ x_told_beasts ≤ 8) (h_x_lat_placements : 1 ≤ x_lat_placements ∧ x_lat_placements ≤ 8) (h_x_smi_irons : 0 ≤ x_smi_irons ∧ x_smi_irons ≤ 6) (h_x_wit_count : 0 ≤ x_wit_count ∧ x_wit_count ≤ 30) (b_B_told_brands : bd (-2147483648) 2147483647 B_told_brands) (b_B_told_homes : bd (0) 7 B_told_homes) (b_B_smi_placedIrons : bd (0) 4095 B_smi_placedIrons) (b_B_wit_burnings : bd (0) 2 B_wit_burnings) (b_B_wit_strokes : bd (0) 11 B_wit_strokes) (b_B_wit_wasOn : bd (0) 1 B_wit_wasOn) (b_B_wit_toldAt : bd (-2147483648) 2147483647 B_wit_toldAt) (b_B_wit_untoldAt : bd (-2147483648) 2147483647 B_wit_untoldAt) (b_B_wit_on : bd (-2147483648) 2147483647 B_wit_on) (b_B_wit_off : bd (-2147483648) 2147483647 B_wit_off) (b_B_wit_firstCounts : bd (-2147483648) 2147483647 B_wit_firstCounts) (b_B_wit_secondCounts : bd (-2147483648) 2147483647 B_wit_secondCounts) (g_T : tI x_told_herds x_told_beasts B_told_brands B_told_homes) (g_U : bU x_wit_count B_wit_burnings) : MetG l D k yX10_countRows cX10_countRows 8 (some .int) 3 [.ref (a 52), .int (mI p0)] (cW k a q x_xo_lyingCount x_tape_length x_tape_next x_tape_kind x_tape_place x_tape_number x_tape_faultKind x_tape_faultPlace x_told_turns x_told_mirror x_told_night x_told_draw x_told_herds x_told_irons x_told_beasts x_told_linesTold x_tfo_steps x_tfo_units x_draft_turns x_draft_mirror x_draft_night x_draft_draw x_draft_herds x_draft_irons x_draft_beasts x_draft_linesTold x_dfo_steps x_dfo_units x_lat_placements x_smi_irons x_smi_aim x_his_here x_his_undoable x_his_redoable x_book_placedCount x_wit_count x_wit_time n_tape_name B_xo_lying B_tape_bytes B_told_brands B_told_ironMarks B_told_homes B_told_births B_tfo_kinds B_tfo_numbers B_tfo_stack B_tfo_facts B_draft_brands B_draft_ironMarks B_draft_homes B_draft_births B_dfo_kinds B_dfo_numbers B_dfo_stack B_dfo_facts B_lat_lowHalves B_lat_highHalves B_lat_ways B_smi_placedIrons B_smi_within B_smi_costs B_his_isKept B_book_norms B_book_above B_book_heights B_book_placedBrands B_bea_firstGains B_bea_otherGains B_wit_burnings B_wit_strokes B_wit_wasOn B_wit_toldAt B_wit_untoldAt B_wit_on B_wit_off B_wit_firstCounts B_wit_secondCounts Ps Pd G_tape_wordNames G_told_herdNames G_told_ironNames G_told_beastNames G_draft_herdNames G_draft_ironNames G_draft_beastNames Ph Po Pg ex) (qGi (fun r0 H => ∃ (F_wit_on : Nat → Int) (F_wit_off : Nat → Int) (F_wit_firstCounts : Nat → Int) (F_wit_secondCounts : Nat → Int), (-2147483648 ≤ r0 ∧ r0 ≤ 2147483647) ∧ (bd (-2147483648) 2147483647 F_wit_on) ∧ (bd (-2147483648) 2147483647 F_wit_off) ∧ (bd (-2147483648) 2147483647 F_wit_firstCounts) ∧ (bd (-2147483648) 2147483647 F_wit_secondCounts) ∧ va_P D vwCl (cW k a q x_xo_lyingCount x_tape_length x_tape_next x_tape_kind x_tape_place x_tape_number x_tape_faultKind x_tape_faultPlace x_told_turns x_told_mirror x_told_night x_told_draw x_told_herds x_told_irons x_told_beasts x_told_linesTold x_tfo_steps x_tfo_units x_draft_turns x_draft_mirror x_draft_night x_draft_draw x_draft_herds x_draft_irons x_draft_beasts x_draft_linesTold x_dfo_steps x_dfo_units x_lat_placements x_smi_irons x_smi_aim x_his_here x_his_undoable x_his_redoable x_book_placedCount x_wit_count x_wit_time n_tape_name B_xo_lying B_tape_bytes B_told_brands B_told_ironMarks B_told_homes B_told_births B_tfo_kinds B_tfo_numbers B_tfo_stack B_tfo_facts B_draft_brands B_draft_ironMarks B_draft_homes B_draft_births B_dfo_kinds B_dfo_numbers B_dfo_stack B_dfo_facts B_lat_lowHalves B_lat_highHalves B_lat_ways B_smi_placedIrons B_smi_within B_smi_costs B_his_isKept B_book_norms B_book_above B_book_heights B_book_placedBrands B_bea_firstGains B_bea_otherGains B_wit_burnings B_wit_strokes B_wit_wasOn B_wit_toldAt B_wit_untoldAt F_wit_on F_wit_off F_wit_firstCounts F_wit_secondCounts Ps Pd G_tape_wordNames G_told_herdNames G_told_ironNames G_told_beastNames G_draft_herdNames G_draft_ironNames G_draft_beastNames Ph Po Pg ex) H)) := by
  refine metG_of 1 ck_X10_countRows (Nat.le_of_ble_eq_true rfl) cMap (fun p e s m args below meth c A hx hb hml hr hlocks hown hts hK hD hA hP hS ls hl => ?_)
  have hown : s.vm.findClass "HideReader$Witness" = some m.cls := hown
  have hl : lv_has ls 8 [(0, .ref (a 52)), (1, .int (mI p0))] := hl
  refine lv_aload_n hx hb dX10_countRows_0 rfl (lv_at hl 0 rfl) ?_
  refine lv_iload_n hx hb dX10_countRows_1 rfl (lv_at hl 1 rfl) ?_
  refine g_v (cDt hD) hS hA (g_V (own := "HideReader$Witness") (As := [.int (mI p0)]) (rest := []) hx hb hml hown hts hK hP (cDt hD) (kc_X10_gather (l := l) (D := D) (k := k) (by omega) h_x_wit_count b_B_wit_burnings b_B_wit_strokes b_B_wit_wasOn b_B_wit_toldAt b_B_wit_untoldAt b_B_wit_on b_B_wit_off g_U) ck_X10_gather iv_X10_gather uw_6_114 (cv_wit hK hP) rfl hl.1 rfl (Nat.le_of_ble_eq_true rfl) dX10_countRows_2 ⟨Nat.le_of_ble_eq_true rfl, Nat.le_of_ble_eq_true rfl⟩ ⟨Nat.le_of_ble_eq_true rfl, Nat.le_of_ble_eq_true rfl⟩) (fun H locs hQ hS => ?_)
  obtain ⟨F_2, F_3, bF_2, bF_3, hP⟩ := hQ
  refine lv_aload_n hx hb dX10_countRows_5 rfl (lv_at hl 0 rfl) ?_
  refine cg_wit_firstCounts hx hb hts hown hK hP uw_2_200 dX10_countRows_6 ?_
  refine lv_iconst (v := mI 0) hx hb dX10_countRows_9 rfl ?_
  refine g_v (cDt hD) hS hA (g_S (own := "HideReader$Witness") (As := [.ref (a 60), .int (mI 0)]) (rest := []) hx hb hml hown hts hK hP (cDt hD) (kc_J7_fill_53178_wit_firstCounts (l := l) (D := D) (k := k) (by decide) b_B_wit_firstCounts) ck_J7_fill_53178 uw_5_52 uw_6_118 rfl hl.1 rfl (Nat.le_of_ble_eq_true rfl) dX10_countRows_10 ⟨Nat.le_of_ble_eq_true rfl, Nat.le_of_ble_eq_true rfl⟩ ⟨Nat.le_of_ble_eq_true rfl, Nat.le_of_ble_eq_true rfl⟩) (fun H locs hQ hS => ?_)
  obtain ⟨F_5, bF_5, hP⟩ := hQ
  refine lv_aload_n hx hb dX10_countRows_13 rfl (lv_at hl 0 rfl) ?_
  refine cg_wit_secondCounts hx hb hts hown hK hP uw_2_201 dX10_countRows_14 ?_
  refine lv_iconst (v := mI 0) hx hb dX10_countRows_17 rfl ?_
  refine g_v (cDt hD) hS hA (g_S (own := "HideReader$Witness") (As := [.ref (a 61), .int (mI 0)]) (rest := []) hx hb hml hown hts hK hP (cDt hD) (kc_J7_fill_53178_wit_secondCounts (l := l) (D := D) (k := k) (by decide) b_B_wit_secondCounts) ck_J7_fill_53178 uw_5_52 uw_6_118 rfl hl.1 rfl (Nat.le_of_ble_eq_true rfl) dX10_countRows_18 ⟨Nat.le_of_ble_eq_true rfl, Nat.le_of_ble_eq_true rfl⟩ ⟨Nat.le_of_ble_eq_true rfl, Nat.le_of_ble_eq_true rfl⟩) (fun H locs hQ hS => ?_)
  obtain ⟨F_7, bF_7, hP⟩ := hQ
  refine lv_aload_n hx hb dX10_countRows_21 rfl (lv_at hl 0 rfl) ?_
  refine cg_wit_told hx hb hts hown hK hP uw_2_189 dX10_countRows_22 ?_
  refine cg_told_beasts hx hb hts hown hK hP uw_1_182 dX10_countRows_25 ?_
  refine sy_if_ne (tgt := 33) hx hb dX10_countRows_28 (by decide) (by omega) (fun c_8 => ?_) (fun c_8 => ?_)
  · skip
    refine lv_aload_n hx hb dX10_countRows_33 rfl (lv_at hl 0 rfl) ?_
    refine cg_wit_told hx hb hts hown hK hP uw_2_189 dX10_countRows_34 ?_
    refine cg_told_brands hx hb hts hown hK hP uw_1_198 dX10_countRows_37 ?_
    refine lv_aload_n hx hb dX10_countRows_40 rfl (lv_at hl 0 rfl) ?_
    refine cg_wit_told hx hb hts hown hK hP uw_2_189 dX10_countRows_41 ?_
    refine cg_told_homes hx hb hts hown hK hP uw_1_205 dX10_countRows_44 ?_
    refine lv_iconst (v := mI 0) hx hb dX10_countRows_47 rfl ?_
    refine cl_told_homes hx hb hK hP dX10_countRows_48 (by omega) b_B_told_homes (fun z_9 ez_9 hz_9 => ?_)
    have tz_9 := tI_h g_T (by omega) ez_9
    refine cl_told_brands hx hb hK hP dX10_countRows_49 (by omega) b_B_told_brands (fun z_10 ez_10 hz_10 => ?_)
    have hz_10 := tI_b g_T (by omega) ez_10
    refine lv_istore_n (lv' := [(2, .int (mI z_10)), (0, .ref (a 52)), (1, .int (mI p0))]) hx hb dX10_countRows_50 rfl hl (by decide) rfl (fun ls hl => ?_)
    refine lv_iconst (v := mI 0) hx hb dX10_countRows_51 rfl ?_
    refine lv_istore_n (lv' := [(3, .int (mI 0)), (2, .int (mI z_10)), (0, .ref (a 52)), (1, .int (mI p0))]) hx hb dX10_countRows_52 rfl hl (by decide) rfl (fun ls hl => ?_)
    refine lv_iconst (v := mI 0) hx hb dX10_countRows_53 rfl ?_
    refine lv_istore (lv' := [(4, .int (mI 0)), (3, .int (mI 0)), (2, .int (mI z_10)), (0, .ref (a 52)), (1, .int (mI p0))]) hx hb dX10_countRows_54 hl (by decide) rfl (fun ls hl => ?_)
    refine sy_loop (I := fun n H locs g => ∃ (z_29231 : Int) (z_29232 : Int) (F_29233 : Nat → Int) (F_29234 : Nat → Int) (ls : Array Slot), (0 ≤ z_29231 ∧ z_29231 ≤ 6) ∧ (-2147483648 ≤ z_29232 ∧ z_29232 ≤ 2147483647) ∧ (bd (-2147483648) 2147483647 F_29233) ∧ (bd (-2147483648) 2147483647 F_29234) ∧ (6 - z_29231).toNat = n ∧ va_P D vwCl (cW k a q x_xo_lyingCount x_tape_length x_tape_next x_tape_kind x_tape_place x_tape_number x_tape_faultKind x_tape_faultPlace x_told_turns x_told_mirror x_told_night x_told_draw x_told_herds x_told_irons x_told_beasts x_told_linesTold x_tfo_steps x_tfo_units x_draft_turns x_draft_mirror x_draft_night x_draft_draw x_draft_herds x_draft_irons x_draft_beasts x_draft_linesTold x_dfo_steps x_dfo_units x_lat_placements x_smi_irons x_smi_aim x_his_here x_his_undoable x_his_redoable x_book_placedCount x_wit_count x_wit_time n_tape_name B_xo_lying B_tape_bytes B_told_brands B_told_ironMarks B_told_homes B_told_births B_tfo_kinds B_tfo_numbers B_tfo_stack B_tfo_facts B_draft_brands B_draft_ironMarks B_draft_homes B_draft_births B_dfo_kinds B_dfo_numbers B_dfo_stack B_dfo_facts B_lat_lowHalves B_lat_highHalves B_lat_ways B_smi_placedIrons B_smi_within B_smi_costs B_his_isKept B_book_norms B_book_above B_book_heights B_book_placedBrands B_bea_firstGains B_bea_otherGains B_wit_burnings B_wit_strokes B_wit_wasOn B_wit_toldAt B_wit_untoldAt F_2 F_3 F_29233 F_29234 Ps Pd G_tape_wordNames G_told_herdNames G_told_ironNames G_told_beastNames G_draft_herdNames G_draft_ironNames G_draft_beastNames Ph Po Pg ex) H ∧ va_S A s.heap H locs ∧ lv_has ls 8 [(4, .int (mI z_29231)), (3, .int (mI z_29232)), (2, .int (mI z_10)), (0, .ref (a 52)), (1, .int (mI p0))] ∧ g = F0 m 56 ls []) ?_ _ ⟨0, 0, F_5, F_7, _, by omega, by omega, bF_5, bF_7, rfl, hP, hS, lv_sub hl [0, 1, 2, 3, 4] rfl, rfl⟩
    intro n_29492 H locs g hI ih_29493
    obtain ⟨z_29231, z_29232, F_29233, F_29234, ls, h56_0, h56_1, bF_29233, bF_29234, mn_29492, hP, hS, hl, rfl⟩ := hI
    refine lv_iload hx hb dX10_countRows_56 (lv_at hl 0 rfl) ?_
    refine lv_aload_n hx hb dX10_countRows_58 rfl (lv_at hl 3 rfl) ?_
    refine cg_wit_smith hx hb hts hown hK hP uw_2_190 dX10_countRows_59 ?_
    refine g_i (cDt hD) hS hA (g_V (own := "HideReader$Witness") (As := []) (rest := [.int (mI z_29231)]) hx hb hml hown hts hK hP (cDt hD) (kc_X6_irons (l := l) (D := D) (k := k) h_x_smi_irons) ck_X6_irons iv_X6_irons uw_6_119 (cv_smi hK hP) rfl hl.1 rfl (Nat.le_of_ble_eq_true rfl) dX10_countRows_62 ⟨Nat.le_of_ble_eq_true rfl, Nat.le_of_ble_eq_true rfl⟩ ⟨Nat.le_of_ble_eq_true rfl, Nat.le_of_ble_eq_true rfl⟩) (fun r_29494 H locs hQ hS => ?_)
    obtain ⟨hq_r_29494, hP⟩ := hQ
    obtain rfl := hq_r_29494
    refine sy_icmp_ge (tgt := 149) hx hb dX10_countRows_65 (by decide) (by omega) (by omega) (fun c_29496 => ?_) (fun c_29496 => ?_)
    · skip
      refine lv_iload_n hx hb dX10_countRows_149 rfl (lv_at hl 1 rfl) ?_
      exact r_i hx hb hr hlocks dX10_countRows_150 hS ⟨F_2, F_3, F_29233, F_29234, by omega, bF_2, bF_3, bF_29233, bF_29234, hP⟩
    · skip
      refine lv_iconst (v := mI 0) hx hb dX10_countRows_68 rfl ?_
      refine lv_istore (lv' := [(5, .int (mI 0)), (4, .int (mI z_29231)), (3, .int (mI z_29232)), (2, .int (mI z_10)), (0, .ref (a 52)), (1, .int (mI p0))]) hx hb dX10_countRows_69 hl (by decide) rfl (fun ls hl => ?_)
      refine sy_loop (I := fun n H locs g => ∃ (z_29701 : Int) (z_29702 : Int) (F_29703 : Nat → Int) (F_29704 : Nat → Int) (ls : Array Slot), (0 ≤ z_29701 ∧ z_29701 ≤ 8) ∧ (-2147483648 ≤ z_29702 ∧ z_29702 ≤ 2147483647) ∧ (bd (-2147483648) 2147483647 F_29703) ∧ (bd (-2147483648) 2147483647 F_29704) ∧ (8 - z_29701).toNat = n ∧ va_P D vwCl (cW k a q x_xo_lyingCount x_tape_length x_tape_next x_tape_kind x_tape_place x_tape_number x_tape_faultKind x_tape_faultPlace x_told_turns x_told_mirror x_told_night x_told_draw x_told_herds x_told_irons x_told_beasts x_told_linesTold x_tfo_steps x_tfo_units x_draft_turns x_draft_mirror x_draft_night x_draft_draw x_draft_herds x_draft_irons x_draft_beasts x_draft_linesTold x_dfo_steps x_dfo_units x_lat_placements x_smi_irons x_smi_aim x_his_here x_his_undoable x_his_redoable x_book_placedCount x_wit_count x_wit_time n_tape_name B_xo_lying B_tape_bytes B_told_brands B_told_ironMarks B_told_homes B_told_births B_tfo_kinds B_tfo_numbers B_tfo_stack B_tfo_facts B_draft_brands B_draft_ironMarks B_draft_homes B_draft_births B_dfo_kinds B_dfo_numbers B_dfo_stack B_dfo_facts B_lat_lowHalves B_lat_highHalves B_lat_ways B_smi_placedIrons B_smi_within B_smi_costs B_his_isKept B_book_norms B_book_above B_book_heights B_book_placedBrands B_bea_firstGains B_bea_otherGains B_wit_burnings B_wit_strokes B_wit_wasOn B_wit_toldAt B_wit_untoldAt F_2 F_3 F_29703 F_29704 Ps Pd G_tape_wordNames G_told_herdNames G_told_ironNames G_told_beastNames G_draft_herdNames G_draft_ironNames G_draft_beastNames Ph Po Pg ex) H ∧ va_S A s.heap H locs ∧ lv_has ls 8 [(5, .int (mI z_29701)), (4, .int (mI z_29231)), (3, .int (mI z_29702)), (2, .int (mI z_10)), (0, .ref (a 52)), (1, .int (mI p0))] ∧ g = F0 m 71 ls []) ?_ _ ⟨0, z_29232, F_29233, F_29234, _, by omega, by omega, bF_29233, bF_29234, rfl, hP, hS, lv_sub hl [0, 1, 2, 3, 4, 5] rfl, rfl⟩
      intro n_29727 H locs g hI ih_29728
      obtain ⟨z_29701, z_29702, F_29703, F_29704, ls, h71_0, h71_1, bF_29703, bF_29704, mn_29727, hP, hS, hl, rfl⟩ := hI
      refine lv_iload hx hb dX10_countRows_71 (lv_at hl 0 rfl) ?_
      refine lv_aload_n hx hb dX10_countRows_73 rfl (lv_at hl 4 rfl) ?_
      refine cg_wit_smith hx hb hts hown hK hP uw_2_190 dX10_countRows_74 ?_
      refine g_i (cDt hD) hS hA (g_V (own := "HideReader$Witness") (As := []) (rest := [.int (mI z_29701)]) hx hb hml hown hts hK hP (cDt hD) (kc_X6_placements (l := l) (D := D) (k := k) h_x_lat_placements) ck_X6_placements iv_X6_placements uw_6_123 (cv_smi hK hP) rfl hl.1 rfl (Nat.le_of_ble_eq_true rfl) dX10_countRows_77 ⟨Nat.le_of_ble_eq_true rfl, Nat.le_of_ble_eq_true rfl⟩ ⟨Nat.le_of_ble_eq_true rfl, Nat.le_of_ble_eq_true rfl⟩) (fun r_29729 H locs hQ hS => ?_)
      obtain ⟨hq_r_29729, hP⟩ := hQ
      obtain rfl := hq_r_29729
      refine sy_icmp_ge (tgt := 143) hx hb dX10_countRows_80 (by decide) (by omega) (by omega) (fun c_29731 => ?_) (fun c_29731 => ?_)
      · skip
        refine lv_iinc (v := mI (z_29231 + 1)) (lv' := [(4, .int (mI (z_29231 + 1))), (5, .int (mI z_29701)), (3, .int (mI z_29702)), (2, .int (mI z_10)), (0, .ref (a 52)), (1, .int (mI p0))]) hx hb dX10_countRows_143 hl (k := 1) rfl (mI_ad rfl) (by decide) rfl (fun ls hl => ?_)
        refine lv_goto (tgt := 56) hx hb dX10_countRows_146 (by decide) ?_
        exact ih_29493 _ _ _ _ (by omega) ⟨(z_29231 + 1), z_29702, F_29703, F_29704, _, by omega, by omega, bF_29703, bF_29704, rfl, hP, hS, lv_sub hl [0, 2, 3, 4, 5] rfl, rfl⟩
      · skip
        refine lv_iload_n hx hb dX10_countRows_83 rfl (lv_at hl 3 rfl) ?_
        refine lv_aload_n hx hb dX10_countRows_84 rfl (lv_at hl 4 rfl) ?_
        refine cg_wit_smith hx hb hts hown hK hP uw_2_190 dX10_countRows_85 ?_
        refine lv_iload hx hb dX10_countRows_88 (lv_at hl 1 rfl) ?_
        refine lv_iload hx hb dX10_countRows_90 (lv_at hl 0 rfl) ?_
        refine g_i (cDt hD) hS hA (g_V (own := "HideReader$Witness") (As := [.int (mI z_29231), .int (mI z_29701)]) (rest := [.int (mI z_10)]) hx hb hml hown hts hK hP (cDt hD) (kc_X6_placedIron (l := l) (D := D) (k := k) (by omega) (by omega) b_B_smi_placedIrons) ck_X6_placedIron iv_X6_placedIron uw_6_127 (cv_smi hK hP) rfl hl.1 rfl (Nat.le_of_ble_eq_true rfl) dX10_countRows_92 ⟨Nat.le_of_ble_eq_true rfl, Nat.le_of_ble_eq_true rfl⟩ ⟨Nat.le_of_ble_eq_true rfl, Nat.le_of_ble_eq_true rfl⟩) (fun r_29732 H locs hQ hS => ?_)
        obtain ⟨hr_29732_0, hP⟩ := hQ
        refine sy_ior hx hb dX10_countRows_95 12 (by decide) 4096 (by decide) (by omega) (by omega) (fun z_29733 hz_29733 => ?_)
        refine lv_istore (lv' := [(6, .int (mI z_29733)), (5, .int (mI z_29701)), (4, .int (mI z_29231)), (3, .int (mI z_29702)), (2, .int (mI z_10)), (0, .ref (a 52)), (1, .int (mI p0))]) hx hb dX10_countRows_96 hl (by decide) rfl (fun ls hl => ?_)
        refine lv_aload_n hx hb dX10_countRows_98 rfl (lv_at hl 5 rfl) ?_
        refine lv_iload hx hb dX10_countRows_99 (lv_at hl 0 rfl) ?_
        refine lv_iconst (v := mI 0) hx hb dX10_countRows_101 rfl ?_
        refine g_i (cDt hD) hS hA (g_V (own := "HideReader$Witness") (As := [.int (mI z_29733), .int (mI 0)]) (rest := []) hx hb hml hown hts hK hP (cDt hD) (kc_X10_agrees (l := l) (D := D) (k := k) (by omega) (by decide) bF_2 bF_3) ck_X10_agrees iv_X10_agrees uw_6_128 (cv_wit hK hP) rfl hl.1 rfl (Nat.le_of_ble_eq_true rfl) dX10_countRows_102 ⟨Nat.le_of_ble_eq_true rfl, Nat.le_of_ble_eq_true rfl⟩ ⟨Nat.le_of_ble_eq_true rfl, Nat.le_of_ble_eq_true rfl⟩) (fun r_29734 H locs hQ hS => ?_)
        obtain ⟨hq_r_29734, hP⟩ := hQ
        rcases hq_r_29734 with rfl | rfl
        · skip
          refine sy_if_eq (tgt := 117) hx hb dX10_countRows_105 (by decide) (by decide) (fun c_29738 => ?_) (fun c9 => absurd c9 (by decide))
          refine lv_iconst (v := mI 0) hx hb dX10_countRows_117 rfl ?_
          refine lv_istore (lv' := [(7, .int (mI 0)), (6, .int (mI z_29733)), (5, .int (mI z_29701)), (4, .int (mI z_29231)), (3, .int (mI z_29702)), (2, .int (mI z_10)), (0, .ref (a 52)), (1, .int (mI p0))]) hx hb dX10_countRows_118 hl (by decide) rfl (fun ls hl => ?_)
          refine lv_aload_n hx hb dX10_countRows_120 rfl (lv_at hl 6 rfl) ?_
          refine cg_wit_firstCounts hx hb hts hown hK hP uw_2_200 dX10_countRows_121 ?_
          refine lv_iload hx hb dX10_countRows_124 (lv_at hl 3 rfl) ?_
          refine lv_dup2_11 hx hb dX10_countRows_126 rfl rfl ?_
          refine cl_wit_firstCounts hx hb hK hP dX10_countRows_127 (by omega) bF_29703 (fun z_29739 _ hz_29739 => ?_)
          refine lv_iload hx hb dX10_countRows_128 (lv_at hl 0 rfl) ?_
          refine sy_iadd hx hb dX10_countRows_130 z_29739 (by omega) ?_
          refine cs_wit_firstCounts hx hb hK hP hD hS dX10_countRows_131 (by omega) bF_29703 (by omega) (fun F_29740 H locs _ bF_29740 hP hS => ?_)
          refine lv_iload_n hx hb dX10_countRows_132 rfl (lv_at hl 4 rfl) ?_
          refine lv_iload hx hb dX10_countRows_133 (lv_at hl 0 rfl) ?_
          refine sy_iadd hx hb dX10_countRows_135 z_29702 (by omega) ?_
          refine lv_istore_n (lv' := [(3, .int (mI z_29702)), (7, .int (mI 0)), (6, .int (mI z_29733)), (5, .int (mI z_29701)), (4, .int (mI z_29231)), (2, .int (mI z_10)), (0, .ref (a 52)), (1, .int (mI p0))]) hx hb dX10_countRows_136 rfl hl (by decide) rfl (fun ls hl => ?_)
          refine lv_iinc (v := mI (z_29701 + 1)) (lv' := [(5, .int (mI (z_29701 + 1))), (3, .int (mI z_29702)), (7, .int (mI 0)), (6, .int (mI z_29733)), (4, .int (mI z_29231)), (2, .int (mI z_10)), (0, .ref (a 52)), (1, .int (mI p0))]) hx hb dX10_countRows_137 hl (k := 3) rfl (mI_ad rfl) (by decide) rfl (fun ls hl => ?_)
          refine lv_goto (tgt := 71) hx hb dX10_countRows_140 (by decide) ?_
          exact ih_29728 _ _ _ _ (by omega) ⟨(z_29701 + 1), z_29702, F_29740, F_29704, _, by omega, by omega, bF_29740, bF_29704, rfl, hP, hS, lv_sub hl [0, 4, 1, 5, 6, 7] rfl, rfl⟩
        · skip
          refine sy_if_eq (tgt := 117) hx hb dX10_countRows_105 (by decide) (by decide) (fun c9 => absurd c9 (by decide)) (fun c_29744 => ?_)
          refine lv_aload_n hx hb dX10_countRows_108 rfl (lv_at hl 5 rfl) ?_
          refine lv_iload hx hb dX10_countRows_109 (lv_at hl 0 rfl) ?_
          refine g_i (cDt hD) hS hA (g_V (own := "HideReader$Witness") (As := [.int (mI z_29733)]) (rest := []) hx hb hml hown hts hK hP (cDt hD) (kc_X10_countSecond (l := l) (D := D) (k := k) (by omega) h_x_lat_placements h_x_smi_irons b_B_smi_placedIrons bF_2 bF_3 bF_29704) ck_X10_countSecond iv_X10_countSecond uw_6_132 (cv_wit hK hP) rfl hl.1 rfl (Nat.le_of_ble_eq_true rfl) dX10_countRows_111 ⟨Nat.le_of_ble_eq_true rfl, Nat.le_of_ble_eq_true rfl⟩ ⟨Nat.le_of_ble_eq_true rfl, Nat.le_of_ble_eq_true rfl⟩) (fun r_29745 H locs hQ hS => ?_)
          obtain ⟨F_29746, hr_29745_0, bF_29746, hP⟩ := hQ
          refine lv_goto (tgt := 118) hx hb dX10_countRows_114 (by decide) ?_
          refine lv_istore (lv' := [(7, .int (mI r_29745)), (6, .int (mI z_29733)), (5, .int (mI z_29701)), (4, .int (mI z_29231)), (3, .int (mI z_29702)), (2, .int (mI z_10)), (0, .ref (a 52)), (1, .int (mI p0))]) hx hb dX10_countRows_118 hl (by decide) rfl (fun ls hl => ?_)
          refine lv_aload_n hx hb dX10_countRows_120 rfl (lv_at hl 6 rfl) ?_
          refine cg_wit_firstCounts hx hb hts hown hK hP uw_2_200 dX10_countRows_121 ?_
          refine lv_iload hx hb dX10_countRows_124 (lv_at hl 3 rfl) ?_
          refine lv_dup2_11 hx hb dX10_countRows_126 rfl rfl ?_
          refine cl_wit_firstCounts hx hb hK hP dX10_countRows_127 (by omega) bF_29703 (fun z_29747 _ hz_29747 => ?_)
          refine lv_iload hx hb dX10_countRows_128 (lv_at hl 0 rfl) ?_
          refine sy_iadd hx hb dX10_countRows_130 (z_29747 + r_29745) rfl ?_
          refine sy_any (fun z_29748 hz_29748 => ?_)
          refine cs_wit_firstCounts hx hb hK hP hD hS dX10_countRows_131 (by omega) bF_29703 (by omega) (fun F_29749 H locs _ bF_29749 hP hS => ?_)
          refine lv_iload_n hx hb dX10_countRows_132 rfl (lv_at hl 4 rfl) ?_
          refine lv_iload hx hb dX10_countRows_133 (lv_at hl 0 rfl) ?_
          refine sy_iadd hx hb dX10_countRows_135 (z_29702 + r_29745) rfl ?_
          refine sy_any (fun z_29750 hz_29750 => ?_)
          refine lv_istore_n (lv' := [(3, .int (mI z_29750)), (7, .int (mI r_29745)), (6, .int (mI z_29733)), (5, .int (mI z_29701)), (4, .int (mI z_29231)), (2, .int (mI z_10)), (0, .ref (a 52)), (1, .int (mI p0))]) hx hb dX10_countRows_136 rfl hl (by decide) rfl (fun ls hl => ?_)
          refine lv_iinc (v := mI (z_29701 + 1)) (lv' := [(5, .int (mI (z_29701 + 1))), (3, .int (mI z_29750)), (7, .int (mI r_29745)), (6, .int (mI z_29733)), (4, .int (mI z_29231)), (2, .int (mI z_10)), (0, .ref (a 52)), (1, .int (mI p0))]) hx hb dX10_countRows_137 hl (k := 3) rfl (mI_ad rfl) (by decide) rfl (fun ls hl => ?_)
          refine lv_goto (tgt := 71) hx hb dX10_countRows_140 (by decide) ?_
          exact ih_29728 _ _ _ _ (by omega) ⟨(z_29701 + 1), z_29750, F_29749, F_29746, _, by omega, by omega, bF_29749, bF_29746, rfl, hP, hS, lv_sub hl [0, 4, 1, 5, 6, 7] rfl, rfl⟩
  · skip
    refine lv_iconst (v := mI 0) hx hb dX10_countRows_31 rfl ?_
    exact r_i hx hb hr hlocks dX10_countRows_32 hS ⟨F_2, F_3, F_5, F_7, by omega, bF_2, bF_3, bF_5, bF_7, hP⟩
set_option maxHeartbeats 4000000 in
set_option maxRecDepth 100000 in
theorem kc_X10_sureIron {p0 p1 : Int} (hp0 : 1 ≤ p0 ∧ p0 ≤ 2) (hp1 : -2147483648 ≤ p1 ∧ p1 ≤ 2147483647) (h_x_told_herds : 0 ≤ x_told_herds ∧ x_told_herds ≤ 8) (h_x_told_beasts : 0 ≤ x_told_beasts ∧ x_told_beasts ≤ 8) (h_x_lat_placements : 1 ≤ x_lat_placements ∧ x_lat_placements ≤ 8) (h_x_smi_irons : 0 ≤ x_smi_irons ∧ x_smi_irons ≤ 6) (h_x_wit_count : 0 ≤ x_wit_count ∧ x_wit_count ≤ 30) (b_B_told_brands : bd (-2147483648) 2147483647 B_told_brands) (b_B_told_homes : bd (0) 7 B_told_homes) (b_B_smi_placedIrons : bd (0) 4095 B_smi_placedIrons) (b_B_wit_burnings : bd (0) 2 B_wit_burnings) (b_B_wit_strokes : bd (0) 11 B_wit_strokes) (b_B_wit_wasOn : bd (0) 1 B_wit_wasOn) (b_B_wit_toldAt : bd (-2147483648) 2147483647 B_wit_toldAt) (b_B_wit_untoldAt : bd (-2147483648) 2147483647 B_wit_untoldAt) (b_B_wit_on : bd (-2147483648) 2147483647 B_wit_on) (b_B_wit_off : bd (-2147483648) 2147483647 B_wit_off) (b_B_wit_firstCounts : bd (-2147483648) 2147483647 B_wit_firstCounts) (b_B_wit_secondCounts : bd (-2147483648) 2147483647 B_wit_secondCounts) (g_T : tI x_told_herds x_told_beasts B_told_brands B_told_homes) (g_U : bU x_wit_count B_wit_burnings) : MetG l D k yX10_sureIron cX10_sureIron 6 (some .int) 4 [.ref (a 52), .int (mI p0), .int (mI p1)] (cW k a q x_xo_lyingCount x_tape_length x_tape_next x_tape_kind x_tape_place x_tape_number x_tape_faultKind x_tape_faultPlace x_told_turns x_told_mirror x_told_night x_told_draw x_told_herds x_told_irons x_told_beasts x_told_linesTold x_tfo_steps x_tfo_units x_draft_turns x_draft_mirror x_draft_night x_draft_draw x_draft_herds x_draft_irons x_draft_beasts x_draft_linesTold x_dfo_steps x_dfo_units x_lat_placements x_smi_irons x_smi_aim x_his_here x_his_undoable x_his_redoable x_book_placedCount x_wit_count x_wit_time n_tape_name B_xo_lying B_tape_bytes B_told_brands B_told_ironMarks B_told_homes B_told_births B_tfo_kinds B_tfo_numbers B_tfo_stack B_tfo_facts B_draft_brands B_draft_ironMarks B_draft_homes B_draft_births B_dfo_kinds B_dfo_numbers B_dfo_stack B_dfo_facts B_lat_lowHalves B_lat_highHalves B_lat_ways B_smi_placedIrons B_smi_within B_smi_costs B_his_isKept B_book_norms B_book_above B_book_heights B_book_placedBrands B_bea_firstGains B_bea_otherGains B_wit_burnings B_wit_strokes B_wit_wasOn B_wit_toldAt B_wit_untoldAt B_wit_on B_wit_off B_wit_firstCounts B_wit_secondCounts Ps Pd G_tape_wordNames G_told_herdNames G_told_ironNames G_told_beastNames G_draft_herdNames G_draft_ironNames G_draft_beastNames Ph Po Pg ex) (qGi (fun r0 H => ∃ (F_wit_on : Nat → Int) (F_wit_off : Nat → Int) (F_wit_firstCounts : Nat → Int) (F_wit_secondCounts : Nat → Int), (-2 ≤ r0 ∧ r0 ≤ 5) ∧ (bd (-2147483648) 2147483647 F_wit_on) ∧ (bd (-2147483648) 2147483647 F_wit_off) ∧ (bd (-2147483648) 2147483647 F_wit_firstCounts) ∧ (bd (-2147483648) 2147483647 F_wit_secondCounts) ∧ va_P D vwCl (cW k a q x_xo_lyingCount x_tape_length x_tape_next x_tape_kind x_tape_place x_tape_number x_tape_faultKind x_tape_faultPlace x_told_turns x_told_mirror x_told_night x_told_draw x_told_herds x_told_irons x_told_beasts x_told_linesTold x_tfo_steps x_tfo_units x_draft_turns x_draft_mirror x_draft_night x_draft_draw x_draft_herds x_draft_irons x_draft_beasts x_draft_linesTold x_dfo_steps x_dfo_units x_lat_placements x_smi_irons x_smi_aim x_his_here x_his_undoable x_his_redoable x_book_placedCount x_wit_count x_wit_time n_tape_name B_xo_lying B_tape_bytes B_told_brands B_told_ironMarks B_told_homes B_told_births B_tfo_kinds B_tfo_numbers B_tfo_stack B_tfo_facts B_draft_brands B_draft_ironMarks B_draft_homes B_draft_births B_dfo_kinds B_dfo_numbers B_dfo_stack B_dfo_facts B_lat_lowHalves B_lat_highHalves B_lat_ways B_smi_placedIrons B_smi_within B_smi_costs B_his_isKept B_book_norms B_book_above B_book_heights B_book_placedBrands B_bea_firstGains B_bea_otherGains B_wit_burnings B_wit_strokes B_wit_wasOn B_wit_toldAt B_wit_untoldAt F_wit_on F_wit_off F_wit_firstCounts F_wit_secondCounts Ps Pd G_tape_wordNames G_told_herdNames G_told_ironNames G_told_beastNames G_draft_herdNames G_draft_ironNames G_draft_beastNames Ph Po Pg ex) H)) := by
  refine metG_of 2 ck_X10_sureIron (Nat.le_of_ble_eq_true rfl) cMap (fun p e s m args below meth c A hx hb hml hr hlocks hown hts hK hD hA hP hS ls hl => ?_)
  have hown : s.vm.findClass "HideReader$Witness" = some m.cls := hown
  have hl : lv_has ls 6 [(0, .ref (a 52)), (1, .int (mI p0)), (2, .int (mI p1))] := hl
  refine lv_aload_n hx hb dX10_sureIron_0 rfl (lv_at hl 0 rfl) ?_
  refine lv_iload_n hx hb dX10_sureIron_1 rfl (lv_at hl 2 rfl) ?_
  refine g_i (cDt hD) hS hA (g_V (own := "HideReader$Witness") (As := [.int (mI p1)]) (rest := []) hx hb hml hown hts hK hP (cDt hD) (kc_X10_countRows (l := l) (D := D) (k := k) (by omega) h_x_told_herds h_x_told_beasts h_x_lat_placements h_x_smi_irons h_x_wit_count b_B_told_brands b_B_told_homes b_B_smi_placedIrons b_B_wit_burnings b_B_wit_strokes b_B_wit_wasOn b_B_wit_toldAt b_B_wit_untoldAt b_B_wit_on b_B_wit_off b_B_wit_firstCounts b_B_wit_secondCounts g_T g_U) ck_X10_countRows iv_X10_countRows uw_6_144 (cv_wit hK hP) rfl hl.1 rfl (Nat.le_of_ble_eq_true rfl) dX10_sureIron_2 ⟨Nat.le_of_ble_eq_true rfl, Nat.le_of_ble_eq_true rfl⟩ ⟨Nat.le_of_ble_eq_true rfl, Nat.le_of_ble_eq_true rfl⟩) (fun r_1 H locs hQ hS => ?_)
  obtain ⟨F_2, F_3, F_4, F_5, hr_1_0, bF_2, bF_3, bF_4, bF_5, hP⟩ := hQ
  refine lv_istore_n (lv' := [(3, .int (mI r_1)), (0, .ref (a 52)), (1, .int (mI p0)), (2, .int (mI p1))]) hx hb dX10_sureIron_5 rfl hl (by decide) rfl (fun ls hl => ?_)
  refine lv_iload_n hx hb dX10_sureIron_6 rfl (lv_at hl 2 rfl) ?_
  refine lv_iconst (v := mI 1) hx hb dX10_sureIron_7 rfl ?_
  refine sy_icmp_ne (tgt := 18) hx hb dX10_sureIron_8 (by decide) (by omega) (by decide) (fun c_7 => ?_) (fun c_7 => ?_)
  · skip
    refine lv_aload_n hx hb dX10_sureIron_18 rfl (lv_at hl 1 rfl) ?_
    refine cg_wit_secondCounts hx hb hts hown hK hP uw_2_201 dX10_sureIron_19 ?_
    refine lv_astore (lv' := [(4, .ref (a 61)), (3, .int (mI r_1)), (0, .ref (a 52)), (1, .int (mI p0)), (2, .int (mI p1))]) hx hb dX10_sureIron_22 hl (by decide) rfl (fun ls hl => ?_)
    refine lv_iload_n hx hb dX10_sureIron_24 rfl (lv_at hl 1 rfl) ?_
    refine sy_if_ne (tgt := 30) hx hb dX10_sureIron_25 (by decide) (by omega) (fun c_8 => ?_) (fun c_8 => ?_)
    · skip
      refine lv_iconst (v := mI 0) hx hb dX10_sureIron_30 rfl ?_
      refine lv_istore (lv' := [(5, .int (mI 0)), (4, .ref (a 61)), (3, .int (mI r_1)), (0, .ref (a 52)), (1, .int (mI p0)), (2, .int (mI p1))]) hx hb dX10_sureIron_31 hl (by decide) rfl (fun ls hl => ?_)
      refine sy_loop (I := fun n H locs g => ∃ (z_36 : Int) (ls : Array Slot), (0 ≤ z_36 ∧ z_36 ≤ 6) ∧ (6 - z_36).toNat = n ∧ va_P D vwCl (cW k a q x_xo_lyingCount x_tape_length x_tape_next x_tape_kind x_tape_place x_tape_number x_tape_faultKind x_tape_faultPlace x_told_turns x_told_mirror x_told_night x_told_draw x_told_herds x_told_irons x_told_beasts x_told_linesTold x_tfo_steps x_tfo_units x_draft_turns x_draft_mirror x_draft_night x_draft_draw x_draft_herds x_draft_irons x_draft_beasts x_draft_linesTold x_dfo_steps x_dfo_units x_lat_placements x_smi_irons x_smi_aim x_his_here x_his_undoable x_his_redoable x_book_placedCount x_wit_count x_wit_time n_tape_name B_xo_lying B_tape_bytes B_told_brands B_told_ironMarks B_told_homes B_told_births B_tfo_kinds B_tfo_numbers B_tfo_stack B_tfo_facts B_draft_brands B_draft_ironMarks B_draft_homes B_draft_births B_dfo_kinds B_dfo_numbers B_dfo_stack B_dfo_facts B_lat_lowHalves B_lat_highHalves B_lat_ways B_smi_placedIrons B_smi_within B_smi_costs B_his_isKept B_book_norms B_book_above B_book_heights B_book_placedBrands B_bea_firstGains B_bea_otherGains B_wit_burnings B_wit_strokes B_wit_wasOn B_wit_toldAt B_wit_untoldAt F_2 F_3 F_4 F_5 Ps Pd G_tape_wordNames G_told_herdNames G_told_ironNames G_told_beastNames G_draft_herdNames G_draft_ironNames G_draft_beastNames Ph Po Pg ex) H ∧ va_S A s.heap H locs ∧ lv_has ls 6 [(5, .int (mI z_36)), (4, .ref (a 61)), (3, .int (mI r_1)), (0, .ref (a 52)), (1, .int (mI p0)), (2, .int (mI p1))] ∧ g = F0 m 33 ls []) ?_ _ ⟨0, _, by omega, rfl, hP, hS, lv_sub hl [0, 1, 2, 3, 4, 5] rfl, rfl⟩
      intro n_40 H locs g hI ih_41
      obtain ⟨z_36, ls, h33_0, mn_40, hP, hS, hl, rfl⟩ := hI
      refine lv_iload hx hb dX10_sureIron_33 (lv_at hl 0 rfl) ?_
      refine lv_bipush (v := mI 6) hx hb dX10_sureIron_35 (by decide) ?_
      refine sy_icmp_ge (tgt := 58) hx hb dX10_sureIron_37 (by decide) (by omega) (by decide) (fun c_42 => ?_) (fun c_42 => ?_)
      · skip
        refine lv_bipush (v := mI (-2)) hx hb dX10_sureIron_58 (by decide) ?_
        exact r_i hx hb hr hlocks dX10_sureIron_60 hS ⟨F_2, F_3, F_4, F_5, by omega, bF_2, bF_3, bF_4, bF_5, hP⟩
      · skip
        refine lv_aload hx hb dX10_sureIron_40 (lv_at hl 1 rfl) ?_
        refine lv_iload hx hb dX10_sureIron_42 (lv_at hl 0 rfl) ?_
        refine cl_wit_secondCounts hx hb hK hP dX10_sureIron_44 (by omega) bF_5 (fun z_43 _ hz_43 => ?_)
        refine lv_iload_n hx hb dX10_sureIron_45 rfl (lv_at hl 2 rfl) ?_
        refine sy_icmp_ne (tgt := 52) hx hb dX10_sureIron_46 (by decide) (by omega) (by omega) (fun c_44 => ?_) (fun c_44 => ?_)
        · skip
          refine lv_iinc (v := mI (z_36 + 1)) (lv' := [(5, .int (mI (z_36 + 1))), (4, .ref (a 61)), (3, .int (mI r_1)), (0, .ref (a 52)), (1, .int (mI p0)), (2, .int (mI p1))]) hx hb dX10_sureIron_52 hl (k := 0) rfl (mI_ad rfl) (by decide) rfl (fun ls hl => ?_)
          refine lv_goto (tgt := 33) hx hb dX10_sureIron_55 (by decide) ?_
          exact ih_41 _ _ _ _ (by omega) ⟨(z_36 + 1), _, by omega, rfl, hP, hS, lv_sub hl [0, 1, 2, 3, 4, 5] rfl, rfl⟩
        · skip
          refine lv_iload hx hb dX10_sureIron_49 (lv_at hl 0 rfl) ?_
          exact r_i hx hb hr hlocks dX10_sureIron_51 hS ⟨F_2, F_3, F_4, F_5, by omega, bF_2, bF_3, bF_4, bF_5, hP⟩
    · skip
      refine lv_iconst (v := mI (-1)) hx hb dX10_sureIron_28 rfl ?_
      exact r_i hx hb hr hlocks dX10_sureIron_29 hS ⟨F_2, F_3, F_4, F_5, by omega, bF_2, bF_3, bF_4, bF_5, hP⟩
  · skip
    refine lv_aload_n hx hb dX10_sureIron_11 rfl (lv_at hl 1 rfl) ?_
    refine cg_wit_firstCounts hx hb hts hown hK hP uw_2_200 dX10_sureIron_12 ?_
    refine lv_goto (tgt := 22) hx hb dX10_sureIron_15 (by decide) ?_
    refine lv_astore (lv' := [(4, .ref (a 60)), (3, .int (mI r_1)), (0, .ref (a 52)), (1, .int (mI p0)), (2, .int (mI p1))]) hx hb dX10_sureIron_22 hl (by decide) rfl (fun ls hl => ?_)
    refine lv_iload_n hx hb dX10_sureIron_24 rfl (lv_at hl 1 rfl) ?_
    refine sy_if_ne (tgt := 30) hx hb dX10_sureIron_25 (by decide) (by omega) (fun c_45 => ?_) (fun c_45 => ?_)
    · skip
      refine lv_iconst (v := mI 0) hx hb dX10_sureIron_30 rfl ?_
      refine lv_istore (lv' := [(5, .int (mI 0)), (4, .ref (a 60)), (3, .int (mI r_1)), (0, .ref (a 52)), (1, .int (mI p0)), (2, .int (mI p1))]) hx hb dX10_sureIron_31 hl (by decide) rfl (fun ls hl => ?_)
      refine sy_loop (I := fun n H locs g => ∃ (z_73 : Int) (ls : Array Slot), (0 ≤ z_73 ∧ z_73 ≤ 6) ∧ (6 - z_73).toNat = n ∧ va_P D vwCl (cW k a q x_xo_lyingCount x_tape_length x_tape_next x_tape_kind x_tape_place x_tape_number x_tape_faultKind x_tape_faultPlace x_told_turns x_told_mirror x_told_night x_told_draw x_told_herds x_told_irons x_told_beasts x_told_linesTold x_tfo_steps x_tfo_units x_draft_turns x_draft_mirror x_draft_night x_draft_draw x_draft_herds x_draft_irons x_draft_beasts x_draft_linesTold x_dfo_steps x_dfo_units x_lat_placements x_smi_irons x_smi_aim x_his_here x_his_undoable x_his_redoable x_book_placedCount x_wit_count x_wit_time n_tape_name B_xo_lying B_tape_bytes B_told_brands B_told_ironMarks B_told_homes B_told_births B_tfo_kinds B_tfo_numbers B_tfo_stack B_tfo_facts B_draft_brands B_draft_ironMarks B_draft_homes B_draft_births B_dfo_kinds B_dfo_numbers B_dfo_stack B_dfo_facts B_lat_lowHalves B_lat_highHalves B_lat_ways B_smi_placedIrons B_smi_within B_smi_costs B_his_isKept B_book_norms B_book_above B_book_heights B_book_placedBrands B_bea_firstGains B_bea_otherGains B_wit_burnings B_wit_strokes B_wit_wasOn B_wit_toldAt B_wit_untoldAt F_2 F_3 F_4 F_5 Ps Pd G_tape_wordNames G_told_herdNames G_told_ironNames G_told_beastNames G_draft_herdNames G_draft_ironNames G_draft_beastNames Ph Po Pg ex) H ∧ va_S A s.heap H locs ∧ lv_has ls 6 [(5, .int (mI z_73)), (4, .ref (a 60)), (3, .int (mI r_1)), (0, .ref (a 52)), (1, .int (mI p0)), (2, .int (mI p1))] ∧ g = F0 m 33 ls []) ?_ _ ⟨0, _, by omega, rfl, hP, hS, lv_sub hl [0, 1, 2, 3, 4, 5] rfl, rfl⟩
      intro n_77 H locs g hI ih_78
      obtain ⟨z_73, ls, h33_0, mn_77, hP, hS, hl, rfl⟩ := hI
      refine lv_iload hx hb dX10_sureIron_33 (lv_at hl 0 rfl) ?_
      refine lv_bipush (v := mI 6) hx hb dX10_sureIron_35 (by decide) ?_
      refine sy_icmp_ge (tgt := 58) hx hb dX10_sureIron_37 (by decide) (by omega) (by decide) (fun c_79 => ?_) (fun c_79 => ?_)
      · skip
        refine lv_bipush (v := mI (-2)) hx hb dX10_sureIron_58 (by decide) ?_
        exact r_i hx hb hr hlocks dX10_sureIron_60 hS ⟨F_2, F_3, F_4, F_5, by omega, bF_2, bF_3, bF_4, bF_5, hP⟩
      · skip
        refine lv_aload hx hb dX10_sureIron_40 (lv_at hl 1 rfl) ?_
        refine lv_iload hx hb dX10_sureIron_42 (lv_at hl 0 rfl) ?_
        refine cl_wit_firstCounts hx hb hK hP dX10_sureIron_44 (by omega) bF_4 (fun z_80 _ hz_80 => ?_)
        refine lv_iload_n hx hb dX10_sureIron_45 rfl (lv_at hl 2 rfl) ?_
        refine sy_icmp_ne (tgt := 52) hx hb dX10_sureIron_46 (by decide) (by omega) (by omega) (fun c_81 => ?_) (fun c_81 => ?_)
        · skip
          refine lv_iinc (v := mI (z_73 + 1)) (lv' := [(5, .int (mI (z_73 + 1))), (4, .ref (a 60)), (3, .int (mI r_1)), (0, .ref (a 52)), (1, .int (mI p0)), (2, .int (mI p1))]) hx hb dX10_sureIron_52 hl (k := 0) rfl (mI_ad rfl) (by decide) rfl (fun ls hl => ?_)
          refine lv_goto (tgt := 33) hx hb dX10_sureIron_55 (by decide) ?_
          exact ih_78 _ _ _ _ (by omega) ⟨(z_73 + 1), _, by omega, rfl, hP, hS, lv_sub hl [0, 1, 2, 3, 4, 5] rfl, rfl⟩
        · skip
          refine lv_iload hx hb dX10_sureIron_49 (lv_at hl 0 rfl) ?_
          exact r_i hx hb hr hlocks dX10_sureIron_51 hS ⟨F_2, F_3, F_4, F_5, by omega, bF_2, bF_3, bF_4, bF_5, hP⟩
    · skip
      refine lv_iconst (v := mI (-1)) hx hb dX10_sureIron_28 rfl ?_
      exact r_i hx hb hr hlocks dX10_sureIron_29 hS ⟨F_2, F_3, F_4, F_5, by omega, bF_2, bF_3, bF_4, bF_5, hP⟩
set_option maxHeartbeats 4000000 in
set_option maxRecDepth 100000 in
theorem kc_X10_mostLeft {p0 : Int} (hp0 : 1 ≤ p0 ∧ p0 ≤ 2) (b_B_wit_firstCounts : bd (-2147483648) 2147483647 B_wit_firstCounts) (b_B_wit_secondCounts : bd (-2147483648) 2147483647 B_wit_secondCounts) : MetG l D k yX10_mostLeft cX10_mostLeft 5 (some .int) 1 [.ref (a 52), .int (mI p0)] (cW k a q x_xo_lyingCount x_tape_length x_tape_next x_tape_kind x_tape_place x_tape_number x_tape_faultKind x_tape_faultPlace x_told_turns x_told_mirror x_told_night x_told_draw x_told_herds x_told_irons x_told_beasts x_told_linesTold x_tfo_steps x_tfo_units x_draft_turns x_draft_mirror x_draft_night x_draft_draw x_draft_herds x_draft_irons x_draft_beasts x_draft_linesTold x_dfo_steps x_dfo_units x_lat_placements x_smi_irons x_smi_aim x_his_here x_his_undoable x_his_redoable x_book_placedCount x_wit_count x_wit_time n_tape_name B_xo_lying B_tape_bytes B_told_brands B_told_ironMarks B_told_homes B_told_births B_tfo_kinds B_tfo_numbers B_tfo_stack B_tfo_facts B_draft_brands B_draft_ironMarks B_draft_homes B_draft_births B_dfo_kinds B_dfo_numbers B_dfo_stack B_dfo_facts B_lat_lowHalves B_lat_highHalves B_lat_ways B_smi_placedIrons B_smi_within B_smi_costs B_his_isKept B_book_norms B_book_above B_book_heights B_book_placedBrands B_bea_firstGains B_bea_otherGains B_wit_burnings B_wit_strokes B_wit_wasOn B_wit_toldAt B_wit_untoldAt B_wit_on B_wit_off B_wit_firstCounts B_wit_secondCounts Ps Pd G_tape_wordNames G_told_herdNames G_told_ironNames G_told_beastNames G_draft_herdNames G_draft_ironNames G_draft_beastNames Ph Po Pg ex) (qGi (fun r0 H => (0 ≤ r0 ∧ r0 ≤ 2147483647) ∧ va_P D vwCl (cW k a q x_xo_lyingCount x_tape_length x_tape_next x_tape_kind x_tape_place x_tape_number x_tape_faultKind x_tape_faultPlace x_told_turns x_told_mirror x_told_night x_told_draw x_told_herds x_told_irons x_told_beasts x_told_linesTold x_tfo_steps x_tfo_units x_draft_turns x_draft_mirror x_draft_night x_draft_draw x_draft_herds x_draft_irons x_draft_beasts x_draft_linesTold x_dfo_steps x_dfo_units x_lat_placements x_smi_irons x_smi_aim x_his_here x_his_undoable x_his_redoable x_book_placedCount x_wit_count x_wit_time n_tape_name B_xo_lying B_tape_bytes B_told_brands B_told_ironMarks B_told_homes B_told_births B_tfo_kinds B_tfo_numbers B_tfo_stack B_tfo_facts B_draft_brands B_draft_ironMarks B_draft_homes B_draft_births B_dfo_kinds B_dfo_numbers B_dfo_stack B_dfo_facts B_lat_lowHalves B_lat_highHalves B_lat_ways B_smi_placedIrons B_smi_within B_smi_costs B_his_isKept B_book_norms B_book_above B_book_heights B_book_placedBrands B_bea_firstGains B_bea_otherGains B_wit_burnings B_wit_strokes B_wit_wasOn B_wit_toldAt B_wit_untoldAt B_wit_on B_wit_off B_wit_firstCounts B_wit_secondCounts Ps Pd G_tape_wordNames G_told_herdNames G_told_ironNames G_told_beastNames G_draft_herdNames G_draft_ironNames G_draft_beastNames Ph Po Pg ex) H)) := by
  refine metG_of 1 ck_X10_mostLeft (Nat.le_of_ble_eq_true rfl) cMap (fun p e s m args below meth c A hx hb hml hr hlocks hown hts hK hD hA hP hS ls hl => ?_)
  have hown : s.vm.findClass "HideReader$Witness" = some m.cls := hown
  have hl : lv_has ls 5 [(0, .ref (a 52)), (1, .int (mI p0))] := hl
  refine lv_iload_n hx hb dX10_mostLeft_0 rfl (lv_at hl 1 rfl) ?_
  refine lv_iconst (v := mI 1) hx hb dX10_mostLeft_1 rfl ?_
  refine sy_icmp_ne (tgt := 12) hx hb dX10_mostLeft_2 (by decide) (by omega) (by decide) (fun c_2 => ?_) (fun c_2 => ?_)
  · skip
    refine lv_aload_n hx hb dX10_mostLeft_12 rfl (lv_at hl 0 rfl) ?_
    refine cg_wit_secondCounts hx hb hts hown hK hP uw_2_201 dX10_mostLeft_13 ?_
    refine lv_astore_n (lv' := [(2, .ref (a 61)), (0, .ref (a 52)), (1, .int (mI p0))]) hx hb dX10_mostLeft_16 rfl hl (by decide) rfl (fun ls hl => ?_)
    refine lv_iconst (v := mI 0) hx hb dX10_mostLeft_17 rfl ?_
    refine lv_istore_n (lv' := [(3, .int (mI 0)), (2, .ref (a 61)), (0, .ref (a 52)), (1, .int (mI p0))]) hx hb dX10_mostLeft_18 rfl hl (by decide) rfl (fun ls hl => ?_)
    refine lv_iconst (v := mI 0) hx hb dX10_mostLeft_19 rfl ?_
    refine lv_istore (lv' := [(4, .int (mI 0)), (3, .int (mI 0)), (2, .ref (a 61)), (0, .ref (a 52)), (1, .int (mI p0))]) hx hb dX10_mostLeft_20 hl (by decide) rfl (fun ls hl => ?_)
    refine sy_loop (I := fun n H locs g => ∃ (z_196 : Int) (z_197 : Int) (ls : Array Slot), (0 ≤ z_196 ∧ z_196 ≤ 6) ∧ (0 ≤ z_197 ∧ z_197 ≤ 2147483647) ∧ (6 - z_196).toNat = n ∧ va_P D vwCl (cW k a q x_xo_lyingCount x_tape_length x_tape_next x_tape_kind x_tape_place x_tape_number x_tape_faultKind x_tape_faultPlace x_told_turns x_told_mirror x_told_night x_told_draw x_told_herds x_told_irons x_told_beasts x_told_linesTold x_tfo_steps x_tfo_units x_draft_turns x_draft_mirror x_draft_night x_draft_draw x_draft_herds x_draft_irons x_draft_beasts x_draft_linesTold x_dfo_steps x_dfo_units x_lat_placements x_smi_irons x_smi_aim x_his_here x_his_undoable x_his_redoable x_book_placedCount x_wit_count x_wit_time n_tape_name B_xo_lying B_tape_bytes B_told_brands B_told_ironMarks B_told_homes B_told_births B_tfo_kinds B_tfo_numbers B_tfo_stack B_tfo_facts B_draft_brands B_draft_ironMarks B_draft_homes B_draft_births B_dfo_kinds B_dfo_numbers B_dfo_stack B_dfo_facts B_lat_lowHalves B_lat_highHalves B_lat_ways B_smi_placedIrons B_smi_within B_smi_costs B_his_isKept B_book_norms B_book_above B_book_heights B_book_placedBrands B_bea_firstGains B_bea_otherGains B_wit_burnings B_wit_strokes B_wit_wasOn B_wit_toldAt B_wit_untoldAt B_wit_on B_wit_off B_wit_firstCounts B_wit_secondCounts Ps Pd G_tape_wordNames G_told_herdNames G_told_ironNames G_told_beastNames G_draft_herdNames G_draft_ironNames G_draft_beastNames Ph Po Pg ex) H ∧ va_S A s.heap H locs ∧ lv_has ls 5 [(4, .int (mI z_196)), (3, .int (mI z_197)), (2, .ref (a 61)), (0, .ref (a 52)), (1, .int (mI p0))] ∧ g = F0 m 22 ls []) ?_ _ ⟨0, 0, _, by omega, by omega, rfl, hP, hS, lv_sub hl [0, 1, 2, 3, 4] rfl, rfl⟩
    intro n_201 H locs g hI ih_202
    obtain ⟨z_196, z_197, ls, h22_0, h22_1, mn_201, hP, hS, hl, rfl⟩ := hI
    refine lv_iload hx hb dX10_mostLeft_22 (lv_at hl 0 rfl) ?_
    refine lv_bipush (v := mI 6) hx hb dX10_mostLeft_24 (by decide) ?_
    refine sy_icmp_ge (tgt := 44) hx hb dX10_mostLeft_26 (by decide) (by omega) (by decide) (fun c_203 => ?_) (fun c_203 => ?_)
    · skip
      refine lv_iload_n hx hb dX10_mostLeft_44 rfl (lv_at hl 1 rfl) ?_
      exact r_i hx hb hr hlocks dX10_mostLeft_45 hS ⟨by omega, hP⟩
    · skip
      refine lv_iload_n hx hb dX10_mostLeft_29 rfl (lv_at hl 1 rfl) ?_
      refine lv_aload_n hx hb dX10_mostLeft_30 rfl (lv_at hl 2 rfl) ?_
      refine lv_iload hx hb dX10_mostLeft_31 (lv_at hl 0 rfl) ?_
      refine cl_wit_secondCounts hx hb hK hP dX10_mostLeft_33 (by omega) b_B_wit_secondCounts (fun z_204 _ hz_204 => ?_)
      refine sy_max hx hb (hml.trans hl.1.symm) hown hts uw_6_153 (Nat.le_of_ble_eq_true rfl) (Nat.le_of_ble_eq_true rfl) (Nat.le_of_ble_eq_true rfl) (Nat.le_of_ble_eq_true rfl) dX10_mostLeft_34 (by omega) (by omega) (fun z_205 hz_205 => ?_)
      refine lv_istore_n (lv' := [(3, .int (mI z_205)), (4, .int (mI z_196)), (2, .ref (a 61)), (0, .ref (a 52)), (1, .int (mI p0))]) hx hb dX10_mostLeft_37 rfl hl (by decide) rfl (fun ls hl => ?_)
      refine lv_iinc (v := mI (z_196 + 1)) (lv' := [(4, .int (mI (z_196 + 1))), (3, .int (mI z_205)), (2, .ref (a 61)), (0, .ref (a 52)), (1, .int (mI p0))]) hx hb dX10_mostLeft_38 hl (k := 1) rfl (mI_ad rfl) (by decide) rfl (fun ls hl => ?_)
      refine lv_goto (tgt := 22) hx hb dX10_mostLeft_41 (by decide) ?_
      exact ih_202 _ _ _ _ (by omega) ⟨(z_196 + 1), z_205, _, by omega, by omega, rfl, hP, hS, lv_sub hl [0, 1, 2, 3, 4] rfl, rfl⟩
  · skip
    refine lv_aload_n hx hb dX10_mostLeft_5 rfl (lv_at hl 0 rfl) ?_
    refine cg_wit_firstCounts hx hb hts hown hK hP uw_2_200 dX10_mostLeft_6 ?_
    refine lv_goto (tgt := 16) hx hb dX10_mostLeft_9 (by decide) ?_
    refine lv_astore_n (lv' := [(2, .ref (a 60)), (0, .ref (a 52)), (1, .int (mI p0))]) hx hb dX10_mostLeft_16 rfl hl (by decide) rfl (fun ls hl => ?_)
    refine lv_iconst (v := mI 0) hx hb dX10_mostLeft_17 rfl ?_
    refine lv_istore_n (lv' := [(3, .int (mI 0)), (2, .ref (a 60)), (0, .ref (a 52)), (1, .int (mI p0))]) hx hb dX10_mostLeft_18 rfl hl (by decide) rfl (fun ls hl => ?_)
    refine lv_iconst (v := mI 0) hx hb dX10_mostLeft_19 rfl ?_
    refine lv_istore (lv' := [(4, .int (mI 0)), (3, .int (mI 0)), (2, .ref (a 60)), (0, .ref (a 52)), (1, .int (mI p0))]) hx hb dX10_mostLeft_20 hl (by decide) rfl (fun ls hl => ?_)
    refine sy_loop (I := fun n H locs g => ∃ (z_399 : Int) (z_400 : Int) (ls : Array Slot), (0 ≤ z_399 ∧ z_399 ≤ 6) ∧ (0 ≤ z_400 ∧ z_400 ≤ 2147483647) ∧ (6 - z_399).toNat = n ∧ va_P D vwCl (cW k a q x_xo_lyingCount x_tape_length x_tape_next x_tape_kind x_tape_place x_tape_number x_tape_faultKind x_tape_faultPlace x_told_turns x_told_mirror x_told_night x_told_draw x_told_herds x_told_irons x_told_beasts x_told_linesTold x_tfo_steps x_tfo_units x_draft_turns x_draft_mirror x_draft_night x_draft_draw x_draft_herds x_draft_irons x_draft_beasts x_draft_linesTold x_dfo_steps x_dfo_units x_lat_placements x_smi_irons x_smi_aim x_his_here x_his_undoable x_his_redoable x_book_placedCount x_wit_count x_wit_time n_tape_name B_xo_lying B_tape_bytes B_told_brands B_told_ironMarks B_told_homes B_told_births B_tfo_kinds B_tfo_numbers B_tfo_stack B_tfo_facts B_draft_brands B_draft_ironMarks B_draft_homes B_draft_births B_dfo_kinds B_dfo_numbers B_dfo_stack B_dfo_facts B_lat_lowHalves B_lat_highHalves B_lat_ways B_smi_placedIrons B_smi_within B_smi_costs B_his_isKept B_book_norms B_book_above B_book_heights B_book_placedBrands B_bea_firstGains B_bea_otherGains B_wit_burnings B_wit_strokes B_wit_wasOn B_wit_toldAt B_wit_untoldAt B_wit_on B_wit_off B_wit_firstCounts B_wit_secondCounts Ps Pd G_tape_wordNames G_told_herdNames G_told_ironNames G_told_beastNames G_draft_herdNames G_draft_ironNames G_draft_beastNames Ph Po Pg ex) H ∧ va_S A s.heap H locs ∧ lv_has ls 5 [(4, .int (mI z_399)), (3, .int (mI z_400)), (2, .ref (a 60)), (0, .ref (a 52)), (1, .int (mI p0))] ∧ g = F0 m 22 ls []) ?_ _ ⟨0, 0, _, by omega, by omega, rfl, hP, hS, lv_sub hl [0, 1, 2, 3, 4] rfl, rfl⟩
    intro n_404 H locs g hI ih_405
    obtain ⟨z_399, z_400, ls, h22_0, h22_1, mn_404, hP, hS, hl, rfl⟩ := hI
    refine lv_iload hx hb dX10_mostLeft_22 (lv_at hl 0 rfl) ?_
    refine lv_bipush (v := mI 6) hx hb dX10_mostLeft_24 (by decide) ?_
    refine sy_icmp_ge (tgt := 44) hx hb dX10_mostLeft_26 (by decide) (by omega) (by decide) (fun c_406 => ?_) (fun c_406 => ?_)
    · skip
      refine lv_iload_n hx hb dX10_mostLeft_44 rfl (lv_at hl 1 rfl) ?_
      exact r_i hx hb hr hlocks dX10_mostLeft_45 hS ⟨by omega, hP⟩
    · skip
      refine lv_iload_n hx hb dX10_mostLeft_29 rfl (lv_at hl 1 rfl) ?_
      refine lv_aload_n hx hb dX10_mostLeft_30 rfl (lv_at hl 2 rfl) ?_
      refine lv_iload hx hb dX10_mostLeft_31 (lv_at hl 0 rfl) ?_
      refine cl_wit_firstCounts hx hb hK hP dX10_mostLeft_33 (by omega) b_B_wit_firstCounts (fun z_407 _ hz_407 => ?_)
      refine sy_max hx hb (hml.trans hl.1.symm) hown hts uw_6_153 (Nat.le_of_ble_eq_true rfl) (Nat.le_of_ble_eq_true rfl) (Nat.le_of_ble_eq_true rfl) (Nat.le_of_ble_eq_true rfl) dX10_mostLeft_34 (by omega) (by omega) (fun z_408 hz_408 => ?_)
      refine lv_istore_n (lv' := [(3, .int (mI z_408)), (4, .int (mI z_399)), (2, .ref (a 60)), (0, .ref (a 52)), (1, .int (mI p0))]) hx hb dX10_mostLeft_37 rfl hl (by decide) rfl (fun ls hl => ?_)
      refine lv_iinc (v := mI (z_399 + 1)) (lv' := [(4, .int (mI (z_399 + 1))), (3, .int (mI z_408)), (2, .ref (a 60)), (0, .ref (a 52)), (1, .int (mI p0))]) hx hb dX10_mostLeft_38 hl (k := 1) rfl (mI_ad rfl) (by decide) rfl (fun ls hl => ?_)
      refine lv_goto (tgt := 22) hx hb dX10_mostLeft_41 (by decide) ?_
      exact ih_405 _ _ _ _ (by omega) ⟨(z_399 + 1), z_408, _, by omega, by omega, rfl, hP, hS, lv_sub hl [0, 1, 2, 3, 4] rfl, rfl⟩
set_option maxHeartbeats 4000000 in
set_option maxRecDepth 100000 in
theorem kc_X11_feed {p0 p1 p2 p3 p4 : Int} (hp0 : -2147483648 ≤ p0 ∧ p0 ≤ 2147483647) (hp1 : -2147483648 ≤ p1 ∧ p1 ≤ 2147483647) (hp2 : -2147483648 ≤ p2 ∧ p2 ≤ 2147483647) (hp3 : -2147483648 ≤ p3 ∧ p3 ≤ 2147483647) (hp4 : -2147483648 ≤ p4 ∧ p4 ≤ 2147483647) (h_x_tape_length : 0 ≤ x_tape_length ∧ x_tape_length ≤ 1600) (b_B_tape_bytes : bd (-128) 127 B_tape_bytes) : MetG l D k yX11_feed cX11_feed 6 (some .int) 1 [.ref (a 0), .int (mI p0), .int (mI p1), .int (mI p2), .int (mI p3), .int (mI p4)] (cW k a q x_xo_lyingCount x_tape_length x_tape_next x_tape_kind x_tape_place x_tape_number x_tape_faultKind x_tape_faultPlace x_told_turns x_told_mirror x_told_night x_told_draw x_told_herds x_told_irons x_told_beasts x_told_linesTold x_tfo_steps x_tfo_units x_draft_turns x_draft_mirror x_draft_night x_draft_draw x_draft_herds x_draft_irons x_draft_beasts x_draft_linesTold x_dfo_steps x_dfo_units x_lat_placements x_smi_irons x_smi_aim x_his_here x_his_undoable x_his_redoable x_book_placedCount x_wit_count x_wit_time n_tape_name B_xo_lying B_tape_bytes B_told_brands B_told_ironMarks B_told_homes B_told_births B_tfo_kinds B_tfo_numbers B_tfo_stack B_tfo_facts B_draft_brands B_draft_ironMarks B_draft_homes B_draft_births B_dfo_kinds B_dfo_numbers B_dfo_stack B_dfo_facts B_lat_lowHalves B_lat_highHalves B_lat_ways B_smi_placedIrons B_smi_within B_smi_costs B_his_isKept B_book_norms B_book_above B_book_heights B_book_placedBrands B_bea_firstGains B_bea_otherGains B_wit_burnings B_wit_strokes B_wit_wasOn B_wit_toldAt B_wit_untoldAt B_wit_on B_wit_off B_wit_firstCounts B_wit_secondCounts Ps Pd G_tape_wordNames G_told_herdNames G_told_ironNames G_told_beastNames G_draft_herdNames G_draft_ironNames G_draft_beastNames Ph Po Pg ex) (qGi (fun r0 H => ∃ (F_tape_bytes : Nat → Int) (y_tape_length : Int), (-1 ≤ r0 ∧ r0 ≤ 1600) ∧ (bd (-128) 127 F_tape_bytes) ∧ (0 ≤ y_tape_length ∧ y_tape_length ≤ 1600) ∧ va_P D vwCl (cW k a q x_xo_lyingCount y_tape_length x_tape_next x_tape_kind x_tape_place x_tape_number x_tape_faultKind x_tape_faultPlace x_told_turns x_told_mirror x_told_night x_told_draw x_told_herds x_told_irons x_told_beasts x_told_linesTold x_tfo_steps x_tfo_units x_draft_turns x_draft_mirror x_draft_night x_draft_draw x_draft_herds x_draft_irons x_draft_beasts x_draft_linesTold x_dfo_steps x_dfo_units x_lat_placements x_smi_irons x_smi_aim x_his_here x_his_undoable x_his_redoable x_book_placedCount x_wit_count x_wit_time n_tape_name B_xo_lying F_tape_bytes B_told_brands B_told_ironMarks B_told_homes B_told_births B_tfo_kinds B_tfo_numbers B_tfo_stack B_tfo_facts B_draft_brands B_draft_ironMarks B_draft_homes B_draft_births B_dfo_kinds B_dfo_numbers B_dfo_stack B_dfo_facts B_lat_lowHalves B_lat_highHalves B_lat_ways B_smi_placedIrons B_smi_within B_smi_costs B_his_isKept B_book_norms B_book_above B_book_heights B_book_placedBrands B_bea_firstGains B_bea_otherGains B_wit_burnings B_wit_strokes B_wit_wasOn B_wit_toldAt B_wit_untoldAt B_wit_on B_wit_off B_wit_firstCounts B_wit_secondCounts Ps Pd G_tape_wordNames G_told_herdNames G_told_ironNames G_told_beastNames G_draft_herdNames G_draft_ironNames G_draft_beastNames Ph Po Pg ex) H)) := by
  refine metG_of 5 ck_X11_feed (Nat.le_of_ble_eq_true rfl) cMap (fun p e s m args below meth c A hx hb hml hr hlocks hown hts hK hD hA hP hS ls hl => ?_)
  have hown : s.vm.findClass "HideReader" = some m.cls := hown
  have hl : lv_has ls 6 [(0, .ref (a 0)), (1, .int (mI p0)), (2, .int (mI p1)), (3, .int (mI p2)), (4, .int (mI p3)), (5, .int (mI p4))] := hl
  refine lv_aload_n hx hb dX11_feed_0 rfl (lv_at hl 0 rfl) ?_
  refine cg_xo_tape hx hb hts hown hK hP uw_2_229 dX11_feed_1 ?_
  refine g_i (cDt hD) hS hA (g_V (own := "HideReader") (As := []) (rest := []) hx hb hml hown hts hK hP (cDt hD) (kc_X7_length (l := l) (D := D) (k := k) h_x_tape_length) ck_X7_length iv_X7_length uw_3_30 (cv_tape hK hP) rfl hl.1 rfl (Nat.le_of_ble_eq_true rfl) dX11_feed_4 ⟨Nat.le_of_ble_eq_true rfl, Nat.le_of_ble_eq_true rfl⟩ ⟨Nat.le_of_ble_eq_true rfl, Nat.le_of_ble_eq_true rfl⟩) (fun r_1 H locs hQ hS => ?_)
  obtain ⟨hq_r_1, hP⟩ := hQ
  obtain rfl := hq_r_1
  refine lv_bipush (v := mI 20) hx hb dX11_feed_7 (by decide) ?_
  refine sy_iadd hx hb dX11_feed_9 (x_tape_length + 20) rfl ?_
  refine lv_sipush (v := mI 1600) hx hb dX11_feed_10 (by decide) ?_
  refine sy_icmp_le (tgt := 18) hx hb dX11_feed_13 (by decide) (by omega) (by decide) (fun c_3 => ?_) (fun c_3 => ?_)
  · skip
    refine lv_aload_n hx hb dX11_feed_18 rfl (lv_at hl 0 rfl) ?_
    refine cg_xo_tape hx hb hts hown hK hP uw_2_229 dX11_feed_19 ?_
    refine lv_iload_n hx hb dX11_feed_22 rfl (lv_at hl 1 rfl) ?_
    refine g_v (cDt hD) hS hA (g_V (own := "HideReader") (As := [.int (mI p0)]) (rest := []) hx hb hml hown hts hK hP (cDt hD) (kc_X7_addNumber (l := l) (D := D) (k := k) (by omega) h_x_tape_length b_B_tape_bytes) ck_X7_addNumber iv_X7_addNumber uw_3_34 (cv_tape hK hP) rfl hl.1 rfl (Nat.le_of_ble_eq_true rfl) dX11_feed_23 ⟨Nat.le_of_ble_eq_true rfl, Nat.le_of_ble_eq_true rfl⟩ ⟨Nat.le_of_ble_eq_true rfl, Nat.le_of_ble_eq_true rfl⟩) (fun H locs hQ hS => ?_)
    obtain ⟨F_5, y_6, bF_5, hr_4_1, hr_4_2, hP⟩ := hQ
    refine lv_aload_n hx hb dX11_feed_26 rfl (lv_at hl 0 rfl) ?_
    refine cg_xo_tape hx hb hts hown hK hP uw_2_229 dX11_feed_27 ?_
    refine lv_iload_n hx hb dX11_feed_30 rfl (lv_at hl 2 rfl) ?_
    refine g_v (cDt hD) hS hA (g_V (own := "HideReader") (As := [.int (mI p1)]) (rest := []) hx hb hml hown hts hK hP (cDt hD) (kc_X7_addNumber (l := l) (D := D) (k := k) (by omega) (by omega) bF_5) ck_X7_addNumber iv_X7_addNumber uw_3_34 (cv_tape hK hP) rfl hl.1 rfl (Nat.le_of_ble_eq_true rfl) dX11_feed_31 ⟨Nat.le_of_ble_eq_true rfl, Nat.le_of_ble_eq_true rfl⟩ ⟨Nat.le_of_ble_eq_true rfl, Nat.le_of_ble_eq_true rfl⟩) (fun H locs hQ hS => ?_)
    obtain ⟨F_8, y_9, bF_8, hr_7_1, hr_7_2, hP⟩ := hQ
    refine lv_aload_n hx hb dX11_feed_34 rfl (lv_at hl 0 rfl) ?_
    refine cg_xo_tape hx hb hts hown hK hP uw_2_229 dX11_feed_35 ?_
    refine lv_iload_n hx hb dX11_feed_38 rfl (lv_at hl 3 rfl) ?_
    refine g_v (cDt hD) hS hA (g_V (own := "HideReader") (As := [.int (mI p2)]) (rest := []) hx hb hml hown hts hK hP (cDt hD) (kc_X7_addNumber (l := l) (D := D) (k := k) (by omega) (by omega) bF_8) ck_X7_addNumber iv_X7_addNumber uw_3_34 (cv_tape hK hP) rfl hl.1 rfl (Nat.le_of_ble_eq_true rfl) dX11_feed_39 ⟨Nat.le_of_ble_eq_true rfl, Nat.le_of_ble_eq_true rfl⟩ ⟨Nat.le_of_ble_eq_true rfl, Nat.le_of_ble_eq_true rfl⟩) (fun H locs hQ hS => ?_)
    obtain ⟨F_11, y_12, bF_11, hr_10_1, hr_10_2, hP⟩ := hQ
    refine lv_aload_n hx hb dX11_feed_42 rfl (lv_at hl 0 rfl) ?_
    refine cg_xo_tape hx hb hts hown hK hP uw_2_229 dX11_feed_43 ?_
    refine lv_iload hx hb dX11_feed_46 (lv_at hl 4 rfl) ?_
    refine g_v (cDt hD) hS hA (g_V (own := "HideReader") (As := [.int (mI p3)]) (rest := []) hx hb hml hown hts hK hP (cDt hD) (kc_X7_addNumber (l := l) (D := D) (k := k) (by omega) (by omega) bF_11) ck_X7_addNumber iv_X7_addNumber uw_3_34 (cv_tape hK hP) rfl hl.1 rfl (Nat.le_of_ble_eq_true rfl) dX11_feed_48 ⟨Nat.le_of_ble_eq_true rfl, Nat.le_of_ble_eq_true rfl⟩ ⟨Nat.le_of_ble_eq_true rfl, Nat.le_of_ble_eq_true rfl⟩) (fun H locs hQ hS => ?_)
    obtain ⟨F_14, y_15, bF_14, hr_13_1, hr_13_2, hP⟩ := hQ
    refine lv_aload_n hx hb dX11_feed_51 rfl (lv_at hl 0 rfl) ?_
    refine cg_xo_tape hx hb hts hown hK hP uw_2_229 dX11_feed_52 ?_
    refine lv_iload hx hb dX11_feed_55 (lv_at hl 5 rfl) ?_
    refine g_v (cDt hD) hS hA (g_V (own := "HideReader") (As := [.int (mI p4)]) (rest := []) hx hb hml hown hts hK hP (cDt hD) (kc_X7_addNumber (l := l) (D := D) (k := k) (by omega) (by omega) bF_14) ck_X7_addNumber iv_X7_addNumber uw_3_34 (cv_tape hK hP) rfl hl.1 rfl (Nat.le_of_ble_eq_true rfl) dX11_feed_57 ⟨Nat.le_of_ble_eq_true rfl, Nat.le_of_ble_eq_true rfl⟩ ⟨Nat.le_of_ble_eq_true rfl, Nat.le_of_ble_eq_true rfl⟩) (fun H locs hQ hS => ?_)
    obtain ⟨F_17, y_18, bF_17, hr_16_1, hr_16_2, hP⟩ := hQ
    refine lv_aload_n hx hb dX11_feed_60 rfl (lv_at hl 0 rfl) ?_
    refine cg_xo_tape hx hb hts hown hK hP uw_2_229 dX11_feed_61 ?_
    refine g_i (cDt hD) hS hA (g_V (own := "HideReader") (As := []) (rest := []) hx hb hml hown hts hK hP (cDt hD) (kc_X7_length (l := l) (D := D) (k := k) (by omega)) ck_X7_length iv_X7_length uw_3_30 (cv_tape hK hP) rfl hl.1 rfl (Nat.le_of_ble_eq_true rfl) dX11_feed_64 ⟨Nat.le_of_ble_eq_true rfl, Nat.le_of_ble_eq_true rfl⟩ ⟨Nat.le_of_ble_eq_true rfl, Nat.le_of_ble_eq_true rfl⟩) (fun r_19 H locs hQ hS => ?_)
    obtain ⟨hq_r_19, hP⟩ := hQ
    obtain rfl := hq_r_19
    exact r_i hx hb hr hlocks dX11_feed_67 hS ⟨F_17, y_18, by omega, bF_17, by omega, hP⟩
  · skip
    refine lv_iconst (v := mI (-1)) hx hb dX11_feed_16 rfl ?_
    exact r_i hx hb hr hlocks dX11_feed_17 hS ⟨B_tape_bytes, x_tape_length, by omega, b_B_tape_bytes, by omega, hP⟩
set_option maxHeartbeats 4000000 in
set_option maxRecDepth 100000 in
theorem kc_X11_end {p0 : Int} (hp0 : -2147483648 ≤ p0 ∧ p0 ≤ 2147483647) (h_x_tape_length : 0 ≤ x_tape_length ∧ x_tape_length ≤ 1600) : MetG l D k yX11_end cX11_end 2 (some .int) 1 [.ref (a 0), .int (mI p0)] (cW k a q x_xo_lyingCount x_tape_length x_tape_next x_tape_kind x_tape_place x_tape_number x_tape_faultKind x_tape_faultPlace x_told_turns x_told_mirror x_told_night x_told_draw x_told_herds x_told_irons x_told_beasts x_told_linesTold x_tfo_steps x_tfo_units x_draft_turns x_draft_mirror x_draft_night x_draft_draw x_draft_herds x_draft_irons x_draft_beasts x_draft_linesTold x_dfo_steps x_dfo_units x_lat_placements x_smi_irons x_smi_aim x_his_here x_his_undoable x_his_redoable x_book_placedCount x_wit_count x_wit_time n_tape_name B_xo_lying B_tape_bytes B_told_brands B_told_ironMarks B_told_homes B_told_births B_tfo_kinds B_tfo_numbers B_tfo_stack B_tfo_facts B_draft_brands B_draft_ironMarks B_draft_homes B_draft_births B_dfo_kinds B_dfo_numbers B_dfo_stack B_dfo_facts B_lat_lowHalves B_lat_highHalves B_lat_ways B_smi_placedIrons B_smi_within B_smi_costs B_his_isKept B_book_norms B_book_above B_book_heights B_book_placedBrands B_bea_firstGains B_bea_otherGains B_wit_burnings B_wit_strokes B_wit_wasOn B_wit_toldAt B_wit_untoldAt B_wit_on B_wit_off B_wit_firstCounts B_wit_secondCounts Ps Pd G_tape_wordNames G_told_herdNames G_told_ironNames G_told_beastNames G_draft_herdNames G_draft_ironNames G_draft_beastNames Ph Po Pg ex) (qGi (fun r0 H => ∃ (y_tape_length : Int), (-1 ≤ r0 ∧ r0 ≤ 1600) ∧ (0 ≤ y_tape_length ∧ y_tape_length ≤ 1600) ∧ (0 ≤ -y_tape_length + x_tape_length) ∧ va_P D vwCl (cW k a q x_xo_lyingCount y_tape_length x_tape_next x_tape_kind x_tape_place x_tape_number x_tape_faultKind x_tape_faultPlace x_told_turns x_told_mirror x_told_night x_told_draw x_told_herds x_told_irons x_told_beasts x_told_linesTold x_tfo_steps x_tfo_units x_draft_turns x_draft_mirror x_draft_night x_draft_draw x_draft_herds x_draft_irons x_draft_beasts x_draft_linesTold x_dfo_steps x_dfo_units x_lat_placements x_smi_irons x_smi_aim x_his_here x_his_undoable x_his_redoable x_book_placedCount x_wit_count x_wit_time n_tape_name B_xo_lying B_tape_bytes B_told_brands B_told_ironMarks B_told_homes B_told_births B_tfo_kinds B_tfo_numbers B_tfo_stack B_tfo_facts B_draft_brands B_draft_ironMarks B_draft_homes B_draft_births B_dfo_kinds B_dfo_numbers B_dfo_stack B_dfo_facts B_lat_lowHalves B_lat_highHalves B_lat_ways B_smi_placedIrons B_smi_within B_smi_costs B_his_isKept B_book_norms B_book_above B_book_heights B_book_placedBrands B_bea_firstGains B_bea_otherGains B_wit_burnings B_wit_strokes B_wit_wasOn B_wit_toldAt B_wit_untoldAt B_wit_on B_wit_off B_wit_firstCounts B_wit_secondCounts Ps Pd G_tape_wordNames G_told_herdNames G_told_ironNames G_told_beastNames G_draft_herdNames G_draft_ironNames G_draft_beastNames Ph Po Pg ex) H)) := by
  refine metG_of 1 ck_X11_end (Nat.le_of_ble_eq_true rfl) cMap (fun p e s m args below meth c A hx hb hml hr hlocks hown hts hK hD hA hP hS ls hl => ?_)
  have hown : s.vm.findClass "HideReader" = some m.cls := hown
  have hl : lv_has ls 2 [(0, .ref (a 0)), (1, .int (mI p0))] := hl
  refine lv_iload_n hx hb dX11_end_0 rfl (lv_at hl 1 rfl) ?_
  refine sy_if_lt (tgt := 15) hx hb dX11_end_1 (by decide) (by omega) (fun c_1 => ?_) (fun c_1 => ?_)
  · skip
    refine lv_iconst (v := mI (-1)) hx hb dX11_end_15 rfl ?_
    exact r_i hx hb hr hlocks dX11_end_16 hS ⟨x_tape_length, by omega, by omega, by omega, hP⟩
  · skip
    refine lv_iload_n hx hb dX11_end_4 rfl (lv_at hl 1 rfl) ?_
    refine lv_aload_n hx hb dX11_end_5 rfl (lv_at hl 0 rfl) ?_
    refine cg_xo_tape hx hb hts hown hK hP uw_2_229 dX11_end_6 ?_
    refine g_i (cDt hD) hS hA (g_V (own := "HideReader") (As := []) (rest := [.int (mI p0)]) hx hb hml hown hts hK hP (cDt hD) (kc_X7_length (l := l) (D := D) (k := k) h_x_tape_length) ck_X7_length iv_X7_length uw_3_30 (cv_tape hK hP) rfl hl.1 rfl (Nat.le_of_ble_eq_true rfl) dX11_end_9 ⟨Nat.le_of_ble_eq_true rfl, Nat.le_of_ble_eq_true rfl⟩ ⟨Nat.le_of_ble_eq_true rfl, Nat.le_of_ble_eq_true rfl⟩) (fun r_2 H locs hQ hS => ?_)
    obtain ⟨hq_r_2, hP⟩ := hQ
    obtain rfl := hq_r_2
    refine sy_icmp_le (tgt := 17) hx hb dX11_end_12 (by decide) (by omega) (by omega) (fun c_4 => ?_) (fun c_4 => ?_)
    · skip
      refine lv_aload_n hx hb dX11_end_17 rfl (lv_at hl 0 rfl) ?_
      refine cg_xo_tape hx hb hts hown hK hP uw_2_229 dX11_end_18 ?_
      refine lv_iload_n hx hb dX11_end_21 rfl (lv_at hl 1 rfl) ?_
      refine g_v (cDt hD) hS hA (g_V (own := "HideReader") (As := [.int (mI p0)]) (rest := []) hx hb hml hown hts hK hP (cDt hD) (kc_X7_cutTo (l := l) (D := D) (k := k) (by omega) h_x_tape_length) ck_X7_cutTo iv_X7_cutTo uw_3_42 (cv_tape hK hP) rfl hl.1 rfl (Nat.le_of_ble_eq_true rfl) dX11_end_22 ⟨Nat.le_of_ble_eq_true rfl, Nat.le_of_ble_eq_true rfl⟩ ⟨Nat.le_of_ble_eq_true rfl, Nat.le_of_ble_eq_true rfl⟩) (fun H locs hQ hS => ?_)
      obtain ⟨y_6, hr_5_0, hr_5_1, hP⟩ := hQ
      refine lv_iload_n hx hb dX11_end_25 rfl (lv_at hl 1 rfl) ?_
      exact r_i hx hb hr hlocks dX11_end_26 hS ⟨y_6, by omega, by omega, by omega, hP⟩
    · skip
      refine lv_iconst (v := mI (-1)) hx hb dX11_end_15 rfl ?_
      exact r_i hx hb hr hlocks dX11_end_16 hS ⟨x_tape_length, by omega, by omega, by omega, hP⟩
set_option maxHeartbeats 4000000 in
set_option maxRecDepth 100000 in
theorem kc_X11_fault {p0 : Int} (hp0 : -2147483648 ≤ p0 ∧ p0 ≤ 2147483647) (h_x_tape_faultKind : 0 ≤ x_tape_faultKind ∧ x_tape_faultKind ≤ 5) (h_x_tape_faultPlace : -1 ≤ x_tape_faultPlace ∧ x_tape_faultPlace ≤ 1600) : MetG l D k yX11_fault cX11_fault 2 (some .int) 1 [.ref (a 0), .int (mI p0)] (cW k a q x_xo_lyingCount x_tape_length x_tape_next x_tape_kind x_tape_place x_tape_number x_tape_faultKind x_tape_faultPlace x_told_turns x_told_mirror x_told_night x_told_draw x_told_herds x_told_irons x_told_beasts x_told_linesTold x_tfo_steps x_tfo_units x_draft_turns x_draft_mirror x_draft_night x_draft_draw x_draft_herds x_draft_irons x_draft_beasts x_draft_linesTold x_dfo_steps x_dfo_units x_lat_placements x_smi_irons x_smi_aim x_his_here x_his_undoable x_his_redoable x_book_placedCount x_wit_count x_wit_time n_tape_name B_xo_lying B_tape_bytes B_told_brands B_told_ironMarks B_told_homes B_told_births B_tfo_kinds B_tfo_numbers B_tfo_stack B_tfo_facts B_draft_brands B_draft_ironMarks B_draft_homes B_draft_births B_dfo_kinds B_dfo_numbers B_dfo_stack B_dfo_facts B_lat_lowHalves B_lat_highHalves B_lat_ways B_smi_placedIrons B_smi_within B_smi_costs B_his_isKept B_book_norms B_book_above B_book_heights B_book_placedBrands B_bea_firstGains B_bea_otherGains B_wit_burnings B_wit_strokes B_wit_wasOn B_wit_toldAt B_wit_untoldAt B_wit_on B_wit_off B_wit_firstCounts B_wit_secondCounts Ps Pd G_tape_wordNames G_told_herdNames G_told_ironNames G_told_beastNames G_draft_herdNames G_draft_ironNames G_draft_beastNames Ph Po Pg ex) (qGi (fun r0 H => (-1 ≤ r0 ∧ r0 ≤ 1600) ∧ va_P D vwCl (cW k a q x_xo_lyingCount x_tape_length x_tape_next x_tape_kind x_tape_place x_tape_number x_tape_faultKind x_tape_faultPlace x_told_turns x_told_mirror x_told_night x_told_draw x_told_herds x_told_irons x_told_beasts x_told_linesTold x_tfo_steps x_tfo_units x_draft_turns x_draft_mirror x_draft_night x_draft_draw x_draft_herds x_draft_irons x_draft_beasts x_draft_linesTold x_dfo_steps x_dfo_units x_lat_placements x_smi_irons x_smi_aim x_his_here x_his_undoable x_his_redoable x_book_placedCount x_wit_count x_wit_time n_tape_name B_xo_lying B_tape_bytes B_told_brands B_told_ironMarks B_told_homes B_told_births B_tfo_kinds B_tfo_numbers B_tfo_stack B_tfo_facts B_draft_brands B_draft_ironMarks B_draft_homes B_draft_births B_dfo_kinds B_dfo_numbers B_dfo_stack B_dfo_facts B_lat_lowHalves B_lat_highHalves B_lat_ways B_smi_placedIrons B_smi_within B_smi_costs B_his_isKept B_book_norms B_book_above B_book_heights B_book_placedBrands B_bea_firstGains B_bea_otherGains B_wit_burnings B_wit_strokes B_wit_wasOn B_wit_toldAt B_wit_untoldAt B_wit_on B_wit_off B_wit_firstCounts B_wit_secondCounts Ps Pd G_tape_wordNames G_told_herdNames G_told_ironNames G_told_beastNames G_draft_herdNames G_draft_ironNames G_draft_beastNames Ph Po Pg ex) H)) := by
  refine metG_of 1 ck_X11_fault (Nat.le_of_ble_eq_true rfl) cMap (fun p e s m args below meth c A hx hb hml hr hlocks hown hts hK hD hA hP hS ls hl => ?_)
  have hown : s.vm.findClass "HideReader" = some m.cls := hown
  have hl : lv_has ls 2 [(0, .ref (a 0)), (1, .int (mI p0))] := hl
  refine lv_iload_n hx hb dX11_fault_0 rfl (lv_at hl 1 rfl) ?_
  refine sy_if_ne (tgt := 12) hx hb dX11_fault_1 (by decide) (by omega) (fun c_1 => ?_) (fun c_1 => ?_)
  · skip
    refine lv_iload_n hx hb dX11_fault_12 rfl (lv_at hl 1 rfl) ?_
    refine lv_iconst (v := mI 1) hx hb dX11_fault_13 rfl ?_
    refine sy_icmp_ne (tgt := 27) hx hb dX11_fault_14 (by decide) (by omega) (by decide) (fun c_2 => ?_) (fun c_2 => ?_)
    · skip
      refine lv_iconst (v := mI (-1)) hx hb dX11_fault_27 rfl ?_
      exact r_i hx hb hr hlocks dX11_fault_28 hS ⟨by omega, hP⟩
    · skip
      refine lv_aload_n hx hb dX11_fault_17 rfl (lv_at hl 0 rfl) ?_
      refine cg_xo_tape hx hb hts hown hK hP uw_2_229 dX11_fault_18 ?_
      refine g_i (cDt hD) hS hA (g_V (own := "HideReader") (As := []) (rest := []) hx hb hml hown hts hK hP (cDt hD) (kc_X7_faultPlace (l := l) (D := D) (k := k) h_x_tape_faultPlace) ck_X7_faultPlace iv_X7_faultPlace uw_4_97 (cv_tape hK hP) rfl hl.1 rfl (Nat.le_of_ble_eq_true rfl) dX11_fault_21 ⟨Nat.le_of_ble_eq_true rfl, Nat.le_of_ble_eq_true rfl⟩ ⟨Nat.le_of_ble_eq_true rfl, Nat.le_of_ble_eq_true rfl⟩) (fun r_3 H locs hQ hS => ?_)
      obtain ⟨hq_r_3, hP⟩ := hQ
      obtain rfl := hq_r_3
      refine lv_goto (tgt := 28) hx hb dX11_fault_24 (by decide) ?_
      exact r_i hx hb hr hlocks dX11_fault_28 hS ⟨by omega, hP⟩
  · skip
    refine lv_aload_n hx hb dX11_fault_4 rfl (lv_at hl 0 rfl) ?_
    refine cg_xo_tape hx hb hts hown hK hP uw_2_229 dX11_fault_5 ?_
    refine g_i (cDt hD) hS hA (g_V (own := "HideReader") (As := []) (rest := []) hx hb hml hown hts hK hP (cDt hD) (kc_X7_faultKind (l := l) (D := D) (k := k) h_x_tape_faultKind) ck_X7_faultKind iv_X7_faultKind uw_4_96 (cv_tape hK hP) rfl hl.1 rfl (Nat.le_of_ble_eq_true rfl) dX11_fault_8 ⟨Nat.le_of_ble_eq_true rfl, Nat.le_of_ble_eq_true rfl⟩ ⟨Nat.le_of_ble_eq_true rfl, Nat.le_of_ble_eq_true rfl⟩) (fun r_5 H locs hQ hS => ?_)
    obtain ⟨hq_r_5, hP⟩ := hQ
    obtain rfl := hq_r_5
    exact r_i hx hb hr hlocks dX11_fault_11 hS ⟨by omega, hP⟩
set_option maxHeartbeats 4000000 in
set_option maxRecDepth 100000 in
theorem kc_X11_isHerd {p0 : Int} (hp0 : -2147483648 ≤ p0 ∧ p0 ≤ 2147483647) (h_x_told_herds : 0 ≤ x_told_herds ∧ x_told_herds ≤ 8) : MetG l D k yX11_isHerd cX11_isHerd 2 (some .boolean) 0 [.ref (a 0), .int (mI p0)] (cW k a q x_xo_lyingCount x_tape_length x_tape_next x_tape_kind x_tape_place x_tape_number x_tape_faultKind x_tape_faultPlace x_told_turns x_told_mirror x_told_night x_told_draw x_told_herds x_told_irons x_told_beasts x_told_linesTold x_tfo_steps x_tfo_units x_draft_turns x_draft_mirror x_draft_night x_draft_draw x_draft_herds x_draft_irons x_draft_beasts x_draft_linesTold x_dfo_steps x_dfo_units x_lat_placements x_smi_irons x_smi_aim x_his_here x_his_undoable x_his_redoable x_book_placedCount x_wit_count x_wit_time n_tape_name B_xo_lying B_tape_bytes B_told_brands B_told_ironMarks B_told_homes B_told_births B_tfo_kinds B_tfo_numbers B_tfo_stack B_tfo_facts B_draft_brands B_draft_ironMarks B_draft_homes B_draft_births B_dfo_kinds B_dfo_numbers B_dfo_stack B_dfo_facts B_lat_lowHalves B_lat_highHalves B_lat_ways B_smi_placedIrons B_smi_within B_smi_costs B_his_isKept B_book_norms B_book_above B_book_heights B_book_placedBrands B_bea_firstGains B_bea_otherGains B_wit_burnings B_wit_strokes B_wit_wasOn B_wit_toldAt B_wit_untoldAt B_wit_on B_wit_off B_wit_firstCounts B_wit_secondCounts Ps Pd G_tape_wordNames G_told_herdNames G_told_ironNames G_told_beastNames G_draft_herdNames G_draft_ironNames G_draft_beastNames Ph Po Pg ex) (qGi (fun r0 H => ((0 = r0 ∧ ((p0 < 0) ∨ (p0 ≥ 0 ∧ p0 ≥ x_told_herds))) ∨ (1 = r0 ∧ (0 ≤ p0 ∧ p0 ≤ 7) ∧ (1 ≤ x_told_herds ∧ x_told_herds ≤ 8) ∧ (0 ≤ x_told_herds - p0 - 1))) ∧ va_P D vwCl (cW k a q x_xo_lyingCount x_tape_length x_tape_next x_tape_kind x_tape_place x_tape_number x_tape_faultKind x_tape_faultPlace x_told_turns x_told_mirror x_told_night x_told_draw x_told_herds x_told_irons x_told_beasts x_told_linesTold x_tfo_steps x_tfo_units x_draft_turns x_draft_mirror x_draft_night x_draft_draw x_draft_herds x_draft_irons x_draft_beasts x_draft_linesTold x_dfo_steps x_dfo_units x_lat_placements x_smi_irons x_smi_aim x_his_here x_his_undoable x_his_redoable x_book_placedCount x_wit_count x_wit_time n_tape_name B_xo_lying B_tape_bytes B_told_brands B_told_ironMarks B_told_homes B_told_births B_tfo_kinds B_tfo_numbers B_tfo_stack B_tfo_facts B_draft_brands B_draft_ironMarks B_draft_homes B_draft_births B_dfo_kinds B_dfo_numbers B_dfo_stack B_dfo_facts B_lat_lowHalves B_lat_highHalves B_lat_ways B_smi_placedIrons B_smi_within B_smi_costs B_his_isKept B_book_norms B_book_above B_book_heights B_book_placedBrands B_bea_firstGains B_bea_otherGains B_wit_burnings B_wit_strokes B_wit_wasOn B_wit_toldAt B_wit_untoldAt B_wit_on B_wit_off B_wit_firstCounts B_wit_secondCounts Ps Pd G_tape_wordNames G_told_herdNames G_told_ironNames G_told_beastNames G_draft_herdNames G_draft_ironNames G_draft_beastNames Ph Po Pg ex) H)) := by
  refine metG_of 1 ck_X11_isHerd (Nat.le_of_ble_eq_true rfl) cMap (fun p e s m args below meth c A hx hb hml hr hlocks hown hts hK hD hA hP hS ls hl => ?_)
  have hown : s.vm.findClass "HideReader" = some m.cls := hown
  have hl : lv_has ls 2 [(0, .ref (a 0)), (1, .int (mI p0))] := hl
  refine lv_iload_n hx hb dX11_isHerd_0 rfl (lv_at hl 1 rfl) ?_
  refine sy_if_lt (tgt := 19) hx hb dX11_isHerd_1 (by decide) (by omega) (fun c_1 => ?_) (fun c_1 => ?_)
  · skip
    refine lv_iconst (v := mI 0) hx hb dX11_isHerd_19 rfl ?_
    exact r_z hx hb hr hlocks dX11_isHerd_20 hS (by decide) ⟨Or.inl (⟨rfl, by omega⟩), hP⟩
  · skip
    refine lv_iload_n hx hb dX11_isHerd_4 rfl (lv_at hl 1 rfl) ?_
    refine lv_aload_n hx hb dX11_isHerd_5 rfl (lv_at hl 0 rfl) ?_
    refine cg_xo_told hx hb hts hown hK hP uw_2_230 dX11_isHerd_6 ?_
    refine cg_told_herds hx hb hts hown hK hP uw_1_170 dX11_isHerd_9 ?_
    refine sy_icmp_ge (tgt := 19) hx hb dX11_isHerd_12 (by decide) (by omega) (by omega) (fun c_2 => ?_) (fun c_2 => ?_)
    · skip
      refine lv_iconst (v := mI 0) hx hb dX11_isHerd_19 rfl ?_
      exact r_z hx hb hr hlocks dX11_isHerd_20 hS (by decide) ⟨Or.inl (⟨rfl, by omega⟩), hP⟩
    · skip
      refine lv_iconst (v := mI 1) hx hb dX11_isHerd_15 rfl ?_
      refine lv_goto (tgt := 20) hx hb dX11_isHerd_16 (by decide) ?_
      exact r_z hx hb hr hlocks dX11_isHerd_20 hS (by decide) ⟨Or.inr (⟨rfl, by omega, by omega, by omega⟩), hP⟩
set_option maxHeartbeats 4000000 in
set_option maxRecDepth 100000 in
theorem kc_X11_brand {p0 : Int} (hp0 : -2147483648 ≤ p0 ∧ p0 ≤ 2147483647) (h_x_told_herds : 0 ≤ x_told_herds ∧ x_told_herds ≤ 8) (b_B_told_brands : bd (-2147483648) 2147483647 B_told_brands) (g_T : tI x_told_herds x_told_beasts B_told_brands B_told_homes) : MetG l D k yX11_brand cX11_brand 2 (some .int) 1 [.ref (a 0), .int (mI p0)] (cW k a q x_xo_lyingCount x_tape_length x_tape_next x_tape_kind x_tape_place x_tape_number x_tape_faultKind x_tape_faultPlace x_told_turns x_told_mirror x_told_night x_told_draw x_told_herds x_told_irons x_told_beasts x_told_linesTold x_tfo_steps x_tfo_units x_draft_turns x_draft_mirror x_draft_night x_draft_draw x_draft_herds x_draft_irons x_draft_beasts x_draft_linesTold x_dfo_steps x_dfo_units x_lat_placements x_smi_irons x_smi_aim x_his_here x_his_undoable x_his_redoable x_book_placedCount x_wit_count x_wit_time n_tape_name B_xo_lying B_tape_bytes B_told_brands B_told_ironMarks B_told_homes B_told_births B_tfo_kinds B_tfo_numbers B_tfo_stack B_tfo_facts B_draft_brands B_draft_ironMarks B_draft_homes B_draft_births B_dfo_kinds B_dfo_numbers B_dfo_stack B_dfo_facts B_lat_lowHalves B_lat_highHalves B_lat_ways B_smi_placedIrons B_smi_within B_smi_costs B_his_isKept B_book_norms B_book_above B_book_heights B_book_placedBrands B_bea_firstGains B_bea_otherGains B_wit_burnings B_wit_strokes B_wit_wasOn B_wit_toldAt B_wit_untoldAt B_wit_on B_wit_off B_wit_firstCounts B_wit_secondCounts Ps Pd G_tape_wordNames G_told_herdNames G_told_ironNames G_told_beastNames G_draft_herdNames G_draft_ironNames G_draft_beastNames Ph Po Pg ex) (qGi (fun r0 H => (-1 ≤ r0 ∧ r0 ≤ 4095) ∧ (p0 < 0 ∨ x_told_herds ≤ p0 ∨ (0 ≤ r0 ∧ r0 ≤ 4095)) ∧ va_P D vwCl (cW k a q x_xo_lyingCount x_tape_length x_tape_next x_tape_kind x_tape_place x_tape_number x_tape_faultKind x_tape_faultPlace x_told_turns x_told_mirror x_told_night x_told_draw x_told_herds x_told_irons x_told_beasts x_told_linesTold x_tfo_steps x_tfo_units x_draft_turns x_draft_mirror x_draft_night x_draft_draw x_draft_herds x_draft_irons x_draft_beasts x_draft_linesTold x_dfo_steps x_dfo_units x_lat_placements x_smi_irons x_smi_aim x_his_here x_his_undoable x_his_redoable x_book_placedCount x_wit_count x_wit_time n_tape_name B_xo_lying B_tape_bytes B_told_brands B_told_ironMarks B_told_homes B_told_births B_tfo_kinds B_tfo_numbers B_tfo_stack B_tfo_facts B_draft_brands B_draft_ironMarks B_draft_homes B_draft_births B_dfo_kinds B_dfo_numbers B_dfo_stack B_dfo_facts B_lat_lowHalves B_lat_highHalves B_lat_ways B_smi_placedIrons B_smi_within B_smi_costs B_his_isKept B_book_norms B_book_above B_book_heights B_book_placedBrands B_bea_firstGains B_bea_otherGains B_wit_burnings B_wit_strokes B_wit_wasOn B_wit_toldAt B_wit_untoldAt B_wit_on B_wit_off B_wit_firstCounts B_wit_secondCounts Ps Pd G_tape_wordNames G_told_herdNames G_told_ironNames G_told_beastNames G_draft_herdNames G_draft_ironNames G_draft_beastNames Ph Po Pg ex) H)) := by
  refine metG_of 1 ck_X11_brand (Nat.le_of_ble_eq_true rfl) cMap (fun p e s m args below meth c A hx hb hml hr hlocks hown hts hK hD hA hP hS ls hl => ?_)
  have hown : s.vm.findClass "HideReader" = some m.cls := hown
  have hl : lv_has ls 2 [(0, .ref (a 0)), (1, .int (mI p0))] := hl
  refine lv_aload_n hx hb dX11_brand_0 rfl (lv_at hl 0 rfl) ?_
  refine lv_iload_n hx hb dX11_brand_1 rfl (lv_at hl 1 rfl) ?_
  refine g_i (cDt hD) hS hA (g_V (own := "HideReader") (As := [.int (mI p0)]) (rest := []) hx hb hml hown hts hK hP (cDt hD) (kc_X11_isHerd (l := l) (D := D) (k := k) (by omega) h_x_told_herds) ck_X11_isHerd iv_X11_isHerd uw_4_105 (cv_xo hK hP) rfl hl.1 rfl (Nat.le_of_ble_eq_true rfl) dX11_brand_2 ⟨Nat.le_of_ble_eq_true rfl, Nat.le_of_ble_eq_true rfl⟩ ⟨Nat.le_of_ble_eq_true rfl, Nat.le_of_ble_eq_true rfl⟩) (fun r_1 H locs hQ hS => ?_)
  obtain ⟨hq_r_1, hP⟩ := hQ
  rcases hq_r_1 with ⟨rfl, c_2_0⟩ | ⟨rfl, c_3_0, c_3_1, c_3_2⟩
  · skip
    refine sy_if_eq (tgt := 20) hx hb dX11_brand_5 (by decide) (by decide) (fun c_4 => ?_) (fun c9 => absurd c9 (by decide))
    refine lv_iconst (v := mI (-1)) hx hb dX11_brand_20 rfl ?_
    exact r_i hx hb hr hlocks dX11_brand_21 hS ⟨by omega, by omega, hP⟩
  · skip
    refine sy_if_eq (tgt := 20) hx hb dX11_brand_5 (by decide) (by decide) (fun c9 => absurd c9 (by decide)) (fun c_5 => ?_)
    refine lv_aload_n hx hb dX11_brand_8 rfl (lv_at hl 0 rfl) ?_
    refine cg_xo_told hx hb hts hown hK hP uw_2_230 dX11_brand_9 ?_
    refine cg_told_brands hx hb hts hown hK hP uw_1_195 dX11_brand_12 ?_
    refine lv_iload_n hx hb dX11_brand_15 rfl (lv_at hl 1 rfl) ?_
    refine cl_told_brands hx hb hK hP dX11_brand_16 (by omega) b_B_told_brands (fun z_6 ez_6 hz_6 => ?_)
    have hz_6 := tI_b g_T (by omega) ez_6
    refine lv_goto (tgt := 21) hx hb dX11_brand_17 (by decide) ?_
    exact r_i hx hb hr hlocks dX11_brand_21 hS ⟨by omega, by omega, hP⟩
set_option maxHeartbeats 4000000 in
set_option maxRecDepth 100000 in
theorem kc_X11_isIron {p0 : Int} (hp0 : -2147483648 ≤ p0 ∧ p0 ≤ 2147483647) (h_x_told_irons : 0 ≤ x_told_irons ∧ x_told_irons ≤ 6) : MetG l D k yX11_isIron cX11_isIron 2 (some .boolean) 0 [.ref (a 0), .int (mI p0)] (cW k a q x_xo_lyingCount x_tape_length x_tape_next x_tape_kind x_tape_place x_tape_number x_tape_faultKind x_tape_faultPlace x_told_turns x_told_mirror x_told_night x_told_draw x_told_herds x_told_irons x_told_beasts x_told_linesTold x_tfo_steps x_tfo_units x_draft_turns x_draft_mirror x_draft_night x_draft_draw x_draft_herds x_draft_irons x_draft_beasts x_draft_linesTold x_dfo_steps x_dfo_units x_lat_placements x_smi_irons x_smi_aim x_his_here x_his_undoable x_his_redoable x_book_placedCount x_wit_count x_wit_time n_tape_name B_xo_lying B_tape_bytes B_told_brands B_told_ironMarks B_told_homes B_told_births B_tfo_kinds B_tfo_numbers B_tfo_stack B_tfo_facts B_draft_brands B_draft_ironMarks B_draft_homes B_draft_births B_dfo_kinds B_dfo_numbers B_dfo_stack B_dfo_facts B_lat_lowHalves B_lat_highHalves B_lat_ways B_smi_placedIrons B_smi_within B_smi_costs B_his_isKept B_book_norms B_book_above B_book_heights B_book_placedBrands B_bea_firstGains B_bea_otherGains B_wit_burnings B_wit_strokes B_wit_wasOn B_wit_toldAt B_wit_untoldAt B_wit_on B_wit_off B_wit_firstCounts B_wit_secondCounts Ps Pd G_tape_wordNames G_told_herdNames G_told_ironNames G_told_beastNames G_draft_herdNames G_draft_ironNames G_draft_beastNames Ph Po Pg ex) (qGi (fun r0 H => ((0 = r0 ∧ ((p0 < 0) ∨ (p0 ≥ 0 ∧ p0 ≥ x_told_irons))) ∨ (1 = r0 ∧ (0 ≤ p0 ∧ p0 ≤ 5) ∧ (1 ≤ x_told_irons ∧ x_told_irons ≤ 6) ∧ (0 ≤ x_told_irons - p0 - 1))) ∧ va_P D vwCl (cW k a q x_xo_lyingCount x_tape_length x_tape_next x_tape_kind x_tape_place x_tape_number x_tape_faultKind x_tape_faultPlace x_told_turns x_told_mirror x_told_night x_told_draw x_told_herds x_told_irons x_told_beasts x_told_linesTold x_tfo_steps x_tfo_units x_draft_turns x_draft_mirror x_draft_night x_draft_draw x_draft_herds x_draft_irons x_draft_beasts x_draft_linesTold x_dfo_steps x_dfo_units x_lat_placements x_smi_irons x_smi_aim x_his_here x_his_undoable x_his_redoable x_book_placedCount x_wit_count x_wit_time n_tape_name B_xo_lying B_tape_bytes B_told_brands B_told_ironMarks B_told_homes B_told_births B_tfo_kinds B_tfo_numbers B_tfo_stack B_tfo_facts B_draft_brands B_draft_ironMarks B_draft_homes B_draft_births B_dfo_kinds B_dfo_numbers B_dfo_stack B_dfo_facts B_lat_lowHalves B_lat_highHalves B_lat_ways B_smi_placedIrons B_smi_within B_smi_costs B_his_isKept B_book_norms B_book_above B_book_heights B_book_placedBrands B_bea_firstGains B_bea_otherGains B_wit_burnings B_wit_strokes B_wit_wasOn B_wit_toldAt B_wit_untoldAt B_wit_on B_wit_off B_wit_firstCounts B_wit_secondCounts Ps Pd G_tape_wordNames G_told_herdNames G_told_ironNames G_told_beastNames G_draft_herdNames G_draft_ironNames G_draft_beastNames Ph Po Pg ex) H)) := by
  refine metG_of 1 ck_X11_isIron (Nat.le_of_ble_eq_true rfl) cMap (fun p e s m args below meth c A hx hb hml hr hlocks hown hts hK hD hA hP hS ls hl => ?_)
  have hown : s.vm.findClass "HideReader" = some m.cls := hown
  have hl : lv_has ls 2 [(0, .ref (a 0)), (1, .int (mI p0))] := hl
  refine lv_iload_n hx hb dX11_isIron_0 rfl (lv_at hl 1 rfl) ?_
  refine sy_if_lt (tgt := 19) hx hb dX11_isIron_1 (by decide) (by omega) (fun c_1 => ?_) (fun c_1 => ?_)
  · skip
    refine lv_iconst (v := mI 0) hx hb dX11_isIron_19 rfl ?_
    exact r_z hx hb hr hlocks dX11_isIron_20 hS (by decide) ⟨Or.inl (⟨rfl, by omega⟩), hP⟩
  · skip
    refine lv_iload_n hx hb dX11_isIron_4 rfl (lv_at hl 1 rfl) ?_
    refine lv_aload_n hx hb dX11_isIron_5 rfl (lv_at hl 0 rfl) ?_
    refine cg_xo_told hx hb hts hown hK hP uw_2_230 dX11_isIron_6 ?_
    refine cg_told_irons hx hb hts hown hK hP uw_1_177 dX11_isIron_9 ?_
    refine sy_icmp_ge (tgt := 19) hx hb dX11_isIron_12 (by decide) (by omega) (by omega) (fun c_2 => ?_) (fun c_2 => ?_)
    · skip
      refine lv_iconst (v := mI 0) hx hb dX11_isIron_19 rfl ?_
      exact r_z hx hb hr hlocks dX11_isIron_20 hS (by decide) ⟨Or.inl (⟨rfl, by omega⟩), hP⟩
    · skip
      refine lv_iconst (v := mI 1) hx hb dX11_isIron_15 rfl ?_
      refine lv_goto (tgt := 20) hx hb dX11_isIron_16 (by decide) ?_
      exact r_z hx hb hr hlocks dX11_isIron_20 hS (by decide) ⟨Or.inr (⟨rfl, by omega, by omega, by omega⟩), hP⟩
set_option maxHeartbeats 4000000 in
set_option maxRecDepth 100000 in
theorem kc_X11_iron {p0 : Int} (hp0 : -2147483648 ≤ p0 ∧ p0 ≤ 2147483647) (h_x_told_irons : 0 ≤ x_told_irons ∧ x_told_irons ≤ 6) (b_B_told_ironMarks : bd (-2147483648) 2147483647 B_told_ironMarks) : MetG l D k yX11_iron cX11_iron 2 (some .int) 1 [.ref (a 0), .int (mI p0)] (cW k a q x_xo_lyingCount x_tape_length x_tape_next x_tape_kind x_tape_place x_tape_number x_tape_faultKind x_tape_faultPlace x_told_turns x_told_mirror x_told_night x_told_draw x_told_herds x_told_irons x_told_beasts x_told_linesTold x_tfo_steps x_tfo_units x_draft_turns x_draft_mirror x_draft_night x_draft_draw x_draft_herds x_draft_irons x_draft_beasts x_draft_linesTold x_dfo_steps x_dfo_units x_lat_placements x_smi_irons x_smi_aim x_his_here x_his_undoable x_his_redoable x_book_placedCount x_wit_count x_wit_time n_tape_name B_xo_lying B_tape_bytes B_told_brands B_told_ironMarks B_told_homes B_told_births B_tfo_kinds B_tfo_numbers B_tfo_stack B_tfo_facts B_draft_brands B_draft_ironMarks B_draft_homes B_draft_births B_dfo_kinds B_dfo_numbers B_dfo_stack B_dfo_facts B_lat_lowHalves B_lat_highHalves B_lat_ways B_smi_placedIrons B_smi_within B_smi_costs B_his_isKept B_book_norms B_book_above B_book_heights B_book_placedBrands B_bea_firstGains B_bea_otherGains B_wit_burnings B_wit_strokes B_wit_wasOn B_wit_toldAt B_wit_untoldAt B_wit_on B_wit_off B_wit_firstCounts B_wit_secondCounts Ps Pd G_tape_wordNames G_told_herdNames G_told_ironNames G_told_beastNames G_draft_herdNames G_draft_ironNames G_draft_beastNames Ph Po Pg ex) (qGi (fun r0 H => (-2147483648 ≤ r0 ∧ r0 ≤ 2147483647) ∧ va_P D vwCl (cW k a q x_xo_lyingCount x_tape_length x_tape_next x_tape_kind x_tape_place x_tape_number x_tape_faultKind x_tape_faultPlace x_told_turns x_told_mirror x_told_night x_told_draw x_told_herds x_told_irons x_told_beasts x_told_linesTold x_tfo_steps x_tfo_units x_draft_turns x_draft_mirror x_draft_night x_draft_draw x_draft_herds x_draft_irons x_draft_beasts x_draft_linesTold x_dfo_steps x_dfo_units x_lat_placements x_smi_irons x_smi_aim x_his_here x_his_undoable x_his_redoable x_book_placedCount x_wit_count x_wit_time n_tape_name B_xo_lying B_tape_bytes B_told_brands B_told_ironMarks B_told_homes B_told_births B_tfo_kinds B_tfo_numbers B_tfo_stack B_tfo_facts B_draft_brands B_draft_ironMarks B_draft_homes B_draft_births B_dfo_kinds B_dfo_numbers B_dfo_stack B_dfo_facts B_lat_lowHalves B_lat_highHalves B_lat_ways B_smi_placedIrons B_smi_within B_smi_costs B_his_isKept B_book_norms B_book_above B_book_heights B_book_placedBrands B_bea_firstGains B_bea_otherGains B_wit_burnings B_wit_strokes B_wit_wasOn B_wit_toldAt B_wit_untoldAt B_wit_on B_wit_off B_wit_firstCounts B_wit_secondCounts Ps Pd G_tape_wordNames G_told_herdNames G_told_ironNames G_told_beastNames G_draft_herdNames G_draft_ironNames G_draft_beastNames Ph Po Pg ex) H)) := by
  refine metG_of 1 ck_X11_iron (Nat.le_of_ble_eq_true rfl) cMap (fun p e s m args below meth c A hx hb hml hr hlocks hown hts hK hD hA hP hS ls hl => ?_)
  have hown : s.vm.findClass "HideReader" = some m.cls := hown
  have hl : lv_has ls 2 [(0, .ref (a 0)), (1, .int (mI p0))] := hl
  refine lv_aload_n hx hb dX11_iron_0 rfl (lv_at hl 0 rfl) ?_
  refine lv_iload_n hx hb dX11_iron_1 rfl (lv_at hl 1 rfl) ?_
  refine g_i (cDt hD) hS hA (g_V (own := "HideReader") (As := [.int (mI p0)]) (rest := []) hx hb hml hown hts hK hP (cDt hD) (kc_X11_isIron (l := l) (D := D) (k := k) (by omega) h_x_told_irons) ck_X11_isIron iv_X11_isIron uw_4_113 (cv_xo hK hP) rfl hl.1 rfl (Nat.le_of_ble_eq_true rfl) dX11_iron_2 ⟨Nat.le_of_ble_eq_true rfl, Nat.le_of_ble_eq_true rfl⟩ ⟨Nat.le_of_ble_eq_true rfl, Nat.le_of_ble_eq_true rfl⟩) (fun r_1 H locs hQ hS => ?_)
  obtain ⟨hq_r_1, hP⟩ := hQ
  rcases hq_r_1 with ⟨rfl, c_2_0⟩ | ⟨rfl, c_3_0, c_3_1, c_3_2⟩
  · skip
    refine sy_if_eq (tgt := 20) hx hb dX11_iron_5 (by decide) (by decide) (fun c_4 => ?_) (fun c9 => absurd c9 (by decide))
    refine lv_iconst (v := mI (-1)) hx hb dX11_iron_20 rfl ?_
    exact r_i hx hb hr hlocks dX11_iron_21 hS ⟨by omega, hP⟩
  · skip
    refine sy_if_eq (tgt := 20) hx hb dX11_iron_5 (by decide) (by decide) (fun c9 => absurd c9 (by decide)) (fun c_5 => ?_)
    refine lv_aload_n hx hb dX11_iron_8 rfl (lv_at hl 0 rfl) ?_
    refine cg_xo_told hx hb hts hown hK hP uw_2_230 dX11_iron_9 ?_
    refine cg_told_ironMarks hx hb hts hown hK hP uw_1_201 dX11_iron_12 ?_
    refine lv_iload_n hx hb dX11_iron_15 rfl (lv_at hl 1 rfl) ?_
    refine cl_told_ironMarks hx hb hK hP dX11_iron_16 (by omega) b_B_told_ironMarks (fun z_6 _ hz_6 => ?_)
    refine lv_goto (tgt := 21) hx hb dX11_iron_17 (by decide) ?_
    exact r_i hx hb hr hlocks dX11_iron_21 hS ⟨by omega, hP⟩
set_option maxHeartbeats 4000000 in
set_option maxRecDepth 100000 in
theorem kc_X11_isBeast {p0 : Int} (hp0 : -2147483648 ≤ p0 ∧ p0 ≤ 2147483647) (h_x_told_beasts : 0 ≤ x_told_beasts ∧ x_told_beasts ≤ 8) : MetG l D k yX11_isBeast cX11_isBeast 2 (some .boolean) 0 [.ref (a 0), .int (mI p0)] (cW k a q x_xo_lyingCount x_tape_length x_tape_next x_tape_kind x_tape_place x_tape_number x_tape_faultKind x_tape_faultPlace x_told_turns x_told_mirror x_told_night x_told_draw x_told_herds x_told_irons x_told_beasts x_told_linesTold x_tfo_steps x_tfo_units x_draft_turns x_draft_mirror x_draft_night x_draft_draw x_draft_herds x_draft_irons x_draft_beasts x_draft_linesTold x_dfo_steps x_dfo_units x_lat_placements x_smi_irons x_smi_aim x_his_here x_his_undoable x_his_redoable x_book_placedCount x_wit_count x_wit_time n_tape_name B_xo_lying B_tape_bytes B_told_brands B_told_ironMarks B_told_homes B_told_births B_tfo_kinds B_tfo_numbers B_tfo_stack B_tfo_facts B_draft_brands B_draft_ironMarks B_draft_homes B_draft_births B_dfo_kinds B_dfo_numbers B_dfo_stack B_dfo_facts B_lat_lowHalves B_lat_highHalves B_lat_ways B_smi_placedIrons B_smi_within B_smi_costs B_his_isKept B_book_norms B_book_above B_book_heights B_book_placedBrands B_bea_firstGains B_bea_otherGains B_wit_burnings B_wit_strokes B_wit_wasOn B_wit_toldAt B_wit_untoldAt B_wit_on B_wit_off B_wit_firstCounts B_wit_secondCounts Ps Pd G_tape_wordNames G_told_herdNames G_told_ironNames G_told_beastNames G_draft_herdNames G_draft_ironNames G_draft_beastNames Ph Po Pg ex) (qGi (fun r0 H => ((0 = r0 ∧ ((p0 < 0) ∨ (p0 ≥ 0 ∧ p0 ≥ x_told_beasts))) ∨ (1 = r0 ∧ (0 ≤ p0 ∧ p0 ≤ 7) ∧ (1 ≤ x_told_beasts ∧ x_told_beasts ≤ 8) ∧ (0 ≤ x_told_beasts - p0 - 1))) ∧ va_P D vwCl (cW k a q x_xo_lyingCount x_tape_length x_tape_next x_tape_kind x_tape_place x_tape_number x_tape_faultKind x_tape_faultPlace x_told_turns x_told_mirror x_told_night x_told_draw x_told_herds x_told_irons x_told_beasts x_told_linesTold x_tfo_steps x_tfo_units x_draft_turns x_draft_mirror x_draft_night x_draft_draw x_draft_herds x_draft_irons x_draft_beasts x_draft_linesTold x_dfo_steps x_dfo_units x_lat_placements x_smi_irons x_smi_aim x_his_here x_his_undoable x_his_redoable x_book_placedCount x_wit_count x_wit_time n_tape_name B_xo_lying B_tape_bytes B_told_brands B_told_ironMarks B_told_homes B_told_births B_tfo_kinds B_tfo_numbers B_tfo_stack B_tfo_facts B_draft_brands B_draft_ironMarks B_draft_homes B_draft_births B_dfo_kinds B_dfo_numbers B_dfo_stack B_dfo_facts B_lat_lowHalves B_lat_highHalves B_lat_ways B_smi_placedIrons B_smi_within B_smi_costs B_his_isKept B_book_norms B_book_above B_book_heights B_book_placedBrands B_bea_firstGains B_bea_otherGains B_wit_burnings B_wit_strokes B_wit_wasOn B_wit_toldAt B_wit_untoldAt B_wit_on B_wit_off B_wit_firstCounts B_wit_secondCounts Ps Pd G_tape_wordNames G_told_herdNames G_told_ironNames G_told_beastNames G_draft_herdNames G_draft_ironNames G_draft_beastNames Ph Po Pg ex) H)) := by
  refine metG_of 1 ck_X11_isBeast (Nat.le_of_ble_eq_true rfl) cMap (fun p e s m args below meth c A hx hb hml hr hlocks hown hts hK hD hA hP hS ls hl => ?_)
  have hown : s.vm.findClass "HideReader" = some m.cls := hown
  have hl : lv_has ls 2 [(0, .ref (a 0)), (1, .int (mI p0))] := hl
  refine lv_iload_n hx hb dX11_isBeast_0 rfl (lv_at hl 1 rfl) ?_
  refine sy_if_lt (tgt := 19) hx hb dX11_isBeast_1 (by decide) (by omega) (fun c_1 => ?_) (fun c_1 => ?_)
  · skip
    refine lv_iconst (v := mI 0) hx hb dX11_isBeast_19 rfl ?_
    exact r_z hx hb hr hlocks dX11_isBeast_20 hS (by decide) ⟨Or.inl (⟨rfl, by omega⟩), hP⟩
  · skip
    refine lv_iload_n hx hb dX11_isBeast_4 rfl (lv_at hl 1 rfl) ?_
    refine lv_aload_n hx hb dX11_isBeast_5 rfl (lv_at hl 0 rfl) ?_
    refine cg_xo_told hx hb hts hown hK hP uw_2_230 dX11_isBeast_6 ?_
    refine cg_told_beasts hx hb hts hown hK hP uw_1_183 dX11_isBeast_9 ?_
    refine sy_icmp_ge (tgt := 19) hx hb dX11_isBeast_12 (by decide) (by omega) (by omega) (fun c_2 => ?_) (fun c_2 => ?_)
    · skip
      refine lv_iconst (v := mI 0) hx hb dX11_isBeast_19 rfl ?_
      exact r_z hx hb hr hlocks dX11_isBeast_20 hS (by decide) ⟨Or.inl (⟨rfl, by omega⟩), hP⟩
    · skip
      refine lv_iconst (v := mI 1) hx hb dX11_isBeast_15 rfl ?_
      refine lv_goto (tgt := 20) hx hb dX11_isBeast_16 (by decide) ?_
      exact r_z hx hb hr hlocks dX11_isBeast_20 hS (by decide) ⟨Or.inr (⟨rfl, by omega, by omega, by omega⟩), hP⟩
set_option maxHeartbeats 4000000 in
set_option maxRecDepth 100000 in
theorem kc_X11_beast {p0 p1 : Int} (hp0 : -2147483648 ≤ p0 ∧ p0 ≤ 2147483647) (hp1 : -2147483648 ≤ p1 ∧ p1 ≤ 2147483647) (h_x_told_herds : 0 ≤ x_told_herds ∧ x_told_herds ≤ 8) (h_x_told_beasts : 0 ≤ x_told_beasts ∧ x_told_beasts ≤ 8) (h_x_tfo_steps : 0 ≤ x_tfo_steps ∧ x_tfo_steps ≤ 270) (h_x_his_here : 0 ≤ x_his_here ∧ x_his_here ≤ 40) (b_B_told_homes : bd (0) 7 B_told_homes) (b_B_told_births : bd (-2147483648) 2147483647 B_told_births) (b_B_tfo_kinds : bd (-2147483648) 2147483647 B_tfo_kinds) (b_B_tfo_numbers : bd (-2147483648) 2147483647 B_tfo_numbers) (b_B_tfo_stack : bd (-2147483648) 2147483647 B_tfo_stack) (b_B_tfo_facts : bd (-2147483648) 2147483647 B_tfo_facts) (b_Ps : bd (-2147483648) 2147483647 Ps) (b_Ph : pb (0) 4095 Ph) (b_Po : pb (0) 7 Po) (b_Pg : pb (-2147483648) 2147483647 Pg) (g_T : tI x_told_herds x_told_beasts B_told_brands B_told_homes) : MetG l D k yX11_beast cX11_beast 4 (some .int) 5 [.ref (a 0), .int (mI p0), .int (mI p1)] (cW k a q x_xo_lyingCount x_tape_length x_tape_next x_tape_kind x_tape_place x_tape_number x_tape_faultKind x_tape_faultPlace x_told_turns x_told_mirror x_told_night x_told_draw x_told_herds x_told_irons x_told_beasts x_told_linesTold x_tfo_steps x_tfo_units x_draft_turns x_draft_mirror x_draft_night x_draft_draw x_draft_herds x_draft_irons x_draft_beasts x_draft_linesTold x_dfo_steps x_dfo_units x_lat_placements x_smi_irons x_smi_aim x_his_here x_his_undoable x_his_redoable x_book_placedCount x_wit_count x_wit_time n_tape_name B_xo_lying B_tape_bytes B_told_brands B_told_ironMarks B_told_homes B_told_births B_tfo_kinds B_tfo_numbers B_tfo_stack B_tfo_facts B_draft_brands B_draft_ironMarks B_draft_homes B_draft_births B_dfo_kinds B_dfo_numbers B_dfo_stack B_dfo_facts B_lat_lowHalves B_lat_highHalves B_lat_ways B_smi_placedIrons B_smi_within B_smi_costs B_his_isKept B_book_norms B_book_above B_book_heights B_book_placedBrands B_bea_firstGains B_bea_otherGains B_wit_burnings B_wit_strokes B_wit_wasOn B_wit_toldAt B_wit_untoldAt B_wit_on B_wit_off B_wit_firstCounts B_wit_secondCounts Ps Pd G_tape_wordNames G_told_herdNames G_told_ironNames G_told_beastNames G_draft_herdNames G_draft_ironNames G_draft_beastNames Ph Po Pg ex) (qGi (fun r0 H => ∃ (F_tfo_stack : Nat → Int) (F_tfo_facts : Nat → Int), (-2147483648 ≤ r0 ∧ r0 ≤ 2147483647) ∧ (bd (-2147483648) 2147483647 F_tfo_stack) ∧ (bd (-2147483648) 2147483647 F_tfo_facts) ∧ va_P D vwCl (cW k a q x_xo_lyingCount x_tape_length x_tape_next x_tape_kind x_tape_place x_tape_number x_tape_faultKind x_tape_faultPlace x_told_turns x_told_mirror x_told_night x_told_draw x_told_herds x_told_irons x_told_beasts x_told_linesTold x_tfo_steps x_tfo_units x_draft_turns x_draft_mirror x_draft_night x_draft_draw x_draft_herds x_draft_irons x_draft_beasts x_draft_linesTold x_dfo_steps x_dfo_units x_lat_placements x_smi_irons x_smi_aim x_his_here x_his_undoable x_his_redoable x_book_placedCount x_wit_count x_wit_time n_tape_name B_xo_lying B_tape_bytes B_told_brands B_told_ironMarks B_told_homes B_told_births B_tfo_kinds B_tfo_numbers F_tfo_stack F_tfo_facts B_draft_brands B_draft_ironMarks B_draft_homes B_draft_births B_dfo_kinds B_dfo_numbers B_dfo_stack B_dfo_facts B_lat_lowHalves B_lat_highHalves B_lat_ways B_smi_placedIrons B_smi_within B_smi_costs B_his_isKept B_book_norms B_book_above B_book_heights B_book_placedBrands B_bea_firstGains B_bea_otherGains B_wit_burnings B_wit_strokes B_wit_wasOn B_wit_toldAt B_wit_untoldAt B_wit_on B_wit_off B_wit_firstCounts B_wit_secondCounts Ps Pd G_tape_wordNames G_told_herdNames G_told_ironNames G_told_beastNames G_draft_herdNames G_draft_ironNames G_draft_beastNames Ph Po Pg ex) H)) := by
  refine metG_of 2 ck_X11_beast (Nat.le_of_ble_eq_true rfl) cMap (fun p e s m args below meth c A hx hb hml hr hlocks hown hts hK hD hA hP hS ls hl => ?_)
  have hown : s.vm.findClass "HideReader" = some m.cls := hown
  have hl : lv_has ls 4 [(0, .ref (a 0)), (1, .int (mI p0)), (2, .int (mI p1))] := hl
  refine lv_aload_n hx hb dX11_beast_0 rfl (lv_at hl 0 rfl) ?_
  refine lv_iload_n hx hb dX11_beast_1 rfl (lv_at hl 1 rfl) ?_
  refine g_i (cDt hD) hS hA (g_V (own := "HideReader") (As := [.int (mI p0)]) (rest := []) hx hb hml hown hts hK hP (cDt hD) (kc_X11_isBeast (l := l) (D := D) (k := k) (by omega) h_x_told_beasts) ck_X11_isBeast iv_X11_isBeast uw_4_121 (cv_xo hK hP) rfl hl.1 rfl (Nat.le_of_ble_eq_true rfl) dX11_beast_2 ⟨Nat.le_of_ble_eq_true rfl, Nat.le_of_ble_eq_true rfl⟩ ⟨Nat.le_of_ble_eq_true rfl, Nat.le_of_ble_eq_true rfl⟩) (fun r_1 H locs hQ hS => ?_)
  obtain ⟨hq_r_1, hP⟩ := hQ
  rcases hq_r_1 with ⟨rfl, c_2_0⟩ | ⟨rfl, c_3_0, c_3_1, c_3_2⟩
  · skip
    refine sy_if_ne (tgt := 10) hx hb dX11_beast_5 (by decide) (by decide) (fun c9 => absurd c9 (by decide)) (fun c_4 => ?_)
    refine lv_iconst (v := mI (-1)) hx hb dX11_beast_8 rfl ?_
    exact r_i hx hb hr hlocks dX11_beast_9 hS ⟨B_tfo_stack, B_tfo_facts, by omega, b_B_tfo_stack, b_B_tfo_facts, hP⟩
  · skip
    refine sy_if_ne (tgt := 10) hx hb dX11_beast_5 (by decide) (by decide) (fun c_5 => ?_) (fun c9 => absurd c9 (by decide))
    refine lv_aload_n hx hb dX11_beast_10 rfl (lv_at hl 0 rfl) ?_
    refine cg_xo_history hx hb hts hown hK hP uw_2_235 dX11_beast_11 ?_
    refine g_r (cDt hD) hS hA (g_V (own := "HideReader") (As := []) (rest := []) hx hb hml hown hts hK hP (cDt hD) (kc_X3_now (l := l) (D := D) (k := k) h_x_his_here) ck_X3_now iv_X3_now uw_4_125 (cv_his hK hP) rfl hl.1 rfl (Nat.le_of_ble_eq_true rfl) dX11_beast_14 ⟨Nat.le_of_ble_eq_true rfl, Nat.le_of_ble_eq_true rfl⟩ ⟨Nat.le_of_ble_eq_true rfl, Nat.le_of_ble_eq_true rfl⟩) (fun r_6 H locs hQ hS => ?_)
    obtain ⟨hr_6_0, hP⟩ := hQ
    subst hr_6_0
    refine lv_astore_n (lv' := [(3, .ref (q (4 * (x_his_here.toNat)))), (0, .ref (a 0)), (1, .int (mI p0)), (2, .int (mI p1))]) hx hb dX11_beast_17 rfl hl (by decide) rfl (fun ls hl => ?_)
    refine lv_iload_n hx hb dX11_beast_18 rfl (lv_at hl 3 rfl) ?_
    rcases (by omega : (p1 < 0 ∨ 5 < p1) ∨ p1 = 0 ∨ p1 = 1 ∨ p1 = 2 ∨ p1 = 3 ∨ p1 = 4 ∨ p1 = 5) with c_7 | c_7 | c_7 | c_7 | c_7 | c_7 | c_7
    · skip
      refine sy_tableOut (tgt := 111) hx hb dX11_beast_19 (by omega) c_7 (by decide) ?_
      refine lv_iconst (v := mI (-1)) hx hb dX11_beast_111 rfl ?_
      exact r_i hx hb hr hlocks dX11_beast_112 hS ⟨B_tfo_stack, B_tfo_facts, by omega, b_B_tfo_stack, b_B_tfo_facts, hP⟩
    · skip
      refine sy_tableIn (tgt := 56) hx hb dX11_beast_19 0 c_7 (by decide) rfl (by decide) ?_
      refine lv_aload_n hx hb dX11_beast_56 rfl (lv_at hl 0 rfl) ?_
      refine cg_past_hides (i := x_his_here.toNat) (by omega) hx hb hts hown hK hP uw_2_88 dX11_beast_57 ?_
      refine lv_iload_n hx hb dX11_beast_60 rfl (lv_at hl 2 rfl) ?_
      refine cl_past_hides (i := x_his_here.toNat) (by omega) hx hb hK hP dX11_beast_61 (by omega) b_Ph (fun z_8 _ hz_8 => ?_)
      exact r_i hx hb hr hlocks dX11_beast_62 hS ⟨B_tfo_stack, B_tfo_facts, by omega, b_B_tfo_stack, b_B_tfo_facts, hP⟩
    · skip
      refine sy_tableIn (tgt := 63) hx hb dX11_beast_19 1 c_7 (by decide) rfl (by decide) ?_
      refine lv_aload_n hx hb dX11_beast_63 rfl (lv_at hl 1 rfl) ?_
      refine cg_xo_beasts hx hb hts hown hK hP uw_2_237 dX11_beast_64 ?_
      refine lv_aload_n hx hb dX11_beast_67 rfl (lv_at hl 0 rfl) ?_
      refine lv_iload_n hx hb dX11_beast_68 rfl (lv_at hl 2 rfl) ?_
      refine lv_iconst (v := mI 0) hx hb dX11_beast_69 rfl ?_
      refine g_i (cDt hD) hS hA (g_V (own := "HideReader") (As := [.ref (q (4 * (x_his_here.toNat))), .int (mI p0), .int (mI 0)]) (rest := []) hx hb hml hown hts hK hP (cDt hD) (kc_X0_showing (l := l) (D := D) (k := k) (i0 := x_his_here.toNat) (by omega) (by omega) (by decide) h_x_tfo_steps b_B_told_births b_B_tfo_kinds b_B_tfo_numbers b_B_tfo_stack b_B_tfo_facts b_Ps b_Ph b_Pg) ck_X0_showing iv_X0_showing uw_4_126 (cv_bea hK hP) rfl hl.1 rfl (Nat.le_of_ble_eq_true rfl) dX11_beast_70 ⟨Nat.le_of_ble_eq_true rfl, Nat.le_of_ble_eq_true rfl⟩ ⟨Nat.le_of_ble_eq_true rfl, Nat.le_of_ble_eq_true rfl⟩) (fun r_9 H locs hQ hS => ?_)
      obtain ⟨F_10, F_11, hr_9_0, bF_10, bF_11, hP⟩ := hQ
      exact r_i hx hb hr hlocks dX11_beast_73 hS ⟨F_10, F_11, by omega, bF_10, bF_11, hP⟩
    · skip
      refine sy_tableIn (tgt := 74) hx hb dX11_beast_19 2 c_7 (by decide) rfl (by decide) ?_
      refine lv_aload_n hx hb dX11_beast_74 rfl (lv_at hl 0 rfl) ?_
      refine cg_past_owners (i := x_his_here.toNat) (by omega) hx hb hts hown hK hP uw_2_90 dX11_beast_75 ?_
      refine lv_iload_n hx hb dX11_beast_78 rfl (lv_at hl 2 rfl) ?_
      refine cl_past_owners (i := x_his_here.toNat) (by omega) hx hb hK hP dX11_beast_79 (by omega) b_Po (fun z_12 _ hz_12 => ?_)
      exact r_i hx hb hr hlocks dX11_beast_80 hS ⟨B_tfo_stack, B_tfo_facts, by omega, b_B_tfo_stack, b_B_tfo_facts, hP⟩
    · skip
      refine sy_tableIn (tgt := 81) hx hb dX11_beast_19 3 c_7 (by decide) rfl (by decide) ?_
      refine lv_aload_n hx hb dX11_beast_81 rfl (lv_at hl 1 rfl) ?_
      refine cg_xo_told hx hb hts hown hK hP uw_2_230 dX11_beast_82 ?_
      refine cg_told_homes hx hb hts hown hK hP uw_1_206 dX11_beast_85 ?_
      refine lv_iload_n hx hb dX11_beast_88 rfl (lv_at hl 2 rfl) ?_
      refine cl_told_homes hx hb hK hP dX11_beast_89 (by omega) b_B_told_homes (fun z_13 ez_13 hz_13 => ?_)
      have tz_13 := tI_h g_T (by omega) ez_13
      exact r_i hx hb hr hlocks dX11_beast_90 hS ⟨B_tfo_stack, B_tfo_facts, by omega, b_B_tfo_stack, b_B_tfo_facts, hP⟩
    · skip
      refine sy_tableIn (tgt := 91) hx hb dX11_beast_19 4 c_7 (by decide) rfl (by decide) ?_
      refine lv_aload_n hx hb dX11_beast_91 rfl (lv_at hl 1 rfl) ?_
      refine cg_xo_told hx hb hts hown hK hP uw_2_230 dX11_beast_92 ?_
      refine cg_told_births hx hb hts hown hK hP uw_1_211 dX11_beast_95 ?_
      refine lv_iload_n hx hb dX11_beast_98 rfl (lv_at hl 2 rfl) ?_
      refine cl_told_births hx hb hK hP dX11_beast_99 (by omega) b_B_told_births (fun z_14 _ hz_14 => ?_)
      exact r_i hx hb hr hlocks dX11_beast_100 hS ⟨B_tfo_stack, B_tfo_facts, by omega, b_B_tfo_stack, b_B_tfo_facts, hP⟩
    · skip
      refine sy_tableIn (tgt := 101) hx hb dX11_beast_19 5 c_7 (by decide) rfl (by decide) ?_
      refine lv_aload_n hx hb dX11_beast_101 rfl (lv_at hl 0 rfl) ?_
      refine cg_past_hides (i := x_his_here.toNat) (by omega) hx hb hts hown hK hP uw_2_88 dX11_beast_102 ?_
      refine lv_iload_n hx hb dX11_beast_105 rfl (lv_at hl 2 rfl) ?_
      refine cl_past_hides (i := x_his_here.toNat) (by omega) hx hb hK hP dX11_beast_106 (by omega) b_Ph (fun z_15 _ hz_15 => ?_)
      refine g_i (cDt hD) hS hA (g_S (own := "HideReader") (As := [.int (mI z_15)]) (rest := []) hx hb hml hown hts hK hP (cDt hD) (kc_bitCount (l := l) (D := D) (k := k) (by omega)) ck_J6_bitCount_0f7a4 uw_4_140 uw_4_157 rfl hl.1 rfl (Nat.le_of_ble_eq_true rfl) dX11_beast_107 ⟨Nat.le_of_ble_eq_true rfl, Nat.le_of_ble_eq_true rfl⟩ ⟨Nat.le_of_ble_eq_true rfl, Nat.le_of_ble_eq_true rfl⟩) (fun r_16 H locs hQ hS => ?_)
      obtain ⟨hr_16_0, hP⟩ := hQ
      exact r_i hx hb hr hlocks dX11_beast_110 hS ⟨B_tfo_stack, B_tfo_facts, by omega, b_B_tfo_stack, b_B_tfo_facts, hP⟩
set_option maxHeartbeats 4000000 in
set_option maxRecDepth 100000 in
theorem kc_X11_isStroke {p0 : Int} (hp0 : -2147483648 ≤ p0 ∧ p0 ≤ 2147483647) : MetG l D k yX11_isStroke cX11_isStroke 1 (some .boolean) 0 [.int (mI p0)] (cW k a q x_xo_lyingCount x_tape_length x_tape_next x_tape_kind x_tape_place x_tape_number x_tape_faultKind x_tape_faultPlace x_told_turns x_told_mirror x_told_night x_told_draw x_told_herds x_told_irons x_told_beasts x_told_linesTold x_tfo_steps x_tfo_units x_draft_turns x_draft_mirror x_draft_night x_draft_draw x_draft_herds x_draft_irons x_draft_beasts x_draft_linesTold x_dfo_steps x_dfo_units x_lat_placements x_smi_irons x_smi_aim x_his_here x_his_undoable x_his_redoable x_book_placedCount x_wit_count x_wit_time n_tape_name B_xo_lying B_tape_bytes B_told_brands B_told_ironMarks B_told_homes B_told_births B_tfo_kinds B_tfo_numbers B_tfo_stack B_tfo_facts B_draft_brands B_draft_ironMarks B_draft_homes B_draft_births B_dfo_kinds B_dfo_numbers B_dfo_stack B_dfo_facts B_lat_lowHalves B_lat_highHalves B_lat_ways B_smi_placedIrons B_smi_within B_smi_costs B_his_isKept B_book_norms B_book_above B_book_heights B_book_placedBrands B_bea_firstGains B_bea_otherGains B_wit_burnings B_wit_strokes B_wit_wasOn B_wit_toldAt B_wit_untoldAt B_wit_on B_wit_off B_wit_firstCounts B_wit_secondCounts Ps Pd G_tape_wordNames G_told_herdNames G_told_ironNames G_told_beastNames G_draft_herdNames G_draft_ironNames G_draft_beastNames Ph Po Pg ex) (qGi (fun r0 H => ((0 = r0 ∧ ((p0 < 0) ∨ (p0 ≥ 0 ∧ p0 ≥ 12))) ∨ (1 = r0 ∧ (0 ≤ p0 ∧ p0 ≤ 11))) ∧ va_P D vwCl (cW k a q x_xo_lyingCount x_tape_length x_tape_next x_tape_kind x_tape_place x_tape_number x_tape_faultKind x_tape_faultPlace x_told_turns x_told_mirror x_told_night x_told_draw x_told_herds x_told_irons x_told_beasts x_told_linesTold x_tfo_steps x_tfo_units x_draft_turns x_draft_mirror x_draft_night x_draft_draw x_draft_herds x_draft_irons x_draft_beasts x_draft_linesTold x_dfo_steps x_dfo_units x_lat_placements x_smi_irons x_smi_aim x_his_here x_his_undoable x_his_redoable x_book_placedCount x_wit_count x_wit_time n_tape_name B_xo_lying B_tape_bytes B_told_brands B_told_ironMarks B_told_homes B_told_births B_tfo_kinds B_tfo_numbers B_tfo_stack B_tfo_facts B_draft_brands B_draft_ironMarks B_draft_homes B_draft_births B_dfo_kinds B_dfo_numbers B_dfo_stack B_dfo_facts B_lat_lowHalves B_lat_highHalves B_lat_ways B_smi_placedIrons B_smi_within B_smi_costs B_his_isKept B_book_norms B_book_above B_book_heights B_book_placedBrands B_bea_firstGains B_bea_otherGains B_wit_burnings B_wit_strokes B_wit_wasOn B_wit_toldAt B_wit_untoldAt B_wit_on B_wit_off B_wit_firstCounts B_wit_secondCounts Ps Pd G_tape_wordNames G_told_herdNames G_told_ironNames G_told_beastNames G_draft_herdNames G_draft_ironNames G_draft_beastNames Ph Po Pg ex) H)) := by
  refine metG_of 1 ck_X11_isStroke (Nat.le_of_ble_eq_true rfl) cMap (fun p e s m args below meth c A hx hb hml hr hlocks hown hts hK hD hA hP hS ls hl => ?_)
  have hown : s.vm.findClass "HideReader" = some m.cls := hown
  have hl : lv_has ls 1 [(0, .int (mI p0))] := hl
  refine lv_iload_n hx hb dX11_isStroke_0 rfl (lv_at hl 0 rfl) ?_
  refine sy_if_lt (tgt := 14) hx hb dX11_isStroke_1 (by decide) (by omega) (fun c_1 => ?_) (fun c_1 => ?_)
  · skip
    refine lv_iconst (v := mI 0) hx hb dX11_isStroke_14 rfl ?_
    exact r_z hx hb hr hlocks dX11_isStroke_15 hS (by decide) ⟨Or.inl (⟨rfl, by omega⟩), hP⟩
  · skip
    refine lv_iload_n hx hb dX11_isStroke_4 rfl (lv_at hl 0 rfl) ?_
    refine lv_bipush (v := mI 12) hx hb dX11_isStroke_5 (by decide) ?_
    refine sy_icmp_ge (tgt := 14) hx hb dX11_isStroke_7 (by decide) (by omega) (by decide) (fun c_2 => ?_) (fun c_2 => ?_)
    · skip
      refine lv_iconst (v := mI 0) hx hb dX11_isStroke_14 rfl ?_
      exact r_z hx hb hr hlocks dX11_isStroke_15 hS (by decide) ⟨Or.inl (⟨rfl, by omega⟩), hP⟩
    · skip
      refine lv_iconst (v := mI 1) hx hb dX11_isStroke_10 rfl ?_
      refine lv_goto (tgt := 15) hx hb dX11_isStroke_11 (by decide) ?_
      exact r_z hx hb hr hlocks dX11_isStroke_15 hS (by decide) ⟨Or.inr (⟨rfl, by omega⟩), hP⟩
set_option maxHeartbeats 4000000 in
set_option maxRecDepth 100000 in
theorem kc_X11_age {p0 p1 : Int} (hp0 : -2147483648 ≤ p0 ∧ p0 ≤ 2147483647) (hp1 : -2147483648 ≤ p1 ∧ p1 ≤ 2147483647) (h_x_told_beasts : 0 ≤ x_told_beasts ∧ x_told_beasts ≤ 8) (h_x_his_here : 0 ≤ x_his_here ∧ x_his_here ≤ 40) (b_Ph : pb (0) 4095 Ph) (b_Pg : pb (-2147483648) 2147483647 Pg) : MetG l D k yX11_age cX11_age 3 (some .int) 1 [.ref (a 0), .int (mI p0), .int (mI p1)] (cW k a q x_xo_lyingCount x_tape_length x_tape_next x_tape_kind x_tape_place x_tape_number x_tape_faultKind x_tape_faultPlace x_told_turns x_told_mirror x_told_night x_told_draw x_told_herds x_told_irons x_told_beasts x_told_linesTold x_tfo_steps x_tfo_units x_draft_turns x_draft_mirror x_draft_night x_draft_draw x_draft_herds x_draft_irons x_draft_beasts x_draft_linesTold x_dfo_steps x_dfo_units x_lat_placements x_smi_irons x_smi_aim x_his_here x_his_undoable x_his_redoable x_book_placedCount x_wit_count x_wit_time n_tape_name B_xo_lying B_tape_bytes B_told_brands B_told_ironMarks B_told_homes B_told_births B_tfo_kinds B_tfo_numbers B_tfo_stack B_tfo_facts B_draft_brands B_draft_ironMarks B_draft_homes B_draft_births B_dfo_kinds B_dfo_numbers B_dfo_stack B_dfo_facts B_lat_lowHalves B_lat_highHalves B_lat_ways B_smi_placedIrons B_smi_within B_smi_costs B_his_isKept B_book_norms B_book_above B_book_heights B_book_placedBrands B_bea_firstGains B_bea_otherGains B_wit_burnings B_wit_strokes B_wit_wasOn B_wit_toldAt B_wit_untoldAt B_wit_on B_wit_off B_wit_firstCounts B_wit_secondCounts Ps Pd G_tape_wordNames G_told_herdNames G_told_ironNames G_told_beastNames G_draft_herdNames G_draft_ironNames G_draft_beastNames Ph Po Pg ex) (qGi (fun r0 H => (-2147483648 ≤ r0 ∧ r0 ≤ 2147483647) ∧ va_P D vwCl (cW k a q x_xo_lyingCount x_tape_length x_tape_next x_tape_kind x_tape_place x_tape_number x_tape_faultKind x_tape_faultPlace x_told_turns x_told_mirror x_told_night x_told_draw x_told_herds x_told_irons x_told_beasts x_told_linesTold x_tfo_steps x_tfo_units x_draft_turns x_draft_mirror x_draft_night x_draft_draw x_draft_herds x_draft_irons x_draft_beasts x_draft_linesTold x_dfo_steps x_dfo_units x_lat_placements x_smi_irons x_smi_aim x_his_here x_his_undoable x_his_redoable x_book_placedCount x_wit_count x_wit_time n_tape_name B_xo_lying B_tape_bytes B_told_brands B_told_ironMarks B_told_homes B_told_births B_tfo_kinds B_tfo_numbers B_tfo_stack B_tfo_facts B_draft_brands B_draft_ironMarks B_draft_homes B_draft_births B_dfo_kinds B_dfo_numbers B_dfo_stack B_dfo_facts B_lat_lowHalves B_lat_highHalves B_lat_ways B_smi_placedIrons B_smi_within B_smi_costs B_his_isKept B_book_norms B_book_above B_book_heights B_book_placedBrands B_bea_firstGains B_bea_otherGains B_wit_burnings B_wit_strokes B_wit_wasOn B_wit_toldAt B_wit_untoldAt B_wit_on B_wit_off B_wit_firstCounts B_wit_secondCounts Ps Pd G_tape_wordNames G_told_herdNames G_told_ironNames G_told_beastNames G_draft_herdNames G_draft_ironNames G_draft_beastNames Ph Po Pg ex) H)) := by
  refine metG_of 2 ck_X11_age (Nat.le_of_ble_eq_true rfl) cMap (fun p e s m args below meth c A hx hb hml hr hlocks hown hts hK hD hA hP hS ls hl => ?_)
  have hown : s.vm.findClass "HideReader" = some m.cls := hown
  have hl : lv_has ls 3 [(0, .ref (a 0)), (1, .int (mI p0)), (2, .int (mI p1))] := hl
  refine lv_aload_n hx hb dX11_age_0 rfl (lv_at hl 0 rfl) ?_
  refine lv_iload_n hx hb dX11_age_1 rfl (lv_at hl 1 rfl) ?_
  refine g_i (cDt hD) hS hA (g_V (own := "HideReader") (As := [.int (mI p0)]) (rest := []) hx hb hml hown hts hK hP (cDt hD) (kc_X11_isBeast (l := l) (D := D) (k := k) (by omega) h_x_told_beasts) ck_X11_isBeast iv_X11_isBeast uw_4_121 (cv_xo hK hP) rfl hl.1 rfl (Nat.le_of_ble_eq_true rfl) dX11_age_2 ⟨Nat.le_of_ble_eq_true rfl, Nat.le_of_ble_eq_true rfl⟩ ⟨Nat.le_of_ble_eq_true rfl, Nat.le_of_ble_eq_true rfl⟩) (fun r_1 H locs hQ hS => ?_)
  obtain ⟨hq_r_1, hP⟩ := hQ
  rcases hq_r_1 with ⟨rfl, c_2_0⟩ | ⟨rfl, c_3_0, c_3_1, c_3_2⟩
  · skip
    refine sy_if_eq (tgt := 15) hx hb dX11_age_5 (by decide) (by decide) (fun c_4 => ?_) (fun c9 => absurd c9 (by decide))
    refine lv_iconst (v := mI (-1)) hx hb dX11_age_15 rfl ?_
    exact r_i hx hb hr hlocks dX11_age_16 hS ⟨by omega, hP⟩
  · skip
    refine sy_if_eq (tgt := 15) hx hb dX11_age_5 (by decide) (by decide) (fun c9 => absurd c9 (by decide)) (fun c_5 => ?_)
    refine lv_iload_n hx hb dX11_age_8 rfl (lv_at hl 2 rfl) ?_
    refine g_i (cDt hD) hS hA (g_S (own := "HideReader") (As := [.int (mI p1)]) (rest := []) hx hb hml hown hts hK hP (cDt hD) (kc_X11_isStroke (l := l) (D := D) (k := k) (by omega)) ck_X11_isStroke uw_4_163 uw_4_162 rfl hl.1 rfl (Nat.le_of_ble_eq_true rfl) dX11_age_9 ⟨Nat.le_of_ble_eq_true rfl, Nat.le_of_ble_eq_true rfl⟩ ⟨Nat.le_of_ble_eq_true rfl, Nat.le_of_ble_eq_true rfl⟩) (fun r_6 H locs hQ hS => ?_)
    obtain ⟨hq_r_6, hP⟩ := hQ
    rcases hq_r_6 with ⟨rfl, c_7_0⟩ | ⟨rfl, c_8_0⟩
    · skip
      refine sy_if_ne (tgt := 17) hx hb dX11_age_12 (by decide) (by decide) (fun c9 => absurd c9 (by decide)) (fun c_9 => ?_)
      refine lv_iconst (v := mI (-1)) hx hb dX11_age_15 rfl ?_
      exact r_i hx hb hr hlocks dX11_age_16 hS ⟨by omega, hP⟩
    · skip
      refine sy_if_ne (tgt := 17) hx hb dX11_age_12 (by decide) (by decide) (fun c_10 => ?_) (fun c9 => absurd c9 (by decide))
      refine lv_aload_n hx hb dX11_age_17 rfl (lv_at hl 0 rfl) ?_
      refine cg_xo_history hx hb hts hown hK hP uw_2_235 dX11_age_18 ?_
      refine g_r (cDt hD) hS hA (g_V (own := "HideReader") (As := []) (rest := []) hx hb hml hown hts hK hP (cDt hD) (kc_X3_now (l := l) (D := D) (k := k) h_x_his_here) ck_X3_now iv_X3_now uw_4_125 (cv_his hK hP) rfl hl.1 rfl (Nat.le_of_ble_eq_true rfl) dX11_age_21 ⟨Nat.le_of_ble_eq_true rfl, Nat.le_of_ble_eq_true rfl⟩ ⟨Nat.le_of_ble_eq_true rfl, Nat.le_of_ble_eq_true rfl⟩) (fun r_11 H locs hQ hS => ?_)
      obtain ⟨hr_11_0, hP⟩ := hQ
      subst hr_11_0
      refine lv_iload_n hx hb dX11_age_24 rfl (lv_at hl 1 rfl) ?_
      refine lv_iload_n hx hb dX11_age_25 rfl (lv_at hl 2 rfl) ?_
      refine g_i (cDt hD) hS hA (g_V (own := "HideReader") (As := [.int (mI p0), .int (mI p1)]) (rest := []) hx hb hml hown hts hK hP (cDt hD) (kc_X5_ageOf (l := l) (D := D) (k := k) (iR := x_his_here.toNat) (by omega) (by omega) (by omega) b_Ph b_Pg) ck_X5_ageOf iv_X5_ageOf uw_4_165 (cv_past (i := x_his_here.toNat) (by omega) hK hP) rfl hl.1 rfl (Nat.le_of_ble_eq_true rfl) dX11_age_26 ⟨Nat.le_of_ble_eq_true rfl, Nat.le_of_ble_eq_true rfl⟩ ⟨Nat.le_of_ble_eq_true rfl, Nat.le_of_ble_eq_true rfl⟩) (fun r_12 H locs hQ hS => ?_)
      obtain ⟨hr_12_0, hP⟩ := hQ
      exact r_i hx hb hr hlocks dX11_age_29 hS ⟨by omega, hP⟩
end Kc
