section Kc
variable {l : Launch} {D : va_G} {k : Nat → ClassId} {a : Nat → Nat} {ex : va_W} {x_xo_lyingCount x_tape_length x_tape_next x_tape_kind x_tape_place x_tape_number x_tape_faultKind x_tape_faultPlace x_told_turns x_told_mirror x_told_night x_told_draw x_told_herds x_told_irons x_told_beasts x_told_linesTold x_tfo_steps x_tfo_units x_draft_turns x_draft_mirror x_draft_night x_draft_draw x_draft_herds x_draft_irons x_draft_beasts x_draft_linesTold x_dfo_steps x_dfo_units x_lat_placements x_smi_irons x_smi_aim x_his_here x_his_undoable x_his_redoable x_book_placedCount x_wit_count x_wit_time : Int} {n_tape_name : Int64} {B_xo_lying B_tape_bytes B_told_brands B_told_ironMarks B_told_homes B_told_births B_tfo_kinds B_tfo_numbers B_tfo_stack B_tfo_facts B_draft_brands B_draft_ironMarks B_draft_homes B_draft_births B_dfo_kinds B_dfo_numbers B_dfo_stack B_dfo_facts B_lat_lowHalves B_lat_highHalves B_lat_ways B_smi_placedIrons B_smi_within B_smi_costs B_his_isKept B_book_norms B_book_above B_book_heights B_book_placedBrands B_bea_firstGains B_bea_otherGains B_wit_burnings B_wit_strokes B_wit_wasOn B_wit_toldAt B_wit_untoldAt B_wit_on B_wit_off B_wit_firstCounts B_wit_secondCounts Ps Pd : Nat → Int} {G_tape_wordNames G_told_herdNames G_told_ironNames G_told_beastNames G_draft_herdNames G_draft_ironNames G_draft_beastNames : Nat → Int64} {Ph Po Pg : Nat → Nat → Int} {q : Nat → Nat}
set_option maxHeartbeats 4000000 in
set_option maxRecDepth 100000 in
theorem kc_X2_add_dfo {p0 p1 : Int} (hp0 : -2147483648 ≤ p0 ∧ p0 ≤ 2147483647) (hp1 : -2147483648 ≤ p1 ∧ p1 ≤ 2147483647) (h_x_dfo_steps : 0 ≤ x_dfo_steps ∧ x_dfo_steps ≤ 270) (b_B_dfo_kinds : bd (-2147483648) 2147483647 B_dfo_kinds) (b_B_dfo_numbers : bd (-2147483648) 2147483647 B_dfo_numbers) : MetG l D k yX2_add cX2_add 3 none 0 [.ref (a 26), .int (mI p0), .int (mI p1)] (cW k a q x_xo_lyingCount x_tape_length x_tape_next x_tape_kind x_tape_place x_tape_number x_tape_faultKind x_tape_faultPlace x_told_turns x_told_mirror x_told_night x_told_draw x_told_herds x_told_irons x_told_beasts x_told_linesTold x_tfo_steps x_tfo_units x_draft_turns x_draft_mirror x_draft_night x_draft_draw x_draft_herds x_draft_irons x_draft_beasts x_draft_linesTold x_dfo_steps x_dfo_units x_lat_placements x_smi_irons x_smi_aim x_his_here x_his_undoable x_his_redoable x_book_placedCount x_wit_count x_wit_time n_tape_name B_xo_lying B_tape_bytes B_told_brands B_told_ironMarks B_told_homes B_told_births B_tfo_kinds B_tfo_numbers B_tfo_stack B_tfo_facts B_draft_brands B_draft_ironMarks B_draft_homes B_draft_births B_dfo_kinds B_dfo_numbers B_dfo_stack B_dfo_facts B_lat_lowHalves B_lat_highHalves B_lat_ways B_smi_placedIrons B_smi_within B_smi_costs B_his_isKept B_book_norms B_book_above B_book_heights B_book_placedBrands B_bea_firstGains B_bea_otherGains B_wit_burnings B_wit_strokes B_wit_wasOn B_wit_toldAt B_wit_untoldAt B_wit_on B_wit_off B_wit_firstCounts B_wit_secondCounts Ps Pd G_tape_wordNames G_told_herdNames G_told_ironNames G_told_beastNames G_draft_herdNames G_draft_ironNames G_draft_beastNames Ph Po Pg ex) (qGv (fun H => ∃ (F_dfo_kinds : Nat → Int) (F_dfo_numbers : Nat → Int) (y_dfo_steps : Int), (bd (-2147483648) 2147483647 F_dfo_kinds) ∧ (bd (-2147483648) 2147483647 F_dfo_numbers) ∧ (1 ≤ y_dfo_steps ∧ y_dfo_steps ≤ 270) ∧ (0 ≤ y_dfo_steps - x_dfo_steps) ∧ va_P D vwCl (cW k a q x_xo_lyingCount x_tape_length x_tape_next x_tape_kind x_tape_place x_tape_number x_tape_faultKind x_tape_faultPlace x_told_turns x_told_mirror x_told_night x_told_draw x_told_herds x_told_irons x_told_beasts x_told_linesTold x_tfo_steps x_tfo_units x_draft_turns x_draft_mirror x_draft_night x_draft_draw x_draft_herds x_draft_irons x_draft_beasts x_draft_linesTold y_dfo_steps x_dfo_units x_lat_placements x_smi_irons x_smi_aim x_his_here x_his_undoable x_his_redoable x_book_placedCount x_wit_count x_wit_time n_tape_name B_xo_lying B_tape_bytes B_told_brands B_told_ironMarks B_told_homes B_told_births B_tfo_kinds B_tfo_numbers B_tfo_stack B_tfo_facts B_draft_brands B_draft_ironMarks B_draft_homes B_draft_births F_dfo_kinds F_dfo_numbers B_dfo_stack B_dfo_facts B_lat_lowHalves B_lat_highHalves B_lat_ways B_smi_placedIrons B_smi_within B_smi_costs B_his_isKept B_book_norms B_book_above B_book_heights B_book_placedBrands B_bea_firstGains B_bea_otherGains B_wit_burnings B_wit_strokes B_wit_wasOn B_wit_toldAt B_wit_untoldAt B_wit_on B_wit_off B_wit_firstCounts B_wit_secondCounts Ps Pd G_tape_wordNames G_told_herdNames G_told_ironNames G_told_beastNames G_draft_herdNames G_draft_ironNames G_draft_beastNames Ph Po Pg ex) H)) := by
  refine metG_of 2 ck_X2_add (Nat.le_of_ble_eq_true rfl) cMap (fun p e s m args below meth c A hx hb hml hr hlocks hown hts hK hD hA hP hS ls hl => ?_)
  have hown : s.vm.findClass "HideReader$Formula" = some m.cls := hown
  have hl : lv_has ls 3 [(0, .ref (a 26)), (1, .int (mI p0)), (2, .int (mI p1))] := hl
  refine lv_aload_n hx hb dX2_add_0 rfl (lv_at hl 0 rfl) ?_
  refine cg_dfo_steps hx hb hts hown hK hP uw_1_140 dX2_add_1 ?_
  refine lv_sipush (v := mI 270) hx hb dX2_add_4 (by decide) ?_
  refine sy_icmp_ge (tgt := 40) hx hb dX2_add_7 (by decide) (by omega) (by decide) (fun c_1 => ?_) (fun c_1 => ?_)
  · skip
    exact r_v hx hb hr hlocks dX2_add_40 hS ⟨B_dfo_kinds, B_dfo_numbers, x_dfo_steps, b_B_dfo_kinds, b_B_dfo_numbers, by omega, by omega, hP⟩
  · skip
    refine lv_aload_n hx hb dX2_add_10 rfl (lv_at hl 0 rfl) ?_
    refine cg_dfo_kinds hx hb hts hown hK hP uw_1_136 dX2_add_11 ?_
    refine lv_aload_n hx hb dX2_add_14 rfl (lv_at hl 0 rfl) ?_
    refine cg_dfo_steps hx hb hts hown hK hP uw_1_140 dX2_add_15 ?_
    refine lv_iload_n hx hb dX2_add_18 rfl (lv_at hl 1 rfl) ?_
    refine cs_dfo_kinds hx hb hK hP hD hS dX2_add_19 (by omega) b_B_dfo_kinds (by omega) (fun F_2 H locs _ bF_2 hP hS => ?_)
    refine lv_aload_n hx hb dX2_add_20 rfl (lv_at hl 0 rfl) ?_
    refine cg_dfo_numbers hx hb hts hown hK hP uw_1_137 dX2_add_21 ?_
    refine lv_aload_n hx hb dX2_add_24 rfl (lv_at hl 0 rfl) ?_
    refine cg_dfo_steps hx hb hts hown hK hP uw_1_140 dX2_add_25 ?_
    refine lv_iload_n hx hb dX2_add_28 rfl (lv_at hl 2 rfl) ?_
    refine cs_dfo_numbers hx hb hK hP hD hS dX2_add_29 (by omega) b_B_dfo_numbers (by omega) (fun F_3 H locs _ bF_3 hP hS => ?_)
    refine lv_aload_n hx hb dX2_add_30 rfl (lv_at hl 0 rfl) ?_
    refine lv_dup hx hb dX2_add_31 rfl ?_
    refine cg_dfo_steps hx hb hts hown hK hP uw_1_140 dX2_add_32 ?_
    refine lv_iconst (v := mI 1) hx hb dX2_add_35 rfl ?_
    refine sy_iadd hx hb dX2_add_36 (x_dfo_steps + 1) rfl ?_
    refine cp_dfo_steps hx hb hts hown hK hP hD hS uw_1_140 dX2_add_37 (fun H locs hP hS => ?_)
    exact r_v hx hb hr hlocks dX2_add_40 hS ⟨F_2, F_3, (x_dfo_steps + 1), bF_2, bF_3, by omega, by omega, hP⟩
set_option maxHeartbeats 4000000 in
set_option maxRecDepth 100000 in
theorem kc_X7_fail_vz {p0 : Int} (hp0 : 1 ≤ p0 ∧ p0 ≤ 5) (h_x_tape_place : 0 ≤ x_tape_place ∧ x_tape_place ≤ 1600) (h_x_tape_faultKind : 0 ≤ x_tape_faultKind ∧ x_tape_faultKind ≤ 0) : MetG l D k yX7_fail cX7_fail 2 none 0 [.ref (a 2), .int (mI p0)] (cW k a q x_xo_lyingCount x_tape_length x_tape_next x_tape_kind x_tape_place x_tape_number x_tape_faultKind x_tape_faultPlace x_told_turns x_told_mirror x_told_night x_told_draw x_told_herds x_told_irons x_told_beasts x_told_linesTold x_tfo_steps x_tfo_units x_draft_turns x_draft_mirror x_draft_night x_draft_draw x_draft_herds x_draft_irons x_draft_beasts x_draft_linesTold x_dfo_steps x_dfo_units x_lat_placements x_smi_irons x_smi_aim x_his_here x_his_undoable x_his_redoable x_book_placedCount x_wit_count x_wit_time n_tape_name B_xo_lying B_tape_bytes B_told_brands B_told_ironMarks B_told_homes B_told_births B_tfo_kinds B_tfo_numbers B_tfo_stack B_tfo_facts B_draft_brands B_draft_ironMarks B_draft_homes B_draft_births B_dfo_kinds B_dfo_numbers B_dfo_stack B_dfo_facts B_lat_lowHalves B_lat_highHalves B_lat_ways B_smi_placedIrons B_smi_within B_smi_costs B_his_isKept B_book_norms B_book_above B_book_heights B_book_placedBrands B_bea_firstGains B_bea_otherGains B_wit_burnings B_wit_strokes B_wit_wasOn B_wit_toldAt B_wit_untoldAt B_wit_on B_wit_off B_wit_firstCounts B_wit_secondCounts Ps Pd G_tape_wordNames G_told_herdNames G_told_ironNames G_told_beastNames G_draft_herdNames G_draft_ironNames G_draft_beastNames Ph Po Pg ex) (qGv (fun H => ∃ (y_tape_kind : Int) (y_tape_faultKind : Int) (y_tape_faultPlace : Int), (203 ≤ y_tape_kind ∧ y_tape_kind ≤ 203) ∧ (1 ≤ y_tape_faultKind ∧ y_tape_faultKind ≤ 5) ∧ (0 ≤ y_tape_faultPlace ∧ y_tape_faultPlace ≤ 1600) ∧ (0 ≤ y_tape_faultKind - x_tape_faultKind) ∧ (¬ y_tape_kind = 201 ∨ 0 ≤ x_tape_number) ∧ (dI y_tape_faultKind x_draft_herds x_draft_beasts x_draft_draw B_draft_brands B_draft_homes) ∧ va_P D vwCl (cW k a q x_xo_lyingCount x_tape_length x_tape_next y_tape_kind x_tape_place x_tape_number y_tape_faultKind y_tape_faultPlace x_told_turns x_told_mirror x_told_night x_told_draw x_told_herds x_told_irons x_told_beasts x_told_linesTold x_tfo_steps x_tfo_units x_draft_turns x_draft_mirror x_draft_night x_draft_draw x_draft_herds x_draft_irons x_draft_beasts x_draft_linesTold x_dfo_steps x_dfo_units x_lat_placements x_smi_irons x_smi_aim x_his_here x_his_undoable x_his_redoable x_book_placedCount x_wit_count x_wit_time n_tape_name B_xo_lying B_tape_bytes B_told_brands B_told_ironMarks B_told_homes B_told_births B_tfo_kinds B_tfo_numbers B_tfo_stack B_tfo_facts B_draft_brands B_draft_ironMarks B_draft_homes B_draft_births B_dfo_kinds B_dfo_numbers B_dfo_stack B_dfo_facts B_lat_lowHalves B_lat_highHalves B_lat_ways B_smi_placedIrons B_smi_within B_smi_costs B_his_isKept B_book_norms B_book_above B_book_heights B_book_placedBrands B_bea_firstGains B_bea_otherGains B_wit_burnings B_wit_strokes B_wit_wasOn B_wit_toldAt B_wit_untoldAt B_wit_on B_wit_off B_wit_firstCounts B_wit_secondCounts Ps Pd G_tape_wordNames G_told_herdNames G_told_ironNames G_told_beastNames G_draft_herdNames G_draft_ironNames G_draft_beastNames Ph Po Pg ex) H)) := by
  refine metG_of 1 ck_X7_fail (Nat.le_of_ble_eq_true rfl) cMap (fun p e s m args below meth c A hx hb hml hr hlocks hown hts hK hD hA hP hS ls hl => ?_)
  have hown : s.vm.findClass "HideReader$Tape" = some m.cls := hown
  have hl : lv_has ls 2 [(0, .ref (a 2)), (1, .int (mI p0))] := hl
  refine lv_aload_n hx hb dX7_fail_0 rfl (lv_at hl 0 rfl) ?_
  refine cg_tape_faultKind hx hb hts hown hK hP uw_1_98 dX7_fail_1 ?_
  refine sy_if_ne (tgt := 27) hx hb dX7_fail_4 (by decide) (by omega) (fun c9 => False.elim (by omega)) (fun c_1 => ?_)
  refine lv_aload_n hx hb dX7_fail_7 rfl (lv_at hl 0 rfl) ?_
  refine lv_iload_n hx hb dX7_fail_8 rfl (lv_at hl 1 rfl) ?_
  refine cp_tape_faultKind hx hb hts hown hK hP hD hS uw_1_98 dX7_fail_9 (fun H locs hP hS => ?_)
  refine lv_aload_n hx hb dX7_fail_12 rfl (lv_at hl 0 rfl) ?_
  refine lv_aload_n hx hb dX7_fail_13 rfl (lv_at hl 0 rfl) ?_
  refine cg_tape_place hx hb hts hown hK hP uw_1_95 dX7_fail_14 ?_
  refine cp_tape_faultPlace hx hb hts hown hK hP hD hS uw_1_99 dX7_fail_17 (fun H locs hP hS => ?_)
  refine lv_aload_n hx hb dX7_fail_20 rfl (lv_at hl 0 rfl) ?_
  refine lv_sipush (v := mI 203) hx hb dX7_fail_21 (by decide) ?_
  refine cp_tape_kind hx hb hts hown hK hP hD hS uw_1_94 dX7_fail_24 (fun H locs hP hS => ?_)
  exact r_v hx hb hr hlocks dX7_fail_27 hS ⟨203, p0, x_tape_place, by omega, by omega, by omega, by omega, (by omega), (dI_f (by omega)), hP⟩
set_option maxHeartbeats 4000000 in
set_option maxRecDepth 100000 in
theorem kc_X7_scanSign {bX aK aV : Nat} (hbA : ∀ x ∈ cAd a q ex, bX ≤ x) {p0 : Int} (hp0 : 0 ≤ p0 ∧ p0 ≤ 255) (h_x_tape_next : 0 ≤ x_tape_next ∧ x_tape_next ≤ 1599) (h_x_tape_place : 0 ≤ x_tape_place ∧ x_tape_place ≤ 1600) (h_x_tape_faultKind : 0 ≤ x_tape_faultKind ∧ x_tape_faultKind ≤ 0) (h_x_tape_faultPlace : -1 ≤ x_tape_faultPlace ∧ x_tape_faultPlace ≤ 1600) (g_D : dI x_tape_faultKind x_draft_herds x_draft_beasts x_draft_draw B_draft_brands B_draft_homes) : MetX l D k bX aK aV yX7_scanSign cX7_scanSign 2 none 4 [.ref (a 2), .int (mI p0)] (cW k a q x_xo_lyingCount x_tape_length x_tape_next x_tape_kind x_tape_place x_tape_number x_tape_faultKind x_tape_faultPlace x_told_turns x_told_mirror x_told_night x_told_draw x_told_herds x_told_irons x_told_beasts x_told_linesTold x_tfo_steps x_tfo_units x_draft_turns x_draft_mirror x_draft_night x_draft_draw x_draft_herds x_draft_irons x_draft_beasts x_draft_linesTold x_dfo_steps x_dfo_units x_lat_placements x_smi_irons x_smi_aim x_his_here x_his_undoable x_his_redoable x_book_placedCount x_wit_count x_wit_time n_tape_name B_xo_lying B_tape_bytes B_told_brands B_told_ironMarks B_told_homes B_told_births B_tfo_kinds B_tfo_numbers B_tfo_stack B_tfo_facts B_draft_brands B_draft_ironMarks B_draft_homes B_draft_births B_dfo_kinds B_dfo_numbers B_dfo_stack B_dfo_facts B_lat_lowHalves B_lat_highHalves B_lat_ways B_smi_placedIrons B_smi_within B_smi_costs B_his_isKept B_book_norms B_book_above B_book_heights B_book_placedBrands B_bea_firstGains B_bea_otherGains B_wit_burnings B_wit_strokes B_wit_wasOn B_wit_toldAt B_wit_untoldAt B_wit_on B_wit_off B_wit_firstCounts B_wit_secondCounts Ps Pd G_tape_wordNames G_told_herdNames G_told_ironNames G_told_beastNames G_draft_herdNames G_draft_ironNames G_draft_beastNames Ph Po Pg ex) (qGv (fun H => ∃ (y_tape_next : Int) (y_tape_kind : Int) (y_tape_faultKind : Int) (y_tape_faultPlace : Int), (0 ≤ y_tape_next ∧ y_tape_next ≤ 1600) ∧ (0 ≤ y_tape_kind ∧ y_tape_kind ≤ 203) ∧ (0 ≤ y_tape_faultKind ∧ y_tape_faultKind ≤ 5) ∧ (-1 ≤ y_tape_faultPlace ∧ y_tape_faultPlace ≤ 1600) ∧ (0 ≤ y_tape_next - x_tape_next) ∧ (0 ≤ y_tape_faultKind - x_tape_faultKind) ∧ (¬ y_tape_kind = 201 ∨ 0 ≤ x_tape_number) ∧ (dI y_tape_faultKind x_draft_herds x_draft_beasts x_draft_draw B_draft_brands B_draft_homes) ∧ va_P D vwCl (cW k a q x_xo_lyingCount x_tape_length y_tape_next y_tape_kind x_tape_place x_tape_number y_tape_faultKind y_tape_faultPlace x_told_turns x_told_mirror x_told_night x_told_draw x_told_herds x_told_irons x_told_beasts x_told_linesTold x_tfo_steps x_tfo_units x_draft_turns x_draft_mirror x_draft_night x_draft_draw x_draft_herds x_draft_irons x_draft_beasts x_draft_linesTold x_dfo_steps x_dfo_units x_lat_placements x_smi_irons x_smi_aim x_his_here x_his_undoable x_his_redoable x_book_placedCount x_wit_count x_wit_time n_tape_name B_xo_lying B_tape_bytes B_told_brands B_told_ironMarks B_told_homes B_told_births B_tfo_kinds B_tfo_numbers B_tfo_stack B_tfo_facts B_draft_brands B_draft_ironMarks B_draft_homes B_draft_births B_dfo_kinds B_dfo_numbers B_dfo_stack B_dfo_facts B_lat_lowHalves B_lat_highHalves B_lat_ways B_smi_placedIrons B_smi_within B_smi_costs B_his_isKept B_book_norms B_book_above B_book_heights B_book_placedBrands B_bea_firstGains B_bea_otherGains B_wit_burnings B_wit_strokes B_wit_wasOn B_wit_toldAt B_wit_untoldAt B_wit_on B_wit_off B_wit_firstCounts B_wit_secondCounts Ps Pd G_tape_wordNames G_told_herdNames G_told_ironNames G_told_beastNames G_draft_herdNames G_draft_ironNames G_draft_beastNames Ph Po Pg ex) H)) := by
  refine metX_of 1 ck_X7_scanSign (Nat.le_of_ble_eq_true rfl) cMap hbA ⟨_, rfl⟩ (fun p e s m args below meth c A hx hb hml hr hlocks hown hts hK hD hA hP hS hX hAb hXA ls hl => ?_)
  have hown : s.vm.findClass "HideReader$Tape" = some m.cls := hown
  have hl : lv_has ls 2 [(0, .ref (a 2)), (1, .int (mI p0))] := hl
  refine va_ldcS hx hb hown hX.2.2.2.2.2 dX7_scanSign_0 ?_
  refine lv_iload_n hx hb dX7_scanSign_2 rfl (lv_at hl 1 rfl) ?_
  refine lv_i2c (v := mI p0) hx hb dX7_scanSign_3 (lg_i2c_word (by rw [mI_t (by omega)]; omega) (by rw [mI_t (by omega)]; omega)) ?_
  refine zr_i (zr_V (own := "HideReader$Tape") (As := [.int (mI p0)]) (rest := []) (ws := []) hx hb hml hown hts hK xG_stb (hXA hS) (kg_indexOf (b := bX) (aK := aK) (aV := aV)) ck_J0_indexOf_0f7a4 iv_J0_indexOf_0f7a4 uw_3_96 (strg_recv hX.1 hS hAb) (zs_P hP [] rfl) rfl hl.1 rfl (Nat.le_of_ble_eq_true rfl) dX7_scanSign_4 ⟨Nat.le_of_ble_eq_true rfl, Nat.le_of_ble_eq_true rfl⟩ ⟨Nat.le_of_ble_eq_true rfl, Nat.le_of_ble_eq_true rfl⟩) (fun r_1 hr_1 => ?_)
  rw [mI_t (by omega)] at hr_1
  obtain ⟨z_2, ez_2, hz_2⟩ := mI_of r_1
  subst ez_2
  have hr_1 : z_2 ≤ -1 ∨ p0 < 128 := hr_1.imp (fun h9 => by have h8 := (mI_eq (b := -1) hz_2 (by decide)).mp (h9.trans (by decide)); omega) id
  refine sy_if_ge (tgt := 16) hx hb dX7_scanSign_7 (by decide) (by omega) (fun c_3 => ?_) (fun c_3 => ?_)
  · skip
    refine lv_aload_n hx hb dX7_scanSign_16 rfl (lv_at hl 0 rfl) ?_
    refine lv_dup hx hb dX7_scanSign_17 rfl ?_
    refine cg_tape_next hx hb hts hown hK hP uw_1_93 dX7_scanSign_18 ?_
    refine lv_iconst (v := mI 1) hx hb dX7_scanSign_21 rfl ?_
    refine sy_iadd hx hb dX7_scanSign_22 (x_tape_next + 1) rfl ?_
    refine cp_tape_next hx hb hts hown hK hP hD hS uw_1_93 dX7_scanSign_23 (fun H locs hP hS => ?_)
    refine lv_aload_n hx hb dX7_scanSign_26 rfl (lv_at hl 0 rfl) ?_
    refine lv_iload_n hx hb dX7_scanSign_27 rfl (lv_at hl 1 rfl) ?_
    refine cp_tape_kind hx hb hts hown hK hP hD hS uw_1_94 dX7_scanSign_28 (fun H locs hP hS => ?_)
    exact r_v hx hb hr hlocks dX7_scanSign_31 hS ⟨(x_tape_next + 1), p0, x_tape_faultKind, x_tape_faultPlace, by omega, by omega, by omega, by omega, by omega, by omega, (by omega), g_D, hP⟩
  · skip
    refine lv_aload_n hx hb dX7_scanSign_10 rfl (lv_at hl 0 rfl) ?_
    refine lv_iconst (v := mI 1) hx hb dX7_scanSign_11 rfl ?_
    refine g_v (cDt hD) hS hA (g_V (own := "HideReader$Tape") (As := [.int (mI 1)]) (rest := []) hx hb hml hown hts hK hP (cDt hD) (kc_X7_fail_vz (l := l) (D := D) (k := k) (by decide) h_x_tape_place h_x_tape_faultKind) ck_X7_fail iv_X7_fail uw_3_80 (cv_tape hK hP) rfl hl.1 rfl (Nat.le_of_ble_eq_true rfl) dX7_scanSign_12 ⟨Nat.le_of_ble_eq_true rfl, Nat.le_of_ble_eq_true rfl⟩ ⟨Nat.le_of_ble_eq_true rfl, Nat.le_of_ble_eq_true rfl⟩) (fun H locs hQ hS => ?_)
    obtain ⟨y_5, y_6, y_7, hr_4_0, hr_4_1, hr_4_2, hr_4_3, kr_4_N, kr_4_D, hP⟩ := hQ
    exact r_v hx hb hr hlocks dX7_scanSign_15 hS ⟨x_tape_next, y_5, y_6, y_7, by omega, by omega, by omega, by omega, by omega, by omega, kr_4_N, kr_4_D, hP⟩
set_option maxHeartbeats 4000000 in
set_option maxRecDepth 100000 in
theorem kc_X7_scanNumber {p0 : Int} (hp0 : 0 ≤ p0 ∧ p0 ≤ 1600) (h_x_tape_length : 0 ≤ x_tape_length ∧ x_tape_length ≤ 1600) (h_x_tape_next : 0 ≤ x_tape_next ∧ x_tape_next ≤ 1600) (h_x_tape_place : 0 ≤ x_tape_place ∧ x_tape_place ≤ 1600) (h_x_tape_faultKind : 0 ≤ x_tape_faultKind ∧ x_tape_faultKind ≤ 0) (h_x_tape_faultPlace : -1 ≤ x_tape_faultPlace ∧ x_tape_faultPlace ≤ 1600) (b_B_tape_bytes : bd (-128) 127 B_tape_bytes) (g_D : dI x_tape_faultKind x_draft_herds x_draft_beasts x_draft_draw B_draft_brands B_draft_homes) : MetG l D k yX7_scanNumber cX7_scanNumber 4 none 1 [.ref (a 2), .int (mI p0)] (cW k a q x_xo_lyingCount x_tape_length x_tape_next x_tape_kind x_tape_place x_tape_number x_tape_faultKind x_tape_faultPlace x_told_turns x_told_mirror x_told_night x_told_draw x_told_herds x_told_irons x_told_beasts x_told_linesTold x_tfo_steps x_tfo_units x_draft_turns x_draft_mirror x_draft_night x_draft_draw x_draft_herds x_draft_irons x_draft_beasts x_draft_linesTold x_dfo_steps x_dfo_units x_lat_placements x_smi_irons x_smi_aim x_his_here x_his_undoable x_his_redoable x_book_placedCount x_wit_count x_wit_time n_tape_name B_xo_lying B_tape_bytes B_told_brands B_told_ironMarks B_told_homes B_told_births B_tfo_kinds B_tfo_numbers B_tfo_stack B_tfo_facts B_draft_brands B_draft_ironMarks B_draft_homes B_draft_births B_dfo_kinds B_dfo_numbers B_dfo_stack B_dfo_facts B_lat_lowHalves B_lat_highHalves B_lat_ways B_smi_placedIrons B_smi_within B_smi_costs B_his_isKept B_book_norms B_book_above B_book_heights B_book_placedBrands B_bea_firstGains B_bea_otherGains B_wit_burnings B_wit_strokes B_wit_wasOn B_wit_toldAt B_wit_untoldAt B_wit_on B_wit_off B_wit_firstCounts B_wit_secondCounts Ps Pd G_tape_wordNames G_told_herdNames G_told_ironNames G_told_beastNames G_draft_herdNames G_draft_ironNames G_draft_beastNames Ph Po Pg ex) (qGv (fun H => ∃ (y_tape_next : Int) (y_tape_kind : Int) (y_tape_number : Int) (y_tape_faultKind : Int) (y_tape_faultPlace : Int), (0 ≤ y_tape_next ∧ y_tape_next ≤ 1600) ∧ (201 ≤ y_tape_kind ∧ y_tape_kind ≤ 203) ∧ (-2147483648 ≤ y_tape_number ∧ y_tape_number ≤ 2147483647) ∧ (0 ≤ y_tape_faultKind ∧ y_tape_faultKind ≤ 5) ∧ (-1 ≤ y_tape_faultPlace ∧ y_tape_faultPlace ≤ 1600) ∧ (0 ≤ y_tape_faultKind - x_tape_faultKind) ∧ (¬ y_tape_kind = 201 ∨ 0 ≤ y_tape_number) ∧ (dI y_tape_faultKind x_draft_herds x_draft_beasts x_draft_draw B_draft_brands B_draft_homes) ∧ va_P D vwCl (cW k a q x_xo_lyingCount x_tape_length y_tape_next y_tape_kind x_tape_place y_tape_number y_tape_faultKind y_tape_faultPlace x_told_turns x_told_mirror x_told_night x_told_draw x_told_herds x_told_irons x_told_beasts x_told_linesTold x_tfo_steps x_tfo_units x_draft_turns x_draft_mirror x_draft_night x_draft_draw x_draft_herds x_draft_irons x_draft_beasts x_draft_linesTold x_dfo_steps x_dfo_units x_lat_placements x_smi_irons x_smi_aim x_his_here x_his_undoable x_his_redoable x_book_placedCount x_wit_count x_wit_time n_tape_name B_xo_lying B_tape_bytes B_told_brands B_told_ironMarks B_told_homes B_told_births B_tfo_kinds B_tfo_numbers B_tfo_stack B_tfo_facts B_draft_brands B_draft_ironMarks B_draft_homes B_draft_births B_dfo_kinds B_dfo_numbers B_dfo_stack B_dfo_facts B_lat_lowHalves B_lat_highHalves B_lat_ways B_smi_placedIrons B_smi_within B_smi_costs B_his_isKept B_book_norms B_book_above B_book_heights B_book_placedBrands B_bea_firstGains B_bea_otherGains B_wit_burnings B_wit_strokes B_wit_wasOn B_wit_toldAt B_wit_untoldAt B_wit_on B_wit_off B_wit_firstCounts B_wit_secondCounts Ps Pd G_tape_wordNames G_told_herdNames G_told_ironNames G_told_beastNames G_draft_herdNames G_draft_ironNames G_draft_beastNames Ph Po Pg ex) H)) := by
  refine metG_of 1 ck_X7_scanNumber (Nat.le_of_ble_eq_true rfl) cMap (fun p e s m args below meth c A hx hb hml hr hlocks hown hts hK hD hA hP hS ls hl => ?_)
  have hown : s.vm.findClass "HideReader$Tape" = some m.cls := hown
  have hl : lv_has ls 4 [(0, .ref (a 2)), (1, .int (mI p0))] := hl
  refine lv_iconst (v := mI 0) hx hb dX7_scanNumber_0 rfl ?_
  refine lv_istore_n (lv' := [(2, .int (mI 0)), (0, .ref (a 2)), (1, .int (mI p0))]) hx hb dX7_scanNumber_1 rfl hl (by decide) rfl (fun ls hl => ?_)
  refine lv_aload_n hx hb dX7_scanNumber_2 rfl (lv_at hl 1 rfl) ?_
  refine lv_iconst (v := mI 0) hx hb dX7_scanNumber_3 rfl ?_
  refine cp_tape_number hx hb hts hown hK hP hD hS uw_1_96 dX7_scanNumber_4 (fun H locs hP hS => ?_)
  refine lv_iload_n hx hb dX7_scanNumber_7 rfl (lv_at hl 2 rfl) ?_
  refine lv_istore_n (lv' := [(3, .int (mI p0)), (2, .int (mI 0)), (0, .ref (a 2)), (1, .int (mI p0))]) hx hb dX7_scanNumber_8 rfl hl (by decide) rfl (fun ls hl => ?_)
  refine sy_loop (I := fun n H locs g => ∃ (z_1934 : Int) (z_1935 : Int) (y_1936 : Int) (ls : Array Slot), (0 ≤ z_1934 ∧ z_1934 ≤ 1600) ∧ (0 ≤ z_1935 ∧ z_1935 ≤ 1600) ∧ (-2147483648 ≤ y_1936 ∧ y_1936 ≤ 2147483647) ∧ (0 ≤ z_1934 - z_1935) ∧ (0 ≤ z_1934 - p0 - z_1935) ∧ (0 ≤ p0 + z_1935 - z_1934) ∧ (0 ≤ z_1934 - p0) ∧ ((z_1935 = 0 ∧ 0 ≤ y_1936 ∧ y_1936 ≤ 0) ∨ (z_1935 = 1 ∧ 0 ≤ y_1936 ∧ y_1936 ≤ 9) ∨ (z_1935 = 2 ∧ 0 ≤ y_1936 ∧ y_1936 ≤ 99) ∨ (z_1935 = 3 ∧ 0 ≤ y_1936 ∧ y_1936 ≤ 999) ∨ (z_1935 = 4 ∧ 0 ≤ y_1936 ∧ y_1936 ≤ 9999) ∨ 5 ≤ z_1935) ∧ (1600 - z_1935).toNat = n ∧ va_P D vwCl (cW k a q x_xo_lyingCount x_tape_length x_tape_next x_tape_kind x_tape_place y_1936 x_tape_faultKind x_tape_faultPlace x_told_turns x_told_mirror x_told_night x_told_draw x_told_herds x_told_irons x_told_beasts x_told_linesTold x_tfo_steps x_tfo_units x_draft_turns x_draft_mirror x_draft_night x_draft_draw x_draft_herds x_draft_irons x_draft_beasts x_draft_linesTold x_dfo_steps x_dfo_units x_lat_placements x_smi_irons x_smi_aim x_his_here x_his_undoable x_his_redoable x_book_placedCount x_wit_count x_wit_time n_tape_name B_xo_lying B_tape_bytes B_told_brands B_told_ironMarks B_told_homes B_told_births B_tfo_kinds B_tfo_numbers B_tfo_stack B_tfo_facts B_draft_brands B_draft_ironMarks B_draft_homes B_draft_births B_dfo_kinds B_dfo_numbers B_dfo_stack B_dfo_facts B_lat_lowHalves B_lat_highHalves B_lat_ways B_smi_placedIrons B_smi_within B_smi_costs B_his_isKept B_book_norms B_book_above B_book_heights B_book_placedBrands B_bea_firstGains B_bea_otherGains B_wit_burnings B_wit_strokes B_wit_wasOn B_wit_toldAt B_wit_untoldAt B_wit_on B_wit_off B_wit_firstCounts B_wit_secondCounts Ps Pd G_tape_wordNames G_told_herdNames G_told_ironNames G_told_beastNames G_draft_herdNames G_draft_ironNames G_draft_beastNames Ph Po Pg ex) H ∧ va_S A s.heap H locs ∧ lv_has ls 4 [(3, .int (mI z_1934)), (2, .int (mI z_1935)), (0, .ref (a 2)), (1, .int (mI p0))] ∧ g = F0 m 9 ls []) ?_ _ ⟨p0, 0, 0, _, by omega, by omega, by omega, by omega, by omega, by omega, by omega, by omega, rfl, hP, hS, lv_sub hl [0, 1, 2, 3] rfl, rfl⟩
  intro n_1981 H locs g hI ih_1982
  obtain ⟨z_1934, z_1935, y_1936, ls, h9_0, h9_1, h9_2, h9_3, h9_4, h9_5, h9_6, h9_7, mn_1981, hP, hS, hl, rfl⟩ := hI
  refine lv_iload_n hx hb dX7_scanNumber_9 rfl (lv_at hl 0 rfl) ?_
  refine lv_aload_n hx hb dX7_scanNumber_10 rfl (lv_at hl 2 rfl) ?_
  refine cg_tape_length hx hb hts hown hK hP uw_1_92 dX7_scanNumber_11 ?_
  refine sy_icmp_ge (tgt := 59) hx hb dX7_scanNumber_14 (by decide) (by omega) (by omega) (fun c_1983 => ?_) (fun c_1983 => ?_)
  · skip
    refine lv_iload_n hx hb dX7_scanNumber_59 rfl (lv_at hl 3 rfl) ?_
    refine lv_iload_n hx hb dX7_scanNumber_60 rfl (lv_at hl 1 rfl) ?_
    refine sy_iadd hx hb dX7_scanNumber_61 (p0 + z_1935) rfl ?_
    refine lv_istore_n (lv' := [(3, .int (mI (p0 + z_1935))), (2, .int (mI z_1935)), (0, .ref (a 2)), (1, .int (mI p0))]) hx hb dX7_scanNumber_62 rfl hl (by decide) rfl (fun ls hl => ?_)
    refine lv_iload_n hx hb dX7_scanNumber_63 rfl (lv_at hl 1 rfl) ?_
    refine lv_iconst (v := mI 4) hx hb dX7_scanNumber_64 rfl ?_
    refine sy_icmp_gt (tgt := 88) hx hb dX7_scanNumber_65 (by decide) (by omega) (by decide) (fun c_1984 => ?_) (fun c_1984 => ?_)
    · skip
      refine lv_aload_n hx hb dX7_scanNumber_88 rfl (lv_at hl 2 rfl) ?_
      refine lv_iconst (v := mI 1) hx hb dX7_scanNumber_89 rfl ?_
      refine g_v (cDt hD) hS hA (g_V (own := "HideReader$Tape") (As := [.int (mI 1)]) (rest := []) hx hb hml hown hts hK hP (cDt hD) (kc_X7_fail_vz (l := l) (D := D) (k := k) (by decide) h_x_tape_place h_x_tape_faultKind) ck_X7_fail iv_X7_fail uw_3_80 (cv_tape hK hP) rfl hl.1 rfl (Nat.le_of_ble_eq_true rfl) dX7_scanNumber_90 ⟨Nat.le_of_ble_eq_true rfl, Nat.le_of_ble_eq_true rfl⟩ ⟨Nat.le_of_ble_eq_true rfl, Nat.le_of_ble_eq_true rfl⟩) (fun H locs hQ hS => ?_)
      obtain ⟨y_1986, y_1987, y_1988, hr_1985_0, hr_1985_1, hr_1985_2, hr_1985_3, kr_1985_N, kr_1985_D, hP⟩ := hQ
      exact r_v hx hb hr hlocks dX7_scanNumber_93 hS ⟨x_tape_next, y_1986, y_1936, y_1987, y_1988, by omega, by omega, by omega, by omega, by omega, by omega, kr_1985_N, kr_1985_D, hP⟩
    · skip
      refine lv_iload_n hx hb dX7_scanNumber_68 rfl (lv_at hl 0 rfl) ?_
      refine lv_aload_n hx hb dX7_scanNumber_69 rfl (lv_at hl 2 rfl) ?_
      refine cg_tape_length hx hb hts hown hK hP uw_1_92 dX7_scanNumber_70 ?_
      refine sy_icmp_ge (tgt := 94) hx hb dX7_scanNumber_73 (by decide) (by omega) (by omega) (fun c_1989 => ?_) (fun c_1989 => ?_)
      · skip
        refine lv_aload_n hx hb dX7_scanNumber_94 rfl (lv_at hl 2 rfl) ?_
        refine lv_iload_n hx hb dX7_scanNumber_95 rfl (lv_at hl 0 rfl) ?_
        refine cp_tape_next hx hb hts hown hK hP hD hS uw_1_93 dX7_scanNumber_96 (fun H locs hP hS => ?_)
        refine lv_aload_n hx hb dX7_scanNumber_99 rfl (lv_at hl 2 rfl) ?_
        refine lv_sipush (v := mI 201) hx hb dX7_scanNumber_100 (by decide) ?_
        refine cp_tape_kind hx hb hts hown hK hP hD hS uw_1_94 dX7_scanNumber_103 (fun H locs hP hS => ?_)
        exact r_v hx hb hr hlocks dX7_scanNumber_106 hS ⟨(p0 + z_1935), 201, y_1936, x_tape_faultKind, x_tape_faultPlace, by omega, by omega, by omega, by omega, by omega, by omega, (by omega), g_D, hP⟩
      · skip
        refine lv_aload_n hx hb dX7_scanNumber_76 rfl (lv_at hl 2 rfl) ?_
        refine cg_tape_bytes hx hb hts hown hK hP uw_1_90 dX7_scanNumber_77 ?_
        refine lv_iload_n hx hb dX7_scanNumber_80 rfl (lv_at hl 0 rfl) ?_
        refine cl_tape_bytes hx hb hK hP dX7_scanNumber_81 (by omega) b_B_tape_bytes (fun z_1990 _ hz_1990 => ?_)
        refine g_i (cDt hD) hS hA (g_S (own := "HideReader$Tape") (As := [.int (mI z_1990)]) (rest := []) hx hb hml hown hts hK hP (cDt hD) (kc_X7_isLetter (l := l) (D := D) (k := k) (by omega)) ck_X7_isLetter uw_3_74 uw_3_73 rfl hl.1 rfl (Nat.le_of_ble_eq_true rfl) dX7_scanNumber_82 ⟨Nat.le_of_ble_eq_true rfl, Nat.le_of_ble_eq_true rfl⟩ ⟨Nat.le_of_ble_eq_true rfl, Nat.le_of_ble_eq_true rfl⟩) (fun r_1991 H locs hQ hS => ?_)
        obtain ⟨hq_r_1991, hP⟩ := hQ
        rcases hq_r_1991 with ⟨rfl, c_1992_0⟩ | ⟨rfl, c_1993_0⟩
        · skip
          refine sy_if_eq (tgt := 94) hx hb dX7_scanNumber_85 (by decide) (by decide) (fun c_1994 => ?_) (fun c9 => absurd c9 (by decide))
          refine lv_aload_n hx hb dX7_scanNumber_94 rfl (lv_at hl 2 rfl) ?_
          refine lv_iload_n hx hb dX7_scanNumber_95 rfl (lv_at hl 0 rfl) ?_
          refine cp_tape_next hx hb hts hown hK hP hD hS uw_1_93 dX7_scanNumber_96 (fun H locs hP hS => ?_)
          refine lv_aload_n hx hb dX7_scanNumber_99 rfl (lv_at hl 2 rfl) ?_
          refine lv_sipush (v := mI 201) hx hb dX7_scanNumber_100 (by decide) ?_
          refine cp_tape_kind hx hb hts hown hK hP hD hS uw_1_94 dX7_scanNumber_103 (fun H locs hP hS => ?_)
          exact r_v hx hb hr hlocks dX7_scanNumber_106 hS ⟨(p0 + z_1935), 201, y_1936, x_tape_faultKind, x_tape_faultPlace, by omega, by omega, by omega, by omega, by omega, by omega, (by omega), g_D, hP⟩
        · skip
          refine sy_if_eq (tgt := 94) hx hb dX7_scanNumber_85 (by decide) (by decide) (fun c9 => absurd c9 (by decide)) (fun c_1995 => ?_)
          refine lv_aload_n hx hb dX7_scanNumber_88 rfl (lv_at hl 2 rfl) ?_
          refine lv_iconst (v := mI 1) hx hb dX7_scanNumber_89 rfl ?_
          refine g_v (cDt hD) hS hA (g_V (own := "HideReader$Tape") (As := [.int (mI 1)]) (rest := []) hx hb hml hown hts hK hP (cDt hD) (kc_X7_fail_vz (l := l) (D := D) (k := k) (by decide) h_x_tape_place h_x_tape_faultKind) ck_X7_fail iv_X7_fail uw_3_80 (cv_tape hK hP) rfl hl.1 rfl (Nat.le_of_ble_eq_true rfl) dX7_scanNumber_90 ⟨Nat.le_of_ble_eq_true rfl, Nat.le_of_ble_eq_true rfl⟩ ⟨Nat.le_of_ble_eq_true rfl, Nat.le_of_ble_eq_true rfl⟩) (fun H locs hQ hS => ?_)
          obtain ⟨y_1997, y_1998, y_1999, hr_1996_0, hr_1996_1, hr_1996_2, hr_1996_3, kr_1996_N, kr_1996_D, hP⟩ := hQ
          exact r_v hx hb hr hlocks dX7_scanNumber_93 hS ⟨x_tape_next, y_1997, y_1936, y_1998, y_1999, by omega, by omega, by omega, by omega, by omega, by omega, kr_1996_N, kr_1996_D, hP⟩
  · skip
    refine lv_aload_n hx hb dX7_scanNumber_17 rfl (lv_at hl 2 rfl) ?_
    refine cg_tape_bytes hx hb hts hown hK hP uw_1_90 dX7_scanNumber_18 ?_
    refine lv_iload_n hx hb dX7_scanNumber_21 rfl (lv_at hl 0 rfl) ?_
    refine cl_tape_bytes hx hb hK hP dX7_scanNumber_22 (by omega) b_B_tape_bytes (fun z_2000 _ hz_2000 => ?_)
    refine g_i (cDt hD) hS hA (g_S (own := "HideReader$Tape") (As := [.int (mI z_2000)]) (rest := []) hx hb hml hown hts hK hP (cDt hD) (kc_X7_isDigit (l := l) (D := D) (k := k) (by omega)) ck_X7_isDigit uw_3_85 uw_3_84 rfl hl.1 rfl (Nat.le_of_ble_eq_true rfl) dX7_scanNumber_23 ⟨Nat.le_of_ble_eq_true rfl, Nat.le_of_ble_eq_true rfl⟩ ⟨Nat.le_of_ble_eq_true rfl, Nat.le_of_ble_eq_true rfl⟩) (fun r_2001 H locs hQ hS => ?_)
    obtain ⟨hq_r_2001, hP⟩ := hQ
    rcases hq_r_2001 with ⟨rfl, c_2002_0⟩ | ⟨rfl, c_2003_0⟩
    · skip
      refine sy_if_eq (tgt := 59) hx hb dX7_scanNumber_26 (by decide) (by decide) (fun c_2004 => ?_) (fun c9 => absurd c9 (by decide))
      refine lv_iload_n hx hb dX7_scanNumber_59 rfl (lv_at hl 3 rfl) ?_
      refine lv_iload_n hx hb dX7_scanNumber_60 rfl (lv_at hl 1 rfl) ?_
      refine sy_iadd hx hb dX7_scanNumber_61 (p0 + z_1935) rfl ?_
      refine lv_istore_n (lv' := [(3, .int (mI (p0 + z_1935))), (2, .int (mI z_1935)), (0, .ref (a 2)), (1, .int (mI p0))]) hx hb dX7_scanNumber_62 rfl hl (by decide) rfl (fun ls hl => ?_)
      refine lv_iload_n hx hb dX7_scanNumber_63 rfl (lv_at hl 1 rfl) ?_
      refine lv_iconst (v := mI 4) hx hb dX7_scanNumber_64 rfl ?_
      refine sy_icmp_gt (tgt := 88) hx hb dX7_scanNumber_65 (by decide) (by omega) (by decide) (fun c_2005 => ?_) (fun c_2005 => ?_)
      · skip
        refine lv_aload_n hx hb dX7_scanNumber_88 rfl (lv_at hl 2 rfl) ?_
        refine lv_iconst (v := mI 1) hx hb dX7_scanNumber_89 rfl ?_
        refine g_v (cDt hD) hS hA (g_V (own := "HideReader$Tape") (As := [.int (mI 1)]) (rest := []) hx hb hml hown hts hK hP (cDt hD) (kc_X7_fail_vz (l := l) (D := D) (k := k) (by decide) h_x_tape_place h_x_tape_faultKind) ck_X7_fail iv_X7_fail uw_3_80 (cv_tape hK hP) rfl hl.1 rfl (Nat.le_of_ble_eq_true rfl) dX7_scanNumber_90 ⟨Nat.le_of_ble_eq_true rfl, Nat.le_of_ble_eq_true rfl⟩ ⟨Nat.le_of_ble_eq_true rfl, Nat.le_of_ble_eq_true rfl⟩) (fun H locs hQ hS => ?_)
        obtain ⟨y_2007, y_2008, y_2009, hr_2006_0, hr_2006_1, hr_2006_2, hr_2006_3, kr_2006_N, kr_2006_D, hP⟩ := hQ
        exact r_v hx hb hr hlocks dX7_scanNumber_93 hS ⟨x_tape_next, y_2007, y_1936, y_2008, y_2009, by omega, by omega, by omega, by omega, by omega, by omega, kr_2006_N, kr_2006_D, hP⟩
      · skip
        refine lv_iload_n hx hb dX7_scanNumber_68 rfl (lv_at hl 0 rfl) ?_
        refine lv_aload_n hx hb dX7_scanNumber_69 rfl (lv_at hl 2 rfl) ?_
        refine cg_tape_length hx hb hts hown hK hP uw_1_92 dX7_scanNumber_70 ?_
        refine sy_icmp_ge (tgt := 94) hx hb dX7_scanNumber_73 (by decide) (by omega) (by omega) (fun c_2010 => ?_) (fun c_2010 => ?_)
        · skip
          refine lv_aload_n hx hb dX7_scanNumber_94 rfl (lv_at hl 2 rfl) ?_
          refine lv_iload_n hx hb dX7_scanNumber_95 rfl (lv_at hl 0 rfl) ?_
          refine cp_tape_next hx hb hts hown hK hP hD hS uw_1_93 dX7_scanNumber_96 (fun H locs hP hS => ?_)
          refine lv_aload_n hx hb dX7_scanNumber_99 rfl (lv_at hl 2 rfl) ?_
          refine lv_sipush (v := mI 201) hx hb dX7_scanNumber_100 (by decide) ?_
          refine cp_tape_kind hx hb hts hown hK hP hD hS uw_1_94 dX7_scanNumber_103 (fun H locs hP hS => ?_)
          exact r_v hx hb hr hlocks dX7_scanNumber_106 hS ⟨(p0 + z_1935), 201, y_1936, x_tape_faultKind, x_tape_faultPlace, by omega, by omega, by omega, by omega, by omega, by omega, (by omega), g_D, hP⟩
        · skip
          refine lv_aload_n hx hb dX7_scanNumber_76 rfl (lv_at hl 2 rfl) ?_
          refine cg_tape_bytes hx hb hts hown hK hP uw_1_90 dX7_scanNumber_77 ?_
          refine lv_iload_n hx hb dX7_scanNumber_80 rfl (lv_at hl 0 rfl) ?_
          refine cl_tape_bytes hx hb hK hP dX7_scanNumber_81 (by omega) b_B_tape_bytes (fun z_2011 _ hz_2011 => ?_)
          refine g_i (cDt hD) hS hA (g_S (own := "HideReader$Tape") (As := [.int (mI z_2011)]) (rest := []) hx hb hml hown hts hK hP (cDt hD) (kc_X7_isLetter (l := l) (D := D) (k := k) (by omega)) ck_X7_isLetter uw_3_74 uw_3_73 rfl hl.1 rfl (Nat.le_of_ble_eq_true rfl) dX7_scanNumber_82 ⟨Nat.le_of_ble_eq_true rfl, Nat.le_of_ble_eq_true rfl⟩ ⟨Nat.le_of_ble_eq_true rfl, Nat.le_of_ble_eq_true rfl⟩) (fun r_2012 H locs hQ hS => ?_)
          obtain ⟨hq_r_2012, hP⟩ := hQ
          rcases hq_r_2012 with ⟨rfl, c_2013_0⟩ | ⟨rfl, c_2014_0⟩
          · skip
            refine sy_if_eq (tgt := 94) hx hb dX7_scanNumber_85 (by decide) (by decide) (fun c_2015 => ?_) (fun c9 => absurd c9 (by decide))
            refine lv_aload_n hx hb dX7_scanNumber_94 rfl (lv_at hl 2 rfl) ?_
            refine lv_iload_n hx hb dX7_scanNumber_95 rfl (lv_at hl 0 rfl) ?_
            refine cp_tape_next hx hb hts hown hK hP hD hS uw_1_93 dX7_scanNumber_96 (fun H locs hP hS => ?_)
            refine lv_aload_n hx hb dX7_scanNumber_99 rfl (lv_at hl 2 rfl) ?_
            refine lv_sipush (v := mI 201) hx hb dX7_scanNumber_100 (by decide) ?_
            refine cp_tape_kind hx hb hts hown hK hP hD hS uw_1_94 dX7_scanNumber_103 (fun H locs hP hS => ?_)
            exact r_v hx hb hr hlocks dX7_scanNumber_106 hS ⟨(p0 + z_1935), 201, y_1936, x_tape_faultKind, x_tape_faultPlace, by omega, by omega, by omega, by omega, by omega, by omega, (by omega), g_D, hP⟩
          · skip
            refine sy_if_eq (tgt := 94) hx hb dX7_scanNumber_85 (by decide) (by decide) (fun c9 => absurd c9 (by decide)) (fun c_2016 => ?_)
            refine lv_aload_n hx hb dX7_scanNumber_88 rfl (lv_at hl 2 rfl) ?_
            refine lv_iconst (v := mI 1) hx hb dX7_scanNumber_89 rfl ?_
            refine g_v (cDt hD) hS hA (g_V (own := "HideReader$Tape") (As := [.int (mI 1)]) (rest := []) hx hb hml hown hts hK hP (cDt hD) (kc_X7_fail_vz (l := l) (D := D) (k := k) (by decide) h_x_tape_place h_x_tape_faultKind) ck_X7_fail iv_X7_fail uw_3_80 (cv_tape hK hP) rfl hl.1 rfl (Nat.le_of_ble_eq_true rfl) dX7_scanNumber_90 ⟨Nat.le_of_ble_eq_true rfl, Nat.le_of_ble_eq_true rfl⟩ ⟨Nat.le_of_ble_eq_true rfl, Nat.le_of_ble_eq_true rfl⟩) (fun H locs hQ hS => ?_)
            obtain ⟨y_2018, y_2019, y_2020, hr_2017_0, hr_2017_1, hr_2017_2, hr_2017_3, kr_2017_N, kr_2017_D, hP⟩ := hQ
            exact r_v hx hb hr hlocks dX7_scanNumber_93 hS ⟨x_tape_next, y_2018, y_1936, y_2019, y_2020, by omega, by omega, by omega, by omega, by omega, by omega, kr_2017_N, kr_2017_D, hP⟩
    · skip
      refine sy_if_eq (tgt := 59) hx hb dX7_scanNumber_26 (by decide) (by decide) (fun c9 => absurd c9 (by decide)) (fun c_2021 => ?_)
      rcases (by omega : (z_1935 ≤ 4 ∧ 0 ≤ y_1936 ∧ y_1936 ≤ 9999) ∨ 5 ≤ z_1935) with c_2022 | c_2022
      · skip
        refine lv_aload_n hx hb dX7_scanNumber_29 rfl (lv_at hl 2 rfl) ?_
        refine lv_aload_n hx hb dX7_scanNumber_30 rfl (lv_at hl 2 rfl) ?_
        refine cg_tape_number hx hb hts hown hK hP uw_1_96 dX7_scanNumber_31 ?_
        refine lv_bipush (v := mI 10) hx hb dX7_scanNumber_34 (by decide) ?_
        refine sy_imul hx hb dX7_scanNumber_36 (10 * y_1936) (by omega) ?_
        refine lv_aload_n hx hb dX7_scanNumber_37 rfl (lv_at hl 2 rfl) ?_
        refine cg_tape_bytes hx hb hts hown hK hP uw_1_90 dX7_scanNumber_38 ?_
        refine lv_iload_n hx hb dX7_scanNumber_41 rfl (lv_at hl 0 rfl) ?_
        refine cl_tape_bytes hx hb hK hP dX7_scanNumber_42 (by omega) b_B_tape_bytes (fun z_2023 _ hz_2023 => ?_)
        refine lv_bipush (v := mI 48) hx hb dX7_scanNumber_43 (by decide) ?_
        refine sy_isub hx hb dX7_scanNumber_45 (z_2023 - 48) rfl ?_
        refine sy_iadd hx hb dX7_scanNumber_46 (10 * y_1936 + z_2023 - 48) (by omega) ?_
        refine cp_tape_number hx hb hts hown hK hP hD hS uw_1_96 dX7_scanNumber_47 (fun H locs hP hS => ?_)
        refine lv_iinc (v := mI (z_1935 + 1)) (lv' := [(2, .int (mI (z_1935 + 1))), (3, .int (mI z_1934)), (0, .ref (a 2)), (1, .int (mI p0))]) hx hb dX7_scanNumber_50 hl (k := 1) rfl (mI_ad rfl) (by decide) rfl (fun ls hl => ?_)
        refine lv_iinc (v := mI (z_1934 + 1)) (lv' := [(3, .int (mI (z_1934 + 1))), (2, .int (mI (z_1935 + 1))), (0, .ref (a 2)), (1, .int (mI p0))]) hx hb dX7_scanNumber_53 hl (k := 1) rfl (mI_ad rfl) (by decide) rfl (fun ls hl => ?_)
        refine lv_goto (tgt := 9) hx hb dX7_scanNumber_56 (by decide) ?_
        exact ih_1982 _ _ _ _ (by omega) ⟨(z_1934 + 1), (z_1935 + 1), (10 * y_1936 + z_2023 - 48), _, by omega, by omega, by omega, by omega, by omega, by omega, by omega, by omega, rfl, hP, hS, lv_sub hl [0, 1, 2, 3] rfl, rfl⟩
      · skip
        refine lv_aload_n hx hb dX7_scanNumber_29 rfl (lv_at hl 2 rfl) ?_
        refine lv_aload_n hx hb dX7_scanNumber_30 rfl (lv_at hl 2 rfl) ?_
        refine cg_tape_number hx hb hts hown hK hP uw_1_96 dX7_scanNumber_31 ?_
        refine lv_bipush (v := mI 10) hx hb dX7_scanNumber_34 (by decide) ?_
        refine sy_imul hx hb dX7_scanNumber_36 (10 * y_1936) (by omega) ?_
        refine sy_any (fun z_2024 hz_2024 => ?_)
        refine lv_aload_n hx hb dX7_scanNumber_37 rfl (lv_at hl 2 rfl) ?_
        refine cg_tape_bytes hx hb hts hown hK hP uw_1_90 dX7_scanNumber_38 ?_
        refine lv_iload_n hx hb dX7_scanNumber_41 rfl (lv_at hl 0 rfl) ?_
        refine cl_tape_bytes hx hb hK hP dX7_scanNumber_42 (by omega) b_B_tape_bytes (fun z_2025 _ hz_2025 => ?_)
        refine lv_bipush (v := mI 48) hx hb dX7_scanNumber_43 (by decide) ?_
        refine sy_isub hx hb dX7_scanNumber_45 (z_2025 - 48) rfl ?_
        refine sy_iadd hx hb dX7_scanNumber_46 (z_2024 + z_2025 - 48) (by omega) ?_
        refine sy_any (fun z_2026 hz_2026 => ?_)
        refine cp_tape_number hx hb hts hown hK hP hD hS uw_1_96 dX7_scanNumber_47 (fun H locs hP hS => ?_)
        refine lv_iinc (v := mI (z_1935 + 1)) (lv' := [(2, .int (mI (z_1935 + 1))), (3, .int (mI z_1934)), (0, .ref (a 2)), (1, .int (mI p0))]) hx hb dX7_scanNumber_50 hl (k := 1) rfl (mI_ad rfl) (by decide) rfl (fun ls hl => ?_)
        refine lv_iinc (v := mI (z_1934 + 1)) (lv' := [(3, .int (mI (z_1934 + 1))), (2, .int (mI (z_1935 + 1))), (0, .ref (a 2)), (1, .int (mI p0))]) hx hb dX7_scanNumber_53 hl (k := 1) rfl (mI_ad rfl) (by decide) rfl (fun ls hl => ?_)
        refine lv_goto (tgt := 9) hx hb dX7_scanNumber_56 (by decide) ?_
        exact ih_1982 _ _ _ _ (by omega) ⟨(z_1934 + 1), (z_1935 + 1), z_2026, _, by omega, by omega, by omega, by omega, by omega, by omega, by omega, by omega, rfl, hP, hS, lv_sub hl [0, 1, 2, 3] rfl, rfl⟩
set_option maxHeartbeats 4000000 in
set_option maxRecDepth 100000 in
theorem kc_X7_scanWord {p0 : Int} (hp0 : 0 ≤ p0 ∧ p0 ≤ 1600) (h_x_tape_length : 0 ≤ x_tape_length ∧ x_tape_length ≤ 1600) (h_x_tape_next : 0 ≤ x_tape_next ∧ x_tape_next ≤ 1600) (h_x_tape_place : 0 ≤ x_tape_place ∧ x_tape_place ≤ 1600) (h_x_tape_faultKind : 0 ≤ x_tape_faultKind ∧ x_tape_faultKind ≤ 0) (h_x_tape_faultPlace : -1 ≤ x_tape_faultPlace ∧ x_tape_faultPlace ≤ 1600) (b_B_tape_bytes : bd (-128) 127 B_tape_bytes) (g_D : dI x_tape_faultKind x_draft_herds x_draft_beasts x_draft_draw B_draft_brands B_draft_homes) : MetG l D k yX7_scanWord cX7_scanWord 4 none 1 [.ref (a 2), .int (mI p0)] (cW k a q x_xo_lyingCount x_tape_length x_tape_next x_tape_kind x_tape_place x_tape_number x_tape_faultKind x_tape_faultPlace x_told_turns x_told_mirror x_told_night x_told_draw x_told_herds x_told_irons x_told_beasts x_told_linesTold x_tfo_steps x_tfo_units x_draft_turns x_draft_mirror x_draft_night x_draft_draw x_draft_herds x_draft_irons x_draft_beasts x_draft_linesTold x_dfo_steps x_dfo_units x_lat_placements x_smi_irons x_smi_aim x_his_here x_his_undoable x_his_redoable x_book_placedCount x_wit_count x_wit_time n_tape_name B_xo_lying B_tape_bytes B_told_brands B_told_ironMarks B_told_homes B_told_births B_tfo_kinds B_tfo_numbers B_tfo_stack B_tfo_facts B_draft_brands B_draft_ironMarks B_draft_homes B_draft_births B_dfo_kinds B_dfo_numbers B_dfo_stack B_dfo_facts B_lat_lowHalves B_lat_highHalves B_lat_ways B_smi_placedIrons B_smi_within B_smi_costs B_his_isKept B_book_norms B_book_above B_book_heights B_book_placedBrands B_bea_firstGains B_bea_otherGains B_wit_burnings B_wit_strokes B_wit_wasOn B_wit_toldAt B_wit_untoldAt B_wit_on B_wit_off B_wit_firstCounts B_wit_secondCounts Ps Pd G_tape_wordNames G_told_herdNames G_told_ironNames G_told_beastNames G_draft_herdNames G_draft_ironNames G_draft_beastNames Ph Po Pg ex) (qGv (fun H => ∃ (y_tape_next : Int) (y_tape_kind : Int) (j_tape_name : Int64) (y_tape_faultKind : Int) (y_tape_faultPlace : Int), (0 ≤ y_tape_next ∧ y_tape_next ≤ 1600) ∧ (0 ≤ y_tape_kind ∧ y_tape_kind ≤ 203) ∧ (0 ≤ y_tape_faultKind ∧ y_tape_faultKind ≤ 5) ∧ (-1 ≤ y_tape_faultPlace ∧ y_tape_faultPlace ≤ 1600) ∧ (0 ≤ y_tape_faultKind - x_tape_faultKind) ∧ (¬ y_tape_kind = 201 ∨ 0 ≤ x_tape_number) ∧ (dI y_tape_faultKind x_draft_herds x_draft_beasts x_draft_draw B_draft_brands B_draft_homes) ∧ va_P D vwCl (cW k a q x_xo_lyingCount x_tape_length y_tape_next y_tape_kind x_tape_place x_tape_number y_tape_faultKind y_tape_faultPlace x_told_turns x_told_mirror x_told_night x_told_draw x_told_herds x_told_irons x_told_beasts x_told_linesTold x_tfo_steps x_tfo_units x_draft_turns x_draft_mirror x_draft_night x_draft_draw x_draft_herds x_draft_irons x_draft_beasts x_draft_linesTold x_dfo_steps x_dfo_units x_lat_placements x_smi_irons x_smi_aim x_his_here x_his_undoable x_his_redoable x_book_placedCount x_wit_count x_wit_time j_tape_name B_xo_lying B_tape_bytes B_told_brands B_told_ironMarks B_told_homes B_told_births B_tfo_kinds B_tfo_numbers B_tfo_stack B_tfo_facts B_draft_brands B_draft_ironMarks B_draft_homes B_draft_births B_dfo_kinds B_dfo_numbers B_dfo_stack B_dfo_facts B_lat_lowHalves B_lat_highHalves B_lat_ways B_smi_placedIrons B_smi_within B_smi_costs B_his_isKept B_book_norms B_book_above B_book_heights B_book_placedBrands B_bea_firstGains B_bea_otherGains B_wit_burnings B_wit_strokes B_wit_wasOn B_wit_toldAt B_wit_untoldAt B_wit_on B_wit_off B_wit_firstCounts B_wit_secondCounts Ps Pd G_tape_wordNames G_told_herdNames G_told_ironNames G_told_beastNames G_draft_herdNames G_draft_ironNames G_draft_beastNames Ph Po Pg ex) H)) := by
  refine metG_of 1 ck_X7_scanWord (Nat.le_of_ble_eq_true rfl) cMap (fun p e s m args below meth c A hx hb hml hr hlocks hown hts hK hD hA hP hS ls hl => ?_)
  have hown : s.vm.findClass "HideReader$Tape" = some m.cls := hown
  have hl : lv_has ls 4 [(0, .ref (a 2)), (1, .int (mI p0))] := hl
  refine lv_iconst (v := mI 0) hx hb dX7_scanWord_0 rfl ?_
  refine lv_istore_n (lv' := [(2, .int (mI 0)), (0, .ref (a 2)), (1, .int (mI p0))]) hx hb dX7_scanWord_1 rfl hl (by decide) rfl (fun ls hl => ?_)
  refine lv_aload_n hx hb dX7_scanWord_2 rfl (lv_at hl 1 rfl) ?_
  refine lv_lconst (v := 0) hx hb dX7_scanWord_3 rfl ?_
  refine cp_tape_name hx hb hts hown hK hP hD hS uw_1_97 dX7_scanWord_4 (fun H locs hP hS => ?_)
  refine lv_iload_n hx hb dX7_scanWord_7 rfl (lv_at hl 2 rfl) ?_
  refine lv_istore_n (lv' := [(3, .int (mI p0)), (2, .int (mI 0)), (0, .ref (a 2)), (1, .int (mI p0))]) hx hb dX7_scanWord_8 rfl hl (by decide) rfl (fun ls hl => ?_)
  refine sy_loop (I := fun n H locs g => ∃ (z_734 : Int) (z_735 : Int) (j_736 : Int64) (ls : Array Slot), (0 ≤ z_734 ∧ z_734 ≤ 1600) ∧ (0 ≤ z_735 ∧ z_735 ≤ 1600) ∧ (0 ≤ z_734 - z_735) ∧ (0 ≤ z_734 - p0 - z_735) ∧ (0 ≤ p0 + z_735 - z_734) ∧ (0 ≤ z_734 - p0) ∧ (1600 - z_735).toNat = n ∧ va_P D vwCl (cW k a q x_xo_lyingCount x_tape_length x_tape_next x_tape_kind x_tape_place x_tape_number x_tape_faultKind x_tape_faultPlace x_told_turns x_told_mirror x_told_night x_told_draw x_told_herds x_told_irons x_told_beasts x_told_linesTold x_tfo_steps x_tfo_units x_draft_turns x_draft_mirror x_draft_night x_draft_draw x_draft_herds x_draft_irons x_draft_beasts x_draft_linesTold x_dfo_steps x_dfo_units x_lat_placements x_smi_irons x_smi_aim x_his_here x_his_undoable x_his_redoable x_book_placedCount x_wit_count x_wit_time j_736 B_xo_lying B_tape_bytes B_told_brands B_told_ironMarks B_told_homes B_told_births B_tfo_kinds B_tfo_numbers B_tfo_stack B_tfo_facts B_draft_brands B_draft_ironMarks B_draft_homes B_draft_births B_dfo_kinds B_dfo_numbers B_dfo_stack B_dfo_facts B_lat_lowHalves B_lat_highHalves B_lat_ways B_smi_placedIrons B_smi_within B_smi_costs B_his_isKept B_book_norms B_book_above B_book_heights B_book_placedBrands B_bea_firstGains B_bea_otherGains B_wit_burnings B_wit_strokes B_wit_wasOn B_wit_toldAt B_wit_untoldAt B_wit_on B_wit_off B_wit_firstCounts B_wit_secondCounts Ps Pd G_tape_wordNames G_told_herdNames G_told_ironNames G_told_beastNames G_draft_herdNames G_draft_ironNames G_draft_beastNames Ph Po Pg ex) H ∧ va_S A s.heap H locs ∧ lv_has ls 4 [(3, .int (mI z_734)), (2, .int (mI z_735)), (0, .ref (a 2)), (1, .int (mI p0))] ∧ g = F0 m 9 ls []) ?_ _ ⟨p0, 0, 0, _, by omega, by omega, by omega, by omega, by omega, by omega, rfl, hP, hS, lv_sub hl [0, 1, 2, 3] rfl, rfl⟩
  intro n_827 H locs g hI ih_828
  obtain ⟨z_734, z_735, j_736, ls, h9_0, h9_1, h9_2, h9_3, h9_4, h9_5, mn_827, hP, hS, hl, rfl⟩ := hI
  refine lv_iload_n hx hb dX7_scanWord_9 rfl (lv_at hl 0 rfl) ?_
  refine lv_aload_n hx hb dX7_scanWord_10 rfl (lv_at hl 2 rfl) ?_
  refine cg_tape_length hx hb hts hown hK hP uw_1_92 dX7_scanWord_11 ?_
  refine sy_join (I := fun H locs g => ∃ (ls : Array Slot), va_P D vwCl (cW k a q x_xo_lyingCount x_tape_length x_tape_next x_tape_kind x_tape_place x_tape_number x_tape_faultKind x_tape_faultPlace x_told_turns x_told_mirror x_told_night x_told_draw x_told_herds x_told_irons x_told_beasts x_told_linesTold x_tfo_steps x_tfo_units x_draft_turns x_draft_mirror x_draft_night x_draft_draw x_draft_herds x_draft_irons x_draft_beasts x_draft_linesTold x_dfo_steps x_dfo_units x_lat_placements x_smi_irons x_smi_aim x_his_here x_his_undoable x_his_redoable x_book_placedCount x_wit_count x_wit_time j_736 B_xo_lying B_tape_bytes B_told_brands B_told_ironMarks B_told_homes B_told_births B_tfo_kinds B_tfo_numbers B_tfo_stack B_tfo_facts B_draft_brands B_draft_ironMarks B_draft_homes B_draft_births B_dfo_kinds B_dfo_numbers B_dfo_stack B_dfo_facts B_lat_lowHalves B_lat_highHalves B_lat_ways B_smi_placedIrons B_smi_within B_smi_costs B_his_isKept B_book_norms B_book_above B_book_heights B_book_placedBrands B_bea_firstGains B_bea_otherGains B_wit_burnings B_wit_strokes B_wit_wasOn B_wit_toldAt B_wit_untoldAt B_wit_on B_wit_off B_wit_firstCounts B_wit_secondCounts Ps Pd G_tape_wordNames G_told_herdNames G_told_ironNames G_told_beastNames G_draft_herdNames G_draft_ironNames G_draft_beastNames Ph Po Pg ex) H ∧ va_S A s.heap H locs ∧ lv_has ls 4 [(3, .int (mI z_734)), (2, .int (mI z_735)), (0, .ref (a 2)), (1, .int (mI p0))] ∧ g = F0 m 55 ls []) ?_ ?_
  · skip
    intro H locs g hI
    obtain ⟨ls, hP, hS, hl, rfl⟩ := hI
    refine lv_iload_n hx hb dX7_scanWord_55 rfl (lv_at hl 1 rfl) ?_
    refine lv_bipush (v := mI 8) hx hb dX7_scanWord_56 (by decide) ?_
    refine sy_icmp_le (tgt := 67) hx hb dX7_scanWord_58 (by decide) (by omega) (by decide) (fun c_839 => ?_) (fun c_839 => ?_)
    · skip
      refine lv_aload_n hx hb dX7_scanWord_67 rfl (lv_at hl 2 rfl) ?_
      refine lv_iload_n hx hb dX7_scanWord_68 rfl (lv_at hl 3 rfl) ?_
      refine lv_iload_n hx hb dX7_scanWord_69 rfl (lv_at hl 1 rfl) ?_
      refine sy_iadd hx hb dX7_scanWord_70 (p0 + z_735) rfl ?_
      refine cp_tape_next hx hb hts hown hK hP hD hS uw_1_93 dX7_scanWord_71 (fun H locs hP hS => ?_)
      refine lv_aload_n hx hb dX7_scanWord_74 rfl (lv_at hl 2 rfl) ?_
      refine lv_sipush (v := mI 200) hx hb dX7_scanWord_75 (by decide) ?_
      refine cp_tape_kind hx hb hts hown hK hP hD hS uw_1_94 dX7_scanWord_78 (fun H locs hP hS => ?_)
      refine lv_iconst (v := mI 0) hx hb dX7_scanWord_81 rfl ?_
      refine lv_istore_n (lv' := [(3, .int (mI 0)), (2, .int (mI z_735)), (0, .ref (a 2)), (1, .int (mI p0))]) hx hb dX7_scanWord_82 rfl hl (by decide) rfl (fun ls hl => ?_)
      refine sy_loop (I := fun n H locs g => ∃ (z_893 : Int) (y_894 : Int) (ls : Array Slot), (0 ≤ z_893 ∧ z_893 ≤ 18) ∧ (0 ≤ y_894 ∧ y_894 ≤ 200) ∧ (¬ y_894 = 201 ∨ 0 ≤ x_tape_number) ∧ (18 - z_893).toNat = n ∧ va_P D vwCl (cW k a q x_xo_lyingCount x_tape_length (p0 + z_735) y_894 x_tape_place x_tape_number x_tape_faultKind x_tape_faultPlace x_told_turns x_told_mirror x_told_night x_told_draw x_told_herds x_told_irons x_told_beasts x_told_linesTold x_tfo_steps x_tfo_units x_draft_turns x_draft_mirror x_draft_night x_draft_draw x_draft_herds x_draft_irons x_draft_beasts x_draft_linesTold x_dfo_steps x_dfo_units x_lat_placements x_smi_irons x_smi_aim x_his_here x_his_undoable x_his_redoable x_book_placedCount x_wit_count x_wit_time j_736 B_xo_lying B_tape_bytes B_told_brands B_told_ironMarks B_told_homes B_told_births B_tfo_kinds B_tfo_numbers B_tfo_stack B_tfo_facts B_draft_brands B_draft_ironMarks B_draft_homes B_draft_births B_dfo_kinds B_dfo_numbers B_dfo_stack B_dfo_facts B_lat_lowHalves B_lat_highHalves B_lat_ways B_smi_placedIrons B_smi_within B_smi_costs B_his_isKept B_book_norms B_book_above B_book_heights B_book_placedBrands B_bea_firstGains B_bea_otherGains B_wit_burnings B_wit_strokes B_wit_wasOn B_wit_toldAt B_wit_untoldAt B_wit_on B_wit_off B_wit_firstCounts B_wit_secondCounts Ps Pd G_tape_wordNames G_told_herdNames G_told_ironNames G_told_beastNames G_draft_herdNames G_draft_ironNames G_draft_beastNames Ph Po Pg ex) H ∧ va_S A s.heap H locs ∧ lv_has ls 4 [(3, .int (mI z_893)), (2, .int (mI z_735)), (0, .ref (a 2)), (1, .int (mI p0))] ∧ g = F0 m 83 ls []) ?_ _ ⟨0, 200, _, by omega, by omega, (by omega), rfl, hP, hS, lv_sub hl [0, 1, 2, 3] rfl, rfl⟩
      intro n_900 H locs g hI ih_901
      obtain ⟨z_893, y_894, ls, h83_0, h83_1, g_895, mn_900, hP, hS, hl, rfl⟩ := hI
      refine lv_iload_n hx hb dX7_scanWord_83 rfl (lv_at hl 0 rfl) ?_
      refine lv_bipush (v := mI 18) hx hb dX7_scanWord_84 (by decide) ?_
      refine sy_icmp_ge (tgt := 125) hx hb dX7_scanWord_86 (by decide) (by omega) (by decide) (fun c_902 => ?_) (fun c_902 => ?_)
      · skip
        exact r_v hx hb hr hlocks dX7_scanWord_125 hS ⟨(p0 + z_735), y_894, j_736, x_tape_faultKind, x_tape_faultPlace, by omega, by omega, by omega, by omega, by omega, g_895, g_D, hP⟩
      · skip
        refine lv_aload_n hx hb dX7_scanWord_89 rfl (lv_at hl 2 rfl) ?_
        refine lv_aload_n hx hb dX7_scanWord_90 rfl (lv_at hl 2 rfl) ?_
        refine cg_tape_wordNames hx hb hts hown hK hP uw_1_91 dX7_scanWord_91 ?_
        refine lv_iload_n hx hb dX7_scanWord_94 rfl (lv_at hl 0 rfl) ?_
        refine cl_tape_wordNames hx hb hK hP dX7_scanWord_95 (by omega) (fun j_903 => ?_)
        refine lv_aload_n hx hb dX7_scanWord_96 rfl (lv_at hl 2 rfl) ?_
        refine cg_tape_name hx hb hts hown hK hP uw_1_97 dX7_scanWord_97 ?_
        refine sy_lcmp hx hb dX7_scanWord_100 (fun z_904 hz_904 => ?_)
        refine sy_if_ne (tgt := 112) hx hb dX7_scanWord_101 (by decide) (by omega) (fun c_905 => ?_) (fun c_905 => ?_)
        · skip
          refine lv_aload_n hx hb dX7_scanWord_112 rfl (lv_at hl 2 rfl) ?_
          refine cg_tape_kind hx hb hts hown hK hP uw_1_94 dX7_scanWord_113 ?_
          refine cp_tape_kind hx hb hts hown hK hP hD hS uw_1_94 dX7_scanWord_116 (fun H locs hP hS => ?_)
          refine lv_iinc (v := mI (z_893 + 1)) (lv' := [(3, .int (mI (z_893 + 1))), (2, .int (mI z_735)), (0, .ref (a 2)), (1, .int (mI p0))]) hx hb dX7_scanWord_119 hl (k := 0) rfl (mI_ad rfl) (by decide) rfl (fun ls hl => ?_)
          refine lv_goto (tgt := 83) hx hb dX7_scanWord_122 (by decide) ?_
          exact ih_901 _ _ _ _ (by omega) ⟨(z_893 + 1), y_894, _, by omega, by omega, (by omega), rfl, hP, hS, lv_sub hl [0, 1, 2, 3] rfl, rfl⟩
        · skip
          refine lv_sipush (v := mI 128) hx hb dX7_scanWord_104 (by decide) ?_
          refine lv_iload_n hx hb dX7_scanWord_107 rfl (lv_at hl 0 rfl) ?_
          refine sy_iadd hx hb dX7_scanWord_108 (z_893 + 128) (by omega) ?_
          refine lv_goto (tgt := 116) hx hb dX7_scanWord_109 (by decide) ?_
          refine cp_tape_kind hx hb hts hown hK hP hD hS uw_1_94 dX7_scanWord_116 (fun H locs hP hS => ?_)
          refine lv_iinc (v := mI (z_893 + 1)) (lv' := [(3, .int (mI (z_893 + 1))), (2, .int (mI z_735)), (0, .ref (a 2)), (1, .int (mI p0))]) hx hb dX7_scanWord_119 hl (k := 0) rfl (mI_ad rfl) (by decide) rfl (fun ls hl => ?_)
          refine lv_goto (tgt := 83) hx hb dX7_scanWord_122 (by decide) ?_
          exact ih_901 _ _ _ _ (by omega) ⟨(z_893 + 1), (z_893 + 128), _, by omega, by omega, (by omega), rfl, hP, hS, lv_sub hl [0, 1, 2, 3] rfl, rfl⟩
    · skip
      refine lv_aload_n hx hb dX7_scanWord_61 rfl (lv_at hl 2 rfl) ?_
      refine lv_iconst (v := mI 1) hx hb dX7_scanWord_62 rfl ?_
      refine g_v (cDt hD) hS hA (g_V (own := "HideReader$Tape") (As := [.int (mI 1)]) (rest := []) hx hb hml hown hts hK hP (cDt hD) (kc_X7_fail_vz (l := l) (D := D) (k := k) (by decide) h_x_tape_place h_x_tape_faultKind) ck_X7_fail iv_X7_fail uw_3_80 (cv_tape hK hP) rfl hl.1 rfl (Nat.le_of_ble_eq_true rfl) dX7_scanWord_63 ⟨Nat.le_of_ble_eq_true rfl, Nat.le_of_ble_eq_true rfl⟩ ⟨Nat.le_of_ble_eq_true rfl, Nat.le_of_ble_eq_true rfl⟩) (fun H locs hQ hS => ?_)
      obtain ⟨y_907, y_908, y_909, hr_906_0, hr_906_1, hr_906_2, hr_906_3, kr_906_N, kr_906_D, hP⟩ := hQ
      exact r_v hx hb hr hlocks dX7_scanWord_66 hS ⟨x_tape_next, y_907, j_736, y_908, y_909, by omega, by omega, by omega, by omega, by omega, kr_906_N, kr_906_D, hP⟩
  · skip
    intro J_838
    refine sy_icmp_ge (tgt := 55) hx hb dX7_scanWord_14 (by decide) (by omega) (by omega) (fun c_910 => ?_) (fun c_910 => ?_)
    · skip
      exact J_838 _ _ _ ⟨_, hP, hS, lv_sub hl [0, 1, 2, 3] rfl, rfl⟩
    · skip
      refine lv_aload_n hx hb dX7_scanWord_17 rfl (lv_at hl 2 rfl) ?_
      refine cg_tape_bytes hx hb hts hown hK hP uw_1_90 dX7_scanWord_18 ?_
      refine lv_iload_n hx hb dX7_scanWord_21 rfl (lv_at hl 0 rfl) ?_
      refine cl_tape_bytes hx hb hK hP dX7_scanWord_22 (by omega) b_B_tape_bytes (fun z_911 _ hz_911 => ?_)
      refine g_i (cDt hD) hS hA (g_S (own := "HideReader$Tape") (As := [.int (mI z_911)]) (rest := []) hx hb hml hown hts hK hP (cDt hD) (kc_X7_isLetter (l := l) (D := D) (k := k) (by omega)) ck_X7_isLetter uw_3_74 uw_3_73 rfl hl.1 rfl (Nat.le_of_ble_eq_true rfl) dX7_scanWord_23 ⟨Nat.le_of_ble_eq_true rfl, Nat.le_of_ble_eq_true rfl⟩ ⟨Nat.le_of_ble_eq_true rfl, Nat.le_of_ble_eq_true rfl⟩) (fun r_912 H locs hQ hS => ?_)
      obtain ⟨hq_r_912, hP⟩ := hQ
      rcases hq_r_912 with ⟨rfl, c_913_0⟩ | ⟨rfl, c_914_0⟩
      · skip
        refine sy_if_eq (tgt := 55) hx hb dX7_scanWord_26 (by decide) (by decide) (fun c_915 => ?_) (fun c9 => absurd c9 (by decide))
        exact J_838 _ _ _ ⟨_, hP, hS, lv_sub hl [0, 1, 2, 3] rfl, rfl⟩
      · skip
        refine sy_if_eq (tgt := 55) hx hb dX7_scanWord_26 (by decide) (by decide) (fun c9 => absurd c9 (by decide)) (fun c_916 => ?_)
        refine lv_aload_n hx hb dX7_scanWord_29 rfl (lv_at hl 2 rfl) ?_
        refine lv_aload_n hx hb dX7_scanWord_30 rfl (lv_at hl 2 rfl) ?_
        refine cg_tape_name hx hb hts hown hK hP uw_1_97 dX7_scanWord_31 ?_
        refine lv_aload_n hx hb dX7_scanWord_34 rfl (lv_at hl 2 rfl) ?_
        refine cg_tape_bytes hx hb hts hown hK hP uw_1_90 dX7_scanWord_35 ?_
        refine lv_iload_n hx hb dX7_scanWord_38 rfl (lv_at hl 0 rfl) ?_
        refine cl_tape_bytes hx hb hK hP dX7_scanWord_39 (by omega) b_B_tape_bytes (fun z_917 _ hz_917 => ?_)
        refine g_l (cDt hD) hS hA (g_S (own := "HideReader$Tape") (As := [.long j_736, .int (mI z_917)]) (rest := [.ref (a 2)]) hx hb hml hown hts hK hP (cDt hD) (kc_X7_withLetter (l := l) (D := D) (k := k) (by omega)) ck_X7_withLetter uw_1_87 uw_1_86 rfl hl.1 rfl (Nat.le_of_ble_eq_true rfl) dX7_scanWord_40 ⟨Nat.le_of_ble_eq_true rfl, Nat.le_of_ble_eq_true rfl⟩ ⟨Nat.le_of_ble_eq_true rfl, Nat.le_of_ble_eq_true rfl⟩) (fun r_918 H locs hQ hS => ?_)
        have hP := hQ
        refine cp_tape_name hx hb hts hown hK hP hD hS uw_1_97 dX7_scanWord_43 (fun H locs hP hS => ?_)
        refine lv_iinc (v := mI (z_735 + 1)) (lv' := [(2, .int (mI (z_735 + 1))), (3, .int (mI z_734)), (0, .ref (a 2)), (1, .int (mI p0))]) hx hb dX7_scanWord_46 hl (k := 1) rfl (mI_ad rfl) (by decide) rfl (fun ls hl => ?_)
        refine lv_iinc (v := mI (z_734 + 1)) (lv' := [(3, .int (mI (z_734 + 1))), (2, .int (mI (z_735 + 1))), (0, .ref (a 2)), (1, .int (mI p0))]) hx hb dX7_scanWord_49 hl (k := 1) rfl (mI_ad rfl) (by decide) rfl (fun ls hl => ?_)
        refine lv_goto (tgt := 9) hx hb dX7_scanWord_52 (by decide) ?_
        exact ih_828 _ _ _ _ (by omega) ⟨(z_734 + 1), (z_735 + 1), r_918, _, by omega, by omega, by omega, by omega, by omega, by omega, rfl, hP, hS, lv_sub hl [0, 1, 2, 3] rfl, rfl⟩
set_option maxHeartbeats 4000000 in
set_option maxRecDepth 100000 in
theorem kc_X7_advance {bX aK aV : Nat} (hbA : ∀ x ∈ cAd a q ex, bX ≤ x) (h_x_tape_length : 0 ≤ x_tape_length ∧ x_tape_length ≤ 1600) (h_x_tape_next : 0 ≤ x_tape_next ∧ x_tape_next ≤ 1600) (h_x_tape_kind : 0 ≤ x_tape_kind ∧ x_tape_kind ≤ 255) (h_x_tape_place : 0 ≤ x_tape_place ∧ x_tape_place ≤ 1600) (h_x_tape_number : -2147483648 ≤ x_tape_number ∧ x_tape_number ≤ 2147483647) (h_x_tape_faultKind : 0 ≤ x_tape_faultKind ∧ x_tape_faultKind ≤ 5) (h_x_tape_faultPlace : -1 ≤ x_tape_faultPlace ∧ x_tape_faultPlace ≤ 1600) (b_B_tape_bytes : bd (-128) 127 B_tape_bytes) (g_N : ¬ x_tape_kind = 201 ∨ 0 ≤ x_tape_number) (g_D : dI x_tape_faultKind x_draft_herds x_draft_beasts x_draft_draw B_draft_brands B_draft_homes) : MetX l D k bX aK aV yX7_advance cX7_advance 2 none 5 [.ref (a 2)] (cW k a q x_xo_lyingCount x_tape_length x_tape_next x_tape_kind x_tape_place x_tape_number x_tape_faultKind x_tape_faultPlace x_told_turns x_told_mirror x_told_night x_told_draw x_told_herds x_told_irons x_told_beasts x_told_linesTold x_tfo_steps x_tfo_units x_draft_turns x_draft_mirror x_draft_night x_draft_draw x_draft_herds x_draft_irons x_draft_beasts x_draft_linesTold x_dfo_steps x_dfo_units x_lat_placements x_smi_irons x_smi_aim x_his_here x_his_undoable x_his_redoable x_book_placedCount x_wit_count x_wit_time n_tape_name B_xo_lying B_tape_bytes B_told_brands B_told_ironMarks B_told_homes B_told_births B_tfo_kinds B_tfo_numbers B_tfo_stack B_tfo_facts B_draft_brands B_draft_ironMarks B_draft_homes B_draft_births B_dfo_kinds B_dfo_numbers B_dfo_stack B_dfo_facts B_lat_lowHalves B_lat_highHalves B_lat_ways B_smi_placedIrons B_smi_within B_smi_costs B_his_isKept B_book_norms B_book_above B_book_heights B_book_placedBrands B_bea_firstGains B_bea_otherGains B_wit_burnings B_wit_strokes B_wit_wasOn B_wit_toldAt B_wit_untoldAt B_wit_on B_wit_off B_wit_firstCounts B_wit_secondCounts Ps Pd G_tape_wordNames G_told_herdNames G_told_ironNames G_told_beastNames G_draft_herdNames G_draft_ironNames G_draft_beastNames Ph Po Pg ex) (qGv (fun H => ∃ (y_tape_next : Int) (y_tape_kind : Int) (y_tape_place : Int) (y_tape_number : Int) (j_tape_name : Int64) (y_tape_faultKind : Int) (y_tape_faultPlace : Int), (0 ≤ y_tape_next ∧ y_tape_next ≤ 1600) ∧ (0 ≤ y_tape_kind ∧ y_tape_kind ≤ 255) ∧ (0 ≤ y_tape_place ∧ y_tape_place ≤ 1600) ∧ (-2147483648 ≤ y_tape_number ∧ y_tape_number ≤ 2147483647) ∧ (0 ≤ y_tape_faultKind ∧ y_tape_faultKind ≤ 5) ∧ (-1 ≤ y_tape_faultPlace ∧ y_tape_faultPlace ≤ 1600) ∧ (0 ≤ y_tape_faultKind - x_tape_faultKind) ∧ (¬ y_tape_kind = 201 ∨ 0 ≤ y_tape_number) ∧ (dI y_tape_faultKind x_draft_herds x_draft_beasts x_draft_draw B_draft_brands B_draft_homes) ∧ va_P D vwCl (cW k a q x_xo_lyingCount x_tape_length y_tape_next y_tape_kind y_tape_place y_tape_number y_tape_faultKind y_tape_faultPlace x_told_turns x_told_mirror x_told_night x_told_draw x_told_herds x_told_irons x_told_beasts x_told_linesTold x_tfo_steps x_tfo_units x_draft_turns x_draft_mirror x_draft_night x_draft_draw x_draft_herds x_draft_irons x_draft_beasts x_draft_linesTold x_dfo_steps x_dfo_units x_lat_placements x_smi_irons x_smi_aim x_his_here x_his_undoable x_his_redoable x_book_placedCount x_wit_count x_wit_time j_tape_name B_xo_lying B_tape_bytes B_told_brands B_told_ironMarks B_told_homes B_told_births B_tfo_kinds B_tfo_numbers B_tfo_stack B_tfo_facts B_draft_brands B_draft_ironMarks B_draft_homes B_draft_births B_dfo_kinds B_dfo_numbers B_dfo_stack B_dfo_facts B_lat_lowHalves B_lat_highHalves B_lat_ways B_smi_placedIrons B_smi_within B_smi_costs B_his_isKept B_book_norms B_book_above B_book_heights B_book_placedBrands B_bea_firstGains B_bea_otherGains B_wit_burnings B_wit_strokes B_wit_wasOn B_wit_toldAt B_wit_untoldAt B_wit_on B_wit_off B_wit_firstCounts B_wit_secondCounts Ps Pd G_tape_wordNames G_told_herdNames G_told_ironNames G_told_beastNames G_draft_herdNames G_draft_ironNames G_draft_beastNames Ph Po Pg ex) H)) := by
  refine metX_of 0 ck_X7_advance (Nat.le_of_ble_eq_true rfl) cMap hbA ⟨_, rfl⟩ (fun p e s m args below meth c A hx hb hml hr hlocks hown hts hK hD hA hP hS hX hAb hXA ls hl => ?_)
  have hown : s.vm.findClass "HideReader$Tape" = some m.cls := hown
  have hl : lv_has ls 2 [(0, .ref (a 2))] := hl
  refine lv_aload_n hx hb dX7_advance_0 rfl (lv_at hl 0 rfl) ?_
  refine cg_tape_faultKind hx hb hts hown hK hP uw_1_98 dX7_advance_1 ?_
  refine sy_if_eq (tgt := 8) hx hb dX7_advance_4 (by decide) (by omega) (fun c_1 => ?_) (fun c_1 => ?_)
  · skip
    refine lv_aload_n hx hb dX7_advance_8 rfl (lv_at hl 0 rfl) ?_
    refine cg_tape_next hx hb hts hown hK hP uw_1_93 dX7_advance_9 ?_
    refine lv_istore_n (lv' := [(1, .int (mI x_tape_next)), (0, .ref (a 2))]) hx hb dX7_advance_12 rfl hl (by decide) rfl (fun ls hl => ?_)
    refine sy_loop (I := fun n H locs g => ∃ (z_337 : Int) (ls : Array Slot), (0 ≤ z_337 ∧ z_337 ≤ 1600) ∧ (0 ≤ z_337 - x_tape_next) ∧ (1600 - z_337).toNat = n ∧ va_P D vwCl (cW k a q x_xo_lyingCount x_tape_length x_tape_next x_tape_kind x_tape_place x_tape_number x_tape_faultKind x_tape_faultPlace x_told_turns x_told_mirror x_told_night x_told_draw x_told_herds x_told_irons x_told_beasts x_told_linesTold x_tfo_steps x_tfo_units x_draft_turns x_draft_mirror x_draft_night x_draft_draw x_draft_herds x_draft_irons x_draft_beasts x_draft_linesTold x_dfo_steps x_dfo_units x_lat_placements x_smi_irons x_smi_aim x_his_here x_his_undoable x_his_redoable x_book_placedCount x_wit_count x_wit_time n_tape_name B_xo_lying B_tape_bytes B_told_brands B_told_ironMarks B_told_homes B_told_births B_tfo_kinds B_tfo_numbers B_tfo_stack B_tfo_facts B_draft_brands B_draft_ironMarks B_draft_homes B_draft_births B_dfo_kinds B_dfo_numbers B_dfo_stack B_dfo_facts B_lat_lowHalves B_lat_highHalves B_lat_ways B_smi_placedIrons B_smi_within B_smi_costs B_his_isKept B_book_norms B_book_above B_book_heights B_book_placedBrands B_bea_firstGains B_bea_otherGains B_wit_burnings B_wit_strokes B_wit_wasOn B_wit_toldAt B_wit_untoldAt B_wit_on B_wit_off B_wit_firstCounts B_wit_secondCounts Ps Pd G_tape_wordNames G_told_herdNames G_told_ironNames G_told_beastNames G_draft_herdNames G_draft_ironNames G_draft_beastNames Ph Po Pg ex) H ∧ va_S A s.heap H locs ∧ lv_has ls 2 [(1, .int (mI z_337)), (0, .ref (a 2))] ∧ g = F0 m 13 ls []) ?_ _ ⟨x_tape_next, _, by omega, by omega, rfl, hP, hS, lv_sub hl [0, 1] rfl, rfl⟩
    intro n_385 H locs g hI ih_386
    obtain ⟨z_337, ls, h13_0, h13_1, mn_385, hP, hS, hl, rfl⟩ := hI
    refine lv_iload_n hx hb dX7_advance_13 rfl (lv_at hl 0 rfl) ?_
    refine lv_aload_n hx hb dX7_advance_14 rfl (lv_at hl 1 rfl) ?_
    refine cg_tape_length hx hb hts hown hK hP uw_1_92 dX7_advance_15 ?_
    refine sy_join (I := fun H locs g => ∃ (ls : Array Slot), va_P D vwCl (cW k a q x_xo_lyingCount x_tape_length x_tape_next x_tape_kind x_tape_place x_tape_number x_tape_faultKind x_tape_faultPlace x_told_turns x_told_mirror x_told_night x_told_draw x_told_herds x_told_irons x_told_beasts x_told_linesTold x_tfo_steps x_tfo_units x_draft_turns x_draft_mirror x_draft_night x_draft_draw x_draft_herds x_draft_irons x_draft_beasts x_draft_linesTold x_dfo_steps x_dfo_units x_lat_placements x_smi_irons x_smi_aim x_his_here x_his_undoable x_his_redoable x_book_placedCount x_wit_count x_wit_time n_tape_name B_xo_lying B_tape_bytes B_told_brands B_told_ironMarks B_told_homes B_told_births B_tfo_kinds B_tfo_numbers B_tfo_stack B_tfo_facts B_draft_brands B_draft_ironMarks B_draft_homes B_draft_births B_dfo_kinds B_dfo_numbers B_dfo_stack B_dfo_facts B_lat_lowHalves B_lat_highHalves B_lat_ways B_smi_placedIrons B_smi_within B_smi_costs B_his_isKept B_book_norms B_book_above B_book_heights B_book_placedBrands B_bea_firstGains B_bea_otherGains B_wit_burnings B_wit_strokes B_wit_wasOn B_wit_toldAt B_wit_untoldAt B_wit_on B_wit_off B_wit_firstCounts B_wit_secondCounts Ps Pd G_tape_wordNames G_told_herdNames G_told_ironNames G_told_beastNames G_draft_herdNames G_draft_ironNames G_draft_beastNames Ph Po Pg ex) H ∧ va_S A s.heap H locs ∧ lv_has ls 2 [(1, .int (mI z_337)), (0, .ref (a 2))] ∧ g = F0 m 39 ls []) ?_ ?_
    · skip
      intro H locs g hI
      obtain ⟨ls, hP, hS, hl, rfl⟩ := hI
      refine lv_aload_n hx hb dX7_advance_39 rfl (lv_at hl 1 rfl) ?_
      refine lv_iload_n hx hb dX7_advance_40 rfl (lv_at hl 0 rfl) ?_
      refine cp_tape_place hx hb hts hown hK hP hD hS uw_1_95 dX7_advance_41 (fun H locs hP hS => ?_)
      refine lv_aload_n hx hb dX7_advance_44 rfl (lv_at hl 1 rfl) ?_
      refine lv_iload_n hx hb dX7_advance_45 rfl (lv_at hl 0 rfl) ?_
      refine cp_tape_next hx hb hts hown hK hP hD hS uw_1_93 dX7_advance_46 (fun H locs hP hS => ?_)
      refine lv_iload_n hx hb dX7_advance_49 rfl (lv_at hl 0 rfl) ?_
      refine lv_aload_n hx hb dX7_advance_50 rfl (lv_at hl 1 rfl) ?_
      refine cg_tape_length hx hb hts hown hK hP uw_1_92 dX7_advance_51 ?_
      refine sy_icmp_lt (tgt := 67) hx hb dX7_advance_54 (by decide) (by omega) (by omega) (fun c_395 => ?_) (fun c_395 => ?_)
      · skip
        refine lv_aload_n hx hb dX7_advance_67 rfl (lv_at hl 1 rfl) ?_
        refine cg_tape_bytes hx hb hts hown hK hP uw_1_90 dX7_advance_68 ?_
        refine lv_iload_n hx hb dX7_advance_71 rfl (lv_at hl 0 rfl) ?_
        refine cl_tape_bytes hx hb hK hP dX7_advance_72 (by omega) b_B_tape_bytes (fun z_396 _ hz_396 => ?_)
        refine g_i (cDt hD) hS hA (g_S (own := "HideReader$Tape") (As := [.int (mI z_396)]) (rest := []) hx hb hml hown hts hK hP (cDt hD) (kc_X7_isLetter (l := l) (D := D) (k := k) (by omega)) ck_X7_isLetter uw_3_74 uw_3_73 rfl hl.1 rfl (Nat.le_of_ble_eq_true rfl) dX7_advance_73 ⟨Nat.le_of_ble_eq_true rfl, Nat.le_of_ble_eq_true rfl⟩ ⟨Nat.le_of_ble_eq_true rfl, Nat.le_of_ble_eq_true rfl⟩) (fun r_397 H locs hQ hS => ?_)
        obtain ⟨hq_r_397, hP⟩ := hQ
        rcases hq_r_397 with ⟨rfl, c_398_0⟩ | ⟨rfl, c_399_0⟩
        · skip
          refine sy_if_eq (tgt := 87) hx hb dX7_advance_76 (by decide) (by decide) (fun c_400 => ?_) (fun c9 => absurd c9 (by decide))
          refine lv_aload_n hx hb dX7_advance_87 rfl (lv_at hl 1 rfl) ?_
          refine cg_tape_bytes hx hb hts hown hK hP uw_1_90 dX7_advance_88 ?_
          refine lv_iload_n hx hb dX7_advance_91 rfl (lv_at hl 0 rfl) ?_
          refine cl_tape_bytes hx hb hK hP dX7_advance_92 (by omega) b_B_tape_bytes (fun z_401 _ hz_401 => ?_)
          refine g_i (cDt hD) hS hA (g_S (own := "HideReader$Tape") (As := [.int (mI z_401)]) (rest := []) hx hb hml hown hts hK hP (cDt hD) (kc_X7_isDigit (l := l) (D := D) (k := k) (by omega)) ck_X7_isDigit uw_3_85 uw_3_84 rfl hl.1 rfl (Nat.le_of_ble_eq_true rfl) dX7_advance_93 ⟨Nat.le_of_ble_eq_true rfl, Nat.le_of_ble_eq_true rfl⟩ ⟨Nat.le_of_ble_eq_true rfl, Nat.le_of_ble_eq_true rfl⟩) (fun r_402 H locs hQ hS => ?_)
          obtain ⟨hq_r_402, hP⟩ := hQ
          rcases hq_r_402 with ⟨rfl, c_403_0⟩ | ⟨rfl, c_404_0⟩
          · skip
            refine sy_if_eq (tgt := 107) hx hb dX7_advance_96 (by decide) (by decide) (fun c_405 => ?_) (fun c9 => absurd c9 (by decide))
            refine lv_aload_n hx hb dX7_advance_107 rfl (lv_at hl 1 rfl) ?_
            refine lv_aload_n hx hb dX7_advance_108 rfl (lv_at hl 1 rfl) ?_
            refine cg_tape_bytes hx hb hts hown hK hP uw_1_90 dX7_advance_109 ?_
            refine lv_iload_n hx hb dX7_advance_112 rfl (lv_at hl 0 rfl) ?_
            refine cl_tape_bytes hx hb hK hP dX7_advance_113 (by omega) b_B_tape_bytes (fun z_406 _ hz_406 => ?_)
            refine lv_sipush (v := mI 255) hx hb dX7_advance_114 (by decide) ?_
            refine sy_iandR hx hb dX7_advance_117 (by decide) (fun z_407 hz_407 => ?_)
            refine g_v (cDt hD) hS hA (g_VX (own := "HideReader$Tape") (As := [.int (mI z_407)]) (rest := []) hx hb hml hown hts hK hP (cDt hD) (hXA hS) (kc_X7_scanSign (l := l) (D := D) (k := k) (bX := bX) (aK := aK) (aV := aV) hbA (by omega) (by omega) (by omega) (by omega) h_x_tape_faultPlace g_D) ck_X7_scanSign iv_X7_scanSign uw_3_91 (cv_tape hK hP) rfl hl.1 rfl (Nat.le_of_ble_eq_true rfl) dX7_advance_118 ⟨Nat.le_of_ble_eq_true rfl, Nat.le_of_ble_eq_true rfl⟩ ⟨Nat.le_of_ble_eq_true rfl, Nat.le_of_ble_eq_true rfl⟩) (fun H locs hQ hS => ?_)
            obtain ⟨y_409, y_410, y_411, y_412, hr_408_0, hr_408_1, hr_408_2, hr_408_3, hr_408_4, hr_408_5, kr_408_N, kr_408_D, hP⟩ := hQ
            exact r_v hx hb hr hlocks dX7_advance_121 hS ⟨y_409, y_410, z_337, x_tape_number, n_tape_name, y_411, y_412, by omega, by omega, by omega, by omega, by omega, by omega, by omega, kr_408_N, kr_408_D, hP⟩
          · skip
            refine sy_if_eq (tgt := 107) hx hb dX7_advance_96 (by decide) (by decide) (fun c9 => absurd c9 (by decide)) (fun c_413 => ?_)
            refine lv_aload_n hx hb dX7_advance_99 rfl (lv_at hl 1 rfl) ?_
            refine lv_iload_n hx hb dX7_advance_100 rfl (lv_at hl 0 rfl) ?_
            refine g_v (cDt hD) hS hA (g_V (own := "HideReader$Tape") (As := [.int (mI z_337)]) (rest := []) hx hb hml hown hts hK hP (cDt hD) (kc_X7_scanNumber (l := l) (D := D) (k := k) (by omega) h_x_tape_length (by omega) (by omega) (by omega) h_x_tape_faultPlace b_B_tape_bytes g_D) ck_X7_scanNumber iv_X7_scanNumber uw_3_87 (cv_tape hK hP) rfl hl.1 rfl (Nat.le_of_ble_eq_true rfl) dX7_advance_101 ⟨Nat.le_of_ble_eq_true rfl, Nat.le_of_ble_eq_true rfl⟩ ⟨Nat.le_of_ble_eq_true rfl, Nat.le_of_ble_eq_true rfl⟩) (fun H locs hQ hS => ?_)
            obtain ⟨y_415, y_416, y_417, y_418, y_419, hr_414_0, hr_414_1, hr_414_2, hr_414_3, hr_414_4, hr_414_5, kr_414_N, kr_414_D, hP⟩ := hQ
            refine lv_goto (tgt := 121) hx hb dX7_advance_104 (by decide) ?_
            exact r_v hx hb hr hlocks dX7_advance_121 hS ⟨y_415, y_416, z_337, y_417, n_tape_name, y_418, y_419, by omega, by omega, by omega, by omega, by omega, by omega, by omega, kr_414_N, kr_414_D, hP⟩
        · skip
          refine sy_if_eq (tgt := 87) hx hb dX7_advance_76 (by decide) (by decide) (fun c9 => absurd c9 (by decide)) (fun c_420 => ?_)
          refine lv_aload_n hx hb dX7_advance_79 rfl (lv_at hl 1 rfl) ?_
          refine lv_iload_n hx hb dX7_advance_80 rfl (lv_at hl 0 rfl) ?_
          refine g_v (cDt hD) hS hA (g_V (own := "HideReader$Tape") (As := [.int (mI z_337)]) (rest := []) hx hb hml hown hts hK hP (cDt hD) (kc_X7_scanWord (l := l) (D := D) (k := k) (by omega) h_x_tape_length (by omega) (by omega) (by omega) h_x_tape_faultPlace b_B_tape_bytes g_D) ck_X7_scanWord iv_X7_scanWord uw_3_76 (cv_tape hK hP) rfl hl.1 rfl (Nat.le_of_ble_eq_true rfl) dX7_advance_81 ⟨Nat.le_of_ble_eq_true rfl, Nat.le_of_ble_eq_true rfl⟩ ⟨Nat.le_of_ble_eq_true rfl, Nat.le_of_ble_eq_true rfl⟩) (fun H locs hQ hS => ?_)
          obtain ⟨y_422, y_423, j_424, y_425, y_426, hr_421_0, hr_421_1, hr_421_2, hr_421_3, hr_421_4, kr_421_N, kr_421_D, hP⟩ := hQ
          refine lv_goto (tgt := 121) hx hb dX7_advance_84 (by decide) ?_
          exact r_v hx hb hr hlocks dX7_advance_121 hS ⟨y_422, y_423, z_337, x_tape_number, j_424, y_425, y_426, by omega, by omega, by omega, by omega, by omega, by omega, by omega, kr_421_N, kr_421_D, hP⟩
      · skip
        refine lv_aload_n hx hb dX7_advance_57 rfl (lv_at hl 1 rfl) ?_
        refine lv_sipush (v := mI 202) hx hb dX7_advance_58 (by decide) ?_
        refine cp_tape_kind hx hb hts hown hK hP hD hS uw_1_94 dX7_advance_61 (fun H locs hP hS => ?_)
        refine lv_goto (tgt := 121) hx hb dX7_advance_64 (by decide) ?_
        exact r_v hx hb hr hlocks dX7_advance_121 hS ⟨z_337, 202, z_337, x_tape_number, n_tape_name, x_tape_faultKind, x_tape_faultPlace, by omega, by omega, by omega, by omega, by omega, by omega, by omega, (by omega), g_D, hP⟩
    · skip
      intro J_394
      refine sy_icmp_ge (tgt := 39) hx hb dX7_advance_18 (by decide) (by omega) (by omega) (fun c_427 => ?_) (fun c_427 => ?_)
      · skip
        exact J_394 _ _ _ ⟨_, hP, hS, lv_sub hl [0, 1] rfl, rfl⟩
      · skip
        refine lv_aload_n hx hb dX7_advance_21 rfl (lv_at hl 1 rfl) ?_
        refine cg_tape_bytes hx hb hts hown hK hP uw_1_90 dX7_advance_22 ?_
        refine lv_iload_n hx hb dX7_advance_25 rfl (lv_at hl 0 rfl) ?_
        refine cl_tape_bytes hx hb hK hP dX7_advance_26 (by omega) b_B_tape_bytes (fun z_428 _ hz_428 => ?_)
        refine g_i (cDt hD) hS hA (g_S (own := "HideReader$Tape") (As := [.int (mI z_428)]) (rest := []) hx hb hml hown hts hK hP (cDt hD) (kc_X7_isBlank (l := l) (D := D) (k := k) (by omega)) ck_X7_isBlank uw_3_71 uw_3_70 rfl hl.1 rfl (Nat.le_of_ble_eq_true rfl) dX7_advance_27 ⟨Nat.le_of_ble_eq_true rfl, Nat.le_of_ble_eq_true rfl⟩ ⟨Nat.le_of_ble_eq_true rfl, Nat.le_of_ble_eq_true rfl⟩) (fun r_429 H locs hQ hS => ?_)
        obtain ⟨hq_r_429, hP⟩ := hQ
        rcases hq_r_429 with ⟨rfl, c_430_0, c_430_1⟩ | ⟨rfl, c_431_0, c_431_1⟩
        · skip
          refine sy_if_eq (tgt := 39) hx hb dX7_advance_30 (by decide) (by decide) (fun c9 => absurd c9 (by decide)) (fun c_432 => ?_)
          refine lv_iinc (v := mI (z_337 + 1)) (lv' := [(1, .int (mI (z_337 + 1))), (0, .ref (a 2))]) hx hb dX7_advance_33 hl (k := 0) rfl (mI_ad rfl) (by decide) rfl (fun ls hl => ?_)
          refine lv_goto (tgt := 13) hx hb dX7_advance_36 (by decide) ?_
          exact ih_386 _ _ _ _ (by omega) ⟨(z_337 + 1), _, by omega, by omega, rfl, hP, hS, lv_sub hl [0, 1] rfl, rfl⟩
        · skip
          refine sy_if_eq (tgt := 39) hx hb dX7_advance_30 (by decide) (by decide) (fun c_433 => ?_) (fun c9 => absurd c9 (by decide))
          exact J_394 _ _ _ ⟨_, hP, hS, lv_sub hl [0, 1] rfl, rfl⟩
  · skip
    exact r_v hx hb hr hlocks dX7_advance_7 hS ⟨x_tape_next, x_tape_kind, x_tape_place, x_tape_number, n_tape_name, x_tape_faultKind, x_tape_faultPlace, by omega, by omega, by omega, by omega, by omega, by omega, by omega, g_N, g_D, hP⟩
set_option maxHeartbeats 4000000 in
set_option maxRecDepth 100000 in
theorem kc_X7_rewind {bX aK aV : Nat} (hbA : ∀ x ∈ cAd a q ex, bX ≤ x) (h_x_tape_length : 0 ≤ x_tape_length ∧ x_tape_length ≤ 1600) (h_x_tape_kind : 0 ≤ x_tape_kind ∧ x_tape_kind ≤ 255) (h_x_tape_place : 0 ≤ x_tape_place ∧ x_tape_place ≤ 1600) (h_x_tape_number : -2147483648 ≤ x_tape_number ∧ x_tape_number ≤ 2147483647) (h_x_draft_draw : 0 ≤ x_draft_draw ∧ x_draft_draw ≤ 0) (h_x_draft_herds : 0 ≤ x_draft_herds ∧ x_draft_herds ≤ 0) (h_x_draft_beasts : 0 ≤ x_draft_beasts ∧ x_draft_beasts ≤ 0) (b_B_tape_bytes : bd (-128) 127 B_tape_bytes) (g_N : ¬ x_tape_kind = 201 ∨ 0 ≤ x_tape_number) : MetX l D k bX aK aV yX7_rewind cX7_rewind 1 none 6 [.ref (a 2)] (cW k a q x_xo_lyingCount x_tape_length x_tape_next x_tape_kind x_tape_place x_tape_number x_tape_faultKind x_tape_faultPlace x_told_turns x_told_mirror x_told_night x_told_draw x_told_herds x_told_irons x_told_beasts x_told_linesTold x_tfo_steps x_tfo_units x_draft_turns x_draft_mirror x_draft_night x_draft_draw x_draft_herds x_draft_irons x_draft_beasts x_draft_linesTold x_dfo_steps x_dfo_units x_lat_placements x_smi_irons x_smi_aim x_his_here x_his_undoable x_his_redoable x_book_placedCount x_wit_count x_wit_time n_tape_name B_xo_lying B_tape_bytes B_told_brands B_told_ironMarks B_told_homes B_told_births B_tfo_kinds B_tfo_numbers B_tfo_stack B_tfo_facts B_draft_brands B_draft_ironMarks B_draft_homes B_draft_births B_dfo_kinds B_dfo_numbers B_dfo_stack B_dfo_facts B_lat_lowHalves B_lat_highHalves B_lat_ways B_smi_placedIrons B_smi_within B_smi_costs B_his_isKept B_book_norms B_book_above B_book_heights B_book_placedBrands B_bea_firstGains B_bea_otherGains B_wit_burnings B_wit_strokes B_wit_wasOn B_wit_toldAt B_wit_untoldAt B_wit_on B_wit_off B_wit_firstCounts B_wit_secondCounts Ps Pd G_tape_wordNames G_told_herdNames G_told_ironNames G_told_beastNames G_draft_herdNames G_draft_ironNames G_draft_beastNames Ph Po Pg ex) (qGv (fun H => ∃ (y_tape_next : Int) (y_tape_kind : Int) (y_tape_place : Int) (y_tape_number : Int) (j_tape_name : Int64) (y_tape_faultKind : Int) (y_tape_faultPlace : Int), (0 ≤ y_tape_next ∧ y_tape_next ≤ 1600) ∧ (0 ≤ y_tape_kind ∧ y_tape_kind ≤ 255) ∧ (0 ≤ y_tape_place ∧ y_tape_place ≤ 1600) ∧ (-2147483648 ≤ y_tape_number ∧ y_tape_number ≤ 2147483647) ∧ (0 ≤ y_tape_faultKind ∧ y_tape_faultKind ≤ 5) ∧ (-1 ≤ y_tape_faultPlace ∧ y_tape_faultPlace ≤ 1600) ∧ (¬ y_tape_kind = 201 ∨ 0 ≤ y_tape_number) ∧ (dI y_tape_faultKind x_draft_herds x_draft_beasts x_draft_draw B_draft_brands B_draft_homes) ∧ va_P D vwCl (cW k a q x_xo_lyingCount x_tape_length y_tape_next y_tape_kind y_tape_place y_tape_number y_tape_faultKind y_tape_faultPlace x_told_turns x_told_mirror x_told_night x_told_draw x_told_herds x_told_irons x_told_beasts x_told_linesTold x_tfo_steps x_tfo_units x_draft_turns x_draft_mirror x_draft_night x_draft_draw x_draft_herds x_draft_irons x_draft_beasts x_draft_linesTold x_dfo_steps x_dfo_units x_lat_placements x_smi_irons x_smi_aim x_his_here x_his_undoable x_his_redoable x_book_placedCount x_wit_count x_wit_time j_tape_name B_xo_lying B_tape_bytes B_told_brands B_told_ironMarks B_told_homes B_told_births B_tfo_kinds B_tfo_numbers B_tfo_stack B_tfo_facts B_draft_brands B_draft_ironMarks B_draft_homes B_draft_births B_dfo_kinds B_dfo_numbers B_dfo_stack B_dfo_facts B_lat_lowHalves B_lat_highHalves B_lat_ways B_smi_placedIrons B_smi_within B_smi_costs B_his_isKept B_book_norms B_book_above B_book_heights B_book_placedBrands B_bea_firstGains B_bea_otherGains B_wit_burnings B_wit_strokes B_wit_wasOn B_wit_toldAt B_wit_untoldAt B_wit_on B_wit_off B_wit_firstCounts B_wit_secondCounts Ps Pd G_tape_wordNames G_told_herdNames G_told_ironNames G_told_beastNames G_draft_herdNames G_draft_ironNames G_draft_beastNames Ph Po Pg ex) H)) := by
  refine metX_of 0 ck_X7_rewind (Nat.le_of_ble_eq_true rfl) cMap hbA ⟨_, rfl⟩ (fun p e s m args below meth c A hx hb hml hr hlocks hown hts hK hD hA hP hS hX hAb hXA ls hl => ?_)
  have hown : s.vm.findClass "HideReader$Tape" = some m.cls := hown
  have hl : lv_has ls 1 [(0, .ref (a 2))] := hl
  refine lv_aload_n hx hb dX7_rewind_0 rfl (lv_at hl 0 rfl) ?_
  refine lv_iconst (v := mI 0) hx hb dX7_rewind_1 rfl ?_
  refine cp_tape_faultKind hx hb hts hown hK hP hD hS uw_1_98 dX7_rewind_2 (fun H locs hP hS => ?_)
  refine lv_aload_n hx hb dX7_rewind_5 rfl (lv_at hl 0 rfl) ?_
  refine lv_iconst (v := mI (-1)) hx hb dX7_rewind_6 rfl ?_
  refine cp_tape_faultPlace hx hb hts hown hK hP hD hS uw_1_99 dX7_rewind_7 (fun H locs hP hS => ?_)
  refine lv_aload_n hx hb dX7_rewind_10 rfl (lv_at hl 0 rfl) ?_
  refine lv_iconst (v := mI 0) hx hb dX7_rewind_11 rfl ?_
  refine cp_tape_next hx hb hts hown hK hP hD hS uw_1_93 dX7_rewind_12 (fun H locs hP hS => ?_)
  refine lv_aload_n hx hb dX7_rewind_15 rfl (lv_at hl 0 rfl) ?_
  refine g_v (cDt hD) hS hA (g_VX (own := "HideReader$Tape") (As := []) (rest := []) hx hb hml hown hts hK hP (cDt hD) (hXA hS) (kc_X7_advance (l := l) (D := D) (k := k) (bX := bX) (aK := aK) (aV := aV) hbA h_x_tape_length (by omega) h_x_tape_kind h_x_tape_place h_x_tape_number (by omega) (by omega) b_B_tape_bytes g_N (dI_0 (by omega) (by omega) (by omega))) ck_X7_advance iv_X7_advance uw_3_66 (cv_tape hK hP) rfl hl.1 rfl (Nat.le_of_ble_eq_true rfl) dX7_rewind_16 ⟨Nat.le_of_ble_eq_true rfl, Nat.le_of_ble_eq_true rfl⟩ ⟨Nat.le_of_ble_eq_true rfl, Nat.le_of_ble_eq_true rfl⟩) (fun H locs hQ hS => ?_)
  obtain ⟨y_2, y_3, y_4, y_5, j_6, y_7, y_8, hr_1_0, hr_1_1, hr_1_2, hr_1_3, hr_1_4, hr_1_5, hr_1_6, kr_1_N, kr_1_D, hP⟩ := hQ
  exact r_v hx hb hr hlocks dX7_rewind_19 hS ⟨y_2, y_3, y_4, y_5, j_6, y_7, y_8, by omega, by omega, by omega, by omega, by omega, by omega, kr_1_N, kr_1_D, hP⟩
set_option maxHeartbeats 4000000 in
set_option maxRecDepth 100000 in
theorem kc_X7_expect {bX aK aV : Nat} (hbA : ∀ x ∈ cAd a q ex, bX ≤ x) {p0 : Int} (hp0 : 0 ≤ p0 ∧ p0 ≤ 255) (h_x_tape_length : 0 ≤ x_tape_length ∧ x_tape_length ≤ 1600) (h_x_tape_next : 0 ≤ x_tape_next ∧ x_tape_next ≤ 1600) (h_x_tape_kind : 0 ≤ x_tape_kind ∧ x_tape_kind ≤ 255) (h_x_tape_place : 0 ≤ x_tape_place ∧ x_tape_place ≤ 1600) (h_x_tape_number : -2147483648 ≤ x_tape_number ∧ x_tape_number ≤ 2147483647) (h_x_tape_faultKind : 0 ≤ x_tape_faultKind ∧ x_tape_faultKind ≤ 5) (h_x_tape_faultPlace : -1 ≤ x_tape_faultPlace ∧ x_tape_faultPlace ≤ 1600) (b_B_tape_bytes : bd (-128) 127 B_tape_bytes) (g_N : ¬ x_tape_kind = 201 ∨ 0 ≤ x_tape_number) (g_D : dI x_tape_faultKind x_draft_herds x_draft_beasts x_draft_draw B_draft_brands B_draft_homes) : MetX l D k bX aK aV yX7_expect cX7_expect 2 none 6 [.ref (a 2), .int (mI p0)] (cW k a q x_xo_lyingCount x_tape_length x_tape_next x_tape_kind x_tape_place x_tape_number x_tape_faultKind x_tape_faultPlace x_told_turns x_told_mirror x_told_night x_told_draw x_told_herds x_told_irons x_told_beasts x_told_linesTold x_tfo_steps x_tfo_units x_draft_turns x_draft_mirror x_draft_night x_draft_draw x_draft_herds x_draft_irons x_draft_beasts x_draft_linesTold x_dfo_steps x_dfo_units x_lat_placements x_smi_irons x_smi_aim x_his_here x_his_undoable x_his_redoable x_book_placedCount x_wit_count x_wit_time n_tape_name B_xo_lying B_tape_bytes B_told_brands B_told_ironMarks B_told_homes B_told_births B_tfo_kinds B_tfo_numbers B_tfo_stack B_tfo_facts B_draft_brands B_draft_ironMarks B_draft_homes B_draft_births B_dfo_kinds B_dfo_numbers B_dfo_stack B_dfo_facts B_lat_lowHalves B_lat_highHalves B_lat_ways B_smi_placedIrons B_smi_within B_smi_costs B_his_isKept B_book_norms B_book_above B_book_heights B_book_placedBrands B_bea_firstGains B_bea_otherGains B_wit_burnings B_wit_strokes B_wit_wasOn B_wit_toldAt B_wit_untoldAt B_wit_on B_wit_off B_wit_firstCounts B_wit_secondCounts Ps Pd G_tape_wordNames G_told_herdNames G_told_ironNames G_told_beastNames G_draft_herdNames G_draft_ironNames G_draft_beastNames Ph Po Pg ex) (qGv (fun H => ∃ (y_tape_next : Int) (y_tape_kind : Int) (y_tape_place : Int) (y_tape_number : Int) (j_tape_name : Int64) (y_tape_faultKind : Int) (y_tape_faultPlace : Int), (0 ≤ y_tape_next ∧ y_tape_next ≤ 1600) ∧ (0 ≤ y_tape_kind ∧ y_tape_kind ≤ 255) ∧ (0 ≤ y_tape_place ∧ y_tape_place ≤ 1600) ∧ (-2147483648 ≤ y_tape_number ∧ y_tape_number ≤ 2147483647) ∧ (0 ≤ y_tape_faultKind ∧ y_tape_faultKind ≤ 5) ∧ (-1 ≤ y_tape_faultPlace ∧ y_tape_faultPlace ≤ 1600) ∧ (0 ≤ y_tape_faultKind - x_tape_faultKind) ∧ (¬ y_tape_kind = 201 ∨ 0 ≤ y_tape_number) ∧ (dI y_tape_faultKind x_draft_herds x_draft_beasts x_draft_draw B_draft_brands B_draft_homes) ∧ va_P D vwCl (cW k a q x_xo_lyingCount x_tape_length y_tape_next y_tape_kind y_tape_place y_tape_number y_tape_faultKind y_tape_faultPlace x_told_turns x_told_mirror x_told_night x_told_draw x_told_herds x_told_irons x_told_beasts x_told_linesTold x_tfo_steps x_tfo_units x_draft_turns x_draft_mirror x_draft_night x_draft_draw x_draft_herds x_draft_irons x_draft_beasts x_draft_linesTold x_dfo_steps x_dfo_units x_lat_placements x_smi_irons x_smi_aim x_his_here x_his_undoable x_his_redoable x_book_placedCount x_wit_count x_wit_time j_tape_name B_xo_lying B_tape_bytes B_told_brands B_told_ironMarks B_told_homes B_told_births B_tfo_kinds B_tfo_numbers B_tfo_stack B_tfo_facts B_draft_brands B_draft_ironMarks B_draft_homes B_draft_births B_dfo_kinds B_dfo_numbers B_dfo_stack B_dfo_facts B_lat_lowHalves B_lat_highHalves B_lat_ways B_smi_placedIrons B_smi_within B_smi_costs B_his_isKept B_book_norms B_book_above B_book_heights B_book_placedBrands B_bea_firstGains B_bea_otherGains B_wit_burnings B_wit_strokes B_wit_wasOn B_wit_toldAt B_wit_untoldAt B_wit_on B_wit_off B_wit_firstCounts B_wit_secondCounts Ps Pd G_tape_wordNames G_told_herdNames G_told_ironNames G_told_beastNames G_draft_herdNames G_draft_ironNames G_draft_beastNames Ph Po Pg ex) H)) := by
  refine metX_of 1 ck_X7_expect (Nat.le_of_ble_eq_true rfl) cMap hbA ⟨_, rfl⟩ (fun p e s m args below meth c A hx hb hml hr hlocks hown hts hK hD hA hP hS hX hAb hXA ls hl => ?_)
  have hown : s.vm.findClass "HideReader$Tape" = some m.cls := hown
  have hl : lv_has ls 2 [(0, .ref (a 2)), (1, .int (mI p0))] := hl
  refine lv_aload_n hx hb dX7_expect_0 rfl (lv_at hl 0 rfl) ?_
  refine cg_tape_kind hx hb hts hown hK hP uw_1_94 dX7_expect_1 ?_
  refine lv_iload_n hx hb dX7_expect_4 rfl (lv_at hl 1 rfl) ?_
  refine sy_join (I := fun H locs g => ∃ (y_6 : Int) (y_7 : Int) (y_8 : Int) (ls : Array Slot), (0 ≤ y_6 ∧ y_6 ≤ 255) ∧ (0 ≤ y_7 ∧ y_7 ≤ 5) ∧ (-1 ≤ y_8 ∧ y_8 ≤ 1600) ∧ (¬ y_6 = 201 ∨ 0 ≤ x_tape_number) ∧ (dI y_7 x_draft_herds x_draft_beasts x_draft_draw B_draft_brands B_draft_homes) ∧ (x_tape_faultKind ≤ y_7) ∧ va_P D vwCl (cW k a q x_xo_lyingCount x_tape_length x_tape_next y_6 x_tape_place x_tape_number y_7 y_8 x_told_turns x_told_mirror x_told_night x_told_draw x_told_herds x_told_irons x_told_beasts x_told_linesTold x_tfo_steps x_tfo_units x_draft_turns x_draft_mirror x_draft_night x_draft_draw x_draft_herds x_draft_irons x_draft_beasts x_draft_linesTold x_dfo_steps x_dfo_units x_lat_placements x_smi_irons x_smi_aim x_his_here x_his_undoable x_his_redoable x_book_placedCount x_wit_count x_wit_time n_tape_name B_xo_lying B_tape_bytes B_told_brands B_told_ironMarks B_told_homes B_told_births B_tfo_kinds B_tfo_numbers B_tfo_stack B_tfo_facts B_draft_brands B_draft_ironMarks B_draft_homes B_draft_births B_dfo_kinds B_dfo_numbers B_dfo_stack B_dfo_facts B_lat_lowHalves B_lat_highHalves B_lat_ways B_smi_placedIrons B_smi_within B_smi_costs B_his_isKept B_book_norms B_book_above B_book_heights B_book_placedBrands B_bea_firstGains B_bea_otherGains B_wit_burnings B_wit_strokes B_wit_wasOn B_wit_toldAt B_wit_untoldAt B_wit_on B_wit_off B_wit_firstCounts B_wit_secondCounts Ps Pd G_tape_wordNames G_told_herdNames G_told_ironNames G_told_beastNames G_draft_herdNames G_draft_ironNames G_draft_beastNames Ph Po Pg ex) H ∧ va_S A s.heap H locs ∧ lv_has ls 2 [(0, .ref (a 2)), (1, .int (mI p0))] ∧ g = F0 m 13 ls []) ?_ ?_
  · skip
    intro H locs g hI
    obtain ⟨y_6, y_7, y_8, ls, h13_0, h13_1, h13_2, g_9, g_10, h13_5, hP, hS, hl, rfl⟩ := hI
    refine lv_aload_n hx hb dX7_expect_13 rfl (lv_at hl 0 rfl) ?_
    refine g_v (cDt hD) hS hA (g_VX (own := "HideReader$Tape") (As := []) (rest := []) hx hb hml hown hts hK hP (cDt hD) (hXA hS) (kc_X7_advance (l := l) (D := D) (k := k) (bX := bX) (aK := aK) (aV := aV) hbA h_x_tape_length h_x_tape_next (by omega) h_x_tape_place h_x_tape_number (by omega) (by omega) b_B_tape_bytes g_9 g_10) ck_X7_advance iv_X7_advance uw_3_66 (cv_tape hK hP) rfl hl.1 rfl (Nat.le_of_ble_eq_true rfl) dX7_expect_14 ⟨Nat.le_of_ble_eq_true rfl, Nat.le_of_ble_eq_true rfl⟩ ⟨Nat.le_of_ble_eq_true rfl, Nat.le_of_ble_eq_true rfl⟩) (fun H locs hQ hS => ?_)
    obtain ⟨y_13, y_14, y_15, y_16, j_17, y_18, y_19, hr_12_0, hr_12_1, hr_12_2, hr_12_3, hr_12_4, hr_12_5, hr_12_6, kr_12_N, kr_12_D, hP⟩ := hQ
    exact r_v hx hb hr hlocks dX7_expect_17 hS ⟨y_13, y_14, y_15, y_16, j_17, y_18, y_19, by omega, by omega, by omega, by omega, by omega, by omega, by omega, kr_12_N, kr_12_D, hP⟩
  · skip
    intro J_11
    refine sy_icmp_eq (tgt := 13) hx hb dX7_expect_5 (by decide) (by omega) (by omega) (fun c_20 => ?_) (fun c_20 => ?_)
    · skip
      exact J_11 _ _ _ ⟨x_tape_kind, x_tape_faultKind, x_tape_faultPlace, _, by omega, by omega, by omega, g_N, g_D, by omega, hP, hS, lv_sub hl [0, 1] rfl, rfl⟩
    · skip
      refine lv_aload_n hx hb dX7_expect_8 rfl (lv_at hl 0 rfl) ?_
      refine lv_iconst (v := mI 2) hx hb dX7_expect_9 rfl ?_
      refine g_v (cDt hD) hS hA (g_V (own := "HideReader$Tape") (As := [.int (mI 2)]) (rest := []) hx hb hml hown hts hK hP (cDt hD) (kc_X7_fail (l := l) (D := D) (k := k) (by decide) h_x_tape_kind h_x_tape_place h_x_tape_faultKind h_x_tape_faultPlace g_N g_D) ck_X7_fail iv_X7_fail uw_3_80 (cv_tape hK hP) rfl hl.1 rfl (Nat.le_of_ble_eq_true rfl) dX7_expect_10 ⟨Nat.le_of_ble_eq_true rfl, Nat.le_of_ble_eq_true rfl⟩ ⟨Nat.le_of_ble_eq_true rfl, Nat.le_of_ble_eq_true rfl⟩) (fun H locs hQ hS => ?_)
      obtain ⟨y_22, y_23, y_24, hr_21_0, hr_21_1, hr_21_2, hr_21_3, kr_21_N, kr_21_D, hP⟩ := hQ
      exact J_11 _ _ _ ⟨y_22, y_23, y_24, _, by omega, by omega, by omega, kr_21_N, kr_21_D, by omega, hP, hS, lv_sub hl [0, 1] rfl, rfl⟩
set_option maxHeartbeats 4000000 in
set_option maxRecDepth 100000 in
theorem kc_X8_start {bX aK aV : Nat} (hbA : ∀ x ∈ cAd a q ex, bX ≤ x) {p0 : Int} (hp0 : 0 ≤ p0 ∧ p0 ≤ 1) (h_x_tape_length : 0 ≤ x_tape_length ∧ x_tape_length ≤ 1600) (h_x_tape_next : 0 ≤ x_tape_next ∧ x_tape_next ≤ 1600) (h_x_tape_kind : 0 ≤ x_tape_kind ∧ x_tape_kind ≤ 255) (h_x_tape_place : 0 ≤ x_tape_place ∧ x_tape_place ≤ 1600) (h_x_tape_number : -2147483648 ≤ x_tape_number ∧ x_tape_number ≤ 2147483647) (h_x_tape_faultKind : 0 ≤ x_tape_faultKind ∧ x_tape_faultKind ≤ 5) (h_x_tape_faultPlace : -1 ≤ x_tape_faultPlace ∧ x_tape_faultPlace ≤ 1600) (b_B_tape_bytes : bd (-128) 127 B_tape_bytes) (g_N : ¬ x_tape_kind = 201 ∨ 0 ≤ x_tape_number) (g_D : dI x_tape_faultKind x_draft_herds x_draft_beasts x_draft_draw B_draft_brands B_draft_homes) : MetX l D k bX aK aV yX8_start cX8_start 2 none 6 [.ref (a 31), .int (mI p0)] (cW k a q x_xo_lyingCount x_tape_length x_tape_next x_tape_kind x_tape_place x_tape_number x_tape_faultKind x_tape_faultPlace x_told_turns x_told_mirror x_told_night x_told_draw x_told_herds x_told_irons x_told_beasts x_told_linesTold x_tfo_steps x_tfo_units x_draft_turns x_draft_mirror x_draft_night x_draft_draw x_draft_herds x_draft_irons x_draft_beasts x_draft_linesTold x_dfo_steps x_dfo_units x_lat_placements x_smi_irons x_smi_aim x_his_here x_his_undoable x_his_redoable x_book_placedCount x_wit_count x_wit_time n_tape_name B_xo_lying B_tape_bytes B_told_brands B_told_ironMarks B_told_homes B_told_births B_tfo_kinds B_tfo_numbers B_tfo_stack B_tfo_facts B_draft_brands B_draft_ironMarks B_draft_homes B_draft_births B_dfo_kinds B_dfo_numbers B_dfo_stack B_dfo_facts B_lat_lowHalves B_lat_highHalves B_lat_ways B_smi_placedIrons B_smi_within B_smi_costs B_his_isKept B_book_norms B_book_above B_book_heights B_book_placedBrands B_bea_firstGains B_bea_otherGains B_wit_burnings B_wit_strokes B_wit_wasOn B_wit_toldAt B_wit_untoldAt B_wit_on B_wit_off B_wit_firstCounts B_wit_secondCounts Ps Pd G_tape_wordNames G_told_herdNames G_told_ironNames G_told_beastNames G_draft_herdNames G_draft_ironNames G_draft_beastNames Ph Po Pg ex) (qGv (fun H => ∃ (y_tape_next : Int) (y_tape_kind : Int) (y_tape_place : Int) (y_tape_number : Int) (j_tape_name : Int64) (y_tape_faultKind : Int) (y_tape_faultPlace : Int), (0 ≤ y_tape_next ∧ y_tape_next ≤ 1600) ∧ (0 ≤ y_tape_kind ∧ y_tape_kind ≤ 255) ∧ (0 ≤ y_tape_place ∧ y_tape_place ≤ 1600) ∧ (-2147483648 ≤ y_tape_number ∧ y_tape_number ≤ 2147483647) ∧ (0 ≤ y_tape_faultKind ∧ y_tape_faultKind ≤ 5) ∧ (-1 ≤ y_tape_faultPlace ∧ y_tape_faultPlace ≤ 1600) ∧ (0 ≤ y_tape_faultKind - x_tape_faultKind) ∧ (¬ y_tape_kind = 201 ∨ 0 ≤ y_tape_number) ∧ (dI y_tape_faultKind x_draft_herds x_draft_beasts x_draft_draw B_draft_brands B_draft_homes) ∧ va_P D vwCl (cW k a q x_xo_lyingCount x_tape_length y_tape_next y_tape_kind y_tape_place y_tape_number y_tape_faultKind y_tape_faultPlace x_told_turns x_told_mirror x_told_night x_told_draw x_told_herds x_told_irons x_told_beasts x_told_linesTold x_tfo_steps x_tfo_units x_draft_turns x_draft_mirror x_draft_night x_draft_draw x_draft_herds x_draft_irons x_draft_beasts x_draft_linesTold x_dfo_steps x_dfo_units x_lat_placements x_smi_irons x_smi_aim x_his_here x_his_undoable x_his_redoable x_book_placedCount x_wit_count x_wit_time j_tape_name B_xo_lying B_tape_bytes B_told_brands B_told_ironMarks B_told_homes B_told_births B_tfo_kinds B_tfo_numbers B_tfo_stack B_tfo_facts B_draft_brands B_draft_ironMarks B_draft_homes B_draft_births B_dfo_kinds B_dfo_numbers B_dfo_stack B_dfo_facts B_lat_lowHalves B_lat_highHalves B_lat_ways B_smi_placedIrons B_smi_within B_smi_costs B_his_isKept B_book_norms B_book_above B_book_heights B_book_placedBrands B_bea_firstGains B_bea_otherGains B_wit_burnings B_wit_strokes B_wit_wasOn B_wit_toldAt B_wit_untoldAt B_wit_on B_wit_off B_wit_firstCounts B_wit_secondCounts Ps Pd G_tape_wordNames G_told_herdNames G_told_ironNames G_told_beastNames G_draft_herdNames G_draft_ironNames G_draft_beastNames Ph Po Pg ex) H)) := by
  refine metX_of 1 ck_X8_start (Nat.le_of_ble_eq_true rfl) cMap hbA ⟨_, rfl⟩ (fun p e s m args below meth c A hx hb hml hr hlocks hown hts hK hD hA hP hS hX hAb hXA ls hl => ?_)
  have hown : s.vm.findClass "HideReader$TextReader" = some m.cls := hown
  have hl : lv_has ls 2 [(0, .ref (a 31)), (1, .int (mI p0))] := hl
  refine lv_iload_n hx hb dX8_start_0 rfl (lv_at hl 1 rfl) ?_
  refine sy_join (I := fun H locs g => ∃ (y_6 : Int) (y_7 : Int) (y_8 : Int) (ls : Array Slot), (0 ≤ y_6 ∧ y_6 ≤ 255) ∧ (0 ≤ y_7 ∧ y_7 ≤ 5) ∧ (-1 ≤ y_8 ∧ y_8 ≤ 1600) ∧ (¬ y_6 = 201 ∨ 0 ≤ x_tape_number) ∧ (dI y_7 x_draft_herds x_draft_beasts x_draft_draw B_draft_brands B_draft_homes) ∧ (x_tape_faultKind ≤ y_7) ∧ va_P D vwCl (cW k a q x_xo_lyingCount x_tape_length x_tape_next y_6 x_tape_place x_tape_number y_7 y_8 x_told_turns x_told_mirror x_told_night x_told_draw x_told_herds x_told_irons x_told_beasts x_told_linesTold x_tfo_steps x_tfo_units x_draft_turns x_draft_mirror x_draft_night x_draft_draw x_draft_herds x_draft_irons x_draft_beasts x_draft_linesTold x_dfo_steps x_dfo_units x_lat_placements x_smi_irons x_smi_aim x_his_here x_his_undoable x_his_redoable x_book_placedCount x_wit_count x_wit_time n_tape_name B_xo_lying B_tape_bytes B_told_brands B_told_ironMarks B_told_homes B_told_births B_tfo_kinds B_tfo_numbers B_tfo_stack B_tfo_facts B_draft_brands B_draft_ironMarks B_draft_homes B_draft_births B_dfo_kinds B_dfo_numbers B_dfo_stack B_dfo_facts B_lat_lowHalves B_lat_highHalves B_lat_ways B_smi_placedIrons B_smi_within B_smi_costs B_his_isKept B_book_norms B_book_above B_book_heights B_book_placedBrands B_bea_firstGains B_bea_otherGains B_wit_burnings B_wit_strokes B_wit_wasOn B_wit_toldAt B_wit_untoldAt B_wit_on B_wit_off B_wit_firstCounts B_wit_secondCounts Ps Pd G_tape_wordNames G_told_herdNames G_told_ironNames G_told_beastNames G_draft_herdNames G_draft_ironNames G_draft_beastNames Ph Po Pg ex) H ∧ va_S A s.heap H locs ∧ lv_has ls 2 [(0, .ref (a 31)), (1, .int (mI p0))] ∧ g = F0 m 12 ls []) ?_ ?_
  · skip
    intro H locs g hI
    obtain ⟨y_6, y_7, y_8, ls, h12_0, h12_1, h12_2, g_9, g_10, h12_5, hP, hS, hl, rfl⟩ := hI
    refine lv_aload_n hx hb dX8_start_12 rfl (lv_at hl 0 rfl) ?_
    refine cg_reader_tape hx hb hts hown hK hP uw_2_16 dX8_start_13 ?_
    refine g_v (cDt hD) hS hA (g_VX (own := "HideReader$TextReader") (As := []) (rest := []) hx hb hml hown hts hK hP (cDt hD) (hXA hS) (kc_X7_advance (l := l) (D := D) (k := k) (bX := bX) (aK := aK) (aV := aV) hbA h_x_tape_length h_x_tape_next (by omega) h_x_tape_place h_x_tape_number (by omega) (by omega) b_B_tape_bytes g_9 g_10) ck_X7_advance iv_X7_advance uw_3_172 (cv_tape hK hP) rfl hl.1 rfl (Nat.le_of_ble_eq_true rfl) dX8_start_16 ⟨Nat.le_of_ble_eq_true rfl, Nat.le_of_ble_eq_true rfl⟩ ⟨Nat.le_of_ble_eq_true rfl, Nat.le_of_ble_eq_true rfl⟩) (fun H locs hQ hS => ?_)
    obtain ⟨y_13, y_14, y_15, y_16, j_17, y_18, y_19, hr_12_0, hr_12_1, hr_12_2, hr_12_3, hr_12_4, hr_12_5, hr_12_6, kr_12_N, kr_12_D, hP⟩ := hQ
    exact r_v hx hb hr hlocks dX8_start_19 hS ⟨y_13, y_14, y_15, y_16, j_17, y_18, y_19, by omega, by omega, by omega, by omega, by omega, by omega, by omega, kr_12_N, kr_12_D, hP⟩
  · skip
    intro J_11
    refine sy_if_ne (tgt := 12) hx hb dX8_start_1 (by decide) (by omega) (fun c_20 => ?_) (fun c_20 => ?_)
    · skip
      exact J_11 _ _ _ ⟨x_tape_kind, x_tape_faultKind, x_tape_faultPlace, _, by omega, by omega, by omega, g_N, g_D, by omega, hP, hS, lv_sub hl [0, 1] rfl, rfl⟩
    · skip
      refine lv_aload_n hx hb dX8_start_4 rfl (lv_at hl 0 rfl) ?_
      refine cg_reader_tape hx hb hts hown hK hP uw_2_16 dX8_start_5 ?_
      refine lv_iconst (v := mI 2) hx hb dX8_start_8 rfl ?_
      refine g_v (cDt hD) hS hA (g_V (own := "HideReader$TextReader") (As := [.int (mI 2)]) (rest := []) hx hb hml hown hts hK hP (cDt hD) (kc_X7_fail (l := l) (D := D) (k := k) (by decide) h_x_tape_kind h_x_tape_place h_x_tape_faultKind h_x_tape_faultPlace g_N g_D) ck_X7_fail iv_X7_fail uw_3_171 (cv_tape hK hP) rfl hl.1 rfl (Nat.le_of_ble_eq_true rfl) dX8_start_9 ⟨Nat.le_of_ble_eq_true rfl, Nat.le_of_ble_eq_true rfl⟩ ⟨Nat.le_of_ble_eq_true rfl, Nat.le_of_ble_eq_true rfl⟩) (fun H locs hQ hS => ?_)
      obtain ⟨y_22, y_23, y_24, hr_21_0, hr_21_1, hr_21_2, hr_21_3, kr_21_N, kr_21_D, hP⟩ := hQ
      exact J_11 _ _ _ ⟨y_22, y_23, y_24, _, by omega, by omega, by omega, kr_21_N, kr_21_D, by omega, hP, hS, lv_sub hl [0, 1] rfl, rfl⟩
set_option maxHeartbeats 4000000 in
set_option maxRecDepth 100000 in
theorem kc_X8_startOnce {bX aK aV : Nat} (hbA : ∀ x ∈ cAd a q ex, bX ≤ x) (h_x_tape_length : 0 ≤ x_tape_length ∧ x_tape_length ≤ 1600) (h_x_tape_next : 0 ≤ x_tape_next ∧ x_tape_next ≤ 1600) (h_x_tape_kind : 0 ≤ x_tape_kind ∧ x_tape_kind ≤ 255) (h_x_tape_place : 0 ≤ x_tape_place ∧ x_tape_place ≤ 1600) (h_x_tape_number : -2147483648 ≤ x_tape_number ∧ x_tape_number ≤ 2147483647) (h_x_tape_faultKind : 0 ≤ x_tape_faultKind ∧ x_tape_faultKind ≤ 5) (h_x_tape_faultPlace : -1 ≤ x_tape_faultPlace ∧ x_tape_faultPlace ≤ 1600) (h_x_draft_linesTold : -2147483648 ≤ x_draft_linesTold ∧ x_draft_linesTold ≤ 2147483647) (b_B_tape_bytes : bd (-128) 127 B_tape_bytes) (g_N : ¬ x_tape_kind = 201 ∨ 0 ≤ x_tape_number) (g_D : dI x_tape_faultKind x_draft_herds x_draft_beasts x_draft_draw B_draft_brands B_draft_homes) : MetX l D k bX aK aV yX8_startOnce cX8_startOnce 2 none 7 [.ref (a 31)] (cW k a q x_xo_lyingCount x_tape_length x_tape_next x_tape_kind x_tape_place x_tape_number x_tape_faultKind x_tape_faultPlace x_told_turns x_told_mirror x_told_night x_told_draw x_told_herds x_told_irons x_told_beasts x_told_linesTold x_tfo_steps x_tfo_units x_draft_turns x_draft_mirror x_draft_night x_draft_draw x_draft_herds x_draft_irons x_draft_beasts x_draft_linesTold x_dfo_steps x_dfo_units x_lat_placements x_smi_irons x_smi_aim x_his_here x_his_undoable x_his_redoable x_book_placedCount x_wit_count x_wit_time n_tape_name B_xo_lying B_tape_bytes B_told_brands B_told_ironMarks B_told_homes B_told_births B_tfo_kinds B_tfo_numbers B_tfo_stack B_tfo_facts B_draft_brands B_draft_ironMarks B_draft_homes B_draft_births B_dfo_kinds B_dfo_numbers B_dfo_stack B_dfo_facts B_lat_lowHalves B_lat_highHalves B_lat_ways B_smi_placedIrons B_smi_within B_smi_costs B_his_isKept B_book_norms B_book_above B_book_heights B_book_placedBrands B_bea_firstGains B_bea_otherGains B_wit_burnings B_wit_strokes B_wit_wasOn B_wit_toldAt B_wit_untoldAt B_wit_on B_wit_off B_wit_firstCounts B_wit_secondCounts Ps Pd G_tape_wordNames G_told_herdNames G_told_ironNames G_told_beastNames G_draft_herdNames G_draft_ironNames G_draft_beastNames Ph Po Pg ex) (qGv (fun H => ∃ (y_tape_next : Int) (y_tape_kind : Int) (y_tape_place : Int) (y_tape_number : Int) (j_tape_name : Int64) (y_tape_faultKind : Int) (y_tape_faultPlace : Int) (y_draft_linesTold : Int), (0 ≤ y_tape_next ∧ y_tape_next ≤ 1600) ∧ (0 ≤ y_tape_kind ∧ y_tape_kind ≤ 255) ∧ (0 ≤ y_tape_place ∧ y_tape_place ≤ 1600) ∧ (-2147483648 ≤ y_tape_number ∧ y_tape_number ≤ 2147483647) ∧ (0 ≤ y_tape_faultKind ∧ y_tape_faultKind ≤ 5) ∧ (-1 ≤ y_tape_faultPlace ∧ y_tape_faultPlace ≤ 1600) ∧ (-2147483648 ≤ y_draft_linesTold ∧ y_draft_linesTold ≤ 2147483647) ∧ (0 ≤ y_tape_faultKind - x_tape_faultKind) ∧ (¬ y_tape_kind = 201 ∨ 0 ≤ y_tape_number) ∧ (dI y_tape_faultKind x_draft_herds x_draft_beasts x_draft_draw B_draft_brands B_draft_homes) ∧ va_P D vwCl (cW k a q x_xo_lyingCount x_tape_length y_tape_next y_tape_kind y_tape_place y_tape_number y_tape_faultKind y_tape_faultPlace x_told_turns x_told_mirror x_told_night x_told_draw x_told_herds x_told_irons x_told_beasts x_told_linesTold x_tfo_steps x_tfo_units x_draft_turns x_draft_mirror x_draft_night x_draft_draw x_draft_herds x_draft_irons x_draft_beasts y_draft_linesTold x_dfo_steps x_dfo_units x_lat_placements x_smi_irons x_smi_aim x_his_here x_his_undoable x_his_redoable x_book_placedCount x_wit_count x_wit_time j_tape_name B_xo_lying B_tape_bytes B_told_brands B_told_ironMarks B_told_homes B_told_births B_tfo_kinds B_tfo_numbers B_tfo_stack B_tfo_facts B_draft_brands B_draft_ironMarks B_draft_homes B_draft_births B_dfo_kinds B_dfo_numbers B_dfo_stack B_dfo_facts B_lat_lowHalves B_lat_highHalves B_lat_ways B_smi_placedIrons B_smi_within B_smi_costs B_his_isKept B_book_norms B_book_above B_book_heights B_book_placedBrands B_bea_firstGains B_bea_otherGains B_wit_burnings B_wit_strokes B_wit_wasOn B_wit_toldAt B_wit_untoldAt B_wit_on B_wit_off B_wit_firstCounts B_wit_secondCounts Ps Pd G_tape_wordNames G_told_herdNames G_told_ironNames G_told_beastNames G_draft_herdNames G_draft_ironNames G_draft_beastNames Ph Po Pg ex) H)) := by
  refine metX_of 0 ck_X8_startOnce (Nat.le_of_ble_eq_true rfl) cMap hbA ⟨_, rfl⟩ (fun p e s m args below meth c A hx hb hml hr hlocks hown hts hK hD hA hP hS hX hAb hXA ls hl => ?_)
  have hown : s.vm.findClass "HideReader$TextReader" = some m.cls := hown
  have hl : lv_has ls 2 [(0, .ref (a 31))] := hl
  refine lv_iconst (v := mI 1) hx hb dX8_startOnce_0 rfl ?_
  refine lv_aload_n hx hb dX8_startOnce_1 rfl (lv_at hl 0 rfl) ?_
  refine cg_reader_tape hx hb hts hown hK hP uw_2_16 dX8_startOnce_2 ?_
  refine g_i (cDt hD) hS hA (g_V (own := "HideReader$TextReader") (As := []) (rest := [.int (mI 1)]) hx hb hml hown hts hK hP (cDt hD) (kc_X7_kind (l := l) (D := D) (k := k) h_x_tape_kind) ck_X7_kind iv_X7_kind uw_3_155 (cv_tape hK hP) rfl hl.1 rfl (Nat.le_of_ble_eq_true rfl) dX8_startOnce_5 ⟨Nat.le_of_ble_eq_true rfl, Nat.le_of_ble_eq_true rfl⟩ ⟨Nat.le_of_ble_eq_true rfl, Nat.le_of_ble_eq_true rfl⟩) (fun r_1 H locs hQ hS => ?_)
  obtain ⟨hq_r_1, hP⟩ := hQ
  obtain rfl := hq_r_1
  refine lv_sipush (v := mI 128) hx hb dX8_startOnce_8 (by decide) ?_
  refine sy_isub hx hb dX8_startOnce_11 (x_tape_kind - 128) rfl ?_
  refine lv_ishl hx hb dX8_startOnce_12 ?_
  refine sy_any (fun z_3 hz_3 => ?_)
  refine lv_istore_n (lv' := [(1, .int (mI z_3)), (0, .ref (a 31))]) hx hb dX8_startOnce_13 rfl hl (by decide) rfl (fun ls hl => ?_)
  refine lv_aload_n hx hb dX8_startOnce_14 rfl (lv_at hl 1 rfl) ?_
  refine lv_aload_n hx hb dX8_startOnce_15 rfl (lv_at hl 1 rfl) ?_
  refine cg_reader_draft hx hb hts hown hK hP uw_2_17 dX8_startOnce_16 ?_
  refine cg_draft_linesTold hx hb hts hown hK hP uw_1_185 dX8_startOnce_19 ?_
  refine lv_iload_n hx hb dX8_startOnce_22 rfl (lv_at hl 0 rfl) ?_
  refine lv_iand hx hb dX8_startOnce_23 ?_
  refine sy_any (fun z_4 hz_4 => ?_)
  refine sy_join (I := fun H locs g => ∃ (z_6 : Int) (ls : Array Slot), (0 ≤ z_6 ∧ z_6 ≤ 1) ∧ va_P D vwCl (cW k a q x_xo_lyingCount x_tape_length x_tape_next x_tape_kind x_tape_place x_tape_number x_tape_faultKind x_tape_faultPlace x_told_turns x_told_mirror x_told_night x_told_draw x_told_herds x_told_irons x_told_beasts x_told_linesTold x_tfo_steps x_tfo_units x_draft_turns x_draft_mirror x_draft_night x_draft_draw x_draft_herds x_draft_irons x_draft_beasts x_draft_linesTold x_dfo_steps x_dfo_units x_lat_placements x_smi_irons x_smi_aim x_his_here x_his_undoable x_his_redoable x_book_placedCount x_wit_count x_wit_time n_tape_name B_xo_lying B_tape_bytes B_told_brands B_told_ironMarks B_told_homes B_told_births B_tfo_kinds B_tfo_numbers B_tfo_stack B_tfo_facts B_draft_brands B_draft_ironMarks B_draft_homes B_draft_births B_dfo_kinds B_dfo_numbers B_dfo_stack B_dfo_facts B_lat_lowHalves B_lat_highHalves B_lat_ways B_smi_placedIrons B_smi_within B_smi_costs B_his_isKept B_book_norms B_book_above B_book_heights B_book_placedBrands B_bea_firstGains B_bea_otherGains B_wit_burnings B_wit_strokes B_wit_wasOn B_wit_toldAt B_wit_untoldAt B_wit_on B_wit_off B_wit_firstCounts B_wit_secondCounts Ps Pd G_tape_wordNames G_told_herdNames G_told_ironNames G_told_beastNames G_draft_herdNames G_draft_ironNames G_draft_beastNames Ph Po Pg ex) H ∧ va_S A s.heap H locs ∧ lv_has ls 2 [(1, .int (mI z_3)), (0, .ref (a 31))] ∧ g = F0 m 32 ls [.int (mI z_6), .ref (a 31)]) ?_ ?_
  · skip
    intro H locs g hI
    obtain ⟨z_6, ls, h32_0, hP, hS, hl, rfl⟩ := hI
    refine g_v (cDt hD) hS hA (g_VX (own := "HideReader$TextReader") (As := [.int (mI z_6)]) (rest := []) hx hb hml hown hts hK hP (cDt hD) (hXA hS) (kc_X8_start (l := l) (D := D) (k := k) (bX := bX) (aK := aK) (aV := aV) hbA (by omega) h_x_tape_length h_x_tape_next h_x_tape_kind h_x_tape_place h_x_tape_number h_x_tape_faultKind h_x_tape_faultPlace b_B_tape_bytes g_N g_D) ck_X8_start iv_X8_start uw_3_167 (cv_reader hK hP) rfl hl.1 rfl (Nat.le_of_ble_eq_true rfl) dX8_startOnce_32 ⟨Nat.le_of_ble_eq_true rfl, Nat.le_of_ble_eq_true rfl⟩ ⟨Nat.le_of_ble_eq_true rfl, Nat.le_of_ble_eq_true rfl⟩) (fun H locs hQ hS => ?_)
    obtain ⟨y_9, y_10, y_11, y_12, j_13, y_14, y_15, hr_8_0, hr_8_1, hr_8_2, hr_8_3, hr_8_4, hr_8_5, hr_8_6, kr_8_N, kr_8_D, hP⟩ := hQ
    refine lv_aload_n hx hb dX8_startOnce_35 rfl (lv_at hl 1 rfl) ?_
    refine cg_reader_draft hx hb hts hown hK hP uw_2_17 dX8_startOnce_36 ?_
    refine lv_dup hx hb dX8_startOnce_39 rfl ?_
    refine cg_draft_linesTold hx hb hts hown hK hP uw_1_185 dX8_startOnce_40 ?_
    refine lv_iload_n hx hb dX8_startOnce_43 rfl (lv_at hl 0 rfl) ?_
    refine lv_ior hx hb dX8_startOnce_44 ?_
    refine sy_any (fun z_16 hz_16 => ?_)
    refine cp_draft_linesTold hx hb hts hown hK hP hD hS uw_1_185 dX8_startOnce_45 (fun H locs hP hS => ?_)
    exact r_v hx hb hr hlocks dX8_startOnce_48 hS ⟨y_9, y_10, y_11, y_12, j_13, y_14, y_15, z_16, by omega, by omega, by omega, by omega, by omega, by omega, by omega, by omega, kr_8_N, kr_8_D, hP⟩
  · skip
    intro J_7
    refine sy_if_ne (tgt := 31) hx hb dX8_startOnce_24 (by decide) (by omega) (fun c_17 => ?_) (fun c_17 => ?_)
    · skip
      refine lv_iconst (v := mI 0) hx hb dX8_startOnce_31 rfl ?_
      exact J_7 _ _ _ ⟨0, _, by omega, hP, hS, lv_sub hl [0, 1] rfl, rfl⟩
    · skip
      refine lv_iconst (v := mI 1) hx hb dX8_startOnce_27 rfl ?_
      refine lv_goto (tgt := 32) hx hb dX8_startOnce_28 (by decide) ?_
      exact J_7 _ _ _ ⟨1, _, by omega, hP, hS, lv_sub hl [0, 1] rfl, rfl⟩
set_option maxHeartbeats 4000000 in
set_option maxRecDepth 100000 in
theorem kc_X8_takeNumber {bX aK aV : Nat} (hbA : ∀ x ∈ cAd a q ex, bX ≤ x) {p0 : Int} (hp0 : 4 ≤ p0 ∧ p0 ≤ 999) (h_x_tape_length : 0 ≤ x_tape_length ∧ x_tape_length ≤ 1600) (h_x_tape_next : 0 ≤ x_tape_next ∧ x_tape_next ≤ 1600) (h_x_tape_kind : 0 ≤ x_tape_kind ∧ x_tape_kind ≤ 255) (h_x_tape_place : 0 ≤ x_tape_place ∧ x_tape_place ≤ 1600) (h_x_tape_number : -2147483648 ≤ x_tape_number ∧ x_tape_number ≤ 2147483647) (h_x_tape_faultKind : 0 ≤ x_tape_faultKind ∧ x_tape_faultKind ≤ 5) (h_x_tape_faultPlace : -1 ≤ x_tape_faultPlace ∧ x_tape_faultPlace ≤ 1600) (b_B_tape_bytes : bd (-128) 127 B_tape_bytes) (g_N : ¬ x_tape_kind = 201 ∨ 0 ≤ x_tape_number) (g_D : dI x_tape_faultKind x_draft_herds x_draft_beasts x_draft_draw B_draft_brands B_draft_homes) : MetX l D k bX aK aV yX8_takeNumber cX8_takeNumber 3 (some .int) 6 [.ref (a 31), .int (mI p0)] (cW k a q x_xo_lyingCount x_tape_length x_tape_next x_tape_kind x_tape_place x_tape_number x_tape_faultKind x_tape_faultPlace x_told_turns x_told_mirror x_told_night x_told_draw x_told_herds x_told_irons x_told_beasts x_told_linesTold x_tfo_steps x_tfo_units x_draft_turns x_draft_mirror x_draft_night x_draft_draw x_draft_herds x_draft_irons x_draft_beasts x_draft_linesTold x_dfo_steps x_dfo_units x_lat_placements x_smi_irons x_smi_aim x_his_here x_his_undoable x_his_redoable x_book_placedCount x_wit_count x_wit_time n_tape_name B_xo_lying B_tape_bytes B_told_brands B_told_ironMarks B_told_homes B_told_births B_tfo_kinds B_tfo_numbers B_tfo_stack B_tfo_facts B_draft_brands B_draft_ironMarks B_draft_homes B_draft_births B_dfo_kinds B_dfo_numbers B_dfo_stack B_dfo_facts B_lat_lowHalves B_lat_highHalves B_lat_ways B_smi_placedIrons B_smi_within B_smi_costs B_his_isKept B_book_norms B_book_above B_book_heights B_book_placedBrands B_bea_firstGains B_bea_otherGains B_wit_burnings B_wit_strokes B_wit_wasOn B_wit_toldAt B_wit_untoldAt B_wit_on B_wit_off B_wit_firstCounts B_wit_secondCounts Ps Pd G_tape_wordNames G_told_herdNames G_told_ironNames G_told_beastNames G_draft_herdNames G_draft_ironNames G_draft_beastNames Ph Po Pg ex) (qGi (fun r0 H => ∃ (y_tape_next : Int) (y_tape_kind : Int) (y_tape_place : Int) (y_tape_number : Int) (j_tape_name : Int64) (y_tape_faultKind : Int) (y_tape_faultPlace : Int), (-2147483648 ≤ r0 ∧ r0 ≤ 2147483647) ∧ (0 ≤ y_tape_next ∧ y_tape_next ≤ 1600) ∧ (0 ≤ y_tape_kind ∧ y_tape_kind ≤ 255) ∧ (0 ≤ y_tape_place ∧ y_tape_place ≤ 1600) ∧ (-2147483648 ≤ y_tape_number ∧ y_tape_number ≤ 2147483647) ∧ (0 ≤ y_tape_faultKind ∧ y_tape_faultKind ≤ 5) ∧ (-1 ≤ y_tape_faultPlace ∧ y_tape_faultPlace ≤ 1600) ∧ (0 ≤ y_tape_faultKind - x_tape_faultKind) ∧ (x_tape_kind = 201 ∨ 1 ≤ y_tape_faultKind) ∧ (1 ≤ y_tape_faultKind ∨ (0 ≤ r0 ∧ r0 ≤ p0)) ∧ (¬ y_tape_kind = 201 ∨ 0 ≤ y_tape_number) ∧ (dI y_tape_faultKind x_draft_herds x_draft_beasts x_draft_draw B_draft_brands B_draft_homes) ∧ va_P D vwCl (cW k a q x_xo_lyingCount x_tape_length y_tape_next y_tape_kind y_tape_place y_tape_number y_tape_faultKind y_tape_faultPlace x_told_turns x_told_mirror x_told_night x_told_draw x_told_herds x_told_irons x_told_beasts x_told_linesTold x_tfo_steps x_tfo_units x_draft_turns x_draft_mirror x_draft_night x_draft_draw x_draft_herds x_draft_irons x_draft_beasts x_draft_linesTold x_dfo_steps x_dfo_units x_lat_placements x_smi_irons x_smi_aim x_his_here x_his_undoable x_his_redoable x_book_placedCount x_wit_count x_wit_time j_tape_name B_xo_lying B_tape_bytes B_told_brands B_told_ironMarks B_told_homes B_told_births B_tfo_kinds B_tfo_numbers B_tfo_stack B_tfo_facts B_draft_brands B_draft_ironMarks B_draft_homes B_draft_births B_dfo_kinds B_dfo_numbers B_dfo_stack B_dfo_facts B_lat_lowHalves B_lat_highHalves B_lat_ways B_smi_placedIrons B_smi_within B_smi_costs B_his_isKept B_book_norms B_book_above B_book_heights B_book_placedBrands B_bea_firstGains B_bea_otherGains B_wit_burnings B_wit_strokes B_wit_wasOn B_wit_toldAt B_wit_untoldAt B_wit_on B_wit_off B_wit_firstCounts B_wit_secondCounts Ps Pd G_tape_wordNames G_told_herdNames G_told_ironNames G_told_beastNames G_draft_herdNames G_draft_ironNames G_draft_beastNames Ph Po Pg ex) H)) := by
  refine metX_of 1 ck_X8_takeNumber (Nat.le_of_ble_eq_true rfl) cMap hbA ⟨_, rfl⟩ (fun p e s m args below meth c A hx hb hml hr hlocks hown hts hK hD hA hP hS hX hAb hXA ls hl => ?_)
  have hown : s.vm.findClass "HideReader$TextReader" = some m.cls := hown
  have hl : lv_has ls 3 [(0, .ref (a 31)), (1, .int (mI p0))] := hl
  refine lv_aload_n hx hb dX8_takeNumber_0 rfl (lv_at hl 0 rfl) ?_
  refine cg_reader_tape hx hb hts hown hK hP uw_2_16 dX8_takeNumber_1 ?_
  refine g_i (cDt hD) hS hA (g_V (own := "HideReader$TextReader") (As := []) (rest := []) hx hb hml hown hts hK hP (cDt hD) (kc_X7_kind (l := l) (D := D) (k := k) h_x_tape_kind) ck_X7_kind iv_X7_kind uw_3_155 (cv_tape hK hP) rfl hl.1 rfl (Nat.le_of_ble_eq_true rfl) dX8_takeNumber_4 ⟨Nat.le_of_ble_eq_true rfl, Nat.le_of_ble_eq_true rfl⟩ ⟨Nat.le_of_ble_eq_true rfl, Nat.le_of_ble_eq_true rfl⟩) (fun r_1 H locs hQ hS => ?_)
  obtain ⟨hq_r_1, hP⟩ := hQ
  obtain rfl := hq_r_1
  refine lv_sipush (v := mI 201) hx hb dX8_takeNumber_7 (by decide) ?_
  refine sy_icmp_eq (tgt := 23) hx hb dX8_takeNumber_10 (by decide) (by omega) (by decide) (fun c_3 => ?_) (fun c_3 => ?_)
  · skip
    refine lv_aload_n hx hb dX8_takeNumber_23 rfl (lv_at hl 0 rfl) ?_
    refine cg_reader_tape hx hb hts hown hK hP uw_2_16 dX8_takeNumber_24 ?_
    refine g_i (cDt hD) hS hA (g_V (own := "HideReader$TextReader") (As := []) (rest := []) hx hb hml hown hts hK hP (cDt hD) (kc_X7_number (l := l) (D := D) (k := k) h_x_tape_number) ck_X7_number iv_X7_number uw_3_173 (cv_tape hK hP) rfl hl.1 rfl (Nat.le_of_ble_eq_true rfl) dX8_takeNumber_27 ⟨Nat.le_of_ble_eq_true rfl, Nat.le_of_ble_eq_true rfl⟩ ⟨Nat.le_of_ble_eq_true rfl, Nat.le_of_ble_eq_true rfl⟩) (fun r_4 H locs hQ hS => ?_)
    obtain ⟨hq_r_4, hP⟩ := hQ
    obtain rfl := hq_r_4
    refine lv_istore_n (lv' := [(2, .int (mI x_tape_number)), (0, .ref (a 31)), (1, .int (mI p0))]) hx hb dX8_takeNumber_30 rfl hl (by decide) rfl (fun ls hl => ?_)
    refine lv_iload_n hx hb dX8_takeNumber_31 rfl (lv_at hl 0 rfl) ?_
    refine lv_iload_n hx hb dX8_takeNumber_32 rfl (lv_at hl 2 rfl) ?_
    refine sy_icmp_le (tgt := 44) hx hb dX8_takeNumber_33 (by decide) (by omega) (by omega) (fun c_6 => ?_) (fun c_6 => ?_)
    · skip
      refine lv_aload_n hx hb dX8_takeNumber_44 rfl (lv_at hl 1 rfl) ?_
      refine cg_reader_tape hx hb hts hown hK hP uw_2_16 dX8_takeNumber_45 ?_
      refine g_v (cDt hD) hS hA (g_VX (own := "HideReader$TextReader") (As := []) (rest := []) hx hb hml hown hts hK hP (cDt hD) (hXA hS) (kc_X7_advance (l := l) (D := D) (k := k) (bX := bX) (aK := aK) (aV := aV) hbA h_x_tape_length h_x_tape_next h_x_tape_kind h_x_tape_place h_x_tape_number h_x_tape_faultKind h_x_tape_faultPlace b_B_tape_bytes g_N g_D) ck_X7_advance iv_X7_advance uw_3_172 (cv_tape hK hP) rfl hl.1 rfl (Nat.le_of_ble_eq_true rfl) dX8_takeNumber_48 ⟨Nat.le_of_ble_eq_true rfl, Nat.le_of_ble_eq_true rfl⟩ ⟨Nat.le_of_ble_eq_true rfl, Nat.le_of_ble_eq_true rfl⟩) (fun H locs hQ hS => ?_)
      obtain ⟨y_8, y_9, y_10, y_11, j_12, y_13, y_14, hr_7_0, hr_7_1, hr_7_2, hr_7_3, hr_7_4, hr_7_5, hr_7_6, kr_7_N, kr_7_D, hP⟩ := hQ
      refine lv_iload_n hx hb dX8_takeNumber_51 rfl (lv_at hl 0 rfl) ?_
      exact r_i hx hb hr hlocks dX8_takeNumber_52 hS ⟨y_8, y_9, y_10, y_11, j_12, y_13, y_14, by omega, by omega, by omega, by omega, by omega, by omega, by omega, by omega, by omega, by omega, kr_7_N, kr_7_D, hP⟩
    · skip
      refine lv_aload_n hx hb dX8_takeNumber_36 rfl (lv_at hl 1 rfl) ?_
      refine cg_reader_tape hx hb hts hown hK hP uw_2_16 dX8_takeNumber_37 ?_
      refine lv_iconst (v := mI 4) hx hb dX8_takeNumber_40 rfl ?_
      refine g_v (cDt hD) hS hA (g_V (own := "HideReader$TextReader") (As := [.int (mI 4)]) (rest := []) hx hb hml hown hts hK hP (cDt hD) (kc_X7_fail (l := l) (D := D) (k := k) (by decide) h_x_tape_kind h_x_tape_place h_x_tape_faultKind h_x_tape_faultPlace g_N g_D) ck_X7_fail iv_X7_fail uw_3_171 (cv_tape hK hP) rfl hl.1 rfl (Nat.le_of_ble_eq_true rfl) dX8_takeNumber_41 ⟨Nat.le_of_ble_eq_true rfl, Nat.le_of_ble_eq_true rfl⟩ ⟨Nat.le_of_ble_eq_true rfl, Nat.le_of_ble_eq_true rfl⟩) (fun H locs hQ hS => ?_)
      obtain ⟨y_16, y_17, y_18, hr_15_0, hr_15_1, hr_15_2, hr_15_3, kr_15_N, kr_15_D, hP⟩ := hQ
      refine lv_aload_n hx hb dX8_takeNumber_44 rfl (lv_at hl 1 rfl) ?_
      refine cg_reader_tape hx hb hts hown hK hP uw_2_16 dX8_takeNumber_45 ?_
      refine g_v (cDt hD) hS hA (g_VX (own := "HideReader$TextReader") (As := []) (rest := []) hx hb hml hown hts hK hP (cDt hD) (hXA hS) (kc_X7_advance (l := l) (D := D) (k := k) (bX := bX) (aK := aK) (aV := aV) hbA h_x_tape_length h_x_tape_next (by omega) h_x_tape_place h_x_tape_number (by omega) (by omega) b_B_tape_bytes kr_15_N kr_15_D) ck_X7_advance iv_X7_advance uw_3_172 (cv_tape hK hP) rfl hl.1 rfl (Nat.le_of_ble_eq_true rfl) dX8_takeNumber_48 ⟨Nat.le_of_ble_eq_true rfl, Nat.le_of_ble_eq_true rfl⟩ ⟨Nat.le_of_ble_eq_true rfl, Nat.le_of_ble_eq_true rfl⟩) (fun H locs hQ hS => ?_)
      obtain ⟨y_20, y_21, y_22, y_23, j_24, y_25, y_26, hr_19_0, hr_19_1, hr_19_2, hr_19_3, hr_19_4, hr_19_5, hr_19_6, kr_19_N, kr_19_D, hP⟩ := hQ
      refine lv_iload_n hx hb dX8_takeNumber_51 rfl (lv_at hl 0 rfl) ?_
      exact r_i hx hb hr hlocks dX8_takeNumber_52 hS ⟨y_20, y_21, y_22, y_23, j_24, y_25, y_26, by omega, by omega, by omega, by omega, by omega, by omega, by omega, by omega, by omega, by omega, kr_19_N, kr_19_D, hP⟩
  · skip
    refine lv_aload_n hx hb dX8_takeNumber_13 rfl (lv_at hl 0 rfl) ?_
    refine cg_reader_tape hx hb hts hown hK hP uw_2_16 dX8_takeNumber_14 ?_
    refine lv_iconst (v := mI 2) hx hb dX8_takeNumber_17 rfl ?_
    refine g_v (cDt hD) hS hA (g_V (own := "HideReader$TextReader") (As := [.int (mI 2)]) (rest := []) hx hb hml hown hts hK hP (cDt hD) (kc_X7_fail (l := l) (D := D) (k := k) (by decide) h_x_tape_kind h_x_tape_place h_x_tape_faultKind h_x_tape_faultPlace g_N g_D) ck_X7_fail iv_X7_fail uw_3_171 (cv_tape hK hP) rfl hl.1 rfl (Nat.le_of_ble_eq_true rfl) dX8_takeNumber_18 ⟨Nat.le_of_ble_eq_true rfl, Nat.le_of_ble_eq_true rfl⟩ ⟨Nat.le_of_ble_eq_true rfl, Nat.le_of_ble_eq_true rfl⟩) (fun H locs hQ hS => ?_)
    obtain ⟨y_28, y_29, y_30, hr_27_0, hr_27_1, hr_27_2, hr_27_3, kr_27_N, kr_27_D, hP⟩ := hQ
    refine lv_iconst (v := mI 0) hx hb dX8_takeNumber_21 rfl ?_
    exact r_i hx hb hr hlocks dX8_takeNumber_22 hS ⟨x_tape_next, y_28, x_tape_place, x_tape_number, n_tape_name, y_29, y_30, by omega, by omega, by omega, by omega, by omega, by omega, by omega, by omega, by omega, by omega, kr_27_N, kr_27_D, hP⟩
set_option maxHeartbeats 4000000 in
set_option maxRecDepth 100000 in
theorem kc_X8_readTurns {bX aK aV : Nat} (hbA : ∀ x ∈ cAd a q ex, bX ≤ x) (h_x_tape_length : 0 ≤ x_tape_length ∧ x_tape_length ≤ 1600) (h_x_tape_next : 0 ≤ x_tape_next ∧ x_tape_next ≤ 1600) (h_x_tape_kind : 0 ≤ x_tape_kind ∧ x_tape_kind ≤ 255) (h_x_tape_place : 0 ≤ x_tape_place ∧ x_tape_place ≤ 1600) (h_x_tape_number : -2147483648 ≤ x_tape_number ∧ x_tape_number ≤ 2147483647) (h_x_tape_faultKind : 0 ≤ x_tape_faultKind ∧ x_tape_faultKind ≤ 5) (h_x_tape_faultPlace : -1 ≤ x_tape_faultPlace ∧ x_tape_faultPlace ≤ 1600) (h_x_draft_linesTold : -2147483648 ≤ x_draft_linesTold ∧ x_draft_linesTold ≤ 2147483647) (b_B_tape_bytes : bd (-128) 127 B_tape_bytes) (g_N : ¬ x_tape_kind = 201 ∨ 0 ≤ x_tape_number) (g_D : dI x_tape_faultKind x_draft_herds x_draft_beasts x_draft_draw B_draft_brands B_draft_homes) : MetX l D k bX aK aV yX8_readTurns cX8_readTurns 3 none 8 [.ref (a 31)] (cW k a q x_xo_lyingCount x_tape_length x_tape_next x_tape_kind x_tape_place x_tape_number x_tape_faultKind x_tape_faultPlace x_told_turns x_told_mirror x_told_night x_told_draw x_told_herds x_told_irons x_told_beasts x_told_linesTold x_tfo_steps x_tfo_units x_draft_turns x_draft_mirror x_draft_night x_draft_draw x_draft_herds x_draft_irons x_draft_beasts x_draft_linesTold x_dfo_steps x_dfo_units x_lat_placements x_smi_irons x_smi_aim x_his_here x_his_undoable x_his_redoable x_book_placedCount x_wit_count x_wit_time n_tape_name B_xo_lying B_tape_bytes B_told_brands B_told_ironMarks B_told_homes B_told_births B_tfo_kinds B_tfo_numbers B_tfo_stack B_tfo_facts B_draft_brands B_draft_ironMarks B_draft_homes B_draft_births B_dfo_kinds B_dfo_numbers B_dfo_stack B_dfo_facts B_lat_lowHalves B_lat_highHalves B_lat_ways B_smi_placedIrons B_smi_within B_smi_costs B_his_isKept B_book_norms B_book_above B_book_heights B_book_placedBrands B_bea_firstGains B_bea_otherGains B_wit_burnings B_wit_strokes B_wit_wasOn B_wit_toldAt B_wit_untoldAt B_wit_on B_wit_off B_wit_firstCounts B_wit_secondCounts Ps Pd G_tape_wordNames G_told_herdNames G_told_ironNames G_told_beastNames G_draft_herdNames G_draft_ironNames G_draft_beastNames Ph Po Pg ex) (qGv (fun H => ∃ (y_tape_next : Int) (y_tape_kind : Int) (y_tape_place : Int) (y_tape_number : Int) (j_tape_name : Int64) (y_tape_faultKind : Int) (y_tape_faultPlace : Int) (y_draft_turns : Int) (y_draft_linesTold : Int), (0 ≤ y_tape_next ∧ y_tape_next ≤ 1600) ∧ (0 ≤ y_tape_kind ∧ y_tape_kind ≤ 255) ∧ (0 ≤ y_tape_place ∧ y_tape_place ≤ 1600) ∧ (-2147483648 ≤ y_tape_number ∧ y_tape_number ≤ 2147483647) ∧ (0 ≤ y_tape_faultKind ∧ y_tape_faultKind ≤ 5) ∧ (-1 ≤ y_tape_faultPlace ∧ y_tape_faultPlace ≤ 1600) ∧ (-2147483648 ≤ y_draft_turns ∧ y_draft_turns ≤ 2147483647) ∧ (-2147483648 ≤ y_draft_linesTold ∧ y_draft_linesTold ≤ 2147483647) ∧ (¬ y_tape_kind = 201 ∨ 0 ≤ y_tape_number) ∧ (dI y_tape_faultKind x_draft_herds x_draft_beasts x_draft_draw B_draft_brands B_draft_homes) ∧ va_P D vwCl (cW k a q x_xo_lyingCount x_tape_length y_tape_next y_tape_kind y_tape_place y_tape_number y_tape_faultKind y_tape_faultPlace x_told_turns x_told_mirror x_told_night x_told_draw x_told_herds x_told_irons x_told_beasts x_told_linesTold x_tfo_steps x_tfo_units y_draft_turns x_draft_mirror x_draft_night x_draft_draw x_draft_herds x_draft_irons x_draft_beasts y_draft_linesTold x_dfo_steps x_dfo_units x_lat_placements x_smi_irons x_smi_aim x_his_here x_his_undoable x_his_redoable x_book_placedCount x_wit_count x_wit_time j_tape_name B_xo_lying B_tape_bytes B_told_brands B_told_ironMarks B_told_homes B_told_births B_tfo_kinds B_tfo_numbers B_tfo_stack B_tfo_facts B_draft_brands B_draft_ironMarks B_draft_homes B_draft_births B_dfo_kinds B_dfo_numbers B_dfo_stack B_dfo_facts B_lat_lowHalves B_lat_highHalves B_lat_ways B_smi_placedIrons B_smi_within B_smi_costs B_his_isKept B_book_norms B_book_above B_book_heights B_book_placedBrands B_bea_firstGains B_bea_otherGains B_wit_burnings B_wit_strokes B_wit_wasOn B_wit_toldAt B_wit_untoldAt B_wit_on B_wit_off B_wit_firstCounts B_wit_secondCounts Ps Pd G_tape_wordNames G_told_herdNames G_told_ironNames G_told_beastNames G_draft_herdNames G_draft_ironNames G_draft_beastNames Ph Po Pg ex) H)) := by
  refine metX_of 0 ck_X8_readTurns (Nat.le_of_ble_eq_true rfl) cMap hbA ⟨_, rfl⟩ (fun p e s m args below meth c A hx hb hml hr hlocks hown hts hK hD hA hP hS hX hAb hXA ls hl => ?_)
  have hown : s.vm.findClass "HideReader$TextReader" = some m.cls := hown
  have hl : lv_has ls 3 [(0, .ref (a 31))] := hl
  refine lv_aload_n hx hb dX8_readTurns_0 rfl (lv_at hl 0 rfl) ?_
  refine g_v (cDt hD) hS hA (g_VX (own := "HideReader$TextReader") (As := []) (rest := []) hx hb hml hown hts hK hP (cDt hD) (hXA hS) (kc_X8_startOnce (l := l) (D := D) (k := k) (bX := bX) (aK := aK) (aV := aV) hbA h_x_tape_length h_x_tape_next h_x_tape_kind h_x_tape_place h_x_tape_number h_x_tape_faultKind h_x_tape_faultPlace h_x_draft_linesTold b_B_tape_bytes g_N g_D) ck_X8_startOnce iv_X8_startOnce uw_3_163 (cv_reader hK hP) rfl hl.1 rfl (Nat.le_of_ble_eq_true rfl) dX8_readTurns_1 ⟨Nat.le_of_ble_eq_true rfl, Nat.le_of_ble_eq_true rfl⟩ ⟨Nat.le_of_ble_eq_true rfl, Nat.le_of_ble_eq_true rfl⟩) (fun H locs hQ hS => ?_)
  obtain ⟨y_2, y_3, y_4, y_5, j_6, y_7, y_8, y_9, hr_1_0, hr_1_1, hr_1_2, hr_1_3, hr_1_4, hr_1_5, hr_1_6, hr_1_7, kr_1_N, kr_1_D, hP⟩ := hQ
  refine lv_aload_n hx hb dX8_readTurns_4 rfl (lv_at hl 0 rfl) ?_
  refine cg_reader_tape hx hb hts hown hK hP uw_2_16 dX8_readTurns_5 ?_
  refine g_i (cDt hD) hS hA (g_V (own := "HideReader$TextReader") (As := []) (rest := []) hx hb hml hown hts hK hP (cDt hD) (kc_X7_kind (l := l) (D := D) (k := k) (by omega)) ck_X7_kind iv_X7_kind uw_3_155 (cv_tape hK hP) rfl hl.1 rfl (Nat.le_of_ble_eq_true rfl) dX8_readTurns_8 ⟨Nat.le_of_ble_eq_true rfl, Nat.le_of_ble_eq_true rfl⟩ ⟨Nat.le_of_ble_eq_true rfl, Nat.le_of_ble_eq_true rfl⟩) (fun r_10 H locs hQ hS => ?_)
  obtain ⟨hq_r_10, hP⟩ := hQ
  obtain rfl := hq_r_10
  refine lv_sipush (v := mI 201) hx hb dX8_readTurns_11 (by decide) ?_
  refine sy_join (I := fun H locs g => ∃ (z_13 : Int) (ls : Array Slot), (0 ≤ z_13 ∧ z_13 ≤ 1) ∧ va_P D vwCl (cW k a q x_xo_lyingCount x_tape_length y_2 y_3 y_4 y_5 y_7 y_8 x_told_turns x_told_mirror x_told_night x_told_draw x_told_herds x_told_irons x_told_beasts x_told_linesTold x_tfo_steps x_tfo_units x_draft_turns x_draft_mirror x_draft_night x_draft_draw x_draft_herds x_draft_irons x_draft_beasts y_9 x_dfo_steps x_dfo_units x_lat_placements x_smi_irons x_smi_aim x_his_here x_his_undoable x_his_redoable x_book_placedCount x_wit_count x_wit_time j_6 B_xo_lying B_tape_bytes B_told_brands B_told_ironMarks B_told_homes B_told_births B_tfo_kinds B_tfo_numbers B_tfo_stack B_tfo_facts B_draft_brands B_draft_ironMarks B_draft_homes B_draft_births B_dfo_kinds B_dfo_numbers B_dfo_stack B_dfo_facts B_lat_lowHalves B_lat_highHalves B_lat_ways B_smi_placedIrons B_smi_within B_smi_costs B_his_isKept B_book_norms B_book_above B_book_heights B_book_placedBrands B_bea_firstGains B_bea_otherGains B_wit_burnings B_wit_strokes B_wit_wasOn B_wit_toldAt B_wit_untoldAt B_wit_on B_wit_off B_wit_firstCounts B_wit_secondCounts Ps Pd G_tape_wordNames G_told_herdNames G_told_ironNames G_told_beastNames G_draft_herdNames G_draft_ironNames G_draft_beastNames Ph Po Pg ex) H ∧ va_S A s.heap H locs ∧ lv_has ls 3 [(0, .ref (a 31))] ∧ g = F0 m 22 ls [.int (mI z_13)]) ?_ ?_
  · skip
    intro H locs g hI
    obtain ⟨z_13, ls, h22_0, hP, hS, hl, rfl⟩ := hI
    refine lv_istore_n (lv' := [(1, .int (mI z_13)), (0, .ref (a 31))]) hx hb dX8_readTurns_22 rfl hl (by decide) rfl (fun ls hl => ?_)
    refine lv_aload_n hx hb dX8_readTurns_23 rfl (lv_at hl 1 rfl) ?_
    refine cg_reader_tape hx hb hts hown hK hP uw_2_16 dX8_readTurns_24 ?_
    refine g_i (cDt hD) hS hA (g_V (own := "HideReader$TextReader") (As := []) (rest := []) hx hb hml hown hts hK hP (cDt hD) (kc_X7_number (l := l) (D := D) (k := k) (by omega)) ck_X7_number iv_X7_number uw_3_173 (cv_tape hK hP) rfl hl.1 rfl (Nat.le_of_ble_eq_true rfl) dX8_readTurns_27 ⟨Nat.le_of_ble_eq_true rfl, Nat.le_of_ble_eq_true rfl⟩ ⟨Nat.le_of_ble_eq_true rfl, Nat.le_of_ble_eq_true rfl⟩) (fun r_15 H locs hQ hS => ?_)
    obtain ⟨hq_r_15, hP⟩ := hQ
    obtain rfl := hq_r_15
    refine lv_istore_n (lv' := [(2, .int (mI y_5)), (1, .int (mI z_13)), (0, .ref (a 31))]) hx hb dX8_readTurns_30 rfl hl (by decide) rfl (fun ls hl => ?_)
    refine lv_iload_n hx hb dX8_readTurns_31 rfl (lv_at hl 1 rfl) ?_
    refine sy_join (I := fun H locs g => ∃ (y_25 : Int) (y_26 : Int) (y_27 : Int) (ls : Array Slot), (0 ≤ y_25 ∧ y_25 ≤ 255) ∧ (0 ≤ y_26 ∧ y_26 ≤ 5) ∧ (-1 ≤ y_27 ∧ y_27 ≤ 1600) ∧ (¬ y_25 = 201 ∨ 0 ≤ y_5) ∧ (dI y_26 x_draft_herds x_draft_beasts x_draft_draw B_draft_brands B_draft_homes) ∧ (y_7 ≤ y_26) ∧ va_P D vwCl (cW k a q x_xo_lyingCount x_tape_length y_2 y_25 y_4 y_5 y_26 y_27 x_told_turns x_told_mirror x_told_night x_told_draw x_told_herds x_told_irons x_told_beasts x_told_linesTold x_tfo_steps x_tfo_units x_draft_turns x_draft_mirror x_draft_night x_draft_draw x_draft_herds x_draft_irons x_draft_beasts y_9 x_dfo_steps x_dfo_units x_lat_placements x_smi_irons x_smi_aim x_his_here x_his_undoable x_his_redoable x_book_placedCount x_wit_count x_wit_time j_6 B_xo_lying B_tape_bytes B_told_brands B_told_ironMarks B_told_homes B_told_births B_tfo_kinds B_tfo_numbers B_tfo_stack B_tfo_facts B_draft_brands B_draft_ironMarks B_draft_homes B_draft_births B_dfo_kinds B_dfo_numbers B_dfo_stack B_dfo_facts B_lat_lowHalves B_lat_highHalves B_lat_ways B_smi_placedIrons B_smi_within B_smi_costs B_his_isKept B_book_norms B_book_above B_book_heights B_book_placedBrands B_bea_firstGains B_bea_otherGains B_wit_burnings B_wit_strokes B_wit_wasOn B_wit_toldAt B_wit_untoldAt B_wit_on B_wit_off B_wit_firstCounts B_wit_secondCounts Ps Pd G_tape_wordNames G_told_herdNames G_told_ironNames G_told_beastNames G_draft_herdNames G_draft_ironNames G_draft_beastNames Ph Po Pg ex) H ∧ va_S A s.heap H locs ∧ lv_has ls 3 [(2, .int (mI y_5)), (1, .int (mI z_13)), (0, .ref (a 31))] ∧ g = F0 m 58 ls []) ?_ ?_
    · skip
      intro H locs g hI
      obtain ⟨y_25, y_26, y_27, ls, h58_0, h58_1, h58_2, g_28, g_29, h58_5, hP, hS, hl, rfl⟩ := hI
      refine lv_aload_n hx hb dX8_readTurns_58 rfl (lv_at hl 2 rfl) ?_
      refine lv_iconst (v := mI 4) hx hb dX8_readTurns_59 rfl ?_
      refine g_i (cDt hD) hS hA (g_VX (own := "HideReader$TextReader") (As := [.int (mI 4)]) (rest := []) hx hb hml hown hts hK hP (cDt hD) (hXA hS) (kc_X8_takeNumber (l := l) (D := D) (k := k) (bX := bX) (aK := aK) (aV := aV) hbA (by decide) h_x_tape_length (by omega) (by omega) (by omega) (by omega) (by omega) (by omega) b_B_tape_bytes g_28 g_29) ck_X8_takeNumber iv_X8_takeNumber uw_3_177 (cv_reader hK hP) rfl hl.1 rfl (Nat.le_of_ble_eq_true rfl) dX8_readTurns_60 ⟨Nat.le_of_ble_eq_true rfl, Nat.le_of_ble_eq_true rfl⟩ ⟨Nat.le_of_ble_eq_true rfl, Nat.le_of_ble_eq_true rfl⟩) (fun r_31 H locs hQ hS => ?_)
      obtain ⟨y_32, y_33, y_34, y_35, j_36, y_37, y_38, hr_31_0, hr_31_1, hr_31_2, hr_31_3, hr_31_4, hr_31_5, hr_31_6, hr_31_7, hr_31_8, hr_31_9, kr_31_N, kr_31_D, hP⟩ := hQ
      refine lv_pop hx hb dX8_readTurns_63 rfl ?_
      refine lv_aload_n hx hb dX8_readTurns_64 rfl (lv_at hl 2 rfl) ?_
      refine cg_reader_draft hx hb hts hown hK hP uw_2_17 dX8_readTurns_65 ?_
      refine lv_iload_n hx hb dX8_readTurns_68 rfl (lv_at hl 0 rfl) ?_
      refine cp_draft_turns hx hb hts hown hK hP hD hS uw_1_157 dX8_readTurns_69 (fun H locs hP hS => ?_)
      exact r_v hx hb hr hlocks dX8_readTurns_72 hS ⟨y_32, y_33, y_34, y_35, j_36, y_37, y_38, y_5, y_9, by omega, by omega, by omega, by omega, by omega, by omega, by omega, by omega, kr_31_N, kr_31_D, hP⟩
    · skip
      intro J_30
      refine sy_if_eq (tgt := 58) hx hb dX8_readTurns_32 (by decide) (by omega) (fun c_39 => ?_) (fun c_39 => ?_)
      · skip
        exact J_30 _ _ _ ⟨y_3, y_7, y_8, _, by omega, by omega, by omega, kr_1_N, kr_1_D, by omega, hP, hS, lv_sub hl [0, 1, 2] rfl, rfl⟩
      · skip
        refine lv_iload_n hx hb dX8_readTurns_35 rfl (lv_at hl 0 rfl) ?_
        refine lv_iconst (v := mI 1) hx hb dX8_readTurns_36 rfl ?_
        refine sy_icmp_eq (tgt := 58) hx hb dX8_readTurns_37 (by decide) (by omega) (by decide) (fun c_40 => ?_) (fun c_40 => ?_)
        · skip
          exact J_30 _ _ _ ⟨y_3, y_7, y_8, _, by omega, by omega, by omega, kr_1_N, kr_1_D, by omega, hP, hS, lv_sub hl [0, 1, 2] rfl, rfl⟩
        · skip
          refine lv_iload_n hx hb dX8_readTurns_40 rfl (lv_at hl 0 rfl) ?_
          refine lv_iconst (v := mI 2) hx hb dX8_readTurns_41 rfl ?_
          refine sy_icmp_eq (tgt := 58) hx hb dX8_readTurns_42 (by decide) (by omega) (by decide) (fun c_41 => ?_) (fun c_41 => ?_)
          · skip
            exact J_30 _ _ _ ⟨y_3, y_7, y_8, _, by omega, by omega, by omega, kr_1_N, kr_1_D, by omega, hP, hS, lv_sub hl [0, 1, 2] rfl, rfl⟩
          · skip
            refine lv_iload_n hx hb dX8_readTurns_45 rfl (lv_at hl 0 rfl) ?_
            refine lv_iconst (v := mI 4) hx hb dX8_readTurns_46 rfl ?_
            refine sy_icmp_eq (tgt := 58) hx hb dX8_readTurns_47 (by decide) (by omega) (by decide) (fun c_42 => ?_) (fun c_42 => ?_)
            · skip
              exact J_30 _ _ _ ⟨y_3, y_7, y_8, _, by omega, by omega, by omega, kr_1_N, kr_1_D, by omega, hP, hS, lv_sub hl [0, 1, 2] rfl, rfl⟩
            · skip
              refine lv_aload_n hx hb dX8_readTurns_50 rfl (lv_at hl 2 rfl) ?_
              refine cg_reader_tape hx hb hts hown hK hP uw_2_16 dX8_readTurns_51 ?_
              refine lv_iconst (v := mI 4) hx hb dX8_readTurns_54 rfl ?_
              refine g_v (cDt hD) hS hA (g_V (own := "HideReader$TextReader") (As := [.int (mI 4)]) (rest := []) hx hb hml hown hts hK hP (cDt hD) (kc_X7_fail (l := l) (D := D) (k := k) (by decide) (by omega) (by omega) (by omega) (by omega) kr_1_N kr_1_D) ck_X7_fail iv_X7_fail uw_3_171 (cv_tape hK hP) rfl hl.1 rfl (Nat.le_of_ble_eq_true rfl) dX8_readTurns_55 ⟨Nat.le_of_ble_eq_true rfl, Nat.le_of_ble_eq_true rfl⟩ ⟨Nat.le_of_ble_eq_true rfl, Nat.le_of_ble_eq_true rfl⟩) (fun H locs hQ hS => ?_)
              obtain ⟨y_44, y_45, y_46, hr_43_0, hr_43_1, hr_43_2, hr_43_3, kr_43_N, kr_43_D, hP⟩ := hQ
              exact J_30 _ _ _ ⟨y_44, y_45, y_46, _, by omega, by omega, by omega, kr_43_N, kr_43_D, by omega, hP, hS, lv_sub hl [0, 1, 2] rfl, rfl⟩
  · skip
    intro J_14
    refine sy_icmp_ne (tgt := 21) hx hb dX8_readTurns_14 (by decide) (by omega) (by decide) (fun c_47 => ?_) (fun c_47 => ?_)
    · skip
      refine lv_iconst (v := mI 0) hx hb dX8_readTurns_21 rfl ?_
      exact J_14 _ _ _ ⟨0, _, by omega, hP, hS, lv_sub hl [0] rfl, rfl⟩
    · skip
      refine lv_iconst (v := mI 1) hx hb dX8_readTurns_17 rfl ?_
      refine lv_goto (tgt := 22) hx hb dX8_readTurns_18 (by decide) ?_
      exact J_14 _ _ _ ⟨1, _, by omega, hP, hS, lv_sub hl [0] rfl, rfl⟩
set_option maxHeartbeats 4000000 in
set_option maxRecDepth 100000 in
theorem kc_X8_takeNewName_reader_draft_herdNames {bX aK aV : Nat} (hbA : ∀ x ∈ cAd a q ex, bX ≤ x) {p1 : Int} (hp1 : 0 ≤ p1 ∧ p1 ≤ 8) (h_x_tape_length : 0 ≤ x_tape_length ∧ x_tape_length ≤ 1600) (h_x_tape_next : 0 ≤ x_tape_next ∧ x_tape_next ≤ 1600) (h_x_tape_kind : 0 ≤ x_tape_kind ∧ x_tape_kind ≤ 255) (h_x_tape_place : 0 ≤ x_tape_place ∧ x_tape_place ≤ 1600) (h_x_tape_number : -2147483648 ≤ x_tape_number ∧ x_tape_number ≤ 2147483647) (h_x_tape_faultKind : 0 ≤ x_tape_faultKind ∧ x_tape_faultKind ≤ 5) (h_x_tape_faultPlace : -1 ≤ x_tape_faultPlace ∧ x_tape_faultPlace ≤ 1600) (b_B_tape_bytes : bd (-128) 127 B_tape_bytes) (g_N : ¬ x_tape_kind = 201 ∨ 0 ≤ x_tape_number) (g_D : dI x_tape_faultKind x_draft_herds x_draft_beasts x_draft_draw B_draft_brands B_draft_homes) : MetX l D k bX aK aV yX8_takeNewName cX8_takeNewName 3 none 6 [.ref (a 31), .ref (a 19), .int (mI p1)] (cW k a q x_xo_lyingCount x_tape_length x_tape_next x_tape_kind x_tape_place x_tape_number x_tape_faultKind x_tape_faultPlace x_told_turns x_told_mirror x_told_night x_told_draw x_told_herds x_told_irons x_told_beasts x_told_linesTold x_tfo_steps x_tfo_units x_draft_turns x_draft_mirror x_draft_night x_draft_draw x_draft_herds x_draft_irons x_draft_beasts x_draft_linesTold x_dfo_steps x_dfo_units x_lat_placements x_smi_irons x_smi_aim x_his_here x_his_undoable x_his_redoable x_book_placedCount x_wit_count x_wit_time n_tape_name B_xo_lying B_tape_bytes B_told_brands B_told_ironMarks B_told_homes B_told_births B_tfo_kinds B_tfo_numbers B_tfo_stack B_tfo_facts B_draft_brands B_draft_ironMarks B_draft_homes B_draft_births B_dfo_kinds B_dfo_numbers B_dfo_stack B_dfo_facts B_lat_lowHalves B_lat_highHalves B_lat_ways B_smi_placedIrons B_smi_within B_smi_costs B_his_isKept B_book_norms B_book_above B_book_heights B_book_placedBrands B_bea_firstGains B_bea_otherGains B_wit_burnings B_wit_strokes B_wit_wasOn B_wit_toldAt B_wit_untoldAt B_wit_on B_wit_off B_wit_firstCounts B_wit_secondCounts Ps Pd G_tape_wordNames G_told_herdNames G_told_ironNames G_told_beastNames G_draft_herdNames G_draft_ironNames G_draft_beastNames Ph Po Pg ex) (qGv (fun H => ∃ (y_tape_next : Int) (y_tape_kind : Int) (y_tape_place : Int) (y_tape_number : Int) (j_tape_name : Int64) (y_tape_faultKind : Int) (y_tape_faultPlace : Int) (G_draft_herdNames : Nat → Int64), (0 ≤ y_tape_next ∧ y_tape_next ≤ 1600) ∧ (0 ≤ y_tape_kind ∧ y_tape_kind ≤ 255) ∧ (0 ≤ y_tape_place ∧ y_tape_place ≤ 1600) ∧ (-2147483648 ≤ y_tape_number ∧ y_tape_number ≤ 2147483647) ∧ (0 ≤ y_tape_faultKind ∧ y_tape_faultKind ≤ 5) ∧ (-1 ≤ y_tape_faultPlace ∧ y_tape_faultPlace ≤ 1600) ∧ (0 ≤ y_tape_faultKind - x_tape_faultKind) ∧ (¬ y_tape_kind = 201 ∨ 0 ≤ y_tape_number) ∧ (dI y_tape_faultKind x_draft_herds x_draft_beasts x_draft_draw B_draft_brands B_draft_homes) ∧ va_P D vwCl (cW k a q x_xo_lyingCount x_tape_length y_tape_next y_tape_kind y_tape_place y_tape_number y_tape_faultKind y_tape_faultPlace x_told_turns x_told_mirror x_told_night x_told_draw x_told_herds x_told_irons x_told_beasts x_told_linesTold x_tfo_steps x_tfo_units x_draft_turns x_draft_mirror x_draft_night x_draft_draw x_draft_herds x_draft_irons x_draft_beasts x_draft_linesTold x_dfo_steps x_dfo_units x_lat_placements x_smi_irons x_smi_aim x_his_here x_his_undoable x_his_redoable x_book_placedCount x_wit_count x_wit_time j_tape_name B_xo_lying B_tape_bytes B_told_brands B_told_ironMarks B_told_homes B_told_births B_tfo_kinds B_tfo_numbers B_tfo_stack B_tfo_facts B_draft_brands B_draft_ironMarks B_draft_homes B_draft_births B_dfo_kinds B_dfo_numbers B_dfo_stack B_dfo_facts B_lat_lowHalves B_lat_highHalves B_lat_ways B_smi_placedIrons B_smi_within B_smi_costs B_his_isKept B_book_norms B_book_above B_book_heights B_book_placedBrands B_bea_firstGains B_bea_otherGains B_wit_burnings B_wit_strokes B_wit_wasOn B_wit_toldAt B_wit_untoldAt B_wit_on B_wit_off B_wit_firstCounts B_wit_secondCounts Ps Pd G_tape_wordNames G_told_herdNames G_told_ironNames G_told_beastNames G_draft_herdNames G_draft_ironNames G_draft_beastNames Ph Po Pg ex) H)) := by
  refine metX_of 2 ck_X8_takeNewName (Nat.le_of_ble_eq_true rfl) cMap hbA ⟨_, rfl⟩ (fun p e s m args below meth c A hx hb hml hr hlocks hown hts hK hD hA hP hS hX hAb hXA ls hl => ?_)
  have hown : s.vm.findClass "HideReader$TextReader" = some m.cls := hown
  have hl : lv_has ls 3 [(0, .ref (a 31)), (1, .ref (a 19)), (2, .int (mI p1))] := hl
  refine lv_aload_n hx hb dX8_takeNewName_0 rfl (lv_at hl 0 rfl) ?_
  refine cg_reader_tape hx hb hts hown hK hP uw_2_16 dX8_takeNewName_1 ?_
  refine g_i (cDt hD) hS hA (g_V (own := "HideReader$TextReader") (As := []) (rest := []) hx hb hml hown hts hK hP (cDt hD) (kc_X7_kind (l := l) (D := D) (k := k) h_x_tape_kind) ck_X7_kind iv_X7_kind uw_3_155 (cv_tape hK hP) rfl hl.1 rfl (Nat.le_of_ble_eq_true rfl) dX8_takeNewName_4 ⟨Nat.le_of_ble_eq_true rfl, Nat.le_of_ble_eq_true rfl⟩ ⟨Nat.le_of_ble_eq_true rfl, Nat.le_of_ble_eq_true rfl⟩) (fun r_1 H locs hQ hS => ?_)
  obtain ⟨hq_r_1, hP⟩ := hQ
  obtain rfl := hq_r_1
  refine lv_sipush (v := mI 200) hx hb dX8_takeNewName_7 (by decide) ?_
  refine sy_icmp_eq (tgt := 22) hx hb dX8_takeNewName_10 (by decide) (by omega) (by decide) (fun c_3 => ?_) (fun c_3 => ?_)
  · skip
    refine lv_aload_n hx hb dX8_takeNewName_22 rfl (lv_at hl 0 rfl) ?_
    refine lv_aload_n hx hb dX8_takeNewName_23 rfl (lv_at hl 1 rfl) ?_
    refine lv_iload_n hx hb dX8_takeNewName_24 rfl (lv_at hl 2 rfl) ?_
    refine g_i (cDt hD) hS hA (g_V (own := "HideReader$TextReader") (As := [.ref (a 19), .int (mI p1)]) (rest := []) hx hb hml hown hts hK hP (cDt hD) (kc_X8_indexOfName_reader_draft_herdNames (l := l) (D := D) (k := k) (by omega)) ck_X8_indexOfName iv_X8_indexOfName uw_3_189 (cv_reader hK hP) rfl hl.1 rfl (Nat.le_of_ble_eq_true rfl) dX8_takeNewName_25 ⟨Nat.le_of_ble_eq_true rfl, Nat.le_of_ble_eq_true rfl⟩ ⟨Nat.le_of_ble_eq_true rfl, Nat.le_of_ble_eq_true rfl⟩) (fun r_4 H locs hQ hS => ?_)
    obtain ⟨hr_4_0, hr_4_1, hP⟩ := hQ
    refine lv_iconst (v := mI (-1)) hx hb dX8_takeNewName_28 rfl ?_
    refine sy_join (I := fun H locs g => ∃ (y_10 : Int) (y_11 : Int) (y_12 : Int) (ls : Array Slot), (0 ≤ y_10 ∧ y_10 ≤ 255) ∧ (0 ≤ y_11 ∧ y_11 ≤ 5) ∧ (-1 ≤ y_12 ∧ y_12 ≤ 1600) ∧ (¬ y_10 = 201 ∨ 0 ≤ x_tape_number) ∧ (dI y_11 x_draft_herds x_draft_beasts x_draft_draw B_draft_brands B_draft_homes) ∧ (x_tape_faultKind ≤ y_11) ∧ va_P D vwCl (cW k a q x_xo_lyingCount x_tape_length x_tape_next y_10 x_tape_place x_tape_number y_11 y_12 x_told_turns x_told_mirror x_told_night x_told_draw x_told_herds x_told_irons x_told_beasts x_told_linesTold x_tfo_steps x_tfo_units x_draft_turns x_draft_mirror x_draft_night x_draft_draw x_draft_herds x_draft_irons x_draft_beasts x_draft_linesTold x_dfo_steps x_dfo_units x_lat_placements x_smi_irons x_smi_aim x_his_here x_his_undoable x_his_redoable x_book_placedCount x_wit_count x_wit_time n_tape_name B_xo_lying B_tape_bytes B_told_brands B_told_ironMarks B_told_homes B_told_births B_tfo_kinds B_tfo_numbers B_tfo_stack B_tfo_facts B_draft_brands B_draft_ironMarks B_draft_homes B_draft_births B_dfo_kinds B_dfo_numbers B_dfo_stack B_dfo_facts B_lat_lowHalves B_lat_highHalves B_lat_ways B_smi_placedIrons B_smi_within B_smi_costs B_his_isKept B_book_norms B_book_above B_book_heights B_book_placedBrands B_bea_firstGains B_bea_otherGains B_wit_burnings B_wit_strokes B_wit_wasOn B_wit_toldAt B_wit_untoldAt B_wit_on B_wit_off B_wit_firstCounts B_wit_secondCounts Ps Pd G_tape_wordNames G_told_herdNames G_told_ironNames G_told_beastNames G_draft_herdNames G_draft_ironNames G_draft_beastNames Ph Po Pg ex) H ∧ va_S A s.heap H locs ∧ lv_has ls 3 [(0, .ref (a 31)), (1, .ref (a 19)), (2, .int (mI p1))] ∧ g = F0 m 40 ls []) ?_ ?_
    · skip
      intro H locs g hI
      obtain ⟨y_10, y_11, y_12, ls, h40_0, h40_1, h40_2, g_13, g_14, h40_5, hP, hS, hl, rfl⟩ := hI
      refine lv_iload_n hx hb dX8_takeNewName_40 rfl (lv_at hl 2 rfl) ?_
      refine lv_aload_n hx hb dX8_takeNewName_41 rfl (lv_at hl 1 rfl) ?_
      refine cn_draft_herdNames hx hb hK hP dX8_takeNewName_42 ?_
      refine sy_join (I := fun H locs g => ∃ (G_19 : Nat → Int64) (ls : Array Slot), va_P D vwCl (cW k a q x_xo_lyingCount x_tape_length x_tape_next y_10 x_tape_place x_tape_number y_11 y_12 x_told_turns x_told_mirror x_told_night x_told_draw x_told_herds x_told_irons x_told_beasts x_told_linesTold x_tfo_steps x_tfo_units x_draft_turns x_draft_mirror x_draft_night x_draft_draw x_draft_herds x_draft_irons x_draft_beasts x_draft_linesTold x_dfo_steps x_dfo_units x_lat_placements x_smi_irons x_smi_aim x_his_here x_his_undoable x_his_redoable x_book_placedCount x_wit_count x_wit_time n_tape_name B_xo_lying B_tape_bytes B_told_brands B_told_ironMarks B_told_homes B_told_births B_tfo_kinds B_tfo_numbers B_tfo_stack B_tfo_facts B_draft_brands B_draft_ironMarks B_draft_homes B_draft_births B_dfo_kinds B_dfo_numbers B_dfo_stack B_dfo_facts B_lat_lowHalves B_lat_highHalves B_lat_ways B_smi_placedIrons B_smi_within B_smi_costs B_his_isKept B_book_norms B_book_above B_book_heights B_book_placedBrands B_bea_firstGains B_bea_otherGains B_wit_burnings B_wit_strokes B_wit_wasOn B_wit_toldAt B_wit_untoldAt B_wit_on B_wit_off B_wit_firstCounts B_wit_secondCounts Ps Pd G_tape_wordNames G_told_herdNames G_told_ironNames G_told_beastNames G_19 G_draft_ironNames G_draft_beastNames Ph Po Pg ex) H ∧ va_S A s.heap H locs ∧ lv_has ls 3 [(0, .ref (a 31)), (1, .ref (a 19)), (2, .int (mI p1))] ∧ g = F0 m 56 ls []) ?_ ?_
      · skip
        intro H locs g hI
        obtain ⟨G_19, ls, hP, hS, hl, rfl⟩ := hI
        refine lv_aload_n hx hb dX8_takeNewName_56 rfl (lv_at hl 0 rfl) ?_
        refine cg_reader_tape hx hb hts hown hK hP uw_2_16 dX8_takeNewName_57 ?_
        refine g_v (cDt hD) hS hA (g_VX (own := "HideReader$TextReader") (As := []) (rest := []) hx hb hml hown hts hK hP (cDt hD) (hXA hS) (kc_X7_advance (l := l) (D := D) (k := k) (bX := bX) (aK := aK) (aV := aV) hbA h_x_tape_length h_x_tape_next (by omega) h_x_tape_place h_x_tape_number (by omega) (by omega) b_B_tape_bytes g_13 g_14) ck_X7_advance iv_X7_advance uw_3_172 (cv_tape hK hP) rfl hl.1 rfl (Nat.le_of_ble_eq_true rfl) dX8_takeNewName_60 ⟨Nat.le_of_ble_eq_true rfl, Nat.le_of_ble_eq_true rfl⟩ ⟨Nat.le_of_ble_eq_true rfl, Nat.le_of_ble_eq_true rfl⟩) (fun H locs hQ hS => ?_)
        obtain ⟨y_22, y_23, y_24, y_25, j_26, y_27, y_28, hr_21_0, hr_21_1, hr_21_2, hr_21_3, hr_21_4, hr_21_5, hr_21_6, kr_21_N, kr_21_D, hP⟩ := hQ
        exact r_v hx hb hr hlocks dX8_takeNewName_63 hS ⟨y_22, y_23, y_24, y_25, j_26, y_27, y_28, G_19, by omega, by omega, by omega, by omega, by omega, by omega, by omega, kr_21_N, kr_21_D, hP⟩
      · skip
        intro J_20
        refine sy_icmp_ge (tgt := 56) hx hb dX8_takeNewName_43 (by decide) (by omega) (by decide) (fun c_29 => ?_) (fun c_29 => ?_)
        · skip
          exact J_20 _ _ _ ⟨G_draft_herdNames, _, hP, hS, lv_sub hl [0, 1, 2] rfl, rfl⟩
        · skip
          refine lv_aload_n hx hb dX8_takeNewName_46 rfl (lv_at hl 1 rfl) ?_
          refine lv_iload_n hx hb dX8_takeNewName_47 rfl (lv_at hl 2 rfl) ?_
          refine lv_aload_n hx hb dX8_takeNewName_48 rfl (lv_at hl 0 rfl) ?_
          refine cg_reader_tape hx hb hts hown hK hP uw_2_16 dX8_takeNewName_49 ?_
          refine g_l (cDt hD) hS hA (g_V (own := "HideReader$TextReader") (As := []) (rest := [.int (mI p1), .ref (a 19)]) hx hb hml hown hts hK hP (cDt hD) (kc_X7_name (l := l) (D := D) (k := k)) ck_X7_name iv_X7_name uw_3_193 (cv_tape hK hP) rfl hl.1 rfl (Nat.le_of_ble_eq_true rfl) dX8_takeNewName_52 ⟨Nat.le_of_ble_eq_true rfl, Nat.le_of_ble_eq_true rfl⟩ ⟨Nat.le_of_ble_eq_true rfl, Nat.le_of_ble_eq_true rfl⟩) (fun r_30 H locs hQ hS => ?_)
          have hP := hQ
          refine cs_draft_herdNames hx hb hK hP hD hS dX8_takeNewName_55 (by omega) (fun F_31 H locs hP hS => ?_)
          exact J_20 _ _ _ ⟨F_31, _, hP, hS, lv_sub hl [0, 1, 2] rfl, rfl⟩
    · skip
      intro J_15
      refine sy_icmp_eq (tgt := 40) hx hb dX8_takeNewName_29 (by decide) (by omega) (by decide) (fun c_32 => ?_) (fun c_32 => ?_)
      · skip
        exact J_15 _ _ _ ⟨x_tape_kind, x_tape_faultKind, x_tape_faultPlace, _, by omega, by omega, by omega, g_N, g_D, by omega, hP, hS, lv_sub hl [0, 1, 2] rfl, rfl⟩
      · skip
        refine lv_aload_n hx hb dX8_takeNewName_32 rfl (lv_at hl 0 rfl) ?_
        refine cg_reader_tape hx hb hts hown hK hP uw_2_16 dX8_takeNewName_33 ?_
        refine lv_iconst (v := mI 3) hx hb dX8_takeNewName_36 rfl ?_
        refine g_v (cDt hD) hS hA (g_V (own := "HideReader$TextReader") (As := [.int (mI 3)]) (rest := []) hx hb hml hown hts hK hP (cDt hD) (kc_X7_fail (l := l) (D := D) (k := k) (by decide) h_x_tape_kind h_x_tape_place h_x_tape_faultKind h_x_tape_faultPlace g_N g_D) ck_X7_fail iv_X7_fail uw_3_171 (cv_tape hK hP) rfl hl.1 rfl (Nat.le_of_ble_eq_true rfl) dX8_takeNewName_37 ⟨Nat.le_of_ble_eq_true rfl, Nat.le_of_ble_eq_true rfl⟩ ⟨Nat.le_of_ble_eq_true rfl, Nat.le_of_ble_eq_true rfl⟩) (fun H locs hQ hS => ?_)
        obtain ⟨y_34, y_35, y_36, hr_33_0, hr_33_1, hr_33_2, hr_33_3, kr_33_N, kr_33_D, hP⟩ := hQ
        exact J_15 _ _ _ ⟨y_34, y_35, y_36, _, by omega, by omega, by omega, kr_33_N, kr_33_D, by omega, hP, hS, lv_sub hl [0, 1, 2] rfl, rfl⟩
  · skip
    refine lv_aload_n hx hb dX8_takeNewName_13 rfl (lv_at hl 0 rfl) ?_
    refine cg_reader_tape hx hb hts hown hK hP uw_2_16 dX8_takeNewName_14 ?_
    refine lv_iconst (v := mI 2) hx hb dX8_takeNewName_17 rfl ?_
    refine g_v (cDt hD) hS hA (g_V (own := "HideReader$TextReader") (As := [.int (mI 2)]) (rest := []) hx hb hml hown hts hK hP (cDt hD) (kc_X7_fail (l := l) (D := D) (k := k) (by decide) h_x_tape_kind h_x_tape_place h_x_tape_faultKind h_x_tape_faultPlace g_N g_D) ck_X7_fail iv_X7_fail uw_3_171 (cv_tape hK hP) rfl hl.1 rfl (Nat.le_of_ble_eq_true rfl) dX8_takeNewName_18 ⟨Nat.le_of_ble_eq_true rfl, Nat.le_of_ble_eq_true rfl⟩ ⟨Nat.le_of_ble_eq_true rfl, Nat.le_of_ble_eq_true rfl⟩) (fun H locs hQ hS => ?_)
    obtain ⟨y_38, y_39, y_40, hr_37_0, hr_37_1, hr_37_2, hr_37_3, kr_37_N, kr_37_D, hP⟩ := hQ
    exact r_v hx hb hr hlocks dX8_takeNewName_21 hS ⟨x_tape_next, y_38, x_tape_place, x_tape_number, n_tape_name, y_39, y_40, G_draft_herdNames, by omega, by omega, by omega, by omega, by omega, by omega, by omega, kr_37_N, kr_37_D, hP⟩
set_option maxHeartbeats 4000000 in
set_option maxRecDepth 100000 in
theorem kc_X8_takeStrokes {bX aK aV : Nat} (hbA : ∀ x ∈ cAd a q ex, bX ≤ x) (h_x_tape_length : 0 ≤ x_tape_length ∧ x_tape_length ≤ 1600) (h_x_tape_next : 0 ≤ x_tape_next ∧ x_tape_next ≤ 1600) (h_x_tape_kind : 0 ≤ x_tape_kind ∧ x_tape_kind ≤ 255) (h_x_tape_place : 0 ≤ x_tape_place ∧ x_tape_place ≤ 1600) (h_x_tape_number : -2147483648 ≤ x_tape_number ∧ x_tape_number ≤ 2147483647) (h_x_tape_faultKind : 0 ≤ x_tape_faultKind ∧ x_tape_faultKind ≤ 5) (h_x_tape_faultPlace : -1 ≤ x_tape_faultPlace ∧ x_tape_faultPlace ≤ 1600) (b_B_tape_bytes : bd (-128) 127 B_tape_bytes) (g_N : ¬ x_tape_kind = 201 ∨ 0 ≤ x_tape_number) (g_D : dI x_tape_faultKind x_draft_herds x_draft_beasts x_draft_draw B_draft_brands B_draft_homes) : MetX l D k bX aK aV yX8_takeStrokes cX8_takeStrokes 4 (some .int) 7 [.ref (a 31)] (cW k a q x_xo_lyingCount x_tape_length x_tape_next x_tape_kind x_tape_place x_tape_number x_tape_faultKind x_tape_faultPlace x_told_turns x_told_mirror x_told_night x_told_draw x_told_herds x_told_irons x_told_beasts x_told_linesTold x_tfo_steps x_tfo_units x_draft_turns x_draft_mirror x_draft_night x_draft_draw x_draft_herds x_draft_irons x_draft_beasts x_draft_linesTold x_dfo_steps x_dfo_units x_lat_placements x_smi_irons x_smi_aim x_his_here x_his_undoable x_his_redoable x_book_placedCount x_wit_count x_wit_time n_tape_name B_xo_lying B_tape_bytes B_told_brands B_told_ironMarks B_told_homes B_told_births B_tfo_kinds B_tfo_numbers B_tfo_stack B_tfo_facts B_draft_brands B_draft_ironMarks B_draft_homes B_draft_births B_dfo_kinds B_dfo_numbers B_dfo_stack B_dfo_facts B_lat_lowHalves B_lat_highHalves B_lat_ways B_smi_placedIrons B_smi_within B_smi_costs B_his_isKept B_book_norms B_book_above B_book_heights B_book_placedBrands B_bea_firstGains B_bea_otherGains B_wit_burnings B_wit_strokes B_wit_wasOn B_wit_toldAt B_wit_untoldAt B_wit_on B_wit_off B_wit_firstCounts B_wit_secondCounts Ps Pd G_tape_wordNames G_told_herdNames G_told_ironNames G_told_beastNames G_draft_herdNames G_draft_ironNames G_draft_beastNames Ph Po Pg ex) (qGi (fun r0 H => ∃ (y_tape_next : Int) (y_tape_kind : Int) (y_tape_place : Int) (y_tape_number : Int) (j_tape_name : Int64) (y_tape_faultKind : Int) (y_tape_faultPlace : Int), (-2147483648 ≤ r0 ∧ r0 ≤ 2147483647) ∧ (0 ≤ y_tape_next ∧ y_tape_next ≤ 1600) ∧ (0 ≤ y_tape_kind ∧ y_tape_kind ≤ 255) ∧ (0 ≤ y_tape_place ∧ y_tape_place ≤ 1600) ∧ (-2147483648 ≤ y_tape_number ∧ y_tape_number ≤ 2147483647) ∧ (0 ≤ y_tape_faultKind ∧ y_tape_faultKind ≤ 5) ∧ (-1 ≤ y_tape_faultPlace ∧ y_tape_faultPlace ≤ 1600) ∧ (1 ≤ y_tape_faultKind ∨ (0 ≤ r0 ∧ r0 ≤ 4095)) ∧ (¬ y_tape_kind = 201 ∨ 0 ≤ y_tape_number) ∧ (dI y_tape_faultKind x_draft_herds x_draft_beasts x_draft_draw B_draft_brands B_draft_homes) ∧ va_P D vwCl (cW k a q x_xo_lyingCount x_tape_length y_tape_next y_tape_kind y_tape_place y_tape_number y_tape_faultKind y_tape_faultPlace x_told_turns x_told_mirror x_told_night x_told_draw x_told_herds x_told_irons x_told_beasts x_told_linesTold x_tfo_steps x_tfo_units x_draft_turns x_draft_mirror x_draft_night x_draft_draw x_draft_herds x_draft_irons x_draft_beasts x_draft_linesTold x_dfo_steps x_dfo_units x_lat_placements x_smi_irons x_smi_aim x_his_here x_his_undoable x_his_redoable x_book_placedCount x_wit_count x_wit_time j_tape_name B_xo_lying B_tape_bytes B_told_brands B_told_ironMarks B_told_homes B_told_births B_tfo_kinds B_tfo_numbers B_tfo_stack B_tfo_facts B_draft_brands B_draft_ironMarks B_draft_homes B_draft_births B_dfo_kinds B_dfo_numbers B_dfo_stack B_dfo_facts B_lat_lowHalves B_lat_highHalves B_lat_ways B_smi_placedIrons B_smi_within B_smi_costs B_his_isKept B_book_norms B_book_above B_book_heights B_book_placedBrands B_bea_firstGains B_bea_otherGains B_wit_burnings B_wit_strokes B_wit_wasOn B_wit_toldAt B_wit_untoldAt B_wit_on B_wit_off B_wit_firstCounts B_wit_secondCounts Ps Pd G_tape_wordNames G_told_herdNames G_told_ironNames G_told_beastNames G_draft_herdNames G_draft_ironNames G_draft_beastNames Ph Po Pg ex) H)) := by
  refine metX_of 0 ck_X8_takeStrokes (Nat.le_of_ble_eq_true rfl) cMap hbA ⟨_, rfl⟩ (fun p e s m args below meth c A hx hb hml hr hlocks hown hts hK hD hA hP hS hX hAb hXA ls hl => ?_)
  have hown : s.vm.findClass "HideReader$TextReader" = some m.cls := hown
  have hl : lv_has ls 4 [(0, .ref (a 31))] := hl
  refine lv_aload_n hx hb dX8_takeStrokes_0 rfl (lv_at hl 0 rfl) ?_
  refine cg_reader_tape hx hb hts hown hK hP uw_2_16 dX8_takeStrokes_1 ?_
  refine lv_sipush (v := mI 136) hx hb dX8_takeStrokes_4 (by decide) ?_
  refine g_v (cDt hD) hS hA (g_VX (own := "HideReader$TextReader") (As := [.int (mI 136)]) (rest := []) hx hb hml hown hts hK hP (cDt hD) (hXA hS) (kc_X7_expect (l := l) (D := D) (k := k) (bX := bX) (aK := aK) (aV := aV) hbA (by decide) h_x_tape_length h_x_tape_next h_x_tape_kind h_x_tape_place h_x_tape_number h_x_tape_faultKind h_x_tape_faultPlace b_B_tape_bytes g_N g_D) ck_X7_expect iv_X7_expect uw_3_201 (cv_tape hK hP) rfl hl.1 rfl (Nat.le_of_ble_eq_true rfl) dX8_takeStrokes_7 ⟨Nat.le_of_ble_eq_true rfl, Nat.le_of_ble_eq_true rfl⟩ ⟨Nat.le_of_ble_eq_true rfl, Nat.le_of_ble_eq_true rfl⟩) (fun H locs hQ hS => ?_)
  obtain ⟨y_2, y_3, y_4, y_5, j_6, y_7, y_8, hr_1_0, hr_1_1, hr_1_2, hr_1_3, hr_1_4, hr_1_5, hr_1_6, kr_1_N, kr_1_D, hP⟩ := hQ
  refine lv_iconst (v := mI 0) hx hb dX8_takeStrokes_10 rfl ?_
  refine lv_istore_n (lv' := [(1, .int (mI 0)), (0, .ref (a 31))]) hx hb dX8_takeStrokes_11 rfl hl (by decide) rfl (fun ls hl => ?_)
  refine lv_iconst (v := mI 0) hx hb dX8_takeStrokes_12 rfl ?_
  refine lv_istore_n (lv' := [(2, .int (mI 0)), (1, .int (mI 0)), (0, .ref (a 31))]) hx hb dX8_takeStrokes_13 rfl hl (by decide) rfl (fun ls hl => ?_)
  refine sy_loop (I := fun n H locs g => ∃ (z_14244 : Int) (z_14245 : Int) (y_14246 : Int) (y_14247 : Int) (y_14248 : Int) (y_14249 : Int) (j_14250 : Int64) (y_14251 : Int) (y_14252 : Int) (ls : Array Slot), (0 ≤ z_14244 ∧ z_14244 ≤ 13) ∧ (-2147483648 ≤ z_14245 ∧ z_14245 ≤ 2147483647) ∧ (0 ≤ y_14246 ∧ y_14246 ≤ 1600) ∧ (0 ≤ y_14247 ∧ y_14247 ≤ 255) ∧ (0 ≤ y_14248 ∧ y_14248 ≤ 1600) ∧ (-2147483648 ≤ y_14249 ∧ y_14249 ≤ 2147483647) ∧ (0 ≤ y_14251 ∧ y_14251 ≤ 5) ∧ (-1 ≤ y_14252 ∧ y_14252 ≤ 1600) ∧ (¬ y_14247 = 201 ∨ 0 ≤ y_14249) ∧ (dI y_14251 x_draft_herds x_draft_beasts x_draft_draw B_draft_brands B_draft_homes) ∧ (1 ≤ y_14251 ∨ (0 ≤ z_14245 ∧ z_14245 ≤ 4095)) ∧ (13 - z_14244).toNat = n ∧ va_P D vwCl (cW k a q x_xo_lyingCount x_tape_length y_14246 y_14247 y_14248 y_14249 y_14251 y_14252 x_told_turns x_told_mirror x_told_night x_told_draw x_told_herds x_told_irons x_told_beasts x_told_linesTold x_tfo_steps x_tfo_units x_draft_turns x_draft_mirror x_draft_night x_draft_draw x_draft_herds x_draft_irons x_draft_beasts x_draft_linesTold x_dfo_steps x_dfo_units x_lat_placements x_smi_irons x_smi_aim x_his_here x_his_undoable x_his_redoable x_book_placedCount x_wit_count x_wit_time j_14250 B_xo_lying B_tape_bytes B_told_brands B_told_ironMarks B_told_homes B_told_births B_tfo_kinds B_tfo_numbers B_tfo_stack B_tfo_facts B_draft_brands B_draft_ironMarks B_draft_homes B_draft_births B_dfo_kinds B_dfo_numbers B_dfo_stack B_dfo_facts B_lat_lowHalves B_lat_highHalves B_lat_ways B_smi_placedIrons B_smi_within B_smi_costs B_his_isKept B_book_norms B_book_above B_book_heights B_book_placedBrands B_bea_firstGains B_bea_otherGains B_wit_burnings B_wit_strokes B_wit_wasOn B_wit_toldAt B_wit_untoldAt B_wit_on B_wit_off B_wit_firstCounts B_wit_secondCounts Ps Pd G_tape_wordNames G_told_herdNames G_told_ironNames G_told_beastNames G_draft_herdNames G_draft_ironNames G_draft_beastNames Ph Po Pg ex) H ∧ va_S A s.heap H locs ∧ lv_has ls 4 [(2, .int (mI z_14244)), (1, .int (mI z_14245)), (0, .ref (a 31))] ∧ g = F0 m 14 ls []) ?_ _ ⟨0, 0, y_2, y_3, y_4, y_5, j_6, y_7, y_8, _, by omega, by omega, by omega, by omega, by omega, by omega, by omega, by omega, kr_1_N, kr_1_D, by omega, rfl, hP, hS, lv_sub hl [0, 1, 2] rfl, rfl⟩
  intro n_14580 H locs g hI ih_14581
  obtain ⟨z_14244, z_14245, y_14246, y_14247, y_14248, y_14249, j_14250, y_14251, y_14252, ls, h14_0, h14_1, h14_2, h14_3, h14_4, h14_5, h14_6, h14_7, g_14253, g_14254, h14_10, mn_14580, hP, hS, hl, rfl⟩ := hI
  refine lv_iload_n hx hb dX8_takeStrokes_14 rfl (lv_at hl 0 rfl) ?_
  refine lv_bipush (v := mI 12) hx hb dX8_takeStrokes_15 (by decide) ?_
  refine sy_icmp_gt (tgt := 107) hx hb dX8_takeStrokes_17 (by decide) (by omega) (by decide) (fun c_14582 => ?_) (fun c_14582 => ?_)
  · skip
    refine lv_iload_n hx hb dX8_takeStrokes_107 rfl (lv_at hl 1 rfl) ?_
    exact r_i hx hb hr hlocks dX8_takeStrokes_108 hS ⟨y_14246, y_14247, y_14248, y_14249, j_14250, y_14251, y_14252, by omega, by omega, by omega, by omega, by omega, by omega, by omega, by omega, g_14253, g_14254, hP⟩
  · skip
    refine lv_iload_n hx hb dX8_takeStrokes_20 rfl (lv_at hl 0 rfl) ?_
    refine sy_if_eq (tgt := 37) hx hb dX8_takeStrokes_21 (by decide) (by omega) (fun c_14583 => ?_) (fun c_14583 => ?_)
    · skip
      rcases (by omega : ((y_14247 = 201 ∧ 0 ≤ y_14249) ∨ ¬ y_14247 = 201) ∧ ((y_14251 = 0 ∧ 0 ≤ z_14245 ∧ z_14245 ≤ 4095) ∨ 1 ≤ y_14251)) with ⟨c_14584a | c_14584a, c_14584b | c_14584b⟩
      · skip
        refine lv_aload_n hx hb dX8_takeStrokes_37 rfl (lv_at hl 2 rfl) ?_
        refine cg_reader_tape hx hb hts hown hK hP uw_2_16 dX8_takeStrokes_38 ?_
        refine g_i (cDt hD) hS hA (g_V (own := "HideReader$TextReader") (As := []) (rest := []) hx hb hml hown hts hK hP (cDt hD) (kc_X7_number (l := l) (D := D) (k := k) (by omega)) ck_X7_number iv_X7_number uw_3_173 (cv_tape hK hP) rfl hl.1 rfl (Nat.le_of_ble_eq_true rfl) dX8_takeStrokes_41 ⟨Nat.le_of_ble_eq_true rfl, Nat.le_of_ble_eq_true rfl⟩ ⟨Nat.le_of_ble_eq_true rfl, Nat.le_of_ble_eq_true rfl⟩) (fun r_14585 H locs hQ hS => ?_)
        obtain ⟨hq_r_14585, hP⟩ := hQ
        obtain rfl := hq_r_14585
        refine lv_bipush (v := mI 12) hx hb dX8_takeStrokes_44 (by decide) ?_
        refine sy_icmp_ge (tgt := 61) hx hb dX8_takeStrokes_46 (by decide) (by omega) (by decide) (fun c_14587 => ?_) (fun c_14587 => ?_)
        · skip
          refine lv_iconst (v := mI 0) hx hb dX8_takeStrokes_61 rfl ?_
          refine lv_istore_n (lv' := [(3, .int (mI 0)), (2, .int (mI z_14244)), (1, .int (mI z_14245)), (0, .ref (a 31))]) hx hb dX8_takeStrokes_62 rfl hl (by decide) rfl (fun ls hl => ?_)
          refine lv_aload_n hx hb dX8_takeStrokes_63 rfl (lv_at hl 3 rfl) ?_
          refine cg_reader_tape hx hb hts hown hK hP uw_2_16 dX8_takeStrokes_64 ?_
          refine g_i (cDt hD) hS hA (g_V (own := "HideReader$TextReader") (As := []) (rest := []) hx hb hml hown hts hK hP (cDt hD) (kc_X7_kind (l := l) (D := D) (k := k) (by omega)) ck_X7_kind iv_X7_kind uw_3_155 (cv_tape hK hP) rfl hl.1 rfl (Nat.le_of_ble_eq_true rfl) dX8_takeStrokes_67 ⟨Nat.le_of_ble_eq_true rfl, Nat.le_of_ble_eq_true rfl⟩ ⟨Nat.le_of_ble_eq_true rfl, Nat.le_of_ble_eq_true rfl⟩) (fun r_14588 H locs hQ hS => ?_)
          obtain ⟨hq_r_14588, hP⟩ := hQ
          obtain rfl := hq_r_14588
          refine lv_sipush (v := mI 201) hx hb dX8_takeStrokes_70 (by decide) ?_
          refine sy_icmp_ne (tgt := 90) hx hb dX8_takeStrokes_73 (by decide) (by omega) (by decide) (fun c9 => False.elim (by omega)) (fun c_14590 => ?_)
          refine lv_iload_n hx hb dX8_takeStrokes_76 rfl (lv_at hl 2 rfl) ?_
          refine lv_iload_n hx hb dX8_takeStrokes_77 rfl (lv_at hl 0 rfl) ?_
          refine sy_iandR hx hb dX8_takeStrokes_78 (by decide) (fun z_14591 hz_14591 => ?_)
          refine sy_if_eq (tgt := 90) hx hb dX8_takeStrokes_79 (by decide) (by omega) (fun c_14592 => ?_) (fun c9 => False.elim (by omega))
          refine lv_aload_n hx hb dX8_takeStrokes_90 rfl (lv_at hl 3 rfl) ?_
          refine lv_bipush (v := mI 11) hx hb dX8_takeStrokes_91 (by decide) ?_
          refine g_i (cDt hD) hS hA (g_VX (own := "HideReader$TextReader") (As := [.int (mI 11)]) (rest := []) hx hb hml hown hts hK hP (cDt hD) (hXA hS) (kc_X8_takeNumber (l := l) (D := D) (k := k) (bX := bX) (aK := aK) (aV := aV) hbA (by decide) h_x_tape_length (by omega) (by omega) (by omega) (by omega) (by omega) (by omega) b_B_tape_bytes g_14253 g_14254) ck_X8_takeNumber iv_X8_takeNumber uw_3_177 (cv_reader hK hP) rfl hl.1 rfl (Nat.le_of_ble_eq_true rfl) dX8_takeStrokes_93 ⟨Nat.le_of_ble_eq_true rfl, Nat.le_of_ble_eq_true rfl⟩ ⟨Nat.le_of_ble_eq_true rfl, Nat.le_of_ble_eq_true rfl⟩) (fun r_14593 H locs hQ hS => ?_)
          obtain ⟨y_14594, y_14595, y_14596, y_14597, j_14598, y_14599, y_14600, hr_14593_0, hr_14593_1, hr_14593_2, hr_14593_3, hr_14593_4, hr_14593_5, hr_14593_6, hr_14593_7, hr_14593_8, hr_14593_9, kr_14593_N, kr_14593_D, hP⟩ := hQ
          refine lv_pop hx hb dX8_takeStrokes_96 rfl ?_
          refine lv_iload_n hx hb dX8_takeStrokes_97 rfl (lv_at hl 2 rfl) ?_
          refine lv_iload_n hx hb dX8_takeStrokes_98 rfl (lv_at hl 0 rfl) ?_
          refine sy_ior hx hb dX8_takeStrokes_99 12 (by decide) 4096 (by decide) (by omega) (by omega) (fun z_14601 hz_14601 => ?_)
          refine lv_istore_n (lv' := [(1, .int (mI z_14601)), (3, .int (mI 0)), (2, .int (mI z_14244)), (0, .ref (a 31))]) hx hb dX8_takeStrokes_100 rfl hl (by decide) rfl (fun ls hl => ?_)
          refine lv_iinc (v := mI (z_14244 + 1)) (lv' := [(2, .int (mI (z_14244 + 1))), (1, .int (mI z_14601)), (3, .int (mI 0)), (0, .ref (a 31))]) hx hb dX8_takeStrokes_101 hl (k := 2) rfl (mI_ad rfl) (by decide) rfl (fun ls hl => ?_)
          refine lv_goto (tgt := 14) hx hb dX8_takeStrokes_104 (by decide) ?_
          exact ih_14581 _ _ _ _ (by omega) ⟨(z_14244 + 1), z_14601, y_14594, y_14595, y_14596, y_14597, j_14598, y_14599, y_14600, _, by omega, by omega, by omega, by omega, by omega, by omega, by omega, by omega, kr_14593_N, kr_14593_D, by omega, rfl, hP, hS, lv_sub hl [0, 1, 3] rfl, rfl⟩
        · skip
          refine lv_iconst (v := mI 1) hx hb dX8_takeStrokes_49 rfl ?_
          refine lv_aload_n hx hb dX8_takeStrokes_50 rfl (lv_at hl 2 rfl) ?_
          refine cg_reader_tape hx hb hts hown hK hP uw_2_16 dX8_takeStrokes_51 ?_
          refine g_i (cDt hD) hS hA (g_V (own := "HideReader$TextReader") (As := []) (rest := [.int (mI 1)]) hx hb hml hown hts hK hP (cDt hD) (kc_X7_number (l := l) (D := D) (k := k) (by omega)) ck_X7_number iv_X7_number uw_3_173 (cv_tape hK hP) rfl hl.1 rfl (Nat.le_of_ble_eq_true rfl) dX8_takeStrokes_54 ⟨Nat.le_of_ble_eq_true rfl, Nat.le_of_ble_eq_true rfl⟩ ⟨Nat.le_of_ble_eq_true rfl, Nat.le_of_ble_eq_true rfl⟩) (fun r_14602 H locs hQ hS => ?_)
          obtain ⟨hq_r_14602, hP⟩ := hQ
          obtain rfl := hq_r_14602
          refine sy_shl1 hx hb dX8_takeStrokes_57 11 (by decide) 2048 (by decide) (by omega) (fun z_14604 ez_14604 hz_14604 => ?_)
          refine lv_goto (tgt := 62) hx hb dX8_takeStrokes_58 (by decide) ?_
          refine lv_istore_n (lv' := [(3, .int (mI z_14604)), (2, .int (mI z_14244)), (1, .int (mI z_14245)), (0, .ref (a 31))]) hx hb dX8_takeStrokes_62 rfl hl (by decide) rfl (fun ls hl => ?_)
          refine lv_aload_n hx hb dX8_takeStrokes_63 rfl (lv_at hl 3 rfl) ?_
          refine cg_reader_tape hx hb hts hown hK hP uw_2_16 dX8_takeStrokes_64 ?_
          refine g_i (cDt hD) hS hA (g_V (own := "HideReader$TextReader") (As := []) (rest := []) hx hb hml hown hts hK hP (cDt hD) (kc_X7_kind (l := l) (D := D) (k := k) (by omega)) ck_X7_kind iv_X7_kind uw_3_155 (cv_tape hK hP) rfl hl.1 rfl (Nat.le_of_ble_eq_true rfl) dX8_takeStrokes_67 ⟨Nat.le_of_ble_eq_true rfl, Nat.le_of_ble_eq_true rfl⟩ ⟨Nat.le_of_ble_eq_true rfl, Nat.le_of_ble_eq_true rfl⟩) (fun r_14605 H locs hQ hS => ?_)
          obtain ⟨hq_r_14605, hP⟩ := hQ
          obtain rfl := hq_r_14605
          refine lv_sipush (v := mI 201) hx hb dX8_takeStrokes_70 (by decide) ?_
          refine sy_icmp_ne (tgt := 90) hx hb dX8_takeStrokes_73 (by decide) (by omega) (by decide) (fun c9 => False.elim (by omega)) (fun c_14607 => ?_)
          refine lv_iload_n hx hb dX8_takeStrokes_76 rfl (lv_at hl 2 rfl) ?_
          refine lv_iload_n hx hb dX8_takeStrokes_77 rfl (lv_at hl 0 rfl) ?_
          refine sy_iandR hx hb dX8_takeStrokes_78 (by omega) (fun z_14608 hz_14608 => ?_)
          refine sy_if_eq (tgt := 90) hx hb dX8_takeStrokes_79 (by decide) (by omega) (fun c_14609 => ?_) (fun c_14609 => ?_)
          · skip
            refine lv_aload_n hx hb dX8_takeStrokes_90 rfl (lv_at hl 3 rfl) ?_
            refine lv_bipush (v := mI 11) hx hb dX8_takeStrokes_91 (by decide) ?_
            refine g_i (cDt hD) hS hA (g_VX (own := "HideReader$TextReader") (As := [.int (mI 11)]) (rest := []) hx hb hml hown hts hK hP (cDt hD) (hXA hS) (kc_X8_takeNumber (l := l) (D := D) (k := k) (bX := bX) (aK := aK) (aV := aV) hbA (by decide) h_x_tape_length (by omega) (by omega) (by omega) (by omega) (by omega) (by omega) b_B_tape_bytes g_14253 g_14254) ck_X8_takeNumber iv_X8_takeNumber uw_3_177 (cv_reader hK hP) rfl hl.1 rfl (Nat.le_of_ble_eq_true rfl) dX8_takeStrokes_93 ⟨Nat.le_of_ble_eq_true rfl, Nat.le_of_ble_eq_true rfl⟩ ⟨Nat.le_of_ble_eq_true rfl, Nat.le_of_ble_eq_true rfl⟩) (fun r_14610 H locs hQ hS => ?_)
            obtain ⟨y_14611, y_14612, y_14613, y_14614, j_14615, y_14616, y_14617, hr_14610_0, hr_14610_1, hr_14610_2, hr_14610_3, hr_14610_4, hr_14610_5, hr_14610_6, hr_14610_7, hr_14610_8, hr_14610_9, kr_14610_N, kr_14610_D, hP⟩ := hQ
            refine lv_pop hx hb dX8_takeStrokes_96 rfl ?_
            refine lv_iload_n hx hb dX8_takeStrokes_97 rfl (lv_at hl 2 rfl) ?_
            refine lv_iload_n hx hb dX8_takeStrokes_98 rfl (lv_at hl 0 rfl) ?_
            refine sy_ior hx hb dX8_takeStrokes_99 12 (by decide) 4096 (by decide) (by omega) (by omega) (fun z_14618 hz_14618 => ?_)
            refine lv_istore_n (lv' := [(1, .int (mI z_14618)), (3, .int (mI z_14604)), (2, .int (mI z_14244)), (0, .ref (a 31))]) hx hb dX8_takeStrokes_100 rfl hl (by decide) rfl (fun ls hl => ?_)
            refine lv_iinc (v := mI (z_14244 + 1)) (lv' := [(2, .int (mI (z_14244 + 1))), (1, .int (mI z_14618)), (3, .int (mI z_14604)), (0, .ref (a 31))]) hx hb dX8_takeStrokes_101 hl (k := 2) rfl (mI_ad rfl) (by decide) rfl (fun ls hl => ?_)
            refine lv_goto (tgt := 14) hx hb dX8_takeStrokes_104 (by decide) ?_
            exact ih_14581 _ _ _ _ (by omega) ⟨(z_14244 + 1), z_14618, y_14611, y_14612, y_14613, y_14614, j_14615, y_14616, y_14617, _, by omega, by omega, by omega, by omega, by omega, by omega, by omega, by omega, kr_14610_N, kr_14610_D, by omega, rfl, hP, hS, lv_sub hl [0, 1, 3] rfl, rfl⟩
          · skip
            refine lv_aload_n hx hb dX8_takeStrokes_82 rfl (lv_at hl 3 rfl) ?_
            refine cg_reader_tape hx hb hts hown hK hP uw_2_16 dX8_takeStrokes_83 ?_
            refine lv_iconst (v := mI 3) hx hb dX8_takeStrokes_86 rfl ?_
            refine g_v (cDt hD) hS hA (g_V (own := "HideReader$TextReader") (As := [.int (mI 3)]) (rest := []) hx hb hml hown hts hK hP (cDt hD) (kc_X7_fail_vz (l := l) (D := D) (k := k) (by decide) (by omega) (by omega)) ck_X7_fail iv_X7_fail uw_3_171 (cv_tape hK hP) rfl hl.1 rfl (Nat.le_of_ble_eq_true rfl) dX8_takeStrokes_87 ⟨Nat.le_of_ble_eq_true rfl, Nat.le_of_ble_eq_true rfl⟩ ⟨Nat.le_of_ble_eq_true rfl, Nat.le_of_ble_eq_true rfl⟩) (fun H locs hQ hS => ?_)
            obtain ⟨y_14620, y_14621, y_14622, hr_14619_0, hr_14619_1, hr_14619_2, hr_14619_3, kr_14619_N, kr_14619_D, hP⟩ := hQ
            refine lv_aload_n hx hb dX8_takeStrokes_90 rfl (lv_at hl 3 rfl) ?_
            refine lv_bipush (v := mI 11) hx hb dX8_takeStrokes_91 (by decide) ?_
            refine g_i (cDt hD) hS hA (g_VX (own := "HideReader$TextReader") (As := [.int (mI 11)]) (rest := []) hx hb hml hown hts hK hP (cDt hD) (hXA hS) (kc_X8_takeNumber (l := l) (D := D) (k := k) (bX := bX) (aK := aK) (aV := aV) hbA (by decide) h_x_tape_length (by omega) (by omega) (by omega) (by omega) (by omega) (by omega) b_B_tape_bytes kr_14619_N kr_14619_D) ck_X8_takeNumber iv_X8_takeNumber uw_3_177 (cv_reader hK hP) rfl hl.1 rfl (Nat.le_of_ble_eq_true rfl) dX8_takeStrokes_93 ⟨Nat.le_of_ble_eq_true rfl, Nat.le_of_ble_eq_true rfl⟩ ⟨Nat.le_of_ble_eq_true rfl, Nat.le_of_ble_eq_true rfl⟩) (fun r_14623 H locs hQ hS => ?_)
            obtain ⟨y_14624, y_14625, y_14626, y_14627, j_14628, y_14629, y_14630, hr_14623_0, hr_14623_1, hr_14623_2, hr_14623_3, hr_14623_4, hr_14623_5, hr_14623_6, hr_14623_7, hr_14623_8, hr_14623_9, kr_14623_N, kr_14623_D, hP⟩ := hQ
            refine lv_pop hx hb dX8_takeStrokes_96 rfl ?_
            refine lv_iload_n hx hb dX8_takeStrokes_97 rfl (lv_at hl 2 rfl) ?_
            refine lv_iload_n hx hb dX8_takeStrokes_98 rfl (lv_at hl 0 rfl) ?_
            refine sy_ior hx hb dX8_takeStrokes_99 12 (by decide) 4096 (by decide) (by omega) (by omega) (fun z_14631 hz_14631 => ?_)
            refine lv_istore_n (lv' := [(1, .int (mI z_14631)), (3, .int (mI z_14604)), (2, .int (mI z_14244)), (0, .ref (a 31))]) hx hb dX8_takeStrokes_100 rfl hl (by decide) rfl (fun ls hl => ?_)
            refine lv_iinc (v := mI (z_14244 + 1)) (lv' := [(2, .int (mI (z_14244 + 1))), (1, .int (mI z_14631)), (3, .int (mI z_14604)), (0, .ref (a 31))]) hx hb dX8_takeStrokes_101 hl (k := 2) rfl (mI_ad rfl) (by decide) rfl (fun ls hl => ?_)
            refine lv_goto (tgt := 14) hx hb dX8_takeStrokes_104 (by decide) ?_
            exact ih_14581 _ _ _ _ (by omega) ⟨(z_14244 + 1), z_14631, y_14624, y_14625, y_14626, y_14627, j_14628, y_14629, y_14630, _, by omega, by omega, by omega, by omega, by omega, by omega, by omega, by omega, kr_14623_N, kr_14623_D, by omega, rfl, hP, hS, lv_sub hl [0, 1, 3] rfl, rfl⟩
      · skip
        refine lv_aload_n hx hb dX8_takeStrokes_37 rfl (lv_at hl 2 rfl) ?_
        refine cg_reader_tape hx hb hts hown hK hP uw_2_16 dX8_takeStrokes_38 ?_
        refine g_i (cDt hD) hS hA (g_V (own := "HideReader$TextReader") (As := []) (rest := []) hx hb hml hown hts hK hP (cDt hD) (kc_X7_number (l := l) (D := D) (k := k) (by omega)) ck_X7_number iv_X7_number uw_3_173 (cv_tape hK hP) rfl hl.1 rfl (Nat.le_of_ble_eq_true rfl) dX8_takeStrokes_41 ⟨Nat.le_of_ble_eq_true rfl, Nat.le_of_ble_eq_true rfl⟩ ⟨Nat.le_of_ble_eq_true rfl, Nat.le_of_ble_eq_true rfl⟩) (fun r_14632 H locs hQ hS => ?_)
        obtain ⟨hq_r_14632, hP⟩ := hQ
        obtain rfl := hq_r_14632
        refine lv_bipush (v := mI 12) hx hb dX8_takeStrokes_44 (by decide) ?_
        refine sy_icmp_ge (tgt := 61) hx hb dX8_takeStrokes_46 (by decide) (by omega) (by decide) (fun c_14634 => ?_) (fun c_14634 => ?_)
        · skip
          refine lv_iconst (v := mI 0) hx hb dX8_takeStrokes_61 rfl ?_
          refine lv_istore_n (lv' := [(3, .int (mI 0)), (2, .int (mI z_14244)), (1, .int (mI z_14245)), (0, .ref (a 31))]) hx hb dX8_takeStrokes_62 rfl hl (by decide) rfl (fun ls hl => ?_)
          refine lv_aload_n hx hb dX8_takeStrokes_63 rfl (lv_at hl 3 rfl) ?_
          refine cg_reader_tape hx hb hts hown hK hP uw_2_16 dX8_takeStrokes_64 ?_
          refine g_i (cDt hD) hS hA (g_V (own := "HideReader$TextReader") (As := []) (rest := []) hx hb hml hown hts hK hP (cDt hD) (kc_X7_kind (l := l) (D := D) (k := k) (by omega)) ck_X7_kind iv_X7_kind uw_3_155 (cv_tape hK hP) rfl hl.1 rfl (Nat.le_of_ble_eq_true rfl) dX8_takeStrokes_67 ⟨Nat.le_of_ble_eq_true rfl, Nat.le_of_ble_eq_true rfl⟩ ⟨Nat.le_of_ble_eq_true rfl, Nat.le_of_ble_eq_true rfl⟩) (fun r_14635 H locs hQ hS => ?_)
          obtain ⟨hq_r_14635, hP⟩ := hQ
          obtain rfl := hq_r_14635
          refine lv_sipush (v := mI 201) hx hb dX8_takeStrokes_70 (by decide) ?_
          refine sy_icmp_ne (tgt := 90) hx hb dX8_takeStrokes_73 (by decide) (by omega) (by decide) (fun c9 => False.elim (by omega)) (fun c_14637 => ?_)
          refine lv_iload_n hx hb dX8_takeStrokes_76 rfl (lv_at hl 2 rfl) ?_
          refine lv_iload_n hx hb dX8_takeStrokes_77 rfl (lv_at hl 0 rfl) ?_
          refine sy_iandR hx hb dX8_takeStrokes_78 (by decide) (fun z_14638 hz_14638 => ?_)
          refine sy_if_eq (tgt := 90) hx hb dX8_takeStrokes_79 (by decide) (by omega) (fun c_14639 => ?_) (fun c9 => False.elim (by omega))
          refine lv_aload_n hx hb dX8_takeStrokes_90 rfl (lv_at hl 3 rfl) ?_
          refine lv_bipush (v := mI 11) hx hb dX8_takeStrokes_91 (by decide) ?_
          refine g_i (cDt hD) hS hA (g_VX (own := "HideReader$TextReader") (As := [.int (mI 11)]) (rest := []) hx hb hml hown hts hK hP (cDt hD) (hXA hS) (kc_X8_takeNumber (l := l) (D := D) (k := k) (bX := bX) (aK := aK) (aV := aV) hbA (by decide) h_x_tape_length (by omega) (by omega) (by omega) (by omega) (by omega) (by omega) b_B_tape_bytes g_14253 g_14254) ck_X8_takeNumber iv_X8_takeNumber uw_3_177 (cv_reader hK hP) rfl hl.1 rfl (Nat.le_of_ble_eq_true rfl) dX8_takeStrokes_93 ⟨Nat.le_of_ble_eq_true rfl, Nat.le_of_ble_eq_true rfl⟩ ⟨Nat.le_of_ble_eq_true rfl, Nat.le_of_ble_eq_true rfl⟩) (fun r_14640 H locs hQ hS => ?_)
          obtain ⟨y_14641, y_14642, y_14643, y_14644, j_14645, y_14646, y_14647, hr_14640_0, hr_14640_1, hr_14640_2, hr_14640_3, hr_14640_4, hr_14640_5, hr_14640_6, hr_14640_7, hr_14640_8, hr_14640_9, kr_14640_N, kr_14640_D, hP⟩ := hQ
          refine lv_pop hx hb dX8_takeStrokes_96 rfl ?_
          refine lv_iload_n hx hb dX8_takeStrokes_97 rfl (lv_at hl 2 rfl) ?_
          refine lv_iload_n hx hb dX8_takeStrokes_98 rfl (lv_at hl 0 rfl) ?_
          refine lv_ior hx hb dX8_takeStrokes_99 ?_
          refine sy_any (fun z_14648 hz_14648 => ?_)
          refine lv_istore_n (lv' := [(1, .int (mI z_14648)), (3, .int (mI 0)), (2, .int (mI z_14244)), (0, .ref (a 31))]) hx hb dX8_takeStrokes_100 rfl hl (by decide) rfl (fun ls hl => ?_)
          refine lv_iinc (v := mI (z_14244 + 1)) (lv' := [(2, .int (mI (z_14244 + 1))), (1, .int (mI z_14648)), (3, .int (mI 0)), (0, .ref (a 31))]) hx hb dX8_takeStrokes_101 hl (k := 2) rfl (mI_ad rfl) (by decide) rfl (fun ls hl => ?_)
          refine lv_goto (tgt := 14) hx hb dX8_takeStrokes_104 (by decide) ?_
          exact ih_14581 _ _ _ _ (by omega) ⟨(z_14244 + 1), z_14648, y_14641, y_14642, y_14643, y_14644, j_14645, y_14646, y_14647, _, by omega, by omega, by omega, by omega, by omega, by omega, by omega, by omega, kr_14640_N, kr_14640_D, by omega, rfl, hP, hS, lv_sub hl [0, 1, 3] rfl, rfl⟩
        · skip
          refine lv_iconst (v := mI 1) hx hb dX8_takeStrokes_49 rfl ?_
          refine lv_aload_n hx hb dX8_takeStrokes_50 rfl (lv_at hl 2 rfl) ?_
          refine cg_reader_tape hx hb hts hown hK hP uw_2_16 dX8_takeStrokes_51 ?_
          refine g_i (cDt hD) hS hA (g_V (own := "HideReader$TextReader") (As := []) (rest := [.int (mI 1)]) hx hb hml hown hts hK hP (cDt hD) (kc_X7_number (l := l) (D := D) (k := k) (by omega)) ck_X7_number iv_X7_number uw_3_173 (cv_tape hK hP) rfl hl.1 rfl (Nat.le_of_ble_eq_true rfl) dX8_takeStrokes_54 ⟨Nat.le_of_ble_eq_true rfl, Nat.le_of_ble_eq_true rfl⟩ ⟨Nat.le_of_ble_eq_true rfl, Nat.le_of_ble_eq_true rfl⟩) (fun r_14649 H locs hQ hS => ?_)
          obtain ⟨hq_r_14649, hP⟩ := hQ
          obtain rfl := hq_r_14649
          refine sy_shl1 hx hb dX8_takeStrokes_57 11 (by decide) 2048 (by decide) (by omega) (fun z_14651 ez_14651 hz_14651 => ?_)
          refine lv_goto (tgt := 62) hx hb dX8_takeStrokes_58 (by decide) ?_
          refine lv_istore_n (lv' := [(3, .int (mI z_14651)), (2, .int (mI z_14244)), (1, .int (mI z_14245)), (0, .ref (a 31))]) hx hb dX8_takeStrokes_62 rfl hl (by decide) rfl (fun ls hl => ?_)
          refine lv_aload_n hx hb dX8_takeStrokes_63 rfl (lv_at hl 3 rfl) ?_
          refine cg_reader_tape hx hb hts hown hK hP uw_2_16 dX8_takeStrokes_64 ?_
          refine g_i (cDt hD) hS hA (g_V (own := "HideReader$TextReader") (As := []) (rest := []) hx hb hml hown hts hK hP (cDt hD) (kc_X7_kind (l := l) (D := D) (k := k) (by omega)) ck_X7_kind iv_X7_kind uw_3_155 (cv_tape hK hP) rfl hl.1 rfl (Nat.le_of_ble_eq_true rfl) dX8_takeStrokes_67 ⟨Nat.le_of_ble_eq_true rfl, Nat.le_of_ble_eq_true rfl⟩ ⟨Nat.le_of_ble_eq_true rfl, Nat.le_of_ble_eq_true rfl⟩) (fun r_14652 H locs hQ hS => ?_)
          obtain ⟨hq_r_14652, hP⟩ := hQ
          obtain rfl := hq_r_14652
          refine lv_sipush (v := mI 201) hx hb dX8_takeStrokes_70 (by decide) ?_
          refine sy_icmp_ne (tgt := 90) hx hb dX8_takeStrokes_73 (by decide) (by omega) (by decide) (fun c9 => False.elim (by omega)) (fun c_14654 => ?_)
          refine lv_iload_n hx hb dX8_takeStrokes_76 rfl (lv_at hl 2 rfl) ?_
          refine lv_iload_n hx hb dX8_takeStrokes_77 rfl (lv_at hl 0 rfl) ?_
          refine sy_iandR hx hb dX8_takeStrokes_78 (by omega) (fun z_14655 hz_14655 => ?_)
          refine sy_if_eq (tgt := 90) hx hb dX8_takeStrokes_79 (by decide) (by omega) (fun c_14656 => ?_) (fun c_14656 => ?_)
          · skip
            refine lv_aload_n hx hb dX8_takeStrokes_90 rfl (lv_at hl 3 rfl) ?_
            refine lv_bipush (v := mI 11) hx hb dX8_takeStrokes_91 (by decide) ?_
            refine g_i (cDt hD) hS hA (g_VX (own := "HideReader$TextReader") (As := [.int (mI 11)]) (rest := []) hx hb hml hown hts hK hP (cDt hD) (hXA hS) (kc_X8_takeNumber (l := l) (D := D) (k := k) (bX := bX) (aK := aK) (aV := aV) hbA (by decide) h_x_tape_length (by omega) (by omega) (by omega) (by omega) (by omega) (by omega) b_B_tape_bytes g_14253 g_14254) ck_X8_takeNumber iv_X8_takeNumber uw_3_177 (cv_reader hK hP) rfl hl.1 rfl (Nat.le_of_ble_eq_true rfl) dX8_takeStrokes_93 ⟨Nat.le_of_ble_eq_true rfl, Nat.le_of_ble_eq_true rfl⟩ ⟨Nat.le_of_ble_eq_true rfl, Nat.le_of_ble_eq_true rfl⟩) (fun r_14657 H locs hQ hS => ?_)
            obtain ⟨y_14658, y_14659, y_14660, y_14661, j_14662, y_14663, y_14664, hr_14657_0, hr_14657_1, hr_14657_2, hr_14657_3, hr_14657_4, hr_14657_5, hr_14657_6, hr_14657_7, hr_14657_8, hr_14657_9, kr_14657_N, kr_14657_D, hP⟩ := hQ
            refine lv_pop hx hb dX8_takeStrokes_96 rfl ?_
            refine lv_iload_n hx hb dX8_takeStrokes_97 rfl (lv_at hl 2 rfl) ?_
            refine lv_iload_n hx hb dX8_takeStrokes_98 rfl (lv_at hl 0 rfl) ?_
            refine lv_ior hx hb dX8_takeStrokes_99 ?_
            refine sy_any (fun z_14665 hz_14665 => ?_)
            refine lv_istore_n (lv' := [(1, .int (mI z_14665)), (3, .int (mI z_14651)), (2, .int (mI z_14244)), (0, .ref (a 31))]) hx hb dX8_takeStrokes_100 rfl hl (by decide) rfl (fun ls hl => ?_)
            refine lv_iinc (v := mI (z_14244 + 1)) (lv' := [(2, .int (mI (z_14244 + 1))), (1, .int (mI z_14665)), (3, .int (mI z_14651)), (0, .ref (a 31))]) hx hb dX8_takeStrokes_101 hl (k := 2) rfl (mI_ad rfl) (by decide) rfl (fun ls hl => ?_)
            refine lv_goto (tgt := 14) hx hb dX8_takeStrokes_104 (by decide) ?_
            exact ih_14581 _ _ _ _ (by omega) ⟨(z_14244 + 1), z_14665, y_14658, y_14659, y_14660, y_14661, j_14662, y_14663, y_14664, _, by omega, by omega, by omega, by omega, by omega, by omega, by omega, by omega, kr_14657_N, kr_14657_D, by omega, rfl, hP, hS, lv_sub hl [0, 1, 3] rfl, rfl⟩
          · skip
            refine lv_aload_n hx hb dX8_takeStrokes_82 rfl (lv_at hl 3 rfl) ?_
            refine cg_reader_tape hx hb hts hown hK hP uw_2_16 dX8_takeStrokes_83 ?_
            refine lv_iconst (v := mI 3) hx hb dX8_takeStrokes_86 rfl ?_
            refine g_v (cDt hD) hS hA (g_V (own := "HideReader$TextReader") (As := [.int (mI 3)]) (rest := []) hx hb hml hown hts hK hP (cDt hD) (kc_X7_fail (l := l) (D := D) (k := k) (by decide) (by omega) (by omega) (by omega) (by omega) g_14253 g_14254) ck_X7_fail iv_X7_fail uw_3_171 (cv_tape hK hP) rfl hl.1 rfl (Nat.le_of_ble_eq_true rfl) dX8_takeStrokes_87 ⟨Nat.le_of_ble_eq_true rfl, Nat.le_of_ble_eq_true rfl⟩ ⟨Nat.le_of_ble_eq_true rfl, Nat.le_of_ble_eq_true rfl⟩) (fun H locs hQ hS => ?_)
            obtain ⟨y_14667, y_14668, y_14669, hr_14666_0, hr_14666_1, hr_14666_2, hr_14666_3, kr_14666_N, kr_14666_D, hP⟩ := hQ
            refine lv_aload_n hx hb dX8_takeStrokes_90 rfl (lv_at hl 3 rfl) ?_
            refine lv_bipush (v := mI 11) hx hb dX8_takeStrokes_91 (by decide) ?_
            refine g_i (cDt hD) hS hA (g_VX (own := "HideReader$TextReader") (As := [.int (mI 11)]) (rest := []) hx hb hml hown hts hK hP (cDt hD) (hXA hS) (kc_X8_takeNumber (l := l) (D := D) (k := k) (bX := bX) (aK := aK) (aV := aV) hbA (by decide) h_x_tape_length (by omega) (by omega) (by omega) (by omega) (by omega) (by omega) b_B_tape_bytes kr_14666_N kr_14666_D) ck_X8_takeNumber iv_X8_takeNumber uw_3_177 (cv_reader hK hP) rfl hl.1 rfl (Nat.le_of_ble_eq_true rfl) dX8_takeStrokes_93 ⟨Nat.le_of_ble_eq_true rfl, Nat.le_of_ble_eq_true rfl⟩ ⟨Nat.le_of_ble_eq_true rfl, Nat.le_of_ble_eq_true rfl⟩) (fun r_14670 H locs hQ hS => ?_)
            obtain ⟨y_14671, y_14672, y_14673, y_14674, j_14675, y_14676, y_14677, hr_14670_0, hr_14670_1, hr_14670_2, hr_14670_3, hr_14670_4, hr_14670_5, hr_14670_6, hr_14670_7, hr_14670_8, hr_14670_9, kr_14670_N, kr_14670_D, hP⟩ := hQ
            refine lv_pop hx hb dX8_takeStrokes_96 rfl ?_
            refine lv_iload_n hx hb dX8_takeStrokes_97 rfl (lv_at hl 2 rfl) ?_
            refine lv_iload_n hx hb dX8_takeStrokes_98 rfl (lv_at hl 0 rfl) ?_
            refine lv_ior hx hb dX8_takeStrokes_99 ?_
            refine sy_any (fun z_14678 hz_14678 => ?_)
            refine lv_istore_n (lv' := [(1, .int (mI z_14678)), (3, .int (mI z_14651)), (2, .int (mI z_14244)), (0, .ref (a 31))]) hx hb dX8_takeStrokes_100 rfl hl (by decide) rfl (fun ls hl => ?_)
            refine lv_iinc (v := mI (z_14244 + 1)) (lv' := [(2, .int (mI (z_14244 + 1))), (1, .int (mI z_14678)), (3, .int (mI z_14651)), (0, .ref (a 31))]) hx hb dX8_takeStrokes_101 hl (k := 2) rfl (mI_ad rfl) (by decide) rfl (fun ls hl => ?_)
            refine lv_goto (tgt := 14) hx hb dX8_takeStrokes_104 (by decide) ?_
            exact ih_14581 _ _ _ _ (by omega) ⟨(z_14244 + 1), z_14678, y_14671, y_14672, y_14673, y_14674, j_14675, y_14676, y_14677, _, by omega, by omega, by omega, by omega, by omega, by omega, by omega, by omega, kr_14670_N, kr_14670_D, by omega, rfl, hP, hS, lv_sub hl [0, 1, 3] rfl, rfl⟩
      · skip
        refine lv_aload_n hx hb dX8_takeStrokes_37 rfl (lv_at hl 2 rfl) ?_
        refine cg_reader_tape hx hb hts hown hK hP uw_2_16 dX8_takeStrokes_38 ?_
        refine g_i (cDt hD) hS hA (g_V (own := "HideReader$TextReader") (As := []) (rest := []) hx hb hml hown hts hK hP (cDt hD) (kc_X7_number (l := l) (D := D) (k := k) (by omega)) ck_X7_number iv_X7_number uw_3_173 (cv_tape hK hP) rfl hl.1 rfl (Nat.le_of_ble_eq_true rfl) dX8_takeStrokes_41 ⟨Nat.le_of_ble_eq_true rfl, Nat.le_of_ble_eq_true rfl⟩ ⟨Nat.le_of_ble_eq_true rfl, Nat.le_of_ble_eq_true rfl⟩) (fun r_14679 H locs hQ hS => ?_)
        obtain ⟨hq_r_14679, hP⟩ := hQ
        obtain rfl := hq_r_14679
        refine lv_bipush (v := mI 12) hx hb dX8_takeStrokes_44 (by decide) ?_
        refine sy_icmp_ge (tgt := 61) hx hb dX8_takeStrokes_46 (by decide) (by omega) (by decide) (fun c_14681 => ?_) (fun c_14681 => ?_)
        · skip
          refine lv_iconst (v := mI 0) hx hb dX8_takeStrokes_61 rfl ?_
          refine lv_istore_n (lv' := [(3, .int (mI 0)), (2, .int (mI z_14244)), (1, .int (mI z_14245)), (0, .ref (a 31))]) hx hb dX8_takeStrokes_62 rfl hl (by decide) rfl (fun ls hl => ?_)
          refine lv_aload_n hx hb dX8_takeStrokes_63 rfl (lv_at hl 3 rfl) ?_
          refine cg_reader_tape hx hb hts hown hK hP uw_2_16 dX8_takeStrokes_64 ?_
          refine g_i (cDt hD) hS hA (g_V (own := "HideReader$TextReader") (As := []) (rest := []) hx hb hml hown hts hK hP (cDt hD) (kc_X7_kind (l := l) (D := D) (k := k) (by omega)) ck_X7_kind iv_X7_kind uw_3_155 (cv_tape hK hP) rfl hl.1 rfl (Nat.le_of_ble_eq_true rfl) dX8_takeStrokes_67 ⟨Nat.le_of_ble_eq_true rfl, Nat.le_of_ble_eq_true rfl⟩ ⟨Nat.le_of_ble_eq_true rfl, Nat.le_of_ble_eq_true rfl⟩) (fun r_14682 H locs hQ hS => ?_)
          obtain ⟨hq_r_14682, hP⟩ := hQ
          obtain rfl := hq_r_14682
          refine lv_sipush (v := mI 201) hx hb dX8_takeStrokes_70 (by decide) ?_
          refine sy_icmp_ne (tgt := 90) hx hb dX8_takeStrokes_73 (by decide) (by omega) (by decide) (fun c_14684 => ?_) (fun c_14684 => ?_)
          · skip
            refine lv_aload_n hx hb dX8_takeStrokes_90 rfl (lv_at hl 3 rfl) ?_
            refine lv_bipush (v := mI 11) hx hb dX8_takeStrokes_91 (by decide) ?_
            refine g_i (cDt hD) hS hA (g_VX (own := "HideReader$TextReader") (As := [.int (mI 11)]) (rest := []) hx hb hml hown hts hK hP (cDt hD) (hXA hS) (kc_X8_takeNumber (l := l) (D := D) (k := k) (bX := bX) (aK := aK) (aV := aV) hbA (by decide) h_x_tape_length (by omega) (by omega) (by omega) (by omega) (by omega) (by omega) b_B_tape_bytes g_14253 g_14254) ck_X8_takeNumber iv_X8_takeNumber uw_3_177 (cv_reader hK hP) rfl hl.1 rfl (Nat.le_of_ble_eq_true rfl) dX8_takeStrokes_93 ⟨Nat.le_of_ble_eq_true rfl, Nat.le_of_ble_eq_true rfl⟩ ⟨Nat.le_of_ble_eq_true rfl, Nat.le_of_ble_eq_true rfl⟩) (fun r_14685 H locs hQ hS => ?_)
            obtain ⟨y_14686, y_14687, y_14688, y_14689, j_14690, y_14691, y_14692, hr_14685_0, hr_14685_1, hr_14685_2, hr_14685_3, hr_14685_4, hr_14685_5, hr_14685_6, hr_14685_7, hr_14685_8, hr_14685_9, kr_14685_N, kr_14685_D, hP⟩ := hQ
            refine lv_pop hx hb dX8_takeStrokes_96 rfl ?_
            refine lv_iload_n hx hb dX8_takeStrokes_97 rfl (lv_at hl 2 rfl) ?_
            refine lv_iload_n hx hb dX8_takeStrokes_98 rfl (lv_at hl 0 rfl) ?_
            refine sy_ior hx hb dX8_takeStrokes_99 12 (by decide) 4096 (by decide) (by omega) (by omega) (fun z_14693 hz_14693 => ?_)
            refine lv_istore_n (lv' := [(1, .int (mI z_14693)), (3, .int (mI 0)), (2, .int (mI z_14244)), (0, .ref (a 31))]) hx hb dX8_takeStrokes_100 rfl hl (by decide) rfl (fun ls hl => ?_)
            refine lv_iinc (v := mI (z_14244 + 1)) (lv' := [(2, .int (mI (z_14244 + 1))), (1, .int (mI z_14693)), (3, .int (mI 0)), (0, .ref (a 31))]) hx hb dX8_takeStrokes_101 hl (k := 2) rfl (mI_ad rfl) (by decide) rfl (fun ls hl => ?_)
            refine lv_goto (tgt := 14) hx hb dX8_takeStrokes_104 (by decide) ?_
            exact ih_14581 _ _ _ _ (by omega) ⟨(z_14244 + 1), z_14693, y_14686, y_14687, y_14688, y_14689, j_14690, y_14691, y_14692, _, by omega, by omega, by omega, by omega, by omega, by omega, by omega, by omega, kr_14685_N, kr_14685_D, by omega, rfl, hP, hS, lv_sub hl [0, 1, 3] rfl, rfl⟩
          · skip
            refine lv_iload_n hx hb dX8_takeStrokes_76 rfl (lv_at hl 2 rfl) ?_
            refine lv_iload_n hx hb dX8_takeStrokes_77 rfl (lv_at hl 0 rfl) ?_
            refine sy_iandR hx hb dX8_takeStrokes_78 (by decide) (fun z_14694 hz_14694 => ?_)
            refine sy_if_eq (tgt := 90) hx hb dX8_takeStrokes_79 (by decide) (by omega) (fun c_14695 => ?_) (fun c9 => False.elim (by omega))
            refine lv_aload_n hx hb dX8_takeStrokes_90 rfl (lv_at hl 3 rfl) ?_
            refine lv_bipush (v := mI 11) hx hb dX8_takeStrokes_91 (by decide) ?_
            refine g_i (cDt hD) hS hA (g_VX (own := "HideReader$TextReader") (As := [.int (mI 11)]) (rest := []) hx hb hml hown hts hK hP (cDt hD) (hXA hS) (kc_X8_takeNumber (l := l) (D := D) (k := k) (bX := bX) (aK := aK) (aV := aV) hbA (by decide) h_x_tape_length (by omega) (by omega) (by omega) (by omega) (by omega) (by omega) b_B_tape_bytes g_14253 g_14254) ck_X8_takeNumber iv_X8_takeNumber uw_3_177 (cv_reader hK hP) rfl hl.1 rfl (Nat.le_of_ble_eq_true rfl) dX8_takeStrokes_93 ⟨Nat.le_of_ble_eq_true rfl, Nat.le_of_ble_eq_true rfl⟩ ⟨Nat.le_of_ble_eq_true rfl, Nat.le_of_ble_eq_true rfl⟩) (fun r_14696 H locs hQ hS => ?_)
            obtain ⟨y_14697, y_14698, y_14699, y_14700, j_14701, y_14702, y_14703, hr_14696_0, hr_14696_1, hr_14696_2, hr_14696_3, hr_14696_4, hr_14696_5, hr_14696_6, hr_14696_7, hr_14696_8, hr_14696_9, kr_14696_N, kr_14696_D, hP⟩ := hQ
            refine lv_pop hx hb dX8_takeStrokes_96 rfl ?_
            refine lv_iload_n hx hb dX8_takeStrokes_97 rfl (lv_at hl 2 rfl) ?_
            refine lv_iload_n hx hb dX8_takeStrokes_98 rfl (lv_at hl 0 rfl) ?_
            refine sy_ior hx hb dX8_takeStrokes_99 12 (by decide) 4096 (by decide) (by omega) (by omega) (fun z_14704 hz_14704 => ?_)
            refine lv_istore_n (lv' := [(1, .int (mI z_14704)), (3, .int (mI 0)), (2, .int (mI z_14244)), (0, .ref (a 31))]) hx hb dX8_takeStrokes_100 rfl hl (by decide) rfl (fun ls hl => ?_)
            refine lv_iinc (v := mI (z_14244 + 1)) (lv' := [(2, .int (mI (z_14244 + 1))), (1, .int (mI z_14704)), (3, .int (mI 0)), (0, .ref (a 31))]) hx hb dX8_takeStrokes_101 hl (k := 2) rfl (mI_ad rfl) (by decide) rfl (fun ls hl => ?_)
            refine lv_goto (tgt := 14) hx hb dX8_takeStrokes_104 (by decide) ?_
            exact ih_14581 _ _ _ _ (by omega) ⟨(z_14244 + 1), z_14704, y_14697, y_14698, y_14699, y_14700, j_14701, y_14702, y_14703, _, by omega, by omega, by omega, by omega, by omega, by omega, by omega, by omega, kr_14696_N, kr_14696_D, by omega, rfl, hP, hS, lv_sub hl [0, 1, 3] rfl, rfl⟩
        · skip
          refine lv_iconst (v := mI 1) hx hb dX8_takeStrokes_49 rfl ?_
          refine lv_aload_n hx hb dX8_takeStrokes_50 rfl (lv_at hl 2 rfl) ?_
          refine cg_reader_tape hx hb hts hown hK hP uw_2_16 dX8_takeStrokes_51 ?_
          refine g_i (cDt hD) hS hA (g_V (own := "HideReader$TextReader") (As := []) (rest := [.int (mI 1)]) hx hb hml hown hts hK hP (cDt hD) (kc_X7_number (l := l) (D := D) (k := k) (by omega)) ck_X7_number iv_X7_number uw_3_173 (cv_tape hK hP) rfl hl.1 rfl (Nat.le_of_ble_eq_true rfl) dX8_takeStrokes_54 ⟨Nat.le_of_ble_eq_true rfl, Nat.le_of_ble_eq_true rfl⟩ ⟨Nat.le_of_ble_eq_true rfl, Nat.le_of_ble_eq_true rfl⟩) (fun r_14705 H locs hQ hS => ?_)
          obtain ⟨hq_r_14705, hP⟩ := hQ
          obtain rfl := hq_r_14705
          refine lv_ishl hx hb dX8_takeStrokes_57 ?_
          refine sy_any (fun z_14707 hz_14707 => ?_)
          refine lv_goto (tgt := 62) hx hb dX8_takeStrokes_58 (by decide) ?_
          refine lv_istore_n (lv' := [(3, .int (mI z_14707)), (2, .int (mI z_14244)), (1, .int (mI z_14245)), (0, .ref (a 31))]) hx hb dX8_takeStrokes_62 rfl hl (by decide) rfl (fun ls hl => ?_)
          refine lv_aload_n hx hb dX8_takeStrokes_63 rfl (lv_at hl 3 rfl) ?_
          refine cg_reader_tape hx hb hts hown hK hP uw_2_16 dX8_takeStrokes_64 ?_
          refine g_i (cDt hD) hS hA (g_V (own := "HideReader$TextReader") (As := []) (rest := []) hx hb hml hown hts hK hP (cDt hD) (kc_X7_kind (l := l) (D := D) (k := k) (by omega)) ck_X7_kind iv_X7_kind uw_3_155 (cv_tape hK hP) rfl hl.1 rfl (Nat.le_of_ble_eq_true rfl) dX8_takeStrokes_67 ⟨Nat.le_of_ble_eq_true rfl, Nat.le_of_ble_eq_true rfl⟩ ⟨Nat.le_of_ble_eq_true rfl, Nat.le_of_ble_eq_true rfl⟩) (fun r_14708 H locs hQ hS => ?_)
          obtain ⟨hq_r_14708, hP⟩ := hQ
          obtain rfl := hq_r_14708
          refine lv_sipush (v := mI 201) hx hb dX8_takeStrokes_70 (by decide) ?_
          refine sy_icmp_ne (tgt := 90) hx hb dX8_takeStrokes_73 (by decide) (by omega) (by decide) (fun c_14710 => ?_) (fun c_14710 => ?_)
          · skip
            refine lv_aload_n hx hb dX8_takeStrokes_90 rfl (lv_at hl 3 rfl) ?_
            refine lv_bipush (v := mI 11) hx hb dX8_takeStrokes_91 (by decide) ?_
            refine g_i (cDt hD) hS hA (g_VX (own := "HideReader$TextReader") (As := [.int (mI 11)]) (rest := []) hx hb hml hown hts hK hP (cDt hD) (hXA hS) (kc_X8_takeNumber (l := l) (D := D) (k := k) (bX := bX) (aK := aK) (aV := aV) hbA (by decide) h_x_tape_length (by omega) (by omega) (by omega) (by omega) (by omega) (by omega) b_B_tape_bytes g_14253 g_14254) ck_X8_takeNumber iv_X8_takeNumber uw_3_177 (cv_reader hK hP) rfl hl.1 rfl (Nat.le_of_ble_eq_true rfl) dX8_takeStrokes_93 ⟨Nat.le_of_ble_eq_true rfl, Nat.le_of_ble_eq_true rfl⟩ ⟨Nat.le_of_ble_eq_true rfl, Nat.le_of_ble_eq_true rfl⟩) (fun r_14711 H locs hQ hS => ?_)
            obtain ⟨y_14712, y_14713, y_14714, y_14715, j_14716, y_14717, y_14718, hr_14711_0, hr_14711_1, hr_14711_2, hr_14711_3, hr_14711_4, hr_14711_5, hr_14711_6, hr_14711_7, hr_14711_8, hr_14711_9, kr_14711_N, kr_14711_D, hP⟩ := hQ
            refine lv_pop hx hb dX8_takeStrokes_96 rfl ?_
            refine lv_iload_n hx hb dX8_takeStrokes_97 rfl (lv_at hl 2 rfl) ?_
            refine lv_iload_n hx hb dX8_takeStrokes_98 rfl (lv_at hl 0 rfl) ?_
            refine lv_ior hx hb dX8_takeStrokes_99 ?_
            refine sy_any (fun z_14719 hz_14719 => ?_)
            refine lv_istore_n (lv' := [(1, .int (mI z_14719)), (3, .int (mI z_14707)), (2, .int (mI z_14244)), (0, .ref (a 31))]) hx hb dX8_takeStrokes_100 rfl hl (by decide) rfl (fun ls hl => ?_)
            refine lv_iinc (v := mI (z_14244 + 1)) (lv' := [(2, .int (mI (z_14244 + 1))), (1, .int (mI z_14719)), (3, .int (mI z_14707)), (0, .ref (a 31))]) hx hb dX8_takeStrokes_101 hl (k := 2) rfl (mI_ad rfl) (by decide) rfl (fun ls hl => ?_)
            refine lv_goto (tgt := 14) hx hb dX8_takeStrokes_104 (by decide) ?_
            exact ih_14581 _ _ _ _ (by omega) ⟨(z_14244 + 1), z_14719, y_14712, y_14713, y_14714, y_14715, j_14716, y_14717, y_14718, _, by omega, by omega, by omega, by omega, by omega, by omega, by omega, by omega, kr_14711_N, kr_14711_D, by omega, rfl, hP, hS, lv_sub hl [0, 1, 3] rfl, rfl⟩
          · skip
            refine lv_iload_n hx hb dX8_takeStrokes_76 rfl (lv_at hl 2 rfl) ?_
            refine lv_iload_n hx hb dX8_takeStrokes_77 rfl (lv_at hl 0 rfl) ?_
            refine sy_iandL hx hb dX8_takeStrokes_78 (by omega) (fun z_14720 hz_14720 => ?_)
            refine sy_if_eq (tgt := 90) hx hb dX8_takeStrokes_79 (by decide) (by omega) (fun c_14721 => ?_) (fun c_14721 => ?_)
            · skip
              refine lv_aload_n hx hb dX8_takeStrokes_90 rfl (lv_at hl 3 rfl) ?_
              refine lv_bipush (v := mI 11) hx hb dX8_takeStrokes_91 (by decide) ?_
              refine g_i (cDt hD) hS hA (g_VX (own := "HideReader$TextReader") (As := [.int (mI 11)]) (rest := []) hx hb hml hown hts hK hP (cDt hD) (hXA hS) (kc_X8_takeNumber (l := l) (D := D) (k := k) (bX := bX) (aK := aK) (aV := aV) hbA (by decide) h_x_tape_length (by omega) (by omega) (by omega) (by omega) (by omega) (by omega) b_B_tape_bytes g_14253 g_14254) ck_X8_takeNumber iv_X8_takeNumber uw_3_177 (cv_reader hK hP) rfl hl.1 rfl (Nat.le_of_ble_eq_true rfl) dX8_takeStrokes_93 ⟨Nat.le_of_ble_eq_true rfl, Nat.le_of_ble_eq_true rfl⟩ ⟨Nat.le_of_ble_eq_true rfl, Nat.le_of_ble_eq_true rfl⟩) (fun r_14722 H locs hQ hS => ?_)
              obtain ⟨y_14723, y_14724, y_14725, y_14726, j_14727, y_14728, y_14729, hr_14722_0, hr_14722_1, hr_14722_2, hr_14722_3, hr_14722_4, hr_14722_5, hr_14722_6, hr_14722_7, hr_14722_8, hr_14722_9, kr_14722_N, kr_14722_D, hP⟩ := hQ
              refine lv_pop hx hb dX8_takeStrokes_96 rfl ?_
              refine lv_iload_n hx hb dX8_takeStrokes_97 rfl (lv_at hl 2 rfl) ?_
              refine lv_iload_n hx hb dX8_takeStrokes_98 rfl (lv_at hl 0 rfl) ?_
              refine lv_ior hx hb dX8_takeStrokes_99 ?_
              refine sy_any (fun z_14730 hz_14730 => ?_)
              refine lv_istore_n (lv' := [(1, .int (mI z_14730)), (3, .int (mI z_14707)), (2, .int (mI z_14244)), (0, .ref (a 31))]) hx hb dX8_takeStrokes_100 rfl hl (by decide) rfl (fun ls hl => ?_)
              refine lv_iinc (v := mI (z_14244 + 1)) (lv' := [(2, .int (mI (z_14244 + 1))), (1, .int (mI z_14730)), (3, .int (mI z_14707)), (0, .ref (a 31))]) hx hb dX8_takeStrokes_101 hl (k := 2) rfl (mI_ad rfl) (by decide) rfl (fun ls hl => ?_)
              refine lv_goto (tgt := 14) hx hb dX8_takeStrokes_104 (by decide) ?_
              exact ih_14581 _ _ _ _ (by omega) ⟨(z_14244 + 1), z_14730, y_14723, y_14724, y_14725, y_14726, j_14727, y_14728, y_14729, _, by omega, by omega, by omega, by omega, by omega, by omega, by omega, by omega, kr_14722_N, kr_14722_D, by omega, rfl, hP, hS, lv_sub hl [0, 1, 3] rfl, rfl⟩
            · skip
              refine lv_aload_n hx hb dX8_takeStrokes_82 rfl (lv_at hl 3 rfl) ?_
              refine cg_reader_tape hx hb hts hown hK hP uw_2_16 dX8_takeStrokes_83 ?_
              refine lv_iconst (v := mI 3) hx hb dX8_takeStrokes_86 rfl ?_
              refine g_v (cDt hD) hS hA (g_V (own := "HideReader$TextReader") (As := [.int (mI 3)]) (rest := []) hx hb hml hown hts hK hP (cDt hD) (kc_X7_fail_vz (l := l) (D := D) (k := k) (by decide) (by omega) (by omega)) ck_X7_fail iv_X7_fail uw_3_171 (cv_tape hK hP) rfl hl.1 rfl (Nat.le_of_ble_eq_true rfl) dX8_takeStrokes_87 ⟨Nat.le_of_ble_eq_true rfl, Nat.le_of_ble_eq_true rfl⟩ ⟨Nat.le_of_ble_eq_true rfl, Nat.le_of_ble_eq_true rfl⟩) (fun H locs hQ hS => ?_)
              obtain ⟨y_14732, y_14733, y_14734, hr_14731_0, hr_14731_1, hr_14731_2, hr_14731_3, kr_14731_N, kr_14731_D, hP⟩ := hQ
              refine lv_aload_n hx hb dX8_takeStrokes_90 rfl (lv_at hl 3 rfl) ?_
              refine lv_bipush (v := mI 11) hx hb dX8_takeStrokes_91 (by decide) ?_
              refine g_i (cDt hD) hS hA (g_VX (own := "HideReader$TextReader") (As := [.int (mI 11)]) (rest := []) hx hb hml hown hts hK hP (cDt hD) (hXA hS) (kc_X8_takeNumber (l := l) (D := D) (k := k) (bX := bX) (aK := aK) (aV := aV) hbA (by decide) h_x_tape_length (by omega) (by omega) (by omega) (by omega) (by omega) (by omega) b_B_tape_bytes kr_14731_N kr_14731_D) ck_X8_takeNumber iv_X8_takeNumber uw_3_177 (cv_reader hK hP) rfl hl.1 rfl (Nat.le_of_ble_eq_true rfl) dX8_takeStrokes_93 ⟨Nat.le_of_ble_eq_true rfl, Nat.le_of_ble_eq_true rfl⟩ ⟨Nat.le_of_ble_eq_true rfl, Nat.le_of_ble_eq_true rfl⟩) (fun r_14735 H locs hQ hS => ?_)
              obtain ⟨y_14736, y_14737, y_14738, y_14739, j_14740, y_14741, y_14742, hr_14735_0, hr_14735_1, hr_14735_2, hr_14735_3, hr_14735_4, hr_14735_5, hr_14735_6, hr_14735_7, hr_14735_8, hr_14735_9, kr_14735_N, kr_14735_D, hP⟩ := hQ
              refine lv_pop hx hb dX8_takeStrokes_96 rfl ?_
              refine lv_iload_n hx hb dX8_takeStrokes_97 rfl (lv_at hl 2 rfl) ?_
              refine lv_iload_n hx hb dX8_takeStrokes_98 rfl (lv_at hl 0 rfl) ?_
              refine lv_ior hx hb dX8_takeStrokes_99 ?_
              refine sy_any (fun z_14743 hz_14743 => ?_)
              refine lv_istore_n (lv' := [(1, .int (mI z_14743)), (3, .int (mI z_14707)), (2, .int (mI z_14244)), (0, .ref (a 31))]) hx hb dX8_takeStrokes_100 rfl hl (by decide) rfl (fun ls hl => ?_)
              refine lv_iinc (v := mI (z_14244 + 1)) (lv' := [(2, .int (mI (z_14244 + 1))), (1, .int (mI z_14743)), (3, .int (mI z_14707)), (0, .ref (a 31))]) hx hb dX8_takeStrokes_101 hl (k := 2) rfl (mI_ad rfl) (by decide) rfl (fun ls hl => ?_)
              refine lv_goto (tgt := 14) hx hb dX8_takeStrokes_104 (by decide) ?_
              exact ih_14581 _ _ _ _ (by omega) ⟨(z_14244 + 1), z_14743, y_14736, y_14737, y_14738, y_14739, j_14740, y_14741, y_14742, _, by omega, by omega, by omega, by omega, by omega, by omega, by omega, by omega, kr_14735_N, kr_14735_D, by omega, rfl, hP, hS, lv_sub hl [0, 1, 3] rfl, rfl⟩
      · skip
        refine lv_aload_n hx hb dX8_takeStrokes_37 rfl (lv_at hl 2 rfl) ?_
        refine cg_reader_tape hx hb hts hown hK hP uw_2_16 dX8_takeStrokes_38 ?_
        refine g_i (cDt hD) hS hA (g_V (own := "HideReader$TextReader") (As := []) (rest := []) hx hb hml hown hts hK hP (cDt hD) (kc_X7_number (l := l) (D := D) (k := k) (by omega)) ck_X7_number iv_X7_number uw_3_173 (cv_tape hK hP) rfl hl.1 rfl (Nat.le_of_ble_eq_true rfl) dX8_takeStrokes_41 ⟨Nat.le_of_ble_eq_true rfl, Nat.le_of_ble_eq_true rfl⟩ ⟨Nat.le_of_ble_eq_true rfl, Nat.le_of_ble_eq_true rfl⟩) (fun r_14744 H locs hQ hS => ?_)
        obtain ⟨hq_r_14744, hP⟩ := hQ
        obtain rfl := hq_r_14744
        refine lv_bipush (v := mI 12) hx hb dX8_takeStrokes_44 (by decide) ?_
        refine sy_icmp_ge (tgt := 61) hx hb dX8_takeStrokes_46 (by decide) (by omega) (by decide) (fun c_14746 => ?_) (fun c_14746 => ?_)
        · skip
          refine lv_iconst (v := mI 0) hx hb dX8_takeStrokes_61 rfl ?_
          refine lv_istore_n (lv' := [(3, .int (mI 0)), (2, .int (mI z_14244)), (1, .int (mI z_14245)), (0, .ref (a 31))]) hx hb dX8_takeStrokes_62 rfl hl (by decide) rfl (fun ls hl => ?_)
          refine lv_aload_n hx hb dX8_takeStrokes_63 rfl (lv_at hl 3 rfl) ?_
          refine cg_reader_tape hx hb hts hown hK hP uw_2_16 dX8_takeStrokes_64 ?_
          refine g_i (cDt hD) hS hA (g_V (own := "HideReader$TextReader") (As := []) (rest := []) hx hb hml hown hts hK hP (cDt hD) (kc_X7_kind (l := l) (D := D) (k := k) (by omega)) ck_X7_kind iv_X7_kind uw_3_155 (cv_tape hK hP) rfl hl.1 rfl (Nat.le_of_ble_eq_true rfl) dX8_takeStrokes_67 ⟨Nat.le_of_ble_eq_true rfl, Nat.le_of_ble_eq_true rfl⟩ ⟨Nat.le_of_ble_eq_true rfl, Nat.le_of_ble_eq_true rfl⟩) (fun r_14747 H locs hQ hS => ?_)
          obtain ⟨hq_r_14747, hP⟩ := hQ
          obtain rfl := hq_r_14747
          refine lv_sipush (v := mI 201) hx hb dX8_takeStrokes_70 (by decide) ?_
          refine sy_icmp_ne (tgt := 90) hx hb dX8_takeStrokes_73 (by decide) (by omega) (by decide) (fun c_14749 => ?_) (fun c_14749 => ?_)
          · skip
            refine lv_aload_n hx hb dX8_takeStrokes_90 rfl (lv_at hl 3 rfl) ?_
            refine lv_bipush (v := mI 11) hx hb dX8_takeStrokes_91 (by decide) ?_
            refine g_i (cDt hD) hS hA (g_VX (own := "HideReader$TextReader") (As := [.int (mI 11)]) (rest := []) hx hb hml hown hts hK hP (cDt hD) (hXA hS) (kc_X8_takeNumber (l := l) (D := D) (k := k) (bX := bX) (aK := aK) (aV := aV) hbA (by decide) h_x_tape_length (by omega) (by omega) (by omega) (by omega) (by omega) (by omega) b_B_tape_bytes g_14253 g_14254) ck_X8_takeNumber iv_X8_takeNumber uw_3_177 (cv_reader hK hP) rfl hl.1 rfl (Nat.le_of_ble_eq_true rfl) dX8_takeStrokes_93 ⟨Nat.le_of_ble_eq_true rfl, Nat.le_of_ble_eq_true rfl⟩ ⟨Nat.le_of_ble_eq_true rfl, Nat.le_of_ble_eq_true rfl⟩) (fun r_14750 H locs hQ hS => ?_)
            obtain ⟨y_14751, y_14752, y_14753, y_14754, j_14755, y_14756, y_14757, hr_14750_0, hr_14750_1, hr_14750_2, hr_14750_3, hr_14750_4, hr_14750_5, hr_14750_6, hr_14750_7, hr_14750_8, hr_14750_9, kr_14750_N, kr_14750_D, hP⟩ := hQ
            refine lv_pop hx hb dX8_takeStrokes_96 rfl ?_
            refine lv_iload_n hx hb dX8_takeStrokes_97 rfl (lv_at hl 2 rfl) ?_
            refine lv_iload_n hx hb dX8_takeStrokes_98 rfl (lv_at hl 0 rfl) ?_
            refine lv_ior hx hb dX8_takeStrokes_99 ?_
            refine sy_any (fun z_14758 hz_14758 => ?_)
            refine lv_istore_n (lv' := [(1, .int (mI z_14758)), (3, .int (mI 0)), (2, .int (mI z_14244)), (0, .ref (a 31))]) hx hb dX8_takeStrokes_100 rfl hl (by decide) rfl (fun ls hl => ?_)
            refine lv_iinc (v := mI (z_14244 + 1)) (lv' := [(2, .int (mI (z_14244 + 1))), (1, .int (mI z_14758)), (3, .int (mI 0)), (0, .ref (a 31))]) hx hb dX8_takeStrokes_101 hl (k := 2) rfl (mI_ad rfl) (by decide) rfl (fun ls hl => ?_)
            refine lv_goto (tgt := 14) hx hb dX8_takeStrokes_104 (by decide) ?_
            exact ih_14581 _ _ _ _ (by omega) ⟨(z_14244 + 1), z_14758, y_14751, y_14752, y_14753, y_14754, j_14755, y_14756, y_14757, _, by omega, by omega, by omega, by omega, by omega, by omega, by omega, by omega, kr_14750_N, kr_14750_D, by omega, rfl, hP, hS, lv_sub hl [0, 1, 3] rfl, rfl⟩
          · skip
            refine lv_iload_n hx hb dX8_takeStrokes_76 rfl (lv_at hl 2 rfl) ?_
            refine lv_iload_n hx hb dX8_takeStrokes_77 rfl (lv_at hl 0 rfl) ?_
            refine sy_iandR hx hb dX8_takeStrokes_78 (by decide) (fun z_14759 hz_14759 => ?_)
            refine sy_if_eq (tgt := 90) hx hb dX8_takeStrokes_79 (by decide) (by omega) (fun c_14760 => ?_) (fun c9 => False.elim (by omega))
            refine lv_aload_n hx hb dX8_takeStrokes_90 rfl (lv_at hl 3 rfl) ?_
            refine lv_bipush (v := mI 11) hx hb dX8_takeStrokes_91 (by decide) ?_
            refine g_i (cDt hD) hS hA (g_VX (own := "HideReader$TextReader") (As := [.int (mI 11)]) (rest := []) hx hb hml hown hts hK hP (cDt hD) (hXA hS) (kc_X8_takeNumber (l := l) (D := D) (k := k) (bX := bX) (aK := aK) (aV := aV) hbA (by decide) h_x_tape_length (by omega) (by omega) (by omega) (by omega) (by omega) (by omega) b_B_tape_bytes g_14253 g_14254) ck_X8_takeNumber iv_X8_takeNumber uw_3_177 (cv_reader hK hP) rfl hl.1 rfl (Nat.le_of_ble_eq_true rfl) dX8_takeStrokes_93 ⟨Nat.le_of_ble_eq_true rfl, Nat.le_of_ble_eq_true rfl⟩ ⟨Nat.le_of_ble_eq_true rfl, Nat.le_of_ble_eq_true rfl⟩) (fun r_14761 H locs hQ hS => ?_)
            obtain ⟨y_14762, y_14763, y_14764, y_14765, j_14766, y_14767, y_14768, hr_14761_0, hr_14761_1, hr_14761_2, hr_14761_3, hr_14761_4, hr_14761_5, hr_14761_6, hr_14761_7, hr_14761_8, hr_14761_9, kr_14761_N, kr_14761_D, hP⟩ := hQ
            refine lv_pop hx hb dX8_takeStrokes_96 rfl ?_
            refine lv_iload_n hx hb dX8_takeStrokes_97 rfl (lv_at hl 2 rfl) ?_
            refine lv_iload_n hx hb dX8_takeStrokes_98 rfl (lv_at hl 0 rfl) ?_
            refine lv_ior hx hb dX8_takeStrokes_99 ?_
            refine sy_any (fun z_14769 hz_14769 => ?_)
            refine lv_istore_n (lv' := [(1, .int (mI z_14769)), (3, .int (mI 0)), (2, .int (mI z_14244)), (0, .ref (a 31))]) hx hb dX8_takeStrokes_100 rfl hl (by decide) rfl (fun ls hl => ?_)
            refine lv_iinc (v := mI (z_14244 + 1)) (lv' := [(2, .int (mI (z_14244 + 1))), (1, .int (mI z_14769)), (3, .int (mI 0)), (0, .ref (a 31))]) hx hb dX8_takeStrokes_101 hl (k := 2) rfl (mI_ad rfl) (by decide) rfl (fun ls hl => ?_)
            refine lv_goto (tgt := 14) hx hb dX8_takeStrokes_104 (by decide) ?_
            exact ih_14581 _ _ _ _ (by omega) ⟨(z_14244 + 1), z_14769, y_14762, y_14763, y_14764, y_14765, j_14766, y_14767, y_14768, _, by omega, by omega, by omega, by omega, by omega, by omega, by omega, by omega, kr_14761_N, kr_14761_D, by omega, rfl, hP, hS, lv_sub hl [0, 1, 3] rfl, rfl⟩
        · skip
          refine lv_iconst (v := mI 1) hx hb dX8_takeStrokes_49 rfl ?_
          refine lv_aload_n hx hb dX8_takeStrokes_50 rfl (lv_at hl 2 rfl) ?_
          refine cg_reader_tape hx hb hts hown hK hP uw_2_16 dX8_takeStrokes_51 ?_
          refine g_i (cDt hD) hS hA (g_V (own := "HideReader$TextReader") (As := []) (rest := [.int (mI 1)]) hx hb hml hown hts hK hP (cDt hD) (kc_X7_number (l := l) (D := D) (k := k) (by omega)) ck_X7_number iv_X7_number uw_3_173 (cv_tape hK hP) rfl hl.1 rfl (Nat.le_of_ble_eq_true rfl) dX8_takeStrokes_54 ⟨Nat.le_of_ble_eq_true rfl, Nat.le_of_ble_eq_true rfl⟩ ⟨Nat.le_of_ble_eq_true rfl, Nat.le_of_ble_eq_true rfl⟩) (fun r_14770 H locs hQ hS => ?_)
          obtain ⟨hq_r_14770, hP⟩ := hQ
          obtain rfl := hq_r_14770
          refine lv_ishl hx hb dX8_takeStrokes_57 ?_
          refine sy_any (fun z_14772 hz_14772 => ?_)
          refine lv_goto (tgt := 62) hx hb dX8_takeStrokes_58 (by decide) ?_
          refine lv_istore_n (lv' := [(3, .int (mI z_14772)), (2, .int (mI z_14244)), (1, .int (mI z_14245)), (0, .ref (a 31))]) hx hb dX8_takeStrokes_62 rfl hl (by decide) rfl (fun ls hl => ?_)
          refine lv_aload_n hx hb dX8_takeStrokes_63 rfl (lv_at hl 3 rfl) ?_
          refine cg_reader_tape hx hb hts hown hK hP uw_2_16 dX8_takeStrokes_64 ?_
          refine g_i (cDt hD) hS hA (g_V (own := "HideReader$TextReader") (As := []) (rest := []) hx hb hml hown hts hK hP (cDt hD) (kc_X7_kind (l := l) (D := D) (k := k) (by omega)) ck_X7_kind iv_X7_kind uw_3_155 (cv_tape hK hP) rfl hl.1 rfl (Nat.le_of_ble_eq_true rfl) dX8_takeStrokes_67 ⟨Nat.le_of_ble_eq_true rfl, Nat.le_of_ble_eq_true rfl⟩ ⟨Nat.le_of_ble_eq_true rfl, Nat.le_of_ble_eq_true rfl⟩) (fun r_14773 H locs hQ hS => ?_)
          obtain ⟨hq_r_14773, hP⟩ := hQ
          obtain rfl := hq_r_14773
          refine lv_sipush (v := mI 201) hx hb dX8_takeStrokes_70 (by decide) ?_
          refine sy_icmp_ne (tgt := 90) hx hb dX8_takeStrokes_73 (by decide) (by omega) (by decide) (fun c_14775 => ?_) (fun c_14775 => ?_)
          · skip
            refine lv_aload_n hx hb dX8_takeStrokes_90 rfl (lv_at hl 3 rfl) ?_
            refine lv_bipush (v := mI 11) hx hb dX8_takeStrokes_91 (by decide) ?_
            refine g_i (cDt hD) hS hA (g_VX (own := "HideReader$TextReader") (As := [.int (mI 11)]) (rest := []) hx hb hml hown hts hK hP (cDt hD) (hXA hS) (kc_X8_takeNumber (l := l) (D := D) (k := k) (bX := bX) (aK := aK) (aV := aV) hbA (by decide) h_x_tape_length (by omega) (by omega) (by omega) (by omega) (by omega) (by omega) b_B_tape_bytes g_14253 g_14254) ck_X8_takeNumber iv_X8_takeNumber uw_3_177 (cv_reader hK hP) rfl hl.1 rfl (Nat.le_of_ble_eq_true rfl) dX8_takeStrokes_93 ⟨Nat.le_of_ble_eq_true rfl, Nat.le_of_ble_eq_true rfl⟩ ⟨Nat.le_of_ble_eq_true rfl, Nat.le_of_ble_eq_true rfl⟩) (fun r_14776 H locs hQ hS => ?_)
            obtain ⟨y_14777, y_14778, y_14779, y_14780, j_14781, y_14782, y_14783, hr_14776_0, hr_14776_1, hr_14776_2, hr_14776_3, hr_14776_4, hr_14776_5, hr_14776_6, hr_14776_7, hr_14776_8, hr_14776_9, kr_14776_N, kr_14776_D, hP⟩ := hQ
            refine lv_pop hx hb dX8_takeStrokes_96 rfl ?_
            refine lv_iload_n hx hb dX8_takeStrokes_97 rfl (lv_at hl 2 rfl) ?_
            refine lv_iload_n hx hb dX8_takeStrokes_98 rfl (lv_at hl 0 rfl) ?_
            refine lv_ior hx hb dX8_takeStrokes_99 ?_
            refine sy_any (fun z_14784 hz_14784 => ?_)
            refine lv_istore_n (lv' := [(1, .int (mI z_14784)), (3, .int (mI z_14772)), (2, .int (mI z_14244)), (0, .ref (a 31))]) hx hb dX8_takeStrokes_100 rfl hl (by decide) rfl (fun ls hl => ?_)
            refine lv_iinc (v := mI (z_14244 + 1)) (lv' := [(2, .int (mI (z_14244 + 1))), (1, .int (mI z_14784)), (3, .int (mI z_14772)), (0, .ref (a 31))]) hx hb dX8_takeStrokes_101 hl (k := 2) rfl (mI_ad rfl) (by decide) rfl (fun ls hl => ?_)
            refine lv_goto (tgt := 14) hx hb dX8_takeStrokes_104 (by decide) ?_
            exact ih_14581 _ _ _ _ (by omega) ⟨(z_14244 + 1), z_14784, y_14777, y_14778, y_14779, y_14780, j_14781, y_14782, y_14783, _, by omega, by omega, by omega, by omega, by omega, by omega, by omega, by omega, kr_14776_N, kr_14776_D, by omega, rfl, hP, hS, lv_sub hl [0, 1, 3] rfl, rfl⟩
          · skip
            refine lv_iload_n hx hb dX8_takeStrokes_76 rfl (lv_at hl 2 rfl) ?_
            refine lv_iload_n hx hb dX8_takeStrokes_77 rfl (lv_at hl 0 rfl) ?_
            refine lv_iand hx hb dX8_takeStrokes_78 ?_
            refine sy_any (fun z_14785 hz_14785 => ?_)
            refine sy_if_eq (tgt := 90) hx hb dX8_takeStrokes_79 (by decide) (by omega) (fun c_14786 => ?_) (fun c_14786 => ?_)
            · skip
              refine lv_aload_n hx hb dX8_takeStrokes_90 rfl (lv_at hl 3 rfl) ?_
              refine lv_bipush (v := mI 11) hx hb dX8_takeStrokes_91 (by decide) ?_
              refine g_i (cDt hD) hS hA (g_VX (own := "HideReader$TextReader") (As := [.int (mI 11)]) (rest := []) hx hb hml hown hts hK hP (cDt hD) (hXA hS) (kc_X8_takeNumber (l := l) (D := D) (k := k) (bX := bX) (aK := aK) (aV := aV) hbA (by decide) h_x_tape_length (by omega) (by omega) (by omega) (by omega) (by omega) (by omega) b_B_tape_bytes g_14253 g_14254) ck_X8_takeNumber iv_X8_takeNumber uw_3_177 (cv_reader hK hP) rfl hl.1 rfl (Nat.le_of_ble_eq_true rfl) dX8_takeStrokes_93 ⟨Nat.le_of_ble_eq_true rfl, Nat.le_of_ble_eq_true rfl⟩ ⟨Nat.le_of_ble_eq_true rfl, Nat.le_of_ble_eq_true rfl⟩) (fun r_14787 H locs hQ hS => ?_)
              obtain ⟨y_14788, y_14789, y_14790, y_14791, j_14792, y_14793, y_14794, hr_14787_0, hr_14787_1, hr_14787_2, hr_14787_3, hr_14787_4, hr_14787_5, hr_14787_6, hr_14787_7, hr_14787_8, hr_14787_9, kr_14787_N, kr_14787_D, hP⟩ := hQ
              refine lv_pop hx hb dX8_takeStrokes_96 rfl ?_
              refine lv_iload_n hx hb dX8_takeStrokes_97 rfl (lv_at hl 2 rfl) ?_
              refine lv_iload_n hx hb dX8_takeStrokes_98 rfl (lv_at hl 0 rfl) ?_
              refine lv_ior hx hb dX8_takeStrokes_99 ?_
              refine sy_any (fun z_14795 hz_14795 => ?_)
              refine lv_istore_n (lv' := [(1, .int (mI z_14795)), (3, .int (mI z_14772)), (2, .int (mI z_14244)), (0, .ref (a 31))]) hx hb dX8_takeStrokes_100 rfl hl (by decide) rfl (fun ls hl => ?_)
              refine lv_iinc (v := mI (z_14244 + 1)) (lv' := [(2, .int (mI (z_14244 + 1))), (1, .int (mI z_14795)), (3, .int (mI z_14772)), (0, .ref (a 31))]) hx hb dX8_takeStrokes_101 hl (k := 2) rfl (mI_ad rfl) (by decide) rfl (fun ls hl => ?_)
              refine lv_goto (tgt := 14) hx hb dX8_takeStrokes_104 (by decide) ?_
              exact ih_14581 _ _ _ _ (by omega) ⟨(z_14244 + 1), z_14795, y_14788, y_14789, y_14790, y_14791, j_14792, y_14793, y_14794, _, by omega, by omega, by omega, by omega, by omega, by omega, by omega, by omega, kr_14787_N, kr_14787_D, by omega, rfl, hP, hS, lv_sub hl [0, 1, 3] rfl, rfl⟩
            · skip
              refine lv_aload_n hx hb dX8_takeStrokes_82 rfl (lv_at hl 3 rfl) ?_
              refine cg_reader_tape hx hb hts hown hK hP uw_2_16 dX8_takeStrokes_83 ?_
              refine lv_iconst (v := mI 3) hx hb dX8_takeStrokes_86 rfl ?_
              refine g_v (cDt hD) hS hA (g_V (own := "HideReader$TextReader") (As := [.int (mI 3)]) (rest := []) hx hb hml hown hts hK hP (cDt hD) (kc_X7_fail (l := l) (D := D) (k := k) (by decide) (by omega) (by omega) (by omega) (by omega) g_14253 g_14254) ck_X7_fail iv_X7_fail uw_3_171 (cv_tape hK hP) rfl hl.1 rfl (Nat.le_of_ble_eq_true rfl) dX8_takeStrokes_87 ⟨Nat.le_of_ble_eq_true rfl, Nat.le_of_ble_eq_true rfl⟩ ⟨Nat.le_of_ble_eq_true rfl, Nat.le_of_ble_eq_true rfl⟩) (fun H locs hQ hS => ?_)
              obtain ⟨y_14797, y_14798, y_14799, hr_14796_0, hr_14796_1, hr_14796_2, hr_14796_3, kr_14796_N, kr_14796_D, hP⟩ := hQ
              refine lv_aload_n hx hb dX8_takeStrokes_90 rfl (lv_at hl 3 rfl) ?_
              refine lv_bipush (v := mI 11) hx hb dX8_takeStrokes_91 (by decide) ?_
              refine g_i (cDt hD) hS hA (g_VX (own := "HideReader$TextReader") (As := [.int (mI 11)]) (rest := []) hx hb hml hown hts hK hP (cDt hD) (hXA hS) (kc_X8_takeNumber (l := l) (D := D) (k := k) (bX := bX) (aK := aK) (aV := aV) hbA (by decide) h_x_tape_length (by omega) (by omega) (by omega) (by omega) (by omega) (by omega) b_B_tape_bytes kr_14796_N kr_14796_D) ck_X8_takeNumber iv_X8_takeNumber uw_3_177 (cv_reader hK hP) rfl hl.1 rfl (Nat.le_of_ble_eq_true rfl) dX8_takeStrokes_93 ⟨Nat.le_of_ble_eq_true rfl, Nat.le_of_ble_eq_true rfl⟩ ⟨Nat.le_of_ble_eq_true rfl, Nat.le_of_ble_eq_true rfl⟩) (fun r_14800 H locs hQ hS => ?_)
              obtain ⟨y_14801, y_14802, y_14803, y_14804, j_14805, y_14806, y_14807, hr_14800_0, hr_14800_1, hr_14800_2, hr_14800_3, hr_14800_4, hr_14800_5, hr_14800_6, hr_14800_7, hr_14800_8, hr_14800_9, kr_14800_N, kr_14800_D, hP⟩ := hQ
              refine lv_pop hx hb dX8_takeStrokes_96 rfl ?_
              refine lv_iload_n hx hb dX8_takeStrokes_97 rfl (lv_at hl 2 rfl) ?_
              refine lv_iload_n hx hb dX8_takeStrokes_98 rfl (lv_at hl 0 rfl) ?_
              refine lv_ior hx hb dX8_takeStrokes_99 ?_
              refine sy_any (fun z_14808 hz_14808 => ?_)
              refine lv_istore_n (lv' := [(1, .int (mI z_14808)), (3, .int (mI z_14772)), (2, .int (mI z_14244)), (0, .ref (a 31))]) hx hb dX8_takeStrokes_100 rfl hl (by decide) rfl (fun ls hl => ?_)
              refine lv_iinc (v := mI (z_14244 + 1)) (lv' := [(2, .int (mI (z_14244 + 1))), (1, .int (mI z_14808)), (3, .int (mI z_14772)), (0, .ref (a 31))]) hx hb dX8_takeStrokes_101 hl (k := 2) rfl (mI_ad rfl) (by decide) rfl (fun ls hl => ?_)
              refine lv_goto (tgt := 14) hx hb dX8_takeStrokes_104 (by decide) ?_
              exact ih_14581 _ _ _ _ (by omega) ⟨(z_14244 + 1), z_14808, y_14801, y_14802, y_14803, y_14804, j_14805, y_14806, y_14807, _, by omega, by omega, by omega, by omega, by omega, by omega, by omega, by omega, kr_14800_N, kr_14800_D, by omega, rfl, hP, hS, lv_sub hl [0, 1, 3] rfl, rfl⟩
    · skip
      refine lv_aload_n hx hb dX8_takeStrokes_24 rfl (lv_at hl 2 rfl) ?_
      refine cg_reader_tape hx hb hts hown hK hP uw_2_16 dX8_takeStrokes_25 ?_
      refine g_i (cDt hD) hS hA (g_V (own := "HideReader$TextReader") (As := []) (rest := []) hx hb hml hown hts hK hP (cDt hD) (kc_X7_kind (l := l) (D := D) (k := k) (by omega)) ck_X7_kind iv_X7_kind uw_3_155 (cv_tape hK hP) rfl hl.1 rfl (Nat.le_of_ble_eq_true rfl) dX8_takeStrokes_28 ⟨Nat.le_of_ble_eq_true rfl, Nat.le_of_ble_eq_true rfl⟩ ⟨Nat.le_of_ble_eq_true rfl, Nat.le_of_ble_eq_true rfl⟩) (fun r_14809 H locs hQ hS => ?_)
      obtain ⟨hq_r_14809, hP⟩ := hQ
      obtain rfl := hq_r_14809
      refine lv_sipush (v := mI 201) hx hb dX8_takeStrokes_31 (by decide) ?_
      refine sy_icmp_ne (tgt := 107) hx hb dX8_takeStrokes_34 (by decide) (by omega) (by decide) (fun c_14811 => ?_) (fun c_14811 => ?_)
      · skip
        refine lv_iload_n hx hb dX8_takeStrokes_107 rfl (lv_at hl 1 rfl) ?_
        exact r_i hx hb hr hlocks dX8_takeStrokes_108 hS ⟨y_14246, y_14247, y_14248, y_14249, j_14250, y_14251, y_14252, by omega, by omega, by omega, by omega, by omega, by omega, by omega, by omega, g_14253, g_14254, hP⟩
      · skip
        rcases (by omega : ((y_14247 = 201 ∧ 0 ≤ y_14249) ∨ ¬ y_14247 = 201) ∧ ((y_14251 = 0 ∧ 0 ≤ z_14245 ∧ z_14245 ≤ 4095) ∨ 1 ≤ y_14251)) with ⟨c_14812a | c_14812a, c_14812b | c_14812b⟩
        · skip
          refine lv_aload_n hx hb dX8_takeStrokes_37 rfl (lv_at hl 2 rfl) ?_
          refine cg_reader_tape hx hb hts hown hK hP uw_2_16 dX8_takeStrokes_38 ?_
          refine g_i (cDt hD) hS hA (g_V (own := "HideReader$TextReader") (As := []) (rest := []) hx hb hml hown hts hK hP (cDt hD) (kc_X7_number (l := l) (D := D) (k := k) (by omega)) ck_X7_number iv_X7_number uw_3_173 (cv_tape hK hP) rfl hl.1 rfl (Nat.le_of_ble_eq_true rfl) dX8_takeStrokes_41 ⟨Nat.le_of_ble_eq_true rfl, Nat.le_of_ble_eq_true rfl⟩ ⟨Nat.le_of_ble_eq_true rfl, Nat.le_of_ble_eq_true rfl⟩) (fun r_14813 H locs hQ hS => ?_)
          obtain ⟨hq_r_14813, hP⟩ := hQ
          obtain rfl := hq_r_14813
          refine lv_bipush (v := mI 12) hx hb dX8_takeStrokes_44 (by decide) ?_
          refine sy_icmp_ge (tgt := 61) hx hb dX8_takeStrokes_46 (by decide) (by omega) (by decide) (fun c_14815 => ?_) (fun c_14815 => ?_)
          · skip
            refine lv_iconst (v := mI 0) hx hb dX8_takeStrokes_61 rfl ?_
            refine lv_istore_n (lv' := [(3, .int (mI 0)), (2, .int (mI z_14244)), (1, .int (mI z_14245)), (0, .ref (a 31))]) hx hb dX8_takeStrokes_62 rfl hl (by decide) rfl (fun ls hl => ?_)
            refine lv_aload_n hx hb dX8_takeStrokes_63 rfl (lv_at hl 3 rfl) ?_
            refine cg_reader_tape hx hb hts hown hK hP uw_2_16 dX8_takeStrokes_64 ?_
            refine g_i (cDt hD) hS hA (g_V (own := "HideReader$TextReader") (As := []) (rest := []) hx hb hml hown hts hK hP (cDt hD) (kc_X7_kind (l := l) (D := D) (k := k) (by omega)) ck_X7_kind iv_X7_kind uw_3_155 (cv_tape hK hP) rfl hl.1 rfl (Nat.le_of_ble_eq_true rfl) dX8_takeStrokes_67 ⟨Nat.le_of_ble_eq_true rfl, Nat.le_of_ble_eq_true rfl⟩ ⟨Nat.le_of_ble_eq_true rfl, Nat.le_of_ble_eq_true rfl⟩) (fun r_14816 H locs hQ hS => ?_)
            obtain ⟨hq_r_14816, hP⟩ := hQ
            obtain rfl := hq_r_14816
            refine lv_sipush (v := mI 201) hx hb dX8_takeStrokes_70 (by decide) ?_
            refine sy_icmp_ne (tgt := 90) hx hb dX8_takeStrokes_73 (by decide) (by omega) (by decide) (fun c9 => False.elim (by omega)) (fun c_14818 => ?_)
            refine lv_iload_n hx hb dX8_takeStrokes_76 rfl (lv_at hl 2 rfl) ?_
            refine lv_iload_n hx hb dX8_takeStrokes_77 rfl (lv_at hl 0 rfl) ?_
            refine sy_iandR hx hb dX8_takeStrokes_78 (by decide) (fun z_14819 hz_14819 => ?_)
            refine sy_if_eq (tgt := 90) hx hb dX8_takeStrokes_79 (by decide) (by omega) (fun c_14820 => ?_) (fun c9 => False.elim (by omega))
            refine lv_aload_n hx hb dX8_takeStrokes_90 rfl (lv_at hl 3 rfl) ?_
            refine lv_bipush (v := mI 11) hx hb dX8_takeStrokes_91 (by decide) ?_
            refine g_i (cDt hD) hS hA (g_VX (own := "HideReader$TextReader") (As := [.int (mI 11)]) (rest := []) hx hb hml hown hts hK hP (cDt hD) (hXA hS) (kc_X8_takeNumber (l := l) (D := D) (k := k) (bX := bX) (aK := aK) (aV := aV) hbA (by decide) h_x_tape_length (by omega) (by omega) (by omega) (by omega) (by omega) (by omega) b_B_tape_bytes g_14253 g_14254) ck_X8_takeNumber iv_X8_takeNumber uw_3_177 (cv_reader hK hP) rfl hl.1 rfl (Nat.le_of_ble_eq_true rfl) dX8_takeStrokes_93 ⟨Nat.le_of_ble_eq_true rfl, Nat.le_of_ble_eq_true rfl⟩ ⟨Nat.le_of_ble_eq_true rfl, Nat.le_of_ble_eq_true rfl⟩) (fun r_14821 H locs hQ hS => ?_)
            obtain ⟨y_14822, y_14823, y_14824, y_14825, j_14826, y_14827, y_14828, hr_14821_0, hr_14821_1, hr_14821_2, hr_14821_3, hr_14821_4, hr_14821_5, hr_14821_6, hr_14821_7, hr_14821_8, hr_14821_9, kr_14821_N, kr_14821_D, hP⟩ := hQ
            refine lv_pop hx hb dX8_takeStrokes_96 rfl ?_
            refine lv_iload_n hx hb dX8_takeStrokes_97 rfl (lv_at hl 2 rfl) ?_
            refine lv_iload_n hx hb dX8_takeStrokes_98 rfl (lv_at hl 0 rfl) ?_
            refine sy_ior hx hb dX8_takeStrokes_99 12 (by decide) 4096 (by decide) (by omega) (by omega) (fun z_14829 hz_14829 => ?_)
            refine lv_istore_n (lv' := [(1, .int (mI z_14829)), (3, .int (mI 0)), (2, .int (mI z_14244)), (0, .ref (a 31))]) hx hb dX8_takeStrokes_100 rfl hl (by decide) rfl (fun ls hl => ?_)
            refine lv_iinc (v := mI (z_14244 + 1)) (lv' := [(2, .int (mI (z_14244 + 1))), (1, .int (mI z_14829)), (3, .int (mI 0)), (0, .ref (a 31))]) hx hb dX8_takeStrokes_101 hl (k := 2) rfl (mI_ad rfl) (by decide) rfl (fun ls hl => ?_)
            refine lv_goto (tgt := 14) hx hb dX8_takeStrokes_104 (by decide) ?_
            exact ih_14581 _ _ _ _ (by omega) ⟨(z_14244 + 1), z_14829, y_14822, y_14823, y_14824, y_14825, j_14826, y_14827, y_14828, _, by omega, by omega, by omega, by omega, by omega, by omega, by omega, by omega, kr_14821_N, kr_14821_D, by omega, rfl, hP, hS, lv_sub hl [0, 1, 3] rfl, rfl⟩
          · skip
            refine lv_iconst (v := mI 1) hx hb dX8_takeStrokes_49 rfl ?_
            refine lv_aload_n hx hb dX8_takeStrokes_50 rfl (lv_at hl 2 rfl) ?_
            refine cg_reader_tape hx hb hts hown hK hP uw_2_16 dX8_takeStrokes_51 ?_
            refine g_i (cDt hD) hS hA (g_V (own := "HideReader$TextReader") (As := []) (rest := [.int (mI 1)]) hx hb hml hown hts hK hP (cDt hD) (kc_X7_number (l := l) (D := D) (k := k) (by omega)) ck_X7_number iv_X7_number uw_3_173 (cv_tape hK hP) rfl hl.1 rfl (Nat.le_of_ble_eq_true rfl) dX8_takeStrokes_54 ⟨Nat.le_of_ble_eq_true rfl, Nat.le_of_ble_eq_true rfl⟩ ⟨Nat.le_of_ble_eq_true rfl, Nat.le_of_ble_eq_true rfl⟩) (fun r_14830 H locs hQ hS => ?_)
            obtain ⟨hq_r_14830, hP⟩ := hQ
            obtain rfl := hq_r_14830
            refine sy_shl1 hx hb dX8_takeStrokes_57 11 (by decide) 2048 (by decide) (by omega) (fun z_14832 ez_14832 hz_14832 => ?_)
            refine lv_goto (tgt := 62) hx hb dX8_takeStrokes_58 (by decide) ?_
            refine lv_istore_n (lv' := [(3, .int (mI z_14832)), (2, .int (mI z_14244)), (1, .int (mI z_14245)), (0, .ref (a 31))]) hx hb dX8_takeStrokes_62 rfl hl (by decide) rfl (fun ls hl => ?_)
            refine lv_aload_n hx hb dX8_takeStrokes_63 rfl (lv_at hl 3 rfl) ?_
            refine cg_reader_tape hx hb hts hown hK hP uw_2_16 dX8_takeStrokes_64 ?_
            refine g_i (cDt hD) hS hA (g_V (own := "HideReader$TextReader") (As := []) (rest := []) hx hb hml hown hts hK hP (cDt hD) (kc_X7_kind (l := l) (D := D) (k := k) (by omega)) ck_X7_kind iv_X7_kind uw_3_155 (cv_tape hK hP) rfl hl.1 rfl (Nat.le_of_ble_eq_true rfl) dX8_takeStrokes_67 ⟨Nat.le_of_ble_eq_true rfl, Nat.le_of_ble_eq_true rfl⟩ ⟨Nat.le_of_ble_eq_true rfl, Nat.le_of_ble_eq_true rfl⟩) (fun r_14833 H locs hQ hS => ?_)
            obtain ⟨hq_r_14833, hP⟩ := hQ
            obtain rfl := hq_r_14833
            refine lv_sipush (v := mI 201) hx hb dX8_takeStrokes_70 (by decide) ?_
            refine sy_icmp_ne (tgt := 90) hx hb dX8_takeStrokes_73 (by decide) (by omega) (by decide) (fun c9 => False.elim (by omega)) (fun c_14835 => ?_)
            refine lv_iload_n hx hb dX8_takeStrokes_76 rfl (lv_at hl 2 rfl) ?_
            refine lv_iload_n hx hb dX8_takeStrokes_77 rfl (lv_at hl 0 rfl) ?_
            refine sy_iandR hx hb dX8_takeStrokes_78 (by omega) (fun z_14836 hz_14836 => ?_)
            refine sy_if_eq (tgt := 90) hx hb dX8_takeStrokes_79 (by decide) (by omega) (fun c_14837 => ?_) (fun c_14837 => ?_)
            · skip
              refine lv_aload_n hx hb dX8_takeStrokes_90 rfl (lv_at hl 3 rfl) ?_
              refine lv_bipush (v := mI 11) hx hb dX8_takeStrokes_91 (by decide) ?_
              refine g_i (cDt hD) hS hA (g_VX (own := "HideReader$TextReader") (As := [.int (mI 11)]) (rest := []) hx hb hml hown hts hK hP (cDt hD) (hXA hS) (kc_X8_takeNumber (l := l) (D := D) (k := k) (bX := bX) (aK := aK) (aV := aV) hbA (by decide) h_x_tape_length (by omega) (by omega) (by omega) (by omega) (by omega) (by omega) b_B_tape_bytes g_14253 g_14254) ck_X8_takeNumber iv_X8_takeNumber uw_3_177 (cv_reader hK hP) rfl hl.1 rfl (Nat.le_of_ble_eq_true rfl) dX8_takeStrokes_93 ⟨Nat.le_of_ble_eq_true rfl, Nat.le_of_ble_eq_true rfl⟩ ⟨Nat.le_of_ble_eq_true rfl, Nat.le_of_ble_eq_true rfl⟩) (fun r_14838 H locs hQ hS => ?_)
              obtain ⟨y_14839, y_14840, y_14841, y_14842, j_14843, y_14844, y_14845, hr_14838_0, hr_14838_1, hr_14838_2, hr_14838_3, hr_14838_4, hr_14838_5, hr_14838_6, hr_14838_7, hr_14838_8, hr_14838_9, kr_14838_N, kr_14838_D, hP⟩ := hQ
              refine lv_pop hx hb dX8_takeStrokes_96 rfl ?_
              refine lv_iload_n hx hb dX8_takeStrokes_97 rfl (lv_at hl 2 rfl) ?_
              refine lv_iload_n hx hb dX8_takeStrokes_98 rfl (lv_at hl 0 rfl) ?_
              refine sy_ior hx hb dX8_takeStrokes_99 12 (by decide) 4096 (by decide) (by omega) (by omega) (fun z_14846 hz_14846 => ?_)
              refine lv_istore_n (lv' := [(1, .int (mI z_14846)), (3, .int (mI z_14832)), (2, .int (mI z_14244)), (0, .ref (a 31))]) hx hb dX8_takeStrokes_100 rfl hl (by decide) rfl (fun ls hl => ?_)
              refine lv_iinc (v := mI (z_14244 + 1)) (lv' := [(2, .int (mI (z_14244 + 1))), (1, .int (mI z_14846)), (3, .int (mI z_14832)), (0, .ref (a 31))]) hx hb dX8_takeStrokes_101 hl (k := 2) rfl (mI_ad rfl) (by decide) rfl (fun ls hl => ?_)
              refine lv_goto (tgt := 14) hx hb dX8_takeStrokes_104 (by decide) ?_
              exact ih_14581 _ _ _ _ (by omega) ⟨(z_14244 + 1), z_14846, y_14839, y_14840, y_14841, y_14842, j_14843, y_14844, y_14845, _, by omega, by omega, by omega, by omega, by omega, by omega, by omega, by omega, kr_14838_N, kr_14838_D, by omega, rfl, hP, hS, lv_sub hl [0, 1, 3] rfl, rfl⟩
            · skip
              refine lv_aload_n hx hb dX8_takeStrokes_82 rfl (lv_at hl 3 rfl) ?_
              refine cg_reader_tape hx hb hts hown hK hP uw_2_16 dX8_takeStrokes_83 ?_
              refine lv_iconst (v := mI 3) hx hb dX8_takeStrokes_86 rfl ?_
              refine g_v (cDt hD) hS hA (g_V (own := "HideReader$TextReader") (As := [.int (mI 3)]) (rest := []) hx hb hml hown hts hK hP (cDt hD) (kc_X7_fail_vz (l := l) (D := D) (k := k) (by decide) (by omega) (by omega)) ck_X7_fail iv_X7_fail uw_3_171 (cv_tape hK hP) rfl hl.1 rfl (Nat.le_of_ble_eq_true rfl) dX8_takeStrokes_87 ⟨Nat.le_of_ble_eq_true rfl, Nat.le_of_ble_eq_true rfl⟩ ⟨Nat.le_of_ble_eq_true rfl, Nat.le_of_ble_eq_true rfl⟩) (fun H locs hQ hS => ?_)
              obtain ⟨y_14848, y_14849, y_14850, hr_14847_0, hr_14847_1, hr_14847_2, hr_14847_3, kr_14847_N, kr_14847_D, hP⟩ := hQ
              refine lv_aload_n hx hb dX8_takeStrokes_90 rfl (lv_at hl 3 rfl) ?_
              refine lv_bipush (v := mI 11) hx hb dX8_takeStrokes_91 (by decide) ?_
              refine g_i (cDt hD) hS hA (g_VX (own := "HideReader$TextReader") (As := [.int (mI 11)]) (rest := []) hx hb hml hown hts hK hP (cDt hD) (hXA hS) (kc_X8_takeNumber (l := l) (D := D) (k := k) (bX := bX) (aK := aK) (aV := aV) hbA (by decide) h_x_tape_length (by omega) (by omega) (by omega) (by omega) (by omega) (by omega) b_B_tape_bytes kr_14847_N kr_14847_D) ck_X8_takeNumber iv_X8_takeNumber uw_3_177 (cv_reader hK hP) rfl hl.1 rfl (Nat.le_of_ble_eq_true rfl) dX8_takeStrokes_93 ⟨Nat.le_of_ble_eq_true rfl, Nat.le_of_ble_eq_true rfl⟩ ⟨Nat.le_of_ble_eq_true rfl, Nat.le_of_ble_eq_true rfl⟩) (fun r_14851 H locs hQ hS => ?_)
              obtain ⟨y_14852, y_14853, y_14854, y_14855, j_14856, y_14857, y_14858, hr_14851_0, hr_14851_1, hr_14851_2, hr_14851_3, hr_14851_4, hr_14851_5, hr_14851_6, hr_14851_7, hr_14851_8, hr_14851_9, kr_14851_N, kr_14851_D, hP⟩ := hQ
              refine lv_pop hx hb dX8_takeStrokes_96 rfl ?_
              refine lv_iload_n hx hb dX8_takeStrokes_97 rfl (lv_at hl 2 rfl) ?_
              refine lv_iload_n hx hb dX8_takeStrokes_98 rfl (lv_at hl 0 rfl) ?_
              refine sy_ior hx hb dX8_takeStrokes_99 12 (by decide) 4096 (by decide) (by omega) (by omega) (fun z_14859 hz_14859 => ?_)
              refine lv_istore_n (lv' := [(1, .int (mI z_14859)), (3, .int (mI z_14832)), (2, .int (mI z_14244)), (0, .ref (a 31))]) hx hb dX8_takeStrokes_100 rfl hl (by decide) rfl (fun ls hl => ?_)
              refine lv_iinc (v := mI (z_14244 + 1)) (lv' := [(2, .int (mI (z_14244 + 1))), (1, .int (mI z_14859)), (3, .int (mI z_14832)), (0, .ref (a 31))]) hx hb dX8_takeStrokes_101 hl (k := 2) rfl (mI_ad rfl) (by decide) rfl (fun ls hl => ?_)
              refine lv_goto (tgt := 14) hx hb dX8_takeStrokes_104 (by decide) ?_
              exact ih_14581 _ _ _ _ (by omega) ⟨(z_14244 + 1), z_14859, y_14852, y_14853, y_14854, y_14855, j_14856, y_14857, y_14858, _, by omega, by omega, by omega, by omega, by omega, by omega, by omega, by omega, kr_14851_N, kr_14851_D, by omega, rfl, hP, hS, lv_sub hl [0, 1, 3] rfl, rfl⟩
        · skip
          refine lv_aload_n hx hb dX8_takeStrokes_37 rfl (lv_at hl 2 rfl) ?_
          refine cg_reader_tape hx hb hts hown hK hP uw_2_16 dX8_takeStrokes_38 ?_
          refine g_i (cDt hD) hS hA (g_V (own := "HideReader$TextReader") (As := []) (rest := []) hx hb hml hown hts hK hP (cDt hD) (kc_X7_number (l := l) (D := D) (k := k) (by omega)) ck_X7_number iv_X7_number uw_3_173 (cv_tape hK hP) rfl hl.1 rfl (Nat.le_of_ble_eq_true rfl) dX8_takeStrokes_41 ⟨Nat.le_of_ble_eq_true rfl, Nat.le_of_ble_eq_true rfl⟩ ⟨Nat.le_of_ble_eq_true rfl, Nat.le_of_ble_eq_true rfl⟩) (fun r_14860 H locs hQ hS => ?_)
          obtain ⟨hq_r_14860, hP⟩ := hQ
          obtain rfl := hq_r_14860
          refine lv_bipush (v := mI 12) hx hb dX8_takeStrokes_44 (by decide) ?_
          refine sy_icmp_ge (tgt := 61) hx hb dX8_takeStrokes_46 (by decide) (by omega) (by decide) (fun c_14862 => ?_) (fun c_14862 => ?_)
          · skip
            refine lv_iconst (v := mI 0) hx hb dX8_takeStrokes_61 rfl ?_
            refine lv_istore_n (lv' := [(3, .int (mI 0)), (2, .int (mI z_14244)), (1, .int (mI z_14245)), (0, .ref (a 31))]) hx hb dX8_takeStrokes_62 rfl hl (by decide) rfl (fun ls hl => ?_)
            refine lv_aload_n hx hb dX8_takeStrokes_63 rfl (lv_at hl 3 rfl) ?_
            refine cg_reader_tape hx hb hts hown hK hP uw_2_16 dX8_takeStrokes_64 ?_
            refine g_i (cDt hD) hS hA (g_V (own := "HideReader$TextReader") (As := []) (rest := []) hx hb hml hown hts hK hP (cDt hD) (kc_X7_kind (l := l) (D := D) (k := k) (by omega)) ck_X7_kind iv_X7_kind uw_3_155 (cv_tape hK hP) rfl hl.1 rfl (Nat.le_of_ble_eq_true rfl) dX8_takeStrokes_67 ⟨Nat.le_of_ble_eq_true rfl, Nat.le_of_ble_eq_true rfl⟩ ⟨Nat.le_of_ble_eq_true rfl, Nat.le_of_ble_eq_true rfl⟩) (fun r_14863 H locs hQ hS => ?_)
            obtain ⟨hq_r_14863, hP⟩ := hQ
            obtain rfl := hq_r_14863
            refine lv_sipush (v := mI 201) hx hb dX8_takeStrokes_70 (by decide) ?_
            refine sy_icmp_ne (tgt := 90) hx hb dX8_takeStrokes_73 (by decide) (by omega) (by decide) (fun c9 => False.elim (by omega)) (fun c_14865 => ?_)
            refine lv_iload_n hx hb dX8_takeStrokes_76 rfl (lv_at hl 2 rfl) ?_
            refine lv_iload_n hx hb dX8_takeStrokes_77 rfl (lv_at hl 0 rfl) ?_
            refine sy_iandR hx hb dX8_takeStrokes_78 (by decide) (fun z_14866 hz_14866 => ?_)
            refine sy_if_eq (tgt := 90) hx hb dX8_takeStrokes_79 (by decide) (by omega) (fun c_14867 => ?_) (fun c9 => False.elim (by omega))
            refine lv_aload_n hx hb dX8_takeStrokes_90 rfl (lv_at hl 3 rfl) ?_
            refine lv_bipush (v := mI 11) hx hb dX8_takeStrokes_91 (by decide) ?_
            refine g_i (cDt hD) hS hA (g_VX (own := "HideReader$TextReader") (As := [.int (mI 11)]) (rest := []) hx hb hml hown hts hK hP (cDt hD) (hXA hS) (kc_X8_takeNumber (l := l) (D := D) (k := k) (bX := bX) (aK := aK) (aV := aV) hbA (by decide) h_x_tape_length (by omega) (by omega) (by omega) (by omega) (by omega) (by omega) b_B_tape_bytes g_14253 g_14254) ck_X8_takeNumber iv_X8_takeNumber uw_3_177 (cv_reader hK hP) rfl hl.1 rfl (Nat.le_of_ble_eq_true rfl) dX8_takeStrokes_93 ⟨Nat.le_of_ble_eq_true rfl, Nat.le_of_ble_eq_true rfl⟩ ⟨Nat.le_of_ble_eq_true rfl, Nat.le_of_ble_eq_true rfl⟩) (fun r_14868 H locs hQ hS => ?_)
            obtain ⟨y_14869, y_14870, y_14871, y_14872, j_14873, y_14874, y_14875, hr_14868_0, hr_14868_1, hr_14868_2, hr_14868_3, hr_14868_4, hr_14868_5, hr_14868_6, hr_14868_7, hr_14868_8, hr_14868_9, kr_14868_N, kr_14868_D, hP⟩ := hQ
            refine lv_pop hx hb dX8_takeStrokes_96 rfl ?_
            refine lv_iload_n hx hb dX8_takeStrokes_97 rfl (lv_at hl 2 rfl) ?_
            refine lv_iload_n hx hb dX8_takeStrokes_98 rfl (lv_at hl 0 rfl) ?_
            refine lv_ior hx hb dX8_takeStrokes_99 ?_
            refine sy_any (fun z_14876 hz_14876 => ?_)
            refine lv_istore_n (lv' := [(1, .int (mI z_14876)), (3, .int (mI 0)), (2, .int (mI z_14244)), (0, .ref (a 31))]) hx hb dX8_takeStrokes_100 rfl hl (by decide) rfl (fun ls hl => ?_)
            refine lv_iinc (v := mI (z_14244 + 1)) (lv' := [(2, .int (mI (z_14244 + 1))), (1, .int (mI z_14876)), (3, .int (mI 0)), (0, .ref (a 31))]) hx hb dX8_takeStrokes_101 hl (k := 2) rfl (mI_ad rfl) (by decide) rfl (fun ls hl => ?_)
            refine lv_goto (tgt := 14) hx hb dX8_takeStrokes_104 (by decide) ?_
            exact ih_14581 _ _ _ _ (by omega) ⟨(z_14244 + 1), z_14876, y_14869, y_14870, y_14871, y_14872, j_14873, y_14874, y_14875, _, by omega, by omega, by omega, by omega, by omega, by omega, by omega, by omega, kr_14868_N, kr_14868_D, by omega, rfl, hP, hS, lv_sub hl [0, 1, 3] rfl, rfl⟩
          · skip
            refine lv_iconst (v := mI 1) hx hb dX8_takeStrokes_49 rfl ?_
            refine lv_aload_n hx hb dX8_takeStrokes_50 rfl (lv_at hl 2 rfl) ?_
            refine cg_reader_tape hx hb hts hown hK hP uw_2_16 dX8_takeStrokes_51 ?_
            refine g_i (cDt hD) hS hA (g_V (own := "HideReader$TextReader") (As := []) (rest := [.int (mI 1)]) hx hb hml hown hts hK hP (cDt hD) (kc_X7_number (l := l) (D := D) (k := k) (by omega)) ck_X7_number iv_X7_number uw_3_173 (cv_tape hK hP) rfl hl.1 rfl (Nat.le_of_ble_eq_true rfl) dX8_takeStrokes_54 ⟨Nat.le_of_ble_eq_true rfl, Nat.le_of_ble_eq_true rfl⟩ ⟨Nat.le_of_ble_eq_true rfl, Nat.le_of_ble_eq_true rfl⟩) (fun r_14877 H locs hQ hS => ?_)
            obtain ⟨hq_r_14877, hP⟩ := hQ
            obtain rfl := hq_r_14877
            refine sy_shl1 hx hb dX8_takeStrokes_57 11 (by decide) 2048 (by decide) (by omega) (fun z_14879 ez_14879 hz_14879 => ?_)
            refine lv_goto (tgt := 62) hx hb dX8_takeStrokes_58 (by decide) ?_
            refine lv_istore_n (lv' := [(3, .int (mI z_14879)), (2, .int (mI z_14244)), (1, .int (mI z_14245)), (0, .ref (a 31))]) hx hb dX8_takeStrokes_62 rfl hl (by decide) rfl (fun ls hl => ?_)
            refine lv_aload_n hx hb dX8_takeStrokes_63 rfl (lv_at hl 3 rfl) ?_
            refine cg_reader_tape hx hb hts hown hK hP uw_2_16 dX8_takeStrokes_64 ?_
            refine g_i (cDt hD) hS hA (g_V (own := "HideReader$TextReader") (As := []) (rest := []) hx hb hml hown hts hK hP (cDt hD) (kc_X7_kind (l := l) (D := D) (k := k) (by omega)) ck_X7_kind iv_X7_kind uw_3_155 (cv_tape hK hP) rfl hl.1 rfl (Nat.le_of_ble_eq_true rfl) dX8_takeStrokes_67 ⟨Nat.le_of_ble_eq_true rfl, Nat.le_of_ble_eq_true rfl⟩ ⟨Nat.le_of_ble_eq_true rfl, Nat.le_of_ble_eq_true rfl⟩) (fun r_14880 H locs hQ hS => ?_)
            obtain ⟨hq_r_14880, hP⟩ := hQ
            obtain rfl := hq_r_14880
            refine lv_sipush (v := mI 201) hx hb dX8_takeStrokes_70 (by decide) ?_
            refine sy_icmp_ne (tgt := 90) hx hb dX8_takeStrokes_73 (by decide) (by omega) (by decide) (fun c9 => False.elim (by omega)) (fun c_14882 => ?_)
            refine lv_iload_n hx hb dX8_takeStrokes_76 rfl (lv_at hl 2 rfl) ?_
            refine lv_iload_n hx hb dX8_takeStrokes_77 rfl (lv_at hl 0 rfl) ?_
            refine sy_iandR hx hb dX8_takeStrokes_78 (by omega) (fun z_14883 hz_14883 => ?_)
            refine sy_if_eq (tgt := 90) hx hb dX8_takeStrokes_79 (by decide) (by omega) (fun c_14884 => ?_) (fun c_14884 => ?_)
            · skip
              refine lv_aload_n hx hb dX8_takeStrokes_90 rfl (lv_at hl 3 rfl) ?_
              refine lv_bipush (v := mI 11) hx hb dX8_takeStrokes_91 (by decide) ?_
              refine g_i (cDt hD) hS hA (g_VX (own := "HideReader$TextReader") (As := [.int (mI 11)]) (rest := []) hx hb hml hown hts hK hP (cDt hD) (hXA hS) (kc_X8_takeNumber (l := l) (D := D) (k := k) (bX := bX) (aK := aK) (aV := aV) hbA (by decide) h_x_tape_length (by omega) (by omega) (by omega) (by omega) (by omega) (by omega) b_B_tape_bytes g_14253 g_14254) ck_X8_takeNumber iv_X8_takeNumber uw_3_177 (cv_reader hK hP) rfl hl.1 rfl (Nat.le_of_ble_eq_true rfl) dX8_takeStrokes_93 ⟨Nat.le_of_ble_eq_true rfl, Nat.le_of_ble_eq_true rfl⟩ ⟨Nat.le_of_ble_eq_true rfl, Nat.le_of_ble_eq_true rfl⟩) (fun r_14885 H locs hQ hS => ?_)
              obtain ⟨y_14886, y_14887, y_14888, y_14889, j_14890, y_14891, y_14892, hr_14885_0, hr_14885_1, hr_14885_2, hr_14885_3, hr_14885_4, hr_14885_5, hr_14885_6, hr_14885_7, hr_14885_8, hr_14885_9, kr_14885_N, kr_14885_D, hP⟩ := hQ
              refine lv_pop hx hb dX8_takeStrokes_96 rfl ?_
              refine lv_iload_n hx hb dX8_takeStrokes_97 rfl (lv_at hl 2 rfl) ?_
              refine lv_iload_n hx hb dX8_takeStrokes_98 rfl (lv_at hl 0 rfl) ?_
              refine lv_ior hx hb dX8_takeStrokes_99 ?_
              refine sy_any (fun z_14893 hz_14893 => ?_)
              refine lv_istore_n (lv' := [(1, .int (mI z_14893)), (3, .int (mI z_14879)), (2, .int (mI z_14244)), (0, .ref (a 31))]) hx hb dX8_takeStrokes_100 rfl hl (by decide) rfl (fun ls hl => ?_)
              refine lv_iinc (v := mI (z_14244 + 1)) (lv' := [(2, .int (mI (z_14244 + 1))), (1, .int (mI z_14893)), (3, .int (mI z_14879)), (0, .ref (a 31))]) hx hb dX8_takeStrokes_101 hl (k := 2) rfl (mI_ad rfl) (by decide) rfl (fun ls hl => ?_)
              refine lv_goto (tgt := 14) hx hb dX8_takeStrokes_104 (by decide) ?_
              exact ih_14581 _ _ _ _ (by omega) ⟨(z_14244 + 1), z_14893, y_14886, y_14887, y_14888, y_14889, j_14890, y_14891, y_14892, _, by omega, by omega, by omega, by omega, by omega, by omega, by omega, by omega, kr_14885_N, kr_14885_D, by omega, rfl, hP, hS, lv_sub hl [0, 1, 3] rfl, rfl⟩
            · skip
              refine lv_aload_n hx hb dX8_takeStrokes_82 rfl (lv_at hl 3 rfl) ?_
              refine cg_reader_tape hx hb hts hown hK hP uw_2_16 dX8_takeStrokes_83 ?_
              refine lv_iconst (v := mI 3) hx hb dX8_takeStrokes_86 rfl ?_
              refine g_v (cDt hD) hS hA (g_V (own := "HideReader$TextReader") (As := [.int (mI 3)]) (rest := []) hx hb hml hown hts hK hP (cDt hD) (kc_X7_fail (l := l) (D := D) (k := k) (by decide) (by omega) (by omega) (by omega) (by omega) g_14253 g_14254) ck_X7_fail iv_X7_fail uw_3_171 (cv_tape hK hP) rfl hl.1 rfl (Nat.le_of_ble_eq_true rfl) dX8_takeStrokes_87 ⟨Nat.le_of_ble_eq_true rfl, Nat.le_of_ble_eq_true rfl⟩ ⟨Nat.le_of_ble_eq_true rfl, Nat.le_of_ble_eq_true rfl⟩) (fun H locs hQ hS => ?_)
              obtain ⟨y_14895, y_14896, y_14897, hr_14894_0, hr_14894_1, hr_14894_2, hr_14894_3, kr_14894_N, kr_14894_D, hP⟩ := hQ
              refine lv_aload_n hx hb dX8_takeStrokes_90 rfl (lv_at hl 3 rfl) ?_
              refine lv_bipush (v := mI 11) hx hb dX8_takeStrokes_91 (by decide) ?_
              refine g_i (cDt hD) hS hA (g_VX (own := "HideReader$TextReader") (As := [.int (mI 11)]) (rest := []) hx hb hml hown hts hK hP (cDt hD) (hXA hS) (kc_X8_takeNumber (l := l) (D := D) (k := k) (bX := bX) (aK := aK) (aV := aV) hbA (by decide) h_x_tape_length (by omega) (by omega) (by omega) (by omega) (by omega) (by omega) b_B_tape_bytes kr_14894_N kr_14894_D) ck_X8_takeNumber iv_X8_takeNumber uw_3_177 (cv_reader hK hP) rfl hl.1 rfl (Nat.le_of_ble_eq_true rfl) dX8_takeStrokes_93 ⟨Nat.le_of_ble_eq_true rfl, Nat.le_of_ble_eq_true rfl⟩ ⟨Nat.le_of_ble_eq_true rfl, Nat.le_of_ble_eq_true rfl⟩) (fun r_14898 H locs hQ hS => ?_)
              obtain ⟨y_14899, y_14900, y_14901, y_14902, j_14903, y_14904, y_14905, hr_14898_0, hr_14898_1, hr_14898_2, hr_14898_3, hr_14898_4, hr_14898_5, hr_14898_6, hr_14898_7, hr_14898_8, hr_14898_9, kr_14898_N, kr_14898_D, hP⟩ := hQ
              refine lv_pop hx hb dX8_takeStrokes_96 rfl ?_
              refine lv_iload_n hx hb dX8_takeStrokes_97 rfl (lv_at hl 2 rfl) ?_
              refine lv_iload_n hx hb dX8_takeStrokes_98 rfl (lv_at hl 0 rfl) ?_
              refine lv_ior hx hb dX8_takeStrokes_99 ?_
              refine sy_any (fun z_14906 hz_14906 => ?_)
              refine lv_istore_n (lv' := [(1, .int (mI z_14906)), (3, .int (mI z_14879)), (2, .int (mI z_14244)), (0, .ref (a 31))]) hx hb dX8_takeStrokes_100 rfl hl (by decide) rfl (fun ls hl => ?_)
              refine lv_iinc (v := mI (z_14244 + 1)) (lv' := [(2, .int (mI (z_14244 + 1))), (1, .int (mI z_14906)), (3, .int (mI z_14879)), (0, .ref (a 31))]) hx hb dX8_takeStrokes_101 hl (k := 2) rfl (mI_ad rfl) (by decide) rfl (fun ls hl => ?_)
              refine lv_goto (tgt := 14) hx hb dX8_takeStrokes_104 (by decide) ?_
              exact ih_14581 _ _ _ _ (by omega) ⟨(z_14244 + 1), z_14906, y_14899, y_14900, y_14901, y_14902, j_14903, y_14904, y_14905, _, by omega, by omega, by omega, by omega, by omega, by omega, by omega, by omega, kr_14898_N, kr_14898_D, by omega, rfl, hP, hS, lv_sub hl [0, 1, 3] rfl, rfl⟩
        exact False.elim (by omega)
        exact False.elim (by omega)
end Kc
