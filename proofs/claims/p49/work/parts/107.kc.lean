section Kc
variable {l : Launch} {D : va_G} {k : Nat → ClassId} {a : Nat → Nat} {ex : va_W} {x_xo_lyingCount x_tape_length x_tape_next x_tape_kind x_tape_place x_tape_number x_tape_faultKind x_tape_faultPlace x_told_turns x_told_mirror x_told_night x_told_draw x_told_herds x_told_irons x_told_beasts x_told_linesTold x_tfo_steps x_tfo_units x_draft_turns x_draft_mirror x_draft_night x_draft_draw x_draft_herds x_draft_irons x_draft_beasts x_draft_linesTold x_dfo_steps x_dfo_units x_lat_placements x_smi_irons x_smi_aim x_his_here x_his_undoable x_his_redoable x_book_placedCount x_wit_count x_wit_time : Int} {n_tape_name : Int64} {B_xo_lying B_tape_bytes B_told_brands B_told_ironMarks B_told_homes B_told_births B_tfo_kinds B_tfo_numbers B_tfo_stack B_tfo_facts B_draft_brands B_draft_ironMarks B_draft_homes B_draft_births B_dfo_kinds B_dfo_numbers B_dfo_stack B_dfo_facts B_lat_lowHalves B_lat_highHalves B_lat_ways B_smi_placedIrons B_smi_within B_smi_costs B_his_isKept B_book_norms B_book_above B_book_heights B_book_placedBrands B_bea_firstGains B_bea_otherGains B_wit_burnings B_wit_strokes B_wit_wasOn B_wit_toldAt B_wit_untoldAt B_wit_on B_wit_off B_wit_firstCounts B_wit_secondCounts Ps Pd : Nat → Int} {G_tape_wordNames G_told_herdNames G_told_ironNames G_told_beastNames G_draft_herdNames G_draft_ironNames G_draft_beastNames : Nat → Int64} {Ph Po Pg : Nat → Nat → Int} {q : Nat → Nat}
set_option maxHeartbeats 4000000 in
set_option maxRecDepth 100000 in
theorem kc_X4_unlikePlacements {p0 : Int} (hp0 : -2147483648 ≤ p0 ∧ p0 ≤ 2147483647) (h_x_lat_placements : 1 ≤ x_lat_placements ∧ x_lat_placements ≤ 8) (b_B_lat_lowHalves : bd (0) 4095 B_lat_lowHalves) (b_B_lat_highHalves : bd (0) 4095 B_lat_highHalves) (b_B_lat_ways : bd (0) 7 B_lat_ways) : MetG l D k yX4_unlikePlacements cX4_unlikePlacements 7 (some .int) 1 [.ref (a 32), .int (mI p0)] (cW k a q x_xo_lyingCount x_tape_length x_tape_next x_tape_kind x_tape_place x_tape_number x_tape_faultKind x_tape_faultPlace x_told_turns x_told_mirror x_told_night x_told_draw x_told_herds x_told_irons x_told_beasts x_told_linesTold x_tfo_steps x_tfo_units x_draft_turns x_draft_mirror x_draft_night x_draft_draw x_draft_herds x_draft_irons x_draft_beasts x_draft_linesTold x_dfo_steps x_dfo_units x_lat_placements x_smi_irons x_smi_aim x_his_here x_his_undoable x_his_redoable x_book_placedCount x_wit_count x_wit_time n_tape_name B_xo_lying B_tape_bytes B_told_brands B_told_ironMarks B_told_homes B_told_births B_tfo_kinds B_tfo_numbers B_tfo_stack B_tfo_facts B_draft_brands B_draft_ironMarks B_draft_homes B_draft_births B_dfo_kinds B_dfo_numbers B_dfo_stack B_dfo_facts B_lat_lowHalves B_lat_highHalves B_lat_ways B_smi_placedIrons B_smi_within B_smi_costs B_his_isKept B_book_norms B_book_above B_book_heights B_book_placedBrands B_bea_firstGains B_bea_otherGains B_wit_burnings B_wit_strokes B_wit_wasOn B_wit_toldAt B_wit_untoldAt B_wit_on B_wit_off B_wit_firstCounts B_wit_secondCounts Ps Pd G_tape_wordNames G_told_herdNames G_told_ironNames G_told_beastNames G_draft_herdNames G_draft_ironNames G_draft_beastNames Ph Po Pg ex) (qGi (fun r0 H => (0 ≤ r0 ∧ r0 ≤ 8) ∧ va_P D vwCl (cW k a q x_xo_lyingCount x_tape_length x_tape_next x_tape_kind x_tape_place x_tape_number x_tape_faultKind x_tape_faultPlace x_told_turns x_told_mirror x_told_night x_told_draw x_told_herds x_told_irons x_told_beasts x_told_linesTold x_tfo_steps x_tfo_units x_draft_turns x_draft_mirror x_draft_night x_draft_draw x_draft_herds x_draft_irons x_draft_beasts x_draft_linesTold x_dfo_steps x_dfo_units x_lat_placements x_smi_irons x_smi_aim x_his_here x_his_undoable x_his_redoable x_book_placedCount x_wit_count x_wit_time n_tape_name B_xo_lying B_tape_bytes B_told_brands B_told_ironMarks B_told_homes B_told_births B_tfo_kinds B_tfo_numbers B_tfo_stack B_tfo_facts B_draft_brands B_draft_ironMarks B_draft_homes B_draft_births B_dfo_kinds B_dfo_numbers B_dfo_stack B_dfo_facts B_lat_lowHalves B_lat_highHalves B_lat_ways B_smi_placedIrons B_smi_within B_smi_costs B_his_isKept B_book_norms B_book_above B_book_heights B_book_placedBrands B_bea_firstGains B_bea_otherGains B_wit_burnings B_wit_strokes B_wit_wasOn B_wit_toldAt B_wit_untoldAt B_wit_on B_wit_off B_wit_firstCounts B_wit_secondCounts Ps Pd G_tape_wordNames G_told_herdNames G_told_ironNames G_told_beastNames G_draft_herdNames G_draft_ironNames G_draft_beastNames Ph Po Pg ex) H)) := by
  refine metG_of 1 ck_X4_unlikePlacements (Nat.le_of_ble_eq_true rfl) cMap (fun p e s m args below meth c A hx hb hml hr hlocks hown hts hK hD hA hP hS ls hl => ?_)
  have hown : s.vm.findClass "HideReader$Lattice" = some m.cls := hown
  have hl : lv_has ls 7 [(0, .ref (a 32)), (1, .int (mI p0))] := hl
  refine lv_iconst (v := mI 0) hx hb dX4_unlikePlacements_0 rfl ?_
  refine lv_istore_n (lv' := [(2, .int (mI 0)), (0, .ref (a 32)), (1, .int (mI p0))]) hx hb dX4_unlikePlacements_1 rfl hl (by decide) rfl (fun ls hl => ?_)
  refine lv_iconst (v := mI 0) hx hb dX4_unlikePlacements_2 rfl ?_
  refine lv_istore_n (lv' := [(3, .int (mI 0)), (2, .int (mI 0)), (0, .ref (a 32)), (1, .int (mI p0))]) hx hb dX4_unlikePlacements_3 rfl hl (by decide) rfl (fun ls hl => ?_)
  refine sy_loop (I := fun n H locs g => ∃ (z_905 : Int) (z_906 : Int) (ls : Array Slot), (0 ≤ z_905 ∧ z_905 ≤ 8) ∧ (0 ≤ z_906 ∧ z_906 ≤ 8) ∧ (0 ≤ z_905 - z_906) ∧ (8 - z_905).toNat = n ∧ va_P D vwCl (cW k a q x_xo_lyingCount x_tape_length x_tape_next x_tape_kind x_tape_place x_tape_number x_tape_faultKind x_tape_faultPlace x_told_turns x_told_mirror x_told_night x_told_draw x_told_herds x_told_irons x_told_beasts x_told_linesTold x_tfo_steps x_tfo_units x_draft_turns x_draft_mirror x_draft_night x_draft_draw x_draft_herds x_draft_irons x_draft_beasts x_draft_linesTold x_dfo_steps x_dfo_units x_lat_placements x_smi_irons x_smi_aim x_his_here x_his_undoable x_his_redoable x_book_placedCount x_wit_count x_wit_time n_tape_name B_xo_lying B_tape_bytes B_told_brands B_told_ironMarks B_told_homes B_told_births B_tfo_kinds B_tfo_numbers B_tfo_stack B_tfo_facts B_draft_brands B_draft_ironMarks B_draft_homes B_draft_births B_dfo_kinds B_dfo_numbers B_dfo_stack B_dfo_facts B_lat_lowHalves B_lat_highHalves B_lat_ways B_smi_placedIrons B_smi_within B_smi_costs B_his_isKept B_book_norms B_book_above B_book_heights B_book_placedBrands B_bea_firstGains B_bea_otherGains B_wit_burnings B_wit_strokes B_wit_wasOn B_wit_toldAt B_wit_untoldAt B_wit_on B_wit_off B_wit_firstCounts B_wit_secondCounts Ps Pd G_tape_wordNames G_told_herdNames G_told_ironNames G_told_beastNames G_draft_herdNames G_draft_ironNames G_draft_beastNames Ph Po Pg ex) H ∧ va_S A s.heap H locs ∧ lv_has ls 7 [(3, .int (mI z_905)), (2, .int (mI z_906)), (0, .ref (a 32)), (1, .int (mI p0))] ∧ g = F0 m 4 ls []) ?_ _ ⟨0, 0, _, by omega, by omega, by omega, rfl, hP, hS, lv_sub hl [0, 1, 2, 3] rfl, rfl⟩
  intro n_1017 H locs g hI ih_1018
  obtain ⟨z_905, z_906, ls, h4_0, h4_1, h4_2, mn_1017, hP, hS, hl, rfl⟩ := hI
  refine lv_iload_n hx hb dX4_unlikePlacements_4 rfl (lv_at hl 0 rfl) ?_
  refine lv_aload_n hx hb dX4_unlikePlacements_5 rfl (lv_at hl 2 rfl) ?_
  refine cg_lat_placements hx hb hts hown hK hP uw_2_38 dX4_unlikePlacements_6 ?_
  refine sy_icmp_ge (tgt := 81) hx hb dX4_unlikePlacements_9 (by decide) (by omega) (by omega) (fun c_1019 => ?_) (fun c_1019 => ?_)
  · skip
    refine lv_iload_n hx hb dX4_unlikePlacements_81 rfl (lv_at hl 1 rfl) ?_
    exact r_i hx hb hr hlocks dX4_unlikePlacements_82 hS ⟨by omega, hP⟩
  · skip
    refine lv_aload_n hx hb dX4_unlikePlacements_12 rfl (lv_at hl 2 rfl) ?_
    refine lv_iload_n hx hb dX4_unlikePlacements_13 rfl (lv_at hl 3 rfl) ?_
    refine lv_iload_n hx hb dX4_unlikePlacements_14 rfl (lv_at hl 0 rfl) ?_
    refine g_i (cDt hD) hS hA (g_V (own := "HideReader$Lattice") (As := [.int (mI p0), .int (mI z_905)]) (rest := []) hx hb hml hown hts hK hP (cDt hD) (kc_X4_moved (l := l) (D := D) (k := k) (by omega) (by omega) b_B_lat_lowHalves b_B_lat_highHalves b_B_lat_ways) ck_X4_moved iv_X4_moved uw_4_56 (cv_lat hK hP) rfl hl.1 rfl (Nat.le_of_ble_eq_true rfl) dX4_unlikePlacements_15 ⟨Nat.le_of_ble_eq_true rfl, Nat.le_of_ble_eq_true rfl⟩ ⟨Nat.le_of_ble_eq_true rfl, Nat.le_of_ble_eq_true rfl⟩) (fun r_1020 H locs hQ hS => ?_)
    obtain ⟨hr_1020_0, hP⟩ := hQ
    refine lv_istore (lv' := [(4, .int (mI r_1020)), (3, .int (mI z_905)), (2, .int (mI z_906)), (0, .ref (a 32)), (1, .int (mI p0))]) hx hb dX4_unlikePlacements_18 hl (by decide) rfl (fun ls hl => ?_)
    refine lv_iconst (v := mI 1) hx hb dX4_unlikePlacements_20 rfl ?_
    refine lv_istore (lv' := [(5, .int (mI 1)), (4, .int (mI r_1020)), (3, .int (mI z_905)), (2, .int (mI z_906)), (0, .ref (a 32)), (1, .int (mI p0))]) hx hb dX4_unlikePlacements_21 hl (by decide) rfl (fun ls hl => ?_)
    refine lv_iconst (v := mI 0) hx hb dX4_unlikePlacements_23 rfl ?_
    refine lv_istore (lv' := [(6, .int (mI 0)), (5, .int (mI 1)), (4, .int (mI r_1020)), (3, .int (mI z_905)), (2, .int (mI z_906)), (0, .ref (a 32)), (1, .int (mI p0))]) hx hb dX4_unlikePlacements_24 hl (by decide) rfl (fun ls hl => ?_)
    refine sy_loop (I := fun n H locs g => ∃ (z_1107 : Int) (z_1108 : Int) (ls : Array Slot), (0 ≤ z_1107 ∧ z_1107 ≤ 7) ∧ (0 ≤ z_1108 ∧ z_1108 ≤ 1) ∧ (7 - z_1107).toNat = n ∧ va_P D vwCl (cW k a q x_xo_lyingCount x_tape_length x_tape_next x_tape_kind x_tape_place x_tape_number x_tape_faultKind x_tape_faultPlace x_told_turns x_told_mirror x_told_night x_told_draw x_told_herds x_told_irons x_told_beasts x_told_linesTold x_tfo_steps x_tfo_units x_draft_turns x_draft_mirror x_draft_night x_draft_draw x_draft_herds x_draft_irons x_draft_beasts x_draft_linesTold x_dfo_steps x_dfo_units x_lat_placements x_smi_irons x_smi_aim x_his_here x_his_undoable x_his_redoable x_book_placedCount x_wit_count x_wit_time n_tape_name B_xo_lying B_tape_bytes B_told_brands B_told_ironMarks B_told_homes B_told_births B_tfo_kinds B_tfo_numbers B_tfo_stack B_tfo_facts B_draft_brands B_draft_ironMarks B_draft_homes B_draft_births B_dfo_kinds B_dfo_numbers B_dfo_stack B_dfo_facts B_lat_lowHalves B_lat_highHalves B_lat_ways B_smi_placedIrons B_smi_within B_smi_costs B_his_isKept B_book_norms B_book_above B_book_heights B_book_placedBrands B_bea_firstGains B_bea_otherGains B_wit_burnings B_wit_strokes B_wit_wasOn B_wit_toldAt B_wit_untoldAt B_wit_on B_wit_off B_wit_firstCounts B_wit_secondCounts Ps Pd G_tape_wordNames G_told_herdNames G_told_ironNames G_told_beastNames G_draft_herdNames G_draft_ironNames G_draft_beastNames Ph Po Pg ex) H ∧ va_S A s.heap H locs ∧ lv_has ls 7 [(6, .int (mI z_1107)), (5, .int (mI z_1108)), (4, .int (mI r_1020)), (3, .int (mI z_905)), (2, .int (mI z_906)), (0, .ref (a 32)), (1, .int (mI p0))] ∧ g = F0 m 26 ls []) ?_ _ ⟨0, 1, _, by omega, by omega, rfl, hP, hS, lv_sub hl [0, 1, 2, 3, 4, 5, 6] rfl, rfl⟩
    intro n_1118 H locs g hI ih_1119
    obtain ⟨z_1107, z_1108, ls, h26_0, h26_1, mn_1118, hP, hS, hl, rfl⟩ := hI
    refine lv_iload hx hb dX4_unlikePlacements_26 (lv_at hl 0 rfl) ?_
    refine lv_iload_n hx hb dX4_unlikePlacements_28 rfl (lv_at hl 3 rfl) ?_
    refine sy_icmp_ge (tgt := 62) hx hb dX4_unlikePlacements_29 (by decide) (by omega) (by omega) (fun c_1124 => ?_) (fun c_1124 => ?_)
    · skip
      refine lv_iload_n hx hb dX4_unlikePlacements_62 rfl (lv_at hl 4 rfl) ?_
      refine lv_iload hx hb dX4_unlikePlacements_63 (lv_at hl 1 rfl) ?_
      refine sy_if_eq (tgt := 72) hx hb dX4_unlikePlacements_65 (by decide) (by omega) (fun c_1125 => ?_) (fun c_1125 => ?_)
      · skip
        refine lv_iconst (v := mI 0) hx hb dX4_unlikePlacements_72 rfl ?_
        refine sy_iadd hx hb dX4_unlikePlacements_73 z_906 (by omega) ?_
        refine lv_istore_n (lv' := [(2, .int (mI z_906)), (6, .int (mI z_1107)), (5, .int (mI z_1108)), (4, .int (mI r_1020)), (3, .int (mI z_905)), (0, .ref (a 32)), (1, .int (mI p0))]) hx hb dX4_unlikePlacements_74 rfl hl (by decide) rfl (fun ls hl => ?_)
        refine lv_iinc (v := mI (z_905 + 1)) (lv' := [(3, .int (mI (z_905 + 1))), (2, .int (mI z_906)), (6, .int (mI z_1107)), (5, .int (mI z_1108)), (4, .int (mI r_1020)), (0, .ref (a 32)), (1, .int (mI p0))]) hx hb dX4_unlikePlacements_75 hl (k := 4) rfl (mI_ad rfl) (by decide) rfl (fun ls hl => ?_)
        refine lv_goto (tgt := 4) hx hb dX4_unlikePlacements_78 (by decide) ?_
        exact ih_1018 _ _ _ _ (by omega) ⟨(z_905 + 1), z_906, _, by omega, by omega, by omega, rfl, hP, hS, lv_sub hl [0, 1, 5, 6] rfl, rfl⟩
      · skip
        refine lv_iconst (v := mI 1) hx hb dX4_unlikePlacements_68 rfl ?_
        refine lv_goto (tgt := 73) hx hb dX4_unlikePlacements_69 (by decide) ?_
        refine sy_iadd hx hb dX4_unlikePlacements_73 (z_906 + 1) rfl ?_
        refine lv_istore_n (lv' := [(2, .int (mI (z_906 + 1))), (6, .int (mI z_1107)), (5, .int (mI z_1108)), (4, .int (mI r_1020)), (3, .int (mI z_905)), (0, .ref (a 32)), (1, .int (mI p0))]) hx hb dX4_unlikePlacements_74 rfl hl (by decide) rfl (fun ls hl => ?_)
        refine lv_iinc (v := mI (z_905 + 1)) (lv' := [(3, .int (mI (z_905 + 1))), (2, .int (mI (z_906 + 1))), (6, .int (mI z_1107)), (5, .int (mI z_1108)), (4, .int (mI r_1020)), (0, .ref (a 32)), (1, .int (mI p0))]) hx hb dX4_unlikePlacements_75 hl (k := 4) rfl (mI_ad rfl) (by decide) rfl (fun ls hl => ?_)
        refine lv_goto (tgt := 4) hx hb dX4_unlikePlacements_78 (by decide) ?_
        exact ih_1018 _ _ _ _ (by omega) ⟨(z_905 + 1), (z_906 + 1), _, by omega, by omega, by omega, rfl, hP, hS, lv_sub hl [0, 1, 5, 6] rfl, rfl⟩
    · skip
      refine lv_iload hx hb dX4_unlikePlacements_32 (lv_at hl 1 rfl) ?_
      refine sy_if_eq (tgt := 53) hx hb dX4_unlikePlacements_34 (by decide) (by omega) (fun c_1126 => ?_) (fun c_1126 => ?_)
      · skip
        refine lv_iconst (v := mI 0) hx hb dX4_unlikePlacements_53 rfl ?_
        refine lv_istore (lv' := [(5, .int (mI 0)), (6, .int (mI z_1107)), (4, .int (mI r_1020)), (3, .int (mI z_905)), (2, .int (mI z_906)), (0, .ref (a 32)), (1, .int (mI p0))]) hx hb dX4_unlikePlacements_54 hl (by decide) rfl (fun ls hl => ?_)
        refine lv_iinc (v := mI (z_1107 + 1)) (lv' := [(6, .int (mI (z_1107 + 1))), (5, .int (mI 0)), (4, .int (mI r_1020)), (3, .int (mI z_905)), (2, .int (mI z_906)), (0, .ref (a 32)), (1, .int (mI p0))]) hx hb dX4_unlikePlacements_56 hl (k := 1) rfl (mI_ad rfl) (by decide) rfl (fun ls hl => ?_)
        refine lv_goto (tgt := 26) hx hb dX4_unlikePlacements_59 (by decide) ?_
        exact ih_1119 _ _ _ _ (by omega) ⟨(z_1107 + 1), 0, _, by omega, by omega, rfl, hP, hS, lv_sub hl [0, 1, 2, 3, 4, 5, 6] rfl, rfl⟩
      · skip
        refine lv_aload_n hx hb dX4_unlikePlacements_37 rfl (lv_at hl 5 rfl) ?_
        refine lv_iload_n hx hb dX4_unlikePlacements_38 rfl (lv_at hl 6 rfl) ?_
        refine lv_iload hx hb dX4_unlikePlacements_39 (lv_at hl 0 rfl) ?_
        refine g_i (cDt hD) hS hA (g_V (own := "HideReader$Lattice") (As := [.int (mI p0), .int (mI z_1107)]) (rest := []) hx hb hml hown hts hK hP (cDt hD) (kc_X4_moved (l := l) (D := D) (k := k) (by omega) (by omega) b_B_lat_lowHalves b_B_lat_highHalves b_B_lat_ways) ck_X4_moved iv_X4_moved uw_4_56 (cv_lat hK hP) rfl hl.1 rfl (Nat.le_of_ble_eq_true rfl) dX4_unlikePlacements_41 ⟨Nat.le_of_ble_eq_true rfl, Nat.le_of_ble_eq_true rfl⟩ ⟨Nat.le_of_ble_eq_true rfl, Nat.le_of_ble_eq_true rfl⟩) (fun r_1127 H locs hQ hS => ?_)
        obtain ⟨hr_1127_0, hP⟩ := hQ
        refine lv_iload hx hb dX4_unlikePlacements_44 (lv_at hl 2 rfl) ?_
        refine sy_icmp_eq (tgt := 53) hx hb dX4_unlikePlacements_46 (by decide) (by omega) (by omega) (fun c_1128 => ?_) (fun c_1128 => ?_)
        · skip
          refine lv_iconst (v := mI 0) hx hb dX4_unlikePlacements_53 rfl ?_
          refine lv_istore (lv' := [(5, .int (mI 0)), (6, .int (mI z_1107)), (4, .int (mI r_1020)), (3, .int (mI z_905)), (2, .int (mI z_906)), (0, .ref (a 32)), (1, .int (mI p0))]) hx hb dX4_unlikePlacements_54 hl (by decide) rfl (fun ls hl => ?_)
          refine lv_iinc (v := mI (z_1107 + 1)) (lv' := [(6, .int (mI (z_1107 + 1))), (5, .int (mI 0)), (4, .int (mI r_1020)), (3, .int (mI z_905)), (2, .int (mI z_906)), (0, .ref (a 32)), (1, .int (mI p0))]) hx hb dX4_unlikePlacements_56 hl (k := 1) rfl (mI_ad rfl) (by decide) rfl (fun ls hl => ?_)
          refine lv_goto (tgt := 26) hx hb dX4_unlikePlacements_59 (by decide) ?_
          exact ih_1119 _ _ _ _ (by omega) ⟨(z_1107 + 1), 0, _, by omega, by omega, rfl, hP, hS, lv_sub hl [0, 1, 2, 3, 4, 5, 6] rfl, rfl⟩
        · skip
          refine lv_iconst (v := mI 1) hx hb dX4_unlikePlacements_49 rfl ?_
          refine lv_goto (tgt := 54) hx hb dX4_unlikePlacements_50 (by decide) ?_
          refine lv_istore (lv' := [(5, .int (mI 1)), (6, .int (mI z_1107)), (4, .int (mI r_1020)), (3, .int (mI z_905)), (2, .int (mI z_906)), (0, .ref (a 32)), (1, .int (mI p0))]) hx hb dX4_unlikePlacements_54 hl (by decide) rfl (fun ls hl => ?_)
          refine lv_iinc (v := mI (z_1107 + 1)) (lv' := [(6, .int (mI (z_1107 + 1))), (5, .int (mI 1)), (4, .int (mI r_1020)), (3, .int (mI z_905)), (2, .int (mI z_906)), (0, .ref (a 32)), (1, .int (mI p0))]) hx hb dX4_unlikePlacements_56 hl (k := 1) rfl (mI_ad rfl) (by decide) rfl (fun ls hl => ?_)
          refine lv_goto (tgt := 26) hx hb dX4_unlikePlacements_59 (by decide) ?_
          exact ih_1119 _ _ _ _ (by omega) ⟨(z_1107 + 1), 1, _, by omega, by omega, rfl, hP, hS, lv_sub hl [0, 1, 2, 3, 4, 5, 6] rfl, rfl⟩
set_option maxHeartbeats 4000000 in
set_option maxRecDepth 100000 in
theorem kc_X4_mostCommon {p0 p1 : Int} (hp0 : -2147483648 ≤ p0 ∧ p0 ≤ 2147483647) (hp1 : -2147483648 ≤ p1 ∧ p1 ≤ 2147483647) (h_x_lat_placements : 1 ≤ x_lat_placements ∧ x_lat_placements ≤ 8) (b_B_lat_lowHalves : bd (0) 4095 B_lat_lowHalves) (b_B_lat_highHalves : bd (0) 4095 B_lat_highHalves) (b_B_lat_ways : bd (0) 7 B_lat_ways) : MetG l D k yX4_mostCommon cX4_mostCommon 5 (some .int) 1 [.ref (a 32), .int (mI p0), .int (mI p1)] (cW k a q x_xo_lyingCount x_tape_length x_tape_next x_tape_kind x_tape_place x_tape_number x_tape_faultKind x_tape_faultPlace x_told_turns x_told_mirror x_told_night x_told_draw x_told_herds x_told_irons x_told_beasts x_told_linesTold x_tfo_steps x_tfo_units x_draft_turns x_draft_mirror x_draft_night x_draft_draw x_draft_herds x_draft_irons x_draft_beasts x_draft_linesTold x_dfo_steps x_dfo_units x_lat_placements x_smi_irons x_smi_aim x_his_here x_his_undoable x_his_redoable x_book_placedCount x_wit_count x_wit_time n_tape_name B_xo_lying B_tape_bytes B_told_brands B_told_ironMarks B_told_homes B_told_births B_tfo_kinds B_tfo_numbers B_tfo_stack B_tfo_facts B_draft_brands B_draft_ironMarks B_draft_homes B_draft_births B_dfo_kinds B_dfo_numbers B_dfo_stack B_dfo_facts B_lat_lowHalves B_lat_highHalves B_lat_ways B_smi_placedIrons B_smi_within B_smi_costs B_his_isKept B_book_norms B_book_above B_book_heights B_book_placedBrands B_bea_firstGains B_bea_otherGains B_wit_burnings B_wit_strokes B_wit_wasOn B_wit_toldAt B_wit_untoldAt B_wit_on B_wit_off B_wit_firstCounts B_wit_secondCounts Ps Pd G_tape_wordNames G_told_herdNames G_told_ironNames G_told_beastNames G_draft_herdNames G_draft_ironNames G_draft_beastNames Ph Po Pg ex) (qGi (fun r0 H => (0 ≤ r0 ∧ r0 ≤ 12) ∧ va_P D vwCl (cW k a q x_xo_lyingCount x_tape_length x_tape_next x_tape_kind x_tape_place x_tape_number x_tape_faultKind x_tape_faultPlace x_told_turns x_told_mirror x_told_night x_told_draw x_told_herds x_told_irons x_told_beasts x_told_linesTold x_tfo_steps x_tfo_units x_draft_turns x_draft_mirror x_draft_night x_draft_draw x_draft_herds x_draft_irons x_draft_beasts x_draft_linesTold x_dfo_steps x_dfo_units x_lat_placements x_smi_irons x_smi_aim x_his_here x_his_undoable x_his_redoable x_book_placedCount x_wit_count x_wit_time n_tape_name B_xo_lying B_tape_bytes B_told_brands B_told_ironMarks B_told_homes B_told_births B_tfo_kinds B_tfo_numbers B_tfo_stack B_tfo_facts B_draft_brands B_draft_ironMarks B_draft_homes B_draft_births B_dfo_kinds B_dfo_numbers B_dfo_stack B_dfo_facts B_lat_lowHalves B_lat_highHalves B_lat_ways B_smi_placedIrons B_smi_within B_smi_costs B_his_isKept B_book_norms B_book_above B_book_heights B_book_placedBrands B_bea_firstGains B_bea_otherGains B_wit_burnings B_wit_strokes B_wit_wasOn B_wit_toldAt B_wit_untoldAt B_wit_on B_wit_off B_wit_firstCounts B_wit_secondCounts Ps Pd G_tape_wordNames G_told_herdNames G_told_ironNames G_told_beastNames G_draft_herdNames G_draft_ironNames G_draft_beastNames Ph Po Pg ex) H)) := by
  refine metG_of 2 ck_X4_mostCommon (Nat.le_of_ble_eq_true rfl) cMap (fun p e s m args below meth c A hx hb hml hr hlocks hown hts hK hD hA hP hS ls hl => ?_)
  have hown : s.vm.findClass "HideReader$Lattice" = some m.cls := hown
  have hl : lv_has ls 5 [(0, .ref (a 32)), (1, .int (mI p0)), (2, .int (mI p1))] := hl
  refine lv_iconst (v := mI 0) hx hb dX4_mostCommon_0 rfl ?_
  refine lv_istore_n (lv' := [(3, .int (mI 0)), (0, .ref (a 32)), (1, .int (mI p0)), (2, .int (mI p1))]) hx hb dX4_mostCommon_1 rfl hl (by decide) rfl (fun ls hl => ?_)
  refine lv_iconst (v := mI 0) hx hb dX4_mostCommon_2 rfl ?_
  refine lv_istore (lv' := [(4, .int (mI 0)), (3, .int (mI 0)), (0, .ref (a 32)), (1, .int (mI p0)), (2, .int (mI p1))]) hx hb dX4_mostCommon_3 hl (by decide) rfl (fun ls hl => ?_)
  refine sy_loop (I := fun n H locs g => ∃ (z_97 : Int) (z_98 : Int) (ls : Array Slot), (0 ≤ z_97 ∧ z_97 ≤ 8) ∧ (0 ≤ z_98 ∧ z_98 ≤ 12) ∧ (8 - z_97).toNat = n ∧ va_P D vwCl (cW k a q x_xo_lyingCount x_tape_length x_tape_next x_tape_kind x_tape_place x_tape_number x_tape_faultKind x_tape_faultPlace x_told_turns x_told_mirror x_told_night x_told_draw x_told_herds x_told_irons x_told_beasts x_told_linesTold x_tfo_steps x_tfo_units x_draft_turns x_draft_mirror x_draft_night x_draft_draw x_draft_herds x_draft_irons x_draft_beasts x_draft_linesTold x_dfo_steps x_dfo_units x_lat_placements x_smi_irons x_smi_aim x_his_here x_his_undoable x_his_redoable x_book_placedCount x_wit_count x_wit_time n_tape_name B_xo_lying B_tape_bytes B_told_brands B_told_ironMarks B_told_homes B_told_births B_tfo_kinds B_tfo_numbers B_tfo_stack B_tfo_facts B_draft_brands B_draft_ironMarks B_draft_homes B_draft_births B_dfo_kinds B_dfo_numbers B_dfo_stack B_dfo_facts B_lat_lowHalves B_lat_highHalves B_lat_ways B_smi_placedIrons B_smi_within B_smi_costs B_his_isKept B_book_norms B_book_above B_book_heights B_book_placedBrands B_bea_firstGains B_bea_otherGains B_wit_burnings B_wit_strokes B_wit_wasOn B_wit_toldAt B_wit_untoldAt B_wit_on B_wit_off B_wit_firstCounts B_wit_secondCounts Ps Pd G_tape_wordNames G_told_herdNames G_told_ironNames G_told_beastNames G_draft_herdNames G_draft_ironNames G_draft_beastNames Ph Po Pg ex) H ∧ va_S A s.heap H locs ∧ lv_has ls 5 [(4, .int (mI z_97)), (3, .int (mI z_98)), (0, .ref (a 32)), (1, .int (mI p0)), (2, .int (mI p1))] ∧ g = F0 m 5 ls []) ?_ _ ⟨0, 0, _, by omega, by omega, rfl, hP, hS, lv_sub hl [0, 1, 2, 3, 4] rfl, rfl⟩
  intro n_104 H locs g hI ih_105
  obtain ⟨z_97, z_98, ls, h5_0, h5_1, mn_104, hP, hS, hl, rfl⟩ := hI
  refine lv_iload hx hb dX4_mostCommon_5 (lv_at hl 0 rfl) ?_
  refine lv_aload_n hx hb dX4_mostCommon_7 rfl (lv_at hl 2 rfl) ?_
  refine cg_lat_placements hx hb hts hown hK hP uw_2_38 dX4_mostCommon_8 ?_
  refine sy_icmp_ge (tgt := 37) hx hb dX4_mostCommon_11 (by decide) (by omega) (by omega) (fun c_106 => ?_) (fun c_106 => ?_)
  · skip
    refine lv_iload_n hx hb dX4_mostCommon_37 rfl (lv_at hl 1 rfl) ?_
    exact r_i hx hb hr hlocks dX4_mostCommon_38 hS ⟨by omega, hP⟩
  · skip
    refine lv_iload_n hx hb dX4_mostCommon_14 rfl (lv_at hl 1 rfl) ?_
    refine lv_aload_n hx hb dX4_mostCommon_15 rfl (lv_at hl 2 rfl) ?_
    refine lv_iload_n hx hb dX4_mostCommon_16 rfl (lv_at hl 3 rfl) ?_
    refine lv_iload hx hb dX4_mostCommon_17 (lv_at hl 0 rfl) ?_
    refine g_i (cDt hD) hS hA (g_V (own := "HideReader$Lattice") (As := [.int (mI p0), .int (mI z_97)]) (rest := [.int (mI z_98)]) hx hb hml hown hts hK hP (cDt hD) (kc_X4_moved (l := l) (D := D) (k := k) (by omega) (by omega) b_B_lat_lowHalves b_B_lat_highHalves b_B_lat_ways) ck_X4_moved iv_X4_moved uw_4_56 (cv_lat hK hP) rfl hl.1 rfl (Nat.le_of_ble_eq_true rfl) dX4_mostCommon_19 ⟨Nat.le_of_ble_eq_true rfl, Nat.le_of_ble_eq_true rfl⟩ ⟨Nat.le_of_ble_eq_true rfl, Nat.le_of_ble_eq_true rfl⟩) (fun r_107 H locs hQ hS => ?_)
    obtain ⟨hr_107_0, hP⟩ := hQ
    refine lv_iload_n hx hb dX4_mostCommon_22 rfl (lv_at hl 4 rfl) ?_
    refine sy_iandL hx hb dX4_mostCommon_23 (by omega) (fun z_108 hz_108 => ?_)
    refine g_i (cDt hD) hS hA (g_S (own := "HideReader$Lattice") (As := [.int (mI z_108)]) (rest := [.int (mI z_98)]) hx hb hml hown hts hK hP (cDt hD) (kc_bitCount (l := l) (D := D) (k := k) (by omega)) ck_J6_bitCount_0f7a4 uw_4_140 uw_5_188 rfl hl.1 rfl (Nat.le_of_ble_eq_true rfl) dX4_mostCommon_24 ⟨Nat.le_of_ble_eq_true rfl, Nat.le_of_ble_eq_true rfl⟩ ⟨Nat.le_of_ble_eq_true rfl, Nat.le_of_ble_eq_true rfl⟩) (fun r_109 H locs hQ hS => ?_)
    obtain ⟨hr_109_0, hP⟩ := hQ
    refine sy_max hx hb (hml.trans hl.1.symm) hown hts uw_5_198 (Nat.le_of_ble_eq_true rfl) (Nat.le_of_ble_eq_true rfl) (Nat.le_of_ble_eq_true rfl) (Nat.le_of_ble_eq_true rfl) dX4_mostCommon_27 (by omega) (by omega) (fun z_110 hz_110 => ?_)
    refine lv_istore_n (lv' := [(3, .int (mI z_110)), (4, .int (mI z_97)), (0, .ref (a 32)), (1, .int (mI p0)), (2, .int (mI p1))]) hx hb dX4_mostCommon_30 rfl hl (by decide) rfl (fun ls hl => ?_)
    refine lv_iinc (v := mI (z_97 + 1)) (lv' := [(4, .int (mI (z_97 + 1))), (3, .int (mI z_110)), (0, .ref (a 32)), (1, .int (mI p0)), (2, .int (mI p1))]) hx hb dX4_mostCommon_31 hl (k := 1) rfl (mI_ad rfl) (by decide) rfl (fun ls hl => ?_)
    refine lv_goto (tgt := 5) hx hb dX4_mostCommon_34 (by decide) ?_
    exact ih_105 _ _ _ _ (by omega) ⟨(z_97 + 1), z_110, _, by omega, by omega, rfl, hP, hS, lv_sub hl [0, 1, 2, 3, 4] rfl, rfl⟩
set_option maxHeartbeats 4000000 in
set_option maxRecDepth 100000 in
theorem kc_X5_oldestAge {p0 : Int} {iR : Nat} (hiR : iR < 44) (hp0 : 0 ≤ p0 ∧ p0 ≤ 7) (b_Ph : pb (0) 4095 Ph) (b_Pg : pb (-2147483648) 2147483647 Pg) : MetG l D k yX5_oldestAge cX5_oldestAge 4 (some .int) 1 [.ref (q (4 * iR)), .int (mI p0)] (cW k a q x_xo_lyingCount x_tape_length x_tape_next x_tape_kind x_tape_place x_tape_number x_tape_faultKind x_tape_faultPlace x_told_turns x_told_mirror x_told_night x_told_draw x_told_herds x_told_irons x_told_beasts x_told_linesTold x_tfo_steps x_tfo_units x_draft_turns x_draft_mirror x_draft_night x_draft_draw x_draft_herds x_draft_irons x_draft_beasts x_draft_linesTold x_dfo_steps x_dfo_units x_lat_placements x_smi_irons x_smi_aim x_his_here x_his_undoable x_his_redoable x_book_placedCount x_wit_count x_wit_time n_tape_name B_xo_lying B_tape_bytes B_told_brands B_told_ironMarks B_told_homes B_told_births B_tfo_kinds B_tfo_numbers B_tfo_stack B_tfo_facts B_draft_brands B_draft_ironMarks B_draft_homes B_draft_births B_dfo_kinds B_dfo_numbers B_dfo_stack B_dfo_facts B_lat_lowHalves B_lat_highHalves B_lat_ways B_smi_placedIrons B_smi_within B_smi_costs B_his_isKept B_book_norms B_book_above B_book_heights B_book_placedBrands B_bea_firstGains B_bea_otherGains B_wit_burnings B_wit_strokes B_wit_wasOn B_wit_toldAt B_wit_untoldAt B_wit_on B_wit_off B_wit_firstCounts B_wit_secondCounts Ps Pd G_tape_wordNames G_told_herdNames G_told_ironNames G_told_beastNames G_draft_herdNames G_draft_ironNames G_draft_beastNames Ph Po Pg ex) (qGi (fun r0 H => (-1 ≤ r0 ∧ r0 ≤ 2147483647) ∧ va_P D vwCl (cW k a q x_xo_lyingCount x_tape_length x_tape_next x_tape_kind x_tape_place x_tape_number x_tape_faultKind x_tape_faultPlace x_told_turns x_told_mirror x_told_night x_told_draw x_told_herds x_told_irons x_told_beasts x_told_linesTold x_tfo_steps x_tfo_units x_draft_turns x_draft_mirror x_draft_night x_draft_draw x_draft_herds x_draft_irons x_draft_beasts x_draft_linesTold x_dfo_steps x_dfo_units x_lat_placements x_smi_irons x_smi_aim x_his_here x_his_undoable x_his_redoable x_book_placedCount x_wit_count x_wit_time n_tape_name B_xo_lying B_tape_bytes B_told_brands B_told_ironMarks B_told_homes B_told_births B_tfo_kinds B_tfo_numbers B_tfo_stack B_tfo_facts B_draft_brands B_draft_ironMarks B_draft_homes B_draft_births B_dfo_kinds B_dfo_numbers B_dfo_stack B_dfo_facts B_lat_lowHalves B_lat_highHalves B_lat_ways B_smi_placedIrons B_smi_within B_smi_costs B_his_isKept B_book_norms B_book_above B_book_heights B_book_placedBrands B_bea_firstGains B_bea_otherGains B_wit_burnings B_wit_strokes B_wit_wasOn B_wit_toldAt B_wit_untoldAt B_wit_on B_wit_off B_wit_firstCounts B_wit_secondCounts Ps Pd G_tape_wordNames G_told_herdNames G_told_ironNames G_told_beastNames G_draft_herdNames G_draft_ironNames G_draft_beastNames Ph Po Pg ex) H)) := by
  refine metG_of 1 ck_X5_oldestAge (Nat.le_of_ble_eq_true rfl) cMap (fun p e s m args below meth c A hx hb hml hr hlocks hown hts hK hD hA hP hS ls hl => ?_)
  have hown : s.vm.findClass "HideReader$Pasture" = some m.cls := hown
  have hl : lv_has ls 4 [(0, .ref (q (4 * iR))), (1, .int (mI p0))] := hl
  refine lv_iconst (v := mI (-1)) hx hb dX5_oldestAge_0 rfl ?_
  refine lv_istore_n (lv' := [(2, .int (mI (-1))), (0, .ref (q (4 * iR))), (1, .int (mI p0))]) hx hb dX5_oldestAge_1 rfl hl (by decide) rfl (fun ls hl => ?_)
  refine lv_iconst (v := mI 0) hx hb dX5_oldestAge_2 rfl ?_
  refine lv_istore_n (lv' := [(3, .int (mI 0)), (2, .int (mI (-1))), (0, .ref (q (4 * iR))), (1, .int (mI p0))]) hx hb dX5_oldestAge_3 rfl hl (by decide) rfl (fun ls hl => ?_)
  refine sy_loop (I := fun n H locs g => ∃ (z_134 : Int) (z_135 : Int) (ls : Array Slot), (0 ≤ z_134 ∧ z_134 ≤ 12) ∧ (-1 ≤ z_135 ∧ z_135 ≤ 2147483647) ∧ (12 - z_134).toNat = n ∧ va_P D vwCl (cW k a q x_xo_lyingCount x_tape_length x_tape_next x_tape_kind x_tape_place x_tape_number x_tape_faultKind x_tape_faultPlace x_told_turns x_told_mirror x_told_night x_told_draw x_told_herds x_told_irons x_told_beasts x_told_linesTold x_tfo_steps x_tfo_units x_draft_turns x_draft_mirror x_draft_night x_draft_draw x_draft_herds x_draft_irons x_draft_beasts x_draft_linesTold x_dfo_steps x_dfo_units x_lat_placements x_smi_irons x_smi_aim x_his_here x_his_undoable x_his_redoable x_book_placedCount x_wit_count x_wit_time n_tape_name B_xo_lying B_tape_bytes B_told_brands B_told_ironMarks B_told_homes B_told_births B_tfo_kinds B_tfo_numbers B_tfo_stack B_tfo_facts B_draft_brands B_draft_ironMarks B_draft_homes B_draft_births B_dfo_kinds B_dfo_numbers B_dfo_stack B_dfo_facts B_lat_lowHalves B_lat_highHalves B_lat_ways B_smi_placedIrons B_smi_within B_smi_costs B_his_isKept B_book_norms B_book_above B_book_heights B_book_placedBrands B_bea_firstGains B_bea_otherGains B_wit_burnings B_wit_strokes B_wit_wasOn B_wit_toldAt B_wit_untoldAt B_wit_on B_wit_off B_wit_firstCounts B_wit_secondCounts Ps Pd G_tape_wordNames G_told_herdNames G_told_ironNames G_told_beastNames G_draft_herdNames G_draft_ironNames G_draft_beastNames Ph Po Pg ex) H ∧ va_S A s.heap H locs ∧ lv_has ls 4 [(3, .int (mI z_134)), (2, .int (mI z_135)), (0, .ref (q (4 * iR))), (1, .int (mI p0))] ∧ g = F0 m 4 ls []) ?_ _ ⟨0, (-1), _, by omega, by omega, rfl, hP, hS, lv_sub hl [0, 1, 2, 3] rfl, rfl⟩
  intro n_139 H locs g hI ih_140
  obtain ⟨z_134, z_135, ls, h4_0, h4_1, mn_139, hP, hS, hl, rfl⟩ := hI
  refine lv_iload_n hx hb dX5_oldestAge_4 rfl (lv_at hl 0 rfl) ?_
  refine lv_bipush (v := mI 12) hx hb dX5_oldestAge_5 (by decide) ?_
  refine sy_icmp_ge (tgt := 27) hx hb dX5_oldestAge_7 (by decide) (by omega) (by decide) (fun c_141 => ?_) (fun c_141 => ?_)
  · skip
    refine lv_iload_n hx hb dX5_oldestAge_27 rfl (lv_at hl 1 rfl) ?_
    exact r_i hx hb hr hlocks dX5_oldestAge_28 hS ⟨by omega, hP⟩
  · skip
    refine lv_iload_n hx hb dX5_oldestAge_10 rfl (lv_at hl 1 rfl) ?_
    refine lv_aload_n hx hb dX5_oldestAge_11 rfl (lv_at hl 2 rfl) ?_
    refine lv_iload_n hx hb dX5_oldestAge_12 rfl (lv_at hl 3 rfl) ?_
    refine lv_iload_n hx hb dX5_oldestAge_13 rfl (lv_at hl 0 rfl) ?_
    refine g_i (cDt hD) hS hA (g_V (own := "HideReader$Pasture") (As := [.int (mI p0), .int (mI z_134)]) (rest := [.int (mI z_135)]) hx hb hml hown hts hK hP (cDt hD) (kc_X5_ageOf (l := l) (D := D) (k := k) (iR := iR) (by omega) (by omega) (by omega) b_Ph b_Pg) ck_X5_ageOf iv_X5_ageOf uw_6_49 (cv_past (i := iR) (by omega) hK hP) rfl hl.1 rfl (Nat.le_of_ble_eq_true rfl) dX5_oldestAge_14 ⟨Nat.le_of_ble_eq_true rfl, Nat.le_of_ble_eq_true rfl⟩ ⟨Nat.le_of_ble_eq_true rfl, Nat.le_of_ble_eq_true rfl⟩) (fun r_142 H locs hQ hS => ?_)
    obtain ⟨hr_142_0, hP⟩ := hQ
    refine sy_max hx hb (hml.trans hl.1.symm) hown hts uw_6_50 (Nat.le_of_ble_eq_true rfl) (Nat.le_of_ble_eq_true rfl) (Nat.le_of_ble_eq_true rfl) (Nat.le_of_ble_eq_true rfl) dX5_oldestAge_17 (by omega) (by omega) (fun z_143 hz_143 => ?_)
    refine lv_istore_n (lv' := [(2, .int (mI z_143)), (3, .int (mI z_134)), (0, .ref (q (4 * iR))), (1, .int (mI p0))]) hx hb dX5_oldestAge_20 rfl hl (by decide) rfl (fun ls hl => ?_)
    refine lv_iinc (v := mI (z_134 + 1)) (lv' := [(3, .int (mI (z_134 + 1))), (2, .int (mI z_143)), (0, .ref (q (4 * iR))), (1, .int (mI p0))]) hx hb dX5_oldestAge_21 hl (k := 1) rfl (mI_ad rfl) (by decide) rfl (fun ls hl => ?_)
    refine lv_goto (tgt := 4) hx hb dX5_oldestAge_24 (by decide) ?_
    exact ih_140 _ _ _ _ (by omega) ⟨(z_134 + 1), z_143, _, by omega, by omega, rfl, hP, hS, lv_sub hl [0, 1, 2, 3] rfl, rfl⟩
set_option maxHeartbeats 4000000 in
set_option maxRecDepth 100000 in
theorem kc_X5_addStrokes {p0 p1 : Int} {iR : Nat} (hiR : iR < 44) (hp0 : 0 ≤ p0 ∧ p0 ≤ 7) (hp1 : 0 ≤ p1 ∧ p1 ≤ 4095) (b_Ph : pb (0) 4095 Ph) (b_Pg : pb (-2147483648) 2147483647 Pg) : MetG l D k yX5_addStrokes cX5_addStrokes 5 (some .int) 1 [.ref (q (4 * iR)), .int (mI p0), .int (mI p1)] (cW k a q x_xo_lyingCount x_tape_length x_tape_next x_tape_kind x_tape_place x_tape_number x_tape_faultKind x_tape_faultPlace x_told_turns x_told_mirror x_told_night x_told_draw x_told_herds x_told_irons x_told_beasts x_told_linesTold x_tfo_steps x_tfo_units x_draft_turns x_draft_mirror x_draft_night x_draft_draw x_draft_herds x_draft_irons x_draft_beasts x_draft_linesTold x_dfo_steps x_dfo_units x_lat_placements x_smi_irons x_smi_aim x_his_here x_his_undoable x_his_redoable x_book_placedCount x_wit_count x_wit_time n_tape_name B_xo_lying B_tape_bytes B_told_brands B_told_ironMarks B_told_homes B_told_births B_tfo_kinds B_tfo_numbers B_tfo_stack B_tfo_facts B_draft_brands B_draft_ironMarks B_draft_homes B_draft_births B_dfo_kinds B_dfo_numbers B_dfo_stack B_dfo_facts B_lat_lowHalves B_lat_highHalves B_lat_ways B_smi_placedIrons B_smi_within B_smi_costs B_his_isKept B_book_norms B_book_above B_book_heights B_book_placedBrands B_bea_firstGains B_bea_otherGains B_wit_burnings B_wit_strokes B_wit_wasOn B_wit_toldAt B_wit_untoldAt B_wit_on B_wit_off B_wit_firstCounts B_wit_secondCounts Ps Pd G_tape_wordNames G_told_herdNames G_told_ironNames G_told_beastNames G_draft_herdNames G_draft_ironNames G_draft_beastNames Ph Po Pg ex) (qGi (fun r0 H => ∃ (F_Ph : Nat → Nat → Int) (F_Pg : Nat → Nat → Int), (0 ≤ r0 ∧ r0 ≤ 12) ∧ (pb (0) 4095 F_Ph) ∧ (pb (-2147483648) 2147483647 F_Pg) ∧ va_P D vwCl (cW k a q x_xo_lyingCount x_tape_length x_tape_next x_tape_kind x_tape_place x_tape_number x_tape_faultKind x_tape_faultPlace x_told_turns x_told_mirror x_told_night x_told_draw x_told_herds x_told_irons x_told_beasts x_told_linesTold x_tfo_steps x_tfo_units x_draft_turns x_draft_mirror x_draft_night x_draft_draw x_draft_herds x_draft_irons x_draft_beasts x_draft_linesTold x_dfo_steps x_dfo_units x_lat_placements x_smi_irons x_smi_aim x_his_here x_his_undoable x_his_redoable x_book_placedCount x_wit_count x_wit_time n_tape_name B_xo_lying B_tape_bytes B_told_brands B_told_ironMarks B_told_homes B_told_births B_tfo_kinds B_tfo_numbers B_tfo_stack B_tfo_facts B_draft_brands B_draft_ironMarks B_draft_homes B_draft_births B_dfo_kinds B_dfo_numbers B_dfo_stack B_dfo_facts B_lat_lowHalves B_lat_highHalves B_lat_ways B_smi_placedIrons B_smi_within B_smi_costs B_his_isKept B_book_norms B_book_above B_book_heights B_book_placedBrands B_bea_firstGains B_bea_otherGains B_wit_burnings B_wit_strokes B_wit_wasOn B_wit_toldAt B_wit_untoldAt B_wit_on B_wit_off B_wit_firstCounts B_wit_secondCounts Ps Pd G_tape_wordNames G_told_herdNames G_told_ironNames G_told_beastNames G_draft_herdNames G_draft_ironNames G_draft_beastNames F_Ph Po F_Pg ex) H)) := by
  refine metG_of 2 ck_X5_addStrokes (Nat.le_of_ble_eq_true rfl) cMap (fun p e s m args below meth c A hx hb hml hr hlocks hown hts hK hD hA hP hS ls hl => ?_)
  have hown : s.vm.findClass "HideReader$Pasture" = some m.cls := hown
  have hl : lv_has ls 5 [(0, .ref (q (4 * iR))), (1, .int (mI p0)), (2, .int (mI p1))] := hl
  refine lv_iload_n hx hb dX5_addStrokes_0 rfl (lv_at hl 2 rfl) ?_
  refine lv_aload_n hx hb dX5_addStrokes_1 rfl (lv_at hl 0 rfl) ?_
  refine cg_past_hides (i := iR) (by omega) hx hb hts hown hK hP uw_2_86 dX5_addStrokes_2 ?_
  refine lv_iload_n hx hb dX5_addStrokes_5 rfl (lv_at hl 1 rfl) ?_
  refine cl_past_hides (i := iR) (by omega) hx hb hK hP dX5_addStrokes_6 (by omega) b_Ph (fun z_1 _ hz_1 => ?_)
  refine lv_iconst (v := mI (-1)) hx hb dX5_addStrokes_7 rfl ?_
  refine lv_ixor hx hb dX5_addStrokes_8 ?_
  refine sy_any (fun z_2 hz_2 => ?_)
  refine sy_iandL hx hb dX5_addStrokes_9 (by omega) (fun z_3 hz_3 => ?_)
  refine lv_istore_n (lv' := [(3, .int (mI z_3)), (0, .ref (q (4 * iR))), (1, .int (mI p0)), (2, .int (mI p1))]) hx hb dX5_addStrokes_10 rfl hl (by decide) rfl (fun ls hl => ?_)
  refine lv_iconst (v := mI 0) hx hb dX5_addStrokes_11 rfl ?_
  refine lv_istore (lv' := [(4, .int (mI 0)), (3, .int (mI z_3)), (0, .ref (q (4 * iR))), (1, .int (mI p0)), (2, .int (mI p1))]) hx hb dX5_addStrokes_12 hl (by decide) rfl (fun ls hl => ?_)
  refine sy_loop (I := fun n H locs g => ∃ (z_110 : Int) (F_111 : Nat → Nat → Int) (ls : Array Slot), (0 ≤ z_110 ∧ z_110 ≤ 12) ∧ (pb (-2147483648) 2147483647 F_111) ∧ (12 - z_110).toNat = n ∧ va_P D vwCl (cW k a q x_xo_lyingCount x_tape_length x_tape_next x_tape_kind x_tape_place x_tape_number x_tape_faultKind x_tape_faultPlace x_told_turns x_told_mirror x_told_night x_told_draw x_told_herds x_told_irons x_told_beasts x_told_linesTold x_tfo_steps x_tfo_units x_draft_turns x_draft_mirror x_draft_night x_draft_draw x_draft_herds x_draft_irons x_draft_beasts x_draft_linesTold x_dfo_steps x_dfo_units x_lat_placements x_smi_irons x_smi_aim x_his_here x_his_undoable x_his_redoable x_book_placedCount x_wit_count x_wit_time n_tape_name B_xo_lying B_tape_bytes B_told_brands B_told_ironMarks B_told_homes B_told_births B_tfo_kinds B_tfo_numbers B_tfo_stack B_tfo_facts B_draft_brands B_draft_ironMarks B_draft_homes B_draft_births B_dfo_kinds B_dfo_numbers B_dfo_stack B_dfo_facts B_lat_lowHalves B_lat_highHalves B_lat_ways B_smi_placedIrons B_smi_within B_smi_costs B_his_isKept B_book_norms B_book_above B_book_heights B_book_placedBrands B_bea_firstGains B_bea_otherGains B_wit_burnings B_wit_strokes B_wit_wasOn B_wit_toldAt B_wit_untoldAt B_wit_on B_wit_off B_wit_firstCounts B_wit_secondCounts Ps Pd G_tape_wordNames G_told_herdNames G_told_ironNames G_told_beastNames G_draft_herdNames G_draft_ironNames G_draft_beastNames Ph Po F_111 ex) H ∧ va_S A s.heap H locs ∧ lv_has ls 5 [(4, .int (mI z_110)), (3, .int (mI z_3)), (0, .ref (q (4 * iR))), (1, .int (mI p0)), (2, .int (mI p1))] ∧ g = F0 m 14 ls []) ?_ _ ⟨0, Pg, _, by omega, b_Pg, rfl, hP, hS, lv_sub hl [0, 1, 2, 3, 4] rfl, rfl⟩
  intro n_126 H locs g hI ih_127
  obtain ⟨z_110, F_111, ls, h14_0, bF_111, mn_126, hP, hS, hl, rfl⟩ := hI
  refine lv_iload hx hb dX5_addStrokes_14 (lv_at hl 0 rfl) ?_
  refine lv_bipush (v := mI 12) hx hb dX5_addStrokes_16 (by decide) ?_
  refine sy_icmp_ge (tgt := 49) hx hb dX5_addStrokes_18 (by decide) (by omega) (by decide) (fun c_133 => ?_) (fun c_133 => ?_)
  · skip
    refine lv_aload_n hx hb dX5_addStrokes_49 rfl (lv_at hl 2 rfl) ?_
    refine cg_past_hides (i := iR) (by omega) hx hb hts hown hK hP uw_2_86 dX5_addStrokes_50 ?_
    refine lv_iload_n hx hb dX5_addStrokes_53 rfl (lv_at hl 3 rfl) ?_
    refine lv_dup2_11 hx hb dX5_addStrokes_54 rfl rfl ?_
    refine cl_past_hides (i := iR) (by omega) hx hb hK hP dX5_addStrokes_55 (by omega) b_Ph (fun z_134 _ hz_134 => ?_)
    refine lv_iload_n hx hb dX5_addStrokes_56 rfl (lv_at hl 1 rfl) ?_
    refine sy_ior hx hb dX5_addStrokes_57 12 (by decide) 4096 (by decide) (by omega) (by omega) (fun z_135 hz_135 => ?_)
    refine cs_past_hides (i := iR) (by omega) hx hb hK hP hD hS dX5_addStrokes_58 (by omega) b_Ph (by omega) (fun F_136 H locs bF_136 hP hS => ?_)
    refine lv_iload_n hx hb dX5_addStrokes_59 rfl (lv_at hl 1 rfl) ?_
    refine g_i (cDt hD) hS hA (g_S (own := "HideReader$Pasture") (As := [.int (mI z_3)]) (rest := []) hx hb hml hown hts hK hP (cDt hD) (kc_bitCount (l := l) (D := D) (k := k) (by omega)) ck_J6_bitCount_0f7a4 uw_4_140 uw_4_211 rfl hl.1 rfl (Nat.le_of_ble_eq_true rfl) dX5_addStrokes_60 ⟨Nat.le_of_ble_eq_true rfl, Nat.le_of_ble_eq_true rfl⟩ ⟨Nat.le_of_ble_eq_true rfl, Nat.le_of_ble_eq_true rfl⟩) (fun r_137 H locs hQ hS => ?_)
    obtain ⟨hr_137_0, hP⟩ := hQ
    exact r_i hx hb hr hlocks dX5_addStrokes_63 hS ⟨F_136, F_111, by omega, bF_136, bF_111, hP⟩
  · skip
    refine lv_iload_n hx hb dX5_addStrokes_21 rfl (lv_at hl 1 rfl) ?_
    refine lv_iconst (v := mI 1) hx hb dX5_addStrokes_22 rfl ?_
    refine lv_iload hx hb dX5_addStrokes_23 (lv_at hl 0 rfl) ?_
    refine sy_shl1 hx hb dX5_addStrokes_25 11 (by decide) 2048 (by decide) (by omega) (fun z_138 ez_138 hz_138 => ?_)
    refine sy_iandR hx hb dX5_addStrokes_26 (by omega) (fun z_139 hz_139 => ?_)
    refine sy_if_eq (tgt := 43) hx hb dX5_addStrokes_27 (by decide) (by omega) (fun c_140 => ?_) (fun c_140 => ?_)
    · skip
      refine lv_iinc (v := mI (z_110 + 1)) (lv' := [(4, .int (mI (z_110 + 1))), (3, .int (mI z_3)), (0, .ref (q (4 * iR))), (1, .int (mI p0)), (2, .int (mI p1))]) hx hb dX5_addStrokes_43 hl (k := 0) rfl (mI_ad rfl) (by decide) rfl (fun ls hl => ?_)
      refine lv_goto (tgt := 14) hx hb dX5_addStrokes_46 (by decide) ?_
      exact ih_127 _ _ _ _ (by omega) ⟨(z_110 + 1), F_111, _, by omega, bF_111, rfl, hP, hS, lv_sub hl [0, 1, 2, 3, 4] rfl, rfl⟩
    · skip
      refine lv_aload_n hx hb dX5_addStrokes_30 rfl (lv_at hl 2 rfl) ?_
      refine cg_past_ages (i := iR) (by omega) hx hb hts hown hK hP uw_2_92 dX5_addStrokes_31 ?_
      refine lv_iload_n hx hb dX5_addStrokes_34 rfl (lv_at hl 3 rfl) ?_
      refine lv_bipush (v := mI 12) hx hb dX5_addStrokes_35 (by decide) ?_
      refine sy_imul hx hb dX5_addStrokes_37 (12 * p0) (by omega) ?_
      refine lv_iload hx hb dX5_addStrokes_38 (lv_at hl 0 rfl) ?_
      refine sy_iadd hx hb dX5_addStrokes_40 (12 * p0 + z_110) rfl ?_
      refine lv_iconst (v := mI 0) hx hb dX5_addStrokes_41 rfl ?_
      refine cs_past_ages (i := iR) (by omega) hx hb hK hP hD hS dX5_addStrokes_42 (by omega) bF_111 (by omega) (fun F_141 H locs bF_141 hP hS => ?_)
      refine lv_iinc (v := mI (z_110 + 1)) (lv' := [(4, .int (mI (z_110 + 1))), (3, .int (mI z_3)), (0, .ref (q (4 * iR))), (1, .int (mI p0)), (2, .int (mI p1))]) hx hb dX5_addStrokes_43 hl (k := 0) rfl (mI_ad rfl) (by decide) rfl (fun ls hl => ?_)
      refine lv_goto (tgt := 14) hx hb dX5_addStrokes_46 (by decide) ?_
      exact ih_127 _ _ _ _ (by omega) ⟨(z_110 + 1), F_141, _, by omega, bF_141, rfl, hP, hS, lv_sub hl [0, 1, 2, 3, 4] rfl, rfl⟩
set_option maxHeartbeats 4000000 in
set_option maxRecDepth 100000 in
theorem kc_X5_growOld {iR : Nat} (hiR : iR < 44) (b_Ps : bd (-2147483648) 2147483647 Ps) (b_Pg : pb (-2147483648) 2147483647 Pg) : MetG l D k yX5_growOld cX5_growOld 2 none 1 [.ref (q (4 * iR))] (cW k a q x_xo_lyingCount x_tape_length x_tape_next x_tape_kind x_tape_place x_tape_number x_tape_faultKind x_tape_faultPlace x_told_turns x_told_mirror x_told_night x_told_draw x_told_herds x_told_irons x_told_beasts x_told_linesTold x_tfo_steps x_tfo_units x_draft_turns x_draft_mirror x_draft_night x_draft_draw x_draft_herds x_draft_irons x_draft_beasts x_draft_linesTold x_dfo_steps x_dfo_units x_lat_placements x_smi_irons x_smi_aim x_his_here x_his_undoable x_his_redoable x_book_placedCount x_wit_count x_wit_time n_tape_name B_xo_lying B_tape_bytes B_told_brands B_told_ironMarks B_told_homes B_told_births B_tfo_kinds B_tfo_numbers B_tfo_stack B_tfo_facts B_draft_brands B_draft_ironMarks B_draft_homes B_draft_births B_dfo_kinds B_dfo_numbers B_dfo_stack B_dfo_facts B_lat_lowHalves B_lat_highHalves B_lat_ways B_smi_placedIrons B_smi_within B_smi_costs B_his_isKept B_book_norms B_book_above B_book_heights B_book_placedBrands B_bea_firstGains B_bea_otherGains B_wit_burnings B_wit_strokes B_wit_wasOn B_wit_toldAt B_wit_untoldAt B_wit_on B_wit_off B_wit_firstCounts B_wit_secondCounts Ps Pd G_tape_wordNames G_told_herdNames G_told_ironNames G_told_beastNames G_draft_herdNames G_draft_ironNames G_draft_beastNames Ph Po Pg ex) (qGv (fun H => ∃ (F_Ps : Nat → Int) (F_Pg : Nat → Nat → Int), (bd (-2147483648) 2147483647 F_Ps) ∧ (pb (-2147483648) 2147483647 F_Pg) ∧ va_P D vwCl (cW k a q x_xo_lyingCount x_tape_length x_tape_next x_tape_kind x_tape_place x_tape_number x_tape_faultKind x_tape_faultPlace x_told_turns x_told_mirror x_told_night x_told_draw x_told_herds x_told_irons x_told_beasts x_told_linesTold x_tfo_steps x_tfo_units x_draft_turns x_draft_mirror x_draft_night x_draft_draw x_draft_herds x_draft_irons x_draft_beasts x_draft_linesTold x_dfo_steps x_dfo_units x_lat_placements x_smi_irons x_smi_aim x_his_here x_his_undoable x_his_redoable x_book_placedCount x_wit_count x_wit_time n_tape_name B_xo_lying B_tape_bytes B_told_brands B_told_ironMarks B_told_homes B_told_births B_tfo_kinds B_tfo_numbers B_tfo_stack B_tfo_facts B_draft_brands B_draft_ironMarks B_draft_homes B_draft_births B_dfo_kinds B_dfo_numbers B_dfo_stack B_dfo_facts B_lat_lowHalves B_lat_highHalves B_lat_ways B_smi_placedIrons B_smi_within B_smi_costs B_his_isKept B_book_norms B_book_above B_book_heights B_book_placedBrands B_bea_firstGains B_bea_otherGains B_wit_burnings B_wit_strokes B_wit_wasOn B_wit_toldAt B_wit_untoldAt B_wit_on B_wit_off B_wit_firstCounts B_wit_secondCounts F_Ps Pd G_tape_wordNames G_told_herdNames G_told_ironNames G_told_beastNames G_draft_herdNames G_draft_ironNames G_draft_beastNames Ph Po F_Pg ex) H)) := by
  refine metG_of 0 ck_X5_growOld (Nat.le_of_ble_eq_true rfl) cMap (fun p e s m args below meth c A hx hb hml hr hlocks hown hts hK hD hA hP hS ls hl => ?_)
  have hown : s.vm.findClass "HideReader$Pasture" = some m.cls := hown
  have hl : lv_has ls 2 [(0, .ref (q (4 * iR)))] := hl
  refine lv_aload_n hx hb dX5_growOld_0 rfl (lv_at hl 0 rfl) ?_
  refine lv_dup hx hb dX5_growOld_1 rfl ?_
  refine cg_past_seasons (i := iR) (by omega) hx hb hts hown hK hP uw_2_93 dX5_growOld_2 b_Ps (fun z_1 _ hz_1 => ?_)
  refine lv_iconst (v := mI 1) hx hb dX5_growOld_5 rfl ?_
  refine sy_iadd hx hb dX5_growOld_6 (z_1 + 1) rfl ?_
  refine sy_any (fun z_2 hz_2 => ?_)
  refine cp_past_seasons (i := iR) (by omega) hx hb hts hown hK hP hD hS uw_2_93 dX5_growOld_7 b_Ps (by omega) (fun F_3 H locs bF_3 hP hS => ?_)
  refine lv_iconst (v := mI 0) hx hb dX5_growOld_10 rfl ?_
  refine lv_istore_n (lv' := [(1, .int (mI 0)), (0, .ref (q (4 * iR)))]) hx hb dX5_growOld_11 rfl hl (by decide) rfl (fun ls hl => ?_)
  refine sy_loop (I := fun n H locs g => ∃ (z_46 : Int) (F_47 : Nat → Nat → Int) (ls : Array Slot), (0 ≤ z_46 ∧ z_46 ≤ 96) ∧ (pb (-2147483648) 2147483647 F_47) ∧ (96 - z_46).toNat = n ∧ va_P D vwCl (cW k a q x_xo_lyingCount x_tape_length x_tape_next x_tape_kind x_tape_place x_tape_number x_tape_faultKind x_tape_faultPlace x_told_turns x_told_mirror x_told_night x_told_draw x_told_herds x_told_irons x_told_beasts x_told_linesTold x_tfo_steps x_tfo_units x_draft_turns x_draft_mirror x_draft_night x_draft_draw x_draft_herds x_draft_irons x_draft_beasts x_draft_linesTold x_dfo_steps x_dfo_units x_lat_placements x_smi_irons x_smi_aim x_his_here x_his_undoable x_his_redoable x_book_placedCount x_wit_count x_wit_time n_tape_name B_xo_lying B_tape_bytes B_told_brands B_told_ironMarks B_told_homes B_told_births B_tfo_kinds B_tfo_numbers B_tfo_stack B_tfo_facts B_draft_brands B_draft_ironMarks B_draft_homes B_draft_births B_dfo_kinds B_dfo_numbers B_dfo_stack B_dfo_facts B_lat_lowHalves B_lat_highHalves B_lat_ways B_smi_placedIrons B_smi_within B_smi_costs B_his_isKept B_book_norms B_book_above B_book_heights B_book_placedBrands B_bea_firstGains B_bea_otherGains B_wit_burnings B_wit_strokes B_wit_wasOn B_wit_toldAt B_wit_untoldAt B_wit_on B_wit_off B_wit_firstCounts B_wit_secondCounts F_3 Pd G_tape_wordNames G_told_herdNames G_told_ironNames G_told_beastNames G_draft_herdNames G_draft_ironNames G_draft_beastNames Ph Po F_47 ex) H ∧ va_S A s.heap H locs ∧ lv_has ls 2 [(1, .int (mI z_46)), (0, .ref (q (4 * iR)))] ∧ g = F0 m 12 ls []) ?_ _ ⟨0, Pg, _, by omega, b_Pg, rfl, hP, hS, lv_sub hl [0, 1] rfl, rfl⟩
  intro n_53 H locs g hI ih_54
  obtain ⟨z_46, F_47, ls, h12_0, bF_47, mn_53, hP, hS, hl, rfl⟩ := hI
  refine lv_iload_n hx hb dX5_growOld_12 rfl (lv_at hl 0 rfl) ?_
  refine lv_aload_n hx hb dX5_growOld_13 rfl (lv_at hl 1 rfl) ?_
  refine cg_past_ages (i := iR) (by omega) hx hb hts hown hK hP uw_2_92 dX5_growOld_14 ?_
  refine cn_past_ages (i := iR) (by omega) hx hb hK hP dX5_growOld_17 ?_
  refine sy_icmp_ge (tgt := 47) hx hb dX5_growOld_18 (by decide) (by omega) (by decide) (fun c_55 => ?_) (fun c_55 => ?_)
  · skip
    exact r_v hx hb hr hlocks dX5_growOld_47 hS ⟨F_3, F_47, bF_3, bF_47, hP⟩
  · skip
    refine lv_aload_n hx hb dX5_growOld_21 rfl (lv_at hl 1 rfl) ?_
    refine cg_past_ages (i := iR) (by omega) hx hb hts hown hK hP uw_2_92 dX5_growOld_22 ?_
    refine lv_iload_n hx hb dX5_growOld_25 rfl (lv_at hl 0 rfl) ?_
    refine lv_aload_n hx hb dX5_growOld_26 rfl (lv_at hl 1 rfl) ?_
    refine cg_past_ages (i := iR) (by omega) hx hb hts hown hK hP uw_2_92 dX5_growOld_27 ?_
    refine lv_iload_n hx hb dX5_growOld_30 rfl (lv_at hl 0 rfl) ?_
    refine cl_past_ages (i := iR) (by omega) hx hb hK hP dX5_growOld_31 (by omega) bF_47 (fun z_56 _ hz_56 => ?_)
    refine lv_iconst (v := mI 1) hx hb dX5_growOld_32 rfl ?_
    refine sy_iadd hx hb dX5_growOld_33 (z_56 + 1) rfl ?_
    refine sy_any (fun z_57 hz_57 => ?_)
    refine lv_sipush (v := mI 999) hx hb dX5_growOld_34 (by decide) ?_
    refine sy_min hx hb (hml.trans hl.1.symm) hown hts uw_4_202 (Nat.le_of_ble_eq_true rfl) (Nat.le_of_ble_eq_true rfl) (Nat.le_of_ble_eq_true rfl) (Nat.le_of_ble_eq_true rfl) dX5_growOld_37 (by omega) (by decide) (fun z_58 hz_58 => ?_)
    refine cs_past_ages (i := iR) (by omega) hx hb hK hP hD hS dX5_growOld_40 (by omega) bF_47 (by omega) (fun F_59 H locs bF_59 hP hS => ?_)
    refine lv_iinc (v := mI (z_46 + 1)) (lv' := [(1, .int (mI (z_46 + 1))), (0, .ref (q (4 * iR)))]) hx hb dX5_growOld_41 hl (k := 0) rfl (mI_ad rfl) (by decide) rfl (fun ls hl => ?_)
    refine lv_goto (tgt := 12) hx hb dX5_growOld_44 (by decide) ?_
    exact ih_54 _ _ _ _ (by omega) ⟨(z_46 + 1), F_59, _, by omega, bF_59, rfl, hP, hS, lv_sub hl [0, 1] rfl, rfl⟩
set_option maxHeartbeats 4000000 in
set_option maxRecDepth 100000 in
theorem kc_X5_passNights_past_told {iR : Nat} (hiR : iR < 44) (h_x_told_night : -2147483648 ≤ x_told_night ∧ x_told_night ≤ 2147483647) (h_x_told_beasts : 0 ≤ x_told_beasts ∧ x_told_beasts ≤ 8) (b_Pd : bd (0) 999 Pd) (b_Ph : pb (0) 4095 Ph) (b_Pg : pb (-2147483648) 2147483647 Pg) : MetG l D k yX5_passNights cX5_passNights 4 (some .int) 2 [.ref (q (4 * iR)), .ref (a 5)] (cW k a q x_xo_lyingCount x_tape_length x_tape_next x_tape_kind x_tape_place x_tape_number x_tape_faultKind x_tape_faultPlace x_told_turns x_told_mirror x_told_night x_told_draw x_told_herds x_told_irons x_told_beasts x_told_linesTold x_tfo_steps x_tfo_units x_draft_turns x_draft_mirror x_draft_night x_draft_draw x_draft_herds x_draft_irons x_draft_beasts x_draft_linesTold x_dfo_steps x_dfo_units x_lat_placements x_smi_irons x_smi_aim x_his_here x_his_undoable x_his_redoable x_book_placedCount x_wit_count x_wit_time n_tape_name B_xo_lying B_tape_bytes B_told_brands B_told_ironMarks B_told_homes B_told_births B_tfo_kinds B_tfo_numbers B_tfo_stack B_tfo_facts B_draft_brands B_draft_ironMarks B_draft_homes B_draft_births B_dfo_kinds B_dfo_numbers B_dfo_stack B_dfo_facts B_lat_lowHalves B_lat_highHalves B_lat_ways B_smi_placedIrons B_smi_within B_smi_costs B_his_isKept B_book_norms B_book_above B_book_heights B_book_placedBrands B_bea_firstGains B_bea_otherGains B_wit_burnings B_wit_strokes B_wit_wasOn B_wit_toldAt B_wit_untoldAt B_wit_on B_wit_off B_wit_firstCounts B_wit_secondCounts Ps Pd G_tape_wordNames G_told_herdNames G_told_ironNames G_told_beastNames G_draft_herdNames G_draft_ironNames G_draft_beastNames Ph Po Pg ex) (qGi (fun r0 H => ∃ (F_Pd : Nat → Int) (F_Ph : Nat → Nat → Int) (F_Pg : Nat → Nat → Int), (0 ≤ r0 ∧ r0 ≤ 255) ∧ (bd (0) 999 F_Pd) ∧ (pb (0) 4095 F_Ph) ∧ (pb (-2147483648) 2147483647 F_Pg) ∧ va_P D vwCl (cW k a q x_xo_lyingCount x_tape_length x_tape_next x_tape_kind x_tape_place x_tape_number x_tape_faultKind x_tape_faultPlace x_told_turns x_told_mirror x_told_night x_told_draw x_told_herds x_told_irons x_told_beasts x_told_linesTold x_tfo_steps x_tfo_units x_draft_turns x_draft_mirror x_draft_night x_draft_draw x_draft_herds x_draft_irons x_draft_beasts x_draft_linesTold x_dfo_steps x_dfo_units x_lat_placements x_smi_irons x_smi_aim x_his_here x_his_undoable x_his_redoable x_book_placedCount x_wit_count x_wit_time n_tape_name B_xo_lying B_tape_bytes B_told_brands B_told_ironMarks B_told_homes B_told_births B_tfo_kinds B_tfo_numbers B_tfo_stack B_tfo_facts B_draft_brands B_draft_ironMarks B_draft_homes B_draft_births B_dfo_kinds B_dfo_numbers B_dfo_stack B_dfo_facts B_lat_lowHalves B_lat_highHalves B_lat_ways B_smi_placedIrons B_smi_within B_smi_costs B_his_isKept B_book_norms B_book_above B_book_heights B_book_placedBrands B_bea_firstGains B_bea_otherGains B_wit_burnings B_wit_strokes B_wit_wasOn B_wit_toldAt B_wit_untoldAt B_wit_on B_wit_off B_wit_firstCounts B_wit_secondCounts Ps F_Pd G_tape_wordNames G_told_herdNames G_told_ironNames G_told_beastNames G_draft_herdNames G_draft_ironNames G_draft_beastNames F_Ph Po F_Pg ex) H)) := by
  refine metG_of 1 ck_X5_passNights (Nat.le_of_ble_eq_true rfl) cMap (fun p e s m args below meth c A hx hb hml hr hlocks hown hts hK hD hA hP hS ls hl => ?_)
  have hown : s.vm.findClass "HideReader$Pasture" = some m.cls := hown
  have hl : lv_has ls 4 [(0, .ref (q (4 * iR))), (1, .ref (a 5))] := hl
  refine lv_iconst (v := mI 0) hx hb dX5_passNights_0 rfl ?_
  refine lv_istore_n (lv' := [(2, .int (mI 0)), (0, .ref (q (4 * iR))), (1, .ref (a 5))]) hx hb dX5_passNights_1 rfl hl (by decide) rfl (fun ls hl => ?_)
  refine lv_iconst (v := mI 0) hx hb dX5_passNights_2 rfl ?_
  refine lv_istore_n (lv' := [(3, .int (mI 0)), (2, .int (mI 0)), (0, .ref (q (4 * iR))), (1, .ref (a 5))]) hx hb dX5_passNights_3 rfl hl (by decide) rfl (fun ls hl => ?_)
  refine sy_loop (I := fun n H locs g => ∃ (z_416 : Int) (z_417 : Int) (F_418 : Nat → Int) (F_419 : Nat → Nat → Int) (F_420 : Nat → Nat → Int) (ls : Array Slot), (0 ≤ z_416 ∧ z_416 ≤ 8) ∧ (0 ≤ z_417 ∧ z_417 ≤ 255) ∧ (bd (0) 999 F_418) ∧ (pb (0) 4095 F_419) ∧ (pb (-2147483648) 2147483647 F_420) ∧ (8 - z_416).toNat = n ∧ va_P D vwCl (cW k a q x_xo_lyingCount x_tape_length x_tape_next x_tape_kind x_tape_place x_tape_number x_tape_faultKind x_tape_faultPlace x_told_turns x_told_mirror x_told_night x_told_draw x_told_herds x_told_irons x_told_beasts x_told_linesTold x_tfo_steps x_tfo_units x_draft_turns x_draft_mirror x_draft_night x_draft_draw x_draft_herds x_draft_irons x_draft_beasts x_draft_linesTold x_dfo_steps x_dfo_units x_lat_placements x_smi_irons x_smi_aim x_his_here x_his_undoable x_his_redoable x_book_placedCount x_wit_count x_wit_time n_tape_name B_xo_lying B_tape_bytes B_told_brands B_told_ironMarks B_told_homes B_told_births B_tfo_kinds B_tfo_numbers B_tfo_stack B_tfo_facts B_draft_brands B_draft_ironMarks B_draft_homes B_draft_births B_dfo_kinds B_dfo_numbers B_dfo_stack B_dfo_facts B_lat_lowHalves B_lat_highHalves B_lat_ways B_smi_placedIrons B_smi_within B_smi_costs B_his_isKept B_book_norms B_book_above B_book_heights B_book_placedBrands B_bea_firstGains B_bea_otherGains B_wit_burnings B_wit_strokes B_wit_wasOn B_wit_toldAt B_wit_untoldAt B_wit_on B_wit_off B_wit_firstCounts B_wit_secondCounts Ps F_418 G_tape_wordNames G_told_herdNames G_told_ironNames G_told_beastNames G_draft_herdNames G_draft_ironNames G_draft_beastNames F_419 Po F_420 ex) H ∧ va_S A s.heap H locs ∧ lv_has ls 4 [(3, .int (mI z_416)), (2, .int (mI z_417)), (0, .ref (q (4 * iR))), (1, .ref (a 5))] ∧ g = F0 m 4 ls []) ?_ _ ⟨0, 0, Pd, Ph, Pg, _, by omega, by omega, b_Pd, b_Ph, b_Pg, rfl, hP, hS, lv_sub hl [0, 1, 2, 3] rfl, rfl⟩
  intro n_436 H locs g hI ih_437
  obtain ⟨z_416, z_417, F_418, F_419, F_420, ls, h4_0, h4_1, bF_418, bF_419, bF_420, mn_436, hP, hS, hl, rfl⟩ := hI
  refine lv_iload_n hx hb dX5_passNights_4 rfl (lv_at hl 0 rfl) ?_
  refine lv_aload_n hx hb dX5_passNights_5 rfl (lv_at hl 3 rfl) ?_
  refine cg_told_beasts hx hb hts hown hK hP uw_1_179 dX5_passNights_6 ?_
  refine sy_icmp_ge (tgt := 72) hx hb dX5_passNights_9 (by decide) (by omega) (by omega) (fun c_438 => ?_) (fun c_438 => ?_)
  · skip
    refine lv_iload_n hx hb dX5_passNights_72 rfl (lv_at hl 1 rfl) ?_
    exact r_i hx hb hr hlocks dX5_passNights_73 hS ⟨F_418, F_419, F_420, by omega, bF_418, bF_419, bF_420, hP⟩
  · skip
    refine lv_aload_n hx hb dX5_passNights_12 rfl (lv_at hl 2 rfl) ?_
    refine lv_sipush (v := mI 137) hx hb dX5_passNights_13 (by decide) ?_
    refine lv_aload_n hx hb dX5_passNights_16 rfl (lv_at hl 2 rfl) ?_
    refine cg_past_seed (i := iR) (by omega) hx hb hts hown hK hP uw_2_97 dX5_passNights_17 bF_418 (fun z_439 _ hz_439 => ?_)
    refine sy_imul hx hb dX5_passNights_20 (137 * z_439) rfl ?_
    refine lv_bipush (v := mI 71) hx hb dX5_passNights_21 (by decide) ?_
    refine sy_iadd hx hb dX5_passNights_23 (137 * z_439 + 71) rfl ?_
    refine lv_sipush (v := mI 1000) hx hb dX5_passNights_24 (by decide) ?_
    refine sy_irem hx hb dX5_passNights_27 (by omega) (by omega) (fun z_440 ez_440 hz_440 => ?_)
    refine cp_past_seed (i := iR) (by omega) hx hb hts hown hK hP hD hS uw_2_97 dX5_passNights_28 bF_418 (by omega) (fun F_441 H locs bF_441 hP hS => ?_)
    refine lv_aload_n hx hb dX5_passNights_31 rfl (lv_at hl 2 rfl) ?_
    refine cg_past_seed (i := iR) (by omega) hx hb hts hown hK hP uw_2_97 dX5_passNights_32 bF_441 (fun z_442 _ hz_442 => ?_)
    refine lv_bipush (v := mI 100) hx hb dX5_passNights_35 (by decide) ?_
    refine sy_irem hx hb dX5_passNights_37 (by omega) (by omega) (fun z_443 ez_443 hz_443 => ?_)
    refine lv_aload_n hx hb dX5_passNights_38 rfl (lv_at hl 3 rfl) ?_
    refine cg_told_night hx hb hts hown hK hP uw_1_163 dX5_passNights_39 ?_
    refine sy_icmp_ge (tgt := 66) hx hb dX5_passNights_42 (by decide) (by omega) (by omega) (fun c_444 => ?_) (fun c_444 => ?_)
    · skip
      refine lv_iinc (v := mI (z_416 + 1)) (lv' := [(3, .int (mI (z_416 + 1))), (2, .int (mI z_417)), (0, .ref (q (4 * iR))), (1, .ref (a 5))]) hx hb dX5_passNights_66 hl (k := 0) rfl (mI_ad rfl) (by decide) rfl (fun ls hl => ?_)
      refine lv_goto (tgt := 4) hx hb dX5_passNights_69 (by decide) ?_
      exact ih_437 _ _ _ _ (by omega) ⟨(z_416 + 1), z_417, F_441, F_419, F_420, _, by omega, by omega, bF_441, bF_419, bF_420, rfl, hP, hS, lv_sub hl [0, 1, 2, 3] rfl, rfl⟩
    · skip
      refine lv_iload_n hx hb dX5_passNights_45 rfl (lv_at hl 1 rfl) ?_
      refine lv_iconst (v := mI 1) hx hb dX5_passNights_46 rfl ?_
      refine lv_iload_n hx hb dX5_passNights_47 rfl (lv_at hl 0 rfl) ?_
      refine sy_shl1 hx hb dX5_passNights_48 7 (by decide) 128 (by decide) (by omega) (fun z_445 ez_445 hz_445 => ?_)
      refine sy_ior hx hb dX5_passNights_49 8 (by decide) 256 (by decide) (by omega) (by omega) (fun z_446 hz_446 => ?_)
      refine lv_istore_n (lv' := [(2, .int (mI z_446)), (3, .int (mI z_416)), (0, .ref (q (4 * iR))), (1, .ref (a 5))]) hx hb dX5_passNights_50 rfl hl (by decide) rfl (fun ls hl => ?_)
      refine lv_aload_n hx hb dX5_passNights_51 rfl (lv_at hl 2 rfl) ?_
      refine lv_iload_n hx hb dX5_passNights_52 rfl (lv_at hl 1 rfl) ?_
      refine lv_iconst (v := mI 1) hx hb dX5_passNights_53 rfl ?_
      refine lv_aload_n hx hb dX5_passNights_54 rfl (lv_at hl 2 rfl) ?_
      refine cg_past_seed (i := iR) (by omega) hx hb hts hown hK hP uw_2_97 dX5_passNights_55 bF_441 (fun z_447 _ hz_447 => ?_)
      refine lv_bipush (v := mI 12) hx hb dX5_passNights_58 (by decide) ?_
      refine sy_irem hx hb dX5_passNights_60 (by omega) (by omega) (fun z_448 ez_448 hz_448 => ?_)
      refine sy_shl1 hx hb dX5_passNights_61 11 (by decide) 2048 (by decide) (by omega) (fun z_449 ez_449 hz_449 => ?_)
      refine g_i (cDt hD) hS hA (g_V (own := "HideReader$Pasture") (As := [.int (mI z_416), .int (mI z_449)]) (rest := []) hx hb hml hown hts hK hP (cDt hD) (kc_X5_addStrokes (l := l) (D := D) (k := k) (iR := iR) (by omega) (by omega) (by omega) bF_419 bF_420) ck_X5_addStrokes iv_X5_addStrokes uw_4_207 (cv_past (i := iR) (by omega) hK hP) rfl hl.1 rfl (Nat.le_of_ble_eq_true rfl) dX5_passNights_62 ⟨Nat.le_of_ble_eq_true rfl, Nat.le_of_ble_eq_true rfl⟩ ⟨Nat.le_of_ble_eq_true rfl, Nat.le_of_ble_eq_true rfl⟩) (fun r_450 H locs hQ hS => ?_)
      obtain ⟨F_451, F_452, hr_450_0, bF_451, bF_452, hP⟩ := hQ
      refine lv_pop hx hb dX5_passNights_65 rfl ?_
      refine lv_iinc (v := mI (z_416 + 1)) (lv' := [(3, .int (mI (z_416 + 1))), (2, .int (mI z_446)), (0, .ref (q (4 * iR))), (1, .ref (a 5))]) hx hb dX5_passNights_66 hl (k := 1) rfl (mI_ad rfl) (by decide) rfl (fun ls hl => ?_)
      refine lv_goto (tgt := 4) hx hb dX5_passNights_69 (by decide) ?_
      exact ih_437 _ _ _ _ (by omega) ⟨(z_416 + 1), z_446, F_441, F_451, F_452, _, by omega, by omega, bF_441, bF_451, bF_452, rfl, hP, hS, lv_sub hl [0, 1, 2, 3] rfl, rfl⟩
set_option maxHeartbeats 4000000 in
set_option maxRecDepth 100000 in
theorem kc_X6_layOut_smi_told (h_x_told_irons : 0 ≤ x_told_irons ∧ x_told_irons ≤ 6) (h_x_lat_placements : 1 ≤ x_lat_placements ∧ x_lat_placements ≤ 8) (b_B_told_ironMarks : bd (-2147483648) 2147483647 B_told_ironMarks) (b_B_lat_lowHalves : bd (0) 4095 B_lat_lowHalves) (b_B_lat_highHalves : bd (0) 4095 B_lat_highHalves) (b_B_lat_ways : bd (0) 7 B_lat_ways) (b_B_smi_placedIrons : bd (0) 4095 B_smi_placedIrons) : MetG l D k yX6_layOut cX6_layOut 4 none 1 [.ref (a 36), .ref (a 5)] (cW k a q x_xo_lyingCount x_tape_length x_tape_next x_tape_kind x_tape_place x_tape_number x_tape_faultKind x_tape_faultPlace x_told_turns x_told_mirror x_told_night x_told_draw x_told_herds x_told_irons x_told_beasts x_told_linesTold x_tfo_steps x_tfo_units x_draft_turns x_draft_mirror x_draft_night x_draft_draw x_draft_herds x_draft_irons x_draft_beasts x_draft_linesTold x_dfo_steps x_dfo_units x_lat_placements x_smi_irons x_smi_aim x_his_here x_his_undoable x_his_redoable x_book_placedCount x_wit_count x_wit_time n_tape_name B_xo_lying B_tape_bytes B_told_brands B_told_ironMarks B_told_homes B_told_births B_tfo_kinds B_tfo_numbers B_tfo_stack B_tfo_facts B_draft_brands B_draft_ironMarks B_draft_homes B_draft_births B_dfo_kinds B_dfo_numbers B_dfo_stack B_dfo_facts B_lat_lowHalves B_lat_highHalves B_lat_ways B_smi_placedIrons B_smi_within B_smi_costs B_his_isKept B_book_norms B_book_above B_book_heights B_book_placedBrands B_bea_firstGains B_bea_otherGains B_wit_burnings B_wit_strokes B_wit_wasOn B_wit_toldAt B_wit_untoldAt B_wit_on B_wit_off B_wit_firstCounts B_wit_secondCounts Ps Pd G_tape_wordNames G_told_herdNames G_told_ironNames G_told_beastNames G_draft_herdNames G_draft_ironNames G_draft_beastNames Ph Po Pg ex) (qGv (fun H => ∃ (F_smi_placedIrons : Nat → Int) (y_smi_irons : Int) (y_smi_aim : Int), (bd (0) 4095 F_smi_placedIrons) ∧ (0 ≤ y_smi_irons ∧ y_smi_irons ≤ 6) ∧ (-1 ≤ y_smi_aim ∧ y_smi_aim ≤ -1) ∧ va_P D vwCl (cW k a q x_xo_lyingCount x_tape_length x_tape_next x_tape_kind x_tape_place x_tape_number x_tape_faultKind x_tape_faultPlace x_told_turns x_told_mirror x_told_night x_told_draw x_told_herds x_told_irons x_told_beasts x_told_linesTold x_tfo_steps x_tfo_units x_draft_turns x_draft_mirror x_draft_night x_draft_draw x_draft_herds x_draft_irons x_draft_beasts x_draft_linesTold x_dfo_steps x_dfo_units x_lat_placements y_smi_irons y_smi_aim x_his_here x_his_undoable x_his_redoable x_book_placedCount x_wit_count x_wit_time n_tape_name B_xo_lying B_tape_bytes B_told_brands B_told_ironMarks B_told_homes B_told_births B_tfo_kinds B_tfo_numbers B_tfo_stack B_tfo_facts B_draft_brands B_draft_ironMarks B_draft_homes B_draft_births B_dfo_kinds B_dfo_numbers B_dfo_stack B_dfo_facts B_lat_lowHalves B_lat_highHalves B_lat_ways F_smi_placedIrons B_smi_within B_smi_costs B_his_isKept B_book_norms B_book_above B_book_heights B_book_placedBrands B_bea_firstGains B_bea_otherGains B_wit_burnings B_wit_strokes B_wit_wasOn B_wit_toldAt B_wit_untoldAt B_wit_on B_wit_off B_wit_firstCounts B_wit_secondCounts Ps Pd G_tape_wordNames G_told_herdNames G_told_ironNames G_told_beastNames G_draft_herdNames G_draft_ironNames G_draft_beastNames Ph Po Pg ex) H)) := by
  refine metG_of 1 ck_X6_layOut (Nat.le_of_ble_eq_true rfl) cMap (fun p e s m args below meth c A hx hb hml hr hlocks hown hts hK hD hA hP hS ls hl => ?_)
  have hown : s.vm.findClass "HideReader$Smith" = some m.cls := hown
  have hl : lv_has ls 4 [(0, .ref (a 36)), (1, .ref (a 5))] := hl
  refine lv_aload_n hx hb dX6_layOut_0 rfl (lv_at hl 0 rfl) ?_
  refine lv_aload_n hx hb dX6_layOut_1 rfl (lv_at hl 1 rfl) ?_
  refine cg_told_irons hx hb hts hown hK hP uw_1_174 dX6_layOut_2 ?_
  refine cp_smi_irons hx hb hts hown hK hP hD hS uw_2_58 dX6_layOut_5 (fun H locs hP hS => ?_)
  refine lv_aload_n hx hb dX6_layOut_8 rfl (lv_at hl 0 rfl) ?_
  refine lv_iconst (v := mI (-1)) hx hb dX6_layOut_9 rfl ?_
  refine cp_smi_aim hx hb hts hown hK hP hD hS uw_2_59 dX6_layOut_10 (fun H locs hP hS => ?_)
  refine lv_iconst (v := mI 0) hx hb dX6_layOut_13 rfl ?_
  refine lv_istore_n (lv' := [(2, .int (mI 0)), (0, .ref (a 36)), (1, .ref (a 5))]) hx hb dX6_layOut_14 rfl hl (by decide) rfl (fun ls hl => ?_)
  refine sy_loop (I := fun n H locs g => ∃ (z_447 : Int) (F_448 : Nat → Int) (ls : Array Slot), (0 ≤ z_447 ∧ z_447 ≤ 6) ∧ (bd (0) 4095 F_448) ∧ (6 - z_447).toNat = n ∧ va_P D vwCl (cW k a q x_xo_lyingCount x_tape_length x_tape_next x_tape_kind x_tape_place x_tape_number x_tape_faultKind x_tape_faultPlace x_told_turns x_told_mirror x_told_night x_told_draw x_told_herds x_told_irons x_told_beasts x_told_linesTold x_tfo_steps x_tfo_units x_draft_turns x_draft_mirror x_draft_night x_draft_draw x_draft_herds x_draft_irons x_draft_beasts x_draft_linesTold x_dfo_steps x_dfo_units x_lat_placements x_told_irons (-1) x_his_here x_his_undoable x_his_redoable x_book_placedCount x_wit_count x_wit_time n_tape_name B_xo_lying B_tape_bytes B_told_brands B_told_ironMarks B_told_homes B_told_births B_tfo_kinds B_tfo_numbers B_tfo_stack B_tfo_facts B_draft_brands B_draft_ironMarks B_draft_homes B_draft_births B_dfo_kinds B_dfo_numbers B_dfo_stack B_dfo_facts B_lat_lowHalves B_lat_highHalves B_lat_ways F_448 B_smi_within B_smi_costs B_his_isKept B_book_norms B_book_above B_book_heights B_book_placedBrands B_bea_firstGains B_bea_otherGains B_wit_burnings B_wit_strokes B_wit_wasOn B_wit_toldAt B_wit_untoldAt B_wit_on B_wit_off B_wit_firstCounts B_wit_secondCounts Ps Pd G_tape_wordNames G_told_herdNames G_told_ironNames G_told_beastNames G_draft_herdNames G_draft_ironNames G_draft_beastNames Ph Po Pg ex) H ∧ va_S A s.heap H locs ∧ lv_has ls 4 [(2, .int (mI z_447)), (0, .ref (a 36)), (1, .ref (a 5))] ∧ g = F0 m 15 ls []) ?_ _ ⟨0, B_smi_placedIrons, _, by omega, b_B_smi_placedIrons, rfl, hP, hS, lv_sub hl [0, 1, 2] rfl, rfl⟩
  intro n_511 H locs g hI ih_512
  obtain ⟨z_447, F_448, ls, h15_0, bF_448, mn_511, hP, hS, hl, rfl⟩ := hI
  refine lv_iload_n hx hb dX6_layOut_15 rfl (lv_at hl 0 rfl) ?_
  refine lv_aload_n hx hb dX6_layOut_16 rfl (lv_at hl 1 rfl) ?_
  refine cg_smi_irons hx hb hts hown hK hP uw_2_58 dX6_layOut_17 ?_
  refine sy_icmp_ge (tgt := 73) hx hb dX6_layOut_20 (by decide) (by omega) (by omega) (fun c_513 => ?_) (fun c_513 => ?_)
  · skip
    exact r_v hx hb hr hlocks dX6_layOut_73 hS ⟨F_448, x_told_irons, (-1), bF_448, by omega, by omega, hP⟩
  · skip
    refine lv_iconst (v := mI 0) hx hb dX6_layOut_23 rfl ?_
    refine lv_istore_n (lv' := [(3, .int (mI 0)), (2, .int (mI z_447)), (0, .ref (a 36)), (1, .ref (a 5))]) hx hb dX6_layOut_24 rfl hl (by decide) rfl (fun ls hl => ?_)
    refine sy_loop (I := fun n H locs g => ∃ (z_561 : Int) (F_562 : Nat → Int) (ls : Array Slot), (0 ≤ z_561 ∧ z_561 ≤ 8) ∧ (bd (0) 4095 F_562) ∧ (8 - z_561).toNat = n ∧ va_P D vwCl (cW k a q x_xo_lyingCount x_tape_length x_tape_next x_tape_kind x_tape_place x_tape_number x_tape_faultKind x_tape_faultPlace x_told_turns x_told_mirror x_told_night x_told_draw x_told_herds x_told_irons x_told_beasts x_told_linesTold x_tfo_steps x_tfo_units x_draft_turns x_draft_mirror x_draft_night x_draft_draw x_draft_herds x_draft_irons x_draft_beasts x_draft_linesTold x_dfo_steps x_dfo_units x_lat_placements x_told_irons (-1) x_his_here x_his_undoable x_his_redoable x_book_placedCount x_wit_count x_wit_time n_tape_name B_xo_lying B_tape_bytes B_told_brands B_told_ironMarks B_told_homes B_told_births B_tfo_kinds B_tfo_numbers B_tfo_stack B_tfo_facts B_draft_brands B_draft_ironMarks B_draft_homes B_draft_births B_dfo_kinds B_dfo_numbers B_dfo_stack B_dfo_facts B_lat_lowHalves B_lat_highHalves B_lat_ways F_562 B_smi_within B_smi_costs B_his_isKept B_book_norms B_book_above B_book_heights B_book_placedBrands B_bea_firstGains B_bea_otherGains B_wit_burnings B_wit_strokes B_wit_wasOn B_wit_toldAt B_wit_untoldAt B_wit_on B_wit_off B_wit_firstCounts B_wit_secondCounts Ps Pd G_tape_wordNames G_told_herdNames G_told_ironNames G_told_beastNames G_draft_herdNames G_draft_ironNames G_draft_beastNames Ph Po Pg ex) H ∧ va_S A s.heap H locs ∧ lv_has ls 4 [(3, .int (mI z_561)), (2, .int (mI z_447)), (0, .ref (a 36)), (1, .ref (a 5))] ∧ g = F0 m 25 ls []) ?_ _ ⟨0, F_448, _, by omega, bF_448, rfl, hP, hS, lv_sub hl [0, 1, 2, 3] rfl, rfl⟩
    intro n_568 H locs g hI ih_569
    obtain ⟨z_561, F_562, ls, h25_0, bF_562, mn_568, hP, hS, hl, rfl⟩ := hI
    refine lv_iload_n hx hb dX6_layOut_25 rfl (lv_at hl 0 rfl) ?_
    refine lv_aload_n hx hb dX6_layOut_26 rfl (lv_at hl 2 rfl) ?_
    refine cg_smi_lattice hx hb hts hown hK hP uw_2_54 dX6_layOut_27 ?_
    refine g_i (cDt hD) hS hA (g_V (own := "HideReader$Smith") (As := []) (rest := [.int (mI z_561)]) hx hb hml hown hts hK hP (cDt hD) (kc_X4_placements (l := l) (D := D) (k := k) h_x_lat_placements) ck_X4_placements iv_X4_placements uw_4_40 (cv_lat hK hP) rfl hl.1 rfl (Nat.le_of_ble_eq_true rfl) dX6_layOut_30 ⟨Nat.le_of_ble_eq_true rfl, Nat.le_of_ble_eq_true rfl⟩ ⟨Nat.le_of_ble_eq_true rfl, Nat.le_of_ble_eq_true rfl⟩) (fun r_570 H locs hQ hS => ?_)
    obtain ⟨hr_570_0, hP⟩ := hQ
    refine sy_icmp_ge (tgt := 67) hx hb dX6_layOut_33 (by decide) (by omega) (by omega) (fun c_571 => ?_) (fun c_571 => ?_)
    · skip
      refine lv_iinc (v := mI (z_447 + 1)) (lv' := [(2, .int (mI (z_447 + 1))), (3, .int (mI z_561)), (0, .ref (a 36)), (1, .ref (a 5))]) hx hb dX6_layOut_67 hl (k := 1) rfl (mI_ad rfl) (by decide) rfl (fun ls hl => ?_)
      refine lv_goto (tgt := 15) hx hb dX6_layOut_70 (by decide) ?_
      exact ih_512 _ _ _ _ (by omega) ⟨(z_447 + 1), F_562, _, by omega, bF_562, rfl, hP, hS, lv_sub hl [0, 2, 3] rfl, rfl⟩
    · skip
      refine lv_aload_n hx hb dX6_layOut_36 rfl (lv_at hl 2 rfl) ?_
      refine cg_smi_placedIrons hx hb hts hown hK hP uw_2_55 dX6_layOut_37 ?_
      refine lv_iload_n hx hb dX6_layOut_40 rfl (lv_at hl 1 rfl) ?_
      refine lv_bipush (v := mI 8) hx hb dX6_layOut_41 (by decide) ?_
      refine sy_imul hx hb dX6_layOut_43 (8 * z_447) (by omega) ?_
      refine lv_iload_n hx hb dX6_layOut_44 rfl (lv_at hl 0 rfl) ?_
      refine sy_iadd hx hb dX6_layOut_45 (8 * z_447 + z_561) rfl ?_
      refine lv_aload_n hx hb dX6_layOut_46 rfl (lv_at hl 2 rfl) ?_
      refine cg_smi_lattice hx hb hts hown hK hP uw_2_54 dX6_layOut_47 ?_
      refine lv_aload_n hx hb dX6_layOut_50 rfl (lv_at hl 3 rfl) ?_
      refine cg_told_ironMarks hx hb hts hown hK hP uw_1_200 dX6_layOut_51 ?_
      refine lv_iload_n hx hb dX6_layOut_54 rfl (lv_at hl 1 rfl) ?_
      refine cl_told_ironMarks hx hb hK hP dX6_layOut_55 (by omega) b_B_told_ironMarks (fun z_572 _ hz_572 => ?_)
      refine lv_iload_n hx hb dX6_layOut_56 rfl (lv_at hl 0 rfl) ?_
      refine g_i (cDt hD) hS hA (g_V (own := "HideReader$Smith") (As := [.int (mI z_572), .int (mI z_561)]) (rest := [.int (mI (8 * z_447 + z_561)), .ref (a 37)]) hx hb hml hown hts hK hP (cDt hD) (kc_X4_moved (l := l) (D := D) (k := k) (by omega) (by omega) b_B_lat_lowHalves b_B_lat_highHalves b_B_lat_ways) ck_X4_moved iv_X4_moved uw_4_44 (cv_lat hK hP) rfl hl.1 rfl (Nat.le_of_ble_eq_true rfl) dX6_layOut_57 ⟨Nat.le_of_ble_eq_true rfl, Nat.le_of_ble_eq_true rfl⟩ ⟨Nat.le_of_ble_eq_true rfl, Nat.le_of_ble_eq_true rfl⟩) (fun r_573 H locs hQ hS => ?_)
      obtain ⟨hr_573_0, hP⟩ := hQ
      refine cs_smi_placedIrons hx hb hK hP hD hS dX6_layOut_60 (by omega) bF_562 (by omega) (fun F_574 H locs _ bF_574 hP hS => ?_)
      refine lv_iinc (v := mI (z_561 + 1)) (lv' := [(3, .int (mI (z_561 + 1))), (2, .int (mI z_447)), (0, .ref (a 36)), (1, .ref (a 5))]) hx hb dX6_layOut_61 hl (k := 0) rfl (mI_ad rfl) (by decide) rfl (fun ls hl => ?_)
      refine lv_goto (tgt := 25) hx hb dX6_layOut_64 (by decide) ?_
      exact ih_569 _ _ _ _ (by omega) ⟨(z_561 + 1), F_574, _, by omega, bF_574, rfl, hP, hS, lv_sub hl [0, 1, 2, 3] rfl, rfl⟩
set_option maxHeartbeats 4000000 in
set_option maxRecDepth 100000 in
theorem kc_X6_irons (h_x_smi_irons : 0 ≤ x_smi_irons ∧ x_smi_irons ≤ 6) : MetG l D k yX6_irons cX6_irons 1 (some .int) 0 [.ref (a 36)] (cW k a q x_xo_lyingCount x_tape_length x_tape_next x_tape_kind x_tape_place x_tape_number x_tape_faultKind x_tape_faultPlace x_told_turns x_told_mirror x_told_night x_told_draw x_told_herds x_told_irons x_told_beasts x_told_linesTold x_tfo_steps x_tfo_units x_draft_turns x_draft_mirror x_draft_night x_draft_draw x_draft_herds x_draft_irons x_draft_beasts x_draft_linesTold x_dfo_steps x_dfo_units x_lat_placements x_smi_irons x_smi_aim x_his_here x_his_undoable x_his_redoable x_book_placedCount x_wit_count x_wit_time n_tape_name B_xo_lying B_tape_bytes B_told_brands B_told_ironMarks B_told_homes B_told_births B_tfo_kinds B_tfo_numbers B_tfo_stack B_tfo_facts B_draft_brands B_draft_ironMarks B_draft_homes B_draft_births B_dfo_kinds B_dfo_numbers B_dfo_stack B_dfo_facts B_lat_lowHalves B_lat_highHalves B_lat_ways B_smi_placedIrons B_smi_within B_smi_costs B_his_isKept B_book_norms B_book_above B_book_heights B_book_placedBrands B_bea_firstGains B_bea_otherGains B_wit_burnings B_wit_strokes B_wit_wasOn B_wit_toldAt B_wit_untoldAt B_wit_on B_wit_off B_wit_firstCounts B_wit_secondCounts Ps Pd G_tape_wordNames G_told_herdNames G_told_ironNames G_told_beastNames G_draft_herdNames G_draft_ironNames G_draft_beastNames Ph Po Pg ex) (qGi (fun r0 H => (0 ≤ r0 ∧ r0 ≤ 6) ∧ va_P D vwCl (cW k a q x_xo_lyingCount x_tape_length x_tape_next x_tape_kind x_tape_place x_tape_number x_tape_faultKind x_tape_faultPlace x_told_turns x_told_mirror x_told_night x_told_draw x_told_herds x_told_irons x_told_beasts x_told_linesTold x_tfo_steps x_tfo_units x_draft_turns x_draft_mirror x_draft_night x_draft_draw x_draft_herds x_draft_irons x_draft_beasts x_draft_linesTold x_dfo_steps x_dfo_units x_lat_placements x_smi_irons x_smi_aim x_his_here x_his_undoable x_his_redoable x_book_placedCount x_wit_count x_wit_time n_tape_name B_xo_lying B_tape_bytes B_told_brands B_told_ironMarks B_told_homes B_told_births B_tfo_kinds B_tfo_numbers B_tfo_stack B_tfo_facts B_draft_brands B_draft_ironMarks B_draft_homes B_draft_births B_dfo_kinds B_dfo_numbers B_dfo_stack B_dfo_facts B_lat_lowHalves B_lat_highHalves B_lat_ways B_smi_placedIrons B_smi_within B_smi_costs B_his_isKept B_book_norms B_book_above B_book_heights B_book_placedBrands B_bea_firstGains B_bea_otherGains B_wit_burnings B_wit_strokes B_wit_wasOn B_wit_toldAt B_wit_untoldAt B_wit_on B_wit_off B_wit_firstCounts B_wit_secondCounts Ps Pd G_tape_wordNames G_told_herdNames G_told_ironNames G_told_beastNames G_draft_herdNames G_draft_ironNames G_draft_beastNames Ph Po Pg ex) H)) := by
  refine metG_of 0 ck_X6_irons (Nat.le_of_ble_eq_true rfl) cMap (fun p e s m args below meth c A hx hb hml hr hlocks hown hts hK hD hA hP hS ls hl => ?_)
  have hown : s.vm.findClass "HideReader$Smith" = some m.cls := hown
  have hl : lv_has ls 1 [(0, .ref (a 36))] := hl
  refine lv_aload_n hx hb dX6_irons_0 rfl (lv_at hl 0 rfl) ?_
  refine cg_smi_irons hx hb hts hown hK hP uw_2_58 dX6_irons_1 ?_
  exact r_i hx hb hr hlocks dX6_irons_4 hS ⟨by omega, hP⟩
set_option maxHeartbeats 4000000 in
set_option maxRecDepth 100000 in
theorem kc_X6_placements (h_x_lat_placements : 1 ≤ x_lat_placements ∧ x_lat_placements ≤ 8) : MetG l D k yX6_placements cX6_placements 1 (some .int) 1 [.ref (a 36)] (cW k a q x_xo_lyingCount x_tape_length x_tape_next x_tape_kind x_tape_place x_tape_number x_tape_faultKind x_tape_faultPlace x_told_turns x_told_mirror x_told_night x_told_draw x_told_herds x_told_irons x_told_beasts x_told_linesTold x_tfo_steps x_tfo_units x_draft_turns x_draft_mirror x_draft_night x_draft_draw x_draft_herds x_draft_irons x_draft_beasts x_draft_linesTold x_dfo_steps x_dfo_units x_lat_placements x_smi_irons x_smi_aim x_his_here x_his_undoable x_his_redoable x_book_placedCount x_wit_count x_wit_time n_tape_name B_xo_lying B_tape_bytes B_told_brands B_told_ironMarks B_told_homes B_told_births B_tfo_kinds B_tfo_numbers B_tfo_stack B_tfo_facts B_draft_brands B_draft_ironMarks B_draft_homes B_draft_births B_dfo_kinds B_dfo_numbers B_dfo_stack B_dfo_facts B_lat_lowHalves B_lat_highHalves B_lat_ways B_smi_placedIrons B_smi_within B_smi_costs B_his_isKept B_book_norms B_book_above B_book_heights B_book_placedBrands B_bea_firstGains B_bea_otherGains B_wit_burnings B_wit_strokes B_wit_wasOn B_wit_toldAt B_wit_untoldAt B_wit_on B_wit_off B_wit_firstCounts B_wit_secondCounts Ps Pd G_tape_wordNames G_told_herdNames G_told_ironNames G_told_beastNames G_draft_herdNames G_draft_ironNames G_draft_beastNames Ph Po Pg ex) (qGi (fun r0 H => (1 ≤ r0 ∧ r0 ≤ 8) ∧ va_P D vwCl (cW k a q x_xo_lyingCount x_tape_length x_tape_next x_tape_kind x_tape_place x_tape_number x_tape_faultKind x_tape_faultPlace x_told_turns x_told_mirror x_told_night x_told_draw x_told_herds x_told_irons x_told_beasts x_told_linesTold x_tfo_steps x_tfo_units x_draft_turns x_draft_mirror x_draft_night x_draft_draw x_draft_herds x_draft_irons x_draft_beasts x_draft_linesTold x_dfo_steps x_dfo_units x_lat_placements x_smi_irons x_smi_aim x_his_here x_his_undoable x_his_redoable x_book_placedCount x_wit_count x_wit_time n_tape_name B_xo_lying B_tape_bytes B_told_brands B_told_ironMarks B_told_homes B_told_births B_tfo_kinds B_tfo_numbers B_tfo_stack B_tfo_facts B_draft_brands B_draft_ironMarks B_draft_homes B_draft_births B_dfo_kinds B_dfo_numbers B_dfo_stack B_dfo_facts B_lat_lowHalves B_lat_highHalves B_lat_ways B_smi_placedIrons B_smi_within B_smi_costs B_his_isKept B_book_norms B_book_above B_book_heights B_book_placedBrands B_bea_firstGains B_bea_otherGains B_wit_burnings B_wit_strokes B_wit_wasOn B_wit_toldAt B_wit_untoldAt B_wit_on B_wit_off B_wit_firstCounts B_wit_secondCounts Ps Pd G_tape_wordNames G_told_herdNames G_told_ironNames G_told_beastNames G_draft_herdNames G_draft_ironNames G_draft_beastNames Ph Po Pg ex) H)) := by
  refine metG_of 0 ck_X6_placements (Nat.le_of_ble_eq_true rfl) cMap (fun p e s m args below meth c A hx hb hml hr hlocks hown hts hK hD hA hP hS ls hl => ?_)
  have hown : s.vm.findClass "HideReader$Smith" = some m.cls := hown
  have hl : lv_has ls 1 [(0, .ref (a 36))] := hl
  refine lv_aload_n hx hb dX6_placements_0 rfl (lv_at hl 0 rfl) ?_
  refine cg_smi_lattice hx hb hts hown hK hP uw_2_54 dX6_placements_1 ?_
  refine g_i (cDt hD) hS hA (g_V (own := "HideReader$Smith") (As := []) (rest := []) hx hb hml hown hts hK hP (cDt hD) (kc_X4_placements (l := l) (D := D) (k := k) h_x_lat_placements) ck_X4_placements iv_X4_placements uw_4_40 (cv_lat hK hP) rfl hl.1 rfl (Nat.le_of_ble_eq_true rfl) dX6_placements_4 ⟨Nat.le_of_ble_eq_true rfl, Nat.le_of_ble_eq_true rfl⟩ ⟨Nat.le_of_ble_eq_true rfl, Nat.le_of_ble_eq_true rfl⟩) (fun r_1 H locs hQ hS => ?_)
  obtain ⟨hr_1_0, hP⟩ := hQ
  exact r_i hx hb hr hlocks dX6_placements_7 hS ⟨by omega, hP⟩
set_option maxHeartbeats 4000000 in
set_option maxRecDepth 100000 in
theorem kc_X6_firstStep {p0 p1 p2 : Int} (hp0 : -2147483648 ≤ p0 ∧ p0 ≤ 2147483647) (hp1 : 0 ≤ p1 ∧ p1 ≤ 4095) (hp2 : 0 ≤ p2 ∧ p2 ≤ 3) (h_x_lat_placements : 1 ≤ x_lat_placements ∧ x_lat_placements ≤ 8) (h_x_smi_irons : 0 ≤ x_smi_irons ∧ x_smi_irons ≤ 6) (h_x_smi_aim : -2147483648 ≤ x_smi_aim ∧ x_smi_aim ≤ 2147483647) (b_B_lat_lowHalves : bd (0) 4095 B_lat_lowHalves) (b_B_lat_highHalves : bd (0) 4095 B_lat_highHalves) (b_B_lat_ways : bd (0) 7 B_lat_ways) (b_B_smi_placedIrons : bd (0) 4095 B_smi_placedIrons) (b_B_smi_within : bd (0) 4095 B_smi_within) (b_B_smi_costs : bd (-128) 127 B_smi_costs) : MetG l D k yX6_firstStep cX6_firstStep 6 (some .int) 4 [.ref (a 36), .int (mI p0), .int (mI p1), .int (mI p2)] (cW k a q x_xo_lyingCount x_tape_length x_tape_next x_tape_kind x_tape_place x_tape_number x_tape_faultKind x_tape_faultPlace x_told_turns x_told_mirror x_told_night x_told_draw x_told_herds x_told_irons x_told_beasts x_told_linesTold x_tfo_steps x_tfo_units x_draft_turns x_draft_mirror x_draft_night x_draft_draw x_draft_herds x_draft_irons x_draft_beasts x_draft_linesTold x_dfo_steps x_dfo_units x_lat_placements x_smi_irons x_smi_aim x_his_here x_his_undoable x_his_redoable x_book_placedCount x_wit_count x_wit_time n_tape_name B_xo_lying B_tape_bytes B_told_brands B_told_ironMarks B_told_homes B_told_births B_tfo_kinds B_tfo_numbers B_tfo_stack B_tfo_facts B_draft_brands B_draft_ironMarks B_draft_homes B_draft_births B_dfo_kinds B_dfo_numbers B_dfo_stack B_dfo_facts B_lat_lowHalves B_lat_highHalves B_lat_ways B_smi_placedIrons B_smi_within B_smi_costs B_his_isKept B_book_norms B_book_above B_book_heights B_book_placedBrands B_bea_firstGains B_bea_otherGains B_wit_burnings B_wit_strokes B_wit_wasOn B_wit_toldAt B_wit_untoldAt B_wit_on B_wit_off B_wit_firstCounts B_wit_secondCounts Ps Pd G_tape_wordNames G_told_herdNames G_told_ironNames G_told_beastNames G_draft_herdNames G_draft_ironNames G_draft_beastNames Ph Po Pg ex) (qGi (fun r0 H => ∃ (F_smi_within : Nat → Int) (F_smi_costs : Nat → Int) (y_smi_aim : Int), (-1 ≤ r0 ∧ r0 ≤ 47) ∧ (bd (0) 4095 F_smi_within) ∧ (bd (-128) 127 F_smi_costs) ∧ (-2147483648 ≤ y_smi_aim ∧ y_smi_aim ≤ 2147483647) ∧ va_P D vwCl (cW k a q x_xo_lyingCount x_tape_length x_tape_next x_tape_kind x_tape_place x_tape_number x_tape_faultKind x_tape_faultPlace x_told_turns x_told_mirror x_told_night x_told_draw x_told_herds x_told_irons x_told_beasts x_told_linesTold x_tfo_steps x_tfo_units x_draft_turns x_draft_mirror x_draft_night x_draft_draw x_draft_herds x_draft_irons x_draft_beasts x_draft_linesTold x_dfo_steps x_dfo_units x_lat_placements x_smi_irons y_smi_aim x_his_here x_his_undoable x_his_redoable x_book_placedCount x_wit_count x_wit_time n_tape_name B_xo_lying B_tape_bytes B_told_brands B_told_ironMarks B_told_homes B_told_births B_tfo_kinds B_tfo_numbers B_tfo_stack B_tfo_facts B_draft_brands B_draft_ironMarks B_draft_homes B_draft_births B_dfo_kinds B_dfo_numbers B_dfo_stack B_dfo_facts B_lat_lowHalves B_lat_highHalves B_lat_ways B_smi_placedIrons F_smi_within F_smi_costs B_his_isKept B_book_norms B_book_above B_book_heights B_book_placedBrands B_bea_firstGains B_bea_otherGains B_wit_burnings B_wit_strokes B_wit_wasOn B_wit_toldAt B_wit_untoldAt B_wit_on B_wit_off B_wit_firstCounts B_wit_secondCounts Ps Pd G_tape_wordNames G_told_herdNames G_told_ironNames G_told_beastNames G_draft_herdNames G_draft_ironNames G_draft_beastNames Ph Po Pg ex) H)) := by
  refine metG_of 3 ck_X6_firstStep (Nat.le_of_ble_eq_true rfl) cMap (fun p e s m args below meth c A hx hb hml hr hlocks hown hts hK hD hA hP hS ls hl => ?_)
  have hown : s.vm.findClass "HideReader$Smith" = some m.cls := hown
  have hl : lv_has ls 6 [(0, .ref (a 36)), (1, .int (mI p0)), (2, .int (mI p1)), (3, .int (mI p2))] := hl
  refine lv_iconst (v := mI 0) hx hb dX6_firstStep_0 rfl ?_
  refine lv_istore (lv' := [(4, .int (mI 0)), (0, .ref (a 36)), (1, .int (mI p0)), (2, .int (mI p1)), (3, .int (mI p2))]) hx hb dX6_firstStep_1 hl (by decide) rfl (fun ls hl => ?_)
  refine sy_loop (I := fun n H locs g => ∃ (z_1029 : Int) (F_1030 : Nat → Int) (F_1031 : Nat → Int) (y_1032 : Int) (ls : Array Slot), (0 ≤ z_1029 ∧ z_1029 ≤ 6) ∧ (bd (0) 4095 F_1030) ∧ (bd (-128) 127 F_1031) ∧ (-2147483648 ≤ y_1032 ∧ y_1032 ≤ 2147483647) ∧ (6 - z_1029).toNat = n ∧ va_P D vwCl (cW k a q x_xo_lyingCount x_tape_length x_tape_next x_tape_kind x_tape_place x_tape_number x_tape_faultKind x_tape_faultPlace x_told_turns x_told_mirror x_told_night x_told_draw x_told_herds x_told_irons x_told_beasts x_told_linesTold x_tfo_steps x_tfo_units x_draft_turns x_draft_mirror x_draft_night x_draft_draw x_draft_herds x_draft_irons x_draft_beasts x_draft_linesTold x_dfo_steps x_dfo_units x_lat_placements x_smi_irons y_1032 x_his_here x_his_undoable x_his_redoable x_book_placedCount x_wit_count x_wit_time n_tape_name B_xo_lying B_tape_bytes B_told_brands B_told_ironMarks B_told_homes B_told_births B_tfo_kinds B_tfo_numbers B_tfo_stack B_tfo_facts B_draft_brands B_draft_ironMarks B_draft_homes B_draft_births B_dfo_kinds B_dfo_numbers B_dfo_stack B_dfo_facts B_lat_lowHalves B_lat_highHalves B_lat_ways B_smi_placedIrons F_1030 F_1031 B_his_isKept B_book_norms B_book_above B_book_heights B_book_placedBrands B_bea_firstGains B_bea_otherGains B_wit_burnings B_wit_strokes B_wit_wasOn B_wit_toldAt B_wit_untoldAt B_wit_on B_wit_off B_wit_firstCounts B_wit_secondCounts Ps Pd G_tape_wordNames G_told_herdNames G_told_ironNames G_told_beastNames G_draft_herdNames G_draft_ironNames G_draft_beastNames Ph Po Pg ex) H ∧ va_S A s.heap H locs ∧ lv_has ls 6 [(4, .int (mI z_1029)), (0, .ref (a 36)), (1, .int (mI p0)), (2, .int (mI p1)), (3, .int (mI p2))] ∧ g = F0 m 3 ls []) ?_ _ ⟨0, B_smi_within, B_smi_costs, x_smi_aim, _, by omega, b_B_smi_within, b_B_smi_costs, by omega, rfl, hP, hS, lv_sub hl [0, 1, 2, 3, 4] rfl, rfl⟩
  intro n_1158 H locs g hI ih_1159
  obtain ⟨z_1029, F_1030, F_1031, y_1032, ls, h3_0, bF_1030, bF_1031, h3_3, mn_1158, hP, hS, hl, rfl⟩ := hI
  refine lv_iload hx hb dX6_firstStep_3 (lv_at hl 0 rfl) ?_
  refine lv_aload_n hx hb dX6_firstStep_5 rfl (lv_at hl 1 rfl) ?_
  refine cg_smi_irons hx hb hts hown hK hP uw_2_58 dX6_firstStep_6 ?_
  refine sy_icmp_ge (tgt := 67) hx hb dX6_firstStep_9 (by decide) (by omega) (by omega) (fun c_1160 => ?_) (fun c_1160 => ?_)
  · skip
    refine lv_iconst (v := mI (-1)) hx hb dX6_firstStep_67 rfl ?_
    exact r_i hx hb hr hlocks dX6_firstStep_68 hS ⟨F_1030, F_1031, y_1032, by omega, bF_1030, bF_1031, by omega, hP⟩
  · skip
    refine lv_iconst (v := mI 0) hx hb dX6_firstStep_12 rfl ?_
    refine lv_istore (lv' := [(5, .int (mI 0)), (4, .int (mI z_1029)), (0, .ref (a 36)), (1, .int (mI p0)), (2, .int (mI p1)), (3, .int (mI p2))]) hx hb dX6_firstStep_13 hl (by decide) rfl (fun ls hl => ?_)
    refine sy_loop (I := fun n H locs g => ∃ (z_1261 : Int) (F_1262 : Nat → Int) (F_1263 : Nat → Int) (y_1264 : Int) (ls : Array Slot), (0 ≤ z_1261 ∧ z_1261 ≤ 8) ∧ (bd (0) 4095 F_1262) ∧ (bd (-128) 127 F_1263) ∧ (-2147483648 ≤ y_1264 ∧ y_1264 ≤ 2147483647) ∧ (8 - z_1261).toNat = n ∧ va_P D vwCl (cW k a q x_xo_lyingCount x_tape_length x_tape_next x_tape_kind x_tape_place x_tape_number x_tape_faultKind x_tape_faultPlace x_told_turns x_told_mirror x_told_night x_told_draw x_told_herds x_told_irons x_told_beasts x_told_linesTold x_tfo_steps x_tfo_units x_draft_turns x_draft_mirror x_draft_night x_draft_draw x_draft_herds x_draft_irons x_draft_beasts x_draft_linesTold x_dfo_steps x_dfo_units x_lat_placements x_smi_irons y_1264 x_his_here x_his_undoable x_his_redoable x_book_placedCount x_wit_count x_wit_time n_tape_name B_xo_lying B_tape_bytes B_told_brands B_told_ironMarks B_told_homes B_told_births B_tfo_kinds B_tfo_numbers B_tfo_stack B_tfo_facts B_draft_brands B_draft_ironMarks B_draft_homes B_draft_births B_dfo_kinds B_dfo_numbers B_dfo_stack B_dfo_facts B_lat_lowHalves B_lat_highHalves B_lat_ways B_smi_placedIrons F_1262 F_1263 B_his_isKept B_book_norms B_book_above B_book_heights B_book_placedBrands B_bea_firstGains B_bea_otherGains B_wit_burnings B_wit_strokes B_wit_wasOn B_wit_toldAt B_wit_untoldAt B_wit_on B_wit_off B_wit_firstCounts B_wit_secondCounts Ps Pd G_tape_wordNames G_told_herdNames G_told_ironNames G_told_beastNames G_draft_herdNames G_draft_ironNames G_draft_beastNames Ph Po Pg ex) H ∧ va_S A s.heap H locs ∧ lv_has ls 6 [(5, .int (mI z_1261)), (4, .int (mI z_1029)), (0, .ref (a 36)), (1, .int (mI p0)), (2, .int (mI p1)), (3, .int (mI p2))] ∧ g = F0 m 15 ls []) ?_ _ ⟨0, F_1030, F_1031, y_1032, _, by omega, bF_1030, bF_1031, by omega, rfl, hP, hS, lv_sub hl [0, 1, 2, 3, 4, 5] rfl, rfl⟩
    intro n_1274 H locs g hI ih_1275
    obtain ⟨z_1261, F_1262, F_1263, y_1264, ls, h15_0, bF_1262, bF_1263, h15_3, mn_1274, hP, hS, hl, rfl⟩ := hI
    refine lv_iload hx hb dX6_firstStep_15 (lv_at hl 0 rfl) ?_
    refine lv_aload_n hx hb dX6_firstStep_17 rfl (lv_at hl 2 rfl) ?_
    refine cg_smi_lattice hx hb hts hown hK hP uw_2_54 dX6_firstStep_18 ?_
    refine g_i (cDt hD) hS hA (g_V (own := "HideReader$Smith") (As := []) (rest := [.int (mI z_1261)]) hx hb hml hown hts hK hP (cDt hD) (kc_X4_placements (l := l) (D := D) (k := k) h_x_lat_placements) ck_X4_placements iv_X4_placements uw_4_40 (cv_lat hK hP) rfl hl.1 rfl (Nat.le_of_ble_eq_true rfl) dX6_firstStep_21 ⟨Nat.le_of_ble_eq_true rfl, Nat.le_of_ble_eq_true rfl⟩ ⟨Nat.le_of_ble_eq_true rfl, Nat.le_of_ble_eq_true rfl⟩) (fun r_1276 H locs hQ hS => ?_)
    obtain ⟨hr_1276_0, hP⟩ := hQ
    refine sy_icmp_ge (tgt := 61) hx hb dX6_firstStep_24 (by decide) (by omega) (by omega) (fun c_1277 => ?_) (fun c_1277 => ?_)
    · skip
      refine lv_iinc (v := mI (z_1029 + 1)) (lv' := [(4, .int (mI (z_1029 + 1))), (5, .int (mI z_1261)), (0, .ref (a 36)), (1, .int (mI p0)), (2, .int (mI p1)), (3, .int (mI p2))]) hx hb dX6_firstStep_61 hl (k := 1) rfl (mI_ad rfl) (by decide) rfl (fun ls hl => ?_)
      refine lv_goto (tgt := 3) hx hb dX6_firstStep_64 (by decide) ?_
      exact ih_1159 _ _ _ _ (by omega) ⟨(z_1029 + 1), F_1262, F_1263, y_1264, _, by omega, bF_1262, bF_1263, by omega, rfl, hP, hS, lv_sub hl [0, 2, 3, 4, 5] rfl, rfl⟩
    · skip
      refine lv_aload_n hx hb dX6_firstStep_27 rfl (lv_at hl 2 rfl) ?_
      refine lv_iload_n hx hb dX6_firstStep_28 rfl (lv_at hl 3 rfl) ?_
      refine lv_aload_n hx hb dX6_firstStep_29 rfl (lv_at hl 2 rfl) ?_
      refine lv_iload hx hb dX6_firstStep_30 (lv_at hl 1 rfl) ?_
      refine lv_iload hx hb dX6_firstStep_32 (lv_at hl 0 rfl) ?_
      refine g_i (cDt hD) hS hA (g_V (own := "HideReader$Smith") (As := [.int (mI z_1029), .int (mI z_1261)]) (rest := [.int (mI p0), .ref (a 36)]) hx hb hml hown hts hK hP (cDt hD) (kc_X6_placedIron (l := l) (D := D) (k := k) (by omega) (by omega) b_B_smi_placedIrons) ck_X6_placedIron iv_X6_placedIron uw_5_37 (cv_smi hK hP) rfl hl.1 rfl (Nat.le_of_ble_eq_true rfl) dX6_firstStep_34 ⟨Nat.le_of_ble_eq_true rfl, Nat.le_of_ble_eq_true rfl⟩ ⟨Nat.le_of_ble_eq_true rfl, Nat.le_of_ble_eq_true rfl⟩) (fun r_1278 H locs hQ hS => ?_)
      obtain ⟨hr_1278_0, hP⟩ := hQ
      refine lv_ior hx hb dX6_firstStep_37 ?_
      refine sy_any (fun z_1279 hz_1279 => ?_)
      refine lv_iload_n hx hb dX6_firstStep_38 rfl (lv_at hl 4 rfl) ?_
      refine g_i (cDt hD) hS hA (g_V (own := "HideReader$Smith") (As := [.int (mI z_1279), .int (mI p1)]) (rest := []) hx hb hml hown hts hK hP (cDt hD) (kc_X6_fewest (l := l) (D := D) (k := k) (by omega) (by omega) h_x_lat_placements h_x_smi_irons (by omega) b_B_lat_lowHalves b_B_lat_highHalves b_B_lat_ways b_B_smi_placedIrons bF_1262 bF_1263) ck_X6_fewest iv_X6_fewest uw_5_38 (cv_smi hK hP) rfl hl.1 rfl (Nat.le_of_ble_eq_true rfl) dX6_firstStep_39 ⟨Nat.le_of_ble_eq_true rfl, Nat.le_of_ble_eq_true rfl⟩ ⟨Nat.le_of_ble_eq_true rfl, Nat.le_of_ble_eq_true rfl⟩) (fun r_1280 H locs hQ hS => ?_)
      obtain ⟨F_1281, F_1282, y_1283, hr_1280_0, bF_1281, bF_1282, hr_1280_3, hP⟩ := hQ
      refine lv_iload_n hx hb dX6_firstStep_42 rfl (lv_at hl 5 rfl) ?_
      refine sy_icmp_ne (tgt := 55) hx hb dX6_firstStep_43 (by decide) (by omega) (by omega) (fun c_1284 => ?_) (fun c_1284 => ?_)
      · skip
        refine lv_iinc (v := mI (z_1261 + 1)) (lv' := [(5, .int (mI (z_1261 + 1))), (4, .int (mI z_1029)), (0, .ref (a 36)), (1, .int (mI p0)), (2, .int (mI p1)), (3, .int (mI p2))]) hx hb dX6_firstStep_55 hl (k := 0) rfl (mI_ad rfl) (by decide) rfl (fun ls hl => ?_)
        refine lv_goto (tgt := 15) hx hb dX6_firstStep_58 (by decide) ?_
        exact ih_1275 _ _ _ _ (by omega) ⟨(z_1261 + 1), F_1281, F_1282, y_1283, _, by omega, bF_1281, bF_1282, by omega, rfl, hP, hS, lv_sub hl [0, 1, 2, 3, 4, 5] rfl, rfl⟩
      · skip
        refine lv_iload hx hb dX6_firstStep_46 (lv_at hl 1 rfl) ?_
        refine lv_bipush (v := mI 8) hx hb dX6_firstStep_48 (by decide) ?_
        refine sy_imul hx hb dX6_firstStep_50 (8 * z_1029) (by omega) ?_
        refine lv_iload hx hb dX6_firstStep_51 (lv_at hl 0 rfl) ?_
        refine sy_iadd hx hb dX6_firstStep_53 (8 * z_1029 + z_1261) rfl ?_
        exact r_i hx hb hr hlocks dX6_firstStep_54 hS ⟨F_1281, F_1282, y_1283, by omega, bF_1281, bF_1282, by omega, hP⟩
set_option maxHeartbeats 4000000 in
set_option maxRecDepth 100000 in
theorem kc_X6_firstRow_smi_xo_lying {p0 p1 p2 : Int} (hp0 : -2147483648 ≤ p0 ∧ p0 ≤ 2147483647) (hp1 : 0 ≤ p1 ∧ p1 ≤ 4095) (hp2 : 1 ≤ p2 ∧ p2 ≤ 4) (h_x_lat_placements : 1 ≤ x_lat_placements ∧ x_lat_placements ≤ 8) (h_x_smi_irons : 0 ≤ x_smi_irons ∧ x_smi_irons ≤ 6) (h_x_smi_aim : -2147483648 ≤ x_smi_aim ∧ x_smi_aim ≤ 2147483647) (b_B_xo_lying : bd (-2147483648) 2147483647 B_xo_lying) (b_B_lat_lowHalves : bd (0) 4095 B_lat_lowHalves) (b_B_lat_highHalves : bd (0) 4095 B_lat_highHalves) (b_B_lat_ways : bd (0) 7 B_lat_ways) (b_B_smi_placedIrons : bd (0) 4095 B_smi_placedIrons) (b_B_smi_within : bd (0) 4095 B_smi_within) (b_B_smi_costs : bd (-128) 127 B_smi_costs) : MetG l D k yX6_firstRow cX6_firstRow 9 (some .int) 5 [.ref (a 36), .int (mI p0), .int (mI p1), .int (mI p2), .ref (a 1)] (cW k a q x_xo_lyingCount x_tape_length x_tape_next x_tape_kind x_tape_place x_tape_number x_tape_faultKind x_tape_faultPlace x_told_turns x_told_mirror x_told_night x_told_draw x_told_herds x_told_irons x_told_beasts x_told_linesTold x_tfo_steps x_tfo_units x_draft_turns x_draft_mirror x_draft_night x_draft_draw x_draft_herds x_draft_irons x_draft_beasts x_draft_linesTold x_dfo_steps x_dfo_units x_lat_placements x_smi_irons x_smi_aim x_his_here x_his_undoable x_his_redoable x_book_placedCount x_wit_count x_wit_time n_tape_name B_xo_lying B_tape_bytes B_told_brands B_told_ironMarks B_told_homes B_told_births B_tfo_kinds B_tfo_numbers B_tfo_stack B_tfo_facts B_draft_brands B_draft_ironMarks B_draft_homes B_draft_births B_dfo_kinds B_dfo_numbers B_dfo_stack B_dfo_facts B_lat_lowHalves B_lat_highHalves B_lat_ways B_smi_placedIrons B_smi_within B_smi_costs B_his_isKept B_book_norms B_book_above B_book_heights B_book_placedBrands B_bea_firstGains B_bea_otherGains B_wit_burnings B_wit_strokes B_wit_wasOn B_wit_toldAt B_wit_untoldAt B_wit_on B_wit_off B_wit_firstCounts B_wit_secondCounts Ps Pd G_tape_wordNames G_told_herdNames G_told_ironNames G_told_beastNames G_draft_herdNames G_draft_ironNames G_draft_beastNames Ph Po Pg ex) (qGi (fun r0 H => ∃ (F_xo_lying : Nat → Int) (F_smi_within : Nat → Int) (F_smi_costs : Nat → Int) (y_smi_aim : Int), (0 ≤ r0 ∧ r0 ≤ 16) ∧ (bd (-2147483648) 2147483647 F_xo_lying) ∧ (bd (0) 4095 F_smi_within) ∧ (bd (-128) 127 F_smi_costs) ∧ (-2147483648 ≤ y_smi_aim ∧ y_smi_aim ≤ 2147483647) ∧ va_P D vwCl (cW k a q x_xo_lyingCount x_tape_length x_tape_next x_tape_kind x_tape_place x_tape_number x_tape_faultKind x_tape_faultPlace x_told_turns x_told_mirror x_told_night x_told_draw x_told_herds x_told_irons x_told_beasts x_told_linesTold x_tfo_steps x_tfo_units x_draft_turns x_draft_mirror x_draft_night x_draft_draw x_draft_herds x_draft_irons x_draft_beasts x_draft_linesTold x_dfo_steps x_dfo_units x_lat_placements x_smi_irons y_smi_aim x_his_here x_his_undoable x_his_redoable x_book_placedCount x_wit_count x_wit_time n_tape_name F_xo_lying B_tape_bytes B_told_brands B_told_ironMarks B_told_homes B_told_births B_tfo_kinds B_tfo_numbers B_tfo_stack B_tfo_facts B_draft_brands B_draft_ironMarks B_draft_homes B_draft_births B_dfo_kinds B_dfo_numbers B_dfo_stack B_dfo_facts B_lat_lowHalves B_lat_highHalves B_lat_ways B_smi_placedIrons F_smi_within F_smi_costs B_his_isKept B_book_norms B_book_above B_book_heights B_book_placedBrands B_bea_firstGains B_bea_otherGains B_wit_burnings B_wit_strokes B_wit_wasOn B_wit_toldAt B_wit_untoldAt B_wit_on B_wit_off B_wit_firstCounts B_wit_secondCounts Ps Pd G_tape_wordNames G_told_herdNames G_told_ironNames G_told_beastNames G_draft_herdNames G_draft_ironNames G_draft_beastNames Ph Po Pg ex) H)) := by
  refine metG_of 4 ck_X6_firstRow (Nat.le_of_ble_eq_true rfl) cMap (fun p e s m args below meth c A hx hb hml hr hlocks hown hts hK hD hA hP hS ls hl => ?_)
  have hown : s.vm.findClass "HideReader$Smith" = some m.cls := hown
  have hl : lv_has ls 9 [(0, .ref (a 36)), (1, .int (mI p0)), (2, .int (mI p1)), (3, .int (mI p2)), (4, .ref (a 1))] := hl
  refine lv_iload_n hx hb dX6_firstRow_0 rfl (lv_at hl 1 rfl) ?_
  refine lv_istore (lv' := [(5, .int (mI p0)), (0, .ref (a 36)), (1, .int (mI p0)), (2, .int (mI p1)), (3, .int (mI p2)), (4, .ref (a 1))]) hx hb dX6_firstRow_1 hl (by decide) rfl (fun ls hl => ?_)
  refine lv_iconst (v := mI 0) hx hb dX6_firstRow_3 rfl ?_
  refine lv_istore (lv' := [(6, .int (mI 0)), (5, .int (mI p0)), (0, .ref (a 36)), (1, .int (mI p0)), (2, .int (mI p1)), (3, .int (mI p2)), (4, .ref (a 1))]) hx hb dX6_firstRow_4 hl (by decide) rfl (fun ls hl => ?_)
  refine lv_iload_n hx hb dX6_firstRow_6 rfl (lv_at hl 5 rfl) ?_
  refine lv_iconst (v := mI 1) hx hb dX6_firstRow_7 rfl ?_
  refine sy_isub hx hb dX6_firstRow_8 (p2 - 1) rfl ?_
  refine lv_istore (lv' := [(7, .int (mI (p2 - 1))), (6, .int (mI 0)), (5, .int (mI p0)), (0, .ref (a 36)), (1, .int (mI p0)), (2, .int (mI p1)), (3, .int (mI p2)), (4, .ref (a 1))]) hx hb dX6_firstRow_9 hl (by decide) rfl (fun ls hl => ?_)
  refine sy_loop (I := fun n H locs g => ∃ (z_154 : Int) (z_155 : Int) (z_156 : Int) (F_157 : Nat → Int) (F_158 : Nat → Int) (F_159 : Nat → Int) (y_160 : Int) (ls : Array Slot), (-1 ≤ z_154 ∧ z_154 ≤ 3) ∧ (0 ≤ z_155 ∧ z_155 ≤ 16) ∧ (-2147483648 ≤ z_156 ∧ z_156 ≤ 2147483647) ∧ (bd (-2147483648) 2147483647 F_157) ∧ (bd (0) 4095 F_158) ∧ (bd (-128) 127 F_159) ∧ (-2147483648 ≤ y_160 ∧ y_160 ≤ 2147483647) ∧ (0 ≤ p2 - z_154 - 1) ∧ (16 - z_155).toNat = n ∧ va_P D vwCl (cW k a q x_xo_lyingCount x_tape_length x_tape_next x_tape_kind x_tape_place x_tape_number x_tape_faultKind x_tape_faultPlace x_told_turns x_told_mirror x_told_night x_told_draw x_told_herds x_told_irons x_told_beasts x_told_linesTold x_tfo_steps x_tfo_units x_draft_turns x_draft_mirror x_draft_night x_draft_draw x_draft_herds x_draft_irons x_draft_beasts x_draft_linesTold x_dfo_steps x_dfo_units x_lat_placements x_smi_irons y_160 x_his_here x_his_undoable x_his_redoable x_book_placedCount x_wit_count x_wit_time n_tape_name F_157 B_tape_bytes B_told_brands B_told_ironMarks B_told_homes B_told_births B_tfo_kinds B_tfo_numbers B_tfo_stack B_tfo_facts B_draft_brands B_draft_ironMarks B_draft_homes B_draft_births B_dfo_kinds B_dfo_numbers B_dfo_stack B_dfo_facts B_lat_lowHalves B_lat_highHalves B_lat_ways B_smi_placedIrons F_158 F_159 B_his_isKept B_book_norms B_book_above B_book_heights B_book_placedBrands B_bea_firstGains B_bea_otherGains B_wit_burnings B_wit_strokes B_wit_wasOn B_wit_toldAt B_wit_untoldAt B_wit_on B_wit_off B_wit_firstCounts B_wit_secondCounts Ps Pd G_tape_wordNames G_told_herdNames G_told_ironNames G_told_beastNames G_draft_herdNames G_draft_ironNames G_draft_beastNames Ph Po Pg ex) H ∧ va_S A s.heap H locs ∧ lv_has ls 9 [(7, .int (mI z_154)), (6, .int (mI z_155)), (5, .int (mI z_156)), (0, .ref (a 36)), (1, .int (mI p0)), (2, .int (mI p1)), (3, .int (mI p2)), (4, .ref (a 1))] ∧ g = F0 m 11 ls []) ?_ _ ⟨(p2 - 1), 0, p0, B_xo_lying, B_smi_within, B_smi_costs, x_smi_aim, _, by omega, by omega, by omega, b_B_xo_lying, b_B_smi_within, b_B_smi_costs, by omega, by omega, rfl, hP, hS, lv_sub hl [0, 1, 2, 3, 4, 5, 6, 7] rfl, rfl⟩
  intro n_174 H locs g hI ih_175
  obtain ⟨z_154, z_155, z_156, F_157, F_158, F_159, y_160, ls, h11_0, h11_1, h11_2, bF_157, bF_158, bF_159, h11_6, h11_7, mn_174, hP, hS, hl, rfl⟩ := hI
  refine lv_iload hx hb dX6_firstRow_11 (lv_at hl 0 rfl) ?_
  refine sy_if_lt (tgt := 88) hx hb dX6_firstRow_13 (by decide) (by omega) (fun c_176 => ?_) (fun c_176 => ?_)
  · skip
    refine lv_iload hx hb dX6_firstRow_88 (lv_at hl 1 rfl) ?_
    exact r_i hx hb hr hlocks dX6_firstRow_90 hS ⟨F_157, F_158, F_159, y_160, by omega, bF_157, bF_158, bF_159, by omega, hP⟩
  · skip
    refine lv_iload hx hb dX6_firstRow_16 (lv_at hl 1 rfl) ?_
    refine lv_iconst (v := mI 1) hx hb dX6_firstRow_18 rfl ?_
    refine sy_iadd hx hb dX6_firstRow_19 (z_155 + 1) rfl ?_
    refine lv_aload hx hb dX6_firstRow_20 (lv_at hl 7 rfl) ?_
    refine cn_xo_lying hx hb hK hP dX6_firstRow_22 ?_
    refine sy_icmp_ge (tgt := 88) hx hb dX6_firstRow_23 (by decide) (by omega) (by decide) (fun c_177 => ?_) (fun c_177 => ?_)
    · skip
      refine lv_iload hx hb dX6_firstRow_88 (lv_at hl 1 rfl) ?_
      exact r_i hx hb hr hlocks dX6_firstRow_90 hS ⟨F_157, F_158, F_159, y_160, by omega, bF_157, bF_158, bF_159, by omega, hP⟩
    · skip
      refine lv_aload_n hx hb dX6_firstRow_26 rfl (lv_at hl 3 rfl) ?_
      refine lv_iload hx hb dX6_firstRow_27 (lv_at hl 2 rfl) ?_
      refine lv_iload_n hx hb dX6_firstRow_29 rfl (lv_at hl 5 rfl) ?_
      refine lv_iload hx hb dX6_firstRow_30 (lv_at hl 0 rfl) ?_
      refine g_i (cDt hD) hS hA (g_V (own := "HideReader$Smith") (As := [.int (mI z_156), .int (mI p1), .int (mI z_154)]) (rest := []) hx hb hml hown hts hK hP (cDt hD) (kc_X6_firstStep (l := l) (D := D) (k := k) (by omega) (by omega) (by omega) h_x_lat_placements h_x_smi_irons (by omega) b_B_lat_lowHalves b_B_lat_highHalves b_B_lat_ways b_B_smi_placedIrons bF_158 bF_159) ck_X6_firstStep iv_X6_firstStep uw_5_33 (cv_smi hK hP) rfl hl.1 rfl (Nat.le_of_ble_eq_true rfl) dX6_firstRow_32 ⟨Nat.le_of_ble_eq_true rfl, Nat.le_of_ble_eq_true rfl⟩ ⟨Nat.le_of_ble_eq_true rfl, Nat.le_of_ble_eq_true rfl⟩) (fun r_178 H locs hQ hS => ?_)
      obtain ⟨F_179, F_180, y_181, hr_178_0, bF_179, bF_180, hr_178_3, hP⟩ := hQ
      refine lv_istore (lv' := [(8, .int (mI r_178)), (7, .int (mI z_154)), (6, .int (mI z_155)), (5, .int (mI z_156)), (0, .ref (a 36)), (1, .int (mI p0)), (2, .int (mI p1)), (3, .int (mI p2)), (4, .ref (a 1))]) hx hb dX6_firstRow_35 hl (by decide) rfl (fun ls hl => ?_)
      refine lv_iload hx hb dX6_firstRow_37 (lv_at hl 0 rfl) ?_
      refine lv_iconst (v := mI (-1)) hx hb dX6_firstRow_39 rfl ?_
      refine sy_icmp_ne (tgt := 45) hx hb dX6_firstRow_40 (by decide) (by omega) (by decide) (fun c_182 => ?_) (fun c_182 => ?_)
      · skip
        refine lv_aload hx hb dX6_firstRow_45 (lv_at hl 8 rfl) ?_
        refine lv_iload hx hb dX6_firstRow_47 (lv_at hl 2 rfl) ?_
        refine lv_iload hx hb dX6_firstRow_49 (lv_at hl 0 rfl) ?_
        refine lv_bipush (v := mI 8) hx hb dX6_firstRow_51 (by decide) ?_
        refine sy_idiv hx hb dX6_firstRow_53 (by omega) (by omega) (fun z_183 ez_183 hz_183 => ?_)
        refine cs_xo_lying hx hb hK hP hD hS dX6_firstRow_54 (by omega) bF_157 (by omega) (fun F_184 H locs _ bF_184 hP hS => ?_)
        refine lv_aload hx hb dX6_firstRow_55 (lv_at hl 8 rfl) ?_
        refine lv_iload hx hb dX6_firstRow_57 (lv_at hl 2 rfl) ?_
        refine lv_iconst (v := mI 1) hx hb dX6_firstRow_59 rfl ?_
        refine sy_iadd hx hb dX6_firstRow_60 (z_155 + 1) rfl ?_
        refine lv_iload hx hb dX6_firstRow_61 (lv_at hl 0 rfl) ?_
        refine lv_bipush (v := mI 8) hx hb dX6_firstRow_63 (by decide) ?_
        refine sy_irem hx hb dX6_firstRow_65 (by omega) (by omega) (fun z_185 ez_185 hz_185 => ?_)
        refine cs_xo_lying hx hb hK hP hD hS dX6_firstRow_66 (by omega) bF_184 (by omega) (fun F_186 H locs _ bF_186 hP hS => ?_)
        refine lv_iinc (v := mI (z_155 + 2)) (lv' := [(6, .int (mI (z_155 + 2))), (8, .int (mI r_178)), (7, .int (mI z_154)), (5, .int (mI z_156)), (0, .ref (a 36)), (1, .int (mI p0)), (2, .int (mI p1)), (3, .int (mI p2)), (4, .ref (a 1))]) hx hb dX6_firstRow_67 hl (k := 2) rfl (mI_ad rfl) (by decide) rfl (fun ls hl => ?_)
        refine lv_iload hx hb dX6_firstRow_70 (lv_at hl 3 rfl) ?_
        refine lv_aload_n hx hb dX6_firstRow_72 rfl (lv_at hl 4 rfl) ?_
        refine cg_smi_placedIrons hx hb hts hown hK hP uw_2_55 dX6_firstRow_73 ?_
        refine lv_iload hx hb dX6_firstRow_76 (lv_at hl 1 rfl) ?_
        refine cl_smi_placedIrons hx hb hK hP dX6_firstRow_78 (by omega) b_B_smi_placedIrons (fun z_187 _ hz_187 => ?_)
        refine lv_ior hx hb dX6_firstRow_79 ?_
        refine sy_any (fun z_188 hz_188 => ?_)
        refine lv_istore (lv' := [(5, .int (mI z_188)), (6, .int (mI (z_155 + 2))), (8, .int (mI r_178)), (7, .int (mI z_154)), (0, .ref (a 36)), (1, .int (mI p0)), (2, .int (mI p1)), (3, .int (mI p2)), (4, .ref (a 1))]) hx hb dX6_firstRow_80 hl (by decide) rfl (fun ls hl => ?_)
        refine lv_iinc (v := mI (z_154 - 1)) (lv' := [(7, .int (mI (z_154 - 1))), (5, .int (mI z_188)), (6, .int (mI (z_155 + 2))), (8, .int (mI r_178)), (0, .ref (a 36)), (1, .int (mI p0)), (2, .int (mI p1)), (3, .int (mI p2)), (4, .ref (a 1))]) hx hb dX6_firstRow_82 hl (k := 3) rfl (mI_ad (by omega)) (by decide) rfl (fun ls hl => ?_)
        refine lv_goto (tgt := 11) hx hb dX6_firstRow_85 (by decide) ?_
        exact ih_175 _ _ _ _ (by omega) ⟨(z_154 - 1), (z_155 + 2), z_188, F_186, F_179, F_180, y_181, _, by omega, by omega, by omega, bF_186, bF_179, bF_180, by omega, by omega, rfl, hP, hS, lv_sub hl [0, 2, 1, 4, 5, 6, 7, 8] rfl, rfl⟩
      · skip
        refine lv_iconst (v := mI 0) hx hb dX6_firstRow_43 rfl ?_
        exact r_i hx hb hr hlocks dX6_firstRow_44 hS ⟨F_157, F_179, F_180, y_181, by omega, bF_157, bF_179, bF_180, by omega, hP⟩
set_option maxHeartbeats 4000000 in
set_option maxRecDepth 100000 in
theorem kc_X7_length (h_x_tape_length : 0 ≤ x_tape_length ∧ x_tape_length ≤ 1600) : MetG l D k yX7_length cX7_length 1 (some .int) 0 [.ref (a 2)] (cW k a q x_xo_lyingCount x_tape_length x_tape_next x_tape_kind x_tape_place x_tape_number x_tape_faultKind x_tape_faultPlace x_told_turns x_told_mirror x_told_night x_told_draw x_told_herds x_told_irons x_told_beasts x_told_linesTold x_tfo_steps x_tfo_units x_draft_turns x_draft_mirror x_draft_night x_draft_draw x_draft_herds x_draft_irons x_draft_beasts x_draft_linesTold x_dfo_steps x_dfo_units x_lat_placements x_smi_irons x_smi_aim x_his_here x_his_undoable x_his_redoable x_book_placedCount x_wit_count x_wit_time n_tape_name B_xo_lying B_tape_bytes B_told_brands B_told_ironMarks B_told_homes B_told_births B_tfo_kinds B_tfo_numbers B_tfo_stack B_tfo_facts B_draft_brands B_draft_ironMarks B_draft_homes B_draft_births B_dfo_kinds B_dfo_numbers B_dfo_stack B_dfo_facts B_lat_lowHalves B_lat_highHalves B_lat_ways B_smi_placedIrons B_smi_within B_smi_costs B_his_isKept B_book_norms B_book_above B_book_heights B_book_placedBrands B_bea_firstGains B_bea_otherGains B_wit_burnings B_wit_strokes B_wit_wasOn B_wit_toldAt B_wit_untoldAt B_wit_on B_wit_off B_wit_firstCounts B_wit_secondCounts Ps Pd G_tape_wordNames G_told_herdNames G_told_ironNames G_told_beastNames G_draft_herdNames G_draft_ironNames G_draft_beastNames Ph Po Pg ex) (qGi (fun r0 H => (0 ≤ r0 ∧ r0 ≤ 1600) ∧ va_P D vwCl (cW k a q x_xo_lyingCount x_tape_length x_tape_next x_tape_kind x_tape_place x_tape_number x_tape_faultKind x_tape_faultPlace x_told_turns x_told_mirror x_told_night x_told_draw x_told_herds x_told_irons x_told_beasts x_told_linesTold x_tfo_steps x_tfo_units x_draft_turns x_draft_mirror x_draft_night x_draft_draw x_draft_herds x_draft_irons x_draft_beasts x_draft_linesTold x_dfo_steps x_dfo_units x_lat_placements x_smi_irons x_smi_aim x_his_here x_his_undoable x_his_redoable x_book_placedCount x_wit_count x_wit_time n_tape_name B_xo_lying B_tape_bytes B_told_brands B_told_ironMarks B_told_homes B_told_births B_tfo_kinds B_tfo_numbers B_tfo_stack B_tfo_facts B_draft_brands B_draft_ironMarks B_draft_homes B_draft_births B_dfo_kinds B_dfo_numbers B_dfo_stack B_dfo_facts B_lat_lowHalves B_lat_highHalves B_lat_ways B_smi_placedIrons B_smi_within B_smi_costs B_his_isKept B_book_norms B_book_above B_book_heights B_book_placedBrands B_bea_firstGains B_bea_otherGains B_wit_burnings B_wit_strokes B_wit_wasOn B_wit_toldAt B_wit_untoldAt B_wit_on B_wit_off B_wit_firstCounts B_wit_secondCounts Ps Pd G_tape_wordNames G_told_herdNames G_told_ironNames G_told_beastNames G_draft_herdNames G_draft_ironNames G_draft_beastNames Ph Po Pg ex) H)) := by
  refine metG_of 0 ck_X7_length (Nat.le_of_ble_eq_true rfl) cMap (fun p e s m args below meth c A hx hb hml hr hlocks hown hts hK hD hA hP hS ls hl => ?_)
  have hown : s.vm.findClass "HideReader$Tape" = some m.cls := hown
  have hl : lv_has ls 1 [(0, .ref (a 2))] := hl
  refine lv_aload_n hx hb dX7_length_0 rfl (lv_at hl 0 rfl) ?_
  refine cg_tape_length hx hb hts hown hK hP uw_1_92 dX7_length_1 ?_
  exact r_i hx hb hr hlocks dX7_length_4 hS ⟨by omega, hP⟩
set_option maxHeartbeats 4000000 in
set_option maxRecDepth 100000 in
theorem kc_X7_kind (h_x_tape_kind : 0 ≤ x_tape_kind ∧ x_tape_kind ≤ 255) : MetG l D k yX7_kind cX7_kind 1 (some .int) 0 [.ref (a 2)] (cW k a q x_xo_lyingCount x_tape_length x_tape_next x_tape_kind x_tape_place x_tape_number x_tape_faultKind x_tape_faultPlace x_told_turns x_told_mirror x_told_night x_told_draw x_told_herds x_told_irons x_told_beasts x_told_linesTold x_tfo_steps x_tfo_units x_draft_turns x_draft_mirror x_draft_night x_draft_draw x_draft_herds x_draft_irons x_draft_beasts x_draft_linesTold x_dfo_steps x_dfo_units x_lat_placements x_smi_irons x_smi_aim x_his_here x_his_undoable x_his_redoable x_book_placedCount x_wit_count x_wit_time n_tape_name B_xo_lying B_tape_bytes B_told_brands B_told_ironMarks B_told_homes B_told_births B_tfo_kinds B_tfo_numbers B_tfo_stack B_tfo_facts B_draft_brands B_draft_ironMarks B_draft_homes B_draft_births B_dfo_kinds B_dfo_numbers B_dfo_stack B_dfo_facts B_lat_lowHalves B_lat_highHalves B_lat_ways B_smi_placedIrons B_smi_within B_smi_costs B_his_isKept B_book_norms B_book_above B_book_heights B_book_placedBrands B_bea_firstGains B_bea_otherGains B_wit_burnings B_wit_strokes B_wit_wasOn B_wit_toldAt B_wit_untoldAt B_wit_on B_wit_off B_wit_firstCounts B_wit_secondCounts Ps Pd G_tape_wordNames G_told_herdNames G_told_ironNames G_told_beastNames G_draft_herdNames G_draft_ironNames G_draft_beastNames Ph Po Pg ex) (qGi (fun r0 H => (0 ≤ r0 ∧ r0 ≤ 255) ∧ va_P D vwCl (cW k a q x_xo_lyingCount x_tape_length x_tape_next x_tape_kind x_tape_place x_tape_number x_tape_faultKind x_tape_faultPlace x_told_turns x_told_mirror x_told_night x_told_draw x_told_herds x_told_irons x_told_beasts x_told_linesTold x_tfo_steps x_tfo_units x_draft_turns x_draft_mirror x_draft_night x_draft_draw x_draft_herds x_draft_irons x_draft_beasts x_draft_linesTold x_dfo_steps x_dfo_units x_lat_placements x_smi_irons x_smi_aim x_his_here x_his_undoable x_his_redoable x_book_placedCount x_wit_count x_wit_time n_tape_name B_xo_lying B_tape_bytes B_told_brands B_told_ironMarks B_told_homes B_told_births B_tfo_kinds B_tfo_numbers B_tfo_stack B_tfo_facts B_draft_brands B_draft_ironMarks B_draft_homes B_draft_births B_dfo_kinds B_dfo_numbers B_dfo_stack B_dfo_facts B_lat_lowHalves B_lat_highHalves B_lat_ways B_smi_placedIrons B_smi_within B_smi_costs B_his_isKept B_book_norms B_book_above B_book_heights B_book_placedBrands B_bea_firstGains B_bea_otherGains B_wit_burnings B_wit_strokes B_wit_wasOn B_wit_toldAt B_wit_untoldAt B_wit_on B_wit_off B_wit_firstCounts B_wit_secondCounts Ps Pd G_tape_wordNames G_told_herdNames G_told_ironNames G_told_beastNames G_draft_herdNames G_draft_ironNames G_draft_beastNames Ph Po Pg ex) H)) := by
  refine metG_of 0 ck_X7_kind (Nat.le_of_ble_eq_true rfl) cMap (fun p e s m args below meth c A hx hb hml hr hlocks hown hts hK hD hA hP hS ls hl => ?_)
  have hown : s.vm.findClass "HideReader$Tape" = some m.cls := hown
  have hl : lv_has ls 1 [(0, .ref (a 2))] := hl
  refine lv_aload_n hx hb dX7_kind_0 rfl (lv_at hl 0 rfl) ?_
  refine cg_tape_kind hx hb hts hown hK hP uw_1_94 dX7_kind_1 ?_
  exact r_i hx hb hr hlocks dX7_kind_4 hS ⟨by omega, hP⟩
set_option maxHeartbeats 4000000 in
set_option maxRecDepth 100000 in
theorem kc_X7_number (h_x_tape_number : -2147483648 ≤ x_tape_number ∧ x_tape_number ≤ 2147483647) : MetG l D k yX7_number cX7_number 1 (some .int) 0 [.ref (a 2)] (cW k a q x_xo_lyingCount x_tape_length x_tape_next x_tape_kind x_tape_place x_tape_number x_tape_faultKind x_tape_faultPlace x_told_turns x_told_mirror x_told_night x_told_draw x_told_herds x_told_irons x_told_beasts x_told_linesTold x_tfo_steps x_tfo_units x_draft_turns x_draft_mirror x_draft_night x_draft_draw x_draft_herds x_draft_irons x_draft_beasts x_draft_linesTold x_dfo_steps x_dfo_units x_lat_placements x_smi_irons x_smi_aim x_his_here x_his_undoable x_his_redoable x_book_placedCount x_wit_count x_wit_time n_tape_name B_xo_lying B_tape_bytes B_told_brands B_told_ironMarks B_told_homes B_told_births B_tfo_kinds B_tfo_numbers B_tfo_stack B_tfo_facts B_draft_brands B_draft_ironMarks B_draft_homes B_draft_births B_dfo_kinds B_dfo_numbers B_dfo_stack B_dfo_facts B_lat_lowHalves B_lat_highHalves B_lat_ways B_smi_placedIrons B_smi_within B_smi_costs B_his_isKept B_book_norms B_book_above B_book_heights B_book_placedBrands B_bea_firstGains B_bea_otherGains B_wit_burnings B_wit_strokes B_wit_wasOn B_wit_toldAt B_wit_untoldAt B_wit_on B_wit_off B_wit_firstCounts B_wit_secondCounts Ps Pd G_tape_wordNames G_told_herdNames G_told_ironNames G_told_beastNames G_draft_herdNames G_draft_ironNames G_draft_beastNames Ph Po Pg ex) (qGi (fun r0 H => (-2147483648 ≤ r0 ∧ r0 ≤ 2147483647) ∧ va_P D vwCl (cW k a q x_xo_lyingCount x_tape_length x_tape_next x_tape_kind x_tape_place x_tape_number x_tape_faultKind x_tape_faultPlace x_told_turns x_told_mirror x_told_night x_told_draw x_told_herds x_told_irons x_told_beasts x_told_linesTold x_tfo_steps x_tfo_units x_draft_turns x_draft_mirror x_draft_night x_draft_draw x_draft_herds x_draft_irons x_draft_beasts x_draft_linesTold x_dfo_steps x_dfo_units x_lat_placements x_smi_irons x_smi_aim x_his_here x_his_undoable x_his_redoable x_book_placedCount x_wit_count x_wit_time n_tape_name B_xo_lying B_tape_bytes B_told_brands B_told_ironMarks B_told_homes B_told_births B_tfo_kinds B_tfo_numbers B_tfo_stack B_tfo_facts B_draft_brands B_draft_ironMarks B_draft_homes B_draft_births B_dfo_kinds B_dfo_numbers B_dfo_stack B_dfo_facts B_lat_lowHalves B_lat_highHalves B_lat_ways B_smi_placedIrons B_smi_within B_smi_costs B_his_isKept B_book_norms B_book_above B_book_heights B_book_placedBrands B_bea_firstGains B_bea_otherGains B_wit_burnings B_wit_strokes B_wit_wasOn B_wit_toldAt B_wit_untoldAt B_wit_on B_wit_off B_wit_firstCounts B_wit_secondCounts Ps Pd G_tape_wordNames G_told_herdNames G_told_ironNames G_told_beastNames G_draft_herdNames G_draft_ironNames G_draft_beastNames Ph Po Pg ex) H)) := by
  refine metG_of 0 ck_X7_number (Nat.le_of_ble_eq_true rfl) cMap (fun p e s m args below meth c A hx hb hml hr hlocks hown hts hK hD hA hP hS ls hl => ?_)
  have hown : s.vm.findClass "HideReader$Tape" = some m.cls := hown
  have hl : lv_has ls 1 [(0, .ref (a 2))] := hl
  refine lv_aload_n hx hb dX7_number_0 rfl (lv_at hl 0 rfl) ?_
  refine cg_tape_number hx hb hts hown hK hP uw_1_96 dX7_number_1 ?_
  exact r_i hx hb hr hlocks dX7_number_4 hS ⟨by omega, hP⟩
set_option maxHeartbeats 4000000 in
set_option maxRecDepth 100000 in
theorem kc_X7_name : MetG l D k yX7_name cX7_name 1 (some .long) 0 [.ref (a 2)] (cW k a q x_xo_lyingCount x_tape_length x_tape_next x_tape_kind x_tape_place x_tape_number x_tape_faultKind x_tape_faultPlace x_told_turns x_told_mirror x_told_night x_told_draw x_told_herds x_told_irons x_told_beasts x_told_linesTold x_tfo_steps x_tfo_units x_draft_turns x_draft_mirror x_draft_night x_draft_draw x_draft_herds x_draft_irons x_draft_beasts x_draft_linesTold x_dfo_steps x_dfo_units x_lat_placements x_smi_irons x_smi_aim x_his_here x_his_undoable x_his_redoable x_book_placedCount x_wit_count x_wit_time n_tape_name B_xo_lying B_tape_bytes B_told_brands B_told_ironMarks B_told_homes B_told_births B_tfo_kinds B_tfo_numbers B_tfo_stack B_tfo_facts B_draft_brands B_draft_ironMarks B_draft_homes B_draft_births B_dfo_kinds B_dfo_numbers B_dfo_stack B_dfo_facts B_lat_lowHalves B_lat_highHalves B_lat_ways B_smi_placedIrons B_smi_within B_smi_costs B_his_isKept B_book_norms B_book_above B_book_heights B_book_placedBrands B_bea_firstGains B_bea_otherGains B_wit_burnings B_wit_strokes B_wit_wasOn B_wit_toldAt B_wit_untoldAt B_wit_on B_wit_off B_wit_firstCounts B_wit_secondCounts Ps Pd G_tape_wordNames G_told_herdNames G_told_ironNames G_told_beastNames G_draft_herdNames G_draft_ironNames G_draft_beastNames Ph Po Pg ex) (qGl (fun r0 H => va_P D vwCl (cW k a q x_xo_lyingCount x_tape_length x_tape_next x_tape_kind x_tape_place x_tape_number x_tape_faultKind x_tape_faultPlace x_told_turns x_told_mirror x_told_night x_told_draw x_told_herds x_told_irons x_told_beasts x_told_linesTold x_tfo_steps x_tfo_units x_draft_turns x_draft_mirror x_draft_night x_draft_draw x_draft_herds x_draft_irons x_draft_beasts x_draft_linesTold x_dfo_steps x_dfo_units x_lat_placements x_smi_irons x_smi_aim x_his_here x_his_undoable x_his_redoable x_book_placedCount x_wit_count x_wit_time n_tape_name B_xo_lying B_tape_bytes B_told_brands B_told_ironMarks B_told_homes B_told_births B_tfo_kinds B_tfo_numbers B_tfo_stack B_tfo_facts B_draft_brands B_draft_ironMarks B_draft_homes B_draft_births B_dfo_kinds B_dfo_numbers B_dfo_stack B_dfo_facts B_lat_lowHalves B_lat_highHalves B_lat_ways B_smi_placedIrons B_smi_within B_smi_costs B_his_isKept B_book_norms B_book_above B_book_heights B_book_placedBrands B_bea_firstGains B_bea_otherGains B_wit_burnings B_wit_strokes B_wit_wasOn B_wit_toldAt B_wit_untoldAt B_wit_on B_wit_off B_wit_firstCounts B_wit_secondCounts Ps Pd G_tape_wordNames G_told_herdNames G_told_ironNames G_told_beastNames G_draft_herdNames G_draft_ironNames G_draft_beastNames Ph Po Pg ex) H)) := by
  refine metG_of 0 ck_X7_name (Nat.le_of_ble_eq_true rfl) cMap (fun p e s m args below meth c A hx hb hml hr hlocks hown hts hK hD hA hP hS ls hl => ?_)
  have hown : s.vm.findClass "HideReader$Tape" = some m.cls := hown
  have hl : lv_has ls 1 [(0, .ref (a 2))] := hl
  refine lv_aload_n hx hb dX7_name_0 rfl (lv_at hl 0 rfl) ?_
  refine cg_tape_name hx hb hts hown hK hP uw_1_97 dX7_name_1 ?_
  exact r_l hx hb hr hlocks dX7_name_4 hS hP
set_option maxHeartbeats 4000000 in
set_option maxRecDepth 100000 in
theorem kc_X7_faultKind (h_x_tape_faultKind : 0 ≤ x_tape_faultKind ∧ x_tape_faultKind ≤ 5) : MetG l D k yX7_faultKind cX7_faultKind 1 (some .int) 0 [.ref (a 2)] (cW k a q x_xo_lyingCount x_tape_length x_tape_next x_tape_kind x_tape_place x_tape_number x_tape_faultKind x_tape_faultPlace x_told_turns x_told_mirror x_told_night x_told_draw x_told_herds x_told_irons x_told_beasts x_told_linesTold x_tfo_steps x_tfo_units x_draft_turns x_draft_mirror x_draft_night x_draft_draw x_draft_herds x_draft_irons x_draft_beasts x_draft_linesTold x_dfo_steps x_dfo_units x_lat_placements x_smi_irons x_smi_aim x_his_here x_his_undoable x_his_redoable x_book_placedCount x_wit_count x_wit_time n_tape_name B_xo_lying B_tape_bytes B_told_brands B_told_ironMarks B_told_homes B_told_births B_tfo_kinds B_tfo_numbers B_tfo_stack B_tfo_facts B_draft_brands B_draft_ironMarks B_draft_homes B_draft_births B_dfo_kinds B_dfo_numbers B_dfo_stack B_dfo_facts B_lat_lowHalves B_lat_highHalves B_lat_ways B_smi_placedIrons B_smi_within B_smi_costs B_his_isKept B_book_norms B_book_above B_book_heights B_book_placedBrands B_bea_firstGains B_bea_otherGains B_wit_burnings B_wit_strokes B_wit_wasOn B_wit_toldAt B_wit_untoldAt B_wit_on B_wit_off B_wit_firstCounts B_wit_secondCounts Ps Pd G_tape_wordNames G_told_herdNames G_told_ironNames G_told_beastNames G_draft_herdNames G_draft_ironNames G_draft_beastNames Ph Po Pg ex) (qGi (fun r0 H => (0 ≤ r0 ∧ r0 ≤ 5) ∧ va_P D vwCl (cW k a q x_xo_lyingCount x_tape_length x_tape_next x_tape_kind x_tape_place x_tape_number x_tape_faultKind x_tape_faultPlace x_told_turns x_told_mirror x_told_night x_told_draw x_told_herds x_told_irons x_told_beasts x_told_linesTold x_tfo_steps x_tfo_units x_draft_turns x_draft_mirror x_draft_night x_draft_draw x_draft_herds x_draft_irons x_draft_beasts x_draft_linesTold x_dfo_steps x_dfo_units x_lat_placements x_smi_irons x_smi_aim x_his_here x_his_undoable x_his_redoable x_book_placedCount x_wit_count x_wit_time n_tape_name B_xo_lying B_tape_bytes B_told_brands B_told_ironMarks B_told_homes B_told_births B_tfo_kinds B_tfo_numbers B_tfo_stack B_tfo_facts B_draft_brands B_draft_ironMarks B_draft_homes B_draft_births B_dfo_kinds B_dfo_numbers B_dfo_stack B_dfo_facts B_lat_lowHalves B_lat_highHalves B_lat_ways B_smi_placedIrons B_smi_within B_smi_costs B_his_isKept B_book_norms B_book_above B_book_heights B_book_placedBrands B_bea_firstGains B_bea_otherGains B_wit_burnings B_wit_strokes B_wit_wasOn B_wit_toldAt B_wit_untoldAt B_wit_on B_wit_off B_wit_firstCounts B_wit_secondCounts Ps Pd G_tape_wordNames G_told_herdNames G_told_ironNames G_told_beastNames G_draft_herdNames G_draft_ironNames G_draft_beastNames Ph Po Pg ex) H)) := by
  refine metG_of 0 ck_X7_faultKind (Nat.le_of_ble_eq_true rfl) cMap (fun p e s m args below meth c A hx hb hml hr hlocks hown hts hK hD hA hP hS ls hl => ?_)
  have hown : s.vm.findClass "HideReader$Tape" = some m.cls := hown
  have hl : lv_has ls 1 [(0, .ref (a 2))] := hl
  refine lv_aload_n hx hb dX7_faultKind_0 rfl (lv_at hl 0 rfl) ?_
  refine cg_tape_faultKind hx hb hts hown hK hP uw_1_98 dX7_faultKind_1 ?_
  exact r_i hx hb hr hlocks dX7_faultKind_4 hS ⟨by omega, hP⟩
set_option maxHeartbeats 4000000 in
set_option maxRecDepth 100000 in
theorem kc_X7_faultPlace (h_x_tape_faultPlace : -1 ≤ x_tape_faultPlace ∧ x_tape_faultPlace ≤ 1600) : MetG l D k yX7_faultPlace cX7_faultPlace 1 (some .int) 0 [.ref (a 2)] (cW k a q x_xo_lyingCount x_tape_length x_tape_next x_tape_kind x_tape_place x_tape_number x_tape_faultKind x_tape_faultPlace x_told_turns x_told_mirror x_told_night x_told_draw x_told_herds x_told_irons x_told_beasts x_told_linesTold x_tfo_steps x_tfo_units x_draft_turns x_draft_mirror x_draft_night x_draft_draw x_draft_herds x_draft_irons x_draft_beasts x_draft_linesTold x_dfo_steps x_dfo_units x_lat_placements x_smi_irons x_smi_aim x_his_here x_his_undoable x_his_redoable x_book_placedCount x_wit_count x_wit_time n_tape_name B_xo_lying B_tape_bytes B_told_brands B_told_ironMarks B_told_homes B_told_births B_tfo_kinds B_tfo_numbers B_tfo_stack B_tfo_facts B_draft_brands B_draft_ironMarks B_draft_homes B_draft_births B_dfo_kinds B_dfo_numbers B_dfo_stack B_dfo_facts B_lat_lowHalves B_lat_highHalves B_lat_ways B_smi_placedIrons B_smi_within B_smi_costs B_his_isKept B_book_norms B_book_above B_book_heights B_book_placedBrands B_bea_firstGains B_bea_otherGains B_wit_burnings B_wit_strokes B_wit_wasOn B_wit_toldAt B_wit_untoldAt B_wit_on B_wit_off B_wit_firstCounts B_wit_secondCounts Ps Pd G_tape_wordNames G_told_herdNames G_told_ironNames G_told_beastNames G_draft_herdNames G_draft_ironNames G_draft_beastNames Ph Po Pg ex) (qGi (fun r0 H => (-1 ≤ r0 ∧ r0 ≤ 1600) ∧ va_P D vwCl (cW k a q x_xo_lyingCount x_tape_length x_tape_next x_tape_kind x_tape_place x_tape_number x_tape_faultKind x_tape_faultPlace x_told_turns x_told_mirror x_told_night x_told_draw x_told_herds x_told_irons x_told_beasts x_told_linesTold x_tfo_steps x_tfo_units x_draft_turns x_draft_mirror x_draft_night x_draft_draw x_draft_herds x_draft_irons x_draft_beasts x_draft_linesTold x_dfo_steps x_dfo_units x_lat_placements x_smi_irons x_smi_aim x_his_here x_his_undoable x_his_redoable x_book_placedCount x_wit_count x_wit_time n_tape_name B_xo_lying B_tape_bytes B_told_brands B_told_ironMarks B_told_homes B_told_births B_tfo_kinds B_tfo_numbers B_tfo_stack B_tfo_facts B_draft_brands B_draft_ironMarks B_draft_homes B_draft_births B_dfo_kinds B_dfo_numbers B_dfo_stack B_dfo_facts B_lat_lowHalves B_lat_highHalves B_lat_ways B_smi_placedIrons B_smi_within B_smi_costs B_his_isKept B_book_norms B_book_above B_book_heights B_book_placedBrands B_bea_firstGains B_bea_otherGains B_wit_burnings B_wit_strokes B_wit_wasOn B_wit_toldAt B_wit_untoldAt B_wit_on B_wit_off B_wit_firstCounts B_wit_secondCounts Ps Pd G_tape_wordNames G_told_herdNames G_told_ironNames G_told_beastNames G_draft_herdNames G_draft_ironNames G_draft_beastNames Ph Po Pg ex) H)) := by
  refine metG_of 0 ck_X7_faultPlace (Nat.le_of_ble_eq_true rfl) cMap (fun p e s m args below meth c A hx hb hml hr hlocks hown hts hK hD hA hP hS ls hl => ?_)
  have hown : s.vm.findClass "HideReader$Tape" = some m.cls := hown
  have hl : lv_has ls 1 [(0, .ref (a 2))] := hl
  refine lv_aload_n hx hb dX7_faultPlace_0 rfl (lv_at hl 0 rfl) ?_
  refine cg_tape_faultPlace hx hb hts hown hK hP uw_1_99 dX7_faultPlace_1 ?_
  exact r_i hx hb hr hlocks dX7_faultPlace_4 hS ⟨by omega, hP⟩
set_option maxHeartbeats 4000000 in
set_option maxRecDepth 100000 in
theorem kc_X7_addNumber {p0 : Int} (hp0 : -2147483648 ≤ p0 ∧ p0 ≤ 2147483647) (h_x_tape_length : 0 ≤ x_tape_length ∧ x_tape_length ≤ 1600) (b_B_tape_bytes : bd (-128) 127 B_tape_bytes) : MetG l D k yX7_addNumber cX7_addNumber 3 none 0 [.ref (a 2), .int (mI p0)] (cW k a q x_xo_lyingCount x_tape_length x_tape_next x_tape_kind x_tape_place x_tape_number x_tape_faultKind x_tape_faultPlace x_told_turns x_told_mirror x_told_night x_told_draw x_told_herds x_told_irons x_told_beasts x_told_linesTold x_tfo_steps x_tfo_units x_draft_turns x_draft_mirror x_draft_night x_draft_draw x_draft_herds x_draft_irons x_draft_beasts x_draft_linesTold x_dfo_steps x_dfo_units x_lat_placements x_smi_irons x_smi_aim x_his_here x_his_undoable x_his_redoable x_book_placedCount x_wit_count x_wit_time n_tape_name B_xo_lying B_tape_bytes B_told_brands B_told_ironMarks B_told_homes B_told_births B_tfo_kinds B_tfo_numbers B_tfo_stack B_tfo_facts B_draft_brands B_draft_ironMarks B_draft_homes B_draft_births B_dfo_kinds B_dfo_numbers B_dfo_stack B_dfo_facts B_lat_lowHalves B_lat_highHalves B_lat_ways B_smi_placedIrons B_smi_within B_smi_costs B_his_isKept B_book_norms B_book_above B_book_heights B_book_placedBrands B_bea_firstGains B_bea_otherGains B_wit_burnings B_wit_strokes B_wit_wasOn B_wit_toldAt B_wit_untoldAt B_wit_on B_wit_off B_wit_firstCounts B_wit_secondCounts Ps Pd G_tape_wordNames G_told_herdNames G_told_ironNames G_told_beastNames G_draft_herdNames G_draft_ironNames G_draft_beastNames Ph Po Pg ex) (qGv (fun H => ∃ (F_tape_bytes : Nat → Int) (y_tape_length : Int), (bd (-128) 127 F_tape_bytes) ∧ (0 ≤ y_tape_length ∧ y_tape_length ≤ 1600) ∧ (0 ≤ y_tape_length - x_tape_length) ∧ va_P D vwCl (cW k a q x_xo_lyingCount y_tape_length x_tape_next x_tape_kind x_tape_place x_tape_number x_tape_faultKind x_tape_faultPlace x_told_turns x_told_mirror x_told_night x_told_draw x_told_herds x_told_irons x_told_beasts x_told_linesTold x_tfo_steps x_tfo_units x_draft_turns x_draft_mirror x_draft_night x_draft_draw x_draft_herds x_draft_irons x_draft_beasts x_draft_linesTold x_dfo_steps x_dfo_units x_lat_placements x_smi_irons x_smi_aim x_his_here x_his_undoable x_his_redoable x_book_placedCount x_wit_count x_wit_time n_tape_name B_xo_lying F_tape_bytes B_told_brands B_told_ironMarks B_told_homes B_told_births B_tfo_kinds B_tfo_numbers B_tfo_stack B_tfo_facts B_draft_brands B_draft_ironMarks B_draft_homes B_draft_births B_dfo_kinds B_dfo_numbers B_dfo_stack B_dfo_facts B_lat_lowHalves B_lat_highHalves B_lat_ways B_smi_placedIrons B_smi_within B_smi_costs B_his_isKept B_book_norms B_book_above B_book_heights B_book_placedBrands B_bea_firstGains B_bea_otherGains B_wit_burnings B_wit_strokes B_wit_wasOn B_wit_toldAt B_wit_untoldAt B_wit_on B_wit_off B_wit_firstCounts B_wit_secondCounts Ps Pd G_tape_wordNames G_told_herdNames G_told_ironNames G_told_beastNames G_draft_herdNames G_draft_ironNames G_draft_beastNames Ph Po Pg ex) H)) := by
  refine metG_of 1 ck_X7_addNumber (Nat.le_of_ble_eq_true rfl) cMap (fun p e s m args below meth c A hx hb hml hr hlocks hown hts hK hD hA hP hS ls hl => ?_)
  have hown : s.vm.findClass "HideReader$Tape" = some m.cls := hown
  have hl : lv_has ls 3 [(0, .ref (a 2)), (1, .int (mI p0))] := hl
  refine lv_bipush (v := mI 24) hx hb dX7_addNumber_0 (by decide) ?_
  refine lv_istore_n (lv' := [(2, .int (mI 24)), (0, .ref (a 2)), (1, .int (mI p0))]) hx hb dX7_addNumber_2 rfl hl (by decide) rfl (fun ls hl => ?_)
  refine sy_loop (I := fun n H locs g => ∃ (z_62 : Int) (F_63 : Nat → Int) (y_64 : Int) (ls : Array Slot), (-8 ≤ z_62 ∧ z_62 ≤ 24) ∧ (bd (-128) 127 F_63) ∧ (0 ≤ y_64 ∧ y_64 ≤ 1600) ∧ (0 ≤ y_64 - x_tape_length) ∧ (z_62 - (-8)).toNat = n ∧ va_P D vwCl (cW k a q x_xo_lyingCount y_64 x_tape_next x_tape_kind x_tape_place x_tape_number x_tape_faultKind x_tape_faultPlace x_told_turns x_told_mirror x_told_night x_told_draw x_told_herds x_told_irons x_told_beasts x_told_linesTold x_tfo_steps x_tfo_units x_draft_turns x_draft_mirror x_draft_night x_draft_draw x_draft_herds x_draft_irons x_draft_beasts x_draft_linesTold x_dfo_steps x_dfo_units x_lat_placements x_smi_irons x_smi_aim x_his_here x_his_undoable x_his_redoable x_book_placedCount x_wit_count x_wit_time n_tape_name B_xo_lying F_63 B_told_brands B_told_ironMarks B_told_homes B_told_births B_tfo_kinds B_tfo_numbers B_tfo_stack B_tfo_facts B_draft_brands B_draft_ironMarks B_draft_homes B_draft_births B_dfo_kinds B_dfo_numbers B_dfo_stack B_dfo_facts B_lat_lowHalves B_lat_highHalves B_lat_ways B_smi_placedIrons B_smi_within B_smi_costs B_his_isKept B_book_norms B_book_above B_book_heights B_book_placedBrands B_bea_firstGains B_bea_otherGains B_wit_burnings B_wit_strokes B_wit_wasOn B_wit_toldAt B_wit_untoldAt B_wit_on B_wit_off B_wit_firstCounts B_wit_secondCounts Ps Pd G_tape_wordNames G_told_herdNames G_told_ironNames G_told_beastNames G_draft_herdNames G_draft_ironNames G_draft_beastNames Ph Po Pg ex) H ∧ va_S A s.heap H locs ∧ lv_has ls 3 [(2, .int (mI z_62)), (0, .ref (a 2)), (1, .int (mI p0))] ∧ g = F0 m 3 ls []) ?_ _ ⟨24, B_tape_bytes, x_tape_length, _, by omega, b_B_tape_bytes, by omega, by omega, rfl, hP, hS, lv_sub hl [0, 1, 2] rfl, rfl⟩
  intro n_70 H locs g hI ih_71
  obtain ⟨z_62, F_63, y_64, ls, h3_0, bF_63, h3_2, h3_3, mn_70, hP, hS, hl, rfl⟩ := hI
  refine lv_iload_n hx hb dX7_addNumber_3 rfl (lv_at hl 0 rfl) ?_
  refine sy_if_lt (tgt := 46) hx hb dX7_addNumber_4 (by decide) (by omega) (fun c_72 => ?_) (fun c_72 => ?_)
  · skip
    exact r_v hx hb hr hlocks dX7_addNumber_46 hS ⟨F_63, y_64, bF_63, by omega, by omega, hP⟩
  · skip
    refine lv_aload_n hx hb dX7_addNumber_7 rfl (lv_at hl 1 rfl) ?_
    refine cg_tape_length hx hb hts hown hK hP uw_1_92 dX7_addNumber_8 ?_
    refine lv_sipush (v := mI 1600) hx hb dX7_addNumber_11 (by decide) ?_
    refine sy_icmp_ge (tgt := 40) hx hb dX7_addNumber_14 (by decide) (by omega) (by decide) (fun c_73 => ?_) (fun c_73 => ?_)
    · skip
      refine lv_iinc (v := mI (z_62 - 8)) (lv' := [(2, .int (mI (z_62 - 8))), (0, .ref (a 2)), (1, .int (mI p0))]) hx hb dX7_addNumber_40 hl (k := 0) rfl (mI_ad (by omega)) (by decide) rfl (fun ls hl => ?_)
      refine lv_goto (tgt := 3) hx hb dX7_addNumber_43 (by decide) ?_
      exact ih_71 _ _ _ _ (by omega) ⟨(z_62 - 8), F_63, y_64, _, by omega, bF_63, by omega, by omega, rfl, hP, hS, lv_sub hl [0, 1, 2] rfl, rfl⟩
    · skip
      refine lv_aload_n hx hb dX7_addNumber_17 rfl (lv_at hl 1 rfl) ?_
      refine cg_tape_bytes hx hb hts hown hK hP uw_1_90 dX7_addNumber_18 ?_
      refine lv_aload_n hx hb dX7_addNumber_21 rfl (lv_at hl 1 rfl) ?_
      refine cg_tape_length hx hb hts hown hK hP uw_1_92 dX7_addNumber_22 ?_
      refine lv_iload_n hx hb dX7_addNumber_25 rfl (lv_at hl 2 rfl) ?_
      refine lv_iload_n hx hb dX7_addNumber_26 rfl (lv_at hl 0 rfl) ?_
      refine lv_ishr hx hb dX7_addNumber_27 ?_
      refine sy_any (fun z_74 hz_74 => ?_)
      refine sy_i2b hx hb dX7_addNumber_28 (fun z_75 hz_75 => ?_)
      refine cs_tape_bytes hx hb hK hP hD hS (by decide) dX7_addNumber_29 (by omega) bF_63 (by omega) (fun F_76 H locs _ bF_76 hP hS => ?_)
      refine lv_aload_n hx hb dX7_addNumber_30 rfl (lv_at hl 1 rfl) ?_
      refine lv_dup hx hb dX7_addNumber_31 rfl ?_
      refine cg_tape_length hx hb hts hown hK hP uw_1_92 dX7_addNumber_32 ?_
      refine lv_iconst (v := mI 1) hx hb dX7_addNumber_35 rfl ?_
      refine sy_iadd hx hb dX7_addNumber_36 (y_64 + 1) rfl ?_
      refine cp_tape_length hx hb hts hown hK hP hD hS uw_1_92 dX7_addNumber_37 (fun H locs hP hS => ?_)
      refine lv_iinc (v := mI (z_62 - 8)) (lv' := [(2, .int (mI (z_62 - 8))), (0, .ref (a 2)), (1, .int (mI p0))]) hx hb dX7_addNumber_40 hl (k := 0) rfl (mI_ad (by omega)) (by decide) rfl (fun ls hl => ?_)
      refine lv_goto (tgt := 3) hx hb dX7_addNumber_43 (by decide) ?_
      exact ih_71 _ _ _ _ (by omega) ⟨(z_62 - 8), F_76, (y_64 + 1), _, by omega, bF_76, by omega, by omega, rfl, hP, hS, lv_sub hl [0, 1, 2] rfl, rfl⟩
set_option maxHeartbeats 4000000 in
set_option maxRecDepth 100000 in
theorem kc_X7_cutTo {p0 : Int} (hp0 : 0 ≤ p0 ∧ p0 ≤ 1600) (h_x_tape_length : 0 ≤ x_tape_length ∧ x_tape_length ≤ 1600) : MetG l D k yX7_cutTo cX7_cutTo 2 none 0 [.ref (a 2), .int (mI p0)] (cW k a q x_xo_lyingCount x_tape_length x_tape_next x_tape_kind x_tape_place x_tape_number x_tape_faultKind x_tape_faultPlace x_told_turns x_told_mirror x_told_night x_told_draw x_told_herds x_told_irons x_told_beasts x_told_linesTold x_tfo_steps x_tfo_units x_draft_turns x_draft_mirror x_draft_night x_draft_draw x_draft_herds x_draft_irons x_draft_beasts x_draft_linesTold x_dfo_steps x_dfo_units x_lat_placements x_smi_irons x_smi_aim x_his_here x_his_undoable x_his_redoable x_book_placedCount x_wit_count x_wit_time n_tape_name B_xo_lying B_tape_bytes B_told_brands B_told_ironMarks B_told_homes B_told_births B_tfo_kinds B_tfo_numbers B_tfo_stack B_tfo_facts B_draft_brands B_draft_ironMarks B_draft_homes B_draft_births B_dfo_kinds B_dfo_numbers B_dfo_stack B_dfo_facts B_lat_lowHalves B_lat_highHalves B_lat_ways B_smi_placedIrons B_smi_within B_smi_costs B_his_isKept B_book_norms B_book_above B_book_heights B_book_placedBrands B_bea_firstGains B_bea_otherGains B_wit_burnings B_wit_strokes B_wit_wasOn B_wit_toldAt B_wit_untoldAt B_wit_on B_wit_off B_wit_firstCounts B_wit_secondCounts Ps Pd G_tape_wordNames G_told_herdNames G_told_ironNames G_told_beastNames G_draft_herdNames G_draft_ironNames G_draft_beastNames Ph Po Pg ex) (qGv (fun H => ∃ (y_tape_length : Int), (0 ≤ y_tape_length ∧ y_tape_length ≤ 1600) ∧ (0 ≤ -y_tape_length + x_tape_length) ∧ va_P D vwCl (cW k a q x_xo_lyingCount y_tape_length x_tape_next x_tape_kind x_tape_place x_tape_number x_tape_faultKind x_tape_faultPlace x_told_turns x_told_mirror x_told_night x_told_draw x_told_herds x_told_irons x_told_beasts x_told_linesTold x_tfo_steps x_tfo_units x_draft_turns x_draft_mirror x_draft_night x_draft_draw x_draft_herds x_draft_irons x_draft_beasts x_draft_linesTold x_dfo_steps x_dfo_units x_lat_placements x_smi_irons x_smi_aim x_his_here x_his_undoable x_his_redoable x_book_placedCount x_wit_count x_wit_time n_tape_name B_xo_lying B_tape_bytes B_told_brands B_told_ironMarks B_told_homes B_told_births B_tfo_kinds B_tfo_numbers B_tfo_stack B_tfo_facts B_draft_brands B_draft_ironMarks B_draft_homes B_draft_births B_dfo_kinds B_dfo_numbers B_dfo_stack B_dfo_facts B_lat_lowHalves B_lat_highHalves B_lat_ways B_smi_placedIrons B_smi_within B_smi_costs B_his_isKept B_book_norms B_book_above B_book_heights B_book_placedBrands B_bea_firstGains B_bea_otherGains B_wit_burnings B_wit_strokes B_wit_wasOn B_wit_toldAt B_wit_untoldAt B_wit_on B_wit_off B_wit_firstCounts B_wit_secondCounts Ps Pd G_tape_wordNames G_told_herdNames G_told_ironNames G_told_beastNames G_draft_herdNames G_draft_ironNames G_draft_beastNames Ph Po Pg ex) H)) := by
  refine metG_of 1 ck_X7_cutTo (Nat.le_of_ble_eq_true rfl) cMap (fun p e s m args below meth c A hx hb hml hr hlocks hown hts hK hD hA hP hS ls hl => ?_)
  have hown : s.vm.findClass "HideReader$Tape" = some m.cls := hown
  have hl : lv_has ls 2 [(0, .ref (a 2)), (1, .int (mI p0))] := hl
  refine lv_iload_n hx hb dX7_cutTo_0 rfl (lv_at hl 1 rfl) ?_
  refine sy_if_lt (tgt := 17) hx hb dX7_cutTo_1 (by decide) (by omega) (fun c9 => False.elim (by omega)) (fun c_1 => ?_)
  refine lv_iload_n hx hb dX7_cutTo_4 rfl (lv_at hl 1 rfl) ?_
  refine lv_aload_n hx hb dX7_cutTo_5 rfl (lv_at hl 0 rfl) ?_
  refine cg_tape_length hx hb hts hown hK hP uw_1_92 dX7_cutTo_6 ?_
  refine sy_icmp_gt (tgt := 17) hx hb dX7_cutTo_9 (by decide) (by omega) (by omega) (fun c_2 => ?_) (fun c_2 => ?_)
  · skip
    exact r_v hx hb hr hlocks dX7_cutTo_17 hS ⟨x_tape_length, by omega, by omega, hP⟩
  · skip
    refine lv_aload_n hx hb dX7_cutTo_12 rfl (lv_at hl 0 rfl) ?_
    refine lv_iload_n hx hb dX7_cutTo_13 rfl (lv_at hl 1 rfl) ?_
    refine cp_tape_length hx hb hts hown hK hP hD hS uw_1_92 dX7_cutTo_14 (fun H locs hP hS => ?_)
    exact r_v hx hb hr hlocks dX7_cutTo_17 hS ⟨p0, by omega, by omega, hP⟩
set_option maxHeartbeats 4000000 in
set_option maxRecDepth 100000 in
theorem kc_X7_isBlank {p0 : Int} (hp0 : -2147483648 ≤ p0 ∧ p0 ≤ 2147483647) : MetG l D k yX7_isBlank cX7_isBlank 1 (some .boolean) 0 [.int (mI p0)] (cW k a q x_xo_lyingCount x_tape_length x_tape_next x_tape_kind x_tape_place x_tape_number x_tape_faultKind x_tape_faultPlace x_told_turns x_told_mirror x_told_night x_told_draw x_told_herds x_told_irons x_told_beasts x_told_linesTold x_tfo_steps x_tfo_units x_draft_turns x_draft_mirror x_draft_night x_draft_draw x_draft_herds x_draft_irons x_draft_beasts x_draft_linesTold x_dfo_steps x_dfo_units x_lat_placements x_smi_irons x_smi_aim x_his_here x_his_undoable x_his_redoable x_book_placedCount x_wit_count x_wit_time n_tape_name B_xo_lying B_tape_bytes B_told_brands B_told_ironMarks B_told_homes B_told_births B_tfo_kinds B_tfo_numbers B_tfo_stack B_tfo_facts B_draft_brands B_draft_ironMarks B_draft_homes B_draft_births B_dfo_kinds B_dfo_numbers B_dfo_stack B_dfo_facts B_lat_lowHalves B_lat_highHalves B_lat_ways B_smi_placedIrons B_smi_within B_smi_costs B_his_isKept B_book_norms B_book_above B_book_heights B_book_placedBrands B_bea_firstGains B_bea_otherGains B_wit_burnings B_wit_strokes B_wit_wasOn B_wit_toldAt B_wit_untoldAt B_wit_on B_wit_off B_wit_firstCounts B_wit_secondCounts Ps Pd G_tape_wordNames G_told_herdNames G_told_ironNames G_told_beastNames G_draft_herdNames G_draft_ironNames G_draft_beastNames Ph Po Pg ex) (qGi (fun r0 H => ((r0 = 1 ∧ (10 ≤ p0 ∧ p0 ≤ 32) ∧ ((p0 = 32) ∨ (p0 ≠ 32 ∧ p0 = 10))) ∨ (r0 = 0 ∧ (¬ p0 = 32) ∧ (¬ p0 = 10))) ∧ va_P D vwCl (cW k a q x_xo_lyingCount x_tape_length x_tape_next x_tape_kind x_tape_place x_tape_number x_tape_faultKind x_tape_faultPlace x_told_turns x_told_mirror x_told_night x_told_draw x_told_herds x_told_irons x_told_beasts x_told_linesTold x_tfo_steps x_tfo_units x_draft_turns x_draft_mirror x_draft_night x_draft_draw x_draft_herds x_draft_irons x_draft_beasts x_draft_linesTold x_dfo_steps x_dfo_units x_lat_placements x_smi_irons x_smi_aim x_his_here x_his_undoable x_his_redoable x_book_placedCount x_wit_count x_wit_time n_tape_name B_xo_lying B_tape_bytes B_told_brands B_told_ironMarks B_told_homes B_told_births B_tfo_kinds B_tfo_numbers B_tfo_stack B_tfo_facts B_draft_brands B_draft_ironMarks B_draft_homes B_draft_births B_dfo_kinds B_dfo_numbers B_dfo_stack B_dfo_facts B_lat_lowHalves B_lat_highHalves B_lat_ways B_smi_placedIrons B_smi_within B_smi_costs B_his_isKept B_book_norms B_book_above B_book_heights B_book_placedBrands B_bea_firstGains B_bea_otherGains B_wit_burnings B_wit_strokes B_wit_wasOn B_wit_toldAt B_wit_untoldAt B_wit_on B_wit_off B_wit_firstCounts B_wit_secondCounts Ps Pd G_tape_wordNames G_told_herdNames G_told_ironNames G_told_beastNames G_draft_herdNames G_draft_ironNames G_draft_beastNames Ph Po Pg ex) H)) := by
  refine metG_of 1 ck_X7_isBlank (Nat.le_of_ble_eq_true rfl) cMap (fun p e s m args below meth c A hx hb hml hr hlocks hown hts hK hD hA hP hS ls hl => ?_)
  have hown : s.vm.findClass "HideReader$Tape" = some m.cls := hown
  have hl : lv_has ls 1 [(0, .int (mI p0))] := hl
  refine lv_iload_n hx hb dX7_isBlank_0 rfl (lv_at hl 0 rfl) ?_
  refine lv_bipush (v := mI 32) hx hb dX7_isBlank_1 (by decide) ?_
  refine sy_icmp_eq (tgt := 12) hx hb dX7_isBlank_3 (by decide) (by omega) (by decide) (fun c_1 => ?_) (fun c_1 => ?_)
  · skip
    refine lv_iconst (v := mI 1) hx hb dX7_isBlank_12 rfl ?_
    refine lv_goto (tgt := 17) hx hb dX7_isBlank_13 (by decide) ?_
    exact r_z hx hb hr hlocks dX7_isBlank_17 hS (by decide) ⟨Or.inl (⟨rfl, by omega, by omega⟩), hP⟩
  · skip
    refine lv_iload_n hx hb dX7_isBlank_6 rfl (lv_at hl 0 rfl) ?_
    refine lv_bipush (v := mI 10) hx hb dX7_isBlank_7 (by decide) ?_
    refine sy_icmp_ne (tgt := 16) hx hb dX7_isBlank_9 (by decide) (by omega) (by decide) (fun c_2 => ?_) (fun c_2 => ?_)
    · skip
      refine lv_iconst (v := mI 0) hx hb dX7_isBlank_16 rfl ?_
      exact r_z hx hb hr hlocks dX7_isBlank_17 hS (by decide) ⟨Or.inr (⟨rfl, by omega, by omega⟩), hP⟩
    · skip
      refine lv_iconst (v := mI 1) hx hb dX7_isBlank_12 rfl ?_
      refine lv_goto (tgt := 17) hx hb dX7_isBlank_13 (by decide) ?_
      exact r_z hx hb hr hlocks dX7_isBlank_17 hS (by decide) ⟨Or.inl (⟨rfl, by omega, by omega⟩), hP⟩
set_option maxHeartbeats 4000000 in
set_option maxRecDepth 100000 in
theorem kc_X7_isLetter {p0 : Int} (hp0 : -2147483648 ≤ p0 ∧ p0 ≤ 2147483647) : MetG l D k yX7_isLetter cX7_isLetter 1 (some .boolean) 0 [.int (mI p0)] (cW k a q x_xo_lyingCount x_tape_length x_tape_next x_tape_kind x_tape_place x_tape_number x_tape_faultKind x_tape_faultPlace x_told_turns x_told_mirror x_told_night x_told_draw x_told_herds x_told_irons x_told_beasts x_told_linesTold x_tfo_steps x_tfo_units x_draft_turns x_draft_mirror x_draft_night x_draft_draw x_draft_herds x_draft_irons x_draft_beasts x_draft_linesTold x_dfo_steps x_dfo_units x_lat_placements x_smi_irons x_smi_aim x_his_here x_his_undoable x_his_redoable x_book_placedCount x_wit_count x_wit_time n_tape_name B_xo_lying B_tape_bytes B_told_brands B_told_ironMarks B_told_homes B_told_births B_tfo_kinds B_tfo_numbers B_tfo_stack B_tfo_facts B_draft_brands B_draft_ironMarks B_draft_homes B_draft_births B_dfo_kinds B_dfo_numbers B_dfo_stack B_dfo_facts B_lat_lowHalves B_lat_highHalves B_lat_ways B_smi_placedIrons B_smi_within B_smi_costs B_his_isKept B_book_norms B_book_above B_book_heights B_book_placedBrands B_bea_firstGains B_bea_otherGains B_wit_burnings B_wit_strokes B_wit_wasOn B_wit_toldAt B_wit_untoldAt B_wit_on B_wit_off B_wit_firstCounts B_wit_secondCounts Ps Pd G_tape_wordNames G_told_herdNames G_told_ironNames G_told_beastNames G_draft_herdNames G_draft_ironNames G_draft_beastNames Ph Po Pg ex) (qGi (fun r0 H => ((r0 = 0 ∧ ((p0 < 97) ∨ (p0 ≥ 97 ∧ p0 > 122))) ∨ (r0 = 1 ∧ (97 ≤ p0 ∧ p0 ≤ 122))) ∧ va_P D vwCl (cW k a q x_xo_lyingCount x_tape_length x_tape_next x_tape_kind x_tape_place x_tape_number x_tape_faultKind x_tape_faultPlace x_told_turns x_told_mirror x_told_night x_told_draw x_told_herds x_told_irons x_told_beasts x_told_linesTold x_tfo_steps x_tfo_units x_draft_turns x_draft_mirror x_draft_night x_draft_draw x_draft_herds x_draft_irons x_draft_beasts x_draft_linesTold x_dfo_steps x_dfo_units x_lat_placements x_smi_irons x_smi_aim x_his_here x_his_undoable x_his_redoable x_book_placedCount x_wit_count x_wit_time n_tape_name B_xo_lying B_tape_bytes B_told_brands B_told_ironMarks B_told_homes B_told_births B_tfo_kinds B_tfo_numbers B_tfo_stack B_tfo_facts B_draft_brands B_draft_ironMarks B_draft_homes B_draft_births B_dfo_kinds B_dfo_numbers B_dfo_stack B_dfo_facts B_lat_lowHalves B_lat_highHalves B_lat_ways B_smi_placedIrons B_smi_within B_smi_costs B_his_isKept B_book_norms B_book_above B_book_heights B_book_placedBrands B_bea_firstGains B_bea_otherGains B_wit_burnings B_wit_strokes B_wit_wasOn B_wit_toldAt B_wit_untoldAt B_wit_on B_wit_off B_wit_firstCounts B_wit_secondCounts Ps Pd G_tape_wordNames G_told_herdNames G_told_ironNames G_told_beastNames G_draft_herdNames G_draft_ironNames G_draft_beastNames Ph Po Pg ex) H)) := by
  refine metG_of 1 ck_X7_isLetter (Nat.le_of_ble_eq_true rfl) cMap (fun p e s m args below meth c A hx hb hml hr hlocks hown hts hK hD hA hP hS ls hl => ?_)
  have hown : s.vm.findClass "HideReader$Tape" = some m.cls := hown
  have hl : lv_has ls 1 [(0, .int (mI p0))] := hl
  refine lv_iload_n hx hb dX7_isLetter_0 rfl (lv_at hl 0 rfl) ?_
  refine lv_bipush (v := mI 97) hx hb dX7_isLetter_1 (by decide) ?_
  refine sy_icmp_lt (tgt := 16) hx hb dX7_isLetter_3 (by decide) (by omega) (by decide) (fun c_1 => ?_) (fun c_1 => ?_)
  · skip
    refine lv_iconst (v := mI 0) hx hb dX7_isLetter_16 rfl ?_
    exact r_z hx hb hr hlocks dX7_isLetter_17 hS (by decide) ⟨Or.inl (⟨rfl, by omega⟩), hP⟩
  · skip
    refine lv_iload_n hx hb dX7_isLetter_6 rfl (lv_at hl 0 rfl) ?_
    refine lv_bipush (v := mI 122) hx hb dX7_isLetter_7 (by decide) ?_
    refine sy_icmp_gt (tgt := 16) hx hb dX7_isLetter_9 (by decide) (by omega) (by decide) (fun c_2 => ?_) (fun c_2 => ?_)
    · skip
      refine lv_iconst (v := mI 0) hx hb dX7_isLetter_16 rfl ?_
      exact r_z hx hb hr hlocks dX7_isLetter_17 hS (by decide) ⟨Or.inl (⟨rfl, by omega⟩), hP⟩
    · skip
      refine lv_iconst (v := mI 1) hx hb dX7_isLetter_12 rfl ?_
      refine lv_goto (tgt := 17) hx hb dX7_isLetter_13 (by decide) ?_
      exact r_z hx hb hr hlocks dX7_isLetter_17 hS (by decide) ⟨Or.inr (⟨rfl, by omega⟩), hP⟩
set_option maxHeartbeats 4000000 in
set_option maxRecDepth 100000 in
theorem kc_X7_isDigit {p0 : Int} (hp0 : -2147483648 ≤ p0 ∧ p0 ≤ 2147483647) : MetG l D k yX7_isDigit cX7_isDigit 1 (some .boolean) 0 [.int (mI p0)] (cW k a q x_xo_lyingCount x_tape_length x_tape_next x_tape_kind x_tape_place x_tape_number x_tape_faultKind x_tape_faultPlace x_told_turns x_told_mirror x_told_night x_told_draw x_told_herds x_told_irons x_told_beasts x_told_linesTold x_tfo_steps x_tfo_units x_draft_turns x_draft_mirror x_draft_night x_draft_draw x_draft_herds x_draft_irons x_draft_beasts x_draft_linesTold x_dfo_steps x_dfo_units x_lat_placements x_smi_irons x_smi_aim x_his_here x_his_undoable x_his_redoable x_book_placedCount x_wit_count x_wit_time n_tape_name B_xo_lying B_tape_bytes B_told_brands B_told_ironMarks B_told_homes B_told_births B_tfo_kinds B_tfo_numbers B_tfo_stack B_tfo_facts B_draft_brands B_draft_ironMarks B_draft_homes B_draft_births B_dfo_kinds B_dfo_numbers B_dfo_stack B_dfo_facts B_lat_lowHalves B_lat_highHalves B_lat_ways B_smi_placedIrons B_smi_within B_smi_costs B_his_isKept B_book_norms B_book_above B_book_heights B_book_placedBrands B_bea_firstGains B_bea_otherGains B_wit_burnings B_wit_strokes B_wit_wasOn B_wit_toldAt B_wit_untoldAt B_wit_on B_wit_off B_wit_firstCounts B_wit_secondCounts Ps Pd G_tape_wordNames G_told_herdNames G_told_ironNames G_told_beastNames G_draft_herdNames G_draft_ironNames G_draft_beastNames Ph Po Pg ex) (qGi (fun r0 H => ((r0 = 0 ∧ ((p0 < 48) ∨ (p0 ≥ 48 ∧ p0 > 57))) ∨ (r0 = 1 ∧ (48 ≤ p0 ∧ p0 ≤ 57))) ∧ va_P D vwCl (cW k a q x_xo_lyingCount x_tape_length x_tape_next x_tape_kind x_tape_place x_tape_number x_tape_faultKind x_tape_faultPlace x_told_turns x_told_mirror x_told_night x_told_draw x_told_herds x_told_irons x_told_beasts x_told_linesTold x_tfo_steps x_tfo_units x_draft_turns x_draft_mirror x_draft_night x_draft_draw x_draft_herds x_draft_irons x_draft_beasts x_draft_linesTold x_dfo_steps x_dfo_units x_lat_placements x_smi_irons x_smi_aim x_his_here x_his_undoable x_his_redoable x_book_placedCount x_wit_count x_wit_time n_tape_name B_xo_lying B_tape_bytes B_told_brands B_told_ironMarks B_told_homes B_told_births B_tfo_kinds B_tfo_numbers B_tfo_stack B_tfo_facts B_draft_brands B_draft_ironMarks B_draft_homes B_draft_births B_dfo_kinds B_dfo_numbers B_dfo_stack B_dfo_facts B_lat_lowHalves B_lat_highHalves B_lat_ways B_smi_placedIrons B_smi_within B_smi_costs B_his_isKept B_book_norms B_book_above B_book_heights B_book_placedBrands B_bea_firstGains B_bea_otherGains B_wit_burnings B_wit_strokes B_wit_wasOn B_wit_toldAt B_wit_untoldAt B_wit_on B_wit_off B_wit_firstCounts B_wit_secondCounts Ps Pd G_tape_wordNames G_told_herdNames G_told_ironNames G_told_beastNames G_draft_herdNames G_draft_ironNames G_draft_beastNames Ph Po Pg ex) H)) := by
  refine metG_of 1 ck_X7_isDigit (Nat.le_of_ble_eq_true rfl) cMap (fun p e s m args below meth c A hx hb hml hr hlocks hown hts hK hD hA hP hS ls hl => ?_)
  have hown : s.vm.findClass "HideReader$Tape" = some m.cls := hown
  have hl : lv_has ls 1 [(0, .int (mI p0))] := hl
  refine lv_iload_n hx hb dX7_isDigit_0 rfl (lv_at hl 0 rfl) ?_
  refine lv_bipush (v := mI 48) hx hb dX7_isDigit_1 (by decide) ?_
  refine sy_icmp_lt (tgt := 16) hx hb dX7_isDigit_3 (by decide) (by omega) (by decide) (fun c_1 => ?_) (fun c_1 => ?_)
  · skip
    refine lv_iconst (v := mI 0) hx hb dX7_isDigit_16 rfl ?_
    exact r_z hx hb hr hlocks dX7_isDigit_17 hS (by decide) ⟨Or.inl (⟨rfl, by omega⟩), hP⟩
  · skip
    refine lv_iload_n hx hb dX7_isDigit_6 rfl (lv_at hl 0 rfl) ?_
    refine lv_bipush (v := mI 57) hx hb dX7_isDigit_7 (by decide) ?_
    refine sy_icmp_gt (tgt := 16) hx hb dX7_isDigit_9 (by decide) (by omega) (by decide) (fun c_2 => ?_) (fun c_2 => ?_)
    · skip
      refine lv_iconst (v := mI 0) hx hb dX7_isDigit_16 rfl ?_
      exact r_z hx hb hr hlocks dX7_isDigit_17 hS (by decide) ⟨Or.inl (⟨rfl, by omega⟩), hP⟩
    · skip
      refine lv_iconst (v := mI 1) hx hb dX7_isDigit_12 rfl ?_
      refine lv_goto (tgt := 17) hx hb dX7_isDigit_13 (by decide) ?_
      exact r_z hx hb hr hlocks dX7_isDigit_17 hS (by decide) ⟨Or.inr (⟨rfl, by omega⟩), hP⟩
set_option maxHeartbeats 4000000 in
set_option maxRecDepth 100000 in
theorem kc_X7_fail {p0 : Int} (hp0 : 1 ≤ p0 ∧ p0 ≤ 5) (h_x_tape_kind : 0 ≤ x_tape_kind ∧ x_tape_kind ≤ 255) (h_x_tape_place : 0 ≤ x_tape_place ∧ x_tape_place ≤ 1600) (h_x_tape_faultKind : 0 ≤ x_tape_faultKind ∧ x_tape_faultKind ≤ 5) (h_x_tape_faultPlace : -1 ≤ x_tape_faultPlace ∧ x_tape_faultPlace ≤ 1600) : MetG l D k yX7_fail cX7_fail 2 none 0 [.ref (a 2), .int (mI p0)] (cW k a q x_xo_lyingCount x_tape_length x_tape_next x_tape_kind x_tape_place x_tape_number x_tape_faultKind x_tape_faultPlace x_told_turns x_told_mirror x_told_night x_told_draw x_told_herds x_told_irons x_told_beasts x_told_linesTold x_tfo_steps x_tfo_units x_draft_turns x_draft_mirror x_draft_night x_draft_draw x_draft_herds x_draft_irons x_draft_beasts x_draft_linesTold x_dfo_steps x_dfo_units x_lat_placements x_smi_irons x_smi_aim x_his_here x_his_undoable x_his_redoable x_book_placedCount x_wit_count x_wit_time n_tape_name B_xo_lying B_tape_bytes B_told_brands B_told_ironMarks B_told_homes B_told_births B_tfo_kinds B_tfo_numbers B_tfo_stack B_tfo_facts B_draft_brands B_draft_ironMarks B_draft_homes B_draft_births B_dfo_kinds B_dfo_numbers B_dfo_stack B_dfo_facts B_lat_lowHalves B_lat_highHalves B_lat_ways B_smi_placedIrons B_smi_within B_smi_costs B_his_isKept B_book_norms B_book_above B_book_heights B_book_placedBrands B_bea_firstGains B_bea_otherGains B_wit_burnings B_wit_strokes B_wit_wasOn B_wit_toldAt B_wit_untoldAt B_wit_on B_wit_off B_wit_firstCounts B_wit_secondCounts Ps Pd G_tape_wordNames G_told_herdNames G_told_ironNames G_told_beastNames G_draft_herdNames G_draft_ironNames G_draft_beastNames Ph Po Pg ex) (qGv (fun H => ∃ (y_tape_kind : Int) (y_tape_faultKind : Int) (y_tape_faultPlace : Int), (0 ≤ y_tape_kind ∧ y_tape_kind ≤ 255) ∧ (1 ≤ y_tape_faultKind ∧ y_tape_faultKind ≤ 5) ∧ (-1 ≤ y_tape_faultPlace ∧ y_tape_faultPlace ≤ 1600) ∧ (0 ≤ y_tape_faultKind - x_tape_faultKind) ∧ va_P D vwCl (cW k a q x_xo_lyingCount x_tape_length x_tape_next y_tape_kind x_tape_place x_tape_number y_tape_faultKind y_tape_faultPlace x_told_turns x_told_mirror x_told_night x_told_draw x_told_herds x_told_irons x_told_beasts x_told_linesTold x_tfo_steps x_tfo_units x_draft_turns x_draft_mirror x_draft_night x_draft_draw x_draft_herds x_draft_irons x_draft_beasts x_draft_linesTold x_dfo_steps x_dfo_units x_lat_placements x_smi_irons x_smi_aim x_his_here x_his_undoable x_his_redoable x_book_placedCount x_wit_count x_wit_time n_tape_name B_xo_lying B_tape_bytes B_told_brands B_told_ironMarks B_told_homes B_told_births B_tfo_kinds B_tfo_numbers B_tfo_stack B_tfo_facts B_draft_brands B_draft_ironMarks B_draft_homes B_draft_births B_dfo_kinds B_dfo_numbers B_dfo_stack B_dfo_facts B_lat_lowHalves B_lat_highHalves B_lat_ways B_smi_placedIrons B_smi_within B_smi_costs B_his_isKept B_book_norms B_book_above B_book_heights B_book_placedBrands B_bea_firstGains B_bea_otherGains B_wit_burnings B_wit_strokes B_wit_wasOn B_wit_toldAt B_wit_untoldAt B_wit_on B_wit_off B_wit_firstCounts B_wit_secondCounts Ps Pd G_tape_wordNames G_told_herdNames G_told_ironNames G_told_beastNames G_draft_herdNames G_draft_ironNames G_draft_beastNames Ph Po Pg ex) H)) := by
  refine metG_of 1 ck_X7_fail (Nat.le_of_ble_eq_true rfl) cMap (fun p e s m args below meth c A hx hb hml hr hlocks hown hts hK hD hA hP hS ls hl => ?_)
  have hown : s.vm.findClass "HideReader$Tape" = some m.cls := hown
  have hl : lv_has ls 2 [(0, .ref (a 2)), (1, .int (mI p0))] := hl
  refine lv_aload_n hx hb dX7_fail_0 rfl (lv_at hl 0 rfl) ?_
  refine cg_tape_faultKind hx hb hts hown hK hP uw_1_98 dX7_fail_1 ?_
  refine sy_if_ne (tgt := 27) hx hb dX7_fail_4 (by decide) (by omega) (fun c_1 => ?_) (fun c_1 => ?_)
  · skip
    exact r_v hx hb hr hlocks dX7_fail_27 hS ⟨x_tape_kind, x_tape_faultKind, x_tape_faultPlace, by omega, by omega, by omega, by omega, hP⟩
  · skip
    refine lv_aload_n hx hb dX7_fail_7 rfl (lv_at hl 0 rfl) ?_
    refine lv_iload_n hx hb dX7_fail_8 rfl (lv_at hl 1 rfl) ?_
    refine cp_tape_faultKind hx hb hts hown hK hP hD hS uw_1_98 dX7_fail_9 (fun H locs hP hS => ?_)
    refine lv_aload_n hx hb dX7_fail_12 rfl (lv_at hl 0 rfl) ?_
    refine lv_aload_n hx hb dX7_fail_13 rfl (lv_at hl 0 rfl) ?_
    refine cg_tape_place hx hb hts hown hK hP uw_1_95 dX7_fail_14 ?_
    refine cp_tape_faultPlace hx hb hts hown hK hP hD hS uw_1_99 dX7_fail_17 (fun H locs hP hS => ?_)
    refine lv_aload_n hx hb dX7_fail_20 rfl (lv_at hl 0 rfl) ?_
    refine lv_sipush (v := mI 203) hx hb dX7_fail_21 (by decide) ?_
    refine cp_tape_kind hx hb hts hown hK hP hD hS uw_1_94 dX7_fail_24 (fun H locs hP hS => ?_)
    exact r_v hx hb hr hlocks dX7_fail_27 hS ⟨203, p0, x_tape_place, by omega, by omega, by omega, by omega, hP⟩
set_option maxHeartbeats 4000000 in
set_option maxRecDepth 100000 in
theorem kc_X7_withLetter {p1 : Int} {p0 : Int64} (hp1 : -2147483648 ≤ p1 ∧ p1 ≤ 2147483647) : MetG l D k yX7_withLetter cX7_withLetter 3 (some .long) 0 [.long p0, .int (mI p1)] (cW k a q x_xo_lyingCount x_tape_length x_tape_next x_tape_kind x_tape_place x_tape_number x_tape_faultKind x_tape_faultPlace x_told_turns x_told_mirror x_told_night x_told_draw x_told_herds x_told_irons x_told_beasts x_told_linesTold x_tfo_steps x_tfo_units x_draft_turns x_draft_mirror x_draft_night x_draft_draw x_draft_herds x_draft_irons x_draft_beasts x_draft_linesTold x_dfo_steps x_dfo_units x_lat_placements x_smi_irons x_smi_aim x_his_here x_his_undoable x_his_redoable x_book_placedCount x_wit_count x_wit_time n_tape_name B_xo_lying B_tape_bytes B_told_brands B_told_ironMarks B_told_homes B_told_births B_tfo_kinds B_tfo_numbers B_tfo_stack B_tfo_facts B_draft_brands B_draft_ironMarks B_draft_homes B_draft_births B_dfo_kinds B_dfo_numbers B_dfo_stack B_dfo_facts B_lat_lowHalves B_lat_highHalves B_lat_ways B_smi_placedIrons B_smi_within B_smi_costs B_his_isKept B_book_norms B_book_above B_book_heights B_book_placedBrands B_bea_firstGains B_bea_otherGains B_wit_burnings B_wit_strokes B_wit_wasOn B_wit_toldAt B_wit_untoldAt B_wit_on B_wit_off B_wit_firstCounts B_wit_secondCounts Ps Pd G_tape_wordNames G_told_herdNames G_told_ironNames G_told_beastNames G_draft_herdNames G_draft_ironNames G_draft_beastNames Ph Po Pg ex) (qGl (fun r0 H => va_P D vwCl (cW k a q x_xo_lyingCount x_tape_length x_tape_next x_tape_kind x_tape_place x_tape_number x_tape_faultKind x_tape_faultPlace x_told_turns x_told_mirror x_told_night x_told_draw x_told_herds x_told_irons x_told_beasts x_told_linesTold x_tfo_steps x_tfo_units x_draft_turns x_draft_mirror x_draft_night x_draft_draw x_draft_herds x_draft_irons x_draft_beasts x_draft_linesTold x_dfo_steps x_dfo_units x_lat_placements x_smi_irons x_smi_aim x_his_here x_his_undoable x_his_redoable x_book_placedCount x_wit_count x_wit_time n_tape_name B_xo_lying B_tape_bytes B_told_brands B_told_ironMarks B_told_homes B_told_births B_tfo_kinds B_tfo_numbers B_tfo_stack B_tfo_facts B_draft_brands B_draft_ironMarks B_draft_homes B_draft_births B_dfo_kinds B_dfo_numbers B_dfo_stack B_dfo_facts B_lat_lowHalves B_lat_highHalves B_lat_ways B_smi_placedIrons B_smi_within B_smi_costs B_his_isKept B_book_norms B_book_above B_book_heights B_book_placedBrands B_bea_firstGains B_bea_otherGains B_wit_burnings B_wit_strokes B_wit_wasOn B_wit_toldAt B_wit_untoldAt B_wit_on B_wit_off B_wit_firstCounts B_wit_secondCounts Ps Pd G_tape_wordNames G_told_herdNames G_told_ironNames G_told_beastNames G_draft_herdNames G_draft_ironNames G_draft_beastNames Ph Po Pg ex) H)) := by
  refine metG_of 2 ck_X7_withLetter (Nat.le_of_ble_eq_true rfl) cMap (fun p e s m args below meth c A hx hb hml hr hlocks hown hts hK hD hA hP hS ls hl => ?_)
  have hown : s.vm.findClass "HideReader$Tape" = some m.cls := hown
  have hl : lv_has ls 3 [(0, .long p0), (2, .int (mI p1))] := hl
  refine lv_lload_n hx hb dX7_withLetter_0 rfl (lv_at hl 0 rfl) ?_
  refine lv_ldc2 (own := "HideReader$Tape") (v := 32) hx hb hown (hts _ uw_1_89) dX7_withLetter_1 ?_
  refine lv_lmul hx hb dX7_withLetter_4 ?_
  refine lv_topl (fun j_1 _ => ?_)
  refine lv_iload_n hx hb dX7_withLetter_5 rfl (lv_at hl 1 rfl) ?_
  refine lv_bipush (v := mI 97) hx hb dX7_withLetter_6 (by decide) ?_
  refine sy_isub hx hb dX7_withLetter_8 (p1 - 97) rfl ?_
  refine sy_any (fun z_2 hz_2 => ?_)
  refine lv_iconst (v := mI 1) hx hb dX7_withLetter_9 rfl ?_
  refine sy_iadd hx hb dX7_withLetter_10 (z_2 + 1) rfl ?_
  refine sy_any (fun z_3 hz_3 => ?_)
  refine lv_i2l hx hb dX7_withLetter_11 rfl ?_
  refine lv_topl (fun j_4 _ => ?_)
  refine lv_ladd hx hb dX7_withLetter_12 ?_
  refine lv_topl (fun j_5 _ => ?_)
  exact r_l hx hb hr hlocks dX7_withLetter_13 hS hP
set_option maxHeartbeats 4000000 in
set_option maxRecDepth 100000 in
theorem kc_X7_scanWord {p0 : Int} (hp0 : 0 ≤ p0 ∧ p0 ≤ 1600) (h_x_tape_length : 0 ≤ x_tape_length ∧ x_tape_length ≤ 1600) (h_x_tape_next : 0 ≤ x_tape_next ∧ x_tape_next ≤ 1600) (h_x_tape_kind : 0 ≤ x_tape_kind ∧ x_tape_kind ≤ 255) (h_x_tape_place : 0 ≤ x_tape_place ∧ x_tape_place ≤ 1600) (h_x_tape_faultKind : 0 ≤ x_tape_faultKind ∧ x_tape_faultKind ≤ 5) (h_x_tape_faultPlace : -1 ≤ x_tape_faultPlace ∧ x_tape_faultPlace ≤ 1600) (b_B_tape_bytes : bd (-128) 127 B_tape_bytes) : MetG l D k yX7_scanWord cX7_scanWord 4 none 1 [.ref (a 2), .int (mI p0)] (cW k a q x_xo_lyingCount x_tape_length x_tape_next x_tape_kind x_tape_place x_tape_number x_tape_faultKind x_tape_faultPlace x_told_turns x_told_mirror x_told_night x_told_draw x_told_herds x_told_irons x_told_beasts x_told_linesTold x_tfo_steps x_tfo_units x_draft_turns x_draft_mirror x_draft_night x_draft_draw x_draft_herds x_draft_irons x_draft_beasts x_draft_linesTold x_dfo_steps x_dfo_units x_lat_placements x_smi_irons x_smi_aim x_his_here x_his_undoable x_his_redoable x_book_placedCount x_wit_count x_wit_time n_tape_name B_xo_lying B_tape_bytes B_told_brands B_told_ironMarks B_told_homes B_told_births B_tfo_kinds B_tfo_numbers B_tfo_stack B_tfo_facts B_draft_brands B_draft_ironMarks B_draft_homes B_draft_births B_dfo_kinds B_dfo_numbers B_dfo_stack B_dfo_facts B_lat_lowHalves B_lat_highHalves B_lat_ways B_smi_placedIrons B_smi_within B_smi_costs B_his_isKept B_book_norms B_book_above B_book_heights B_book_placedBrands B_bea_firstGains B_bea_otherGains B_wit_burnings B_wit_strokes B_wit_wasOn B_wit_toldAt B_wit_untoldAt B_wit_on B_wit_off B_wit_firstCounts B_wit_secondCounts Ps Pd G_tape_wordNames G_told_herdNames G_told_ironNames G_told_beastNames G_draft_herdNames G_draft_ironNames G_draft_beastNames Ph Po Pg ex) (qGv (fun H => ∃ (y_tape_next : Int) (y_tape_kind : Int) (j_tape_name : Int64) (y_tape_faultKind : Int) (y_tape_faultPlace : Int), (0 ≤ y_tape_next ∧ y_tape_next ≤ 1600) ∧ (0 ≤ y_tape_kind ∧ y_tape_kind ≤ 255) ∧ (0 ≤ y_tape_faultKind ∧ y_tape_faultKind ≤ 5) ∧ (-1 ≤ y_tape_faultPlace ∧ y_tape_faultPlace ≤ 1600) ∧ (0 ≤ y_tape_faultKind - x_tape_faultKind) ∧ va_P D vwCl (cW k a q x_xo_lyingCount x_tape_length y_tape_next y_tape_kind x_tape_place x_tape_number y_tape_faultKind y_tape_faultPlace x_told_turns x_told_mirror x_told_night x_told_draw x_told_herds x_told_irons x_told_beasts x_told_linesTold x_tfo_steps x_tfo_units x_draft_turns x_draft_mirror x_draft_night x_draft_draw x_draft_herds x_draft_irons x_draft_beasts x_draft_linesTold x_dfo_steps x_dfo_units x_lat_placements x_smi_irons x_smi_aim x_his_here x_his_undoable x_his_redoable x_book_placedCount x_wit_count x_wit_time j_tape_name B_xo_lying B_tape_bytes B_told_brands B_told_ironMarks B_told_homes B_told_births B_tfo_kinds B_tfo_numbers B_tfo_stack B_tfo_facts B_draft_brands B_draft_ironMarks B_draft_homes B_draft_births B_dfo_kinds B_dfo_numbers B_dfo_stack B_dfo_facts B_lat_lowHalves B_lat_highHalves B_lat_ways B_smi_placedIrons B_smi_within B_smi_costs B_his_isKept B_book_norms B_book_above B_book_heights B_book_placedBrands B_bea_firstGains B_bea_otherGains B_wit_burnings B_wit_strokes B_wit_wasOn B_wit_toldAt B_wit_untoldAt B_wit_on B_wit_off B_wit_firstCounts B_wit_secondCounts Ps Pd G_tape_wordNames G_told_herdNames G_told_ironNames G_told_beastNames G_draft_herdNames G_draft_ironNames G_draft_beastNames Ph Po Pg ex) H)) := by
  refine metG_of 1 ck_X7_scanWord (Nat.le_of_ble_eq_true rfl) cMap (fun p e s m args below meth c A hx hb hml hr hlocks hown hts hK hD hA hP hS ls hl => ?_)
  have hown : s.vm.findClass "HideReader$Tape" = some m.cls := hown
  have hl : lv_has ls 4 [(0, .ref (a 2)), (1, .int (mI p0))] := hl
  refine lv_iconst (v := mI 0) hx hb dX7_scanWord_0 rfl ?_
  refine lv_istore_n (lv' := [(2, .int (mI 0)), (0, .ref (a 2)), (1, .int (mI p0))]) hx hb dX7_scanWord_1 rfl hl (by decide) rfl (fun ls hl => ?_)
  refine lv_aload_n hx hb dX7_scanWord_2 rfl (lv_at hl 1 rfl) ?_
  refine lv_lconst (v := 0) hx hb dX7_scanWord_3 rfl ?_
  refine cp_tape_name hx hb hts hown hK hP hD hS uw_1_97 dX7_scanWord_4 (fun H locs hP hS => ?_)
  refine lv_iload_n hx hb dX7_scanWord_7 rfl (lv_at hl 2 rfl) ?_
  refine lv_istore_n (lv' := [(3, .int (mI p0)), (2, .int (mI 0)), (0, .ref (a 2)), (1, .int (mI p0))]) hx hb dX7_scanWord_8 rfl hl (by decide) rfl (fun ls hl => ?_)
  refine sy_loop (I := fun n H locs g => ∃ (z_670 : Int) (z_671 : Int) (j_672 : Int64) (ls : Array Slot), (0 ≤ z_670 ∧ z_670 ≤ 1600) ∧ (0 ≤ z_671 ∧ z_671 ≤ 1600) ∧ (0 ≤ z_670 - z_671) ∧ (0 ≤ z_670 - p0 - z_671) ∧ (0 ≤ p0 + z_671 - z_670) ∧ (0 ≤ z_670 - p0) ∧ (1600 - z_671).toNat = n ∧ va_P D vwCl (cW k a q x_xo_lyingCount x_tape_length x_tape_next x_tape_kind x_tape_place x_tape_number x_tape_faultKind x_tape_faultPlace x_told_turns x_told_mirror x_told_night x_told_draw x_told_herds x_told_irons x_told_beasts x_told_linesTold x_tfo_steps x_tfo_units x_draft_turns x_draft_mirror x_draft_night x_draft_draw x_draft_herds x_draft_irons x_draft_beasts x_draft_linesTold x_dfo_steps x_dfo_units x_lat_placements x_smi_irons x_smi_aim x_his_here x_his_undoable x_his_redoable x_book_placedCount x_wit_count x_wit_time j_672 B_xo_lying B_tape_bytes B_told_brands B_told_ironMarks B_told_homes B_told_births B_tfo_kinds B_tfo_numbers B_tfo_stack B_tfo_facts B_draft_brands B_draft_ironMarks B_draft_homes B_draft_births B_dfo_kinds B_dfo_numbers B_dfo_stack B_dfo_facts B_lat_lowHalves B_lat_highHalves B_lat_ways B_smi_placedIrons B_smi_within B_smi_costs B_his_isKept B_book_norms B_book_above B_book_heights B_book_placedBrands B_bea_firstGains B_bea_otherGains B_wit_burnings B_wit_strokes B_wit_wasOn B_wit_toldAt B_wit_untoldAt B_wit_on B_wit_off B_wit_firstCounts B_wit_secondCounts Ps Pd G_tape_wordNames G_told_herdNames G_told_ironNames G_told_beastNames G_draft_herdNames G_draft_ironNames G_draft_beastNames Ph Po Pg ex) H ∧ va_S A s.heap H locs ∧ lv_has ls 4 [(3, .int (mI z_670)), (2, .int (mI z_671)), (0, .ref (a 2)), (1, .int (mI p0))] ∧ g = F0 m 9 ls []) ?_ _ ⟨p0, 0, 0, _, by omega, by omega, by omega, by omega, by omega, by omega, rfl, hP, hS, lv_sub hl [0, 1, 2, 3] rfl, rfl⟩
  intro n_755 H locs g hI ih_756
  obtain ⟨z_670, z_671, j_672, ls, h9_0, h9_1, h9_2, h9_3, h9_4, h9_5, mn_755, hP, hS, hl, rfl⟩ := hI
  refine lv_iload_n hx hb dX7_scanWord_9 rfl (lv_at hl 0 rfl) ?_
  refine lv_aload_n hx hb dX7_scanWord_10 rfl (lv_at hl 2 rfl) ?_
  refine cg_tape_length hx hb hts hown hK hP uw_1_92 dX7_scanWord_11 ?_
  refine sy_join (I := fun H locs g => ∃ (ls : Array Slot), va_P D vwCl (cW k a q x_xo_lyingCount x_tape_length x_tape_next x_tape_kind x_tape_place x_tape_number x_tape_faultKind x_tape_faultPlace x_told_turns x_told_mirror x_told_night x_told_draw x_told_herds x_told_irons x_told_beasts x_told_linesTold x_tfo_steps x_tfo_units x_draft_turns x_draft_mirror x_draft_night x_draft_draw x_draft_herds x_draft_irons x_draft_beasts x_draft_linesTold x_dfo_steps x_dfo_units x_lat_placements x_smi_irons x_smi_aim x_his_here x_his_undoable x_his_redoable x_book_placedCount x_wit_count x_wit_time j_672 B_xo_lying B_tape_bytes B_told_brands B_told_ironMarks B_told_homes B_told_births B_tfo_kinds B_tfo_numbers B_tfo_stack B_tfo_facts B_draft_brands B_draft_ironMarks B_draft_homes B_draft_births B_dfo_kinds B_dfo_numbers B_dfo_stack B_dfo_facts B_lat_lowHalves B_lat_highHalves B_lat_ways B_smi_placedIrons B_smi_within B_smi_costs B_his_isKept B_book_norms B_book_above B_book_heights B_book_placedBrands B_bea_firstGains B_bea_otherGains B_wit_burnings B_wit_strokes B_wit_wasOn B_wit_toldAt B_wit_untoldAt B_wit_on B_wit_off B_wit_firstCounts B_wit_secondCounts Ps Pd G_tape_wordNames G_told_herdNames G_told_ironNames G_told_beastNames G_draft_herdNames G_draft_ironNames G_draft_beastNames Ph Po Pg ex) H ∧ va_S A s.heap H locs ∧ lv_has ls 4 [(3, .int (mI z_670)), (2, .int (mI z_671)), (0, .ref (a 2)), (1, .int (mI p0))] ∧ g = F0 m 55 ls []) ?_ ?_
  · skip
    intro H locs g hI
    obtain ⟨ls, hP, hS, hl, rfl⟩ := hI
    refine lv_iload_n hx hb dX7_scanWord_55 rfl (lv_at hl 1 rfl) ?_
    refine lv_bipush (v := mI 8) hx hb dX7_scanWord_56 (by decide) ?_
    refine sy_icmp_le (tgt := 67) hx hb dX7_scanWord_58 (by decide) (by omega) (by decide) (fun c_767 => ?_) (fun c_767 => ?_)
    · skip
      refine lv_aload_n hx hb dX7_scanWord_67 rfl (lv_at hl 2 rfl) ?_
      refine lv_iload_n hx hb dX7_scanWord_68 rfl (lv_at hl 3 rfl) ?_
      refine lv_iload_n hx hb dX7_scanWord_69 rfl (lv_at hl 1 rfl) ?_
      refine sy_iadd hx hb dX7_scanWord_70 (p0 + z_671) rfl ?_
      refine cp_tape_next hx hb hts hown hK hP hD hS uw_1_93 dX7_scanWord_71 (fun H locs hP hS => ?_)
      refine lv_aload_n hx hb dX7_scanWord_74 rfl (lv_at hl 2 rfl) ?_
      refine lv_sipush (v := mI 200) hx hb dX7_scanWord_75 (by decide) ?_
      refine cp_tape_kind hx hb hts hown hK hP hD hS uw_1_94 dX7_scanWord_78 (fun H locs hP hS => ?_)
      refine lv_iconst (v := mI 0) hx hb dX7_scanWord_81 rfl ?_
      refine lv_istore_n (lv' := [(3, .int (mI 0)), (2, .int (mI z_671)), (0, .ref (a 2)), (1, .int (mI p0))]) hx hb dX7_scanWord_82 rfl hl (by decide) rfl (fun ls hl => ?_)
      refine sy_loop (I := fun n H locs g => ∃ (z_814 : Int) (y_815 : Int) (ls : Array Slot), (0 ≤ z_814 ∧ z_814 ≤ 18) ∧ (0 ≤ y_815 ∧ y_815 ≤ 200) ∧ (18 - z_814).toNat = n ∧ va_P D vwCl (cW k a q x_xo_lyingCount x_tape_length (p0 + z_671) y_815 x_tape_place x_tape_number x_tape_faultKind x_tape_faultPlace x_told_turns x_told_mirror x_told_night x_told_draw x_told_herds x_told_irons x_told_beasts x_told_linesTold x_tfo_steps x_tfo_units x_draft_turns x_draft_mirror x_draft_night x_draft_draw x_draft_herds x_draft_irons x_draft_beasts x_draft_linesTold x_dfo_steps x_dfo_units x_lat_placements x_smi_irons x_smi_aim x_his_here x_his_undoable x_his_redoable x_book_placedCount x_wit_count x_wit_time j_672 B_xo_lying B_tape_bytes B_told_brands B_told_ironMarks B_told_homes B_told_births B_tfo_kinds B_tfo_numbers B_tfo_stack B_tfo_facts B_draft_brands B_draft_ironMarks B_draft_homes B_draft_births B_dfo_kinds B_dfo_numbers B_dfo_stack B_dfo_facts B_lat_lowHalves B_lat_highHalves B_lat_ways B_smi_placedIrons B_smi_within B_smi_costs B_his_isKept B_book_norms B_book_above B_book_heights B_book_placedBrands B_bea_firstGains B_bea_otherGains B_wit_burnings B_wit_strokes B_wit_wasOn B_wit_toldAt B_wit_untoldAt B_wit_on B_wit_off B_wit_firstCounts B_wit_secondCounts Ps Pd G_tape_wordNames G_told_herdNames G_told_ironNames G_told_beastNames G_draft_herdNames G_draft_ironNames G_draft_beastNames Ph Po Pg ex) H ∧ va_S A s.heap H locs ∧ lv_has ls 4 [(3, .int (mI z_814)), (2, .int (mI z_671)), (0, .ref (a 2)), (1, .int (mI p0))] ∧ g = F0 m 83 ls []) ?_ _ ⟨0, 200, _, by omega, by omega, rfl, hP, hS, lv_sub hl [0, 1, 2, 3] rfl, rfl⟩
      intro n_820 H locs g hI ih_821
      obtain ⟨z_814, y_815, ls, h83_0, h83_1, mn_820, hP, hS, hl, rfl⟩ := hI
      refine lv_iload_n hx hb dX7_scanWord_83 rfl (lv_at hl 0 rfl) ?_
      refine lv_bipush (v := mI 18) hx hb dX7_scanWord_84 (by decide) ?_
      refine sy_icmp_ge (tgt := 125) hx hb dX7_scanWord_86 (by decide) (by omega) (by decide) (fun c_822 => ?_) (fun c_822 => ?_)
      · skip
        exact r_v hx hb hr hlocks dX7_scanWord_125 hS ⟨(p0 + z_671), y_815, j_672, x_tape_faultKind, x_tape_faultPlace, by omega, by omega, by omega, by omega, by omega, hP⟩
      · skip
        refine lv_aload_n hx hb dX7_scanWord_89 rfl (lv_at hl 2 rfl) ?_
        refine lv_aload_n hx hb dX7_scanWord_90 rfl (lv_at hl 2 rfl) ?_
        refine cg_tape_wordNames hx hb hts hown hK hP uw_1_91 dX7_scanWord_91 ?_
        refine lv_iload_n hx hb dX7_scanWord_94 rfl (lv_at hl 0 rfl) ?_
        refine cl_tape_wordNames hx hb hK hP dX7_scanWord_95 (by omega) (fun j_823 => ?_)
        refine lv_aload_n hx hb dX7_scanWord_96 rfl (lv_at hl 2 rfl) ?_
        refine cg_tape_name hx hb hts hown hK hP uw_1_97 dX7_scanWord_97 ?_
        refine sy_lcmp hx hb dX7_scanWord_100 (fun z_824 hz_824 => ?_)
        refine sy_if_ne (tgt := 112) hx hb dX7_scanWord_101 (by decide) (by omega) (fun c_825 => ?_) (fun c_825 => ?_)
        · skip
          refine lv_aload_n hx hb dX7_scanWord_112 rfl (lv_at hl 2 rfl) ?_
          refine cg_tape_kind hx hb hts hown hK hP uw_1_94 dX7_scanWord_113 ?_
          refine cp_tape_kind hx hb hts hown hK hP hD hS uw_1_94 dX7_scanWord_116 (fun H locs hP hS => ?_)
          refine lv_iinc (v := mI (z_814 + 1)) (lv' := [(3, .int (mI (z_814 + 1))), (2, .int (mI z_671)), (0, .ref (a 2)), (1, .int (mI p0))]) hx hb dX7_scanWord_119 hl (k := 0) rfl (mI_ad rfl) (by decide) rfl (fun ls hl => ?_)
          refine lv_goto (tgt := 83) hx hb dX7_scanWord_122 (by decide) ?_
          exact ih_821 _ _ _ _ (by omega) ⟨(z_814 + 1), y_815, _, by omega, by omega, rfl, hP, hS, lv_sub hl [0, 1, 2, 3] rfl, rfl⟩
        · skip
          refine lv_sipush (v := mI 128) hx hb dX7_scanWord_104 (by decide) ?_
          refine lv_iload_n hx hb dX7_scanWord_107 rfl (lv_at hl 0 rfl) ?_
          refine sy_iadd hx hb dX7_scanWord_108 (z_814 + 128) (by omega) ?_
          refine lv_goto (tgt := 116) hx hb dX7_scanWord_109 (by decide) ?_
          refine cp_tape_kind hx hb hts hown hK hP hD hS uw_1_94 dX7_scanWord_116 (fun H locs hP hS => ?_)
          refine lv_iinc (v := mI (z_814 + 1)) (lv' := [(3, .int (mI (z_814 + 1))), (2, .int (mI z_671)), (0, .ref (a 2)), (1, .int (mI p0))]) hx hb dX7_scanWord_119 hl (k := 0) rfl (mI_ad rfl) (by decide) rfl (fun ls hl => ?_)
          refine lv_goto (tgt := 83) hx hb dX7_scanWord_122 (by decide) ?_
          exact ih_821 _ _ _ _ (by omega) ⟨(z_814 + 1), (z_814 + 128), _, by omega, by omega, rfl, hP, hS, lv_sub hl [0, 1, 2, 3] rfl, rfl⟩
    · skip
      refine lv_aload_n hx hb dX7_scanWord_61 rfl (lv_at hl 2 rfl) ?_
      refine lv_iconst (v := mI 1) hx hb dX7_scanWord_62 rfl ?_
      refine g_v (cDt hD) hS hA (g_V (own := "HideReader$Tape") (As := [.int (mI 1)]) (rest := []) hx hb hml hown hts hK hP (cDt hD) (kc_X7_fail (l := l) (D := D) (k := k) (by decide) h_x_tape_kind h_x_tape_place h_x_tape_faultKind h_x_tape_faultPlace) ck_X7_fail iv_X7_fail uw_3_80 (cv_tape hK hP) rfl hl.1 rfl (Nat.le_of_ble_eq_true rfl) dX7_scanWord_63 ⟨Nat.le_of_ble_eq_true rfl, Nat.le_of_ble_eq_true rfl⟩ ⟨Nat.le_of_ble_eq_true rfl, Nat.le_of_ble_eq_true rfl⟩) (fun H locs hQ hS => ?_)
      obtain ⟨y_827, y_828, y_829, hr_826_0, hr_826_1, hr_826_2, hr_826_3, hP⟩ := hQ
      exact r_v hx hb hr hlocks dX7_scanWord_66 hS ⟨x_tape_next, y_827, j_672, y_828, y_829, by omega, by omega, by omega, by omega, by omega, hP⟩
  · skip
    intro J_766
    refine sy_icmp_ge (tgt := 55) hx hb dX7_scanWord_14 (by decide) (by omega) (by omega) (fun c_830 => ?_) (fun c_830 => ?_)
    · skip
      exact J_766 _ _ _ ⟨_, hP, hS, lv_sub hl [0, 1, 2, 3] rfl, rfl⟩
    · skip
      refine lv_aload_n hx hb dX7_scanWord_17 rfl (lv_at hl 2 rfl) ?_
      refine cg_tape_bytes hx hb hts hown hK hP uw_1_90 dX7_scanWord_18 ?_
      refine lv_iload_n hx hb dX7_scanWord_21 rfl (lv_at hl 0 rfl) ?_
      refine cl_tape_bytes hx hb hK hP dX7_scanWord_22 (by omega) b_B_tape_bytes (fun z_831 _ hz_831 => ?_)
      refine g_i (cDt hD) hS hA (g_S (own := "HideReader$Tape") (As := [.int (mI z_831)]) (rest := []) hx hb hml hown hts hK hP (cDt hD) (kc_X7_isLetter (l := l) (D := D) (k := k) (by omega)) ck_X7_isLetter uw_3_74 uw_3_73 rfl hl.1 rfl (Nat.le_of_ble_eq_true rfl) dX7_scanWord_23 ⟨Nat.le_of_ble_eq_true rfl, Nat.le_of_ble_eq_true rfl⟩ ⟨Nat.le_of_ble_eq_true rfl, Nat.le_of_ble_eq_true rfl⟩) (fun r_832 H locs hQ hS => ?_)
      obtain ⟨hq_r_832, hP⟩ := hQ
      rcases hq_r_832 with ⟨rfl, c_833_0⟩ | ⟨rfl, c_834_0⟩
      · skip
        refine sy_if_eq (tgt := 55) hx hb dX7_scanWord_26 (by decide) (by decide) (fun c_835 => ?_) (fun c9 => absurd c9 (by decide))
        exact J_766 _ _ _ ⟨_, hP, hS, lv_sub hl [0, 1, 2, 3] rfl, rfl⟩
      · skip
        refine sy_if_eq (tgt := 55) hx hb dX7_scanWord_26 (by decide) (by decide) (fun c9 => absurd c9 (by decide)) (fun c_836 => ?_)
        refine lv_aload_n hx hb dX7_scanWord_29 rfl (lv_at hl 2 rfl) ?_
        refine lv_aload_n hx hb dX7_scanWord_30 rfl (lv_at hl 2 rfl) ?_
        refine cg_tape_name hx hb hts hown hK hP uw_1_97 dX7_scanWord_31 ?_
        refine lv_aload_n hx hb dX7_scanWord_34 rfl (lv_at hl 2 rfl) ?_
        refine cg_tape_bytes hx hb hts hown hK hP uw_1_90 dX7_scanWord_35 ?_
        refine lv_iload_n hx hb dX7_scanWord_38 rfl (lv_at hl 0 rfl) ?_
        refine cl_tape_bytes hx hb hK hP dX7_scanWord_39 (by omega) b_B_tape_bytes (fun z_837 _ hz_837 => ?_)
        refine g_l (cDt hD) hS hA (g_S (own := "HideReader$Tape") (As := [.long j_672, .int (mI z_837)]) (rest := [.ref (a 2)]) hx hb hml hown hts hK hP (cDt hD) (kc_X7_withLetter (l := l) (D := D) (k := k) (by omega)) ck_X7_withLetter uw_1_87 uw_1_86 rfl hl.1 rfl (Nat.le_of_ble_eq_true rfl) dX7_scanWord_40 ⟨Nat.le_of_ble_eq_true rfl, Nat.le_of_ble_eq_true rfl⟩ ⟨Nat.le_of_ble_eq_true rfl, Nat.le_of_ble_eq_true rfl⟩) (fun r_838 H locs hQ hS => ?_)
        have hP := hQ
        refine cp_tape_name hx hb hts hown hK hP hD hS uw_1_97 dX7_scanWord_43 (fun H locs hP hS => ?_)
        refine lv_iinc (v := mI (z_671 + 1)) (lv' := [(2, .int (mI (z_671 + 1))), (3, .int (mI z_670)), (0, .ref (a 2)), (1, .int (mI p0))]) hx hb dX7_scanWord_46 hl (k := 1) rfl (mI_ad rfl) (by decide) rfl (fun ls hl => ?_)
        refine lv_iinc (v := mI (z_670 + 1)) (lv' := [(3, .int (mI (z_670 + 1))), (2, .int (mI (z_671 + 1))), (0, .ref (a 2)), (1, .int (mI p0))]) hx hb dX7_scanWord_49 hl (k := 1) rfl (mI_ad rfl) (by decide) rfl (fun ls hl => ?_)
        refine lv_goto (tgt := 9) hx hb dX7_scanWord_52 (by decide) ?_
        exact ih_756 _ _ _ _ (by omega) ⟨(z_670 + 1), (z_671 + 1), r_838, _, by omega, by omega, by omega, by omega, by omega, by omega, rfl, hP, hS, lv_sub hl [0, 1, 2, 3] rfl, rfl⟩
set_option maxHeartbeats 4000000 in
set_option maxRecDepth 100000 in
theorem kc_X7_scanNumber {p0 : Int} (hp0 : 0 ≤ p0 ∧ p0 ≤ 1600) (h_x_tape_length : 0 ≤ x_tape_length ∧ x_tape_length ≤ 1600) (h_x_tape_next : 0 ≤ x_tape_next ∧ x_tape_next ≤ 1600) (h_x_tape_kind : 0 ≤ x_tape_kind ∧ x_tape_kind ≤ 255) (h_x_tape_place : 0 ≤ x_tape_place ∧ x_tape_place ≤ 1600) (h_x_tape_faultKind : 0 ≤ x_tape_faultKind ∧ x_tape_faultKind ≤ 5) (h_x_tape_faultPlace : -1 ≤ x_tape_faultPlace ∧ x_tape_faultPlace ≤ 1600) (b_B_tape_bytes : bd (-128) 127 B_tape_bytes) : MetG l D k yX7_scanNumber cX7_scanNumber 4 none 1 [.ref (a 2), .int (mI p0)] (cW k a q x_xo_lyingCount x_tape_length x_tape_next x_tape_kind x_tape_place x_tape_number x_tape_faultKind x_tape_faultPlace x_told_turns x_told_mirror x_told_night x_told_draw x_told_herds x_told_irons x_told_beasts x_told_linesTold x_tfo_steps x_tfo_units x_draft_turns x_draft_mirror x_draft_night x_draft_draw x_draft_herds x_draft_irons x_draft_beasts x_draft_linesTold x_dfo_steps x_dfo_units x_lat_placements x_smi_irons x_smi_aim x_his_here x_his_undoable x_his_redoable x_book_placedCount x_wit_count x_wit_time n_tape_name B_xo_lying B_tape_bytes B_told_brands B_told_ironMarks B_told_homes B_told_births B_tfo_kinds B_tfo_numbers B_tfo_stack B_tfo_facts B_draft_brands B_draft_ironMarks B_draft_homes B_draft_births B_dfo_kinds B_dfo_numbers B_dfo_stack B_dfo_facts B_lat_lowHalves B_lat_highHalves B_lat_ways B_smi_placedIrons B_smi_within B_smi_costs B_his_isKept B_book_norms B_book_above B_book_heights B_book_placedBrands B_bea_firstGains B_bea_otherGains B_wit_burnings B_wit_strokes B_wit_wasOn B_wit_toldAt B_wit_untoldAt B_wit_on B_wit_off B_wit_firstCounts B_wit_secondCounts Ps Pd G_tape_wordNames G_told_herdNames G_told_ironNames G_told_beastNames G_draft_herdNames G_draft_ironNames G_draft_beastNames Ph Po Pg ex) (qGv (fun H => ∃ (y_tape_next : Int) (y_tape_kind : Int) (y_tape_number : Int) (y_tape_faultKind : Int) (y_tape_faultPlace : Int), (0 ≤ y_tape_next ∧ y_tape_next ≤ 1600) ∧ (0 ≤ y_tape_kind ∧ y_tape_kind ≤ 255) ∧ (-2147483648 ≤ y_tape_number ∧ y_tape_number ≤ 2147483647) ∧ (0 ≤ y_tape_faultKind ∧ y_tape_faultKind ≤ 5) ∧ (-1 ≤ y_tape_faultPlace ∧ y_tape_faultPlace ≤ 1600) ∧ (0 ≤ y_tape_faultKind - x_tape_faultKind) ∧ va_P D vwCl (cW k a q x_xo_lyingCount x_tape_length y_tape_next y_tape_kind x_tape_place y_tape_number y_tape_faultKind y_tape_faultPlace x_told_turns x_told_mirror x_told_night x_told_draw x_told_herds x_told_irons x_told_beasts x_told_linesTold x_tfo_steps x_tfo_units x_draft_turns x_draft_mirror x_draft_night x_draft_draw x_draft_herds x_draft_irons x_draft_beasts x_draft_linesTold x_dfo_steps x_dfo_units x_lat_placements x_smi_irons x_smi_aim x_his_here x_his_undoable x_his_redoable x_book_placedCount x_wit_count x_wit_time n_tape_name B_xo_lying B_tape_bytes B_told_brands B_told_ironMarks B_told_homes B_told_births B_tfo_kinds B_tfo_numbers B_tfo_stack B_tfo_facts B_draft_brands B_draft_ironMarks B_draft_homes B_draft_births B_dfo_kinds B_dfo_numbers B_dfo_stack B_dfo_facts B_lat_lowHalves B_lat_highHalves B_lat_ways B_smi_placedIrons B_smi_within B_smi_costs B_his_isKept B_book_norms B_book_above B_book_heights B_book_placedBrands B_bea_firstGains B_bea_otherGains B_wit_burnings B_wit_strokes B_wit_wasOn B_wit_toldAt B_wit_untoldAt B_wit_on B_wit_off B_wit_firstCounts B_wit_secondCounts Ps Pd G_tape_wordNames G_told_herdNames G_told_ironNames G_told_beastNames G_draft_herdNames G_draft_ironNames G_draft_beastNames Ph Po Pg ex) H)) := by
  refine metG_of 1 ck_X7_scanNumber (Nat.le_of_ble_eq_true rfl) cMap (fun p e s m args below meth c A hx hb hml hr hlocks hown hts hK hD hA hP hS ls hl => ?_)
  have hown : s.vm.findClass "HideReader$Tape" = some m.cls := hown
  have hl : lv_has ls 4 [(0, .ref (a 2)), (1, .int (mI p0))] := hl
  refine lv_iconst (v := mI 0) hx hb dX7_scanNumber_0 rfl ?_
  refine lv_istore_n (lv' := [(2, .int (mI 0)), (0, .ref (a 2)), (1, .int (mI p0))]) hx hb dX7_scanNumber_1 rfl hl (by decide) rfl (fun ls hl => ?_)
  refine lv_aload_n hx hb dX7_scanNumber_2 rfl (lv_at hl 1 rfl) ?_
  refine lv_iconst (v := mI 0) hx hb dX7_scanNumber_3 rfl ?_
  refine cp_tape_number hx hb hts hown hK hP hD hS uw_1_96 dX7_scanNumber_4 (fun H locs hP hS => ?_)
  refine lv_iload_n hx hb dX7_scanNumber_7 rfl (lv_at hl 2 rfl) ?_
  refine lv_istore_n (lv' := [(3, .int (mI p0)), (2, .int (mI 0)), (0, .ref (a 2)), (1, .int (mI p0))]) hx hb dX7_scanNumber_8 rfl hl (by decide) rfl (fun ls hl => ?_)
  refine sy_loop (I := fun n H locs g => ∃ (z_1146 : Int) (z_1147 : Int) (y_1148 : Int) (ls : Array Slot), (0 ≤ z_1146 ∧ z_1146 ≤ 1600) ∧ (0 ≤ z_1147 ∧ z_1147 ≤ 1600) ∧ (-2147483648 ≤ y_1148 ∧ y_1148 ≤ 2147483647) ∧ (0 ≤ z_1146 - z_1147) ∧ (0 ≤ z_1146 - p0 - z_1147) ∧ (0 ≤ p0 + z_1147 - z_1146) ∧ (0 ≤ z_1146 - p0) ∧ (1600 - z_1147).toNat = n ∧ va_P D vwCl (cW k a q x_xo_lyingCount x_tape_length x_tape_next x_tape_kind x_tape_place y_1148 x_tape_faultKind x_tape_faultPlace x_told_turns x_told_mirror x_told_night x_told_draw x_told_herds x_told_irons x_told_beasts x_told_linesTold x_tfo_steps x_tfo_units x_draft_turns x_draft_mirror x_draft_night x_draft_draw x_draft_herds x_draft_irons x_draft_beasts x_draft_linesTold x_dfo_steps x_dfo_units x_lat_placements x_smi_irons x_smi_aim x_his_here x_his_undoable x_his_redoable x_book_placedCount x_wit_count x_wit_time n_tape_name B_xo_lying B_tape_bytes B_told_brands B_told_ironMarks B_told_homes B_told_births B_tfo_kinds B_tfo_numbers B_tfo_stack B_tfo_facts B_draft_brands B_draft_ironMarks B_draft_homes B_draft_births B_dfo_kinds B_dfo_numbers B_dfo_stack B_dfo_facts B_lat_lowHalves B_lat_highHalves B_lat_ways B_smi_placedIrons B_smi_within B_smi_costs B_his_isKept B_book_norms B_book_above B_book_heights B_book_placedBrands B_bea_firstGains B_bea_otherGains B_wit_burnings B_wit_strokes B_wit_wasOn B_wit_toldAt B_wit_untoldAt B_wit_on B_wit_off B_wit_firstCounts B_wit_secondCounts Ps Pd G_tape_wordNames G_told_herdNames G_told_ironNames G_told_beastNames G_draft_herdNames G_draft_ironNames G_draft_beastNames Ph Po Pg ex) H ∧ va_S A s.heap H locs ∧ lv_has ls 4 [(3, .int (mI z_1146)), (2, .int (mI z_1147)), (0, .ref (a 2)), (1, .int (mI p0))] ∧ g = F0 m 9 ls []) ?_ _ ⟨p0, 0, 0, _, by omega, by omega, by omega, by omega, by omega, by omega, by omega, rfl, hP, hS, lv_sub hl [0, 1, 2, 3] rfl, rfl⟩
  intro n_1186 H locs g hI ih_1187
  obtain ⟨z_1146, z_1147, y_1148, ls, h9_0, h9_1, h9_2, h9_3, h9_4, h9_5, h9_6, mn_1186, hP, hS, hl, rfl⟩ := hI
  refine lv_iload_n hx hb dX7_scanNumber_9 rfl (lv_at hl 0 rfl) ?_
  refine lv_aload_n hx hb dX7_scanNumber_10 rfl (lv_at hl 2 rfl) ?_
  refine cg_tape_length hx hb hts hown hK hP uw_1_92 dX7_scanNumber_11 ?_
  refine sy_join (I := fun H locs g => ∃ (ls : Array Slot), va_P D vwCl (cW k a q x_xo_lyingCount x_tape_length x_tape_next x_tape_kind x_tape_place y_1148 x_tape_faultKind x_tape_faultPlace x_told_turns x_told_mirror x_told_night x_told_draw x_told_herds x_told_irons x_told_beasts x_told_linesTold x_tfo_steps x_tfo_units x_draft_turns x_draft_mirror x_draft_night x_draft_draw x_draft_herds x_draft_irons x_draft_beasts x_draft_linesTold x_dfo_steps x_dfo_units x_lat_placements x_smi_irons x_smi_aim x_his_here x_his_undoable x_his_redoable x_book_placedCount x_wit_count x_wit_time n_tape_name B_xo_lying B_tape_bytes B_told_brands B_told_ironMarks B_told_homes B_told_births B_tfo_kinds B_tfo_numbers B_tfo_stack B_tfo_facts B_draft_brands B_draft_ironMarks B_draft_homes B_draft_births B_dfo_kinds B_dfo_numbers B_dfo_stack B_dfo_facts B_lat_lowHalves B_lat_highHalves B_lat_ways B_smi_placedIrons B_smi_within B_smi_costs B_his_isKept B_book_norms B_book_above B_book_heights B_book_placedBrands B_bea_firstGains B_bea_otherGains B_wit_burnings B_wit_strokes B_wit_wasOn B_wit_toldAt B_wit_untoldAt B_wit_on B_wit_off B_wit_firstCounts B_wit_secondCounts Ps Pd G_tape_wordNames G_told_herdNames G_told_ironNames G_told_beastNames G_draft_herdNames G_draft_ironNames G_draft_beastNames Ph Po Pg ex) H ∧ va_S A s.heap H locs ∧ lv_has ls 4 [(3, .int (mI z_1146)), (2, .int (mI z_1147)), (0, .ref (a 2)), (1, .int (mI p0))] ∧ g = F0 m 59 ls []) ?_ ?_
  · skip
    intro H locs g hI
    obtain ⟨ls, hP, hS, hl, rfl⟩ := hI
    refine lv_iload_n hx hb dX7_scanNumber_59 rfl (lv_at hl 3 rfl) ?_
    refine lv_iload_n hx hb dX7_scanNumber_60 rfl (lv_at hl 1 rfl) ?_
    refine sy_iadd hx hb dX7_scanNumber_61 (p0 + z_1147) rfl ?_
    refine lv_istore_n (lv' := [(3, .int (mI (p0 + z_1147))), (2, .int (mI z_1147)), (0, .ref (a 2)), (1, .int (mI p0))]) hx hb dX7_scanNumber_62 rfl hl (by decide) rfl (fun ls hl => ?_)
    refine lv_iload_n hx hb dX7_scanNumber_63 rfl (lv_at hl 1 rfl) ?_
    refine lv_iconst (v := mI 4) hx hb dX7_scanNumber_64 rfl ?_
    refine sy_icmp_gt (tgt := 88) hx hb dX7_scanNumber_65 (by decide) (by omega) (by decide) (fun c_1199 => ?_) (fun c_1199 => ?_)
    · skip
      refine lv_aload_n hx hb dX7_scanNumber_88 rfl (lv_at hl 2 rfl) ?_
      refine lv_iconst (v := mI 1) hx hb dX7_scanNumber_89 rfl ?_
      refine g_v (cDt hD) hS hA (g_V (own := "HideReader$Tape") (As := [.int (mI 1)]) (rest := []) hx hb hml hown hts hK hP (cDt hD) (kc_X7_fail (l := l) (D := D) (k := k) (by decide) h_x_tape_kind h_x_tape_place h_x_tape_faultKind h_x_tape_faultPlace) ck_X7_fail iv_X7_fail uw_3_80 (cv_tape hK hP) rfl hl.1 rfl (Nat.le_of_ble_eq_true rfl) dX7_scanNumber_90 ⟨Nat.le_of_ble_eq_true rfl, Nat.le_of_ble_eq_true rfl⟩ ⟨Nat.le_of_ble_eq_true rfl, Nat.le_of_ble_eq_true rfl⟩) (fun H locs hQ hS => ?_)
      obtain ⟨y_1201, y_1202, y_1203, hr_1200_0, hr_1200_1, hr_1200_2, hr_1200_3, hP⟩ := hQ
      exact r_v hx hb hr hlocks dX7_scanNumber_93 hS ⟨x_tape_next, y_1201, y_1148, y_1202, y_1203, by omega, by omega, by omega, by omega, by omega, by omega, hP⟩
    · skip
      refine lv_iload_n hx hb dX7_scanNumber_68 rfl (lv_at hl 0 rfl) ?_
      refine lv_aload_n hx hb dX7_scanNumber_69 rfl (lv_at hl 2 rfl) ?_
      refine cg_tape_length hx hb hts hown hK hP uw_1_92 dX7_scanNumber_70 ?_
      refine sy_icmp_ge (tgt := 94) hx hb dX7_scanNumber_73 (by decide) (by omega) (by omega) (fun c_1204 => ?_) (fun c_1204 => ?_)
      · skip
        refine lv_aload_n hx hb dX7_scanNumber_94 rfl (lv_at hl 2 rfl) ?_
        refine lv_iload_n hx hb dX7_scanNumber_95 rfl (lv_at hl 0 rfl) ?_
        refine cp_tape_next hx hb hts hown hK hP hD hS uw_1_93 dX7_scanNumber_96 (fun H locs hP hS => ?_)
        refine lv_aload_n hx hb dX7_scanNumber_99 rfl (lv_at hl 2 rfl) ?_
        refine lv_sipush (v := mI 201) hx hb dX7_scanNumber_100 (by decide) ?_
        refine cp_tape_kind hx hb hts hown hK hP hD hS uw_1_94 dX7_scanNumber_103 (fun H locs hP hS => ?_)
        exact r_v hx hb hr hlocks dX7_scanNumber_106 hS ⟨(p0 + z_1147), 201, y_1148, x_tape_faultKind, x_tape_faultPlace, by omega, by omega, by omega, by omega, by omega, by omega, hP⟩
      · skip
        refine lv_aload_n hx hb dX7_scanNumber_76 rfl (lv_at hl 2 rfl) ?_
        refine cg_tape_bytes hx hb hts hown hK hP uw_1_90 dX7_scanNumber_77 ?_
        refine lv_iload_n hx hb dX7_scanNumber_80 rfl (lv_at hl 0 rfl) ?_
        refine cl_tape_bytes hx hb hK hP dX7_scanNumber_81 (by omega) b_B_tape_bytes (fun z_1205 _ hz_1205 => ?_)
        refine g_i (cDt hD) hS hA (g_S (own := "HideReader$Tape") (As := [.int (mI z_1205)]) (rest := []) hx hb hml hown hts hK hP (cDt hD) (kc_X7_isLetter (l := l) (D := D) (k := k) (by omega)) ck_X7_isLetter uw_3_74 uw_3_73 rfl hl.1 rfl (Nat.le_of_ble_eq_true rfl) dX7_scanNumber_82 ⟨Nat.le_of_ble_eq_true rfl, Nat.le_of_ble_eq_true rfl⟩ ⟨Nat.le_of_ble_eq_true rfl, Nat.le_of_ble_eq_true rfl⟩) (fun r_1206 H locs hQ hS => ?_)
        obtain ⟨hq_r_1206, hP⟩ := hQ
        rcases hq_r_1206 with ⟨rfl, c_1207_0⟩ | ⟨rfl, c_1208_0⟩
        · skip
          refine sy_if_eq (tgt := 94) hx hb dX7_scanNumber_85 (by decide) (by decide) (fun c_1209 => ?_) (fun c9 => absurd c9 (by decide))
          refine lv_aload_n hx hb dX7_scanNumber_94 rfl (lv_at hl 2 rfl) ?_
          refine lv_iload_n hx hb dX7_scanNumber_95 rfl (lv_at hl 0 rfl) ?_
          refine cp_tape_next hx hb hts hown hK hP hD hS uw_1_93 dX7_scanNumber_96 (fun H locs hP hS => ?_)
          refine lv_aload_n hx hb dX7_scanNumber_99 rfl (lv_at hl 2 rfl) ?_
          refine lv_sipush (v := mI 201) hx hb dX7_scanNumber_100 (by decide) ?_
          refine cp_tape_kind hx hb hts hown hK hP hD hS uw_1_94 dX7_scanNumber_103 (fun H locs hP hS => ?_)
          exact r_v hx hb hr hlocks dX7_scanNumber_106 hS ⟨(p0 + z_1147), 201, y_1148, x_tape_faultKind, x_tape_faultPlace, by omega, by omega, by omega, by omega, by omega, by omega, hP⟩
        · skip
          refine sy_if_eq (tgt := 94) hx hb dX7_scanNumber_85 (by decide) (by decide) (fun c9 => absurd c9 (by decide)) (fun c_1210 => ?_)
          refine lv_aload_n hx hb dX7_scanNumber_88 rfl (lv_at hl 2 rfl) ?_
          refine lv_iconst (v := mI 1) hx hb dX7_scanNumber_89 rfl ?_
          refine g_v (cDt hD) hS hA (g_V (own := "HideReader$Tape") (As := [.int (mI 1)]) (rest := []) hx hb hml hown hts hK hP (cDt hD) (kc_X7_fail (l := l) (D := D) (k := k) (by decide) h_x_tape_kind h_x_tape_place h_x_tape_faultKind h_x_tape_faultPlace) ck_X7_fail iv_X7_fail uw_3_80 (cv_tape hK hP) rfl hl.1 rfl (Nat.le_of_ble_eq_true rfl) dX7_scanNumber_90 ⟨Nat.le_of_ble_eq_true rfl, Nat.le_of_ble_eq_true rfl⟩ ⟨Nat.le_of_ble_eq_true rfl, Nat.le_of_ble_eq_true rfl⟩) (fun H locs hQ hS => ?_)
          obtain ⟨y_1212, y_1213, y_1214, hr_1211_0, hr_1211_1, hr_1211_2, hr_1211_3, hP⟩ := hQ
          exact r_v hx hb hr hlocks dX7_scanNumber_93 hS ⟨x_tape_next, y_1212, y_1148, y_1213, y_1214, by omega, by omega, by omega, by omega, by omega, by omega, hP⟩
  · skip
    intro J_1198
    refine sy_icmp_ge (tgt := 59) hx hb dX7_scanNumber_14 (by decide) (by omega) (by omega) (fun c_1215 => ?_) (fun c_1215 => ?_)
    · skip
      exact J_1198 _ _ _ ⟨_, hP, hS, lv_sub hl [0, 1, 2, 3] rfl, rfl⟩
    · skip
      refine lv_aload_n hx hb dX7_scanNumber_17 rfl (lv_at hl 2 rfl) ?_
      refine cg_tape_bytes hx hb hts hown hK hP uw_1_90 dX7_scanNumber_18 ?_
      refine lv_iload_n hx hb dX7_scanNumber_21 rfl (lv_at hl 0 rfl) ?_
      refine cl_tape_bytes hx hb hK hP dX7_scanNumber_22 (by omega) b_B_tape_bytes (fun z_1216 _ hz_1216 => ?_)
      refine g_i (cDt hD) hS hA (g_S (own := "HideReader$Tape") (As := [.int (mI z_1216)]) (rest := []) hx hb hml hown hts hK hP (cDt hD) (kc_X7_isDigit (l := l) (D := D) (k := k) (by omega)) ck_X7_isDigit uw_3_85 uw_3_84 rfl hl.1 rfl (Nat.le_of_ble_eq_true rfl) dX7_scanNumber_23 ⟨Nat.le_of_ble_eq_true rfl, Nat.le_of_ble_eq_true rfl⟩ ⟨Nat.le_of_ble_eq_true rfl, Nat.le_of_ble_eq_true rfl⟩) (fun r_1217 H locs hQ hS => ?_)
      obtain ⟨hq_r_1217, hP⟩ := hQ
      rcases hq_r_1217 with ⟨rfl, c_1218_0⟩ | ⟨rfl, c_1219_0⟩
      · skip
        refine sy_if_eq (tgt := 59) hx hb dX7_scanNumber_26 (by decide) (by decide) (fun c_1220 => ?_) (fun c9 => absurd c9 (by decide))
        exact J_1198 _ _ _ ⟨_, hP, hS, lv_sub hl [0, 1, 2, 3] rfl, rfl⟩
      · skip
        refine sy_if_eq (tgt := 59) hx hb dX7_scanNumber_26 (by decide) (by decide) (fun c9 => absurd c9 (by decide)) (fun c_1221 => ?_)
        refine lv_aload_n hx hb dX7_scanNumber_29 rfl (lv_at hl 2 rfl) ?_
        refine lv_aload_n hx hb dX7_scanNumber_30 rfl (lv_at hl 2 rfl) ?_
        refine cg_tape_number hx hb hts hown hK hP uw_1_96 dX7_scanNumber_31 ?_
        refine lv_bipush (v := mI 10) hx hb dX7_scanNumber_34 (by decide) ?_
        refine sy_imul hx hb dX7_scanNumber_36 (10 * y_1148) (by omega) ?_
        refine sy_any (fun z_1222 hz_1222 => ?_)
        refine lv_aload_n hx hb dX7_scanNumber_37 rfl (lv_at hl 2 rfl) ?_
        refine cg_tape_bytes hx hb hts hown hK hP uw_1_90 dX7_scanNumber_38 ?_
        refine lv_iload_n hx hb dX7_scanNumber_41 rfl (lv_at hl 0 rfl) ?_
        refine cl_tape_bytes hx hb hK hP dX7_scanNumber_42 (by omega) b_B_tape_bytes (fun z_1223 _ hz_1223 => ?_)
        refine lv_bipush (v := mI 48) hx hb dX7_scanNumber_43 (by decide) ?_
        refine sy_isub hx hb dX7_scanNumber_45 (z_1223 - 48) rfl ?_
        refine sy_iadd hx hb dX7_scanNumber_46 (z_1222 + z_1223 - 48) (by omega) ?_
        refine sy_any (fun z_1224 hz_1224 => ?_)
        refine cp_tape_number hx hb hts hown hK hP hD hS uw_1_96 dX7_scanNumber_47 (fun H locs hP hS => ?_)
        refine lv_iinc (v := mI (z_1147 + 1)) (lv' := [(2, .int (mI (z_1147 + 1))), (3, .int (mI z_1146)), (0, .ref (a 2)), (1, .int (mI p0))]) hx hb dX7_scanNumber_50 hl (k := 1) rfl (mI_ad rfl) (by decide) rfl (fun ls hl => ?_)
        refine lv_iinc (v := mI (z_1146 + 1)) (lv' := [(3, .int (mI (z_1146 + 1))), (2, .int (mI (z_1147 + 1))), (0, .ref (a 2)), (1, .int (mI p0))]) hx hb dX7_scanNumber_53 hl (k := 1) rfl (mI_ad rfl) (by decide) rfl (fun ls hl => ?_)
        refine lv_goto (tgt := 9) hx hb dX7_scanNumber_56 (by decide) ?_
        exact ih_1187 _ _ _ _ (by omega) ⟨(z_1146 + 1), (z_1147 + 1), z_1224, _, by omega, by omega, by omega, by omega, by omega, by omega, by omega, rfl, hP, hS, lv_sub hl [0, 1, 2, 3] rfl, rfl⟩
set_option maxHeartbeats 4000000 in
set_option maxRecDepth 100000 in
theorem kc_X2_empty_dfo (h_x_dfo_steps : 0 ≤ x_dfo_steps ∧ x_dfo_steps ≤ 270) (h_x_dfo_units : 0 ≤ x_dfo_units ∧ x_dfo_units ≤ 30) : MetG l D k yX2_empty cX2_empty 1 none 0 [.ref (a 26)] (cW k a q x_xo_lyingCount x_tape_length x_tape_next x_tape_kind x_tape_place x_tape_number x_tape_faultKind x_tape_faultPlace x_told_turns x_told_mirror x_told_night x_told_draw x_told_herds x_told_irons x_told_beasts x_told_linesTold x_tfo_steps x_tfo_units x_draft_turns x_draft_mirror x_draft_night x_draft_draw x_draft_herds x_draft_irons x_draft_beasts x_draft_linesTold x_dfo_steps x_dfo_units x_lat_placements x_smi_irons x_smi_aim x_his_here x_his_undoable x_his_redoable x_book_placedCount x_wit_count x_wit_time n_tape_name B_xo_lying B_tape_bytes B_told_brands B_told_ironMarks B_told_homes B_told_births B_tfo_kinds B_tfo_numbers B_tfo_stack B_tfo_facts B_draft_brands B_draft_ironMarks B_draft_homes B_draft_births B_dfo_kinds B_dfo_numbers B_dfo_stack B_dfo_facts B_lat_lowHalves B_lat_highHalves B_lat_ways B_smi_placedIrons B_smi_within B_smi_costs B_his_isKept B_book_norms B_book_above B_book_heights B_book_placedBrands B_bea_firstGains B_bea_otherGains B_wit_burnings B_wit_strokes B_wit_wasOn B_wit_toldAt B_wit_untoldAt B_wit_on B_wit_off B_wit_firstCounts B_wit_secondCounts Ps Pd G_tape_wordNames G_told_herdNames G_told_ironNames G_told_beastNames G_draft_herdNames G_draft_ironNames G_draft_beastNames Ph Po Pg ex) (qGv (fun H => ∃ (y_dfo_steps : Int) (y_dfo_units : Int), (0 ≤ y_dfo_steps ∧ y_dfo_steps ≤ 0) ∧ (0 ≤ y_dfo_units ∧ y_dfo_units ≤ 0) ∧ (0 ≤ -y_dfo_steps + x_dfo_steps) ∧ (0 ≤ -y_dfo_units + x_dfo_units) ∧ va_P D vwCl (cW k a q x_xo_lyingCount x_tape_length x_tape_next x_tape_kind x_tape_place x_tape_number x_tape_faultKind x_tape_faultPlace x_told_turns x_told_mirror x_told_night x_told_draw x_told_herds x_told_irons x_told_beasts x_told_linesTold x_tfo_steps x_tfo_units x_draft_turns x_draft_mirror x_draft_night x_draft_draw x_draft_herds x_draft_irons x_draft_beasts x_draft_linesTold y_dfo_steps y_dfo_units x_lat_placements x_smi_irons x_smi_aim x_his_here x_his_undoable x_his_redoable x_book_placedCount x_wit_count x_wit_time n_tape_name B_xo_lying B_tape_bytes B_told_brands B_told_ironMarks B_told_homes B_told_births B_tfo_kinds B_tfo_numbers B_tfo_stack B_tfo_facts B_draft_brands B_draft_ironMarks B_draft_homes B_draft_births B_dfo_kinds B_dfo_numbers B_dfo_stack B_dfo_facts B_lat_lowHalves B_lat_highHalves B_lat_ways B_smi_placedIrons B_smi_within B_smi_costs B_his_isKept B_book_norms B_book_above B_book_heights B_book_placedBrands B_bea_firstGains B_bea_otherGains B_wit_burnings B_wit_strokes B_wit_wasOn B_wit_toldAt B_wit_untoldAt B_wit_on B_wit_off B_wit_firstCounts B_wit_secondCounts Ps Pd G_tape_wordNames G_told_herdNames G_told_ironNames G_told_beastNames G_draft_herdNames G_draft_ironNames G_draft_beastNames Ph Po Pg ex) H)) := by
  refine metG_of 0 ck_X2_empty (Nat.le_of_ble_eq_true rfl) cMap (fun p e s m args below meth c A hx hb hml hr hlocks hown hts hK hD hA hP hS ls hl => ?_)
  have hown : s.vm.findClass "HideReader$Formula" = some m.cls := hown
  have hl : lv_has ls 1 [(0, .ref (a 26))] := hl
  refine lv_aload_n hx hb dX2_empty_0 rfl (lv_at hl 0 rfl) ?_
  refine lv_iconst (v := mI 0) hx hb dX2_empty_1 rfl ?_
  refine cp_dfo_steps hx hb hts hown hK hP hD hS uw_1_140 dX2_empty_2 (fun H locs hP hS => ?_)
  refine lv_aload_n hx hb dX2_empty_5 rfl (lv_at hl 0 rfl) ?_
  refine lv_iconst (v := mI 0) hx hb dX2_empty_6 rfl ?_
  refine cp_dfo_units hx hb hts hown hK hP hD hS uw_1_141 dX2_empty_7 (fun H locs hP hS => ?_)
  exact r_v hx hb hr hlocks dX2_empty_10 hS ⟨0, 0, by omega, by omega, by omega, by omega, hP⟩
set_option maxHeartbeats 4000000 in
set_option maxRecDepth 100000 in
theorem kc_X9_empty_draft (h_x_draft_mirror : 0 ≤ x_draft_mirror ∧ x_draft_mirror ≤ 1) (h_x_draft_herds : 0 ≤ x_draft_herds ∧ x_draft_herds ≤ 8) (h_x_draft_irons : 0 ≤ x_draft_irons ∧ x_draft_irons ≤ 6) (h_x_draft_beasts : 0 ≤ x_draft_beasts ∧ x_draft_beasts ≤ 8) (h_x_dfo_steps : 0 ≤ x_dfo_steps ∧ x_dfo_steps ≤ 270) (h_x_dfo_units : 0 ≤ x_dfo_units ∧ x_dfo_units ≤ 30) : MetG l D k yX9_empty cX9_empty 1 none 1 [.ref (a 18)] (cW k a q x_xo_lyingCount x_tape_length x_tape_next x_tape_kind x_tape_place x_tape_number x_tape_faultKind x_tape_faultPlace x_told_turns x_told_mirror x_told_night x_told_draw x_told_herds x_told_irons x_told_beasts x_told_linesTold x_tfo_steps x_tfo_units x_draft_turns x_draft_mirror x_draft_night x_draft_draw x_draft_herds x_draft_irons x_draft_beasts x_draft_linesTold x_dfo_steps x_dfo_units x_lat_placements x_smi_irons x_smi_aim x_his_here x_his_undoable x_his_redoable x_book_placedCount x_wit_count x_wit_time n_tape_name B_xo_lying B_tape_bytes B_told_brands B_told_ironMarks B_told_homes B_told_births B_tfo_kinds B_tfo_numbers B_tfo_stack B_tfo_facts B_draft_brands B_draft_ironMarks B_draft_homes B_draft_births B_dfo_kinds B_dfo_numbers B_dfo_stack B_dfo_facts B_lat_lowHalves B_lat_highHalves B_lat_ways B_smi_placedIrons B_smi_within B_smi_costs B_his_isKept B_book_norms B_book_above B_book_heights B_book_placedBrands B_bea_firstGains B_bea_otherGains B_wit_burnings B_wit_strokes B_wit_wasOn B_wit_toldAt B_wit_untoldAt B_wit_on B_wit_off B_wit_firstCounts B_wit_secondCounts Ps Pd G_tape_wordNames G_told_herdNames G_told_ironNames G_told_beastNames G_draft_herdNames G_draft_ironNames G_draft_beastNames Ph Po Pg ex) (qGv (fun H => ∃ (y_draft_turns : Int) (y_draft_mirror : Int) (y_draft_night : Int) (y_draft_draw : Int) (y_draft_herds : Int) (y_draft_irons : Int) (y_draft_beasts : Int) (y_draft_linesTold : Int) (y_dfo_steps : Int) (y_dfo_units : Int), (1 ≤ y_draft_turns ∧ y_draft_turns ≤ 1) ∧ (0 ≤ y_draft_mirror ∧ y_draft_mirror ≤ 0) ∧ (0 ≤ y_draft_night ∧ y_draft_night ≤ 0) ∧ (0 ≤ y_draft_draw ∧ y_draft_draw ≤ 0) ∧ (0 ≤ y_draft_herds ∧ y_draft_herds ≤ 0) ∧ (0 ≤ y_draft_irons ∧ y_draft_irons ≤ 0) ∧ (0 ≤ y_draft_beasts ∧ y_draft_beasts ≤ 0) ∧ (0 ≤ y_draft_linesTold ∧ y_draft_linesTold ≤ 0) ∧ (0 ≤ y_dfo_steps ∧ y_dfo_steps ≤ 0) ∧ (0 ≤ y_dfo_units ∧ y_dfo_units ≤ 0) ∧ (0 ≤ -y_draft_mirror + x_draft_mirror) ∧ (0 ≤ -y_draft_herds + x_draft_herds) ∧ (0 ≤ -y_draft_irons + x_draft_irons) ∧ (0 ≤ -y_draft_beasts + x_draft_beasts) ∧ (0 ≤ -y_dfo_steps + x_dfo_steps) ∧ (0 ≤ -y_dfo_units + x_dfo_units) ∧ va_P D vwCl (cW k a q x_xo_lyingCount x_tape_length x_tape_next x_tape_kind x_tape_place x_tape_number x_tape_faultKind x_tape_faultPlace x_told_turns x_told_mirror x_told_night x_told_draw x_told_herds x_told_irons x_told_beasts x_told_linesTold x_tfo_steps x_tfo_units y_draft_turns y_draft_mirror y_draft_night y_draft_draw y_draft_herds y_draft_irons y_draft_beasts y_draft_linesTold y_dfo_steps y_dfo_units x_lat_placements x_smi_irons x_smi_aim x_his_here x_his_undoable x_his_redoable x_book_placedCount x_wit_count x_wit_time n_tape_name B_xo_lying B_tape_bytes B_told_brands B_told_ironMarks B_told_homes B_told_births B_tfo_kinds B_tfo_numbers B_tfo_stack B_tfo_facts B_draft_brands B_draft_ironMarks B_draft_homes B_draft_births B_dfo_kinds B_dfo_numbers B_dfo_stack B_dfo_facts B_lat_lowHalves B_lat_highHalves B_lat_ways B_smi_placedIrons B_smi_within B_smi_costs B_his_isKept B_book_norms B_book_above B_book_heights B_book_placedBrands B_bea_firstGains B_bea_otherGains B_wit_burnings B_wit_strokes B_wit_wasOn B_wit_toldAt B_wit_untoldAt B_wit_on B_wit_off B_wit_firstCounts B_wit_secondCounts Ps Pd G_tape_wordNames G_told_herdNames G_told_ironNames G_told_beastNames G_draft_herdNames G_draft_ironNames G_draft_beastNames Ph Po Pg ex) H)) := by
  refine metG_of 0 ck_X9_empty (Nat.le_of_ble_eq_true rfl) cMap (fun p e s m args below meth c A hx hb hml hr hlocks hown hts hK hD hA hP hS ls hl => ?_)
  have hown : s.vm.findClass "HideReader$Valley" = some m.cls := hown
  have hl : lv_has ls 1 [(0, .ref (a 18))] := hl
  refine lv_aload_n hx hb dX9_empty_0 rfl (lv_at hl 0 rfl) ?_
  refine lv_iconst (v := mI 1) hx hb dX9_empty_1 rfl ?_
  refine cp_draft_turns hx hb hts hown hK hP hD hS uw_1_155 dX9_empty_2 (fun H locs hP hS => ?_)
  refine lv_aload_n hx hb dX9_empty_5 rfl (lv_at hl 0 rfl) ?_
  refine lv_iconst (v := mI 0) hx hb dX9_empty_6 rfl ?_
  refine cp_draft_mirror hx hb hts hown hK hP hD hS uw_1_158 dX9_empty_7 (by decide) (fun H locs hP hS => ?_)
  refine lv_aload_n hx hb dX9_empty_10 rfl (lv_at hl 0 rfl) ?_
  refine lv_iconst (v := mI 0) hx hb dX9_empty_11 rfl ?_
  refine cp_draft_night hx hb hts hown hK hP hD hS uw_1_161 dX9_empty_12 (fun H locs hP hS => ?_)
  refine lv_aload_n hx hb dX9_empty_15 rfl (lv_at hl 0 rfl) ?_
  refine lv_iconst (v := mI 0) hx hb dX9_empty_16 rfl ?_
  refine cp_draft_draw hx hb hts hown hK hP hD hS uw_1_165 dX9_empty_17 (fun H locs hP hS => ?_)
  refine lv_aload_n hx hb dX9_empty_20 rfl (lv_at hl 0 rfl) ?_
  refine lv_iconst (v := mI 0) hx hb dX9_empty_21 rfl ?_
  refine cp_draft_herds hx hb hts hown hK hP hD hS uw_1_168 dX9_empty_22 (fun H locs hP hS => ?_)
  refine lv_aload_n hx hb dX9_empty_25 rfl (lv_at hl 0 rfl) ?_
  refine lv_iconst (v := mI 0) hx hb dX9_empty_26 rfl ?_
  refine cp_draft_irons hx hb hts hown hK hP hD hS uw_1_173 dX9_empty_27 (fun H locs hP hS => ?_)
  refine lv_aload_n hx hb dX9_empty_30 rfl (lv_at hl 0 rfl) ?_
  refine lv_iconst (v := mI 0) hx hb dX9_empty_31 rfl ?_
  refine cp_draft_beasts hx hb hts hown hK hP hD hS uw_1_178 dX9_empty_32 (fun H locs hP hS => ?_)
  refine lv_aload_n hx hb dX9_empty_35 rfl (lv_at hl 0 rfl) ?_
  refine lv_iconst (v := mI 0) hx hb dX9_empty_36 rfl ?_
  refine cp_draft_linesTold hx hb hts hown hK hP hD hS uw_1_184 dX9_empty_37 (fun H locs hP hS => ?_)
  refine lv_aload_n hx hb dX9_empty_40 rfl (lv_at hl 0 rfl) ?_
  refine cg_draft_shows hx hb hts hown hK hP uw_1_213 dX9_empty_41 ?_
  refine g_v (cDt hD) hS hA (g_V (own := "HideReader$Valley") (As := []) (rest := []) hx hb hml hown hts hK hP (cDt hD) (kc_X2_empty_dfo (l := l) (D := D) (k := k) h_x_dfo_steps h_x_dfo_units) ck_X2_empty iv_X2_empty uw_3_58 (cv_dfo hK hP) rfl hl.1 rfl (Nat.le_of_ble_eq_true rfl) dX9_empty_44 ⟨Nat.le_of_ble_eq_true rfl, Nat.le_of_ble_eq_true rfl⟩ ⟨Nat.le_of_ble_eq_true rfl, Nat.le_of_ble_eq_true rfl⟩) (fun H locs hQ hS => ?_)
  obtain ⟨y_2, y_3, hr_1_0, hr_1_1, hr_1_2, hr_1_3, hP⟩ := hQ
  exact r_v hx hb hr hlocks dX9_empty_47 hS ⟨1, 0, 0, 0, 0, 0, 0, 0, y_2, y_3, by omega, by omega, by omega, by omega, by omega, by omega, by omega, by omega, by omega, by omega, by omega, by omega, by omega, by omega, by omega, by omega, hP⟩
set_option maxHeartbeats 4000000 in
set_option maxRecDepth 100000 in
theorem kc_X8_indexOfName_reader_draft_herdNames {p1 : Int} (hp1 : -2147483648 ≤ p1 ∧ p1 ≤ 2147483647) : MetG l D k yX8_indexOfName cX8_indexOfName 4 (some .int) 1 [.ref (a 31), .ref (a 19), .int (mI p1)] (cW k a q x_xo_lyingCount x_tape_length x_tape_next x_tape_kind x_tape_place x_tape_number x_tape_faultKind x_tape_faultPlace x_told_turns x_told_mirror x_told_night x_told_draw x_told_herds x_told_irons x_told_beasts x_told_linesTold x_tfo_steps x_tfo_units x_draft_turns x_draft_mirror x_draft_night x_draft_draw x_draft_herds x_draft_irons x_draft_beasts x_draft_linesTold x_dfo_steps x_dfo_units x_lat_placements x_smi_irons x_smi_aim x_his_here x_his_undoable x_his_redoable x_book_placedCount x_wit_count x_wit_time n_tape_name B_xo_lying B_tape_bytes B_told_brands B_told_ironMarks B_told_homes B_told_births B_tfo_kinds B_tfo_numbers B_tfo_stack B_tfo_facts B_draft_brands B_draft_ironMarks B_draft_homes B_draft_births B_dfo_kinds B_dfo_numbers B_dfo_stack B_dfo_facts B_lat_lowHalves B_lat_highHalves B_lat_ways B_smi_placedIrons B_smi_within B_smi_costs B_his_isKept B_book_norms B_book_above B_book_heights B_book_placedBrands B_bea_firstGains B_bea_otherGains B_wit_burnings B_wit_strokes B_wit_wasOn B_wit_toldAt B_wit_untoldAt B_wit_on B_wit_off B_wit_firstCounts B_wit_secondCounts Ps Pd G_tape_wordNames G_told_herdNames G_told_ironNames G_told_beastNames G_draft_herdNames G_draft_ironNames G_draft_beastNames Ph Po Pg ex) (qGi (fun r0 H => (-1 ≤ r0 ∧ r0 ≤ 7) ∧ va_P D vwCl (cW k a q x_xo_lyingCount x_tape_length x_tape_next x_tape_kind x_tape_place x_tape_number x_tape_faultKind x_tape_faultPlace x_told_turns x_told_mirror x_told_night x_told_draw x_told_herds x_told_irons x_told_beasts x_told_linesTold x_tfo_steps x_tfo_units x_draft_turns x_draft_mirror x_draft_night x_draft_draw x_draft_herds x_draft_irons x_draft_beasts x_draft_linesTold x_dfo_steps x_dfo_units x_lat_placements x_smi_irons x_smi_aim x_his_here x_his_undoable x_his_redoable x_book_placedCount x_wit_count x_wit_time n_tape_name B_xo_lying B_tape_bytes B_told_brands B_told_ironMarks B_told_homes B_told_births B_tfo_kinds B_tfo_numbers B_tfo_stack B_tfo_facts B_draft_brands B_draft_ironMarks B_draft_homes B_draft_births B_dfo_kinds B_dfo_numbers B_dfo_stack B_dfo_facts B_lat_lowHalves B_lat_highHalves B_lat_ways B_smi_placedIrons B_smi_within B_smi_costs B_his_isKept B_book_norms B_book_above B_book_heights B_book_placedBrands B_bea_firstGains B_bea_otherGains B_wit_burnings B_wit_strokes B_wit_wasOn B_wit_toldAt B_wit_untoldAt B_wit_on B_wit_off B_wit_firstCounts B_wit_secondCounts Ps Pd G_tape_wordNames G_told_herdNames G_told_ironNames G_told_beastNames G_draft_herdNames G_draft_ironNames G_draft_beastNames Ph Po Pg ex) H)) := by
  refine metG_of 2 ck_X8_indexOfName (Nat.le_of_ble_eq_true rfl) cMap (fun p e s m args below meth c A hx hb hml hr hlocks hown hts hK hD hA hP hS ls hl => ?_)
  have hown : s.vm.findClass "HideReader$TextReader" = some m.cls := hown
  have hl : lv_has ls 4 [(0, .ref (a 31)), (1, .ref (a 19)), (2, .int (mI p1))] := hl
  refine lv_iconst (v := mI 0) hx hb dX8_indexOfName_0 rfl ?_
  refine lv_istore_n (lv' := [(3, .int (mI 0)), (0, .ref (a 31)), (1, .ref (a 19)), (2, .int (mI p1))]) hx hb dX8_indexOfName_1 rfl hl (by decide) rfl (fun ls hl => ?_)
  refine sy_loop (I := fun n H locs g => ∃ (z_49 : Int) (ls : Array Slot), (0 ≤ z_49 ∧ z_49 ≤ 8) ∧ (8 - z_49).toNat = n ∧ va_P D vwCl (cW k a q x_xo_lyingCount x_tape_length x_tape_next x_tape_kind x_tape_place x_tape_number x_tape_faultKind x_tape_faultPlace x_told_turns x_told_mirror x_told_night x_told_draw x_told_herds x_told_irons x_told_beasts x_told_linesTold x_tfo_steps x_tfo_units x_draft_turns x_draft_mirror x_draft_night x_draft_draw x_draft_herds x_draft_irons x_draft_beasts x_draft_linesTold x_dfo_steps x_dfo_units x_lat_placements x_smi_irons x_smi_aim x_his_here x_his_undoable x_his_redoable x_book_placedCount x_wit_count x_wit_time n_tape_name B_xo_lying B_tape_bytes B_told_brands B_told_ironMarks B_told_homes B_told_births B_tfo_kinds B_tfo_numbers B_tfo_stack B_tfo_facts B_draft_brands B_draft_ironMarks B_draft_homes B_draft_births B_dfo_kinds B_dfo_numbers B_dfo_stack B_dfo_facts B_lat_lowHalves B_lat_highHalves B_lat_ways B_smi_placedIrons B_smi_within B_smi_costs B_his_isKept B_book_norms B_book_above B_book_heights B_book_placedBrands B_bea_firstGains B_bea_otherGains B_wit_burnings B_wit_strokes B_wit_wasOn B_wit_toldAt B_wit_untoldAt B_wit_on B_wit_off B_wit_firstCounts B_wit_secondCounts Ps Pd G_tape_wordNames G_told_herdNames G_told_ironNames G_told_beastNames G_draft_herdNames G_draft_ironNames G_draft_beastNames Ph Po Pg ex) H ∧ va_S A s.heap H locs ∧ lv_has ls 4 [(3, .int (mI z_49)), (0, .ref (a 31)), (1, .ref (a 19)), (2, .int (mI p1))] ∧ g = F0 m 2 ls []) ?_ _ ⟨0, _, by omega, rfl, hP, hS, lv_sub hl [0, 1, 2, 3] rfl, rfl⟩
  intro n_56 H locs g hI ih_57
  obtain ⟨z_49, ls, h2_0, mn_56, hP, hS, hl, rfl⟩ := hI
  refine lv_iload_n hx hb dX8_indexOfName_2 rfl (lv_at hl 0 rfl) ?_
  refine lv_iload_n hx hb dX8_indexOfName_3 rfl (lv_at hl 3 rfl) ?_
  refine sy_icmp_ge (tgt := 35) hx hb dX8_indexOfName_4 (by decide) (by omega) (by omega) (fun c_58 => ?_) (fun c_58 => ?_)
  · skip
    refine lv_iconst (v := mI (-1)) hx hb dX8_indexOfName_35 rfl ?_
    exact r_i hx hb hr hlocks dX8_indexOfName_36 hS ⟨by omega, hP⟩
  · skip
    refine lv_iload_n hx hb dX8_indexOfName_7 rfl (lv_at hl 0 rfl) ?_
    refine lv_aload_n hx hb dX8_indexOfName_8 rfl (lv_at hl 2 rfl) ?_
    refine cn_draft_herdNames hx hb hK hP dX8_indexOfName_9 ?_
    refine sy_icmp_ge (tgt := 35) hx hb dX8_indexOfName_10 (by decide) (by omega) (by decide) (fun c_59 => ?_) (fun c_59 => ?_)
    · skip
      refine lv_iconst (v := mI (-1)) hx hb dX8_indexOfName_35 rfl ?_
      exact r_i hx hb hr hlocks dX8_indexOfName_36 hS ⟨by omega, hP⟩
    · skip
      refine lv_aload_n hx hb dX8_indexOfName_13 rfl (lv_at hl 2 rfl) ?_
      refine lv_iload_n hx hb dX8_indexOfName_14 rfl (lv_at hl 0 rfl) ?_
      refine cl_draft_herdNames hx hb hK hP dX8_indexOfName_15 (by omega) (fun j_60 => ?_)
      refine lv_aload_n hx hb dX8_indexOfName_16 rfl (lv_at hl 1 rfl) ?_
      refine cg_reader_tape hx hb hts hown hK hP uw_2_16 dX8_indexOfName_17 ?_
      refine g_l (cDt hD) hS hA (g_V (own := "HideReader$TextReader") (As := []) (rest := [.long j_60]) hx hb hml hown hts hK hP (cDt hD) (kc_X7_name (l := l) (D := D) (k := k)) ck_X7_name iv_X7_name uw_3_193 (cv_tape hK hP) rfl hl.1 rfl (Nat.le_of_ble_eq_true rfl) dX8_indexOfName_20 ⟨Nat.le_of_ble_eq_true rfl, Nat.le_of_ble_eq_true rfl⟩ ⟨Nat.le_of_ble_eq_true rfl, Nat.le_of_ble_eq_true rfl⟩) (fun r_61 H locs hQ hS => ?_)
      have hP := hQ
      refine sy_lcmp hx hb dX8_indexOfName_23 (fun z_62 hz_62 => ?_)
      refine sy_if_ne (tgt := 29) hx hb dX8_indexOfName_24 (by decide) (by omega) (fun c_63 => ?_) (fun c_63 => ?_)
      · skip
        refine lv_iinc (v := mI (z_49 + 1)) (lv' := [(3, .int (mI (z_49 + 1))), (0, .ref (a 31)), (1, .ref (a 19)), (2, .int (mI p1))]) hx hb dX8_indexOfName_29 hl (k := 0) rfl (mI_ad rfl) (by decide) rfl (fun ls hl => ?_)
        refine lv_goto (tgt := 2) hx hb dX8_indexOfName_32 (by decide) ?_
        exact ih_57 _ _ _ _ (by omega) ⟨(z_49 + 1), _, by omega, rfl, hP, hS, lv_sub hl [0, 1, 2, 3] rfl, rfl⟩
      · skip
        refine lv_iload_n hx hb dX8_indexOfName_27 rfl (lv_at hl 0 rfl) ?_
        exact r_i hx hb hr hlocks dX8_indexOfName_28 hS ⟨by omega, hP⟩
set_option maxHeartbeats 4000000 in
set_option maxRecDepth 100000 in
theorem kc_X2_countUnit_dfo (h_x_dfo_units : 0 ≤ x_dfo_units ∧ x_dfo_units ≤ 30) : MetG l D k yX2_countUnit cX2_countUnit 1 (some .boolean) 0 [.ref (a 26)] (cW k a q x_xo_lyingCount x_tape_length x_tape_next x_tape_kind x_tape_place x_tape_number x_tape_faultKind x_tape_faultPlace x_told_turns x_told_mirror x_told_night x_told_draw x_told_herds x_told_irons x_told_beasts x_told_linesTold x_tfo_steps x_tfo_units x_draft_turns x_draft_mirror x_draft_night x_draft_draw x_draft_herds x_draft_irons x_draft_beasts x_draft_linesTold x_dfo_steps x_dfo_units x_lat_placements x_smi_irons x_smi_aim x_his_here x_his_undoable x_his_redoable x_book_placedCount x_wit_count x_wit_time n_tape_name B_xo_lying B_tape_bytes B_told_brands B_told_ironMarks B_told_homes B_told_births B_tfo_kinds B_tfo_numbers B_tfo_stack B_tfo_facts B_draft_brands B_draft_ironMarks B_draft_homes B_draft_births B_dfo_kinds B_dfo_numbers B_dfo_stack B_dfo_facts B_lat_lowHalves B_lat_highHalves B_lat_ways B_smi_placedIrons B_smi_within B_smi_costs B_his_isKept B_book_norms B_book_above B_book_heights B_book_placedBrands B_bea_firstGains B_bea_otherGains B_wit_burnings B_wit_strokes B_wit_wasOn B_wit_toldAt B_wit_untoldAt B_wit_on B_wit_off B_wit_firstCounts B_wit_secondCounts Ps Pd G_tape_wordNames G_told_herdNames G_told_ironNames G_told_beastNames G_draft_herdNames G_draft_ironNames G_draft_beastNames Ph Po Pg ex) (qGi (fun r0 H => ∃ (y_dfo_units : Int), (0 ≤ r0 ∧ r0 ≤ 1) ∧ (1 ≤ y_dfo_units ∧ y_dfo_units ≤ 30) ∧ (0 ≤ y_dfo_units - x_dfo_units) ∧ va_P D vwCl (cW k a q x_xo_lyingCount x_tape_length x_tape_next x_tape_kind x_tape_place x_tape_number x_tape_faultKind x_tape_faultPlace x_told_turns x_told_mirror x_told_night x_told_draw x_told_herds x_told_irons x_told_beasts x_told_linesTold x_tfo_steps x_tfo_units x_draft_turns x_draft_mirror x_draft_night x_draft_draw x_draft_herds x_draft_irons x_draft_beasts x_draft_linesTold x_dfo_steps y_dfo_units x_lat_placements x_smi_irons x_smi_aim x_his_here x_his_undoable x_his_redoable x_book_placedCount x_wit_count x_wit_time n_tape_name B_xo_lying B_tape_bytes B_told_brands B_told_ironMarks B_told_homes B_told_births B_tfo_kinds B_tfo_numbers B_tfo_stack B_tfo_facts B_draft_brands B_draft_ironMarks B_draft_homes B_draft_births B_dfo_kinds B_dfo_numbers B_dfo_stack B_dfo_facts B_lat_lowHalves B_lat_highHalves B_lat_ways B_smi_placedIrons B_smi_within B_smi_costs B_his_isKept B_book_norms B_book_above B_book_heights B_book_placedBrands B_bea_firstGains B_bea_otherGains B_wit_burnings B_wit_strokes B_wit_wasOn B_wit_toldAt B_wit_untoldAt B_wit_on B_wit_off B_wit_firstCounts B_wit_secondCounts Ps Pd G_tape_wordNames G_told_herdNames G_told_ironNames G_told_beastNames G_draft_herdNames G_draft_ironNames G_draft_beastNames Ph Po Pg ex) H)) := by
  refine metG_of 0 ck_X2_countUnit (Nat.le_of_ble_eq_true rfl) cMap (fun p e s m args below meth c A hx hb hml hr hlocks hown hts hK hD hA hP hS ls hl => ?_)
  have hown : s.vm.findClass "HideReader$Formula" = some m.cls := hown
  have hl : lv_has ls 1 [(0, .ref (a 26))] := hl
  refine lv_aload_n hx hb dX2_countUnit_0 rfl (lv_at hl 0 rfl) ?_
  refine cg_dfo_units hx hb hts hown hK hP uw_1_141 dX2_countUnit_1 ?_
  refine lv_bipush (v := mI 30) hx hb dX2_countUnit_4 (by decide) ?_
  refine sy_icmp_lt (tgt := 11) hx hb dX2_countUnit_6 (by decide) (by omega) (by decide) (fun c_1 => ?_) (fun c_1 => ?_)
  · skip
    refine lv_aload_n hx hb dX2_countUnit_11 rfl (lv_at hl 0 rfl) ?_
    refine lv_dup hx hb dX2_countUnit_12 rfl ?_
    refine cg_dfo_units hx hb hts hown hK hP uw_1_141 dX2_countUnit_13 ?_
    refine lv_iconst (v := mI 1) hx hb dX2_countUnit_16 rfl ?_
    refine sy_iadd hx hb dX2_countUnit_17 (x_dfo_units + 1) rfl ?_
    refine cp_dfo_units hx hb hts hown hK hP hD hS uw_1_141 dX2_countUnit_18 (fun H locs hP hS => ?_)
    refine lv_iconst (v := mI 1) hx hb dX2_countUnit_21 rfl ?_
    exact r_z hx hb hr hlocks dX2_countUnit_22 hS (by decide) ⟨(x_dfo_units + 1), by omega, by omega, by omega, hP⟩
  · skip
    refine lv_iconst (v := mI 0) hx hb dX2_countUnit_9 rfl ?_
    exact r_z hx hb hr hlocks dX2_countUnit_10 hS (by decide) ⟨x_dfo_units, by omega, by omega, by omega, hP⟩
set_option maxHeartbeats 4000000 in
set_option maxRecDepth 100000 in
theorem kc_X8_isTermSign {p0 : Int} (hp0 : -2147483648 ≤ p0 ∧ p0 ≤ 2147483647) : MetG l D k yX8_isTermSign cX8_isTermSign 1 (some .boolean) 0 [.int (mI p0)] (cW k a q x_xo_lyingCount x_tape_length x_tape_next x_tape_kind x_tape_place x_tape_number x_tape_faultKind x_tape_faultPlace x_told_turns x_told_mirror x_told_night x_told_draw x_told_herds x_told_irons x_told_beasts x_told_linesTold x_tfo_steps x_tfo_units x_draft_turns x_draft_mirror x_draft_night x_draft_draw x_draft_herds x_draft_irons x_draft_beasts x_draft_linesTold x_dfo_steps x_dfo_units x_lat_placements x_smi_irons x_smi_aim x_his_here x_his_undoable x_his_redoable x_book_placedCount x_wit_count x_wit_time n_tape_name B_xo_lying B_tape_bytes B_told_brands B_told_ironMarks B_told_homes B_told_births B_tfo_kinds B_tfo_numbers B_tfo_stack B_tfo_facts B_draft_brands B_draft_ironMarks B_draft_homes B_draft_births B_dfo_kinds B_dfo_numbers B_dfo_stack B_dfo_facts B_lat_lowHalves B_lat_highHalves B_lat_ways B_smi_placedIrons B_smi_within B_smi_costs B_his_isKept B_book_norms B_book_above B_book_heights B_book_placedBrands B_bea_firstGains B_bea_otherGains B_wit_burnings B_wit_strokes B_wit_wasOn B_wit_toldAt B_wit_untoldAt B_wit_on B_wit_off B_wit_firstCounts B_wit_secondCounts Ps Pd G_tape_wordNames G_told_herdNames G_told_ironNames G_told_beastNames G_draft_herdNames G_draft_ironNames G_draft_beastNames Ph Po Pg ex) (qGi (fun r0 H => ((r0 = 1 ∧ (37 ≤ p0 ∧ p0 ≤ 47) ∧ ((p0 = 42) ∨ (p0 ≠ 42 ∧ p0 = 47) ∨ (p0 ≠ 42 ∧ p0 ≠ 47 ∧ p0 = 37))) ∨ (r0 = 0 ∧ (¬ p0 = 42) ∧ (¬ p0 = 47) ∧ (¬ p0 = 37))) ∧ va_P D vwCl (cW k a q x_xo_lyingCount x_tape_length x_tape_next x_tape_kind x_tape_place x_tape_number x_tape_faultKind x_tape_faultPlace x_told_turns x_told_mirror x_told_night x_told_draw x_told_herds x_told_irons x_told_beasts x_told_linesTold x_tfo_steps x_tfo_units x_draft_turns x_draft_mirror x_draft_night x_draft_draw x_draft_herds x_draft_irons x_draft_beasts x_draft_linesTold x_dfo_steps x_dfo_units x_lat_placements x_smi_irons x_smi_aim x_his_here x_his_undoable x_his_redoable x_book_placedCount x_wit_count x_wit_time n_tape_name B_xo_lying B_tape_bytes B_told_brands B_told_ironMarks B_told_homes B_told_births B_tfo_kinds B_tfo_numbers B_tfo_stack B_tfo_facts B_draft_brands B_draft_ironMarks B_draft_homes B_draft_births B_dfo_kinds B_dfo_numbers B_dfo_stack B_dfo_facts B_lat_lowHalves B_lat_highHalves B_lat_ways B_smi_placedIrons B_smi_within B_smi_costs B_his_isKept B_book_norms B_book_above B_book_heights B_book_placedBrands B_bea_firstGains B_bea_otherGains B_wit_burnings B_wit_strokes B_wit_wasOn B_wit_toldAt B_wit_untoldAt B_wit_on B_wit_off B_wit_firstCounts B_wit_secondCounts Ps Pd G_tape_wordNames G_told_herdNames G_told_ironNames G_told_beastNames G_draft_herdNames G_draft_ironNames G_draft_beastNames Ph Po Pg ex) H)) := by
  refine metG_of 1 ck_X8_isTermSign (Nat.le_of_ble_eq_true rfl) cMap (fun p e s m args below meth c A hx hb hml hr hlocks hown hts hK hD hA hP hS ls hl => ?_)
  have hown : s.vm.findClass "HideReader$TextReader" = some m.cls := hown
  have hl : lv_has ls 1 [(0, .int (mI p0))] := hl
  refine lv_iload_n hx hb dX8_isTermSign_0 rfl (lv_at hl 0 rfl) ?_
  refine lv_bipush (v := mI 42) hx hb dX8_isTermSign_1 (by decide) ?_
  refine sy_icmp_eq (tgt := 18) hx hb dX8_isTermSign_3 (by decide) (by omega) (by decide) (fun c_1 => ?_) (fun c_1 => ?_)
  · skip
    refine lv_iconst (v := mI 1) hx hb dX8_isTermSign_18 rfl ?_
    refine lv_goto (tgt := 23) hx hb dX8_isTermSign_19 (by decide) ?_
    exact r_z hx hb hr hlocks dX8_isTermSign_23 hS (by decide) ⟨Or.inl (⟨rfl, by omega, by omega⟩), hP⟩
  · skip
    refine lv_iload_n hx hb dX8_isTermSign_6 rfl (lv_at hl 0 rfl) ?_
    refine lv_bipush (v := mI 47) hx hb dX8_isTermSign_7 (by decide) ?_
    refine sy_icmp_eq (tgt := 18) hx hb dX8_isTermSign_9 (by decide) (by omega) (by decide) (fun c_2 => ?_) (fun c_2 => ?_)
    · skip
      refine lv_iconst (v := mI 1) hx hb dX8_isTermSign_18 rfl ?_
      refine lv_goto (tgt := 23) hx hb dX8_isTermSign_19 (by decide) ?_
      exact r_z hx hb hr hlocks dX8_isTermSign_23 hS (by decide) ⟨Or.inl (⟨rfl, by omega, by omega⟩), hP⟩
    · skip
      refine lv_iload_n hx hb dX8_isTermSign_12 rfl (lv_at hl 0 rfl) ?_
      refine lv_bipush (v := mI 37) hx hb dX8_isTermSign_13 (by decide) ?_
      refine sy_icmp_ne (tgt := 22) hx hb dX8_isTermSign_15 (by decide) (by omega) (by decide) (fun c_3 => ?_) (fun c_3 => ?_)
      · skip
        refine lv_iconst (v := mI 0) hx hb dX8_isTermSign_22 rfl ?_
        exact r_z hx hb hr hlocks dX8_isTermSign_23 hS (by decide) ⟨Or.inr (⟨rfl, by omega, by omega, by omega⟩), hP⟩
      · skip
        refine lv_iconst (v := mI 1) hx hb dX8_isTermSign_18 rfl ?_
        refine lv_goto (tgt := 23) hx hb dX8_isTermSign_19 (by decide) ?_
        exact r_z hx hb hr hlocks dX8_isTermSign_23 hS (by decide) ⟨Or.inl (⟨rfl, by omega, by omega⟩), hP⟩
end Kc
