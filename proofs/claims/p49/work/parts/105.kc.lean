section Kc
variable {l : Launch} {D : va_G} {k : Nat → ClassId} {a : Nat → Nat} {ex : va_W} {x_xo_lyingCount x_tape_length x_tape_next x_tape_kind x_tape_place x_tape_number x_tape_faultKind x_tape_faultPlace x_told_turns x_told_mirror x_told_night x_told_draw x_told_herds x_told_irons x_told_beasts x_told_linesTold x_tfo_steps x_tfo_units x_draft_turns x_draft_mirror x_draft_night x_draft_draw x_draft_herds x_draft_irons x_draft_beasts x_draft_linesTold x_dfo_steps x_dfo_units x_lat_placements x_smi_irons x_smi_aim x_his_here x_his_undoable x_his_redoable x_book_placedCount x_wit_count x_wit_time : Int} {n_tape_name : Int64} {B_xo_lying B_tape_bytes B_told_brands B_told_ironMarks B_told_homes B_told_births B_tfo_kinds B_tfo_numbers B_tfo_stack B_tfo_facts B_draft_brands B_draft_ironMarks B_draft_homes B_draft_births B_dfo_kinds B_dfo_numbers B_dfo_stack B_dfo_facts B_lat_lowHalves B_lat_highHalves B_lat_ways B_smi_placedIrons B_smi_within B_smi_costs B_his_isKept B_book_norms B_book_above B_book_heights B_book_placedBrands B_bea_firstGains B_bea_otherGains B_wit_burnings B_wit_strokes B_wit_wasOn B_wit_toldAt B_wit_untoldAt B_wit_on B_wit_off B_wit_firstCounts B_wit_secondCounts Ps Pd : Nat → Int} {G_tape_wordNames G_told_herdNames G_told_ironNames G_told_beastNames G_draft_herdNames G_draft_ironNames G_draft_beastNames : Nat → Int64} {Ph Po Pg : Nat → Nat → Int} {q : Nat → Nat}
set_option maxHeartbeats 4000000 in
set_option maxRecDepth 100000 in
theorem kc_X0_tellingStroke {i0 : Nat} (hi0 : i0 < 44) (h_x_told_beasts : 0 ≤ x_told_beasts ∧ x_told_beasts ≤ 8) (b_Ph : pb (0) 4095 Ph) : MetG l D k yX0_tellingStroke cX0_tellingStroke 7 (some .int) 1 [.ref (a 49), .ref (q (4 * i0))] (cW k a q x_xo_lyingCount x_tape_length x_tape_next x_tape_kind x_tape_place x_tape_number x_tape_faultKind x_tape_faultPlace x_told_turns x_told_mirror x_told_night x_told_draw x_told_herds x_told_irons x_told_beasts x_told_linesTold x_tfo_steps x_tfo_units x_draft_turns x_draft_mirror x_draft_night x_draft_draw x_draft_herds x_draft_irons x_draft_beasts x_draft_linesTold x_dfo_steps x_dfo_units x_lat_placements x_smi_irons x_smi_aim x_his_here x_his_undoable x_his_redoable x_book_placedCount x_wit_count x_wit_time n_tape_name B_xo_lying B_tape_bytes B_told_brands B_told_ironMarks B_told_homes B_told_births B_tfo_kinds B_tfo_numbers B_tfo_stack B_tfo_facts B_draft_brands B_draft_ironMarks B_draft_homes B_draft_births B_dfo_kinds B_dfo_numbers B_dfo_stack B_dfo_facts B_lat_lowHalves B_lat_highHalves B_lat_ways B_smi_placedIrons B_smi_within B_smi_costs B_his_isKept B_book_norms B_book_above B_book_heights B_book_placedBrands B_bea_firstGains B_bea_otherGains B_wit_burnings B_wit_strokes B_wit_wasOn B_wit_toldAt B_wit_untoldAt B_wit_on B_wit_off B_wit_firstCounts B_wit_secondCounts Ps Pd G_tape_wordNames G_told_herdNames G_told_ironNames G_told_beastNames G_draft_herdNames G_draft_ironNames G_draft_beastNames Ph Po Pg ex) (qGi (fun r0 H => (-1 ≤ r0 ∧ r0 ≤ 11) ∧ va_P D vwCl (cW k a q x_xo_lyingCount x_tape_length x_tape_next x_tape_kind x_tape_place x_tape_number x_tape_faultKind x_tape_faultPlace x_told_turns x_told_mirror x_told_night x_told_draw x_told_herds x_told_irons x_told_beasts x_told_linesTold x_tfo_steps x_tfo_units x_draft_turns x_draft_mirror x_draft_night x_draft_draw x_draft_herds x_draft_irons x_draft_beasts x_draft_linesTold x_dfo_steps x_dfo_units x_lat_placements x_smi_irons x_smi_aim x_his_here x_his_undoable x_his_redoable x_book_placedCount x_wit_count x_wit_time n_tape_name B_xo_lying B_tape_bytes B_told_brands B_told_ironMarks B_told_homes B_told_births B_tfo_kinds B_tfo_numbers B_tfo_stack B_tfo_facts B_draft_brands B_draft_ironMarks B_draft_homes B_draft_births B_dfo_kinds B_dfo_numbers B_dfo_stack B_dfo_facts B_lat_lowHalves B_lat_highHalves B_lat_ways B_smi_placedIrons B_smi_within B_smi_costs B_his_isKept B_book_norms B_book_above B_book_heights B_book_placedBrands B_bea_firstGains B_bea_otherGains B_wit_burnings B_wit_strokes B_wit_wasOn B_wit_toldAt B_wit_untoldAt B_wit_on B_wit_off B_wit_firstCounts B_wit_secondCounts Ps Pd G_tape_wordNames G_told_herdNames G_told_ironNames G_told_beastNames G_draft_herdNames G_draft_ironNames G_draft_beastNames Ph Po Pg ex) H)) := by
  refine metG_of 1 ck_X0_tellingStroke (Nat.le_of_ble_eq_true rfl) cMap (fun p e s m args below meth c A hx hb hml hr hlocks hown hts hK hD hA hP hS ls hl => ?_)
  have hown : s.vm.findClass "HideReader$Beasts" = some m.cls := hown
  have hl : lv_has ls 7 [(0, .ref (a 49)), (1, .ref (q (4 * i0)))] := hl
  refine lv_iconst (v := mI (-1)) hx hb dX0_tellingStroke_0 rfl ?_
  refine lv_istore_n (lv' := [(2, .int (mI (-1))), (0, .ref (a 49)), (1, .ref (q (4 * i0)))]) hx hb dX0_tellingStroke_1 rfl hl (by decide) rfl (fun ls hl => ?_)
  refine lv_aload_n hx hb dX0_tellingStroke_2 rfl (lv_at hl 1 rfl) ?_
  refine cg_bea_told hx hb hts hown hK hP uw_2_167 dX0_tellingStroke_3 ?_
  refine cg_told_beasts hx hb hts hown hK hP uw_1_180 dX0_tellingStroke_6 ?_
  refine lv_iconst (v := mI 1) hx hb dX0_tellingStroke_9 rfl ?_
  refine sy_iadd hx hb dX0_tellingStroke_10 (x_told_beasts + 1) rfl ?_
  refine lv_istore_n (lv' := [(3, .int (mI (x_told_beasts + 1))), (2, .int (mI (-1))), (0, .ref (a 49)), (1, .ref (q (4 * i0)))]) hx hb dX0_tellingStroke_11 rfl hl (by decide) rfl (fun ls hl => ?_)
  refine lv_iconst (v := mI 0) hx hb dX0_tellingStroke_12 rfl ?_
  refine lv_istore (lv' := [(4, .int (mI 0)), (3, .int (mI (x_told_beasts + 1))), (2, .int (mI (-1))), (0, .ref (a 49)), (1, .ref (q (4 * i0)))]) hx hb dX0_tellingStroke_13 hl (by decide) rfl (fun ls hl => ?_)
  refine sy_loop (I := fun n H locs g => ∃ (z_1766 : Int) (z_1767 : Int) (z_1768 : Int) (ls : Array Slot), (0 ≤ z_1766 ∧ z_1766 ≤ 12) ∧ (-2147483648 ≤ z_1767 ∧ z_1767 ≤ 9) ∧ (-1 ≤ z_1768 ∧ z_1768 ≤ 11) ∧ (0 ≤ z_1766 - z_1768) ∧ (0 ≤ x_told_beasts - z_1767 + 1) ∧ (12 - z_1766).toNat = n ∧ va_P D vwCl (cW k a q x_xo_lyingCount x_tape_length x_tape_next x_tape_kind x_tape_place x_tape_number x_tape_faultKind x_tape_faultPlace x_told_turns x_told_mirror x_told_night x_told_draw x_told_herds x_told_irons x_told_beasts x_told_linesTold x_tfo_steps x_tfo_units x_draft_turns x_draft_mirror x_draft_night x_draft_draw x_draft_herds x_draft_irons x_draft_beasts x_draft_linesTold x_dfo_steps x_dfo_units x_lat_placements x_smi_irons x_smi_aim x_his_here x_his_undoable x_his_redoable x_book_placedCount x_wit_count x_wit_time n_tape_name B_xo_lying B_tape_bytes B_told_brands B_told_ironMarks B_told_homes B_told_births B_tfo_kinds B_tfo_numbers B_tfo_stack B_tfo_facts B_draft_brands B_draft_ironMarks B_draft_homes B_draft_births B_dfo_kinds B_dfo_numbers B_dfo_stack B_dfo_facts B_lat_lowHalves B_lat_highHalves B_lat_ways B_smi_placedIrons B_smi_within B_smi_costs B_his_isKept B_book_norms B_book_above B_book_heights B_book_placedBrands B_bea_firstGains B_bea_otherGains B_wit_burnings B_wit_strokes B_wit_wasOn B_wit_toldAt B_wit_untoldAt B_wit_on B_wit_off B_wit_firstCounts B_wit_secondCounts Ps Pd G_tape_wordNames G_told_herdNames G_told_ironNames G_told_beastNames G_draft_herdNames G_draft_ironNames G_draft_beastNames Ph Po Pg ex) H ∧ va_S A s.heap H locs ∧ lv_has ls 7 [(4, .int (mI z_1766)), (3, .int (mI z_1767)), (2, .int (mI z_1768)), (0, .ref (a 49)), (1, .ref (q (4 * i0)))] ∧ g = F0 m 15 ls []) ?_ _ ⟨0, (x_told_beasts + 1), (-1), _, by omega, by omega, by omega, by omega, by omega, rfl, hP, hS, lv_sub hl [0, 1, 2, 3, 4] rfl, rfl⟩
  intro n_1902 H locs g hI ih_1903
  obtain ⟨z_1766, z_1767, z_1768, ls, h15_0, h15_1, h15_2, h15_3, h15_4, mn_1902, hP, hS, hl, rfl⟩ := hI
  refine lv_iload hx hb dX0_tellingStroke_15 (lv_at hl 0 rfl) ?_
  refine lv_bipush (v := mI 12) hx hb dX0_tellingStroke_17 (by decide) ?_
  refine sy_icmp_ge (tgt := 108) hx hb dX0_tellingStroke_19 (by decide) (by omega) (by decide) (fun c_1904 => ?_) (fun c_1904 => ?_)
  · skip
    refine lv_iload_n hx hb dX0_tellingStroke_108 rfl (lv_at hl 2 rfl) ?_
    exact r_i hx hb hr hlocks dX0_tellingStroke_109 hS ⟨by omega, hP⟩
  · skip
    refine lv_aload_n hx hb dX0_tellingStroke_22 rfl (lv_at hl 3 rfl) ?_
    refine cg_bea_told hx hb hts hown hK hP uw_2_167 dX0_tellingStroke_23 ?_
    refine cg_told_beasts hx hb hts hown hK hP uw_1_180 dX0_tellingStroke_26 ?_
    refine sy_if_le (tgt := 108) hx hb dX0_tellingStroke_29 (by decide) (by omega) (fun c_1905 => ?_) (fun c_1905 => ?_)
    · skip
      refine lv_iload_n hx hb dX0_tellingStroke_108 rfl (lv_at hl 2 rfl) ?_
      exact r_i hx hb hr hlocks dX0_tellingStroke_109 hS ⟨by omega, hP⟩
    · skip
      refine lv_iconst (v := mI 0) hx hb dX0_tellingStroke_32 rfl ?_
      refine lv_istore (lv' := [(5, .int (mI 0)), (4, .int (mI z_1766)), (3, .int (mI z_1767)), (2, .int (mI z_1768)), (0, .ref (a 49)), (1, .ref (q (4 * i0)))]) hx hb dX0_tellingStroke_33 hl (by decide) rfl (fun ls hl => ?_)
      refine lv_iconst (v := mI 0) hx hb dX0_tellingStroke_35 rfl ?_
      refine lv_istore (lv' := [(6, .int (mI 0)), (5, .int (mI 0)), (4, .int (mI z_1766)), (3, .int (mI z_1767)), (2, .int (mI z_1768)), (0, .ref (a 49)), (1, .ref (q (4 * i0)))]) hx hb dX0_tellingStroke_36 hl (by decide) rfl (fun ls hl => ?_)
      refine sy_loop (I := fun n H locs g => ∃ (z_2013 : Int) (z_2014 : Int) (ls : Array Slot), (0 ≤ z_2013 ∧ z_2013 ≤ 8) ∧ (0 ≤ z_2014 ∧ z_2014 ≤ 8) ∧ (0 ≤ z_2013 - z_2014) ∧ (8 - z_2013).toNat = n ∧ va_P D vwCl (cW k a q x_xo_lyingCount x_tape_length x_tape_next x_tape_kind x_tape_place x_tape_number x_tape_faultKind x_tape_faultPlace x_told_turns x_told_mirror x_told_night x_told_draw x_told_herds x_told_irons x_told_beasts x_told_linesTold x_tfo_steps x_tfo_units x_draft_turns x_draft_mirror x_draft_night x_draft_draw x_draft_herds x_draft_irons x_draft_beasts x_draft_linesTold x_dfo_steps x_dfo_units x_lat_placements x_smi_irons x_smi_aim x_his_here x_his_undoable x_his_redoable x_book_placedCount x_wit_count x_wit_time n_tape_name B_xo_lying B_tape_bytes B_told_brands B_told_ironMarks B_told_homes B_told_births B_tfo_kinds B_tfo_numbers B_tfo_stack B_tfo_facts B_draft_brands B_draft_ironMarks B_draft_homes B_draft_births B_dfo_kinds B_dfo_numbers B_dfo_stack B_dfo_facts B_lat_lowHalves B_lat_highHalves B_lat_ways B_smi_placedIrons B_smi_within B_smi_costs B_his_isKept B_book_norms B_book_above B_book_heights B_book_placedBrands B_bea_firstGains B_bea_otherGains B_wit_burnings B_wit_strokes B_wit_wasOn B_wit_toldAt B_wit_untoldAt B_wit_on B_wit_off B_wit_firstCounts B_wit_secondCounts Ps Pd G_tape_wordNames G_told_herdNames G_told_ironNames G_told_beastNames G_draft_herdNames G_draft_ironNames G_draft_beastNames Ph Po Pg ex) H ∧ va_S A s.heap H locs ∧ lv_has ls 7 [(6, .int (mI z_2013)), (5, .int (mI z_2014)), (4, .int (mI z_1766)), (3, .int (mI z_1767)), (2, .int (mI z_1768)), (0, .ref (a 49)), (1, .ref (q (4 * i0)))] ∧ g = F0 m 38 ls []) ?_ _ ⟨0, 0, _, by omega, by omega, by omega, rfl, hP, hS, lv_sub hl [0, 1, 2, 3, 4, 5, 6] rfl, rfl⟩
      intro n_2025 H locs g hI ih_2026
      obtain ⟨z_2013, z_2014, ls, h38_0, h38_1, h38_2, mn_2025, hP, hS, hl, rfl⟩ := hI
      refine lv_iload hx hb dX0_tellingStroke_38 (lv_at hl 0 rfl) ?_
      refine lv_aload_n hx hb dX0_tellingStroke_40 rfl (lv_at hl 5 rfl) ?_
      refine cg_bea_told hx hb hts hown hK hP uw_2_167 dX0_tellingStroke_41 ?_
      refine cg_told_beasts hx hb hts hown hK hP uw_1_180 dX0_tellingStroke_44 ?_
      refine sy_icmp_ge (tgt := 73) hx hb dX0_tellingStroke_47 (by decide) (by omega) (by omega) (fun c_2031 => ?_) (fun c_2031 => ?_)
      · skip
        refine lv_iconst (v := mI 2) hx hb dX0_tellingStroke_73 rfl ?_
        refine lv_iload hx hb dX0_tellingStroke_74 (lv_at hl 1 rfl) ?_
        refine sy_imul hx hb dX0_tellingStroke_76 (2 * z_2014) rfl ?_
        refine lv_aload_n hx hb dX0_tellingStroke_77 rfl (lv_at hl 5 rfl) ?_
        refine cg_bea_told hx hb hts hown hK hP uw_2_167 dX0_tellingStroke_78 ?_
        refine cg_told_beasts hx hb hts hown hK hP uw_1_180 dX0_tellingStroke_81 ?_
        refine sy_isub hx hb dX0_tellingStroke_84 (2 * z_2014 - x_told_beasts) rfl ?_
        refine va_mabs hx hb (hml.trans hl.1.symm) hown (hts _ uw_5_231) (hts _ uw_5_232) (hts _ uw_1_18) (hts _ uw_5_233) (Nat.le_of_ble_eq_true rfl) (Nat.le_of_ble_eq_true rfl) (Nat.le_of_ble_eq_true rfl) (Nat.le_of_ble_eq_true rfl) dX0_tellingStroke_85 ?_
        refine sy_any (fun z_2032 hz_2032 => ?_)
        refine lv_istore (lv' := [(6, .int (mI z_2032)), (5, .int (mI z_2014)), (4, .int (mI z_1766)), (3, .int (mI z_1767)), (2, .int (mI z_1768)), (0, .ref (a 49)), (1, .ref (q (4 * i0)))]) hx hb dX0_tellingStroke_88 hl (by decide) rfl (fun ls hl => ?_)
        refine lv_iload hx hb dX0_tellingStroke_90 (lv_at hl 0 rfl) ?_
        refine lv_iload_n hx hb dX0_tellingStroke_92 rfl (lv_at hl 3 rfl) ?_
        refine sy_icmp_ge (tgt := 102) hx hb dX0_tellingStroke_93 (by decide) (by omega) (by omega) (fun c_2033 => ?_) (fun c_2033 => ?_)
        · skip
          refine lv_iinc (v := mI (z_1766 + 1)) (lv' := [(4, .int (mI (z_1766 + 1))), (6, .int (mI z_2032)), (5, .int (mI z_2014)), (3, .int (mI z_1767)), (2, .int (mI z_1768)), (0, .ref (a 49)), (1, .ref (q (4 * i0)))]) hx hb dX0_tellingStroke_102 hl (k := 2) rfl (mI_ad rfl) (by decide) rfl (fun ls hl => ?_)
          refine lv_goto (tgt := 15) hx hb dX0_tellingStroke_105 (by decide) ?_
          exact ih_1903 _ _ _ _ (by omega) ⟨(z_1766 + 1), z_1767, z_1768, _, by omega, by omega, by omega, by omega, by omega, rfl, hP, hS, lv_sub hl [0, 3, 4, 5, 6] rfl, rfl⟩
        · skip
          refine lv_iload hx hb dX0_tellingStroke_96 (lv_at hl 2 rfl) ?_
          refine lv_istore_n (lv' := [(2, .int (mI z_1766)), (6, .int (mI z_2032)), (5, .int (mI z_2014)), (4, .int (mI z_1766)), (3, .int (mI z_1767)), (0, .ref (a 49)), (1, .ref (q (4 * i0)))]) hx hb dX0_tellingStroke_98 rfl hl (by decide) rfl (fun ls hl => ?_)
          refine lv_iload hx hb dX0_tellingStroke_99 (lv_at hl 1 rfl) ?_
          refine lv_istore_n (lv' := [(3, .int (mI z_2032)), (2, .int (mI z_1766)), (6, .int (mI z_2032)), (5, .int (mI z_2014)), (4, .int (mI z_1766)), (0, .ref (a 49)), (1, .ref (q (4 * i0)))]) hx hb dX0_tellingStroke_101 rfl hl (by decide) rfl (fun ls hl => ?_)
          refine lv_iinc (v := mI (z_1766 + 1)) (lv' := [(4, .int (mI (z_1766 + 1))), (3, .int (mI z_2032)), (2, .int (mI z_1766)), (6, .int (mI z_2032)), (5, .int (mI z_2014)), (0, .ref (a 49)), (1, .ref (q (4 * i0)))]) hx hb dX0_tellingStroke_102 hl (k := 4) rfl (mI_ad rfl) (by decide) rfl (fun ls hl => ?_)
          refine lv_goto (tgt := 15) hx hb dX0_tellingStroke_105 (by decide) ?_
          exact ih_1903 _ _ _ _ (by omega) ⟨(z_1766 + 1), z_2032, z_1766, _, by omega, by omega, by omega, by omega, by omega, rfl, hP, hS, lv_sub hl [0, 1, 2, 5, 6] rfl, rfl⟩
      · skip
        refine lv_iload hx hb dX0_tellingStroke_50 (lv_at hl 1 rfl) ?_
        refine lv_aload_n hx hb dX0_tellingStroke_52 rfl (lv_at hl 6 rfl) ?_
        refine cg_past_hides (i := i0) (by omega) hx hb hts hown hK hP uw_2_87 dX0_tellingStroke_53 ?_
        refine lv_iload hx hb dX0_tellingStroke_56 (lv_at hl 0 rfl) ?_
        refine cl_past_hides (i := i0) (by omega) hx hb hK hP dX0_tellingStroke_58 (by omega) b_Ph (fun z_2034 _ hz_2034 => ?_)
        refine lv_iload hx hb dX0_tellingStroke_59 (lv_at hl 2 rfl) ?_
        refine sy_shrV hx hb dX0_tellingStroke_61 (by omega) (fun z_2035 hz_2035 => ?_)
        refine lv_iconst (v := mI 1) hx hb dX0_tellingStroke_62 rfl ?_
        refine sy_iandR hx hb dX0_tellingStroke_63 (by decide) (fun z_2036 hz_2036 => ?_)
        refine sy_iadd hx hb dX0_tellingStroke_64 (z_2014 + z_2036) rfl ?_
        refine lv_istore (lv' := [(5, .int (mI (z_2014 + z_2036))), (6, .int (mI z_2013)), (4, .int (mI z_1766)), (3, .int (mI z_1767)), (2, .int (mI z_1768)), (0, .ref (a 49)), (1, .ref (q (4 * i0)))]) hx hb dX0_tellingStroke_65 hl (by decide) rfl (fun ls hl => ?_)
        refine lv_iinc (v := mI (z_2013 + 1)) (lv' := [(6, .int (mI (z_2013 + 1))), (5, .int (mI (z_2014 + z_2036))), (4, .int (mI z_1766)), (3, .int (mI z_1767)), (2, .int (mI z_1768)), (0, .ref (a 49)), (1, .ref (q (4 * i0)))]) hx hb dX0_tellingStroke_67 hl (k := 1) rfl (mI_ad rfl) (by decide) rfl (fun ls hl => ?_)
        refine lv_goto (tgt := 38) hx hb dX0_tellingStroke_70 (by decide) ?_
        exact ih_2026 _ _ _ _ (by omega) ⟨(z_2013 + 1), (z_2014 + z_2036), _, by omega, by omega, by omega, rfl, hP, hS, lv_sub hl [0, 1, 2, 3, 4, 5, 6] rfl, rfl⟩
set_option maxHeartbeats 4000000 in
set_option maxRecDepth 100000 in
theorem kc_X0_fillGains_bea_past_bea_firstGains {p1 : Int} {i0 : Nat} (hi0 : i0 < 44) (hp1 : 0 ≤ p1 ∧ p1 ≤ 7) (h_x_told_herds : 0 ≤ x_told_herds ∧ x_told_herds ≤ 8) (h_x_told_beasts : 0 ≤ x_told_beasts ∧ x_told_beasts ≤ 8) (h_x_lat_placements : 1 ≤ x_lat_placements ∧ x_lat_placements ≤ 8) (h_x_smi_irons : 0 ≤ x_smi_irons ∧ x_smi_irons ≤ 6) (h_x_smi_aim : -2147483648 ≤ x_smi_aim ∧ x_smi_aim ≤ 2147483647) (b_B_told_brands : bd (-2147483648) 2147483647 B_told_brands) (b_B_lat_lowHalves : bd (0) 4095 B_lat_lowHalves) (b_B_lat_highHalves : bd (0) 4095 B_lat_highHalves) (b_B_lat_ways : bd (0) 7 B_lat_ways) (b_B_smi_placedIrons : bd (0) 4095 B_smi_placedIrons) (b_B_smi_within : bd (0) 4095 B_smi_within) (b_B_smi_costs : bd (-128) 127 B_smi_costs) (b_B_bea_firstGains : bd (-2147483648) 2147483647 B_bea_firstGains) (b_Ph : pb (0) 4095 Ph) (g_T : tI x_told_herds x_told_beasts B_told_brands B_told_homes) (hr0 : 0 ≤ x_told_herds - p1 - 1) : MetG l D k yX0_fillGains cX0_fillGains 6 none 4 [.ref (a 49), .ref (q (4 * i0)), .int (mI p1), .ref (a 50)] (cW k a q x_xo_lyingCount x_tape_length x_tape_next x_tape_kind x_tape_place x_tape_number x_tape_faultKind x_tape_faultPlace x_told_turns x_told_mirror x_told_night x_told_draw x_told_herds x_told_irons x_told_beasts x_told_linesTold x_tfo_steps x_tfo_units x_draft_turns x_draft_mirror x_draft_night x_draft_draw x_draft_herds x_draft_irons x_draft_beasts x_draft_linesTold x_dfo_steps x_dfo_units x_lat_placements x_smi_irons x_smi_aim x_his_here x_his_undoable x_his_redoable x_book_placedCount x_wit_count x_wit_time n_tape_name B_xo_lying B_tape_bytes B_told_brands B_told_ironMarks B_told_homes B_told_births B_tfo_kinds B_tfo_numbers B_tfo_stack B_tfo_facts B_draft_brands B_draft_ironMarks B_draft_homes B_draft_births B_dfo_kinds B_dfo_numbers B_dfo_stack B_dfo_facts B_lat_lowHalves B_lat_highHalves B_lat_ways B_smi_placedIrons B_smi_within B_smi_costs B_his_isKept B_book_norms B_book_above B_book_heights B_book_placedBrands B_bea_firstGains B_bea_otherGains B_wit_burnings B_wit_strokes B_wit_wasOn B_wit_toldAt B_wit_untoldAt B_wit_on B_wit_off B_wit_firstCounts B_wit_secondCounts Ps Pd G_tape_wordNames G_told_herdNames G_told_ironNames G_told_beastNames G_draft_herdNames G_draft_ironNames G_draft_beastNames Ph Po Pg ex) (qGv (fun H => ∃ (F_smi_within : Nat → Int) (F_smi_costs : Nat → Int) (y_smi_aim : Int) (F_bea_firstGains : Nat → Int), (bd (0) 4095 F_smi_within) ∧ (bd (-128) 127 F_smi_costs) ∧ (-2147483648 ≤ y_smi_aim ∧ y_smi_aim ≤ 2147483647) ∧ (bd (-2147483648) 2147483647 F_bea_firstGains) ∧ va_P D vwCl (cW k a q x_xo_lyingCount x_tape_length x_tape_next x_tape_kind x_tape_place x_tape_number x_tape_faultKind x_tape_faultPlace x_told_turns x_told_mirror x_told_night x_told_draw x_told_herds x_told_irons x_told_beasts x_told_linesTold x_tfo_steps x_tfo_units x_draft_turns x_draft_mirror x_draft_night x_draft_draw x_draft_herds x_draft_irons x_draft_beasts x_draft_linesTold x_dfo_steps x_dfo_units x_lat_placements x_smi_irons y_smi_aim x_his_here x_his_undoable x_his_redoable x_book_placedCount x_wit_count x_wit_time n_tape_name B_xo_lying B_tape_bytes B_told_brands B_told_ironMarks B_told_homes B_told_births B_tfo_kinds B_tfo_numbers B_tfo_stack B_tfo_facts B_draft_brands B_draft_ironMarks B_draft_homes B_draft_births B_dfo_kinds B_dfo_numbers B_dfo_stack B_dfo_facts B_lat_lowHalves B_lat_highHalves B_lat_ways B_smi_placedIrons F_smi_within F_smi_costs B_his_isKept B_book_norms B_book_above B_book_heights B_book_placedBrands F_bea_firstGains B_bea_otherGains B_wit_burnings B_wit_strokes B_wit_wasOn B_wit_toldAt B_wit_untoldAt B_wit_on B_wit_off B_wit_firstCounts B_wit_secondCounts Ps Pd G_tape_wordNames G_told_herdNames G_told_ironNames G_told_beastNames G_draft_herdNames G_draft_ironNames G_draft_beastNames Ph Po Pg ex) H)) := by
  refine metG_of 3 ck_X0_fillGains (Nat.le_of_ble_eq_true rfl) cMap (fun p e s m args below meth c A hx hb hml hr hlocks hown hts hK hD hA hP hS ls hl => ?_)
  have hown : s.vm.findClass "HideReader$Beasts" = some m.cls := hown
  have hl : lv_has ls 6 [(0, .ref (a 49)), (1, .ref (q (4 * i0))), (2, .int (mI p1)), (3, .ref (a 50))] := hl
  refine lv_iconst (v := mI 0) hx hb dX0_fillGains_0 rfl ?_
  refine lv_istore (lv' := [(4, .int (mI 0)), (0, .ref (a 49)), (1, .ref (q (4 * i0))), (2, .int (mI p1)), (3, .ref (a 50))]) hx hb dX0_fillGains_1 hl (by decide) rfl (fun ls hl => ?_)
  refine sy_loop (I := fun n H locs g => ∃ (z_116 : Int) (F_117 : Nat → Int) (F_118 : Nat → Int) (y_119 : Int) (F_120 : Nat → Int) (ls : Array Slot), (0 ≤ z_116 ∧ z_116 ≤ 8) ∧ (bd (0) 4095 F_117) ∧ (bd (-128) 127 F_118) ∧ (-2147483648 ≤ y_119 ∧ y_119 ≤ 2147483647) ∧ (bd (-2147483648) 2147483647 F_120) ∧ (8 - z_116).toNat = n ∧ va_P D vwCl (cW k a q x_xo_lyingCount x_tape_length x_tape_next x_tape_kind x_tape_place x_tape_number x_tape_faultKind x_tape_faultPlace x_told_turns x_told_mirror x_told_night x_told_draw x_told_herds x_told_irons x_told_beasts x_told_linesTold x_tfo_steps x_tfo_units x_draft_turns x_draft_mirror x_draft_night x_draft_draw x_draft_herds x_draft_irons x_draft_beasts x_draft_linesTold x_dfo_steps x_dfo_units x_lat_placements x_smi_irons y_119 x_his_here x_his_undoable x_his_redoable x_book_placedCount x_wit_count x_wit_time n_tape_name B_xo_lying B_tape_bytes B_told_brands B_told_ironMarks B_told_homes B_told_births B_tfo_kinds B_tfo_numbers B_tfo_stack B_tfo_facts B_draft_brands B_draft_ironMarks B_draft_homes B_draft_births B_dfo_kinds B_dfo_numbers B_dfo_stack B_dfo_facts B_lat_lowHalves B_lat_highHalves B_lat_ways B_smi_placedIrons F_117 F_118 B_his_isKept B_book_norms B_book_above B_book_heights B_book_placedBrands F_120 B_bea_otherGains B_wit_burnings B_wit_strokes B_wit_wasOn B_wit_toldAt B_wit_untoldAt B_wit_on B_wit_off B_wit_firstCounts B_wit_secondCounts Ps Pd G_tape_wordNames G_told_herdNames G_told_ironNames G_told_beastNames G_draft_herdNames G_draft_ironNames G_draft_beastNames Ph Po Pg ex) H ∧ va_S A s.heap H locs ∧ lv_has ls 6 [(4, .int (mI z_116)), (0, .ref (a 49)), (1, .ref (q (4 * i0))), (2, .int (mI p1)), (3, .ref (a 50))] ∧ g = F0 m 3 ls []) ?_ _ ⟨0, B_smi_within, B_smi_costs, x_smi_aim, B_bea_firstGains, _, by omega, b_B_smi_within, b_B_smi_costs, by omega, b_B_bea_firstGains, rfl, hP, hS, lv_sub hl [0, 1, 2, 3, 4] rfl, rfl⟩
  intro n_131 H locs g hI ih_132
  obtain ⟨z_116, F_117, F_118, y_119, F_120, ls, h3_0, bF_117, bF_118, h3_3, bF_120, mn_131, hP, hS, hl, rfl⟩ := hI
  refine lv_iload hx hb dX0_fillGains_3 (lv_at hl 0 rfl) ?_
  refine lv_aload_n hx hb dX0_fillGains_5 rfl (lv_at hl 1 rfl) ?_
  refine cg_bea_told hx hb hts hown hK hP uw_2_167 dX0_fillGains_6 ?_
  refine cg_told_beasts hx hb hts hown hK hP uw_1_180 dX0_fillGains_9 ?_
  refine sy_icmp_ge (tgt := 65) hx hb dX0_fillGains_12 (by decide) (by omega) (by omega) (fun c_133 => ?_) (fun c_133 => ?_)
  · skip
    exact r_v hx hb hr hlocks dX0_fillGains_65 hS ⟨F_117, F_118, y_119, F_120, bF_117, bF_118, by omega, bF_120, hP⟩
  · skip
    refine lv_aload_n hx hb dX0_fillGains_15 rfl (lv_at hl 1 rfl) ?_
    refine cg_bea_smith hx hb hts hown hK hP uw_2_169 dX0_fillGains_16 ?_
    refine lv_aload_n hx hb dX0_fillGains_19 rfl (lv_at hl 2 rfl) ?_
    refine cg_past_hides (i := i0) (by omega) hx hb hts hown hK hP uw_2_87 dX0_fillGains_20 ?_
    refine lv_iload hx hb dX0_fillGains_23 (lv_at hl 0 rfl) ?_
    refine cl_past_hides (i := i0) (by omega) hx hb hK hP dX0_fillGains_25 (by omega) b_Ph (fun z_134 _ hz_134 => ?_)
    refine lv_aload_n hx hb dX0_fillGains_26 rfl (lv_at hl 1 rfl) ?_
    refine cg_bea_told hx hb hts hown hK hP uw_2_167 dX0_fillGains_27 ?_
    refine cg_told_brands hx hb hts hown hK hP uw_1_197 dX0_fillGains_30 ?_
    refine lv_iload_n hx hb dX0_fillGains_33 rfl (lv_at hl 3 rfl) ?_
    refine cl_told_brands hx hb hK hP dX0_fillGains_34 (by omega) b_B_told_brands (fun z_135 ez_135 hz_135 => ?_)
    have hz_135 := tI_b g_T (by omega) ez_135
    refine g_i (cDt hD) hS hA (g_V (own := "HideReader$Beasts") (As := [.int (mI z_134), .int (mI z_135)]) (rest := []) hx hb hml hown hts hK hP (cDt hD) (kc_X6_fewest (l := l) (D := D) (k := k) (by omega) (by omega) h_x_lat_placements h_x_smi_irons (by omega) b_B_lat_lowHalves b_B_lat_highHalves b_B_lat_ways b_B_smi_placedIrons bF_117 bF_118) ck_X6_fewest iv_X6_fewest uw_5_104 (cv_smi hK hP) rfl hl.1 rfl (Nat.le_of_ble_eq_true rfl) dX0_fillGains_35 ⟨Nat.le_of_ble_eq_true rfl, Nat.le_of_ble_eq_true rfl⟩ ⟨Nat.le_of_ble_eq_true rfl, Nat.le_of_ble_eq_true rfl⟩) (fun r_136 H locs hQ hS => ?_)
    obtain ⟨F_137, F_138, y_139, hr_136_0, bF_137, bF_138, hr_136_3, hP⟩ := hQ
    refine lv_istore (lv' := [(5, .int (mI r_136)), (4, .int (mI z_116)), (0, .ref (a 49)), (1, .ref (q (4 * i0))), (2, .int (mI p1)), (3, .ref (a 50))]) hx hb dX0_fillGains_38 hl (by decide) rfl (fun ls hl => ?_)
    refine lv_aload_n hx hb dX0_fillGains_40 rfl (lv_at hl 5 rfl) ?_
    refine lv_iload hx hb dX0_fillGains_41 (lv_at hl 1 rfl) ?_
    refine lv_iload hx hb dX0_fillGains_43 (lv_at hl 0 rfl) ?_
    refine lv_iconst (v := mI (-1)) hx hb dX0_fillGains_45 rfl ?_
    refine sy_icmp_ne (tgt := 53) hx hb dX0_fillGains_46 (by decide) (by omega) (by decide) (fun c_140 => ?_) (fun c_140 => ?_)
    · skip
      refine lv_bipush (v := mI 10) hx hb dX0_fillGains_53 (by decide) ?_
      refine lv_iload hx hb dX0_fillGains_55 (lv_at hl 0 rfl) ?_
      refine sy_isub hx hb dX0_fillGains_57 (-r_136 + 10) (by omega) ?_
      refine cs_bea_firstGains hx hb hK hP hD hS dX0_fillGains_58 (by omega) bF_120 (by omega) (fun F_141 H locs _ bF_141 hP hS => ?_)
      refine lv_iinc (v := mI (z_116 + 1)) (lv' := [(4, .int (mI (z_116 + 1))), (5, .int (mI r_136)), (0, .ref (a 49)), (1, .ref (q (4 * i0))), (2, .int (mI p1)), (3, .ref (a 50))]) hx hb dX0_fillGains_59 hl (k := 1) rfl (mI_ad rfl) (by decide) rfl (fun ls hl => ?_)
      refine lv_goto (tgt := 3) hx hb dX0_fillGains_62 (by decide) ?_
      exact ih_132 _ _ _ _ (by omega) ⟨(z_116 + 1), F_137, F_138, y_139, F_141, _, by omega, bF_137, bF_138, by omega, bF_141, rfl, hP, hS, lv_sub hl [0, 2, 3, 4, 5] rfl, rfl⟩
    · skip
      refine lv_iconst (v := mI 0) hx hb dX0_fillGains_49 rfl ?_
      refine lv_goto (tgt := 58) hx hb dX0_fillGains_50 (by decide) ?_
      refine cs_bea_firstGains hx hb hK hP hD hS dX0_fillGains_58 (by omega) bF_120 (by omega) (fun F_142 H locs _ bF_142 hP hS => ?_)
      refine lv_iinc (v := mI (z_116 + 1)) (lv' := [(4, .int (mI (z_116 + 1))), (5, .int (mI r_136)), (0, .ref (a 49)), (1, .ref (q (4 * i0))), (2, .int (mI p1)), (3, .ref (a 50))]) hx hb dX0_fillGains_59 hl (k := 1) rfl (mI_ad rfl) (by decide) rfl (fun ls hl => ?_)
      refine lv_goto (tgt := 3) hx hb dX0_fillGains_62 (by decide) ?_
      exact ih_132 _ _ _ _ (by omega) ⟨(z_116 + 1), F_137, F_138, y_139, F_142, _, by omega, bF_137, bF_138, by omega, bF_142, rfl, hP, hS, lv_sub hl [0, 2, 3, 4, 5] rfl, rfl⟩
set_option maxHeartbeats 4000000 in
set_option maxRecDepth 100000 in
theorem kc_X0_fillGains_bea_past_bea_otherGains {p1 : Int} {i0 : Nat} (hi0 : i0 < 44) (hp1 : 0 ≤ p1 ∧ p1 ≤ 7) (h_x_told_herds : 0 ≤ x_told_herds ∧ x_told_herds ≤ 8) (h_x_told_beasts : 0 ≤ x_told_beasts ∧ x_told_beasts ≤ 8) (h_x_lat_placements : 1 ≤ x_lat_placements ∧ x_lat_placements ≤ 8) (h_x_smi_irons : 0 ≤ x_smi_irons ∧ x_smi_irons ≤ 6) (h_x_smi_aim : -2147483648 ≤ x_smi_aim ∧ x_smi_aim ≤ 2147483647) (b_B_told_brands : bd (-2147483648) 2147483647 B_told_brands) (b_B_lat_lowHalves : bd (0) 4095 B_lat_lowHalves) (b_B_lat_highHalves : bd (0) 4095 B_lat_highHalves) (b_B_lat_ways : bd (0) 7 B_lat_ways) (b_B_smi_placedIrons : bd (0) 4095 B_smi_placedIrons) (b_B_smi_within : bd (0) 4095 B_smi_within) (b_B_smi_costs : bd (-128) 127 B_smi_costs) (b_B_bea_otherGains : bd (-2147483648) 2147483647 B_bea_otherGains) (b_Ph : pb (0) 4095 Ph) (g_T : tI x_told_herds x_told_beasts B_told_brands B_told_homes) (hr0 : 0 ≤ x_told_herds - p1 - 1) : MetG l D k yX0_fillGains cX0_fillGains 6 none 4 [.ref (a 49), .ref (q (4 * i0)), .int (mI p1), .ref (a 51)] (cW k a q x_xo_lyingCount x_tape_length x_tape_next x_tape_kind x_tape_place x_tape_number x_tape_faultKind x_tape_faultPlace x_told_turns x_told_mirror x_told_night x_told_draw x_told_herds x_told_irons x_told_beasts x_told_linesTold x_tfo_steps x_tfo_units x_draft_turns x_draft_mirror x_draft_night x_draft_draw x_draft_herds x_draft_irons x_draft_beasts x_draft_linesTold x_dfo_steps x_dfo_units x_lat_placements x_smi_irons x_smi_aim x_his_here x_his_undoable x_his_redoable x_book_placedCount x_wit_count x_wit_time n_tape_name B_xo_lying B_tape_bytes B_told_brands B_told_ironMarks B_told_homes B_told_births B_tfo_kinds B_tfo_numbers B_tfo_stack B_tfo_facts B_draft_brands B_draft_ironMarks B_draft_homes B_draft_births B_dfo_kinds B_dfo_numbers B_dfo_stack B_dfo_facts B_lat_lowHalves B_lat_highHalves B_lat_ways B_smi_placedIrons B_smi_within B_smi_costs B_his_isKept B_book_norms B_book_above B_book_heights B_book_placedBrands B_bea_firstGains B_bea_otherGains B_wit_burnings B_wit_strokes B_wit_wasOn B_wit_toldAt B_wit_untoldAt B_wit_on B_wit_off B_wit_firstCounts B_wit_secondCounts Ps Pd G_tape_wordNames G_told_herdNames G_told_ironNames G_told_beastNames G_draft_herdNames G_draft_ironNames G_draft_beastNames Ph Po Pg ex) (qGv (fun H => ∃ (F_smi_within : Nat → Int) (F_smi_costs : Nat → Int) (y_smi_aim : Int) (F_bea_otherGains : Nat → Int), (bd (0) 4095 F_smi_within) ∧ (bd (-128) 127 F_smi_costs) ∧ (-2147483648 ≤ y_smi_aim ∧ y_smi_aim ≤ 2147483647) ∧ (bd (-2147483648) 2147483647 F_bea_otherGains) ∧ va_P D vwCl (cW k a q x_xo_lyingCount x_tape_length x_tape_next x_tape_kind x_tape_place x_tape_number x_tape_faultKind x_tape_faultPlace x_told_turns x_told_mirror x_told_night x_told_draw x_told_herds x_told_irons x_told_beasts x_told_linesTold x_tfo_steps x_tfo_units x_draft_turns x_draft_mirror x_draft_night x_draft_draw x_draft_herds x_draft_irons x_draft_beasts x_draft_linesTold x_dfo_steps x_dfo_units x_lat_placements x_smi_irons y_smi_aim x_his_here x_his_undoable x_his_redoable x_book_placedCount x_wit_count x_wit_time n_tape_name B_xo_lying B_tape_bytes B_told_brands B_told_ironMarks B_told_homes B_told_births B_tfo_kinds B_tfo_numbers B_tfo_stack B_tfo_facts B_draft_brands B_draft_ironMarks B_draft_homes B_draft_births B_dfo_kinds B_dfo_numbers B_dfo_stack B_dfo_facts B_lat_lowHalves B_lat_highHalves B_lat_ways B_smi_placedIrons F_smi_within F_smi_costs B_his_isKept B_book_norms B_book_above B_book_heights B_book_placedBrands B_bea_firstGains F_bea_otherGains B_wit_burnings B_wit_strokes B_wit_wasOn B_wit_toldAt B_wit_untoldAt B_wit_on B_wit_off B_wit_firstCounts B_wit_secondCounts Ps Pd G_tape_wordNames G_told_herdNames G_told_ironNames G_told_beastNames G_draft_herdNames G_draft_ironNames G_draft_beastNames Ph Po Pg ex) H)) := by
  refine metG_of 3 ck_X0_fillGains (Nat.le_of_ble_eq_true rfl) cMap (fun p e s m args below meth c A hx hb hml hr hlocks hown hts hK hD hA hP hS ls hl => ?_)
  have hown : s.vm.findClass "HideReader$Beasts" = some m.cls := hown
  have hl : lv_has ls 6 [(0, .ref (a 49)), (1, .ref (q (4 * i0))), (2, .int (mI p1)), (3, .ref (a 51))] := hl
  refine lv_iconst (v := mI 0) hx hb dX0_fillGains_0 rfl ?_
  refine lv_istore (lv' := [(4, .int (mI 0)), (0, .ref (a 49)), (1, .ref (q (4 * i0))), (2, .int (mI p1)), (3, .ref (a 51))]) hx hb dX0_fillGains_1 hl (by decide) rfl (fun ls hl => ?_)
  refine sy_loop (I := fun n H locs g => ∃ (z_116 : Int) (F_117 : Nat → Int) (F_118 : Nat → Int) (y_119 : Int) (F_120 : Nat → Int) (ls : Array Slot), (0 ≤ z_116 ∧ z_116 ≤ 8) ∧ (bd (0) 4095 F_117) ∧ (bd (-128) 127 F_118) ∧ (-2147483648 ≤ y_119 ∧ y_119 ≤ 2147483647) ∧ (bd (-2147483648) 2147483647 F_120) ∧ (8 - z_116).toNat = n ∧ va_P D vwCl (cW k a q x_xo_lyingCount x_tape_length x_tape_next x_tape_kind x_tape_place x_tape_number x_tape_faultKind x_tape_faultPlace x_told_turns x_told_mirror x_told_night x_told_draw x_told_herds x_told_irons x_told_beasts x_told_linesTold x_tfo_steps x_tfo_units x_draft_turns x_draft_mirror x_draft_night x_draft_draw x_draft_herds x_draft_irons x_draft_beasts x_draft_linesTold x_dfo_steps x_dfo_units x_lat_placements x_smi_irons y_119 x_his_here x_his_undoable x_his_redoable x_book_placedCount x_wit_count x_wit_time n_tape_name B_xo_lying B_tape_bytes B_told_brands B_told_ironMarks B_told_homes B_told_births B_tfo_kinds B_tfo_numbers B_tfo_stack B_tfo_facts B_draft_brands B_draft_ironMarks B_draft_homes B_draft_births B_dfo_kinds B_dfo_numbers B_dfo_stack B_dfo_facts B_lat_lowHalves B_lat_highHalves B_lat_ways B_smi_placedIrons F_117 F_118 B_his_isKept B_book_norms B_book_above B_book_heights B_book_placedBrands B_bea_firstGains F_120 B_wit_burnings B_wit_strokes B_wit_wasOn B_wit_toldAt B_wit_untoldAt B_wit_on B_wit_off B_wit_firstCounts B_wit_secondCounts Ps Pd G_tape_wordNames G_told_herdNames G_told_ironNames G_told_beastNames G_draft_herdNames G_draft_ironNames G_draft_beastNames Ph Po Pg ex) H ∧ va_S A s.heap H locs ∧ lv_has ls 6 [(4, .int (mI z_116)), (0, .ref (a 49)), (1, .ref (q (4 * i0))), (2, .int (mI p1)), (3, .ref (a 51))] ∧ g = F0 m 3 ls []) ?_ _ ⟨0, B_smi_within, B_smi_costs, x_smi_aim, B_bea_otherGains, _, by omega, b_B_smi_within, b_B_smi_costs, by omega, b_B_bea_otherGains, rfl, hP, hS, lv_sub hl [0, 1, 2, 3, 4] rfl, rfl⟩
  intro n_131 H locs g hI ih_132
  obtain ⟨z_116, F_117, F_118, y_119, F_120, ls, h3_0, bF_117, bF_118, h3_3, bF_120, mn_131, hP, hS, hl, rfl⟩ := hI
  refine lv_iload hx hb dX0_fillGains_3 (lv_at hl 0 rfl) ?_
  refine lv_aload_n hx hb dX0_fillGains_5 rfl (lv_at hl 1 rfl) ?_
  refine cg_bea_told hx hb hts hown hK hP uw_2_167 dX0_fillGains_6 ?_
  refine cg_told_beasts hx hb hts hown hK hP uw_1_180 dX0_fillGains_9 ?_
  refine sy_icmp_ge (tgt := 65) hx hb dX0_fillGains_12 (by decide) (by omega) (by omega) (fun c_133 => ?_) (fun c_133 => ?_)
  · skip
    exact r_v hx hb hr hlocks dX0_fillGains_65 hS ⟨F_117, F_118, y_119, F_120, bF_117, bF_118, by omega, bF_120, hP⟩
  · skip
    refine lv_aload_n hx hb dX0_fillGains_15 rfl (lv_at hl 1 rfl) ?_
    refine cg_bea_smith hx hb hts hown hK hP uw_2_169 dX0_fillGains_16 ?_
    refine lv_aload_n hx hb dX0_fillGains_19 rfl (lv_at hl 2 rfl) ?_
    refine cg_past_hides (i := i0) (by omega) hx hb hts hown hK hP uw_2_87 dX0_fillGains_20 ?_
    refine lv_iload hx hb dX0_fillGains_23 (lv_at hl 0 rfl) ?_
    refine cl_past_hides (i := i0) (by omega) hx hb hK hP dX0_fillGains_25 (by omega) b_Ph (fun z_134 _ hz_134 => ?_)
    refine lv_aload_n hx hb dX0_fillGains_26 rfl (lv_at hl 1 rfl) ?_
    refine cg_bea_told hx hb hts hown hK hP uw_2_167 dX0_fillGains_27 ?_
    refine cg_told_brands hx hb hts hown hK hP uw_1_197 dX0_fillGains_30 ?_
    refine lv_iload_n hx hb dX0_fillGains_33 rfl (lv_at hl 3 rfl) ?_
    refine cl_told_brands hx hb hK hP dX0_fillGains_34 (by omega) b_B_told_brands (fun z_135 ez_135 hz_135 => ?_)
    have hz_135 := tI_b g_T (by omega) ez_135
    refine g_i (cDt hD) hS hA (g_V (own := "HideReader$Beasts") (As := [.int (mI z_134), .int (mI z_135)]) (rest := []) hx hb hml hown hts hK hP (cDt hD) (kc_X6_fewest (l := l) (D := D) (k := k) (by omega) (by omega) h_x_lat_placements h_x_smi_irons (by omega) b_B_lat_lowHalves b_B_lat_highHalves b_B_lat_ways b_B_smi_placedIrons bF_117 bF_118) ck_X6_fewest iv_X6_fewest uw_5_104 (cv_smi hK hP) rfl hl.1 rfl (Nat.le_of_ble_eq_true rfl) dX0_fillGains_35 ⟨Nat.le_of_ble_eq_true rfl, Nat.le_of_ble_eq_true rfl⟩ ⟨Nat.le_of_ble_eq_true rfl, Nat.le_of_ble_eq_true rfl⟩) (fun r_136 H locs hQ hS => ?_)
    obtain ⟨F_137, F_138, y_139, hr_136_0, bF_137, bF_138, hr_136_3, hP⟩ := hQ
    refine lv_istore (lv' := [(5, .int (mI r_136)), (4, .int (mI z_116)), (0, .ref (a 49)), (1, .ref (q (4 * i0))), (2, .int (mI p1)), (3, .ref (a 51))]) hx hb dX0_fillGains_38 hl (by decide) rfl (fun ls hl => ?_)
    refine lv_aload_n hx hb dX0_fillGains_40 rfl (lv_at hl 5 rfl) ?_
    refine lv_iload hx hb dX0_fillGains_41 (lv_at hl 1 rfl) ?_
    refine lv_iload hx hb dX0_fillGains_43 (lv_at hl 0 rfl) ?_
    refine lv_iconst (v := mI (-1)) hx hb dX0_fillGains_45 rfl ?_
    refine sy_icmp_ne (tgt := 53) hx hb dX0_fillGains_46 (by decide) (by omega) (by decide) (fun c_140 => ?_) (fun c_140 => ?_)
    · skip
      refine lv_bipush (v := mI 10) hx hb dX0_fillGains_53 (by decide) ?_
      refine lv_iload hx hb dX0_fillGains_55 (lv_at hl 0 rfl) ?_
      refine sy_isub hx hb dX0_fillGains_57 (-r_136 + 10) (by omega) ?_
      refine cs_bea_otherGains hx hb hK hP hD hS dX0_fillGains_58 (by omega) bF_120 (by omega) (fun F_141 H locs _ bF_141 hP hS => ?_)
      refine lv_iinc (v := mI (z_116 + 1)) (lv' := [(4, .int (mI (z_116 + 1))), (5, .int (mI r_136)), (0, .ref (a 49)), (1, .ref (q (4 * i0))), (2, .int (mI p1)), (3, .ref (a 51))]) hx hb dX0_fillGains_59 hl (k := 1) rfl (mI_ad rfl) (by decide) rfl (fun ls hl => ?_)
      refine lv_goto (tgt := 3) hx hb dX0_fillGains_62 (by decide) ?_
      exact ih_132 _ _ _ _ (by omega) ⟨(z_116 + 1), F_137, F_138, y_139, F_141, _, by omega, bF_137, bF_138, by omega, bF_141, rfl, hP, hS, lv_sub hl [0, 2, 3, 4, 5] rfl, rfl⟩
    · skip
      refine lv_iconst (v := mI 0) hx hb dX0_fillGains_49 rfl ?_
      refine lv_goto (tgt := 58) hx hb dX0_fillGains_50 (by decide) ?_
      refine cs_bea_otherGains hx hb hK hP hD hS dX0_fillGains_58 (by omega) bF_120 (by omega) (fun F_142 H locs _ bF_142 hP hS => ?_)
      refine lv_iinc (v := mI (z_116 + 1)) (lv' := [(4, .int (mI (z_116 + 1))), (5, .int (mI r_136)), (0, .ref (a 49)), (1, .ref (q (4 * i0))), (2, .int (mI p1)), (3, .ref (a 51))]) hx hb dX0_fillGains_59 hl (k := 1) rfl (mI_ad rfl) (by decide) rfl (fun ls hl => ?_)
      refine lv_goto (tgt := 3) hx hb dX0_fillGains_62 (by decide) ?_
      exact ih_132 _ _ _ _ (by omega) ⟨(z_116 + 1), F_137, F_138, y_139, F_142, _, by omega, bF_137, bF_138, by omega, bF_142, rfl, hP, hS, lv_sub hl [0, 2, 3, 4, 5] rfl, rfl⟩
set_option maxHeartbeats 4000000 in
set_option maxRecDepth 100000 in
theorem kc_X0_staysAt_bea_bea_firstGains {p1 p2 : Int} (hp1 : 0 ≤ p1 ∧ p1 ≤ 7) (hp2 : 0 ≤ p2 ∧ p2 ≤ 7) (h_x_told_beasts : 0 ≤ x_told_beasts ∧ x_told_beasts ≤ 8) (b_B_bea_firstGains : bd (-2147483648) 2147483647 B_bea_firstGains) : MetG l D k yX0_staysAt cX0_staysAt 6 (some .boolean) 0 [.ref (a 49), .ref (a 50), .int (mI p1), .int (mI p2)] (cW k a q x_xo_lyingCount x_tape_length x_tape_next x_tape_kind x_tape_place x_tape_number x_tape_faultKind x_tape_faultPlace x_told_turns x_told_mirror x_told_night x_told_draw x_told_herds x_told_irons x_told_beasts x_told_linesTold x_tfo_steps x_tfo_units x_draft_turns x_draft_mirror x_draft_night x_draft_draw x_draft_herds x_draft_irons x_draft_beasts x_draft_linesTold x_dfo_steps x_dfo_units x_lat_placements x_smi_irons x_smi_aim x_his_here x_his_undoable x_his_redoable x_book_placedCount x_wit_count x_wit_time n_tape_name B_xo_lying B_tape_bytes B_told_brands B_told_ironMarks B_told_homes B_told_births B_tfo_kinds B_tfo_numbers B_tfo_stack B_tfo_facts B_draft_brands B_draft_ironMarks B_draft_homes B_draft_births B_dfo_kinds B_dfo_numbers B_dfo_stack B_dfo_facts B_lat_lowHalves B_lat_highHalves B_lat_ways B_smi_placedIrons B_smi_within B_smi_costs B_his_isKept B_book_norms B_book_above B_book_heights B_book_placedBrands B_bea_firstGains B_bea_otherGains B_wit_burnings B_wit_strokes B_wit_wasOn B_wit_toldAt B_wit_untoldAt B_wit_on B_wit_off B_wit_firstCounts B_wit_secondCounts Ps Pd G_tape_wordNames G_told_herdNames G_told_ironNames G_told_beastNames G_draft_herdNames G_draft_ironNames G_draft_beastNames Ph Po Pg ex) (qGi (fun r0 H => (0 ≤ r0 ∧ r0 ≤ 1) ∧ va_P D vwCl (cW k a q x_xo_lyingCount x_tape_length x_tape_next x_tape_kind x_tape_place x_tape_number x_tape_faultKind x_tape_faultPlace x_told_turns x_told_mirror x_told_night x_told_draw x_told_herds x_told_irons x_told_beasts x_told_linesTold x_tfo_steps x_tfo_units x_draft_turns x_draft_mirror x_draft_night x_draft_draw x_draft_herds x_draft_irons x_draft_beasts x_draft_linesTold x_dfo_steps x_dfo_units x_lat_placements x_smi_irons x_smi_aim x_his_here x_his_undoable x_his_redoable x_book_placedCount x_wit_count x_wit_time n_tape_name B_xo_lying B_tape_bytes B_told_brands B_told_ironMarks B_told_homes B_told_births B_tfo_kinds B_tfo_numbers B_tfo_stack B_tfo_facts B_draft_brands B_draft_ironMarks B_draft_homes B_draft_births B_dfo_kinds B_dfo_numbers B_dfo_stack B_dfo_facts B_lat_lowHalves B_lat_highHalves B_lat_ways B_smi_placedIrons B_smi_within B_smi_costs B_his_isKept B_book_norms B_book_above B_book_heights B_book_placedBrands B_bea_firstGains B_bea_otherGains B_wit_burnings B_wit_strokes B_wit_wasOn B_wit_toldAt B_wit_untoldAt B_wit_on B_wit_off B_wit_firstCounts B_wit_secondCounts Ps Pd G_tape_wordNames G_told_herdNames G_told_ironNames G_told_beastNames G_draft_herdNames G_draft_ironNames G_draft_beastNames Ph Po Pg ex) H)) := by
  refine metG_of 3 ck_X0_staysAt (Nat.le_of_ble_eq_true rfl) cMap (fun p e s m args below meth c A hx hb hml hr hlocks hown hts hK hD hA hP hS ls hl => ?_)
  have hown : s.vm.findClass "HideReader$Beasts" = some m.cls := hown
  have hl : lv_has ls 6 [(0, .ref (a 49)), (1, .ref (a 50)), (2, .int (mI p1)), (3, .int (mI p2))] := hl
  refine lv_iload_n hx hb dX0_staysAt_0 rfl (lv_at hl 2 rfl) ?_
  refine lv_iload_n hx hb dX0_staysAt_1 rfl (lv_at hl 3 rfl) ?_
  refine sy_join (I := fun H locs g => ∃ (z_3 : Int) (ls : Array Slot), (-2147483648 ≤ z_3 ∧ z_3 ≤ 2147483647) ∧ va_P D vwCl (cW k a q x_xo_lyingCount x_tape_length x_tape_next x_tape_kind x_tape_place x_tape_number x_tape_faultKind x_tape_faultPlace x_told_turns x_told_mirror x_told_night x_told_draw x_told_herds x_told_irons x_told_beasts x_told_linesTold x_tfo_steps x_tfo_units x_draft_turns x_draft_mirror x_draft_night x_draft_draw x_draft_herds x_draft_irons x_draft_beasts x_draft_linesTold x_dfo_steps x_dfo_units x_lat_placements x_smi_irons x_smi_aim x_his_here x_his_undoable x_his_redoable x_book_placedCount x_wit_count x_wit_time n_tape_name B_xo_lying B_tape_bytes B_told_brands B_told_ironMarks B_told_homes B_told_births B_tfo_kinds B_tfo_numbers B_tfo_stack B_tfo_facts B_draft_brands B_draft_ironMarks B_draft_homes B_draft_births B_dfo_kinds B_dfo_numbers B_dfo_stack B_dfo_facts B_lat_lowHalves B_lat_highHalves B_lat_ways B_smi_placedIrons B_smi_within B_smi_costs B_his_isKept B_book_norms B_book_above B_book_heights B_book_placedBrands B_bea_firstGains B_bea_otherGains B_wit_burnings B_wit_strokes B_wit_wasOn B_wit_toldAt B_wit_untoldAt B_wit_on B_wit_off B_wit_firstCounts B_wit_secondCounts Ps Pd G_tape_wordNames G_told_herdNames G_told_ironNames G_told_beastNames G_draft_herdNames G_draft_ironNames G_draft_beastNames Ph Po Pg ex) H ∧ va_S A s.heap H locs ∧ lv_has ls 6 [(0, .ref (a 49)), (1, .ref (a 50)), (2, .int (mI p1)), (3, .int (mI p2))] ∧ g = F0 m 12 ls [.int (mI z_3)]) ?_ ?_
  · skip
    intro H locs g hI
    obtain ⟨z_3, ls, h12_0, hP, hS, hl, rfl⟩ := hI
    refine lv_istore (lv' := [(4, .int (mI z_3)), (0, .ref (a 49)), (1, .ref (a 50)), (2, .int (mI p1)), (3, .int (mI p2))]) hx hb dX0_staysAt_12 hl (by decide) rfl (fun ls hl => ?_)
    refine lv_iconst (v := mI 0) hx hb dX0_staysAt_14 rfl ?_
    refine lv_istore (lv' := [(5, .int (mI 0)), (4, .int (mI z_3)), (0, .ref (a 49)), (1, .ref (a 50)), (2, .int (mI p1)), (3, .int (mI p2))]) hx hb dX0_staysAt_15 hl (by decide) rfl (fun ls hl => ?_)
    refine sy_loop (I := fun n H locs g => ∃ (z_39 : Int) (ls : Array Slot), (0 ≤ z_39 ∧ z_39 ≤ 8) ∧ (8 - z_39).toNat = n ∧ va_P D vwCl (cW k a q x_xo_lyingCount x_tape_length x_tape_next x_tape_kind x_tape_place x_tape_number x_tape_faultKind x_tape_faultPlace x_told_turns x_told_mirror x_told_night x_told_draw x_told_herds x_told_irons x_told_beasts x_told_linesTold x_tfo_steps x_tfo_units x_draft_turns x_draft_mirror x_draft_night x_draft_draw x_draft_herds x_draft_irons x_draft_beasts x_draft_linesTold x_dfo_steps x_dfo_units x_lat_placements x_smi_irons x_smi_aim x_his_here x_his_undoable x_his_redoable x_book_placedCount x_wit_count x_wit_time n_tape_name B_xo_lying B_tape_bytes B_told_brands B_told_ironMarks B_told_homes B_told_births B_tfo_kinds B_tfo_numbers B_tfo_stack B_tfo_facts B_draft_brands B_draft_ironMarks B_draft_homes B_draft_births B_dfo_kinds B_dfo_numbers B_dfo_stack B_dfo_facts B_lat_lowHalves B_lat_highHalves B_lat_ways B_smi_placedIrons B_smi_within B_smi_costs B_his_isKept B_book_norms B_book_above B_book_heights B_book_placedBrands B_bea_firstGains B_bea_otherGains B_wit_burnings B_wit_strokes B_wit_wasOn B_wit_toldAt B_wit_untoldAt B_wit_on B_wit_off B_wit_firstCounts B_wit_secondCounts Ps Pd G_tape_wordNames G_told_herdNames G_told_ironNames G_told_beastNames G_draft_herdNames G_draft_ironNames G_draft_beastNames Ph Po Pg ex) H ∧ va_S A s.heap H locs ∧ lv_has ls 6 [(5, .int (mI z_39)), (4, .int (mI z_3)), (0, .ref (a 49)), (1, .ref (a 50)), (2, .int (mI p1)), (3, .int (mI p2))] ∧ g = F0 m 17 ls []) ?_ _ ⟨0, _, by omega, rfl, hP, hS, lv_sub hl [0, 1, 2, 3, 4, 5] rfl, rfl⟩
    intro n_44 H locs g hI ih_45
    obtain ⟨z_39, ls, h17_0, mn_44, hP, hS, hl, rfl⟩ := hI
    refine lv_iload hx hb dX0_staysAt_17 (lv_at hl 0 rfl) ?_
    refine lv_aload_n hx hb dX0_staysAt_19 rfl (lv_at hl 2 rfl) ?_
    refine cg_bea_told hx hb hts hown hK hP uw_2_167 dX0_staysAt_20 ?_
    refine cg_told_beasts hx hb hts hown hK hP uw_1_180 dX0_staysAt_23 ?_
    refine sy_icmp_ge (tgt := 52) hx hb dX0_staysAt_26 (by decide) (by omega) (by omega) (fun c_46 => ?_) (fun c_46 => ?_)
    · skip
      refine lv_iconst (v := mI 1) hx hb dX0_staysAt_52 rfl ?_
      exact r_z hx hb hr hlocks dX0_staysAt_53 hS (by decide) ⟨by omega, hP⟩
    · skip
      refine lv_iload hx hb dX0_staysAt_29 (lv_at hl 0 rfl) ?_
      refine lv_iload_n hx hb dX0_staysAt_31 rfl (lv_at hl 5 rfl) ?_
      refine sy_icmp_eq (tgt := 46) hx hb dX0_staysAt_32 (by decide) (by omega) (by omega) (fun c_47 => ?_) (fun c_47 => ?_)
      · skip
        refine lv_iinc (v := mI (z_39 + 1)) (lv' := [(5, .int (mI (z_39 + 1))), (4, .int (mI z_3)), (0, .ref (a 49)), (1, .ref (a 50)), (2, .int (mI p1)), (3, .int (mI p2))]) hx hb dX0_staysAt_46 hl (k := 0) rfl (mI_ad rfl) (by decide) rfl (fun ls hl => ?_)
        refine lv_goto (tgt := 17) hx hb dX0_staysAt_49 (by decide) ?_
        exact ih_45 _ _ _ _ (by omega) ⟨(z_39 + 1), _, by omega, rfl, hP, hS, lv_sub hl [0, 1, 2, 3, 4, 5] rfl, rfl⟩
      · skip
        refine lv_aload_n hx hb dX0_staysAt_35 rfl (lv_at hl 3 rfl) ?_
        refine lv_iload hx hb dX0_staysAt_36 (lv_at hl 0 rfl) ?_
        refine cl_bea_firstGains hx hb hK hP dX0_staysAt_38 (by omega) b_B_bea_firstGains (fun z_48 _ hz_48 => ?_)
        refine lv_iload hx hb dX0_staysAt_39 (lv_at hl 1 rfl) ?_
        refine sy_icmp_le (tgt := 46) hx hb dX0_staysAt_41 (by decide) (by omega) (by omega) (fun c_49 => ?_) (fun c_49 => ?_)
        · skip
          refine lv_iinc (v := mI (z_39 + 1)) (lv' := [(5, .int (mI (z_39 + 1))), (4, .int (mI z_3)), (0, .ref (a 49)), (1, .ref (a 50)), (2, .int (mI p1)), (3, .int (mI p2))]) hx hb dX0_staysAt_46 hl (k := 0) rfl (mI_ad rfl) (by decide) rfl (fun ls hl => ?_)
          refine lv_goto (tgt := 17) hx hb dX0_staysAt_49 (by decide) ?_
          exact ih_45 _ _ _ _ (by omega) ⟨(z_39 + 1), _, by omega, rfl, hP, hS, lv_sub hl [0, 1, 2, 3, 4, 5] rfl, rfl⟩
        · skip
          refine lv_iconst (v := mI 0) hx hb dX0_staysAt_44 rfl ?_
          exact r_z hx hb hr hlocks dX0_staysAt_45 hS (by decide) ⟨by omega, hP⟩
  · skip
    intro J_4
    refine sy_icmp_ne (tgt := 9) hx hb dX0_staysAt_2 (by decide) (by omega) (by omega) (fun c_50 => ?_) (fun c_50 => ?_)
    · skip
      refine lv_aload_n hx hb dX0_staysAt_9 rfl (lv_at hl 1 rfl) ?_
      refine lv_iload_n hx hb dX0_staysAt_10 rfl (lv_at hl 2 rfl) ?_
      refine cl_bea_firstGains hx hb hK hP dX0_staysAt_11 (by omega) b_B_bea_firstGains (fun z_51 _ hz_51 => ?_)
      exact J_4 _ _ _ ⟨z_51, _, by omega, hP, hS, lv_sub hl [0, 1, 2, 3] rfl, rfl⟩
    · skip
      refine lv_iconst (v := mI 0) hx hb dX0_staysAt_5 rfl ?_
      refine lv_goto (tgt := 12) hx hb dX0_staysAt_6 (by decide) ?_
      exact J_4 _ _ _ ⟨0, _, by omega, hP, hS, lv_sub hl [0, 1, 2, 3] rfl, rfl⟩
set_option maxHeartbeats 4000000 in
set_option maxRecDepth 100000 in
theorem kc_X0_staysAt_bea_bea_otherGains {p1 p2 : Int} (hp1 : 0 ≤ p1 ∧ p1 ≤ 7) (hp2 : 0 ≤ p2 ∧ p2 ≤ 7) (h_x_told_beasts : 0 ≤ x_told_beasts ∧ x_told_beasts ≤ 8) (b_B_bea_otherGains : bd (-2147483648) 2147483647 B_bea_otherGains) : MetG l D k yX0_staysAt cX0_staysAt 6 (some .boolean) 0 [.ref (a 49), .ref (a 51), .int (mI p1), .int (mI p2)] (cW k a q x_xo_lyingCount x_tape_length x_tape_next x_tape_kind x_tape_place x_tape_number x_tape_faultKind x_tape_faultPlace x_told_turns x_told_mirror x_told_night x_told_draw x_told_herds x_told_irons x_told_beasts x_told_linesTold x_tfo_steps x_tfo_units x_draft_turns x_draft_mirror x_draft_night x_draft_draw x_draft_herds x_draft_irons x_draft_beasts x_draft_linesTold x_dfo_steps x_dfo_units x_lat_placements x_smi_irons x_smi_aim x_his_here x_his_undoable x_his_redoable x_book_placedCount x_wit_count x_wit_time n_tape_name B_xo_lying B_tape_bytes B_told_brands B_told_ironMarks B_told_homes B_told_births B_tfo_kinds B_tfo_numbers B_tfo_stack B_tfo_facts B_draft_brands B_draft_ironMarks B_draft_homes B_draft_births B_dfo_kinds B_dfo_numbers B_dfo_stack B_dfo_facts B_lat_lowHalves B_lat_highHalves B_lat_ways B_smi_placedIrons B_smi_within B_smi_costs B_his_isKept B_book_norms B_book_above B_book_heights B_book_placedBrands B_bea_firstGains B_bea_otherGains B_wit_burnings B_wit_strokes B_wit_wasOn B_wit_toldAt B_wit_untoldAt B_wit_on B_wit_off B_wit_firstCounts B_wit_secondCounts Ps Pd G_tape_wordNames G_told_herdNames G_told_ironNames G_told_beastNames G_draft_herdNames G_draft_ironNames G_draft_beastNames Ph Po Pg ex) (qGi (fun r0 H => (0 ≤ r0 ∧ r0 ≤ 1) ∧ va_P D vwCl (cW k a q x_xo_lyingCount x_tape_length x_tape_next x_tape_kind x_tape_place x_tape_number x_tape_faultKind x_tape_faultPlace x_told_turns x_told_mirror x_told_night x_told_draw x_told_herds x_told_irons x_told_beasts x_told_linesTold x_tfo_steps x_tfo_units x_draft_turns x_draft_mirror x_draft_night x_draft_draw x_draft_herds x_draft_irons x_draft_beasts x_draft_linesTold x_dfo_steps x_dfo_units x_lat_placements x_smi_irons x_smi_aim x_his_here x_his_undoable x_his_redoable x_book_placedCount x_wit_count x_wit_time n_tape_name B_xo_lying B_tape_bytes B_told_brands B_told_ironMarks B_told_homes B_told_births B_tfo_kinds B_tfo_numbers B_tfo_stack B_tfo_facts B_draft_brands B_draft_ironMarks B_draft_homes B_draft_births B_dfo_kinds B_dfo_numbers B_dfo_stack B_dfo_facts B_lat_lowHalves B_lat_highHalves B_lat_ways B_smi_placedIrons B_smi_within B_smi_costs B_his_isKept B_book_norms B_book_above B_book_heights B_book_placedBrands B_bea_firstGains B_bea_otherGains B_wit_burnings B_wit_strokes B_wit_wasOn B_wit_toldAt B_wit_untoldAt B_wit_on B_wit_off B_wit_firstCounts B_wit_secondCounts Ps Pd G_tape_wordNames G_told_herdNames G_told_ironNames G_told_beastNames G_draft_herdNames G_draft_ironNames G_draft_beastNames Ph Po Pg ex) H)) := by
  refine metG_of 3 ck_X0_staysAt (Nat.le_of_ble_eq_true rfl) cMap (fun p e s m args below meth c A hx hb hml hr hlocks hown hts hK hD hA hP hS ls hl => ?_)
  have hown : s.vm.findClass "HideReader$Beasts" = some m.cls := hown
  have hl : lv_has ls 6 [(0, .ref (a 49)), (1, .ref (a 51)), (2, .int (mI p1)), (3, .int (mI p2))] := hl
  refine lv_iload_n hx hb dX0_staysAt_0 rfl (lv_at hl 2 rfl) ?_
  refine lv_iload_n hx hb dX0_staysAt_1 rfl (lv_at hl 3 rfl) ?_
  refine sy_join (I := fun H locs g => ∃ (z_3 : Int) (ls : Array Slot), (-2147483648 ≤ z_3 ∧ z_3 ≤ 2147483647) ∧ va_P D vwCl (cW k a q x_xo_lyingCount x_tape_length x_tape_next x_tape_kind x_tape_place x_tape_number x_tape_faultKind x_tape_faultPlace x_told_turns x_told_mirror x_told_night x_told_draw x_told_herds x_told_irons x_told_beasts x_told_linesTold x_tfo_steps x_tfo_units x_draft_turns x_draft_mirror x_draft_night x_draft_draw x_draft_herds x_draft_irons x_draft_beasts x_draft_linesTold x_dfo_steps x_dfo_units x_lat_placements x_smi_irons x_smi_aim x_his_here x_his_undoable x_his_redoable x_book_placedCount x_wit_count x_wit_time n_tape_name B_xo_lying B_tape_bytes B_told_brands B_told_ironMarks B_told_homes B_told_births B_tfo_kinds B_tfo_numbers B_tfo_stack B_tfo_facts B_draft_brands B_draft_ironMarks B_draft_homes B_draft_births B_dfo_kinds B_dfo_numbers B_dfo_stack B_dfo_facts B_lat_lowHalves B_lat_highHalves B_lat_ways B_smi_placedIrons B_smi_within B_smi_costs B_his_isKept B_book_norms B_book_above B_book_heights B_book_placedBrands B_bea_firstGains B_bea_otherGains B_wit_burnings B_wit_strokes B_wit_wasOn B_wit_toldAt B_wit_untoldAt B_wit_on B_wit_off B_wit_firstCounts B_wit_secondCounts Ps Pd G_tape_wordNames G_told_herdNames G_told_ironNames G_told_beastNames G_draft_herdNames G_draft_ironNames G_draft_beastNames Ph Po Pg ex) H ∧ va_S A s.heap H locs ∧ lv_has ls 6 [(0, .ref (a 49)), (1, .ref (a 51)), (2, .int (mI p1)), (3, .int (mI p2))] ∧ g = F0 m 12 ls [.int (mI z_3)]) ?_ ?_
  · skip
    intro H locs g hI
    obtain ⟨z_3, ls, h12_0, hP, hS, hl, rfl⟩ := hI
    refine lv_istore (lv' := [(4, .int (mI z_3)), (0, .ref (a 49)), (1, .ref (a 51)), (2, .int (mI p1)), (3, .int (mI p2))]) hx hb dX0_staysAt_12 hl (by decide) rfl (fun ls hl => ?_)
    refine lv_iconst (v := mI 0) hx hb dX0_staysAt_14 rfl ?_
    refine lv_istore (lv' := [(5, .int (mI 0)), (4, .int (mI z_3)), (0, .ref (a 49)), (1, .ref (a 51)), (2, .int (mI p1)), (3, .int (mI p2))]) hx hb dX0_staysAt_15 hl (by decide) rfl (fun ls hl => ?_)
    refine sy_loop (I := fun n H locs g => ∃ (z_39 : Int) (ls : Array Slot), (0 ≤ z_39 ∧ z_39 ≤ 8) ∧ (8 - z_39).toNat = n ∧ va_P D vwCl (cW k a q x_xo_lyingCount x_tape_length x_tape_next x_tape_kind x_tape_place x_tape_number x_tape_faultKind x_tape_faultPlace x_told_turns x_told_mirror x_told_night x_told_draw x_told_herds x_told_irons x_told_beasts x_told_linesTold x_tfo_steps x_tfo_units x_draft_turns x_draft_mirror x_draft_night x_draft_draw x_draft_herds x_draft_irons x_draft_beasts x_draft_linesTold x_dfo_steps x_dfo_units x_lat_placements x_smi_irons x_smi_aim x_his_here x_his_undoable x_his_redoable x_book_placedCount x_wit_count x_wit_time n_tape_name B_xo_lying B_tape_bytes B_told_brands B_told_ironMarks B_told_homes B_told_births B_tfo_kinds B_tfo_numbers B_tfo_stack B_tfo_facts B_draft_brands B_draft_ironMarks B_draft_homes B_draft_births B_dfo_kinds B_dfo_numbers B_dfo_stack B_dfo_facts B_lat_lowHalves B_lat_highHalves B_lat_ways B_smi_placedIrons B_smi_within B_smi_costs B_his_isKept B_book_norms B_book_above B_book_heights B_book_placedBrands B_bea_firstGains B_bea_otherGains B_wit_burnings B_wit_strokes B_wit_wasOn B_wit_toldAt B_wit_untoldAt B_wit_on B_wit_off B_wit_firstCounts B_wit_secondCounts Ps Pd G_tape_wordNames G_told_herdNames G_told_ironNames G_told_beastNames G_draft_herdNames G_draft_ironNames G_draft_beastNames Ph Po Pg ex) H ∧ va_S A s.heap H locs ∧ lv_has ls 6 [(5, .int (mI z_39)), (4, .int (mI z_3)), (0, .ref (a 49)), (1, .ref (a 51)), (2, .int (mI p1)), (3, .int (mI p2))] ∧ g = F0 m 17 ls []) ?_ _ ⟨0, _, by omega, rfl, hP, hS, lv_sub hl [0, 1, 2, 3, 4, 5] rfl, rfl⟩
    intro n_44 H locs g hI ih_45
    obtain ⟨z_39, ls, h17_0, mn_44, hP, hS, hl, rfl⟩ := hI
    refine lv_iload hx hb dX0_staysAt_17 (lv_at hl 0 rfl) ?_
    refine lv_aload_n hx hb dX0_staysAt_19 rfl (lv_at hl 2 rfl) ?_
    refine cg_bea_told hx hb hts hown hK hP uw_2_167 dX0_staysAt_20 ?_
    refine cg_told_beasts hx hb hts hown hK hP uw_1_180 dX0_staysAt_23 ?_
    refine sy_icmp_ge (tgt := 52) hx hb dX0_staysAt_26 (by decide) (by omega) (by omega) (fun c_46 => ?_) (fun c_46 => ?_)
    · skip
      refine lv_iconst (v := mI 1) hx hb dX0_staysAt_52 rfl ?_
      exact r_z hx hb hr hlocks dX0_staysAt_53 hS (by decide) ⟨by omega, hP⟩
    · skip
      refine lv_iload hx hb dX0_staysAt_29 (lv_at hl 0 rfl) ?_
      refine lv_iload_n hx hb dX0_staysAt_31 rfl (lv_at hl 5 rfl) ?_
      refine sy_icmp_eq (tgt := 46) hx hb dX0_staysAt_32 (by decide) (by omega) (by omega) (fun c_47 => ?_) (fun c_47 => ?_)
      · skip
        refine lv_iinc (v := mI (z_39 + 1)) (lv' := [(5, .int (mI (z_39 + 1))), (4, .int (mI z_3)), (0, .ref (a 49)), (1, .ref (a 51)), (2, .int (mI p1)), (3, .int (mI p2))]) hx hb dX0_staysAt_46 hl (k := 0) rfl (mI_ad rfl) (by decide) rfl (fun ls hl => ?_)
        refine lv_goto (tgt := 17) hx hb dX0_staysAt_49 (by decide) ?_
        exact ih_45 _ _ _ _ (by omega) ⟨(z_39 + 1), _, by omega, rfl, hP, hS, lv_sub hl [0, 1, 2, 3, 4, 5] rfl, rfl⟩
      · skip
        refine lv_aload_n hx hb dX0_staysAt_35 rfl (lv_at hl 3 rfl) ?_
        refine lv_iload hx hb dX0_staysAt_36 (lv_at hl 0 rfl) ?_
        refine cl_bea_otherGains hx hb hK hP dX0_staysAt_38 (by omega) b_B_bea_otherGains (fun z_48 _ hz_48 => ?_)
        refine lv_iload hx hb dX0_staysAt_39 (lv_at hl 1 rfl) ?_
        refine sy_icmp_le (tgt := 46) hx hb dX0_staysAt_41 (by decide) (by omega) (by omega) (fun c_49 => ?_) (fun c_49 => ?_)
        · skip
          refine lv_iinc (v := mI (z_39 + 1)) (lv' := [(5, .int (mI (z_39 + 1))), (4, .int (mI z_3)), (0, .ref (a 49)), (1, .ref (a 51)), (2, .int (mI p1)), (3, .int (mI p2))]) hx hb dX0_staysAt_46 hl (k := 0) rfl (mI_ad rfl) (by decide) rfl (fun ls hl => ?_)
          refine lv_goto (tgt := 17) hx hb dX0_staysAt_49 (by decide) ?_
          exact ih_45 _ _ _ _ (by omega) ⟨(z_39 + 1), _, by omega, rfl, hP, hS, lv_sub hl [0, 1, 2, 3, 4, 5] rfl, rfl⟩
        · skip
          refine lv_iconst (v := mI 0) hx hb dX0_staysAt_44 rfl ?_
          exact r_z hx hb hr hlocks dX0_staysAt_45 hS (by decide) ⟨by omega, hP⟩
  · skip
    intro J_4
    refine sy_icmp_ne (tgt := 9) hx hb dX0_staysAt_2 (by decide) (by omega) (by omega) (fun c_50 => ?_) (fun c_50 => ?_)
    · skip
      refine lv_aload_n hx hb dX0_staysAt_9 rfl (lv_at hl 1 rfl) ?_
      refine lv_iload_n hx hb dX0_staysAt_10 rfl (lv_at hl 2 rfl) ?_
      refine cl_bea_otherGains hx hb hK hP dX0_staysAt_11 (by omega) b_B_bea_otherGains (fun z_51 _ hz_51 => ?_)
      exact J_4 _ _ _ ⟨z_51, _, by omega, hP, hS, lv_sub hl [0, 1, 2, 3] rfl, rfl⟩
    · skip
      refine lv_iconst (v := mI 0) hx hb dX0_staysAt_5 rfl ?_
      refine lv_goto (tgt := 12) hx hb dX0_staysAt_6 (by decide) ?_
      exact J_4 _ _ _ ⟨0, _, by omega, hP, hS, lv_sub hl [0, 1, 2, 3] rfl, rfl⟩
set_option maxHeartbeats 4000000 in
set_option maxRecDepth 100000 in
theorem kc_X0_countRests_bea_past_xo_lying {p1 p2 : Int} {i0 : Nat} (hi0 : i0 < 44) (hp1 : 0 ≤ p1 ∧ p1 ≤ 7) (hp2 : 0 ≤ p2 ∧ p2 ≤ 7) (h_x_told_herds : 0 ≤ x_told_herds ∧ x_told_herds ≤ 8) (h_x_told_beasts : 0 ≤ x_told_beasts ∧ x_told_beasts ≤ 8) (h_x_lat_placements : 1 ≤ x_lat_placements ∧ x_lat_placements ≤ 8) (h_x_smi_irons : 0 ≤ x_smi_irons ∧ x_smi_irons ≤ 6) (h_x_smi_aim : -2147483648 ≤ x_smi_aim ∧ x_smi_aim ≤ 2147483647) (b_B_xo_lying : bd (-2147483648) 2147483647 B_xo_lying) (b_B_told_brands : bd (-2147483648) 2147483647 B_told_brands) (b_B_lat_lowHalves : bd (0) 4095 B_lat_lowHalves) (b_B_lat_highHalves : bd (0) 4095 B_lat_highHalves) (b_B_lat_ways : bd (0) 7 B_lat_ways) (b_B_smi_placedIrons : bd (0) 4095 B_smi_placedIrons) (b_B_smi_within : bd (0) 4095 B_smi_within) (b_B_smi_costs : bd (-128) 127 B_smi_costs) (b_B_bea_firstGains : bd (-2147483648) 2147483647 B_bea_firstGains) (b_B_bea_otherGains : bd (-2147483648) 2147483647 B_bea_otherGains) (b_Ph : pb (0) 4095 Ph) (g_T : tI x_told_herds x_told_beasts B_told_brands B_told_homes) (hr0 : 0 ≤ x_told_herds - p1 - 1) (hr1 : 0 ≤ x_told_herds - p2 - 1) : MetG l D k yX0_countRests cX0_countRests 8 (some .int) 5 [.ref (a 49), .ref (q (4 * i0)), .int (mI p1), .int (mI p2), .ref (a 1)] (cW k a q x_xo_lyingCount x_tape_length x_tape_next x_tape_kind x_tape_place x_tape_number x_tape_faultKind x_tape_faultPlace x_told_turns x_told_mirror x_told_night x_told_draw x_told_herds x_told_irons x_told_beasts x_told_linesTold x_tfo_steps x_tfo_units x_draft_turns x_draft_mirror x_draft_night x_draft_draw x_draft_herds x_draft_irons x_draft_beasts x_draft_linesTold x_dfo_steps x_dfo_units x_lat_placements x_smi_irons x_smi_aim x_his_here x_his_undoable x_his_redoable x_book_placedCount x_wit_count x_wit_time n_tape_name B_xo_lying B_tape_bytes B_told_brands B_told_ironMarks B_told_homes B_told_births B_tfo_kinds B_tfo_numbers B_tfo_stack B_tfo_facts B_draft_brands B_draft_ironMarks B_draft_homes B_draft_births B_dfo_kinds B_dfo_numbers B_dfo_stack B_dfo_facts B_lat_lowHalves B_lat_highHalves B_lat_ways B_smi_placedIrons B_smi_within B_smi_costs B_his_isKept B_book_norms B_book_above B_book_heights B_book_placedBrands B_bea_firstGains B_bea_otherGains B_wit_burnings B_wit_strokes B_wit_wasOn B_wit_toldAt B_wit_untoldAt B_wit_on B_wit_off B_wit_firstCounts B_wit_secondCounts Ps Pd G_tape_wordNames G_told_herdNames G_told_ironNames G_told_beastNames G_draft_herdNames G_draft_ironNames G_draft_beastNames Ph Po Pg ex) (qGi (fun r0 H => ∃ (F_xo_lying : Nat → Int) (F_smi_within : Nat → Int) (F_smi_costs : Nat → Int) (y_smi_aim : Int) (F_bea_firstGains : Nat → Int) (F_bea_otherGains : Nat → Int), (-2147483648 ≤ r0 ∧ r0 ≤ 2147483647) ∧ (bd (-2147483648) 2147483647 F_xo_lying) ∧ (bd (0) 4095 F_smi_within) ∧ (bd (-128) 127 F_smi_costs) ∧ (-2147483648 ≤ y_smi_aim ∧ y_smi_aim ≤ 2147483647) ∧ (bd (-2147483648) 2147483647 F_bea_firstGains) ∧ (bd (-2147483648) 2147483647 F_bea_otherGains) ∧ va_P D vwCl (cW k a q x_xo_lyingCount x_tape_length x_tape_next x_tape_kind x_tape_place x_tape_number x_tape_faultKind x_tape_faultPlace x_told_turns x_told_mirror x_told_night x_told_draw x_told_herds x_told_irons x_told_beasts x_told_linesTold x_tfo_steps x_tfo_units x_draft_turns x_draft_mirror x_draft_night x_draft_draw x_draft_herds x_draft_irons x_draft_beasts x_draft_linesTold x_dfo_steps x_dfo_units x_lat_placements x_smi_irons y_smi_aim x_his_here x_his_undoable x_his_redoable x_book_placedCount x_wit_count x_wit_time n_tape_name F_xo_lying B_tape_bytes B_told_brands B_told_ironMarks B_told_homes B_told_births B_tfo_kinds B_tfo_numbers B_tfo_stack B_tfo_facts B_draft_brands B_draft_ironMarks B_draft_homes B_draft_births B_dfo_kinds B_dfo_numbers B_dfo_stack B_dfo_facts B_lat_lowHalves B_lat_highHalves B_lat_ways B_smi_placedIrons F_smi_within F_smi_costs B_his_isKept B_book_norms B_book_above B_book_heights B_book_placedBrands F_bea_firstGains F_bea_otherGains B_wit_burnings B_wit_strokes B_wit_wasOn B_wit_toldAt B_wit_untoldAt B_wit_on B_wit_off B_wit_firstCounts B_wit_secondCounts Ps Pd G_tape_wordNames G_told_herdNames G_told_ironNames G_told_beastNames G_draft_herdNames G_draft_ironNames G_draft_beastNames Ph Po Pg ex) H)) := by
  refine metG_of 4 ck_X0_countRests (Nat.le_of_ble_eq_true rfl) cMap (fun p e s m args below meth c A hx hb hml hr hlocks hown hts hK hD hA hP hS ls hl => ?_)
  have hown : s.vm.findClass "HideReader$Beasts" = some m.cls := hown
  have hl : lv_has ls 8 [(0, .ref (a 49)), (1, .ref (q (4 * i0))), (2, .int (mI p1)), (3, .int (mI p2)), (4, .ref (a 1))] := hl
  refine lv_aload_n hx hb dX0_countRests_0 rfl (lv_at hl 0 rfl) ?_
  refine lv_aload_n hx hb dX0_countRests_1 rfl (lv_at hl 1 rfl) ?_
  refine lv_iload_n hx hb dX0_countRests_2 rfl (lv_at hl 2 rfl) ?_
  refine lv_aload_n hx hb dX0_countRests_3 rfl (lv_at hl 0 rfl) ?_
  refine cg_bea_firstGains hx hb hts hown hK hP uw_2_170 dX0_countRests_4 ?_
  refine g_v (cDt hD) hS hA (g_V (own := "HideReader$Beasts") (As := [.ref (q (4 * i0)), .int (mI p1), .ref (a 50)]) (rest := []) hx hb hml hown hts hK hP (cDt hD) (kc_X0_fillGains_bea_past_bea_firstGains (l := l) (D := D) (k := k) (i0 := i0) (by omega) (by omega) h_x_told_herds h_x_told_beasts h_x_lat_placements h_x_smi_irons h_x_smi_aim b_B_told_brands b_B_lat_lowHalves b_B_lat_highHalves b_B_lat_ways b_B_smi_placedIrons b_B_smi_within b_B_smi_costs b_B_bea_firstGains b_Ph g_T (by omega)) ck_X0_fillGains iv_X0_fillGains uw_6_2 (cv_bea hK hP) rfl hl.1 rfl (Nat.le_of_ble_eq_true rfl) dX0_countRests_7 ⟨Nat.le_of_ble_eq_true rfl, Nat.le_of_ble_eq_true rfl⟩ ⟨Nat.le_of_ble_eq_true rfl, Nat.le_of_ble_eq_true rfl⟩) (fun H locs hQ hS => ?_)
  obtain ⟨F_2, F_3, y_4, F_5, bF_2, bF_3, hr_1_2, bF_5, hP⟩ := hQ
  refine lv_aload_n hx hb dX0_countRests_10 rfl (lv_at hl 0 rfl) ?_
  refine lv_aload_n hx hb dX0_countRests_11 rfl (lv_at hl 1 rfl) ?_
  refine lv_iload_n hx hb dX0_countRests_12 rfl (lv_at hl 3 rfl) ?_
  refine lv_aload_n hx hb dX0_countRests_13 rfl (lv_at hl 0 rfl) ?_
  refine cg_bea_otherGains hx hb hts hown hK hP uw_2_171 dX0_countRests_14 ?_
  refine g_v (cDt hD) hS hA (g_V (own := "HideReader$Beasts") (As := [.ref (q (4 * i0)), .int (mI p2), .ref (a 51)]) (rest := []) hx hb hml hown hts hK hP (cDt hD) (kc_X0_fillGains_bea_past_bea_otherGains (l := l) (D := D) (k := k) (i0 := i0) (by omega) (by omega) h_x_told_herds h_x_told_beasts h_x_lat_placements h_x_smi_irons (by omega) b_B_told_brands b_B_lat_lowHalves b_B_lat_highHalves b_B_lat_ways b_B_smi_placedIrons bF_2 bF_3 b_B_bea_otherGains b_Ph g_T (by omega)) ck_X0_fillGains iv_X0_fillGains uw_6_2 (cv_bea hK hP) rfl hl.1 rfl (Nat.le_of_ble_eq_true rfl) dX0_countRests_17 ⟨Nat.le_of_ble_eq_true rfl, Nat.le_of_ble_eq_true rfl⟩ ⟨Nat.le_of_ble_eq_true rfl, Nat.le_of_ble_eq_true rfl⟩) (fun H locs hQ hS => ?_)
  obtain ⟨F_7, F_8, y_9, F_10, bF_7, bF_8, hr_6_2, bF_10, hP⟩ := hQ
  refine lv_iconst (v := mI 0) hx hb dX0_countRests_20 rfl ?_
  refine lv_istore (lv' := [(5, .int (mI 0)), (0, .ref (a 49)), (1, .ref (q (4 * i0))), (2, .int (mI p1)), (3, .int (mI p2)), (4, .ref (a 1))]) hx hb dX0_countRests_21 hl (by decide) rfl (fun ls hl => ?_)
  refine lv_iconst (v := mI 0) hx hb dX0_countRests_23 rfl ?_
  refine lv_istore (lv' := [(6, .int (mI 0)), (5, .int (mI 0)), (0, .ref (a 49)), (1, .ref (q (4 * i0))), (2, .int (mI p1)), (3, .int (mI p2)), (4, .ref (a 1))]) hx hb dX0_countRests_24 hl (by decide) rfl (fun ls hl => ?_)
  refine sy_loop (I := fun n H locs g => ∃ (z_14472 : Int) (z_14473 : Int) (F_14474 : Nat → Int) (ls : Array Slot), (0 ≤ z_14472 ∧ z_14472 ≤ 8) ∧ (-2147483648 ≤ z_14473 ∧ z_14473 ≤ 2147483647) ∧ (bd (-2147483648) 2147483647 F_14474) ∧ (8 - z_14472).toNat = n ∧ va_P D vwCl (cW k a q x_xo_lyingCount x_tape_length x_tape_next x_tape_kind x_tape_place x_tape_number x_tape_faultKind x_tape_faultPlace x_told_turns x_told_mirror x_told_night x_told_draw x_told_herds x_told_irons x_told_beasts x_told_linesTold x_tfo_steps x_tfo_units x_draft_turns x_draft_mirror x_draft_night x_draft_draw x_draft_herds x_draft_irons x_draft_beasts x_draft_linesTold x_dfo_steps x_dfo_units x_lat_placements x_smi_irons y_9 x_his_here x_his_undoable x_his_redoable x_book_placedCount x_wit_count x_wit_time n_tape_name F_14474 B_tape_bytes B_told_brands B_told_ironMarks B_told_homes B_told_births B_tfo_kinds B_tfo_numbers B_tfo_stack B_tfo_facts B_draft_brands B_draft_ironMarks B_draft_homes B_draft_births B_dfo_kinds B_dfo_numbers B_dfo_stack B_dfo_facts B_lat_lowHalves B_lat_highHalves B_lat_ways B_smi_placedIrons F_7 F_8 B_his_isKept B_book_norms B_book_above B_book_heights B_book_placedBrands F_5 F_10 B_wit_burnings B_wit_strokes B_wit_wasOn B_wit_toldAt B_wit_untoldAt B_wit_on B_wit_off B_wit_firstCounts B_wit_secondCounts Ps Pd G_tape_wordNames G_told_herdNames G_told_ironNames G_told_beastNames G_draft_herdNames G_draft_ironNames G_draft_beastNames Ph Po Pg ex) H ∧ va_S A s.heap H locs ∧ lv_has ls 8 [(6, .int (mI z_14472)), (5, .int (mI z_14473)), (0, .ref (a 49)), (1, .ref (q (4 * i0))), (2, .int (mI p1)), (3, .int (mI p2)), (4, .ref (a 1))] ∧ g = F0 m 26 ls []) ?_ _ ⟨0, 0, B_xo_lying, _, by omega, by omega, b_B_xo_lying, rfl, hP, hS, lv_sub hl [0, 1, 2, 3, 4, 5, 6] rfl, rfl⟩
  intro n_14609 H locs g hI ih_14610
  obtain ⟨z_14472, z_14473, F_14474, ls, h26_0, h26_1, bF_14474, mn_14609, hP, hS, hl, rfl⟩ := hI
  refine lv_iload hx hb dX0_countRests_26 (lv_at hl 0 rfl) ?_
  refine lv_aload_n hx hb dX0_countRests_28 rfl (lv_at hl 2 rfl) ?_
  refine cg_bea_told hx hb hts hown hK hP uw_2_167 dX0_countRests_29 ?_
  refine cg_told_beasts hx hb hts hown hK hP uw_1_180 dX0_countRests_32 ?_
  refine sy_icmp_ge (tgt := 122) hx hb dX0_countRests_35 (by decide) (by omega) (by omega) (fun c_14611 => ?_) (fun c_14611 => ?_)
  · skip
    refine lv_iload hx hb dX0_countRests_122 (lv_at hl 1 rfl) ?_
    exact r_i hx hb hr hlocks dX0_countRests_124 hS ⟨F_14474, F_7, F_8, y_9, F_5, F_10, by omega, bF_14474, bF_7, bF_8, by omega, bF_5, bF_10, hP⟩
  · skip
    refine lv_iconst (v := mI 0) hx hb dX0_countRests_38 rfl ?_
    refine lv_istore (lv' := [(7, .int (mI 0)), (6, .int (mI z_14472)), (5, .int (mI z_14473)), (0, .ref (a 49)), (1, .ref (q (4 * i0))), (2, .int (mI p1)), (3, .int (mI p2)), (4, .ref (a 1))]) hx hb dX0_countRests_39 hl (by decide) rfl (fun ls hl => ?_)
    refine sy_loop (I := fun n H locs g => ∃ (z_14720 : Int) (z_14721 : Int) (F_14722 : Nat → Int) (ls : Array Slot), (0 ≤ z_14720 ∧ z_14720 ≤ 8) ∧ (-2147483648 ≤ z_14721 ∧ z_14721 ≤ 2147483647) ∧ (bd (-2147483648) 2147483647 F_14722) ∧ (8 - z_14720).toNat = n ∧ va_P D vwCl (cW k a q x_xo_lyingCount x_tape_length x_tape_next x_tape_kind x_tape_place x_tape_number x_tape_faultKind x_tape_faultPlace x_told_turns x_told_mirror x_told_night x_told_draw x_told_herds x_told_irons x_told_beasts x_told_linesTold x_tfo_steps x_tfo_units x_draft_turns x_draft_mirror x_draft_night x_draft_draw x_draft_herds x_draft_irons x_draft_beasts x_draft_linesTold x_dfo_steps x_dfo_units x_lat_placements x_smi_irons y_9 x_his_here x_his_undoable x_his_redoable x_book_placedCount x_wit_count x_wit_time n_tape_name F_14722 B_tape_bytes B_told_brands B_told_ironMarks B_told_homes B_told_births B_tfo_kinds B_tfo_numbers B_tfo_stack B_tfo_facts B_draft_brands B_draft_ironMarks B_draft_homes B_draft_births B_dfo_kinds B_dfo_numbers B_dfo_stack B_dfo_facts B_lat_lowHalves B_lat_highHalves B_lat_ways B_smi_placedIrons F_7 F_8 B_his_isKept B_book_norms B_book_above B_book_heights B_book_placedBrands F_5 F_10 B_wit_burnings B_wit_strokes B_wit_wasOn B_wit_toldAt B_wit_untoldAt B_wit_on B_wit_off B_wit_firstCounts B_wit_secondCounts Ps Pd G_tape_wordNames G_told_herdNames G_told_ironNames G_told_beastNames G_draft_herdNames G_draft_ironNames G_draft_beastNames Ph Po Pg ex) H ∧ va_S A s.heap H locs ∧ lv_has ls 8 [(7, .int (mI z_14720)), (6, .int (mI z_14472)), (5, .int (mI z_14721)), (0, .ref (a 49)), (1, .ref (q (4 * i0))), (2, .int (mI p1)), (3, .int (mI p2)), (4, .ref (a 1))] ∧ g = F0 m 41 ls []) ?_ _ ⟨0, z_14473, F_14474, _, by omega, by omega, bF_14474, rfl, hP, hS, lv_sub hl [0, 1, 2, 3, 4, 5, 6, 7] rfl, rfl⟩
    intro n_14733 H locs g hI ih_14734
    obtain ⟨z_14720, z_14721, F_14722, ls, h41_0, h41_1, bF_14722, mn_14733, hP, hS, hl, rfl⟩ := hI
    refine lv_iload hx hb dX0_countRests_41 (lv_at hl 0 rfl) ?_
    refine lv_aload_n hx hb dX0_countRests_43 rfl (lv_at hl 3 rfl) ?_
    refine cg_bea_told hx hb hts hown hK hP uw_2_167 dX0_countRests_44 ?_
    refine cg_told_beasts hx hb hts hown hK hP uw_1_180 dX0_countRests_47 ?_
    refine sy_icmp_ge (tgt := 116) hx hb dX0_countRests_50 (by decide) (by omega) (by omega) (fun c_14735 => ?_) (fun c_14735 => ?_)
    · skip
      refine lv_iinc (v := mI (z_14472 + 1)) (lv' := [(6, .int (mI (z_14472 + 1))), (7, .int (mI z_14720)), (5, .int (mI z_14721)), (0, .ref (a 49)), (1, .ref (q (4 * i0))), (2, .int (mI p1)), (3, .int (mI p2)), (4, .ref (a 1))]) hx hb dX0_countRests_116 hl (k := 1) rfl (mI_ad rfl) (by decide) rfl (fun ls hl => ?_)
      refine lv_goto (tgt := 26) hx hb dX0_countRests_119 (by decide) ?_
      exact ih_14610 _ _ _ _ (by omega) ⟨(z_14472 + 1), z_14721, F_14722, _, by omega, by omega, bF_14722, rfl, hP, hS, lv_sub hl [0, 2, 3, 4, 5, 6, 7] rfl, rfl⟩
    · skip
      refine lv_aload_n hx hb dX0_countRests_53 rfl (lv_at hl 3 rfl) ?_
      refine lv_aload_n hx hb dX0_countRests_54 rfl (lv_at hl 3 rfl) ?_
      refine cg_bea_firstGains hx hb hts hown hK hP uw_2_170 dX0_countRests_55 ?_
      refine lv_iload hx hb dX0_countRests_58 (lv_at hl 1 rfl) ?_
      refine lv_iload hx hb dX0_countRests_60 (lv_at hl 0 rfl) ?_
      refine g_i (cDt hD) hS hA (g_V (own := "HideReader$Beasts") (As := [.ref (a 50), .int (mI z_14472), .int (mI z_14720)]) (rest := []) hx hb hml hown hts hK hP (cDt hD) (kc_X0_staysAt_bea_bea_firstGains (l := l) (D := D) (k := k) (by omega) (by omega) h_x_told_beasts bF_5) ck_X0_staysAt iv_X0_staysAt uw_6_6 (cv_bea hK hP) rfl hl.1 rfl (Nat.le_of_ble_eq_true rfl) dX0_countRests_62 ⟨Nat.le_of_ble_eq_true rfl, Nat.le_of_ble_eq_true rfl⟩ ⟨Nat.le_of_ble_eq_true rfl, Nat.le_of_ble_eq_true rfl⟩) (fun r_14736 H locs hQ hS => ?_)
      obtain ⟨hr_14736_0, hP⟩ := hQ
      refine sy_if_eq (tgt := 110) hx hb dX0_countRests_65 (by decide) (by omega) (fun c_14737 => ?_) (fun c_14737 => ?_)
      · skip
        refine lv_iinc (v := mI (z_14720 + 1)) (lv' := [(7, .int (mI (z_14720 + 1))), (6, .int (mI z_14472)), (5, .int (mI z_14721)), (0, .ref (a 49)), (1, .ref (q (4 * i0))), (2, .int (mI p1)), (3, .int (mI p2)), (4, .ref (a 1))]) hx hb dX0_countRests_110 hl (k := 0) rfl (mI_ad rfl) (by decide) rfl (fun ls hl => ?_)
        refine lv_goto (tgt := 41) hx hb dX0_countRests_113 (by decide) ?_
        exact ih_14734 _ _ _ _ (by omega) ⟨(z_14720 + 1), z_14721, F_14722, _, by omega, by omega, bF_14722, rfl, hP, hS, lv_sub hl [0, 1, 2, 3, 4, 5, 6, 7] rfl, rfl⟩
      · skip
        refine lv_aload_n hx hb dX0_countRests_68 rfl (lv_at hl 3 rfl) ?_
        refine lv_aload_n hx hb dX0_countRests_69 rfl (lv_at hl 3 rfl) ?_
        refine cg_bea_otherGains hx hb hts hown hK hP uw_2_171 dX0_countRests_70 ?_
        refine lv_iload hx hb dX0_countRests_73 (lv_at hl 0 rfl) ?_
        refine lv_iload hx hb dX0_countRests_75 (lv_at hl 1 rfl) ?_
        refine g_i (cDt hD) hS hA (g_V (own := "HideReader$Beasts") (As := [.ref (a 51), .int (mI z_14720), .int (mI z_14472)]) (rest := []) hx hb hml hown hts hK hP (cDt hD) (kc_X0_staysAt_bea_bea_otherGains (l := l) (D := D) (k := k) (by omega) (by omega) h_x_told_beasts bF_10) ck_X0_staysAt iv_X0_staysAt uw_6_6 (cv_bea hK hP) rfl hl.1 rfl (Nat.le_of_ble_eq_true rfl) dX0_countRests_77 ⟨Nat.le_of_ble_eq_true rfl, Nat.le_of_ble_eq_true rfl⟩ ⟨Nat.le_of_ble_eq_true rfl, Nat.le_of_ble_eq_true rfl⟩) (fun r_14738 H locs hQ hS => ?_)
        obtain ⟨hr_14738_0, hP⟩ := hQ
        refine sy_if_eq (tgt := 110) hx hb dX0_countRests_80 (by decide) (by omega) (fun c_14739 => ?_) (fun c_14739 => ?_)
        · skip
          refine lv_iinc (v := mI (z_14720 + 1)) (lv' := [(7, .int (mI (z_14720 + 1))), (6, .int (mI z_14472)), (5, .int (mI z_14721)), (0, .ref (a 49)), (1, .ref (q (4 * i0))), (2, .int (mI p1)), (3, .int (mI p2)), (4, .ref (a 1))]) hx hb dX0_countRests_110 hl (k := 0) rfl (mI_ad rfl) (by decide) rfl (fun ls hl => ?_)
          refine lv_goto (tgt := 41) hx hb dX0_countRests_113 (by decide) ?_
          exact ih_14734 _ _ _ _ (by omega) ⟨(z_14720 + 1), z_14721, F_14722, _, by omega, by omega, bF_14722, rfl, hP, hS, lv_sub hl [0, 1, 2, 3, 4, 5, 6, 7] rfl, rfl⟩
        · skip
          refine lv_iload hx hb dX0_countRests_83 (lv_at hl 2 rfl) ?_
          refine sy_if_ne (tgt := 107) hx hb dX0_countRests_85 (by decide) (by omega) (fun c_14740 => ?_) (fun c_14740 => ?_)
          · skip
            refine lv_iinc (v := mI (z_14721 + 1)) (lv' := [(5, .int (mI (z_14721 + 1))), (7, .int (mI z_14720)), (6, .int (mI z_14472)), (0, .ref (a 49)), (1, .ref (q (4 * i0))), (2, .int (mI p1)), (3, .int (mI p2)), (4, .ref (a 1))]) hx hb dX0_countRests_107 hl (k := 2) rfl (mI_ad rfl) (by decide) rfl (fun ls hl => ?_)
            obtain ⟨z_14741, ez_14741, hz_14741⟩ := mI_of (mI (z_14721 + 1))
            rw [ez_14741] at hl
            refine lv_iinc (v := mI (z_14720 + 1)) (lv' := [(7, .int (mI (z_14720 + 1))), (5, .int (mI z_14741)), (6, .int (mI z_14472)), (0, .ref (a 49)), (1, .ref (q (4 * i0))), (2, .int (mI p1)), (3, .int (mI p2)), (4, .ref (a 1))]) hx hb dX0_countRests_110 hl (k := 1) rfl (mI_ad rfl) (by decide) rfl (fun ls hl => ?_)
            refine lv_goto (tgt := 41) hx hb dX0_countRests_113 (by decide) ?_
            exact ih_14734 _ _ _ _ (by omega) ⟨(z_14720 + 1), z_14741, F_14722, _, by omega, by omega, bF_14722, rfl, hP, hS, lv_sub hl [0, 2, 1, 3, 4, 5, 6, 7] rfl, rfl⟩
          · skip
            refine lv_aload hx hb dX0_countRests_88 (lv_at hl 7 rfl) ?_
            refine cn_xo_lying hx hb hK hP dX0_countRests_90 ?_
            refine lv_iconst (v := mI 2) hx hb dX0_countRests_91 rfl ?_
            refine sy_icmp_lt (tgt := 107) hx hb dX0_countRests_92 (by decide) (by decide) (by decide) (fun c9 => absurd c9 (by decide)) (fun c_14742 => ?_)
            refine lv_aload hx hb dX0_countRests_95 (lv_at hl 7 rfl) ?_
            refine lv_iconst (v := mI 0) hx hb dX0_countRests_97 rfl ?_
            refine lv_iload hx hb dX0_countRests_98 (lv_at hl 1 rfl) ?_
            refine cs_xo_lying hx hb hK hP hD hS dX0_countRests_100 (by omega) bF_14722 (by omega) (fun F_14743 H locs _ bF_14743 hP hS => ?_)
            refine lv_aload hx hb dX0_countRests_101 (lv_at hl 7 rfl) ?_
            refine lv_iconst (v := mI 1) hx hb dX0_countRests_103 rfl ?_
            refine lv_iload hx hb dX0_countRests_104 (lv_at hl 0 rfl) ?_
            refine cs_xo_lying hx hb hK hP hD hS dX0_countRests_106 (by omega) bF_14743 (by omega) (fun F_14744 H locs _ bF_14744 hP hS => ?_)
            refine lv_iinc (v := mI (z_14721 + 1)) (lv' := [(5, .int (mI (z_14721 + 1))), (7, .int (mI z_14720)), (6, .int (mI z_14472)), (0, .ref (a 49)), (1, .ref (q (4 * i0))), (2, .int (mI p1)), (3, .int (mI p2)), (4, .ref (a 1))]) hx hb dX0_countRests_107 hl (k := 2) rfl (mI_ad rfl) (by decide) rfl (fun ls hl => ?_)
            refine lv_iinc (v := mI (z_14720 + 1)) (lv' := [(7, .int (mI (z_14720 + 1))), (5, .int (mI (z_14721 + 1))), (6, .int (mI z_14472)), (0, .ref (a 49)), (1, .ref (q (4 * i0))), (2, .int (mI p1)), (3, .int (mI p2)), (4, .ref (a 1))]) hx hb dX0_countRests_110 hl (k := 1) rfl (mI_ad rfl) (by decide) rfl (fun ls hl => ?_)
            refine lv_goto (tgt := 41) hx hb dX0_countRests_113 (by decide) ?_
            exact ih_14734 _ _ _ _ (by omega) ⟨(z_14720 + 1), (z_14721 + 1), F_14744, _, by omega, by omega, bF_14744, rfl, hP, hS, lv_sub hl [0, 2, 1, 3, 4, 5, 6, 7] rfl, rfl⟩
set_option maxHeartbeats 4000000 in
set_option maxRecDepth 100000 in
theorem kc_X0_fillGains_bea_past_xo_lying {p1 : Int} {i0 : Nat} (hi0 : i0 < 44) (hp1 : 0 ≤ p1 ∧ p1 ≤ 7) (h_x_told_herds : 0 ≤ x_told_herds ∧ x_told_herds ≤ 8) (h_x_told_beasts : 0 ≤ x_told_beasts ∧ x_told_beasts ≤ 8) (h_x_lat_placements : 1 ≤ x_lat_placements ∧ x_lat_placements ≤ 8) (h_x_smi_irons : 0 ≤ x_smi_irons ∧ x_smi_irons ≤ 6) (h_x_smi_aim : -2147483648 ≤ x_smi_aim ∧ x_smi_aim ≤ 2147483647) (b_B_xo_lying : bd (-2147483648) 2147483647 B_xo_lying) (b_B_told_brands : bd (-2147483648) 2147483647 B_told_brands) (b_B_lat_lowHalves : bd (0) 4095 B_lat_lowHalves) (b_B_lat_highHalves : bd (0) 4095 B_lat_highHalves) (b_B_lat_ways : bd (0) 7 B_lat_ways) (b_B_smi_placedIrons : bd (0) 4095 B_smi_placedIrons) (b_B_smi_within : bd (0) 4095 B_smi_within) (b_B_smi_costs : bd (-128) 127 B_smi_costs) (b_Ph : pb (0) 4095 Ph) (g_T : tI x_told_herds x_told_beasts B_told_brands B_told_homes) (hr0 : 0 ≤ x_told_herds - p1 - 1) : MetG l D k yX0_fillGains cX0_fillGains 6 none 4 [.ref (a 49), .ref (q (4 * i0)), .int (mI p1), .ref (a 1)] (cW k a q x_xo_lyingCount x_tape_length x_tape_next x_tape_kind x_tape_place x_tape_number x_tape_faultKind x_tape_faultPlace x_told_turns x_told_mirror x_told_night x_told_draw x_told_herds x_told_irons x_told_beasts x_told_linesTold x_tfo_steps x_tfo_units x_draft_turns x_draft_mirror x_draft_night x_draft_draw x_draft_herds x_draft_irons x_draft_beasts x_draft_linesTold x_dfo_steps x_dfo_units x_lat_placements x_smi_irons x_smi_aim x_his_here x_his_undoable x_his_redoable x_book_placedCount x_wit_count x_wit_time n_tape_name B_xo_lying B_tape_bytes B_told_brands B_told_ironMarks B_told_homes B_told_births B_tfo_kinds B_tfo_numbers B_tfo_stack B_tfo_facts B_draft_brands B_draft_ironMarks B_draft_homes B_draft_births B_dfo_kinds B_dfo_numbers B_dfo_stack B_dfo_facts B_lat_lowHalves B_lat_highHalves B_lat_ways B_smi_placedIrons B_smi_within B_smi_costs B_his_isKept B_book_norms B_book_above B_book_heights B_book_placedBrands B_bea_firstGains B_bea_otherGains B_wit_burnings B_wit_strokes B_wit_wasOn B_wit_toldAt B_wit_untoldAt B_wit_on B_wit_off B_wit_firstCounts B_wit_secondCounts Ps Pd G_tape_wordNames G_told_herdNames G_told_ironNames G_told_beastNames G_draft_herdNames G_draft_ironNames G_draft_beastNames Ph Po Pg ex) (qGv (fun H => ∃ (F_xo_lying : Nat → Int) (F_smi_within : Nat → Int) (F_smi_costs : Nat → Int) (y_smi_aim : Int), (bd (-2147483648) 2147483647 F_xo_lying) ∧ (bd (0) 4095 F_smi_within) ∧ (bd (-128) 127 F_smi_costs) ∧ (-2147483648 ≤ y_smi_aim ∧ y_smi_aim ≤ 2147483647) ∧ va_P D vwCl (cW k a q x_xo_lyingCount x_tape_length x_tape_next x_tape_kind x_tape_place x_tape_number x_tape_faultKind x_tape_faultPlace x_told_turns x_told_mirror x_told_night x_told_draw x_told_herds x_told_irons x_told_beasts x_told_linesTold x_tfo_steps x_tfo_units x_draft_turns x_draft_mirror x_draft_night x_draft_draw x_draft_herds x_draft_irons x_draft_beasts x_draft_linesTold x_dfo_steps x_dfo_units x_lat_placements x_smi_irons y_smi_aim x_his_here x_his_undoable x_his_redoable x_book_placedCount x_wit_count x_wit_time n_tape_name F_xo_lying B_tape_bytes B_told_brands B_told_ironMarks B_told_homes B_told_births B_tfo_kinds B_tfo_numbers B_tfo_stack B_tfo_facts B_draft_brands B_draft_ironMarks B_draft_homes B_draft_births B_dfo_kinds B_dfo_numbers B_dfo_stack B_dfo_facts B_lat_lowHalves B_lat_highHalves B_lat_ways B_smi_placedIrons F_smi_within F_smi_costs B_his_isKept B_book_norms B_book_above B_book_heights B_book_placedBrands B_bea_firstGains B_bea_otherGains B_wit_burnings B_wit_strokes B_wit_wasOn B_wit_toldAt B_wit_untoldAt B_wit_on B_wit_off B_wit_firstCounts B_wit_secondCounts Ps Pd G_tape_wordNames G_told_herdNames G_told_ironNames G_told_beastNames G_draft_herdNames G_draft_ironNames G_draft_beastNames Ph Po Pg ex) H)) := by
  refine metG_of 3 ck_X0_fillGains (Nat.le_of_ble_eq_true rfl) cMap (fun p e s m args below meth c A hx hb hml hr hlocks hown hts hK hD hA hP hS ls hl => ?_)
  have hown : s.vm.findClass "HideReader$Beasts" = some m.cls := hown
  have hl : lv_has ls 6 [(0, .ref (a 49)), (1, .ref (q (4 * i0))), (2, .int (mI p1)), (3, .ref (a 1))] := hl
  refine lv_iconst (v := mI 0) hx hb dX0_fillGains_0 rfl ?_
  refine lv_istore (lv' := [(4, .int (mI 0)), (0, .ref (a 49)), (1, .ref (q (4 * i0))), (2, .int (mI p1)), (3, .ref (a 1))]) hx hb dX0_fillGains_1 hl (by decide) rfl (fun ls hl => ?_)
  refine sy_loop (I := fun n H locs g => ∃ (z_116 : Int) (F_117 : Nat → Int) (F_118 : Nat → Int) (F_119 : Nat → Int) (y_120 : Int) (ls : Array Slot), (0 ≤ z_116 ∧ z_116 ≤ 8) ∧ (bd (-2147483648) 2147483647 F_117) ∧ (bd (0) 4095 F_118) ∧ (bd (-128) 127 F_119) ∧ (-2147483648 ≤ y_120 ∧ y_120 ≤ 2147483647) ∧ (8 - z_116).toNat = n ∧ va_P D vwCl (cW k a q x_xo_lyingCount x_tape_length x_tape_next x_tape_kind x_tape_place x_tape_number x_tape_faultKind x_tape_faultPlace x_told_turns x_told_mirror x_told_night x_told_draw x_told_herds x_told_irons x_told_beasts x_told_linesTold x_tfo_steps x_tfo_units x_draft_turns x_draft_mirror x_draft_night x_draft_draw x_draft_herds x_draft_irons x_draft_beasts x_draft_linesTold x_dfo_steps x_dfo_units x_lat_placements x_smi_irons y_120 x_his_here x_his_undoable x_his_redoable x_book_placedCount x_wit_count x_wit_time n_tape_name F_117 B_tape_bytes B_told_brands B_told_ironMarks B_told_homes B_told_births B_tfo_kinds B_tfo_numbers B_tfo_stack B_tfo_facts B_draft_brands B_draft_ironMarks B_draft_homes B_draft_births B_dfo_kinds B_dfo_numbers B_dfo_stack B_dfo_facts B_lat_lowHalves B_lat_highHalves B_lat_ways B_smi_placedIrons F_118 F_119 B_his_isKept B_book_norms B_book_above B_book_heights B_book_placedBrands B_bea_firstGains B_bea_otherGains B_wit_burnings B_wit_strokes B_wit_wasOn B_wit_toldAt B_wit_untoldAt B_wit_on B_wit_off B_wit_firstCounts B_wit_secondCounts Ps Pd G_tape_wordNames G_told_herdNames G_told_ironNames G_told_beastNames G_draft_herdNames G_draft_ironNames G_draft_beastNames Ph Po Pg ex) H ∧ va_S A s.heap H locs ∧ lv_has ls 6 [(4, .int (mI z_116)), (0, .ref (a 49)), (1, .ref (q (4 * i0))), (2, .int (mI p1)), (3, .ref (a 1))] ∧ g = F0 m 3 ls []) ?_ _ ⟨0, B_xo_lying, B_smi_within, B_smi_costs, x_smi_aim, _, by omega, b_B_xo_lying, b_B_smi_within, b_B_smi_costs, by omega, rfl, hP, hS, lv_sub hl [0, 1, 2, 3, 4] rfl, rfl⟩
  intro n_131 H locs g hI ih_132
  obtain ⟨z_116, F_117, F_118, F_119, y_120, ls, h3_0, bF_117, bF_118, bF_119, h3_4, mn_131, hP, hS, hl, rfl⟩ := hI
  refine lv_iload hx hb dX0_fillGains_3 (lv_at hl 0 rfl) ?_
  refine lv_aload_n hx hb dX0_fillGains_5 rfl (lv_at hl 1 rfl) ?_
  refine cg_bea_told hx hb hts hown hK hP uw_2_167 dX0_fillGains_6 ?_
  refine cg_told_beasts hx hb hts hown hK hP uw_1_180 dX0_fillGains_9 ?_
  refine sy_icmp_ge (tgt := 65) hx hb dX0_fillGains_12 (by decide) (by omega) (by omega) (fun c_133 => ?_) (fun c_133 => ?_)
  · skip
    exact r_v hx hb hr hlocks dX0_fillGains_65 hS ⟨F_117, F_118, F_119, y_120, bF_117, bF_118, bF_119, by omega, hP⟩
  · skip
    refine lv_aload_n hx hb dX0_fillGains_15 rfl (lv_at hl 1 rfl) ?_
    refine cg_bea_smith hx hb hts hown hK hP uw_2_169 dX0_fillGains_16 ?_
    refine lv_aload_n hx hb dX0_fillGains_19 rfl (lv_at hl 2 rfl) ?_
    refine cg_past_hides (i := i0) (by omega) hx hb hts hown hK hP uw_2_87 dX0_fillGains_20 ?_
    refine lv_iload hx hb dX0_fillGains_23 (lv_at hl 0 rfl) ?_
    refine cl_past_hides (i := i0) (by omega) hx hb hK hP dX0_fillGains_25 (by omega) b_Ph (fun z_134 _ hz_134 => ?_)
    refine lv_aload_n hx hb dX0_fillGains_26 rfl (lv_at hl 1 rfl) ?_
    refine cg_bea_told hx hb hts hown hK hP uw_2_167 dX0_fillGains_27 ?_
    refine cg_told_brands hx hb hts hown hK hP uw_1_197 dX0_fillGains_30 ?_
    refine lv_iload_n hx hb dX0_fillGains_33 rfl (lv_at hl 3 rfl) ?_
    refine cl_told_brands hx hb hK hP dX0_fillGains_34 (by omega) b_B_told_brands (fun z_135 ez_135 hz_135 => ?_)
    have hz_135 := tI_b g_T (by omega) ez_135
    refine g_i (cDt hD) hS hA (g_V (own := "HideReader$Beasts") (As := [.int (mI z_134), .int (mI z_135)]) (rest := []) hx hb hml hown hts hK hP (cDt hD) (kc_X6_fewest (l := l) (D := D) (k := k) (by omega) (by omega) h_x_lat_placements h_x_smi_irons (by omega) b_B_lat_lowHalves b_B_lat_highHalves b_B_lat_ways b_B_smi_placedIrons bF_118 bF_119) ck_X6_fewest iv_X6_fewest uw_5_104 (cv_smi hK hP) rfl hl.1 rfl (Nat.le_of_ble_eq_true rfl) dX0_fillGains_35 ⟨Nat.le_of_ble_eq_true rfl, Nat.le_of_ble_eq_true rfl⟩ ⟨Nat.le_of_ble_eq_true rfl, Nat.le_of_ble_eq_true rfl⟩) (fun r_136 H locs hQ hS => ?_)
    obtain ⟨F_137, F_138, y_139, hr_136_0, bF_137, bF_138, hr_136_3, hP⟩ := hQ
    refine lv_istore (lv' := [(5, .int (mI r_136)), (4, .int (mI z_116)), (0, .ref (a 49)), (1, .ref (q (4 * i0))), (2, .int (mI p1)), (3, .ref (a 1))]) hx hb dX0_fillGains_38 hl (by decide) rfl (fun ls hl => ?_)
    refine lv_aload_n hx hb dX0_fillGains_40 rfl (lv_at hl 5 rfl) ?_
    refine lv_iload hx hb dX0_fillGains_41 (lv_at hl 1 rfl) ?_
    refine lv_iload hx hb dX0_fillGains_43 (lv_at hl 0 rfl) ?_
    refine lv_iconst (v := mI (-1)) hx hb dX0_fillGains_45 rfl ?_
    refine sy_icmp_ne (tgt := 53) hx hb dX0_fillGains_46 (by decide) (by omega) (by decide) (fun c_140 => ?_) (fun c_140 => ?_)
    · skip
      refine lv_bipush (v := mI 10) hx hb dX0_fillGains_53 (by decide) ?_
      refine lv_iload hx hb dX0_fillGains_55 (lv_at hl 0 rfl) ?_
      refine sy_isub hx hb dX0_fillGains_57 (-r_136 + 10) (by omega) ?_
      refine cs_xo_lying hx hb hK hP hD hS dX0_fillGains_58 (by omega) bF_117 (by omega) (fun F_141 H locs _ bF_141 hP hS => ?_)
      refine lv_iinc (v := mI (z_116 + 1)) (lv' := [(4, .int (mI (z_116 + 1))), (5, .int (mI r_136)), (0, .ref (a 49)), (1, .ref (q (4 * i0))), (2, .int (mI p1)), (3, .ref (a 1))]) hx hb dX0_fillGains_59 hl (k := 1) rfl (mI_ad rfl) (by decide) rfl (fun ls hl => ?_)
      refine lv_goto (tgt := 3) hx hb dX0_fillGains_62 (by decide) ?_
      exact ih_132 _ _ _ _ (by omega) ⟨(z_116 + 1), F_141, F_137, F_138, y_139, _, by omega, bF_141, bF_137, bF_138, by omega, rfl, hP, hS, lv_sub hl [0, 2, 3, 4, 5] rfl, rfl⟩
    · skip
      refine lv_iconst (v := mI 0) hx hb dX0_fillGains_49 rfl ?_
      refine lv_goto (tgt := 58) hx hb dX0_fillGains_50 (by decide) ?_
      refine cs_xo_lying hx hb hK hP hD hS dX0_fillGains_58 (by omega) bF_117 (by omega) (fun F_142 H locs _ bF_142 hP hS => ?_)
      refine lv_iinc (v := mI (z_116 + 1)) (lv' := [(4, .int (mI (z_116 + 1))), (5, .int (mI r_136)), (0, .ref (a 49)), (1, .ref (q (4 * i0))), (2, .int (mI p1)), (3, .ref (a 1))]) hx hb dX0_fillGains_59 hl (k := 1) rfl (mI_ad rfl) (by decide) rfl (fun ls hl => ?_)
      refine lv_goto (tgt := 3) hx hb dX0_fillGains_62 (by decide) ?_
      exact ih_132 _ _ _ _ (by omega) ⟨(z_116 + 1), F_142, F_137, F_138, y_139, _, by omega, bF_142, bF_137, bF_138, by omega, rfl, hP, hS, lv_sub hl [0, 2, 3, 4, 5] rfl, rfl⟩
set_option maxHeartbeats 4000000 in
set_option maxRecDepth 100000 in
theorem kc_X0_staysAt_bea_xo_lying {p1 p2 : Int} (hp1 : 0 ≤ p1 ∧ p1 ≤ 7) (hp2 : 0 ≤ p2 ∧ p2 ≤ 7) (h_x_told_beasts : 0 ≤ x_told_beasts ∧ x_told_beasts ≤ 8) (b_B_xo_lying : bd (-2147483648) 2147483647 B_xo_lying) : MetG l D k yX0_staysAt cX0_staysAt 6 (some .boolean) 0 [.ref (a 49), .ref (a 1), .int (mI p1), .int (mI p2)] (cW k a q x_xo_lyingCount x_tape_length x_tape_next x_tape_kind x_tape_place x_tape_number x_tape_faultKind x_tape_faultPlace x_told_turns x_told_mirror x_told_night x_told_draw x_told_herds x_told_irons x_told_beasts x_told_linesTold x_tfo_steps x_tfo_units x_draft_turns x_draft_mirror x_draft_night x_draft_draw x_draft_herds x_draft_irons x_draft_beasts x_draft_linesTold x_dfo_steps x_dfo_units x_lat_placements x_smi_irons x_smi_aim x_his_here x_his_undoable x_his_redoable x_book_placedCount x_wit_count x_wit_time n_tape_name B_xo_lying B_tape_bytes B_told_brands B_told_ironMarks B_told_homes B_told_births B_tfo_kinds B_tfo_numbers B_tfo_stack B_tfo_facts B_draft_brands B_draft_ironMarks B_draft_homes B_draft_births B_dfo_kinds B_dfo_numbers B_dfo_stack B_dfo_facts B_lat_lowHalves B_lat_highHalves B_lat_ways B_smi_placedIrons B_smi_within B_smi_costs B_his_isKept B_book_norms B_book_above B_book_heights B_book_placedBrands B_bea_firstGains B_bea_otherGains B_wit_burnings B_wit_strokes B_wit_wasOn B_wit_toldAt B_wit_untoldAt B_wit_on B_wit_off B_wit_firstCounts B_wit_secondCounts Ps Pd G_tape_wordNames G_told_herdNames G_told_ironNames G_told_beastNames G_draft_herdNames G_draft_ironNames G_draft_beastNames Ph Po Pg ex) (qGi (fun r0 H => (0 ≤ r0 ∧ r0 ≤ 1) ∧ va_P D vwCl (cW k a q x_xo_lyingCount x_tape_length x_tape_next x_tape_kind x_tape_place x_tape_number x_tape_faultKind x_tape_faultPlace x_told_turns x_told_mirror x_told_night x_told_draw x_told_herds x_told_irons x_told_beasts x_told_linesTold x_tfo_steps x_tfo_units x_draft_turns x_draft_mirror x_draft_night x_draft_draw x_draft_herds x_draft_irons x_draft_beasts x_draft_linesTold x_dfo_steps x_dfo_units x_lat_placements x_smi_irons x_smi_aim x_his_here x_his_undoable x_his_redoable x_book_placedCount x_wit_count x_wit_time n_tape_name B_xo_lying B_tape_bytes B_told_brands B_told_ironMarks B_told_homes B_told_births B_tfo_kinds B_tfo_numbers B_tfo_stack B_tfo_facts B_draft_brands B_draft_ironMarks B_draft_homes B_draft_births B_dfo_kinds B_dfo_numbers B_dfo_stack B_dfo_facts B_lat_lowHalves B_lat_highHalves B_lat_ways B_smi_placedIrons B_smi_within B_smi_costs B_his_isKept B_book_norms B_book_above B_book_heights B_book_placedBrands B_bea_firstGains B_bea_otherGains B_wit_burnings B_wit_strokes B_wit_wasOn B_wit_toldAt B_wit_untoldAt B_wit_on B_wit_off B_wit_firstCounts B_wit_secondCounts Ps Pd G_tape_wordNames G_told_herdNames G_told_ironNames G_told_beastNames G_draft_herdNames G_draft_ironNames G_draft_beastNames Ph Po Pg ex) H)) := by
  refine metG_of 3 ck_X0_staysAt (Nat.le_of_ble_eq_true rfl) cMap (fun p e s m args below meth c A hx hb hml hr hlocks hown hts hK hD hA hP hS ls hl => ?_)
  have hown : s.vm.findClass "HideReader$Beasts" = some m.cls := hown
  have hl : lv_has ls 6 [(0, .ref (a 49)), (1, .ref (a 1)), (2, .int (mI p1)), (3, .int (mI p2))] := hl
  refine lv_iload_n hx hb dX0_staysAt_0 rfl (lv_at hl 2 rfl) ?_
  refine lv_iload_n hx hb dX0_staysAt_1 rfl (lv_at hl 3 rfl) ?_
  refine sy_join (I := fun H locs g => ∃ (z_3 : Int) (ls : Array Slot), (-2147483648 ≤ z_3 ∧ z_3 ≤ 2147483647) ∧ va_P D vwCl (cW k a q x_xo_lyingCount x_tape_length x_tape_next x_tape_kind x_tape_place x_tape_number x_tape_faultKind x_tape_faultPlace x_told_turns x_told_mirror x_told_night x_told_draw x_told_herds x_told_irons x_told_beasts x_told_linesTold x_tfo_steps x_tfo_units x_draft_turns x_draft_mirror x_draft_night x_draft_draw x_draft_herds x_draft_irons x_draft_beasts x_draft_linesTold x_dfo_steps x_dfo_units x_lat_placements x_smi_irons x_smi_aim x_his_here x_his_undoable x_his_redoable x_book_placedCount x_wit_count x_wit_time n_tape_name B_xo_lying B_tape_bytes B_told_brands B_told_ironMarks B_told_homes B_told_births B_tfo_kinds B_tfo_numbers B_tfo_stack B_tfo_facts B_draft_brands B_draft_ironMarks B_draft_homes B_draft_births B_dfo_kinds B_dfo_numbers B_dfo_stack B_dfo_facts B_lat_lowHalves B_lat_highHalves B_lat_ways B_smi_placedIrons B_smi_within B_smi_costs B_his_isKept B_book_norms B_book_above B_book_heights B_book_placedBrands B_bea_firstGains B_bea_otherGains B_wit_burnings B_wit_strokes B_wit_wasOn B_wit_toldAt B_wit_untoldAt B_wit_on B_wit_off B_wit_firstCounts B_wit_secondCounts Ps Pd G_tape_wordNames G_told_herdNames G_told_ironNames G_told_beastNames G_draft_herdNames G_draft_ironNames G_draft_beastNames Ph Po Pg ex) H ∧ va_S A s.heap H locs ∧ lv_has ls 6 [(0, .ref (a 49)), (1, .ref (a 1)), (2, .int (mI p1)), (3, .int (mI p2))] ∧ g = F0 m 12 ls [.int (mI z_3)]) ?_ ?_
  · skip
    intro H locs g hI
    obtain ⟨z_3, ls, h12_0, hP, hS, hl, rfl⟩ := hI
    refine lv_istore (lv' := [(4, .int (mI z_3)), (0, .ref (a 49)), (1, .ref (a 1)), (2, .int (mI p1)), (3, .int (mI p2))]) hx hb dX0_staysAt_12 hl (by decide) rfl (fun ls hl => ?_)
    refine lv_iconst (v := mI 0) hx hb dX0_staysAt_14 rfl ?_
    refine lv_istore (lv' := [(5, .int (mI 0)), (4, .int (mI z_3)), (0, .ref (a 49)), (1, .ref (a 1)), (2, .int (mI p1)), (3, .int (mI p2))]) hx hb dX0_staysAt_15 hl (by decide) rfl (fun ls hl => ?_)
    refine sy_loop (I := fun n H locs g => ∃ (z_39 : Int) (ls : Array Slot), (0 ≤ z_39 ∧ z_39 ≤ 8) ∧ (8 - z_39).toNat = n ∧ va_P D vwCl (cW k a q x_xo_lyingCount x_tape_length x_tape_next x_tape_kind x_tape_place x_tape_number x_tape_faultKind x_tape_faultPlace x_told_turns x_told_mirror x_told_night x_told_draw x_told_herds x_told_irons x_told_beasts x_told_linesTold x_tfo_steps x_tfo_units x_draft_turns x_draft_mirror x_draft_night x_draft_draw x_draft_herds x_draft_irons x_draft_beasts x_draft_linesTold x_dfo_steps x_dfo_units x_lat_placements x_smi_irons x_smi_aim x_his_here x_his_undoable x_his_redoable x_book_placedCount x_wit_count x_wit_time n_tape_name B_xo_lying B_tape_bytes B_told_brands B_told_ironMarks B_told_homes B_told_births B_tfo_kinds B_tfo_numbers B_tfo_stack B_tfo_facts B_draft_brands B_draft_ironMarks B_draft_homes B_draft_births B_dfo_kinds B_dfo_numbers B_dfo_stack B_dfo_facts B_lat_lowHalves B_lat_highHalves B_lat_ways B_smi_placedIrons B_smi_within B_smi_costs B_his_isKept B_book_norms B_book_above B_book_heights B_book_placedBrands B_bea_firstGains B_bea_otherGains B_wit_burnings B_wit_strokes B_wit_wasOn B_wit_toldAt B_wit_untoldAt B_wit_on B_wit_off B_wit_firstCounts B_wit_secondCounts Ps Pd G_tape_wordNames G_told_herdNames G_told_ironNames G_told_beastNames G_draft_herdNames G_draft_ironNames G_draft_beastNames Ph Po Pg ex) H ∧ va_S A s.heap H locs ∧ lv_has ls 6 [(5, .int (mI z_39)), (4, .int (mI z_3)), (0, .ref (a 49)), (1, .ref (a 1)), (2, .int (mI p1)), (3, .int (mI p2))] ∧ g = F0 m 17 ls []) ?_ _ ⟨0, _, by omega, rfl, hP, hS, lv_sub hl [0, 1, 2, 3, 4, 5] rfl, rfl⟩
    intro n_44 H locs g hI ih_45
    obtain ⟨z_39, ls, h17_0, mn_44, hP, hS, hl, rfl⟩ := hI
    refine lv_iload hx hb dX0_staysAt_17 (lv_at hl 0 rfl) ?_
    refine lv_aload_n hx hb dX0_staysAt_19 rfl (lv_at hl 2 rfl) ?_
    refine cg_bea_told hx hb hts hown hK hP uw_2_167 dX0_staysAt_20 ?_
    refine cg_told_beasts hx hb hts hown hK hP uw_1_180 dX0_staysAt_23 ?_
    refine sy_icmp_ge (tgt := 52) hx hb dX0_staysAt_26 (by decide) (by omega) (by omega) (fun c_46 => ?_) (fun c_46 => ?_)
    · skip
      refine lv_iconst (v := mI 1) hx hb dX0_staysAt_52 rfl ?_
      exact r_z hx hb hr hlocks dX0_staysAt_53 hS (by decide) ⟨by omega, hP⟩
    · skip
      refine lv_iload hx hb dX0_staysAt_29 (lv_at hl 0 rfl) ?_
      refine lv_iload_n hx hb dX0_staysAt_31 rfl (lv_at hl 5 rfl) ?_
      refine sy_icmp_eq (tgt := 46) hx hb dX0_staysAt_32 (by decide) (by omega) (by omega) (fun c_47 => ?_) (fun c_47 => ?_)
      · skip
        refine lv_iinc (v := mI (z_39 + 1)) (lv' := [(5, .int (mI (z_39 + 1))), (4, .int (mI z_3)), (0, .ref (a 49)), (1, .ref (a 1)), (2, .int (mI p1)), (3, .int (mI p2))]) hx hb dX0_staysAt_46 hl (k := 0) rfl (mI_ad rfl) (by decide) rfl (fun ls hl => ?_)
        refine lv_goto (tgt := 17) hx hb dX0_staysAt_49 (by decide) ?_
        exact ih_45 _ _ _ _ (by omega) ⟨(z_39 + 1), _, by omega, rfl, hP, hS, lv_sub hl [0, 1, 2, 3, 4, 5] rfl, rfl⟩
      · skip
        refine lv_aload_n hx hb dX0_staysAt_35 rfl (lv_at hl 3 rfl) ?_
        refine lv_iload hx hb dX0_staysAt_36 (lv_at hl 0 rfl) ?_
        refine cl_xo_lying hx hb hK hP dX0_staysAt_38 (by omega) b_B_xo_lying (fun z_48 _ hz_48 => ?_)
        refine lv_iload hx hb dX0_staysAt_39 (lv_at hl 1 rfl) ?_
        refine sy_icmp_le (tgt := 46) hx hb dX0_staysAt_41 (by decide) (by omega) (by omega) (fun c_49 => ?_) (fun c_49 => ?_)
        · skip
          refine lv_iinc (v := mI (z_39 + 1)) (lv' := [(5, .int (mI (z_39 + 1))), (4, .int (mI z_3)), (0, .ref (a 49)), (1, .ref (a 1)), (2, .int (mI p1)), (3, .int (mI p2))]) hx hb dX0_staysAt_46 hl (k := 0) rfl (mI_ad rfl) (by decide) rfl (fun ls hl => ?_)
          refine lv_goto (tgt := 17) hx hb dX0_staysAt_49 (by decide) ?_
          exact ih_45 _ _ _ _ (by omega) ⟨(z_39 + 1), _, by omega, rfl, hP, hS, lv_sub hl [0, 1, 2, 3, 4, 5] rfl, rfl⟩
        · skip
          refine lv_iconst (v := mI 0) hx hb dX0_staysAt_44 rfl ?_
          exact r_z hx hb hr hlocks dX0_staysAt_45 hS (by decide) ⟨by omega, hP⟩
  · skip
    intro J_4
    refine sy_icmp_ne (tgt := 9) hx hb dX0_staysAt_2 (by decide) (by omega) (by omega) (fun c_50 => ?_) (fun c_50 => ?_)
    · skip
      refine lv_aload_n hx hb dX0_staysAt_9 rfl (lv_at hl 1 rfl) ?_
      refine lv_iload_n hx hb dX0_staysAt_10 rfl (lv_at hl 2 rfl) ?_
      refine cl_xo_lying hx hb hK hP dX0_staysAt_11 (by omega) b_B_xo_lying (fun z_51 _ hz_51 => ?_)
      exact J_4 _ _ _ ⟨z_51, _, by omega, hP, hS, lv_sub hl [0, 1, 2, 3] rfl, rfl⟩
    · skip
      refine lv_iconst (v := mI 0) hx hb dX0_staysAt_5 rfl ?_
      refine lv_goto (tgt := 12) hx hb dX0_staysAt_6 (by decide) ?_
      exact J_4 _ _ _ ⟨0, _, by omega, hP, hS, lv_sub hl [0, 1, 2, 3] rfl, rfl⟩
set_option maxHeartbeats 4000000 in
set_option maxRecDepth 100000 in
theorem kc_X4_least {p0 : Int} (hp0 : -2147483648 ≤ p0 ∧ p0 ≤ 2147483647) (h_x_lat_placements : 1 ≤ x_lat_placements ∧ x_lat_placements ≤ 8) (b_B_lat_lowHalves : bd (0) 4095 B_lat_lowHalves) (b_B_lat_highHalves : bd (0) 4095 B_lat_highHalves) (b_B_lat_ways : bd (0) 7 B_lat_ways) : MetG l D k yX4_least cX4_least 4 (some .int) 1 [.ref (a 32), .int (mI p0)] (cW k a q x_xo_lyingCount x_tape_length x_tape_next x_tape_kind x_tape_place x_tape_number x_tape_faultKind x_tape_faultPlace x_told_turns x_told_mirror x_told_night x_told_draw x_told_herds x_told_irons x_told_beasts x_told_linesTold x_tfo_steps x_tfo_units x_draft_turns x_draft_mirror x_draft_night x_draft_draw x_draft_herds x_draft_irons x_draft_beasts x_draft_linesTold x_dfo_steps x_dfo_units x_lat_placements x_smi_irons x_smi_aim x_his_here x_his_undoable x_his_redoable x_book_placedCount x_wit_count x_wit_time n_tape_name B_xo_lying B_tape_bytes B_told_brands B_told_ironMarks B_told_homes B_told_births B_tfo_kinds B_tfo_numbers B_tfo_stack B_tfo_facts B_draft_brands B_draft_ironMarks B_draft_homes B_draft_births B_dfo_kinds B_dfo_numbers B_dfo_stack B_dfo_facts B_lat_lowHalves B_lat_highHalves B_lat_ways B_smi_placedIrons B_smi_within B_smi_costs B_his_isKept B_book_norms B_book_above B_book_heights B_book_placedBrands B_bea_firstGains B_bea_otherGains B_wit_burnings B_wit_strokes B_wit_wasOn B_wit_toldAt B_wit_untoldAt B_wit_on B_wit_off B_wit_firstCounts B_wit_secondCounts Ps Pd G_tape_wordNames G_told_herdNames G_told_ironNames G_told_beastNames G_draft_herdNames G_draft_ironNames G_draft_beastNames Ph Po Pg ex) (qGi (fun r0 H => (-2147483648 ≤ r0 ∧ r0 ≤ 2147483647) ∧ va_P D vwCl (cW k a q x_xo_lyingCount x_tape_length x_tape_next x_tape_kind x_tape_place x_tape_number x_tape_faultKind x_tape_faultPlace x_told_turns x_told_mirror x_told_night x_told_draw x_told_herds x_told_irons x_told_beasts x_told_linesTold x_tfo_steps x_tfo_units x_draft_turns x_draft_mirror x_draft_night x_draft_draw x_draft_herds x_draft_irons x_draft_beasts x_draft_linesTold x_dfo_steps x_dfo_units x_lat_placements x_smi_irons x_smi_aim x_his_here x_his_undoable x_his_redoable x_book_placedCount x_wit_count x_wit_time n_tape_name B_xo_lying B_tape_bytes B_told_brands B_told_ironMarks B_told_homes B_told_births B_tfo_kinds B_tfo_numbers B_tfo_stack B_tfo_facts B_draft_brands B_draft_ironMarks B_draft_homes B_draft_births B_dfo_kinds B_dfo_numbers B_dfo_stack B_dfo_facts B_lat_lowHalves B_lat_highHalves B_lat_ways B_smi_placedIrons B_smi_within B_smi_costs B_his_isKept B_book_norms B_book_above B_book_heights B_book_placedBrands B_bea_firstGains B_bea_otherGains B_wit_burnings B_wit_strokes B_wit_wasOn B_wit_toldAt B_wit_untoldAt B_wit_on B_wit_off B_wit_firstCounts B_wit_secondCounts Ps Pd G_tape_wordNames G_told_herdNames G_told_ironNames G_told_beastNames G_draft_herdNames G_draft_ironNames G_draft_beastNames Ph Po Pg ex) H)) := by
  refine metG_of 1 ck_X4_least (Nat.le_of_ble_eq_true rfl) cMap (fun p e s m args below meth c A hx hb hml hr hlocks hown hts hK hD hA hP hS ls hl => ?_)
  have hown : s.vm.findClass "HideReader$Lattice" = some m.cls := hown
  have hl : lv_has ls 4 [(0, .ref (a 32)), (1, .int (mI p0))] := hl
  refine lv_iload_n hx hb dX4_least_0 rfl (lv_at hl 1 rfl) ?_
  refine lv_istore_n (lv' := [(2, .int (mI p0)), (0, .ref (a 32)), (1, .int (mI p0))]) hx hb dX4_least_1 rfl hl (by decide) rfl (fun ls hl => ?_)
  refine lv_iconst (v := mI 1) hx hb dX4_least_2 rfl ?_
  refine lv_istore_n (lv' := [(3, .int (mI 1)), (2, .int (mI p0)), (0, .ref (a 32)), (1, .int (mI p0))]) hx hb dX4_least_3 rfl hl (by decide) rfl (fun ls hl => ?_)
  refine sy_loop (I := fun n H locs g => ∃ (z_39 : Int) (z_40 : Int) (ls : Array Slot), (1 ≤ z_39 ∧ z_39 ≤ 8) ∧ (-2147483648 ≤ z_40 ∧ z_40 ≤ 2147483647) ∧ (0 ≤ p0 - z_40) ∧ (8 - z_39).toNat = n ∧ va_P D vwCl (cW k a q x_xo_lyingCount x_tape_length x_tape_next x_tape_kind x_tape_place x_tape_number x_tape_faultKind x_tape_faultPlace x_told_turns x_told_mirror x_told_night x_told_draw x_told_herds x_told_irons x_told_beasts x_told_linesTold x_tfo_steps x_tfo_units x_draft_turns x_draft_mirror x_draft_night x_draft_draw x_draft_herds x_draft_irons x_draft_beasts x_draft_linesTold x_dfo_steps x_dfo_units x_lat_placements x_smi_irons x_smi_aim x_his_here x_his_undoable x_his_redoable x_book_placedCount x_wit_count x_wit_time n_tape_name B_xo_lying B_tape_bytes B_told_brands B_told_ironMarks B_told_homes B_told_births B_tfo_kinds B_tfo_numbers B_tfo_stack B_tfo_facts B_draft_brands B_draft_ironMarks B_draft_homes B_draft_births B_dfo_kinds B_dfo_numbers B_dfo_stack B_dfo_facts B_lat_lowHalves B_lat_highHalves B_lat_ways B_smi_placedIrons B_smi_within B_smi_costs B_his_isKept B_book_norms B_book_above B_book_heights B_book_placedBrands B_bea_firstGains B_bea_otherGains B_wit_burnings B_wit_strokes B_wit_wasOn B_wit_toldAt B_wit_untoldAt B_wit_on B_wit_off B_wit_firstCounts B_wit_secondCounts Ps Pd G_tape_wordNames G_told_herdNames G_told_ironNames G_told_beastNames G_draft_herdNames G_draft_ironNames G_draft_beastNames Ph Po Pg ex) H ∧ va_S A s.heap H locs ∧ lv_has ls 4 [(3, .int (mI z_39)), (2, .int (mI z_40)), (0, .ref (a 32)), (1, .int (mI p0))] ∧ g = F0 m 4 ls []) ?_ _ ⟨1, p0, _, by omega, by omega, by omega, rfl, hP, hS, lv_sub hl [0, 1, 2, 3] rfl, rfl⟩
  intro n_44 H locs g hI ih_45
  obtain ⟨z_39, z_40, ls, h4_0, h4_1, h4_2, mn_44, hP, hS, hl, rfl⟩ := hI
  refine lv_iload_n hx hb dX4_least_4 rfl (lv_at hl 0 rfl) ?_
  refine lv_aload_n hx hb dX4_least_5 rfl (lv_at hl 2 rfl) ?_
  refine cg_lat_placements hx hb hts hown hK hP uw_2_38 dX4_least_6 ?_
  refine sy_icmp_ge (tgt := 29) hx hb dX4_least_9 (by decide) (by omega) (by omega) (fun c_46 => ?_) (fun c_46 => ?_)
  · skip
    refine lv_iload_n hx hb dX4_least_29 rfl (lv_at hl 1 rfl) ?_
    exact r_i hx hb hr hlocks dX4_least_30 hS ⟨by omega, hP⟩
  · skip
    refine lv_iload_n hx hb dX4_least_12 rfl (lv_at hl 1 rfl) ?_
    refine lv_aload_n hx hb dX4_least_13 rfl (lv_at hl 2 rfl) ?_
    refine lv_iload_n hx hb dX4_least_14 rfl (lv_at hl 3 rfl) ?_
    refine lv_iload_n hx hb dX4_least_15 rfl (lv_at hl 0 rfl) ?_
    refine g_i (cDt hD) hS hA (g_V (own := "HideReader$Lattice") (As := [.int (mI p0), .int (mI z_39)]) (rest := [.int (mI z_40)]) hx hb hml hown hts hK hP (cDt hD) (kc_X4_moved (l := l) (D := D) (k := k) (by omega) (by omega) b_B_lat_lowHalves b_B_lat_highHalves b_B_lat_ways) ck_X4_moved iv_X4_moved uw_4_56 (cv_lat hK hP) rfl hl.1 rfl (Nat.le_of_ble_eq_true rfl) dX4_least_16 ⟨Nat.le_of_ble_eq_true rfl, Nat.le_of_ble_eq_true rfl⟩ ⟨Nat.le_of_ble_eq_true rfl, Nat.le_of_ble_eq_true rfl⟩) (fun r_47 H locs hQ hS => ?_)
    obtain ⟨hr_47_0, hP⟩ := hQ
    refine sy_min hx hb (hml.trans hl.1.symm) hown hts uw_4_57 (Nat.le_of_ble_eq_true rfl) (Nat.le_of_ble_eq_true rfl) (Nat.le_of_ble_eq_true rfl) (Nat.le_of_ble_eq_true rfl) dX4_least_19 (by omega) (by omega) (fun z_48 hz_48 => ?_)
    refine lv_istore_n (lv' := [(2, .int (mI z_48)), (3, .int (mI z_39)), (0, .ref (a 32)), (1, .int (mI p0))]) hx hb dX4_least_22 rfl hl (by decide) rfl (fun ls hl => ?_)
    refine lv_iinc (v := mI (z_39 + 1)) (lv' := [(3, .int (mI (z_39 + 1))), (2, .int (mI z_48)), (0, .ref (a 32)), (1, .int (mI p0))]) hx hb dX4_least_23 hl (k := 1) rfl (mI_ad rfl) (by decide) rfl (fun ls hl => ?_)
    refine lv_goto (tgt := 4) hx hb dX4_least_26 (by decide) ?_
    exact ih_45 _ _ _ _ (by omega) ⟨(z_39 + 1), z_48, _, by omega, by omega, by omega, rfl, hP, hS, lv_sub hl [0, 1, 2, 3] rfl, rfl⟩
set_option maxHeartbeats 4000000 in
set_option maxRecDepth 100000 in
theorem kc_X4_fits {p0 p1 : Int} (hp0 : -2147483648 ≤ p0 ∧ p0 ≤ 2147483647) (hp1 : -2147483648 ≤ p1 ∧ p1 ≤ 2147483647) (h_x_lat_placements : 1 ≤ x_lat_placements ∧ x_lat_placements ≤ 8) (b_B_lat_lowHalves : bd (0) 4095 B_lat_lowHalves) (b_B_lat_highHalves : bd (0) 4095 B_lat_highHalves) (b_B_lat_ways : bd (0) 7 B_lat_ways) : MetG l D k yX4_fits cX4_fits 4 (some .boolean) 1 [.ref (a 32), .int (mI p0), .int (mI p1)] (cW k a q x_xo_lyingCount x_tape_length x_tape_next x_tape_kind x_tape_place x_tape_number x_tape_faultKind x_tape_faultPlace x_told_turns x_told_mirror x_told_night x_told_draw x_told_herds x_told_irons x_told_beasts x_told_linesTold x_tfo_steps x_tfo_units x_draft_turns x_draft_mirror x_draft_night x_draft_draw x_draft_herds x_draft_irons x_draft_beasts x_draft_linesTold x_dfo_steps x_dfo_units x_lat_placements x_smi_irons x_smi_aim x_his_here x_his_undoable x_his_redoable x_book_placedCount x_wit_count x_wit_time n_tape_name B_xo_lying B_tape_bytes B_told_brands B_told_ironMarks B_told_homes B_told_births B_tfo_kinds B_tfo_numbers B_tfo_stack B_tfo_facts B_draft_brands B_draft_ironMarks B_draft_homes B_draft_births B_dfo_kinds B_dfo_numbers B_dfo_stack B_dfo_facts B_lat_lowHalves B_lat_highHalves B_lat_ways B_smi_placedIrons B_smi_within B_smi_costs B_his_isKept B_book_norms B_book_above B_book_heights B_book_placedBrands B_bea_firstGains B_bea_otherGains B_wit_burnings B_wit_strokes B_wit_wasOn B_wit_toldAt B_wit_untoldAt B_wit_on B_wit_off B_wit_firstCounts B_wit_secondCounts Ps Pd G_tape_wordNames G_told_herdNames G_told_ironNames G_told_beastNames G_draft_herdNames G_draft_ironNames G_draft_beastNames Ph Po Pg ex) (qGi (fun r0 H => (0 ≤ r0 ∧ r0 ≤ 1) ∧ va_P D vwCl (cW k a q x_xo_lyingCount x_tape_length x_tape_next x_tape_kind x_tape_place x_tape_number x_tape_faultKind x_tape_faultPlace x_told_turns x_told_mirror x_told_night x_told_draw x_told_herds x_told_irons x_told_beasts x_told_linesTold x_tfo_steps x_tfo_units x_draft_turns x_draft_mirror x_draft_night x_draft_draw x_draft_herds x_draft_irons x_draft_beasts x_draft_linesTold x_dfo_steps x_dfo_units x_lat_placements x_smi_irons x_smi_aim x_his_here x_his_undoable x_his_redoable x_book_placedCount x_wit_count x_wit_time n_tape_name B_xo_lying B_tape_bytes B_told_brands B_told_ironMarks B_told_homes B_told_births B_tfo_kinds B_tfo_numbers B_tfo_stack B_tfo_facts B_draft_brands B_draft_ironMarks B_draft_homes B_draft_births B_dfo_kinds B_dfo_numbers B_dfo_stack B_dfo_facts B_lat_lowHalves B_lat_highHalves B_lat_ways B_smi_placedIrons B_smi_within B_smi_costs B_his_isKept B_book_norms B_book_above B_book_heights B_book_placedBrands B_bea_firstGains B_bea_otherGains B_wit_burnings B_wit_strokes B_wit_wasOn B_wit_toldAt B_wit_untoldAt B_wit_on B_wit_off B_wit_firstCounts B_wit_secondCounts Ps Pd G_tape_wordNames G_told_herdNames G_told_ironNames G_told_beastNames G_draft_herdNames G_draft_ironNames G_draft_beastNames Ph Po Pg ex) H)) := by
  refine metG_of 2 ck_X4_fits (Nat.le_of_ble_eq_true rfl) cMap (fun p e s m args below meth c A hx hb hml hr hlocks hown hts hK hD hA hP hS ls hl => ?_)
  have hown : s.vm.findClass "HideReader$Lattice" = some m.cls := hown
  have hl : lv_has ls 4 [(0, .ref (a 32)), (1, .int (mI p0)), (2, .int (mI p1))] := hl
  refine lv_iconst (v := mI 0) hx hb dX4_fits_0 rfl ?_
  refine lv_istore_n (lv' := [(3, .int (mI 0)), (0, .ref (a 32)), (1, .int (mI p0)), (2, .int (mI p1))]) hx hb dX4_fits_1 rfl hl (by decide) rfl (fun ls hl => ?_)
  refine sy_loop (I := fun n H locs g => ∃ (z_42 : Int) (ls : Array Slot), (0 ≤ z_42 ∧ z_42 ≤ 8) ∧ (8 - z_42).toNat = n ∧ va_P D vwCl (cW k a q x_xo_lyingCount x_tape_length x_tape_next x_tape_kind x_tape_place x_tape_number x_tape_faultKind x_tape_faultPlace x_told_turns x_told_mirror x_told_night x_told_draw x_told_herds x_told_irons x_told_beasts x_told_linesTold x_tfo_steps x_tfo_units x_draft_turns x_draft_mirror x_draft_night x_draft_draw x_draft_herds x_draft_irons x_draft_beasts x_draft_linesTold x_dfo_steps x_dfo_units x_lat_placements x_smi_irons x_smi_aim x_his_here x_his_undoable x_his_redoable x_book_placedCount x_wit_count x_wit_time n_tape_name B_xo_lying B_tape_bytes B_told_brands B_told_ironMarks B_told_homes B_told_births B_tfo_kinds B_tfo_numbers B_tfo_stack B_tfo_facts B_draft_brands B_draft_ironMarks B_draft_homes B_draft_births B_dfo_kinds B_dfo_numbers B_dfo_stack B_dfo_facts B_lat_lowHalves B_lat_highHalves B_lat_ways B_smi_placedIrons B_smi_within B_smi_costs B_his_isKept B_book_norms B_book_above B_book_heights B_book_placedBrands B_bea_firstGains B_bea_otherGains B_wit_burnings B_wit_strokes B_wit_wasOn B_wit_toldAt B_wit_untoldAt B_wit_on B_wit_off B_wit_firstCounts B_wit_secondCounts Ps Pd G_tape_wordNames G_told_herdNames G_told_ironNames G_told_beastNames G_draft_herdNames G_draft_ironNames G_draft_beastNames Ph Po Pg ex) H ∧ va_S A s.heap H locs ∧ lv_has ls 4 [(3, .int (mI z_42)), (0, .ref (a 32)), (1, .int (mI p0)), (2, .int (mI p1))] ∧ g = F0 m 2 ls []) ?_ _ ⟨0, _, by omega, rfl, hP, hS, lv_sub hl [0, 1, 2, 3] rfl, rfl⟩
  intro n_48 H locs g hI ih_49
  obtain ⟨z_42, ls, h2_0, mn_48, hP, hS, hl, rfl⟩ := hI
  refine lv_iload_n hx hb dX4_fits_2 rfl (lv_at hl 0 rfl) ?_
  refine lv_aload_n hx hb dX4_fits_3 rfl (lv_at hl 1 rfl) ?_
  refine cg_lat_placements hx hb hts hown hK hP uw_2_38 dX4_fits_4 ?_
  refine sy_icmp_ge (tgt := 31) hx hb dX4_fits_7 (by decide) (by omega) (by omega) (fun c_50 => ?_) (fun c_50 => ?_)
  · skip
    refine lv_iconst (v := mI 0) hx hb dX4_fits_31 rfl ?_
    exact r_z hx hb hr hlocks dX4_fits_32 hS (by decide) ⟨by omega, hP⟩
  · skip
    refine lv_aload_n hx hb dX4_fits_10 rfl (lv_at hl 1 rfl) ?_
    refine lv_iload_n hx hb dX4_fits_11 rfl (lv_at hl 2 rfl) ?_
    refine lv_iload_n hx hb dX4_fits_12 rfl (lv_at hl 0 rfl) ?_
    refine g_i (cDt hD) hS hA (g_V (own := "HideReader$Lattice") (As := [.int (mI p0), .int (mI z_42)]) (rest := []) hx hb hml hown hts hK hP (cDt hD) (kc_X4_moved (l := l) (D := D) (k := k) (by omega) (by omega) b_B_lat_lowHalves b_B_lat_highHalves b_B_lat_ways) ck_X4_moved iv_X4_moved uw_4_56 (cv_lat hK hP) rfl hl.1 rfl (Nat.le_of_ble_eq_true rfl) dX4_fits_13 ⟨Nat.le_of_ble_eq_true rfl, Nat.le_of_ble_eq_true rfl⟩ ⟨Nat.le_of_ble_eq_true rfl, Nat.le_of_ble_eq_true rfl⟩) (fun r_51 H locs hQ hS => ?_)
    obtain ⟨hr_51_0, hP⟩ := hQ
    refine lv_iload_n hx hb dX4_fits_16 rfl (lv_at hl 3 rfl) ?_
    refine lv_iconst (v := mI (-1)) hx hb dX4_fits_17 rfl ?_
    refine lv_ixor hx hb dX4_fits_18 ?_
    refine sy_any (fun z_52 hz_52 => ?_)
    refine sy_iandL hx hb dX4_fits_19 (by omega) (fun z_53 hz_53 => ?_)
    refine sy_if_ne (tgt := 25) hx hb dX4_fits_20 (by decide) (by omega) (fun c_54 => ?_) (fun c_54 => ?_)
    · skip
      refine lv_iinc (v := mI (z_42 + 1)) (lv' := [(3, .int (mI (z_42 + 1))), (0, .ref (a 32)), (1, .int (mI p0)), (2, .int (mI p1))]) hx hb dX4_fits_25 hl (k := 0) rfl (mI_ad rfl) (by decide) rfl (fun ls hl => ?_)
      refine lv_goto (tgt := 2) hx hb dX4_fits_28 (by decide) ?_
      exact ih_49 _ _ _ _ (by omega) ⟨(z_42 + 1), _, by omega, rfl, hP, hS, lv_sub hl [0, 1, 2, 3] rfl, rfl⟩
    · skip
      refine lv_iconst (v := mI 1) hx hb dX4_fits_23 rfl ?_
      exact r_z hx hb hr hlocks dX4_fits_24 hS (by decide) ⟨by omega, hP⟩
set_option maxHeartbeats 4000000 in
set_option maxRecDepth 100000 in
theorem kc_X1_herdsAbove {p0 : Int} (hp0 : 0 ≤ p0 ∧ p0 ≤ 7) (h_x_told_herds : 0 ≤ x_told_herds ∧ x_told_herds ≤ 8) (h_x_lat_placements : 1 ≤ x_lat_placements ∧ x_lat_placements ≤ 8) (b_B_told_brands : bd (-2147483648) 2147483647 B_told_brands) (b_B_lat_lowHalves : bd (0) 4095 B_lat_lowHalves) (b_B_lat_highHalves : bd (0) 4095 B_lat_highHalves) (b_B_lat_ways : bd (0) 7 B_lat_ways) (b_B_book_norms : bd (-2147483648) 2147483647 B_book_norms) (g_T : tI x_told_herds x_told_beasts B_told_brands B_told_homes) : MetG l D k yX1_herdsAbove cX1_herdsAbove 4 (some .int) 2 [.ref (a 44), .int (mI p0)] (cW k a q x_xo_lyingCount x_tape_length x_tape_next x_tape_kind x_tape_place x_tape_number x_tape_faultKind x_tape_faultPlace x_told_turns x_told_mirror x_told_night x_told_draw x_told_herds x_told_irons x_told_beasts x_told_linesTold x_tfo_steps x_tfo_units x_draft_turns x_draft_mirror x_draft_night x_draft_draw x_draft_herds x_draft_irons x_draft_beasts x_draft_linesTold x_dfo_steps x_dfo_units x_lat_placements x_smi_irons x_smi_aim x_his_here x_his_undoable x_his_redoable x_book_placedCount x_wit_count x_wit_time n_tape_name B_xo_lying B_tape_bytes B_told_brands B_told_ironMarks B_told_homes B_told_births B_tfo_kinds B_tfo_numbers B_tfo_stack B_tfo_facts B_draft_brands B_draft_ironMarks B_draft_homes B_draft_births B_dfo_kinds B_dfo_numbers B_dfo_stack B_dfo_facts B_lat_lowHalves B_lat_highHalves B_lat_ways B_smi_placedIrons B_smi_within B_smi_costs B_his_isKept B_book_norms B_book_above B_book_heights B_book_placedBrands B_bea_firstGains B_bea_otherGains B_wit_burnings B_wit_strokes B_wit_wasOn B_wit_toldAt B_wit_untoldAt B_wit_on B_wit_off B_wit_firstCounts B_wit_secondCounts Ps Pd G_tape_wordNames G_told_herdNames G_told_ironNames G_told_beastNames G_draft_herdNames G_draft_ironNames G_draft_beastNames Ph Po Pg ex) (qGi (fun r0 H => (0 ≤ r0 ∧ r0 ≤ 255) ∧ va_P D vwCl (cW k a q x_xo_lyingCount x_tape_length x_tape_next x_tape_kind x_tape_place x_tape_number x_tape_faultKind x_tape_faultPlace x_told_turns x_told_mirror x_told_night x_told_draw x_told_herds x_told_irons x_told_beasts x_told_linesTold x_tfo_steps x_tfo_units x_draft_turns x_draft_mirror x_draft_night x_draft_draw x_draft_herds x_draft_irons x_draft_beasts x_draft_linesTold x_dfo_steps x_dfo_units x_lat_placements x_smi_irons x_smi_aim x_his_here x_his_undoable x_his_redoable x_book_placedCount x_wit_count x_wit_time n_tape_name B_xo_lying B_tape_bytes B_told_brands B_told_ironMarks B_told_homes B_told_births B_tfo_kinds B_tfo_numbers B_tfo_stack B_tfo_facts B_draft_brands B_draft_ironMarks B_draft_homes B_draft_births B_dfo_kinds B_dfo_numbers B_dfo_stack B_dfo_facts B_lat_lowHalves B_lat_highHalves B_lat_ways B_smi_placedIrons B_smi_within B_smi_costs B_his_isKept B_book_norms B_book_above B_book_heights B_book_placedBrands B_bea_firstGains B_bea_otherGains B_wit_burnings B_wit_strokes B_wit_wasOn B_wit_toldAt B_wit_untoldAt B_wit_on B_wit_off B_wit_firstCounts B_wit_secondCounts Ps Pd G_tape_wordNames G_told_herdNames G_told_ironNames G_told_beastNames G_draft_herdNames G_draft_ironNames G_draft_beastNames Ph Po Pg ex) H)) := by
  refine metG_of 1 ck_X1_herdsAbove (Nat.le_of_ble_eq_true rfl) cMap (fun p e s m args below meth c A hx hb hml hr hlocks hown hts hK hD hA hP hS ls hl => ?_)
  have hown : s.vm.findClass "HideReader$Book" = some m.cls := hown
  have hl : lv_has ls 4 [(0, .ref (a 44)), (1, .int (mI p0))] := hl
  refine lv_iconst (v := mI 0) hx hb dX1_herdsAbove_0 rfl ?_
  refine lv_istore_n (lv' := [(2, .int (mI 0)), (0, .ref (a 44)), (1, .int (mI p0))]) hx hb dX1_herdsAbove_1 rfl hl (by decide) rfl (fun ls hl => ?_)
  refine lv_iconst (v := mI 0) hx hb dX1_herdsAbove_2 rfl ?_
  refine lv_istore_n (lv' := [(3, .int (mI 0)), (2, .int (mI 0)), (0, .ref (a 44)), (1, .int (mI p0))]) hx hb dX1_herdsAbove_3 rfl hl (by decide) rfl (fun ls hl => ?_)
  refine sy_loop (I := fun n H locs g => ∃ (z_347 : Int) (z_348 : Int) (ls : Array Slot), (0 ≤ z_347 ∧ z_347 ≤ 8) ∧ (0 ≤ z_348 ∧ z_348 ≤ 255) ∧ (8 - z_347).toNat = n ∧ va_P D vwCl (cW k a q x_xo_lyingCount x_tape_length x_tape_next x_tape_kind x_tape_place x_tape_number x_tape_faultKind x_tape_faultPlace x_told_turns x_told_mirror x_told_night x_told_draw x_told_herds x_told_irons x_told_beasts x_told_linesTold x_tfo_steps x_tfo_units x_draft_turns x_draft_mirror x_draft_night x_draft_draw x_draft_herds x_draft_irons x_draft_beasts x_draft_linesTold x_dfo_steps x_dfo_units x_lat_placements x_smi_irons x_smi_aim x_his_here x_his_undoable x_his_redoable x_book_placedCount x_wit_count x_wit_time n_tape_name B_xo_lying B_tape_bytes B_told_brands B_told_ironMarks B_told_homes B_told_births B_tfo_kinds B_tfo_numbers B_tfo_stack B_tfo_facts B_draft_brands B_draft_ironMarks B_draft_homes B_draft_births B_dfo_kinds B_dfo_numbers B_dfo_stack B_dfo_facts B_lat_lowHalves B_lat_highHalves B_lat_ways B_smi_placedIrons B_smi_within B_smi_costs B_his_isKept B_book_norms B_book_above B_book_heights B_book_placedBrands B_bea_firstGains B_bea_otherGains B_wit_burnings B_wit_strokes B_wit_wasOn B_wit_toldAt B_wit_untoldAt B_wit_on B_wit_off B_wit_firstCounts B_wit_secondCounts Ps Pd G_tape_wordNames G_told_herdNames G_told_ironNames G_told_beastNames G_draft_herdNames G_draft_ironNames G_draft_beastNames Ph Po Pg ex) H ∧ va_S A s.heap H locs ∧ lv_has ls 4 [(3, .int (mI z_347)), (2, .int (mI z_348)), (0, .ref (a 44)), (1, .int (mI p0))] ∧ g = F0 m 4 ls []) ?_ _ ⟨0, 0, _, by omega, by omega, rfl, hP, hS, lv_sub hl [0, 1, 2, 3] rfl, rfl⟩
  intro n_359 H locs g hI ih_360
  obtain ⟨z_347, z_348, ls, h4_0, h4_1, mn_359, hP, hS, hl, rfl⟩ := hI
  refine lv_iload_n hx hb dX1_herdsAbove_4 rfl (lv_at hl 0 rfl) ?_
  refine lv_aload_n hx hb dX1_herdsAbove_5 rfl (lv_at hl 2 rfl) ?_
  refine cg_book_told hx hb hts hown hK hP uw_2_136 dX1_herdsAbove_6 ?_
  refine cg_told_herds hx hb hts hown hK hP uw_1_169 dX1_herdsAbove_9 ?_
  refine sy_icmp_ge (tgt := 70) hx hb dX1_herdsAbove_12 (by decide) (by omega) (by omega) (fun c_361 => ?_) (fun c_361 => ?_)
  · skip
    refine lv_iload_n hx hb dX1_herdsAbove_70 rfl (lv_at hl 1 rfl) ?_
    exact r_i hx hb hr hlocks dX1_herdsAbove_71 hS ⟨by omega, hP⟩
  · skip
    refine lv_aload_n hx hb dX1_herdsAbove_15 rfl (lv_at hl 2 rfl) ?_
    refine cg_book_norms hx hb hts hown hK hP uw_2_139 dX1_herdsAbove_16 ?_
    refine lv_iload_n hx hb dX1_herdsAbove_19 rfl (lv_at hl 0 rfl) ?_
    refine cl_book_norms hx hb hK hP dX1_herdsAbove_20 (by omega) b_B_book_norms (fun z_362 _ hz_362 => ?_)
    refine lv_aload_n hx hb dX1_herdsAbove_21 rfl (lv_at hl 2 rfl) ?_
    refine cg_book_norms hx hb hts hown hK hP uw_2_139 dX1_herdsAbove_22 ?_
    refine lv_iload_n hx hb dX1_herdsAbove_25 rfl (lv_at hl 3 rfl) ?_
    refine cl_book_norms hx hb hK hP dX1_herdsAbove_26 (by omega) b_B_book_norms (fun z_363 _ hz_363 => ?_)
    refine sy_icmp_eq (tgt := 64) hx hb dX1_herdsAbove_27 (by decide) (by omega) (by omega) (fun c_364 => ?_) (fun c_364 => ?_)
    · skip
      refine lv_iinc (v := mI (z_347 + 1)) (lv' := [(3, .int (mI (z_347 + 1))), (2, .int (mI z_348)), (0, .ref (a 44)), (1, .int (mI p0))]) hx hb dX1_herdsAbove_64 hl (k := 0) rfl (mI_ad rfl) (by decide) rfl (fun ls hl => ?_)
      refine lv_goto (tgt := 4) hx hb dX1_herdsAbove_67 (by decide) ?_
      exact ih_360 _ _ _ _ (by omega) ⟨(z_347 + 1), z_348, _, by omega, by omega, rfl, hP, hS, lv_sub hl [0, 1, 2, 3] rfl, rfl⟩
    · skip
      refine lv_aload_n hx hb dX1_herdsAbove_30 rfl (lv_at hl 2 rfl) ?_
      refine cg_book_lattice hx hb hts hown hK hP uw_2_137 dX1_herdsAbove_31 ?_
      refine lv_aload_n hx hb dX1_herdsAbove_34 rfl (lv_at hl 2 rfl) ?_
      refine cg_book_told hx hb hts hown hK hP uw_2_136 dX1_herdsAbove_35 ?_
      refine cg_told_brands hx hb hts hown hK hP uw_1_193 dX1_herdsAbove_38 ?_
      refine lv_iload_n hx hb dX1_herdsAbove_41 rfl (lv_at hl 3 rfl) ?_
      refine cl_told_brands hx hb hK hP dX1_herdsAbove_42 (by omega) b_B_told_brands (fun z_365 ez_365 hz_365 => ?_)
      refine lv_aload_n hx hb dX1_herdsAbove_43 rfl (lv_at hl 2 rfl) ?_
      refine cg_book_told hx hb hts hown hK hP uw_2_136 dX1_herdsAbove_44 ?_
      refine cg_told_brands hx hb hts hown hK hP uw_1_193 dX1_herdsAbove_47 ?_
      refine lv_iload_n hx hb dX1_herdsAbove_50 rfl (lv_at hl 0 rfl) ?_
      refine cl_told_brands hx hb hK hP dX1_herdsAbove_51 (by omega) b_B_told_brands (fun z_366 ez_366 hz_366 => ?_)
      have hz_366 := tI_b g_T (by omega) ez_366
      refine g_i (cDt hD) hS hA (g_V (own := "HideReader$Book") (As := [.int (mI z_365), .int (mI z_366)]) (rest := []) hx hb hml hown hts hK hP (cDt hD) (kc_X4_fits (l := l) (D := D) (k := k) (by omega) (by omega) h_x_lat_placements b_B_lat_lowHalves b_B_lat_highHalves b_B_lat_ways) ck_X4_fits iv_X4_fits uw_4_64 (cv_lat hK hP) rfl hl.1 rfl (Nat.le_of_ble_eq_true rfl) dX1_herdsAbove_52 ⟨Nat.le_of_ble_eq_true rfl, Nat.le_of_ble_eq_true rfl⟩ ⟨Nat.le_of_ble_eq_true rfl, Nat.le_of_ble_eq_true rfl⟩) (fun r_367 H locs hQ hS => ?_)
      obtain ⟨hr_367_0, hP⟩ := hQ
      refine sy_if_eq (tgt := 64) hx hb dX1_herdsAbove_55 (by decide) (by omega) (fun c_368 => ?_) (fun c_368 => ?_)
      · skip
        refine lv_iinc (v := mI (z_347 + 1)) (lv' := [(3, .int (mI (z_347 + 1))), (2, .int (mI z_348)), (0, .ref (a 44)), (1, .int (mI p0))]) hx hb dX1_herdsAbove_64 hl (k := 0) rfl (mI_ad rfl) (by decide) rfl (fun ls hl => ?_)
        refine lv_goto (tgt := 4) hx hb dX1_herdsAbove_67 (by decide) ?_
        exact ih_360 _ _ _ _ (by omega) ⟨(z_347 + 1), z_348, _, by omega, by omega, rfl, hP, hS, lv_sub hl [0, 1, 2, 3] rfl, rfl⟩
      · skip
        refine lv_iload_n hx hb dX1_herdsAbove_58 rfl (lv_at hl 1 rfl) ?_
        refine lv_iconst (v := mI 1) hx hb dX1_herdsAbove_59 rfl ?_
        refine lv_iload_n hx hb dX1_herdsAbove_60 rfl (lv_at hl 0 rfl) ?_
        refine sy_shl1 hx hb dX1_herdsAbove_61 7 (by decide) 128 (by decide) (by omega) (fun z_369 ez_369 hz_369 => ?_)
        refine sy_ior hx hb dX1_herdsAbove_62 8 (by decide) 256 (by decide) (by omega) (by omega) (fun z_370 hz_370 => ?_)
        refine lv_istore_n (lv' := [(2, .int (mI z_370)), (3, .int (mI z_347)), (0, .ref (a 44)), (1, .int (mI p0))]) hx hb dX1_herdsAbove_63 rfl hl (by decide) rfl (fun ls hl => ?_)
        refine lv_iinc (v := mI (z_347 + 1)) (lv' := [(3, .int (mI (z_347 + 1))), (2, .int (mI z_370)), (0, .ref (a 44)), (1, .int (mI p0))]) hx hb dX1_herdsAbove_64 hl (k := 1) rfl (mI_ad rfl) (by decide) rfl (fun ls hl => ?_)
        refine lv_goto (tgt := 4) hx hb dX1_herdsAbove_67 (by decide) ?_
        exact ih_360 _ _ _ _ (by omega) ⟨(z_347 + 1), z_370, _, by omega, by omega, rfl, hP, hS, lv_sub hl [0, 1, 2, 3] rfl, rfl⟩
set_option maxHeartbeats 4000000 in
set_option maxRecDepth 100000 in
theorem kc_X1_compareBrands (h_x_told_herds : 0 ≤ x_told_herds ∧ x_told_herds ≤ 8) (h_x_lat_placements : 1 ≤ x_lat_placements ∧ x_lat_placements ≤ 8) (b_B_told_brands : bd (-2147483648) 2147483647 B_told_brands) (b_B_lat_lowHalves : bd (0) 4095 B_lat_lowHalves) (b_B_lat_highHalves : bd (0) 4095 B_lat_highHalves) (b_B_lat_ways : bd (0) 7 B_lat_ways) (b_B_book_norms : bd (-2147483648) 2147483647 B_book_norms) (b_B_book_above : bd (-2147483648) 2147483647 B_book_above) (b_B_book_placedBrands : bd (0) 4095 B_book_placedBrands) (g_T : tI x_told_herds x_told_beasts B_told_brands B_told_homes) : MetG l D k yX1_compareBrands cX1_compareBrands 3 none 3 [.ref (a 44)] (cW k a q x_xo_lyingCount x_tape_length x_tape_next x_tape_kind x_tape_place x_tape_number x_tape_faultKind x_tape_faultPlace x_told_turns x_told_mirror x_told_night x_told_draw x_told_herds x_told_irons x_told_beasts x_told_linesTold x_tfo_steps x_tfo_units x_draft_turns x_draft_mirror x_draft_night x_draft_draw x_draft_herds x_draft_irons x_draft_beasts x_draft_linesTold x_dfo_steps x_dfo_units x_lat_placements x_smi_irons x_smi_aim x_his_here x_his_undoable x_his_redoable x_book_placedCount x_wit_count x_wit_time n_tape_name B_xo_lying B_tape_bytes B_told_brands B_told_ironMarks B_told_homes B_told_births B_tfo_kinds B_tfo_numbers B_tfo_stack B_tfo_facts B_draft_brands B_draft_ironMarks B_draft_homes B_draft_births B_dfo_kinds B_dfo_numbers B_dfo_stack B_dfo_facts B_lat_lowHalves B_lat_highHalves B_lat_ways B_smi_placedIrons B_smi_within B_smi_costs B_his_isKept B_book_norms B_book_above B_book_heights B_book_placedBrands B_bea_firstGains B_bea_otherGains B_wit_burnings B_wit_strokes B_wit_wasOn B_wit_toldAt B_wit_untoldAt B_wit_on B_wit_off B_wit_firstCounts B_wit_secondCounts Ps Pd G_tape_wordNames G_told_herdNames G_told_ironNames G_told_beastNames G_draft_herdNames G_draft_ironNames G_draft_beastNames Ph Po Pg ex) (qGv (fun H => ∃ (F_book_norms : Nat → Int) (F_book_above : Nat → Int) (F_book_placedBrands : Nat → Int) (y_book_placedCount : Int), (bd (-2147483648) 2147483647 F_book_norms) ∧ (bd (-2147483648) 2147483647 F_book_above) ∧ (bd (0) 4095 F_book_placedBrands) ∧ (0 ≤ y_book_placedCount ∧ y_book_placedCount ≤ 64) ∧ va_P D vwCl (cW k a q x_xo_lyingCount x_tape_length x_tape_next x_tape_kind x_tape_place x_tape_number x_tape_faultKind x_tape_faultPlace x_told_turns x_told_mirror x_told_night x_told_draw x_told_herds x_told_irons x_told_beasts x_told_linesTold x_tfo_steps x_tfo_units x_draft_turns x_draft_mirror x_draft_night x_draft_draw x_draft_herds x_draft_irons x_draft_beasts x_draft_linesTold x_dfo_steps x_dfo_units x_lat_placements x_smi_irons x_smi_aim x_his_here x_his_undoable x_his_redoable y_book_placedCount x_wit_count x_wit_time n_tape_name B_xo_lying B_tape_bytes B_told_brands B_told_ironMarks B_told_homes B_told_births B_tfo_kinds B_tfo_numbers B_tfo_stack B_tfo_facts B_draft_brands B_draft_ironMarks B_draft_homes B_draft_births B_dfo_kinds B_dfo_numbers B_dfo_stack B_dfo_facts B_lat_lowHalves B_lat_highHalves B_lat_ways B_smi_placedIrons B_smi_within B_smi_costs B_his_isKept F_book_norms F_book_above B_book_heights F_book_placedBrands B_bea_firstGains B_bea_otherGains B_wit_burnings B_wit_strokes B_wit_wasOn B_wit_toldAt B_wit_untoldAt B_wit_on B_wit_off B_wit_firstCounts B_wit_secondCounts Ps Pd G_tape_wordNames G_told_herdNames G_told_ironNames G_told_beastNames G_draft_herdNames G_draft_ironNames G_draft_beastNames Ph Po Pg ex) H)) := by
  refine metG_of 0 ck_X1_compareBrands (Nat.le_of_ble_eq_true rfl) cMap (fun p e s m args below meth c A hx hb hml hr hlocks hown hts hK hD hA hP hS ls hl => ?_)
  have hown : s.vm.findClass "HideReader$Book" = some m.cls := hown
  have hl : lv_has ls 3 [(0, .ref (a 44))] := hl
  refine lv_aload_n hx hb dX1_compareBrands_0 rfl (lv_at hl 0 rfl) ?_
  refine lv_iconst (v := mI 0) hx hb dX1_compareBrands_1 rfl ?_
  refine cp_book_placedCount hx hb hts hown hK hP hD hS uw_2_143 dX1_compareBrands_2 (fun H locs hP hS => ?_)
  refine lv_iconst (v := mI 0) hx hb dX1_compareBrands_5 rfl ?_
  refine lv_istore_n (lv' := [(1, .int (mI 0)), (0, .ref (a 44))]) hx hb dX1_compareBrands_6 rfl hl (by decide) rfl (fun ls hl => ?_)
  refine sy_loop (I := fun n H locs g => ∃ (z_1772 : Int) (F_1773 : Nat → Int) (F_1774 : Nat → Int) (y_1775 : Int) (ls : Array Slot), (0 ≤ z_1772 ∧ z_1772 ≤ 8) ∧ (bd (-2147483648) 2147483647 F_1773) ∧ (bd (0) 4095 F_1774) ∧ (0 ≤ y_1775 ∧ y_1775 ≤ 64) ∧ (0 ≤ 8 * z_1772 - y_1775) ∧ (8 - z_1772).toNat = n ∧ va_P D vwCl (cW k a q x_xo_lyingCount x_tape_length x_tape_next x_tape_kind x_tape_place x_tape_number x_tape_faultKind x_tape_faultPlace x_told_turns x_told_mirror x_told_night x_told_draw x_told_herds x_told_irons x_told_beasts x_told_linesTold x_tfo_steps x_tfo_units x_draft_turns x_draft_mirror x_draft_night x_draft_draw x_draft_herds x_draft_irons x_draft_beasts x_draft_linesTold x_dfo_steps x_dfo_units x_lat_placements x_smi_irons x_smi_aim x_his_here x_his_undoable x_his_redoable y_1775 x_wit_count x_wit_time n_tape_name B_xo_lying B_tape_bytes B_told_brands B_told_ironMarks B_told_homes B_told_births B_tfo_kinds B_tfo_numbers B_tfo_stack B_tfo_facts B_draft_brands B_draft_ironMarks B_draft_homes B_draft_births B_dfo_kinds B_dfo_numbers B_dfo_stack B_dfo_facts B_lat_lowHalves B_lat_highHalves B_lat_ways B_smi_placedIrons B_smi_within B_smi_costs B_his_isKept F_1773 B_book_above B_book_heights F_1774 B_bea_firstGains B_bea_otherGains B_wit_burnings B_wit_strokes B_wit_wasOn B_wit_toldAt B_wit_untoldAt B_wit_on B_wit_off B_wit_firstCounts B_wit_secondCounts Ps Pd G_tape_wordNames G_told_herdNames G_told_ironNames G_told_beastNames G_draft_herdNames G_draft_ironNames G_draft_beastNames Ph Po Pg ex) H ∧ va_S A s.heap H locs ∧ lv_has ls 3 [(1, .int (mI z_1772)), (0, .ref (a 44))] ∧ g = F0 m 7 ls []) ?_ _ ⟨0, B_book_norms, B_book_placedBrands, 0, _, by omega, b_B_book_norms, b_B_book_placedBrands, by omega, by omega, rfl, hP, hS, lv_sub hl [0, 1] rfl, rfl⟩
  intro n_1999 H locs g hI ih_2000
  obtain ⟨z_1772, F_1773, F_1774, y_1775, ls, h7_0, bF_1773, bF_1774, h7_3, h7_4, mn_1999, hP, hS, hl, rfl⟩ := hI
  refine lv_iload_n hx hb dX1_compareBrands_7 rfl (lv_at hl 0 rfl) ?_
  refine lv_aload_n hx hb dX1_compareBrands_8 rfl (lv_at hl 1 rfl) ?_
  refine cg_book_told hx hb hts hown hK hP uw_2_136 dX1_compareBrands_9 ?_
  refine cg_told_herds hx hb hts hown hK hP uw_1_169 dX1_compareBrands_12 ?_
  refine sy_icmp_ge (tgt := 101) hx hb dX1_compareBrands_15 (by decide) (by omega) (by omega) (fun c_2091 => ?_) (fun c_2091 => ?_)
  · skip
    refine lv_iconst (v := mI 0) hx hb dX1_compareBrands_101 rfl ?_
    refine lv_istore_n (lv' := [(1, .int (mI 0)), (0, .ref (a 44))]) hx hb dX1_compareBrands_102 rfl hl (by decide) rfl (fun ls hl => ?_)
    refine sy_loop (I := fun n H locs g => ∃ (z_2125 : Int) (F_2126 : Nat → Int) (ls : Array Slot), (0 ≤ z_2125 ∧ z_2125 ≤ 8) ∧ (bd (-2147483648) 2147483647 F_2126) ∧ (8 - z_2125).toNat = n ∧ va_P D vwCl (cW k a q x_xo_lyingCount x_tape_length x_tape_next x_tape_kind x_tape_place x_tape_number x_tape_faultKind x_tape_faultPlace x_told_turns x_told_mirror x_told_night x_told_draw x_told_herds x_told_irons x_told_beasts x_told_linesTold x_tfo_steps x_tfo_units x_draft_turns x_draft_mirror x_draft_night x_draft_draw x_draft_herds x_draft_irons x_draft_beasts x_draft_linesTold x_dfo_steps x_dfo_units x_lat_placements x_smi_irons x_smi_aim x_his_here x_his_undoable x_his_redoable y_1775 x_wit_count x_wit_time n_tape_name B_xo_lying B_tape_bytes B_told_brands B_told_ironMarks B_told_homes B_told_births B_tfo_kinds B_tfo_numbers B_tfo_stack B_tfo_facts B_draft_brands B_draft_ironMarks B_draft_homes B_draft_births B_dfo_kinds B_dfo_numbers B_dfo_stack B_dfo_facts B_lat_lowHalves B_lat_highHalves B_lat_ways B_smi_placedIrons B_smi_within B_smi_costs B_his_isKept F_1773 F_2126 B_book_heights F_1774 B_bea_firstGains B_bea_otherGains B_wit_burnings B_wit_strokes B_wit_wasOn B_wit_toldAt B_wit_untoldAt B_wit_on B_wit_off B_wit_firstCounts B_wit_secondCounts Ps Pd G_tape_wordNames G_told_herdNames G_told_ironNames G_told_beastNames G_draft_herdNames G_draft_ironNames G_draft_beastNames Ph Po Pg ex) H ∧ va_S A s.heap H locs ∧ lv_has ls 3 [(1, .int (mI z_2125)), (0, .ref (a 44))] ∧ g = F0 m 103 ls []) ?_ _ ⟨0, B_book_above, _, by omega, b_B_book_above, rfl, hP, hS, lv_sub hl [0, 1] rfl, rfl⟩
    intro n_2130 H locs g hI ih_2131
    obtain ⟨z_2125, F_2126, ls, h103_0, bF_2126, mn_2130, hP, hS, hl, rfl⟩ := hI
    refine lv_iload_n hx hb dX1_compareBrands_103 rfl (lv_at hl 0 rfl) ?_
    refine lv_aload_n hx hb dX1_compareBrands_104 rfl (lv_at hl 1 rfl) ?_
    refine cg_book_told hx hb hts hown hK hP uw_2_136 dX1_compareBrands_105 ?_
    refine cg_told_herds hx hb hts hown hK hP uw_1_169 dX1_compareBrands_108 ?_
    refine sy_icmp_ge (tgt := 131) hx hb dX1_compareBrands_111 (by decide) (by omega) (by omega) (fun c_2132 => ?_) (fun c_2132 => ?_)
    · skip
      exact r_v hx hb hr hlocks dX1_compareBrands_131 hS ⟨F_1773, F_2126, F_1774, y_1775, bF_1773, bF_2126, bF_1774, by omega, hP⟩
    · skip
      refine lv_aload_n hx hb dX1_compareBrands_114 rfl (lv_at hl 1 rfl) ?_
      refine cg_book_above hx hb hts hown hK hP uw_2_140 dX1_compareBrands_115 ?_
      refine lv_iload_n hx hb dX1_compareBrands_118 rfl (lv_at hl 0 rfl) ?_
      refine lv_aload_n hx hb dX1_compareBrands_119 rfl (lv_at hl 1 rfl) ?_
      refine lv_iload_n hx hb dX1_compareBrands_120 rfl (lv_at hl 0 rfl) ?_
      refine g_i (cDt hD) hS hA (g_V (own := "HideReader$Book") (As := [.int (mI z_2125)]) (rest := [.int (mI z_2125), .ref (a 46)]) hx hb hml hown hts hK hP (cDt hD) (kc_X1_herdsAbove (l := l) (D := D) (k := k) (by omega) h_x_told_herds h_x_lat_placements b_B_told_brands b_B_lat_lowHalves b_B_lat_highHalves b_B_lat_ways bF_1773 g_T) ck_X1_herdsAbove iv_X1_herdsAbove uw_4_60 (cv_book hK hP) rfl hl.1 rfl (Nat.le_of_ble_eq_true rfl) dX1_compareBrands_121 ⟨Nat.le_of_ble_eq_true rfl, Nat.le_of_ble_eq_true rfl⟩ ⟨Nat.le_of_ble_eq_true rfl, Nat.le_of_ble_eq_true rfl⟩) (fun r_2133 H locs hQ hS => ?_)
      obtain ⟨hr_2133_0, hP⟩ := hQ
      refine cs_book_above hx hb hK hP hD hS dX1_compareBrands_124 (by omega) bF_2126 (by omega) (fun F_2134 H locs _ bF_2134 hP hS => ?_)
      refine lv_iinc (v := mI (z_2125 + 1)) (lv' := [(1, .int (mI (z_2125 + 1))), (0, .ref (a 44))]) hx hb dX1_compareBrands_125 hl (k := 0) rfl (mI_ad rfl) (by decide) rfl (fun ls hl => ?_)
      refine lv_goto (tgt := 103) hx hb dX1_compareBrands_128 (by decide) ?_
      exact ih_2131 _ _ _ _ (by omega) ⟨(z_2125 + 1), F_2134, _, by omega, bF_2134, rfl, hP, hS, lv_sub hl [0, 1] rfl, rfl⟩
  · skip
    refine lv_aload_n hx hb dX1_compareBrands_18 rfl (lv_at hl 1 rfl) ?_
    refine cg_book_norms hx hb hts hown hK hP uw_2_139 dX1_compareBrands_19 ?_
    refine lv_iload_n hx hb dX1_compareBrands_22 rfl (lv_at hl 0 rfl) ?_
    refine lv_aload_n hx hb dX1_compareBrands_23 rfl (lv_at hl 1 rfl) ?_
    refine cg_book_lattice hx hb hts hown hK hP uw_2_137 dX1_compareBrands_24 ?_
    refine lv_aload_n hx hb dX1_compareBrands_27 rfl (lv_at hl 1 rfl) ?_
    refine cg_book_told hx hb hts hown hK hP uw_2_136 dX1_compareBrands_28 ?_
    refine cg_told_brands hx hb hts hown hK hP uw_1_193 dX1_compareBrands_31 ?_
    refine lv_iload_n hx hb dX1_compareBrands_34 rfl (lv_at hl 0 rfl) ?_
    refine cl_told_brands hx hb hK hP dX1_compareBrands_35 (by omega) b_B_told_brands (fun z_2135 ez_2135 hz_2135 => ?_)
    have hz_2135 := tI_b g_T (by omega) ez_2135
    refine g_i (cDt hD) hS hA (g_V (own := "HideReader$Book") (As := [.int (mI z_2135)]) (rest := [.int (mI z_1772), .ref (a 45)]) hx hb hml hown hts hK hP (cDt hD) (kc_X4_least (l := l) (D := D) (k := k) (by omega) h_x_lat_placements b_B_lat_lowHalves b_B_lat_highHalves b_B_lat_ways) ck_X4_least iv_X4_least uw_4_52 (cv_lat hK hP) rfl hl.1 rfl (Nat.le_of_ble_eq_true rfl) dX1_compareBrands_36 ⟨Nat.le_of_ble_eq_true rfl, Nat.le_of_ble_eq_true rfl⟩ ⟨Nat.le_of_ble_eq_true rfl, Nat.le_of_ble_eq_true rfl⟩) (fun r_2136 H locs hQ hS => ?_)
    obtain ⟨hr_2136_0, hP⟩ := hQ
    refine cs_book_norms hx hb hK hP hD hS dX1_compareBrands_39 (by omega) bF_1773 (by omega) (fun F_2137 H locs _ bF_2137 hP hS => ?_)
    refine lv_iconst (v := mI 0) hx hb dX1_compareBrands_40 rfl ?_
    refine lv_istore_n (lv' := [(2, .int (mI 0)), (1, .int (mI z_1772)), (0, .ref (a 44))]) hx hb dX1_compareBrands_41 rfl hl (by decide) rfl (fun ls hl => ?_)
    refine sy_loop (I := fun n H locs g => ∃ (z_2207 : Int) (F_2208 : Nat → Int) (y_2209 : Int) (ls : Array Slot), (0 ≤ z_2207 ∧ z_2207 ≤ 8) ∧ (bd (0) 4095 F_2208) ∧ (0 ≤ y_2209 ∧ y_2209 ≤ 64) ∧ (0 ≤ 8 * z_1772 + z_2207 - y_2209) ∧ (0 ≤ y_2209 - y_1775) ∧ (8 - z_2207).toNat = n ∧ va_P D vwCl (cW k a q x_xo_lyingCount x_tape_length x_tape_next x_tape_kind x_tape_place x_tape_number x_tape_faultKind x_tape_faultPlace x_told_turns x_told_mirror x_told_night x_told_draw x_told_herds x_told_irons x_told_beasts x_told_linesTold x_tfo_steps x_tfo_units x_draft_turns x_draft_mirror x_draft_night x_draft_draw x_draft_herds x_draft_irons x_draft_beasts x_draft_linesTold x_dfo_steps x_dfo_units x_lat_placements x_smi_irons x_smi_aim x_his_here x_his_undoable x_his_redoable y_2209 x_wit_count x_wit_time n_tape_name B_xo_lying B_tape_bytes B_told_brands B_told_ironMarks B_told_homes B_told_births B_tfo_kinds B_tfo_numbers B_tfo_stack B_tfo_facts B_draft_brands B_draft_ironMarks B_draft_homes B_draft_births B_dfo_kinds B_dfo_numbers B_dfo_stack B_dfo_facts B_lat_lowHalves B_lat_highHalves B_lat_ways B_smi_placedIrons B_smi_within B_smi_costs B_his_isKept F_2137 B_book_above B_book_heights F_2208 B_bea_firstGains B_bea_otherGains B_wit_burnings B_wit_strokes B_wit_wasOn B_wit_toldAt B_wit_untoldAt B_wit_on B_wit_off B_wit_firstCounts B_wit_secondCounts Ps Pd G_tape_wordNames G_told_herdNames G_told_ironNames G_told_beastNames G_draft_herdNames G_draft_ironNames G_draft_beastNames Ph Po Pg ex) H ∧ va_S A s.heap H locs ∧ lv_has ls 3 [(2, .int (mI z_2207)), (1, .int (mI z_1772)), (0, .ref (a 44))] ∧ g = F0 m 42 ls []) ?_ _ ⟨0, F_1774, y_1775, _, by omega, bF_1774, by omega, by omega, by omega, rfl, hP, hS, lv_sub hl [0, 1, 2] rfl, rfl⟩
    intro n_2216 H locs g hI ih_2217
    obtain ⟨z_2207, F_2208, y_2209, ls, h42_0, bF_2208, h42_2, h42_3, h42_4, mn_2216, hP, hS, hl, rfl⟩ := hI
    refine lv_iload_n hx hb dX1_compareBrands_42 rfl (lv_at hl 0 rfl) ?_
    refine lv_aload_n hx hb dX1_compareBrands_43 rfl (lv_at hl 2 rfl) ?_
    refine cg_book_lattice hx hb hts hown hK hP uw_2_137 dX1_compareBrands_44 ?_
    refine g_i (cDt hD) hS hA (g_V (own := "HideReader$Book") (As := []) (rest := [.int (mI z_2207)]) hx hb hml hown hts hK hP (cDt hD) (kc_X4_placements (l := l) (D := D) (k := k) h_x_lat_placements) ck_X4_placements iv_X4_placements uw_4_58 (cv_lat hK hP) rfl hl.1 rfl (Nat.le_of_ble_eq_true rfl) dX1_compareBrands_47 ⟨Nat.le_of_ble_eq_true rfl, Nat.le_of_ble_eq_true rfl⟩ ⟨Nat.le_of_ble_eq_true rfl, Nat.le_of_ble_eq_true rfl⟩) (fun r_2218 H locs hQ hS => ?_)
    obtain ⟨hq_r_2218, hP⟩ := hQ
    obtain rfl := hq_r_2218
    refine sy_icmp_ge (tgt := 95) hx hb dX1_compareBrands_50 (by decide) (by omega) (by omega) (fun c_2220 => ?_) (fun c_2220 => ?_)
    · skip
      refine lv_iinc (v := mI (z_1772 + 1)) (lv' := [(1, .int (mI (z_1772 + 1))), (2, .int (mI z_2207)), (0, .ref (a 44))]) hx hb dX1_compareBrands_95 hl (k := 1) rfl (mI_ad rfl) (by decide) rfl (fun ls hl => ?_)
      refine lv_goto (tgt := 7) hx hb dX1_compareBrands_98 (by decide) ?_
      exact ih_2000 _ _ _ _ (by omega) ⟨(z_1772 + 1), F_2137, F_2208, y_2209, _, by omega, bF_2137, bF_2208, by omega, by omega, rfl, hP, hS, lv_sub hl [0, 2] rfl, rfl⟩
    · skip
      refine lv_aload_n hx hb dX1_compareBrands_53 rfl (lv_at hl 2 rfl) ?_
      refine cg_book_placedBrands hx hb hts hown hK hP uw_2_142 dX1_compareBrands_54 ?_
      refine lv_aload_n hx hb dX1_compareBrands_57 rfl (lv_at hl 2 rfl) ?_
      refine cg_book_placedCount hx hb hts hown hK hP uw_2_143 dX1_compareBrands_58 ?_
      refine lv_aload_n hx hb dX1_compareBrands_61 rfl (lv_at hl 2 rfl) ?_
      refine cg_book_lattice hx hb hts hown hK hP uw_2_137 dX1_compareBrands_62 ?_
      refine lv_aload_n hx hb dX1_compareBrands_65 rfl (lv_at hl 2 rfl) ?_
      refine cg_book_told hx hb hts hown hK hP uw_2_136 dX1_compareBrands_66 ?_
      refine cg_told_brands hx hb hts hown hK hP uw_1_193 dX1_compareBrands_69 ?_
      refine lv_iload_n hx hb dX1_compareBrands_72 rfl (lv_at hl 1 rfl) ?_
      refine cl_told_brands hx hb hK hP dX1_compareBrands_73 (by omega) b_B_told_brands (fun z_2221 ez_2221 hz_2221 => ?_)
      have hz_2221 := tI_b g_T (by omega) ez_2221
      refine lv_iload_n hx hb dX1_compareBrands_74 rfl (lv_at hl 0 rfl) ?_
      refine g_i (cDt hD) hS hA (g_V (own := "HideReader$Book") (As := [.int (mI z_2221), .int (mI z_2207)]) (rest := [.int (mI y_2209), .ref (a 48)]) hx hb hml hown hts hK hP (cDt hD) (kc_X4_moved (l := l) (D := D) (k := k) (by omega) (by omega) b_B_lat_lowHalves b_B_lat_highHalves b_B_lat_ways) ck_X4_moved iv_X4_moved uw_4_59 (cv_lat hK hP) rfl hl.1 rfl (Nat.le_of_ble_eq_true rfl) dX1_compareBrands_75 ⟨Nat.le_of_ble_eq_true rfl, Nat.le_of_ble_eq_true rfl⟩ ⟨Nat.le_of_ble_eq_true rfl, Nat.le_of_ble_eq_true rfl⟩) (fun r_2222 H locs hQ hS => ?_)
      obtain ⟨hr_2222_0, hP⟩ := hQ
      refine cs_book_placedBrands hx hb hK hP hD hS dX1_compareBrands_78 (by omega) bF_2208 (by omega) (fun F_2223 H locs _ bF_2223 hP hS => ?_)
      refine lv_aload_n hx hb dX1_compareBrands_79 rfl (lv_at hl 2 rfl) ?_
      refine lv_dup hx hb dX1_compareBrands_80 rfl ?_
      refine cg_book_placedCount hx hb hts hown hK hP uw_2_143 dX1_compareBrands_81 ?_
      refine lv_iconst (v := mI 1) hx hb dX1_compareBrands_84 rfl ?_
      refine sy_iadd hx hb dX1_compareBrands_85 (y_2209 + 1) rfl ?_
      refine cp_book_placedCount hx hb hts hown hK hP hD hS uw_2_143 dX1_compareBrands_86 (fun H locs hP hS => ?_)
      refine lv_iinc (v := mI (z_2207 + 1)) (lv' := [(2, .int (mI (z_2207 + 1))), (1, .int (mI z_1772)), (0, .ref (a 44))]) hx hb dX1_compareBrands_89 hl (k := 0) rfl (mI_ad rfl) (by decide) rfl (fun ls hl => ?_)
      refine lv_goto (tgt := 42) hx hb dX1_compareBrands_92 (by decide) ?_
      exact ih_2217 _ _ _ _ (by omega) ⟨(z_2207 + 1), F_2223, (y_2209 + 1), _, by omega, bF_2223, by omega, by omega, by omega, rfl, hP, hS, lv_sub hl [0, 1, 2] rfl, rfl⟩
set_option maxHeartbeats 4000000 in
set_option maxRecDepth 100000 in
theorem kc_X1_allHerds (h_x_told_herds : 0 ≤ x_told_herds ∧ x_told_herds ≤ 8) : MetG l D k yX1_allHerds cX1_allHerds 1 (some .int) 0 [.ref (a 44)] (cW k a q x_xo_lyingCount x_tape_length x_tape_next x_tape_kind x_tape_place x_tape_number x_tape_faultKind x_tape_faultPlace x_told_turns x_told_mirror x_told_night x_told_draw x_told_herds x_told_irons x_told_beasts x_told_linesTold x_tfo_steps x_tfo_units x_draft_turns x_draft_mirror x_draft_night x_draft_draw x_draft_herds x_draft_irons x_draft_beasts x_draft_linesTold x_dfo_steps x_dfo_units x_lat_placements x_smi_irons x_smi_aim x_his_here x_his_undoable x_his_redoable x_book_placedCount x_wit_count x_wit_time n_tape_name B_xo_lying B_tape_bytes B_told_brands B_told_ironMarks B_told_homes B_told_births B_tfo_kinds B_tfo_numbers B_tfo_stack B_tfo_facts B_draft_brands B_draft_ironMarks B_draft_homes B_draft_births B_dfo_kinds B_dfo_numbers B_dfo_stack B_dfo_facts B_lat_lowHalves B_lat_highHalves B_lat_ways B_smi_placedIrons B_smi_within B_smi_costs B_his_isKept B_book_norms B_book_above B_book_heights B_book_placedBrands B_bea_firstGains B_bea_otherGains B_wit_burnings B_wit_strokes B_wit_wasOn B_wit_toldAt B_wit_untoldAt B_wit_on B_wit_off B_wit_firstCounts B_wit_secondCounts Ps Pd G_tape_wordNames G_told_herdNames G_told_ironNames G_told_beastNames G_draft_herdNames G_draft_ironNames G_draft_beastNames Ph Po Pg ex) (qGi (fun r0 H => (0 ≤ r0 ∧ r0 ≤ 255) ∧ va_P D vwCl (cW k a q x_xo_lyingCount x_tape_length x_tape_next x_tape_kind x_tape_place x_tape_number x_tape_faultKind x_tape_faultPlace x_told_turns x_told_mirror x_told_night x_told_draw x_told_herds x_told_irons x_told_beasts x_told_linesTold x_tfo_steps x_tfo_units x_draft_turns x_draft_mirror x_draft_night x_draft_draw x_draft_herds x_draft_irons x_draft_beasts x_draft_linesTold x_dfo_steps x_dfo_units x_lat_placements x_smi_irons x_smi_aim x_his_here x_his_undoable x_his_redoable x_book_placedCount x_wit_count x_wit_time n_tape_name B_xo_lying B_tape_bytes B_told_brands B_told_ironMarks B_told_homes B_told_births B_tfo_kinds B_tfo_numbers B_tfo_stack B_tfo_facts B_draft_brands B_draft_ironMarks B_draft_homes B_draft_births B_dfo_kinds B_dfo_numbers B_dfo_stack B_dfo_facts B_lat_lowHalves B_lat_highHalves B_lat_ways B_smi_placedIrons B_smi_within B_smi_costs B_his_isKept B_book_norms B_book_above B_book_heights B_book_placedBrands B_bea_firstGains B_bea_otherGains B_wit_burnings B_wit_strokes B_wit_wasOn B_wit_toldAt B_wit_untoldAt B_wit_on B_wit_off B_wit_firstCounts B_wit_secondCounts Ps Pd G_tape_wordNames G_told_herdNames G_told_ironNames G_told_beastNames G_draft_herdNames G_draft_ironNames G_draft_beastNames Ph Po Pg ex) H)) := by
  refine metG_of 0 ck_X1_allHerds (Nat.le_of_ble_eq_true rfl) cMap (fun p e s m args below meth c A hx hb hml hr hlocks hown hts hK hD hA hP hS ls hl => ?_)
  have hown : s.vm.findClass "HideReader$Book" = some m.cls := hown
  have hl : lv_has ls 1 [(0, .ref (a 44))] := hl
  refine lv_iconst (v := mI 1) hx hb dX1_allHerds_0 rfl ?_
  refine lv_aload_n hx hb dX1_allHerds_1 rfl (lv_at hl 0 rfl) ?_
  refine cg_book_told hx hb hts hown hK hP uw_2_136 dX1_allHerds_2 ?_
  refine cg_told_herds hx hb hts hown hK hP uw_1_169 dX1_allHerds_5 ?_
  refine sy_shl1 hx hb dX1_allHerds_8 8 (by decide) 256 (by decide) (by omega) (fun z_1 ez_1 hz_1 => ?_)
  refine lv_iconst (v := mI 1) hx hb dX1_allHerds_9 rfl ?_
  refine sy_isub hx hb dX1_allHerds_10 (z_1 - 1) rfl ?_
  exact r_i hx hb hr hlocks dX1_allHerds_11 hS ⟨by omega, hP⟩
set_option maxHeartbeats 4000000 in
set_option maxRecDepth 100000 in
theorem kc_X1_bottomHerds (h_x_told_herds : 0 ≤ x_told_herds ∧ x_told_herds ≤ 8) (b_B_book_above : bd (-2147483648) 2147483647 B_book_above) : MetG l D k yX1_bottomHerds cX1_bottomHerds 3 (some .int) 1 [.ref (a 44)] (cW k a q x_xo_lyingCount x_tape_length x_tape_next x_tape_kind x_tape_place x_tape_number x_tape_faultKind x_tape_faultPlace x_told_turns x_told_mirror x_told_night x_told_draw x_told_herds x_told_irons x_told_beasts x_told_linesTold x_tfo_steps x_tfo_units x_draft_turns x_draft_mirror x_draft_night x_draft_draw x_draft_herds x_draft_irons x_draft_beasts x_draft_linesTold x_dfo_steps x_dfo_units x_lat_placements x_smi_irons x_smi_aim x_his_here x_his_undoable x_his_redoable x_book_placedCount x_wit_count x_wit_time n_tape_name B_xo_lying B_tape_bytes B_told_brands B_told_ironMarks B_told_homes B_told_births B_tfo_kinds B_tfo_numbers B_tfo_stack B_tfo_facts B_draft_brands B_draft_ironMarks B_draft_homes B_draft_births B_dfo_kinds B_dfo_numbers B_dfo_stack B_dfo_facts B_lat_lowHalves B_lat_highHalves B_lat_ways B_smi_placedIrons B_smi_within B_smi_costs B_his_isKept B_book_norms B_book_above B_book_heights B_book_placedBrands B_bea_firstGains B_bea_otherGains B_wit_burnings B_wit_strokes B_wit_wasOn B_wit_toldAt B_wit_untoldAt B_wit_on B_wit_off B_wit_firstCounts B_wit_secondCounts Ps Pd G_tape_wordNames G_told_herdNames G_told_ironNames G_told_beastNames G_draft_herdNames G_draft_ironNames G_draft_beastNames Ph Po Pg ex) (qGi (fun r0 H => (0 ≤ r0 ∧ r0 ≤ 255) ∧ va_P D vwCl (cW k a q x_xo_lyingCount x_tape_length x_tape_next x_tape_kind x_tape_place x_tape_number x_tape_faultKind x_tape_faultPlace x_told_turns x_told_mirror x_told_night x_told_draw x_told_herds x_told_irons x_told_beasts x_told_linesTold x_tfo_steps x_tfo_units x_draft_turns x_draft_mirror x_draft_night x_draft_draw x_draft_herds x_draft_irons x_draft_beasts x_draft_linesTold x_dfo_steps x_dfo_units x_lat_placements x_smi_irons x_smi_aim x_his_here x_his_undoable x_his_redoable x_book_placedCount x_wit_count x_wit_time n_tape_name B_xo_lying B_tape_bytes B_told_brands B_told_ironMarks B_told_homes B_told_births B_tfo_kinds B_tfo_numbers B_tfo_stack B_tfo_facts B_draft_brands B_draft_ironMarks B_draft_homes B_draft_births B_dfo_kinds B_dfo_numbers B_dfo_stack B_dfo_facts B_lat_lowHalves B_lat_highHalves B_lat_ways B_smi_placedIrons B_smi_within B_smi_costs B_his_isKept B_book_norms B_book_above B_book_heights B_book_placedBrands B_bea_firstGains B_bea_otherGains B_wit_burnings B_wit_strokes B_wit_wasOn B_wit_toldAt B_wit_untoldAt B_wit_on B_wit_off B_wit_firstCounts B_wit_secondCounts Ps Pd G_tape_wordNames G_told_herdNames G_told_ironNames G_told_beastNames G_draft_herdNames G_draft_ironNames G_draft_beastNames Ph Po Pg ex) H)) := by
  refine metG_of 0 ck_X1_bottomHerds (Nat.le_of_ble_eq_true rfl) cMap (fun p e s m args below meth c A hx hb hml hr hlocks hown hts hK hD hA hP hS ls hl => ?_)
  have hown : s.vm.findClass "HideReader$Book" = some m.cls := hown
  have hl : lv_has ls 3 [(0, .ref (a 44))] := hl
  refine lv_aload_n hx hb dX1_bottomHerds_0 rfl (lv_at hl 0 rfl) ?_
  refine g_i (cDt hD) hS hA (g_V (own := "HideReader$Book") (As := []) (rest := []) hx hb hml hown hts hK hP (cDt hD) (kc_X1_allHerds (l := l) (D := D) (k := k) h_x_told_herds) ck_X1_allHerds iv_X1_allHerds uw_5_59 (cv_book hK hP) rfl hl.1 rfl (Nat.le_of_ble_eq_true rfl) dX1_bottomHerds_1 ⟨Nat.le_of_ble_eq_true rfl, Nat.le_of_ble_eq_true rfl⟩ ⟨Nat.le_of_ble_eq_true rfl, Nat.le_of_ble_eq_true rfl⟩) (fun r_1 H locs hQ hS => ?_)
  obtain ⟨hr_1_0, hP⟩ := hQ
  refine lv_istore_n (lv' := [(1, .int (mI r_1)), (0, .ref (a 44))]) hx hb dX1_bottomHerds_4 rfl hl (by decide) rfl (fun ls hl => ?_)
  refine lv_iconst (v := mI 0) hx hb dX1_bottomHerds_5 rfl ?_
  refine lv_istore_n (lv' := [(2, .int (mI 0)), (1, .int (mI r_1)), (0, .ref (a 44))]) hx hb dX1_bottomHerds_6 rfl hl (by decide) rfl (fun ls hl => ?_)
  refine sy_loop (I := fun n H locs g => ∃ (z_48 : Int) (z_49 : Int) (ls : Array Slot), (0 ≤ z_48 ∧ z_48 ≤ 8) ∧ (0 ≤ z_49 ∧ z_49 ≤ 255) ∧ (0 ≤ r_1 - z_49) ∧ (8 - z_48).toNat = n ∧ va_P D vwCl (cW k a q x_xo_lyingCount x_tape_length x_tape_next x_tape_kind x_tape_place x_tape_number x_tape_faultKind x_tape_faultPlace x_told_turns x_told_mirror x_told_night x_told_draw x_told_herds x_told_irons x_told_beasts x_told_linesTold x_tfo_steps x_tfo_units x_draft_turns x_draft_mirror x_draft_night x_draft_draw x_draft_herds x_draft_irons x_draft_beasts x_draft_linesTold x_dfo_steps x_dfo_units x_lat_placements x_smi_irons x_smi_aim x_his_here x_his_undoable x_his_redoable x_book_placedCount x_wit_count x_wit_time n_tape_name B_xo_lying B_tape_bytes B_told_brands B_told_ironMarks B_told_homes B_told_births B_tfo_kinds B_tfo_numbers B_tfo_stack B_tfo_facts B_draft_brands B_draft_ironMarks B_draft_homes B_draft_births B_dfo_kinds B_dfo_numbers B_dfo_stack B_dfo_facts B_lat_lowHalves B_lat_highHalves B_lat_ways B_smi_placedIrons B_smi_within B_smi_costs B_his_isKept B_book_norms B_book_above B_book_heights B_book_placedBrands B_bea_firstGains B_bea_otherGains B_wit_burnings B_wit_strokes B_wit_wasOn B_wit_toldAt B_wit_untoldAt B_wit_on B_wit_off B_wit_firstCounts B_wit_secondCounts Ps Pd G_tape_wordNames G_told_herdNames G_told_ironNames G_told_beastNames G_draft_herdNames G_draft_ironNames G_draft_beastNames Ph Po Pg ex) H ∧ va_S A s.heap H locs ∧ lv_has ls 3 [(2, .int (mI z_48)), (1, .int (mI z_49)), (0, .ref (a 44))] ∧ g = F0 m 7 ls []) ?_ _ ⟨0, r_1, _, by omega, by omega, by omega, rfl, hP, hS, lv_sub hl [0, 1, 2] rfl, rfl⟩
  intro n_54 H locs g hI ih_55
  obtain ⟨z_48, z_49, ls, h7_0, h7_1, h7_2, mn_54, hP, hS, hl, rfl⟩ := hI
  refine lv_iload_n hx hb dX1_bottomHerds_7 rfl (lv_at hl 0 rfl) ?_
  refine lv_aload_n hx hb dX1_bottomHerds_8 rfl (lv_at hl 2 rfl) ?_
  refine cg_book_told hx hb hts hown hK hP uw_2_136 dX1_bottomHerds_9 ?_
  refine cg_told_herds hx hb hts hown hK hP uw_1_169 dX1_bottomHerds_12 ?_
  refine sy_icmp_ge (tgt := 35) hx hb dX1_bottomHerds_15 (by decide) (by omega) (by omega) (fun c_56 => ?_) (fun c_56 => ?_)
  · skip
    refine lv_iload_n hx hb dX1_bottomHerds_35 rfl (lv_at hl 1 rfl) ?_
    exact r_i hx hb hr hlocks dX1_bottomHerds_36 hS ⟨by omega, hP⟩
  · skip
    refine lv_iload_n hx hb dX1_bottomHerds_18 rfl (lv_at hl 1 rfl) ?_
    refine lv_aload_n hx hb dX1_bottomHerds_19 rfl (lv_at hl 2 rfl) ?_
    refine cg_book_above hx hb hts hown hK hP uw_2_140 dX1_bottomHerds_20 ?_
    refine lv_iload_n hx hb dX1_bottomHerds_23 rfl (lv_at hl 0 rfl) ?_
    refine cl_book_above hx hb hK hP dX1_bottomHerds_24 (by omega) b_B_book_above (fun z_57 _ hz_57 => ?_)
    refine lv_iconst (v := mI (-1)) hx hb dX1_bottomHerds_25 rfl ?_
    refine lv_ixor hx hb dX1_bottomHerds_26 ?_
    refine sy_any (fun z_58 hz_58 => ?_)
    refine sy_iandL hx hb dX1_bottomHerds_27 (by omega) (fun z_59 hz_59 => ?_)
    refine lv_istore_n (lv' := [(1, .int (mI z_59)), (2, .int (mI z_48)), (0, .ref (a 44))]) hx hb dX1_bottomHerds_28 rfl hl (by decide) rfl (fun ls hl => ?_)
    refine lv_iinc (v := mI (z_48 + 1)) (lv' := [(2, .int (mI (z_48 + 1))), (1, .int (mI z_59)), (0, .ref (a 44))]) hx hb dX1_bottomHerds_29 hl (k := 1) rfl (mI_ad rfl) (by decide) rfl (fun ls hl => ?_)
    refine lv_goto (tgt := 7) hx hb dX1_bottomHerds_32 (by decide) ?_
    exact ih_55 _ _ _ _ (by omega) ⟨(z_48 + 1), z_59, _, by omega, by omega, by omega, rfl, hP, hS, lv_sub hl [0, 1, 2] rfl, rfl⟩
set_option maxHeartbeats 4000000 in
set_option maxRecDepth 100000 in
theorem kc_X1_topHerds (h_x_told_herds : 0 ≤ x_told_herds ∧ x_told_herds ≤ 8) (b_B_book_above : bd (-2147483648) 2147483647 B_book_above) : MetG l D k yX1_topHerds cX1_topHerds 3 (some .int) 0 [.ref (a 44)] (cW k a q x_xo_lyingCount x_tape_length x_tape_next x_tape_kind x_tape_place x_tape_number x_tape_faultKind x_tape_faultPlace x_told_turns x_told_mirror x_told_night x_told_draw x_told_herds x_told_irons x_told_beasts x_told_linesTold x_tfo_steps x_tfo_units x_draft_turns x_draft_mirror x_draft_night x_draft_draw x_draft_herds x_draft_irons x_draft_beasts x_draft_linesTold x_dfo_steps x_dfo_units x_lat_placements x_smi_irons x_smi_aim x_his_here x_his_undoable x_his_redoable x_book_placedCount x_wit_count x_wit_time n_tape_name B_xo_lying B_tape_bytes B_told_brands B_told_ironMarks B_told_homes B_told_births B_tfo_kinds B_tfo_numbers B_tfo_stack B_tfo_facts B_draft_brands B_draft_ironMarks B_draft_homes B_draft_births B_dfo_kinds B_dfo_numbers B_dfo_stack B_dfo_facts B_lat_lowHalves B_lat_highHalves B_lat_ways B_smi_placedIrons B_smi_within B_smi_costs B_his_isKept B_book_norms B_book_above B_book_heights B_book_placedBrands B_bea_firstGains B_bea_otherGains B_wit_burnings B_wit_strokes B_wit_wasOn B_wit_toldAt B_wit_untoldAt B_wit_on B_wit_off B_wit_firstCounts B_wit_secondCounts Ps Pd G_tape_wordNames G_told_herdNames G_told_ironNames G_told_beastNames G_draft_herdNames G_draft_ironNames G_draft_beastNames Ph Po Pg ex) (qGi (fun r0 H => (0 ≤ r0 ∧ r0 ≤ 255) ∧ va_P D vwCl (cW k a q x_xo_lyingCount x_tape_length x_tape_next x_tape_kind x_tape_place x_tape_number x_tape_faultKind x_tape_faultPlace x_told_turns x_told_mirror x_told_night x_told_draw x_told_herds x_told_irons x_told_beasts x_told_linesTold x_tfo_steps x_tfo_units x_draft_turns x_draft_mirror x_draft_night x_draft_draw x_draft_herds x_draft_irons x_draft_beasts x_draft_linesTold x_dfo_steps x_dfo_units x_lat_placements x_smi_irons x_smi_aim x_his_here x_his_undoable x_his_redoable x_book_placedCount x_wit_count x_wit_time n_tape_name B_xo_lying B_tape_bytes B_told_brands B_told_ironMarks B_told_homes B_told_births B_tfo_kinds B_tfo_numbers B_tfo_stack B_tfo_facts B_draft_brands B_draft_ironMarks B_draft_homes B_draft_births B_dfo_kinds B_dfo_numbers B_dfo_stack B_dfo_facts B_lat_lowHalves B_lat_highHalves B_lat_ways B_smi_placedIrons B_smi_within B_smi_costs B_his_isKept B_book_norms B_book_above B_book_heights B_book_placedBrands B_bea_firstGains B_bea_otherGains B_wit_burnings B_wit_strokes B_wit_wasOn B_wit_toldAt B_wit_untoldAt B_wit_on B_wit_off B_wit_firstCounts B_wit_secondCounts Ps Pd G_tape_wordNames G_told_herdNames G_told_ironNames G_told_beastNames G_draft_herdNames G_draft_ironNames G_draft_beastNames Ph Po Pg ex) H)) := by
  refine metG_of 0 ck_X1_topHerds (Nat.le_of_ble_eq_true rfl) cMap (fun p e s m args below meth c A hx hb hml hr hlocks hown hts hK hD hA hP hS ls hl => ?_)
  have hown : s.vm.findClass "HideReader$Book" = some m.cls := hown
  have hl : lv_has ls 3 [(0, .ref (a 44))] := hl
  refine lv_iconst (v := mI 0) hx hb dX1_topHerds_0 rfl ?_
  refine lv_istore_n (lv' := [(1, .int (mI 0)), (0, .ref (a 44))]) hx hb dX1_topHerds_1 rfl hl (by decide) rfl (fun ls hl => ?_)
  refine lv_iconst (v := mI 0) hx hb dX1_topHerds_2 rfl ?_
  refine lv_istore_n (lv' := [(2, .int (mI 0)), (1, .int (mI 0)), (0, .ref (a 44))]) hx hb dX1_topHerds_3 rfl hl (by decide) rfl (fun ls hl => ?_)
  refine sy_loop (I := fun n H locs g => ∃ (z_231 : Int) (z_232 : Int) (ls : Array Slot), (0 ≤ z_231 ∧ z_231 ≤ 8) ∧ (0 ≤ z_232 ∧ z_232 ≤ 255) ∧ (8 - z_231).toNat = n ∧ va_P D vwCl (cW k a q x_xo_lyingCount x_tape_length x_tape_next x_tape_kind x_tape_place x_tape_number x_tape_faultKind x_tape_faultPlace x_told_turns x_told_mirror x_told_night x_told_draw x_told_herds x_told_irons x_told_beasts x_told_linesTold x_tfo_steps x_tfo_units x_draft_turns x_draft_mirror x_draft_night x_draft_draw x_draft_herds x_draft_irons x_draft_beasts x_draft_linesTold x_dfo_steps x_dfo_units x_lat_placements x_smi_irons x_smi_aim x_his_here x_his_undoable x_his_redoable x_book_placedCount x_wit_count x_wit_time n_tape_name B_xo_lying B_tape_bytes B_told_brands B_told_ironMarks B_told_homes B_told_births B_tfo_kinds B_tfo_numbers B_tfo_stack B_tfo_facts B_draft_brands B_draft_ironMarks B_draft_homes B_draft_births B_dfo_kinds B_dfo_numbers B_dfo_stack B_dfo_facts B_lat_lowHalves B_lat_highHalves B_lat_ways B_smi_placedIrons B_smi_within B_smi_costs B_his_isKept B_book_norms B_book_above B_book_heights B_book_placedBrands B_bea_firstGains B_bea_otherGains B_wit_burnings B_wit_strokes B_wit_wasOn B_wit_toldAt B_wit_untoldAt B_wit_on B_wit_off B_wit_firstCounts B_wit_secondCounts Ps Pd G_tape_wordNames G_told_herdNames G_told_ironNames G_told_beastNames G_draft_herdNames G_draft_ironNames G_draft_beastNames Ph Po Pg ex) H ∧ va_S A s.heap H locs ∧ lv_has ls 3 [(2, .int (mI z_231)), (1, .int (mI z_232)), (0, .ref (a 44))] ∧ g = F0 m 4 ls []) ?_ _ ⟨0, 0, _, by omega, by omega, rfl, hP, hS, lv_sub hl [0, 1, 2] rfl, rfl⟩
  intro n_239 H locs g hI ih_240
  obtain ⟨z_231, z_232, ls, h4_0, h4_1, mn_239, hP, hS, hl, rfl⟩ := hI
  refine lv_iload_n hx hb dX1_topHerds_4 rfl (lv_at hl 0 rfl) ?_
  refine lv_aload_n hx hb dX1_topHerds_5 rfl (lv_at hl 2 rfl) ?_
  refine cg_book_told hx hb hts hown hK hP uw_2_136 dX1_topHerds_6 ?_
  refine cg_told_herds hx hb hts hown hK hP uw_1_169 dX1_topHerds_9 ?_
  refine sy_icmp_ge (tgt := 40) hx hb dX1_topHerds_12 (by decide) (by omega) (by omega) (fun c_241 => ?_) (fun c_241 => ?_)
  · skip
    refine lv_iload_n hx hb dX1_topHerds_40 rfl (lv_at hl 1 rfl) ?_
    exact r_i hx hb hr hlocks dX1_topHerds_41 hS ⟨by omega, hP⟩
  · skip
    refine lv_iload_n hx hb dX1_topHerds_15 rfl (lv_at hl 1 rfl) ?_
    refine lv_aload_n hx hb dX1_topHerds_16 rfl (lv_at hl 2 rfl) ?_
    refine cg_book_above hx hb hts hown hK hP uw_2_140 dX1_topHerds_17 ?_
    refine lv_iload_n hx hb dX1_topHerds_20 rfl (lv_at hl 0 rfl) ?_
    refine cl_book_above hx hb hK hP dX1_topHerds_21 (by omega) b_B_book_above (fun z_242 _ hz_242 => ?_)
    refine sy_if_ne (tgt := 31) hx hb dX1_topHerds_22 (by decide) (by omega) (fun c_243 => ?_) (fun c_243 => ?_)
    · skip
      refine lv_iconst (v := mI 0) hx hb dX1_topHerds_31 rfl ?_
      refine sy_ior hx hb dX1_topHerds_32 8 (by decide) 256 (by decide) (by omega) (by omega) (fun z_244 hz_244 => ?_)
      refine lv_istore_n (lv' := [(1, .int (mI z_244)), (2, .int (mI z_231)), (0, .ref (a 44))]) hx hb dX1_topHerds_33 rfl hl (by decide) rfl (fun ls hl => ?_)
      refine lv_iinc (v := mI (z_231 + 1)) (lv' := [(2, .int (mI (z_231 + 1))), (1, .int (mI z_244)), (0, .ref (a 44))]) hx hb dX1_topHerds_34 hl (k := 1) rfl (mI_ad rfl) (by decide) rfl (fun ls hl => ?_)
      refine lv_goto (tgt := 4) hx hb dX1_topHerds_37 (by decide) ?_
      exact ih_240 _ _ _ _ (by omega) ⟨(z_231 + 1), z_244, _, by omega, by omega, rfl, hP, hS, lv_sub hl [0, 1, 2] rfl, rfl⟩
    · skip
      refine lv_iconst (v := mI 1) hx hb dX1_topHerds_25 rfl ?_
      refine lv_iload_n hx hb dX1_topHerds_26 rfl (lv_at hl 0 rfl) ?_
      refine sy_shl1 hx hb dX1_topHerds_27 7 (by decide) 128 (by decide) (by omega) (fun z_245 ez_245 hz_245 => ?_)
      refine lv_goto (tgt := 32) hx hb dX1_topHerds_28 (by decide) ?_
      refine sy_ior hx hb dX1_topHerds_32 8 (by decide) 256 (by decide) (by omega) (by omega) (fun z_246 hz_246 => ?_)
      refine lv_istore_n (lv' := [(1, .int (mI z_246)), (2, .int (mI z_231)), (0, .ref (a 44))]) hx hb dX1_topHerds_33 rfl hl (by decide) rfl (fun ls hl => ?_)
      refine lv_iinc (v := mI (z_231 + 1)) (lv' := [(2, .int (mI (z_231 + 1))), (1, .int (mI z_246)), (0, .ref (a 44))]) hx hb dX1_topHerds_34 hl (k := 1) rfl (mI_ad rfl) (by decide) rfl (fun ls hl => ?_)
      refine lv_goto (tgt := 4) hx hb dX1_topHerds_37 (by decide) ?_
      exact ih_240 _ _ _ _ (by omega) ⟨(z_231 + 1), z_246, _, by omega, by omega, rfl, hP, hS, lv_sub hl [0, 1, 2] rfl, rfl⟩
set_option maxHeartbeats 4000000 in
set_option maxRecDepth 100000 in
theorem kc_X1_twinCount (h_x_told_herds : 0 ≤ x_told_herds ∧ x_told_herds ≤ 8) (b_B_book_norms : bd (-2147483648) 2147483647 B_book_norms) : MetG l D k yX1_twinCount cX1_twinCount 4 (some .int) 0 [.ref (a 44)] (cW k a q x_xo_lyingCount x_tape_length x_tape_next x_tape_kind x_tape_place x_tape_number x_tape_faultKind x_tape_faultPlace x_told_turns x_told_mirror x_told_night x_told_draw x_told_herds x_told_irons x_told_beasts x_told_linesTold x_tfo_steps x_tfo_units x_draft_turns x_draft_mirror x_draft_night x_draft_draw x_draft_herds x_draft_irons x_draft_beasts x_draft_linesTold x_dfo_steps x_dfo_units x_lat_placements x_smi_irons x_smi_aim x_his_here x_his_undoable x_his_redoable x_book_placedCount x_wit_count x_wit_time n_tape_name B_xo_lying B_tape_bytes B_told_brands B_told_ironMarks B_told_homes B_told_births B_tfo_kinds B_tfo_numbers B_tfo_stack B_tfo_facts B_draft_brands B_draft_ironMarks B_draft_homes B_draft_births B_dfo_kinds B_dfo_numbers B_dfo_stack B_dfo_facts B_lat_lowHalves B_lat_highHalves B_lat_ways B_smi_placedIrons B_smi_within B_smi_costs B_his_isKept B_book_norms B_book_above B_book_heights B_book_placedBrands B_bea_firstGains B_bea_otherGains B_wit_burnings B_wit_strokes B_wit_wasOn B_wit_toldAt B_wit_untoldAt B_wit_on B_wit_off B_wit_firstCounts B_wit_secondCounts Ps Pd G_tape_wordNames G_told_herdNames G_told_ironNames G_told_beastNames G_draft_herdNames G_draft_ironNames G_draft_beastNames Ph Po Pg ex) (qGi (fun r0 H => (-2147483648 ≤ r0 ∧ r0 ≤ 2147483647) ∧ va_P D vwCl (cW k a q x_xo_lyingCount x_tape_length x_tape_next x_tape_kind x_tape_place x_tape_number x_tape_faultKind x_tape_faultPlace x_told_turns x_told_mirror x_told_night x_told_draw x_told_herds x_told_irons x_told_beasts x_told_linesTold x_tfo_steps x_tfo_units x_draft_turns x_draft_mirror x_draft_night x_draft_draw x_draft_herds x_draft_irons x_draft_beasts x_draft_linesTold x_dfo_steps x_dfo_units x_lat_placements x_smi_irons x_smi_aim x_his_here x_his_undoable x_his_redoable x_book_placedCount x_wit_count x_wit_time n_tape_name B_xo_lying B_tape_bytes B_told_brands B_told_ironMarks B_told_homes B_told_births B_tfo_kinds B_tfo_numbers B_tfo_stack B_tfo_facts B_draft_brands B_draft_ironMarks B_draft_homes B_draft_births B_dfo_kinds B_dfo_numbers B_dfo_stack B_dfo_facts B_lat_lowHalves B_lat_highHalves B_lat_ways B_smi_placedIrons B_smi_within B_smi_costs B_his_isKept B_book_norms B_book_above B_book_heights B_book_placedBrands B_bea_firstGains B_bea_otherGains B_wit_burnings B_wit_strokes B_wit_wasOn B_wit_toldAt B_wit_untoldAt B_wit_on B_wit_off B_wit_firstCounts B_wit_secondCounts Ps Pd G_tape_wordNames G_told_herdNames G_told_ironNames G_told_beastNames G_draft_herdNames G_draft_ironNames G_draft_beastNames Ph Po Pg ex) H)) := by
  refine metG_of 0 ck_X1_twinCount (Nat.le_of_ble_eq_true rfl) cMap (fun p e s m args below meth c A hx hb hml hr hlocks hown hts hK hD hA hP hS ls hl => ?_)
  have hown : s.vm.findClass "HideReader$Book" = some m.cls := hown
  have hl : lv_has ls 4 [(0, .ref (a 44))] := hl
  refine lv_iconst (v := mI 0) hx hb dX1_twinCount_0 rfl ?_
  refine lv_istore_n (lv' := [(1, .int (mI 0)), (0, .ref (a 44))]) hx hb dX1_twinCount_1 rfl hl (by decide) rfl (fun ls hl => ?_)
  refine lv_iconst (v := mI 0) hx hb dX1_twinCount_2 rfl ?_
  refine lv_istore_n (lv' := [(2, .int (mI 0)), (1, .int (mI 0)), (0, .ref (a 44))]) hx hb dX1_twinCount_3 rfl hl (by decide) rfl (fun ls hl => ?_)
  refine sy_loop (I := fun n H locs g => ∃ (z_6823 : Int) (z_6824 : Int) (ls : Array Slot), (0 ≤ z_6823 ∧ z_6823 ≤ 8) ∧ (-2147483648 ≤ z_6824 ∧ z_6824 ≤ 2147483647) ∧ (8 - z_6823).toNat = n ∧ va_P D vwCl (cW k a q x_xo_lyingCount x_tape_length x_tape_next x_tape_kind x_tape_place x_tape_number x_tape_faultKind x_tape_faultPlace x_told_turns x_told_mirror x_told_night x_told_draw x_told_herds x_told_irons x_told_beasts x_told_linesTold x_tfo_steps x_tfo_units x_draft_turns x_draft_mirror x_draft_night x_draft_draw x_draft_herds x_draft_irons x_draft_beasts x_draft_linesTold x_dfo_steps x_dfo_units x_lat_placements x_smi_irons x_smi_aim x_his_here x_his_undoable x_his_redoable x_book_placedCount x_wit_count x_wit_time n_tape_name B_xo_lying B_tape_bytes B_told_brands B_told_ironMarks B_told_homes B_told_births B_tfo_kinds B_tfo_numbers B_tfo_stack B_tfo_facts B_draft_brands B_draft_ironMarks B_draft_homes B_draft_births B_dfo_kinds B_dfo_numbers B_dfo_stack B_dfo_facts B_lat_lowHalves B_lat_highHalves B_lat_ways B_smi_placedIrons B_smi_within B_smi_costs B_his_isKept B_book_norms B_book_above B_book_heights B_book_placedBrands B_bea_firstGains B_bea_otherGains B_wit_burnings B_wit_strokes B_wit_wasOn B_wit_toldAt B_wit_untoldAt B_wit_on B_wit_off B_wit_firstCounts B_wit_secondCounts Ps Pd G_tape_wordNames G_told_herdNames G_told_ironNames G_told_beastNames G_draft_herdNames G_draft_ironNames G_draft_beastNames Ph Po Pg ex) H ∧ va_S A s.heap H locs ∧ lv_has ls 4 [(2, .int (mI z_6823)), (1, .int (mI z_6824)), (0, .ref (a 44))] ∧ g = F0 m 4 ls []) ?_ _ ⟨0, 0, _, by omega, by omega, rfl, hP, hS, lv_sub hl [0, 1, 2] rfl, rfl⟩
  intro n_6889 H locs g hI ih_6890
  obtain ⟨z_6823, z_6824, ls, h4_0, h4_1, mn_6889, hP, hS, hl, rfl⟩ := hI
  refine lv_iload_n hx hb dX1_twinCount_4 rfl (lv_at hl 0 rfl) ?_
  refine lv_aload_n hx hb dX1_twinCount_5 rfl (lv_at hl 2 rfl) ?_
  refine cg_book_told hx hb hts hown hK hP uw_2_136 dX1_twinCount_6 ?_
  refine cg_told_herds hx hb hts hown hK hP uw_1_169 dX1_twinCount_9 ?_
  refine sy_icmp_ge (tgt := 65) hx hb dX1_twinCount_12 (by decide) (by omega) (by omega) (fun c_6891 => ?_) (fun c_6891 => ?_)
  · skip
    refine lv_iload_n hx hb dX1_twinCount_65 rfl (lv_at hl 1 rfl) ?_
    exact r_i hx hb hr hlocks dX1_twinCount_66 hS ⟨by omega, hP⟩
  · skip
    refine lv_iload_n hx hb dX1_twinCount_15 rfl (lv_at hl 0 rfl) ?_
    refine lv_iconst (v := mI 1) hx hb dX1_twinCount_16 rfl ?_
    refine sy_iadd hx hb dX1_twinCount_17 (z_6823 + 1) rfl ?_
    refine lv_istore_n (lv' := [(3, .int (mI (z_6823 + 1))), (2, .int (mI z_6823)), (1, .int (mI z_6824)), (0, .ref (a 44))]) hx hb dX1_twinCount_18 rfl hl (by decide) rfl (fun ls hl => ?_)
    refine sy_loop (I := fun n H locs g => ∃ (z_6941 : Int) (z_6942 : Int) (ls : Array Slot), (1 ≤ z_6941 ∧ z_6941 ≤ 8) ∧ (-2147483648 ≤ z_6942 ∧ z_6942 ≤ 2147483647) ∧ (0 ≤ z_6941 - z_6823 - 1) ∧ (8 - z_6941).toNat = n ∧ va_P D vwCl (cW k a q x_xo_lyingCount x_tape_length x_tape_next x_tape_kind x_tape_place x_tape_number x_tape_faultKind x_tape_faultPlace x_told_turns x_told_mirror x_told_night x_told_draw x_told_herds x_told_irons x_told_beasts x_told_linesTold x_tfo_steps x_tfo_units x_draft_turns x_draft_mirror x_draft_night x_draft_draw x_draft_herds x_draft_irons x_draft_beasts x_draft_linesTold x_dfo_steps x_dfo_units x_lat_placements x_smi_irons x_smi_aim x_his_here x_his_undoable x_his_redoable x_book_placedCount x_wit_count x_wit_time n_tape_name B_xo_lying B_tape_bytes B_told_brands B_told_ironMarks B_told_homes B_told_births B_tfo_kinds B_tfo_numbers B_tfo_stack B_tfo_facts B_draft_brands B_draft_ironMarks B_draft_homes B_draft_births B_dfo_kinds B_dfo_numbers B_dfo_stack B_dfo_facts B_lat_lowHalves B_lat_highHalves B_lat_ways B_smi_placedIrons B_smi_within B_smi_costs B_his_isKept B_book_norms B_book_above B_book_heights B_book_placedBrands B_bea_firstGains B_bea_otherGains B_wit_burnings B_wit_strokes B_wit_wasOn B_wit_toldAt B_wit_untoldAt B_wit_on B_wit_off B_wit_firstCounts B_wit_secondCounts Ps Pd G_tape_wordNames G_told_herdNames G_told_ironNames G_told_beastNames G_draft_herdNames G_draft_ironNames G_draft_beastNames Ph Po Pg ex) H ∧ va_S A s.heap H locs ∧ lv_has ls 4 [(3, .int (mI z_6941)), (2, .int (mI z_6823)), (1, .int (mI z_6942)), (0, .ref (a 44))] ∧ g = F0 m 19 ls []) ?_ _ ⟨(z_6823 + 1), z_6824, _, by omega, by omega, by omega, rfl, hP, hS, lv_sub hl [0, 1, 2, 3] rfl, rfl⟩
    intro n_6948 H locs g hI ih_6949
    obtain ⟨z_6941, z_6942, ls, h19_0, h19_1, h19_2, mn_6948, hP, hS, hl, rfl⟩ := hI
    refine lv_iload_n hx hb dX1_twinCount_19 rfl (lv_at hl 0 rfl) ?_
    refine lv_aload_n hx hb dX1_twinCount_20 rfl (lv_at hl 3 rfl) ?_
    refine cg_book_told hx hb hts hown hK hP uw_2_136 dX1_twinCount_21 ?_
    refine cg_told_herds hx hb hts hown hK hP uw_1_169 dX1_twinCount_24 ?_
    refine sy_icmp_ge (tgt := 59) hx hb dX1_twinCount_27 (by decide) (by omega) (by omega) (fun c_6950 => ?_) (fun c_6950 => ?_)
    · skip
      refine lv_iinc (v := mI (z_6823 + 1)) (lv' := [(2, .int (mI (z_6823 + 1))), (3, .int (mI z_6941)), (1, .int (mI z_6942)), (0, .ref (a 44))]) hx hb dX1_twinCount_59 hl (k := 1) rfl (mI_ad rfl) (by decide) rfl (fun ls hl => ?_)
      refine lv_goto (tgt := 4) hx hb dX1_twinCount_62 (by decide) ?_
      exact ih_6890 _ _ _ _ (by omega) ⟨(z_6823 + 1), z_6942, _, by omega, by omega, rfl, hP, hS, lv_sub hl [0, 2, 3] rfl, rfl⟩
    · skip
      refine lv_iload_n hx hb dX1_twinCount_30 rfl (lv_at hl 2 rfl) ?_
      refine lv_aload_n hx hb dX1_twinCount_31 rfl (lv_at hl 3 rfl) ?_
      refine cg_book_norms hx hb hts hown hK hP uw_2_139 dX1_twinCount_32 ?_
      refine lv_iload_n hx hb dX1_twinCount_35 rfl (lv_at hl 1 rfl) ?_
      refine cl_book_norms hx hb hK hP dX1_twinCount_36 (by omega) b_B_book_norms (fun z_6951 _ hz_6951 => ?_)
      refine lv_aload_n hx hb dX1_twinCount_37 rfl (lv_at hl 3 rfl) ?_
      refine cg_book_norms hx hb hts hown hK hP uw_2_139 dX1_twinCount_38 ?_
      refine lv_iload_n hx hb dX1_twinCount_41 rfl (lv_at hl 0 rfl) ?_
      refine cl_book_norms hx hb hK hP dX1_twinCount_42 (by omega) b_B_book_norms (fun z_6952 _ hz_6952 => ?_)
      refine sy_icmp_ne (tgt := 50) hx hb dX1_twinCount_43 (by decide) (by omega) (by omega) (fun c_6953 => ?_) (fun c_6953 => ?_)
      · skip
        refine lv_iconst (v := mI 0) hx hb dX1_twinCount_50 rfl ?_
        refine sy_iadd hx hb dX1_twinCount_51 z_6942 (by omega) ?_
        refine lv_istore_n (lv' := [(1, .int (mI z_6942)), (3, .int (mI z_6941)), (2, .int (mI z_6823)), (0, .ref (a 44))]) hx hb dX1_twinCount_52 rfl hl (by decide) rfl (fun ls hl => ?_)
        refine lv_iinc (v := mI (z_6941 + 1)) (lv' := [(3, .int (mI (z_6941 + 1))), (1, .int (mI z_6942)), (2, .int (mI z_6823)), (0, .ref (a 44))]) hx hb dX1_twinCount_53 hl (k := 1) rfl (mI_ad rfl) (by decide) rfl (fun ls hl => ?_)
        refine lv_goto (tgt := 19) hx hb dX1_twinCount_56 (by decide) ?_
        exact ih_6949 _ _ _ _ (by omega) ⟨(z_6941 + 1), z_6942, _, by omega, by omega, by omega, rfl, hP, hS, lv_sub hl [0, 2, 1, 3] rfl, rfl⟩
      · skip
        refine lv_iconst (v := mI 1) hx hb dX1_twinCount_46 rfl ?_
        refine lv_goto (tgt := 51) hx hb dX1_twinCount_47 (by decide) ?_
        refine sy_iadd hx hb dX1_twinCount_51 (z_6942 + 1) rfl ?_
        refine sy_any (fun z_6954 hz_6954 => ?_)
        refine lv_istore_n (lv' := [(1, .int (mI z_6954)), (3, .int (mI z_6941)), (2, .int (mI z_6823)), (0, .ref (a 44))]) hx hb dX1_twinCount_52 rfl hl (by decide) rfl (fun ls hl => ?_)
        refine lv_iinc (v := mI (z_6941 + 1)) (lv' := [(3, .int (mI (z_6941 + 1))), (1, .int (mI z_6954)), (2, .int (mI z_6823)), (0, .ref (a 44))]) hx hb dX1_twinCount_53 hl (k := 1) rfl (mI_ad rfl) (by decide) rfl (fun ls hl => ?_)
        refine lv_goto (tgt := 19) hx hb dX1_twinCount_56 (by decide) ?_
        exact ih_6949 _ _ _ _ (by omega) ⟨(z_6941 + 1), z_6954, _, by omega, by omega, by omega, rfl, hP, hS, lv_sub hl [0, 2, 1, 3] rfl, rfl⟩
set_option maxHeartbeats 4000000 in
set_option maxRecDepth 100000 in
theorem kc_X1_isClosed (h_x_told_herds : 0 ≤ x_told_herds ∧ x_told_herds ≤ 8) (b_B_book_norms : bd (-2147483648) 2147483647 B_book_norms) (b_B_book_above : bd (-2147483648) 2147483647 B_book_above) : MetG l D k yX1_isClosed cX1_isClosed 1 (some .boolean) 1 [.ref (a 44)] (cW k a q x_xo_lyingCount x_tape_length x_tape_next x_tape_kind x_tape_place x_tape_number x_tape_faultKind x_tape_faultPlace x_told_turns x_told_mirror x_told_night x_told_draw x_told_herds x_told_irons x_told_beasts x_told_linesTold x_tfo_steps x_tfo_units x_draft_turns x_draft_mirror x_draft_night x_draft_draw x_draft_herds x_draft_irons x_draft_beasts x_draft_linesTold x_dfo_steps x_dfo_units x_lat_placements x_smi_irons x_smi_aim x_his_here x_his_undoable x_his_redoable x_book_placedCount x_wit_count x_wit_time n_tape_name B_xo_lying B_tape_bytes B_told_brands B_told_ironMarks B_told_homes B_told_births B_tfo_kinds B_tfo_numbers B_tfo_stack B_tfo_facts B_draft_brands B_draft_ironMarks B_draft_homes B_draft_births B_dfo_kinds B_dfo_numbers B_dfo_stack B_dfo_facts B_lat_lowHalves B_lat_highHalves B_lat_ways B_smi_placedIrons B_smi_within B_smi_costs B_his_isKept B_book_norms B_book_above B_book_heights B_book_placedBrands B_bea_firstGains B_bea_otherGains B_wit_burnings B_wit_strokes B_wit_wasOn B_wit_toldAt B_wit_untoldAt B_wit_on B_wit_off B_wit_firstCounts B_wit_secondCounts Ps Pd G_tape_wordNames G_told_herdNames G_told_ironNames G_told_beastNames G_draft_herdNames G_draft_ironNames G_draft_beastNames Ph Po Pg ex) (qGi (fun r0 H => ((0 = r0) ∨ (1 = r0)) ∧ va_P D vwCl (cW k a q x_xo_lyingCount x_tape_length x_tape_next x_tape_kind x_tape_place x_tape_number x_tape_faultKind x_tape_faultPlace x_told_turns x_told_mirror x_told_night x_told_draw x_told_herds x_told_irons x_told_beasts x_told_linesTold x_tfo_steps x_tfo_units x_draft_turns x_draft_mirror x_draft_night x_draft_draw x_draft_herds x_draft_irons x_draft_beasts x_draft_linesTold x_dfo_steps x_dfo_units x_lat_placements x_smi_irons x_smi_aim x_his_here x_his_undoable x_his_redoable x_book_placedCount x_wit_count x_wit_time n_tape_name B_xo_lying B_tape_bytes B_told_brands B_told_ironMarks B_told_homes B_told_births B_tfo_kinds B_tfo_numbers B_tfo_stack B_tfo_facts B_draft_brands B_draft_ironMarks B_draft_homes B_draft_births B_dfo_kinds B_dfo_numbers B_dfo_stack B_dfo_facts B_lat_lowHalves B_lat_highHalves B_lat_ways B_smi_placedIrons B_smi_within B_smi_costs B_his_isKept B_book_norms B_book_above B_book_heights B_book_placedBrands B_bea_firstGains B_bea_otherGains B_wit_burnings B_wit_strokes B_wit_wasOn B_wit_toldAt B_wit_untoldAt B_wit_on B_wit_off B_wit_firstCounts B_wit_secondCounts Ps Pd G_tape_wordNames G_told_herdNames G_told_ironNames G_told_beastNames G_draft_herdNames G_draft_ironNames G_draft_beastNames Ph Po Pg ex) H)) := by
  refine metG_of 0 ck_X1_isClosed (Nat.le_of_ble_eq_true rfl) cMap (fun p e s m args below meth c A hx hb hml hr hlocks hown hts hK hD hA hP hS ls hl => ?_)
  have hown : s.vm.findClass "HideReader$Book" = some m.cls := hown
  have hl : lv_has ls 1 [(0, .ref (a 44))] := hl
  refine lv_aload_n hx hb dX1_isClosed_0 rfl (lv_at hl 0 rfl) ?_
  refine g_i (cDt hD) hS hA (g_V (own := "HideReader$Book") (As := []) (rest := []) hx hb hml hown hts hK hP (cDt hD) (kc_X1_topHerds (l := l) (D := D) (k := k) h_x_told_herds b_B_book_above) ck_X1_topHerds iv_X1_topHerds uw_6_18 (cv_book hK hP) rfl hl.1 rfl (Nat.le_of_ble_eq_true rfl) dX1_isClosed_1 ⟨Nat.le_of_ble_eq_true rfl, Nat.le_of_ble_eq_true rfl⟩ ⟨Nat.le_of_ble_eq_true rfl, Nat.le_of_ble_eq_true rfl⟩) (fun r_1 H locs hQ hS => ?_)
  obtain ⟨hr_1_0, hP⟩ := hQ
  refine lv_aload_n hx hb dX1_isClosed_4 rfl (lv_at hl 0 rfl) ?_
  refine g_i (cDt hD) hS hA (g_V (own := "HideReader$Book") (As := []) (rest := [.int (mI r_1)]) hx hb hml hown hts hK hP (cDt hD) (kc_X1_allHerds (l := l) (D := D) (k := k) h_x_told_herds) ck_X1_allHerds iv_X1_allHerds uw_5_59 (cv_book hK hP) rfl hl.1 rfl (Nat.le_of_ble_eq_true rfl) dX1_isClosed_5 ⟨Nat.le_of_ble_eq_true rfl, Nat.le_of_ble_eq_true rfl⟩ ⟨Nat.le_of_ble_eq_true rfl, Nat.le_of_ble_eq_true rfl⟩) (fun r_2 H locs hQ hS => ?_)
  obtain ⟨hr_2_0, hP⟩ := hQ
  refine sy_icmp_ne (tgt := 22) hx hb dX1_isClosed_8 (by decide) (by omega) (by omega) (fun c_3 => ?_) (fun c_3 => ?_)
  · skip
    refine lv_iconst (v := mI 0) hx hb dX1_isClosed_22 rfl ?_
    exact r_z hx hb hr hlocks dX1_isClosed_23 hS (by decide) ⟨Or.inl (rfl), hP⟩
  · skip
    refine lv_aload_n hx hb dX1_isClosed_11 rfl (lv_at hl 0 rfl) ?_
    refine g_i (cDt hD) hS hA (g_V (own := "HideReader$Book") (As := []) (rest := []) hx hb hml hown hts hK hP (cDt hD) (kc_X1_twinCount (l := l) (D := D) (k := k) h_x_told_herds b_B_book_norms) ck_X1_twinCount iv_X1_twinCount uw_6_19 (cv_book hK hP) rfl hl.1 rfl (Nat.le_of_ble_eq_true rfl) dX1_isClosed_12 ⟨Nat.le_of_ble_eq_true rfl, Nat.le_of_ble_eq_true rfl⟩ ⟨Nat.le_of_ble_eq_true rfl, Nat.le_of_ble_eq_true rfl⟩) (fun r_4 H locs hQ hS => ?_)
    obtain ⟨hr_4_0, hP⟩ := hQ
    refine sy_if_ne (tgt := 22) hx hb dX1_isClosed_15 (by decide) (by omega) (fun c_5 => ?_) (fun c_5 => ?_)
    · skip
      refine lv_iconst (v := mI 0) hx hb dX1_isClosed_22 rfl ?_
      exact r_z hx hb hr hlocks dX1_isClosed_23 hS (by decide) ⟨Or.inl (rfl), hP⟩
    · skip
      refine lv_iconst (v := mI 1) hx hb dX1_isClosed_18 rfl ?_
      refine lv_goto (tgt := 23) hx hb dX1_isClosed_19 (by decide) ?_
      exact r_z hx hb hr hlocks dX1_isClosed_23 hS (by decide) ⟨Or.inr (rfl), hP⟩
set_option maxHeartbeats 4000000 in
set_option maxRecDepth 100000 in
theorem kc_J7_fill_53178_book_heights {p1 : Int} (hp1 : -2147483648 ≤ p1 ∧ p1 ≤ 2147483647) (b_B_book_heights : bd (-2147483648) 2147483647 B_book_heights) : MetG l D k yJ7_fill_53178 cJ7_fill_53178 4 none 0 [.ref (a 47), .int (mI p1)] (cW k a q x_xo_lyingCount x_tape_length x_tape_next x_tape_kind x_tape_place x_tape_number x_tape_faultKind x_tape_faultPlace x_told_turns x_told_mirror x_told_night x_told_draw x_told_herds x_told_irons x_told_beasts x_told_linesTold x_tfo_steps x_tfo_units x_draft_turns x_draft_mirror x_draft_night x_draft_draw x_draft_herds x_draft_irons x_draft_beasts x_draft_linesTold x_dfo_steps x_dfo_units x_lat_placements x_smi_irons x_smi_aim x_his_here x_his_undoable x_his_redoable x_book_placedCount x_wit_count x_wit_time n_tape_name B_xo_lying B_tape_bytes B_told_brands B_told_ironMarks B_told_homes B_told_births B_tfo_kinds B_tfo_numbers B_tfo_stack B_tfo_facts B_draft_brands B_draft_ironMarks B_draft_homes B_draft_births B_dfo_kinds B_dfo_numbers B_dfo_stack B_dfo_facts B_lat_lowHalves B_lat_highHalves B_lat_ways B_smi_placedIrons B_smi_within B_smi_costs B_his_isKept B_book_norms B_book_above B_book_heights B_book_placedBrands B_bea_firstGains B_bea_otherGains B_wit_burnings B_wit_strokes B_wit_wasOn B_wit_toldAt B_wit_untoldAt B_wit_on B_wit_off B_wit_firstCounts B_wit_secondCounts Ps Pd G_tape_wordNames G_told_herdNames G_told_ironNames G_told_beastNames G_draft_herdNames G_draft_ironNames G_draft_beastNames Ph Po Pg ex) (qGv (fun H => ∃ (F_book_heights : Nat → Int), (bd (-2147483648) 2147483647 F_book_heights) ∧ va_P D vwCl (cW k a q x_xo_lyingCount x_tape_length x_tape_next x_tape_kind x_tape_place x_tape_number x_tape_faultKind x_tape_faultPlace x_told_turns x_told_mirror x_told_night x_told_draw x_told_herds x_told_irons x_told_beasts x_told_linesTold x_tfo_steps x_tfo_units x_draft_turns x_draft_mirror x_draft_night x_draft_draw x_draft_herds x_draft_irons x_draft_beasts x_draft_linesTold x_dfo_steps x_dfo_units x_lat_placements x_smi_irons x_smi_aim x_his_here x_his_undoable x_his_redoable x_book_placedCount x_wit_count x_wit_time n_tape_name B_xo_lying B_tape_bytes B_told_brands B_told_ironMarks B_told_homes B_told_births B_tfo_kinds B_tfo_numbers B_tfo_stack B_tfo_facts B_draft_brands B_draft_ironMarks B_draft_homes B_draft_births B_dfo_kinds B_dfo_numbers B_dfo_stack B_dfo_facts B_lat_lowHalves B_lat_highHalves B_lat_ways B_smi_placedIrons B_smi_within B_smi_costs B_his_isKept B_book_norms B_book_above F_book_heights B_book_placedBrands B_bea_firstGains B_bea_otherGains B_wit_burnings B_wit_strokes B_wit_wasOn B_wit_toldAt B_wit_untoldAt B_wit_on B_wit_off B_wit_firstCounts B_wit_secondCounts Ps Pd G_tape_wordNames G_told_herdNames G_told_ironNames G_told_beastNames G_draft_herdNames G_draft_ironNames G_draft_beastNames Ph Po Pg ex) H)) := by
  refine metG_of 2 ck_J7_fill_53178 (Nat.le_of_ble_eq_true rfl) cMap (fun p e s m args below meth c A hx hb hml hr hlocks hown hts hK hD hA hP hS ls hl => ?_)
  have hown : s.vm.findClass "java/util/Arrays" = some m.cls := hown
  have hl : lv_has ls 4 [(0, .ref (a 47)), (1, .int (mI p1))] := hl
  refine lv_iconst (v := mI 0) hx hb dJ7_fill_53178_0 rfl ?_
  refine lv_istore_n (lv' := [(2, .int (mI 0)), (0, .ref (a 47)), (1, .int (mI p1))]) hx hb dJ7_fill_53178_1 rfl hl (by decide) rfl (fun ls hl => ?_)
  refine lv_aload_n hx hb dJ7_fill_53178_2 rfl (lv_at hl 1 rfl) ?_
  refine cn_book_heights hx hb hK hP dJ7_fill_53178_3 ?_
  refine lv_istore_n (lv' := [(3, .int (mI 8)), (2, .int (mI 0)), (0, .ref (a 47)), (1, .int (mI p1))]) hx hb dJ7_fill_53178_4 rfl hl (by decide) rfl (fun ls hl => ?_)
  refine sy_loop (I := fun n H locs g => ∃ (z_27 : Int) (F_28 : Nat → Int) (ls : Array Slot), (0 ≤ z_27 ∧ z_27 ≤ 8) ∧ (bd (-2147483648) 2147483647 F_28) ∧ (8 - z_27).toNat = n ∧ va_P D vwCl (cW k a q x_xo_lyingCount x_tape_length x_tape_next x_tape_kind x_tape_place x_tape_number x_tape_faultKind x_tape_faultPlace x_told_turns x_told_mirror x_told_night x_told_draw x_told_herds x_told_irons x_told_beasts x_told_linesTold x_tfo_steps x_tfo_units x_draft_turns x_draft_mirror x_draft_night x_draft_draw x_draft_herds x_draft_irons x_draft_beasts x_draft_linesTold x_dfo_steps x_dfo_units x_lat_placements x_smi_irons x_smi_aim x_his_here x_his_undoable x_his_redoable x_book_placedCount x_wit_count x_wit_time n_tape_name B_xo_lying B_tape_bytes B_told_brands B_told_ironMarks B_told_homes B_told_births B_tfo_kinds B_tfo_numbers B_tfo_stack B_tfo_facts B_draft_brands B_draft_ironMarks B_draft_homes B_draft_births B_dfo_kinds B_dfo_numbers B_dfo_stack B_dfo_facts B_lat_lowHalves B_lat_highHalves B_lat_ways B_smi_placedIrons B_smi_within B_smi_costs B_his_isKept B_book_norms B_book_above F_28 B_book_placedBrands B_bea_firstGains B_bea_otherGains B_wit_burnings B_wit_strokes B_wit_wasOn B_wit_toldAt B_wit_untoldAt B_wit_on B_wit_off B_wit_firstCounts B_wit_secondCounts Ps Pd G_tape_wordNames G_told_herdNames G_told_ironNames G_told_beastNames G_draft_herdNames G_draft_ironNames G_draft_beastNames Ph Po Pg ex) H ∧ va_S A s.heap H locs ∧ lv_has ls 4 [(3, .int (mI 8)), (2, .int (mI z_27)), (0, .ref (a 47)), (1, .int (mI p1))] ∧ g = F0 m 5 ls []) ?_ _ ⟨0, B_book_heights, _, by omega, b_B_book_heights, rfl, hP, hS, lv_sub hl [0, 1, 2, 3] rfl, rfl⟩
  intro n_31 H locs g hI ih_32
  obtain ⟨z_27, F_28, ls, h5_0, bF_28, mn_31, hP, hS, hl, rfl⟩ := hI
  refine lv_iload_n hx hb dJ7_fill_53178_5 rfl (lv_at hl 1 rfl) ?_
  refine lv_iload_n hx hb dJ7_fill_53178_6 rfl (lv_at hl 0 rfl) ?_
  refine sy_icmp_ge (tgt := 20) hx hb dJ7_fill_53178_7 (by decide) (by omega) (by decide) (fun c_33 => ?_) (fun c_33 => ?_)
  · skip
    exact r_v hx hb hr hlocks dJ7_fill_53178_20 hS ⟨F_28, bF_28, hP⟩
  · skip
    refine lv_aload_n hx hb dJ7_fill_53178_10 rfl (lv_at hl 2 rfl) ?_
    refine lv_iload_n hx hb dJ7_fill_53178_11 rfl (lv_at hl 1 rfl) ?_
    refine lv_iload_n hx hb dJ7_fill_53178_12 rfl (lv_at hl 3 rfl) ?_
    refine cs_book_heights hx hb hK hP hD hS dJ7_fill_53178_13 (by omega) bF_28 (by omega) (fun F_34 H locs _ bF_34 hP hS => ?_)
    refine lv_iinc (v := mI (z_27 + 1)) (lv' := [(2, .int (mI (z_27 + 1))), (3, .int (mI 8)), (0, .ref (a 47)), (1, .int (mI p1))]) hx hb dJ7_fill_53178_14 hl (k := 1) rfl (mI_ad rfl) (by decide) rfl (fun ls hl => ?_)
    refine lv_goto (tgt := 5) hx hb dJ7_fill_53178_17 (by decide) ?_
    exact ih_32 _ _ _ _ (by omega) ⟨(z_27 + 1), F_34, _, by omega, bF_34, rfl, hP, hS, lv_sub hl [1, 0, 2, 3] rfl, rfl⟩
set_option maxHeartbeats 4000000 in
set_option maxRecDepth 100000 in
theorem kc_X1_highestOf {p0 : Int} (hp0 : -2147483648 ≤ p0 ∧ p0 ≤ 2147483647) (h_x_told_herds : 0 ≤ x_told_herds ∧ x_told_herds ≤ 8) (b_B_book_heights : bd (-2147483648) 2147483647 B_book_heights) : MetG l D k yX1_highestOf cX1_highestOf 4 (some .int) 1 [.ref (a 44), .int (mI p0)] (cW k a q x_xo_lyingCount x_tape_length x_tape_next x_tape_kind x_tape_place x_tape_number x_tape_faultKind x_tape_faultPlace x_told_turns x_told_mirror x_told_night x_told_draw x_told_herds x_told_irons x_told_beasts x_told_linesTold x_tfo_steps x_tfo_units x_draft_turns x_draft_mirror x_draft_night x_draft_draw x_draft_herds x_draft_irons x_draft_beasts x_draft_linesTold x_dfo_steps x_dfo_units x_lat_placements x_smi_irons x_smi_aim x_his_here x_his_undoable x_his_redoable x_book_placedCount x_wit_count x_wit_time n_tape_name B_xo_lying B_tape_bytes B_told_brands B_told_ironMarks B_told_homes B_told_births B_tfo_kinds B_tfo_numbers B_tfo_stack B_tfo_facts B_draft_brands B_draft_ironMarks B_draft_homes B_draft_births B_dfo_kinds B_dfo_numbers B_dfo_stack B_dfo_facts B_lat_lowHalves B_lat_highHalves B_lat_ways B_smi_placedIrons B_smi_within B_smi_costs B_his_isKept B_book_norms B_book_above B_book_heights B_book_placedBrands B_bea_firstGains B_bea_otherGains B_wit_burnings B_wit_strokes B_wit_wasOn B_wit_toldAt B_wit_untoldAt B_wit_on B_wit_off B_wit_firstCounts B_wit_secondCounts Ps Pd G_tape_wordNames G_told_herdNames G_told_ironNames G_told_beastNames G_draft_herdNames G_draft_ironNames G_draft_beastNames Ph Po Pg ex) (qGi (fun r0 H => (0 ≤ r0 ∧ r0 ≤ 2147483647) ∧ va_P D vwCl (cW k a q x_xo_lyingCount x_tape_length x_tape_next x_tape_kind x_tape_place x_tape_number x_tape_faultKind x_tape_faultPlace x_told_turns x_told_mirror x_told_night x_told_draw x_told_herds x_told_irons x_told_beasts x_told_linesTold x_tfo_steps x_tfo_units x_draft_turns x_draft_mirror x_draft_night x_draft_draw x_draft_herds x_draft_irons x_draft_beasts x_draft_linesTold x_dfo_steps x_dfo_units x_lat_placements x_smi_irons x_smi_aim x_his_here x_his_undoable x_his_redoable x_book_placedCount x_wit_count x_wit_time n_tape_name B_xo_lying B_tape_bytes B_told_brands B_told_ironMarks B_told_homes B_told_births B_tfo_kinds B_tfo_numbers B_tfo_stack B_tfo_facts B_draft_brands B_draft_ironMarks B_draft_homes B_draft_births B_dfo_kinds B_dfo_numbers B_dfo_stack B_dfo_facts B_lat_lowHalves B_lat_highHalves B_lat_ways B_smi_placedIrons B_smi_within B_smi_costs B_his_isKept B_book_norms B_book_above B_book_heights B_book_placedBrands B_bea_firstGains B_bea_otherGains B_wit_burnings B_wit_strokes B_wit_wasOn B_wit_toldAt B_wit_untoldAt B_wit_on B_wit_off B_wit_firstCounts B_wit_secondCounts Ps Pd G_tape_wordNames G_told_herdNames G_told_ironNames G_told_beastNames G_draft_herdNames G_draft_ironNames G_draft_beastNames Ph Po Pg ex) H)) := by
  refine metG_of 1 ck_X1_highestOf (Nat.le_of_ble_eq_true rfl) cMap (fun p e s m args below meth c A hx hb hml hr hlocks hown hts hK hD hA hP hS ls hl => ?_)
  have hown : s.vm.findClass "HideReader$Book" = some m.cls := hown
  have hl : lv_has ls 4 [(0, .ref (a 44)), (1, .int (mI p0))] := hl
  refine lv_iconst (v := mI 0) hx hb dX1_highestOf_0 rfl ?_
  refine lv_istore_n (lv' := [(2, .int (mI 0)), (0, .ref (a 44)), (1, .int (mI p0))]) hx hb dX1_highestOf_1 rfl hl (by decide) rfl (fun ls hl => ?_)
  refine lv_iconst (v := mI 0) hx hb dX1_highestOf_2 rfl ?_
  refine lv_istore_n (lv' := [(3, .int (mI 0)), (2, .int (mI 0)), (0, .ref (a 44)), (1, .int (mI p0))]) hx hb dX1_highestOf_3 rfl hl (by decide) rfl (fun ls hl => ?_)
  refine sy_loop (I := fun n H locs g => ∃ (z_311 : Int) (z_312 : Int) (ls : Array Slot), (0 ≤ z_311 ∧ z_311 ≤ 8) ∧ (0 ≤ z_312 ∧ z_312 ≤ 2147483647) ∧ (8 - z_311).toNat = n ∧ va_P D vwCl (cW k a q x_xo_lyingCount x_tape_length x_tape_next x_tape_kind x_tape_place x_tape_number x_tape_faultKind x_tape_faultPlace x_told_turns x_told_mirror x_told_night x_told_draw x_told_herds x_told_irons x_told_beasts x_told_linesTold x_tfo_steps x_tfo_units x_draft_turns x_draft_mirror x_draft_night x_draft_draw x_draft_herds x_draft_irons x_draft_beasts x_draft_linesTold x_dfo_steps x_dfo_units x_lat_placements x_smi_irons x_smi_aim x_his_here x_his_undoable x_his_redoable x_book_placedCount x_wit_count x_wit_time n_tape_name B_xo_lying B_tape_bytes B_told_brands B_told_ironMarks B_told_homes B_told_births B_tfo_kinds B_tfo_numbers B_tfo_stack B_tfo_facts B_draft_brands B_draft_ironMarks B_draft_homes B_draft_births B_dfo_kinds B_dfo_numbers B_dfo_stack B_dfo_facts B_lat_lowHalves B_lat_highHalves B_lat_ways B_smi_placedIrons B_smi_within B_smi_costs B_his_isKept B_book_norms B_book_above B_book_heights B_book_placedBrands B_bea_firstGains B_bea_otherGains B_wit_burnings B_wit_strokes B_wit_wasOn B_wit_toldAt B_wit_untoldAt B_wit_on B_wit_off B_wit_firstCounts B_wit_secondCounts Ps Pd G_tape_wordNames G_told_herdNames G_told_ironNames G_told_beastNames G_draft_herdNames G_draft_ironNames G_draft_beastNames Ph Po Pg ex) H ∧ va_S A s.heap H locs ∧ lv_has ls 4 [(3, .int (mI z_311)), (2, .int (mI z_312)), (0, .ref (a 44)), (1, .int (mI p0))] ∧ g = F0 m 4 ls []) ?_ _ ⟨0, 0, _, by omega, by omega, rfl, hP, hS, lv_sub hl [0, 1, 2, 3] rfl, rfl⟩
  intro n_319 H locs g hI ih_320
  obtain ⟨z_311, z_312, ls, h4_0, h4_1, mn_319, hP, hS, hl, rfl⟩ := hI
  refine lv_iload_n hx hb dX1_highestOf_4 rfl (lv_at hl 0 rfl) ?_
  refine lv_aload_n hx hb dX1_highestOf_5 rfl (lv_at hl 2 rfl) ?_
  refine cg_book_told hx hb hts hown hK hP uw_2_136 dX1_highestOf_6 ?_
  refine cg_told_herds hx hb hts hown hK hP uw_1_169 dX1_highestOf_9 ?_
  refine sy_icmp_ge (tgt := 40) hx hb dX1_highestOf_12 (by decide) (by omega) (by omega) (fun c_321 => ?_) (fun c_321 => ?_)
  · skip
    refine lv_iload_n hx hb dX1_highestOf_40 rfl (lv_at hl 1 rfl) ?_
    exact r_i hx hb hr hlocks dX1_highestOf_41 hS ⟨by omega, hP⟩
  · skip
    refine lv_iload_n hx hb dX1_highestOf_15 rfl (lv_at hl 3 rfl) ?_
    refine lv_iconst (v := mI 1) hx hb dX1_highestOf_16 rfl ?_
    refine lv_iload_n hx hb dX1_highestOf_17 rfl (lv_at hl 0 rfl) ?_
    refine sy_shl1 hx hb dX1_highestOf_18 7 (by decide) 128 (by decide) (by omega) (fun z_322 ez_322 hz_322 => ?_)
    refine sy_iandR hx hb dX1_highestOf_19 (by omega) (fun z_323 hz_323 => ?_)
    refine sy_if_eq (tgt := 34) hx hb dX1_highestOf_20 (by decide) (by omega) (fun c_324 => ?_) (fun c_324 => ?_)
    · skip
      refine lv_iinc (v := mI (z_311 + 1)) (lv' := [(3, .int (mI (z_311 + 1))), (2, .int (mI z_312)), (0, .ref (a 44)), (1, .int (mI p0))]) hx hb dX1_highestOf_34 hl (k := 0) rfl (mI_ad rfl) (by decide) rfl (fun ls hl => ?_)
      refine lv_goto (tgt := 4) hx hb dX1_highestOf_37 (by decide) ?_
      exact ih_320 _ _ _ _ (by omega) ⟨(z_311 + 1), z_312, _, by omega, by omega, rfl, hP, hS, lv_sub hl [0, 1, 2, 3] rfl, rfl⟩
    · skip
      refine lv_iload_n hx hb dX1_highestOf_23 rfl (lv_at hl 1 rfl) ?_
      refine lv_aload_n hx hb dX1_highestOf_24 rfl (lv_at hl 2 rfl) ?_
      refine cg_book_heights hx hb hts hown hK hP uw_2_141 dX1_highestOf_25 ?_
      refine lv_iload_n hx hb dX1_highestOf_28 rfl (lv_at hl 0 rfl) ?_
      refine cl_book_heights hx hb hK hP dX1_highestOf_29 (by omega) b_B_book_heights (fun z_325 _ hz_325 => ?_)
      refine sy_max hx hb (hml.trans hl.1.symm) hown hts uw_5_58 (Nat.le_of_ble_eq_true rfl) (Nat.le_of_ble_eq_true rfl) (Nat.le_of_ble_eq_true rfl) (Nat.le_of_ble_eq_true rfl) dX1_highestOf_30 (by omega) (by omega) (fun z_326 hz_326 => ?_)
      refine lv_istore_n (lv' := [(2, .int (mI z_326)), (3, .int (mI z_311)), (0, .ref (a 44)), (1, .int (mI p0))]) hx hb dX1_highestOf_33 rfl hl (by decide) rfl (fun ls hl => ?_)
      refine lv_iinc (v := mI (z_311 + 1)) (lv' := [(3, .int (mI (z_311 + 1))), (2, .int (mI z_326)), (0, .ref (a 44)), (1, .int (mI p0))]) hx hb dX1_highestOf_34 hl (k := 1) rfl (mI_ad rfl) (by decide) rfl (fun ls hl => ?_)
      refine lv_goto (tgt := 4) hx hb dX1_highestOf_37 (by decide) ?_
      exact ih_320 _ _ _ _ (by omega) ⟨(z_311 + 1), z_326, _, by omega, by omega, rfl, hP, hS, lv_sub hl [0, 1, 2, 3] rfl, rfl⟩
set_option maxHeartbeats 4000000 in
set_option maxRecDepth 100000 in
theorem kc_X1_measureHeights (h_x_told_herds : 0 ≤ x_told_herds ∧ x_told_herds ≤ 8) (b_B_book_above : bd (-2147483648) 2147483647 B_book_above) (b_B_book_heights : bd (-2147483648) 2147483647 B_book_heights) : MetG l D k yX1_measureHeights cX1_measureHeights 4 (some .int) 2 [.ref (a 44)] (cW k a q x_xo_lyingCount x_tape_length x_tape_next x_tape_kind x_tape_place x_tape_number x_tape_faultKind x_tape_faultPlace x_told_turns x_told_mirror x_told_night x_told_draw x_told_herds x_told_irons x_told_beasts x_told_linesTold x_tfo_steps x_tfo_units x_draft_turns x_draft_mirror x_draft_night x_draft_draw x_draft_herds x_draft_irons x_draft_beasts x_draft_linesTold x_dfo_steps x_dfo_units x_lat_placements x_smi_irons x_smi_aim x_his_here x_his_undoable x_his_redoable x_book_placedCount x_wit_count x_wit_time n_tape_name B_xo_lying B_tape_bytes B_told_brands B_told_ironMarks B_told_homes B_told_births B_tfo_kinds B_tfo_numbers B_tfo_stack B_tfo_facts B_draft_brands B_draft_ironMarks B_draft_homes B_draft_births B_dfo_kinds B_dfo_numbers B_dfo_stack B_dfo_facts B_lat_lowHalves B_lat_highHalves B_lat_ways B_smi_placedIrons B_smi_within B_smi_costs B_his_isKept B_book_norms B_book_above B_book_heights B_book_placedBrands B_bea_firstGains B_bea_otherGains B_wit_burnings B_wit_strokes B_wit_wasOn B_wit_toldAt B_wit_untoldAt B_wit_on B_wit_off B_wit_firstCounts B_wit_secondCounts Ps Pd G_tape_wordNames G_told_herdNames G_told_ironNames G_told_beastNames G_draft_herdNames G_draft_ironNames G_draft_beastNames Ph Po Pg ex) (qGi (fun r0 H => ∃ (F_book_heights : Nat → Int), (0 ≤ r0 ∧ r0 ≤ 2147483647) ∧ (bd (-2147483648) 2147483647 F_book_heights) ∧ va_P D vwCl (cW k a q x_xo_lyingCount x_tape_length x_tape_next x_tape_kind x_tape_place x_tape_number x_tape_faultKind x_tape_faultPlace x_told_turns x_told_mirror x_told_night x_told_draw x_told_herds x_told_irons x_told_beasts x_told_linesTold x_tfo_steps x_tfo_units x_draft_turns x_draft_mirror x_draft_night x_draft_draw x_draft_herds x_draft_irons x_draft_beasts x_draft_linesTold x_dfo_steps x_dfo_units x_lat_placements x_smi_irons x_smi_aim x_his_here x_his_undoable x_his_redoable x_book_placedCount x_wit_count x_wit_time n_tape_name B_xo_lying B_tape_bytes B_told_brands B_told_ironMarks B_told_homes B_told_births B_tfo_kinds B_tfo_numbers B_tfo_stack B_tfo_facts B_draft_brands B_draft_ironMarks B_draft_homes B_draft_births B_dfo_kinds B_dfo_numbers B_dfo_stack B_dfo_facts B_lat_lowHalves B_lat_highHalves B_lat_ways B_smi_placedIrons B_smi_within B_smi_costs B_his_isKept B_book_norms B_book_above F_book_heights B_book_placedBrands B_bea_firstGains B_bea_otherGains B_wit_burnings B_wit_strokes B_wit_wasOn B_wit_toldAt B_wit_untoldAt B_wit_on B_wit_off B_wit_firstCounts B_wit_secondCounts Ps Pd G_tape_wordNames G_told_herdNames G_told_ironNames G_told_beastNames G_draft_herdNames G_draft_ironNames G_draft_beastNames Ph Po Pg ex) H)) := by
  refine metG_of 0 ck_X1_measureHeights (Nat.le_of_ble_eq_true rfl) cMap (fun p e s m args below meth c A hx hb hml hr hlocks hown hts hK hD hA hP hS ls hl => ?_)
  have hown : s.vm.findClass "HideReader$Book" = some m.cls := hown
  have hl : lv_has ls 4 [(0, .ref (a 44))] := hl
  refine lv_iconst (v := mI 0) hx hb dX1_measureHeights_0 rfl ?_
  refine lv_istore_n (lv' := [(1, .int (mI 0)), (0, .ref (a 44))]) hx hb dX1_measureHeights_1 rfl hl (by decide) rfl (fun ls hl => ?_)
  refine lv_aload_n hx hb dX1_measureHeights_2 rfl (lv_at hl 1 rfl) ?_
  refine cg_book_heights hx hb hts hown hK hP uw_2_141 dX1_measureHeights_3 ?_
  refine lv_iconst (v := mI 0) hx hb dX1_measureHeights_6 rfl ?_
  refine g_v (cDt hD) hS hA (g_S (own := "HideReader$Book") (As := [.ref (a 47), .int (mI 0)]) (rest := []) hx hb hml hown hts hK hP (cDt hD) (kc_J7_fill_53178_book_heights (l := l) (D := D) (k := k) (by decide) b_B_book_heights) ck_J7_fill_53178 uw_5_52 uw_5_51 rfl hl.1 rfl (Nat.le_of_ble_eq_true rfl) dX1_measureHeights_7 ⟨Nat.le_of_ble_eq_true rfl, Nat.le_of_ble_eq_true rfl⟩ ⟨Nat.le_of_ble_eq_true rfl, Nat.le_of_ble_eq_true rfl⟩) (fun H locs hQ hS => ?_)
  obtain ⟨F_2, bF_2, hP⟩ := hQ
  refine lv_iconst (v := mI 0) hx hb dX1_measureHeights_10 rfl ?_
  refine lv_istore_n (lv' := [(2, .int (mI 0)), (1, .int (mI 0)), (0, .ref (a 44))]) hx hb dX1_measureHeights_11 rfl hl (by decide) rfl (fun ls hl => ?_)
  refine sy_loop (I := fun n H locs g => ∃ (z_9115 : Int) (z_9116 : Int) (F_9117 : Nat → Int) (ls : Array Slot), (0 ≤ z_9115 ∧ z_9115 ≤ 8) ∧ (0 ≤ z_9116 ∧ z_9116 ≤ 2147483647) ∧ (bd (-2147483648) 2147483647 F_9117) ∧ (8 - z_9115).toNat = n ∧ va_P D vwCl (cW k a q x_xo_lyingCount x_tape_length x_tape_next x_tape_kind x_tape_place x_tape_number x_tape_faultKind x_tape_faultPlace x_told_turns x_told_mirror x_told_night x_told_draw x_told_herds x_told_irons x_told_beasts x_told_linesTold x_tfo_steps x_tfo_units x_draft_turns x_draft_mirror x_draft_night x_draft_draw x_draft_herds x_draft_irons x_draft_beasts x_draft_linesTold x_dfo_steps x_dfo_units x_lat_placements x_smi_irons x_smi_aim x_his_here x_his_undoable x_his_redoable x_book_placedCount x_wit_count x_wit_time n_tape_name B_xo_lying B_tape_bytes B_told_brands B_told_ironMarks B_told_homes B_told_births B_tfo_kinds B_tfo_numbers B_tfo_stack B_tfo_facts B_draft_brands B_draft_ironMarks B_draft_homes B_draft_births B_dfo_kinds B_dfo_numbers B_dfo_stack B_dfo_facts B_lat_lowHalves B_lat_highHalves B_lat_ways B_smi_placedIrons B_smi_within B_smi_costs B_his_isKept B_book_norms B_book_above F_9117 B_book_placedBrands B_bea_firstGains B_bea_otherGains B_wit_burnings B_wit_strokes B_wit_wasOn B_wit_toldAt B_wit_untoldAt B_wit_on B_wit_off B_wit_firstCounts B_wit_secondCounts Ps Pd G_tape_wordNames G_told_herdNames G_told_ironNames G_told_beastNames G_draft_herdNames G_draft_ironNames G_draft_beastNames Ph Po Pg ex) H ∧ va_S A s.heap H locs ∧ lv_has ls 4 [(2, .int (mI z_9115)), (1, .int (mI z_9116)), (0, .ref (a 44))] ∧ g = F0 m 12 ls []) ?_ _ ⟨0, 0, F_2, _, by omega, by omega, bF_2, rfl, hP, hS, lv_sub hl [0, 1, 2] rfl, rfl⟩
  intro n_9209 H locs g hI ih_9210
  obtain ⟨z_9115, z_9116, F_9117, ls, h12_0, h12_1, bF_9117, mn_9209, hP, hS, hl, rfl⟩ := hI
  refine lv_iload_n hx hb dX1_measureHeights_12 rfl (lv_at hl 0 rfl) ?_
  refine lv_aload_n hx hb dX1_measureHeights_13 rfl (lv_at hl 2 rfl) ?_
  refine cg_book_told hx hb hts hown hK hP uw_2_136 dX1_measureHeights_14 ?_
  refine cg_told_herds hx hb hts hown hK hP uw_1_169 dX1_measureHeights_17 ?_
  refine sy_icmp_ge (tgt := 77) hx hb dX1_measureHeights_20 (by decide) (by omega) (by omega) (fun c_9211 => ?_) (fun c_9211 => ?_)
  · skip
    refine lv_iload_n hx hb dX1_measureHeights_77 rfl (lv_at hl 1 rfl) ?_
    exact r_i hx hb hr hlocks dX1_measureHeights_78 hS ⟨F_9117, by omega, bF_9117, hP⟩
  · skip
    refine lv_iconst (v := mI 0) hx hb dX1_measureHeights_23 rfl ?_
    refine lv_istore_n (lv' := [(3, .int (mI 0)), (2, .int (mI z_9115)), (1, .int (mI z_9116)), (0, .ref (a 44))]) hx hb dX1_measureHeights_24 rfl hl (by decide) rfl (fun ls hl => ?_)
    refine sy_loop (I := fun n H locs g => ∃ (z_9283 : Int) (z_9284 : Int) (F_9285 : Nat → Int) (ls : Array Slot), (0 ≤ z_9283 ∧ z_9283 ≤ 8) ∧ (0 ≤ z_9284 ∧ z_9284 ≤ 2147483647) ∧ (bd (-2147483648) 2147483647 F_9285) ∧ (0 ≤ z_9284 - z_9116) ∧ (8 - z_9283).toNat = n ∧ va_P D vwCl (cW k a q x_xo_lyingCount x_tape_length x_tape_next x_tape_kind x_tape_place x_tape_number x_tape_faultKind x_tape_faultPlace x_told_turns x_told_mirror x_told_night x_told_draw x_told_herds x_told_irons x_told_beasts x_told_linesTold x_tfo_steps x_tfo_units x_draft_turns x_draft_mirror x_draft_night x_draft_draw x_draft_herds x_draft_irons x_draft_beasts x_draft_linesTold x_dfo_steps x_dfo_units x_lat_placements x_smi_irons x_smi_aim x_his_here x_his_undoable x_his_redoable x_book_placedCount x_wit_count x_wit_time n_tape_name B_xo_lying B_tape_bytes B_told_brands B_told_ironMarks B_told_homes B_told_births B_tfo_kinds B_tfo_numbers B_tfo_stack B_tfo_facts B_draft_brands B_draft_ironMarks B_draft_homes B_draft_births B_dfo_kinds B_dfo_numbers B_dfo_stack B_dfo_facts B_lat_lowHalves B_lat_highHalves B_lat_ways B_smi_placedIrons B_smi_within B_smi_costs B_his_isKept B_book_norms B_book_above F_9285 B_book_placedBrands B_bea_firstGains B_bea_otherGains B_wit_burnings B_wit_strokes B_wit_wasOn B_wit_toldAt B_wit_untoldAt B_wit_on B_wit_off B_wit_firstCounts B_wit_secondCounts Ps Pd G_tape_wordNames G_told_herdNames G_told_ironNames G_told_beastNames G_draft_herdNames G_draft_ironNames G_draft_beastNames Ph Po Pg ex) H ∧ va_S A s.heap H locs ∧ lv_has ls 4 [(3, .int (mI z_9283)), (2, .int (mI z_9115)), (1, .int (mI z_9284)), (0, .ref (a 44))] ∧ g = F0 m 25 ls []) ?_ _ ⟨0, z_9116, F_9117, _, by omega, by omega, bF_9117, by omega, rfl, hP, hS, lv_sub hl [0, 1, 2, 3] rfl, rfl⟩
    intro n_9293 H locs g hI ih_9294
    obtain ⟨z_9283, z_9284, F_9285, ls, h25_0, h25_1, bF_9285, h25_3, mn_9293, hP, hS, hl, rfl⟩ := hI
    refine lv_iload_n hx hb dX1_measureHeights_25 rfl (lv_at hl 0 rfl) ?_
    refine lv_aload_n hx hb dX1_measureHeights_26 rfl (lv_at hl 3 rfl) ?_
    refine cg_book_told hx hb hts hown hK hP uw_2_136 dX1_measureHeights_27 ?_
    refine cg_told_herds hx hb hts hown hK hP uw_1_169 dX1_measureHeights_30 ?_
    refine sy_icmp_ge (tgt := 71) hx hb dX1_measureHeights_33 (by decide) (by omega) (by omega) (fun c_9295 => ?_) (fun c_9295 => ?_)
    · skip
      refine lv_iinc (v := mI (z_9115 + 1)) (lv' := [(2, .int (mI (z_9115 + 1))), (3, .int (mI z_9283)), (1, .int (mI z_9284)), (0, .ref (a 44))]) hx hb dX1_measureHeights_71 hl (k := 1) rfl (mI_ad rfl) (by decide) rfl (fun ls hl => ?_)
      refine lv_goto (tgt := 12) hx hb dX1_measureHeights_74 (by decide) ?_
      exact ih_9210 _ _ _ _ (by omega) ⟨(z_9115 + 1), z_9284, F_9285, _, by omega, by omega, bF_9285, rfl, hP, hS, lv_sub hl [0, 2, 3] rfl, rfl⟩
    · skip
      refine lv_aload_n hx hb dX1_measureHeights_36 rfl (lv_at hl 3 rfl) ?_
      refine cg_book_heights hx hb hts hown hK hP uw_2_141 dX1_measureHeights_37 ?_
      refine lv_iload_n hx hb dX1_measureHeights_40 rfl (lv_at hl 0 rfl) ?_
      refine lv_iconst (v := mI 1) hx hb dX1_measureHeights_41 rfl ?_
      refine lv_aload_n hx hb dX1_measureHeights_42 rfl (lv_at hl 3 rfl) ?_
      refine lv_aload_n hx hb dX1_measureHeights_43 rfl (lv_at hl 3 rfl) ?_
      refine cg_book_above hx hb hts hown hK hP uw_2_140 dX1_measureHeights_44 ?_
      refine lv_iload_n hx hb dX1_measureHeights_47 rfl (lv_at hl 0 rfl) ?_
      refine cl_book_above hx hb hK hP dX1_measureHeights_48 (by omega) b_B_book_above (fun z_9296 _ hz_9296 => ?_)
      refine g_i (cDt hD) hS hA (g_V (own := "HideReader$Book") (As := [.int (mI z_9296)]) (rest := [.int (mI 1), .int (mI z_9283), .ref (a 47)]) hx hb hml hown hts hK hP (cDt hD) (kc_X1_highestOf (l := l) (D := D) (k := k) (by omega) h_x_told_herds bF_9285) ck_X1_highestOf iv_X1_highestOf uw_5_54 (cv_book hK hP) rfl hl.1 rfl (Nat.le_of_ble_eq_true rfl) dX1_measureHeights_49 ⟨Nat.le_of_ble_eq_true rfl, Nat.le_of_ble_eq_true rfl⟩ ⟨Nat.le_of_ble_eq_true rfl, Nat.le_of_ble_eq_true rfl⟩) (fun r_9297 H locs hQ hS => ?_)
      obtain ⟨hr_9297_0, hP⟩ := hQ
      refine sy_iadd hx hb dX1_measureHeights_52 (r_9297 + 1) (by omega) ?_
      refine sy_any (fun z_9298 hz_9298 => ?_)
      refine cs_book_heights hx hb hK hP hD hS dX1_measureHeights_53 (by omega) bF_9285 (by omega) (fun F_9299 H locs _ bF_9299 hP hS => ?_)
      refine lv_iload_n hx hb dX1_measureHeights_54 rfl (lv_at hl 2 rfl) ?_
      refine lv_aload_n hx hb dX1_measureHeights_55 rfl (lv_at hl 3 rfl) ?_
      refine cg_book_heights hx hb hts hown hK hP uw_2_141 dX1_measureHeights_56 ?_
      refine lv_iload_n hx hb dX1_measureHeights_59 rfl (lv_at hl 0 rfl) ?_
      refine cl_book_heights hx hb hK hP dX1_measureHeights_60 (by omega) bF_9299 (fun z_9300 _ hz_9300 => ?_)
      refine sy_max hx hb (hml.trans hl.1.symm) hown hts uw_5_58 (Nat.le_of_ble_eq_true rfl) (Nat.le_of_ble_eq_true rfl) (Nat.le_of_ble_eq_true rfl) (Nat.le_of_ble_eq_true rfl) dX1_measureHeights_61 (by omega) (by omega) (fun z_9301 hz_9301 => ?_)
      refine lv_istore_n (lv' := [(1, .int (mI z_9301)), (3, .int (mI z_9283)), (2, .int (mI z_9115)), (0, .ref (a 44))]) hx hb dX1_measureHeights_64 rfl hl (by decide) rfl (fun ls hl => ?_)
      refine lv_iinc (v := mI (z_9283 + 1)) (lv' := [(3, .int (mI (z_9283 + 1))), (1, .int (mI z_9301)), (2, .int (mI z_9115)), (0, .ref (a 44))]) hx hb dX1_measureHeights_65 hl (k := 1) rfl (mI_ad rfl) (by decide) rfl (fun ls hl => ?_)
      refine lv_goto (tgt := 25) hx hb dX1_measureHeights_68 (by decide) ?_
      exact ih_9294 _ _ _ _ (by omega) ⟨(z_9283 + 1), z_9301, F_9299, _, by omega, by omega, bF_9299, by omega, rfl, hP, hS, lv_sub hl [0, 2, 1, 3] rfl, rfl⟩
set_option maxHeartbeats 4000000 in
set_option maxRecDepth 100000 in
theorem kc_X1_firstOfHeight {p0 p1 : Int} (hp0 : -2147483648 ≤ p0 ∧ p0 ≤ 2147483647) (hp1 : -2147483648 ≤ p1 ∧ p1 ≤ 2147483647) (h_x_told_herds : 0 ≤ x_told_herds ∧ x_told_herds ≤ 8) (b_B_book_heights : bd (-2147483648) 2147483647 B_book_heights) : MetG l D k yX1_firstOfHeight cX1_firstOfHeight 4 (some .int) 0 [.ref (a 44), .int (mI p0), .int (mI p1)] (cW k a q x_xo_lyingCount x_tape_length x_tape_next x_tape_kind x_tape_place x_tape_number x_tape_faultKind x_tape_faultPlace x_told_turns x_told_mirror x_told_night x_told_draw x_told_herds x_told_irons x_told_beasts x_told_linesTold x_tfo_steps x_tfo_units x_draft_turns x_draft_mirror x_draft_night x_draft_draw x_draft_herds x_draft_irons x_draft_beasts x_draft_linesTold x_dfo_steps x_dfo_units x_lat_placements x_smi_irons x_smi_aim x_his_here x_his_undoable x_his_redoable x_book_placedCount x_wit_count x_wit_time n_tape_name B_xo_lying B_tape_bytes B_told_brands B_told_ironMarks B_told_homes B_told_births B_tfo_kinds B_tfo_numbers B_tfo_stack B_tfo_facts B_draft_brands B_draft_ironMarks B_draft_homes B_draft_births B_dfo_kinds B_dfo_numbers B_dfo_stack B_dfo_facts B_lat_lowHalves B_lat_highHalves B_lat_ways B_smi_placedIrons B_smi_within B_smi_costs B_his_isKept B_book_norms B_book_above B_book_heights B_book_placedBrands B_bea_firstGains B_bea_otherGains B_wit_burnings B_wit_strokes B_wit_wasOn B_wit_toldAt B_wit_untoldAt B_wit_on B_wit_off B_wit_firstCounts B_wit_secondCounts Ps Pd G_tape_wordNames G_told_herdNames G_told_ironNames G_told_beastNames G_draft_herdNames G_draft_ironNames G_draft_beastNames Ph Po Pg ex) (qGi (fun r0 H => (-1 ≤ r0 ∧ r0 ≤ 7) ∧ (r0 ≤ -1 ∨ B_book_heights r0.toNat = p0) ∧ va_P D vwCl (cW k a q x_xo_lyingCount x_tape_length x_tape_next x_tape_kind x_tape_place x_tape_number x_tape_faultKind x_tape_faultPlace x_told_turns x_told_mirror x_told_night x_told_draw x_told_herds x_told_irons x_told_beasts x_told_linesTold x_tfo_steps x_tfo_units x_draft_turns x_draft_mirror x_draft_night x_draft_draw x_draft_herds x_draft_irons x_draft_beasts x_draft_linesTold x_dfo_steps x_dfo_units x_lat_placements x_smi_irons x_smi_aim x_his_here x_his_undoable x_his_redoable x_book_placedCount x_wit_count x_wit_time n_tape_name B_xo_lying B_tape_bytes B_told_brands B_told_ironMarks B_told_homes B_told_births B_tfo_kinds B_tfo_numbers B_tfo_stack B_tfo_facts B_draft_brands B_draft_ironMarks B_draft_homes B_draft_births B_dfo_kinds B_dfo_numbers B_dfo_stack B_dfo_facts B_lat_lowHalves B_lat_highHalves B_lat_ways B_smi_placedIrons B_smi_within B_smi_costs B_his_isKept B_book_norms B_book_above B_book_heights B_book_placedBrands B_bea_firstGains B_bea_otherGains B_wit_burnings B_wit_strokes B_wit_wasOn B_wit_toldAt B_wit_untoldAt B_wit_on B_wit_off B_wit_firstCounts B_wit_secondCounts Ps Pd G_tape_wordNames G_told_herdNames G_told_ironNames G_told_beastNames G_draft_herdNames G_draft_ironNames G_draft_beastNames Ph Po Pg ex) H)) := by
  refine metG_of 2 ck_X1_firstOfHeight (Nat.le_of_ble_eq_true rfl) cMap (fun p e s m args below meth c A hx hb hml hr hlocks hown hts hK hD hA hP hS ls hl => ?_)
  have hown : s.vm.findClass "HideReader$Book" = some m.cls := hown
  have hl : lv_has ls 4 [(0, .ref (a 44)), (1, .int (mI p0)), (2, .int (mI p1))] := hl
  refine lv_iconst (v := mI 0) hx hb dX1_firstOfHeight_0 rfl ?_
  refine lv_istore_n (lv' := [(3, .int (mI 0)), (0, .ref (a 44)), (1, .int (mI p0)), (2, .int (mI p1))]) hx hb dX1_firstOfHeight_1 rfl hl (by decide) rfl (fun ls hl => ?_)
  refine sy_loop (I := fun n H locs g => ∃ (z_49 : Int) (ls : Array Slot), (0 ≤ z_49 ∧ z_49 ≤ 8) ∧ (8 - z_49).toNat = n ∧ va_P D vwCl (cW k a q x_xo_lyingCount x_tape_length x_tape_next x_tape_kind x_tape_place x_tape_number x_tape_faultKind x_tape_faultPlace x_told_turns x_told_mirror x_told_night x_told_draw x_told_herds x_told_irons x_told_beasts x_told_linesTold x_tfo_steps x_tfo_units x_draft_turns x_draft_mirror x_draft_night x_draft_draw x_draft_herds x_draft_irons x_draft_beasts x_draft_linesTold x_dfo_steps x_dfo_units x_lat_placements x_smi_irons x_smi_aim x_his_here x_his_undoable x_his_redoable x_book_placedCount x_wit_count x_wit_time n_tape_name B_xo_lying B_tape_bytes B_told_brands B_told_ironMarks B_told_homes B_told_births B_tfo_kinds B_tfo_numbers B_tfo_stack B_tfo_facts B_draft_brands B_draft_ironMarks B_draft_homes B_draft_births B_dfo_kinds B_dfo_numbers B_dfo_stack B_dfo_facts B_lat_lowHalves B_lat_highHalves B_lat_ways B_smi_placedIrons B_smi_within B_smi_costs B_his_isKept B_book_norms B_book_above B_book_heights B_book_placedBrands B_bea_firstGains B_bea_otherGains B_wit_burnings B_wit_strokes B_wit_wasOn B_wit_toldAt B_wit_untoldAt B_wit_on B_wit_off B_wit_firstCounts B_wit_secondCounts Ps Pd G_tape_wordNames G_told_herdNames G_told_ironNames G_told_beastNames G_draft_herdNames G_draft_ironNames G_draft_beastNames Ph Po Pg ex) H ∧ va_S A s.heap H locs ∧ lv_has ls 4 [(3, .int (mI z_49)), (0, .ref (a 44)), (1, .int (mI p0)), (2, .int (mI p1))] ∧ g = F0 m 2 ls []) ?_ _ ⟨0, _, by omega, rfl, hP, hS, lv_sub hl [0, 1, 2, 3] rfl, rfl⟩
  intro n_56 H locs g hI ih_57
  obtain ⟨z_49, ls, h2_0, mn_56, hP, hS, hl, rfl⟩ := hI
  refine lv_iload_n hx hb dX1_firstOfHeight_2 rfl (lv_at hl 0 rfl) ?_
  refine lv_aload_n hx hb dX1_firstOfHeight_3 rfl (lv_at hl 1 rfl) ?_
  refine cg_book_told hx hb hts hown hK hP uw_2_136 dX1_firstOfHeight_4 ?_
  refine cg_told_herds hx hb hts hown hK hP uw_1_169 dX1_firstOfHeight_7 ?_
  refine sy_icmp_ge (tgt := 39) hx hb dX1_firstOfHeight_10 (by decide) (by omega) (by omega) (fun c_58 => ?_) (fun c_58 => ?_)
  · skip
    refine lv_iconst (v := mI (-1)) hx hb dX1_firstOfHeight_39 rfl ?_
    exact r_i hx hb hr hlocks dX1_firstOfHeight_40 hS ⟨by omega, (by omega), hP⟩
  · skip
    refine lv_iload_n hx hb dX1_firstOfHeight_13 rfl (lv_at hl 3 rfl) ?_
    refine lv_iconst (v := mI 1) hx hb dX1_firstOfHeight_14 rfl ?_
    refine lv_iload_n hx hb dX1_firstOfHeight_15 rfl (lv_at hl 0 rfl) ?_
    refine sy_shl1 hx hb dX1_firstOfHeight_16 7 (by decide) 128 (by decide) (by omega) (fun z_59 ez_59 hz_59 => ?_)
    refine sy_iandR hx hb dX1_firstOfHeight_17 (by omega) (fun z_60 hz_60 => ?_)
    refine sy_if_eq (tgt := 33) hx hb dX1_firstOfHeight_18 (by decide) (by omega) (fun c_61 => ?_) (fun c_61 => ?_)
    · skip
      refine lv_iinc (v := mI (z_49 + 1)) (lv' := [(3, .int (mI (z_49 + 1))), (0, .ref (a 44)), (1, .int (mI p0)), (2, .int (mI p1))]) hx hb dX1_firstOfHeight_33 hl (k := 0) rfl (mI_ad rfl) (by decide) rfl (fun ls hl => ?_)
      refine lv_goto (tgt := 2) hx hb dX1_firstOfHeight_36 (by decide) ?_
      exact ih_57 _ _ _ _ (by omega) ⟨(z_49 + 1), _, by omega, rfl, hP, hS, lv_sub hl [0, 1, 2, 3] rfl, rfl⟩
    · skip
      refine lv_aload_n hx hb dX1_firstOfHeight_21 rfl (lv_at hl 1 rfl) ?_
      refine cg_book_heights hx hb hts hown hK hP uw_2_141 dX1_firstOfHeight_22 ?_
      refine lv_iload_n hx hb dX1_firstOfHeight_25 rfl (lv_at hl 0 rfl) ?_
      refine cl_book_heights hx hb hK hP dX1_firstOfHeight_26 (by omega) b_B_book_heights (fun z_62 ez_62 hz_62 => ?_)
      refine lv_iload_n hx hb dX1_firstOfHeight_27 rfl (lv_at hl 2 rfl) ?_
      refine sy_icmp_ne (tgt := 33) hx hb dX1_firstOfHeight_28 (by decide) (by omega) (by omega) (fun c_63 => ?_) (fun c_63 => ?_)
      · skip
        refine lv_iinc (v := mI (z_49 + 1)) (lv' := [(3, .int (mI (z_49 + 1))), (0, .ref (a 44)), (1, .int (mI p0)), (2, .int (mI p1))]) hx hb dX1_firstOfHeight_33 hl (k := 0) rfl (mI_ad rfl) (by decide) rfl (fun ls hl => ?_)
        refine lv_goto (tgt := 2) hx hb dX1_firstOfHeight_36 (by decide) ?_
        exact ih_57 _ _ _ _ (by omega) ⟨(z_49 + 1), _, by omega, rfl, hP, hS, lv_sub hl [0, 1, 2, 3] rfl, rfl⟩
      · skip
        refine lv_iload_n hx hb dX1_firstOfHeight_31 rfl (lv_at hl 0 rfl) ?_
        exact r_i hx hb hr hlocks dX1_firstOfHeight_32 hS ⟨by omega, (by omega), hP⟩
set_option maxHeartbeats 4000000 in
set_option maxRecDepth 100000 in
theorem kc_X1_longestChain_book_xo_lying (h_x_told_herds : 0 ≤ x_told_herds ∧ x_told_herds ≤ 8) (b_B_xo_lying : bd (-2147483648) 2147483647 B_xo_lying) (b_B_book_above : bd (-2147483648) 2147483647 B_book_above) (b_B_book_heights : bd (-2147483648) 2147483647 B_book_heights) : MetG l D k yX1_longestChain cX1_longestChain 6 (some .int) 3 [.ref (a 44), .ref (a 1)] (cW k a q x_xo_lyingCount x_tape_length x_tape_next x_tape_kind x_tape_place x_tape_number x_tape_faultKind x_tape_faultPlace x_told_turns x_told_mirror x_told_night x_told_draw x_told_herds x_told_irons x_told_beasts x_told_linesTold x_tfo_steps x_tfo_units x_draft_turns x_draft_mirror x_draft_night x_draft_draw x_draft_herds x_draft_irons x_draft_beasts x_draft_linesTold x_dfo_steps x_dfo_units x_lat_placements x_smi_irons x_smi_aim x_his_here x_his_undoable x_his_redoable x_book_placedCount x_wit_count x_wit_time n_tape_name B_xo_lying B_tape_bytes B_told_brands B_told_ironMarks B_told_homes B_told_births B_tfo_kinds B_tfo_numbers B_tfo_stack B_tfo_facts B_draft_brands B_draft_ironMarks B_draft_homes B_draft_births B_dfo_kinds B_dfo_numbers B_dfo_stack B_dfo_facts B_lat_lowHalves B_lat_highHalves B_lat_ways B_smi_placedIrons B_smi_within B_smi_costs B_his_isKept B_book_norms B_book_above B_book_heights B_book_placedBrands B_bea_firstGains B_bea_otherGains B_wit_burnings B_wit_strokes B_wit_wasOn B_wit_toldAt B_wit_untoldAt B_wit_on B_wit_off B_wit_firstCounts B_wit_secondCounts Ps Pd G_tape_wordNames G_told_herdNames G_told_ironNames G_told_beastNames G_draft_herdNames G_draft_ironNames G_draft_beastNames Ph Po Pg ex) (qGi (fun r0 H => ∃ (F_xo_lying : Nat → Int) (F_book_heights : Nat → Int), (0 ≤ r0 ∧ r0 ≤ 8) ∧ (bd (-2147483648) 2147483647 F_xo_lying) ∧ (bd (-2147483648) 2147483647 F_book_heights) ∧ va_P D vwCl (cW k a q x_xo_lyingCount x_tape_length x_tape_next x_tape_kind x_tape_place x_tape_number x_tape_faultKind x_tape_faultPlace x_told_turns x_told_mirror x_told_night x_told_draw x_told_herds x_told_irons x_told_beasts x_told_linesTold x_tfo_steps x_tfo_units x_draft_turns x_draft_mirror x_draft_night x_draft_draw x_draft_herds x_draft_irons x_draft_beasts x_draft_linesTold x_dfo_steps x_dfo_units x_lat_placements x_smi_irons x_smi_aim x_his_here x_his_undoable x_his_redoable x_book_placedCount x_wit_count x_wit_time n_tape_name F_xo_lying B_tape_bytes B_told_brands B_told_ironMarks B_told_homes B_told_births B_tfo_kinds B_tfo_numbers B_tfo_stack B_tfo_facts B_draft_brands B_draft_ironMarks B_draft_homes B_draft_births B_dfo_kinds B_dfo_numbers B_dfo_stack B_dfo_facts B_lat_lowHalves B_lat_highHalves B_lat_ways B_smi_placedIrons B_smi_within B_smi_costs B_his_isKept B_book_norms B_book_above F_book_heights B_book_placedBrands B_bea_firstGains B_bea_otherGains B_wit_burnings B_wit_strokes B_wit_wasOn B_wit_toldAt B_wit_untoldAt B_wit_on B_wit_off B_wit_firstCounts B_wit_secondCounts Ps Pd G_tape_wordNames G_told_herdNames G_told_ironNames G_told_beastNames G_draft_herdNames G_draft_ironNames G_draft_beastNames Ph Po Pg ex) H)) := by
  refine metG_of 1 ck_X1_longestChain (Nat.le_of_ble_eq_true rfl) cMap (fun p e s m args below meth c A hx hb hml hr hlocks hown hts hK hD hA hP hS ls hl => ?_)
  have hown : s.vm.findClass "HideReader$Book" = some m.cls := hown
  have hl : lv_has ls 6 [(0, .ref (a 44)), (1, .ref (a 1))] := hl
  refine lv_aload_n hx hb dX1_longestChain_0 rfl (lv_at hl 0 rfl) ?_
  refine g_i (cDt hD) hS hA (g_V (own := "HideReader$Book") (As := []) (rest := []) hx hb hml hown hts hK hP (cDt hD) (kc_X1_measureHeights (l := l) (D := D) (k := k) h_x_told_herds b_B_book_above b_B_book_heights) ck_X1_measureHeights iv_X1_measureHeights uw_5_47 (cv_book hK hP) rfl hl.1 rfl (Nat.le_of_ble_eq_true rfl) dX1_longestChain_1 ⟨Nat.le_of_ble_eq_true rfl, Nat.le_of_ble_eq_true rfl⟩ ⟨Nat.le_of_ble_eq_true rfl, Nat.le_of_ble_eq_true rfl⟩) (fun r_1 H locs hQ hS => ?_)
  obtain ⟨F_2, hr_1_0, bF_2, hP⟩ := hQ
  refine lv_istore_n (lv' := [(2, .int (mI r_1)), (0, .ref (a 44)), (1, .ref (a 1))]) hx hb dX1_longestChain_4 rfl hl (by decide) rfl (fun ls hl => ?_)
  refine lv_aload_n hx hb dX1_longestChain_5 rfl (lv_at hl 1 rfl) ?_
  refine g_i (cDt hD) hS hA (g_V (own := "HideReader$Book") (As := []) (rest := []) hx hb hml hown hts hK hP (cDt hD) (kc_X1_allHerds (l := l) (D := D) (k := k) h_x_told_herds) ck_X1_allHerds iv_X1_allHerds uw_5_59 (cv_book hK hP) rfl hl.1 rfl (Nat.le_of_ble_eq_true rfl) dX1_longestChain_6 ⟨Nat.le_of_ble_eq_true rfl, Nat.le_of_ble_eq_true rfl⟩ ⟨Nat.le_of_ble_eq_true rfl, Nat.le_of_ble_eq_true rfl⟩) (fun r_3 H locs hQ hS => ?_)
  obtain ⟨hr_3_0, hP⟩ := hQ
  refine lv_istore_n (lv' := [(3, .int (mI r_3)), (2, .int (mI r_1)), (0, .ref (a 44)), (1, .ref (a 1))]) hx hb dX1_longestChain_9 rfl hl (by decide) rfl (fun ls hl => ?_)
  refine lv_iconst (v := mI 0) hx hb dX1_longestChain_10 rfl ?_
  refine lv_istore (lv' := [(4, .int (mI 0)), (3, .int (mI r_3)), (2, .int (mI r_1)), (0, .ref (a 44)), (1, .ref (a 1))]) hx hb dX1_longestChain_11 hl (by decide) rfl (fun ls hl => ?_)
  refine sy_loop (I := fun n H locs g => ∃ (z_231 : Int) (z_232 : Int) (F_233 : Nat → Int) (ls : Array Slot), (0 ≤ z_231 ∧ z_231 ≤ 9) ∧ (-2147483648 ≤ z_232 ∧ z_232 ≤ 2147483647) ∧ (bd (-2147483648) 2147483647 F_233) ∧ (hC F_2 r_1 z_231) ∧ (9 - z_231).toNat = n ∧ va_P D vwCl (cW k a q x_xo_lyingCount x_tape_length x_tape_next x_tape_kind x_tape_place x_tape_number x_tape_faultKind x_tape_faultPlace x_told_turns x_told_mirror x_told_night x_told_draw x_told_herds x_told_irons x_told_beasts x_told_linesTold x_tfo_steps x_tfo_units x_draft_turns x_draft_mirror x_draft_night x_draft_draw x_draft_herds x_draft_irons x_draft_beasts x_draft_linesTold x_dfo_steps x_dfo_units x_lat_placements x_smi_irons x_smi_aim x_his_here x_his_undoable x_his_redoable x_book_placedCount x_wit_count x_wit_time n_tape_name F_233 B_tape_bytes B_told_brands B_told_ironMarks B_told_homes B_told_births B_tfo_kinds B_tfo_numbers B_tfo_stack B_tfo_facts B_draft_brands B_draft_ironMarks B_draft_homes B_draft_births B_dfo_kinds B_dfo_numbers B_dfo_stack B_dfo_facts B_lat_lowHalves B_lat_highHalves B_lat_ways B_smi_placedIrons B_smi_within B_smi_costs B_his_isKept B_book_norms B_book_above F_2 B_book_placedBrands B_bea_firstGains B_bea_otherGains B_wit_burnings B_wit_strokes B_wit_wasOn B_wit_toldAt B_wit_untoldAt B_wit_on B_wit_off B_wit_firstCounts B_wit_secondCounts Ps Pd G_tape_wordNames G_told_herdNames G_told_ironNames G_told_beastNames G_draft_herdNames G_draft_ironNames G_draft_beastNames Ph Po Pg ex) H ∧ va_S A s.heap H locs ∧ lv_has ls 6 [(4, .int (mI z_231)), (3, .int (mI z_232)), (2, .int (mI r_1)), (0, .ref (a 44)), (1, .ref (a 1))] ∧ g = F0 m 13 ls []) ?_ _ ⟨0, r_3, B_xo_lying, _, by omega, by omega, b_B_xo_lying, hC_0, rfl, hP, hS, lv_sub hl [0, 1, 2, 3, 4] rfl, rfl⟩
  intro n_241 H locs g hI ih_242
  obtain ⟨z_231, z_232, F_233, ls, h13_0, h13_1, bF_233, h13_3, mn_241, hP, hS, hl, rfl⟩ := hI
  have h_243 := hC_b h13_3
  refine lv_iload hx hb dX1_longestChain_13 (lv_at hl 0 rfl) ?_
  refine lv_iload_n hx hb dX1_longestChain_15 rfl (lv_at hl 2 rfl) ?_
  refine sy_icmp_ge (tgt := 66) hx hb dX1_longestChain_16 (by decide) (by omega) (by omega) (fun c_244 => ?_) (fun c_244 => ?_)
  · skip
    refine lv_iload_n hx hb dX1_longestChain_66 rfl (lv_at hl 2 rfl) ?_
    exact r_i hx hb hr hlocks dX1_longestChain_67 hS ⟨F_233, F_2, by omega, bF_233, bF_2, hP⟩
  · skip
    refine lv_iload hx hb dX1_longestChain_19 (lv_at hl 0 rfl) ?_
    refine lv_aload_n hx hb dX1_longestChain_21 rfl (lv_at hl 4 rfl) ?_
    refine cn_xo_lying hx hb hK hP dX1_longestChain_22 ?_
    refine sy_icmp_ge (tgt := 66) hx hb dX1_longestChain_23 (by decide) (by omega) (by decide) (fun c9 => False.elim (by omega)) (fun c_245 => ?_)
    refine lv_aload_n hx hb dX1_longestChain_26 rfl (lv_at hl 3 rfl) ?_
    refine lv_iload_n hx hb dX1_longestChain_27 rfl (lv_at hl 2 rfl) ?_
    refine lv_iload hx hb dX1_longestChain_28 (lv_at hl 0 rfl) ?_
    refine sy_isub hx hb dX1_longestChain_30 (r_1 - z_231) rfl ?_
    refine lv_iload_n hx hb dX1_longestChain_31 rfl (lv_at hl 1 rfl) ?_
    refine g_i (cDt hD) hS hA (g_V (own := "HideReader$Book") (As := [.int (mI (r_1 - z_231)), .int (mI z_232)]) (rest := []) hx hb hml hown hts hK hP (cDt hD) (kc_X1_firstOfHeight (l := l) (D := D) (k := k) (by omega) (by omega) h_x_told_herds bF_2) ck_X1_firstOfHeight iv_X1_firstOfHeight uw_5_63 (cv_book hK hP) rfl hl.1 rfl (Nat.le_of_ble_eq_true rfl) dX1_longestChain_32 ⟨Nat.le_of_ble_eq_true rfl, Nat.le_of_ble_eq_true rfl⟩ ⟨Nat.le_of_ble_eq_true rfl, Nat.le_of_ble_eq_true rfl⟩) (fun r_246 H locs hQ hS => ?_)
    obtain ⟨hr_246_0, hr_246_1, hP⟩ := hQ
    refine lv_istore (lv' := [(5, .int (mI r_246)), (4, .int (mI z_231)), (3, .int (mI z_232)), (2, .int (mI r_1)), (0, .ref (a 44)), (1, .ref (a 1))]) hx hb dX1_longestChain_35 hl (by decide) rfl (fun ls hl => ?_)
    refine lv_iload hx hb dX1_longestChain_37 (lv_at hl 0 rfl) ?_
    refine lv_iconst (v := mI (-1)) hx hb dX1_longestChain_39 rfl ?_
    refine sy_icmp_ne (tgt := 46) hx hb dX1_longestChain_40 (by decide) (by omega) (by decide) (fun c_247 => ?_) (fun c_247 => ?_)
    · skip
      refine lv_aload_n hx hb dX1_longestChain_46 rfl (lv_at hl 5 rfl) ?_
      refine lv_iload hx hb dX1_longestChain_47 (lv_at hl 1 rfl) ?_
      refine lv_iload hx hb dX1_longestChain_49 (lv_at hl 0 rfl) ?_
      refine cs_xo_lying hx hb hK hP hD hS dX1_longestChain_51 (by omega) bF_233 (by omega) (fun F_248 H locs _ bF_248 hP hS => ?_)
      refine lv_aload_n hx hb dX1_longestChain_52 rfl (lv_at hl 4 rfl) ?_
      refine cg_book_above hx hb hts hown hK hP uw_2_140 dX1_longestChain_53 ?_
      refine lv_iload hx hb dX1_longestChain_56 (lv_at hl 0 rfl) ?_
      refine cl_book_above hx hb hK hP dX1_longestChain_58 (by omega) b_B_book_above (fun z_249 _ hz_249 => ?_)
      refine lv_istore_n (lv' := [(3, .int (mI z_249)), (5, .int (mI r_246)), (4, .int (mI z_231)), (2, .int (mI r_1)), (0, .ref (a 44)), (1, .ref (a 1))]) hx hb dX1_longestChain_59 rfl hl (by decide) rfl (fun ls hl => ?_)
      refine lv_iinc (v := mI (z_231 + 1)) (lv' := [(4, .int (mI (z_231 + 1))), (3, .int (mI z_249)), (5, .int (mI r_246)), (2, .int (mI r_1)), (0, .ref (a 44)), (1, .ref (a 1))]) hx hb dX1_longestChain_60 hl (k := 2) rfl (mI_ad rfl) (by decide) rfl (fun ls hl => ?_)
      refine lv_goto (tgt := 13) hx hb dX1_longestChain_63 (by decide) ?_
      exact ih_242 _ _ _ _ (by omega) ⟨(z_231 + 1), z_249, F_248, _, by omega, by omega, bF_248, (hC_s h13_3 (by omega) (by omega) hr_246_1), rfl, hP, hS, lv_sub hl [0, 1, 3, 4, 5] rfl, rfl⟩
    · skip
      refine lv_iload hx hb dX1_longestChain_43 (lv_at hl 1 rfl) ?_
      exact r_i hx hb hr hlocks dX1_longestChain_45 hS ⟨F_233, F_2, by omega, bF_233, bF_2, hP⟩
end Kc
