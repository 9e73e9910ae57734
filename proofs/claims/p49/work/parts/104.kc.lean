section Kc
variable {l : Launch} {D : va_G} {k : Nat → ClassId} {a : Nat → Nat} {ex : va_W} {x_xo_lyingCount x_tape_length x_tape_next x_tape_kind x_tape_place x_tape_number x_tape_faultKind x_tape_faultPlace x_told_turns x_told_mirror x_told_night x_told_draw x_told_herds x_told_irons x_told_beasts x_told_linesTold x_tfo_steps x_tfo_units x_draft_turns x_draft_mirror x_draft_night x_draft_draw x_draft_herds x_draft_irons x_draft_beasts x_draft_linesTold x_dfo_steps x_dfo_units x_lat_placements x_smi_irons x_smi_aim x_his_here x_his_undoable x_his_redoable x_book_placedCount x_wit_count x_wit_time : Int} {n_tape_name : Int64} {B_xo_lying B_tape_bytes B_told_brands B_told_ironMarks B_told_homes B_told_births B_tfo_kinds B_tfo_numbers B_tfo_stack B_tfo_facts B_draft_brands B_draft_ironMarks B_draft_homes B_draft_births B_dfo_kinds B_dfo_numbers B_dfo_stack B_dfo_facts B_lat_lowHalves B_lat_highHalves B_lat_ways B_smi_placedIrons B_smi_within B_smi_costs B_his_isKept B_book_norms B_book_above B_book_heights B_book_placedBrands B_bea_firstGains B_bea_otherGains B_wit_burnings B_wit_strokes B_wit_wasOn B_wit_toldAt B_wit_untoldAt B_wit_on B_wit_off B_wit_firstCounts B_wit_secondCounts Ps Pd : Nat → Int} {G_tape_wordNames G_told_herdNames G_told_ironNames G_told_beastNames G_draft_herdNames G_draft_ironNames G_draft_beastNames : Nat → Int64} {Ph Po Pg : Nat → Nat → Int} {q : Nat → Nat}
set_option maxHeartbeats 4000000 in
set_option maxRecDepth 100000 in
theorem kc_X5_ageOf {p0 p1 : Int} {iR : Nat} (hiR : iR < 44) (hp0 : 0 ≤ p0 ∧ p0 ≤ 7) (hp1 : 0 ≤ p1 ∧ p1 ≤ 11) (b_Ph : pb (0) 4095 Ph) (b_Pg : pb (-2147483648) 2147483647 Pg) : MetG l D k yX5_ageOf cX5_ageOf 3 (some .int) 0 [.ref (q (4 * iR)), .int (mI p0), .int (mI p1)] (cW k a q x_xo_lyingCount x_tape_length x_tape_next x_tape_kind x_tape_place x_tape_number x_tape_faultKind x_tape_faultPlace x_told_turns x_told_mirror x_told_night x_told_draw x_told_herds x_told_irons x_told_beasts x_told_linesTold x_tfo_steps x_tfo_units x_draft_turns x_draft_mirror x_draft_night x_draft_draw x_draft_herds x_draft_irons x_draft_beasts x_draft_linesTold x_dfo_steps x_dfo_units x_lat_placements x_smi_irons x_smi_aim x_his_here x_his_undoable x_his_redoable x_book_placedCount x_wit_count x_wit_time n_tape_name B_xo_lying B_tape_bytes B_told_brands B_told_ironMarks B_told_homes B_told_births B_tfo_kinds B_tfo_numbers B_tfo_stack B_tfo_facts B_draft_brands B_draft_ironMarks B_draft_homes B_draft_births B_dfo_kinds B_dfo_numbers B_dfo_stack B_dfo_facts B_lat_lowHalves B_lat_highHalves B_lat_ways B_smi_placedIrons B_smi_within B_smi_costs B_his_isKept B_book_norms B_book_above B_book_heights B_book_placedBrands B_bea_firstGains B_bea_otherGains B_wit_burnings B_wit_strokes B_wit_wasOn B_wit_toldAt B_wit_untoldAt B_wit_on B_wit_off B_wit_firstCounts B_wit_secondCounts Ps Pd G_tape_wordNames G_told_herdNames G_told_ironNames G_told_beastNames G_draft_herdNames G_draft_ironNames G_draft_beastNames Ph Po Pg ex) (qGi (fun r0 H => (-2147483648 ≤ r0 ∧ r0 ≤ 2147483647) ∧ va_P D vwCl (cW k a q x_xo_lyingCount x_tape_length x_tape_next x_tape_kind x_tape_place x_tape_number x_tape_faultKind x_tape_faultPlace x_told_turns x_told_mirror x_told_night x_told_draw x_told_herds x_told_irons x_told_beasts x_told_linesTold x_tfo_steps x_tfo_units x_draft_turns x_draft_mirror x_draft_night x_draft_draw x_draft_herds x_draft_irons x_draft_beasts x_draft_linesTold x_dfo_steps x_dfo_units x_lat_placements x_smi_irons x_smi_aim x_his_here x_his_undoable x_his_redoable x_book_placedCount x_wit_count x_wit_time n_tape_name B_xo_lying B_tape_bytes B_told_brands B_told_ironMarks B_told_homes B_told_births B_tfo_kinds B_tfo_numbers B_tfo_stack B_tfo_facts B_draft_brands B_draft_ironMarks B_draft_homes B_draft_births B_dfo_kinds B_dfo_numbers B_dfo_stack B_dfo_facts B_lat_lowHalves B_lat_highHalves B_lat_ways B_smi_placedIrons B_smi_within B_smi_costs B_his_isKept B_book_norms B_book_above B_book_heights B_book_placedBrands B_bea_firstGains B_bea_otherGains B_wit_burnings B_wit_strokes B_wit_wasOn B_wit_toldAt B_wit_untoldAt B_wit_on B_wit_off B_wit_firstCounts B_wit_secondCounts Ps Pd G_tape_wordNames G_told_herdNames G_told_ironNames G_told_beastNames G_draft_herdNames G_draft_ironNames G_draft_beastNames Ph Po Pg ex) H)) := by
  refine metG_of 2 ck_X5_ageOf (Nat.le_of_ble_eq_true rfl) cMap (fun p e s m args below meth c A hx hb hml hr hlocks hown hts hK hD hA hP hS ls hl => ?_)
  have hown : s.vm.findClass "HideReader$Pasture" = some m.cls := hown
  have hl : lv_has ls 3 [(0, .ref (q (4 * iR))), (1, .int (mI p0)), (2, .int (mI p1))] := hl
  refine lv_aload_n hx hb dX5_ageOf_0 rfl (lv_at hl 0 rfl) ?_
  refine cg_past_hides (i := iR) (by omega) hx hb hts hown hK hP uw_2_86 dX5_ageOf_1 ?_
  refine lv_iload_n hx hb dX5_ageOf_4 rfl (lv_at hl 1 rfl) ?_
  refine cl_past_hides (i := iR) (by omega) hx hb hK hP dX5_ageOf_5 (by omega) b_Ph (fun z_1 _ hz_1 => ?_)
  refine lv_iconst (v := mI 1) hx hb dX5_ageOf_6 rfl ?_
  refine lv_iload_n hx hb dX5_ageOf_7 rfl (lv_at hl 2 rfl) ?_
  refine sy_shl1 hx hb dX5_ageOf_8 11 (by decide) 2048 (by decide) (by omega) (fun z_2 ez_2 hz_2 => ?_)
  refine sy_iandR hx hb dX5_ageOf_9 (by omega) (fun z_3 hz_3 => ?_)
  refine sy_if_eq (tgt := 27) hx hb dX5_ageOf_10 (by decide) (by omega) (fun c_4 => ?_) (fun c_4 => ?_)
  · skip
    refine lv_iconst (v := mI (-1)) hx hb dX5_ageOf_27 rfl ?_
    exact r_i hx hb hr hlocks dX5_ageOf_28 hS ⟨by omega, hP⟩
  · skip
    refine lv_aload_n hx hb dX5_ageOf_13 rfl (lv_at hl 0 rfl) ?_
    refine cg_past_ages (i := iR) (by omega) hx hb hts hown hK hP uw_2_92 dX5_ageOf_14 ?_
    refine lv_iload_n hx hb dX5_ageOf_17 rfl (lv_at hl 1 rfl) ?_
    refine lv_bipush (v := mI 12) hx hb dX5_ageOf_18 (by decide) ?_
    refine sy_imul hx hb dX5_ageOf_20 (12 * p0) (by omega) ?_
    refine lv_iload_n hx hb dX5_ageOf_21 rfl (lv_at hl 2 rfl) ?_
    refine sy_iadd hx hb dX5_ageOf_22 (12 * p0 + p1) rfl ?_
    refine cl_past_ages (i := iR) (by omega) hx hb hK hP dX5_ageOf_23 (by omega) b_Pg (fun z_5 _ hz_5 => ?_)
    refine lv_goto (tgt := 28) hx hb dX5_ageOf_24 (by decide) ?_
    exact r_i hx hb hr hlocks dX5_ageOf_28 hS ⟨by omega, hP⟩
set_option maxHeartbeats 4000000 in
set_option maxRecDepth 100000 in
theorem kc_X2_joined {p0 p1 p2 : Int} (hp0 : -2147483648 ≤ p0 ∧ p0 ≤ 2147483647) (hp1 : -2147483648 ≤ p1 ∧ p1 ≤ 2147483647) (hp2 : -2147483648 ≤ p2 ∧ p2 ≤ 2147483647) : MetG l D k yX2_joined cX2_joined 3 (some .int) 0 [.int (mI p0), .int (mI p1), .int (mI p2)] (cW k a q x_xo_lyingCount x_tape_length x_tape_next x_tape_kind x_tape_place x_tape_number x_tape_faultKind x_tape_faultPlace x_told_turns x_told_mirror x_told_night x_told_draw x_told_herds x_told_irons x_told_beasts x_told_linesTold x_tfo_steps x_tfo_units x_draft_turns x_draft_mirror x_draft_night x_draft_draw x_draft_herds x_draft_irons x_draft_beasts x_draft_linesTold x_dfo_steps x_dfo_units x_lat_placements x_smi_irons x_smi_aim x_his_here x_his_undoable x_his_redoable x_book_placedCount x_wit_count x_wit_time n_tape_name B_xo_lying B_tape_bytes B_told_brands B_told_ironMarks B_told_homes B_told_births B_tfo_kinds B_tfo_numbers B_tfo_stack B_tfo_facts B_draft_brands B_draft_ironMarks B_draft_homes B_draft_births B_dfo_kinds B_dfo_numbers B_dfo_stack B_dfo_facts B_lat_lowHalves B_lat_highHalves B_lat_ways B_smi_placedIrons B_smi_within B_smi_costs B_his_isKept B_book_norms B_book_above B_book_heights B_book_placedBrands B_bea_firstGains B_bea_otherGains B_wit_burnings B_wit_strokes B_wit_wasOn B_wit_toldAt B_wit_untoldAt B_wit_on B_wit_off B_wit_firstCounts B_wit_secondCounts Ps Pd G_tape_wordNames G_told_herdNames G_told_ironNames G_told_beastNames G_draft_herdNames G_draft_ironNames G_draft_beastNames Ph Po Pg ex) (qGi (fun r0 H => (-2147483648 ≤ r0 ∧ r0 ≤ 2147483647) ∧ va_P D vwCl (cW k a q x_xo_lyingCount x_tape_length x_tape_next x_tape_kind x_tape_place x_tape_number x_tape_faultKind x_tape_faultPlace x_told_turns x_told_mirror x_told_night x_told_draw x_told_herds x_told_irons x_told_beasts x_told_linesTold x_tfo_steps x_tfo_units x_draft_turns x_draft_mirror x_draft_night x_draft_draw x_draft_herds x_draft_irons x_draft_beasts x_draft_linesTold x_dfo_steps x_dfo_units x_lat_placements x_smi_irons x_smi_aim x_his_here x_his_undoable x_his_redoable x_book_placedCount x_wit_count x_wit_time n_tape_name B_xo_lying B_tape_bytes B_told_brands B_told_ironMarks B_told_homes B_told_births B_tfo_kinds B_tfo_numbers B_tfo_stack B_tfo_facts B_draft_brands B_draft_ironMarks B_draft_homes B_draft_births B_dfo_kinds B_dfo_numbers B_dfo_stack B_dfo_facts B_lat_lowHalves B_lat_highHalves B_lat_ways B_smi_placedIrons B_smi_within B_smi_costs B_his_isKept B_book_norms B_book_above B_book_heights B_book_placedBrands B_bea_firstGains B_bea_otherGains B_wit_burnings B_wit_strokes B_wit_wasOn B_wit_toldAt B_wit_untoldAt B_wit_on B_wit_off B_wit_firstCounts B_wit_secondCounts Ps Pd G_tape_wordNames G_told_herdNames G_told_ironNames G_told_beastNames G_draft_herdNames G_draft_ironNames G_draft_beastNames Ph Po Pg ex) H)) := by
  refine metG_of 3 ck_X2_joined (Nat.le_of_ble_eq_true rfl) cMap (fun p e s m args below meth c A hx hb hml hr hlocks hown hts hK hD hA hP hS ls hl => ?_)
  have hown : s.vm.findClass "HideReader$Formula" = some m.cls := hown
  have hl : lv_has ls 3 [(0, .int (mI p0)), (1, .int (mI p1)), (2, .int (mI p2))] := hl
  refine lv_iload_n hx hb dX2_joined_0 rfl (lv_at hl 0 rfl) ?_
  rcases (by omega : (¬ p0 = 37 ∧ ¬ p0 = 42 ∧ ¬ p0 = 43 ∧ ¬ p0 = 45 ∧ ¬ p0 = 47 ∧ ¬ p0 = 60 ∧ ¬ p0 = 61 ∧ ¬ p0 = 62 ∧ ¬ p0 = 138 ∧ ¬ p0 = 139) ∨ p0 = 37 ∨ p0 = 42 ∨ p0 = 43 ∨ p0 = 45 ∨ p0 = 47 ∨ p0 = 60 ∨ p0 = 61 ∨ p0 = 62 ∨ p0 = 138 ∨ p0 = 139) with c_1 | c_1 | c_1 | c_1 | c_1 | c_1 | c_1 | c_1 | c_1 | c_1 | c_1
  · skip
    refine lv_lookup (tgt := 189) hx hb dX2_joined_1 (by decide) (lk_out (by omega) (by simp; omega)) (by decide) ?_
    refine lv_iconst (v := mI 0) hx hb dX2_joined_189 rfl ?_
    exact r_i hx hb hr hlocks dX2_joined_190 hS ⟨by omega, hP⟩
  · skip
    refine sy_lookIn (tgt := 116) hx hb dX2_joined_1 (by decide) 37 c_1 (by decide) rfl (by decide) ?_
    refine lv_iload_n hx hb dX2_joined_116 rfl (lv_at hl 2 rfl) ?_
    refine sy_if_ne (tgt := 124) hx hb dX2_joined_117 (by decide) (by omega) (fun c_2 => ?_) (fun c_2 => ?_)
    · skip
      refine lv_iload_n hx hb dX2_joined_124 rfl (lv_at hl 1 rfl) ?_
      refine lv_iload_n hx hb dX2_joined_125 rfl (lv_at hl 2 rfl) ?_
      refine lv_irem hx hb dX2_joined_126 (mI_ne0 (by omega) (by omega)) ?_
      refine sy_any (fun z_3 hz_3 => ?_)
      exact r_i hx hb hr hlocks dX2_joined_127 hS ⟨by omega, hP⟩
    · skip
      refine lv_iconst (v := mI 0) hx hb dX2_joined_120 rfl ?_
      refine lv_goto (tgt := 127) hx hb dX2_joined_121 (by decide) ?_
      exact r_i hx hb hr hlocks dX2_joined_127 hS ⟨by omega, hP⟩
  · skip
    refine sy_lookIn (tgt := 100) hx hb dX2_joined_1 (by decide) 42 c_1 (by decide) rfl (by decide) ?_
    refine lv_iload_n hx hb dX2_joined_100 rfl (lv_at hl 1 rfl) ?_
    refine lv_iload_n hx hb dX2_joined_101 rfl (lv_at hl 2 rfl) ?_
    refine sy_imul hx hb dX2_joined_102 _ rfl ?_
    refine sy_any (fun z_4 hz_4 => ?_)
    exact r_i hx hb hr hlocks dX2_joined_103 hS ⟨by omega, hP⟩
  · skip
    refine sy_lookIn (tgt := 92) hx hb dX2_joined_1 (by decide) 43 c_1 (by decide) rfl (by decide) ?_
    refine lv_iload_n hx hb dX2_joined_92 rfl (lv_at hl 1 rfl) ?_
    refine lv_iload_n hx hb dX2_joined_93 rfl (lv_at hl 2 rfl) ?_
    refine sy_iadd hx hb dX2_joined_94 (p1 + p2) rfl ?_
    refine sy_any (fun z_5 hz_5 => ?_)
    exact r_i hx hb hr hlocks dX2_joined_95 hS ⟨by omega, hP⟩
  · skip
    refine sy_lookIn (tgt := 96) hx hb dX2_joined_1 (by decide) 45 c_1 (by decide) rfl (by decide) ?_
    refine lv_iload_n hx hb dX2_joined_96 rfl (lv_at hl 1 rfl) ?_
    refine lv_iload_n hx hb dX2_joined_97 rfl (lv_at hl 2 rfl) ?_
    refine sy_isub hx hb dX2_joined_98 (p1 - p2) rfl ?_
    refine sy_any (fun z_6 hz_6 => ?_)
    exact r_i hx hb hr hlocks dX2_joined_99 hS ⟨by omega, hP⟩
  · skip
    refine sy_lookIn (tgt := 104) hx hb dX2_joined_1 (by decide) 47 c_1 (by decide) rfl (by decide) ?_
    refine lv_iload_n hx hb dX2_joined_104 rfl (lv_at hl 2 rfl) ?_
    refine sy_if_ne (tgt := 112) hx hb dX2_joined_105 (by decide) (by omega) (fun c_7 => ?_) (fun c_7 => ?_)
    · skip
      refine lv_iload_n hx hb dX2_joined_112 rfl (lv_at hl 1 rfl) ?_
      refine lv_iload_n hx hb dX2_joined_113 rfl (lv_at hl 2 rfl) ?_
      refine lv_idiv hx hb dX2_joined_114 (mI_ne0 (by omega) (by omega)) ?_
      refine sy_any (fun z_8 hz_8 => ?_)
      exact r_i hx hb hr hlocks dX2_joined_115 hS ⟨by omega, hP⟩
    · skip
      refine lv_iconst (v := mI 0) hx hb dX2_joined_108 rfl ?_
      refine lv_goto (tgt := 115) hx hb dX2_joined_109 (by decide) ?_
      exact r_i hx hb hr hlocks dX2_joined_115 hS ⟨by omega, hP⟩
  · skip
    refine sy_lookIn (tgt := 128) hx hb dX2_joined_1 (by decide) 60 c_1 (by decide) rfl (by decide) ?_
    refine lv_iload_n hx hb dX2_joined_128 rfl (lv_at hl 1 rfl) ?_
    refine lv_iload_n hx hb dX2_joined_129 rfl (lv_at hl 2 rfl) ?_
    refine sy_icmp_ge (tgt := 137) hx hb dX2_joined_130 (by decide) (by omega) (by omega) (fun c_9 => ?_) (fun c_9 => ?_)
    · skip
      refine lv_iconst (v := mI 0) hx hb dX2_joined_137 rfl ?_
      exact r_i hx hb hr hlocks dX2_joined_138 hS ⟨by omega, hP⟩
    · skip
      refine lv_iconst (v := mI 1) hx hb dX2_joined_133 rfl ?_
      refine lv_goto (tgt := 138) hx hb dX2_joined_134 (by decide) ?_
      exact r_i hx hb hr hlocks dX2_joined_138 hS ⟨by omega, hP⟩
  · skip
    refine sy_lookIn (tgt := 150) hx hb dX2_joined_1 (by decide) 61 c_1 (by decide) rfl (by decide) ?_
    refine lv_iload_n hx hb dX2_joined_150 rfl (lv_at hl 1 rfl) ?_
    refine lv_iload_n hx hb dX2_joined_151 rfl (lv_at hl 2 rfl) ?_
    refine sy_icmp_ne (tgt := 159) hx hb dX2_joined_152 (by decide) (by omega) (by omega) (fun c_10 => ?_) (fun c_10 => ?_)
    · skip
      refine lv_iconst (v := mI 0) hx hb dX2_joined_159 rfl ?_
      exact r_i hx hb hr hlocks dX2_joined_160 hS ⟨by omega, hP⟩
    · skip
      refine lv_iconst (v := mI 1) hx hb dX2_joined_155 rfl ?_
      refine lv_goto (tgt := 160) hx hb dX2_joined_156 (by decide) ?_
      exact r_i hx hb hr hlocks dX2_joined_160 hS ⟨by omega, hP⟩
  · skip
    refine sy_lookIn (tgt := 139) hx hb dX2_joined_1 (by decide) 62 c_1 (by decide) rfl (by decide) ?_
    refine lv_iload_n hx hb dX2_joined_139 rfl (lv_at hl 1 rfl) ?_
    refine lv_iload_n hx hb dX2_joined_140 rfl (lv_at hl 2 rfl) ?_
    refine sy_icmp_le (tgt := 148) hx hb dX2_joined_141 (by decide) (by omega) (by omega) (fun c_11 => ?_) (fun c_11 => ?_)
    · skip
      refine lv_iconst (v := mI 0) hx hb dX2_joined_148 rfl ?_
      exact r_i hx hb hr hlocks dX2_joined_149 hS ⟨by omega, hP⟩
    · skip
      refine lv_iconst (v := mI 1) hx hb dX2_joined_144 rfl ?_
      refine lv_goto (tgt := 149) hx hb dX2_joined_145 (by decide) ?_
      exact r_i hx hb hr hlocks dX2_joined_149 hS ⟨by omega, hP⟩
  · skip
    refine sy_lookIn (tgt := 175) hx hb dX2_joined_1 (by decide) 138 c_1 (by decide) rfl (by decide) ?_
    refine lv_iload_n hx hb dX2_joined_175 rfl (lv_at hl 1 rfl) ?_
    refine sy_if_ne (tgt := 183) hx hb dX2_joined_176 (by decide) (by omega) (fun c_12 => ?_) (fun c_12 => ?_)
    · skip
      refine lv_iconst (v := mI 1) hx hb dX2_joined_183 rfl ?_
      refine lv_goto (tgt := 188) hx hb dX2_joined_184 (by decide) ?_
      exact r_i hx hb hr hlocks dX2_joined_188 hS ⟨by omega, hP⟩
    · skip
      refine lv_iload_n hx hb dX2_joined_179 rfl (lv_at hl 2 rfl) ?_
      refine sy_if_eq (tgt := 187) hx hb dX2_joined_180 (by decide) (by omega) (fun c_13 => ?_) (fun c_13 => ?_)
      · skip
        refine lv_iconst (v := mI 0) hx hb dX2_joined_187 rfl ?_
        exact r_i hx hb hr hlocks dX2_joined_188 hS ⟨by omega, hP⟩
      · skip
        refine lv_iconst (v := mI 1) hx hb dX2_joined_183 rfl ?_
        refine lv_goto (tgt := 188) hx hb dX2_joined_184 (by decide) ?_
        exact r_i hx hb hr hlocks dX2_joined_188 hS ⟨by omega, hP⟩
  · skip
    refine sy_lookIn (tgt := 161) hx hb dX2_joined_1 (by decide) 139 c_1 (by decide) rfl (by decide) ?_
    refine lv_iload_n hx hb dX2_joined_161 rfl (lv_at hl 1 rfl) ?_
    refine sy_if_eq (tgt := 173) hx hb dX2_joined_162 (by decide) (by omega) (fun c_14 => ?_) (fun c_14 => ?_)
    · skip
      refine lv_iconst (v := mI 0) hx hb dX2_joined_173 rfl ?_
      exact r_i hx hb hr hlocks dX2_joined_174 hS ⟨by omega, hP⟩
    · skip
      refine lv_iload_n hx hb dX2_joined_165 rfl (lv_at hl 2 rfl) ?_
      refine sy_if_eq (tgt := 173) hx hb dX2_joined_166 (by decide) (by omega) (fun c_15 => ?_) (fun c_15 => ?_)
      · skip
        refine lv_iconst (v := mI 0) hx hb dX2_joined_173 rfl ?_
        exact r_i hx hb hr hlocks dX2_joined_174 hS ⟨by omega, hP⟩
      · skip
        refine lv_iconst (v := mI 1) hx hb dX2_joined_169 rfl ?_
        refine lv_goto (tgt := 174) hx hb dX2_joined_170 (by decide) ?_
        exact r_i hx hb hr hlocks dX2_joined_174 hS ⟨by omega, hP⟩
set_option maxHeartbeats 4000000 in
set_option maxRecDepth 100000 in
theorem kc_X2_work_tfo {p0 p1 p2 : Int} (hp0 : -2147483648 ≤ p0 ∧ p0 ≤ 2147483647) (hp1 : -2147483648 ≤ p1 ∧ p1 ≤ 2147483647) (hp2 : 0 ≤ p2 ∧ p2 ≤ 30) (b_B_tfo_stack : bd (-2147483648) 2147483647 B_tfo_stack) (b_B_tfo_facts : bd (-2147483648) 2147483647 B_tfo_facts) : MetG l D k yX2_work cX2_work 5 (some .int) 1 [.ref (a 13), .int (mI p0), .int (mI p1), .int (mI p2)] (cW k a q x_xo_lyingCount x_tape_length x_tape_next x_tape_kind x_tape_place x_tape_number x_tape_faultKind x_tape_faultPlace x_told_turns x_told_mirror x_told_night x_told_draw x_told_herds x_told_irons x_told_beasts x_told_linesTold x_tfo_steps x_tfo_units x_draft_turns x_draft_mirror x_draft_night x_draft_draw x_draft_herds x_draft_irons x_draft_beasts x_draft_linesTold x_dfo_steps x_dfo_units x_lat_placements x_smi_irons x_smi_aim x_his_here x_his_undoable x_his_redoable x_book_placedCount x_wit_count x_wit_time n_tape_name B_xo_lying B_tape_bytes B_told_brands B_told_ironMarks B_told_homes B_told_births B_tfo_kinds B_tfo_numbers B_tfo_stack B_tfo_facts B_draft_brands B_draft_ironMarks B_draft_homes B_draft_births B_dfo_kinds B_dfo_numbers B_dfo_stack B_dfo_facts B_lat_lowHalves B_lat_highHalves B_lat_ways B_smi_placedIrons B_smi_within B_smi_costs B_his_isKept B_book_norms B_book_above B_book_heights B_book_placedBrands B_bea_firstGains B_bea_otherGains B_wit_burnings B_wit_strokes B_wit_wasOn B_wit_toldAt B_wit_untoldAt B_wit_on B_wit_off B_wit_firstCounts B_wit_secondCounts Ps Pd G_tape_wordNames G_told_herdNames G_told_ironNames G_told_beastNames G_draft_herdNames G_draft_ironNames G_draft_beastNames Ph Po Pg ex) (qGi (fun r0 H => ∃ (F_tfo_stack : Nat → Int), (0 ≤ r0 ∧ r0 ≤ 30) ∧ (bd (-2147483648) 2147483647 F_tfo_stack) ∧ va_P D vwCl (cW k a q x_xo_lyingCount x_tape_length x_tape_next x_tape_kind x_tape_place x_tape_number x_tape_faultKind x_tape_faultPlace x_told_turns x_told_mirror x_told_night x_told_draw x_told_herds x_told_irons x_told_beasts x_told_linesTold x_tfo_steps x_tfo_units x_draft_turns x_draft_mirror x_draft_night x_draft_draw x_draft_herds x_draft_irons x_draft_beasts x_draft_linesTold x_dfo_steps x_dfo_units x_lat_placements x_smi_irons x_smi_aim x_his_here x_his_undoable x_his_redoable x_book_placedCount x_wit_count x_wit_time n_tape_name B_xo_lying B_tape_bytes B_told_brands B_told_ironMarks B_told_homes B_told_births B_tfo_kinds B_tfo_numbers F_tfo_stack B_tfo_facts B_draft_brands B_draft_ironMarks B_draft_homes B_draft_births B_dfo_kinds B_dfo_numbers B_dfo_stack B_dfo_facts B_lat_lowHalves B_lat_highHalves B_lat_ways B_smi_placedIrons B_smi_within B_smi_costs B_his_isKept B_book_norms B_book_above B_book_heights B_book_placedBrands B_bea_firstGains B_bea_otherGains B_wit_burnings B_wit_strokes B_wit_wasOn B_wit_toldAt B_wit_untoldAt B_wit_on B_wit_off B_wit_firstCounts B_wit_secondCounts Ps Pd G_tape_wordNames G_told_herdNames G_told_ironNames G_told_beastNames G_draft_herdNames G_draft_ironNames G_draft_beastNames Ph Po Pg ex) H)) := by
  refine metG_of 3 ck_X2_work (Nat.le_of_ble_eq_true rfl) cMap (fun p e s m args below meth c A hx hb hml hr hlocks hown hts hK hD hA hP hS ls hl => ?_)
  have hown : s.vm.findClass "HideReader$Formula" = some m.cls := hown
  have hl : lv_has ls 5 [(0, .ref (a 13)), (1, .int (mI p0)), (2, .int (mI p1)), (3, .int (mI p2))] := hl
  refine lv_iload_n hx hb dX2_work_0 rfl (lv_at hl 1 rfl) ?_
  refine lv_sipush (v := mI 141) hx hb dX2_work_1 (by decide) ?_
  refine sy_icmp_lt (tgt := 18) hx hb dX2_work_4 (by decide) (by omega) (by decide) (fun c_1 => ?_) (fun c_1 => ?_)
  · skip
    refine lv_iconst (v := mI 0) hx hb dX2_work_18 rfl ?_
    refine lv_istore (lv' := [(4, .int (mI 0)), (0, .ref (a 13)), (1, .int (mI p0)), (2, .int (mI p1)), (3, .int (mI p2))]) hx hb dX2_work_19 hl (by decide) rfl (fun ls hl => ?_)
    refine lv_iload hx hb dX2_work_21 (lv_at hl 0 rfl) ?_
    refine sy_if_ne (tgt := 33) hx hb dX2_work_23 (by decide) (by decide) (fun c9 => absurd c9 (by decide)) (fun c_2 => ?_)
    refine lv_iload_n hx hb dX2_work_26 rfl (lv_at hl 2 rfl) ?_
    refine lv_sipush (v := mI 201) hx hb dX2_work_27 (by decide) ?_
    refine sy_icmp_ne (tgt := 73) hx hb dX2_work_30 (by decide) (by omega) (by decide) (fun c_3 => ?_) (fun c9 => False.elim (by omega))
    refine lv_iload_n hx hb dX2_work_73 rfl (lv_at hl 2 rfl) ?_
    refine lv_sipush (v := mI 140) hx hb dX2_work_74 (by decide) ?_
    refine sy_icmp_ne (tgt := 110) hx hb dX2_work_77 (by decide) (by omega) (by decide) (fun c_4 => ?_) (fun c_4 => ?_)
    · skip
      refine lv_iload_n hx hb dX2_work_110 rfl (lv_at hl 4 rfl) ?_
      refine lv_iconst (v := mI 2) hx hb dX2_work_111 rfl ?_
      refine sy_icmp_ge (tgt := 117) hx hb dX2_work_112 (by decide) (by omega) (by decide) (fun c_5 => ?_) (fun c_5 => ?_)
      · skip
        refine lv_aload_n hx hb dX2_work_117 rfl (lv_at hl 1 rfl) ?_
        refine cg_tfo_stack hx hb hts hown hK hP uw_1_138 dX2_work_118 ?_
        refine lv_iload_n hx hb dX2_work_121 rfl (lv_at hl 4 rfl) ?_
        refine lv_iconst (v := mI 2) hx hb dX2_work_122 rfl ?_
        refine sy_isub hx hb dX2_work_123 (p2 - 2) rfl ?_
        refine lv_iload_n hx hb dX2_work_124 rfl (lv_at hl 2 rfl) ?_
        refine lv_aload_n hx hb dX2_work_125 rfl (lv_at hl 1 rfl) ?_
        refine cg_tfo_stack hx hb hts hown hK hP uw_1_138 dX2_work_126 ?_
        refine lv_iload_n hx hb dX2_work_129 rfl (lv_at hl 4 rfl) ?_
        refine lv_iconst (v := mI 2) hx hb dX2_work_130 rfl ?_
        refine sy_isub hx hb dX2_work_131 (p2 - 2) rfl ?_
        refine cl_tfo_stack hx hb hK hP dX2_work_132 (by omega) b_B_tfo_stack (fun z_6 _ hz_6 => ?_)
        refine lv_aload_n hx hb dX2_work_133 rfl (lv_at hl 1 rfl) ?_
        refine cg_tfo_stack hx hb hts hown hK hP uw_1_138 dX2_work_134 ?_
        refine lv_iload_n hx hb dX2_work_137 rfl (lv_at hl 4 rfl) ?_
        refine lv_iconst (v := mI 1) hx hb dX2_work_138 rfl ?_
        refine sy_isub hx hb dX2_work_139 (p2 - 1) rfl ?_
        refine cl_tfo_stack hx hb hK hP dX2_work_140 (by omega) b_B_tfo_stack (fun z_7 _ hz_7 => ?_)
        refine g_i (cDt hD) hS hA (g_S (own := "HideReader$Formula") (As := [.int (mI p0), .int (mI z_6), .int (mI z_7)]) (rest := [.int (mI (p2 - 2)), .ref (a 16)]) hx hb hml hown hts hK hP (cDt hD) (kc_X2_joined (l := l) (D := D) (k := k) (by omega) (by omega) (by omega)) ck_X2_joined uw_4_155 uw_4_154 rfl hl.1 rfl (Nat.le_of_ble_eq_true rfl) dX2_work_141 ⟨Nat.le_of_ble_eq_true rfl, Nat.le_of_ble_eq_true rfl⟩ ⟨Nat.le_of_ble_eq_true rfl, Nat.le_of_ble_eq_true rfl⟩) (fun r_8 H locs hQ hS => ?_)
        obtain ⟨hr_8_0, hP⟩ := hQ
        refine cs_tfo_stack hx hb hK hP hD hS dX2_work_144 (by omega) b_B_tfo_stack (by omega) (fun F_9 H locs _ bF_9 hP hS => ?_)
        refine lv_iload_n hx hb dX2_work_145 rfl (lv_at hl 4 rfl) ?_
        refine lv_iconst (v := mI 1) hx hb dX2_work_146 rfl ?_
        refine sy_isub hx hb dX2_work_147 (p2 - 1) rfl ?_
        exact r_i hx hb hr hlocks dX2_work_148 hS ⟨F_9, by omega, bF_9, hP⟩
      · skip
        refine lv_iload_n hx hb dX2_work_115 rfl (lv_at hl 4 rfl) ?_
        exact r_i hx hb hr hlocks dX2_work_116 hS ⟨B_tfo_stack, by omega, b_B_tfo_stack, hP⟩
    · skip
      refine lv_iload_n hx hb dX2_work_80 rfl (lv_at hl 4 rfl) ?_
      refine sy_if_le (tgt := 108) hx hb dX2_work_81 (by decide) (by omega) (fun c_10 => ?_) (fun c_10 => ?_)
      · skip
        refine lv_iload_n hx hb dX2_work_108 rfl (lv_at hl 4 rfl) ?_
        exact r_i hx hb hr hlocks dX2_work_109 hS ⟨B_tfo_stack, by omega, b_B_tfo_stack, hP⟩
      · skip
        refine lv_aload_n hx hb dX2_work_84 rfl (lv_at hl 1 rfl) ?_
        refine cg_tfo_stack hx hb hts hown hK hP uw_1_138 dX2_work_85 ?_
        refine lv_iload_n hx hb dX2_work_88 rfl (lv_at hl 4 rfl) ?_
        refine lv_iconst (v := mI 1) hx hb dX2_work_89 rfl ?_
        refine sy_isub hx hb dX2_work_90 (p2 - 1) rfl ?_
        refine lv_aload_n hx hb dX2_work_91 rfl (lv_at hl 1 rfl) ?_
        refine cg_tfo_stack hx hb hts hown hK hP uw_1_138 dX2_work_92 ?_
        refine lv_iload_n hx hb dX2_work_95 rfl (lv_at hl 4 rfl) ?_
        refine lv_iconst (v := mI 1) hx hb dX2_work_96 rfl ?_
        refine sy_isub hx hb dX2_work_97 (p2 - 1) rfl ?_
        refine cl_tfo_stack hx hb hK hP dX2_work_98 (by omega) b_B_tfo_stack (fun z_11 _ hz_11 => ?_)
        refine sy_if_ne (tgt := 106) hx hb dX2_work_99 (by decide) (by omega) (fun c_12 => ?_) (fun c_12 => ?_)
        · skip
          refine lv_iconst (v := mI 0) hx hb dX2_work_106 rfl ?_
          refine cs_tfo_stack hx hb hK hP hD hS dX2_work_107 (by omega) b_B_tfo_stack (by omega) (fun F_13 H locs _ bF_13 hP hS => ?_)
          refine lv_iload_n hx hb dX2_work_108 rfl (lv_at hl 4 rfl) ?_
          exact r_i hx hb hr hlocks dX2_work_109 hS ⟨F_13, by omega, bF_13, hP⟩
        · skip
          refine lv_iconst (v := mI 1) hx hb dX2_work_102 rfl ?_
          refine lv_goto (tgt := 107) hx hb dX2_work_103 (by decide) ?_
          refine cs_tfo_stack hx hb hK hP hD hS dX2_work_107 (by omega) b_B_tfo_stack (by omega) (fun F_14 H locs _ bF_14 hP hS => ?_)
          refine lv_iload_n hx hb dX2_work_108 rfl (lv_at hl 4 rfl) ?_
          exact r_i hx hb hr hlocks dX2_work_109 hS ⟨F_14, by omega, bF_14, hP⟩
  · skip
    refine lv_iload_n hx hb dX2_work_7 rfl (lv_at hl 1 rfl) ?_
    refine lv_sipush (v := mI 145) hx hb dX2_work_8 (by decide) ?_
    refine sy_icmp_gt (tgt := 18) hx hb dX2_work_11 (by decide) (by omega) (by decide) (fun c_15 => ?_) (fun c_15 => ?_)
    · skip
      refine lv_iconst (v := mI 0) hx hb dX2_work_18 rfl ?_
      refine lv_istore (lv' := [(4, .int (mI 0)), (0, .ref (a 13)), (1, .int (mI p0)), (2, .int (mI p1)), (3, .int (mI p2))]) hx hb dX2_work_19 hl (by decide) rfl (fun ls hl => ?_)
      refine lv_iload hx hb dX2_work_21 (lv_at hl 0 rfl) ?_
      refine sy_if_ne (tgt := 33) hx hb dX2_work_23 (by decide) (by decide) (fun c9 => absurd c9 (by decide)) (fun c_16 => ?_)
      refine lv_iload_n hx hb dX2_work_26 rfl (lv_at hl 2 rfl) ?_
      refine lv_sipush (v := mI 201) hx hb dX2_work_27 (by decide) ?_
      refine sy_icmp_ne (tgt := 73) hx hb dX2_work_30 (by decide) (by omega) (by decide) (fun c_17 => ?_) (fun c_17 => ?_)
      · skip
        refine lv_iload_n hx hb dX2_work_73 rfl (lv_at hl 2 rfl) ?_
        refine lv_sipush (v := mI 140) hx hb dX2_work_74 (by decide) ?_
        refine sy_icmp_ne (tgt := 110) hx hb dX2_work_77 (by decide) (by omega) (by decide) (fun c_18 => ?_) (fun c9 => False.elim (by omega))
        refine lv_iload_n hx hb dX2_work_110 rfl (lv_at hl 4 rfl) ?_
        refine lv_iconst (v := mI 2) hx hb dX2_work_111 rfl ?_
        refine sy_icmp_ge (tgt := 117) hx hb dX2_work_112 (by decide) (by omega) (by decide) (fun c_19 => ?_) (fun c_19 => ?_)
        · skip
          refine lv_aload_n hx hb dX2_work_117 rfl (lv_at hl 1 rfl) ?_
          refine cg_tfo_stack hx hb hts hown hK hP uw_1_138 dX2_work_118 ?_
          refine lv_iload_n hx hb dX2_work_121 rfl (lv_at hl 4 rfl) ?_
          refine lv_iconst (v := mI 2) hx hb dX2_work_122 rfl ?_
          refine sy_isub hx hb dX2_work_123 (p2 - 2) rfl ?_
          refine lv_iload_n hx hb dX2_work_124 rfl (lv_at hl 2 rfl) ?_
          refine lv_aload_n hx hb dX2_work_125 rfl (lv_at hl 1 rfl) ?_
          refine cg_tfo_stack hx hb hts hown hK hP uw_1_138 dX2_work_126 ?_
          refine lv_iload_n hx hb dX2_work_129 rfl (lv_at hl 4 rfl) ?_
          refine lv_iconst (v := mI 2) hx hb dX2_work_130 rfl ?_
          refine sy_isub hx hb dX2_work_131 (p2 - 2) rfl ?_
          refine cl_tfo_stack hx hb hK hP dX2_work_132 (by omega) b_B_tfo_stack (fun z_20 _ hz_20 => ?_)
          refine lv_aload_n hx hb dX2_work_133 rfl (lv_at hl 1 rfl) ?_
          refine cg_tfo_stack hx hb hts hown hK hP uw_1_138 dX2_work_134 ?_
          refine lv_iload_n hx hb dX2_work_137 rfl (lv_at hl 4 rfl) ?_
          refine lv_iconst (v := mI 1) hx hb dX2_work_138 rfl ?_
          refine sy_isub hx hb dX2_work_139 (p2 - 1) rfl ?_
          refine cl_tfo_stack hx hb hK hP dX2_work_140 (by omega) b_B_tfo_stack (fun z_21 _ hz_21 => ?_)
          refine g_i (cDt hD) hS hA (g_S (own := "HideReader$Formula") (As := [.int (mI p0), .int (mI z_20), .int (mI z_21)]) (rest := [.int (mI (p2 - 2)), .ref (a 16)]) hx hb hml hown hts hK hP (cDt hD) (kc_X2_joined (l := l) (D := D) (k := k) (by omega) (by omega) (by omega)) ck_X2_joined uw_4_155 uw_4_154 rfl hl.1 rfl (Nat.le_of_ble_eq_true rfl) dX2_work_141 ⟨Nat.le_of_ble_eq_true rfl, Nat.le_of_ble_eq_true rfl⟩ ⟨Nat.le_of_ble_eq_true rfl, Nat.le_of_ble_eq_true rfl⟩) (fun r_22 H locs hQ hS => ?_)
          obtain ⟨hr_22_0, hP⟩ := hQ
          refine cs_tfo_stack hx hb hK hP hD hS dX2_work_144 (by omega) b_B_tfo_stack (by omega) (fun F_23 H locs _ bF_23 hP hS => ?_)
          refine lv_iload_n hx hb dX2_work_145 rfl (lv_at hl 4 rfl) ?_
          refine lv_iconst (v := mI 1) hx hb dX2_work_146 rfl ?_
          refine sy_isub hx hb dX2_work_147 (p2 - 1) rfl ?_
          exact r_i hx hb hr hlocks dX2_work_148 hS ⟨F_23, by omega, bF_23, hP⟩
        · skip
          refine lv_iload_n hx hb dX2_work_115 rfl (lv_at hl 4 rfl) ?_
          exact r_i hx hb hr hlocks dX2_work_116 hS ⟨B_tfo_stack, by omega, b_B_tfo_stack, hP⟩
      · skip
        refine lv_iload_n hx hb dX2_work_33 rfl (lv_at hl 4 rfl) ?_
        refine lv_bipush (v := mI 30) hx hb dX2_work_34 (by decide) ?_
        refine sy_icmp_ge (tgt := 64) hx hb dX2_work_36 (by decide) (by omega) (by decide) (fun c_24 => ?_) (fun c_24 => ?_)
        · skip
          refine lv_iload_n hx hb dX2_work_64 rfl (lv_at hl 4 rfl) ?_
          refine lv_iconst (v := mI 1) hx hb dX2_work_65 rfl ?_
          refine sy_iadd hx hb dX2_work_66 (p2 + 1) rfl ?_
          refine lv_bipush (v := mI 30) hx hb dX2_work_67 (by decide) ?_
          refine sy_min hx hb (hml.trans hl.1.symm) hown hts uw_4_153 (Nat.le_of_ble_eq_true rfl) (Nat.le_of_ble_eq_true rfl) (Nat.le_of_ble_eq_true rfl) (Nat.le_of_ble_eq_true rfl) dX2_work_69 (by omega) (by decide) (fun z_25 hz_25 => ?_)
          exact r_i hx hb hr hlocks dX2_work_72 hS ⟨B_tfo_stack, by omega, b_B_tfo_stack, hP⟩
        · skip
          refine lv_aload_n hx hb dX2_work_39 rfl (lv_at hl 1 rfl) ?_
          refine cg_tfo_stack hx hb hts hown hK hP uw_1_138 dX2_work_40 ?_
          refine lv_iload_n hx hb dX2_work_43 rfl (lv_at hl 4 rfl) ?_
          refine lv_iload hx hb dX2_work_44 (lv_at hl 0 rfl) ?_
          refine sy_if_eq (tgt := 62) hx hb dX2_work_46 (by decide) (by decide) (fun c_26 => ?_) (fun c9 => absurd c9 (by decide))
          refine lv_iload_n hx hb dX2_work_62 rfl (lv_at hl 3 rfl) ?_
          refine cs_tfo_stack hx hb hK hP hD hS dX2_work_63 (by omega) b_B_tfo_stack (by omega) (fun F_27 H locs _ bF_27 hP hS => ?_)
          refine lv_iload_n hx hb dX2_work_64 rfl (lv_at hl 4 rfl) ?_
          refine lv_iconst (v := mI 1) hx hb dX2_work_65 rfl ?_
          refine sy_iadd hx hb dX2_work_66 (p2 + 1) rfl ?_
          refine lv_bipush (v := mI 30) hx hb dX2_work_67 (by decide) ?_
          refine sy_min hx hb (hml.trans hl.1.symm) hown hts uw_4_153 (Nat.le_of_ble_eq_true rfl) (Nat.le_of_ble_eq_true rfl) (Nat.le_of_ble_eq_true rfl) (Nat.le_of_ble_eq_true rfl) dX2_work_69 (by omega) (by decide) (fun z_28 hz_28 => ?_)
          exact r_i hx hb hr hlocks dX2_work_72 hS ⟨F_27, by omega, bF_27, hP⟩
    · skip
      refine lv_iconst (v := mI 1) hx hb dX2_work_14 rfl ?_
      refine lv_goto (tgt := 19) hx hb dX2_work_15 (by decide) ?_
      refine lv_istore (lv' := [(4, .int (mI 1)), (0, .ref (a 13)), (1, .int (mI p0)), (2, .int (mI p1)), (3, .int (mI p2))]) hx hb dX2_work_19 hl (by decide) rfl (fun ls hl => ?_)
      refine lv_iload hx hb dX2_work_21 (lv_at hl 0 rfl) ?_
      refine sy_if_ne (tgt := 33) hx hb dX2_work_23 (by decide) (by decide) (fun c_29 => ?_) (fun c9 => absurd c9 (by decide))
      refine lv_iload_n hx hb dX2_work_33 rfl (lv_at hl 4 rfl) ?_
      refine lv_bipush (v := mI 30) hx hb dX2_work_34 (by decide) ?_
      refine sy_icmp_ge (tgt := 64) hx hb dX2_work_36 (by decide) (by omega) (by decide) (fun c_30 => ?_) (fun c_30 => ?_)
      · skip
        refine lv_iload_n hx hb dX2_work_64 rfl (lv_at hl 4 rfl) ?_
        refine lv_iconst (v := mI 1) hx hb dX2_work_65 rfl ?_
        refine sy_iadd hx hb dX2_work_66 (p2 + 1) rfl ?_
        refine lv_bipush (v := mI 30) hx hb dX2_work_67 (by decide) ?_
        refine sy_min hx hb (hml.trans hl.1.symm) hown hts uw_4_153 (Nat.le_of_ble_eq_true rfl) (Nat.le_of_ble_eq_true rfl) (Nat.le_of_ble_eq_true rfl) (Nat.le_of_ble_eq_true rfl) dX2_work_69 (by omega) (by decide) (fun z_31 hz_31 => ?_)
        exact r_i hx hb hr hlocks dX2_work_72 hS ⟨B_tfo_stack, by omega, b_B_tfo_stack, hP⟩
      · skip
        refine lv_aload_n hx hb dX2_work_39 rfl (lv_at hl 1 rfl) ?_
        refine cg_tfo_stack hx hb hts hown hK hP uw_1_138 dX2_work_40 ?_
        refine lv_iload_n hx hb dX2_work_43 rfl (lv_at hl 4 rfl) ?_
        refine lv_iload hx hb dX2_work_44 (lv_at hl 0 rfl) ?_
        refine sy_if_eq (tgt := 62) hx hb dX2_work_46 (by decide) (by decide) (fun c9 => absurd c9 (by decide)) (fun c_32 => ?_)
        refine lv_aload_n hx hb dX2_work_49 rfl (lv_at hl 1 rfl) ?_
        refine cg_tfo_facts hx hb hts hown hK hP uw_1_139 dX2_work_50 ?_
        refine lv_iload_n hx hb dX2_work_53 rfl (lv_at hl 2 rfl) ?_
        refine lv_sipush (v := mI 141) hx hb dX2_work_54 (by decide) ?_
        refine sy_isub hx hb dX2_work_57 (p0 - 141) rfl ?_
        refine cl_tfo_facts hx hb hK hP dX2_work_58 (by omega) b_B_tfo_facts (fun z_33 _ hz_33 => ?_)
        refine lv_goto (tgt := 63) hx hb dX2_work_59 (by decide) ?_
        refine cs_tfo_stack hx hb hK hP hD hS dX2_work_63 (by omega) b_B_tfo_stack (by omega) (fun F_34 H locs _ bF_34 hP hS => ?_)
        refine lv_iload_n hx hb dX2_work_64 rfl (lv_at hl 4 rfl) ?_
        refine lv_iconst (v := mI 1) hx hb dX2_work_65 rfl ?_
        refine sy_iadd hx hb dX2_work_66 (p2 + 1) rfl ?_
        refine lv_bipush (v := mI 30) hx hb dX2_work_67 (by decide) ?_
        refine sy_min hx hb (hml.trans hl.1.symm) hown hts uw_4_153 (Nat.le_of_ble_eq_true rfl) (Nat.le_of_ble_eq_true rfl) (Nat.le_of_ble_eq_true rfl) (Nat.le_of_ble_eq_true rfl) dX2_work_69 (by omega) (by decide) (fun z_35 hz_35 => ?_)
        exact r_i hx hb hr hlocks dX2_work_72 hS ⟨F_34, by omega, bF_34, hP⟩
set_option maxHeartbeats 4000000 in
set_option maxRecDepth 100000 in
theorem kc_X2_holds_tfo {p0 p1 p2 p3 p4 : Int} (hp0 : -2147483648 ≤ p0 ∧ p0 ≤ 2147483647) (hp1 : -2147483648 ≤ p1 ∧ p1 ≤ 2147483647) (hp2 : -2147483648 ≤ p2 ∧ p2 ≤ 2147483647) (hp3 : -2147483648 ≤ p3 ∧ p3 ≤ 2147483647) (hp4 : -2147483648 ≤ p4 ∧ p4 ≤ 2147483647) (h_x_tfo_steps : 0 ≤ x_tfo_steps ∧ x_tfo_steps ≤ 270) (b_B_tfo_kinds : bd (-2147483648) 2147483647 B_tfo_kinds) (b_B_tfo_numbers : bd (-2147483648) 2147483647 B_tfo_numbers) (b_B_tfo_stack : bd (-2147483648) 2147483647 B_tfo_stack) (b_B_tfo_facts : bd (-2147483648) 2147483647 B_tfo_facts) : MetG l D k yX2_holds cX2_holds 8 (some .boolean) 2 [.ref (a 13), .int (mI p0), .int (mI p1), .int (mI p2), .int (mI p3), .int (mI p4)] (cW k a q x_xo_lyingCount x_tape_length x_tape_next x_tape_kind x_tape_place x_tape_number x_tape_faultKind x_tape_faultPlace x_told_turns x_told_mirror x_told_night x_told_draw x_told_herds x_told_irons x_told_beasts x_told_linesTold x_tfo_steps x_tfo_units x_draft_turns x_draft_mirror x_draft_night x_draft_draw x_draft_herds x_draft_irons x_draft_beasts x_draft_linesTold x_dfo_steps x_dfo_units x_lat_placements x_smi_irons x_smi_aim x_his_here x_his_undoable x_his_redoable x_book_placedCount x_wit_count x_wit_time n_tape_name B_xo_lying B_tape_bytes B_told_brands B_told_ironMarks B_told_homes B_told_births B_tfo_kinds B_tfo_numbers B_tfo_stack B_tfo_facts B_draft_brands B_draft_ironMarks B_draft_homes B_draft_births B_dfo_kinds B_dfo_numbers B_dfo_stack B_dfo_facts B_lat_lowHalves B_lat_highHalves B_lat_ways B_smi_placedIrons B_smi_within B_smi_costs B_his_isKept B_book_norms B_book_above B_book_heights B_book_placedBrands B_bea_firstGains B_bea_otherGains B_wit_burnings B_wit_strokes B_wit_wasOn B_wit_toldAt B_wit_untoldAt B_wit_on B_wit_off B_wit_firstCounts B_wit_secondCounts Ps Pd G_tape_wordNames G_told_herdNames G_told_ironNames G_told_beastNames G_draft_herdNames G_draft_ironNames G_draft_beastNames Ph Po Pg ex) (qGi (fun r0 H => ∃ (F_tfo_stack : Nat → Int) (F_tfo_facts : Nat → Int), (0 ≤ r0 ∧ r0 ≤ 1) ∧ (bd (-2147483648) 2147483647 F_tfo_stack) ∧ (bd (-2147483648) 2147483647 F_tfo_facts) ∧ va_P D vwCl (cW k a q x_xo_lyingCount x_tape_length x_tape_next x_tape_kind x_tape_place x_tape_number x_tape_faultKind x_tape_faultPlace x_told_turns x_told_mirror x_told_night x_told_draw x_told_herds x_told_irons x_told_beasts x_told_linesTold x_tfo_steps x_tfo_units x_draft_turns x_draft_mirror x_draft_night x_draft_draw x_draft_herds x_draft_irons x_draft_beasts x_draft_linesTold x_dfo_steps x_dfo_units x_lat_placements x_smi_irons x_smi_aim x_his_here x_his_undoable x_his_redoable x_book_placedCount x_wit_count x_wit_time n_tape_name B_xo_lying B_tape_bytes B_told_brands B_told_ironMarks B_told_homes B_told_births B_tfo_kinds B_tfo_numbers F_tfo_stack F_tfo_facts B_draft_brands B_draft_ironMarks B_draft_homes B_draft_births B_dfo_kinds B_dfo_numbers B_dfo_stack B_dfo_facts B_lat_lowHalves B_lat_highHalves B_lat_ways B_smi_placedIrons B_smi_within B_smi_costs B_his_isKept B_book_norms B_book_above B_book_heights B_book_placedBrands B_bea_firstGains B_bea_otherGains B_wit_burnings B_wit_strokes B_wit_wasOn B_wit_toldAt B_wit_untoldAt B_wit_on B_wit_off B_wit_firstCounts B_wit_secondCounts Ps Pd G_tape_wordNames G_told_herdNames G_told_ironNames G_told_beastNames G_draft_herdNames G_draft_ironNames G_draft_beastNames Ph Po Pg ex) H)) := by
  refine metG_of 5 ck_X2_holds (Nat.le_of_ble_eq_true rfl) cMap (fun p e s m args below meth c A hx hb hml hr hlocks hown hts hK hD hA hP hS ls hl => ?_)
  have hown : s.vm.findClass "HideReader$Formula" = some m.cls := hown
  have hl : lv_has ls 8 [(0, .ref (a 13)), (1, .int (mI p0)), (2, .int (mI p1)), (3, .int (mI p2)), (4, .int (mI p3)), (5, .int (mI p4))] := hl
  refine lv_aload_n hx hb dX2_holds_0 rfl (lv_at hl 0 rfl) ?_
  refine cg_tfo_steps hx hb hts hown hK hP uw_1_140 dX2_holds_1 ?_
  refine sy_if_ne (tgt := 9) hx hb dX2_holds_4 (by decide) (by omega) (fun c_1 => ?_) (fun c_1 => ?_)
  · skip
    refine lv_aload_n hx hb dX2_holds_9 rfl (lv_at hl 0 rfl) ?_
    refine cg_tfo_facts hx hb hts hown hK hP uw_1_139 dX2_holds_10 ?_
    refine lv_iconst (v := mI 0) hx hb dX2_holds_13 rfl ?_
    refine lv_iload_n hx hb dX2_holds_14 rfl (lv_at hl 1 rfl) ?_
    refine cs_tfo_facts hx hb hK hP hD hS dX2_holds_15 (by omega) b_B_tfo_facts (by omega) (fun F_2 H locs _ bF_2 hP hS => ?_)
    refine lv_aload_n hx hb dX2_holds_16 rfl (lv_at hl 0 rfl) ?_
    refine cg_tfo_facts hx hb hts hown hK hP uw_1_139 dX2_holds_17 ?_
    refine lv_iconst (v := mI 1) hx hb dX2_holds_20 rfl ?_
    refine lv_iload_n hx hb dX2_holds_21 rfl (lv_at hl 2 rfl) ?_
    refine cs_tfo_facts hx hb hK hP hD hS dX2_holds_22 (by omega) bF_2 (by omega) (fun F_3 H locs _ bF_3 hP hS => ?_)
    refine lv_aload_n hx hb dX2_holds_23 rfl (lv_at hl 0 rfl) ?_
    refine cg_tfo_facts hx hb hts hown hK hP uw_1_139 dX2_holds_24 ?_
    refine lv_iconst (v := mI 2) hx hb dX2_holds_27 rfl ?_
    refine lv_iload_n hx hb dX2_holds_28 rfl (lv_at hl 3 rfl) ?_
    refine cs_tfo_facts hx hb hK hP hD hS dX2_holds_29 (by omega) bF_3 (by omega) (fun F_4 H locs _ bF_4 hP hS => ?_)
    refine lv_aload_n hx hb dX2_holds_30 rfl (lv_at hl 0 rfl) ?_
    refine cg_tfo_facts hx hb hts hown hK hP uw_1_139 dX2_holds_31 ?_
    refine lv_iconst (v := mI 3) hx hb dX2_holds_34 rfl ?_
    refine lv_iload hx hb dX2_holds_35 (lv_at hl 4 rfl) ?_
    refine cs_tfo_facts hx hb hK hP hD hS dX2_holds_37 (by omega) bF_4 (by omega) (fun F_5 H locs _ bF_5 hP hS => ?_)
    refine lv_aload_n hx hb dX2_holds_38 rfl (lv_at hl 0 rfl) ?_
    refine cg_tfo_facts hx hb hts hown hK hP uw_1_139 dX2_holds_39 ?_
    refine lv_iconst (v := mI 4) hx hb dX2_holds_42 rfl ?_
    refine lv_iload hx hb dX2_holds_43 (lv_at hl 5 rfl) ?_
    refine cs_tfo_facts hx hb hK hP hD hS dX2_holds_45 (by omega) bF_5 (by omega) (fun F_6 H locs _ bF_6 hP hS => ?_)
    refine lv_iconst (v := mI 0) hx hb dX2_holds_46 rfl ?_
    refine lv_istore (lv' := [(6, .int (mI 0)), (0, .ref (a 13)), (1, .int (mI p0)), (2, .int (mI p1)), (3, .int (mI p2)), (4, .int (mI p3)), (5, .int (mI p4))]) hx hb dX2_holds_47 hl (by decide) rfl (fun ls hl => ?_)
    refine lv_iconst (v := mI 0) hx hb dX2_holds_49 rfl ?_
    refine lv_istore (lv' := [(7, .int (mI 0)), (6, .int (mI 0)), (0, .ref (a 13)), (1, .int (mI p0)), (2, .int (mI p1)), (3, .int (mI p2)), (4, .int (mI p3)), (5, .int (mI p4))]) hx hb dX2_holds_50 hl (by decide) rfl (fun ls hl => ?_)
    refine sy_loop (I := fun n H locs g => ∃ (z_122 : Int) (z_123 : Int) (F_124 : Nat → Int) (ls : Array Slot), (0 ≤ z_122 ∧ z_122 ≤ 270) ∧ (0 ≤ z_123 ∧ z_123 ≤ 30) ∧ (bd (-2147483648) 2147483647 F_124) ∧ (270 - z_122).toNat = n ∧ va_P D vwCl (cW k a q x_xo_lyingCount x_tape_length x_tape_next x_tape_kind x_tape_place x_tape_number x_tape_faultKind x_tape_faultPlace x_told_turns x_told_mirror x_told_night x_told_draw x_told_herds x_told_irons x_told_beasts x_told_linesTold x_tfo_steps x_tfo_units x_draft_turns x_draft_mirror x_draft_night x_draft_draw x_draft_herds x_draft_irons x_draft_beasts x_draft_linesTold x_dfo_steps x_dfo_units x_lat_placements x_smi_irons x_smi_aim x_his_here x_his_undoable x_his_redoable x_book_placedCount x_wit_count x_wit_time n_tape_name B_xo_lying B_tape_bytes B_told_brands B_told_ironMarks B_told_homes B_told_births B_tfo_kinds B_tfo_numbers F_124 F_6 B_draft_brands B_draft_ironMarks B_draft_homes B_draft_births B_dfo_kinds B_dfo_numbers B_dfo_stack B_dfo_facts B_lat_lowHalves B_lat_highHalves B_lat_ways B_smi_placedIrons B_smi_within B_smi_costs B_his_isKept B_book_norms B_book_above B_book_heights B_book_placedBrands B_bea_firstGains B_bea_otherGains B_wit_burnings B_wit_strokes B_wit_wasOn B_wit_toldAt B_wit_untoldAt B_wit_on B_wit_off B_wit_firstCounts B_wit_secondCounts Ps Pd G_tape_wordNames G_told_herdNames G_told_ironNames G_told_beastNames G_draft_herdNames G_draft_ironNames G_draft_beastNames Ph Po Pg ex) H ∧ va_S A s.heap H locs ∧ lv_has ls 8 [(7, .int (mI z_122)), (6, .int (mI z_123)), (0, .ref (a 13)), (1, .int (mI p0)), (2, .int (mI p1)), (3, .int (mI p2)), (4, .int (mI p3)), (5, .int (mI p4))] ∧ g = F0 m 52 ls []) ?_ _ ⟨0, 0, B_tfo_stack, _, by omega, by omega, b_B_tfo_stack, rfl, hP, hS, lv_sub hl [0, 1, 2, 3, 4, 5, 6, 7] rfl, rfl⟩
    intro n_137 H locs g hI ih_138
    obtain ⟨z_122, z_123, F_124, ls, h52_0, h52_1, bF_124, mn_137, hP, hS, hl, rfl⟩ := hI
    refine lv_iload hx hb dX2_holds_52 (lv_at hl 0 rfl) ?_
    refine lv_aload_n hx hb dX2_holds_54 rfl (lv_at hl 2 rfl) ?_
    refine cg_tfo_steps hx hb hts hown hK hP uw_1_140 dX2_holds_55 ?_
    refine sy_icmp_ge (tgt := 89) hx hb dX2_holds_58 (by decide) (by omega) (by omega) (fun c_144 => ?_) (fun c_144 => ?_)
    · skip
      refine lv_aload_n hx hb dX2_holds_89 rfl (lv_at hl 2 rfl) ?_
      refine cg_tfo_stack hx hb hts hown hK hP uw_1_138 dX2_holds_90 ?_
      refine lv_iconst (v := mI 0) hx hb dX2_holds_93 rfl ?_
      refine cl_tfo_stack hx hb hK hP dX2_holds_94 (by omega) bF_124 (fun z_145 _ hz_145 => ?_)
      refine sy_if_eq (tgt := 102) hx hb dX2_holds_95 (by decide) (by omega) (fun c_146 => ?_) (fun c_146 => ?_)
      · skip
        refine lv_iconst (v := mI 0) hx hb dX2_holds_102 rfl ?_
        exact r_z hx hb hr hlocks dX2_holds_103 hS (by decide) ⟨F_124, F_6, by omega, bF_124, bF_6, hP⟩
      · skip
        refine lv_iconst (v := mI 1) hx hb dX2_holds_98 rfl ?_
        refine lv_goto (tgt := 103) hx hb dX2_holds_99 (by decide) ?_
        exact r_z hx hb hr hlocks dX2_holds_103 hS (by decide) ⟨F_124, F_6, by omega, bF_124, bF_6, hP⟩
    · skip
      refine lv_aload_n hx hb dX2_holds_61 rfl (lv_at hl 2 rfl) ?_
      refine lv_aload_n hx hb dX2_holds_62 rfl (lv_at hl 2 rfl) ?_
      refine cg_tfo_kinds hx hb hts hown hK hP uw_1_136 dX2_holds_63 ?_
      refine lv_iload hx hb dX2_holds_66 (lv_at hl 0 rfl) ?_
      refine cl_tfo_kinds hx hb hK hP dX2_holds_68 (by omega) b_B_tfo_kinds (fun z_147 _ hz_147 => ?_)
      refine lv_aload_n hx hb dX2_holds_69 rfl (lv_at hl 2 rfl) ?_
      refine cg_tfo_numbers hx hb hts hown hK hP uw_1_137 dX2_holds_70 ?_
      refine lv_iload hx hb dX2_holds_73 (lv_at hl 0 rfl) ?_
      refine cl_tfo_numbers hx hb hK hP dX2_holds_75 (by omega) b_B_tfo_numbers (fun z_148 _ hz_148 => ?_)
      refine lv_iload hx hb dX2_holds_76 (lv_at hl 1 rfl) ?_
      refine g_i (cDt hD) hS hA (g_V (own := "HideReader$Formula") (As := [.int (mI z_147), .int (mI z_148), .int (mI z_123)]) (rest := []) hx hb hml hown hts hK hP (cDt hD) (kc_X2_work_tfo (l := l) (D := D) (k := k) (by omega) (by omega) (by omega) bF_124 bF_6) ck_X2_work iv_X2_work uw_4_149 (cv_tfo hK hP) rfl hl.1 rfl (Nat.le_of_ble_eq_true rfl) dX2_holds_78 ⟨Nat.le_of_ble_eq_true rfl, Nat.le_of_ble_eq_true rfl⟩ ⟨Nat.le_of_ble_eq_true rfl, Nat.le_of_ble_eq_true rfl⟩) (fun r_149 H locs hQ hS => ?_)
      obtain ⟨F_150, hr_149_0, bF_150, hP⟩ := hQ
      refine lv_istore (lv' := [(6, .int (mI r_149)), (7, .int (mI z_122)), (0, .ref (a 13)), (1, .int (mI p0)), (2, .int (mI p1)), (3, .int (mI p2)), (4, .int (mI p3)), (5, .int (mI p4))]) hx hb dX2_holds_81 hl (by decide) rfl (fun ls hl => ?_)
      refine lv_iinc (v := mI (z_122 + 1)) (lv' := [(7, .int (mI (z_122 + 1))), (6, .int (mI r_149)), (0, .ref (a 13)), (1, .int (mI p0)), (2, .int (mI p1)), (3, .int (mI p2)), (4, .int (mI p3)), (5, .int (mI p4))]) hx hb dX2_holds_83 hl (k := 1) rfl (mI_ad rfl) (by decide) rfl (fun ls hl => ?_)
      refine lv_goto (tgt := 52) hx hb dX2_holds_86 (by decide) ?_
      exact ih_138 _ _ _ _ (by omega) ⟨(z_122 + 1), r_149, F_150, _, by omega, by omega, bF_150, rfl, hP, hS, lv_sub hl [0, 1, 2, 3, 4, 5, 6, 7] rfl, rfl⟩
  · skip
    refine lv_iconst (v := mI 1) hx hb dX2_holds_7 rfl ?_
    exact r_z hx hb hr hlocks dX2_holds_8 hS (by decide) ⟨B_tfo_stack, B_tfo_facts, by omega, b_B_tfo_stack, b_B_tfo_facts, hP⟩
set_option maxHeartbeats 4000000 in
set_option maxRecDepth 100000 in
theorem kc_X0_shows {p1 p2 p3 p4 : Int} {i0 : Nat} (hi0 : i0 < 44) (hp1 : 0 ≤ p1 ∧ p1 ≤ 7) (hp2 : 0 ≤ p2 ∧ p2 ≤ 11) (hp3 : -2147483648 ≤ p3 ∧ p3 ≤ 2147483647) (hp4 : 0 ≤ p4 ∧ p4 ≤ 60) (h_x_tfo_steps : 0 ≤ x_tfo_steps ∧ x_tfo_steps ≤ 270) (b_B_told_births : bd (-2147483648) 2147483647 B_told_births) (b_B_tfo_kinds : bd (-2147483648) 2147483647 B_tfo_kinds) (b_B_tfo_numbers : bd (-2147483648) 2147483647 B_tfo_numbers) (b_B_tfo_stack : bd (-2147483648) 2147483647 B_tfo_stack) (b_B_tfo_facts : bd (-2147483648) 2147483647 B_tfo_facts) (b_Ps : bd (-2147483648) 2147483647 Ps) (b_Ph : pb (0) 4095 Ph) : MetG l D k yX0_shows cX0_shows 7 (some .boolean) 3 [.ref (a 49), .ref (q (4 * i0)), .int (mI p1), .int (mI p2), .int (mI p3), .int (mI p4)] (cW k a q x_xo_lyingCount x_tape_length x_tape_next x_tape_kind x_tape_place x_tape_number x_tape_faultKind x_tape_faultPlace x_told_turns x_told_mirror x_told_night x_told_draw x_told_herds x_told_irons x_told_beasts x_told_linesTold x_tfo_steps x_tfo_units x_draft_turns x_draft_mirror x_draft_night x_draft_draw x_draft_herds x_draft_irons x_draft_beasts x_draft_linesTold x_dfo_steps x_dfo_units x_lat_placements x_smi_irons x_smi_aim x_his_here x_his_undoable x_his_redoable x_book_placedCount x_wit_count x_wit_time n_tape_name B_xo_lying B_tape_bytes B_told_brands B_told_ironMarks B_told_homes B_told_births B_tfo_kinds B_tfo_numbers B_tfo_stack B_tfo_facts B_draft_brands B_draft_ironMarks B_draft_homes B_draft_births B_dfo_kinds B_dfo_numbers B_dfo_stack B_dfo_facts B_lat_lowHalves B_lat_highHalves B_lat_ways B_smi_placedIrons B_smi_within B_smi_costs B_his_isKept B_book_norms B_book_above B_book_heights B_book_placedBrands B_bea_firstGains B_bea_otherGains B_wit_burnings B_wit_strokes B_wit_wasOn B_wit_toldAt B_wit_untoldAt B_wit_on B_wit_off B_wit_firstCounts B_wit_secondCounts Ps Pd G_tape_wordNames G_told_herdNames G_told_ironNames G_told_beastNames G_draft_herdNames G_draft_ironNames G_draft_beastNames Ph Po Pg ex) (qGi (fun r0 H => ∃ (F_tfo_stack : Nat → Int) (F_tfo_facts : Nat → Int), (0 ≤ r0 ∧ r0 ≤ 1) ∧ (bd (-2147483648) 2147483647 F_tfo_stack) ∧ (bd (-2147483648) 2147483647 F_tfo_facts) ∧ va_P D vwCl (cW k a q x_xo_lyingCount x_tape_length x_tape_next x_tape_kind x_tape_place x_tape_number x_tape_faultKind x_tape_faultPlace x_told_turns x_told_mirror x_told_night x_told_draw x_told_herds x_told_irons x_told_beasts x_told_linesTold x_tfo_steps x_tfo_units x_draft_turns x_draft_mirror x_draft_night x_draft_draw x_draft_herds x_draft_irons x_draft_beasts x_draft_linesTold x_dfo_steps x_dfo_units x_lat_placements x_smi_irons x_smi_aim x_his_here x_his_undoable x_his_redoable x_book_placedCount x_wit_count x_wit_time n_tape_name B_xo_lying B_tape_bytes B_told_brands B_told_ironMarks B_told_homes B_told_births B_tfo_kinds B_tfo_numbers F_tfo_stack F_tfo_facts B_draft_brands B_draft_ironMarks B_draft_homes B_draft_births B_dfo_kinds B_dfo_numbers B_dfo_stack B_dfo_facts B_lat_lowHalves B_lat_highHalves B_lat_ways B_smi_placedIrons B_smi_within B_smi_costs B_his_isKept B_book_norms B_book_above B_book_heights B_book_placedBrands B_bea_firstGains B_bea_otherGains B_wit_burnings B_wit_strokes B_wit_wasOn B_wit_toldAt B_wit_untoldAt B_wit_on B_wit_off B_wit_firstCounts B_wit_secondCounts Ps Pd G_tape_wordNames G_told_herdNames G_told_ironNames G_told_beastNames G_draft_herdNames G_draft_ironNames G_draft_beastNames Ph Po Pg ex) H)) := by
  refine metG_of 5 ck_X0_shows (Nat.le_of_ble_eq_true rfl) cMap (fun p e s m args below meth c A hx hb hml hr hlocks hown hts hK hD hA hP hS ls hl => ?_)
  have hown : s.vm.findClass "HideReader$Beasts" = some m.cls := hown
  have hl : lv_has ls 7 [(0, .ref (a 49)), (1, .ref (q (4 * i0))), (2, .int (mI p1)), (3, .int (mI p2)), (4, .int (mI p3)), (5, .int (mI p4))] := hl
  refine lv_aload_n hx hb dX0_shows_0 rfl (lv_at hl 1 rfl) ?_
  refine cg_past_hides (i := i0) (by omega) hx hb hts hown hK hP uw_2_87 dX0_shows_1 ?_
  refine lv_iload_n hx hb dX0_shows_4 rfl (lv_at hl 2 rfl) ?_
  refine cl_past_hides (i := i0) (by omega) hx hb hK hP dX0_shows_5 (by omega) b_Ph (fun z_1 _ hz_1 => ?_)
  refine g_i (cDt hD) hS hA (g_S (own := "HideReader$Beasts") (As := [.int (mI z_1)]) (rest := []) hx hb hml hown hts hK hP (cDt hD) (kc_bitCount (l := l) (D := D) (k := k) (by omega)) ck_J6_bitCount_0f7a4 uw_4_140 uw_4_139 rfl hl.1 rfl (Nat.le_of_ble_eq_true rfl) dX0_shows_6 ⟨Nat.le_of_ble_eq_true rfl, Nat.le_of_ble_eq_true rfl⟩ ⟨Nat.le_of_ble_eq_true rfl, Nat.le_of_ble_eq_true rfl⟩) (fun r_2 H locs hQ hS => ?_)
  obtain ⟨hr_2_0, hP⟩ := hQ
  refine lv_istore (lv' := [(6, .int (mI r_2)), (0, .ref (a 49)), (1, .ref (q (4 * i0))), (2, .int (mI p1)), (3, .int (mI p2)), (4, .int (mI p3)), (5, .int (mI p4))]) hx hb dX0_shows_9 hl (by decide) rfl (fun ls hl => ?_)
  refine lv_aload_n hx hb dX0_shows_11 rfl (lv_at hl 1 rfl) ?_
  refine cg_bea_told hx hb hts hown hK hP uw_2_167 dX0_shows_12 ?_
  refine cg_told_shows hx hb hts hown hK hP uw_1_214 dX0_shows_15 ?_
  refine lv_iload hx hb dX0_shows_18 (lv_at hl 5 rfl) ?_
  refine lv_iload hx hb dX0_shows_20 (lv_at hl 0 rfl) ?_
  refine lv_iload_n hx hb dX0_shows_22 rfl (lv_at hl 4 rfl) ?_
  refine lv_aload_n hx hb dX0_shows_23 rfl (lv_at hl 1 rfl) ?_
  refine cg_bea_told hx hb hts hown hK hP uw_2_167 dX0_shows_24 ?_
  refine cg_told_births hx hb hts hown hK hP uw_1_209 dX0_shows_27 ?_
  refine lv_iload_n hx hb dX0_shows_30 rfl (lv_at hl 3 rfl) ?_
  refine cl_told_births hx hb hK hP dX0_shows_31 (by omega) b_B_told_births (fun z_3 _ hz_3 => ?_)
  refine lv_aload_n hx hb dX0_shows_32 rfl (lv_at hl 2 rfl) ?_
  refine cg_past_seasons (i := i0) (by omega) hx hb hts hown hK hP uw_2_94 dX0_shows_33 b_Ps (fun z_4 _ hz_4 => ?_)
  refine lv_iload hx hb dX0_shows_36 (lv_at hl 6 rfl) ?_
  refine sy_iadd hx hb dX0_shows_38 (z_4 + p4) rfl ?_
  refine sy_any (fun z_5 hz_5 => ?_)
  refine g_i (cDt hD) hS hA (g_V (own := "HideReader$Beasts") (As := [.int (mI p3), .int (mI r_2), .int (mI p2), .int (mI z_3), .int (mI z_5)]) (rest := []) hx hb hml hown hts hK hP (cDt hD) (kc_X2_holds_tfo (l := l) (D := D) (k := k) (by omega) (by omega) (by omega) (by omega) (by omega) h_x_tfo_steps b_B_tfo_kinds b_B_tfo_numbers b_B_tfo_stack b_B_tfo_facts) ck_X2_holds iv_X2_holds uw_4_145 (cv_tfo hK hP) rfl hl.1 rfl (Nat.le_of_ble_eq_true rfl) dX0_shows_39 ⟨Nat.le_of_ble_eq_true rfl, Nat.le_of_ble_eq_true rfl⟩ ⟨Nat.le_of_ble_eq_true rfl, Nat.le_of_ble_eq_true rfl⟩) (fun r_6 H locs hQ hS => ?_)
  obtain ⟨F_7, F_8, hr_6_0, bF_7, bF_8, hP⟩ := hQ
  exact r_z hx hb hr hlocks dX0_shows_42 hS (by omega) ⟨F_7, F_8, by omega, bF_7, bF_8, hP⟩
set_option maxHeartbeats 4000000 in
set_option maxRecDepth 100000 in
theorem kc_X0_showing {p1 p2 : Int} {i0 : Nat} (hi0 : i0 < 44) (hp1 : 0 ≤ p1 ∧ p1 ≤ 7) (hp2 : 0 ≤ p2 ∧ p2 ≤ 60) (h_x_tfo_steps : 0 ≤ x_tfo_steps ∧ x_tfo_steps ≤ 270) (b_B_told_births : bd (-2147483648) 2147483647 B_told_births) (b_B_tfo_kinds : bd (-2147483648) 2147483647 B_tfo_kinds) (b_B_tfo_numbers : bd (-2147483648) 2147483647 B_tfo_numbers) (b_B_tfo_stack : bd (-2147483648) 2147483647 B_tfo_stack) (b_B_tfo_facts : bd (-2147483648) 2147483647 B_tfo_facts) (b_Ps : bd (-2147483648) 2147483647 Ps) (b_Ph : pb (0) 4095 Ph) (b_Pg : pb (-2147483648) 2147483647 Pg) : MetG l D k yX0_showing cX0_showing 7 (some .int) 4 [.ref (a 49), .ref (q (4 * i0)), .int (mI p1), .int (mI p2)] (cW k a q x_xo_lyingCount x_tape_length x_tape_next x_tape_kind x_tape_place x_tape_number x_tape_faultKind x_tape_faultPlace x_told_turns x_told_mirror x_told_night x_told_draw x_told_herds x_told_irons x_told_beasts x_told_linesTold x_tfo_steps x_tfo_units x_draft_turns x_draft_mirror x_draft_night x_draft_draw x_draft_herds x_draft_irons x_draft_beasts x_draft_linesTold x_dfo_steps x_dfo_units x_lat_placements x_smi_irons x_smi_aim x_his_here x_his_undoable x_his_redoable x_book_placedCount x_wit_count x_wit_time n_tape_name B_xo_lying B_tape_bytes B_told_brands B_told_ironMarks B_told_homes B_told_births B_tfo_kinds B_tfo_numbers B_tfo_stack B_tfo_facts B_draft_brands B_draft_ironMarks B_draft_homes B_draft_births B_dfo_kinds B_dfo_numbers B_dfo_stack B_dfo_facts B_lat_lowHalves B_lat_highHalves B_lat_ways B_smi_placedIrons B_smi_within B_smi_costs B_his_isKept B_book_norms B_book_above B_book_heights B_book_placedBrands B_bea_firstGains B_bea_otherGains B_wit_burnings B_wit_strokes B_wit_wasOn B_wit_toldAt B_wit_untoldAt B_wit_on B_wit_off B_wit_firstCounts B_wit_secondCounts Ps Pd G_tape_wordNames G_told_herdNames G_told_ironNames G_told_beastNames G_draft_herdNames G_draft_ironNames G_draft_beastNames Ph Po Pg ex) (qGi (fun r0 H => ∃ (F_tfo_stack : Nat → Int) (F_tfo_facts : Nat → Int), (0 ≤ r0 ∧ r0 ≤ 4095) ∧ (bd (-2147483648) 2147483647 F_tfo_stack) ∧ (bd (-2147483648) 2147483647 F_tfo_facts) ∧ va_P D vwCl (cW k a q x_xo_lyingCount x_tape_length x_tape_next x_tape_kind x_tape_place x_tape_number x_tape_faultKind x_tape_faultPlace x_told_turns x_told_mirror x_told_night x_told_draw x_told_herds x_told_irons x_told_beasts x_told_linesTold x_tfo_steps x_tfo_units x_draft_turns x_draft_mirror x_draft_night x_draft_draw x_draft_herds x_draft_irons x_draft_beasts x_draft_linesTold x_dfo_steps x_dfo_units x_lat_placements x_smi_irons x_smi_aim x_his_here x_his_undoable x_his_redoable x_book_placedCount x_wit_count x_wit_time n_tape_name B_xo_lying B_tape_bytes B_told_brands B_told_ironMarks B_told_homes B_told_births B_tfo_kinds B_tfo_numbers F_tfo_stack F_tfo_facts B_draft_brands B_draft_ironMarks B_draft_homes B_draft_births B_dfo_kinds B_dfo_numbers B_dfo_stack B_dfo_facts B_lat_lowHalves B_lat_highHalves B_lat_ways B_smi_placedIrons B_smi_within B_smi_costs B_his_isKept B_book_norms B_book_above B_book_heights B_book_placedBrands B_bea_firstGains B_bea_otherGains B_wit_burnings B_wit_strokes B_wit_wasOn B_wit_toldAt B_wit_untoldAt B_wit_on B_wit_off B_wit_firstCounts B_wit_secondCounts Ps Pd G_tape_wordNames G_told_herdNames G_told_ironNames G_told_beastNames G_draft_herdNames G_draft_ironNames G_draft_beastNames Ph Po Pg ex) H)) := by
  refine metG_of 3 ck_X0_showing (Nat.le_of_ble_eq_true rfl) cMap (fun p e s m args below meth c A hx hb hml hr hlocks hown hts hK hD hA hP hS ls hl => ?_)
  have hown : s.vm.findClass "HideReader$Beasts" = some m.cls := hown
  have hl : lv_has ls 7 [(0, .ref (a 49)), (1, .ref (q (4 * i0))), (2, .int (mI p1)), (3, .int (mI p2))] := hl
  refine lv_iconst (v := mI 0) hx hb dX0_showing_0 rfl ?_
  refine lv_istore (lv' := [(4, .int (mI 0)), (0, .ref (a 49)), (1, .ref (q (4 * i0))), (2, .int (mI p1)), (3, .int (mI p2))]) hx hb dX0_showing_1 hl (by decide) rfl (fun ls hl => ?_)
  refine lv_iconst (v := mI 0) hx hb dX0_showing_3 rfl ?_
  refine lv_istore (lv' := [(5, .int (mI 0)), (4, .int (mI 0)), (0, .ref (a 49)), (1, .ref (q (4 * i0))), (2, .int (mI p1)), (3, .int (mI p2))]) hx hb dX0_showing_4 hl (by decide) rfl (fun ls hl => ?_)
  refine sy_loop (I := fun n H locs g => ∃ (z_516 : Int) (z_517 : Int) (F_518 : Nat → Int) (F_519 : Nat → Int) (ls : Array Slot), (0 ≤ z_516 ∧ z_516 ≤ 12) ∧ (0 ≤ z_517 ∧ z_517 ≤ 4095) ∧ (bd (-2147483648) 2147483647 F_518) ∧ (bd (-2147483648) 2147483647 F_519) ∧ (12 - z_516).toNat = n ∧ va_P D vwCl (cW k a q x_xo_lyingCount x_tape_length x_tape_next x_tape_kind x_tape_place x_tape_number x_tape_faultKind x_tape_faultPlace x_told_turns x_told_mirror x_told_night x_told_draw x_told_herds x_told_irons x_told_beasts x_told_linesTold x_tfo_steps x_tfo_units x_draft_turns x_draft_mirror x_draft_night x_draft_draw x_draft_herds x_draft_irons x_draft_beasts x_draft_linesTold x_dfo_steps x_dfo_units x_lat_placements x_smi_irons x_smi_aim x_his_here x_his_undoable x_his_redoable x_book_placedCount x_wit_count x_wit_time n_tape_name B_xo_lying B_tape_bytes B_told_brands B_told_ironMarks B_told_homes B_told_births B_tfo_kinds B_tfo_numbers F_518 F_519 B_draft_brands B_draft_ironMarks B_draft_homes B_draft_births B_dfo_kinds B_dfo_numbers B_dfo_stack B_dfo_facts B_lat_lowHalves B_lat_highHalves B_lat_ways B_smi_placedIrons B_smi_within B_smi_costs B_his_isKept B_book_norms B_book_above B_book_heights B_book_placedBrands B_bea_firstGains B_bea_otherGains B_wit_burnings B_wit_strokes B_wit_wasOn B_wit_toldAt B_wit_untoldAt B_wit_on B_wit_off B_wit_firstCounts B_wit_secondCounts Ps Pd G_tape_wordNames G_told_herdNames G_told_ironNames G_told_beastNames G_draft_herdNames G_draft_ironNames G_draft_beastNames Ph Po Pg ex) H ∧ va_S A s.heap H locs ∧ lv_has ls 7 [(5, .int (mI z_516)), (4, .int (mI z_517)), (0, .ref (a 49)), (1, .ref (q (4 * i0))), (2, .int (mI p1)), (3, .int (mI p2))] ∧ g = F0 m 6 ls []) ?_ _ ⟨0, 0, B_tfo_stack, B_tfo_facts, _, by omega, by omega, b_B_tfo_stack, b_B_tfo_facts, rfl, hP, hS, lv_sub hl [0, 1, 2, 3, 4, 5] rfl, rfl⟩
  intro n_531 H locs g hI ih_532
  obtain ⟨z_516, z_517, F_518, F_519, ls, h6_0, h6_1, bF_518, bF_519, mn_531, hP, hS, hl, rfl⟩ := hI
  refine lv_iload hx hb dX0_showing_6 (lv_at hl 0 rfl) ?_
  refine lv_bipush (v := mI 12) hx hb dX0_showing_8 (by decide) ?_
  refine sy_icmp_ge (tgt := 65) hx hb dX0_showing_10 (by decide) (by omega) (by decide) (fun c_533 => ?_) (fun c_533 => ?_)
  · skip
    refine lv_iload hx hb dX0_showing_65 (lv_at hl 1 rfl) ?_
    exact r_i hx hb hr hlocks dX0_showing_67 hS ⟨F_518, F_519, by omega, bF_518, bF_519, hP⟩
  · skip
    refine lv_aload_n hx hb dX0_showing_13 rfl (lv_at hl 3 rfl) ?_
    refine lv_iload_n hx hb dX0_showing_14 rfl (lv_at hl 4 rfl) ?_
    refine lv_iload hx hb dX0_showing_15 (lv_at hl 0 rfl) ?_
    refine g_i (cDt hD) hS hA (g_V (own := "HideReader$Beasts") (As := [.int (mI p1), .int (mI z_516)]) (rest := []) hx hb hml hown hts hK hP (cDt hD) (kc_X5_ageOf (l := l) (D := D) (k := k) (iR := i0) (by omega) (by omega) (by omega) b_Ph b_Pg) ck_X5_ageOf iv_X5_ageOf uw_4_130 (cv_past (i := i0) (by omega) hK hP) rfl hl.1 rfl (Nat.le_of_ble_eq_true rfl) dX0_showing_17 ⟨Nat.le_of_ble_eq_true rfl, Nat.le_of_ble_eq_true rfl⟩ ⟨Nat.le_of_ble_eq_true rfl, Nat.le_of_ble_eq_true rfl⟩) (fun r_534 H locs hQ hS => ?_)
    obtain ⟨hr_534_0, hP⟩ := hQ
    refine lv_istore (lv' := [(6, .int (mI r_534)), (5, .int (mI z_516)), (4, .int (mI z_517)), (0, .ref (a 49)), (1, .ref (q (4 * i0))), (2, .int (mI p1)), (3, .int (mI p2))]) hx hb dX0_showing_20 hl (by decide) rfl (fun ls hl => ?_)
    refine lv_iload hx hb dX0_showing_22 (lv_at hl 0 rfl) ?_
    refine lv_iconst (v := mI (-1)) hx hb dX0_showing_24 rfl ?_
    refine sy_icmp_eq (tgt := 59) hx hb dX0_showing_25 (by decide) (by omega) (by decide) (fun c_535 => ?_) (fun c_535 => ?_)
    · skip
      refine lv_iinc (v := mI (z_516 + 1)) (lv' := [(5, .int (mI (z_516 + 1))), (6, .int (mI r_534)), (4, .int (mI z_517)), (0, .ref (a 49)), (1, .ref (q (4 * i0))), (2, .int (mI p1)), (3, .int (mI p2))]) hx hb dX0_showing_59 hl (k := 1) rfl (mI_ad rfl) (by decide) rfl (fun ls hl => ?_)
      refine lv_goto (tgt := 6) hx hb dX0_showing_62 (by decide) ?_
      exact ih_532 _ _ _ _ (by omega) ⟨(z_516 + 1), z_517, F_518, F_519, _, by omega, by omega, bF_518, bF_519, rfl, hP, hS, lv_sub hl [0, 2, 3, 4, 5, 6] rfl, rfl⟩
    · skip
      refine lv_aload_n hx hb dX0_showing_28 rfl (lv_at hl 3 rfl) ?_
      refine lv_aload_n hx hb dX0_showing_29 rfl (lv_at hl 4 rfl) ?_
      refine lv_iload_n hx hb dX0_showing_30 rfl (lv_at hl 5 rfl) ?_
      refine lv_iload hx hb dX0_showing_31 (lv_at hl 1 rfl) ?_
      refine lv_iload hx hb dX0_showing_33 (lv_at hl 0 rfl) ?_
      refine lv_iload_n hx hb dX0_showing_35 rfl (lv_at hl 6 rfl) ?_
      refine sy_iadd hx hb dX0_showing_36 (r_534 + p2) rfl ?_
      refine sy_any (fun z_536 hz_536 => ?_)
      refine lv_sipush (v := mI 999) hx hb dX0_showing_37 (by decide) ?_
      refine sy_min hx hb (hml.trans hl.1.symm) hown hts uw_4_134 (Nat.le_of_ble_eq_true rfl) (Nat.le_of_ble_eq_true rfl) (Nat.le_of_ble_eq_true rfl) (Nat.le_of_ble_eq_true rfl) dX0_showing_40 (by omega) (by decide) (fun z_537 hz_537 => ?_)
      refine lv_iload_n hx hb dX0_showing_43 rfl (lv_at hl 6 rfl) ?_
      refine g_i (cDt hD) hS hA (g_V (own := "HideReader$Beasts") (As := [.ref (q (4 * i0)), .int (mI p1), .int (mI z_516), .int (mI z_537), .int (mI p2)]) (rest := []) hx hb hml hown hts hK hP (cDt hD) (kc_X0_shows (l := l) (D := D) (k := k) (i0 := i0) (by omega) (by omega) (by omega) (by omega) (by omega) h_x_tfo_steps b_B_told_births b_B_tfo_kinds b_B_tfo_numbers bF_518 bF_519 b_Ps b_Ph) ck_X0_shows iv_X0_shows uw_4_135 (cv_bea hK hP) rfl hl.1 rfl (Nat.le_of_ble_eq_true rfl) dX0_showing_44 ⟨Nat.le_of_ble_eq_true rfl, Nat.le_of_ble_eq_true rfl⟩ ⟨Nat.le_of_ble_eq_true rfl, Nat.le_of_ble_eq_true rfl⟩) (fun r_538 H locs hQ hS => ?_)
      obtain ⟨F_539, F_540, hr_538_0, bF_539, bF_540, hP⟩ := hQ
      refine sy_if_eq (tgt := 59) hx hb dX0_showing_47 (by decide) (by omega) (fun c_541 => ?_) (fun c_541 => ?_)
      · skip
        refine lv_iinc (v := mI (z_516 + 1)) (lv' := [(5, .int (mI (z_516 + 1))), (6, .int (mI r_534)), (4, .int (mI z_517)), (0, .ref (a 49)), (1, .ref (q (4 * i0))), (2, .int (mI p1)), (3, .int (mI p2))]) hx hb dX0_showing_59 hl (k := 1) rfl (mI_ad rfl) (by decide) rfl (fun ls hl => ?_)
        refine lv_goto (tgt := 6) hx hb dX0_showing_62 (by decide) ?_
        exact ih_532 _ _ _ _ (by omega) ⟨(z_516 + 1), z_517, F_539, F_540, _, by omega, by omega, bF_539, bF_540, rfl, hP, hS, lv_sub hl [0, 2, 3, 4, 5, 6] rfl, rfl⟩
      · skip
        refine lv_iload hx hb dX0_showing_50 (lv_at hl 2 rfl) ?_
        refine lv_iconst (v := mI 1) hx hb dX0_showing_52 rfl ?_
        refine lv_iload hx hb dX0_showing_53 (lv_at hl 1 rfl) ?_
        refine sy_shl1 hx hb dX0_showing_55 11 (by decide) 2048 (by decide) (by omega) (fun z_542 ez_542 hz_542 => ?_)
        refine sy_ior hx hb dX0_showing_56 12 (by decide) 4096 (by decide) (by omega) (by omega) (fun z_543 hz_543 => ?_)
        refine lv_istore (lv' := [(4, .int (mI z_543)), (6, .int (mI r_534)), (5, .int (mI z_516)), (0, .ref (a 49)), (1, .ref (q (4 * i0))), (2, .int (mI p1)), (3, .int (mI p2))]) hx hb dX0_showing_57 hl (by decide) rfl (fun ls hl => ?_)
        refine lv_iinc (v := mI (z_516 + 1)) (lv' := [(5, .int (mI (z_516 + 1))), (4, .int (mI z_543)), (6, .int (mI r_534)), (0, .ref (a 49)), (1, .ref (q (4 * i0))), (2, .int (mI p1)), (3, .int (mI p2))]) hx hb dX0_showing_59 hl (k := 2) rfl (mI_ad rfl) (by decide) rfl (fun ls hl => ?_)
        refine lv_goto (tgt := 6) hx hb dX0_showing_62 (by decide) ?_
        exact ih_532 _ _ _ _ (by omega) ⟨(z_516 + 1), z_543, F_539, F_540, _, by omega, by omega, bF_539, bF_540, rfl, hP, hS, lv_sub hl [0, 1, 3, 4, 5, 6] rfl, rfl⟩
set_option maxHeartbeats 4000000 in
set_option maxRecDepth 100000 in
theorem kc_X0_showingBehind {p1 : Int} {i0 : Nat} (hi0 : i0 < 44) (hp1 : 0 ≤ p1 ∧ p1 ≤ 60) (h_x_told_beasts : 0 ≤ x_told_beasts ∧ x_told_beasts ≤ 8) (h_x_tfo_steps : 0 ≤ x_tfo_steps ∧ x_tfo_steps ≤ 270) (b_B_told_births : bd (-2147483648) 2147483647 B_told_births) (b_B_tfo_kinds : bd (-2147483648) 2147483647 B_tfo_kinds) (b_B_tfo_numbers : bd (-2147483648) 2147483647 B_tfo_numbers) (b_B_tfo_stack : bd (-2147483648) 2147483647 B_tfo_stack) (b_B_tfo_facts : bd (-2147483648) 2147483647 B_tfo_facts) (b_Ps : bd (-2147483648) 2147483647 Ps) (b_Ph : pb (0) 4095 Ph) (b_Pg : pb (-2147483648) 2147483647 Pg) : MetG l D k yX0_showingBehind cX0_showingBehind 5 (some .int) 5 [.ref (a 49), .ref (q (4 * i0)), .int (mI p1)] (cW k a q x_xo_lyingCount x_tape_length x_tape_next x_tape_kind x_tape_place x_tape_number x_tape_faultKind x_tape_faultPlace x_told_turns x_told_mirror x_told_night x_told_draw x_told_herds x_told_irons x_told_beasts x_told_linesTold x_tfo_steps x_tfo_units x_draft_turns x_draft_mirror x_draft_night x_draft_draw x_draft_herds x_draft_irons x_draft_beasts x_draft_linesTold x_dfo_steps x_dfo_units x_lat_placements x_smi_irons x_smi_aim x_his_here x_his_undoable x_his_redoable x_book_placedCount x_wit_count x_wit_time n_tape_name B_xo_lying B_tape_bytes B_told_brands B_told_ironMarks B_told_homes B_told_births B_tfo_kinds B_tfo_numbers B_tfo_stack B_tfo_facts B_draft_brands B_draft_ironMarks B_draft_homes B_draft_births B_dfo_kinds B_dfo_numbers B_dfo_stack B_dfo_facts B_lat_lowHalves B_lat_highHalves B_lat_ways B_smi_placedIrons B_smi_within B_smi_costs B_his_isKept B_book_norms B_book_above B_book_heights B_book_placedBrands B_bea_firstGains B_bea_otherGains B_wit_burnings B_wit_strokes B_wit_wasOn B_wit_toldAt B_wit_untoldAt B_wit_on B_wit_off B_wit_firstCounts B_wit_secondCounts Ps Pd G_tape_wordNames G_told_herdNames G_told_ironNames G_told_beastNames G_draft_herdNames G_draft_ironNames G_draft_beastNames Ph Po Pg ex) (qGi (fun r0 H => ∃ (F_tfo_stack : Nat → Int) (F_tfo_facts : Nat → Int), (-2147483648 ≤ r0 ∧ r0 ≤ 2147483647) ∧ (bd (-2147483648) 2147483647 F_tfo_stack) ∧ (bd (-2147483648) 2147483647 F_tfo_facts) ∧ va_P D vwCl (cW k a q x_xo_lyingCount x_tape_length x_tape_next x_tape_kind x_tape_place x_tape_number x_tape_faultKind x_tape_faultPlace x_told_turns x_told_mirror x_told_night x_told_draw x_told_herds x_told_irons x_told_beasts x_told_linesTold x_tfo_steps x_tfo_units x_draft_turns x_draft_mirror x_draft_night x_draft_draw x_draft_herds x_draft_irons x_draft_beasts x_draft_linesTold x_dfo_steps x_dfo_units x_lat_placements x_smi_irons x_smi_aim x_his_here x_his_undoable x_his_redoable x_book_placedCount x_wit_count x_wit_time n_tape_name B_xo_lying B_tape_bytes B_told_brands B_told_ironMarks B_told_homes B_told_births B_tfo_kinds B_tfo_numbers F_tfo_stack F_tfo_facts B_draft_brands B_draft_ironMarks B_draft_homes B_draft_births B_dfo_kinds B_dfo_numbers B_dfo_stack B_dfo_facts B_lat_lowHalves B_lat_highHalves B_lat_ways B_smi_placedIrons B_smi_within B_smi_costs B_his_isKept B_book_norms B_book_above B_book_heights B_book_placedBrands B_bea_firstGains B_bea_otherGains B_wit_burnings B_wit_strokes B_wit_wasOn B_wit_toldAt B_wit_untoldAt B_wit_on B_wit_off B_wit_firstCounts B_wit_secondCounts Ps Pd G_tape_wordNames G_told_herdNames G_told_ironNames G_told_beastNames G_draft_herdNames G_draft_ironNames G_draft_beastNames Ph Po Pg ex) H)) := by
  refine metG_of 2 ck_X0_showingBehind (Nat.le_of_ble_eq_true rfl) cMap (fun p e s m args below meth c A hx hb hml hr hlocks hown hts hK hD hA hP hS ls hl => ?_)
  have hown : s.vm.findClass "HideReader$Beasts" = some m.cls := hown
  have hl : lv_has ls 5 [(0, .ref (a 49)), (1, .ref (q (4 * i0))), (2, .int (mI p1))] := hl
  refine lv_iconst (v := mI 0) hx hb dX0_showingBehind_0 rfl ?_
  refine lv_istore_n (lv' := [(3, .int (mI 0)), (0, .ref (a 49)), (1, .ref (q (4 * i0))), (2, .int (mI p1))]) hx hb dX0_showingBehind_1 rfl hl (by decide) rfl (fun ls hl => ?_)
  refine lv_iconst (v := mI 0) hx hb dX0_showingBehind_2 rfl ?_
  refine lv_istore (lv' := [(4, .int (mI 0)), (3, .int (mI 0)), (0, .ref (a 49)), (1, .ref (q (4 * i0))), (2, .int (mI p1))]) hx hb dX0_showingBehind_3 hl (by decide) rfl (fun ls hl => ?_)
  refine sy_loop (I := fun n H locs g => ∃ (z_400 : Int) (z_401 : Int) (F_402 : Nat → Int) (F_403 : Nat → Int) (ls : Array Slot), (0 ≤ z_400 ∧ z_400 ≤ 8) ∧ (-2147483648 ≤ z_401 ∧ z_401 ≤ 2147483647) ∧ (bd (-2147483648) 2147483647 F_402) ∧ (bd (-2147483648) 2147483647 F_403) ∧ (8 - z_400).toNat = n ∧ va_P D vwCl (cW k a q x_xo_lyingCount x_tape_length x_tape_next x_tape_kind x_tape_place x_tape_number x_tape_faultKind x_tape_faultPlace x_told_turns x_told_mirror x_told_night x_told_draw x_told_herds x_told_irons x_told_beasts x_told_linesTold x_tfo_steps x_tfo_units x_draft_turns x_draft_mirror x_draft_night x_draft_draw x_draft_herds x_draft_irons x_draft_beasts x_draft_linesTold x_dfo_steps x_dfo_units x_lat_placements x_smi_irons x_smi_aim x_his_here x_his_undoable x_his_redoable x_book_placedCount x_wit_count x_wit_time n_tape_name B_xo_lying B_tape_bytes B_told_brands B_told_ironMarks B_told_homes B_told_births B_tfo_kinds B_tfo_numbers F_402 F_403 B_draft_brands B_draft_ironMarks B_draft_homes B_draft_births B_dfo_kinds B_dfo_numbers B_dfo_stack B_dfo_facts B_lat_lowHalves B_lat_highHalves B_lat_ways B_smi_placedIrons B_smi_within B_smi_costs B_his_isKept B_book_norms B_book_above B_book_heights B_book_placedBrands B_bea_firstGains B_bea_otherGains B_wit_burnings B_wit_strokes B_wit_wasOn B_wit_toldAt B_wit_untoldAt B_wit_on B_wit_off B_wit_firstCounts B_wit_secondCounts Ps Pd G_tape_wordNames G_told_herdNames G_told_ironNames G_told_beastNames G_draft_herdNames G_draft_ironNames G_draft_beastNames Ph Po Pg ex) H ∧ va_S A s.heap H locs ∧ lv_has ls 5 [(4, .int (mI z_400)), (3, .int (mI z_401)), (0, .ref (a 49)), (1, .ref (q (4 * i0))), (2, .int (mI p1))] ∧ g = F0 m 5 ls []) ?_ _ ⟨0, 0, B_tfo_stack, B_tfo_facts, _, by omega, by omega, b_B_tfo_stack, b_B_tfo_facts, rfl, hP, hS, lv_sub hl [0, 1, 2, 3, 4] rfl, rfl⟩
  intro n_410 H locs g hI ih_411
  obtain ⟨z_400, z_401, F_402, F_403, ls, h5_0, h5_1, bF_402, bF_403, mn_410, hP, hS, hl, rfl⟩ := hI
  refine lv_iload hx hb dX0_showingBehind_5 (lv_at hl 0 rfl) ?_
  refine lv_aload_n hx hb dX0_showingBehind_7 rfl (lv_at hl 2 rfl) ?_
  refine cg_bea_told hx hb hts hown hK hP uw_2_167 dX0_showingBehind_8 ?_
  refine cg_told_beasts hx hb hts hown hK hP uw_1_180 dX0_showingBehind_11 ?_
  refine sy_icmp_ge (tgt := 37) hx hb dX0_showingBehind_14 (by decide) (by omega) (by omega) (fun c_412 => ?_) (fun c_412 => ?_)
  · skip
    refine lv_iload_n hx hb dX0_showingBehind_37 rfl (lv_at hl 1 rfl) ?_
    exact r_i hx hb hr hlocks dX0_showingBehind_38 hS ⟨F_402, F_403, by omega, bF_402, bF_403, hP⟩
  · skip
    refine lv_iload_n hx hb dX0_showingBehind_17 rfl (lv_at hl 1 rfl) ?_
    refine lv_aload_n hx hb dX0_showingBehind_18 rfl (lv_at hl 2 rfl) ?_
    refine lv_aload_n hx hb dX0_showingBehind_19 rfl (lv_at hl 3 rfl) ?_
    refine lv_iload hx hb dX0_showingBehind_20 (lv_at hl 0 rfl) ?_
    refine lv_iload_n hx hb dX0_showingBehind_22 rfl (lv_at hl 4 rfl) ?_
    refine g_i (cDt hD) hS hA (g_V (own := "HideReader$Beasts") (As := [.ref (q (4 * i0)), .int (mI z_400), .int (mI p1)]) (rest := [.int (mI z_401)]) hx hb hml hown hts hK hP (cDt hD) (kc_X0_showing (l := l) (D := D) (k := k) (i0 := i0) (by omega) (by omega) (by omega) h_x_tfo_steps b_B_told_births b_B_tfo_kinds b_B_tfo_numbers bF_402 bF_403 b_Ps b_Ph b_Pg) ck_X0_showing iv_X0_showing uw_5_113 (cv_bea hK hP) rfl hl.1 rfl (Nat.le_of_ble_eq_true rfl) dX0_showingBehind_23 ⟨Nat.le_of_ble_eq_true rfl, Nat.le_of_ble_eq_true rfl⟩ ⟨Nat.le_of_ble_eq_true rfl, Nat.le_of_ble_eq_true rfl⟩) (fun r_413 H locs hQ hS => ?_)
    obtain ⟨F_414, F_415, hr_413_0, bF_414, bF_415, hP⟩ := hQ
    refine g_i (cDt hD) hS hA (g_S (own := "HideReader$Beasts") (As := [.int (mI r_413)]) (rest := [.int (mI z_401)]) hx hb hml hown hts hK hP (cDt hD) (kc_bitCount (l := l) (D := D) (k := k) (by omega)) ck_J6_bitCount_0f7a4 uw_4_140 uw_4_139 rfl hl.1 rfl (Nat.le_of_ble_eq_true rfl) dX0_showingBehind_26 ⟨Nat.le_of_ble_eq_true rfl, Nat.le_of_ble_eq_true rfl⟩ ⟨Nat.le_of_ble_eq_true rfl, Nat.le_of_ble_eq_true rfl⟩) (fun r_416 H locs hQ hS => ?_)
    obtain ⟨hr_416_0, hP⟩ := hQ
    refine sy_iadd hx hb dX0_showingBehind_29 (z_401 + r_416) rfl ?_
    refine sy_any (fun z_417 hz_417 => ?_)
    refine lv_istore_n (lv' := [(3, .int (mI z_417)), (4, .int (mI z_400)), (0, .ref (a 49)), (1, .ref (q (4 * i0))), (2, .int (mI p1))]) hx hb dX0_showingBehind_30 rfl hl (by decide) rfl (fun ls hl => ?_)
    refine lv_iinc (v := mI (z_400 + 1)) (lv' := [(4, .int (mI (z_400 + 1))), (3, .int (mI z_417)), (0, .ref (a 49)), (1, .ref (q (4 * i0))), (2, .int (mI p1))]) hx hb dX0_showingBehind_31 hl (k := 1) rfl (mI_ad rfl) (by decide) rfl (fun ls hl => ?_)
    refine lv_goto (tgt := 5) hx hb dX0_showingBehind_34 (by decide) ?_
    exact ih_411 _ _ _ _ (by omega) ⟨(z_400 + 1), z_417, F_414, F_415, _, by omega, by omega, bF_414, bF_415, rfl, hP, hS, lv_sub hl [0, 1, 2, 3, 4] rfl, rfl⟩
set_option maxHeartbeats 4000000 in
set_option maxRecDepth 100000 in
theorem kc_X0_showingAtAge {p1 : Int} {i0 : Nat} (hi0 : i0 < 44) (hp1 : -2147483648 ≤ p1 ∧ p1 ≤ 2147483647) (h_x_told_beasts : 0 ≤ x_told_beasts ∧ x_told_beasts ≤ 8) (h_x_tfo_steps : 0 ≤ x_tfo_steps ∧ x_tfo_steps ≤ 270) (b_B_told_births : bd (-2147483648) 2147483647 B_told_births) (b_B_tfo_kinds : bd (-2147483648) 2147483647 B_tfo_kinds) (b_B_tfo_numbers : bd (-2147483648) 2147483647 B_tfo_numbers) (b_B_tfo_stack : bd (-2147483648) 2147483647 B_tfo_stack) (b_B_tfo_facts : bd (-2147483648) 2147483647 B_tfo_facts) (b_Ps : bd (-2147483648) 2147483647 Ps) (b_Ph : pb (0) 4095 Ph) : MetG l D k yX0_showingAtAge cX0_showingAtAge 7 (some .int) 4 [.ref (a 49), .ref (q (4 * i0)), .int (mI p1)] (cW k a q x_xo_lyingCount x_tape_length x_tape_next x_tape_kind x_tape_place x_tape_number x_tape_faultKind x_tape_faultPlace x_told_turns x_told_mirror x_told_night x_told_draw x_told_herds x_told_irons x_told_beasts x_told_linesTold x_tfo_steps x_tfo_units x_draft_turns x_draft_mirror x_draft_night x_draft_draw x_draft_herds x_draft_irons x_draft_beasts x_draft_linesTold x_dfo_steps x_dfo_units x_lat_placements x_smi_irons x_smi_aim x_his_here x_his_undoable x_his_redoable x_book_placedCount x_wit_count x_wit_time n_tape_name B_xo_lying B_tape_bytes B_told_brands B_told_ironMarks B_told_homes B_told_births B_tfo_kinds B_tfo_numbers B_tfo_stack B_tfo_facts B_draft_brands B_draft_ironMarks B_draft_homes B_draft_births B_dfo_kinds B_dfo_numbers B_dfo_stack B_dfo_facts B_lat_lowHalves B_lat_highHalves B_lat_ways B_smi_placedIrons B_smi_within B_smi_costs B_his_isKept B_book_norms B_book_above B_book_heights B_book_placedBrands B_bea_firstGains B_bea_otherGains B_wit_burnings B_wit_strokes B_wit_wasOn B_wit_toldAt B_wit_untoldAt B_wit_on B_wit_off B_wit_firstCounts B_wit_secondCounts Ps Pd G_tape_wordNames G_told_herdNames G_told_ironNames G_told_beastNames G_draft_herdNames G_draft_ironNames G_draft_beastNames Ph Po Pg ex) (qGi (fun r0 H => ∃ (F_tfo_stack : Nat → Int) (F_tfo_facts : Nat → Int), (-2147483648 ≤ r0 ∧ r0 ≤ 2147483647) ∧ (bd (-2147483648) 2147483647 F_tfo_stack) ∧ (bd (-2147483648) 2147483647 F_tfo_facts) ∧ va_P D vwCl (cW k a q x_xo_lyingCount x_tape_length x_tape_next x_tape_kind x_tape_place x_tape_number x_tape_faultKind x_tape_faultPlace x_told_turns x_told_mirror x_told_night x_told_draw x_told_herds x_told_irons x_told_beasts x_told_linesTold x_tfo_steps x_tfo_units x_draft_turns x_draft_mirror x_draft_night x_draft_draw x_draft_herds x_draft_irons x_draft_beasts x_draft_linesTold x_dfo_steps x_dfo_units x_lat_placements x_smi_irons x_smi_aim x_his_here x_his_undoable x_his_redoable x_book_placedCount x_wit_count x_wit_time n_tape_name B_xo_lying B_tape_bytes B_told_brands B_told_ironMarks B_told_homes B_told_births B_tfo_kinds B_tfo_numbers F_tfo_stack F_tfo_facts B_draft_brands B_draft_ironMarks B_draft_homes B_draft_births B_dfo_kinds B_dfo_numbers B_dfo_stack B_dfo_facts B_lat_lowHalves B_lat_highHalves B_lat_ways B_smi_placedIrons B_smi_within B_smi_costs B_his_isKept B_book_norms B_book_above B_book_heights B_book_placedBrands B_bea_firstGains B_bea_otherGains B_wit_burnings B_wit_strokes B_wit_wasOn B_wit_toldAt B_wit_untoldAt B_wit_on B_wit_off B_wit_firstCounts B_wit_secondCounts Ps Pd G_tape_wordNames G_told_herdNames G_told_ironNames G_told_beastNames G_draft_herdNames G_draft_ironNames G_draft_beastNames Ph Po Pg ex) H)) := by
  refine metG_of 2 ck_X0_showingAtAge (Nat.le_of_ble_eq_true rfl) cMap (fun p e s m args below meth c A hx hb hml hr hlocks hown hts hK hD hA hP hS ls hl => ?_)
  have hown : s.vm.findClass "HideReader$Beasts" = some m.cls := hown
  have hl : lv_has ls 7 [(0, .ref (a 49)), (1, .ref (q (4 * i0))), (2, .int (mI p1))] := hl
  refine lv_iconst (v := mI 0) hx hb dX0_showingAtAge_0 rfl ?_
  refine lv_istore_n (lv' := [(3, .int (mI 0)), (0, .ref (a 49)), (1, .ref (q (4 * i0))), (2, .int (mI p1))]) hx hb dX0_showingAtAge_1 rfl hl (by decide) rfl (fun ls hl => ?_)
  refine lv_iconst (v := mI 0) hx hb dX0_showingAtAge_2 rfl ?_
  refine lv_istore (lv' := [(4, .int (mI 0)), (3, .int (mI 0)), (0, .ref (a 49)), (1, .ref (q (4 * i0))), (2, .int (mI p1))]) hx hb dX0_showingAtAge_3 hl (by decide) rfl (fun ls hl => ?_)
  refine sy_loop (I := fun n H locs g => ∃ (z_20292 : Int) (z_20293 : Int) (F_20294 : Nat → Int) (F_20295 : Nat → Int) (ls : Array Slot), (0 ≤ z_20292 ∧ z_20292 ≤ 8) ∧ (-2147483648 ≤ z_20293 ∧ z_20293 ≤ 2147483647) ∧ (bd (-2147483648) 2147483647 F_20294) ∧ (bd (-2147483648) 2147483647 F_20295) ∧ (8 - z_20292).toNat = n ∧ va_P D vwCl (cW k a q x_xo_lyingCount x_tape_length x_tape_next x_tape_kind x_tape_place x_tape_number x_tape_faultKind x_tape_faultPlace x_told_turns x_told_mirror x_told_night x_told_draw x_told_herds x_told_irons x_told_beasts x_told_linesTold x_tfo_steps x_tfo_units x_draft_turns x_draft_mirror x_draft_night x_draft_draw x_draft_herds x_draft_irons x_draft_beasts x_draft_linesTold x_dfo_steps x_dfo_units x_lat_placements x_smi_irons x_smi_aim x_his_here x_his_undoable x_his_redoable x_book_placedCount x_wit_count x_wit_time n_tape_name B_xo_lying B_tape_bytes B_told_brands B_told_ironMarks B_told_homes B_told_births B_tfo_kinds B_tfo_numbers F_20294 F_20295 B_draft_brands B_draft_ironMarks B_draft_homes B_draft_births B_dfo_kinds B_dfo_numbers B_dfo_stack B_dfo_facts B_lat_lowHalves B_lat_highHalves B_lat_ways B_smi_placedIrons B_smi_within B_smi_costs B_his_isKept B_book_norms B_book_above B_book_heights B_book_placedBrands B_bea_firstGains B_bea_otherGains B_wit_burnings B_wit_strokes B_wit_wasOn B_wit_toldAt B_wit_untoldAt B_wit_on B_wit_off B_wit_firstCounts B_wit_secondCounts Ps Pd G_tape_wordNames G_told_herdNames G_told_ironNames G_told_beastNames G_draft_herdNames G_draft_ironNames G_draft_beastNames Ph Po Pg ex) H ∧ va_S A s.heap H locs ∧ lv_has ls 7 [(4, .int (mI z_20292)), (3, .int (mI z_20293)), (0, .ref (a 49)), (1, .ref (q (4 * i0))), (2, .int (mI p1))] ∧ g = F0 m 5 ls []) ?_ _ ⟨0, 0, B_tfo_stack, B_tfo_facts, _, by omega, by omega, b_B_tfo_stack, b_B_tfo_facts, rfl, hP, hS, lv_sub hl [0, 1, 2, 3, 4] rfl, rfl⟩
  intro n_20483 H locs g hI ih_20484
  obtain ⟨z_20292, z_20293, F_20294, F_20295, ls, h5_0, h5_1, bF_20294, bF_20295, mn_20483, hP, hS, hl, rfl⟩ := hI
  refine lv_iload hx hb dX0_showingAtAge_5 (lv_at hl 0 rfl) ?_
  refine lv_aload_n hx hb dX0_showingAtAge_7 rfl (lv_at hl 2 rfl) ?_
  refine cg_bea_told hx hb hts hown hK hP uw_2_167 dX0_showingAtAge_8 ?_
  refine cg_told_beasts hx hb hts hown hK hP uw_1_180 dX0_showingAtAge_11 ?_
  refine sy_icmp_ge (tgt := 88) hx hb dX0_showingAtAge_14 (by decide) (by omega) (by omega) (fun c_20485 => ?_) (fun c_20485 => ?_)
  · skip
    refine lv_iload_n hx hb dX0_showingAtAge_88 rfl (lv_at hl 1 rfl) ?_
    exact r_i hx hb hr hlocks dX0_showingAtAge_89 hS ⟨F_20294, F_20295, by omega, bF_20294, bF_20295, hP⟩
  · skip
    refine lv_iconst (v := mI 0) hx hb dX0_showingAtAge_17 rfl ?_
    refine lv_istore (lv' := [(5, .int (mI 0)), (4, .int (mI z_20292)), (3, .int (mI z_20293)), (0, .ref (a 49)), (1, .ref (q (4 * i0))), (2, .int (mI p1))]) hx hb dX0_showingAtAge_18 hl (by decide) rfl (fun ls hl => ?_)
    refine sy_loop (I := fun n H locs g => ∃ (z_20638 : Int) (z_20639 : Int) (F_20640 : Nat → Int) (F_20641 : Nat → Int) (ls : Array Slot), (0 ≤ z_20638 ∧ z_20638 ≤ 12) ∧ (-2147483648 ≤ z_20639 ∧ z_20639 ≤ 2147483647) ∧ (bd (-2147483648) 2147483647 F_20640) ∧ (bd (-2147483648) 2147483647 F_20641) ∧ (12 - z_20638).toNat = n ∧ va_P D vwCl (cW k a q x_xo_lyingCount x_tape_length x_tape_next x_tape_kind x_tape_place x_tape_number x_tape_faultKind x_tape_faultPlace x_told_turns x_told_mirror x_told_night x_told_draw x_told_herds x_told_irons x_told_beasts x_told_linesTold x_tfo_steps x_tfo_units x_draft_turns x_draft_mirror x_draft_night x_draft_draw x_draft_herds x_draft_irons x_draft_beasts x_draft_linesTold x_dfo_steps x_dfo_units x_lat_placements x_smi_irons x_smi_aim x_his_here x_his_undoable x_his_redoable x_book_placedCount x_wit_count x_wit_time n_tape_name B_xo_lying B_tape_bytes B_told_brands B_told_ironMarks B_told_homes B_told_births B_tfo_kinds B_tfo_numbers F_20640 F_20641 B_draft_brands B_draft_ironMarks B_draft_homes B_draft_births B_dfo_kinds B_dfo_numbers B_dfo_stack B_dfo_facts B_lat_lowHalves B_lat_highHalves B_lat_ways B_smi_placedIrons B_smi_within B_smi_costs B_his_isKept B_book_norms B_book_above B_book_heights B_book_placedBrands B_bea_firstGains B_bea_otherGains B_wit_burnings B_wit_strokes B_wit_wasOn B_wit_toldAt B_wit_untoldAt B_wit_on B_wit_off B_wit_firstCounts B_wit_secondCounts Ps Pd G_tape_wordNames G_told_herdNames G_told_ironNames G_told_beastNames G_draft_herdNames G_draft_ironNames G_draft_beastNames Ph Po Pg ex) H ∧ va_S A s.heap H locs ∧ lv_has ls 7 [(5, .int (mI z_20638)), (4, .int (mI z_20292)), (3, .int (mI z_20639)), (0, .ref (a 49)), (1, .ref (q (4 * i0))), (2, .int (mI p1))] ∧ g = F0 m 20 ls []) ?_ _ ⟨0, z_20293, F_20294, F_20295, _, by omega, by omega, bF_20294, bF_20295, rfl, hP, hS, lv_sub hl [0, 1, 2, 3, 4, 5] rfl, rfl⟩
    intro n_20656 H locs g hI ih_20657
    obtain ⟨z_20638, z_20639, F_20640, F_20641, ls, h20_0, h20_1, bF_20640, bF_20641, mn_20656, hP, hS, hl, rfl⟩ := hI
    refine lv_iload hx hb dX0_showingAtAge_20 (lv_at hl 0 rfl) ?_
    refine lv_bipush (v := mI 12) hx hb dX0_showingAtAge_22 (by decide) ?_
    refine sy_icmp_ge (tgt := 82) hx hb dX0_showingAtAge_24 (by decide) (by omega) (by decide) (fun c_20658 => ?_) (fun c_20658 => ?_)
    · skip
      refine lv_iinc (v := mI (z_20292 + 1)) (lv' := [(4, .int (mI (z_20292 + 1))), (5, .int (mI z_20638)), (3, .int (mI z_20639)), (0, .ref (a 49)), (1, .ref (q (4 * i0))), (2, .int (mI p1))]) hx hb dX0_showingAtAge_82 hl (k := 1) rfl (mI_ad rfl) (by decide) rfl (fun ls hl => ?_)
      refine lv_goto (tgt := 5) hx hb dX0_showingAtAge_85 (by decide) ?_
      exact ih_20484 _ _ _ _ (by omega) ⟨(z_20292 + 1), z_20639, F_20640, F_20641, _, by omega, by omega, bF_20640, bF_20641, rfl, hP, hS, lv_sub hl [0, 2, 3, 4, 5] rfl, rfl⟩
    · skip
      refine lv_aload_n hx hb dX0_showingAtAge_27 rfl (lv_at hl 4 rfl) ?_
      refine cg_past_hides (i := i0) (by omega) hx hb hts hown hK hP uw_2_87 dX0_showingAtAge_28 ?_
      refine lv_iload hx hb dX0_showingAtAge_31 (lv_at hl 1 rfl) ?_
      refine cl_past_hides (i := i0) (by omega) hx hb hK hP dX0_showingAtAge_33 (by omega) b_Ph (fun z_20659 _ hz_20659 => ?_)
      refine lv_iconst (v := mI 1) hx hb dX0_showingAtAge_34 rfl ?_
      refine lv_iload hx hb dX0_showingAtAge_35 (lv_at hl 0 rfl) ?_
      refine sy_shl1 hx hb dX0_showingAtAge_37 11 (by decide) 2048 (by decide) (by omega) (fun z_20660 ez_20660 hz_20660 => ?_)
      refine sy_iandR hx hb dX0_showingAtAge_38 (by omega) (fun z_20661 hz_20661 => ?_)
      refine sy_join (I := fun H locs g => ∃ (z_20663 : Int) (ls : Array Slot), (0 ≤ z_20663 ∧ z_20663 ≤ 1) ∧ va_P D vwCl (cW k a q x_xo_lyingCount x_tape_length x_tape_next x_tape_kind x_tape_place x_tape_number x_tape_faultKind x_tape_faultPlace x_told_turns x_told_mirror x_told_night x_told_draw x_told_herds x_told_irons x_told_beasts x_told_linesTold x_tfo_steps x_tfo_units x_draft_turns x_draft_mirror x_draft_night x_draft_draw x_draft_herds x_draft_irons x_draft_beasts x_draft_linesTold x_dfo_steps x_dfo_units x_lat_placements x_smi_irons x_smi_aim x_his_here x_his_undoable x_his_redoable x_book_placedCount x_wit_count x_wit_time n_tape_name B_xo_lying B_tape_bytes B_told_brands B_told_ironMarks B_told_homes B_told_births B_tfo_kinds B_tfo_numbers F_20640 F_20641 B_draft_brands B_draft_ironMarks B_draft_homes B_draft_births B_dfo_kinds B_dfo_numbers B_dfo_stack B_dfo_facts B_lat_lowHalves B_lat_highHalves B_lat_ways B_smi_placedIrons B_smi_within B_smi_costs B_his_isKept B_book_norms B_book_above B_book_heights B_book_placedBrands B_bea_firstGains B_bea_otherGains B_wit_burnings B_wit_strokes B_wit_wasOn B_wit_toldAt B_wit_untoldAt B_wit_on B_wit_off B_wit_firstCounts B_wit_secondCounts Ps Pd G_tape_wordNames G_told_herdNames G_told_ironNames G_told_beastNames G_draft_herdNames G_draft_ironNames G_draft_beastNames Ph Po Pg ex) H ∧ va_S A s.heap H locs ∧ lv_has ls 7 [(5, .int (mI z_20638)), (4, .int (mI z_20292)), (3, .int (mI z_20639)), (0, .ref (a 49)), (1, .ref (q (4 * i0))), (2, .int (mI p1))] ∧ g = F0 m 47 ls [.int (mI z_20663)]) ?_ ?_
      · skip
        intro H locs g hI
        obtain ⟨z_20663, ls, h47_0, hP, hS, hl, rfl⟩ := hI
        refine lv_istore (lv' := [(6, .int (mI z_20663)), (5, .int (mI z_20638)), (4, .int (mI z_20292)), (3, .int (mI z_20639)), (0, .ref (a 49)), (1, .ref (q (4 * i0))), (2, .int (mI p1))]) hx hb dX0_showingAtAge_47 hl (by decide) rfl (fun ls hl => ?_)
        refine lv_iload_n hx hb dX0_showingAtAge_49 rfl (lv_at hl 3 rfl) ?_
        refine lv_iload hx hb dX0_showingAtAge_50 (lv_at hl 0 rfl) ?_
        refine sy_if_eq (tgt := 73) hx hb dX0_showingAtAge_52 (by decide) (by omega) (fun c_20665 => ?_) (fun c_20665 => ?_)
        · skip
          refine lv_iconst (v := mI 0) hx hb dX0_showingAtAge_73 rfl ?_
          refine sy_iadd hx hb dX0_showingAtAge_74 z_20639 (by omega) ?_
          refine lv_istore_n (lv' := [(3, .int (mI z_20639)), (6, .int (mI z_20663)), (5, .int (mI z_20638)), (4, .int (mI z_20292)), (0, .ref (a 49)), (1, .ref (q (4 * i0))), (2, .int (mI p1))]) hx hb dX0_showingAtAge_75 rfl hl (by decide) rfl (fun ls hl => ?_)
          refine lv_iinc (v := mI (z_20638 + 1)) (lv' := [(5, .int (mI (z_20638 + 1))), (3, .int (mI z_20639)), (6, .int (mI z_20663)), (4, .int (mI z_20292)), (0, .ref (a 49)), (1, .ref (q (4 * i0))), (2, .int (mI p1))]) hx hb dX0_showingAtAge_76 hl (k := 2) rfl (mI_ad rfl) (by decide) rfl (fun ls hl => ?_)
          refine lv_goto (tgt := 20) hx hb dX0_showingAtAge_79 (by decide) ?_
          exact ih_20657 _ _ _ _ (by omega) ⟨(z_20638 + 1), z_20639, F_20640, F_20641, _, by omega, by omega, bF_20640, bF_20641, rfl, hP, hS, lv_sub hl [0, 3, 1, 4, 5, 6] rfl, rfl⟩
        · skip
          refine lv_aload_n hx hb dX0_showingAtAge_55 rfl (lv_at hl 4 rfl) ?_
          refine lv_aload_n hx hb dX0_showingAtAge_56 rfl (lv_at hl 5 rfl) ?_
          refine lv_iload hx hb dX0_showingAtAge_57 (lv_at hl 2 rfl) ?_
          refine lv_iload hx hb dX0_showingAtAge_59 (lv_at hl 1 rfl) ?_
          refine lv_iload_n hx hb dX0_showingAtAge_61 rfl (lv_at hl 6 rfl) ?_
          refine lv_iconst (v := mI 0) hx hb dX0_showingAtAge_62 rfl ?_
          refine g_i (cDt hD) hS hA (g_V (own := "HideReader$Beasts") (As := [.ref (q (4 * i0)), .int (mI z_20292), .int (mI z_20638), .int (mI p1), .int (mI 0)]) (rest := [.int (mI z_20639)]) hx hb hml hown hts hK hP (cDt hD) (kc_X0_shows (l := l) (D := D) (k := k) (i0 := i0) (by omega) (by omega) (by omega) (by omega) (by decide) h_x_tfo_steps b_B_told_births b_B_tfo_kinds b_B_tfo_numbers bF_20640 bF_20641 b_Ps b_Ph) ck_X0_shows iv_X0_shows uw_4_135 (cv_bea hK hP) rfl hl.1 rfl (Nat.le_of_ble_eq_true rfl) dX0_showingAtAge_63 ⟨Nat.le_of_ble_eq_true rfl, Nat.le_of_ble_eq_true rfl⟩ ⟨Nat.le_of_ble_eq_true rfl, Nat.le_of_ble_eq_true rfl⟩) (fun r_20666 H locs hQ hS => ?_)
          obtain ⟨F_20667, F_20668, hr_20666_0, bF_20667, bF_20668, hP⟩ := hQ
          refine sy_if_eq (tgt := 73) hx hb dX0_showingAtAge_66 (by decide) (by omega) (fun c_20669 => ?_) (fun c_20669 => ?_)
          · skip
            refine lv_iconst (v := mI 0) hx hb dX0_showingAtAge_73 rfl ?_
            refine sy_iadd hx hb dX0_showingAtAge_74 z_20639 (by omega) ?_
            refine lv_istore_n (lv' := [(3, .int (mI z_20639)), (6, .int (mI z_20663)), (5, .int (mI z_20638)), (4, .int (mI z_20292)), (0, .ref (a 49)), (1, .ref (q (4 * i0))), (2, .int (mI p1))]) hx hb dX0_showingAtAge_75 rfl hl (by decide) rfl (fun ls hl => ?_)
            refine lv_iinc (v := mI (z_20638 + 1)) (lv' := [(5, .int (mI (z_20638 + 1))), (3, .int (mI z_20639)), (6, .int (mI z_20663)), (4, .int (mI z_20292)), (0, .ref (a 49)), (1, .ref (q (4 * i0))), (2, .int (mI p1))]) hx hb dX0_showingAtAge_76 hl (k := 2) rfl (mI_ad rfl) (by decide) rfl (fun ls hl => ?_)
            refine lv_goto (tgt := 20) hx hb dX0_showingAtAge_79 (by decide) ?_
            exact ih_20657 _ _ _ _ (by omega) ⟨(z_20638 + 1), z_20639, F_20667, F_20668, _, by omega, by omega, bF_20667, bF_20668, rfl, hP, hS, lv_sub hl [0, 3, 1, 4, 5, 6] rfl, rfl⟩
          · skip
            refine lv_iconst (v := mI 1) hx hb dX0_showingAtAge_69 rfl ?_
            refine lv_goto (tgt := 74) hx hb dX0_showingAtAge_70 (by decide) ?_
            refine sy_iadd hx hb dX0_showingAtAge_74 (z_20639 + 1) rfl ?_
            refine sy_any (fun z_20670 hz_20670 => ?_)
            refine lv_istore_n (lv' := [(3, .int (mI z_20670)), (6, .int (mI z_20663)), (5, .int (mI z_20638)), (4, .int (mI z_20292)), (0, .ref (a 49)), (1, .ref (q (4 * i0))), (2, .int (mI p1))]) hx hb dX0_showingAtAge_75 rfl hl (by decide) rfl (fun ls hl => ?_)
            refine lv_iinc (v := mI (z_20638 + 1)) (lv' := [(5, .int (mI (z_20638 + 1))), (3, .int (mI z_20670)), (6, .int (mI z_20663)), (4, .int (mI z_20292)), (0, .ref (a 49)), (1, .ref (q (4 * i0))), (2, .int (mI p1))]) hx hb dX0_showingAtAge_76 hl (k := 2) rfl (mI_ad rfl) (by decide) rfl (fun ls hl => ?_)
            refine lv_goto (tgt := 20) hx hb dX0_showingAtAge_79 (by decide) ?_
            exact ih_20657 _ _ _ _ (by omega) ⟨(z_20638 + 1), z_20670, F_20667, F_20668, _, by omega, by omega, bF_20667, bF_20668, rfl, hP, hS, lv_sub hl [0, 3, 1, 4, 5, 6] rfl, rfl⟩
      · skip
        intro J_20664
        refine sy_if_eq (tgt := 46) hx hb dX0_showingAtAge_39 (by decide) (by omega) (fun c_20671 => ?_) (fun c_20671 => ?_)
        · skip
          refine lv_iconst (v := mI 0) hx hb dX0_showingAtAge_46 rfl ?_
          exact J_20664 _ _ _ ⟨0, _, by omega, hP, hS, lv_sub hl [0, 1, 2, 3, 4, 5] rfl, rfl⟩
        · skip
          refine lv_iconst (v := mI 1) hx hb dX0_showingAtAge_42 rfl ?_
          refine lv_goto (tgt := 47) hx hb dX0_showingAtAge_43 (by decide) ?_
          exact J_20664 _ _ _ ⟨1, _, by omega, hP, hS, lv_sub hl [0, 1, 2, 3, 4, 5] rfl, rfl⟩
set_option maxHeartbeats 4000000 in
set_option maxRecDepth 100000 in
theorem kc_X0_fadesBehind {p1 : Int} {i0 : Nat} (hi0 : i0 < 44) (hp1 : 0 ≤ p1 ∧ p1 ≤ 7) (h_x_tfo_steps : 0 ≤ x_tfo_steps ∧ x_tfo_steps ≤ 270) (b_B_told_births : bd (-2147483648) 2147483647 B_told_births) (b_B_tfo_kinds : bd (-2147483648) 2147483647 B_tfo_kinds) (b_B_tfo_numbers : bd (-2147483648) 2147483647 B_tfo_numbers) (b_B_tfo_stack : bd (-2147483648) 2147483647 B_tfo_stack) (b_B_tfo_facts : bd (-2147483648) 2147483647 B_tfo_facts) (b_Ps : bd (-2147483648) 2147483647 Ps) (b_Ph : pb (0) 4095 Ph) (b_Pg : pb (-2147483648) 2147483647 Pg) : MetG l D k yX0_fadesBehind cX0_fadesBehind 4 (some .int) 5 [.ref (a 49), .ref (q (4 * i0)), .int (mI p1)] (cW k a q x_xo_lyingCount x_tape_length x_tape_next x_tape_kind x_tape_place x_tape_number x_tape_faultKind x_tape_faultPlace x_told_turns x_told_mirror x_told_night x_told_draw x_told_herds x_told_irons x_told_beasts x_told_linesTold x_tfo_steps x_tfo_units x_draft_turns x_draft_mirror x_draft_night x_draft_draw x_draft_herds x_draft_irons x_draft_beasts x_draft_linesTold x_dfo_steps x_dfo_units x_lat_placements x_smi_irons x_smi_aim x_his_here x_his_undoable x_his_redoable x_book_placedCount x_wit_count x_wit_time n_tape_name B_xo_lying B_tape_bytes B_told_brands B_told_ironMarks B_told_homes B_told_births B_tfo_kinds B_tfo_numbers B_tfo_stack B_tfo_facts B_draft_brands B_draft_ironMarks B_draft_homes B_draft_births B_dfo_kinds B_dfo_numbers B_dfo_stack B_dfo_facts B_lat_lowHalves B_lat_highHalves B_lat_ways B_smi_placedIrons B_smi_within B_smi_costs B_his_isKept B_book_norms B_book_above B_book_heights B_book_placedBrands B_bea_firstGains B_bea_otherGains B_wit_burnings B_wit_strokes B_wit_wasOn B_wit_toldAt B_wit_untoldAt B_wit_on B_wit_off B_wit_firstCounts B_wit_secondCounts Ps Pd G_tape_wordNames G_told_herdNames G_told_ironNames G_told_beastNames G_draft_herdNames G_draft_ironNames G_draft_beastNames Ph Po Pg ex) (qGi (fun r0 H => ∃ (F_tfo_stack : Nat → Int) (F_tfo_facts : Nat → Int), (-1 ≤ r0 ∧ r0 ≤ 60) ∧ (bd (-2147483648) 2147483647 F_tfo_stack) ∧ (bd (-2147483648) 2147483647 F_tfo_facts) ∧ va_P D vwCl (cW k a q x_xo_lyingCount x_tape_length x_tape_next x_tape_kind x_tape_place x_tape_number x_tape_faultKind x_tape_faultPlace x_told_turns x_told_mirror x_told_night x_told_draw x_told_herds x_told_irons x_told_beasts x_told_linesTold x_tfo_steps x_tfo_units x_draft_turns x_draft_mirror x_draft_night x_draft_draw x_draft_herds x_draft_irons x_draft_beasts x_draft_linesTold x_dfo_steps x_dfo_units x_lat_placements x_smi_irons x_smi_aim x_his_here x_his_undoable x_his_redoable x_book_placedCount x_wit_count x_wit_time n_tape_name B_xo_lying B_tape_bytes B_told_brands B_told_ironMarks B_told_homes B_told_births B_tfo_kinds B_tfo_numbers F_tfo_stack F_tfo_facts B_draft_brands B_draft_ironMarks B_draft_homes B_draft_births B_dfo_kinds B_dfo_numbers B_dfo_stack B_dfo_facts B_lat_lowHalves B_lat_highHalves B_lat_ways B_smi_placedIrons B_smi_within B_smi_costs B_his_isKept B_book_norms B_book_above B_book_heights B_book_placedBrands B_bea_firstGains B_bea_otherGains B_wit_burnings B_wit_strokes B_wit_wasOn B_wit_toldAt B_wit_untoldAt B_wit_on B_wit_off B_wit_firstCounts B_wit_secondCounts Ps Pd G_tape_wordNames G_told_herdNames G_told_ironNames G_told_beastNames G_draft_herdNames G_draft_ironNames G_draft_beastNames Ph Po Pg ex) H)) := by
  refine metG_of 2 ck_X0_fadesBehind (Nat.le_of_ble_eq_true rfl) cMap (fun p e s m args below meth c A hx hb hml hr hlocks hown hts hK hD hA hP hS ls hl => ?_)
  have hown : s.vm.findClass "HideReader$Beasts" = some m.cls := hown
  have hl : lv_has ls 4 [(0, .ref (a 49)), (1, .ref (q (4 * i0))), (2, .int (mI p1))] := hl
  refine lv_iconst (v := mI 0) hx hb dX0_fadesBehind_0 rfl ?_
  refine lv_istore_n (lv' := [(3, .int (mI 0)), (0, .ref (a 49)), (1, .ref (q (4 * i0))), (2, .int (mI p1))]) hx hb dX0_fadesBehind_1 rfl hl (by decide) rfl (fun ls hl => ?_)
  refine sy_loop (I := fun n H locs g => ∃ (z_54 : Int) (F_55 : Nat → Int) (F_56 : Nat → Int) (ls : Array Slot), (0 ≤ z_54 ∧ z_54 ≤ 61) ∧ (bd (-2147483648) 2147483647 F_55) ∧ (bd (-2147483648) 2147483647 F_56) ∧ (61 - z_54).toNat = n ∧ va_P D vwCl (cW k a q x_xo_lyingCount x_tape_length x_tape_next x_tape_kind x_tape_place x_tape_number x_tape_faultKind x_tape_faultPlace x_told_turns x_told_mirror x_told_night x_told_draw x_told_herds x_told_irons x_told_beasts x_told_linesTold x_tfo_steps x_tfo_units x_draft_turns x_draft_mirror x_draft_night x_draft_draw x_draft_herds x_draft_irons x_draft_beasts x_draft_linesTold x_dfo_steps x_dfo_units x_lat_placements x_smi_irons x_smi_aim x_his_here x_his_undoable x_his_redoable x_book_placedCount x_wit_count x_wit_time n_tape_name B_xo_lying B_tape_bytes B_told_brands B_told_ironMarks B_told_homes B_told_births B_tfo_kinds B_tfo_numbers F_55 F_56 B_draft_brands B_draft_ironMarks B_draft_homes B_draft_births B_dfo_kinds B_dfo_numbers B_dfo_stack B_dfo_facts B_lat_lowHalves B_lat_highHalves B_lat_ways B_smi_placedIrons B_smi_within B_smi_costs B_his_isKept B_book_norms B_book_above B_book_heights B_book_placedBrands B_bea_firstGains B_bea_otherGains B_wit_burnings B_wit_strokes B_wit_wasOn B_wit_toldAt B_wit_untoldAt B_wit_on B_wit_off B_wit_firstCounts B_wit_secondCounts Ps Pd G_tape_wordNames G_told_herdNames G_told_ironNames G_told_beastNames G_draft_herdNames G_draft_ironNames G_draft_beastNames Ph Po Pg ex) H ∧ va_S A s.heap H locs ∧ lv_has ls 4 [(3, .int (mI z_54)), (0, .ref (a 49)), (1, .ref (q (4 * i0))), (2, .int (mI p1))] ∧ g = F0 m 2 ls []) ?_ _ ⟨0, B_tfo_stack, B_tfo_facts, _, by omega, b_B_tfo_stack, b_B_tfo_facts, rfl, hP, hS, lv_sub hl [0, 1, 2, 3] rfl, rfl⟩
  intro n_62 H locs g hI ih_63
  obtain ⟨z_54, F_55, F_56, ls, h2_0, bF_55, bF_56, mn_62, hP, hS, hl, rfl⟩ := hI
  refine lv_iload_n hx hb dX0_fadesBehind_2 rfl (lv_at hl 0 rfl) ?_
  refine lv_bipush (v := mI 60) hx hb dX0_fadesBehind_3 (by decide) ?_
  refine sy_icmp_gt (tgt := 26) hx hb dX0_fadesBehind_5 (by decide) (by omega) (by decide) (fun c_64 => ?_) (fun c_64 => ?_)
  · skip
    refine lv_iconst (v := mI (-1)) hx hb dX0_fadesBehind_26 rfl ?_
    exact r_i hx hb hr hlocks dX0_fadesBehind_27 hS ⟨F_55, F_56, by omega, bF_55, bF_56, hP⟩
  · skip
    refine lv_aload_n hx hb dX0_fadesBehind_8 rfl (lv_at hl 1 rfl) ?_
    refine lv_aload_n hx hb dX0_fadesBehind_9 rfl (lv_at hl 2 rfl) ?_
    refine lv_iload_n hx hb dX0_fadesBehind_10 rfl (lv_at hl 3 rfl) ?_
    refine lv_iload_n hx hb dX0_fadesBehind_11 rfl (lv_at hl 0 rfl) ?_
    refine g_i (cDt hD) hS hA (g_V (own := "HideReader$Beasts") (As := [.ref (q (4 * i0)), .int (mI p1), .int (mI z_54)]) (rest := []) hx hb hml hown hts hK hP (cDt hD) (kc_X0_showing (l := l) (D := D) (k := k) (i0 := i0) (by omega) (by omega) (by omega) h_x_tfo_steps b_B_told_births b_B_tfo_kinds b_B_tfo_numbers bF_55 bF_56 b_Ps b_Ph b_Pg) ck_X0_showing iv_X0_showing uw_5_113 (cv_bea hK hP) rfl hl.1 rfl (Nat.le_of_ble_eq_true rfl) dX0_fadesBehind_12 ⟨Nat.le_of_ble_eq_true rfl, Nat.le_of_ble_eq_true rfl⟩ ⟨Nat.le_of_ble_eq_true rfl, Nat.le_of_ble_eq_true rfl⟩) (fun r_65 H locs hQ hS => ?_)
    obtain ⟨F_66, F_67, hr_65_0, bF_66, bF_67, hP⟩ := hQ
    refine sy_if_ne (tgt := 20) hx hb dX0_fadesBehind_15 (by decide) (by omega) (fun c_68 => ?_) (fun c_68 => ?_)
    · skip
      refine lv_iinc (v := mI (z_54 + 1)) (lv' := [(3, .int (mI (z_54 + 1))), (0, .ref (a 49)), (1, .ref (q (4 * i0))), (2, .int (mI p1))]) hx hb dX0_fadesBehind_20 hl (k := 0) rfl (mI_ad rfl) (by decide) rfl (fun ls hl => ?_)
      refine lv_goto (tgt := 2) hx hb dX0_fadesBehind_23 (by decide) ?_
      exact ih_63 _ _ _ _ (by omega) ⟨(z_54 + 1), F_66, F_67, _, by omega, bF_66, bF_67, rfl, hP, hS, lv_sub hl [0, 1, 2, 3] rfl, rfl⟩
    · skip
      refine lv_iload_n hx hb dX0_fadesBehind_18 rfl (lv_at hl 0 rfl) ?_
      exact r_i hx hb hr hlocks dX0_fadesBehind_19 hS ⟨F_66, F_67, by omega, bF_66, bF_67, hP⟩
set_option maxHeartbeats 4000000 in
set_option maxRecDepth 100000 in
theorem kc_X4_placements (h_x_lat_placements : 1 ≤ x_lat_placements ∧ x_lat_placements ≤ 8) : MetG l D k yX4_placements cX4_placements 1 (some .int) 0 [.ref (a 32)] (cW k a q x_xo_lyingCount x_tape_length x_tape_next x_tape_kind x_tape_place x_tape_number x_tape_faultKind x_tape_faultPlace x_told_turns x_told_mirror x_told_night x_told_draw x_told_herds x_told_irons x_told_beasts x_told_linesTold x_tfo_steps x_tfo_units x_draft_turns x_draft_mirror x_draft_night x_draft_draw x_draft_herds x_draft_irons x_draft_beasts x_draft_linesTold x_dfo_steps x_dfo_units x_lat_placements x_smi_irons x_smi_aim x_his_here x_his_undoable x_his_redoable x_book_placedCount x_wit_count x_wit_time n_tape_name B_xo_lying B_tape_bytes B_told_brands B_told_ironMarks B_told_homes B_told_births B_tfo_kinds B_tfo_numbers B_tfo_stack B_tfo_facts B_draft_brands B_draft_ironMarks B_draft_homes B_draft_births B_dfo_kinds B_dfo_numbers B_dfo_stack B_dfo_facts B_lat_lowHalves B_lat_highHalves B_lat_ways B_smi_placedIrons B_smi_within B_smi_costs B_his_isKept B_book_norms B_book_above B_book_heights B_book_placedBrands B_bea_firstGains B_bea_otherGains B_wit_burnings B_wit_strokes B_wit_wasOn B_wit_toldAt B_wit_untoldAt B_wit_on B_wit_off B_wit_firstCounts B_wit_secondCounts Ps Pd G_tape_wordNames G_told_herdNames G_told_ironNames G_told_beastNames G_draft_herdNames G_draft_ironNames G_draft_beastNames Ph Po Pg ex) (qGi (fun r0 H => ((x_lat_placements = r0)) ∧ va_P D vwCl (cW k a q x_xo_lyingCount x_tape_length x_tape_next x_tape_kind x_tape_place x_tape_number x_tape_faultKind x_tape_faultPlace x_told_turns x_told_mirror x_told_night x_told_draw x_told_herds x_told_irons x_told_beasts x_told_linesTold x_tfo_steps x_tfo_units x_draft_turns x_draft_mirror x_draft_night x_draft_draw x_draft_herds x_draft_irons x_draft_beasts x_draft_linesTold x_dfo_steps x_dfo_units x_lat_placements x_smi_irons x_smi_aim x_his_here x_his_undoable x_his_redoable x_book_placedCount x_wit_count x_wit_time n_tape_name B_xo_lying B_tape_bytes B_told_brands B_told_ironMarks B_told_homes B_told_births B_tfo_kinds B_tfo_numbers B_tfo_stack B_tfo_facts B_draft_brands B_draft_ironMarks B_draft_homes B_draft_births B_dfo_kinds B_dfo_numbers B_dfo_stack B_dfo_facts B_lat_lowHalves B_lat_highHalves B_lat_ways B_smi_placedIrons B_smi_within B_smi_costs B_his_isKept B_book_norms B_book_above B_book_heights B_book_placedBrands B_bea_firstGains B_bea_otherGains B_wit_burnings B_wit_strokes B_wit_wasOn B_wit_toldAt B_wit_untoldAt B_wit_on B_wit_off B_wit_firstCounts B_wit_secondCounts Ps Pd G_tape_wordNames G_told_herdNames G_told_ironNames G_told_beastNames G_draft_herdNames G_draft_ironNames G_draft_beastNames Ph Po Pg ex) H)) := by
  refine metG_of 0 ck_X4_placements (Nat.le_of_ble_eq_true rfl) cMap (fun p e s m args below meth c A hx hb hml hr hlocks hown hts hK hD hA hP hS ls hl => ?_)
  have hown : s.vm.findClass "HideReader$Lattice" = some m.cls := hown
  have hl : lv_has ls 1 [(0, .ref (a 32))] := hl
  refine lv_aload_n hx hb dX4_placements_0 rfl (lv_at hl 0 rfl) ?_
  refine cg_lat_placements hx hb hts hown hK hP uw_2_38 dX4_placements_1 ?_
  exact r_i hx hb hr hlocks dX4_placements_4 hS ⟨rfl, hP⟩
set_option maxHeartbeats 4000000 in
set_option maxRecDepth 100000 in
theorem kc_X4_moved {p0 p1 : Int} (hp0 : -2147483648 ≤ p0 ∧ p0 ≤ 2147483647) (hp1 : 0 ≤ p1 ∧ p1 ≤ 7) (b_B_lat_lowHalves : bd (0) 4095 B_lat_lowHalves) (b_B_lat_highHalves : bd (0) 4095 B_lat_highHalves) (b_B_lat_ways : bd (0) 7 B_lat_ways) : MetG l D k yX4_moved cX4_moved 4 (some .int) 0 [.ref (a 32), .int (mI p0), .int (mI p1)] (cW k a q x_xo_lyingCount x_tape_length x_tape_next x_tape_kind x_tape_place x_tape_number x_tape_faultKind x_tape_faultPlace x_told_turns x_told_mirror x_told_night x_told_draw x_told_herds x_told_irons x_told_beasts x_told_linesTold x_tfo_steps x_tfo_units x_draft_turns x_draft_mirror x_draft_night x_draft_draw x_draft_herds x_draft_irons x_draft_beasts x_draft_linesTold x_dfo_steps x_dfo_units x_lat_placements x_smi_irons x_smi_aim x_his_here x_his_undoable x_his_redoable x_book_placedCount x_wit_count x_wit_time n_tape_name B_xo_lying B_tape_bytes B_told_brands B_told_ironMarks B_told_homes B_told_births B_tfo_kinds B_tfo_numbers B_tfo_stack B_tfo_facts B_draft_brands B_draft_ironMarks B_draft_homes B_draft_births B_dfo_kinds B_dfo_numbers B_dfo_stack B_dfo_facts B_lat_lowHalves B_lat_highHalves B_lat_ways B_smi_placedIrons B_smi_within B_smi_costs B_his_isKept B_book_norms B_book_above B_book_heights B_book_placedBrands B_bea_firstGains B_bea_otherGains B_wit_burnings B_wit_strokes B_wit_wasOn B_wit_toldAt B_wit_untoldAt B_wit_on B_wit_off B_wit_firstCounts B_wit_secondCounts Ps Pd G_tape_wordNames G_told_herdNames G_told_ironNames G_told_beastNames G_draft_herdNames G_draft_ironNames G_draft_beastNames Ph Po Pg ex) (qGi (fun r0 H => (0 ≤ r0 ∧ r0 ≤ 4095) ∧ va_P D vwCl (cW k a q x_xo_lyingCount x_tape_length x_tape_next x_tape_kind x_tape_place x_tape_number x_tape_faultKind x_tape_faultPlace x_told_turns x_told_mirror x_told_night x_told_draw x_told_herds x_told_irons x_told_beasts x_told_linesTold x_tfo_steps x_tfo_units x_draft_turns x_draft_mirror x_draft_night x_draft_draw x_draft_herds x_draft_irons x_draft_beasts x_draft_linesTold x_dfo_steps x_dfo_units x_lat_placements x_smi_irons x_smi_aim x_his_here x_his_undoable x_his_redoable x_book_placedCount x_wit_count x_wit_time n_tape_name B_xo_lying B_tape_bytes B_told_brands B_told_ironMarks B_told_homes B_told_births B_tfo_kinds B_tfo_numbers B_tfo_stack B_tfo_facts B_draft_brands B_draft_ironMarks B_draft_homes B_draft_births B_dfo_kinds B_dfo_numbers B_dfo_stack B_dfo_facts B_lat_lowHalves B_lat_highHalves B_lat_ways B_smi_placedIrons B_smi_within B_smi_costs B_his_isKept B_book_norms B_book_above B_book_heights B_book_placedBrands B_bea_firstGains B_bea_otherGains B_wit_burnings B_wit_strokes B_wit_wasOn B_wit_toldAt B_wit_untoldAt B_wit_on B_wit_off B_wit_firstCounts B_wit_secondCounts Ps Pd G_tape_wordNames G_told_herdNames G_told_ironNames G_told_beastNames G_draft_herdNames G_draft_ironNames G_draft_beastNames Ph Po Pg ex) H)) := by
  refine metG_of 2 ck_X4_moved (Nat.le_of_ble_eq_true rfl) cMap (fun p e s m args below meth c A hx hb hml hr hlocks hown hts hK hD hA hP hS ls hl => ?_)
  have hown : s.vm.findClass "HideReader$Lattice" = some m.cls := hown
  have hl : lv_has ls 4 [(0, .ref (a 32)), (1, .int (mI p0)), (2, .int (mI p1))] := hl
  refine lv_aload_n hx hb dX4_moved_0 rfl (lv_at hl 0 rfl) ?_
  refine cg_lat_ways hx hb hts hown hK hP uw_2_37 dX4_moved_1 ?_
  refine lv_iload_n hx hb dX4_moved_4 rfl (lv_at hl 2 rfl) ?_
  refine cl_lat_ways hx hb hK hP dX4_moved_5 (by omega) b_B_lat_ways (fun z_1 _ hz_1 => ?_)
  refine lv_bipush (v := mI 64) hx hb dX4_moved_6 (by decide) ?_
  refine sy_imul hx hb dX4_moved_8 (64 * z_1) (by omega) ?_
  refine lv_istore_n (lv' := [(3, .int (mI (64 * z_1))), (0, .ref (a 32)), (1, .int (mI p0)), (2, .int (mI p1))]) hx hb dX4_moved_9 rfl hl (by decide) rfl (fun ls hl => ?_)
  refine lv_aload_n hx hb dX4_moved_10 rfl (lv_at hl 1 rfl) ?_
  refine cg_lat_lowHalves hx hb hts hown hK hP uw_2_35 dX4_moved_11 ?_
  refine lv_iload_n hx hb dX4_moved_14 rfl (lv_at hl 0 rfl) ?_
  refine lv_iload_n hx hb dX4_moved_15 rfl (lv_at hl 2 rfl) ?_
  refine lv_bipush (v := mI 63) hx hb dX4_moved_16 (by decide) ?_
  refine sy_iandR hx hb dX4_moved_18 (by decide) (fun z_2 hz_2 => ?_)
  refine sy_iadd hx hb dX4_moved_19 (64 * z_1 + z_2) rfl ?_
  refine cl_lat_lowHalves hx hb hK hP dX4_moved_20 (by omega) b_B_lat_lowHalves (fun z_3 _ hz_3 => ?_)
  refine lv_aload_n hx hb dX4_moved_21 rfl (lv_at hl 1 rfl) ?_
  refine cg_lat_highHalves hx hb hts hown hK hP uw_2_36 dX4_moved_22 ?_
  refine lv_iload_n hx hb dX4_moved_25 rfl (lv_at hl 0 rfl) ?_
  refine lv_iload_n hx hb dX4_moved_26 rfl (lv_at hl 2 rfl) ?_
  refine lv_bipush (v := mI 6) hx hb dX4_moved_27 (by decide) ?_
  refine lv_ishr hx hb dX4_moved_29 ?_
  refine sy_any (fun z_4 hz_4 => ?_)
  refine lv_bipush (v := mI 63) hx hb dX4_moved_30 (by decide) ?_
  refine sy_iandR hx hb dX4_moved_32 (by decide) (fun z_5 hz_5 => ?_)
  refine sy_iadd hx hb dX4_moved_33 (64 * z_1 + z_5) rfl ?_
  refine cl_lat_highHalves hx hb hK hP dX4_moved_34 (by omega) b_B_lat_highHalves (fun z_6 _ hz_6 => ?_)
  refine sy_ior hx hb dX4_moved_35 12 (by decide) 4096 (by decide) (by omega) (by omega) (fun z_7 hz_7 => ?_)
  exact r_i hx hb hr hlocks dX4_moved_36 hS ⟨by omega, hP⟩
set_option maxHeartbeats 4000000 in
set_option maxRecDepth 100000 in
theorem kc_X6_gatherWithin {p0 : Int} (hp0 : 0 ≤ p0 ∧ p0 ≤ 4095) (h_x_lat_placements : 1 ≤ x_lat_placements ∧ x_lat_placements ≤ 8) (h_x_smi_irons : 0 ≤ x_smi_irons ∧ x_smi_irons ≤ 6) (b_B_smi_placedIrons : bd (0) 4095 B_smi_placedIrons) (b_B_smi_within : bd (0) 4095 B_smi_within) : MetG l D k yX6_gatherWithin cX6_gatherWithin 6 (some .int) 1 [.ref (a 36), .int (mI p0)] (cW k a q x_xo_lyingCount x_tape_length x_tape_next x_tape_kind x_tape_place x_tape_number x_tape_faultKind x_tape_faultPlace x_told_turns x_told_mirror x_told_night x_told_draw x_told_herds x_told_irons x_told_beasts x_told_linesTold x_tfo_steps x_tfo_units x_draft_turns x_draft_mirror x_draft_night x_draft_draw x_draft_herds x_draft_irons x_draft_beasts x_draft_linesTold x_dfo_steps x_dfo_units x_lat_placements x_smi_irons x_smi_aim x_his_here x_his_undoable x_his_redoable x_book_placedCount x_wit_count x_wit_time n_tape_name B_xo_lying B_tape_bytes B_told_brands B_told_ironMarks B_told_homes B_told_births B_tfo_kinds B_tfo_numbers B_tfo_stack B_tfo_facts B_draft_brands B_draft_ironMarks B_draft_homes B_draft_births B_dfo_kinds B_dfo_numbers B_dfo_stack B_dfo_facts B_lat_lowHalves B_lat_highHalves B_lat_ways B_smi_placedIrons B_smi_within B_smi_costs B_his_isKept B_book_norms B_book_above B_book_heights B_book_placedBrands B_bea_firstGains B_bea_otherGains B_wit_burnings B_wit_strokes B_wit_wasOn B_wit_toldAt B_wit_untoldAt B_wit_on B_wit_off B_wit_firstCounts B_wit_secondCounts Ps Pd G_tape_wordNames G_told_herdNames G_told_ironNames G_told_beastNames G_draft_herdNames G_draft_ironNames G_draft_beastNames Ph Po Pg ex) (qGi (fun r0 H => ∃ (F_smi_within : Nat → Int), (0 ≤ r0 ∧ r0 ≤ 48) ∧ (bd (0) 4095 F_smi_within) ∧ va_P D vwCl (cW k a q x_xo_lyingCount x_tape_length x_tape_next x_tape_kind x_tape_place x_tape_number x_tape_faultKind x_tape_faultPlace x_told_turns x_told_mirror x_told_night x_told_draw x_told_herds x_told_irons x_told_beasts x_told_linesTold x_tfo_steps x_tfo_units x_draft_turns x_draft_mirror x_draft_night x_draft_draw x_draft_herds x_draft_irons x_draft_beasts x_draft_linesTold x_dfo_steps x_dfo_units x_lat_placements x_smi_irons x_smi_aim x_his_here x_his_undoable x_his_redoable x_book_placedCount x_wit_count x_wit_time n_tape_name B_xo_lying B_tape_bytes B_told_brands B_told_ironMarks B_told_homes B_told_births B_tfo_kinds B_tfo_numbers B_tfo_stack B_tfo_facts B_draft_brands B_draft_ironMarks B_draft_homes B_draft_births B_dfo_kinds B_dfo_numbers B_dfo_stack B_dfo_facts B_lat_lowHalves B_lat_highHalves B_lat_ways B_smi_placedIrons F_smi_within B_smi_costs B_his_isKept B_book_norms B_book_above B_book_heights B_book_placedBrands B_bea_firstGains B_bea_otherGains B_wit_burnings B_wit_strokes B_wit_wasOn B_wit_toldAt B_wit_untoldAt B_wit_on B_wit_off B_wit_firstCounts B_wit_secondCounts Ps Pd G_tape_wordNames G_told_herdNames G_told_ironNames G_told_beastNames G_draft_herdNames G_draft_ironNames G_draft_beastNames Ph Po Pg ex) H)) := by
  refine metG_of 1 ck_X6_gatherWithin (Nat.le_of_ble_eq_true rfl) cMap (fun p e s m args below meth c A hx hb hml hr hlocks hown hts hK hD hA hP hS ls hl => ?_)
  have hown : s.vm.findClass "HideReader$Smith" = some m.cls := hown
  have hl : lv_has ls 6 [(0, .ref (a 36)), (1, .int (mI p0))] := hl
  refine lv_iconst (v := mI 0) hx hb dX6_gatherWithin_0 rfl ?_
  refine lv_istore_n (lv' := [(2, .int (mI 0)), (0, .ref (a 36)), (1, .int (mI p0))]) hx hb dX6_gatherWithin_1 rfl hl (by decide) rfl (fun ls hl => ?_)
  refine lv_iconst (v := mI 0) hx hb dX6_gatherWithin_2 rfl ?_
  refine lv_istore_n (lv' := [(3, .int (mI 0)), (2, .int (mI 0)), (0, .ref (a 36)), (1, .int (mI p0))]) hx hb dX6_gatherWithin_3 rfl hl (by decide) rfl (fun ls hl => ?_)
  refine sy_loop (I := fun n H locs g => ∃ (z_1054 : Int) (z_1055 : Int) (F_1056 : Nat → Int) (ls : Array Slot), (0 ≤ z_1054 ∧ z_1054 ≤ 6) ∧ (0 ≤ z_1055 ∧ z_1055 ≤ 48) ∧ (bd (0) 4095 F_1056) ∧ (0 ≤ 8 * z_1054 - z_1055) ∧ (6 - z_1054).toNat = n ∧ va_P D vwCl (cW k a q x_xo_lyingCount x_tape_length x_tape_next x_tape_kind x_tape_place x_tape_number x_tape_faultKind x_tape_faultPlace x_told_turns x_told_mirror x_told_night x_told_draw x_told_herds x_told_irons x_told_beasts x_told_linesTold x_tfo_steps x_tfo_units x_draft_turns x_draft_mirror x_draft_night x_draft_draw x_draft_herds x_draft_irons x_draft_beasts x_draft_linesTold x_dfo_steps x_dfo_units x_lat_placements x_smi_irons x_smi_aim x_his_here x_his_undoable x_his_redoable x_book_placedCount x_wit_count x_wit_time n_tape_name B_xo_lying B_tape_bytes B_told_brands B_told_ironMarks B_told_homes B_told_births B_tfo_kinds B_tfo_numbers B_tfo_stack B_tfo_facts B_draft_brands B_draft_ironMarks B_draft_homes B_draft_births B_dfo_kinds B_dfo_numbers B_dfo_stack B_dfo_facts B_lat_lowHalves B_lat_highHalves B_lat_ways B_smi_placedIrons F_1056 B_smi_costs B_his_isKept B_book_norms B_book_above B_book_heights B_book_placedBrands B_bea_firstGains B_bea_otherGains B_wit_burnings B_wit_strokes B_wit_wasOn B_wit_toldAt B_wit_untoldAt B_wit_on B_wit_off B_wit_firstCounts B_wit_secondCounts Ps Pd G_tape_wordNames G_told_herdNames G_told_ironNames G_told_beastNames G_draft_herdNames G_draft_ironNames G_draft_beastNames Ph Po Pg ex) H ∧ va_S A s.heap H locs ∧ lv_has ls 6 [(3, .int (mI z_1054)), (2, .int (mI z_1055)), (0, .ref (a 36)), (1, .int (mI p0))] ∧ g = F0 m 4 ls []) ?_ _ ⟨0, 0, B_smi_within, _, by omega, by omega, b_B_smi_within, by omega, rfl, hP, hS, lv_sub hl [0, 1, 2, 3] rfl, rfl⟩
  intro n_1175 H locs g hI ih_1176
  obtain ⟨z_1054, z_1055, F_1056, ls, h4_0, h4_1, bF_1056, h4_3, mn_1175, hP, hS, hl, rfl⟩ := hI
  refine lv_iload_n hx hb dX6_gatherWithin_4 rfl (lv_at hl 0 rfl) ?_
  refine lv_aload_n hx hb dX6_gatherWithin_5 rfl (lv_at hl 2 rfl) ?_
  refine cg_smi_irons hx hb hts hown hK hP uw_2_58 dX6_gatherWithin_6 ?_
  refine sy_icmp_ge (tgt := 73) hx hb dX6_gatherWithin_9 (by decide) (by omega) (by omega) (fun c_1177 => ?_) (fun c_1177 => ?_)
  · skip
    refine lv_iload_n hx hb dX6_gatherWithin_73 rfl (lv_at hl 1 rfl) ?_
    exact r_i hx hb hr hlocks dX6_gatherWithin_74 hS ⟨F_1056, by omega, bF_1056, hP⟩
  · skip
    refine lv_iconst (v := mI 0) hx hb dX6_gatherWithin_12 rfl ?_
    refine lv_istore (lv' := [(4, .int (mI 0)), (3, .int (mI z_1054)), (2, .int (mI z_1055)), (0, .ref (a 36)), (1, .int (mI p0))]) hx hb dX6_gatherWithin_13 hl (by decide) rfl (fun ls hl => ?_)
    refine sy_loop (I := fun n H locs g => ∃ (z_1274 : Int) (z_1275 : Int) (F_1276 : Nat → Int) (ls : Array Slot), (0 ≤ z_1274 ∧ z_1274 ≤ 8) ∧ (0 ≤ z_1275 ∧ z_1275 ≤ 48) ∧ (bd (0) 4095 F_1276) ∧ (0 ≤ 8 * z_1054 + z_1274 - z_1275) ∧ (0 ≤ z_1275 - z_1055) ∧ (8 - z_1274).toNat = n ∧ va_P D vwCl (cW k a q x_xo_lyingCount x_tape_length x_tape_next x_tape_kind x_tape_place x_tape_number x_tape_faultKind x_tape_faultPlace x_told_turns x_told_mirror x_told_night x_told_draw x_told_herds x_told_irons x_told_beasts x_told_linesTold x_tfo_steps x_tfo_units x_draft_turns x_draft_mirror x_draft_night x_draft_draw x_draft_herds x_draft_irons x_draft_beasts x_draft_linesTold x_dfo_steps x_dfo_units x_lat_placements x_smi_irons x_smi_aim x_his_here x_his_undoable x_his_redoable x_book_placedCount x_wit_count x_wit_time n_tape_name B_xo_lying B_tape_bytes B_told_brands B_told_ironMarks B_told_homes B_told_births B_tfo_kinds B_tfo_numbers B_tfo_stack B_tfo_facts B_draft_brands B_draft_ironMarks B_draft_homes B_draft_births B_dfo_kinds B_dfo_numbers B_dfo_stack B_dfo_facts B_lat_lowHalves B_lat_highHalves B_lat_ways B_smi_placedIrons F_1276 B_smi_costs B_his_isKept B_book_norms B_book_above B_book_heights B_book_placedBrands B_bea_firstGains B_bea_otherGains B_wit_burnings B_wit_strokes B_wit_wasOn B_wit_toldAt B_wit_untoldAt B_wit_on B_wit_off B_wit_firstCounts B_wit_secondCounts Ps Pd G_tape_wordNames G_told_herdNames G_told_ironNames G_told_beastNames G_draft_herdNames G_draft_ironNames G_draft_beastNames Ph Po Pg ex) H ∧ va_S A s.heap H locs ∧ lv_has ls 6 [(4, .int (mI z_1274)), (3, .int (mI z_1054)), (2, .int (mI z_1275)), (0, .ref (a 36)), (1, .int (mI p0))] ∧ g = F0 m 15 ls []) ?_ _ ⟨0, z_1055, F_1056, _, by omega, by omega, bF_1056, by omega, by omega, rfl, hP, hS, lv_sub hl [0, 1, 2, 3, 4] rfl, rfl⟩
    intro n_1285 H locs g hI ih_1286
    obtain ⟨z_1274, z_1275, F_1276, ls, h15_0, h15_1, bF_1276, h15_3, h15_4, mn_1285, hP, hS, hl, rfl⟩ := hI
    refine lv_iload hx hb dX6_gatherWithin_15 (lv_at hl 0 rfl) ?_
    refine lv_aload_n hx hb dX6_gatherWithin_17 rfl (lv_at hl 3 rfl) ?_
    refine cg_smi_lattice hx hb hts hown hK hP uw_2_54 dX6_gatherWithin_18 ?_
    refine g_i (cDt hD) hS hA (g_V (own := "HideReader$Smith") (As := []) (rest := [.int (mI z_1274)]) hx hb hml hown hts hK hP (cDt hD) (kc_X4_placements (l := l) (D := D) (k := k) h_x_lat_placements) ck_X4_placements iv_X4_placements uw_4_40 (cv_lat hK hP) rfl hl.1 rfl (Nat.le_of_ble_eq_true rfl) dX6_gatherWithin_21 ⟨Nat.le_of_ble_eq_true rfl, Nat.le_of_ble_eq_true rfl⟩ ⟨Nat.le_of_ble_eq_true rfl, Nat.le_of_ble_eq_true rfl⟩) (fun r_1287 H locs hQ hS => ?_)
    obtain ⟨hq_r_1287, hP⟩ := hQ
    obtain rfl := hq_r_1287
    refine sy_icmp_ge (tgt := 67) hx hb dX6_gatherWithin_24 (by decide) (by omega) (by omega) (fun c_1289 => ?_) (fun c_1289 => ?_)
    · skip
      refine lv_iinc (v := mI (z_1054 + 1)) (lv' := [(3, .int (mI (z_1054 + 1))), (4, .int (mI z_1274)), (2, .int (mI z_1275)), (0, .ref (a 36)), (1, .int (mI p0))]) hx hb dX6_gatherWithin_67 hl (k := 1) rfl (mI_ad rfl) (by decide) rfl (fun ls hl => ?_)
      refine lv_goto (tgt := 4) hx hb dX6_gatherWithin_70 (by decide) ?_
      exact ih_1176 _ _ _ _ (by omega) ⟨(z_1054 + 1), z_1275, F_1276, _, by omega, by omega, bF_1276, by omega, rfl, hP, hS, lv_sub hl [0, 2, 3, 4] rfl, rfl⟩
    · skip
      refine lv_aload_n hx hb dX6_gatherWithin_27 rfl (lv_at hl 3 rfl) ?_
      refine cg_smi_placedIrons hx hb hts hown hK hP uw_2_55 dX6_gatherWithin_28 ?_
      refine lv_iload_n hx hb dX6_gatherWithin_31 rfl (lv_at hl 1 rfl) ?_
      refine lv_bipush (v := mI 8) hx hb dX6_gatherWithin_32 (by decide) ?_
      refine sy_imul hx hb dX6_gatherWithin_34 (8 * z_1054) (by omega) ?_
      refine lv_iload hx hb dX6_gatherWithin_35 (lv_at hl 0 rfl) ?_
      refine sy_iadd hx hb dX6_gatherWithin_37 (8 * z_1054 + z_1274) rfl ?_
      refine cl_smi_placedIrons hx hb hK hP dX6_gatherWithin_38 (by omega) b_B_smi_placedIrons (fun z_1290 _ hz_1290 => ?_)
      refine lv_istore (lv' := [(5, .int (mI z_1290)), (4, .int (mI z_1274)), (3, .int (mI z_1054)), (2, .int (mI z_1275)), (0, .ref (a 36)), (1, .int (mI p0))]) hx hb dX6_gatherWithin_39 hl (by decide) rfl (fun ls hl => ?_)
      refine lv_iload hx hb dX6_gatherWithin_41 (lv_at hl 0 rfl) ?_
      refine lv_iload_n hx hb dX6_gatherWithin_43 rfl (lv_at hl 5 rfl) ?_
      refine lv_iconst (v := mI (-1)) hx hb dX6_gatherWithin_44 rfl ?_
      refine lv_ixor hx hb dX6_gatherWithin_45 ?_
      refine sy_any (fun z_1291 hz_1291 => ?_)
      refine sy_iandL hx hb dX6_gatherWithin_46 (by omega) (fun z_1292 hz_1292 => ?_)
      refine sy_if_ne (tgt := 61) hx hb dX6_gatherWithin_47 (by decide) (by omega) (fun c_1293 => ?_) (fun c_1293 => ?_)
      · skip
        refine lv_iinc (v := mI (z_1274 + 1)) (lv' := [(4, .int (mI (z_1274 + 1))), (5, .int (mI z_1290)), (3, .int (mI z_1054)), (2, .int (mI z_1275)), (0, .ref (a 36)), (1, .int (mI p0))]) hx hb dX6_gatherWithin_61 hl (k := 1) rfl (mI_ad rfl) (by decide) rfl (fun ls hl => ?_)
        refine lv_goto (tgt := 15) hx hb dX6_gatherWithin_64 (by decide) ?_
        exact ih_1286 _ _ _ _ (by omega) ⟨(z_1274 + 1), z_1275, F_1276, _, by omega, by omega, bF_1276, by omega, by omega, rfl, hP, hS, lv_sub hl [0, 2, 3, 4, 5] rfl, rfl⟩
      · skip
        refine lv_aload_n hx hb dX6_gatherWithin_50 rfl (lv_at hl 4 rfl) ?_
        refine cg_smi_within hx hb hts hown hK hP uw_2_56 dX6_gatherWithin_51 ?_
        refine lv_iload_n hx hb dX6_gatherWithin_54 rfl (lv_at hl 3 rfl) ?_
        refine lv_iload hx hb dX6_gatherWithin_55 (lv_at hl 0 rfl) ?_
        refine cs_smi_within hx hb hK hP hD hS dX6_gatherWithin_57 (by omega) bF_1276 (by omega) (fun F_1294 H locs _ bF_1294 hP hS => ?_)
        refine lv_iinc (v := mI (z_1275 + 1)) (lv' := [(2, .int (mI (z_1275 + 1))), (5, .int (mI z_1290)), (4, .int (mI z_1274)), (3, .int (mI z_1054)), (0, .ref (a 36)), (1, .int (mI p0))]) hx hb dX6_gatherWithin_58 hl (k := 3) rfl (mI_ad rfl) (by decide) rfl (fun ls hl => ?_)
        refine lv_iinc (v := mI (z_1274 + 1)) (lv' := [(4, .int (mI (z_1274 + 1))), (2, .int (mI (z_1275 + 1))), (5, .int (mI z_1290)), (3, .int (mI z_1054)), (0, .ref (a 36)), (1, .int (mI p0))]) hx hb dX6_gatherWithin_61 hl (k := 2) rfl (mI_ad rfl) (by decide) rfl (fun ls hl => ?_)
        refine lv_goto (tgt := 15) hx hb dX6_gatherWithin_64 (by decide) ?_
        exact ih_1286 _ _ _ _ (by omega) ⟨(z_1274 + 1), (z_1275 + 1), F_1294, _, by omega, by omega, bF_1294, by omega, by omega, rfl, hP, hS, lv_sub hl [0, 3, 1, 4, 5] rfl, rfl⟩
set_option maxHeartbeats 4000000 in
set_option maxRecDepth 100000 in
theorem kc_X6_aimAt {p0 : Int} (hp0 : 0 ≤ p0 ∧ p0 ≤ 4095) (h_x_lat_placements : 1 ≤ x_lat_placements ∧ x_lat_placements ≤ 8) (h_x_smi_irons : 0 ≤ x_smi_irons ∧ x_smi_irons ≤ 6) (h_x_smi_aim : -2147483648 ≤ x_smi_aim ∧ x_smi_aim ≤ 2147483647) (b_B_smi_placedIrons : bd (0) 4095 B_smi_placedIrons) (b_B_smi_within : bd (0) 4095 B_smi_within) (b_B_smi_costs : bd (-128) 127 B_smi_costs) : MetG l D k yX6_aimAt cX6_aimAt 9 none 2 [.ref (a 36), .int (mI p0)] (cW k a q x_xo_lyingCount x_tape_length x_tape_next x_tape_kind x_tape_place x_tape_number x_tape_faultKind x_tape_faultPlace x_told_turns x_told_mirror x_told_night x_told_draw x_told_herds x_told_irons x_told_beasts x_told_linesTold x_tfo_steps x_tfo_units x_draft_turns x_draft_mirror x_draft_night x_draft_draw x_draft_herds x_draft_irons x_draft_beasts x_draft_linesTold x_dfo_steps x_dfo_units x_lat_placements x_smi_irons x_smi_aim x_his_here x_his_undoable x_his_redoable x_book_placedCount x_wit_count x_wit_time n_tape_name B_xo_lying B_tape_bytes B_told_brands B_told_ironMarks B_told_homes B_told_births B_tfo_kinds B_tfo_numbers B_tfo_stack B_tfo_facts B_draft_brands B_draft_ironMarks B_draft_homes B_draft_births B_dfo_kinds B_dfo_numbers B_dfo_stack B_dfo_facts B_lat_lowHalves B_lat_highHalves B_lat_ways B_smi_placedIrons B_smi_within B_smi_costs B_his_isKept B_book_norms B_book_above B_book_heights B_book_placedBrands B_bea_firstGains B_bea_otherGains B_wit_burnings B_wit_strokes B_wit_wasOn B_wit_toldAt B_wit_untoldAt B_wit_on B_wit_off B_wit_firstCounts B_wit_secondCounts Ps Pd G_tape_wordNames G_told_herdNames G_told_ironNames G_told_beastNames G_draft_herdNames G_draft_ironNames G_draft_beastNames Ph Po Pg ex) (qGv (fun H => ∃ (F_smi_within : Nat → Int) (F_smi_costs : Nat → Int) (y_smi_aim : Int), (bd (0) 4095 F_smi_within) ∧ (bd (-128) 127 F_smi_costs) ∧ (0 ≤ y_smi_aim ∧ y_smi_aim ≤ 4095) ∧ va_P D vwCl (cW k a q x_xo_lyingCount x_tape_length x_tape_next x_tape_kind x_tape_place x_tape_number x_tape_faultKind x_tape_faultPlace x_told_turns x_told_mirror x_told_night x_told_draw x_told_herds x_told_irons x_told_beasts x_told_linesTold x_tfo_steps x_tfo_units x_draft_turns x_draft_mirror x_draft_night x_draft_draw x_draft_herds x_draft_irons x_draft_beasts x_draft_linesTold x_dfo_steps x_dfo_units x_lat_placements x_smi_irons y_smi_aim x_his_here x_his_undoable x_his_redoable x_book_placedCount x_wit_count x_wit_time n_tape_name B_xo_lying B_tape_bytes B_told_brands B_told_ironMarks B_told_homes B_told_births B_tfo_kinds B_tfo_numbers B_tfo_stack B_tfo_facts B_draft_brands B_draft_ironMarks B_draft_homes B_draft_births B_dfo_kinds B_dfo_numbers B_dfo_stack B_dfo_facts B_lat_lowHalves B_lat_highHalves B_lat_ways B_smi_placedIrons F_smi_within F_smi_costs B_his_isKept B_book_norms B_book_above B_book_heights B_book_placedBrands B_bea_firstGains B_bea_otherGains B_wit_burnings B_wit_strokes B_wit_wasOn B_wit_toldAt B_wit_untoldAt B_wit_on B_wit_off B_wit_firstCounts B_wit_secondCounts Ps Pd G_tape_wordNames G_told_herdNames G_told_ironNames G_told_beastNames G_draft_herdNames G_draft_ironNames G_draft_beastNames Ph Po Pg ex) H)) := by
  refine metG_of 1 ck_X6_aimAt (Nat.le_of_ble_eq_true rfl) cMap (fun p e s m args below meth c A hx hb hml hr hlocks hown hts hK hD hA hP hS ls hl => ?_)
  have hown : s.vm.findClass "HideReader$Smith" = some m.cls := hown
  have hl : lv_has ls 9 [(0, .ref (a 36)), (1, .int (mI p0))] := hl
  refine lv_aload_n hx hb dX6_aimAt_0 rfl (lv_at hl 0 rfl) ?_
  refine cg_smi_aim hx hb hts hown hK hP uw_2_59 dX6_aimAt_1 ?_
  refine lv_iload_n hx hb dX6_aimAt_4 rfl (lv_at hl 1 rfl) ?_
  refine sy_icmp_ne (tgt := 9) hx hb dX6_aimAt_5 (by decide) (by omega) (by omega) (fun c_1 => ?_) (fun c_1 => ?_)
  · skip
    refine lv_aload_n hx hb dX6_aimAt_9 rfl (lv_at hl 0 rfl) ?_
    refine lv_iload_n hx hb dX6_aimAt_10 rfl (lv_at hl 1 rfl) ?_
    refine cp_smi_aim hx hb hts hown hK hP hD hS uw_2_59 dX6_aimAt_11 (fun H locs hP hS => ?_)
    refine lv_aload_n hx hb dX6_aimAt_14 rfl (lv_at hl 0 rfl) ?_
    refine lv_iload_n hx hb dX6_aimAt_15 rfl (lv_at hl 1 rfl) ?_
    refine g_i (cDt hD) hS hA (g_V (own := "HideReader$Smith") (As := [.int (mI p0)]) (rest := []) hx hb hml hown hts hK hP (cDt hD) (kc_X6_gatherWithin (l := l) (D := D) (k := k) (by omega) h_x_lat_placements h_x_smi_irons b_B_smi_placedIrons b_B_smi_within) ck_X6_gatherWithin iv_X6_gatherWithin uw_5_19 (cv_smi hK hP) rfl hl.1 rfl (Nat.le_of_ble_eq_true rfl) dX6_aimAt_16 ⟨Nat.le_of_ble_eq_true rfl, Nat.le_of_ble_eq_true rfl⟩ ⟨Nat.le_of_ble_eq_true rfl, Nat.le_of_ble_eq_true rfl⟩) (fun r_2 H locs hQ hS => ?_)
    obtain ⟨F_3, hr_2_0, bF_3, hP⟩ := hQ
    refine lv_istore_n (lv' := [(2, .int (mI r_2)), (0, .ref (a 36)), (1, .int (mI p0))]) hx hb dX6_aimAt_19 rfl hl (by decide) rfl (fun ls hl => ?_)
    refine lv_iconst (v := mI 1) hx hb dX6_aimAt_20 rfl ?_
    refine lv_iload_n hx hb dX6_aimAt_21 rfl (lv_at hl 2 rfl) ?_
    refine g_i (cDt hD) hS hA (g_S (own := "HideReader$Smith") (As := [.int (mI p0)]) (rest := [.int (mI 1)]) hx hb hml hown hts hK hP (cDt hD) (kc_bitCount (l := l) (D := D) (k := k) (by omega)) ck_J6_bitCount_0f7a4 uw_4_140 uw_5_23 rfl hl.1 rfl (Nat.le_of_ble_eq_true rfl) dX6_aimAt_22 ⟨Nat.le_of_ble_eq_true rfl, Nat.le_of_ble_eq_true rfl⟩ ⟨Nat.le_of_ble_eq_true rfl, Nat.le_of_ble_eq_true rfl⟩) (fun r_4 H locs hQ hS => ?_)
    obtain ⟨hr_4_0, hP⟩ := hQ
    refine sy_shl1 hx hb dX6_aimAt_25 12 (by decide) 4096 (by decide) (by omega) (fun z_5 ez_5 hz_5 => ?_)
    refine lv_istore_n (lv' := [(3, .int (mI z_5)), (2, .int (mI r_2)), (0, .ref (a 36)), (1, .int (mI p0))]) hx hb dX6_aimAt_26 rfl hl (by decide) rfl (fun ls hl => ?_)
    refine lv_iconst (v := mI 0) hx hb dX6_aimAt_27 rfl ?_
    refine lv_istore (lv' := [(4, .int (mI 0)), (3, .int (mI z_5)), (2, .int (mI r_2)), (0, .ref (a 36)), (1, .int (mI p0))]) hx hb dX6_aimAt_28 hl (by decide) rfl (fun ls hl => ?_)
    refine lv_aload_n hx hb dX6_aimAt_30 rfl (lv_at hl 3 rfl) ?_
    refine cg_smi_costs hx hb hts hown hK hP uw_2_57 dX6_aimAt_31 ?_
    refine lv_iconst (v := mI 0) hx hb dX6_aimAt_34 rfl ?_
    refine lv_iconst (v := mI 0) hx hb dX6_aimAt_35 rfl ?_
    refine cs_smi_costs hx hb hK hP hD hS (by decide) dX6_aimAt_36 (by omega) b_B_smi_costs (by omega) (fun F_6 H locs _ bF_6 hP hS => ?_)
    refine lv_iconst (v := mI 1) hx hb dX6_aimAt_37 rfl ?_
    refine lv_istore (lv' := [(5, .int (mI 1)), (4, .int (mI 0)), (3, .int (mI z_5)), (2, .int (mI r_2)), (0, .ref (a 36)), (1, .int (mI p0))]) hx hb dX6_aimAt_38 hl (by decide) rfl (fun ls hl => ?_)
    refine sy_loop (I := fun n H locs g => ∃ (z_2500 : Int) (z_2501 : Int) (F_2502 : Nat → Int) (ls : Array Slot), (1 ≤ z_2500 ∧ z_2500 ≤ 4096) ∧ (0 ≤ z_2501 ∧ z_2501 ≤ 4095) ∧ (bd (-128) 127 F_2502) ∧ (4096 - z_2500).toNat = n ∧ va_P D vwCl (cW k a q x_xo_lyingCount x_tape_length x_tape_next x_tape_kind x_tape_place x_tape_number x_tape_faultKind x_tape_faultPlace x_told_turns x_told_mirror x_told_night x_told_draw x_told_herds x_told_irons x_told_beasts x_told_linesTold x_tfo_steps x_tfo_units x_draft_turns x_draft_mirror x_draft_night x_draft_draw x_draft_herds x_draft_irons x_draft_beasts x_draft_linesTold x_dfo_steps x_dfo_units x_lat_placements x_smi_irons p0 x_his_here x_his_undoable x_his_redoable x_book_placedCount x_wit_count x_wit_time n_tape_name B_xo_lying B_tape_bytes B_told_brands B_told_ironMarks B_told_homes B_told_births B_tfo_kinds B_tfo_numbers B_tfo_stack B_tfo_facts B_draft_brands B_draft_ironMarks B_draft_homes B_draft_births B_dfo_kinds B_dfo_numbers B_dfo_stack B_dfo_facts B_lat_lowHalves B_lat_highHalves B_lat_ways B_smi_placedIrons F_3 F_2502 B_his_isKept B_book_norms B_book_above B_book_heights B_book_placedBrands B_bea_firstGains B_bea_otherGains B_wit_burnings B_wit_strokes B_wit_wasOn B_wit_toldAt B_wit_untoldAt B_wit_on B_wit_off B_wit_firstCounts B_wit_secondCounts Ps Pd G_tape_wordNames G_told_herdNames G_told_ironNames G_told_beastNames G_draft_herdNames G_draft_ironNames G_draft_beastNames Ph Po Pg ex) H ∧ va_S A s.heap H locs ∧ lv_has ls 9 [(5, .int (mI z_2500)), (4, .int (mI z_2501)), (3, .int (mI z_5)), (2, .int (mI r_2)), (0, .ref (a 36)), (1, .int (mI p0))] ∧ g = F0 m 40 ls []) ?_ _ ⟨1, 0, F_6, _, by omega, by omega, bF_6, rfl, hP, hS, lv_sub hl [0, 1, 2, 3, 4, 5] rfl, rfl⟩
    intro n_2812 H locs g hI ih_2813
    obtain ⟨z_2500, z_2501, F_2502, ls, h40_0, h40_1, bF_2502, mn_2812, hP, hS, hl, rfl⟩ := hI
    refine lv_iload hx hb dX6_aimAt_40 (lv_at hl 0 rfl) ?_
    refine lv_iload_n hx hb dX6_aimAt_42 rfl (lv_at hl 2 rfl) ?_
    refine sy_icmp_ge (tgt := 136) hx hb dX6_aimAt_43 (by decide) (by omega) (by omega) (fun c_2814 => ?_) (fun c_2814 => ?_)
    · skip
      exact r_v hx hb hr hlocks dX6_aimAt_136 hS ⟨F_3, F_2502, p0, bF_3, bF_2502, by omega, hP⟩
    · skip
      refine lv_iload hx hb dX6_aimAt_46 (lv_at hl 1 rfl) ?_
      refine lv_iload_n hx hb dX6_aimAt_48 rfl (lv_at hl 5 rfl) ?_
      refine sy_isub hx hb dX6_aimAt_49 (z_2501 - p0) rfl ?_
      refine lv_iload_n hx hb dX6_aimAt_50 rfl (lv_at hl 5 rfl) ?_
      refine sy_iandR hx hb dX6_aimAt_51 (by omega) (fun z_2815 hz_2815 => ?_)
      refine lv_istore (lv' := [(4, .int (mI z_2815)), (5, .int (mI z_2500)), (3, .int (mI z_5)), (2, .int (mI r_2)), (0, .ref (a 36)), (1, .int (mI p0))]) hx hb dX6_aimAt_52 hl (by decide) rfl (fun ls hl => ?_)
      refine lv_iload hx hb dX6_aimAt_54 (lv_at hl 0 rfl) ?_
      refine lv_iload hx hb dX6_aimAt_56 (lv_at hl 0 rfl) ?_
      refine sy_ineg hx hb dX6_aimAt_58 (-z_2815) (by omega) ?_
      refine sy_iandL hx hb dX6_aimAt_59 (by omega) (fun z_2816 hz_2816 => ?_)
      refine lv_istore (lv' := [(6, .int (mI z_2816)), (4, .int (mI z_2815)), (5, .int (mI z_2500)), (3, .int (mI z_5)), (2, .int (mI r_2)), (0, .ref (a 36)), (1, .int (mI p0))]) hx hb dX6_aimAt_60 hl (by decide) rfl (fun ls hl => ?_)
      refine lv_bipush (v := mI 100) hx hb dX6_aimAt_62 (by decide) ?_
      refine lv_istore (lv' := [(7, .int (mI 100)), (6, .int (mI z_2816)), (4, .int (mI z_2815)), (5, .int (mI z_2500)), (3, .int (mI z_5)), (2, .int (mI r_2)), (0, .ref (a 36)), (1, .int (mI p0))]) hx hb dX6_aimAt_64 hl (by decide) rfl (fun ls hl => ?_)
      refine lv_iconst (v := mI 0) hx hb dX6_aimAt_66 rfl ?_
      refine lv_istore (lv' := [(8, .int (mI 0)), (7, .int (mI 100)), (6, .int (mI z_2816)), (4, .int (mI z_2815)), (5, .int (mI z_2500)), (3, .int (mI z_5)), (2, .int (mI r_2)), (0, .ref (a 36)), (1, .int (mI p0))]) hx hb dX6_aimAt_67 hl (by decide) rfl (fun ls hl => ?_)
      refine sy_loop (I := fun n H locs g => ∃ (z_3079 : Int) (z_3080 : Int) (ls : Array Slot), (0 ≤ z_3079 ∧ z_3079 ≤ 48) ∧ (-128 ≤ z_3080 ∧ z_3080 ≤ 100) ∧ (48 - z_3079).toNat = n ∧ va_P D vwCl (cW k a q x_xo_lyingCount x_tape_length x_tape_next x_tape_kind x_tape_place x_tape_number x_tape_faultKind x_tape_faultPlace x_told_turns x_told_mirror x_told_night x_told_draw x_told_herds x_told_irons x_told_beasts x_told_linesTold x_tfo_steps x_tfo_units x_draft_turns x_draft_mirror x_draft_night x_draft_draw x_draft_herds x_draft_irons x_draft_beasts x_draft_linesTold x_dfo_steps x_dfo_units x_lat_placements x_smi_irons p0 x_his_here x_his_undoable x_his_redoable x_book_placedCount x_wit_count x_wit_time n_tape_name B_xo_lying B_tape_bytes B_told_brands B_told_ironMarks B_told_homes B_told_births B_tfo_kinds B_tfo_numbers B_tfo_stack B_tfo_facts B_draft_brands B_draft_ironMarks B_draft_homes B_draft_births B_dfo_kinds B_dfo_numbers B_dfo_stack B_dfo_facts B_lat_lowHalves B_lat_highHalves B_lat_ways B_smi_placedIrons F_3 F_2502 B_his_isKept B_book_norms B_book_above B_book_heights B_book_placedBrands B_bea_firstGains B_bea_otherGains B_wit_burnings B_wit_strokes B_wit_wasOn B_wit_toldAt B_wit_untoldAt B_wit_on B_wit_off B_wit_firstCounts B_wit_secondCounts Ps Pd G_tape_wordNames G_told_herdNames G_told_ironNames G_told_beastNames G_draft_herdNames G_draft_ironNames G_draft_beastNames Ph Po Pg ex) H ∧ va_S A s.heap H locs ∧ lv_has ls 9 [(8, .int (mI z_3079)), (7, .int (mI z_3080)), (6, .int (mI z_2816)), (4, .int (mI z_2815)), (5, .int (mI z_2500)), (3, .int (mI z_5)), (2, .int (mI r_2)), (0, .ref (a 36)), (1, .int (mI p0))] ∧ g = F0 m 69 ls []) ?_ _ ⟨0, 100, _, by omega, by omega, rfl, hP, hS, lv_sub hl [0, 1, 2, 3, 4, 5, 6, 7, 8] rfl, rfl⟩
      intro n_3101 H locs g hI ih_3102
      obtain ⟨z_3079, z_3080, ls, h69_0, h69_1, mn_3101, hP, hS, hl, rfl⟩ := hI
      refine lv_iload hx hb dX6_aimAt_69 (lv_at hl 0 rfl) ?_
      refine lv_iload_n hx hb dX6_aimAt_71 rfl (lv_at hl 6 rfl) ?_
      refine sy_icmp_ge (tgt := 120) hx hb dX6_aimAt_72 (by decide) (by omega) (by omega) (fun c_3112 => ?_) (fun c_3112 => ?_)
      · skip
        refine lv_aload_n hx hb dX6_aimAt_120 rfl (lv_at hl 7 rfl) ?_
        refine cg_smi_costs hx hb hts hown hK hP uw_2_57 dX6_aimAt_121 ?_
        refine lv_iload hx hb dX6_aimAt_124 (lv_at hl 3 rfl) ?_
        refine lv_iload hx hb dX6_aimAt_126 (lv_at hl 1 rfl) ?_
        refine sy_i2b hx hb dX6_aimAt_128 (fun z_3113 hz_3113 => ?_)
        refine cs_smi_costs hx hb hK hP hD hS (by decide) dX6_aimAt_129 (by omega) bF_2502 (by omega) (fun F_3114 H locs _ bF_3114 hP hS => ?_)
        refine lv_iinc (v := mI (z_2500 + 1)) (lv' := [(5, .int (mI (z_2500 + 1))), (8, .int (mI z_3079)), (7, .int (mI z_3080)), (6, .int (mI z_2816)), (4, .int (mI z_2815)), (3, .int (mI z_5)), (2, .int (mI r_2)), (0, .ref (a 36)), (1, .int (mI p0))]) hx hb dX6_aimAt_130 hl (k := 4) rfl (mI_ad rfl) (by decide) rfl (fun ls hl => ?_)
        refine lv_goto (tgt := 40) hx hb dX6_aimAt_133 (by decide) ?_
        exact ih_2813 _ _ _ _ (by omega) ⟨(z_2500 + 1), z_2815, F_3114, _, by omega, by omega, bF_3114, rfl, hP, hS, lv_sub hl [0, 4, 5, 6, 7, 8] rfl, rfl⟩
      · skip
        refine lv_aload_n hx hb dX6_aimAt_75 rfl (lv_at hl 7 rfl) ?_
        refine cg_smi_within hx hb hts hown hK hP uw_2_56 dX6_aimAt_76 ?_
        refine lv_iload hx hb dX6_aimAt_79 (lv_at hl 0 rfl) ?_
        refine cl_smi_within hx hb hK hP dX6_aimAt_81 (by omega) bF_3 (fun z_3115 _ hz_3115 => ?_)
        refine lv_iload hx hb dX6_aimAt_82 (lv_at hl 2 rfl) ?_
        refine sy_iandR hx hb dX6_aimAt_84 (by omega) (fun z_3116 hz_3116 => ?_)
        refine sy_if_eq (tgt := 114) hx hb dX6_aimAt_85 (by decide) (by omega) (fun c_3117 => ?_) (fun c_3117 => ?_)
        · skip
          refine lv_iinc (v := mI (z_3079 + 1)) (lv' := [(8, .int (mI (z_3079 + 1))), (7, .int (mI z_3080)), (6, .int (mI z_2816)), (4, .int (mI z_2815)), (5, .int (mI z_2500)), (3, .int (mI z_5)), (2, .int (mI r_2)), (0, .ref (a 36)), (1, .int (mI p0))]) hx hb dX6_aimAt_114 hl (k := 0) rfl (mI_ad rfl) (by decide) rfl (fun ls hl => ?_)
          refine lv_goto (tgt := 69) hx hb dX6_aimAt_117 (by decide) ?_
          exact ih_3102 _ _ _ _ (by omega) ⟨(z_3079 + 1), z_3080, _, by omega, by omega, rfl, hP, hS, lv_sub hl [0, 1, 2, 3, 4, 5, 6, 7, 8] rfl, rfl⟩
        · skip
          refine lv_iload hx hb dX6_aimAt_88 (lv_at hl 1 rfl) ?_
          refine lv_aload_n hx hb dX6_aimAt_90 rfl (lv_at hl 7 rfl) ?_
          refine cg_smi_costs hx hb hts hown hK hP uw_2_57 dX6_aimAt_91 ?_
          refine lv_iload hx hb dX6_aimAt_94 (lv_at hl 3 rfl) ?_
          refine lv_aload_n hx hb dX6_aimAt_96 rfl (lv_at hl 7 rfl) ?_
          refine cg_smi_within hx hb hts hown hK hP uw_2_56 dX6_aimAt_97 ?_
          refine lv_iload hx hb dX6_aimAt_100 (lv_at hl 0 rfl) ?_
          refine cl_smi_within hx hb hK hP dX6_aimAt_102 (by omega) bF_3 (fun z_3118 _ hz_3118 => ?_)
          refine lv_iconst (v := mI (-1)) hx hb dX6_aimAt_103 rfl ?_
          refine lv_ixor hx hb dX6_aimAt_104 ?_
          refine sy_any (fun z_3119 hz_3119 => ?_)
          refine sy_iandL hx hb dX6_aimAt_105 (by omega) (fun z_3120 hz_3120 => ?_)
          refine cl_smi_costs hx hb hK hP dX6_aimAt_106 (by omega) bF_2502 (fun z_3121 _ hz_3121 => ?_)
          refine lv_iconst (v := mI 1) hx hb dX6_aimAt_107 rfl ?_
          refine sy_iadd hx hb dX6_aimAt_108 (z_3121 + 1) rfl ?_
          refine sy_min hx hb (hml.trans hl.1.symm) hown hts uw_5_24 (Nat.le_of_ble_eq_true rfl) (Nat.le_of_ble_eq_true rfl) (Nat.le_of_ble_eq_true rfl) (Nat.le_of_ble_eq_true rfl) dX6_aimAt_109 (by omega) (by omega) (fun z_3122 hz_3122 => ?_)
          refine lv_istore (lv' := [(7, .int (mI z_3122)), (8, .int (mI z_3079)), (6, .int (mI z_2816)), (4, .int (mI z_2815)), (5, .int (mI z_2500)), (3, .int (mI z_5)), (2, .int (mI r_2)), (0, .ref (a 36)), (1, .int (mI p0))]) hx hb dX6_aimAt_112 hl (by decide) rfl (fun ls hl => ?_)
          refine lv_iinc (v := mI (z_3079 + 1)) (lv' := [(8, .int (mI (z_3079 + 1))), (7, .int (mI z_3122)), (6, .int (mI z_2816)), (4, .int (mI z_2815)), (5, .int (mI z_2500)), (3, .int (mI z_5)), (2, .int (mI r_2)), (0, .ref (a 36)), (1, .int (mI p0))]) hx hb dX6_aimAt_114 hl (k := 1) rfl (mI_ad rfl) (by decide) rfl (fun ls hl => ?_)
          refine lv_goto (tgt := 69) hx hb dX6_aimAt_117 (by decide) ?_
          exact ih_3102 _ _ _ _ (by omega) ⟨(z_3079 + 1), z_3122, _, by omega, by omega, rfl, hP, hS, lv_sub hl [0, 1, 2, 3, 4, 5, 6, 7, 8] rfl, rfl⟩
  · skip
    exact r_v hx hb hr hlocks dX6_aimAt_8 hS ⟨B_smi_within, B_smi_costs, x_smi_aim, b_B_smi_within, b_B_smi_costs, by omega, hP⟩
set_option maxHeartbeats 4000000 in
set_option maxRecDepth 100000 in
theorem kc_X6_fewest {p0 p1 : Int} (hp0 : -2147483648 ≤ p0 ∧ p0 ≤ 2147483647) (hp1 : 0 ≤ p1 ∧ p1 ≤ 4095) (h_x_lat_placements : 1 ≤ x_lat_placements ∧ x_lat_placements ≤ 8) (h_x_smi_irons : 0 ≤ x_smi_irons ∧ x_smi_irons ≤ 6) (h_x_smi_aim : -2147483648 ≤ x_smi_aim ∧ x_smi_aim ≤ 2147483647) (b_B_lat_lowHalves : bd (0) 4095 B_lat_lowHalves) (b_B_lat_highHalves : bd (0) 4095 B_lat_highHalves) (b_B_lat_ways : bd (0) 7 B_lat_ways) (b_B_smi_placedIrons : bd (0) 4095 B_smi_placedIrons) (b_B_smi_within : bd (0) 4095 B_smi_within) (b_B_smi_costs : bd (-128) 127 B_smi_costs) : MetG l D k yX6_fewest cX6_fewest 6 (some .int) 3 [.ref (a 36), .int (mI p0), .int (mI p1)] (cW k a q x_xo_lyingCount x_tape_length x_tape_next x_tape_kind x_tape_place x_tape_number x_tape_faultKind x_tape_faultPlace x_told_turns x_told_mirror x_told_night x_told_draw x_told_herds x_told_irons x_told_beasts x_told_linesTold x_tfo_steps x_tfo_units x_draft_turns x_draft_mirror x_draft_night x_draft_draw x_draft_herds x_draft_irons x_draft_beasts x_draft_linesTold x_dfo_steps x_dfo_units x_lat_placements x_smi_irons x_smi_aim x_his_here x_his_undoable x_his_redoable x_book_placedCount x_wit_count x_wit_time n_tape_name B_xo_lying B_tape_bytes B_told_brands B_told_ironMarks B_told_homes B_told_births B_tfo_kinds B_tfo_numbers B_tfo_stack B_tfo_facts B_draft_brands B_draft_ironMarks B_draft_homes B_draft_births B_dfo_kinds B_dfo_numbers B_dfo_stack B_dfo_facts B_lat_lowHalves B_lat_highHalves B_lat_ways B_smi_placedIrons B_smi_within B_smi_costs B_his_isKept B_book_norms B_book_above B_book_heights B_book_placedBrands B_bea_firstGains B_bea_otherGains B_wit_burnings B_wit_strokes B_wit_wasOn B_wit_toldAt B_wit_untoldAt B_wit_on B_wit_off B_wit_firstCounts B_wit_secondCounts Ps Pd G_tape_wordNames G_told_herdNames G_told_ironNames G_told_beastNames G_draft_herdNames G_draft_ironNames G_draft_beastNames Ph Po Pg ex) (qGi (fun r0 H => ∃ (F_smi_within : Nat → Int) (F_smi_costs : Nat → Int) (y_smi_aim : Int), (-128 ≤ r0 ∧ r0 ≤ 4) ∧ (bd (0) 4095 F_smi_within) ∧ (bd (-128) 127 F_smi_costs) ∧ (-2147483648 ≤ y_smi_aim ∧ y_smi_aim ≤ 2147483647) ∧ va_P D vwCl (cW k a q x_xo_lyingCount x_tape_length x_tape_next x_tape_kind x_tape_place x_tape_number x_tape_faultKind x_tape_faultPlace x_told_turns x_told_mirror x_told_night x_told_draw x_told_herds x_told_irons x_told_beasts x_told_linesTold x_tfo_steps x_tfo_units x_draft_turns x_draft_mirror x_draft_night x_draft_draw x_draft_herds x_draft_irons x_draft_beasts x_draft_linesTold x_dfo_steps x_dfo_units x_lat_placements x_smi_irons y_smi_aim x_his_here x_his_undoable x_his_redoable x_book_placedCount x_wit_count x_wit_time n_tape_name B_xo_lying B_tape_bytes B_told_brands B_told_ironMarks B_told_homes B_told_births B_tfo_kinds B_tfo_numbers B_tfo_stack B_tfo_facts B_draft_brands B_draft_ironMarks B_draft_homes B_draft_births B_dfo_kinds B_dfo_numbers B_dfo_stack B_dfo_facts B_lat_lowHalves B_lat_highHalves B_lat_ways B_smi_placedIrons F_smi_within F_smi_costs B_his_isKept B_book_norms B_book_above B_book_heights B_book_placedBrands B_bea_firstGains B_bea_otherGains B_wit_burnings B_wit_strokes B_wit_wasOn B_wit_toldAt B_wit_untoldAt B_wit_on B_wit_off B_wit_firstCounts B_wit_secondCounts Ps Pd G_tape_wordNames G_told_herdNames G_told_ironNames G_told_beastNames G_draft_herdNames G_draft_ironNames G_draft_beastNames Ph Po Pg ex) H)) := by
  refine metG_of 2 ck_X6_fewest (Nat.le_of_ble_eq_true rfl) cMap (fun p e s m args below meth c A hx hb hml hr hlocks hown hts hK hD hA hP hS ls hl => ?_)
  have hown : s.vm.findClass "HideReader$Smith" = some m.cls := hown
  have hl : lv_has ls 6 [(0, .ref (a 36)), (1, .int (mI p0)), (2, .int (mI p1))] := hl
  refine lv_bipush (v := mI 100) hx hb dX6_fewest_0 (by decide) ?_
  refine lv_istore_n (lv' := [(3, .int (mI 100)), (0, .ref (a 36)), (1, .int (mI p0)), (2, .int (mI p1))]) hx hb dX6_fewest_2 rfl hl (by decide) rfl (fun ls hl => ?_)
  refine lv_iconst (v := mI 0) hx hb dX6_fewest_3 rfl ?_
  refine lv_istore (lv' := [(4, .int (mI 0)), (3, .int (mI 100)), (0, .ref (a 36)), (1, .int (mI p0)), (2, .int (mI p1))]) hx hb dX6_fewest_4 hl (by decide) rfl (fun ls hl => ?_)
  refine sy_loop (I := fun n H locs g => ∃ (z_403 : Int) (z_404 : Int) (F_405 : Nat → Int) (F_406 : Nat → Int) (y_407 : Int) (ls : Array Slot), (0 ≤ z_403 ∧ z_403 ≤ 8) ∧ (-128 ≤ z_404 ∧ z_404 ≤ 100) ∧ (bd (0) 4095 F_405) ∧ (bd (-128) 127 F_406) ∧ (-2147483648 ≤ y_407 ∧ y_407 ≤ 2147483647) ∧ (8 - z_403).toNat = n ∧ va_P D vwCl (cW k a q x_xo_lyingCount x_tape_length x_tape_next x_tape_kind x_tape_place x_tape_number x_tape_faultKind x_tape_faultPlace x_told_turns x_told_mirror x_told_night x_told_draw x_told_herds x_told_irons x_told_beasts x_told_linesTold x_tfo_steps x_tfo_units x_draft_turns x_draft_mirror x_draft_night x_draft_draw x_draft_herds x_draft_irons x_draft_beasts x_draft_linesTold x_dfo_steps x_dfo_units x_lat_placements x_smi_irons y_407 x_his_here x_his_undoable x_his_redoable x_book_placedCount x_wit_count x_wit_time n_tape_name B_xo_lying B_tape_bytes B_told_brands B_told_ironMarks B_told_homes B_told_births B_tfo_kinds B_tfo_numbers B_tfo_stack B_tfo_facts B_draft_brands B_draft_ironMarks B_draft_homes B_draft_births B_dfo_kinds B_dfo_numbers B_dfo_stack B_dfo_facts B_lat_lowHalves B_lat_highHalves B_lat_ways B_smi_placedIrons F_405 F_406 B_his_isKept B_book_norms B_book_above B_book_heights B_book_placedBrands B_bea_firstGains B_bea_otherGains B_wit_burnings B_wit_strokes B_wit_wasOn B_wit_toldAt B_wit_untoldAt B_wit_on B_wit_off B_wit_firstCounts B_wit_secondCounts Ps Pd G_tape_wordNames G_told_herdNames G_told_ironNames G_told_beastNames G_draft_herdNames G_draft_ironNames G_draft_beastNames Ph Po Pg ex) H ∧ va_S A s.heap H locs ∧ lv_has ls 6 [(4, .int (mI z_403)), (3, .int (mI z_404)), (0, .ref (a 36)), (1, .int (mI p0)), (2, .int (mI p1))] ∧ g = F0 m 6 ls []) ?_ _ ⟨0, 100, B_smi_within, B_smi_costs, x_smi_aim, _, by omega, by omega, b_B_smi_within, b_B_smi_costs, by omega, rfl, hP, hS, lv_sub hl [0, 1, 2, 3, 4] rfl, rfl⟩
  intro n_437 H locs g hI ih_438
  obtain ⟨z_403, z_404, F_405, F_406, y_407, ls, h6_0, h6_1, bF_405, bF_406, h6_4, mn_437, hP, hS, hl, rfl⟩ := hI
  refine lv_iload hx hb dX6_fewest_6 (lv_at hl 0 rfl) ?_
  refine lv_aload_n hx hb dX6_fewest_8 rfl (lv_at hl 2 rfl) ?_
  refine cg_smi_lattice hx hb hts hown hK hP uw_2_54 dX6_fewest_9 ?_
  refine g_i (cDt hD) hS hA (g_V (own := "HideReader$Smith") (As := []) (rest := [.int (mI z_403)]) hx hb hml hown hts hK hP (cDt hD) (kc_X4_placements (l := l) (D := D) (k := k) h_x_lat_placements) ck_X4_placements iv_X4_placements uw_4_40 (cv_lat hK hP) rfl hl.1 rfl (Nat.le_of_ble_eq_true rfl) dX6_fewest_12 ⟨Nat.le_of_ble_eq_true rfl, Nat.le_of_ble_eq_true rfl⟩ ⟨Nat.le_of_ble_eq_true rfl, Nat.le_of_ble_eq_true rfl⟩) (fun r_439 H locs hQ hS => ?_)
  obtain ⟨hq_r_439, hP⟩ := hQ
  obtain rfl := hq_r_439
  refine sy_icmp_ge (tgt := 66) hx hb dX6_fewest_15 (by decide) (by omega) (by omega) (fun c_454 => ?_) (fun c_454 => ?_)
  · skip
    refine lv_iload_n hx hb dX6_fewest_66 rfl (lv_at hl 1 rfl) ?_
    refine lv_iconst (v := mI 4) hx hb dX6_fewest_67 rfl ?_
    refine sy_icmp_gt (tgt := 75) hx hb dX6_fewest_68 (by decide) (by omega) (by decide) (fun c_455 => ?_) (fun c_455 => ?_)
    · skip
      refine lv_iconst (v := mI (-1)) hx hb dX6_fewest_75 rfl ?_
      exact r_i hx hb hr hlocks dX6_fewest_76 hS ⟨F_405, F_406, y_407, by omega, bF_405, bF_406, by omega, hP⟩
    · skip
      refine lv_iload_n hx hb dX6_fewest_71 rfl (lv_at hl 1 rfl) ?_
      refine lv_goto (tgt := 76) hx hb dX6_fewest_72 (by decide) ?_
      exact r_i hx hb hr hlocks dX6_fewest_76 hS ⟨F_405, F_406, y_407, by omega, bF_405, bF_406, by omega, hP⟩
  · skip
    refine lv_aload_n hx hb dX6_fewest_18 rfl (lv_at hl 2 rfl) ?_
    refine cg_smi_lattice hx hb hts hown hK hP uw_2_54 dX6_fewest_19 ?_
    refine lv_iload_n hx hb dX6_fewest_22 rfl (lv_at hl 3 rfl) ?_
    refine lv_iload hx hb dX6_fewest_23 (lv_at hl 0 rfl) ?_
    refine g_i (cDt hD) hS hA (g_V (own := "HideReader$Smith") (As := [.int (mI p0), .int (mI z_403)]) (rest := []) hx hb hml hown hts hK hP (cDt hD) (kc_X4_moved (l := l) (D := D) (k := k) (by omega) (by omega) b_B_lat_lowHalves b_B_lat_highHalves b_B_lat_ways) ck_X4_moved iv_X4_moved uw_4_44 (cv_lat hK hP) rfl hl.1 rfl (Nat.le_of_ble_eq_true rfl) dX6_fewest_25 ⟨Nat.le_of_ble_eq_true rfl, Nat.le_of_ble_eq_true rfl⟩ ⟨Nat.le_of_ble_eq_true rfl, Nat.le_of_ble_eq_true rfl⟩) (fun r_456 H locs hQ hS => ?_)
    obtain ⟨hr_456_0, hP⟩ := hQ
    refine lv_istore (lv' := [(5, .int (mI r_456)), (4, .int (mI z_403)), (3, .int (mI z_404)), (0, .ref (a 36)), (1, .int (mI p0)), (2, .int (mI p1))]) hx hb dX6_fewest_28 hl (by decide) rfl (fun ls hl => ?_)
    refine lv_iload hx hb dX6_fewest_30 (lv_at hl 0 rfl) ?_
    refine lv_iload_n hx hb dX6_fewest_32 rfl (lv_at hl 5 rfl) ?_
    refine lv_iconst (v := mI (-1)) hx hb dX6_fewest_33 rfl ?_
    refine lv_ixor hx hb dX6_fewest_34 ?_
    refine sy_any (fun z_457 hz_457 => ?_)
    refine sy_iandL hx hb dX6_fewest_35 (by omega) (fun z_458 hz_458 => ?_)
    refine sy_if_ne (tgt := 60) hx hb dX6_fewest_36 (by decide) (by omega) (fun c_459 => ?_) (fun c_459 => ?_)
    · skip
      refine lv_iinc (v := mI (z_403 + 1)) (lv' := [(4, .int (mI (z_403 + 1))), (5, .int (mI r_456)), (3, .int (mI z_404)), (0, .ref (a 36)), (1, .int (mI p0)), (2, .int (mI p1))]) hx hb dX6_fewest_60 hl (k := 1) rfl (mI_ad rfl) (by decide) rfl (fun ls hl => ?_)
      refine lv_goto (tgt := 6) hx hb dX6_fewest_63 (by decide) ?_
      exact ih_438 _ _ _ _ (by omega) ⟨(z_403 + 1), z_404, F_405, F_406, y_407, _, by omega, by omega, bF_405, bF_406, by omega, rfl, hP, hS, lv_sub hl [0, 2, 3, 4, 5] rfl, rfl⟩
    · skip
      refine lv_aload_n hx hb dX6_fewest_39 rfl (lv_at hl 3 rfl) ?_
      refine lv_iload_n hx hb dX6_fewest_40 rfl (lv_at hl 5 rfl) ?_
      refine g_v (cDt hD) hS hA (g_V (own := "HideReader$Smith") (As := [.int (mI p1)]) (rest := []) hx hb hml hown hts hK hP (cDt hD) (kc_X6_aimAt (l := l) (D := D) (k := k) (by omega) h_x_lat_placements h_x_smi_irons (by omega) b_B_smi_placedIrons bF_405 bF_406) ck_X6_aimAt iv_X6_aimAt uw_5_15 (cv_smi hK hP) rfl hl.1 rfl (Nat.le_of_ble_eq_true rfl) dX6_fewest_41 ⟨Nat.le_of_ble_eq_true rfl, Nat.le_of_ble_eq_true rfl⟩ ⟨Nat.le_of_ble_eq_true rfl, Nat.le_of_ble_eq_true rfl⟩) (fun H locs hQ hS => ?_)
      obtain ⟨F_461, F_462, y_463, bF_461, bF_462, hr_460_2, hP⟩ := hQ
      refine lv_iload_n hx hb dX6_fewest_44 rfl (lv_at hl 2 rfl) ?_
      refine lv_aload_n hx hb dX6_fewest_45 rfl (lv_at hl 3 rfl) ?_
      refine cg_smi_costs hx hb hts hown hK hP uw_2_57 dX6_fewest_46 ?_
      refine lv_iload_n hx hb dX6_fewest_49 rfl (lv_at hl 5 rfl) ?_
      refine lv_iload hx hb dX6_fewest_50 (lv_at hl 0 rfl) ?_
      refine lv_iconst (v := mI (-1)) hx hb dX6_fewest_52 rfl ?_
      refine lv_ixor hx hb dX6_fewest_53 ?_
      refine sy_any (fun z_464 hz_464 => ?_)
      refine sy_iandL hx hb dX6_fewest_54 (by omega) (fun z_465 hz_465 => ?_)
      refine cl_smi_costs hx hb hK hP dX6_fewest_55 (by omega) bF_462 (fun z_466 _ hz_466 => ?_)
      refine sy_min hx hb (hml.trans hl.1.symm) hown hts uw_5_24 (Nat.le_of_ble_eq_true rfl) (Nat.le_of_ble_eq_true rfl) (Nat.le_of_ble_eq_true rfl) (Nat.le_of_ble_eq_true rfl) dX6_fewest_56 (by omega) (by omega) (fun z_467 hz_467 => ?_)
      refine lv_istore_n (lv' := [(3, .int (mI z_467)), (5, .int (mI r_456)), (4, .int (mI z_403)), (0, .ref (a 36)), (1, .int (mI p0)), (2, .int (mI p1))]) hx hb dX6_fewest_59 rfl hl (by decide) rfl (fun ls hl => ?_)
      refine lv_iinc (v := mI (z_403 + 1)) (lv' := [(4, .int (mI (z_403 + 1))), (3, .int (mI z_467)), (5, .int (mI r_456)), (0, .ref (a 36)), (1, .int (mI p0)), (2, .int (mI p1))]) hx hb dX6_fewest_60 hl (k := 2) rfl (mI_ad rfl) (by decide) rfl (fun ls hl => ?_)
      refine lv_goto (tgt := 6) hx hb dX6_fewest_63 (by decide) ?_
      exact ih_438 _ _ _ _ (by omega) ⟨(z_403 + 1), z_467, F_461, F_462, y_463, _, by omega, by omega, bF_461, bF_462, by omega, rfl, hP, hS, lv_sub hl [0, 1, 3, 4, 5] rfl, rfl⟩
set_option maxHeartbeats 4000000 in
set_option maxRecDepth 100000 in
theorem kc_X0_originHerds {p1 : Int} {i0 : Nat} (hi0 : i0 < 44) (hp1 : 0 ≤ p1 ∧ p1 ≤ 7) (h_x_told_herds : 0 ≤ x_told_herds ∧ x_told_herds ≤ 8) (h_x_lat_placements : 1 ≤ x_lat_placements ∧ x_lat_placements ≤ 8) (h_x_smi_irons : 0 ≤ x_smi_irons ∧ x_smi_irons ≤ 6) (h_x_smi_aim : -2147483648 ≤ x_smi_aim ∧ x_smi_aim ≤ 2147483647) (b_B_told_brands : bd (-2147483648) 2147483647 B_told_brands) (b_B_lat_lowHalves : bd (0) 4095 B_lat_lowHalves) (b_B_lat_highHalves : bd (0) 4095 B_lat_highHalves) (b_B_lat_ways : bd (0) 7 B_lat_ways) (b_B_smi_placedIrons : bd (0) 4095 B_smi_placedIrons) (b_B_smi_within : bd (0) 4095 B_smi_within) (b_B_smi_costs : bd (-128) 127 B_smi_costs) (b_Ph : pb (0) 4095 Ph) (g_T : tI x_told_herds x_told_beasts B_told_brands B_told_homes) : MetG l D k yX0_originHerds cX0_originHerds 5 (some .int) 4 [.ref (a 49), .ref (q (4 * i0)), .int (mI p1)] (cW k a q x_xo_lyingCount x_tape_length x_tape_next x_tape_kind x_tape_place x_tape_number x_tape_faultKind x_tape_faultPlace x_told_turns x_told_mirror x_told_night x_told_draw x_told_herds x_told_irons x_told_beasts x_told_linesTold x_tfo_steps x_tfo_units x_draft_turns x_draft_mirror x_draft_night x_draft_draw x_draft_herds x_draft_irons x_draft_beasts x_draft_linesTold x_dfo_steps x_dfo_units x_lat_placements x_smi_irons x_smi_aim x_his_here x_his_undoable x_his_redoable x_book_placedCount x_wit_count x_wit_time n_tape_name B_xo_lying B_tape_bytes B_told_brands B_told_ironMarks B_told_homes B_told_births B_tfo_kinds B_tfo_numbers B_tfo_stack B_tfo_facts B_draft_brands B_draft_ironMarks B_draft_homes B_draft_births B_dfo_kinds B_dfo_numbers B_dfo_stack B_dfo_facts B_lat_lowHalves B_lat_highHalves B_lat_ways B_smi_placedIrons B_smi_within B_smi_costs B_his_isKept B_book_norms B_book_above B_book_heights B_book_placedBrands B_bea_firstGains B_bea_otherGains B_wit_burnings B_wit_strokes B_wit_wasOn B_wit_toldAt B_wit_untoldAt B_wit_on B_wit_off B_wit_firstCounts B_wit_secondCounts Ps Pd G_tape_wordNames G_told_herdNames G_told_ironNames G_told_beastNames G_draft_herdNames G_draft_ironNames G_draft_beastNames Ph Po Pg ex) (qGi (fun r0 H => ∃ (F_smi_within : Nat → Int) (F_smi_costs : Nat → Int) (y_smi_aim : Int), (0 ≤ r0 ∧ r0 ≤ 255) ∧ (bd (0) 4095 F_smi_within) ∧ (bd (-128) 127 F_smi_costs) ∧ (-2147483648 ≤ y_smi_aim ∧ y_smi_aim ≤ 2147483647) ∧ va_P D vwCl (cW k a q x_xo_lyingCount x_tape_length x_tape_next x_tape_kind x_tape_place x_tape_number x_tape_faultKind x_tape_faultPlace x_told_turns x_told_mirror x_told_night x_told_draw x_told_herds x_told_irons x_told_beasts x_told_linesTold x_tfo_steps x_tfo_units x_draft_turns x_draft_mirror x_draft_night x_draft_draw x_draft_herds x_draft_irons x_draft_beasts x_draft_linesTold x_dfo_steps x_dfo_units x_lat_placements x_smi_irons y_smi_aim x_his_here x_his_undoable x_his_redoable x_book_placedCount x_wit_count x_wit_time n_tape_name B_xo_lying B_tape_bytes B_told_brands B_told_ironMarks B_told_homes B_told_births B_tfo_kinds B_tfo_numbers B_tfo_stack B_tfo_facts B_draft_brands B_draft_ironMarks B_draft_homes B_draft_births B_dfo_kinds B_dfo_numbers B_dfo_stack B_dfo_facts B_lat_lowHalves B_lat_highHalves B_lat_ways B_smi_placedIrons F_smi_within F_smi_costs B_his_isKept B_book_norms B_book_above B_book_heights B_book_placedBrands B_bea_firstGains B_bea_otherGains B_wit_burnings B_wit_strokes B_wit_wasOn B_wit_toldAt B_wit_untoldAt B_wit_on B_wit_off B_wit_firstCounts B_wit_secondCounts Ps Pd G_tape_wordNames G_told_herdNames G_told_ironNames G_told_beastNames G_draft_herdNames G_draft_ironNames G_draft_beastNames Ph Po Pg ex) H)) := by
  refine metG_of 2 ck_X0_originHerds (Nat.le_of_ble_eq_true rfl) cMap (fun p e s m args below meth c A hx hb hml hr hlocks hown hts hK hD hA hP hS ls hl => ?_)
  have hown : s.vm.findClass "HideReader$Beasts" = some m.cls := hown
  have hl : lv_has ls 5 [(0, .ref (a 49)), (1, .ref (q (4 * i0))), (2, .int (mI p1))] := hl
  refine lv_iconst (v := mI 0) hx hb dX0_originHerds_0 rfl ?_
  refine lv_istore_n (lv' := [(3, .int (mI 0)), (0, .ref (a 49)), (1, .ref (q (4 * i0))), (2, .int (mI p1))]) hx hb dX0_originHerds_1 rfl hl (by decide) rfl (fun ls hl => ?_)
  refine lv_iconst (v := mI 0) hx hb dX0_originHerds_2 rfl ?_
  refine lv_istore (lv' := [(4, .int (mI 0)), (3, .int (mI 0)), (0, .ref (a 49)), (1, .ref (q (4 * i0))), (2, .int (mI p1))]) hx hb dX0_originHerds_3 hl (by decide) rfl (fun ls hl => ?_)
  refine sy_loop (I := fun n H locs g => ∃ (z_431 : Int) (z_432 : Int) (F_433 : Nat → Int) (F_434 : Nat → Int) (y_435 : Int) (ls : Array Slot), (0 ≤ z_431 ∧ z_431 ≤ 8) ∧ (0 ≤ z_432 ∧ z_432 ≤ 255) ∧ (bd (0) 4095 F_433) ∧ (bd (-128) 127 F_434) ∧ (-2147483648 ≤ y_435 ∧ y_435 ≤ 2147483647) ∧ (8 - z_431).toNat = n ∧ va_P D vwCl (cW k a q x_xo_lyingCount x_tape_length x_tape_next x_tape_kind x_tape_place x_tape_number x_tape_faultKind x_tape_faultPlace x_told_turns x_told_mirror x_told_night x_told_draw x_told_herds x_told_irons x_told_beasts x_told_linesTold x_tfo_steps x_tfo_units x_draft_turns x_draft_mirror x_draft_night x_draft_draw x_draft_herds x_draft_irons x_draft_beasts x_draft_linesTold x_dfo_steps x_dfo_units x_lat_placements x_smi_irons y_435 x_his_here x_his_undoable x_his_redoable x_book_placedCount x_wit_count x_wit_time n_tape_name B_xo_lying B_tape_bytes B_told_brands B_told_ironMarks B_told_homes B_told_births B_tfo_kinds B_tfo_numbers B_tfo_stack B_tfo_facts B_draft_brands B_draft_ironMarks B_draft_homes B_draft_births B_dfo_kinds B_dfo_numbers B_dfo_stack B_dfo_facts B_lat_lowHalves B_lat_highHalves B_lat_ways B_smi_placedIrons F_433 F_434 B_his_isKept B_book_norms B_book_above B_book_heights B_book_placedBrands B_bea_firstGains B_bea_otherGains B_wit_burnings B_wit_strokes B_wit_wasOn B_wit_toldAt B_wit_untoldAt B_wit_on B_wit_off B_wit_firstCounts B_wit_secondCounts Ps Pd G_tape_wordNames G_told_herdNames G_told_ironNames G_told_beastNames G_draft_herdNames G_draft_ironNames G_draft_beastNames Ph Po Pg ex) H ∧ va_S A s.heap H locs ∧ lv_has ls 5 [(4, .int (mI z_431)), (3, .int (mI z_432)), (0, .ref (a 49)), (1, .ref (q (4 * i0))), (2, .int (mI p1))] ∧ g = F0 m 5 ls []) ?_ _ ⟨0, 0, B_smi_within, B_smi_costs, x_smi_aim, _, by omega, by omega, b_B_smi_within, b_B_smi_costs, by omega, rfl, hP, hS, lv_sub hl [0, 1, 2, 3, 4] rfl, rfl⟩
  intro n_446 H locs g hI ih_447
  obtain ⟨z_431, z_432, F_433, F_434, y_435, ls, h5_0, h5_1, bF_433, bF_434, h5_4, mn_446, hP, hS, hl, rfl⟩ := hI
  refine lv_iload hx hb dX0_originHerds_5 (lv_at hl 0 rfl) ?_
  refine lv_aload_n hx hb dX0_originHerds_7 rfl (lv_at hl 2 rfl) ?_
  refine cg_bea_told hx hb hts hown hK hP uw_2_167 dX0_originHerds_8 ?_
  refine cg_told_herds hx hb hts hown hK hP uw_1_172 dX0_originHerds_11 ?_
  refine sy_icmp_ge (tgt := 57) hx hb dX0_originHerds_14 (by decide) (by omega) (by omega) (fun c_448 => ?_) (fun c_448 => ?_)
  · skip
    refine lv_iload_n hx hb dX0_originHerds_57 rfl (lv_at hl 1 rfl) ?_
    exact r_i hx hb hr hlocks dX0_originHerds_58 hS ⟨F_433, F_434, y_435, by omega, bF_433, bF_434, by omega, hP⟩
  · skip
    refine lv_aload_n hx hb dX0_originHerds_17 rfl (lv_at hl 2 rfl) ?_
    refine cg_bea_smith hx hb hts hown hK hP uw_2_169 dX0_originHerds_18 ?_
    refine lv_aload_n hx hb dX0_originHerds_21 rfl (lv_at hl 2 rfl) ?_
    refine cg_bea_told hx hb hts hown hK hP uw_2_167 dX0_originHerds_22 ?_
    refine cg_told_brands hx hb hts hown hK hP uw_1_197 dX0_originHerds_25 ?_
    refine lv_iload hx hb dX0_originHerds_28 (lv_at hl 0 rfl) ?_
    refine cl_told_brands hx hb hK hP dX0_originHerds_30 (by omega) b_B_told_brands (fun z_449 ez_449 hz_449 => ?_)
    have hz_449 := tI_b g_T (by omega) ez_449
    refine lv_aload_n hx hb dX0_originHerds_31 rfl (lv_at hl 3 rfl) ?_
    refine cg_past_hides (i := i0) (by omega) hx hb hts hown hK hP uw_2_87 dX0_originHerds_32 ?_
    refine lv_iload_n hx hb dX0_originHerds_35 rfl (lv_at hl 4 rfl) ?_
    refine cl_past_hides (i := i0) (by omega) hx hb hK hP dX0_originHerds_36 (by omega) b_Ph (fun z_450 _ hz_450 => ?_)
    refine g_i (cDt hD) hS hA (g_V (own := "HideReader$Beasts") (As := [.int (mI z_449), .int (mI z_450)]) (rest := []) hx hb hml hown hts hK hP (cDt hD) (kc_X6_fewest (l := l) (D := D) (k := k) (by omega) (by omega) h_x_lat_placements h_x_smi_irons (by omega) b_B_lat_lowHalves b_B_lat_highHalves b_B_lat_ways b_B_smi_placedIrons bF_433 bF_434) ck_X6_fewest iv_X6_fewest uw_5_104 (cv_smi hK hP) rfl hl.1 rfl (Nat.le_of_ble_eq_true rfl) dX0_originHerds_37 ⟨Nat.le_of_ble_eq_true rfl, Nat.le_of_ble_eq_true rfl⟩ ⟨Nat.le_of_ble_eq_true rfl, Nat.le_of_ble_eq_true rfl⟩) (fun r_451 H locs hQ hS => ?_)
    obtain ⟨F_452, F_453, y_454, hr_451_0, bF_452, bF_453, hr_451_3, hP⟩ := hQ
    refine lv_iconst (v := mI (-1)) hx hb dX0_originHerds_40 rfl ?_
    refine sy_icmp_eq (tgt := 51) hx hb dX0_originHerds_41 (by decide) (by omega) (by decide) (fun c_455 => ?_) (fun c_455 => ?_)
    · skip
      refine lv_iinc (v := mI (z_431 + 1)) (lv' := [(4, .int (mI (z_431 + 1))), (3, .int (mI z_432)), (0, .ref (a 49)), (1, .ref (q (4 * i0))), (2, .int (mI p1))]) hx hb dX0_originHerds_51 hl (k := 0) rfl (mI_ad rfl) (by decide) rfl (fun ls hl => ?_)
      refine lv_goto (tgt := 5) hx hb dX0_originHerds_54 (by decide) ?_
      exact ih_447 _ _ _ _ (by omega) ⟨(z_431 + 1), z_432, F_452, F_453, y_454, _, by omega, by omega, bF_452, bF_453, by omega, rfl, hP, hS, lv_sub hl [0, 1, 2, 3, 4] rfl, rfl⟩
    · skip
      refine lv_iload_n hx hb dX0_originHerds_44 rfl (lv_at hl 1 rfl) ?_
      refine lv_iconst (v := mI 1) hx hb dX0_originHerds_45 rfl ?_
      refine lv_iload hx hb dX0_originHerds_46 (lv_at hl 0 rfl) ?_
      refine sy_shl1 hx hb dX0_originHerds_48 7 (by decide) 128 (by decide) (by omega) (fun z_456 ez_456 hz_456 => ?_)
      refine sy_ior hx hb dX0_originHerds_49 8 (by decide) 256 (by decide) (by omega) (by omega) (fun z_457 hz_457 => ?_)
      refine lv_istore_n (lv' := [(3, .int (mI z_457)), (4, .int (mI z_431)), (0, .ref (a 49)), (1, .ref (q (4 * i0))), (2, .int (mI p1))]) hx hb dX0_originHerds_50 rfl hl (by decide) rfl (fun ls hl => ?_)
      refine lv_iinc (v := mI (z_431 + 1)) (lv' := [(4, .int (mI (z_431 + 1))), (3, .int (mI z_457)), (0, .ref (a 49)), (1, .ref (q (4 * i0))), (2, .int (mI p1))]) hx hb dX0_originHerds_51 hl (k := 1) rfl (mI_ad rfl) (by decide) rfl (fun ls hl => ?_)
      refine lv_goto (tgt := 5) hx hb dX0_originHerds_54 (by decide) ?_
      exact ih_447 _ _ _ _ (by omega) ⟨(z_431 + 1), z_457, F_452, F_453, y_454, _, by omega, by omega, bF_452, bF_453, by omega, rfl, hP, hS, lv_sub hl [0, 1, 2, 3, 4] rfl, rfl⟩
set_option maxHeartbeats 4000000 in
set_option maxRecDepth 100000 in
theorem kc_X4_isOne {p0 p1 : Int} (hp0 : -2147483648 ≤ p0 ∧ p0 ≤ 2147483647) (hp1 : -2147483648 ≤ p1 ∧ p1 ≤ 2147483647) (h_x_lat_placements : 1 ≤ x_lat_placements ∧ x_lat_placements ≤ 8) (b_B_lat_lowHalves : bd (0) 4095 B_lat_lowHalves) (b_B_lat_highHalves : bd (0) 4095 B_lat_highHalves) (b_B_lat_ways : bd (0) 7 B_lat_ways) : MetG l D k yX4_isOne cX4_isOne 4 (some .boolean) 1 [.ref (a 32), .int (mI p0), .int (mI p1)] (cW k a q x_xo_lyingCount x_tape_length x_tape_next x_tape_kind x_tape_place x_tape_number x_tape_faultKind x_tape_faultPlace x_told_turns x_told_mirror x_told_night x_told_draw x_told_herds x_told_irons x_told_beasts x_told_linesTold x_tfo_steps x_tfo_units x_draft_turns x_draft_mirror x_draft_night x_draft_draw x_draft_herds x_draft_irons x_draft_beasts x_draft_linesTold x_dfo_steps x_dfo_units x_lat_placements x_smi_irons x_smi_aim x_his_here x_his_undoable x_his_redoable x_book_placedCount x_wit_count x_wit_time n_tape_name B_xo_lying B_tape_bytes B_told_brands B_told_ironMarks B_told_homes B_told_births B_tfo_kinds B_tfo_numbers B_tfo_stack B_tfo_facts B_draft_brands B_draft_ironMarks B_draft_homes B_draft_births B_dfo_kinds B_dfo_numbers B_dfo_stack B_dfo_facts B_lat_lowHalves B_lat_highHalves B_lat_ways B_smi_placedIrons B_smi_within B_smi_costs B_his_isKept B_book_norms B_book_above B_book_heights B_book_placedBrands B_bea_firstGains B_bea_otherGains B_wit_burnings B_wit_strokes B_wit_wasOn B_wit_toldAt B_wit_untoldAt B_wit_on B_wit_off B_wit_firstCounts B_wit_secondCounts Ps Pd G_tape_wordNames G_told_herdNames G_told_ironNames G_told_beastNames G_draft_herdNames G_draft_ironNames G_draft_beastNames Ph Po Pg ex) (qGi (fun r0 H => (0 ≤ r0 ∧ r0 ≤ 1) ∧ va_P D vwCl (cW k a q x_xo_lyingCount x_tape_length x_tape_next x_tape_kind x_tape_place x_tape_number x_tape_faultKind x_tape_faultPlace x_told_turns x_told_mirror x_told_night x_told_draw x_told_herds x_told_irons x_told_beasts x_told_linesTold x_tfo_steps x_tfo_units x_draft_turns x_draft_mirror x_draft_night x_draft_draw x_draft_herds x_draft_irons x_draft_beasts x_draft_linesTold x_dfo_steps x_dfo_units x_lat_placements x_smi_irons x_smi_aim x_his_here x_his_undoable x_his_redoable x_book_placedCount x_wit_count x_wit_time n_tape_name B_xo_lying B_tape_bytes B_told_brands B_told_ironMarks B_told_homes B_told_births B_tfo_kinds B_tfo_numbers B_tfo_stack B_tfo_facts B_draft_brands B_draft_ironMarks B_draft_homes B_draft_births B_dfo_kinds B_dfo_numbers B_dfo_stack B_dfo_facts B_lat_lowHalves B_lat_highHalves B_lat_ways B_smi_placedIrons B_smi_within B_smi_costs B_his_isKept B_book_norms B_book_above B_book_heights B_book_placedBrands B_bea_firstGains B_bea_otherGains B_wit_burnings B_wit_strokes B_wit_wasOn B_wit_toldAt B_wit_untoldAt B_wit_on B_wit_off B_wit_firstCounts B_wit_secondCounts Ps Pd G_tape_wordNames G_told_herdNames G_told_ironNames G_told_beastNames G_draft_herdNames G_draft_ironNames G_draft_beastNames Ph Po Pg ex) H)) := by
  refine metG_of 2 ck_X4_isOne (Nat.le_of_ble_eq_true rfl) cMap (fun p e s m args below meth c A hx hb hml hr hlocks hown hts hK hD hA hP hS ls hl => ?_)
  have hown : s.vm.findClass "HideReader$Lattice" = some m.cls := hown
  have hl : lv_has ls 4 [(0, .ref (a 32)), (1, .int (mI p0)), (2, .int (mI p1))] := hl
  refine lv_iconst (v := mI 0) hx hb dX4_isOne_0 rfl ?_
  refine lv_istore_n (lv' := [(3, .int (mI 0)), (0, .ref (a 32)), (1, .int (mI p0)), (2, .int (mI p1))]) hx hb dX4_isOne_1 rfl hl (by decide) rfl (fun ls hl => ?_)
  refine sy_loop (I := fun n H locs g => ∃ (z_28 : Int) (ls : Array Slot), (0 ≤ z_28 ∧ z_28 ≤ 8) ∧ (8 - z_28).toNat = n ∧ va_P D vwCl (cW k a q x_xo_lyingCount x_tape_length x_tape_next x_tape_kind x_tape_place x_tape_number x_tape_faultKind x_tape_faultPlace x_told_turns x_told_mirror x_told_night x_told_draw x_told_herds x_told_irons x_told_beasts x_told_linesTold x_tfo_steps x_tfo_units x_draft_turns x_draft_mirror x_draft_night x_draft_draw x_draft_herds x_draft_irons x_draft_beasts x_draft_linesTold x_dfo_steps x_dfo_units x_lat_placements x_smi_irons x_smi_aim x_his_here x_his_undoable x_his_redoable x_book_placedCount x_wit_count x_wit_time n_tape_name B_xo_lying B_tape_bytes B_told_brands B_told_ironMarks B_told_homes B_told_births B_tfo_kinds B_tfo_numbers B_tfo_stack B_tfo_facts B_draft_brands B_draft_ironMarks B_draft_homes B_draft_births B_dfo_kinds B_dfo_numbers B_dfo_stack B_dfo_facts B_lat_lowHalves B_lat_highHalves B_lat_ways B_smi_placedIrons B_smi_within B_smi_costs B_his_isKept B_book_norms B_book_above B_book_heights B_book_placedBrands B_bea_firstGains B_bea_otherGains B_wit_burnings B_wit_strokes B_wit_wasOn B_wit_toldAt B_wit_untoldAt B_wit_on B_wit_off B_wit_firstCounts B_wit_secondCounts Ps Pd G_tape_wordNames G_told_herdNames G_told_ironNames G_told_beastNames G_draft_herdNames G_draft_ironNames G_draft_beastNames Ph Po Pg ex) H ∧ va_S A s.heap H locs ∧ lv_has ls 4 [(3, .int (mI z_28)), (0, .ref (a 32)), (1, .int (mI p0)), (2, .int (mI p1))] ∧ g = F0 m 2 ls []) ?_ _ ⟨0, _, by omega, rfl, hP, hS, lv_sub hl [0, 1, 2, 3] rfl, rfl⟩
  intro n_32 H locs g hI ih_33
  obtain ⟨z_28, ls, h2_0, mn_32, hP, hS, hl, rfl⟩ := hI
  refine lv_iload_n hx hb dX4_isOne_2 rfl (lv_at hl 0 rfl) ?_
  refine lv_aload_n hx hb dX4_isOne_3 rfl (lv_at hl 1 rfl) ?_
  refine cg_lat_placements hx hb hts hown hK hP uw_2_38 dX4_isOne_4 ?_
  refine sy_icmp_ge (tgt := 28) hx hb dX4_isOne_7 (by decide) (by omega) (by omega) (fun c_34 => ?_) (fun c_34 => ?_)
  · skip
    refine lv_iconst (v := mI 0) hx hb dX4_isOne_28 rfl ?_
    exact r_z hx hb hr hlocks dX4_isOne_29 hS (by decide) ⟨by omega, hP⟩
  · skip
    refine lv_aload_n hx hb dX4_isOne_10 rfl (lv_at hl 1 rfl) ?_
    refine lv_iload_n hx hb dX4_isOne_11 rfl (lv_at hl 2 rfl) ?_
    refine lv_iload_n hx hb dX4_isOne_12 rfl (lv_at hl 0 rfl) ?_
    refine g_i (cDt hD) hS hA (g_V (own := "HideReader$Lattice") (As := [.int (mI p0), .int (mI z_28)]) (rest := []) hx hb hml hown hts hK hP (cDt hD) (kc_X4_moved (l := l) (D := D) (k := k) (by omega) (by omega) b_B_lat_lowHalves b_B_lat_highHalves b_B_lat_ways) ck_X4_moved iv_X4_moved uw_4_56 (cv_lat hK hP) rfl hl.1 rfl (Nat.le_of_ble_eq_true rfl) dX4_isOne_13 ⟨Nat.le_of_ble_eq_true rfl, Nat.le_of_ble_eq_true rfl⟩ ⟨Nat.le_of_ble_eq_true rfl, Nat.le_of_ble_eq_true rfl⟩) (fun r_35 H locs hQ hS => ?_)
    obtain ⟨hr_35_0, hP⟩ := hQ
    refine lv_iload_n hx hb dX4_isOne_16 rfl (lv_at hl 3 rfl) ?_
    refine sy_icmp_ne (tgt := 22) hx hb dX4_isOne_17 (by decide) (by omega) (by omega) (fun c_36 => ?_) (fun c_36 => ?_)
    · skip
      refine lv_iinc (v := mI (z_28 + 1)) (lv' := [(3, .int (mI (z_28 + 1))), (0, .ref (a 32)), (1, .int (mI p0)), (2, .int (mI p1))]) hx hb dX4_isOne_22 hl (k := 0) rfl (mI_ad rfl) (by decide) rfl (fun ls hl => ?_)
      refine lv_goto (tgt := 2) hx hb dX4_isOne_25 (by decide) ?_
      exact ih_33 _ _ _ _ (by omega) ⟨(z_28 + 1), _, by omega, rfl, hP, hS, lv_sub hl [0, 1, 2, 3] rfl, rfl⟩
    · skip
      refine lv_iconst (v := mI 1) hx hb dX4_isOne_20 rfl ?_
      exact r_z hx hb hr hlocks dX4_isOne_21 hS (by decide) ⟨by omega, hP⟩
set_option maxHeartbeats 4000000 in
set_option maxRecDepth 100000 in
theorem kc_X0_readHerds {p1 : Int} {i0 : Nat} (hi0 : i0 < 44) (hp1 : 0 ≤ p1 ∧ p1 ≤ 7) (h_x_told_herds : 0 ≤ x_told_herds ∧ x_told_herds ≤ 8) (h_x_tfo_steps : 0 ≤ x_tfo_steps ∧ x_tfo_steps ≤ 270) (h_x_lat_placements : 1 ≤ x_lat_placements ∧ x_lat_placements ≤ 8) (b_B_told_brands : bd (-2147483648) 2147483647 B_told_brands) (b_B_told_births : bd (-2147483648) 2147483647 B_told_births) (b_B_tfo_kinds : bd (-2147483648) 2147483647 B_tfo_kinds) (b_B_tfo_numbers : bd (-2147483648) 2147483647 B_tfo_numbers) (b_B_tfo_stack : bd (-2147483648) 2147483647 B_tfo_stack) (b_B_tfo_facts : bd (-2147483648) 2147483647 B_tfo_facts) (b_B_lat_lowHalves : bd (0) 4095 B_lat_lowHalves) (b_B_lat_highHalves : bd (0) 4095 B_lat_highHalves) (b_B_lat_ways : bd (0) 7 B_lat_ways) (b_Ps : bd (-2147483648) 2147483647 Ps) (b_Ph : pb (0) 4095 Ph) (b_Pg : pb (-2147483648) 2147483647 Pg) (g_T : tI x_told_herds x_told_beasts B_told_brands B_told_homes) : MetG l D k yX0_readHerds cX0_readHerds 6 (some .int) 5 [.ref (a 49), .ref (q (4 * i0)), .int (mI p1)] (cW k a q x_xo_lyingCount x_tape_length x_tape_next x_tape_kind x_tape_place x_tape_number x_tape_faultKind x_tape_faultPlace x_told_turns x_told_mirror x_told_night x_told_draw x_told_herds x_told_irons x_told_beasts x_told_linesTold x_tfo_steps x_tfo_units x_draft_turns x_draft_mirror x_draft_night x_draft_draw x_draft_herds x_draft_irons x_draft_beasts x_draft_linesTold x_dfo_steps x_dfo_units x_lat_placements x_smi_irons x_smi_aim x_his_here x_his_undoable x_his_redoable x_book_placedCount x_wit_count x_wit_time n_tape_name B_xo_lying B_tape_bytes B_told_brands B_told_ironMarks B_told_homes B_told_births B_tfo_kinds B_tfo_numbers B_tfo_stack B_tfo_facts B_draft_brands B_draft_ironMarks B_draft_homes B_draft_births B_dfo_kinds B_dfo_numbers B_dfo_stack B_dfo_facts B_lat_lowHalves B_lat_highHalves B_lat_ways B_smi_placedIrons B_smi_within B_smi_costs B_his_isKept B_book_norms B_book_above B_book_heights B_book_placedBrands B_bea_firstGains B_bea_otherGains B_wit_burnings B_wit_strokes B_wit_wasOn B_wit_toldAt B_wit_untoldAt B_wit_on B_wit_off B_wit_firstCounts B_wit_secondCounts Ps Pd G_tape_wordNames G_told_herdNames G_told_ironNames G_told_beastNames G_draft_herdNames G_draft_ironNames G_draft_beastNames Ph Po Pg ex) (qGi (fun r0 H => ∃ (F_tfo_stack : Nat → Int) (F_tfo_facts : Nat → Int), (0 ≤ r0 ∧ r0 ≤ 255) ∧ (bd (-2147483648) 2147483647 F_tfo_stack) ∧ (bd (-2147483648) 2147483647 F_tfo_facts) ∧ va_P D vwCl (cW k a q x_xo_lyingCount x_tape_length x_tape_next x_tape_kind x_tape_place x_tape_number x_tape_faultKind x_tape_faultPlace x_told_turns x_told_mirror x_told_night x_told_draw x_told_herds x_told_irons x_told_beasts x_told_linesTold x_tfo_steps x_tfo_units x_draft_turns x_draft_mirror x_draft_night x_draft_draw x_draft_herds x_draft_irons x_draft_beasts x_draft_linesTold x_dfo_steps x_dfo_units x_lat_placements x_smi_irons x_smi_aim x_his_here x_his_undoable x_his_redoable x_book_placedCount x_wit_count x_wit_time n_tape_name B_xo_lying B_tape_bytes B_told_brands B_told_ironMarks B_told_homes B_told_births B_tfo_kinds B_tfo_numbers F_tfo_stack F_tfo_facts B_draft_brands B_draft_ironMarks B_draft_homes B_draft_births B_dfo_kinds B_dfo_numbers B_dfo_stack B_dfo_facts B_lat_lowHalves B_lat_highHalves B_lat_ways B_smi_placedIrons B_smi_within B_smi_costs B_his_isKept B_book_norms B_book_above B_book_heights B_book_placedBrands B_bea_firstGains B_bea_otherGains B_wit_burnings B_wit_strokes B_wit_wasOn B_wit_toldAt B_wit_untoldAt B_wit_on B_wit_off B_wit_firstCounts B_wit_secondCounts Ps Pd G_tape_wordNames G_told_herdNames G_told_ironNames G_told_beastNames G_draft_herdNames G_draft_ironNames G_draft_beastNames Ph Po Pg ex) H)) := by
  refine metG_of 2 ck_X0_readHerds (Nat.le_of_ble_eq_true rfl) cMap (fun p e s m args below meth c A hx hb hml hr hlocks hown hts hK hD hA hP hS ls hl => ?_)
  have hown : s.vm.findClass "HideReader$Beasts" = some m.cls := hown
  have hl : lv_has ls 6 [(0, .ref (a 49)), (1, .ref (q (4 * i0))), (2, .int (mI p1))] := hl
  refine lv_aload_n hx hb dX0_readHerds_0 rfl (lv_at hl 0 rfl) ?_
  refine lv_aload_n hx hb dX0_readHerds_1 rfl (lv_at hl 1 rfl) ?_
  refine lv_iload_n hx hb dX0_readHerds_2 rfl (lv_at hl 2 rfl) ?_
  refine lv_iconst (v := mI 0) hx hb dX0_readHerds_3 rfl ?_
  refine g_i (cDt hD) hS hA (g_V (own := "HideReader$Beasts") (As := [.ref (q (4 * i0)), .int (mI p1), .int (mI 0)]) (rest := []) hx hb hml hown hts hK hP (cDt hD) (kc_X0_showing (l := l) (D := D) (k := k) (i0 := i0) (by omega) (by omega) (by decide) h_x_tfo_steps b_B_told_births b_B_tfo_kinds b_B_tfo_numbers b_B_tfo_stack b_B_tfo_facts b_Ps b_Ph b_Pg) ck_X0_showing iv_X0_showing uw_5_113 (cv_bea hK hP) rfl hl.1 rfl (Nat.le_of_ble_eq_true rfl) dX0_readHerds_4 ⟨Nat.le_of_ble_eq_true rfl, Nat.le_of_ble_eq_true rfl⟩ ⟨Nat.le_of_ble_eq_true rfl, Nat.le_of_ble_eq_true rfl⟩) (fun r_1 H locs hQ hS => ?_)
  obtain ⟨F_2, F_3, hr_1_0, bF_2, bF_3, hP⟩ := hQ
  refine lv_istore_n (lv' := [(3, .int (mI r_1)), (0, .ref (a 49)), (1, .ref (q (4 * i0))), (2, .int (mI p1))]) hx hb dX0_readHerds_7 rfl hl (by decide) rfl (fun ls hl => ?_)
  refine lv_iconst (v := mI 0) hx hb dX0_readHerds_8 rfl ?_
  refine lv_istore (lv' := [(4, .int (mI 0)), (3, .int (mI r_1)), (0, .ref (a 49)), (1, .ref (q (4 * i0))), (2, .int (mI p1))]) hx hb dX0_readHerds_9 hl (by decide) rfl (fun ls hl => ?_)
  refine lv_iconst (v := mI 0) hx hb dX0_readHerds_11 rfl ?_
  refine lv_istore (lv' := [(5, .int (mI 0)), (4, .int (mI 0)), (3, .int (mI r_1)), (0, .ref (a 49)), (1, .ref (q (4 * i0))), (2, .int (mI p1))]) hx hb dX0_readHerds_12 hl (by decide) rfl (fun ls hl => ?_)
  refine sy_loop (I := fun n H locs g => ∃ (z_234 : Int) (z_235 : Int) (ls : Array Slot), (0 ≤ z_234 ∧ z_234 ≤ 8) ∧ (0 ≤ z_235 ∧ z_235 ≤ 255) ∧ (8 - z_234).toNat = n ∧ va_P D vwCl (cW k a q x_xo_lyingCount x_tape_length x_tape_next x_tape_kind x_tape_place x_tape_number x_tape_faultKind x_tape_faultPlace x_told_turns x_told_mirror x_told_night x_told_draw x_told_herds x_told_irons x_told_beasts x_told_linesTold x_tfo_steps x_tfo_units x_draft_turns x_draft_mirror x_draft_night x_draft_draw x_draft_herds x_draft_irons x_draft_beasts x_draft_linesTold x_dfo_steps x_dfo_units x_lat_placements x_smi_irons x_smi_aim x_his_here x_his_undoable x_his_redoable x_book_placedCount x_wit_count x_wit_time n_tape_name B_xo_lying B_tape_bytes B_told_brands B_told_ironMarks B_told_homes B_told_births B_tfo_kinds B_tfo_numbers F_2 F_3 B_draft_brands B_draft_ironMarks B_draft_homes B_draft_births B_dfo_kinds B_dfo_numbers B_dfo_stack B_dfo_facts B_lat_lowHalves B_lat_highHalves B_lat_ways B_smi_placedIrons B_smi_within B_smi_costs B_his_isKept B_book_norms B_book_above B_book_heights B_book_placedBrands B_bea_firstGains B_bea_otherGains B_wit_burnings B_wit_strokes B_wit_wasOn B_wit_toldAt B_wit_untoldAt B_wit_on B_wit_off B_wit_firstCounts B_wit_secondCounts Ps Pd G_tape_wordNames G_told_herdNames G_told_ironNames G_told_beastNames G_draft_herdNames G_draft_ironNames G_draft_beastNames Ph Po Pg ex) H ∧ va_S A s.heap H locs ∧ lv_has ls 6 [(5, .int (mI z_234)), (4, .int (mI z_235)), (3, .int (mI r_1)), (0, .ref (a 49)), (1, .ref (q (4 * i0))), (2, .int (mI p1))] ∧ g = F0 m 14 ls []) ?_ _ ⟨0, 0, _, by omega, by omega, rfl, hP, hS, lv_sub hl [0, 1, 2, 3, 4, 5] rfl, rfl⟩
  intro n_242 H locs g hI ih_243
  obtain ⟨z_234, z_235, ls, h14_0, h14_1, mn_242, hP, hS, hl, rfl⟩ := hI
  refine lv_iload hx hb dX0_readHerds_14 (lv_at hl 0 rfl) ?_
  refine lv_aload_n hx hb dX0_readHerds_16 rfl (lv_at hl 3 rfl) ?_
  refine cg_bea_told hx hb hts hown hK hP uw_2_167 dX0_readHerds_17 ?_
  refine cg_told_herds hx hb hts hown hK hP uw_1_172 dX0_readHerds_20 ?_
  refine sy_icmp_ge (tgt := 62) hx hb dX0_readHerds_23 (by decide) (by omega) (by omega) (fun c_244 => ?_) (fun c_244 => ?_)
  · skip
    refine lv_iload hx hb dX0_readHerds_62 (lv_at hl 1 rfl) ?_
    exact r_i hx hb hr hlocks dX0_readHerds_64 hS ⟨F_2, F_3, by omega, bF_2, bF_3, hP⟩
  · skip
    refine lv_aload_n hx hb dX0_readHerds_26 rfl (lv_at hl 3 rfl) ?_
    refine cg_bea_lattice hx hb hts hown hK hP uw_2_168 dX0_readHerds_27 ?_
    refine lv_iload_n hx hb dX0_readHerds_30 rfl (lv_at hl 2 rfl) ?_
    refine lv_aload_n hx hb dX0_readHerds_31 rfl (lv_at hl 3 rfl) ?_
    refine cg_bea_told hx hb hts hown hK hP uw_2_167 dX0_readHerds_32 ?_
    refine cg_told_brands hx hb hts hown hK hP uw_1_197 dX0_readHerds_35 ?_
    refine lv_iload hx hb dX0_readHerds_38 (lv_at hl 0 rfl) ?_
    refine cl_told_brands hx hb hK hP dX0_readHerds_40 (by omega) b_B_told_brands (fun z_245 ez_245 hz_245 => ?_)
    have hz_245 := tI_b g_T (by omega) ez_245
    refine g_i (cDt hD) hS hA (g_V (own := "HideReader$Beasts") (As := [.int (mI r_1), .int (mI z_245)]) (rest := []) hx hb hml hown hts hK hP (cDt hD) (kc_X4_isOne (l := l) (D := D) (k := k) (by omega) (by omega) h_x_lat_placements b_B_lat_lowHalves b_B_lat_highHalves b_B_lat_ways) ck_X4_isOne iv_X4_isOne uw_5_114 (cv_lat hK hP) rfl hl.1 rfl (Nat.le_of_ble_eq_true rfl) dX0_readHerds_41 ⟨Nat.le_of_ble_eq_true rfl, Nat.le_of_ble_eq_true rfl⟩ ⟨Nat.le_of_ble_eq_true rfl, Nat.le_of_ble_eq_true rfl⟩) (fun r_246 H locs hQ hS => ?_)
    obtain ⟨hr_246_0, hP⟩ := hQ
    refine sy_if_eq (tgt := 56) hx hb dX0_readHerds_44 (by decide) (by omega) (fun c_247 => ?_) (fun c_247 => ?_)
    · skip
      refine lv_iinc (v := mI (z_234 + 1)) (lv' := [(5, .int (mI (z_234 + 1))), (4, .int (mI z_235)), (3, .int (mI r_1)), (0, .ref (a 49)), (1, .ref (q (4 * i0))), (2, .int (mI p1))]) hx hb dX0_readHerds_56 hl (k := 0) rfl (mI_ad rfl) (by decide) rfl (fun ls hl => ?_)
      refine lv_goto (tgt := 14) hx hb dX0_readHerds_59 (by decide) ?_
      exact ih_243 _ _ _ _ (by omega) ⟨(z_234 + 1), z_235, _, by omega, by omega, rfl, hP, hS, lv_sub hl [0, 1, 2, 3, 4, 5] rfl, rfl⟩
    · skip
      refine lv_iload hx hb dX0_readHerds_47 (lv_at hl 1 rfl) ?_
      refine lv_iconst (v := mI 1) hx hb dX0_readHerds_49 rfl ?_
      refine lv_iload hx hb dX0_readHerds_50 (lv_at hl 0 rfl) ?_
      refine sy_shl1 hx hb dX0_readHerds_52 7 (by decide) 128 (by decide) (by omega) (fun z_248 ez_248 hz_248 => ?_)
      refine sy_ior hx hb dX0_readHerds_53 8 (by decide) 256 (by decide) (by omega) (by omega) (fun z_249 hz_249 => ?_)
      refine lv_istore (lv' := [(4, .int (mI z_249)), (5, .int (mI z_234)), (3, .int (mI r_1)), (0, .ref (a 49)), (1, .ref (q (4 * i0))), (2, .int (mI p1))]) hx hb dX0_readHerds_54 hl (by decide) rfl (fun ls hl => ?_)
      refine lv_iinc (v := mI (z_234 + 1)) (lv' := [(5, .int (mI (z_234 + 1))), (4, .int (mI z_249)), (3, .int (mI r_1)), (0, .ref (a 49)), (1, .ref (q (4 * i0))), (2, .int (mI p1))]) hx hb dX0_readHerds_56 hl (k := 1) rfl (mI_ad rfl) (by decide) rfl (fun ls hl => ?_)
      refine lv_goto (tgt := 14) hx hb dX0_readHerds_59 (by decide) ?_
      exact ih_243 _ _ _ _ (by omega) ⟨(z_234 + 1), z_249, _, by omega, by omega, rfl, hP, hS, lv_sub hl [0, 1, 2, 3, 4, 5] rfl, rfl⟩
set_option maxHeartbeats 4000000 in
set_option maxRecDepth 100000 in
theorem kc_X0_claimedBy {p1 : Int} {i0 : Nat} (hi0 : i0 < 44) (hp1 : 0 ≤ p1 ∧ p1 ≤ 7) (h_x_told_herds : 0 ≤ x_told_herds ∧ x_told_herds ≤ 8) (h_x_told_beasts : 0 ≤ x_told_beasts ∧ x_told_beasts ≤ 8) (h_x_lat_placements : 1 ≤ x_lat_placements ∧ x_lat_placements ≤ 8) (h_x_smi_irons : 0 ≤ x_smi_irons ∧ x_smi_irons ≤ 6) (h_x_smi_aim : -2147483648 ≤ x_smi_aim ∧ x_smi_aim ≤ 2147483647) (b_B_told_brands : bd (-2147483648) 2147483647 B_told_brands) (b_B_lat_lowHalves : bd (0) 4095 B_lat_lowHalves) (b_B_lat_highHalves : bd (0) 4095 B_lat_highHalves) (b_B_lat_ways : bd (0) 7 B_lat_ways) (b_B_smi_placedIrons : bd (0) 4095 B_smi_placedIrons) (b_B_smi_within : bd (0) 4095 B_smi_within) (b_B_smi_costs : bd (-128) 127 B_smi_costs) (b_Ph : pb (0) 4095 Ph) (b_Po : pb (0) 7 Po) (g_T : tI x_told_herds x_told_beasts B_told_brands B_told_homes) (hr0 : 0 ≤ x_told_herds - p1 - 1) : MetG l D k yX0_claimedBy cX0_claimedBy 5 (some .int) 4 [.ref (a 49), .ref (q (4 * i0)), .int (mI p1)] (cW k a q x_xo_lyingCount x_tape_length x_tape_next x_tape_kind x_tape_place x_tape_number x_tape_faultKind x_tape_faultPlace x_told_turns x_told_mirror x_told_night x_told_draw x_told_herds x_told_irons x_told_beasts x_told_linesTold x_tfo_steps x_tfo_units x_draft_turns x_draft_mirror x_draft_night x_draft_draw x_draft_herds x_draft_irons x_draft_beasts x_draft_linesTold x_dfo_steps x_dfo_units x_lat_placements x_smi_irons x_smi_aim x_his_here x_his_undoable x_his_redoable x_book_placedCount x_wit_count x_wit_time n_tape_name B_xo_lying B_tape_bytes B_told_brands B_told_ironMarks B_told_homes B_told_births B_tfo_kinds B_tfo_numbers B_tfo_stack B_tfo_facts B_draft_brands B_draft_ironMarks B_draft_homes B_draft_births B_dfo_kinds B_dfo_numbers B_dfo_stack B_dfo_facts B_lat_lowHalves B_lat_highHalves B_lat_ways B_smi_placedIrons B_smi_within B_smi_costs B_his_isKept B_book_norms B_book_above B_book_heights B_book_placedBrands B_bea_firstGains B_bea_otherGains B_wit_burnings B_wit_strokes B_wit_wasOn B_wit_toldAt B_wit_untoldAt B_wit_on B_wit_off B_wit_firstCounts B_wit_secondCounts Ps Pd G_tape_wordNames G_told_herdNames G_told_ironNames G_told_beastNames G_draft_herdNames G_draft_ironNames G_draft_beastNames Ph Po Pg ex) (qGi (fun r0 H => ∃ (F_smi_within : Nat → Int) (F_smi_costs : Nat → Int) (y_smi_aim : Int), (0 ≤ r0 ∧ r0 ≤ 255) ∧ (bd (0) 4095 F_smi_within) ∧ (bd (-128) 127 F_smi_costs) ∧ (-2147483648 ≤ y_smi_aim ∧ y_smi_aim ≤ 2147483647) ∧ va_P D vwCl (cW k a q x_xo_lyingCount x_tape_length x_tape_next x_tape_kind x_tape_place x_tape_number x_tape_faultKind x_tape_faultPlace x_told_turns x_told_mirror x_told_night x_told_draw x_told_herds x_told_irons x_told_beasts x_told_linesTold x_tfo_steps x_tfo_units x_draft_turns x_draft_mirror x_draft_night x_draft_draw x_draft_herds x_draft_irons x_draft_beasts x_draft_linesTold x_dfo_steps x_dfo_units x_lat_placements x_smi_irons y_smi_aim x_his_here x_his_undoable x_his_redoable x_book_placedCount x_wit_count x_wit_time n_tape_name B_xo_lying B_tape_bytes B_told_brands B_told_ironMarks B_told_homes B_told_births B_tfo_kinds B_tfo_numbers B_tfo_stack B_tfo_facts B_draft_brands B_draft_ironMarks B_draft_homes B_draft_births B_dfo_kinds B_dfo_numbers B_dfo_stack B_dfo_facts B_lat_lowHalves B_lat_highHalves B_lat_ways B_smi_placedIrons F_smi_within F_smi_costs B_his_isKept B_book_norms B_book_above B_book_heights B_book_placedBrands B_bea_firstGains B_bea_otherGains B_wit_burnings B_wit_strokes B_wit_wasOn B_wit_toldAt B_wit_untoldAt B_wit_on B_wit_off B_wit_firstCounts B_wit_secondCounts Ps Pd G_tape_wordNames G_told_herdNames G_told_ironNames G_told_beastNames G_draft_herdNames G_draft_ironNames G_draft_beastNames Ph Po Pg ex) H)) := by
  refine metG_of 2 ck_X0_claimedBy (Nat.le_of_ble_eq_true rfl) cMap (fun p e s m args below meth c A hx hb hml hr hlocks hown hts hK hD hA hP hS ls hl => ?_)
  have hown : s.vm.findClass "HideReader$Beasts" = some m.cls := hown
  have hl : lv_has ls 5 [(0, .ref (a 49)), (1, .ref (q (4 * i0))), (2, .int (mI p1))] := hl
  refine lv_iconst (v := mI 0) hx hb dX0_claimedBy_0 rfl ?_
  refine lv_istore_n (lv' := [(3, .int (mI 0)), (0, .ref (a 49)), (1, .ref (q (4 * i0))), (2, .int (mI p1))]) hx hb dX0_claimedBy_1 rfl hl (by decide) rfl (fun ls hl => ?_)
  refine lv_iconst (v := mI 0) hx hb dX0_claimedBy_2 rfl ?_
  refine lv_istore (lv' := [(4, .int (mI 0)), (3, .int (mI 0)), (0, .ref (a 49)), (1, .ref (q (4 * i0))), (2, .int (mI p1))]) hx hb dX0_claimedBy_3 hl (by decide) rfl (fun ls hl => ?_)
  refine sy_loop (I := fun n H locs g => ∃ (z_489 : Int) (z_490 : Int) (F_491 : Nat → Int) (F_492 : Nat → Int) (y_493 : Int) (ls : Array Slot), (0 ≤ z_489 ∧ z_489 ≤ 8) ∧ (0 ≤ z_490 ∧ z_490 ≤ 255) ∧ (bd (0) 4095 F_491) ∧ (bd (-128) 127 F_492) ∧ (-2147483648 ≤ y_493 ∧ y_493 ≤ 2147483647) ∧ (8 - z_489).toNat = n ∧ va_P D vwCl (cW k a q x_xo_lyingCount x_tape_length x_tape_next x_tape_kind x_tape_place x_tape_number x_tape_faultKind x_tape_faultPlace x_told_turns x_told_mirror x_told_night x_told_draw x_told_herds x_told_irons x_told_beasts x_told_linesTold x_tfo_steps x_tfo_units x_draft_turns x_draft_mirror x_draft_night x_draft_draw x_draft_herds x_draft_irons x_draft_beasts x_draft_linesTold x_dfo_steps x_dfo_units x_lat_placements x_smi_irons y_493 x_his_here x_his_undoable x_his_redoable x_book_placedCount x_wit_count x_wit_time n_tape_name B_xo_lying B_tape_bytes B_told_brands B_told_ironMarks B_told_homes B_told_births B_tfo_kinds B_tfo_numbers B_tfo_stack B_tfo_facts B_draft_brands B_draft_ironMarks B_draft_homes B_draft_births B_dfo_kinds B_dfo_numbers B_dfo_stack B_dfo_facts B_lat_lowHalves B_lat_highHalves B_lat_ways B_smi_placedIrons F_491 F_492 B_his_isKept B_book_norms B_book_above B_book_heights B_book_placedBrands B_bea_firstGains B_bea_otherGains B_wit_burnings B_wit_strokes B_wit_wasOn B_wit_toldAt B_wit_untoldAt B_wit_on B_wit_off B_wit_firstCounts B_wit_secondCounts Ps Pd G_tape_wordNames G_told_herdNames G_told_ironNames G_told_beastNames G_draft_herdNames G_draft_ironNames G_draft_beastNames Ph Po Pg ex) H ∧ va_S A s.heap H locs ∧ lv_has ls 5 [(4, .int (mI z_489)), (3, .int (mI z_490)), (0, .ref (a 49)), (1, .ref (q (4 * i0))), (2, .int (mI p1))] ∧ g = F0 m 5 ls []) ?_ _ ⟨0, 0, B_smi_within, B_smi_costs, x_smi_aim, _, by omega, by omega, b_B_smi_within, b_B_smi_costs, by omega, rfl, hP, hS, lv_sub hl [0, 1, 2, 3, 4] rfl, rfl⟩
  intro n_506 H locs g hI ih_507
  obtain ⟨z_489, z_490, F_491, F_492, y_493, ls, h5_0, h5_1, bF_491, bF_492, h5_4, mn_506, hP, hS, hl, rfl⟩ := hI
  refine lv_iload hx hb dX0_claimedBy_5 (lv_at hl 0 rfl) ?_
  refine lv_aload_n hx hb dX0_claimedBy_7 rfl (lv_at hl 2 rfl) ?_
  refine cg_bea_told hx hb hts hown hK hP uw_2_167 dX0_claimedBy_8 ?_
  refine cg_told_beasts hx hb hts hown hK hP uw_1_180 dX0_claimedBy_11 ?_
  refine sy_icmp_ge (tgt := 68) hx hb dX0_claimedBy_14 (by decide) (by omega) (by omega) (fun c_508 => ?_) (fun c_508 => ?_)
  · skip
    refine lv_iload_n hx hb dX0_claimedBy_68 rfl (lv_at hl 1 rfl) ?_
    exact r_i hx hb hr hlocks dX0_claimedBy_69 hS ⟨F_491, F_492, y_493, by omega, bF_491, bF_492, by omega, hP⟩
  · skip
    refine lv_aload_n hx hb dX0_claimedBy_17 rfl (lv_at hl 3 rfl) ?_
    refine cg_past_owners (i := i0) (by omega) hx hb hts hown hK hP uw_2_91 dX0_claimedBy_18 ?_
    refine lv_iload hx hb dX0_claimedBy_21 (lv_at hl 0 rfl) ?_
    refine cl_past_owners (i := i0) (by omega) hx hb hK hP dX0_claimedBy_23 (by omega) b_Po (fun z_509 _ hz_509 => ?_)
    refine lv_iload_n hx hb dX0_claimedBy_24 rfl (lv_at hl 4 rfl) ?_
    refine sy_icmp_eq (tgt := 62) hx hb dX0_claimedBy_25 (by decide) (by omega) (by omega) (fun c_510 => ?_) (fun c_510 => ?_)
    · skip
      refine lv_iinc (v := mI (z_489 + 1)) (lv' := [(4, .int (mI (z_489 + 1))), (3, .int (mI z_490)), (0, .ref (a 49)), (1, .ref (q (4 * i0))), (2, .int (mI p1))]) hx hb dX0_claimedBy_62 hl (k := 0) rfl (mI_ad rfl) (by decide) rfl (fun ls hl => ?_)
      refine lv_goto (tgt := 5) hx hb dX0_claimedBy_65 (by decide) ?_
      exact ih_507 _ _ _ _ (by omega) ⟨(z_489 + 1), z_490, F_491, F_492, y_493, _, by omega, by omega, bF_491, bF_492, by omega, rfl, hP, hS, lv_sub hl [0, 1, 2, 3, 4] rfl, rfl⟩
    · skip
      refine lv_aload_n hx hb dX0_claimedBy_28 rfl (lv_at hl 2 rfl) ?_
      refine cg_bea_smith hx hb hts hown hK hP uw_2_169 dX0_claimedBy_29 ?_
      refine lv_aload_n hx hb dX0_claimedBy_32 rfl (lv_at hl 3 rfl) ?_
      refine cg_past_hides (i := i0) (by omega) hx hb hts hown hK hP uw_2_87 dX0_claimedBy_33 ?_
      refine lv_iload hx hb dX0_claimedBy_36 (lv_at hl 0 rfl) ?_
      refine cl_past_hides (i := i0) (by omega) hx hb hK hP dX0_claimedBy_38 (by omega) b_Ph (fun z_511 _ hz_511 => ?_)
      refine lv_aload_n hx hb dX0_claimedBy_39 rfl (lv_at hl 2 rfl) ?_
      refine cg_bea_told hx hb hts hown hK hP uw_2_167 dX0_claimedBy_40 ?_
      refine cg_told_brands hx hb hts hown hK hP uw_1_197 dX0_claimedBy_43 ?_
      refine lv_iload_n hx hb dX0_claimedBy_46 rfl (lv_at hl 4 rfl) ?_
      refine cl_told_brands hx hb hK hP dX0_claimedBy_47 (by omega) b_B_told_brands (fun z_512 ez_512 hz_512 => ?_)
      have hz_512 := tI_b g_T (by omega) ez_512
      refine g_i (cDt hD) hS hA (g_V (own := "HideReader$Beasts") (As := [.int (mI z_511), .int (mI z_512)]) (rest := []) hx hb hml hown hts hK hP (cDt hD) (kc_X6_fewest (l := l) (D := D) (k := k) (by omega) (by omega) h_x_lat_placements h_x_smi_irons (by omega) b_B_lat_lowHalves b_B_lat_highHalves b_B_lat_ways b_B_smi_placedIrons bF_491 bF_492) ck_X6_fewest iv_X6_fewest uw_5_104 (cv_smi hK hP) rfl hl.1 rfl (Nat.le_of_ble_eq_true rfl) dX0_claimedBy_48 ⟨Nat.le_of_ble_eq_true rfl, Nat.le_of_ble_eq_true rfl⟩ ⟨Nat.le_of_ble_eq_true rfl, Nat.le_of_ble_eq_true rfl⟩) (fun r_513 H locs hQ hS => ?_)
      obtain ⟨F_514, F_515, y_516, hr_513_0, bF_514, bF_515, hr_513_3, hP⟩ := hQ
      refine lv_iconst (v := mI (-1)) hx hb dX0_claimedBy_51 rfl ?_
      refine sy_icmp_eq (tgt := 62) hx hb dX0_claimedBy_52 (by decide) (by omega) (by decide) (fun c_517 => ?_) (fun c_517 => ?_)
      · skip
        refine lv_iinc (v := mI (z_489 + 1)) (lv' := [(4, .int (mI (z_489 + 1))), (3, .int (mI z_490)), (0, .ref (a 49)), (1, .ref (q (4 * i0))), (2, .int (mI p1))]) hx hb dX0_claimedBy_62 hl (k := 0) rfl (mI_ad rfl) (by decide) rfl (fun ls hl => ?_)
        refine lv_goto (tgt := 5) hx hb dX0_claimedBy_65 (by decide) ?_
        exact ih_507 _ _ _ _ (by omega) ⟨(z_489 + 1), z_490, F_514, F_515, y_516, _, by omega, by omega, bF_514, bF_515, by omega, rfl, hP, hS, lv_sub hl [0, 1, 2, 3, 4] rfl, rfl⟩
      · skip
        refine lv_iload_n hx hb dX0_claimedBy_55 rfl (lv_at hl 1 rfl) ?_
        refine lv_iconst (v := mI 1) hx hb dX0_claimedBy_56 rfl ?_
        refine lv_iload hx hb dX0_claimedBy_57 (lv_at hl 0 rfl) ?_
        refine sy_shl1 hx hb dX0_claimedBy_59 7 (by decide) 128 (by decide) (by omega) (fun z_518 ez_518 hz_518 => ?_)
        refine sy_ior hx hb dX0_claimedBy_60 8 (by decide) 256 (by decide) (by omega) (by omega) (fun z_519 hz_519 => ?_)
        refine lv_istore_n (lv' := [(3, .int (mI z_519)), (4, .int (mI z_489)), (0, .ref (a 49)), (1, .ref (q (4 * i0))), (2, .int (mI p1))]) hx hb dX0_claimedBy_61 rfl hl (by decide) rfl (fun ls hl => ?_)
        refine lv_iinc (v := mI (z_489 + 1)) (lv' := [(4, .int (mI (z_489 + 1))), (3, .int (mI z_519)), (0, .ref (a 49)), (1, .ref (q (4 * i0))), (2, .int (mI p1))]) hx hb dX0_claimedBy_62 hl (k := 1) rfl (mI_ad rfl) (by decide) rfl (fun ls hl => ?_)
        refine lv_goto (tgt := 5) hx hb dX0_claimedBy_65 (by decide) ?_
        exact ih_507 _ _ _ _ (by omega) ⟨(z_489 + 1), z_519, F_514, F_515, y_516, _, by omega, by omega, bF_514, bF_515, by omega, rfl, hP, hS, lv_sub hl [0, 1, 2, 3, 4] rfl, rfl⟩
set_option maxHeartbeats 4000000 in
set_option maxRecDepth 100000 in
theorem kc_X0_temptedHerd {p1 : Int} {i0 : Nat} (hi0 : i0 < 44) (hp1 : 0 ≤ p1 ∧ p1 ≤ 7) (h_x_told_herds : 0 ≤ x_told_herds ∧ x_told_herds ≤ 8) (h_x_lat_placements : 1 ≤ x_lat_placements ∧ x_lat_placements ≤ 8) (h_x_smi_irons : 0 ≤ x_smi_irons ∧ x_smi_irons ≤ 6) (h_x_smi_aim : -2147483648 ≤ x_smi_aim ∧ x_smi_aim ≤ 2147483647) (b_B_told_brands : bd (-2147483648) 2147483647 B_told_brands) (b_B_lat_lowHalves : bd (0) 4095 B_lat_lowHalves) (b_B_lat_highHalves : bd (0) 4095 B_lat_highHalves) (b_B_lat_ways : bd (0) 7 B_lat_ways) (b_B_smi_placedIrons : bd (0) 4095 B_smi_placedIrons) (b_B_smi_within : bd (0) 4095 B_smi_within) (b_B_smi_costs : bd (-128) 127 B_smi_costs) (b_Ph : pb (0) 4095 Ph) (b_Po : pb (0) 7 Po) (g_T : tI x_told_herds x_told_beasts B_told_brands B_told_homes) : MetG l D k yX0_temptedHerd cX0_temptedHerd 7 (some .int) 4 [.ref (a 49), .ref (q (4 * i0)), .int (mI p1)] (cW k a q x_xo_lyingCount x_tape_length x_tape_next x_tape_kind x_tape_place x_tape_number x_tape_faultKind x_tape_faultPlace x_told_turns x_told_mirror x_told_night x_told_draw x_told_herds x_told_irons x_told_beasts x_told_linesTold x_tfo_steps x_tfo_units x_draft_turns x_draft_mirror x_draft_night x_draft_draw x_draft_herds x_draft_irons x_draft_beasts x_draft_linesTold x_dfo_steps x_dfo_units x_lat_placements x_smi_irons x_smi_aim x_his_here x_his_undoable x_his_redoable x_book_placedCount x_wit_count x_wit_time n_tape_name B_xo_lying B_tape_bytes B_told_brands B_told_ironMarks B_told_homes B_told_births B_tfo_kinds B_tfo_numbers B_tfo_stack B_tfo_facts B_draft_brands B_draft_ironMarks B_draft_homes B_draft_births B_dfo_kinds B_dfo_numbers B_dfo_stack B_dfo_facts B_lat_lowHalves B_lat_highHalves B_lat_ways B_smi_placedIrons B_smi_within B_smi_costs B_his_isKept B_book_norms B_book_above B_book_heights B_book_placedBrands B_bea_firstGains B_bea_otherGains B_wit_burnings B_wit_strokes B_wit_wasOn B_wit_toldAt B_wit_untoldAt B_wit_on B_wit_off B_wit_firstCounts B_wit_secondCounts Ps Pd G_tape_wordNames G_told_herdNames G_told_ironNames G_told_beastNames G_draft_herdNames G_draft_ironNames G_draft_beastNames Ph Po Pg ex) (qGi (fun r0 H => ∃ (F_smi_within : Nat → Int) (F_smi_costs : Nat → Int) (y_smi_aim : Int), (-1 ≤ r0 ∧ r0 ≤ 7) ∧ (bd (0) 4095 F_smi_within) ∧ (bd (-128) 127 F_smi_costs) ∧ (-2147483648 ≤ y_smi_aim ∧ y_smi_aim ≤ 2147483647) ∧ (r0 ≤ x_told_herds - 1) ∧ va_P D vwCl (cW k a q x_xo_lyingCount x_tape_length x_tape_next x_tape_kind x_tape_place x_tape_number x_tape_faultKind x_tape_faultPlace x_told_turns x_told_mirror x_told_night x_told_draw x_told_herds x_told_irons x_told_beasts x_told_linesTold x_tfo_steps x_tfo_units x_draft_turns x_draft_mirror x_draft_night x_draft_draw x_draft_herds x_draft_irons x_draft_beasts x_draft_linesTold x_dfo_steps x_dfo_units x_lat_placements x_smi_irons y_smi_aim x_his_here x_his_undoable x_his_redoable x_book_placedCount x_wit_count x_wit_time n_tape_name B_xo_lying B_tape_bytes B_told_brands B_told_ironMarks B_told_homes B_told_births B_tfo_kinds B_tfo_numbers B_tfo_stack B_tfo_facts B_draft_brands B_draft_ironMarks B_draft_homes B_draft_births B_dfo_kinds B_dfo_numbers B_dfo_stack B_dfo_facts B_lat_lowHalves B_lat_highHalves B_lat_ways B_smi_placedIrons F_smi_within F_smi_costs B_his_isKept B_book_norms B_book_above B_book_heights B_book_placedBrands B_bea_firstGains B_bea_otherGains B_wit_burnings B_wit_strokes B_wit_wasOn B_wit_toldAt B_wit_untoldAt B_wit_on B_wit_off B_wit_firstCounts B_wit_secondCounts Ps Pd G_tape_wordNames G_told_herdNames G_told_ironNames G_told_beastNames G_draft_herdNames G_draft_ironNames G_draft_beastNames Ph Po Pg ex) H)) := by
  refine metG_of 2 ck_X0_temptedHerd (Nat.le_of_ble_eq_true rfl) cMap (fun p e s m args below meth c A hx hb hml hr hlocks hown hts hK hD hA hP hS ls hl => ?_)
  have hown : s.vm.findClass "HideReader$Beasts" = some m.cls := hown
  have hl : lv_has ls 7 [(0, .ref (a 49)), (1, .ref (q (4 * i0))), (2, .int (mI p1))] := hl
  refine lv_iconst (v := mI (-1)) hx hb dX0_temptedHerd_0 rfl ?_
  refine lv_istore_n (lv' := [(3, .int (mI (-1))), (0, .ref (a 49)), (1, .ref (q (4 * i0))), (2, .int (mI p1))]) hx hb dX0_temptedHerd_1 rfl hl (by decide) rfl (fun ls hl => ?_)
  refine lv_iconst (v := mI 5) hx hb dX0_temptedHerd_2 rfl ?_
  refine lv_istore (lv' := [(4, .int (mI 5)), (3, .int (mI (-1))), (0, .ref (a 49)), (1, .ref (q (4 * i0))), (2, .int (mI p1))]) hx hb dX0_temptedHerd_3 hl (by decide) rfl (fun ls hl => ?_)
  refine lv_iconst (v := mI 0) hx hb dX0_temptedHerd_5 rfl ?_
  refine lv_istore (lv' := [(5, .int (mI 0)), (4, .int (mI 5)), (3, .int (mI (-1))), (0, .ref (a 49)), (1, .ref (q (4 * i0))), (2, .int (mI p1))]) hx hb dX0_temptedHerd_6 hl (by decide) rfl (fun ls hl => ?_)
  refine sy_loop (I := fun n H locs g => ∃ (z_165 : Int) (z_166 : Int) (z_167 : Int) (F_168 : Nat → Int) (F_169 : Nat → Int) (y_170 : Int) (ls : Array Slot), (0 ≤ z_165 ∧ z_165 ≤ 8) ∧ (0 ≤ z_166 ∧ z_166 ≤ 5) ∧ (-1 ≤ z_167 ∧ z_167 ≤ 7) ∧ (bd (0) 4095 F_168) ∧ (bd (-128) 127 F_169) ∧ (-2147483648 ≤ y_170 ∧ y_170 ≤ 2147483647) ∧ (0 ≤ z_165 - z_167) ∧ (0 ≤ x_told_herds - z_167 - 1) ∧ (8 - z_165).toNat = n ∧ va_P D vwCl (cW k a q x_xo_lyingCount x_tape_length x_tape_next x_tape_kind x_tape_place x_tape_number x_tape_faultKind x_tape_faultPlace x_told_turns x_told_mirror x_told_night x_told_draw x_told_herds x_told_irons x_told_beasts x_told_linesTold x_tfo_steps x_tfo_units x_draft_turns x_draft_mirror x_draft_night x_draft_draw x_draft_herds x_draft_irons x_draft_beasts x_draft_linesTold x_dfo_steps x_dfo_units x_lat_placements x_smi_irons y_170 x_his_here x_his_undoable x_his_redoable x_book_placedCount x_wit_count x_wit_time n_tape_name B_xo_lying B_tape_bytes B_told_brands B_told_ironMarks B_told_homes B_told_births B_tfo_kinds B_tfo_numbers B_tfo_stack B_tfo_facts B_draft_brands B_draft_ironMarks B_draft_homes B_draft_births B_dfo_kinds B_dfo_numbers B_dfo_stack B_dfo_facts B_lat_lowHalves B_lat_highHalves B_lat_ways B_smi_placedIrons F_168 F_169 B_his_isKept B_book_norms B_book_above B_book_heights B_book_placedBrands B_bea_firstGains B_bea_otherGains B_wit_burnings B_wit_strokes B_wit_wasOn B_wit_toldAt B_wit_untoldAt B_wit_on B_wit_off B_wit_firstCounts B_wit_secondCounts Ps Pd G_tape_wordNames G_told_herdNames G_told_ironNames G_told_beastNames G_draft_herdNames G_draft_ironNames G_draft_beastNames Ph Po Pg ex) H ∧ va_S A s.heap H locs ∧ lv_has ls 7 [(5, .int (mI z_165)), (4, .int (mI z_166)), (3, .int (mI z_167)), (0, .ref (a 49)), (1, .ref (q (4 * i0))), (2, .int (mI p1))] ∧ g = F0 m 8 ls []) ?_ _ ⟨0, 5, (-1), B_smi_within, B_smi_costs, x_smi_aim, _, by omega, by omega, by omega, b_B_smi_within, b_B_smi_costs, by omega, by omega, by omega, rfl, hP, hS, lv_sub hl [0, 1, 2, 3, 4, 5] rfl, rfl⟩
  intro n_182 H locs g hI ih_183
  obtain ⟨z_165, z_166, z_167, F_168, F_169, y_170, ls, h8_0, h8_1, h8_2, bF_168, bF_169, h8_5, h8_6, h8_7, mn_182, hP, hS, hl, rfl⟩ := hI
  refine lv_iload hx hb dX0_temptedHerd_8 (lv_at hl 0 rfl) ?_
  refine lv_aload_n hx hb dX0_temptedHerd_10 rfl (lv_at hl 3 rfl) ?_
  refine cg_bea_told hx hb hts hown hK hP uw_2_167 dX0_temptedHerd_11 ?_
  refine cg_told_herds hx hb hts hown hK hP uw_1_172 dX0_temptedHerd_14 ?_
  refine sy_icmp_ge (tgt := 81) hx hb dX0_temptedHerd_17 (by decide) (by omega) (by omega) (fun c_184 => ?_) (fun c_184 => ?_)
  · skip
    refine lv_iload_n hx hb dX0_temptedHerd_81 rfl (lv_at hl 2 rfl) ?_
    exact r_i hx hb hr hlocks dX0_temptedHerd_82 hS ⟨F_168, F_169, y_170, by omega, bF_168, bF_169, by omega, by omega, hP⟩
  · skip
    refine lv_aload_n hx hb dX0_temptedHerd_20 rfl (lv_at hl 3 rfl) ?_
    refine cg_bea_smith hx hb hts hown hK hP uw_2_169 dX0_temptedHerd_21 ?_
    refine lv_aload_n hx hb dX0_temptedHerd_24 rfl (lv_at hl 4 rfl) ?_
    refine cg_past_hides (i := i0) (by omega) hx hb hts hown hK hP uw_2_87 dX0_temptedHerd_25 ?_
    refine lv_iload_n hx hb dX0_temptedHerd_28 rfl (lv_at hl 5 rfl) ?_
    refine cl_past_hides (i := i0) (by omega) hx hb hK hP dX0_temptedHerd_29 (by omega) b_Ph (fun z_185 _ hz_185 => ?_)
    refine lv_aload_n hx hb dX0_temptedHerd_30 rfl (lv_at hl 3 rfl) ?_
    refine cg_bea_told hx hb hts hown hK hP uw_2_167 dX0_temptedHerd_31 ?_
    refine cg_told_brands hx hb hts hown hK hP uw_1_197 dX0_temptedHerd_34 ?_
    refine lv_iload hx hb dX0_temptedHerd_37 (lv_at hl 0 rfl) ?_
    refine cl_told_brands hx hb hK hP dX0_temptedHerd_39 (by omega) b_B_told_brands (fun z_186 ez_186 hz_186 => ?_)
    have hz_186 := tI_b g_T (by omega) ez_186
    refine g_i (cDt hD) hS hA (g_V (own := "HideReader$Beasts") (As := [.int (mI z_185), .int (mI z_186)]) (rest := []) hx hb hml hown hts hK hP (cDt hD) (kc_X6_fewest (l := l) (D := D) (k := k) (by omega) (by omega) h_x_lat_placements h_x_smi_irons (by omega) b_B_lat_lowHalves b_B_lat_highHalves b_B_lat_ways b_B_smi_placedIrons bF_168 bF_169) ck_X6_fewest iv_X6_fewest uw_5_104 (cv_smi hK hP) rfl hl.1 rfl (Nat.le_of_ble_eq_true rfl) dX0_temptedHerd_40 ⟨Nat.le_of_ble_eq_true rfl, Nat.le_of_ble_eq_true rfl⟩ ⟨Nat.le_of_ble_eq_true rfl, Nat.le_of_ble_eq_true rfl⟩) (fun r_187 H locs hQ hS => ?_)
    obtain ⟨F_188, F_189, y_190, hr_187_0, bF_188, bF_189, hr_187_3, hP⟩ := hQ
    refine lv_istore (lv' := [(6, .int (mI r_187)), (5, .int (mI z_165)), (4, .int (mI z_166)), (3, .int (mI z_167)), (0, .ref (a 49)), (1, .ref (q (4 * i0))), (2, .int (mI p1))]) hx hb dX0_temptedHerd_43 hl (by decide) rfl (fun ls hl => ?_)
    refine lv_iload hx hb dX0_temptedHerd_45 (lv_at hl 1 rfl) ?_
    refine lv_aload_n hx hb dX0_temptedHerd_47 rfl (lv_at hl 5 rfl) ?_
    refine cg_past_owners (i := i0) (by omega) hx hb hts hown hK hP uw_2_91 dX0_temptedHerd_48 ?_
    refine lv_iload_n hx hb dX0_temptedHerd_51 rfl (lv_at hl 6 rfl) ?_
    refine cl_past_owners (i := i0) (by omega) hx hb hK hP dX0_temptedHerd_52 (by omega) b_Po (fun z_191 _ hz_191 => ?_)
    refine sy_icmp_eq (tgt := 75) hx hb dX0_temptedHerd_53 (by decide) (by omega) (by omega) (fun c_192 => ?_) (fun c_192 => ?_)
    · skip
      refine lv_iinc (v := mI (z_165 + 1)) (lv' := [(5, .int (mI (z_165 + 1))), (6, .int (mI r_187)), (4, .int (mI z_166)), (3, .int (mI z_167)), (0, .ref (a 49)), (1, .ref (q (4 * i0))), (2, .int (mI p1))]) hx hb dX0_temptedHerd_75 hl (k := 1) rfl (mI_ad rfl) (by decide) rfl (fun ls hl => ?_)
      refine lv_goto (tgt := 8) hx hb dX0_temptedHerd_78 (by decide) ?_
      exact ih_183 _ _ _ _ (by omega) ⟨(z_165 + 1), z_166, z_167, F_188, F_189, y_190, _, by omega, by omega, by omega, bF_188, bF_189, by omega, by omega, by omega, rfl, hP, hS, lv_sub hl [0, 2, 3, 4, 5, 6] rfl, rfl⟩
    · skip
      refine lv_iload hx hb dX0_temptedHerd_56 (lv_at hl 0 rfl) ?_
      refine sy_if_le (tgt := 75) hx hb dX0_temptedHerd_58 (by decide) (by omega) (fun c_193 => ?_) (fun c_193 => ?_)
      · skip
        refine lv_iinc (v := mI (z_165 + 1)) (lv' := [(5, .int (mI (z_165 + 1))), (6, .int (mI r_187)), (4, .int (mI z_166)), (3, .int (mI z_167)), (0, .ref (a 49)), (1, .ref (q (4 * i0))), (2, .int (mI p1))]) hx hb dX0_temptedHerd_75 hl (k := 1) rfl (mI_ad rfl) (by decide) rfl (fun ls hl => ?_)
        refine lv_goto (tgt := 8) hx hb dX0_temptedHerd_78 (by decide) ?_
        exact ih_183 _ _ _ _ (by omega) ⟨(z_165 + 1), z_166, z_167, F_188, F_189, y_190, _, by omega, by omega, by omega, bF_188, bF_189, by omega, by omega, by omega, rfl, hP, hS, lv_sub hl [0, 2, 3, 4, 5, 6] rfl, rfl⟩
      · skip
        refine lv_iload hx hb dX0_temptedHerd_61 (lv_at hl 0 rfl) ?_
        refine lv_iload hx hb dX0_temptedHerd_63 (lv_at hl 2 rfl) ?_
        refine sy_icmp_ge (tgt := 75) hx hb dX0_temptedHerd_65 (by decide) (by omega) (by omega) (fun c_194 => ?_) (fun c_194 => ?_)
        · skip
          refine lv_iinc (v := mI (z_165 + 1)) (lv' := [(5, .int (mI (z_165 + 1))), (6, .int (mI r_187)), (4, .int (mI z_166)), (3, .int (mI z_167)), (0, .ref (a 49)), (1, .ref (q (4 * i0))), (2, .int (mI p1))]) hx hb dX0_temptedHerd_75 hl (k := 1) rfl (mI_ad rfl) (by decide) rfl (fun ls hl => ?_)
          refine lv_goto (tgt := 8) hx hb dX0_temptedHerd_78 (by decide) ?_
          exact ih_183 _ _ _ _ (by omega) ⟨(z_165 + 1), z_166, z_167, F_188, F_189, y_190, _, by omega, by omega, by omega, bF_188, bF_189, by omega, by omega, by omega, rfl, hP, hS, lv_sub hl [0, 2, 3, 4, 5, 6] rfl, rfl⟩
        · skip
          refine lv_iload hx hb dX0_temptedHerd_68 (lv_at hl 1 rfl) ?_
          refine lv_istore_n (lv' := [(3, .int (mI z_165)), (6, .int (mI r_187)), (5, .int (mI z_165)), (4, .int (mI z_166)), (0, .ref (a 49)), (1, .ref (q (4 * i0))), (2, .int (mI p1))]) hx hb dX0_temptedHerd_70 rfl hl (by decide) rfl (fun ls hl => ?_)
          refine lv_iload hx hb dX0_temptedHerd_71 (lv_at hl 1 rfl) ?_
          refine lv_istore (lv' := [(4, .int (mI r_187)), (3, .int (mI z_165)), (6, .int (mI r_187)), (5, .int (mI z_165)), (0, .ref (a 49)), (1, .ref (q (4 * i0))), (2, .int (mI p1))]) hx hb dX0_temptedHerd_73 hl (by decide) rfl (fun ls hl => ?_)
          refine lv_iinc (v := mI (z_165 + 1)) (lv' := [(5, .int (mI (z_165 + 1))), (4, .int (mI r_187)), (3, .int (mI z_165)), (6, .int (mI r_187)), (0, .ref (a 49)), (1, .ref (q (4 * i0))), (2, .int (mI p1))]) hx hb dX0_temptedHerd_75 hl (k := 3) rfl (mI_ad rfl) (by decide) rfl (fun ls hl => ?_)
          refine lv_goto (tgt := 8) hx hb dX0_temptedHerd_78 (by decide) ?_
          exact ih_183 _ _ _ _ (by omega) ⟨(z_165 + 1), r_187, z_165, F_188, F_189, y_190, _, by omega, by omega, by omega, bF_188, bF_189, by omega, by omega, by omega, rfl, hP, hS, lv_sub hl [0, 1, 2, 4, 5, 6] rfl, rfl⟩
set_option maxHeartbeats 4000000 in
set_option maxRecDepth 100000 in
theorem kc_X0_strayBeasts {i0 : Nat} (hi0 : i0 < 44) (h_x_told_beasts : 0 ≤ x_told_beasts ∧ x_told_beasts ≤ 8) (h_x_lat_placements : 1 ≤ x_lat_placements ∧ x_lat_placements ≤ 8) (b_B_told_brands : bd (-2147483648) 2147483647 B_told_brands) (b_B_lat_lowHalves : bd (0) 4095 B_lat_lowHalves) (b_B_lat_highHalves : bd (0) 4095 B_lat_highHalves) (b_B_lat_ways : bd (0) 7 B_lat_ways) (b_Ph : pb (0) 4095 Ph) (b_Po : pb (0) 7 Po) : MetG l D k yX0_strayBeasts cX0_strayBeasts 5 (some .int) 2 [.ref (a 49), .ref (q (4 * i0))] (cW k a q x_xo_lyingCount x_tape_length x_tape_next x_tape_kind x_tape_place x_tape_number x_tape_faultKind x_tape_faultPlace x_told_turns x_told_mirror x_told_night x_told_draw x_told_herds x_told_irons x_told_beasts x_told_linesTold x_tfo_steps x_tfo_units x_draft_turns x_draft_mirror x_draft_night x_draft_draw x_draft_herds x_draft_irons x_draft_beasts x_draft_linesTold x_dfo_steps x_dfo_units x_lat_placements x_smi_irons x_smi_aim x_his_here x_his_undoable x_his_redoable x_book_placedCount x_wit_count x_wit_time n_tape_name B_xo_lying B_tape_bytes B_told_brands B_told_ironMarks B_told_homes B_told_births B_tfo_kinds B_tfo_numbers B_tfo_stack B_tfo_facts B_draft_brands B_draft_ironMarks B_draft_homes B_draft_births B_dfo_kinds B_dfo_numbers B_dfo_stack B_dfo_facts B_lat_lowHalves B_lat_highHalves B_lat_ways B_smi_placedIrons B_smi_within B_smi_costs B_his_isKept B_book_norms B_book_above B_book_heights B_book_placedBrands B_bea_firstGains B_bea_otherGains B_wit_burnings B_wit_strokes B_wit_wasOn B_wit_toldAt B_wit_untoldAt B_wit_on B_wit_off B_wit_firstCounts B_wit_secondCounts Ps Pd G_tape_wordNames G_told_herdNames G_told_ironNames G_told_beastNames G_draft_herdNames G_draft_ironNames G_draft_beastNames Ph Po Pg ex) (qGi (fun r0 H => (0 ≤ r0 ∧ r0 ≤ 255) ∧ va_P D vwCl (cW k a q x_xo_lyingCount x_tape_length x_tape_next x_tape_kind x_tape_place x_tape_number x_tape_faultKind x_tape_faultPlace x_told_turns x_told_mirror x_told_night x_told_draw x_told_herds x_told_irons x_told_beasts x_told_linesTold x_tfo_steps x_tfo_units x_draft_turns x_draft_mirror x_draft_night x_draft_draw x_draft_herds x_draft_irons x_draft_beasts x_draft_linesTold x_dfo_steps x_dfo_units x_lat_placements x_smi_irons x_smi_aim x_his_here x_his_undoable x_his_redoable x_book_placedCount x_wit_count x_wit_time n_tape_name B_xo_lying B_tape_bytes B_told_brands B_told_ironMarks B_told_homes B_told_births B_tfo_kinds B_tfo_numbers B_tfo_stack B_tfo_facts B_draft_brands B_draft_ironMarks B_draft_homes B_draft_births B_dfo_kinds B_dfo_numbers B_dfo_stack B_dfo_facts B_lat_lowHalves B_lat_highHalves B_lat_ways B_smi_placedIrons B_smi_within B_smi_costs B_his_isKept B_book_norms B_book_above B_book_heights B_book_placedBrands B_bea_firstGains B_bea_otherGains B_wit_burnings B_wit_strokes B_wit_wasOn B_wit_toldAt B_wit_untoldAt B_wit_on B_wit_off B_wit_firstCounts B_wit_secondCounts Ps Pd G_tape_wordNames G_told_herdNames G_told_ironNames G_told_beastNames G_draft_herdNames G_draft_ironNames G_draft_beastNames Ph Po Pg ex) H)) := by
  refine metG_of 1 ck_X0_strayBeasts (Nat.le_of_ble_eq_true rfl) cMap (fun p e s m args below meth c A hx hb hml hr hlocks hown hts hK hD hA hP hS ls hl => ?_)
  have hown : s.vm.findClass "HideReader$Beasts" = some m.cls := hown
  have hl : lv_has ls 5 [(0, .ref (a 49)), (1, .ref (q (4 * i0)))] := hl
  refine lv_iconst (v := mI 0) hx hb dX0_strayBeasts_0 rfl ?_
  refine lv_istore_n (lv' := [(2, .int (mI 0)), (0, .ref (a 49)), (1, .ref (q (4 * i0)))]) hx hb dX0_strayBeasts_1 rfl hl (by decide) rfl (fun ls hl => ?_)
  refine lv_iconst (v := mI 0) hx hb dX0_strayBeasts_2 rfl ?_
  refine lv_istore_n (lv' := [(3, .int (mI 0)), (2, .int (mI 0)), (0, .ref (a 49)), (1, .ref (q (4 * i0)))]) hx hb dX0_strayBeasts_3 rfl hl (by decide) rfl (fun ls hl => ?_)
  refine sy_loop (I := fun n H locs g => ∃ (z_289 : Int) (z_290 : Int) (ls : Array Slot), (0 ≤ z_289 ∧ z_289 ≤ 8) ∧ (0 ≤ z_290 ∧ z_290 ≤ 255) ∧ (8 - z_289).toNat = n ∧ va_P D vwCl (cW k a q x_xo_lyingCount x_tape_length x_tape_next x_tape_kind x_tape_place x_tape_number x_tape_faultKind x_tape_faultPlace x_told_turns x_told_mirror x_told_night x_told_draw x_told_herds x_told_irons x_told_beasts x_told_linesTold x_tfo_steps x_tfo_units x_draft_turns x_draft_mirror x_draft_night x_draft_draw x_draft_herds x_draft_irons x_draft_beasts x_draft_linesTold x_dfo_steps x_dfo_units x_lat_placements x_smi_irons x_smi_aim x_his_here x_his_undoable x_his_redoable x_book_placedCount x_wit_count x_wit_time n_tape_name B_xo_lying B_tape_bytes B_told_brands B_told_ironMarks B_told_homes B_told_births B_tfo_kinds B_tfo_numbers B_tfo_stack B_tfo_facts B_draft_brands B_draft_ironMarks B_draft_homes B_draft_births B_dfo_kinds B_dfo_numbers B_dfo_stack B_dfo_facts B_lat_lowHalves B_lat_highHalves B_lat_ways B_smi_placedIrons B_smi_within B_smi_costs B_his_isKept B_book_norms B_book_above B_book_heights B_book_placedBrands B_bea_firstGains B_bea_otherGains B_wit_burnings B_wit_strokes B_wit_wasOn B_wit_toldAt B_wit_untoldAt B_wit_on B_wit_off B_wit_firstCounts B_wit_secondCounts Ps Pd G_tape_wordNames G_told_herdNames G_told_ironNames G_told_beastNames G_draft_herdNames G_draft_ironNames G_draft_beastNames Ph Po Pg ex) H ∧ va_S A s.heap H locs ∧ lv_has ls 5 [(3, .int (mI z_289)), (2, .int (mI z_290)), (0, .ref (a 49)), (1, .ref (q (4 * i0)))] ∧ g = F0 m 4 ls []) ?_ _ ⟨0, 0, _, by omega, by omega, rfl, hP, hS, lv_sub hl [0, 1, 2, 3] rfl, rfl⟩
  intro n_299 H locs g hI ih_300
  obtain ⟨z_289, z_290, ls, h4_0, h4_1, mn_299, hP, hS, hl, rfl⟩ := hI
  refine lv_iload_n hx hb dX0_strayBeasts_4 rfl (lv_at hl 0 rfl) ?_
  refine lv_aload_n hx hb dX0_strayBeasts_5 rfl (lv_at hl 2 rfl) ?_
  refine cg_bea_told hx hb hts hown hK hP uw_2_167 dX0_strayBeasts_6 ?_
  refine cg_told_beasts hx hb hts hown hK hP uw_1_180 dX0_strayBeasts_9 ?_
  refine sy_icmp_ge (tgt := 61) hx hb dX0_strayBeasts_12 (by decide) (by omega) (by omega) (fun c_301 => ?_) (fun c_301 => ?_)
  · skip
    refine lv_iload_n hx hb dX0_strayBeasts_61 rfl (lv_at hl 1 rfl) ?_
    exact r_i hx hb hr hlocks dX0_strayBeasts_62 hS ⟨by omega, hP⟩
  · skip
    refine lv_aload_n hx hb dX0_strayBeasts_15 rfl (lv_at hl 3 rfl) ?_
    refine cg_past_owners (i := i0) (by omega) hx hb hts hown hK hP uw_2_91 dX0_strayBeasts_16 ?_
    refine lv_iload_n hx hb dX0_strayBeasts_19 rfl (lv_at hl 0 rfl) ?_
    refine cl_past_owners (i := i0) (by omega) hx hb hK hP dX0_strayBeasts_20 (by omega) b_Po (fun z_302 _ hz_302 => ?_)
    refine lv_istore (lv' := [(4, .int (mI z_302)), (3, .int (mI z_289)), (2, .int (mI z_290)), (0, .ref (a 49)), (1, .ref (q (4 * i0)))]) hx hb dX0_strayBeasts_21 hl (by decide) rfl (fun ls hl => ?_)
    refine lv_aload_n hx hb dX0_strayBeasts_23 rfl (lv_at hl 3 rfl) ?_
    refine cg_bea_lattice hx hb hts hown hK hP uw_2_168 dX0_strayBeasts_24 ?_
    refine lv_aload_n hx hb dX0_strayBeasts_27 rfl (lv_at hl 4 rfl) ?_
    refine cg_past_hides (i := i0) (by omega) hx hb hts hown hK hP uw_2_87 dX0_strayBeasts_28 ?_
    refine lv_iload_n hx hb dX0_strayBeasts_31 rfl (lv_at hl 1 rfl) ?_
    refine cl_past_hides (i := i0) (by omega) hx hb hK hP dX0_strayBeasts_32 (by omega) b_Ph (fun z_303 _ hz_303 => ?_)
    refine lv_aload_n hx hb dX0_strayBeasts_33 rfl (lv_at hl 3 rfl) ?_
    refine cg_bea_told hx hb hts hown hK hP uw_2_167 dX0_strayBeasts_34 ?_
    refine cg_told_brands hx hb hts hown hK hP uw_1_197 dX0_strayBeasts_37 ?_
    refine lv_iload hx hb dX0_strayBeasts_40 (lv_at hl 0 rfl) ?_
    refine cl_told_brands hx hb hK hP dX0_strayBeasts_42 (by omega) b_B_told_brands (fun z_304 ez_304 hz_304 => ?_)
    refine g_i (cDt hD) hS hA (g_V (own := "HideReader$Beasts") (As := [.int (mI z_303), .int (mI z_304)]) (rest := []) hx hb hml hown hts hK hP (cDt hD) (kc_X4_isOne (l := l) (D := D) (k := k) (by omega) (by omega) h_x_lat_placements b_B_lat_lowHalves b_B_lat_highHalves b_B_lat_ways) ck_X4_isOne iv_X4_isOne uw_5_114 (cv_lat hK hP) rfl hl.1 rfl (Nat.le_of_ble_eq_true rfl) dX0_strayBeasts_43 ⟨Nat.le_of_ble_eq_true rfl, Nat.le_of_ble_eq_true rfl⟩ ⟨Nat.le_of_ble_eq_true rfl, Nat.le_of_ble_eq_true rfl⟩) (fun r_305 H locs hQ hS => ?_)
    obtain ⟨hr_305_0, hP⟩ := hQ
    refine sy_if_ne (tgt := 55) hx hb dX0_strayBeasts_46 (by decide) (by omega) (fun c_306 => ?_) (fun c_306 => ?_)
    · skip
      refine lv_iinc (v := mI (z_289 + 1)) (lv' := [(3, .int (mI (z_289 + 1))), (4, .int (mI z_302)), (2, .int (mI z_290)), (0, .ref (a 49)), (1, .ref (q (4 * i0)))]) hx hb dX0_strayBeasts_55 hl (k := 1) rfl (mI_ad rfl) (by decide) rfl (fun ls hl => ?_)
      refine lv_goto (tgt := 4) hx hb dX0_strayBeasts_58 (by decide) ?_
      exact ih_300 _ _ _ _ (by omega) ⟨(z_289 + 1), z_290, _, by omega, by omega, rfl, hP, hS, lv_sub hl [0, 2, 3, 4] rfl, rfl⟩
    · skip
      refine lv_iload_n hx hb dX0_strayBeasts_49 rfl (lv_at hl 2 rfl) ?_
      refine lv_iconst (v := mI 1) hx hb dX0_strayBeasts_50 rfl ?_
      refine lv_iload_n hx hb dX0_strayBeasts_51 rfl (lv_at hl 1 rfl) ?_
      refine sy_shl1 hx hb dX0_strayBeasts_52 7 (by decide) 128 (by decide) (by omega) (fun z_307 ez_307 hz_307 => ?_)
      refine sy_ior hx hb dX0_strayBeasts_53 8 (by decide) 256 (by decide) (by omega) (by omega) (fun z_308 hz_308 => ?_)
      refine lv_istore_n (lv' := [(2, .int (mI z_308)), (4, .int (mI z_302)), (3, .int (mI z_289)), (0, .ref (a 49)), (1, .ref (q (4 * i0)))]) hx hb dX0_strayBeasts_54 rfl hl (by decide) rfl (fun ls hl => ?_)
      refine lv_iinc (v := mI (z_289 + 1)) (lv' := [(3, .int (mI (z_289 + 1))), (2, .int (mI z_308)), (4, .int (mI z_302)), (0, .ref (a 49)), (1, .ref (q (4 * i0)))]) hx hb dX0_strayBeasts_55 hl (k := 2) rfl (mI_ad rfl) (by decide) rfl (fun ls hl => ?_)
      refine lv_goto (tgt := 4) hx hb dX0_strayBeasts_58 (by decide) ?_
      exact ih_300 _ _ _ _ (by omega) ⟨(z_289 + 1), z_308, _, by omega, by omega, rfl, hP, hS, lv_sub hl [0, 1, 3, 4] rfl, rfl⟩
set_option maxHeartbeats 4000000 in
set_option maxRecDepth 100000 in
theorem kc_X0_untouchedStrokes {i0 : Nat} (hi0 : i0 < 44) (h_x_told_beasts : 0 ≤ x_told_beasts ∧ x_told_beasts ≤ 8) (b_Ph : pb (0) 4095 Ph) : MetG l D k yX0_untouchedStrokes cX0_untouchedStrokes 4 (some .int) 0 [.ref (a 49), .ref (q (4 * i0))] (cW k a q x_xo_lyingCount x_tape_length x_tape_next x_tape_kind x_tape_place x_tape_number x_tape_faultKind x_tape_faultPlace x_told_turns x_told_mirror x_told_night x_told_draw x_told_herds x_told_irons x_told_beasts x_told_linesTold x_tfo_steps x_tfo_units x_draft_turns x_draft_mirror x_draft_night x_draft_draw x_draft_herds x_draft_irons x_draft_beasts x_draft_linesTold x_dfo_steps x_dfo_units x_lat_placements x_smi_irons x_smi_aim x_his_here x_his_undoable x_his_redoable x_book_placedCount x_wit_count x_wit_time n_tape_name B_xo_lying B_tape_bytes B_told_brands B_told_ironMarks B_told_homes B_told_births B_tfo_kinds B_tfo_numbers B_tfo_stack B_tfo_facts B_draft_brands B_draft_ironMarks B_draft_homes B_draft_births B_dfo_kinds B_dfo_numbers B_dfo_stack B_dfo_facts B_lat_lowHalves B_lat_highHalves B_lat_ways B_smi_placedIrons B_smi_within B_smi_costs B_his_isKept B_book_norms B_book_above B_book_heights B_book_placedBrands B_bea_firstGains B_bea_otherGains B_wit_burnings B_wit_strokes B_wit_wasOn B_wit_toldAt B_wit_untoldAt B_wit_on B_wit_off B_wit_firstCounts B_wit_secondCounts Ps Pd G_tape_wordNames G_told_herdNames G_told_ironNames G_told_beastNames G_draft_herdNames G_draft_ironNames G_draft_beastNames Ph Po Pg ex) (qGi (fun r0 H => (0 ≤ r0 ∧ r0 ≤ 4095) ∧ va_P D vwCl (cW k a q x_xo_lyingCount x_tape_length x_tape_next x_tape_kind x_tape_place x_tape_number x_tape_faultKind x_tape_faultPlace x_told_turns x_told_mirror x_told_night x_told_draw x_told_herds x_told_irons x_told_beasts x_told_linesTold x_tfo_steps x_tfo_units x_draft_turns x_draft_mirror x_draft_night x_draft_draw x_draft_herds x_draft_irons x_draft_beasts x_draft_linesTold x_dfo_steps x_dfo_units x_lat_placements x_smi_irons x_smi_aim x_his_here x_his_undoable x_his_redoable x_book_placedCount x_wit_count x_wit_time n_tape_name B_xo_lying B_tape_bytes B_told_brands B_told_ironMarks B_told_homes B_told_births B_tfo_kinds B_tfo_numbers B_tfo_stack B_tfo_facts B_draft_brands B_draft_ironMarks B_draft_homes B_draft_births B_dfo_kinds B_dfo_numbers B_dfo_stack B_dfo_facts B_lat_lowHalves B_lat_highHalves B_lat_ways B_smi_placedIrons B_smi_within B_smi_costs B_his_isKept B_book_norms B_book_above B_book_heights B_book_placedBrands B_bea_firstGains B_bea_otherGains B_wit_burnings B_wit_strokes B_wit_wasOn B_wit_toldAt B_wit_untoldAt B_wit_on B_wit_off B_wit_firstCounts B_wit_secondCounts Ps Pd G_tape_wordNames G_told_herdNames G_told_ironNames G_told_beastNames G_draft_herdNames G_draft_ironNames G_draft_beastNames Ph Po Pg ex) H)) := by
  refine metG_of 1 ck_X0_untouchedStrokes (Nat.le_of_ble_eq_true rfl) cMap (fun p e s m args below meth c A hx hb hml hr hlocks hown hts hK hD hA hP hS ls hl => ?_)
  have hown : s.vm.findClass "HideReader$Beasts" = some m.cls := hown
  have hl : lv_has ls 4 [(0, .ref (a 49)), (1, .ref (q (4 * i0)))] := hl
  refine lv_sipush (v := mI 4095) hx hb dX0_untouchedStrokes_0 (by decide) ?_
  refine lv_istore_n (lv' := [(2, .int (mI 4095)), (0, .ref (a 49)), (1, .ref (q (4 * i0)))]) hx hb dX0_untouchedStrokes_3 rfl hl (by decide) rfl (fun ls hl => ?_)
  refine lv_iconst (v := mI 0) hx hb dX0_untouchedStrokes_4 rfl ?_
  refine lv_istore_n (lv' := [(3, .int (mI 0)), (2, .int (mI 4095)), (0, .ref (a 49)), (1, .ref (q (4 * i0)))]) hx hb dX0_untouchedStrokes_5 rfl hl (by decide) rfl (fun ls hl => ?_)
  refine sy_loop (I := fun n H locs g => ∃ (z_53 : Int) (z_54 : Int) (ls : Array Slot), (0 ≤ z_53 ∧ z_53 ≤ 8) ∧ (0 ≤ z_54 ∧ z_54 ≤ 4095) ∧ (8 - z_53).toNat = n ∧ va_P D vwCl (cW k a q x_xo_lyingCount x_tape_length x_tape_next x_tape_kind x_tape_place x_tape_number x_tape_faultKind x_tape_faultPlace x_told_turns x_told_mirror x_told_night x_told_draw x_told_herds x_told_irons x_told_beasts x_told_linesTold x_tfo_steps x_tfo_units x_draft_turns x_draft_mirror x_draft_night x_draft_draw x_draft_herds x_draft_irons x_draft_beasts x_draft_linesTold x_dfo_steps x_dfo_units x_lat_placements x_smi_irons x_smi_aim x_his_here x_his_undoable x_his_redoable x_book_placedCount x_wit_count x_wit_time n_tape_name B_xo_lying B_tape_bytes B_told_brands B_told_ironMarks B_told_homes B_told_births B_tfo_kinds B_tfo_numbers B_tfo_stack B_tfo_facts B_draft_brands B_draft_ironMarks B_draft_homes B_draft_births B_dfo_kinds B_dfo_numbers B_dfo_stack B_dfo_facts B_lat_lowHalves B_lat_highHalves B_lat_ways B_smi_placedIrons B_smi_within B_smi_costs B_his_isKept B_book_norms B_book_above B_book_heights B_book_placedBrands B_bea_firstGains B_bea_otherGains B_wit_burnings B_wit_strokes B_wit_wasOn B_wit_toldAt B_wit_untoldAt B_wit_on B_wit_off B_wit_firstCounts B_wit_secondCounts Ps Pd G_tape_wordNames G_told_herdNames G_told_ironNames G_told_beastNames G_draft_herdNames G_draft_ironNames G_draft_beastNames Ph Po Pg ex) H ∧ va_S A s.heap H locs ∧ lv_has ls 4 [(3, .int (mI z_53)), (2, .int (mI z_54)), (0, .ref (a 49)), (1, .ref (q (4 * i0)))] ∧ g = F0 m 6 ls []) ?_ _ ⟨0, 4095, _, by omega, by omega, rfl, hP, hS, lv_sub hl [0, 1, 2, 3] rfl, rfl⟩
  intro n_59 H locs g hI ih_60
  obtain ⟨z_53, z_54, ls, h6_0, h6_1, mn_59, hP, hS, hl, rfl⟩ := hI
  refine lv_iload_n hx hb dX0_untouchedStrokes_6 rfl (lv_at hl 0 rfl) ?_
  refine lv_aload_n hx hb dX0_untouchedStrokes_7 rfl (lv_at hl 2 rfl) ?_
  refine cg_bea_told hx hb hts hown hK hP uw_2_167 dX0_untouchedStrokes_8 ?_
  refine cg_told_beasts hx hb hts hown hK hP uw_1_180 dX0_untouchedStrokes_11 ?_
  refine sy_icmp_ge (tgt := 34) hx hb dX0_untouchedStrokes_14 (by decide) (by omega) (by omega) (fun c_61 => ?_) (fun c_61 => ?_)
  · skip
    refine lv_iload_n hx hb dX0_untouchedStrokes_34 rfl (lv_at hl 1 rfl) ?_
    exact r_i hx hb hr hlocks dX0_untouchedStrokes_35 hS ⟨by omega, hP⟩
  · skip
    refine lv_iload_n hx hb dX0_untouchedStrokes_17 rfl (lv_at hl 1 rfl) ?_
    refine lv_aload_n hx hb dX0_untouchedStrokes_18 rfl (lv_at hl 3 rfl) ?_
    refine cg_past_hides (i := i0) (by omega) hx hb hts hown hK hP uw_2_87 dX0_untouchedStrokes_19 ?_
    refine lv_iload_n hx hb dX0_untouchedStrokes_22 rfl (lv_at hl 0 rfl) ?_
    refine cl_past_hides (i := i0) (by omega) hx hb hK hP dX0_untouchedStrokes_23 (by omega) b_Ph (fun z_62 _ hz_62 => ?_)
    refine lv_iconst (v := mI (-1)) hx hb dX0_untouchedStrokes_24 rfl ?_
    refine lv_ixor hx hb dX0_untouchedStrokes_25 ?_
    refine sy_any (fun z_63 hz_63 => ?_)
    refine sy_iandL hx hb dX0_untouchedStrokes_26 (by omega) (fun z_64 hz_64 => ?_)
    refine lv_istore_n (lv' := [(2, .int (mI z_64)), (3, .int (mI z_53)), (0, .ref (a 49)), (1, .ref (q (4 * i0)))]) hx hb dX0_untouchedStrokes_27 rfl hl (by decide) rfl (fun ls hl => ?_)
    refine lv_iinc (v := mI (z_53 + 1)) (lv' := [(3, .int (mI (z_53 + 1))), (2, .int (mI z_64)), (0, .ref (a 49)), (1, .ref (q (4 * i0)))]) hx hb dX0_untouchedStrokes_28 hl (k := 1) rfl (mI_ad rfl) (by decide) rfl (fun ls hl => ?_)
    refine lv_goto (tgt := 6) hx hb dX0_untouchedStrokes_31 (by decide) ?_
    exact ih_60 _ _ _ _ (by omega) ⟨(z_53 + 1), z_64, _, by omega, by omega, rfl, hP, hS, lv_sub hl [0, 1, 2, 3] rfl, rfl⟩
end Kc
