section Kr
variable {l : Launch} {D : va_G} {k : Nat → ClassId} {a : Nat → Nat} {ex : va_W} {x_taped x_size x_faultKind x_faultPlace x_at x_end x_token x_number x_bank x_rb x_codes x_within x_piled x_unitsInRule x_askBeast x_askStroke x_askAge x_askSeason x_acts x_undone x_laid x_seens x_time x_fitting : Int} {n_name : Int64} {B_tape B_text B_turns B_herds B_irons B_beasts B_units B_night B_draw B_told B_brands B_ironMarks B_herdTold B_born B_ruleFrom B_ruleTo B_code B_codeNumber B_eWhat B_eSign B_pile B_all B_burned B_was B_need B_laidRow B_long8 B_brings B_sBurning B_sStroke B_sIs B_sTold B_sUntold B_parts B_boxAll B_isBoxed : Nat → Int} {G_hName G_iName G_bName : Nat → Int64}
set_option maxHeartbeats 4000000 in
set_option maxRecDepth 100000 in
theorem kr_X12_layRows {p0 : Int} (hp0 : -2147483648 ≤ p0 ∧ p0 ≤ 2147483647) (h_x_bank : 0 ≤ x_bank ∧ x_bank ≤ 1) (h_x_seens : 0 ≤ x_seens ∧ x_seens ≤ 30) (b_B_turns : bd (1) 4 B_turns) (b_B_irons : bd (0) 6 B_irons) (b_B_beasts : bd (0) 8 B_beasts) (b_B_told : bd (0) 31 B_told) (b_B_brands : bd (0) 4095 B_brands) (b_B_herdTold : bd (0) 7 B_herdTold) (b_B_burned : bd (0) 4095 B_burned) (b_B_sBurning : bd (0) 2 B_sBurning) (b_B_sStroke : bd (0) 11 B_sStroke) (b_B_sIs : bd (0) 1 B_sIs) (b_B_sTold : bd (0) 100000 B_sTold) (b_B_sUntold : bd (-1) 100000 B_sUntold) (b_B_parts : bd (-2147483648) 2147483647 B_parts) : MetG l D k yX12_layRows cX12_layRows 5 none 2 [.ref (a 0), .int (mI p0)] (rW k a x_taped x_size x_faultKind x_faultPlace x_at x_end x_token x_number x_bank x_rb x_codes x_within x_piled x_unitsInRule x_askBeast x_askStroke x_askAge x_askSeason x_acts x_undone x_laid x_seens x_time x_fitting n_name B_tape B_text B_turns B_herds B_irons B_beasts B_units B_night B_draw B_told B_brands B_ironMarks B_herdTold B_born B_ruleFrom B_ruleTo B_code B_codeNumber B_eWhat B_eSign B_pile B_all B_burned B_was B_need B_laidRow B_long8 B_brings B_sBurning B_sStroke B_sIs B_sTold B_sUntold B_parts B_boxAll B_isBoxed G_hName G_iName G_bName ex) (qGv (fun H => ∃ (F_parts : Nat → Int) (y_fitting : Int), (bd (-2147483648) 2147483647 F_parts) ∧ (-2147483648 ≤ y_fitting ∧ y_fitting ≤ 2147483647) ∧ va_P D vwCl (rW k a x_taped x_size x_faultKind x_faultPlace x_at x_end x_token x_number x_bank x_rb x_codes x_within x_piled x_unitsInRule x_askBeast x_askStroke x_askAge x_askSeason x_acts x_undone x_laid x_seens x_time y_fitting n_name B_tape B_text B_turns B_herds B_irons B_beasts B_units B_night B_draw B_told B_brands B_ironMarks B_herdTold B_born B_ruleFrom B_ruleTo B_code B_codeNumber B_eWhat B_eSign B_pile B_all B_burned B_was B_need B_laidRow B_long8 B_brings B_sBurning B_sStroke B_sIs B_sTold B_sUntold F_parts B_boxAll B_isBoxed G_hName G_iName G_bName ex) H)) := by
  refine metG_of 1 ck_X12_layRows (Nat.le_of_ble_eq_true rfl) rMap (fun p e s m args below meth c A hx hb hml hr hlocks hown hts hK hD hA hP hS ls hl => ?_)
  have hown : s.vm.findClass "HideReaderModel" = some m.cls := hown
  have hl : lv_has ls 5 [(0, .ref (a 0)), (1, .int (mI p0))] := hl
  refine lv_aload_n hx hb dX12_layRows_0 rfl (lv_at hl 0 rfl) ?_
  refine lv_iconst (v := mI 0) hx hb dX12_layRows_1 rfl ?_
  refine rp_o_fitting hx hb hts hown hK hP hD hS uw_7_84 dX12_layRows_2 (fun H locs hP hS => ?_)
  refine lv_iconst (v := mI 0) hx hb dX12_layRows_5 rfl ?_
  refine lv_istore_n (lv' := [(2, .int (mI 0)), (0, .ref (a 0)), (1, .int (mI p0))]) hx hb dX12_layRows_6 rfl hl (by decide) rfl (fun ls hl => ?_)
  refine sy_loop (I := fun n H locs g => ∃ (z_8213 : Int) (F_8214 : Nat → Int) (ls : Array Slot), (0 ≤ z_8213 ∧ z_8213 ≤ 12) ∧ (bd (-2147483648) 2147483647 F_8214) ∧ (12 - z_8213).toNat = n ∧ va_P D vwCl (rW k a x_taped x_size x_faultKind x_faultPlace x_at x_end x_token x_number x_bank x_rb x_codes x_within x_piled x_unitsInRule x_askBeast x_askStroke x_askAge x_askSeason x_acts x_undone x_laid x_seens x_time 0 n_name B_tape B_text B_turns B_herds B_irons B_beasts B_units B_night B_draw B_told B_brands B_ironMarks B_herdTold B_born B_ruleFrom B_ruleTo B_code B_codeNumber B_eWhat B_eSign B_pile B_all B_burned B_was B_need B_laidRow B_long8 B_brings B_sBurning B_sStroke B_sIs B_sTold B_sUntold F_8214 B_boxAll B_isBoxed G_hName G_iName G_bName ex) H ∧ va_S A s.heap H locs ∧ lv_has ls 5 [(2, .int (mI z_8213)), (0, .ref (a 0)), (1, .int (mI p0))] ∧ g = F0 m 7 ls []) ?_ _ ⟨0, B_parts, _, by omega, b_B_parts, rfl, hP, hS, lv_sub hl [0, 1, 2] rfl, rfl⟩
  intro n_9747 H locs g hI ih_9748
  obtain ⟨z_8213, F_8214, ls, h7_0, bF_8214, mn_9747, hP, hS, hl, rfl⟩ := hI
  refine lv_iload_n hx hb dX12_layRows_7 rfl (lv_at hl 0 rfl) ?_
  refine lv_bipush (v := mI 12) hx hb dX12_layRows_8 (by decide) ?_
  refine sy_icmp_ge (tgt := 26) hx hb dX12_layRows_10 (by decide) (by omega) (by decide) (fun c_9751 => ?_) (fun c_9751 => ?_)
  · skip
    refine lv_aload_n hx hb dX12_layRows_26 rfl (lv_at hl 1 rfl) ?_
    refine g_i (rDt hD) hS hA (g_V (own := "HideReaderModel") (As := []) (rest := []) hx hb hml hown hts hK hP (rDt hD) (kr_X12_tools (l := l) (D := D) (k := k) h_x_bank b_B_irons) ck_X12_tools iv_X12_tools uw_6_235 (rv_o hK hP) rfl hl.1 rfl (Nat.le_of_ble_eq_true rfl) dX12_layRows_27 ⟨Nat.le_of_ble_eq_true rfl, Nat.le_of_ble_eq_true rfl⟩ ⟨Nat.le_of_ble_eq_true rfl, Nat.le_of_ble_eq_true rfl⟩) (fun r_9752 H locs hQ hS => ?_)
    obtain ⟨hr_9752_0, hr_9752_1, hP⟩ := hQ
    refine lv_aload_n hx hb dX12_layRows_30 rfl (lv_at hl 1 rfl) ?_
    refine g_i (rDt hD) hS hA (g_V (own := "HideReaderModel") (As := []) (rest := [.int (mI r_9752)]) hx hb hml hown hts hK hP (rDt hD) (kr_X12_placements (l := l) (D := D) (k := k) h_x_bank b_B_turns b_B_told) ck_X12_placements iv_X12_placements uw_6_239 (rv_o hK hP) rfl hl.1 rfl (Nat.le_of_ble_eq_true rfl) dX12_layRows_31 ⟨Nat.le_of_ble_eq_true rfl, Nat.le_of_ble_eq_true rfl⟩ ⟨Nat.le_of_ble_eq_true rfl, Nat.le_of_ble_eq_true rfl⟩) (fun r_9753 H locs hQ hS => ?_)
    obtain ⟨hr_9753_0, hr_9753_1, hP⟩ := hQ
    refine sy_imulB (A := 6) (B := 8) hx hb dX12_layRows_34 48 (by decide) (by omega) (by omega) (fun z_9754 ez_9754 hz_9754 => ?_)
    refine lv_istore_n (lv' := [(2, .int (mI z_9754)), (0, .ref (a 0)), (1, .int (mI p0))]) hx hb dX12_layRows_35 rfl hl (by decide) rfl (fun ls hl => ?_)
    refine lv_iconst (v := mI 0) hx hb dX12_layRows_36 rfl ?_
    refine lv_istore_n (lv' := [(3, .int (mI 0)), (2, .int (mI z_9754)), (0, .ref (a 0)), (1, .int (mI p0))]) hx hb dX12_layRows_37 rfl hl (by decide) rfl (fun ls hl => ?_)
    refine sy_loop (I := fun n H locs g => ∃ (z_11211 : Int) (F_11212 : Nat → Int) (y_11213 : Int) (ls : Array Slot), (0 ≤ z_11211 ∧ z_11211 ≤ 2304) ∧ (bd (-2147483648) 2147483647 F_11212) ∧ (-2147483648 ≤ y_11213 ∧ y_11213 ≤ 2147483647) ∧ (2304 - z_11211).toNat = n ∧ va_P D vwCl (rW k a x_taped x_size x_faultKind x_faultPlace x_at x_end x_token x_number x_bank x_rb x_codes x_within x_piled x_unitsInRule x_askBeast x_askStroke x_askAge x_askSeason x_acts x_undone x_laid x_seens x_time y_11213 n_name B_tape B_text B_turns B_herds B_irons B_beasts B_units B_night B_draw B_told B_brands B_ironMarks B_herdTold B_born B_ruleFrom B_ruleTo B_code B_codeNumber B_eWhat B_eSign B_pile B_all B_burned B_was B_need B_laidRow B_long8 B_brings B_sBurning B_sStroke B_sIs B_sTold B_sUntold F_11212 B_boxAll B_isBoxed G_hName G_iName G_bName ex) H ∧ va_S A s.heap H locs ∧ lv_has ls 5 [(3, .int (mI z_11211)), (2, .int (mI z_9754)), (0, .ref (a 0)), (1, .int (mI p0))] ∧ g = F0 m 38 ls []) ?_ _ ⟨0, F_8214, 0, _, by omega, bF_8214, by omega, rfl, hP, hS, lv_sub hl [0, 1, 2, 3] rfl, rfl⟩
    intro n_11246 H locs g hI ih_11247
    obtain ⟨z_11211, F_11212, y_11213, ls, h38_0, bF_11212, h38_2, mn_11246, hP, hS, hl, rfl⟩ := hI
    refine lv_iload_n hx hb dX12_layRows_38 rfl (lv_at hl 0 rfl) ?_
    refine lv_iload_n hx hb dX12_layRows_39 rfl (lv_at hl 1 rfl) ?_
    refine lv_iload_n hx hb dX12_layRows_40 rfl (lv_at hl 1 rfl) ?_
    refine sy_imulB (A := 48) (B := 48) hx hb dX12_layRows_41 2304 (by decide) (by omega) (by omega) (fun z_11248 ez_11248 hz_11248 => ?_)
    refine sy_icmp_ge (tgt := 149) hx hb dX12_layRows_42 (by decide) (by omega) (by omega) (fun c_11249 => ?_) (fun c_11249 => ?_)
    · skip
      exact r_v hx hb hr hlocks dX12_layRows_149 hS ⟨F_11212, y_11213, bF_11212, by omega, hP⟩
    · skip
      refine lv_aload_n hx hb dX12_layRows_45 rfl (lv_at hl 2 rfl) ?_
      refine g_i (rDt hD) hS hA (g_V (own := "HideReaderModel") (As := []) (rest := []) hx hb hml hown hts hK hP (rDt hD) (kr_X12_cattle (l := l) (D := D) (k := k) h_x_bank b_B_beasts) ck_X12_cattle iv_X12_cattle uw_6_212 (rv_o hK hP) rfl hl.1 rfl (Nat.le_of_ble_eq_true rfl) dX12_layRows_46 ⟨Nat.le_of_ble_eq_true rfl, Nat.le_of_ble_eq_true rfl⟩ ⟨Nat.le_of_ble_eq_true rfl, Nat.le_of_ble_eq_true rfl⟩) (fun r_11250 H locs hQ hS => ?_)
      obtain ⟨hr_11250_0, hr_11250_1, hP⟩ := hQ
      refine sy_if_le (tgt := 149) hx hb dX12_layRows_49 (by decide) (by omega) (fun c_11251 => ?_) (fun c_11251 => ?_)
      · skip
        exact r_v hx hb hr hlocks dX12_layRows_149 hS ⟨F_11212, y_11213, bF_11212, by omega, hP⟩
      · skip
        refine lv_aload_n hx hb dX12_layRows_52 rfl (lv_at hl 2 rfl) ?_
        refine lv_aload_n hx hb dX12_layRows_53 rfl (lv_at hl 2 rfl) ?_
        refine lv_iconst (v := mI 0) hx hb dX12_layRows_54 rfl ?_
        refine g_i (rDt hD) hS hA (g_V (own := "HideReaderModel") (As := [.int (mI 0)]) (rest := [.ref (a 0)]) hx hb hml hown hts hK hP (rDt hD) (kr_X12_firstHerd (l := l) (D := D) (k := k) (by decide) h_x_bank b_B_herdTold) ck_X12_firstHerd iv_X12_firstHerd uw_6_216 (rv_o hK hP) rfl hl.1 rfl (Nat.le_of_ble_eq_true rfl) dX12_layRows_55 ⟨Nat.le_of_ble_eq_true rfl, Nat.le_of_ble_eq_true rfl⟩ ⟨Nat.le_of_ble_eq_true rfl, Nat.le_of_ble_eq_true rfl⟩) (fun r_11252 H locs hQ hS => ?_)
        obtain ⟨hr_11252_0, hP⟩ := hQ
        refine g_i (rDt hD) hS hA (g_V (own := "HideReaderModel") (As := [.int (mI r_11252)]) (rest := []) hx hb hml hown hts hK hP (rDt hD) (kr_X12_brandOf (l := l) (D := D) (k := k) (by omega) h_x_bank b_B_brands) ck_X12_brandOf iv_X12_brandOf uw_6_220 (rv_o hK hP) rfl hl.1 rfl (Nat.le_of_ble_eq_true rfl) dX12_layRows_58 ⟨Nat.le_of_ble_eq_true rfl, Nat.le_of_ble_eq_true rfl⟩ ⟨Nat.le_of_ble_eq_true rfl, Nat.le_of_ble_eq_true rfl⟩) (fun r_11253 H locs hQ hS => ?_)
        obtain ⟨hr_11253_0, hP⟩ := hQ
        refine lv_aload_n hx hb dX12_layRows_61 rfl (lv_at hl 2 rfl) ?_
        refine rg_o_burned hx hb hts hown hK hP uw_7_67 dX12_layRows_62 ?_
        refine lv_iload_n hx hb dX12_layRows_65 rfl (lv_at hl 0 rfl) ?_
        refine lv_iload_n hx hb dX12_layRows_66 rfl (lv_at hl 1 rfl) ?_
        have h_11254 := pz_l ez_11248 (by omega) (by omega) (by omega)
        refine sy_idiv hx hb dX12_layRows_67 (by omega) (by omega) (fun z_11255 ez_11255 hz_11255 => ?_)
        have h_11256 := dv_lt ez_11248 (by omega) (by omega) (by omega) ez_11255
        refine rl_burned hx hb hK hP dX12_layRows_68 (by omega) b_B_burned (fun z_11257 _ hz_11257 => ?_)
        refine sy_ior hx hb dX12_layRows_69 12 (by decide) 4096 (by decide) (by omega) (by omega) (fun z_11258 hz_11258 => ?_)
        refine lv_istore (lv' := [(4, .int (mI z_11258)), (3, .int (mI z_11211)), (2, .int (mI z_9754)), (0, .ref (a 0)), (1, .int (mI p0))]) hx hb dX12_layRows_70 hl (by decide) rfl (fun ls hl => ?_)
        refine lv_aload_n hx hb dX12_layRows_72 rfl (lv_at hl 3 rfl) ?_
        refine lv_iload hx hb dX12_layRows_73 (lv_at hl 0 rfl) ?_
        refine lv_iload hx hb dX12_layRows_75 (lv_at hl 0 rfl) ?_
        refine lv_aload_n hx hb dX12_layRows_77 rfl (lv_at hl 3 rfl) ?_
        refine rg_o_burned hx hb hts hown hK hP uw_7_67 dX12_layRows_78 ?_
        refine lv_iload_n hx hb dX12_layRows_81 rfl (lv_at hl 1 rfl) ?_
        refine lv_iload_n hx hb dX12_layRows_82 rfl (lv_at hl 2 rfl) ?_
        refine sy_irem hx hb dX12_layRows_83 (by omega) (by omega) (fun z_11259 ez_11259 hz_11259 => ?_)
        refine rl_burned hx hb hK hP dX12_layRows_84 (by omega) b_B_burned (fun z_11260 _ hz_11260 => ?_)
        refine sy_ior hx hb dX12_layRows_85 12 (by decide) 4096 (by decide) (by omega) (by omega) (fun z_11261 hz_11261 => ?_)
        refine lv_iload_n hx hb dX12_layRows_86 rfl (lv_at hl 4 rfl) ?_
        refine g_i (rDt hD) hS hA (g_V (own := "HideReaderModel") (As := [.int (mI z_11258), .int (mI z_11261), .int (mI p0)]) (rest := []) hx hb hml hown hts hK hP (rDt hD) (kr_X12_doesFit (l := l) (D := D) (k := k) (by omega) (by omega) (by omega) h_x_seens b_B_sBurning b_B_sStroke b_B_sIs b_B_sTold b_B_sUntold) ck_X12_doesFit iv_X12_doesFit uw_9_173 (rv_o hK hP) rfl hl.1 rfl (Nat.le_of_ble_eq_true rfl) dX12_layRows_87 ⟨Nat.le_of_ble_eq_true rfl, Nat.le_of_ble_eq_true rfl⟩ ⟨Nat.le_of_ble_eq_true rfl, Nat.le_of_ble_eq_true rfl⟩) (fun r_11262 H locs hQ hS => ?_)
        obtain ⟨hr_11262_0, hP⟩ := hQ
        refine sy_if_ne (tgt := 96) hx hb dX12_layRows_90 (by decide) (by omega) (fun c_11263 => ?_) (fun c_11263 => ?_)
        · skip
          refine lv_aload_n hx hb dX12_layRows_96 rfl (lv_at hl 3 rfl) ?_
          refine lv_dup hx hb dX12_layRows_97 rfl ?_
          refine rg_o_fitting hx hb hts hown hK hP uw_7_84 dX12_layRows_98 ?_
          refine lv_iconst (v := mI 1) hx hb dX12_layRows_101 rfl ?_
          refine sy_iadd hx hb dX12_layRows_102 (y_11213 + 1) rfl ?_
          refine sy_any (fun z_11264 hz_11264 => ?_)
          refine rp_o_fitting hx hb hts hown hK hP hD hS uw_7_84 dX12_layRows_103 (fun H locs hP hS => ?_)
          refine lv_aload_n hx hb dX12_layRows_106 rfl (lv_at hl 3 rfl) ?_
          refine rg_o_parts hx hb hts hown hK hP uw_7_81 dX12_layRows_107 ?_
          refine lv_iload_n hx hb dX12_layRows_110 rfl (lv_at hl 1 rfl) ?_
          refine lv_iload_n hx hb dX12_layRows_111 rfl (lv_at hl 2 rfl) ?_
          refine sy_idiv hx hb dX12_layRows_112 (by omega) (by omega) (fun z_11265 ez_11265 hz_11265 => ?_)
          have h_11266 := dv_lt ez_11248 (by omega) (by omega) (by omega) ez_11265
          refine lv_aload_n hx hb dX12_layRows_113 rfl (lv_at hl 3 rfl) ?_
          refine g_i (rDt hD) hS hA (g_V (own := "HideReaderModel") (As := []) (rest := [.int (mI z_11265), .ref (a 37)]) hx hb hml hown hts hK hP (rDt hD) (kr_X12_placements (l := l) (D := D) (k := k) h_x_bank b_B_turns b_B_told) ck_X12_placements iv_X12_placements uw_6_239 (rv_o hK hP) rfl hl.1 rfl (Nat.le_of_ble_eq_true rfl) dX12_layRows_114 ⟨Nat.le_of_ble_eq_true rfl, Nat.le_of_ble_eq_true rfl⟩ ⟨Nat.le_of_ble_eq_true rfl, Nat.le_of_ble_eq_true rfl⟩) (fun r_11267 H locs hQ hS => ?_)
          obtain ⟨hr_11267_0, hr_11267_1, hP⟩ := hQ
          refine sy_idiv hx hb dX12_layRows_117 (by omega) (by omega) (fun z_11268 ez_11268 hz_11268 => ?_)
          have h_11269 := dv_lt ez_9754 (by omega) (by omega) (by omega) ez_11268
          refine lv_dup2_11 hx hb dX12_layRows_118 rfl rfl ?_
          refine rl_parts hx hb hK hP dX12_layRows_119 (by omega) bF_11212 (fun z_11270 _ hz_11270 => ?_)
          refine lv_iconst (v := mI 1) hx hb dX12_layRows_120 rfl ?_
          refine sy_iadd hx hb dX12_layRows_121 (z_11270 + 1) rfl ?_
          refine sy_any (fun z_11271 hz_11271 => ?_)
          refine rs_parts hx hb hK hP hD hS dX12_layRows_122 (by omega) bF_11212 (by omega) (fun F_11272 H locs _ bF_11272 hP hS => ?_)
          refine lv_aload_n hx hb dX12_layRows_123 rfl (lv_at hl 3 rfl) ?_
          refine rg_o_parts hx hb hts hown hK hP uw_7_81 dX12_layRows_124 ?_
          refine lv_bipush (v := mI 6) hx hb dX12_layRows_127 (by decide) ?_
          refine lv_iload_n hx hb dX12_layRows_129 rfl (lv_at hl 1 rfl) ?_
          refine lv_iload_n hx hb dX12_layRows_130 rfl (lv_at hl 2 rfl) ?_
          refine sy_irem hx hb dX12_layRows_131 (by omega) (by omega) (fun z_11273 ez_11273 hz_11273 => ?_)
          refine lv_aload_n hx hb dX12_layRows_132 rfl (lv_at hl 3 rfl) ?_
          refine g_i (rDt hD) hS hA (g_V (own := "HideReaderModel") (As := []) (rest := [.int (mI z_11273), .int (mI 6), .ref (a 37)]) hx hb hml hown hts hK hP (rDt hD) (kr_X12_placements (l := l) (D := D) (k := k) h_x_bank b_B_turns b_B_told) ck_X12_placements iv_X12_placements uw_6_239 (rv_o hK hP) rfl hl.1 rfl (Nat.le_of_ble_eq_true rfl) dX12_layRows_133 ⟨Nat.le_of_ble_eq_true rfl, Nat.le_of_ble_eq_true rfl⟩ ⟨Nat.le_of_ble_eq_true rfl, Nat.le_of_ble_eq_true rfl⟩) (fun r_11274 H locs hQ hS => ?_)
          obtain ⟨hr_11274_0, hr_11274_1, hP⟩ := hQ
          refine sy_idiv hx hb dX12_layRows_136 (by omega) (by omega) (fun z_11275 ez_11275 hz_11275 => ?_)
          have h_11276 := dv_lt ez_9754 (by omega) (by omega) (by omega) ez_11275
          refine sy_iadd hx hb dX12_layRows_137 (z_11275 + 6) (by omega) ?_
          refine lv_dup2_11 hx hb dX12_layRows_138 rfl rfl ?_
          refine rl_parts hx hb hK hP dX12_layRows_139 (by omega) bF_11272 (fun z_11277 _ hz_11277 => ?_)
          refine lv_iconst (v := mI 1) hx hb dX12_layRows_140 rfl ?_
          refine sy_iadd hx hb dX12_layRows_141 (z_11277 + 1) rfl ?_
          refine sy_any (fun z_11278 hz_11278 => ?_)
          refine rs_parts hx hb hK hP hD hS dX12_layRows_142 (by omega) bF_11272 (by omega) (fun F_11279 H locs _ bF_11279 hP hS => ?_)
          refine lv_iinc (v := mI (z_11211 + 1)) (lv' := [(3, .int (mI (z_11211 + 1))), (4, .int (mI z_11258)), (2, .int (mI z_9754)), (0, .ref (a 0)), (1, .int (mI p0))]) hx hb dX12_layRows_143 hl (k := 1) rfl (mI_ad rfl) (by decide) rfl (fun ls hl => ?_)
          refine lv_goto (tgt := 38) hx hb dX12_layRows_146 (by decide) ?_
          exact ih_11247 _ _ _ _ (by omega) ⟨(z_11211 + 1), F_11279, z_11264, _, by omega, bF_11279, by omega, rfl, hP, hS, lv_sub hl [0, 2, 3, 4] rfl, rfl⟩
        · skip
          refine lv_goto (tgt := 143) hx hb dX12_layRows_93 (by decide) ?_
          refine lv_iinc (v := mI (z_11211 + 1)) (lv' := [(3, .int (mI (z_11211 + 1))), (4, .int (mI z_11258)), (2, .int (mI z_9754)), (0, .ref (a 0)), (1, .int (mI p0))]) hx hb dX12_layRows_143 hl (k := 1) rfl (mI_ad rfl) (by decide) rfl (fun ls hl => ?_)
          refine lv_goto (tgt := 38) hx hb dX12_layRows_146 (by decide) ?_
          exact ih_11247 _ _ _ _ (by omega) ⟨(z_11211 + 1), F_11212, y_11213, _, by omega, bF_11212, by omega, rfl, hP, hS, lv_sub hl [0, 2, 3, 4] rfl, rfl⟩
  · skip
    refine lv_aload_n hx hb dX12_layRows_13 rfl (lv_at hl 1 rfl) ?_
    refine rg_o_parts hx hb hts hown hK hP uw_7_81 dX12_layRows_14 ?_
    refine lv_iload_n hx hb dX12_layRows_17 rfl (lv_at hl 0 rfl) ?_
    refine lv_iconst (v := mI 0) hx hb dX12_layRows_18 rfl ?_
    refine rs_parts hx hb hK hP hD hS dX12_layRows_19 (by omega) bF_8214 (by omega) (fun F_11280 H locs _ bF_11280 hP hS => ?_)
    refine lv_iinc (v := mI (z_8213 + 1)) (lv' := [(2, .int (mI (z_8213 + 1))), (0, .ref (a 0)), (1, .int (mI p0))]) hx hb dX12_layRows_20 hl (k := 0) rfl (mI_ad rfl) (by decide) rfl (fun ls hl => ?_)
    refine lv_goto (tgt := 7) hx hb dX12_layRows_23 (by decide) ?_
    exact ih_9748 _ _ _ _ (by omega) ⟨(z_8213 + 1), F_11280, _, by omega, bF_11280, rfl, hP, hS, lv_sub hl [0, 1, 2] rfl, rfl⟩
set_option maxHeartbeats 4000000 in
set_option maxRecDepth 100000 in
theorem kr_X12_rows {p0 : Int} (hp0 : -2147483648 ≤ p0 ∧ p0 ≤ 2147483647) (h_x_bank : 0 ≤ x_bank ∧ x_bank ≤ 1) (h_x_seens : 0 ≤ x_seens ∧ x_seens ≤ 30) (b_B_turns : bd (1) 4 B_turns) (b_B_irons : bd (0) 6 B_irons) (b_B_beasts : bd (0) 8 B_beasts) (b_B_told : bd (0) 31 B_told) (b_B_brands : bd (0) 4095 B_brands) (b_B_herdTold : bd (0) 7 B_herdTold) (b_B_burned : bd (0) 4095 B_burned) (b_B_sBurning : bd (0) 2 B_sBurning) (b_B_sStroke : bd (0) 11 B_sStroke) (b_B_sIs : bd (0) 1 B_sIs) (b_B_sTold : bd (0) 100000 B_sTold) (b_B_sUntold : bd (-1) 100000 B_sUntold) (b_B_parts : bd (-2147483648) 2147483647 B_parts) : MetG l D k yX12_rows cX12_rows 2 (some .int) 3 [.ref (a 0), .int (mI p0)] (rW k a x_taped x_size x_faultKind x_faultPlace x_at x_end x_token x_number x_bank x_rb x_codes x_within x_piled x_unitsInRule x_askBeast x_askStroke x_askAge x_askSeason x_acts x_undone x_laid x_seens x_time x_fitting n_name B_tape B_text B_turns B_herds B_irons B_beasts B_units B_night B_draw B_told B_brands B_ironMarks B_herdTold B_born B_ruleFrom B_ruleTo B_code B_codeNumber B_eWhat B_eSign B_pile B_all B_burned B_was B_need B_laidRow B_long8 B_brings B_sBurning B_sStroke B_sIs B_sTold B_sUntold B_parts B_boxAll B_isBoxed G_hName G_iName G_bName ex) (qGi (fun r0 H => ∃ (F_parts : Nat → Int) (y_fitting : Int), (-2147483648 ≤ r0 ∧ r0 ≤ 2147483647) ∧ (bd (-2147483648) 2147483647 F_parts) ∧ (-2147483648 ≤ y_fitting ∧ y_fitting ≤ 2147483647) ∧ va_P D vwCl (rW k a x_taped x_size x_faultKind x_faultPlace x_at x_end x_token x_number x_bank x_rb x_codes x_within x_piled x_unitsInRule x_askBeast x_askStroke x_askAge x_askSeason x_acts x_undone x_laid x_seens x_time y_fitting n_name B_tape B_text B_turns B_herds B_irons B_beasts B_units B_night B_draw B_told B_brands B_ironMarks B_herdTold B_born B_ruleFrom B_ruleTo B_code B_codeNumber B_eWhat B_eSign B_pile B_all B_burned B_was B_need B_laidRow B_long8 B_brings B_sBurning B_sStroke B_sIs B_sTold B_sUntold F_parts B_boxAll B_isBoxed G_hName G_iName G_bName ex) H)) := by
  refine metG_of 1 ck_X12_rows (Nat.le_of_ble_eq_true rfl) rMap (fun p e s m args below meth c A hx hb hml hr hlocks hown hts hK hD hA hP hS ls hl => ?_)
  have hown : s.vm.findClass "HideReaderModel" = some m.cls := hown
  have hl : lv_has ls 2 [(0, .ref (a 0)), (1, .int (mI p0))] := hl
  refine lv_aload_n hx hb dX12_rows_0 rfl (lv_at hl 0 rfl) ?_
  refine lv_iload_n hx hb dX12_rows_1 rfl (lv_at hl 1 rfl) ?_
  refine g_v (rDt hD) hS hA (g_V (own := "HideReaderModel") (As := [.int (mI p0)]) (rest := []) hx hb hml hown hts hK hP (rDt hD) (kr_X12_layRows (l := l) (D := D) (k := k) (by omega) h_x_bank h_x_seens b_B_turns b_B_irons b_B_beasts b_B_told b_B_brands b_B_herdTold b_B_burned b_B_sBurning b_B_sStroke b_B_sIs b_B_sTold b_B_sUntold b_B_parts) ck_X12_layRows iv_X12_layRows uw_9_169 (rv_o hK hP) rfl hl.1 rfl (Nat.le_of_ble_eq_true rfl) dX12_rows_2 ⟨Nat.le_of_ble_eq_true rfl, Nat.le_of_ble_eq_true rfl⟩ ⟨Nat.le_of_ble_eq_true rfl, Nat.le_of_ble_eq_true rfl⟩) (fun H locs hQ hS => ?_)
  obtain ⟨F_2, y_3, bF_2, hr_1_1, hP⟩ := hQ
  refine lv_aload_n hx hb dX12_rows_5 rfl (lv_at hl 0 rfl) ?_
  refine rg_o_fitting hx hb hts hown hK hP uw_7_84 dX12_rows_6 ?_
  exact r_i hx hb hr hlocks dX12_rows_9 hS ⟨F_2, y_3, by omega, bF_2, by omega, hP⟩
set_option maxHeartbeats 4000000 in
set_option maxRecDepth 100000 in
theorem kr_X12_sure {p0 p1 : Int} (hp0 : -2147483648 ≤ p0 ∧ p0 ≤ 2147483647) (hp1 : -2147483648 ≤ p1 ∧ p1 ≤ 2147483647) (h_x_bank : 0 ≤ x_bank ∧ x_bank ≤ 1) (h_x_seens : 0 ≤ x_seens ∧ x_seens ≤ 30) (h_x_fitting : -2147483648 ≤ x_fitting ∧ x_fitting ≤ 2147483647) (b_B_turns : bd (1) 4 B_turns) (b_B_irons : bd (0) 6 B_irons) (b_B_beasts : bd (0) 8 B_beasts) (b_B_told : bd (0) 31 B_told) (b_B_brands : bd (0) 4095 B_brands) (b_B_herdTold : bd (0) 7 B_herdTold) (b_B_burned : bd (0) 4095 B_burned) (b_B_sBurning : bd (0) 2 B_sBurning) (b_B_sStroke : bd (0) 11 B_sStroke) (b_B_sIs : bd (0) 1 B_sIs) (b_B_sTold : bd (0) 100000 B_sTold) (b_B_sUntold : bd (-1) 100000 B_sUntold) (b_B_parts : bd (-2147483648) 2147483647 B_parts) : MetG l D k yX12_sure cX12_sure 4 (some .int) 3 [.ref (a 0), .int (mI p0), .int (mI p1)] (rW k a x_taped x_size x_faultKind x_faultPlace x_at x_end x_token x_number x_bank x_rb x_codes x_within x_piled x_unitsInRule x_askBeast x_askStroke x_askAge x_askSeason x_acts x_undone x_laid x_seens x_time x_fitting n_name B_tape B_text B_turns B_herds B_irons B_beasts B_units B_night B_draw B_told B_brands B_ironMarks B_herdTold B_born B_ruleFrom B_ruleTo B_code B_codeNumber B_eWhat B_eSign B_pile B_all B_burned B_was B_need B_laidRow B_long8 B_brings B_sBurning B_sStroke B_sIs B_sTold B_sUntold B_parts B_boxAll B_isBoxed G_hName G_iName G_bName ex) (qGi (fun r0 H => ∃ (F_parts : Nat → Int) (y_fitting : Int), (-2 ≤ r0 ∧ r0 ≤ 5) ∧ (bd (-2147483648) 2147483647 F_parts) ∧ (-2147483648 ≤ y_fitting ∧ y_fitting ≤ 2147483647) ∧ va_P D vwCl (rW k a x_taped x_size x_faultKind x_faultPlace x_at x_end x_token x_number x_bank x_rb x_codes x_within x_piled x_unitsInRule x_askBeast x_askStroke x_askAge x_askSeason x_acts x_undone x_laid x_seens x_time y_fitting n_name B_tape B_text B_turns B_herds B_irons B_beasts B_units B_night B_draw B_told B_brands B_ironMarks B_herdTold B_born B_ruleFrom B_ruleTo B_code B_codeNumber B_eWhat B_eSign B_pile B_all B_burned B_was B_need B_laidRow B_long8 B_brings B_sBurning B_sStroke B_sIs B_sTold B_sUntold F_parts B_boxAll B_isBoxed G_hName G_iName G_bName ex) H)) := by
  refine metG_of 2 ck_X12_sure (Nat.le_of_ble_eq_true rfl) rMap (fun p e s m args below meth c A hx hb hml hr hlocks hown hts hK hD hA hP hS ls hl => ?_)
  have hown : s.vm.findClass "HideReaderModel" = some m.cls := hown
  have hl : lv_has ls 4 [(0, .ref (a 0)), (1, .int (mI p0)), (2, .int (mI p1))] := hl
  refine lv_iload_n hx hb dX12_sure_0 rfl (lv_at hl 1 rfl) ?_
  refine lv_iconst (v := mI 1) hx hb dX12_sure_1 rfl ?_
  refine lv_iconst (v := mI 2) hx hb dX12_sure_2 rfl ?_
  refine g_i (rDt hD) hS hA (g_S (own := "HideReaderModel") (As := [.int (mI p0), .int (mI 1), .int (mI 2)]) (rest := []) hx hb hml hown hts hK hP (rDt hD) (kr_X12_isIn (l := l) (D := D) (k := k) (by omega) (by decide) (by decide)) ck_X12_isIn uw_8_131 uw_8_130 rfl hl.1 rfl (Nat.le_of_ble_eq_true rfl) dX12_sure_3 ⟨Nat.le_of_ble_eq_true rfl, Nat.le_of_ble_eq_true rfl⟩ ⟨Nat.le_of_ble_eq_true rfl, Nat.le_of_ble_eq_true rfl⟩) (fun r_1 H locs hQ hS => ?_)
  obtain ⟨hq_r_1, hP⟩ := hQ
  rcases hq_r_1 with ⟨rfl, c_2_0⟩ | ⟨rfl, c_3_0, c_3_1⟩
  · skip
    refine sy_if_ne (tgt := 11) hx hb dX12_sure_6 (by decide) (by decide) (fun c9 => absurd c9 (by decide)) (fun c_4 => ?_)
    refine lv_iconst (v := mI (-1)) hx hb dX12_sure_9 rfl ?_
    exact r_i hx hb hr hlocks dX12_sure_10 hS ⟨B_parts, x_fitting, by omega, b_B_parts, by omega, hP⟩
  · skip
    refine sy_if_ne (tgt := 11) hx hb dX12_sure_6 (by decide) (by decide) (fun c_5 => ?_) (fun c9 => absurd c9 (by decide))
    refine lv_aload_n hx hb dX12_sure_11 rfl (lv_at hl 0 rfl) ?_
    refine lv_iload_n hx hb dX12_sure_12 rfl (lv_at hl 2 rfl) ?_
    refine g_v (rDt hD) hS hA (g_V (own := "HideReaderModel") (As := [.int (mI p1)]) (rest := []) hx hb hml hown hts hK hP (rDt hD) (kr_X12_layRows (l := l) (D := D) (k := k) (by omega) h_x_bank h_x_seens b_B_turns b_B_irons b_B_beasts b_B_told b_B_brands b_B_herdTold b_B_burned b_B_sBurning b_B_sStroke b_B_sIs b_B_sTold b_B_sUntold b_B_parts) ck_X12_layRows iv_X12_layRows uw_9_169 (rv_o hK hP) rfl hl.1 rfl (Nat.le_of_ble_eq_true rfl) dX12_sure_13 ⟨Nat.le_of_ble_eq_true rfl, Nat.le_of_ble_eq_true rfl⟩ ⟨Nat.le_of_ble_eq_true rfl, Nat.le_of_ble_eq_true rfl⟩) (fun H locs hQ hS => ?_)
    obtain ⟨F_7, y_8, bF_7, hr_6_1, hP⟩ := hQ
    refine lv_aload_n hx hb dX12_sure_16 rfl (lv_at hl 0 rfl) ?_
    refine rg_o_fitting hx hb hts hown hK hP uw_7_84 dX12_sure_17 ?_
    refine sy_if_ne (tgt := 25) hx hb dX12_sure_20 (by decide) (by omega) (fun c_9 => ?_) (fun c_9 => ?_)
    · skip
      refine lv_iconst (v := mI 0) hx hb dX12_sure_25 rfl ?_
      refine lv_istore_n (lv' := [(3, .int (mI 0)), (0, .ref (a 0)), (1, .int (mI p0)), (2, .int (mI p1))]) hx hb dX12_sure_26 rfl hl (by decide) rfl (fun ls hl => ?_)
      refine sy_loop (I := fun n H locs g => ∃ (z_44 : Int) (ls : Array Slot), (0 ≤ z_44 ∧ z_44 ≤ 6) ∧ (6 - z_44).toNat = n ∧ va_P D vwCl (rW k a x_taped x_size x_faultKind x_faultPlace x_at x_end x_token x_number x_bank x_rb x_codes x_within x_piled x_unitsInRule x_askBeast x_askStroke x_askAge x_askSeason x_acts x_undone x_laid x_seens x_time y_8 n_name B_tape B_text B_turns B_herds B_irons B_beasts B_units B_night B_draw B_told B_brands B_ironMarks B_herdTold B_born B_ruleFrom B_ruleTo B_code B_codeNumber B_eWhat B_eSign B_pile B_all B_burned B_was B_need B_laidRow B_long8 B_brings B_sBurning B_sStroke B_sIs B_sTold B_sUntold F_7 B_boxAll B_isBoxed G_hName G_iName G_bName ex) H ∧ va_S A s.heap H locs ∧ lv_has ls 4 [(3, .int (mI z_44)), (0, .ref (a 0)), (1, .int (mI p0)), (2, .int (mI p1))] ∧ g = F0 m 27 ls []) ?_ _ ⟨0, _, by omega, rfl, hP, hS, lv_sub hl [0, 1, 2, 3] rfl, rfl⟩
      intro n_49 H locs g hI ih_50
      obtain ⟨z_44, ls, h27_0, mn_49, hP, hS, hl, rfl⟩ := hI
      refine lv_iload_n hx hb dX12_sure_27 rfl (lv_at hl 0 rfl) ?_
      refine lv_aload_n hx hb dX12_sure_28 rfl (lv_at hl 1 rfl) ?_
      refine g_i (rDt hD) hS hA (g_V (own := "HideReaderModel") (As := []) (rest := [.int (mI z_44)]) hx hb hml hown hts hK hP (rDt hD) (kr_X12_tools (l := l) (D := D) (k := k) h_x_bank b_B_irons) ck_X12_tools iv_X12_tools uw_6_235 (rv_o hK hP) rfl hl.1 rfl (Nat.le_of_ble_eq_true rfl) dX12_sure_29 ⟨Nat.le_of_ble_eq_true rfl, Nat.le_of_ble_eq_true rfl⟩ ⟨Nat.le_of_ble_eq_true rfl, Nat.le_of_ble_eq_true rfl⟩) (fun r_51 H locs hQ hS => ?_)
      obtain ⟨hr_51_0, hr_51_1, hP⟩ := hQ
      refine sy_icmp_ge (tgt := 63) hx hb dX12_sure_32 (by decide) (by omega) (by omega) (fun c_52 => ?_) (fun c_52 => ?_)
      · skip
        refine lv_bipush (v := mI (-2)) hx hb dX12_sure_63 (by decide) ?_
        exact r_i hx hb hr hlocks dX12_sure_65 hS ⟨F_7, y_8, by omega, bF_7, by omega, hP⟩
      · skip
        refine lv_aload_n hx hb dX12_sure_35 rfl (lv_at hl 1 rfl) ?_
        refine rg_o_parts hx hb hts hown hK hP uw_7_81 dX12_sure_36 ?_
        refine lv_bipush (v := mI 6) hx hb dX12_sure_39 (by decide) ?_
        refine lv_iload_n hx hb dX12_sure_41 rfl (lv_at hl 2 rfl) ?_
        refine lv_iconst (v := mI 1) hx hb dX12_sure_42 rfl ?_
        refine sy_isub hx hb dX12_sure_43 (p0 - 1) rfl ?_
        refine sy_imul hx hb dX12_sure_44 (6 * p0 - 6) (by omega) ?_
        refine lv_iload_n hx hb dX12_sure_45 rfl (lv_at hl 0 rfl) ?_
        refine sy_iadd hx hb dX12_sure_46 (6 * p0 + z_44 - 6) (by omega) ?_
        refine rl_parts hx hb hK hP dX12_sure_47 (by omega) bF_7 (fun z_53 _ hz_53 => ?_)
        refine lv_aload_n hx hb dX12_sure_48 rfl (lv_at hl 1 rfl) ?_
        refine rg_o_fitting hx hb hts hown hK hP uw_7_84 dX12_sure_49 ?_
        refine sy_icmp_ne (tgt := 57) hx hb dX12_sure_52 (by decide) (by omega) (by omega) (fun c_54 => ?_) (fun c_54 => ?_)
        · skip
          refine lv_iinc (v := mI (z_44 + 1)) (lv' := [(3, .int (mI (z_44 + 1))), (0, .ref (a 0)), (1, .int (mI p0)), (2, .int (mI p1))]) hx hb dX12_sure_57 hl (k := 0) rfl (mI_ad rfl) (by decide) rfl (fun ls hl => ?_)
          refine lv_goto (tgt := 27) hx hb dX12_sure_60 (by decide) ?_
          exact ih_50 _ _ _ _ (by omega) ⟨(z_44 + 1), _, by omega, rfl, hP, hS, lv_sub hl [0, 1, 2, 3] rfl, rfl⟩
        · skip
          refine lv_iload_n hx hb dX12_sure_55 rfl (lv_at hl 0 rfl) ?_
          exact r_i hx hb hr hlocks dX12_sure_56 hS ⟨F_7, y_8, by omega, bF_7, by omega, hP⟩
    · skip
      refine lv_iconst (v := mI (-1)) hx hb dX12_sure_23 rfl ?_
      exact r_i hx hb hr hlocks dX12_sure_24 hS ⟨F_7, y_8, by omega, bF_7, by omega, hP⟩
set_option maxHeartbeats 4000000 in
set_option maxRecDepth 100000 in
theorem kr_X12_ask {p0 p1 : Int} (hp0 : -2147483648 ≤ p0 ∧ p0 ≤ 2147483647) (hp1 : -2147483648 ≤ p1 ∧ p1 ≤ 2147483647) (h_x_bank : 0 ≤ x_bank ∧ x_bank ≤ 1) (h_x_seens : 0 ≤ x_seens ∧ x_seens ≤ 30) (h_x_fitting : -2147483648 ≤ x_fitting ∧ x_fitting ≤ 2147483647) (b_B_turns : bd (1) 4 B_turns) (b_B_irons : bd (0) 6 B_irons) (b_B_beasts : bd (0) 8 B_beasts) (b_B_told : bd (0) 31 B_told) (b_B_brands : bd (0) 4095 B_brands) (b_B_herdTold : bd (0) 7 B_herdTold) (b_B_burned : bd (0) 4095 B_burned) (b_B_sBurning : bd (0) 2 B_sBurning) (b_B_sStroke : bd (0) 11 B_sStroke) (b_B_sIs : bd (0) 1 B_sIs) (b_B_sTold : bd (0) 100000 B_sTold) (b_B_sUntold : bd (-1) 100000 B_sUntold) (b_B_parts : bd (-2147483648) 2147483647 B_parts) : MetG l D k yX12_ask cX12_ask 4 (some .int) 3 [.ref (a 0), .int (mI p0), .int (mI p1)] (rW k a x_taped x_size x_faultKind x_faultPlace x_at x_end x_token x_number x_bank x_rb x_codes x_within x_piled x_unitsInRule x_askBeast x_askStroke x_askAge x_askSeason x_acts x_undone x_laid x_seens x_time x_fitting n_name B_tape B_text B_turns B_herds B_irons B_beasts B_units B_night B_draw B_told B_brands B_ironMarks B_herdTold B_born B_ruleFrom B_ruleTo B_code B_codeNumber B_eWhat B_eSign B_pile B_all B_burned B_was B_need B_laidRow B_long8 B_brings B_sBurning B_sStroke B_sIs B_sTold B_sUntold B_parts B_boxAll B_isBoxed G_hName G_iName G_bName ex) (qGi (fun r0 H => ∃ (F_parts : Nat → Int) (y_fitting : Int), (-2147483648 ≤ r0 ∧ r0 ≤ 2147483647) ∧ (bd (-2147483648) 2147483647 F_parts) ∧ (-2147483648 ≤ y_fitting ∧ y_fitting ≤ 2147483647) ∧ va_P D vwCl (rW k a x_taped x_size x_faultKind x_faultPlace x_at x_end x_token x_number x_bank x_rb x_codes x_within x_piled x_unitsInRule x_askBeast x_askStroke x_askAge x_askSeason x_acts x_undone x_laid x_seens x_time y_fitting n_name B_tape B_text B_turns B_herds B_irons B_beasts B_units B_night B_draw B_told B_brands B_ironMarks B_herdTold B_born B_ruleFrom B_ruleTo B_code B_codeNumber B_eWhat B_eSign B_pile B_all B_burned B_was B_need B_laidRow B_long8 B_brings B_sBurning B_sStroke B_sIs B_sTold B_sUntold F_parts B_boxAll B_isBoxed G_hName G_iName G_bName ex) H)) := by
  refine metG_of 2 ck_X12_ask (Nat.le_of_ble_eq_true rfl) rMap (fun p e s m args below meth c A hx hb hml hr hlocks hown hts hK hD hA hP hS ls hl => ?_)
  have hown : s.vm.findClass "HideReaderModel" = some m.cls := hown
  have hl : lv_has ls 4 [(0, .ref (a 0)), (1, .int (mI p0)), (2, .int (mI p1))] := hl
  refine lv_iload_n hx hb dX12_ask_0 rfl (lv_at hl 1 rfl) ?_
  refine lv_iconst (v := mI 0) hx hb dX12_ask_1 rfl ?_
  refine lv_iconst (v := mI 1) hx hb dX12_ask_2 rfl ?_
  refine g_i (rDt hD) hS hA (g_S (own := "HideReaderModel") (As := [.int (mI p0), .int (mI 0), .int (mI 1)]) (rest := []) hx hb hml hown hts hK hP (rDt hD) (kr_X12_isIn (l := l) (D := D) (k := k) (by omega) (by decide) (by decide)) ck_X12_isIn uw_8_131 uw_8_130 rfl hl.1 rfl (Nat.le_of_ble_eq_true rfl) dX12_ask_3 ⟨Nat.le_of_ble_eq_true rfl, Nat.le_of_ble_eq_true rfl⟩ ⟨Nat.le_of_ble_eq_true rfl, Nat.le_of_ble_eq_true rfl⟩) (fun r_1 H locs hQ hS => ?_)
  obtain ⟨hq_r_1, hP⟩ := hQ
  rcases hq_r_1 with ⟨rfl, c_2_0⟩ | ⟨rfl, c_3_0, c_3_1⟩
  · skip
    refine sy_if_ne (tgt := 11) hx hb dX12_ask_6 (by decide) (by decide) (fun c9 => absurd c9 (by decide)) (fun c_4 => ?_)
    refine lv_iconst (v := mI (-1)) hx hb dX12_ask_9 rfl ?_
    exact r_i hx hb hr hlocks dX12_ask_10 hS ⟨B_parts, x_fitting, by omega, b_B_parts, by omega, hP⟩
  · skip
    refine sy_if_ne (tgt := 11) hx hb dX12_ask_6 (by decide) (by decide) (fun c_5 => ?_) (fun c9 => absurd c9 (by decide))
    refine lv_aload_n hx hb dX12_ask_11 rfl (lv_at hl 0 rfl) ?_
    refine lv_iload_n hx hb dX12_ask_12 rfl (lv_at hl 2 rfl) ?_
    refine g_v (rDt hD) hS hA (g_V (own := "HideReaderModel") (As := [.int (mI p1)]) (rest := []) hx hb hml hown hts hK hP (rDt hD) (kr_X12_layRows (l := l) (D := D) (k := k) (by omega) h_x_bank h_x_seens b_B_turns b_B_irons b_B_beasts b_B_told b_B_brands b_B_herdTold b_B_burned b_B_sBurning b_B_sStroke b_B_sIs b_B_sTold b_B_sUntold b_B_parts) ck_X12_layRows iv_X12_layRows uw_9_169 (rv_o hK hP) rfl hl.1 rfl (Nat.le_of_ble_eq_true rfl) dX12_ask_13 ⟨Nat.le_of_ble_eq_true rfl, Nat.le_of_ble_eq_true rfl⟩ ⟨Nat.le_of_ble_eq_true rfl, Nat.le_of_ble_eq_true rfl⟩) (fun H locs hQ hS => ?_)
    obtain ⟨F_7, y_8, bF_7, hr_6_1, hP⟩ := hQ
    refine lv_aload_n hx hb dX12_ask_16 rfl (lv_at hl 0 rfl) ?_
    refine rg_o_fitting hx hb hts hown hK hP uw_7_84 dX12_ask_17 ?_
    refine sy_if_ne (tgt := 25) hx hb dX12_ask_20 (by decide) (by omega) (fun c_9 => ?_) (fun c_9 => ?_)
    · skip
      refine lv_aload_n hx hb dX12_ask_25 rfl (lv_at hl 0 rfl) ?_
      refine lv_iconst (v := mI 1) hx hb dX12_ask_26 rfl ?_
      refine g_i (rDt hD) hS hA (g_V (own := "HideReaderModel") (As := [.int (mI 1)]) (rest := []) hx hb hml hown hts hK hP (rDt hD) (kr_X12_mostOf (l := l) (D := D) (k := k) (by decide) bF_7) ck_X12_mostOf iv_X12_mostOf uw_9_185 (rv_o hK hP) rfl hl.1 rfl (Nat.le_of_ble_eq_true rfl) dX12_ask_27 ⟨Nat.le_of_ble_eq_true rfl, Nat.le_of_ble_eq_true rfl⟩ ⟨Nat.le_of_ble_eq_true rfl, Nat.le_of_ble_eq_true rfl⟩) (fun r_10 H locs hQ hS => ?_)
      obtain ⟨hr_10_0, hP⟩ := hQ
      refine lv_aload_n hx hb dX12_ask_30 rfl (lv_at hl 0 rfl) ?_
      refine lv_iconst (v := mI 0) hx hb dX12_ask_31 rfl ?_
      refine g_i (rDt hD) hS hA (g_V (own := "HideReaderModel") (As := [.int (mI 0)]) (rest := [.int (mI r_10)]) hx hb hml hown hts hK hP (rDt hD) (kr_X12_mostOf (l := l) (D := D) (k := k) (by decide) bF_7) ck_X12_mostOf iv_X12_mostOf uw_9_185 (rv_o hK hP) rfl hl.1 rfl (Nat.le_of_ble_eq_true rfl) dX12_ask_32 ⟨Nat.le_of_ble_eq_true rfl, Nat.le_of_ble_eq_true rfl⟩ ⟨Nat.le_of_ble_eq_true rfl, Nat.le_of_ble_eq_true rfl⟩) (fun r_11 H locs hQ hS => ?_)
      obtain ⟨hr_11_0, hP⟩ := hQ
      refine sy_join (I := fun H locs g => ∃ (z_13 : Int) (ls : Array Slot), (0 ≤ z_13 ∧ z_13 ≤ 1) ∧ va_P D vwCl (rW k a x_taped x_size x_faultKind x_faultPlace x_at x_end x_token x_number x_bank x_rb x_codes x_within x_piled x_unitsInRule x_askBeast x_askStroke x_askAge x_askSeason x_acts x_undone x_laid x_seens x_time y_8 n_name B_tape B_text B_turns B_herds B_irons B_beasts B_units B_night B_draw B_told B_brands B_ironMarks B_herdTold B_born B_ruleFrom B_ruleTo B_code B_codeNumber B_eWhat B_eSign B_pile B_all B_burned B_was B_need B_laidRow B_long8 B_brings B_sBurning B_sStroke B_sIs B_sTold B_sUntold F_7 B_boxAll B_isBoxed G_hName G_iName G_bName ex) H ∧ va_S A s.heap H locs ∧ lv_has ls 4 [(0, .ref (a 0)), (1, .int (mI p0)), (2, .int (mI p1))] ∧ g = F0 m 43 ls [.int (mI z_13)]) ?_ ?_
      · skip
        intro H locs g hI
        obtain ⟨z_13, ls, h43_0, hP, hS, hl, rfl⟩ := hI
        refine lv_istore_n (lv' := [(3, .int (mI z_13)), (0, .ref (a 0)), (1, .int (mI p0)), (2, .int (mI p1))]) hx hb dX12_ask_43 rfl hl (by decide) rfl (fun ls hl => ?_)
        refine lv_iload_n hx hb dX12_ask_44 rfl (lv_at hl 2 rfl) ?_
        refine sy_if_ne (tgt := 54) hx hb dX12_ask_45 (by decide) (by omega) (fun c_15 => ?_) (fun c_15 => ?_)
        · skip
          refine lv_aload_n hx hb dX12_ask_54 rfl (lv_at hl 1 rfl) ?_
          refine lv_iload_n hx hb dX12_ask_55 rfl (lv_at hl 0 rfl) ?_
          refine g_i (rDt hD) hS hA (g_V (own := "HideReaderModel") (As := [.int (mI z_13)]) (rest := []) hx hb hml hown hts hK hP (rDt hD) (kr_X12_mostOf (l := l) (D := D) (k := k) (by omega) bF_7) ck_X12_mostOf iv_X12_mostOf uw_9_185 (rv_o hK hP) rfl hl.1 rfl (Nat.le_of_ble_eq_true rfl) dX12_ask_56 ⟨Nat.le_of_ble_eq_true rfl, Nat.le_of_ble_eq_true rfl⟩ ⟨Nat.le_of_ble_eq_true rfl, Nat.le_of_ble_eq_true rfl⟩) (fun r_16 H locs hQ hS => ?_)
          obtain ⟨hr_16_0, hP⟩ := hQ
          exact r_i hx hb hr hlocks dX12_ask_59 hS ⟨F_7, y_8, by omega, bF_7, by omega, hP⟩
        · skip
          refine lv_iload_n hx hb dX12_ask_48 rfl (lv_at hl 0 rfl) ?_
          refine lv_iconst (v := mI 1) hx hb dX12_ask_49 rfl ?_
          refine sy_iadd hx hb dX12_ask_50 (z_13 + 1) rfl ?_
          refine lv_goto (tgt := 59) hx hb dX12_ask_51 (by decide) ?_
          exact r_i hx hb hr hlocks dX12_ask_59 hS ⟨F_7, y_8, by omega, bF_7, by omega, hP⟩
      · skip
        intro J_14
        refine sy_icmp_ge (tgt := 42) hx hb dX12_ask_35 (by decide) (by omega) (by omega) (fun c_17 => ?_) (fun c_17 => ?_)
        · skip
          refine lv_iconst (v := mI 0) hx hb dX12_ask_42 rfl ?_
          exact J_14 _ _ _ ⟨0, _, by omega, hP, hS, lv_sub hl [0, 1, 2] rfl, rfl⟩
        · skip
          refine lv_iconst (v := mI 1) hx hb dX12_ask_38 rfl ?_
          refine lv_goto (tgt := 43) hx hb dX12_ask_39 (by decide) ?_
          exact J_14 _ _ _ ⟨1, _, by omega, hP, hS, lv_sub hl [0, 1, 2] rfl, rfl⟩
    · skip
      refine lv_iconst (v := mI (-1)) hx hb dX12_ask_23 rfl ?_
      exact r_i hx hb hr hlocks dX12_ask_24 hS ⟨F_7, y_8, by omega, bF_7, by omega, hP⟩
end Kr
