theorem ce_rng {x : Int32} (c1 : ¬ x < 0) (c2 : ¬ 255 < x) : 0 ≤ x.toInt ∧ x.toInt ≤ 255 := by
  have h0 : (0 : Int32).toInt = 0 := by decide
  have h1 : (255 : Int32).toInt = 255 := by decide
  rw [Int32.lt_iff_toInt_lt] at c1 c2
  omega
theorem sg_small {x : Int32} (hr : 0 ≤ x.toInt ∧ x.toInt ≤ 255) (h : 0 ≤ x.toInt8.toInt32.toInt) : x.toInt < 128 := by
  obtain ⟨n, hn, rfl⟩ : ∃ n : Nat, n < 256 ∧ x = nI n := ⟨x.toInt.toNat, by omega, Int32.toInt_inj.mp (by rw [nI_toInt (by omega)]; omega)⟩
  rw [nI_toInt (by omega)]
  rcases Nat.lt_or_ge n 128 with q | q
  · omega
  · exact absurd h ((by decide +kernel : ∀ n, n < 256 → 128 ≤ n → ¬ 0 ≤ (nI n).toInt8.toInt32.toInt) n hn q)
def sGB : List Int32 := [59, 40, 41, 60, 62, 61, 43, 45, 42, 47, 37]
theorem sg_pos {i : Nat} {y : Int32} (hi : i < 11) (h : sGB.getD (nI i).toNatClampNeg 0 = y) : 0 ≤ y.toInt := by
  rw [nI_clamp (by omega)] at h
  rw [← h]
  exact (by decide +kernel : ∀ i, i < 11 → 0 ≤ (sGB.getD i 0).toInt) i hi
def xG (b aK aV : Nat) : State → Prop := fun U => va_O "java/lang/String" aK (fun q => b ≤ q) U U.heap ∧ va_OF "java/lang/String" "coder" "B" (.int 0) aK (fun q => b ≤ q) U U.heap ∧ va_OF "java/lang/String" "value" "[B" (.ref aV) aK (fun q => b ≤ q) U U.heap ∧ va_T .byte aV 11 (fun j => .int (sGB.getD j 0)) (fun q => b ≤ q) U U.heap ∧ va_Z "java/lang/String" "COMPACT_STRINGS" "Z" (.int 1) (fun q => b ≤ q) U U.heap ∧ vk_R "HideReader$Tape" 88 ";()<>=+-*/%" aK U
theorem xG_to {b aK aV : Nat} {s U : State} (hq : ∀ a : Nat, a < s.heap.size → ¬ b ≤ a → U.heap[a]? = s.heap[a]?) (hW : s.WarmedH U.vm) (h : xG b aK aV s) : xG b aK aV U :=
  ⟨(h.1.moved hW.alike).kept hq, (h.2.1.moved hW.alike).kept hq, (h.2.2.1.moved hW.alike).kept hq, (h.2.2.2.1.moved hW.alike).kept hq, (h.2.2.2.2.1.moved hW.alike).kept hq, vk_R.warm hW h.2.2.2.2.2⟩
theorem xG_stb {b aK aV : Nat} : Stb (xG b aK aV) := fun a U g mk h =>
  ⟨(h.1.moved (U := U.calling g mk a) (Vm.Alike.refl U.vm)).kept (fun _ _ _ => rfl), (h.2.1.moved (U := U.calling g mk a) (Vm.Alike.refl U.vm)).kept (fun _ _ _ => rfl), (h.2.2.1.moved (U := U.calling g mk a) (Vm.Alike.refl U.vm)).kept (fun _ _ _ => rfl), (h.2.2.2.1.moved (U := U.calling g mk a) (Vm.Alike.refl U.vm)).kept (fun _ _ _ => rfl), (h.2.2.2.2.1.moved (U := U.calling g mk a) (Vm.Alike.refl U.vm)).kept (fun _ _ _ => rfl), vk_R.same (u := U) (U := U.calling g mk a) rfl h.2.2.2.2.2⟩
theorem strg_recv {b aK : Nat} {A : Nat → Prop} {s : State} {H : Heap} {locs : List Loc} (hO : va_O "java/lang/String" aK (fun q => b ≤ q) s s.heap) (hS : va_S A s.heap H locs) (hAb : ∀ q, A q → b ≤ q) : ∃ cell : Cell, H[aK]? = some cell ∧ cell.vm.isStatics = false ∧ s.vm.findClass "java/lang/String" = some cell.cls := by
  obtain ⟨cell, h1, h2, h3, h4⟩ := hO
  exact ⟨cell, by rw [hS.2.1 aK (Array.getElem?_eq_some_iff.mp h1).1 (fun h => h4 (hAb _ h))]; exact h1, h2, h3⟩
set_option maxHeartbeats 4000000 in
set_option maxRecDepth 100000 in
theorem kg_coder {l : Launch} {D : va_G} {k : Nat → ClassId} {b aK aV : Nat} : MetR l D k yJ0_coder_7d493 cJ0_coder_7d493 1 (some .byte) 0 [.ref aK] [] (xG b aK aV) (vp_Si (fun r => r = 0)) := by
  refine metR_of 0 ck_J0_coder_7d493 (Nat.le_of_ble_eq_true rfl) (fun p e s m args below meth c hx hb hml hr hlocks hown hts hK hX hP hin ls hl => ?_)
  have hown : s.vm.findClass "java/lang/String" = some m.cls := hown
  have hl : lv_has ls 1 [(0, .ref aK)] := hl
  have hX0 := hX
  obtain ⟨hO, hC, hV, hT, hZ, hR⟩ := hX
  have hS : va_S (fun q : Nat => b ≤ q) s.heap s.heap [] := va_S.rf
  refine va_gets hx hb hZ hS hown (hts _ uw_1_46) (fun _ h9 => h9) dJ0_coder_7d493_0 ?_
  refine lv_if_eq (tgt := 13) hx hb dJ0_coder_7d493_3 (by decide) (fun c9 => absurd c9 (by decide)) (fun _ => ?_)
  refine lv_aload_n hx hb dJ0_coder_7d493_6 rfl (lv_at hl 0 rfl) ?_
  refine vk_getf hx hb hC hS hown (hts _ uw_9_210) (fun _ h9 => h9) dJ0_coder_7d493_7 ?_
  refine lv_goto (tgt := 14) hx hb dJ0_coder_7d493_10 (by decide) ?_
  exact ze_z hx hb hr hlocks dJ0_coder_7d493_14 rfl rfl
set_option maxHeartbeats 4000000 in
set_option maxRecDepth 100000 in
theorem kg_isLatin1 {l : Launch} {D : va_G} {k : Nat → ClassId} {b aK aV : Nat} : MetR l D k yJ0_isLatin1_aae02 cJ0_isLatin1_aae02 1 (some .boolean) 0 [.ref aK] [] (xG b aK aV) (vp_Si (fun r => r = 1)) := by
  refine metR_of 0 ck_J0_isLatin1_aae02 (Nat.le_of_ble_eq_true rfl) (fun p e s m args below meth c hx hb hml hr hlocks hown hts hK hX hP hin ls hl => ?_)
  have hown : s.vm.findClass "java/lang/String" = some m.cls := hown
  have hl : lv_has ls 1 [(0, .ref aK)] := hl
  have hX0 := hX
  obtain ⟨hO, hC, hV, hT, hZ, hR⟩ := hX
  have hS : va_S (fun q : Nat => b ≤ q) s.heap s.heap [] := va_S.rf
  refine va_gets hx hb hZ hS hown (hts _ uw_1_46) (fun _ h9 => h9) dJ0_isLatin1_aae02_0 ?_
  refine lv_if_eq (tgt := 17) hx hb dJ0_isLatin1_aae02_3 (by decide) (fun c9 => absurd c9 (by decide)) (fun _ => ?_)
  refine lv_aload_n hx hb dJ0_isLatin1_aae02_6 rfl (lv_at hl 0 rfl) ?_
  refine vk_getf hx hb hC hS hown (hts _ uw_9_210) (fun _ h9 => h9) dJ0_isLatin1_aae02_7 ?_
  refine lv_if_ne (tgt := 17) hx hb dJ0_isLatin1_aae02_10 (by decide) (fun c9 => absurd rfl c9) (fun _ => ?_)
  refine lv_iconst (v := 1) hx hb dJ0_isLatin1_aae02_13 (by decide) ?_
  refine lv_goto (tgt := 18) hx hb dJ0_isLatin1_aae02_14 (by decide) ?_
  exact ze_z hx hb hr hlocks dJ0_isLatin1_aae02_18 rfl rfl
set_option maxHeartbeats 4000000 in
set_option maxRecDepth 100000 in
theorem kg_length {l : Launch} {D : va_G} {k : Nat → ClassId} {b aK aV : Nat} : MetR l D k yJ0_length_8abf5 cJ0_length_8abf5 1 (some .int) 1 [.ref aK] [] (xG b aK aV) (vp_Si (fun r => r = 11)) := by
  refine metR_of 0 ck_J0_length_8abf5 (Nat.le_of_ble_eq_true rfl) (fun p e s m args below meth c hx hb hml hr hlocks hown hts hK hX hP hin ls hl => ?_)
  have hown : s.vm.findClass "java/lang/String" = some m.cls := hown
  have hl : lv_has ls 1 [(0, .ref aK)] := hl
  have hX0 := hX
  obtain ⟨hO, hC, hV, hT, hZ, hR⟩ := hX
  have hS : va_S (fun q : Nat => b ≤ q) s.heap s.heap [] := va_S.rf
  refine lv_aload_n hx hb dJ0_length_8abf5_0 rfl (lv_at hl 0 rfl) ?_
  refine vk_getf hx hb hV hS hown (hts _ uw_9_209) (fun _ h9 => h9) dJ0_length_8abf5_1 ?_
  refine va_tlen hx hb hT hS (v := 11) rfl dJ0_length_8abf5_4 ?_
  refine lv_aload_n hx hb dJ0_length_8abf5_5 rfl (lv_at hl 0 rfl) ?_
  refine zr_i (zr_V (own := "java/lang/String") (As := []) (rest := [.int 11]) (ws := []) hx hb hml hown hts hK xG_stb (fun U hU hW => xG_to (fun a _ _ => by rw [hU]) hW hX0) (kg_coder (b := b) (aK := aK) (aV := aV)) ck_J0_coder_7d493 iv_J0_coder_7d493 uw_1_42 (strg_recv hO hS (fun _ h => h)) (zs_P hP [] rfl) rfl hl.1 rfl (Nat.le_of_ble_eq_true rfl) dJ0_length_8abf5_6 ⟨Nat.le_of_ble_eq_true rfl, Nat.le_of_ble_eq_true rfl⟩ ⟨Nat.le_of_ble_eq_true rfl, Nat.le_of_ble_eq_true rfl⟩) (fun r hr1 => ?_)
  subst hr1
  refine lv_ishr hx hb dJ0_length_8abf5_9 ?_
  refine lv_topc 11 (by decide) ?_
  exact ze_i hx hb hr hlocks dJ0_length_8abf5_10 rfl
set_option maxHeartbeats 4000000 in
set_option maxRecDepth 100000 in
theorem kg_canEncode {l : Launch} {D : va_G} {k : Nat → ClassId} {b aK aV : Nat} {x : Int32} : MetR l D k yJ1_canEncode_9a6ad cJ1_canEncode_9a6ad 1 (some .boolean) 0 [.int x] [] (xG b aK aV) (vp_Si (fun r => r = 0 ∨ (r = 1 ∧ 0 ≤ x.toInt ∧ x.toInt ≤ 255))) := by
  refine metR_of 1 ck_J1_canEncode_9a6ad (Nat.le_of_ble_eq_true rfl) (fun p e s m args below meth c hx hb hml hr hlocks hown hts hK hX hP hin ls hl => ?_)
  have hown : s.vm.findClass "java/lang/StringLatin1" = some m.cls := hown
  have hl : lv_has ls 1 [(0, .int x)] := hl
  have hX0 := hX
  obtain ⟨hO, hC, hV, hT, hZ, hR⟩ := hX
  have hS : va_S (fun q : Nat => b ≤ q) s.heap s.heap [] := va_S.rf
  refine lv_iload_n hx hb dJ1_canEncode_9a6ad_0 rfl (lv_at hl 0 rfl) ?_
  refine lv_if_lt (tgt := 15) hx hb dJ1_canEncode_9a6ad_1 (by decide) (fun _ => ?_) (fun c1 => ?_)
  · refine lv_iconst (v := 0) hx hb dJ1_canEncode_9a6ad_15 (by decide) ?_
    exact ze_z hx hb hr hlocks dJ1_canEncode_9a6ad_16 rfl (Or.inl rfl)
  · refine lv_iload_n hx hb dJ1_canEncode_9a6ad_4 rfl (lv_at hl 0 rfl) ?_
    refine lv_sipush (v := 255) hx hb dJ1_canEncode_9a6ad_5 (by decide) ?_
    refine lv_icmp_gt (tgt := 15) hx hb dJ1_canEncode_9a6ad_8 (by decide) (fun _ => ?_) (fun c2 => ?_)
    · refine lv_iconst (v := 0) hx hb dJ1_canEncode_9a6ad_15 (by decide) ?_
      exact ze_z hx hb hr hlocks dJ1_canEncode_9a6ad_16 rfl (Or.inl rfl)
    · refine lv_iconst (v := 1) hx hb dJ1_canEncode_9a6ad_11 (by decide) ?_
      refine lv_goto (tgt := 16) hx hb dJ1_canEncode_9a6ad_12 (by decide) ?_
      exact ze_z hx hb hr hlocks dJ1_canEncode_9a6ad_16 rfl (Or.inr ⟨rfl, ce_rng c1 c2⟩)
set_option maxHeartbeats 4000000 in
set_option maxRecDepth 100000 in
theorem kg_indexOfChar {l : Launch} {D : va_G} {k : Nat → ClassId} {b aK aV : Nat} {x : Int32} : MetR l D k yJ1_indexOfChar_4cfef cJ1_indexOfChar_4cfef 6 (some .int) 0 [.ref aV, .int x, .int 0, .int 11] [] (xG b aK aV) (vp_Si (fun r => r = -1 ∨ 0 ≤ x.toInt8.toInt32.toInt)) := by
  refine metR_of 4 ck_J1_indexOfChar_4cfef (Nat.le_of_ble_eq_true rfl) (fun p e s m args below meth c hx hb hml hr hlocks hown hts hK hX hP hin ls hl => ?_)
  have hown : s.vm.findClass "java/lang/StringLatin1" = some m.cls := hown
  have hl : lv_has ls 6 [(0, .ref aV), (1, .int x), (2, .int 0), (3, .int 11)] := hl
  have hX0 := hX
  obtain ⟨hO, hC, hV, hT, hZ, hR⟩ := hX
  have hS : va_S (fun q : Nat => b ≤ q) s.heap s.heap [] := va_S.rf
  refine lv_iload_n hx hb dJ1_indexOfChar_4cfef_0 rfl (lv_at hl 1 rfl) ?_
  refine lv_i2b hx hb dJ1_indexOfChar_4cfef_1 rfl ?_
  refine lv_istore (lv' := [(4, .int x.toInt8.toInt32), (0, .ref aV), (1, .int x), (2, .int 0), (3, .int 11)]) hx hb dJ1_indexOfChar_4cfef_2 hl (by decide) rfl (fun ls hl => ?_)
  refine lv_iload_n hx hb dJ1_indexOfChar_4cfef_4 rfl (lv_at hl 3 rfl) ?_
  refine lv_istore (lv' := [(5, .int (nI 0)), (4, .int x.toInt8.toInt32), (0, .ref aV), (1, .int x), (2, .int 0), (3, .int 11)]) hx hb dJ1_indexOfChar_4cfef_5 hl (by decide) rfl (fun ls hl => ?_)
  refine zl_up (I := (fun (i : Nat) (H : Heap) (locs : List Loc) (ls : Array Slot) => (H = s.heap ∧ locs = []) ∧ lv_has ls 6 [(5, .int (nI i)), (4, .int x.toInt8.toInt32), (0, .ref aV), (1, .int x), (2, .int 0), (3, .int 11)])) 11 (fun ls => F0 m 7 ls []) ?_ ?_ 0 _ _ _ (by decide) ⟨⟨rfl, rfl⟩, hl⟩
  · intro H locs ls hI
    obtain ⟨⟨eH, eL⟩, hl⟩ := hI
    subst eH
    subst eL
    refine lv_iload hx hb dJ1_indexOfChar_4cfef_7 (lv_at hl 0 rfl) ?_
    refine lv_iload_n hx hb dJ1_indexOfChar_4cfef_9 rfl (lv_at hl 5 rfl) ?_
    refine lv_icmp_ge (tgt := 31) hx hb dJ1_indexOfChar_4cfef_10 (by decide) (fun _ => ?_) (fun c9 => absurd (by decide) c9)
    refine lv_iconst (v := -1) hx hb dJ1_indexOfChar_4cfef_31 (by decide) ?_
    exact ze_i hx hb hr hlocks dJ1_indexOfChar_4cfef_32 (Or.inl rfl)
  · intro i H locs ls hi hI ih
    obtain ⟨⟨eH, eL⟩, hl⟩ := hI
    subst eH
    subst eL
    refine lv_iload hx hb dJ1_indexOfChar_4cfef_7 (lv_at hl 0 rfl) ?_
    refine lv_iload_n hx hb dJ1_indexOfChar_4cfef_9 rfl (lv_at hl 5 rfl) ?_
    refine lv_icmp_ge (tgt := 31) hx hb dJ1_indexOfChar_4cfef_10 (by decide) (fun c9 => absurd c9 (nI_ge (b := 11) hi (by decide))) (fun _ => ?_)
    refine lv_aload_n hx hb dJ1_indexOfChar_4cfef_13 rfl (lv_at hl 2 rfl) ?_
    refine lv_iload hx hb dJ1_indexOfChar_4cfef_14 (lv_at hl 0 rfl) ?_
    refine va_tb hx hb hT hS (vp_in_nI hi (by decide)) rfl dJ1_indexOfChar_4cfef_16 ?_
    refine lv_iload hx hb dJ1_indexOfChar_4cfef_17 (lv_at hl 1 rfl) ?_
    refine lv_icmp_ne (tgt := 25) hx hb dJ1_indexOfChar_4cfef_19 (by decide) (fun _ => ?_) (fun c3 => ?_)
    · refine lv_iinc (v := nI (i + 1)) (lv' := [(5, .int (nI (i + 1))), (4, .int x.toInt8.toInt32), (0, .ref aV), (1, .int x), (2, .int 0), (3, .int 11)]) hx hb dJ1_indexOfChar_4cfef_25 hl (k := 0) rfl (nI_1 _) (by decide) rfl (fun ls hl => ?_)
      refine lv_goto (tgt := 7) hx hb dJ1_indexOfChar_4cfef_28 (by decide) ?_
      exact ih _ _ _ ⟨⟨rfl, rfl⟩, hl⟩
    · refine lv_iload hx hb dJ1_indexOfChar_4cfef_22 (lv_at hl 0 rfl) ?_
      exact ze_i hx hb hr hlocks dJ1_indexOfChar_4cfef_24 (Or.inr (sg_pos hi c3))
set_option maxHeartbeats 4000000 in
set_option maxRecDepth 100000 in
theorem kg_latin {l : Launch} {D : va_G} {k : Nat → ClassId} {b aK aV : Nat} {x : Int32} : MetR l D k yJ1_indexOf_4cfef cJ1_indexOf_4cfef 4 (some .int) 1 [.ref aV, .int x, .int 0, .int 11] [] (xG b aK aV) (vp_Si (fun r => r = -1 ∨ x.toInt < 128)) := by
  refine metR_of 4 ck_J1_indexOf_4cfef (Nat.le_of_ble_eq_true rfl) (fun p e s m args below meth c hx hb hml hr hlocks hown hts hK hX hP hin ls hl => ?_)
  have hown : s.vm.findClass "java/lang/StringLatin1" = some m.cls := hown
  have hl : lv_has ls 4 [(0, .ref aV), (1, .int x), (2, .int 0), (3, .int 11)] := hl
  have hX0 := hX
  obtain ⟨hO, hC, hV, hT, hZ, hR⟩ := hX
  have hS : va_S (fun q : Nat => b ≤ q) s.heap s.heap [] := va_S.rf
  refine lv_iload_n hx hb dJ1_indexOf_4cfef_0 rfl (lv_at hl 1 rfl) ?_
  refine zr_i (zr_S (own := "java/lang/StringLatin1") (As := [.int x]) (rest := []) (ws := []) hx hb hml hown hts hK xG_stb (fun U hU hW => xG_to (fun a _ _ => by rw [hU]) hW hX0) (kg_canEncode (b := b) (aK := aK) (aV := aV)) ck_J1_canEncode_9a6ad uw_3_109 uw_3_108 (zs_P hP [] rfl) rfl hl.1 rfl (Nat.le_of_ble_eq_true rfl) dJ1_indexOf_4cfef_1 ⟨Nat.le_of_ble_eq_true rfl, Nat.le_of_ble_eq_true rfl⟩ ⟨Nat.le_of_ble_eq_true rfl, Nat.le_of_ble_eq_true rfl⟩) (fun r hr1 => ?_)
  rcases hr1 with rfl | ⟨rfl, ce1, ce2⟩
  · refine lv_if_ne (tgt := 9) hx hb dJ1_indexOf_4cfef_4 (by decide) (fun c9 => absurd rfl c9) (fun _ => ?_)
    refine lv_iconst (v := -1) hx hb dJ1_indexOf_4cfef_7 (by decide) ?_
    exact ze_i hx hb hr hlocks dJ1_indexOf_4cfef_8 (Or.inl rfl)
  · refine lv_if_ne (tgt := 9) hx hb dJ1_indexOf_4cfef_4 (by decide) (fun _ => ?_) (fun c9 => absurd c9 (by decide))
    refine lv_iload_n hx hb dJ1_indexOf_4cfef_9 rfl (lv_at hl 2 rfl) ?_
    refine lv_iconst (v := 0) hx hb dJ1_indexOf_4cfef_10 (by decide) ?_
    refine va_mmax hx hb (hml.trans hl.1.symm) hown (hts _ uw_3_111) (hts _ uw_3_112) (hts _ uw_1_18) (hts _ uw_3_113) (Nat.le_of_ble_eq_true rfl) (Nat.le_of_ble_eq_true rfl) (Nat.le_of_ble_eq_true rfl) (Nat.le_of_ble_eq_true rfl) dJ1_indexOf_4cfef_11 ?_
    refine lv_topc 0 (by decide) ?_
    refine lv_istore_n (lv' := [(2, .int 0), (0, .ref aV), (1, .int x), (3, .int 11)]) hx hb dJ1_indexOf_4cfef_14 rfl hl (by decide) rfl (fun ls hl => ?_)
    refine lv_iload_n hx hb dJ1_indexOf_4cfef_15 rfl (lv_at hl 3 rfl) ?_
    refine lv_aload_n hx hb dJ1_indexOf_4cfef_16 rfl (lv_at hl 1 rfl) ?_
    refine va_tlen hx hb hT hS (v := 11) rfl dJ1_indexOf_4cfef_17 ?_
    refine va_mmin hx hb (hml.trans hl.1.symm) hown (hts _ uw_3_114) (hts _ uw_3_115) (hts _ uw_1_18) (hts _ uw_3_116) (Nat.le_of_ble_eq_true rfl) (Nat.le_of_ble_eq_true rfl) (Nat.le_of_ble_eq_true rfl) (Nat.le_of_ble_eq_true rfl) dJ1_indexOf_4cfef_18 ?_
    refine lv_topc 11 (by decide) ?_
    refine lv_istore_n (lv' := [(3, .int 11), (2, .int 0), (0, .ref aV), (1, .int x)]) hx hb dJ1_indexOf_4cfef_21 rfl hl (by decide) rfl (fun ls hl => ?_)
    refine lv_iload_n hx hb dJ1_indexOf_4cfef_22 rfl (lv_at hl 1 rfl) ?_
    refine lv_iload_n hx hb dJ1_indexOf_4cfef_23 rfl (lv_at hl 0 rfl) ?_
    refine lv_icmp_lt (tgt := 29) hx hb dJ1_indexOf_4cfef_24 (by decide) (fun _ => ?_) (fun c9 => absurd (by decide) c9)
    refine lv_aload_n hx hb dJ1_indexOf_4cfef_29 rfl (lv_at hl 2 rfl) ?_
    refine lv_iload_n hx hb dJ1_indexOf_4cfef_30 rfl (lv_at hl 3 rfl) ?_
    refine lv_iload_n hx hb dJ1_indexOf_4cfef_31 rfl (lv_at hl 1 rfl) ?_
    refine lv_iload_n hx hb dJ1_indexOf_4cfef_32 rfl (lv_at hl 0 rfl) ?_
    refine zr_i (zr_S (own := "java/lang/StringLatin1") (As := [.ref aV, .int x, .int 0, .int 11]) (rest := []) (ws := []) hx hb hml hown hts hK xG_stb (fun U hU hW => xG_to (fun a _ _ => by rw [hU]) hW hX0) (kg_indexOfChar (b := b) (aK := aK) (aV := aV)) ck_J1_indexOfChar_4cfef uw_3_118 uw_3_117 (zs_P hP [] rfl) rfl hl.1 rfl (Nat.le_of_ble_eq_true rfl) dJ1_indexOf_4cfef_33 ⟨Nat.le_of_ble_eq_true rfl, Nat.le_of_ble_eq_true rfl⟩ ⟨Nat.le_of_ble_eq_true rfl, Nat.le_of_ble_eq_true rfl⟩) (fun r hr1 => ?_)
    exact ze_i hx hb hr hlocks dJ1_indexOf_4cfef_36 (hr1.imp id (fun h => sg_small ⟨ce1, ce2⟩ h))
set_option maxHeartbeats 4000000 in
set_option maxRecDepth 100000 in
theorem kg_indexOf2 {l : Launch} {D : va_G} {k : Nat → ClassId} {b aK aV : Nat} {x : Int32} : MetR l D k yJ0_indexOf_7cf53 cJ0_indexOf_7cf53 3 (some .int) 2 [.ref aK, .int x, .int 0] [] (xG b aK aV) (vp_Si (fun r => r = -1 ∨ x.toInt < 128)) := by
  refine metR_of 2 ck_J0_indexOf_7cf53 (Nat.le_of_ble_eq_true rfl) (fun p e s m args below meth c hx hb hml hr hlocks hown hts hK hX hP hin ls hl => ?_)
  have hown : s.vm.findClass "java/lang/String" = some m.cls := hown
  have hl : lv_has ls 3 [(0, .ref aK), (1, .int x), (2, .int 0)] := hl
  have hX0 := hX
  obtain ⟨hO, hC, hV, hT, hZ, hR⟩ := hX
  have hS : va_S (fun q : Nat => b ≤ q) s.heap s.heap [] := va_S.rf
  refine lv_aload_n hx hb dJ0_indexOf_7cf53_0 rfl (lv_at hl 0 rfl) ?_
  refine zr_i (zr_V (own := "java/lang/String") (As := []) (rest := []) (ws := []) hx hb hml hown hts hK xG_stb (fun U hU hW => xG_to (fun a _ _ => by rw [hU]) hW hX0) (kg_isLatin1 (b := b) (aK := aK) (aV := aV)) ck_J0_isLatin1_aae02 iv_J0_isLatin1_aae02 uw_1_52 (strg_recv hO hS (fun _ h => h)) (zs_P hP [] rfl) rfl hl.1 rfl (Nat.le_of_ble_eq_true rfl) dJ0_indexOf_7cf53_1 ⟨Nat.le_of_ble_eq_true rfl, Nat.le_of_ble_eq_true rfl⟩ ⟨Nat.le_of_ble_eq_true rfl, Nat.le_of_ble_eq_true rfl⟩) (fun r hr1 => ?_)
  subst hr1
  refine lv_if_eq (tgt := 23) hx hb dJ0_indexOf_7cf53_4 (by decide) (fun c9 => absurd c9 (by decide)) (fun _ => ?_)
  refine lv_aload_n hx hb dJ0_indexOf_7cf53_7 rfl (lv_at hl 0 rfl) ?_
  refine vk_getf hx hb hV hS hown (hts _ uw_9_209) (fun _ h9 => h9) dJ0_indexOf_7cf53_8 ?_
  refine lv_iload_n hx hb dJ0_indexOf_7cf53_11 rfl (lv_at hl 1 rfl) ?_
  refine lv_iload_n hx hb dJ0_indexOf_7cf53_12 rfl (lv_at hl 2 rfl) ?_
  refine lv_aload_n hx hb dJ0_indexOf_7cf53_13 rfl (lv_at hl 0 rfl) ?_
  refine zr_i (zr_V (own := "java/lang/String") (As := []) (rest := [.int 0, .int x, .ref aV]) (ws := []) hx hb hml hown hts hK xG_stb (fun U hU hW => xG_to (fun a _ _ => by rw [hU]) hW hX0) (kg_length (b := b) (aK := aK) (aV := aV)) ck_J0_length_8abf5 iv_J0_length_8abf5 uw_3_104 (strg_recv hO hS (fun _ h => h)) (zs_P hP [] rfl) rfl hl.1 rfl (Nat.le_of_ble_eq_true rfl) dJ0_indexOf_7cf53_14 ⟨Nat.le_of_ble_eq_true rfl, Nat.le_of_ble_eq_true rfl⟩ ⟨Nat.le_of_ble_eq_true rfl, Nat.le_of_ble_eq_true rfl⟩) (fun r hr1 => ?_)
  subst hr1
  refine zr_i (zr_S (own := "java/lang/String") (As := [.ref aV, .int x, .int 0, .int 11]) (rest := []) (ws := []) hx hb hml hown hts hK xG_stb (fun U hU hW => xG_to (fun a _ _ => by rw [hU]) hW hX0) (kg_latin (b := b) (aK := aK) (aV := aV)) ck_J1_indexOf_4cfef uw_3_106 uw_3_105 (zs_P hP [] rfl) rfl hl.1 rfl (Nat.le_of_ble_eq_true rfl) dJ0_indexOf_7cf53_17 ⟨Nat.le_of_ble_eq_true rfl, Nat.le_of_ble_eq_true rfl⟩ ⟨Nat.le_of_ble_eq_true rfl, Nat.le_of_ble_eq_true rfl⟩) (fun r hr1 => ?_)
  refine lv_goto (tgt := 36) hx hb dJ0_indexOf_7cf53_20 (by decide) ?_
  exact ze_i hx hb hr hlocks dJ0_indexOf_7cf53_36 hr1
set_option maxHeartbeats 4000000 in
set_option maxRecDepth 100000 in
theorem kg_indexOf {l : Launch} {D : va_G} {k : Nat → ClassId} {b aK aV : Nat} {x : Int32} : MetR l D k yJ0_indexOf_0f7a4 cJ0_indexOf_0f7a4 2 (some .int) 3 [.ref aK, .int x] [] (xG b aK aV) (vp_Si (fun r => r = -1 ∨ x.toInt < 128)) := by
  refine metR_of 1 ck_J0_indexOf_0f7a4 (Nat.le_of_ble_eq_true rfl) (fun p e s m args below meth c hx hb hml hr hlocks hown hts hK hX hP hin ls hl => ?_)
  have hown : s.vm.findClass "java/lang/String" = some m.cls := hown
  have hl : lv_has ls 2 [(0, .ref aK), (1, .int x)] := hl
  have hX0 := hX
  obtain ⟨hO, hC, hV, hT, hZ, hR⟩ := hX
  have hS : va_S (fun q : Nat => b ≤ q) s.heap s.heap [] := va_S.rf
  refine lv_aload_n hx hb dJ0_indexOf_0f7a4_0 rfl (lv_at hl 0 rfl) ?_
  refine lv_iload_n hx hb dJ0_indexOf_0f7a4_1 rfl (lv_at hl 1 rfl) ?_
  refine lv_iconst (v := 0) hx hb dJ0_indexOf_0f7a4_2 (by decide) ?_
  refine zr_i (zr_V (own := "java/lang/String") (As := [.int x, .int 0]) (rest := []) (ws := []) hx hb hml hown hts hK xG_stb (fun U hU hW => xG_to (fun a _ _ => by rw [hU]) hW hX0) (kg_indexOf2 (b := b) (aK := aK) (aV := aV)) ck_J0_indexOf_7cf53 iv_J0_indexOf_7cf53 uw_3_100 (strg_recv hO hS (fun _ h => h)) (zs_P hP [] rfl) rfl hl.1 rfl (Nat.le_of_ble_eq_true rfl) dJ0_indexOf_0f7a4_3 ⟨Nat.le_of_ble_eq_true rfl, Nat.le_of_ble_eq_true rfl⟩ ⟨Nat.le_of_ble_eq_true rfl, Nat.le_of_ble_eq_true rfl⟩) (fun r hr1 => ?_)
  exact ze_i hx hb hr hlocks dJ0_indexOf_0f7a4_6 hr1
abbrev MetX (l : Launch) (D : va_G) (k : Nat → ClassId) (b aK aV : Nat) (y : MethodName) (bytes : ByteArray) (maxL : Nat) (ret : Option FieldType) (d : Nat) (as : List Value) (ws : va_W) (Q : (Nat → Prop) → Array Value → State → Outcome → State → Prop) : Prop := MetM l D k y bytes maxL ret d 0 0 as ws (xG b aK aV) Q
theorem metX_of {l : Launch} {D : va_G} {k : Nat → ClassId} {b aK aV : Nat} {y : MethodName} {bytes : ByteArray} {maxL : Nat} {ret : Option FieldType} {d : Nat} {as : List Value} {ws : va_W} {Qc : (Nat → Prop) → Array Value → State → Outcome → State → Prop} (n : Nat) (hk : ckC y bytes maxL ret n) (hmx : (lg_sl as).length ≤ maxL) {adr : List Nat} (hadr : ws.map Prod.fst = adr) (hbA : ∀ x ∈ adr, b ≤ x) (hne : ∃ q, ws[0]? = some q)
    (body : ∀ (p : Program) (e : Env) (s : State) (m : MethodId) (args : Array Value) (below : List Frame) (meth : Method) (c : Code) (A : Nat → Prop), p.tables.exec = Jvm.exec → c.code = bytes → c.maxLocals = maxL → meth.sig.returnType = ret → meth.locks = false → s.vm.findClass y.cls = some m.cls → (∀ w ∈ UT, w.before args s = true) → va_K D vwCl (tys k) s → wD A adr → (∀ q : Nat, s.heap.size ≤ q → A q) → va_P D vwCl ws s.heap → va_S A s.heap s.heap [] → xG b aK aV s → (∀ q, A q → b ≤ q) → (∀ {H : Heap} {locs : List Loc}, va_S A s.heap H locs → ∀ U : State, U.heap = H → s.WarmedH U.vm → xG b aK aV U) → ∀ ls : Array Slot, lv_has ls maxL (lv_args 0 as) → W p l e (rmD d 0 0) s m args below meth c s.heap [] 0 0 (MQ below (Qc A) args s 0 0 A) (F0 m 0 ls [])) : MetX l D k b aK aV y bytes maxL ret d as ws Qc :=
  metM_ofX n hk hmx (fun p e s m args below meth c A hx hb hml hr hlocks hown hts hK hX hP hD hA hA2 _ ls hl => by
    have hAb : ∀ q, A q → b ≤ q := by
      intro q h
      rcases hA2 q h with ⟨i, e', hi⟩ | h1
      · refine hbA q ?_
        rw [← hadr]
        exact List.mem_map.mpr ⟨(q, e'), List.mem_of_getElem? hi, rfl⟩
      · obtain ⟨q0, h0⟩ := hne
        have h2 := (hP 0 _ h0).lt
        have h3 : b ≤ q0.1 := hbA _ (by rw [← hadr]; exact List.mem_map.mpr ⟨q0, List.mem_of_getElem? h0, rfl⟩)
        omega
    exact body p e s m args below meth c A hx hb hml hr hlocks hown hts hK (wD_of hD hadr) hA hP va_S.rf hX hAb (fun hS U hU hW => xG_to (fun a h1 h2 => by rw [hU]; exact hS.2.1 a h1 (fun h3 => h2 (hAb a h3))) hW hX) ls hl)
section GX
variable {p : Program} {l : Launch} {e : Env} {R : Room} {s : State} {m : MethodId} {args : Array Value} {below : List Frame} {meth : Method} {c : Code} {H : Heap} {locs : List Loc} {cells slots : Nat} {Q : State → Prop}
variable {y : MethodName} {bytes cc : ByteArray} {maxL nL n index d : Nat} {ret : Option FieldType} {own : String} {b0 : Addr} {As rest st0 : List Value} {pc : Nat} {ls : Array Slot} {D : va_G} {k : Nat → ClassId} {ws : va_W} {A0 : Nat → Prop} {H0 : Heap} {adr : List Nat} {b aK aV : Nat}
theorem g_VX {Qm : (Nat → Prop) → Array Value → State → Outcome → State → Prop} (hx : p.tables.exec = Jvm.exec) (hb : c.code = cc) (hml : c.maxLocals = nL) (hown : s.vm.findClass own = some m.cls) (hts : ∀ w ∈ UT, w.before args s = true) (hK : va_K D vwCl (tys k) s) (hP : va_P D vwCl ws H) (hD : va_D A0 ws) (hX : ∀ U : State, U.heap = H → s.WarmedH U.vm → xG b aK aV U)
    (hM : MetX l D k b aK aV y bytes maxL ret d (.ref b0 :: As) ws Qm) (hk : ckC y bytes maxL ret n) (hi : Cond.instanceMethod y ∈ UT ∧ Cond.selects y.cls y y ∈ UT) (hl : Cond.methodLink own index y ∈ UT) (hr : ∃ cell : Cell, H[b0]? = some cell ∧ cell.vm.isStatics = false ∧ s.vm.findClass y.cls = some cell.cls)
    (hn : As.length = n) (hsz : ls.size = nL) (hst : st0 = As.reverse ++ .ref b0 :: rest) (hroom : (rest.map fun v => v.category).sum ≤ 8) (hdg : decode cc pc = .ok (.invokevirtual index, 3)) (hc : cells ≤ R.cells ∧ slots ≤ R.slots) (hR : d + 1 ≤ R.frames ∧ 100 * (d + 1) ≤ R.locals) :
    va_Run p l e R s m args below meth c H locs cells slots 0 0 (F0 m pc ls st0) rest (Qm (va_A ws H.size) (Value.ref b0 :: As).toArray) (va_A ws H.size) :=
  va_runV (Ts := UT) ⟨hx, hb, hml, hown, hts⟩ (hM H.size) ⟨zc_B hts hk hl hR.1 hR.2, hts _ hi.1, hts _ hi.2⟩ ⟨pcM_blind xG_stb, hr, fun U hU hW => ⟨rfl, by rw [hU], by rw [hU]; exact hP, va_K.moved hW.alike hK, hD.weaken (fun _ _ _ _ => trivial), hX U hU hW⟩⟩ rfl hn hsz hst (lv_room hroom) hdg hc
end GX
