set_option maxHeartbeats 4000000 in
set_option maxRecDepth 100000 in
theorem c_X4_movedStroke_15 (l : Launch) (D : va_G) (k : Nat → ClassId) (p0 : Int32) : MetR l D k yX4_movedStroke cX4_movedStroke 7 (some .int) 0 [.int p0, .int 3] [] noX (vp_Si (fun r => True)) := by
  refine metR_of 2 ck_X4_movedStroke (Nat.le_of_ble_eq_true rfl) (fun p e s m args below meth c hx hb hml hr hlocks hown hts hK hX hP hin ls hl => ?_)
  have hP : va_P D vwCl [] s.heap := hP
  have hown : s.vm.findClass "HideReader$Lattice" = some m.cls := hown
  have hl : lv_has ls 7 [(0, .int p0), (1, .int 3)] := hl
  refine lv_iload_n hx hb dX4_movedStroke_0 rfl (lv_at hl 0 rfl) ?_
  refine lv_bipush (v := 6) hx hb dX4_movedStroke_1 (by decide) ?_
  refine lv_isub hx hb dX4_movedStroke_3 ?_
  refine lv_istore_n (lv' := [(2, .int (p0 - 6)), (0, .int p0), (1, .int 3)]) hx hb dX4_movedStroke_4 rfl hl (by decide) rfl (fun ls hl => ?_)
  refine lv_iload_n hx hb dX4_movedStroke_5 rfl (lv_at hl 0 rfl) ?_
  refine lv_if_ge (tgt := 19) hx hb dX4_movedStroke_6 (by decide) (fun c_1 => ?_) (fun c_1 => ?_)
  · skip
    refine lv_iconst (v := 2) hx hb dX4_movedStroke_19 (by decide) ?_
    refine lv_iload_n hx hb dX4_movedStroke_20 rfl (lv_at hl 0 rfl) ?_
    refine lv_iconst (v := 3) hx hb dX4_movedStroke_21 (by decide) ?_
    refine lv_irem hx hb dX4_movedStroke_22 (by decide) ?_
    refine lv_imul hx hb dX4_movedStroke_23 ?_
    refine lv_istore_n (lv' := [(3, .int (2 * ((p0 - 6) - (p0 - 6) / 3 * 3))), (2, .int (p0 - 6)), (0, .int p0), (1, .int 3)]) hx hb dX4_movedStroke_24 rfl hl (by decide) rfl (fun ls hl => ?_)
    refine lv_iload_n hx hb dX4_movedStroke_25 rfl (lv_at hl 1 rfl) ?_
    refine lv_if_ge (tgt := 37) hx hb dX4_movedStroke_26 (by decide) (fun _ => ?_) (fun c9 => absurd c_1 c9)
    refine lv_iconst (v := 2) hx hb dX4_movedStroke_37 (by decide) ?_
    refine lv_iload_n hx hb dX4_movedStroke_38 rfl (lv_at hl 1 rfl) ?_
    refine lv_iconst (v := 3) hx hb dX4_movedStroke_39 (by decide) ?_
    refine lv_idiv hx hb dX4_movedStroke_40 (by decide) ?_
    refine lv_imul hx hb dX4_movedStroke_41 ?_
    refine lv_iconst (v := 1) hx hb dX4_movedStroke_42 (by decide) ?_
    refine lv_iadd hx hb dX4_movedStroke_43 ?_
    refine lv_istore (lv' := [(4, .int ((2 * ((p0 - 6) / 3)) + 1)), (3, .int (2 * ((p0 - 6) - (p0 - 6) / 3 * 3))), (2, .int (p0 - 6)), (0, .int p0), (1, .int 3)]) hx hb dX4_movedStroke_44 hl (by decide) rfl (fun ls hl => ?_)
    refine lv_iload_n hx hb dX4_movedStroke_46 rfl (lv_at hl 4 rfl) ?_
    refine lv_iconst (v := 4) hx hb dX4_movedStroke_47 (by decide) ?_
    refine lv_icmp_lt (tgt := 55) hx hb dX4_movedStroke_48 (by decide) (fun _ => ?_) (fun c9 => absurd (by decide) c9)
    refine lv_iconst (v := 0) hx hb dX4_movedStroke_55 (by decide) ?_
    refine lv_istore (lv' := [(5, .int 0), (4, .int ((2 * ((p0 - 6) / 3)) + 1)), (3, .int (2 * ((p0 - 6) - (p0 - 6) / 3 * 3))), (2, .int (p0 - 6)), (0, .int p0), (1, .int 3)]) hx hb dX4_movedStroke_56 hl (by decide) rfl (fun ls hl => ?_)
    refine lv_iload hx hb dX4_movedStroke_58 (lv_at hl 0 rfl) ?_
    refine lv_iload_n hx hb dX4_movedStroke_60 rfl (lv_at hl 5 rfl) ?_
    refine lv_iconst (v := 4) hx hb dX4_movedStroke_61 (by decide) ?_
    refine lv_irem hx hb dX4_movedStroke_62 (by decide) ?_
    refine lv_topc 3 (by decide) ?_
    refine lv_icmp_ge (tgt := 84) hx hb dX4_movedStroke_63 (by decide) (fun c9 => absurd c9 (by decide)) (fun _ => ?_)
    refine lv_iload_n hx hb dX4_movedStroke_66 rfl (lv_at hl 2 rfl) ?_
    refine lv_istore (lv' := [(6, .int (2 * ((p0 - 6) - (p0 - 6) / 3 * 3))), (5, .int 0), (4, .int ((2 * ((p0 - 6) / 3)) + 1)), (3, .int (2 * ((p0 - 6) - (p0 - 6) / 3 * 3))), (2, .int (p0 - 6)), (0, .int p0), (1, .int 3)]) hx hb dX4_movedStroke_67 hl (by decide) rfl (fun ls hl => ?_)
    refine lv_iconst (v := 4) hx hb dX4_movedStroke_69 (by decide) ?_
    refine lv_iload hx hb dX4_movedStroke_70 (lv_at hl 2 rfl) ?_
    refine lv_isub hx hb dX4_movedStroke_72 ?_
    refine lv_istore_n (lv' := [(3, .int (4 - ((2 * ((p0 - 6) / 3)) + 1))), (6, .int (2 * ((p0 - 6) - (p0 - 6) / 3 * 3))), (5, .int 0), (4, .int ((2 * ((p0 - 6) / 3)) + 1)), (2, .int (p0 - 6)), (0, .int p0), (1, .int 3)]) hx hb dX4_movedStroke_73 rfl hl (by decide) rfl (fun ls hl => ?_)
    refine lv_iload hx hb dX4_movedStroke_74 (lv_at hl 1 rfl) ?_
    refine lv_istore (lv' := [(4, .int (2 * ((p0 - 6) - (p0 - 6) / 3 * 3))), (3, .int (4 - ((2 * ((p0 - 6) / 3)) + 1))), (6, .int (2 * ((p0 - 6) - (p0 - 6) / 3 * 3))), (5, .int 0), (2, .int (p0 - 6)), (0, .int p0), (1, .int 3)]) hx hb dX4_movedStroke_76 hl (by decide) rfl (fun ls hl => ?_)
    refine lv_iinc (v := 1) (lv' := [(5, .int 1), (4, .int (2 * ((p0 - 6) - (p0 - 6) / 3 * 3))), (3, .int (4 - ((2 * ((p0 - 6) / 3)) + 1))), (6, .int (2 * ((p0 - 6) - (p0 - 6) / 3 * 3))), (2, .int (p0 - 6)), (0, .int p0), (1, .int 3)]) hx hb dX4_movedStroke_78 hl (k := 3) rfl (by decide) (by decide) rfl (fun ls hl => ?_)
    refine lv_goto (tgt := 58) hx hb dX4_movedStroke_81 (by decide) ?_
    refine lv_iload hx hb dX4_movedStroke_58 (lv_at hl 0 rfl) ?_
    refine lv_iload_n hx hb dX4_movedStroke_60 rfl (lv_at hl 6 rfl) ?_
    refine lv_iconst (v := 4) hx hb dX4_movedStroke_61 (by decide) ?_
    refine lv_irem hx hb dX4_movedStroke_62 (by decide) ?_
    refine lv_topc 3 (by decide) ?_
    refine lv_icmp_ge (tgt := 84) hx hb dX4_movedStroke_63 (by decide) (fun c9 => absurd c9 (by decide)) (fun _ => ?_)
    refine lv_iload_n hx hb dX4_movedStroke_66 rfl (lv_at hl 2 rfl) ?_
    refine lv_istore (lv' := [(6, .int (4 - ((2 * ((p0 - 6) / 3)) + 1))), (5, .int 1), (4, .int (2 * ((p0 - 6) - (p0 - 6) / 3 * 3))), (3, .int (4 - ((2 * ((p0 - 6) / 3)) + 1))), (2, .int (p0 - 6)), (0, .int p0), (1, .int 3)]) hx hb dX4_movedStroke_67 hl (by decide) rfl (fun ls hl => ?_)
    refine lv_iconst (v := 4) hx hb dX4_movedStroke_69 (by decide) ?_
    refine lv_iload hx hb dX4_movedStroke_70 (lv_at hl 2 rfl) ?_
    refine lv_isub hx hb dX4_movedStroke_72 ?_
    refine lv_istore_n (lv' := [(3, .int (4 - (2 * ((p0 - 6) - (p0 - 6) / 3 * 3)))), (6, .int (4 - ((2 * ((p0 - 6) / 3)) + 1))), (5, .int 1), (4, .int (2 * ((p0 - 6) - (p0 - 6) / 3 * 3))), (2, .int (p0 - 6)), (0, .int p0), (1, .int 3)]) hx hb dX4_movedStroke_73 rfl hl (by decide) rfl (fun ls hl => ?_)
    refine lv_iload hx hb dX4_movedStroke_74 (lv_at hl 1 rfl) ?_
    refine lv_istore (lv' := [(4, .int (4 - ((2 * ((p0 - 6) / 3)) + 1))), (3, .int (4 - (2 * ((p0 - 6) - (p0 - 6) / 3 * 3)))), (6, .int (4 - ((2 * ((p0 - 6) / 3)) + 1))), (5, .int 1), (2, .int (p0 - 6)), (0, .int p0), (1, .int 3)]) hx hb dX4_movedStroke_76 hl (by decide) rfl (fun ls hl => ?_)
    refine lv_iinc (v := 2) (lv' := [(5, .int 2), (4, .int (4 - ((2 * ((p0 - 6) / 3)) + 1))), (3, .int (4 - (2 * ((p0 - 6) - (p0 - 6) / 3 * 3)))), (6, .int (4 - ((2 * ((p0 - 6) / 3)) + 1))), (2, .int (p0 - 6)), (0, .int p0), (1, .int 3)]) hx hb dX4_movedStroke_78 hl (k := 3) rfl (by decide) (by decide) rfl (fun ls hl => ?_)
    refine lv_goto (tgt := 58) hx hb dX4_movedStroke_81 (by decide) ?_
    refine lv_iload hx hb dX4_movedStroke_58 (lv_at hl 0 rfl) ?_
    refine lv_iload_n hx hb dX4_movedStroke_60 rfl (lv_at hl 6 rfl) ?_
    refine lv_iconst (v := 4) hx hb dX4_movedStroke_61 (by decide) ?_
    refine lv_irem hx hb dX4_movedStroke_62 (by decide) ?_
    refine lv_topc 3 (by decide) ?_
    refine lv_icmp_ge (tgt := 84) hx hb dX4_movedStroke_63 (by decide) (fun c9 => absurd c9 (by decide)) (fun _ => ?_)
    refine lv_iload_n hx hb dX4_movedStroke_66 rfl (lv_at hl 2 rfl) ?_
    refine lv_istore (lv' := [(6, .int (4 - (2 * ((p0 - 6) - (p0 - 6) / 3 * 3)))), (5, .int 2), (4, .int (4 - ((2 * ((p0 - 6) / 3)) + 1))), (3, .int (4 - (2 * ((p0 - 6) - (p0 - 6) / 3 * 3)))), (2, .int (p0 - 6)), (0, .int p0), (1, .int 3)]) hx hb dX4_movedStroke_67 hl (by decide) rfl (fun ls hl => ?_)
    refine lv_iconst (v := 4) hx hb dX4_movedStroke_69 (by decide) ?_
    refine lv_iload hx hb dX4_movedStroke_70 (lv_at hl 2 rfl) ?_
    refine lv_isub hx hb dX4_movedStroke_72 ?_
    refine lv_istore_n (lv' := [(3, .int (4 - (4 - ((2 * ((p0 - 6) / 3)) + 1)))), (6, .int (4 - (2 * ((p0 - 6) - (p0 - 6) / 3 * 3)))), (5, .int 2), (4, .int (4 - ((2 * ((p0 - 6) / 3)) + 1))), (2, .int (p0 - 6)), (0, .int p0), (1, .int 3)]) hx hb dX4_movedStroke_73 rfl hl (by decide) rfl (fun ls hl => ?_)
    refine lv_iload hx hb dX4_movedStroke_74 (lv_at hl 1 rfl) ?_
    refine lv_istore (lv' := [(4, .int (4 - (2 * ((p0 - 6) - (p0 - 6) / 3 * 3)))), (3, .int (4 - (4 - ((2 * ((p0 - 6) / 3)) + 1)))), (6, .int (4 - (2 * ((p0 - 6) - (p0 - 6) / 3 * 3)))), (5, .int 2), (2, .int (p0 - 6)), (0, .int p0), (1, .int 3)]) hx hb dX4_movedStroke_76 hl (by decide) rfl (fun ls hl => ?_)
    refine lv_iinc (v := 3) (lv' := [(5, .int 3), (4, .int (4 - (2 * ((p0 - 6) - (p0 - 6) / 3 * 3)))), (3, .int (4 - (4 - ((2 * ((p0 - 6) / 3)) + 1)))), (6, .int (4 - (2 * ((p0 - 6) - (p0 - 6) / 3 * 3)))), (2, .int (p0 - 6)), (0, .int p0), (1, .int 3)]) hx hb dX4_movedStroke_78 hl (k := 3) rfl (by decide) (by decide) rfl (fun ls hl => ?_)
    refine lv_goto (tgt := 58) hx hb dX4_movedStroke_81 (by decide) ?_
    refine lv_iload hx hb dX4_movedStroke_58 (lv_at hl 0 rfl) ?_
    refine lv_iload_n hx hb dX4_movedStroke_60 rfl (lv_at hl 6 rfl) ?_
    refine lv_iconst (v := 4) hx hb dX4_movedStroke_61 (by decide) ?_
    refine lv_irem hx hb dX4_movedStroke_62 (by decide) ?_
    refine lv_topc 3 (by decide) ?_
    refine lv_icmp_ge (tgt := 84) hx hb dX4_movedStroke_63 (by decide) (fun _ => ?_) (fun c9 => absurd (by decide) c9)
    refine lv_iload hx hb dX4_movedStroke_84 (lv_at hl 1 rfl) ?_
    refine lv_iconst (v := 2) hx hb dX4_movedStroke_86 (by decide) ?_
    refine lv_irem hx hb dX4_movedStroke_87 (by decide) ?_
    refine lv_if_ne (tgt := 100) hx hb dX4_movedStroke_88 (by decide) (fun c_2 => ?_) (fun c_2 => ?_)
    · skip
      refine lv_bipush (v := 6) hx hb dX4_movedStroke_100 (by decide) ?_
      refine lv_iconst (v := 3) hx hb dX4_movedStroke_102 (by decide) ?_
      refine lv_iload hx hb dX4_movedStroke_103 (lv_at hl 1 rfl) ?_
      refine lv_iconst (v := 2) hx hb dX4_movedStroke_105 (by decide) ?_
      refine lv_idiv hx hb dX4_movedStroke_106 (by decide) ?_
      refine lv_imul hx hb dX4_movedStroke_107 ?_
      refine lv_iadd hx hb dX4_movedStroke_108 ?_
      refine lv_iload_n hx hb dX4_movedStroke_109 rfl (lv_at hl 2 rfl) ?_
      refine lv_iconst (v := 2) hx hb dX4_movedStroke_110 (by decide) ?_
      refine lv_idiv hx hb dX4_movedStroke_111 (by decide) ?_
      refine lv_iadd hx hb dX4_movedStroke_112 ?_
      exact ze_i hx hb hr hlocks dX4_movedStroke_113 trivial
    · skip
      refine lv_iload hx hb dX4_movedStroke_91 (lv_at hl 1 rfl) ?_
      refine lv_iload_n hx hb dX4_movedStroke_93 rfl (lv_at hl 2 rfl) ?_
      refine lv_iconst (v := 2) hx hb dX4_movedStroke_94 (by decide) ?_
      refine lv_idiv hx hb dX4_movedStroke_95 (by decide) ?_
      refine lv_iadd hx hb dX4_movedStroke_96 ?_
      refine lv_goto (tgt := 113) hx hb dX4_movedStroke_97 (by decide) ?_
      exact ze_i hx hb hr hlocks dX4_movedStroke_113 trivial
  · skip
    refine lv_iconst (v := 2) hx hb dX4_movedStroke_9 (by decide) ?_
    refine lv_iload_n hx hb dX4_movedStroke_10 rfl (lv_at hl 1 rfl) ?_
    refine lv_iconst (v := 2) hx hb dX4_movedStroke_11 (by decide) ?_
    refine lv_irem hx hb dX4_movedStroke_12 (by decide) ?_
    refine lv_imul hx hb dX4_movedStroke_13 ?_
    refine lv_iconst (v := 1) hx hb dX4_movedStroke_14 (by decide) ?_
    refine lv_iadd hx hb dX4_movedStroke_15 ?_
    refine lv_goto (tgt := 24) hx hb dX4_movedStroke_16 (by decide) ?_
    refine lv_istore_n (lv' := [(3, .int ((2 * (p0 - p0 / 2 * 2)) + 1)), (2, .int (p0 - 6)), (0, .int p0), (1, .int 3)]) hx hb dX4_movedStroke_24 rfl hl (by decide) rfl (fun ls hl => ?_)
    refine lv_iload_n hx hb dX4_movedStroke_25 rfl (lv_at hl 1 rfl) ?_
    refine lv_if_ge (tgt := 37) hx hb dX4_movedStroke_26 (by decide) (fun c9 => absurd c9 c_1) (fun _ => ?_)
    refine lv_iconst (v := 2) hx hb dX4_movedStroke_29 (by decide) ?_
    refine lv_iload_n hx hb dX4_movedStroke_30 rfl (lv_at hl 2 rfl) ?_
    refine lv_iconst (v := 2) hx hb dX4_movedStroke_31 (by decide) ?_
    refine lv_idiv hx hb dX4_movedStroke_32 (by decide) ?_
    refine lv_imul hx hb dX4_movedStroke_33 ?_
    refine lv_goto (tgt := 44) hx hb dX4_movedStroke_34 (by decide) ?_
    refine lv_istore (lv' := [(4, .int (2 * (p0 / 2))), (3, .int ((2 * (p0 - p0 / 2 * 2)) + 1)), (2, .int (p0 - 6)), (0, .int p0), (1, .int 3)]) hx hb dX4_movedStroke_44 hl (by decide) rfl (fun ls hl => ?_)
    refine lv_iload_n hx hb dX4_movedStroke_46 rfl (lv_at hl 4 rfl) ?_
    refine lv_iconst (v := 4) hx hb dX4_movedStroke_47 (by decide) ?_
    refine lv_icmp_lt (tgt := 55) hx hb dX4_movedStroke_48 (by decide) (fun _ => ?_) (fun c9 => absurd (by decide) c9)
    refine lv_iconst (v := 0) hx hb dX4_movedStroke_55 (by decide) ?_
    refine lv_istore (lv' := [(5, .int 0), (4, .int (2 * (p0 / 2))), (3, .int ((2 * (p0 - p0 / 2 * 2)) + 1)), (2, .int (p0 - 6)), (0, .int p0), (1, .int 3)]) hx hb dX4_movedStroke_56 hl (by decide) rfl (fun ls hl => ?_)
    refine lv_iload hx hb dX4_movedStroke_58 (lv_at hl 0 rfl) ?_
    refine lv_iload_n hx hb dX4_movedStroke_60 rfl (lv_at hl 5 rfl) ?_
    refine lv_iconst (v := 4) hx hb dX4_movedStroke_61 (by decide) ?_
    refine lv_irem hx hb dX4_movedStroke_62 (by decide) ?_
    refine lv_topc 3 (by decide) ?_
    refine lv_icmp_ge (tgt := 84) hx hb dX4_movedStroke_63 (by decide) (fun c9 => absurd c9 (by decide)) (fun _ => ?_)
    refine lv_iload_n hx hb dX4_movedStroke_66 rfl (lv_at hl 2 rfl) ?_
    refine lv_istore (lv' := [(6, .int ((2 * (p0 - p0 / 2 * 2)) + 1)), (5, .int 0), (4, .int (2 * (p0 / 2))), (3, .int ((2 * (p0 - p0 / 2 * 2)) + 1)), (2, .int (p0 - 6)), (0, .int p0), (1, .int 3)]) hx hb dX4_movedStroke_67 hl (by decide) rfl (fun ls hl => ?_)
    refine lv_iconst (v := 4) hx hb dX4_movedStroke_69 (by decide) ?_
    refine lv_iload hx hb dX4_movedStroke_70 (lv_at hl 2 rfl) ?_
    refine lv_isub hx hb dX4_movedStroke_72 ?_
    refine lv_istore_n (lv' := [(3, .int (4 - (2 * (p0 / 2)))), (6, .int ((2 * (p0 - p0 / 2 * 2)) + 1)), (5, .int 0), (4, .int (2 * (p0 / 2))), (2, .int (p0 - 6)), (0, .int p0), (1, .int 3)]) hx hb dX4_movedStroke_73 rfl hl (by decide) rfl (fun ls hl => ?_)
    refine lv_iload hx hb dX4_movedStroke_74 (lv_at hl 1 rfl) ?_
    refine lv_istore (lv' := [(4, .int ((2 * (p0 - p0 / 2 * 2)) + 1)), (3, .int (4 - (2 * (p0 / 2)))), (6, .int ((2 * (p0 - p0 / 2 * 2)) + 1)), (5, .int 0), (2, .int (p0 - 6)), (0, .int p0), (1, .int 3)]) hx hb dX4_movedStroke_76 hl (by decide) rfl (fun ls hl => ?_)
    refine lv_iinc (v := 1) (lv' := [(5, .int 1), (4, .int ((2 * (p0 - p0 / 2 * 2)) + 1)), (3, .int (4 - (2 * (p0 / 2)))), (6, .int ((2 * (p0 - p0 / 2 * 2)) + 1)), (2, .int (p0 - 6)), (0, .int p0), (1, .int 3)]) hx hb dX4_movedStroke_78 hl (k := 3) rfl (by decide) (by decide) rfl (fun ls hl => ?_)
    refine lv_goto (tgt := 58) hx hb dX4_movedStroke_81 (by decide) ?_
    refine lv_iload hx hb dX4_movedStroke_58 (lv_at hl 0 rfl) ?_
    refine lv_iload_n hx hb dX4_movedStroke_60 rfl (lv_at hl 6 rfl) ?_
    refine lv_iconst (v := 4) hx hb dX4_movedStroke_61 (by decide) ?_
    refine lv_irem hx hb dX4_movedStroke_62 (by decide) ?_
    refine lv_topc 3 (by decide) ?_
    refine lv_icmp_ge (tgt := 84) hx hb dX4_movedStroke_63 (by decide) (fun c9 => absurd c9 (by decide)) (fun _ => ?_)
    refine lv_iload_n hx hb dX4_movedStroke_66 rfl (lv_at hl 2 rfl) ?_
    refine lv_istore (lv' := [(6, .int (4 - (2 * (p0 / 2)))), (5, .int 1), (4, .int ((2 * (p0 - p0 / 2 * 2)) + 1)), (3, .int (4 - (2 * (p0 / 2)))), (2, .int (p0 - 6)), (0, .int p0), (1, .int 3)]) hx hb dX4_movedStroke_67 hl (by decide) rfl (fun ls hl => ?_)
    refine lv_iconst (v := 4) hx hb dX4_movedStroke_69 (by decide) ?_
    refine lv_iload hx hb dX4_movedStroke_70 (lv_at hl 2 rfl) ?_
    refine lv_isub hx hb dX4_movedStroke_72 ?_
    refine lv_istore_n (lv' := [(3, .int (4 - ((2 * (p0 - p0 / 2 * 2)) + 1))), (6, .int (4 - (2 * (p0 / 2)))), (5, .int 1), (4, .int ((2 * (p0 - p0 / 2 * 2)) + 1)), (2, .int (p0 - 6)), (0, .int p0), (1, .int 3)]) hx hb dX4_movedStroke_73 rfl hl (by decide) rfl (fun ls hl => ?_)
    refine lv_iload hx hb dX4_movedStroke_74 (lv_at hl 1 rfl) ?_
    refine lv_istore (lv' := [(4, .int (4 - (2 * (p0 / 2)))), (3, .int (4 - ((2 * (p0 - p0 / 2 * 2)) + 1))), (6, .int (4 - (2 * (p0 / 2)))), (5, .int 1), (2, .int (p0 - 6)), (0, .int p0), (1, .int 3)]) hx hb dX4_movedStroke_76 hl (by decide) rfl (fun ls hl => ?_)
    refine lv_iinc (v := 2) (lv' := [(5, .int 2), (4, .int (4 - (2 * (p0 / 2)))), (3, .int (4 - ((2 * (p0 - p0 / 2 * 2)) + 1))), (6, .int (4 - (2 * (p0 / 2)))), (2, .int (p0 - 6)), (0, .int p0), (1, .int 3)]) hx hb dX4_movedStroke_78 hl (k := 3) rfl (by decide) (by decide) rfl (fun ls hl => ?_)
    refine lv_goto (tgt := 58) hx hb dX4_movedStroke_81 (by decide) ?_
    refine lv_iload hx hb dX4_movedStroke_58 (lv_at hl 0 rfl) ?_
    refine lv_iload_n hx hb dX4_movedStroke_60 rfl (lv_at hl 6 rfl) ?_
    refine lv_iconst (v := 4) hx hb dX4_movedStroke_61 (by decide) ?_
    refine lv_irem hx hb dX4_movedStroke_62 (by decide) ?_
    refine lv_topc 3 (by decide) ?_
    refine lv_icmp_ge (tgt := 84) hx hb dX4_movedStroke_63 (by decide) (fun c9 => absurd c9 (by decide)) (fun _ => ?_)
    refine lv_iload_n hx hb dX4_movedStroke_66 rfl (lv_at hl 2 rfl) ?_
    refine lv_istore (lv' := [(6, .int (4 - ((2 * (p0 - p0 / 2 * 2)) + 1))), (5, .int 2), (4, .int (4 - (2 * (p0 / 2)))), (3, .int (4 - ((2 * (p0 - p0 / 2 * 2)) + 1))), (2, .int (p0 - 6)), (0, .int p0), (1, .int 3)]) hx hb dX4_movedStroke_67 hl (by decide) rfl (fun ls hl => ?_)
    refine lv_iconst (v := 4) hx hb dX4_movedStroke_69 (by decide) ?_
    refine lv_iload hx hb dX4_movedStroke_70 (lv_at hl 2 rfl) ?_
    refine lv_isub hx hb dX4_movedStroke_72 ?_
    refine lv_istore_n (lv' := [(3, .int (4 - (4 - (2 * (p0 / 2))))), (6, .int (4 - ((2 * (p0 - p0 / 2 * 2)) + 1))), (5, .int 2), (4, .int (4 - (2 * (p0 / 2)))), (2, .int (p0 - 6)), (0, .int p0), (1, .int 3)]) hx hb dX4_movedStroke_73 rfl hl (by decide) rfl (fun ls hl => ?_)
    refine lv_iload hx hb dX4_movedStroke_74 (lv_at hl 1 rfl) ?_
    refine lv_istore (lv' := [(4, .int (4 - ((2 * (p0 - p0 / 2 * 2)) + 1))), (3, .int (4 - (4 - (2 * (p0 / 2))))), (6, .int (4 - ((2 * (p0 - p0 / 2 * 2)) + 1))), (5, .int 2), (2, .int (p0 - 6)), (0, .int p0), (1, .int 3)]) hx hb dX4_movedStroke_76 hl (by decide) rfl (fun ls hl => ?_)
    refine lv_iinc (v := 3) (lv' := [(5, .int 3), (4, .int (4 - ((2 * (p0 - p0 / 2 * 2)) + 1))), (3, .int (4 - (4 - (2 * (p0 / 2))))), (6, .int (4 - ((2 * (p0 - p0 / 2 * 2)) + 1))), (2, .int (p0 - 6)), (0, .int p0), (1, .int 3)]) hx hb dX4_movedStroke_78 hl (k := 3) rfl (by decide) (by decide) rfl (fun ls hl => ?_)
    refine lv_goto (tgt := 58) hx hb dX4_movedStroke_81 (by decide) ?_
    refine lv_iload hx hb dX4_movedStroke_58 (lv_at hl 0 rfl) ?_
    refine lv_iload_n hx hb dX4_movedStroke_60 rfl (lv_at hl 6 rfl) ?_
    refine lv_iconst (v := 4) hx hb dX4_movedStroke_61 (by decide) ?_
    refine lv_irem hx hb dX4_movedStroke_62 (by decide) ?_
    refine lv_topc 3 (by decide) ?_
    refine lv_icmp_ge (tgt := 84) hx hb dX4_movedStroke_63 (by decide) (fun _ => ?_) (fun c9 => absurd (by decide) c9)
    refine lv_iload hx hb dX4_movedStroke_84 (lv_at hl 1 rfl) ?_
    refine lv_iconst (v := 2) hx hb dX4_movedStroke_86 (by decide) ?_
    refine lv_irem hx hb dX4_movedStroke_87 (by decide) ?_
    refine lv_if_ne (tgt := 100) hx hb dX4_movedStroke_88 (by decide) (fun c_3 => ?_) (fun c_3 => ?_)
    · skip
      refine lv_bipush (v := 6) hx hb dX4_movedStroke_100 (by decide) ?_
      refine lv_iconst (v := 3) hx hb dX4_movedStroke_102 (by decide) ?_
      refine lv_iload hx hb dX4_movedStroke_103 (lv_at hl 1 rfl) ?_
      refine lv_iconst (v := 2) hx hb dX4_movedStroke_105 (by decide) ?_
      refine lv_idiv hx hb dX4_movedStroke_106 (by decide) ?_
      refine lv_imul hx hb dX4_movedStroke_107 ?_
      refine lv_iadd hx hb dX4_movedStroke_108 ?_
      refine lv_iload_n hx hb dX4_movedStroke_109 rfl (lv_at hl 2 rfl) ?_
      refine lv_iconst (v := 2) hx hb dX4_movedStroke_110 (by decide) ?_
      refine lv_idiv hx hb dX4_movedStroke_111 (by decide) ?_
      refine lv_iadd hx hb dX4_movedStroke_112 ?_
      exact ze_i hx hb hr hlocks dX4_movedStroke_113 trivial
    · skip
      refine lv_iload hx hb dX4_movedStroke_91 (lv_at hl 1 rfl) ?_
      refine lv_iload_n hx hb dX4_movedStroke_93 rfl (lv_at hl 2 rfl) ?_
      refine lv_iconst (v := 2) hx hb dX4_movedStroke_94 (by decide) ?_
      refine lv_idiv hx hb dX4_movedStroke_95 (by decide) ?_
      refine lv_iadd hx hb dX4_movedStroke_96 ?_
      refine lv_goto (tgt := 113) hx hb dX4_movedStroke_97 (by decide) ?_
      exact ze_i hx hb hr hlocks dX4_movedStroke_113 trivial
set_option maxHeartbeats 4000000 in
set_option maxRecDepth 100000 in
theorem c_X4_movedStroke_16 (l : Launch) (D : va_G) (k : Nat → ClassId) (p0 : Int32) : MetR l D k yX4_movedStroke cX4_movedStroke 7 (some .int) 0 [.int p0, .int 4] [] noX (vp_Si (fun r => True)) := by
  refine metR_of 2 ck_X4_movedStroke (Nat.le_of_ble_eq_true rfl) (fun p e s m args below meth c hx hb hml hr hlocks hown hts hK hX hP hin ls hl => ?_)
  have hP : va_P D vwCl [] s.heap := hP
  have hown : s.vm.findClass "HideReader$Lattice" = some m.cls := hown
  have hl : lv_has ls 7 [(0, .int p0), (1, .int 4)] := hl
  refine lv_iload_n hx hb dX4_movedStroke_0 rfl (lv_at hl 0 rfl) ?_
  refine lv_bipush (v := 6) hx hb dX4_movedStroke_1 (by decide) ?_
  refine lv_isub hx hb dX4_movedStroke_3 ?_
  refine lv_istore_n (lv' := [(2, .int (p0 - 6)), (0, .int p0), (1, .int 4)]) hx hb dX4_movedStroke_4 rfl hl (by decide) rfl (fun ls hl => ?_)
  refine lv_iload_n hx hb dX4_movedStroke_5 rfl (lv_at hl 0 rfl) ?_
  refine lv_if_ge (tgt := 19) hx hb dX4_movedStroke_6 (by decide) (fun c_1 => ?_) (fun c_1 => ?_)
  · skip
    refine lv_iconst (v := 2) hx hb dX4_movedStroke_19 (by decide) ?_
    refine lv_iload_n hx hb dX4_movedStroke_20 rfl (lv_at hl 0 rfl) ?_
    refine lv_iconst (v := 3) hx hb dX4_movedStroke_21 (by decide) ?_
    refine lv_irem hx hb dX4_movedStroke_22 (by decide) ?_
    refine lv_imul hx hb dX4_movedStroke_23 ?_
    refine lv_istore_n (lv' := [(3, .int (2 * ((p0 - 6) - (p0 - 6) / 3 * 3))), (2, .int (p0 - 6)), (0, .int p0), (1, .int 4)]) hx hb dX4_movedStroke_24 rfl hl (by decide) rfl (fun ls hl => ?_)
    refine lv_iload_n hx hb dX4_movedStroke_25 rfl (lv_at hl 1 rfl) ?_
    refine lv_if_ge (tgt := 37) hx hb dX4_movedStroke_26 (by decide) (fun _ => ?_) (fun c9 => absurd c_1 c9)
    refine lv_iconst (v := 2) hx hb dX4_movedStroke_37 (by decide) ?_
    refine lv_iload_n hx hb dX4_movedStroke_38 rfl (lv_at hl 1 rfl) ?_
    refine lv_iconst (v := 3) hx hb dX4_movedStroke_39 (by decide) ?_
    refine lv_idiv hx hb dX4_movedStroke_40 (by decide) ?_
    refine lv_imul hx hb dX4_movedStroke_41 ?_
    refine lv_iconst (v := 1) hx hb dX4_movedStroke_42 (by decide) ?_
    refine lv_iadd hx hb dX4_movedStroke_43 ?_
    refine lv_istore (lv' := [(4, .int ((2 * ((p0 - 6) / 3)) + 1)), (3, .int (2 * ((p0 - 6) - (p0 - 6) / 3 * 3))), (2, .int (p0 - 6)), (0, .int p0), (1, .int 4)]) hx hb dX4_movedStroke_44 hl (by decide) rfl (fun ls hl => ?_)
    refine lv_iload_n hx hb dX4_movedStroke_46 rfl (lv_at hl 4 rfl) ?_
    refine lv_iconst (v := 4) hx hb dX4_movedStroke_47 (by decide) ?_
    refine lv_icmp_lt (tgt := 55) hx hb dX4_movedStroke_48 (by decide) (fun c9 => absurd c9 (by decide)) (fun _ => ?_)
    refine lv_iconst (v := 4) hx hb dX4_movedStroke_51 (by decide) ?_
    refine lv_iload_n hx hb dX4_movedStroke_52 rfl (lv_at hl 1 rfl) ?_
    refine lv_isub hx hb dX4_movedStroke_53 ?_
    refine lv_istore_n (lv' := [(3, .int (4 - (2 * ((p0 - 6) - (p0 - 6) / 3 * 3)))), (4, .int ((2 * ((p0 - 6) / 3)) + 1)), (2, .int (p0 - 6)), (0, .int p0), (1, .int 4)]) hx hb dX4_movedStroke_54 rfl hl (by decide) rfl (fun ls hl => ?_)
    refine lv_iconst (v := 0) hx hb dX4_movedStroke_55 (by decide) ?_
    refine lv_istore (lv' := [(5, .int 0), (3, .int (4 - (2 * ((p0 - 6) - (p0 - 6) / 3 * 3)))), (4, .int ((2 * ((p0 - 6) / 3)) + 1)), (2, .int (p0 - 6)), (0, .int p0), (1, .int 4)]) hx hb dX4_movedStroke_56 hl (by decide) rfl (fun ls hl => ?_)
    refine lv_iload hx hb dX4_movedStroke_58 (lv_at hl 0 rfl) ?_
    refine lv_iload_n hx hb dX4_movedStroke_60 rfl (lv_at hl 5 rfl) ?_
    refine lv_iconst (v := 4) hx hb dX4_movedStroke_61 (by decide) ?_
    refine lv_irem hx hb dX4_movedStroke_62 (by decide) ?_
    refine lv_topc 0 (by decide) ?_
    refine lv_icmp_ge (tgt := 84) hx hb dX4_movedStroke_63 (by decide) (fun _ => ?_) (fun c9 => absurd (by decide) c9)
    refine lv_iload hx hb dX4_movedStroke_84 (lv_at hl 2 rfl) ?_
    refine lv_iconst (v := 2) hx hb dX4_movedStroke_86 (by decide) ?_
    refine lv_irem hx hb dX4_movedStroke_87 (by decide) ?_
    refine lv_if_ne (tgt := 100) hx hb dX4_movedStroke_88 (by decide) (fun c_2 => ?_) (fun c_2 => ?_)
    · skip
      refine lv_bipush (v := 6) hx hb dX4_movedStroke_100 (by decide) ?_
      refine lv_iconst (v := 3) hx hb dX4_movedStroke_102 (by decide) ?_
      refine lv_iload hx hb dX4_movedStroke_103 (lv_at hl 2 rfl) ?_
      refine lv_iconst (v := 2) hx hb dX4_movedStroke_105 (by decide) ?_
      refine lv_idiv hx hb dX4_movedStroke_106 (by decide) ?_
      refine lv_imul hx hb dX4_movedStroke_107 ?_
      refine lv_iadd hx hb dX4_movedStroke_108 ?_
      refine lv_iload_n hx hb dX4_movedStroke_109 rfl (lv_at hl 1 rfl) ?_
      refine lv_iconst (v := 2) hx hb dX4_movedStroke_110 (by decide) ?_
      refine lv_idiv hx hb dX4_movedStroke_111 (by decide) ?_
      refine lv_iadd hx hb dX4_movedStroke_112 ?_
      exact ze_i hx hb hr hlocks dX4_movedStroke_113 trivial
    · skip
      refine lv_iload hx hb dX4_movedStroke_91 (lv_at hl 2 rfl) ?_
      refine lv_iload_n hx hb dX4_movedStroke_93 rfl (lv_at hl 1 rfl) ?_
      refine lv_iconst (v := 2) hx hb dX4_movedStroke_94 (by decide) ?_
      refine lv_idiv hx hb dX4_movedStroke_95 (by decide) ?_
      refine lv_iadd hx hb dX4_movedStroke_96 ?_
      refine lv_goto (tgt := 113) hx hb dX4_movedStroke_97 (by decide) ?_
      exact ze_i hx hb hr hlocks dX4_movedStroke_113 trivial
  · skip
    refine lv_iconst (v := 2) hx hb dX4_movedStroke_9 (by decide) ?_
    refine lv_iload_n hx hb dX4_movedStroke_10 rfl (lv_at hl 1 rfl) ?_
    refine lv_iconst (v := 2) hx hb dX4_movedStroke_11 (by decide) ?_
    refine lv_irem hx hb dX4_movedStroke_12 (by decide) ?_
    refine lv_imul hx hb dX4_movedStroke_13 ?_
    refine lv_iconst (v := 1) hx hb dX4_movedStroke_14 (by decide) ?_
    refine lv_iadd hx hb dX4_movedStroke_15 ?_
    refine lv_goto (tgt := 24) hx hb dX4_movedStroke_16 (by decide) ?_
    refine lv_istore_n (lv' := [(3, .int ((2 * (p0 - p0 / 2 * 2)) + 1)), (2, .int (p0 - 6)), (0, .int p0), (1, .int 4)]) hx hb dX4_movedStroke_24 rfl hl (by decide) rfl (fun ls hl => ?_)
    refine lv_iload_n hx hb dX4_movedStroke_25 rfl (lv_at hl 1 rfl) ?_
    refine lv_if_ge (tgt := 37) hx hb dX4_movedStroke_26 (by decide) (fun c9 => absurd c9 c_1) (fun _ => ?_)
    refine lv_iconst (v := 2) hx hb dX4_movedStroke_29 (by decide) ?_
    refine lv_iload_n hx hb dX4_movedStroke_30 rfl (lv_at hl 2 rfl) ?_
    refine lv_iconst (v := 2) hx hb dX4_movedStroke_31 (by decide) ?_
    refine lv_idiv hx hb dX4_movedStroke_32 (by decide) ?_
    refine lv_imul hx hb dX4_movedStroke_33 ?_
    refine lv_goto (tgt := 44) hx hb dX4_movedStroke_34 (by decide) ?_
    refine lv_istore (lv' := [(4, .int (2 * (p0 / 2))), (3, .int ((2 * (p0 - p0 / 2 * 2)) + 1)), (2, .int (p0 - 6)), (0, .int p0), (1, .int 4)]) hx hb dX4_movedStroke_44 hl (by decide) rfl (fun ls hl => ?_)
    refine lv_iload_n hx hb dX4_movedStroke_46 rfl (lv_at hl 4 rfl) ?_
    refine lv_iconst (v := 4) hx hb dX4_movedStroke_47 (by decide) ?_
    refine lv_icmp_lt (tgt := 55) hx hb dX4_movedStroke_48 (by decide) (fun c9 => absurd c9 (by decide)) (fun _ => ?_)
    refine lv_iconst (v := 4) hx hb dX4_movedStroke_51 (by decide) ?_
    refine lv_iload_n hx hb dX4_movedStroke_52 rfl (lv_at hl 1 rfl) ?_
    refine lv_isub hx hb dX4_movedStroke_53 ?_
    refine lv_istore_n (lv' := [(3, .int (4 - ((2 * (p0 - p0 / 2 * 2)) + 1))), (4, .int (2 * (p0 / 2))), (2, .int (p0 - 6)), (0, .int p0), (1, .int 4)]) hx hb dX4_movedStroke_54 rfl hl (by decide) rfl (fun ls hl => ?_)
    refine lv_iconst (v := 0) hx hb dX4_movedStroke_55 (by decide) ?_
    refine lv_istore (lv' := [(5, .int 0), (3, .int (4 - ((2 * (p0 - p0 / 2 * 2)) + 1))), (4, .int (2 * (p0 / 2))), (2, .int (p0 - 6)), (0, .int p0), (1, .int 4)]) hx hb dX4_movedStroke_56 hl (by decide) rfl (fun ls hl => ?_)
    refine lv_iload hx hb dX4_movedStroke_58 (lv_at hl 0 rfl) ?_
    refine lv_iload_n hx hb dX4_movedStroke_60 rfl (lv_at hl 5 rfl) ?_
    refine lv_iconst (v := 4) hx hb dX4_movedStroke_61 (by decide) ?_
    refine lv_irem hx hb dX4_movedStroke_62 (by decide) ?_
    refine lv_topc 0 (by decide) ?_
    refine lv_icmp_ge (tgt := 84) hx hb dX4_movedStroke_63 (by decide) (fun _ => ?_) (fun c9 => absurd (by decide) c9)
    refine lv_iload hx hb dX4_movedStroke_84 (lv_at hl 2 rfl) ?_
    refine lv_iconst (v := 2) hx hb dX4_movedStroke_86 (by decide) ?_
    refine lv_irem hx hb dX4_movedStroke_87 (by decide) ?_
    refine lv_if_ne (tgt := 100) hx hb dX4_movedStroke_88 (by decide) (fun c_3 => ?_) (fun c_3 => ?_)
    · skip
      refine lv_bipush (v := 6) hx hb dX4_movedStroke_100 (by decide) ?_
      refine lv_iconst (v := 3) hx hb dX4_movedStroke_102 (by decide) ?_
      refine lv_iload hx hb dX4_movedStroke_103 (lv_at hl 2 rfl) ?_
      refine lv_iconst (v := 2) hx hb dX4_movedStroke_105 (by decide) ?_
      refine lv_idiv hx hb dX4_movedStroke_106 (by decide) ?_
      refine lv_imul hx hb dX4_movedStroke_107 ?_
      refine lv_iadd hx hb dX4_movedStroke_108 ?_
      refine lv_iload_n hx hb dX4_movedStroke_109 rfl (lv_at hl 1 rfl) ?_
      refine lv_iconst (v := 2) hx hb dX4_movedStroke_110 (by decide) ?_
      refine lv_idiv hx hb dX4_movedStroke_111 (by decide) ?_
      refine lv_iadd hx hb dX4_movedStroke_112 ?_
      exact ze_i hx hb hr hlocks dX4_movedStroke_113 trivial
    · skip
      refine lv_iload hx hb dX4_movedStroke_91 (lv_at hl 2 rfl) ?_
      refine lv_iload_n hx hb dX4_movedStroke_93 rfl (lv_at hl 1 rfl) ?_
      refine lv_iconst (v := 2) hx hb dX4_movedStroke_94 (by decide) ?_
      refine lv_idiv hx hb dX4_movedStroke_95 (by decide) ?_
      refine lv_iadd hx hb dX4_movedStroke_96 ?_
      refine lv_goto (tgt := 113) hx hb dX4_movedStroke_97 (by decide) ?_
      exact ze_i hx hb hr hlocks dX4_movedStroke_113 trivial
set_option maxHeartbeats 4000000 in
set_option maxRecDepth 100000 in
theorem c_X4_movedStroke_17 (l : Launch) (D : va_G) (k : Nat → ClassId) (p0 : Int32) : MetR l D k yX4_movedStroke cX4_movedStroke 7 (some .int) 0 [.int p0, .int 5] [] noX (vp_Si (fun r => True)) := by
  refine metR_of 2 ck_X4_movedStroke (Nat.le_of_ble_eq_true rfl) (fun p e s m args below meth c hx hb hml hr hlocks hown hts hK hX hP hin ls hl => ?_)
  have hP : va_P D vwCl [] s.heap := hP
  have hown : s.vm.findClass "HideReader$Lattice" = some m.cls := hown
  have hl : lv_has ls 7 [(0, .int p0), (1, .int 5)] := hl
  refine lv_iload_n hx hb dX4_movedStroke_0 rfl (lv_at hl 0 rfl) ?_
  refine lv_bipush (v := 6) hx hb dX4_movedStroke_1 (by decide) ?_
  refine lv_isub hx hb dX4_movedStroke_3 ?_
  refine lv_istore_n (lv' := [(2, .int (p0 - 6)), (0, .int p0), (1, .int 5)]) hx hb dX4_movedStroke_4 rfl hl (by decide) rfl (fun ls hl => ?_)
  refine lv_iload_n hx hb dX4_movedStroke_5 rfl (lv_at hl 0 rfl) ?_
  refine lv_if_ge (tgt := 19) hx hb dX4_movedStroke_6 (by decide) (fun c_1 => ?_) (fun c_1 => ?_)
  · skip
    refine lv_iconst (v := 2) hx hb dX4_movedStroke_19 (by decide) ?_
    refine lv_iload_n hx hb dX4_movedStroke_20 rfl (lv_at hl 0 rfl) ?_
    refine lv_iconst (v := 3) hx hb dX4_movedStroke_21 (by decide) ?_
    refine lv_irem hx hb dX4_movedStroke_22 (by decide) ?_
    refine lv_imul hx hb dX4_movedStroke_23 ?_
    refine lv_istore_n (lv' := [(3, .int (2 * ((p0 - 6) - (p0 - 6) / 3 * 3))), (2, .int (p0 - 6)), (0, .int p0), (1, .int 5)]) hx hb dX4_movedStroke_24 rfl hl (by decide) rfl (fun ls hl => ?_)
    refine lv_iload_n hx hb dX4_movedStroke_25 rfl (lv_at hl 1 rfl) ?_
    refine lv_if_ge (tgt := 37) hx hb dX4_movedStroke_26 (by decide) (fun _ => ?_) (fun c9 => absurd c_1 c9)
    refine lv_iconst (v := 2) hx hb dX4_movedStroke_37 (by decide) ?_
    refine lv_iload_n hx hb dX4_movedStroke_38 rfl (lv_at hl 1 rfl) ?_
    refine lv_iconst (v := 3) hx hb dX4_movedStroke_39 (by decide) ?_
    refine lv_idiv hx hb dX4_movedStroke_40 (by decide) ?_
    refine lv_imul hx hb dX4_movedStroke_41 ?_
    refine lv_iconst (v := 1) hx hb dX4_movedStroke_42 (by decide) ?_
    refine lv_iadd hx hb dX4_movedStroke_43 ?_
    refine lv_istore (lv' := [(4, .int ((2 * ((p0 - 6) / 3)) + 1)), (3, .int (2 * ((p0 - 6) - (p0 - 6) / 3 * 3))), (2, .int (p0 - 6)), (0, .int p0), (1, .int 5)]) hx hb dX4_movedStroke_44 hl (by decide) rfl (fun ls hl => ?_)
    refine lv_iload_n hx hb dX4_movedStroke_46 rfl (lv_at hl 4 rfl) ?_
    refine lv_iconst (v := 4) hx hb dX4_movedStroke_47 (by decide) ?_
    refine lv_icmp_lt (tgt := 55) hx hb dX4_movedStroke_48 (by decide) (fun c9 => absurd c9 (by decide)) (fun _ => ?_)
    refine lv_iconst (v := 4) hx hb dX4_movedStroke_51 (by decide) ?_
    refine lv_iload_n hx hb dX4_movedStroke_52 rfl (lv_at hl 1 rfl) ?_
    refine lv_isub hx hb dX4_movedStroke_53 ?_
    refine lv_istore_n (lv' := [(3, .int (4 - (2 * ((p0 - 6) - (p0 - 6) / 3 * 3)))), (4, .int ((2 * ((p0 - 6) / 3)) + 1)), (2, .int (p0 - 6)), (0, .int p0), (1, .int 5)]) hx hb dX4_movedStroke_54 rfl hl (by decide) rfl (fun ls hl => ?_)
    refine lv_iconst (v := 0) hx hb dX4_movedStroke_55 (by decide) ?_
    refine lv_istore (lv' := [(5, .int 0), (3, .int (4 - (2 * ((p0 - 6) - (p0 - 6) / 3 * 3)))), (4, .int ((2 * ((p0 - 6) / 3)) + 1)), (2, .int (p0 - 6)), (0, .int p0), (1, .int 5)]) hx hb dX4_movedStroke_56 hl (by decide) rfl (fun ls hl => ?_)
    refine lv_iload hx hb dX4_movedStroke_58 (lv_at hl 0 rfl) ?_
    refine lv_iload_n hx hb dX4_movedStroke_60 rfl (lv_at hl 5 rfl) ?_
    refine lv_iconst (v := 4) hx hb dX4_movedStroke_61 (by decide) ?_
    refine lv_irem hx hb dX4_movedStroke_62 (by decide) ?_
    refine lv_topc 1 (by decide) ?_
    refine lv_icmp_ge (tgt := 84) hx hb dX4_movedStroke_63 (by decide) (fun c9 => absurd c9 (by decide)) (fun _ => ?_)
    refine lv_iload_n hx hb dX4_movedStroke_66 rfl (lv_at hl 1 rfl) ?_
    refine lv_istore (lv' := [(6, .int (4 - (2 * ((p0 - 6) - (p0 - 6) / 3 * 3)))), (5, .int 0), (3, .int (4 - (2 * ((p0 - 6) - (p0 - 6) / 3 * 3)))), (4, .int ((2 * ((p0 - 6) / 3)) + 1)), (2, .int (p0 - 6)), (0, .int p0), (1, .int 5)]) hx hb dX4_movedStroke_67 hl (by decide) rfl (fun ls hl => ?_)
    refine lv_iconst (v := 4) hx hb dX4_movedStroke_69 (by decide) ?_
    refine lv_iload hx hb dX4_movedStroke_70 (lv_at hl 3 rfl) ?_
    refine lv_isub hx hb dX4_movedStroke_72 ?_
    refine lv_istore_n (lv' := [(3, .int (4 - ((2 * ((p0 - 6) / 3)) + 1))), (6, .int (4 - (2 * ((p0 - 6) - (p0 - 6) / 3 * 3)))), (5, .int 0), (4, .int ((2 * ((p0 - 6) / 3)) + 1)), (2, .int (p0 - 6)), (0, .int p0), (1, .int 5)]) hx hb dX4_movedStroke_73 rfl hl (by decide) rfl (fun ls hl => ?_)
    refine lv_iload hx hb dX4_movedStroke_74 (lv_at hl 1 rfl) ?_
    refine lv_istore (lv' := [(4, .int (4 - (2 * ((p0 - 6) - (p0 - 6) / 3 * 3)))), (3, .int (4 - ((2 * ((p0 - 6) / 3)) + 1))), (6, .int (4 - (2 * ((p0 - 6) - (p0 - 6) / 3 * 3)))), (5, .int 0), (2, .int (p0 - 6)), (0, .int p0), (1, .int 5)]) hx hb dX4_movedStroke_76 hl (by decide) rfl (fun ls hl => ?_)
    refine lv_iinc (v := 1) (lv' := [(5, .int 1), (4, .int (4 - (2 * ((p0 - 6) - (p0 - 6) / 3 * 3)))), (3, .int (4 - ((2 * ((p0 - 6) / 3)) + 1))), (6, .int (4 - (2 * ((p0 - 6) - (p0 - 6) / 3 * 3)))), (2, .int (p0 - 6)), (0, .int p0), (1, .int 5)]) hx hb dX4_movedStroke_78 hl (k := 3) rfl (by decide) (by decide) rfl (fun ls hl => ?_)
    refine lv_goto (tgt := 58) hx hb dX4_movedStroke_81 (by decide) ?_
    refine lv_iload hx hb dX4_movedStroke_58 (lv_at hl 0 rfl) ?_
    refine lv_iload_n hx hb dX4_movedStroke_60 rfl (lv_at hl 6 rfl) ?_
    refine lv_iconst (v := 4) hx hb dX4_movedStroke_61 (by decide) ?_
    refine lv_irem hx hb dX4_movedStroke_62 (by decide) ?_
    refine lv_topc 1 (by decide) ?_
    refine lv_icmp_ge (tgt := 84) hx hb dX4_movedStroke_63 (by decide) (fun _ => ?_) (fun c9 => absurd (by decide) c9)
    refine lv_iload hx hb dX4_movedStroke_84 (lv_at hl 1 rfl) ?_
    refine lv_iconst (v := 2) hx hb dX4_movedStroke_86 (by decide) ?_
    refine lv_irem hx hb dX4_movedStroke_87 (by decide) ?_
    refine lv_if_ne (tgt := 100) hx hb dX4_movedStroke_88 (by decide) (fun c_2 => ?_) (fun c_2 => ?_)
    · skip
      refine lv_bipush (v := 6) hx hb dX4_movedStroke_100 (by decide) ?_
      refine lv_iconst (v := 3) hx hb dX4_movedStroke_102 (by decide) ?_
      refine lv_iload hx hb dX4_movedStroke_103 (lv_at hl 1 rfl) ?_
      refine lv_iconst (v := 2) hx hb dX4_movedStroke_105 (by decide) ?_
      refine lv_idiv hx hb dX4_movedStroke_106 (by decide) ?_
      refine lv_imul hx hb dX4_movedStroke_107 ?_
      refine lv_iadd hx hb dX4_movedStroke_108 ?_
      refine lv_iload_n hx hb dX4_movedStroke_109 rfl (lv_at hl 2 rfl) ?_
      refine lv_iconst (v := 2) hx hb dX4_movedStroke_110 (by decide) ?_
      refine lv_idiv hx hb dX4_movedStroke_111 (by decide) ?_
      refine lv_iadd hx hb dX4_movedStroke_112 ?_
      exact ze_i hx hb hr hlocks dX4_movedStroke_113 trivial
    · skip
      refine lv_iload hx hb dX4_movedStroke_91 (lv_at hl 1 rfl) ?_
      refine lv_iload_n hx hb dX4_movedStroke_93 rfl (lv_at hl 2 rfl) ?_
      refine lv_iconst (v := 2) hx hb dX4_movedStroke_94 (by decide) ?_
      refine lv_idiv hx hb dX4_movedStroke_95 (by decide) ?_
      refine lv_iadd hx hb dX4_movedStroke_96 ?_
      refine lv_goto (tgt := 113) hx hb dX4_movedStroke_97 (by decide) ?_
      exact ze_i hx hb hr hlocks dX4_movedStroke_113 trivial
  · skip
    refine lv_iconst (v := 2) hx hb dX4_movedStroke_9 (by decide) ?_
    refine lv_iload_n hx hb dX4_movedStroke_10 rfl (lv_at hl 1 rfl) ?_
    refine lv_iconst (v := 2) hx hb dX4_movedStroke_11 (by decide) ?_
    refine lv_irem hx hb dX4_movedStroke_12 (by decide) ?_
    refine lv_imul hx hb dX4_movedStroke_13 ?_
    refine lv_iconst (v := 1) hx hb dX4_movedStroke_14 (by decide) ?_
    refine lv_iadd hx hb dX4_movedStroke_15 ?_
    refine lv_goto (tgt := 24) hx hb dX4_movedStroke_16 (by decide) ?_
    refine lv_istore_n (lv' := [(3, .int ((2 * (p0 - p0 / 2 * 2)) + 1)), (2, .int (p0 - 6)), (0, .int p0), (1, .int 5)]) hx hb dX4_movedStroke_24 rfl hl (by decide) rfl (fun ls hl => ?_)
    refine lv_iload_n hx hb dX4_movedStroke_25 rfl (lv_at hl 1 rfl) ?_
    refine lv_if_ge (tgt := 37) hx hb dX4_movedStroke_26 (by decide) (fun c9 => absurd c9 c_1) (fun _ => ?_)
    refine lv_iconst (v := 2) hx hb dX4_movedStroke_29 (by decide) ?_
    refine lv_iload_n hx hb dX4_movedStroke_30 rfl (lv_at hl 2 rfl) ?_
    refine lv_iconst (v := 2) hx hb dX4_movedStroke_31 (by decide) ?_
    refine lv_idiv hx hb dX4_movedStroke_32 (by decide) ?_
    refine lv_imul hx hb dX4_movedStroke_33 ?_
    refine lv_goto (tgt := 44) hx hb dX4_movedStroke_34 (by decide) ?_
    refine lv_istore (lv' := [(4, .int (2 * (p0 / 2))), (3, .int ((2 * (p0 - p0 / 2 * 2)) + 1)), (2, .int (p0 - 6)), (0, .int p0), (1, .int 5)]) hx hb dX4_movedStroke_44 hl (by decide) rfl (fun ls hl => ?_)
    refine lv_iload_n hx hb dX4_movedStroke_46 rfl (lv_at hl 4 rfl) ?_
    refine lv_iconst (v := 4) hx hb dX4_movedStroke_47 (by decide) ?_
    refine lv_icmp_lt (tgt := 55) hx hb dX4_movedStroke_48 (by decide) (fun c9 => absurd c9 (by decide)) (fun _ => ?_)
    refine lv_iconst (v := 4) hx hb dX4_movedStroke_51 (by decide) ?_
    refine lv_iload_n hx hb dX4_movedStroke_52 rfl (lv_at hl 1 rfl) ?_
    refine lv_isub hx hb dX4_movedStroke_53 ?_
    refine lv_istore_n (lv' := [(3, .int (4 - ((2 * (p0 - p0 / 2 * 2)) + 1))), (4, .int (2 * (p0 / 2))), (2, .int (p0 - 6)), (0, .int p0), (1, .int 5)]) hx hb dX4_movedStroke_54 rfl hl (by decide) rfl (fun ls hl => ?_)
    refine lv_iconst (v := 0) hx hb dX4_movedStroke_55 (by decide) ?_
    refine lv_istore (lv' := [(5, .int 0), (3, .int (4 - ((2 * (p0 - p0 / 2 * 2)) + 1))), (4, .int (2 * (p0 / 2))), (2, .int (p0 - 6)), (0, .int p0), (1, .int 5)]) hx hb dX4_movedStroke_56 hl (by decide) rfl (fun ls hl => ?_)
    refine lv_iload hx hb dX4_movedStroke_58 (lv_at hl 0 rfl) ?_
    refine lv_iload_n hx hb dX4_movedStroke_60 rfl (lv_at hl 5 rfl) ?_
    refine lv_iconst (v := 4) hx hb dX4_movedStroke_61 (by decide) ?_
    refine lv_irem hx hb dX4_movedStroke_62 (by decide) ?_
    refine lv_topc 1 (by decide) ?_
    refine lv_icmp_ge (tgt := 84) hx hb dX4_movedStroke_63 (by decide) (fun c9 => absurd c9 (by decide)) (fun _ => ?_)
    refine lv_iload_n hx hb dX4_movedStroke_66 rfl (lv_at hl 1 rfl) ?_
    refine lv_istore (lv' := [(6, .int (4 - ((2 * (p0 - p0 / 2 * 2)) + 1))), (5, .int 0), (3, .int (4 - ((2 * (p0 - p0 / 2 * 2)) + 1))), (4, .int (2 * (p0 / 2))), (2, .int (p0 - 6)), (0, .int p0), (1, .int 5)]) hx hb dX4_movedStroke_67 hl (by decide) rfl (fun ls hl => ?_)
    refine lv_iconst (v := 4) hx hb dX4_movedStroke_69 (by decide) ?_
    refine lv_iload hx hb dX4_movedStroke_70 (lv_at hl 3 rfl) ?_
    refine lv_isub hx hb dX4_movedStroke_72 ?_
    refine lv_istore_n (lv' := [(3, .int (4 - (2 * (p0 / 2)))), (6, .int (4 - ((2 * (p0 - p0 / 2 * 2)) + 1))), (5, .int 0), (4, .int (2 * (p0 / 2))), (2, .int (p0 - 6)), (0, .int p0), (1, .int 5)]) hx hb dX4_movedStroke_73 rfl hl (by decide) rfl (fun ls hl => ?_)
    refine lv_iload hx hb dX4_movedStroke_74 (lv_at hl 1 rfl) ?_
    refine lv_istore (lv' := [(4, .int (4 - ((2 * (p0 - p0 / 2 * 2)) + 1))), (3, .int (4 - (2 * (p0 / 2)))), (6, .int (4 - ((2 * (p0 - p0 / 2 * 2)) + 1))), (5, .int 0), (2, .int (p0 - 6)), (0, .int p0), (1, .int 5)]) hx hb dX4_movedStroke_76 hl (by decide) rfl (fun ls hl => ?_)
    refine lv_iinc (v := 1) (lv' := [(5, .int 1), (4, .int (4 - ((2 * (p0 - p0 / 2 * 2)) + 1))), (3, .int (4 - (2 * (p0 / 2)))), (6, .int (4 - ((2 * (p0 - p0 / 2 * 2)) + 1))), (2, .int (p0 - 6)), (0, .int p0), (1, .int 5)]) hx hb dX4_movedStroke_78 hl (k := 3) rfl (by decide) (by decide) rfl (fun ls hl => ?_)
    refine lv_goto (tgt := 58) hx hb dX4_movedStroke_81 (by decide) ?_
    refine lv_iload hx hb dX4_movedStroke_58 (lv_at hl 0 rfl) ?_
    refine lv_iload_n hx hb dX4_movedStroke_60 rfl (lv_at hl 6 rfl) ?_
    refine lv_iconst (v := 4) hx hb dX4_movedStroke_61 (by decide) ?_
    refine lv_irem hx hb dX4_movedStroke_62 (by decide) ?_
    refine lv_topc 1 (by decide) ?_
    refine lv_icmp_ge (tgt := 84) hx hb dX4_movedStroke_63 (by decide) (fun _ => ?_) (fun c9 => absurd (by decide) c9)
    refine lv_iload hx hb dX4_movedStroke_84 (lv_at hl 1 rfl) ?_
    refine lv_iconst (v := 2) hx hb dX4_movedStroke_86 (by decide) ?_
    refine lv_irem hx hb dX4_movedStroke_87 (by decide) ?_
    refine lv_if_ne (tgt := 100) hx hb dX4_movedStroke_88 (by decide) (fun c_3 => ?_) (fun c_3 => ?_)
    · skip
      refine lv_bipush (v := 6) hx hb dX4_movedStroke_100 (by decide) ?_
      refine lv_iconst (v := 3) hx hb dX4_movedStroke_102 (by decide) ?_
      refine lv_iload hx hb dX4_movedStroke_103 (lv_at hl 1 rfl) ?_
      refine lv_iconst (v := 2) hx hb dX4_movedStroke_105 (by decide) ?_
      refine lv_idiv hx hb dX4_movedStroke_106 (by decide) ?_
      refine lv_imul hx hb dX4_movedStroke_107 ?_
      refine lv_iadd hx hb dX4_movedStroke_108 ?_
      refine lv_iload_n hx hb dX4_movedStroke_109 rfl (lv_at hl 2 rfl) ?_
      refine lv_iconst (v := 2) hx hb dX4_movedStroke_110 (by decide) ?_
      refine lv_idiv hx hb dX4_movedStroke_111 (by decide) ?_
      refine lv_iadd hx hb dX4_movedStroke_112 ?_
      exact ze_i hx hb hr hlocks dX4_movedStroke_113 trivial
    · skip
      refine lv_iload hx hb dX4_movedStroke_91 (lv_at hl 1 rfl) ?_
      refine lv_iload_n hx hb dX4_movedStroke_93 rfl (lv_at hl 2 rfl) ?_
      refine lv_iconst (v := 2) hx hb dX4_movedStroke_94 (by decide) ?_
      refine lv_idiv hx hb dX4_movedStroke_95 (by decide) ?_
      refine lv_iadd hx hb dX4_movedStroke_96 ?_
      refine lv_goto (tgt := 113) hx hb dX4_movedStroke_97 (by decide) ?_
      exact ze_i hx hb hr hlocks dX4_movedStroke_113 trivial
set_option maxHeartbeats 4000000 in
set_option maxRecDepth 100000 in
theorem c_X4_movedStroke_18 (l : Launch) (D : va_G) (k : Nat → ClassId) (p0 : Int32) : MetR l D k yX4_movedStroke cX4_movedStroke 7 (some .int) 0 [.int p0, .int 6] [] noX (vp_Si (fun r => True)) := by
  refine metR_of 2 ck_X4_movedStroke (Nat.le_of_ble_eq_true rfl) (fun p e s m args below meth c hx hb hml hr hlocks hown hts hK hX hP hin ls hl => ?_)
  have hP : va_P D vwCl [] s.heap := hP
  have hown : s.vm.findClass "HideReader$Lattice" = some m.cls := hown
  have hl : lv_has ls 7 [(0, .int p0), (1, .int 6)] := hl
  refine lv_iload_n hx hb dX4_movedStroke_0 rfl (lv_at hl 0 rfl) ?_
  refine lv_bipush (v := 6) hx hb dX4_movedStroke_1 (by decide) ?_
  refine lv_isub hx hb dX4_movedStroke_3 ?_
  refine lv_istore_n (lv' := [(2, .int (p0 - 6)), (0, .int p0), (1, .int 6)]) hx hb dX4_movedStroke_4 rfl hl (by decide) rfl (fun ls hl => ?_)
  refine lv_iload_n hx hb dX4_movedStroke_5 rfl (lv_at hl 0 rfl) ?_
  refine lv_if_ge (tgt := 19) hx hb dX4_movedStroke_6 (by decide) (fun c_1 => ?_) (fun c_1 => ?_)
  · skip
    refine lv_iconst (v := 2) hx hb dX4_movedStroke_19 (by decide) ?_
    refine lv_iload_n hx hb dX4_movedStroke_20 rfl (lv_at hl 0 rfl) ?_
    refine lv_iconst (v := 3) hx hb dX4_movedStroke_21 (by decide) ?_
    refine lv_irem hx hb dX4_movedStroke_22 (by decide) ?_
    refine lv_imul hx hb dX4_movedStroke_23 ?_
    refine lv_istore_n (lv' := [(3, .int (2 * ((p0 - 6) - (p0 - 6) / 3 * 3))), (2, .int (p0 - 6)), (0, .int p0), (1, .int 6)]) hx hb dX4_movedStroke_24 rfl hl (by decide) rfl (fun ls hl => ?_)
    refine lv_iload_n hx hb dX4_movedStroke_25 rfl (lv_at hl 1 rfl) ?_
    refine lv_if_ge (tgt := 37) hx hb dX4_movedStroke_26 (by decide) (fun _ => ?_) (fun c9 => absurd c_1 c9)
    refine lv_iconst (v := 2) hx hb dX4_movedStroke_37 (by decide) ?_
    refine lv_iload_n hx hb dX4_movedStroke_38 rfl (lv_at hl 1 rfl) ?_
    refine lv_iconst (v := 3) hx hb dX4_movedStroke_39 (by decide) ?_
    refine lv_idiv hx hb dX4_movedStroke_40 (by decide) ?_
    refine lv_imul hx hb dX4_movedStroke_41 ?_
    refine lv_iconst (v := 1) hx hb dX4_movedStroke_42 (by decide) ?_
    refine lv_iadd hx hb dX4_movedStroke_43 ?_
    refine lv_istore (lv' := [(4, .int ((2 * ((p0 - 6) / 3)) + 1)), (3, .int (2 * ((p0 - 6) - (p0 - 6) / 3 * 3))), (2, .int (p0 - 6)), (0, .int p0), (1, .int 6)]) hx hb dX4_movedStroke_44 hl (by decide) rfl (fun ls hl => ?_)
    refine lv_iload_n hx hb dX4_movedStroke_46 rfl (lv_at hl 4 rfl) ?_
    refine lv_iconst (v := 4) hx hb dX4_movedStroke_47 (by decide) ?_
    refine lv_icmp_lt (tgt := 55) hx hb dX4_movedStroke_48 (by decide) (fun c9 => absurd c9 (by decide)) (fun _ => ?_)
    refine lv_iconst (v := 4) hx hb dX4_movedStroke_51 (by decide) ?_
    refine lv_iload_n hx hb dX4_movedStroke_52 rfl (lv_at hl 1 rfl) ?_
    refine lv_isub hx hb dX4_movedStroke_53 ?_
    refine lv_istore_n (lv' := [(3, .int (4 - (2 * ((p0 - 6) - (p0 - 6) / 3 * 3)))), (4, .int ((2 * ((p0 - 6) / 3)) + 1)), (2, .int (p0 - 6)), (0, .int p0), (1, .int 6)]) hx hb dX4_movedStroke_54 rfl hl (by decide) rfl (fun ls hl => ?_)
    refine lv_iconst (v := 0) hx hb dX4_movedStroke_55 (by decide) ?_
    refine lv_istore (lv' := [(5, .int 0), (3, .int (4 - (2 * ((p0 - 6) - (p0 - 6) / 3 * 3)))), (4, .int ((2 * ((p0 - 6) / 3)) + 1)), (2, .int (p0 - 6)), (0, .int p0), (1, .int 6)]) hx hb dX4_movedStroke_56 hl (by decide) rfl (fun ls hl => ?_)
    refine lv_iload hx hb dX4_movedStroke_58 (lv_at hl 0 rfl) ?_
    refine lv_iload_n hx hb dX4_movedStroke_60 rfl (lv_at hl 5 rfl) ?_
    refine lv_iconst (v := 4) hx hb dX4_movedStroke_61 (by decide) ?_
    refine lv_irem hx hb dX4_movedStroke_62 (by decide) ?_
    refine lv_topc 2 (by decide) ?_
    refine lv_icmp_ge (tgt := 84) hx hb dX4_movedStroke_63 (by decide) (fun c9 => absurd c9 (by decide)) (fun _ => ?_)
    refine lv_iload_n hx hb dX4_movedStroke_66 rfl (lv_at hl 1 rfl) ?_
    refine lv_istore (lv' := [(6, .int (4 - (2 * ((p0 - 6) - (p0 - 6) / 3 * 3)))), (5, .int 0), (3, .int (4 - (2 * ((p0 - 6) - (p0 - 6) / 3 * 3)))), (4, .int ((2 * ((p0 - 6) / 3)) + 1)), (2, .int (p0 - 6)), (0, .int p0), (1, .int 6)]) hx hb dX4_movedStroke_67 hl (by decide) rfl (fun ls hl => ?_)
    refine lv_iconst (v := 4) hx hb dX4_movedStroke_69 (by decide) ?_
    refine lv_iload hx hb dX4_movedStroke_70 (lv_at hl 3 rfl) ?_
    refine lv_isub hx hb dX4_movedStroke_72 ?_
    refine lv_istore_n (lv' := [(3, .int (4 - ((2 * ((p0 - 6) / 3)) + 1))), (6, .int (4 - (2 * ((p0 - 6) - (p0 - 6) / 3 * 3)))), (5, .int 0), (4, .int ((2 * ((p0 - 6) / 3)) + 1)), (2, .int (p0 - 6)), (0, .int p0), (1, .int 6)]) hx hb dX4_movedStroke_73 rfl hl (by decide) rfl (fun ls hl => ?_)
    refine lv_iload hx hb dX4_movedStroke_74 (lv_at hl 1 rfl) ?_
    refine lv_istore (lv' := [(4, .int (4 - (2 * ((p0 - 6) - (p0 - 6) / 3 * 3)))), (3, .int (4 - ((2 * ((p0 - 6) / 3)) + 1))), (6, .int (4 - (2 * ((p0 - 6) - (p0 - 6) / 3 * 3)))), (5, .int 0), (2, .int (p0 - 6)), (0, .int p0), (1, .int 6)]) hx hb dX4_movedStroke_76 hl (by decide) rfl (fun ls hl => ?_)
    refine lv_iinc (v := 1) (lv' := [(5, .int 1), (4, .int (4 - (2 * ((p0 - 6) - (p0 - 6) / 3 * 3)))), (3, .int (4 - ((2 * ((p0 - 6) / 3)) + 1))), (6, .int (4 - (2 * ((p0 - 6) - (p0 - 6) / 3 * 3)))), (2, .int (p0 - 6)), (0, .int p0), (1, .int 6)]) hx hb dX4_movedStroke_78 hl (k := 3) rfl (by decide) (by decide) rfl (fun ls hl => ?_)
    refine lv_goto (tgt := 58) hx hb dX4_movedStroke_81 (by decide) ?_
    refine lv_iload hx hb dX4_movedStroke_58 (lv_at hl 0 rfl) ?_
    refine lv_iload_n hx hb dX4_movedStroke_60 rfl (lv_at hl 6 rfl) ?_
    refine lv_iconst (v := 4) hx hb dX4_movedStroke_61 (by decide) ?_
    refine lv_irem hx hb dX4_movedStroke_62 (by decide) ?_
    refine lv_topc 2 (by decide) ?_
    refine lv_icmp_ge (tgt := 84) hx hb dX4_movedStroke_63 (by decide) (fun c9 => absurd c9 (by decide)) (fun _ => ?_)
    refine lv_iload_n hx hb dX4_movedStroke_66 rfl (lv_at hl 2 rfl) ?_
    refine lv_istore (lv' := [(6, .int (4 - ((2 * ((p0 - 6) / 3)) + 1))), (5, .int 1), (4, .int (4 - (2 * ((p0 - 6) - (p0 - 6) / 3 * 3)))), (3, .int (4 - ((2 * ((p0 - 6) / 3)) + 1))), (2, .int (p0 - 6)), (0, .int p0), (1, .int 6)]) hx hb dX4_movedStroke_67 hl (by decide) rfl (fun ls hl => ?_)
    refine lv_iconst (v := 4) hx hb dX4_movedStroke_69 (by decide) ?_
    refine lv_iload hx hb dX4_movedStroke_70 (lv_at hl 2 rfl) ?_
    refine lv_isub hx hb dX4_movedStroke_72 ?_
    refine lv_istore_n (lv' := [(3, .int (4 - (4 - (2 * ((p0 - 6) - (p0 - 6) / 3 * 3))))), (6, .int (4 - ((2 * ((p0 - 6) / 3)) + 1))), (5, .int 1), (4, .int (4 - (2 * ((p0 - 6) - (p0 - 6) / 3 * 3)))), (2, .int (p0 - 6)), (0, .int p0), (1, .int 6)]) hx hb dX4_movedStroke_73 rfl hl (by decide) rfl (fun ls hl => ?_)
    refine lv_iload hx hb dX4_movedStroke_74 (lv_at hl 1 rfl) ?_
    refine lv_istore (lv' := [(4, .int (4 - ((2 * ((p0 - 6) / 3)) + 1))), (3, .int (4 - (4 - (2 * ((p0 - 6) - (p0 - 6) / 3 * 3))))), (6, .int (4 - ((2 * ((p0 - 6) / 3)) + 1))), (5, .int 1), (2, .int (p0 - 6)), (0, .int p0), (1, .int 6)]) hx hb dX4_movedStroke_76 hl (by decide) rfl (fun ls hl => ?_)
    refine lv_iinc (v := 2) (lv' := [(5, .int 2), (4, .int (4 - ((2 * ((p0 - 6) / 3)) + 1))), (3, .int (4 - (4 - (2 * ((p0 - 6) - (p0 - 6) / 3 * 3))))), (6, .int (4 - ((2 * ((p0 - 6) / 3)) + 1))), (2, .int (p0 - 6)), (0, .int p0), (1, .int 6)]) hx hb dX4_movedStroke_78 hl (k := 3) rfl (by decide) (by decide) rfl (fun ls hl => ?_)
    refine lv_goto (tgt := 58) hx hb dX4_movedStroke_81 (by decide) ?_
    refine lv_iload hx hb dX4_movedStroke_58 (lv_at hl 0 rfl) ?_
    refine lv_iload_n hx hb dX4_movedStroke_60 rfl (lv_at hl 6 rfl) ?_
    refine lv_iconst (v := 4) hx hb dX4_movedStroke_61 (by decide) ?_
    refine lv_irem hx hb dX4_movedStroke_62 (by decide) ?_
    refine lv_topc 2 (by decide) ?_
    refine lv_icmp_ge (tgt := 84) hx hb dX4_movedStroke_63 (by decide) (fun _ => ?_) (fun c9 => absurd (by decide) c9)
    refine lv_iload hx hb dX4_movedStroke_84 (lv_at hl 1 rfl) ?_
    refine lv_iconst (v := 2) hx hb dX4_movedStroke_86 (by decide) ?_
    refine lv_irem hx hb dX4_movedStroke_87 (by decide) ?_
    refine lv_if_ne (tgt := 100) hx hb dX4_movedStroke_88 (by decide) (fun c_2 => ?_) (fun c_2 => ?_)
    · skip
      refine lv_bipush (v := 6) hx hb dX4_movedStroke_100 (by decide) ?_
      refine lv_iconst (v := 3) hx hb dX4_movedStroke_102 (by decide) ?_
      refine lv_iload hx hb dX4_movedStroke_103 (lv_at hl 1 rfl) ?_
      refine lv_iconst (v := 2) hx hb dX4_movedStroke_105 (by decide) ?_
      refine lv_idiv hx hb dX4_movedStroke_106 (by decide) ?_
      refine lv_imul hx hb dX4_movedStroke_107 ?_
      refine lv_iadd hx hb dX4_movedStroke_108 ?_
      refine lv_iload_n hx hb dX4_movedStroke_109 rfl (lv_at hl 2 rfl) ?_
      refine lv_iconst (v := 2) hx hb dX4_movedStroke_110 (by decide) ?_
      refine lv_idiv hx hb dX4_movedStroke_111 (by decide) ?_
      refine lv_iadd hx hb dX4_movedStroke_112 ?_
      exact ze_i hx hb hr hlocks dX4_movedStroke_113 trivial
    · skip
      refine lv_iload hx hb dX4_movedStroke_91 (lv_at hl 1 rfl) ?_
      refine lv_iload_n hx hb dX4_movedStroke_93 rfl (lv_at hl 2 rfl) ?_
      refine lv_iconst (v := 2) hx hb dX4_movedStroke_94 (by decide) ?_
      refine lv_idiv hx hb dX4_movedStroke_95 (by decide) ?_
      refine lv_iadd hx hb dX4_movedStroke_96 ?_
      refine lv_goto (tgt := 113) hx hb dX4_movedStroke_97 (by decide) ?_
      exact ze_i hx hb hr hlocks dX4_movedStroke_113 trivial
  · skip
    refine lv_iconst (v := 2) hx hb dX4_movedStroke_9 (by decide) ?_
    refine lv_iload_n hx hb dX4_movedStroke_10 rfl (lv_at hl 1 rfl) ?_
    refine lv_iconst (v := 2) hx hb dX4_movedStroke_11 (by decide) ?_
    refine lv_irem hx hb dX4_movedStroke_12 (by decide) ?_
    refine lv_imul hx hb dX4_movedStroke_13 ?_
    refine lv_iconst (v := 1) hx hb dX4_movedStroke_14 (by decide) ?_
    refine lv_iadd hx hb dX4_movedStroke_15 ?_
    refine lv_goto (tgt := 24) hx hb dX4_movedStroke_16 (by decide) ?_
    refine lv_istore_n (lv' := [(3, .int ((2 * (p0 - p0 / 2 * 2)) + 1)), (2, .int (p0 - 6)), (0, .int p0), (1, .int 6)]) hx hb dX4_movedStroke_24 rfl hl (by decide) rfl (fun ls hl => ?_)
    refine lv_iload_n hx hb dX4_movedStroke_25 rfl (lv_at hl 1 rfl) ?_
    refine lv_if_ge (tgt := 37) hx hb dX4_movedStroke_26 (by decide) (fun c9 => absurd c9 c_1) (fun _ => ?_)
    refine lv_iconst (v := 2) hx hb dX4_movedStroke_29 (by decide) ?_
    refine lv_iload_n hx hb dX4_movedStroke_30 rfl (lv_at hl 2 rfl) ?_
    refine lv_iconst (v := 2) hx hb dX4_movedStroke_31 (by decide) ?_
    refine lv_idiv hx hb dX4_movedStroke_32 (by decide) ?_
    refine lv_imul hx hb dX4_movedStroke_33 ?_
    refine lv_goto (tgt := 44) hx hb dX4_movedStroke_34 (by decide) ?_
    refine lv_istore (lv' := [(4, .int (2 * (p0 / 2))), (3, .int ((2 * (p0 - p0 / 2 * 2)) + 1)), (2, .int (p0 - 6)), (0, .int p0), (1, .int 6)]) hx hb dX4_movedStroke_44 hl (by decide) rfl (fun ls hl => ?_)
    refine lv_iload_n hx hb dX4_movedStroke_46 rfl (lv_at hl 4 rfl) ?_
    refine lv_iconst (v := 4) hx hb dX4_movedStroke_47 (by decide) ?_
    refine lv_icmp_lt (tgt := 55) hx hb dX4_movedStroke_48 (by decide) (fun c9 => absurd c9 (by decide)) (fun _ => ?_)
    refine lv_iconst (v := 4) hx hb dX4_movedStroke_51 (by decide) ?_
    refine lv_iload_n hx hb dX4_movedStroke_52 rfl (lv_at hl 1 rfl) ?_
    refine lv_isub hx hb dX4_movedStroke_53 ?_
    refine lv_istore_n (lv' := [(3, .int (4 - ((2 * (p0 - p0 / 2 * 2)) + 1))), (4, .int (2 * (p0 / 2))), (2, .int (p0 - 6)), (0, .int p0), (1, .int 6)]) hx hb dX4_movedStroke_54 rfl hl (by decide) rfl (fun ls hl => ?_)
    refine lv_iconst (v := 0) hx hb dX4_movedStroke_55 (by decide) ?_
    refine lv_istore (lv' := [(5, .int 0), (3, .int (4 - ((2 * (p0 - p0 / 2 * 2)) + 1))), (4, .int (2 * (p0 / 2))), (2, .int (p0 - 6)), (0, .int p0), (1, .int 6)]) hx hb dX4_movedStroke_56 hl (by decide) rfl (fun ls hl => ?_)
    refine lv_iload hx hb dX4_movedStroke_58 (lv_at hl 0 rfl) ?_
    refine lv_iload_n hx hb dX4_movedStroke_60 rfl (lv_at hl 5 rfl) ?_
    refine lv_iconst (v := 4) hx hb dX4_movedStroke_61 (by decide) ?_
    refine lv_irem hx hb dX4_movedStroke_62 (by decide) ?_
    refine lv_topc 2 (by decide) ?_
    refine lv_icmp_ge (tgt := 84) hx hb dX4_movedStroke_63 (by decide) (fun c9 => absurd c9 (by decide)) (fun _ => ?_)
    refine lv_iload_n hx hb dX4_movedStroke_66 rfl (lv_at hl 1 rfl) ?_
    refine lv_istore (lv' := [(6, .int (4 - ((2 * (p0 - p0 / 2 * 2)) + 1))), (5, .int 0), (3, .int (4 - ((2 * (p0 - p0 / 2 * 2)) + 1))), (4, .int (2 * (p0 / 2))), (2, .int (p0 - 6)), (0, .int p0), (1, .int 6)]) hx hb dX4_movedStroke_67 hl (by decide) rfl (fun ls hl => ?_)
    refine lv_iconst (v := 4) hx hb dX4_movedStroke_69 (by decide) ?_
    refine lv_iload hx hb dX4_movedStroke_70 (lv_at hl 3 rfl) ?_
    refine lv_isub hx hb dX4_movedStroke_72 ?_
    refine lv_istore_n (lv' := [(3, .int (4 - (2 * (p0 / 2)))), (6, .int (4 - ((2 * (p0 - p0 / 2 * 2)) + 1))), (5, .int 0), (4, .int (2 * (p0 / 2))), (2, .int (p0 - 6)), (0, .int p0), (1, .int 6)]) hx hb dX4_movedStroke_73 rfl hl (by decide) rfl (fun ls hl => ?_)
    refine lv_iload hx hb dX4_movedStroke_74 (lv_at hl 1 rfl) ?_
    refine lv_istore (lv' := [(4, .int (4 - ((2 * (p0 - p0 / 2 * 2)) + 1))), (3, .int (4 - (2 * (p0 / 2)))), (6, .int (4 - ((2 * (p0 - p0 / 2 * 2)) + 1))), (5, .int 0), (2, .int (p0 - 6)), (0, .int p0), (1, .int 6)]) hx hb dX4_movedStroke_76 hl (by decide) rfl (fun ls hl => ?_)
    refine lv_iinc (v := 1) (lv' := [(5, .int 1), (4, .int (4 - ((2 * (p0 - p0 / 2 * 2)) + 1))), (3, .int (4 - (2 * (p0 / 2)))), (6, .int (4 - ((2 * (p0 - p0 / 2 * 2)) + 1))), (2, .int (p0 - 6)), (0, .int p0), (1, .int 6)]) hx hb dX4_movedStroke_78 hl (k := 3) rfl (by decide) (by decide) rfl (fun ls hl => ?_)
    refine lv_goto (tgt := 58) hx hb dX4_movedStroke_81 (by decide) ?_
    refine lv_iload hx hb dX4_movedStroke_58 (lv_at hl 0 rfl) ?_
    refine lv_iload_n hx hb dX4_movedStroke_60 rfl (lv_at hl 6 rfl) ?_
    refine lv_iconst (v := 4) hx hb dX4_movedStroke_61 (by decide) ?_
    refine lv_irem hx hb dX4_movedStroke_62 (by decide) ?_
    refine lv_topc 2 (by decide) ?_
    refine lv_icmp_ge (tgt := 84) hx hb dX4_movedStroke_63 (by decide) (fun c9 => absurd c9 (by decide)) (fun _ => ?_)
    refine lv_iload_n hx hb dX4_movedStroke_66 rfl (lv_at hl 2 rfl) ?_
    refine lv_istore (lv' := [(6, .int (4 - (2 * (p0 / 2)))), (5, .int 1), (4, .int (4 - ((2 * (p0 - p0 / 2 * 2)) + 1))), (3, .int (4 - (2 * (p0 / 2)))), (2, .int (p0 - 6)), (0, .int p0), (1, .int 6)]) hx hb dX4_movedStroke_67 hl (by decide) rfl (fun ls hl => ?_)
    refine lv_iconst (v := 4) hx hb dX4_movedStroke_69 (by decide) ?_
    refine lv_iload hx hb dX4_movedStroke_70 (lv_at hl 2 rfl) ?_
    refine lv_isub hx hb dX4_movedStroke_72 ?_
    refine lv_istore_n (lv' := [(3, .int (4 - (4 - ((2 * (p0 - p0 / 2 * 2)) + 1)))), (6, .int (4 - (2 * (p0 / 2)))), (5, .int 1), (4, .int (4 - ((2 * (p0 - p0 / 2 * 2)) + 1))), (2, .int (p0 - 6)), (0, .int p0), (1, .int 6)]) hx hb dX4_movedStroke_73 rfl hl (by decide) rfl (fun ls hl => ?_)
    refine lv_iload hx hb dX4_movedStroke_74 (lv_at hl 1 rfl) ?_
    refine lv_istore (lv' := [(4, .int (4 - (2 * (p0 / 2)))), (3, .int (4 - (4 - ((2 * (p0 - p0 / 2 * 2)) + 1)))), (6, .int (4 - (2 * (p0 / 2)))), (5, .int 1), (2, .int (p0 - 6)), (0, .int p0), (1, .int 6)]) hx hb dX4_movedStroke_76 hl (by decide) rfl (fun ls hl => ?_)
    refine lv_iinc (v := 2) (lv' := [(5, .int 2), (4, .int (4 - (2 * (p0 / 2)))), (3, .int (4 - (4 - ((2 * (p0 - p0 / 2 * 2)) + 1)))), (6, .int (4 - (2 * (p0 / 2)))), (2, .int (p0 - 6)), (0, .int p0), (1, .int 6)]) hx hb dX4_movedStroke_78 hl (k := 3) rfl (by decide) (by decide) rfl (fun ls hl => ?_)
    refine lv_goto (tgt := 58) hx hb dX4_movedStroke_81 (by decide) ?_
    refine lv_iload hx hb dX4_movedStroke_58 (lv_at hl 0 rfl) ?_
    refine lv_iload_n hx hb dX4_movedStroke_60 rfl (lv_at hl 6 rfl) ?_
    refine lv_iconst (v := 4) hx hb dX4_movedStroke_61 (by decide) ?_
    refine lv_irem hx hb dX4_movedStroke_62 (by decide) ?_
    refine lv_topc 2 (by decide) ?_
    refine lv_icmp_ge (tgt := 84) hx hb dX4_movedStroke_63 (by decide) (fun _ => ?_) (fun c9 => absurd (by decide) c9)
    refine lv_iload hx hb dX4_movedStroke_84 (lv_at hl 1 rfl) ?_
    refine lv_iconst (v := 2) hx hb dX4_movedStroke_86 (by decide) ?_
    refine lv_irem hx hb dX4_movedStroke_87 (by decide) ?_
    refine lv_if_ne (tgt := 100) hx hb dX4_movedStroke_88 (by decide) (fun c_3 => ?_) (fun c_3 => ?_)
    · skip
      refine lv_bipush (v := 6) hx hb dX4_movedStroke_100 (by decide) ?_
      refine lv_iconst (v := 3) hx hb dX4_movedStroke_102 (by decide) ?_
      refine lv_iload hx hb dX4_movedStroke_103 (lv_at hl 1 rfl) ?_
      refine lv_iconst (v := 2) hx hb dX4_movedStroke_105 (by decide) ?_
      refine lv_idiv hx hb dX4_movedStroke_106 (by decide) ?_
      refine lv_imul hx hb dX4_movedStroke_107 ?_
      refine lv_iadd hx hb dX4_movedStroke_108 ?_
      refine lv_iload_n hx hb dX4_movedStroke_109 rfl (lv_at hl 2 rfl) ?_
      refine lv_iconst (v := 2) hx hb dX4_movedStroke_110 (by decide) ?_
      refine lv_idiv hx hb dX4_movedStroke_111 (by decide) ?_
      refine lv_iadd hx hb dX4_movedStroke_112 ?_
      exact ze_i hx hb hr hlocks dX4_movedStroke_113 trivial
    · skip
      refine lv_iload hx hb dX4_movedStroke_91 (lv_at hl 1 rfl) ?_
      refine lv_iload_n hx hb dX4_movedStroke_93 rfl (lv_at hl 2 rfl) ?_
      refine lv_iconst (v := 2) hx hb dX4_movedStroke_94 (by decide) ?_
      refine lv_idiv hx hb dX4_movedStroke_95 (by decide) ?_
      refine lv_iadd hx hb dX4_movedStroke_96 ?_
      refine lv_goto (tgt := 113) hx hb dX4_movedStroke_97 (by decide) ?_
      exact ze_i hx hb hr hlocks dX4_movedStroke_113 trivial
set_option maxHeartbeats 4000000 in
set_option maxRecDepth 100000 in
theorem c_X4_movedStroke_19 (l : Launch) (D : va_G) (k : Nat → ClassId) (p0 : Int32) : MetR l D k yX4_movedStroke cX4_movedStroke 7 (some .int) 0 [.int p0, .int 7] [] noX (vp_Si (fun r => True)) := by
  refine metR_of 2 ck_X4_movedStroke (Nat.le_of_ble_eq_true rfl) (fun p e s m args below meth c hx hb hml hr hlocks hown hts hK hX hP hin ls hl => ?_)
  have hP : va_P D vwCl [] s.heap := hP
  have hown : s.vm.findClass "HideReader$Lattice" = some m.cls := hown
  have hl : lv_has ls 7 [(0, .int p0), (1, .int 7)] := hl
  refine lv_iload_n hx hb dX4_movedStroke_0 rfl (lv_at hl 0 rfl) ?_
  refine lv_bipush (v := 6) hx hb dX4_movedStroke_1 (by decide) ?_
  refine lv_isub hx hb dX4_movedStroke_3 ?_
  refine lv_istore_n (lv' := [(2, .int (p0 - 6)), (0, .int p0), (1, .int 7)]) hx hb dX4_movedStroke_4 rfl hl (by decide) rfl (fun ls hl => ?_)
  refine lv_iload_n hx hb dX4_movedStroke_5 rfl (lv_at hl 0 rfl) ?_
  refine lv_if_ge (tgt := 19) hx hb dX4_movedStroke_6 (by decide) (fun c_1 => ?_) (fun c_1 => ?_)
  · skip
    refine lv_iconst (v := 2) hx hb dX4_movedStroke_19 (by decide) ?_
    refine lv_iload_n hx hb dX4_movedStroke_20 rfl (lv_at hl 0 rfl) ?_
    refine lv_iconst (v := 3) hx hb dX4_movedStroke_21 (by decide) ?_
    refine lv_irem hx hb dX4_movedStroke_22 (by decide) ?_
    refine lv_imul hx hb dX4_movedStroke_23 ?_
    refine lv_istore_n (lv' := [(3, .int (2 * ((p0 - 6) - (p0 - 6) / 3 * 3))), (2, .int (p0 - 6)), (0, .int p0), (1, .int 7)]) hx hb dX4_movedStroke_24 rfl hl (by decide) rfl (fun ls hl => ?_)
    refine lv_iload_n hx hb dX4_movedStroke_25 rfl (lv_at hl 1 rfl) ?_
    refine lv_if_ge (tgt := 37) hx hb dX4_movedStroke_26 (by decide) (fun _ => ?_) (fun c9 => absurd c_1 c9)
    refine lv_iconst (v := 2) hx hb dX4_movedStroke_37 (by decide) ?_
    refine lv_iload_n hx hb dX4_movedStroke_38 rfl (lv_at hl 1 rfl) ?_
    refine lv_iconst (v := 3) hx hb dX4_movedStroke_39 (by decide) ?_
    refine lv_idiv hx hb dX4_movedStroke_40 (by decide) ?_
    refine lv_imul hx hb dX4_movedStroke_41 ?_
    refine lv_iconst (v := 1) hx hb dX4_movedStroke_42 (by decide) ?_
    refine lv_iadd hx hb dX4_movedStroke_43 ?_
    refine lv_istore (lv' := [(4, .int ((2 * ((p0 - 6) / 3)) + 1)), (3, .int (2 * ((p0 - 6) - (p0 - 6) / 3 * 3))), (2, .int (p0 - 6)), (0, .int p0), (1, .int 7)]) hx hb dX4_movedStroke_44 hl (by decide) rfl (fun ls hl => ?_)
    refine lv_iload_n hx hb dX4_movedStroke_46 rfl (lv_at hl 4 rfl) ?_
    refine lv_iconst (v := 4) hx hb dX4_movedStroke_47 (by decide) ?_
    refine lv_icmp_lt (tgt := 55) hx hb dX4_movedStroke_48 (by decide) (fun c9 => absurd c9 (by decide)) (fun _ => ?_)
    refine lv_iconst (v := 4) hx hb dX4_movedStroke_51 (by decide) ?_
    refine lv_iload_n hx hb dX4_movedStroke_52 rfl (lv_at hl 1 rfl) ?_
    refine lv_isub hx hb dX4_movedStroke_53 ?_
    refine lv_istore_n (lv' := [(3, .int (4 - (2 * ((p0 - 6) - (p0 - 6) / 3 * 3)))), (4, .int ((2 * ((p0 - 6) / 3)) + 1)), (2, .int (p0 - 6)), (0, .int p0), (1, .int 7)]) hx hb dX4_movedStroke_54 rfl hl (by decide) rfl (fun ls hl => ?_)
    refine lv_iconst (v := 0) hx hb dX4_movedStroke_55 (by decide) ?_
    refine lv_istore (lv' := [(5, .int 0), (3, .int (4 - (2 * ((p0 - 6) - (p0 - 6) / 3 * 3)))), (4, .int ((2 * ((p0 - 6) / 3)) + 1)), (2, .int (p0 - 6)), (0, .int p0), (1, .int 7)]) hx hb dX4_movedStroke_56 hl (by decide) rfl (fun ls hl => ?_)
    refine lv_iload hx hb dX4_movedStroke_58 (lv_at hl 0 rfl) ?_
    refine lv_iload_n hx hb dX4_movedStroke_60 rfl (lv_at hl 5 rfl) ?_
    refine lv_iconst (v := 4) hx hb dX4_movedStroke_61 (by decide) ?_
    refine lv_irem hx hb dX4_movedStroke_62 (by decide) ?_
    refine lv_topc 3 (by decide) ?_
    refine lv_icmp_ge (tgt := 84) hx hb dX4_movedStroke_63 (by decide) (fun c9 => absurd c9 (by decide)) (fun _ => ?_)
    refine lv_iload_n hx hb dX4_movedStroke_66 rfl (lv_at hl 1 rfl) ?_
    refine lv_istore (lv' := [(6, .int (4 - (2 * ((p0 - 6) - (p0 - 6) / 3 * 3)))), (5, .int 0), (3, .int (4 - (2 * ((p0 - 6) - (p0 - 6) / 3 * 3)))), (4, .int ((2 * ((p0 - 6) / 3)) + 1)), (2, .int (p0 - 6)), (0, .int p0), (1, .int 7)]) hx hb dX4_movedStroke_67 hl (by decide) rfl (fun ls hl => ?_)
    refine lv_iconst (v := 4) hx hb dX4_movedStroke_69 (by decide) ?_
    refine lv_iload hx hb dX4_movedStroke_70 (lv_at hl 3 rfl) ?_
    refine lv_isub hx hb dX4_movedStroke_72 ?_
    refine lv_istore_n (lv' := [(3, .int (4 - ((2 * ((p0 - 6) / 3)) + 1))), (6, .int (4 - (2 * ((p0 - 6) - (p0 - 6) / 3 * 3)))), (5, .int 0), (4, .int ((2 * ((p0 - 6) / 3)) + 1)), (2, .int (p0 - 6)), (0, .int p0), (1, .int 7)]) hx hb dX4_movedStroke_73 rfl hl (by decide) rfl (fun ls hl => ?_)
    refine lv_iload hx hb dX4_movedStroke_74 (lv_at hl 1 rfl) ?_
    refine lv_istore (lv' := [(4, .int (4 - (2 * ((p0 - 6) - (p0 - 6) / 3 * 3)))), (3, .int (4 - ((2 * ((p0 - 6) / 3)) + 1))), (6, .int (4 - (2 * ((p0 - 6) - (p0 - 6) / 3 * 3)))), (5, .int 0), (2, .int (p0 - 6)), (0, .int p0), (1, .int 7)]) hx hb dX4_movedStroke_76 hl (by decide) rfl (fun ls hl => ?_)
    refine lv_iinc (v := 1) (lv' := [(5, .int 1), (4, .int (4 - (2 * ((p0 - 6) - (p0 - 6) / 3 * 3)))), (3, .int (4 - ((2 * ((p0 - 6) / 3)) + 1))), (6, .int (4 - (2 * ((p0 - 6) - (p0 - 6) / 3 * 3)))), (2, .int (p0 - 6)), (0, .int p0), (1, .int 7)]) hx hb dX4_movedStroke_78 hl (k := 3) rfl (by decide) (by decide) rfl (fun ls hl => ?_)
    refine lv_goto (tgt := 58) hx hb dX4_movedStroke_81 (by decide) ?_
    refine lv_iload hx hb dX4_movedStroke_58 (lv_at hl 0 rfl) ?_
    refine lv_iload_n hx hb dX4_movedStroke_60 rfl (lv_at hl 6 rfl) ?_
    refine lv_iconst (v := 4) hx hb dX4_movedStroke_61 (by decide) ?_
    refine lv_irem hx hb dX4_movedStroke_62 (by decide) ?_
    refine lv_topc 3 (by decide) ?_
    refine lv_icmp_ge (tgt := 84) hx hb dX4_movedStroke_63 (by decide) (fun c9 => absurd c9 (by decide)) (fun _ => ?_)
    refine lv_iload_n hx hb dX4_movedStroke_66 rfl (lv_at hl 2 rfl) ?_
    refine lv_istore (lv' := [(6, .int (4 - ((2 * ((p0 - 6) / 3)) + 1))), (5, .int 1), (4, .int (4 - (2 * ((p0 - 6) - (p0 - 6) / 3 * 3)))), (3, .int (4 - ((2 * ((p0 - 6) / 3)) + 1))), (2, .int (p0 - 6)), (0, .int p0), (1, .int 7)]) hx hb dX4_movedStroke_67 hl (by decide) rfl (fun ls hl => ?_)
    refine lv_iconst (v := 4) hx hb dX4_movedStroke_69 (by decide) ?_
    refine lv_iload hx hb dX4_movedStroke_70 (lv_at hl 2 rfl) ?_
    refine lv_isub hx hb dX4_movedStroke_72 ?_
    refine lv_istore_n (lv' := [(3, .int (4 - (4 - (2 * ((p0 - 6) - (p0 - 6) / 3 * 3))))), (6, .int (4 - ((2 * ((p0 - 6) / 3)) + 1))), (5, .int 1), (4, .int (4 - (2 * ((p0 - 6) - (p0 - 6) / 3 * 3)))), (2, .int (p0 - 6)), (0, .int p0), (1, .int 7)]) hx hb dX4_movedStroke_73 rfl hl (by decide) rfl (fun ls hl => ?_)
    refine lv_iload hx hb dX4_movedStroke_74 (lv_at hl 1 rfl) ?_
    refine lv_istore (lv' := [(4, .int (4 - ((2 * ((p0 - 6) / 3)) + 1))), (3, .int (4 - (4 - (2 * ((p0 - 6) - (p0 - 6) / 3 * 3))))), (6, .int (4 - ((2 * ((p0 - 6) / 3)) + 1))), (5, .int 1), (2, .int (p0 - 6)), (0, .int p0), (1, .int 7)]) hx hb dX4_movedStroke_76 hl (by decide) rfl (fun ls hl => ?_)
    refine lv_iinc (v := 2) (lv' := [(5, .int 2), (4, .int (4 - ((2 * ((p0 - 6) / 3)) + 1))), (3, .int (4 - (4 - (2 * ((p0 - 6) - (p0 - 6) / 3 * 3))))), (6, .int (4 - ((2 * ((p0 - 6) / 3)) + 1))), (2, .int (p0 - 6)), (0, .int p0), (1, .int 7)]) hx hb dX4_movedStroke_78 hl (k := 3) rfl (by decide) (by decide) rfl (fun ls hl => ?_)
    refine lv_goto (tgt := 58) hx hb dX4_movedStroke_81 (by decide) ?_
    refine lv_iload hx hb dX4_movedStroke_58 (lv_at hl 0 rfl) ?_
    refine lv_iload_n hx hb dX4_movedStroke_60 rfl (lv_at hl 6 rfl) ?_
    refine lv_iconst (v := 4) hx hb dX4_movedStroke_61 (by decide) ?_
    refine lv_irem hx hb dX4_movedStroke_62 (by decide) ?_
    refine lv_topc 3 (by decide) ?_
    refine lv_icmp_ge (tgt := 84) hx hb dX4_movedStroke_63 (by decide) (fun c9 => absurd c9 (by decide)) (fun _ => ?_)
    refine lv_iload_n hx hb dX4_movedStroke_66 rfl (lv_at hl 2 rfl) ?_
    refine lv_istore (lv' := [(6, .int (4 - (4 - (2 * ((p0 - 6) - (p0 - 6) / 3 * 3))))), (5, .int 2), (4, .int (4 - ((2 * ((p0 - 6) / 3)) + 1))), (3, .int (4 - (4 - (2 * ((p0 - 6) - (p0 - 6) / 3 * 3))))), (2, .int (p0 - 6)), (0, .int p0), (1, .int 7)]) hx hb dX4_movedStroke_67 hl (by decide) rfl (fun ls hl => ?_)
    refine lv_iconst (v := 4) hx hb dX4_movedStroke_69 (by decide) ?_
    refine lv_iload hx hb dX4_movedStroke_70 (lv_at hl 2 rfl) ?_
    refine lv_isub hx hb dX4_movedStroke_72 ?_
    refine lv_istore_n (lv' := [(3, .int (4 - (4 - ((2 * ((p0 - 6) / 3)) + 1)))), (6, .int (4 - (4 - (2 * ((p0 - 6) - (p0 - 6) / 3 * 3))))), (5, .int 2), (4, .int (4 - ((2 * ((p0 - 6) / 3)) + 1))), (2, .int (p0 - 6)), (0, .int p0), (1, .int 7)]) hx hb dX4_movedStroke_73 rfl hl (by decide) rfl (fun ls hl => ?_)
    refine lv_iload hx hb dX4_movedStroke_74 (lv_at hl 1 rfl) ?_
    refine lv_istore (lv' := [(4, .int (4 - (4 - (2 * ((p0 - 6) - (p0 - 6) / 3 * 3))))), (3, .int (4 - (4 - ((2 * ((p0 - 6) / 3)) + 1)))), (6, .int (4 - (4 - (2 * ((p0 - 6) - (p0 - 6) / 3 * 3))))), (5, .int 2), (2, .int (p0 - 6)), (0, .int p0), (1, .int 7)]) hx hb dX4_movedStroke_76 hl (by decide) rfl (fun ls hl => ?_)
    refine lv_iinc (v := 3) (lv' := [(5, .int 3), (4, .int (4 - (4 - (2 * ((p0 - 6) - (p0 - 6) / 3 * 3))))), (3, .int (4 - (4 - ((2 * ((p0 - 6) / 3)) + 1)))), (6, .int (4 - (4 - (2 * ((p0 - 6) - (p0 - 6) / 3 * 3))))), (2, .int (p0 - 6)), (0, .int p0), (1, .int 7)]) hx hb dX4_movedStroke_78 hl (k := 3) rfl (by decide) (by decide) rfl (fun ls hl => ?_)
    refine lv_goto (tgt := 58) hx hb dX4_movedStroke_81 (by decide) ?_
    refine lv_iload hx hb dX4_movedStroke_58 (lv_at hl 0 rfl) ?_
    refine lv_iload_n hx hb dX4_movedStroke_60 rfl (lv_at hl 6 rfl) ?_
    refine lv_iconst (v := 4) hx hb dX4_movedStroke_61 (by decide) ?_
    refine lv_irem hx hb dX4_movedStroke_62 (by decide) ?_
    refine lv_topc 3 (by decide) ?_
    refine lv_icmp_ge (tgt := 84) hx hb dX4_movedStroke_63 (by decide) (fun _ => ?_) (fun c9 => absurd (by decide) c9)
    refine lv_iload hx hb dX4_movedStroke_84 (lv_at hl 1 rfl) ?_
    refine lv_iconst (v := 2) hx hb dX4_movedStroke_86 (by decide) ?_
    refine lv_irem hx hb dX4_movedStroke_87 (by decide) ?_
    refine lv_if_ne (tgt := 100) hx hb dX4_movedStroke_88 (by decide) (fun c_2 => ?_) (fun c_2 => ?_)
    · skip
      refine lv_bipush (v := 6) hx hb dX4_movedStroke_100 (by decide) ?_
      refine lv_iconst (v := 3) hx hb dX4_movedStroke_102 (by decide) ?_
      refine lv_iload hx hb dX4_movedStroke_103 (lv_at hl 1 rfl) ?_
      refine lv_iconst (v := 2) hx hb dX4_movedStroke_105 (by decide) ?_
      refine lv_idiv hx hb dX4_movedStroke_106 (by decide) ?_
      refine lv_imul hx hb dX4_movedStroke_107 ?_
      refine lv_iadd hx hb dX4_movedStroke_108 ?_
      refine lv_iload_n hx hb dX4_movedStroke_109 rfl (lv_at hl 2 rfl) ?_
      refine lv_iconst (v := 2) hx hb dX4_movedStroke_110 (by decide) ?_
      refine lv_idiv hx hb dX4_movedStroke_111 (by decide) ?_
      refine lv_iadd hx hb dX4_movedStroke_112 ?_
      exact ze_i hx hb hr hlocks dX4_movedStroke_113 trivial
    · skip
      refine lv_iload hx hb dX4_movedStroke_91 (lv_at hl 1 rfl) ?_
      refine lv_iload_n hx hb dX4_movedStroke_93 rfl (lv_at hl 2 rfl) ?_
      refine lv_iconst (v := 2) hx hb dX4_movedStroke_94 (by decide) ?_
      refine lv_idiv hx hb dX4_movedStroke_95 (by decide) ?_
      refine lv_iadd hx hb dX4_movedStroke_96 ?_
      refine lv_goto (tgt := 113) hx hb dX4_movedStroke_97 (by decide) ?_
      exact ze_i hx hb hr hlocks dX4_movedStroke_113 trivial
  · skip
    refine lv_iconst (v := 2) hx hb dX4_movedStroke_9 (by decide) ?_
    refine lv_iload_n hx hb dX4_movedStroke_10 rfl (lv_at hl 1 rfl) ?_
    refine lv_iconst (v := 2) hx hb dX4_movedStroke_11 (by decide) ?_
    refine lv_irem hx hb dX4_movedStroke_12 (by decide) ?_
    refine lv_imul hx hb dX4_movedStroke_13 ?_
    refine lv_iconst (v := 1) hx hb dX4_movedStroke_14 (by decide) ?_
    refine lv_iadd hx hb dX4_movedStroke_15 ?_
    refine lv_goto (tgt := 24) hx hb dX4_movedStroke_16 (by decide) ?_
    refine lv_istore_n (lv' := [(3, .int ((2 * (p0 - p0 / 2 * 2)) + 1)), (2, .int (p0 - 6)), (0, .int p0), (1, .int 7)]) hx hb dX4_movedStroke_24 rfl hl (by decide) rfl (fun ls hl => ?_)
    refine lv_iload_n hx hb dX4_movedStroke_25 rfl (lv_at hl 1 rfl) ?_
    refine lv_if_ge (tgt := 37) hx hb dX4_movedStroke_26 (by decide) (fun c9 => absurd c9 c_1) (fun _ => ?_)
    refine lv_iconst (v := 2) hx hb dX4_movedStroke_29 (by decide) ?_
    refine lv_iload_n hx hb dX4_movedStroke_30 rfl (lv_at hl 2 rfl) ?_
    refine lv_iconst (v := 2) hx hb dX4_movedStroke_31 (by decide) ?_
    refine lv_idiv hx hb dX4_movedStroke_32 (by decide) ?_
    refine lv_imul hx hb dX4_movedStroke_33 ?_
    refine lv_goto (tgt := 44) hx hb dX4_movedStroke_34 (by decide) ?_
    refine lv_istore (lv' := [(4, .int (2 * (p0 / 2))), (3, .int ((2 * (p0 - p0 / 2 * 2)) + 1)), (2, .int (p0 - 6)), (0, .int p0), (1, .int 7)]) hx hb dX4_movedStroke_44 hl (by decide) rfl (fun ls hl => ?_)
    refine lv_iload_n hx hb dX4_movedStroke_46 rfl (lv_at hl 4 rfl) ?_
    refine lv_iconst (v := 4) hx hb dX4_movedStroke_47 (by decide) ?_
    refine lv_icmp_lt (tgt := 55) hx hb dX4_movedStroke_48 (by decide) (fun c9 => absurd c9 (by decide)) (fun _ => ?_)
    refine lv_iconst (v := 4) hx hb dX4_movedStroke_51 (by decide) ?_
    refine lv_iload_n hx hb dX4_movedStroke_52 rfl (lv_at hl 1 rfl) ?_
    refine lv_isub hx hb dX4_movedStroke_53 ?_
    refine lv_istore_n (lv' := [(3, .int (4 - ((2 * (p0 - p0 / 2 * 2)) + 1))), (4, .int (2 * (p0 / 2))), (2, .int (p0 - 6)), (0, .int p0), (1, .int 7)]) hx hb dX4_movedStroke_54 rfl hl (by decide) rfl (fun ls hl => ?_)
    refine lv_iconst (v := 0) hx hb dX4_movedStroke_55 (by decide) ?_
    refine lv_istore (lv' := [(5, .int 0), (3, .int (4 - ((2 * (p0 - p0 / 2 * 2)) + 1))), (4, .int (2 * (p0 / 2))), (2, .int (p0 - 6)), (0, .int p0), (1, .int 7)]) hx hb dX4_movedStroke_56 hl (by decide) rfl (fun ls hl => ?_)
    refine lv_iload hx hb dX4_movedStroke_58 (lv_at hl 0 rfl) ?_
    refine lv_iload_n hx hb dX4_movedStroke_60 rfl (lv_at hl 5 rfl) ?_
    refine lv_iconst (v := 4) hx hb dX4_movedStroke_61 (by decide) ?_
    refine lv_irem hx hb dX4_movedStroke_62 (by decide) ?_
    refine lv_topc 3 (by decide) ?_
    refine lv_icmp_ge (tgt := 84) hx hb dX4_movedStroke_63 (by decide) (fun c9 => absurd c9 (by decide)) (fun _ => ?_)
    refine lv_iload_n hx hb dX4_movedStroke_66 rfl (lv_at hl 1 rfl) ?_
    refine lv_istore (lv' := [(6, .int (4 - ((2 * (p0 - p0 / 2 * 2)) + 1))), (5, .int 0), (3, .int (4 - ((2 * (p0 - p0 / 2 * 2)) + 1))), (4, .int (2 * (p0 / 2))), (2, .int (p0 - 6)), (0, .int p0), (1, .int 7)]) hx hb dX4_movedStroke_67 hl (by decide) rfl (fun ls hl => ?_)
    refine lv_iconst (v := 4) hx hb dX4_movedStroke_69 (by decide) ?_
    refine lv_iload hx hb dX4_movedStroke_70 (lv_at hl 3 rfl) ?_
    refine lv_isub hx hb dX4_movedStroke_72 ?_
    refine lv_istore_n (lv' := [(3, .int (4 - (2 * (p0 / 2)))), (6, .int (4 - ((2 * (p0 - p0 / 2 * 2)) + 1))), (5, .int 0), (4, .int (2 * (p0 / 2))), (2, .int (p0 - 6)), (0, .int p0), (1, .int 7)]) hx hb dX4_movedStroke_73 rfl hl (by decide) rfl (fun ls hl => ?_)
    refine lv_iload hx hb dX4_movedStroke_74 (lv_at hl 1 rfl) ?_
    refine lv_istore (lv' := [(4, .int (4 - ((2 * (p0 - p0 / 2 * 2)) + 1))), (3, .int (4 - (2 * (p0 / 2)))), (6, .int (4 - ((2 * (p0 - p0 / 2 * 2)) + 1))), (5, .int 0), (2, .int (p0 - 6)), (0, .int p0), (1, .int 7)]) hx hb dX4_movedStroke_76 hl (by decide) rfl (fun ls hl => ?_)
    refine lv_iinc (v := 1) (lv' := [(5, .int 1), (4, .int (4 - ((2 * (p0 - p0 / 2 * 2)) + 1))), (3, .int (4 - (2 * (p0 / 2)))), (6, .int (4 - ((2 * (p0 - p0 / 2 * 2)) + 1))), (2, .int (p0 - 6)), (0, .int p0), (1, .int 7)]) hx hb dX4_movedStroke_78 hl (k := 3) rfl (by decide) (by decide) rfl (fun ls hl => ?_)
    refine lv_goto (tgt := 58) hx hb dX4_movedStroke_81 (by decide) ?_
    refine lv_iload hx hb dX4_movedStroke_58 (lv_at hl 0 rfl) ?_
    refine lv_iload_n hx hb dX4_movedStroke_60 rfl (lv_at hl 6 rfl) ?_
    refine lv_iconst (v := 4) hx hb dX4_movedStroke_61 (by decide) ?_
    refine lv_irem hx hb dX4_movedStroke_62 (by decide) ?_
    refine lv_topc 3 (by decide) ?_
    refine lv_icmp_ge (tgt := 84) hx hb dX4_movedStroke_63 (by decide) (fun c9 => absurd c9 (by decide)) (fun _ => ?_)
    refine lv_iload_n hx hb dX4_movedStroke_66 rfl (lv_at hl 2 rfl) ?_
    refine lv_istore (lv' := [(6, .int (4 - (2 * (p0 / 2)))), (5, .int 1), (4, .int (4 - ((2 * (p0 - p0 / 2 * 2)) + 1))), (3, .int (4 - (2 * (p0 / 2)))), (2, .int (p0 - 6)), (0, .int p0), (1, .int 7)]) hx hb dX4_movedStroke_67 hl (by decide) rfl (fun ls hl => ?_)
    refine lv_iconst (v := 4) hx hb dX4_movedStroke_69 (by decide) ?_
    refine lv_iload hx hb dX4_movedStroke_70 (lv_at hl 2 rfl) ?_
    refine lv_isub hx hb dX4_movedStroke_72 ?_
    refine lv_istore_n (lv' := [(3, .int (4 - (4 - ((2 * (p0 - p0 / 2 * 2)) + 1)))), (6, .int (4 - (2 * (p0 / 2)))), (5, .int 1), (4, .int (4 - ((2 * (p0 - p0 / 2 * 2)) + 1))), (2, .int (p0 - 6)), (0, .int p0), (1, .int 7)]) hx hb dX4_movedStroke_73 rfl hl (by decide) rfl (fun ls hl => ?_)
    refine lv_iload hx hb dX4_movedStroke_74 (lv_at hl 1 rfl) ?_
    refine lv_istore (lv' := [(4, .int (4 - (2 * (p0 / 2)))), (3, .int (4 - (4 - ((2 * (p0 - p0 / 2 * 2)) + 1)))), (6, .int (4 - (2 * (p0 / 2)))), (5, .int 1), (2, .int (p0 - 6)), (0, .int p0), (1, .int 7)]) hx hb dX4_movedStroke_76 hl (by decide) rfl (fun ls hl => ?_)
    refine lv_iinc (v := 2) (lv' := [(5, .int 2), (4, .int (4 - (2 * (p0 / 2)))), (3, .int (4 - (4 - ((2 * (p0 - p0 / 2 * 2)) + 1)))), (6, .int (4 - (2 * (p0 / 2)))), (2, .int (p0 - 6)), (0, .int p0), (1, .int 7)]) hx hb dX4_movedStroke_78 hl (k := 3) rfl (by decide) (by decide) rfl (fun ls hl => ?_)
    refine lv_goto (tgt := 58) hx hb dX4_movedStroke_81 (by decide) ?_
    refine lv_iload hx hb dX4_movedStroke_58 (lv_at hl 0 rfl) ?_
    refine lv_iload_n hx hb dX4_movedStroke_60 rfl (lv_at hl 6 rfl) ?_
    refine lv_iconst (v := 4) hx hb dX4_movedStroke_61 (by decide) ?_
    refine lv_irem hx hb dX4_movedStroke_62 (by decide) ?_
    refine lv_topc 3 (by decide) ?_
    refine lv_icmp_ge (tgt := 84) hx hb dX4_movedStroke_63 (by decide) (fun c9 => absurd c9 (by decide)) (fun _ => ?_)
    refine lv_iload_n hx hb dX4_movedStroke_66 rfl (lv_at hl 2 rfl) ?_
    refine lv_istore (lv' := [(6, .int (4 - (4 - ((2 * (p0 - p0 / 2 * 2)) + 1)))), (5, .int 2), (4, .int (4 - (2 * (p0 / 2)))), (3, .int (4 - (4 - ((2 * (p0 - p0 / 2 * 2)) + 1)))), (2, .int (p0 - 6)), (0, .int p0), (1, .int 7)]) hx hb dX4_movedStroke_67 hl (by decide) rfl (fun ls hl => ?_)
    refine lv_iconst (v := 4) hx hb dX4_movedStroke_69 (by decide) ?_
    refine lv_iload hx hb dX4_movedStroke_70 (lv_at hl 2 rfl) ?_
    refine lv_isub hx hb dX4_movedStroke_72 ?_
    refine lv_istore_n (lv' := [(3, .int (4 - (4 - (2 * (p0 / 2))))), (6, .int (4 - (4 - ((2 * (p0 - p0 / 2 * 2)) + 1)))), (5, .int 2), (4, .int (4 - (2 * (p0 / 2)))), (2, .int (p0 - 6)), (0, .int p0), (1, .int 7)]) hx hb dX4_movedStroke_73 rfl hl (by decide) rfl (fun ls hl => ?_)
    refine lv_iload hx hb dX4_movedStroke_74 (lv_at hl 1 rfl) ?_
    refine lv_istore (lv' := [(4, .int (4 - (4 - ((2 * (p0 - p0 / 2 * 2)) + 1)))), (3, .int (4 - (4 - (2 * (p0 / 2))))), (6, .int (4 - (4 - ((2 * (p0 - p0 / 2 * 2)) + 1)))), (5, .int 2), (2, .int (p0 - 6)), (0, .int p0), (1, .int 7)]) hx hb dX4_movedStroke_76 hl (by decide) rfl (fun ls hl => ?_)
    refine lv_iinc (v := 3) (lv' := [(5, .int 3), (4, .int (4 - (4 - ((2 * (p0 - p0 / 2 * 2)) + 1)))), (3, .int (4 - (4 - (2 * (p0 / 2))))), (6, .int (4 - (4 - ((2 * (p0 - p0 / 2 * 2)) + 1)))), (2, .int (p0 - 6)), (0, .int p0), (1, .int 7)]) hx hb dX4_movedStroke_78 hl (k := 3) rfl (by decide) (by decide) rfl (fun ls hl => ?_)
    refine lv_goto (tgt := 58) hx hb dX4_movedStroke_81 (by decide) ?_
    refine lv_iload hx hb dX4_movedStroke_58 (lv_at hl 0 rfl) ?_
    refine lv_iload_n hx hb dX4_movedStroke_60 rfl (lv_at hl 6 rfl) ?_
    refine lv_iconst (v := 4) hx hb dX4_movedStroke_61 (by decide) ?_
    refine lv_irem hx hb dX4_movedStroke_62 (by decide) ?_
    refine lv_topc 3 (by decide) ?_
    refine lv_icmp_ge (tgt := 84) hx hb dX4_movedStroke_63 (by decide) (fun _ => ?_) (fun c9 => absurd (by decide) c9)
    refine lv_iload hx hb dX4_movedStroke_84 (lv_at hl 1 rfl) ?_
    refine lv_iconst (v := 2) hx hb dX4_movedStroke_86 (by decide) ?_
    refine lv_irem hx hb dX4_movedStroke_87 (by decide) ?_
    refine lv_if_ne (tgt := 100) hx hb dX4_movedStroke_88 (by decide) (fun c_3 => ?_) (fun c_3 => ?_)
    · skip
      refine lv_bipush (v := 6) hx hb dX4_movedStroke_100 (by decide) ?_
      refine lv_iconst (v := 3) hx hb dX4_movedStroke_102 (by decide) ?_
      refine lv_iload hx hb dX4_movedStroke_103 (lv_at hl 1 rfl) ?_
      refine lv_iconst (v := 2) hx hb dX4_movedStroke_105 (by decide) ?_
      refine lv_idiv hx hb dX4_movedStroke_106 (by decide) ?_
      refine lv_imul hx hb dX4_movedStroke_107 ?_
      refine lv_iadd hx hb dX4_movedStroke_108 ?_
      refine lv_iload_n hx hb dX4_movedStroke_109 rfl (lv_at hl 2 rfl) ?_
      refine lv_iconst (v := 2) hx hb dX4_movedStroke_110 (by decide) ?_
      refine lv_idiv hx hb dX4_movedStroke_111 (by decide) ?_
      refine lv_iadd hx hb dX4_movedStroke_112 ?_
      exact ze_i hx hb hr hlocks dX4_movedStroke_113 trivial
    · skip
      refine lv_iload hx hb dX4_movedStroke_91 (lv_at hl 1 rfl) ?_
      refine lv_iload_n hx hb dX4_movedStroke_93 rfl (lv_at hl 2 rfl) ?_
      refine lv_iconst (v := 2) hx hb dX4_movedStroke_94 (by decide) ?_
      refine lv_idiv hx hb dX4_movedStroke_95 (by decide) ?_
      refine lv_iadd hx hb dX4_movedStroke_96 ?_
      refine lv_goto (tgt := 113) hx hb dX4_movedStroke_97 (by decide) ?_
      exact ze_i hx hb hr hlocks dX4_movedStroke_113 trivial
set_option maxHeartbeats 4000000 in
set_option maxRecDepth 100000 in
theorem c_X4_init (l : Launch) (D : va_G) (k : Nat → ClassId) (h0 : Nat) : MetM l D k yX4_init cX4_init 3 none 1 3 1032 [.ref h0] [(h0, .inr (4, [.null, .null, .null, .int 0]))] noX (qMv D (fun _ : ((Nat → Nat) × (Nat → Int32) × (Nat → Int32)) => True) (fun u : ((Nat → Nat) × (Nat → Int32) × (Nat → Int32)) => [(h0, .inr (4, [.ref (u.1 0), .ref (u.1 1), .ref (u.1 2), .int 1])), ((u.1 0), .inl (k 0, 512, .inl (lowF u.2.1))), ((u.1 1), .inl (k 0, 512, .inl (highF u.2.2))), ((u.1 2), .inl (k 0, 8, .inl (fun _ => 0)))])) := by
  refine metM_of 0 ck_X4_init (Nat.le_of_ble_eq_true rfl) (fun p e s m args below meth c A hx hb hml hr hlocks hown hts hK hX hP hD hA hin ls hl => ?_)
  have hP : va_P D vwCl [(h0, .inr (4, [.null, .null, .null, .int 0]))] s.heap := hP
  have hD : va_D A [(h0, .inr (4, [.null, .null, .null, .int 0]))] := hD
  have hS : va_S A s.heap s.heap [] := va_S.rf
  have hin : meth.name = "<init>" := hin
  have hown : s.vm.findClass "HideReader$Lattice" = some m.cls := hown
  have hl : lv_has ls 3 [(0, .ref h0)] := hl
  refine lv_aload_n hx hb dX4_init_0 rfl (lv_at hl 0 rfl) ?_
  refine W.objInit hx hb hown (hts _ uw_2_28) (hts _ uw_1_29) (hts _ uw_1_30) rfl (by rw [hml]; exact hl.1) rfl dX4_init_1 (Nat.le_of_ble_eq_true rfl) (Nat.le_of_ble_eq_true rfl) ?_
  refine W.eq (g2 := F0 m 4 ls []) rfl ?_
  refine lv_aload_n hx hb dX4_init_4 rfl (lv_at hl 0 rfl) ?_
  refine lv_sipush (v := 512) hx hb dX4_init_5 (by decide) ?_
  refine zn_a (atype := .int) (ty := .int) hx hb hts uw_1_121 rfl hK hP hD hS hA 0 rfl (a0 := (512, .inl (fun _ => 0))) (N' := 512) (fun _ => rfl) (by decide) (by decide) (by decide) (Nat.le_of_ble_eq_true rfl) (Nat.le_of_ble_eq_true rfl) dX4_init_8 (fun q_1 H hP hD hS => ?_)
  have hP : va_P D vwCl [(h0, .inr (4, [.null, .null, .null, .int 0])), (q_1, .inl (k 0, 512, .inl (fun _ => 0)))] H := hP
  have hD : va_D A [(h0, .inr (4, [.null, .null, .null, .int 0])), (q_1, .inl (k 0, 512, .inl (fun _ => 0)))] := hD
  refine W.widen (k := 1) (n := 512) (Nat.le_of_ble_eq_true rfl) (Nat.le_of_ble_eq_true rfl) ?_
  refine va_putF (D := D) (ci := 4) (v := .ref q_1) (ty := .array .int) (C := RX4) (T := TX4) (N := 4) hx hb hts uc_4 tyX4 tyX4_ok nmX4 hown hK hP hD hS 0 rfl rfl 0 (by decide) (hts _ uw_2_35) (fun _ h9 => h9) rfl hin rfl (by decide +kernel) rfl rfl (Nat.le_of_ble_eq_true rfl) dX4_init_10 (fun H locs hP hD hS => ?_)
  have hP : va_P D vwCl [(h0, .inr (4, [.ref q_1, .null, .null, .int 0])), (q_1, .inl (k 0, 512, .inl (fun _ => 0)))] H := hP
  have hD : va_D A [(h0, .inr (4, [.ref q_1, .null, .null, .int 0])), (q_1, .inl (k 0, 512, .inl (fun _ => 0)))] := hD
  refine lv_aload_n hx hb dX4_init_13 rfl (lv_at hl 0 rfl) ?_
  refine lv_sipush (v := 512) hx hb dX4_init_14 (by decide) ?_
  refine zn_a (atype := .int) (ty := .int) hx hb hts uw_1_121 rfl hK hP hD hS hA 0 rfl (a0 := (512, .inl (fun _ => 0))) (N' := 512) (fun _ => rfl) (by decide) (by decide) (by decide) (Nat.le_of_ble_eq_true rfl) (Nat.le_of_ble_eq_true rfl) dX4_init_17 (fun q_2 H hP hD hS => ?_)
  have hP : va_P D vwCl [(h0, .inr (4, [.ref q_1, .null, .null, .int 0])), (q_1, .inl (k 0, 512, .inl (fun _ => 0))), (q_2, .inl (k 0, 512, .inl (fun _ => 0)))] H := hP
  have hD : va_D A [(h0, .inr (4, [.ref q_1, .null, .null, .int 0])), (q_1, .inl (k 0, 512, .inl (fun _ => 0))), (q_2, .inl (k 0, 512, .inl (fun _ => 0)))] := hD
  refine W.widen (k := 2) (n := 1024) (Nat.le_of_ble_eq_true rfl) (Nat.le_of_ble_eq_true rfl) ?_
  refine va_putF (D := D) (ci := 4) (v := .ref q_2) (ty := .array .int) (C := RX4) (T := TX4) (N := 4) hx hb hts uc_4 tyX4 tyX4_ok nmX4 hown hK hP hD hS 0 rfl rfl 1 (by decide) (hts _ uw_2_36) (fun _ h9 => h9) rfl hin rfl (by decide +kernel) rfl rfl (Nat.le_of_ble_eq_true rfl) dX4_init_19 (fun H locs hP hD hS => ?_)
  have hP : va_P D vwCl [(h0, .inr (4, [.ref q_1, .ref q_2, .null, .int 0])), (q_1, .inl (k 0, 512, .inl (fun _ => 0))), (q_2, .inl (k 0, 512, .inl (fun _ => 0)))] H := hP
  have hD : va_D A [(h0, .inr (4, [.ref q_1, .ref q_2, .null, .int 0])), (q_1, .inl (k 0, 512, .inl (fun _ => 0))), (q_2, .inl (k 0, 512, .inl (fun _ => 0)))] := hD
  refine lv_aload_n hx hb dX4_init_22 rfl (lv_at hl 0 rfl) ?_
  refine lv_bipush (v := 8) hx hb dX4_init_23 (by decide) ?_
  refine zn_a (atype := .int) (ty := .int) hx hb hts uw_1_121 rfl hK hP hD hS hA 0 rfl (a0 := (8, .inl (fun _ => 0))) (N' := 8) (fun _ => rfl) (by decide) (by decide) (by decide) (Nat.le_of_ble_eq_true rfl) (Nat.le_of_ble_eq_true rfl) dX4_init_25 (fun q_3 H hP hD hS => ?_)
  have hP : va_P D vwCl [(h0, .inr (4, [.ref q_1, .ref q_2, .null, .int 0])), (q_1, .inl (k 0, 512, .inl (fun _ => 0))), (q_2, .inl (k 0, 512, .inl (fun _ => 0))), (q_3, .inl (k 0, 8, .inl (fun _ => 0)))] H := hP
  have hD : va_D A [(h0, .inr (4, [.ref q_1, .ref q_2, .null, .int 0])), (q_1, .inl (k 0, 512, .inl (fun _ => 0))), (q_2, .inl (k 0, 512, .inl (fun _ => 0))), (q_3, .inl (k 0, 8, .inl (fun _ => 0)))] := hD
  refine W.widen (k := 3) (n := 1032) (Nat.le_of_ble_eq_true rfl) (Nat.le_of_ble_eq_true rfl) ?_
  refine va_putF (D := D) (ci := 4) (v := .ref q_3) (ty := .array .int) (C := RX4) (T := TX4) (N := 4) hx hb hts uc_4 tyX4 tyX4_ok nmX4 hown hK hP hD hS 0 rfl rfl 2 (by decide) (hts _ uw_2_37) (fun _ h9 => h9) rfl hin rfl (by decide +kernel) rfl rfl (Nat.le_of_ble_eq_true rfl) dX4_init_27 (fun H locs hP hD hS => ?_)
  have hP : va_P D vwCl [(h0, .inr (4, [.ref q_1, .ref q_2, .ref q_3, .int 0])), (q_1, .inl (k 0, 512, .inl (fun _ => 0))), (q_2, .inl (k 0, 512, .inl (fun _ => 0))), (q_3, .inl (k 0, 8, .inl (fun _ => 0)))] H := hP
  have hD : va_D A [(h0, .inr (4, [.ref q_1, .ref q_2, .ref q_3, .int 0])), (q_1, .inl (k 0, 512, .inl (fun _ => 0))), (q_2, .inl (k 0, 512, .inl (fun _ => 0))), (q_3, .inl (k 0, 8, .inl (fun _ => 0)))] := hD
  refine lv_aload_n hx hb dX4_init_30 rfl (lv_at hl 0 rfl) ?_
  refine lv_iconst (v := 1) hx hb dX4_init_31 (by decide) ?_
  refine va_put (D := D) (ci := 4) (v := .int 1) (ty := .int) (C := RX4) (T := TX4) (N := 4) hx hb hts uc_4 tyX4 tyX4_ok nmX4 hown hK hP hD hS 0 rfl rfl 3 (by decide) (hts _ uw_2_38) (fun _ h9 => h9) rfl (by decide +kernel) rfl rfl (Nat.le_of_ble_eq_true rfl) dX4_init_32 (fun H locs hP hD hS => ?_)
  have hP : va_P D vwCl [(h0, .inr (4, [.ref q_1, .ref q_2, .ref q_3, .int 1])), (q_1, .inl (k 0, 512, .inl (fun _ => 0))), (q_2, .inl (k 0, 512, .inl (fun _ => 0))), (q_3, .inl (k 0, 8, .inl (fun _ => 0)))] H := hP
  have hD : va_D A [(h0, .inr (4, [.ref q_1, .ref q_2, .ref q_3, .int 1])), (q_1, .inl (k 0, 512, .inl (fun _ => 0))), (q_2, .inl (k 0, 512, .inl (fun _ => 0))), (q_3, .inl (k 0, 8, .inl (fun _ => 0)))] := hD
  refine lv_iconst (v := 0) hx hb dX4_init_35 (by decide) ?_
  refine lv_istore_n (lv' := [(1, .int 0), (0, .ref h0)]) hx hb dX4_init_36 rfl hl (by decide) rfl (fun ls hl => ?_)
  refine lv_iload_n hx hb dX4_init_37 rfl (lv_at hl 0 rfl) ?_
  refine lv_bipush (v := 8) hx hb dX4_init_38 (by decide) ?_
  refine lv_icmp_ge (tgt := 94) hx hb dX4_init_40 (by decide) (fun c9 => absurd c9 (by decide)) (fun _ => ?_)
  refine lv_iconst (v := 0) hx hb dX4_init_43 (by decide) ?_
  refine lv_istore_n (lv' := [(2, .int 0), (1, .int 0), (0, .ref h0)]) hx hb dX4_init_44 rfl hl (by decide) rfl (fun ls hl => ?_)
  refine lv_iload_n hx hb dX4_init_45 rfl (lv_at hl 0 rfl) ?_
  refine lv_bipush (v := 6) hx hb dX4_init_46 (by decide) ?_
  refine lv_icmp_ge (tgt := 88) hx hb dX4_init_48 (by decide) (fun c9 => absurd c9 (by decide)) (fun _ => ?_)
  refine lv_aload_n hx hb dX4_init_51 rfl (lv_at hl 2 rfl) ?_
  refine va_get (D := D) (ci := 4) (v := .ref q_1) (C := RX4) (T := TX4) (N := 4) hx hb hts uc_4 hown hK hP 0 rfl rfl 0 (by decide) (hts _ uw_2_35) (fun _ h9 => h9) rfl dX4_init_52 ?_
  refine lv_iload_n hx hb dX4_init_55 rfl (lv_at hl 1 rfl) ?_
  refine lv_iload_n hx hb dX4_init_56 rfl (lv_at hl 0 rfl) ?_
  refine lv_iload_n hx hb dX4_init_57 rfl (lv_at hl 0 rfl) ?_
  refine lv_iload_n hx hb dX4_init_58 rfl (lv_at hl 1 rfl) ?_
  refine zr_i (zr_S (own := "HideReader$Lattice") (As := [.int 0, .int 0]) (rest := [.int 0, .int 0, .ref q_1]) (ws := []) hx hb hml hown hts hK noX_stb (fun _ _ _ => trivial) (c_X4_movedStroke l D k ) ck_X4_movedStroke uw_2_30 uw_2_29 (zs_P hP [] rfl) rfl hl.1 rfl (Nat.le_of_ble_eq_true rfl) dX4_init_59 ⟨Nat.le_of_ble_eq_true rfl, Nat.le_of_ble_eq_true rfl⟩ ⟨Nat.le_of_ble_eq_true rfl, Nat.le_of_ble_eq_true rfl⟩) (fun r_4 hr_4 => ?_)
  subst hr_4
  refine zm_v (wr := [(h0, .inr (4, [.ref q_1, .ref q_2, .ref q_3, .int 1])), (q_2, .inl (k 0, 512, .inl (fun _ => 0))), (q_3, .inl (k 0, 8, .inl (fun _ => 0)))]) hP hD hS hA [1] [0, 2, 3] (zm_S (own := "HideReader$Lattice") (As := [.ref q_1, .int 0, .int 0, .int 0]) (rest := []) (ws := [(q_1, .inl (k 0, 512, .inl (fun _ => 0)))]) hx hb hml hown hts hK noX_stb (fun _ _ _ => trivial) (c_X4_enter l D k q_1 0 0 1 (by decide) (by decide) (by decide) 0 (fun _ => 0)) ck_X4_enter uw_2_33 uw_2_32 hP hD [1] rfl (by decide) rfl hl.1 rfl (Nat.le_of_ble_eq_true rfl) dX4_init_62 ⟨Nat.le_of_ble_eq_true rfl, Nat.le_of_ble_eq_true rfl⟩ ⟨Nat.le_of_ble_eq_true rfl, Nat.le_of_ble_eq_true rfl⟩) rfl rfl (by decide) (by decide) (fun u_5 H locs hu_5 hP hD hS => ?_)
  have hP : va_P D vwCl [(h0, .inr (4, [.ref q_1, .ref q_2, .ref q_3, .int 1])), (q_2, .inl (k 0, 512, .inl (fun _ => 0))), (q_3, .inl (k 0, 8, .inl (fun _ => 0))), (q_1, .inl (k 0, 512, .inl u_5))] H := hP
  have hD : va_D A [(h0, .inr (4, [.ref q_1, .ref q_2, .ref q_3, .int 1])), (q_2, .inl (k 0, 512, .inl (fun _ => 0))), (q_3, .inl (k 0, 8, .inl (fun _ => 0))), (q_1, .inl (k 0, 512, .inl u_5))] := hD
  have hLow : ∀ j, j < 1 → ((fun _ => 0) : Nat → Int32) j = nI j := by decide
  have hLow : ∀ j, j < 2 * 1 → u_5 j = nI j := en_s hu_5 hLow (by decide +kernel)
  refine lv_aload_n hx hb dX4_init_65 rfl (lv_at hl 2 rfl) ?_
  refine va_get (D := D) (ci := 4) (v := .ref q_2) (C := RX4) (T := TX4) (N := 4) hx hb hts uc_4 hown hK hP 0 rfl rfl 1 (by decide) (hts _ uw_2_36) (fun _ h9 => h9) rfl dX4_init_66 ?_
  refine lv_iload_n hx hb dX4_init_69 rfl (lv_at hl 1 rfl) ?_
  refine lv_iload_n hx hb dX4_init_70 rfl (lv_at hl 0 rfl) ?_
  refine lv_iload_n hx hb dX4_init_71 rfl (lv_at hl 0 rfl) ?_
  refine lv_bipush (v := 6) hx hb dX4_init_72 (by decide) ?_
  refine lv_iadd hx hb dX4_init_74 ?_
  refine lv_topc 6 (by decide) ?_
  refine lv_iload_n hx hb dX4_init_75 rfl (lv_at hl 1 rfl) ?_
  refine zr_i (zr_S (own := "HideReader$Lattice") (As := [.int 6, .int 0]) (rest := [.int 0, .int 0, .ref q_2]) (ws := []) hx hb hml hown hts hK noX_stb (fun _ _ _ => trivial) (c_X4_movedStroke_2 l D k ) ck_X4_movedStroke uw_2_30 uw_2_29 (zs_P hP [] rfl) rfl hl.1 rfl (Nat.le_of_ble_eq_true rfl) dX4_init_76 ⟨Nat.le_of_ble_eq_true rfl, Nat.le_of_ble_eq_true rfl⟩ ⟨Nat.le_of_ble_eq_true rfl, Nat.le_of_ble_eq_true rfl⟩) (fun r_6 hr_6 => ?_)
  subst hr_6
  refine zm_v (wr := [(h0, .inr (4, [.ref q_1, .ref q_2, .ref q_3, .int 1])), (q_3, .inl (k 0, 8, .inl (fun _ => 0))), (q_1, .inl (k 0, 512, .inl u_5))]) hP hD hS hA [1] [0, 2, 3] (zm_S (own := "HideReader$Lattice") (As := [.ref q_2, .int 0, .int 0, .int 6]) (rest := []) (ws := [(q_2, .inl (k 0, 512, .inl (fun _ => 0)))]) hx hb hml hown hts hK noX_stb (fun _ _ _ => trivial) (c_X4_enter l D k q_2 0 0 1 (by decide) (by decide) (by decide) 6 (fun _ => 0)) ck_X4_enter uw_2_33 uw_2_32 hP hD [1] rfl (by decide) rfl hl.1 rfl (Nat.le_of_ble_eq_true rfl) dX4_init_79 ⟨Nat.le_of_ble_eq_true rfl, Nat.le_of_ble_eq_true rfl⟩ ⟨Nat.le_of_ble_eq_true rfl, Nat.le_of_ble_eq_true rfl⟩) rfl rfl (by decide) (by decide) (fun u_7 H locs hu_7 hP hD hS => ?_)
  have hP : va_P D vwCl [(h0, .inr (4, [.ref q_1, .ref q_2, .ref q_3, .int 1])), (q_3, .inl (k 0, 8, .inl (fun _ => 0))), (q_1, .inl (k 0, 512, .inl u_5)), (q_2, .inl (k 0, 512, .inl u_7))] H := hP
  have hD : va_D A [(h0, .inr (4, [.ref q_1, .ref q_2, .ref q_3, .int 1])), (q_3, .inl (k 0, 8, .inl (fun _ => 0))), (q_1, .inl (k 0, 512, .inl u_5)), (q_2, .inl (k 0, 512, .inl u_7))] := hD
  have hHigh : ∀ j, j < 1 → ((fun _ => 0) : Nat → Int32) j = (fun j => nI j <<< ((6 : Int32) &&& 31)) j := by decide
  have hHigh : ∀ j, j < 2 * 1 → u_7 j = (fun j => nI j <<< ((6 : Int32) &&& 31)) j := en_s hu_7 hHigh (by decide +kernel)
  refine lv_iinc (v := 1) (lv' := [(2, .int 1), (1, .int 0), (0, .ref h0)]) hx hb dX4_init_82 hl (k := 0) rfl (by decide) (by decide) rfl (fun ls hl => ?_)
  refine lv_goto (tgt := 45) hx hb dX4_init_85 (by decide) ?_
  refine lv_iload_n hx hb dX4_init_45 rfl (lv_at hl 0 rfl) ?_
  refine lv_bipush (v := 6) hx hb dX4_init_46 (by decide) ?_
  refine lv_icmp_ge (tgt := 88) hx hb dX4_init_48 (by decide) (fun c9 => absurd c9 (by decide)) (fun _ => ?_)
  refine lv_aload_n hx hb dX4_init_51 rfl (lv_at hl 2 rfl) ?_
  refine va_get (D := D) (ci := 4) (v := .ref q_1) (C := RX4) (T := TX4) (N := 4) hx hb hts uc_4 hown hK hP 0 rfl rfl 0 (by decide) (hts _ uw_2_35) (fun _ h9 => h9) rfl dX4_init_52 ?_
  refine lv_iload_n hx hb dX4_init_55 rfl (lv_at hl 1 rfl) ?_
  refine lv_iload_n hx hb dX4_init_56 rfl (lv_at hl 0 rfl) ?_
  refine lv_iload_n hx hb dX4_init_57 rfl (lv_at hl 0 rfl) ?_
  refine lv_iload_n hx hb dX4_init_58 rfl (lv_at hl 1 rfl) ?_
  refine zr_i (zr_S (own := "HideReader$Lattice") (As := [.int 1, .int 0]) (rest := [.int 1, .int 0, .ref q_1]) (ws := []) hx hb hml hown hts hK noX_stb (fun _ _ _ => trivial) (c_X4_movedStroke_3 l D k ) ck_X4_movedStroke uw_2_30 uw_2_29 (zs_P hP [] rfl) rfl hl.1 rfl (Nat.le_of_ble_eq_true rfl) dX4_init_59 ⟨Nat.le_of_ble_eq_true rfl, Nat.le_of_ble_eq_true rfl⟩ ⟨Nat.le_of_ble_eq_true rfl, Nat.le_of_ble_eq_true rfl⟩) (fun r_8 hr_8 => ?_)
  subst hr_8
  refine zm_v (wr := [(h0, .inr (4, [.ref q_1, .ref q_2, .ref q_3, .int 1])), (q_3, .inl (k 0, 8, .inl (fun _ => 0))), (q_2, .inl (k 0, 512, .inl u_7))]) hP hD hS hA [2] [0, 1, 3] (zm_S (own := "HideReader$Lattice") (As := [.ref q_1, .int 0, .int 1, .int 1]) (rest := []) (ws := [(q_1, .inl (k 0, 512, .inl u_5))]) hx hb hml hown hts hK noX_stb (fun _ _ _ => trivial) (c_X4_enter l D k q_1 0 1 2 (by decide) (by decide) (by decide) 1 u_5) ck_X4_enter uw_2_33 uw_2_32 hP hD [2] rfl (by decide) rfl hl.1 rfl (Nat.le_of_ble_eq_true rfl) dX4_init_62 ⟨Nat.le_of_ble_eq_true rfl, Nat.le_of_ble_eq_true rfl⟩ ⟨Nat.le_of_ble_eq_true rfl, Nat.le_of_ble_eq_true rfl⟩) rfl rfl (by decide) (by decide) (fun u_9 H locs hu_9 hP hD hS => ?_)
  have hP : va_P D vwCl [(h0, .inr (4, [.ref q_1, .ref q_2, .ref q_3, .int 1])), (q_3, .inl (k 0, 8, .inl (fun _ => 0))), (q_2, .inl (k 0, 512, .inl u_7)), (q_1, .inl (k 0, 512, .inl u_9))] H := hP
  have hD : va_D A [(h0, .inr (4, [.ref q_1, .ref q_2, .ref q_3, .int 1])), (q_3, .inl (k 0, 8, .inl (fun _ => 0))), (q_2, .inl (k 0, 512, .inl u_7)), (q_1, .inl (k 0, 512, .inl u_9))] := hD
  have hLow : ∀ j, j < 2 * 2 → u_9 j = nI j := en_s hu_9 hLow (by decide +kernel)
  refine lv_aload_n hx hb dX4_init_65 rfl (lv_at hl 2 rfl) ?_
  refine va_get (D := D) (ci := 4) (v := .ref q_2) (C := RX4) (T := TX4) (N := 4) hx hb hts uc_4 hown hK hP 0 rfl rfl 1 (by decide) (hts _ uw_2_36) (fun _ h9 => h9) rfl dX4_init_66 ?_
  refine lv_iload_n hx hb dX4_init_69 rfl (lv_at hl 1 rfl) ?_
  refine lv_iload_n hx hb dX4_init_70 rfl (lv_at hl 0 rfl) ?_
  refine lv_iload_n hx hb dX4_init_71 rfl (lv_at hl 0 rfl) ?_
  refine lv_bipush (v := 6) hx hb dX4_init_72 (by decide) ?_
  refine lv_iadd hx hb dX4_init_74 ?_
  refine lv_topc 7 (by decide) ?_
  refine lv_iload_n hx hb dX4_init_75 rfl (lv_at hl 1 rfl) ?_
  refine zr_i (zr_S (own := "HideReader$Lattice") (As := [.int 7, .int 0]) (rest := [.int 1, .int 0, .ref q_2]) (ws := []) hx hb hml hown hts hK noX_stb (fun _ _ _ => trivial) (c_X4_movedStroke_4 l D k ) ck_X4_movedStroke uw_2_30 uw_2_29 (zs_P hP [] rfl) rfl hl.1 rfl (Nat.le_of_ble_eq_true rfl) dX4_init_76 ⟨Nat.le_of_ble_eq_true rfl, Nat.le_of_ble_eq_true rfl⟩ ⟨Nat.le_of_ble_eq_true rfl, Nat.le_of_ble_eq_true rfl⟩) (fun r_10 hr_10 => ?_)
  subst hr_10
  refine zm_v (wr := [(h0, .inr (4, [.ref q_1, .ref q_2, .ref q_3, .int 1])), (q_3, .inl (k 0, 8, .inl (fun _ => 0))), (q_1, .inl (k 0, 512, .inl u_9))]) hP hD hS hA [2] [0, 1, 3] (zm_S (own := "HideReader$Lattice") (As := [.ref q_2, .int 0, .int 1, .int 7]) (rest := []) (ws := [(q_2, .inl (k 0, 512, .inl u_7))]) hx hb hml hown hts hK noX_stb (fun _ _ _ => trivial) (c_X4_enter l D k q_2 0 1 2 (by decide) (by decide) (by decide) 7 u_7) ck_X4_enter uw_2_33 uw_2_32 hP hD [2] rfl (by decide) rfl hl.1 rfl (Nat.le_of_ble_eq_true rfl) dX4_init_79 ⟨Nat.le_of_ble_eq_true rfl, Nat.le_of_ble_eq_true rfl⟩ ⟨Nat.le_of_ble_eq_true rfl, Nat.le_of_ble_eq_true rfl⟩) rfl rfl (by decide) (by decide) (fun u_11 H locs hu_11 hP hD hS => ?_)
  have hP : va_P D vwCl [(h0, .inr (4, [.ref q_1, .ref q_2, .ref q_3, .int 1])), (q_3, .inl (k 0, 8, .inl (fun _ => 0))), (q_1, .inl (k 0, 512, .inl u_9)), (q_2, .inl (k 0, 512, .inl u_11))] H := hP
  have hD : va_D A [(h0, .inr (4, [.ref q_1, .ref q_2, .ref q_3, .int 1])), (q_3, .inl (k 0, 8, .inl (fun _ => 0))), (q_1, .inl (k 0, 512, .inl u_9)), (q_2, .inl (k 0, 512, .inl u_11))] := hD
  have hHigh : ∀ j, j < 2 * 2 → u_11 j = (fun j => nI j <<< ((6 : Int32) &&& 31)) j := en_s hu_11 hHigh (by decide +kernel)
  refine lv_iinc (v := 2) (lv' := [(2, .int 2), (1, .int 0), (0, .ref h0)]) hx hb dX4_init_82 hl (k := 0) rfl (by decide) (by decide) rfl (fun ls hl => ?_)
  refine lv_goto (tgt := 45) hx hb dX4_init_85 (by decide) ?_
  refine lv_iload_n hx hb dX4_init_45 rfl (lv_at hl 0 rfl) ?_
  refine lv_bipush (v := 6) hx hb dX4_init_46 (by decide) ?_
  refine lv_icmp_ge (tgt := 88) hx hb dX4_init_48 (by decide) (fun c9 => absurd c9 (by decide)) (fun _ => ?_)
  refine lv_aload_n hx hb dX4_init_51 rfl (lv_at hl 2 rfl) ?_
  refine va_get (D := D) (ci := 4) (v := .ref q_1) (C := RX4) (T := TX4) (N := 4) hx hb hts uc_4 hown hK hP 0 rfl rfl 0 (by decide) (hts _ uw_2_35) (fun _ h9 => h9) rfl dX4_init_52 ?_
  refine lv_iload_n hx hb dX4_init_55 rfl (lv_at hl 1 rfl) ?_
  refine lv_iload_n hx hb dX4_init_56 rfl (lv_at hl 0 rfl) ?_
  refine lv_iload_n hx hb dX4_init_57 rfl (lv_at hl 0 rfl) ?_
  refine lv_iload_n hx hb dX4_init_58 rfl (lv_at hl 1 rfl) ?_
  refine zr_i (zr_S (own := "HideReader$Lattice") (As := [.int 2, .int 0]) (rest := [.int 2, .int 0, .ref q_1]) (ws := []) hx hb hml hown hts hK noX_stb (fun _ _ _ => trivial) (c_X4_movedStroke_5 l D k ) ck_X4_movedStroke uw_2_30 uw_2_29 (zs_P hP [] rfl) rfl hl.1 rfl (Nat.le_of_ble_eq_true rfl) dX4_init_59 ⟨Nat.le_of_ble_eq_true rfl, Nat.le_of_ble_eq_true rfl⟩ ⟨Nat.le_of_ble_eq_true rfl, Nat.le_of_ble_eq_true rfl⟩) (fun r_12 hr_12 => ?_)
  subst hr_12
  refine zm_v (wr := [(h0, .inr (4, [.ref q_1, .ref q_2, .ref q_3, .int 1])), (q_3, .inl (k 0, 8, .inl (fun _ => 0))), (q_2, .inl (k 0, 512, .inl u_11))]) hP hD hS hA [2] [0, 1, 3] (zm_S (own := "HideReader$Lattice") (As := [.ref q_1, .int 0, .int 2, .int 2]) (rest := []) (ws := [(q_1, .inl (k 0, 512, .inl u_9))]) hx hb hml hown hts hK noX_stb (fun _ _ _ => trivial) (c_X4_enter l D k q_1 0 2 4 (by decide) (by decide) (by decide) 2 u_9) ck_X4_enter uw_2_33 uw_2_32 hP hD [2] rfl (by decide) rfl hl.1 rfl (Nat.le_of_ble_eq_true rfl) dX4_init_62 ⟨Nat.le_of_ble_eq_true rfl, Nat.le_of_ble_eq_true rfl⟩ ⟨Nat.le_of_ble_eq_true rfl, Nat.le_of_ble_eq_true rfl⟩) rfl rfl (by decide) (by decide) (fun u_13 H locs hu_13 hP hD hS => ?_)
  have hP : va_P D vwCl [(h0, .inr (4, [.ref q_1, .ref q_2, .ref q_3, .int 1])), (q_3, .inl (k 0, 8, .inl (fun _ => 0))), (q_2, .inl (k 0, 512, .inl u_11)), (q_1, .inl (k 0, 512, .inl u_13))] H := hP
  have hD : va_D A [(h0, .inr (4, [.ref q_1, .ref q_2, .ref q_3, .int 1])), (q_3, .inl (k 0, 8, .inl (fun _ => 0))), (q_2, .inl (k 0, 512, .inl u_11)), (q_1, .inl (k 0, 512, .inl u_13))] := hD
  have hLow : ∀ j, j < 2 * 4 → u_13 j = nI j := en_s hu_13 hLow (by decide +kernel)
  refine lv_aload_n hx hb dX4_init_65 rfl (lv_at hl 2 rfl) ?_
  refine va_get (D := D) (ci := 4) (v := .ref q_2) (C := RX4) (T := TX4) (N := 4) hx hb hts uc_4 hown hK hP 0 rfl rfl 1 (by decide) (hts _ uw_2_36) (fun _ h9 => h9) rfl dX4_init_66 ?_
  refine lv_iload_n hx hb dX4_init_69 rfl (lv_at hl 1 rfl) ?_
  refine lv_iload_n hx hb dX4_init_70 rfl (lv_at hl 0 rfl) ?_
  refine lv_iload_n hx hb dX4_init_71 rfl (lv_at hl 0 rfl) ?_
  refine lv_bipush (v := 6) hx hb dX4_init_72 (by decide) ?_
  refine lv_iadd hx hb dX4_init_74 ?_
  refine lv_topc 8 (by decide) ?_
  refine lv_iload_n hx hb dX4_init_75 rfl (lv_at hl 1 rfl) ?_
  refine zr_i (zr_S (own := "HideReader$Lattice") (As := [.int 8, .int 0]) (rest := [.int 2, .int 0, .ref q_2]) (ws := []) hx hb hml hown hts hK noX_stb (fun _ _ _ => trivial) (c_X4_movedStroke_6 l D k ) ck_X4_movedStroke uw_2_30 uw_2_29 (zs_P hP [] rfl) rfl hl.1 rfl (Nat.le_of_ble_eq_true rfl) dX4_init_76 ⟨Nat.le_of_ble_eq_true rfl, Nat.le_of_ble_eq_true rfl⟩ ⟨Nat.le_of_ble_eq_true rfl, Nat.le_of_ble_eq_true rfl⟩) (fun r_14 hr_14 => ?_)
  subst hr_14
  refine zm_v (wr := [(h0, .inr (4, [.ref q_1, .ref q_2, .ref q_3, .int 1])), (q_3, .inl (k 0, 8, .inl (fun _ => 0))), (q_1, .inl (k 0, 512, .inl u_13))]) hP hD hS hA [2] [0, 1, 3] (zm_S (own := "HideReader$Lattice") (As := [.ref q_2, .int 0, .int 2, .int 8]) (rest := []) (ws := [(q_2, .inl (k 0, 512, .inl u_11))]) hx hb hml hown hts hK noX_stb (fun _ _ _ => trivial) (c_X4_enter l D k q_2 0 2 4 (by decide) (by decide) (by decide) 8 u_11) ck_X4_enter uw_2_33 uw_2_32 hP hD [2] rfl (by decide) rfl hl.1 rfl (Nat.le_of_ble_eq_true rfl) dX4_init_79 ⟨Nat.le_of_ble_eq_true rfl, Nat.le_of_ble_eq_true rfl⟩ ⟨Nat.le_of_ble_eq_true rfl, Nat.le_of_ble_eq_true rfl⟩) rfl rfl (by decide) (by decide) (fun u_15 H locs hu_15 hP hD hS => ?_)
  have hP : va_P D vwCl [(h0, .inr (4, [.ref q_1, .ref q_2, .ref q_3, .int 1])), (q_3, .inl (k 0, 8, .inl (fun _ => 0))), (q_1, .inl (k 0, 512, .inl u_13)), (q_2, .inl (k 0, 512, .inl u_15))] H := hP
  have hD : va_D A [(h0, .inr (4, [.ref q_1, .ref q_2, .ref q_3, .int 1])), (q_3, .inl (k 0, 8, .inl (fun _ => 0))), (q_1, .inl (k 0, 512, .inl u_13)), (q_2, .inl (k 0, 512, .inl u_15))] := hD
  have hHigh : ∀ j, j < 2 * 4 → u_15 j = (fun j => nI j <<< ((6 : Int32) &&& 31)) j := en_s hu_15 hHigh (by decide +kernel)
  refine lv_iinc (v := 3) (lv' := [(2, .int 3), (1, .int 0), (0, .ref h0)]) hx hb dX4_init_82 hl (k := 0) rfl (by decide) (by decide) rfl (fun ls hl => ?_)
  refine lv_goto (tgt := 45) hx hb dX4_init_85 (by decide) ?_
  refine lv_iload_n hx hb dX4_init_45 rfl (lv_at hl 0 rfl) ?_
  refine lv_bipush (v := 6) hx hb dX4_init_46 (by decide) ?_
  refine lv_icmp_ge (tgt := 88) hx hb dX4_init_48 (by decide) (fun c9 => absurd c9 (by decide)) (fun _ => ?_)
  refine lv_aload_n hx hb dX4_init_51 rfl (lv_at hl 2 rfl) ?_
  refine va_get (D := D) (ci := 4) (v := .ref q_1) (C := RX4) (T := TX4) (N := 4) hx hb hts uc_4 hown hK hP 0 rfl rfl 0 (by decide) (hts _ uw_2_35) (fun _ h9 => h9) rfl dX4_init_52 ?_
  refine lv_iload_n hx hb dX4_init_55 rfl (lv_at hl 1 rfl) ?_
  refine lv_iload_n hx hb dX4_init_56 rfl (lv_at hl 0 rfl) ?_
  refine lv_iload_n hx hb dX4_init_57 rfl (lv_at hl 0 rfl) ?_
  refine lv_iload_n hx hb dX4_init_58 rfl (lv_at hl 1 rfl) ?_
  refine zr_i (zr_S (own := "HideReader$Lattice") (As := [.int 3, .int 0]) (rest := [.int 3, .int 0, .ref q_1]) (ws := []) hx hb hml hown hts hK noX_stb (fun _ _ _ => trivial) (c_X4_movedStroke_7 l D k ) ck_X4_movedStroke uw_2_30 uw_2_29 (zs_P hP [] rfl) rfl hl.1 rfl (Nat.le_of_ble_eq_true rfl) dX4_init_59 ⟨Nat.le_of_ble_eq_true rfl, Nat.le_of_ble_eq_true rfl⟩ ⟨Nat.le_of_ble_eq_true rfl, Nat.le_of_ble_eq_true rfl⟩) (fun r_16 hr_16 => ?_)
  subst hr_16
  refine zm_v (wr := [(h0, .inr (4, [.ref q_1, .ref q_2, .ref q_3, .int 1])), (q_3, .inl (k 0, 8, .inl (fun _ => 0))), (q_2, .inl (k 0, 512, .inl u_15))]) hP hD hS hA [2] [0, 1, 3] (zm_S (own := "HideReader$Lattice") (As := [.ref q_1, .int 0, .int 3, .int 3]) (rest := []) (ws := [(q_1, .inl (k 0, 512, .inl u_13))]) hx hb hml hown hts hK noX_stb (fun _ _ _ => trivial) (c_X4_enter l D k q_1 0 3 8 (by decide) (by decide) (by decide) 3 u_13) ck_X4_enter uw_2_33 uw_2_32 hP hD [2] rfl (by decide) rfl hl.1 rfl (Nat.le_of_ble_eq_true rfl) dX4_init_62 ⟨Nat.le_of_ble_eq_true rfl, Nat.le_of_ble_eq_true rfl⟩ ⟨Nat.le_of_ble_eq_true rfl, Nat.le_of_ble_eq_true rfl⟩) rfl rfl (by decide) (by decide) (fun u_17 H locs hu_17 hP hD hS => ?_)
  have hP : va_P D vwCl [(h0, .inr (4, [.ref q_1, .ref q_2, .ref q_3, .int 1])), (q_3, .inl (k 0, 8, .inl (fun _ => 0))), (q_2, .inl (k 0, 512, .inl u_15)), (q_1, .inl (k 0, 512, .inl u_17))] H := hP
  have hD : va_D A [(h0, .inr (4, [.ref q_1, .ref q_2, .ref q_3, .int 1])), (q_3, .inl (k 0, 8, .inl (fun _ => 0))), (q_2, .inl (k 0, 512, .inl u_15)), (q_1, .inl (k 0, 512, .inl u_17))] := hD
  have hLow : ∀ j, j < 2 * 8 → u_17 j = nI j := en_s hu_17 hLow (by decide +kernel)
  refine lv_aload_n hx hb dX4_init_65 rfl (lv_at hl 2 rfl) ?_
  refine va_get (D := D) (ci := 4) (v := .ref q_2) (C := RX4) (T := TX4) (N := 4) hx hb hts uc_4 hown hK hP 0 rfl rfl 1 (by decide) (hts _ uw_2_36) (fun _ h9 => h9) rfl dX4_init_66 ?_
  refine lv_iload_n hx hb dX4_init_69 rfl (lv_at hl 1 rfl) ?_
  refine lv_iload_n hx hb dX4_init_70 rfl (lv_at hl 0 rfl) ?_
  refine lv_iload_n hx hb dX4_init_71 rfl (lv_at hl 0 rfl) ?_
  refine lv_bipush (v := 6) hx hb dX4_init_72 (by decide) ?_
  refine lv_iadd hx hb dX4_init_74 ?_
  refine lv_topc 9 (by decide) ?_
  refine lv_iload_n hx hb dX4_init_75 rfl (lv_at hl 1 rfl) ?_
  refine zr_i (zr_S (own := "HideReader$Lattice") (As := [.int 9, .int 0]) (rest := [.int 3, .int 0, .ref q_2]) (ws := []) hx hb hml hown hts hK noX_stb (fun _ _ _ => trivial) (c_X4_movedStroke_8 l D k ) ck_X4_movedStroke uw_2_30 uw_2_29 (zs_P hP [] rfl) rfl hl.1 rfl (Nat.le_of_ble_eq_true rfl) dX4_init_76 ⟨Nat.le_of_ble_eq_true rfl, Nat.le_of_ble_eq_true rfl⟩ ⟨Nat.le_of_ble_eq_true rfl, Nat.le_of_ble_eq_true rfl⟩) (fun r_18 hr_18 => ?_)
  subst hr_18
  refine zm_v (wr := [(h0, .inr (4, [.ref q_1, .ref q_2, .ref q_3, .int 1])), (q_3, .inl (k 0, 8, .inl (fun _ => 0))), (q_1, .inl (k 0, 512, .inl u_17))]) hP hD hS hA [2] [0, 1, 3] (zm_S (own := "HideReader$Lattice") (As := [.ref q_2, .int 0, .int 3, .int 9]) (rest := []) (ws := [(q_2, .inl (k 0, 512, .inl u_15))]) hx hb hml hown hts hK noX_stb (fun _ _ _ => trivial) (c_X4_enter l D k q_2 0 3 8 (by decide) (by decide) (by decide) 9 u_15) ck_X4_enter uw_2_33 uw_2_32 hP hD [2] rfl (by decide) rfl hl.1 rfl (Nat.le_of_ble_eq_true rfl) dX4_init_79 ⟨Nat.le_of_ble_eq_true rfl, Nat.le_of_ble_eq_true rfl⟩ ⟨Nat.le_of_ble_eq_true rfl, Nat.le_of_ble_eq_true rfl⟩) rfl rfl (by decide) (by decide) (fun u_19 H locs hu_19 hP hD hS => ?_)
  have hP : va_P D vwCl [(h0, .inr (4, [.ref q_1, .ref q_2, .ref q_3, .int 1])), (q_3, .inl (k 0, 8, .inl (fun _ => 0))), (q_1, .inl (k 0, 512, .inl u_17)), (q_2, .inl (k 0, 512, .inl u_19))] H := hP
  have hD : va_D A [(h0, .inr (4, [.ref q_1, .ref q_2, .ref q_3, .int 1])), (q_3, .inl (k 0, 8, .inl (fun _ => 0))), (q_1, .inl (k 0, 512, .inl u_17)), (q_2, .inl (k 0, 512, .inl u_19))] := hD
  have hHigh : ∀ j, j < 2 * 8 → u_19 j = (fun j => nI j <<< ((6 : Int32) &&& 31)) j := en_s hu_19 hHigh (by decide +kernel)
  refine lv_iinc (v := 4) (lv' := [(2, .int 4), (1, .int 0), (0, .ref h0)]) hx hb dX4_init_82 hl (k := 0) rfl (by decide) (by decide) rfl (fun ls hl => ?_)
  refine lv_goto (tgt := 45) hx hb dX4_init_85 (by decide) ?_
  refine lv_iload_n hx hb dX4_init_45 rfl (lv_at hl 0 rfl) ?_
  refine lv_bipush (v := 6) hx hb dX4_init_46 (by decide) ?_
  refine lv_icmp_ge (tgt := 88) hx hb dX4_init_48 (by decide) (fun c9 => absurd c9 (by decide)) (fun _ => ?_)
  refine lv_aload_n hx hb dX4_init_51 rfl (lv_at hl 2 rfl) ?_
  refine va_get (D := D) (ci := 4) (v := .ref q_1) (C := RX4) (T := TX4) (N := 4) hx hb hts uc_4 hown hK hP 0 rfl rfl 0 (by decide) (hts _ uw_2_35) (fun _ h9 => h9) rfl dX4_init_52 ?_
  refine lv_iload_n hx hb dX4_init_55 rfl (lv_at hl 1 rfl) ?_
  refine lv_iload_n hx hb dX4_init_56 rfl (lv_at hl 0 rfl) ?_
  refine lv_iload_n hx hb dX4_init_57 rfl (lv_at hl 0 rfl) ?_
  refine lv_iload_n hx hb dX4_init_58 rfl (lv_at hl 1 rfl) ?_
  refine zr_i (zr_S (own := "HideReader$Lattice") (As := [.int 4, .int 0]) (rest := [.int 4, .int 0, .ref q_1]) (ws := []) hx hb hml hown hts hK noX_stb (fun _ _ _ => trivial) (c_X4_movedStroke_9 l D k ) ck_X4_movedStroke uw_2_30 uw_2_29 (zs_P hP [] rfl) rfl hl.1 rfl (Nat.le_of_ble_eq_true rfl) dX4_init_59 ⟨Nat.le_of_ble_eq_true rfl, Nat.le_of_ble_eq_true rfl⟩ ⟨Nat.le_of_ble_eq_true rfl, Nat.le_of_ble_eq_true rfl⟩) (fun r_20 hr_20 => ?_)
  subst hr_20
  refine zm_v (wr := [(h0, .inr (4, [.ref q_1, .ref q_2, .ref q_3, .int 1])), (q_3, .inl (k 0, 8, .inl (fun _ => 0))), (q_2, .inl (k 0, 512, .inl u_19))]) hP hD hS hA [2] [0, 1, 3] (zm_S (own := "HideReader$Lattice") (As := [.ref q_1, .int 0, .int 4, .int 4]) (rest := []) (ws := [(q_1, .inl (k 0, 512, .inl u_17))]) hx hb hml hown hts hK noX_stb (fun _ _ _ => trivial) (c_X4_enter l D k q_1 0 4 16 (by decide) (by decide) (by decide) 4 u_17) ck_X4_enter uw_2_33 uw_2_32 hP hD [2] rfl (by decide) rfl hl.1 rfl (Nat.le_of_ble_eq_true rfl) dX4_init_62 ⟨Nat.le_of_ble_eq_true rfl, Nat.le_of_ble_eq_true rfl⟩ ⟨Nat.le_of_ble_eq_true rfl, Nat.le_of_ble_eq_true rfl⟩) rfl rfl (by decide) (by decide) (fun u_21 H locs hu_21 hP hD hS => ?_)
  have hP : va_P D vwCl [(h0, .inr (4, [.ref q_1, .ref q_2, .ref q_3, .int 1])), (q_3, .inl (k 0, 8, .inl (fun _ => 0))), (q_2, .inl (k 0, 512, .inl u_19)), (q_1, .inl (k 0, 512, .inl u_21))] H := hP
  have hD : va_D A [(h0, .inr (4, [.ref q_1, .ref q_2, .ref q_3, .int 1])), (q_3, .inl (k 0, 8, .inl (fun _ => 0))), (q_2, .inl (k 0, 512, .inl u_19)), (q_1, .inl (k 0, 512, .inl u_21))] := hD
  have hLow : ∀ j, j < 2 * 16 → u_21 j = nI j := en_s hu_21 hLow (by decide +kernel)
  refine lv_aload_n hx hb dX4_init_65 rfl (lv_at hl 2 rfl) ?_
  refine va_get (D := D) (ci := 4) (v := .ref q_2) (C := RX4) (T := TX4) (N := 4) hx hb hts uc_4 hown hK hP 0 rfl rfl 1 (by decide) (hts _ uw_2_36) (fun _ h9 => h9) rfl dX4_init_66 ?_
  refine lv_iload_n hx hb dX4_init_69 rfl (lv_at hl 1 rfl) ?_
  refine lv_iload_n hx hb dX4_init_70 rfl (lv_at hl 0 rfl) ?_
  refine lv_iload_n hx hb dX4_init_71 rfl (lv_at hl 0 rfl) ?_
  refine lv_bipush (v := 6) hx hb dX4_init_72 (by decide) ?_
  refine lv_iadd hx hb dX4_init_74 ?_
  refine lv_topc 10 (by decide) ?_
  refine lv_iload_n hx hb dX4_init_75 rfl (lv_at hl 1 rfl) ?_
  refine zr_i (zr_S (own := "HideReader$Lattice") (As := [.int 10, .int 0]) (rest := [.int 4, .int 0, .ref q_2]) (ws := []) hx hb hml hown hts hK noX_stb (fun _ _ _ => trivial) (c_X4_movedStroke_10 l D k ) ck_X4_movedStroke uw_2_30 uw_2_29 (zs_P hP [] rfl) rfl hl.1 rfl (Nat.le_of_ble_eq_true rfl) dX4_init_76 ⟨Nat.le_of_ble_eq_true rfl, Nat.le_of_ble_eq_true rfl⟩ ⟨Nat.le_of_ble_eq_true rfl, Nat.le_of_ble_eq_true rfl⟩) (fun r_22 hr_22 => ?_)
  subst hr_22
  refine zm_v (wr := [(h0, .inr (4, [.ref q_1, .ref q_2, .ref q_3, .int 1])), (q_3, .inl (k 0, 8, .inl (fun _ => 0))), (q_1, .inl (k 0, 512, .inl u_21))]) hP hD hS hA [2] [0, 1, 3] (zm_S (own := "HideReader$Lattice") (As := [.ref q_2, .int 0, .int 4, .int 10]) (rest := []) (ws := [(q_2, .inl (k 0, 512, .inl u_19))]) hx hb hml hown hts hK noX_stb (fun _ _ _ => trivial) (c_X4_enter l D k q_2 0 4 16 (by decide) (by decide) (by decide) 10 u_19) ck_X4_enter uw_2_33 uw_2_32 hP hD [2] rfl (by decide) rfl hl.1 rfl (Nat.le_of_ble_eq_true rfl) dX4_init_79 ⟨Nat.le_of_ble_eq_true rfl, Nat.le_of_ble_eq_true rfl⟩ ⟨Nat.le_of_ble_eq_true rfl, Nat.le_of_ble_eq_true rfl⟩) rfl rfl (by decide) (by decide) (fun u_23 H locs hu_23 hP hD hS => ?_)
  have hP : va_P D vwCl [(h0, .inr (4, [.ref q_1, .ref q_2, .ref q_3, .int 1])), (q_3, .inl (k 0, 8, .inl (fun _ => 0))), (q_1, .inl (k 0, 512, .inl u_21)), (q_2, .inl (k 0, 512, .inl u_23))] H := hP
  have hD : va_D A [(h0, .inr (4, [.ref q_1, .ref q_2, .ref q_3, .int 1])), (q_3, .inl (k 0, 8, .inl (fun _ => 0))), (q_1, .inl (k 0, 512, .inl u_21)), (q_2, .inl (k 0, 512, .inl u_23))] := hD
  have hHigh : ∀ j, j < 2 * 16 → u_23 j = (fun j => nI j <<< ((6 : Int32) &&& 31)) j := en_s hu_23 hHigh (by decide +kernel)
  refine lv_iinc (v := 5) (lv' := [(2, .int 5), (1, .int 0), (0, .ref h0)]) hx hb dX4_init_82 hl (k := 0) rfl (by decide) (by decide) rfl (fun ls hl => ?_)
  refine lv_goto (tgt := 45) hx hb dX4_init_85 (by decide) ?_
  refine lv_iload_n hx hb dX4_init_45 rfl (lv_at hl 0 rfl) ?_
  refine lv_bipush (v := 6) hx hb dX4_init_46 (by decide) ?_
  refine lv_icmp_ge (tgt := 88) hx hb dX4_init_48 (by decide) (fun c9 => absurd c9 (by decide)) (fun _ => ?_)
  refine lv_aload_n hx hb dX4_init_51 rfl (lv_at hl 2 rfl) ?_
  refine va_get (D := D) (ci := 4) (v := .ref q_1) (C := RX4) (T := TX4) (N := 4) hx hb hts uc_4 hown hK hP 0 rfl rfl 0 (by decide) (hts _ uw_2_35) (fun _ h9 => h9) rfl dX4_init_52 ?_
  refine lv_iload_n hx hb dX4_init_55 rfl (lv_at hl 1 rfl) ?_
  refine lv_iload_n hx hb dX4_init_56 rfl (lv_at hl 0 rfl) ?_
  refine lv_iload_n hx hb dX4_init_57 rfl (lv_at hl 0 rfl) ?_
  refine lv_iload_n hx hb dX4_init_58 rfl (lv_at hl 1 rfl) ?_
  refine zr_i (zr_S (own := "HideReader$Lattice") (As := [.int 5, .int 0]) (rest := [.int 5, .int 0, .ref q_1]) (ws := []) hx hb hml hown hts hK noX_stb (fun _ _ _ => trivial) (c_X4_movedStroke_11 l D k ) ck_X4_movedStroke uw_2_30 uw_2_29 (zs_P hP [] rfl) rfl hl.1 rfl (Nat.le_of_ble_eq_true rfl) dX4_init_59 ⟨Nat.le_of_ble_eq_true rfl, Nat.le_of_ble_eq_true rfl⟩ ⟨Nat.le_of_ble_eq_true rfl, Nat.le_of_ble_eq_true rfl⟩) (fun r_24 hr_24 => ?_)
  subst hr_24
  refine zm_v (wr := [(h0, .inr (4, [.ref q_1, .ref q_2, .ref q_3, .int 1])), (q_3, .inl (k 0, 8, .inl (fun _ => 0))), (q_2, .inl (k 0, 512, .inl u_23))]) hP hD hS hA [2] [0, 1, 3] (zm_S (own := "HideReader$Lattice") (As := [.ref q_1, .int 0, .int 5, .int 5]) (rest := []) (ws := [(q_1, .inl (k 0, 512, .inl u_21))]) hx hb hml hown hts hK noX_stb (fun _ _ _ => trivial) (c_X4_enter l D k q_1 0 5 32 (by decide) (by decide) (by decide) 5 u_21) ck_X4_enter uw_2_33 uw_2_32 hP hD [2] rfl (by decide) rfl hl.1 rfl (Nat.le_of_ble_eq_true rfl) dX4_init_62 ⟨Nat.le_of_ble_eq_true rfl, Nat.le_of_ble_eq_true rfl⟩ ⟨Nat.le_of_ble_eq_true rfl, Nat.le_of_ble_eq_true rfl⟩) rfl rfl (by decide) (by decide) (fun u_25 H locs hu_25 hP hD hS => ?_)
  have hP : va_P D vwCl [(h0, .inr (4, [.ref q_1, .ref q_2, .ref q_3, .int 1])), (q_3, .inl (k 0, 8, .inl (fun _ => 0))), (q_2, .inl (k 0, 512, .inl u_23)), (q_1, .inl (k 0, 512, .inl u_25))] H := hP
  have hD : va_D A [(h0, .inr (4, [.ref q_1, .ref q_2, .ref q_3, .int 1])), (q_3, .inl (k 0, 8, .inl (fun _ => 0))), (q_2, .inl (k 0, 512, .inl u_23)), (q_1, .inl (k 0, 512, .inl u_25))] := hD
  have hLow : ∀ j, j < 2 * 32 → u_25 j = nI j := en_s hu_25 hLow (by decide +kernel)
  refine lv_aload_n hx hb dX4_init_65 rfl (lv_at hl 2 rfl) ?_
  refine va_get (D := D) (ci := 4) (v := .ref q_2) (C := RX4) (T := TX4) (N := 4) hx hb hts uc_4 hown hK hP 0 rfl rfl 1 (by decide) (hts _ uw_2_36) (fun _ h9 => h9) rfl dX4_init_66 ?_
  refine lv_iload_n hx hb dX4_init_69 rfl (lv_at hl 1 rfl) ?_
  refine lv_iload_n hx hb dX4_init_70 rfl (lv_at hl 0 rfl) ?_
  refine lv_iload_n hx hb dX4_init_71 rfl (lv_at hl 0 rfl) ?_
  refine lv_bipush (v := 6) hx hb dX4_init_72 (by decide) ?_
  refine lv_iadd hx hb dX4_init_74 ?_
  refine lv_topc 11 (by decide) ?_
  refine lv_iload_n hx hb dX4_init_75 rfl (lv_at hl 1 rfl) ?_
  refine zr_i (zr_S (own := "HideReader$Lattice") (As := [.int 11, .int 0]) (rest := [.int 5, .int 0, .ref q_2]) (ws := []) hx hb hml hown hts hK noX_stb (fun _ _ _ => trivial) (c_X4_movedStroke_12 l D k ) ck_X4_movedStroke uw_2_30 uw_2_29 (zs_P hP [] rfl) rfl hl.1 rfl (Nat.le_of_ble_eq_true rfl) dX4_init_76 ⟨Nat.le_of_ble_eq_true rfl, Nat.le_of_ble_eq_true rfl⟩ ⟨Nat.le_of_ble_eq_true rfl, Nat.le_of_ble_eq_true rfl⟩) (fun r_26 hr_26 => ?_)
  subst hr_26
  refine zm_v (wr := [(h0, .inr (4, [.ref q_1, .ref q_2, .ref q_3, .int 1])), (q_3, .inl (k 0, 8, .inl (fun _ => 0))), (q_1, .inl (k 0, 512, .inl u_25))]) hP hD hS hA [2] [0, 1, 3] (zm_S (own := "HideReader$Lattice") (As := [.ref q_2, .int 0, .int 5, .int 11]) (rest := []) (ws := [(q_2, .inl (k 0, 512, .inl u_23))]) hx hb hml hown hts hK noX_stb (fun _ _ _ => trivial) (c_X4_enter l D k q_2 0 5 32 (by decide) (by decide) (by decide) 11 u_23) ck_X4_enter uw_2_33 uw_2_32 hP hD [2] rfl (by decide) rfl hl.1 rfl (Nat.le_of_ble_eq_true rfl) dX4_init_79 ⟨Nat.le_of_ble_eq_true rfl, Nat.le_of_ble_eq_true rfl⟩ ⟨Nat.le_of_ble_eq_true rfl, Nat.le_of_ble_eq_true rfl⟩) rfl rfl (by decide) (by decide) (fun u_27 H locs hu_27 hP hD hS => ?_)
  have hP : va_P D vwCl [(h0, .inr (4, [.ref q_1, .ref q_2, .ref q_3, .int 1])), (q_3, .inl (k 0, 8, .inl (fun _ => 0))), (q_1, .inl (k 0, 512, .inl u_25)), (q_2, .inl (k 0, 512, .inl u_27))] H := hP
  have hD : va_D A [(h0, .inr (4, [.ref q_1, .ref q_2, .ref q_3, .int 1])), (q_3, .inl (k 0, 8, .inl (fun _ => 0))), (q_1, .inl (k 0, 512, .inl u_25)), (q_2, .inl (k 0, 512, .inl u_27))] := hD
  have hHigh : ∀ j, j < 2 * 32 → u_27 j = (fun j => nI j <<< ((6 : Int32) &&& 31)) j := en_s hu_27 hHigh (by decide +kernel)
  refine lv_iinc (v := 6) (lv' := [(2, .int 6), (1, .int 0), (0, .ref h0)]) hx hb dX4_init_82 hl (k := 0) rfl (by decide) (by decide) rfl (fun ls hl => ?_)
  refine lv_goto (tgt := 45) hx hb dX4_init_85 (by decide) ?_
  refine lv_iload_n hx hb dX4_init_45 rfl (lv_at hl 0 rfl) ?_
  refine lv_bipush (v := 6) hx hb dX4_init_46 (by decide) ?_
  refine lv_icmp_ge (tgt := 88) hx hb dX4_init_48 (by decide) (fun _ => ?_) (fun c9 => absurd (by decide) c9)
  refine lv_iinc (v := 1) (lv' := [(1, .int 1), (2, .int 6), (0, .ref h0)]) hx hb dX4_init_88 hl (k := 1) rfl (by decide) (by decide) rfl (fun ls hl => ?_)
  refine lv_goto (tgt := 37) hx hb dX4_init_91 (by decide) ?_
  refine lv_iload_n hx hb dX4_init_37 rfl (lv_at hl 0 rfl) ?_
  refine lv_bipush (v := 8) hx hb dX4_init_38 (by decide) ?_
  refine lv_icmp_ge (tgt := 94) hx hb dX4_init_40 (by decide) (fun c9 => absurd c9 (by decide)) (fun _ => ?_)
  refine lv_iconst (v := 0) hx hb dX4_init_43 (by decide) ?_
  refine lv_istore_n (lv' := [(2, .int 0), (1, .int 1), (0, .ref h0)]) hx hb dX4_init_44 rfl hl (by decide) rfl (fun ls hl => ?_)
  refine lv_iload_n hx hb dX4_init_45 rfl (lv_at hl 0 rfl) ?_
  refine lv_bipush (v := 6) hx hb dX4_init_46 (by decide) ?_
  refine lv_icmp_ge (tgt := 88) hx hb dX4_init_48 (by decide) (fun c9 => absurd c9 (by decide)) (fun _ => ?_)
  refine lv_aload_n hx hb dX4_init_51 rfl (lv_at hl 2 rfl) ?_
  refine va_get (D := D) (ci := 4) (v := .ref q_1) (C := RX4) (T := TX4) (N := 4) hx hb hts uc_4 hown hK hP 0 rfl rfl 0 (by decide) (hts _ uw_2_35) (fun _ h9 => h9) rfl dX4_init_52 ?_
  refine lv_iload_n hx hb dX4_init_55 rfl (lv_at hl 1 rfl) ?_
  refine lv_iload_n hx hb dX4_init_56 rfl (lv_at hl 0 rfl) ?_
  refine lv_iload_n hx hb dX4_init_57 rfl (lv_at hl 0 rfl) ?_
  refine lv_iload_n hx hb dX4_init_58 rfl (lv_at hl 1 rfl) ?_
  refine zr_i (zr_S (own := "HideReader$Lattice") (As := [.int 0, .int 1]) (rest := [.int 0, .int 1, .ref q_1]) (ws := []) hx hb hml hown hts hK noX_stb (fun _ _ _ => trivial) (c_X4_movedStroke_13 l D k 0) ck_X4_movedStroke uw_2_30 uw_2_29 (zs_P hP [] rfl) rfl hl.1 rfl (Nat.le_of_ble_eq_true rfl) dX4_init_59 ⟨Nat.le_of_ble_eq_true rfl, Nat.le_of_ble_eq_true rfl⟩ ⟨Nat.le_of_ble_eq_true rfl, Nat.le_of_ble_eq_true rfl⟩) (fun r_28 hr_28 => ?_)
  refine zm_v (wr := [(h0, .inr (4, [.ref q_1, .ref q_2, .ref q_3, .int 1])), (q_3, .inl (k 0, 8, .inl (fun _ => 0))), (q_2, .inl (k 0, 512, .inl u_27))]) hP hD hS hA [2] [0, 1, 3] (zm_S (own := "HideReader$Lattice") (As := [.ref q_1, .int 1, .int 0, .int r_28]) (rest := []) (ws := [(q_1, .inl (k 0, 512, .inl u_25))]) hx hb hml hown hts hK noX_stb (fun _ _ _ => trivial) (c_X4_enter l D k q_1 1 0 1 (by decide) (by decide) (by decide) r_28 u_25) ck_X4_enter uw_2_33 uw_2_32 hP hD [2] rfl (by decide) rfl hl.1 rfl (Nat.le_of_ble_eq_true rfl) dX4_init_62 ⟨Nat.le_of_ble_eq_true rfl, Nat.le_of_ble_eq_true rfl⟩ ⟨Nat.le_of_ble_eq_true rfl, Nat.le_of_ble_eq_true rfl⟩) rfl rfl (by decide) (by decide) (fun u_29 H locs hu_29 hP hD hS => ?_)
  have hP : va_P D vwCl [(h0, .inr (4, [.ref q_1, .ref q_2, .ref q_3, .int 1])), (q_3, .inl (k 0, 8, .inl (fun _ => 0))), (q_2, .inl (k 0, 512, .inl u_27)), (q_1, .inl (k 0, 512, .inl u_29))] H := hP
  have hD : va_D A [(h0, .inr (4, [.ref q_1, .ref q_2, .ref q_3, .int 1])), (q_3, .inl (k 0, 8, .inl (fun _ => 0))), (q_2, .inl (k 0, 512, .inl u_27)), (q_1, .inl (k 0, 512, .inl u_29))] := hD
  have hLow : ∀ j, j < 64 → u_29 j = nI j := en_k hu_29 (by decide) hLow
  refine lv_aload_n hx hb dX4_init_65 rfl (lv_at hl 2 rfl) ?_
  refine va_get (D := D) (ci := 4) (v := .ref q_2) (C := RX4) (T := TX4) (N := 4) hx hb hts uc_4 hown hK hP 0 rfl rfl 1 (by decide) (hts _ uw_2_36) (fun _ h9 => h9) rfl dX4_init_66 ?_
  refine lv_iload_n hx hb dX4_init_69 rfl (lv_at hl 1 rfl) ?_
  refine lv_iload_n hx hb dX4_init_70 rfl (lv_at hl 0 rfl) ?_
  refine lv_iload_n hx hb dX4_init_71 rfl (lv_at hl 0 rfl) ?_
  refine lv_bipush (v := 6) hx hb dX4_init_72 (by decide) ?_
  refine lv_iadd hx hb dX4_init_74 ?_
  refine lv_topc 6 (by decide) ?_
  refine lv_iload_n hx hb dX4_init_75 rfl (lv_at hl 1 rfl) ?_
  refine zr_i (zr_S (own := "HideReader$Lattice") (As := [.int 6, .int 1]) (rest := [.int 0, .int 1, .ref q_2]) (ws := []) hx hb hml hown hts hK noX_stb (fun _ _ _ => trivial) (c_X4_movedStroke_13 l D k 6) ck_X4_movedStroke uw_2_30 uw_2_29 (zs_P hP [] rfl) rfl hl.1 rfl (Nat.le_of_ble_eq_true rfl) dX4_init_76 ⟨Nat.le_of_ble_eq_true rfl, Nat.le_of_ble_eq_true rfl⟩ ⟨Nat.le_of_ble_eq_true rfl, Nat.le_of_ble_eq_true rfl⟩) (fun r_30 hr_30 => ?_)
  refine zm_v (wr := [(h0, .inr (4, [.ref q_1, .ref q_2, .ref q_3, .int 1])), (q_3, .inl (k 0, 8, .inl (fun _ => 0))), (q_1, .inl (k 0, 512, .inl u_29))]) hP hD hS hA [2] [0, 1, 3] (zm_S (own := "HideReader$Lattice") (As := [.ref q_2, .int 1, .int 0, .int r_30]) (rest := []) (ws := [(q_2, .inl (k 0, 512, .inl u_27))]) hx hb hml hown hts hK noX_stb (fun _ _ _ => trivial) (c_X4_enter l D k q_2 1 0 1 (by decide) (by decide) (by decide) r_30 u_27) ck_X4_enter uw_2_33 uw_2_32 hP hD [2] rfl (by decide) rfl hl.1 rfl (Nat.le_of_ble_eq_true rfl) dX4_init_79 ⟨Nat.le_of_ble_eq_true rfl, Nat.le_of_ble_eq_true rfl⟩ ⟨Nat.le_of_ble_eq_true rfl, Nat.le_of_ble_eq_true rfl⟩) rfl rfl (by decide) (by decide) (fun u_31 H locs hu_31 hP hD hS => ?_)
  have hP : va_P D vwCl [(h0, .inr (4, [.ref q_1, .ref q_2, .ref q_3, .int 1])), (q_3, .inl (k 0, 8, .inl (fun _ => 0))), (q_1, .inl (k 0, 512, .inl u_29)), (q_2, .inl (k 0, 512, .inl u_31))] H := hP
  have hD : va_D A [(h0, .inr (4, [.ref q_1, .ref q_2, .ref q_3, .int 1])), (q_3, .inl (k 0, 8, .inl (fun _ => 0))), (q_1, .inl (k 0, 512, .inl u_29)), (q_2, .inl (k 0, 512, .inl u_31))] := hD
  have hHigh : ∀ j, j < 64 → u_31 j = (fun j => nI j <<< ((6 : Int32) &&& 31)) j := en_k hu_31 (by decide) hHigh
  refine lv_iinc (v := 1) (lv' := [(2, .int 1), (1, .int 1), (0, .ref h0)]) hx hb dX4_init_82 hl (k := 0) rfl (by decide) (by decide) rfl (fun ls hl => ?_)
  refine lv_goto (tgt := 45) hx hb dX4_init_85 (by decide) ?_
  refine lv_iload_n hx hb dX4_init_45 rfl (lv_at hl 0 rfl) ?_
  refine lv_bipush (v := 6) hx hb dX4_init_46 (by decide) ?_
  refine lv_icmp_ge (tgt := 88) hx hb dX4_init_48 (by decide) (fun c9 => absurd c9 (by decide)) (fun _ => ?_)
  refine lv_aload_n hx hb dX4_init_51 rfl (lv_at hl 2 rfl) ?_
  refine va_get (D := D) (ci := 4) (v := .ref q_1) (C := RX4) (T := TX4) (N := 4) hx hb hts uc_4 hown hK hP 0 rfl rfl 0 (by decide) (hts _ uw_2_35) (fun _ h9 => h9) rfl dX4_init_52 ?_
  refine lv_iload_n hx hb dX4_init_55 rfl (lv_at hl 1 rfl) ?_
  refine lv_iload_n hx hb dX4_init_56 rfl (lv_at hl 0 rfl) ?_
  refine lv_iload_n hx hb dX4_init_57 rfl (lv_at hl 0 rfl) ?_
  refine lv_iload_n hx hb dX4_init_58 rfl (lv_at hl 1 rfl) ?_
  refine zr_i (zr_S (own := "HideReader$Lattice") (As := [.int 1, .int 1]) (rest := [.int 1, .int 1, .ref q_1]) (ws := []) hx hb hml hown hts hK noX_stb (fun _ _ _ => trivial) (c_X4_movedStroke_13 l D k 1) ck_X4_movedStroke uw_2_30 uw_2_29 (zs_P hP [] rfl) rfl hl.1 rfl (Nat.le_of_ble_eq_true rfl) dX4_init_59 ⟨Nat.le_of_ble_eq_true rfl, Nat.le_of_ble_eq_true rfl⟩ ⟨Nat.le_of_ble_eq_true rfl, Nat.le_of_ble_eq_true rfl⟩) (fun r_32 hr_32 => ?_)
  refine zm_v (wr := [(h0, .inr (4, [.ref q_1, .ref q_2, .ref q_3, .int 1])), (q_3, .inl (k 0, 8, .inl (fun _ => 0))), (q_2, .inl (k 0, 512, .inl u_31))]) hP hD hS hA [2] [0, 1, 3] (zm_S (own := "HideReader$Lattice") (As := [.ref q_1, .int 1, .int 1, .int r_32]) (rest := []) (ws := [(q_1, .inl (k 0, 512, .inl u_29))]) hx hb hml hown hts hK noX_stb (fun _ _ _ => trivial) (c_X4_enter l D k q_1 1 1 2 (by decide) (by decide) (by decide) r_32 u_29) ck_X4_enter uw_2_33 uw_2_32 hP hD [2] rfl (by decide) rfl hl.1 rfl (Nat.le_of_ble_eq_true rfl) dX4_init_62 ⟨Nat.le_of_ble_eq_true rfl, Nat.le_of_ble_eq_true rfl⟩ ⟨Nat.le_of_ble_eq_true rfl, Nat.le_of_ble_eq_true rfl⟩) rfl rfl (by decide) (by decide) (fun u_33 H locs hu_33 hP hD hS => ?_)
  have hP : va_P D vwCl [(h0, .inr (4, [.ref q_1, .ref q_2, .ref q_3, .int 1])), (q_3, .inl (k 0, 8, .inl (fun _ => 0))), (q_2, .inl (k 0, 512, .inl u_31)), (q_1, .inl (k 0, 512, .inl u_33))] H := hP
  have hD : va_D A [(h0, .inr (4, [.ref q_1, .ref q_2, .ref q_3, .int 1])), (q_3, .inl (k 0, 8, .inl (fun _ => 0))), (q_2, .inl (k 0, 512, .inl u_31)), (q_1, .inl (k 0, 512, .inl u_33))] := hD
  have hLow : ∀ j, j < 64 → u_33 j = nI j := en_k hu_33 (by decide) hLow
  refine lv_aload_n hx hb dX4_init_65 rfl (lv_at hl 2 rfl) ?_
  refine va_get (D := D) (ci := 4) (v := .ref q_2) (C := RX4) (T := TX4) (N := 4) hx hb hts uc_4 hown hK hP 0 rfl rfl 1 (by decide) (hts _ uw_2_36) (fun _ h9 => h9) rfl dX4_init_66 ?_
  refine lv_iload_n hx hb dX4_init_69 rfl (lv_at hl 1 rfl) ?_
  refine lv_iload_n hx hb dX4_init_70 rfl (lv_at hl 0 rfl) ?_
  refine lv_iload_n hx hb dX4_init_71 rfl (lv_at hl 0 rfl) ?_
  refine lv_bipush (v := 6) hx hb dX4_init_72 (by decide) ?_
  refine lv_iadd hx hb dX4_init_74 ?_
  refine lv_topc 7 (by decide) ?_
  refine lv_iload_n hx hb dX4_init_75 rfl (lv_at hl 1 rfl) ?_
  refine zr_i (zr_S (own := "HideReader$Lattice") (As := [.int 7, .int 1]) (rest := [.int 1, .int 1, .ref q_2]) (ws := []) hx hb hml hown hts hK noX_stb (fun _ _ _ => trivial) (c_X4_movedStroke_13 l D k 7) ck_X4_movedStroke uw_2_30 uw_2_29 (zs_P hP [] rfl) rfl hl.1 rfl (Nat.le_of_ble_eq_true rfl) dX4_init_76 ⟨Nat.le_of_ble_eq_true rfl, Nat.le_of_ble_eq_true rfl⟩ ⟨Nat.le_of_ble_eq_true rfl, Nat.le_of_ble_eq_true rfl⟩) (fun r_34 hr_34 => ?_)
  refine zm_v (wr := [(h0, .inr (4, [.ref q_1, .ref q_2, .ref q_3, .int 1])), (q_3, .inl (k 0, 8, .inl (fun _ => 0))), (q_1, .inl (k 0, 512, .inl u_33))]) hP hD hS hA [2] [0, 1, 3] (zm_S (own := "HideReader$Lattice") (As := [.ref q_2, .int 1, .int 1, .int r_34]) (rest := []) (ws := [(q_2, .inl (k 0, 512, .inl u_31))]) hx hb hml hown hts hK noX_stb (fun _ _ _ => trivial) (c_X4_enter l D k q_2 1 1 2 (by decide) (by decide) (by decide) r_34 u_31) ck_X4_enter uw_2_33 uw_2_32 hP hD [2] rfl (by decide) rfl hl.1 rfl (Nat.le_of_ble_eq_true rfl) dX4_init_79 ⟨Nat.le_of_ble_eq_true rfl, Nat.le_of_ble_eq_true rfl⟩ ⟨Nat.le_of_ble_eq_true rfl, Nat.le_of_ble_eq_true rfl⟩) rfl rfl (by decide) (by decide) (fun u_35 H locs hu_35 hP hD hS => ?_)
  have hP : va_P D vwCl [(h0, .inr (4, [.ref q_1, .ref q_2, .ref q_3, .int 1])), (q_3, .inl (k 0, 8, .inl (fun _ => 0))), (q_1, .inl (k 0, 512, .inl u_33)), (q_2, .inl (k 0, 512, .inl u_35))] H := hP
  have hD : va_D A [(h0, .inr (4, [.ref q_1, .ref q_2, .ref q_3, .int 1])), (q_3, .inl (k 0, 8, .inl (fun _ => 0))), (q_1, .inl (k 0, 512, .inl u_33)), (q_2, .inl (k 0, 512, .inl u_35))] := hD
  have hHigh : ∀ j, j < 64 → u_35 j = (fun j => nI j <<< ((6 : Int32) &&& 31)) j := en_k hu_35 (by decide) hHigh
  refine lv_iinc (v := 2) (lv' := [(2, .int 2), (1, .int 1), (0, .ref h0)]) hx hb dX4_init_82 hl (k := 0) rfl (by decide) (by decide) rfl (fun ls hl => ?_)
  refine lv_goto (tgt := 45) hx hb dX4_init_85 (by decide) ?_
  refine lv_iload_n hx hb dX4_init_45 rfl (lv_at hl 0 rfl) ?_
  refine lv_bipush (v := 6) hx hb dX4_init_46 (by decide) ?_
  refine lv_icmp_ge (tgt := 88) hx hb dX4_init_48 (by decide) (fun c9 => absurd c9 (by decide)) (fun _ => ?_)
  refine lv_aload_n hx hb dX4_init_51 rfl (lv_at hl 2 rfl) ?_
  refine va_get (D := D) (ci := 4) (v := .ref q_1) (C := RX4) (T := TX4) (N := 4) hx hb hts uc_4 hown hK hP 0 rfl rfl 0 (by decide) (hts _ uw_2_35) (fun _ h9 => h9) rfl dX4_init_52 ?_
  refine lv_iload_n hx hb dX4_init_55 rfl (lv_at hl 1 rfl) ?_
  refine lv_iload_n hx hb dX4_init_56 rfl (lv_at hl 0 rfl) ?_
  refine lv_iload_n hx hb dX4_init_57 rfl (lv_at hl 0 rfl) ?_
  refine lv_iload_n hx hb dX4_init_58 rfl (lv_at hl 1 rfl) ?_
  refine zr_i (zr_S (own := "HideReader$Lattice") (As := [.int 2, .int 1]) (rest := [.int 2, .int 1, .ref q_1]) (ws := []) hx hb hml hown hts hK noX_stb (fun _ _ _ => trivial) (c_X4_movedStroke_13 l D k 2) ck_X4_movedStroke uw_2_30 uw_2_29 (zs_P hP [] rfl) rfl hl.1 rfl (Nat.le_of_ble_eq_true rfl) dX4_init_59 ⟨Nat.le_of_ble_eq_true rfl, Nat.le_of_ble_eq_true rfl⟩ ⟨Nat.le_of_ble_eq_true rfl, Nat.le_of_ble_eq_true rfl⟩) (fun r_36 hr_36 => ?_)
  refine zm_v (wr := [(h0, .inr (4, [.ref q_1, .ref q_2, .ref q_3, .int 1])), (q_3, .inl (k 0, 8, .inl (fun _ => 0))), (q_2, .inl (k 0, 512, .inl u_35))]) hP hD hS hA [2] [0, 1, 3] (zm_S (own := "HideReader$Lattice") (As := [.ref q_1, .int 1, .int 2, .int r_36]) (rest := []) (ws := [(q_1, .inl (k 0, 512, .inl u_33))]) hx hb hml hown hts hK noX_stb (fun _ _ _ => trivial) (c_X4_enter l D k q_1 1 2 4 (by decide) (by decide) (by decide) r_36 u_33) ck_X4_enter uw_2_33 uw_2_32 hP hD [2] rfl (by decide) rfl hl.1 rfl (Nat.le_of_ble_eq_true rfl) dX4_init_62 ⟨Nat.le_of_ble_eq_true rfl, Nat.le_of_ble_eq_true rfl⟩ ⟨Nat.le_of_ble_eq_true rfl, Nat.le_of_ble_eq_true rfl⟩) rfl rfl (by decide) (by decide) (fun u_37 H locs hu_37 hP hD hS => ?_)
  have hP : va_P D vwCl [(h0, .inr (4, [.ref q_1, .ref q_2, .ref q_3, .int 1])), (q_3, .inl (k 0, 8, .inl (fun _ => 0))), (q_2, .inl (k 0, 512, .inl u_35)), (q_1, .inl (k 0, 512, .inl u_37))] H := hP
  have hD : va_D A [(h0, .inr (4, [.ref q_1, .ref q_2, .ref q_3, .int 1])), (q_3, .inl (k 0, 8, .inl (fun _ => 0))), (q_2, .inl (k 0, 512, .inl u_35)), (q_1, .inl (k 0, 512, .inl u_37))] := hD
  have hLow : ∀ j, j < 64 → u_37 j = nI j := en_k hu_37 (by decide) hLow
  refine lv_aload_n hx hb dX4_init_65 rfl (lv_at hl 2 rfl) ?_
  refine va_get (D := D) (ci := 4) (v := .ref q_2) (C := RX4) (T := TX4) (N := 4) hx hb hts uc_4 hown hK hP 0 rfl rfl 1 (by decide) (hts _ uw_2_36) (fun _ h9 => h9) rfl dX4_init_66 ?_
  refine lv_iload_n hx hb dX4_init_69 rfl (lv_at hl 1 rfl) ?_
  refine lv_iload_n hx hb dX4_init_70 rfl (lv_at hl 0 rfl) ?_
  refine lv_iload_n hx hb dX4_init_71 rfl (lv_at hl 0 rfl) ?_
  refine lv_bipush (v := 6) hx hb dX4_init_72 (by decide) ?_
  refine lv_iadd hx hb dX4_init_74 ?_
  refine lv_topc 8 (by decide) ?_
  refine lv_iload_n hx hb dX4_init_75 rfl (lv_at hl 1 rfl) ?_
  refine zr_i (zr_S (own := "HideReader$Lattice") (As := [.int 8, .int 1]) (rest := [.int 2, .int 1, .ref q_2]) (ws := []) hx hb hml hown hts hK noX_stb (fun _ _ _ => trivial) (c_X4_movedStroke_13 l D k 8) ck_X4_movedStroke uw_2_30 uw_2_29 (zs_P hP [] rfl) rfl hl.1 rfl (Nat.le_of_ble_eq_true rfl) dX4_init_76 ⟨Nat.le_of_ble_eq_true rfl, Nat.le_of_ble_eq_true rfl⟩ ⟨Nat.le_of_ble_eq_true rfl, Nat.le_of_ble_eq_true rfl⟩) (fun r_38 hr_38 => ?_)
  refine zm_v (wr := [(h0, .inr (4, [.ref q_1, .ref q_2, .ref q_3, .int 1])), (q_3, .inl (k 0, 8, .inl (fun _ => 0))), (q_1, .inl (k 0, 512, .inl u_37))]) hP hD hS hA [2] [0, 1, 3] (zm_S (own := "HideReader$Lattice") (As := [.ref q_2, .int 1, .int 2, .int r_38]) (rest := []) (ws := [(q_2, .inl (k 0, 512, .inl u_35))]) hx hb hml hown hts hK noX_stb (fun _ _ _ => trivial) (c_X4_enter l D k q_2 1 2 4 (by decide) (by decide) (by decide) r_38 u_35) ck_X4_enter uw_2_33 uw_2_32 hP hD [2] rfl (by decide) rfl hl.1 rfl (Nat.le_of_ble_eq_true rfl) dX4_init_79 ⟨Nat.le_of_ble_eq_true rfl, Nat.le_of_ble_eq_true rfl⟩ ⟨Nat.le_of_ble_eq_true rfl, Nat.le_of_ble_eq_true rfl⟩) rfl rfl (by decide) (by decide) (fun u_39 H locs hu_39 hP hD hS => ?_)
  have hP : va_P D vwCl [(h0, .inr (4, [.ref q_1, .ref q_2, .ref q_3, .int 1])), (q_3, .inl (k 0, 8, .inl (fun _ => 0))), (q_1, .inl (k 0, 512, .inl u_37)), (q_2, .inl (k 0, 512, .inl u_39))] H := hP
  have hD : va_D A [(h0, .inr (4, [.ref q_1, .ref q_2, .ref q_3, .int 1])), (q_3, .inl (k 0, 8, .inl (fun _ => 0))), (q_1, .inl (k 0, 512, .inl u_37)), (q_2, .inl (k 0, 512, .inl u_39))] := hD
  have hHigh : ∀ j, j < 64 → u_39 j = (fun j => nI j <<< ((6 : Int32) &&& 31)) j := en_k hu_39 (by decide) hHigh
  refine lv_iinc (v := 3) (lv' := [(2, .int 3), (1, .int 1), (0, .ref h0)]) hx hb dX4_init_82 hl (k := 0) rfl (by decide) (by decide) rfl (fun ls hl => ?_)
  refine lv_goto (tgt := 45) hx hb dX4_init_85 (by decide) ?_
  refine lv_iload_n hx hb dX4_init_45 rfl (lv_at hl 0 rfl) ?_
  refine lv_bipush (v := 6) hx hb dX4_init_46 (by decide) ?_
  refine lv_icmp_ge (tgt := 88) hx hb dX4_init_48 (by decide) (fun c9 => absurd c9 (by decide)) (fun _ => ?_)
  refine lv_aload_n hx hb dX4_init_51 rfl (lv_at hl 2 rfl) ?_
  refine va_get (D := D) (ci := 4) (v := .ref q_1) (C := RX4) (T := TX4) (N := 4) hx hb hts uc_4 hown hK hP 0 rfl rfl 0 (by decide) (hts _ uw_2_35) (fun _ h9 => h9) rfl dX4_init_52 ?_
  refine lv_iload_n hx hb dX4_init_55 rfl (lv_at hl 1 rfl) ?_
  refine lv_iload_n hx hb dX4_init_56 rfl (lv_at hl 0 rfl) ?_
  refine lv_iload_n hx hb dX4_init_57 rfl (lv_at hl 0 rfl) ?_
  refine lv_iload_n hx hb dX4_init_58 rfl (lv_at hl 1 rfl) ?_
  refine zr_i (zr_S (own := "HideReader$Lattice") (As := [.int 3, .int 1]) (rest := [.int 3, .int 1, .ref q_1]) (ws := []) hx hb hml hown hts hK noX_stb (fun _ _ _ => trivial) (c_X4_movedStroke_13 l D k 3) ck_X4_movedStroke uw_2_30 uw_2_29 (zs_P hP [] rfl) rfl hl.1 rfl (Nat.le_of_ble_eq_true rfl) dX4_init_59 ⟨Nat.le_of_ble_eq_true rfl, Nat.le_of_ble_eq_true rfl⟩ ⟨Nat.le_of_ble_eq_true rfl, Nat.le_of_ble_eq_true rfl⟩) (fun r_40 hr_40 => ?_)
  refine zm_v (wr := [(h0, .inr (4, [.ref q_1, .ref q_2, .ref q_3, .int 1])), (q_3, .inl (k 0, 8, .inl (fun _ => 0))), (q_2, .inl (k 0, 512, .inl u_39))]) hP hD hS hA [2] [0, 1, 3] (zm_S (own := "HideReader$Lattice") (As := [.ref q_1, .int 1, .int 3, .int r_40]) (rest := []) (ws := [(q_1, .inl (k 0, 512, .inl u_37))]) hx hb hml hown hts hK noX_stb (fun _ _ _ => trivial) (c_X4_enter l D k q_1 1 3 8 (by decide) (by decide) (by decide) r_40 u_37) ck_X4_enter uw_2_33 uw_2_32 hP hD [2] rfl (by decide) rfl hl.1 rfl (Nat.le_of_ble_eq_true rfl) dX4_init_62 ⟨Nat.le_of_ble_eq_true rfl, Nat.le_of_ble_eq_true rfl⟩ ⟨Nat.le_of_ble_eq_true rfl, Nat.le_of_ble_eq_true rfl⟩) rfl rfl (by decide) (by decide) (fun u_41 H locs hu_41 hP hD hS => ?_)
  have hP : va_P D vwCl [(h0, .inr (4, [.ref q_1, .ref q_2, .ref q_3, .int 1])), (q_3, .inl (k 0, 8, .inl (fun _ => 0))), (q_2, .inl (k 0, 512, .inl u_39)), (q_1, .inl (k 0, 512, .inl u_41))] H := hP
  have hD : va_D A [(h0, .inr (4, [.ref q_1, .ref q_2, .ref q_3, .int 1])), (q_3, .inl (k 0, 8, .inl (fun _ => 0))), (q_2, .inl (k 0, 512, .inl u_39)), (q_1, .inl (k 0, 512, .inl u_41))] := hD
  have hLow : ∀ j, j < 64 → u_41 j = nI j := en_k hu_41 (by decide) hLow
  refine lv_aload_n hx hb dX4_init_65 rfl (lv_at hl 2 rfl) ?_
  refine va_get (D := D) (ci := 4) (v := .ref q_2) (C := RX4) (T := TX4) (N := 4) hx hb hts uc_4 hown hK hP 0 rfl rfl 1 (by decide) (hts _ uw_2_36) (fun _ h9 => h9) rfl dX4_init_66 ?_
  refine lv_iload_n hx hb dX4_init_69 rfl (lv_at hl 1 rfl) ?_
  refine lv_iload_n hx hb dX4_init_70 rfl (lv_at hl 0 rfl) ?_
  refine lv_iload_n hx hb dX4_init_71 rfl (lv_at hl 0 rfl) ?_
  refine lv_bipush (v := 6) hx hb dX4_init_72 (by decide) ?_
  refine lv_iadd hx hb dX4_init_74 ?_
  refine lv_topc 9 (by decide) ?_
  refine lv_iload_n hx hb dX4_init_75 rfl (lv_at hl 1 rfl) ?_
  refine zr_i (zr_S (own := "HideReader$Lattice") (As := [.int 9, .int 1]) (rest := [.int 3, .int 1, .ref q_2]) (ws := []) hx hb hml hown hts hK noX_stb (fun _ _ _ => trivial) (c_X4_movedStroke_13 l D k 9) ck_X4_movedStroke uw_2_30 uw_2_29 (zs_P hP [] rfl) rfl hl.1 rfl (Nat.le_of_ble_eq_true rfl) dX4_init_76 ⟨Nat.le_of_ble_eq_true rfl, Nat.le_of_ble_eq_true rfl⟩ ⟨Nat.le_of_ble_eq_true rfl, Nat.le_of_ble_eq_true rfl⟩) (fun r_42 hr_42 => ?_)
  refine zm_v (wr := [(h0, .inr (4, [.ref q_1, .ref q_2, .ref q_3, .int 1])), (q_3, .inl (k 0, 8, .inl (fun _ => 0))), (q_1, .inl (k 0, 512, .inl u_41))]) hP hD hS hA [2] [0, 1, 3] (zm_S (own := "HideReader$Lattice") (As := [.ref q_2, .int 1, .int 3, .int r_42]) (rest := []) (ws := [(q_2, .inl (k 0, 512, .inl u_39))]) hx hb hml hown hts hK noX_stb (fun _ _ _ => trivial) (c_X4_enter l D k q_2 1 3 8 (by decide) (by decide) (by decide) r_42 u_39) ck_X4_enter uw_2_33 uw_2_32 hP hD [2] rfl (by decide) rfl hl.1 rfl (Nat.le_of_ble_eq_true rfl) dX4_init_79 ⟨Nat.le_of_ble_eq_true rfl, Nat.le_of_ble_eq_true rfl⟩ ⟨Nat.le_of_ble_eq_true rfl, Nat.le_of_ble_eq_true rfl⟩) rfl rfl (by decide) (by decide) (fun u_43 H locs hu_43 hP hD hS => ?_)
  have hP : va_P D vwCl [(h0, .inr (4, [.ref q_1, .ref q_2, .ref q_3, .int 1])), (q_3, .inl (k 0, 8, .inl (fun _ => 0))), (q_1, .inl (k 0, 512, .inl u_41)), (q_2, .inl (k 0, 512, .inl u_43))] H := hP
  have hD : va_D A [(h0, .inr (4, [.ref q_1, .ref q_2, .ref q_3, .int 1])), (q_3, .inl (k 0, 8, .inl (fun _ => 0))), (q_1, .inl (k 0, 512, .inl u_41)), (q_2, .inl (k 0, 512, .inl u_43))] := hD
  have hHigh : ∀ j, j < 64 → u_43 j = (fun j => nI j <<< ((6 : Int32) &&& 31)) j := en_k hu_43 (by decide) hHigh
  refine lv_iinc (v := 4) (lv' := [(2, .int 4), (1, .int 1), (0, .ref h0)]) hx hb dX4_init_82 hl (k := 0) rfl (by decide) (by decide) rfl (fun ls hl => ?_)
  refine lv_goto (tgt := 45) hx hb dX4_init_85 (by decide) ?_
  refine lv_iload_n hx hb dX4_init_45 rfl (lv_at hl 0 rfl) ?_
  refine lv_bipush (v := 6) hx hb dX4_init_46 (by decide) ?_
  refine lv_icmp_ge (tgt := 88) hx hb dX4_init_48 (by decide) (fun c9 => absurd c9 (by decide)) (fun _ => ?_)
  refine lv_aload_n hx hb dX4_init_51 rfl (lv_at hl 2 rfl) ?_
  refine va_get (D := D) (ci := 4) (v := .ref q_1) (C := RX4) (T := TX4) (N := 4) hx hb hts uc_4 hown hK hP 0 rfl rfl 0 (by decide) (hts _ uw_2_35) (fun _ h9 => h9) rfl dX4_init_52 ?_
  refine lv_iload_n hx hb dX4_init_55 rfl (lv_at hl 1 rfl) ?_
  refine lv_iload_n hx hb dX4_init_56 rfl (lv_at hl 0 rfl) ?_
  refine lv_iload_n hx hb dX4_init_57 rfl (lv_at hl 0 rfl) ?_
  refine lv_iload_n hx hb dX4_init_58 rfl (lv_at hl 1 rfl) ?_
  refine zr_i (zr_S (own := "HideReader$Lattice") (As := [.int 4, .int 1]) (rest := [.int 4, .int 1, .ref q_1]) (ws := []) hx hb hml hown hts hK noX_stb (fun _ _ _ => trivial) (c_X4_movedStroke_13 l D k 4) ck_X4_movedStroke uw_2_30 uw_2_29 (zs_P hP [] rfl) rfl hl.1 rfl (Nat.le_of_ble_eq_true rfl) dX4_init_59 ⟨Nat.le_of_ble_eq_true rfl, Nat.le_of_ble_eq_true rfl⟩ ⟨Nat.le_of_ble_eq_true rfl, Nat.le_of_ble_eq_true rfl⟩) (fun r_44 hr_44 => ?_)
  refine zm_v (wr := [(h0, .inr (4, [.ref q_1, .ref q_2, .ref q_3, .int 1])), (q_3, .inl (k 0, 8, .inl (fun _ => 0))), (q_2, .inl (k 0, 512, .inl u_43))]) hP hD hS hA [2] [0, 1, 3] (zm_S (own := "HideReader$Lattice") (As := [.ref q_1, .int 1, .int 4, .int r_44]) (rest := []) (ws := [(q_1, .inl (k 0, 512, .inl u_41))]) hx hb hml hown hts hK noX_stb (fun _ _ _ => trivial) (c_X4_enter l D k q_1 1 4 16 (by decide) (by decide) (by decide) r_44 u_41) ck_X4_enter uw_2_33 uw_2_32 hP hD [2] rfl (by decide) rfl hl.1 rfl (Nat.le_of_ble_eq_true rfl) dX4_init_62 ⟨Nat.le_of_ble_eq_true rfl, Nat.le_of_ble_eq_true rfl⟩ ⟨Nat.le_of_ble_eq_true rfl, Nat.le_of_ble_eq_true rfl⟩) rfl rfl (by decide) (by decide) (fun u_45 H locs hu_45 hP hD hS => ?_)
  have hP : va_P D vwCl [(h0, .inr (4, [.ref q_1, .ref q_2, .ref q_3, .int 1])), (q_3, .inl (k 0, 8, .inl (fun _ => 0))), (q_2, .inl (k 0, 512, .inl u_43)), (q_1, .inl (k 0, 512, .inl u_45))] H := hP
  have hD : va_D A [(h0, .inr (4, [.ref q_1, .ref q_2, .ref q_3, .int 1])), (q_3, .inl (k 0, 8, .inl (fun _ => 0))), (q_2, .inl (k 0, 512, .inl u_43)), (q_1, .inl (k 0, 512, .inl u_45))] := hD
  have hLow : ∀ j, j < 64 → u_45 j = nI j := en_k hu_45 (by decide) hLow
  refine lv_aload_n hx hb dX4_init_65 rfl (lv_at hl 2 rfl) ?_
  refine va_get (D := D) (ci := 4) (v := .ref q_2) (C := RX4) (T := TX4) (N := 4) hx hb hts uc_4 hown hK hP 0 rfl rfl 1 (by decide) (hts _ uw_2_36) (fun _ h9 => h9) rfl dX4_init_66 ?_
  refine lv_iload_n hx hb dX4_init_69 rfl (lv_at hl 1 rfl) ?_
  refine lv_iload_n hx hb dX4_init_70 rfl (lv_at hl 0 rfl) ?_
  refine lv_iload_n hx hb dX4_init_71 rfl (lv_at hl 0 rfl) ?_
  refine lv_bipush (v := 6) hx hb dX4_init_72 (by decide) ?_
  refine lv_iadd hx hb dX4_init_74 ?_
  refine lv_topc 10 (by decide) ?_
  refine lv_iload_n hx hb dX4_init_75 rfl (lv_at hl 1 rfl) ?_
  refine zr_i (zr_S (own := "HideReader$Lattice") (As := [.int 10, .int 1]) (rest := [.int 4, .int 1, .ref q_2]) (ws := []) hx hb hml hown hts hK noX_stb (fun _ _ _ => trivial) (c_X4_movedStroke_13 l D k 10) ck_X4_movedStroke uw_2_30 uw_2_29 (zs_P hP [] rfl) rfl hl.1 rfl (Nat.le_of_ble_eq_true rfl) dX4_init_76 ⟨Nat.le_of_ble_eq_true rfl, Nat.le_of_ble_eq_true rfl⟩ ⟨Nat.le_of_ble_eq_true rfl, Nat.le_of_ble_eq_true rfl⟩) (fun r_46 hr_46 => ?_)
  refine zm_v (wr := [(h0, .inr (4, [.ref q_1, .ref q_2, .ref q_3, .int 1])), (q_3, .inl (k 0, 8, .inl (fun _ => 0))), (q_1, .inl (k 0, 512, .inl u_45))]) hP hD hS hA [2] [0, 1, 3] (zm_S (own := "HideReader$Lattice") (As := [.ref q_2, .int 1, .int 4, .int r_46]) (rest := []) (ws := [(q_2, .inl (k 0, 512, .inl u_43))]) hx hb hml hown hts hK noX_stb (fun _ _ _ => trivial) (c_X4_enter l D k q_2 1 4 16 (by decide) (by decide) (by decide) r_46 u_43) ck_X4_enter uw_2_33 uw_2_32 hP hD [2] rfl (by decide) rfl hl.1 rfl (Nat.le_of_ble_eq_true rfl) dX4_init_79 ⟨Nat.le_of_ble_eq_true rfl, Nat.le_of_ble_eq_true rfl⟩ ⟨Nat.le_of_ble_eq_true rfl, Nat.le_of_ble_eq_true rfl⟩) rfl rfl (by decide) (by decide) (fun u_47 H locs hu_47 hP hD hS => ?_)
  have hP : va_P D vwCl [(h0, .inr (4, [.ref q_1, .ref q_2, .ref q_3, .int 1])), (q_3, .inl (k 0, 8, .inl (fun _ => 0))), (q_1, .inl (k 0, 512, .inl u_45)), (q_2, .inl (k 0, 512, .inl u_47))] H := hP
  have hD : va_D A [(h0, .inr (4, [.ref q_1, .ref q_2, .ref q_3, .int 1])), (q_3, .inl (k 0, 8, .inl (fun _ => 0))), (q_1, .inl (k 0, 512, .inl u_45)), (q_2, .inl (k 0, 512, .inl u_47))] := hD
  have hHigh : ∀ j, j < 64 → u_47 j = (fun j => nI j <<< ((6 : Int32) &&& 31)) j := en_k hu_47 (by decide) hHigh
  refine lv_iinc (v := 5) (lv' := [(2, .int 5), (1, .int 1), (0, .ref h0)]) hx hb dX4_init_82 hl (k := 0) rfl (by decide) (by decide) rfl (fun ls hl => ?_)
  refine lv_goto (tgt := 45) hx hb dX4_init_85 (by decide) ?_
  refine lv_iload_n hx hb dX4_init_45 rfl (lv_at hl 0 rfl) ?_
  refine lv_bipush (v := 6) hx hb dX4_init_46 (by decide) ?_
  refine lv_icmp_ge (tgt := 88) hx hb dX4_init_48 (by decide) (fun c9 => absurd c9 (by decide)) (fun _ => ?_)
  refine lv_aload_n hx hb dX4_init_51 rfl (lv_at hl 2 rfl) ?_
  refine va_get (D := D) (ci := 4) (v := .ref q_1) (C := RX4) (T := TX4) (N := 4) hx hb hts uc_4 hown hK hP 0 rfl rfl 0 (by decide) (hts _ uw_2_35) (fun _ h9 => h9) rfl dX4_init_52 ?_
  refine lv_iload_n hx hb dX4_init_55 rfl (lv_at hl 1 rfl) ?_
  refine lv_iload_n hx hb dX4_init_56 rfl (lv_at hl 0 rfl) ?_
  refine lv_iload_n hx hb dX4_init_57 rfl (lv_at hl 0 rfl) ?_
  refine lv_iload_n hx hb dX4_init_58 rfl (lv_at hl 1 rfl) ?_
  refine zr_i (zr_S (own := "HideReader$Lattice") (As := [.int 5, .int 1]) (rest := [.int 5, .int 1, .ref q_1]) (ws := []) hx hb hml hown hts hK noX_stb (fun _ _ _ => trivial) (c_X4_movedStroke_13 l D k 5) ck_X4_movedStroke uw_2_30 uw_2_29 (zs_P hP [] rfl) rfl hl.1 rfl (Nat.le_of_ble_eq_true rfl) dX4_init_59 ⟨Nat.le_of_ble_eq_true rfl, Nat.le_of_ble_eq_true rfl⟩ ⟨Nat.le_of_ble_eq_true rfl, Nat.le_of_ble_eq_true rfl⟩) (fun r_48 hr_48 => ?_)
  refine zm_v (wr := [(h0, .inr (4, [.ref q_1, .ref q_2, .ref q_3, .int 1])), (q_3, .inl (k 0, 8, .inl (fun _ => 0))), (q_2, .inl (k 0, 512, .inl u_47))]) hP hD hS hA [2] [0, 1, 3] (zm_S (own := "HideReader$Lattice") (As := [.ref q_1, .int 1, .int 5, .int r_48]) (rest := []) (ws := [(q_1, .inl (k 0, 512, .inl u_45))]) hx hb hml hown hts hK noX_stb (fun _ _ _ => trivial) (c_X4_enter l D k q_1 1 5 32 (by decide) (by decide) (by decide) r_48 u_45) ck_X4_enter uw_2_33 uw_2_32 hP hD [2] rfl (by decide) rfl hl.1 rfl (Nat.le_of_ble_eq_true rfl) dX4_init_62 ⟨Nat.le_of_ble_eq_true rfl, Nat.le_of_ble_eq_true rfl⟩ ⟨Nat.le_of_ble_eq_true rfl, Nat.le_of_ble_eq_true rfl⟩) rfl rfl (by decide) (by decide) (fun u_49 H locs hu_49 hP hD hS => ?_)
  have hP : va_P D vwCl [(h0, .inr (4, [.ref q_1, .ref q_2, .ref q_3, .int 1])), (q_3, .inl (k 0, 8, .inl (fun _ => 0))), (q_2, .inl (k 0, 512, .inl u_47)), (q_1, .inl (k 0, 512, .inl u_49))] H := hP
  have hD : va_D A [(h0, .inr (4, [.ref q_1, .ref q_2, .ref q_3, .int 1])), (q_3, .inl (k 0, 8, .inl (fun _ => 0))), (q_2, .inl (k 0, 512, .inl u_47)), (q_1, .inl (k 0, 512, .inl u_49))] := hD
  have hLow : ∀ j, j < 64 → u_49 j = nI j := en_k hu_49 (by decide) hLow
  refine lv_aload_n hx hb dX4_init_65 rfl (lv_at hl 2 rfl) ?_
  refine va_get (D := D) (ci := 4) (v := .ref q_2) (C := RX4) (T := TX4) (N := 4) hx hb hts uc_4 hown hK hP 0 rfl rfl 1 (by decide) (hts _ uw_2_36) (fun _ h9 => h9) rfl dX4_init_66 ?_
  refine lv_iload_n hx hb dX4_init_69 rfl (lv_at hl 1 rfl) ?_
  refine lv_iload_n hx hb dX4_init_70 rfl (lv_at hl 0 rfl) ?_
  refine lv_iload_n hx hb dX4_init_71 rfl (lv_at hl 0 rfl) ?_
  refine lv_bipush (v := 6) hx hb dX4_init_72 (by decide) ?_
  refine lv_iadd hx hb dX4_init_74 ?_
  refine lv_topc 11 (by decide) ?_
  refine lv_iload_n hx hb dX4_init_75 rfl (lv_at hl 1 rfl) ?_
  refine zr_i (zr_S (own := "HideReader$Lattice") (As := [.int 11, .int 1]) (rest := [.int 5, .int 1, .ref q_2]) (ws := []) hx hb hml hown hts hK noX_stb (fun _ _ _ => trivial) (c_X4_movedStroke_13 l D k 11) ck_X4_movedStroke uw_2_30 uw_2_29 (zs_P hP [] rfl) rfl hl.1 rfl (Nat.le_of_ble_eq_true rfl) dX4_init_76 ⟨Nat.le_of_ble_eq_true rfl, Nat.le_of_ble_eq_true rfl⟩ ⟨Nat.le_of_ble_eq_true rfl, Nat.le_of_ble_eq_true rfl⟩) (fun r_50 hr_50 => ?_)
  refine zm_v (wr := [(h0, .inr (4, [.ref q_1, .ref q_2, .ref q_3, .int 1])), (q_3, .inl (k 0, 8, .inl (fun _ => 0))), (q_1, .inl (k 0, 512, .inl u_49))]) hP hD hS hA [2] [0, 1, 3] (zm_S (own := "HideReader$Lattice") (As := [.ref q_2, .int 1, .int 5, .int r_50]) (rest := []) (ws := [(q_2, .inl (k 0, 512, .inl u_47))]) hx hb hml hown hts hK noX_stb (fun _ _ _ => trivial) (c_X4_enter l D k q_2 1 5 32 (by decide) (by decide) (by decide) r_50 u_47) ck_X4_enter uw_2_33 uw_2_32 hP hD [2] rfl (by decide) rfl hl.1 rfl (Nat.le_of_ble_eq_true rfl) dX4_init_79 ⟨Nat.le_of_ble_eq_true rfl, Nat.le_of_ble_eq_true rfl⟩ ⟨Nat.le_of_ble_eq_true rfl, Nat.le_of_ble_eq_true rfl⟩) rfl rfl (by decide) (by decide) (fun u_51 H locs hu_51 hP hD hS => ?_)
  have hP : va_P D vwCl [(h0, .inr (4, [.ref q_1, .ref q_2, .ref q_3, .int 1])), (q_3, .inl (k 0, 8, .inl (fun _ => 0))), (q_1, .inl (k 0, 512, .inl u_49)), (q_2, .inl (k 0, 512, .inl u_51))] H := hP
  have hD : va_D A [(h0, .inr (4, [.ref q_1, .ref q_2, .ref q_3, .int 1])), (q_3, .inl (k 0, 8, .inl (fun _ => 0))), (q_1, .inl (k 0, 512, .inl u_49)), (q_2, .inl (k 0, 512, .inl u_51))] := hD
  have hHigh : ∀ j, j < 64 → u_51 j = (fun j => nI j <<< ((6 : Int32) &&& 31)) j := en_k hu_51 (by decide) hHigh
  refine lv_iinc (v := 6) (lv' := [(2, .int 6), (1, .int 1), (0, .ref h0)]) hx hb dX4_init_82 hl (k := 0) rfl (by decide) (by decide) rfl (fun ls hl => ?_)
  refine lv_goto (tgt := 45) hx hb dX4_init_85 (by decide) ?_
  refine lv_iload_n hx hb dX4_init_45 rfl (lv_at hl 0 rfl) ?_
  refine lv_bipush (v := 6) hx hb dX4_init_46 (by decide) ?_
  refine lv_icmp_ge (tgt := 88) hx hb dX4_init_48 (by decide) (fun _ => ?_) (fun c9 => absurd (by decide) c9)
  refine lv_iinc (v := 2) (lv' := [(1, .int 2), (2, .int 6), (0, .ref h0)]) hx hb dX4_init_88 hl (k := 1) rfl (by decide) (by decide) rfl (fun ls hl => ?_)
  refine lv_goto (tgt := 37) hx hb dX4_init_91 (by decide) ?_
  refine lv_iload_n hx hb dX4_init_37 rfl (lv_at hl 0 rfl) ?_
  refine lv_bipush (v := 8) hx hb dX4_init_38 (by decide) ?_
  refine lv_icmp_ge (tgt := 94) hx hb dX4_init_40 (by decide) (fun c9 => absurd c9 (by decide)) (fun _ => ?_)
  refine lv_iconst (v := 0) hx hb dX4_init_43 (by decide) ?_
  refine lv_istore_n (lv' := [(2, .int 0), (1, .int 2), (0, .ref h0)]) hx hb dX4_init_44 rfl hl (by decide) rfl (fun ls hl => ?_)
  refine lv_iload_n hx hb dX4_init_45 rfl (lv_at hl 0 rfl) ?_
  refine lv_bipush (v := 6) hx hb dX4_init_46 (by decide) ?_
  refine lv_icmp_ge (tgt := 88) hx hb dX4_init_48 (by decide) (fun c9 => absurd c9 (by decide)) (fun _ => ?_)
  refine lv_aload_n hx hb dX4_init_51 rfl (lv_at hl 2 rfl) ?_
  refine va_get (D := D) (ci := 4) (v := .ref q_1) (C := RX4) (T := TX4) (N := 4) hx hb hts uc_4 hown hK hP 0 rfl rfl 0 (by decide) (hts _ uw_2_35) (fun _ h9 => h9) rfl dX4_init_52 ?_
  refine lv_iload_n hx hb dX4_init_55 rfl (lv_at hl 1 rfl) ?_
  refine lv_iload_n hx hb dX4_init_56 rfl (lv_at hl 0 rfl) ?_
  refine lv_iload_n hx hb dX4_init_57 rfl (lv_at hl 0 rfl) ?_
  refine lv_iload_n hx hb dX4_init_58 rfl (lv_at hl 1 rfl) ?_
  refine zr_i (zr_S (own := "HideReader$Lattice") (As := [.int 0, .int 2]) (rest := [.int 0, .int 2, .ref q_1]) (ws := []) hx hb hml hown hts hK noX_stb (fun _ _ _ => trivial) (c_X4_movedStroke_14 l D k 0) ck_X4_movedStroke uw_2_30 uw_2_29 (zs_P hP [] rfl) rfl hl.1 rfl (Nat.le_of_ble_eq_true rfl) dX4_init_59 ⟨Nat.le_of_ble_eq_true rfl, Nat.le_of_ble_eq_true rfl⟩ ⟨Nat.le_of_ble_eq_true rfl, Nat.le_of_ble_eq_true rfl⟩) (fun r_52 hr_52 => ?_)
  refine zm_v (wr := [(h0, .inr (4, [.ref q_1, .ref q_2, .ref q_3, .int 1])), (q_3, .inl (k 0, 8, .inl (fun _ => 0))), (q_2, .inl (k 0, 512, .inl u_51))]) hP hD hS hA [2] [0, 1, 3] (zm_S (own := "HideReader$Lattice") (As := [.ref q_1, .int 2, .int 0, .int r_52]) (rest := []) (ws := [(q_1, .inl (k 0, 512, .inl u_49))]) hx hb hml hown hts hK noX_stb (fun _ _ _ => trivial) (c_X4_enter l D k q_1 2 0 1 (by decide) (by decide) (by decide) r_52 u_49) ck_X4_enter uw_2_33 uw_2_32 hP hD [2] rfl (by decide) rfl hl.1 rfl (Nat.le_of_ble_eq_true rfl) dX4_init_62 ⟨Nat.le_of_ble_eq_true rfl, Nat.le_of_ble_eq_true rfl⟩ ⟨Nat.le_of_ble_eq_true rfl, Nat.le_of_ble_eq_true rfl⟩) rfl rfl (by decide) (by decide) (fun u_53 H locs hu_53 hP hD hS => ?_)
  have hP : va_P D vwCl [(h0, .inr (4, [.ref q_1, .ref q_2, .ref q_3, .int 1])), (q_3, .inl (k 0, 8, .inl (fun _ => 0))), (q_2, .inl (k 0, 512, .inl u_51)), (q_1, .inl (k 0, 512, .inl u_53))] H := hP
  have hD : va_D A [(h0, .inr (4, [.ref q_1, .ref q_2, .ref q_3, .int 1])), (q_3, .inl (k 0, 8, .inl (fun _ => 0))), (q_2, .inl (k 0, 512, .inl u_51)), (q_1, .inl (k 0, 512, .inl u_53))] := hD
  have hLow : ∀ j, j < 64 → u_53 j = nI j := en_k hu_53 (by decide) hLow
  refine lv_aload_n hx hb dX4_init_65 rfl (lv_at hl 2 rfl) ?_
  refine va_get (D := D) (ci := 4) (v := .ref q_2) (C := RX4) (T := TX4) (N := 4) hx hb hts uc_4 hown hK hP 0 rfl rfl 1 (by decide) (hts _ uw_2_36) (fun _ h9 => h9) rfl dX4_init_66 ?_
  refine lv_iload_n hx hb dX4_init_69 rfl (lv_at hl 1 rfl) ?_
  refine lv_iload_n hx hb dX4_init_70 rfl (lv_at hl 0 rfl) ?_
  refine lv_iload_n hx hb dX4_init_71 rfl (lv_at hl 0 rfl) ?_
  refine lv_bipush (v := 6) hx hb dX4_init_72 (by decide) ?_
  refine lv_iadd hx hb dX4_init_74 ?_
  refine lv_topc 6 (by decide) ?_
  refine lv_iload_n hx hb dX4_init_75 rfl (lv_at hl 1 rfl) ?_
  refine zr_i (zr_S (own := "HideReader$Lattice") (As := [.int 6, .int 2]) (rest := [.int 0, .int 2, .ref q_2]) (ws := []) hx hb hml hown hts hK noX_stb (fun _ _ _ => trivial) (c_X4_movedStroke_14 l D k 6) ck_X4_movedStroke uw_2_30 uw_2_29 (zs_P hP [] rfl) rfl hl.1 rfl (Nat.le_of_ble_eq_true rfl) dX4_init_76 ⟨Nat.le_of_ble_eq_true rfl, Nat.le_of_ble_eq_true rfl⟩ ⟨Nat.le_of_ble_eq_true rfl, Nat.le_of_ble_eq_true rfl⟩) (fun r_54 hr_54 => ?_)
  refine zm_v (wr := [(h0, .inr (4, [.ref q_1, .ref q_2, .ref q_3, .int 1])), (q_3, .inl (k 0, 8, .inl (fun _ => 0))), (q_1, .inl (k 0, 512, .inl u_53))]) hP hD hS hA [2] [0, 1, 3] (zm_S (own := "HideReader$Lattice") (As := [.ref q_2, .int 2, .int 0, .int r_54]) (rest := []) (ws := [(q_2, .inl (k 0, 512, .inl u_51))]) hx hb hml hown hts hK noX_stb (fun _ _ _ => trivial) (c_X4_enter l D k q_2 2 0 1 (by decide) (by decide) (by decide) r_54 u_51) ck_X4_enter uw_2_33 uw_2_32 hP hD [2] rfl (by decide) rfl hl.1 rfl (Nat.le_of_ble_eq_true rfl) dX4_init_79 ⟨Nat.le_of_ble_eq_true rfl, Nat.le_of_ble_eq_true rfl⟩ ⟨Nat.le_of_ble_eq_true rfl, Nat.le_of_ble_eq_true rfl⟩) rfl rfl (by decide) (by decide) (fun u_55 H locs hu_55 hP hD hS => ?_)
  have hP : va_P D vwCl [(h0, .inr (4, [.ref q_1, .ref q_2, .ref q_3, .int 1])), (q_3, .inl (k 0, 8, .inl (fun _ => 0))), (q_1, .inl (k 0, 512, .inl u_53)), (q_2, .inl (k 0, 512, .inl u_55))] H := hP
  have hD : va_D A [(h0, .inr (4, [.ref q_1, .ref q_2, .ref q_3, .int 1])), (q_3, .inl (k 0, 8, .inl (fun _ => 0))), (q_1, .inl (k 0, 512, .inl u_53)), (q_2, .inl (k 0, 512, .inl u_55))] := hD
  have hHigh : ∀ j, j < 64 → u_55 j = (fun j => nI j <<< ((6 : Int32) &&& 31)) j := en_k hu_55 (by decide) hHigh
  refine lv_iinc (v := 1) (lv' := [(2, .int 1), (1, .int 2), (0, .ref h0)]) hx hb dX4_init_82 hl (k := 0) rfl (by decide) (by decide) rfl (fun ls hl => ?_)
  refine lv_goto (tgt := 45) hx hb dX4_init_85 (by decide) ?_
  refine lv_iload_n hx hb dX4_init_45 rfl (lv_at hl 0 rfl) ?_
  refine lv_bipush (v := 6) hx hb dX4_init_46 (by decide) ?_
  refine lv_icmp_ge (tgt := 88) hx hb dX4_init_48 (by decide) (fun c9 => absurd c9 (by decide)) (fun _ => ?_)
  refine lv_aload_n hx hb dX4_init_51 rfl (lv_at hl 2 rfl) ?_
  refine va_get (D := D) (ci := 4) (v := .ref q_1) (C := RX4) (T := TX4) (N := 4) hx hb hts uc_4 hown hK hP 0 rfl rfl 0 (by decide) (hts _ uw_2_35) (fun _ h9 => h9) rfl dX4_init_52 ?_
  refine lv_iload_n hx hb dX4_init_55 rfl (lv_at hl 1 rfl) ?_
  refine lv_iload_n hx hb dX4_init_56 rfl (lv_at hl 0 rfl) ?_
  refine lv_iload_n hx hb dX4_init_57 rfl (lv_at hl 0 rfl) ?_
  refine lv_iload_n hx hb dX4_init_58 rfl (lv_at hl 1 rfl) ?_
  refine zr_i (zr_S (own := "HideReader$Lattice") (As := [.int 1, .int 2]) (rest := [.int 1, .int 2, .ref q_1]) (ws := []) hx hb hml hown hts hK noX_stb (fun _ _ _ => trivial) (c_X4_movedStroke_14 l D k 1) ck_X4_movedStroke uw_2_30 uw_2_29 (zs_P hP [] rfl) rfl hl.1 rfl (Nat.le_of_ble_eq_true rfl) dX4_init_59 ⟨Nat.le_of_ble_eq_true rfl, Nat.le_of_ble_eq_true rfl⟩ ⟨Nat.le_of_ble_eq_true rfl, Nat.le_of_ble_eq_true rfl⟩) (fun r_56 hr_56 => ?_)
  refine zm_v (wr := [(h0, .inr (4, [.ref q_1, .ref q_2, .ref q_3, .int 1])), (q_3, .inl (k 0, 8, .inl (fun _ => 0))), (q_2, .inl (k 0, 512, .inl u_55))]) hP hD hS hA [2] [0, 1, 3] (zm_S (own := "HideReader$Lattice") (As := [.ref q_1, .int 2, .int 1, .int r_56]) (rest := []) (ws := [(q_1, .inl (k 0, 512, .inl u_53))]) hx hb hml hown hts hK noX_stb (fun _ _ _ => trivial) (c_X4_enter l D k q_1 2 1 2 (by decide) (by decide) (by decide) r_56 u_53) ck_X4_enter uw_2_33 uw_2_32 hP hD [2] rfl (by decide) rfl hl.1 rfl (Nat.le_of_ble_eq_true rfl) dX4_init_62 ⟨Nat.le_of_ble_eq_true rfl, Nat.le_of_ble_eq_true rfl⟩ ⟨Nat.le_of_ble_eq_true rfl, Nat.le_of_ble_eq_true rfl⟩) rfl rfl (by decide) (by decide) (fun u_57 H locs hu_57 hP hD hS => ?_)
  have hP : va_P D vwCl [(h0, .inr (4, [.ref q_1, .ref q_2, .ref q_3, .int 1])), (q_3, .inl (k 0, 8, .inl (fun _ => 0))), (q_2, .inl (k 0, 512, .inl u_55)), (q_1, .inl (k 0, 512, .inl u_57))] H := hP
  have hD : va_D A [(h0, .inr (4, [.ref q_1, .ref q_2, .ref q_3, .int 1])), (q_3, .inl (k 0, 8, .inl (fun _ => 0))), (q_2, .inl (k 0, 512, .inl u_55)), (q_1, .inl (k 0, 512, .inl u_57))] := hD
  have hLow : ∀ j, j < 64 → u_57 j = nI j := en_k hu_57 (by decide) hLow
  refine lv_aload_n hx hb dX4_init_65 rfl (lv_at hl 2 rfl) ?_
  refine va_get (D := D) (ci := 4) (v := .ref q_2) (C := RX4) (T := TX4) (N := 4) hx hb hts uc_4 hown hK hP 0 rfl rfl 1 (by decide) (hts _ uw_2_36) (fun _ h9 => h9) rfl dX4_init_66 ?_
  refine lv_iload_n hx hb dX4_init_69 rfl (lv_at hl 1 rfl) ?_
  refine lv_iload_n hx hb dX4_init_70 rfl (lv_at hl 0 rfl) ?_
  refine lv_iload_n hx hb dX4_init_71 rfl (lv_at hl 0 rfl) ?_
  refine lv_bipush (v := 6) hx hb dX4_init_72 (by decide) ?_
  refine lv_iadd hx hb dX4_init_74 ?_
  refine lv_topc 7 (by decide) ?_
  refine lv_iload_n hx hb dX4_init_75 rfl (lv_at hl 1 rfl) ?_
  refine zr_i (zr_S (own := "HideReader$Lattice") (As := [.int 7, .int 2]) (rest := [.int 1, .int 2, .ref q_2]) (ws := []) hx hb hml hown hts hK noX_stb (fun _ _ _ => trivial) (c_X4_movedStroke_14 l D k 7) ck_X4_movedStroke uw_2_30 uw_2_29 (zs_P hP [] rfl) rfl hl.1 rfl (Nat.le_of_ble_eq_true rfl) dX4_init_76 ⟨Nat.le_of_ble_eq_true rfl, Nat.le_of_ble_eq_true rfl⟩ ⟨Nat.le_of_ble_eq_true rfl, Nat.le_of_ble_eq_true rfl⟩) (fun r_58 hr_58 => ?_)
  refine zm_v (wr := [(h0, .inr (4, [.ref q_1, .ref q_2, .ref q_3, .int 1])), (q_3, .inl (k 0, 8, .inl (fun _ => 0))), (q_1, .inl (k 0, 512, .inl u_57))]) hP hD hS hA [2] [0, 1, 3] (zm_S (own := "HideReader$Lattice") (As := [.ref q_2, .int 2, .int 1, .int r_58]) (rest := []) (ws := [(q_2, .inl (k 0, 512, .inl u_55))]) hx hb hml hown hts hK noX_stb (fun _ _ _ => trivial) (c_X4_enter l D k q_2 2 1 2 (by decide) (by decide) (by decide) r_58 u_55) ck_X4_enter uw_2_33 uw_2_32 hP hD [2] rfl (by decide) rfl hl.1 rfl (Nat.le_of_ble_eq_true rfl) dX4_init_79 ⟨Nat.le_of_ble_eq_true rfl, Nat.le_of_ble_eq_true rfl⟩ ⟨Nat.le_of_ble_eq_true rfl, Nat.le_of_ble_eq_true rfl⟩) rfl rfl (by decide) (by decide) (fun u_59 H locs hu_59 hP hD hS => ?_)
  have hP : va_P D vwCl [(h0, .inr (4, [.ref q_1, .ref q_2, .ref q_3, .int 1])), (q_3, .inl (k 0, 8, .inl (fun _ => 0))), (q_1, .inl (k 0, 512, .inl u_57)), (q_2, .inl (k 0, 512, .inl u_59))] H := hP
  have hD : va_D A [(h0, .inr (4, [.ref q_1, .ref q_2, .ref q_3, .int 1])), (q_3, .inl (k 0, 8, .inl (fun _ => 0))), (q_1, .inl (k 0, 512, .inl u_57)), (q_2, .inl (k 0, 512, .inl u_59))] := hD
  have hHigh : ∀ j, j < 64 → u_59 j = (fun j => nI j <<< ((6 : Int32) &&& 31)) j := en_k hu_59 (by decide) hHigh
  refine lv_iinc (v := 2) (lv' := [(2, .int 2), (1, .int 2), (0, .ref h0)]) hx hb dX4_init_82 hl (k := 0) rfl (by decide) (by decide) rfl (fun ls hl => ?_)
  refine lv_goto (tgt := 45) hx hb dX4_init_85 (by decide) ?_
  refine lv_iload_n hx hb dX4_init_45 rfl (lv_at hl 0 rfl) ?_
  refine lv_bipush (v := 6) hx hb dX4_init_46 (by decide) ?_
  refine lv_icmp_ge (tgt := 88) hx hb dX4_init_48 (by decide) (fun c9 => absurd c9 (by decide)) (fun _ => ?_)
  refine lv_aload_n hx hb dX4_init_51 rfl (lv_at hl 2 rfl) ?_
  refine va_get (D := D) (ci := 4) (v := .ref q_1) (C := RX4) (T := TX4) (N := 4) hx hb hts uc_4 hown hK hP 0 rfl rfl 0 (by decide) (hts _ uw_2_35) (fun _ h9 => h9) rfl dX4_init_52 ?_
  refine lv_iload_n hx hb dX4_init_55 rfl (lv_at hl 1 rfl) ?_
  refine lv_iload_n hx hb dX4_init_56 rfl (lv_at hl 0 rfl) ?_
  refine lv_iload_n hx hb dX4_init_57 rfl (lv_at hl 0 rfl) ?_
  refine lv_iload_n hx hb dX4_init_58 rfl (lv_at hl 1 rfl) ?_
  refine zr_i (zr_S (own := "HideReader$Lattice") (As := [.int 2, .int 2]) (rest := [.int 2, .int 2, .ref q_1]) (ws := []) hx hb hml hown hts hK noX_stb (fun _ _ _ => trivial) (c_X4_movedStroke_14 l D k 2) ck_X4_movedStroke uw_2_30 uw_2_29 (zs_P hP [] rfl) rfl hl.1 rfl (Nat.le_of_ble_eq_true rfl) dX4_init_59 ⟨Nat.le_of_ble_eq_true rfl, Nat.le_of_ble_eq_true rfl⟩ ⟨Nat.le_of_ble_eq_true rfl, Nat.le_of_ble_eq_true rfl⟩) (fun r_60 hr_60 => ?_)
  refine zm_v (wr := [(h0, .inr (4, [.ref q_1, .ref q_2, .ref q_3, .int 1])), (q_3, .inl (k 0, 8, .inl (fun _ => 0))), (q_2, .inl (k 0, 512, .inl u_59))]) hP hD hS hA [2] [0, 1, 3] (zm_S (own := "HideReader$Lattice") (As := [.ref q_1, .int 2, .int 2, .int r_60]) (rest := []) (ws := [(q_1, .inl (k 0, 512, .inl u_57))]) hx hb hml hown hts hK noX_stb (fun _ _ _ => trivial) (c_X4_enter l D k q_1 2 2 4 (by decide) (by decide) (by decide) r_60 u_57) ck_X4_enter uw_2_33 uw_2_32 hP hD [2] rfl (by decide) rfl hl.1 rfl (Nat.le_of_ble_eq_true rfl) dX4_init_62 ⟨Nat.le_of_ble_eq_true rfl, Nat.le_of_ble_eq_true rfl⟩ ⟨Nat.le_of_ble_eq_true rfl, Nat.le_of_ble_eq_true rfl⟩) rfl rfl (by decide) (by decide) (fun u_61 H locs hu_61 hP hD hS => ?_)
  have hP : va_P D vwCl [(h0, .inr (4, [.ref q_1, .ref q_2, .ref q_3, .int 1])), (q_3, .inl (k 0, 8, .inl (fun _ => 0))), (q_2, .inl (k 0, 512, .inl u_59)), (q_1, .inl (k 0, 512, .inl u_61))] H := hP
  have hD : va_D A [(h0, .inr (4, [.ref q_1, .ref q_2, .ref q_3, .int 1])), (q_3, .inl (k 0, 8, .inl (fun _ => 0))), (q_2, .inl (k 0, 512, .inl u_59)), (q_1, .inl (k 0, 512, .inl u_61))] := hD
  have hLow : ∀ j, j < 64 → u_61 j = nI j := en_k hu_61 (by decide) hLow
  refine lv_aload_n hx hb dX4_init_65 rfl (lv_at hl 2 rfl) ?_
  refine va_get (D := D) (ci := 4) (v := .ref q_2) (C := RX4) (T := TX4) (N := 4) hx hb hts uc_4 hown hK hP 0 rfl rfl 1 (by decide) (hts _ uw_2_36) (fun _ h9 => h9) rfl dX4_init_66 ?_
  refine lv_iload_n hx hb dX4_init_69 rfl (lv_at hl 1 rfl) ?_
  refine lv_iload_n hx hb dX4_init_70 rfl (lv_at hl 0 rfl) ?_
  refine lv_iload_n hx hb dX4_init_71 rfl (lv_at hl 0 rfl) ?_
  refine lv_bipush (v := 6) hx hb dX4_init_72 (by decide) ?_
  refine lv_iadd hx hb dX4_init_74 ?_
  refine lv_topc 8 (by decide) ?_
  refine lv_iload_n hx hb dX4_init_75 rfl (lv_at hl 1 rfl) ?_
  refine zr_i (zr_S (own := "HideReader$Lattice") (As := [.int 8, .int 2]) (rest := [.int 2, .int 2, .ref q_2]) (ws := []) hx hb hml hown hts hK noX_stb (fun _ _ _ => trivial) (c_X4_movedStroke_14 l D k 8) ck_X4_movedStroke uw_2_30 uw_2_29 (zs_P hP [] rfl) rfl hl.1 rfl (Nat.le_of_ble_eq_true rfl) dX4_init_76 ⟨Nat.le_of_ble_eq_true rfl, Nat.le_of_ble_eq_true rfl⟩ ⟨Nat.le_of_ble_eq_true rfl, Nat.le_of_ble_eq_true rfl⟩) (fun r_62 hr_62 => ?_)
  refine zm_v (wr := [(h0, .inr (4, [.ref q_1, .ref q_2, .ref q_3, .int 1])), (q_3, .inl (k 0, 8, .inl (fun _ => 0))), (q_1, .inl (k 0, 512, .inl u_61))]) hP hD hS hA [2] [0, 1, 3] (zm_S (own := "HideReader$Lattice") (As := [.ref q_2, .int 2, .int 2, .int r_62]) (rest := []) (ws := [(q_2, .inl (k 0, 512, .inl u_59))]) hx hb hml hown hts hK noX_stb (fun _ _ _ => trivial) (c_X4_enter l D k q_2 2 2 4 (by decide) (by decide) (by decide) r_62 u_59) ck_X4_enter uw_2_33 uw_2_32 hP hD [2] rfl (by decide) rfl hl.1 rfl (Nat.le_of_ble_eq_true rfl) dX4_init_79 ⟨Nat.le_of_ble_eq_true rfl, Nat.le_of_ble_eq_true rfl⟩ ⟨Nat.le_of_ble_eq_true rfl, Nat.le_of_ble_eq_true rfl⟩) rfl rfl (by decide) (by decide) (fun u_63 H locs hu_63 hP hD hS => ?_)
  have hP : va_P D vwCl [(h0, .inr (4, [.ref q_1, .ref q_2, .ref q_3, .int 1])), (q_3, .inl (k 0, 8, .inl (fun _ => 0))), (q_1, .inl (k 0, 512, .inl u_61)), (q_2, .inl (k 0, 512, .inl u_63))] H := hP
  have hD : va_D A [(h0, .inr (4, [.ref q_1, .ref q_2, .ref q_3, .int 1])), (q_3, .inl (k 0, 8, .inl (fun _ => 0))), (q_1, .inl (k 0, 512, .inl u_61)), (q_2, .inl (k 0, 512, .inl u_63))] := hD
  have hHigh : ∀ j, j < 64 → u_63 j = (fun j => nI j <<< ((6 : Int32) &&& 31)) j := en_k hu_63 (by decide) hHigh
  refine lv_iinc (v := 3) (lv' := [(2, .int 3), (1, .int 2), (0, .ref h0)]) hx hb dX4_init_82 hl (k := 0) rfl (by decide) (by decide) rfl (fun ls hl => ?_)
  refine lv_goto (tgt := 45) hx hb dX4_init_85 (by decide) ?_
  refine lv_iload_n hx hb dX4_init_45 rfl (lv_at hl 0 rfl) ?_
  refine lv_bipush (v := 6) hx hb dX4_init_46 (by decide) ?_
  refine lv_icmp_ge (tgt := 88) hx hb dX4_init_48 (by decide) (fun c9 => absurd c9 (by decide)) (fun _ => ?_)
  refine lv_aload_n hx hb dX4_init_51 rfl (lv_at hl 2 rfl) ?_
  refine va_get (D := D) (ci := 4) (v := .ref q_1) (C := RX4) (T := TX4) (N := 4) hx hb hts uc_4 hown hK hP 0 rfl rfl 0 (by decide) (hts _ uw_2_35) (fun _ h9 => h9) rfl dX4_init_52 ?_
  refine lv_iload_n hx hb dX4_init_55 rfl (lv_at hl 1 rfl) ?_
  refine lv_iload_n hx hb dX4_init_56 rfl (lv_at hl 0 rfl) ?_
  refine lv_iload_n hx hb dX4_init_57 rfl (lv_at hl 0 rfl) ?_
  refine lv_iload_n hx hb dX4_init_58 rfl (lv_at hl 1 rfl) ?_
  refine zr_i (zr_S (own := "HideReader$Lattice") (As := [.int 3, .int 2]) (rest := [.int 3, .int 2, .ref q_1]) (ws := []) hx hb hml hown hts hK noX_stb (fun _ _ _ => trivial) (c_X4_movedStroke_14 l D k 3) ck_X4_movedStroke uw_2_30 uw_2_29 (zs_P hP [] rfl) rfl hl.1 rfl (Nat.le_of_ble_eq_true rfl) dX4_init_59 ⟨Nat.le_of_ble_eq_true rfl, Nat.le_of_ble_eq_true rfl⟩ ⟨Nat.le_of_ble_eq_true rfl, Nat.le_of_ble_eq_true rfl⟩) (fun r_64 hr_64 => ?_)
  refine zm_v (wr := [(h0, .inr (4, [.ref q_1, .ref q_2, .ref q_3, .int 1])), (q_3, .inl (k 0, 8, .inl (fun _ => 0))), (q_2, .inl (k 0, 512, .inl u_63))]) hP hD hS hA [2] [0, 1, 3] (zm_S (own := "HideReader$Lattice") (As := [.ref q_1, .int 2, .int 3, .int r_64]) (rest := []) (ws := [(q_1, .inl (k 0, 512, .inl u_61))]) hx hb hml hown hts hK noX_stb (fun _ _ _ => trivial) (c_X4_enter l D k q_1 2 3 8 (by decide) (by decide) (by decide) r_64 u_61) ck_X4_enter uw_2_33 uw_2_32 hP hD [2] rfl (by decide) rfl hl.1 rfl (Nat.le_of_ble_eq_true rfl) dX4_init_62 ⟨Nat.le_of_ble_eq_true rfl, Nat.le_of_ble_eq_true rfl⟩ ⟨Nat.le_of_ble_eq_true rfl, Nat.le_of_ble_eq_true rfl⟩) rfl rfl (by decide) (by decide) (fun u_65 H locs hu_65 hP hD hS => ?_)
  have hP : va_P D vwCl [(h0, .inr (4, [.ref q_1, .ref q_2, .ref q_3, .int 1])), (q_3, .inl (k 0, 8, .inl (fun _ => 0))), (q_2, .inl (k 0, 512, .inl u_63)), (q_1, .inl (k 0, 512, .inl u_65))] H := hP
  have hD : va_D A [(h0, .inr (4, [.ref q_1, .ref q_2, .ref q_3, .int 1])), (q_3, .inl (k 0, 8, .inl (fun _ => 0))), (q_2, .inl (k 0, 512, .inl u_63)), (q_1, .inl (k 0, 512, .inl u_65))] := hD
  have hLow : ∀ j, j < 64 → u_65 j = nI j := en_k hu_65 (by decide) hLow
  refine lv_aload_n hx hb dX4_init_65 rfl (lv_at hl 2 rfl) ?_
  refine va_get (D := D) (ci := 4) (v := .ref q_2) (C := RX4) (T := TX4) (N := 4) hx hb hts uc_4 hown hK hP 0 rfl rfl 1 (by decide) (hts _ uw_2_36) (fun _ h9 => h9) rfl dX4_init_66 ?_
  refine lv_iload_n hx hb dX4_init_69 rfl (lv_at hl 1 rfl) ?_
  refine lv_iload_n hx hb dX4_init_70 rfl (lv_at hl 0 rfl) ?_
  refine lv_iload_n hx hb dX4_init_71 rfl (lv_at hl 0 rfl) ?_
  refine lv_bipush (v := 6) hx hb dX4_init_72 (by decide) ?_
  refine lv_iadd hx hb dX4_init_74 ?_
  refine lv_topc 9 (by decide) ?_
  refine lv_iload_n hx hb dX4_init_75 rfl (lv_at hl 1 rfl) ?_
  refine zr_i (zr_S (own := "HideReader$Lattice") (As := [.int 9, .int 2]) (rest := [.int 3, .int 2, .ref q_2]) (ws := []) hx hb hml hown hts hK noX_stb (fun _ _ _ => trivial) (c_X4_movedStroke_14 l D k 9) ck_X4_movedStroke uw_2_30 uw_2_29 (zs_P hP [] rfl) rfl hl.1 rfl (Nat.le_of_ble_eq_true rfl) dX4_init_76 ⟨Nat.le_of_ble_eq_true rfl, Nat.le_of_ble_eq_true rfl⟩ ⟨Nat.le_of_ble_eq_true rfl, Nat.le_of_ble_eq_true rfl⟩) (fun r_66 hr_66 => ?_)
  refine zm_v (wr := [(h0, .inr (4, [.ref q_1, .ref q_2, .ref q_3, .int 1])), (q_3, .inl (k 0, 8, .inl (fun _ => 0))), (q_1, .inl (k 0, 512, .inl u_65))]) hP hD hS hA [2] [0, 1, 3] (zm_S (own := "HideReader$Lattice") (As := [.ref q_2, .int 2, .int 3, .int r_66]) (rest := []) (ws := [(q_2, .inl (k 0, 512, .inl u_63))]) hx hb hml hown hts hK noX_stb (fun _ _ _ => trivial) (c_X4_enter l D k q_2 2 3 8 (by decide) (by decide) (by decide) r_66 u_63) ck_X4_enter uw_2_33 uw_2_32 hP hD [2] rfl (by decide) rfl hl.1 rfl (Nat.le_of_ble_eq_true rfl) dX4_init_79 ⟨Nat.le_of_ble_eq_true rfl, Nat.le_of_ble_eq_true rfl⟩ ⟨Nat.le_of_ble_eq_true rfl, Nat.le_of_ble_eq_true rfl⟩) rfl rfl (by decide) (by decide) (fun u_67 H locs hu_67 hP hD hS => ?_)
  have hP : va_P D vwCl [(h0, .inr (4, [.ref q_1, .ref q_2, .ref q_3, .int 1])), (q_3, .inl (k 0, 8, .inl (fun _ => 0))), (q_1, .inl (k 0, 512, .inl u_65)), (q_2, .inl (k 0, 512, .inl u_67))] H := hP
  have hD : va_D A [(h0, .inr (4, [.ref q_1, .ref q_2, .ref q_3, .int 1])), (q_3, .inl (k 0, 8, .inl (fun _ => 0))), (q_1, .inl (k 0, 512, .inl u_65)), (q_2, .inl (k 0, 512, .inl u_67))] := hD
  have hHigh : ∀ j, j < 64 → u_67 j = (fun j => nI j <<< ((6 : Int32) &&& 31)) j := en_k hu_67 (by decide) hHigh
  refine lv_iinc (v := 4) (lv' := [(2, .int 4), (1, .int 2), (0, .ref h0)]) hx hb dX4_init_82 hl (k := 0) rfl (by decide) (by decide) rfl (fun ls hl => ?_)
  refine lv_goto (tgt := 45) hx hb dX4_init_85 (by decide) ?_
  refine lv_iload_n hx hb dX4_init_45 rfl (lv_at hl 0 rfl) ?_
  refine lv_bipush (v := 6) hx hb dX4_init_46 (by decide) ?_
  refine lv_icmp_ge (tgt := 88) hx hb dX4_init_48 (by decide) (fun c9 => absurd c9 (by decide)) (fun _ => ?_)
  refine lv_aload_n hx hb dX4_init_51 rfl (lv_at hl 2 rfl) ?_
  refine va_get (D := D) (ci := 4) (v := .ref q_1) (C := RX4) (T := TX4) (N := 4) hx hb hts uc_4 hown hK hP 0 rfl rfl 0 (by decide) (hts _ uw_2_35) (fun _ h9 => h9) rfl dX4_init_52 ?_
  refine lv_iload_n hx hb dX4_init_55 rfl (lv_at hl 1 rfl) ?_
  refine lv_iload_n hx hb dX4_init_56 rfl (lv_at hl 0 rfl) ?_
  refine lv_iload_n hx hb dX4_init_57 rfl (lv_at hl 0 rfl) ?_
  refine lv_iload_n hx hb dX4_init_58 rfl (lv_at hl 1 rfl) ?_
  refine zr_i (zr_S (own := "HideReader$Lattice") (As := [.int 4, .int 2]) (rest := [.int 4, .int 2, .ref q_1]) (ws := []) hx hb hml hown hts hK noX_stb (fun _ _ _ => trivial) (c_X4_movedStroke_14 l D k 4) ck_X4_movedStroke uw_2_30 uw_2_29 (zs_P hP [] rfl) rfl hl.1 rfl (Nat.le_of_ble_eq_true rfl) dX4_init_59 ⟨Nat.le_of_ble_eq_true rfl, Nat.le_of_ble_eq_true rfl⟩ ⟨Nat.le_of_ble_eq_true rfl, Nat.le_of_ble_eq_true rfl⟩) (fun r_68 hr_68 => ?_)
  refine zm_v (wr := [(h0, .inr (4, [.ref q_1, .ref q_2, .ref q_3, .int 1])), (q_3, .inl (k 0, 8, .inl (fun _ => 0))), (q_2, .inl (k 0, 512, .inl u_67))]) hP hD hS hA [2] [0, 1, 3] (zm_S (own := "HideReader$Lattice") (As := [.ref q_1, .int 2, .int 4, .int r_68]) (rest := []) (ws := [(q_1, .inl (k 0, 512, .inl u_65))]) hx hb hml hown hts hK noX_stb (fun _ _ _ => trivial) (c_X4_enter l D k q_1 2 4 16 (by decide) (by decide) (by decide) r_68 u_65) ck_X4_enter uw_2_33 uw_2_32 hP hD [2] rfl (by decide) rfl hl.1 rfl (Nat.le_of_ble_eq_true rfl) dX4_init_62 ⟨Nat.le_of_ble_eq_true rfl, Nat.le_of_ble_eq_true rfl⟩ ⟨Nat.le_of_ble_eq_true rfl, Nat.le_of_ble_eq_true rfl⟩) rfl rfl (by decide) (by decide) (fun u_69 H locs hu_69 hP hD hS => ?_)
  have hP : va_P D vwCl [(h0, .inr (4, [.ref q_1, .ref q_2, .ref q_3, .int 1])), (q_3, .inl (k 0, 8, .inl (fun _ => 0))), (q_2, .inl (k 0, 512, .inl u_67)), (q_1, .inl (k 0, 512, .inl u_69))] H := hP
  have hD : va_D A [(h0, .inr (4, [.ref q_1, .ref q_2, .ref q_3, .int 1])), (q_3, .inl (k 0, 8, .inl (fun _ => 0))), (q_2, .inl (k 0, 512, .inl u_67)), (q_1, .inl (k 0, 512, .inl u_69))] := hD
  have hLow : ∀ j, j < 64 → u_69 j = nI j := en_k hu_69 (by decide) hLow
  refine lv_aload_n hx hb dX4_init_65 rfl (lv_at hl 2 rfl) ?_
  refine va_get (D := D) (ci := 4) (v := .ref q_2) (C := RX4) (T := TX4) (N := 4) hx hb hts uc_4 hown hK hP 0 rfl rfl 1 (by decide) (hts _ uw_2_36) (fun _ h9 => h9) rfl dX4_init_66 ?_
  refine lv_iload_n hx hb dX4_init_69 rfl (lv_at hl 1 rfl) ?_
  refine lv_iload_n hx hb dX4_init_70 rfl (lv_at hl 0 rfl) ?_
  refine lv_iload_n hx hb dX4_init_71 rfl (lv_at hl 0 rfl) ?_
  refine lv_bipush (v := 6) hx hb dX4_init_72 (by decide) ?_
  refine lv_iadd hx hb dX4_init_74 ?_
  refine lv_topc 10 (by decide) ?_
  refine lv_iload_n hx hb dX4_init_75 rfl (lv_at hl 1 rfl) ?_
  refine zr_i (zr_S (own := "HideReader$Lattice") (As := [.int 10, .int 2]) (rest := [.int 4, .int 2, .ref q_2]) (ws := []) hx hb hml hown hts hK noX_stb (fun _ _ _ => trivial) (c_X4_movedStroke_14 l D k 10) ck_X4_movedStroke uw_2_30 uw_2_29 (zs_P hP [] rfl) rfl hl.1 rfl (Nat.le_of_ble_eq_true rfl) dX4_init_76 ⟨Nat.le_of_ble_eq_true rfl, Nat.le_of_ble_eq_true rfl⟩ ⟨Nat.le_of_ble_eq_true rfl, Nat.le_of_ble_eq_true rfl⟩) (fun r_70 hr_70 => ?_)
  refine zm_v (wr := [(h0, .inr (4, [.ref q_1, .ref q_2, .ref q_3, .int 1])), (q_3, .inl (k 0, 8, .inl (fun _ => 0))), (q_1, .inl (k 0, 512, .inl u_69))]) hP hD hS hA [2] [0, 1, 3] (zm_S (own := "HideReader$Lattice") (As := [.ref q_2, .int 2, .int 4, .int r_70]) (rest := []) (ws := [(q_2, .inl (k 0, 512, .inl u_67))]) hx hb hml hown hts hK noX_stb (fun _ _ _ => trivial) (c_X4_enter l D k q_2 2 4 16 (by decide) (by decide) (by decide) r_70 u_67) ck_X4_enter uw_2_33 uw_2_32 hP hD [2] rfl (by decide) rfl hl.1 rfl (Nat.le_of_ble_eq_true rfl) dX4_init_79 ⟨Nat.le_of_ble_eq_true rfl, Nat.le_of_ble_eq_true rfl⟩ ⟨Nat.le_of_ble_eq_true rfl, Nat.le_of_ble_eq_true rfl⟩) rfl rfl (by decide) (by decide) (fun u_71 H locs hu_71 hP hD hS => ?_)
  have hP : va_P D vwCl [(h0, .inr (4, [.ref q_1, .ref q_2, .ref q_3, .int 1])), (q_3, .inl (k 0, 8, .inl (fun _ => 0))), (q_1, .inl (k 0, 512, .inl u_69)), (q_2, .inl (k 0, 512, .inl u_71))] H := hP
  have hD : va_D A [(h0, .inr (4, [.ref q_1, .ref q_2, .ref q_3, .int 1])), (q_3, .inl (k 0, 8, .inl (fun _ => 0))), (q_1, .inl (k 0, 512, .inl u_69)), (q_2, .inl (k 0, 512, .inl u_71))] := hD
  have hHigh : ∀ j, j < 64 → u_71 j = (fun j => nI j <<< ((6 : Int32) &&& 31)) j := en_k hu_71 (by decide) hHigh
  refine lv_iinc (v := 5) (lv' := [(2, .int 5), (1, .int 2), (0, .ref h0)]) hx hb dX4_init_82 hl (k := 0) rfl (by decide) (by decide) rfl (fun ls hl => ?_)
  refine lv_goto (tgt := 45) hx hb dX4_init_85 (by decide) ?_
  refine lv_iload_n hx hb dX4_init_45 rfl (lv_at hl 0 rfl) ?_
  refine lv_bipush (v := 6) hx hb dX4_init_46 (by decide) ?_
  refine lv_icmp_ge (tgt := 88) hx hb dX4_init_48 (by decide) (fun c9 => absurd c9 (by decide)) (fun _ => ?_)
  refine lv_aload_n hx hb dX4_init_51 rfl (lv_at hl 2 rfl) ?_
  refine va_get (D := D) (ci := 4) (v := .ref q_1) (C := RX4) (T := TX4) (N := 4) hx hb hts uc_4 hown hK hP 0 rfl rfl 0 (by decide) (hts _ uw_2_35) (fun _ h9 => h9) rfl dX4_init_52 ?_
  refine lv_iload_n hx hb dX4_init_55 rfl (lv_at hl 1 rfl) ?_
  refine lv_iload_n hx hb dX4_init_56 rfl (lv_at hl 0 rfl) ?_
  refine lv_iload_n hx hb dX4_init_57 rfl (lv_at hl 0 rfl) ?_
  refine lv_iload_n hx hb dX4_init_58 rfl (lv_at hl 1 rfl) ?_
  refine zr_i (zr_S (own := "HideReader$Lattice") (As := [.int 5, .int 2]) (rest := [.int 5, .int 2, .ref q_1]) (ws := []) hx hb hml hown hts hK noX_stb (fun _ _ _ => trivial) (c_X4_movedStroke_14 l D k 5) ck_X4_movedStroke uw_2_30 uw_2_29 (zs_P hP [] rfl) rfl hl.1 rfl (Nat.le_of_ble_eq_true rfl) dX4_init_59 ⟨Nat.le_of_ble_eq_true rfl, Nat.le_of_ble_eq_true rfl⟩ ⟨Nat.le_of_ble_eq_true rfl, Nat.le_of_ble_eq_true rfl⟩) (fun r_72 hr_72 => ?_)
  refine zm_v (wr := [(h0, .inr (4, [.ref q_1, .ref q_2, .ref q_3, .int 1])), (q_3, .inl (k 0, 8, .inl (fun _ => 0))), (q_2, .inl (k 0, 512, .inl u_71))]) hP hD hS hA [2] [0, 1, 3] (zm_S (own := "HideReader$Lattice") (As := [.ref q_1, .int 2, .int 5, .int r_72]) (rest := []) (ws := [(q_1, .inl (k 0, 512, .inl u_69))]) hx hb hml hown hts hK noX_stb (fun _ _ _ => trivial) (c_X4_enter l D k q_1 2 5 32 (by decide) (by decide) (by decide) r_72 u_69) ck_X4_enter uw_2_33 uw_2_32 hP hD [2] rfl (by decide) rfl hl.1 rfl (Nat.le_of_ble_eq_true rfl) dX4_init_62 ⟨Nat.le_of_ble_eq_true rfl, Nat.le_of_ble_eq_true rfl⟩ ⟨Nat.le_of_ble_eq_true rfl, Nat.le_of_ble_eq_true rfl⟩) rfl rfl (by decide) (by decide) (fun u_73 H locs hu_73 hP hD hS => ?_)
  have hP : va_P D vwCl [(h0, .inr (4, [.ref q_1, .ref q_2, .ref q_3, .int 1])), (q_3, .inl (k 0, 8, .inl (fun _ => 0))), (q_2, .inl (k 0, 512, .inl u_71)), (q_1, .inl (k 0, 512, .inl u_73))] H := hP
  have hD : va_D A [(h0, .inr (4, [.ref q_1, .ref q_2, .ref q_3, .int 1])), (q_3, .inl (k 0, 8, .inl (fun _ => 0))), (q_2, .inl (k 0, 512, .inl u_71)), (q_1, .inl (k 0, 512, .inl u_73))] := hD
  have hLow : ∀ j, j < 64 → u_73 j = nI j := en_k hu_73 (by decide) hLow
  refine lv_aload_n hx hb dX4_init_65 rfl (lv_at hl 2 rfl) ?_
  refine va_get (D := D) (ci := 4) (v := .ref q_2) (C := RX4) (T := TX4) (N := 4) hx hb hts uc_4 hown hK hP 0 rfl rfl 1 (by decide) (hts _ uw_2_36) (fun _ h9 => h9) rfl dX4_init_66 ?_
  refine lv_iload_n hx hb dX4_init_69 rfl (lv_at hl 1 rfl) ?_
  refine lv_iload_n hx hb dX4_init_70 rfl (lv_at hl 0 rfl) ?_
  refine lv_iload_n hx hb dX4_init_71 rfl (lv_at hl 0 rfl) ?_
  refine lv_bipush (v := 6) hx hb dX4_init_72 (by decide) ?_
  refine lv_iadd hx hb dX4_init_74 ?_
  refine lv_topc 11 (by decide) ?_
  refine lv_iload_n hx hb dX4_init_75 rfl (lv_at hl 1 rfl) ?_
  refine zr_i (zr_S (own := "HideReader$Lattice") (As := [.int 11, .int 2]) (rest := [.int 5, .int 2, .ref q_2]) (ws := []) hx hb hml hown hts hK noX_stb (fun _ _ _ => trivial) (c_X4_movedStroke_14 l D k 11) ck_X4_movedStroke uw_2_30 uw_2_29 (zs_P hP [] rfl) rfl hl.1 rfl (Nat.le_of_ble_eq_true rfl) dX4_init_76 ⟨Nat.le_of_ble_eq_true rfl, Nat.le_of_ble_eq_true rfl⟩ ⟨Nat.le_of_ble_eq_true rfl, Nat.le_of_ble_eq_true rfl⟩) (fun r_74 hr_74 => ?_)
  refine zm_v (wr := [(h0, .inr (4, [.ref q_1, .ref q_2, .ref q_3, .int 1])), (q_3, .inl (k 0, 8, .inl (fun _ => 0))), (q_1, .inl (k 0, 512, .inl u_73))]) hP hD hS hA [2] [0, 1, 3] (zm_S (own := "HideReader$Lattice") (As := [.ref q_2, .int 2, .int 5, .int r_74]) (rest := []) (ws := [(q_2, .inl (k 0, 512, .inl u_71))]) hx hb hml hown hts hK noX_stb (fun _ _ _ => trivial) (c_X4_enter l D k q_2 2 5 32 (by decide) (by decide) (by decide) r_74 u_71) ck_X4_enter uw_2_33 uw_2_32 hP hD [2] rfl (by decide) rfl hl.1 rfl (Nat.le_of_ble_eq_true rfl) dX4_init_79 ⟨Nat.le_of_ble_eq_true rfl, Nat.le_of_ble_eq_true rfl⟩ ⟨Nat.le_of_ble_eq_true rfl, Nat.le_of_ble_eq_true rfl⟩) rfl rfl (by decide) (by decide) (fun u_75 H locs hu_75 hP hD hS => ?_)
  have hP : va_P D vwCl [(h0, .inr (4, [.ref q_1, .ref q_2, .ref q_3, .int 1])), (q_3, .inl (k 0, 8, .inl (fun _ => 0))), (q_1, .inl (k 0, 512, .inl u_73)), (q_2, .inl (k 0, 512, .inl u_75))] H := hP
  have hD : va_D A [(h0, .inr (4, [.ref q_1, .ref q_2, .ref q_3, .int 1])), (q_3, .inl (k 0, 8, .inl (fun _ => 0))), (q_1, .inl (k 0, 512, .inl u_73)), (q_2, .inl (k 0, 512, .inl u_75))] := hD
  have hHigh : ∀ j, j < 64 → u_75 j = (fun j => nI j <<< ((6 : Int32) &&& 31)) j := en_k hu_75 (by decide) hHigh
  refine lv_iinc (v := 6) (lv' := [(2, .int 6), (1, .int 2), (0, .ref h0)]) hx hb dX4_init_82 hl (k := 0) rfl (by decide) (by decide) rfl (fun ls hl => ?_)
  refine lv_goto (tgt := 45) hx hb dX4_init_85 (by decide) ?_
  refine lv_iload_n hx hb dX4_init_45 rfl (lv_at hl 0 rfl) ?_
  refine lv_bipush (v := 6) hx hb dX4_init_46 (by decide) ?_
  refine lv_icmp_ge (tgt := 88) hx hb dX4_init_48 (by decide) (fun _ => ?_) (fun c9 => absurd (by decide) c9)
  refine lv_iinc (v := 3) (lv' := [(1, .int 3), (2, .int 6), (0, .ref h0)]) hx hb dX4_init_88 hl (k := 1) rfl (by decide) (by decide) rfl (fun ls hl => ?_)
  refine lv_goto (tgt := 37) hx hb dX4_init_91 (by decide) ?_
  refine lv_iload_n hx hb dX4_init_37 rfl (lv_at hl 0 rfl) ?_
  refine lv_bipush (v := 8) hx hb dX4_init_38 (by decide) ?_
  refine lv_icmp_ge (tgt := 94) hx hb dX4_init_40 (by decide) (fun c9 => absurd c9 (by decide)) (fun _ => ?_)
  refine lv_iconst (v := 0) hx hb dX4_init_43 (by decide) ?_
  refine lv_istore_n (lv' := [(2, .int 0), (1, .int 3), (0, .ref h0)]) hx hb dX4_init_44 rfl hl (by decide) rfl (fun ls hl => ?_)
  refine lv_iload_n hx hb dX4_init_45 rfl (lv_at hl 0 rfl) ?_
  refine lv_bipush (v := 6) hx hb dX4_init_46 (by decide) ?_
  refine lv_icmp_ge (tgt := 88) hx hb dX4_init_48 (by decide) (fun c9 => absurd c9 (by decide)) (fun _ => ?_)
  refine lv_aload_n hx hb dX4_init_51 rfl (lv_at hl 2 rfl) ?_
  refine va_get (D := D) (ci := 4) (v := .ref q_1) (C := RX4) (T := TX4) (N := 4) hx hb hts uc_4 hown hK hP 0 rfl rfl 0 (by decide) (hts _ uw_2_35) (fun _ h9 => h9) rfl dX4_init_52 ?_
  refine lv_iload_n hx hb dX4_init_55 rfl (lv_at hl 1 rfl) ?_
  refine lv_iload_n hx hb dX4_init_56 rfl (lv_at hl 0 rfl) ?_
  refine lv_iload_n hx hb dX4_init_57 rfl (lv_at hl 0 rfl) ?_
  refine lv_iload_n hx hb dX4_init_58 rfl (lv_at hl 1 rfl) ?_
  refine zr_i (zr_S (own := "HideReader$Lattice") (As := [.int 0, .int 3]) (rest := [.int 0, .int 3, .ref q_1]) (ws := []) hx hb hml hown hts hK noX_stb (fun _ _ _ => trivial) (c_X4_movedStroke_15 l D k 0) ck_X4_movedStroke uw_2_30 uw_2_29 (zs_P hP [] rfl) rfl hl.1 rfl (Nat.le_of_ble_eq_true rfl) dX4_init_59 ⟨Nat.le_of_ble_eq_true rfl, Nat.le_of_ble_eq_true rfl⟩ ⟨Nat.le_of_ble_eq_true rfl, Nat.le_of_ble_eq_true rfl⟩) (fun r_76 hr_76 => ?_)
  refine zm_v (wr := [(h0, .inr (4, [.ref q_1, .ref q_2, .ref q_3, .int 1])), (q_3, .inl (k 0, 8, .inl (fun _ => 0))), (q_2, .inl (k 0, 512, .inl u_75))]) hP hD hS hA [2] [0, 1, 3] (zm_S (own := "HideReader$Lattice") (As := [.ref q_1, .int 3, .int 0, .int r_76]) (rest := []) (ws := [(q_1, .inl (k 0, 512, .inl u_73))]) hx hb hml hown hts hK noX_stb (fun _ _ _ => trivial) (c_X4_enter l D k q_1 3 0 1 (by decide) (by decide) (by decide) r_76 u_73) ck_X4_enter uw_2_33 uw_2_32 hP hD [2] rfl (by decide) rfl hl.1 rfl (Nat.le_of_ble_eq_true rfl) dX4_init_62 ⟨Nat.le_of_ble_eq_true rfl, Nat.le_of_ble_eq_true rfl⟩ ⟨Nat.le_of_ble_eq_true rfl, Nat.le_of_ble_eq_true rfl⟩) rfl rfl (by decide) (by decide) (fun u_77 H locs hu_77 hP hD hS => ?_)
  have hP : va_P D vwCl [(h0, .inr (4, [.ref q_1, .ref q_2, .ref q_3, .int 1])), (q_3, .inl (k 0, 8, .inl (fun _ => 0))), (q_2, .inl (k 0, 512, .inl u_75)), (q_1, .inl (k 0, 512, .inl u_77))] H := hP
  have hD : va_D A [(h0, .inr (4, [.ref q_1, .ref q_2, .ref q_3, .int 1])), (q_3, .inl (k 0, 8, .inl (fun _ => 0))), (q_2, .inl (k 0, 512, .inl u_75)), (q_1, .inl (k 0, 512, .inl u_77))] := hD
  have hLow : ∀ j, j < 64 → u_77 j = nI j := en_k hu_77 (by decide) hLow
  refine lv_aload_n hx hb dX4_init_65 rfl (lv_at hl 2 rfl) ?_
  refine va_get (D := D) (ci := 4) (v := .ref q_2) (C := RX4) (T := TX4) (N := 4) hx hb hts uc_4 hown hK hP 0 rfl rfl 1 (by decide) (hts _ uw_2_36) (fun _ h9 => h9) rfl dX4_init_66 ?_
  refine lv_iload_n hx hb dX4_init_69 rfl (lv_at hl 1 rfl) ?_
  refine lv_iload_n hx hb dX4_init_70 rfl (lv_at hl 0 rfl) ?_
  refine lv_iload_n hx hb dX4_init_71 rfl (lv_at hl 0 rfl) ?_
  refine lv_bipush (v := 6) hx hb dX4_init_72 (by decide) ?_
  refine lv_iadd hx hb dX4_init_74 ?_
  refine lv_topc 6 (by decide) ?_
  refine lv_iload_n hx hb dX4_init_75 rfl (lv_at hl 1 rfl) ?_
  refine zr_i (zr_S (own := "HideReader$Lattice") (As := [.int 6, .int 3]) (rest := [.int 0, .int 3, .ref q_2]) (ws := []) hx hb hml hown hts hK noX_stb (fun _ _ _ => trivial) (c_X4_movedStroke_15 l D k 6) ck_X4_movedStroke uw_2_30 uw_2_29 (zs_P hP [] rfl) rfl hl.1 rfl (Nat.le_of_ble_eq_true rfl) dX4_init_76 ⟨Nat.le_of_ble_eq_true rfl, Nat.le_of_ble_eq_true rfl⟩ ⟨Nat.le_of_ble_eq_true rfl, Nat.le_of_ble_eq_true rfl⟩) (fun r_78 hr_78 => ?_)
  refine zm_v (wr := [(h0, .inr (4, [.ref q_1, .ref q_2, .ref q_3, .int 1])), (q_3, .inl (k 0, 8, .inl (fun _ => 0))), (q_1, .inl (k 0, 512, .inl u_77))]) hP hD hS hA [2] [0, 1, 3] (zm_S (own := "HideReader$Lattice") (As := [.ref q_2, .int 3, .int 0, .int r_78]) (rest := []) (ws := [(q_2, .inl (k 0, 512, .inl u_75))]) hx hb hml hown hts hK noX_stb (fun _ _ _ => trivial) (c_X4_enter l D k q_2 3 0 1 (by decide) (by decide) (by decide) r_78 u_75) ck_X4_enter uw_2_33 uw_2_32 hP hD [2] rfl (by decide) rfl hl.1 rfl (Nat.le_of_ble_eq_true rfl) dX4_init_79 ⟨Nat.le_of_ble_eq_true rfl, Nat.le_of_ble_eq_true rfl⟩ ⟨Nat.le_of_ble_eq_true rfl, Nat.le_of_ble_eq_true rfl⟩) rfl rfl (by decide) (by decide) (fun u_79 H locs hu_79 hP hD hS => ?_)
  have hP : va_P D vwCl [(h0, .inr (4, [.ref q_1, .ref q_2, .ref q_3, .int 1])), (q_3, .inl (k 0, 8, .inl (fun _ => 0))), (q_1, .inl (k 0, 512, .inl u_77)), (q_2, .inl (k 0, 512, .inl u_79))] H := hP
  have hD : va_D A [(h0, .inr (4, [.ref q_1, .ref q_2, .ref q_3, .int 1])), (q_3, .inl (k 0, 8, .inl (fun _ => 0))), (q_1, .inl (k 0, 512, .inl u_77)), (q_2, .inl (k 0, 512, .inl u_79))] := hD
  have hHigh : ∀ j, j < 64 → u_79 j = (fun j => nI j <<< ((6 : Int32) &&& 31)) j := en_k hu_79 (by decide) hHigh
  refine lv_iinc (v := 1) (lv' := [(2, .int 1), (1, .int 3), (0, .ref h0)]) hx hb dX4_init_82 hl (k := 0) rfl (by decide) (by decide) rfl (fun ls hl => ?_)
  refine lv_goto (tgt := 45) hx hb dX4_init_85 (by decide) ?_
  refine lv_iload_n hx hb dX4_init_45 rfl (lv_at hl 0 rfl) ?_
  refine lv_bipush (v := 6) hx hb dX4_init_46 (by decide) ?_
  refine lv_icmp_ge (tgt := 88) hx hb dX4_init_48 (by decide) (fun c9 => absurd c9 (by decide)) (fun _ => ?_)
  refine lv_aload_n hx hb dX4_init_51 rfl (lv_at hl 2 rfl) ?_
  refine va_get (D := D) (ci := 4) (v := .ref q_1) (C := RX4) (T := TX4) (N := 4) hx hb hts uc_4 hown hK hP 0 rfl rfl 0 (by decide) (hts _ uw_2_35) (fun _ h9 => h9) rfl dX4_init_52 ?_
  refine lv_iload_n hx hb dX4_init_55 rfl (lv_at hl 1 rfl) ?_
  refine lv_iload_n hx hb dX4_init_56 rfl (lv_at hl 0 rfl) ?_
  refine lv_iload_n hx hb dX4_init_57 rfl (lv_at hl 0 rfl) ?_
  refine lv_iload_n hx hb dX4_init_58 rfl (lv_at hl 1 rfl) ?_
  refine zr_i (zr_S (own := "HideReader$Lattice") (As := [.int 1, .int 3]) (rest := [.int 1, .int 3, .ref q_1]) (ws := []) hx hb hml hown hts hK noX_stb (fun _ _ _ => trivial) (c_X4_movedStroke_15 l D k 1) ck_X4_movedStroke uw_2_30 uw_2_29 (zs_P hP [] rfl) rfl hl.1 rfl (Nat.le_of_ble_eq_true rfl) dX4_init_59 ⟨Nat.le_of_ble_eq_true rfl, Nat.le_of_ble_eq_true rfl⟩ ⟨Nat.le_of_ble_eq_true rfl, Nat.le_of_ble_eq_true rfl⟩) (fun r_80 hr_80 => ?_)
  refine zm_v (wr := [(h0, .inr (4, [.ref q_1, .ref q_2, .ref q_3, .int 1])), (q_3, .inl (k 0, 8, .inl (fun _ => 0))), (q_2, .inl (k 0, 512, .inl u_79))]) hP hD hS hA [2] [0, 1, 3] (zm_S (own := "HideReader$Lattice") (As := [.ref q_1, .int 3, .int 1, .int r_80]) (rest := []) (ws := [(q_1, .inl (k 0, 512, .inl u_77))]) hx hb hml hown hts hK noX_stb (fun _ _ _ => trivial) (c_X4_enter l D k q_1 3 1 2 (by decide) (by decide) (by decide) r_80 u_77) ck_X4_enter uw_2_33 uw_2_32 hP hD [2] rfl (by decide) rfl hl.1 rfl (Nat.le_of_ble_eq_true rfl) dX4_init_62 ⟨Nat.le_of_ble_eq_true rfl, Nat.le_of_ble_eq_true rfl⟩ ⟨Nat.le_of_ble_eq_true rfl, Nat.le_of_ble_eq_true rfl⟩) rfl rfl (by decide) (by decide) (fun u_81 H locs hu_81 hP hD hS => ?_)
  have hP : va_P D vwCl [(h0, .inr (4, [.ref q_1, .ref q_2, .ref q_3, .int 1])), (q_3, .inl (k 0, 8, .inl (fun _ => 0))), (q_2, .inl (k 0, 512, .inl u_79)), (q_1, .inl (k 0, 512, .inl u_81))] H := hP
  have hD : va_D A [(h0, .inr (4, [.ref q_1, .ref q_2, .ref q_3, .int 1])), (q_3, .inl (k 0, 8, .inl (fun _ => 0))), (q_2, .inl (k 0, 512, .inl u_79)), (q_1, .inl (k 0, 512, .inl u_81))] := hD
  have hLow : ∀ j, j < 64 → u_81 j = nI j := en_k hu_81 (by decide) hLow
  refine lv_aload_n hx hb dX4_init_65 rfl (lv_at hl 2 rfl) ?_
  refine va_get (D := D) (ci := 4) (v := .ref q_2) (C := RX4) (T := TX4) (N := 4) hx hb hts uc_4 hown hK hP 0 rfl rfl 1 (by decide) (hts _ uw_2_36) (fun _ h9 => h9) rfl dX4_init_66 ?_
  refine lv_iload_n hx hb dX4_init_69 rfl (lv_at hl 1 rfl) ?_
  refine lv_iload_n hx hb dX4_init_70 rfl (lv_at hl 0 rfl) ?_
  refine lv_iload_n hx hb dX4_init_71 rfl (lv_at hl 0 rfl) ?_
  refine lv_bipush (v := 6) hx hb dX4_init_72 (by decide) ?_
  refine lv_iadd hx hb dX4_init_74 ?_
  refine lv_topc 7 (by decide) ?_
  refine lv_iload_n hx hb dX4_init_75 rfl (lv_at hl 1 rfl) ?_
  refine zr_i (zr_S (own := "HideReader$Lattice") (As := [.int 7, .int 3]) (rest := [.int 1, .int 3, .ref q_2]) (ws := []) hx hb hml hown hts hK noX_stb (fun _ _ _ => trivial) (c_X4_movedStroke_15 l D k 7) ck_X4_movedStroke uw_2_30 uw_2_29 (zs_P hP [] rfl) rfl hl.1 rfl (Nat.le_of_ble_eq_true rfl) dX4_init_76 ⟨Nat.le_of_ble_eq_true rfl, Nat.le_of_ble_eq_true rfl⟩ ⟨Nat.le_of_ble_eq_true rfl, Nat.le_of_ble_eq_true rfl⟩) (fun r_82 hr_82 => ?_)
  refine zm_v (wr := [(h0, .inr (4, [.ref q_1, .ref q_2, .ref q_3, .int 1])), (q_3, .inl (k 0, 8, .inl (fun _ => 0))), (q_1, .inl (k 0, 512, .inl u_81))]) hP hD hS hA [2] [0, 1, 3] (zm_S (own := "HideReader$Lattice") (As := [.ref q_2, .int 3, .int 1, .int r_82]) (rest := []) (ws := [(q_2, .inl (k 0, 512, .inl u_79))]) hx hb hml hown hts hK noX_stb (fun _ _ _ => trivial) (c_X4_enter l D k q_2 3 1 2 (by decide) (by decide) (by decide) r_82 u_79) ck_X4_enter uw_2_33 uw_2_32 hP hD [2] rfl (by decide) rfl hl.1 rfl (Nat.le_of_ble_eq_true rfl) dX4_init_79 ⟨Nat.le_of_ble_eq_true rfl, Nat.le_of_ble_eq_true rfl⟩ ⟨Nat.le_of_ble_eq_true rfl, Nat.le_of_ble_eq_true rfl⟩) rfl rfl (by decide) (by decide) (fun u_83 H locs hu_83 hP hD hS => ?_)
  have hP : va_P D vwCl [(h0, .inr (4, [.ref q_1, .ref q_2, .ref q_3, .int 1])), (q_3, .inl (k 0, 8, .inl (fun _ => 0))), (q_1, .inl (k 0, 512, .inl u_81)), (q_2, .inl (k 0, 512, .inl u_83))] H := hP
  have hD : va_D A [(h0, .inr (4, [.ref q_1, .ref q_2, .ref q_3, .int 1])), (q_3, .inl (k 0, 8, .inl (fun _ => 0))), (q_1, .inl (k 0, 512, .inl u_81)), (q_2, .inl (k 0, 512, .inl u_83))] := hD
  have hHigh : ∀ j, j < 64 → u_83 j = (fun j => nI j <<< ((6 : Int32) &&& 31)) j := en_k hu_83 (by decide) hHigh
  refine lv_iinc (v := 2) (lv' := [(2, .int 2), (1, .int 3), (0, .ref h0)]) hx hb dX4_init_82 hl (k := 0) rfl (by decide) (by decide) rfl (fun ls hl => ?_)
  refine lv_goto (tgt := 45) hx hb dX4_init_85 (by decide) ?_
  refine lv_iload_n hx hb dX4_init_45 rfl (lv_at hl 0 rfl) ?_
  refine lv_bipush (v := 6) hx hb dX4_init_46 (by decide) ?_
  refine lv_icmp_ge (tgt := 88) hx hb dX4_init_48 (by decide) (fun c9 => absurd c9 (by decide)) (fun _ => ?_)
  refine lv_aload_n hx hb dX4_init_51 rfl (lv_at hl 2 rfl) ?_
  refine va_get (D := D) (ci := 4) (v := .ref q_1) (C := RX4) (T := TX4) (N := 4) hx hb hts uc_4 hown hK hP 0 rfl rfl 0 (by decide) (hts _ uw_2_35) (fun _ h9 => h9) rfl dX4_init_52 ?_
  refine lv_iload_n hx hb dX4_init_55 rfl (lv_at hl 1 rfl) ?_
  refine lv_iload_n hx hb dX4_init_56 rfl (lv_at hl 0 rfl) ?_
  refine lv_iload_n hx hb dX4_init_57 rfl (lv_at hl 0 rfl) ?_
  refine lv_iload_n hx hb dX4_init_58 rfl (lv_at hl 1 rfl) ?_
  refine zr_i (zr_S (own := "HideReader$Lattice") (As := [.int 2, .int 3]) (rest := [.int 2, .int 3, .ref q_1]) (ws := []) hx hb hml hown hts hK noX_stb (fun _ _ _ => trivial) (c_X4_movedStroke_15 l D k 2) ck_X4_movedStroke uw_2_30 uw_2_29 (zs_P hP [] rfl) rfl hl.1 rfl (Nat.le_of_ble_eq_true rfl) dX4_init_59 ⟨Nat.le_of_ble_eq_true rfl, Nat.le_of_ble_eq_true rfl⟩ ⟨Nat.le_of_ble_eq_true rfl, Nat.le_of_ble_eq_true rfl⟩) (fun r_84 hr_84 => ?_)
  refine zm_v (wr := [(h0, .inr (4, [.ref q_1, .ref q_2, .ref q_3, .int 1])), (q_3, .inl (k 0, 8, .inl (fun _ => 0))), (q_2, .inl (k 0, 512, .inl u_83))]) hP hD hS hA [2] [0, 1, 3] (zm_S (own := "HideReader$Lattice") (As := [.ref q_1, .int 3, .int 2, .int r_84]) (rest := []) (ws := [(q_1, .inl (k 0, 512, .inl u_81))]) hx hb hml hown hts hK noX_stb (fun _ _ _ => trivial) (c_X4_enter l D k q_1 3 2 4 (by decide) (by decide) (by decide) r_84 u_81) ck_X4_enter uw_2_33 uw_2_32 hP hD [2] rfl (by decide) rfl hl.1 rfl (Nat.le_of_ble_eq_true rfl) dX4_init_62 ⟨Nat.le_of_ble_eq_true rfl, Nat.le_of_ble_eq_true rfl⟩ ⟨Nat.le_of_ble_eq_true rfl, Nat.le_of_ble_eq_true rfl⟩) rfl rfl (by decide) (by decide) (fun u_85 H locs hu_85 hP hD hS => ?_)
  have hP : va_P D vwCl [(h0, .inr (4, [.ref q_1, .ref q_2, .ref q_3, .int 1])), (q_3, .inl (k 0, 8, .inl (fun _ => 0))), (q_2, .inl (k 0, 512, .inl u_83)), (q_1, .inl (k 0, 512, .inl u_85))] H := hP
  have hD : va_D A [(h0, .inr (4, [.ref q_1, .ref q_2, .ref q_3, .int 1])), (q_3, .inl (k 0, 8, .inl (fun _ => 0))), (q_2, .inl (k 0, 512, .inl u_83)), (q_1, .inl (k 0, 512, .inl u_85))] := hD
  have hLow : ∀ j, j < 64 → u_85 j = nI j := en_k hu_85 (by decide) hLow
  refine lv_aload_n hx hb dX4_init_65 rfl (lv_at hl 2 rfl) ?_
  refine va_get (D := D) (ci := 4) (v := .ref q_2) (C := RX4) (T := TX4) (N := 4) hx hb hts uc_4 hown hK hP 0 rfl rfl 1 (by decide) (hts _ uw_2_36) (fun _ h9 => h9) rfl dX4_init_66 ?_
  refine lv_iload_n hx hb dX4_init_69 rfl (lv_at hl 1 rfl) ?_
  refine lv_iload_n hx hb dX4_init_70 rfl (lv_at hl 0 rfl) ?_
  refine lv_iload_n hx hb dX4_init_71 rfl (lv_at hl 0 rfl) ?_
  refine lv_bipush (v := 6) hx hb dX4_init_72 (by decide) ?_
  refine lv_iadd hx hb dX4_init_74 ?_
  refine lv_topc 8 (by decide) ?_
  refine lv_iload_n hx hb dX4_init_75 rfl (lv_at hl 1 rfl) ?_
  refine zr_i (zr_S (own := "HideReader$Lattice") (As := [.int 8, .int 3]) (rest := [.int 2, .int 3, .ref q_2]) (ws := []) hx hb hml hown hts hK noX_stb (fun _ _ _ => trivial) (c_X4_movedStroke_15 l D k 8) ck_X4_movedStroke uw_2_30 uw_2_29 (zs_P hP [] rfl) rfl hl.1 rfl (Nat.le_of_ble_eq_true rfl) dX4_init_76 ⟨Nat.le_of_ble_eq_true rfl, Nat.le_of_ble_eq_true rfl⟩ ⟨Nat.le_of_ble_eq_true rfl, Nat.le_of_ble_eq_true rfl⟩) (fun r_86 hr_86 => ?_)
  refine zm_v (wr := [(h0, .inr (4, [.ref q_1, .ref q_2, .ref q_3, .int 1])), (q_3, .inl (k 0, 8, .inl (fun _ => 0))), (q_1, .inl (k 0, 512, .inl u_85))]) hP hD hS hA [2] [0, 1, 3] (zm_S (own := "HideReader$Lattice") (As := [.ref q_2, .int 3, .int 2, .int r_86]) (rest := []) (ws := [(q_2, .inl (k 0, 512, .inl u_83))]) hx hb hml hown hts hK noX_stb (fun _ _ _ => trivial) (c_X4_enter l D k q_2 3 2 4 (by decide) (by decide) (by decide) r_86 u_83) ck_X4_enter uw_2_33 uw_2_32 hP hD [2] rfl (by decide) rfl hl.1 rfl (Nat.le_of_ble_eq_true rfl) dX4_init_79 ⟨Nat.le_of_ble_eq_true rfl, Nat.le_of_ble_eq_true rfl⟩ ⟨Nat.le_of_ble_eq_true rfl, Nat.le_of_ble_eq_true rfl⟩) rfl rfl (by decide) (by decide) (fun u_87 H locs hu_87 hP hD hS => ?_)
  have hP : va_P D vwCl [(h0, .inr (4, [.ref q_1, .ref q_2, .ref q_3, .int 1])), (q_3, .inl (k 0, 8, .inl (fun _ => 0))), (q_1, .inl (k 0, 512, .inl u_85)), (q_2, .inl (k 0, 512, .inl u_87))] H := hP
  have hD : va_D A [(h0, .inr (4, [.ref q_1, .ref q_2, .ref q_3, .int 1])), (q_3, .inl (k 0, 8, .inl (fun _ => 0))), (q_1, .inl (k 0, 512, .inl u_85)), (q_2, .inl (k 0, 512, .inl u_87))] := hD
  have hHigh : ∀ j, j < 64 → u_87 j = (fun j => nI j <<< ((6 : Int32) &&& 31)) j := en_k hu_87 (by decide) hHigh
  refine lv_iinc (v := 3) (lv' := [(2, .int 3), (1, .int 3), (0, .ref h0)]) hx hb dX4_init_82 hl (k := 0) rfl (by decide) (by decide) rfl (fun ls hl => ?_)
  refine lv_goto (tgt := 45) hx hb dX4_init_85 (by decide) ?_
  refine lv_iload_n hx hb dX4_init_45 rfl (lv_at hl 0 rfl) ?_
  refine lv_bipush (v := 6) hx hb dX4_init_46 (by decide) ?_
  refine lv_icmp_ge (tgt := 88) hx hb dX4_init_48 (by decide) (fun c9 => absurd c9 (by decide)) (fun _ => ?_)
  refine lv_aload_n hx hb dX4_init_51 rfl (lv_at hl 2 rfl) ?_
  refine va_get (D := D) (ci := 4) (v := .ref q_1) (C := RX4) (T := TX4) (N := 4) hx hb hts uc_4 hown hK hP 0 rfl rfl 0 (by decide) (hts _ uw_2_35) (fun _ h9 => h9) rfl dX4_init_52 ?_
  refine lv_iload_n hx hb dX4_init_55 rfl (lv_at hl 1 rfl) ?_
  refine lv_iload_n hx hb dX4_init_56 rfl (lv_at hl 0 rfl) ?_
  refine lv_iload_n hx hb dX4_init_57 rfl (lv_at hl 0 rfl) ?_
  refine lv_iload_n hx hb dX4_init_58 rfl (lv_at hl 1 rfl) ?_
  refine zr_i (zr_S (own := "HideReader$Lattice") (As := [.int 3, .int 3]) (rest := [.int 3, .int 3, .ref q_1]) (ws := []) hx hb hml hown hts hK noX_stb (fun _ _ _ => trivial) (c_X4_movedStroke_15 l D k 3) ck_X4_movedStroke uw_2_30 uw_2_29 (zs_P hP [] rfl) rfl hl.1 rfl (Nat.le_of_ble_eq_true rfl) dX4_init_59 ⟨Nat.le_of_ble_eq_true rfl, Nat.le_of_ble_eq_true rfl⟩ ⟨Nat.le_of_ble_eq_true rfl, Nat.le_of_ble_eq_true rfl⟩) (fun r_88 hr_88 => ?_)
  refine zm_v (wr := [(h0, .inr (4, [.ref q_1, .ref q_2, .ref q_3, .int 1])), (q_3, .inl (k 0, 8, .inl (fun _ => 0))), (q_2, .inl (k 0, 512, .inl u_87))]) hP hD hS hA [2] [0, 1, 3] (zm_S (own := "HideReader$Lattice") (As := [.ref q_1, .int 3, .int 3, .int r_88]) (rest := []) (ws := [(q_1, .inl (k 0, 512, .inl u_85))]) hx hb hml hown hts hK noX_stb (fun _ _ _ => trivial) (c_X4_enter l D k q_1 3 3 8 (by decide) (by decide) (by decide) r_88 u_85) ck_X4_enter uw_2_33 uw_2_32 hP hD [2] rfl (by decide) rfl hl.1 rfl (Nat.le_of_ble_eq_true rfl) dX4_init_62 ⟨Nat.le_of_ble_eq_true rfl, Nat.le_of_ble_eq_true rfl⟩ ⟨Nat.le_of_ble_eq_true rfl, Nat.le_of_ble_eq_true rfl⟩) rfl rfl (by decide) (by decide) (fun u_89 H locs hu_89 hP hD hS => ?_)
  have hP : va_P D vwCl [(h0, .inr (4, [.ref q_1, .ref q_2, .ref q_3, .int 1])), (q_3, .inl (k 0, 8, .inl (fun _ => 0))), (q_2, .inl (k 0, 512, .inl u_87)), (q_1, .inl (k 0, 512, .inl u_89))] H := hP
  have hD : va_D A [(h0, .inr (4, [.ref q_1, .ref q_2, .ref q_3, .int 1])), (q_3, .inl (k 0, 8, .inl (fun _ => 0))), (q_2, .inl (k 0, 512, .inl u_87)), (q_1, .inl (k 0, 512, .inl u_89))] := hD
  have hLow : ∀ j, j < 64 → u_89 j = nI j := en_k hu_89 (by decide) hLow
  refine lv_aload_n hx hb dX4_init_65 rfl (lv_at hl 2 rfl) ?_
  refine va_get (D := D) (ci := 4) (v := .ref q_2) (C := RX4) (T := TX4) (N := 4) hx hb hts uc_4 hown hK hP 0 rfl rfl 1 (by decide) (hts _ uw_2_36) (fun _ h9 => h9) rfl dX4_init_66 ?_
  refine lv_iload_n hx hb dX4_init_69 rfl (lv_at hl 1 rfl) ?_
  refine lv_iload_n hx hb dX4_init_70 rfl (lv_at hl 0 rfl) ?_
  refine lv_iload_n hx hb dX4_init_71 rfl (lv_at hl 0 rfl) ?_
  refine lv_bipush (v := 6) hx hb dX4_init_72 (by decide) ?_
  refine lv_iadd hx hb dX4_init_74 ?_
  refine lv_topc 9 (by decide) ?_
  refine lv_iload_n hx hb dX4_init_75 rfl (lv_at hl 1 rfl) ?_
  refine zr_i (zr_S (own := "HideReader$Lattice") (As := [.int 9, .int 3]) (rest := [.int 3, .int 3, .ref q_2]) (ws := []) hx hb hml hown hts hK noX_stb (fun _ _ _ => trivial) (c_X4_movedStroke_15 l D k 9) ck_X4_movedStroke uw_2_30 uw_2_29 (zs_P hP [] rfl) rfl hl.1 rfl (Nat.le_of_ble_eq_true rfl) dX4_init_76 ⟨Nat.le_of_ble_eq_true rfl, Nat.le_of_ble_eq_true rfl⟩ ⟨Nat.le_of_ble_eq_true rfl, Nat.le_of_ble_eq_true rfl⟩) (fun r_90 hr_90 => ?_)
  refine zm_v (wr := [(h0, .inr (4, [.ref q_1, .ref q_2, .ref q_3, .int 1])), (q_3, .inl (k 0, 8, .inl (fun _ => 0))), (q_1, .inl (k 0, 512, .inl u_89))]) hP hD hS hA [2] [0, 1, 3] (zm_S (own := "HideReader$Lattice") (As := [.ref q_2, .int 3, .int 3, .int r_90]) (rest := []) (ws := [(q_2, .inl (k 0, 512, .inl u_87))]) hx hb hml hown hts hK noX_stb (fun _ _ _ => trivial) (c_X4_enter l D k q_2 3 3 8 (by decide) (by decide) (by decide) r_90 u_87) ck_X4_enter uw_2_33 uw_2_32 hP hD [2] rfl (by decide) rfl hl.1 rfl (Nat.le_of_ble_eq_true rfl) dX4_init_79 ⟨Nat.le_of_ble_eq_true rfl, Nat.le_of_ble_eq_true rfl⟩ ⟨Nat.le_of_ble_eq_true rfl, Nat.le_of_ble_eq_true rfl⟩) rfl rfl (by decide) (by decide) (fun u_91 H locs hu_91 hP hD hS => ?_)
  have hP : va_P D vwCl [(h0, .inr (4, [.ref q_1, .ref q_2, .ref q_3, .int 1])), (q_3, .inl (k 0, 8, .inl (fun _ => 0))), (q_1, .inl (k 0, 512, .inl u_89)), (q_2, .inl (k 0, 512, .inl u_91))] H := hP
  have hD : va_D A [(h0, .inr (4, [.ref q_1, .ref q_2, .ref q_3, .int 1])), (q_3, .inl (k 0, 8, .inl (fun _ => 0))), (q_1, .inl (k 0, 512, .inl u_89)), (q_2, .inl (k 0, 512, .inl u_91))] := hD
  have hHigh : ∀ j, j < 64 → u_91 j = (fun j => nI j <<< ((6 : Int32) &&& 31)) j := en_k hu_91 (by decide) hHigh
  refine lv_iinc (v := 4) (lv' := [(2, .int 4), (1, .int 3), (0, .ref h0)]) hx hb dX4_init_82 hl (k := 0) rfl (by decide) (by decide) rfl (fun ls hl => ?_)
  refine lv_goto (tgt := 45) hx hb dX4_init_85 (by decide) ?_
  refine lv_iload_n hx hb dX4_init_45 rfl (lv_at hl 0 rfl) ?_
  refine lv_bipush (v := 6) hx hb dX4_init_46 (by decide) ?_
  refine lv_icmp_ge (tgt := 88) hx hb dX4_init_48 (by decide) (fun c9 => absurd c9 (by decide)) (fun _ => ?_)
  refine lv_aload_n hx hb dX4_init_51 rfl (lv_at hl 2 rfl) ?_
  refine va_get (D := D) (ci := 4) (v := .ref q_1) (C := RX4) (T := TX4) (N := 4) hx hb hts uc_4 hown hK hP 0 rfl rfl 0 (by decide) (hts _ uw_2_35) (fun _ h9 => h9) rfl dX4_init_52 ?_
  refine lv_iload_n hx hb dX4_init_55 rfl (lv_at hl 1 rfl) ?_
  refine lv_iload_n hx hb dX4_init_56 rfl (lv_at hl 0 rfl) ?_
  refine lv_iload_n hx hb dX4_init_57 rfl (lv_at hl 0 rfl) ?_
  refine lv_iload_n hx hb dX4_init_58 rfl (lv_at hl 1 rfl) ?_
  refine zr_i (zr_S (own := "HideReader$Lattice") (As := [.int 4, .int 3]) (rest := [.int 4, .int 3, .ref q_1]) (ws := []) hx hb hml hown hts hK noX_stb (fun _ _ _ => trivial) (c_X4_movedStroke_15 l D k 4) ck_X4_movedStroke uw_2_30 uw_2_29 (zs_P hP [] rfl) rfl hl.1 rfl (Nat.le_of_ble_eq_true rfl) dX4_init_59 ⟨Nat.le_of_ble_eq_true rfl, Nat.le_of_ble_eq_true rfl⟩ ⟨Nat.le_of_ble_eq_true rfl, Nat.le_of_ble_eq_true rfl⟩) (fun r_92 hr_92 => ?_)
  refine zm_v (wr := [(h0, .inr (4, [.ref q_1, .ref q_2, .ref q_3, .int 1])), (q_3, .inl (k 0, 8, .inl (fun _ => 0))), (q_2, .inl (k 0, 512, .inl u_91))]) hP hD hS hA [2] [0, 1, 3] (zm_S (own := "HideReader$Lattice") (As := [.ref q_1, .int 3, .int 4, .int r_92]) (rest := []) (ws := [(q_1, .inl (k 0, 512, .inl u_89))]) hx hb hml hown hts hK noX_stb (fun _ _ _ => trivial) (c_X4_enter l D k q_1 3 4 16 (by decide) (by decide) (by decide) r_92 u_89) ck_X4_enter uw_2_33 uw_2_32 hP hD [2] rfl (by decide) rfl hl.1 rfl (Nat.le_of_ble_eq_true rfl) dX4_init_62 ⟨Nat.le_of_ble_eq_true rfl, Nat.le_of_ble_eq_true rfl⟩ ⟨Nat.le_of_ble_eq_true rfl, Nat.le_of_ble_eq_true rfl⟩) rfl rfl (by decide) (by decide) (fun u_93 H locs hu_93 hP hD hS => ?_)
  have hP : va_P D vwCl [(h0, .inr (4, [.ref q_1, .ref q_2, .ref q_3, .int 1])), (q_3, .inl (k 0, 8, .inl (fun _ => 0))), (q_2, .inl (k 0, 512, .inl u_91)), (q_1, .inl (k 0, 512, .inl u_93))] H := hP
  have hD : va_D A [(h0, .inr (4, [.ref q_1, .ref q_2, .ref q_3, .int 1])), (q_3, .inl (k 0, 8, .inl (fun _ => 0))), (q_2, .inl (k 0, 512, .inl u_91)), (q_1, .inl (k 0, 512, .inl u_93))] := hD
  have hLow : ∀ j, j < 64 → u_93 j = nI j := en_k hu_93 (by decide) hLow
  refine lv_aload_n hx hb dX4_init_65 rfl (lv_at hl 2 rfl) ?_
  refine va_get (D := D) (ci := 4) (v := .ref q_2) (C := RX4) (T := TX4) (N := 4) hx hb hts uc_4 hown hK hP 0 rfl rfl 1 (by decide) (hts _ uw_2_36) (fun _ h9 => h9) rfl dX4_init_66 ?_
  refine lv_iload_n hx hb dX4_init_69 rfl (lv_at hl 1 rfl) ?_
  refine lv_iload_n hx hb dX4_init_70 rfl (lv_at hl 0 rfl) ?_
  refine lv_iload_n hx hb dX4_init_71 rfl (lv_at hl 0 rfl) ?_
  refine lv_bipush (v := 6) hx hb dX4_init_72 (by decide) ?_
  refine lv_iadd hx hb dX4_init_74 ?_
  refine lv_topc 10 (by decide) ?_
  refine lv_iload_n hx hb dX4_init_75 rfl (lv_at hl 1 rfl) ?_
  refine zr_i (zr_S (own := "HideReader$Lattice") (As := [.int 10, .int 3]) (rest := [.int 4, .int 3, .ref q_2]) (ws := []) hx hb hml hown hts hK noX_stb (fun _ _ _ => trivial) (c_X4_movedStroke_15 l D k 10) ck_X4_movedStroke uw_2_30 uw_2_29 (zs_P hP [] rfl) rfl hl.1 rfl (Nat.le_of_ble_eq_true rfl) dX4_init_76 ⟨Nat.le_of_ble_eq_true rfl, Nat.le_of_ble_eq_true rfl⟩ ⟨Nat.le_of_ble_eq_true rfl, Nat.le_of_ble_eq_true rfl⟩) (fun r_94 hr_94 => ?_)
  refine zm_v (wr := [(h0, .inr (4, [.ref q_1, .ref q_2, .ref q_3, .int 1])), (q_3, .inl (k 0, 8, .inl (fun _ => 0))), (q_1, .inl (k 0, 512, .inl u_93))]) hP hD hS hA [2] [0, 1, 3] (zm_S (own := "HideReader$Lattice") (As := [.ref q_2, .int 3, .int 4, .int r_94]) (rest := []) (ws := [(q_2, .inl (k 0, 512, .inl u_91))]) hx hb hml hown hts hK noX_stb (fun _ _ _ => trivial) (c_X4_enter l D k q_2 3 4 16 (by decide) (by decide) (by decide) r_94 u_91) ck_X4_enter uw_2_33 uw_2_32 hP hD [2] rfl (by decide) rfl hl.1 rfl (Nat.le_of_ble_eq_true rfl) dX4_init_79 ⟨Nat.le_of_ble_eq_true rfl, Nat.le_of_ble_eq_true rfl⟩ ⟨Nat.le_of_ble_eq_true rfl, Nat.le_of_ble_eq_true rfl⟩) rfl rfl (by decide) (by decide) (fun u_95 H locs hu_95 hP hD hS => ?_)
  have hP : va_P D vwCl [(h0, .inr (4, [.ref q_1, .ref q_2, .ref q_3, .int 1])), (q_3, .inl (k 0, 8, .inl (fun _ => 0))), (q_1, .inl (k 0, 512, .inl u_93)), (q_2, .inl (k 0, 512, .inl u_95))] H := hP
  have hD : va_D A [(h0, .inr (4, [.ref q_1, .ref q_2, .ref q_3, .int 1])), (q_3, .inl (k 0, 8, .inl (fun _ => 0))), (q_1, .inl (k 0, 512, .inl u_93)), (q_2, .inl (k 0, 512, .inl u_95))] := hD
  have hHigh : ∀ j, j < 64 → u_95 j = (fun j => nI j <<< ((6 : Int32) &&& 31)) j := en_k hu_95 (by decide) hHigh
  refine lv_iinc (v := 5) (lv' := [(2, .int 5), (1, .int 3), (0, .ref h0)]) hx hb dX4_init_82 hl (k := 0) rfl (by decide) (by decide) rfl (fun ls hl => ?_)
  refine lv_goto (tgt := 45) hx hb dX4_init_85 (by decide) ?_
  refine lv_iload_n hx hb dX4_init_45 rfl (lv_at hl 0 rfl) ?_
  refine lv_bipush (v := 6) hx hb dX4_init_46 (by decide) ?_
  refine lv_icmp_ge (tgt := 88) hx hb dX4_init_48 (by decide) (fun c9 => absurd c9 (by decide)) (fun _ => ?_)
  refine lv_aload_n hx hb dX4_init_51 rfl (lv_at hl 2 rfl) ?_
  refine va_get (D := D) (ci := 4) (v := .ref q_1) (C := RX4) (T := TX4) (N := 4) hx hb hts uc_4 hown hK hP 0 rfl rfl 0 (by decide) (hts _ uw_2_35) (fun _ h9 => h9) rfl dX4_init_52 ?_
  refine lv_iload_n hx hb dX4_init_55 rfl (lv_at hl 1 rfl) ?_
  refine lv_iload_n hx hb dX4_init_56 rfl (lv_at hl 0 rfl) ?_
  refine lv_iload_n hx hb dX4_init_57 rfl (lv_at hl 0 rfl) ?_
  refine lv_iload_n hx hb dX4_init_58 rfl (lv_at hl 1 rfl) ?_
  refine zr_i (zr_S (own := "HideReader$Lattice") (As := [.int 5, .int 3]) (rest := [.int 5, .int 3, .ref q_1]) (ws := []) hx hb hml hown hts hK noX_stb (fun _ _ _ => trivial) (c_X4_movedStroke_15 l D k 5) ck_X4_movedStroke uw_2_30 uw_2_29 (zs_P hP [] rfl) rfl hl.1 rfl (Nat.le_of_ble_eq_true rfl) dX4_init_59 ⟨Nat.le_of_ble_eq_true rfl, Nat.le_of_ble_eq_true rfl⟩ ⟨Nat.le_of_ble_eq_true rfl, Nat.le_of_ble_eq_true rfl⟩) (fun r_96 hr_96 => ?_)
  refine zm_v (wr := [(h0, .inr (4, [.ref q_1, .ref q_2, .ref q_3, .int 1])), (q_3, .inl (k 0, 8, .inl (fun _ => 0))), (q_2, .inl (k 0, 512, .inl u_95))]) hP hD hS hA [2] [0, 1, 3] (zm_S (own := "HideReader$Lattice") (As := [.ref q_1, .int 3, .int 5, .int r_96]) (rest := []) (ws := [(q_1, .inl (k 0, 512, .inl u_93))]) hx hb hml hown hts hK noX_stb (fun _ _ _ => trivial) (c_X4_enter l D k q_1 3 5 32 (by decide) (by decide) (by decide) r_96 u_93) ck_X4_enter uw_2_33 uw_2_32 hP hD [2] rfl (by decide) rfl hl.1 rfl (Nat.le_of_ble_eq_true rfl) dX4_init_62 ⟨Nat.le_of_ble_eq_true rfl, Nat.le_of_ble_eq_true rfl⟩ ⟨Nat.le_of_ble_eq_true rfl, Nat.le_of_ble_eq_true rfl⟩) rfl rfl (by decide) (by decide) (fun u_97 H locs hu_97 hP hD hS => ?_)
  have hP : va_P D vwCl [(h0, .inr (4, [.ref q_1, .ref q_2, .ref q_3, .int 1])), (q_3, .inl (k 0, 8, .inl (fun _ => 0))), (q_2, .inl (k 0, 512, .inl u_95)), (q_1, .inl (k 0, 512, .inl u_97))] H := hP
  have hD : va_D A [(h0, .inr (4, [.ref q_1, .ref q_2, .ref q_3, .int 1])), (q_3, .inl (k 0, 8, .inl (fun _ => 0))), (q_2, .inl (k 0, 512, .inl u_95)), (q_1, .inl (k 0, 512, .inl u_97))] := hD
  have hLow : ∀ j, j < 64 → u_97 j = nI j := en_k hu_97 (by decide) hLow
  refine lv_aload_n hx hb dX4_init_65 rfl (lv_at hl 2 rfl) ?_
  refine va_get (D := D) (ci := 4) (v := .ref q_2) (C := RX4) (T := TX4) (N := 4) hx hb hts uc_4 hown hK hP 0 rfl rfl 1 (by decide) (hts _ uw_2_36) (fun _ h9 => h9) rfl dX4_init_66 ?_
  refine lv_iload_n hx hb dX4_init_69 rfl (lv_at hl 1 rfl) ?_
  refine lv_iload_n hx hb dX4_init_70 rfl (lv_at hl 0 rfl) ?_
  refine lv_iload_n hx hb dX4_init_71 rfl (lv_at hl 0 rfl) ?_
  refine lv_bipush (v := 6) hx hb dX4_init_72 (by decide) ?_
  refine lv_iadd hx hb dX4_init_74 ?_
  refine lv_topc 11 (by decide) ?_
  refine lv_iload_n hx hb dX4_init_75 rfl (lv_at hl 1 rfl) ?_
  refine zr_i (zr_S (own := "HideReader$Lattice") (As := [.int 11, .int 3]) (rest := [.int 5, .int 3, .ref q_2]) (ws := []) hx hb hml hown hts hK noX_stb (fun _ _ _ => trivial) (c_X4_movedStroke_15 l D k 11) ck_X4_movedStroke uw_2_30 uw_2_29 (zs_P hP [] rfl) rfl hl.1 rfl (Nat.le_of_ble_eq_true rfl) dX4_init_76 ⟨Nat.le_of_ble_eq_true rfl, Nat.le_of_ble_eq_true rfl⟩ ⟨Nat.le_of_ble_eq_true rfl, Nat.le_of_ble_eq_true rfl⟩) (fun r_98 hr_98 => ?_)
  refine zm_v (wr := [(h0, .inr (4, [.ref q_1, .ref q_2, .ref q_3, .int 1])), (q_3, .inl (k 0, 8, .inl (fun _ => 0))), (q_1, .inl (k 0, 512, .inl u_97))]) hP hD hS hA [2] [0, 1, 3] (zm_S (own := "HideReader$Lattice") (As := [.ref q_2, .int 3, .int 5, .int r_98]) (rest := []) (ws := [(q_2, .inl (k 0, 512, .inl u_95))]) hx hb hml hown hts hK noX_stb (fun _ _ _ => trivial) (c_X4_enter l D k q_2 3 5 32 (by decide) (by decide) (by decide) r_98 u_95) ck_X4_enter uw_2_33 uw_2_32 hP hD [2] rfl (by decide) rfl hl.1 rfl (Nat.le_of_ble_eq_true rfl) dX4_init_79 ⟨Nat.le_of_ble_eq_true rfl, Nat.le_of_ble_eq_true rfl⟩ ⟨Nat.le_of_ble_eq_true rfl, Nat.le_of_ble_eq_true rfl⟩) rfl rfl (by decide) (by decide) (fun u_99 H locs hu_99 hP hD hS => ?_)
  have hP : va_P D vwCl [(h0, .inr (4, [.ref q_1, .ref q_2, .ref q_3, .int 1])), (q_3, .inl (k 0, 8, .inl (fun _ => 0))), (q_1, .inl (k 0, 512, .inl u_97)), (q_2, .inl (k 0, 512, .inl u_99))] H := hP
  have hD : va_D A [(h0, .inr (4, [.ref q_1, .ref q_2, .ref q_3, .int 1])), (q_3, .inl (k 0, 8, .inl (fun _ => 0))), (q_1, .inl (k 0, 512, .inl u_97)), (q_2, .inl (k 0, 512, .inl u_99))] := hD
  have hHigh : ∀ j, j < 64 → u_99 j = (fun j => nI j <<< ((6 : Int32) &&& 31)) j := en_k hu_99 (by decide) hHigh
  refine lv_iinc (v := 6) (lv' := [(2, .int 6), (1, .int 3), (0, .ref h0)]) hx hb dX4_init_82 hl (k := 0) rfl (by decide) (by decide) rfl (fun ls hl => ?_)
  refine lv_goto (tgt := 45) hx hb dX4_init_85 (by decide) ?_
  refine lv_iload_n hx hb dX4_init_45 rfl (lv_at hl 0 rfl) ?_
  refine lv_bipush (v := 6) hx hb dX4_init_46 (by decide) ?_
  refine lv_icmp_ge (tgt := 88) hx hb dX4_init_48 (by decide) (fun _ => ?_) (fun c9 => absurd (by decide) c9)
  refine lv_iinc (v := 4) (lv' := [(1, .int 4), (2, .int 6), (0, .ref h0)]) hx hb dX4_init_88 hl (k := 1) rfl (by decide) (by decide) rfl (fun ls hl => ?_)
  refine lv_goto (tgt := 37) hx hb dX4_init_91 (by decide) ?_
  refine lv_iload_n hx hb dX4_init_37 rfl (lv_at hl 0 rfl) ?_
  refine lv_bipush (v := 8) hx hb dX4_init_38 (by decide) ?_
  refine lv_icmp_ge (tgt := 94) hx hb dX4_init_40 (by decide) (fun c9 => absurd c9 (by decide)) (fun _ => ?_)
  refine lv_iconst (v := 0) hx hb dX4_init_43 (by decide) ?_
  refine lv_istore_n (lv' := [(2, .int 0), (1, .int 4), (0, .ref h0)]) hx hb dX4_init_44 rfl hl (by decide) rfl (fun ls hl => ?_)
  refine lv_iload_n hx hb dX4_init_45 rfl (lv_at hl 0 rfl) ?_
  refine lv_bipush (v := 6) hx hb dX4_init_46 (by decide) ?_
  refine lv_icmp_ge (tgt := 88) hx hb dX4_init_48 (by decide) (fun c9 => absurd c9 (by decide)) (fun _ => ?_)
  refine lv_aload_n hx hb dX4_init_51 rfl (lv_at hl 2 rfl) ?_
  refine va_get (D := D) (ci := 4) (v := .ref q_1) (C := RX4) (T := TX4) (N := 4) hx hb hts uc_4 hown hK hP 0 rfl rfl 0 (by decide) (hts _ uw_2_35) (fun _ h9 => h9) rfl dX4_init_52 ?_
  refine lv_iload_n hx hb dX4_init_55 rfl (lv_at hl 1 rfl) ?_
  refine lv_iload_n hx hb dX4_init_56 rfl (lv_at hl 0 rfl) ?_
  refine lv_iload_n hx hb dX4_init_57 rfl (lv_at hl 0 rfl) ?_
  refine lv_iload_n hx hb dX4_init_58 rfl (lv_at hl 1 rfl) ?_
  refine zr_i (zr_S (own := "HideReader$Lattice") (As := [.int 0, .int 4]) (rest := [.int 0, .int 4, .ref q_1]) (ws := []) hx hb hml hown hts hK noX_stb (fun _ _ _ => trivial) (c_X4_movedStroke_16 l D k 0) ck_X4_movedStroke uw_2_30 uw_2_29 (zs_P hP [] rfl) rfl hl.1 rfl (Nat.le_of_ble_eq_true rfl) dX4_init_59 ⟨Nat.le_of_ble_eq_true rfl, Nat.le_of_ble_eq_true rfl⟩ ⟨Nat.le_of_ble_eq_true rfl, Nat.le_of_ble_eq_true rfl⟩) (fun r_100 hr_100 => ?_)
  refine zm_v (wr := [(h0, .inr (4, [.ref q_1, .ref q_2, .ref q_3, .int 1])), (q_3, .inl (k 0, 8, .inl (fun _ => 0))), (q_2, .inl (k 0, 512, .inl u_99))]) hP hD hS hA [2] [0, 1, 3] (zm_S (own := "HideReader$Lattice") (As := [.ref q_1, .int 4, .int 0, .int r_100]) (rest := []) (ws := [(q_1, .inl (k 0, 512, .inl u_97))]) hx hb hml hown hts hK noX_stb (fun _ _ _ => trivial) (c_X4_enter l D k q_1 4 0 1 (by decide) (by decide) (by decide) r_100 u_97) ck_X4_enter uw_2_33 uw_2_32 hP hD [2] rfl (by decide) rfl hl.1 rfl (Nat.le_of_ble_eq_true rfl) dX4_init_62 ⟨Nat.le_of_ble_eq_true rfl, Nat.le_of_ble_eq_true rfl⟩ ⟨Nat.le_of_ble_eq_true rfl, Nat.le_of_ble_eq_true rfl⟩) rfl rfl (by decide) (by decide) (fun u_101 H locs hu_101 hP hD hS => ?_)
  have hP : va_P D vwCl [(h0, .inr (4, [.ref q_1, .ref q_2, .ref q_3, .int 1])), (q_3, .inl (k 0, 8, .inl (fun _ => 0))), (q_2, .inl (k 0, 512, .inl u_99)), (q_1, .inl (k 0, 512, .inl u_101))] H := hP
  have hD : va_D A [(h0, .inr (4, [.ref q_1, .ref q_2, .ref q_3, .int 1])), (q_3, .inl (k 0, 8, .inl (fun _ => 0))), (q_2, .inl (k 0, 512, .inl u_99)), (q_1, .inl (k 0, 512, .inl u_101))] := hD
  have hLow : ∀ j, j < 64 → u_101 j = nI j := en_k hu_101 (by decide) hLow
  refine lv_aload_n hx hb dX4_init_65 rfl (lv_at hl 2 rfl) ?_
  refine va_get (D := D) (ci := 4) (v := .ref q_2) (C := RX4) (T := TX4) (N := 4) hx hb hts uc_4 hown hK hP 0 rfl rfl 1 (by decide) (hts _ uw_2_36) (fun _ h9 => h9) rfl dX4_init_66 ?_
  refine lv_iload_n hx hb dX4_init_69 rfl (lv_at hl 1 rfl) ?_
  refine lv_iload_n hx hb dX4_init_70 rfl (lv_at hl 0 rfl) ?_
  refine lv_iload_n hx hb dX4_init_71 rfl (lv_at hl 0 rfl) ?_
  refine lv_bipush (v := 6) hx hb dX4_init_72 (by decide) ?_
  refine lv_iadd hx hb dX4_init_74 ?_
  refine lv_topc 6 (by decide) ?_
  refine lv_iload_n hx hb dX4_init_75 rfl (lv_at hl 1 rfl) ?_
  refine zr_i (zr_S (own := "HideReader$Lattice") (As := [.int 6, .int 4]) (rest := [.int 0, .int 4, .ref q_2]) (ws := []) hx hb hml hown hts hK noX_stb (fun _ _ _ => trivial) (c_X4_movedStroke_16 l D k 6) ck_X4_movedStroke uw_2_30 uw_2_29 (zs_P hP [] rfl) rfl hl.1 rfl (Nat.le_of_ble_eq_true rfl) dX4_init_76 ⟨Nat.le_of_ble_eq_true rfl, Nat.le_of_ble_eq_true rfl⟩ ⟨Nat.le_of_ble_eq_true rfl, Nat.le_of_ble_eq_true rfl⟩) (fun r_102 hr_102 => ?_)
  refine zm_v (wr := [(h0, .inr (4, [.ref q_1, .ref q_2, .ref q_3, .int 1])), (q_3, .inl (k 0, 8, .inl (fun _ => 0))), (q_1, .inl (k 0, 512, .inl u_101))]) hP hD hS hA [2] [0, 1, 3] (zm_S (own := "HideReader$Lattice") (As := [.ref q_2, .int 4, .int 0, .int r_102]) (rest := []) (ws := [(q_2, .inl (k 0, 512, .inl u_99))]) hx hb hml hown hts hK noX_stb (fun _ _ _ => trivial) (c_X4_enter l D k q_2 4 0 1 (by decide) (by decide) (by decide) r_102 u_99) ck_X4_enter uw_2_33 uw_2_32 hP hD [2] rfl (by decide) rfl hl.1 rfl (Nat.le_of_ble_eq_true rfl) dX4_init_79 ⟨Nat.le_of_ble_eq_true rfl, Nat.le_of_ble_eq_true rfl⟩ ⟨Nat.le_of_ble_eq_true rfl, Nat.le_of_ble_eq_true rfl⟩) rfl rfl (by decide) (by decide) (fun u_103 H locs hu_103 hP hD hS => ?_)
  have hP : va_P D vwCl [(h0, .inr (4, [.ref q_1, .ref q_2, .ref q_3, .int 1])), (q_3, .inl (k 0, 8, .inl (fun _ => 0))), (q_1, .inl (k 0, 512, .inl u_101)), (q_2, .inl (k 0, 512, .inl u_103))] H := hP
  have hD : va_D A [(h0, .inr (4, [.ref q_1, .ref q_2, .ref q_3, .int 1])), (q_3, .inl (k 0, 8, .inl (fun _ => 0))), (q_1, .inl (k 0, 512, .inl u_101)), (q_2, .inl (k 0, 512, .inl u_103))] := hD
  have hHigh : ∀ j, j < 64 → u_103 j = (fun j => nI j <<< ((6 : Int32) &&& 31)) j := en_k hu_103 (by decide) hHigh
  refine lv_iinc (v := 1) (lv' := [(2, .int 1), (1, .int 4), (0, .ref h0)]) hx hb dX4_init_82 hl (k := 0) rfl (by decide) (by decide) rfl (fun ls hl => ?_)
  refine lv_goto (tgt := 45) hx hb dX4_init_85 (by decide) ?_
  refine lv_iload_n hx hb dX4_init_45 rfl (lv_at hl 0 rfl) ?_
  refine lv_bipush (v := 6) hx hb dX4_init_46 (by decide) ?_
  refine lv_icmp_ge (tgt := 88) hx hb dX4_init_48 (by decide) (fun c9 => absurd c9 (by decide)) (fun _ => ?_)
  refine lv_aload_n hx hb dX4_init_51 rfl (lv_at hl 2 rfl) ?_
  refine va_get (D := D) (ci := 4) (v := .ref q_1) (C := RX4) (T := TX4) (N := 4) hx hb hts uc_4 hown hK hP 0 rfl rfl 0 (by decide) (hts _ uw_2_35) (fun _ h9 => h9) rfl dX4_init_52 ?_
  refine lv_iload_n hx hb dX4_init_55 rfl (lv_at hl 1 rfl) ?_
  refine lv_iload_n hx hb dX4_init_56 rfl (lv_at hl 0 rfl) ?_
  refine lv_iload_n hx hb dX4_init_57 rfl (lv_at hl 0 rfl) ?_
  refine lv_iload_n hx hb dX4_init_58 rfl (lv_at hl 1 rfl) ?_
  refine zr_i (zr_S (own := "HideReader$Lattice") (As := [.int 1, .int 4]) (rest := [.int 1, .int 4, .ref q_1]) (ws := []) hx hb hml hown hts hK noX_stb (fun _ _ _ => trivial) (c_X4_movedStroke_16 l D k 1) ck_X4_movedStroke uw_2_30 uw_2_29 (zs_P hP [] rfl) rfl hl.1 rfl (Nat.le_of_ble_eq_true rfl) dX4_init_59 ⟨Nat.le_of_ble_eq_true rfl, Nat.le_of_ble_eq_true rfl⟩ ⟨Nat.le_of_ble_eq_true rfl, Nat.le_of_ble_eq_true rfl⟩) (fun r_104 hr_104 => ?_)
  refine zm_v (wr := [(h0, .inr (4, [.ref q_1, .ref q_2, .ref q_3, .int 1])), (q_3, .inl (k 0, 8, .inl (fun _ => 0))), (q_2, .inl (k 0, 512, .inl u_103))]) hP hD hS hA [2] [0, 1, 3] (zm_S (own := "HideReader$Lattice") (As := [.ref q_1, .int 4, .int 1, .int r_104]) (rest := []) (ws := [(q_1, .inl (k 0, 512, .inl u_101))]) hx hb hml hown hts hK noX_stb (fun _ _ _ => trivial) (c_X4_enter l D k q_1 4 1 2 (by decide) (by decide) (by decide) r_104 u_101) ck_X4_enter uw_2_33 uw_2_32 hP hD [2] rfl (by decide) rfl hl.1 rfl (Nat.le_of_ble_eq_true rfl) dX4_init_62 ⟨Nat.le_of_ble_eq_true rfl, Nat.le_of_ble_eq_true rfl⟩ ⟨Nat.le_of_ble_eq_true rfl, Nat.le_of_ble_eq_true rfl⟩) rfl rfl (by decide) (by decide) (fun u_105 H locs hu_105 hP hD hS => ?_)
  have hP : va_P D vwCl [(h0, .inr (4, [.ref q_1, .ref q_2, .ref q_3, .int 1])), (q_3, .inl (k 0, 8, .inl (fun _ => 0))), (q_2, .inl (k 0, 512, .inl u_103)), (q_1, .inl (k 0, 512, .inl u_105))] H := hP
  have hD : va_D A [(h0, .inr (4, [.ref q_1, .ref q_2, .ref q_3, .int 1])), (q_3, .inl (k 0, 8, .inl (fun _ => 0))), (q_2, .inl (k 0, 512, .inl u_103)), (q_1, .inl (k 0, 512, .inl u_105))] := hD
  have hLow : ∀ j, j < 64 → u_105 j = nI j := en_k hu_105 (by decide) hLow
  refine lv_aload_n hx hb dX4_init_65 rfl (lv_at hl 2 rfl) ?_
  refine va_get (D := D) (ci := 4) (v := .ref q_2) (C := RX4) (T := TX4) (N := 4) hx hb hts uc_4 hown hK hP 0 rfl rfl 1 (by decide) (hts _ uw_2_36) (fun _ h9 => h9) rfl dX4_init_66 ?_
  refine lv_iload_n hx hb dX4_init_69 rfl (lv_at hl 1 rfl) ?_
  refine lv_iload_n hx hb dX4_init_70 rfl (lv_at hl 0 rfl) ?_
  refine lv_iload_n hx hb dX4_init_71 rfl (lv_at hl 0 rfl) ?_
  refine lv_bipush (v := 6) hx hb dX4_init_72 (by decide) ?_
  refine lv_iadd hx hb dX4_init_74 ?_
  refine lv_topc 7 (by decide) ?_
  refine lv_iload_n hx hb dX4_init_75 rfl (lv_at hl 1 rfl) ?_
  refine zr_i (zr_S (own := "HideReader$Lattice") (As := [.int 7, .int 4]) (rest := [.int 1, .int 4, .ref q_2]) (ws := []) hx hb hml hown hts hK noX_stb (fun _ _ _ => trivial) (c_X4_movedStroke_16 l D k 7) ck_X4_movedStroke uw_2_30 uw_2_29 (zs_P hP [] rfl) rfl hl.1 rfl (Nat.le_of_ble_eq_true rfl) dX4_init_76 ⟨Nat.le_of_ble_eq_true rfl, Nat.le_of_ble_eq_true rfl⟩ ⟨Nat.le_of_ble_eq_true rfl, Nat.le_of_ble_eq_true rfl⟩) (fun r_106 hr_106 => ?_)
  refine zm_v (wr := [(h0, .inr (4, [.ref q_1, .ref q_2, .ref q_3, .int 1])), (q_3, .inl (k 0, 8, .inl (fun _ => 0))), (q_1, .inl (k 0, 512, .inl u_105))]) hP hD hS hA [2] [0, 1, 3] (zm_S (own := "HideReader$Lattice") (As := [.ref q_2, .int 4, .int 1, .int r_106]) (rest := []) (ws := [(q_2, .inl (k 0, 512, .inl u_103))]) hx hb hml hown hts hK noX_stb (fun _ _ _ => trivial) (c_X4_enter l D k q_2 4 1 2 (by decide) (by decide) (by decide) r_106 u_103) ck_X4_enter uw_2_33 uw_2_32 hP hD [2] rfl (by decide) rfl hl.1 rfl (Nat.le_of_ble_eq_true rfl) dX4_init_79 ⟨Nat.le_of_ble_eq_true rfl, Nat.le_of_ble_eq_true rfl⟩ ⟨Nat.le_of_ble_eq_true rfl, Nat.le_of_ble_eq_true rfl⟩) rfl rfl (by decide) (by decide) (fun u_107 H locs hu_107 hP hD hS => ?_)
  have hP : va_P D vwCl [(h0, .inr (4, [.ref q_1, .ref q_2, .ref q_3, .int 1])), (q_3, .inl (k 0, 8, .inl (fun _ => 0))), (q_1, .inl (k 0, 512, .inl u_105)), (q_2, .inl (k 0, 512, .inl u_107))] H := hP
  have hD : va_D A [(h0, .inr (4, [.ref q_1, .ref q_2, .ref q_3, .int 1])), (q_3, .inl (k 0, 8, .inl (fun _ => 0))), (q_1, .inl (k 0, 512, .inl u_105)), (q_2, .inl (k 0, 512, .inl u_107))] := hD
  have hHigh : ∀ j, j < 64 → u_107 j = (fun j => nI j <<< ((6 : Int32) &&& 31)) j := en_k hu_107 (by decide) hHigh
  refine lv_iinc (v := 2) (lv' := [(2, .int 2), (1, .int 4), (0, .ref h0)]) hx hb dX4_init_82 hl (k := 0) rfl (by decide) (by decide) rfl (fun ls hl => ?_)
  refine lv_goto (tgt := 45) hx hb dX4_init_85 (by decide) ?_
  refine lv_iload_n hx hb dX4_init_45 rfl (lv_at hl 0 rfl) ?_
  refine lv_bipush (v := 6) hx hb dX4_init_46 (by decide) ?_
  refine lv_icmp_ge (tgt := 88) hx hb dX4_init_48 (by decide) (fun c9 => absurd c9 (by decide)) (fun _ => ?_)
  refine lv_aload_n hx hb dX4_init_51 rfl (lv_at hl 2 rfl) ?_
  refine va_get (D := D) (ci := 4) (v := .ref q_1) (C := RX4) (T := TX4) (N := 4) hx hb hts uc_4 hown hK hP 0 rfl rfl 0 (by decide) (hts _ uw_2_35) (fun _ h9 => h9) rfl dX4_init_52 ?_
  refine lv_iload_n hx hb dX4_init_55 rfl (lv_at hl 1 rfl) ?_
  refine lv_iload_n hx hb dX4_init_56 rfl (lv_at hl 0 rfl) ?_
  refine lv_iload_n hx hb dX4_init_57 rfl (lv_at hl 0 rfl) ?_
  refine lv_iload_n hx hb dX4_init_58 rfl (lv_at hl 1 rfl) ?_
  refine zr_i (zr_S (own := "HideReader$Lattice") (As := [.int 2, .int 4]) (rest := [.int 2, .int 4, .ref q_1]) (ws := []) hx hb hml hown hts hK noX_stb (fun _ _ _ => trivial) (c_X4_movedStroke_16 l D k 2) ck_X4_movedStroke uw_2_30 uw_2_29 (zs_P hP [] rfl) rfl hl.1 rfl (Nat.le_of_ble_eq_true rfl) dX4_init_59 ⟨Nat.le_of_ble_eq_true rfl, Nat.le_of_ble_eq_true rfl⟩ ⟨Nat.le_of_ble_eq_true rfl, Nat.le_of_ble_eq_true rfl⟩) (fun r_108 hr_108 => ?_)
  refine zm_v (wr := [(h0, .inr (4, [.ref q_1, .ref q_2, .ref q_3, .int 1])), (q_3, .inl (k 0, 8, .inl (fun _ => 0))), (q_2, .inl (k 0, 512, .inl u_107))]) hP hD hS hA [2] [0, 1, 3] (zm_S (own := "HideReader$Lattice") (As := [.ref q_1, .int 4, .int 2, .int r_108]) (rest := []) (ws := [(q_1, .inl (k 0, 512, .inl u_105))]) hx hb hml hown hts hK noX_stb (fun _ _ _ => trivial) (c_X4_enter l D k q_1 4 2 4 (by decide) (by decide) (by decide) r_108 u_105) ck_X4_enter uw_2_33 uw_2_32 hP hD [2] rfl (by decide) rfl hl.1 rfl (Nat.le_of_ble_eq_true rfl) dX4_init_62 ⟨Nat.le_of_ble_eq_true rfl, Nat.le_of_ble_eq_true rfl⟩ ⟨Nat.le_of_ble_eq_true rfl, Nat.le_of_ble_eq_true rfl⟩) rfl rfl (by decide) (by decide) (fun u_109 H locs hu_109 hP hD hS => ?_)
  have hP : va_P D vwCl [(h0, .inr (4, [.ref q_1, .ref q_2, .ref q_3, .int 1])), (q_3, .inl (k 0, 8, .inl (fun _ => 0))), (q_2, .inl (k 0, 512, .inl u_107)), (q_1, .inl (k 0, 512, .inl u_109))] H := hP
  have hD : va_D A [(h0, .inr (4, [.ref q_1, .ref q_2, .ref q_3, .int 1])), (q_3, .inl (k 0, 8, .inl (fun _ => 0))), (q_2, .inl (k 0, 512, .inl u_107)), (q_1, .inl (k 0, 512, .inl u_109))] := hD
  have hLow : ∀ j, j < 64 → u_109 j = nI j := en_k hu_109 (by decide) hLow
  refine lv_aload_n hx hb dX4_init_65 rfl (lv_at hl 2 rfl) ?_
  refine va_get (D := D) (ci := 4) (v := .ref q_2) (C := RX4) (T := TX4) (N := 4) hx hb hts uc_4 hown hK hP 0 rfl rfl 1 (by decide) (hts _ uw_2_36) (fun _ h9 => h9) rfl dX4_init_66 ?_
  refine lv_iload_n hx hb dX4_init_69 rfl (lv_at hl 1 rfl) ?_
  refine lv_iload_n hx hb dX4_init_70 rfl (lv_at hl 0 rfl) ?_
  refine lv_iload_n hx hb dX4_init_71 rfl (lv_at hl 0 rfl) ?_
  refine lv_bipush (v := 6) hx hb dX4_init_72 (by decide) ?_
  refine lv_iadd hx hb dX4_init_74 ?_
  refine lv_topc 8 (by decide) ?_
  refine lv_iload_n hx hb dX4_init_75 rfl (lv_at hl 1 rfl) ?_
  refine zr_i (zr_S (own := "HideReader$Lattice") (As := [.int 8, .int 4]) (rest := [.int 2, .int 4, .ref q_2]) (ws := []) hx hb hml hown hts hK noX_stb (fun _ _ _ => trivial) (c_X4_movedStroke_16 l D k 8) ck_X4_movedStroke uw_2_30 uw_2_29 (zs_P hP [] rfl) rfl hl.1 rfl (Nat.le_of_ble_eq_true rfl) dX4_init_76 ⟨Nat.le_of_ble_eq_true rfl, Nat.le_of_ble_eq_true rfl⟩ ⟨Nat.le_of_ble_eq_true rfl, Nat.le_of_ble_eq_true rfl⟩) (fun r_110 hr_110 => ?_)
  refine zm_v (wr := [(h0, .inr (4, [.ref q_1, .ref q_2, .ref q_3, .int 1])), (q_3, .inl (k 0, 8, .inl (fun _ => 0))), (q_1, .inl (k 0, 512, .inl u_109))]) hP hD hS hA [2] [0, 1, 3] (zm_S (own := "HideReader$Lattice") (As := [.ref q_2, .int 4, .int 2, .int r_110]) (rest := []) (ws := [(q_2, .inl (k 0, 512, .inl u_107))]) hx hb hml hown hts hK noX_stb (fun _ _ _ => trivial) (c_X4_enter l D k q_2 4 2 4 (by decide) (by decide) (by decide) r_110 u_107) ck_X4_enter uw_2_33 uw_2_32 hP hD [2] rfl (by decide) rfl hl.1 rfl (Nat.le_of_ble_eq_true rfl) dX4_init_79 ⟨Nat.le_of_ble_eq_true rfl, Nat.le_of_ble_eq_true rfl⟩ ⟨Nat.le_of_ble_eq_true rfl, Nat.le_of_ble_eq_true rfl⟩) rfl rfl (by decide) (by decide) (fun u_111 H locs hu_111 hP hD hS => ?_)
  have hP : va_P D vwCl [(h0, .inr (4, [.ref q_1, .ref q_2, .ref q_3, .int 1])), (q_3, .inl (k 0, 8, .inl (fun _ => 0))), (q_1, .inl (k 0, 512, .inl u_109)), (q_2, .inl (k 0, 512, .inl u_111))] H := hP
  have hD : va_D A [(h0, .inr (4, [.ref q_1, .ref q_2, .ref q_3, .int 1])), (q_3, .inl (k 0, 8, .inl (fun _ => 0))), (q_1, .inl (k 0, 512, .inl u_109)), (q_2, .inl (k 0, 512, .inl u_111))] := hD
  have hHigh : ∀ j, j < 64 → u_111 j = (fun j => nI j <<< ((6 : Int32) &&& 31)) j := en_k hu_111 (by decide) hHigh
  refine lv_iinc (v := 3) (lv' := [(2, .int 3), (1, .int 4), (0, .ref h0)]) hx hb dX4_init_82 hl (k := 0) rfl (by decide) (by decide) rfl (fun ls hl => ?_)
  refine lv_goto (tgt := 45) hx hb dX4_init_85 (by decide) ?_
  refine lv_iload_n hx hb dX4_init_45 rfl (lv_at hl 0 rfl) ?_
  refine lv_bipush (v := 6) hx hb dX4_init_46 (by decide) ?_
  refine lv_icmp_ge (tgt := 88) hx hb dX4_init_48 (by decide) (fun c9 => absurd c9 (by decide)) (fun _ => ?_)
  refine lv_aload_n hx hb dX4_init_51 rfl (lv_at hl 2 rfl) ?_
  refine va_get (D := D) (ci := 4) (v := .ref q_1) (C := RX4) (T := TX4) (N := 4) hx hb hts uc_4 hown hK hP 0 rfl rfl 0 (by decide) (hts _ uw_2_35) (fun _ h9 => h9) rfl dX4_init_52 ?_
  refine lv_iload_n hx hb dX4_init_55 rfl (lv_at hl 1 rfl) ?_
  refine lv_iload_n hx hb dX4_init_56 rfl (lv_at hl 0 rfl) ?_
  refine lv_iload_n hx hb dX4_init_57 rfl (lv_at hl 0 rfl) ?_
  refine lv_iload_n hx hb dX4_init_58 rfl (lv_at hl 1 rfl) ?_
  refine zr_i (zr_S (own := "HideReader$Lattice") (As := [.int 3, .int 4]) (rest := [.int 3, .int 4, .ref q_1]) (ws := []) hx hb hml hown hts hK noX_stb (fun _ _ _ => trivial) (c_X4_movedStroke_16 l D k 3) ck_X4_movedStroke uw_2_30 uw_2_29 (zs_P hP [] rfl) rfl hl.1 rfl (Nat.le_of_ble_eq_true rfl) dX4_init_59 ⟨Nat.le_of_ble_eq_true rfl, Nat.le_of_ble_eq_true rfl⟩ ⟨Nat.le_of_ble_eq_true rfl, Nat.le_of_ble_eq_true rfl⟩) (fun r_112 hr_112 => ?_)
  refine zm_v (wr := [(h0, .inr (4, [.ref q_1, .ref q_2, .ref q_3, .int 1])), (q_3, .inl (k 0, 8, .inl (fun _ => 0))), (q_2, .inl (k 0, 512, .inl u_111))]) hP hD hS hA [2] [0, 1, 3] (zm_S (own := "HideReader$Lattice") (As := [.ref q_1, .int 4, .int 3, .int r_112]) (rest := []) (ws := [(q_1, .inl (k 0, 512, .inl u_109))]) hx hb hml hown hts hK noX_stb (fun _ _ _ => trivial) (c_X4_enter l D k q_1 4 3 8 (by decide) (by decide) (by decide) r_112 u_109) ck_X4_enter uw_2_33 uw_2_32 hP hD [2] rfl (by decide) rfl hl.1 rfl (Nat.le_of_ble_eq_true rfl) dX4_init_62 ⟨Nat.le_of_ble_eq_true rfl, Nat.le_of_ble_eq_true rfl⟩ ⟨Nat.le_of_ble_eq_true rfl, Nat.le_of_ble_eq_true rfl⟩) rfl rfl (by decide) (by decide) (fun u_113 H locs hu_113 hP hD hS => ?_)
  have hP : va_P D vwCl [(h0, .inr (4, [.ref q_1, .ref q_2, .ref q_3, .int 1])), (q_3, .inl (k 0, 8, .inl (fun _ => 0))), (q_2, .inl (k 0, 512, .inl u_111)), (q_1, .inl (k 0, 512, .inl u_113))] H := hP
  have hD : va_D A [(h0, .inr (4, [.ref q_1, .ref q_2, .ref q_3, .int 1])), (q_3, .inl (k 0, 8, .inl (fun _ => 0))), (q_2, .inl (k 0, 512, .inl u_111)), (q_1, .inl (k 0, 512, .inl u_113))] := hD
  have hLow : ∀ j, j < 64 → u_113 j = nI j := en_k hu_113 (by decide) hLow
  refine lv_aload_n hx hb dX4_init_65 rfl (lv_at hl 2 rfl) ?_
  refine va_get (D := D) (ci := 4) (v := .ref q_2) (C := RX4) (T := TX4) (N := 4) hx hb hts uc_4 hown hK hP 0 rfl rfl 1 (by decide) (hts _ uw_2_36) (fun _ h9 => h9) rfl dX4_init_66 ?_
  refine lv_iload_n hx hb dX4_init_69 rfl (lv_at hl 1 rfl) ?_
  refine lv_iload_n hx hb dX4_init_70 rfl (lv_at hl 0 rfl) ?_
  refine lv_iload_n hx hb dX4_init_71 rfl (lv_at hl 0 rfl) ?_
  refine lv_bipush (v := 6) hx hb dX4_init_72 (by decide) ?_
  refine lv_iadd hx hb dX4_init_74 ?_
  refine lv_topc 9 (by decide) ?_
  refine lv_iload_n hx hb dX4_init_75 rfl (lv_at hl 1 rfl) ?_
  refine zr_i (zr_S (own := "HideReader$Lattice") (As := [.int 9, .int 4]) (rest := [.int 3, .int 4, .ref q_2]) (ws := []) hx hb hml hown hts hK noX_stb (fun _ _ _ => trivial) (c_X4_movedStroke_16 l D k 9) ck_X4_movedStroke uw_2_30 uw_2_29 (zs_P hP [] rfl) rfl hl.1 rfl (Nat.le_of_ble_eq_true rfl) dX4_init_76 ⟨Nat.le_of_ble_eq_true rfl, Nat.le_of_ble_eq_true rfl⟩ ⟨Nat.le_of_ble_eq_true rfl, Nat.le_of_ble_eq_true rfl⟩) (fun r_114 hr_114 => ?_)
  refine zm_v (wr := [(h0, .inr (4, [.ref q_1, .ref q_2, .ref q_3, .int 1])), (q_3, .inl (k 0, 8, .inl (fun _ => 0))), (q_1, .inl (k 0, 512, .inl u_113))]) hP hD hS hA [2] [0, 1, 3] (zm_S (own := "HideReader$Lattice") (As := [.ref q_2, .int 4, .int 3, .int r_114]) (rest := []) (ws := [(q_2, .inl (k 0, 512, .inl u_111))]) hx hb hml hown hts hK noX_stb (fun _ _ _ => trivial) (c_X4_enter l D k q_2 4 3 8 (by decide) (by decide) (by decide) r_114 u_111) ck_X4_enter uw_2_33 uw_2_32 hP hD [2] rfl (by decide) rfl hl.1 rfl (Nat.le_of_ble_eq_true rfl) dX4_init_79 ⟨Nat.le_of_ble_eq_true rfl, Nat.le_of_ble_eq_true rfl⟩ ⟨Nat.le_of_ble_eq_true rfl, Nat.le_of_ble_eq_true rfl⟩) rfl rfl (by decide) (by decide) (fun u_115 H locs hu_115 hP hD hS => ?_)
  have hP : va_P D vwCl [(h0, .inr (4, [.ref q_1, .ref q_2, .ref q_3, .int 1])), (q_3, .inl (k 0, 8, .inl (fun _ => 0))), (q_1, .inl (k 0, 512, .inl u_113)), (q_2, .inl (k 0, 512, .inl u_115))] H := hP
  have hD : va_D A [(h0, .inr (4, [.ref q_1, .ref q_2, .ref q_3, .int 1])), (q_3, .inl (k 0, 8, .inl (fun _ => 0))), (q_1, .inl (k 0, 512, .inl u_113)), (q_2, .inl (k 0, 512, .inl u_115))] := hD
  have hHigh : ∀ j, j < 64 → u_115 j = (fun j => nI j <<< ((6 : Int32) &&& 31)) j := en_k hu_115 (by decide) hHigh
  refine lv_iinc (v := 4) (lv' := [(2, .int 4), (1, .int 4), (0, .ref h0)]) hx hb dX4_init_82 hl (k := 0) rfl (by decide) (by decide) rfl (fun ls hl => ?_)
  refine lv_goto (tgt := 45) hx hb dX4_init_85 (by decide) ?_
  refine lv_iload_n hx hb dX4_init_45 rfl (lv_at hl 0 rfl) ?_
  refine lv_bipush (v := 6) hx hb dX4_init_46 (by decide) ?_
  refine lv_icmp_ge (tgt := 88) hx hb dX4_init_48 (by decide) (fun c9 => absurd c9 (by decide)) (fun _ => ?_)
  refine lv_aload_n hx hb dX4_init_51 rfl (lv_at hl 2 rfl) ?_
  refine va_get (D := D) (ci := 4) (v := .ref q_1) (C := RX4) (T := TX4) (N := 4) hx hb hts uc_4 hown hK hP 0 rfl rfl 0 (by decide) (hts _ uw_2_35) (fun _ h9 => h9) rfl dX4_init_52 ?_
  refine lv_iload_n hx hb dX4_init_55 rfl (lv_at hl 1 rfl) ?_
  refine lv_iload_n hx hb dX4_init_56 rfl (lv_at hl 0 rfl) ?_
  refine lv_iload_n hx hb dX4_init_57 rfl (lv_at hl 0 rfl) ?_
  refine lv_iload_n hx hb dX4_init_58 rfl (lv_at hl 1 rfl) ?_
  refine zr_i (zr_S (own := "HideReader$Lattice") (As := [.int 4, .int 4]) (rest := [.int 4, .int 4, .ref q_1]) (ws := []) hx hb hml hown hts hK noX_stb (fun _ _ _ => trivial) (c_X4_movedStroke_16 l D k 4) ck_X4_movedStroke uw_2_30 uw_2_29 (zs_P hP [] rfl) rfl hl.1 rfl (Nat.le_of_ble_eq_true rfl) dX4_init_59 ⟨Nat.le_of_ble_eq_true rfl, Nat.le_of_ble_eq_true rfl⟩ ⟨Nat.le_of_ble_eq_true rfl, Nat.le_of_ble_eq_true rfl⟩) (fun r_116 hr_116 => ?_)
  refine zm_v (wr := [(h0, .inr (4, [.ref q_1, .ref q_2, .ref q_3, .int 1])), (q_3, .inl (k 0, 8, .inl (fun _ => 0))), (q_2, .inl (k 0, 512, .inl u_115))]) hP hD hS hA [2] [0, 1, 3] (zm_S (own := "HideReader$Lattice") (As := [.ref q_1, .int 4, .int 4, .int r_116]) (rest := []) (ws := [(q_1, .inl (k 0, 512, .inl u_113))]) hx hb hml hown hts hK noX_stb (fun _ _ _ => trivial) (c_X4_enter l D k q_1 4 4 16 (by decide) (by decide) (by decide) r_116 u_113) ck_X4_enter uw_2_33 uw_2_32 hP hD [2] rfl (by decide) rfl hl.1 rfl (Nat.le_of_ble_eq_true rfl) dX4_init_62 ⟨Nat.le_of_ble_eq_true rfl, Nat.le_of_ble_eq_true rfl⟩ ⟨Nat.le_of_ble_eq_true rfl, Nat.le_of_ble_eq_true rfl⟩) rfl rfl (by decide) (by decide) (fun u_117 H locs hu_117 hP hD hS => ?_)
  have hP : va_P D vwCl [(h0, .inr (4, [.ref q_1, .ref q_2, .ref q_3, .int 1])), (q_3, .inl (k 0, 8, .inl (fun _ => 0))), (q_2, .inl (k 0, 512, .inl u_115)), (q_1, .inl (k 0, 512, .inl u_117))] H := hP
  have hD : va_D A [(h0, .inr (4, [.ref q_1, .ref q_2, .ref q_3, .int 1])), (q_3, .inl (k 0, 8, .inl (fun _ => 0))), (q_2, .inl (k 0, 512, .inl u_115)), (q_1, .inl (k 0, 512, .inl u_117))] := hD
  have hLow : ∀ j, j < 64 → u_117 j = nI j := en_k hu_117 (by decide) hLow
  refine lv_aload_n hx hb dX4_init_65 rfl (lv_at hl 2 rfl) ?_
  refine va_get (D := D) (ci := 4) (v := .ref q_2) (C := RX4) (T := TX4) (N := 4) hx hb hts uc_4 hown hK hP 0 rfl rfl 1 (by decide) (hts _ uw_2_36) (fun _ h9 => h9) rfl dX4_init_66 ?_
  refine lv_iload_n hx hb dX4_init_69 rfl (lv_at hl 1 rfl) ?_
  refine lv_iload_n hx hb dX4_init_70 rfl (lv_at hl 0 rfl) ?_
  refine lv_iload_n hx hb dX4_init_71 rfl (lv_at hl 0 rfl) ?_
  refine lv_bipush (v := 6) hx hb dX4_init_72 (by decide) ?_
  refine lv_iadd hx hb dX4_init_74 ?_
  refine lv_topc 10 (by decide) ?_
  refine lv_iload_n hx hb dX4_init_75 rfl (lv_at hl 1 rfl) ?_
  refine zr_i (zr_S (own := "HideReader$Lattice") (As := [.int 10, .int 4]) (rest := [.int 4, .int 4, .ref q_2]) (ws := []) hx hb hml hown hts hK noX_stb (fun _ _ _ => trivial) (c_X4_movedStroke_16 l D k 10) ck_X4_movedStroke uw_2_30 uw_2_29 (zs_P hP [] rfl) rfl hl.1 rfl (Nat.le_of_ble_eq_true rfl) dX4_init_76 ⟨Nat.le_of_ble_eq_true rfl, Nat.le_of_ble_eq_true rfl⟩ ⟨Nat.le_of_ble_eq_true rfl, Nat.le_of_ble_eq_true rfl⟩) (fun r_118 hr_118 => ?_)
  refine zm_v (wr := [(h0, .inr (4, [.ref q_1, .ref q_2, .ref q_3, .int 1])), (q_3, .inl (k 0, 8, .inl (fun _ => 0))), (q_1, .inl (k 0, 512, .inl u_117))]) hP hD hS hA [2] [0, 1, 3] (zm_S (own := "HideReader$Lattice") (As := [.ref q_2, .int 4, .int 4, .int r_118]) (rest := []) (ws := [(q_2, .inl (k 0, 512, .inl u_115))]) hx hb hml hown hts hK noX_stb (fun _ _ _ => trivial) (c_X4_enter l D k q_2 4 4 16 (by decide) (by decide) (by decide) r_118 u_115) ck_X4_enter uw_2_33 uw_2_32 hP hD [2] rfl (by decide) rfl hl.1 rfl (Nat.le_of_ble_eq_true rfl) dX4_init_79 ⟨Nat.le_of_ble_eq_true rfl, Nat.le_of_ble_eq_true rfl⟩ ⟨Nat.le_of_ble_eq_true rfl, Nat.le_of_ble_eq_true rfl⟩) rfl rfl (by decide) (by decide) (fun u_119 H locs hu_119 hP hD hS => ?_)
  have hP : va_P D vwCl [(h0, .inr (4, [.ref q_1, .ref q_2, .ref q_3, .int 1])), (q_3, .inl (k 0, 8, .inl (fun _ => 0))), (q_1, .inl (k 0, 512, .inl u_117)), (q_2, .inl (k 0, 512, .inl u_119))] H := hP
  have hD : va_D A [(h0, .inr (4, [.ref q_1, .ref q_2, .ref q_3, .int 1])), (q_3, .inl (k 0, 8, .inl (fun _ => 0))), (q_1, .inl (k 0, 512, .inl u_117)), (q_2, .inl (k 0, 512, .inl u_119))] := hD
  have hHigh : ∀ j, j < 64 → u_119 j = (fun j => nI j <<< ((6 : Int32) &&& 31)) j := en_k hu_119 (by decide) hHigh
  refine lv_iinc (v := 5) (lv' := [(2, .int 5), (1, .int 4), (0, .ref h0)]) hx hb dX4_init_82 hl (k := 0) rfl (by decide) (by decide) rfl (fun ls hl => ?_)
  refine lv_goto (tgt := 45) hx hb dX4_init_85 (by decide) ?_
  refine lv_iload_n hx hb dX4_init_45 rfl (lv_at hl 0 rfl) ?_
  refine lv_bipush (v := 6) hx hb dX4_init_46 (by decide) ?_
  refine lv_icmp_ge (tgt := 88) hx hb dX4_init_48 (by decide) (fun c9 => absurd c9 (by decide)) (fun _ => ?_)
  refine lv_aload_n hx hb dX4_init_51 rfl (lv_at hl 2 rfl) ?_
  refine va_get (D := D) (ci := 4) (v := .ref q_1) (C := RX4) (T := TX4) (N := 4) hx hb hts uc_4 hown hK hP 0 rfl rfl 0 (by decide) (hts _ uw_2_35) (fun _ h9 => h9) rfl dX4_init_52 ?_
  refine lv_iload_n hx hb dX4_init_55 rfl (lv_at hl 1 rfl) ?_
  refine lv_iload_n hx hb dX4_init_56 rfl (lv_at hl 0 rfl) ?_
  refine lv_iload_n hx hb dX4_init_57 rfl (lv_at hl 0 rfl) ?_
  refine lv_iload_n hx hb dX4_init_58 rfl (lv_at hl 1 rfl) ?_
  refine zr_i (zr_S (own := "HideReader$Lattice") (As := [.int 5, .int 4]) (rest := [.int 5, .int 4, .ref q_1]) (ws := []) hx hb hml hown hts hK noX_stb (fun _ _ _ => trivial) (c_X4_movedStroke_16 l D k 5) ck_X4_movedStroke uw_2_30 uw_2_29 (zs_P hP [] rfl) rfl hl.1 rfl (Nat.le_of_ble_eq_true rfl) dX4_init_59 ⟨Nat.le_of_ble_eq_true rfl, Nat.le_of_ble_eq_true rfl⟩ ⟨Nat.le_of_ble_eq_true rfl, Nat.le_of_ble_eq_true rfl⟩) (fun r_120 hr_120 => ?_)
  refine zm_v (wr := [(h0, .inr (4, [.ref q_1, .ref q_2, .ref q_3, .int 1])), (q_3, .inl (k 0, 8, .inl (fun _ => 0))), (q_2, .inl (k 0, 512, .inl u_119))]) hP hD hS hA [2] [0, 1, 3] (zm_S (own := "HideReader$Lattice") (As := [.ref q_1, .int 4, .int 5, .int r_120]) (rest := []) (ws := [(q_1, .inl (k 0, 512, .inl u_117))]) hx hb hml hown hts hK noX_stb (fun _ _ _ => trivial) (c_X4_enter l D k q_1 4 5 32 (by decide) (by decide) (by decide) r_120 u_117) ck_X4_enter uw_2_33 uw_2_32 hP hD [2] rfl (by decide) rfl hl.1 rfl (Nat.le_of_ble_eq_true rfl) dX4_init_62 ⟨Nat.le_of_ble_eq_true rfl, Nat.le_of_ble_eq_true rfl⟩ ⟨Nat.le_of_ble_eq_true rfl, Nat.le_of_ble_eq_true rfl⟩) rfl rfl (by decide) (by decide) (fun u_121 H locs hu_121 hP hD hS => ?_)
  have hP : va_P D vwCl [(h0, .inr (4, [.ref q_1, .ref q_2, .ref q_3, .int 1])), (q_3, .inl (k 0, 8, .inl (fun _ => 0))), (q_2, .inl (k 0, 512, .inl u_119)), (q_1, .inl (k 0, 512, .inl u_121))] H := hP
  have hD : va_D A [(h0, .inr (4, [.ref q_1, .ref q_2, .ref q_3, .int 1])), (q_3, .inl (k 0, 8, .inl (fun _ => 0))), (q_2, .inl (k 0, 512, .inl u_119)), (q_1, .inl (k 0, 512, .inl u_121))] := hD
  have hLow : ∀ j, j < 64 → u_121 j = nI j := en_k hu_121 (by decide) hLow
  refine lv_aload_n hx hb dX4_init_65 rfl (lv_at hl 2 rfl) ?_
  refine va_get (D := D) (ci := 4) (v := .ref q_2) (C := RX4) (T := TX4) (N := 4) hx hb hts uc_4 hown hK hP 0 rfl rfl 1 (by decide) (hts _ uw_2_36) (fun _ h9 => h9) rfl dX4_init_66 ?_
  refine lv_iload_n hx hb dX4_init_69 rfl (lv_at hl 1 rfl) ?_
  refine lv_iload_n hx hb dX4_init_70 rfl (lv_at hl 0 rfl) ?_
  refine lv_iload_n hx hb dX4_init_71 rfl (lv_at hl 0 rfl) ?_
  refine lv_bipush (v := 6) hx hb dX4_init_72 (by decide) ?_
  refine lv_iadd hx hb dX4_init_74 ?_
  refine lv_topc 11 (by decide) ?_
  refine lv_iload_n hx hb dX4_init_75 rfl (lv_at hl 1 rfl) ?_
  refine zr_i (zr_S (own := "HideReader$Lattice") (As := [.int 11, .int 4]) (rest := [.int 5, .int 4, .ref q_2]) (ws := []) hx hb hml hown hts hK noX_stb (fun _ _ _ => trivial) (c_X4_movedStroke_16 l D k 11) ck_X4_movedStroke uw_2_30 uw_2_29 (zs_P hP [] rfl) rfl hl.1 rfl (Nat.le_of_ble_eq_true rfl) dX4_init_76 ⟨Nat.le_of_ble_eq_true rfl, Nat.le_of_ble_eq_true rfl⟩ ⟨Nat.le_of_ble_eq_true rfl, Nat.le_of_ble_eq_true rfl⟩) (fun r_122 hr_122 => ?_)
  refine zm_v (wr := [(h0, .inr (4, [.ref q_1, .ref q_2, .ref q_3, .int 1])), (q_3, .inl (k 0, 8, .inl (fun _ => 0))), (q_1, .inl (k 0, 512, .inl u_121))]) hP hD hS hA [2] [0, 1, 3] (zm_S (own := "HideReader$Lattice") (As := [.ref q_2, .int 4, .int 5, .int r_122]) (rest := []) (ws := [(q_2, .inl (k 0, 512, .inl u_119))]) hx hb hml hown hts hK noX_stb (fun _ _ _ => trivial) (c_X4_enter l D k q_2 4 5 32 (by decide) (by decide) (by decide) r_122 u_119) ck_X4_enter uw_2_33 uw_2_32 hP hD [2] rfl (by decide) rfl hl.1 rfl (Nat.le_of_ble_eq_true rfl) dX4_init_79 ⟨Nat.le_of_ble_eq_true rfl, Nat.le_of_ble_eq_true rfl⟩ ⟨Nat.le_of_ble_eq_true rfl, Nat.le_of_ble_eq_true rfl⟩) rfl rfl (by decide) (by decide) (fun u_123 H locs hu_123 hP hD hS => ?_)
  have hP : va_P D vwCl [(h0, .inr (4, [.ref q_1, .ref q_2, .ref q_3, .int 1])), (q_3, .inl (k 0, 8, .inl (fun _ => 0))), (q_1, .inl (k 0, 512, .inl u_121)), (q_2, .inl (k 0, 512, .inl u_123))] H := hP
  have hD : va_D A [(h0, .inr (4, [.ref q_1, .ref q_2, .ref q_3, .int 1])), (q_3, .inl (k 0, 8, .inl (fun _ => 0))), (q_1, .inl (k 0, 512, .inl u_121)), (q_2, .inl (k 0, 512, .inl u_123))] := hD
  have hHigh : ∀ j, j < 64 → u_123 j = (fun j => nI j <<< ((6 : Int32) &&& 31)) j := en_k hu_123 (by decide) hHigh
  refine lv_iinc (v := 6) (lv' := [(2, .int 6), (1, .int 4), (0, .ref h0)]) hx hb dX4_init_82 hl (k := 0) rfl (by decide) (by decide) rfl (fun ls hl => ?_)
  refine lv_goto (tgt := 45) hx hb dX4_init_85 (by decide) ?_
  refine lv_iload_n hx hb dX4_init_45 rfl (lv_at hl 0 rfl) ?_
  refine lv_bipush (v := 6) hx hb dX4_init_46 (by decide) ?_
  refine lv_icmp_ge (tgt := 88) hx hb dX4_init_48 (by decide) (fun _ => ?_) (fun c9 => absurd (by decide) c9)
  refine lv_iinc (v := 5) (lv' := [(1, .int 5), (2, .int 6), (0, .ref h0)]) hx hb dX4_init_88 hl (k := 1) rfl (by decide) (by decide) rfl (fun ls hl => ?_)
  refine lv_goto (tgt := 37) hx hb dX4_init_91 (by decide) ?_
  refine lv_iload_n hx hb dX4_init_37 rfl (lv_at hl 0 rfl) ?_
  refine lv_bipush (v := 8) hx hb dX4_init_38 (by decide) ?_
  refine lv_icmp_ge (tgt := 94) hx hb dX4_init_40 (by decide) (fun c9 => absurd c9 (by decide)) (fun _ => ?_)
  refine lv_iconst (v := 0) hx hb dX4_init_43 (by decide) ?_
  refine lv_istore_n (lv' := [(2, .int 0), (1, .int 5), (0, .ref h0)]) hx hb dX4_init_44 rfl hl (by decide) rfl (fun ls hl => ?_)
  refine lv_iload_n hx hb dX4_init_45 rfl (lv_at hl 0 rfl) ?_
  refine lv_bipush (v := 6) hx hb dX4_init_46 (by decide) ?_
  refine lv_icmp_ge (tgt := 88) hx hb dX4_init_48 (by decide) (fun c9 => absurd c9 (by decide)) (fun _ => ?_)
  refine lv_aload_n hx hb dX4_init_51 rfl (lv_at hl 2 rfl) ?_
  refine va_get (D := D) (ci := 4) (v := .ref q_1) (C := RX4) (T := TX4) (N := 4) hx hb hts uc_4 hown hK hP 0 rfl rfl 0 (by decide) (hts _ uw_2_35) (fun _ h9 => h9) rfl dX4_init_52 ?_
  refine lv_iload_n hx hb dX4_init_55 rfl (lv_at hl 1 rfl) ?_
  refine lv_iload_n hx hb dX4_init_56 rfl (lv_at hl 0 rfl) ?_
  refine lv_iload_n hx hb dX4_init_57 rfl (lv_at hl 0 rfl) ?_
  refine lv_iload_n hx hb dX4_init_58 rfl (lv_at hl 1 rfl) ?_
  refine zr_i (zr_S (own := "HideReader$Lattice") (As := [.int 0, .int 5]) (rest := [.int 0, .int 5, .ref q_1]) (ws := []) hx hb hml hown hts hK noX_stb (fun _ _ _ => trivial) (c_X4_movedStroke_17 l D k 0) ck_X4_movedStroke uw_2_30 uw_2_29 (zs_P hP [] rfl) rfl hl.1 rfl (Nat.le_of_ble_eq_true rfl) dX4_init_59 ⟨Nat.le_of_ble_eq_true rfl, Nat.le_of_ble_eq_true rfl⟩ ⟨Nat.le_of_ble_eq_true rfl, Nat.le_of_ble_eq_true rfl⟩) (fun r_124 hr_124 => ?_)
  refine zm_v (wr := [(h0, .inr (4, [.ref q_1, .ref q_2, .ref q_3, .int 1])), (q_3, .inl (k 0, 8, .inl (fun _ => 0))), (q_2, .inl (k 0, 512, .inl u_123))]) hP hD hS hA [2] [0, 1, 3] (zm_S (own := "HideReader$Lattice") (As := [.ref q_1, .int 5, .int 0, .int r_124]) (rest := []) (ws := [(q_1, .inl (k 0, 512, .inl u_121))]) hx hb hml hown hts hK noX_stb (fun _ _ _ => trivial) (c_X4_enter l D k q_1 5 0 1 (by decide) (by decide) (by decide) r_124 u_121) ck_X4_enter uw_2_33 uw_2_32 hP hD [2] rfl (by decide) rfl hl.1 rfl (Nat.le_of_ble_eq_true rfl) dX4_init_62 ⟨Nat.le_of_ble_eq_true rfl, Nat.le_of_ble_eq_true rfl⟩ ⟨Nat.le_of_ble_eq_true rfl, Nat.le_of_ble_eq_true rfl⟩) rfl rfl (by decide) (by decide) (fun u_125 H locs hu_125 hP hD hS => ?_)
  have hP : va_P D vwCl [(h0, .inr (4, [.ref q_1, .ref q_2, .ref q_3, .int 1])), (q_3, .inl (k 0, 8, .inl (fun _ => 0))), (q_2, .inl (k 0, 512, .inl u_123)), (q_1, .inl (k 0, 512, .inl u_125))] H := hP
  have hD : va_D A [(h0, .inr (4, [.ref q_1, .ref q_2, .ref q_3, .int 1])), (q_3, .inl (k 0, 8, .inl (fun _ => 0))), (q_2, .inl (k 0, 512, .inl u_123)), (q_1, .inl (k 0, 512, .inl u_125))] := hD
  have hLow : ∀ j, j < 64 → u_125 j = nI j := en_k hu_125 (by decide) hLow
  refine lv_aload_n hx hb dX4_init_65 rfl (lv_at hl 2 rfl) ?_
  refine va_get (D := D) (ci := 4) (v := .ref q_2) (C := RX4) (T := TX4) (N := 4) hx hb hts uc_4 hown hK hP 0 rfl rfl 1 (by decide) (hts _ uw_2_36) (fun _ h9 => h9) rfl dX4_init_66 ?_
  refine lv_iload_n hx hb dX4_init_69 rfl (lv_at hl 1 rfl) ?_
  refine lv_iload_n hx hb dX4_init_70 rfl (lv_at hl 0 rfl) ?_
  refine lv_iload_n hx hb dX4_init_71 rfl (lv_at hl 0 rfl) ?_
  refine lv_bipush (v := 6) hx hb dX4_init_72 (by decide) ?_
  refine lv_iadd hx hb dX4_init_74 ?_
  refine lv_topc 6 (by decide) ?_
  refine lv_iload_n hx hb dX4_init_75 rfl (lv_at hl 1 rfl) ?_
  refine zr_i (zr_S (own := "HideReader$Lattice") (As := [.int 6, .int 5]) (rest := [.int 0, .int 5, .ref q_2]) (ws := []) hx hb hml hown hts hK noX_stb (fun _ _ _ => trivial) (c_X4_movedStroke_17 l D k 6) ck_X4_movedStroke uw_2_30 uw_2_29 (zs_P hP [] rfl) rfl hl.1 rfl (Nat.le_of_ble_eq_true rfl) dX4_init_76 ⟨Nat.le_of_ble_eq_true rfl, Nat.le_of_ble_eq_true rfl⟩ ⟨Nat.le_of_ble_eq_true rfl, Nat.le_of_ble_eq_true rfl⟩) (fun r_126 hr_126 => ?_)
  refine zm_v (wr := [(h0, .inr (4, [.ref q_1, .ref q_2, .ref q_3, .int 1])), (q_3, .inl (k 0, 8, .inl (fun _ => 0))), (q_1, .inl (k 0, 512, .inl u_125))]) hP hD hS hA [2] [0, 1, 3] (zm_S (own := "HideReader$Lattice") (As := [.ref q_2, .int 5, .int 0, .int r_126]) (rest := []) (ws := [(q_2, .inl (k 0, 512, .inl u_123))]) hx hb hml hown hts hK noX_stb (fun _ _ _ => trivial) (c_X4_enter l D k q_2 5 0 1 (by decide) (by decide) (by decide) r_126 u_123) ck_X4_enter uw_2_33 uw_2_32 hP hD [2] rfl (by decide) rfl hl.1 rfl (Nat.le_of_ble_eq_true rfl) dX4_init_79 ⟨Nat.le_of_ble_eq_true rfl, Nat.le_of_ble_eq_true rfl⟩ ⟨Nat.le_of_ble_eq_true rfl, Nat.le_of_ble_eq_true rfl⟩) rfl rfl (by decide) (by decide) (fun u_127 H locs hu_127 hP hD hS => ?_)
  have hP : va_P D vwCl [(h0, .inr (4, [.ref q_1, .ref q_2, .ref q_3, .int 1])), (q_3, .inl (k 0, 8, .inl (fun _ => 0))), (q_1, .inl (k 0, 512, .inl u_125)), (q_2, .inl (k 0, 512, .inl u_127))] H := hP
  have hD : va_D A [(h0, .inr (4, [.ref q_1, .ref q_2, .ref q_3, .int 1])), (q_3, .inl (k 0, 8, .inl (fun _ => 0))), (q_1, .inl (k 0, 512, .inl u_125)), (q_2, .inl (k 0, 512, .inl u_127))] := hD
  have hHigh : ∀ j, j < 64 → u_127 j = (fun j => nI j <<< ((6 : Int32) &&& 31)) j := en_k hu_127 (by decide) hHigh
  refine lv_iinc (v := 1) (lv' := [(2, .int 1), (1, .int 5), (0, .ref h0)]) hx hb dX4_init_82 hl (k := 0) rfl (by decide) (by decide) rfl (fun ls hl => ?_)
  refine lv_goto (tgt := 45) hx hb dX4_init_85 (by decide) ?_
  refine lv_iload_n hx hb dX4_init_45 rfl (lv_at hl 0 rfl) ?_
  refine lv_bipush (v := 6) hx hb dX4_init_46 (by decide) ?_
  refine lv_icmp_ge (tgt := 88) hx hb dX4_init_48 (by decide) (fun c9 => absurd c9 (by decide)) (fun _ => ?_)
  refine lv_aload_n hx hb dX4_init_51 rfl (lv_at hl 2 rfl) ?_
  refine va_get (D := D) (ci := 4) (v := .ref q_1) (C := RX4) (T := TX4) (N := 4) hx hb hts uc_4 hown hK hP 0 rfl rfl 0 (by decide) (hts _ uw_2_35) (fun _ h9 => h9) rfl dX4_init_52 ?_
  refine lv_iload_n hx hb dX4_init_55 rfl (lv_at hl 1 rfl) ?_
  refine lv_iload_n hx hb dX4_init_56 rfl (lv_at hl 0 rfl) ?_
  refine lv_iload_n hx hb dX4_init_57 rfl (lv_at hl 0 rfl) ?_
  refine lv_iload_n hx hb dX4_init_58 rfl (lv_at hl 1 rfl) ?_
  refine zr_i (zr_S (own := "HideReader$Lattice") (As := [.int 1, .int 5]) (rest := [.int 1, .int 5, .ref q_1]) (ws := []) hx hb hml hown hts hK noX_stb (fun _ _ _ => trivial) (c_X4_movedStroke_17 l D k 1) ck_X4_movedStroke uw_2_30 uw_2_29 (zs_P hP [] rfl) rfl hl.1 rfl (Nat.le_of_ble_eq_true rfl) dX4_init_59 ⟨Nat.le_of_ble_eq_true rfl, Nat.le_of_ble_eq_true rfl⟩ ⟨Nat.le_of_ble_eq_true rfl, Nat.le_of_ble_eq_true rfl⟩) (fun r_128 hr_128 => ?_)
  refine zm_v (wr := [(h0, .inr (4, [.ref q_1, .ref q_2, .ref q_3, .int 1])), (q_3, .inl (k 0, 8, .inl (fun _ => 0))), (q_2, .inl (k 0, 512, .inl u_127))]) hP hD hS hA [2] [0, 1, 3] (zm_S (own := "HideReader$Lattice") (As := [.ref q_1, .int 5, .int 1, .int r_128]) (rest := []) (ws := [(q_1, .inl (k 0, 512, .inl u_125))]) hx hb hml hown hts hK noX_stb (fun _ _ _ => trivial) (c_X4_enter l D k q_1 5 1 2 (by decide) (by decide) (by decide) r_128 u_125) ck_X4_enter uw_2_33 uw_2_32 hP hD [2] rfl (by decide) rfl hl.1 rfl (Nat.le_of_ble_eq_true rfl) dX4_init_62 ⟨Nat.le_of_ble_eq_true rfl, Nat.le_of_ble_eq_true rfl⟩ ⟨Nat.le_of_ble_eq_true rfl, Nat.le_of_ble_eq_true rfl⟩) rfl rfl (by decide) (by decide) (fun u_129 H locs hu_129 hP hD hS => ?_)
  have hP : va_P D vwCl [(h0, .inr (4, [.ref q_1, .ref q_2, .ref q_3, .int 1])), (q_3, .inl (k 0, 8, .inl (fun _ => 0))), (q_2, .inl (k 0, 512, .inl u_127)), (q_1, .inl (k 0, 512, .inl u_129))] H := hP
  have hD : va_D A [(h0, .inr (4, [.ref q_1, .ref q_2, .ref q_3, .int 1])), (q_3, .inl (k 0, 8, .inl (fun _ => 0))), (q_2, .inl (k 0, 512, .inl u_127)), (q_1, .inl (k 0, 512, .inl u_129))] := hD
  have hLow : ∀ j, j < 64 → u_129 j = nI j := en_k hu_129 (by decide) hLow
  refine lv_aload_n hx hb dX4_init_65 rfl (lv_at hl 2 rfl) ?_
  refine va_get (D := D) (ci := 4) (v := .ref q_2) (C := RX4) (T := TX4) (N := 4) hx hb hts uc_4 hown hK hP 0 rfl rfl 1 (by decide) (hts _ uw_2_36) (fun _ h9 => h9) rfl dX4_init_66 ?_
  refine lv_iload_n hx hb dX4_init_69 rfl (lv_at hl 1 rfl) ?_
  refine lv_iload_n hx hb dX4_init_70 rfl (lv_at hl 0 rfl) ?_
  refine lv_iload_n hx hb dX4_init_71 rfl (lv_at hl 0 rfl) ?_
  refine lv_bipush (v := 6) hx hb dX4_init_72 (by decide) ?_
  refine lv_iadd hx hb dX4_init_74 ?_
  refine lv_topc 7 (by decide) ?_
  refine lv_iload_n hx hb dX4_init_75 rfl (lv_at hl 1 rfl) ?_
  refine zr_i (zr_S (own := "HideReader$Lattice") (As := [.int 7, .int 5]) (rest := [.int 1, .int 5, .ref q_2]) (ws := []) hx hb hml hown hts hK noX_stb (fun _ _ _ => trivial) (c_X4_movedStroke_17 l D k 7) ck_X4_movedStroke uw_2_30 uw_2_29 (zs_P hP [] rfl) rfl hl.1 rfl (Nat.le_of_ble_eq_true rfl) dX4_init_76 ⟨Nat.le_of_ble_eq_true rfl, Nat.le_of_ble_eq_true rfl⟩ ⟨Nat.le_of_ble_eq_true rfl, Nat.le_of_ble_eq_true rfl⟩) (fun r_130 hr_130 => ?_)
  refine zm_v (wr := [(h0, .inr (4, [.ref q_1, .ref q_2, .ref q_3, .int 1])), (q_3, .inl (k 0, 8, .inl (fun _ => 0))), (q_1, .inl (k 0, 512, .inl u_129))]) hP hD hS hA [2] [0, 1, 3] (zm_S (own := "HideReader$Lattice") (As := [.ref q_2, .int 5, .int 1, .int r_130]) (rest := []) (ws := [(q_2, .inl (k 0, 512, .inl u_127))]) hx hb hml hown hts hK noX_stb (fun _ _ _ => trivial) (c_X4_enter l D k q_2 5 1 2 (by decide) (by decide) (by decide) r_130 u_127) ck_X4_enter uw_2_33 uw_2_32 hP hD [2] rfl (by decide) rfl hl.1 rfl (Nat.le_of_ble_eq_true rfl) dX4_init_79 ⟨Nat.le_of_ble_eq_true rfl, Nat.le_of_ble_eq_true rfl⟩ ⟨Nat.le_of_ble_eq_true rfl, Nat.le_of_ble_eq_true rfl⟩) rfl rfl (by decide) (by decide) (fun u_131 H locs hu_131 hP hD hS => ?_)
  have hP : va_P D vwCl [(h0, .inr (4, [.ref q_1, .ref q_2, .ref q_3, .int 1])), (q_3, .inl (k 0, 8, .inl (fun _ => 0))), (q_1, .inl (k 0, 512, .inl u_129)), (q_2, .inl (k 0, 512, .inl u_131))] H := hP
  have hD : va_D A [(h0, .inr (4, [.ref q_1, .ref q_2, .ref q_3, .int 1])), (q_3, .inl (k 0, 8, .inl (fun _ => 0))), (q_1, .inl (k 0, 512, .inl u_129)), (q_2, .inl (k 0, 512, .inl u_131))] := hD
  have hHigh : ∀ j, j < 64 → u_131 j = (fun j => nI j <<< ((6 : Int32) &&& 31)) j := en_k hu_131 (by decide) hHigh
  refine lv_iinc (v := 2) (lv' := [(2, .int 2), (1, .int 5), (0, .ref h0)]) hx hb dX4_init_82 hl (k := 0) rfl (by decide) (by decide) rfl (fun ls hl => ?_)
  refine lv_goto (tgt := 45) hx hb dX4_init_85 (by decide) ?_
  refine lv_iload_n hx hb dX4_init_45 rfl (lv_at hl 0 rfl) ?_
  refine lv_bipush (v := 6) hx hb dX4_init_46 (by decide) ?_
  refine lv_icmp_ge (tgt := 88) hx hb dX4_init_48 (by decide) (fun c9 => absurd c9 (by decide)) (fun _ => ?_)
  refine lv_aload_n hx hb dX4_init_51 rfl (lv_at hl 2 rfl) ?_
  refine va_get (D := D) (ci := 4) (v := .ref q_1) (C := RX4) (T := TX4) (N := 4) hx hb hts uc_4 hown hK hP 0 rfl rfl 0 (by decide) (hts _ uw_2_35) (fun _ h9 => h9) rfl dX4_init_52 ?_
  refine lv_iload_n hx hb dX4_init_55 rfl (lv_at hl 1 rfl) ?_
  refine lv_iload_n hx hb dX4_init_56 rfl (lv_at hl 0 rfl) ?_
  refine lv_iload_n hx hb dX4_init_57 rfl (lv_at hl 0 rfl) ?_
  refine lv_iload_n hx hb dX4_init_58 rfl (lv_at hl 1 rfl) ?_
  refine zr_i (zr_S (own := "HideReader$Lattice") (As := [.int 2, .int 5]) (rest := [.int 2, .int 5, .ref q_1]) (ws := []) hx hb hml hown hts hK noX_stb (fun _ _ _ => trivial) (c_X4_movedStroke_17 l D k 2) ck_X4_movedStroke uw_2_30 uw_2_29 (zs_P hP [] rfl) rfl hl.1 rfl (Nat.le_of_ble_eq_true rfl) dX4_init_59 ⟨Nat.le_of_ble_eq_true rfl, Nat.le_of_ble_eq_true rfl⟩ ⟨Nat.le_of_ble_eq_true rfl, Nat.le_of_ble_eq_true rfl⟩) (fun r_132 hr_132 => ?_)
  refine zm_v (wr := [(h0, .inr (4, [.ref q_1, .ref q_2, .ref q_3, .int 1])), (q_3, .inl (k 0, 8, .inl (fun _ => 0))), (q_2, .inl (k 0, 512, .inl u_131))]) hP hD hS hA [2] [0, 1, 3] (zm_S (own := "HideReader$Lattice") (As := [.ref q_1, .int 5, .int 2, .int r_132]) (rest := []) (ws := [(q_1, .inl (k 0, 512, .inl u_129))]) hx hb hml hown hts hK noX_stb (fun _ _ _ => trivial) (c_X4_enter l D k q_1 5 2 4 (by decide) (by decide) (by decide) r_132 u_129) ck_X4_enter uw_2_33 uw_2_32 hP hD [2] rfl (by decide) rfl hl.1 rfl (Nat.le_of_ble_eq_true rfl) dX4_init_62 ⟨Nat.le_of_ble_eq_true rfl, Nat.le_of_ble_eq_true rfl⟩ ⟨Nat.le_of_ble_eq_true rfl, Nat.le_of_ble_eq_true rfl⟩) rfl rfl (by decide) (by decide) (fun u_133 H locs hu_133 hP hD hS => ?_)
  have hP : va_P D vwCl [(h0, .inr (4, [.ref q_1, .ref q_2, .ref q_3, .int 1])), (q_3, .inl (k 0, 8, .inl (fun _ => 0))), (q_2, .inl (k 0, 512, .inl u_131)), (q_1, .inl (k 0, 512, .inl u_133))] H := hP
  have hD : va_D A [(h0, .inr (4, [.ref q_1, .ref q_2, .ref q_3, .int 1])), (q_3, .inl (k 0, 8, .inl (fun _ => 0))), (q_2, .inl (k 0, 512, .inl u_131)), (q_1, .inl (k 0, 512, .inl u_133))] := hD
  have hLow : ∀ j, j < 64 → u_133 j = nI j := en_k hu_133 (by decide) hLow
  refine lv_aload_n hx hb dX4_init_65 rfl (lv_at hl 2 rfl) ?_
  refine va_get (D := D) (ci := 4) (v := .ref q_2) (C := RX4) (T := TX4) (N := 4) hx hb hts uc_4 hown hK hP 0 rfl rfl 1 (by decide) (hts _ uw_2_36) (fun _ h9 => h9) rfl dX4_init_66 ?_
  refine lv_iload_n hx hb dX4_init_69 rfl (lv_at hl 1 rfl) ?_
  refine lv_iload_n hx hb dX4_init_70 rfl (lv_at hl 0 rfl) ?_
  refine lv_iload_n hx hb dX4_init_71 rfl (lv_at hl 0 rfl) ?_
  refine lv_bipush (v := 6) hx hb dX4_init_72 (by decide) ?_
  refine lv_iadd hx hb dX4_init_74 ?_
  refine lv_topc 8 (by decide) ?_
  refine lv_iload_n hx hb dX4_init_75 rfl (lv_at hl 1 rfl) ?_
  refine zr_i (zr_S (own := "HideReader$Lattice") (As := [.int 8, .int 5]) (rest := [.int 2, .int 5, .ref q_2]) (ws := []) hx hb hml hown hts hK noX_stb (fun _ _ _ => trivial) (c_X4_movedStroke_17 l D k 8) ck_X4_movedStroke uw_2_30 uw_2_29 (zs_P hP [] rfl) rfl hl.1 rfl (Nat.le_of_ble_eq_true rfl) dX4_init_76 ⟨Nat.le_of_ble_eq_true rfl, Nat.le_of_ble_eq_true rfl⟩ ⟨Nat.le_of_ble_eq_true rfl, Nat.le_of_ble_eq_true rfl⟩) (fun r_134 hr_134 => ?_)
  refine zm_v (wr := [(h0, .inr (4, [.ref q_1, .ref q_2, .ref q_3, .int 1])), (q_3, .inl (k 0, 8, .inl (fun _ => 0))), (q_1, .inl (k 0, 512, .inl u_133))]) hP hD hS hA [2] [0, 1, 3] (zm_S (own := "HideReader$Lattice") (As := [.ref q_2, .int 5, .int 2, .int r_134]) (rest := []) (ws := [(q_2, .inl (k 0, 512, .inl u_131))]) hx hb hml hown hts hK noX_stb (fun _ _ _ => trivial) (c_X4_enter l D k q_2 5 2 4 (by decide) (by decide) (by decide) r_134 u_131) ck_X4_enter uw_2_33 uw_2_32 hP hD [2] rfl (by decide) rfl hl.1 rfl (Nat.le_of_ble_eq_true rfl) dX4_init_79 ⟨Nat.le_of_ble_eq_true rfl, Nat.le_of_ble_eq_true rfl⟩ ⟨Nat.le_of_ble_eq_true rfl, Nat.le_of_ble_eq_true rfl⟩) rfl rfl (by decide) (by decide) (fun u_135 H locs hu_135 hP hD hS => ?_)
  have hP : va_P D vwCl [(h0, .inr (4, [.ref q_1, .ref q_2, .ref q_3, .int 1])), (q_3, .inl (k 0, 8, .inl (fun _ => 0))), (q_1, .inl (k 0, 512, .inl u_133)), (q_2, .inl (k 0, 512, .inl u_135))] H := hP
  have hD : va_D A [(h0, .inr (4, [.ref q_1, .ref q_2, .ref q_3, .int 1])), (q_3, .inl (k 0, 8, .inl (fun _ => 0))), (q_1, .inl (k 0, 512, .inl u_133)), (q_2, .inl (k 0, 512, .inl u_135))] := hD
  have hHigh : ∀ j, j < 64 → u_135 j = (fun j => nI j <<< ((6 : Int32) &&& 31)) j := en_k hu_135 (by decide) hHigh
  refine lv_iinc (v := 3) (lv' := [(2, .int 3), (1, .int 5), (0, .ref h0)]) hx hb dX4_init_82 hl (k := 0) rfl (by decide) (by decide) rfl (fun ls hl => ?_)
  refine lv_goto (tgt := 45) hx hb dX4_init_85 (by decide) ?_
  refine lv_iload_n hx hb dX4_init_45 rfl (lv_at hl 0 rfl) ?_
  refine lv_bipush (v := 6) hx hb dX4_init_46 (by decide) ?_
  refine lv_icmp_ge (tgt := 88) hx hb dX4_init_48 (by decide) (fun c9 => absurd c9 (by decide)) (fun _ => ?_)
  refine lv_aload_n hx hb dX4_init_51 rfl (lv_at hl 2 rfl) ?_
  refine va_get (D := D) (ci := 4) (v := .ref q_1) (C := RX4) (T := TX4) (N := 4) hx hb hts uc_4 hown hK hP 0 rfl rfl 0 (by decide) (hts _ uw_2_35) (fun _ h9 => h9) rfl dX4_init_52 ?_
  refine lv_iload_n hx hb dX4_init_55 rfl (lv_at hl 1 rfl) ?_
  refine lv_iload_n hx hb dX4_init_56 rfl (lv_at hl 0 rfl) ?_
  refine lv_iload_n hx hb dX4_init_57 rfl (lv_at hl 0 rfl) ?_
  refine lv_iload_n hx hb dX4_init_58 rfl (lv_at hl 1 rfl) ?_
  refine zr_i (zr_S (own := "HideReader$Lattice") (As := [.int 3, .int 5]) (rest := [.int 3, .int 5, .ref q_1]) (ws := []) hx hb hml hown hts hK noX_stb (fun _ _ _ => trivial) (c_X4_movedStroke_17 l D k 3) ck_X4_movedStroke uw_2_30 uw_2_29 (zs_P hP [] rfl) rfl hl.1 rfl (Nat.le_of_ble_eq_true rfl) dX4_init_59 ⟨Nat.le_of_ble_eq_true rfl, Nat.le_of_ble_eq_true rfl⟩ ⟨Nat.le_of_ble_eq_true rfl, Nat.le_of_ble_eq_true rfl⟩) (fun r_136 hr_136 => ?_)
  refine zm_v (wr := [(h0, .inr (4, [.ref q_1, .ref q_2, .ref q_3, .int 1])), (q_3, .inl (k 0, 8, .inl (fun _ => 0))), (q_2, .inl (k 0, 512, .inl u_135))]) hP hD hS hA [2] [0, 1, 3] (zm_S (own := "HideReader$Lattice") (As := [.ref q_1, .int 5, .int 3, .int r_136]) (rest := []) (ws := [(q_1, .inl (k 0, 512, .inl u_133))]) hx hb hml hown hts hK noX_stb (fun _ _ _ => trivial) (c_X4_enter l D k q_1 5 3 8 (by decide) (by decide) (by decide) r_136 u_133) ck_X4_enter uw_2_33 uw_2_32 hP hD [2] rfl (by decide) rfl hl.1 rfl (Nat.le_of_ble_eq_true rfl) dX4_init_62 ⟨Nat.le_of_ble_eq_true rfl, Nat.le_of_ble_eq_true rfl⟩ ⟨Nat.le_of_ble_eq_true rfl, Nat.le_of_ble_eq_true rfl⟩) rfl rfl (by decide) (by decide) (fun u_137 H locs hu_137 hP hD hS => ?_)
  have hP : va_P D vwCl [(h0, .inr (4, [.ref q_1, .ref q_2, .ref q_3, .int 1])), (q_3, .inl (k 0, 8, .inl (fun _ => 0))), (q_2, .inl (k 0, 512, .inl u_135)), (q_1, .inl (k 0, 512, .inl u_137))] H := hP
  have hD : va_D A [(h0, .inr (4, [.ref q_1, .ref q_2, .ref q_3, .int 1])), (q_3, .inl (k 0, 8, .inl (fun _ => 0))), (q_2, .inl (k 0, 512, .inl u_135)), (q_1, .inl (k 0, 512, .inl u_137))] := hD
  have hLow : ∀ j, j < 64 → u_137 j = nI j := en_k hu_137 (by decide) hLow
  refine lv_aload_n hx hb dX4_init_65 rfl (lv_at hl 2 rfl) ?_
  refine va_get (D := D) (ci := 4) (v := .ref q_2) (C := RX4) (T := TX4) (N := 4) hx hb hts uc_4 hown hK hP 0 rfl rfl 1 (by decide) (hts _ uw_2_36) (fun _ h9 => h9) rfl dX4_init_66 ?_
  refine lv_iload_n hx hb dX4_init_69 rfl (lv_at hl 1 rfl) ?_
  refine lv_iload_n hx hb dX4_init_70 rfl (lv_at hl 0 rfl) ?_
  refine lv_iload_n hx hb dX4_init_71 rfl (lv_at hl 0 rfl) ?_
  refine lv_bipush (v := 6) hx hb dX4_init_72 (by decide) ?_
  refine lv_iadd hx hb dX4_init_74 ?_
  refine lv_topc 9 (by decide) ?_
  refine lv_iload_n hx hb dX4_init_75 rfl (lv_at hl 1 rfl) ?_
  refine zr_i (zr_S (own := "HideReader$Lattice") (As := [.int 9, .int 5]) (rest := [.int 3, .int 5, .ref q_2]) (ws := []) hx hb hml hown hts hK noX_stb (fun _ _ _ => trivial) (c_X4_movedStroke_17 l D k 9) ck_X4_movedStroke uw_2_30 uw_2_29 (zs_P hP [] rfl) rfl hl.1 rfl (Nat.le_of_ble_eq_true rfl) dX4_init_76 ⟨Nat.le_of_ble_eq_true rfl, Nat.le_of_ble_eq_true rfl⟩ ⟨Nat.le_of_ble_eq_true rfl, Nat.le_of_ble_eq_true rfl⟩) (fun r_138 hr_138 => ?_)
  refine zm_v (wr := [(h0, .inr (4, [.ref q_1, .ref q_2, .ref q_3, .int 1])), (q_3, .inl (k 0, 8, .inl (fun _ => 0))), (q_1, .inl (k 0, 512, .inl u_137))]) hP hD hS hA [2] [0, 1, 3] (zm_S (own := "HideReader$Lattice") (As := [.ref q_2, .int 5, .int 3, .int r_138]) (rest := []) (ws := [(q_2, .inl (k 0, 512, .inl u_135))]) hx hb hml hown hts hK noX_stb (fun _ _ _ => trivial) (c_X4_enter l D k q_2 5 3 8 (by decide) (by decide) (by decide) r_138 u_135) ck_X4_enter uw_2_33 uw_2_32 hP hD [2] rfl (by decide) rfl hl.1 rfl (Nat.le_of_ble_eq_true rfl) dX4_init_79 ⟨Nat.le_of_ble_eq_true rfl, Nat.le_of_ble_eq_true rfl⟩ ⟨Nat.le_of_ble_eq_true rfl, Nat.le_of_ble_eq_true rfl⟩) rfl rfl (by decide) (by decide) (fun u_139 H locs hu_139 hP hD hS => ?_)
  have hP : va_P D vwCl [(h0, .inr (4, [.ref q_1, .ref q_2, .ref q_3, .int 1])), (q_3, .inl (k 0, 8, .inl (fun _ => 0))), (q_1, .inl (k 0, 512, .inl u_137)), (q_2, .inl (k 0, 512, .inl u_139))] H := hP
  have hD : va_D A [(h0, .inr (4, [.ref q_1, .ref q_2, .ref q_3, .int 1])), (q_3, .inl (k 0, 8, .inl (fun _ => 0))), (q_1, .inl (k 0, 512, .inl u_137)), (q_2, .inl (k 0, 512, .inl u_139))] := hD
  have hHigh : ∀ j, j < 64 → u_139 j = (fun j => nI j <<< ((6 : Int32) &&& 31)) j := en_k hu_139 (by decide) hHigh
  refine lv_iinc (v := 4) (lv' := [(2, .int 4), (1, .int 5), (0, .ref h0)]) hx hb dX4_init_82 hl (k := 0) rfl (by decide) (by decide) rfl (fun ls hl => ?_)
  refine lv_goto (tgt := 45) hx hb dX4_init_85 (by decide) ?_
  refine lv_iload_n hx hb dX4_init_45 rfl (lv_at hl 0 rfl) ?_
  refine lv_bipush (v := 6) hx hb dX4_init_46 (by decide) ?_
  refine lv_icmp_ge (tgt := 88) hx hb dX4_init_48 (by decide) (fun c9 => absurd c9 (by decide)) (fun _ => ?_)
  refine lv_aload_n hx hb dX4_init_51 rfl (lv_at hl 2 rfl) ?_
  refine va_get (D := D) (ci := 4) (v := .ref q_1) (C := RX4) (T := TX4) (N := 4) hx hb hts uc_4 hown hK hP 0 rfl rfl 0 (by decide) (hts _ uw_2_35) (fun _ h9 => h9) rfl dX4_init_52 ?_
  refine lv_iload_n hx hb dX4_init_55 rfl (lv_at hl 1 rfl) ?_
  refine lv_iload_n hx hb dX4_init_56 rfl (lv_at hl 0 rfl) ?_
  refine lv_iload_n hx hb dX4_init_57 rfl (lv_at hl 0 rfl) ?_
  refine lv_iload_n hx hb dX4_init_58 rfl (lv_at hl 1 rfl) ?_
  refine zr_i (zr_S (own := "HideReader$Lattice") (As := [.int 4, .int 5]) (rest := [.int 4, .int 5, .ref q_1]) (ws := []) hx hb hml hown hts hK noX_stb (fun _ _ _ => trivial) (c_X4_movedStroke_17 l D k 4) ck_X4_movedStroke uw_2_30 uw_2_29 (zs_P hP [] rfl) rfl hl.1 rfl (Nat.le_of_ble_eq_true rfl) dX4_init_59 ⟨Nat.le_of_ble_eq_true rfl, Nat.le_of_ble_eq_true rfl⟩ ⟨Nat.le_of_ble_eq_true rfl, Nat.le_of_ble_eq_true rfl⟩) (fun r_140 hr_140 => ?_)
  refine zm_v (wr := [(h0, .inr (4, [.ref q_1, .ref q_2, .ref q_3, .int 1])), (q_3, .inl (k 0, 8, .inl (fun _ => 0))), (q_2, .inl (k 0, 512, .inl u_139))]) hP hD hS hA [2] [0, 1, 3] (zm_S (own := "HideReader$Lattice") (As := [.ref q_1, .int 5, .int 4, .int r_140]) (rest := []) (ws := [(q_1, .inl (k 0, 512, .inl u_137))]) hx hb hml hown hts hK noX_stb (fun _ _ _ => trivial) (c_X4_enter l D k q_1 5 4 16 (by decide) (by decide) (by decide) r_140 u_137) ck_X4_enter uw_2_33 uw_2_32 hP hD [2] rfl (by decide) rfl hl.1 rfl (Nat.le_of_ble_eq_true rfl) dX4_init_62 ⟨Nat.le_of_ble_eq_true rfl, Nat.le_of_ble_eq_true rfl⟩ ⟨Nat.le_of_ble_eq_true rfl, Nat.le_of_ble_eq_true rfl⟩) rfl rfl (by decide) (by decide) (fun u_141 H locs hu_141 hP hD hS => ?_)
  have hP : va_P D vwCl [(h0, .inr (4, [.ref q_1, .ref q_2, .ref q_3, .int 1])), (q_3, .inl (k 0, 8, .inl (fun _ => 0))), (q_2, .inl (k 0, 512, .inl u_139)), (q_1, .inl (k 0, 512, .inl u_141))] H := hP
  have hD : va_D A [(h0, .inr (4, [.ref q_1, .ref q_2, .ref q_3, .int 1])), (q_3, .inl (k 0, 8, .inl (fun _ => 0))), (q_2, .inl (k 0, 512, .inl u_139)), (q_1, .inl (k 0, 512, .inl u_141))] := hD
  have hLow : ∀ j, j < 64 → u_141 j = nI j := en_k hu_141 (by decide) hLow
  refine lv_aload_n hx hb dX4_init_65 rfl (lv_at hl 2 rfl) ?_
  refine va_get (D := D) (ci := 4) (v := .ref q_2) (C := RX4) (T := TX4) (N := 4) hx hb hts uc_4 hown hK hP 0 rfl rfl 1 (by decide) (hts _ uw_2_36) (fun _ h9 => h9) rfl dX4_init_66 ?_
  refine lv_iload_n hx hb dX4_init_69 rfl (lv_at hl 1 rfl) ?_
  refine lv_iload_n hx hb dX4_init_70 rfl (lv_at hl 0 rfl) ?_
  refine lv_iload_n hx hb dX4_init_71 rfl (lv_at hl 0 rfl) ?_
  refine lv_bipush (v := 6) hx hb dX4_init_72 (by decide) ?_
  refine lv_iadd hx hb dX4_init_74 ?_
  refine lv_topc 10 (by decide) ?_
  refine lv_iload_n hx hb dX4_init_75 rfl (lv_at hl 1 rfl) ?_
  refine zr_i (zr_S (own := "HideReader$Lattice") (As := [.int 10, .int 5]) (rest := [.int 4, .int 5, .ref q_2]) (ws := []) hx hb hml hown hts hK noX_stb (fun _ _ _ => trivial) (c_X4_movedStroke_17 l D k 10) ck_X4_movedStroke uw_2_30 uw_2_29 (zs_P hP [] rfl) rfl hl.1 rfl (Nat.le_of_ble_eq_true rfl) dX4_init_76 ⟨Nat.le_of_ble_eq_true rfl, Nat.le_of_ble_eq_true rfl⟩ ⟨Nat.le_of_ble_eq_true rfl, Nat.le_of_ble_eq_true rfl⟩) (fun r_142 hr_142 => ?_)
  refine zm_v (wr := [(h0, .inr (4, [.ref q_1, .ref q_2, .ref q_3, .int 1])), (q_3, .inl (k 0, 8, .inl (fun _ => 0))), (q_1, .inl (k 0, 512, .inl u_141))]) hP hD hS hA [2] [0, 1, 3] (zm_S (own := "HideReader$Lattice") (As := [.ref q_2, .int 5, .int 4, .int r_142]) (rest := []) (ws := [(q_2, .inl (k 0, 512, .inl u_139))]) hx hb hml hown hts hK noX_stb (fun _ _ _ => trivial) (c_X4_enter l D k q_2 5 4 16 (by decide) (by decide) (by decide) r_142 u_139) ck_X4_enter uw_2_33 uw_2_32 hP hD [2] rfl (by decide) rfl hl.1 rfl (Nat.le_of_ble_eq_true rfl) dX4_init_79 ⟨Nat.le_of_ble_eq_true rfl, Nat.le_of_ble_eq_true rfl⟩ ⟨Nat.le_of_ble_eq_true rfl, Nat.le_of_ble_eq_true rfl⟩) rfl rfl (by decide) (by decide) (fun u_143 H locs hu_143 hP hD hS => ?_)
  have hP : va_P D vwCl [(h0, .inr (4, [.ref q_1, .ref q_2, .ref q_3, .int 1])), (q_3, .inl (k 0, 8, .inl (fun _ => 0))), (q_1, .inl (k 0, 512, .inl u_141)), (q_2, .inl (k 0, 512, .inl u_143))] H := hP
  have hD : va_D A [(h0, .inr (4, [.ref q_1, .ref q_2, .ref q_3, .int 1])), (q_3, .inl (k 0, 8, .inl (fun _ => 0))), (q_1, .inl (k 0, 512, .inl u_141)), (q_2, .inl (k 0, 512, .inl u_143))] := hD
  have hHigh : ∀ j, j < 64 → u_143 j = (fun j => nI j <<< ((6 : Int32) &&& 31)) j := en_k hu_143 (by decide) hHigh
  refine lv_iinc (v := 5) (lv' := [(2, .int 5), (1, .int 5), (0, .ref h0)]) hx hb dX4_init_82 hl (k := 0) rfl (by decide) (by decide) rfl (fun ls hl => ?_)
  refine lv_goto (tgt := 45) hx hb dX4_init_85 (by decide) ?_
  refine lv_iload_n hx hb dX4_init_45 rfl (lv_at hl 0 rfl) ?_
  refine lv_bipush (v := 6) hx hb dX4_init_46 (by decide) ?_
  refine lv_icmp_ge (tgt := 88) hx hb dX4_init_48 (by decide) (fun c9 => absurd c9 (by decide)) (fun _ => ?_)
  refine lv_aload_n hx hb dX4_init_51 rfl (lv_at hl 2 rfl) ?_
  refine va_get (D := D) (ci := 4) (v := .ref q_1) (C := RX4) (T := TX4) (N := 4) hx hb hts uc_4 hown hK hP 0 rfl rfl 0 (by decide) (hts _ uw_2_35) (fun _ h9 => h9) rfl dX4_init_52 ?_
  refine lv_iload_n hx hb dX4_init_55 rfl (lv_at hl 1 rfl) ?_
  refine lv_iload_n hx hb dX4_init_56 rfl (lv_at hl 0 rfl) ?_
  refine lv_iload_n hx hb dX4_init_57 rfl (lv_at hl 0 rfl) ?_
  refine lv_iload_n hx hb dX4_init_58 rfl (lv_at hl 1 rfl) ?_
  refine zr_i (zr_S (own := "HideReader$Lattice") (As := [.int 5, .int 5]) (rest := [.int 5, .int 5, .ref q_1]) (ws := []) hx hb hml hown hts hK noX_stb (fun _ _ _ => trivial) (c_X4_movedStroke_17 l D k 5) ck_X4_movedStroke uw_2_30 uw_2_29 (zs_P hP [] rfl) rfl hl.1 rfl (Nat.le_of_ble_eq_true rfl) dX4_init_59 ⟨Nat.le_of_ble_eq_true rfl, Nat.le_of_ble_eq_true rfl⟩ ⟨Nat.le_of_ble_eq_true rfl, Nat.le_of_ble_eq_true rfl⟩) (fun r_144 hr_144 => ?_)
  refine zm_v (wr := [(h0, .inr (4, [.ref q_1, .ref q_2, .ref q_3, .int 1])), (q_3, .inl (k 0, 8, .inl (fun _ => 0))), (q_2, .inl (k 0, 512, .inl u_143))]) hP hD hS hA [2] [0, 1, 3] (zm_S (own := "HideReader$Lattice") (As := [.ref q_1, .int 5, .int 5, .int r_144]) (rest := []) (ws := [(q_1, .inl (k 0, 512, .inl u_141))]) hx hb hml hown hts hK noX_stb (fun _ _ _ => trivial) (c_X4_enter l D k q_1 5 5 32 (by decide) (by decide) (by decide) r_144 u_141) ck_X4_enter uw_2_33 uw_2_32 hP hD [2] rfl (by decide) rfl hl.1 rfl (Nat.le_of_ble_eq_true rfl) dX4_init_62 ⟨Nat.le_of_ble_eq_true rfl, Nat.le_of_ble_eq_true rfl⟩ ⟨Nat.le_of_ble_eq_true rfl, Nat.le_of_ble_eq_true rfl⟩) rfl rfl (by decide) (by decide) (fun u_145 H locs hu_145 hP hD hS => ?_)
  have hP : va_P D vwCl [(h0, .inr (4, [.ref q_1, .ref q_2, .ref q_3, .int 1])), (q_3, .inl (k 0, 8, .inl (fun _ => 0))), (q_2, .inl (k 0, 512, .inl u_143)), (q_1, .inl (k 0, 512, .inl u_145))] H := hP
  have hD : va_D A [(h0, .inr (4, [.ref q_1, .ref q_2, .ref q_3, .int 1])), (q_3, .inl (k 0, 8, .inl (fun _ => 0))), (q_2, .inl (k 0, 512, .inl u_143)), (q_1, .inl (k 0, 512, .inl u_145))] := hD
  have hLow : ∀ j, j < 64 → u_145 j = nI j := en_k hu_145 (by decide) hLow
  refine lv_aload_n hx hb dX4_init_65 rfl (lv_at hl 2 rfl) ?_
  refine va_get (D := D) (ci := 4) (v := .ref q_2) (C := RX4) (T := TX4) (N := 4) hx hb hts uc_4 hown hK hP 0 rfl rfl 1 (by decide) (hts _ uw_2_36) (fun _ h9 => h9) rfl dX4_init_66 ?_
  refine lv_iload_n hx hb dX4_init_69 rfl (lv_at hl 1 rfl) ?_
  refine lv_iload_n hx hb dX4_init_70 rfl (lv_at hl 0 rfl) ?_
  refine lv_iload_n hx hb dX4_init_71 rfl (lv_at hl 0 rfl) ?_
  refine lv_bipush (v := 6) hx hb dX4_init_72 (by decide) ?_
  refine lv_iadd hx hb dX4_init_74 ?_
  refine lv_topc 11 (by decide) ?_
  refine lv_iload_n hx hb dX4_init_75 rfl (lv_at hl 1 rfl) ?_
  refine zr_i (zr_S (own := "HideReader$Lattice") (As := [.int 11, .int 5]) (rest := [.int 5, .int 5, .ref q_2]) (ws := []) hx hb hml hown hts hK noX_stb (fun _ _ _ => trivial) (c_X4_movedStroke_17 l D k 11) ck_X4_movedStroke uw_2_30 uw_2_29 (zs_P hP [] rfl) rfl hl.1 rfl (Nat.le_of_ble_eq_true rfl) dX4_init_76 ⟨Nat.le_of_ble_eq_true rfl, Nat.le_of_ble_eq_true rfl⟩ ⟨Nat.le_of_ble_eq_true rfl, Nat.le_of_ble_eq_true rfl⟩) (fun r_146 hr_146 => ?_)
  refine zm_v (wr := [(h0, .inr (4, [.ref q_1, .ref q_2, .ref q_3, .int 1])), (q_3, .inl (k 0, 8, .inl (fun _ => 0))), (q_1, .inl (k 0, 512, .inl u_145))]) hP hD hS hA [2] [0, 1, 3] (zm_S (own := "HideReader$Lattice") (As := [.ref q_2, .int 5, .int 5, .int r_146]) (rest := []) (ws := [(q_2, .inl (k 0, 512, .inl u_143))]) hx hb hml hown hts hK noX_stb (fun _ _ _ => trivial) (c_X4_enter l D k q_2 5 5 32 (by decide) (by decide) (by decide) r_146 u_143) ck_X4_enter uw_2_33 uw_2_32 hP hD [2] rfl (by decide) rfl hl.1 rfl (Nat.le_of_ble_eq_true rfl) dX4_init_79 ⟨Nat.le_of_ble_eq_true rfl, Nat.le_of_ble_eq_true rfl⟩ ⟨Nat.le_of_ble_eq_true rfl, Nat.le_of_ble_eq_true rfl⟩) rfl rfl (by decide) (by decide) (fun u_147 H locs hu_147 hP hD hS => ?_)
  have hP : va_P D vwCl [(h0, .inr (4, [.ref q_1, .ref q_2, .ref q_3, .int 1])), (q_3, .inl (k 0, 8, .inl (fun _ => 0))), (q_1, .inl (k 0, 512, .inl u_145)), (q_2, .inl (k 0, 512, .inl u_147))] H := hP
  have hD : va_D A [(h0, .inr (4, [.ref q_1, .ref q_2, .ref q_3, .int 1])), (q_3, .inl (k 0, 8, .inl (fun _ => 0))), (q_1, .inl (k 0, 512, .inl u_145)), (q_2, .inl (k 0, 512, .inl u_147))] := hD
  have hHigh : ∀ j, j < 64 → u_147 j = (fun j => nI j <<< ((6 : Int32) &&& 31)) j := en_k hu_147 (by decide) hHigh
  refine lv_iinc (v := 6) (lv' := [(2, .int 6), (1, .int 5), (0, .ref h0)]) hx hb dX4_init_82 hl (k := 0) rfl (by decide) (by decide) rfl (fun ls hl => ?_)
  refine lv_goto (tgt := 45) hx hb dX4_init_85 (by decide) ?_
  refine lv_iload_n hx hb dX4_init_45 rfl (lv_at hl 0 rfl) ?_
  refine lv_bipush (v := 6) hx hb dX4_init_46 (by decide) ?_
  refine lv_icmp_ge (tgt := 88) hx hb dX4_init_48 (by decide) (fun _ => ?_) (fun c9 => absurd (by decide) c9)
  refine lv_iinc (v := 6) (lv' := [(1, .int 6), (2, .int 6), (0, .ref h0)]) hx hb dX4_init_88 hl (k := 1) rfl (by decide) (by decide) rfl (fun ls hl => ?_)
  refine lv_goto (tgt := 37) hx hb dX4_init_91 (by decide) ?_
  refine lv_iload_n hx hb dX4_init_37 rfl (lv_at hl 0 rfl) ?_
  refine lv_bipush (v := 8) hx hb dX4_init_38 (by decide) ?_
  refine lv_icmp_ge (tgt := 94) hx hb dX4_init_40 (by decide) (fun c9 => absurd c9 (by decide)) (fun _ => ?_)
  refine lv_iconst (v := 0) hx hb dX4_init_43 (by decide) ?_
  refine lv_istore_n (lv' := [(2, .int 0), (1, .int 6), (0, .ref h0)]) hx hb dX4_init_44 rfl hl (by decide) rfl (fun ls hl => ?_)
  refine lv_iload_n hx hb dX4_init_45 rfl (lv_at hl 0 rfl) ?_
  refine lv_bipush (v := 6) hx hb dX4_init_46 (by decide) ?_
  refine lv_icmp_ge (tgt := 88) hx hb dX4_init_48 (by decide) (fun c9 => absurd c9 (by decide)) (fun _ => ?_)
  refine lv_aload_n hx hb dX4_init_51 rfl (lv_at hl 2 rfl) ?_
  refine va_get (D := D) (ci := 4) (v := .ref q_1) (C := RX4) (T := TX4) (N := 4) hx hb hts uc_4 hown hK hP 0 rfl rfl 0 (by decide) (hts _ uw_2_35) (fun _ h9 => h9) rfl dX4_init_52 ?_
  refine lv_iload_n hx hb dX4_init_55 rfl (lv_at hl 1 rfl) ?_
  refine lv_iload_n hx hb dX4_init_56 rfl (lv_at hl 0 rfl) ?_
  refine lv_iload_n hx hb dX4_init_57 rfl (lv_at hl 0 rfl) ?_
  refine lv_iload_n hx hb dX4_init_58 rfl (lv_at hl 1 rfl) ?_
  refine zr_i (zr_S (own := "HideReader$Lattice") (As := [.int 0, .int 6]) (rest := [.int 0, .int 6, .ref q_1]) (ws := []) hx hb hml hown hts hK noX_stb (fun _ _ _ => trivial) (c_X4_movedStroke_18 l D k 0) ck_X4_movedStroke uw_2_30 uw_2_29 (zs_P hP [] rfl) rfl hl.1 rfl (Nat.le_of_ble_eq_true rfl) dX4_init_59 ⟨Nat.le_of_ble_eq_true rfl, Nat.le_of_ble_eq_true rfl⟩ ⟨Nat.le_of_ble_eq_true rfl, Nat.le_of_ble_eq_true rfl⟩) (fun r_148 hr_148 => ?_)
  refine zm_v (wr := [(h0, .inr (4, [.ref q_1, .ref q_2, .ref q_3, .int 1])), (q_3, .inl (k 0, 8, .inl (fun _ => 0))), (q_2, .inl (k 0, 512, .inl u_147))]) hP hD hS hA [2] [0, 1, 3] (zm_S (own := "HideReader$Lattice") (As := [.ref q_1, .int 6, .int 0, .int r_148]) (rest := []) (ws := [(q_1, .inl (k 0, 512, .inl u_145))]) hx hb hml hown hts hK noX_stb (fun _ _ _ => trivial) (c_X4_enter l D k q_1 6 0 1 (by decide) (by decide) (by decide) r_148 u_145) ck_X4_enter uw_2_33 uw_2_32 hP hD [2] rfl (by decide) rfl hl.1 rfl (Nat.le_of_ble_eq_true rfl) dX4_init_62 ⟨Nat.le_of_ble_eq_true rfl, Nat.le_of_ble_eq_true rfl⟩ ⟨Nat.le_of_ble_eq_true rfl, Nat.le_of_ble_eq_true rfl⟩) rfl rfl (by decide) (by decide) (fun u_149 H locs hu_149 hP hD hS => ?_)
  have hP : va_P D vwCl [(h0, .inr (4, [.ref q_1, .ref q_2, .ref q_3, .int 1])), (q_3, .inl (k 0, 8, .inl (fun _ => 0))), (q_2, .inl (k 0, 512, .inl u_147)), (q_1, .inl (k 0, 512, .inl u_149))] H := hP
  have hD : va_D A [(h0, .inr (4, [.ref q_1, .ref q_2, .ref q_3, .int 1])), (q_3, .inl (k 0, 8, .inl (fun _ => 0))), (q_2, .inl (k 0, 512, .inl u_147)), (q_1, .inl (k 0, 512, .inl u_149))] := hD
  have hLow : ∀ j, j < 64 → u_149 j = nI j := en_k hu_149 (by decide) hLow
  refine lv_aload_n hx hb dX4_init_65 rfl (lv_at hl 2 rfl) ?_
  refine va_get (D := D) (ci := 4) (v := .ref q_2) (C := RX4) (T := TX4) (N := 4) hx hb hts uc_4 hown hK hP 0 rfl rfl 1 (by decide) (hts _ uw_2_36) (fun _ h9 => h9) rfl dX4_init_66 ?_
  refine lv_iload_n hx hb dX4_init_69 rfl (lv_at hl 1 rfl) ?_
  refine lv_iload_n hx hb dX4_init_70 rfl (lv_at hl 0 rfl) ?_
  refine lv_iload_n hx hb dX4_init_71 rfl (lv_at hl 0 rfl) ?_
  refine lv_bipush (v := 6) hx hb dX4_init_72 (by decide) ?_
  refine lv_iadd hx hb dX4_init_74 ?_
  refine lv_topc 6 (by decide) ?_
  refine lv_iload_n hx hb dX4_init_75 rfl (lv_at hl 1 rfl) ?_
  refine zr_i (zr_S (own := "HideReader$Lattice") (As := [.int 6, .int 6]) (rest := [.int 0, .int 6, .ref q_2]) (ws := []) hx hb hml hown hts hK noX_stb (fun _ _ _ => trivial) (c_X4_movedStroke_18 l D k 6) ck_X4_movedStroke uw_2_30 uw_2_29 (zs_P hP [] rfl) rfl hl.1 rfl (Nat.le_of_ble_eq_true rfl) dX4_init_76 ⟨Nat.le_of_ble_eq_true rfl, Nat.le_of_ble_eq_true rfl⟩ ⟨Nat.le_of_ble_eq_true rfl, Nat.le_of_ble_eq_true rfl⟩) (fun r_150 hr_150 => ?_)
  refine zm_v (wr := [(h0, .inr (4, [.ref q_1, .ref q_2, .ref q_3, .int 1])), (q_3, .inl (k 0, 8, .inl (fun _ => 0))), (q_1, .inl (k 0, 512, .inl u_149))]) hP hD hS hA [2] [0, 1, 3] (zm_S (own := "HideReader$Lattice") (As := [.ref q_2, .int 6, .int 0, .int r_150]) (rest := []) (ws := [(q_2, .inl (k 0, 512, .inl u_147))]) hx hb hml hown hts hK noX_stb (fun _ _ _ => trivial) (c_X4_enter l D k q_2 6 0 1 (by decide) (by decide) (by decide) r_150 u_147) ck_X4_enter uw_2_33 uw_2_32 hP hD [2] rfl (by decide) rfl hl.1 rfl (Nat.le_of_ble_eq_true rfl) dX4_init_79 ⟨Nat.le_of_ble_eq_true rfl, Nat.le_of_ble_eq_true rfl⟩ ⟨Nat.le_of_ble_eq_true rfl, Nat.le_of_ble_eq_true rfl⟩) rfl rfl (by decide) (by decide) (fun u_151 H locs hu_151 hP hD hS => ?_)
  have hP : va_P D vwCl [(h0, .inr (4, [.ref q_1, .ref q_2, .ref q_3, .int 1])), (q_3, .inl (k 0, 8, .inl (fun _ => 0))), (q_1, .inl (k 0, 512, .inl u_149)), (q_2, .inl (k 0, 512, .inl u_151))] H := hP
  have hD : va_D A [(h0, .inr (4, [.ref q_1, .ref q_2, .ref q_3, .int 1])), (q_3, .inl (k 0, 8, .inl (fun _ => 0))), (q_1, .inl (k 0, 512, .inl u_149)), (q_2, .inl (k 0, 512, .inl u_151))] := hD
  have hHigh : ∀ j, j < 64 → u_151 j = (fun j => nI j <<< ((6 : Int32) &&& 31)) j := en_k hu_151 (by decide) hHigh
  refine lv_iinc (v := 1) (lv' := [(2, .int 1), (1, .int 6), (0, .ref h0)]) hx hb dX4_init_82 hl (k := 0) rfl (by decide) (by decide) rfl (fun ls hl => ?_)
  refine lv_goto (tgt := 45) hx hb dX4_init_85 (by decide) ?_
  refine lv_iload_n hx hb dX4_init_45 rfl (lv_at hl 0 rfl) ?_
  refine lv_bipush (v := 6) hx hb dX4_init_46 (by decide) ?_
  refine lv_icmp_ge (tgt := 88) hx hb dX4_init_48 (by decide) (fun c9 => absurd c9 (by decide)) (fun _ => ?_)
  refine lv_aload_n hx hb dX4_init_51 rfl (lv_at hl 2 rfl) ?_
  refine va_get (D := D) (ci := 4) (v := .ref q_1) (C := RX4) (T := TX4) (N := 4) hx hb hts uc_4 hown hK hP 0 rfl rfl 0 (by decide) (hts _ uw_2_35) (fun _ h9 => h9) rfl dX4_init_52 ?_
  refine lv_iload_n hx hb dX4_init_55 rfl (lv_at hl 1 rfl) ?_
  refine lv_iload_n hx hb dX4_init_56 rfl (lv_at hl 0 rfl) ?_
  refine lv_iload_n hx hb dX4_init_57 rfl (lv_at hl 0 rfl) ?_
  refine lv_iload_n hx hb dX4_init_58 rfl (lv_at hl 1 rfl) ?_
  refine zr_i (zr_S (own := "HideReader$Lattice") (As := [.int 1, .int 6]) (rest := [.int 1, .int 6, .ref q_1]) (ws := []) hx hb hml hown hts hK noX_stb (fun _ _ _ => trivial) (c_X4_movedStroke_18 l D k 1) ck_X4_movedStroke uw_2_30 uw_2_29 (zs_P hP [] rfl) rfl hl.1 rfl (Nat.le_of_ble_eq_true rfl) dX4_init_59 ⟨Nat.le_of_ble_eq_true rfl, Nat.le_of_ble_eq_true rfl⟩ ⟨Nat.le_of_ble_eq_true rfl, Nat.le_of_ble_eq_true rfl⟩) (fun r_152 hr_152 => ?_)
  refine zm_v (wr := [(h0, .inr (4, [.ref q_1, .ref q_2, .ref q_3, .int 1])), (q_3, .inl (k 0, 8, .inl (fun _ => 0))), (q_2, .inl (k 0, 512, .inl u_151))]) hP hD hS hA [2] [0, 1, 3] (zm_S (own := "HideReader$Lattice") (As := [.ref q_1, .int 6, .int 1, .int r_152]) (rest := []) (ws := [(q_1, .inl (k 0, 512, .inl u_149))]) hx hb hml hown hts hK noX_stb (fun _ _ _ => trivial) (c_X4_enter l D k q_1 6 1 2 (by decide) (by decide) (by decide) r_152 u_149) ck_X4_enter uw_2_33 uw_2_32 hP hD [2] rfl (by decide) rfl hl.1 rfl (Nat.le_of_ble_eq_true rfl) dX4_init_62 ⟨Nat.le_of_ble_eq_true rfl, Nat.le_of_ble_eq_true rfl⟩ ⟨Nat.le_of_ble_eq_true rfl, Nat.le_of_ble_eq_true rfl⟩) rfl rfl (by decide) (by decide) (fun u_153 H locs hu_153 hP hD hS => ?_)
  have hP : va_P D vwCl [(h0, .inr (4, [.ref q_1, .ref q_2, .ref q_3, .int 1])), (q_3, .inl (k 0, 8, .inl (fun _ => 0))), (q_2, .inl (k 0, 512, .inl u_151)), (q_1, .inl (k 0, 512, .inl u_153))] H := hP
  have hD : va_D A [(h0, .inr (4, [.ref q_1, .ref q_2, .ref q_3, .int 1])), (q_3, .inl (k 0, 8, .inl (fun _ => 0))), (q_2, .inl (k 0, 512, .inl u_151)), (q_1, .inl (k 0, 512, .inl u_153))] := hD
  have hLow : ∀ j, j < 64 → u_153 j = nI j := en_k hu_153 (by decide) hLow
  refine lv_aload_n hx hb dX4_init_65 rfl (lv_at hl 2 rfl) ?_
  refine va_get (D := D) (ci := 4) (v := .ref q_2) (C := RX4) (T := TX4) (N := 4) hx hb hts uc_4 hown hK hP 0 rfl rfl 1 (by decide) (hts _ uw_2_36) (fun _ h9 => h9) rfl dX4_init_66 ?_
  refine lv_iload_n hx hb dX4_init_69 rfl (lv_at hl 1 rfl) ?_
  refine lv_iload_n hx hb dX4_init_70 rfl (lv_at hl 0 rfl) ?_
  refine lv_iload_n hx hb dX4_init_71 rfl (lv_at hl 0 rfl) ?_
  refine lv_bipush (v := 6) hx hb dX4_init_72 (by decide) ?_
  refine lv_iadd hx hb dX4_init_74 ?_
  refine lv_topc 7 (by decide) ?_
  refine lv_iload_n hx hb dX4_init_75 rfl (lv_at hl 1 rfl) ?_
  refine zr_i (zr_S (own := "HideReader$Lattice") (As := [.int 7, .int 6]) (rest := [.int 1, .int 6, .ref q_2]) (ws := []) hx hb hml hown hts hK noX_stb (fun _ _ _ => trivial) (c_X4_movedStroke_18 l D k 7) ck_X4_movedStroke uw_2_30 uw_2_29 (zs_P hP [] rfl) rfl hl.1 rfl (Nat.le_of_ble_eq_true rfl) dX4_init_76 ⟨Nat.le_of_ble_eq_true rfl, Nat.le_of_ble_eq_true rfl⟩ ⟨Nat.le_of_ble_eq_true rfl, Nat.le_of_ble_eq_true rfl⟩) (fun r_154 hr_154 => ?_)
  refine zm_v (wr := [(h0, .inr (4, [.ref q_1, .ref q_2, .ref q_3, .int 1])), (q_3, .inl (k 0, 8, .inl (fun _ => 0))), (q_1, .inl (k 0, 512, .inl u_153))]) hP hD hS hA [2] [0, 1, 3] (zm_S (own := "HideReader$Lattice") (As := [.ref q_2, .int 6, .int 1, .int r_154]) (rest := []) (ws := [(q_2, .inl (k 0, 512, .inl u_151))]) hx hb hml hown hts hK noX_stb (fun _ _ _ => trivial) (c_X4_enter l D k q_2 6 1 2 (by decide) (by decide) (by decide) r_154 u_151) ck_X4_enter uw_2_33 uw_2_32 hP hD [2] rfl (by decide) rfl hl.1 rfl (Nat.le_of_ble_eq_true rfl) dX4_init_79 ⟨Nat.le_of_ble_eq_true rfl, Nat.le_of_ble_eq_true rfl⟩ ⟨Nat.le_of_ble_eq_true rfl, Nat.le_of_ble_eq_true rfl⟩) rfl rfl (by decide) (by decide) (fun u_155 H locs hu_155 hP hD hS => ?_)
  have hP : va_P D vwCl [(h0, .inr (4, [.ref q_1, .ref q_2, .ref q_3, .int 1])), (q_3, .inl (k 0, 8, .inl (fun _ => 0))), (q_1, .inl (k 0, 512, .inl u_153)), (q_2, .inl (k 0, 512, .inl u_155))] H := hP
  have hD : va_D A [(h0, .inr (4, [.ref q_1, .ref q_2, .ref q_3, .int 1])), (q_3, .inl (k 0, 8, .inl (fun _ => 0))), (q_1, .inl (k 0, 512, .inl u_153)), (q_2, .inl (k 0, 512, .inl u_155))] := hD
  have hHigh : ∀ j, j < 64 → u_155 j = (fun j => nI j <<< ((6 : Int32) &&& 31)) j := en_k hu_155 (by decide) hHigh
  refine lv_iinc (v := 2) (lv' := [(2, .int 2), (1, .int 6), (0, .ref h0)]) hx hb dX4_init_82 hl (k := 0) rfl (by decide) (by decide) rfl (fun ls hl => ?_)
  refine lv_goto (tgt := 45) hx hb dX4_init_85 (by decide) ?_
  refine lv_iload_n hx hb dX4_init_45 rfl (lv_at hl 0 rfl) ?_
  refine lv_bipush (v := 6) hx hb dX4_init_46 (by decide) ?_
  refine lv_icmp_ge (tgt := 88) hx hb dX4_init_48 (by decide) (fun c9 => absurd c9 (by decide)) (fun _ => ?_)
  refine lv_aload_n hx hb dX4_init_51 rfl (lv_at hl 2 rfl) ?_
  refine va_get (D := D) (ci := 4) (v := .ref q_1) (C := RX4) (T := TX4) (N := 4) hx hb hts uc_4 hown hK hP 0 rfl rfl 0 (by decide) (hts _ uw_2_35) (fun _ h9 => h9) rfl dX4_init_52 ?_
  refine lv_iload_n hx hb dX4_init_55 rfl (lv_at hl 1 rfl) ?_
  refine lv_iload_n hx hb dX4_init_56 rfl (lv_at hl 0 rfl) ?_
  refine lv_iload_n hx hb dX4_init_57 rfl (lv_at hl 0 rfl) ?_
  refine lv_iload_n hx hb dX4_init_58 rfl (lv_at hl 1 rfl) ?_
  refine zr_i (zr_S (own := "HideReader$Lattice") (As := [.int 2, .int 6]) (rest := [.int 2, .int 6, .ref q_1]) (ws := []) hx hb hml hown hts hK noX_stb (fun _ _ _ => trivial) (c_X4_movedStroke_18 l D k 2) ck_X4_movedStroke uw_2_30 uw_2_29 (zs_P hP [] rfl) rfl hl.1 rfl (Nat.le_of_ble_eq_true rfl) dX4_init_59 ⟨Nat.le_of_ble_eq_true rfl, Nat.le_of_ble_eq_true rfl⟩ ⟨Nat.le_of_ble_eq_true rfl, Nat.le_of_ble_eq_true rfl⟩) (fun r_156 hr_156 => ?_)
  refine zm_v (wr := [(h0, .inr (4, [.ref q_1, .ref q_2, .ref q_3, .int 1])), (q_3, .inl (k 0, 8, .inl (fun _ => 0))), (q_2, .inl (k 0, 512, .inl u_155))]) hP hD hS hA [2] [0, 1, 3] (zm_S (own := "HideReader$Lattice") (As := [.ref q_1, .int 6, .int 2, .int r_156]) (rest := []) (ws := [(q_1, .inl (k 0, 512, .inl u_153))]) hx hb hml hown hts hK noX_stb (fun _ _ _ => trivial) (c_X4_enter l D k q_1 6 2 4 (by decide) (by decide) (by decide) r_156 u_153) ck_X4_enter uw_2_33 uw_2_32 hP hD [2] rfl (by decide) rfl hl.1 rfl (Nat.le_of_ble_eq_true rfl) dX4_init_62 ⟨Nat.le_of_ble_eq_true rfl, Nat.le_of_ble_eq_true rfl⟩ ⟨Nat.le_of_ble_eq_true rfl, Nat.le_of_ble_eq_true rfl⟩) rfl rfl (by decide) (by decide) (fun u_157 H locs hu_157 hP hD hS => ?_)
  have hP : va_P D vwCl [(h0, .inr (4, [.ref q_1, .ref q_2, .ref q_3, .int 1])), (q_3, .inl (k 0, 8, .inl (fun _ => 0))), (q_2, .inl (k 0, 512, .inl u_155)), (q_1, .inl (k 0, 512, .inl u_157))] H := hP
  have hD : va_D A [(h0, .inr (4, [.ref q_1, .ref q_2, .ref q_3, .int 1])), (q_3, .inl (k 0, 8, .inl (fun _ => 0))), (q_2, .inl (k 0, 512, .inl u_155)), (q_1, .inl (k 0, 512, .inl u_157))] := hD
  have hLow : ∀ j, j < 64 → u_157 j = nI j := en_k hu_157 (by decide) hLow
  refine lv_aload_n hx hb dX4_init_65 rfl (lv_at hl 2 rfl) ?_
  refine va_get (D := D) (ci := 4) (v := .ref q_2) (C := RX4) (T := TX4) (N := 4) hx hb hts uc_4 hown hK hP 0 rfl rfl 1 (by decide) (hts _ uw_2_36) (fun _ h9 => h9) rfl dX4_init_66 ?_
  refine lv_iload_n hx hb dX4_init_69 rfl (lv_at hl 1 rfl) ?_
  refine lv_iload_n hx hb dX4_init_70 rfl (lv_at hl 0 rfl) ?_
  refine lv_iload_n hx hb dX4_init_71 rfl (lv_at hl 0 rfl) ?_
  refine lv_bipush (v := 6) hx hb dX4_init_72 (by decide) ?_
  refine lv_iadd hx hb dX4_init_74 ?_
  refine lv_topc 8 (by decide) ?_
  refine lv_iload_n hx hb dX4_init_75 rfl (lv_at hl 1 rfl) ?_
  refine zr_i (zr_S (own := "HideReader$Lattice") (As := [.int 8, .int 6]) (rest := [.int 2, .int 6, .ref q_2]) (ws := []) hx hb hml hown hts hK noX_stb (fun _ _ _ => trivial) (c_X4_movedStroke_18 l D k 8) ck_X4_movedStroke uw_2_30 uw_2_29 (zs_P hP [] rfl) rfl hl.1 rfl (Nat.le_of_ble_eq_true rfl) dX4_init_76 ⟨Nat.le_of_ble_eq_true rfl, Nat.le_of_ble_eq_true rfl⟩ ⟨Nat.le_of_ble_eq_true rfl, Nat.le_of_ble_eq_true rfl⟩) (fun r_158 hr_158 => ?_)
  refine zm_v (wr := [(h0, .inr (4, [.ref q_1, .ref q_2, .ref q_3, .int 1])), (q_3, .inl (k 0, 8, .inl (fun _ => 0))), (q_1, .inl (k 0, 512, .inl u_157))]) hP hD hS hA [2] [0, 1, 3] (zm_S (own := "HideReader$Lattice") (As := [.ref q_2, .int 6, .int 2, .int r_158]) (rest := []) (ws := [(q_2, .inl (k 0, 512, .inl u_155))]) hx hb hml hown hts hK noX_stb (fun _ _ _ => trivial) (c_X4_enter l D k q_2 6 2 4 (by decide) (by decide) (by decide) r_158 u_155) ck_X4_enter uw_2_33 uw_2_32 hP hD [2] rfl (by decide) rfl hl.1 rfl (Nat.le_of_ble_eq_true rfl) dX4_init_79 ⟨Nat.le_of_ble_eq_true rfl, Nat.le_of_ble_eq_true rfl⟩ ⟨Nat.le_of_ble_eq_true rfl, Nat.le_of_ble_eq_true rfl⟩) rfl rfl (by decide) (by decide) (fun u_159 H locs hu_159 hP hD hS => ?_)
  have hP : va_P D vwCl [(h0, .inr (4, [.ref q_1, .ref q_2, .ref q_3, .int 1])), (q_3, .inl (k 0, 8, .inl (fun _ => 0))), (q_1, .inl (k 0, 512, .inl u_157)), (q_2, .inl (k 0, 512, .inl u_159))] H := hP
  have hD : va_D A [(h0, .inr (4, [.ref q_1, .ref q_2, .ref q_3, .int 1])), (q_3, .inl (k 0, 8, .inl (fun _ => 0))), (q_1, .inl (k 0, 512, .inl u_157)), (q_2, .inl (k 0, 512, .inl u_159))] := hD
  have hHigh : ∀ j, j < 64 → u_159 j = (fun j => nI j <<< ((6 : Int32) &&& 31)) j := en_k hu_159 (by decide) hHigh
  refine lv_iinc (v := 3) (lv' := [(2, .int 3), (1, .int 6), (0, .ref h0)]) hx hb dX4_init_82 hl (k := 0) rfl (by decide) (by decide) rfl (fun ls hl => ?_)
  refine lv_goto (tgt := 45) hx hb dX4_init_85 (by decide) ?_
  refine lv_iload_n hx hb dX4_init_45 rfl (lv_at hl 0 rfl) ?_
  refine lv_bipush (v := 6) hx hb dX4_init_46 (by decide) ?_
  refine lv_icmp_ge (tgt := 88) hx hb dX4_init_48 (by decide) (fun c9 => absurd c9 (by decide)) (fun _ => ?_)
  refine lv_aload_n hx hb dX4_init_51 rfl (lv_at hl 2 rfl) ?_
  refine va_get (D := D) (ci := 4) (v := .ref q_1) (C := RX4) (T := TX4) (N := 4) hx hb hts uc_4 hown hK hP 0 rfl rfl 0 (by decide) (hts _ uw_2_35) (fun _ h9 => h9) rfl dX4_init_52 ?_
  refine lv_iload_n hx hb dX4_init_55 rfl (lv_at hl 1 rfl) ?_
  refine lv_iload_n hx hb dX4_init_56 rfl (lv_at hl 0 rfl) ?_
  refine lv_iload_n hx hb dX4_init_57 rfl (lv_at hl 0 rfl) ?_
  refine lv_iload_n hx hb dX4_init_58 rfl (lv_at hl 1 rfl) ?_
  refine zr_i (zr_S (own := "HideReader$Lattice") (As := [.int 3, .int 6]) (rest := [.int 3, .int 6, .ref q_1]) (ws := []) hx hb hml hown hts hK noX_stb (fun _ _ _ => trivial) (c_X4_movedStroke_18 l D k 3) ck_X4_movedStroke uw_2_30 uw_2_29 (zs_P hP [] rfl) rfl hl.1 rfl (Nat.le_of_ble_eq_true rfl) dX4_init_59 ⟨Nat.le_of_ble_eq_true rfl, Nat.le_of_ble_eq_true rfl⟩ ⟨Nat.le_of_ble_eq_true rfl, Nat.le_of_ble_eq_true rfl⟩) (fun r_160 hr_160 => ?_)
  refine zm_v (wr := [(h0, .inr (4, [.ref q_1, .ref q_2, .ref q_3, .int 1])), (q_3, .inl (k 0, 8, .inl (fun _ => 0))), (q_2, .inl (k 0, 512, .inl u_159))]) hP hD hS hA [2] [0, 1, 3] (zm_S (own := "HideReader$Lattice") (As := [.ref q_1, .int 6, .int 3, .int r_160]) (rest := []) (ws := [(q_1, .inl (k 0, 512, .inl u_157))]) hx hb hml hown hts hK noX_stb (fun _ _ _ => trivial) (c_X4_enter l D k q_1 6 3 8 (by decide) (by decide) (by decide) r_160 u_157) ck_X4_enter uw_2_33 uw_2_32 hP hD [2] rfl (by decide) rfl hl.1 rfl (Nat.le_of_ble_eq_true rfl) dX4_init_62 ⟨Nat.le_of_ble_eq_true rfl, Nat.le_of_ble_eq_true rfl⟩ ⟨Nat.le_of_ble_eq_true rfl, Nat.le_of_ble_eq_true rfl⟩) rfl rfl (by decide) (by decide) (fun u_161 H locs hu_161 hP hD hS => ?_)
  have hP : va_P D vwCl [(h0, .inr (4, [.ref q_1, .ref q_2, .ref q_3, .int 1])), (q_3, .inl (k 0, 8, .inl (fun _ => 0))), (q_2, .inl (k 0, 512, .inl u_159)), (q_1, .inl (k 0, 512, .inl u_161))] H := hP
  have hD : va_D A [(h0, .inr (4, [.ref q_1, .ref q_2, .ref q_3, .int 1])), (q_3, .inl (k 0, 8, .inl (fun _ => 0))), (q_2, .inl (k 0, 512, .inl u_159)), (q_1, .inl (k 0, 512, .inl u_161))] := hD
  have hLow : ∀ j, j < 64 → u_161 j = nI j := en_k hu_161 (by decide) hLow
  refine lv_aload_n hx hb dX4_init_65 rfl (lv_at hl 2 rfl) ?_
  refine va_get (D := D) (ci := 4) (v := .ref q_2) (C := RX4) (T := TX4) (N := 4) hx hb hts uc_4 hown hK hP 0 rfl rfl 1 (by decide) (hts _ uw_2_36) (fun _ h9 => h9) rfl dX4_init_66 ?_
  refine lv_iload_n hx hb dX4_init_69 rfl (lv_at hl 1 rfl) ?_
  refine lv_iload_n hx hb dX4_init_70 rfl (lv_at hl 0 rfl) ?_
  refine lv_iload_n hx hb dX4_init_71 rfl (lv_at hl 0 rfl) ?_
  refine lv_bipush (v := 6) hx hb dX4_init_72 (by decide) ?_
  refine lv_iadd hx hb dX4_init_74 ?_
  refine lv_topc 9 (by decide) ?_
  refine lv_iload_n hx hb dX4_init_75 rfl (lv_at hl 1 rfl) ?_
  refine zr_i (zr_S (own := "HideReader$Lattice") (As := [.int 9, .int 6]) (rest := [.int 3, .int 6, .ref q_2]) (ws := []) hx hb hml hown hts hK noX_stb (fun _ _ _ => trivial) (c_X4_movedStroke_18 l D k 9) ck_X4_movedStroke uw_2_30 uw_2_29 (zs_P hP [] rfl) rfl hl.1 rfl (Nat.le_of_ble_eq_true rfl) dX4_init_76 ⟨Nat.le_of_ble_eq_true rfl, Nat.le_of_ble_eq_true rfl⟩ ⟨Nat.le_of_ble_eq_true rfl, Nat.le_of_ble_eq_true rfl⟩) (fun r_162 hr_162 => ?_)
  refine zm_v (wr := [(h0, .inr (4, [.ref q_1, .ref q_2, .ref q_3, .int 1])), (q_3, .inl (k 0, 8, .inl (fun _ => 0))), (q_1, .inl (k 0, 512, .inl u_161))]) hP hD hS hA [2] [0, 1, 3] (zm_S (own := "HideReader$Lattice") (As := [.ref q_2, .int 6, .int 3, .int r_162]) (rest := []) (ws := [(q_2, .inl (k 0, 512, .inl u_159))]) hx hb hml hown hts hK noX_stb (fun _ _ _ => trivial) (c_X4_enter l D k q_2 6 3 8 (by decide) (by decide) (by decide) r_162 u_159) ck_X4_enter uw_2_33 uw_2_32 hP hD [2] rfl (by decide) rfl hl.1 rfl (Nat.le_of_ble_eq_true rfl) dX4_init_79 ⟨Nat.le_of_ble_eq_true rfl, Nat.le_of_ble_eq_true rfl⟩ ⟨Nat.le_of_ble_eq_true rfl, Nat.le_of_ble_eq_true rfl⟩) rfl rfl (by decide) (by decide) (fun u_163 H locs hu_163 hP hD hS => ?_)
  have hP : va_P D vwCl [(h0, .inr (4, [.ref q_1, .ref q_2, .ref q_3, .int 1])), (q_3, .inl (k 0, 8, .inl (fun _ => 0))), (q_1, .inl (k 0, 512, .inl u_161)), (q_2, .inl (k 0, 512, .inl u_163))] H := hP
  have hD : va_D A [(h0, .inr (4, [.ref q_1, .ref q_2, .ref q_3, .int 1])), (q_3, .inl (k 0, 8, .inl (fun _ => 0))), (q_1, .inl (k 0, 512, .inl u_161)), (q_2, .inl (k 0, 512, .inl u_163))] := hD
  have hHigh : ∀ j, j < 64 → u_163 j = (fun j => nI j <<< ((6 : Int32) &&& 31)) j := en_k hu_163 (by decide) hHigh
  refine lv_iinc (v := 4) (lv' := [(2, .int 4), (1, .int 6), (0, .ref h0)]) hx hb dX4_init_82 hl (k := 0) rfl (by decide) (by decide) rfl (fun ls hl => ?_)
  refine lv_goto (tgt := 45) hx hb dX4_init_85 (by decide) ?_
  refine lv_iload_n hx hb dX4_init_45 rfl (lv_at hl 0 rfl) ?_
  refine lv_bipush (v := 6) hx hb dX4_init_46 (by decide) ?_
  refine lv_icmp_ge (tgt := 88) hx hb dX4_init_48 (by decide) (fun c9 => absurd c9 (by decide)) (fun _ => ?_)
  refine lv_aload_n hx hb dX4_init_51 rfl (lv_at hl 2 rfl) ?_
  refine va_get (D := D) (ci := 4) (v := .ref q_1) (C := RX4) (T := TX4) (N := 4) hx hb hts uc_4 hown hK hP 0 rfl rfl 0 (by decide) (hts _ uw_2_35) (fun _ h9 => h9) rfl dX4_init_52 ?_
  refine lv_iload_n hx hb dX4_init_55 rfl (lv_at hl 1 rfl) ?_
  refine lv_iload_n hx hb dX4_init_56 rfl (lv_at hl 0 rfl) ?_
  refine lv_iload_n hx hb dX4_init_57 rfl (lv_at hl 0 rfl) ?_
  refine lv_iload_n hx hb dX4_init_58 rfl (lv_at hl 1 rfl) ?_
  refine zr_i (zr_S (own := "HideReader$Lattice") (As := [.int 4, .int 6]) (rest := [.int 4, .int 6, .ref q_1]) (ws := []) hx hb hml hown hts hK noX_stb (fun _ _ _ => trivial) (c_X4_movedStroke_18 l D k 4) ck_X4_movedStroke uw_2_30 uw_2_29 (zs_P hP [] rfl) rfl hl.1 rfl (Nat.le_of_ble_eq_true rfl) dX4_init_59 ⟨Nat.le_of_ble_eq_true rfl, Nat.le_of_ble_eq_true rfl⟩ ⟨Nat.le_of_ble_eq_true rfl, Nat.le_of_ble_eq_true rfl⟩) (fun r_164 hr_164 => ?_)
  refine zm_v (wr := [(h0, .inr (4, [.ref q_1, .ref q_2, .ref q_3, .int 1])), (q_3, .inl (k 0, 8, .inl (fun _ => 0))), (q_2, .inl (k 0, 512, .inl u_163))]) hP hD hS hA [2] [0, 1, 3] (zm_S (own := "HideReader$Lattice") (As := [.ref q_1, .int 6, .int 4, .int r_164]) (rest := []) (ws := [(q_1, .inl (k 0, 512, .inl u_161))]) hx hb hml hown hts hK noX_stb (fun _ _ _ => trivial) (c_X4_enter l D k q_1 6 4 16 (by decide) (by decide) (by decide) r_164 u_161) ck_X4_enter uw_2_33 uw_2_32 hP hD [2] rfl (by decide) rfl hl.1 rfl (Nat.le_of_ble_eq_true rfl) dX4_init_62 ⟨Nat.le_of_ble_eq_true rfl, Nat.le_of_ble_eq_true rfl⟩ ⟨Nat.le_of_ble_eq_true rfl, Nat.le_of_ble_eq_true rfl⟩) rfl rfl (by decide) (by decide) (fun u_165 H locs hu_165 hP hD hS => ?_)
  have hP : va_P D vwCl [(h0, .inr (4, [.ref q_1, .ref q_2, .ref q_3, .int 1])), (q_3, .inl (k 0, 8, .inl (fun _ => 0))), (q_2, .inl (k 0, 512, .inl u_163)), (q_1, .inl (k 0, 512, .inl u_165))] H := hP
  have hD : va_D A [(h0, .inr (4, [.ref q_1, .ref q_2, .ref q_3, .int 1])), (q_3, .inl (k 0, 8, .inl (fun _ => 0))), (q_2, .inl (k 0, 512, .inl u_163)), (q_1, .inl (k 0, 512, .inl u_165))] := hD
  have hLow : ∀ j, j < 64 → u_165 j = nI j := en_k hu_165 (by decide) hLow
  refine lv_aload_n hx hb dX4_init_65 rfl (lv_at hl 2 rfl) ?_
  refine va_get (D := D) (ci := 4) (v := .ref q_2) (C := RX4) (T := TX4) (N := 4) hx hb hts uc_4 hown hK hP 0 rfl rfl 1 (by decide) (hts _ uw_2_36) (fun _ h9 => h9) rfl dX4_init_66 ?_
  refine lv_iload_n hx hb dX4_init_69 rfl (lv_at hl 1 rfl) ?_
  refine lv_iload_n hx hb dX4_init_70 rfl (lv_at hl 0 rfl) ?_
  refine lv_iload_n hx hb dX4_init_71 rfl (lv_at hl 0 rfl) ?_
  refine lv_bipush (v := 6) hx hb dX4_init_72 (by decide) ?_
  refine lv_iadd hx hb dX4_init_74 ?_
  refine lv_topc 10 (by decide) ?_
  refine lv_iload_n hx hb dX4_init_75 rfl (lv_at hl 1 rfl) ?_
  refine zr_i (zr_S (own := "HideReader$Lattice") (As := [.int 10, .int 6]) (rest := [.int 4, .int 6, .ref q_2]) (ws := []) hx hb hml hown hts hK noX_stb (fun _ _ _ => trivial) (c_X4_movedStroke_18 l D k 10) ck_X4_movedStroke uw_2_30 uw_2_29 (zs_P hP [] rfl) rfl hl.1 rfl (Nat.le_of_ble_eq_true rfl) dX4_init_76 ⟨Nat.le_of_ble_eq_true rfl, Nat.le_of_ble_eq_true rfl⟩ ⟨Nat.le_of_ble_eq_true rfl, Nat.le_of_ble_eq_true rfl⟩) (fun r_166 hr_166 => ?_)
  refine zm_v (wr := [(h0, .inr (4, [.ref q_1, .ref q_2, .ref q_3, .int 1])), (q_3, .inl (k 0, 8, .inl (fun _ => 0))), (q_1, .inl (k 0, 512, .inl u_165))]) hP hD hS hA [2] [0, 1, 3] (zm_S (own := "HideReader$Lattice") (As := [.ref q_2, .int 6, .int 4, .int r_166]) (rest := []) (ws := [(q_2, .inl (k 0, 512, .inl u_163))]) hx hb hml hown hts hK noX_stb (fun _ _ _ => trivial) (c_X4_enter l D k q_2 6 4 16 (by decide) (by decide) (by decide) r_166 u_163) ck_X4_enter uw_2_33 uw_2_32 hP hD [2] rfl (by decide) rfl hl.1 rfl (Nat.le_of_ble_eq_true rfl) dX4_init_79 ⟨Nat.le_of_ble_eq_true rfl, Nat.le_of_ble_eq_true rfl⟩ ⟨Nat.le_of_ble_eq_true rfl, Nat.le_of_ble_eq_true rfl⟩) rfl rfl (by decide) (by decide) (fun u_167 H locs hu_167 hP hD hS => ?_)
  have hP : va_P D vwCl [(h0, .inr (4, [.ref q_1, .ref q_2, .ref q_3, .int 1])), (q_3, .inl (k 0, 8, .inl (fun _ => 0))), (q_1, .inl (k 0, 512, .inl u_165)), (q_2, .inl (k 0, 512, .inl u_167))] H := hP
  have hD : va_D A [(h0, .inr (4, [.ref q_1, .ref q_2, .ref q_3, .int 1])), (q_3, .inl (k 0, 8, .inl (fun _ => 0))), (q_1, .inl (k 0, 512, .inl u_165)), (q_2, .inl (k 0, 512, .inl u_167))] := hD
  have hHigh : ∀ j, j < 64 → u_167 j = (fun j => nI j <<< ((6 : Int32) &&& 31)) j := en_k hu_167 (by decide) hHigh
  refine lv_iinc (v := 5) (lv' := [(2, .int 5), (1, .int 6), (0, .ref h0)]) hx hb dX4_init_82 hl (k := 0) rfl (by decide) (by decide) rfl (fun ls hl => ?_)
  refine lv_goto (tgt := 45) hx hb dX4_init_85 (by decide) ?_
  refine lv_iload_n hx hb dX4_init_45 rfl (lv_at hl 0 rfl) ?_
  refine lv_bipush (v := 6) hx hb dX4_init_46 (by decide) ?_
  refine lv_icmp_ge (tgt := 88) hx hb dX4_init_48 (by decide) (fun c9 => absurd c9 (by decide)) (fun _ => ?_)
  refine lv_aload_n hx hb dX4_init_51 rfl (lv_at hl 2 rfl) ?_
  refine va_get (D := D) (ci := 4) (v := .ref q_1) (C := RX4) (T := TX4) (N := 4) hx hb hts uc_4 hown hK hP 0 rfl rfl 0 (by decide) (hts _ uw_2_35) (fun _ h9 => h9) rfl dX4_init_52 ?_
  refine lv_iload_n hx hb dX4_init_55 rfl (lv_at hl 1 rfl) ?_
  refine lv_iload_n hx hb dX4_init_56 rfl (lv_at hl 0 rfl) ?_
  refine lv_iload_n hx hb dX4_init_57 rfl (lv_at hl 0 rfl) ?_
  refine lv_iload_n hx hb dX4_init_58 rfl (lv_at hl 1 rfl) ?_
  refine zr_i (zr_S (own := "HideReader$Lattice") (As := [.int 5, .int 6]) (rest := [.int 5, .int 6, .ref q_1]) (ws := []) hx hb hml hown hts hK noX_stb (fun _ _ _ => trivial) (c_X4_movedStroke_18 l D k 5) ck_X4_movedStroke uw_2_30 uw_2_29 (zs_P hP [] rfl) rfl hl.1 rfl (Nat.le_of_ble_eq_true rfl) dX4_init_59 ⟨Nat.le_of_ble_eq_true rfl, Nat.le_of_ble_eq_true rfl⟩ ⟨Nat.le_of_ble_eq_true rfl, Nat.le_of_ble_eq_true rfl⟩) (fun r_168 hr_168 => ?_)
  refine zm_v (wr := [(h0, .inr (4, [.ref q_1, .ref q_2, .ref q_3, .int 1])), (q_3, .inl (k 0, 8, .inl (fun _ => 0))), (q_2, .inl (k 0, 512, .inl u_167))]) hP hD hS hA [2] [0, 1, 3] (zm_S (own := "HideReader$Lattice") (As := [.ref q_1, .int 6, .int 5, .int r_168]) (rest := []) (ws := [(q_1, .inl (k 0, 512, .inl u_165))]) hx hb hml hown hts hK noX_stb (fun _ _ _ => trivial) (c_X4_enter l D k q_1 6 5 32 (by decide) (by decide) (by decide) r_168 u_165) ck_X4_enter uw_2_33 uw_2_32 hP hD [2] rfl (by decide) rfl hl.1 rfl (Nat.le_of_ble_eq_true rfl) dX4_init_62 ⟨Nat.le_of_ble_eq_true rfl, Nat.le_of_ble_eq_true rfl⟩ ⟨Nat.le_of_ble_eq_true rfl, Nat.le_of_ble_eq_true rfl⟩) rfl rfl (by decide) (by decide) (fun u_169 H locs hu_169 hP hD hS => ?_)
  have hP : va_P D vwCl [(h0, .inr (4, [.ref q_1, .ref q_2, .ref q_3, .int 1])), (q_3, .inl (k 0, 8, .inl (fun _ => 0))), (q_2, .inl (k 0, 512, .inl u_167)), (q_1, .inl (k 0, 512, .inl u_169))] H := hP
  have hD : va_D A [(h0, .inr (4, [.ref q_1, .ref q_2, .ref q_3, .int 1])), (q_3, .inl (k 0, 8, .inl (fun _ => 0))), (q_2, .inl (k 0, 512, .inl u_167)), (q_1, .inl (k 0, 512, .inl u_169))] := hD
  have hLow : ∀ j, j < 64 → u_169 j = nI j := en_k hu_169 (by decide) hLow
  refine lv_aload_n hx hb dX4_init_65 rfl (lv_at hl 2 rfl) ?_
  refine va_get (D := D) (ci := 4) (v := .ref q_2) (C := RX4) (T := TX4) (N := 4) hx hb hts uc_4 hown hK hP 0 rfl rfl 1 (by decide) (hts _ uw_2_36) (fun _ h9 => h9) rfl dX4_init_66 ?_
  refine lv_iload_n hx hb dX4_init_69 rfl (lv_at hl 1 rfl) ?_
  refine lv_iload_n hx hb dX4_init_70 rfl (lv_at hl 0 rfl) ?_
  refine lv_iload_n hx hb dX4_init_71 rfl (lv_at hl 0 rfl) ?_
  refine lv_bipush (v := 6) hx hb dX4_init_72 (by decide) ?_
  refine lv_iadd hx hb dX4_init_74 ?_
  refine lv_topc 11 (by decide) ?_
  refine lv_iload_n hx hb dX4_init_75 rfl (lv_at hl 1 rfl) ?_
  refine zr_i (zr_S (own := "HideReader$Lattice") (As := [.int 11, .int 6]) (rest := [.int 5, .int 6, .ref q_2]) (ws := []) hx hb hml hown hts hK noX_stb (fun _ _ _ => trivial) (c_X4_movedStroke_18 l D k 11) ck_X4_movedStroke uw_2_30 uw_2_29 (zs_P hP [] rfl) rfl hl.1 rfl (Nat.le_of_ble_eq_true rfl) dX4_init_76 ⟨Nat.le_of_ble_eq_true rfl, Nat.le_of_ble_eq_true rfl⟩ ⟨Nat.le_of_ble_eq_true rfl, Nat.le_of_ble_eq_true rfl⟩) (fun r_170 hr_170 => ?_)
  refine zm_v (wr := [(h0, .inr (4, [.ref q_1, .ref q_2, .ref q_3, .int 1])), (q_3, .inl (k 0, 8, .inl (fun _ => 0))), (q_1, .inl (k 0, 512, .inl u_169))]) hP hD hS hA [2] [0, 1, 3] (zm_S (own := "HideReader$Lattice") (As := [.ref q_2, .int 6, .int 5, .int r_170]) (rest := []) (ws := [(q_2, .inl (k 0, 512, .inl u_167))]) hx hb hml hown hts hK noX_stb (fun _ _ _ => trivial) (c_X4_enter l D k q_2 6 5 32 (by decide) (by decide) (by decide) r_170 u_167) ck_X4_enter uw_2_33 uw_2_32 hP hD [2] rfl (by decide) rfl hl.1 rfl (Nat.le_of_ble_eq_true rfl) dX4_init_79 ⟨Nat.le_of_ble_eq_true rfl, Nat.le_of_ble_eq_true rfl⟩ ⟨Nat.le_of_ble_eq_true rfl, Nat.le_of_ble_eq_true rfl⟩) rfl rfl (by decide) (by decide) (fun u_171 H locs hu_171 hP hD hS => ?_)
  have hP : va_P D vwCl [(h0, .inr (4, [.ref q_1, .ref q_2, .ref q_3, .int 1])), (q_3, .inl (k 0, 8, .inl (fun _ => 0))), (q_1, .inl (k 0, 512, .inl u_169)), (q_2, .inl (k 0, 512, .inl u_171))] H := hP
  have hD : va_D A [(h0, .inr (4, [.ref q_1, .ref q_2, .ref q_3, .int 1])), (q_3, .inl (k 0, 8, .inl (fun _ => 0))), (q_1, .inl (k 0, 512, .inl u_169)), (q_2, .inl (k 0, 512, .inl u_171))] := hD
  have hHigh : ∀ j, j < 64 → u_171 j = (fun j => nI j <<< ((6 : Int32) &&& 31)) j := en_k hu_171 (by decide) hHigh
  refine lv_iinc (v := 6) (lv' := [(2, .int 6), (1, .int 6), (0, .ref h0)]) hx hb dX4_init_82 hl (k := 0) rfl (by decide) (by decide) rfl (fun ls hl => ?_)
  refine lv_goto (tgt := 45) hx hb dX4_init_85 (by decide) ?_
  refine lv_iload_n hx hb dX4_init_45 rfl (lv_at hl 0 rfl) ?_
  refine lv_bipush (v := 6) hx hb dX4_init_46 (by decide) ?_
  refine lv_icmp_ge (tgt := 88) hx hb dX4_init_48 (by decide) (fun _ => ?_) (fun c9 => absurd (by decide) c9)
  refine lv_iinc (v := 7) (lv' := [(1, .int 7), (2, .int 6), (0, .ref h0)]) hx hb dX4_init_88 hl (k := 1) rfl (by decide) (by decide) rfl (fun ls hl => ?_)
  refine lv_goto (tgt := 37) hx hb dX4_init_91 (by decide) ?_
  refine lv_iload_n hx hb dX4_init_37 rfl (lv_at hl 0 rfl) ?_
  refine lv_bipush (v := 8) hx hb dX4_init_38 (by decide) ?_
  refine lv_icmp_ge (tgt := 94) hx hb dX4_init_40 (by decide) (fun c9 => absurd c9 (by decide)) (fun _ => ?_)
  refine lv_iconst (v := 0) hx hb dX4_init_43 (by decide) ?_
  refine lv_istore_n (lv' := [(2, .int 0), (1, .int 7), (0, .ref h0)]) hx hb dX4_init_44 rfl hl (by decide) rfl (fun ls hl => ?_)
  refine lv_iload_n hx hb dX4_init_45 rfl (lv_at hl 0 rfl) ?_
  refine lv_bipush (v := 6) hx hb dX4_init_46 (by decide) ?_
  refine lv_icmp_ge (tgt := 88) hx hb dX4_init_48 (by decide) (fun c9 => absurd c9 (by decide)) (fun _ => ?_)
  refine lv_aload_n hx hb dX4_init_51 rfl (lv_at hl 2 rfl) ?_
  refine va_get (D := D) (ci := 4) (v := .ref q_1) (C := RX4) (T := TX4) (N := 4) hx hb hts uc_4 hown hK hP 0 rfl rfl 0 (by decide) (hts _ uw_2_35) (fun _ h9 => h9) rfl dX4_init_52 ?_
  refine lv_iload_n hx hb dX4_init_55 rfl (lv_at hl 1 rfl) ?_
  refine lv_iload_n hx hb dX4_init_56 rfl (lv_at hl 0 rfl) ?_
  refine lv_iload_n hx hb dX4_init_57 rfl (lv_at hl 0 rfl) ?_
  refine lv_iload_n hx hb dX4_init_58 rfl (lv_at hl 1 rfl) ?_
  refine zr_i (zr_S (own := "HideReader$Lattice") (As := [.int 0, .int 7]) (rest := [.int 0, .int 7, .ref q_1]) (ws := []) hx hb hml hown hts hK noX_stb (fun _ _ _ => trivial) (c_X4_movedStroke_19 l D k 0) ck_X4_movedStroke uw_2_30 uw_2_29 (zs_P hP [] rfl) rfl hl.1 rfl (Nat.le_of_ble_eq_true rfl) dX4_init_59 ⟨Nat.le_of_ble_eq_true rfl, Nat.le_of_ble_eq_true rfl⟩ ⟨Nat.le_of_ble_eq_true rfl, Nat.le_of_ble_eq_true rfl⟩) (fun r_172 hr_172 => ?_)
  refine zm_v (wr := [(h0, .inr (4, [.ref q_1, .ref q_2, .ref q_3, .int 1])), (q_3, .inl (k 0, 8, .inl (fun _ => 0))), (q_2, .inl (k 0, 512, .inl u_171))]) hP hD hS hA [2] [0, 1, 3] (zm_S (own := "HideReader$Lattice") (As := [.ref q_1, .int 7, .int 0, .int r_172]) (rest := []) (ws := [(q_1, .inl (k 0, 512, .inl u_169))]) hx hb hml hown hts hK noX_stb (fun _ _ _ => trivial) (c_X4_enter l D k q_1 7 0 1 (by decide) (by decide) (by decide) r_172 u_169) ck_X4_enter uw_2_33 uw_2_32 hP hD [2] rfl (by decide) rfl hl.1 rfl (Nat.le_of_ble_eq_true rfl) dX4_init_62 ⟨Nat.le_of_ble_eq_true rfl, Nat.le_of_ble_eq_true rfl⟩ ⟨Nat.le_of_ble_eq_true rfl, Nat.le_of_ble_eq_true rfl⟩) rfl rfl (by decide) (by decide) (fun u_173 H locs hu_173 hP hD hS => ?_)
  have hP : va_P D vwCl [(h0, .inr (4, [.ref q_1, .ref q_2, .ref q_3, .int 1])), (q_3, .inl (k 0, 8, .inl (fun _ => 0))), (q_2, .inl (k 0, 512, .inl u_171)), (q_1, .inl (k 0, 512, .inl u_173))] H := hP
  have hD : va_D A [(h0, .inr (4, [.ref q_1, .ref q_2, .ref q_3, .int 1])), (q_3, .inl (k 0, 8, .inl (fun _ => 0))), (q_2, .inl (k 0, 512, .inl u_171)), (q_1, .inl (k 0, 512, .inl u_173))] := hD
  have hLow : ∀ j, j < 64 → u_173 j = nI j := en_k hu_173 (by decide) hLow
  refine lv_aload_n hx hb dX4_init_65 rfl (lv_at hl 2 rfl) ?_
  refine va_get (D := D) (ci := 4) (v := .ref q_2) (C := RX4) (T := TX4) (N := 4) hx hb hts uc_4 hown hK hP 0 rfl rfl 1 (by decide) (hts _ uw_2_36) (fun _ h9 => h9) rfl dX4_init_66 ?_
  refine lv_iload_n hx hb dX4_init_69 rfl (lv_at hl 1 rfl) ?_
  refine lv_iload_n hx hb dX4_init_70 rfl (lv_at hl 0 rfl) ?_
  refine lv_iload_n hx hb dX4_init_71 rfl (lv_at hl 0 rfl) ?_
  refine lv_bipush (v := 6) hx hb dX4_init_72 (by decide) ?_
  refine lv_iadd hx hb dX4_init_74 ?_
  refine lv_topc 6 (by decide) ?_
  refine lv_iload_n hx hb dX4_init_75 rfl (lv_at hl 1 rfl) ?_
  refine zr_i (zr_S (own := "HideReader$Lattice") (As := [.int 6, .int 7]) (rest := [.int 0, .int 7, .ref q_2]) (ws := []) hx hb hml hown hts hK noX_stb (fun _ _ _ => trivial) (c_X4_movedStroke_19 l D k 6) ck_X4_movedStroke uw_2_30 uw_2_29 (zs_P hP [] rfl) rfl hl.1 rfl (Nat.le_of_ble_eq_true rfl) dX4_init_76 ⟨Nat.le_of_ble_eq_true rfl, Nat.le_of_ble_eq_true rfl⟩ ⟨Nat.le_of_ble_eq_true rfl, Nat.le_of_ble_eq_true rfl⟩) (fun r_174 hr_174 => ?_)
  refine zm_v (wr := [(h0, .inr (4, [.ref q_1, .ref q_2, .ref q_3, .int 1])), (q_3, .inl (k 0, 8, .inl (fun _ => 0))), (q_1, .inl (k 0, 512, .inl u_173))]) hP hD hS hA [2] [0, 1, 3] (zm_S (own := "HideReader$Lattice") (As := [.ref q_2, .int 7, .int 0, .int r_174]) (rest := []) (ws := [(q_2, .inl (k 0, 512, .inl u_171))]) hx hb hml hown hts hK noX_stb (fun _ _ _ => trivial) (c_X4_enter l D k q_2 7 0 1 (by decide) (by decide) (by decide) r_174 u_171) ck_X4_enter uw_2_33 uw_2_32 hP hD [2] rfl (by decide) rfl hl.1 rfl (Nat.le_of_ble_eq_true rfl) dX4_init_79 ⟨Nat.le_of_ble_eq_true rfl, Nat.le_of_ble_eq_true rfl⟩ ⟨Nat.le_of_ble_eq_true rfl, Nat.le_of_ble_eq_true rfl⟩) rfl rfl (by decide) (by decide) (fun u_175 H locs hu_175 hP hD hS => ?_)
  have hP : va_P D vwCl [(h0, .inr (4, [.ref q_1, .ref q_2, .ref q_3, .int 1])), (q_3, .inl (k 0, 8, .inl (fun _ => 0))), (q_1, .inl (k 0, 512, .inl u_173)), (q_2, .inl (k 0, 512, .inl u_175))] H := hP
  have hD : va_D A [(h0, .inr (4, [.ref q_1, .ref q_2, .ref q_3, .int 1])), (q_3, .inl (k 0, 8, .inl (fun _ => 0))), (q_1, .inl (k 0, 512, .inl u_173)), (q_2, .inl (k 0, 512, .inl u_175))] := hD
  have hHigh : ∀ j, j < 64 → u_175 j = (fun j => nI j <<< ((6 : Int32) &&& 31)) j := en_k hu_175 (by decide) hHigh
  refine lv_iinc (v := 1) (lv' := [(2, .int 1), (1, .int 7), (0, .ref h0)]) hx hb dX4_init_82 hl (k := 0) rfl (by decide) (by decide) rfl (fun ls hl => ?_)
  refine lv_goto (tgt := 45) hx hb dX4_init_85 (by decide) ?_
  refine lv_iload_n hx hb dX4_init_45 rfl (lv_at hl 0 rfl) ?_
  refine lv_bipush (v := 6) hx hb dX4_init_46 (by decide) ?_
  refine lv_icmp_ge (tgt := 88) hx hb dX4_init_48 (by decide) (fun c9 => absurd c9 (by decide)) (fun _ => ?_)
  refine lv_aload_n hx hb dX4_init_51 rfl (lv_at hl 2 rfl) ?_
  refine va_get (D := D) (ci := 4) (v := .ref q_1) (C := RX4) (T := TX4) (N := 4) hx hb hts uc_4 hown hK hP 0 rfl rfl 0 (by decide) (hts _ uw_2_35) (fun _ h9 => h9) rfl dX4_init_52 ?_
  refine lv_iload_n hx hb dX4_init_55 rfl (lv_at hl 1 rfl) ?_
  refine lv_iload_n hx hb dX4_init_56 rfl (lv_at hl 0 rfl) ?_
  refine lv_iload_n hx hb dX4_init_57 rfl (lv_at hl 0 rfl) ?_
  refine lv_iload_n hx hb dX4_init_58 rfl (lv_at hl 1 rfl) ?_
  refine zr_i (zr_S (own := "HideReader$Lattice") (As := [.int 1, .int 7]) (rest := [.int 1, .int 7, .ref q_1]) (ws := []) hx hb hml hown hts hK noX_stb (fun _ _ _ => trivial) (c_X4_movedStroke_19 l D k 1) ck_X4_movedStroke uw_2_30 uw_2_29 (zs_P hP [] rfl) rfl hl.1 rfl (Nat.le_of_ble_eq_true rfl) dX4_init_59 ⟨Nat.le_of_ble_eq_true rfl, Nat.le_of_ble_eq_true rfl⟩ ⟨Nat.le_of_ble_eq_true rfl, Nat.le_of_ble_eq_true rfl⟩) (fun r_176 hr_176 => ?_)
  refine zm_v (wr := [(h0, .inr (4, [.ref q_1, .ref q_2, .ref q_3, .int 1])), (q_3, .inl (k 0, 8, .inl (fun _ => 0))), (q_2, .inl (k 0, 512, .inl u_175))]) hP hD hS hA [2] [0, 1, 3] (zm_S (own := "HideReader$Lattice") (As := [.ref q_1, .int 7, .int 1, .int r_176]) (rest := []) (ws := [(q_1, .inl (k 0, 512, .inl u_173))]) hx hb hml hown hts hK noX_stb (fun _ _ _ => trivial) (c_X4_enter l D k q_1 7 1 2 (by decide) (by decide) (by decide) r_176 u_173) ck_X4_enter uw_2_33 uw_2_32 hP hD [2] rfl (by decide) rfl hl.1 rfl (Nat.le_of_ble_eq_true rfl) dX4_init_62 ⟨Nat.le_of_ble_eq_true rfl, Nat.le_of_ble_eq_true rfl⟩ ⟨Nat.le_of_ble_eq_true rfl, Nat.le_of_ble_eq_true rfl⟩) rfl rfl (by decide) (by decide) (fun u_177 H locs hu_177 hP hD hS => ?_)
  have hP : va_P D vwCl [(h0, .inr (4, [.ref q_1, .ref q_2, .ref q_3, .int 1])), (q_3, .inl (k 0, 8, .inl (fun _ => 0))), (q_2, .inl (k 0, 512, .inl u_175)), (q_1, .inl (k 0, 512, .inl u_177))] H := hP
  have hD : va_D A [(h0, .inr (4, [.ref q_1, .ref q_2, .ref q_3, .int 1])), (q_3, .inl (k 0, 8, .inl (fun _ => 0))), (q_2, .inl (k 0, 512, .inl u_175)), (q_1, .inl (k 0, 512, .inl u_177))] := hD
  have hLow : ∀ j, j < 64 → u_177 j = nI j := en_k hu_177 (by decide) hLow
  refine lv_aload_n hx hb dX4_init_65 rfl (lv_at hl 2 rfl) ?_
  refine va_get (D := D) (ci := 4) (v := .ref q_2) (C := RX4) (T := TX4) (N := 4) hx hb hts uc_4 hown hK hP 0 rfl rfl 1 (by decide) (hts _ uw_2_36) (fun _ h9 => h9) rfl dX4_init_66 ?_
  refine lv_iload_n hx hb dX4_init_69 rfl (lv_at hl 1 rfl) ?_
  refine lv_iload_n hx hb dX4_init_70 rfl (lv_at hl 0 rfl) ?_
  refine lv_iload_n hx hb dX4_init_71 rfl (lv_at hl 0 rfl) ?_
  refine lv_bipush (v := 6) hx hb dX4_init_72 (by decide) ?_
  refine lv_iadd hx hb dX4_init_74 ?_
  refine lv_topc 7 (by decide) ?_
  refine lv_iload_n hx hb dX4_init_75 rfl (lv_at hl 1 rfl) ?_
  refine zr_i (zr_S (own := "HideReader$Lattice") (As := [.int 7, .int 7]) (rest := [.int 1, .int 7, .ref q_2]) (ws := []) hx hb hml hown hts hK noX_stb (fun _ _ _ => trivial) (c_X4_movedStroke_19 l D k 7) ck_X4_movedStroke uw_2_30 uw_2_29 (zs_P hP [] rfl) rfl hl.1 rfl (Nat.le_of_ble_eq_true rfl) dX4_init_76 ⟨Nat.le_of_ble_eq_true rfl, Nat.le_of_ble_eq_true rfl⟩ ⟨Nat.le_of_ble_eq_true rfl, Nat.le_of_ble_eq_true rfl⟩) (fun r_178 hr_178 => ?_)
  refine zm_v (wr := [(h0, .inr (4, [.ref q_1, .ref q_2, .ref q_3, .int 1])), (q_3, .inl (k 0, 8, .inl (fun _ => 0))), (q_1, .inl (k 0, 512, .inl u_177))]) hP hD hS hA [2] [0, 1, 3] (zm_S (own := "HideReader$Lattice") (As := [.ref q_2, .int 7, .int 1, .int r_178]) (rest := []) (ws := [(q_2, .inl (k 0, 512, .inl u_175))]) hx hb hml hown hts hK noX_stb (fun _ _ _ => trivial) (c_X4_enter l D k q_2 7 1 2 (by decide) (by decide) (by decide) r_178 u_175) ck_X4_enter uw_2_33 uw_2_32 hP hD [2] rfl (by decide) rfl hl.1 rfl (Nat.le_of_ble_eq_true rfl) dX4_init_79 ⟨Nat.le_of_ble_eq_true rfl, Nat.le_of_ble_eq_true rfl⟩ ⟨Nat.le_of_ble_eq_true rfl, Nat.le_of_ble_eq_true rfl⟩) rfl rfl (by decide) (by decide) (fun u_179 H locs hu_179 hP hD hS => ?_)
  have hP : va_P D vwCl [(h0, .inr (4, [.ref q_1, .ref q_2, .ref q_3, .int 1])), (q_3, .inl (k 0, 8, .inl (fun _ => 0))), (q_1, .inl (k 0, 512, .inl u_177)), (q_2, .inl (k 0, 512, .inl u_179))] H := hP
  have hD : va_D A [(h0, .inr (4, [.ref q_1, .ref q_2, .ref q_3, .int 1])), (q_3, .inl (k 0, 8, .inl (fun _ => 0))), (q_1, .inl (k 0, 512, .inl u_177)), (q_2, .inl (k 0, 512, .inl u_179))] := hD
  have hHigh : ∀ j, j < 64 → u_179 j = (fun j => nI j <<< ((6 : Int32) &&& 31)) j := en_k hu_179 (by decide) hHigh
  refine lv_iinc (v := 2) (lv' := [(2, .int 2), (1, .int 7), (0, .ref h0)]) hx hb dX4_init_82 hl (k := 0) rfl (by decide) (by decide) rfl (fun ls hl => ?_)
  refine lv_goto (tgt := 45) hx hb dX4_init_85 (by decide) ?_
  refine lv_iload_n hx hb dX4_init_45 rfl (lv_at hl 0 rfl) ?_
  refine lv_bipush (v := 6) hx hb dX4_init_46 (by decide) ?_
  refine lv_icmp_ge (tgt := 88) hx hb dX4_init_48 (by decide) (fun c9 => absurd c9 (by decide)) (fun _ => ?_)
  refine lv_aload_n hx hb dX4_init_51 rfl (lv_at hl 2 rfl) ?_
  refine va_get (D := D) (ci := 4) (v := .ref q_1) (C := RX4) (T := TX4) (N := 4) hx hb hts uc_4 hown hK hP 0 rfl rfl 0 (by decide) (hts _ uw_2_35) (fun _ h9 => h9) rfl dX4_init_52 ?_
  refine lv_iload_n hx hb dX4_init_55 rfl (lv_at hl 1 rfl) ?_
  refine lv_iload_n hx hb dX4_init_56 rfl (lv_at hl 0 rfl) ?_
  refine lv_iload_n hx hb dX4_init_57 rfl (lv_at hl 0 rfl) ?_
  refine lv_iload_n hx hb dX4_init_58 rfl (lv_at hl 1 rfl) ?_
  refine zr_i (zr_S (own := "HideReader$Lattice") (As := [.int 2, .int 7]) (rest := [.int 2, .int 7, .ref q_1]) (ws := []) hx hb hml hown hts hK noX_stb (fun _ _ _ => trivial) (c_X4_movedStroke_19 l D k 2) ck_X4_movedStroke uw_2_30 uw_2_29 (zs_P hP [] rfl) rfl hl.1 rfl (Nat.le_of_ble_eq_true rfl) dX4_init_59 ⟨Nat.le_of_ble_eq_true rfl, Nat.le_of_ble_eq_true rfl⟩ ⟨Nat.le_of_ble_eq_true rfl, Nat.le_of_ble_eq_true rfl⟩) (fun r_180 hr_180 => ?_)
  refine zm_v (wr := [(h0, .inr (4, [.ref q_1, .ref q_2, .ref q_3, .int 1])), (q_3, .inl (k 0, 8, .inl (fun _ => 0))), (q_2, .inl (k 0, 512, .inl u_179))]) hP hD hS hA [2] [0, 1, 3] (zm_S (own := "HideReader$Lattice") (As := [.ref q_1, .int 7, .int 2, .int r_180]) (rest := []) (ws := [(q_1, .inl (k 0, 512, .inl u_177))]) hx hb hml hown hts hK noX_stb (fun _ _ _ => trivial) (c_X4_enter l D k q_1 7 2 4 (by decide) (by decide) (by decide) r_180 u_177) ck_X4_enter uw_2_33 uw_2_32 hP hD [2] rfl (by decide) rfl hl.1 rfl (Nat.le_of_ble_eq_true rfl) dX4_init_62 ⟨Nat.le_of_ble_eq_true rfl, Nat.le_of_ble_eq_true rfl⟩ ⟨Nat.le_of_ble_eq_true rfl, Nat.le_of_ble_eq_true rfl⟩) rfl rfl (by decide) (by decide) (fun u_181 H locs hu_181 hP hD hS => ?_)
  have hP : va_P D vwCl [(h0, .inr (4, [.ref q_1, .ref q_2, .ref q_3, .int 1])), (q_3, .inl (k 0, 8, .inl (fun _ => 0))), (q_2, .inl (k 0, 512, .inl u_179)), (q_1, .inl (k 0, 512, .inl u_181))] H := hP
  have hD : va_D A [(h0, .inr (4, [.ref q_1, .ref q_2, .ref q_3, .int 1])), (q_3, .inl (k 0, 8, .inl (fun _ => 0))), (q_2, .inl (k 0, 512, .inl u_179)), (q_1, .inl (k 0, 512, .inl u_181))] := hD
  have hLow : ∀ j, j < 64 → u_181 j = nI j := en_k hu_181 (by decide) hLow
  refine lv_aload_n hx hb dX4_init_65 rfl (lv_at hl 2 rfl) ?_
  refine va_get (D := D) (ci := 4) (v := .ref q_2) (C := RX4) (T := TX4) (N := 4) hx hb hts uc_4 hown hK hP 0 rfl rfl 1 (by decide) (hts _ uw_2_36) (fun _ h9 => h9) rfl dX4_init_66 ?_
  refine lv_iload_n hx hb dX4_init_69 rfl (lv_at hl 1 rfl) ?_
  refine lv_iload_n hx hb dX4_init_70 rfl (lv_at hl 0 rfl) ?_
  refine lv_iload_n hx hb dX4_init_71 rfl (lv_at hl 0 rfl) ?_
  refine lv_bipush (v := 6) hx hb dX4_init_72 (by decide) ?_
  refine lv_iadd hx hb dX4_init_74 ?_
  refine lv_topc 8 (by decide) ?_
  refine lv_iload_n hx hb dX4_init_75 rfl (lv_at hl 1 rfl) ?_
  refine zr_i (zr_S (own := "HideReader$Lattice") (As := [.int 8, .int 7]) (rest := [.int 2, .int 7, .ref q_2]) (ws := []) hx hb hml hown hts hK noX_stb (fun _ _ _ => trivial) (c_X4_movedStroke_19 l D k 8) ck_X4_movedStroke uw_2_30 uw_2_29 (zs_P hP [] rfl) rfl hl.1 rfl (Nat.le_of_ble_eq_true rfl) dX4_init_76 ⟨Nat.le_of_ble_eq_true rfl, Nat.le_of_ble_eq_true rfl⟩ ⟨Nat.le_of_ble_eq_true rfl, Nat.le_of_ble_eq_true rfl⟩) (fun r_182 hr_182 => ?_)
  refine zm_v (wr := [(h0, .inr (4, [.ref q_1, .ref q_2, .ref q_3, .int 1])), (q_3, .inl (k 0, 8, .inl (fun _ => 0))), (q_1, .inl (k 0, 512, .inl u_181))]) hP hD hS hA [2] [0, 1, 3] (zm_S (own := "HideReader$Lattice") (As := [.ref q_2, .int 7, .int 2, .int r_182]) (rest := []) (ws := [(q_2, .inl (k 0, 512, .inl u_179))]) hx hb hml hown hts hK noX_stb (fun _ _ _ => trivial) (c_X4_enter l D k q_2 7 2 4 (by decide) (by decide) (by decide) r_182 u_179) ck_X4_enter uw_2_33 uw_2_32 hP hD [2] rfl (by decide) rfl hl.1 rfl (Nat.le_of_ble_eq_true rfl) dX4_init_79 ⟨Nat.le_of_ble_eq_true rfl, Nat.le_of_ble_eq_true rfl⟩ ⟨Nat.le_of_ble_eq_true rfl, Nat.le_of_ble_eq_true rfl⟩) rfl rfl (by decide) (by decide) (fun u_183 H locs hu_183 hP hD hS => ?_)
  have hP : va_P D vwCl [(h0, .inr (4, [.ref q_1, .ref q_2, .ref q_3, .int 1])), (q_3, .inl (k 0, 8, .inl (fun _ => 0))), (q_1, .inl (k 0, 512, .inl u_181)), (q_2, .inl (k 0, 512, .inl u_183))] H := hP
  have hD : va_D A [(h0, .inr (4, [.ref q_1, .ref q_2, .ref q_3, .int 1])), (q_3, .inl (k 0, 8, .inl (fun _ => 0))), (q_1, .inl (k 0, 512, .inl u_181)), (q_2, .inl (k 0, 512, .inl u_183))] := hD
  have hHigh : ∀ j, j < 64 → u_183 j = (fun j => nI j <<< ((6 : Int32) &&& 31)) j := en_k hu_183 (by decide) hHigh
  refine lv_iinc (v := 3) (lv' := [(2, .int 3), (1, .int 7), (0, .ref h0)]) hx hb dX4_init_82 hl (k := 0) rfl (by decide) (by decide) rfl (fun ls hl => ?_)
  refine lv_goto (tgt := 45) hx hb dX4_init_85 (by decide) ?_
  refine lv_iload_n hx hb dX4_init_45 rfl (lv_at hl 0 rfl) ?_
  refine lv_bipush (v := 6) hx hb dX4_init_46 (by decide) ?_
  refine lv_icmp_ge (tgt := 88) hx hb dX4_init_48 (by decide) (fun c9 => absurd c9 (by decide)) (fun _ => ?_)
  refine lv_aload_n hx hb dX4_init_51 rfl (lv_at hl 2 rfl) ?_
  refine va_get (D := D) (ci := 4) (v := .ref q_1) (C := RX4) (T := TX4) (N := 4) hx hb hts uc_4 hown hK hP 0 rfl rfl 0 (by decide) (hts _ uw_2_35) (fun _ h9 => h9) rfl dX4_init_52 ?_
  refine lv_iload_n hx hb dX4_init_55 rfl (lv_at hl 1 rfl) ?_
  refine lv_iload_n hx hb dX4_init_56 rfl (lv_at hl 0 rfl) ?_
  refine lv_iload_n hx hb dX4_init_57 rfl (lv_at hl 0 rfl) ?_
  refine lv_iload_n hx hb dX4_init_58 rfl (lv_at hl 1 rfl) ?_
  refine zr_i (zr_S (own := "HideReader$Lattice") (As := [.int 3, .int 7]) (rest := [.int 3, .int 7, .ref q_1]) (ws := []) hx hb hml hown hts hK noX_stb (fun _ _ _ => trivial) (c_X4_movedStroke_19 l D k 3) ck_X4_movedStroke uw_2_30 uw_2_29 (zs_P hP [] rfl) rfl hl.1 rfl (Nat.le_of_ble_eq_true rfl) dX4_init_59 ⟨Nat.le_of_ble_eq_true rfl, Nat.le_of_ble_eq_true rfl⟩ ⟨Nat.le_of_ble_eq_true rfl, Nat.le_of_ble_eq_true rfl⟩) (fun r_184 hr_184 => ?_)
  refine zm_v (wr := [(h0, .inr (4, [.ref q_1, .ref q_2, .ref q_3, .int 1])), (q_3, .inl (k 0, 8, .inl (fun _ => 0))), (q_2, .inl (k 0, 512, .inl u_183))]) hP hD hS hA [2] [0, 1, 3] (zm_S (own := "HideReader$Lattice") (As := [.ref q_1, .int 7, .int 3, .int r_184]) (rest := []) (ws := [(q_1, .inl (k 0, 512, .inl u_181))]) hx hb hml hown hts hK noX_stb (fun _ _ _ => trivial) (c_X4_enter l D k q_1 7 3 8 (by decide) (by decide) (by decide) r_184 u_181) ck_X4_enter uw_2_33 uw_2_32 hP hD [2] rfl (by decide) rfl hl.1 rfl (Nat.le_of_ble_eq_true rfl) dX4_init_62 ⟨Nat.le_of_ble_eq_true rfl, Nat.le_of_ble_eq_true rfl⟩ ⟨Nat.le_of_ble_eq_true rfl, Nat.le_of_ble_eq_true rfl⟩) rfl rfl (by decide) (by decide) (fun u_185 H locs hu_185 hP hD hS => ?_)
  have hP : va_P D vwCl [(h0, .inr (4, [.ref q_1, .ref q_2, .ref q_3, .int 1])), (q_3, .inl (k 0, 8, .inl (fun _ => 0))), (q_2, .inl (k 0, 512, .inl u_183)), (q_1, .inl (k 0, 512, .inl u_185))] H := hP
  have hD : va_D A [(h0, .inr (4, [.ref q_1, .ref q_2, .ref q_3, .int 1])), (q_3, .inl (k 0, 8, .inl (fun _ => 0))), (q_2, .inl (k 0, 512, .inl u_183)), (q_1, .inl (k 0, 512, .inl u_185))] := hD
  have hLow : ∀ j, j < 64 → u_185 j = nI j := en_k hu_185 (by decide) hLow
  refine lv_aload_n hx hb dX4_init_65 rfl (lv_at hl 2 rfl) ?_
  refine va_get (D := D) (ci := 4) (v := .ref q_2) (C := RX4) (T := TX4) (N := 4) hx hb hts uc_4 hown hK hP 0 rfl rfl 1 (by decide) (hts _ uw_2_36) (fun _ h9 => h9) rfl dX4_init_66 ?_
  refine lv_iload_n hx hb dX4_init_69 rfl (lv_at hl 1 rfl) ?_
  refine lv_iload_n hx hb dX4_init_70 rfl (lv_at hl 0 rfl) ?_
  refine lv_iload_n hx hb dX4_init_71 rfl (lv_at hl 0 rfl) ?_
  refine lv_bipush (v := 6) hx hb dX4_init_72 (by decide) ?_
  refine lv_iadd hx hb dX4_init_74 ?_
  refine lv_topc 9 (by decide) ?_
  refine lv_iload_n hx hb dX4_init_75 rfl (lv_at hl 1 rfl) ?_
  refine zr_i (zr_S (own := "HideReader$Lattice") (As := [.int 9, .int 7]) (rest := [.int 3, .int 7, .ref q_2]) (ws := []) hx hb hml hown hts hK noX_stb (fun _ _ _ => trivial) (c_X4_movedStroke_19 l D k 9) ck_X4_movedStroke uw_2_30 uw_2_29 (zs_P hP [] rfl) rfl hl.1 rfl (Nat.le_of_ble_eq_true rfl) dX4_init_76 ⟨Nat.le_of_ble_eq_true rfl, Nat.le_of_ble_eq_true rfl⟩ ⟨Nat.le_of_ble_eq_true rfl, Nat.le_of_ble_eq_true rfl⟩) (fun r_186 hr_186 => ?_)
  refine zm_v (wr := [(h0, .inr (4, [.ref q_1, .ref q_2, .ref q_3, .int 1])), (q_3, .inl (k 0, 8, .inl (fun _ => 0))), (q_1, .inl (k 0, 512, .inl u_185))]) hP hD hS hA [2] [0, 1, 3] (zm_S (own := "HideReader$Lattice") (As := [.ref q_2, .int 7, .int 3, .int r_186]) (rest := []) (ws := [(q_2, .inl (k 0, 512, .inl u_183))]) hx hb hml hown hts hK noX_stb (fun _ _ _ => trivial) (c_X4_enter l D k q_2 7 3 8 (by decide) (by decide) (by decide) r_186 u_183) ck_X4_enter uw_2_33 uw_2_32 hP hD [2] rfl (by decide) rfl hl.1 rfl (Nat.le_of_ble_eq_true rfl) dX4_init_79 ⟨Nat.le_of_ble_eq_true rfl, Nat.le_of_ble_eq_true rfl⟩ ⟨Nat.le_of_ble_eq_true rfl, Nat.le_of_ble_eq_true rfl⟩) rfl rfl (by decide) (by decide) (fun u_187 H locs hu_187 hP hD hS => ?_)
  have hP : va_P D vwCl [(h0, .inr (4, [.ref q_1, .ref q_2, .ref q_3, .int 1])), (q_3, .inl (k 0, 8, .inl (fun _ => 0))), (q_1, .inl (k 0, 512, .inl u_185)), (q_2, .inl (k 0, 512, .inl u_187))] H := hP
  have hD : va_D A [(h0, .inr (4, [.ref q_1, .ref q_2, .ref q_3, .int 1])), (q_3, .inl (k 0, 8, .inl (fun _ => 0))), (q_1, .inl (k 0, 512, .inl u_185)), (q_2, .inl (k 0, 512, .inl u_187))] := hD
  have hHigh : ∀ j, j < 64 → u_187 j = (fun j => nI j <<< ((6 : Int32) &&& 31)) j := en_k hu_187 (by decide) hHigh
  refine lv_iinc (v := 4) (lv' := [(2, .int 4), (1, .int 7), (0, .ref h0)]) hx hb dX4_init_82 hl (k := 0) rfl (by decide) (by decide) rfl (fun ls hl => ?_)
  refine lv_goto (tgt := 45) hx hb dX4_init_85 (by decide) ?_
  refine lv_iload_n hx hb dX4_init_45 rfl (lv_at hl 0 rfl) ?_
  refine lv_bipush (v := 6) hx hb dX4_init_46 (by decide) ?_
  refine lv_icmp_ge (tgt := 88) hx hb dX4_init_48 (by decide) (fun c9 => absurd c9 (by decide)) (fun _ => ?_)
  refine lv_aload_n hx hb dX4_init_51 rfl (lv_at hl 2 rfl) ?_
  refine va_get (D := D) (ci := 4) (v := .ref q_1) (C := RX4) (T := TX4) (N := 4) hx hb hts uc_4 hown hK hP 0 rfl rfl 0 (by decide) (hts _ uw_2_35) (fun _ h9 => h9) rfl dX4_init_52 ?_
  refine lv_iload_n hx hb dX4_init_55 rfl (lv_at hl 1 rfl) ?_
  refine lv_iload_n hx hb dX4_init_56 rfl (lv_at hl 0 rfl) ?_
  refine lv_iload_n hx hb dX4_init_57 rfl (lv_at hl 0 rfl) ?_
  refine lv_iload_n hx hb dX4_init_58 rfl (lv_at hl 1 rfl) ?_
  refine zr_i (zr_S (own := "HideReader$Lattice") (As := [.int 4, .int 7]) (rest := [.int 4, .int 7, .ref q_1]) (ws := []) hx hb hml hown hts hK noX_stb (fun _ _ _ => trivial) (c_X4_movedStroke_19 l D k 4) ck_X4_movedStroke uw_2_30 uw_2_29 (zs_P hP [] rfl) rfl hl.1 rfl (Nat.le_of_ble_eq_true rfl) dX4_init_59 ⟨Nat.le_of_ble_eq_true rfl, Nat.le_of_ble_eq_true rfl⟩ ⟨Nat.le_of_ble_eq_true rfl, Nat.le_of_ble_eq_true rfl⟩) (fun r_188 hr_188 => ?_)
  refine zm_v (wr := [(h0, .inr (4, [.ref q_1, .ref q_2, .ref q_3, .int 1])), (q_3, .inl (k 0, 8, .inl (fun _ => 0))), (q_2, .inl (k 0, 512, .inl u_187))]) hP hD hS hA [2] [0, 1, 3] (zm_S (own := "HideReader$Lattice") (As := [.ref q_1, .int 7, .int 4, .int r_188]) (rest := []) (ws := [(q_1, .inl (k 0, 512, .inl u_185))]) hx hb hml hown hts hK noX_stb (fun _ _ _ => trivial) (c_X4_enter l D k q_1 7 4 16 (by decide) (by decide) (by decide) r_188 u_185) ck_X4_enter uw_2_33 uw_2_32 hP hD [2] rfl (by decide) rfl hl.1 rfl (Nat.le_of_ble_eq_true rfl) dX4_init_62 ⟨Nat.le_of_ble_eq_true rfl, Nat.le_of_ble_eq_true rfl⟩ ⟨Nat.le_of_ble_eq_true rfl, Nat.le_of_ble_eq_true rfl⟩) rfl rfl (by decide) (by decide) (fun u_189 H locs hu_189 hP hD hS => ?_)
  have hP : va_P D vwCl [(h0, .inr (4, [.ref q_1, .ref q_2, .ref q_3, .int 1])), (q_3, .inl (k 0, 8, .inl (fun _ => 0))), (q_2, .inl (k 0, 512, .inl u_187)), (q_1, .inl (k 0, 512, .inl u_189))] H := hP
  have hD : va_D A [(h0, .inr (4, [.ref q_1, .ref q_2, .ref q_3, .int 1])), (q_3, .inl (k 0, 8, .inl (fun _ => 0))), (q_2, .inl (k 0, 512, .inl u_187)), (q_1, .inl (k 0, 512, .inl u_189))] := hD
  have hLow : ∀ j, j < 64 → u_189 j = nI j := en_k hu_189 (by decide) hLow
  refine lv_aload_n hx hb dX4_init_65 rfl (lv_at hl 2 rfl) ?_
  refine va_get (D := D) (ci := 4) (v := .ref q_2) (C := RX4) (T := TX4) (N := 4) hx hb hts uc_4 hown hK hP 0 rfl rfl 1 (by decide) (hts _ uw_2_36) (fun _ h9 => h9) rfl dX4_init_66 ?_
  refine lv_iload_n hx hb dX4_init_69 rfl (lv_at hl 1 rfl) ?_
  refine lv_iload_n hx hb dX4_init_70 rfl (lv_at hl 0 rfl) ?_
  refine lv_iload_n hx hb dX4_init_71 rfl (lv_at hl 0 rfl) ?_
  refine lv_bipush (v := 6) hx hb dX4_init_72 (by decide) ?_
  refine lv_iadd hx hb dX4_init_74 ?_
  refine lv_topc 10 (by decide) ?_
  refine lv_iload_n hx hb dX4_init_75 rfl (lv_at hl 1 rfl) ?_
  refine zr_i (zr_S (own := "HideReader$Lattice") (As := [.int 10, .int 7]) (rest := [.int 4, .int 7, .ref q_2]) (ws := []) hx hb hml hown hts hK noX_stb (fun _ _ _ => trivial) (c_X4_movedStroke_19 l D k 10) ck_X4_movedStroke uw_2_30 uw_2_29 (zs_P hP [] rfl) rfl hl.1 rfl (Nat.le_of_ble_eq_true rfl) dX4_init_76 ⟨Nat.le_of_ble_eq_true rfl, Nat.le_of_ble_eq_true rfl⟩ ⟨Nat.le_of_ble_eq_true rfl, Nat.le_of_ble_eq_true rfl⟩) (fun r_190 hr_190 => ?_)
  refine zm_v (wr := [(h0, .inr (4, [.ref q_1, .ref q_2, .ref q_3, .int 1])), (q_3, .inl (k 0, 8, .inl (fun _ => 0))), (q_1, .inl (k 0, 512, .inl u_189))]) hP hD hS hA [2] [0, 1, 3] (zm_S (own := "HideReader$Lattice") (As := [.ref q_2, .int 7, .int 4, .int r_190]) (rest := []) (ws := [(q_2, .inl (k 0, 512, .inl u_187))]) hx hb hml hown hts hK noX_stb (fun _ _ _ => trivial) (c_X4_enter l D k q_2 7 4 16 (by decide) (by decide) (by decide) r_190 u_187) ck_X4_enter uw_2_33 uw_2_32 hP hD [2] rfl (by decide) rfl hl.1 rfl (Nat.le_of_ble_eq_true rfl) dX4_init_79 ⟨Nat.le_of_ble_eq_true rfl, Nat.le_of_ble_eq_true rfl⟩ ⟨Nat.le_of_ble_eq_true rfl, Nat.le_of_ble_eq_true rfl⟩) rfl rfl (by decide) (by decide) (fun u_191 H locs hu_191 hP hD hS => ?_)
  have hP : va_P D vwCl [(h0, .inr (4, [.ref q_1, .ref q_2, .ref q_3, .int 1])), (q_3, .inl (k 0, 8, .inl (fun _ => 0))), (q_1, .inl (k 0, 512, .inl u_189)), (q_2, .inl (k 0, 512, .inl u_191))] H := hP
  have hD : va_D A [(h0, .inr (4, [.ref q_1, .ref q_2, .ref q_3, .int 1])), (q_3, .inl (k 0, 8, .inl (fun _ => 0))), (q_1, .inl (k 0, 512, .inl u_189)), (q_2, .inl (k 0, 512, .inl u_191))] := hD
  have hHigh : ∀ j, j < 64 → u_191 j = (fun j => nI j <<< ((6 : Int32) &&& 31)) j := en_k hu_191 (by decide) hHigh
  refine lv_iinc (v := 5) (lv' := [(2, .int 5), (1, .int 7), (0, .ref h0)]) hx hb dX4_init_82 hl (k := 0) rfl (by decide) (by decide) rfl (fun ls hl => ?_)
  refine lv_goto (tgt := 45) hx hb dX4_init_85 (by decide) ?_
  refine lv_iload_n hx hb dX4_init_45 rfl (lv_at hl 0 rfl) ?_
  refine lv_bipush (v := 6) hx hb dX4_init_46 (by decide) ?_
  refine lv_icmp_ge (tgt := 88) hx hb dX4_init_48 (by decide) (fun c9 => absurd c9 (by decide)) (fun _ => ?_)
  refine lv_aload_n hx hb dX4_init_51 rfl (lv_at hl 2 rfl) ?_
  refine va_get (D := D) (ci := 4) (v := .ref q_1) (C := RX4) (T := TX4) (N := 4) hx hb hts uc_4 hown hK hP 0 rfl rfl 0 (by decide) (hts _ uw_2_35) (fun _ h9 => h9) rfl dX4_init_52 ?_
  refine lv_iload_n hx hb dX4_init_55 rfl (lv_at hl 1 rfl) ?_
  refine lv_iload_n hx hb dX4_init_56 rfl (lv_at hl 0 rfl) ?_
  refine lv_iload_n hx hb dX4_init_57 rfl (lv_at hl 0 rfl) ?_
  refine lv_iload_n hx hb dX4_init_58 rfl (lv_at hl 1 rfl) ?_
  refine zr_i (zr_S (own := "HideReader$Lattice") (As := [.int 5, .int 7]) (rest := [.int 5, .int 7, .ref q_1]) (ws := []) hx hb hml hown hts hK noX_stb (fun _ _ _ => trivial) (c_X4_movedStroke_19 l D k 5) ck_X4_movedStroke uw_2_30 uw_2_29 (zs_P hP [] rfl) rfl hl.1 rfl (Nat.le_of_ble_eq_true rfl) dX4_init_59 ⟨Nat.le_of_ble_eq_true rfl, Nat.le_of_ble_eq_true rfl⟩ ⟨Nat.le_of_ble_eq_true rfl, Nat.le_of_ble_eq_true rfl⟩) (fun r_192 hr_192 => ?_)
  refine zm_v (wr := [(h0, .inr (4, [.ref q_1, .ref q_2, .ref q_3, .int 1])), (q_3, .inl (k 0, 8, .inl (fun _ => 0))), (q_2, .inl (k 0, 512, .inl u_191))]) hP hD hS hA [2] [0, 1, 3] (zm_S (own := "HideReader$Lattice") (As := [.ref q_1, .int 7, .int 5, .int r_192]) (rest := []) (ws := [(q_1, .inl (k 0, 512, .inl u_189))]) hx hb hml hown hts hK noX_stb (fun _ _ _ => trivial) (c_X4_enter l D k q_1 7 5 32 (by decide) (by decide) (by decide) r_192 u_189) ck_X4_enter uw_2_33 uw_2_32 hP hD [2] rfl (by decide) rfl hl.1 rfl (Nat.le_of_ble_eq_true rfl) dX4_init_62 ⟨Nat.le_of_ble_eq_true rfl, Nat.le_of_ble_eq_true rfl⟩ ⟨Nat.le_of_ble_eq_true rfl, Nat.le_of_ble_eq_true rfl⟩) rfl rfl (by decide) (by decide) (fun u_193 H locs hu_193 hP hD hS => ?_)
  have hP : va_P D vwCl [(h0, .inr (4, [.ref q_1, .ref q_2, .ref q_3, .int 1])), (q_3, .inl (k 0, 8, .inl (fun _ => 0))), (q_2, .inl (k 0, 512, .inl u_191)), (q_1, .inl (k 0, 512, .inl u_193))] H := hP
  have hD : va_D A [(h0, .inr (4, [.ref q_1, .ref q_2, .ref q_3, .int 1])), (q_3, .inl (k 0, 8, .inl (fun _ => 0))), (q_2, .inl (k 0, 512, .inl u_191)), (q_1, .inl (k 0, 512, .inl u_193))] := hD
  have hLow : ∀ j, j < 64 → u_193 j = nI j := en_k hu_193 (by decide) hLow
  refine lv_aload_n hx hb dX4_init_65 rfl (lv_at hl 2 rfl) ?_
  refine va_get (D := D) (ci := 4) (v := .ref q_2) (C := RX4) (T := TX4) (N := 4) hx hb hts uc_4 hown hK hP 0 rfl rfl 1 (by decide) (hts _ uw_2_36) (fun _ h9 => h9) rfl dX4_init_66 ?_
  refine lv_iload_n hx hb dX4_init_69 rfl (lv_at hl 1 rfl) ?_
  refine lv_iload_n hx hb dX4_init_70 rfl (lv_at hl 0 rfl) ?_
  refine lv_iload_n hx hb dX4_init_71 rfl (lv_at hl 0 rfl) ?_
  refine lv_bipush (v := 6) hx hb dX4_init_72 (by decide) ?_
  refine lv_iadd hx hb dX4_init_74 ?_
  refine lv_topc 11 (by decide) ?_
  refine lv_iload_n hx hb dX4_init_75 rfl (lv_at hl 1 rfl) ?_
  refine zr_i (zr_S (own := "HideReader$Lattice") (As := [.int 11, .int 7]) (rest := [.int 5, .int 7, .ref q_2]) (ws := []) hx hb hml hown hts hK noX_stb (fun _ _ _ => trivial) (c_X4_movedStroke_19 l D k 11) ck_X4_movedStroke uw_2_30 uw_2_29 (zs_P hP [] rfl) rfl hl.1 rfl (Nat.le_of_ble_eq_true rfl) dX4_init_76 ⟨Nat.le_of_ble_eq_true rfl, Nat.le_of_ble_eq_true rfl⟩ ⟨Nat.le_of_ble_eq_true rfl, Nat.le_of_ble_eq_true rfl⟩) (fun r_194 hr_194 => ?_)
  refine zm_v (wr := [(h0, .inr (4, [.ref q_1, .ref q_2, .ref q_3, .int 1])), (q_3, .inl (k 0, 8, .inl (fun _ => 0))), (q_1, .inl (k 0, 512, .inl u_193))]) hP hD hS hA [2] [0, 1, 3] (zm_S (own := "HideReader$Lattice") (As := [.ref q_2, .int 7, .int 5, .int r_194]) (rest := []) (ws := [(q_2, .inl (k 0, 512, .inl u_191))]) hx hb hml hown hts hK noX_stb (fun _ _ _ => trivial) (c_X4_enter l D k q_2 7 5 32 (by decide) (by decide) (by decide) r_194 u_191) ck_X4_enter uw_2_33 uw_2_32 hP hD [2] rfl (by decide) rfl hl.1 rfl (Nat.le_of_ble_eq_true rfl) dX4_init_79 ⟨Nat.le_of_ble_eq_true rfl, Nat.le_of_ble_eq_true rfl⟩ ⟨Nat.le_of_ble_eq_true rfl, Nat.le_of_ble_eq_true rfl⟩) rfl rfl (by decide) (by decide) (fun u_195 H locs hu_195 hP hD hS => ?_)
  have hP : va_P D vwCl [(h0, .inr (4, [.ref q_1, .ref q_2, .ref q_3, .int 1])), (q_3, .inl (k 0, 8, .inl (fun _ => 0))), (q_1, .inl (k 0, 512, .inl u_193)), (q_2, .inl (k 0, 512, .inl u_195))] H := hP
  have hD : va_D A [(h0, .inr (4, [.ref q_1, .ref q_2, .ref q_3, .int 1])), (q_3, .inl (k 0, 8, .inl (fun _ => 0))), (q_1, .inl (k 0, 512, .inl u_193)), (q_2, .inl (k 0, 512, .inl u_195))] := hD
  have hHigh : ∀ j, j < 64 → u_195 j = (fun j => nI j <<< ((6 : Int32) &&& 31)) j := en_k hu_195 (by decide) hHigh
  refine lv_iinc (v := 6) (lv' := [(2, .int 6), (1, .int 7), (0, .ref h0)]) hx hb dX4_init_82 hl (k := 0) rfl (by decide) (by decide) rfl (fun ls hl => ?_)
  refine lv_goto (tgt := 45) hx hb dX4_init_85 (by decide) ?_
  refine lv_iload_n hx hb dX4_init_45 rfl (lv_at hl 0 rfl) ?_
  refine lv_bipush (v := 6) hx hb dX4_init_46 (by decide) ?_
  refine lv_icmp_ge (tgt := 88) hx hb dX4_init_48 (by decide) (fun _ => ?_) (fun c9 => absurd (by decide) c9)
  refine lv_iinc (v := 8) (lv' := [(1, .int 8), (2, .int 6), (0, .ref h0)]) hx hb dX4_init_88 hl (k := 1) rfl (by decide) (by decide) rfl (fun ls hl => ?_)
  refine lv_goto (tgt := 37) hx hb dX4_init_91 (by decide) ?_
  refine lv_iload_n hx hb dX4_init_37 rfl (lv_at hl 0 rfl) ?_
  refine lv_bipush (v := 8) hx hb dX4_init_38 (by decide) ?_
  refine lv_icmp_ge (tgt := 94) hx hb dX4_init_40 (by decide) (fun _ => ?_) (fun c9 => absurd (by decide) c9)
  rw [low_n hLow, high_n hHigh] at hP hD
  have hP : va_P D vwCl [(h0, .inr (4, [.ref q_1, .ref q_2, .ref q_3, .int 1])), (q_3, .inl (k 0, 8, .inl (fun _ => 0))), (q_1, .inl (k 0, 512, .inl (lowF u_193))), (q_2, .inl (k 0, 512, .inl (highF u_195)))] H := hP
  have hD : va_D A [(h0, .inr (4, [.ref q_1, .ref q_2, .ref q_3, .int 1])), (q_3, .inl (k 0, 8, .inl (fun _ => 0))), (q_1, .inl (k 0, 512, .inl (lowF u_193))), (q_2, .inl (k 0, 512, .inl (highF u_195)))] := hD
  exact zf_v hx hb hr hlocks dX4_init_94 (ul [q_1, q_2, q_3], u_193, u_195) trivial (zs_P hP [0, 2, 3, 1] rfl) (hD.sub [0, 2, 3, 1] (by decide) rfl) hS (Nat.le_of_ble_eq_true rfl) (Nat.le_of_ble_eq_true rfl)
