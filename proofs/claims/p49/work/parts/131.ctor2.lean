set_option maxHeartbeats 4000000 in
set_option maxRecDepth 100000 in
theorem d_X4_movedStroke {l : Launch} {D : va_G} {k : Nat → ClassId} {ws : va_W} {p0 p1 : Int} (hp0 : 0 ≤ p0 ∧ p0 ≤ 11) (hp1 : 0 ≤ p1 ∧ p1 ≤ 7) : MetG l D k yX4_movedStroke cX4_movedStroke 7 (some .int) 0 [.int (mI p0), .int (mI p1)] ws (qGi (fun r0 H => (0 ≤ r0 ∧ r0 ≤ 11) ∧ va_P D vwCl ws H)) := by
  refine metG_of 2 ck_X4_movedStroke (Nat.le_of_ble_eq_true rfl) rfl (fun p e s m args below meth c A hx hb hml hr hlocks hown hts hK hD hA hP hS ls hl => ?_)
  have hown : s.vm.findClass "HideReader$Lattice" = some m.cls := hown
  have hl : lv_has ls 7 [(0, .int (mI p0)), (1, .int (mI p1))] := hl
  refine lv_iload_n hx hb dX4_movedStroke_0 rfl (lv_at hl 0 rfl) ?_
  refine lv_bipush (v := mI 6) hx hb dX4_movedStroke_1 (by decide) ?_
  refine sy_isub hx hb dX4_movedStroke_3 (p0 - 6) rfl ?_
  refine lv_istore_n (lv' := [(2, .int (mI (p0 - 6))), (0, .int (mI p0)), (1, .int (mI p1))]) hx hb dX4_movedStroke_4 rfl hl (by decide) rfl (fun ls hl => ?_)
  refine lv_iload_n hx hb dX4_movedStroke_5 rfl (lv_at hl 0 rfl) ?_
  refine sy_join (I := fun H locs g => ∃ (z_4 : Int) (ls : Array Slot), (0 ≤ z_4 ∧ z_4 ≤ 4) ∧ va_P D vwCl ws H ∧ va_S A s.heap H locs ∧ lv_has ls 7 [(2, .int (mI (p0 - 6))), (0, .int (mI p0)), (1, .int (mI p1))] ∧ g = F0 m 24 ls [.int (mI z_4)]) ?_ ?_
  · skip
    intro H locs g hI
    obtain ⟨z_4, ls, h24_0, hP, hS, hl, rfl⟩ := hI
    refine lv_istore_n (lv' := [(3, .int (mI z_4)), (2, .int (mI (p0 - 6))), (0, .int (mI p0)), (1, .int (mI p1))]) hx hb dX4_movedStroke_24 rfl hl (by decide) rfl (fun ls hl => ?_)
    refine lv_iload_n hx hb dX4_movedStroke_25 rfl (lv_at hl 1 rfl) ?_
    refine sy_join (I := fun H locs g => ∃ (z_9 : Int) (ls : Array Slot), (0 ≤ z_9 ∧ z_9 ≤ 4) ∧ va_P D vwCl ws H ∧ va_S A s.heap H locs ∧ lv_has ls 7 [(3, .int (mI z_4)), (2, .int (mI (p0 - 6))), (0, .int (mI p0)), (1, .int (mI p1))] ∧ g = F0 m 44 ls [.int (mI z_9)]) ?_ ?_
    · skip
      intro H locs g hI
      obtain ⟨z_9, ls, h44_0, hP, hS, hl, rfl⟩ := hI
      refine lv_istore (lv' := [(4, .int (mI z_9)), (3, .int (mI z_4)), (2, .int (mI (p0 - 6))), (0, .int (mI p0)), (1, .int (mI p1))]) hx hb dX4_movedStroke_44 hl (by decide) rfl (fun ls hl => ?_)
      refine lv_iload_n hx hb dX4_movedStroke_46 rfl (lv_at hl 4 rfl) ?_
      refine lv_iconst (v := mI 4) hx hb dX4_movedStroke_47 rfl ?_
      refine sy_join (I := fun H locs g => ∃ (z_12 : Int) (ls : Array Slot), (0 ≤ z_12 ∧ z_12 ≤ 4) ∧ va_P D vwCl ws H ∧ va_S A s.heap H locs ∧ lv_has ls 7 [(4, .int (mI z_9)), (3, .int (mI z_12)), (2, .int (mI (p0 - 6))), (0, .int (mI p0)), (1, .int (mI p1))] ∧ g = F0 m 55 ls []) ?_ ?_
      · skip
        intro H locs g hI
        obtain ⟨z_12, ls, h55_0, hP, hS, hl, rfl⟩ := hI
        refine lv_iconst (v := mI 0) hx hb dX4_movedStroke_55 rfl ?_
        refine lv_istore (lv' := [(5, .int (mI 0)), (4, .int (mI z_9)), (3, .int (mI z_12)), (2, .int (mI (p0 - 6))), (0, .int (mI p0)), (1, .int (mI p1))]) hx hb dX4_movedStroke_56 hl (by decide) rfl (fun ls hl => ?_)
        refine sy_loop (I := fun n H locs g => ∃ (z_107 : Int) (z_108 : Int) (z_109 : Int) (ls : Array Slot), (0 ≤ z_107 ∧ z_107 ≤ 3) ∧ (0 ≤ z_108 ∧ z_108 ≤ 4) ∧ (0 ≤ z_109 ∧ z_109 ≤ 4) ∧ (3 - z_107).toNat = n ∧ va_P D vwCl ws H ∧ va_S A s.heap H locs ∧ lv_has ls 7 [(5, .int (mI z_107)), (4, .int (mI z_108)), (3, .int (mI z_109)), (2, .int (mI (p0 - 6))), (0, .int (mI p0)), (1, .int (mI p1))] ∧ g = F0 m 58 ls []) ?_ _ ⟨0, z_9, z_12, _, by omega, by omega, by omega, rfl, hP, hS, lv_sub hl [0, 1, 2, 3, 4, 5] rfl, rfl⟩
        intro n_119 H locs g hI ih_120
        obtain ⟨z_107, z_108, z_109, ls, h58_0, h58_1, h58_2, mn_119, hP, hS, hl, rfl⟩ := hI
        refine lv_iload hx hb dX4_movedStroke_58 (lv_at hl 0 rfl) ?_
        refine lv_iload_n hx hb dX4_movedStroke_60 rfl (lv_at hl 5 rfl) ?_
        refine lv_iconst (v := mI 4) hx hb dX4_movedStroke_61 rfl ?_
        refine sy_irem hx hb dX4_movedStroke_62 (by omega) (by omega) (fun z_121 ez_121 hz_121 => ?_)
        refine sy_icmp_ge (tgt := 84) hx hb dX4_movedStroke_63 (by decide) (by omega) (by omega) (fun c_123 => ?_) (fun c_123 => ?_)
        · skip
          refine lv_iload hx hb dX4_movedStroke_84 (lv_at hl 1 rfl) ?_
          refine lv_iconst (v := mI 2) hx hb dX4_movedStroke_86 rfl ?_
          refine sy_irem hx hb dX4_movedStroke_87 (by omega) (by omega) (fun z_124 ez_124 hz_124 => ?_)
          refine sy_if_ne (tgt := 100) hx hb dX4_movedStroke_88 (by decide) (by omega) (fun c_125 => ?_) (fun c_125 => ?_)
          · skip
            have h_126 : z_108 ≤ 3 := by omega
            refine lv_bipush (v := mI 6) hx hb dX4_movedStroke_100 (by decide) ?_
            refine lv_iconst (v := mI 3) hx hb dX4_movedStroke_102 rfl ?_
            refine lv_iload hx hb dX4_movedStroke_103 (lv_at hl 1 rfl) ?_
            refine lv_iconst (v := mI 2) hx hb dX4_movedStroke_105 rfl ?_
            refine sy_idiv hx hb dX4_movedStroke_106 (by omega) (by omega) (fun z_127 ez_127 hz_127 => ?_)
            refine sy_imul hx hb dX4_movedStroke_107 (3 * z_127) rfl ?_
            refine sy_iadd hx hb dX4_movedStroke_108 (3 * z_127 + 6) (by omega) ?_
            refine lv_iload_n hx hb dX4_movedStroke_109 rfl (lv_at hl 2 rfl) ?_
            refine lv_iconst (v := mI 2) hx hb dX4_movedStroke_110 rfl ?_
            refine sy_idiv hx hb dX4_movedStroke_111 (by omega) (by omega) (fun z_128 ez_128 hz_128 => ?_)
            refine sy_iadd hx hb dX4_movedStroke_112 (3 * z_127 + z_128 + 6) (by omega) ?_
            exact r_i hx hb hr hlocks dX4_movedStroke_113 hS ⟨by omega, hP⟩
          · skip
            refine lv_iload hx hb dX4_movedStroke_91 (lv_at hl 1 rfl) ?_
            refine lv_iload_n hx hb dX4_movedStroke_93 rfl (lv_at hl 2 rfl) ?_
            refine lv_iconst (v := mI 2) hx hb dX4_movedStroke_94 rfl ?_
            refine sy_idiv hx hb dX4_movedStroke_95 (by omega) (by omega) (fun z_129 ez_129 hz_129 => ?_)
            refine sy_iadd hx hb dX4_movedStroke_96 (z_108 + z_129) rfl ?_
            refine lv_goto (tgt := 113) hx hb dX4_movedStroke_97 (by decide) ?_
            exact r_i hx hb hr hlocks dX4_movedStroke_113 hS ⟨by omega, hP⟩
        · skip
          refine lv_iload_n hx hb dX4_movedStroke_66 rfl (lv_at hl 2 rfl) ?_
          refine lv_istore (lv' := [(6, .int (mI z_109)), (5, .int (mI z_107)), (4, .int (mI z_108)), (3, .int (mI z_109)), (2, .int (mI (p0 - 6))), (0, .int (mI p0)), (1, .int (mI p1))]) hx hb dX4_movedStroke_67 hl (by decide) rfl (fun ls hl => ?_)
          refine lv_iconst (v := mI 4) hx hb dX4_movedStroke_69 rfl ?_
          refine lv_iload hx hb dX4_movedStroke_70 (lv_at hl 2 rfl) ?_
          refine sy_isub hx hb dX4_movedStroke_72 (-z_108 + 4) (by omega) ?_
          refine lv_istore_n (lv' := [(3, .int (mI (-z_108 + 4))), (6, .int (mI z_109)), (5, .int (mI z_107)), (4, .int (mI z_108)), (2, .int (mI (p0 - 6))), (0, .int (mI p0)), (1, .int (mI p1))]) hx hb dX4_movedStroke_73 rfl hl (by decide) rfl (fun ls hl => ?_)
          refine lv_iload hx hb dX4_movedStroke_74 (lv_at hl 1 rfl) ?_
          refine lv_istore (lv' := [(4, .int (mI z_109)), (3, .int (mI (-z_108 + 4))), (6, .int (mI z_109)), (5, .int (mI z_107)), (2, .int (mI (p0 - 6))), (0, .int (mI p0)), (1, .int (mI p1))]) hx hb dX4_movedStroke_76 hl (by decide) rfl (fun ls hl => ?_)
          refine lv_iinc (v := mI (z_107 + 1)) (lv' := [(5, .int (mI (z_107 + 1))), (4, .int (mI z_109)), (3, .int (mI (-z_108 + 4))), (6, .int (mI z_109)), (2, .int (mI (p0 - 6))), (0, .int (mI p0)), (1, .int (mI p1))]) hx hb dX4_movedStroke_78 hl (k := 3) rfl (mI_ad rfl) (by decide) rfl (fun ls hl => ?_)
          refine lv_goto (tgt := 58) hx hb dX4_movedStroke_81 (by decide) ?_
          exact ih_120 _ _ _ _ (by omega) ⟨(z_107 + 1), z_109, (-z_108 + 4), _, by omega, by omega, by omega, rfl, hP, hS, lv_sub hl [0, 1, 2, 4, 5, 6] rfl, rfl⟩
      · skip
        intro J_13
        refine sy_icmp_lt (tgt := 55) hx hb dX4_movedStroke_48 (by decide) (by omega) (by decide) (fun c_130 => ?_) (fun c_130 => ?_)
        · skip
          exact J_13 _ _ _ ⟨z_4, _, by omega, hP, hS, lv_sub hl [0, 1, 2, 3, 4] rfl, rfl⟩
        · skip
          refine lv_iconst (v := mI 4) hx hb dX4_movedStroke_51 rfl ?_
          refine lv_iload_n hx hb dX4_movedStroke_52 rfl (lv_at hl 1 rfl) ?_
          refine sy_isub hx hb dX4_movedStroke_53 (-z_4 + 4) (by omega) ?_
          refine lv_istore_n (lv' := [(3, .int (mI (-z_4 + 4))), (4, .int (mI z_9)), (2, .int (mI (p0 - 6))), (0, .int (mI p0)), (1, .int (mI p1))]) hx hb dX4_movedStroke_54 rfl hl (by decide) rfl (fun ls hl => ?_)
          exact J_13 _ _ _ ⟨(-z_4 + 4), _, by omega, hP, hS, lv_sub hl [1, 0, 2, 3, 4] rfl, rfl⟩
    · skip
      intro J_10
      refine sy_if_ge (tgt := 37) hx hb dX4_movedStroke_26 (by decide) (by omega) (fun c_131 => ?_) (fun c_131 => ?_)
      · skip
        refine lv_iconst (v := mI 2) hx hb dX4_movedStroke_37 rfl ?_
        refine lv_iload_n hx hb dX4_movedStroke_38 rfl (lv_at hl 1 rfl) ?_
        refine lv_iconst (v := mI 3) hx hb dX4_movedStroke_39 rfl ?_
        refine sy_idiv hx hb dX4_movedStroke_40 (by omega) (by omega) (fun z_132 ez_132 hz_132 => ?_)
        refine sy_imul hx hb dX4_movedStroke_41 (2 * z_132) rfl ?_
        refine lv_iconst (v := mI 1) hx hb dX4_movedStroke_42 rfl ?_
        refine sy_iadd hx hb dX4_movedStroke_43 (2 * z_132 + 1) rfl ?_
        exact J_10 _ _ _ ⟨(2 * z_132 + 1), _, by omega, hP, hS, lv_sub hl [0, 1, 2, 3] rfl, rfl⟩
      · skip
        refine lv_iconst (v := mI 2) hx hb dX4_movedStroke_29 rfl ?_
        refine lv_iload_n hx hb dX4_movedStroke_30 rfl (lv_at hl 2 rfl) ?_
        refine lv_iconst (v := mI 2) hx hb dX4_movedStroke_31 rfl ?_
        refine sy_idiv hx hb dX4_movedStroke_32 (by omega) (by omega) (fun z_133 ez_133 hz_133 => ?_)
        refine sy_imul hx hb dX4_movedStroke_33 (2 * z_133) rfl ?_
        refine lv_goto (tgt := 44) hx hb dX4_movedStroke_34 (by decide) ?_
        exact J_10 _ _ _ ⟨(2 * z_133), _, by omega, hP, hS, lv_sub hl [0, 1, 2, 3] rfl, rfl⟩
  · skip
    intro J_5
    refine sy_if_ge (tgt := 19) hx hb dX4_movedStroke_6 (by decide) (by omega) (fun c_134 => ?_) (fun c_134 => ?_)
    · skip
      refine lv_iconst (v := mI 2) hx hb dX4_movedStroke_19 rfl ?_
      refine lv_iload_n hx hb dX4_movedStroke_20 rfl (lv_at hl 0 rfl) ?_
      refine lv_iconst (v := mI 3) hx hb dX4_movedStroke_21 rfl ?_
      refine sy_irem hx hb dX4_movedStroke_22 (by omega) (by omega) (fun z_135 ez_135 hz_135 => ?_)
      refine sy_imul hx hb dX4_movedStroke_23 (2 * z_135) rfl ?_
      exact J_5 _ _ _ ⟨(2 * z_135), _, by omega, hP, hS, lv_sub hl [0, 1, 2] rfl, rfl⟩
    · skip
      refine lv_iconst (v := mI 2) hx hb dX4_movedStroke_9 rfl ?_
      refine lv_iload_n hx hb dX4_movedStroke_10 rfl (lv_at hl 1 rfl) ?_
      refine lv_iconst (v := mI 2) hx hb dX4_movedStroke_11 rfl ?_
      refine sy_irem hx hb dX4_movedStroke_12 (by omega) (by omega) (fun z_136 ez_136 hz_136 => ?_)
      refine sy_imul hx hb dX4_movedStroke_13 (2 * z_136) rfl ?_
      refine lv_iconst (v := mI 1) hx hb dX4_movedStroke_14 rfl ?_
      refine sy_iadd hx hb dX4_movedStroke_15 (2 * z_136 + 1) rfl ?_
      refine lv_goto (tgt := 24) hx hb dX4_movedStroke_16 (by decide) ?_
      exact J_5 _ _ _ ⟨(2 * z_136 + 1), _, by omega, hP, hS, lv_sub hl [0, 1, 2] rfl, rfl⟩
/-! ===== the tables of the lattice stay in 0 .. 4095 ===== -/
def b12 (f : Nat → Int32) : Prop := ∀ j, ∃ z : Int, (0 ≤ z ∧ z ≤ 4095) ∧ f j = mI z
theorem b12_0 : b12 (fun _ => 0) := fun _ => ⟨0, by omega, rfl⟩
theorem b12_up {f : Nat → Int32} (h : b12 f) (i j : Nat) {mv : Int} (hm : 0 ≤ mv ∧ mv ≤ 11) : b12 (upd f i (f j ||| ((1 : Int32) <<< (mI mv &&& 31)))) := by
  intro r
  by_cases e : r = i
  · subst e
    rw [pk_us]
    obtain ⟨z, hz, ez⟩ := h j
    obtain ⟨z2, e2, h1, h2, -⟩ := mI_shl1 (s := mv) (k := 11) (by decide) (by omega)
    obtain ⟨z3, e3, h3⟩ := mI_or (a := z) (b := z2) 12 (by decide) (by omega) (by omega)
    refine ⟨z3, by omega, ?_⟩
    rw [ez, ← e3, ← e2]
    rfl
  · rw [pk_un e]
    exact h r
theorem sh6 {st : Nat} (h : st < 6) : (1 : Int32) <<< (nI st &&& 31) = nI (2 ^ st) := by
  rcases (by omega : st = 0 ∨ st = 1 ∨ st = 2 ∨ st = 3 ∨ st = 4 ∨ st = 5) with e | e | e | e | e | e <;> subst e <;> decide
theorem sh32 {st : Nat} (h : st < 6) : 2 ^ st ≤ 32 := by
  rcases (by omega : st = 0 ∨ st = 1 ∨ st = 2 ∨ st = 3 ∨ st = 4 ∨ st = 5) with e | e | e | e | e | e <;> subst e <;> decide
set_option maxHeartbeats 4000000 in
set_option maxRecDepth 100000 in
theorem d_X4_enter (l : Launch) (D : va_G) (k : Nat → ClassId) (h0 w st : Nat) (hw : w < 8) (hst : st < 6) (mv : Int) (hmv : 0 ≤ mv ∧ mv ≤ 11) (f : Nat → Int32) (hf : b12 f) : MetM l D k yX4_enter cX4_enter 6 none 0 0 0 [.ref h0, .int (nI w), .int (nI st), .int (mI mv)] [(h0, .inl (k 0, 512, .inl f))] noX (qMv D (fun g : Nat → Int32 => b12 g) (fun g => [(h0, .inl (k 0, 512, .inl g))])) := by
  refine metM_of 4 ck_X4_enter (Nat.le_of_ble_eq_true rfl) (fun p e s m args below meth c A hx hb hml hr hlocks hown hts hK hX hP hD hA hin ls hl => ?_)
  have hS : va_S A s.heap s.heap [] := va_S.rf
  obtain ⟨n, hn, h32⟩ : ∃ n : Nat, (1 : Int32) <<< (nI st &&& 31) = nI n ∧ n ≤ 32 := ⟨2 ^ st, sh6 hst, sh32 hst⟩
  have hl : lv_has ls 6 [(0, .ref h0), (1, .int (nI w)), (2, .int (nI st)), (3, .int (mI mv))] := hl
  refine lv_iload_n hx hb dX4_enter_0 rfl (lv_at hl 1 rfl) ?_
  refine lv_bipush (v := 64) hx hb dX4_enter_1 (by decide) ?_
  refine lv_imul hx hb dX4_enter_3 ?_
  refine lv_topc (nI (64 * w)) (by rw [Nat.mul_comm]; exact pk_mul w 64) ?_
  refine lv_istore (lv' := [(4, .int (nI (64 * w))), (0, .ref h0), (1, .int (nI w)), (2, .int (nI st)), (3, .int (mI mv))]) hx hb dX4_enter_4 hl (by decide) rfl (fun ls hl => ?_)
  refine lv_iconst (v := 0) hx hb dX4_enter_6 (by decide) ?_
  refine lv_istore (lv' := [(5, .int 0), (4, .int (nI (64 * w))), (0, .ref h0), (1, .int (nI w)), (2, .int (nI st)), (3, .int (mI mv))]) hx hb dX4_enter_7 hl (by decide) rfl (fun ls hl => ?_)
  refine zl_up (I := fun (i : Nat) (H : Heap) (locs : List Loc) (ls : Array Slot) => ∃ g : Nat → Int32, b12 g ∧ va_P D vwCl [(h0, .inl (k 0, 512, .inl g))] H ∧ va_D A [(h0, .inl (k 0, 512, .inl g))] ∧ va_S A s.heap H locs ∧ lv_has ls 6 [(5, .int (nI i)), (4, .int (nI (64 * w))), (0, .ref h0), (1, .int (nI w)), (2, .int (nI st)), (3, .int (mI mv))]) n (fun ls => F0 m 9 ls []) ?_ ?_ 0 _ _ _ (Nat.zero_le _) ⟨f, hf, hP, hD, hS, hl⟩
  · intro H locs ls hI
    obtain ⟨g, hg, hP, hD, hS, hl⟩ := hI
    refine lv_iload hx hb dX4_enter_9 (lv_at hl 0 rfl) ?_
    refine lv_iconst (v := 1) hx hb dX4_enter_11 (by decide) ?_
    refine lv_iload_n hx hb dX4_enter_12 rfl (lv_at hl 4 rfl) ?_
    refine lv_ishl hx hb dX4_enter_13 ?_
    refine lv_topc (nI n) hn ?_
    refine lv_icmp_ge (tgt := 45) hx hb dX4_enter_14 (by decide) (fun _ => ?_) (fun c9 => absurd (Int32.le_refl _) c9)
    exact zf_v hx hb hr hlocks dX4_enter_45 g hg hP hD hS (Nat.le_of_ble_eq_true rfl) (Nat.le_of_ble_eq_true rfl)
  · intro i H locs ls hi hI ih
    obtain ⟨g, hg, hP, hD, hS, hl⟩ := hI
    refine lv_iload hx hb dX4_enter_9 (lv_at hl 0 rfl) ?_
    refine lv_iconst (v := 1) hx hb dX4_enter_11 (by decide) ?_
    refine lv_iload_n hx hb dX4_enter_12 rfl (lv_at hl 4 rfl) ?_
    refine lv_ishl hx hb dX4_enter_13 ?_
    refine lv_topc (nI n) hn ?_
    refine lv_icmp_ge (tgt := 45) hx hb dX4_enter_14 (by decide) (fun c9 => absurd c9 (nI_ge hi (by omega))) (fun _ => ?_)
    refine lv_aload_n hx hb dX4_enter_17 rfl (lv_at hl 2 rfl) ?_
    refine lv_iload hx hb dX4_enter_18 (lv_at hl 1 rfl) ?_
    refine lv_iconst (v := 1) hx hb dX4_enter_20 (by decide) ?_
    refine lv_iload_n hx hb dX4_enter_21 rfl (lv_at hl 4 rfl) ?_
    refine lv_ishl hx hb dX4_enter_22 ?_
    refine lv_topc (nI n) hn ?_
    refine lv_iadd hx hb dX4_enter_23 ?_
    refine lv_topc (nI (64 * w + n)) (nI_add _ _) ?_
    refine lv_iload hx hb dX4_enter_24 (lv_at hl 0 rfl) ?_
    refine lv_iadd hx hb dX4_enter_26 ?_
    refine lv_topc (nI (64 * w + n + i)) (nI_add _ _) ?_
    refine lv_aload_n hx hb dX4_enter_27 rfl (lv_at hl 2 rfl) ?_
    refine lv_iload hx hb dX4_enter_28 (lv_at hl 1 rfl) ?_
    refine lv_iload hx hb dX4_enter_30 (lv_at hl 0 rfl) ?_
    refine lv_iadd hx hb dX4_enter_32 ?_
    refine lv_topc (nI (64 * w + i)) (nI_add _ _) ?_
    refine va_iald hx hb hK hP 0 0 rfl rfl (vp_in_nI (by omega) (by decide)) dX4_enter_33 ?_
    refine lv_topc (g (64 * w + i)) (by rw [nI_clamp (by omega)]) ?_
    refine lv_iconst (v := 1) hx hb dX4_enter_34 (by decide) ?_
    refine lv_iload_n hx hb dX4_enter_35 rfl (lv_at hl 5 rfl) ?_
    refine lv_ishl hx hb dX4_enter_36 ?_
    refine lv_ior hx hb dX4_enter_37 ?_
    refine va_iast hx hb hK hP hD hS 0 0 rfl rfl (vp_in_nI (by omega) (by decide)) dX4_enter_38 (fun H locs hP hD hS => ?_)
    have ek : (nI (64 * w + n + i)).toNatClampNeg = 64 * w + n + i := nI_clamp (by omega)
    rw [ek] at hP hD
    refine lv_iinc (v := nI (i + 1)) (lv' := [(5, .int (nI (i + 1))), (4, .int (nI (64 * w))), (0, .ref h0), (1, .int (nI w)), (2, .int (nI st)), (3, .int (mI mv))]) hx hb dX4_enter_39 hl (k := 0) rfl (nI_1 _) (by decide) rfl (fun ls hl => ?_)
    refine lv_goto (tgt := 9) hx hb dX4_enter_42 (by decide) ?_
    exact ih _ _ _ ⟨_, b12_up hg _ _ hmv, hP, hD, hS, hl⟩
set_option maxHeartbeats 4000000 in
set_option maxRecDepth 100000 in
theorem d_X4_init (l : Launch) (D : va_G) (k : Nat → ClassId) (h0 : Nat) : MetM l D k yX4_init cX4_init 3 none 1 3 1032 [.ref h0] [(h0, .inr (4, [.null, .null, .null, .int 0]))] noX (qMv D (fun u : (Nat → Nat) × (Nat → Int32) × (Nat → Int32) => b12 u.2.1 ∧ b12 u.2.2) (fun u : (Nat → Nat) × (Nat → Int32) × (Nat → Int32) => [(h0, .inr (4, [.ref (u.1 0), .ref (u.1 1), .ref (u.1 2), .int 1])), (u.1 0, .inl (k 0, 512, .inl u.2.1)), (u.1 1, .inl (k 0, 512, .inl u.2.2)), (u.1 2, .inl (k 0, 8, .inl (fun _ => 0)))])) := by
  refine metM_of 0 ck_X4_init (Nat.le_of_ble_eq_true rfl) (fun p e s m args below meth c A hx hb hml hr hlocks hown hts hK hX hP hD hA hin ls hl => ?_)
  have hP : va_P D vwCl [(h0, .inr (4, [.null, .null, .null, .int 0]))] s.heap := hP
  have hD : va_D A [(h0, .inr (4, [.null, .null, .null, .int 0]))] := hD
  have hS : va_S A s.heap s.heap [] := va_S.rf
  have hin : meth.name = "<init>" := hin
  have hown : s.vm.findClass "HideReader$Lattice" = some m.cls := hown
  have hl : lv_has ls 3 [(0, .ref h0)] := hl
  refine lv_aload_n hx hb dX4_init_0 rfl (lv_at hl 0 rfl) ?_
  refine W.objInit hx hb hown (hts _ uw_2_28) (hts _ uw_1_29) (hts _ uw_1_30) rfl (by rw [hml]; exact hl.1) rfl dX4_init_1 (Nat.le_of_ble_eq_true rfl) (Nat.le_of_ble_eq_true rfl) ?_
  refine W.eq (g2 := F0 m 4 ls []) rfl ?_
  refine lv_aload_n hx hb dX4_init_4 rfl (lv_at hl 0 rfl) ?_
  refine lv_sipush (v := 512) hx hb dX4_init_5 (by decide) ?_
  refine zn_a (atype := .int) (ty := .int) hx hb hts uw_1_121 rfl hK hP hD hS hA 0 rfl (a0 := (512, .inl (fun _ => 0))) (N' := 512) (fun _ => rfl) (by decide) (by decide) (by decide) (Nat.le_of_ble_eq_true rfl) (Nat.le_of_ble_eq_true rfl) dX4_init_8 (fun q_1 H hP hD hS => ?_)
  have hP : va_P D vwCl [(h0, .inr (4, [.null, .null, .null, .int 0])), (q_1, .inl (k 0, 512, .inl (fun _ => 0)))] H := hP
  have hD : va_D A [(h0, .inr (4, [.null, .null, .null, .int 0])), (q_1, .inl (k 0, 512, .inl (fun _ => 0)))] := hD
  refine W.widen (k := 1) (n := 512) (Nat.le_of_ble_eq_true rfl) (Nat.le_of_ble_eq_true rfl) ?_
  refine va_putF (D := D) (ci := 4) (v := .ref q_1) (ty := .array .int) (C := RX4) (T := TX4) (N := 4) hx hb hts uc_4 tyX4 tyX4_ok nmX4 hown hK hP hD hS 0 rfl rfl 0 (by decide) (hts _ uw_2_35) (fun _ h9 => h9) rfl hin rfl (by decide +kernel) rfl rfl (Nat.le_of_ble_eq_true rfl) dX4_init_10 (fun H locs hP hD hS => ?_)
  have hP : va_P D vwCl [(h0, .inr (4, [.ref q_1, .null, .null, .int 0])), (q_1, .inl (k 0, 512, .inl (fun _ => 0)))] H := hP
  have hD : va_D A [(h0, .inr (4, [.ref q_1, .null, .null, .int 0])), (q_1, .inl (k 0, 512, .inl (fun _ => 0)))] := hD
  refine lv_aload_n hx hb dX4_init_13 rfl (lv_at hl 0 rfl) ?_
  refine lv_sipush (v := 512) hx hb dX4_init_14 (by decide) ?_
  refine zn_a (atype := .int) (ty := .int) hx hb hts uw_1_121 rfl hK hP hD hS hA 0 rfl (a0 := (512, .inl (fun _ => 0))) (N' := 512) (fun _ => rfl) (by decide) (by decide) (by decide) (Nat.le_of_ble_eq_true rfl) (Nat.le_of_ble_eq_true rfl) dX4_init_17 (fun q_2 H hP hD hS => ?_)
  have hP : va_P D vwCl [(h0, .inr (4, [.ref q_1, .null, .null, .int 0])), (q_1, .inl (k 0, 512, .inl (fun _ => 0))), (q_2, .inl (k 0, 512, .inl (fun _ => 0)))] H := hP
  have hD : va_D A [(h0, .inr (4, [.ref q_1, .null, .null, .int 0])), (q_1, .inl (k 0, 512, .inl (fun _ => 0))), (q_2, .inl (k 0, 512, .inl (fun _ => 0)))] := hD
  refine W.widen (k := 2) (n := 1024) (Nat.le_of_ble_eq_true rfl) (Nat.le_of_ble_eq_true rfl) ?_
  refine va_putF (D := D) (ci := 4) (v := .ref q_2) (ty := .array .int) (C := RX4) (T := TX4) (N := 4) hx hb hts uc_4 tyX4 tyX4_ok nmX4 hown hK hP hD hS 0 rfl rfl 1 (by decide) (hts _ uw_2_36) (fun _ h9 => h9) rfl hin rfl (by decide +kernel) rfl rfl (Nat.le_of_ble_eq_true rfl) dX4_init_19 (fun H locs hP hD hS => ?_)
  have hP : va_P D vwCl [(h0, .inr (4, [.ref q_1, .ref q_2, .null, .int 0])), (q_1, .inl (k 0, 512, .inl (fun _ => 0))), (q_2, .inl (k 0, 512, .inl (fun _ => 0)))] H := hP
  have hD : va_D A [(h0, .inr (4, [.ref q_1, .ref q_2, .null, .int 0])), (q_1, .inl (k 0, 512, .inl (fun _ => 0))), (q_2, .inl (k 0, 512, .inl (fun _ => 0)))] := hD
  refine lv_aload_n hx hb dX4_init_22 rfl (lv_at hl 0 rfl) ?_
  refine lv_bipush (v := 8) hx hb dX4_init_23 (by decide) ?_
  refine zn_a (atype := .int) (ty := .int) hx hb hts uw_1_121 rfl hK hP hD hS hA 0 rfl (a0 := (8, .inl (fun _ => 0))) (N' := 8) (fun _ => rfl) (by decide) (by decide) (by decide) (Nat.le_of_ble_eq_true rfl) (Nat.le_of_ble_eq_true rfl) dX4_init_25 (fun q_3 H hP hD hS => ?_)
  have hP : va_P D vwCl [(h0, .inr (4, [.ref q_1, .ref q_2, .null, .int 0])), (q_1, .inl (k 0, 512, .inl (fun _ => 0))), (q_2, .inl (k 0, 512, .inl (fun _ => 0))), (q_3, .inl (k 0, 8, .inl (fun _ => 0)))] H := hP
  have hD : va_D A [(h0, .inr (4, [.ref q_1, .ref q_2, .null, .int 0])), (q_1, .inl (k 0, 512, .inl (fun _ => 0))), (q_2, .inl (k 0, 512, .inl (fun _ => 0))), (q_3, .inl (k 0, 8, .inl (fun _ => 0)))] := hD
  refine W.widen (k := 3) (n := 1032) (Nat.le_of_ble_eq_true rfl) (Nat.le_of_ble_eq_true rfl) ?_
  refine va_putF (D := D) (ci := 4) (v := .ref q_3) (ty := .array .int) (C := RX4) (T := TX4) (N := 4) hx hb hts uc_4 tyX4 tyX4_ok nmX4 hown hK hP hD hS 0 rfl rfl 2 (by decide) (hts _ uw_2_37) (fun _ h9 => h9) rfl hin rfl (by decide +kernel) rfl rfl (Nat.le_of_ble_eq_true rfl) dX4_init_27 (fun H locs hP hD hS => ?_)
  have hP : va_P D vwCl [(h0, .inr (4, [.ref q_1, .ref q_2, .ref q_3, .int 0])), (q_1, .inl (k 0, 512, .inl (fun _ => 0))), (q_2, .inl (k 0, 512, .inl (fun _ => 0))), (q_3, .inl (k 0, 8, .inl (fun _ => 0)))] H := hP
  have hD : va_D A [(h0, .inr (4, [.ref q_1, .ref q_2, .ref q_3, .int 0])), (q_1, .inl (k 0, 512, .inl (fun _ => 0))), (q_2, .inl (k 0, 512, .inl (fun _ => 0))), (q_3, .inl (k 0, 8, .inl (fun _ => 0)))] := hD
  refine lv_aload_n hx hb dX4_init_30 rfl (lv_at hl 0 rfl) ?_
  refine lv_iconst (v := 1) hx hb dX4_init_31 (by decide) ?_
  refine va_put (D := D) (ci := 4) (v := .int 1) (ty := .int) (C := RX4) (T := TX4) (N := 4) hx hb hts uc_4 tyX4 tyX4_ok nmX4 hown hK hP hD hS 0 rfl rfl 3 (by decide) (hts _ uw_2_38) (fun _ h9 => h9) rfl (by decide +kernel) rfl rfl (Nat.le_of_ble_eq_true rfl) dX4_init_32 (fun H locs hP hD hS => ?_)
  have hP : va_P D vwCl [(h0, .inr (4, [.ref q_1, .ref q_2, .ref q_3, .int 1])), (q_1, .inl (k 0, 512, .inl (fun _ => 0))), (q_2, .inl (k 0, 512, .inl (fun _ => 0))), (q_3, .inl (k 0, 8, .inl (fun _ => 0)))] H := hP
  have hD : va_D A [(h0, .inr (4, [.ref q_1, .ref q_2, .ref q_3, .int 1])), (q_1, .inl (k 0, 512, .inl (fun _ => 0))), (q_2, .inl (k 0, 512, .inl (fun _ => 0))), (q_3, .inl (k 0, 8, .inl (fun _ => 0)))] := hD
  refine lv_iconst (v := 0) hx hb dX4_init_35 (by decide) ?_
  refine lv_istore_n (lv' := [(1, .int 0), (0, .ref h0)]) hx hb dX4_init_36 rfl hl (by decide) rfl (fun ls hl => ?_)
  refine zl_up (I := fun (i : Nat) (H : Heap) (locs : List Loc) (ls : Array Slot) => ∃ f g : Nat → Int32, b12 f ∧ b12 g ∧ va_P D vwCl [(h0, .inr (4, [.ref q_1, .ref q_2, .ref q_3, .int 1])), (q_1, .inl (k 0, 512, .inl f)), (q_2, .inl (k 0, 512, .inl g)), (q_3, .inl (k 0, 8, .inl (fun _ => 0)))] H ∧ va_D A [(h0, .inr (4, [.ref q_1, .ref q_2, .ref q_3, .int 1])), (q_1, .inl (k 0, 512, .inl f)), (q_2, .inl (k 0, 512, .inl g)), (q_3, .inl (k 0, 8, .inl (fun _ => 0)))] ∧ va_S A s.heap H locs ∧ lv_has ls 3 [(1, .int (mI (i : Int))), (0, .ref h0)]) 8 (fun ls => F0 m 37 ls []) ?_ ?_ 0 _ _ _ (Nat.zero_le _) ⟨fun _ => 0, fun _ => 0, b12_0, b12_0, hP, hD, hS, hl⟩
  · intro H locs ls hI
    obtain ⟨f, g, hf, hg, hP, hD, hS, hl⟩ := hI
    refine lv_iload_n hx hb dX4_init_37 rfl (lv_at hl 0 rfl) ?_
    refine lv_bipush (v := mI 8) hx hb dX4_init_38 (by decide) ?_
    refine sy_icmp_ge (tgt := 94) hx hb dX4_init_40 (by decide) (by decide) (by decide) (fun _ => ?_) (fun c9 => absurd c9 (by decide))
    exact zf_v hx hb hr hlocks dX4_init_94 (ul [q_1, q_2, q_3], f, g) ⟨hf, hg⟩ hP hD hS (Nat.le_of_ble_eq_true rfl) (Nat.le_of_ble_eq_true rfl)
  · intro i H locs ls hi hI ih
    obtain ⟨f, g, hf, hg, hP, hD, hS, hl⟩ := hI
    refine lv_iload_n hx hb dX4_init_37 rfl (lv_at hl 0 rfl) ?_
    refine lv_bipush (v := mI 8) hx hb dX4_init_38 (by decide) ?_
    refine sy_icmp_ge (tgt := 94) hx hb dX4_init_40 (by decide) (by omega) (by decide) (fun c9 => absurd c9 (by omega)) (fun _ => ?_)
    refine lv_iconst (v := mI 0) hx hb dX4_init_43 rfl ?_
    refine lv_istore_n (lv' := [(2, .int (mI 0)), (1, .int (mI (i : Int))), (0, .ref h0)]) hx hb dX4_init_44 rfl hl (by decide) rfl (fun ls hl => ?_)
    refine zl_up (I := fun (j : Nat) (H : Heap) (locs : List Loc) (ls : Array Slot) => ∃ f g : Nat → Int32, b12 f ∧ b12 g ∧ va_P D vwCl [(h0, .inr (4, [.ref q_1, .ref q_2, .ref q_3, .int 1])), (q_1, .inl (k 0, 512, .inl f)), (q_2, .inl (k 0, 512, .inl g)), (q_3, .inl (k 0, 8, .inl (fun _ => 0)))] H ∧ va_D A [(h0, .inr (4, [.ref q_1, .ref q_2, .ref q_3, .int 1])), (q_1, .inl (k 0, 512, .inl f)), (q_2, .inl (k 0, 512, .inl g)), (q_3, .inl (k 0, 8, .inl (fun _ => 0)))] ∧ va_S A s.heap H locs ∧ lv_has ls 3 [(2, .int (mI (j : Int))), (1, .int (mI (i : Int))), (0, .ref h0)]) 6 (fun ls => F0 m 45 ls []) ?_ ?_ 0 _ _ _ (Nat.zero_le _) ⟨f, g, hf, hg, hP, hD, hS, hl⟩
    · intro H locs ls hI
      obtain ⟨f, g, hf, hg, hP, hD, hS, hl⟩ := hI
      refine lv_iload_n hx hb dX4_init_45 rfl (lv_at hl 0 rfl) ?_
      refine lv_bipush (v := mI 6) hx hb dX4_init_46 (by decide) ?_
      refine sy_icmp_ge (tgt := 88) hx hb dX4_init_48 (by decide) (by decide) (by decide) (fun _ => ?_) (fun c9 => absurd c9 (by decide))
      refine lv_iinc (v := mI ((i + 1 : Nat) : Int)) (lv' := [(1, .int (mI ((i + 1 : Nat) : Int))), (2, .int (mI ((6 : Nat) : Int))), (0, .ref h0)]) hx hb dX4_init_88 hl (k := 1) rfl (mI_ad (by omega)) (by decide) rfl (fun ls hl => ?_)
      refine lv_goto (tgt := 37) hx hb dX4_init_91 (by decide) ?_
      exact ih _ _ _ ⟨f, g, hf, hg, hP, hD, hS, lv_sub hl [0, 2] rfl⟩
    · intro j H locs ls hj hI ih2
      obtain ⟨f, g, hf, hg, hP, hD, hS, hl⟩ := hI
      refine lv_iload_n hx hb dX4_init_45 rfl (lv_at hl 0 rfl) ?_
      refine lv_bipush (v := mI 6) hx hb dX4_init_46 (by decide) ?_
      refine sy_icmp_ge (tgt := 88) hx hb dX4_init_48 (by decide) (by omega) (by decide) (fun c9 => absurd c9 (by omega)) (fun _ => ?_)
      refine lv_aload_n hx hb dX4_init_51 rfl (lv_at hl 2 rfl) ?_
      refine va_get (D := D) (ci := 4) (v := .ref q_1) (C := RX4) (T := TX4) (N := 4) hx hb hts uc_4 hown hK hP 0 rfl rfl 0 (by decide) (hts _ uw_2_35) (fun _ h9 => h9) rfl dX4_init_52 ?_
      refine lv_iload_n hx hb dX4_init_55 rfl (lv_at hl 1 rfl) ?_
      refine lv_iload_n hx hb dX4_init_56 rfl (lv_at hl 0 rfl) ?_
      refine lv_iload_n hx hb dX4_init_57 rfl (lv_at hl 0 rfl) ?_
      refine lv_iload_n hx hb dX4_init_58 rfl (lv_at hl 1 rfl) ?_
      refine g_i hD hS hA (g_S (own := "HideReader$Lattice") (As := [.int (mI (j : Int)), .int (mI (i : Int))]) (rest := [.int (mI (j : Int)), .int (mI (i : Int)), .ref q_1]) hx hb hml hown hts hK hP hD (d_X4_movedStroke (l := l) (D := D) (k := k) (by omega) (by omega)) ck_X4_movedStroke uw_2_30 uw_2_29 rfl hl.1 rfl (Nat.le_of_ble_eq_true rfl) dX4_init_59 ⟨Nat.le_of_ble_eq_true rfl, Nat.le_of_ble_eq_true rfl⟩ ⟨Nat.le_of_ble_eq_true rfl, Nat.le_of_ble_eq_true rfl⟩) (fun r H locs hQ hS => ?_)
      obtain ⟨hr_, hP⟩ := hQ
      rw [mI_nat j, mI_nat i]
      refine zm_v (wr := [(h0, .inr (4, [.ref q_1, .ref q_2, .ref q_3, .int 1])), (q_2, .inl (k 0, 512, .inl g)), (q_3, .inl (k 0, 8, .inl (fun _ => 0)))]) hP hD hS hA [1] [0, 2, 3] (zm_S (own := "HideReader$Lattice") (As := [.ref q_1, .int (nI i), .int (nI j), .int (mI r)]) (rest := []) (ws := [(q_1, .inl (k 0, 512, .inl f))]) hx hb hml hown hts hK noX_stb (fun _ _ _ => trivial) (d_X4_enter l D k q_1 i j hi hj r hr_ f hf) ck_X4_enter uw_2_33 uw_2_32 hP hD [1] rfl (by decide) rfl hl.1 rfl (Nat.le_of_ble_eq_true rfl) dX4_init_62 ⟨Nat.le_of_ble_eq_true rfl, Nat.le_of_ble_eq_true rfl⟩ ⟨Nat.le_of_ble_eq_true rfl, Nat.le_of_ble_eq_true rfl⟩) rfl rfl (by decide) (by decide) (fun f2 H locs hf2 hP hD hS => ?_)
      have hP : va_P D vwCl [(h0, .inr (4, [.ref q_1, .ref q_2, .ref q_3, .int 1])), (q_1, .inl (k 0, 512, .inl f2)), (q_2, .inl (k 0, 512, .inl g)), (q_3, .inl (k 0, 8, .inl (fun _ => 0)))] H := zs_P hP [0, 3, 1, 2] rfl
      have hD : va_D A [(h0, .inr (4, [.ref q_1, .ref q_2, .ref q_3, .int 1])), (q_1, .inl (k 0, 512, .inl f2)), (q_2, .inl (k 0, 512, .inl g)), (q_3, .inl (k 0, 8, .inl (fun _ => 0)))] := hD.sub [0, 3, 1, 2] (by decide) rfl
      obtain ⟨f, hf, hP, hD⟩ : ∃ f : Nat → Int32, b12 f ∧ va_P D vwCl [(h0, .inr (4, [.ref q_1, .ref q_2, .ref q_3, .int 1])), (q_1, .inl (k 0, 512, .inl f)), (q_2, .inl (k 0, 512, .inl g)), (q_3, .inl (k 0, 8, .inl (fun _ => 0)))] H ∧ va_D A [(h0, .inr (4, [.ref q_1, .ref q_2, .ref q_3, .int 1])), (q_1, .inl (k 0, 512, .inl f)), (q_2, .inl (k 0, 512, .inl g)), (q_3, .inl (k 0, 8, .inl (fun _ => 0)))] := ⟨f2, hf2, hP, hD⟩
      refine lv_aload_n hx hb dX4_init_65 rfl (lv_at hl 2 rfl) ?_
      refine va_get (D := D) (ci := 4) (v := .ref q_2) (C := RX4) (T := TX4) (N := 4) hx hb hts uc_4 hown hK hP 0 rfl rfl 1 (by decide) (hts _ uw_2_36) (fun _ h9 => h9) rfl dX4_init_66 ?_
      refine lv_iload_n hx hb dX4_init_69 rfl (lv_at hl 1 rfl) ?_
      refine lv_iload_n hx hb dX4_init_70 rfl (lv_at hl 0 rfl) ?_
      refine lv_iload_n hx hb dX4_init_71 rfl (lv_at hl 0 rfl) ?_
      refine lv_bipush (v := mI 6) hx hb dX4_init_72 (by decide) ?_
      refine sy_iadd hx hb dX4_init_74 ((j : Int) + 6) rfl ?_
      refine lv_iload_n hx hb dX4_init_75 rfl (lv_at hl 1 rfl) ?_
      refine g_i hD hS hA (g_S (own := "HideReader$Lattice") (As := [.int (mI ((j : Int) + 6)), .int (mI (i : Int))]) (rest := [.int (mI (j : Int)), .int (mI (i : Int)), .ref q_2]) hx hb hml hown hts hK hP hD (d_X4_movedStroke (l := l) (D := D) (k := k) (by omega) (by omega)) ck_X4_movedStroke uw_2_30 uw_2_29 rfl hl.1 rfl (Nat.le_of_ble_eq_true rfl) dX4_init_76 ⟨Nat.le_of_ble_eq_true rfl, Nat.le_of_ble_eq_true rfl⟩ ⟨Nat.le_of_ble_eq_true rfl, Nat.le_of_ble_eq_true rfl⟩) (fun r H locs hQ hS => ?_)
      obtain ⟨hr_, hP⟩ := hQ
      rw [mI_nat j, mI_nat i]
      refine zm_v (wr := [(h0, .inr (4, [.ref q_1, .ref q_2, .ref q_3, .int 1])), (q_1, .inl (k 0, 512, .inl f)), (q_3, .inl (k 0, 8, .inl (fun _ => 0)))]) hP hD hS hA [2] [0, 1, 3] (zm_S (own := "HideReader$Lattice") (As := [.ref q_2, .int (nI i), .int (nI j), .int (mI r)]) (rest := []) (ws := [(q_2, .inl (k 0, 512, .inl g))]) hx hb hml hown hts hK noX_stb (fun _ _ _ => trivial) (d_X4_enter l D k q_2 i j hi hj r hr_ g hg) ck_X4_enter uw_2_33 uw_2_32 hP hD [2] rfl (by decide) rfl hl.1 rfl (Nat.le_of_ble_eq_true rfl) dX4_init_79 ⟨Nat.le_of_ble_eq_true rfl, Nat.le_of_ble_eq_true rfl⟩ ⟨Nat.le_of_ble_eq_true rfl, Nat.le_of_ble_eq_true rfl⟩) rfl rfl (by decide) (by decide) (fun g2 H locs hg2 hP hD hS => ?_)
      have hP : va_P D vwCl [(h0, .inr (4, [.ref q_1, .ref q_2, .ref q_3, .int 1])), (q_1, .inl (k 0, 512, .inl f)), (q_2, .inl (k 0, 512, .inl g2)), (q_3, .inl (k 0, 8, .inl (fun _ => 0)))] H := zs_P hP [0, 1, 3, 2] rfl
      have hD : va_D A [(h0, .inr (4, [.ref q_1, .ref q_2, .ref q_3, .int 1])), (q_1, .inl (k 0, 512, .inl f)), (q_2, .inl (k 0, 512, .inl g2)), (q_3, .inl (k 0, 8, .inl (fun _ => 0)))] := hD.sub [0, 1, 3, 2] (by decide) rfl
      refine lv_iinc (v := mI ((j + 1 : Nat) : Int)) (lv' := [(2, .int (mI ((j + 1 : Nat) : Int))), (1, .int (mI (i : Int))), (0, .ref h0)]) hx hb dX4_init_82 hl (k := 0) rfl (mI_ad (by omega)) (by decide) rfl (fun ls hl => ?_)
      refine lv_goto (tgt := 45) hx hb dX4_init_85 (by decide) ?_
      exact ih2 _ _ _ ⟨f, g2, hf, hg2, hP, hD, hS, hl⟩
