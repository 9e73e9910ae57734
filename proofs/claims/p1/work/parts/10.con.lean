abbrev enP (f : Nat → Int32) (w n : Nat) (mv : Int32) (g : Nat → Int32) : Prop := (∀ j, j < 64 * w + n → g j = f j) ∧ ∀ q, q < n → g (64 * w + n + q) = f (64 * w + q) ||| ((1 : Int32) <<< (mv &&& 31))
theorem en_s {f g φ : Nat → Int32} {n : Nat} {mv : Int32} (h : enP f 0 n mv g) (hf : ∀ j, j < n → f j = φ j) (hb : ∀ q, q < n → φ q ||| ((1 : Int32) <<< (mv &&& 31)) = φ (n + q)) : ∀ j, j < 2 * n → g j = φ j := by
  intro j hj
  rcases Nat.lt_or_ge j n with h1 | h1
  · rw [h.1 j (by omega), hf j h1]
  · have h2 := h.2 (j - n) (by omega)
    rw [show 64 * 0 + n + (j - n) = j by omega, show 64 * 0 + (j - n) = j - n by omega, hf (j - n) (by omega), hb (j - n) (by omega), show n + (j - n) = j by omega] at h2
    exact h2
theorem en_k {f g φ : Nat → Int32} {w n : Nat} {mv : Int32} (h : enP f w n mv g) (hw : 1 ≤ w) (hf : ∀ j, j < 64 → f j = φ j) : ∀ j, j < 64 → g j = φ j := fun j hj => by rw [h.1 j (by omega), hf j hj]
theorem low_n {f : Nat → Int32} (h : ∀ j, j < 64 → f j = nI j) : f = lowF f := by
  funext j
  unfold lowF
  split
  · exact h j (by assumption)
  · rfl
theorem high_n {f : Nat → Int32} (h : ∀ j, j < 64 → f j = (fun j => nI j <<< ((6 : Int32) &&& 31)) j) : f = highF f := by
  funext j
  unfold highF
  split
  · exact h j (by assumption)
  · rfl
set_option maxHeartbeats 4000000 in
set_option maxRecDepth 100000 in
theorem c_X4_enter (l : Launch) (D : va_G) (k : Nat → ClassId) (h0 w st n : Nat) (hw : w < 8) (hn : (1 : Int32) <<< (nI st &&& 31) = nI n) (h32 : n ≤ 32) (mv : Int32) (f : Nat → Int32) : MetM l D k yX4_enter cX4_enter 6 none 0 0 0 [.ref h0, .int (nI w), .int (nI st), .int mv] [(h0, .inl (k 0, 512, .inl f))] noX (qMv D (fun g : Nat → Int32 => enP f w n mv g) (fun g => [(h0, .inl (k 0, 512, .inl g))])) := by
  refine metM_of 4 ck_X4_enter (Nat.le_of_ble_eq_true rfl) (fun p e s m args below meth c A hx hb hml hr hlocks hown hts hK hX hP hD hA hin ls hl => ?_)
  have hS : va_S A s.heap s.heap [] := va_S.rf
  have hl : lv_has ls 6 [(0, .ref h0), (1, .int (nI w)), (2, .int (nI st)), (3, .int mv)] := hl
  refine lv_iload_n hx hb dX4_enter_0 rfl (lv_at hl 1 rfl) ?_
  refine lv_bipush (v := 64) hx hb dX4_enter_1 (by decide) ?_
  refine lv_imul hx hb dX4_enter_3 ?_
  refine lv_topc (nI (64 * w)) (by rw [Nat.mul_comm]; exact pk_mul w 64) ?_
  refine lv_istore (lv' := [(4, .int (nI (64 * w))), (0, .ref h0), (1, .int (nI w)), (2, .int (nI st)), (3, .int mv)]) hx hb dX4_enter_4 hl (by decide) rfl (fun ls hl => ?_)
  refine lv_iconst (v := 0) hx hb dX4_enter_6 (by decide) ?_
  refine lv_istore (lv' := [(5, .int 0), (4, .int (nI (64 * w))), (0, .ref h0), (1, .int (nI w)), (2, .int (nI st)), (3, .int mv)]) hx hb dX4_enter_7 hl (by decide) rfl (fun ls hl => ?_)
  refine zl_up (I := fun (i : Nat) (H : Heap) (locs : List Loc) (ls : Array Slot) => ∃ g : Nat → Int32, ((∀ j, j < 64 * w + n → g j = f j) ∧ ∀ q, q < i → g (64 * w + n + q) = f (64 * w + q) ||| ((1 : Int32) <<< (mv &&& 31))) ∧ va_P D vwCl [(h0, .inl (k 0, 512, .inl g))] H ∧ va_D A [(h0, .inl (k 0, 512, .inl g))] ∧ va_S A s.heap H locs ∧ lv_has ls 6 [(5, .int (nI i)), (4, .int (nI (64 * w))), (0, .ref h0), (1, .int (nI w)), (2, .int (nI st)), (3, .int mv)]) n (fun ls => F0 m 9 ls []) ?_ ?_ 0 _ _ _ (Nat.zero_le _) ⟨f, ⟨fun j _ => rfl, fun q hq => absurd hq (Nat.not_lt_zero _)⟩, hP, hD, hS, hl⟩
  · intro H locs ls hI
    obtain ⟨g, hg, hP, hD, hS, hl⟩ := hI
    refine lv_iload hx hb dX4_enter_9 (lv_at hl 0 rfl) ?_
    refine lv_iconst (v := 1) hx hb dX4_enter_11 (by decide) ?_
    refine lv_iload_n hx hb dX4_enter_12 rfl (lv_at hl 4 rfl) ?_
    refine lv_ishl hx hb dX4_enter_13 ?_
    refine lv_topc (nI n) hn ?_
    refine lv_icmp_ge (tgt := 45) hx hb dX4_enter_14 (by decide) (fun _ => ?_) (fun c9 => absurd (Int32.le_refl _) c9)
    exact zf_v hx hb hr hlocks dX4_enter_45 g hg hP hD hS (Nat.le_of_ble_eq_true rfl) (Nat.le_of_ble_eq_true rfl)
  · intro i H locs ls hi hI ih
    obtain ⟨g, hg, hP, hD, hS, hl⟩ := hI
    refine lv_iload hx hb dX4_enter_9 (lv_at hl 0 rfl) ?_
    refine lv_iconst (v := 1) hx hb dX4_enter_11 (by decide) ?_
    refine lv_iload_n hx hb dX4_enter_12 rfl (lv_at hl 4 rfl) ?_
    refine lv_ishl hx hb dX4_enter_13 ?_
    refine lv_topc (nI n) hn ?_
    refine lv_icmp_ge (tgt := 45) hx hb dX4_enter_14 (by decide) (fun c9 => absurd c9 (nI_ge hi (by omega))) (fun _ => ?_)
    refine lv_aload_n hx hb dX4_enter_17 rfl (lv_at hl 2 rfl) ?_
    refine lv_iload hx hb dX4_enter_18 (lv_at hl 1 rfl) ?_
    refine lv_iconst (v := 1) hx hb dX4_enter_20 (by decide) ?_
    refine lv_iload_n hx hb dX4_enter_21 rfl (lv_at hl 4 rfl) ?_
    refine lv_ishl hx hb dX4_enter_22 ?_
    refine lv_topc (nI n) hn ?_
    refine lv_iadd hx hb dX4_enter_23 ?_
    refine lv_topc (nI (64 * w + n)) (nI_add _ _) ?_
    refine lv_iload hx hb dX4_enter_24 (lv_at hl 0 rfl) ?_
    refine lv_iadd hx hb dX4_enter_26 ?_
    refine lv_topc (nI (64 * w + n + i)) (nI_add _ _) ?_
    refine lv_aload_n hx hb dX4_enter_27 rfl (lv_at hl 2 rfl) ?_
    refine lv_iload hx hb dX4_enter_28 (lv_at hl 1 rfl) ?_
    refine lv_iload hx hb dX4_enter_30 (lv_at hl 0 rfl) ?_
    refine lv_iadd hx hb dX4_enter_32 ?_
    refine lv_topc (nI (64 * w + i)) (nI_add _ _) ?_
    refine va_iald hx hb hK hP 0 0 rfl rfl (vp_in_nI (by omega) (by decide)) dX4_enter_33 ?_
    refine lv_topc (f (64 * w + i)) (by rw [nI_clamp (by omega)]; exact hg.1 _ (by omega)) ?_
    refine lv_iconst (v := 1) hx hb dX4_enter_34 (by decide) ?_
    refine lv_iload_n hx hb dX4_enter_35 rfl (lv_at hl 5 rfl) ?_
    refine lv_ishl hx hb dX4_enter_36 ?_
    refine lv_ior hx hb dX4_enter_37 ?_
    refine va_iast hx hb hK hP hD hS 0 0 rfl rfl (vp_in_nI (by omega) (by decide)) dX4_enter_38 (fun H locs hP hD hS => ?_)
    have ek : (nI (64 * w + n + i)).toNatClampNeg = 64 * w + n + i := nI_clamp (by omega)
    rw [ek] at hP hD
    refine lv_iinc (v := nI (i + 1)) (lv' := [(5, .int (nI (i + 1))), (4, .int (nI (64 * w))), (0, .ref h0), (1, .int (nI w)), (2, .int (nI st)), (3, .int mv)]) hx hb dX4_enter_39 hl (k := 0) rfl (nI_1 _) (by decide) rfl (fun ls hl => ?_)
    refine lv_goto (tgt := 9) hx hb dX4_enter_42 (by decide) ?_
    refine ih _ _ _ ⟨_, ⟨fun j hj => ?_, fun q hq => ?_⟩, hP, hD, hS, hl⟩
    · rw [pk_un (by omega)]
      exact hg.1 j hj
    · rcases Nat.lt_or_ge q i with h1 | h1
      · rw [pk_un (by omega)]
        exact hg.2 q h1
      · have : q = i := by omega
        subst this
        exact pk_us
theorem vu_c (G : Nat → Option Nat) (i q a b : Nat) (h0 : i ≠ 0) (h1 : i ≠ 1) : va_up (va_up (va_up G 0 (some a)) 1 (some b)) i (some q) = va_up (va_up (va_up G i (some q)) 0 (some a)) 1 (some b) := by
  funext j
  unfold va_up
  by_cases hj : j = i
  · subst hj
    simp [h0, h1]
  · simp [hj]
def xV : State → Prop := fun U => va_Nw (.methodLinkNest "HideReader$Valley" 62 yX2_init "HideReader") U
theorem xV_stb : Stb xV := fun a U g mk h => va_Nw.same rfl rfl h
theorem xV_w {s U : State} (hW : s.WarmedH U.vm) (h : xV s) : xV U := va_Nw.warmM hW h
def xHi : State → Prop := fun U => va_Nw (.methodLinkNest "HideReader$History" 34 yX5_init "HideReader") U ∧ va_AO "HideReader$Pasture" U
theorem xHi_stb : Stb xHi := fun a U g mk h => ⟨va_Nw.same rfl rfl h.1, va_AO.moved (u := U) (U := U.calling g mk a) (Vm.Alike.refl U.vm) h.2⟩
theorem xHi_w {s U : State} (hW : s.WarmedH U.vm) (h : xHi s) : xHi U := ⟨va_Nw.warmM hW h.1, va_AO.moved hW.alike h.2⟩
def sWB : List Int32 := [116, 117, 114, 110, 115, 32, 32, 32, 109, 105, 114, 114, 111, 114, 32, 32, 104, 101, 114, 100, 32, 32, 32, 32, 105, 114, 111, 110, 32, 32, 32, 32, 98, 101, 97, 115, 116, 32, 32, 32, 115, 104, 111, 119, 115, 32, 32, 32, 110, 105, 103, 104, 116, 32, 32, 32, 100, 114, 97, 119, 32, 32, 32, 32, 115, 116, 114, 111, 107, 101, 115, 32, 111, 102, 32, 32, 32, 32, 32, 32, 111, 114, 32, 32, 32, 32, 32, 32, 97, 110, 100, 32, 32, 32, 32, 32, 110, 111, 116, 32, 32, 32, 32, 32, 97, 103, 101, 32, 32, 32, 32, 32, 115, 99, 97, 114, 115, 32, 32, 32, 115, 116, 114, 111, 107, 101, 32, 32, 98, 111, 114, 110, 32, 32, 32, 32, 115, 101, 97, 115, 111, 110, 32, 32]
def xS (b aK aV : Nat) : State → Prop := fun U => va_O "java/lang/String" aK (fun q => b ≤ q) U U.heap ∧ va_OF "java/lang/String" "coder" "B" (.int 0) aK (fun q => b ≤ q) U U.heap ∧ va_OF "java/lang/String" "value" "[B" (.ref aV) aK (fun q => b ≤ q) U U.heap ∧ va_T .byte aV 144 (fun j => .int (sWB.getD j 0)) (fun q => b ≤ q) U U.heap ∧ va_Z "java/lang/String" "COMPACT_STRINGS" "Z" (.int 1) (fun q => b ≤ q) U U.heap ∧ va_Zq "jdk/internal/util/Preconditions" "SIOOBE_FORMATTER" "Ljava/util/function/BiFunction;" (fun q => b ≤ q) U U.heap
theorem xS_to {b aK aV : Nat} {s U : State} (hq : ∀ a : Nat, a < s.heap.size → ¬ b ≤ a → U.heap[a]? = s.heap[a]?) (hvm : s.vm.Alike U.vm) (h : xS b aK aV s) : xS b aK aV U :=
  ⟨(h.1.moved hvm).kept hq, (h.2.1.moved hvm).kept hq, (h.2.2.1.moved hvm).kept hq, (h.2.2.2.1.moved hvm).kept hq, (h.2.2.2.2.1.moved hvm).kept hq, (h.2.2.2.2.2.moved hvm).kept hq⟩
theorem xS_stb {b aK aV : Nat} : Stb (xS b aK aV) := fun a U g mk h => xS_to (s := U) (U := U.calling g mk a) (fun _ _ _ => rfl) (Vm.Alike.refl U.vm) h
theorem str_recv {b aK : Nat} {A : Nat → Prop} {s : State} {H : Heap} {locs : List Loc} (hO : va_O "java/lang/String" aK (fun q => b ≤ q) s s.heap) (hS : va_S A s.heap H locs) (hAb : ∀ q, A q → b ≤ q) : ∃ cell : Cell, H[aK]? = some cell ∧ cell.vm.isStatics = false ∧ s.vm.findClass "java/lang/String" = some cell.cls := by
  obtain ⟨cell, h1, h2, h3, h4⟩ := hO
  exact ⟨cell, by rw [hS.2.1 aK (Array.getElem?_eq_some_iff.mp h1).1 (fun h => h4 (hAb _ h))]; exact h1, h2, h3⟩
def xT (b aK aV : Nat) : State → Prop := fun U => xS b aK aV U ∧ vk_R "HideReader$Tape" 45 "turns   mirror  herd    iron    beast   shows   night   draw    strokes of      or      and     not     age     scars   stroke  born    season  " aK U
theorem xT_stb {b aK aV : Nat} : Stb (xT b aK aV) := fun a U g mk h => ⟨xS_stb a U g mk h.1, vk_R.same (u := U) (U := U.calling g mk a) rfl h.2⟩
theorem xT_to {b aK aV : Nat} {s U : State} (hq : ∀ a : Nat, a < s.heap.size → ¬ b ≤ a → U.heap[a]? = s.heap[a]?) (hW : s.WarmedH U.vm) (h : xT b aK aV s) : xT b aK aV U := ⟨xS_to hq hW.alike h.1, vk_R.warm hW h.2⟩
def xO (b aK aV : Nat) : State → Prop := fun U => va_Nw (.methodLinkNest "HideReader" 26 yX9_init "HideReader") U ∧ xV U ∧ xHi U ∧ xT b aK aV U
theorem xO_stb {b aK aV : Nat} : Stb (xO b aK aV) := fun a U g mk h => ⟨va_Nw.same rfl rfl h.1, xV_stb a U g mk h.2.1, xHi_stb a U g mk h.2.2.1, xT_stb a U g mk h.2.2.2⟩
theorem xO_to {b aK aV : Nat} {s U : State} (hq : ∀ a : Nat, a < s.heap.size → ¬ b ≤ a → U.heap[a]? = s.heap[a]?) (hW : s.WarmedH U.vm) (h : xO b aK aV s) : xO b aK aV U := ⟨va_Nw.warmM hW h.1, xV_w hW h.2.1, xHi_w hW h.2.2.1, xT_to hq hW h.2.2.2⟩
theorem xA_b {b h0 : Nat} {A : Nat → Prop} {e : va_E} {D : va_G} {s : State} (hb : b ≤ h0) (hAe : ∀ q : Nat, A q → va_A [(h0, e)] s.heap.size q) (hP : va_P D vwCl [(h0, e)] s.heap) : ∀ q : Nat, A q → b ≤ q := by
  intro q h
  rcases hAe q h with ⟨i, e', hi⟩ | h1
  · match i, hi with
    | 0, hi => cases hi; exact hb
    | i + 1, hi => simp at hi
  · have := (hP 0 _ rfl).lt
    have h2 : h0 < s.heap.size := this
    omega
set_option maxHeartbeats 4000000 in
set_option maxRecDepth 100000 in
theorem c_J0_coder (l : Launch) (D : va_G) (k : Nat → ClassId) (b aK aV : Nat) : MetR l D k yJ0_coder_7d493 cJ0_coder_7d493 1 (some .byte) 0 [.ref aK] [] (xS b aK aV) (vp_Si (fun r => r = 0)) := by
  refine metR_of 0 ck_J0_coder_7d493 (Nat.le_of_ble_eq_true rfl) (fun p e s m args below meth c hx hb hml hr hlocks hown hts hK hX hP hin ls hl => ?_)
  have hown : s.vm.findClass "java/lang/String" = some m.cls := hown
  have hl : lv_has ls 1 [(0, .ref aK)] := hl
  have hX0 := hX
  obtain ⟨hO, hC, hV, hT, hZ, hQ⟩ := hX
  have hS : va_S (fun q : Nat => b ≤ q) s.heap s.heap [] := va_S.rf
  refine va_gets hx hb hZ hS hown (hts _ uw_1_46) (fun _ h9 => h9) dJ0_coder_7d493_0 ?_
  refine lv_if_eq (tgt := 13) hx hb dJ0_coder_7d493_3 (by decide) (fun c9 => absurd c9 (by decide)) (fun _ => ?_)
  refine lv_aload_n hx hb dJ0_coder_7d493_6 rfl (lv_at hl 0 rfl) ?_
  refine vk_getf hx hb hC hS hown (hts _ uw_9_210) (fun _ h9 => h9) dJ0_coder_7d493_7 ?_
  refine lv_goto (tgt := 14) hx hb dJ0_coder_7d493_10 (by decide) ?_
  exact ze_z hx hb hr hlocks dJ0_coder_7d493_14 rfl rfl
set_option maxHeartbeats 4000000 in
set_option maxRecDepth 100000 in
theorem c_J0_isLatin1 (l : Launch) (D : va_G) (k : Nat → ClassId) (b aK aV : Nat) : MetR l D k yJ0_isLatin1_aae02 cJ0_isLatin1_aae02 1 (some .boolean) 0 [.ref aK] [] (xS b aK aV) (vp_Si (fun r => r = 1)) := by
  refine metR_of 0 ck_J0_isLatin1_aae02 (Nat.le_of_ble_eq_true rfl) (fun p e s m args below meth c hx hb hml hr hlocks hown hts hK hX hP hin ls hl => ?_)
  have hown : s.vm.findClass "java/lang/String" = some m.cls := hown
  have hl : lv_has ls 1 [(0, .ref aK)] := hl
  have hX0 := hX
  obtain ⟨hO, hC, hV, hT, hZ, hQ⟩ := hX
  have hS : va_S (fun q : Nat => b ≤ q) s.heap s.heap [] := va_S.rf
  refine va_gets hx hb hZ hS hown (hts _ uw_1_46) (fun _ h9 => h9) dJ0_isLatin1_aae02_0 ?_
  refine lv_if_eq (tgt := 17) hx hb dJ0_isLatin1_aae02_3 (by decide) (fun c9 => absurd c9 (by decide)) (fun _ => ?_)
  refine lv_aload_n hx hb dJ0_isLatin1_aae02_6 rfl (lv_at hl 0 rfl) ?_
  refine vk_getf hx hb hC hS hown (hts _ uw_9_210) (fun _ h9 => h9) dJ0_isLatin1_aae02_7 ?_
  refine lv_if_ne (tgt := 17) hx hb dJ0_isLatin1_aae02_10 (by decide) (fun c9 => absurd rfl c9) (fun _ => ?_)
  refine lv_iconst (v := 1) hx hb dJ0_isLatin1_aae02_13 (by decide) ?_
  refine lv_goto (tgt := 18) hx hb dJ0_isLatin1_aae02_14 (by decide) ?_
  exact ze_z hx hb hr hlocks dJ0_isLatin1_aae02_18 rfl rfl
set_option maxHeartbeats 4000000 in
set_option maxRecDepth 100000 in
theorem c_J0_length (l : Launch) (D : va_G) (k : Nat → ClassId) (b aK aV : Nat) : MetR l D k yJ0_length_8abf5 cJ0_length_8abf5 1 (some .int) 1 [.ref aK] [] (xS b aK aV) (vp_Si (fun r => r = 144)) := by
  refine metR_of 0 ck_J0_length_8abf5 (Nat.le_of_ble_eq_true rfl) (fun p e s m args below meth c hx hb hml hr hlocks hown hts hK hX hP hin ls hl => ?_)
  have hown : s.vm.findClass "java/lang/String" = some m.cls := hown
  have hl : lv_has ls 1 [(0, .ref aK)] := hl
  have hX0 := hX
  obtain ⟨hO, hC, hV, hT, hZ, hQ⟩ := hX
  have hS : va_S (fun q : Nat => b ≤ q) s.heap s.heap [] := va_S.rf
  refine lv_aload_n hx hb dJ0_length_8abf5_0 rfl (lv_at hl 0 rfl) ?_
  refine vk_getf hx hb hV hS hown (hts _ uw_9_209) (fun _ h9 => h9) dJ0_length_8abf5_1 ?_
  refine va_tlen hx hb hT hS (v := 144) rfl dJ0_length_8abf5_4 ?_
  refine lv_aload_n hx hb dJ0_length_8abf5_5 rfl (lv_at hl 0 rfl) ?_
  refine zr_i (zr_V (own := "java/lang/String") (As := []) (rest := [.int 144]) (ws := []) hx hb hml hown hts hK xS_stb (fun U hU hW => xS_to (fun a _ _ => by rw [hU]) hW.alike hX0) (c_J0_coder l D k b aK aV) ck_J0_coder_7d493 iv_J0_coder_7d493 uw_1_42 (str_recv hO hS (fun _ h => h)) (zs_P hP [] rfl) rfl hl.1 rfl (Nat.le_of_ble_eq_true rfl) dJ0_length_8abf5_6 ⟨Nat.le_of_ble_eq_true rfl, Nat.le_of_ble_eq_true rfl⟩ ⟨Nat.le_of_ble_eq_true rfl, Nat.le_of_ble_eq_true rfl⟩) (fun r hr1 => ?_)
  subst hr1
  refine lv_ishr hx hb dJ0_length_8abf5_9 ?_
  refine lv_topc 144 (by decide) ?_
  exact ze_i hx hb hr hlocks dJ0_length_8abf5_10 rfl
set_option maxHeartbeats 4000000 in
set_option maxRecDepth 100000 in
theorem c_J3_checkIndex_n (l : Launch) (D : va_G) (k : Nat → ClassId) (b aK aV : Nat) (i : Nat) (hi : i < 144) : MetR l D k yJ3_checkIndex_8e157 cJ3_checkIndex_8e157 3 (some .int) 0 [.int (nI i), .int 144, .null] [] (xS b aK aV) (vp_Si (fun r => True)) := by
  refine metR_of 3 ck_J3_checkIndex_8e157 (Nat.le_of_ble_eq_true rfl) (fun p e s m args below meth c hx hb hml hr hlocks hown hts hK hX hP hin ls hl => ?_)
  have hown : s.vm.findClass "jdk/internal/util/Preconditions" = some m.cls := hown
  have hl : lv_has ls 3 [(0, .int (nI i)), (1, .int 144), (2, .null)] := hl
  have hX0 := hX
  obtain ⟨hO, hC, hV, hT, hZ, hQ⟩ := hX
  have hS : va_S (fun q : Nat => b ≤ q) s.heap s.heap [] := va_S.rf
  refine lv_iload_n hx hb dJ3_checkIndex_8e157_0 rfl (lv_at hl 0 rfl) ?_
  refine lv_if_lt (tgt := 9) hx hb dJ3_checkIndex_8e157_1 (by decide) (fun c9 => absurd c9 (nI_pos (by omega))) (fun _ => ?_)
  refine lv_iload_n hx hb dJ3_checkIndex_8e157_4 rfl (lv_at hl 0 rfl) ?_
  refine lv_iload_n hx hb dJ3_checkIndex_8e157_5 rfl (lv_at hl 1 rfl) ?_
  refine lv_icmp_lt (tgt := 16) hx hb dJ3_checkIndex_8e157_6 (by decide) (fun _ => ?_) (fun c9 => absurd (nI_lt (b := 144) hi (by decide)) c9)
  refine lv_iload_n hx hb dJ3_checkIndex_8e157_16 rfl (lv_at hl 0 rfl) ?_
  exact ze_i hx hb hr hlocks dJ3_checkIndex_8e157_17 trivial
set_option maxHeartbeats 4000000 in
set_option maxRecDepth 100000 in
theorem c_J3_checkIndex_r (l : Launch) (D : va_G) (k : Nat → ClassId) (b aK aV : Nat) (i : Nat) (hi : i < 144) (t : Nat) : MetR l D k yJ3_checkIndex_8e157 cJ3_checkIndex_8e157 3 (some .int) 0 [.int (nI i), .int 144, .ref t] [] (xS b aK aV) (vp_Si (fun r => True)) := by
  refine metR_of 3 ck_J3_checkIndex_8e157 (Nat.le_of_ble_eq_true rfl) (fun p e s m args below meth c hx hb hml hr hlocks hown hts hK hX hP hin ls hl => ?_)
  have hown : s.vm.findClass "jdk/internal/util/Preconditions" = some m.cls := hown
  have hl : lv_has ls 3 [(0, .int (nI i)), (1, .int 144), (2, .ref t)] := hl
  have hX0 := hX
  obtain ⟨hO, hC, hV, hT, hZ, hQ⟩ := hX
  have hS : va_S (fun q : Nat => b ≤ q) s.heap s.heap [] := va_S.rf
  refine lv_iload_n hx hb dJ3_checkIndex_8e157_0 rfl (lv_at hl 0 rfl) ?_
  refine lv_if_lt (tgt := 9) hx hb dJ3_checkIndex_8e157_1 (by decide) (fun c9 => absurd c9 (nI_pos (by omega))) (fun _ => ?_)
  refine lv_iload_n hx hb dJ3_checkIndex_8e157_4 rfl (lv_at hl 0 rfl) ?_
  refine lv_iload_n hx hb dJ3_checkIndex_8e157_5 rfl (lv_at hl 1 rfl) ?_
  refine lv_icmp_lt (tgt := 16) hx hb dJ3_checkIndex_8e157_6 (by decide) (fun _ => ?_) (fun c9 => absurd (nI_lt (b := 144) hi (by decide)) c9)
  refine lv_iload_n hx hb dJ3_checkIndex_8e157_16 rfl (lv_at hl 0 rfl) ?_
  exact ze_i hx hb hr hlocks dJ3_checkIndex_8e157_17 trivial
set_option maxHeartbeats 4000000 in
set_option maxRecDepth 100000 in
theorem c_J0_checkIndex (l : Launch) (D : va_G) (k : Nat → ClassId) (b aK aV : Nat) (i : Nat) (hi : i < 144) : MetR l D k yJ0_checkIndex_df160 cJ0_checkIndex_df160 2 none 1 [.int (nI i), .int 144] [] (xS b aK aV) (va_Sv (fun r => True)) := by
  refine metR_of 2 ck_J0_checkIndex_df160 (Nat.le_of_ble_eq_true rfl) (fun p e s m args below meth c hx hb hml hr hlocks hown hts hK hX hP hin ls hl => ?_)
  have hown : s.vm.findClass "java/lang/String" = some m.cls := hown
  have hl : lv_has ls 2 [(0, .int (nI i)), (1, .int 144)] := hl
  have hX0 := hX
  obtain ⟨hO, hC, hV, hT, hZ, hQ⟩ := hX
  have hS : va_S (fun q : Nat => b ≤ q) s.heap s.heap [] := va_S.rf
  refine lv_iload_n hx hb dJ0_checkIndex_df160_0 rfl (lv_at hl 0 rfl) ?_
  refine lv_iload_n hx hb dJ0_checkIndex_df160_1 rfl (lv_at hl 1 rfl) ?_
  rcases hQ with hQ | ⟨t, hQ⟩
  · refine va_gets hx hb hQ hS hown (hts _ uw_1_62) (fun _ h9 => h9) dJ0_checkIndex_df160_2 ?_
    refine zr_i (zr_S (own := "java/lang/String") (As := [.int (nI i), .int 144, .null]) (rest := []) (ws := []) hx hb hml hown hts hK xS_stb (fun U hU hW => xS_to (fun a _ _ => by rw [hU]) hW.alike hX0) (c_J3_checkIndex_n l D k b aK aV i hi) ck_J3_checkIndex_8e157 uw_1_65 uw_1_64 (zs_P hP [] rfl) rfl hl.1 rfl (Nat.le_of_ble_eq_true rfl) dJ0_checkIndex_df160_5 ⟨Nat.le_of_ble_eq_true rfl, Nat.le_of_ble_eq_true rfl⟩ ⟨Nat.le_of_ble_eq_true rfl, Nat.le_of_ble_eq_true rfl⟩) (fun r hr1 => ?_)
    refine lv_pop hx hb dJ0_checkIndex_df160_8 rfl ?_
    exact ze_v hx hb hr hlocks dJ0_checkIndex_df160_9 trivial
  · refine va_gets hx hb hQ hS hown (hts _ uw_1_62) (fun _ h9 => h9) dJ0_checkIndex_df160_2 ?_
    refine zr_i (zr_S (own := "java/lang/String") (As := [.int (nI i), .int 144, .ref t]) (rest := []) (ws := []) hx hb hml hown hts hK xS_stb (fun U hU hW => xS_to (fun a _ _ => by rw [hU]) hW.alike hX0) (c_J3_checkIndex_r l D k b aK aV i hi t) ck_J3_checkIndex_8e157 uw_1_65 uw_1_64 (zs_P hP [] rfl) rfl hl.1 rfl (Nat.le_of_ble_eq_true rfl) dJ0_checkIndex_df160_5 ⟨Nat.le_of_ble_eq_true rfl, Nat.le_of_ble_eq_true rfl⟩ ⟨Nat.le_of_ble_eq_true rfl, Nat.le_of_ble_eq_true rfl⟩) (fun r hr1 => ?_)
    refine lv_pop hx hb dJ0_checkIndex_df160_8 rfl ?_
    exact ze_v hx hb hr hlocks dJ0_checkIndex_df160_9 trivial
set_option maxHeartbeats 4000000 in
set_option maxRecDepth 100000 in
theorem c_J1_charAt (l : Launch) (D : va_G) (k : Nat → ClassId) (b aK aV : Nat) (i : Nat) (hi : i < 144) : MetR l D k yJ1_charAt_3b067 cJ1_charAt_3b067 2 (some .char) 2 [.ref aV, .int (nI i)] [] (xS b aK aV) (vp_Si (fun r => narrow .char (.int r) = .int r)) := by
  refine metR_of 2 ck_J1_charAt_3b067 (Nat.le_of_ble_eq_true rfl) (fun p e s m args below meth c hx hb hml hr hlocks hown hts hK hX hP hin ls hl => ?_)
  have hown : s.vm.findClass "java/lang/StringLatin1" = some m.cls := hown
  have hl : lv_has ls 2 [(0, .ref aV), (1, .int (nI i))] := hl
  have hX0 := hX
  obtain ⟨hO, hC, hV, hT, hZ, hQ⟩ := hX
  have hS : va_S (fun q : Nat => b ≤ q) s.heap s.heap [] := va_S.rf
  refine lv_iload_n hx hb dJ1_charAt_3b067_0 rfl (lv_at hl 1 rfl) ?_
  refine lv_aload_n hx hb dJ1_charAt_3b067_1 rfl (lv_at hl 0 rfl) ?_
  refine va_tlen hx hb hT hS (v := 144) rfl dJ1_charAt_3b067_2 ?_
  refine zr_v (zr_S (own := "java/lang/StringLatin1") (As := [.int (nI i), .int 144]) (rest := []) (ws := []) hx hb hml hown hts hK xS_stb (fun U hU hW => xS_to (fun a _ _ => by rw [hU]) hW.alike hX0) (c_J0_checkIndex l D k b aK aV i hi) ck_J0_checkIndex_df160 uw_1_60 uw_1_59 (zs_P hP [] rfl) rfl hl.1 rfl (Nat.le_of_ble_eq_true rfl) dJ1_charAt_3b067_3 ⟨Nat.le_of_ble_eq_true rfl, Nat.le_of_ble_eq_true rfl⟩ ⟨Nat.le_of_ble_eq_true rfl, Nat.le_of_ble_eq_true rfl⟩) (fun _ => ?_)
  refine lv_aload_n hx hb dJ1_charAt_3b067_6 rfl (lv_at hl 0 rfl) ?_
  refine lv_iload_n hx hb dJ1_charAt_3b067_7 rfl (lv_at hl 1 rfl) ?_
  refine va_tb hx hb hT hS (vp_in_nI hi (by decide)) rfl dJ1_charAt_3b067_8 ?_
  refine lv_sipush (v := 255) hx hb dJ1_charAt_3b067_9 (by decide) ?_
  refine lv_iand hx hb dJ1_charAt_3b067_12 ?_
  refine lv_i2c hx hb dJ1_charAt_3b067_13 rfl ?_
  exact ze_z hx hb hr hlocks dJ1_charAt_3b067_14 (pk_nc _) (pk_nc _)
set_option maxHeartbeats 4000000 in
set_option maxRecDepth 100000 in
theorem c_J0_charAt (l : Launch) (D : va_G) (k : Nat → ClassId) (b aK aV : Nat) (i : Nat) (hi : i < 144) : MetR l D k yJ0_charAt_5068e cJ0_charAt_5068e 2 (some .char) 3 [.ref aK, .int (nI i)] [] (xS b aK aV) (vp_Si (fun r => narrow .char (.int r) = .int r)) := by
  refine metR_of 1 ck_J0_charAt_5068e (Nat.le_of_ble_eq_true rfl) (fun p e s m args below meth c hx hb hml hr hlocks hown hts hK hX hP hin ls hl => ?_)
  have hown : s.vm.findClass "java/lang/String" = some m.cls := hown
  have hl : lv_has ls 2 [(0, .ref aK), (1, .int (nI i))] := hl
  have hX0 := hX
  obtain ⟨hO, hC, hV, hT, hZ, hQ⟩ := hX
  have hS : va_S (fun q : Nat => b ≤ q) s.heap s.heap [] := va_S.rf
  refine lv_aload_n hx hb dJ0_charAt_5068e_0 rfl (lv_at hl 0 rfl) ?_
  refine zr_i (zr_V (own := "java/lang/String") (As := []) (rest := []) (ws := []) hx hb hml hown hts hK xS_stb (fun U hU hW => xS_to (fun a _ _ => by rw [hU]) hW.alike hX0) (c_J0_isLatin1 l D k b aK aV) ck_J0_isLatin1_aae02 iv_J0_isLatin1_aae02 uw_1_52 (str_recv hO hS (fun _ h => h)) (zs_P hP [] rfl) rfl hl.1 rfl (Nat.le_of_ble_eq_true rfl) dJ0_charAt_5068e_1 ⟨Nat.le_of_ble_eq_true rfl, Nat.le_of_ble_eq_true rfl⟩ ⟨Nat.le_of_ble_eq_true rfl, Nat.le_of_ble_eq_true rfl⟩) (fun r hr1 => ?_)
  subst hr1
  refine lv_if_eq (tgt := 16) hx hb dJ0_charAt_5068e_4 (by decide) (fun c9 => absurd c9 (by decide)) (fun _ => ?_)
  refine lv_aload_n hx hb dJ0_charAt_5068e_7 rfl (lv_at hl 0 rfl) ?_
  refine vk_getf hx hb hV hS hown (hts _ uw_9_209) (fun _ h9 => h9) dJ0_charAt_5068e_8 ?_
  refine lv_iload_n hx hb dJ0_charAt_5068e_11 rfl (lv_at hl 1 rfl) ?_
  refine zr_i (zr_S (own := "java/lang/String") (As := [.ref aV, .int (nI i)]) (rest := []) (ws := []) hx hb hml hown hts hK xS_stb (fun U hU hW => xS_to (fun a _ _ => by rw [hU]) hW.alike hX0) (c_J1_charAt l D k b aK aV i hi) ck_J1_charAt_3b067 uw_1_57 uw_1_56 (zs_P hP [] rfl) rfl hl.1 rfl (Nat.le_of_ble_eq_true rfl) dJ0_charAt_5068e_12 ⟨Nat.le_of_ble_eq_true rfl, Nat.le_of_ble_eq_true rfl⟩ ⟨Nat.le_of_ble_eq_true rfl, Nat.le_of_ble_eq_true rfl⟩) (fun r hr1 => ?_)
  exact ze_z hx hb hr hlocks dJ0_charAt_5068e_15 hr1 hr1
set_option maxHeartbeats 4000000 in
set_option maxRecDepth 100000 in
theorem c_X2_init (l : Launch) (D : va_G) (k : Nat → ClassId) (h0 : Nat) : MetM l D k yX2_init cX2_init 1 none 1 4 575 [.ref h0] [(h0, .inr (2, [.null, .null, .null, .null, .int 0, .int 0]))] noX (qMv D (fun _ : (Nat → Nat) => True) (fun u : (Nat → Nat) => [(h0, .inr (2, [.ref (u 0), .ref (u 1), .ref (u 2), .ref (u 3), .int 0, .int 0])), ((u 0), .inl (k 0, 270, .inl (fun _ => 0))), ((u 1), .inl (k 0, 270, .inl (fun _ => 0))), ((u 2), .inl (k 0, 30, .inl (fun _ => 0))), ((u 3), .inl (k 0, 5, .inl (fun _ => 0)))])) := by
  refine metM_of 0 ck_X2_init (Nat.le_of_ble_eq_true rfl) (fun p e s m args below meth c A hx hb hml hr hlocks hown hts hK hX hP hD hA hin ls hl => ?_)
  have hP : va_P D vwCl [(h0, .inr (2, [.null, .null, .null, .null, .int 0, .int 0]))] s.heap := hP
  have hD : va_D A [(h0, .inr (2, [.null, .null, .null, .null, .int 0, .int 0]))] := hD
  have hS : va_S A s.heap s.heap [] := va_S.rf
  have hin : meth.name = "<init>" := hin
  have hown : s.vm.findClass "HideReader$Formula" = some m.cls := hown
  have hl : lv_has ls 1 [(0, .ref h0)] := hl
  refine lv_aload_n hx hb dX2_init_0 rfl (lv_at hl 0 rfl) ?_
  refine W.objInit hx hb hown (hts _ uw_1_135) (hts _ uw_1_29) (hts _ uw_1_30) rfl (by rw [hml]; exact hl.1) rfl dX2_init_1 (Nat.le_of_ble_eq_true rfl) (Nat.le_of_ble_eq_true rfl) ?_
  refine W.eq (g2 := F0 m 4 ls []) rfl ?_
  refine lv_aload_n hx hb dX2_init_4 rfl (lv_at hl 0 rfl) ?_
  refine lv_sipush (v := 270) hx hb dX2_init_5 (by decide) ?_
  refine zn_a (atype := .int) (ty := .int) hx hb hts uw_1_121 rfl hK hP hD hS hA 0 rfl (a0 := (270, .inl (fun _ => 0))) (N' := 270) (fun _ => rfl) (by decide) (by decide) (by decide) (Nat.le_of_ble_eq_true rfl) (Nat.le_of_ble_eq_true rfl) dX2_init_8 (fun q_1 H hP hD hS => ?_)
  have hP : va_P D vwCl [(h0, .inr (2, [.null, .null, .null, .null, .int 0, .int 0])), (q_1, .inl (k 0, 270, .inl (fun _ => 0)))] H := hP
  have hD : va_D A [(h0, .inr (2, [.null, .null, .null, .null, .int 0, .int 0])), (q_1, .inl (k 0, 270, .inl (fun _ => 0)))] := hD
  refine W.widen (k := 1) (n := 270) (Nat.le_of_ble_eq_true rfl) (Nat.le_of_ble_eq_true rfl) ?_
  refine va_putF (D := D) (ci := 2) (v := .ref q_1) (ty := .array .int) (C := RX2) (T := TX2) (N := 6) hx hb hts uc_2 tyX2 tyX2_ok nmX2 hown hK hP hD hS 0 rfl rfl 0 (by decide) (hts _ uw_1_136) (fun _ h9 => h9) rfl hin rfl (by decide +kernel) rfl rfl (Nat.le_of_ble_eq_true rfl) dX2_init_10 (fun H locs hP hD hS => ?_)
  have hP : va_P D vwCl [(h0, .inr (2, [.ref q_1, .null, .null, .null, .int 0, .int 0])), (q_1, .inl (k 0, 270, .inl (fun _ => 0)))] H := hP
  have hD : va_D A [(h0, .inr (2, [.ref q_1, .null, .null, .null, .int 0, .int 0])), (q_1, .inl (k 0, 270, .inl (fun _ => 0)))] := hD
  refine lv_aload_n hx hb dX2_init_13 rfl (lv_at hl 0 rfl) ?_
  refine lv_sipush (v := 270) hx hb dX2_init_14 (by decide) ?_
  refine zn_a (atype := .int) (ty := .int) hx hb hts uw_1_121 rfl hK hP hD hS hA 0 rfl (a0 := (270, .inl (fun _ => 0))) (N' := 270) (fun _ => rfl) (by decide) (by decide) (by decide) (Nat.le_of_ble_eq_true rfl) (Nat.le_of_ble_eq_true rfl) dX2_init_17 (fun q_2 H hP hD hS => ?_)
  have hP : va_P D vwCl [(h0, .inr (2, [.ref q_1, .null, .null, .null, .int 0, .int 0])), (q_1, .inl (k 0, 270, .inl (fun _ => 0))), (q_2, .inl (k 0, 270, .inl (fun _ => 0)))] H := hP
  have hD : va_D A [(h0, .inr (2, [.ref q_1, .null, .null, .null, .int 0, .int 0])), (q_1, .inl (k 0, 270, .inl (fun _ => 0))), (q_2, .inl (k 0, 270, .inl (fun _ => 0)))] := hD
  refine W.widen (k := 2) (n := 540) (Nat.le_of_ble_eq_true rfl) (Nat.le_of_ble_eq_true rfl) ?_
  refine va_putF (D := D) (ci := 2) (v := .ref q_2) (ty := .array .int) (C := RX2) (T := TX2) (N := 6) hx hb hts uc_2 tyX2 tyX2_ok nmX2 hown hK hP hD hS 0 rfl rfl 1 (by decide) (hts _ uw_1_137) (fun _ h9 => h9) rfl hin rfl (by decide +kernel) rfl rfl (Nat.le_of_ble_eq_true rfl) dX2_init_19 (fun H locs hP hD hS => ?_)
  have hP : va_P D vwCl [(h0, .inr (2, [.ref q_1, .ref q_2, .null, .null, .int 0, .int 0])), (q_1, .inl (k 0, 270, .inl (fun _ => 0))), (q_2, .inl (k 0, 270, .inl (fun _ => 0)))] H := hP
  have hD : va_D A [(h0, .inr (2, [.ref q_1, .ref q_2, .null, .null, .int 0, .int 0])), (q_1, .inl (k 0, 270, .inl (fun _ => 0))), (q_2, .inl (k 0, 270, .inl (fun _ => 0)))] := hD
  refine lv_aload_n hx hb dX2_init_22 rfl (lv_at hl 0 rfl) ?_
  refine lv_bipush (v := 30) hx hb dX2_init_23 (by decide) ?_
  refine zn_a (atype := .int) (ty := .int) hx hb hts uw_1_121 rfl hK hP hD hS hA 0 rfl (a0 := (30, .inl (fun _ => 0))) (N' := 30) (fun _ => rfl) (by decide) (by decide) (by decide) (Nat.le_of_ble_eq_true rfl) (Nat.le_of_ble_eq_true rfl) dX2_init_25 (fun q_3 H hP hD hS => ?_)
  have hP : va_P D vwCl [(h0, .inr (2, [.ref q_1, .ref q_2, .null, .null, .int 0, .int 0])), (q_1, .inl (k 0, 270, .inl (fun _ => 0))), (q_2, .inl (k 0, 270, .inl (fun _ => 0))), (q_3, .inl (k 0, 30, .inl (fun _ => 0)))] H := hP
  have hD : va_D A [(h0, .inr (2, [.ref q_1, .ref q_2, .null, .null, .int 0, .int 0])), (q_1, .inl (k 0, 270, .inl (fun _ => 0))), (q_2, .inl (k 0, 270, .inl (fun _ => 0))), (q_3, .inl (k 0, 30, .inl (fun _ => 0)))] := hD
  refine W.widen (k := 3) (n := 570) (Nat.le_of_ble_eq_true rfl) (Nat.le_of_ble_eq_true rfl) ?_
  refine va_putF (D := D) (ci := 2) (v := .ref q_3) (ty := .array .int) (C := RX2) (T := TX2) (N := 6) hx hb hts uc_2 tyX2 tyX2_ok nmX2 hown hK hP hD hS 0 rfl rfl 2 (by decide) (hts _ uw_1_138) (fun _ h9 => h9) rfl hin rfl (by decide +kernel) rfl rfl (Nat.le_of_ble_eq_true rfl) dX2_init_27 (fun H locs hP hD hS => ?_)
  have hP : va_P D vwCl [(h0, .inr (2, [.ref q_1, .ref q_2, .ref q_3, .null, .int 0, .int 0])), (q_1, .inl (k 0, 270, .inl (fun _ => 0))), (q_2, .inl (k 0, 270, .inl (fun _ => 0))), (q_3, .inl (k 0, 30, .inl (fun _ => 0)))] H := hP
  have hD : va_D A [(h0, .inr (2, [.ref q_1, .ref q_2, .ref q_3, .null, .int 0, .int 0])), (q_1, .inl (k 0, 270, .inl (fun _ => 0))), (q_2, .inl (k 0, 270, .inl (fun _ => 0))), (q_3, .inl (k 0, 30, .inl (fun _ => 0)))] := hD
  refine lv_aload_n hx hb dX2_init_30 rfl (lv_at hl 0 rfl) ?_
  refine lv_iconst (v := 5) hx hb dX2_init_31 (by decide) ?_
  refine zn_a (atype := .int) (ty := .int) hx hb hts uw_1_121 rfl hK hP hD hS hA 0 rfl (a0 := (5, .inl (fun _ => 0))) (N' := 5) (fun _ => rfl) (by decide) (by decide) (by decide) (Nat.le_of_ble_eq_true rfl) (Nat.le_of_ble_eq_true rfl) dX2_init_32 (fun q_4 H hP hD hS => ?_)
  have hP : va_P D vwCl [(h0, .inr (2, [.ref q_1, .ref q_2, .ref q_3, .null, .int 0, .int 0])), (q_1, .inl (k 0, 270, .inl (fun _ => 0))), (q_2, .inl (k 0, 270, .inl (fun _ => 0))), (q_3, .inl (k 0, 30, .inl (fun _ => 0))), (q_4, .inl (k 0, 5, .inl (fun _ => 0)))] H := hP
  have hD : va_D A [(h0, .inr (2, [.ref q_1, .ref q_2, .ref q_3, .null, .int 0, .int 0])), (q_1, .inl (k 0, 270, .inl (fun _ => 0))), (q_2, .inl (k 0, 270, .inl (fun _ => 0))), (q_3, .inl (k 0, 30, .inl (fun _ => 0))), (q_4, .inl (k 0, 5, .inl (fun _ => 0)))] := hD
  refine W.widen (k := 4) (n := 575) (Nat.le_of_ble_eq_true rfl) (Nat.le_of_ble_eq_true rfl) ?_
  refine va_putF (D := D) (ci := 2) (v := .ref q_4) (ty := .array .int) (C := RX2) (T := TX2) (N := 6) hx hb hts uc_2 tyX2 tyX2_ok nmX2 hown hK hP hD hS 0 rfl rfl 3 (by decide) (hts _ uw_1_139) (fun _ h9 => h9) rfl hin rfl (by decide +kernel) rfl rfl (Nat.le_of_ble_eq_true rfl) dX2_init_34 (fun H locs hP hD hS => ?_)
  have hP : va_P D vwCl [(h0, .inr (2, [.ref q_1, .ref q_2, .ref q_3, .ref q_4, .int 0, .int 0])), (q_1, .inl (k 0, 270, .inl (fun _ => 0))), (q_2, .inl (k 0, 270, .inl (fun _ => 0))), (q_3, .inl (k 0, 30, .inl (fun _ => 0))), (q_4, .inl (k 0, 5, .inl (fun _ => 0)))] H := hP
  have hD : va_D A [(h0, .inr (2, [.ref q_1, .ref q_2, .ref q_3, .ref q_4, .int 0, .int 0])), (q_1, .inl (k 0, 270, .inl (fun _ => 0))), (q_2, .inl (k 0, 270, .inl (fun _ => 0))), (q_3, .inl (k 0, 30, .inl (fun _ => 0))), (q_4, .inl (k 0, 5, .inl (fun _ => 0)))] := hD
  refine lv_aload_n hx hb dX2_init_37 rfl (lv_at hl 0 rfl) ?_
  refine lv_iconst (v := 0) hx hb dX2_init_38 (by decide) ?_
  refine va_put (D := D) (ci := 2) (v := .int 0) (ty := .int) (C := RX2) (T := TX2) (N := 6) hx hb hts uc_2 tyX2 tyX2_ok nmX2 hown hK hP hD hS 0 rfl rfl 4 (by decide) (hts _ uw_1_140) (fun _ h9 => h9) rfl (by decide +kernel) rfl rfl (Nat.le_of_ble_eq_true rfl) dX2_init_39 (fun H locs hP hD hS => ?_)
  have hP : va_P D vwCl [(h0, .inr (2, [.ref q_1, .ref q_2, .ref q_3, .ref q_4, .int 0, .int 0])), (q_1, .inl (k 0, 270, .inl (fun _ => 0))), (q_2, .inl (k 0, 270, .inl (fun _ => 0))), (q_3, .inl (k 0, 30, .inl (fun _ => 0))), (q_4, .inl (k 0, 5, .inl (fun _ => 0)))] H := hP
  have hD : va_D A [(h0, .inr (2, [.ref q_1, .ref q_2, .ref q_3, .ref q_4, .int 0, .int 0])), (q_1, .inl (k 0, 270, .inl (fun _ => 0))), (q_2, .inl (k 0, 270, .inl (fun _ => 0))), (q_3, .inl (k 0, 30, .inl (fun _ => 0))), (q_4, .inl (k 0, 5, .inl (fun _ => 0)))] := hD
  refine lv_aload_n hx hb dX2_init_42 rfl (lv_at hl 0 rfl) ?_
  refine lv_iconst (v := 0) hx hb dX2_init_43 (by decide) ?_
  refine va_put (D := D) (ci := 2) (v := .int 0) (ty := .int) (C := RX2) (T := TX2) (N := 6) hx hb hts uc_2 tyX2 tyX2_ok nmX2 hown hK hP hD hS 0 rfl rfl 5 (by decide) (hts _ uw_1_141) (fun _ h9 => h9) rfl (by decide +kernel) rfl rfl (Nat.le_of_ble_eq_true rfl) dX2_init_44 (fun H locs hP hD hS => ?_)
  have hP : va_P D vwCl [(h0, .inr (2, [.ref q_1, .ref q_2, .ref q_3, .ref q_4, .int 0, .int 0])), (q_1, .inl (k 0, 270, .inl (fun _ => 0))), (q_2, .inl (k 0, 270, .inl (fun _ => 0))), (q_3, .inl (k 0, 30, .inl (fun _ => 0))), (q_4, .inl (k 0, 5, .inl (fun _ => 0)))] H := hP
  have hD : va_D A [(h0, .inr (2, [.ref q_1, .ref q_2, .ref q_3, .ref q_4, .int 0, .int 0])), (q_1, .inl (k 0, 270, .inl (fun _ => 0))), (q_2, .inl (k 0, 270, .inl (fun _ => 0))), (q_3, .inl (k 0, 30, .inl (fun _ => 0))), (q_4, .inl (k 0, 5, .inl (fun _ => 0)))] := hD
  exact zf_v hx hb hr hlocks dX2_init_47 (ul [q_1, q_2, q_3, q_4]) trivial (zs_P hP [0, 1, 2, 3, 4] rfl) (hD.sub [0, 1, 2, 3, 4] (by decide) rfl) hS (Nat.le_of_ble_eq_true rfl) (Nat.le_of_ble_eq_true rfl)
set_option maxHeartbeats 4000000 in
set_option maxRecDepth 100000 in
theorem c_X9_init (l : Launch) (D : va_G) (k : Nat → ClassId) (h0 : Nat) : MetM l D k yX9_init cX9_init 1 none 2 12 633 [.ref h0] [(h0, .inr (9, [.int 0, .int 0, .int 0, .int 0, .int 0, .int 0, .int 0, .int 0, .null, .null, .null, .null, .null, .null, .null, .null]))] xV (qMv D (fun _ : (Nat → Nat) => True) (fun u : (Nat → Nat) => [(h0, .inr (9, [.int 1, .int 0, .int 0, .int 0, .int 0, .int 0, .int 0, .int 0, .ref (u 0), .ref (u 1), .ref (u 2), .ref (u 3), .ref (u 4), .ref (u 5), .ref (u 6), .ref (u 7)])), ((u 0), .inl (k 2, 8, .inr (.inl (fun _ => 0)))), ((u 1), .inl (k 2, 6, .inr (.inl (fun _ => 0)))), ((u 2), .inl (k 2, 8, .inr (.inl (fun _ => 0)))), ((u 3), .inl (k 0, 8, .inl (fun _ => 0))), ((u 4), .inl (k 0, 6, .inl (fun _ => 0))), ((u 5), .inl (k 0, 8, .inl (fun _ => 0))), ((u 6), .inl (k 0, 8, .inl (fun _ => 0))), ((u 7), .inr (2, [.ref (u 8), .ref (u 9), .ref (u 10), .ref (u 11), .int 0, .int 0])), ((u 8), .inl (k 0, 270, .inl (fun _ => 0))), ((u 9), .inl (k 0, 270, .inl (fun _ => 0))), ((u 10), .inl (k 0, 30, .inl (fun _ => 0))), ((u 11), .inl (k 0, 5, .inl (fun _ => 0)))])) := by
  refine metM_of 0 ck_X9_init (Nat.le_of_ble_eq_true rfl) (fun p e s m args below meth c A hx hb hml hr hlocks hown hts hK hX hP hD hA hin ls hl => ?_)
  have hP : va_P D vwCl [(h0, .inr (9, [.int 0, .int 0, .int 0, .int 0, .int 0, .int 0, .int 0, .int 0, .null, .null, .null, .null, .null, .null, .null, .null]))] s.heap := hP
  have hD : va_D A [(h0, .inr (9, [.int 0, .int 0, .int 0, .int 0, .int 0, .int 0, .int 0, .int 0, .null, .null, .null, .null, .null, .null, .null, .null]))] := hD
  have hS : va_S A s.heap s.heap [] := va_S.rf
  have hin : meth.name = "<init>" := hin
  have hown : s.vm.findClass "HideReader$Valley" = some m.cls := hown
  have hl : lv_has ls 1 [(0, .ref h0)] := hl
  have hN_X2_init : va_Nw (.methodLinkNest "HideReader$Valley" 62 yX2_init "HideReader") s := hX
  refine lv_aload_n hx hb dX9_init_0 rfl (lv_at hl 0 rfl) ?_
  refine W.objInit hx hb hown (hts _ uw_1_129) (hts _ uw_1_29) (hts _ uw_1_30) rfl (by rw [hml]; exact hl.1) rfl dX9_init_1 (Nat.le_of_ble_eq_true rfl) (Nat.le_of_ble_eq_true rfl) ?_
  refine W.eq (g2 := F0 m 4 ls []) rfl ?_
  refine lv_aload_n hx hb dX9_init_4 rfl (lv_at hl 0 rfl) ?_
  refine lv_iconst (v := 1) hx hb dX9_init_5 (by decide) ?_
  refine va_put (D := D) (ci := 9) (v := .int 1) (ty := .int) (C := RX9) (T := TX9) (N := 16) hx hb hts uc_9 tyX9 tyX9_ok nmX9 hown hK hP hD hS 0 rfl rfl 0 (by decide) (hts _ uw_1_155) (fun _ h9 => h9) rfl (by decide +kernel) rfl rfl (Nat.le_of_ble_eq_true rfl) dX9_init_6 (fun H locs hP hD hS => ?_)
  have hP : va_P D vwCl [(h0, .inr (9, [.int 1, .int 0, .int 0, .int 0, .int 0, .int 0, .int 0, .int 0, .null, .null, .null, .null, .null, .null, .null, .null]))] H := hP
  have hD : va_D A [(h0, .inr (9, [.int 1, .int 0, .int 0, .int 0, .int 0, .int 0, .int 0, .int 0, .null, .null, .null, .null, .null, .null, .null, .null]))] := hD
  refine lv_aload_n hx hb dX9_init_9 rfl (lv_at hl 0 rfl) ?_
  refine lv_iconst (v := 0) hx hb dX9_init_10 (by decide) ?_
  refine va_put (D := D) (ci := 9) (v := .int 0) (ty := .boolean) (C := RX9) (T := TX9) (N := 16) hx hb hts uc_9 tyX9 tyX9_ok nmX9 hown hK hP hD hS 0 rfl rfl 1 (by decide) (hts _ uw_1_158) (fun _ h9 => h9) rfl (by decide +kernel) rfl rfl (Nat.le_of_ble_eq_true rfl) dX9_init_11 (fun H locs hP hD hS => ?_)
  have hP : va_P D vwCl [(h0, .inr (9, [.int 1, .int 0, .int 0, .int 0, .int 0, .int 0, .int 0, .int 0, .null, .null, .null, .null, .null, .null, .null, .null]))] H := hP
  have hD : va_D A [(h0, .inr (9, [.int 1, .int 0, .int 0, .int 0, .int 0, .int 0, .int 0, .int 0, .null, .null, .null, .null, .null, .null, .null, .null]))] := hD
  refine lv_aload_n hx hb dX9_init_14 rfl (lv_at hl 0 rfl) ?_
  refine lv_iconst (v := 0) hx hb dX9_init_15 (by decide) ?_
  refine va_put (D := D) (ci := 9) (v := .int 0) (ty := .int) (C := RX9) (T := TX9) (N := 16) hx hb hts uc_9 tyX9 tyX9_ok nmX9 hown hK hP hD hS 0 rfl rfl 2 (by decide) (hts _ uw_1_161) (fun _ h9 => h9) rfl (by decide +kernel) rfl rfl (Nat.le_of_ble_eq_true rfl) dX9_init_16 (fun H locs hP hD hS => ?_)
  have hP : va_P D vwCl [(h0, .inr (9, [.int 1, .int 0, .int 0, .int 0, .int 0, .int 0, .int 0, .int 0, .null, .null, .null, .null, .null, .null, .null, .null]))] H := hP
  have hD : va_D A [(h0, .inr (9, [.int 1, .int 0, .int 0, .int 0, .int 0, .int 0, .int 0, .int 0, .null, .null, .null, .null, .null, .null, .null, .null]))] := hD
  refine lv_aload_n hx hb dX9_init_19 rfl (lv_at hl 0 rfl) ?_
  refine lv_iconst (v := 0) hx hb dX9_init_20 (by decide) ?_
  refine va_put (D := D) (ci := 9) (v := .int 0) (ty := .int) (C := RX9) (T := TX9) (N := 16) hx hb hts uc_9 tyX9 tyX9_ok nmX9 hown hK hP hD hS 0 rfl rfl 3 (by decide) (hts _ uw_1_165) (fun _ h9 => h9) rfl (by decide +kernel) rfl rfl (Nat.le_of_ble_eq_true rfl) dX9_init_21 (fun H locs hP hD hS => ?_)
  have hP : va_P D vwCl [(h0, .inr (9, [.int 1, .int 0, .int 0, .int 0, .int 0, .int 0, .int 0, .int 0, .null, .null, .null, .null, .null, .null, .null, .null]))] H := hP
  have hD : va_D A [(h0, .inr (9, [.int 1, .int 0, .int 0, .int 0, .int 0, .int 0, .int 0, .int 0, .null, .null, .null, .null, .null, .null, .null, .null]))] := hD
  refine lv_aload_n hx hb dX9_init_24 rfl (lv_at hl 0 rfl) ?_
  refine lv_iconst (v := 0) hx hb dX9_init_25 (by decide) ?_
  refine va_put (D := D) (ci := 9) (v := .int 0) (ty := .int) (C := RX9) (T := TX9) (N := 16) hx hb hts uc_9 tyX9 tyX9_ok nmX9 hown hK hP hD hS 0 rfl rfl 4 (by decide) (hts _ uw_1_168) (fun _ h9 => h9) rfl (by decide +kernel) rfl rfl (Nat.le_of_ble_eq_true rfl) dX9_init_26 (fun H locs hP hD hS => ?_)
  have hP : va_P D vwCl [(h0, .inr (9, [.int 1, .int 0, .int 0, .int 0, .int 0, .int 0, .int 0, .int 0, .null, .null, .null, .null, .null, .null, .null, .null]))] H := hP
  have hD : va_D A [(h0, .inr (9, [.int 1, .int 0, .int 0, .int 0, .int 0, .int 0, .int 0, .int 0, .null, .null, .null, .null, .null, .null, .null, .null]))] := hD
  refine lv_aload_n hx hb dX9_init_29 rfl (lv_at hl 0 rfl) ?_
  refine lv_iconst (v := 0) hx hb dX9_init_30 (by decide) ?_
  refine va_put (D := D) (ci := 9) (v := .int 0) (ty := .int) (C := RX9) (T := TX9) (N := 16) hx hb hts uc_9 tyX9 tyX9_ok nmX9 hown hK hP hD hS 0 rfl rfl 5 (by decide) (hts _ uw_1_173) (fun _ h9 => h9) rfl (by decide +kernel) rfl rfl (Nat.le_of_ble_eq_true rfl) dX9_init_31 (fun H locs hP hD hS => ?_)
  have hP : va_P D vwCl [(h0, .inr (9, [.int 1, .int 0, .int 0, .int 0, .int 0, .int 0, .int 0, .int 0, .null, .null, .null, .null, .null, .null, .null, .null]))] H := hP
  have hD : va_D A [(h0, .inr (9, [.int 1, .int 0, .int 0, .int 0, .int 0, .int 0, .int 0, .int 0, .null, .null, .null, .null, .null, .null, .null, .null]))] := hD
  refine lv_aload_n hx hb dX9_init_34 rfl (lv_at hl 0 rfl) ?_
  refine lv_iconst (v := 0) hx hb dX9_init_35 (by decide) ?_
  refine va_put (D := D) (ci := 9) (v := .int 0) (ty := .int) (C := RX9) (T := TX9) (N := 16) hx hb hts uc_9 tyX9 tyX9_ok nmX9 hown hK hP hD hS 0 rfl rfl 6 (by decide) (hts _ uw_1_178) (fun _ h9 => h9) rfl (by decide +kernel) rfl rfl (Nat.le_of_ble_eq_true rfl) dX9_init_36 (fun H locs hP hD hS => ?_)
  have hP : va_P D vwCl [(h0, .inr (9, [.int 1, .int 0, .int 0, .int 0, .int 0, .int 0, .int 0, .int 0, .null, .null, .null, .null, .null, .null, .null, .null]))] H := hP
  have hD : va_D A [(h0, .inr (9, [.int 1, .int 0, .int 0, .int 0, .int 0, .int 0, .int 0, .int 0, .null, .null, .null, .null, .null, .null, .null, .null]))] := hD
  refine lv_aload_n hx hb dX9_init_39 rfl (lv_at hl 0 rfl) ?_
  refine lv_iconst (v := 0) hx hb dX9_init_40 (by decide) ?_
  refine va_put (D := D) (ci := 9) (v := .int 0) (ty := .int) (C := RX9) (T := TX9) (N := 16) hx hb hts uc_9 tyX9 tyX9_ok nmX9 hown hK hP hD hS 0 rfl rfl 7 (by decide) (hts _ uw_1_184) (fun _ h9 => h9) rfl (by decide +kernel) rfl rfl (Nat.le_of_ble_eq_true rfl) dX9_init_41 (fun H locs hP hD hS => ?_)
  have hP : va_P D vwCl [(h0, .inr (9, [.int 1, .int 0, .int 0, .int 0, .int 0, .int 0, .int 0, .int 0, .null, .null, .null, .null, .null, .null, .null, .null]))] H := hP
  have hD : va_D A [(h0, .inr (9, [.int 1, .int 0, .int 0, .int 0, .int 0, .int 0, .int 0, .int 0, .null, .null, .null, .null, .null, .null, .null, .null]))] := hD
  refine lv_aload_n hx hb dX9_init_44 rfl (lv_at hl 0 rfl) ?_
  refine lv_bipush (v := 8) hx hb dX9_init_45 (by decide) ?_
  refine zn_a (atype := .long) (ty := .long) hx hb hts uw_1_123 rfl hK hP hD hS hA 2 rfl (a0 := (8, .inr (.inl (fun _ => 0)))) (N' := 8) (fun _ => rfl) (by decide) (by decide) (by decide) (Nat.le_of_ble_eq_true rfl) (Nat.le_of_ble_eq_true rfl) dX9_init_47 (fun q_1 H hP hD hS => ?_)
  have hP : va_P D vwCl [(h0, .inr (9, [.int 1, .int 0, .int 0, .int 0, .int 0, .int 0, .int 0, .int 0, .null, .null, .null, .null, .null, .null, .null, .null])), (q_1, .inl (k 2, 8, .inr (.inl (fun _ => 0))))] H := hP
  have hD : va_D A [(h0, .inr (9, [.int 1, .int 0, .int 0, .int 0, .int 0, .int 0, .int 0, .int 0, .null, .null, .null, .null, .null, .null, .null, .null])), (q_1, .inl (k 2, 8, .inr (.inl (fun _ => 0))))] := hD
  refine W.widen (k := 1) (n := 8) (Nat.le_of_ble_eq_true rfl) (Nat.le_of_ble_eq_true rfl) ?_
  refine va_putF (D := D) (ci := 9) (v := .ref q_1) (ty := .array .long) (C := RX9) (T := TX9) (N := 16) hx hb hts uc_9 tyX9 tyX9_ok nmX9 hown hK hP hD hS 0 rfl rfl 8 (by decide) (hts _ uw_1_186) (fun _ h9 => h9) rfl hin rfl (by decide +kernel) rfl rfl (Nat.le_of_ble_eq_true rfl) dX9_init_49 (fun H locs hP hD hS => ?_)
  have hP : va_P D vwCl [(h0, .inr (9, [.int 1, .int 0, .int 0, .int 0, .int 0, .int 0, .int 0, .int 0, .ref q_1, .null, .null, .null, .null, .null, .null, .null])), (q_1, .inl (k 2, 8, .inr (.inl (fun _ => 0))))] H := hP
  have hD : va_D A [(h0, .inr (9, [.int 1, .int 0, .int 0, .int 0, .int 0, .int 0, .int 0, .int 0, .ref q_1, .null, .null, .null, .null, .null, .null, .null])), (q_1, .inl (k 2, 8, .inr (.inl (fun _ => 0))))] := hD
  refine lv_aload_n hx hb dX9_init_52 rfl (lv_at hl 0 rfl) ?_
  refine lv_bipush (v := 6) hx hb dX9_init_53 (by decide) ?_
  refine zn_a (atype := .long) (ty := .long) hx hb hts uw_1_123 rfl hK hP hD hS hA 2 rfl (a0 := (6, .inr (.inl (fun _ => 0)))) (N' := 6) (fun _ => rfl) (by decide) (by decide) (by decide) (Nat.le_of_ble_eq_true rfl) (Nat.le_of_ble_eq_true rfl) dX9_init_55 (fun q_2 H hP hD hS => ?_)
  have hP : va_P D vwCl [(h0, .inr (9, [.int 1, .int 0, .int 0, .int 0, .int 0, .int 0, .int 0, .int 0, .ref q_1, .null, .null, .null, .null, .null, .null, .null])), (q_1, .inl (k 2, 8, .inr (.inl (fun _ => 0)))), (q_2, .inl (k 2, 6, .inr (.inl (fun _ => 0))))] H := hP
  have hD : va_D A [(h0, .inr (9, [.int 1, .int 0, .int 0, .int 0, .int 0, .int 0, .int 0, .int 0, .ref q_1, .null, .null, .null, .null, .null, .null, .null])), (q_1, .inl (k 2, 8, .inr (.inl (fun _ => 0)))), (q_2, .inl (k 2, 6, .inr (.inl (fun _ => 0))))] := hD
  refine W.widen (k := 2) (n := 14) (Nat.le_of_ble_eq_true rfl) (Nat.le_of_ble_eq_true rfl) ?_
  refine va_putF (D := D) (ci := 9) (v := .ref q_2) (ty := .array .long) (C := RX9) (T := TX9) (N := 16) hx hb hts uc_9 tyX9 tyX9_ok nmX9 hown hK hP hD hS 0 rfl rfl 9 (by decide) (hts _ uw_1_188) (fun _ h9 => h9) rfl hin rfl (by decide +kernel) rfl rfl (Nat.le_of_ble_eq_true rfl) dX9_init_57 (fun H locs hP hD hS => ?_)
  have hP : va_P D vwCl [(h0, .inr (9, [.int 1, .int 0, .int 0, .int 0, .int 0, .int 0, .int 0, .int 0, .ref q_1, .ref q_2, .null, .null, .null, .null, .null, .null])), (q_1, .inl (k 2, 8, .inr (.inl (fun _ => 0)))), (q_2, .inl (k 2, 6, .inr (.inl (fun _ => 0))))] H := hP
  have hD : va_D A [(h0, .inr (9, [.int 1, .int 0, .int 0, .int 0, .int 0, .int 0, .int 0, .int 0, .ref q_1, .ref q_2, .null, .null, .null, .null, .null, .null])), (q_1, .inl (k 2, 8, .inr (.inl (fun _ => 0)))), (q_2, .inl (k 2, 6, .inr (.inl (fun _ => 0))))] := hD
  refine lv_aload_n hx hb dX9_init_60 rfl (lv_at hl 0 rfl) ?_
  refine lv_bipush (v := 8) hx hb dX9_init_61 (by decide) ?_
  refine zn_a (atype := .long) (ty := .long) hx hb hts uw_1_123 rfl hK hP hD hS hA 2 rfl (a0 := (8, .inr (.inl (fun _ => 0)))) (N' := 8) (fun _ => rfl) (by decide) (by decide) (by decide) (Nat.le_of_ble_eq_true rfl) (Nat.le_of_ble_eq_true rfl) dX9_init_63 (fun q_3 H hP hD hS => ?_)
  have hP : va_P D vwCl [(h0, .inr (9, [.int 1, .int 0, .int 0, .int 0, .int 0, .int 0, .int 0, .int 0, .ref q_1, .ref q_2, .null, .null, .null, .null, .null, .null])), (q_1, .inl (k 2, 8, .inr (.inl (fun _ => 0)))), (q_2, .inl (k 2, 6, .inr (.inl (fun _ => 0)))), (q_3, .inl (k 2, 8, .inr (.inl (fun _ => 0))))] H := hP
  have hD : va_D A [(h0, .inr (9, [.int 1, .int 0, .int 0, .int 0, .int 0, .int 0, .int 0, .int 0, .ref q_1, .ref q_2, .null, .null, .null, .null, .null, .null])), (q_1, .inl (k 2, 8, .inr (.inl (fun _ => 0)))), (q_2, .inl (k 2, 6, .inr (.inl (fun _ => 0)))), (q_3, .inl (k 2, 8, .inr (.inl (fun _ => 0))))] := hD
  refine W.widen (k := 3) (n := 22) (Nat.le_of_ble_eq_true rfl) (Nat.le_of_ble_eq_true rfl) ?_
  refine va_putF (D := D) (ci := 9) (v := .ref q_3) (ty := .array .long) (C := RX9) (T := TX9) (N := 16) hx hb hts uc_9 tyX9 tyX9_ok nmX9 hown hK hP hD hS 0 rfl rfl 10 (by decide) (hts _ uw_1_190) (fun _ h9 => h9) rfl hin rfl (by decide +kernel) rfl rfl (Nat.le_of_ble_eq_true rfl) dX9_init_65 (fun H locs hP hD hS => ?_)
  have hP : va_P D vwCl [(h0, .inr (9, [.int 1, .int 0, .int 0, .int 0, .int 0, .int 0, .int 0, .int 0, .ref q_1, .ref q_2, .ref q_3, .null, .null, .null, .null, .null])), (q_1, .inl (k 2, 8, .inr (.inl (fun _ => 0)))), (q_2, .inl (k 2, 6, .inr (.inl (fun _ => 0)))), (q_3, .inl (k 2, 8, .inr (.inl (fun _ => 0))))] H := hP
  have hD : va_D A [(h0, .inr (9, [.int 1, .int 0, .int 0, .int 0, .int 0, .int 0, .int 0, .int 0, .ref q_1, .ref q_2, .ref q_3, .null, .null, .null, .null, .null])), (q_1, .inl (k 2, 8, .inr (.inl (fun _ => 0)))), (q_2, .inl (k 2, 6, .inr (.inl (fun _ => 0)))), (q_3, .inl (k 2, 8, .inr (.inl (fun _ => 0))))] := hD
  refine lv_aload_n hx hb dX9_init_68 rfl (lv_at hl 0 rfl) ?_
  refine lv_bipush (v := 8) hx hb dX9_init_69 (by decide) ?_
  refine zn_a (atype := .int) (ty := .int) hx hb hts uw_1_121 rfl hK hP hD hS hA 0 rfl (a0 := (8, .inl (fun _ => 0))) (N' := 8) (fun _ => rfl) (by decide) (by decide) (by decide) (Nat.le_of_ble_eq_true rfl) (Nat.le_of_ble_eq_true rfl) dX9_init_71 (fun q_4 H hP hD hS => ?_)
  have hP : va_P D vwCl [(h0, .inr (9, [.int 1, .int 0, .int 0, .int 0, .int 0, .int 0, .int 0, .int 0, .ref q_1, .ref q_2, .ref q_3, .null, .null, .null, .null, .null])), (q_1, .inl (k 2, 8, .inr (.inl (fun _ => 0)))), (q_2, .inl (k 2, 6, .inr (.inl (fun _ => 0)))), (q_3, .inl (k 2, 8, .inr (.inl (fun _ => 0)))), (q_4, .inl (k 0, 8, .inl (fun _ => 0)))] H := hP
  have hD : va_D A [(h0, .inr (9, [.int 1, .int 0, .int 0, .int 0, .int 0, .int 0, .int 0, .int 0, .ref q_1, .ref q_2, .ref q_3, .null, .null, .null, .null, .null])), (q_1, .inl (k 2, 8, .inr (.inl (fun _ => 0)))), (q_2, .inl (k 2, 6, .inr (.inl (fun _ => 0)))), (q_3, .inl (k 2, 8, .inr (.inl (fun _ => 0)))), (q_4, .inl (k 0, 8, .inl (fun _ => 0)))] := hD
  refine W.widen (k := 4) (n := 30) (Nat.le_of_ble_eq_true rfl) (Nat.le_of_ble_eq_true rfl) ?_
  refine va_putF (D := D) (ci := 9) (v := .ref q_4) (ty := .array .int) (C := RX9) (T := TX9) (N := 16) hx hb hts uc_9 tyX9 tyX9_ok nmX9 hown hK hP hD hS 0 rfl rfl 11 (by decide) (hts _ uw_1_192) (fun _ h9 => h9) rfl hin rfl (by decide +kernel) rfl rfl (Nat.le_of_ble_eq_true rfl) dX9_init_73 (fun H locs hP hD hS => ?_)
  have hP : va_P D vwCl [(h0, .inr (9, [.int 1, .int 0, .int 0, .int 0, .int 0, .int 0, .int 0, .int 0, .ref q_1, .ref q_2, .ref q_3, .ref q_4, .null, .null, .null, .null])), (q_1, .inl (k 2, 8, .inr (.inl (fun _ => 0)))), (q_2, .inl (k 2, 6, .inr (.inl (fun _ => 0)))), (q_3, .inl (k 2, 8, .inr (.inl (fun _ => 0)))), (q_4, .inl (k 0, 8, .inl (fun _ => 0)))] H := hP
  have hD : va_D A [(h0, .inr (9, [.int 1, .int 0, .int 0, .int 0, .int 0, .int 0, .int 0, .int 0, .ref q_1, .ref q_2, .ref q_3, .ref q_4, .null, .null, .null, .null])), (q_1, .inl (k 2, 8, .inr (.inl (fun _ => 0)))), (q_2, .inl (k 2, 6, .inr (.inl (fun _ => 0)))), (q_3, .inl (k 2, 8, .inr (.inl (fun _ => 0)))), (q_4, .inl (k 0, 8, .inl (fun _ => 0)))] := hD
  refine lv_aload_n hx hb dX9_init_76 rfl (lv_at hl 0 rfl) ?_
  refine lv_bipush (v := 6) hx hb dX9_init_77 (by decide) ?_
  refine zn_a (atype := .int) (ty := .int) hx hb hts uw_1_121 rfl hK hP hD hS hA 0 rfl (a0 := (6, .inl (fun _ => 0))) (N' := 6) (fun _ => rfl) (by decide) (by decide) (by decide) (Nat.le_of_ble_eq_true rfl) (Nat.le_of_ble_eq_true rfl) dX9_init_79 (fun q_5 H hP hD hS => ?_)
  have hP : va_P D vwCl [(h0, .inr (9, [.int 1, .int 0, .int 0, .int 0, .int 0, .int 0, .int 0, .int 0, .ref q_1, .ref q_2, .ref q_3, .ref q_4, .null, .null, .null, .null])), (q_1, .inl (k 2, 8, .inr (.inl (fun _ => 0)))), (q_2, .inl (k 2, 6, .inr (.inl (fun _ => 0)))), (q_3, .inl (k 2, 8, .inr (.inl (fun _ => 0)))), (q_4, .inl (k 0, 8, .inl (fun _ => 0))), (q_5, .inl (k 0, 6, .inl (fun _ => 0)))] H := hP
  have hD : va_D A [(h0, .inr (9, [.int 1, .int 0, .int 0, .int 0, .int 0, .int 0, .int 0, .int 0, .ref q_1, .ref q_2, .ref q_3, .ref q_4, .null, .null, .null, .null])), (q_1, .inl (k 2, 8, .inr (.inl (fun _ => 0)))), (q_2, .inl (k 2, 6, .inr (.inl (fun _ => 0)))), (q_3, .inl (k 2, 8, .inr (.inl (fun _ => 0)))), (q_4, .inl (k 0, 8, .inl (fun _ => 0))), (q_5, .inl (k 0, 6, .inl (fun _ => 0)))] := hD
  refine W.widen (k := 5) (n := 36) (Nat.le_of_ble_eq_true rfl) (Nat.le_of_ble_eq_true rfl) ?_
  refine va_putF (D := D) (ci := 9) (v := .ref q_5) (ty := .array .int) (C := RX9) (T := TX9) (N := 16) hx hb hts uc_9 tyX9 tyX9_ok nmX9 hown hK hP hD hS 0 rfl rfl 12 (by decide) (hts _ uw_1_199) (fun _ h9 => h9) rfl hin rfl (by decide +kernel) rfl rfl (Nat.le_of_ble_eq_true rfl) dX9_init_81 (fun H locs hP hD hS => ?_)
  have hP : va_P D vwCl [(h0, .inr (9, [.int 1, .int 0, .int 0, .int 0, .int 0, .int 0, .int 0, .int 0, .ref q_1, .ref q_2, .ref q_3, .ref q_4, .ref q_5, .null, .null, .null])), (q_1, .inl (k 2, 8, .inr (.inl (fun _ => 0)))), (q_2, .inl (k 2, 6, .inr (.inl (fun _ => 0)))), (q_3, .inl (k 2, 8, .inr (.inl (fun _ => 0)))), (q_4, .inl (k 0, 8, .inl (fun _ => 0))), (q_5, .inl (k 0, 6, .inl (fun _ => 0)))] H := hP
  have hD : va_D A [(h0, .inr (9, [.int 1, .int 0, .int 0, .int 0, .int 0, .int 0, .int 0, .int 0, .ref q_1, .ref q_2, .ref q_3, .ref q_4, .ref q_5, .null, .null, .null])), (q_1, .inl (k 2, 8, .inr (.inl (fun _ => 0)))), (q_2, .inl (k 2, 6, .inr (.inl (fun _ => 0)))), (q_3, .inl (k 2, 8, .inr (.inl (fun _ => 0)))), (q_4, .inl (k 0, 8, .inl (fun _ => 0))), (q_5, .inl (k 0, 6, .inl (fun _ => 0)))] := hD
  refine lv_aload_n hx hb dX9_init_84 rfl (lv_at hl 0 rfl) ?_
  refine lv_bipush (v := 8) hx hb dX9_init_85 (by decide) ?_
  refine zn_a (atype := .int) (ty := .int) hx hb hts uw_1_121 rfl hK hP hD hS hA 0 rfl (a0 := (8, .inl (fun _ => 0))) (N' := 8) (fun _ => rfl) (by decide) (by decide) (by decide) (Nat.le_of_ble_eq_true rfl) (Nat.le_of_ble_eq_true rfl) dX9_init_87 (fun q_6 H hP hD hS => ?_)
  have hP : va_P D vwCl [(h0, .inr (9, [.int 1, .int 0, .int 0, .int 0, .int 0, .int 0, .int 0, .int 0, .ref q_1, .ref q_2, .ref q_3, .ref q_4, .ref q_5, .null, .null, .null])), (q_1, .inl (k 2, 8, .inr (.inl (fun _ => 0)))), (q_2, .inl (k 2, 6, .inr (.inl (fun _ => 0)))), (q_3, .inl (k 2, 8, .inr (.inl (fun _ => 0)))), (q_4, .inl (k 0, 8, .inl (fun _ => 0))), (q_5, .inl (k 0, 6, .inl (fun _ => 0))), (q_6, .inl (k 0, 8, .inl (fun _ => 0)))] H := hP
  have hD : va_D A [(h0, .inr (9, [.int 1, .int 0, .int 0, .int 0, .int 0, .int 0, .int 0, .int 0, .ref q_1, .ref q_2, .ref q_3, .ref q_4, .ref q_5, .null, .null, .null])), (q_1, .inl (k 2, 8, .inr (.inl (fun _ => 0)))), (q_2, .inl (k 2, 6, .inr (.inl (fun _ => 0)))), (q_3, .inl (k 2, 8, .inr (.inl (fun _ => 0)))), (q_4, .inl (k 0, 8, .inl (fun _ => 0))), (q_5, .inl (k 0, 6, .inl (fun _ => 0))), (q_6, .inl (k 0, 8, .inl (fun _ => 0)))] := hD
  refine W.widen (k := 6) (n := 44) (Nat.le_of_ble_eq_true rfl) (Nat.le_of_ble_eq_true rfl) ?_
  refine va_putF (D := D) (ci := 9) (v := .ref q_6) (ty := .array .int) (C := RX9) (T := TX9) (N := 16) hx hb hts uc_9 tyX9 tyX9_ok nmX9 hown hK hP hD hS 0 rfl rfl 13 (by decide) (hts _ uw_1_203) (fun _ h9 => h9) rfl hin rfl (by decide +kernel) rfl rfl (Nat.le_of_ble_eq_true rfl) dX9_init_89 (fun H locs hP hD hS => ?_)
  have hP : va_P D vwCl [(h0, .inr (9, [.int 1, .int 0, .int 0, .int 0, .int 0, .int 0, .int 0, .int 0, .ref q_1, .ref q_2, .ref q_3, .ref q_4, .ref q_5, .ref q_6, .null, .null])), (q_1, .inl (k 2, 8, .inr (.inl (fun _ => 0)))), (q_2, .inl (k 2, 6, .inr (.inl (fun _ => 0)))), (q_3, .inl (k 2, 8, .inr (.inl (fun _ => 0)))), (q_4, .inl (k 0, 8, .inl (fun _ => 0))), (q_5, .inl (k 0, 6, .inl (fun _ => 0))), (q_6, .inl (k 0, 8, .inl (fun _ => 0)))] H := hP
  have hD : va_D A [(h0, .inr (9, [.int 1, .int 0, .int 0, .int 0, .int 0, .int 0, .int 0, .int 0, .ref q_1, .ref q_2, .ref q_3, .ref q_4, .ref q_5, .ref q_6, .null, .null])), (q_1, .inl (k 2, 8, .inr (.inl (fun _ => 0)))), (q_2, .inl (k 2, 6, .inr (.inl (fun _ => 0)))), (q_3, .inl (k 2, 8, .inr (.inl (fun _ => 0)))), (q_4, .inl (k 0, 8, .inl (fun _ => 0))), (q_5, .inl (k 0, 6, .inl (fun _ => 0))), (q_6, .inl (k 0, 8, .inl (fun _ => 0)))] := hD
  refine lv_aload_n hx hb dX9_init_92 rfl (lv_at hl 0 rfl) ?_
  refine lv_bipush (v := 8) hx hb dX9_init_93 (by decide) ?_
  refine zn_a (atype := .int) (ty := .int) hx hb hts uw_1_121 rfl hK hP hD hS hA 0 rfl (a0 := (8, .inl (fun _ => 0))) (N' := 8) (fun _ => rfl) (by decide) (by decide) (by decide) (Nat.le_of_ble_eq_true rfl) (Nat.le_of_ble_eq_true rfl) dX9_init_95 (fun q_7 H hP hD hS => ?_)
  have hP : va_P D vwCl [(h0, .inr (9, [.int 1, .int 0, .int 0, .int 0, .int 0, .int 0, .int 0, .int 0, .ref q_1, .ref q_2, .ref q_3, .ref q_4, .ref q_5, .ref q_6, .null, .null])), (q_1, .inl (k 2, 8, .inr (.inl (fun _ => 0)))), (q_2, .inl (k 2, 6, .inr (.inl (fun _ => 0)))), (q_3, .inl (k 2, 8, .inr (.inl (fun _ => 0)))), (q_4, .inl (k 0, 8, .inl (fun _ => 0))), (q_5, .inl (k 0, 6, .inl (fun _ => 0))), (q_6, .inl (k 0, 8, .inl (fun _ => 0))), (q_7, .inl (k 0, 8, .inl (fun _ => 0)))] H := hP
  have hD : va_D A [(h0, .inr (9, [.int 1, .int 0, .int 0, .int 0, .int 0, .int 0, .int 0, .int 0, .ref q_1, .ref q_2, .ref q_3, .ref q_4, .ref q_5, .ref q_6, .null, .null])), (q_1, .inl (k 2, 8, .inr (.inl (fun _ => 0)))), (q_2, .inl (k 2, 6, .inr (.inl (fun _ => 0)))), (q_3, .inl (k 2, 8, .inr (.inl (fun _ => 0)))), (q_4, .inl (k 0, 8, .inl (fun _ => 0))), (q_5, .inl (k 0, 6, .inl (fun _ => 0))), (q_6, .inl (k 0, 8, .inl (fun _ => 0))), (q_7, .inl (k 0, 8, .inl (fun _ => 0)))] := hD
  refine W.widen (k := 7) (n := 52) (Nat.le_of_ble_eq_true rfl) (Nat.le_of_ble_eq_true rfl) ?_
  refine va_putF (D := D) (ci := 9) (v := .ref q_7) (ty := .array .int) (C := RX9) (T := TX9) (N := 16) hx hb hts uc_9 tyX9 tyX9_ok nmX9 hown hK hP hD hS 0 rfl rfl 14 (by decide) (hts _ uw_1_208) (fun _ h9 => h9) rfl hin rfl (by decide +kernel) rfl rfl (Nat.le_of_ble_eq_true rfl) dX9_init_97 (fun H locs hP hD hS => ?_)
  have hP : va_P D vwCl [(h0, .inr (9, [.int 1, .int 0, .int 0, .int 0, .int 0, .int 0, .int 0, .int 0, .ref q_1, .ref q_2, .ref q_3, .ref q_4, .ref q_5, .ref q_6, .ref q_7, .null])), (q_1, .inl (k 2, 8, .inr (.inl (fun _ => 0)))), (q_2, .inl (k 2, 6, .inr (.inl (fun _ => 0)))), (q_3, .inl (k 2, 8, .inr (.inl (fun _ => 0)))), (q_4, .inl (k 0, 8, .inl (fun _ => 0))), (q_5, .inl (k 0, 6, .inl (fun _ => 0))), (q_6, .inl (k 0, 8, .inl (fun _ => 0))), (q_7, .inl (k 0, 8, .inl (fun _ => 0)))] H := hP
  have hD : va_D A [(h0, .inr (9, [.int 1, .int 0, .int 0, .int 0, .int 0, .int 0, .int 0, .int 0, .ref q_1, .ref q_2, .ref q_3, .ref q_4, .ref q_5, .ref q_6, .ref q_7, .null])), (q_1, .inl (k 2, 8, .inr (.inl (fun _ => 0)))), (q_2, .inl (k 2, 6, .inr (.inl (fun _ => 0)))), (q_3, .inl (k 2, 8, .inr (.inl (fun _ => 0)))), (q_4, .inl (k 0, 8, .inl (fun _ => 0))), (q_5, .inl (k 0, 6, .inl (fun _ => 0))), (q_6, .inl (k 0, 8, .inl (fun _ => 0))), (q_7, .inl (k 0, 8, .inl (fun _ => 0)))] := hD
  refine lv_aload_n hx hb dX9_init_100 rfl (lv_at hl 0 rfl) ?_
  refine va_new (ci := 2) (fs := [.null, .null, .null, .null, .int 0, .int 0]) (C := RX2) (T := TX2) (N := 6) hx hb hts uc_2 tyX2 tyX2_ok hown (hts _ uw_1_130) (hts _ uw_1_131) (hts _ uw_1_8) hK hP hD hS hA rfl df_2 (Nat.le_of_ble_eq_true rfl) (Nat.le_of_ble_eq_true rfl) dX9_init_101 (fun q_8 H hP hD hS => ?_)
  have hP : va_P D vwCl [(h0, .inr (9, [.int 1, .int 0, .int 0, .int 0, .int 0, .int 0, .int 0, .int 0, .ref q_1, .ref q_2, .ref q_3, .ref q_4, .ref q_5, .ref q_6, .ref q_7, .null])), (q_1, .inl (k 2, 8, .inr (.inl (fun _ => 0)))), (q_2, .inl (k 2, 6, .inr (.inl (fun _ => 0)))), (q_3, .inl (k 2, 8, .inr (.inl (fun _ => 0)))), (q_4, .inl (k 0, 8, .inl (fun _ => 0))), (q_5, .inl (k 0, 6, .inl (fun _ => 0))), (q_6, .inl (k 0, 8, .inl (fun _ => 0))), (q_7, .inl (k 0, 8, .inl (fun _ => 0))), (q_8, .inr (2, [.null, .null, .null, .null, .int 0, .int 0]))] H := hP
  have hD : va_D A [(h0, .inr (9, [.int 1, .int 0, .int 0, .int 0, .int 0, .int 0, .int 0, .int 0, .ref q_1, .ref q_2, .ref q_3, .ref q_4, .ref q_5, .ref q_6, .ref q_7, .null])), (q_1, .inl (k 2, 8, .inr (.inl (fun _ => 0)))), (q_2, .inl (k 2, 6, .inr (.inl (fun _ => 0)))), (q_3, .inl (k 2, 8, .inr (.inl (fun _ => 0)))), (q_4, .inl (k 0, 8, .inl (fun _ => 0))), (q_5, .inl (k 0, 6, .inl (fun _ => 0))), (q_6, .inl (k 0, 8, .inl (fun _ => 0))), (q_7, .inl (k 0, 8, .inl (fun _ => 0))), (q_8, .inr (2, [.null, .null, .null, .null, .int 0, .int 0]))] := hD
  refine W.widen (k := 8) (n := 58) (Nat.le_of_ble_eq_true rfl) (Nat.le_of_ble_eq_true rfl) ?_
  refine lv_dup hx hb dX9_init_104 rfl ?_
  refine zm_v (wr := [(h0, .inr (9, [.int 1, .int 0, .int 0, .int 0, .int 0, .int 0, .int 0, .int 0, .ref q_1, .ref q_2, .ref q_3, .ref q_4, .ref q_5, .ref q_6, .ref q_7, .null])), (q_1, .inl (k 2, 8, .inr (.inl (fun _ => 0)))), (q_2, .inl (k 2, 6, .inr (.inl (fun _ => 0)))), (q_3, .inl (k 2, 8, .inr (.inl (fun _ => 0)))), (q_4, .inl (k 0, 8, .inl (fun _ => 0))), (q_5, .inl (k 0, 6, .inl (fun _ => 0))), (q_6, .inl (k 0, 8, .inl (fun _ => 0))), (q_7, .inl (k 0, 8, .inl (fun _ => 0)))]) hP hD hS hA [8] [0, 1, 2, 3, 4, 5, 6, 7] (zm_N (own := "HideReader$Valley") (As := []) (rest := [.ref q_8, .ref h0]) (ws := [(q_8, .inr (2, [.null, .null, .null, .null, .int 0, .int 0]))]) hx hb hml hown hts hK noX_stb (fun _ _ _ => trivial) (c_X2_init l D k q_8) ck_X2_init ii_X2_init hN_X2_init hP hD [8] rfl (by decide) rfl hl.1 rfl (Nat.le_of_ble_eq_true rfl) dX9_init_105 ⟨Nat.le_of_ble_eq_true rfl, Nat.le_of_ble_eq_true rfl⟩ ⟨Nat.le_of_ble_eq_true rfl, Nat.le_of_ble_eq_true rfl⟩) rfl rfl (by decide) (by decide) (fun u_9 H locs hu_9 hP hD hS => ?_)
  have hP : va_P D vwCl [(h0, .inr (9, [.int 1, .int 0, .int 0, .int 0, .int 0, .int 0, .int 0, .int 0, .ref q_1, .ref q_2, .ref q_3, .ref q_4, .ref q_5, .ref q_6, .ref q_7, .null])), (q_1, .inl (k 2, 8, .inr (.inl (fun _ => 0)))), (q_2, .inl (k 2, 6, .inr (.inl (fun _ => 0)))), (q_3, .inl (k 2, 8, .inr (.inl (fun _ => 0)))), (q_4, .inl (k 0, 8, .inl (fun _ => 0))), (q_5, .inl (k 0, 6, .inl (fun _ => 0))), (q_6, .inl (k 0, 8, .inl (fun _ => 0))), (q_7, .inl (k 0, 8, .inl (fun _ => 0))), (q_8, .inr (2, [.ref (u_9 0), .ref (u_9 1), .ref (u_9 2), .ref (u_9 3), .int 0, .int 0])), ((u_9 0), .inl (k 0, 270, .inl (fun _ => 0))), ((u_9 1), .inl (k 0, 270, .inl (fun _ => 0))), ((u_9 2), .inl (k 0, 30, .inl (fun _ => 0))), ((u_9 3), .inl (k 0, 5, .inl (fun _ => 0)))] H := hP
  have hD : va_D A [(h0, .inr (9, [.int 1, .int 0, .int 0, .int 0, .int 0, .int 0, .int 0, .int 0, .ref q_1, .ref q_2, .ref q_3, .ref q_4, .ref q_5, .ref q_6, .ref q_7, .null])), (q_1, .inl (k 2, 8, .inr (.inl (fun _ => 0)))), (q_2, .inl (k 2, 6, .inr (.inl (fun _ => 0)))), (q_3, .inl (k 2, 8, .inr (.inl (fun _ => 0)))), (q_4, .inl (k 0, 8, .inl (fun _ => 0))), (q_5, .inl (k 0, 6, .inl (fun _ => 0))), (q_6, .inl (k 0, 8, .inl (fun _ => 0))), (q_7, .inl (k 0, 8, .inl (fun _ => 0))), (q_8, .inr (2, [.ref (u_9 0), .ref (u_9 1), .ref (u_9 2), .ref (u_9 3), .int 0, .int 0])), ((u_9 0), .inl (k 0, 270, .inl (fun _ => 0))), ((u_9 1), .inl (k 0, 270, .inl (fun _ => 0))), ((u_9 2), .inl (k 0, 30, .inl (fun _ => 0))), ((u_9 3), .inl (k 0, 5, .inl (fun _ => 0)))] := hD
  refine W.widen (k := 12) (n := 633) (Nat.le_of_ble_eq_true rfl) (Nat.le_of_ble_eq_true rfl) ?_
  refine va_putF (D := D) (ci := 9) (v := .ref q_8) (ty := .object "HideReader$Formula") (C := RX9) (T := TX9) (N := 16) hx hb hts uc_9 tyX9 tyX9_ok nmX9 hown hK hP hD hS 0 rfl rfl 15 (by decide) (hts _ uw_1_213) (fun _ h9 => h9) rfl hin rfl (by decide +kernel) rfl rfl (Nat.le_of_ble_eq_true rfl) dX9_init_108 (fun H locs hP hD hS => ?_)
  have hP : va_P D vwCl [(h0, .inr (9, [.int 1, .int 0, .int 0, .int 0, .int 0, .int 0, .int 0, .int 0, .ref q_1, .ref q_2, .ref q_3, .ref q_4, .ref q_5, .ref q_6, .ref q_7, .ref q_8])), (q_1, .inl (k 2, 8, .inr (.inl (fun _ => 0)))), (q_2, .inl (k 2, 6, .inr (.inl (fun _ => 0)))), (q_3, .inl (k 2, 8, .inr (.inl (fun _ => 0)))), (q_4, .inl (k 0, 8, .inl (fun _ => 0))), (q_5, .inl (k 0, 6, .inl (fun _ => 0))), (q_6, .inl (k 0, 8, .inl (fun _ => 0))), (q_7, .inl (k 0, 8, .inl (fun _ => 0))), (q_8, .inr (2, [.ref (u_9 0), .ref (u_9 1), .ref (u_9 2), .ref (u_9 3), .int 0, .int 0])), ((u_9 0), .inl (k 0, 270, .inl (fun _ => 0))), ((u_9 1), .inl (k 0, 270, .inl (fun _ => 0))), ((u_9 2), .inl (k 0, 30, .inl (fun _ => 0))), ((u_9 3), .inl (k 0, 5, .inl (fun _ => 0)))] H := hP
  have hD : va_D A [(h0, .inr (9, [.int 1, .int 0, .int 0, .int 0, .int 0, .int 0, .int 0, .int 0, .ref q_1, .ref q_2, .ref q_3, .ref q_4, .ref q_5, .ref q_6, .ref q_7, .ref q_8])), (q_1, .inl (k 2, 8, .inr (.inl (fun _ => 0)))), (q_2, .inl (k 2, 6, .inr (.inl (fun _ => 0)))), (q_3, .inl (k 2, 8, .inr (.inl (fun _ => 0)))), (q_4, .inl (k 0, 8, .inl (fun _ => 0))), (q_5, .inl (k 0, 6, .inl (fun _ => 0))), (q_6, .inl (k 0, 8, .inl (fun _ => 0))), (q_7, .inl (k 0, 8, .inl (fun _ => 0))), (q_8, .inr (2, [.ref (u_9 0), .ref (u_9 1), .ref (u_9 2), .ref (u_9 3), .int 0, .int 0])), ((u_9 0), .inl (k 0, 270, .inl (fun _ => 0))), ((u_9 1), .inl (k 0, 270, .inl (fun _ => 0))), ((u_9 2), .inl (k 0, 30, .inl (fun _ => 0))), ((u_9 3), .inl (k 0, 5, .inl (fun _ => 0)))] := hD
  exact zf_v hx hb hr hlocks dX9_init_111 (ul [q_1, q_2, q_3, q_4, q_5, q_6, q_7, q_8, (u_9 0), (u_9 1), (u_9 2), (u_9 3)]) trivial (zs_P hP [0, 1, 2, 3, 4, 5, 6, 7, 8, 9, 10, 11, 12] rfl) (hD.sub [0, 1, 2, 3, 4, 5, 6, 7, 8, 9, 10, 11, 12] (by decide) rfl) hS (Nat.le_of_ble_eq_true rfl) (Nat.le_of_ble_eq_true rfl)
set_option maxHeartbeats 4000000 in
set_option maxRecDepth 100000 in
theorem c_X5_init (l : Launch) (D : va_G) (k : Nat → ClassId) (h0 : Nat) : MetM l D k yX5_init cX5_init 1 none 1 3 112 [.ref h0] [(h0, .inr (5, [.null, .null, .null, .int 0, .int 0]))] noX (qMv D (fun _ : (Nat → Nat) => True) (fun u : (Nat → Nat) => [(h0, .inr (5, [.ref (u 0), .ref (u 1), .ref (u 2), .int 0, .int 0])), ((u 0), .inl (k 0, 8, .inl (fun _ => 0))), ((u 1), .inl (k 0, 8, .inl (fun _ => 0))), ((u 2), .inl (k 0, 96, .inl (fun _ => 0)))])) := by
  refine metM_of 0 ck_X5_init (Nat.le_of_ble_eq_true rfl) (fun p e s m args below meth c A hx hb hml hr hlocks hown hts hK hX hP hD hA hin ls hl => ?_)
  have hP : va_P D vwCl [(h0, .inr (5, [.null, .null, .null, .int 0, .int 0]))] s.heap := hP
  have hD : va_D A [(h0, .inr (5, [.null, .null, .null, .int 0, .int 0]))] := hD
  have hS : va_S A s.heap s.heap [] := va_S.rf
  have hin : meth.name = "<init>" := hin
  have hown : s.vm.findClass "HideReader$Pasture" = some m.cls := hown
  have hl : lv_has ls 1 [(0, .ref h0)] := hl
  refine lv_aload_n hx hb dX5_init_0 rfl (lv_at hl 0 rfl) ?_
  refine W.objInit hx hb hown (hts _ uw_2_85) (hts _ uw_1_29) (hts _ uw_1_30) rfl (by rw [hml]; exact hl.1) rfl dX5_init_1 (Nat.le_of_ble_eq_true rfl) (Nat.le_of_ble_eq_true rfl) ?_
  refine W.eq (g2 := F0 m 4 ls []) rfl ?_
  refine lv_aload_n hx hb dX5_init_4 rfl (lv_at hl 0 rfl) ?_
  refine lv_bipush (v := 8) hx hb dX5_init_5 (by decide) ?_
  refine zn_a (atype := .int) (ty := .int) hx hb hts uw_1_121 rfl hK hP hD hS hA 0 rfl (a0 := (8, .inl (fun _ => 0))) (N' := 8) (fun _ => rfl) (by decide) (by decide) (by decide) (Nat.le_of_ble_eq_true rfl) (Nat.le_of_ble_eq_true rfl) dX5_init_7 (fun q_1 H hP hD hS => ?_)
  have hP : va_P D vwCl [(h0, .inr (5, [.null, .null, .null, .int 0, .int 0])), (q_1, .inl (k 0, 8, .inl (fun _ => 0)))] H := hP
  have hD : va_D A [(h0, .inr (5, [.null, .null, .null, .int 0, .int 0])), (q_1, .inl (k 0, 8, .inl (fun _ => 0)))] := hD
  refine W.widen (k := 1) (n := 8) (Nat.le_of_ble_eq_true rfl) (Nat.le_of_ble_eq_true rfl) ?_
  refine va_putF (D := D) (ci := 5) (v := .ref q_1) (ty := .array .int) (C := RX5) (T := TX5) (N := 5) hx hb hts uc_5 tyX5 tyX5_ok nmX5 hown hK hP hD hS 0 rfl rfl 0 (by decide) (hts _ uw_2_86) (fun _ h9 => h9) rfl hin rfl (by decide +kernel) rfl rfl (Nat.le_of_ble_eq_true rfl) dX5_init_9 (fun H locs hP hD hS => ?_)
  have hP : va_P D vwCl [(h0, .inr (5, [.ref q_1, .null, .null, .int 0, .int 0])), (q_1, .inl (k 0, 8, .inl (fun _ => 0)))] H := hP
  have hD : va_D A [(h0, .inr (5, [.ref q_1, .null, .null, .int 0, .int 0])), (q_1, .inl (k 0, 8, .inl (fun _ => 0)))] := hD
  refine lv_aload_n hx hb dX5_init_12 rfl (lv_at hl 0 rfl) ?_
  refine lv_bipush (v := 8) hx hb dX5_init_13 (by decide) ?_
  refine zn_a (atype := .int) (ty := .int) hx hb hts uw_1_121 rfl hK hP hD hS hA 0 rfl (a0 := (8, .inl (fun _ => 0))) (N' := 8) (fun _ => rfl) (by decide) (by decide) (by decide) (Nat.le_of_ble_eq_true rfl) (Nat.le_of_ble_eq_true rfl) dX5_init_15 (fun q_2 H hP hD hS => ?_)
  have hP : va_P D vwCl [(h0, .inr (5, [.ref q_1, .null, .null, .int 0, .int 0])), (q_1, .inl (k 0, 8, .inl (fun _ => 0))), (q_2, .inl (k 0, 8, .inl (fun _ => 0)))] H := hP
  have hD : va_D A [(h0, .inr (5, [.ref q_1, .null, .null, .int 0, .int 0])), (q_1, .inl (k 0, 8, .inl (fun _ => 0))), (q_2, .inl (k 0, 8, .inl (fun _ => 0)))] := hD
  refine W.widen (k := 2) (n := 16) (Nat.le_of_ble_eq_true rfl) (Nat.le_of_ble_eq_true rfl) ?_
  refine va_putF (D := D) (ci := 5) (v := .ref q_2) (ty := .array .int) (C := RX5) (T := TX5) (N := 5) hx hb hts uc_5 tyX5 tyX5_ok nmX5 hown hK hP hD hS 0 rfl rfl 1 (by decide) (hts _ uw_2_89) (fun _ h9 => h9) rfl hin rfl (by decide +kernel) rfl rfl (Nat.le_of_ble_eq_true rfl) dX5_init_17 (fun H locs hP hD hS => ?_)
  have hP : va_P D vwCl [(h0, .inr (5, [.ref q_1, .ref q_2, .null, .int 0, .int 0])), (q_1, .inl (k 0, 8, .inl (fun _ => 0))), (q_2, .inl (k 0, 8, .inl (fun _ => 0)))] H := hP
  have hD : va_D A [(h0, .inr (5, [.ref q_1, .ref q_2, .null, .int 0, .int 0])), (q_1, .inl (k 0, 8, .inl (fun _ => 0))), (q_2, .inl (k 0, 8, .inl (fun _ => 0)))] := hD
  refine lv_aload_n hx hb dX5_init_20 rfl (lv_at hl 0 rfl) ?_
  refine lv_bipush (v := 96) hx hb dX5_init_21 (by decide) ?_
  refine zn_a (atype := .int) (ty := .int) hx hb hts uw_1_121 rfl hK hP hD hS hA 0 rfl (a0 := (96, .inl (fun _ => 0))) (N' := 96) (fun _ => rfl) (by decide) (by decide) (by decide) (Nat.le_of_ble_eq_true rfl) (Nat.le_of_ble_eq_true rfl) dX5_init_23 (fun q_3 H hP hD hS => ?_)
  have hP : va_P D vwCl [(h0, .inr (5, [.ref q_1, .ref q_2, .null, .int 0, .int 0])), (q_1, .inl (k 0, 8, .inl (fun _ => 0))), (q_2, .inl (k 0, 8, .inl (fun _ => 0))), (q_3, .inl (k 0, 96, .inl (fun _ => 0)))] H := hP
  have hD : va_D A [(h0, .inr (5, [.ref q_1, .ref q_2, .null, .int 0, .int 0])), (q_1, .inl (k 0, 8, .inl (fun _ => 0))), (q_2, .inl (k 0, 8, .inl (fun _ => 0))), (q_3, .inl (k 0, 96, .inl (fun _ => 0)))] := hD
  refine W.widen (k := 3) (n := 112) (Nat.le_of_ble_eq_true rfl) (Nat.le_of_ble_eq_true rfl) ?_
  refine va_putF (D := D) (ci := 5) (v := .ref q_3) (ty := .array .int) (C := RX5) (T := TX5) (N := 5) hx hb hts uc_5 tyX5 tyX5_ok nmX5 hown hK hP hD hS 0 rfl rfl 2 (by decide) (hts _ uw_2_92) (fun _ h9 => h9) rfl hin rfl (by decide +kernel) rfl rfl (Nat.le_of_ble_eq_true rfl) dX5_init_25 (fun H locs hP hD hS => ?_)
  have hP : va_P D vwCl [(h0, .inr (5, [.ref q_1, .ref q_2, .ref q_3, .int 0, .int 0])), (q_1, .inl (k 0, 8, .inl (fun _ => 0))), (q_2, .inl (k 0, 8, .inl (fun _ => 0))), (q_3, .inl (k 0, 96, .inl (fun _ => 0)))] H := hP
  have hD : va_D A [(h0, .inr (5, [.ref q_1, .ref q_2, .ref q_3, .int 0, .int 0])), (q_1, .inl (k 0, 8, .inl (fun _ => 0))), (q_2, .inl (k 0, 8, .inl (fun _ => 0))), (q_3, .inl (k 0, 96, .inl (fun _ => 0)))] := hD
  refine lv_aload_n hx hb dX5_init_28 rfl (lv_at hl 0 rfl) ?_
  refine lv_iconst (v := 0) hx hb dX5_init_29 (by decide) ?_
  refine va_put (D := D) (ci := 5) (v := .int 0) (ty := .int) (C := RX5) (T := TX5) (N := 5) hx hb hts uc_5 tyX5 tyX5_ok nmX5 hown hK hP hD hS 0 rfl rfl 3 (by decide) (hts _ uw_2_93) (fun _ h9 => h9) rfl (by decide +kernel) rfl rfl (Nat.le_of_ble_eq_true rfl) dX5_init_30 (fun H locs hP hD hS => ?_)
  have hP : va_P D vwCl [(h0, .inr (5, [.ref q_1, .ref q_2, .ref q_3, .int 0, .int 0])), (q_1, .inl (k 0, 8, .inl (fun _ => 0))), (q_2, .inl (k 0, 8, .inl (fun _ => 0))), (q_3, .inl (k 0, 96, .inl (fun _ => 0)))] H := hP
  have hD : va_D A [(h0, .inr (5, [.ref q_1, .ref q_2, .ref q_3, .int 0, .int 0])), (q_1, .inl (k 0, 8, .inl (fun _ => 0))), (q_2, .inl (k 0, 8, .inl (fun _ => 0))), (q_3, .inl (k 0, 96, .inl (fun _ => 0)))] := hD
  refine lv_aload_n hx hb dX5_init_33 rfl (lv_at hl 0 rfl) ?_
  refine lv_iconst (v := 0) hx hb dX5_init_34 (by decide) ?_
  refine va_put (D := D) (ci := 5) (v := .int 0) (ty := .int) (C := RX5) (T := TX5) (N := 5) hx hb hts uc_5 tyX5 tyX5_ok nmX5 hown hK hP hD hS 0 rfl rfl 4 (by decide) (hts _ uw_2_97) (fun _ h9 => h9) rfl (by decide +kernel) rfl rfl (Nat.le_of_ble_eq_true rfl) dX5_init_35 (fun H locs hP hD hS => ?_)
  have hP : va_P D vwCl [(h0, .inr (5, [.ref q_1, .ref q_2, .ref q_3, .int 0, .int 0])), (q_1, .inl (k 0, 8, .inl (fun _ => 0))), (q_2, .inl (k 0, 8, .inl (fun _ => 0))), (q_3, .inl (k 0, 96, .inl (fun _ => 0)))] H := hP
  have hD : va_D A [(h0, .inr (5, [.ref q_1, .ref q_2, .ref q_3, .int 0, .int 0])), (q_1, .inl (k 0, 8, .inl (fun _ => 0))), (q_2, .inl (k 0, 8, .inl (fun _ => 0))), (q_3, .inl (k 0, 96, .inl (fun _ => 0)))] := hD
  exact zf_v hx hb hr hlocks dX5_init_38 (ul [q_1, q_2, q_3]) trivial (zs_P hP [0, 1, 2, 3] rfl) (hD.sub [0, 1, 2, 3] (by decide) rfl) hS (Nat.le_of_ble_eq_true rfl) (Nat.le_of_ble_eq_true rfl)
set_option maxHeartbeats 4000000 in
set_option maxRecDepth 100000 in
theorem c_X4_movedStroke (l : Launch) (D : va_G) (k : Nat → ClassId)  : MetR l D k yX4_movedStroke cX4_movedStroke 7 (some .int) 0 [.int 0, .int 0] [] noX (vp_Si (fun r => r = 0)) := by
  refine metR_of 2 ck_X4_movedStroke (Nat.le_of_ble_eq_true rfl) (fun p e s m args below meth c hx hb hml hr hlocks hown hts hK hX hP hin ls hl => ?_)
  have hP : va_P D vwCl [] s.heap := hP
  have hown : s.vm.findClass "HideReader$Lattice" = some m.cls := hown
  have hl : lv_has ls 7 [(0, .int 0), (1, .int 0)] := hl
  refine lv_iload_n hx hb dX4_movedStroke_0 rfl (lv_at hl 0 rfl) ?_
  refine lv_bipush (v := 6) hx hb dX4_movedStroke_1 (by decide) ?_
  refine lv_isub hx hb dX4_movedStroke_3 ?_
  refine lv_topc (-6) (by decide) ?_
  refine lv_istore_n (lv' := [(2, .int (-6)), (0, .int 0), (1, .int 0)]) hx hb dX4_movedStroke_4 rfl hl (by decide) rfl (fun ls hl => ?_)
  refine lv_iload_n hx hb dX4_movedStroke_5 rfl (lv_at hl 0 rfl) ?_
  refine lv_if_ge (tgt := 19) hx hb dX4_movedStroke_6 (by decide) (fun c9 => absurd c9 (by decide)) (fun _ => ?_)
  refine lv_iconst (v := 2) hx hb dX4_movedStroke_9 (by decide) ?_
  refine lv_iload_n hx hb dX4_movedStroke_10 rfl (lv_at hl 1 rfl) ?_
  refine lv_iconst (v := 2) hx hb dX4_movedStroke_11 (by decide) ?_
  refine lv_irem hx hb dX4_movedStroke_12 (by decide) ?_
  refine lv_topc 0 (by decide) ?_
  refine lv_imul hx hb dX4_movedStroke_13 ?_
  refine lv_topc 0 (by decide) ?_
  refine lv_iconst (v := 1) hx hb dX4_movedStroke_14 (by decide) ?_
  refine lv_iadd hx hb dX4_movedStroke_15 ?_
  refine lv_topc 1 (by decide) ?_
  refine lv_goto (tgt := 24) hx hb dX4_movedStroke_16 (by decide) ?_
  refine lv_istore_n (lv' := [(3, .int 1), (2, .int (-6)), (0, .int 0), (1, .int 0)]) hx hb dX4_movedStroke_24 rfl hl (by decide) rfl (fun ls hl => ?_)
  refine lv_iload_n hx hb dX4_movedStroke_25 rfl (lv_at hl 1 rfl) ?_
  refine lv_if_ge (tgt := 37) hx hb dX4_movedStroke_26 (by decide) (fun c9 => absurd c9 (by decide)) (fun _ => ?_)
  refine lv_iconst (v := 2) hx hb dX4_movedStroke_29 (by decide) ?_
  refine lv_iload_n hx hb dX4_movedStroke_30 rfl (lv_at hl 2 rfl) ?_
  refine lv_iconst (v := 2) hx hb dX4_movedStroke_31 (by decide) ?_
  refine lv_idiv hx hb dX4_movedStroke_32 (by decide) ?_
  refine lv_topc 0 (by decide) ?_
  refine lv_imul hx hb dX4_movedStroke_33 ?_
  refine lv_topc 0 (by decide) ?_
  refine lv_goto (tgt := 44) hx hb dX4_movedStroke_34 (by decide) ?_
  refine lv_istore (lv' := [(4, .int 0), (3, .int 1), (2, .int (-6)), (0, .int 0), (1, .int 0)]) hx hb dX4_movedStroke_44 hl (by decide) rfl (fun ls hl => ?_)
  refine lv_iload_n hx hb dX4_movedStroke_46 rfl (lv_at hl 4 rfl) ?_
  refine lv_iconst (v := 4) hx hb dX4_movedStroke_47 (by decide) ?_
  refine lv_icmp_lt (tgt := 55) hx hb dX4_movedStroke_48 (by decide) (fun _ => ?_) (fun c9 => absurd (by decide) c9)
  refine lv_iconst (v := 0) hx hb dX4_movedStroke_55 (by decide) ?_
  refine lv_istore (lv' := [(5, .int 0), (4, .int 0), (3, .int 1), (2, .int (-6)), (0, .int 0), (1, .int 0)]) hx hb dX4_movedStroke_56 hl (by decide) rfl (fun ls hl => ?_)
  refine lv_iload hx hb dX4_movedStroke_58 (lv_at hl 0 rfl) ?_
  refine lv_iload_n hx hb dX4_movedStroke_60 rfl (lv_at hl 5 rfl) ?_
  refine lv_iconst (v := 4) hx hb dX4_movedStroke_61 (by decide) ?_
  refine lv_irem hx hb dX4_movedStroke_62 (by decide) ?_
  refine lv_topc 0 (by decide) ?_
  refine lv_icmp_ge (tgt := 84) hx hb dX4_movedStroke_63 (by decide) (fun _ => ?_) (fun c9 => absurd (by decide) c9)
  refine lv_iload hx hb dX4_movedStroke_84 (lv_at hl 1 rfl) ?_
  refine lv_iconst (v := 2) hx hb dX4_movedStroke_86 (by decide) ?_
  refine lv_irem hx hb dX4_movedStroke_87 (by decide) ?_
  refine lv_topc 0 (by decide) ?_
  refine lv_if_ne (tgt := 100) hx hb dX4_movedStroke_88 (by decide) (fun c9 => absurd (by decide) c9) (fun _ => ?_)
  refine lv_iload hx hb dX4_movedStroke_91 (lv_at hl 1 rfl) ?_
  refine lv_iload_n hx hb dX4_movedStroke_93 rfl (lv_at hl 2 rfl) ?_
  refine lv_iconst (v := 2) hx hb dX4_movedStroke_94 (by decide) ?_
  refine lv_idiv hx hb dX4_movedStroke_95 (by decide) ?_
  refine lv_topc 0 (by decide) ?_
  refine lv_iadd hx hb dX4_movedStroke_96 ?_
  refine lv_topc 0 (by decide) ?_
  refine lv_goto (tgt := 113) hx hb dX4_movedStroke_97 (by decide) ?_
  exact ze_i hx hb hr hlocks dX4_movedStroke_113 rfl
set_option maxHeartbeats 4000000 in
set_option maxRecDepth 100000 in
theorem c_X4_movedStroke_2 (l : Launch) (D : va_G) (k : Nat → ClassId)  : MetR l D k yX4_movedStroke cX4_movedStroke 7 (some .int) 0 [.int 6, .int 0] [] noX (vp_Si (fun r => r = 6)) := by
  refine metR_of 2 ck_X4_movedStroke (Nat.le_of_ble_eq_true rfl) (fun p e s m args below meth c hx hb hml hr hlocks hown hts hK hX hP hin ls hl => ?_)
  have hP : va_P D vwCl [] s.heap := hP
  have hown : s.vm.findClass "HideReader$Lattice" = some m.cls := hown
  have hl : lv_has ls 7 [(0, .int 6), (1, .int 0)] := hl
  refine lv_iload_n hx hb dX4_movedStroke_0 rfl (lv_at hl 0 rfl) ?_
  refine lv_bipush (v := 6) hx hb dX4_movedStroke_1 (by decide) ?_
  refine lv_isub hx hb dX4_movedStroke_3 ?_
  refine lv_topc 0 (by decide) ?_
  refine lv_istore_n (lv' := [(2, .int 0), (0, .int 6), (1, .int 0)]) hx hb dX4_movedStroke_4 rfl hl (by decide) rfl (fun ls hl => ?_)
  refine lv_iload_n hx hb dX4_movedStroke_5 rfl (lv_at hl 0 rfl) ?_
  refine lv_if_ge (tgt := 19) hx hb dX4_movedStroke_6 (by decide) (fun _ => ?_) (fun c9 => absurd (by decide) c9)
  refine lv_iconst (v := 2) hx hb dX4_movedStroke_19 (by decide) ?_
  refine lv_iload_n hx hb dX4_movedStroke_20 rfl (lv_at hl 0 rfl) ?_
  refine lv_iconst (v := 3) hx hb dX4_movedStroke_21 (by decide) ?_
  refine lv_irem hx hb dX4_movedStroke_22 (by decide) ?_
  refine lv_topc 0 (by decide) ?_
  refine lv_imul hx hb dX4_movedStroke_23 ?_
  refine lv_topc 0 (by decide) ?_
  refine lv_istore_n (lv' := [(3, .int 0), (2, .int 0), (0, .int 6), (1, .int 0)]) hx hb dX4_movedStroke_24 rfl hl (by decide) rfl (fun ls hl => ?_)
  refine lv_iload_n hx hb dX4_movedStroke_25 rfl (lv_at hl 1 rfl) ?_
  refine lv_if_ge (tgt := 37) hx hb dX4_movedStroke_26 (by decide) (fun _ => ?_) (fun c9 => absurd (by decide) c9)
  refine lv_iconst (v := 2) hx hb dX4_movedStroke_37 (by decide) ?_
  refine lv_iload_n hx hb dX4_movedStroke_38 rfl (lv_at hl 1 rfl) ?_
  refine lv_iconst (v := 3) hx hb dX4_movedStroke_39 (by decide) ?_
  refine lv_idiv hx hb dX4_movedStroke_40 (by decide) ?_
  refine lv_topc 0 (by decide) ?_
  refine lv_imul hx hb dX4_movedStroke_41 ?_
  refine lv_topc 0 (by decide) ?_
  refine lv_iconst (v := 1) hx hb dX4_movedStroke_42 (by decide) ?_
  refine lv_iadd hx hb dX4_movedStroke_43 ?_
  refine lv_topc 1 (by decide) ?_
  refine lv_istore (lv' := [(4, .int 1), (3, .int 0), (2, .int 0), (0, .int 6), (1, .int 0)]) hx hb dX4_movedStroke_44 hl (by decide) rfl (fun ls hl => ?_)
  refine lv_iload_n hx hb dX4_movedStroke_46 rfl (lv_at hl 4 rfl) ?_
  refine lv_iconst (v := 4) hx hb dX4_movedStroke_47 (by decide) ?_
  refine lv_icmp_lt (tgt := 55) hx hb dX4_movedStroke_48 (by decide) (fun _ => ?_) (fun c9 => absurd (by decide) c9)
  refine lv_iconst (v := 0) hx hb dX4_movedStroke_55 (by decide) ?_
  refine lv_istore (lv' := [(5, .int 0), (4, .int 1), (3, .int 0), (2, .int 0), (0, .int 6), (1, .int 0)]) hx hb dX4_movedStroke_56 hl (by decide) rfl (fun ls hl => ?_)
  refine lv_iload hx hb dX4_movedStroke_58 (lv_at hl 0 rfl) ?_
  refine lv_iload_n hx hb dX4_movedStroke_60 rfl (lv_at hl 5 rfl) ?_
  refine lv_iconst (v := 4) hx hb dX4_movedStroke_61 (by decide) ?_
  refine lv_irem hx hb dX4_movedStroke_62 (by decide) ?_
  refine lv_topc 0 (by decide) ?_
  refine lv_icmp_ge (tgt := 84) hx hb dX4_movedStroke_63 (by decide) (fun _ => ?_) (fun c9 => absurd (by decide) c9)
  refine lv_iload hx hb dX4_movedStroke_84 (lv_at hl 1 rfl) ?_
  refine lv_iconst (v := 2) hx hb dX4_movedStroke_86 (by decide) ?_
  refine lv_irem hx hb dX4_movedStroke_87 (by decide) ?_
  refine lv_topc 1 (by decide) ?_
  refine lv_if_ne (tgt := 100) hx hb dX4_movedStroke_88 (by decide) (fun _ => ?_) (fun c9 => absurd c9 (by decide))
  refine lv_bipush (v := 6) hx hb dX4_movedStroke_100 (by decide) ?_
  refine lv_iconst (v := 3) hx hb dX4_movedStroke_102 (by decide) ?_
  refine lv_iload hx hb dX4_movedStroke_103 (lv_at hl 1 rfl) ?_
  refine lv_iconst (v := 2) hx hb dX4_movedStroke_105 (by decide) ?_
  refine lv_idiv hx hb dX4_movedStroke_106 (by decide) ?_
  refine lv_topc 0 (by decide) ?_
  refine lv_imul hx hb dX4_movedStroke_107 ?_
  refine lv_topc 0 (by decide) ?_
  refine lv_iadd hx hb dX4_movedStroke_108 ?_
  refine lv_topc 6 (by decide) ?_
  refine lv_iload_n hx hb dX4_movedStroke_109 rfl (lv_at hl 2 rfl) ?_
  refine lv_iconst (v := 2) hx hb dX4_movedStroke_110 (by decide) ?_
  refine lv_idiv hx hb dX4_movedStroke_111 (by decide) ?_
  refine lv_topc 0 (by decide) ?_
  refine lv_iadd hx hb dX4_movedStroke_112 ?_
  refine lv_topc 6 (by decide) ?_
  exact ze_i hx hb hr hlocks dX4_movedStroke_113 rfl
set_option maxHeartbeats 4000000 in
set_option maxRecDepth 100000 in
theorem c_X4_movedStroke_3 (l : Launch) (D : va_G) (k : Nat → ClassId)  : MetR l D k yX4_movedStroke cX4_movedStroke 7 (some .int) 0 [.int 1, .int 0] [] noX (vp_Si (fun r => r = 1)) := by
  refine metR_of 2 ck_X4_movedStroke (Nat.le_of_ble_eq_true rfl) (fun p e s m args below meth c hx hb hml hr hlocks hown hts hK hX hP hin ls hl => ?_)
  have hP : va_P D vwCl [] s.heap := hP
  have hown : s.vm.findClass "HideReader$Lattice" = some m.cls := hown
  have hl : lv_has ls 7 [(0, .int 1), (1, .int 0)] := hl
  refine lv_iload_n hx hb dX4_movedStroke_0 rfl (lv_at hl 0 rfl) ?_
  refine lv_bipush (v := 6) hx hb dX4_movedStroke_1 (by decide) ?_
  refine lv_isub hx hb dX4_movedStroke_3 ?_
  refine lv_topc (-5) (by decide) ?_
  refine lv_istore_n (lv' := [(2, .int (-5)), (0, .int 1), (1, .int 0)]) hx hb dX4_movedStroke_4 rfl hl (by decide) rfl (fun ls hl => ?_)
  refine lv_iload_n hx hb dX4_movedStroke_5 rfl (lv_at hl 0 rfl) ?_
  refine lv_if_ge (tgt := 19) hx hb dX4_movedStroke_6 (by decide) (fun c9 => absurd c9 (by decide)) (fun _ => ?_)
  refine lv_iconst (v := 2) hx hb dX4_movedStroke_9 (by decide) ?_
  refine lv_iload_n hx hb dX4_movedStroke_10 rfl (lv_at hl 1 rfl) ?_
  refine lv_iconst (v := 2) hx hb dX4_movedStroke_11 (by decide) ?_
  refine lv_irem hx hb dX4_movedStroke_12 (by decide) ?_
  refine lv_topc 1 (by decide) ?_
  refine lv_imul hx hb dX4_movedStroke_13 ?_
  refine lv_topc 2 (by decide) ?_
  refine lv_iconst (v := 1) hx hb dX4_movedStroke_14 (by decide) ?_
  refine lv_iadd hx hb dX4_movedStroke_15 ?_
  refine lv_topc 3 (by decide) ?_
  refine lv_goto (tgt := 24) hx hb dX4_movedStroke_16 (by decide) ?_
  refine lv_istore_n (lv' := [(3, .int 3), (2, .int (-5)), (0, .int 1), (1, .int 0)]) hx hb dX4_movedStroke_24 rfl hl (by decide) rfl (fun ls hl => ?_)
  refine lv_iload_n hx hb dX4_movedStroke_25 rfl (lv_at hl 1 rfl) ?_
  refine lv_if_ge (tgt := 37) hx hb dX4_movedStroke_26 (by decide) (fun c9 => absurd c9 (by decide)) (fun _ => ?_)
  refine lv_iconst (v := 2) hx hb dX4_movedStroke_29 (by decide) ?_
  refine lv_iload_n hx hb dX4_movedStroke_30 rfl (lv_at hl 2 rfl) ?_
  refine lv_iconst (v := 2) hx hb dX4_movedStroke_31 (by decide) ?_
  refine lv_idiv hx hb dX4_movedStroke_32 (by decide) ?_
  refine lv_topc 0 (by decide) ?_
  refine lv_imul hx hb dX4_movedStroke_33 ?_
  refine lv_topc 0 (by decide) ?_
  refine lv_goto (tgt := 44) hx hb dX4_movedStroke_34 (by decide) ?_
  refine lv_istore (lv' := [(4, .int 0), (3, .int 3), (2, .int (-5)), (0, .int 1), (1, .int 0)]) hx hb dX4_movedStroke_44 hl (by decide) rfl (fun ls hl => ?_)
  refine lv_iload_n hx hb dX4_movedStroke_46 rfl (lv_at hl 4 rfl) ?_
  refine lv_iconst (v := 4) hx hb dX4_movedStroke_47 (by decide) ?_
  refine lv_icmp_lt (tgt := 55) hx hb dX4_movedStroke_48 (by decide) (fun _ => ?_) (fun c9 => absurd (by decide) c9)
  refine lv_iconst (v := 0) hx hb dX4_movedStroke_55 (by decide) ?_
  refine lv_istore (lv' := [(5, .int 0), (4, .int 0), (3, .int 3), (2, .int (-5)), (0, .int 1), (1, .int 0)]) hx hb dX4_movedStroke_56 hl (by decide) rfl (fun ls hl => ?_)
  refine lv_iload hx hb dX4_movedStroke_58 (lv_at hl 0 rfl) ?_
  refine lv_iload_n hx hb dX4_movedStroke_60 rfl (lv_at hl 5 rfl) ?_
  refine lv_iconst (v := 4) hx hb dX4_movedStroke_61 (by decide) ?_
  refine lv_irem hx hb dX4_movedStroke_62 (by decide) ?_
  refine lv_topc 0 (by decide) ?_
  refine lv_icmp_ge (tgt := 84) hx hb dX4_movedStroke_63 (by decide) (fun _ => ?_) (fun c9 => absurd (by decide) c9)
  refine lv_iload hx hb dX4_movedStroke_84 (lv_at hl 1 rfl) ?_
  refine lv_iconst (v := 2) hx hb dX4_movedStroke_86 (by decide) ?_
  refine lv_irem hx hb dX4_movedStroke_87 (by decide) ?_
  refine lv_topc 0 (by decide) ?_
  refine lv_if_ne (tgt := 100) hx hb dX4_movedStroke_88 (by decide) (fun c9 => absurd (by decide) c9) (fun _ => ?_)
  refine lv_iload hx hb dX4_movedStroke_91 (lv_at hl 1 rfl) ?_
  refine lv_iload_n hx hb dX4_movedStroke_93 rfl (lv_at hl 2 rfl) ?_
  refine lv_iconst (v := 2) hx hb dX4_movedStroke_94 (by decide) ?_
  refine lv_idiv hx hb dX4_movedStroke_95 (by decide) ?_
  refine lv_topc 1 (by decide) ?_
  refine lv_iadd hx hb dX4_movedStroke_96 ?_
  refine lv_topc 1 (by decide) ?_
  refine lv_goto (tgt := 113) hx hb dX4_movedStroke_97 (by decide) ?_
  exact ze_i hx hb hr hlocks dX4_movedStroke_113 rfl
set_option maxHeartbeats 4000000 in
set_option maxRecDepth 100000 in
theorem c_X4_movedStroke_4 (l : Launch) (D : va_G) (k : Nat → ClassId)  : MetR l D k yX4_movedStroke cX4_movedStroke 7 (some .int) 0 [.int 7, .int 0] [] noX (vp_Si (fun r => r = 7)) := by
  refine metR_of 2 ck_X4_movedStroke (Nat.le_of_ble_eq_true rfl) (fun p e s m args below meth c hx hb hml hr hlocks hown hts hK hX hP hin ls hl => ?_)
  have hP : va_P D vwCl [] s.heap := hP
  have hown : s.vm.findClass "HideReader$Lattice" = some m.cls := hown
  have hl : lv_has ls 7 [(0, .int 7), (1, .int 0)] := hl
  refine lv_iload_n hx hb dX4_movedStroke_0 rfl (lv_at hl 0 rfl) ?_
  refine lv_bipush (v := 6) hx hb dX4_movedStroke_1 (by decide) ?_
  refine lv_isub hx hb dX4_movedStroke_3 ?_
  refine lv_topc 1 (by decide) ?_
  refine lv_istore_n (lv' := [(2, .int 1), (0, .int 7), (1, .int 0)]) hx hb dX4_movedStroke_4 rfl hl (by decide) rfl (fun ls hl => ?_)
  refine lv_iload_n hx hb dX4_movedStroke_5 rfl (lv_at hl 0 rfl) ?_
  refine lv_if_ge (tgt := 19) hx hb dX4_movedStroke_6 (by decide) (fun _ => ?_) (fun c9 => absurd (by decide) c9)
  refine lv_iconst (v := 2) hx hb dX4_movedStroke_19 (by decide) ?_
  refine lv_iload_n hx hb dX4_movedStroke_20 rfl (lv_at hl 0 rfl) ?_
  refine lv_iconst (v := 3) hx hb dX4_movedStroke_21 (by decide) ?_
  refine lv_irem hx hb dX4_movedStroke_22 (by decide) ?_
  refine lv_topc 1 (by decide) ?_
  refine lv_imul hx hb dX4_movedStroke_23 ?_
  refine lv_topc 2 (by decide) ?_
  refine lv_istore_n (lv' := [(3, .int 2), (2, .int 1), (0, .int 7), (1, .int 0)]) hx hb dX4_movedStroke_24 rfl hl (by decide) rfl (fun ls hl => ?_)
  refine lv_iload_n hx hb dX4_movedStroke_25 rfl (lv_at hl 1 rfl) ?_
  refine lv_if_ge (tgt := 37) hx hb dX4_movedStroke_26 (by decide) (fun _ => ?_) (fun c9 => absurd (by decide) c9)
  refine lv_iconst (v := 2) hx hb dX4_movedStroke_37 (by decide) ?_
  refine lv_iload_n hx hb dX4_movedStroke_38 rfl (lv_at hl 1 rfl) ?_
  refine lv_iconst (v := 3) hx hb dX4_movedStroke_39 (by decide) ?_
  refine lv_idiv hx hb dX4_movedStroke_40 (by decide) ?_
  refine lv_topc 0 (by decide) ?_
  refine lv_imul hx hb dX4_movedStroke_41 ?_
  refine lv_topc 0 (by decide) ?_
  refine lv_iconst (v := 1) hx hb dX4_movedStroke_42 (by decide) ?_
  refine lv_iadd hx hb dX4_movedStroke_43 ?_
  refine lv_topc 1 (by decide) ?_
  refine lv_istore (lv' := [(4, .int 1), (3, .int 2), (2, .int 1), (0, .int 7), (1, .int 0)]) hx hb dX4_movedStroke_44 hl (by decide) rfl (fun ls hl => ?_)
  refine lv_iload_n hx hb dX4_movedStroke_46 rfl (lv_at hl 4 rfl) ?_
  refine lv_iconst (v := 4) hx hb dX4_movedStroke_47 (by decide) ?_
  refine lv_icmp_lt (tgt := 55) hx hb dX4_movedStroke_48 (by decide) (fun _ => ?_) (fun c9 => absurd (by decide) c9)
  refine lv_iconst (v := 0) hx hb dX4_movedStroke_55 (by decide) ?_
  refine lv_istore (lv' := [(5, .int 0), (4, .int 1), (3, .int 2), (2, .int 1), (0, .int 7), (1, .int 0)]) hx hb dX4_movedStroke_56 hl (by decide) rfl (fun ls hl => ?_)
  refine lv_iload hx hb dX4_movedStroke_58 (lv_at hl 0 rfl) ?_
  refine lv_iload_n hx hb dX4_movedStroke_60 rfl (lv_at hl 5 rfl) ?_
  refine lv_iconst (v := 4) hx hb dX4_movedStroke_61 (by decide) ?_
  refine lv_irem hx hb dX4_movedStroke_62 (by decide) ?_
  refine lv_topc 0 (by decide) ?_
  refine lv_icmp_ge (tgt := 84) hx hb dX4_movedStroke_63 (by decide) (fun _ => ?_) (fun c9 => absurd (by decide) c9)
  refine lv_iload hx hb dX4_movedStroke_84 (lv_at hl 1 rfl) ?_
  refine lv_iconst (v := 2) hx hb dX4_movedStroke_86 (by decide) ?_
  refine lv_irem hx hb dX4_movedStroke_87 (by decide) ?_
  refine lv_topc 1 (by decide) ?_
  refine lv_if_ne (tgt := 100) hx hb dX4_movedStroke_88 (by decide) (fun _ => ?_) (fun c9 => absurd c9 (by decide))
  refine lv_bipush (v := 6) hx hb dX4_movedStroke_100 (by decide) ?_
  refine lv_iconst (v := 3) hx hb dX4_movedStroke_102 (by decide) ?_
  refine lv_iload hx hb dX4_movedStroke_103 (lv_at hl 1 rfl) ?_
  refine lv_iconst (v := 2) hx hb dX4_movedStroke_105 (by decide) ?_
  refine lv_idiv hx hb dX4_movedStroke_106 (by decide) ?_
  refine lv_topc 0 (by decide) ?_
  refine lv_imul hx hb dX4_movedStroke_107 ?_
  refine lv_topc 0 (by decide) ?_
  refine lv_iadd hx hb dX4_movedStroke_108 ?_
  refine lv_topc 6 (by decide) ?_
  refine lv_iload_n hx hb dX4_movedStroke_109 rfl (lv_at hl 2 rfl) ?_
  refine lv_iconst (v := 2) hx hb dX4_movedStroke_110 (by decide) ?_
  refine lv_idiv hx hb dX4_movedStroke_111 (by decide) ?_
  refine lv_topc 1 (by decide) ?_
  refine lv_iadd hx hb dX4_movedStroke_112 ?_
  refine lv_topc 7 (by decide) ?_
  exact ze_i hx hb hr hlocks dX4_movedStroke_113 rfl
set_option maxHeartbeats 4000000 in
set_option maxRecDepth 100000 in
theorem c_X4_movedStroke_5 (l : Launch) (D : va_G) (k : Nat → ClassId)  : MetR l D k yX4_movedStroke cX4_movedStroke 7 (some .int) 0 [.int 2, .int 0] [] noX (vp_Si (fun r => r = 2)) := by
  refine metR_of 2 ck_X4_movedStroke (Nat.le_of_ble_eq_true rfl) (fun p e s m args below meth c hx hb hml hr hlocks hown hts hK hX hP hin ls hl => ?_)
  have hP : va_P D vwCl [] s.heap := hP
  have hown : s.vm.findClass "HideReader$Lattice" = some m.cls := hown
  have hl : lv_has ls 7 [(0, .int 2), (1, .int 0)] := hl
  refine lv_iload_n hx hb dX4_movedStroke_0 rfl (lv_at hl 0 rfl) ?_
  refine lv_bipush (v := 6) hx hb dX4_movedStroke_1 (by decide) ?_
  refine lv_isub hx hb dX4_movedStroke_3 ?_
  refine lv_topc (-4) (by decide) ?_
  refine lv_istore_n (lv' := [(2, .int (-4)), (0, .int 2), (1, .int 0)]) hx hb dX4_movedStroke_4 rfl hl (by decide) rfl (fun ls hl => ?_)
  refine lv_iload_n hx hb dX4_movedStroke_5 rfl (lv_at hl 0 rfl) ?_
  refine lv_if_ge (tgt := 19) hx hb dX4_movedStroke_6 (by decide) (fun c9 => absurd c9 (by decide)) (fun _ => ?_)
  refine lv_iconst (v := 2) hx hb dX4_movedStroke_9 (by decide) ?_
  refine lv_iload_n hx hb dX4_movedStroke_10 rfl (lv_at hl 1 rfl) ?_
  refine lv_iconst (v := 2) hx hb dX4_movedStroke_11 (by decide) ?_
  refine lv_irem hx hb dX4_movedStroke_12 (by decide) ?_
  refine lv_topc 0 (by decide) ?_
  refine lv_imul hx hb dX4_movedStroke_13 ?_
  refine lv_topc 0 (by decide) ?_
  refine lv_iconst (v := 1) hx hb dX4_movedStroke_14 (by decide) ?_
  refine lv_iadd hx hb dX4_movedStroke_15 ?_
  refine lv_topc 1 (by decide) ?_
  refine lv_goto (tgt := 24) hx hb dX4_movedStroke_16 (by decide) ?_
  refine lv_istore_n (lv' := [(3, .int 1), (2, .int (-4)), (0, .int 2), (1, .int 0)]) hx hb dX4_movedStroke_24 rfl hl (by decide) rfl (fun ls hl => ?_)
  refine lv_iload_n hx hb dX4_movedStroke_25 rfl (lv_at hl 1 rfl) ?_
  refine lv_if_ge (tgt := 37) hx hb dX4_movedStroke_26 (by decide) (fun c9 => absurd c9 (by decide)) (fun _ => ?_)
  refine lv_iconst (v := 2) hx hb dX4_movedStroke_29 (by decide) ?_
  refine lv_iload_n hx hb dX4_movedStroke_30 rfl (lv_at hl 2 rfl) ?_
  refine lv_iconst (v := 2) hx hb dX4_movedStroke_31 (by decide) ?_
  refine lv_idiv hx hb dX4_movedStroke_32 (by decide) ?_
  refine lv_topc 1 (by decide) ?_
  refine lv_imul hx hb dX4_movedStroke_33 ?_
  refine lv_topc 2 (by decide) ?_
  refine lv_goto (tgt := 44) hx hb dX4_movedStroke_34 (by decide) ?_
  refine lv_istore (lv' := [(4, .int 2), (3, .int 1), (2, .int (-4)), (0, .int 2), (1, .int 0)]) hx hb dX4_movedStroke_44 hl (by decide) rfl (fun ls hl => ?_)
  refine lv_iload_n hx hb dX4_movedStroke_46 rfl (lv_at hl 4 rfl) ?_
  refine lv_iconst (v := 4) hx hb dX4_movedStroke_47 (by decide) ?_
  refine lv_icmp_lt (tgt := 55) hx hb dX4_movedStroke_48 (by decide) (fun _ => ?_) (fun c9 => absurd (by decide) c9)
  refine lv_iconst (v := 0) hx hb dX4_movedStroke_55 (by decide) ?_
  refine lv_istore (lv' := [(5, .int 0), (4, .int 2), (3, .int 1), (2, .int (-4)), (0, .int 2), (1, .int 0)]) hx hb dX4_movedStroke_56 hl (by decide) rfl (fun ls hl => ?_)
  refine lv_iload hx hb dX4_movedStroke_58 (lv_at hl 0 rfl) ?_
  refine lv_iload_n hx hb dX4_movedStroke_60 rfl (lv_at hl 5 rfl) ?_
  refine lv_iconst (v := 4) hx hb dX4_movedStroke_61 (by decide) ?_
  refine lv_irem hx hb dX4_movedStroke_62 (by decide) ?_
  refine lv_topc 0 (by decide) ?_
  refine lv_icmp_ge (tgt := 84) hx hb dX4_movedStroke_63 (by decide) (fun _ => ?_) (fun c9 => absurd (by decide) c9)
  refine lv_iload hx hb dX4_movedStroke_84 (lv_at hl 1 rfl) ?_
  refine lv_iconst (v := 2) hx hb dX4_movedStroke_86 (by decide) ?_
  refine lv_irem hx hb dX4_movedStroke_87 (by decide) ?_
  refine lv_topc 0 (by decide) ?_
  refine lv_if_ne (tgt := 100) hx hb dX4_movedStroke_88 (by decide) (fun c9 => absurd (by decide) c9) (fun _ => ?_)
  refine lv_iload hx hb dX4_movedStroke_91 (lv_at hl 1 rfl) ?_
  refine lv_iload_n hx hb dX4_movedStroke_93 rfl (lv_at hl 2 rfl) ?_
  refine lv_iconst (v := 2) hx hb dX4_movedStroke_94 (by decide) ?_
  refine lv_idiv hx hb dX4_movedStroke_95 (by decide) ?_
  refine lv_topc 0 (by decide) ?_
  refine lv_iadd hx hb dX4_movedStroke_96 ?_
  refine lv_topc 2 (by decide) ?_
  refine lv_goto (tgt := 113) hx hb dX4_movedStroke_97 (by decide) ?_
  exact ze_i hx hb hr hlocks dX4_movedStroke_113 rfl
set_option maxHeartbeats 4000000 in
set_option maxRecDepth 100000 in
theorem c_X4_movedStroke_6 (l : Launch) (D : va_G) (k : Nat → ClassId)  : MetR l D k yX4_movedStroke cX4_movedStroke 7 (some .int) 0 [.int 8, .int 0] [] noX (vp_Si (fun r => r = 8)) := by
  refine metR_of 2 ck_X4_movedStroke (Nat.le_of_ble_eq_true rfl) (fun p e s m args below meth c hx hb hml hr hlocks hown hts hK hX hP hin ls hl => ?_)
  have hP : va_P D vwCl [] s.heap := hP
  have hown : s.vm.findClass "HideReader$Lattice" = some m.cls := hown
  have hl : lv_has ls 7 [(0, .int 8), (1, .int 0)] := hl
  refine lv_iload_n hx hb dX4_movedStroke_0 rfl (lv_at hl 0 rfl) ?_
  refine lv_bipush (v := 6) hx hb dX4_movedStroke_1 (by decide) ?_
  refine lv_isub hx hb dX4_movedStroke_3 ?_
  refine lv_topc 2 (by decide) ?_
  refine lv_istore_n (lv' := [(2, .int 2), (0, .int 8), (1, .int 0)]) hx hb dX4_movedStroke_4 rfl hl (by decide) rfl (fun ls hl => ?_)
  refine lv_iload_n hx hb dX4_movedStroke_5 rfl (lv_at hl 0 rfl) ?_
  refine lv_if_ge (tgt := 19) hx hb dX4_movedStroke_6 (by decide) (fun _ => ?_) (fun c9 => absurd (by decide) c9)
  refine lv_iconst (v := 2) hx hb dX4_movedStroke_19 (by decide) ?_
  refine lv_iload_n hx hb dX4_movedStroke_20 rfl (lv_at hl 0 rfl) ?_
  refine lv_iconst (v := 3) hx hb dX4_movedStroke_21 (by decide) ?_
  refine lv_irem hx hb dX4_movedStroke_22 (by decide) ?_
  refine lv_topc 2 (by decide) ?_
  refine lv_imul hx hb dX4_movedStroke_23 ?_
  refine lv_topc 4 (by decide) ?_
  refine lv_istore_n (lv' := [(3, .int 4), (2, .int 2), (0, .int 8), (1, .int 0)]) hx hb dX4_movedStroke_24 rfl hl (by decide) rfl (fun ls hl => ?_)
  refine lv_iload_n hx hb dX4_movedStroke_25 rfl (lv_at hl 1 rfl) ?_
  refine lv_if_ge (tgt := 37) hx hb dX4_movedStroke_26 (by decide) (fun _ => ?_) (fun c9 => absurd (by decide) c9)
  refine lv_iconst (v := 2) hx hb dX4_movedStroke_37 (by decide) ?_
  refine lv_iload_n hx hb dX4_movedStroke_38 rfl (lv_at hl 1 rfl) ?_
  refine lv_iconst (v := 3) hx hb dX4_movedStroke_39 (by decide) ?_
  refine lv_idiv hx hb dX4_movedStroke_40 (by decide) ?_
  refine lv_topc 0 (by decide) ?_
  refine lv_imul hx hb dX4_movedStroke_41 ?_
  refine lv_topc 0 (by decide) ?_
  refine lv_iconst (v := 1) hx hb dX4_movedStroke_42 (by decide) ?_
  refine lv_iadd hx hb dX4_movedStroke_43 ?_
  refine lv_topc 1 (by decide) ?_
  refine lv_istore (lv' := [(4, .int 1), (3, .int 4), (2, .int 2), (0, .int 8), (1, .int 0)]) hx hb dX4_movedStroke_44 hl (by decide) rfl (fun ls hl => ?_)
  refine lv_iload_n hx hb dX4_movedStroke_46 rfl (lv_at hl 4 rfl) ?_
  refine lv_iconst (v := 4) hx hb dX4_movedStroke_47 (by decide) ?_
  refine lv_icmp_lt (tgt := 55) hx hb dX4_movedStroke_48 (by decide) (fun _ => ?_) (fun c9 => absurd (by decide) c9)
  refine lv_iconst (v := 0) hx hb dX4_movedStroke_55 (by decide) ?_
  refine lv_istore (lv' := [(5, .int 0), (4, .int 1), (3, .int 4), (2, .int 2), (0, .int 8), (1, .int 0)]) hx hb dX4_movedStroke_56 hl (by decide) rfl (fun ls hl => ?_)
  refine lv_iload hx hb dX4_movedStroke_58 (lv_at hl 0 rfl) ?_
  refine lv_iload_n hx hb dX4_movedStroke_60 rfl (lv_at hl 5 rfl) ?_
  refine lv_iconst (v := 4) hx hb dX4_movedStroke_61 (by decide) ?_
  refine lv_irem hx hb dX4_movedStroke_62 (by decide) ?_
  refine lv_topc 0 (by decide) ?_
  refine lv_icmp_ge (tgt := 84) hx hb dX4_movedStroke_63 (by decide) (fun _ => ?_) (fun c9 => absurd (by decide) c9)
  refine lv_iload hx hb dX4_movedStroke_84 (lv_at hl 1 rfl) ?_
  refine lv_iconst (v := 2) hx hb dX4_movedStroke_86 (by decide) ?_
  refine lv_irem hx hb dX4_movedStroke_87 (by decide) ?_
  refine lv_topc 1 (by decide) ?_
  refine lv_if_ne (tgt := 100) hx hb dX4_movedStroke_88 (by decide) (fun _ => ?_) (fun c9 => absurd c9 (by decide))
  refine lv_bipush (v := 6) hx hb dX4_movedStroke_100 (by decide) ?_
  refine lv_iconst (v := 3) hx hb dX4_movedStroke_102 (by decide) ?_
  refine lv_iload hx hb dX4_movedStroke_103 (lv_at hl 1 rfl) ?_
  refine lv_iconst (v := 2) hx hb dX4_movedStroke_105 (by decide) ?_
  refine lv_idiv hx hb dX4_movedStroke_106 (by decide) ?_
  refine lv_topc 0 (by decide) ?_
  refine lv_imul hx hb dX4_movedStroke_107 ?_
  refine lv_topc 0 (by decide) ?_
  refine lv_iadd hx hb dX4_movedStroke_108 ?_
  refine lv_topc 6 (by decide) ?_
  refine lv_iload_n hx hb dX4_movedStroke_109 rfl (lv_at hl 2 rfl) ?_
  refine lv_iconst (v := 2) hx hb dX4_movedStroke_110 (by decide) ?_
  refine lv_idiv hx hb dX4_movedStroke_111 (by decide) ?_
  refine lv_topc 2 (by decide) ?_
  refine lv_iadd hx hb dX4_movedStroke_112 ?_
  refine lv_topc 8 (by decide) ?_
  exact ze_i hx hb hr hlocks dX4_movedStroke_113 rfl
set_option maxHeartbeats 4000000 in
set_option maxRecDepth 100000 in
theorem c_X4_movedStroke_7 (l : Launch) (D : va_G) (k : Nat → ClassId)  : MetR l D k yX4_movedStroke cX4_movedStroke 7 (some .int) 0 [.int 3, .int 0] [] noX (vp_Si (fun r => r = 3)) := by
  refine metR_of 2 ck_X4_movedStroke (Nat.le_of_ble_eq_true rfl) (fun p e s m args below meth c hx hb hml hr hlocks hown hts hK hX hP hin ls hl => ?_)
  have hP : va_P D vwCl [] s.heap := hP
  have hown : s.vm.findClass "HideReader$Lattice" = some m.cls := hown
  have hl : lv_has ls 7 [(0, .int 3), (1, .int 0)] := hl
  refine lv_iload_n hx hb dX4_movedStroke_0 rfl (lv_at hl 0 rfl) ?_
  refine lv_bipush (v := 6) hx hb dX4_movedStroke_1 (by decide) ?_
  refine lv_isub hx hb dX4_movedStroke_3 ?_
  refine lv_topc (-3) (by decide) ?_
  refine lv_istore_n (lv' := [(2, .int (-3)), (0, .int 3), (1, .int 0)]) hx hb dX4_movedStroke_4 rfl hl (by decide) rfl (fun ls hl => ?_)
  refine lv_iload_n hx hb dX4_movedStroke_5 rfl (lv_at hl 0 rfl) ?_
  refine lv_if_ge (tgt := 19) hx hb dX4_movedStroke_6 (by decide) (fun c9 => absurd c9 (by decide)) (fun _ => ?_)
  refine lv_iconst (v := 2) hx hb dX4_movedStroke_9 (by decide) ?_
  refine lv_iload_n hx hb dX4_movedStroke_10 rfl (lv_at hl 1 rfl) ?_
  refine lv_iconst (v := 2) hx hb dX4_movedStroke_11 (by decide) ?_
  refine lv_irem hx hb dX4_movedStroke_12 (by decide) ?_
  refine lv_topc 1 (by decide) ?_
  refine lv_imul hx hb dX4_movedStroke_13 ?_
  refine lv_topc 2 (by decide) ?_
  refine lv_iconst (v := 1) hx hb dX4_movedStroke_14 (by decide) ?_
  refine lv_iadd hx hb dX4_movedStroke_15 ?_
  refine lv_topc 3 (by decide) ?_
  refine lv_goto (tgt := 24) hx hb dX4_movedStroke_16 (by decide) ?_
  refine lv_istore_n (lv' := [(3, .int 3), (2, .int (-3)), (0, .int 3), (1, .int 0)]) hx hb dX4_movedStroke_24 rfl hl (by decide) rfl (fun ls hl => ?_)
  refine lv_iload_n hx hb dX4_movedStroke_25 rfl (lv_at hl 1 rfl) ?_
  refine lv_if_ge (tgt := 37) hx hb dX4_movedStroke_26 (by decide) (fun c9 => absurd c9 (by decide)) (fun _ => ?_)
  refine lv_iconst (v := 2) hx hb dX4_movedStroke_29 (by decide) ?_
  refine lv_iload_n hx hb dX4_movedStroke_30 rfl (lv_at hl 2 rfl) ?_
  refine lv_iconst (v := 2) hx hb dX4_movedStroke_31 (by decide) ?_
  refine lv_idiv hx hb dX4_movedStroke_32 (by decide) ?_
  refine lv_topc 1 (by decide) ?_
  refine lv_imul hx hb dX4_movedStroke_33 ?_
  refine lv_topc 2 (by decide) ?_
  refine lv_goto (tgt := 44) hx hb dX4_movedStroke_34 (by decide) ?_
  refine lv_istore (lv' := [(4, .int 2), (3, .int 3), (2, .int (-3)), (0, .int 3), (1, .int 0)]) hx hb dX4_movedStroke_44 hl (by decide) rfl (fun ls hl => ?_)
  refine lv_iload_n hx hb dX4_movedStroke_46 rfl (lv_at hl 4 rfl) ?_
  refine lv_iconst (v := 4) hx hb dX4_movedStroke_47 (by decide) ?_
  refine lv_icmp_lt (tgt := 55) hx hb dX4_movedStroke_48 (by decide) (fun _ => ?_) (fun c9 => absurd (by decide) c9)
  refine lv_iconst (v := 0) hx hb dX4_movedStroke_55 (by decide) ?_
  refine lv_istore (lv' := [(5, .int 0), (4, .int 2), (3, .int 3), (2, .int (-3)), (0, .int 3), (1, .int 0)]) hx hb dX4_movedStroke_56 hl (by decide) rfl (fun ls hl => ?_)
  refine lv_iload hx hb dX4_movedStroke_58 (lv_at hl 0 rfl) ?_
  refine lv_iload_n hx hb dX4_movedStroke_60 rfl (lv_at hl 5 rfl) ?_
  refine lv_iconst (v := 4) hx hb dX4_movedStroke_61 (by decide) ?_
  refine lv_irem hx hb dX4_movedStroke_62 (by decide) ?_
  refine lv_topc 0 (by decide) ?_
  refine lv_icmp_ge (tgt := 84) hx hb dX4_movedStroke_63 (by decide) (fun _ => ?_) (fun c9 => absurd (by decide) c9)
  refine lv_iload hx hb dX4_movedStroke_84 (lv_at hl 1 rfl) ?_
  refine lv_iconst (v := 2) hx hb dX4_movedStroke_86 (by decide) ?_
  refine lv_irem hx hb dX4_movedStroke_87 (by decide) ?_
  refine lv_topc 0 (by decide) ?_
  refine lv_if_ne (tgt := 100) hx hb dX4_movedStroke_88 (by decide) (fun c9 => absurd (by decide) c9) (fun _ => ?_)
  refine lv_iload hx hb dX4_movedStroke_91 (lv_at hl 1 rfl) ?_
  refine lv_iload_n hx hb dX4_movedStroke_93 rfl (lv_at hl 2 rfl) ?_
  refine lv_iconst (v := 2) hx hb dX4_movedStroke_94 (by decide) ?_
  refine lv_idiv hx hb dX4_movedStroke_95 (by decide) ?_
  refine lv_topc 1 (by decide) ?_
  refine lv_iadd hx hb dX4_movedStroke_96 ?_
  refine lv_topc 3 (by decide) ?_
  refine lv_goto (tgt := 113) hx hb dX4_movedStroke_97 (by decide) ?_
  exact ze_i hx hb hr hlocks dX4_movedStroke_113 rfl
set_option maxHeartbeats 4000000 in
set_option maxRecDepth 100000 in
theorem c_X4_movedStroke_8 (l : Launch) (D : va_G) (k : Nat → ClassId)  : MetR l D k yX4_movedStroke cX4_movedStroke 7 (some .int) 0 [.int 9, .int 0] [] noX (vp_Si (fun r => r = 9)) := by
  refine metR_of 2 ck_X4_movedStroke (Nat.le_of_ble_eq_true rfl) (fun p e s m args below meth c hx hb hml hr hlocks hown hts hK hX hP hin ls hl => ?_)
  have hP : va_P D vwCl [] s.heap := hP
  have hown : s.vm.findClass "HideReader$Lattice" = some m.cls := hown
  have hl : lv_has ls 7 [(0, .int 9), (1, .int 0)] := hl
  refine lv_iload_n hx hb dX4_movedStroke_0 rfl (lv_at hl 0 rfl) ?_
  refine lv_bipush (v := 6) hx hb dX4_movedStroke_1 (by decide) ?_
  refine lv_isub hx hb dX4_movedStroke_3 ?_
  refine lv_topc 3 (by decide) ?_
  refine lv_istore_n (lv' := [(2, .int 3), (0, .int 9), (1, .int 0)]) hx hb dX4_movedStroke_4 rfl hl (by decide) rfl (fun ls hl => ?_)
  refine lv_iload_n hx hb dX4_movedStroke_5 rfl (lv_at hl 0 rfl) ?_
  refine lv_if_ge (tgt := 19) hx hb dX4_movedStroke_6 (by decide) (fun _ => ?_) (fun c9 => absurd (by decide) c9)
  refine lv_iconst (v := 2) hx hb dX4_movedStroke_19 (by decide) ?_
  refine lv_iload_n hx hb dX4_movedStroke_20 rfl (lv_at hl 0 rfl) ?_
  refine lv_iconst (v := 3) hx hb dX4_movedStroke_21 (by decide) ?_
  refine lv_irem hx hb dX4_movedStroke_22 (by decide) ?_
  refine lv_topc 0 (by decide) ?_
  refine lv_imul hx hb dX4_movedStroke_23 ?_
  refine lv_topc 0 (by decide) ?_
  refine lv_istore_n (lv' := [(3, .int 0), (2, .int 3), (0, .int 9), (1, .int 0)]) hx hb dX4_movedStroke_24 rfl hl (by decide) rfl (fun ls hl => ?_)
  refine lv_iload_n hx hb dX4_movedStroke_25 rfl (lv_at hl 1 rfl) ?_
  refine lv_if_ge (tgt := 37) hx hb dX4_movedStroke_26 (by decide) (fun _ => ?_) (fun c9 => absurd (by decide) c9)
  refine lv_iconst (v := 2) hx hb dX4_movedStroke_37 (by decide) ?_
  refine lv_iload_n hx hb dX4_movedStroke_38 rfl (lv_at hl 1 rfl) ?_
  refine lv_iconst (v := 3) hx hb dX4_movedStroke_39 (by decide) ?_
  refine lv_idiv hx hb dX4_movedStroke_40 (by decide) ?_
  refine lv_topc 1 (by decide) ?_
  refine lv_imul hx hb dX4_movedStroke_41 ?_
  refine lv_topc 2 (by decide) ?_
  refine lv_iconst (v := 1) hx hb dX4_movedStroke_42 (by decide) ?_
  refine lv_iadd hx hb dX4_movedStroke_43 ?_
  refine lv_topc 3 (by decide) ?_
  refine lv_istore (lv' := [(4, .int 3), (3, .int 0), (2, .int 3), (0, .int 9), (1, .int 0)]) hx hb dX4_movedStroke_44 hl (by decide) rfl (fun ls hl => ?_)
  refine lv_iload_n hx hb dX4_movedStroke_46 rfl (lv_at hl 4 rfl) ?_
  refine lv_iconst (v := 4) hx hb dX4_movedStroke_47 (by decide) ?_
  refine lv_icmp_lt (tgt := 55) hx hb dX4_movedStroke_48 (by decide) (fun _ => ?_) (fun c9 => absurd (by decide) c9)
  refine lv_iconst (v := 0) hx hb dX4_movedStroke_55 (by decide) ?_
  refine lv_istore (lv' := [(5, .int 0), (4, .int 3), (3, .int 0), (2, .int 3), (0, .int 9), (1, .int 0)]) hx hb dX4_movedStroke_56 hl (by decide) rfl (fun ls hl => ?_)
  refine lv_iload hx hb dX4_movedStroke_58 (lv_at hl 0 rfl) ?_
  refine lv_iload_n hx hb dX4_movedStroke_60 rfl (lv_at hl 5 rfl) ?_
  refine lv_iconst (v := 4) hx hb dX4_movedStroke_61 (by decide) ?_
  refine lv_irem hx hb dX4_movedStroke_62 (by decide) ?_
  refine lv_topc 0 (by decide) ?_
  refine lv_icmp_ge (tgt := 84) hx hb dX4_movedStroke_63 (by decide) (fun _ => ?_) (fun c9 => absurd (by decide) c9)
  refine lv_iload hx hb dX4_movedStroke_84 (lv_at hl 1 rfl) ?_
  refine lv_iconst (v := 2) hx hb dX4_movedStroke_86 (by decide) ?_
  refine lv_irem hx hb dX4_movedStroke_87 (by decide) ?_
  refine lv_topc 1 (by decide) ?_
  refine lv_if_ne (tgt := 100) hx hb dX4_movedStroke_88 (by decide) (fun _ => ?_) (fun c9 => absurd c9 (by decide))
  refine lv_bipush (v := 6) hx hb dX4_movedStroke_100 (by decide) ?_
  refine lv_iconst (v := 3) hx hb dX4_movedStroke_102 (by decide) ?_
  refine lv_iload hx hb dX4_movedStroke_103 (lv_at hl 1 rfl) ?_
  refine lv_iconst (v := 2) hx hb dX4_movedStroke_105 (by decide) ?_
  refine lv_idiv hx hb dX4_movedStroke_106 (by decide) ?_
  refine lv_topc 1 (by decide) ?_
  refine lv_imul hx hb dX4_movedStroke_107 ?_
  refine lv_topc 3 (by decide) ?_
  refine lv_iadd hx hb dX4_movedStroke_108 ?_
  refine lv_topc 9 (by decide) ?_
  refine lv_iload_n hx hb dX4_movedStroke_109 rfl (lv_at hl 2 rfl) ?_
  refine lv_iconst (v := 2) hx hb dX4_movedStroke_110 (by decide) ?_
  refine lv_idiv hx hb dX4_movedStroke_111 (by decide) ?_
  refine lv_topc 0 (by decide) ?_
  refine lv_iadd hx hb dX4_movedStroke_112 ?_
  refine lv_topc 9 (by decide) ?_
  exact ze_i hx hb hr hlocks dX4_movedStroke_113 rfl
set_option maxHeartbeats 4000000 in
set_option maxRecDepth 100000 in
theorem c_X4_movedStroke_9 (l : Launch) (D : va_G) (k : Nat → ClassId)  : MetR l D k yX4_movedStroke cX4_movedStroke 7 (some .int) 0 [.int 4, .int 0] [] noX (vp_Si (fun r => r = 4)) := by
  refine metR_of 2 ck_X4_movedStroke (Nat.le_of_ble_eq_true rfl) (fun p e s m args below meth c hx hb hml hr hlocks hown hts hK hX hP hin ls hl => ?_)
  have hP : va_P D vwCl [] s.heap := hP
  have hown : s.vm.findClass "HideReader$Lattice" = some m.cls := hown
  have hl : lv_has ls 7 [(0, .int 4), (1, .int 0)] := hl
  refine lv_iload_n hx hb dX4_movedStroke_0 rfl (lv_at hl 0 rfl) ?_
  refine lv_bipush (v := 6) hx hb dX4_movedStroke_1 (by decide) ?_
  refine lv_isub hx hb dX4_movedStroke_3 ?_
  refine lv_topc (-2) (by decide) ?_
  refine lv_istore_n (lv' := [(2, .int (-2)), (0, .int 4), (1, .int 0)]) hx hb dX4_movedStroke_4 rfl hl (by decide) rfl (fun ls hl => ?_)
  refine lv_iload_n hx hb dX4_movedStroke_5 rfl (lv_at hl 0 rfl) ?_
  refine lv_if_ge (tgt := 19) hx hb dX4_movedStroke_6 (by decide) (fun c9 => absurd c9 (by decide)) (fun _ => ?_)
  refine lv_iconst (v := 2) hx hb dX4_movedStroke_9 (by decide) ?_
  refine lv_iload_n hx hb dX4_movedStroke_10 rfl (lv_at hl 1 rfl) ?_
  refine lv_iconst (v := 2) hx hb dX4_movedStroke_11 (by decide) ?_
  refine lv_irem hx hb dX4_movedStroke_12 (by decide) ?_
  refine lv_topc 0 (by decide) ?_
  refine lv_imul hx hb dX4_movedStroke_13 ?_
  refine lv_topc 0 (by decide) ?_
  refine lv_iconst (v := 1) hx hb dX4_movedStroke_14 (by decide) ?_
  refine lv_iadd hx hb dX4_movedStroke_15 ?_
  refine lv_topc 1 (by decide) ?_
  refine lv_goto (tgt := 24) hx hb dX4_movedStroke_16 (by decide) ?_
  refine lv_istore_n (lv' := [(3, .int 1), (2, .int (-2)), (0, .int 4), (1, .int 0)]) hx hb dX4_movedStroke_24 rfl hl (by decide) rfl (fun ls hl => ?_)
  refine lv_iload_n hx hb dX4_movedStroke_25 rfl (lv_at hl 1 rfl) ?_
  refine lv_if_ge (tgt := 37) hx hb dX4_movedStroke_26 (by decide) (fun c9 => absurd c9 (by decide)) (fun _ => ?_)
  refine lv_iconst (v := 2) hx hb dX4_movedStroke_29 (by decide) ?_
  refine lv_iload_n hx hb dX4_movedStroke_30 rfl (lv_at hl 2 rfl) ?_
  refine lv_iconst (v := 2) hx hb dX4_movedStroke_31 (by decide) ?_
  refine lv_idiv hx hb dX4_movedStroke_32 (by decide) ?_
  refine lv_topc 2 (by decide) ?_
  refine lv_imul hx hb dX4_movedStroke_33 ?_
  refine lv_topc 4 (by decide) ?_
  refine lv_goto (tgt := 44) hx hb dX4_movedStroke_34 (by decide) ?_
  refine lv_istore (lv' := [(4, .int 4), (3, .int 1), (2, .int (-2)), (0, .int 4), (1, .int 0)]) hx hb dX4_movedStroke_44 hl (by decide) rfl (fun ls hl => ?_)
  refine lv_iload_n hx hb dX4_movedStroke_46 rfl (lv_at hl 4 rfl) ?_
  refine lv_iconst (v := 4) hx hb dX4_movedStroke_47 (by decide) ?_
  refine lv_icmp_lt (tgt := 55) hx hb dX4_movedStroke_48 (by decide) (fun _ => ?_) (fun c9 => absurd (by decide) c9)
  refine lv_iconst (v := 0) hx hb dX4_movedStroke_55 (by decide) ?_
  refine lv_istore (lv' := [(5, .int 0), (4, .int 4), (3, .int 1), (2, .int (-2)), (0, .int 4), (1, .int 0)]) hx hb dX4_movedStroke_56 hl (by decide) rfl (fun ls hl => ?_)
  refine lv_iload hx hb dX4_movedStroke_58 (lv_at hl 0 rfl) ?_
  refine lv_iload_n hx hb dX4_movedStroke_60 rfl (lv_at hl 5 rfl) ?_
  refine lv_iconst (v := 4) hx hb dX4_movedStroke_61 (by decide) ?_
  refine lv_irem hx hb dX4_movedStroke_62 (by decide) ?_
  refine lv_topc 0 (by decide) ?_
  refine lv_icmp_ge (tgt := 84) hx hb dX4_movedStroke_63 (by decide) (fun _ => ?_) (fun c9 => absurd (by decide) c9)
  refine lv_iload hx hb dX4_movedStroke_84 (lv_at hl 1 rfl) ?_
  refine lv_iconst (v := 2) hx hb dX4_movedStroke_86 (by decide) ?_
  refine lv_irem hx hb dX4_movedStroke_87 (by decide) ?_
  refine lv_topc 0 (by decide) ?_
  refine lv_if_ne (tgt := 100) hx hb dX4_movedStroke_88 (by decide) (fun c9 => absurd (by decide) c9) (fun _ => ?_)
  refine lv_iload hx hb dX4_movedStroke_91 (lv_at hl 1 rfl) ?_
  refine lv_iload_n hx hb dX4_movedStroke_93 rfl (lv_at hl 2 rfl) ?_
  refine lv_iconst (v := 2) hx hb dX4_movedStroke_94 (by decide) ?_
  refine lv_idiv hx hb dX4_movedStroke_95 (by decide) ?_
  refine lv_topc 0 (by decide) ?_
  refine lv_iadd hx hb dX4_movedStroke_96 ?_
  refine lv_topc 4 (by decide) ?_
  refine lv_goto (tgt := 113) hx hb dX4_movedStroke_97 (by decide) ?_
  exact ze_i hx hb hr hlocks dX4_movedStroke_113 rfl
set_option maxHeartbeats 4000000 in
set_option maxRecDepth 100000 in
theorem c_X4_movedStroke_10 (l : Launch) (D : va_G) (k : Nat → ClassId)  : MetR l D k yX4_movedStroke cX4_movedStroke 7 (some .int) 0 [.int 10, .int 0] [] noX (vp_Si (fun r => r = 10)) := by
  refine metR_of 2 ck_X4_movedStroke (Nat.le_of_ble_eq_true rfl) (fun p e s m args below meth c hx hb hml hr hlocks hown hts hK hX hP hin ls hl => ?_)
  have hP : va_P D vwCl [] s.heap := hP
  have hown : s.vm.findClass "HideReader$Lattice" = some m.cls := hown
  have hl : lv_has ls 7 [(0, .int 10), (1, .int 0)] := hl
  refine lv_iload_n hx hb dX4_movedStroke_0 rfl (lv_at hl 0 rfl) ?_
  refine lv_bipush (v := 6) hx hb dX4_movedStroke_1 (by decide) ?_
  refine lv_isub hx hb dX4_movedStroke_3 ?_
  refine lv_topc 4 (by decide) ?_
  refine lv_istore_n (lv' := [(2, .int 4), (0, .int 10), (1, .int 0)]) hx hb dX4_movedStroke_4 rfl hl (by decide) rfl (fun ls hl => ?_)
  refine lv_iload_n hx hb dX4_movedStroke_5 rfl (lv_at hl 0 rfl) ?_
  refine lv_if_ge (tgt := 19) hx hb dX4_movedStroke_6 (by decide) (fun _ => ?_) (fun c9 => absurd (by decide) c9)
  refine lv_iconst (v := 2) hx hb dX4_movedStroke_19 (by decide) ?_
  refine lv_iload_n hx hb dX4_movedStroke_20 rfl (lv_at hl 0 rfl) ?_
  refine lv_iconst (v := 3) hx hb dX4_movedStroke_21 (by decide) ?_
  refine lv_irem hx hb dX4_movedStroke_22 (by decide) ?_
  refine lv_topc 1 (by decide) ?_
  refine lv_imul hx hb dX4_movedStroke_23 ?_
  refine lv_topc 2 (by decide) ?_
  refine lv_istore_n (lv' := [(3, .int 2), (2, .int 4), (0, .int 10), (1, .int 0)]) hx hb dX4_movedStroke_24 rfl hl (by decide) rfl (fun ls hl => ?_)
  refine lv_iload_n hx hb dX4_movedStroke_25 rfl (lv_at hl 1 rfl) ?_
  refine lv_if_ge (tgt := 37) hx hb dX4_movedStroke_26 (by decide) (fun _ => ?_) (fun c9 => absurd (by decide) c9)
  refine lv_iconst (v := 2) hx hb dX4_movedStroke_37 (by decide) ?_
  refine lv_iload_n hx hb dX4_movedStroke_38 rfl (lv_at hl 1 rfl) ?_
  refine lv_iconst (v := 3) hx hb dX4_movedStroke_39 (by decide) ?_
  refine lv_idiv hx hb dX4_movedStroke_40 (by decide) ?_
  refine lv_topc 1 (by decide) ?_
  refine lv_imul hx hb dX4_movedStroke_41 ?_
  refine lv_topc 2 (by decide) ?_
  refine lv_iconst (v := 1) hx hb dX4_movedStroke_42 (by decide) ?_
  refine lv_iadd hx hb dX4_movedStroke_43 ?_
  refine lv_topc 3 (by decide) ?_
  refine lv_istore (lv' := [(4, .int 3), (3, .int 2), (2, .int 4), (0, .int 10), (1, .int 0)]) hx hb dX4_movedStroke_44 hl (by decide) rfl (fun ls hl => ?_)
  refine lv_iload_n hx hb dX4_movedStroke_46 rfl (lv_at hl 4 rfl) ?_
  refine lv_iconst (v := 4) hx hb dX4_movedStroke_47 (by decide) ?_
  refine lv_icmp_lt (tgt := 55) hx hb dX4_movedStroke_48 (by decide) (fun _ => ?_) (fun c9 => absurd (by decide) c9)
  refine lv_iconst (v := 0) hx hb dX4_movedStroke_55 (by decide) ?_
  refine lv_istore (lv' := [(5, .int 0), (4, .int 3), (3, .int 2), (2, .int 4), (0, .int 10), (1, .int 0)]) hx hb dX4_movedStroke_56 hl (by decide) rfl (fun ls hl => ?_)
  refine lv_iload hx hb dX4_movedStroke_58 (lv_at hl 0 rfl) ?_
  refine lv_iload_n hx hb dX4_movedStroke_60 rfl (lv_at hl 5 rfl) ?_
  refine lv_iconst (v := 4) hx hb dX4_movedStroke_61 (by decide) ?_
  refine lv_irem hx hb dX4_movedStroke_62 (by decide) ?_
  refine lv_topc 0 (by decide) ?_
  refine lv_icmp_ge (tgt := 84) hx hb dX4_movedStroke_63 (by decide) (fun _ => ?_) (fun c9 => absurd (by decide) c9)
  refine lv_iload hx hb dX4_movedStroke_84 (lv_at hl 1 rfl) ?_
  refine lv_iconst (v := 2) hx hb dX4_movedStroke_86 (by decide) ?_
  refine lv_irem hx hb dX4_movedStroke_87 (by decide) ?_
  refine lv_topc 1 (by decide) ?_
  refine lv_if_ne (tgt := 100) hx hb dX4_movedStroke_88 (by decide) (fun _ => ?_) (fun c9 => absurd c9 (by decide))
  refine lv_bipush (v := 6) hx hb dX4_movedStroke_100 (by decide) ?_
  refine lv_iconst (v := 3) hx hb dX4_movedStroke_102 (by decide) ?_
  refine lv_iload hx hb dX4_movedStroke_103 (lv_at hl 1 rfl) ?_
  refine lv_iconst (v := 2) hx hb dX4_movedStroke_105 (by decide) ?_
  refine lv_idiv hx hb dX4_movedStroke_106 (by decide) ?_
  refine lv_topc 1 (by decide) ?_
  refine lv_imul hx hb dX4_movedStroke_107 ?_
  refine lv_topc 3 (by decide) ?_
  refine lv_iadd hx hb dX4_movedStroke_108 ?_
  refine lv_topc 9 (by decide) ?_
  refine lv_iload_n hx hb dX4_movedStroke_109 rfl (lv_at hl 2 rfl) ?_
  refine lv_iconst (v := 2) hx hb dX4_movedStroke_110 (by decide) ?_
  refine lv_idiv hx hb dX4_movedStroke_111 (by decide) ?_
  refine lv_topc 1 (by decide) ?_
  refine lv_iadd hx hb dX4_movedStroke_112 ?_
  refine lv_topc 10 (by decide) ?_
  exact ze_i hx hb hr hlocks dX4_movedStroke_113 rfl
set_option maxHeartbeats 4000000 in
set_option maxRecDepth 100000 in
theorem c_X4_movedStroke_11 (l : Launch) (D : va_G) (k : Nat → ClassId)  : MetR l D k yX4_movedStroke cX4_movedStroke 7 (some .int) 0 [.int 5, .int 0] [] noX (vp_Si (fun r => r = 5)) := by
  refine metR_of 2 ck_X4_movedStroke (Nat.le_of_ble_eq_true rfl) (fun p e s m args below meth c hx hb hml hr hlocks hown hts hK hX hP hin ls hl => ?_)
  have hP : va_P D vwCl [] s.heap := hP
  have hown : s.vm.findClass "HideReader$Lattice" = some m.cls := hown
  have hl : lv_has ls 7 [(0, .int 5), (1, .int 0)] := hl
  refine lv_iload_n hx hb dX4_movedStroke_0 rfl (lv_at hl 0 rfl) ?_
  refine lv_bipush (v := 6) hx hb dX4_movedStroke_1 (by decide) ?_
  refine lv_isub hx hb dX4_movedStroke_3 ?_
  refine lv_topc (-1) (by decide) ?_
  refine lv_istore_n (lv' := [(2, .int (-1)), (0, .int 5), (1, .int 0)]) hx hb dX4_movedStroke_4 rfl hl (by decide) rfl (fun ls hl => ?_)
  refine lv_iload_n hx hb dX4_movedStroke_5 rfl (lv_at hl 0 rfl) ?_
  refine lv_if_ge (tgt := 19) hx hb dX4_movedStroke_6 (by decide) (fun c9 => absurd c9 (by decide)) (fun _ => ?_)
  refine lv_iconst (v := 2) hx hb dX4_movedStroke_9 (by decide) ?_
  refine lv_iload_n hx hb dX4_movedStroke_10 rfl (lv_at hl 1 rfl) ?_
  refine lv_iconst (v := 2) hx hb dX4_movedStroke_11 (by decide) ?_
  refine lv_irem hx hb dX4_movedStroke_12 (by decide) ?_
  refine lv_topc 1 (by decide) ?_
  refine lv_imul hx hb dX4_movedStroke_13 ?_
  refine lv_topc 2 (by decide) ?_
  refine lv_iconst (v := 1) hx hb dX4_movedStroke_14 (by decide) ?_
  refine lv_iadd hx hb dX4_movedStroke_15 ?_
  refine lv_topc 3 (by decide) ?_
  refine lv_goto (tgt := 24) hx hb dX4_movedStroke_16 (by decide) ?_
  refine lv_istore_n (lv' := [(3, .int 3), (2, .int (-1)), (0, .int 5), (1, .int 0)]) hx hb dX4_movedStroke_24 rfl hl (by decide) rfl (fun ls hl => ?_)
  refine lv_iload_n hx hb dX4_movedStroke_25 rfl (lv_at hl 1 rfl) ?_
  refine lv_if_ge (tgt := 37) hx hb dX4_movedStroke_26 (by decide) (fun c9 => absurd c9 (by decide)) (fun _ => ?_)
  refine lv_iconst (v := 2) hx hb dX4_movedStroke_29 (by decide) ?_
  refine lv_iload_n hx hb dX4_movedStroke_30 rfl (lv_at hl 2 rfl) ?_
  refine lv_iconst (v := 2) hx hb dX4_movedStroke_31 (by decide) ?_
  refine lv_idiv hx hb dX4_movedStroke_32 (by decide) ?_
  refine lv_topc 2 (by decide) ?_
  refine lv_imul hx hb dX4_movedStroke_33 ?_
  refine lv_topc 4 (by decide) ?_
  refine lv_goto (tgt := 44) hx hb dX4_movedStroke_34 (by decide) ?_
  refine lv_istore (lv' := [(4, .int 4), (3, .int 3), (2, .int (-1)), (0, .int 5), (1, .int 0)]) hx hb dX4_movedStroke_44 hl (by decide) rfl (fun ls hl => ?_)
  refine lv_iload_n hx hb dX4_movedStroke_46 rfl (lv_at hl 4 rfl) ?_
  refine lv_iconst (v := 4) hx hb dX4_movedStroke_47 (by decide) ?_
  refine lv_icmp_lt (tgt := 55) hx hb dX4_movedStroke_48 (by decide) (fun _ => ?_) (fun c9 => absurd (by decide) c9)
  refine lv_iconst (v := 0) hx hb dX4_movedStroke_55 (by decide) ?_
  refine lv_istore (lv' := [(5, .int 0), (4, .int 4), (3, .int 3), (2, .int (-1)), (0, .int 5), (1, .int 0)]) hx hb dX4_movedStroke_56 hl (by decide) rfl (fun ls hl => ?_)
  refine lv_iload hx hb dX4_movedStroke_58 (lv_at hl 0 rfl) ?_
  refine lv_iload_n hx hb dX4_movedStroke_60 rfl (lv_at hl 5 rfl) ?_
  refine lv_iconst (v := 4) hx hb dX4_movedStroke_61 (by decide) ?_
  refine lv_irem hx hb dX4_movedStroke_62 (by decide) ?_
  refine lv_topc 0 (by decide) ?_
  refine lv_icmp_ge (tgt := 84) hx hb dX4_movedStroke_63 (by decide) (fun _ => ?_) (fun c9 => absurd (by decide) c9)
  refine lv_iload hx hb dX4_movedStroke_84 (lv_at hl 1 rfl) ?_
  refine lv_iconst (v := 2) hx hb dX4_movedStroke_86 (by decide) ?_
  refine lv_irem hx hb dX4_movedStroke_87 (by decide) ?_
  refine lv_topc 0 (by decide) ?_
  refine lv_if_ne (tgt := 100) hx hb dX4_movedStroke_88 (by decide) (fun c9 => absurd (by decide) c9) (fun _ => ?_)
  refine lv_iload hx hb dX4_movedStroke_91 (lv_at hl 1 rfl) ?_
  refine lv_iload_n hx hb dX4_movedStroke_93 rfl (lv_at hl 2 rfl) ?_
  refine lv_iconst (v := 2) hx hb dX4_movedStroke_94 (by decide) ?_
  refine lv_idiv hx hb dX4_movedStroke_95 (by decide) ?_
  refine lv_topc 1 (by decide) ?_
  refine lv_iadd hx hb dX4_movedStroke_96 ?_
  refine lv_topc 5 (by decide) ?_
  refine lv_goto (tgt := 113) hx hb dX4_movedStroke_97 (by decide) ?_
  exact ze_i hx hb hr hlocks dX4_movedStroke_113 rfl
set_option maxHeartbeats 4000000 in
set_option maxRecDepth 100000 in
theorem c_X4_movedStroke_12 (l : Launch) (D : va_G) (k : Nat → ClassId)  : MetR l D k yX4_movedStroke cX4_movedStroke 7 (some .int) 0 [.int 11, .int 0] [] noX (vp_Si (fun r => r = 11)) := by
  refine metR_of 2 ck_X4_movedStroke (Nat.le_of_ble_eq_true rfl) (fun p e s m args below meth c hx hb hml hr hlocks hown hts hK hX hP hin ls hl => ?_)
  have hP : va_P D vwCl [] s.heap := hP
  have hown : s.vm.findClass "HideReader$Lattice" = some m.cls := hown
  have hl : lv_has ls 7 [(0, .int 11), (1, .int 0)] := hl
  refine lv_iload_n hx hb dX4_movedStroke_0 rfl (lv_at hl 0 rfl) ?_
  refine lv_bipush (v := 6) hx hb dX4_movedStroke_1 (by decide) ?_
  refine lv_isub hx hb dX4_movedStroke_3 ?_
  refine lv_topc 5 (by decide) ?_
  refine lv_istore_n (lv' := [(2, .int 5), (0, .int 11), (1, .int 0)]) hx hb dX4_movedStroke_4 rfl hl (by decide) rfl (fun ls hl => ?_)
  refine lv_iload_n hx hb dX4_movedStroke_5 rfl (lv_at hl 0 rfl) ?_
  refine lv_if_ge (tgt := 19) hx hb dX4_movedStroke_6 (by decide) (fun _ => ?_) (fun c9 => absurd (by decide) c9)
  refine lv_iconst (v := 2) hx hb dX4_movedStroke_19 (by decide) ?_
  refine lv_iload_n hx hb dX4_movedStroke_20 rfl (lv_at hl 0 rfl) ?_
  refine lv_iconst (v := 3) hx hb dX4_movedStroke_21 (by decide) ?_
  refine lv_irem hx hb dX4_movedStroke_22 (by decide) ?_
  refine lv_topc 2 (by decide) ?_
  refine lv_imul hx hb dX4_movedStroke_23 ?_
  refine lv_topc 4 (by decide) ?_
  refine lv_istore_n (lv' := [(3, .int 4), (2, .int 5), (0, .int 11), (1, .int 0)]) hx hb dX4_movedStroke_24 rfl hl (by decide) rfl (fun ls hl => ?_)
  refine lv_iload_n hx hb dX4_movedStroke_25 rfl (lv_at hl 1 rfl) ?_
  refine lv_if_ge (tgt := 37) hx hb dX4_movedStroke_26 (by decide) (fun _ => ?_) (fun c9 => absurd (by decide) c9)
  refine lv_iconst (v := 2) hx hb dX4_movedStroke_37 (by decide) ?_
  refine lv_iload_n hx hb dX4_movedStroke_38 rfl (lv_at hl 1 rfl) ?_
  refine lv_iconst (v := 3) hx hb dX4_movedStroke_39 (by decide) ?_
  refine lv_idiv hx hb dX4_movedStroke_40 (by decide) ?_
  refine lv_topc 1 (by decide) ?_
  refine lv_imul hx hb dX4_movedStroke_41 ?_
  refine lv_topc 2 (by decide) ?_
  refine lv_iconst (v := 1) hx hb dX4_movedStroke_42 (by decide) ?_
  refine lv_iadd hx hb dX4_movedStroke_43 ?_
  refine lv_topc 3 (by decide) ?_
  refine lv_istore (lv' := [(4, .int 3), (3, .int 4), (2, .int 5), (0, .int 11), (1, .int 0)]) hx hb dX4_movedStroke_44 hl (by decide) rfl (fun ls hl => ?_)
  refine lv_iload_n hx hb dX4_movedStroke_46 rfl (lv_at hl 4 rfl) ?_
  refine lv_iconst (v := 4) hx hb dX4_movedStroke_47 (by decide) ?_
  refine lv_icmp_lt (tgt := 55) hx hb dX4_movedStroke_48 (by decide) (fun _ => ?_) (fun c9 => absurd (by decide) c9)
  refine lv_iconst (v := 0) hx hb dX4_movedStroke_55 (by decide) ?_
  refine lv_istore (lv' := [(5, .int 0), (4, .int 3), (3, .int 4), (2, .int 5), (0, .int 11), (1, .int 0)]) hx hb dX4_movedStroke_56 hl (by decide) rfl (fun ls hl => ?_)
  refine lv_iload hx hb dX4_movedStroke_58 (lv_at hl 0 rfl) ?_
  refine lv_iload_n hx hb dX4_movedStroke_60 rfl (lv_at hl 5 rfl) ?_
  refine lv_iconst (v := 4) hx hb dX4_movedStroke_61 (by decide) ?_
  refine lv_irem hx hb dX4_movedStroke_62 (by decide) ?_
  refine lv_topc 0 (by decide) ?_
  refine lv_icmp_ge (tgt := 84) hx hb dX4_movedStroke_63 (by decide) (fun _ => ?_) (fun c9 => absurd (by decide) c9)
  refine lv_iload hx hb dX4_movedStroke_84 (lv_at hl 1 rfl) ?_
  refine lv_iconst (v := 2) hx hb dX4_movedStroke_86 (by decide) ?_
  refine lv_irem hx hb dX4_movedStroke_87 (by decide) ?_
  refine lv_topc 1 (by decide) ?_
  refine lv_if_ne (tgt := 100) hx hb dX4_movedStroke_88 (by decide) (fun _ => ?_) (fun c9 => absurd c9 (by decide))
  refine lv_bipush (v := 6) hx hb dX4_movedStroke_100 (by decide) ?_
  refine lv_iconst (v := 3) hx hb dX4_movedStroke_102 (by decide) ?_
  refine lv_iload hx hb dX4_movedStroke_103 (lv_at hl 1 rfl) ?_
  refine lv_iconst (v := 2) hx hb dX4_movedStroke_105 (by decide) ?_
  refine lv_idiv hx hb dX4_movedStroke_106 (by decide) ?_
  refine lv_topc 1 (by decide) ?_
  refine lv_imul hx hb dX4_movedStroke_107 ?_
  refine lv_topc 3 (by decide) ?_
  refine lv_iadd hx hb dX4_movedStroke_108 ?_
  refine lv_topc 9 (by decide) ?_
  refine lv_iload_n hx hb dX4_movedStroke_109 rfl (lv_at hl 2 rfl) ?_
  refine lv_iconst (v := 2) hx hb dX4_movedStroke_110 (by decide) ?_
  refine lv_idiv hx hb dX4_movedStroke_111 (by decide) ?_
  refine lv_topc 2 (by decide) ?_
  refine lv_iadd hx hb dX4_movedStroke_112 ?_
  refine lv_topc 11 (by decide) ?_
  exact ze_i hx hb hr hlocks dX4_movedStroke_113 rfl
set_option maxHeartbeats 4000000 in
set_option maxRecDepth 100000 in
theorem c_X4_movedStroke_13 (l : Launch) (D : va_G) (k : Nat → ClassId) (p0 : Int32) : MetR l D k yX4_movedStroke cX4_movedStroke 7 (some .int) 0 [.int p0, .int 1] [] noX (vp_Si (fun r => True)) := by
  refine metR_of 2 ck_X4_movedStroke (Nat.le_of_ble_eq_true rfl) (fun p e s m args below meth c hx hb hml hr hlocks hown hts hK hX hP hin ls hl => ?_)
  have hP : va_P D vwCl [] s.heap := hP
  have hown : s.vm.findClass "HideReader$Lattice" = some m.cls := hown
  have hl : lv_has ls 7 [(0, .int p0), (1, .int 1)] := hl
  refine lv_iload_n hx hb dX4_movedStroke_0 rfl (lv_at hl 0 rfl) ?_
  refine lv_bipush (v := 6) hx hb dX4_movedStroke_1 (by decide) ?_
  refine lv_isub hx hb dX4_movedStroke_3 ?_
  refine lv_istore_n (lv' := [(2, .int (p0 - 6)), (0, .int p0), (1, .int 1)]) hx hb dX4_movedStroke_4 rfl hl (by decide) rfl (fun ls hl => ?_)
  refine lv_iload_n hx hb dX4_movedStroke_5 rfl (lv_at hl 0 rfl) ?_
  refine lv_if_ge (tgt := 19) hx hb dX4_movedStroke_6 (by decide) (fun c_1 => ?_) (fun c_1 => ?_)
  · skip
    refine lv_iconst (v := 2) hx hb dX4_movedStroke_19 (by decide) ?_
    refine lv_iload_n hx hb dX4_movedStroke_20 rfl (lv_at hl 0 rfl) ?_
    refine lv_iconst (v := 3) hx hb dX4_movedStroke_21 (by decide) ?_
    refine lv_irem hx hb dX4_movedStroke_22 (by decide) ?_
    refine lv_imul hx hb dX4_movedStroke_23 ?_
    refine lv_istore_n (lv' := [(3, .int (2 * ((p0 - 6) - (p0 - 6) / 3 * 3))), (2, .int (p0 - 6)), (0, .int p0), (1, .int 1)]) hx hb dX4_movedStroke_24 rfl hl (by decide) rfl (fun ls hl => ?_)
    refine lv_iload_n hx hb dX4_movedStroke_25 rfl (lv_at hl 1 rfl) ?_
    refine lv_if_ge (tgt := 37) hx hb dX4_movedStroke_26 (by decide) (fun _ => ?_) (fun c9 => absurd c_1 c9)
    refine lv_iconst (v := 2) hx hb dX4_movedStroke_37 (by decide) ?_
    refine lv_iload_n hx hb dX4_movedStroke_38 rfl (lv_at hl 1 rfl) ?_
    refine lv_iconst (v := 3) hx hb dX4_movedStroke_39 (by decide) ?_
    refine lv_idiv hx hb dX4_movedStroke_40 (by decide) ?_
    refine lv_imul hx hb dX4_movedStroke_41 ?_
    refine lv_iconst (v := 1) hx hb dX4_movedStroke_42 (by decide) ?_
    refine lv_iadd hx hb dX4_movedStroke_43 ?_
    refine lv_istore (lv' := [(4, .int ((2 * ((p0 - 6) / 3)) + 1)), (3, .int (2 * ((p0 - 6) - (p0 - 6) / 3 * 3))), (2, .int (p0 - 6)), (0, .int p0), (1, .int 1)]) hx hb dX4_movedStroke_44 hl (by decide) rfl (fun ls hl => ?_)
    refine lv_iload_n hx hb dX4_movedStroke_46 rfl (lv_at hl 4 rfl) ?_
    refine lv_iconst (v := 4) hx hb dX4_movedStroke_47 (by decide) ?_
    refine lv_icmp_lt (tgt := 55) hx hb dX4_movedStroke_48 (by decide) (fun _ => ?_) (fun c9 => absurd (by decide) c9)
    refine lv_iconst (v := 0) hx hb dX4_movedStroke_55 (by decide) ?_
    refine lv_istore (lv' := [(5, .int 0), (4, .int ((2 * ((p0 - 6) / 3)) + 1)), (3, .int (2 * ((p0 - 6) - (p0 - 6) / 3 * 3))), (2, .int (p0 - 6)), (0, .int p0), (1, .int 1)]) hx hb dX4_movedStroke_56 hl (by decide) rfl (fun ls hl => ?_)
    refine lv_iload hx hb dX4_movedStroke_58 (lv_at hl 0 rfl) ?_
    refine lv_iload_n hx hb dX4_movedStroke_60 rfl (lv_at hl 5 rfl) ?_
    refine lv_iconst (v := 4) hx hb dX4_movedStroke_61 (by decide) ?_
    refine lv_irem hx hb dX4_movedStroke_62 (by decide) ?_
    refine lv_topc 1 (by decide) ?_
    refine lv_icmp_ge (tgt := 84) hx hb dX4_movedStroke_63 (by decide) (fun c9 => absurd c9 (by decide)) (fun _ => ?_)
    refine lv_iload_n hx hb dX4_movedStroke_66 rfl (lv_at hl 2 rfl) ?_
    refine lv_istore (lv' := [(6, .int (2 * ((p0 - 6) - (p0 - 6) / 3 * 3))), (5, .int 0), (4, .int ((2 * ((p0 - 6) / 3)) + 1)), (3, .int (2 * ((p0 - 6) - (p0 - 6) / 3 * 3))), (2, .int (p0 - 6)), (0, .int p0), (1, .int 1)]) hx hb dX4_movedStroke_67 hl (by decide) rfl (fun ls hl => ?_)
    refine lv_iconst (v := 4) hx hb dX4_movedStroke_69 (by decide) ?_
    refine lv_iload hx hb dX4_movedStroke_70 (lv_at hl 2 rfl) ?_
    refine lv_isub hx hb dX4_movedStroke_72 ?_
    refine lv_istore_n (lv' := [(3, .int (4 - ((2 * ((p0 - 6) / 3)) + 1))), (6, .int (2 * ((p0 - 6) - (p0 - 6) / 3 * 3))), (5, .int 0), (4, .int ((2 * ((p0 - 6) / 3)) + 1)), (2, .int (p0 - 6)), (0, .int p0), (1, .int 1)]) hx hb dX4_movedStroke_73 rfl hl (by decide) rfl (fun ls hl => ?_)
    refine lv_iload hx hb dX4_movedStroke_74 (lv_at hl 1 rfl) ?_
    refine lv_istore (lv' := [(4, .int (2 * ((p0 - 6) - (p0 - 6) / 3 * 3))), (3, .int (4 - ((2 * ((p0 - 6) / 3)) + 1))), (6, .int (2 * ((p0 - 6) - (p0 - 6) / 3 * 3))), (5, .int 0), (2, .int (p0 - 6)), (0, .int p0), (1, .int 1)]) hx hb dX4_movedStroke_76 hl (by decide) rfl (fun ls hl => ?_)
    refine lv_iinc (v := 1) (lv' := [(5, .int 1), (4, .int (2 * ((p0 - 6) - (p0 - 6) / 3 * 3))), (3, .int (4 - ((2 * ((p0 - 6) / 3)) + 1))), (6, .int (2 * ((p0 - 6) - (p0 - 6) / 3 * 3))), (2, .int (p0 - 6)), (0, .int p0), (1, .int 1)]) hx hb dX4_movedStroke_78 hl (k := 3) rfl (by decide) (by decide) rfl (fun ls hl => ?_)
    refine lv_goto (tgt := 58) hx hb dX4_movedStroke_81 (by decide) ?_
    refine lv_iload hx hb dX4_movedStroke_58 (lv_at hl 0 rfl) ?_
    refine lv_iload_n hx hb dX4_movedStroke_60 rfl (lv_at hl 6 rfl) ?_
    refine lv_iconst (v := 4) hx hb dX4_movedStroke_61 (by decide) ?_
    refine lv_irem hx hb dX4_movedStroke_62 (by decide) ?_
    refine lv_topc 1 (by decide) ?_
    refine lv_icmp_ge (tgt := 84) hx hb dX4_movedStroke_63 (by decide) (fun _ => ?_) (fun c9 => absurd (by decide) c9)
    refine lv_iload hx hb dX4_movedStroke_84 (lv_at hl 1 rfl) ?_
    refine lv_iconst (v := 2) hx hb dX4_movedStroke_86 (by decide) ?_
    refine lv_irem hx hb dX4_movedStroke_87 (by decide) ?_
    refine lv_if_ne (tgt := 100) hx hb dX4_movedStroke_88 (by decide) (fun c_2 => ?_) (fun c_2 => ?_)
    · skip
      refine lv_bipush (v := 6) hx hb dX4_movedStroke_100 (by decide) ?_
      refine lv_iconst (v := 3) hx hb dX4_movedStroke_102 (by decide) ?_
      refine lv_iload hx hb dX4_movedStroke_103 (lv_at hl 1 rfl) ?_
      refine lv_iconst (v := 2) hx hb dX4_movedStroke_105 (by decide) ?_
      refine lv_idiv hx hb dX4_movedStroke_106 (by decide) ?_
      refine lv_imul hx hb dX4_movedStroke_107 ?_
      refine lv_iadd hx hb dX4_movedStroke_108 ?_
      refine lv_iload_n hx hb dX4_movedStroke_109 rfl (lv_at hl 2 rfl) ?_
      refine lv_iconst (v := 2) hx hb dX4_movedStroke_110 (by decide) ?_
      refine lv_idiv hx hb dX4_movedStroke_111 (by decide) ?_
      refine lv_iadd hx hb dX4_movedStroke_112 ?_
      exact ze_i hx hb hr hlocks dX4_movedStroke_113 trivial
    · skip
      refine lv_iload hx hb dX4_movedStroke_91 (lv_at hl 1 rfl) ?_
      refine lv_iload_n hx hb dX4_movedStroke_93 rfl (lv_at hl 2 rfl) ?_
      refine lv_iconst (v := 2) hx hb dX4_movedStroke_94 (by decide) ?_
      refine lv_idiv hx hb dX4_movedStroke_95 (by decide) ?_
      refine lv_iadd hx hb dX4_movedStroke_96 ?_
      refine lv_goto (tgt := 113) hx hb dX4_movedStroke_97 (by decide) ?_
      exact ze_i hx hb hr hlocks dX4_movedStroke_113 trivial
  · skip
    refine lv_iconst (v := 2) hx hb dX4_movedStroke_9 (by decide) ?_
    refine lv_iload_n hx hb dX4_movedStroke_10 rfl (lv_at hl 1 rfl) ?_
    refine lv_iconst (v := 2) hx hb dX4_movedStroke_11 (by decide) ?_
    refine lv_irem hx hb dX4_movedStroke_12 (by decide) ?_
    refine lv_imul hx hb dX4_movedStroke_13 ?_
    refine lv_iconst (v := 1) hx hb dX4_movedStroke_14 (by decide) ?_
    refine lv_iadd hx hb dX4_movedStroke_15 ?_
    refine lv_goto (tgt := 24) hx hb dX4_movedStroke_16 (by decide) ?_
    refine lv_istore_n (lv' := [(3, .int ((2 * (p0 - p0 / 2 * 2)) + 1)), (2, .int (p0 - 6)), (0, .int p0), (1, .int 1)]) hx hb dX4_movedStroke_24 rfl hl (by decide) rfl (fun ls hl => ?_)
    refine lv_iload_n hx hb dX4_movedStroke_25 rfl (lv_at hl 1 rfl) ?_
    refine lv_if_ge (tgt := 37) hx hb dX4_movedStroke_26 (by decide) (fun c9 => absurd c9 c_1) (fun _ => ?_)
    refine lv_iconst (v := 2) hx hb dX4_movedStroke_29 (by decide) ?_
    refine lv_iload_n hx hb dX4_movedStroke_30 rfl (lv_at hl 2 rfl) ?_
    refine lv_iconst (v := 2) hx hb dX4_movedStroke_31 (by decide) ?_
    refine lv_idiv hx hb dX4_movedStroke_32 (by decide) ?_
    refine lv_imul hx hb dX4_movedStroke_33 ?_
    refine lv_goto (tgt := 44) hx hb dX4_movedStroke_34 (by decide) ?_
    refine lv_istore (lv' := [(4, .int (2 * (p0 / 2))), (3, .int ((2 * (p0 - p0 / 2 * 2)) + 1)), (2, .int (p0 - 6)), (0, .int p0), (1, .int 1)]) hx hb dX4_movedStroke_44 hl (by decide) rfl (fun ls hl => ?_)
    refine lv_iload_n hx hb dX4_movedStroke_46 rfl (lv_at hl 4 rfl) ?_
    refine lv_iconst (v := 4) hx hb dX4_movedStroke_47 (by decide) ?_
    refine lv_icmp_lt (tgt := 55) hx hb dX4_movedStroke_48 (by decide) (fun _ => ?_) (fun c9 => absurd (by decide) c9)
    refine lv_iconst (v := 0) hx hb dX4_movedStroke_55 (by decide) ?_
    refine lv_istore (lv' := [(5, .int 0), (4, .int (2 * (p0 / 2))), (3, .int ((2 * (p0 - p0 / 2 * 2)) + 1)), (2, .int (p0 - 6)), (0, .int p0), (1, .int 1)]) hx hb dX4_movedStroke_56 hl (by decide) rfl (fun ls hl => ?_)
    refine lv_iload hx hb dX4_movedStroke_58 (lv_at hl 0 rfl) ?_
    refine lv_iload_n hx hb dX4_movedStroke_60 rfl (lv_at hl 5 rfl) ?_
    refine lv_iconst (v := 4) hx hb dX4_movedStroke_61 (by decide) ?_
    refine lv_irem hx hb dX4_movedStroke_62 (by decide) ?_
    refine lv_topc 1 (by decide) ?_
    refine lv_icmp_ge (tgt := 84) hx hb dX4_movedStroke_63 (by decide) (fun c9 => absurd c9 (by decide)) (fun _ => ?_)
    refine lv_iload_n hx hb dX4_movedStroke_66 rfl (lv_at hl 2 rfl) ?_
    refine lv_istore (lv' := [(6, .int ((2 * (p0 - p0 / 2 * 2)) + 1)), (5, .int 0), (4, .int (2 * (p0 / 2))), (3, .int ((2 * (p0 - p0 / 2 * 2)) + 1)), (2, .int (p0 - 6)), (0, .int p0), (1, .int 1)]) hx hb dX4_movedStroke_67 hl (by decide) rfl (fun ls hl => ?_)
    refine lv_iconst (v := 4) hx hb dX4_movedStroke_69 (by decide) ?_
    refine lv_iload hx hb dX4_movedStroke_70 (lv_at hl 2 rfl) ?_
    refine lv_isub hx hb dX4_movedStroke_72 ?_
    refine lv_istore_n (lv' := [(3, .int (4 - (2 * (p0 / 2)))), (6, .int ((2 * (p0 - p0 / 2 * 2)) + 1)), (5, .int 0), (4, .int (2 * (p0 / 2))), (2, .int (p0 - 6)), (0, .int p0), (1, .int 1)]) hx hb dX4_movedStroke_73 rfl hl (by decide) rfl (fun ls hl => ?_)
    refine lv_iload hx hb dX4_movedStroke_74 (lv_at hl 1 rfl) ?_
    refine lv_istore (lv' := [(4, .int ((2 * (p0 - p0 / 2 * 2)) + 1)), (3, .int (4 - (2 * (p0 / 2)))), (6, .int ((2 * (p0 - p0 / 2 * 2)) + 1)), (5, .int 0), (2, .int (p0 - 6)), (0, .int p0), (1, .int 1)]) hx hb dX4_movedStroke_76 hl (by decide) rfl (fun ls hl => ?_)
    refine lv_iinc (v := 1) (lv' := [(5, .int 1), (4, .int ((2 * (p0 - p0 / 2 * 2)) + 1)), (3, .int (4 - (2 * (p0 / 2)))), (6, .int ((2 * (p0 - p0 / 2 * 2)) + 1)), (2, .int (p0 - 6)), (0, .int p0), (1, .int 1)]) hx hb dX4_movedStroke_78 hl (k := 3) rfl (by decide) (by decide) rfl (fun ls hl => ?_)
    refine lv_goto (tgt := 58) hx hb dX4_movedStroke_81 (by decide) ?_
    refine lv_iload hx hb dX4_movedStroke_58 (lv_at hl 0 rfl) ?_
    refine lv_iload_n hx hb dX4_movedStroke_60 rfl (lv_at hl 6 rfl) ?_
    refine lv_iconst (v := 4) hx hb dX4_movedStroke_61 (by decide) ?_
    refine lv_irem hx hb dX4_movedStroke_62 (by decide) ?_
    refine lv_topc 1 (by decide) ?_
    refine lv_icmp_ge (tgt := 84) hx hb dX4_movedStroke_63 (by decide) (fun _ => ?_) (fun c9 => absurd (by decide) c9)
    refine lv_iload hx hb dX4_movedStroke_84 (lv_at hl 1 rfl) ?_
    refine lv_iconst (v := 2) hx hb dX4_movedStroke_86 (by decide) ?_
    refine lv_irem hx hb dX4_movedStroke_87 (by decide) ?_
    refine lv_if_ne (tgt := 100) hx hb dX4_movedStroke_88 (by decide) (fun c_3 => ?_) (fun c_3 => ?_)
    · skip
      refine lv_bipush (v := 6) hx hb dX4_movedStroke_100 (by decide) ?_
      refine lv_iconst (v := 3) hx hb dX4_movedStroke_102 (by decide) ?_
      refine lv_iload hx hb dX4_movedStroke_103 (lv_at hl 1 rfl) ?_
      refine lv_iconst (v := 2) hx hb dX4_movedStroke_105 (by decide) ?_
      refine lv_idiv hx hb dX4_movedStroke_106 (by decide) ?_
      refine lv_imul hx hb dX4_movedStroke_107 ?_
      refine lv_iadd hx hb dX4_movedStroke_108 ?_
      refine lv_iload_n hx hb dX4_movedStroke_109 rfl (lv_at hl 2 rfl) ?_
      refine lv_iconst (v := 2) hx hb dX4_movedStroke_110 (by decide) ?_
      refine lv_idiv hx hb dX4_movedStroke_111 (by decide) ?_
      refine lv_iadd hx hb dX4_movedStroke_112 ?_
      exact ze_i hx hb hr hlocks dX4_movedStroke_113 trivial
    · skip
      refine lv_iload hx hb dX4_movedStroke_91 (lv_at hl 1 rfl) ?_
      refine lv_iload_n hx hb dX4_movedStroke_93 rfl (lv_at hl 2 rfl) ?_
      refine lv_iconst (v := 2) hx hb dX4_movedStroke_94 (by decide) ?_
      refine lv_idiv hx hb dX4_movedStroke_95 (by decide) ?_
      refine lv_iadd hx hb dX4_movedStroke_96 ?_
      refine lv_goto (tgt := 113) hx hb dX4_movedStroke_97 (by decide) ?_
      exact ze_i hx hb hr hlocks dX4_movedStroke_113 trivial
set_option maxHeartbeats 4000000 in
set_option maxRecDepth 100000 in
theorem c_X4_movedStroke_14 (l : Launch) (D : va_G) (k : Nat → ClassId) (p0 : Int32) : MetR l D k yX4_movedStroke cX4_movedStroke 7 (some .int) 0 [.int p0, .int 2] [] noX (vp_Si (fun r => True)) := by
  refine metR_of 2 ck_X4_movedStroke (Nat.le_of_ble_eq_true rfl) (fun p e s m args below meth c hx hb hml hr hlocks hown hts hK hX hP hin ls hl => ?_)
  have hP : va_P D vwCl [] s.heap := hP
  have hown : s.vm.findClass "HideReader$Lattice" = some m.cls := hown
  have hl : lv_has ls 7 [(0, .int p0), (1, .int 2)] := hl
  refine lv_iload_n hx hb dX4_movedStroke_0 rfl (lv_at hl 0 rfl) ?_
  refine lv_bipush (v := 6) hx hb dX4_movedStroke_1 (by decide) ?_
  refine lv_isub hx hb dX4_movedStroke_3 ?_
  refine lv_istore_n (lv' := [(2, .int (p0 - 6)), (0, .int p0), (1, .int 2)]) hx hb dX4_movedStroke_4 rfl hl (by decide) rfl (fun ls hl => ?_)
  refine lv_iload_n hx hb dX4_movedStroke_5 rfl (lv_at hl 0 rfl) ?_
  refine lv_if_ge (tgt := 19) hx hb dX4_movedStroke_6 (by decide) (fun c_1 => ?_) (fun c_1 => ?_)
  · skip
    refine lv_iconst (v := 2) hx hb dX4_movedStroke_19 (by decide) ?_
    refine lv_iload_n hx hb dX4_movedStroke_20 rfl (lv_at hl 0 rfl) ?_
    refine lv_iconst (v := 3) hx hb dX4_movedStroke_21 (by decide) ?_
    refine lv_irem hx hb dX4_movedStroke_22 (by decide) ?_
    refine lv_imul hx hb dX4_movedStroke_23 ?_
    refine lv_istore_n (lv' := [(3, .int (2 * ((p0 - 6) - (p0 - 6) / 3 * 3))), (2, .int (p0 - 6)), (0, .int p0), (1, .int 2)]) hx hb dX4_movedStroke_24 rfl hl (by decide) rfl (fun ls hl => ?_)
    refine lv_iload_n hx hb dX4_movedStroke_25 rfl (lv_at hl 1 rfl) ?_
    refine lv_if_ge (tgt := 37) hx hb dX4_movedStroke_26 (by decide) (fun _ => ?_) (fun c9 => absurd c_1 c9)
    refine lv_iconst (v := 2) hx hb dX4_movedStroke_37 (by decide) ?_
    refine lv_iload_n hx hb dX4_movedStroke_38 rfl (lv_at hl 1 rfl) ?_
    refine lv_iconst (v := 3) hx hb dX4_movedStroke_39 (by decide) ?_
    refine lv_idiv hx hb dX4_movedStroke_40 (by decide) ?_
    refine lv_imul hx hb dX4_movedStroke_41 ?_
    refine lv_iconst (v := 1) hx hb dX4_movedStroke_42 (by decide) ?_
    refine lv_iadd hx hb dX4_movedStroke_43 ?_
    refine lv_istore (lv' := [(4, .int ((2 * ((p0 - 6) / 3)) + 1)), (3, .int (2 * ((p0 - 6) - (p0 - 6) / 3 * 3))), (2, .int (p0 - 6)), (0, .int p0), (1, .int 2)]) hx hb dX4_movedStroke_44 hl (by decide) rfl (fun ls hl => ?_)
    refine lv_iload_n hx hb dX4_movedStroke_46 rfl (lv_at hl 4 rfl) ?_
    refine lv_iconst (v := 4) hx hb dX4_movedStroke_47 (by decide) ?_
    refine lv_icmp_lt (tgt := 55) hx hb dX4_movedStroke_48 (by decide) (fun _ => ?_) (fun c9 => absurd (by decide) c9)
    refine lv_iconst (v := 0) hx hb dX4_movedStroke_55 (by decide) ?_
    refine lv_istore (lv' := [(5, .int 0), (4, .int ((2 * ((p0 - 6) / 3)) + 1)), (3, .int (2 * ((p0 - 6) - (p0 - 6) / 3 * 3))), (2, .int (p0 - 6)), (0, .int p0), (1, .int 2)]) hx hb dX4_movedStroke_56 hl (by decide) rfl (fun ls hl => ?_)
    refine lv_iload hx hb dX4_movedStroke_58 (lv_at hl 0 rfl) ?_
    refine lv_iload_n hx hb dX4_movedStroke_60 rfl (lv_at hl 5 rfl) ?_
    refine lv_iconst (v := 4) hx hb dX4_movedStroke_61 (by decide) ?_
    refine lv_irem hx hb dX4_movedStroke_62 (by decide) ?_
    refine lv_topc 2 (by decide) ?_
    refine lv_icmp_ge (tgt := 84) hx hb dX4_movedStroke_63 (by decide) (fun c9 => absurd c9 (by decide)) (fun _ => ?_)
    refine lv_iload_n hx hb dX4_movedStroke_66 rfl (lv_at hl 2 rfl) ?_
    refine lv_istore (lv' := [(6, .int (2 * ((p0 - 6) - (p0 - 6) / 3 * 3))), (5, .int 0), (4, .int ((2 * ((p0 - 6) / 3)) + 1)), (3, .int (2 * ((p0 - 6) - (p0 - 6) / 3 * 3))), (2, .int (p0 - 6)), (0, .int p0), (1, .int 2)]) hx hb dX4_movedStroke_67 hl (by decide) rfl (fun ls hl => ?_)
    refine lv_iconst (v := 4) hx hb dX4_movedStroke_69 (by decide) ?_
    refine lv_iload hx hb dX4_movedStroke_70 (lv_at hl 2 rfl) ?_
    refine lv_isub hx hb dX4_movedStroke_72 ?_
    refine lv_istore_n (lv' := [(3, .int (4 - ((2 * ((p0 - 6) / 3)) + 1))), (6, .int (2 * ((p0 - 6) - (p0 - 6) / 3 * 3))), (5, .int 0), (4, .int ((2 * ((p0 - 6) / 3)) + 1)), (2, .int (p0 - 6)), (0, .int p0), (1, .int 2)]) hx hb dX4_movedStroke_73 rfl hl (by decide) rfl (fun ls hl => ?_)
    refine lv_iload hx hb dX4_movedStroke_74 (lv_at hl 1 rfl) ?_
    refine lv_istore (lv' := [(4, .int (2 * ((p0 - 6) - (p0 - 6) / 3 * 3))), (3, .int (4 - ((2 * ((p0 - 6) / 3)) + 1))), (6, .int (2 * ((p0 - 6) - (p0 - 6) / 3 * 3))), (5, .int 0), (2, .int (p0 - 6)), (0, .int p0), (1, .int 2)]) hx hb dX4_movedStroke_76 hl (by decide) rfl (fun ls hl => ?_)
    refine lv_iinc (v := 1) (lv' := [(5, .int 1), (4, .int (2 * ((p0 - 6) - (p0 - 6) / 3 * 3))), (3, .int (4 - ((2 * ((p0 - 6) / 3)) + 1))), (6, .int (2 * ((p0 - 6) - (p0 - 6) / 3 * 3))), (2, .int (p0 - 6)), (0, .int p0), (1, .int 2)]) hx hb dX4_movedStroke_78 hl (k := 3) rfl (by decide) (by decide) rfl (fun ls hl => ?_)
    refine lv_goto (tgt := 58) hx hb dX4_movedStroke_81 (by decide) ?_
    refine lv_iload hx hb dX4_movedStroke_58 (lv_at hl 0 rfl) ?_
    refine lv_iload_n hx hb dX4_movedStroke_60 rfl (lv_at hl 6 rfl) ?_
    refine lv_iconst (v := 4) hx hb dX4_movedStroke_61 (by decide) ?_
    refine lv_irem hx hb dX4_movedStroke_62 (by decide) ?_
    refine lv_topc 2 (by decide) ?_
    refine lv_icmp_ge (tgt := 84) hx hb dX4_movedStroke_63 (by decide) (fun c9 => absurd c9 (by decide)) (fun _ => ?_)
    refine lv_iload_n hx hb dX4_movedStroke_66 rfl (lv_at hl 2 rfl) ?_
    refine lv_istore (lv' := [(6, .int (4 - ((2 * ((p0 - 6) / 3)) + 1))), (5, .int 1), (4, .int (2 * ((p0 - 6) - (p0 - 6) / 3 * 3))), (3, .int (4 - ((2 * ((p0 - 6) / 3)) + 1))), (2, .int (p0 - 6)), (0, .int p0), (1, .int 2)]) hx hb dX4_movedStroke_67 hl (by decide) rfl (fun ls hl => ?_)
    refine lv_iconst (v := 4) hx hb dX4_movedStroke_69 (by decide) ?_
    refine lv_iload hx hb dX4_movedStroke_70 (lv_at hl 2 rfl) ?_
    refine lv_isub hx hb dX4_movedStroke_72 ?_
    refine lv_istore_n (lv' := [(3, .int (4 - (2 * ((p0 - 6) - (p0 - 6) / 3 * 3)))), (6, .int (4 - ((2 * ((p0 - 6) / 3)) + 1))), (5, .int 1), (4, .int (2 * ((p0 - 6) - (p0 - 6) / 3 * 3))), (2, .int (p0 - 6)), (0, .int p0), (1, .int 2)]) hx hb dX4_movedStroke_73 rfl hl (by decide) rfl (fun ls hl => ?_)
    refine lv_iload hx hb dX4_movedStroke_74 (lv_at hl 1 rfl) ?_
    refine lv_istore (lv' := [(4, .int (4 - ((2 * ((p0 - 6) / 3)) + 1))), (3, .int (4 - (2 * ((p0 - 6) - (p0 - 6) / 3 * 3)))), (6, .int (4 - ((2 * ((p0 - 6) / 3)) + 1))), (5, .int 1), (2, .int (p0 - 6)), (0, .int p0), (1, .int 2)]) hx hb dX4_movedStroke_76 hl (by decide) rfl (fun ls hl => ?_)
    refine lv_iinc (v := 2) (lv' := [(5, .int 2), (4, .int (4 - ((2 * ((p0 - 6) / 3)) + 1))), (3, .int (4 - (2 * ((p0 - 6) - (p0 - 6) / 3 * 3)))), (6, .int (4 - ((2 * ((p0 - 6) / 3)) + 1))), (2, .int (p0 - 6)), (0, .int p0), (1, .int 2)]) hx hb dX4_movedStroke_78 hl (k := 3) rfl (by decide) (by decide) rfl (fun ls hl => ?_)
    refine lv_goto (tgt := 58) hx hb dX4_movedStroke_81 (by decide) ?_
    refine lv_iload hx hb dX4_movedStroke_58 (lv_at hl 0 rfl) ?_
    refine lv_iload_n hx hb dX4_movedStroke_60 rfl (lv_at hl 6 rfl) ?_
    refine lv_iconst (v := 4) hx hb dX4_movedStroke_61 (by decide) ?_
    refine lv_irem hx hb dX4_movedStroke_62 (by decide) ?_
    refine lv_topc 2 (by decide) ?_
    refine lv_icmp_ge (tgt := 84) hx hb dX4_movedStroke_63 (by decide) (fun _ => ?_) (fun c9 => absurd (by decide) c9)
    refine lv_iload hx hb dX4_movedStroke_84 (lv_at hl 1 rfl) ?_
    refine lv_iconst (v := 2) hx hb dX4_movedStroke_86 (by decide) ?_
    refine lv_irem hx hb dX4_movedStroke_87 (by decide) ?_
    refine lv_if_ne (tgt := 100) hx hb dX4_movedStroke_88 (by decide) (fun c_2 => ?_) (fun c_2 => ?_)
    · skip
      refine lv_bipush (v := 6) hx hb dX4_movedStroke_100 (by decide) ?_
      refine lv_iconst (v := 3) hx hb dX4_movedStroke_102 (by decide) ?_
      refine lv_iload hx hb dX4_movedStroke_103 (lv_at hl 1 rfl) ?_
      refine lv_iconst (v := 2) hx hb dX4_movedStroke_105 (by decide) ?_
      refine lv_idiv hx hb dX4_movedStroke_106 (by decide) ?_
      refine lv_imul hx hb dX4_movedStroke_107 ?_
      refine lv_iadd hx hb dX4_movedStroke_108 ?_
      refine lv_iload_n hx hb dX4_movedStroke_109 rfl (lv_at hl 2 rfl) ?_
      refine lv_iconst (v := 2) hx hb dX4_movedStroke_110 (by decide) ?_
      refine lv_idiv hx hb dX4_movedStroke_111 (by decide) ?_
      refine lv_iadd hx hb dX4_movedStroke_112 ?_
      exact ze_i hx hb hr hlocks dX4_movedStroke_113 trivial
    · skip
      refine lv_iload hx hb dX4_movedStroke_91 (lv_at hl 1 rfl) ?_
      refine lv_iload_n hx hb dX4_movedStroke_93 rfl (lv_at hl 2 rfl) ?_
      refine lv_iconst (v := 2) hx hb dX4_movedStroke_94 (by decide) ?_
      refine lv_idiv hx hb dX4_movedStroke_95 (by decide) ?_
      refine lv_iadd hx hb dX4_movedStroke_96 ?_
      refine lv_goto (tgt := 113) hx hb dX4_movedStroke_97 (by decide) ?_
      exact ze_i hx hb hr hlocks dX4_movedStroke_113 trivial
  · skip
    refine lv_iconst (v := 2) hx hb dX4_movedStroke_9 (by decide) ?_
    refine lv_iload_n hx hb dX4_movedStroke_10 rfl (lv_at hl 1 rfl) ?_
    refine lv_iconst (v := 2) hx hb dX4_movedStroke_11 (by decide) ?_
    refine lv_irem hx hb dX4_movedStroke_12 (by decide) ?_
    refine lv_imul hx hb dX4_movedStroke_13 ?_
    refine lv_iconst (v := 1) hx hb dX4_movedStroke_14 (by decide) ?_
    refine lv_iadd hx hb dX4_movedStroke_15 ?_
    refine lv_goto (tgt := 24) hx hb dX4_movedStroke_16 (by decide) ?_
    refine lv_istore_n (lv' := [(3, .int ((2 * (p0 - p0 / 2 * 2)) + 1)), (2, .int (p0 - 6)), (0, .int p0), (1, .int 2)]) hx hb dX4_movedStroke_24 rfl hl (by decide) rfl (fun ls hl => ?_)
    refine lv_iload_n hx hb dX4_movedStroke_25 rfl (lv_at hl 1 rfl) ?_
    refine lv_if_ge (tgt := 37) hx hb dX4_movedStroke_26 (by decide) (fun c9 => absurd c9 c_1) (fun _ => ?_)
    refine lv_iconst (v := 2) hx hb dX4_movedStroke_29 (by decide) ?_
    refine lv_iload_n hx hb dX4_movedStroke_30 rfl (lv_at hl 2 rfl) ?_
    refine lv_iconst (v := 2) hx hb dX4_movedStroke_31 (by decide) ?_
    refine lv_idiv hx hb dX4_movedStroke_32 (by decide) ?_
    refine lv_imul hx hb dX4_movedStroke_33 ?_
    refine lv_goto (tgt := 44) hx hb dX4_movedStroke_34 (by decide) ?_
    refine lv_istore (lv' := [(4, .int (2 * (p0 / 2))), (3, .int ((2 * (p0 - p0 / 2 * 2)) + 1)), (2, .int (p0 - 6)), (0, .int p0), (1, .int 2)]) hx hb dX4_movedStroke_44 hl (by decide) rfl (fun ls hl => ?_)
    refine lv_iload_n hx hb dX4_movedStroke_46 rfl (lv_at hl 4 rfl) ?_
    refine lv_iconst (v := 4) hx hb dX4_movedStroke_47 (by decide) ?_
    refine lv_icmp_lt (tgt := 55) hx hb dX4_movedStroke_48 (by decide) (fun _ => ?_) (fun c9 => absurd (by decide) c9)
    refine lv_iconst (v := 0) hx hb dX4_movedStroke_55 (by decide) ?_
    refine lv_istore (lv' := [(5, .int 0), (4, .int (2 * (p0 / 2))), (3, .int ((2 * (p0 - p0 / 2 * 2)) + 1)), (2, .int (p0 - 6)), (0, .int p0), (1, .int 2)]) hx hb dX4_movedStroke_56 hl (by decide) rfl (fun ls hl => ?_)
    refine lv_iload hx hb dX4_movedStroke_58 (lv_at hl 0 rfl) ?_
    refine lv_iload_n hx hb dX4_movedStroke_60 rfl (lv_at hl 5 rfl) ?_
    refine lv_iconst (v := 4) hx hb dX4_movedStroke_61 (by decide) ?_
    refine lv_irem hx hb dX4_movedStroke_62 (by decide) ?_
    refine lv_topc 2 (by decide) ?_
    refine lv_icmp_ge (tgt := 84) hx hb dX4_movedStroke_63 (by decide) (fun c9 => absurd c9 (by decide)) (fun _ => ?_)
    refine lv_iload_n hx hb dX4_movedStroke_66 rfl (lv_at hl 2 rfl) ?_
    refine lv_istore (lv' := [(6, .int ((2 * (p0 - p0 / 2 * 2)) + 1)), (5, .int 0), (4, .int (2 * (p0 / 2))), (3, .int ((2 * (p0 - p0 / 2 * 2)) + 1)), (2, .int (p0 - 6)), (0, .int p0), (1, .int 2)]) hx hb dX4_movedStroke_67 hl (by decide) rfl (fun ls hl => ?_)
    refine lv_iconst (v := 4) hx hb dX4_movedStroke_69 (by decide) ?_
    refine lv_iload hx hb dX4_movedStroke_70 (lv_at hl 2 rfl) ?_
    refine lv_isub hx hb dX4_movedStroke_72 ?_
    refine lv_istore_n (lv' := [(3, .int (4 - (2 * (p0 / 2)))), (6, .int ((2 * (p0 - p0 / 2 * 2)) + 1)), (5, .int 0), (4, .int (2 * (p0 / 2))), (2, .int (p0 - 6)), (0, .int p0), (1, .int 2)]) hx hb dX4_movedStroke_73 rfl hl (by decide) rfl (fun ls hl => ?_)
    refine lv_iload hx hb dX4_movedStroke_74 (lv_at hl 1 rfl) ?_
    refine lv_istore (lv' := [(4, .int ((2 * (p0 - p0 / 2 * 2)) + 1)), (3, .int (4 - (2 * (p0 / 2)))), (6, .int ((2 * (p0 - p0 / 2 * 2)) + 1)), (5, .int 0), (2, .int (p0 - 6)), (0, .int p0), (1, .int 2)]) hx hb dX4_movedStroke_76 hl (by decide) rfl (fun ls hl => ?_)
    refine lv_iinc (v := 1) (lv' := [(5, .int 1), (4, .int ((2 * (p0 - p0 / 2 * 2)) + 1)), (3, .int (4 - (2 * (p0 / 2)))), (6, .int ((2 * (p0 - p0 / 2 * 2)) + 1)), (2, .int (p0 - 6)), (0, .int p0), (1, .int 2)]) hx hb dX4_movedStroke_78 hl (k := 3) rfl (by decide) (by decide) rfl (fun ls hl => ?_)
    refine lv_goto (tgt := 58) hx hb dX4_movedStroke_81 (by decide) ?_
    refine lv_iload hx hb dX4_movedStroke_58 (lv_at hl 0 rfl) ?_
    refine lv_iload_n hx hb dX4_movedStroke_60 rfl (lv_at hl 6 rfl) ?_
    refine lv_iconst (v := 4) hx hb dX4_movedStroke_61 (by decide) ?_
    refine lv_irem hx hb dX4_movedStroke_62 (by decide) ?_
    refine lv_topc 2 (by decide) ?_
    refine lv_icmp_ge (tgt := 84) hx hb dX4_movedStroke_63 (by decide) (fun c9 => absurd c9 (by decide)) (fun _ => ?_)
    refine lv_iload_n hx hb dX4_movedStroke_66 rfl (lv_at hl 2 rfl) ?_
    refine lv_istore (lv' := [(6, .int (4 - (2 * (p0 / 2)))), (5, .int 1), (4, .int ((2 * (p0 - p0 / 2 * 2)) + 1)), (3, .int (4 - (2 * (p0 / 2)))), (2, .int (p0 - 6)), (0, .int p0), (1, .int 2)]) hx hb dX4_movedStroke_67 hl (by decide) rfl (fun ls hl => ?_)
    refine lv_iconst (v := 4) hx hb dX4_movedStroke_69 (by decide) ?_
    refine lv_iload hx hb dX4_movedStroke_70 (lv_at hl 2 rfl) ?_
    refine lv_isub hx hb dX4_movedStroke_72 ?_
    refine lv_istore_n (lv' := [(3, .int (4 - ((2 * (p0 - p0 / 2 * 2)) + 1))), (6, .int (4 - (2 * (p0 / 2)))), (5, .int 1), (4, .int ((2 * (p0 - p0 / 2 * 2)) + 1)), (2, .int (p0 - 6)), (0, .int p0), (1, .int 2)]) hx hb dX4_movedStroke_73 rfl hl (by decide) rfl (fun ls hl => ?_)
    refine lv_iload hx hb dX4_movedStroke_74 (lv_at hl 1 rfl) ?_
    refine lv_istore (lv' := [(4, .int (4 - (2 * (p0 / 2)))), (3, .int (4 - ((2 * (p0 - p0 / 2 * 2)) + 1))), (6, .int (4 - (2 * (p0 / 2)))), (5, .int 1), (2, .int (p0 - 6)), (0, .int p0), (1, .int 2)]) hx hb dX4_movedStroke_76 hl (by decide) rfl (fun ls hl => ?_)
    refine lv_iinc (v := 2) (lv' := [(5, .int 2), (4, .int (4 - (2 * (p0 / 2)))), (3, .int (4 - ((2 * (p0 - p0 / 2 * 2)) + 1))), (6, .int (4 - (2 * (p0 / 2)))), (2, .int (p0 - 6)), (0, .int p0), (1, .int 2)]) hx hb dX4_movedStroke_78 hl (k := 3) rfl (by decide) (by decide) rfl (fun ls hl => ?_)
    refine lv_goto (tgt := 58) hx hb dX4_movedStroke_81 (by decide) ?_
    refine lv_iload hx hb dX4_movedStroke_58 (lv_at hl 0 rfl) ?_
    refine lv_iload_n hx hb dX4_movedStroke_60 rfl (lv_at hl 6 rfl) ?_
    refine lv_iconst (v := 4) hx hb dX4_movedStroke_61 (by decide) ?_
    refine lv_irem hx hb dX4_movedStroke_62 (by decide) ?_
    refine lv_topc 2 (by decide) ?_
    refine lv_icmp_ge (tgt := 84) hx hb dX4_movedStroke_63 (by decide) (fun _ => ?_) (fun c9 => absurd (by decide) c9)
    refine lv_iload hx hb dX4_movedStroke_84 (lv_at hl 1 rfl) ?_
    refine lv_iconst (v := 2) hx hb dX4_movedStroke_86 (by decide) ?_
    refine lv_irem hx hb dX4_movedStroke_87 (by decide) ?_
    refine lv_if_ne (tgt := 100) hx hb dX4_movedStroke_88 (by decide) (fun c_3 => ?_) (fun c_3 => ?_)
    · skip
      refine lv_bipush (v := 6) hx hb dX4_movedStroke_100 (by decide) ?_
      refine lv_iconst (v := 3) hx hb dX4_movedStroke_102 (by decide) ?_
      refine lv_iload hx hb dX4_movedStroke_103 (lv_at hl 1 rfl) ?_
      refine lv_iconst (v := 2) hx hb dX4_movedStroke_105 (by decide) ?_
      refine lv_idiv hx hb dX4_movedStroke_106 (by decide) ?_
      refine lv_imul hx hb dX4_movedStroke_107 ?_
      refine lv_iadd hx hb dX4_movedStroke_108 ?_
      refine lv_iload_n hx hb dX4_movedStroke_109 rfl (lv_at hl 2 rfl) ?_
      refine lv_iconst (v := 2) hx hb dX4_movedStroke_110 (by decide) ?_
      refine lv_idiv hx hb dX4_movedStroke_111 (by decide) ?_
      refine lv_iadd hx hb dX4_movedStroke_112 ?_
      exact ze_i hx hb hr hlocks dX4_movedStroke_113 trivial
    · skip
      refine lv_iload hx hb dX4_movedStroke_91 (lv_at hl 1 rfl) ?_
      refine lv_iload_n hx hb dX4_movedStroke_93 rfl (lv_at hl 2 rfl) ?_
      refine lv_iconst (v := 2) hx hb dX4_movedStroke_94 (by decide) ?_
      refine lv_idiv hx hb dX4_movedStroke_95 (by decide) ?_
      refine lv_iadd hx hb dX4_movedStroke_96 ?_
      refine lv_goto (tgt := 113) hx hb dX4_movedStroke_97 (by decide) ?_
      exact ze_i hx hb hr hlocks dX4_movedStroke_113 trivial
