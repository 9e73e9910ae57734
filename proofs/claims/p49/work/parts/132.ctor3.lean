/-! ===== the pastures are made ===== -/
theorem ix_R (L : va_W) (x : Nat × va_E) : (List.range L.length).map (fun i => (L ++ [x])[i]?) = L.map some := by
  apply List.ext_getElem?
  intro i
  rw [List.getElem?_map, List.getElem?_map]
  rcases Nat.lt_or_ge i L.length with h | h
  · rw [List.getElem?_range h]
    simp [List.getElem?_append_left h, List.getElem?_eq_getElem h]
  · rw [List.getElem?_eq_none (by simp; exact h), List.getElem?_eq_none h]
    rfl
theorem ix_C (L : va_W) (x : Nat × va_E) : [L.length].map (fun i => (L ++ [x])[i]?) = [x].map some := by
  simp
theorem nd_app : ∀ (l : List Nat) (a : Nat), va_nd l = true → a ∉ l → va_nd (l ++ [a]) = true
  | [], a, _, _ => by simp [va_nd]
  | b :: l, a, h, h2 => by
    simp only [va_nd, Bool.and_eq_true, decide_eq_true_eq] at h
    have h3 := nd_app l a h.2 (fun q => h2 (List.mem_cons_of_mem _ q))
    show va_nd (b :: (l ++ [a])) = true
    simp only [va_nd, Bool.and_eq_true, decide_eq_true_eq]
    refine ⟨fun q => ?_, h3⟩
    rcases List.mem_append.mp q with q | q
    · exact h.1 q
    · have : b = a := by simpa using q
      subst this
      exact h2 (List.mem_cons_self ..)
theorem nd_r : ∀ n : Nat, va_nd (List.range n) = true
  | 0 => rfl
  | n + 1 => by
    rw [List.range_succ]
    exact nd_app _ _ (nd_r n) (by simp)
theorem nd_1 (n : Nat) : va_nd [n] = true := by simp [va_nd]
theorem di_r (n : Nat) : ∀ i ∈ List.range n, i ∉ [n] := fun i h => by
  have := List.mem_range.mp h
  simp
  omega
def hE (k : Nat → ClassId) (h0 a1 a2 a3 : Nat) (G B : Nat → Option Nat) : va_W := [(h0, .inr (3, [.ref a1, .ref a2, .ref a3, .int 0, .int 0, .int 0])), (a1, .inl (k 4, 41, .inr (.inr (.inr (.inr G))))), (a2, .inl (k 4, 3, .inr (.inr (.inr (.inr B))))), (a3, .inl (k 3, 3, .inl (fun _ => 0)))]
abbrev cPz (k : Nat → ClassId) (q : Nat → Nat) : Nat → Nat × va_E := cPc k q (fun _ => 0) (fun _ => 0) (fun _ _ => 0) (fun _ _ => 0) (fun _ _ => 0)
def hPl (k : Nat → ClassId) (q : Nat → Nat) (n : Nat) : va_W := (List.range (4 * n)).map (cPz k q)
def qx (q : Nat → Nat) (n p u0 u1 u2 : Nat) : Nat → Nat := fun m => if m = 4 * n then p else if m = 4 * n + 1 then u0 else if m = 4 * n + 2 then u1 else if m = 4 * n + 3 then u2 else q m
theorem qx_0 (q : Nat → Nat) (n p u0 u1 u2 : Nat) : qx q n p u0 u1 u2 (4 * n) = p := by simp [qx]
theorem qx_1 (q : Nat → Nat) (n p u0 u1 u2 : Nat) : qx q n p u0 u1 u2 (4 * n + 1) = u0 := by simp [qx]
theorem qx_2 (q : Nat → Nat) (n p u0 u1 u2 : Nat) : qx q n p u0 u1 u2 (4 * n + 2) = u1 := by simp [qx]
theorem qx_3 (q : Nat → Nat) (n p u0 u1 u2 : Nat) : qx q n p u0 u1 u2 (4 * n + 3) = u2 := by simp [qx]
theorem qx_o (q : Nat → Nat) {n m : Nat} (p u0 u1 u2 : Nat) (h : m < 4 * n) : qx q n p u0 u1 u2 m = q m := by
  unfold qx
  rw [if_neg (by omega), if_neg (by omega), if_neg (by omega), if_neg (by omega)]
theorem hPl_len (k : Nat → ClassId) (q : Nat → Nat) (n : Nat) : (hPl k q n).length = 4 * n := by simp [hPl]
theorem hPl_c {k : Nat → ClassId} {q q2 : Nat → Nat} {n : Nat} (h : ∀ m, m < 4 * n → q m = q2 m) : hPl k q n = hPl k q2 n := by
  unfold hPl
  refine List.map_congr_left (fun m hm => ?_)
  have hm := List.mem_range.mp hm
  show cPc k q _ _ _ _ _ m = cPc k q2 _ _ _ _ _ m
  unfold cPc
  rw [h m hm]
  by_cases h0 : m % 4 = 0
  · rw [if_pos h0, if_pos h0, h (m + 1) (by omega), h (m + 2) (by omega), h (m + 3) (by omega)]
  · rw [if_neg h0, if_neg h0]
theorem hPl_s (k : Nat → ClassId) (q : Nat → Nat) (n p u0 u1 u2 : Nat) : hPl k q n ++ [(p, .inr (5, [.ref u0, .ref u1, .ref u2, .int 0, .int 0])), (u0, .inl (k 0, 8, .inl (fun _ => 0))), (u1, .inl (k 0, 8, .inl (fun _ => 0))), (u2, .inl (k 0, 96, .inl (fun _ => 0)))] = hPl k (qx q n p u0 u1 u2) (n + 1) := by
  rw [hPl_c (q2 := qx q n p u0 u1 u2) (fun m hm => (qx_o q p u0 u1 u2 hm).symm)]
  generalize hq : qx q n p u0 u1 u2 = q2
  have e0 : p = q2 (4 * n) := by rw [← hq, qx_0]
  have e1 : u0 = q2 (4 * n + 1) := by rw [← hq, qx_1]
  have e2 : u1 = q2 (4 * n + 2) := by rw [← hq, qx_2]
  have e3 : u2 = q2 (4 * n + 3) := by rw [← hq, qx_3]
  subst e0
  subst e1
  subst e2
  subst e3
  unfold hPl
  rw [show 4 * (n + 1) = 4 * n + 1 + 1 + 1 + 1 by omega, List.range_succ, List.range_succ, List.range_succ, List.range_succ, List.map_append, List.map_append, List.map_append, List.map_append, List.append_assoc, List.append_assoc, List.append_assoc]
  show _ = _ ++ [cPz k q2 (4 * n), cPz k q2 (4 * n + 1), cPz k q2 (4 * n + 2), cPz k q2 (4 * n + 3)]
  unfold cPz
  rw [cPc_0, cPc_1, cPc_2, cPc_3]
  rfl
theorem hE_len (k : Nat → ClassId) (h0 a1 a2 a3 : Nat) (G B : Nat → Option Nat) (q : Nat → Nat) (n : Nat) : (hE k h0 a1 a2 a3 G B ++ hPl k q n).length = 4 + 4 * n := by
  rw [List.length_append, hPl_len]
  rfl
theorem hE_get (k : Nat → ClassId) (h0 a1 a2 a3 : Nat) (G B : Nat → Option Nat) (q : Nat → Nat) (n : Nat) : (hE k h0 a1 a2 a3 G B ++ hPl k q (n + 1))[4 + 4 * n]? = some (q (4 * n), .inr (5, [.ref (q (4 * n + 1)), .ref (q (4 * n + 2)), .ref (q (4 * n + 3)), .int (mI 0), .int (mI 0)])) := by
  rw [List.getElem?_append_right (by show 4 ≤ _; omega)]
  show (hPl k q (n + 1))[4 + 4 * n - 4]? = _
  rw [show 4 + 4 * n - 4 = 4 * n by omega]
  unfold hPl
  rw [List.getElem?_map, List.getElem?_range (by omega)]
  show some (cPz k q (4 * n)) = _
  unfold cPz
  rw [cPc_0]
theorem arrV_cg {c : ClassId} {n : Nat} {f g : Nat → Value} (h : ∀ j, j < n → f j = g j) : arrV c n f = arrV c n g := by
  unfold arrV
  rw [show (Array.ofFn (n := n) fun j => f j.val) = (Array.ofFn (n := n) fun j => g j.val) by congr 1; funext j; exact h j.val j.isLt]
theorem va_at_q {D : va_G} {cl : List vw_C} {a : Nat} {c : ClassId} {n : Nat} {f g : Nat → Option Nat} {H : Heap} (h : va_at D cl (a, .inl (c, n, .inr (.inr (.inr (.inr f))))) H) (hf : ∀ j, j < n → f j = g j) : va_at D cl (a, .inl (c, n, .inr (.inr (.inr (.inr g))))) H := by
  show H[a]? = some (vp_cell c (n, .inr (.inr (.inr (.inr g)))))
  have h : H[a]? = some (vp_cell c (n, .inr (.inr (.inr (.inr f))))) := h
  rw [h]
  congr 1
  show arrV c n (fun j => va_rf (f j)) = arrV c n (fun j => va_rf (g j))
  exact arrV_cg (fun j hj => by rw [hf j hj])
set_option maxHeartbeats 4000000 in
set_option maxRecDepth 100000 in
theorem d_X3_init (l : Launch) (D : va_G) (k : Nat → ClassId) (h0 : Nat) : MetM l D k yX3_init cX3_init 2 none 2 179 5195 [.ref h0] [(h0, .inr (3, [.null, .null, .null, .int 0, .int 0, .int 0]))] xHi (qMv D (fun _ : (Nat → Nat) × (Nat → Nat) => True) (fun u : (Nat → Nat) × (Nat → Nat) => hE k h0 (u.1 0) (u.1 1) (u.1 2) (fun j => some (u.2 (4 * j))) (fun j => some (u.2 (4 * (41 + j)))) ++ hPl k u.2 44)) := by
  refine metM_of 0 ck_X3_init (Nat.le_of_ble_eq_true rfl) (fun p e s m args below meth c A hx hb hml hr hlocks hown hts hK hX hP hD hA hin ls hl => ?_)
  have hP : va_P D vwCl [(h0, .inr (3, [.null, .null, .null, .int 0, .int 0, .int 0]))] s.heap := hP
  have hD : va_D A [(h0, .inr (3, [.null, .null, .null, .int 0, .int 0, .int 0]))] := hD
  have hS : va_S A s.heap s.heap [] := va_S.rf
  have hin : meth.name = "<init>" := hin
  have hown : s.vm.findClass "HideReader$History" = some m.cls := hown
  have hl : lv_has ls 2 [(0, .ref h0)] := hl
  have hN_X5_init : va_Nw (.methodLinkNest "HideReader$History" 34 yX5_init "HideReader") s := hX.1
  have hov : va_AO "HideReader$Pasture" s := hX.2
  refine lv_aload_n hx hb dX3_init_0 rfl (lv_at hl 0 rfl) ?_
  refine W.objInit hx hb hown (hts _ uw_2_78) (hts _ uw_1_29) (hts _ uw_1_30) rfl (by rw [hml]; exact hl.1) rfl dX3_init_1 (Nat.le_of_ble_eq_true rfl) (Nat.le_of_ble_eq_true rfl) ?_
  refine W.eq (g2 := F0 m 4 ls []) rfl ?_
  refine lv_aload_n hx hb dX3_init_4 rfl (lv_at hl 0 rfl) ?_
  refine lv_bipush (v := 41) hx hb dX3_init_5 (by decide) ?_
  refine zn_q (own := "HideReader$History") (N' := 41) hx hb hown (hts _ uw_2_79) hov hK hP hD hS hA (by decide) (by decide) (by decide) (Nat.le_of_ble_eq_true rfl) (Nat.le_of_ble_eq_true rfl) dX3_init_7 (fun q_1 H hP hD hS => ?_)
  have hP : va_P D vwCl [(h0, .inr (3, [.null, .null, .null, .int 0, .int 0, .int 0])), (q_1, .inl (k 4, 41, .inr (.inr (.inr (.inr (fun _ => none))))))] H := hP
  have hD : va_D A [(h0, .inr (3, [.null, .null, .null, .int 0, .int 0, .int 0])), (q_1, .inl (k 4, 41, .inr (.inr (.inr (.inr (fun _ => none))))))] := hD
  refine W.widen (k := 1) (n := 41) (Nat.le_of_ble_eq_true rfl) (Nat.le_of_ble_eq_true rfl) ?_
  refine va_putF (D := D) (ci := 3) (v := .ref q_1) (ty := .array (.object "HideReader$Pasture")) (C := RX3) (T := TX3) (N := 6) hx hb hts uc_3 tyX3 tyX3_ok nmX3 hown hK hP hD hS 0 rfl rfl 0 (by decide) (hts _ uw_2_111) (fun _ h9 => h9) rfl hin rfl (by decide +kernel) rfl rfl (Nat.le_of_ble_eq_true rfl) dX3_init_10 (fun H locs hP hD hS => ?_)
  have hP : va_P D vwCl [(h0, .inr (3, [.ref q_1, .null, .null, .int 0, .int 0, .int 0])), (q_1, .inl (k 4, 41, .inr (.inr (.inr (.inr (fun _ => none))))))] H := hP
  have hD : va_D A [(h0, .inr (3, [.ref q_1, .null, .null, .int 0, .int 0, .int 0])), (q_1, .inl (k 4, 41, .inr (.inr (.inr (.inr (fun _ => none))))))] := hD
  refine lv_aload_n hx hb dX3_init_13 rfl (lv_at hl 0 rfl) ?_
  refine lv_iconst (v := 3) hx hb dX3_init_14 (by decide) ?_
  refine zn_q (own := "HideReader$History") (N' := 3) hx hb hown (hts _ uw_2_79) hov hK hP hD hS hA (by decide) (by decide) (by decide) (Nat.le_of_ble_eq_true rfl) (Nat.le_of_ble_eq_true rfl) dX3_init_15 (fun q_2 H hP hD hS => ?_)
  have hP : va_P D vwCl [(h0, .inr (3, [.ref q_1, .null, .null, .int 0, .int 0, .int 0])), (q_1, .inl (k 4, 41, .inr (.inr (.inr (.inr (fun _ => none)))))), (q_2, .inl (k 4, 3, .inr (.inr (.inr (.inr (fun _ => none))))))] H := hP
  have hD : va_D A [(h0, .inr (3, [.ref q_1, .null, .null, .int 0, .int 0, .int 0])), (q_1, .inl (k 4, 41, .inr (.inr (.inr (.inr (fun _ => none)))))), (q_2, .inl (k 4, 3, .inr (.inr (.inr (.inr (fun _ => none))))))] := hD
  refine W.widen (k := 2) (n := 44) (Nat.le_of_ble_eq_true rfl) (Nat.le_of_ble_eq_true rfl) ?_
  refine va_putF (D := D) (ci := 3) (v := .ref q_2) (ty := .array (.object "HideReader$Pasture")) (C := RX3) (T := TX3) (N := 6) hx hb hts uc_3 tyX3 tyX3_ok nmX3 hown hK hP hD hS 0 rfl rfl 1 (by decide) (hts _ uw_2_112) (fun _ h9 => h9) rfl hin rfl (by decide +kernel) rfl rfl (Nat.le_of_ble_eq_true rfl) dX3_init_18 (fun H locs hP hD hS => ?_)
  have hP : va_P D vwCl [(h0, .inr (3, [.ref q_1, .ref q_2, .null, .int 0, .int 0, .int 0])), (q_1, .inl (k 4, 41, .inr (.inr (.inr (.inr (fun _ => none)))))), (q_2, .inl (k 4, 3, .inr (.inr (.inr (.inr (fun _ => none))))))] H := hP
  have hD : va_D A [(h0, .inr (3, [.ref q_1, .ref q_2, .null, .int 0, .int 0, .int 0])), (q_1, .inl (k 4, 41, .inr (.inr (.inr (.inr (fun _ => none)))))), (q_2, .inl (k 4, 3, .inr (.inr (.inr (.inr (fun _ => none))))))] := hD
  refine lv_aload_n hx hb dX3_init_21 rfl (lv_at hl 0 rfl) ?_
  refine lv_iconst (v := 3) hx hb dX3_init_22 (by decide) ?_
  refine zn_a (atype := .boolean) (ty := .boolean) hx hb hts uw_2_110 rfl hK hP hD hS hA 3 rfl (a0 := (3, .inl (fun _ => 0))) (N' := 3) (fun _ => rfl) (by decide) (by decide) (by decide) (Nat.le_of_ble_eq_true rfl) (Nat.le_of_ble_eq_true rfl) dX3_init_23 (fun q_3 H hP hD hS => ?_)
  have hP : va_P D vwCl [(h0, .inr (3, [.ref q_1, .ref q_2, .null, .int 0, .int 0, .int 0])), (q_1, .inl (k 4, 41, .inr (.inr (.inr (.inr (fun _ => none)))))), (q_2, .inl (k 4, 3, .inr (.inr (.inr (.inr (fun _ => none)))))), (q_3, .inl (k 3, 3, .inl (fun _ => 0)))] H := hP
  have hD : va_D A [(h0, .inr (3, [.ref q_1, .ref q_2, .null, .int 0, .int 0, .int 0])), (q_1, .inl (k 4, 41, .inr (.inr (.inr (.inr (fun _ => none)))))), (q_2, .inl (k 4, 3, .inr (.inr (.inr (.inr (fun _ => none)))))), (q_3, .inl (k 3, 3, .inl (fun _ => 0)))] := hD
  refine W.widen (k := 3) (n := 47) (Nat.le_of_ble_eq_true rfl) (Nat.le_of_ble_eq_true rfl) ?_
  refine va_putF (D := D) (ci := 3) (v := .ref q_3) (ty := .array .boolean) (C := RX3) (T := TX3) (N := 6) hx hb hts uc_3 tyX3 tyX3_ok nmX3 hown hK hP hD hS 0 rfl rfl 2 (by decide) (hts _ uw_2_113) (fun _ h9 => h9) rfl hin rfl (by decide +kernel) rfl rfl (Nat.le_of_ble_eq_true rfl) dX3_init_25 (fun H locs hP hD hS => ?_)
  have hP : va_P D vwCl [(h0, .inr (3, [.ref q_1, .ref q_2, .ref q_3, .int 0, .int 0, .int 0])), (q_1, .inl (k 4, 41, .inr (.inr (.inr (.inr (fun _ => none)))))), (q_2, .inl (k 4, 3, .inr (.inr (.inr (.inr (fun _ => none)))))), (q_3, .inl (k 3, 3, .inl (fun _ => 0)))] H := hP
  have hD : va_D A [(h0, .inr (3, [.ref q_1, .ref q_2, .ref q_3, .int 0, .int 0, .int 0])), (q_1, .inl (k 4, 41, .inr (.inr (.inr (.inr (fun _ => none)))))), (q_2, .inl (k 4, 3, .inr (.inr (.inr (.inr (fun _ => none)))))), (q_3, .inl (k 3, 3, .inl (fun _ => 0)))] := hD
  refine lv_aload_n hx hb dX3_init_28 rfl (lv_at hl 0 rfl) ?_
  refine lv_iconst (v := 0) hx hb dX3_init_29 (by decide) ?_
  refine va_put (D := D) (ci := 3) (v := .int 0) (ty := .int) (C := RX3) (T := TX3) (N := 6) hx hb hts uc_3 tyX3 tyX3_ok nmX3 hown hK hP hD hS 0 rfl rfl 3 (by decide) (hts _ uw_2_114) (fun _ h9 => h9) rfl (by decide +kernel) rfl rfl (Nat.le_of_ble_eq_true rfl) dX3_init_30 (fun H locs hP hD hS => ?_)
  have hP : va_P D vwCl [(h0, .inr (3, [.ref q_1, .ref q_2, .ref q_3, .int 0, .int 0, .int 0])), (q_1, .inl (k 4, 41, .inr (.inr (.inr (.inr (fun _ => none)))))), (q_2, .inl (k 4, 3, .inr (.inr (.inr (.inr (fun _ => none)))))), (q_3, .inl (k 3, 3, .inl (fun _ => 0)))] H := hP
  have hD : va_D A [(h0, .inr (3, [.ref q_1, .ref q_2, .ref q_3, .int 0, .int 0, .int 0])), (q_1, .inl (k 4, 41, .inr (.inr (.inr (.inr (fun _ => none)))))), (q_2, .inl (k 4, 3, .inr (.inr (.inr (.inr (fun _ => none)))))), (q_3, .inl (k 3, 3, .inl (fun _ => 0)))] := hD
  refine lv_aload_n hx hb dX3_init_33 rfl (lv_at hl 0 rfl) ?_
  refine lv_iconst (v := 0) hx hb dX3_init_34 (by decide) ?_
  refine va_put (D := D) (ci := 3) (v := .int 0) (ty := .int) (C := RX3) (T := TX3) (N := 6) hx hb hts uc_3 tyX3 tyX3_ok nmX3 hown hK hP hD hS 0 rfl rfl 4 (by decide) (hts _ uw_2_115) (fun _ h9 => h9) rfl (by decide +kernel) rfl rfl (Nat.le_of_ble_eq_true rfl) dX3_init_35 (fun H locs hP hD hS => ?_)
  have hP : va_P D vwCl [(h0, .inr (3, [.ref q_1, .ref q_2, .ref q_3, .int 0, .int 0, .int 0])), (q_1, .inl (k 4, 41, .inr (.inr (.inr (.inr (fun _ => none)))))), (q_2, .inl (k 4, 3, .inr (.inr (.inr (.inr (fun _ => none)))))), (q_3, .inl (k 3, 3, .inl (fun _ => 0)))] H := hP
  have hD : va_D A [(h0, .inr (3, [.ref q_1, .ref q_2, .ref q_3, .int 0, .int 0, .int 0])), (q_1, .inl (k 4, 41, .inr (.inr (.inr (.inr (fun _ => none)))))), (q_2, .inl (k 4, 3, .inr (.inr (.inr (.inr (fun _ => none)))))), (q_3, .inl (k 3, 3, .inl (fun _ => 0)))] := hD
  refine lv_aload_n hx hb dX3_init_38 rfl (lv_at hl 0 rfl) ?_
  refine lv_iconst (v := 0) hx hb dX3_init_39 (by decide) ?_
  refine va_put (D := D) (ci := 3) (v := .int 0) (ty := .int) (C := RX3) (T := TX3) (N := 6) hx hb hts uc_3 tyX3 tyX3_ok nmX3 hown hK hP hD hS 0 rfl rfl 5 (by decide) (hts _ uw_2_116) (fun _ h9 => h9) rfl (by decide +kernel) rfl rfl (Nat.le_of_ble_eq_true rfl) dX3_init_40 (fun H locs hP hD hS => ?_)
  have hP : va_P D vwCl [(h0, .inr (3, [.ref q_1, .ref q_2, .ref q_3, .int 0, .int 0, .int 0])), (q_1, .inl (k 4, 41, .inr (.inr (.inr (.inr (fun _ => none)))))), (q_2, .inl (k 4, 3, .inr (.inr (.inr (.inr (fun _ => none)))))), (q_3, .inl (k 3, 3, .inl (fun _ => 0)))] H := hP
  have hD : va_D A [(h0, .inr (3, [.ref q_1, .ref q_2, .ref q_3, .int 0, .int 0, .int 0])), (q_1, .inl (k 4, 41, .inr (.inr (.inr (.inr (fun _ => none)))))), (q_2, .inl (k 4, 3, .inr (.inr (.inr (.inr (fun _ => none)))))), (q_3, .inl (k 3, 3, .inl (fun _ => 0)))] := hD
  refine lv_iconst (v := 0) hx hb dX3_init_43 (by decide) ?_
  refine lv_istore_n (lv' := [(1, .int 0), (0, .ref h0)]) hx hb dX3_init_44 rfl hl (by decide) rfl (fun ls hl => ?_)
  have box : ∀ r i : Nat, i + r = 3 → ∀ (q : Nat → Nat) (G B : Nat → Option Nat) (H : Heap) (locs : List Loc) (ls : Array Slot), (∀ j, j < 41 → G j = some (q (4 * j))) → (∀ j, j < i → B j = some (q (4 * (41 + j)))) → va_P D vwCl (hE k h0 q_1 q_2 q_3 G B ++ hPl k q (41 + i)) H → va_D A (hE k h0 q_1 q_2 q_3 G B ++ hPl k q (41 + i)) → va_S A s.heap H locs → lv_has ls 2 [(1, .int (nI i)), (0, .ref h0)] → W p l e (rmD 2 179 5195) s m args below meth c H locs (3 + 4 * (41 + i)) (47 + 117 * (41 + i)) (MQ below (qMv D (fun _ : (Nat → Nat) × (Nat → Nat) => True) (fun u : (Nat → Nat) × (Nat → Nat) => hE k h0 (u.1 0) (u.1 1) (u.1 2) (fun j => some (u.2 (4 * j))) (fun j => some (u.2 (4 * (41 + j)))) ++ hPl k u.2 44) A) args s 179 5195 A) (F0 m 72 ls []) := by
    intro r
    induction r with
    | zero =>
      intro i hi q G B H locs ls hG hB hP hD hS hl
      obtain rfl : i = 3 := by omega
      refine lv_iload_n hx hb dX3_init_72 rfl (lv_at hl 0 rfl) ?_
      refine lv_iconst (v := 3) hx hb dX3_init_73 (by decide) ?_
      refine lv_icmp_ge (tgt := 96) hx hb dX3_init_74 (by decide) (fun _ => ?_) (fun c9 => absurd (by decide) c9)
      have e9 : (hE k h0 q_1 q_2 q_3 G B ++ hPl k q 44).map Prod.fst = (hE k h0 q_1 q_2 q_3 (fun j => some (q (4 * j))) (fun j => some (q (4 * (41 + j)))) ++ hPl k q 44).map Prod.fst := by
        rw [List.map_append, List.map_append]
        rfl
      exact zf_v hx hb hr hlocks dX3_init_96 (ul [q_1, q_2, q_3], q) trivial (fun j x hj => by
        match j, hj with
        | 0, hj => cases hj; exact hP 0 _ rfl
        | 1, hj => cases hj; exact va_at_q (hP 1 _ rfl) hG
        | 2, hj => cases hj; exact va_at_q (hP 2 _ rfl) hB
        | j + 3, hj => exact hP (j + 3) x hj) (wD_to (wD_of hD e9) rfl) hS (Nat.le_of_ble_eq_true rfl) (Nat.le_of_ble_eq_true rfl)
    | succ r ih =>
      intro i hi q G B H locs ls hG hB hP hD hS hl
      refine lv_iload_n hx hb dX3_init_72 rfl (lv_at hl 0 rfl) ?_
      refine lv_iconst (v := nI 3) hx hb dX3_init_73 (by decide) ?_
      refine lv_icmp_ge (tgt := 96) hx hb dX3_init_74 (by decide) (fun c9 => absurd c9 (nI_ge (by omega) (by decide))) (fun _ => ?_)
      refine lv_aload_n hx hb dX3_init_77 rfl (lv_at hl 1 rfl) ?_
      refine va_get (D := D) (ci := 3) (v := .ref q_2) (C := RX3) (T := TX3) (N := 6) hx hb hts uc_3 hown hK hP 0 rfl rfl 1 (by decide) (hts _ uw_2_112) (fun _ h9 => h9) rfl dX3_init_78 ?_
      refine lv_iload_n hx hb dX3_init_81 rfl (lv_at hl 0 rfl) ?_
      refine va_new (ci := 5) (fs := [.null, .null, .null, .int 0, .int 0]) (C := RX5) (T := TX5) (N := 5) hx hb hts uc_5 tyX5 tyX5_ok hown (hts _ uw_2_79) (hts _ uw_2_81) (hts _ uw_1_13) hK hP hD hS hA rfl df_5 (by show (3 + 4 * (41 + i)) + 1 ≤ 179; omega) (by show (47 + 117 * (41 + i)) + 5 ≤ 5195; omega) dX3_init_82 (fun p0 H hP hD hS => ?_)
      refine lv_dup hx hb dX3_init_85 rfl ?_
      refine zm_v (wr := (hE k h0 q_1 q_2 q_3 G B ++ hPl k q (41 + i))) hP hD hS hA [(hE k h0 q_1 q_2 q_3 G B ++ hPl k q (41 + i)).length] (List.range (hE k h0 q_1 q_2 q_3 G B ++ hPl k q (41 + i)).length) (zm_N (own := "HideReader$History") (As := []) (rest := [.ref p0, .int (nI i), .ref q_2]) (ws := [(p0, .inr (5, [.null, .null, .null, .int 0, .int 0]))]) hx hb hml hown hts hK noX_stb (fun _ _ _ => trivial) (c_X5_init l D k p0) ck_X5_init ii_X5_init hN_X5_init hP hD [(hE k h0 q_1 q_2 q_3 G B ++ hPl k q (41 + i)).length] (ix_C _ _) (nd_1 _) rfl hl.1 rfl (Nat.le_of_ble_eq_true rfl) dX3_init_86 ⟨by show (3 + 4 * (41 + i)) + 1 + 3 ≤ 179; omega, by show (47 + 117 * (41 + i)) + 5 + 112 ≤ 5195; omega⟩ ⟨Nat.le_of_ble_eq_true rfl, Nat.le_of_ble_eq_true rfl⟩) (ix_C _ _) (ix_R _ _) (nd_r _) (di_r _) (fun u H locs _ hP hD hS => ?_)
      rw [List.append_assoc, hPl_s] at hP hD
      obtain ⟨q2, hq2⟩ : ∃ q2, q2 = qx q (41 + i) p0 (u 0) (u 1) (u 2) := ⟨_, rfl⟩
      rw [← hq2] at hP hD
      have ep : q2 (4 * (41 + i)) = p0 := by rw [hq2, qx_0]
      have eo : ∀ m, m < 4 * (41 + i) → q2 m = q m := fun m hm => by rw [hq2, qx_o _ _ _ _ _ hm]
      clear hq2
      refine va_astq (r := (RX5, TX5, 5)) hx hb hK hP hD hS 2 4 (4 + 4 * (41 + i)) 5 rfl rfl (by rw [hE_get, ep]) rfl (vp_in_nI (n := i) (by omega) (by decide)) dX3_init_89 (fun H locs hP hD hS => ?_)
      rw [nI_clamp (by omega)] at hP hD
      refine lv_iinc (v := nI (i + 1)) (lv' := [(1, .int (nI (i + 1))), (0, .ref h0)]) hx hb dX3_init_90 hl (k := 0) rfl (nI_1 _) (by decide) rfl (fun ls hl => ?_)
      refine lv_goto (tgt := 72) hx hb dX3_init_93 (by decide) ?_
      refine W.widen (k := (3 + 4 * ((41 + i) + 1))) (n := (47 + 117 * ((41 + i) + 1))) (by omega) (by omega) ?_
      refine ih (i + 1) (by omega) q2 G (va_up B i (some p0)) H locs ls (fun j hj => by rw [hG j hj, eo _ (by omega)]) (fun j hj => ?_) hP hD hS hl
      show (if j = i then some p0 else B j) = some (q2 (4 * (41 + j)))
      by_cases hji : j = i
      · subst hji
        rw [if_pos rfl, ep]
      · rw [if_neg hji, hB j (by omega), eo _ (by omega)]
  have ring : ∀ r i : Nat, i + r = 41 → ∀ (q : Nat → Nat) (G B : Nat → Option Nat) (H : Heap) (locs : List Loc) (ls : Array Slot), (∀ j, j < i → G j = some (q (4 * (j)))) → va_P D vwCl (hE k h0 q_1 q_2 q_3 G B ++ hPl k q i) H → va_D A (hE k h0 q_1 q_2 q_3 G B ++ hPl k q i) → va_S A s.heap H locs → lv_has ls 2 [(1, .int (nI i)), (0, .ref h0)] → W p l e (rmD 2 179 5195) s m args below meth c H locs (3 + 4 * i) (47 + 117 * i) (MQ below (qMv D (fun _ : (Nat → Nat) × (Nat → Nat) => True) (fun u : (Nat → Nat) × (Nat → Nat) => hE k h0 (u.1 0) (u.1 1) (u.1 2) (fun j => some (u.2 (4 * j))) (fun j => some (u.2 (4 * (41 + j)))) ++ hPl k u.2 44) A) args s 179 5195 A) (F0 m 45 ls []) := by
    intro r
    induction r with
    | zero =>
      intro i hi q G B H locs ls hG hP hD hS hl
      obtain rfl : i = 41 := by omega
      refine lv_iload_n hx hb dX3_init_45 rfl (lv_at hl 0 rfl) ?_
      refine lv_bipush (v := 41) hx hb dX3_init_46 (by decide) ?_
      refine lv_icmp_ge (tgt := 70) hx hb dX3_init_48 (by decide) (fun _ => ?_) (fun c9 => absurd (by decide) c9)
      refine lv_iconst (v := 0) hx hb dX3_init_70 (by decide) ?_
      refine lv_istore_n (lv' := [(1, .int 0), (0, .ref h0)]) hx hb dX3_init_71 rfl hl (by decide) rfl (fun ls hl => ?_)
      exact box 3 0 (by decide) q G B H locs ls hG (fun j hj => absurd hj (Nat.not_lt_zero _)) hP hD hS hl
    | succ r ih =>
      intro i hi q G B H locs ls hG hP hD hS hl
      refine lv_iload_n hx hb dX3_init_45 rfl (lv_at hl 0 rfl) ?_
      refine lv_bipush (v := nI 41) hx hb dX3_init_46 (by decide) ?_
      refine lv_icmp_ge (tgt := 70) hx hb dX3_init_48 (by decide) (fun c9 => absurd c9 (nI_ge (by omega) (by decide))) (fun _ => ?_)
      refine lv_aload_n hx hb dX3_init_51 rfl (lv_at hl 1 rfl) ?_
      refine va_get (D := D) (ci := 3) (v := .ref q_1) (C := RX3) (T := TX3) (N := 6) hx hb hts uc_3 hown hK hP 0 rfl rfl 0 (by decide) (hts _ uw_2_111) (fun _ h9 => h9) rfl dX3_init_52 ?_
      refine lv_iload_n hx hb dX3_init_55 rfl (lv_at hl 0 rfl) ?_
      refine va_new (ci := 5) (fs := [.null, .null, .null, .int 0, .int 0]) (C := RX5) (T := TX5) (N := 5) hx hb hts uc_5 tyX5 tyX5_ok hown (hts _ uw_2_79) (hts _ uw_2_81) (hts _ uw_1_13) hK hP hD hS hA rfl df_5 (by show (3 + 4 * i) + 1 ≤ 179; omega) (by show (47 + 117 * i) + 5 ≤ 5195; omega) dX3_init_56 (fun p0 H hP hD hS => ?_)
      refine lv_dup hx hb dX3_init_59 rfl ?_
      refine zm_v (wr := (hE k h0 q_1 q_2 q_3 G B ++ hPl k q i)) hP hD hS hA [(hE k h0 q_1 q_2 q_3 G B ++ hPl k q i).length] (List.range (hE k h0 q_1 q_2 q_3 G B ++ hPl k q i).length) (zm_N (own := "HideReader$History") (As := []) (rest := [.ref p0, .int (nI i), .ref q_1]) (ws := [(p0, .inr (5, [.null, .null, .null, .int 0, .int 0]))]) hx hb hml hown hts hK noX_stb (fun _ _ _ => trivial) (c_X5_init l D k p0) ck_X5_init ii_X5_init hN_X5_init hP hD [(hE k h0 q_1 q_2 q_3 G B ++ hPl k q i).length] (ix_C _ _) (nd_1 _) rfl hl.1 rfl (Nat.le_of_ble_eq_true rfl) dX3_init_60 ⟨by show (3 + 4 * i) + 1 + 3 ≤ 179; omega, by show (47 + 117 * i) + 5 + 112 ≤ 5195; omega⟩ ⟨Nat.le_of_ble_eq_true rfl, Nat.le_of_ble_eq_true rfl⟩) (ix_C _ _) (ix_R _ _) (nd_r _) (di_r _) (fun u H locs _ hP hD hS => ?_)
      rw [List.append_assoc, hPl_s] at hP hD
      obtain ⟨q2, hq2⟩ : ∃ q2, q2 = qx q i p0 (u 0) (u 1) (u 2) := ⟨_, rfl⟩
      rw [← hq2] at hP hD
      have ep : q2 (4 * i) = p0 := by rw [hq2, qx_0]
      have eo : ∀ m, m < 4 * i → q2 m = q m := fun m hm => by rw [hq2, qx_o _ _ _ _ _ hm]
      clear hq2
      refine va_astq (r := (RX5, TX5, 5)) hx hb hK hP hD hS 1 4 (4 + 4 * i) 5 rfl rfl (by rw [hE_get, ep]) rfl (vp_in_nI (n := i) (by omega) (by decide)) dX3_init_63 (fun H locs hP hD hS => ?_)
      rw [nI_clamp (by omega)] at hP hD
      refine lv_iinc (v := nI (i + 1)) (lv' := [(1, .int (nI (i + 1))), (0, .ref h0)]) hx hb dX3_init_64 hl (k := 0) rfl (nI_1 _) (by decide) rfl (fun ls hl => ?_)
      refine lv_goto (tgt := 45) hx hb dX3_init_67 (by decide) ?_
      refine W.widen (k := (3 + 4 * (i + 1))) (n := (47 + 117 * (i + 1))) (by omega) (by omega) ?_
      refine ih (i + 1) (by omega) q2 (va_up G i (some p0)) B H locs ls (fun j hj => ?_) hP hD hS hl
      show (if j = i then some p0 else G j) = some (q2 (4 * (j)))
      by_cases hji : j = i
      · subst hji
        rw [if_pos rfl, ep]
      · rw [if_neg hji, hG j (by omega), eo _ (by omega)]
  exact ring 41 0 (by decide) (fun _ => 0) (fun _ => none) (fun _ => none) H locs ls (fun j hj => absurd hj (Nat.not_lt_zero _)) hP hD hS hl
