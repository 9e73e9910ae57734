set_option maxHeartbeats 4000000 in
set_option maxRecDepth 100000 in
theorem law_loop {p : Program} {l : Launch} {e : Env} {s : State} {m : MethodId} {below : List Frame} {meth : Method} {c : Code} {D : va_G} {k : Nat → ClassId} {A : Nat → Prop} {b L : Nat} {xs : Nat → Int32} {a q a2 : Nat → Nat} {t : Int} {wc wr : va_W} {H : Heap} {locs : List Loc} {ls : Array Slot} (hx : p.tables.exec = Jvm.exec) (hb : c.code = cL_law) (hr : meth.sig.returnType = ret) (hml : c.maxLocals = 4) (hown : s.vm.findClass "HideReaderLaw" = some m.cls) (hts : ∀ w ∈ UT, w.before #[Value.ref b] s = true) (hXs : va_X b L xs s s.heap) (hbl : b < s.heap.size) (hbA : ¬ A b) (hlocks : meth.locks = false) (hK : va_K D vwCl (tys k) s) (hA : ∀ q : Nat, s.heap.size ≤ q → A q) (hA2 : ∀ q : Nat, A q → s.heap.size ≤ q) (hD : wD A (cAd a q [] ++ rAd a2 [])) {aK aV : Nat} (hXA : ∀ {H : Heap} {locs : List Loc}, va_S A s.heap H locs → ∀ U : State, U.heap = H → s.WarmedH U.vm → xG s.heap.size aK aV U) (hL : L ≤ 384) (hC : cI k a q t wc) (hR : rI k a2 t wr) (hP : va_P D vwCl (wc ++ wr) H) (hS : va_S A s.heap H locs) (hl : lv_has ls 4 [(0, .ref b), (1, .ref (a 0)), (2, .ref (a2 0)), (3, .int (mI 0))]) : W p l e room_1 s m #[Value.ref b] below meth c H locs 278 29046 (lw_Z below #[Value.ref b] s) (F0 m 18 ls []) := by
  refine sy_loop (I := fun n H locs g => ∃ (i t : Int) (wc wr : va_W) (ls : Array Slot), (0 ≤ i ∧ i ≤ 390) ∧ cI k a q t wc ∧ rI k a2 t wr ∧ (390 - i).toNat = n ∧ va_P D vwCl (wc ++ wr) H ∧ va_S A s.heap H locs ∧ lv_has ls 4 [(0, .ref b), (1, .ref (a 0)), (2, .ref (a2 0)), (3, .int (mI i))] ∧ g = F0 m 18 ls []) ?_ _ ⟨0, t, wc, wr, _, by omega, hC, hR, rfl, hP, hS, hl, rfl⟩
  clear hC hR hP hS hl
  intro n H locs g hI ih
  obtain ⟨i, t, wc, wr, ls, hi0, hC, hR, hn, hP, hS, hl, rfl⟩ := hI
  refine lv_iload_n hx hb dL_law_18 rfl (lv_at hl 3 rfl) ?_
  refine lv_aload_n hx hb dL_law_19 rfl (lv_at hl 0 rfl) ?_
  refine va_slen hx hb hXs hbl hbA hS dL_law_20 ?_
  refine sy_top (L : Int) (mI_nat L).symm ?_
  refine lv_bipush (v := mI 6) hx hb dL_law_21 (by decide) ?_
  refine sy_isub hx hb dL_law_23 ((L : Int) - 6) rfl ?_
  refine sy_icmp_gt (tgt := 1598) hx hb dL_law_24 (by decide) (by omega) (by omega) (fun c1 => ?_) (fun c1 => ?_)
  · refine lv_iconst (v := 1) hx hb dL_law_1598 (by decide) ?_
    refine va_forget (fun q hq => hA2 _ (hS.2.2 q hq)) ?_
    refine W.widen (k := 600000) (n := 7302250) (Nat.le_of_ble_eq_true rfl) (Nat.le_of_ble_eq_true rfl) ?_
    exact lw_ret hx hb hr hlocks dL_law_1599
  · have hi : 0 ≤ i ∧ i + 6 ≤ (L : Int) ∧ L ≤ 384 := by omega
    have kk : ∀ (t : Int) (wc wr : va_W) (H : Heap) (locs : List Loc) (ls : Array Slot), cI k a q t wc → rI k a2 t wr → va_P D vwCl (wc ++ wr) H → va_S A s.heap H locs → lv_has ls 4 [(0, .ref b), (1, .ref (a 0)), (2, .ref (a2 0)), (3, .int (mI i))] → W p l e room_1 s m #[Value.ref b] below meth c H locs 278 29046 (lw_Z below #[Value.ref b] s) (F0 m 1592 ls []) := by
      intro t wc wr H locs ls hC hR hP hS hl
      refine lv_iinc (v := mI (i + 6)) (lv' := [(3, .int (mI (i + 6))), (0, .ref b), (1, .ref (a 0)), (2, .ref (a2 0))]) hx hb dL_law_1592 hl (k := 3) rfl (mI_ad rfl) (by decide) rfl (fun ls hl => ?_)
      refine lv_goto (tgt := 18) hx hb dL_law_1595 (by decide) ?_
      exact ih _ _ _ _ (by omega) ⟨i + 6, t, wc, wr, ls, by omega, hC, hR, rfl, hP, hS, lv_sub hl [1, 2, 3, 0] rfl, rfl⟩
    refine lv_aload_n hx hb dL_law_27 rfl (lv_at hl 0 rfl) ?_
    refine lv_iload_n hx hb dL_law_28 rfl (lv_at hl 3 rfl) ?_
    refine va_sld hx hb hXs hbl hbA hS (mI_in (by omega) (by omega) (by omega)) dL_law_29 ?_
    refine sy_any (fun z0 hz0 => ?_)
    refine lv_bipush (v := mI 63) hx hb dL_law_30 (by decide) ?_
    refine sy_iandR hx hb dL_law_32 (by decide) (fun z hz => ?_)
    clear ih
    rcases (by omega : (z < 0 ∨ 53 < z) ∨ z = 0 ∨ z = 1 ∨ z = 2 ∨ z = 3 ∨ z = 4 ∨ z = 5 ∨ z = 6 ∨ z = 7 ∨ z = 8 ∨ z = 9 ∨ z = 10 ∨ z = 11 ∨ z = 12 ∨ z = 13 ∨ z = 14 ∨ z = 15 ∨ z = 16 ∨ z = 17 ∨ z = 18 ∨ z = 19 ∨ z = 20 ∨ z = 21 ∨ z = 22 ∨ z = 23 ∨ z = 24 ∨ z = 25 ∨ z = 26 ∨ z = 27 ∨ z = 28 ∨ z = 29 ∨ z = 30 ∨ z = 31 ∨ z = 32 ∨ z = 33 ∨ z = 34 ∨ z = 35 ∨ z = 36 ∨ z = 37 ∨ z = 38 ∨ z = 39 ∨ z = 40 ∨ z = 41 ∨ z = 42 ∨ z = 43 ∨ z = 44 ∨ z = 45 ∨ z = 46 ∨ z = 47 ∨ z = 48 ∨ z = 49 ∨ z = 50 ∨ z = 51 ∨ z = 52 ∨ z = 53) with h | h | h | h | h | h | h | h | h | h | h | h | h | h | h | h | h | h | h | h | h | h | h | h | h | h | h | h | h | h | h | h | h | h | h | h | h | h | h | h | h | h | h | h | h | h | h | h | h | h | h | h | h | h | h
    · refine sy_tableOut (tgt := 1592) hx hb dL_law_33 (by omega) h (by decide) ?_
      exact kk _ _ _ _ _ _ hC hR hP hS hl
    · refine sy_tableIn (tgt := 264) hx hb dL_law_33 0 h (by decide) rfl (by decide) ?_
      exact lc_0 hx hb hml hown hts hXs hbl hbA hK hA hD hi hC hR hP hS hl kk
    · refine sy_tableIn (tgt := 327) hx hb dL_law_33 1 h (by decide) rfl (by decide) ?_
      exact lc_1 hx hb hml hown hts hXs hbl hbA hK hA hD hi hC hR hP hS hl kk
    · refine sy_tableIn (tgt := 350) hx hb dL_law_33 2 h (by decide) rfl (by decide) ?_
      exact lc_2 hx hb hml hown hts hXs hbl hbA hK hA hD hi hA2 hXA hC hR hP hS hl kk
    · refine sy_tableIn (tgt := 363) hx hb dL_law_33 3 h (by decide) rfl (by decide) ?_
      exact lc_3 hx hb hml hown hts hXs hbl hbA hK hA hD hi hC hR hP hS hl kk
    · refine sy_tableIn (tgt := 386) hx hb dL_law_33 4 h (by decide) rfl (by decide) ?_
      exact lc_4 hx hb hml hown hts hXs hbl hbA hK hA hD hi hC hR hP hS hl kk
    · refine sy_tableIn (tgt := 409) hx hb dL_law_33 5 h (by decide) rfl (by decide) ?_
      exact lc_5 hx hb hml hown hts hXs hbl hbA hK hA hD hi hC hR hP hS hl kk
    · refine sy_tableIn (tgt := 432) hx hb dL_law_33 6 h (by decide) rfl (by decide) ?_
      exact lc_6 hx hb hml hown hts hXs hbl hbA hK hA hD hi hC hR hP hS hl kk
    · refine sy_tableIn (tgt := 465) hx hb dL_law_33 7 h (by decide) rfl (by decide) ?_
      exact lc_7 hx hb hml hown hts hXs hbl hbA hK hA hD hi hC hR hP hS hl kk
    · refine sy_tableIn (tgt := 498) hx hb dL_law_33 8 h (by decide) rfl (by decide) ?_
      exact lc_8 hx hb hml hown hts hXs hbl hbA hK hA hD hi hC hR hP hS hl kk
    · refine sy_tableIn (tgt := 531) hx hb dL_law_33 9 h (by decide) rfl (by decide) ?_
      exact lc_9 hx hb hml hown hts hXs hbl hbA hK hA hD hi hC hR hP hS hl kk
    · refine sy_tableIn (tgt := 564) hx hb dL_law_33 10 h (by decide) rfl (by decide) ?_
      exact lc_10 hx hb hml hown hts hXs hbl hbA hK hA hD hi hC hR hP hS hl kk
    · refine sy_tableIn (tgt := 577) hx hb dL_law_33 11 h (by decide) rfl (by decide) ?_
      exact lc_11 hx hb hml hown hts hXs hbl hbA hK hA hD hi hC hR hP hS hl kk
    · refine sy_tableIn (tgt := 620) hx hb dL_law_33 12 h (by decide) rfl (by decide) ?_
      exact lc_12 hx hb hml hown hts hXs hbl hbA hK hA hD hi hC hR hP hS hl kk
    · refine sy_tableIn (tgt := 653) hx hb dL_law_33 13 h (by decide) rfl (by decide) ?_
      exact lc_13 hx hb hml hown hts hXs hbl hbA hK hA hD hi hC hR hP hS hl kk
    · refine sy_tableIn (tgt := 676) hx hb dL_law_33 14 h (by decide) rfl (by decide) ?_
      exact lc_14 hx hb hml hown hts hXs hbl hbA hK hA hD hi hC hR hP hS hl kk
    · refine sy_tableIn (tgt := 689) hx hb dL_law_33 15 h (by decide) rfl (by decide) ?_
      exact lc_15 hx hb hml hown hts hXs hbl hbA hK hA hD hi hC hR hP hS hl kk
    · refine sy_tableIn (tgt := 702) hx hb dL_law_33 16 h (by decide) rfl (by decide) ?_
      exact lc_16 hx hb hml hown hts hXs hbl hbA hK hA hD hi hC hR hP hS hl kk
    · refine sy_tableIn (tgt := 735) hx hb dL_law_33 17 h (by decide) rfl (by decide) ?_
      exact lc_17 hx hb hml hown hts hXs hbl hbA hK hA hD hi hC hR hP hS hl kk
    · refine sy_tableIn (tgt := 768) hx hb dL_law_33 18 h (by decide) rfl (by decide) ?_
      exact lc_18 hx hb hml hown hts hXs hbl hbA hK hA hD hi hC hR hP hS hl kk
    · refine sy_tableIn (tgt := 781) hx hb dL_law_33 19 h (by decide) rfl (by decide) ?_
      exact lc_19 hx hb hml hown hts hXs hbl hbA hK hA hD hi hC hR hP hS hl kk
    · refine sy_tableIn (tgt := 794) hx hb dL_law_33 20 h (by decide) rfl (by decide) ?_
      exact lc_20 hx hb hml hown hts hXs hbl hbA hK hA hD hi hC hR hP hS hl kk
    · refine sy_tableIn (tgt := 807) hx hb dL_law_33 21 h (by decide) rfl (by decide) ?_
      exact lc_21 hx hb hml hown hts hXs hbl hbA hK hA hD hi hC hR hP hS hl kk
    · refine sy_tableIn (tgt := 820) hx hb dL_law_33 22 h (by decide) rfl (by decide) ?_
      exact lc_22 hx hb hml hown hts hXs hbl hbA hK hA hD hi hC hR hP hS hl kk
    · refine sy_tableIn (tgt := 843) hx hb dL_law_33 23 h (by decide) rfl (by decide) ?_
      exact lc_23 hx hb hml hown hts hXs hbl hbA hK hA hD hi hC hR hP hS hl kk
    · refine sy_tableIn (tgt := 866) hx hb dL_law_33 24 h (by decide) rfl (by decide) ?_
      exact lc_24 hx hb hml hown hts hXs hbl hbA hK hA hD hi hC hR hP hS hl kk
    · refine sy_tableIn (tgt := 889) hx hb dL_law_33 25 h (by decide) rfl (by decide) ?_
      exact lc_25 hx hb hml hown hts hXs hbl hbA hK hA hD hi hC hR hP hS hl kk
    · refine sy_tableIn (tgt := 902) hx hb dL_law_33 26 h (by decide) rfl (by decide) ?_
      exact lc_26 hx hb hml hown hts hXs hbl hbA hK hA hD hi hC hR hP hS hl kk
    · refine sy_tableIn (tgt := 925) hx hb dL_law_33 27 h (by decide) rfl (by decide) ?_
      exact lc_27 hx hb hml hown hts hXs hbl hbA hK hA hD hi hC hR hP hS hl kk
    · refine sy_tableIn (tgt := 958) hx hb dL_law_33 28 h (by decide) rfl (by decide) ?_
      exact lc_28 hx hb hml hown hts hXs hbl hbA hK hA hD hi hC hR hP hS hl kk
    · refine sy_tableIn (tgt := 971) hx hb dL_law_33 29 h (by decide) rfl (by decide) ?_
      exact lc_29 hx hb hml hown hts hXs hbl hbA hK hA hD hi hC hR hP hS hl kk
    · refine sy_tableIn (tgt := 1004) hx hb dL_law_33 30 h (by decide) rfl (by decide) ?_
      exact lc_30 hx hb hml hown hts hXs hbl hbA hK hA hD hi hC hR hP hS hl kk
    · refine sy_tableIn (tgt := 1037) hx hb dL_law_33 31 h (by decide) rfl (by decide) ?_
      exact lc_31 hx hb hml hown hts hXs hbl hbA hK hA hD hi hC hR hP hS hl kk
    · refine sy_tableIn (tgt := 1060) hx hb dL_law_33 32 h (by decide) rfl (by decide) ?_
      exact lc_32 hx hb hml hown hts hXs hbl hbA hK hA hD hi hC hR hP hS hl kk
    · refine sy_tableIn (tgt := 1073) hx hb dL_law_33 33 h (by decide) rfl (by decide) ?_
      exact lc_33 hx hb hml hown hts hXs hbl hbA hK hA hD hi hC hR hP hS hl kk
    · refine sy_tableIn (tgt := 1086) hx hb dL_law_33 34 h (by decide) rfl (by decide) ?_
      exact lc_34 hx hb hml hown hts hXs hbl hbA hK hA hD hi hC hR hP hS hl kk
    · refine sy_tableIn (tgt := 1099) hx hb dL_law_33 35 h (by decide) rfl (by decide) ?_
      exact lc_35 hx hb hml hown hts hXs hbl hbA hK hA hD hi hC hR hP hS hl kk
    · refine sy_tableIn (tgt := 1132) hx hb dL_law_33 36 h (by decide) rfl (by decide) ?_
      exact lc_36 hx hb hml hown hts hXs hbl hbA hK hA hD hi hC hR hP hS hl kk
    · refine sy_tableIn (tgt := 1145) hx hb dL_law_33 37 h (by decide) rfl (by decide) ?_
      exact lc_37 hx hb hml hown hts hXs hbl hbA hK hA hD hi hC hR hP hS hl kk
    · refine sy_tableIn (tgt := 1168) hx hb dL_law_33 38 h (by decide) rfl (by decide) ?_
      exact lc_38 hx hb hml hown hts hXs hbl hbA hK hA hD hi hC hR hP hS hl kk
    · refine sy_tableIn (tgt := 1191) hx hb dL_law_33 39 h (by decide) rfl (by decide) ?_
      exact lc_39 hx hb hml hown hts hXs hbl hbA hK hA hD hi hC hR hP hS hl kk
    · refine sy_tableIn (tgt := 1204) hx hb dL_law_33 40 h (by decide) rfl (by decide) ?_
      exact lc_40 hx hb hml hown hts hXs hbl hbA hK hA hD hi hC hR hP hS hl kk
    · refine sy_tableIn (tgt := 1227) hx hb dL_law_33 41 h (by decide) rfl (by decide) ?_
      exact lc_41 hx hb hml hown hts hXs hbl hbA hK hA hD hi hC hR hP hS hl kk
    · refine sy_tableIn (tgt := 1250) hx hb dL_law_33 42 h (by decide) rfl (by decide) ?_
      exact lc_42 hx hb hml hown hts hXs hbl hbA hK hA hD hi hC hR hP hS hl kk
    · refine sy_tableIn (tgt := 1273) hx hb dL_law_33 43 h (by decide) rfl (by decide) ?_
      exact lc_43 hx hb hml hown hts hXs hbl hbA hK hA hD hi hC hR hP hS hl kk
    · refine sy_tableIn (tgt := 1306) hx hb dL_law_33 44 h (by decide) rfl (by decide) ?_
      exact lc_44 hx hb hml hown hts hXs hbl hbA hK hA hD hi hC hR hP hS hl kk
    · refine sy_tableIn (tgt := 1329) hx hb dL_law_33 45 h (by decide) rfl (by decide) ?_
      exact lc_45 hx hb hml hown hts hXs hbl hbA hK hA hD hi hC hR hP hS hl kk
    · refine sy_tableIn (tgt := 1388) hx hb dL_law_33 46 h (by decide) rfl (by decide) ?_
      exact lc_46 hx hb hml hown hts hXs hbl hbA hK hA hD hi hC hR hP hS hl kk
    · refine sy_tableIn (tgt := 1411) hx hb dL_law_33 47 h (by decide) rfl (by decide) ?_
      exact lc_47 hx hb hml hown hts hXs hbl hbA hK hA hD hi hC hR hP hS hl kk
    · refine sy_tableIn (tgt := 1434) hx hb dL_law_33 48 h (by decide) rfl (by decide) ?_
      exact lc_48 hx hb hml hown hts hXs hbl hbA hK hA hD hi hC hR hP hS hl kk
    · refine sy_tableIn (tgt := 1457) hx hb dL_law_33 49 h (by decide) rfl (by decide) ?_
      exact lc_49 hx hb hml hown hts hXs hbl hbA hK hA hD hi hC hR hP hS hl kk
    · refine sy_tableIn (tgt := 1490) hx hb dL_law_33 50 h (by decide) rfl (by decide) ?_
      exact lc_50 hx hb hml hown hts hXs hbl hbA hK hA hD hi hC hR hP hS hl kk
    · refine sy_tableIn (tgt := 1523) hx hb dL_law_33 51 h (by decide) rfl (by decide) ?_
      exact lc_51 hx hb hml hown hts hXs hbl hbA hK hA hD hi hC hR hP hS hl kk
    · refine sy_tableIn (tgt := 1546) hx hb dL_law_33 52 h (by decide) rfl (by decide) ?_
      exact lc_52 hx hb hml hown hts hXs hbl hbA hK hA hD hi hC hR hP hS hl kk
    · refine sy_tableIn (tgt := 1569) hx hb dL_law_33 53 h (by decide) rfl (by decide) ?_
      exact lc_53 hx hb hml hown hts hXs hbl hbA hK hA hD hi hC hR hP hS hl kk
theorem arr_k {s : State} {args : Array Value} {ty : FieldType} (hp : ∀ C, ty ≠ .object C) (h : (Cond.arrayClass ty).before args s = true) : ∃ cA : ClassId, ArrOfT s cA ty ∧ va_RA s cA ty := by
  obtain ⟨cA, kA, comp, h1, h2, h3⟩ := Cond.arrayClass_spec h
  refine ⟨cA, fun n z => ⟨fun k h => (by cases h), kA, h2, comp, h3⟩, ?_⟩
  cases ty with
  | object C => exact absurd rfl (hp C)
  | _ => exact h1
theorem arr_q {s : State} {args : Array Value} {C : String} (h : (Cond.arrayOver (.object C)).before args s = true) : ∃ cA : ClassId, ArrOfT s cA (.object C) ∧ va_RA s cA (.object C) := by
  obtain ⟨comp, cA, kA, h1, h2, h3, h4, h5⟩ := Cond.arrayOver_spec h
  exact ⟨cA, fun n z => ⟨fun k h => (by cases h), kA, h3, comp, h4⟩, kA, comp, h3, h4, h1, h5⟩
set_option maxHeartbeats 4000000 in
set_option maxRecDepth 100000 in
theorem xO_start {s : State} {b : Nat} (hts0 : ∀ w ∈ lw_tbl, w.before #[Value.ref b] s = true) (hgv : (Jvm.Cond.and given_1 narrow_1).before #[Value.ref b] s = true) : ∃ aK aV : Nat, xO s.heap.size aK aV s := by
  have hs := flat_of_before _ hgv
  have hnA : ∀ a : Nat, a < s.heap.size → ¬ (fun q : Nat => s.heap.size ≤ q) a := fun a h => Nat.not_le.mpr h
  have hel : ∀ j, j < 144 → (Cond.eq (.elem (Term.field (Term.string "HideReader$Tape" 45) "java/lang/String" "value" "[B") (.int (Int32.ofNat j))) (.int (sWB.getD j 0))).before #[Value.ref b] s = true := fun j hj => hs _ ((by decide +kernel : ∀ j, j < 144 → (Cond.eq (.elem (Term.field (Term.string "HideReader$Tape" 45) "java/lang/String" "value" "[B") (.int (Int32.ofNat j))) (.int (sWB.getD j 0))) ∈ _) j hj)
  obtain ⟨adK, adV, hvS, hev⟩ := vk_Sof (args := #[Value.ref b]) (s := s) (N := 1) (tm := fun _ => (Term.string "HideReader$Tape" 45)) (len := [144]) (byt := [sWB]) (A := fun q : Nat => s.heap.size ≤ q) (fun i hi => by (obtain rfl : i = 0 := by omega); decide) (fun i hi => hs _ (by decide +kernel)) (fun i hi => hs _ (by decide +kernel)) (fun i hi => hs _ (by decide +kernel)) (fun i hi => by (obtain rfl : i = 0 := by omega); exact hs _ (by decide +kernel)) (fun i hi j hj => by (obtain rfl : i = 0 := by omega); exact hel j hj) (fun i j hi hj hij => absurd (by omega : i = j) hij) hnA
  obtain ⟨h1, h2, h3, h4⟩ := hvS.1 0 (by decide)
  refine ⟨adK 0, adV 0, va_Nw.of rfl (hts0 _ (List.mem_append_right _ (tm_1 (List.mem_of_getElem? (i := 126) rfl)))), va_Nw.of rfl (hts0 _ (List.mem_append_right _ (tm_1 (List.mem_of_getElem? (i := 132) rfl)))), ⟨va_Nw.of rfl (hts0 _ (List.mem_append_right _ (tm_2 (List.mem_of_getElem? (i := 82) rfl)))), va_AO.of (hts0 _ (List.mem_append_right _ (tm_2 (List.mem_of_getElem? (i := 80) rfl))))⟩, ⟨h1, h2, h3, h4, va_Zof (hts0 _ (List.mem_append_right _ (tm_1 (List.mem_of_getElem? (i := 47) rfl)))) (hts0 _ (List.mem_append_right _ (tm_1 (List.mem_of_getElem? (i := 3) rfl)))) (va_eqi (hs _ (by decide +kernel))) hnA, va_Zqof (hts0 _ (List.mem_append_right _ (tm_1 (List.mem_of_getElem? (i := 63) rfl)))) (hts0 _ (List.mem_append_right _ (tm_1 (List.mem_of_getElem? (i := 5) rfl)))) (hs _ (by decide +kernel)) hnA⟩, vk_R.of (hts0 _ (List.mem_append_right _ (tm_1 (List.mem_of_getElem? (i := 37) rfl)))) (hev 0 (by decide))⟩
set_option maxHeartbeats 4000000 in
set_option maxRecDepth 100000 in
theorem xG_start {s : State} {b : Nat} (hts0 : ∀ w ∈ lw_tbl, w.before #[Value.ref b] s = true) (hgv : (Jvm.Cond.and given_1 narrow_1).before #[Value.ref b] s = true) : ∃ aK aV : Nat, xG s.heap.size aK aV s := by
  have hs := flat_of_before _ hgv
  have hnA : ∀ a : Nat, a < s.heap.size → ¬ (fun q : Nat => s.heap.size ≤ q) a := fun a h => Nat.not_le.mpr h
  have hel : ∀ j, j < 11 → (Cond.eq (.elem (Term.field (Term.string "HideReader$Tape" 88) "java/lang/String" "value" "[B") (.int (Int32.ofNat j))) (.int (sGB.getD j 0))).before #[Value.ref b] s = true := fun j hj => hs _ ((by decide +kernel : ∀ j, j < 11 → (Cond.eq (.elem (Term.field (Term.string "HideReader$Tape" 88) "java/lang/String" "value" "[B") (.int (Int32.ofNat j))) (.int (sGB.getD j 0))) ∈ _) j hj)
  obtain ⟨adK, adV, hvS, hev⟩ := vk_Sof (args := #[Value.ref b]) (s := s) (N := 1) (tm := fun _ => (Term.string "HideReader$Tape" 88)) (len := [11]) (byt := [sGB]) (A := fun q : Nat => s.heap.size ≤ q) (fun i hi => by (obtain rfl : i = 0 := by omega); decide) (fun i hi => hs _ (by decide +kernel)) (fun i hi => hs _ (by decide +kernel)) (fun i hi => hs _ (by decide +kernel)) (fun i hi => by (obtain rfl : i = 0 := by omega); exact hs _ (by decide +kernel)) (fun i hi j hj => by (obtain rfl : i = 0 := by omega); exact hel j hj) (fun i j hi hj hij => absurd (by omega : i = j) hij) hnA
  obtain ⟨h1, h2, h3, h4⟩ := hvS.1 0 (by decide)
  refine ⟨adK 0, adV 0, h1, h2, h3, h4, va_Zof (hts0 _ (List.mem_append_right _ (tm_1 (List.mem_of_getElem? (i := 47) rfl)))) (hts0 _ (List.mem_append_right _ (tm_1 (List.mem_of_getElem? (i := 3) rfl)))) (va_eqi (hs _ (by decide +kernel))) hnA, vk_R.of (hts0 _ (List.mem_append_right _ (tm_3 (List.mem_of_getElem? (i := 95) rfl)))) (hev 0 (by decide))⟩
set_option maxHeartbeats 4000000 in
set_option maxRecDepth 100000 in
theorem whole_start {p : Program} {e : Env} {s : State} {m : MethodId} {below : List Frame} {meth : Method} {c : Code} (l : Launch) {b L : Nat} {xs : Nat → Int32} (hL : L ≤ 384) (C0 : lw_At p s m meth c b L xs) : W p l e room_1 s m #[Value.ref b] below meth c s.heap [] 0 0 (lw_Z below #[Value.ref b] s) (entryFrame m ([Value.ref b] : List Value).toArray 4) := by
  obtain ⟨hx, hb, hr, hml, hown, hts0, hXs, hbl, hlocks, hgv⟩ := C0
  have hown : s.vm.findClass "HideReaderLaw" = some m.cls := hown
  have hb : c.code = cL_law := hb
  have hts : ∀ w ∈ UT, w.before #[Value.ref b] s = true := fun w h => hts0 w (ut_in h)
  obtain ⟨aK, aV, hXO⟩ := xO_start hts0 hgv
  obtain ⟨aK2, aV2, hXG⟩ := xG_start hts0 hgv
  obtain ⟨A, hAd⟩ : ∃ A : Nat → Prop, A = (fun q : Nat => s.heap.size ≤ q) := ⟨_, rfl⟩
  have hA : ∀ q : Nat, s.heap.size ≤ q → A q := by rw [hAd]; exact fun _ h => h
  have hA2 : ∀ q : Nat, A q → s.heap.size ≤ q := by rw [hAd]; exact fun _ h => h
  have hbA : ¬ A b := fun h => absurd (hA2 b h) (Nat.not_le.mpr hbl)
  obtain ⟨c0, i0, hKn0⟩ := u_known (C := RX0) (T := TX0) (N := 5) (n := 5) hts uc_0 (hts _ uw_2_162)
  obtain ⟨c1, i1, hKn1⟩ := u_known (C := RX1) (T := TX1) (N := 8) (n := 8) hts uc_1 (hts _ uw_2_131)
  obtain ⟨c2, i2, hKn2⟩ := u_known (C := RX2) (T := TX2) (N := 6) (n := 6) hts uc_2 (hts _ uw_1_131)
  obtain ⟨c3, i3, hKn3⟩ := u_known (C := RX3) (T := TX3) (N := 6) (n := 6) hts uc_3 (hts _ uw_2_74)
  obtain ⟨c4, i4, hKn4⟩ := u_known (C := RX4) (T := TX4) (N := 4) (n := 4) hts uc_4 (hts _ uw_2_24)
  obtain ⟨c5, i5, hKn5⟩ := u_known (C := RX5) (T := TX5) (N := 5) (n := 5) hts uc_5 (hts _ uw_2_81)
  obtain ⟨c6, i6, hKn6⟩ := u_known (C := RX6) (T := TX6) (N := 6) (n := 6) hts uc_6 (hts _ uw_2_49)
  obtain ⟨c7, i7, hKn7⟩ := u_known (C := RX7) (T := TX7) (N := 10) (n := 10) hts uc_7 (hts _ uw_1_32)
  obtain ⟨c8, i8, hKn8⟩ := u_known (C := RX8) (T := TX8) (N := 2) (n := 2) hts uc_8 (hts _ uw_2_11)
  obtain ⟨c9, i9, hKn9⟩ := u_known (C := RX9) (T := TX9) (N := 16) (n := 16) hts uc_9 (hts _ uw_1_125)
  obtain ⟨c10, i10, hKn10⟩ := u_known (C := RX10) (T := TX10) (N := 13) (n := 13) hts uc_10 (hts _ uw_2_184)
  obtain ⟨c11, i11, hKn11⟩ := u_known (C := RX11) (T := TX11) (N := 12) (n := 12) hts uc_11 (hts _ uw_1_24)
  obtain ⟨c12, i12, hKn12⟩ := u_known (C := RX12) (T := TX12) (N := 64) (n := 64) hts uc_12 (hts _ uw_6_199)
  obtain ⟨D, hKc⟩ : ∃ D : va_G, ∀ (k : Nat) (q : vw_C), vwCl[k]? = some q → u_Kn s q.1 q.2.1 q.2.2 (D.1 k) (D.2 k) := by
    refine ⟨(fun k => match k with | 0 => c0 | 1 => c1 | 2 => c2 | 3 => c3 | 4 => c4 | 5 => c5 | 6 => c6 | 7 => c7 | 8 => c8 | 9 => c9 | 10 => c10 | 11 => c11 | _ => c12, fun k => match k with | 0 => i0 | 1 => i1 | 2 => i2 | 3 => i3 | 4 => i4 | 5 => i5 | 6 => i6 | 7 => i7 | 8 => i8 | 9 => i9 | 10 => i10 | 11 => i11 | _ => i12), ?_⟩
    intro k q hq
    match k, hq with
    | 0, hq => cases hq; exact hKn0
    | 1, hq => cases hq; exact hKn1
    | 2, hq => cases hq; exact hKn2
    | 3, hq => cases hq; exact hKn3
    | 4, hq => cases hq; exact hKn4
    | 5, hq => cases hq; exact hKn5
    | 6, hq => cases hq; exact hKn6
    | 7, hq => cases hq; exact hKn7
    | 8, hq => cases hq; exact hKn8
    | 9, hq => cases hq; exact hKn9
    | 10, hq => cases hq; exact hKn10
    | 11, hq => cases hq; exact hKn11
    | 12, hq => cases hq; exact hKn12
    | k + 13, hq => simp [vwCl] at hq
  obtain ⟨k0, hk0⟩ := arr_k (ty := .int) (fun C h => by cases h) (hts _ uw_1_121)
  obtain ⟨k1, hk1⟩ := arr_k (ty := .byte) (fun C h => by cases h) (hts _ uw_1_122)
  obtain ⟨k2, hk2⟩ := arr_k (ty := .long) (fun C h => by cases h) (hts _ uw_1_123)
  obtain ⟨k3, hk3⟩ := arr_k (ty := .boolean) (fun C h => by cases h) (hts _ uw_2_110)
  obtain ⟨k4, hk4⟩ := arr_q (hts0 _ (List.mem_append_right _ (tm_2 (List.mem_of_getElem? (i := 80) rfl))))
  obtain ⟨k, hK⟩ : ∃ k : Nat → ClassId, va_K D vwCl (tys k) s := by
    refine ⟨fun j => match j with | 0 => k0 | 1 => k1 | 2 => k2 | 3 => k3 | _ => k4, hKc, ?_⟩
    intro j q h
    match j, h with
    | 0, h => cases h; exact hk0
    | 1, h => cases h; exact hk1
    | 2, h => cases h; exact hk2
    | 3, h => cases h; exact hk3
    | 4, h => cases h; exact hk4
    | j + 5, h => simp [tys] at h
  have hS : va_S A s.heap s.heap [] := va_S.rf
  have hP : va_P D vwCl [] s.heap := fun k q h => by simp at h
  have hD : va_D A [] := ⟨fun i j p q h => by simp at h, fun k q h => by simp at h⟩
  have hl := lv_entry ([.ref b]) (n := 4) (Nat.le_of_ble_eq_true rfl)
  rw [lg_entry_eq]
  generalize (lg_sl ([.ref b]) ++ List.replicate (4 - (lg_sl ([.ref b])).length) Slot.unset).toArray = ls at hl ⊢
  have hl : lv_has ls 4 [(0, .ref b)] := hl
  refine va_new (ci := 11) (fs := [.null, .null, .null, .null, .null, .null, .null, .null, .null, .null, .null, .int 0]) (C := RX11) (T := TX11) (N := 12) hx hb hts uc_11 tyX11 tyX11_ok hown (hts _ uw_1_23) (hts _ uw_1_24) (hts _ uw_1_1) hK hP hD hS hA rfl df_11 (Nat.le_of_ble_eq_true rfl) (Nat.le_of_ble_eq_true rfl) dL_law_0 (fun q_1 H hP hD hS => ?_)
  have hP : va_P D vwCl [(q_1, .inr (11, [.null, .null, .null, .null, .null, .null, .null, .null, .null, .null, .null, .int 0]))] H := hP
  have hD : va_D A [(q_1, .inr (11, [.null, .null, .null, .null, .null, .null, .null, .null, .null, .null, .null, .int 0]))] := hD
  refine W.widen (k := 1) (n := 12) (Nat.le_of_ble_eq_true rfl) (Nat.le_of_ble_eq_true rfl) ?_
  refine lv_dup hx hb dL_law_3 rfl ?_
  refine zm_v (wr := []) hP hD hS hA [0] [] (zm_I (own := "HideReaderLaw") (As := []) (rest := [.ref q_1]) (ws := [(q_1, .inr (11, [.null, .null, .null, .null, .null, .null, .null, .null, .null, .null, .null, .int 0]))]) hx hb hml hown hts hK xO_stb (fun U hU hW => xO_to (fun a h1 h2 => by rw [hU]; exact hS.2.1 a h1 (fun h3 => h2 (hA2 a h3))) hW hXO) (d_X11_init l D k q_1 s.heap.size aK aV (hA2 _ (hD.2 0 _ rfl))) ck_X11_init ii_X11_init uw_1_25 hP hD [0] rfl (by decide) rfl hl.1 rfl (Nat.le_of_ble_eq_true rfl) dL_law_4 ⟨Nat.le_of_ble_eq_true rfl, Nat.le_of_ble_eq_true rfl⟩ ⟨Nat.le_of_ble_eq_true rfl, Nat.le_of_ble_eq_true rfl⟩) rfl rfl (by decide) (by decide) (fun u_2 H locs hu_2 hP hD hS => ?_)
  obtain ⟨a, q, nm, F1, F2⟩ := u_2
  obtain ⟨ea, bF1, bF2⟩ := hu_2
  have ea : a 0 = q_1 := ea
  have bF1 : bd 0 4095 F1 := bF1
  have bF2 : bd 0 4095 F2 := bF2
  have hPn := hP
  have hDn := hD
  subst ea
  obtain ⟨wc, hwc⟩ : ∃ wc : va_W, wc = cW k a q 0 0 0 202 0 0 0 (-1) 1 0 0 0 0 0 0 0 0 0 1 0 0 0 0 0 0 0 0 0 1 0 (-1) 0 0 0 0 0 0 0 (fun _ => 0) (fun _ => 0) (fun _ => 0) (fun _ => 0) (fun _ => 0) (fun _ => 0) (fun _ => 0) (fun _ => 0) (fun _ => 0) (fun _ => 0) (fun _ => 0) (fun _ => 0) (fun _ => 0) (fun _ => 0) (fun _ => 0) (fun _ => 0) (fun _ => 0) (fun _ => 0) F1 F2 (fun _ => 0) (fun _ => 0) (fun _ => 0) (fun _ => 0) (fun _ => 0) (fun _ => 0) (fun _ => 0) (fun _ => 0) (fun _ => 0) (fun _ => 0) (fun _ => 0) (fun _ => 0) (fun _ => 0) (fun _ => 0) (fun _ => 0) (fun _ => 0) (fun _ => 0) (fun _ => 0) (fun _ => 0) (fun _ => 0) (fun _ => 0) (fun _ => 0) nm (fun _ => 0) (fun _ => 0) (fun _ => 0) (fun _ => 0) (fun _ => 0) (fun _ => 0) (fun _ _ => 0) (fun _ _ => 0) (fun _ _ => 0) [] := ⟨_, rfl⟩
  have hP : va_P D vwCl wc H := by
    rw [hwc]
    exact hPn
  have hD : va_D A wc := by
    rw [hwc]
    exact hDn
  have hC : cI k a q 0 wc := by
    rw [hwc]
    exact ⟨(fun n => ([0, 0, 0, 202, 0, 0, 0, (-1), 1, 0, 0, 0, 0, 0, 0, 0, 0, 0, 1, 0, 0, 0, 0, 0, 0, 0, 0, 0, 1, 0, (-1), 0, 0, 0, 0, 0, 0] : List (Int)).getD n 0), (fun n => ([0] : List (Int64)).getD n 0), (fun n => ([(fun _ => 0), (fun _ => 0), (fun _ => 0), (fun _ => 0), (fun _ => 0), (fun _ => 0), (fun _ => 0), (fun _ => 0), (fun _ => 0), (fun _ => 0), (fun _ => 0), (fun _ => 0), (fun _ => 0), (fun _ => 0), (fun _ => 0), (fun _ => 0), (fun _ => 0), (fun _ => 0), F1, F2, (fun _ => 0), (fun _ => 0), (fun _ => 0), (fun _ => 0), (fun _ => 0), (fun _ => 0), (fun _ => 0), (fun _ => 0), (fun _ => 0), (fun _ => 0), (fun _ => 0), (fun _ => 0), (fun _ => 0), (fun _ => 0), (fun _ => 0), (fun _ => 0), (fun _ => 0), (fun _ => 0), (fun _ => 0), (fun _ => 0), (fun _ => 0), (fun _ => 0)] : List (Nat → Int)).getD n (fun _ => 0)), (fun n => ([nm, (fun _ => 0), (fun _ => 0), (fun _ => 0), (fun _ => 0), (fun _ => 0), (fun _ => 0)] : List (Nat → Int64)).getD n (fun _ => 0)), (fun n => ([(fun _ _ => 0), (fun _ _ => 0), (fun _ _ => 0)] : List (Nat → Nat → Int)).getD n (fun _ _ => 0)), (fun n => match n with | 0 => (show (0 : Int) ≤ 0 ∧ (0 : Int) ≤ 16 by decide) | 1 => (show (0 : Int) ≤ 0 ∧ (0 : Int) ≤ 1600 by decide) | 2 => (show (0 : Int) ≤ 0 ∧ (0 : Int) ≤ 1600 by decide) | 3 => (show (0 : Int) ≤ 202 ∧ (202 : Int) ≤ 255 by decide) | 4 => (show (0 : Int) ≤ 0 ∧ (0 : Int) ≤ 1600 by decide) | 5 => (show (-2147483648 : Int) ≤ 0 ∧ (0 : Int) ≤ 2147483647 by decide) | 6 => (show (0 : Int) ≤ 0 ∧ (0 : Int) ≤ 5 by decide) | 7 => (show (-1 : Int) ≤ (-1) ∧ ((-1) : Int) ≤ 1600 by decide) | 8 => (show (-2147483648 : Int) ≤ 1 ∧ (1 : Int) ≤ 2147483647 by decide) | 9 => (show (0 : Int) ≤ 0 ∧ (0 : Int) ≤ 1 by decide) | 10 => (show (-2147483648 : Int) ≤ 0 ∧ (0 : Int) ≤ 2147483647 by decide) | 11 => (show (0 : Int) ≤ 0 ∧ (0 : Int) ≤ 999 by decide) | 12 => (show (0 : Int) ≤ 0 ∧ (0 : Int) ≤ 8 by decide) | 13 => (show (0 : Int) ≤ 0 ∧ (0 : Int) ≤ 6 by decide) | 14 => (show (0 : Int) ≤ 0 ∧ (0 : Int) ≤ 8 by decide) | 15 => (show (-2147483648 : Int) ≤ 0 ∧ (0 : Int) ≤ 2147483647 by decide) | 16 => (show (0 : Int) ≤ 0 ∧ (0 : Int) ≤ 270 by decide) | 17 => (show (0 : Int) ≤ 0 ∧ (0 : Int) ≤ 30 by decide) | 18 => (show (-2147483648 : Int) ≤ 1 ∧ (1 : Int) ≤ 2147483647 by decide) | 19 => (show (0 : Int) ≤ 0 ∧ (0 : Int) ≤ 1 by decide) | 20 => (show (-2147483648 : Int) ≤ 0 ∧ (0 : Int) ≤ 2147483647 by decide) | 21 => (show (-2147483648 : Int) ≤ 0 ∧ (0 : Int) ≤ 2147483647 by decide) | 22 => (show (0 : Int) ≤ 0 ∧ (0 : Int) ≤ 8 by decide) | 23 => (show (0 : Int) ≤ 0 ∧ (0 : Int) ≤ 6 by decide) | 24 => (show (0 : Int) ≤ 0 ∧ (0 : Int) ≤ 8 by decide) | 25 => (show (-2147483648 : Int) ≤ 0 ∧ (0 : Int) ≤ 2147483647 by decide) | 26 => (show (0 : Int) ≤ 0 ∧ (0 : Int) ≤ 270 by decide) | 27 => (show (0 : Int) ≤ 0 ∧ (0 : Int) ≤ 30 by decide) | 28 => (show (1 : Int) ≤ 1 ∧ (1 : Int) ≤ 8 by decide) | 29 => (show (0 : Int) ≤ 0 ∧ (0 : Int) ≤ 6 by decide) | 30 => (show (-2147483648 : Int) ≤ (-1) ∧ ((-1) : Int) ≤ 2147483647 by decide) | 31 => (show (0 : Int) ≤ 0 ∧ (0 : Int) ≤ 40 by decide) | 32 => (show (-2147483648 : Int) ≤ 0 ∧ (0 : Int) ≤ 2147483647 by decide) | 33 => (show (-2147483648 : Int) ≤ 0 ∧ (0 : Int) ≤ 2147483647 by decide) | 34 => (show (0 : Int) ≤ 0 ∧ (0 : Int) ≤ 64 by decide) | 35 => (show (0 : Int) ≤ 0 ∧ (0 : Int) ≤ 30 by decide) | 36 => (show (0 : Int) ≤ 0 ∧ (0 : Int) ≤ 100000 by decide) | _ + 37 => trivial), (fun n => match n with | 0 => (bd_0 (by decide)) | 1 => (bd_0 (by decide)) | 2 => (bd_0 (by decide)) | 3 => (bd_0 (by decide)) | 4 => (bd_0 (by decide)) | 5 => (bd_0 (by decide)) | 6 => (bd_0 (by decide)) | 7 => (bd_0 (by decide)) | 8 => (bd_0 (by decide)) | 9 => (bd_0 (by decide)) | 10 => (bd_0 (by decide)) | 11 => (bd_0 (by decide)) | 12 => (bd_0 (by decide)) | 13 => (bd_0 (by decide)) | 14 => (bd_0 (by decide)) | 15 => (bd_0 (by decide)) | 16 => (bd_0 (by decide)) | 17 => (bd_0 (by decide)) | 18 => bF1 | 19 => bF2 | 20 => (bd_0 (by decide)) | 21 => (bd_0 (by decide)) | 22 => (bd_0 (by decide)) | 23 => (bd_0 (by decide)) | 24 => (bd_0 (by decide)) | 25 => (bd_0 (by decide)) | 26 => (bd_0 (by decide)) | 27 => (bd_0 (by decide)) | 28 => (bd_0 (by decide)) | 29 => (bd_0 (by decide)) | 30 => (bd_0 (by decide)) | 31 => (bd_0 (by decide)) | 32 => (bd_0 (by decide)) | 33 => (bd_0 (by decide)) | 34 => (bd_0 (by decide)) | 35 => (bd_0 (by decide)) | 36 => (bd_0 (by decide)) | 37 => (bd_0 (by decide)) | 38 => (bd_0 (by decide)) | 39 => (bd_0 (by decide)) | 40 => (bd_0 (by decide)) | 41 => (bd_0 (by decide)) | _ + 42 => trivial), (fun n => match n with | 0 => (fun _ => bd_0 (by decide)) | 1 => (fun _ => bd_0 (by decide)) | 2 => (fun _ => bd_0 (by decide)) | _ + 3 => trivial), ⟨fun j h => absurd (show (j : Int) < 0 from h) (by omega), fun j h => absurd (show (j : Int) < 0 from h) (by omega)⟩, (bU_0 _), (Or.inl (by decide)), rfl, rfl⟩
  clear hwc
  refine W.widen (k := 238) (n := 13687) (Nat.le_of_ble_eq_true rfl) (Nat.le_of_ble_eq_true rfl) ?_
  refine lv_astore_n (lv' := [(1, .ref (a 0)), (0, .ref b)]) hx hb dL_law_7 rfl hl (by decide) rfl (fun ls hl => ?_)
  refine va_new (ci := 12) (fs := [.null, .null, .int 0, .int 0, .int 0, .int 0, .int 0, .int 0, .int 0, .int 0, .long 0, .null, .null, .null, .null, .null, .null, .null, .null, .null, .null, .null, .null, .null, .null, .null, .null, .null, .null, .null, .null, .null, .null, .int 0, .int 0, .int 0, .int 0, .int 0, .int 0, .int 0, .int 0, .int 0, .int 0, .null, .null, .null, .int 0, .int 0, .null, .null, .int 0, .null, .null, .null, .null, .null, .null, .null, .null, .int 0, .int 0, .int 0, .null, .null]) (C := RX12) (T := TX12) (N := 64) hx hb hts uc_12 tyX12 tyX12_ok hown (hts _ uw_6_198) (hts _ uw_6_199) (hts _ uw_1_17) hK hP hD hS hA rfl df_12 (Nat.le_of_ble_eq_true rfl) (Nat.le_of_ble_eq_true rfl) dL_law_8 (fun q_3 H hP hD hS => ?_)
  refine W.widen (k := 239) (n := 13751) (Nat.le_of_ble_eq_true rfl) (Nat.le_of_ble_eq_true rfl) ?_
  refine lv_dup hx hb dL_law_11 rfl ?_
  refine zm_v (wr := wc) hP hD hS hA [wc.length] (List.range wc.length) (zm_I (own := "HideReaderLaw") (As := []) (rest := [.ref q_3]) (ws := [(q_3, .inr (12, [.null, .null, .int 0, .int 0, .int 0, .int 0, .int 0, .int 0, .int 0, .int 0, .long 0, .null, .null, .null, .null, .null, .null, .null, .null, .null, .null, .null, .null, .null, .null, .null, .null, .null, .null, .null, .null, .null, .null, .int 0, .int 0, .int 0, .int 0, .int 0, .int 0, .int 0, .int 0, .int 0, .int 0, .null, .null, .null, .int 0, .int 0, .null, .null, .int 0, .null, .null, .null, .null, .null, .null, .null, .null, .int 0, .int 0, .int 0, .null, .null]))]) hx hb hml hown hts hK noX_stb (fun _ _ _ => trivial) (c_X12_init l D k q_3) ck_X12_init ii_X12_init uw_6_200 hP hD [wc.length] (ix_C _ _) (nd_1 _) rfl hl.1 rfl (Nat.le_of_ble_eq_true rfl) dL_law_12 ⟨Nat.le_of_ble_eq_true rfl, Nat.le_of_ble_eq_true rfl⟩ ⟨Nat.le_of_ble_eq_true rfl, Nat.le_of_ble_eq_true rfl⟩) (ix_C _ _) (ix_R _ _) (nd_r _) (di_r _) (fun u_4 H locs _ hP hD hS => ?_)
  rw [show (upd (fun _ => (0 : Int32)) 0 1) = (fun j => mI (ud (fun _ => 0) 0 1 j)) from ud_m (fun _ => 0) 0 1] at hP hD
  obtain ⟨a2, ea2⟩ : ∃ a2 : Nat → Nat, a2 = (fun n => match n with | 0 => q_3 | n + 1 => u_4 n) := ⟨_, rfl⟩
  have ew : ∀ a2 : Nat → Nat, a2 = (fun n => match n with | 0 => q_3 | n + 1 => u_4 n) → va_P D vwCl (wc ++ rW k a2 0 0 0 (-1) 0 0 0 0 0 0 0 0 0 0 0 0 0 0 0 0 0 0 0 0 0 (fun _ => 0) (fun _ => 0) (ud (fun _ => 0) 0 1) (fun _ => 0) (fun _ => 0) (fun _ => 0) (fun _ => 0) (fun _ => 0) (fun _ => 0) (fun _ => 0) (fun _ => 0) (fun _ => 0) (fun _ => 0) (fun _ => 0) (fun _ => 0) (fun _ => 0) (fun _ => 0) (fun _ => 0) (fun _ => 0) (fun _ => 0) (fun _ => 0) (fun _ => 0) (fun _ => 0) (fun _ => 0) (fun _ => 0) (fun _ => 0) (fun _ => 0) (fun _ => 0) (fun _ => 0) (fun _ => 0) (fun _ => 0) (fun _ => 0) (fun _ => 0) (fun _ => 0) (fun _ => 0) (fun _ => 0) (fun _ => 0) (fun _ => 0) (fun _ => 0) []) H ∧ va_D A (wc ++ rW k a2 0 0 0 (-1) 0 0 0 0 0 0 0 0 0 0 0 0 0 0 0 0 0 0 0 0 0 (fun _ => 0) (fun _ => 0) (ud (fun _ => 0) 0 1) (fun _ => 0) (fun _ => 0) (fun _ => 0) (fun _ => 0) (fun _ => 0) (fun _ => 0) (fun _ => 0) (fun _ => 0) (fun _ => 0) (fun _ => 0) (fun _ => 0) (fun _ => 0) (fun _ => 0) (fun _ => 0) (fun _ => 0) (fun _ => 0) (fun _ => 0) (fun _ => 0) (fun _ => 0) (fun _ => 0) (fun _ => 0) (fun _ => 0) (fun _ => 0) (fun _ => 0) (fun _ => 0) (fun _ => 0) (fun _ => 0) (fun _ => 0) (fun _ => 0) (fun _ => 0) (fun _ => 0) (fun _ => 0) (fun _ => 0) (fun _ => 0) (fun _ => 0) (fun _ => 0) []) := by
    intro a2 e
    subst e
    exact ⟨hP, hD⟩
  obtain ⟨hPm, hDm⟩ := ew a2 ea2
  have e20 : a2 0 = q_3 := by rw [ea2]
  clear ew ea2
  subst e20
  obtain ⟨wr, hwr⟩ : ∃ wr : va_W, wr = rW k a2 0 0 0 (-1) 0 0 0 0 0 0 0 0 0 0 0 0 0 0 0 0 0 0 0 0 0 (fun _ => 0) (fun _ => 0) (ud (fun _ => 0) 0 1) (fun _ => 0) (fun _ => 0) (fun _ => 0) (fun _ => 0) (fun _ => 0) (fun _ => 0) (fun _ => 0) (fun _ => 0) (fun _ => 0) (fun _ => 0) (fun _ => 0) (fun _ => 0) (fun _ => 0) (fun _ => 0) (fun _ => 0) (fun _ => 0) (fun _ => 0) (fun _ => 0) (fun _ => 0) (fun _ => 0) (fun _ => 0) (fun _ => 0) (fun _ => 0) (fun _ => 0) (fun _ => 0) (fun _ => 0) (fun _ => 0) (fun _ => 0) (fun _ => 0) (fun _ => 0) (fun _ => 0) (fun _ => 0) (fun _ => 0) (fun _ => 0) (fun _ => 0) (fun _ => 0) [] := ⟨_, rfl⟩
  have hP : va_P D vwCl (wc ++ wr) H := by
    rw [hwr]
    exact hPm
  have hD : va_D A (wc ++ wr) := by
    rw [hwr]
    exact hDm
  have hR : rI k a2 0 wr := by
    rw [hwr]
    exact ⟨(fun n => ([0, 0, 0, (-1), 0, 0, 0, 0, 0, 0, 0, 0, 0, 0, 0, 0, 0, 0, 0, 0, 0, 0, 0, 0] : List (Int)).getD n 0), (fun n => ([0] : List (Int64)).getD n 0), (fun n => ([(fun _ => 0), (fun _ => 0), (ud (fun _ => 0) 0 1), (fun _ => 0), (fun _ => 0), (fun _ => 0), (fun _ => 0), (fun _ => 0), (fun _ => 0), (fun _ => 0), (fun _ => 0), (fun _ => 0), (fun _ => 0), (fun _ => 0), (fun _ => 0), (fun _ => 0), (fun _ => 0), (fun _ => 0), (fun _ => 0), (fun _ => 0), (fun _ => 0), (fun _ => 0), (fun _ => 0), (fun _ => 0), (fun _ => 0), (fun _ => 0), (fun _ => 0), (fun _ => 0), (fun _ => 0), (fun _ => 0), (fun _ => 0), (fun _ => 0), (fun _ => 0), (fun _ => 0), (fun _ => 0), (fun _ => 0)] : List (Nat → Int)).getD n (fun _ => 0)), (fun n => ([(fun _ => 0), (fun _ => 0), (fun _ => 0)] : List (Nat → Int64)).getD n (fun _ => 0)), (fun n => match n with | 0 => (show (0 : Int) ≤ 0 ∧ (0 : Int) ≤ 1600 by decide) | 1 => (show (0 : Int) ≤ 0 ∧ (0 : Int) ≤ 1600 by decide) | 2 => (show (0 : Int) ≤ 0 ∧ (0 : Int) ≤ 5 by decide) | 3 => (show (-1 : Int) ≤ (-1) ∧ ((-1) : Int) ≤ 1600 by decide) | 4 => (show (0 : Int) ≤ 0 ∧ (0 : Int) ≤ 1600 by decide) | 5 => (show (0 : Int) ≤ 0 ∧ (0 : Int) ≤ 1600 by decide) | 6 => (show (0 : Int) ≤ 0 ∧ (0 : Int) ≤ 5 by decide) | 7 => (show (-2147483648 : Int) ≤ 0 ∧ (0 : Int) ≤ 2147483647 by decide) | 8 => (show (0 : Int) ≤ 0 ∧ (0 : Int) ≤ 1 by decide) | 9 => (show (0 : Int) ≤ 0 ∧ (0 : Int) ≤ 1 by decide) | 10 => (show (0 : Int) ≤ 0 ∧ (0 : Int) ≤ 1120 by decide) | 11 => (show (0 : Int) ≤ 0 ∧ (0 : Int) ≤ 7 by decide) | 12 => (show (0 : Int) ≤ 0 ∧ (0 : Int) ≤ 90 by decide) | 13 => (show (0 : Int) ≤ 0 ∧ (0 : Int) ≤ 30 by decide) | 14 => (show (0 : Int) ≤ 0 ∧ (0 : Int) ≤ 7 by decide) | 15 => (show (-2147483648 : Int) ≤ 0 ∧ (0 : Int) ≤ 2147483647 by decide) | 16 => (show (-2147483648 : Int) ≤ 0 ∧ (0 : Int) ≤ 2147483647 by decide) | 17 => (show (-2147483648 : Int) ≤ 0 ∧ (0 : Int) ≤ 2147483647 by decide) | 18 => (show (0 : Int) ≤ 0 ∧ (0 : Int) ≤ 40 by decide) | 19 => (show (0 : Int) ≤ 0 ∧ (0 : Int) ≤ 40 by decide) | 20 => (show (0 : Int) ≤ 0 ∧ (0 : Int) ≤ 8 by decide) | 21 => (show (0 : Int) ≤ 0 ∧ (0 : Int) ≤ 30 by decide) | 22 => (show (0 : Int) ≤ 0 ∧ (0 : Int) ≤ 100000 by decide) | 23 => (show (-2147483648 : Int) ≤ 0 ∧ (0 : Int) ≤ 2147483647 by decide) | _ + 24 => trivial), (fun n => match n with | 0 => (bd_0 (by decide)) | 1 => (bd_0 (by decide)) | 2 => (ud_bd (bd_0 (by decide)) 0 (by decide)) | 3 => (bd_0 (by decide)) | 4 => (bd_0 (by decide)) | 5 => (bd_0 (by decide)) | 6 => (bd_0 (by decide)) | 7 => (bd_0 (by decide)) | 8 => (bd_0 (by decide)) | 9 => (bd_0 (by decide)) | 10 => (bd_0 (by decide)) | 11 => (bd_0 (by decide)) | 12 => (bd_0 (by decide)) | 13 => (bd_0 (by decide)) | 14 => (bd_0 (by decide)) | 15 => (bd_0 (by decide)) | 16 => (bd_0 (by decide)) | 17 => (bd_0 (by decide)) | 18 => (bd_0 (by decide)) | 19 => (bd_0 (by decide)) | 20 => (bd_0 (by decide)) | 21 => bA_0 | 22 => (bd_0 (by decide)) | 23 => bA_0 | 24 => (bd_0 (by decide)) | 25 => (bd_0 (by decide)) | 26 => (bd_0 (by decide)) | 27 => (bd_0 (by decide)) | 28 => (bd_0 (by decide)) | 29 => (bd_0 (by decide)) | 30 => (bd_0 (by decide)) | 31 => (bd_0 (by decide)) | 32 => (bd_0 (by decide)) | 33 => (bd_0 (by decide)) | 34 => bA_0 | 35 => (bd_0 (by decide)) | _ + 36 => trivial), (by decide), (fun h => absurd (show bitB 0 0 = true from h) (by decide)), ⟨by decide, by decide⟩, rfl, rfl⟩
  clear hwr
  refine W.widen (k := 278) (n := 29046) (Nat.le_of_ble_eq_true rfl) (Nat.le_of_ble_eq_true rfl) ?_
  refine lv_astore_n (lv' := [(2, .ref (a2 0)), (1, .ref (a 0)), (0, .ref b)]) hx hb dL_law_15 rfl hl (by decide) rfl (fun ls hl => ?_)
  refine lv_iconst (v := mI 0) hx hb dL_law_16 rfl ?_
  refine lv_istore_n (lv' := [(3, .int (mI 0)), (2, .ref (a2 0)), (1, .ref (a 0)), (0, .ref b)]) hx hb dL_law_17 rfl hl (by decide) rfl (fun ls hl => ?_)
  have hl : lv_has ls 4 [(0, .ref b), (1, .ref (a 0)), (2, .ref (a2 0)), (3, .int (mI 0))] := lv_sub hl [3, 2, 1, 0] rfl
  have hDw : wD A (cAd a q [] ++ rAd a2 []) := wD_of hD (by rw [List.map_append, cI_map hC, rI_map hR])
  have hXA : ∀ {H : Heap} {locs : List Loc}, va_S A s.heap H locs → ∀ U : State, U.heap = H → s.WarmedH U.vm → xG s.heap.size aK2 aV2 U := fun hS U hU hW => xG_to (fun a h1 h2 => by rw [hU]; exact hS.2.1 a h1 (fun h3 => h2 (hA2 a h3))) hW hXG
  exact law_loop hx hb hr hml hown hts hXs hbl hbA hlocks hK hA hA2 hDw hXA hL hC hR hP hS hl
