/-! ===== the cases of the law ===== -/
theorem cI_map {k : Nat → ClassId} {a q : Nat → Nat} {t : Int} {w : va_W} (h : cI k a q t w) : w.map Prod.fst = cAd a q [] := by
  obtain ⟨X, N, F, G, P, -, -, -, -, -, -, -, rfl⟩ := h
  exact cMap
theorem rI_map {k : Nat → ClassId} {a : Nat → Nat} {t : Int} {w : va_W} (h : rI k a t w) : w.map Prod.fst = rAd a [] := by
  obtain ⟨X, N, F, G, -, -, -, -, -, -, rfl⟩ := h
  exact rMap
theorem cI_recv {D : va_G} {s : State} {H : Heap} {k : Nat → ClassId} {a q : Nat → Nat} {t : Int} {w w2 : va_W} (h : cI k a q t w) (hK : va_K D vwCl (tys k) s) (hP : va_P D vwCl (w ++ w2) H) : ∃ cell : Cell, H[a 0]? = some cell ∧ cell.vm.isStatics = false ∧ s.vm.findClass "HideReader" = some cell.cls := by
  obtain ⟨X, N, F, G, P, -, -, -, -, -, -, -, rfl⟩ := h
  rw [wc_app] at hP
  exact cv_xo hK hP
theorem rI_recv {D : va_G} {s : State} {H : Heap} {k : Nat → ClassId} {a : Nat → Nat} {t : Int} {w w2 : va_W} (h : rI k a t w) (hK : va_K D vwCl (tys k) s) (hP : va_P D vwCl (w ++ w2) H) : ∃ cell : Cell, H[a 0]? = some cell ∧ cell.vm.isStatics = false ∧ s.vm.findClass "HideReaderModel" = some cell.cls := by
  obtain ⟨X, N, F, G, -, -, -, -, -, -, rfl⟩ := h
  rw [wr_app] at hP
  exact rv_o hK hP
theorem cI_t {k : Nat → ClassId} {a q : Nat → Nat} {t : Int} {w : va_W} (h : cI k a q t w) : 0 ≤ t ∧ t ≤ 100000 := by
  obtain ⟨X, N, F, G, P, hX, -, -, -, -, -, ht, -⟩ := h
  have h9 : 0 ≤ X 36 ∧ X 36 ≤ 100000 := hX 36
  omega
theorem dCR {A : Nat → Prop} {k : Nat → ClassId} {a q a2 : Nat → Nat} {t t2 : Int} {wc wr : va_W} (hD : wD A (cAd a q [] ++ rAd a2 [])) (hC : cI k a q t wc) (hR : rI k a2 t2 wr) : va_D A (wc ++ wr) := wD_to hD (by rw [List.map_append, cI_map hC, rI_map hR])
theorem dRC {A : Nat → Prop} {k : Nat → ClassId} {a q a2 : Nat → Nat} {t t2 : Int} {wc wr : va_W} (hD : wD A (cAd a q [] ++ rAd a2 [])) (hC : cI k a q t wc) (hR : rI k a2 t2 wr) : va_D A (wr ++ wc) := pm_D List.perm_append_comm (dCR hD hC hR)
theorem pCR {D : va_G} {X Y : va_W} {H : Heap} (h : va_P D vwCl (X ++ Y) H) : va_P D vwCl (Y ++ X) H := pm_P List.perm_append_comm h
set_option maxHeartbeats 4000000 in
set_option maxRecDepth 100000 in
theorem lc_0 {p : Program} {l : Launch} {e : Env} {s : State} {m : MethodId} {below : List Frame} {meth : Method} {c : Code} {D : va_G} {k : Nat → ClassId} {A : Nat → Prop} {b L : Nat} {xs : Nat → Int32} {a q a2 : Nat → Nat} {Q : State → Prop} {i t : Int} {wc wr : va_W} {H : Heap} {locs : List Loc} {ls : Array Slot} (hx : p.tables.exec = Jvm.exec) (hb : c.code = cL_law) (hml : c.maxLocals = 4) (hown : s.vm.findClass "HideReaderLaw" = some m.cls) (hts : ∀ w ∈ UT, w.before #[Value.ref b] s = true) (hXs : va_X b L xs s s.heap) (hbl : b < s.heap.size) (hbA : ¬ A b) (hK : va_K D vwCl (tys k) s) (hA : ∀ q : Nat, s.heap.size ≤ q → A q) (hD : wD A (cAd a q [] ++ rAd a2 [])) (hi : 0 ≤ i ∧ i + 6 ≤ (L : Int) ∧ L ≤ 384) (hC : cI k a q t wc) (hR : rI k a2 t wr) (hP : va_P D vwCl (wc ++ wr) H) (hS : va_S A s.heap H locs) (hl : lv_has ls 4 [(0, .ref b), (1, .ref (a 0)), (2, .ref (a2 0)), (3, .int (mI i))]) (kk : ∀ (t : Int) (wc wr : va_W) (H : Heap) (locs : List Loc) (ls : Array Slot), cI k a q t wc → rI k a2 t wr → va_P D vwCl (wc ++ wr) H → va_S A s.heap H locs → lv_has ls 4 [(0, .ref b), (1, .ref (a 0)), (2, .ref (a2 0)), (3, .int (mI i))] → W p l e room_1 s m #[Value.ref b] below meth c H locs 278 29046 Q (F0 m 1592 ls [])) : W p l e room_1 s m #[Value.ref b] below meth c H locs 278 29046 Q (F0 m 264 ls []) := by
  obtain ⟨z1, ez1, hz1⟩ := mI_of (xs (mI (i + 1)).toNatClampNeg)
  obtain ⟨z2, ez2, hz2⟩ := mI_of (xs (mI (i + 2)).toNatClampNeg)
  obtain ⟨z3, ez3, hz3⟩ := mI_of (xs (mI (i + 3)).toNatClampNeg)
  obtain ⟨z4, ez4, hz4⟩ := mI_of (xs (mI (i + 4)).toNatClampNeg)
  obtain ⟨z5, ez5, hz5⟩ := mI_of (xs (mI (i + 5)).toNatClampNeg)
  refine lv_aload_n hx hb dL_law_264 rfl (lv_at hl 1 rfl) ?_
  refine lv_aload_n hx hb dL_law_265 rfl (lv_at hl 0 rfl) ?_
  refine lv_iload_n hx hb dL_law_266 rfl (lv_at hl 3 rfl) ?_
  refine lv_iconst (v := mI 1) hx hb dL_law_267 rfl ?_
  refine sy_iadd hx hb dL_law_268 (i + 1) rfl ?_
  refine va_sld hx hb hXs hbl hbA hS (mI_in (by omega) (by omega) (by omega)) dL_law_269 ?_
  refine sy_top z1 ez1 ?_
  refine lv_aload_n hx hb dL_law_270 rfl (lv_at hl 0 rfl) ?_
  refine lv_iload_n hx hb dL_law_271 rfl (lv_at hl 3 rfl) ?_
  refine lv_iconst (v := mI 2) hx hb dL_law_272 rfl ?_
  refine sy_iadd hx hb dL_law_273 (i + 2) rfl ?_
  refine va_sld hx hb hXs hbl hbA hS (mI_in (by omega) (by omega) (by omega)) dL_law_274 ?_
  refine sy_top z2 ez2 ?_
  refine lv_aload_n hx hb dL_law_275 rfl (lv_at hl 0 rfl) ?_
  refine lv_iload_n hx hb dL_law_276 rfl (lv_at hl 3 rfl) ?_
  refine lv_iconst (v := mI 3) hx hb dL_law_277 rfl ?_
  refine sy_iadd hx hb dL_law_278 (i + 3) rfl ?_
  refine va_sld hx hb hXs hbl hbA hS (mI_in (by omega) (by omega) (by omega)) dL_law_279 ?_
  refine sy_top z3 ez3 ?_
  refine lv_aload_n hx hb dL_law_280 rfl (lv_at hl 0 rfl) ?_
  refine lv_iload_n hx hb dL_law_281 rfl (lv_at hl 3 rfl) ?_
  refine lv_iconst (v := mI 4) hx hb dL_law_282 rfl ?_
  refine sy_iadd hx hb dL_law_283 (i + 4) rfl ?_
  refine va_sld hx hb hXs hbl hbA hS (mI_in (by omega) (by omega) (by omega)) dL_law_284 ?_
  refine sy_top z4 ez4 ?_
  refine lv_aload_n hx hb dL_law_285 rfl (lv_at hl 0 rfl) ?_
  refine lv_iload_n hx hb dL_law_286 rfl (lv_at hl 3 rfl) ?_
  refine lv_iconst (v := mI 5) hx hb dL_law_287 rfl ?_
  refine sy_iadd hx hb dL_law_288 (i + 5) rfl ?_
  refine va_sld hx hb hXs hbl hbA hS (mI_in (by omega) (by omega) (by omega)) dL_law_289 ?_
  refine sy_top z5 ez5 ?_
  refine g_i (dCR hD hC hR) hS hA (g_V (own := "HideReaderLaw") (As := [.int (mI z1), .int (mI z2), .int (mI z3), .int (mI z4), .int (mI z5)]) (rest := []) hx hb hml hown hts hK hP (dCR hD hC hR) (mC_feed (l := l) (D := D) (k := k) hz1 hz2 hz3 hz4 hz5 hC) ck_X11_feed iv_X11_feed uw_3_26 (cI_recv hC hK hP) rfl hl.1 rfl (Nat.le_of_ble_eq_true rfl) dL_law_290 ⟨Nat.le_of_ble_eq_true rfl, Nat.le_of_ble_eq_true rfl⟩ ⟨Nat.le_of_ble_eq_true rfl, Nat.le_of_ble_eq_true rfl⟩) (fun r1 H locs hQ hS => ?_)
  obtain ⟨wc, hC, hP⟩ := hQ
  refine lv_pop hx hb dL_law_293 rfl ?_
  refine lv_aload_n hx hb dL_law_294 rfl (lv_at hl 2 rfl) ?_
  refine lv_aload_n hx hb dL_law_295 rfl (lv_at hl 0 rfl) ?_
  refine lv_iload_n hx hb dL_law_296 rfl (lv_at hl 3 rfl) ?_
  refine lv_iconst (v := mI 1) hx hb dL_law_297 rfl ?_
  refine sy_iadd hx hb dL_law_298 (i + 1) rfl ?_
  refine va_sld hx hb hXs hbl hbA hS (mI_in (by omega) (by omega) (by omega)) dL_law_299 ?_
  refine sy_top z1 ez1 ?_
  refine lv_aload_n hx hb dL_law_300 rfl (lv_at hl 0 rfl) ?_
  refine lv_iload_n hx hb dL_law_301 rfl (lv_at hl 3 rfl) ?_
  refine lv_iconst (v := mI 2) hx hb dL_law_302 rfl ?_
  refine sy_iadd hx hb dL_law_303 (i + 2) rfl ?_
  refine va_sld hx hb hXs hbl hbA hS (mI_in (by omega) (by omega) (by omega)) dL_law_304 ?_
  refine sy_top z2 ez2 ?_
  refine lv_aload_n hx hb dL_law_305 rfl (lv_at hl 0 rfl) ?_
  refine lv_iload_n hx hb dL_law_306 rfl (lv_at hl 3 rfl) ?_
  refine lv_iconst (v := mI 3) hx hb dL_law_307 rfl ?_
  refine sy_iadd hx hb dL_law_308 (i + 3) rfl ?_
  refine va_sld hx hb hXs hbl hbA hS (mI_in (by omega) (by omega) (by omega)) dL_law_309 ?_
  refine sy_top z3 ez3 ?_
  refine lv_aload_n hx hb dL_law_310 rfl (lv_at hl 0 rfl) ?_
  refine lv_iload_n hx hb dL_law_311 rfl (lv_at hl 3 rfl) ?_
  refine lv_iconst (v := mI 4) hx hb dL_law_312 rfl ?_
  refine sy_iadd hx hb dL_law_313 (i + 4) rfl ?_
  refine va_sld hx hb hXs hbl hbA hS (mI_in (by omega) (by omega) (by omega)) dL_law_314 ?_
  refine sy_top z4 ez4 ?_
  refine lv_aload_n hx hb dL_law_315 rfl (lv_at hl 0 rfl) ?_
  refine lv_iload_n hx hb dL_law_316 rfl (lv_at hl 3 rfl) ?_
  refine lv_iconst (v := mI 5) hx hb dL_law_317 rfl ?_
  refine sy_iadd hx hb dL_law_318 (i + 5) rfl ?_
  refine va_sld hx hb hXs hbl hbA hS (mI_in (by omega) (by omega) (by omega)) dL_law_319 ?_
  refine sy_top z5 ez5 ?_
  refine g_i (dRC hD hC hR) hS hA (g_V (own := "HideReaderLaw") (As := [.int (mI z1), .int (mI z2), .int (mI z3), .int (mI z4), .int (mI z5)]) (rest := []) hx hb hml hown hts hK (pCR hP) (dRC hD hC hR) (mR_feed (l := l) (D := D) (k := k) hz1 hz2 hz3 hz4 hz5 hR) ck_X12_feed iv_X12_feed uw_9_201 (rI_recv hR hK (pCR hP)) rfl hl.1 rfl (Nat.le_of_ble_eq_true rfl) dL_law_320 ⟨Nat.le_of_ble_eq_true rfl, Nat.le_of_ble_eq_true rfl⟩ ⟨Nat.le_of_ble_eq_true rfl, Nat.le_of_ble_eq_true rfl⟩) (fun r2 H locs hQ hS => ?_)
  obtain ⟨wr, hR, hP⟩ := hQ
  have hP := pCR hP
  refine lv_pop hx hb dL_law_323 rfl ?_
  refine lv_goto (tgt := 1592) hx hb dL_law_324 (by decide) ?_
  exact kk _ _ _ _ _ _ hC hR hP hS hl
set_option maxHeartbeats 4000000 in
set_option maxRecDepth 100000 in
theorem lc_1 {p : Program} {l : Launch} {e : Env} {s : State} {m : MethodId} {below : List Frame} {meth : Method} {c : Code} {D : va_G} {k : Nat → ClassId} {A : Nat → Prop} {b L : Nat} {xs : Nat → Int32} {a q a2 : Nat → Nat} {Q : State → Prop} {i t : Int} {wc wr : va_W} {H : Heap} {locs : List Loc} {ls : Array Slot} (hx : p.tables.exec = Jvm.exec) (hb : c.code = cL_law) (hml : c.maxLocals = 4) (hown : s.vm.findClass "HideReaderLaw" = some m.cls) (hts : ∀ w ∈ UT, w.before #[Value.ref b] s = true) (hXs : va_X b L xs s s.heap) (hbl : b < s.heap.size) (hbA : ¬ A b) (hK : va_K D vwCl (tys k) s) (hA : ∀ q : Nat, s.heap.size ≤ q → A q) (hD : wD A (cAd a q [] ++ rAd a2 [])) (hi : 0 ≤ i ∧ i + 6 ≤ (L : Int) ∧ L ≤ 384) (hC : cI k a q t wc) (hR : rI k a2 t wr) (hP : va_P D vwCl (wc ++ wr) H) (hS : va_S A s.heap H locs) (hl : lv_has ls 4 [(0, .ref b), (1, .ref (a 0)), (2, .ref (a2 0)), (3, .int (mI i))]) (kk : ∀ (t : Int) (wc wr : va_W) (H : Heap) (locs : List Loc) (ls : Array Slot), cI k a q t wc → rI k a2 t wr → va_P D vwCl (wc ++ wr) H → va_S A s.heap H locs → lv_has ls 4 [(0, .ref b), (1, .ref (a 0)), (2, .ref (a2 0)), (3, .int (mI i))] → W p l e room_1 s m #[Value.ref b] below meth c H locs 278 29046 Q (F0 m 1592 ls [])) : W p l e room_1 s m #[Value.ref b] below meth c H locs 278 29046 Q (F0 m 327 ls []) := by
  obtain ⟨z1, ez1, hz1⟩ := mI_of (xs (mI (i + 1)).toNatClampNeg)
  refine lv_aload_n hx hb dL_law_327 rfl (lv_at hl 1 rfl) ?_
  refine lv_aload_n hx hb dL_law_328 rfl (lv_at hl 0 rfl) ?_
  refine lv_iload_n hx hb dL_law_329 rfl (lv_at hl 3 rfl) ?_
  refine lv_iconst (v := mI 1) hx hb dL_law_330 rfl ?_
  refine sy_iadd hx hb dL_law_331 (i + 1) rfl ?_
  refine va_sld hx hb hXs hbl hbA hS (mI_in (by omega) (by omega) (by omega)) dL_law_332 ?_
  refine sy_top z1 ez1 ?_
  refine g_i (dCR hD hC hR) hS hA (g_V (own := "HideReaderLaw") (As := [.int (mI z1)]) (rest := []) hx hb hml hown hts hK hP (dCR hD hC hR) (mC_end (l := l) (D := D) (k := k) hz1 hC) ck_X11_end iv_X11_end uw_3_38 (cI_recv hC hK hP) rfl hl.1 rfl (Nat.le_of_ble_eq_true rfl) dL_law_333 ⟨Nat.le_of_ble_eq_true rfl, Nat.le_of_ble_eq_true rfl⟩ ⟨Nat.le_of_ble_eq_true rfl, Nat.le_of_ble_eq_true rfl⟩) (fun r1 H locs hQ hS => ?_)
  obtain ⟨wc, hC, hP⟩ := hQ
  refine lv_pop hx hb dL_law_336 rfl ?_
  refine lv_aload_n hx hb dL_law_337 rfl (lv_at hl 2 rfl) ?_
  refine lv_aload_n hx hb dL_law_338 rfl (lv_at hl 0 rfl) ?_
  refine lv_iload_n hx hb dL_law_339 rfl (lv_at hl 3 rfl) ?_
  refine lv_iconst (v := mI 1) hx hb dL_law_340 rfl ?_
  refine sy_iadd hx hb dL_law_341 (i + 1) rfl ?_
  refine va_sld hx hb hXs hbl hbA hS (mI_in (by omega) (by omega) (by omega)) dL_law_342 ?_
  refine sy_top z1 ez1 ?_
  refine g_i (dRC hD hC hR) hS hA (g_V (own := "HideReaderLaw") (As := [.int (mI z1)]) (rest := []) hx hb hml hown hts hK (pCR hP) (dRC hD hC hR) (mR_end (l := l) (D := D) (k := k) hz1 hR) ck_X12_end iv_X12_end uw_9_205 (rI_recv hR hK (pCR hP)) rfl hl.1 rfl (Nat.le_of_ble_eq_true rfl) dL_law_343 ⟨Nat.le_of_ble_eq_true rfl, Nat.le_of_ble_eq_true rfl⟩ ⟨Nat.le_of_ble_eq_true rfl, Nat.le_of_ble_eq_true rfl⟩) (fun r2 H locs hQ hS => ?_)
  obtain ⟨wr, hR, hP⟩ := hQ
  have hP := pCR hP
  refine lv_pop hx hb dL_law_346 rfl ?_
  refine lv_goto (tgt := 1592) hx hb dL_law_347 (by decide) ?_
  exact kk _ _ _ _ _ _ hC hR hP hS hl
set_option maxHeartbeats 4000000 in
set_option maxRecDepth 100000 in
theorem lc_2 {p : Program} {l : Launch} {e : Env} {s : State} {m : MethodId} {below : List Frame} {meth : Method} {c : Code} {D : va_G} {k : Nat → ClassId} {A : Nat → Prop} {b L : Nat} {xs : Nat → Int32} {a q a2 : Nat → Nat} {Q : State → Prop} {i t : Int} {wc wr : va_W} {H : Heap} {locs : List Loc} {ls : Array Slot} (hx : p.tables.exec = Jvm.exec) (hb : c.code = cL_law) (hml : c.maxLocals = 4) (hown : s.vm.findClass "HideReaderLaw" = some m.cls) (hts : ∀ w ∈ UT, w.before #[Value.ref b] s = true) (hXs : va_X b L xs s s.heap) (hbl : b < s.heap.size) (hbA : ¬ A b) (hK : va_K D vwCl (tys k) s) (hA : ∀ q : Nat, s.heap.size ≤ q → A q) (hD : wD A (cAd a q [] ++ rAd a2 [])) (hi : 0 ≤ i ∧ i + 6 ≤ (L : Int) ∧ L ≤ 384) {aK aV : Nat} (hA2 : ∀ q : Nat, A q → s.heap.size ≤ q) (hXA : ∀ {H : Heap} {locs : List Loc}, va_S A s.heap H locs → ∀ U : State, U.heap = H → s.WarmedH U.vm → xG s.heap.size aK aV U) (hC : cI k a q t wc) (hR : rI k a2 t wr) (hP : va_P D vwCl (wc ++ wr) H) (hS : va_S A s.heap H locs) (hl : lv_has ls 4 [(0, .ref b), (1, .ref (a 0)), (2, .ref (a2 0)), (3, .int (mI i))]) (kk : ∀ (t : Int) (wc wr : va_W) (H : Heap) (locs : List Loc) (ls : Array Slot), cI k a q t wc → rI k a2 t wr → va_P D vwCl (wc ++ wr) H → va_S A s.heap H locs → lv_has ls 4 [(0, .ref b), (1, .ref (a 0)), (2, .ref (a2 0)), (3, .int (mI i))] → W p l e room_1 s m #[Value.ref b] below meth c H locs 278 29046 Q (F0 m 1592 ls [])) : W p l e room_1 s m #[Value.ref b] below meth c H locs 278 29046 Q (F0 m 350 ls []) := by
  have hbW : va_D A (wc ++ wr) → cI k a q t wc → ∀ x ∈ cAd a q wr, s.heap.size ≤ x := by
    intro h1 h2 x hx2
    have h3 : (wc ++ wr).map Prod.fst = cAd a q wr := by
      rw [List.map_append, cI_map h2]
      show _ = _
      unfold cAd
      simp
    rw [← h3] at hx2
    obtain ⟨y, hy, rfl⟩ := List.mem_map.mp hx2
    obtain ⟨n9, hn9⟩ := List.getElem?_of_mem hy
    exact hA2 _ (h1.2 n9 y hn9)
  refine lv_aload_n hx hb dL_law_350 rfl (lv_at hl 1 rfl) ?_
  have hbX : ∀ x ∈ cAd a q wr, s.heap.size ≤ x := hbW (dCR hD hC hR) hC
  refine g_i (dCR hD hC hR) hS hA (g_VX (own := "HideReaderLaw") (As := []) (rest := []) hx hb hml hown hts hK hP (dCR hD hC hR) (hXA hS) (mC_valley (l := l) (D := D) (k := k) (bX := s.heap.size) (aK := aK) (aV := aV) hbX  hC) ck_X11_valley iv_X11_valley uw_3_46 (cI_recv hC hK hP) rfl hl.1 rfl (Nat.le_of_ble_eq_true rfl) dL_law_351 ⟨Nat.le_of_ble_eq_true rfl, Nat.le_of_ble_eq_true rfl⟩ ⟨Nat.le_of_ble_eq_true rfl, Nat.le_of_ble_eq_true rfl⟩) (fun r1 H locs hQ hS => ?_)
  obtain ⟨wc, hC, hP⟩ := hQ
  refine lv_pop hx hb dL_law_354 rfl ?_
  refine lv_aload_n hx hb dL_law_355 rfl (lv_at hl 2 rfl) ?_
  refine g_i (dRC hD hC hR) hS hA (g_V (own := "HideReaderLaw") (As := []) (rest := []) hx hb hml hown hts hK (pCR hP) (dRC hD hC hR) (mR_valley (l := l) (D := D) (k := k)  hR) ck_X12_valley iv_X12_valley uw_7_216 (rI_recv hR hK (pCR hP)) rfl hl.1 rfl (Nat.le_of_ble_eq_true rfl) dL_law_356 ⟨Nat.le_of_ble_eq_true rfl, Nat.le_of_ble_eq_true rfl⟩ ⟨Nat.le_of_ble_eq_true rfl, Nat.le_of_ble_eq_true rfl⟩) (fun r2 H locs hQ hS => ?_)
  obtain ⟨wr, hR, hP⟩ := hQ
  have hP := pCR hP
  refine lv_pop hx hb dL_law_359 rfl ?_
  refine lv_goto (tgt := 1592) hx hb dL_law_360 (by decide) ?_
  exact kk _ _ _ _ _ _ hC hR hP hS hl
set_option maxHeartbeats 4000000 in
set_option maxRecDepth 100000 in
theorem lc_3 {p : Program} {l : Launch} {e : Env} {s : State} {m : MethodId} {below : List Frame} {meth : Method} {c : Code} {D : va_G} {k : Nat → ClassId} {A : Nat → Prop} {b L : Nat} {xs : Nat → Int32} {a q a2 : Nat → Nat} {Q : State → Prop} {i t : Int} {wc wr : va_W} {H : Heap} {locs : List Loc} {ls : Array Slot} (hx : p.tables.exec = Jvm.exec) (hb : c.code = cL_law) (hml : c.maxLocals = 4) (hown : s.vm.findClass "HideReaderLaw" = some m.cls) (hts : ∀ w ∈ UT, w.before #[Value.ref b] s = true) (hXs : va_X b L xs s s.heap) (hbl : b < s.heap.size) (hbA : ¬ A b) (hK : va_K D vwCl (tys k) s) (hA : ∀ q : Nat, s.heap.size ≤ q → A q) (hD : wD A (cAd a q [] ++ rAd a2 [])) (hi : 0 ≤ i ∧ i + 6 ≤ (L : Int) ∧ L ≤ 384) (hC : cI k a q t wc) (hR : rI k a2 t wr) (hP : va_P D vwCl (wc ++ wr) H) (hS : va_S A s.heap H locs) (hl : lv_has ls 4 [(0, .ref b), (1, .ref (a 0)), (2, .ref (a2 0)), (3, .int (mI i))]) (kk : ∀ (t : Int) (wc wr : va_W) (H : Heap) (locs : List Loc) (ls : Array Slot), cI k a q t wc → rI k a2 t wr → va_P D vwCl (wc ++ wr) H → va_S A s.heap H locs → lv_has ls 4 [(0, .ref b), (1, .ref (a 0)), (2, .ref (a2 0)), (3, .int (mI i))] → W p l e room_1 s m #[Value.ref b] below meth c H locs 278 29046 Q (F0 m 1592 ls [])) : W p l e room_1 s m #[Value.ref b] below meth c H locs 278 29046 Q (F0 m 363 ls []) := by
  obtain ⟨z1, ez1, hz1⟩ := mI_of (xs (mI (i + 1)).toNatClampNeg)
  refine lv_aload_n hx hb dL_law_363 rfl (lv_at hl 1 rfl) ?_
  refine lv_aload_n hx hb dL_law_364 rfl (lv_at hl 0 rfl) ?_
  refine lv_iload_n hx hb dL_law_365 rfl (lv_at hl 3 rfl) ?_
  refine lv_iconst (v := mI 1) hx hb dL_law_366 rfl ?_
  refine sy_iadd hx hb dL_law_367 (i + 1) rfl ?_
  refine va_sld hx hb hXs hbl hbA hS (mI_in (by omega) (by omega) (by omega)) dL_law_368 ?_
  refine sy_top z1 ez1 ?_
  refine g_i (dCR hD hC hR) hS hA (g_V (own := "HideReaderLaw") (As := [.int (mI z1)]) (rest := []) hx hb hml hown hts hK hP (dCR hD hC hR) (mC_fault (l := l) (D := D) (k := k) hz1 hC) ck_X11_fault iv_X11_fault uw_4_92 (cI_recv hC hK hP) rfl hl.1 rfl (Nat.le_of_ble_eq_true rfl) dL_law_369 ⟨Nat.le_of_ble_eq_true rfl, Nat.le_of_ble_eq_true rfl⟩ ⟨Nat.le_of_ble_eq_true rfl, Nat.le_of_ble_eq_true rfl⟩) (fun r1 H locs hQ hS => ?_)
  obtain ⟨wc, hC, hP⟩ := hQ
  refine lv_pop hx hb dL_law_372 rfl ?_
  refine lv_aload_n hx hb dL_law_373 rfl (lv_at hl 2 rfl) ?_
  refine lv_aload_n hx hb dL_law_374 rfl (lv_at hl 0 rfl) ?_
  refine lv_iload_n hx hb dL_law_375 rfl (lv_at hl 3 rfl) ?_
  refine lv_iconst (v := mI 1) hx hb dL_law_376 rfl ?_
  refine sy_iadd hx hb dL_law_377 (i + 1) rfl ?_
  refine va_sld hx hb hXs hbl hbA hS (mI_in (by omega) (by omega) (by omega)) dL_law_378 ?_
  refine sy_top z1 ez1 ?_
  refine g_i (dRC hD hC hR) hS hA (g_V (own := "HideReaderLaw") (As := [.int (mI z1)]) (rest := []) hx hb hml hown hts hK (pCR hP) (dRC hD hC hR) (mR_fault (l := l) (D := D) (k := k) hz1 hR) ck_X12_fault iv_X12_fault uw_8_114 (rI_recv hR hK (pCR hP)) rfl hl.1 rfl (Nat.le_of_ble_eq_true rfl) dL_law_379 ⟨Nat.le_of_ble_eq_true rfl, Nat.le_of_ble_eq_true rfl⟩ ⟨Nat.le_of_ble_eq_true rfl, Nat.le_of_ble_eq_true rfl⟩) (fun r2 H locs hQ hS => ?_)
  obtain ⟨wr, hR, hP⟩ := hQ
  have hP := pCR hP
  refine lv_pop hx hb dL_law_382 rfl ?_
  refine lv_goto (tgt := 1592) hx hb dL_law_383 (by decide) ?_
  exact kk _ _ _ _ _ _ hC hR hP hS hl
set_option maxHeartbeats 4000000 in
set_option maxRecDepth 100000 in
theorem lc_4 {p : Program} {l : Launch} {e : Env} {s : State} {m : MethodId} {below : List Frame} {meth : Method} {c : Code} {D : va_G} {k : Nat → ClassId} {A : Nat → Prop} {b L : Nat} {xs : Nat → Int32} {a q a2 : Nat → Nat} {Q : State → Prop} {i t : Int} {wc wr : va_W} {H : Heap} {locs : List Loc} {ls : Array Slot} (hx : p.tables.exec = Jvm.exec) (hb : c.code = cL_law) (hml : c.maxLocals = 4) (hown : s.vm.findClass "HideReaderLaw" = some m.cls) (hts : ∀ w ∈ UT, w.before #[Value.ref b] s = true) (hXs : va_X b L xs s s.heap) (hbl : b < s.heap.size) (hbA : ¬ A b) (hK : va_K D vwCl (tys k) s) (hA : ∀ q : Nat, s.heap.size ≤ q → A q) (hD : wD A (cAd a q [] ++ rAd a2 [])) (hi : 0 ≤ i ∧ i + 6 ≤ (L : Int) ∧ L ≤ 384) (hC : cI k a q t wc) (hR : rI k a2 t wr) (hP : va_P D vwCl (wc ++ wr) H) (hS : va_S A s.heap H locs) (hl : lv_has ls 4 [(0, .ref b), (1, .ref (a 0)), (2, .ref (a2 0)), (3, .int (mI i))]) (kk : ∀ (t : Int) (wc wr : va_W) (H : Heap) (locs : List Loc) (ls : Array Slot), cI k a q t wc → rI k a2 t wr → va_P D vwCl (wc ++ wr) H → va_S A s.heap H locs → lv_has ls 4 [(0, .ref b), (1, .ref (a 0)), (2, .ref (a2 0)), (3, .int (mI i))] → W p l e room_1 s m #[Value.ref b] below meth c H locs 278 29046 Q (F0 m 1592 ls [])) : W p l e room_1 s m #[Value.ref b] below meth c H locs 278 29046 Q (F0 m 386 ls []) := by
  obtain ⟨z1, ez1, hz1⟩ := mI_of (xs (mI (i + 1)).toNatClampNeg)
  refine lv_aload_n hx hb dL_law_386 rfl (lv_at hl 1 rfl) ?_
  refine lv_aload_n hx hb dL_law_387 rfl (lv_at hl 0 rfl) ?_
  refine lv_iload_n hx hb dL_law_388 rfl (lv_at hl 3 rfl) ?_
  refine lv_iconst (v := mI 1) hx hb dL_law_389 rfl ?_
  refine sy_iadd hx hb dL_law_390 (i + 1) rfl ?_
  refine va_sld hx hb hXs hbl hbA hS (mI_in (by omega) (by omega) (by omega)) dL_law_391 ?_
  refine sy_top z1 ez1 ?_
  refine g_i (dCR hD hC hR) hS hA (g_V (own := "HideReaderLaw") (As := [.int (mI z1)]) (rest := []) hx hb hml hown hts hK hP (dCR hD hC hR) (mC_brand (l := l) (D := D) (k := k) hz1 hC) ck_X11_brand iv_X11_brand uw_4_101 (cI_recv hC hK hP) rfl hl.1 rfl (Nat.le_of_ble_eq_true rfl) dL_law_392 ⟨Nat.le_of_ble_eq_true rfl, Nat.le_of_ble_eq_true rfl⟩ ⟨Nat.le_of_ble_eq_true rfl, Nat.le_of_ble_eq_true rfl⟩) (fun r1 H locs hQ hS => ?_)
  obtain ⟨wc, hC, hP⟩ := hQ
  refine lv_pop hx hb dL_law_395 rfl ?_
  refine lv_aload_n hx hb dL_law_396 rfl (lv_at hl 2 rfl) ?_
  refine lv_aload_n hx hb dL_law_397 rfl (lv_at hl 0 rfl) ?_
  refine lv_iload_n hx hb dL_law_398 rfl (lv_at hl 3 rfl) ?_
  refine lv_iconst (v := mI 1) hx hb dL_law_399 rfl ?_
  refine sy_iadd hx hb dL_law_400 (i + 1) rfl ?_
  refine va_sld hx hb hXs hbl hbA hS (mI_in (by omega) (by omega) (by omega)) dL_law_401 ?_
  refine sy_top z1 ez1 ?_
  refine g_i (dRC hD hC hR) hS hA (g_V (own := "HideReaderLaw") (As := [.int (mI z1)]) (rest := []) hx hb hml hown hts hK (pCR hP) (dRC hD hC hR) (mR_brand (l := l) (D := D) (k := k) hz1 hR) ck_X12_brand iv_X12_brand uw_8_118 (rI_recv hR hK (pCR hP)) rfl hl.1 rfl (Nat.le_of_ble_eq_true rfl) dL_law_402 ⟨Nat.le_of_ble_eq_true rfl, Nat.le_of_ble_eq_true rfl⟩ ⟨Nat.le_of_ble_eq_true rfl, Nat.le_of_ble_eq_true rfl⟩) (fun r2 H locs hQ hS => ?_)
  obtain ⟨wr, hR, hP⟩ := hQ
  have hP := pCR hP
  refine lv_pop hx hb dL_law_405 rfl ?_
  refine lv_goto (tgt := 1592) hx hb dL_law_406 (by decide) ?_
  exact kk _ _ _ _ _ _ hC hR hP hS hl
set_option maxHeartbeats 4000000 in
set_option maxRecDepth 100000 in
theorem lc_5 {p : Program} {l : Launch} {e : Env} {s : State} {m : MethodId} {below : List Frame} {meth : Method} {c : Code} {D : va_G} {k : Nat → ClassId} {A : Nat → Prop} {b L : Nat} {xs : Nat → Int32} {a q a2 : Nat → Nat} {Q : State → Prop} {i t : Int} {wc wr : va_W} {H : Heap} {locs : List Loc} {ls : Array Slot} (hx : p.tables.exec = Jvm.exec) (hb : c.code = cL_law) (hml : c.maxLocals = 4) (hown : s.vm.findClass "HideReaderLaw" = some m.cls) (hts : ∀ w ∈ UT, w.before #[Value.ref b] s = true) (hXs : va_X b L xs s s.heap) (hbl : b < s.heap.size) (hbA : ¬ A b) (hK : va_K D vwCl (tys k) s) (hA : ∀ q : Nat, s.heap.size ≤ q → A q) (hD : wD A (cAd a q [] ++ rAd a2 [])) (hi : 0 ≤ i ∧ i + 6 ≤ (L : Int) ∧ L ≤ 384) (hC : cI k a q t wc) (hR : rI k a2 t wr) (hP : va_P D vwCl (wc ++ wr) H) (hS : va_S A s.heap H locs) (hl : lv_has ls 4 [(0, .ref b), (1, .ref (a 0)), (2, .ref (a2 0)), (3, .int (mI i))]) (kk : ∀ (t : Int) (wc wr : va_W) (H : Heap) (locs : List Loc) (ls : Array Slot), cI k a q t wc → rI k a2 t wr → va_P D vwCl (wc ++ wr) H → va_S A s.heap H locs → lv_has ls 4 [(0, .ref b), (1, .ref (a 0)), (2, .ref (a2 0)), (3, .int (mI i))] → W p l e room_1 s m #[Value.ref b] below meth c H locs 278 29046 Q (F0 m 1592 ls [])) : W p l e room_1 s m #[Value.ref b] below meth c H locs 278 29046 Q (F0 m 409 ls []) := by
  obtain ⟨z1, ez1, hz1⟩ := mI_of (xs (mI (i + 1)).toNatClampNeg)
  refine lv_aload_n hx hb dL_law_409 rfl (lv_at hl 1 rfl) ?_
  refine lv_aload_n hx hb dL_law_410 rfl (lv_at hl 0 rfl) ?_
  refine lv_iload_n hx hb dL_law_411 rfl (lv_at hl 3 rfl) ?_
  refine lv_iconst (v := mI 1) hx hb dL_law_412 rfl ?_
  refine sy_iadd hx hb dL_law_413 (i + 1) rfl ?_
  refine va_sld hx hb hXs hbl hbA hS (mI_in (by omega) (by omega) (by omega)) dL_law_414 ?_
  refine sy_top z1 ez1 ?_
  refine g_i (dCR hD hC hR) hS hA (g_V (own := "HideReaderLaw") (As := [.int (mI z1)]) (rest := []) hx hb hml hown hts hK hP (dCR hD hC hR) (mC_iron (l := l) (D := D) (k := k) hz1 hC) ck_X11_iron iv_X11_iron uw_4_109 (cI_recv hC hK hP) rfl hl.1 rfl (Nat.le_of_ble_eq_true rfl) dL_law_415 ⟨Nat.le_of_ble_eq_true rfl, Nat.le_of_ble_eq_true rfl⟩ ⟨Nat.le_of_ble_eq_true rfl, Nat.le_of_ble_eq_true rfl⟩) (fun r1 H locs hQ hS => ?_)
  obtain ⟨wc, hC, hP⟩ := hQ
  refine lv_pop hx hb dL_law_418 rfl ?_
  refine lv_aload_n hx hb dL_law_419 rfl (lv_at hl 2 rfl) ?_
  refine lv_aload_n hx hb dL_law_420 rfl (lv_at hl 0 rfl) ?_
  refine lv_iload_n hx hb dL_law_421 rfl (lv_at hl 3 rfl) ?_
  refine lv_iconst (v := mI 1) hx hb dL_law_422 rfl ?_
  refine sy_iadd hx hb dL_law_423 (i + 1) rfl ?_
  refine va_sld hx hb hXs hbl hbA hS (mI_in (by omega) (by omega) (by omega)) dL_law_424 ?_
  refine sy_top z1 ez1 ?_
  refine g_i (dRC hD hC hR) hS hA (g_V (own := "HideReaderLaw") (As := [.int (mI z1)]) (rest := []) hx hb hml hown hts hK (pCR hP) (dRC hD hC hR) (mR_iron (l := l) (D := D) (k := k) hz1 hR) ck_X12_iron iv_X12_iron uw_8_133 (rI_recv hR hK (pCR hP)) rfl hl.1 rfl (Nat.le_of_ble_eq_true rfl) dL_law_425 ⟨Nat.le_of_ble_eq_true rfl, Nat.le_of_ble_eq_true rfl⟩ ⟨Nat.le_of_ble_eq_true rfl, Nat.le_of_ble_eq_true rfl⟩) (fun r2 H locs hQ hS => ?_)
  obtain ⟨wr, hR, hP⟩ := hQ
  have hP := pCR hP
  refine lv_pop hx hb dL_law_428 rfl ?_
  refine lv_goto (tgt := 1592) hx hb dL_law_429 (by decide) ?_
  exact kk _ _ _ _ _ _ hC hR hP hS hl
set_option maxHeartbeats 4000000 in
set_option maxRecDepth 100000 in
theorem lc_6 {p : Program} {l : Launch} {e : Env} {s : State} {m : MethodId} {below : List Frame} {meth : Method} {c : Code} {D : va_G} {k : Nat → ClassId} {A : Nat → Prop} {b L : Nat} {xs : Nat → Int32} {a q a2 : Nat → Nat} {Q : State → Prop} {i t : Int} {wc wr : va_W} {H : Heap} {locs : List Loc} {ls : Array Slot} (hx : p.tables.exec = Jvm.exec) (hb : c.code = cL_law) (hml : c.maxLocals = 4) (hown : s.vm.findClass "HideReaderLaw" = some m.cls) (hts : ∀ w ∈ UT, w.before #[Value.ref b] s = true) (hXs : va_X b L xs s s.heap) (hbl : b < s.heap.size) (hbA : ¬ A b) (hK : va_K D vwCl (tys k) s) (hA : ∀ q : Nat, s.heap.size ≤ q → A q) (hD : wD A (cAd a q [] ++ rAd a2 [])) (hi : 0 ≤ i ∧ i + 6 ≤ (L : Int) ∧ L ≤ 384) (hC : cI k a q t wc) (hR : rI k a2 t wr) (hP : va_P D vwCl (wc ++ wr) H) (hS : va_S A s.heap H locs) (hl : lv_has ls 4 [(0, .ref b), (1, .ref (a 0)), (2, .ref (a2 0)), (3, .int (mI i))]) (kk : ∀ (t : Int) (wc wr : va_W) (H : Heap) (locs : List Loc) (ls : Array Slot), cI k a q t wc → rI k a2 t wr → va_P D vwCl (wc ++ wr) H → va_S A s.heap H locs → lv_has ls 4 [(0, .ref b), (1, .ref (a 0)), (2, .ref (a2 0)), (3, .int (mI i))] → W p l e room_1 s m #[Value.ref b] below meth c H locs 278 29046 Q (F0 m 1592 ls [])) : W p l e room_1 s m #[Value.ref b] below meth c H locs 278 29046 Q (F0 m 432 ls []) := by
  obtain ⟨z1, ez1, hz1⟩ := mI_of (xs (mI (i + 1)).toNatClampNeg)
  obtain ⟨z2, ez2, hz2⟩ := mI_of (xs (mI (i + 2)).toNatClampNeg)
  refine lv_aload_n hx hb dL_law_432 rfl (lv_at hl 1 rfl) ?_
  refine lv_aload_n hx hb dL_law_433 rfl (lv_at hl 0 rfl) ?_
  refine lv_iload_n hx hb dL_law_434 rfl (lv_at hl 3 rfl) ?_
  refine lv_iconst (v := mI 1) hx hb dL_law_435 rfl ?_
  refine sy_iadd hx hb dL_law_436 (i + 1) rfl ?_
  refine va_sld hx hb hXs hbl hbA hS (mI_in (by omega) (by omega) (by omega)) dL_law_437 ?_
  refine sy_top z1 ez1 ?_
  refine lv_aload_n hx hb dL_law_438 rfl (lv_at hl 0 rfl) ?_
  refine lv_iload_n hx hb dL_law_439 rfl (lv_at hl 3 rfl) ?_
  refine lv_iconst (v := mI 2) hx hb dL_law_440 rfl ?_
  refine sy_iadd hx hb dL_law_441 (i + 2) rfl ?_
  refine va_sld hx hb hXs hbl hbA hS (mI_in (by omega) (by omega) (by omega)) dL_law_442 ?_
  refine sy_top z2 ez2 ?_
  refine g_i (dCR hD hC hR) hS hA (g_V (own := "HideReaderLaw") (As := [.int (mI z1), .int (mI z2)]) (rest := []) hx hb hml hown hts hK hP (dCR hD hC hR) (mC_beast (l := l) (D := D) (k := k) hz1 hz2 hC) ck_X11_beast iv_X11_beast uw_4_117 (cI_recv hC hK hP) rfl hl.1 rfl (Nat.le_of_ble_eq_true rfl) dL_law_443 ⟨Nat.le_of_ble_eq_true rfl, Nat.le_of_ble_eq_true rfl⟩ ⟨Nat.le_of_ble_eq_true rfl, Nat.le_of_ble_eq_true rfl⟩) (fun r1 H locs hQ hS => ?_)
  obtain ⟨wc, hC, hP⟩ := hQ
  refine lv_pop hx hb dL_law_446 rfl ?_
  refine lv_aload_n hx hb dL_law_447 rfl (lv_at hl 2 rfl) ?_
  refine lv_aload_n hx hb dL_law_448 rfl (lv_at hl 0 rfl) ?_
  refine lv_iload_n hx hb dL_law_449 rfl (lv_at hl 3 rfl) ?_
  refine lv_iconst (v := mI 1) hx hb dL_law_450 rfl ?_
  refine sy_iadd hx hb dL_law_451 (i + 1) rfl ?_
  refine va_sld hx hb hXs hbl hbA hS (mI_in (by omega) (by omega) (by omega)) dL_law_452 ?_
  refine sy_top z1 ez1 ?_
  refine lv_aload_n hx hb dL_law_453 rfl (lv_at hl 0 rfl) ?_
  refine lv_iload_n hx hb dL_law_454 rfl (lv_at hl 3 rfl) ?_
  refine lv_iconst (v := mI 2) hx hb dL_law_455 rfl ?_
  refine sy_iadd hx hb dL_law_456 (i + 2) rfl ?_
  refine va_sld hx hb hXs hbl hbA hS (mI_in (by omega) (by omega) (by omega)) dL_law_457 ?_
  refine sy_top z2 ez2 ?_
  refine g_i (dRC hD hC hR) hS hA (g_V (own := "HideReaderLaw") (As := [.int (mI z1), .int (mI z2)]) (rest := []) hx hb hml hown hts hK (pCR hP) (dRC hD hC hR) (mR_beast (l := l) (D := D) (k := k) hz1 hz2 hR) ck_X12_beast iv_X12_beast uw_8_141 (rI_recv hR hK (pCR hP)) rfl hl.1 rfl (Nat.le_of_ble_eq_true rfl) dL_law_458 ⟨Nat.le_of_ble_eq_true rfl, Nat.le_of_ble_eq_true rfl⟩ ⟨Nat.le_of_ble_eq_true rfl, Nat.le_of_ble_eq_true rfl⟩) (fun r2 H locs hQ hS => ?_)
  obtain ⟨wr, hR, hP⟩ := hQ
  have hP := pCR hP
  refine lv_pop hx hb dL_law_461 rfl ?_
  refine lv_goto (tgt := 1592) hx hb dL_law_462 (by decide) ?_
  exact kk _ _ _ _ _ _ hC hR hP hS hl
set_option maxHeartbeats 4000000 in
set_option maxRecDepth 100000 in
theorem lc_7 {p : Program} {l : Launch} {e : Env} {s : State} {m : MethodId} {below : List Frame} {meth : Method} {c : Code} {D : va_G} {k : Nat → ClassId} {A : Nat → Prop} {b L : Nat} {xs : Nat → Int32} {a q a2 : Nat → Nat} {Q : State → Prop} {i t : Int} {wc wr : va_W} {H : Heap} {locs : List Loc} {ls : Array Slot} (hx : p.tables.exec = Jvm.exec) (hb : c.code = cL_law) (hml : c.maxLocals = 4) (hown : s.vm.findClass "HideReaderLaw" = some m.cls) (hts : ∀ w ∈ UT, w.before #[Value.ref b] s = true) (hXs : va_X b L xs s s.heap) (hbl : b < s.heap.size) (hbA : ¬ A b) (hK : va_K D vwCl (tys k) s) (hA : ∀ q : Nat, s.heap.size ≤ q → A q) (hD : wD A (cAd a q [] ++ rAd a2 [])) (hi : 0 ≤ i ∧ i + 6 ≤ (L : Int) ∧ L ≤ 384) (hC : cI k a q t wc) (hR : rI k a2 t wr) (hP : va_P D vwCl (wc ++ wr) H) (hS : va_S A s.heap H locs) (hl : lv_has ls 4 [(0, .ref b), (1, .ref (a 0)), (2, .ref (a2 0)), (3, .int (mI i))]) (kk : ∀ (t : Int) (wc wr : va_W) (H : Heap) (locs : List Loc) (ls : Array Slot), cI k a q t wc → rI k a2 t wr → va_P D vwCl (wc ++ wr) H → va_S A s.heap H locs → lv_has ls 4 [(0, .ref b), (1, .ref (a 0)), (2, .ref (a2 0)), (3, .int (mI i))] → W p l e room_1 s m #[Value.ref b] below meth c H locs 278 29046 Q (F0 m 1592 ls [])) : W p l e room_1 s m #[Value.ref b] below meth c H locs 278 29046 Q (F0 m 465 ls []) := by
  obtain ⟨z1, ez1, hz1⟩ := mI_of (xs (mI (i + 1)).toNatClampNeg)
  obtain ⟨z2, ez2, hz2⟩ := mI_of (xs (mI (i + 2)).toNatClampNeg)
  refine lv_aload_n hx hb dL_law_465 rfl (lv_at hl 1 rfl) ?_
  refine lv_aload_n hx hb dL_law_466 rfl (lv_at hl 0 rfl) ?_
  refine lv_iload_n hx hb dL_law_467 rfl (lv_at hl 3 rfl) ?_
  refine lv_iconst (v := mI 1) hx hb dL_law_468 rfl ?_
  refine sy_iadd hx hb dL_law_469 (i + 1) rfl ?_
  refine va_sld hx hb hXs hbl hbA hS (mI_in (by omega) (by omega) (by omega)) dL_law_470 ?_
  refine sy_top z1 ez1 ?_
  refine lv_aload_n hx hb dL_law_471 rfl (lv_at hl 0 rfl) ?_
  refine lv_iload_n hx hb dL_law_472 rfl (lv_at hl 3 rfl) ?_
  refine lv_iconst (v := mI 2) hx hb dL_law_473 rfl ?_
  refine sy_iadd hx hb dL_law_474 (i + 2) rfl ?_
  refine va_sld hx hb hXs hbl hbA hS (mI_in (by omega) (by omega) (by omega)) dL_law_475 ?_
  refine sy_top z2 ez2 ?_
  refine g_i (dCR hD hC hR) hS hA (g_V (own := "HideReaderLaw") (As := [.int (mI z1), .int (mI z2)]) (rest := []) hx hb hml hown hts hK hP (dCR hD hC hR) (mC_age (l := l) (D := D) (k := k) hz1 hz2 hC) ck_X11_age iv_X11_age uw_4_158 (cI_recv hC hK hP) rfl hl.1 rfl (Nat.le_of_ble_eq_true rfl) dL_law_476 ⟨Nat.le_of_ble_eq_true rfl, Nat.le_of_ble_eq_true rfl⟩ ⟨Nat.le_of_ble_eq_true rfl, Nat.le_of_ble_eq_true rfl⟩) (fun r1 H locs hQ hS => ?_)
  obtain ⟨wc, hC, hP⟩ := hQ
  refine lv_pop hx hb dL_law_479 rfl ?_
  refine lv_aload_n hx hb dL_law_480 rfl (lv_at hl 2 rfl) ?_
  refine lv_aload_n hx hb dL_law_481 rfl (lv_at hl 0 rfl) ?_
  refine lv_iload_n hx hb dL_law_482 rfl (lv_at hl 3 rfl) ?_
  refine lv_iconst (v := mI 1) hx hb dL_law_483 rfl ?_
  refine sy_iadd hx hb dL_law_484 (i + 1) rfl ?_
  refine va_sld hx hb hXs hbl hbA hS (mI_in (by omega) (by omega) (by omega)) dL_law_485 ?_
  refine sy_top z1 ez1 ?_
  refine lv_aload_n hx hb dL_law_486 rfl (lv_at hl 0 rfl) ?_
  refine lv_iload_n hx hb dL_law_487 rfl (lv_at hl 3 rfl) ?_
  refine lv_iconst (v := mI 2) hx hb dL_law_488 rfl ?_
  refine sy_iadd hx hb dL_law_489 (i + 2) rfl ?_
  refine va_sld hx hb hXs hbl hbA hS (mI_in (by omega) (by omega) (by omega)) dL_law_490 ?_
  refine sy_top z2 ez2 ?_
  refine g_i (dRC hD hC hR) hS hA (g_V (own := "HideReaderLaw") (As := [.int (mI z1), .int (mI z2)]) (rest := []) hx hb hml hown hts hK (pCR hP) (dRC hD hC hR) (mR_age (l := l) (D := D) (k := k) hz1 hz2 hR) ck_X12_age iv_X12_age uw_8_171 (rI_recv hR hK (pCR hP)) rfl hl.1 rfl (Nat.le_of_ble_eq_true rfl) dL_law_491 ⟨Nat.le_of_ble_eq_true rfl, Nat.le_of_ble_eq_true rfl⟩ ⟨Nat.le_of_ble_eq_true rfl, Nat.le_of_ble_eq_true rfl⟩) (fun r2 H locs hQ hS => ?_)
  obtain ⟨wr, hR, hP⟩ := hQ
  have hP := pCR hP
  refine lv_pop hx hb dL_law_494 rfl ?_
  refine lv_goto (tgt := 1592) hx hb dL_law_495 (by decide) ?_
  exact kk _ _ _ _ _ _ hC hR hP hS hl
set_option maxHeartbeats 4000000 in
set_option maxRecDepth 100000 in
theorem lc_8 {p : Program} {l : Launch} {e : Env} {s : State} {m : MethodId} {below : List Frame} {meth : Method} {c : Code} {D : va_G} {k : Nat → ClassId} {A : Nat → Prop} {b L : Nat} {xs : Nat → Int32} {a q a2 : Nat → Nat} {Q : State → Prop} {i t : Int} {wc wr : va_W} {H : Heap} {locs : List Loc} {ls : Array Slot} (hx : p.tables.exec = Jvm.exec) (hb : c.code = cL_law) (hml : c.maxLocals = 4) (hown : s.vm.findClass "HideReaderLaw" = some m.cls) (hts : ∀ w ∈ UT, w.before #[Value.ref b] s = true) (hXs : va_X b L xs s s.heap) (hbl : b < s.heap.size) (hbA : ¬ A b) (hK : va_K D vwCl (tys k) s) (hA : ∀ q : Nat, s.heap.size ≤ q → A q) (hD : wD A (cAd a q [] ++ rAd a2 [])) (hi : 0 ≤ i ∧ i + 6 ≤ (L : Int) ∧ L ≤ 384) (hC : cI k a q t wc) (hR : rI k a2 t wr) (hP : va_P D vwCl (wc ++ wr) H) (hS : va_S A s.heap H locs) (hl : lv_has ls 4 [(0, .ref b), (1, .ref (a 0)), (2, .ref (a2 0)), (3, .int (mI i))]) (kk : ∀ (t : Int) (wc wr : va_W) (H : Heap) (locs : List Loc) (ls : Array Slot), cI k a q t wc → rI k a2 t wr → va_P D vwCl (wc ++ wr) H → va_S A s.heap H locs → lv_has ls 4 [(0, .ref b), (1, .ref (a 0)), (2, .ref (a2 0)), (3, .int (mI i))] → W p l e room_1 s m #[Value.ref b] below meth c H locs 278 29046 Q (F0 m 1592 ls [])) : W p l e room_1 s m #[Value.ref b] below meth c H locs 278 29046 Q (F0 m 498 ls []) := by
  obtain ⟨z1, ez1, hz1⟩ := mI_of (xs (mI (i + 1)).toNatClampNeg)
  obtain ⟨z2, ez2, hz2⟩ := mI_of (xs (mI (i + 2)).toNatClampNeg)
  refine lv_aload_n hx hb dL_law_498 rfl (lv_at hl 1 rfl) ?_
  refine lv_aload_n hx hb dL_law_499 rfl (lv_at hl 0 rfl) ?_
  refine lv_iload_n hx hb dL_law_500 rfl (lv_at hl 3 rfl) ?_
  refine lv_iconst (v := mI 1) hx hb dL_law_501 rfl ?_
  refine sy_iadd hx hb dL_law_502 (i + 1) rfl ?_
  refine va_sld hx hb hXs hbl hbA hS (mI_in (by omega) (by omega) (by omega)) dL_law_503 ?_
  refine sy_top z1 ez1 ?_
  refine lv_aload_n hx hb dL_law_504 rfl (lv_at hl 0 rfl) ?_
  refine lv_iload_n hx hb dL_law_505 rfl (lv_at hl 3 rfl) ?_
  refine lv_iconst (v := mI 2) hx hb dL_law_506 rfl ?_
  refine sy_iadd hx hb dL_law_507 (i + 2) rfl ?_
  refine va_sld hx hb hXs hbl hbA hS (mI_in (by omega) (by omega) (by omega)) dL_law_508 ?_
  refine sy_top z2 ez2 ?_
  refine g_i (dCR hD hC hR) hS hA (g_V (own := "HideReaderLaw") (As := [.int (mI z1), .int (mI z2)]) (rest := []) hx hb hml hown hts hK hP (dCR hD hC hR) (mC_placed (l := l) (D := D) (k := k) hz1 hz2 hC) ck_X11_placed iv_X11_placed uw_4_166 (cI_recv hC hK hP) rfl hl.1 rfl (Nat.le_of_ble_eq_true rfl) dL_law_509 ⟨Nat.le_of_ble_eq_true rfl, Nat.le_of_ble_eq_true rfl⟩ ⟨Nat.le_of_ble_eq_true rfl, Nat.le_of_ble_eq_true rfl⟩) (fun r1 H locs hQ hS => ?_)
  obtain ⟨wc, hC, hP⟩ := hQ
  refine lv_pop hx hb dL_law_512 rfl ?_
  refine lv_aload_n hx hb dL_law_513 rfl (lv_at hl 2 rfl) ?_
  refine lv_aload_n hx hb dL_law_514 rfl (lv_at hl 0 rfl) ?_
  refine lv_iload_n hx hb dL_law_515 rfl (lv_at hl 3 rfl) ?_
  refine lv_iconst (v := mI 1) hx hb dL_law_516 rfl ?_
  refine sy_iadd hx hb dL_law_517 (i + 1) rfl ?_
  refine va_sld hx hb hXs hbl hbA hS (mI_in (by omega) (by omega) (by omega)) dL_law_518 ?_
  refine sy_top z1 ez1 ?_
  refine lv_aload_n hx hb dL_law_519 rfl (lv_at hl 0 rfl) ?_
  refine lv_iload_n hx hb dL_law_520 rfl (lv_at hl 3 rfl) ?_
  refine lv_iconst (v := mI 2) hx hb dL_law_521 rfl ?_
  refine sy_iadd hx hb dL_law_522 (i + 2) rfl ?_
  refine va_sld hx hb hXs hbl hbA hS (mI_in (by omega) (by omega) (by omega)) dL_law_523 ?_
  refine sy_top z2 ez2 ?_
  refine g_i (dRC hD hC hR) hS hA (g_V (own := "HideReaderLaw") (As := [.int (mI z1), .int (mI z2)]) (rest := []) hx hb hml hown hts hK (pCR hP) (dRC hD hC hR) (mR_placed (l := l) (D := D) (k := k) hz1 hz2 hR) ck_X12_placed iv_X12_placed uw_8_175 (rI_recv hR hK (pCR hP)) rfl hl.1 rfl (Nat.le_of_ble_eq_true rfl) dL_law_524 ⟨Nat.le_of_ble_eq_true rfl, Nat.le_of_ble_eq_true rfl⟩ ⟨Nat.le_of_ble_eq_true rfl, Nat.le_of_ble_eq_true rfl⟩) (fun r2 H locs hQ hS => ?_)
  obtain ⟨wr, hR, hP⟩ := hQ
  have hP := pCR hP
  refine lv_pop hx hb dL_law_527 rfl ?_
  refine lv_goto (tgt := 1592) hx hb dL_law_528 (by decide) ?_
  exact kk _ _ _ _ _ _ hC hR hP hS hl
set_option maxHeartbeats 4000000 in
set_option maxRecDepth 100000 in
theorem lc_9 {p : Program} {l : Launch} {e : Env} {s : State} {m : MethodId} {below : List Frame} {meth : Method} {c : Code} {D : va_G} {k : Nat → ClassId} {A : Nat → Prop} {b L : Nat} {xs : Nat → Int32} {a q a2 : Nat → Nat} {Q : State → Prop} {i t : Int} {wc wr : va_W} {H : Heap} {locs : List Loc} {ls : Array Slot} (hx : p.tables.exec = Jvm.exec) (hb : c.code = cL_law) (hml : c.maxLocals = 4) (hown : s.vm.findClass "HideReaderLaw" = some m.cls) (hts : ∀ w ∈ UT, w.before #[Value.ref b] s = true) (hXs : va_X b L xs s s.heap) (hbl : b < s.heap.size) (hbA : ¬ A b) (hK : va_K D vwCl (tys k) s) (hA : ∀ q : Nat, s.heap.size ≤ q → A q) (hD : wD A (cAd a q [] ++ rAd a2 [])) (hi : 0 ≤ i ∧ i + 6 ≤ (L : Int) ∧ L ≤ 384) (hC : cI k a q t wc) (hR : rI k a2 t wr) (hP : va_P D vwCl (wc ++ wr) H) (hS : va_S A s.heap H locs) (hl : lv_has ls 4 [(0, .ref b), (1, .ref (a 0)), (2, .ref (a2 0)), (3, .int (mI i))]) (kk : ∀ (t : Int) (wc wr : va_W) (H : Heap) (locs : List Loc) (ls : Array Slot), cI k a q t wc → rI k a2 t wr → va_P D vwCl (wc ++ wr) H → va_S A s.heap H locs → lv_has ls 4 [(0, .ref b), (1, .ref (a 0)), (2, .ref (a2 0)), (3, .int (mI i))] → W p l e room_1 s m #[Value.ref b] below meth c H locs 278 29046 Q (F0 m 1592 ls [])) : W p l e room_1 s m #[Value.ref b] below meth c H locs 278 29046 Q (F0 m 531 ls []) := by
  obtain ⟨z1, ez1, hz1⟩ := mI_of (xs (mI (i + 1)).toNatClampNeg)
  obtain ⟨z2, ez2, hz2⟩ := mI_of (xs (mI (i + 2)).toNatClampNeg)
  refine lv_aload_n hx hb dL_law_531 rfl (lv_at hl 1 rfl) ?_
  refine lv_aload_n hx hb dL_law_532 rfl (lv_at hl 0 rfl) ?_
  refine lv_iload_n hx hb dL_law_533 rfl (lv_at hl 3 rfl) ?_
  refine lv_iconst (v := mI 1) hx hb dL_law_534 rfl ?_
  refine sy_iadd hx hb dL_law_535 (i + 1) rfl ?_
  refine va_sld hx hb hXs hbl hbA hS (mI_in (by omega) (by omega) (by omega)) dL_law_536 ?_
  refine sy_top z1 ez1 ?_
  refine lv_aload_n hx hb dL_law_537 rfl (lv_at hl 0 rfl) ?_
  refine lv_iload_n hx hb dL_law_538 rfl (lv_at hl 3 rfl) ?_
  refine lv_iconst (v := mI 2) hx hb dL_law_539 rfl ?_
  refine sy_iadd hx hb dL_law_540 (i + 2) rfl ?_
  refine va_sld hx hb hXs hbl hbA hS (mI_in (by omega) (by omega) (by omega)) dL_law_541 ?_
  refine sy_top z2 ez2 ?_
  refine g_i (dCR hD hC hR) hS hA (g_V (own := "HideReaderLaw") (As := [.int (mI z1), .int (mI z2)]) (rest := []) hx hb hml hown hts hK hP (dCR hD hC hR) (mC_under (l := l) (D := D) (k := k) hz1 hz2 hC) ck_X11_under iv_X11_under uw_4_179 (cI_recv hC hK hP) rfl hl.1 rfl (Nat.le_of_ble_eq_true rfl) dL_law_542 ⟨Nat.le_of_ble_eq_true rfl, Nat.le_of_ble_eq_true rfl⟩ ⟨Nat.le_of_ble_eq_true rfl, Nat.le_of_ble_eq_true rfl⟩) (fun r1 H locs hQ hS => ?_)
  obtain ⟨wc, hC, hP⟩ := hQ
  refine lv_pop hx hb dL_law_545 rfl ?_
  refine lv_aload_n hx hb dL_law_546 rfl (lv_at hl 2 rfl) ?_
  refine lv_aload_n hx hb dL_law_547 rfl (lv_at hl 0 rfl) ?_
  refine lv_iload_n hx hb dL_law_548 rfl (lv_at hl 3 rfl) ?_
  refine lv_iconst (v := mI 1) hx hb dL_law_549 rfl ?_
  refine sy_iadd hx hb dL_law_550 (i + 1) rfl ?_
  refine va_sld hx hb hXs hbl hbA hS (mI_in (by omega) (by omega) (by omega)) dL_law_551 ?_
  refine sy_top z1 ez1 ?_
  refine lv_aload_n hx hb dL_law_552 rfl (lv_at hl 0 rfl) ?_
  refine lv_iload_n hx hb dL_law_553 rfl (lv_at hl 3 rfl) ?_
  refine lv_iconst (v := mI 2) hx hb dL_law_554 rfl ?_
  refine sy_iadd hx hb dL_law_555 (i + 2) rfl ?_
  refine va_sld hx hb hXs hbl hbA hS (mI_in (by omega) (by omega) (by omega)) dL_law_556 ?_
  refine sy_top z2 ez2 ?_
  refine g_i (dRC hD hC hR) hS hA (g_V (own := "HideReaderLaw") (As := [.int (mI z1), .int (mI z2)]) (rest := []) hx hb hml hown hts hK (pCR hP) (dRC hD hC hR) (mR_under (l := l) (D := D) (k := k) hz1 hz2 hR) ck_X12_under iv_X12_under uw_8_182 (rI_recv hR hK (pCR hP)) rfl hl.1 rfl (Nat.le_of_ble_eq_true rfl) dL_law_557 ⟨Nat.le_of_ble_eq_true rfl, Nat.le_of_ble_eq_true rfl⟩ ⟨Nat.le_of_ble_eq_true rfl, Nat.le_of_ble_eq_true rfl⟩) (fun r2 H locs hQ hS => ?_)
  obtain ⟨wr, hR, hP⟩ := hQ
  have hP := pCR hP
  refine lv_pop hx hb dL_law_560 rfl ?_
  refine lv_goto (tgt := 1592) hx hb dL_law_561 (by decide) ?_
  exact kk _ _ _ _ _ _ hC hR hP hS hl
set_option maxHeartbeats 4000000 in
set_option maxRecDepth 100000 in
theorem lc_10 {p : Program} {l : Launch} {e : Env} {s : State} {m : MethodId} {below : List Frame} {meth : Method} {c : Code} {D : va_G} {k : Nat → ClassId} {A : Nat → Prop} {b L : Nat} {xs : Nat → Int32} {a q a2 : Nat → Nat} {Q : State → Prop} {i t : Int} {wc wr : va_W} {H : Heap} {locs : List Loc} {ls : Array Slot} (hx : p.tables.exec = Jvm.exec) (hb : c.code = cL_law) (hml : c.maxLocals = 4) (hown : s.vm.findClass "HideReaderLaw" = some m.cls) (hts : ∀ w ∈ UT, w.before #[Value.ref b] s = true) (hXs : va_X b L xs s s.heap) (hbl : b < s.heap.size) (hbA : ¬ A b) (hK : va_K D vwCl (tys k) s) (hA : ∀ q : Nat, s.heap.size ≤ q → A q) (hD : wD A (cAd a q [] ++ rAd a2 [])) (hi : 0 ≤ i ∧ i + 6 ≤ (L : Int) ∧ L ≤ 384) (hC : cI k a q t wc) (hR : rI k a2 t wr) (hP : va_P D vwCl (wc ++ wr) H) (hS : va_S A s.heap H locs) (hl : lv_has ls 4 [(0, .ref b), (1, .ref (a 0)), (2, .ref (a2 0)), (3, .int (mI i))]) (kk : ∀ (t : Int) (wc wr : va_W) (H : Heap) (locs : List Loc) (ls : Array Slot), cI k a q t wc → rI k a2 t wr → va_P D vwCl (wc ++ wr) H → va_S A s.heap H locs → lv_has ls 4 [(0, .ref b), (1, .ref (a 0)), (2, .ref (a2 0)), (3, .int (mI i))] → W p l e room_1 s m #[Value.ref b] below meth c H locs 278 29046 Q (F0 m 1592 ls [])) : W p l e room_1 s m #[Value.ref b] below meth c H locs 278 29046 Q (F0 m 564 ls []) := by
  refine lv_aload_n hx hb dL_law_564 rfl (lv_at hl 1 rfl) ?_
  refine g_i (dCR hD hC hR) hS hA (g_V (own := "HideReaderLaw") (As := []) (rest := []) hx hb hml hown hts hK hP (dCR hD hC hR) (mC_season (l := l) (D := D) (k := k)  hC) ck_X11_season iv_X11_season uw_4_184 (cI_recv hC hK hP) rfl hl.1 rfl (Nat.le_of_ble_eq_true rfl) dL_law_565 ⟨Nat.le_of_ble_eq_true rfl, Nat.le_of_ble_eq_true rfl⟩ ⟨Nat.le_of_ble_eq_true rfl, Nat.le_of_ble_eq_true rfl⟩) (fun r1 H locs hQ hS => ?_)
  obtain ⟨wc, hC, hP⟩ := hQ
  refine lv_pop hx hb dL_law_568 rfl ?_
  refine lv_aload_n hx hb dL_law_569 rfl (lv_at hl 2 rfl) ?_
  refine g_i (dRC hD hC hR) hS hA (g_V (own := "HideReaderLaw") (As := []) (rest := []) hx hb hml hown hts hK (pCR hP) (dRC hD hC hR) (mR_season (l := l) (D := D) (k := k)  hR) ck_X12_season iv_X12_season uw_8_234 (rI_recv hR hK (pCR hP)) rfl hl.1 rfl (Nat.le_of_ble_eq_true rfl) dL_law_570 ⟨Nat.le_of_ble_eq_true rfl, Nat.le_of_ble_eq_true rfl⟩ ⟨Nat.le_of_ble_eq_true rfl, Nat.le_of_ble_eq_true rfl⟩) (fun r2 H locs hQ hS => ?_)
  obtain ⟨wr, hR, hP⟩ := hQ
  have hP := pCR hP
  refine lv_pop hx hb dL_law_573 rfl ?_
  refine lv_goto (tgt := 1592) hx hb dL_law_574 (by decide) ?_
  exact kk _ _ _ _ _ _ hC hR hP hS hl
set_option maxHeartbeats 4000000 in
set_option maxRecDepth 100000 in
theorem lc_11 {p : Program} {l : Launch} {e : Env} {s : State} {m : MethodId} {below : List Frame} {meth : Method} {c : Code} {D : va_G} {k : Nat → ClassId} {A : Nat → Prop} {b L : Nat} {xs : Nat → Int32} {a q a2 : Nat → Nat} {Q : State → Prop} {i t : Int} {wc wr : va_W} {H : Heap} {locs : List Loc} {ls : Array Slot} (hx : p.tables.exec = Jvm.exec) (hb : c.code = cL_law) (hml : c.maxLocals = 4) (hown : s.vm.findClass "HideReaderLaw" = some m.cls) (hts : ∀ w ∈ UT, w.before #[Value.ref b] s = true) (hXs : va_X b L xs s s.heap) (hbl : b < s.heap.size) (hbA : ¬ A b) (hK : va_K D vwCl (tys k) s) (hA : ∀ q : Nat, s.heap.size ≤ q → A q) (hD : wD A (cAd a q [] ++ rAd a2 [])) (hi : 0 ≤ i ∧ i + 6 ≤ (L : Int) ∧ L ≤ 384) (hC : cI k a q t wc) (hR : rI k a2 t wr) (hP : va_P D vwCl (wc ++ wr) H) (hS : va_S A s.heap H locs) (hl : lv_has ls 4 [(0, .ref b), (1, .ref (a 0)), (2, .ref (a2 0)), (3, .int (mI i))]) (kk : ∀ (t : Int) (wc wr : va_W) (H : Heap) (locs : List Loc) (ls : Array Slot), cI k a q t wc → rI k a2 t wr → va_P D vwCl (wc ++ wr) H → va_S A s.heap H locs → lv_has ls 4 [(0, .ref b), (1, .ref (a 0)), (2, .ref (a2 0)), (3, .int (mI i))] → W p l e room_1 s m #[Value.ref b] below meth c H locs 278 29046 Q (F0 m 1592 ls [])) : W p l e room_1 s m #[Value.ref b] below meth c H locs 278 29046 Q (F0 m 577 ls []) := by
  obtain ⟨z1, ez1, hz1⟩ := mI_of (xs (mI (i + 1)).toNatClampNeg)
  obtain ⟨z2, ez2, hz2⟩ := mI_of (xs (mI (i + 2)).toNatClampNeg)
  obtain ⟨z3, ez3, hz3⟩ := mI_of (xs (mI (i + 3)).toNatClampNeg)
  refine lv_aload_n hx hb dL_law_577 rfl (lv_at hl 1 rfl) ?_
  refine lv_aload_n hx hb dL_law_578 rfl (lv_at hl 0 rfl) ?_
  refine lv_iload_n hx hb dL_law_579 rfl (lv_at hl 3 rfl) ?_
  refine lv_iconst (v := mI 1) hx hb dL_law_580 rfl ?_
  refine sy_iadd hx hb dL_law_581 (i + 1) rfl ?_
  refine va_sld hx hb hXs hbl hbA hS (mI_in (by omega) (by omega) (by omega)) dL_law_582 ?_
  refine sy_top z1 ez1 ?_
  refine lv_aload_n hx hb dL_law_583 rfl (lv_at hl 0 rfl) ?_
  refine lv_iload_n hx hb dL_law_584 rfl (lv_at hl 3 rfl) ?_
  refine lv_iconst (v := mI 2) hx hb dL_law_585 rfl ?_
  refine sy_iadd hx hb dL_law_586 (i + 2) rfl ?_
  refine va_sld hx hb hXs hbl hbA hS (mI_in (by omega) (by omega) (by omega)) dL_law_587 ?_
  refine sy_top z2 ez2 ?_
  refine lv_aload_n hx hb dL_law_588 rfl (lv_at hl 0 rfl) ?_
  refine lv_iload_n hx hb dL_law_589 rfl (lv_at hl 3 rfl) ?_
  refine lv_iconst (v := mI 3) hx hb dL_law_590 rfl ?_
  refine sy_iadd hx hb dL_law_591 (i + 3) rfl ?_
  refine va_sld hx hb hXs hbl hbA hS (mI_in (by omega) (by omega) (by omega)) dL_law_592 ?_
  refine sy_top z3 ez3 ?_
  refine g_i (dCR hD hC hR) hS hA (g_V (own := "HideReaderLaw") (As := [.int (mI z1), .int (mI z2), .int (mI z3)]) (rest := []) hx hb hml hown hts hK hP (dCR hD hC hR) (mC_burn (l := l) (D := D) (k := k) hz1 hz2 hz3 hC) ck_X11_burn iv_X11_burn uw_4_212 (cI_recv hC hK hP) rfl hl.1 rfl (Nat.le_of_ble_eq_true rfl) dL_law_593 ⟨Nat.le_of_ble_eq_true rfl, Nat.le_of_ble_eq_true rfl⟩ ⟨Nat.le_of_ble_eq_true rfl, Nat.le_of_ble_eq_true rfl⟩) (fun r1 H locs hQ hS => ?_)
  obtain ⟨wc, hC, hP⟩ := hQ
  refine lv_pop hx hb dL_law_596 rfl ?_
  refine lv_aload_n hx hb dL_law_597 rfl (lv_at hl 2 rfl) ?_
  refine lv_aload_n hx hb dL_law_598 rfl (lv_at hl 0 rfl) ?_
  refine lv_iload_n hx hb dL_law_599 rfl (lv_at hl 3 rfl) ?_
  refine lv_iconst (v := mI 1) hx hb dL_law_600 rfl ?_
  refine sy_iadd hx hb dL_law_601 (i + 1) rfl ?_
  refine va_sld hx hb hXs hbl hbA hS (mI_in (by omega) (by omega) (by omega)) dL_law_602 ?_
  refine sy_top z1 ez1 ?_
  refine lv_aload_n hx hb dL_law_603 rfl (lv_at hl 0 rfl) ?_
  refine lv_iload_n hx hb dL_law_604 rfl (lv_at hl 3 rfl) ?_
  refine lv_iconst (v := mI 2) hx hb dL_law_605 rfl ?_
  refine sy_iadd hx hb dL_law_606 (i + 2) rfl ?_
  refine va_sld hx hb hXs hbl hbA hS (mI_in (by omega) (by omega) (by omega)) dL_law_607 ?_
  refine sy_top z2 ez2 ?_
  refine lv_aload_n hx hb dL_law_608 rfl (lv_at hl 0 rfl) ?_
  refine lv_iload_n hx hb dL_law_609 rfl (lv_at hl 3 rfl) ?_
  refine lv_iconst (v := mI 3) hx hb dL_law_610 rfl ?_
  refine sy_iadd hx hb dL_law_611 (i + 3) rfl ?_
  refine va_sld hx hb hXs hbl hbA hS (mI_in (by omega) (by omega) (by omega)) dL_law_612 ?_
  refine sy_top z3 ez3 ?_
  refine g_i (dRC hD hC hR) hS hA (g_V (own := "HideReaderLaw") (As := [.int (mI z1), .int (mI z2), .int (mI z3)]) (rest := []) hx hb hml hown hts hK (pCR hP) (dRC hD hC hR) (mR_burn (l := l) (D := D) (k := k) hz1 hz2 hz3 hR) ck_X12_burn iv_X12_burn uw_9_6 (rI_recv hR hK (pCR hP)) rfl hl.1 rfl (Nat.le_of_ble_eq_true rfl) dL_law_613 ⟨Nat.le_of_ble_eq_true rfl, Nat.le_of_ble_eq_true rfl⟩ ⟨Nat.le_of_ble_eq_true rfl, Nat.le_of_ble_eq_true rfl⟩) (fun r2 H locs hQ hS => ?_)
  obtain ⟨wr, hR, hP⟩ := hQ
  have hP := pCR hP
  refine lv_pop hx hb dL_law_616 rfl ?_
  refine lv_goto (tgt := 1592) hx hb dL_law_617 (by decide) ?_
  exact kk _ _ _ _ _ _ hC hR hP hS hl
set_option maxHeartbeats 4000000 in
set_option maxRecDepth 100000 in
theorem lc_12 {p : Program} {l : Launch} {e : Env} {s : State} {m : MethodId} {below : List Frame} {meth : Method} {c : Code} {D : va_G} {k : Nat → ClassId} {A : Nat → Prop} {b L : Nat} {xs : Nat → Int32} {a q a2 : Nat → Nat} {Q : State → Prop} {i t : Int} {wc wr : va_W} {H : Heap} {locs : List Loc} {ls : Array Slot} (hx : p.tables.exec = Jvm.exec) (hb : c.code = cL_law) (hml : c.maxLocals = 4) (hown : s.vm.findClass "HideReaderLaw" = some m.cls) (hts : ∀ w ∈ UT, w.before #[Value.ref b] s = true) (hXs : va_X b L xs s s.heap) (hbl : b < s.heap.size) (hbA : ¬ A b) (hK : va_K D vwCl (tys k) s) (hA : ∀ q : Nat, s.heap.size ≤ q → A q) (hD : wD A (cAd a q [] ++ rAd a2 [])) (hi : 0 ≤ i ∧ i + 6 ≤ (L : Int) ∧ L ≤ 384) (hC : cI k a q t wc) (hR : rI k a2 t wr) (hP : va_P D vwCl (wc ++ wr) H) (hS : va_S A s.heap H locs) (hl : lv_has ls 4 [(0, .ref b), (1, .ref (a 0)), (2, .ref (a2 0)), (3, .int (mI i))]) (kk : ∀ (t : Int) (wc wr : va_W) (H : Heap) (locs : List Loc) (ls : Array Slot), cI k a q t wc → rI k a2 t wr → va_P D vwCl (wc ++ wr) H → va_S A s.heap H locs → lv_has ls 4 [(0, .ref b), (1, .ref (a 0)), (2, .ref (a2 0)), (3, .int (mI i))] → W p l e room_1 s m #[Value.ref b] below meth c H locs 278 29046 Q (F0 m 1592 ls [])) : W p l e room_1 s m #[Value.ref b] below meth c H locs 278 29046 Q (F0 m 620 ls []) := by
  obtain ⟨z1, ez1, hz1⟩ := mI_of (xs (mI (i + 1)).toNatClampNeg)
  obtain ⟨z2, ez2, hz2⟩ := mI_of (xs (mI (i + 2)).toNatClampNeg)
  refine lv_aload_n hx hb dL_law_620 rfl (lv_at hl 1 rfl) ?_
  refine lv_aload_n hx hb dL_law_621 rfl (lv_at hl 0 rfl) ?_
  refine lv_iload_n hx hb dL_law_622 rfl (lv_at hl 3 rfl) ?_
  refine lv_iconst (v := mI 1) hx hb dL_law_623 rfl ?_
  refine sy_iadd hx hb dL_law_624 (i + 1) rfl ?_
  refine va_sld hx hb hXs hbl hbA hS (mI_in (by omega) (by omega) (by omega)) dL_law_625 ?_
  refine sy_top z1 ez1 ?_
  refine lv_aload_n hx hb dL_law_626 rfl (lv_at hl 0 rfl) ?_
  refine lv_iload_n hx hb dL_law_627 rfl (lv_at hl 3 rfl) ?_
  refine lv_iconst (v := mI 2) hx hb dL_law_628 rfl ?_
  refine sy_iadd hx hb dL_law_629 (i + 2) rfl ?_
  refine va_sld hx hb hXs hbl hbA hS (mI_in (by omega) (by omega) (by omega)) dL_law_630 ?_
  refine sy_top z2 ez2 ?_
  refine g_i (dCR hD hC hR) hS hA (g_V (own := "HideReaderLaw") (As := [.int (mI z1), .int (mI z2)]) (rest := []) hx hb hml hown hts hK hP (dCR hD hC hR) (mC_sell (l := l) (D := D) (k := k) hz1 hz2 hC) ck_X11_sell iv_X11_sell uw_4_221 (cI_recv hC hK hP) rfl hl.1 rfl (Nat.le_of_ble_eq_true rfl) dL_law_631 ⟨Nat.le_of_ble_eq_true rfl, Nat.le_of_ble_eq_true rfl⟩ ⟨Nat.le_of_ble_eq_true rfl, Nat.le_of_ble_eq_true rfl⟩) (fun r1 H locs hQ hS => ?_)
  obtain ⟨wc, hC, hP⟩ := hQ
  refine lv_pop hx hb dL_law_634 rfl ?_
  refine lv_aload_n hx hb dL_law_635 rfl (lv_at hl 2 rfl) ?_
  refine lv_aload_n hx hb dL_law_636 rfl (lv_at hl 0 rfl) ?_
  refine lv_iload_n hx hb dL_law_637 rfl (lv_at hl 3 rfl) ?_
  refine lv_iconst (v := mI 1) hx hb dL_law_638 rfl ?_
  refine sy_iadd hx hb dL_law_639 (i + 1) rfl ?_
  refine va_sld hx hb hXs hbl hbA hS (mI_in (by omega) (by omega) (by omega)) dL_law_640 ?_
  refine sy_top z1 ez1 ?_
  refine lv_aload_n hx hb dL_law_641 rfl (lv_at hl 0 rfl) ?_
  refine lv_iload_n hx hb dL_law_642 rfl (lv_at hl 3 rfl) ?_
  refine lv_iconst (v := mI 2) hx hb dL_law_643 rfl ?_
  refine sy_iadd hx hb dL_law_644 (i + 2) rfl ?_
  refine va_sld hx hb hXs hbl hbA hS (mI_in (by omega) (by omega) (by omega)) dL_law_645 ?_
  refine sy_top z2 ez2 ?_
  refine g_i (dRC hD hC hR) hS hA (g_V (own := "HideReaderLaw") (As := [.int (mI z1), .int (mI z2)]) (rest := []) hx hb hml hown hts hK (pCR hP) (dRC hD hC hR) (mR_sell (l := l) (D := D) (k := k) hz1 hz2 hR) ck_X12_sell iv_X12_sell uw_9_10 (rI_recv hR hK (pCR hP)) rfl hl.1 rfl (Nat.le_of_ble_eq_true rfl) dL_law_646 ⟨Nat.le_of_ble_eq_true rfl, Nat.le_of_ble_eq_true rfl⟩ ⟨Nat.le_of_ble_eq_true rfl, Nat.le_of_ble_eq_true rfl⟩) (fun r2 H locs hQ hS => ?_)
  obtain ⟨wr, hR, hP⟩ := hQ
  have hP := pCR hP
  refine lv_pop hx hb dL_law_649 rfl ?_
  refine lv_goto (tgt := 1592) hx hb dL_law_650 (by decide) ?_
  exact kk _ _ _ _ _ _ hC hR hP hS hl
set_option maxHeartbeats 4000000 in
set_option maxRecDepth 100000 in
theorem lc_13 {p : Program} {l : Launch} {e : Env} {s : State} {m : MethodId} {below : List Frame} {meth : Method} {c : Code} {D : va_G} {k : Nat → ClassId} {A : Nat → Prop} {b L : Nat} {xs : Nat → Int32} {a q a2 : Nat → Nat} {Q : State → Prop} {i t : Int} {wc wr : va_W} {H : Heap} {locs : List Loc} {ls : Array Slot} (hx : p.tables.exec = Jvm.exec) (hb : c.code = cL_law) (hml : c.maxLocals = 4) (hown : s.vm.findClass "HideReaderLaw" = some m.cls) (hts : ∀ w ∈ UT, w.before #[Value.ref b] s = true) (hXs : va_X b L xs s s.heap) (hbl : b < s.heap.size) (hbA : ¬ A b) (hK : va_K D vwCl (tys k) s) (hA : ∀ q : Nat, s.heap.size ≤ q → A q) (hD : wD A (cAd a q [] ++ rAd a2 [])) (hi : 0 ≤ i ∧ i + 6 ≤ (L : Int) ∧ L ≤ 384) (hC : cI k a q t wc) (hR : rI k a2 t wr) (hP : va_P D vwCl (wc ++ wr) H) (hS : va_S A s.heap H locs) (hl : lv_has ls 4 [(0, .ref b), (1, .ref (a 0)), (2, .ref (a2 0)), (3, .int (mI i))]) (kk : ∀ (t : Int) (wc wr : va_W) (H : Heap) (locs : List Loc) (ls : Array Slot), cI k a q t wc → rI k a2 t wr → va_P D vwCl (wc ++ wr) H → va_S A s.heap H locs → lv_has ls 4 [(0, .ref b), (1, .ref (a 0)), (2, .ref (a2 0)), (3, .int (mI i))] → W p l e room_1 s m #[Value.ref b] below meth c H locs 278 29046 Q (F0 m 1592 ls [])) : W p l e room_1 s m #[Value.ref b] below meth c H locs 278 29046 Q (F0 m 653 ls []) := by
  obtain ⟨z1, ez1, hz1⟩ := mI_of (xs (mI (i + 1)).toNatClampNeg)
  refine lv_aload_n hx hb dL_law_653 rfl (lv_at hl 1 rfl) ?_
  refine lv_aload_n hx hb dL_law_654 rfl (lv_at hl 0 rfl) ?_
  refine lv_iload_n hx hb dL_law_655 rfl (lv_at hl 3 rfl) ?_
  refine lv_iconst (v := mI 1) hx hb dL_law_656 rfl ?_
  refine sy_iadd hx hb dL_law_657 (i + 1) rfl ?_
  refine va_sld hx hb hXs hbl hbA hS (mI_in (by omega) (by omega) (by omega)) dL_law_658 ?_
  refine sy_top z1 ez1 ?_
  refine g_i (dCR hD hC hR) hS hA (g_V (own := "HideReaderLaw") (As := [.int (mI z1)]) (rest := []) hx hb hml hown hts hK hP (dCR hD hC hR) (mC_clean (l := l) (D := D) (k := k) hz1 hC) ck_X11_clean iv_X11_clean uw_4_225 (cI_recv hC hK hP) rfl hl.1 rfl (Nat.le_of_ble_eq_true rfl) dL_law_659 ⟨Nat.le_of_ble_eq_true rfl, Nat.le_of_ble_eq_true rfl⟩ ⟨Nat.le_of_ble_eq_true rfl, Nat.le_of_ble_eq_true rfl⟩) (fun r1 H locs hQ hS => ?_)
  obtain ⟨wc, hC, hP⟩ := hQ
  refine lv_pop hx hb dL_law_662 rfl ?_
  refine lv_aload_n hx hb dL_law_663 rfl (lv_at hl 2 rfl) ?_
  refine lv_aload_n hx hb dL_law_664 rfl (lv_at hl 0 rfl) ?_
  refine lv_iload_n hx hb dL_law_665 rfl (lv_at hl 3 rfl) ?_
  refine lv_iconst (v := mI 1) hx hb dL_law_666 rfl ?_
  refine sy_iadd hx hb dL_law_667 (i + 1) rfl ?_
  refine va_sld hx hb hXs hbl hbA hS (mI_in (by omega) (by omega) (by omega)) dL_law_668 ?_
  refine sy_top z1 ez1 ?_
  refine g_i (dRC hD hC hR) hS hA (g_V (own := "HideReaderLaw") (As := [.int (mI z1)]) (rest := []) hx hb hml hown hts hK (pCR hP) (dRC hD hC hR) (mR_clean (l := l) (D := D) (k := k) hz1 hR) ck_X12_clean iv_X12_clean uw_9_14 (rI_recv hR hK (pCR hP)) rfl hl.1 rfl (Nat.le_of_ble_eq_true rfl) dL_law_669 ⟨Nat.le_of_ble_eq_true rfl, Nat.le_of_ble_eq_true rfl⟩ ⟨Nat.le_of_ble_eq_true rfl, Nat.le_of_ble_eq_true rfl⟩) (fun r2 H locs hQ hS => ?_)
  obtain ⟨wr, hR, hP⟩ := hQ
  have hP := pCR hP
  refine lv_pop hx hb dL_law_672 rfl ?_
  refine lv_goto (tgt := 1592) hx hb dL_law_673 (by decide) ?_
  exact kk _ _ _ _ _ _ hC hR hP hS hl
set_option maxHeartbeats 4000000 in
set_option maxRecDepth 100000 in
theorem lc_14 {p : Program} {l : Launch} {e : Env} {s : State} {m : MethodId} {below : List Frame} {meth : Method} {c : Code} {D : va_G} {k : Nat → ClassId} {A : Nat → Prop} {b L : Nat} {xs : Nat → Int32} {a q a2 : Nat → Nat} {Q : State → Prop} {i t : Int} {wc wr : va_W} {H : Heap} {locs : List Loc} {ls : Array Slot} (hx : p.tables.exec = Jvm.exec) (hb : c.code = cL_law) (hml : c.maxLocals = 4) (hown : s.vm.findClass "HideReaderLaw" = some m.cls) (hts : ∀ w ∈ UT, w.before #[Value.ref b] s = true) (hXs : va_X b L xs s s.heap) (hbl : b < s.heap.size) (hbA : ¬ A b) (hK : va_K D vwCl (tys k) s) (hA : ∀ q : Nat, s.heap.size ≤ q → A q) (hD : wD A (cAd a q [] ++ rAd a2 [])) (hi : 0 ≤ i ∧ i + 6 ≤ (L : Int) ∧ L ≤ 384) (hC : cI k a q t wc) (hR : rI k a2 t wr) (hP : va_P D vwCl (wc ++ wr) H) (hS : va_S A s.heap H locs) (hl : lv_has ls 4 [(0, .ref b), (1, .ref (a 0)), (2, .ref (a2 0)), (3, .int (mI i))]) (kk : ∀ (t : Int) (wc wr : va_W) (H : Heap) (locs : List Loc) (ls : Array Slot), cI k a q t wc → rI k a2 t wr → va_P D vwCl (wc ++ wr) H → va_S A s.heap H locs → lv_has ls 4 [(0, .ref b), (1, .ref (a 0)), (2, .ref (a2 0)), (3, .int (mI i))] → W p l e room_1 s m #[Value.ref b] below meth c H locs 278 29046 Q (F0 m 1592 ls [])) : W p l e room_1 s m #[Value.ref b] below meth c H locs 278 29046 Q (F0 m 676 ls []) := by
  refine lv_aload_n hx hb dL_law_676 rfl (lv_at hl 1 rfl) ?_
  refine g_i (dCR hD hC hR) hS hA (g_V (own := "HideReaderLaw") (As := []) (rest := []) hx hb hml hown hts hK hP (dCR hD hC hR) (mC_undo (l := l) (D := D) (k := k)  hC) ck_X11_undo iv_X11_undo uw_4_231 (cI_recv hC hK hP) rfl hl.1 rfl (Nat.le_of_ble_eq_true rfl) dL_law_677 ⟨Nat.le_of_ble_eq_true rfl, Nat.le_of_ble_eq_true rfl⟩ ⟨Nat.le_of_ble_eq_true rfl, Nat.le_of_ble_eq_true rfl⟩) (fun r1 H locs hQ hS => ?_)
  obtain ⟨wc, hC, hP⟩ := hQ
  refine lv_pop hx hb dL_law_680 rfl ?_
  refine lv_aload_n hx hb dL_law_681 rfl (lv_at hl 2 rfl) ?_
  refine g_i (dRC hD hC hR) hS hA (g_V (own := "HideReaderLaw") (As := []) (rest := []) hx hb hml hown hts hK (pCR hP) (dRC hD hC hR) (mR_undo (l := l) (D := D) (k := k)  hR) ck_X12_undo iv_X12_undo uw_9_18 (rI_recv hR hK (pCR hP)) rfl hl.1 rfl (Nat.le_of_ble_eq_true rfl) dL_law_682 ⟨Nat.le_of_ble_eq_true rfl, Nat.le_of_ble_eq_true rfl⟩ ⟨Nat.le_of_ble_eq_true rfl, Nat.le_of_ble_eq_true rfl⟩) (fun r2 H locs hQ hS => ?_)
  obtain ⟨wr, hR, hP⟩ := hQ
  have hP := pCR hP
  refine lv_pop hx hb dL_law_685 rfl ?_
  refine lv_goto (tgt := 1592) hx hb dL_law_686 (by decide) ?_
  exact kk _ _ _ _ _ _ hC hR hP hS hl
set_option maxHeartbeats 4000000 in
set_option maxRecDepth 100000 in
theorem lc_15 {p : Program} {l : Launch} {e : Env} {s : State} {m : MethodId} {below : List Frame} {meth : Method} {c : Code} {D : va_G} {k : Nat → ClassId} {A : Nat → Prop} {b L : Nat} {xs : Nat → Int32} {a q a2 : Nat → Nat} {Q : State → Prop} {i t : Int} {wc wr : va_W} {H : Heap} {locs : List Loc} {ls : Array Slot} (hx : p.tables.exec = Jvm.exec) (hb : c.code = cL_law) (hml : c.maxLocals = 4) (hown : s.vm.findClass "HideReaderLaw" = some m.cls) (hts : ∀ w ∈ UT, w.before #[Value.ref b] s = true) (hXs : va_X b L xs s s.heap) (hbl : b < s.heap.size) (hbA : ¬ A b) (hK : va_K D vwCl (tys k) s) (hA : ∀ q : Nat, s.heap.size ≤ q → A q) (hD : wD A (cAd a q [] ++ rAd a2 [])) (hi : 0 ≤ i ∧ i + 6 ≤ (L : Int) ∧ L ≤ 384) (hC : cI k a q t wc) (hR : rI k a2 t wr) (hP : va_P D vwCl (wc ++ wr) H) (hS : va_S A s.heap H locs) (hl : lv_has ls 4 [(0, .ref b), (1, .ref (a 0)), (2, .ref (a2 0)), (3, .int (mI i))]) (kk : ∀ (t : Int) (wc wr : va_W) (H : Heap) (locs : List Loc) (ls : Array Slot), cI k a q t wc → rI k a2 t wr → va_P D vwCl (wc ++ wr) H → va_S A s.heap H locs → lv_has ls 4 [(0, .ref b), (1, .ref (a 0)), (2, .ref (a2 0)), (3, .int (mI i))] → W p l e room_1 s m #[Value.ref b] below meth c H locs 278 29046 Q (F0 m 1592 ls [])) : W p l e room_1 s m #[Value.ref b] below meth c H locs 278 29046 Q (F0 m 689 ls []) := by
  refine lv_aload_n hx hb dL_law_689 rfl (lv_at hl 1 rfl) ?_
  refine g_i (dCR hD hC hR) hS hA (g_V (own := "HideReaderLaw") (As := []) (rest := []) hx hb hml hown hts hK hP (dCR hD hC hR) (mC_redo (l := l) (D := D) (k := k)  hC) ck_X11_redo iv_X11_redo uw_4_239 (cI_recv hC hK hP) rfl hl.1 rfl (Nat.le_of_ble_eq_true rfl) dL_law_690 ⟨Nat.le_of_ble_eq_true rfl, Nat.le_of_ble_eq_true rfl⟩ ⟨Nat.le_of_ble_eq_true rfl, Nat.le_of_ble_eq_true rfl⟩) (fun r1 H locs hQ hS => ?_)
  obtain ⟨wc, hC, hP⟩ := hQ
  refine lv_pop hx hb dL_law_693 rfl ?_
  refine lv_aload_n hx hb dL_law_694 rfl (lv_at hl 2 rfl) ?_
  refine g_i (dRC hD hC hR) hS hA (g_V (own := "HideReaderLaw") (As := []) (rest := []) hx hb hml hown hts hK (pCR hP) (dRC hD hC hR) (mR_redo (l := l) (D := D) (k := k)  hR) ck_X12_redo iv_X12_redo uw_9_26 (rI_recv hR hK (pCR hP)) rfl hl.1 rfl (Nat.le_of_ble_eq_true rfl) dL_law_695 ⟨Nat.le_of_ble_eq_true rfl, Nat.le_of_ble_eq_true rfl⟩ ⟨Nat.le_of_ble_eq_true rfl, Nat.le_of_ble_eq_true rfl⟩) (fun r2 H locs hQ hS => ?_)
  obtain ⟨wr, hR, hP⟩ := hQ
  have hP := pCR hP
  refine lv_pop hx hb dL_law_698 rfl ?_
  refine lv_goto (tgt := 1592) hx hb dL_law_699 (by decide) ?_
  exact kk _ _ _ _ _ _ hC hR hP hS hl
set_option maxHeartbeats 4000000 in
set_option maxRecDepth 100000 in
theorem lc_16 {p : Program} {l : Launch} {e : Env} {s : State} {m : MethodId} {below : List Frame} {meth : Method} {c : Code} {D : va_G} {k : Nat → ClassId} {A : Nat → Prop} {b L : Nat} {xs : Nat → Int32} {a q a2 : Nat → Nat} {Q : State → Prop} {i t : Int} {wc wr : va_W} {H : Heap} {locs : List Loc} {ls : Array Slot} (hx : p.tables.exec = Jvm.exec) (hb : c.code = cL_law) (hml : c.maxLocals = 4) (hown : s.vm.findClass "HideReaderLaw" = some m.cls) (hts : ∀ w ∈ UT, w.before #[Value.ref b] s = true) (hXs : va_X b L xs s s.heap) (hbl : b < s.heap.size) (hbA : ¬ A b) (hK : va_K D vwCl (tys k) s) (hA : ∀ q : Nat, s.heap.size ≤ q → A q) (hD : wD A (cAd a q [] ++ rAd a2 [])) (hi : 0 ≤ i ∧ i + 6 ≤ (L : Int) ∧ L ≤ 384) (hC : cI k a q t wc) (hR : rI k a2 t wr) (hP : va_P D vwCl (wc ++ wr) H) (hS : va_S A s.heap H locs) (hl : lv_has ls 4 [(0, .ref b), (1, .ref (a 0)), (2, .ref (a2 0)), (3, .int (mI i))]) (kk : ∀ (t : Int) (wc wr : va_W) (H : Heap) (locs : List Loc) (ls : Array Slot), cI k a q t wc → rI k a2 t wr → va_P D vwCl (wc ++ wr) H → va_S A s.heap H locs → lv_has ls 4 [(0, .ref b), (1, .ref (a 0)), (2, .ref (a2 0)), (3, .int (mI i))] → W p l e room_1 s m #[Value.ref b] below meth c H locs 278 29046 Q (F0 m 1592 ls [])) : W p l e room_1 s m #[Value.ref b] below meth c H locs 278 29046 Q (F0 m 702 ls []) := by
  obtain ⟨z1, ez1, hz1⟩ := mI_of (xs (mI (i + 1)).toNatClampNeg)
  obtain ⟨z2, ez2, hz2⟩ := mI_of (xs (mI (i + 2)).toNatClampNeg)
  refine lv_aload_n hx hb dL_law_702 rfl (lv_at hl 1 rfl) ?_
  refine lv_aload_n hx hb dL_law_703 rfl (lv_at hl 0 rfl) ?_
  refine lv_iload_n hx hb dL_law_704 rfl (lv_at hl 3 rfl) ?_
  refine lv_iconst (v := mI 1) hx hb dL_law_705 rfl ?_
  refine sy_iadd hx hb dL_law_706 (i + 1) rfl ?_
  refine va_sld hx hb hXs hbl hbA hS (mI_in (by omega) (by omega) (by omega)) dL_law_707 ?_
  refine sy_top z1 ez1 ?_
  refine lv_aload_n hx hb dL_law_708 rfl (lv_at hl 0 rfl) ?_
  refine lv_iload_n hx hb dL_law_709 rfl (lv_at hl 3 rfl) ?_
  refine lv_iconst (v := mI 2) hx hb dL_law_710 rfl ?_
  refine sy_iadd hx hb dL_law_711 (i + 2) rfl ?_
  refine va_sld hx hb hXs hbl hbA hS (mI_in (by omega) (by omega) (by omega)) dL_law_712 ?_
  refine sy_top z2 ez2 ?_
  refine g_i (dCR hD hC hR) hS hA (g_V (own := "HideReaderLaw") (As := [.int (mI z1), .int (mI z2)]) (rest := []) hx hb hml hown hts hK hP (dCR hD hC hR) (mC_make (l := l) (D := D) (k := k) hz1 hz2 hC) ck_X11_make iv_X11_make uw_5_7 (cI_recv hC hK hP) rfl hl.1 rfl (Nat.le_of_ble_eq_true rfl) dL_law_713 ⟨Nat.le_of_ble_eq_true rfl, Nat.le_of_ble_eq_true rfl⟩ ⟨Nat.le_of_ble_eq_true rfl, Nat.le_of_ble_eq_true rfl⟩) (fun r1 H locs hQ hS => ?_)
  obtain ⟨wc, hC, hP⟩ := hQ
  refine lv_pop hx hb dL_law_716 rfl ?_
  refine lv_aload_n hx hb dL_law_717 rfl (lv_at hl 2 rfl) ?_
  refine lv_aload_n hx hb dL_law_718 rfl (lv_at hl 0 rfl) ?_
  refine lv_iload_n hx hb dL_law_719 rfl (lv_at hl 3 rfl) ?_
  refine lv_iconst (v := mI 1) hx hb dL_law_720 rfl ?_
  refine sy_iadd hx hb dL_law_721 (i + 1) rfl ?_
  refine va_sld hx hb hXs hbl hbA hS (mI_in (by omega) (by omega) (by omega)) dL_law_722 ?_
  refine sy_top z1 ez1 ?_
  refine lv_aload_n hx hb dL_law_723 rfl (lv_at hl 0 rfl) ?_
  refine lv_iload_n hx hb dL_law_724 rfl (lv_at hl 3 rfl) ?_
  refine lv_iconst (v := mI 2) hx hb dL_law_725 rfl ?_
  refine sy_iadd hx hb dL_law_726 (i + 2) rfl ?_
  refine va_sld hx hb hXs hbl hbA hS (mI_in (by omega) (by omega) (by omega)) dL_law_727 ?_
  refine sy_top z2 ez2 ?_
  refine g_i (dRC hD hC hR) hS hA (g_V (own := "HideReaderLaw") (As := [.int (mI z1), .int (mI z2)]) (rest := []) hx hb hml hown hts hK (pCR hP) (dRC hD hC hR) (mR_make (l := l) (D := D) (k := k) hz1 hz2 hR) ck_X12_make iv_X12_make uw_9_34 (rI_recv hR hK (pCR hP)) rfl hl.1 rfl (Nat.le_of_ble_eq_true rfl) dL_law_728 ⟨Nat.le_of_ble_eq_true rfl, Nat.le_of_ble_eq_true rfl⟩ ⟨Nat.le_of_ble_eq_true rfl, Nat.le_of_ble_eq_true rfl⟩) (fun r2 H locs hQ hS => ?_)
  obtain ⟨wr, hR, hP⟩ := hQ
  have hP := pCR hP
  refine lv_pop hx hb dL_law_731 rfl ?_
  refine lv_goto (tgt := 1592) hx hb dL_law_732 (by decide) ?_
  exact kk _ _ _ _ _ _ hC hR hP hS hl
set_option maxHeartbeats 4000000 in
set_option maxRecDepth 100000 in
theorem lc_17 {p : Program} {l : Launch} {e : Env} {s : State} {m : MethodId} {below : List Frame} {meth : Method} {c : Code} {D : va_G} {k : Nat → ClassId} {A : Nat → Prop} {b L : Nat} {xs : Nat → Int32} {a q a2 : Nat → Nat} {Q : State → Prop} {i t : Int} {wc wr : va_W} {H : Heap} {locs : List Loc} {ls : Array Slot} (hx : p.tables.exec = Jvm.exec) (hb : c.code = cL_law) (hml : c.maxLocals = 4) (hown : s.vm.findClass "HideReaderLaw" = some m.cls) (hts : ∀ w ∈ UT, w.before #[Value.ref b] s = true) (hXs : va_X b L xs s s.heap) (hbl : b < s.heap.size) (hbA : ¬ A b) (hK : va_K D vwCl (tys k) s) (hA : ∀ q : Nat, s.heap.size ≤ q → A q) (hD : wD A (cAd a q [] ++ rAd a2 [])) (hi : 0 ≤ i ∧ i + 6 ≤ (L : Int) ∧ L ≤ 384) (hC : cI k a q t wc) (hR : rI k a2 t wr) (hP : va_P D vwCl (wc ++ wr) H) (hS : va_S A s.heap H locs) (hl : lv_has ls 4 [(0, .ref b), (1, .ref (a 0)), (2, .ref (a2 0)), (3, .int (mI i))]) (kk : ∀ (t : Int) (wc wr : va_W) (H : Heap) (locs : List Loc) (ls : Array Slot), cI k a q t wc → rI k a2 t wr → va_P D vwCl (wc ++ wr) H → va_S A s.heap H locs → lv_has ls 4 [(0, .ref b), (1, .ref (a 0)), (2, .ref (a2 0)), (3, .int (mI i))] → W p l e room_1 s m #[Value.ref b] below meth c H locs 278 29046 Q (F0 m 1592 ls [])) : W p l e room_1 s m #[Value.ref b] below meth c H locs 278 29046 Q (F0 m 735 ls []) := by
  obtain ⟨z1, ez1, hz1⟩ := mI_of (xs (mI (i + 1)).toNatClampNeg)
  obtain ⟨z2, ez2, hz2⟩ := mI_of (xs (mI (i + 2)).toNatClampNeg)
  refine lv_aload_n hx hb dL_law_735 rfl (lv_at hl 1 rfl) ?_
  refine lv_aload_n hx hb dL_law_736 rfl (lv_at hl 0 rfl) ?_
  refine lv_iload_n hx hb dL_law_737 rfl (lv_at hl 3 rfl) ?_
  refine lv_iconst (v := mI 1) hx hb dL_law_738 rfl ?_
  refine sy_iadd hx hb dL_law_739 (i + 1) rfl ?_
  refine va_sld hx hb hXs hbl hbA hS (mI_in (by omega) (by omega) (by omega)) dL_law_740 ?_
  refine sy_top z1 ez1 ?_
  refine lv_aload_n hx hb dL_law_741 rfl (lv_at hl 0 rfl) ?_
  refine lv_iload_n hx hb dL_law_742 rfl (lv_at hl 3 rfl) ?_
  refine lv_iconst (v := mI 2) hx hb dL_law_743 rfl ?_
  refine sy_iadd hx hb dL_law_744 (i + 2) rfl ?_
  refine va_sld hx hb hXs hbl hbA hS (mI_in (by omega) (by omega) (by omega)) dL_law_745 ?_
  refine sy_top z2 ez2 ?_
  refine g_i (dCR hD hC hR) hS hA (g_V (own := "HideReaderLaw") (As := [.int (mI z1), .int (mI z2)]) (rest := []) hx hb hml hown hts hK hP (dCR hD hC hR) (mC_forge (l := l) (D := D) (k := k) hz1 hz2 hC) ck_X11_forge iv_X11_forge uw_5_25 (cI_recv hC hK hP) rfl hl.1 rfl (Nat.le_of_ble_eq_true rfl) dL_law_746 ⟨Nat.le_of_ble_eq_true rfl, Nat.le_of_ble_eq_true rfl⟩ ⟨Nat.le_of_ble_eq_true rfl, Nat.le_of_ble_eq_true rfl⟩) (fun r1 H locs hQ hS => ?_)
  obtain ⟨wc, hC, hP⟩ := hQ
  refine lv_pop hx hb dL_law_749 rfl ?_
  refine lv_aload_n hx hb dL_law_750 rfl (lv_at hl 2 rfl) ?_
  refine lv_aload_n hx hb dL_law_751 rfl (lv_at hl 0 rfl) ?_
  refine lv_iload_n hx hb dL_law_752 rfl (lv_at hl 3 rfl) ?_
  refine lv_iconst (v := mI 1) hx hb dL_law_753 rfl ?_
  refine sy_iadd hx hb dL_law_754 (i + 1) rfl ?_
  refine va_sld hx hb hXs hbl hbA hS (mI_in (by omega) (by omega) (by omega)) dL_law_755 ?_
  refine sy_top z1 ez1 ?_
  refine lv_aload_n hx hb dL_law_756 rfl (lv_at hl 0 rfl) ?_
  refine lv_iload_n hx hb dL_law_757 rfl (lv_at hl 3 rfl) ?_
  refine lv_iconst (v := mI 2) hx hb dL_law_758 rfl ?_
  refine sy_iadd hx hb dL_law_759 (i + 2) rfl ?_
  refine va_sld hx hb hXs hbl hbA hS (mI_in (by omega) (by omega) (by omega)) dL_law_760 ?_
  refine sy_top z2 ez2 ?_
  refine g_i (dRC hD hC hR) hS hA (g_V (own := "HideReaderLaw") (As := [.int (mI z1), .int (mI z2)]) (rest := []) hx hb hml hown hts hK (pCR hP) (dRC hD hC hR) (mR_forge (l := l) (D := D) (k := k) hz1 hz2 hR) ck_X12_forge iv_X12_forge uw_9_46 (rI_recv hR hK (pCR hP)) rfl hl.1 rfl (Nat.le_of_ble_eq_true rfl) dL_law_761 ⟨Nat.le_of_ble_eq_true rfl, Nat.le_of_ble_eq_true rfl⟩ ⟨Nat.le_of_ble_eq_true rfl, Nat.le_of_ble_eq_true rfl⟩) (fun r2 H locs hQ hS => ?_)
  obtain ⟨wr, hR, hP⟩ := hQ
  have hP := pCR hP
  refine lv_pop hx hb dL_law_764 rfl ?_
  refine lv_goto (tgt := 1592) hx hb dL_law_765 (by decide) ?_
  exact kk _ _ _ _ _ _ hC hR hP hS hl
set_option maxHeartbeats 4000000 in
set_option maxRecDepth 100000 in
theorem lc_18 {p : Program} {l : Launch} {e : Env} {s : State} {m : MethodId} {below : List Frame} {meth : Method} {c : Code} {D : va_G} {k : Nat → ClassId} {A : Nat → Prop} {b L : Nat} {xs : Nat → Int32} {a q a2 : Nat → Nat} {Q : State → Prop} {i t : Int} {wc wr : va_W} {H : Heap} {locs : List Loc} {ls : Array Slot} (hx : p.tables.exec = Jvm.exec) (hb : c.code = cL_law) (hml : c.maxLocals = 4) (hown : s.vm.findClass "HideReaderLaw" = some m.cls) (hts : ∀ w ∈ UT, w.before #[Value.ref b] s = true) (hXs : va_X b L xs s s.heap) (hbl : b < s.heap.size) (hbA : ¬ A b) (hK : va_K D vwCl (tys k) s) (hA : ∀ q : Nat, s.heap.size ≤ q → A q) (hD : wD A (cAd a q [] ++ rAd a2 [])) (hi : 0 ≤ i ∧ i + 6 ≤ (L : Int) ∧ L ≤ 384) (hC : cI k a q t wc) (hR : rI k a2 t wr) (hP : va_P D vwCl (wc ++ wr) H) (hS : va_S A s.heap H locs) (hl : lv_has ls 4 [(0, .ref b), (1, .ref (a 0)), (2, .ref (a2 0)), (3, .int (mI i))]) (kk : ∀ (t : Int) (wc wr : va_W) (H : Heap) (locs : List Loc) (ls : Array Slot), cI k a q t wc → rI k a2 t wr → va_P D vwCl (wc ++ wr) H → va_S A s.heap H locs → lv_has ls 4 [(0, .ref b), (1, .ref (a 0)), (2, .ref (a2 0)), (3, .int (mI i))] → W p l e room_1 s m #[Value.ref b] below meth c H locs 278 29046 Q (F0 m 1592 ls [])) : W p l e room_1 s m #[Value.ref b] below meth c H locs 278 29046 Q (F0 m 768 ls []) := by
  refine lv_aload_n hx hb dL_law_768 rfl (lv_at hl 1 rfl) ?_
  refine g_i (dCR hD hC hR) hS hA (g_V (own := "HideReaderLaw") (As := []) (rest := []) hx hb hml hown hts hK hP (dCR hD hC hR) (mC_chain (l := l) (D := D) (k := k)  hC) ck_X11_chain iv_X11_chain uw_5_39 (cI_recv hC hK hP) rfl hl.1 rfl (Nat.le_of_ble_eq_true rfl) dL_law_769 ⟨Nat.le_of_ble_eq_true rfl, Nat.le_of_ble_eq_true rfl⟩ ⟨Nat.le_of_ble_eq_true rfl, Nat.le_of_ble_eq_true rfl⟩) (fun r1 H locs hQ hS => ?_)
  obtain ⟨wc, hC, hP⟩ := hQ
  refine lv_pop hx hb dL_law_772 rfl ?_
  refine lv_aload_n hx hb dL_law_773 rfl (lv_at hl 2 rfl) ?_
  refine g_i (dRC hD hC hR) hS hA (g_V (own := "HideReaderLaw") (As := []) (rest := []) hx hb hml hown hts hK (pCR hP) (dRC hD hC hR) (mR_chain (l := l) (D := D) (k := k)  hR) ck_X12_chain iv_X12_chain uw_9_74 (rI_recv hR hK (pCR hP)) rfl hl.1 rfl (Nat.le_of_ble_eq_true rfl) dL_law_774 ⟨Nat.le_of_ble_eq_true rfl, Nat.le_of_ble_eq_true rfl⟩ ⟨Nat.le_of_ble_eq_true rfl, Nat.le_of_ble_eq_true rfl⟩) (fun r2 H locs hQ hS => ?_)
  obtain ⟨wr, hR, hP⟩ := hQ
  have hP := pCR hP
  refine lv_pop hx hb dL_law_777 rfl ?_
  refine lv_goto (tgt := 1592) hx hb dL_law_778 (by decide) ?_
  exact kk _ _ _ _ _ _ hC hR hP hS hl
set_option maxHeartbeats 4000000 in
set_option maxRecDepth 100000 in
theorem lc_19 {p : Program} {l : Launch} {e : Env} {s : State} {m : MethodId} {below : List Frame} {meth : Method} {c : Code} {D : va_G} {k : Nat → ClassId} {A : Nat → Prop} {b L : Nat} {xs : Nat → Int32} {a q a2 : Nat → Nat} {Q : State → Prop} {i t : Int} {wc wr : va_W} {H : Heap} {locs : List Loc} {ls : Array Slot} (hx : p.tables.exec = Jvm.exec) (hb : c.code = cL_law) (hml : c.maxLocals = 4) (hown : s.vm.findClass "HideReaderLaw" = some m.cls) (hts : ∀ w ∈ UT, w.before #[Value.ref b] s = true) (hXs : va_X b L xs s s.heap) (hbl : b < s.heap.size) (hbA : ¬ A b) (hK : va_K D vwCl (tys k) s) (hA : ∀ q : Nat, s.heap.size ≤ q → A q) (hD : wD A (cAd a q [] ++ rAd a2 [])) (hi : 0 ≤ i ∧ i + 6 ≤ (L : Int) ∧ L ≤ 384) (hC : cI k a q t wc) (hR : rI k a2 t wr) (hP : va_P D vwCl (wc ++ wr) H) (hS : va_S A s.heap H locs) (hl : lv_has ls 4 [(0, .ref b), (1, .ref (a 0)), (2, .ref (a2 0)), (3, .int (mI i))]) (kk : ∀ (t : Int) (wc wr : va_W) (H : Heap) (locs : List Loc) (ls : Array Slot), cI k a q t wc → rI k a2 t wr → va_P D vwCl (wc ++ wr) H → va_S A s.heap H locs → lv_has ls 4 [(0, .ref b), (1, .ref (a 0)), (2, .ref (a2 0)), (3, .int (mI i))] → W p l e room_1 s m #[Value.ref b] below meth c H locs 278 29046 Q (F0 m 1592 ls [])) : W p l e room_1 s m #[Value.ref b] below meth c H locs 278 29046 Q (F0 m 781 ls []) := by
  refine lv_aload_n hx hb dL_law_781 rfl (lv_at hl 1 rfl) ?_
  refine g_i (dCR hD hC hR) hS hA (g_V (own := "HideReaderLaw") (As := []) (rest := []) hx hb hml hown hts hK hP (dCR hD hC hR) (mC_lowest (l := l) (D := D) (k := k)  hC) ck_X11_lowest iv_X11_lowest uw_5_67 (cI_recv hC hK hP) rfl hl.1 rfl (Nat.le_of_ble_eq_true rfl) dL_law_782 ⟨Nat.le_of_ble_eq_true rfl, Nat.le_of_ble_eq_true rfl⟩ ⟨Nat.le_of_ble_eq_true rfl, Nat.le_of_ble_eq_true rfl⟩) (fun r1 H locs hQ hS => ?_)
  obtain ⟨wc, hC, hP⟩ := hQ
  refine lv_pop hx hb dL_law_785 rfl ?_
  refine lv_aload_n hx hb dL_law_786 rfl (lv_at hl 2 rfl) ?_
  refine g_i (dRC hD hC hR) hS hA (g_V (own := "HideReaderLaw") (As := []) (rest := []) hx hb hml hown hts hK (pCR hP) (dRC hD hC hR) (mR_lowest (l := l) (D := D) (k := k)  hR) ck_X12_lowest iv_X12_lowest uw_9_82 (rI_recv hR hK (pCR hP)) rfl hl.1 rfl (Nat.le_of_ble_eq_true rfl) dL_law_787 ⟨Nat.le_of_ble_eq_true rfl, Nat.le_of_ble_eq_true rfl⟩ ⟨Nat.le_of_ble_eq_true rfl, Nat.le_of_ble_eq_true rfl⟩) (fun r2 H locs hQ hS => ?_)
  obtain ⟨wr, hR, hP⟩ := hQ
  have hP := pCR hP
  refine lv_pop hx hb dL_law_790 rfl ?_
  refine lv_goto (tgt := 1592) hx hb dL_law_791 (by decide) ?_
  exact kk _ _ _ _ _ _ hC hR hP hS hl
set_option maxHeartbeats 4000000 in
set_option maxRecDepth 100000 in
theorem lc_20 {p : Program} {l : Launch} {e : Env} {s : State} {m : MethodId} {below : List Frame} {meth : Method} {c : Code} {D : va_G} {k : Nat → ClassId} {A : Nat → Prop} {b L : Nat} {xs : Nat → Int32} {a q a2 : Nat → Nat} {Q : State → Prop} {i t : Int} {wc wr : va_W} {H : Heap} {locs : List Loc} {ls : Array Slot} (hx : p.tables.exec = Jvm.exec) (hb : c.code = cL_law) (hml : c.maxLocals = 4) (hown : s.vm.findClass "HideReaderLaw" = some m.cls) (hts : ∀ w ∈ UT, w.before #[Value.ref b] s = true) (hXs : va_X b L xs s s.heap) (hbl : b < s.heap.size) (hbA : ¬ A b) (hK : va_K D vwCl (tys k) s) (hA : ∀ q : Nat, s.heap.size ≤ q → A q) (hD : wD A (cAd a q [] ++ rAd a2 [])) (hi : 0 ≤ i ∧ i + 6 ≤ (L : Int) ∧ L ≤ 384) (hC : cI k a q t wc) (hR : rI k a2 t wr) (hP : va_P D vwCl (wc ++ wr) H) (hS : va_S A s.heap H locs) (hl : lv_has ls 4 [(0, .ref b), (1, .ref (a 0)), (2, .ref (a2 0)), (3, .int (mI i))]) (kk : ∀ (t : Int) (wc wr : va_W) (H : Heap) (locs : List Loc) (ls : Array Slot), cI k a q t wc → rI k a2 t wr → va_P D vwCl (wc ++ wr) H → va_S A s.heap H locs → lv_has ls 4 [(0, .ref b), (1, .ref (a 0)), (2, .ref (a2 0)), (3, .int (mI i))] → W p l e room_1 s m #[Value.ref b] below meth c H locs 278 29046 Q (F0 m 1592 ls [])) : W p l e room_1 s m #[Value.ref b] below meth c H locs 278 29046 Q (F0 m 794 ls []) := by
  refine lv_aload_n hx hb dL_law_794 rfl (lv_at hl 1 rfl) ?_
  refine g_i (dCR hD hC hR) hS hA (g_V (own := "HideReaderLaw") (As := []) (rest := []) hx hb hml hown hts hK hP (dCR hD hC hR) (mC_highest (l := l) (D := D) (k := k)  hC) ck_X11_highest iv_X11_highest uw_5_75 (cI_recv hC hK hP) rfl hl.1 rfl (Nat.le_of_ble_eq_true rfl) dL_law_795 ⟨Nat.le_of_ble_eq_true rfl, Nat.le_of_ble_eq_true rfl⟩ ⟨Nat.le_of_ble_eq_true rfl, Nat.le_of_ble_eq_true rfl⟩) (fun r1 H locs hQ hS => ?_)
  obtain ⟨wc, hC, hP⟩ := hQ
  refine lv_pop hx hb dL_law_798 rfl ?_
  refine lv_aload_n hx hb dL_law_799 rfl (lv_at hl 2 rfl) ?_
  refine g_i (dRC hD hC hR) hS hA (g_V (own := "HideReaderLaw") (As := []) (rest := []) hx hb hml hown hts hK (pCR hP) (dRC hD hC hR) (mR_highest (l := l) (D := D) (k := k)  hR) ck_X12_highest iv_X12_highest uw_9_86 (rI_recv hR hK (pCR hP)) rfl hl.1 rfl (Nat.le_of_ble_eq_true rfl) dL_law_800 ⟨Nat.le_of_ble_eq_true rfl, Nat.le_of_ble_eq_true rfl⟩ ⟨Nat.le_of_ble_eq_true rfl, Nat.le_of_ble_eq_true rfl⟩) (fun r2 H locs hQ hS => ?_)
  obtain ⟨wr, hR, hP⟩ := hQ
  have hP := pCR hP
  refine lv_pop hx hb dL_law_803 rfl ?_
  refine lv_goto (tgt := 1592) hx hb dL_law_804 (by decide) ?_
  exact kk _ _ _ _ _ _ hC hR hP hS hl
set_option maxHeartbeats 4000000 in
set_option maxRecDepth 100000 in
theorem lc_21 {p : Program} {l : Launch} {e : Env} {s : State} {m : MethodId} {below : List Frame} {meth : Method} {c : Code} {D : va_G} {k : Nat → ClassId} {A : Nat → Prop} {b L : Nat} {xs : Nat → Int32} {a q a2 : Nat → Nat} {Q : State → Prop} {i t : Int} {wc wr : va_W} {H : Heap} {locs : List Loc} {ls : Array Slot} (hx : p.tables.exec = Jvm.exec) (hb : c.code = cL_law) (hml : c.maxLocals = 4) (hown : s.vm.findClass "HideReaderLaw" = some m.cls) (hts : ∀ w ∈ UT, w.before #[Value.ref b] s = true) (hXs : va_X b L xs s s.heap) (hbl : b < s.heap.size) (hbA : ¬ A b) (hK : va_K D vwCl (tys k) s) (hA : ∀ q : Nat, s.heap.size ≤ q → A q) (hD : wD A (cAd a q [] ++ rAd a2 [])) (hi : 0 ≤ i ∧ i + 6 ≤ (L : Int) ∧ L ≤ 384) (hC : cI k a q t wc) (hR : rI k a2 t wr) (hP : va_P D vwCl (wc ++ wr) H) (hS : va_S A s.heap H locs) (hl : lv_has ls 4 [(0, .ref b), (1, .ref (a 0)), (2, .ref (a2 0)), (3, .int (mI i))]) (kk : ∀ (t : Int) (wc wr : va_W) (H : Heap) (locs : List Loc) (ls : Array Slot), cI k a q t wc → rI k a2 t wr → va_P D vwCl (wc ++ wr) H → va_S A s.heap H locs → lv_has ls 4 [(0, .ref b), (1, .ref (a 0)), (2, .ref (a2 0)), (3, .int (mI i))] → W p l e room_1 s m #[Value.ref b] below meth c H locs 278 29046 Q (F0 m 1592 ls [])) : W p l e room_1 s m #[Value.ref b] below meth c H locs 278 29046 Q (F0 m 807 ls []) := by
  refine lv_aload_n hx hb dL_law_807 rfl (lv_at hl 1 rfl) ?_
  refine g_i (dCR hD hC hR) hS hA (g_V (own := "HideReaderLaw") (As := []) (rest := []) hx hb hml hown hts hK hP (dCR hD hC hR) (mC_fresh (l := l) (D := D) (k := k)  hC) ck_X11_fresh iv_X11_fresh uw_5_83 (cI_recv hC hK hP) rfl hl.1 rfl (Nat.le_of_ble_eq_true rfl) dL_law_808 ⟨Nat.le_of_ble_eq_true rfl, Nat.le_of_ble_eq_true rfl⟩ ⟨Nat.le_of_ble_eq_true rfl, Nat.le_of_ble_eq_true rfl⟩) (fun r1 H locs hQ hS => ?_)
  obtain ⟨wc, hC, hP⟩ := hQ
  refine lv_pop hx hb dL_law_811 rfl ?_
  refine lv_aload_n hx hb dL_law_812 rfl (lv_at hl 2 rfl) ?_
  refine g_i (dRC hD hC hR) hS hA (g_V (own := "HideReaderLaw") (As := []) (rest := []) hx hb hml hown hts hK (pCR hP) (dRC hD hC hR) (mR_fresh (l := l) (D := D) (k := k)  hR) ck_X12_fresh iv_X12_fresh uw_9_118 (rI_recv hR hK (pCR hP)) rfl hl.1 rfl (Nat.le_of_ble_eq_true rfl) dL_law_813 ⟨Nat.le_of_ble_eq_true rfl, Nat.le_of_ble_eq_true rfl⟩ ⟨Nat.le_of_ble_eq_true rfl, Nat.le_of_ble_eq_true rfl⟩) (fun r2 H locs hQ hS => ?_)
  obtain ⟨wr, hR, hP⟩ := hQ
  have hP := pCR hP
  refine lv_pop hx hb dL_law_816 rfl ?_
  refine lv_goto (tgt := 1592) hx hb dL_law_817 (by decide) ?_
  exact kk _ _ _ _ _ _ hC hR hP hS hl
set_option maxHeartbeats 4000000 in
set_option maxRecDepth 100000 in
theorem lc_22 {p : Program} {l : Launch} {e : Env} {s : State} {m : MethodId} {below : List Frame} {meth : Method} {c : Code} {D : va_G} {k : Nat → ClassId} {A : Nat → Prop} {b L : Nat} {xs : Nat → Int32} {a q a2 : Nat → Nat} {Q : State → Prop} {i t : Int} {wc wr : va_W} {H : Heap} {locs : List Loc} {ls : Array Slot} (hx : p.tables.exec = Jvm.exec) (hb : c.code = cL_law) (hml : c.maxLocals = 4) (hown : s.vm.findClass "HideReaderLaw" = some m.cls) (hts : ∀ w ∈ UT, w.before #[Value.ref b] s = true) (hXs : va_X b L xs s s.heap) (hbl : b < s.heap.size) (hbA : ¬ A b) (hK : va_K D vwCl (tys k) s) (hA : ∀ q : Nat, s.heap.size ≤ q → A q) (hD : wD A (cAd a q [] ++ rAd a2 [])) (hi : 0 ≤ i ∧ i + 6 ≤ (L : Int) ∧ L ≤ 384) (hC : cI k a q t wc) (hR : rI k a2 t wr) (hP : va_P D vwCl (wc ++ wr) H) (hS : va_S A s.heap H locs) (hl : lv_has ls 4 [(0, .ref b), (1, .ref (a 0)), (2, .ref (a2 0)), (3, .int (mI i))]) (kk : ∀ (t : Int) (wc wr : va_W) (H : Heap) (locs : List Loc) (ls : Array Slot), cI k a q t wc → rI k a2 t wr → va_P D vwCl (wc ++ wr) H → va_S A s.heap H locs → lv_has ls 4 [(0, .ref b), (1, .ref (a 0)), (2, .ref (a2 0)), (3, .int (mI i))] → W p l e room_1 s m #[Value.ref b] below meth c H locs 278 29046 Q (F0 m 1592 ls [])) : W p l e room_1 s m #[Value.ref b] below meth c H locs 278 29046 Q (F0 m 820 ls []) := by
  obtain ⟨z1, ez1, hz1⟩ := mI_of (xs (mI (i + 1)).toNatClampNeg)
  refine lv_aload_n hx hb dL_law_820 rfl (lv_at hl 1 rfl) ?_
  refine lv_aload_n hx hb dL_law_821 rfl (lv_at hl 0 rfl) ?_
  refine lv_iload_n hx hb dL_law_822 rfl (lv_at hl 3 rfl) ?_
  refine lv_iconst (v := mI 1) hx hb dL_law_823 rfl ?_
  refine sy_iadd hx hb dL_law_824 (i + 1) rfl ?_
  refine va_sld hx hb hXs hbl hbA hS (mI_in (by omega) (by omega) (by omega)) dL_law_825 ?_
  refine sy_top z1 ez1 ?_
  refine g_i (dCR hD hC hR) hS hA (g_V (own := "HideReaderLaw") (As := [.int (mI z1)]) (rest := []) hx hb hml hown hts hK hP (dCR hD hC hR) (mC_origins (l := l) (D := D) (k := k) hz1 hC) ck_X11_origins iv_X11_origins uw_5_96 (cI_recv hC hK hP) rfl hl.1 rfl (Nat.le_of_ble_eq_true rfl) dL_law_826 ⟨Nat.le_of_ble_eq_true rfl, Nat.le_of_ble_eq_true rfl⟩ ⟨Nat.le_of_ble_eq_true rfl, Nat.le_of_ble_eq_true rfl⟩) (fun r1 H locs hQ hS => ?_)
  obtain ⟨wc, hC, hP⟩ := hQ
  refine lv_pop hx hb dL_law_829 rfl ?_
  refine lv_aload_n hx hb dL_law_830 rfl (lv_at hl 2 rfl) ?_
  refine lv_aload_n hx hb dL_law_831 rfl (lv_at hl 0 rfl) ?_
  refine lv_iload_n hx hb dL_law_832 rfl (lv_at hl 3 rfl) ?_
  refine lv_iconst (v := mI 1) hx hb dL_law_833 rfl ?_
  refine sy_iadd hx hb dL_law_834 (i + 1) rfl ?_
  refine va_sld hx hb hXs hbl hbA hS (mI_in (by omega) (by omega) (by omega)) dL_law_835 ?_
  refine sy_top z1 ez1 ?_
  refine g_i (dRC hD hC hR) hS hA (g_V (own := "HideReaderLaw") (As := [.int (mI z1)]) (rest := []) hx hb hml hown hts hK (pCR hP) (dRC hD hC hR) (mR_origins (l := l) (D := D) (k := k) hz1 hR) ck_X12_origins iv_X12_origins uw_9_50 (rI_recv hR hK (pCR hP)) rfl hl.1 rfl (Nat.le_of_ble_eq_true rfl) dL_law_836 ⟨Nat.le_of_ble_eq_true rfl, Nat.le_of_ble_eq_true rfl⟩ ⟨Nat.le_of_ble_eq_true rfl, Nat.le_of_ble_eq_true rfl⟩) (fun r2 H locs hQ hS => ?_)
  obtain ⟨wr, hR, hP⟩ := hQ
  have hP := pCR hP
  refine lv_pop hx hb dL_law_839 rfl ?_
  refine lv_goto (tgt := 1592) hx hb dL_law_840 (by decide) ?_
  exact kk _ _ _ _ _ _ hC hR hP hS hl
set_option maxHeartbeats 4000000 in
set_option maxRecDepth 100000 in
theorem lc_23 {p : Program} {l : Launch} {e : Env} {s : State} {m : MethodId} {below : List Frame} {meth : Method} {c : Code} {D : va_G} {k : Nat → ClassId} {A : Nat → Prop} {b L : Nat} {xs : Nat → Int32} {a q a2 : Nat → Nat} {Q : State → Prop} {i t : Int} {wc wr : va_W} {H : Heap} {locs : List Loc} {ls : Array Slot} (hx : p.tables.exec = Jvm.exec) (hb : c.code = cL_law) (hml : c.maxLocals = 4) (hown : s.vm.findClass "HideReaderLaw" = some m.cls) (hts : ∀ w ∈ UT, w.before #[Value.ref b] s = true) (hXs : va_X b L xs s s.heap) (hbl : b < s.heap.size) (hbA : ¬ A b) (hK : va_K D vwCl (tys k) s) (hA : ∀ q : Nat, s.heap.size ≤ q → A q) (hD : wD A (cAd a q [] ++ rAd a2 [])) (hi : 0 ≤ i ∧ i + 6 ≤ (L : Int) ∧ L ≤ 384) (hC : cI k a q t wc) (hR : rI k a2 t wr) (hP : va_P D vwCl (wc ++ wr) H) (hS : va_S A s.heap H locs) (hl : lv_has ls 4 [(0, .ref b), (1, .ref (a 0)), (2, .ref (a2 0)), (3, .int (mI i))]) (kk : ∀ (t : Int) (wc wr : va_W) (H : Heap) (locs : List Loc) (ls : Array Slot), cI k a q t wc → rI k a2 t wr → va_P D vwCl (wc ++ wr) H → va_S A s.heap H locs → lv_has ls 4 [(0, .ref b), (1, .ref (a 0)), (2, .ref (a2 0)), (3, .int (mI i))] → W p l e room_1 s m #[Value.ref b] below meth c H locs 278 29046 Q (F0 m 1592 ls [])) : W p l e room_1 s m #[Value.ref b] below meth c H locs 278 29046 Q (F0 m 843 ls []) := by
  obtain ⟨z1, ez1, hz1⟩ := mI_of (xs (mI (i + 1)).toNatClampNeg)
  refine lv_aload_n hx hb dL_law_843 rfl (lv_at hl 1 rfl) ?_
  refine lv_aload_n hx hb dL_law_844 rfl (lv_at hl 0 rfl) ?_
  refine lv_iload_n hx hb dL_law_845 rfl (lv_at hl 3 rfl) ?_
  refine lv_iconst (v := mI 1) hx hb dL_law_846 rfl ?_
  refine sy_iadd hx hb dL_law_847 (i + 1) rfl ?_
  refine va_sld hx hb hXs hbl hbA hS (mI_in (by omega) (by omega) (by omega)) dL_law_848 ?_
  refine sy_top z1 ez1 ?_
  refine g_i (dCR hD hC hR) hS hA (g_V (own := "HideReaderLaw") (As := [.int (mI z1)]) (rest := []) hx hb hml hown hts hK hP (dCR hD hC hR) (mC_read (l := l) (D := D) (k := k) hz1 hC) ck_X11_read iv_X11_read uw_5_105 (cI_recv hC hK hP) rfl hl.1 rfl (Nat.le_of_ble_eq_true rfl) dL_law_849 ⟨Nat.le_of_ble_eq_true rfl, Nat.le_of_ble_eq_true rfl⟩ ⟨Nat.le_of_ble_eq_true rfl, Nat.le_of_ble_eq_true rfl⟩) (fun r1 H locs hQ hS => ?_)
  obtain ⟨wc, hC, hP⟩ := hQ
  refine lv_pop hx hb dL_law_852 rfl ?_
  refine lv_aload_n hx hb dL_law_853 rfl (lv_at hl 2 rfl) ?_
  refine lv_aload_n hx hb dL_law_854 rfl (lv_at hl 0 rfl) ?_
  refine lv_iload_n hx hb dL_law_855 rfl (lv_at hl 3 rfl) ?_
  refine lv_iconst (v := mI 1) hx hb dL_law_856 rfl ?_
  refine sy_iadd hx hb dL_law_857 (i + 1) rfl ?_
  refine va_sld hx hb hXs hbl hbA hS (mI_in (by omega) (by omega) (by omega)) dL_law_858 ?_
  refine sy_top z1 ez1 ?_
  refine g_i (dRC hD hC hR) hS hA (g_V (own := "HideReaderLaw") (As := [.int (mI z1)]) (rest := []) hx hb hml hown hts hK (pCR hP) (dRC hD hC hR) (mR_read (l := l) (D := D) (k := k) hz1 hR) ck_X12_read iv_X12_read uw_9_126 (rI_recv hR hK (pCR hP)) rfl hl.1 rfl (Nat.le_of_ble_eq_true rfl) dL_law_859 ⟨Nat.le_of_ble_eq_true rfl, Nat.le_of_ble_eq_true rfl⟩ ⟨Nat.le_of_ble_eq_true rfl, Nat.le_of_ble_eq_true rfl⟩) (fun r2 H locs hQ hS => ?_)
  obtain ⟨wr, hR, hP⟩ := hQ
  have hP := pCR hP
  refine lv_pop hx hb dL_law_862 rfl ?_
  refine lv_goto (tgt := 1592) hx hb dL_law_863 (by decide) ?_
  exact kk _ _ _ _ _ _ hC hR hP hS hl
set_option maxHeartbeats 4000000 in
set_option maxRecDepth 100000 in
theorem lc_24 {p : Program} {l : Launch} {e : Env} {s : State} {m : MethodId} {below : List Frame} {meth : Method} {c : Code} {D : va_G} {k : Nat → ClassId} {A : Nat → Prop} {b L : Nat} {xs : Nat → Int32} {a q a2 : Nat → Nat} {Q : State → Prop} {i t : Int} {wc wr : va_W} {H : Heap} {locs : List Loc} {ls : Array Slot} (hx : p.tables.exec = Jvm.exec) (hb : c.code = cL_law) (hml : c.maxLocals = 4) (hown : s.vm.findClass "HideReaderLaw" = some m.cls) (hts : ∀ w ∈ UT, w.before #[Value.ref b] s = true) (hXs : va_X b L xs s s.heap) (hbl : b < s.heap.size) (hbA : ¬ A b) (hK : va_K D vwCl (tys k) s) (hA : ∀ q : Nat, s.heap.size ≤ q → A q) (hD : wD A (cAd a q [] ++ rAd a2 [])) (hi : 0 ≤ i ∧ i + 6 ≤ (L : Int) ∧ L ≤ 384) (hC : cI k a q t wc) (hR : rI k a2 t wr) (hP : va_P D vwCl (wc ++ wr) H) (hS : va_S A s.heap H locs) (hl : lv_has ls 4 [(0, .ref b), (1, .ref (a 0)), (2, .ref (a2 0)), (3, .int (mI i))]) (kk : ∀ (t : Int) (wc wr : va_W) (H : Heap) (locs : List Loc) (ls : Array Slot), cI k a q t wc → rI k a2 t wr → va_P D vwCl (wc ++ wr) H → va_S A s.heap H locs → lv_has ls 4 [(0, .ref b), (1, .ref (a 0)), (2, .ref (a2 0)), (3, .int (mI i))] → W p l e room_1 s m #[Value.ref b] below meth c H locs 278 29046 Q (F0 m 1592 ls [])) : W p l e room_1 s m #[Value.ref b] below meth c H locs 278 29046 Q (F0 m 866 ls []) := by
  obtain ⟨z1, ez1, hz1⟩ := mI_of (xs (mI (i + 1)).toNatClampNeg)
  refine lv_aload_n hx hb dL_law_866 rfl (lv_at hl 1 rfl) ?_
  refine lv_aload_n hx hb dL_law_867 rfl (lv_at hl 0 rfl) ?_
  refine lv_iload_n hx hb dL_law_868 rfl (lv_at hl 3 rfl) ?_
  refine lv_iconst (v := mI 1) hx hb dL_law_869 rfl ?_
  refine sy_iadd hx hb dL_law_870 (i + 1) rfl ?_
  refine va_sld hx hb hXs hbl hbA hS (mI_in (by omega) (by omega) (by omega)) dL_law_871 ?_
  refine sy_top z1 ez1 ?_
  refine g_i (dCR hD hC hR) hS hA (g_V (own := "HideReaderLaw") (As := [.int (mI z1)]) (rest := []) hx hb hml hown hts hK hP (dCR hD hC hR) (mC_claim (l := l) (D := D) (k := k) hz1 hC) ck_X11_claim iv_X11_claim uw_5_118 (cI_recv hC hK hP) rfl hl.1 rfl (Nat.le_of_ble_eq_true rfl) dL_law_872 ⟨Nat.le_of_ble_eq_true rfl, Nat.le_of_ble_eq_true rfl⟩ ⟨Nat.le_of_ble_eq_true rfl, Nat.le_of_ble_eq_true rfl⟩) (fun r1 H locs hQ hS => ?_)
  obtain ⟨wc, hC, hP⟩ := hQ
  refine lv_pop hx hb dL_law_875 rfl ?_
  refine lv_aload_n hx hb dL_law_876 rfl (lv_at hl 2 rfl) ?_
  refine lv_aload_n hx hb dL_law_877 rfl (lv_at hl 0 rfl) ?_
  refine lv_iload_n hx hb dL_law_878 rfl (lv_at hl 3 rfl) ?_
  refine lv_iconst (v := mI 1) hx hb dL_law_879 rfl ?_
  refine sy_iadd hx hb dL_law_880 (i + 1) rfl ?_
  refine va_sld hx hb hXs hbl hbA hS (mI_in (by omega) (by omega) (by omega)) dL_law_881 ?_
  refine sy_top z1 ez1 ?_
  refine g_i (dRC hD hC hR) hS hA (g_V (own := "HideReaderLaw") (As := [.int (mI z1)]) (rest := []) hx hb hml hown hts hK (pCR hP) (dRC hD hC hR) (mR_claim (l := l) (D := D) (k := k) hz1 hR) ck_X12_claim iv_X12_claim uw_9_54 (rI_recv hR hK (pCR hP)) rfl hl.1 rfl (Nat.le_of_ble_eq_true rfl) dL_law_882 ⟨Nat.le_of_ble_eq_true rfl, Nat.le_of_ble_eq_true rfl⟩ ⟨Nat.le_of_ble_eq_true rfl, Nat.le_of_ble_eq_true rfl⟩) (fun r2 H locs hQ hS => ?_)
  obtain ⟨wr, hR, hP⟩ := hQ
  have hP := pCR hP
  refine lv_pop hx hb dL_law_885 rfl ?_
  refine lv_goto (tgt := 1592) hx hb dL_law_886 (by decide) ?_
  exact kk _ _ _ _ _ _ hC hR hP hS hl
set_option maxHeartbeats 4000000 in
set_option maxRecDepth 100000 in
theorem lc_25 {p : Program} {l : Launch} {e : Env} {s : State} {m : MethodId} {below : List Frame} {meth : Method} {c : Code} {D : va_G} {k : Nat → ClassId} {A : Nat → Prop} {b L : Nat} {xs : Nat → Int32} {a q a2 : Nat → Nat} {Q : State → Prop} {i t : Int} {wc wr : va_W} {H : Heap} {locs : List Loc} {ls : Array Slot} (hx : p.tables.exec = Jvm.exec) (hb : c.code = cL_law) (hml : c.maxLocals = 4) (hown : s.vm.findClass "HideReaderLaw" = some m.cls) (hts : ∀ w ∈ UT, w.before #[Value.ref b] s = true) (hXs : va_X b L xs s s.heap) (hbl : b < s.heap.size) (hbA : ¬ A b) (hK : va_K D vwCl (tys k) s) (hA : ∀ q : Nat, s.heap.size ≤ q → A q) (hD : wD A (cAd a q [] ++ rAd a2 [])) (hi : 0 ≤ i ∧ i + 6 ≤ (L : Int) ∧ L ≤ 384) (hC : cI k a q t wc) (hR : rI k a2 t wr) (hP : va_P D vwCl (wc ++ wr) H) (hS : va_S A s.heap H locs) (hl : lv_has ls 4 [(0, .ref b), (1, .ref (a 0)), (2, .ref (a2 0)), (3, .int (mI i))]) (kk : ∀ (t : Int) (wc wr : va_W) (H : Heap) (locs : List Loc) (ls : Array Slot), cI k a q t wc → rI k a2 t wr → va_P D vwCl (wc ++ wr) H → va_S A s.heap H locs → lv_has ls 4 [(0, .ref b), (1, .ref (a 0)), (2, .ref (a2 0)), (3, .int (mI i))] → W p l e room_1 s m #[Value.ref b] below meth c H locs 278 29046 Q (F0 m 1592 ls [])) : W p l e room_1 s m #[Value.ref b] below meth c H locs 278 29046 Q (F0 m 889 ls []) := by
  refine lv_aload_n hx hb dL_law_889 rfl (lv_at hl 1 rfl) ?_
  refine g_i (dCR hD hC hR) hS hA (g_V (own := "HideReaderLaw") (As := []) (rest := []) hx hb hml hown hts hK hP (dCR hD hC hR) (mC_safe (l := l) (D := D) (k := k)  hC) ck_X11_safe iv_X11_safe uw_5_126 (cI_recv hC hK hP) rfl hl.1 rfl (Nat.le_of_ble_eq_true rfl) dL_law_890 ⟨Nat.le_of_ble_eq_true rfl, Nat.le_of_ble_eq_true rfl⟩ ⟨Nat.le_of_ble_eq_true rfl, Nat.le_of_ble_eq_true rfl⟩) (fun r1 H locs hQ hS => ?_)
  obtain ⟨wc, hC, hP⟩ := hQ
  refine lv_pop hx hb dL_law_893 rfl ?_
  refine lv_aload_n hx hb dL_law_894 rfl (lv_at hl 2 rfl) ?_
  refine g_i (dRC hD hC hR) hS hA (g_V (own := "HideReaderLaw") (As := []) (rest := []) hx hb hml hown hts hK (pCR hP) (dRC hD hC hR) (mR_safe (l := l) (D := D) (k := k)  hR) ck_X12_safe iv_X12_safe uw_9_58 (rI_recv hR hK (pCR hP)) rfl hl.1 rfl (Nat.le_of_ble_eq_true rfl) dL_law_895 ⟨Nat.le_of_ble_eq_true rfl, Nat.le_of_ble_eq_true rfl⟩ ⟨Nat.le_of_ble_eq_true rfl, Nat.le_of_ble_eq_true rfl⟩) (fun r2 H locs hQ hS => ?_)
  obtain ⟨wr, hR, hP⟩ := hQ
  have hP := pCR hP
  refine lv_pop hx hb dL_law_898 rfl ?_
  refine lv_goto (tgt := 1592) hx hb dL_law_899 (by decide) ?_
  exact kk _ _ _ _ _ _ hC hR hP hS hl
set_option maxHeartbeats 4000000 in
set_option maxRecDepth 100000 in
theorem lc_26 {p : Program} {l : Launch} {e : Env} {s : State} {m : MethodId} {below : List Frame} {meth : Method} {c : Code} {D : va_G} {k : Nat → ClassId} {A : Nat → Prop} {b L : Nat} {xs : Nat → Int32} {a q a2 : Nat → Nat} {Q : State → Prop} {i t : Int} {wc wr : va_W} {H : Heap} {locs : List Loc} {ls : Array Slot} (hx : p.tables.exec = Jvm.exec) (hb : c.code = cL_law) (hml : c.maxLocals = 4) (hown : s.vm.findClass "HideReaderLaw" = some m.cls) (hts : ∀ w ∈ UT, w.before #[Value.ref b] s = true) (hXs : va_X b L xs s s.heap) (hbl : b < s.heap.size) (hbA : ¬ A b) (hK : va_K D vwCl (tys k) s) (hA : ∀ q : Nat, s.heap.size ≤ q → A q) (hD : wD A (cAd a q [] ++ rAd a2 [])) (hi : 0 ≤ i ∧ i + 6 ≤ (L : Int) ∧ L ≤ 384) (hC : cI k a q t wc) (hR : rI k a2 t wr) (hP : va_P D vwCl (wc ++ wr) H) (hS : va_S A s.heap H locs) (hl : lv_has ls 4 [(0, .ref b), (1, .ref (a 0)), (2, .ref (a2 0)), (3, .int (mI i))]) (kk : ∀ (t : Int) (wc wr : va_W) (H : Heap) (locs : List Loc) (ls : Array Slot), cI k a q t wc → rI k a2 t wr → va_P D vwCl (wc ++ wr) H → va_S A s.heap H locs → lv_has ls 4 [(0, .ref b), (1, .ref (a 0)), (2, .ref (a2 0)), (3, .int (mI i))] → W p l e room_1 s m #[Value.ref b] below meth c H locs 278 29046 Q (F0 m 1592 ls [])) : W p l e room_1 s m #[Value.ref b] below meth c H locs 278 29046 Q (F0 m 902 ls []) := by
  obtain ⟨z1, ez1, hz1⟩ := mI_of (xs (mI (i + 1)).toNatClampNeg)
  refine lv_aload_n hx hb dL_law_902 rfl (lv_at hl 1 rfl) ?_
  refine lv_aload_n hx hb dL_law_903 rfl (lv_at hl 0 rfl) ?_
  refine lv_iload_n hx hb dL_law_904 rfl (lv_at hl 3 rfl) ?_
  refine lv_iconst (v := mI 1) hx hb dL_law_905 rfl ?_
  refine sy_iadd hx hb dL_law_906 (i + 1) rfl ?_
  refine va_sld hx hb hXs hbl hbA hS (mI_in (by omega) (by omega) (by omega)) dL_law_907 ?_
  refine sy_top z1 ez1 ?_
  refine g_i (dCR hD hC hR) hS hA (g_V (own := "HideReaderLaw") (As := [.int (mI z1)]) (rest := []) hx hb hml hown hts hK hP (dCR hD hC hR) (mC_king (l := l) (D := D) (k := k) hz1 hC) ck_X11_king iv_X11_king uw_5_139 (cI_recv hC hK hP) rfl hl.1 rfl (Nat.le_of_ble_eq_true rfl) dL_law_908 ⟨Nat.le_of_ble_eq_true rfl, Nat.le_of_ble_eq_true rfl⟩ ⟨Nat.le_of_ble_eq_true rfl, Nat.le_of_ble_eq_true rfl⟩) (fun r1 H locs hQ hS => ?_)
  obtain ⟨wc, hC, hP⟩ := hQ
  refine lv_pop hx hb dL_law_911 rfl ?_
  refine lv_aload_n hx hb dL_law_912 rfl (lv_at hl 2 rfl) ?_
  refine lv_aload_n hx hb dL_law_913 rfl (lv_at hl 0 rfl) ?_
  refine lv_iload_n hx hb dL_law_914 rfl (lv_at hl 3 rfl) ?_
  refine lv_iconst (v := mI 1) hx hb dL_law_915 rfl ?_
  refine sy_iadd hx hb dL_law_916 (i + 1) rfl ?_
  refine va_sld hx hb hXs hbl hbA hS (mI_in (by omega) (by omega) (by omega)) dL_law_917 ?_
  refine sy_top z1 ez1 ?_
  refine g_i (dRC hD hC hR) hS hA (g_V (own := "HideReaderLaw") (As := [.int (mI z1)]) (rest := []) hx hb hml hown hts hK (pCR hP) (dRC hD hC hR) (mR_king (l := l) (D := D) (k := k) hz1 hR) ck_X12_king iv_X12_king uw_9_62 (rI_recv hR hK (pCR hP)) rfl hl.1 rfl (Nat.le_of_ble_eq_true rfl) dL_law_918 ⟨Nat.le_of_ble_eq_true rfl, Nat.le_of_ble_eq_true rfl⟩ ⟨Nat.le_of_ble_eq_true rfl, Nat.le_of_ble_eq_true rfl⟩) (fun r2 H locs hQ hS => ?_)
  obtain ⟨wr, hR, hP⟩ := hQ
  have hP := pCR hP
  refine lv_pop hx hb dL_law_921 rfl ?_
  refine lv_goto (tgt := 1592) hx hb dL_law_922 (by decide) ?_
  exact kk _ _ _ _ _ _ hC hR hP hS hl
set_option maxHeartbeats 4000000 in
set_option maxRecDepth 100000 in
theorem lc_27 {p : Program} {l : Launch} {e : Env} {s : State} {m : MethodId} {below : List Frame} {meth : Method} {c : Code} {D : va_G} {k : Nat → ClassId} {A : Nat → Prop} {b L : Nat} {xs : Nat → Int32} {a q a2 : Nat → Nat} {Q : State → Prop} {i t : Int} {wc wr : va_W} {H : Heap} {locs : List Loc} {ls : Array Slot} (hx : p.tables.exec = Jvm.exec) (hb : c.code = cL_law) (hml : c.maxLocals = 4) (hown : s.vm.findClass "HideReaderLaw" = some m.cls) (hts : ∀ w ∈ UT, w.before #[Value.ref b] s = true) (hXs : va_X b L xs s s.heap) (hbl : b < s.heap.size) (hbA : ¬ A b) (hK : va_K D vwCl (tys k) s) (hA : ∀ q : Nat, s.heap.size ≤ q → A q) (hD : wD A (cAd a q [] ++ rAd a2 [])) (hi : 0 ≤ i ∧ i + 6 ≤ (L : Int) ∧ L ≤ 384) (hC : cI k a q t wc) (hR : rI k a2 t wr) (hP : va_P D vwCl (wc ++ wr) H) (hS : va_S A s.heap H locs) (hl : lv_has ls 4 [(0, .ref b), (1, .ref (a 0)), (2, .ref (a2 0)), (3, .int (mI i))]) (kk : ∀ (t : Int) (wc wr : va_W) (H : Heap) (locs : List Loc) (ls : Array Slot), cI k a q t wc → rI k a2 t wr → va_P D vwCl (wc ++ wr) H → va_S A s.heap H locs → lv_has ls 4 [(0, .ref b), (1, .ref (a 0)), (2, .ref (a2 0)), (3, .int (mI i))] → W p l e room_1 s m #[Value.ref b] below meth c H locs 278 29046 Q (F0 m 1592 ls [])) : W p l e room_1 s m #[Value.ref b] below meth c H locs 278 29046 Q (F0 m 925 ls []) := by
  obtain ⟨z1, ez1, hz1⟩ := mI_of (xs (mI (i + 1)).toNatClampNeg)
  obtain ⟨z2, ez2, hz2⟩ := mI_of (xs (mI (i + 2)).toNatClampNeg)
  refine lv_aload_n hx hb dL_law_925 rfl (lv_at hl 1 rfl) ?_
  refine lv_aload_n hx hb dL_law_926 rfl (lv_at hl 0 rfl) ?_
  refine lv_iload_n hx hb dL_law_927 rfl (lv_at hl 3 rfl) ?_
  refine lv_iconst (v := mI 1) hx hb dL_law_928 rfl ?_
  refine sy_iadd hx hb dL_law_929 (i + 1) rfl ?_
  refine va_sld hx hb hXs hbl hbA hS (mI_in (by omega) (by omega) (by omega)) dL_law_930 ?_
  refine sy_top z1 ez1 ?_
  refine lv_aload_n hx hb dL_law_931 rfl (lv_at hl 0 rfl) ?_
  refine lv_iload_n hx hb dL_law_932 rfl (lv_at hl 3 rfl) ?_
  refine lv_iconst (v := mI 2) hx hb dL_law_933 rfl ?_
  refine sy_iadd hx hb dL_law_934 (i + 2) rfl ?_
  refine va_sld hx hb hXs hbl hbA hS (mI_in (by omega) (by omega) (by omega)) dL_law_935 ?_
  refine sy_top z2 ez2 ?_
  refine g_i (dCR hD hC hR) hS hA (g_V (own := "HideReaderLaw") (As := [.int (mI z1), .int (mI z2)]) (rest := []) hx hb hml hown hts hK hP (dCR hD hC hR) (mC_tempt (l := l) (D := D) (k := k) hz1 hz2 hC) ck_X11_tempt iv_X11_tempt uw_5_155 (cI_recv hC hK hP) rfl hl.1 rfl (Nat.le_of_ble_eq_true rfl) dL_law_936 ⟨Nat.le_of_ble_eq_true rfl, Nat.le_of_ble_eq_true rfl⟩ ⟨Nat.le_of_ble_eq_true rfl, Nat.le_of_ble_eq_true rfl⟩) (fun r1 H locs hQ hS => ?_)
  obtain ⟨wc, hC, hP⟩ := hQ
  refine lv_pop hx hb dL_law_939 rfl ?_
  refine lv_aload_n hx hb dL_law_940 rfl (lv_at hl 2 rfl) ?_
  refine lv_aload_n hx hb dL_law_941 rfl (lv_at hl 0 rfl) ?_
  refine lv_iload_n hx hb dL_law_942 rfl (lv_at hl 3 rfl) ?_
  refine lv_iconst (v := mI 1) hx hb dL_law_943 rfl ?_
  refine sy_iadd hx hb dL_law_944 (i + 1) rfl ?_
  refine va_sld hx hb hXs hbl hbA hS (mI_in (by omega) (by omega) (by omega)) dL_law_945 ?_
  refine sy_top z1 ez1 ?_
  refine lv_aload_n hx hb dL_law_946 rfl (lv_at hl 0 rfl) ?_
  refine lv_iload_n hx hb dL_law_947 rfl (lv_at hl 3 rfl) ?_
  refine lv_iconst (v := mI 2) hx hb dL_law_948 rfl ?_
  refine sy_iadd hx hb dL_law_949 (i + 2) rfl ?_
  refine va_sld hx hb hXs hbl hbA hS (mI_in (by omega) (by omega) (by omega)) dL_law_950 ?_
  refine sy_top z2 ez2 ?_
  refine g_i (dRC hD hC hR) hS hA (g_V (own := "HideReaderLaw") (As := [.int (mI z1), .int (mI z2)]) (rest := []) hx hb hml hown hts hK (pCR hP) (dRC hD hC hR) (mR_tempt (l := l) (D := D) (k := k) hz1 hz2 hR) ck_X12_tempt iv_X12_tempt uw_9_66 (rI_recv hR hK (pCR hP)) rfl hl.1 rfl (Nat.le_of_ble_eq_true rfl) dL_law_951 ⟨Nat.le_of_ble_eq_true rfl, Nat.le_of_ble_eq_true rfl⟩ ⟨Nat.le_of_ble_eq_true rfl, Nat.le_of_ble_eq_true rfl⟩) (fun r2 H locs hQ hS => ?_)
  obtain ⟨wr, hR, hP⟩ := hQ
  have hP := pCR hP
  refine lv_pop hx hb dL_law_954 rfl ?_
  refine lv_goto (tgt := 1592) hx hb dL_law_955 (by decide) ?_
  exact kk _ _ _ _ _ _ hC hR hP hS hl
set_option maxHeartbeats 4000000 in
set_option maxRecDepth 100000 in
theorem lc_28 {p : Program} {l : Launch} {e : Env} {s : State} {m : MethodId} {below : List Frame} {meth : Method} {c : Code} {D : va_G} {k : Nat → ClassId} {A : Nat → Prop} {b L : Nat} {xs : Nat → Int32} {a q a2 : Nat → Nat} {Q : State → Prop} {i t : Int} {wc wr : va_W} {H : Heap} {locs : List Loc} {ls : Array Slot} (hx : p.tables.exec = Jvm.exec) (hb : c.code = cL_law) (hml : c.maxLocals = 4) (hown : s.vm.findClass "HideReaderLaw" = some m.cls) (hts : ∀ w ∈ UT, w.before #[Value.ref b] s = true) (hXs : va_X b L xs s s.heap) (hbl : b < s.heap.size) (hbA : ¬ A b) (hK : va_K D vwCl (tys k) s) (hA : ∀ q : Nat, s.heap.size ≤ q → A q) (hD : wD A (cAd a q [] ++ rAd a2 [])) (hi : 0 ≤ i ∧ i + 6 ≤ (L : Int) ∧ L ≤ 384) (hC : cI k a q t wc) (hR : rI k a2 t wr) (hP : va_P D vwCl (wc ++ wr) H) (hS : va_S A s.heap H locs) (hl : lv_has ls 4 [(0, .ref b), (1, .ref (a 0)), (2, .ref (a2 0)), (3, .int (mI i))]) (kk : ∀ (t : Int) (wc wr : va_W) (H : Heap) (locs : List Loc) (ls : Array Slot), cI k a q t wc → rI k a2 t wr → va_P D vwCl (wc ++ wr) H → va_S A s.heap H locs → lv_has ls 4 [(0, .ref b), (1, .ref (a 0)), (2, .ref (a2 0)), (3, .int (mI i))] → W p l e room_1 s m #[Value.ref b] below meth c H locs 278 29046 Q (F0 m 1592 ls [])) : W p l e room_1 s m #[Value.ref b] below meth c H locs 278 29046 Q (F0 m 958 ls []) := by
  refine lv_aload_n hx hb dL_law_958 rfl (lv_at hl 1 rfl) ?_
  refine g_i (dCR hD hC hR) hS hA (g_V (own := "HideReaderLaw") (As := []) (rest := []) hx hb hml hown hts hK hP (dCR hD hC hR) (mC_useful (l := l) (D := D) (k := k)  hC) ck_X11_useful iv_X11_useful uw_5_163 (cI_recv hC hK hP) rfl hl.1 rfl (Nat.le_of_ble_eq_true rfl) dL_law_959 ⟨Nat.le_of_ble_eq_true rfl, Nat.le_of_ble_eq_true rfl⟩ ⟨Nat.le_of_ble_eq_true rfl, Nat.le_of_ble_eq_true rfl⟩) (fun r1 H locs hQ hS => ?_)
  obtain ⟨wc, hC, hP⟩ := hQ
  refine lv_pop hx hb dL_law_962 rfl ?_
  refine lv_aload_n hx hb dL_law_963 rfl (lv_at hl 2 rfl) ?_
  refine g_i (dRC hD hC hR) hS hA (g_V (own := "HideReaderLaw") (As := []) (rest := []) hx hb hml hown hts hK (pCR hP) (dRC hD hC hR) (mR_useful (l := l) (D := D) (k := k)  hR) ck_X12_useful iv_X12_useful uw_9_70 (rI_recv hR hK (pCR hP)) rfl hl.1 rfl (Nat.le_of_ble_eq_true rfl) dL_law_964 ⟨Nat.le_of_ble_eq_true rfl, Nat.le_of_ble_eq_true rfl⟩ ⟨Nat.le_of_ble_eq_true rfl, Nat.le_of_ble_eq_true rfl⟩) (fun r2 H locs hQ hS => ?_)
  obtain ⟨wr, hR, hP⟩ := hQ
  have hP := pCR hP
  refine lv_pop hx hb dL_law_967 rfl ?_
  refine lv_goto (tgt := 1592) hx hb dL_law_968 (by decide) ?_
  exact kk _ _ _ _ _ _ hC hR hP hS hl
set_option maxHeartbeats 4000000 in
set_option maxRecDepth 100000 in
theorem lc_29 {p : Program} {l : Launch} {e : Env} {s : State} {m : MethodId} {below : List Frame} {meth : Method} {c : Code} {D : va_G} {k : Nat → ClassId} {A : Nat → Prop} {b L : Nat} {xs : Nat → Int32} {a q a2 : Nat → Nat} {Q : State → Prop} {i t : Int} {wc wr : va_W} {H : Heap} {locs : List Loc} {ls : Array Slot} (hx : p.tables.exec = Jvm.exec) (hb : c.code = cL_law) (hml : c.maxLocals = 4) (hown : s.vm.findClass "HideReaderLaw" = some m.cls) (hts : ∀ w ∈ UT, w.before #[Value.ref b] s = true) (hXs : va_X b L xs s s.heap) (hbl : b < s.heap.size) (hbA : ¬ A b) (hK : va_K D vwCl (tys k) s) (hA : ∀ q : Nat, s.heap.size ≤ q → A q) (hD : wD A (cAd a q [] ++ rAd a2 [])) (hi : 0 ≤ i ∧ i + 6 ≤ (L : Int) ∧ L ≤ 384) (hC : cI k a q t wc) (hR : rI k a2 t wr) (hP : va_P D vwCl (wc ++ wr) H) (hS : va_S A s.heap H locs) (hl : lv_has ls 4 [(0, .ref b), (1, .ref (a 0)), (2, .ref (a2 0)), (3, .int (mI i))]) (kk : ∀ (t : Int) (wc wr : va_W) (H : Heap) (locs : List Loc) (ls : Array Slot), cI k a q t wc → rI k a2 t wr → va_P D vwCl (wc ++ wr) H → va_S A s.heap H locs → lv_has ls 4 [(0, .ref b), (1, .ref (a 0)), (2, .ref (a2 0)), (3, .int (mI i))] → W p l e room_1 s m #[Value.ref b] below meth c H locs 278 29046 Q (F0 m 1592 ls [])) : W p l e room_1 s m #[Value.ref b] below meth c H locs 278 29046 Q (F0 m 971 ls []) := by
  obtain ⟨z1, ez1, hz1⟩ := mI_of (xs (mI (i + 1)).toNatClampNeg)
  obtain ⟨z2, ez2, hz2⟩ := mI_of (xs (mI (i + 2)).toNatClampNeg)
  refine lv_aload_n hx hb dL_law_971 rfl (lv_at hl 1 rfl) ?_
  refine lv_aload_n hx hb dL_law_972 rfl (lv_at hl 0 rfl) ?_
  refine lv_iload_n hx hb dL_law_973 rfl (lv_at hl 3 rfl) ?_
  refine lv_iconst (v := mI 1) hx hb dL_law_974 rfl ?_
  refine sy_iadd hx hb dL_law_975 (i + 1) rfl ?_
  refine va_sld hx hb hXs hbl hbA hS (mI_in (by omega) (by omega) (by omega)) dL_law_976 ?_
  refine sy_top z1 ez1 ?_
  refine lv_aload_n hx hb dL_law_977 rfl (lv_at hl 0 rfl) ?_
  refine lv_iload_n hx hb dL_law_978 rfl (lv_at hl 3 rfl) ?_
  refine lv_iconst (v := mI 2) hx hb dL_law_979 rfl ?_
  refine sy_iadd hx hb dL_law_980 (i + 2) rfl ?_
  refine va_sld hx hb hXs hbl hbA hS (mI_in (by omega) (by omega) (by omega)) dL_law_981 ?_
  refine sy_top z2 ez2 ?_
  refine g_i (dCR hD hC hR) hS hA (g_V (own := "HideReaderLaw") (As := [.int (mI z1), .int (mI z2)]) (rest := []) hx hb hml hown hts hK hP (dCR hD hC hR) (mC_nearest (l := l) (D := D) (k := k) hz1 hz2 hC) ck_X11_nearest iv_X11_nearest uw_5_176 (cI_recv hC hK hP) rfl hl.1 rfl (Nat.le_of_ble_eq_true rfl) dL_law_982 ⟨Nat.le_of_ble_eq_true rfl, Nat.le_of_ble_eq_true rfl⟩ ⟨Nat.le_of_ble_eq_true rfl, Nat.le_of_ble_eq_true rfl⟩) (fun r1 H locs hQ hS => ?_)
  obtain ⟨wc, hC, hP⟩ := hQ
  refine lv_pop hx hb dL_law_985 rfl ?_
  refine lv_aload_n hx hb dL_law_986 rfl (lv_at hl 2 rfl) ?_
  refine lv_aload_n hx hb dL_law_987 rfl (lv_at hl 0 rfl) ?_
  refine lv_iload_n hx hb dL_law_988 rfl (lv_at hl 3 rfl) ?_
  refine lv_iconst (v := mI 1) hx hb dL_law_989 rfl ?_
  refine sy_iadd hx hb dL_law_990 (i + 1) rfl ?_
  refine va_sld hx hb hXs hbl hbA hS (mI_in (by omega) (by omega) (by omega)) dL_law_991 ?_
  refine sy_top z1 ez1 ?_
  refine lv_aload_n hx hb dL_law_992 rfl (lv_at hl 0 rfl) ?_
  refine lv_iload_n hx hb dL_law_993 rfl (lv_at hl 3 rfl) ?_
  refine lv_iconst (v := mI 2) hx hb dL_law_994 rfl ?_
  refine sy_iadd hx hb dL_law_995 (i + 2) rfl ?_
  refine va_sld hx hb hXs hbl hbA hS (mI_in (by omega) (by omega) (by omega)) dL_law_996 ?_
  refine sy_top z2 ez2 ?_
  refine g_i (dRC hD hC hR) hS hA (g_V (own := "HideReaderLaw") (As := [.int (mI z1), .int (mI z2)]) (rest := []) hx hb hml hown hts hK (pCR hP) (dRC hD hC hR) (mR_nearest (l := l) (D := D) (k := k) hz1 hz2 hR) ck_X12_nearest iv_X12_nearest uw_9_98 (rI_recv hR hK (pCR hP)) rfl hl.1 rfl (Nat.le_of_ble_eq_true rfl) dL_law_997 ⟨Nat.le_of_ble_eq_true rfl, Nat.le_of_ble_eq_true rfl⟩ ⟨Nat.le_of_ble_eq_true rfl, Nat.le_of_ble_eq_true rfl⟩) (fun r2 H locs hQ hS => ?_)
  obtain ⟨wr, hR, hP⟩ := hQ
  have hP := pCR hP
  refine lv_pop hx hb dL_law_1000 rfl ?_
  refine lv_goto (tgt := 1592) hx hb dL_law_1001 (by decide) ?_
  exact kk _ _ _ _ _ _ hC hR hP hS hl
set_option maxHeartbeats 4000000 in
set_option maxRecDepth 100000 in
theorem lc_30 {p : Program} {l : Launch} {e : Env} {s : State} {m : MethodId} {below : List Frame} {meth : Method} {c : Code} {D : va_G} {k : Nat → ClassId} {A : Nat → Prop} {b L : Nat} {xs : Nat → Int32} {a q a2 : Nat → Nat} {Q : State → Prop} {i t : Int} {wc wr : va_W} {H : Heap} {locs : List Loc} {ls : Array Slot} (hx : p.tables.exec = Jvm.exec) (hb : c.code = cL_law) (hml : c.maxLocals = 4) (hown : s.vm.findClass "HideReaderLaw" = some m.cls) (hts : ∀ w ∈ UT, w.before #[Value.ref b] s = true) (hXs : va_X b L xs s s.heap) (hbl : b < s.heap.size) (hbA : ¬ A b) (hK : va_K D vwCl (tys k) s) (hA : ∀ q : Nat, s.heap.size ≤ q → A q) (hD : wD A (cAd a q [] ++ rAd a2 [])) (hi : 0 ≤ i ∧ i + 6 ≤ (L : Int) ∧ L ≤ 384) (hC : cI k a q t wc) (hR : rI k a2 t wr) (hP : va_P D vwCl (wc ++ wr) H) (hS : va_S A s.heap H locs) (hl : lv_has ls 4 [(0, .ref b), (1, .ref (a 0)), (2, .ref (a2 0)), (3, .int (mI i))]) (kk : ∀ (t : Int) (wc wr : va_W) (H : Heap) (locs : List Loc) (ls : Array Slot), cI k a q t wc → rI k a2 t wr → va_P D vwCl (wc ++ wr) H → va_S A s.heap H locs → lv_has ls 4 [(0, .ref b), (1, .ref (a 0)), (2, .ref (a2 0)), (3, .int (mI i))] → W p l e room_1 s m #[Value.ref b] below meth c H locs 278 29046 Q (F0 m 1592 ls [])) : W p l e room_1 s m #[Value.ref b] below meth c H locs 278 29046 Q (F0 m 1004 ls []) := by
  obtain ⟨z1, ez1, hz1⟩ := mI_of (xs (mI (i + 1)).toNatClampNeg)
  obtain ⟨z2, ez2, hz2⟩ := mI_of (xs (mI (i + 2)).toNatClampNeg)
  refine lv_aload_n hx hb dL_law_1004 rfl (lv_at hl 1 rfl) ?_
  refine lv_aload_n hx hb dL_law_1005 rfl (lv_at hl 0 rfl) ?_
  refine lv_iload_n hx hb dL_law_1006 rfl (lv_at hl 3 rfl) ?_
  refine lv_iconst (v := mI 1) hx hb dL_law_1007 rfl ?_
  refine sy_iadd hx hb dL_law_1008 (i + 1) rfl ?_
  refine va_sld hx hb hXs hbl hbA hS (mI_in (by omega) (by omega) (by omega)) dL_law_1009 ?_
  refine sy_top z1 ez1 ?_
  refine lv_aload_n hx hb dL_law_1010 rfl (lv_at hl 0 rfl) ?_
  refine lv_iload_n hx hb dL_law_1011 rfl (lv_at hl 3 rfl) ?_
  refine lv_iconst (v := mI 2) hx hb dL_law_1012 rfl ?_
  refine sy_iadd hx hb dL_law_1013 (i + 2) rfl ?_
  refine va_sld hx hb hXs hbl hbA hS (mI_in (by omega) (by omega) (by omega)) dL_law_1014 ?_
  refine sy_top z2 ez2 ?_
  refine g_i (dCR hD hC hR) hS hA (g_V (own := "HideReaderLaw") (As := [.int (mI z1), .int (mI z2)]) (rest := []) hx hb hml hown hts hK hP (dCR hD hC hR) (mC_shared (l := l) (D := D) (k := k) hz1 hz2 hC) ck_X11_shared iv_X11_shared uw_5_190 (cI_recv hC hK hP) rfl hl.1 rfl (Nat.le_of_ble_eq_true rfl) dL_law_1015 ⟨Nat.le_of_ble_eq_true rfl, Nat.le_of_ble_eq_true rfl⟩ ⟨Nat.le_of_ble_eq_true rfl, Nat.le_of_ble_eq_true rfl⟩) (fun r1 H locs hQ hS => ?_)
  obtain ⟨wc, hC, hP⟩ := hQ
  refine lv_pop hx hb dL_law_1018 rfl ?_
  refine lv_aload_n hx hb dL_law_1019 rfl (lv_at hl 2 rfl) ?_
  refine lv_aload_n hx hb dL_law_1020 rfl (lv_at hl 0 rfl) ?_
  refine lv_iload_n hx hb dL_law_1021 rfl (lv_at hl 3 rfl) ?_
  refine lv_iconst (v := mI 1) hx hb dL_law_1022 rfl ?_
  refine sy_iadd hx hb dL_law_1023 (i + 1) rfl ?_
  refine va_sld hx hb hXs hbl hbA hS (mI_in (by omega) (by omega) (by omega)) dL_law_1024 ?_
  refine sy_top z1 ez1 ?_
  refine lv_aload_n hx hb dL_law_1025 rfl (lv_at hl 0 rfl) ?_
  refine lv_iload_n hx hb dL_law_1026 rfl (lv_at hl 3 rfl) ?_
  refine lv_iconst (v := mI 2) hx hb dL_law_1027 rfl ?_
  refine sy_iadd hx hb dL_law_1028 (i + 2) rfl ?_
  refine va_sld hx hb hXs hbl hbA hS (mI_in (by omega) (by omega) (by omega)) dL_law_1029 ?_
  refine sy_top z2 ez2 ?_
  refine g_i (dRC hD hC hR) hS hA (g_V (own := "HideReaderLaw") (As := [.int (mI z1), .int (mI z2)]) (rest := []) hx hb hml hown hts hK (pCR hP) (dRC hD hC hR) (mR_shared (l := l) (D := D) (k := k) hz1 hz2 hR) ck_X12_shared iv_X12_shared uw_9_106 (rI_recv hR hK (pCR hP)) rfl hl.1 rfl (Nat.le_of_ble_eq_true rfl) dL_law_1030 ⟨Nat.le_of_ble_eq_true rfl, Nat.le_of_ble_eq_true rfl⟩ ⟨Nat.le_of_ble_eq_true rfl, Nat.le_of_ble_eq_true rfl⟩) (fun r2 H locs hQ hS => ?_)
  obtain ⟨wr, hR, hP⟩ := hQ
  have hP := pCR hP
  refine lv_pop hx hb dL_law_1033 rfl ?_
  refine lv_goto (tgt := 1592) hx hb dL_law_1034 (by decide) ?_
  exact kk _ _ _ _ _ _ hC hR hP hS hl
set_option maxHeartbeats 4000000 in
set_option maxRecDepth 100000 in
theorem lc_31 {p : Program} {l : Launch} {e : Env} {s : State} {m : MethodId} {below : List Frame} {meth : Method} {c : Code} {D : va_G} {k : Nat → ClassId} {A : Nat → Prop} {b L : Nat} {xs : Nat → Int32} {a q a2 : Nat → Nat} {Q : State → Prop} {i t : Int} {wc wr : va_W} {H : Heap} {locs : List Loc} {ls : Array Slot} (hx : p.tables.exec = Jvm.exec) (hb : c.code = cL_law) (hml : c.maxLocals = 4) (hown : s.vm.findClass "HideReaderLaw" = some m.cls) (hts : ∀ w ∈ UT, w.before #[Value.ref b] s = true) (hXs : va_X b L xs s s.heap) (hbl : b < s.heap.size) (hbA : ¬ A b) (hK : va_K D vwCl (tys k) s) (hA : ∀ q : Nat, s.heap.size ≤ q → A q) (hD : wD A (cAd a q [] ++ rAd a2 [])) (hi : 0 ≤ i ∧ i + 6 ≤ (L : Int) ∧ L ≤ 384) (hC : cI k a q t wc) (hR : rI k a2 t wr) (hP : va_P D vwCl (wc ++ wr) H) (hS : va_S A s.heap H locs) (hl : lv_has ls 4 [(0, .ref b), (1, .ref (a 0)), (2, .ref (a2 0)), (3, .int (mI i))]) (kk : ∀ (t : Int) (wc wr : va_W) (H : Heap) (locs : List Loc) (ls : Array Slot), cI k a q t wc → rI k a2 t wr → va_P D vwCl (wc ++ wr) H → va_S A s.heap H locs → lv_has ls 4 [(0, .ref b), (1, .ref (a 0)), (2, .ref (a2 0)), (3, .int (mI i))] → W p l e room_1 s m #[Value.ref b] below meth c H locs 278 29046 Q (F0 m 1592 ls [])) : W p l e room_1 s m #[Value.ref b] below meth c H locs 278 29046 Q (F0 m 1037 ls []) := by
  obtain ⟨z1, ez1, hz1⟩ := mI_of (xs (mI (i + 1)).toNatClampNeg)
  refine lv_aload_n hx hb dL_law_1037 rfl (lv_at hl 1 rfl) ?_
  refine lv_aload_n hx hb dL_law_1038 rfl (lv_at hl 0 rfl) ?_
  refine lv_iload_n hx hb dL_law_1039 rfl (lv_at hl 3 rfl) ?_
  refine lv_iconst (v := mI 1) hx hb dL_law_1040 rfl ?_
  refine sy_iadd hx hb dL_law_1041 (i + 1) rfl ?_
  refine va_sld hx hb hXs hbl hbA hS (mI_in (by omega) (by omega) (by omega)) dL_law_1042 ?_
  refine sy_top z1 ez1 ?_
  refine g_i (dCR hD hC hR) hS hA (g_V (own := "HideReaderLaw") (As := [.int (mI z1)]) (rest := []) hx hb hml hown hts hK hP (dCR hD hC hR) (mC_fades (l := l) (D := D) (k := k) hz1 hC) ck_X11_fades iv_X11_fades uw_5_199 (cI_recv hC hK hP) rfl hl.1 rfl (Nat.le_of_ble_eq_true rfl) dL_law_1043 ⟨Nat.le_of_ble_eq_true rfl, Nat.le_of_ble_eq_true rfl⟩ ⟨Nat.le_of_ble_eq_true rfl, Nat.le_of_ble_eq_true rfl⟩) (fun r1 H locs hQ hS => ?_)
  obtain ⟨wc, hC, hP⟩ := hQ
  refine lv_pop hx hb dL_law_1046 rfl ?_
  refine lv_aload_n hx hb dL_law_1047 rfl (lv_at hl 2 rfl) ?_
  refine lv_aload_n hx hb dL_law_1048 rfl (lv_at hl 0 rfl) ?_
  refine lv_iload_n hx hb dL_law_1049 rfl (lv_at hl 3 rfl) ?_
  refine lv_iconst (v := mI 1) hx hb dL_law_1050 rfl ?_
  refine sy_iadd hx hb dL_law_1051 (i + 1) rfl ?_
  refine va_sld hx hb hXs hbl hbA hS (mI_in (by omega) (by omega) (by omega)) dL_law_1052 ?_
  refine sy_top z1 ez1 ?_
  refine g_i (dRC hD hC hR) hS hA (g_V (own := "HideReaderLaw") (As := [.int (mI z1)]) (rest := []) hx hb hml hown hts hK (pCR hP) (dRC hD hC hR) (mR_fades (l := l) (D := D) (k := k) hz1 hR) ck_X12_fades iv_X12_fades uw_9_110 (rI_recv hR hK (pCR hP)) rfl hl.1 rfl (Nat.le_of_ble_eq_true rfl) dL_law_1053 ⟨Nat.le_of_ble_eq_true rfl, Nat.le_of_ble_eq_true rfl⟩ ⟨Nat.le_of_ble_eq_true rfl, Nat.le_of_ble_eq_true rfl⟩) (fun r2 H locs hQ hS => ?_)
  obtain ⟨wr, hR, hP⟩ := hQ
  have hP := pCR hP
  refine lv_pop hx hb dL_law_1056 rfl ?_
  refine lv_goto (tgt := 1592) hx hb dL_law_1057 (by decide) ?_
  exact kk _ _ _ _ _ _ hC hR hP hS hl
set_option maxHeartbeats 4000000 in
set_option maxRecDepth 100000 in
theorem lc_32 {p : Program} {l : Launch} {e : Env} {s : State} {m : MethodId} {below : List Frame} {meth : Method} {c : Code} {D : va_G} {k : Nat → ClassId} {A : Nat → Prop} {b L : Nat} {xs : Nat → Int32} {a q a2 : Nat → Nat} {Q : State → Prop} {i t : Int} {wc wr : va_W} {H : Heap} {locs : List Loc} {ls : Array Slot} (hx : p.tables.exec = Jvm.exec) (hb : c.code = cL_law) (hml : c.maxLocals = 4) (hown : s.vm.findClass "HideReaderLaw" = some m.cls) (hts : ∀ w ∈ UT, w.before #[Value.ref b] s = true) (hXs : va_X b L xs s s.heap) (hbl : b < s.heap.size) (hbA : ¬ A b) (hK : va_K D vwCl (tys k) s) (hA : ∀ q : Nat, s.heap.size ≤ q → A q) (hD : wD A (cAd a q [] ++ rAd a2 [])) (hi : 0 ≤ i ∧ i + 6 ≤ (L : Int) ∧ L ≤ 384) (hC : cI k a q t wc) (hR : rI k a2 t wr) (hP : va_P D vwCl (wc ++ wr) H) (hS : va_S A s.heap H locs) (hl : lv_has ls 4 [(0, .ref b), (1, .ref (a 0)), (2, .ref (a2 0)), (3, .int (mI i))]) (kk : ∀ (t : Int) (wc wr : va_W) (H : Heap) (locs : List Loc) (ls : Array Slot), cI k a q t wc → rI k a2 t wr → va_P D vwCl (wc ++ wr) H → va_S A s.heap H locs → lv_has ls 4 [(0, .ref b), (1, .ref (a 0)), (2, .ref (a2 0)), (3, .int (mI i))] → W p l e room_1 s m #[Value.ref b] below meth c H locs 278 29046 Q (F0 m 1592 ls [])) : W p l e room_1 s m #[Value.ref b] below meth c H locs 278 29046 Q (F0 m 1060 ls []) := by
  refine lv_aload_n hx hb dL_law_1060 rfl (lv_at hl 1 rfl) ?_
  refine g_i (dCR hD hC hR) hS hA (g_V (own := "HideReaderLaw") (As := []) (rest := []) hx hb hml hown hts hK hP (dCR hD hC hR) (mC_twins (l := l) (D := D) (k := k)  hC) ck_X11_twins iv_X11_twins uw_5_207 (cI_recv hC hK hP) rfl hl.1 rfl (Nat.le_of_ble_eq_true rfl) dL_law_1061 ⟨Nat.le_of_ble_eq_true rfl, Nat.le_of_ble_eq_true rfl⟩ ⟨Nat.le_of_ble_eq_true rfl, Nat.le_of_ble_eq_true rfl⟩) (fun r1 H locs hQ hS => ?_)
  obtain ⟨wc, hC, hP⟩ := hQ
  refine lv_pop hx hb dL_law_1064 rfl ?_
  refine lv_aload_n hx hb dL_law_1065 rfl (lv_at hl 2 rfl) ?_
  refine g_i (dRC hD hC hR) hS hA (g_V (own := "HideReaderLaw") (As := []) (rest := []) hx hb hml hown hts hK (pCR hP) (dRC hD hC hR) (mR_twins (l := l) (D := D) (k := k)  hR) ck_X12_twins iv_X12_twins uw_9_94 (rI_recv hR hK (pCR hP)) rfl hl.1 rfl (Nat.le_of_ble_eq_true rfl) dL_law_1066 ⟨Nat.le_of_ble_eq_true rfl, Nat.le_of_ble_eq_true rfl⟩ ⟨Nat.le_of_ble_eq_true rfl, Nat.le_of_ble_eq_true rfl⟩) (fun r2 H locs hQ hS => ?_)
  obtain ⟨wr, hR, hP⟩ := hQ
  have hP := pCR hP
  refine lv_pop hx hb dL_law_1069 rfl ?_
  refine lv_goto (tgt := 1592) hx hb dL_law_1070 (by decide) ?_
  exact kk _ _ _ _ _ _ hC hR hP hS hl
set_option maxHeartbeats 4000000 in
set_option maxRecDepth 100000 in
theorem lc_33 {p : Program} {l : Launch} {e : Env} {s : State} {m : MethodId} {below : List Frame} {meth : Method} {c : Code} {D : va_G} {k : Nat → ClassId} {A : Nat → Prop} {b L : Nat} {xs : Nat → Int32} {a q a2 : Nat → Nat} {Q : State → Prop} {i t : Int} {wc wr : va_W} {H : Heap} {locs : List Loc} {ls : Array Slot} (hx : p.tables.exec = Jvm.exec) (hb : c.code = cL_law) (hml : c.maxLocals = 4) (hown : s.vm.findClass "HideReaderLaw" = some m.cls) (hts : ∀ w ∈ UT, w.before #[Value.ref b] s = true) (hXs : va_X b L xs s s.heap) (hbl : b < s.heap.size) (hbA : ¬ A b) (hK : va_K D vwCl (tys k) s) (hA : ∀ q : Nat, s.heap.size ≤ q → A q) (hD : wD A (cAd a q [] ++ rAd a2 [])) (hi : 0 ≤ i ∧ i + 6 ≤ (L : Int) ∧ L ≤ 384) (hC : cI k a q t wc) (hR : rI k a2 t wr) (hP : va_P D vwCl (wc ++ wr) H) (hS : va_S A s.heap H locs) (hl : lv_has ls 4 [(0, .ref b), (1, .ref (a 0)), (2, .ref (a2 0)), (3, .int (mI i))]) (kk : ∀ (t : Int) (wc wr : va_W) (H : Heap) (locs : List Loc) (ls : Array Slot), cI k a q t wc → rI k a2 t wr → va_P D vwCl (wc ++ wr) H → va_S A s.heap H locs → lv_has ls 4 [(0, .ref b), (1, .ref (a 0)), (2, .ref (a2 0)), (3, .int (mI i))] → W p l e room_1 s m #[Value.ref b] below meth c H locs 278 29046 Q (F0 m 1592 ls [])) : W p l e room_1 s m #[Value.ref b] below meth c H locs 278 29046 Q (F0 m 1073 ls []) := by
  refine lv_aload_n hx hb dL_law_1073 rfl (lv_at hl 1 rfl) ?_
  refine g_i (dCR hD hC hR) hS hA (g_V (own := "HideReaderLaw") (As := []) (rest := []) hx hb hml hown hts hK hP (dCR hD hC hR) (mC_untouched (l := l) (D := D) (k := k)  hC) ck_X11_untouched iv_X11_untouched uw_5_215 (cI_recv hC hK hP) rfl hl.1 rfl (Nat.le_of_ble_eq_true rfl) dL_law_1074 ⟨Nat.le_of_ble_eq_true rfl, Nat.le_of_ble_eq_true rfl⟩ ⟨Nat.le_of_ble_eq_true rfl, Nat.le_of_ble_eq_true rfl⟩) (fun r1 H locs hQ hS => ?_)
  obtain ⟨wc, hC, hP⟩ := hQ
  refine lv_pop hx hb dL_law_1077 rfl ?_
  refine lv_aload_n hx hb dL_law_1078 rfl (lv_at hl 2 rfl) ?_
  refine g_i (dRC hD hC hR) hS hA (g_V (own := "HideReaderLaw") (As := []) (rest := []) hx hb hml hown hts hK (pCR hP) (dRC hD hC hR) (mR_untouched (l := l) (D := D) (k := k)  hR) ck_X12_untouched iv_X12_untouched uw_8_214 (rI_recv hR hK (pCR hP)) rfl hl.1 rfl (Nat.le_of_ble_eq_true rfl) dL_law_1079 ⟨Nat.le_of_ble_eq_true rfl, Nat.le_of_ble_eq_true rfl⟩ ⟨Nat.le_of_ble_eq_true rfl, Nat.le_of_ble_eq_true rfl⟩) (fun r2 H locs hQ hS => ?_)
  obtain ⟨wr, hR, hP⟩ := hQ
  have hP := pCR hP
  refine lv_pop hx hb dL_law_1082 rfl ?_
  refine lv_goto (tgt := 1592) hx hb dL_law_1083 (by decide) ?_
  exact kk _ _ _ _ _ _ hC hR hP hS hl
set_option maxHeartbeats 4000000 in
set_option maxRecDepth 100000 in
theorem lc_34 {p : Program} {l : Launch} {e : Env} {s : State} {m : MethodId} {below : List Frame} {meth : Method} {c : Code} {D : va_G} {k : Nat → ClassId} {A : Nat → Prop} {b L : Nat} {xs : Nat → Int32} {a q a2 : Nat → Nat} {Q : State → Prop} {i t : Int} {wc wr : va_W} {H : Heap} {locs : List Loc} {ls : Array Slot} (hx : p.tables.exec = Jvm.exec) (hb : c.code = cL_law) (hml : c.maxLocals = 4) (hown : s.vm.findClass "HideReaderLaw" = some m.cls) (hts : ∀ w ∈ UT, w.before #[Value.ref b] s = true) (hXs : va_X b L xs s s.heap) (hbl : b < s.heap.size) (hbA : ¬ A b) (hK : va_K D vwCl (tys k) s) (hA : ∀ q : Nat, s.heap.size ≤ q → A q) (hD : wD A (cAd a q [] ++ rAd a2 [])) (hi : 0 ≤ i ∧ i + 6 ≤ (L : Int) ∧ L ≤ 384) (hC : cI k a q t wc) (hR : rI k a2 t wr) (hP : va_P D vwCl (wc ++ wr) H) (hS : va_S A s.heap H locs) (hl : lv_has ls 4 [(0, .ref b), (1, .ref (a 0)), (2, .ref (a2 0)), (3, .int (mI i))]) (kk : ∀ (t : Int) (wc wr : va_W) (H : Heap) (locs : List Loc) (ls : Array Slot), cI k a q t wc → rI k a2 t wr → va_P D vwCl (wc ++ wr) H → va_S A s.heap H locs → lv_has ls 4 [(0, .ref b), (1, .ref (a 0)), (2, .ref (a2 0)), (3, .int (mI i))] → W p l e room_1 s m #[Value.ref b] below meth c H locs 278 29046 Q (F0 m 1592 ls [])) : W p l e room_1 s m #[Value.ref b] below meth c H locs 278 29046 Q (F0 m 1086 ls []) := by
  refine lv_aload_n hx hb dL_law_1086 rfl (lv_at hl 1 rfl) ?_
  refine g_i (dCR hD hC hR) hS hA (g_V (own := "HideReaderLaw") (As := []) (rest := []) hx hb hml hown hts hK hP (dCR hD hC hR) (mC_tells (l := l) (D := D) (k := k)  hC) ck_X11_tells iv_X11_tells uw_5_223 (cI_recv hC hK hP) rfl hl.1 rfl (Nat.le_of_ble_eq_true rfl) dL_law_1087 ⟨Nat.le_of_ble_eq_true rfl, Nat.le_of_ble_eq_true rfl⟩ ⟨Nat.le_of_ble_eq_true rfl, Nat.le_of_ble_eq_true rfl⟩) (fun r1 H locs hQ hS => ?_)
  obtain ⟨wc, hC, hP⟩ := hQ
  refine lv_pop hx hb dL_law_1090 rfl ?_
  refine lv_aload_n hx hb dL_law_1091 rfl (lv_at hl 2 rfl) ?_
  refine g_i (dRC hD hC hR) hS hA (g_V (own := "HideReaderLaw") (As := []) (rest := []) hx hb hml hown hts hK (pCR hP) (dRC hD hC hR) (mR_tells (l := l) (D := D) (k := k)  hR) ck_X12_tells iv_X12_tells uw_8_218 (rI_recv hR hK (pCR hP)) rfl hl.1 rfl (Nat.le_of_ble_eq_true rfl) dL_law_1092 ⟨Nat.le_of_ble_eq_true rfl, Nat.le_of_ble_eq_true rfl⟩ ⟨Nat.le_of_ble_eq_true rfl, Nat.le_of_ble_eq_true rfl⟩) (fun r2 H locs hQ hS => ?_)
  obtain ⟨wr, hR, hP⟩ := hQ
  have hP := pCR hP
  refine lv_pop hx hb dL_law_1095 rfl ?_
  refine lv_goto (tgt := 1592) hx hb dL_law_1096 (by decide) ?_
  exact kk _ _ _ _ _ _ hC hR hP hS hl
set_option maxHeartbeats 4000000 in
set_option maxRecDepth 100000 in
theorem lc_35 {p : Program} {l : Launch} {e : Env} {s : State} {m : MethodId} {below : List Frame} {meth : Method} {c : Code} {D : va_G} {k : Nat → ClassId} {A : Nat → Prop} {b L : Nat} {xs : Nat → Int32} {a q a2 : Nat → Nat} {Q : State → Prop} {i t : Int} {wc wr : va_W} {H : Heap} {locs : List Loc} {ls : Array Slot} (hx : p.tables.exec = Jvm.exec) (hb : c.code = cL_law) (hml : c.maxLocals = 4) (hown : s.vm.findClass "HideReaderLaw" = some m.cls) (hts : ∀ w ∈ UT, w.before #[Value.ref b] s = true) (hXs : va_X b L xs s s.heap) (hbl : b < s.heap.size) (hbA : ¬ A b) (hK : va_K D vwCl (tys k) s) (hA : ∀ q : Nat, s.heap.size ≤ q → A q) (hD : wD A (cAd a q [] ++ rAd a2 [])) (hi : 0 ≤ i ∧ i + 6 ≤ (L : Int) ∧ L ≤ 384) (hC : cI k a q t wc) (hR : rI k a2 t wr) (hP : va_P D vwCl (wc ++ wr) H) (hS : va_S A s.heap H locs) (hl : lv_has ls 4 [(0, .ref b), (1, .ref (a 0)), (2, .ref (a2 0)), (3, .int (mI i))]) (kk : ∀ (t : Int) (wc wr : va_W) (H : Heap) (locs : List Loc) (ls : Array Slot), cI k a q t wc → rI k a2 t wr → va_P D vwCl (wc ++ wr) H → va_S A s.heap H locs → lv_has ls 4 [(0, .ref b), (1, .ref (a 0)), (2, .ref (a2 0)), (3, .int (mI i))] → W p l e room_1 s m #[Value.ref b] below meth c H locs 278 29046 Q (F0 m 1592 ls [])) : W p l e room_1 s m #[Value.ref b] below meth c H locs 278 29046 Q (F0 m 1099 ls []) := by
  obtain ⟨z1, ez1, hz1⟩ := mI_of (xs (mI (i + 1)).toNatClampNeg)
  obtain ⟨z2, ez2, hz2⟩ := mI_of (xs (mI (i + 2)).toNatClampNeg)
  refine lv_aload_n hx hb dL_law_1099 rfl (lv_at hl 1 rfl) ?_
  refine lv_aload_n hx hb dL_law_1100 rfl (lv_at hl 0 rfl) ?_
  refine lv_iload_n hx hb dL_law_1101 rfl (lv_at hl 3 rfl) ?_
  refine lv_iconst (v := mI 1) hx hb dL_law_1102 rfl ?_
  refine sy_iadd hx hb dL_law_1103 (i + 1) rfl ?_
  refine va_sld hx hb hXs hbl hbA hS (mI_in (by omega) (by omega) (by omega)) dL_law_1104 ?_
  refine sy_top z1 ez1 ?_
  refine lv_aload_n hx hb dL_law_1105 rfl (lv_at hl 0 rfl) ?_
  refine lv_iload_n hx hb dL_law_1106 rfl (lv_at hl 3 rfl) ?_
  refine lv_iconst (v := mI 2) hx hb dL_law_1107 rfl ?_
  refine sy_iadd hx hb dL_law_1108 (i + 2) rfl ?_
  refine va_sld hx hb hXs hbl hbA hS (mI_in (by omega) (by omega) (by omega)) dL_law_1109 ?_
  refine sy_top z2 ez2 ?_
  refine g_i (dCR hD hC hR) hS hA (g_V (own := "HideReaderLaw") (As := [.int (mI z1), .int (mI z2)]) (rest := []) hx hb hml hown hts hK hP (dCR hD hC hR) (mC_raid (l := l) (D := D) (k := k) hz1 hz2 hC) ck_X11_raid iv_X11_raid uw_5_234 (cI_recv hC hK hP) rfl hl.1 rfl (Nat.le_of_ble_eq_true rfl) dL_law_1110 ⟨Nat.le_of_ble_eq_true rfl, Nat.le_of_ble_eq_true rfl⟩ ⟨Nat.le_of_ble_eq_true rfl, Nat.le_of_ble_eq_true rfl⟩) (fun r1 H locs hQ hS => ?_)
  obtain ⟨wc, hC, hP⟩ := hQ
  refine lv_pop hx hb dL_law_1113 rfl ?_
  refine lv_aload_n hx hb dL_law_1114 rfl (lv_at hl 2 rfl) ?_
  refine lv_aload_n hx hb dL_law_1115 rfl (lv_at hl 0 rfl) ?_
  refine lv_iload_n hx hb dL_law_1116 rfl (lv_at hl 3 rfl) ?_
  refine lv_iconst (v := mI 1) hx hb dL_law_1117 rfl ?_
  refine sy_iadd hx hb dL_law_1118 (i + 1) rfl ?_
  refine va_sld hx hb hXs hbl hbA hS (mI_in (by omega) (by omega) (by omega)) dL_law_1119 ?_
  refine sy_top z1 ez1 ?_
  refine lv_aload_n hx hb dL_law_1120 rfl (lv_at hl 0 rfl) ?_
  refine lv_iload_n hx hb dL_law_1121 rfl (lv_at hl 3 rfl) ?_
  refine lv_iconst (v := mI 2) hx hb dL_law_1122 rfl ?_
  refine sy_iadd hx hb dL_law_1123 (i + 2) rfl ?_
  refine va_sld hx hb hXs hbl hbA hS (mI_in (by omega) (by omega) (by omega)) dL_law_1124 ?_
  refine sy_top z2 ez2 ?_
  refine g_i (dRC hD hC hR) hS hA (g_V (own := "HideReaderLaw") (As := [.int (mI z1), .int (mI z2)]) (rest := []) hx hb hml hown hts hK (pCR hP) (dRC hD hC hR) (mR_raid (l := l) (D := D) (k := k) hz1 hz2 hR) ck_X12_raid iv_X12_raid uw_9_130 (rI_recv hR hK (pCR hP)) rfl hl.1 rfl (Nat.le_of_ble_eq_true rfl) dL_law_1125 ⟨Nat.le_of_ble_eq_true rfl, Nat.le_of_ble_eq_true rfl⟩ ⟨Nat.le_of_ble_eq_true rfl, Nat.le_of_ble_eq_true rfl⟩) (fun r2 H locs hQ hS => ?_)
  obtain ⟨wr, hR, hP⟩ := hQ
  have hP := pCR hP
  refine lv_pop hx hb dL_law_1128 rfl ?_
  refine lv_goto (tgt := 1592) hx hb dL_law_1129 (by decide) ?_
  exact kk _ _ _ _ _ _ hC hR hP hS hl
set_option maxHeartbeats 4000000 in
set_option maxRecDepth 100000 in
theorem lc_36 {p : Program} {l : Launch} {e : Env} {s : State} {m : MethodId} {below : List Frame} {meth : Method} {c : Code} {D : va_G} {k : Nat → ClassId} {A : Nat → Prop} {b L : Nat} {xs : Nat → Int32} {a q a2 : Nat → Nat} {Q : State → Prop} {i t : Int} {wc wr : va_W} {H : Heap} {locs : List Loc} {ls : Array Slot} (hx : p.tables.exec = Jvm.exec) (hb : c.code = cL_law) (hml : c.maxLocals = 4) (hown : s.vm.findClass "HideReaderLaw" = some m.cls) (hts : ∀ w ∈ UT, w.before #[Value.ref b] s = true) (hXs : va_X b L xs s s.heap) (hbl : b < s.heap.size) (hbA : ¬ A b) (hK : va_K D vwCl (tys k) s) (hA : ∀ q : Nat, s.heap.size ≤ q → A q) (hD : wD A (cAd a q [] ++ rAd a2 [])) (hi : 0 ≤ i ∧ i + 6 ≤ (L : Int) ∧ L ≤ 384) (hC : cI k a q t wc) (hR : rI k a2 t wr) (hP : va_P D vwCl (wc ++ wr) H) (hS : va_S A s.heap H locs) (hl : lv_has ls 4 [(0, .ref b), (1, .ref (a 0)), (2, .ref (a2 0)), (3, .int (mI i))]) (kk : ∀ (t : Int) (wc wr : va_W) (H : Heap) (locs : List Loc) (ls : Array Slot), cI k a q t wc → rI k a2 t wr → va_P D vwCl (wc ++ wr) H → va_S A s.heap H locs → lv_has ls 4 [(0, .ref b), (1, .ref (a 0)), (2, .ref (a2 0)), (3, .int (mI i))] → W p l e room_1 s m #[Value.ref b] below meth c H locs 278 29046 Q (F0 m 1592 ls [])) : W p l e room_1 s m #[Value.ref b] below meth c H locs 278 29046 Q (F0 m 1132 ls []) := by
  refine lv_aload_n hx hb dL_law_1132 rfl (lv_at hl 1 rfl) ?_
  refine g_i (dCR hD hC hR) hS hA (g_V (own := "HideReaderLaw") (As := []) (rest := []) hx hb hml hown hts hK hP (dCR hD hC hR) (mC_closed (l := l) (D := D) (k := k)  hC) ck_X11_closed iv_X11_closed uw_6_10 (cI_recv hC hK hP) rfl hl.1 rfl (Nat.le_of_ble_eq_true rfl) dL_law_1133 ⟨Nat.le_of_ble_eq_true rfl, Nat.le_of_ble_eq_true rfl⟩ ⟨Nat.le_of_ble_eq_true rfl, Nat.le_of_ble_eq_true rfl⟩) (fun r1 H locs hQ hS => ?_)
  obtain ⟨wc, hC, hP⟩ := hQ
  refine lv_pop hx hb dL_law_1136 rfl ?_
  refine lv_aload_n hx hb dL_law_1137 rfl (lv_at hl 2 rfl) ?_
  refine g_i (dRC hD hC hR) hS hA (g_V (own := "HideReaderLaw") (As := []) (rest := []) hx hb hml hown hts hK (pCR hP) (dRC hD hC hR) (mR_closed (l := l) (D := D) (k := k)  hR) ck_X12_closed iv_X12_closed uw_9_90 (rI_recv hR hK (pCR hP)) rfl hl.1 rfl (Nat.le_of_ble_eq_true rfl) dL_law_1138 ⟨Nat.le_of_ble_eq_true rfl, Nat.le_of_ble_eq_true rfl⟩ ⟨Nat.le_of_ble_eq_true rfl, Nat.le_of_ble_eq_true rfl⟩) (fun r2 H locs hQ hS => ?_)
  obtain ⟨wr, hR, hP⟩ := hQ
  have hP := pCR hP
  refine lv_pop hx hb dL_law_1141 rfl ?_
  refine lv_goto (tgt := 1592) hx hb dL_law_1142 (by decide) ?_
  exact kk _ _ _ _ _ _ hC hR hP hS hl
set_option maxHeartbeats 4000000 in
set_option maxRecDepth 100000 in
theorem lc_37 {p : Program} {l : Launch} {e : Env} {s : State} {m : MethodId} {below : List Frame} {meth : Method} {c : Code} {D : va_G} {k : Nat → ClassId} {A : Nat → Prop} {b L : Nat} {xs : Nat → Int32} {a q a2 : Nat → Nat} {Q : State → Prop} {i t : Int} {wc wr : va_W} {H : Heap} {locs : List Loc} {ls : Array Slot} (hx : p.tables.exec = Jvm.exec) (hb : c.code = cL_law) (hml : c.maxLocals = 4) (hown : s.vm.findClass "HideReaderLaw" = some m.cls) (hts : ∀ w ∈ UT, w.before #[Value.ref b] s = true) (hXs : va_X b L xs s s.heap) (hbl : b < s.heap.size) (hbA : ¬ A b) (hK : va_K D vwCl (tys k) s) (hA : ∀ q : Nat, s.heap.size ≤ q → A q) (hD : wD A (cAd a q [] ++ rAd a2 [])) (hi : 0 ≤ i ∧ i + 6 ≤ (L : Int) ∧ L ≤ 384) (hC : cI k a q t wc) (hR : rI k a2 t wr) (hP : va_P D vwCl (wc ++ wr) H) (hS : va_S A s.heap H locs) (hl : lv_has ls 4 [(0, .ref b), (1, .ref (a 0)), (2, .ref (a2 0)), (3, .int (mI i))]) (kk : ∀ (t : Int) (wc wr : va_W) (H : Heap) (locs : List Loc) (ls : Array Slot), cI k a q t wc → rI k a2 t wr → va_P D vwCl (wc ++ wr) H → va_S A s.heap H locs → lv_has ls 4 [(0, .ref b), (1, .ref (a 0)), (2, .ref (a2 0)), (3, .int (mI i))] → W p l e room_1 s m #[Value.ref b] below meth c H locs 278 29046 Q (F0 m 1592 ls [])) : W p l e room_1 s m #[Value.ref b] below meth c H locs 278 29046 Q (F0 m 1145 ls []) := by
  obtain ⟨z1, ez1, hz1⟩ := mI_of (xs (mI (i + 1)).toNatClampNeg)
  refine lv_aload_n hx hb dL_law_1145 rfl (lv_at hl 1 rfl) ?_
  refine lv_aload_n hx hb dL_law_1146 rfl (lv_at hl 0 rfl) ?_
  refine lv_iload_n hx hb dL_law_1147 rfl (lv_at hl 3 rfl) ?_
  refine lv_iconst (v := mI 1) hx hb dL_law_1148 rfl ?_
  refine sy_iadd hx hb dL_law_1149 (i + 1) rfl ?_
  refine va_sld hx hb hXs hbl hbA hS (mI_in (by omega) (by omega) (by omega)) dL_law_1150 ?_
  refine sy_top z1 ez1 ?_
  refine g_i (dCR hD hC hR) hS hA (g_V (own := "HideReaderLaw") (As := [.int (mI z1)]) (rest := []) hx hb hml hown hts hK hP (dCR hD hC hR) (mC_faces (l := l) (D := D) (k := k) hz1 hC) ck_X11_faces iv_X11_faces uw_6_20 (cI_recv hC hK hP) rfl hl.1 rfl (Nat.le_of_ble_eq_true rfl) dL_law_1151 ⟨Nat.le_of_ble_eq_true rfl, Nat.le_of_ble_eq_true rfl⟩ ⟨Nat.le_of_ble_eq_true rfl, Nat.le_of_ble_eq_true rfl⟩) (fun r1 H locs hQ hS => ?_)
  obtain ⟨wc, hC, hP⟩ := hQ
  refine lv_pop hx hb dL_law_1154 rfl ?_
  refine lv_aload_n hx hb dL_law_1155 rfl (lv_at hl 2 rfl) ?_
  refine lv_aload_n hx hb dL_law_1156 rfl (lv_at hl 0 rfl) ?_
  refine lv_iload_n hx hb dL_law_1157 rfl (lv_at hl 3 rfl) ?_
  refine lv_iconst (v := mI 1) hx hb dL_law_1158 rfl ?_
  refine sy_iadd hx hb dL_law_1159 (i + 1) rfl ?_
  refine va_sld hx hb hXs hbl hbA hS (mI_in (by omega) (by omega) (by omega)) dL_law_1160 ?_
  refine sy_top z1 ez1 ?_
  refine g_i (dRC hD hC hR) hS hA (g_V (own := "HideReaderLaw") (As := [.int (mI z1)]) (rest := []) hx hb hml hown hts hK (pCR hP) (dRC hD hC hR) (mR_faces (l := l) (D := D) (k := k) hz1 hR) ck_X12_faces iv_X12_faces uw_8_198 (rI_recv hR hK (pCR hP)) rfl hl.1 rfl (Nat.le_of_ble_eq_true rfl) dL_law_1161 ⟨Nat.le_of_ble_eq_true rfl, Nat.le_of_ble_eq_true rfl⟩ ⟨Nat.le_of_ble_eq_true rfl, Nat.le_of_ble_eq_true rfl⟩) (fun r2 H locs hQ hS => ?_)
  obtain ⟨wr, hR, hP⟩ := hQ
  have hP := pCR hP
  refine lv_pop hx hb dL_law_1164 rfl ?_
  refine lv_goto (tgt := 1592) hx hb dL_law_1165 (by decide) ?_
  exact kk _ _ _ _ _ _ hC hR hP hS hl
set_option maxHeartbeats 4000000 in
set_option maxRecDepth 100000 in
theorem lc_38 {p : Program} {l : Launch} {e : Env} {s : State} {m : MethodId} {below : List Frame} {meth : Method} {c : Code} {D : va_G} {k : Nat → ClassId} {A : Nat → Prop} {b L : Nat} {xs : Nat → Int32} {a q a2 : Nat → Nat} {Q : State → Prop} {i t : Int} {wc wr : va_W} {H : Heap} {locs : List Loc} {ls : Array Slot} (hx : p.tables.exec = Jvm.exec) (hb : c.code = cL_law) (hml : c.maxLocals = 4) (hown : s.vm.findClass "HideReaderLaw" = some m.cls) (hts : ∀ w ∈ UT, w.before #[Value.ref b] s = true) (hXs : va_X b L xs s s.heap) (hbl : b < s.heap.size) (hbA : ¬ A b) (hK : va_K D vwCl (tys k) s) (hA : ∀ q : Nat, s.heap.size ≤ q → A q) (hD : wD A (cAd a q [] ++ rAd a2 [])) (hi : 0 ≤ i ∧ i + 6 ≤ (L : Int) ∧ L ≤ 384) (hC : cI k a q t wc) (hR : rI k a2 t wr) (hP : va_P D vwCl (wc ++ wr) H) (hS : va_S A s.heap H locs) (hl : lv_has ls 4 [(0, .ref b), (1, .ref (a 0)), (2, .ref (a2 0)), (3, .int (mI i))]) (kk : ∀ (t : Int) (wc wr : va_W) (H : Heap) (locs : List Loc) (ls : Array Slot), cI k a q t wc → rI k a2 t wr → va_P D vwCl (wc ++ wr) H → va_S A s.heap H locs → lv_has ls 4 [(0, .ref b), (1, .ref (a 0)), (2, .ref (a2 0)), (3, .int (mI i))] → W p l e room_1 s m #[Value.ref b] below meth c H locs 278 29046 Q (F0 m 1592 ls [])) : W p l e room_1 s m #[Value.ref b] below meth c H locs 278 29046 Q (F0 m 1168 ls []) := by
  obtain ⟨z1, ez1, hz1⟩ := mI_of (xs (mI (i + 1)).toNatClampNeg)
  refine lv_aload_n hx hb dL_law_1168 rfl (lv_at hl 1 rfl) ?_
  refine lv_aload_n hx hb dL_law_1169 rfl (lv_at hl 0 rfl) ?_
  refine lv_iload_n hx hb dL_law_1170 rfl (lv_at hl 3 rfl) ?_
  refine lv_iconst (v := mI 1) hx hb dL_law_1171 rfl ?_
  refine sy_iadd hx hb dL_law_1172 (i + 1) rfl ?_
  refine va_sld hx hb hXs hbl hbA hS (mI_in (by omega) (by omega) (by omega)) dL_law_1173 ?_
  refine sy_top z1 ez1 ?_
  refine g_i (dCR hD hC hR) hS hA (g_V (own := "HideReaderLaw") (As := [.int (mI z1)]) (rest := []) hx hb hml hown hts hK hP (dCR hD hC hR) (mC_norm (l := l) (D := D) (k := k) hz1 hC) ck_X11_norm iv_X11_norm uw_6_28 (cI_recv hC hK hP) rfl hl.1 rfl (Nat.le_of_ble_eq_true rfl) dL_law_1174 ⟨Nat.le_of_ble_eq_true rfl, Nat.le_of_ble_eq_true rfl⟩ ⟨Nat.le_of_ble_eq_true rfl, Nat.le_of_ble_eq_true rfl⟩) (fun r1 H locs hQ hS => ?_)
  obtain ⟨wc, hC, hP⟩ := hQ
  refine lv_pop hx hb dL_law_1177 rfl ?_
  refine lv_aload_n hx hb dL_law_1178 rfl (lv_at hl 2 rfl) ?_
  refine lv_aload_n hx hb dL_law_1179 rfl (lv_at hl 0 rfl) ?_
  refine lv_iload_n hx hb dL_law_1180 rfl (lv_at hl 3 rfl) ?_
  refine lv_iconst (v := mI 1) hx hb dL_law_1181 rfl ?_
  refine sy_iadd hx hb dL_law_1182 (i + 1) rfl ?_
  refine va_sld hx hb hXs hbl hbA hS (mI_in (by omega) (by omega) (by omega)) dL_law_1183 ?_
  refine sy_top z1 ez1 ?_
  refine g_i (dRC hD hC hR) hS hA (g_V (own := "HideReaderLaw") (As := [.int (mI z1)]) (rest := []) hx hb hml hown hts hK (pCR hP) (dRC hD hC hR) (mR_norm (l := l) (D := D) (k := k) hz1 hR) ck_X12_norm iv_X12_norm uw_8_190 (rI_recv hR hK (pCR hP)) rfl hl.1 rfl (Nat.le_of_ble_eq_true rfl) dL_law_1184 ⟨Nat.le_of_ble_eq_true rfl, Nat.le_of_ble_eq_true rfl⟩ ⟨Nat.le_of_ble_eq_true rfl, Nat.le_of_ble_eq_true rfl⟩) (fun r2 H locs hQ hS => ?_)
  obtain ⟨wr, hR, hP⟩ := hQ
  have hP := pCR hP
  refine lv_pop hx hb dL_law_1187 rfl ?_
  refine lv_goto (tgt := 1592) hx hb dL_law_1188 (by decide) ?_
  exact kk _ _ _ _ _ _ hC hR hP hS hl
set_option maxHeartbeats 4000000 in
set_option maxRecDepth 100000 in
theorem lc_39 {p : Program} {l : Launch} {e : Env} {s : State} {m : MethodId} {below : List Frame} {meth : Method} {c : Code} {D : va_G} {k : Nat → ClassId} {A : Nat → Prop} {b L : Nat} {xs : Nat → Int32} {a q a2 : Nat → Nat} {Q : State → Prop} {i t : Int} {wc wr : va_W} {H : Heap} {locs : List Loc} {ls : Array Slot} (hx : p.tables.exec = Jvm.exec) (hb : c.code = cL_law) (hml : c.maxLocals = 4) (hown : s.vm.findClass "HideReaderLaw" = some m.cls) (hts : ∀ w ∈ UT, w.before #[Value.ref b] s = true) (hXs : va_X b L xs s s.heap) (hbl : b < s.heap.size) (hbA : ¬ A b) (hK : va_K D vwCl (tys k) s) (hA : ∀ q : Nat, s.heap.size ≤ q → A q) (hD : wD A (cAd a q [] ++ rAd a2 [])) (hi : 0 ≤ i ∧ i + 6 ≤ (L : Int) ∧ L ≤ 384) (hC : cI k a q t wc) (hR : rI k a2 t wr) (hP : va_P D vwCl (wc ++ wr) H) (hS : va_S A s.heap H locs) (hl : lv_has ls 4 [(0, .ref b), (1, .ref (a 0)), (2, .ref (a2 0)), (3, .int (mI i))]) (kk : ∀ (t : Int) (wc wr : va_W) (H : Heap) (locs : List Loc) (ls : Array Slot), cI k a q t wc → rI k a2 t wr → va_P D vwCl (wc ++ wr) H → va_S A s.heap H locs → lv_has ls 4 [(0, .ref b), (1, .ref (a 0)), (2, .ref (a2 0)), (3, .int (mI i))] → W p l e room_1 s m #[Value.ref b] below meth c H locs 278 29046 Q (F0 m 1592 ls [])) : W p l e room_1 s m #[Value.ref b] below meth c H locs 278 29046 Q (F0 m 1191 ls []) := by
  refine lv_aload_n hx hb dL_law_1191 rfl (lv_at hl 1 rfl) ?_
  refine g_i (dCR hD hC hR) hS hA (g_V (own := "HideReaderLaw") (As := []) (rest := []) hx hb hml hown hts hK hP (dCR hD hC hR) (mC_strays (l := l) (D := D) (k := k)  hC) ck_X11_strays iv_X11_strays uw_6_33 (cI_recv hC hK hP) rfl hl.1 rfl (Nat.le_of_ble_eq_true rfl) dL_law_1192 ⟨Nat.le_of_ble_eq_true rfl, Nat.le_of_ble_eq_true rfl⟩ ⟨Nat.le_of_ble_eq_true rfl, Nat.le_of_ble_eq_true rfl⟩) (fun r1 H locs hQ hS => ?_)
  obtain ⟨wc, hC, hP⟩ := hQ
  refine lv_pop hx hb dL_law_1195 rfl ?_
  refine lv_aload_n hx hb dL_law_1196 rfl (lv_at hl 2 rfl) ?_
  refine g_i (dRC hD hC hR) hS hA (g_V (own := "HideReaderLaw") (As := []) (rest := []) hx hb hml hown hts hK (pCR hP) (dRC hD hC hR) (mR_strays (l := l) (D := D) (k := k)  hR) ck_X12_strays iv_X12_strays uw_8_206 (rI_recv hR hK (pCR hP)) rfl hl.1 rfl (Nat.le_of_ble_eq_true rfl) dL_law_1197 ⟨Nat.le_of_ble_eq_true rfl, Nat.le_of_ble_eq_true rfl⟩ ⟨Nat.le_of_ble_eq_true rfl, Nat.le_of_ble_eq_true rfl⟩) (fun r2 H locs hQ hS => ?_)
  obtain ⟨wr, hR, hP⟩ := hQ
  have hP := pCR hP
  refine lv_pop hx hb dL_law_1200 rfl ?_
  refine lv_goto (tgt := 1592) hx hb dL_law_1201 (by decide) ?_
  exact kk _ _ _ _ _ _ hC hR hP hS hl
set_option maxHeartbeats 4000000 in
set_option maxRecDepth 100000 in
theorem lc_40 {p : Program} {l : Launch} {e : Env} {s : State} {m : MethodId} {below : List Frame} {meth : Method} {c : Code} {D : va_G} {k : Nat → ClassId} {A : Nat → Prop} {b L : Nat} {xs : Nat → Int32} {a q a2 : Nat → Nat} {Q : State → Prop} {i t : Int} {wc wr : va_W} {H : Heap} {locs : List Loc} {ls : Array Slot} (hx : p.tables.exec = Jvm.exec) (hb : c.code = cL_law) (hml : c.maxLocals = 4) (hown : s.vm.findClass "HideReaderLaw" = some m.cls) (hts : ∀ w ∈ UT, w.before #[Value.ref b] s = true) (hXs : va_X b L xs s s.heap) (hbl : b < s.heap.size) (hbA : ¬ A b) (hK : va_K D vwCl (tys k) s) (hA : ∀ q : Nat, s.heap.size ≤ q → A q) (hD : wD A (cAd a q [] ++ rAd a2 [])) (hi : 0 ≤ i ∧ i + 6 ≤ (L : Int) ∧ L ≤ 384) (hC : cI k a q t wc) (hR : rI k a2 t wr) (hP : va_P D vwCl (wc ++ wr) H) (hS : va_S A s.heap H locs) (hl : lv_has ls 4 [(0, .ref b), (1, .ref (a 0)), (2, .ref (a2 0)), (3, .int (mI i))]) (kk : ∀ (t : Int) (wc wr : va_W) (H : Heap) (locs : List Loc) (ls : Array Slot), cI k a q t wc → rI k a2 t wr → va_P D vwCl (wc ++ wr) H → va_S A s.heap H locs → lv_has ls 4 [(0, .ref b), (1, .ref (a 0)), (2, .ref (a2 0)), (3, .int (mI i))] → W p l e room_1 s m #[Value.ref b] below meth c H locs 278 29046 Q (F0 m 1592 ls [])) : W p l e room_1 s m #[Value.ref b] below meth c H locs 278 29046 Q (F0 m 1204 ls []) := by
  obtain ⟨z1, ez1, hz1⟩ := mI_of (xs (mI (i + 1)).toNatClampNeg)
  refine lv_aload_n hx hb dL_law_1204 rfl (lv_at hl 1 rfl) ?_
  refine lv_aload_n hx hb dL_law_1205 rfl (lv_at hl 0 rfl) ?_
  refine lv_iload_n hx hb dL_law_1206 rfl (lv_at hl 3 rfl) ?_
  refine lv_iconst (v := mI 1) hx hb dL_law_1207 rfl ?_
  refine sy_iadd hx hb dL_law_1208 (i + 1) rfl ?_
  refine va_sld hx hb hXs hbl hbA hS (mI_in (by omega) (by omega) (by omega)) dL_law_1209 ?_
  refine sy_top z1 ez1 ?_
  refine g_i (dCR hD hC hR) hS hA (g_V (own := "HideReaderLaw") (As := [.int (mI z1)]) (rest := []) hx hb hml hown hts hK hP (dCR hD hC hR) (mC_oldest (l := l) (D := D) (k := k) hz1 hC) ck_X11_oldest iv_X11_oldest uw_6_41 (cI_recv hC hK hP) rfl hl.1 rfl (Nat.le_of_ble_eq_true rfl) dL_law_1210 ⟨Nat.le_of_ble_eq_true rfl, Nat.le_of_ble_eq_true rfl⟩ ⟨Nat.le_of_ble_eq_true rfl, Nat.le_of_ble_eq_true rfl⟩) (fun r1 H locs hQ hS => ?_)
  obtain ⟨wc, hC, hP⟩ := hQ
  refine lv_pop hx hb dL_law_1213 rfl ?_
  refine lv_aload_n hx hb dL_law_1214 rfl (lv_at hl 2 rfl) ?_
  refine lv_aload_n hx hb dL_law_1215 rfl (lv_at hl 0 rfl) ?_
  refine lv_iload_n hx hb dL_law_1216 rfl (lv_at hl 3 rfl) ?_
  refine lv_iconst (v := mI 1) hx hb dL_law_1217 rfl ?_
  refine sy_iadd hx hb dL_law_1218 (i + 1) rfl ?_
  refine va_sld hx hb hXs hbl hbA hS (mI_in (by omega) (by omega) (by omega)) dL_law_1219 ?_
  refine sy_top z1 ez1 ?_
  refine g_i (dRC hD hC hR) hS hA (g_V (own := "HideReaderLaw") (As := [.int (mI z1)]) (rest := []) hx hb hml hown hts hK (pCR hP) (dRC hD hC hR) (mR_oldest (l := l) (D := D) (k := k) hz1 hR) ck_X12_oldest iv_X12_oldest uw_8_202 (rI_recv hR hK (pCR hP)) rfl hl.1 rfl (Nat.le_of_ble_eq_true rfl) dL_law_1220 ⟨Nat.le_of_ble_eq_true rfl, Nat.le_of_ble_eq_true rfl⟩ ⟨Nat.le_of_ble_eq_true rfl, Nat.le_of_ble_eq_true rfl⟩) (fun r2 H locs hQ hS => ?_)
  obtain ⟨wr, hR, hP⟩ := hQ
  have hP := pCR hP
  refine lv_pop hx hb dL_law_1223 rfl ?_
  refine lv_goto (tgt := 1592) hx hb dL_law_1224 (by decide) ?_
  exact kk _ _ _ _ _ _ hC hR hP hS hl
set_option maxHeartbeats 4000000 in
set_option maxRecDepth 100000 in
theorem lc_41 {p : Program} {l : Launch} {e : Env} {s : State} {m : MethodId} {below : List Frame} {meth : Method} {c : Code} {D : va_G} {k : Nat → ClassId} {A : Nat → Prop} {b L : Nat} {xs : Nat → Int32} {a q a2 : Nat → Nat} {Q : State → Prop} {i t : Int} {wc wr : va_W} {H : Heap} {locs : List Loc} {ls : Array Slot} (hx : p.tables.exec = Jvm.exec) (hb : c.code = cL_law) (hml : c.maxLocals = 4) (hown : s.vm.findClass "HideReaderLaw" = some m.cls) (hts : ∀ w ∈ UT, w.before #[Value.ref b] s = true) (hXs : va_X b L xs s s.heap) (hbl : b < s.heap.size) (hbA : ¬ A b) (hK : va_K D vwCl (tys k) s) (hA : ∀ q : Nat, s.heap.size ≤ q → A q) (hD : wD A (cAd a q [] ++ rAd a2 [])) (hi : 0 ≤ i ∧ i + 6 ≤ (L : Int) ∧ L ≤ 384) (hC : cI k a q t wc) (hR : rI k a2 t wr) (hP : va_P D vwCl (wc ++ wr) H) (hS : va_S A s.heap H locs) (hl : lv_has ls 4 [(0, .ref b), (1, .ref (a 0)), (2, .ref (a2 0)), (3, .int (mI i))]) (kk : ∀ (t : Int) (wc wr : va_W) (H : Heap) (locs : List Loc) (ls : Array Slot), cI k a q t wc → rI k a2 t wr → va_P D vwCl (wc ++ wr) H → va_S A s.heap H locs → lv_has ls 4 [(0, .ref b), (1, .ref (a 0)), (2, .ref (a2 0)), (3, .int (mI i))] → W p l e room_1 s m #[Value.ref b] below meth c H locs 278 29046 Q (F0 m 1592 ls [])) : W p l e room_1 s m #[Value.ref b] below meth c H locs 278 29046 Q (F0 m 1227 ls []) := by
  obtain ⟨z1, ez1, hz1⟩ := mI_of (xs (mI (i + 1)).toNatClampNeg)
  refine lv_aload_n hx hb dL_law_1227 rfl (lv_at hl 1 rfl) ?_
  refine lv_aload_n hx hb dL_law_1228 rfl (lv_at hl 0 rfl) ?_
  refine lv_iload_n hx hb dL_law_1229 rfl (lv_at hl 3 rfl) ?_
  refine lv_iconst (v := mI 1) hx hb dL_law_1230 rfl ?_
  refine sy_iadd hx hb dL_law_1231 (i + 1) rfl ?_
  refine va_sld hx hb hXs hbl hbA hS (mI_in (by omega) (by omega) (by omega)) dL_law_1232 ?_
  refine sy_top z1 ez1 ?_
  refine g_i (dCR hD hC hR) hS hA (g_V (own := "HideReaderLaw") (As := [.int (mI z1)]) (rest := []) hx hb hml hown hts hK hP (dCR hD hC hR) (mC_will (l := l) (D := D) (k := k) hz1 hC) ck_X11_will iv_X11_will uw_6_51 (cI_recv hC hK hP) rfl hl.1 rfl (Nat.le_of_ble_eq_true rfl) dL_law_1233 ⟨Nat.le_of_ble_eq_true rfl, Nat.le_of_ble_eq_true rfl⟩ ⟨Nat.le_of_ble_eq_true rfl, Nat.le_of_ble_eq_true rfl⟩) (fun r1 H locs hQ hS => ?_)
  obtain ⟨wc, hC, hP⟩ := hQ
  refine lv_pop hx hb dL_law_1236 rfl ?_
  refine lv_aload_n hx hb dL_law_1237 rfl (lv_at hl 2 rfl) ?_
  refine lv_aload_n hx hb dL_law_1238 rfl (lv_at hl 0 rfl) ?_
  refine lv_iload_n hx hb dL_law_1239 rfl (lv_at hl 3 rfl) ?_
  refine lv_iconst (v := mI 1) hx hb dL_law_1240 rfl ?_
  refine sy_iadd hx hb dL_law_1241 (i + 1) rfl ?_
  refine va_sld hx hb hXs hbl hbA hS (mI_in (by omega) (by omega) (by omega)) dL_law_1242 ?_
  refine sy_top z1 ez1 ?_
  refine g_i (dRC hD hC hR) hS hA (g_V (own := "HideReaderLaw") (As := [.int (mI z1)]) (rest := []) hx hb hml hown hts hK (pCR hP) (dRC hD hC hR) (mR_will (l := l) (D := D) (k := k) hz1 hR) ck_X12_will iv_X12_will uw_8_222 (rI_recv hR hK (pCR hP)) rfl hl.1 rfl (Nat.le_of_ble_eq_true rfl) dL_law_1243 ⟨Nat.le_of_ble_eq_true rfl, Nat.le_of_ble_eq_true rfl⟩ ⟨Nat.le_of_ble_eq_true rfl, Nat.le_of_ble_eq_true rfl⟩) (fun r2 H locs hQ hS => ?_)
  obtain ⟨wr, hR, hP⟩ := hQ
  have hP := pCR hP
  refine lv_pop hx hb dL_law_1246 rfl ?_
  refine lv_goto (tgt := 1592) hx hb dL_law_1247 (by decide) ?_
  exact kk _ _ _ _ _ _ hC hR hP hS hl
set_option maxHeartbeats 4000000 in
set_option maxRecDepth 100000 in
theorem lc_42 {p : Program} {l : Launch} {e : Env} {s : State} {m : MethodId} {below : List Frame} {meth : Method} {c : Code} {D : va_G} {k : Nat → ClassId} {A : Nat → Prop} {b L : Nat} {xs : Nat → Int32} {a q a2 : Nat → Nat} {Q : State → Prop} {i t : Int} {wc wr : va_W} {H : Heap} {locs : List Loc} {ls : Array Slot} (hx : p.tables.exec = Jvm.exec) (hb : c.code = cL_law) (hml : c.maxLocals = 4) (hown : s.vm.findClass "HideReaderLaw" = some m.cls) (hts : ∀ w ∈ UT, w.before #[Value.ref b] s = true) (hXs : va_X b L xs s s.heap) (hbl : b < s.heap.size) (hbA : ¬ A b) (hK : va_K D vwCl (tys k) s) (hA : ∀ q : Nat, s.heap.size ≤ q → A q) (hD : wD A (cAd a q [] ++ rAd a2 [])) (hi : 0 ≤ i ∧ i + 6 ≤ (L : Int) ∧ L ≤ 384) (hC : cI k a q t wc) (hR : rI k a2 t wr) (hP : va_P D vwCl (wc ++ wr) H) (hS : va_S A s.heap H locs) (hl : lv_has ls 4 [(0, .ref b), (1, .ref (a 0)), (2, .ref (a2 0)), (3, .int (mI i))]) (kk : ∀ (t : Int) (wc wr : va_W) (H : Heap) (locs : List Loc) (ls : Array Slot), cI k a q t wc → rI k a2 t wr → va_P D vwCl (wc ++ wr) H → va_S A s.heap H locs → lv_has ls 4 [(0, .ref b), (1, .ref (a 0)), (2, .ref (a2 0)), (3, .int (mI i))] → W p l e room_1 s m #[Value.ref b] below meth c H locs 278 29046 Q (F0 m 1592 ls [])) : W p l e room_1 s m #[Value.ref b] below meth c H locs 278 29046 Q (F0 m 1250 ls []) := by
  obtain ⟨z1, ez1, hz1⟩ := mI_of (xs (mI (i + 1)).toNatClampNeg)
  refine lv_aload_n hx hb dL_law_1250 rfl (lv_at hl 1 rfl) ?_
  refine lv_aload_n hx hb dL_law_1251 rfl (lv_at hl 0 rfl) ?_
  refine lv_iload_n hx hb dL_law_1252 rfl (lv_at hl 3 rfl) ?_
  refine lv_iconst (v := mI 1) hx hb dL_law_1253 rfl ?_
  refine sy_iadd hx hb dL_law_1254 (i + 1) rfl ?_
  refine va_sld hx hb hXs hbl hbA hS (mI_in (by omega) (by omega) (by omega)) dL_law_1255 ?_
  refine sy_top z1 ez1 ?_
  refine g_i (dCR hD hC hR) hS hA (g_V (own := "HideReaderLaw") (As := [.int (mI z1)]) (rest := []) hx hb hml hown hts hK hP (dCR hD hC hR) (mC_law (l := l) (D := D) (k := k) hz1 hC) ck_X11_law iv_X11_law uw_6_59 (cI_recv hC hK hP) rfl hl.1 rfl (Nat.le_of_ble_eq_true rfl) dL_law_1256 ⟨Nat.le_of_ble_eq_true rfl, Nat.le_of_ble_eq_true rfl⟩ ⟨Nat.le_of_ble_eq_true rfl, Nat.le_of_ble_eq_true rfl⟩) (fun r1 H locs hQ hS => ?_)
  obtain ⟨wc, hC, hP⟩ := hQ
  refine lv_pop hx hb dL_law_1259 rfl ?_
  refine lv_aload_n hx hb dL_law_1260 rfl (lv_at hl 2 rfl) ?_
  refine lv_aload_n hx hb dL_law_1261 rfl (lv_at hl 0 rfl) ?_
  refine lv_iload_n hx hb dL_law_1262 rfl (lv_at hl 3 rfl) ?_
  refine lv_iconst (v := mI 1) hx hb dL_law_1263 rfl ?_
  refine sy_iadd hx hb dL_law_1264 (i + 1) rfl ?_
  refine va_sld hx hb hXs hbl hbA hS (mI_in (by omega) (by omega) (by omega)) dL_law_1265 ?_
  refine sy_top z1 ez1 ?_
  refine g_i (dRC hD hC hR) hS hA (g_V (own := "HideReaderLaw") (As := [.int (mI z1)]) (rest := []) hx hb hml hown hts hK (pCR hP) (dRC hD hC hR) (mR_law (l := l) (D := D) (k := k) hz1 hR) ck_X12_law iv_X12_law uw_8_230 (rI_recv hR hK (pCR hP)) rfl hl.1 rfl (Nat.le_of_ble_eq_true rfl) dL_law_1266 ⟨Nat.le_of_ble_eq_true rfl, Nat.le_of_ble_eq_true rfl⟩ ⟨Nat.le_of_ble_eq_true rfl, Nat.le_of_ble_eq_true rfl⟩) (fun r2 H locs hQ hS => ?_)
  obtain ⟨wr, hR, hP⟩ := hQ
  have hP := pCR hP
  refine lv_pop hx hb dL_law_1269 rfl ?_
  refine lv_goto (tgt := 1592) hx hb dL_law_1270 (by decide) ?_
  exact kk _ _ _ _ _ _ hC hR hP hS hl
set_option maxHeartbeats 4000000 in
set_option maxRecDepth 100000 in
theorem lc_43 {p : Program} {l : Launch} {e : Env} {s : State} {m : MethodId} {below : List Frame} {meth : Method} {c : Code} {D : va_G} {k : Nat → ClassId} {A : Nat → Prop} {b L : Nat} {xs : Nat → Int32} {a q a2 : Nat → Nat} {Q : State → Prop} {i t : Int} {wc wr : va_W} {H : Heap} {locs : List Loc} {ls : Array Slot} (hx : p.tables.exec = Jvm.exec) (hb : c.code = cL_law) (hml : c.maxLocals = 4) (hown : s.vm.findClass "HideReaderLaw" = some m.cls) (hts : ∀ w ∈ UT, w.before #[Value.ref b] s = true) (hXs : va_X b L xs s s.heap) (hbl : b < s.heap.size) (hbA : ¬ A b) (hK : va_K D vwCl (tys k) s) (hA : ∀ q : Nat, s.heap.size ≤ q → A q) (hD : wD A (cAd a q [] ++ rAd a2 [])) (hi : 0 ≤ i ∧ i + 6 ≤ (L : Int) ∧ L ≤ 384) (hC : cI k a q t wc) (hR : rI k a2 t wr) (hP : va_P D vwCl (wc ++ wr) H) (hS : va_S A s.heap H locs) (hl : lv_has ls 4 [(0, .ref b), (1, .ref (a 0)), (2, .ref (a2 0)), (3, .int (mI i))]) (kk : ∀ (t : Int) (wc wr : va_W) (H : Heap) (locs : List Loc) (ls : Array Slot), cI k a q t wc → rI k a2 t wr → va_P D vwCl (wc ++ wr) H → va_S A s.heap H locs → lv_has ls 4 [(0, .ref b), (1, .ref (a 0)), (2, .ref (a2 0)), (3, .int (mI i))] → W p l e room_1 s m #[Value.ref b] below meth c H locs 278 29046 Q (F0 m 1592 ls [])) : W p l e room_1 s m #[Value.ref b] below meth c H locs 278 29046 Q (F0 m 1273 ls []) := by
  obtain ⟨z1, ez1, hz1⟩ := mI_of (xs (mI (i + 1)).toNatClampNeg)
  obtain ⟨z2, ez2, hz2⟩ := mI_of (xs (mI (i + 2)).toNatClampNeg)
  refine lv_aload_n hx hb dL_law_1273 rfl (lv_at hl 1 rfl) ?_
  refine lv_aload_n hx hb dL_law_1274 rfl (lv_at hl 0 rfl) ?_
  refine lv_iload_n hx hb dL_law_1275 rfl (lv_at hl 3 rfl) ?_
  refine lv_iconst (v := mI 1) hx hb dL_law_1276 rfl ?_
  refine sy_iadd hx hb dL_law_1277 (i + 1) rfl ?_
  refine va_sld hx hb hXs hbl hbA hS (mI_in (by omega) (by omega) (by omega)) dL_law_1278 ?_
  refine sy_top z1 ez1 ?_
  refine lv_aload_n hx hb dL_law_1279 rfl (lv_at hl 0 rfl) ?_
  refine lv_iload_n hx hb dL_law_1280 rfl (lv_at hl 3 rfl) ?_
  refine lv_iconst (v := mI 2) hx hb dL_law_1281 rfl ?_
  refine sy_iadd hx hb dL_law_1282 (i + 2) rfl ?_
  refine va_sld hx hb hXs hbl hbA hS (mI_in (by omega) (by omega) (by omega)) dL_law_1283 ?_
  refine sy_top z2 ez2 ?_
  refine g_i (dCR hD hC hR) hS hA (g_V (own := "HideReaderLaw") (As := [.int (mI z1), .int (mI z2)]) (rest := []) hx hb hml hown hts hK hP (dCR hD hC hR) (mC_odds (l := l) (D := D) (k := k) hz1 hz2 hC) ck_X11_odds iv_X11_odds uw_6_67 (cI_recv hC hK hP) rfl hl.1 rfl (Nat.le_of_ble_eq_true rfl) dL_law_1284 ⟨Nat.le_of_ble_eq_true rfl, Nat.le_of_ble_eq_true rfl⟩ ⟨Nat.le_of_ble_eq_true rfl, Nat.le_of_ble_eq_true rfl⟩) (fun r1 H locs hQ hS => ?_)
  obtain ⟨wc, hC, hP⟩ := hQ
  refine lv_pop hx hb dL_law_1287 rfl ?_
  refine lv_aload_n hx hb dL_law_1288 rfl (lv_at hl 2 rfl) ?_
  refine lv_aload_n hx hb dL_law_1289 rfl (lv_at hl 0 rfl) ?_
  refine lv_iload_n hx hb dL_law_1290 rfl (lv_at hl 3 rfl) ?_
  refine lv_iconst (v := mI 1) hx hb dL_law_1291 rfl ?_
  refine sy_iadd hx hb dL_law_1292 (i + 1) rfl ?_
  refine va_sld hx hb hXs hbl hbA hS (mI_in (by omega) (by omega) (by omega)) dL_law_1293 ?_
  refine sy_top z1 ez1 ?_
  refine lv_aload_n hx hb dL_law_1294 rfl (lv_at hl 0 rfl) ?_
  refine lv_iload_n hx hb dL_law_1295 rfl (lv_at hl 3 rfl) ?_
  refine lv_iconst (v := mI 2) hx hb dL_law_1296 rfl ?_
  refine sy_iadd hx hb dL_law_1297 (i + 2) rfl ?_
  refine va_sld hx hb hXs hbl hbA hS (mI_in (by omega) (by omega) (by omega)) dL_law_1298 ?_
  refine sy_top z2 ez2 ?_
  refine g_i (dRC hD hC hR) hS hA (g_V (own := "HideReaderLaw") (As := [.int (mI z1), .int (mI z2)]) (rest := []) hx hb hml hown hts hK (pCR hP) (dRC hD hC hR) (mR_odds (l := l) (D := D) (k := k) hz1 hz2 hR) ck_X12_odds iv_X12_odds uw_9_142 (rI_recv hR hK (pCR hP)) rfl hl.1 rfl (Nat.le_of_ble_eq_true rfl) dL_law_1299 ⟨Nat.le_of_ble_eq_true rfl, Nat.le_of_ble_eq_true rfl⟩ ⟨Nat.le_of_ble_eq_true rfl, Nat.le_of_ble_eq_true rfl⟩) (fun r2 H locs hQ hS => ?_)
  obtain ⟨wr, hR, hP⟩ := hQ
  have hP := pCR hP
  refine lv_pop hx hb dL_law_1302 rfl ?_
  refine lv_goto (tgt := 1592) hx hb dL_law_1303 (by decide) ?_
  exact kk _ _ _ _ _ _ hC hR hP hS hl
set_option maxHeartbeats 4000000 in
set_option maxRecDepth 100000 in
theorem lc_44 {p : Program} {l : Launch} {e : Env} {s : State} {m : MethodId} {below : List Frame} {meth : Method} {c : Code} {D : va_G} {k : Nat → ClassId} {A : Nat → Prop} {b L : Nat} {xs : Nat → Int32} {a q a2 : Nat → Nat} {Q : State → Prop} {i t : Int} {wc wr : va_W} {H : Heap} {locs : List Loc} {ls : Array Slot} (hx : p.tables.exec = Jvm.exec) (hb : c.code = cL_law) (hml : c.maxLocals = 4) (hown : s.vm.findClass "HideReaderLaw" = some m.cls) (hts : ∀ w ∈ UT, w.before #[Value.ref b] s = true) (hXs : va_X b L xs s s.heap) (hbl : b < s.heap.size) (hbA : ¬ A b) (hK : va_K D vwCl (tys k) s) (hA : ∀ q : Nat, s.heap.size ≤ q → A q) (hD : wD A (cAd a q [] ++ rAd a2 [])) (hi : 0 ≤ i ∧ i + 6 ≤ (L : Int) ∧ L ≤ 384) (hC : cI k a q t wc) (hR : rI k a2 t wr) (hP : va_P D vwCl (wc ++ wr) H) (hS : va_S A s.heap H locs) (hl : lv_has ls 4 [(0, .ref b), (1, .ref (a 0)), (2, .ref (a2 0)), (3, .int (mI i))]) (kk : ∀ (t : Int) (wc wr : va_W) (H : Heap) (locs : List Loc) (ls : Array Slot), cI k a q t wc → rI k a2 t wr → va_P D vwCl (wc ++ wr) H → va_S A s.heap H locs → lv_has ls 4 [(0, .ref b), (1, .ref (a 0)), (2, .ref (a2 0)), (3, .int (mI i))] → W p l e room_1 s m #[Value.ref b] below meth c H locs 278 29046 Q (F0 m 1592 ls [])) : W p l e room_1 s m #[Value.ref b] below meth c H locs 278 29046 Q (F0 m 1306 ls []) := by
  obtain ⟨z1, ez1, hz1⟩ := mI_of (xs (mI (i + 1)).toNatClampNeg)
  refine lv_aload_n hx hb dL_law_1306 rfl (lv_at hl 1 rfl) ?_
  refine lv_aload_n hx hb dL_law_1307 rfl (lv_at hl 0 rfl) ?_
  refine lv_iload_n hx hb dL_law_1308 rfl (lv_at hl 3 rfl) ?_
  refine lv_iconst (v := mI 1) hx hb dL_law_1309 rfl ?_
  refine sy_iadd hx hb dL_law_1310 (i + 1) rfl ?_
  refine va_sld hx hb hXs hbl hbA hS (mI_in (by omega) (by omega) (by omega)) dL_law_1311 ?_
  refine sy_top z1 ez1 ?_
  refine g_i (dCR hD hC hR) hS hA (g_V (own := "HideReaderLaw") (As := [.int (mI z1)]) (rest := []) hx hb hml hown hts hK hP (dCR hD hC hR) (mC_lies (l := l) (D := D) (k := k) hz1 hC) ck_X11_lies iv_X11_lies uw_6_74 (cI_recv hC hK hP) rfl hl.1 rfl (Nat.le_of_ble_eq_true rfl) dL_law_1312 ⟨Nat.le_of_ble_eq_true rfl, Nat.le_of_ble_eq_true rfl⟩ ⟨Nat.le_of_ble_eq_true rfl, Nat.le_of_ble_eq_true rfl⟩) (fun r1 H locs hQ hS => ?_)
  obtain ⟨wc, hC, hP⟩ := hQ
  refine lv_pop hx hb dL_law_1315 rfl ?_
  refine lv_aload_n hx hb dL_law_1316 rfl (lv_at hl 2 rfl) ?_
  refine lv_aload_n hx hb dL_law_1317 rfl (lv_at hl 0 rfl) ?_
  refine lv_iload_n hx hb dL_law_1318 rfl (lv_at hl 3 rfl) ?_
  refine lv_iconst (v := mI 1) hx hb dL_law_1319 rfl ?_
  refine sy_iadd hx hb dL_law_1320 (i + 1) rfl ?_
  refine va_sld hx hb hXs hbl hbA hS (mI_in (by omega) (by omega) (by omega)) dL_law_1321 ?_
  refine sy_top z1 ez1 ?_
  refine g_i (dRC hD hC hR) hS hA (g_V (own := "HideReaderLaw") (As := [.int (mI z1)]) (rest := []) hx hb hml hown hts hK (pCR hP) (dRC hD hC hR) (mR_lies (l := l) (D := D) (k := k) hz1 hR) ck_X12_lies iv_X12_lies uw_9_30 (rI_recv hR hK (pCR hP)) rfl hl.1 rfl (Nat.le_of_ble_eq_true rfl) dL_law_1322 ⟨Nat.le_of_ble_eq_true rfl, Nat.le_of_ble_eq_true rfl⟩ ⟨Nat.le_of_ble_eq_true rfl, Nat.le_of_ble_eq_true rfl⟩) (fun r2 H locs hQ hS => ?_)
  obtain ⟨wr, hR, hP⟩ := hQ
  have hP := pCR hP
  refine lv_pop hx hb dL_law_1325 rfl ?_
  refine lv_goto (tgt := 1592) hx hb dL_law_1326 (by decide) ?_
  exact kk _ _ _ _ _ _ hC hR hP hS hl
set_option maxHeartbeats 4000000 in
set_option maxRecDepth 100000 in
theorem lc_45 {p : Program} {l : Launch} {e : Env} {s : State} {m : MethodId} {below : List Frame} {meth : Method} {c : Code} {D : va_G} {k : Nat → ClassId} {A : Nat → Prop} {b L : Nat} {xs : Nat → Int32} {a q a2 : Nat → Nat} {Q : State → Prop} {i t : Int} {wc wr : va_W} {H : Heap} {locs : List Loc} {ls : Array Slot} (hx : p.tables.exec = Jvm.exec) (hb : c.code = cL_law) (hml : c.maxLocals = 4) (hown : s.vm.findClass "HideReaderLaw" = some m.cls) (hts : ∀ w ∈ UT, w.before #[Value.ref b] s = true) (hXs : va_X b L xs s s.heap) (hbl : b < s.heap.size) (hbA : ¬ A b) (hK : va_K D vwCl (tys k) s) (hA : ∀ q : Nat, s.heap.size ≤ q → A q) (hD : wD A (cAd a q [] ++ rAd a2 [])) (hi : 0 ≤ i ∧ i + 6 ≤ (L : Int) ∧ L ≤ 384) (hC : cI k a q t wc) (hR : rI k a2 t wr) (hP : va_P D vwCl (wc ++ wr) H) (hS : va_S A s.heap H locs) (hl : lv_has ls 4 [(0, .ref b), (1, .ref (a 0)), (2, .ref (a2 0)), (3, .int (mI i))]) (kk : ∀ (t : Int) (wc wr : va_W) (H : Heap) (locs : List Loc) (ls : Array Slot), cI k a q t wc → rI k a2 t wr → va_P D vwCl (wc ++ wr) H → va_S A s.heap H locs → lv_has ls 4 [(0, .ref b), (1, .ref (a 0)), (2, .ref (a2 0)), (3, .int (mI i))] → W p l e room_1 s m #[Value.ref b] below meth c H locs 278 29046 Q (F0 m 1592 ls [])) : W p l e room_1 s m #[Value.ref b] below meth c H locs 278 29046 Q (F0 m 1329 ls []) := by
  obtain ⟨z1, ez1, hz1⟩ := mI_of (xs (mI (i + 1)).toNatClampNeg)
  obtain ⟨z2, ez2, hz2⟩ := mI_of (xs (mI (i + 2)).toNatClampNeg)
  obtain ⟨z3, ez3, hz3⟩ := mI_of (xs (mI (i + 3)).toNatClampNeg)
  refine lv_aload_n hx hb dL_law_1329 rfl (lv_at hl 1 rfl) ?_
  refine lv_aload_n hx hb dL_law_1330 rfl (lv_at hl 0 rfl) ?_
  refine lv_iload_n hx hb dL_law_1331 rfl (lv_at hl 3 rfl) ?_
  refine lv_iconst (v := mI 1) hx hb dL_law_1332 rfl ?_
  refine sy_iadd hx hb dL_law_1333 (i + 1) rfl ?_
  refine va_sld hx hb hXs hbl hbA hS (mI_in (by omega) (by omega) (by omega)) dL_law_1334 ?_
  refine sy_top z1 ez1 ?_
  refine lv_aload_n hx hb dL_law_1335 rfl (lv_at hl 0 rfl) ?_
  refine lv_iload_n hx hb dL_law_1336 rfl (lv_at hl 3 rfl) ?_
  refine lv_iconst (v := mI 2) hx hb dL_law_1337 rfl ?_
  refine sy_iadd hx hb dL_law_1338 (i + 2) rfl ?_
  refine va_sld hx hb hXs hbl hbA hS (mI_in (by omega) (by omega) (by omega)) dL_law_1339 ?_
  refine sy_top z2 ez2 ?_
  refine lv_aload_n hx hb dL_law_1340 rfl (lv_at hl 0 rfl) ?_
  refine lv_iload_n hx hb dL_law_1341 rfl (lv_at hl 3 rfl) ?_
  refine lv_iconst (v := mI 3) hx hb dL_law_1342 rfl ?_
  refine sy_iadd hx hb dL_law_1343 (i + 3) rfl ?_
  refine va_sld hx hb hXs hbl hbA hS (mI_in (by omega) (by omega) (by omega)) dL_law_1344 ?_
  refine sy_top z3 ez3 ?_
  refine sy_if_eq (tgt := 1352) hx hb dL_law_1345 (by decide) hz3 (fun c1 => ?_) (fun c1 => ?_)
  · skip
    refine lv_iconst (v := mI 0) hx hb dL_law_1352 rfl ?_
    refine g_i (dCR hD hC hR) hS hA (g_V (own := "HideReaderLaw") (As := [.int (mI z1), .int (mI z2), .int (mI 0)]) (rest := []) hx hb hml hown hts hK hP (dCR hD hC hR) (mC_seen (l := l) (D := D) (k := k) hz1 hz2 (by decide) hC) ck_X11_seen iv_X11_seen uw_6_78 (cI_recv hC hK hP) rfl hl.1 rfl (Nat.le_of_ble_eq_true rfl) dL_law_1353 ⟨Nat.le_of_ble_eq_true rfl, Nat.le_of_ble_eq_true rfl⟩ ⟨Nat.le_of_ble_eq_true rfl, Nat.le_of_ble_eq_true rfl⟩) (fun r1 H locs hQ hS => ?_)
    obtain ⟨wc, hC, hP⟩ := hQ
    refine lv_pop hx hb dL_law_1356 rfl ?_
    refine lv_aload_n hx hb dL_law_1357 rfl (lv_at hl 2 rfl) ?_
    refine lv_aload_n hx hb dL_law_1358 rfl (lv_at hl 0 rfl) ?_
    refine lv_iload_n hx hb dL_law_1359 rfl (lv_at hl 3 rfl) ?_
    refine lv_iconst (v := mI 1) hx hb dL_law_1360 rfl ?_
    refine sy_iadd hx hb dL_law_1361 (i + 1) rfl ?_
    refine va_sld hx hb hXs hbl hbA hS (mI_in (by omega) (by omega) (by omega)) dL_law_1362 ?_
    refine sy_top z1 ez1 ?_
    refine lv_aload_n hx hb dL_law_1363 rfl (lv_at hl 0 rfl) ?_
    refine lv_iload_n hx hb dL_law_1364 rfl (lv_at hl 3 rfl) ?_
    refine lv_iconst (v := mI 2) hx hb dL_law_1365 rfl ?_
    refine sy_iadd hx hb dL_law_1366 (i + 2) rfl ?_
    refine va_sld hx hb hXs hbl hbA hS (mI_in (by omega) (by omega) (by omega)) dL_law_1367 ?_
    refine sy_top z2 ez2 ?_
    refine lv_aload_n hx hb dL_law_1368 rfl (lv_at hl 0 rfl) ?_
    refine lv_iload_n hx hb dL_law_1369 rfl (lv_at hl 3 rfl) ?_
    refine lv_iconst (v := mI 3) hx hb dL_law_1370 rfl ?_
    refine sy_iadd hx hb dL_law_1371 (i + 3) rfl ?_
    refine va_sld hx hb hXs hbl hbA hS (mI_in (by omega) (by omega) (by omega)) dL_law_1372 ?_
    refine sy_top z3 ez3 ?_
    refine sy_if_eq (tgt := 1380) hx hb dL_law_1373 (by decide) hz3 (fun _ => ?_) (fun c9 => absurd c1 c9)
    refine lv_iconst (v := mI 0) hx hb dL_law_1380 rfl ?_
    refine g_i (dRC hD hC hR) hS hA (g_V (own := "HideReaderLaw") (As := [.int (mI z1), .int (mI z2), .int (mI 0)]) (rest := []) hx hb hml hown hts hK (pCR hP) (dRC hD hC hR) (mR_seen (l := l) (D := D) (k := k) hz1 hz2 (by decide) hR) ck_X12_seen iv_X12_seen uw_9_152 (rI_recv hR hK (pCR hP)) rfl hl.1 rfl (Nat.le_of_ble_eq_true rfl) dL_law_1381 ⟨Nat.le_of_ble_eq_true rfl, Nat.le_of_ble_eq_true rfl⟩ ⟨Nat.le_of_ble_eq_true rfl, Nat.le_of_ble_eq_true rfl⟩) (fun r2 H locs hQ hS => ?_)
    obtain ⟨wr, hR, hP⟩ := hQ
    have hP := pCR hP
    refine lv_pop hx hb dL_law_1384 rfl ?_
    refine lv_goto (tgt := 1592) hx hb dL_law_1385 (by decide) ?_
    exact kk _ _ _ _ _ _ hC hR hP hS hl
  · skip
    refine lv_iconst (v := mI 1) hx hb dL_law_1348 rfl ?_
    refine lv_goto (tgt := 1353) hx hb dL_law_1349 (by decide) ?_
    refine g_i (dCR hD hC hR) hS hA (g_V (own := "HideReaderLaw") (As := [.int (mI z1), .int (mI z2), .int (mI 1)]) (rest := []) hx hb hml hown hts hK hP (dCR hD hC hR) (mC_seen (l := l) (D := D) (k := k) hz1 hz2 (by decide) hC) ck_X11_seen iv_X11_seen uw_6_78 (cI_recv hC hK hP) rfl hl.1 rfl (Nat.le_of_ble_eq_true rfl) dL_law_1353 ⟨Nat.le_of_ble_eq_true rfl, Nat.le_of_ble_eq_true rfl⟩ ⟨Nat.le_of_ble_eq_true rfl, Nat.le_of_ble_eq_true rfl⟩) (fun r1 H locs hQ hS => ?_)
    obtain ⟨wc, hC, hP⟩ := hQ
    refine lv_pop hx hb dL_law_1356 rfl ?_
    refine lv_aload_n hx hb dL_law_1357 rfl (lv_at hl 2 rfl) ?_
    refine lv_aload_n hx hb dL_law_1358 rfl (lv_at hl 0 rfl) ?_
    refine lv_iload_n hx hb dL_law_1359 rfl (lv_at hl 3 rfl) ?_
    refine lv_iconst (v := mI 1) hx hb dL_law_1360 rfl ?_
    refine sy_iadd hx hb dL_law_1361 (i + 1) rfl ?_
    refine va_sld hx hb hXs hbl hbA hS (mI_in (by omega) (by omega) (by omega)) dL_law_1362 ?_
    refine sy_top z1 ez1 ?_
    refine lv_aload_n hx hb dL_law_1363 rfl (lv_at hl 0 rfl) ?_
    refine lv_iload_n hx hb dL_law_1364 rfl (lv_at hl 3 rfl) ?_
    refine lv_iconst (v := mI 2) hx hb dL_law_1365 rfl ?_
    refine sy_iadd hx hb dL_law_1366 (i + 2) rfl ?_
    refine va_sld hx hb hXs hbl hbA hS (mI_in (by omega) (by omega) (by omega)) dL_law_1367 ?_
    refine sy_top z2 ez2 ?_
    refine lv_aload_n hx hb dL_law_1368 rfl (lv_at hl 0 rfl) ?_
    refine lv_iload_n hx hb dL_law_1369 rfl (lv_at hl 3 rfl) ?_
    refine lv_iconst (v := mI 3) hx hb dL_law_1370 rfl ?_
    refine sy_iadd hx hb dL_law_1371 (i + 3) rfl ?_
    refine va_sld hx hb hXs hbl hbA hS (mI_in (by omega) (by omega) (by omega)) dL_law_1372 ?_
    refine sy_top z3 ez3 ?_
    refine sy_if_eq (tgt := 1380) hx hb dL_law_1373 (by decide) hz3 (fun c9 => absurd c9 c1) (fun _ => ?_)
    refine lv_iconst (v := mI 1) hx hb dL_law_1376 rfl ?_
    refine lv_goto (tgt := 1381) hx hb dL_law_1377 (by decide) ?_
    refine g_i (dRC hD hC hR) hS hA (g_V (own := "HideReaderLaw") (As := [.int (mI z1), .int (mI z2), .int (mI 1)]) (rest := []) hx hb hml hown hts hK (pCR hP) (dRC hD hC hR) (mR_seen (l := l) (D := D) (k := k) hz1 hz2 (by decide) hR) ck_X12_seen iv_X12_seen uw_9_152 (rI_recv hR hK (pCR hP)) rfl hl.1 rfl (Nat.le_of_ble_eq_true rfl) dL_law_1381 ⟨Nat.le_of_ble_eq_true rfl, Nat.le_of_ble_eq_true rfl⟩ ⟨Nat.le_of_ble_eq_true rfl, Nat.le_of_ble_eq_true rfl⟩) (fun r2 H locs hQ hS => ?_)
    obtain ⟨wr, hR, hP⟩ := hQ
    have hP := pCR hP
    refine lv_pop hx hb dL_law_1384 rfl ?_
    refine lv_goto (tgt := 1592) hx hb dL_law_1385 (by decide) ?_
    exact kk _ _ _ _ _ _ hC hR hP hS hl
set_option maxHeartbeats 4000000 in
set_option maxRecDepth 100000 in
theorem lc_46 {p : Program} {l : Launch} {e : Env} {s : State} {m : MethodId} {below : List Frame} {meth : Method} {c : Code} {D : va_G} {k : Nat → ClassId} {A : Nat → Prop} {b L : Nat} {xs : Nat → Int32} {a q a2 : Nat → Nat} {Q : State → Prop} {i t : Int} {wc wr : va_W} {H : Heap} {locs : List Loc} {ls : Array Slot} (hx : p.tables.exec = Jvm.exec) (hb : c.code = cL_law) (hml : c.maxLocals = 4) (hown : s.vm.findClass "HideReaderLaw" = some m.cls) (hts : ∀ w ∈ UT, w.before #[Value.ref b] s = true) (hXs : va_X b L xs s s.heap) (hbl : b < s.heap.size) (hbA : ¬ A b) (hK : va_K D vwCl (tys k) s) (hA : ∀ q : Nat, s.heap.size ≤ q → A q) (hD : wD A (cAd a q [] ++ rAd a2 [])) (hi : 0 ≤ i ∧ i + 6 ≤ (L : Int) ∧ L ≤ 384) (hC : cI k a q t wc) (hR : rI k a2 t wr) (hP : va_P D vwCl (wc ++ wr) H) (hS : va_S A s.heap H locs) (hl : lv_has ls 4 [(0, .ref b), (1, .ref (a 0)), (2, .ref (a2 0)), (3, .int (mI i))]) (kk : ∀ (t : Int) (wc wr : va_W) (H : Heap) (locs : List Loc) (ls : Array Slot), cI k a q t wc → rI k a2 t wr → va_P D vwCl (wc ++ wr) H → va_S A s.heap H locs → lv_has ls 4 [(0, .ref b), (1, .ref (a 0)), (2, .ref (a2 0)), (3, .int (mI i))] → W p l e room_1 s m #[Value.ref b] below meth c H locs 278 29046 Q (F0 m 1592 ls [])) : W p l e room_1 s m #[Value.ref b] below meth c H locs 278 29046 Q (F0 m 1388 ls []) := by
  obtain ⟨z1, ez1, hz1⟩ := mI_of (xs (mI (i + 1)).toNatClampNeg)
  refine lv_aload_n hx hb dL_law_1388 rfl (lv_at hl 1 rfl) ?_
  refine lv_aload_n hx hb dL_law_1389 rfl (lv_at hl 0 rfl) ?_
  refine lv_iload_n hx hb dL_law_1390 rfl (lv_at hl 3 rfl) ?_
  refine lv_iconst (v := mI 1) hx hb dL_law_1391 rfl ?_
  refine sy_iadd hx hb dL_law_1392 (i + 1) rfl ?_
  refine va_sld hx hb hXs hbl hbA hS (mI_in (by omega) (by omega) (by omega)) dL_law_1393 ?_
  refine sy_top z1 ez1 ?_
  refine g_i (dCR hD hC hR) hS hA (g_V (own := "HideReaderLaw") (As := [.int (mI z1)]) (rest := []) hx hb hml hown hts hK hP (dCR hD hC hR) (mC_untell (l := l) (D := D) (k := k) hz1 hC) ck_X11_untell iv_X11_untell uw_6_89 (cI_recv hC hK hP) rfl hl.1 rfl (Nat.le_of_ble_eq_true rfl) dL_law_1394 ⟨Nat.le_of_ble_eq_true rfl, Nat.le_of_ble_eq_true rfl⟩ ⟨Nat.le_of_ble_eq_true rfl, Nat.le_of_ble_eq_true rfl⟩) (fun r1 H locs hQ hS => ?_)
  obtain ⟨wc, hC, hP⟩ := hQ
  refine lv_pop hx hb dL_law_1397 rfl ?_
  refine lv_aload_n hx hb dL_law_1398 rfl (lv_at hl 2 rfl) ?_
  refine lv_aload_n hx hb dL_law_1399 rfl (lv_at hl 0 rfl) ?_
  refine lv_iload_n hx hb dL_law_1400 rfl (lv_at hl 3 rfl) ?_
  refine lv_iconst (v := mI 1) hx hb dL_law_1401 rfl ?_
  refine sy_iadd hx hb dL_law_1402 (i + 1) rfl ?_
  refine va_sld hx hb hXs hbl hbA hS (mI_in (by omega) (by omega) (by omega)) dL_law_1403 ?_
  refine sy_top z1 ez1 ?_
  refine g_i (dRC hD hC hR) hS hA (g_V (own := "HideReaderLaw") (As := [.int (mI z1)]) (rest := []) hx hb hml hown hts hK (pCR hP) (dRC hD hC hR) (mR_untell (l := l) (D := D) (k := k) hz1 hR) ck_X12_untell iv_X12_untell uw_9_156 (rI_recv hR hK (pCR hP)) rfl hl.1 rfl (Nat.le_of_ble_eq_true rfl) dL_law_1404 ⟨Nat.le_of_ble_eq_true rfl, Nat.le_of_ble_eq_true rfl⟩ ⟨Nat.le_of_ble_eq_true rfl, Nat.le_of_ble_eq_true rfl⟩) (fun r2 H locs hQ hS => ?_)
  obtain ⟨wr, hR, hP⟩ := hQ
  have hP := pCR hP
  refine lv_pop hx hb dL_law_1407 rfl ?_
  refine lv_goto (tgt := 1592) hx hb dL_law_1408 (by decide) ?_
  exact kk _ _ _ _ _ _ hC hR hP hS hl
set_option maxHeartbeats 4000000 in
set_option maxRecDepth 100000 in
theorem lc_47 {p : Program} {l : Launch} {e : Env} {s : State} {m : MethodId} {below : List Frame} {meth : Method} {c : Code} {D : va_G} {k : Nat → ClassId} {A : Nat → Prop} {b L : Nat} {xs : Nat → Int32} {a q a2 : Nat → Nat} {Q : State → Prop} {i t : Int} {wc wr : va_W} {H : Heap} {locs : List Loc} {ls : Array Slot} (hx : p.tables.exec = Jvm.exec) (hb : c.code = cL_law) (hml : c.maxLocals = 4) (hown : s.vm.findClass "HideReaderLaw" = some m.cls) (hts : ∀ w ∈ UT, w.before #[Value.ref b] s = true) (hXs : va_X b L xs s s.heap) (hbl : b < s.heap.size) (hbA : ¬ A b) (hK : va_K D vwCl (tys k) s) (hA : ∀ q : Nat, s.heap.size ≤ q → A q) (hD : wD A (cAd a q [] ++ rAd a2 [])) (hi : 0 ≤ i ∧ i + 6 ≤ (L : Int) ∧ L ≤ 384) (hC : cI k a q t wc) (hR : rI k a2 t wr) (hP : va_P D vwCl (wc ++ wr) H) (hS : va_S A s.heap H locs) (hl : lv_has ls 4 [(0, .ref b), (1, .ref (a 0)), (2, .ref (a2 0)), (3, .int (mI i))]) (kk : ∀ (t : Int) (wc wr : va_W) (H : Heap) (locs : List Loc) (ls : Array Slot), cI k a q t wc → rI k a2 t wr → va_P D vwCl (wc ++ wr) H → va_S A s.heap H locs → lv_has ls 4 [(0, .ref b), (1, .ref (a 0)), (2, .ref (a2 0)), (3, .int (mI i))] → W p l e room_1 s m #[Value.ref b] below meth c H locs 278 29046 Q (F0 m 1592 ls [])) : W p l e room_1 s m #[Value.ref b] below meth c H locs 278 29046 Q (F0 m 1411 ls []) := by
  obtain ⟨z1, ez1, hz1⟩ := mI_of (xs (mI (i + 1)).toNatClampNeg)
  have ht0 := cI_t hC
  refine lv_aload_n hx hb dL_law_1411 rfl (lv_at hl 1 rfl) ?_
  refine lv_aload_n hx hb dL_law_1412 rfl (lv_at hl 0 rfl) ?_
  refine lv_iload_n hx hb dL_law_1413 rfl (lv_at hl 3 rfl) ?_
  refine lv_iconst (v := mI 1) hx hb dL_law_1414 rfl ?_
  refine sy_iadd hx hb dL_law_1415 (i + 1) rfl ?_
  refine va_sld hx hb hXs hbl hbA hS (mI_in (by omega) (by omega) (by omega)) dL_law_1416 ?_
  refine sy_top z1 ez1 ?_
  refine g_i (dCR hD hC hR) hS hA (g_V (own := "HideReaderLaw") (As := [.int (mI z1)]) (rest := []) hx hb hml hown hts hK hP (dCR hD hC hR) (mC_later (l := l) (D := D) (k := k) hz1 hC) ck_X11_later iv_X11_later uw_6_97 (cI_recv hC hK hP) rfl hl.1 rfl (Nat.le_of_ble_eq_true rfl) dL_law_1417 ⟨Nat.le_of_ble_eq_true rfl, Nat.le_of_ble_eq_true rfl⟩ ⟨Nat.le_of_ble_eq_true rfl, Nat.le_of_ble_eq_true rfl⟩) (fun r1 H locs hQ hS => ?_)
  obtain ⟨t1, wc, hq1, hC, hP⟩ := hQ
  refine lv_aload_n hx hb dL_law_1420 rfl (lv_at hl 2 rfl) ?_
  refine lv_aload_n hx hb dL_law_1421 rfl (lv_at hl 0 rfl) ?_
  refine lv_iload_n hx hb dL_law_1422 rfl (lv_at hl 3 rfl) ?_
  refine lv_iconst (v := mI 1) hx hb dL_law_1423 rfl ?_
  refine sy_iadd hx hb dL_law_1424 (i + 1) rfl ?_
  refine va_sld hx hb hXs hbl hbA hS (mI_in (by omega) (by omega) (by omega)) dL_law_1425 ?_
  refine sy_top z1 ez1 ?_
  refine g_i (dRC hD hC hR) hS hA (g_V (own := "HideReaderLaw") (As := [.int (mI z1)]) (rest := [.int (mI r1)]) hx hb hml hown hts hK (pCR hP) (dRC hD hC hR) (mR_later (l := l) (D := D) (k := k) hz1 hR) ck_X12_later iv_X12_later uw_9_160 (rI_recv hR hK (pCR hP)) rfl hl.1 rfl (Nat.le_of_ble_eq_true rfl) dL_law_1426 ⟨Nat.le_of_ble_eq_true rfl, Nat.le_of_ble_eq_true rfl⟩ ⟨Nat.le_of_ble_eq_true rfl, Nat.le_of_ble_eq_true rfl⟩) (fun r2 H locs hQ hS => ?_)
  obtain ⟨t2, wr, hq2, hR, hP⟩ := hQ
  have hP := pCR hP
  refine sy_icmp_eq (tgt := 1592) hx hb dL_law_1429 (by decide) (by omega) (by omega) (fun _ => ?_) (fun c9 => absurd (by omega) c9)
  obtain rfl : t1 = t2 := by omega
  exact kk _ _ _ _ _ _ hC hR hP hS hl
set_option maxHeartbeats 4000000 in
set_option maxRecDepth 100000 in
theorem lc_48 {p : Program} {l : Launch} {e : Env} {s : State} {m : MethodId} {below : List Frame} {meth : Method} {c : Code} {D : va_G} {k : Nat → ClassId} {A : Nat → Prop} {b L : Nat} {xs : Nat → Int32} {a q a2 : Nat → Nat} {Q : State → Prop} {i t : Int} {wc wr : va_W} {H : Heap} {locs : List Loc} {ls : Array Slot} (hx : p.tables.exec = Jvm.exec) (hb : c.code = cL_law) (hml : c.maxLocals = 4) (hown : s.vm.findClass "HideReaderLaw" = some m.cls) (hts : ∀ w ∈ UT, w.before #[Value.ref b] s = true) (hXs : va_X b L xs s s.heap) (hbl : b < s.heap.size) (hbA : ¬ A b) (hK : va_K D vwCl (tys k) s) (hA : ∀ q : Nat, s.heap.size ≤ q → A q) (hD : wD A (cAd a q [] ++ rAd a2 [])) (hi : 0 ≤ i ∧ i + 6 ≤ (L : Int) ∧ L ≤ 384) (hC : cI k a q t wc) (hR : rI k a2 t wr) (hP : va_P D vwCl (wc ++ wr) H) (hS : va_S A s.heap H locs) (hl : lv_has ls 4 [(0, .ref b), (1, .ref (a 0)), (2, .ref (a2 0)), (3, .int (mI i))]) (kk : ∀ (t : Int) (wc wr : va_W) (H : Heap) (locs : List Loc) (ls : Array Slot), cI k a q t wc → rI k a2 t wr → va_P D vwCl (wc ++ wr) H → va_S A s.heap H locs → lv_has ls 4 [(0, .ref b), (1, .ref (a 0)), (2, .ref (a2 0)), (3, .int (mI i))] → W p l e room_1 s m #[Value.ref b] below meth c H locs 278 29046 Q (F0 m 1592 ls [])) : W p l e room_1 s m #[Value.ref b] below meth c H locs 278 29046 Q (F0 m 1434 ls []) := by
  obtain ⟨z1, ez1, hz1⟩ := mI_of (xs (mI (i + 1)).toNatClampNeg)
  refine lv_aload_n hx hb dL_law_1434 rfl (lv_at hl 1 rfl) ?_
  refine lv_aload_n hx hb dL_law_1435 rfl (lv_at hl 0 rfl) ?_
  refine lv_iload_n hx hb dL_law_1436 rfl (lv_at hl 3 rfl) ?_
  refine lv_iconst (v := mI 1) hx hb dL_law_1437 rfl ?_
  refine sy_iadd hx hb dL_law_1438 (i + 1) rfl ?_
  refine va_sld hx hb hXs hbl hbA hS (mI_in (by omega) (by omega) (by omega)) dL_law_1439 ?_
  refine sy_top z1 ez1 ?_
  refine g_i (dCR hD hC hR) hS hA (g_V (own := "HideReaderLaw") (As := [.int (mI z1)]) (rest := []) hx hb hml hown hts hK hP (dCR hD hC hR) (mC_rows (l := l) (D := D) (k := k) hz1 hC) ck_X11_rows iv_X11_rows uw_6_106 (cI_recv hC hK hP) rfl hl.1 rfl (Nat.le_of_ble_eq_true rfl) dL_law_1440 ⟨Nat.le_of_ble_eq_true rfl, Nat.le_of_ble_eq_true rfl⟩ ⟨Nat.le_of_ble_eq_true rfl, Nat.le_of_ble_eq_true rfl⟩) (fun r1 H locs hQ hS => ?_)
  obtain ⟨wc, hC, hP⟩ := hQ
  refine lv_pop hx hb dL_law_1443 rfl ?_
  refine lv_aload_n hx hb dL_law_1444 rfl (lv_at hl 2 rfl) ?_
  refine lv_aload_n hx hb dL_law_1445 rfl (lv_at hl 0 rfl) ?_
  refine lv_iload_n hx hb dL_law_1446 rfl (lv_at hl 3 rfl) ?_
  refine lv_iconst (v := mI 1) hx hb dL_law_1447 rfl ?_
  refine sy_iadd hx hb dL_law_1448 (i + 1) rfl ?_
  refine va_sld hx hb hXs hbl hbA hS (mI_in (by omega) (by omega) (by omega)) dL_law_1449 ?_
  refine sy_top z1 ez1 ?_
  refine g_i (dRC hD hC hR) hS hA (g_V (own := "HideReaderLaw") (As := [.int (mI z1)]) (rest := []) hx hb hml hown hts hK (pCR hP) (dRC hD hC hR) (mR_rows (l := l) (D := D) (k := k) hz1 hR) ck_X12_rows iv_X12_rows uw_9_165 (rI_recv hR hK (pCR hP)) rfl hl.1 rfl (Nat.le_of_ble_eq_true rfl) dL_law_1450 ⟨Nat.le_of_ble_eq_true rfl, Nat.le_of_ble_eq_true rfl⟩ ⟨Nat.le_of_ble_eq_true rfl, Nat.le_of_ble_eq_true rfl⟩) (fun r2 H locs hQ hS => ?_)
  obtain ⟨wr, hR, hP⟩ := hQ
  have hP := pCR hP
  refine lv_pop hx hb dL_law_1453 rfl ?_
  refine lv_goto (tgt := 1592) hx hb dL_law_1454 (by decide) ?_
  exact kk _ _ _ _ _ _ hC hR hP hS hl
set_option maxHeartbeats 4000000 in
set_option maxRecDepth 100000 in
theorem lc_49 {p : Program} {l : Launch} {e : Env} {s : State} {m : MethodId} {below : List Frame} {meth : Method} {c : Code} {D : va_G} {k : Nat → ClassId} {A : Nat → Prop} {b L : Nat} {xs : Nat → Int32} {a q a2 : Nat → Nat} {Q : State → Prop} {i t : Int} {wc wr : va_W} {H : Heap} {locs : List Loc} {ls : Array Slot} (hx : p.tables.exec = Jvm.exec) (hb : c.code = cL_law) (hml : c.maxLocals = 4) (hown : s.vm.findClass "HideReaderLaw" = some m.cls) (hts : ∀ w ∈ UT, w.before #[Value.ref b] s = true) (hXs : va_X b L xs s s.heap) (hbl : b < s.heap.size) (hbA : ¬ A b) (hK : va_K D vwCl (tys k) s) (hA : ∀ q : Nat, s.heap.size ≤ q → A q) (hD : wD A (cAd a q [] ++ rAd a2 [])) (hi : 0 ≤ i ∧ i + 6 ≤ (L : Int) ∧ L ≤ 384) (hC : cI k a q t wc) (hR : rI k a2 t wr) (hP : va_P D vwCl (wc ++ wr) H) (hS : va_S A s.heap H locs) (hl : lv_has ls 4 [(0, .ref b), (1, .ref (a 0)), (2, .ref (a2 0)), (3, .int (mI i))]) (kk : ∀ (t : Int) (wc wr : va_W) (H : Heap) (locs : List Loc) (ls : Array Slot), cI k a q t wc → rI k a2 t wr → va_P D vwCl (wc ++ wr) H → va_S A s.heap H locs → lv_has ls 4 [(0, .ref b), (1, .ref (a 0)), (2, .ref (a2 0)), (3, .int (mI i))] → W p l e room_1 s m #[Value.ref b] below meth c H locs 278 29046 Q (F0 m 1592 ls [])) : W p l e room_1 s m #[Value.ref b] below meth c H locs 278 29046 Q (F0 m 1457 ls []) := by
  obtain ⟨z1, ez1, hz1⟩ := mI_of (xs (mI (i + 1)).toNatClampNeg)
  obtain ⟨z2, ez2, hz2⟩ := mI_of (xs (mI (i + 2)).toNatClampNeg)
  refine lv_aload_n hx hb dL_law_1457 rfl (lv_at hl 1 rfl) ?_
  refine lv_aload_n hx hb dL_law_1458 rfl (lv_at hl 0 rfl) ?_
  refine lv_iload_n hx hb dL_law_1459 rfl (lv_at hl 3 rfl) ?_
  refine lv_iconst (v := mI 1) hx hb dL_law_1460 rfl ?_
  refine sy_iadd hx hb dL_law_1461 (i + 1) rfl ?_
  refine va_sld hx hb hXs hbl hbA hS (mI_in (by omega) (by omega) (by omega)) dL_law_1462 ?_
  refine sy_top z1 ez1 ?_
  refine lv_aload_n hx hb dL_law_1463 rfl (lv_at hl 0 rfl) ?_
  refine lv_iload_n hx hb dL_law_1464 rfl (lv_at hl 3 rfl) ?_
  refine lv_iconst (v := mI 2) hx hb dL_law_1465 rfl ?_
  refine sy_iadd hx hb dL_law_1466 (i + 2) rfl ?_
  refine va_sld hx hb hXs hbl hbA hS (mI_in (by omega) (by omega) (by omega)) dL_law_1467 ?_
  refine sy_top z2 ez2 ?_
  refine g_i (dCR hD hC hR) hS hA (g_V (own := "HideReaderLaw") (As := [.int (mI z1), .int (mI z2)]) (rest := []) hx hb hml hown hts hK hP (dCR hD hC hR) (mC_sure (l := l) (D := D) (k := k) hz1 hz2 hC) ck_X11_sure iv_X11_sure uw_6_136 (cI_recv hC hK hP) rfl hl.1 rfl (Nat.le_of_ble_eq_true rfl) dL_law_1468 ⟨Nat.le_of_ble_eq_true rfl, Nat.le_of_ble_eq_true rfl⟩ ⟨Nat.le_of_ble_eq_true rfl, Nat.le_of_ble_eq_true rfl⟩) (fun r1 H locs hQ hS => ?_)
  obtain ⟨wc, hC, hP⟩ := hQ
  refine lv_pop hx hb dL_law_1471 rfl ?_
  refine lv_aload_n hx hb dL_law_1472 rfl (lv_at hl 2 rfl) ?_
  refine lv_aload_n hx hb dL_law_1473 rfl (lv_at hl 0 rfl) ?_
  refine lv_iload_n hx hb dL_law_1474 rfl (lv_at hl 3 rfl) ?_
  refine lv_iconst (v := mI 1) hx hb dL_law_1475 rfl ?_
  refine sy_iadd hx hb dL_law_1476 (i + 1) rfl ?_
  refine va_sld hx hb hXs hbl hbA hS (mI_in (by omega) (by omega) (by omega)) dL_law_1477 ?_
  refine sy_top z1 ez1 ?_
  refine lv_aload_n hx hb dL_law_1478 rfl (lv_at hl 0 rfl) ?_
  refine lv_iload_n hx hb dL_law_1479 rfl (lv_at hl 3 rfl) ?_
  refine lv_iconst (v := mI 2) hx hb dL_law_1480 rfl ?_
  refine sy_iadd hx hb dL_law_1481 (i + 2) rfl ?_
  refine va_sld hx hb hXs hbl hbA hS (mI_in (by omega) (by omega) (by omega)) dL_law_1482 ?_
  refine sy_top z2 ez2 ?_
  refine g_i (dRC hD hC hR) hS hA (g_V (own := "HideReaderLaw") (As := [.int (mI z1), .int (mI z2)]) (rest := []) hx hb hml hown hts hK (pCR hP) (dRC hD hC hR) (mR_sure (l := l) (D := D) (k := k) hz1 hz2 hR) ck_X12_sure iv_X12_sure uw_9_177 (rI_recv hR hK (pCR hP)) rfl hl.1 rfl (Nat.le_of_ble_eq_true rfl) dL_law_1483 ⟨Nat.le_of_ble_eq_true rfl, Nat.le_of_ble_eq_true rfl⟩ ⟨Nat.le_of_ble_eq_true rfl, Nat.le_of_ble_eq_true rfl⟩) (fun r2 H locs hQ hS => ?_)
  obtain ⟨wr, hR, hP⟩ := hQ
  have hP := pCR hP
  refine lv_pop hx hb dL_law_1486 rfl ?_
  refine lv_goto (tgt := 1592) hx hb dL_law_1487 (by decide) ?_
  exact kk _ _ _ _ _ _ hC hR hP hS hl
set_option maxHeartbeats 4000000 in
set_option maxRecDepth 100000 in
theorem lc_50 {p : Program} {l : Launch} {e : Env} {s : State} {m : MethodId} {below : List Frame} {meth : Method} {c : Code} {D : va_G} {k : Nat → ClassId} {A : Nat → Prop} {b L : Nat} {xs : Nat → Int32} {a q a2 : Nat → Nat} {Q : State → Prop} {i t : Int} {wc wr : va_W} {H : Heap} {locs : List Loc} {ls : Array Slot} (hx : p.tables.exec = Jvm.exec) (hb : c.code = cL_law) (hml : c.maxLocals = 4) (hown : s.vm.findClass "HideReaderLaw" = some m.cls) (hts : ∀ w ∈ UT, w.before #[Value.ref b] s = true) (hXs : va_X b L xs s s.heap) (hbl : b < s.heap.size) (hbA : ¬ A b) (hK : va_K D vwCl (tys k) s) (hA : ∀ q : Nat, s.heap.size ≤ q → A q) (hD : wD A (cAd a q [] ++ rAd a2 [])) (hi : 0 ≤ i ∧ i + 6 ≤ (L : Int) ∧ L ≤ 384) (hC : cI k a q t wc) (hR : rI k a2 t wr) (hP : va_P D vwCl (wc ++ wr) H) (hS : va_S A s.heap H locs) (hl : lv_has ls 4 [(0, .ref b), (1, .ref (a 0)), (2, .ref (a2 0)), (3, .int (mI i))]) (kk : ∀ (t : Int) (wc wr : va_W) (H : Heap) (locs : List Loc) (ls : Array Slot), cI k a q t wc → rI k a2 t wr → va_P D vwCl (wc ++ wr) H → va_S A s.heap H locs → lv_has ls 4 [(0, .ref b), (1, .ref (a 0)), (2, .ref (a2 0)), (3, .int (mI i))] → W p l e room_1 s m #[Value.ref b] below meth c H locs 278 29046 Q (F0 m 1592 ls [])) : W p l e room_1 s m #[Value.ref b] below meth c H locs 278 29046 Q (F0 m 1490 ls []) := by
  obtain ⟨z1, ez1, hz1⟩ := mI_of (xs (mI (i + 1)).toNatClampNeg)
  obtain ⟨z2, ez2, hz2⟩ := mI_of (xs (mI (i + 2)).toNatClampNeg)
  refine lv_aload_n hx hb dL_law_1490 rfl (lv_at hl 1 rfl) ?_
  refine lv_aload_n hx hb dL_law_1491 rfl (lv_at hl 0 rfl) ?_
  refine lv_iload_n hx hb dL_law_1492 rfl (lv_at hl 3 rfl) ?_
  refine lv_iconst (v := mI 1) hx hb dL_law_1493 rfl ?_
  refine sy_iadd hx hb dL_law_1494 (i + 1) rfl ?_
  refine va_sld hx hb hXs hbl hbA hS (mI_in (by omega) (by omega) (by omega)) dL_law_1495 ?_
  refine sy_top z1 ez1 ?_
  refine lv_aload_n hx hb dL_law_1496 rfl (lv_at hl 0 rfl) ?_
  refine lv_iload_n hx hb dL_law_1497 rfl (lv_at hl 3 rfl) ?_
  refine lv_iconst (v := mI 2) hx hb dL_law_1498 rfl ?_
  refine sy_iadd hx hb dL_law_1499 (i + 2) rfl ?_
  refine va_sld hx hb hXs hbl hbA hS (mI_in (by omega) (by omega) (by omega)) dL_law_1500 ?_
  refine sy_top z2 ez2 ?_
  refine g_i (dCR hD hC hR) hS hA (g_V (own := "HideReaderLaw") (As := [.int (mI z1), .int (mI z2)]) (rest := []) hx hb hml hown hts hK hP (dCR hD hC hR) (mC_ask (l := l) (D := D) (k := k) hz1 hz2 hC) ck_X11_ask iv_X11_ask uw_6_145 (cI_recv hC hK hP) rfl hl.1 rfl (Nat.le_of_ble_eq_true rfl) dL_law_1501 ⟨Nat.le_of_ble_eq_true rfl, Nat.le_of_ble_eq_true rfl⟩ ⟨Nat.le_of_ble_eq_true rfl, Nat.le_of_ble_eq_true rfl⟩) (fun r1 H locs hQ hS => ?_)
  obtain ⟨wc, hC, hP⟩ := hQ
  refine lv_pop hx hb dL_law_1504 rfl ?_
  refine lv_aload_n hx hb dL_law_1505 rfl (lv_at hl 2 rfl) ?_
  refine lv_aload_n hx hb dL_law_1506 rfl (lv_at hl 0 rfl) ?_
  refine lv_iload_n hx hb dL_law_1507 rfl (lv_at hl 3 rfl) ?_
  refine lv_iconst (v := mI 1) hx hb dL_law_1508 rfl ?_
  refine sy_iadd hx hb dL_law_1509 (i + 1) rfl ?_
  refine va_sld hx hb hXs hbl hbA hS (mI_in (by omega) (by omega) (by omega)) dL_law_1510 ?_
  refine sy_top z1 ez1 ?_
  refine lv_aload_n hx hb dL_law_1511 rfl (lv_at hl 0 rfl) ?_
  refine lv_iload_n hx hb dL_law_1512 rfl (lv_at hl 3 rfl) ?_
  refine lv_iconst (v := mI 2) hx hb dL_law_1513 rfl ?_
  refine sy_iadd hx hb dL_law_1514 (i + 2) rfl ?_
  refine va_sld hx hb hXs hbl hbA hS (mI_in (by omega) (by omega) (by omega)) dL_law_1515 ?_
  refine sy_top z2 ez2 ?_
  refine g_i (dRC hD hC hR) hS hA (g_V (own := "HideReaderLaw") (As := [.int (mI z1), .int (mI z2)]) (rest := []) hx hb hml hown hts hK (pCR hP) (dRC hD hC hR) (mR_ask (l := l) (D := D) (k := k) hz1 hz2 hR) ck_X12_ask iv_X12_ask uw_9_181 (rI_recv hR hK (pCR hP)) rfl hl.1 rfl (Nat.le_of_ble_eq_true rfl) dL_law_1516 ⟨Nat.le_of_ble_eq_true rfl, Nat.le_of_ble_eq_true rfl⟩ ⟨Nat.le_of_ble_eq_true rfl, Nat.le_of_ble_eq_true rfl⟩) (fun r2 H locs hQ hS => ?_)
  obtain ⟨wr, hR, hP⟩ := hQ
  have hP := pCR hP
  refine lv_pop hx hb dL_law_1519 rfl ?_
  refine lv_goto (tgt := 1592) hx hb dL_law_1520 (by decide) ?_
  exact kk _ _ _ _ _ _ hC hR hP hS hl
set_option maxHeartbeats 4000000 in
set_option maxRecDepth 100000 in
theorem lc_51 {p : Program} {l : Launch} {e : Env} {s : State} {m : MethodId} {below : List Frame} {meth : Method} {c : Code} {D : va_G} {k : Nat → ClassId} {A : Nat → Prop} {b L : Nat} {xs : Nat → Int32} {a q a2 : Nat → Nat} {Q : State → Prop} {i t : Int} {wc wr : va_W} {H : Heap} {locs : List Loc} {ls : Array Slot} (hx : p.tables.exec = Jvm.exec) (hb : c.code = cL_law) (hml : c.maxLocals = 4) (hown : s.vm.findClass "HideReaderLaw" = some m.cls) (hts : ∀ w ∈ UT, w.before #[Value.ref b] s = true) (hXs : va_X b L xs s s.heap) (hbl : b < s.heap.size) (hbA : ¬ A b) (hK : va_K D vwCl (tys k) s) (hA : ∀ q : Nat, s.heap.size ≤ q → A q) (hD : wD A (cAd a q [] ++ rAd a2 [])) (hi : 0 ≤ i ∧ i + 6 ≤ (L : Int) ∧ L ≤ 384) (hC : cI k a q t wc) (hR : rI k a2 t wr) (hP : va_P D vwCl (wc ++ wr) H) (hS : va_S A s.heap H locs) (hl : lv_has ls 4 [(0, .ref b), (1, .ref (a 0)), (2, .ref (a2 0)), (3, .int (mI i))]) (kk : ∀ (t : Int) (wc wr : va_W) (H : Heap) (locs : List Loc) (ls : Array Slot), cI k a q t wc → rI k a2 t wr → va_P D vwCl (wc ++ wr) H → va_S A s.heap H locs → lv_has ls 4 [(0, .ref b), (1, .ref (a 0)), (2, .ref (a2 0)), (3, .int (mI i))] → W p l e room_1 s m #[Value.ref b] below meth c H locs 278 29046 Q (F0 m 1592 ls [])) : W p l e room_1 s m #[Value.ref b] below meth c H locs 278 29046 Q (F0 m 1523 ls []) := by
  obtain ⟨z1, ez1, hz1⟩ := mI_of (xs (mI (i + 1)).toNatClampNeg)
  refine lv_aload_n hx hb dL_law_1523 rfl (lv_at hl 1 rfl) ?_
  refine lv_aload_n hx hb dL_law_1524 rfl (lv_at hl 0 rfl) ?_
  refine lv_iload_n hx hb dL_law_1525 rfl (lv_at hl 3 rfl) ?_
  refine lv_iconst (v := mI 1) hx hb dL_law_1526 rfl ?_
  refine sy_iadd hx hb dL_law_1527 (i + 1) rfl ?_
  refine va_sld hx hb hXs hbl hbA hS (mI_in (by omega) (by omega) (by omega)) dL_law_1528 ?_
  refine sy_top z1 ez1 ?_
  refine g_i (dCR hD hC hR) hS hA (g_V (own := "HideReaderLaw") (As := [.int (mI z1)]) (rest := []) hx hb hml hown hts hK hP (dCR hD hC hR) (mC_image (l := l) (D := D) (k := k) hz1 hC) ck_X11_image iv_X11_image uw_6_155 (cI_recv hC hK hP) rfl hl.1 rfl (Nat.le_of_ble_eq_true rfl) dL_law_1529 ⟨Nat.le_of_ble_eq_true rfl, Nat.le_of_ble_eq_true rfl⟩ ⟨Nat.le_of_ble_eq_true rfl, Nat.le_of_ble_eq_true rfl⟩) (fun r1 H locs hQ hS => ?_)
  obtain ⟨wc, hC, hP⟩ := hQ
  refine lv_pop hx hb dL_law_1532 rfl ?_
  refine lv_aload_n hx hb dL_law_1533 rfl (lv_at hl 2 rfl) ?_
  refine lv_aload_n hx hb dL_law_1534 rfl (lv_at hl 0 rfl) ?_
  refine lv_iload_n hx hb dL_law_1535 rfl (lv_at hl 3 rfl) ?_
  refine lv_iconst (v := mI 1) hx hb dL_law_1536 rfl ?_
  refine sy_iadd hx hb dL_law_1537 (i + 1) rfl ?_
  refine va_sld hx hb hXs hbl hbA hS (mI_in (by omega) (by omega) (by omega)) dL_law_1538 ?_
  refine sy_top z1 ez1 ?_
  refine g_i (dRC hD hC hR) hS hA (g_V (own := "HideReaderLaw") (As := [.int (mI z1)]) (rest := []) hx hb hml hown hts hK (pCR hP) (dRC hD hC hR) (mR_image (l := l) (D := D) (k := k) hz1 hR) ck_X12_image iv_X12_image uw_9_189 (rI_recv hR hK (pCR hP)) rfl hl.1 rfl (Nat.le_of_ble_eq_true rfl) dL_law_1539 ⟨Nat.le_of_ble_eq_true rfl, Nat.le_of_ble_eq_true rfl⟩ ⟨Nat.le_of_ble_eq_true rfl, Nat.le_of_ble_eq_true rfl⟩) (fun r2 H locs hQ hS => ?_)
  obtain ⟨wr, hR, hP⟩ := hQ
  have hP := pCR hP
  refine lv_pop hx hb dL_law_1542 rfl ?_
  refine lv_goto (tgt := 1592) hx hb dL_law_1543 (by decide) ?_
  exact kk _ _ _ _ _ _ hC hR hP hS hl
set_option maxHeartbeats 4000000 in
set_option maxRecDepth 100000 in
theorem lc_52 {p : Program} {l : Launch} {e : Env} {s : State} {m : MethodId} {below : List Frame} {meth : Method} {c : Code} {D : va_G} {k : Nat → ClassId} {A : Nat → Prop} {b L : Nat} {xs : Nat → Int32} {a q a2 : Nat → Nat} {Q : State → Prop} {i t : Int} {wc wr : va_W} {H : Heap} {locs : List Loc} {ls : Array Slot} (hx : p.tables.exec = Jvm.exec) (hb : c.code = cL_law) (hml : c.maxLocals = 4) (hown : s.vm.findClass "HideReaderLaw" = some m.cls) (hts : ∀ w ∈ UT, w.before #[Value.ref b] s = true) (hXs : va_X b L xs s s.heap) (hbl : b < s.heap.size) (hbA : ¬ A b) (hK : va_K D vwCl (tys k) s) (hA : ∀ q : Nat, s.heap.size ≤ q → A q) (hD : wD A (cAd a q [] ++ rAd a2 [])) (hi : 0 ≤ i ∧ i + 6 ≤ (L : Int) ∧ L ≤ 384) (hC : cI k a q t wc) (hR : rI k a2 t wr) (hP : va_P D vwCl (wc ++ wr) H) (hS : va_S A s.heap H locs) (hl : lv_has ls 4 [(0, .ref b), (1, .ref (a 0)), (2, .ref (a2 0)), (3, .int (mI i))]) (kk : ∀ (t : Int) (wc wr : va_W) (H : Heap) (locs : List Loc) (ls : Array Slot), cI k a q t wc → rI k a2 t wr → va_P D vwCl (wc ++ wr) H → va_S A s.heap H locs → lv_has ls 4 [(0, .ref b), (1, .ref (a 0)), (2, .ref (a2 0)), (3, .int (mI i))] → W p l e room_1 s m #[Value.ref b] below meth c H locs 278 29046 Q (F0 m 1592 ls [])) : W p l e room_1 s m #[Value.ref b] below meth c H locs 278 29046 Q (F0 m 1546 ls []) := by
  obtain ⟨z1, ez1, hz1⟩ := mI_of (xs (mI (i + 1)).toNatClampNeg)
  refine lv_aload_n hx hb dL_law_1546 rfl (lv_at hl 1 rfl) ?_
  refine lv_aload_n hx hb dL_law_1547 rfl (lv_at hl 0 rfl) ?_
  refine lv_iload_n hx hb dL_law_1548 rfl (lv_at hl 3 rfl) ?_
  refine lv_iconst (v := mI 1) hx hb dL_law_1549 rfl ?_
  refine sy_iadd hx hb dL_law_1550 (i + 1) rfl ?_
  refine va_sld hx hb hXs hbl hbA hS (mI_in (by omega) (by omega) (by omega)) dL_law_1551 ?_
  refine sy_top z1 ez1 ?_
  refine g_i (dCR hD hC hR) hS hA (g_V (own := "HideReaderLaw") (As := [.int (mI z1)]) (rest := []) hx hb hml hown hts hK hP (dCR hD hC hR) (mC_back (l := l) (D := D) (k := k) hz1 hC) ck_X11_back iv_X11_back uw_6_166 (cI_recv hC hK hP) rfl hl.1 rfl (Nat.le_of_ble_eq_true rfl) dL_law_1552 ⟨Nat.le_of_ble_eq_true rfl, Nat.le_of_ble_eq_true rfl⟩ ⟨Nat.le_of_ble_eq_true rfl, Nat.le_of_ble_eq_true rfl⟩) (fun r1 H locs hQ hS => ?_)
  obtain ⟨wc, hC, hP⟩ := hQ
  refine lv_pop hx hb dL_law_1555 rfl ?_
  refine lv_aload_n hx hb dL_law_1556 rfl (lv_at hl 2 rfl) ?_
  refine lv_aload_n hx hb dL_law_1557 rfl (lv_at hl 0 rfl) ?_
  refine lv_iload_n hx hb dL_law_1558 rfl (lv_at hl 3 rfl) ?_
  refine lv_iconst (v := mI 1) hx hb dL_law_1559 rfl ?_
  refine sy_iadd hx hb dL_law_1560 (i + 1) rfl ?_
  refine va_sld hx hb hXs hbl hbA hS (mI_in (by omega) (by omega) (by omega)) dL_law_1561 ?_
  refine sy_top z1 ez1 ?_
  refine g_i (dRC hD hC hR) hS hA (g_V (own := "HideReaderLaw") (As := [.int (mI z1)]) (rest := []) hx hb hml hown hts hK (pCR hP) (dRC hD hC hR) (mR_back (l := l) (D := D) (k := k) hz1 hR) ck_X12_back iv_X12_back uw_9_193 (rI_recv hR hK (pCR hP)) rfl hl.1 rfl (Nat.le_of_ble_eq_true rfl) dL_law_1562 ⟨Nat.le_of_ble_eq_true rfl, Nat.le_of_ble_eq_true rfl⟩ ⟨Nat.le_of_ble_eq_true rfl, Nat.le_of_ble_eq_true rfl⟩) (fun r2 H locs hQ hS => ?_)
  obtain ⟨wr, hR, hP⟩ := hQ
  have hP := pCR hP
  refine lv_pop hx hb dL_law_1565 rfl ?_
  refine lv_goto (tgt := 1592) hx hb dL_law_1566 (by decide) ?_
  exact kk _ _ _ _ _ _ hC hR hP hS hl
set_option maxHeartbeats 4000000 in
set_option maxRecDepth 100000 in
theorem lc_53 {p : Program} {l : Launch} {e : Env} {s : State} {m : MethodId} {below : List Frame} {meth : Method} {c : Code} {D : va_G} {k : Nat → ClassId} {A : Nat → Prop} {b L : Nat} {xs : Nat → Int32} {a q a2 : Nat → Nat} {Q : State → Prop} {i t : Int} {wc wr : va_W} {H : Heap} {locs : List Loc} {ls : Array Slot} (hx : p.tables.exec = Jvm.exec) (hb : c.code = cL_law) (hml : c.maxLocals = 4) (hown : s.vm.findClass "HideReaderLaw" = some m.cls) (hts : ∀ w ∈ UT, w.before #[Value.ref b] s = true) (hXs : va_X b L xs s s.heap) (hbl : b < s.heap.size) (hbA : ¬ A b) (hK : va_K D vwCl (tys k) s) (hA : ∀ q : Nat, s.heap.size ≤ q → A q) (hD : wD A (cAd a q [] ++ rAd a2 [])) (hi : 0 ≤ i ∧ i + 6 ≤ (L : Int) ∧ L ≤ 384) (hC : cI k a q t wc) (hR : rI k a2 t wr) (hP : va_P D vwCl (wc ++ wr) H) (hS : va_S A s.heap H locs) (hl : lv_has ls 4 [(0, .ref b), (1, .ref (a 0)), (2, .ref (a2 0)), (3, .int (mI i))]) (kk : ∀ (t : Int) (wc wr : va_W) (H : Heap) (locs : List Loc) (ls : Array Slot), cI k a q t wc → rI k a2 t wr → va_P D vwCl (wc ++ wr) H → va_S A s.heap H locs → lv_has ls 4 [(0, .ref b), (1, .ref (a 0)), (2, .ref (a2 0)), (3, .int (mI i))] → W p l e room_1 s m #[Value.ref b] below meth c H locs 278 29046 Q (F0 m 1592 ls [])) : W p l e room_1 s m #[Value.ref b] below meth c H locs 278 29046 Q (F0 m 1569 ls []) := by
  obtain ⟨z1, ez1, hz1⟩ := mI_of (xs (mI (i + 1)).toNatClampNeg)
  refine lv_aload_n hx hb dL_law_1569 rfl (lv_at hl 1 rfl) ?_
  refine lv_aload_n hx hb dL_law_1570 rfl (lv_at hl 0 rfl) ?_
  refine lv_iload_n hx hb dL_law_1571 rfl (lv_at hl 3 rfl) ?_
  refine lv_iconst (v := mI 1) hx hb dL_law_1572 rfl ?_
  refine sy_iadd hx hb dL_law_1573 (i + 1) rfl ?_
  refine va_sld hx hb hXs hbl hbA hS (mI_in (by omega) (by omega) (by omega)) dL_law_1574 ?_
  refine sy_top z1 ez1 ?_
  refine g_i (dCR hD hC hR) hS hA (g_V (own := "HideReaderLaw") (As := [.int (mI z1)]) (rest := []) hx hb hml hown hts hK hP (dCR hD hC hR) (mC_about (l := l) (D := D) (k := k) hz1 hC) ck_X11_about iv_X11_about uw_6_174 (cI_recv hC hK hP) rfl hl.1 rfl (Nat.le_of_ble_eq_true rfl) dL_law_1575 ⟨Nat.le_of_ble_eq_true rfl, Nat.le_of_ble_eq_true rfl⟩ ⟨Nat.le_of_ble_eq_true rfl, Nat.le_of_ble_eq_true rfl⟩) (fun r1 H locs hQ hS => ?_)
  obtain ⟨wc, hC, hP⟩ := hQ
  refine lv_pop hx hb dL_law_1578 rfl ?_
  refine lv_aload_n hx hb dL_law_1579 rfl (lv_at hl 2 rfl) ?_
  refine lv_aload_n hx hb dL_law_1580 rfl (lv_at hl 0 rfl) ?_
  refine lv_iload_n hx hb dL_law_1581 rfl (lv_at hl 3 rfl) ?_
  refine lv_iconst (v := mI 1) hx hb dL_law_1582 rfl ?_
  refine sy_iadd hx hb dL_law_1583 (i + 1) rfl ?_
  refine va_sld hx hb hXs hbl hbA hS (mI_in (by omega) (by omega) (by omega)) dL_law_1584 ?_
  refine sy_top z1 ez1 ?_
  refine g_i (dRC hD hC hR) hS hA (g_V (own := "HideReaderLaw") (As := [.int (mI z1)]) (rest := []) hx hb hml hown hts hK (pCR hP) (dRC hD hC hR) (mR_about (l := l) (D := D) (k := k) hz1 hR) ck_X12_about iv_X12_about uw_9_197 (rI_recv hR hK (pCR hP)) rfl hl.1 rfl (Nat.le_of_ble_eq_true rfl) dL_law_1585 ⟨Nat.le_of_ble_eq_true rfl, Nat.le_of_ble_eq_true rfl⟩ ⟨Nat.le_of_ble_eq_true rfl, Nat.le_of_ble_eq_true rfl⟩) (fun r2 H locs hQ hS => ?_)
  obtain ⟨wr, hR, hP⟩ := hQ
  have hP := pCR hP
  refine lv_pop hx hb dL_law_1588 rfl ?_
  refine lv_goto (tgt := 1592) hx hb dL_law_1589 (by decide) ?_
  exact kk _ _ _ _ _ _ hC hR hP hS hl
