theorem zs_at {ws W0 : va_W} {is : List Nat} (h : is.map (fun i => W0[i]?) = ws.map some) (k : Nat) (q : Nat × va_E) (hq : ws[k]? = some q) : ∃ i, is[k]? = some i ∧ W0[i]? = some q := by
  have h1 : (is.map (fun i => W0[i]?))[k]? = some (some q) := by rw [h, List.getElem?_map, hq]; rfl
  rw [List.getElem?_map] at h1
  cases hi : is[k]? with
  | none => rw [hi] at h1; cases h1
  | some i => rw [hi] at h1; exact ⟨i, rfl, Option.some.inj h1⟩
theorem zs_P {D : va_G} {cl : List vw_C} {ws W0 : va_W} {H : Heap} (hP : va_P D cl W0 H) (is : List Nat) (h : is.map (fun i => W0[i]?) = ws.map some) : va_P D cl ws H := fun k q hq => by
  obtain ⟨i, -, hi⟩ := zs_at h k q hq
  exact hP i q hi
theorem zs_recv {s : State} {H : Heap} {D : va_G} {a q0 ci : Nat} {r : vw_C} {fs : List Value} {ws : va_W} {k : Nat → ClassId} {C : String} (hK : va_K D vwCl (tys k) s) (hP : va_P D vwCl ws H) (ci' : Nat) (hc : vwCl[ci]? = some r) (he : ws[q0]? = some (a, .inr (ci, fs))) (hC : r.1 = C) : ∃ cell : Cell, H[a]? = some cell ∧ cell.vm.isStatics = false ∧ s.vm.findClass C = some cell.cls := by
  subst hC
  exact va_recv hK hP hc he
section ZM
variable {p : Program} {l : Launch} {e : Env} {R : Room} {s : State} {m : MethodId} {args : Array Value} {below : List Frame} {meth : Method} {c : Code} {H : Heap} {locs : List Loc} {cells slots : Nat} {Q : State → Prop}
variable {y : MethodName} {bytes cc : ByteArray} {maxL nL mc ms n index d : Nat} {ret : Option FieldType} {own : String} {b : Addr} {As rest st0 : List Value} {pc : Nat} {ls : Array Slot} {D : va_G} {k : Nat → ClassId} {ws W0 wr : va_W} {X : State → Prop} {A0 : Nat → Prop} {H0 : Heap}
variable {Qm : (Nat → Prop) → Array Value → State → Outcome → State → Prop}
theorem zm_V (hx : p.tables.exec = Jvm.exec) (hb : c.code = cc) (hml : c.maxLocals = nL) (hown : s.vm.findClass own = some m.cls) (hts : ∀ w ∈ UT, w.before args s = true) (hK : va_K D vwCl (tys k) s) (hXs : Stb X) (hX : ∀ U : State, U.heap = H → s.WarmedH U.vm → X U)
    (hM : MetM l D k y bytes maxL ret d mc ms (.ref b :: As) ws X Qm) (hk : ckC y bytes maxL ret n) (hi : Cond.instanceMethod y ∈ UT ∧ Cond.selects y.cls y y ∈ UT) (hl : Cond.methodLink own index y ∈ UT) (hr : ∃ cell : Cell, H[b]? = some cell ∧ cell.vm.isStatics = false ∧ s.vm.findClass y.cls = some cell.cls)
    (hP : va_P D vwCl W0 H) (hD : va_D A0 W0) (isC : List Nat) (hC : isC.map (fun i => W0[i]?) = ws.map some) (hnd : va_nd isC = true) (hn : As.length = n) (hsz : ls.size = nL) (hst : st0 = As.reverse ++ .ref b :: rest) (hroom : (rest.map fun v => v.category).sum ≤ 8) (hdg : decode cc pc = .ok (.invokevirtual index, 3)) (hc : cells + mc ≤ R.cells ∧ slots + ms ≤ R.slots) (hR : d + 1 ≤ R.frames ∧ 100 * (d + 1) ≤ R.locals) :
    va_Run p l e R s m args below meth c H locs cells slots mc ms (F0 m pc ls st0) rest (Qm (va_A ws H.size) (Value.ref b :: As).toArray) (va_A ws H.size) :=
  va_runV (Ts := UT) ⟨hx, hb, hml, hown, hts⟩ (hM H.size) ⟨zc_B hts hk hl hR.1 hR.2, hts _ hi.1, hts _ hi.2⟩ ⟨pcM_blind hXs, hr, fun U hU hW => ⟨rfl, by rw [hU], by rw [hU]; exact zs_P hP isC hC, va_K.moved hW.alike hK, (hD.sub isC hnd hC).weaken (fun _ _ _ _ => trivial), hX U hU hW⟩⟩ rfl hn hsz hst (lv_room hroom) hdg hc
theorem zm_S (hx : p.tables.exec = Jvm.exec) (hb : c.code = cc) (hml : c.maxLocals = nL) (hown : s.vm.findClass own = some m.cls) (hts : ∀ w ∈ UT, w.before args s = true) (hK : va_K D vwCl (tys k) s) (hXs : Stb X) (hX : ∀ U : State, U.heap = H → s.WarmedH U.vm → X U)
    (hM : MetM l D k y bytes maxL ret d mc ms As ws X Qm) (hk : ckC y bytes maxL ret n) (hi : Cond.static y ∈ UT) (hl : Cond.methodLink own index y ∈ UT)
    (hP : va_P D vwCl W0 H) (hD : va_D A0 W0) (isC : List Nat) (hC : isC.map (fun i => W0[i]?) = ws.map some) (hnd : va_nd isC = true) (hn : As.length = n) (hsz : ls.size = nL) (hst : st0 = As.reverse ++ rest) (hroom : (rest.map fun v => v.category).sum ≤ 8) (hdg : decode cc pc = .ok (.invokestatic index, 3)) (hc : cells + mc ≤ R.cells ∧ slots + ms ≤ R.slots) (hR : d + 1 ≤ R.frames ∧ 100 * (d + 1) ≤ R.locals) :
    va_Run p l e R s m args below meth c H locs cells slots mc ms (F0 m pc ls st0) rest (Qm (va_A ws H.size) As.toArray) (va_A ws H.size) :=
  va_runS (Ts := UT) ⟨hx, hb, hml, hown, hts⟩ (hM H.size) ⟨zc_B hts hk hl hR.1 hR.2, hts _ hi⟩ ⟨pcM_blind hXs, fun U hU hW => ⟨rfl, by rw [hU], by rw [hU]; exact zs_P hP isC hC, va_K.moved hW.alike hK, (hD.sub isC hnd hC).weaken (fun _ _ _ _ => trivial), hX U hU hW⟩⟩ rfl hn hsz hst (lv_room hroom) hdg hc
theorem zm_I (hx : p.tables.exec = Jvm.exec) (hb : c.code = cc) (hml : c.maxLocals = nL) (hown : s.vm.findClass own = some m.cls) (hts : ∀ w ∈ UT, w.before args s = true) (hK : va_K D vwCl (tys k) s) (hXs : Stb X) (hX : ∀ U : State, U.heap = H → s.WarmedH U.vm → X U)
    (hM : MetM l D k y bytes maxL none d mc ms (.ref b :: As) ws X Qm) (hk : ckC y bytes maxL none n) (hi : y.name = "<init>" ∧ Cond.instanceMethod y ∈ UT) (hl : Cond.methodLink own index y ∈ UT)
    (hP : va_P D vwCl W0 H) (hD : va_D A0 W0) (isC : List Nat) (hC : isC.map (fun i => W0[i]?) = ws.map some) (hnd : va_nd isC = true) (hn : As.length = n) (hsz : ls.size = nL) (hst : st0 = As.reverse ++ .ref b :: rest) (hroom : (rest.map fun v => v.category).sum ≤ 8) (hdg : decode cc pc = .ok (.invokespecial index, 3)) (hc : cells + mc ≤ R.cells ∧ slots + ms ≤ R.slots) (hR : d + 1 ≤ R.frames ∧ 100 * (d + 1) ≤ R.locals) :
    va_Run p l e R s m args below meth c H locs cells slots mc ms (F0 m pc ls st0) rest (Qm (va_A ws H.size) (Value.ref b :: As).toArray) (va_A ws H.size) :=
  va_runI (Ts := UT) ⟨hx, hb, hml, hown, hts⟩ (hM H.size) ⟨zc_B hts hk hl hR.1 hR.2, hi.1, hts _ hi.2⟩ ⟨pcM_blind hXs, fun U hU hW => ⟨rfl, by rw [hU], by rw [hU]; exact zs_P hP isC hC, va_K.moved hW.alike hK, (hD.sub isC hnd hC).weaken (fun _ _ _ _ => trivial), hX U hU hW⟩⟩ rfl hn hsz hst (lv_room hroom) hdg hc
theorem zm_N {host : String} (hx : p.tables.exec = Jvm.exec) (hb : c.code = cc) (hml : c.maxLocals = nL) (hown : s.vm.findClass own = some m.cls) (hts : ∀ w ∈ UT, w.before args s = true) (hK : va_K D vwCl (tys k) s) (hXs : Stb X) (hX : ∀ U : State, U.heap = H → s.WarmedH U.vm → X U)
    (hM : MetM l D k y bytes maxL none d mc ms (.ref b :: As) ws X Qm) (hk : ckC y bytes maxL none n) (hi : y.name = "<init>" ∧ Cond.instanceMethod y ∈ UT) (hl : va_Nw (.methodLinkNest own index y host) s)
    (hP : va_P D vwCl W0 H) (hD : va_D A0 W0) (isC : List Nat) (hC : isC.map (fun i => W0[i]?) = ws.map some) (hnd : va_nd isC = true) (hn : As.length = n) (hsz : ls.size = nL) (hst : st0 = As.reverse ++ .ref b :: rest) (hroom : (rest.map fun v => v.category).sum ≤ 8) (hdg : decode cc pc = .ok (.invokespecial index, 3)) (hc : cells + mc ≤ R.cells ∧ slots + ms ≤ R.slots) (hR : d + 1 ≤ R.frames ∧ 100 * (d + 1) ≤ R.locals) :
    va_Run p l e R s m args below meth c H locs cells slots mc ms (F0 m pc ls st0) rest (Qm (va_A ws H.size) (Value.ref b :: As).toArray) (va_A ws H.size) :=
  va_runIN (Ts := UT) ⟨hx, hb, hml, hown, hts⟩ (hM H.size) ⟨va_cnB (Ts := UT) n hts (ut_gi hk.1.2) rfl rfl rfl hl (hts _ hk.1.1) hk.2.1 ⟨hR.1, by have := hk.2.2.2; have := hR.2; show 8 + (maxL + 11) + 100 * d ≤ R.locals; omega⟩, hi.1, hts _ hi.2⟩ ⟨pcM_blind hXs, fun U hU hW => ⟨rfl, by rw [hU], by rw [hU]; exact zs_P hP isC hC, va_K.moved hW.alike hK, (hD.sub isC hnd hC).weaken (fun _ _ _ _ => trivial), hX U hU hW⟩⟩ rfl hn hsz hst (lv_room hroom) hdg hc
abbrev qMi (D : va_G) {S : Type} (post : Int32 → S → Prop) (w1 : S → va_W) : (Nat → Prop) → Array Value → State → Outcome → State → Prop := fun A => va_Qi post (qW D w1 A) A
abbrev qMv (D : va_G) {S : Type} (post : S → Prop) (w1 : S → va_W) : (Nat → Prop) → Array Value → State → Outcome → State → Prop := fun A => va_Qv post (qW D w1 A) A
abbrev qMr (D : va_G) {S : Type} (x : Nat) (post : S → Prop) (w1 : S → va_W) : (Nat → Prop) → Array Value → State → Outcome → State → Prop := fun A => va_Qr post (fun u a t => a = x ∧ qW D w1 A u t) A
theorem zm_i {S : Type} {post : Int32 → S → Prop} {w1 : S → va_W} {a : Array Value} (hP : va_P D vwCl W0 H) (hD : va_D A0 W0) (hS : va_S A0 H0 H locs) (hA : ∀ q, H0.size ≤ q → A0 q) (isC isR : List Nat) (hr : va_Run p l e R s m args below meth c H locs cells slots mc ms (F0 m pc ls st0) rest (qMi D post w1 (va_A ws H.size) a) (va_A ws H.size))
    (hC : isC.map (fun i => W0[i]?) = ws.map some) (hR : isR.map (fun i => W0[i]?) = wr.map some) (hn : va_nd isR = true) (hdis : ∀ i ∈ isR, i ∉ isC)
    (kk : ∀ (r : Int32) (u : S) (H1 : Heap) (locs1 : List Loc), post r u → va_P D vwCl (wr ++ w1 u) H1 → va_D A0 (wr ++ w1 u) → va_S A0 H0 H1 locs1 → W p l e R s m args below meth c H1 locs1 (cells + mc) (slots + ms) Q (F0 m (pc + 3) ls (.int r :: rest))) : W p l e R s m args below meth c H locs cells slots Q (F0 m pc ls st0) := by
  have hF := va_free (wc := ws) hD hS hA isC hC
  refine va_calli hr hS (fun q _ h => hF q h) hF (fun r u t H1 locs1 ht hvm hw hB hz1 hk1 hS1 => ?_)
  obtain ⟨hP1, hD1⟩ := hB
  rw [ht] at hP1
  obtain ⟨hP2, hD2⟩ := va_join (wr := wr) (w1 := w1 u) hP hD isC isR hC hR hn hdis hk1 hF hP1 hD1
  exact kk r u H1 locs1 hw hP2 hD2 hS1
theorem zm_v {S : Type} {post : S → Prop} {w1 : S → va_W} {a : Array Value} (hP : va_P D vwCl W0 H) (hD : va_D A0 W0) (hS : va_S A0 H0 H locs) (hA : ∀ q, H0.size ≤ q → A0 q) (isC isR : List Nat) (hr : va_Run p l e R s m args below meth c H locs cells slots mc ms (F0 m pc ls st0) rest (qMv D post w1 (va_A ws H.size) a) (va_A ws H.size))
    (hC : isC.map (fun i => W0[i]?) = ws.map some) (hR : isR.map (fun i => W0[i]?) = wr.map some) (hn : va_nd isR = true) (hdis : ∀ i ∈ isR, i ∉ isC)
    (kk : ∀ (u : S) (H1 : Heap) (locs1 : List Loc), post u → va_P D vwCl (wr ++ w1 u) H1 → va_D A0 (wr ++ w1 u) → va_S A0 H0 H1 locs1 → W p l e R s m args below meth c H1 locs1 (cells + mc) (slots + ms) Q (F0 m (pc + 3) ls rest)) : W p l e R s m args below meth c H locs cells slots Q (F0 m pc ls st0) := by
  have hF := va_free (wc := ws) hD hS hA isC hC
  refine va_callv hr hS (fun q _ h => hF q h) hF (fun u t H1 locs1 ht hvm hw hB hz1 hk1 hS1 => ?_)
  obtain ⟨hP1, hD1⟩ := hB
  rw [ht] at hP1
  obtain ⟨hP2, hD2⟩ := va_join (wr := wr) (w1 := w1 u) hP hD isC isR hC hR hn hdis hk1 hF hP1 hD1
  exact kk u H1 locs1 hw hP2 hD2 hS1
theorem zm_a {S : Type} {x : Nat} {post : S → Prop} {w1 : S → va_W} {a : Array Value} (hP : va_P D vwCl W0 H) (hD : va_D A0 W0) (hS : va_S A0 H0 H locs) (hA : ∀ q, H0.size ≤ q → A0 q) (isC isR : List Nat) (hr : va_Run p l e R s m args below meth c H locs cells slots mc ms (F0 m pc ls st0) rest (qMr D x post w1 (va_A ws H.size) a) (va_A ws H.size))
    (hC : isC.map (fun i => W0[i]?) = ws.map some) (hR : isR.map (fun i => W0[i]?) = wr.map some) (hn : va_nd isR = true) (hdis : ∀ i ∈ isR, i ∉ isC)
    (kk : ∀ (u : S) (H1 : Heap) (locs1 : List Loc), post u → va_P D vwCl (wr ++ w1 u) H1 → va_D A0 (wr ++ w1 u) → va_S A0 H0 H1 locs1 → W p l e R s m args below meth c H1 locs1 (cells + mc) (slots + ms) Q (F0 m (pc + 3) ls (.ref x :: rest))) : W p l e R s m args below meth c H locs cells slots Q (F0 m pc ls st0) := by
  have hF := va_free (wc := ws) hD hS hA isC hC
  refine va_callr hr hS (fun q _ h => hF q h) hF (fun u x1 t H1 locs1 ht hvm hw hB hz1 hk1 hS1 => ?_)
  obtain ⟨hxx, hP1, hD1⟩ := hB
  subst hxx
  rw [ht] at hP1
  obtain ⟨hP2, hD2⟩ := va_join (wr := wr) (w1 := w1 u) hP hD isC isR hC hR hn hdis hk1 hF hP1 hD1
  exact kk u H1 locs1 hw hP2 hD2 hS1
/-- ends of methods that write -/
theorem zf_i {S : Type} {post : Int32 → S → Prop} {w1 : S → va_W} {v : Int32} {A : Nat → Prop} (hx : p.tables.exec = Jvm.exec) (hb : c.code = cc) (hr : meth.sig.returnType = some .int) (hlocks : meth.locks = false) (hdg : decode cc pc = .ok (.ireturn, 1)) (u : S) (hp : post v u) (hP : va_P D vwCl (w1 u) H) (hD : va_D A (w1 u)) (hS : va_S A s.heap H locs) (hc : cells ≤ mc) (hs : slots ≤ ms) :
    W p l e R s m args below meth c H locs cells slots (MQ below (qMi D post w1 A) args s mc ms A) (F0 m pc ls [.int v]) :=
  W.widen hc hs (W.iret hx hb hr (fun t ht _ => ⟨⟨v, u, rfl, hp, by rw [ht]; exact hP, hD⟩, hS.F ht⟩) hS.2.2 hdg hlocks)
theorem zf_z {S : Type} {post : Int32 → S → Prop} {w1 : S → va_W} {v : Int32} {ty : FieldType} {A : Nat → Prop} (hx : p.tables.exec = Jvm.exec) (hb : c.code = cc) (hr : meth.sig.returnType = some ty) (hlocks : meth.locks = false) (hdg : decode cc pc = .ok (.ireturn, 1)) (hnr : narrow ty (.int v) = .int v) (u : S) (hp : post v u) (hP : va_P D vwCl (w1 u) H) (hD : va_D A (w1 u)) (hS : va_S A s.heap H locs) (hc : cells ≤ mc) (hs : slots ≤ ms) :
    W p l e R s m args below meth c H locs cells slots (MQ below (qMi D post w1 A) args s mc ms A) (F0 m pc ls [.int v]) :=
  W.widen hc hs (W.zret hx hb hr hnr (fun t ht _ => ⟨⟨v, u, rfl, hp, by rw [ht]; exact hP, hD⟩, hS.F ht⟩) hS.2.2 hdg hlocks)
theorem zf_v {S : Type} {post : S → Prop} {w1 : S → va_W} {A : Nat → Prop} (hx : p.tables.exec = Jvm.exec) (hb : c.code = cc) (hr : meth.sig.returnType = none) (hlocks : meth.locks = false) (hdg : decode cc pc = .ok (.return_, 1)) (u : S) (hp : post u) (hP : va_P D vwCl (w1 u) H) (hD : va_D A (w1 u)) (hS : va_S A s.heap H locs) (hc : cells ≤ mc) (hs : slots ≤ ms) :
    W p l e R s m args below meth c H locs cells slots (MQ below (qMv D post w1 A) args s mc ms A) (F0 m pc ls []) :=
  W.widen hc hs (W.vret hx hb hr (fun t ht _ => ⟨⟨u, rfl, hp, by rw [ht]; exact hP, hD⟩, hS.F ht⟩) hS.2.2 hdg hlocks)
theorem zf_a {S : Type} {x : Nat} {post : S → Prop} {w1 : S → va_W} {A : Nat → Prop} {rt : FieldType} (hx : p.tables.exec = Jvm.exec) (hb : c.code = cc) (hr : meth.sig.returnType = some rt) (hrt : (∃ n, rt = .object n) ∨ ∃ t, rt = .array t) (hlocks : meth.locks = false) (hdg : decode cc pc = .ok (.areturn, 1)) (u : S) (hp : post u) (hP : va_P D vwCl (w1 u) H) (hD : va_D A (w1 u)) (hS : va_S A s.heap H locs) (hc : cells ≤ mc) (hs : slots ≤ ms) :
    W p l e R s m args below meth c H locs cells slots (MQ below (qMr D x post w1 A) args s mc ms A) (F0 m pc ls [.ref x]) :=
  W.widen hc hs (W.aret hx hb hr hrt (Or.inr ⟨x, rfl⟩) (fun t ht _ => ⟨⟨u, x, rfl, hp, rfl, by rw [ht]; exact hP, hD⟩, hS.F ht⟩) hS.2.2 hdg hlocks)
theorem ze_a {x : Nat} {rt : FieldType} (hx : p.tables.exec = Jvm.exec) (hb : c.code = cc) (hr : meth.sig.returnType = some rt) (hrt : (∃ n, rt = .object n) ∨ ∃ t, rt = .array t) (hlocks : meth.locks = false) (hdg : decode cc pc = .ok (.areturn, 1)) :
    W p l e R s m args below meth c s.heap [] 0 0 (MQ below (qA x) args s 0 0 (fun _ => False)) (F0 m pc ls [.ref x]) :=
  W.aret hx hb hr hrt (Or.inr ⟨x, rfl⟩) (fun t ht _ => ⟨rfl, ht⟩) (fun q h => by cases h) hdg hlocks
/-- new arrays, their class known -/
theorem zn_a {A : Nat → Prop} (hx : p.tables.exec = Jvm.exec) (hb : c.code = cc) (hts : ∀ w ∈ UT, w.before args s = true) {atype : ArrayType} (harr : Cond.arrayClass (newarray.typeOf atype) ∈ UT) {ty : FieldType} (hty : newarray.typeOf atype = ty) (hK : va_K D vwCl (tys k) s) (hP : va_P D vwCl ws H) (hD : va_D A ws) (hS : va_S A H0 H locs) (hA : ∀ q, H0.size ≤ q → A q) (t0 : Nat) {c0 : ClassId} (ht : (tys k)[t0]? = some (c0, ty))
    {n : Int32} {N' : Nat} {a0 : vp_A} (ha : ∀ cA : ClassId, vp_cell cA a0 = arrV cA N' (fun _ => defaultValue ty)) (hn : ¬ n < 0) (hN : n.toNatClampNeg = N') (hbytes : N' * componentBytes ty ≤ 536870912) (hcells : cells + 1 ≤ R.cells) (hslots : slots + N' ≤ R.slots) (hdg : decode cc pc = .ok (.newarray atype, 2))
    (kk : ∀ (q : Nat) (H1 : Heap), va_P D vwCl (ws ++ [(q, .inl (c0, a0))]) H1 → va_D A (ws ++ [(q, .inl (c0, a0))]) → va_S A H0 H1 locs →
      W p l e R s m args below meth c H1 locs (cells + 1) (slots + N') Q (F0 m (pc + 2) ls (.ref q :: rest))) : W p l e R s m args below meth c H locs cells slots Q (F0 m pc ls (.int n :: rest)) := by
  refine va_newa hx hb (hts _ harr) hty hK hP hD hS hA ha hn hN hbytes hcells hslots hdg (fun q cA H1 hK1 hP1 hD1 hS1 => ?_)
  have e : cA = c0 := by
    have h1 := (hK1.2 5 (cA, ty) rfl).2
    have h2 := (hK.2 t0 _ ht).2
    subst hty
    cases atype <;> exact Option.some.inj (h1.symm.trans h2)
  subst e
  exact kk q H1 hP1 hD1 hS1
theorem zn_q {A : Nat → Prop} (hx : p.tables.exec = Jvm.exec) (hb : c.code = cc) (hown : s.vm.findClass own = some m.cls) (hcl : (Cond.classLink own index "HideReader$Pasture").before args s = true) (hov : va_AO "HideReader$Pasture" s) (hK : va_K D vwCl (tys k) s) (hP : va_P D vwCl ws H) (hD : va_D A ws) (hS : va_S A H0 H locs) (hA : ∀ q, H0.size ≤ q → A q)
    {n : Int32} {N' : Nat} (hn : ¬ n < 0) (hN : n.toNatClampNeg = N') (hbytes : N' * 4 ≤ 536870912) (hcells : cells + 1 ≤ R.cells) (hslots : slots + N' ≤ R.slots) (hdg : decode cc pc = .ok (.anewarray index, 3))
    (kk : ∀ (q : Nat) (H1 : Heap), va_P D vwCl (ws ++ [(q, .inl (k 4, N', .inr (.inr (.inr (.inr (fun _ => none))))))]) H1 → va_D A (ws ++ [(q, .inl (k 4, N', .inr (.inr (.inr (.inr (fun _ => none))))))]) → va_S A H0 H1 locs →
      W p l e R s m args below meth c H1 locs (cells + 1) (slots + N') Q (F0 m (pc + 3) ls (.ref q :: rest))) : W p l e R s m args below meth c H locs cells slots Q (F0 m pc ls (.int n :: rest)) := by
  refine va_newq hx hb hown hcl hov hK hP hD hS hA hn hN hbytes hcells hslots hdg (fun q cA H1 hK1 hP1 hD1 hS1 => ?_)
  have e : cA = k 4 := by
    obtain ⟨-, -, -, -, -, h1⟩ := (hK1.2 5 (cA, .object "HideReader$Pasture") rfl).2
    obtain ⟨-, -, -, -, -, h2⟩ := (hK.2 4 _ rfl).2
    exact Option.some.inj (h1.symm.trans h2)
  subst e
  exact kk q H1 hP1 hD1 hS1
end ZM
