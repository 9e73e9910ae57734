/-! ===== words: all that hold at every state of a run, once for all methods ===== -/
def UT : List Cond := lw_tbl.filter goodWord
theorem ut_of {w : Cond} (h : w ∈ lw_tbl) (hg : goodWord w = true) : w ∈ UT := List.mem_filter.mpr ⟨h, hg⟩
theorem ut_good {w : Cond} (h : w ∈ UT) : goodWord w = true := (List.mem_filter.mp h).2
theorem ut_in {w : Cond} (h : w ∈ UT) : w ∈ lw_tbl := (List.mem_filter.mp h).1
theorem ut_t {w : Cond} (h : w ∈ tables_1) (hg : goodWord w = true) : w ∈ UT := ut_of (List.mem_append_right _ h) hg
theorem ut_s {q : MethodName × Nat} (h : q ∈ lw_privs) (hg : goodWord (Cond.selects q.1.cls q.1 q.1) = true) : Cond.selects q.1.cls q.1 q.1 ∈ UT := ut_of (List.mem_append_left _ (List.mem_map.mpr ⟨q, h, rfl⟩)) hg
theorem ut_gi {c : Cond} (hc : c ∈ UT) : GoodIn UT (c :: UT) := fun w hw => by
  rcases List.mem_cons.mp hw with rfl | h
  · exact ⟨hc, good_of_word (ut_good hc)⟩
  · exact ⟨h, good_of_word (ut_good h)⟩
abbrev tys (k : Nat → ClassId) : List (ClassId × FieldType) := [(k 0, .int), (k 1, .byte), (k 2, .long), (k 3, .boolean), (k 4, .object "HideReader$Pasture")]
/-- a method that is called: what the tables say of it -/
def ckC (y : MethodName) (bytes : ByteArray) (maxL : Nat) (ret : Option FieldType) (n : Nat) : Prop :=
  (Cond.initialized y.cls ∈ UT ∧ Cond.code y bytes maxL ret ∈ UT) ∧ (y.cls ≠ "java/lang/invoke/MethodHandle" ∧ y.cls ≠ "java/lang/invoke/VarHandle" ∧ (parseMethodDescriptor y.desc).map (fun d => d.parameters.length) = some n) ∧ plainName y.cls = true ∧ maxL ≤ 60
abbrev rmD (d mc ms : Nat) : Room := { frames := d, cells := mc, slots := ms, locals := 100 * d }
abbrev pcR (D : va_G) (k : Nat → ClassId) (as : List Value) (ws : va_W) (X : State → Prop) : Array Value → State → Prop := va_Pc as (fun U => va_P D vwCl ws U.heap ∧ va_K D vwCl (tys k) U ∧ X U)
abbrev pcM (D : va_G) (k : Nat → ClassId) (as : List Value) (ws : va_W) (sz : Nat) (X : State → Prop) : Array Value → State → Prop := va_Pc as (fun U => U.heap.size = sz ∧ va_P D vwCl ws U.heap ∧ va_K D vwCl (tys k) U ∧ va_D (fun _ => True) ws ∧ X U)
/-- what is passed on to every call beside the world -/
def Stb (X : State → Prop) : Prop := ∀ (a : Array Value) (U : State) (g : JFrame) (mk : MethodId), X U → X (U.calling g mk a)
abbrev noX : State → Prop := fun _ => True
theorem noX_stb : Stb noX := fun _ _ _ _ _ => trivial
theorem pcR_blind {D : va_G} {k : Nat → ClassId} {as : List Value} {ws : va_W} {X : State → Prop} (hX : Stb X) : FrameBlind (pcR D k as ws X) := fun a U g mk q => by
  obtain ⟨q0, qP, qK, qX⟩ := q
  exact ⟨q0, qP, va_K.moved (u := U) (U := U.calling g mk a) (Vm.Alike.refl U.vm) qK, hX a U g mk qX⟩
theorem pcM_blind {D : va_G} {k : Nat → ClassId} {as : List Value} {ws : va_W} {sz : Nat} {X : State → Prop} (hX : Stb X) : FrameBlind (pcM D k as ws sz X) := fun a U g mk q => by
  obtain ⟨q0, q1, qP, qK, qD, qX⟩ := q
  exact ⟨q0, q1, qP, va_K.moved (u := U) (U := U.calling g mk a) (Vm.Alike.refl U.vm) qK, qD, hX a U g mk qX⟩
/-- the contracts -/
abbrev MetR (l : Launch) (D : va_G) (k : Nat → ClassId) (y : MethodName) (bytes : ByteArray) (maxL : Nat) (ret : Option FieldType) (d : Nat) (as : List Value) (ws : va_W) (X : State → Prop) (Qc : Array Value → State → Outcome → State → Prop) : Prop :=
  Met l y (Cond.code y bytes maxL ret :: UT) (rmD d 0 0) (pcR D k as ws X) Qc 0 0 (fun _ => False)
abbrev qW (D : va_G) {S : Type} (w1 : S → va_W) (A : Nat → Prop) : S → State → Prop := fun u t => va_P D vwCl (w1 u) t.heap ∧ va_D A (w1 u)
abbrev MetM (l : Launch) (D : va_G) (k : Nat → ClassId) (y : MethodName) (bytes : ByteArray) (maxL : Nat) (ret : Option FieldType) (d mc ms : Nat) (as : List Value) (ws : va_W) (X : State → Prop) (Qc : (Nat → Prop) → Array Value → State → Outcome → State → Prop) : Prop :=
  ∀ sz : Nat, Met l y (Cond.code y bytes maxL ret :: UT) (rmD d mc ms) (pcM D k as ws sz X) (Qc (va_A ws sz)) mc ms (va_A ws sz)
theorem metR_of {l : Launch} {D : va_G} {k : Nat → ClassId} {y : MethodName} {bytes : ByteArray} {maxL : Nat} {ret : Option FieldType} {d : Nat} {as : List Value} {ws : va_W} {X : State → Prop} {Qc : Array Value → State → Outcome → State → Prop} (n : Nat) (hk : ckC y bytes maxL ret n) (hmx : (lg_sl as).length ≤ maxL)
    (body : ∀ (p : Program) (e : Env) (s : State) (m : MethodId) (args : Array Value) (below : List Frame) (meth : Method) (c : Code), p.tables.exec = Jvm.exec → c.code = bytes → c.maxLocals = maxL → meth.sig.returnType = ret → meth.locks = false → s.vm.findClass y.cls = some m.cls → (∀ w ∈ UT, w.before args s = true) → va_K D vwCl (tys k) s → X s → va_P D vwCl ws s.heap → meth.name = y.name → ∀ ls : Array Slot, lv_has ls maxL (lv_args 0 as) → W p l e (rmD d 0 0) s m args below meth c s.heap [] 0 0 (MQ below Qc args s 0 0 (fun _ => False)) (F0 m 0 ls [])) : MetR l D k y bytes maxL ret d as ws X Qc := by
  refine Met.ofW (cc := bytes) (maxL := maxL) (ret := ret) hk.2.2.1 rfl ?_
  intro p e s m args below meth c s₁ B hml hv
  obtain ⟨rfl, hP, hK, hX⟩ := hv
  have hts := atoms_spec (ws := Cond.code y bytes maxL ret :: UT) B.pre
  have hl := lv_entry as (n := maxL) hmx
  rw [lg_entry_eq]
  exact body p e s m _ below meth c B.exec B.bytes hml B.returns B.notSynchronized (findClass_of_methodNamed B.named) (fun w h => hts w (List.mem_cons_of_mem _ h)) hK hX hP (name_of_methodNamed B.named B.method).1 _ hl
theorem metM_of {l : Launch} {D : va_G} {k : Nat → ClassId} {y : MethodName} {bytes : ByteArray} {maxL : Nat} {ret : Option FieldType} {d mc ms : Nat} {as : List Value} {ws : va_W} {X : State → Prop} {Qc : (Nat → Prop) → Array Value → State → Outcome → State → Prop} (n : Nat) (hk : ckC y bytes maxL ret n) (hmx : (lg_sl as).length ≤ maxL)
    (body : ∀ (p : Program) (e : Env) (s : State) (m : MethodId) (args : Array Value) (below : List Frame) (meth : Method) (c : Code) (A : Nat → Prop), p.tables.exec = Jvm.exec → c.code = bytes → c.maxLocals = maxL → meth.sig.returnType = ret → meth.locks = false → s.vm.findClass y.cls = some m.cls → (∀ w ∈ UT, w.before args s = true) → va_K D vwCl (tys k) s → X s → va_P D vwCl ws s.heap → va_D A ws → (∀ q : Nat, s.heap.size ≤ q → A q) → meth.name = y.name → ∀ ls : Array Slot, lv_has ls maxL (lv_args 0 as) → W p l e (rmD d mc ms) s m args below meth c s.heap [] 0 0 (MQ below (Qc A) args s mc ms A) (F0 m 0 ls [])) : MetM l D k y bytes maxL ret d mc ms as ws X Qc := by
  intro sz
  refine Met.ofW (cc := bytes) (maxL := maxL) (ret := ret) hk.2.2.1 rfl ?_
  intro p e s m args below meth c s₁ B hml hv
  obtain ⟨rfl, rfl, hP, hK, hD, hX⟩ := hv
  have hts := atoms_spec (ws := Cond.code y bytes maxL ret :: UT) B.pre
  have hl := lv_entry as (n := maxL) hmx
  rw [lg_entry_eq]
  exact body p e s m _ below meth c _ B.exec B.bytes hml B.returns B.notSynchronized (findClass_of_methodNamed B.named) (fun w h => hts w (List.mem_cons_of_mem _ h)) hK hX hP (hD.self (sz := s.heap.size)) (fun q h => Or.inr h) (name_of_methodNamed B.named B.method).1 _ hl
section ZC
variable {p : Program} {l : Launch} {e : Env} {R : Room} {s : State} {m : MethodId} {args : Array Value} {below : List Frame} {meth : Method} {c : Code} {H : Heap} {locs : List Loc} {cells slots : Nat} {Q : State → Prop}
variable {y : MethodName} {bytes cc : ByteArray} {maxL nL mc ms n index d : Nat} {ret : Option FieldType} {own : String} {b : Addr} {As rest st0 : List Value} {pc : Nat} {ls : Array Slot} {D : va_G} {k : Nat → ClassId} {ws W0 wr : va_W} {X : State → Prop} {Qc : Array Value → State → Outcome → State → Prop} {A0 : Nat → Prop} {H0 : Heap}
theorem zc_B (hts : ∀ w ∈ UT, w.before args s = true) (hk : ckC y bytes maxL ret n) (hl : Cond.methodLink own index y ∈ UT) (hfr : d + 1 ≤ R.frames) (hlo : 100 * (d + 1) ≤ R.locals) : CallB R s args own index y bytes maxL ret (Cond.code y bytes maxL ret :: UT) (rmD d mc ms) mc ms n :=
  callB_of (Ts := UT) n hts (ut_gi hk.1.2) rfl rfl rfl (hts _ hk.1.1) (hts _ hl) hk.2.1 ⟨hfr, by have := hk.2.2.2; show 8 + (maxL + 11) + 100 * d ≤ R.locals; omega⟩
/-- a call of an instance method, of a static one, of a constructor: read only -/
theorem zr_V (hx : p.tables.exec = Jvm.exec) (hb : c.code = cc) (hml : c.maxLocals = nL) (hown : s.vm.findClass own = some m.cls) (hts : ∀ w ∈ UT, w.before args s = true) (hK : va_K D vwCl (tys k) s) (hXs : Stb X) (hX : ∀ U : State, U.heap = H → s.WarmedH U.vm → X U)
    (hM : MetR l D k y bytes maxL ret d (.ref b :: As) ws X Qc) (hk : ckC y bytes maxL ret n) (hi : Cond.instanceMethod y ∈ UT ∧ Cond.selects y.cls y y ∈ UT) (hl : Cond.methodLink own index y ∈ UT) (hr : ∃ cell : Cell, H[b]? = some cell ∧ cell.vm.isStatics = false ∧ s.vm.findClass y.cls = some cell.cls)
    (hP : va_P D vwCl ws H) (hn : As.length = n) (hsz : ls.size = nL) (hst : st0 = As.reverse ++ .ref b :: rest) (hroom : (rest.map fun v => v.category).sum ≤ 8) (hdg : decode cc pc = .ok (.invokevirtual index, 3)) (hc : cells ≤ R.cells ∧ slots ≤ R.slots) (hR : d + 1 ≤ R.frames ∧ 100 * (d + 1) ≤ R.locals) :
    va_Run p l e R s m args below meth c H locs cells slots 0 0 (F0 m pc ls st0) rest (Qc (Value.ref b :: As).toArray) (fun _ => False) :=
  va_runV (Ts := UT) ⟨hx, hb, hml, hown, hts⟩ hM ⟨zc_B hts hk hl hR.1 hR.2, hts _ hi.1, hts _ hi.2⟩ ⟨pcR_blind hXs, hr, fun U hU hW => ⟨rfl, by rw [hU]; exact hP, va_K.moved hW.alike hK, hX U hU hW⟩⟩ rfl hn hsz hst (lv_room hroom) hdg hc
theorem zr_S (hx : p.tables.exec = Jvm.exec) (hb : c.code = cc) (hml : c.maxLocals = nL) (hown : s.vm.findClass own = some m.cls) (hts : ∀ w ∈ UT, w.before args s = true) (hK : va_K D vwCl (tys k) s) (hXs : Stb X) (hX : ∀ U : State, U.heap = H → s.WarmedH U.vm → X U)
    (hM : MetR l D k y bytes maxL ret d As ws X Qc) (hk : ckC y bytes maxL ret n) (hi : Cond.static y ∈ UT) (hl : Cond.methodLink own index y ∈ UT)
    (hP : va_P D vwCl ws H) (hn : As.length = n) (hsz : ls.size = nL) (hst : st0 = As.reverse ++ rest) (hroom : (rest.map fun v => v.category).sum ≤ 8) (hdg : decode cc pc = .ok (.invokestatic index, 3)) (hc : cells ≤ R.cells ∧ slots ≤ R.slots) (hR : d + 1 ≤ R.frames ∧ 100 * (d + 1) ≤ R.locals) :
    va_Run p l e R s m args below meth c H locs cells slots 0 0 (F0 m pc ls st0) rest (Qc As.toArray) (fun _ => False) :=
  va_runS (Ts := UT) ⟨hx, hb, hml, hown, hts⟩ hM ⟨zc_B hts hk hl hR.1 hR.2, hts _ hi⟩ ⟨pcR_blind hXs, fun U hU hW => ⟨rfl, by rw [hU]; exact hP, va_K.moved hW.alike hK, hX U hU hW⟩⟩ rfl hn hsz hst (lv_room hroom) hdg hc
theorem zr_i {post : Int32 → Prop} {a : Array Value} (hr : va_Run p l e R s m args below meth c H locs cells slots 0 0 (F0 m pc ls st0) rest (vp_Si post a) (fun _ => False))
    (kk : ∀ r : Int32, post r → W p l e R s m args below meth c H locs cells slots Q (F0 m (pc + 3) ls (.int r :: rest))) : W p l e R s m args below meth c H locs cells slots Q (F0 m pc ls st0) := by
  intro T hT X
  obtain ⟨v, st₀, t, T', L, h0, X', hL, e1, e2, ⟨r, hv, hp, hh⟩, st⟩ := hr T hT X
  cases hv
  obtain ⟨t2, a1, b1⟩ := kk r hp T' (by rw [e1, hh, h0]) (Stand.forget X' (fun q h => (hL q h).elim))
  exact ⟨t2, st t2 a1, b1⟩
theorem zr_l {post : Int64 → Prop} {a : Array Value} (hr : va_Run p l e R s m args below meth c H locs cells slots 0 0 (F0 m pc ls st0) rest (vp_Sl post a) (fun _ => False))
    (kk : ∀ r : Int64, post r → W p l e R s m args below meth c H locs cells slots Q (F0 m (pc + 3) ls (.long r :: rest))) : W p l e R s m args below meth c H locs cells slots Q (F0 m pc ls st0) := by
  intro T hT X
  obtain ⟨v, st₀, t, T', L, h0, X', hL, e1, e2, ⟨r, hv, hp, hh⟩, st⟩ := hr T hT X
  cases hv
  obtain ⟨t2, a1, b1⟩ := kk r hp T' (by rw [e1, hh, h0]) (Stand.forget X' (fun q h => (hL q h).elim))
  exact ⟨t2, st t2 a1, b1⟩
theorem zr_v {post : Unit → Prop} {a : Array Value} (hr : va_Run p l e R s m args below meth c H locs cells slots 0 0 (F0 m pc ls st0) rest (va_Sv post a) (fun _ => False))
    (kk : post () → W p l e R s m args below meth c H locs cells slots Q (F0 m (pc + 3) ls rest)) : W p l e R s m args below meth c H locs cells slots Q (F0 m pc ls st0) := by
  intro T hT X
  obtain ⟨v, st₀, t, T', L, h0, X', hL, e1, e2, ⟨hv, hp, hh⟩, st⟩ := hr T hT X
  cases hv
  obtain ⟨t2, a1, b1⟩ := kk hp T' (by rw [e1, hh, h0]) (Stand.forget X' (fun q h => (hL q h).elim))
  exact ⟨t2, st t2 a1, b1⟩
/-- an answer that is a cell known before -/
def qA (x : Nat) : Array Value → State → Outcome → State → Prop := fun _ st oc t => oc = .returned (some (.ref x)) ∧ t.heap = st.heap
theorem zr_a {x : Nat} {a : Array Value} (hr : va_Run p l e R s m args below meth c H locs cells slots 0 0 (F0 m pc ls st0) rest (qA x a) (fun _ => False))
    (kk : W p l e R s m args below meth c H locs cells slots Q (F0 m (pc + 3) ls (.ref x :: rest))) : W p l e R s m args below meth c H locs cells slots Q (F0 m pc ls st0) := by
  intro T hT X
  obtain ⟨v, st₀, t, T', L, h0, X', hL, e1, e2, ⟨hv, hh⟩, st⟩ := hr T hT X
  cases hv
  obtain ⟨t2, a1, b1⟩ := kk T' (by rw [e1, hh, h0]) (Stand.forget X' (fun q h => (hL q h).elim))
  exact ⟨t2, st t2 a1, b1⟩
/-- ends of read only methods -/
theorem ze_i {post : Int32 → Prop} {v : Int32} (hx : p.tables.exec = Jvm.exec) (hb : c.code = cc) (hr : meth.sig.returnType = some .int) (hlocks : meth.locks = false) (hdg : decode cc pc = .ok (.ireturn, 1)) (hp : post v) :
    W p l e R s m args below meth c s.heap [] 0 0 (MQ below (vp_Si post) args s 0 0 (fun _ => False)) (F0 m pc ls [.int v]) :=
  W.iret hx hb hr (fun t ht _ => ⟨v, rfl, hp, ht⟩) (fun q h => by cases h) hdg hlocks
theorem ze_z {post : Int32 → Prop} {v : Int32} {ty : FieldType} (hx : p.tables.exec = Jvm.exec) (hb : c.code = cc) (hr : meth.sig.returnType = some ty) (hlocks : meth.locks = false) (hdg : decode cc pc = .ok (.ireturn, 1)) (hn : narrow ty (.int v) = .int v) (hp : post v) :
    W p l e R s m args below meth c s.heap [] 0 0 (MQ below (vp_Si post) args s 0 0 (fun _ => False)) (F0 m pc ls [.int v]) :=
  W.zret hx hb hr hn (fun t ht _ => ⟨v, rfl, hp, ht⟩) (fun q h => by cases h) hdg hlocks
theorem ze_l {post : Int64 → Prop} {v : Int64} (hx : p.tables.exec = Jvm.exec) (hb : c.code = cc) (hr : meth.sig.returnType = some .long) (hlocks : meth.locks = false) (hdg : decode cc pc = .ok (.lreturn, 1)) (hp : post v) :
    W p l e R s m args below meth c s.heap [] 0 0 (MQ below (vp_Sl post) args s 0 0 (fun _ => False)) (F0 m pc ls [.long v]) :=
  W.lret hx hb hr (fun t ht _ => ⟨v, rfl, hp, ht⟩) (fun q h => by cases h) hdg hlocks
theorem ze_v {post : Unit → Prop} (hx : p.tables.exec = Jvm.exec) (hb : c.code = cc) (hr : meth.sig.returnType = none) (hlocks : meth.locks = false) (hdg : decode cc pc = .ok (.return_, 1)) (hp : post ()) :
    W p l e R s m args below meth c s.heap [] 0 0 (MQ below (va_Sv post) args s 0 0 (fun _ => False)) (F0 m pc ls []) :=
  W.vret hx hb hr (fun t ht _ => ⟨rfl, hp, ht⟩) (fun q h => by cases h) hdg hlocks
theorem lv_topc {x : Int32} (y : Int32) (hxy : x = y) (kk : W p l e R s m args below meth c H locs cells slots Q (F0 m pc ls (.int y :: rest))) : W p l e R s m args below meth c H locs cells slots Q (F0 m pc ls (.int x :: rest)) := by
  subst hxy
  exact kk
end ZC
