theorem vi_c {i : Int32} {n : Nat} (h : decide (i < 0 ∨ n ≤ i.toNatClampNeg) = false) : vp_in i n := of_decide_eq_false h
theorem upd_c (v : Int32) (k : Nat) : upd (fun _ => v) k v = (fun _ => v) := by
  funext j
  simp [upd]
theorem cpy_c (sp dp n : Nat) : va_cpy (fun _ => (0 : Int32)) (fun _ => (0 : Int32)) sp dp n = (fun _ => (0 : Int32)) := by
  funext j
  simp [va_cpy]
def ul (l : List Nat) (j : Nat) : Nat := l.getD j 0
def lowF (g : Nat → Int32) : Nat → Int32 := fun j => if j < 64 then nI j else g j
def highF (g : Nat → Int32) : Nat → Int32 := fun j => if j < 64 then nI j <<< ((6 : Int32) &&& 31) else g j
theorem zl_up {p : Program} {l : Launch} {e : Env} {R : Room} {s : State} {m : MethodId} {args : Array Value} {below : List Frame} {meth : Method} {c : Code} {cells slots : Nat} {Q : State → Prop} (I : Nat → Heap → List Loc → Array Slot → Prop) (B : Nat) (g : Array Slot → JFrame)
    (hexit : ∀ H locs ls, I B H locs ls → W p l e R s m args below meth c H locs cells slots Q (g ls))
    (hstep : ∀ i H locs ls, i < B → I i H locs ls → (∀ H' locs' ls', I (i + 1) H' locs' ls' → W p l e R s m args below meth c H' locs' cells slots Q (g ls')) → W p l e R s m args below meth c H locs cells slots Q (g ls)) (i : Nat) (H : Heap) (locs : List Loc) (ls : Array Slot) (hi : i ≤ B) (hI : I i H locs ls) : W p l e R s m args below meth c H locs cells slots Q (g ls) := by
  have key : ∀ n i, i + n = B → ∀ H locs ls, I i H locs ls → W p l e R s m args below meth c H locs cells slots Q (g ls) := by
    intro n
    induction n with
    | zero =>
      intro i h H locs ls hI
      have : i = B := by omega
      subst this
      exact hexit H locs ls hI
    | succ n ih =>
      intro i h H locs ls hI
      exact hstep i H locs ls (by omega) hI (fun H' locs' ls' hI' => ih (i + 1) (by omega) H' locs' ls' hI')
  exact key (B - i) i (by omega) H locs ls hI
theorem sw_14 (x : Int32) : (x.toInt < 0 ∨ 14 < x.toInt) ∨ x = 0 ∨ x = 1 ∨ x = 2 ∨ x = 3 ∨ x = 4 ∨ x = 5 ∨ x = 6 ∨ x = 7 ∨ x = 8 ∨ x = 9 ∨ x = 10 ∨ x = 11 ∨ x = 12 ∨ x = 13 ∨ x = 14 := by
  by_cases h1 : x.toInt < 0
  · exact Or.inl (Or.inl h1)
  by_cases h2 : 14 < x.toInt
  · exact Or.inl (Or.inr h2)
  refine Or.inr ?_
  have e : ∀ n : Nat, n < 15 → x.toInt = (n : Int) → x = nI n := fun n hn h => Int32.toInt_inj.mp (by rw [h, nI_toInt (by omega)])
  obtain ⟨n, hn⟩ : ∃ n : Nat, x.toInt = (n : Int) := ⟨x.toInt.toNat, by omega⟩
  have hlt : n < 15 := by omega
  have hx := e n hlt hn
  subst hx
  match n, hlt with
  | 0, _ => decide
  | 1, _ => decide
  | 2, _ => decide
  | 3, _ => decide
  | 4, _ => decide
  | 5, _ => decide
  | 6, _ => decide
  | 7, _ => decide
  | 8, _ => decide
  | 9, _ => decide
  | 10, _ => decide
  | 11, _ => decide
  | 12, _ => decide
  | 13, _ => decide
  | 14, _ => decide
  | n + 15, h => exact absurd h (by omega)
theorem tm_1 {w : Cond} (h : w ∈ tables_1_1) : w ∈ tables_1 := List.mem_append_left _ h
theorem tm_2 {w : Cond} (h : w ∈ tables_1_2) : w ∈ tables_1 := List.mem_append_right _ (List.mem_append_left _ h)
theorem tm_3 {w : Cond} (h : w ∈ tables_1_3) : w ∈ tables_1 := List.mem_append_right _ (List.mem_append_right _ (List.mem_append_left _ h))
theorem tm_4 {w : Cond} (h : w ∈ tables_1_4) : w ∈ tables_1 := List.mem_append_right _ (List.mem_append_right _ (List.mem_append_right _ (List.mem_append_left _ h)))
theorem tm_5 {w : Cond} (h : w ∈ tables_1_5) : w ∈ tables_1 := List.mem_append_right _ (List.mem_append_right _ (List.mem_append_right _ (List.mem_append_right _ (List.mem_append_left _ h))))
theorem tm_6 {w : Cond} (h : w ∈ tables_1_6) : w ∈ tables_1 := List.mem_append_right _ (List.mem_append_right _ (List.mem_append_right _ (List.mem_append_right _ (List.mem_append_right _ (List.mem_append_left _ h)))))
theorem tm_7 {w : Cond} (h : w ∈ tables_1_7) : w ∈ tables_1 := List.mem_append_right _ (List.mem_append_right _ (List.mem_append_right _ (List.mem_append_right _ (List.mem_append_right _ (List.mem_append_right _ (List.mem_append_left _ h))))))
theorem tm_8 {w : Cond} (h : w ∈ tables_1_8) : w ∈ tables_1 := List.mem_append_right _ (List.mem_append_right _ (List.mem_append_right _ (List.mem_append_right _ (List.mem_append_right _ (List.mem_append_right _ (List.mem_append_right _ (List.mem_append_left _ h)))))))
theorem tm_9 {w : Cond} (h : w ∈ tables_1_9) : w ∈ tables_1 := List.mem_append_right _ (List.mem_append_right _ (List.mem_append_right _ (List.mem_append_right _ (List.mem_append_right _ (List.mem_append_right _ (List.mem_append_right _ (List.mem_append_right _ h)))))))
/-! ===== bits: a family of the kit, for pasting ===== -/
def bt (x : Int32) (i : Nat) : Bool := x.toBitVec.getLsbD i
theorem b_ext {x y : Int32} (h : ∀ i, i < 32 → bt x i = bt y i) : x = y := Int32.toBitVec_inj.mp (BitVec.eq_of_getLsbD_eq (fun i hi => h i hi))
theorem b_or (x y : Int32) (i : Nat) : bt (x ||| y) i = (bt x i || bt y i) := by unfold bt; rw [Int32.toBitVec_or, BitVec.getLsbD_or]
theorem b_and (x y : Int32) (i : Nat) : bt (x &&& y) i = (bt x i && bt y i) := by unfold bt; rw [Int32.toBitVec_and, BitVec.getLsbD_and]
theorem b_xor (x y : Int32) (i : Nat) : bt (x ^^^ y) i = (bt x i ^^ bt y i) := by unfold bt; rw [Int32.toBitVec_xor, BitVec.getLsbD_xor]
theorem b_big {x : Int32} {i : Nat} (h : 32 ≤ i) : bt x i = false := BitVec.getLsbD_of_ge _ _ h
theorem b_255 (i : Nat) : bt 255 i = decide (i < 8) := by
  rcases Nat.lt_or_ge i 32 with h | h
  · exact (by decide +kernel : ∀ i, i < 32 → bt 255 i = decide (i < 8)) i h
  · rw [b_big h, decide_eq_false (by omega)]
theorem b_65535 (i : Nat) : bt 65535 i = decide (i < 16) := by
  rcases Nat.lt_or_ge i 32 with h | h
  · exact (by decide +kernel : ∀ i, i < 32 → bt 65535 i = decide (i < 16)) i h
  · rw [b_big h, decide_eq_false (by omega)]
theorem b_m1 : ∀ i, i < 32 → bt (-1) i = true := by decide +kernel
theorem b_0 (i : Nat) : bt 0 i = false := BitVec.getLsbD_zero
theorem s_l : ∀ n, n < 32 → ((nI n &&& 31).toBitVec.smod 32).toNat = n := by decide +kernel
theorem s_u : ∀ n, n < 32 → (((nI n).toUInt32 &&& Int32.toUInt32 31).toBitVec % 32).toNat = n := by decide +kernel
theorem b_shl (n : Nat) (hn : n < 32) (x : Int32) {i : Nat} (hi : i < 32) : bt (x <<< (nI n &&& 31)) i = (decide (n ≤ i) && bt x (i - n)) := by
  unfold bt
  rw [Int32.toBitVec_shiftLeft]
  show (x.toBitVec <<< ((nI n &&& 31).toBitVec.smod 32).toNat).getLsbD i = _
  rw [s_l n hn, BitVec.getLsbD_shiftLeft]
  rcases Nat.lt_or_ge i n with h | h
  · simp [h, Nat.not_le.mpr h]
  · simp [hi, h, Nat.not_lt.mpr h]
theorem b_ushr (n : Nat) (hn : n < 32) (x : Int32) (i : Nat) : bt ((x.toUInt32 >>> ((nI n).toUInt32 &&& Int32.toUInt32 31)).toInt32) i = bt x (n + i) := by
  show (x.toUInt32 >>> ((nI n).toUInt32 &&& Int32.toUInt32 31)).toBitVec.getLsbD i = x.toUInt32.toBitVec.getLsbD (n + i)
  rw [UInt32.toBitVec_shiftRight]
  show (x.toUInt32.toBitVec >>> (((nI n).toUInt32 &&& Int32.toUInt32 31).toBitVec % 32).toNat).getLsbD i = _
  rw [s_u n hn, BitVec.getLsbD_ushiftRight]
theorem b_sshr (n : Nat) (hn : n < 32) (x : Int32) {i : Nat} (hi : i < 32) : bt (x >>> (nI n &&& 31)) i = if n + i < 32 then bt x (n + i) else bt x 31 := by
  unfold bt
  rw [Int32.toBitVec_shiftRight]
  show (x.toBitVec.sshiftRight ((nI n &&& 31).toBitVec.smod 32).toNat).getLsbD i = _
  rw [s_l n hn, BitVec.getLsbD_sshiftRight, BitVec.msb_eq_getLsbD_last]
  simp [hi]
/-! ===== mine ===== -/
theorem b_63 : ∀ i, i < 32 → bt 63 i = decide (i < 6) := by decide +kernel
theorem b_4095 : ∀ i, i < 32 → bt 4095 i = decide (i < 12) := by decide +kernel
theorem mv_eq (x : Int32) : ((x &&& 63) ||| (((x >>> ((6 : Int32) &&& 31)) &&& 63) <<< ((6 : Int32) &&& 31))) = (x &&& 4095) := by
  refine b_ext (fun i hi => ?_)
  rw [b_or, b_and, b_and, b_63 i hi, b_4095 i hi, show ((6 : Int32) &&& 31) = (nI 6 &&& 31) from rfl, b_shl 6 (by omega) _ hi]
  rcases Nat.lt_or_ge i 6 with h | h
  · have h6 : ¬ 6 ≤ i := by omega
    have h12 : i < 12 := by omega
    simp [h, h6, h12]
  · have h2 : i - 6 < 32 := by omega
    have hn : ¬ i < 6 := by omega
    rw [b_and, b_63 _ h2, b_sshr 6 (by omega) x h2]
    have e : 6 + (i - 6) = i := by omega
    rw [e, if_pos hi]
    rcases Nat.lt_or_ge i 12 with h3 | h3
    · have h4 : i - 6 < 6 := by omega
      simp [hn, h, h3, h4]
    · have h4 : ¬ i - 6 < 6 := by omega
      have h5 : ¬ i < 12 := by omega
      simp [hn, h4, h5]
theorem half_in (x : Int32) : vp_in (x &&& 63) 512 := by
  have h := pk_andIn x (m := 63) 6 (by decide) (by decide)
  intro q
  exact h (q.imp id (fun z => Nat.le_trans (by decide) z))
theorem low_rd (g : Nat → Int32) (x : Int32) : lowF g (x &&& 63).toNatClampNeg = x &&& 63 := by
  obtain ⟨j, hj, e⟩ := pk_andE x (m := 63) 6 (by decide)
  have hj : j < 64 := hj
  rw [e, nI_clamp (by omega)]
  unfold lowF
  rw [if_pos hj]
theorem high_rd (g : Nat → Int32) (x : Int32) : highF g (x &&& 63).toNatClampNeg = (x &&& 63) <<< ((6 : Int32) &&& 31) := by
  obtain ⟨j, hj, e⟩ := pk_andE x (m := 63) 6 (by decide)
  have hj : j < 64 := hj
  rw [e, nI_clamp (by omega)]
  unfold highF
  rw [if_pos hj]
theorem mk_of {x : Int32} (h : 0 ≤ x.toInt ∧ x.toInt < 4096) : ∃ n : Nat, n < 4096 ∧ x = nI n :=
  ⟨x.toInt.toNat, by omega, Int32.toInt_inj.mp (by rw [nI_toInt (by omega)]; omega)⟩
theorem and4095 {x : Int32} (h : 0 ≤ x.toInt ∧ x.toInt < 4096) : x &&& 4095 = x := by
  obtain ⟨n, hn, rfl⟩ := mk_of h
  rw [pk_andN (by omega) (m := 4095) 12 (by decide), Nat.mod_eq_of_lt hn]
theorem metM_ofX {l : Launch} {D : va_G} {k : Nat → ClassId} {y : MethodName} {bytes : ByteArray} {maxL : Nat} {ret : Option FieldType} {d mc ms : Nat} {as : List Value} {ws : va_W} {X : State → Prop} {Qc : (Nat → Prop) → Array Value → State → Outcome → State → Prop} (n : Nat) (hk : ckC y bytes maxL ret n) (hmx : (lg_sl as).length ≤ maxL)
    (body : ∀ (p : Program) (e : Env) (s : State) (m : MethodId) (args : Array Value) (below : List Frame) (meth : Method) (c : Code) (A : Nat → Prop), p.tables.exec = Jvm.exec → c.code = bytes → c.maxLocals = maxL → meth.sig.returnType = ret → meth.locks = false → s.vm.findClass y.cls = some m.cls → (∀ w ∈ UT, w.before args s = true) → va_K D vwCl (tys k) s → X s → va_P D vwCl ws s.heap → va_D A ws → (∀ q : Nat, s.heap.size ≤ q → A q) → (∀ q : Nat, A q → va_A ws s.heap.size q) → meth.name = y.name → ∀ ls : Array Slot, lv_has ls maxL (lv_args 0 as) → W p l e (rmD d mc ms) s m args below meth c s.heap [] 0 0 (MQ below (Qc A) args s mc ms A) (F0 m 0 ls [])) : MetM l D k y bytes maxL ret d mc ms as ws X Qc := by
  intro sz
  refine Met.ofW (cc := bytes) (maxL := maxL) (ret := ret) hk.2.2.1 rfl ?_
  intro p e s m args below meth c s₁ B hml hv
  obtain ⟨rfl, rfl, hP, hK, hD, hX⟩ := hv
  have hts := atoms_spec (ws := Cond.code y bytes maxL ret :: UT) B.pre
  have hl := lv_entry as (n := maxL) hmx
  rw [lg_entry_eq]
  exact body p e s m _ below meth c _ B.exec B.bytes hml B.returns B.notSynchronized (findClass_of_methodNamed B.named) (fun w h => hts w (List.mem_cons_of_mem _ h)) hK hX hP (hD.self (sz := s.heap.size)) (fun q h => Or.inr h) (fun q h => h) (name_of_methodNamed B.named B.method).1 _ hl
