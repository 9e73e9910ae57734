/-! ===== the rule that is read, the turns that are read ===== -/
theorem bitB_0 (s : Int) : bitB s 0 = decide (mI s &&& mI 1 = mI 1) := by
  unfold bitB
  have h : mI s >>> (mI 0 &&& 31) = mI s := by
    apply Int32.toBitVec_inj.mp
    rw [Int32.toBitVec_shiftRight]
    rw [show ((mI 0 &&& 31).toBitVec.smod 32) = 0#32 by decide]
    exact BitVec.sshiftRight_zero ..
  rw [h]
theorem mI_or1 {x c z : Int} (h : mI x ||| mI c = mI z) (hc : mI c &&& mI 1 = mI 0) : mI z &&& mI 1 = mI x &&& mI 1 := by
  rw [← h]
  apply Int32.toBitVec_inj.mp
  have hc2 := congrArg Int32.toBitVec hc
  rw [Int32.toBitVec_and] at hc2
  rw [Int32.toBitVec_and, Int32.toBitVec_or, BitVec.and_comm, BitVec.and_or_distrib_left, BitVec.and_comm (mI 1).toBitVec (mI c).toBitVec, hc2, Int32.toBitVec_and, BitVec.and_comm (mI x).toBitVec]
  exact BitVec.or_zero ..
theorem bitB_or {x c z : Int} (h : mI x ||| mI c = mI z) (hc : mI c &&& mI 1 = mI 0) : bitB z 0 = bitB x 0 := by
  rw [bitB_0, bitB_0, mI_or1 h hc]
theorem sy_iorE {p : Program} {l : Launch} {e : Env} {R : Room} {s : State} {m : MethodId} {args : Array Value} {below : List Frame} {meth : Method} {c : Code} {H : Heap} {locs : List Loc} {cells slots : Nat} {Q : State → Prop} {cc : ByteArray} {pc : Nat} {ls : Array Slot} {rest : List Value} {a b : Int} (hx : p.tables.exec = Jvm.exec) (hb : c.code = cc) (hdg : decode cc pc = .ok (.ior, 1)) (q : Nat) (hq : q ≤ 30) (N : Int) (hN : 2 ^ q = N) (ha : 0 ≤ a ∧ a < N) (hb2 : 0 ≤ b ∧ b < N) (k : ∀ z : Int, mI a ||| mI b = mI z → 0 ≤ z ∧ z < N → W p l e R s m args below meth c H locs cells slots Q (F0 m (pc + 1) ls (.int (mI z) :: rest))) : W p l e R s m args below meth c H locs cells slots Q (F0 m pc ls (.int (mI b) :: .int (mI a) :: rest)) := by
  subst hN
  obtain ⟨z, hz, h2⟩ := mI_or q hq ha hb2
  exact lv_ior hx hb hdg (sy_top z hz (k z hz h2))
theorem rQ_0 {b : Int} {T T2 RF RT code : Nat → Int} (e : T2 = ud T b.toNat 0) : rQ b T2 RF RT code := by
  subst e
  intro q
  rw [ud_s] at q
  exact absurd q (by decide)
theorem rQ_or {b x c z fk : Int} {T T2 RF RT code : Nat → Int} (h : 1 ≤ fk ∨ rQ b T RF RT code) (e : T b.toNat = x) (e2 : T2 = ud T b.toNat z) (h2 : mI x ||| mI c = mI z) (hc : mI c &&& mI 1 = mI 0) : 1 ≤ fk ∨ rQ b T2 RF RT code := by
  refine h.imp id (fun h => ?_)
  subst e2
  intro q
  rw [ud_s, bitB_or h2 hc, ← e] at q
  exact h q
theorem rQ_mk {b c0 codes u fk : Int} {T RF RF0 RT RT0 code : Nat → Int} (h : 1 ≤ fk ∨ eOK c0 codes u code) (e1 : RF = ud RF0 b.toNat c0) (e2 : RT = ud RT0 b.toNat codes) (h2 : 1 ≤ fk ∨ (560 * b ≤ c0 ∧ codes ≤ 560 * b + 560)) : 1 ≤ fk ∨ rQ b T RF RT code := by
  rcases h2 with h2 | h2
  · exact Or.inl h2
  · refine h.imp id (fun h _ => ?_)
    subst e1
    subst e2
    unfold rC
    rw [ud_s, ud_s]
    exact ⟨⟨h2.1, h.1.2.1, h2.2⟩, h.2⟩
theorem rT_n {b i v : Int} {U U2 : Nat → Int} (h : 1 ≤ U b.toNat ∧ ¬ U b.toNat = 3) (e : U2 = ud U i.toNat v) (hi : 0 ≤ i ∧ 0 ≤ b ∧ ¬ i = b) : 1 ≤ U2 b.toNat ∧ ¬ U2 b.toNat = 3 := by
  subst e
  rw [ud_n _ _ (by omega)]
  exact h
