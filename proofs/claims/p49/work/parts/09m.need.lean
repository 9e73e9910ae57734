/-! ===== what is needed: layNeed, forge ===== -/
theorem mI_orN {a b z : Int} (h : mI a ||| mI b = mI z) (ha : 0 ≤ a ∧ a ≤ 4095) (hb : 0 ≤ b ∧ b ≤ 4095) (hz : 0 ≤ z ∧ z ≤ 4095) : z.toNat = a.toNat ||| b.toNat := by
  obtain ⟨n, rfl⟩ : ∃ n : Nat, a = n := ⟨a.toNat, by omega⟩
  obtain ⟨o, rfl⟩ : ∃ n : Nat, b = n := ⟨b.toNat, by omega⟩
  obtain ⟨w, rfl⟩ : ∃ n : Nat, z = n := ⟨z.toNat, by omega⟩
  have h2 := congrArg (fun x => x.toBitVec.toNat) h
  simp only [mI_nat, Int32.toBitVec_or, BitVec.toNat_or] at h2
  rw [pk_tn (by omega), pk_tn (by omega), pk_tn (by omega)] at h2
  simp only [Int.toNat_natCast]
  exact h2.symm
theorem mI_andnN {a b z : Int} (h : mI b &&& (mI a ^^^ mI (-1)) = mI z) (ha : 0 ≤ a ∧ a ≤ 4095) (hb : 0 ≤ b ∧ b ≤ 4095) (hz : z = 0) : b.toNat &&& a.toNat = b.toNat := by
  subst hz
  obtain ⟨n, rfl⟩ : ∃ n : Nat, a = n := ⟨a.toNat, by omega⟩
  obtain ⟨o, rfl⟩ : ∃ n : Nat, b = n := ⟨b.toNat, by omega⟩
  have h1 : (mI (-1)).toBitVec = BitVec.allOnes 32 := by decide
  have h2 := congrArg Int32.toBitVec h
  rw [Int32.toBitVec_and, Int32.toBitVec_xor, h1, BitVec.xor_allOnes, show (mI 0).toBitVec = 0#32 by decide] at h2
  have h3 : (mI (o : Int)).toBitVec &&& (mI (n : Int)).toBitVec = (mI (o : Int)).toBitVec := by
    apply BitVec.eq_of_getLsbD_eq
    intro i hi
    have h4 := congrArg (fun x => x.getLsbD i) h2
    simp only [BitVec.getLsbD_and, BitVec.getLsbD_not, BitVec.getLsbD_zero, hi, decide_true, Bool.true_and] at h4 ⊢
    revert h4
    cases (mI (o : Int)).toBitVec.getLsbD i <;> cases (mI (n : Int)).toBitVec.getLsbD i <;> simp
  have h5 := congrArg BitVec.toNat h3
  rw [BitVec.toNat_and, mI_nat, mI_nat, pk_tn (by omega), pk_tn (by omega)] at h5
  simp only [Int.toNat_natCast]
  exact h5
theorem mI_andnO {a b z w : Int} (h : mI b &&& (mI a ^^^ mI (-1)) = mI z) (hz : ¬ z = 0) (hzr : -2147483648 ≤ z ∧ z ≤ 2147483647) (h2 : mI a ||| mI b = mI w) : ¬ w = a := by
  intro e
  subst e
  apply hz
  have h1 : (mI (-1)).toBitVec = BitVec.allOnes 32 := by decide
  have h3 := congrArg Int32.toBitVec h2
  rw [Int32.toBitVec_or] at h3
  have h4 := congrArg Int32.toBitVec h
  rw [Int32.toBitVec_and, Int32.toBitVec_xor, h1, BitVec.xor_allOnes] at h4
  have h5 : (mI z).toBitVec = 0#32 := by
    rw [← h4]
    apply BitVec.eq_of_getLsbD_eq
    intro i hi
    have h6 := congrArg (fun x => x.getLsbD i) h3
    simp only [BitVec.getLsbD_or] at h6
    simp only [BitVec.getLsbD_and, BitVec.getLsbD_not, BitVec.getLsbD_zero, hi, decide_true, Bool.true_and]
    revert h6
    cases (mI b).toBitVec.getLsbD i <;> cases (mI w).toBitVec.getLsbD i <;> simp
  have h6 : mI z = mI 0 := Int32.toBitVec_inj.mp (h5.trans (by decide))
  exact (mI_eq hzr (by decide)).mp h6
theorem sy_andn {p : Program} {l : Launch} {e : Env} {R : Room} {s : State} {m : MethodId} {args : Array Value} {below : List Frame} {meth : Method} {c : Code} {H : Heap} {locs : List Loc} {cells slots : Nat} {Q : State → Prop} {cc : ByteArray} {pc : Nat} {ls : Array Slot} {rest : List Value} {a b : Int} (hx : p.tables.exec = Jvm.exec) (hb : c.code = cc) (h1 : decode cc pc = .ok (.iconst (-1), 1)) (h2 : decode cc (pc + 1) = .ok (.ixor, 1)) (h3 : decode cc (pc + 1 + 1) = .ok (.iand, 1)) (k : ∀ z : Int, mI b &&& (mI a ^^^ mI (-1)) = mI z → -2147483648 ≤ z ∧ z ≤ 2147483647 → W p l e R s m args below meth c H locs cells slots Q (F0 m (pc + 1 + 1 + 1) ls (.int (mI z) :: rest))) : W p l e R s m args below meth c H locs cells slots Q (F0 m pc ls (.int (mI a) :: .int (mI b) :: rest)) := by
  refine lv_iconst (v := mI (-1)) hx hb h1 rfl ?_
  refine lv_ixor hx hb h2 ?_
  refine lv_iand hx hb h3 ?_
  obtain ⟨z, hz, hr⟩ := mI_of (mI b &&& (mI a ^^^ mI (-1)))
  exact sy_top z hz (k z hz hr)
def nJ (need burned : Nat → Int) (j : Nat) : Prop := need j = 0 ∨ 100 ≤ need j ∨ ∃ v : Nat, v < 48 ∧ j < (j ||| (burned v).toNat) ∧ need (j ||| (burned v).toNat) + 1 = need j
def nA (need burned : Nat → Int) (m : Int) : Prop := ∀ j : Nat, m ≤ j → j < 4096 → nJ need burned j
theorem nA_0 {need burned : Nat → Int} {m : Int} (h : 4096 ≤ m) : nA need burned m := fun j h1 h2 => absurd h2 (by omega)
theorem nA_up {need need2 burned : Nat → Int} {m v : Int} (h : nA need burned (m + 1)) (hm : 0 ≤ m) (e : need2 = ud need m.toNat v) (hv : nJ need2 burned m.toNat) : nA need2 burned m := by
  intro j h1 h2
  by_cases hj : j = m.toNat
  · subst hj
    exact hv
  · subst e
    have h3 : ud need m.toNat v j = need j := ud_n _ _ hj
    have h4 : ∀ b : Nat, ud need m.toNat v (j ||| b) = need (j ||| b) := fun b => ud_n _ _ (by have := @Nat.left_le_or j b; omega)
    unfold nJ
    rw [h3]
    simp only [h4]
    exact h j (by omega) h2
theorem nA_w {need burned : Nat → Int} {m m2 : Int} (h : nA need burned m) (hm : m ≤ m2) : nA need burned m2 := fun j h1 h2 => h j (by omega) h2
theorem nA_c {need need2 burned : Nat → Int} {m v : Int} (h : nA need burned (m + 1)) (hm : 0 ≤ m) (e : need2 = ud need m.toNat v) (hv : v = 0 ∨ 100 ≤ v) : nA need2 burned m := by
  refine nA_up h hm e ?_
  subst e
  unfold nJ
  rw [ud_s]
  rcases hv with hv | hv
  · exact Or.inl hv
  · exact Or.inr (Or.inl hv)
theorem nA_s {need need2 burned : Nat → Int} {m v b b2 o z w : Int} (h : nA need burned m) (hm : 0 ≤ m ∧ m ≤ 4095) (e : need2 = ud need m.toNat (z + 1)) (hv : 0 ≤ v ∧ v < 48) (eb : burned v.toNat = b) (hb : 0 ≤ b ∧ b ≤ 4095) (eo : mI m ||| mI b = mI o) (ho : 0 ≤ o ∧ o ≤ 4095) (ez : need o.toNat = z) (eb2 : burned v.toNat = b2) (ew : mI b2 &&& (mI m ^^^ mI (-1)) = mI w) (hw : ¬ w = 0) (hwr : -2147483648 ≤ w ∧ w ≤ 2147483647) : nA need2 burned m := by
  refine nA_up (nA_w h (by omega)) hm.1 e ?_
  rw [eb2.symm.trans eb] at ew
  have h1 := mI_andnO ew hw hwr eo
  have h2 := mI_orN eo hm hb ho
  have h3 := @Nat.left_le_or m.toNat b.toNat
  subst e
  refine Or.inr (Or.inr ⟨v.toNat, by omega, ?_, ?_⟩)
  · rw [eb]; omega
  · rw [eb, ← h2, ud_s, ud_n _ _ (by omega), ez]
/-- there is an iron ahead, from v on -/
def nE (need burned : Nat → Int) (m v : Int) : Prop := ∃ u : Nat, v ≤ u ∧ u < 48 ∧ need (m.toNat ||| (burned u).toNat) + 1 = need m.toNat
theorem nE_0 {need burned : Nat → Int} {m n : Int} (h : nA need burned 0) (hm : 0 ≤ m ∧ m ≤ 4095) (e : need m.toNat = n) (hn : 0 < n ∧ n < 100) : nE need burned m 0 := by
  rcases h m.toNat (by omega) (by omega) with h | h | ⟨u, h1, h2, h3⟩
  · omega
  · omega
  · exact ⟨u, by omega, h1, h3⟩
theorem nE_b {need burned : Nat → Int} {m v : Int} (h : nE need burned m v) : v ≤ 47 := by
  obtain ⟨u, h1, h2, -⟩ := h
  omega
theorem nE_s {need burned : Nat → Int} {m v b o z n : Int} (h : nE need burned m v) (hv : 0 ≤ v) (hm : 0 ≤ m ∧ m ≤ 4095) (eb : burned v.toNat = b) (hb : 0 ≤ b ∧ b ≤ 4095) (eo : mI m ||| mI b = mI o) (ho : 0 ≤ o ∧ o ≤ 4095) (ez : need o.toNat = z) (en : need m.toNat = n) (hz : ¬ z = n - 1) : nE need burned m (v + 1) := by
  obtain ⟨u, h1, h2, h3⟩ := h
  refine ⟨u, ?_, h2, h3⟩
  rcases (by omega : v + 1 ≤ u ∨ u = v.toNat) with h4 | h4
  · exact h4
  · subst h4
    rw [eb, ← mI_orN eo hm hb ho, ez, en] at h3
    omega
theorem or_u {a b b2 o o2 : Int} (h1 : mI a ||| mI b = mI o) (h2 : mI a ||| mI b2 = mI o2) (hb : b2 = b) (ho : 0 ≤ o ∧ o ≤ 4095) (ho2 : 0 ≤ o2 ∧ o2 ≤ 4095) : o2 = o := by
  subst hb
  exact (mI_eq (by omega) (by omega)).mp (h2.symm.trans h1)
