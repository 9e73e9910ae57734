/-! ===== rows over whole numbers ===== -/
section SY
variable {p : Program} {l : Launch} {e : Env} {R : Room} {s : State} {m : MethodId} {args : Array Value} {below : List Frame} {meth : Method} {c : Code} {H : Heap} {locs : List Loc} {cells slots : Nat} {Q : State → Prop}
variable {cc : ByteArray} {pc : Nat} {ls : Array Slot} {rest : List Value} {a b : Int} {off : Int} {tgt : Nat}
theorem sy_any {x : Int32} (k : ∀ z : Int, (-2147483648 ≤ z ∧ z ≤ 2147483647) → W p l e R s m args below meth c H locs cells slots Q (F0 m pc ls (.int (mI z) :: rest))) : W p l e R s m args below meth c H locs cells slots Q (F0 m pc ls (.int x :: rest)) := by
  obtain ⟨z, rfl, hz⟩ := mI_of x
  exact k z hz
theorem sy_top (z : Int) {x : Int32} (h : x = mI z) (k : W p l e R s m args below meth c H locs cells slots Q (F0 m pc ls (.int (mI z) :: rest))) : W p l e R s m args below meth c H locs cells slots Q (F0 m pc ls (.int x :: rest)) := by
  subst h
  exact k
theorem sy_iadd (hx : p.tables.exec = Jvm.exec) (hb : c.code = cc) (hdg : decode cc pc = .ok (.iadd, 1)) (z : Int) (hz : a + b = z) (k : W p l e R s m args below meth c H locs cells slots Q (F0 m (pc + 1) ls (.int (mI z) :: rest))) : W p l e R s m args below meth c H locs cells slots Q (F0 m pc ls (.int (mI b) :: .int (mI a) :: rest)) :=
  lv_iadd hx hb hdg (sy_top z (by rw [mI_add, hz]) k)
theorem sy_isub (hx : p.tables.exec = Jvm.exec) (hb : c.code = cc) (hdg : decode cc pc = .ok (.isub, 1)) (z : Int) (hz : a - b = z) (k : W p l e R s m args below meth c H locs cells slots Q (F0 m (pc + 1) ls (.int (mI z) :: rest))) : W p l e R s m args below meth c H locs cells slots Q (F0 m pc ls (.int (mI b) :: .int (mI a) :: rest)) :=
  lv_isub hx hb hdg (sy_top z (by rw [mI_sub, hz]) k)
theorem sy_imul (hx : p.tables.exec = Jvm.exec) (hb : c.code = cc) (hdg : decode cc pc = .ok (.imul, 1)) (z : Int) (hz : a * b = z) (k : W p l e R s m args below meth c H locs cells slots Q (F0 m (pc + 1) ls (.int (mI z) :: rest))) : W p l e R s m args below meth c H locs cells slots Q (F0 m pc ls (.int (mI b) :: .int (mI a) :: rest)) :=
  lv_imul hx hb hdg (sy_top z (by rw [mI_mul, hz]) k)
theorem sy_imulB (hx : p.tables.exec = Jvm.exec) (hb : c.code = cc) (hdg : decode cc pc = .ok (.imul, 1)) {A B : Int} (C : Int) (hC : A * B = C) (ha : 0 ≤ a ∧ a ≤ A) (hb2 : 0 ≤ b ∧ b ≤ B) (k : ∀ z : Int, a * b = z → 0 ≤ z ∧ z ≤ C → W p l e R s m args below meth c H locs cells slots Q (F0 m (pc + 1) ls (.int (mI z) :: rest))) : W p l e R s m args below meth c H locs cells slots Q (F0 m pc ls (.int (mI b) :: .int (mI a) :: rest)) :=
  sy_imul hx hb hdg (a * b) rfl (k _ rfl (by subst hC; exact mI_mulB ha hb2))
theorem sy_ineg (hx : p.tables.exec = Jvm.exec) (hb : c.code = cc) (hdg : decode cc pc = .ok (.ineg, 1)) (z : Int) (hz : -a = z) (k : W p l e R s m args below meth c H locs cells slots Q (F0 m (pc + 1) ls (.int (mI z) :: rest))) : W p l e R s m args below meth c H locs cells slots Q (F0 m pc ls (.int (mI a) :: rest)) :=
  lv_ineg hx hb hdg (sy_top z (by rw [mI_neg, hz]) k)
theorem sy_iandL (hx : p.tables.exec = Jvm.exec) (hb : c.code = cc) (hdg : decode cc pc = .ok (.iand, 1)) (ha : 0 ≤ a ∧ a ≤ 2147483647) (k : ∀ z : Int, 0 ≤ z ∧ z ≤ a → W p l e R s m args below meth c H locs cells slots Q (F0 m (pc + 1) ls (.int (mI z) :: rest))) : W p l e R s m args below meth c H locs cells slots Q (F0 m pc ls (.int (mI b) :: .int (mI a) :: rest)) := by
  obtain ⟨z, hz, h2⟩ := mI_andL (b := b) ha
  exact lv_iand hx hb hdg (sy_top z hz (k z h2))
theorem sy_iandR (hx : p.tables.exec = Jvm.exec) (hb : c.code = cc) (hdg : decode cc pc = .ok (.iand, 1)) (ha : 0 ≤ b ∧ b ≤ 2147483647) (k : ∀ z : Int, 0 ≤ z ∧ z ≤ b → W p l e R s m args below meth c H locs cells slots Q (F0 m (pc + 1) ls (.int (mI z) :: rest))) : W p l e R s m args below meth c H locs cells slots Q (F0 m pc ls (.int (mI b) :: .int (mI a) :: rest)) := by
  obtain ⟨z, hz, h2⟩ := mI_andR (a := a) ha
  exact lv_iand hx hb hdg (sy_top z hz (k z h2))
theorem sy_ior (hx : p.tables.exec = Jvm.exec) (hb : c.code = cc) (hdg : decode cc pc = .ok (.ior, 1)) (q : Nat) (hq : q ≤ 30) (N : Int) (hN : 2 ^ q = N) (ha : 0 ≤ a ∧ a < N) (hb2 : 0 ≤ b ∧ b < N) (k : ∀ z : Int, 0 ≤ z ∧ z < N → W p l e R s m args below meth c H locs cells slots Q (F0 m (pc + 1) ls (.int (mI z) :: rest))) : W p l e R s m args below meth c H locs cells slots Q (F0 m pc ls (.int (mI b) :: .int (mI a) :: rest)) := by
  subst hN
  obtain ⟨z, hz, h2⟩ := mI_or q hq ha hb2
  exact lv_ior hx hb hdg (sy_top z hz (k z h2))
theorem sy_ixor (hx : p.tables.exec = Jvm.exec) (hb : c.code = cc) (hdg : decode cc pc = .ok (.ixor, 1)) (q : Nat) (hq : q ≤ 30) (N : Int) (hN : 2 ^ q = N) (ha : 0 ≤ a ∧ a < N) (hb2 : 0 ≤ b ∧ b < N) (k : ∀ z : Int, 0 ≤ z ∧ z < N → W p l e R s m args below meth c H locs cells slots Q (F0 m (pc + 1) ls (.int (mI z) :: rest))) : W p l e R s m args below meth c H locs cells slots Q (F0 m pc ls (.int (mI b) :: .int (mI a) :: rest)) := by
  subst hN
  obtain ⟨z, hz, h2⟩ := mI_xor q hq ha hb2
  exact lv_ixor hx hb hdg (sy_top z hz (k z h2))
theorem sy_shl1 (hx : p.tables.exec = Jvm.exec) (hb : c.code = cc) (hdg : decode cc pc = .ok (.ishl, 1)) (q : Nat) (hq : q ≤ 30) (N : Int) (hN : 2 ^ q = N) (hs : 0 ≤ b ∧ b ≤ (q : Int)) (k : ∀ z : Int, z = 2 ^ b.toNat → 1 ≤ z ∧ z ≤ N → W p l e R s m args below meth c H locs cells slots Q (F0 m (pc + 1) ls (.int (mI z) :: rest))) : W p l e R s m args below meth c H locs cells slots Q (F0 m pc ls (.int (mI b) :: .int (mI 1) :: rest)) := by
  subst hN
  obtain ⟨z, hz, h2, h3, h4⟩ := mI_shl1 hq hs
  exact lv_ishl hx hb hdg (sy_top z hz (k z h4 ⟨h2, h3⟩))
theorem sy_shrC (hx : p.tables.exec = Jvm.exec) (hb : c.code = cc) (hdg : decode cc pc = .ok (.ishr, 1)) (q : Nat) (hs : ((mI b &&& 31).toBitVec.smod 32).toNat = q) (N : Int) (hN : 2 ^ q = N) (ha : 0 ≤ a ∧ a ≤ 2147483647) (k : ∀ z : Int, z = a / N → 0 ≤ z ∧ z ≤ a → W p l e R s m args below meth c H locs cells slots Q (F0 m (pc + 1) ls (.int (mI z) :: rest))) : W p l e R s m args below meth c H locs cells slots Q (F0 m pc ls (.int (mI b) :: .int (mI a) :: rest)) := by
  subst hN
  exact lv_ishr hx hb hdg (sy_top (a / 2 ^ q) (mI_shr _ q hs ha) (k _ rfl (mI_divB ha.1 (Int.pow_pos (by decide)))))
theorem sy_idiv (hx : p.tables.exec = Jvm.exec) (hb : c.code = cc) (hdg : decode cc pc = .ok (.idiv, 1)) (ha : 0 ≤ a ∧ a ≤ 2147483647) (hb2 : 0 < b ∧ b ≤ 2147483647) (k : ∀ z : Int, z = a / b → 0 ≤ z ∧ z ≤ a → W p l e R s m args below meth c H locs cells slots Q (F0 m (pc + 1) ls (.int (mI z) :: rest))) : W p l e R s m args below meth c H locs cells slots Q (F0 m pc ls (.int (mI b) :: .int (mI a) :: rest)) :=
  lv_idiv hx hb hdg (mI_ne0 (by omega) (by omega)) (sy_top (a / b) (mI_div ha hb2) (k _ rfl (mI_divB ha.1 hb2.1)))
theorem sy_irem (hx : p.tables.exec = Jvm.exec) (hb : c.code = cc) (hdg : decode cc pc = .ok (.irem, 1)) (ha : 0 ≤ a ∧ a ≤ 2147483647) (hb2 : 0 < b ∧ b ≤ 2147483647) (k : ∀ z : Int, z = a % b → 0 ≤ z ∧ z < b ∧ z ≤ a → W p l e R s m args below meth c H locs cells slots Q (F0 m (pc + 1) ls (.int (mI z) :: rest))) : W p l e R s m args below meth c H locs cells slots Q (F0 m pc ls (.int (mI b) :: .int (mI a) :: rest)) :=
  lv_irem hx hb hdg (mI_ne0 (by omega) (by omega)) (sy_top (a % b) (mI_rem ha hb2) (k _ rfl (mI_remB ha.1 hb2.1)))
theorem sy_i2b (hx : p.tables.exec = Jvm.exec) (hb : c.code = cc) (hdg : decode cc pc = .ok (.i2b, 1)) {x : Int32} (k : ∀ z : Int, -128 ≤ z ∧ z ≤ 127 → W p l e R s m args below meth c H locs cells slots Q (F0 m (pc + 1) ls (.int (mI z) :: rest))) : W p l e R s m args below meth c H locs cells slots Q (F0 m pc ls (.int x :: rest)) := by
  obtain ⟨z, hz, h2⟩ := mI_byte x
  exact lv_i2b hx hb hdg hz (k z h2)
/-- branches -/
theorem sy_icmp_eq (hx : p.tables.exec = Jvm.exec) (hb : c.code = cc) (hdg : decode cc pc = .ok (.if_icmp .eq off, 3)) (ht : (pc : Int) + off = (tgt : Int)) (ra : -2147483648 ≤ a ∧ a ≤ 2147483647) (rb : -2147483648 ≤ b ∧ b ≤ 2147483647) (kt : a = b → W p l e R s m args below meth c H locs cells slots Q (F0 m tgt ls rest)) (kf : ¬ a = b → W p l e R s m args below meth c H locs cells slots Q (F0 m (pc + 3) ls rest)) : W p l e R s m args below meth c H locs cells slots Q (F0 m pc ls (.int (mI b) :: .int (mI a) :: rest)) :=
  lv_icmp_eq hx hb hdg ht (fun h => kt ((mI_eq ra rb).mp h)) (fun h => kf (fun q => h ((mI_eq ra rb).mpr q)))
theorem sy_icmp_ne (hx : p.tables.exec = Jvm.exec) (hb : c.code = cc) (hdg : decode cc pc = .ok (.if_icmp .ne off, 3)) (ht : (pc : Int) + off = (tgt : Int)) (ra : -2147483648 ≤ a ∧ a ≤ 2147483647) (rb : -2147483648 ≤ b ∧ b ≤ 2147483647) (kt : ¬ a = b → W p l e R s m args below meth c H locs cells slots Q (F0 m tgt ls rest)) (kf : a = b → W p l e R s m args below meth c H locs cells slots Q (F0 m (pc + 3) ls rest)) : W p l e R s m args below meth c H locs cells slots Q (F0 m pc ls (.int (mI b) :: .int (mI a) :: rest)) :=
  lv_icmp_ne hx hb hdg ht (fun h => kt (fun q => h ((mI_eq ra rb).mpr q))) (fun h => kf ((mI_eq ra rb).mp h))
theorem sy_icmp_lt (hx : p.tables.exec = Jvm.exec) (hb : c.code = cc) (hdg : decode cc pc = .ok (.if_icmp .lt off, 3)) (ht : (pc : Int) + off = (tgt : Int)) (ra : -2147483648 ≤ a ∧ a ≤ 2147483647) (rb : -2147483648 ≤ b ∧ b ≤ 2147483647) (kt : a < b → W p l e R s m args below meth c H locs cells slots Q (F0 m tgt ls rest)) (kf : b ≤ a → W p l e R s m args below meth c H locs cells slots Q (F0 m (pc + 3) ls rest)) : W p l e R s m args below meth c H locs cells slots Q (F0 m pc ls (.int (mI b) :: .int (mI a) :: rest)) :=
  lv_icmp_lt hx hb hdg ht (fun h => kt ((mI_lt ra rb).mp h)) (fun h => kf (Int.not_lt.mp (fun q => h ((mI_lt ra rb).mpr q))))
theorem sy_icmp_ge (hx : p.tables.exec = Jvm.exec) (hb : c.code = cc) (hdg : decode cc pc = .ok (.if_icmp .ge off, 3)) (ht : (pc : Int) + off = (tgt : Int)) (ra : -2147483648 ≤ a ∧ a ≤ 2147483647) (rb : -2147483648 ≤ b ∧ b ≤ 2147483647) (kt : b ≤ a → W p l e R s m args below meth c H locs cells slots Q (F0 m tgt ls rest)) (kf : a < b → W p l e R s m args below meth c H locs cells slots Q (F0 m (pc + 3) ls rest)) : W p l e R s m args below meth c H locs cells slots Q (F0 m pc ls (.int (mI b) :: .int (mI a) :: rest)) :=
  lv_icmp_ge hx hb hdg ht (fun h => kt ((mI_le rb ra).mp h)) (fun h => kf (Int.not_le.mp (fun q => h ((mI_le rb ra).mpr q))))
theorem sy_icmp_gt (hx : p.tables.exec = Jvm.exec) (hb : c.code = cc) (hdg : decode cc pc = .ok (.if_icmp .gt off, 3)) (ht : (pc : Int) + off = (tgt : Int)) (ra : -2147483648 ≤ a ∧ a ≤ 2147483647) (rb : -2147483648 ≤ b ∧ b ≤ 2147483647) (kt : b < a → W p l e R s m args below meth c H locs cells slots Q (F0 m tgt ls rest)) (kf : a ≤ b → W p l e R s m args below meth c H locs cells slots Q (F0 m (pc + 3) ls rest)) : W p l e R s m args below meth c H locs cells slots Q (F0 m pc ls (.int (mI b) :: .int (mI a) :: rest)) :=
  lv_icmp_gt hx hb hdg ht (fun h => kt ((mI_lt rb ra).mp h)) (fun h => kf (Int.not_lt.mp (fun q => h ((mI_lt rb ra).mpr q))))
theorem sy_icmp_le (hx : p.tables.exec = Jvm.exec) (hb : c.code = cc) (hdg : decode cc pc = .ok (.if_icmp .le off, 3)) (ht : (pc : Int) + off = (tgt : Int)) (ra : -2147483648 ≤ a ∧ a ≤ 2147483647) (rb : -2147483648 ≤ b ∧ b ≤ 2147483647) (kt : a ≤ b → W p l e R s m args below meth c H locs cells slots Q (F0 m tgt ls rest)) (kf : b < a → W p l e R s m args below meth c H locs cells slots Q (F0 m (pc + 3) ls rest)) : W p l e R s m args below meth c H locs cells slots Q (F0 m pc ls (.int (mI b) :: .int (mI a) :: rest)) :=
  lv_icmp_le hx hb hdg ht (fun h => kt ((mI_le ra rb).mp h)) (fun h => kf (Int.not_le.mp (fun q => h ((mI_le ra rb).mpr q))))
theorem sy_if_eq (hx : p.tables.exec = Jvm.exec) (hb : c.code = cc) (hdg : decode cc pc = .ok (.ifCond .eq off, 3)) (ht : (pc : Int) + off = (tgt : Int)) (ra : -2147483648 ≤ a ∧ a ≤ 2147483647) (kt : a = 0 → W p l e R s m args below meth c H locs cells slots Q (F0 m tgt ls rest)) (kf : ¬ a = 0 → W p l e R s m args below meth c H locs cells slots Q (F0 m (pc + 3) ls rest)) : W p l e R s m args below meth c H locs cells slots Q (F0 m pc ls (.int (mI a) :: rest)) :=
  lv_if_eq hx hb hdg ht (fun h => kt ((mI_eq ra (by decide)).mp h)) (fun h => kf (fun q => h ((mI_eq ra (by decide)).mpr q)))
theorem sy_if_ne (hx : p.tables.exec = Jvm.exec) (hb : c.code = cc) (hdg : decode cc pc = .ok (.ifCond .ne off, 3)) (ht : (pc : Int) + off = (tgt : Int)) (ra : -2147483648 ≤ a ∧ a ≤ 2147483647) (kt : ¬ a = 0 → W p l e R s m args below meth c H locs cells slots Q (F0 m tgt ls rest)) (kf : a = 0 → W p l e R s m args below meth c H locs cells slots Q (F0 m (pc + 3) ls rest)) : W p l e R s m args below meth c H locs cells slots Q (F0 m pc ls (.int (mI a) :: rest)) :=
  lv_if_ne hx hb hdg ht (fun h => kt (fun q => h ((mI_eq ra (by decide)).mpr q))) (fun h => kf ((mI_eq ra (by decide)).mp h))
theorem sy_if_lt (hx : p.tables.exec = Jvm.exec) (hb : c.code = cc) (hdg : decode cc pc = .ok (.ifCond .lt off, 3)) (ht : (pc : Int) + off = (tgt : Int)) (ra : -2147483648 ≤ a ∧ a ≤ 2147483647) (kt : a < 0 → W p l e R s m args below meth c H locs cells slots Q (F0 m tgt ls rest)) (kf : 0 ≤ a → W p l e R s m args below meth c H locs cells slots Q (F0 m (pc + 3) ls rest)) : W p l e R s m args below meth c H locs cells slots Q (F0 m pc ls (.int (mI a) :: rest)) :=
  lv_if_lt hx hb hdg ht (fun h => kt ((mI_lt ra (by decide)).mp h)) (fun h => kf (Int.not_lt.mp (fun q => h ((mI_lt ra (by decide)).mpr q))))
theorem sy_if_ge (hx : p.tables.exec = Jvm.exec) (hb : c.code = cc) (hdg : decode cc pc = .ok (.ifCond .ge off, 3)) (ht : (pc : Int) + off = (tgt : Int)) (ra : -2147483648 ≤ a ∧ a ≤ 2147483647) (kt : 0 ≤ a → W p l e R s m args below meth c H locs cells slots Q (F0 m tgt ls rest)) (kf : a < 0 → W p l e R s m args below meth c H locs cells slots Q (F0 m (pc + 3) ls rest)) : W p l e R s m args below meth c H locs cells slots Q (F0 m pc ls (.int (mI a) :: rest)) :=
  lv_if_ge hx hb hdg ht (fun h => kt ((mI_le (by decide) ra).mp h)) (fun h => kf (Int.not_le.mp (fun q => h ((mI_le (by decide) ra).mpr q))))
theorem sy_if_gt (hx : p.tables.exec = Jvm.exec) (hb : c.code = cc) (hdg : decode cc pc = .ok (.ifCond .gt off, 3)) (ht : (pc : Int) + off = (tgt : Int)) (ra : -2147483648 ≤ a ∧ a ≤ 2147483647) (kt : 0 < a → W p l e R s m args below meth c H locs cells slots Q (F0 m tgt ls rest)) (kf : a ≤ 0 → W p l e R s m args below meth c H locs cells slots Q (F0 m (pc + 3) ls rest)) : W p l e R s m args below meth c H locs cells slots Q (F0 m pc ls (.int (mI a) :: rest)) :=
  lv_if_gt hx hb hdg ht (fun h => kt ((mI_lt (by decide) ra).mp h)) (fun h => kf (Int.not_lt.mp (fun q => h ((mI_lt (by decide) ra).mpr q))))
theorem sy_if_le (hx : p.tables.exec = Jvm.exec) (hb : c.code = cc) (hdg : decode cc pc = .ok (.ifCond .le off, 3)) (ht : (pc : Int) + off = (tgt : Int)) (ra : -2147483648 ≤ a ∧ a ≤ 2147483647) (kt : a ≤ 0 → W p l e R s m args below meth c H locs cells slots Q (F0 m tgt ls rest)) (kf : 0 < a → W p l e R s m args below meth c H locs cells slots Q (F0 m (pc + 3) ls rest)) : W p l e R s m args below meth c H locs cells slots Q (F0 m pc ls (.int (mI a) :: rest)) :=
  lv_if_le hx hb hdg ht (fun h => kt ((mI_le ra (by decide)).mp h)) (fun h => kf (Int.not_le.mp (fun q => h ((mI_le ra (by decide)).mpr q))))
theorem sy_tableIn (hx : p.tables.exec = Jvm.exec) (hb : c.code = cc) {dflt lo hi : Int} {offs : Array Int} {len : Nat} (hdg : decode cc pc = .ok (.tableswitch dflt lo hi offs, len)) (j : Int) (hj : a = j) (h : (-2147483648 ≤ j ∧ j ≤ 2147483647) ∧ lo ≤ j ∧ j ≤ hi) (ho : offs[(j - lo).toNat]? = some off) (ht : (pc : Int) + off = (tgt : Int)) (k : W p l e R s m args below meth c H locs cells slots Q (F0 m tgt ls rest)) : W p l e R s m args below meth c H locs cells slots Q (F0 m pc ls (.int (mI a) :: rest)) := by
  subst hj
  have e := mI_t h.1
  exact lv_tableIn hx hb hdg (by rw [e]; omega) (by rw [e]; omega) (by rw [e]; exact ho) ht k
theorem sy_tableOut (hx : p.tables.exec = Jvm.exec) (hb : c.code = cc) {dflt lo hi : Int} {offs : Array Int} {len : Nat} (hdg : decode cc pc = .ok (.tableswitch dflt lo hi offs, len)) (ra : -2147483648 ≤ a ∧ a ≤ 2147483647) (h : a < lo ∨ hi < a) (ht : (pc : Int) + dflt = (tgt : Int)) (k : W p l e R s m args below meth c H locs cells slots Q (F0 m tgt ls rest)) : W p l e R s m args below meth c H locs cells slots Q (F0 m pc ls (.int (mI a) :: rest)) :=
  lv_tableOut hx hb hdg (by rw [mI_t ra]; exact h) ht k
theorem sy_lookIn (hx : p.tables.exec = Jvm.exec) (hb : c.code = cc) {dflt : Int} {ps : Array (Int × Int)} {len : Nat} (hdg : decode cc pc = .ok (.lookupswitch dflt ps, len)) (hp : (ps.toList.zip (ps.toList.drop 1)).all (fun (a, next) => a.1 < next.1) = true) (j : Int) (hj : a = j) (h : -2147483648 ≤ j ∧ j ≤ 2147483647) (ho : Op.lookupswitch.offset ps.toList dflt j = off) (ht : (pc : Int) + off = (tgt : Int)) (k : W p l e R s m args below meth c H locs cells slots Q (F0 m tgt ls rest)) : W p l e R s m args below meth c H locs cells slots Q (F0 m pc ls (.int (mI a) :: rest)) := by
  subst hj
  exact lv_lookup hx hb hdg hp (by rw [mI_t h]; exact ho) ht k
/-- a place where several ways meet -/
theorem sy_join (I : Heap → List Loc → JFrame → Prop) {g : JFrame} (hJ : ∀ H locs g, I H locs g → W p l e R s m args below meth c H locs cells slots Q g) (hgo : (∀ H locs g, I H locs g → W p l e R s m args below meth c H locs cells slots Q g) → W p l e R s m args below meth c H locs cells slots Q g) : W p l e R s m args below meth c H locs cells slots Q g := hgo hJ
/-- a loop: what falls -/
theorem sy_loop (I : Nat → Heap → List Loc → JFrame → Prop) (hstep : ∀ n H locs g, I n H locs g → (∀ n' H' locs' g', n' < n → I n' H' locs' g' → W p l e R s m args below meth c H' locs' cells slots Q g') → W p l e R s m args below meth c H locs cells slots Q g) (n : Nat) {g : JFrame} (hI : I n H locs g) : W p l e R s m args below meth c H locs cells slots Q g := by
  have key : ∀ n, ∀ H locs g, I n H locs g → W p l e R s m args below meth c H locs cells slots Q g := by
    intro n
    induction n using Nat.strongRecOn with
    | ind n ih => exact fun H locs g h => hstep n H locs g h (fun n' H' locs' g' hn h' => ih n' hn H' locs' g' h')
  exact key n H locs g hI
variable {D : va_G} {k : Nat → ClassId} {ws : va_W} {A : Nat → Prop} {H0 : Heap} {ad n : Nat} {F : Nat → Int} {lo hi : Int}
theorem sy_iald (hx : p.tables.exec = Jvm.exec) (hb : c.code = cc) (hK : va_K D vwCl (tys k) s) (hP : va_P D vwCl ws H) (q0 : Nat) (ha : ws[q0]? = some (ad, .inl (k 0, n, .inl (fun j => mI (F j))))) (hn : n < 2 ^ 31) (hdg : decode cc pc = .ok (.iaload, 1)) (h0 : 0 ≤ a ∧ a < (n : Int)) (hB : bd lo hi F) (kk : ∀ z : Int, F a.toNat = z → lo ≤ z ∧ z ≤ hi → W p l e R s m args below meth c H locs cells slots Q (F0 m (pc + 1) ls (.int (mI z) :: rest))) : W p l e R s m args below meth c H locs cells slots Q (F0 m pc ls (.int (mI a) :: .ref ad :: rest)) :=
  va_iald hx hb hK hP q0 0 ha rfl (mI_in h0.1 h0.2 hn) hdg (by
    show W p l e R s m args below meth c H locs cells slots Q (F0 m (pc + 1) ls (.int (mI (F (mI a).toNatClampNeg)) :: rest))
    rw [mI_cl ⟨h0.1, by omega⟩]
    exact kk _ rfl (hB _))
theorem sy_bald (hx : p.tables.exec = Jvm.exec) (hb : c.code = cc) (hK : va_K D vwCl (tys k) s) (hP : va_P D vwCl ws H) (q0 : Nat) (ha : ws[q0]? = some (ad, .inl (k 1, n, .inl (fun j => mI (F j))))) (hn : n < 2 ^ 31) (hdg : decode cc pc = .ok (.baload, 1)) (h0 : 0 ≤ a ∧ a < (n : Int)) (hB : bd lo hi F) (kk : ∀ z : Int, F a.toNat = z → lo ≤ z ∧ z ≤ hi → W p l e R s m args below meth c H locs cells slots Q (F0 m (pc + 1) ls (.int (mI z) :: rest))) : W p l e R s m args below meth c H locs cells slots Q (F0 m pc ls (.int (mI a) :: .ref ad :: rest)) :=
  va_bald hx hb hK hP q0 1 ha rfl (mI_in h0.1 h0.2 hn) hdg (by
    show W p l e R s m args below meth c H locs cells slots Q (F0 m (pc + 1) ls (.int (mI (F (mI a).toNatClampNeg)) :: rest))
    rw [mI_cl ⟨h0.1, by omega⟩]
    exact kk _ rfl (hB _))
theorem sy_zald (hx : p.tables.exec = Jvm.exec) (hb : c.code = cc) (hK : va_K D vwCl (tys k) s) (hP : va_P D vwCl ws H) (q0 : Nat) (ha : ws[q0]? = some (ad, .inl (k 3, n, .inl (fun j => mI (F j))))) (hn : n < 2 ^ 31) (hdg : decode cc pc = .ok (.baload, 1)) (h0 : 0 ≤ a ∧ a < (n : Int)) (hB : bd lo hi F) (kk : ∀ z : Int, F a.toNat = z → lo ≤ z ∧ z ≤ hi → W p l e R s m args below meth c H locs cells slots Q (F0 m (pc + 1) ls (.int (mI z) :: rest))) : W p l e R s m args below meth c H locs cells slots Q (F0 m pc ls (.int (mI a) :: .ref ad :: rest)) :=
  va_zald hx hb hK hP q0 3 ha rfl (mI_in h0.1 h0.2 hn) hdg (by
    show W p l e R s m args below meth c H locs cells slots Q (F0 m (pc + 1) ls (.int (mI (F (mI a).toNatClampNeg)) :: rest))
    rw [mI_cl ⟨h0.1, by omega⟩]
    exact kk _ rfl (hB _))
theorem sy_lald (hx : p.tables.exec = Jvm.exec) (hb : c.code = cc) (hK : va_K D vwCl (tys k) s) (hP : va_P D vwCl ws H) (q0 : Nat) {G : Nat → Int64} (ha : ws[q0]? = some (ad, .inl (k 2, n, .inr (.inl G)))) (hn : n < 2 ^ 31) (hdg : decode cc pc = .ok (.laload, 1)) (h0 : 0 ≤ a ∧ a < (n : Int)) (kk : ∀ z : Int64, W p l e R s m args below meth c H locs cells slots Q (F0 m (pc + 1) ls (.long z :: rest))) : W p l e R s m args below meth c H locs cells slots Q (F0 m pc ls (.int (mI a) :: .ref ad :: rest)) :=
  va_lald hx hb hK hP q0 2 ha rfl (mI_in h0.1 h0.2 hn) hdg (kk _)
/-- stores: wn is the world behind it -/
theorem sy_iast {wn : (Nat → Int) → va_W} (hx : p.tables.exec = Jvm.exec) (hb : c.code = cc) (hK : va_K D vwCl (tys k) s) (hP : va_P D vwCl ws H) (hD : va_D A ws) (hS : va_S A H0 H locs) (q0 : Nat) (ha : ws[q0]? = some (ad, .inl (k 0, n, .inl (fun j => mI (F j))))) (hw : ∀ F' : Nat → Int, ws.set q0 (ad, .inl (k 0, n, .inl (fun j => mI (F' j)))) = wn F') (hn : n < 2 ^ 31) (hdg : decode cc pc = .ok (.iastore, 1)) (h0 : 0 ≤ a ∧ a < (n : Int)) (hB : bd lo hi F) (hv : lo ≤ b ∧ b ≤ hi) (kk : ∀ (F' : Nat → Int) (H1 : Heap) (locs1 : List Loc), F' = ud F a.toNat b → bd lo hi F' → va_P D vwCl (wn F') H1 → va_S A H0 H1 locs1 → W p l e R s m args below meth c H1 locs1 cells slots Q (F0 m (pc + 1) ls rest)) : W p l e R s m args below meth c H locs cells slots Q (F0 m pc ls (.int (mI b) :: .int (mI a) :: .ref ad :: rest)) :=
  va_iast hx hb hK hP hD hS q0 0 ha rfl (mI_in h0.1 h0.2 hn) hdg (fun H1 locs1 hP1 hD1 hS1 => by
    rw [mI_cl ⟨h0.1, by omega⟩, ud_m, hw] at hP1
    exact kk _ H1 locs1 rfl (ud_bd hB _ hv) hP1 hS1)
theorem mI_barr {b : Int} (h : -128 ≤ b ∧ b ≤ 127) : vp_nar .byte (mI b) = mI b := by
  rw [vp_nar_byte]
  apply Int32.toInt_inj.mp
  rw [Int8.toInt_toInt32, Int32.toInt_toInt8, mI_t (by omega)]
  rw [Int.bmod_eq_of_le (by omega) (by omega)]
theorem sy_bast {wn : (Nat → Int) → va_W} (hx : p.tables.exec = Jvm.exec) (hb : c.code = cc) (hK : va_K D vwCl (tys k) s) (hP : va_P D vwCl ws H) (hD : va_D A ws) (hS : va_S A H0 H locs) (q0 : Nat) (ha : ws[q0]? = some (ad, .inl (k 1, n, .inl (fun j => mI (F j))))) (hw : ∀ F' : Nat → Int, ws.set q0 (ad, .inl (k 1, n, .inl (fun j => mI (F' j)))) = wn F') (hn : n < 2 ^ 31) (hr : -128 ≤ lo ∧ hi ≤ 127) (hdg : decode cc pc = .ok (.bastore, 1)) (h0 : 0 ≤ a ∧ a < (n : Int)) (hB : bd lo hi F) (hv : lo ≤ b ∧ b ≤ hi) (kk : ∀ (F' : Nat → Int) (H1 : Heap) (locs1 : List Loc), F' = ud F a.toNat b → bd lo hi F' → va_P D vwCl (wn F') H1 → va_S A H0 H1 locs1 → W p l e R s m args below meth c H1 locs1 cells slots Q (F0 m (pc + 1) ls rest)) : W p l e R s m args below meth c H locs cells slots Q (F0 m pc ls (.int (mI b) :: .int (mI a) :: .ref ad :: rest)) :=
  va_bast hx hb hK hP hD hS q0 1 ha rfl (mI_in h0.1 h0.2 hn) hdg (fun H1 locs1 hP1 hD1 hS1 => by
    rw [mI_cl ⟨h0.1, by omega⟩, mI_barr (by omega), ud_m, hw] at hP1
    exact kk _ H1 locs1 rfl (ud_bd hB _ hv) hP1 hS1)
theorem sy_zast {wn : (Nat → Int) → va_W} (hx : p.tables.exec = Jvm.exec) (hb : c.code = cc) (hK : va_K D vwCl (tys k) s) (hP : va_P D vwCl ws H) (hD : va_D A ws) (hS : va_S A H0 H locs) (q0 : Nat) (ha : ws[q0]? = some (ad, .inl (k 3, n, .inl (fun j => mI (F j))))) (hw : ∀ F' : Nat → Int, ws.set q0 (ad, .inl (k 3, n, .inl (fun j => mI (F' j)))) = wn F') (hn : n < 2 ^ 31) (hr : 0 ≤ lo ∧ hi ≤ 1) (hdg : decode cc pc = .ok (.bastore, 1)) (h0 : 0 ≤ a ∧ a < (n : Int)) (hB : bd lo hi F) (hv : lo ≤ b ∧ b ≤ hi) (kk : ∀ (F' : Nat → Int) (H1 : Heap) (locs1 : List Loc), F' = ud F a.toNat b → bd lo hi F' → va_P D vwCl (wn F') H1 → va_S A H0 H1 locs1 → W p l e R s m args below meth c H1 locs1 cells slots Q (F0 m (pc + 1) ls rest)) : W p l e R s m args below meth c H locs cells slots Q (F0 m pc ls (.int (mI b) :: .int (mI a) :: .ref ad :: rest)) :=
  va_zast hx hb hK hP hD hS q0 3 ha rfl (mI_in h0.1 h0.2 hn) hdg (fun H1 locs1 hP1 hD1 hS1 => by
    rw [mI_cl ⟨h0.1, by omega⟩, mI_boolN (by omega), ud_m, hw] at hP1
    exact kk _ H1 locs1 rfl (ud_bd hB _ hv) hP1 hS1)
theorem sy_last {wn : (Nat → Int64) → va_W} (hx : p.tables.exec = Jvm.exec) (hb : c.code = cc) (hK : va_K D vwCl (tys k) s) (hP : va_P D vwCl ws H) (hD : va_D A ws) (hS : va_S A H0 H locs) (q0 : Nat) {G : Nat → Int64} {v : Int64} (ha : ws[q0]? = some (ad, .inl (k 2, n, .inr (.inl G)))) (hw : ∀ F' : Nat → Int64, ws.set q0 (ad, .inl (k 2, n, .inr (.inl F'))) = wn F') (hn : n < 2 ^ 31) (hdg : decode cc pc = .ok (.lastore, 1)) (h0 : 0 ≤ a ∧ a < (n : Int)) (kk : ∀ (F' : Nat → Int64) (H1 : Heap) (locs1 : List Loc), va_P D vwCl (wn F') H1 → va_S A H0 H1 locs1 → W p l e R s m args below meth c H1 locs1 cells slots Q (F0 m (pc + 1) ls rest)) : W p l e R s m args below meth c H locs cells slots Q (F0 m pc ls (.long v :: .int (mI a) :: .ref ad :: rest)) :=
  va_last hx hb hK hP hD hS q0 2 ha rfl (mI_in h0.1 h0.2 hn) hdg (fun H1 locs1 hP1 hD1 hS1 => by
    rw [hw] at hP1
    exact kk _ H1 locs1 hP1 hS1)
end SY
/-! ===== contracts over a whole side of the world ===== -/
/-- addresses apart -/
def wD (A : Nat → Prop) (as : List Nat) : Prop := (∀ (i j : Nat) (q : Nat), as[i]? = some q → as[j]? = some q → i = j) ∧ ∀ (k : Nat) (q : Nat), as[k]? = some q → A q
theorem wD_to {A : Nat → Prop} {ws : va_W} {as : List Nat} (h : wD A as) (e : ws.map Prod.fst = as) : va_D A ws := by
  subst e
  refine ⟨fun i j p q hp hq hpq => h.1 i j p.1 (by rw [List.getElem?_map, hp]; rfl) (by rw [List.getElem?_map, hq, hpq]; rfl), fun k q hq => h.2 k q.1 (by rw [List.getElem?_map, hq]; rfl)⟩
theorem wD_of {A : Nat → Prop} {ws : va_W} {as : List Nat} (h : va_D A ws) (e : ws.map Prod.fst = as) : wD A as := by
  subst e
  refine ⟨fun i j q hp hq => ?_, fun k q hq => ?_⟩
  · rw [List.getElem?_map] at hp hq
    obtain ⟨p1, h1, rfl⟩ := Option.map_eq_some_iff.mp hp
    obtain ⟨p2, h2, h3⟩ := Option.map_eq_some_iff.mp hq
    exact h.1 i j p1 p2 h1 h2 h3.symm
  · rw [List.getElem?_map] at hq
    obtain ⟨p1, h1, rfl⟩ := Option.map_eq_some_iff.mp hq
    exact h.2 k p1 h1
abbrev MetG (l : Launch) (D : va_G) (k : Nat → ClassId) (y : MethodName) (bytes : ByteArray) (maxL : Nat) (ret : Option FieldType) (d : Nat) (as : List Value) (ws : va_W) (Q : (Nat → Prop) → Array Value → State → Outcome → State → Prop) : Prop := MetM l D k y bytes maxL ret d 0 0 as ws noX Q
abbrev qGi (P : Int → Heap → Prop) : (Nat → Prop) → Array Value → State → Outcome → State → Prop := fun A => va_Qi (fun r (u : Int) => r = mI u) (fun u t => P u t.heap) A
abbrev qGl (P : Int64 → Heap → Prop) : (Nat → Prop) → Array Value → State → Outcome → State → Prop := fun A => va_Ql (fun r (u : Int64) => r = u) (fun u t => P u t.heap) A
abbrev qGv (P : Heap → Prop) : (Nat → Prop) → Array Value → State → Outcome → State → Prop := fun A => va_Qv (fun (_ : Unit) => True) (fun _ t => P t.heap) A
abbrev qGr (P : Nat → Heap → Prop) : (Nat → Prop) → Array Value → State → Outcome → State → Prop := fun A => va_Qr (fun (_ : Unit) => True) (fun _ a t => P a t.heap) A
theorem metG_of {l : Launch} {D : va_G} {k : Nat → ClassId} {y : MethodName} {bytes : ByteArray} {maxL : Nat} {ret : Option FieldType} {d : Nat} {as : List Value} {ws : va_W} {Qc : (Nat → Prop) → Array Value → State → Outcome → State → Prop} (n : Nat) (hk : ckC y bytes maxL ret n) (hmx : (lg_sl as).length ≤ maxL) {adr : List Nat} (hadr : ws.map Prod.fst = adr)
    (body : ∀ (p : Program) (e : Env) (s : State) (m : MethodId) (args : Array Value) (below : List Frame) (meth : Method) (c : Code) (A : Nat → Prop), p.tables.exec = Jvm.exec → c.code = bytes → c.maxLocals = maxL → meth.sig.returnType = ret → meth.locks = false → s.vm.findClass y.cls = some m.cls → (∀ w ∈ UT, w.before args s = true) → va_K D vwCl (tys k) s → wD A adr → (∀ q : Nat, s.heap.size ≤ q → A q) → va_P D vwCl ws s.heap → va_S A s.heap s.heap [] → ∀ ls : Array Slot, lv_has ls maxL (lv_args 0 as) → W p l e (rmD d 0 0) s m args below meth c s.heap [] 0 0 (MQ below (Qc A) args s 0 0 A) (F0 m 0 ls [])) : MetG l D k y bytes maxL ret d as ws Qc :=
  metM_of n hk hmx (fun p e s m args below meth c A hx hb hml hr hlocks hown hts hK _ hP hD hA _ ls hl => body p e s m args below meth c A hx hb hml hr hlocks hown hts hK (wD_of hD hadr) hA hP va_S.rf ls hl)
section GC
variable {p : Program} {l : Launch} {e : Env} {R : Room} {s : State} {m : MethodId} {args : Array Value} {below : List Frame} {meth : Method} {c : Code} {H : Heap} {locs : List Loc} {cells slots : Nat} {Q : State → Prop}
variable {y : MethodName} {bytes cc : ByteArray} {maxL nL n index d : Nat} {ret : Option FieldType} {own : String} {b : Addr} {As rest st0 : List Value} {pc : Nat} {ls : Array Slot} {D : va_G} {k : Nat → ClassId} {ws : va_W} {A0 : Nat → Prop} {H0 : Heap} {adr : List Nat}
theorem gF {ws : va_W} (hD : va_D A0 ws) (hS : va_S A0 H0 H locs) (hA : ∀ q, H0.size ≤ q → A0 q) : ∀ q, va_A ws H.size q → A0 q := by
  intro q h
  rcases h with ⟨k, e, h⟩ | h
  · exact hD.2 k (q, e) h
  · exact hA q (Nat.le_trans hS.1 h)
theorem g_V {Qm : (Nat → Prop) → Array Value → State → Outcome → State → Prop} (hx : p.tables.exec = Jvm.exec) (hb : c.code = cc) (hml : c.maxLocals = nL) (hown : s.vm.findClass own = some m.cls) (hts : ∀ w ∈ UT, w.before args s = true) (hK : va_K D vwCl (tys k) s) (hP : va_P D vwCl ws H) (hD : va_D A0 ws)
    (hM : MetG l D k y bytes maxL ret d (.ref b :: As) ws Qm) (hk : ckC y bytes maxL ret n) (hi : Cond.instanceMethod y ∈ UT ∧ Cond.selects y.cls y y ∈ UT) (hl : Cond.methodLink own index y ∈ UT) (hr : ∃ cell : Cell, H[b]? = some cell ∧ cell.vm.isStatics = false ∧ s.vm.findClass y.cls = some cell.cls)
    (hn : As.length = n) (hsz : ls.size = nL) (hst : st0 = As.reverse ++ .ref b :: rest) (hroom : (rest.map fun v => v.category).sum ≤ 8) (hdg : decode cc pc = .ok (.invokevirtual index, 3)) (hc : cells ≤ R.cells ∧ slots ≤ R.slots) (hR : d + 1 ≤ R.frames ∧ 100 * (d + 1) ≤ R.locals) :
    va_Run p l e R s m args below meth c H locs cells slots 0 0 (F0 m pc ls st0) rest (Qm (va_A ws H.size) (Value.ref b :: As).toArray) (va_A ws H.size) :=
  va_runV (Ts := UT) ⟨hx, hb, hml, hown, hts⟩ (hM H.size) ⟨zc_B hts hk hl hR.1 hR.2, hts _ hi.1, hts _ hi.2⟩ ⟨pcM_blind noX_stb, hr, fun U hU hW => ⟨rfl, by rw [hU], by rw [hU]; exact hP, va_K.moved hW.alike hK, hD.weaken (fun _ _ _ _ => trivial), trivial⟩⟩ rfl hn hsz hst (lv_room hroom) hdg hc
theorem g_S {Qm : (Nat → Prop) → Array Value → State → Outcome → State → Prop} (hx : p.tables.exec = Jvm.exec) (hb : c.code = cc) (hml : c.maxLocals = nL) (hown : s.vm.findClass own = some m.cls) (hts : ∀ w ∈ UT, w.before args s = true) (hK : va_K D vwCl (tys k) s) (hP : va_P D vwCl ws H) (hD : va_D A0 ws)
    (hM : MetG l D k y bytes maxL ret d As ws Qm) (hk : ckC y bytes maxL ret n) (hi : Cond.static y ∈ UT) (hl : Cond.methodLink own index y ∈ UT)
    (hn : As.length = n) (hsz : ls.size = nL) (hst : st0 = As.reverse ++ rest) (hroom : (rest.map fun v => v.category).sum ≤ 8) (hdg : decode cc pc = .ok (.invokestatic index, 3)) (hc : cells ≤ R.cells ∧ slots ≤ R.slots) (hR : d + 1 ≤ R.frames ∧ 100 * (d + 1) ≤ R.locals) :
    va_Run p l e R s m args below meth c H locs cells slots 0 0 (F0 m pc ls st0) rest (Qm (va_A ws H.size) As.toArray) (va_A ws H.size) :=
  va_runS (Ts := UT) ⟨hx, hb, hml, hown, hts⟩ (hM H.size) ⟨zc_B hts hk hl hR.1 hR.2, hts _ hi⟩ ⟨pcM_blind noX_stb, fun U hU hW => ⟨rfl, by rw [hU], by rw [hU]; exact hP, va_K.moved hW.alike hK, hD.weaken (fun _ _ _ _ => trivial), trivial⟩⟩ rfl hn hsz hst (lv_room hroom) hdg hc
theorem g_i {P : Int → Heap → Prop} {a : Array Value} (hD : va_D A0 ws) (hS : va_S A0 H0 H locs) (hA : ∀ q, H0.size ≤ q → A0 q) (hr : va_Run p l e R s m args below meth c H locs cells slots 0 0 (F0 m pc ls st0) rest (qGi P (va_A ws H.size) a) (va_A ws H.size))
    (kk : ∀ (r : Int) (H1 : Heap) (locs1 : List Loc), P r H1 → va_S A0 H0 H1 locs1 → W p l e R s m args below meth c H1 locs1 cells slots Q (F0 m (pc + 3) ls (.int (mI r) :: rest))) : W p l e R s m args below meth c H locs cells slots Q (F0 m pc ls st0) := by
  have hF := gF hD hS hA
  refine va_calli hr hS (fun q _ h => hF q h) hF (fun r u t H1 locs1 ht hvm hw hB hz1 hk1 hS1 => ?_)
  subst hw
  exact kk u H1 locs1 (by subst ht; exact hB) hS1
theorem g_l {P : Int64 → Heap → Prop} {a : Array Value} (hD : va_D A0 ws) (hS : va_S A0 H0 H locs) (hA : ∀ q, H0.size ≤ q → A0 q) (hr : va_Run p l e R s m args below meth c H locs cells slots 0 0 (F0 m pc ls st0) rest (qGl P (va_A ws H.size) a) (va_A ws H.size))
    (kk : ∀ (r : Int64) (H1 : Heap) (locs1 : List Loc), P r H1 → va_S A0 H0 H1 locs1 → W p l e R s m args below meth c H1 locs1 cells slots Q (F0 m (pc + 3) ls (.long r :: rest))) : W p l e R s m args below meth c H locs cells slots Q (F0 m pc ls st0) := by
  have hF := gF hD hS hA
  refine va_calll hr hS (fun q _ h => hF q h) hF (fun r u t H1 locs1 ht hvm hw hB hz1 hk1 hS1 => ?_)
  subst hw
  exact kk r H1 locs1 (by subst ht; exact hB) hS1
theorem g_v {P : Heap → Prop} {a : Array Value} (hD : va_D A0 ws) (hS : va_S A0 H0 H locs) (hA : ∀ q, H0.size ≤ q → A0 q) (hr : va_Run p l e R s m args below meth c H locs cells slots 0 0 (F0 m pc ls st0) rest (qGv P (va_A ws H.size) a) (va_A ws H.size))
    (kk : ∀ (H1 : Heap) (locs1 : List Loc), P H1 → va_S A0 H0 H1 locs1 → W p l e R s m args below meth c H1 locs1 cells slots Q (F0 m (pc + 3) ls rest)) : W p l e R s m args below meth c H locs cells slots Q (F0 m pc ls st0) := by
  have hF := gF hD hS hA
  refine va_callv hr hS (fun q _ h => hF q h) hF (fun u t H1 locs1 ht hvm hw hB hz1 hk1 hS1 => ?_)
  exact kk H1 locs1 (by subst ht; exact hB) hS1
theorem g_r {P : Nat → Heap → Prop} {a : Array Value} (hD : va_D A0 ws) (hS : va_S A0 H0 H locs) (hA : ∀ q, H0.size ≤ q → A0 q) (hr : va_Run p l e R s m args below meth c H locs cells slots 0 0 (F0 m pc ls st0) rest (qGr P (va_A ws H.size) a) (va_A ws H.size))
    (kk : ∀ (x : Nat) (H1 : Heap) (locs1 : List Loc), P x H1 → va_S A0 H0 H1 locs1 → W p l e R s m args below meth c H1 locs1 cells slots Q (F0 m (pc + 3) ls (.ref x :: rest))) : W p l e R s m args below meth c H locs cells slots Q (F0 m pc ls st0) := by
  have hF := gF hD hS hA
  refine va_callr hr hS (fun q _ h => hF q h) hF (fun u x1 t H1 locs1 ht hvm hw hB hz1 hk1 hS1 => ?_)
  exact kk x1 H1 locs1 (by subst ht; exact hB) hS1
/-- ends -/
theorem r_i {P : Int → Heap → Prop} {z : Int} {A : Nat → Prop} (hx : p.tables.exec = Jvm.exec) (hb : c.code = cc) (hr : meth.sig.returnType = some .int) (hlocks : meth.locks = false) (hdg : decode cc pc = .ok (.ireturn, 1)) (hS : va_S A s.heap H locs) (hp : P z H) :
    W p l e R s m args below meth c H locs 0 0 (MQ below (qGi P A) args s 0 0 A) (F0 m pc ls [.int (mI z)]) :=
  W.iret hx hb hr (fun t ht _ => ⟨⟨mI z, z, rfl, rfl, by subst ht; exact hp⟩, hS.F ht⟩) hS.2.2 hdg hlocks
theorem r_z {P : Int → Heap → Prop} {z : Int} {A : Nat → Prop} (hx : p.tables.exec = Jvm.exec) (hb : c.code = cc) (hr : meth.sig.returnType = some .boolean) (hlocks : meth.locks = false) (hdg : decode cc pc = .ok (.ireturn, 1)) (hS : va_S A s.heap H locs) (hz : 0 ≤ z ∧ z ≤ 1) (hp : P z H) :
    W p l e R s m args below meth c H locs 0 0 (MQ below (qGi P A) args s 0 0 A) (F0 m pc ls [.int (mI z)]) :=
  W.zret hx hb hr (mI_bool hz) (fun t ht _ => ⟨⟨mI z, z, rfl, rfl, by subst ht; exact hp⟩, hS.F ht⟩) hS.2.2 hdg hlocks
theorem r_l {P : Int64 → Heap → Prop} {z : Int64} {A : Nat → Prop} (hx : p.tables.exec = Jvm.exec) (hb : c.code = cc) (hr : meth.sig.returnType = some .long) (hlocks : meth.locks = false) (hdg : decode cc pc = .ok (.lreturn, 1)) (hS : va_S A s.heap H locs) (hp : P z H) :
    W p l e R s m args below meth c H locs 0 0 (MQ below (qGl P A) args s 0 0 A) (F0 m pc ls [.long z]) :=
  W.lret hx hb hr (fun t ht _ => ⟨⟨z, z, rfl, rfl, by subst ht; exact hp⟩, hS.F ht⟩) hS.2.2 hdg hlocks
theorem r_v {P : Heap → Prop} {A : Nat → Prop} (hx : p.tables.exec = Jvm.exec) (hb : c.code = cc) (hr : meth.sig.returnType = none) (hlocks : meth.locks = false) (hdg : decode cc pc = .ok (.return_, 1)) (hS : va_S A s.heap H locs) (hp : P H) :
    W p l e R s m args below meth c H locs 0 0 (MQ below (qGv P A) args s 0 0 A) (F0 m pc ls []) :=
  W.vret hx hb hr (fun t ht _ => ⟨⟨(), rfl, trivial, by subst ht; exact hp⟩, hS.F ht⟩) hS.2.2 hdg hlocks
theorem r_r {P : Nat → Heap → Prop} {x : Nat} {A : Nat → Prop} {rt : FieldType} (hx : p.tables.exec = Jvm.exec) (hb : c.code = cc) (hr : meth.sig.returnType = some rt) (hrt : (∃ n, rt = .object n) ∨ ∃ t, rt = .array t) (hlocks : meth.locks = false) (hdg : decode cc pc = .ok (.areturn, 1)) (hS : va_S A s.heap H locs) (hp : P x H) :
    W p l e R s m args below meth c H locs 0 0 (MQ below (qGr P A) args s 0 0 A) (F0 m pc ls [.ref x]) :=
  W.aret hx hb hr hrt (Or.inr ⟨x, rfl⟩) (fun t ht _ => ⟨⟨(), x, rfl, trivial, by subst ht; exact hp⟩, hS.F ht⟩) hS.2.2 hdg hlocks
end GC
