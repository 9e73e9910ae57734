theorem mI_ad {a b c : Int} (h : a + b = c) : mI a + Int32.ofInt b = mI c := by
  subst h
  exact mI_add a b
theorem lk_out {dflt : Int} {ps : List (Int × Int)} {a : Int} (ra : -2147483648 ≤ a ∧ a ≤ 2147483647) (h : ∀ q ∈ ps, ¬ a = q.1) : Op.lookupswitch.offset ps dflt (mI a).toInt = dflt := by
  rw [mI_t ra]
  clear ra
  induction ps with
  | nil => rfl
  | cons q r ih =>
    obtain ⟨x, o⟩ := q
    rw [Op.lookupswitch.offset_cons, if_neg]
    · exact ih (fun q hq => h q (List.mem_cons_of_mem _ hq))
    · intro e
      exact h (x, o) List.mem_cons_self e.symm
section SY2
variable {p : Program} {l : Launch} {e : Env} {R : Room} {s : State} {m : MethodId} {args : Array Value} {below : List Frame} {meth : Method} {c : Code} {H : Heap} {locs : List Loc} {cells slots : Nat} {Q : State → Prop}
variable {cc : ByteArray} {pc : Nat} {ls : Array Slot} {rest : List Value} {a b : Int} {off : Int} {tgt : Nat}
theorem sy_lcmp (hx : p.tables.exec = Jvm.exec) (hb : c.code = cc) (hdg : decode cc pc = .ok (.lcmp, 1)) {x y : Int64} (k : ∀ z : Int, -1 ≤ z ∧ z ≤ 1 → W p l e R s m args below meth c H locs cells slots Q (F0 m (pc + 1) ls (.int (mI z) :: rest))) : W p l e R s m args below meth c H locs cells slots Q (F0 m pc ls (.long y :: .long x :: rest)) := by
  refine W.lcmp hx hb hdg ?_
  have h : lg_cmp x y = mI 1 ∨ lg_cmp x y = mI 0 ∨ lg_cmp x y = mI (-1) := by
    unfold lg_cmp
    split
    · exact Or.inl rfl
    · split
      · exact Or.inr (Or.inl rfl)
      · exact Or.inr (Or.inr rfl)
  rcases h with h | h | h <;> rw [h]
  · exact k 1 (by decide)
  · exact k 0 (by decide)
  · exact k (-1) (by decide)
theorem mI_shrV {a : Int} (s : Int32) (ha : 0 ≤ a ∧ a ≤ 2147483647) : ∃ z : Int, mI a >>> s = mI z ∧ 0 ≤ z ∧ z ≤ a := by
  refine ⟨a / 2 ^ (s.toBitVec.smod 32).toNat, mI_shr s _ rfl ha, ?_⟩
  exact mI_divB ha.1 (Int.pow_pos (by decide))
theorem sy_shrV (hx : p.tables.exec = Jvm.exec) (hb : c.code = cc) (hdg : decode cc pc = .ok (.ishr, 1)) (ha : 0 ≤ a ∧ a ≤ 2147483647) (k : ∀ z : Int, 0 ≤ z ∧ z ≤ a → W p l e R s m args below meth c H locs cells slots Q (F0 m (pc + 1) ls (.int (mI z) :: rest))) : W p l e R s m args below meth c H locs cells slots Q (F0 m pc ls (.int (mI b) :: .int (mI a) :: rest)) := by
  obtain ⟨z, hz, h2⟩ := mI_shrV (mI b &&& 31) ha
  exact lv_ishr hx hb hdg (sy_top z hz (k z h2))
end SY2
