/-! ===== bits, placements, quotients ===== -/
def bitB (s k : Int) : Bool := decide ((mI s >>> (mI k &&& 31)) &&& mI 1 = mI 1)
def rPl (T U : Nat → Int) (b : Int) : Int := if bitB (T b.toNat) 2 = true then 2 * U b.toNat else U b.toNat
theorem rPl_t {T U : Nat → Int} {b z0 z1 : Int} (e0 : T b.toNat = z0) (h : bitB z0 2 = true) (e1 : U b.toNat = z1) : 2 * z1 = rPl T U b := by
  unfold rPl
  rw [e0, if_pos h, e1]
theorem rPl_f {T U : Nat → Int} {b z0 z1 : Int} (e0 : T b.toNat = z0) (h : bitB z0 2 = false) (e1 : U b.toNat = z1) : z1 = rPl T U b := by
  unfold rPl
  rw [e0, if_neg (by rw [h]; decide), e1]
theorem dv_lt {t p v z p2 q : Int} (e : t * p = z) (hv : v < z) (hp : 0 < p2) (h2 : p2 = p) (hq : q = v / p2) : q < t := by
  subst h2
  subst hq
  subst e
  exact Int.ediv_lt_of_lt_mul hp hv
theorem pz_l {t p z : Int} (e : t * p = z) (hz : 1 ≤ z) (ht : 0 ≤ t) (hp : 0 ≤ p) : 1 ≤ t := by
  rcases (by omega : t = 0 ∨ 1 ≤ t) with h | h
  · subst h
    rw [Int.zero_mul] at e
    omega
  · exact h
theorem pz_r {t p z : Int} (e : t * p = z) (hz : 1 ≤ z) (ht : 0 ≤ t) (hp : 0 ≤ p) : 1 ≤ p := pz_l ((Int.mul_comm p t).trans e) hz hp ht
theorem sy_lcmpE {p : Program} {l : Launch} {e : Env} {R : Room} {s : State} {m : MethodId} {args : Array Value} {below : List Frame} {meth : Method} {c : Code} {H : Heap} {locs : List Loc} {cells slots : Nat} {Q : State → Prop} {cc : ByteArray} {pc : Nat} {ls : Array Slot} {rest : List Value} (hx : p.tables.exec = Jvm.exec) (hb : c.code = cc) (hdg : decode cc pc = .ok (.lcmp, 1)) {x y : Int64} (k : ∀ z : Int, (z = 0 ↔ x = y) → -1 ≤ z ∧ z ≤ 1 → W p l e R s m args below meth c H locs cells slots Q (F0 m (pc + 1) ls (.int (mI z) :: rest))) : W p l e R s m args below meth c H locs cells slots Q (F0 m pc ls (.long y :: .long x :: rest)) := by
  refine W.lcmp hx hb hdg ?_
  have h : (lg_cmp x y = mI 1 ∧ ¬ x = y) ∨ (lg_cmp x y = mI 0 ∧ x = y) ∨ (lg_cmp x y = mI (-1) ∧ ¬ x = y) := by
    unfold lg_cmp
    split
    · rename_i h
      exact Or.inl ⟨rfl, fun q => by subst q; exact Int64.lt_irrefl h⟩
    · split
      · rename_i h
        exact Or.inr (Or.inl ⟨rfl, h⟩)
      · rename_i h
        exact Or.inr (Or.inr ⟨rfl, h⟩)
  rcases h with ⟨h, q⟩ | ⟨h, q⟩ | ⟨h, q⟩ <;> rw [h]
  · exact k 1 ⟨fun w => absurd w (by decide), fun w => absurd w q⟩ (by decide)
  · exact k 0 ⟨fun _ => q, fun _ => rfl⟩ (by decide)
  · exact k (-1) ⟨fun w => absurd w (by decide), fun w => absurd w q⟩ (by decide)
theorem kr_bit {l : Launch} {D : va_G} {k : Nat → ClassId} {ws : va_W} {p0 p1 : Int} : MetG l D k yX12_bit cX12_bit 2 (some .boolean) 0 [.int (mI p0), .int (mI p1)] ws (qGi (fun r0 H => ((1 = r0 ∧ bitB p0 p1 = true) ∨ (0 = r0 ∧ bitB p0 p1 = false)) ∧ va_P D vwCl ws H)) := by
  refine metG_of 2 ck_X12_bit (Nat.le_of_ble_eq_true rfl) rfl (fun p e s m args below meth c A hx hb hml hr hlocks hown hts hK hD hA hP hS ls hl => ?_)
  have hl : lv_has ls 2 [(0, .int (mI p0)), (1, .int (mI p1))] := hl
  refine lv_iload_n hx hb dX12_bit_0 rfl (lv_at hl 0 rfl) ?_
  refine lv_iload_n hx hb dX12_bit_1 rfl (lv_at hl 1 rfl) ?_
  refine lv_ishr hx hb dX12_bit_2 ?_
  refine lv_iconst (v := mI 1) hx hb dX12_bit_3 rfl ?_
  refine lv_iand hx hb dX12_bit_4 ?_
  refine lv_iconst (v := mI 1) hx hb dX12_bit_5 rfl ?_
  refine lv_icmp_ne (tgt := 13) hx hb dX12_bit_6 (by decide) (fun c1 => ?_) (fun c1 => ?_)
  · refine lv_iconst (v := mI 0) hx hb dX12_bit_13 rfl ?_
    exact r_z hx hb hr hlocks dX12_bit_14 hS (by decide) ⟨Or.inr ⟨rfl, decide_eq_false c1⟩, hP⟩
  · refine lv_iconst (v := mI 1) hx hb dX12_bit_9 rfl ?_
    refine lv_goto (tgt := 14) hx hb dX12_bit_10 (by decide) ?_
    exact r_z hx hb hr hlocks dX12_bit_14 hS (by decide) ⟨Or.inl ⟨rfl, decide_eq_true c1⟩, hP⟩
def fImp (n w : Int64) (x c : Int) : Prop := n = w → x ≤ c
def rSg (T : Nat → Int) (sz k : Int) : Int := if k < sz then (mI (T k.toNat) &&& mI 255).toInt else 0
theorem rSg_t {T : Nat → Int} {sz k zb z : Int} (hk : k < sz) (e : T k.toNat = zb) (ea : mI zb &&& mI 255 = mI z) (hz : 0 ≤ z ∧ z ≤ 255) : z = rSg T sz k := by
  unfold rSg
  rw [if_pos hk, e, ea, mI_t (by omega)]
theorem rSg_f {T : Nat → Int} {sz k : Int} (hk : sz ≤ k) : 0 = rSg T sz k := by
  unfold rSg
  rw [if_neg (by omega)]
theorem rSg_c {T : Nat → Int} {sz k k2 r c : Int} (h1 : c = rSg T sz k) (h2 : r = rSg T sz k2) : ¬ k2 = k ∨ r = c := by
  by_cases h : k2 = k
  · subst h
    exact Or.inr (h2.trans h1.symm)
  · exact Or.inl h
theorem sy_iandE {p : Program} {l : Launch} {e : Env} {R : Room} {s : State} {m : MethodId} {args : Array Value} {below : List Frame} {meth : Method} {c : Code} {H : Heap} {locs : List Loc} {cells slots : Nat} {Q : State → Prop} {cc : ByteArray} {pc : Nat} {ls : Array Slot} {rest : List Value} {a b : Int} (hx : p.tables.exec = Jvm.exec) (hb : c.code = cc) (hdg : decode cc pc = .ok (.iand, 1)) (ha : 0 ≤ b ∧ b ≤ 2147483647) (k : ∀ z : Int, mI a &&& mI b = mI z → 0 ≤ z ∧ z ≤ b → W p l e R s m args below meth c H locs cells slots Q (F0 m (pc + 1) ls (.int (mI z) :: rest))) : W p l e R s m args below meth c H locs cells slots Q (F0 m pc ls (.int (mI b) :: .int (mI a) :: rest)) := by
  obtain ⟨z, hz, h2⟩ := mI_andR (a := a) ha
  exact lv_iand hx hb hdg (sy_top z hz (k z hz h2))
