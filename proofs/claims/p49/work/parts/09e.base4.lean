/-! ===== numbers of bits, and the parts of a mark in their order ===== -/
theorem my_and (a b : Nat) : nI a &&& nI b = nI (a &&& b) := by
  apply Int32.toBitVec_inj.mp
  rw [Int32.toBitVec_and]
  show BitVec.ofNat 32 a &&& BitVec.ofNat 32 b = BitVec.ofNat 32 (a &&& b)
  apply BitVec.eq_of_getLsbD_eq
  intro i hi
  simp [BitVec.getLsbD_and, BitVec.getLsbD_ofNat, Nat.testBit_and, hi]
def bc1 (n : Nat) : Nat := n - (n / 2 &&& 1431655765)
def bc2 (n : Nat) : Nat := (n &&& 858993459) + (n / 4 &&& 858993459)
def bc3 (n : Nat) : Nat := (n + n / 16) &&& 252645135
def bc4 (n : Nat) : Nat := n + n / 256
def bc5 (n : Nat) : Nat := n + n / 65536
def bcN (n : Nat) : Nat := bc5 (bc4 (bc3 (bc2 (bc1 n)))) &&& 63
theorem bc1_le (n : Nat) : bc1 n ≤ n := Nat.sub_le _ _
theorem bc2_le (n : Nat) : bc2 n ≤ n + n / 4 := Nat.add_le_add Nat.and_le_left Nat.and_le_left
theorem bc3_le (n : Nat) : bc3 n ≤ n + n / 16 := Nat.and_le_left
theorem bc_s1 {n : Nat} (h : n < 65536) : nI n - (((nI n).toUInt32 >>> (Int32.toUInt32 1 &&& Int32.toUInt32 31)).toInt32 &&& 1431655765) = nI (bc1 n) := by
  rw [pk_ushrN (n := n) (by omega) 1 1 (by decide), show (1431655765 : Int32) = nI 1431655765 from rfl, my_and, pk_sub (Nat.le_trans Nat.and_le_left (Nat.div_le_self _ _))]
  rfl
theorem bc_s2 {n : Nat} (h : n < 65536) : (nI n &&& 858993459) + (((nI n).toUInt32 >>> (Int32.toUInt32 2 &&& Int32.toUInt32 31)).toInt32 &&& 858993459) = nI (bc2 n) := by
  rw [pk_ushrN (n := n) (by omega) 2 2 (by decide), show (858993459 : Int32) = nI 858993459 from rfl, my_and, my_and, nI_add]
  rfl
theorem bc_s3 {n : Nat} (h : n < 65536) : (nI n + ((nI n).toUInt32 >>> (Int32.toUInt32 4 &&& Int32.toUInt32 31)).toInt32) &&& 252645135 = nI (bc3 n) := by
  rw [pk_ushrN (n := n) (by omega) 4 4 (by decide), nI_add, show (252645135 : Int32) = nI 252645135 from rfl, my_and]
  rfl
theorem bc_s4 {n : Nat} (h : n < 65536) : nI n + ((nI n).toUInt32 >>> (Int32.toUInt32 8 &&& Int32.toUInt32 31)).toInt32 = nI (bc4 n) := by
  rw [pk_ushrN (n := n) (by omega) 8 8 (by decide), nI_add]
  rfl
theorem bc_s5 {n : Nat} (h : n < 65536) : nI n + ((nI n).toUInt32 >>> (Int32.toUInt32 16 &&& Int32.toUInt32 31)).toInt32 = nI (bc5 n) := by
  rw [pk_ushrN (n := n) (by omega) 16 16 (by decide), nI_add]
  rfl
theorem bc_s6 (n : Nat) : nI n &&& 63 = nI (n &&& 63) := by
  rw [show (63 : Int32) = nI 63 from rfl, my_and]
def pcW : Nat → Nat → Nat
  | 0, _ => 0
  | w + 1, n => n % 2 + pcW w (n / 2)
set_option maxRecDepth 100000 in
theorem bc_pc {n : Nat} (h : n < 4096) : bcN n = pcW 12 n := co_dec (N := 4096) (P := fun n => bcN n = pcW 12 n) (by decide +kernel) h
theorem pc_le : ∀ (w n : Nat), pcW w n ≤ w
  | 0, _ => Nat.le_refl 0
  | w + 1, n => by
    have := pc_le w (n / 2)
    show n % 2 + pcW w (n / 2) ≤ w + 1
    omega
theorem pc_pos : ∀ (w n : Nat), n < 2 ^ w → n ≠ 0 → 1 ≤ pcW w n
  | 0, n, h, h0 => absurd (by simpa using h) h0
  | w + 1, n, h, h0 => by
    show 1 ≤ n % 2 + pcW w (n / 2)
    rcases Nat.mod_two_eq_zero_or_one n with h1 | h1
    · have h2 := pc_pos w (n / 2) (by rw [Nat.pow_succ] at h; omega) (by omega)
      omega
    · omega
theorem land_m (x y : Nat) : (x &&& y) % 2 = (x % 2) * (y % 2) := by
  have h := Nat.and_mod_two_pow (a := x) (b := y) (n := 1)
  simp only [Nat.pow_one] at h
  rw [h]
  rcases Nat.mod_two_eq_zero_or_one x with h1 | h1 <;> rcases Nat.mod_two_eq_zero_or_one y with h2 | h2 <;> rw [h1, h2] <;> decide
theorem land_d (x y : Nat) : (x &&& y) / 2 = x / 2 &&& y / 2 := Nat.and_div_two
theorem sub_d {p M : Nat} (h : p &&& M = p) : p / 2 &&& M / 2 = p / 2 := by rw [← land_d, h]
theorem sub_m {p M : Nat} (h : p &&& M = p) : p % 2 ≤ M % 2 := by
  have h1 := land_m p M
  rw [h] at h1
  rcases Nat.mod_two_eq_zero_or_one p with h2 | h2 <;> rcases Nat.mod_two_eq_zero_or_one M with h3 | h3 <;> rw [h2, h3] at h1 <;> omega
theorem nat_2 {a b : Nat} (h1 : a / 2 = b / 2) (h2 : a % 2 = b % 2) : a = b := by omega
/-- a part beside all that is not in the mark, cut to the mark: the part -/
theorem in_s : ∀ (w M p : Nat), M < 2 ^ w → p &&& M = p → (p + (2 ^ w - 1 - M)) &&& M = p
  | 0, M, p, h, hp => by
    have : M = 0 := by simpa using h
    subst this
    simpa using hp
  | w + 1, M, p, h, hp => by
    have hd := sub_d hp
    have hm := sub_m hp
    rw [Nat.pow_succ] at h
    have ih := in_s w (M / 2) (p / 2) (by omega) hd
    have e2 : 2 ^ (w + 1) = 2 * 2 ^ w := by rw [Nat.pow_succ]; omega
    have q1 : (p + (2 ^ (w + 1) - 1 - M)) / 2 = p / 2 + (2 ^ w - 1 - M / 2) := by omega
    have q2 : (p + (2 ^ (w + 1) - 1 - M)) % 2 = p % 2 + (1 - M % 2) := by omega
    refine nat_2 ?_ ?_
    · rw [land_d, q1, ih]
    · rw [land_m, q2]
      rcases Nat.mod_two_eq_zero_or_one p with h2 | h2 <;> rcases Nat.mod_two_eq_zero_or_one M with h3 | h3 <;> rw [h2, h3] <;> omega
def rk : Nat → Nat → Nat → Nat
  | 0, _, _ => 0
  | w + 1, p, M => if M % 2 = 1 then 2 * rk w (p / 2) (M / 2) + p % 2 else rk w (p / 2) (M / 2)
theorem rk_s (w p M : Nat) : rk (w + 1) p M = if M % 2 = 1 then 2 * rk w (p / 2) (M / 2) + p % 2 else rk w (p / 2) (M / 2) := rfl
theorem nx_s : ∀ (w c M p : Nat), M < 2 ^ w → p &&& M = p → p ≠ M → ((p + 2 ^ (w + c) - M) &&& M) &&& M = (p + 2 ^ (w + c) - M) &&& M ∧ rk w ((p + 2 ^ (w + c) - M) &&& M) M = rk w p M + 1
  | 0, c, M, p, h, hp, hne => by
    have : M = 0 := by simpa using h
    subst this
    exact absurd (by simpa using hp.symm) hne
  | w + 1, c, M, p, h, hp, hne => by
    refine ⟨by rw [Nat.and_assoc, Nat.and_self], ?_⟩
    have hd := sub_d hp
    have hm := sub_m hp
    rw [Nat.pow_succ] at h
    have hle : p ≤ M := by rw [← hp]; exact Nat.and_le_right
    have e2 : 2 ^ (w + 1 + c) = 2 * 2 ^ (w + c) := by rw [show w + 1 + c = (w + c) + 1 by omega, Nat.pow_succ]; omega
    have hb : M / 2 < 2 ^ (w + c) := Nat.lt_of_lt_of_le (by omega : M / 2 < 2 ^ w) (Nat.pow_le_pow_right (by decide) (by omega))
    rw [rk_s, rk_s, land_d, land_m]
    rcases Nat.mod_two_eq_zero_or_one M with h3 | h3
    · have h2 : p % 2 = 0 := by omega
      have ih := (nx_s w c (M / 2) (p / 2) (by omega) hd (by omega)).2
      rw [if_neg (by omega), if_neg (by omega), show (p + 2 ^ (w + 1 + c) - M) / 2 = p / 2 + 2 ^ (w + c) - M / 2 by omega]
      exact ih
    · rw [if_pos h3, if_pos h3]
      rcases Nat.mod_two_eq_zero_or_one p with h2 | h2
      · have q1 : (p + 2 ^ (w + 1 + c) - M) / 2 = p / 2 + (2 ^ (w + c) - 1 - M / 2) := by omega
        have q2 : (p + 2 ^ (w + 1 + c) - M) % 2 = 1 := by omega
        rw [q1, q2, in_s (w + c) (M / 2) (p / 2) hb hd, h3, h2]
      · have ih := (nx_s w c (M / 2) (p / 2) (by omega) hd (by omega)).2
        rw [show (p + 2 ^ (w + 1 + c) - M) / 2 = p / 2 + 2 ^ (w + c) - M / 2 by omega, ih, show (p + 2 ^ (w + 1 + c) - M) % 2 = 0 by omega, h2, h3]
        omega
theorem rk_inj : ∀ (w M p q : Nat), M < 2 ^ w → p &&& M = p → q &&& M = q → rk w p M = rk w q M → p = q
  | 0, M, p, q, h, hp, hq, _ => by
    have : M = 0 := by simpa using h
    subst this
    have h1 : p = 0 := by simpa using hp.symm
    have h2 : q = 0 := by simpa using hq.symm
    rw [h1, h2]
  | w + 1, M, p, q, h, hp, hq, he => by
    rw [Nat.pow_succ] at h
    have hm := sub_m hp
    have hn := sub_m hq
    rw [rk_s, rk_s] at he
    rcases Nat.mod_two_eq_zero_or_one M with h3 | h3
    · rw [if_neg (by omega), if_neg (by omega)] at he
      exact nat_2 (rk_inj w (M / 2) (p / 2) (q / 2) (by omega) (sub_d hp) (sub_d hq) he) (by omega)
    · rw [if_pos h3, if_pos h3] at he
      exact nat_2 (rk_inj w (M / 2) (p / 2) (q / 2) (by omega) (sub_d hp) (sub_d hq) (by omega)) (by omega)
theorem rk_0 : ∀ (w M : Nat), rk w 0 M = 0
  | 0, _ => rfl
  | w + 1, M => by
    rw [rk_s, Nat.zero_div, rk_0 w (M / 2)]
    split <;> rfl
theorem rk_M : ∀ (w M : Nat), rk w M M + 1 = 2 ^ pcW w M
  | 0, _ => rfl
  | w + 1, M => by
    have ih := rk_M w (M / 2)
    show rk (w + 1) M M + 1 = 2 ^ (M % 2 + pcW w (M / 2))
    rw [rk_s]
    rcases Nat.mod_two_eq_zero_or_one M with h3 | h3
    · rw [if_neg (by omega), h3, Nat.zero_add]
      exact ih
    · rw [if_pos h3, h3, Nat.add_comm 1, Nat.pow_succ, ← ih]
      omega
theorem rk_lt : ∀ (w M p : Nat), p &&& M = p → rk w p M < 2 ^ pcW w M
  | 0, _, _, _ => Nat.zero_lt_one
  | w + 1, M, p, hp => by
    have ih := rk_lt w (M / 2) (p / 2) (sub_d hp)
    show rk (w + 1) p M < 2 ^ (M % 2 + pcW w (M / 2))
    rw [rk_s]
    rcases Nat.mod_two_eq_zero_or_one M with h3 | h3
    · rw [if_neg (by omega), h3, Nat.zero_add]
      exact ih
    · rw [if_pos h3, h3, Nat.add_comm 1, Nat.pow_succ]
      omega
def nxt (p M : Nat) : Nat := (p + 4294967296 - M) &&& M
def pts (M : Nat) : Nat → Nat
  | 0 => 0
  | i + 1 => nxt (pts M i) M
theorem pts_ok {M : Nat} (h : M < 4096) : ∀ i, i < 2 ^ pcW 12 M → pts M i &&& M = pts M i ∧ rk 12 (pts M i) M = i
  | 0, _ => ⟨Nat.zero_and M, rk_0 12 M⟩
  | i + 1, hi => by
    obtain ⟨h1, h2⟩ := pts_ok h i (by omega)
    have hne : pts M i ≠ M := by
      intro e
      have := rk_M 12 M
      rw [← e] at this
      rw [e] at h2
      rw [e] at this
      omega
    have h3 := nx_s 12 20 M (pts M i) (by simpa using h) h1 hne
    refine ⟨h3.1, ?_⟩
    have h4 := h3.2
    rw [h2] at h4
    exact h4
theorem pts_ne {M i : Nat} (h : M < 4096) (hi : i < 2 ^ pcW 12 M) (h0 : 1 ≤ i) : pts M i ≠ 0 := by
  intro e
  have h1 := (pts_ok h i hi).2
  rw [e, rk_0] at h1
  omega
theorem pts_le {M i : Nat} (h : M < 4096) (hi : i < 2 ^ pcW 12 M) : pts M i ≤ M := by
  have h1 := (pts_ok h i hi).1
  rw [← h1]
  exact Nat.and_le_right
theorem pts_all {M d : Nat} (h : M < 4096) (hd : d &&& M = d) (h0 : d ≠ 0) : ∃ i, 1 ≤ i ∧ i < 2 ^ pcW 12 M ∧ pts M i = d := by
  have hlt := rk_lt 12 M d hd
  obtain ⟨h1, h2⟩ := pts_ok h _ hlt
  have e := rk_inj 12 M _ d (by simpa using h) h1 hd h2
  refine ⟨rk 12 d M, ?_, hlt, e⟩
  rcases Nat.eq_zero_or_pos (rk 12 d M) with hz | hz
  · have := rk_inj 12 M d 0 (by simpa using h) hd (Nat.zero_and M) (by rw [hz, rk_0])
    exact absurd this h0
  · exact hz
theorem nxt_i {p M : Nat} (hp : p < 4096) (hM : M < 4096) : (nI p - nI M) &&& nI M = nI (nxt p M) := by
  apply Int32.toBitVec_inj.mp
  rw [Int32.toBitVec_and, Int32.toBitVec_sub]
  show (BitVec.ofNat 32 p - BitVec.ofNat 32 M) &&& BitVec.ofNat 32 M = BitVec.ofNat 32 ((p + 4294967296 - M) &&& M)
  apply BitVec.eq_of_toNat_eq
  rw [BitVec.toNat_and, BitVec.toNat_sub, BitVec.toNat_ofNat, BitVec.toNat_ofNat, BitVec.toNat_ofNat]
  have e1 : p % 2 ^ 32 = p := Nat.mod_eq_of_lt (by omega)
  have e2 : M % 2 ^ 32 = M := Nat.mod_eq_of_lt (by omega)
  rw [e1, e2]
  have hl : ((p + 4294967296 - M) &&& M) ≤ M := Nat.and_le_right
  rw [Nat.mod_eq_of_lt (a := (p + 4294967296 - M) &&& M) (by omega)]
  have e3 : M = M % 2 ^ 32 := e2.symm
  rw [show 2 ^ 32 - M + p = p + 4294967296 - M by omega]
  rcases Nat.lt_or_ge p M with h | h
  · rw [Nat.mod_eq_of_lt (by omega)]
  · have h4 : (p + 4294967296 - M) % 2 ^ 32 &&& M = ((p + 4294967296 - M) &&& M) % 2 ^ 32 := by
      rw [Nat.and_mod_two_pow, e2]
    rw [h4, Nat.mod_eq_of_lt (by omega)]
/-- bits counted by clearing the lowest -/
def bF : Nat → Nat → Nat
  | 0, _ => 0
  | f + 1, n => if n = 0 then 0 else 1 + bF f (n &&& (n - 1))
theorem bF_le : ∀ (f n : Nat), bF f n ≤ f
  | 0, _ => Nat.le_refl 0
  | f + 1, n => by
    have := bF_le f (n &&& (n - 1))
    show (if n = 0 then 0 else 1 + bF f (n &&& (n - 1))) ≤ f + 1
    split <;> omega
theorem bF_0 : ∀ f : Nat, bF f 0 = 0
  | 0 => rfl
  | f + 1 => rfl
theorem bF_pos {f n : Nat} (h : n ≠ 0) : 1 ≤ bF (f + 1) n := by
  show 1 ≤ (if n = 0 then 0 else 1 + bF f (n &&& (n - 1)))
  rw [if_neg h]
  omega
/-- one more number to count does no harm: enough is enough -/
theorem bF_more : ∀ (f n : Nat), n ≤ f → bF (f + 1) n = bF f n
  | 0, n, h => by
    have : n = 0 := by omega
    subst this
    rfl
  | f + 1, n, h => by
    show (if n = 0 then 0 else 1 + bF (f + 1) (n &&& (n - 1))) = (if n = 0 then 0 else 1 + bF f (n &&& (n - 1)))
    split
    · rfl
    · have hl : n &&& (n - 1) ≤ n - 1 := Nat.and_le_right
      rw [bF_more f _ (by omega)]
theorem and_pred {n : Nat} (h : n < 4096) (h0 : n ≠ 0) : nI n &&& (nI n - 1) = nI (n &&& (n - 1)) := by
  rw [show nI n - 1 = nI (n - 1) from by rw [show (1 : Int32) = nI 1 from rfl, pk_sub (by omega)], my_and]

set_option maxHeartbeats 4000000 in
set_option maxRecDepth 100000 in
theorem kc_bitCount {l : Launch} {D : va_G} {k : Nat → ClassId} {ws : va_W} {p0 : Int} (hp0 : 0 ≤ p0 ∧ p0 ≤ 4095) : MetG l D k yJ6_bitCount_0f7a4 cJ6_bitCount_0f7a4 1 (some .int) 0 [.int (mI p0)] ws (qGi (fun r0 H => (0 ≤ r0 ∧ r0 ≤ 12) ∧ va_P D vwCl ws H)) := by
  obtain ⟨n, rfl⟩ : ∃ n : Nat, p0 = n := ⟨p0.toNat, by omega⟩
  have hn : n < 4096 := by omega
  rw [mI_nat]
  refine metG_of 1 ck_J6_bitCount_0f7a4 (Nat.le_of_ble_eq_true rfl) rfl (fun p e s m args below meth c A hx hb hml hr hlocks hown hts hK hD hA hP hS ls hl => ?_)
  have hown : s.vm.findClass "java/lang/Integer" = some m.cls := hown
  have hl : lv_has ls 1 [(0, .int (nI n))] := hl
  have q1 := bc1_le n
  have q2 := bc2_le (bc1 n)
  have q3 := bc3_le (bc2 (bc1 n))
  have q4 : bc4 (bc3 (bc2 (bc1 n))) = bc3 (bc2 (bc1 n)) + bc3 (bc2 (bc1 n)) / 256 := rfl
  refine lv_iload_n hx hb dJ6_bitCount_0f7a4_0 rfl (lv_at hl 0 rfl) ?_
  refine lv_iload_n hx hb dJ6_bitCount_0f7a4_1 rfl (lv_at hl 0 rfl) ?_
  refine lv_iconst (v := 1) hx hb dJ6_bitCount_0f7a4_2 (by decide) ?_
  refine lv_iushr hx hb dJ6_bitCount_0f7a4_3 rfl ?_
  refine lv_ldcw (own := "java/lang/Integer") (v := 1431655765) hx hb hown (hts _ uw_4_142) dJ6_bitCount_0f7a4_4 ?_
  refine lv_iand hx hb dJ6_bitCount_0f7a4_7 ?_
  refine lv_isub hx hb dJ6_bitCount_0f7a4_8 ?_
  refine lv_topc (nI (bc1 n)) (bc_s1 (by omega)) ?_
  refine lv_istore_n (lv' := [(0, .int (nI (bc1 n)))]) hx hb dJ6_bitCount_0f7a4_9 rfl hl (by decide) rfl (fun ls hl => ?_)
  refine lv_iload_n hx hb dJ6_bitCount_0f7a4_10 rfl (lv_at hl 0 rfl) ?_
  refine lv_ldcw (own := "java/lang/Integer") (v := 858993459) hx hb hown (hts _ uw_4_143) dJ6_bitCount_0f7a4_11 ?_
  refine lv_iand hx hb dJ6_bitCount_0f7a4_14 ?_
  refine lv_iload_n hx hb dJ6_bitCount_0f7a4_15 rfl (lv_at hl 0 rfl) ?_
  refine lv_iconst (v := 2) hx hb dJ6_bitCount_0f7a4_16 (by decide) ?_
  refine lv_iushr hx hb dJ6_bitCount_0f7a4_17 rfl ?_
  refine lv_ldcw (own := "java/lang/Integer") (v := 858993459) hx hb hown (hts _ uw_4_143) dJ6_bitCount_0f7a4_18 ?_
  refine lv_iand hx hb dJ6_bitCount_0f7a4_21 ?_
  refine lv_iadd hx hb dJ6_bitCount_0f7a4_22 ?_
  refine lv_topc (nI (bc2 (bc1 n))) (bc_s2 (by omega)) ?_
  refine lv_istore_n (lv' := [(0, .int (nI (bc2 (bc1 n))))]) hx hb dJ6_bitCount_0f7a4_23 rfl hl (by decide) rfl (fun ls hl => ?_)
  refine lv_iload_n hx hb dJ6_bitCount_0f7a4_24 rfl (lv_at hl 0 rfl) ?_
  refine lv_iload_n hx hb dJ6_bitCount_0f7a4_25 rfl (lv_at hl 0 rfl) ?_
  refine lv_iconst (v := 4) hx hb dJ6_bitCount_0f7a4_26 (by decide) ?_
  refine lv_iushr hx hb dJ6_bitCount_0f7a4_27 rfl ?_
  refine lv_iadd hx hb dJ6_bitCount_0f7a4_28 ?_
  refine lv_ldcw (own := "java/lang/Integer") (v := 252645135) hx hb hown (hts _ uw_4_144) dJ6_bitCount_0f7a4_29 ?_
  refine lv_iand hx hb dJ6_bitCount_0f7a4_32 ?_
  refine lv_topc (nI (bc3 (bc2 (bc1 n)))) (bc_s3 (by omega)) ?_
  refine lv_istore_n (lv' := [(0, .int (nI (bc3 (bc2 (bc1 n)))))]) hx hb dJ6_bitCount_0f7a4_33 rfl hl (by decide) rfl (fun ls hl => ?_)
  refine lv_iload_n hx hb dJ6_bitCount_0f7a4_34 rfl (lv_at hl 0 rfl) ?_
  refine lv_iload_n hx hb dJ6_bitCount_0f7a4_35 rfl (lv_at hl 0 rfl) ?_
  refine lv_bipush (v := 8) hx hb dJ6_bitCount_0f7a4_36 (by decide) ?_
  refine lv_iushr hx hb dJ6_bitCount_0f7a4_38 rfl ?_
  refine lv_iadd hx hb dJ6_bitCount_0f7a4_39 ?_
  refine lv_topc (nI (bc4 (bc3 (bc2 (bc1 n))))) (bc_s4 (by omega)) ?_
  refine lv_istore_n (lv' := [(0, .int (nI (bc4 (bc3 (bc2 (bc1 n))))))]) hx hb dJ6_bitCount_0f7a4_40 rfl hl (by decide) rfl (fun ls hl => ?_)
  refine lv_iload_n hx hb dJ6_bitCount_0f7a4_41 rfl (lv_at hl 0 rfl) ?_
  refine lv_iload_n hx hb dJ6_bitCount_0f7a4_42 rfl (lv_at hl 0 rfl) ?_
  refine lv_bipush (v := 16) hx hb dJ6_bitCount_0f7a4_43 (by decide) ?_
  refine lv_iushr hx hb dJ6_bitCount_0f7a4_45 rfl ?_
  refine lv_iadd hx hb dJ6_bitCount_0f7a4_46 ?_
  refine lv_topc (nI (bc5 (bc4 (bc3 (bc2 (bc1 n)))))) (bc_s5 (by omega)) ?_
  refine lv_istore_n (lv' := [(0, .int (nI (bc5 (bc4 (bc3 (bc2 (bc1 n)))))))]) hx hb dJ6_bitCount_0f7a4_47 rfl hl (by decide) rfl (fun ls hl => ?_)
  refine lv_iload_n hx hb dJ6_bitCount_0f7a4_48 rfl (lv_at hl 0 rfl) ?_
  refine lv_bipush (v := 63) hx hb dJ6_bitCount_0f7a4_49 (by decide) ?_
  refine lv_iand hx hb dJ6_bitCount_0f7a4_51 ?_
  refine lv_topc (nI (bcN n)) (bc_s6 _) ?_
  have q5 := bc_pc hn
  have q6 := pc_le 12 n
  rw [show nI (bcN n) = mI ((bcN n : Nat) : Int) from (mI_nat _).symm]
  exact r_i hx hb hr hlocks dJ6_bitCount_0f7a4_52 hS ⟨by omega, hP⟩
section SY4
variable {p : Program} {l : Launch} {e : Env} {R : Room} {s : State} {m : MethodId} {args : Array Value} {below : List Frame} {meth : Method} {c : Code} {H : Heap} {locs : List Loc} {cells slots : Nat} {Q : State → Prop}
variable {cc : ByteArray} {pc : Nat} {ls : Array Slot} {rest : List Value} {a b : Int} {own : String} {index : Nat}
theorem sy_min (hx : p.tables.exec = Jvm.exec) (hb : c.code = cc) (hml : c.maxLocals = ls.size) (hown : s.vm.findClass own = some m.cls) (hts : ∀ w ∈ UT, w.before args s = true) (hl : Cond.methodLink own index Lib.Math.min.name ∈ UT) (hf : 1 ≤ R.frames) (hlo : (rest.map fun v => v.category).sum + 13 ≤ R.locals) (hc : cells ≤ R.cells) (hs : slots ≤ R.slots) (hdg : decode cc pc = .ok (.invokestatic index, 3)) (ra : -2147483648 ≤ a ∧ a ≤ 2147483647) (rb : -2147483648 ≤ b ∧ b ≤ 2147483647) (k : ∀ z : Int, (z ≤ a ∧ z ≤ b) ∧ (z = a ∨ z = b) → W p l e R s m args below meth c H locs cells slots Q (F0 m (pc + 3) ls (.int (mI z) :: rest))) : W p l e R s m args below meth c H locs cells slots Q (F0 m pc ls (.int (mI b) :: .int (mI a) :: rest)) := by
  refine va_mmin hx hb hml hown (hts _ hl) (hts _ uw_3_115) (hts _ uw_1_18) (hts _ uw_3_116) hf hlo hc hs hdg ?_
  by_cases h : mI b < mI a
  · rw [if_pos h]
    have h2 := (mI_lt rb ra).mp h
    exact k b (by omega)
  · rw [if_neg h]
    have h2 : ¬ b < a := fun q => h ((mI_lt rb ra).mpr q)
    exact k a (by omega)
theorem sy_max (hx : p.tables.exec = Jvm.exec) (hb : c.code = cc) (hml : c.maxLocals = ls.size) (hown : s.vm.findClass own = some m.cls) (hts : ∀ w ∈ UT, w.before args s = true) (hl : Cond.methodLink own index Lib.Math.max.name ∈ UT) (hf : 1 ≤ R.frames) (hlo : (rest.map fun v => v.category).sum + 13 ≤ R.locals) (hc : cells ≤ R.cells) (hs : slots ≤ R.slots) (hdg : decode cc pc = .ok (.invokestatic index, 3)) (ra : -2147483648 ≤ a ∧ a ≤ 2147483647) (rb : -2147483648 ≤ b ∧ b ≤ 2147483647) (k : ∀ z : Int, (a ≤ z ∧ b ≤ z) ∧ (z = a ∨ z = b) → W p l e R s m args below meth c H locs cells slots Q (F0 m (pc + 3) ls (.int (mI z) :: rest))) : W p l e R s m args below meth c H locs cells slots Q (F0 m pc ls (.int (mI b) :: .int (mI a) :: rest)) := by
  refine va_mmax hx hb hml hown (hts _ hl) (hts _ uw_3_112) (hts _ uw_1_18) (hts _ uw_3_113) hf hlo hc hs hdg ?_
  by_cases h : mI a < mI b
  · rw [if_pos h]
    have h2 := (mI_lt ra rb).mp h
    exact k b (by omega)
  · rw [if_neg h]
    have h2 : ¬ a < b := fun q => h ((mI_lt ra rb).mpr q)
    exact k a (by omega)
end SY4
/-! ===== what is told: the brands of the herds, the homes of the beasts ===== -/
def tI (herds beasts : Int) (br ho : Nat → Int) : Prop := (∀ j : Nat, (j : Int) < herds → 0 ≤ br j ∧ br j ≤ 4095) ∧ ∀ j : Nat, (j : Int) < beasts → 0 ≤ ho j ∧ ho j < herds
theorem tI_b {herds beasts : Int} {br ho : Nat → Int} (h : tI herds beasts br ho) {i z : Int} (hi : 0 ≤ i ∧ i < herds) (e : br i.toNat = z) : 0 ≤ z ∧ z ≤ 4095 := by
  have q := h.1 i.toNat (by omega)
  rw [e] at q
  exact q
theorem tI_h {herds beasts : Int} {br ho : Nat → Int} (h : tI herds beasts br ho) {i z : Int} (hi : 0 ≤ i ∧ i < beasts) (e : ho i.toNat = z) : 0 ≤ z ∧ z < herds := by
  have q := h.2 i.toNat (by omega)
  rw [e] at q
  exact q
def bU (n : Int) (F : Nat → Int) : Prop := ∀ j : Nat, (j : Int) < n → 1 ≤ F j
theorem bU_l {n : Int} {F : Nat → Int} (h : bU n F) {i z : Int} (hi : 0 ≤ i ∧ i < n) (e : F i.toNat = z) : 1 ≤ z := by
  have q := h i.toNat (by omega)
  rw [e] at q
  exact q
theorem bU_s {n v : Int} {F F2 : Nat → Int} (h : bU n F) (e : F2 = ud F n.toNat v) (hn : 0 ≤ n) (hv : 1 ≤ v) : bU (n + 1) F2 := by
  subst e
  intro j hj
  by_cases q : j = n.toNat
  · subst q
    rw [ud_s]
    exact hv
  · rw [ud_n _ _ q]
    exact h j (by omega)
theorem bU_0 (F : Nat → Int) : bU 0 F := fun j h => absurd h (by omega)
