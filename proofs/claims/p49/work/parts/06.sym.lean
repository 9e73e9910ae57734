/-! ===== whole numbers behind ints ===== -/
def mI (z : Int) : Int32 := Int32.ofInt z
theorem mI_bmod {z : Int} (h1 : -2147483648 ≤ z) (h2 : z < 2147483648) : z.bmod (2 ^ 32) = z := by
  rw [Int.bmod_eq_of_le (by omega) (by omega)]
theorem mI_t {z : Int} (h : -2147483648 ≤ z ∧ z ≤ 2147483647) : (mI z).toInt = z := by
  show (Int32.ofInt z).toInt = z
  rw [Int32.toInt_ofInt, mI_bmod h.1 (by omega)]
theorem mI_as (x : Int32) : mI x.toInt = x := Int32.ofInt_toInt x
theorem mI_rng (x : Int32) : -2147483648 ≤ x.toInt ∧ x.toInt ≤ 2147483647 := by
  have h1 := Int32.le_toInt x
  have h2 := Int32.toInt_lt x
  omega
theorem mI_of (x : Int32) : ∃ z : Int, x = mI z ∧ (-2147483648 ≤ z ∧ z ≤ 2147483647) := ⟨x.toInt, (mI_as x).symm, mI_rng x⟩
theorem mI_add (a b : Int) : mI a + mI b = mI (a + b) := (Int32.ofInt_add a b).symm
theorem mI_sub (a b : Int) : mI a - mI b = mI (a - b) := (Int32.ofInt_sub a b).symm
theorem mI_mul (a b : Int) : mI a * mI b = mI (a * b) := (Int32.ofInt_mul a b).symm
theorem mI_neg (a : Int) : -mI a = mI (-a) := (Int32.ofInt_neg a).symm
theorem mI_lt {a b : Int} (ha : -2147483648 ≤ a ∧ a ≤ 2147483647) (hb : -2147483648 ≤ b ∧ b ≤ 2147483647) : mI a < mI b ↔ a < b := by
  rw [Int32.lt_iff_toInt_lt, mI_t ha, mI_t hb]
theorem mI_le {a b : Int} (ha : -2147483648 ≤ a ∧ a ≤ 2147483647) (hb : -2147483648 ≤ b ∧ b ≤ 2147483647) : mI a ≤ mI b ↔ a ≤ b := by
  rw [Int32.le_iff_toInt_le, mI_t ha, mI_t hb]
theorem mI_eq {a b : Int} (ha : -2147483648 ≤ a ∧ a ≤ 2147483647) (hb : -2147483648 ≤ b ∧ b ≤ 2147483647) : mI a = mI b ↔ a = b := by
  rw [← Int32.toInt_inj, mI_t ha, mI_t hb]
theorem mI_n {a : Int} (h : 0 ≤ a ∧ a ≤ 2147483647) : mI a = nI a.toNat := by
  rw [← Int32.toInt_inj, mI_t (by omega), nI_toInt (by omega)]
  omega
theorem mI_nat (n : Nat) : mI (n : Int) = nI n := Int32.ofInt_eq_ofNat
theorem mI_cl {a : Int} (h : 0 ≤ a ∧ a ≤ 2147483647) : (mI a).toNatClampNeg = a.toNat := by
  rw [mI_n h, nI_clamp (by omega)]
theorem mI_in {a : Int} {n : Nat} (h0 : 0 ≤ a) (h : a < (n : Int)) (hn : n < 2 ^ 31) : vp_in (mI a) n := by
  rw [mI_n (by omega)]
  exact nI_in (by omega) hn
theorem mI_0 : (0 : Int32) = mI 0 := rfl
def bd (lo hi : Int) (F : Nat → Int) : Prop := ∀ j, lo ≤ F j ∧ F j ≤ hi
def ud (F : Nat → Int) (k : Nat) (v : Int) : Nat → Int := fun j => if j = k then v else F j
theorem ud_bd {lo hi : Int} {F : Nat → Int} (h : bd lo hi F) (k : Nat) {v : Int} (hv : lo ≤ v ∧ v ≤ hi) : bd lo hi (ud F k v) := by
  intro j
  unfold ud
  split
  · exact hv
  · exact h j
theorem ud_m (F : Nat → Int) (k : Nat) (v : Int) : upd (fun j => mI (F j)) k (mI v) = fun j => mI (ud F k v j) := by
  funext j
  unfold upd ud
  by_cases h : j = k <;> simp [h]
theorem ud_s (F : Nat → Int) (k : Nat) (v : Int) : ud F k v k = v := by simp [ud]
theorem ud_n (F : Nat → Int) {k j : Nat} (v : Int) (h : j ≠ k) : ud F k v j = F j := by simp [ud, h]
theorem bd_0 {lo hi : Int} (h : lo ≤ 0 ∧ 0 ≤ hi) : bd lo hi (fun _ => 0) := fun _ => h
theorem bd_w {lo hi lo' hi' : Int} {F : Nat → Int} (h : bd lo hi F) (h1 : lo' ≤ lo) (h2 : hi ≤ hi') : bd lo' hi' F := fun j => ⟨Int.le_trans h1 (h j).1, Int.le_trans (h j).2 h2⟩
/-- bits -/
theorem mI_andL {a b : Int} (ha : 0 ≤ a ∧ a ≤ 2147483647) : ∃ z : Int, mI a &&& mI b = mI z ∧ 0 ≤ z ∧ z ≤ a := by
  obtain ⟨n, rfl⟩ : ∃ n : Nat, a = n := ⟨a.toNat, by omega⟩
  refine ⟨((n &&& (mI b).toBitVec.toNat : Nat) : Int), ?_, by omega, ?_⟩
  · apply Int32.toBitVec_inj.mp
    apply BitVec.eq_of_toNat_eq
    rw [mI_nat, mI_nat, Int32.toBitVec_and, BitVec.toNat_and, pk_tn (by omega), pk_tn]
    exact Nat.lt_of_le_of_lt Nat.and_le_left (by omega)
  · have : n &&& (mI b).toBitVec.toNat ≤ n := Nat.and_le_left
    omega
theorem mI_andR {a b : Int} (hb : 0 ≤ b ∧ b ≤ 2147483647) : ∃ z : Int, mI a &&& mI b = mI z ∧ 0 ≤ z ∧ z ≤ b := by
  obtain ⟨z, h, h2⟩ := mI_andL (b := a) hb
  exact ⟨z, by rw [Int32.and_comm]; exact h, h2⟩
theorem mI_or {a b : Int} (k : Nat) (hk : k ≤ 30) (ha : 0 ≤ a ∧ a < 2 ^ k) (hb : 0 ≤ b ∧ b < 2 ^ k) : ∃ z : Int, mI a ||| mI b = mI z ∧ 0 ≤ z ∧ z < 2 ^ k := by
  obtain ⟨n, rfl⟩ : ∃ n : Nat, a = n := ⟨a.toNat, by omega⟩
  obtain ⟨o, rfl⟩ : ∃ n : Nat, b = n := ⟨b.toNat, by omega⟩
  have e : ((2 ^ k : Nat) : Int) = (2 : Int) ^ k := by simp
  have h31 : 2 ^ k ≤ 2 ^ 30 := Nat.pow_le_pow_right (by omega) hk
  have h3 : n < 2 ^ k := by omega
  have h4 : o < 2 ^ k := by omega
  have h5 : n ||| o < 2 ^ k := Nat.or_lt_two_pow h3 h4
  refine ⟨((n ||| o : Nat) : Int), ?_, by omega, by omega⟩
  apply Int32.toBitVec_inj.mp
  apply BitVec.eq_of_toNat_eq
  rw [mI_nat, mI_nat, mI_nat, Int32.toBitVec_or, BitVec.toNat_or, pk_tn (by omega), pk_tn (by omega), pk_tn (by omega)]
theorem mI_xor {a b : Int} (k : Nat) (hk : k ≤ 30) (ha : 0 ≤ a ∧ a < 2 ^ k) (hb : 0 ≤ b ∧ b < 2 ^ k) : ∃ z : Int, mI a ^^^ mI b = mI z ∧ 0 ≤ z ∧ z < 2 ^ k := by
  obtain ⟨n, rfl⟩ : ∃ n : Nat, a = n := ⟨a.toNat, by omega⟩
  obtain ⟨o, rfl⟩ : ∃ n : Nat, b = n := ⟨b.toNat, by omega⟩
  have e : ((2 ^ k : Nat) : Int) = (2 : Int) ^ k := by simp
  have h31 : 2 ^ k ≤ 2 ^ 30 := Nat.pow_le_pow_right (by omega) hk
  have h3 : n < 2 ^ k := by omega
  have h4 : o < 2 ^ k := by omega
  have h5 : n ^^^ o < 2 ^ k := Nat.xor_lt_two_pow h3 h4
  refine ⟨((n ^^^ o : Nat) : Int), ?_, by omega, by omega⟩
  apply Int32.toBitVec_inj.mp
  apply BitVec.eq_of_toNat_eq
  rw [mI_nat, mI_nat, mI_nat, Int32.toBitVec_xor, BitVec.toNat_xor, pk_tn (by omega), pk_tn (by omega), pk_tn (by omega)]
theorem mI_shl1 {s : Int} {k : Nat} (hk : k ≤ 30) (hs : 0 ≤ s ∧ s ≤ k) : ∃ z : Int, mI 1 <<< (mI s &&& 31) = mI z ∧ 1 ≤ z ∧ z ≤ 2 ^ k ∧ z = 2 ^ s.toNat := by
  obtain ⟨n, rfl⟩ : ∃ n : Nat, s = n := ⟨s.toNat, by omega⟩
  have h1 := (by decide +kernel : ∀ n, n < 31 → mI 1 <<< (nI n &&& 31) = nI (2 ^ n)) n (by omega)
  have e : ((2 ^ n : Nat) : Int) = (2 : Int) ^ n := by simp
  have e2 : ((2 ^ k : Nat) : Int) = (2 : Int) ^ k := by simp
  have h2 : 2 ^ n ≤ 2 ^ k := Nat.pow_le_pow_right (by omega) (by omega)
  have h3 : 1 ≤ 2 ^ n := Nat.one_le_two_pow
  refine ⟨((2 ^ n : Nat) : Int), by rw [mI_nat, mI_nat]; exact h1, by omega, by omega, by rw [e]; rfl⟩
theorem mI_shr {a : Int} (s : Int32) (k : Nat) (hs : (s.toBitVec.smod 32).toNat = k) (ha : 0 ≤ a ∧ a ≤ 2147483647) : mI a >>> s = mI (a / 2 ^ k) := by
  obtain ⟨n, rfl⟩ : ∃ n : Nat, a = n := ⟨a.toNat, by omega⟩
  have e : (n : Int) / (2 : Int) ^ k = ((n / 2 ^ k : Nat) : Int) := by simp
  rw [e, mI_nat, mI_nat]
  exact pk_shrN (by omega) s k hs
theorem mI_div {a b : Int} (ha : 0 ≤ a ∧ a ≤ 2147483647) (hb : 0 < b ∧ b ≤ 2147483647) : mI a / mI b = mI (a / b) := by
  obtain ⟨n, rfl⟩ : ∃ n : Nat, a = n := ⟨a.toNat, by omega⟩
  obtain ⟨o, rfl⟩ : ∃ n : Nat, b = n := ⟨b.toNat, by omega⟩
  have e : (n : Int) / (o : Int) = ((n / o : Nat) : Int) := by simp
  rw [e, mI_nat, mI_nat, mI_nat]
  exact pk_div (by omega) (by omega) (by omega)
theorem mI_rem {a b : Int} (ha : 0 ≤ a ∧ a ≤ 2147483647) (hb : 0 < b ∧ b ≤ 2147483647) : mI a - mI a / mI b * mI b = mI (a % b) := by
  obtain ⟨n, rfl⟩ : ∃ n : Nat, a = n := ⟨a.toNat, by omega⟩
  obtain ⟨o, rfl⟩ : ∃ n : Nat, b = n := ⟨b.toNat, by omega⟩
  have e : (n : Int) % (o : Int) = ((n % o : Nat) : Int) := by simp
  rw [e, mI_nat, mI_nat, mI_nat]
  exact pk_rem (by omega) (by omega) (by omega)
theorem mI_ne0 {a : Int} (ha : -2147483648 ≤ a ∧ a ≤ 2147483647) (h : ¬ a = 0) : ¬ mI a = 0 := fun q => h ((mI_eq ha (by decide)).mp q)
theorem mI_bool {v : Int} (h : 0 ≤ v ∧ v ≤ 1) : narrow .boolean (.int (mI v)) = .int (mI v) := by
  rcases (by omega : v = 0 ∨ v = 1) with rfl | rfl <;> decide +kernel
theorem mI_boolN {v : Int} (h : 0 ≤ v ∧ v ≤ 1) : vp_nar .boolean (mI v) = mI v := by
  rcases (by omega : v = 0 ∨ v = 1) with rfl | rfl <;> decide +kernel
theorem mI_boolF {v : Int} (h : 0 ≤ v ∧ v ≤ 1) : fits .boolean (.int (mI v)) = true := by
  rcases (by omega : v = 0 ∨ v = 1) with rfl | rfl <;> decide +kernel
theorem mI_byteR (x : Int32) : -128 ≤ x.toInt8.toInt32.toInt ∧ x.toInt8.toInt32.toInt ≤ 127 := by
  have h1 := Int8.le_toInt x.toInt8
  have h2 := Int8.toInt_lt x.toInt8
  rw [Int8.toInt_toInt32]
  omega
theorem mI_byte (x : Int32) : ∃ z : Int, x.toInt8.toInt32 = mI z ∧ -128 ≤ z ∧ z ≤ 127 := ⟨_, (mI_as _).symm, mI_byteR x⟩
theorem mI_mulB {a b A B : Int} (ha : 0 ≤ a ∧ a ≤ A) (hb : 0 ≤ b ∧ b ≤ B) : 0 ≤ a * b ∧ a * b ≤ A * B := ⟨Int.mul_nonneg ha.1 hb.1, Int.mul_le_mul ha.2 hb.2 hb.1 (by omega)⟩
theorem mI_divB {a b : Int} (ha : 0 ≤ a) (hb : 0 < b) : 0 ≤ a / b ∧ a / b ≤ a := ⟨Int.ediv_nonneg ha (by omega), by
  have h1 : 0 ≤ a / b := Int.ediv_nonneg ha (by omega)
  have h2 := Int.mul_ediv_add_emod a b
  have h3 := Int.emod_nonneg a (show b ≠ 0 by omega)
  have h4 : 1 * (a / b) ≤ b * (a / b) := Int.mul_le_mul_of_nonneg_right (by omega) h1
  omega⟩
theorem mI_remB {a b : Int} (ha : 0 ≤ a) (hb : 0 < b) : 0 ≤ a % b ∧ a % b < b ∧ a % b ≤ a := ⟨Int.emod_nonneg a (by omega), Int.emod_lt_of_pos a hb, by
  have h1 : 0 ≤ a / b := Int.ediv_nonneg ha (by omega)
  have h2 := Int.mul_ediv_add_emod a b
  have h4 : 0 ≤ b * (a / b) := Int.mul_nonneg (by omega) h1
  omega⟩
