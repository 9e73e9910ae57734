/-! ===== rows of many sorts of numbers: hides, owners, ages, season, seed ===== -/
def cA (j : Nat) : Int := if j < 8 then 4095 else if j < 16 then 7 else if j = 112 then 2147483647 else 999
def lA (j : Nat) : Int := if j = 112 then -2147483648 else 0
theorem cA_le (j : Nat) : cA j ≤ 2147483647 := by
  unfold cA
  repeat' split
  all_goals decide
theorem cA_ge (j : Nat) : 7 ≤ cA j := by
  unfold cA
  repeat' split
  all_goals decide
theorem lA_le (j : Nat) : lA j ≤ 0 := by
  unfold lA
  split <;> decide
theorem lA_ge (j : Nat) : -2147483648 ≤ lA j := by
  unfold lA
  split <;> decide
def bA (F : Nat → Int) : Prop := ∀ j, lA (j % 114) ≤ F j ∧ F j ≤ cA (j % 114)
theorem bA_bd {F : Nat → Int} (h : bA F) : bd (-2147483648) 2147483647 F := fun j => ⟨Int.le_trans (lA_ge _) (h j).1, Int.le_trans (h j).2 (cA_le _)⟩
theorem bA_hid {F : Nat → Int} (h : bA F) {i z : Int} (hi : 0 ≤ i ∧ i < 8) (e : F i.toNat = z) : 0 ≤ z ∧ z ≤ 4095 := by
  have q := h i.toNat
  rw [e, Nat.mod_eq_of_lt (by omega)] at q
  unfold cA lA at q
  rw [if_neg (by omega), if_pos (by omega)] at q
  exact q
theorem bA_own {F : Nat → Int} (h : bA F) {i z : Int} (hi : 8 ≤ i ∧ i < 16) (e : F i.toNat = z) : 0 ≤ z ∧ z ≤ 7 := by
  have q := h i.toNat
  rw [e, Nat.mod_eq_of_lt (by omega)] at q
  unfold cA lA at q
  rw [if_neg (by omega), if_neg (by omega), if_pos (by omega)] at q
  exact q
theorem bA_age {F : Nat → Int} (h : bA F) {i z : Int} (hi : (16 ≤ i ∧ i < 112) ∨ i = 113) (e : F i.toNat = z) : 0 ≤ z ∧ z ≤ 999 := by
  have q := h i.toNat
  rw [e, Nat.mod_eq_of_lt (by omega)] at q
  unfold cA lA at q
  rw [if_neg (by omega), if_neg (by omega), if_neg (by omega), if_neg (by omega)] at q
  exact q
theorem bA_ud {F F2 : Nat → Int} (h : bA F) {k : Nat} {v : Int} (e : F2 = ud F k v) (hv : lA (k % 114) ≤ v ∧ v ≤ cA (k % 114)) : bA F2 := by
  subst e
  intro j
  unfold ud
  split
  · rename_i q
    subst q
    exact hv
  · exact h j
theorem bA_s7 {F F2 : Nat → Int} (h : bA F) {i v : Int} (e : F2 = ud F i.toNat v) (hv : 0 ≤ v ∧ v ≤ 7) : bA F2 := bA_ud h e ⟨Int.le_trans (lA_le _) hv.1, Int.le_trans hv.2 (cA_ge _)⟩
theorem bA_s999 {F F2 : Nat → Int} (h : bA F) {i v : Int} (e : F2 = ud F i.toNat v) (hi : (16 ≤ i ∧ i < 112) ∨ i = 113) (hv : 0 ≤ v ∧ v ≤ 999) : bA F2 := bA_ud h e (by
  rw [Nat.mod_eq_of_lt (by omega)]
  unfold cA lA
  rw [if_neg (by omega), if_neg (by omega), if_neg (by omega), if_neg (by omega)]
  exact hv)
theorem bA_s112 {F F2 : Nat → Int} (h : bA F) {i v : Int} (e : F2 = ud F i.toNat v) (hi : i = 112) (hv : -2147483648 ≤ v ∧ v ≤ 2147483647) : bA F2 := bA_ud h e (by
  subst hi
  exact hv)
theorem bA_s4095 {F F2 : Nat → Int} (h : bA F) {i v : Int} (e : F2 = ud F i.toNat v) (hi : 0 ≤ i ∧ i < 8) (hv : 0 ≤ v ∧ v ≤ 4095) : bA F2 := bA_ud h e (by
  rw [Nat.mod_eq_of_lt (by omega)]
  unfold cA lA
  rw [if_neg (by omega), if_pos (by omega)]
  exact hv)
theorem bA_cp {F F2 G : Nat → Int} (h : bA F) (hG : bA G) {i j z : Int} (e : F2 = ud F i.toNat z) (ez : G j.toNat = z) (hi : 0 ≤ i) (hj : 0 ≤ j) (hm : i % 114 = j % 114) : bA F2 := bA_ud h e (by
  have q := hG j.toNat
  rw [ez] at q
  have e2 : i.toNat % 114 = j.toNat % 114 := by omega
  rw [e2]
  exact q)
theorem bA_0 : bA (fun _ => 0) := fun j => ⟨lA_le _, Int.le_trans (show (0 : Int) ≤ 7 by decide) (cA_ge _)⟩
