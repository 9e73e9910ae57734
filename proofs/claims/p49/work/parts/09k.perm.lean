/-! ===== heights: no more than there are herds ===== -/
theorem pig : ∀ (k : Nat) (f : Nat → Nat), (∀ i, i < k + 1 → f i < k) → ∃ i j, i < j ∧ j < k + 1 ∧ f i = f j := by
  intro k
  induction k with
  | zero => intro f h; exact absurd (h 0 (by omega)) (by omega)
  | succ k ih =>
    intro f h
    by_cases hc : ∃ i, i < k + 1 ∧ f i = f (k + 1)
    · obtain ⟨i, h1, h2⟩ := hc
      exact ⟨i, k + 1, by omega, by omega, h2⟩
    · have hc2 : ∀ i, i < k + 1 → ¬ f i = f (k + 1) := fun i h1 h2 => hc ⟨i, h1, h2⟩
      obtain ⟨i, j, h1, h2, h3⟩ := ih (fun i => if f i = k then f (k + 1) else f i) (fun i hi => by
        have a1 := h i (by omega)
        have a2 := h (k + 1) (by omega)
        have a3 := hc2 i hi
        show (if f i = k then f (k + 1) else f i) < k
        split <;> omega)
      have a1 := hc2 i (by omega)
      have a2 := hc2 j (by omega)
      refine ⟨i, j, h1, by omega, ?_⟩
      have h3 : (if f i = k then f (k + 1) else f i) = (if f j = k then f (k + 1) else f j) := h3
      split at h3 <;> split at h3 <;> omega
/-- i herds of the heights n, n - 1, .. -/
def hC (F : Nat → Int) (n i : Int) : Prop := ∀ j : Nat, (j : Int) < i → ∃ h : Nat, h < 8 ∧ F h = n - j
theorem hC_0 {F : Nat → Int} {n : Int} : hC F n 0 := fun j h => absurd h (by omega)
theorem hC_s {F : Nat → Int} {n i r : Int} (h : hC F n i) (hi : 0 ≤ i) (hr : 0 ≤ r ∧ r ≤ 7) (e : r ≤ -1 ∨ F r.toNat = n - i) : hC F n (i + 1) := by
  intro j hj
  rcases (by omega : (j : Int) < i ∨ (j : Int) = i) with h1 | h1
  · exact h j h1
  · exact ⟨r.toNat, by omega, by rw [h1]; omega⟩
theorem hC_b {F : Nat → Int} {n i : Int} (h : hC F n i) : i ≤ 8 := by
  rcases (by omega : i ≤ 8 ∨ 9 ≤ i) with h1 | h1
  · exact h1
  · exfalso
    have h2 : ∀ j : Nat, j < 9 → ∃ o : Nat, o < 8 ∧ F o = n - j := fun j hj => h j (by omega)
    obtain ⟨a, b, c1, c2, c3⟩ := pig 8 (fun j => if hj : j < 9 then Classical.choose (h2 j hj) else 0) (fun j hj => by
      show (if hj : j < 9 then Classical.choose (h2 j hj) else 0) < 8
      rw [dif_pos (by omega)]
      exact (Classical.choose_spec (h2 j (by omega))).1)
    have c3 : (if hj : a < 9 then Classical.choose (h2 a hj) else 0) = (if hj : b < 9 then Classical.choose (h2 b hj) else 0) := c3
    rw [dif_pos (by omega), dif_pos (by omega)] at c3
    have d1 := (Classical.choose_spec (h2 a (by omega))).2
    have d2 := (Classical.choose_spec (h2 b (by omega))).2
    rw [c3] at d1
    omega
