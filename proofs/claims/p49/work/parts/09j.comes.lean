/-! ===== what comes of a rule ===== -/
def rkA (code : Nat → Int) (f k n : Int) : Prop := (0 ≤ f ∧ 0 ≤ n ∧ n ≤ 30 ∧ f ≤ k) ∧ rpn code f.toNat (k - f).toNat = some n.toNat
theorem rkA_0 {code : Nat → Int} {f : Int} (h : 0 ≤ f) : rkA code f f 0 := ⟨by omega, by rw [show (f - f).toNat = 0 by omega]; rfl⟩
theorem rkA_step {code : Nat → Int} {f t k n z : Int} (h : rkA code f k n) {d : Nat} (ht : rpn code f.toNat (t - f).toNat = some d) (hk : k < t) (e : code k.toNat = z) :
    (z = 126 ∧ 1 ≤ n ∧ rkA code f (k + 1) n) ∨ ((97 ≤ z ∧ z ≤ 122) ∧ n < 30 ∧ rkA code f (k + 1) (n + 1)) ∨ ((¬ z = 126 ∧ ¬ (97 ≤ z ∧ z ≤ 122)) ∧ 2 ≤ n ∧ rkA code f (k + 1) (n - 1)) := by
  obtain ⟨h0, h⟩ := h
  obtain ⟨d2, hd2⟩ := rpn_all ht ((k - f).toNat + 1) (by omega)
  have hz : code (f.toNat + (k - f).toNat) = z := by rw [show f.toNat + (k - f).toNat = k.toNat by omega]; exact e
  have e1 : (k + 1 - f).toNat = (k - f).toNat + 1 := by omega
  have hs := hd2
  rw [rpn_s, h] at hs
  simp only [hz] at hs
  by_cases c1 : z = 126
  · rw [if_pos c1] at hs
    by_cases c2 : 1 ≤ n.toNat
    · rw [if_pos c2] at hs
      cases hs
      exact Or.inl ⟨c1, by omega, by omega, by rw [e1]; exact hd2⟩
    · rw [if_neg c2] at hs
      cases hs
  · rw [if_neg c1] at hs
    by_cases c2 : 97 ≤ z ∧ z ≤ 122
    · rw [if_pos c2] at hs
      by_cases c3 : n.toNat < 30
      · rw [if_pos c3] at hs
        cases hs
        exact Or.inr (Or.inl ⟨c2, by omega, by omega, by rw [e1, show (n + 1).toNat = n.toNat + 1 by omega]; exact hd2⟩)
      · rw [if_neg c3] at hs
        cases hs
    · rw [if_neg c2] at hs
      by_cases c3 : 2 ≤ n.toNat
      · rw [if_pos c3] at hs
        cases hs
        exact Or.inr (Or.inr ⟨⟨c1, c2⟩, by omega, by omega, by rw [e1, show (n - 1).toNat = n.toNat - 1 by omega]; exact hd2⟩)
      · rw [if_neg c3] at hs
        cases hs
/-- the rule of bank b is a right row, in its part of the code -/
def rC (b : Int) (RF RT code : Nat → Int) : Prop := (560 * b ≤ RF b.toNat ∧ RF b.toNat ≤ RT b.toNat ∧ RT b.toNat ≤ 560 * b + 560) ∧ rpn code (RF b.toNat).toNat (RT b.toNat - RF b.toNat).toNat = some 1
def rQ (b : Int) (T RF RT code : Nat → Int) : Prop := bitB (T b.toNat) 0 = true → rC b RF RT code
theorem rQ_use {b z : Int} {T RF RT code : Nat → Int} (h : rQ b T RF RT code) (e : T b.toNat = z) (hb : bitB z 0 = true) : rC b RF RT code := h (by rw [e]; exact hb)
theorem rC_f {b f t : Int} {RF RT code : Nat → Int} (h : rC b RF RT code) (ef : RF b.toNat = f) (et : RT b.toNat = t) : (560 * b ≤ f ∧ f ≤ t ∧ t ≤ 560 * b + 560) ∧ rpn code f.toNat (t - f).toNat = some 1 := by
  subst ef
  subst et
  exact h
theorem rQ_told {b i v : Int} {T T2 RF RT code : Nat → Int} (h : rQ b T RF RT code) (e : T2 = ud T i.toNat v) (hi : 0 ≤ i ∧ 0 ≤ b ∧ ¬ i = b) : rQ b T2 RF RT code := by
  subst e
  intro q
  rw [ud_n _ _ (by omega)] at q
  exact h q
theorem rQ_from {b i v : Int} {T RF RF2 RT code : Nat → Int} (h : rQ b T RF RT code) (e : RF2 = ud RF i.toNat v) (hi : 0 ≤ i ∧ 0 ≤ b ∧ ¬ i = b) : rQ b T RF2 RT code := by
  subst e
  intro q
  have := h q
  unfold rC at this ⊢
  rw [ud_n _ _ (by omega)]
  exact this
theorem rQ_to {b i v : Int} {T RF RT RT2 code : Nat → Int} (h : rQ b T RF RT code) (e : RT2 = ud RT i.toNat v) (hi : 0 ≤ i ∧ 0 ≤ b ∧ ¬ i = b) : rQ b T RF RT2 code := by
  subst e
  intro q
  have := h q
  unfold rC at this ⊢
  rw [ud_n _ _ (by omega)]
  exact this
theorem rQ_code {b i v : Int} {T RF RT code code2 : Nat → Int} (h : rQ b T RF RT code) (e : code2 = ud code i.toNat v) (hb : 0 ≤ b) (hi : 0 ≤ i ∧ (i < 560 * b ∨ 560 * b + 560 ≤ i)) : rQ b T RF RT code2 := by
  subst e
  intro q
  obtain ⟨t1, t2⟩ := h q
  refine ⟨t1, ?_⟩
  refine (rpn_cong (F := ud code i.toNat v) (G := code) (fun j hj => ud_n code v ?_)).trans t2
  omega
