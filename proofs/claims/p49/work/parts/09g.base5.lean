/-! ===== the draft, while there is no fault ===== -/
def dI (fk herds beasts draw : Int) (br ho : Nat → Int) : Prop := fk = 0 → tI herds beasts br ho ∧ 0 ≤ draw ∧ draw ≤ 999
section DI
variable {fk herds beasts draw v : Int} {br ho br2 ho2 b0 h0 : Nat → Int}
theorem dI_f (h : 1 ≤ fk) : dI fk herds beasts draw br ho := fun e => absurd e (by omega)
theorem dI_0 (h1 : herds = 0) (h2 : beasts = 0) (h3 : draw = 0) : dI fk herds beasts draw br ho := fun _ => ⟨⟨fun j h => absurd h (by omega), fun j h => absurd h (by omega)⟩, by omega, by omega⟩
theorem dI_br (h : dI fk herds beasts draw br ho) (e : br2 = ud br herds.toNat v) (hh : 0 ≤ herds) (hv : 1 ≤ fk ∨ (0 ≤ v ∧ v ≤ 4095)) : dI fk (herds + 1) beasts draw br2 ho := by
  intro q
  obtain ⟨⟨h1, h2⟩, h3⟩ := h q
  subst e
  refine ⟨⟨fun j hj => ?_, fun j hj => ?_⟩, h3⟩
  · by_cases w : j = herds.toNat
    · subst w
      rw [ud_s]
      omega
    · rw [ud_n _ _ w]
      exact h1 j (by omega)
  · have := h2 j hj
    omega
theorem dI_ho (h : dI fk herds beasts draw br ho) (e : ho2 = ud ho beasts.toNat v) (hh : 0 ≤ beasts) (hv : 1 ≤ fk ∨ (0 ≤ v ∧ v < herds)) : dI fk herds (beasts + 1) draw br ho2 := by
  intro q
  obtain ⟨⟨h1, h2⟩, h3⟩ := h q
  subst e
  refine ⟨⟨h1, fun j hj => ?_⟩, h3⟩
  by_cases w : j = beasts.toNat
  · subst w
    rw [ud_s]
    omega
  · rw [ud_n _ _ w]
    exact h2 j (by omega)
theorem dI_dr (h : dI fk herds beasts draw br ho) (hv : 1 ≤ fk ∨ (0 ≤ v ∧ v ≤ 999)) : dI fk herds beasts v br ho := fun q => ⟨(h q).1, by omega⟩
theorem dI_t (h : dI fk herds beasts draw br ho) (e : fk = 0) : tI herds beasts br ho := (h e).1
theorem dI_draw (h : dI fk herds beasts draw br ho) (e : fk = 0) : 0 ≤ draw ∧ draw ≤ 999 := (h e).2
theorem tI_cp (h : tI herds beasts br ho) (h8 : herds ≤ 8) (hb8 : beasts ≤ 8) (e1 : br2 = va_cpy br b0 0 0 8) (e2 : ho2 = va_cpy ho h0 0 0 8) : tI herds beasts br2 ho2 := by
  subst e1
  subst e2
  refine ⟨fun j hj => ?_, fun j hj => ?_⟩
  · rw [pk_cpy_in (by omega) (by omega)]
    have := h.1 j hj
    simpa using this
  · rw [pk_cpy_in (by omega) (by omega)]
    have := h.2 j hj
    simpa using this
end DI
