/-! ===== placements are permutations of the strokes, closed under each other ===== -/
def trN (s : Nat) : Nat := if s < 6 then 6 + 3 * (s % 2) + 2 - s / 2 else 2 * ((s - 6) % 3) + 1 - (s - 6) / 3
def miN (s : Nat) : Nat := if s < 6 then s / 2 * 2 + 1 - s % 2 else 6 + (s - 6) / 3 * 3 + 2 - (s - 6) % 3
def tmN (f : Nat → Nat) (m : Nat) : Nat → Nat
  | 0 => 0
  | s + 1 => if m.testBit s = true then tmN f m s ||| 2 ^ (f s) else tmN f m s
theorem trN_d {s : Int} (h : 0 ≤ s ∧ s ≤ 11) : (s < 6 ∧ ((trN s.toNat : Nat) : Int) = 6 + 3 * (s % 2) + 2 - s / 2) ∨ (6 ≤ s ∧ ((trN s.toNat : Nat) : Int) = 2 * ((s - 6) % 3) + 1 - (s - 6) / 3) := by
  obtain ⟨n, rfl⟩ : ∃ n : Nat, s = n := ⟨s.toNat, by omega⟩
  simp only [Int.toNat_natCast]
  unfold trN
  split
  · left; omega
  · right; omega
theorem miN_d {s : Int} (h : 0 ≤ s ∧ s ≤ 11) : (s < 6 ∧ ((miN s.toNat : Nat) : Int) = s / 2 * 2 + 1 - s % 2) ∨ (6 ≤ s ∧ ((miN s.toNat : Nat) : Int) = 6 + (s - 6) / 3 * 3 + 2 - (s - 6) % 3) := by
  obtain ⟨n, rfl⟩ : ∃ n : Nat, s = n := ⟨s.toNat, by omega⟩
  simp only [Int.toNat_natCast]
  unfold miN
  split
  · left; omega
  · right; omega
theorem bitB_tb {m s : Int} (hm : 0 ≤ m ∧ m ≤ 4095) (hs : 0 ≤ s ∧ s ≤ 11) : bitB m s = m.toNat.testBit s.toNat := by
  have h1 : ((mI s &&& 31).toBitVec.smod 32).toNat = s.toNat := by
    rcases (by omega : s = 0 ∨ s = 1 ∨ s = 2 ∨ s = 3 ∨ s = 4 ∨ s = 5 ∨ s = 6 ∨ s = 7 ∨ s = 8 ∨ s = 9 ∨ s = 10 ∨ s = 11) with h | h | h | h | h | h | h | h | h | h | h | h <;> subst h <;> decide +kernel
  unfold bitB
  rw [mI_shr _ s.toNat h1 (by omega)]
  obtain ⟨n, rfl⟩ : ∃ n : Nat, m = n := ⟨m.toNat, by omega⟩
  obtain ⟨k, rfl⟩ : ∃ n : Nat, s = n := ⟨s.toNat, by omega⟩
  simp only [Int.toNat_natCast]
  have h2 : ((n : Int) / 2 ^ k) = ((n / 2 ^ k : Nat) : Int) := by rw [Int.natCast_ediv]; simp
  have h3 : n / 2 ^ k ≤ n := Nat.div_le_self ..
  rw [Nat.testBit_eq_decide_div_mod_eq]
  have h4 : (mI ((n / 2 ^ k : Nat) : Int) &&& mI 1 = mI 1) ↔ n / 2 ^ k % 2 = 1 := by
    rw [show mI 1 = mI ((1 : Nat) : Int) from rfl]
    constructor
    · intro h
      have h5 := congrArg (fun x => x.toBitVec.toNat) h
      simp only [mI_nat, Int32.toBitVec_and, BitVec.toNat_and] at h5
      rw [pk_tn (by omega), pk_tn (by omega), Nat.and_one_is_mod] at h5
      exact h5
    · intro h
      apply Int32.toBitVec_inj.mp
      apply BitVec.eq_of_toNat_eq
      rw [mI_nat, mI_nat, Int32.toBitVec_and, BitVec.toNat_and, pk_tn (by omega), pk_tn (by omega), Nat.and_one_is_mod]
      exact h
  rw [← h2] at h4
  exact decide_eq_decide.mpr h4
theorem tk_0 {f : Nat → Nat} {m s x : Int} (h : x.toNat = tmN f m.toNat s.toNat) (hs : 0 ≤ s ∧ s ≤ 11) (hm : 0 ≤ m ∧ m ≤ 4095) (hb : bitB m s = false) : x.toNat = tmN f m.toNat (s + 1).toNat := by
  rw [bitB_tb hm hs] at hb
  rw [show (s + 1).toNat = s.toNat + 1 by omega]
  unfold tmN
  rw [hb, if_neg (by decide)]
  exact h
theorem tk_1 {f : Nat → Nat} {m s x : Int} (h : x.toNat = tmN f m.toNat s.toNat) (hs : 0 ≤ s ∧ s ≤ 11) (hm : 0 ≤ m ∧ m ≤ 4095) (hb : bitB m s = true) {r z o : Int} (er : r = ((f s.toNat : Nat) : Int)) (ez : z = 2 ^ r.toNat) (hx : 0 ≤ x ∧ x ≤ 4095) (hz : 0 ≤ z ∧ z ≤ 4095) (eo : mI x ||| mI z = mI o) (ho : 0 ≤ o ∧ o ≤ 4095) : o.toNat = tmN f m.toNat (s + 1).toNat := by
  rw [bitB_tb hm hs] at hb
  rw [show (s + 1).toNat = s.toNat + 1 by omega]
  unfold tmN
  rw [hb, if_pos rfl, ← h, mI_orN eo hx hz ho]
  have h2 : z.toNat = 2 ^ (f s.toNat) := by
    rw [er, Int.toNat_natCast] at ez
    rw [ez]
    exact Int.toNat_pow_of_nonneg (by decide) _
  rw [h2]
theorem tk_e {f : Nat → Nat} {m s x : Int} (h : x.toNat = tmN f m.toNat s.toNat) (hs : s = 12) : x.toNat = tmN f m.toNat 12 := by
  subst hs
  exact h
theorem tm_bit (f : Nat → Nat) (m : Nat) : ∀ n j, (tmN f m n).testBit j = true ↔ ∃ s, s < n ∧ m.testBit s = true ∧ f s = j := by
  intro n
  induction n with
  | zero =>
    intro j
    constructor
    · intro h; simp [tmN] at h
    · rintro ⟨s, h, -⟩; omega
  | succ n ih =>
    intro j
    unfold tmN
    split
    · rename_i hb
      rw [Nat.testBit_or, Bool.or_eq_true, ih, Nat.testBit_two_pow, decide_eq_true_iff]
      constructor
      · rintro (⟨s, h1, h2, h3⟩ | h)
        · exact ⟨s, by omega, h2, h3⟩
        · exact ⟨n, by omega, hb, h⟩
      · rintro ⟨s, h1, h2, h3⟩
        rcases (by omega : s < n ∨ s = n) with h | h
        · exact Or.inl ⟨s, h, h2, h3⟩
        · subst h; exact Or.inr h3
    · rename_i hb
      rw [ih]
      constructor
      · rintro ⟨s, h1, h2, h3⟩
        exact ⟨s, by omega, h2, h3⟩
      · rintro ⟨s, h1, h2, h3⟩
        rcases (by omega : s < n ∨ s = n) with h | h
        · exact ⟨s, h, h2, h3⟩
        · subst h; exact absurd h2 hb
def trI (j : Nat) : Nat := trN (trN (trN j))
theorem tr_f : ∀ s, s < 12 → trN s < 12 ∧ trI (trN s) = s := by decide +kernel
theorem tr_g : ∀ s, s < 12 → trI s < 12 ∧ trN (trI s) = s := by decide +kernel
theorem mi_f : ∀ s, s < 12 → miN s < 12 ∧ miN (miN s) = s := by decide +kernel
theorem tm_inv {f g : Nat → Nat} (hf : ∀ s, s < 12 → f s < 12 ∧ g (f s) = s) (hg : ∀ s, s < 12 → g s < 12 ∧ f (g s) = s) (m : Nat) {j : Nat} (hj : j < 12) : (tmN f m 12).testBit j = m.testBit (g j) := by
  have h := tm_bit f m 12 j
  rw [Bool.eq_iff_iff, h]
  constructor
  · rintro ⟨s, h1, h2, h3⟩
    rw [← h3, (hf s h1).2]; exact h2
  · intro h2
    exact ⟨g j, (hg j hj).1, h2, (hg j hj).2⟩
theorem tm_lt {f : Nat → Nat} (hf : ∀ s, s < 12 → f s < 12) (m : Nat) : tmN f m 12 < 4096 := by
  refine Nat.lt_pow_two_of_testBit (n := 12) _ (fun j hj => ?_)
  rcases h : (tmN f m 12).testBit j
  · rfl
  · obtain ⟨s, h1, h2, h3⟩ := (tm_bit f m 12 j).mp h
    have := hf s h1
    omega
theorem bits_eq {x y : Nat} (hx : x < 4096) (hy : y < 4096) (h : ∀ j, j < 12 → x.testBit j = y.testBit j) : x = y := by
  refine Nat.eq_of_testBit_eq (fun j => ?_)
  rcases (by omega : j < 12 ∨ 12 ≤ j) with hj | hj
  · exact h j hj
  · have h1 : 2 ^ 12 ≤ 2 ^ j := Nat.pow_le_pow_right (by decide) hj
    rw [Nat.testBit_lt_two_pow (by omega), Nat.testBit_lt_two_pow (by omega)]
def itN : Nat → Nat → Nat
  | 0, m => m
  | k + 1, m => tmN trN (itN k m) 12
def itJ : Nat → Nat → Nat
  | 0, j => j
  | k + 1, j => itJ k (trI j)
theorem it_bit (m : Nat) : ∀ k j, j < 12 → (itN k m).testBit j = m.testBit (itJ k j) := by
  intro k
  induction k with
  | zero => intro j hj; rfl
  | succ k ih =>
    intro j hj
    show (tmN trN (itN k m) 12).testBit j = m.testBit (itJ k (trI j))
    rw [tm_inv tr_f tr_g _ hj, ih _ (tr_g j hj).1]
theorem it_lt {m : Nat} (hm : m < 4096) : ∀ k, itN k m < 4096
  | 0 => hm
  | k + 1 => tm_lt (fun s hs => (tr_f s hs).1) _
def plS (t m p : Nat) : Nat := if t ≤ p then tmN miN m 12 else m
def PLn (t m p : Nat) : Nat := itN ((p % t) * (4 / t)) (plS t m p)
def piN (t p j : Nat) : Nat := if t ≤ p then miN (itJ ((p % t) * (4 / t)) j) else itJ ((p % t) * (4 / t)) j
def cfT : List (Nat × Nat) := [(1, 1), (1, 2), (2, 2), (2, 4), (4, 4), (4, 8)]
theorem it_j : ∀ k, k < 17 → ∀ j, j < 12 → itJ k j < 12 := by decide +kernel
theorem pl_lt {m : Nat} (hm : m < 4096) (t p : Nat) : PLn t m p < 4096 := by
  unfold PLn plS
  refine it_lt ?_ _
  split
  · exact tm_lt (fun s hs => (mi_f s hs).1) _
  · exact hm
theorem pl_k {t p : Nat} (ht : t = 1 ∨ t = 2 ∨ t = 4) : (p % t) * (4 / t) < 17 := by
  rcases ht with h | h | h <;> subst h <;> omega
theorem pl_bit {m t p : Nat} (ht : t = 1 ∨ t = 2 ∨ t = 4) {j : Nat} (hj : j < 12) : (PLn t m p).testBit j = m.testBit (piN t p j) := by
  unfold PLn piN plS
  rw [it_bit _ _ _ hj]
  have h1 := it_j _ (pl_k (p := p) ht) j hj
  split
  · rw [tm_inv mi_f mi_f _ h1]
  · rfl
theorem pi_lt : ∀ x, x ∈ cfT → ∀ p, p < x.2 → ∀ j, j < 12 → piN x.1 p j < 12 := by decide +kernel
theorem pi_c1 : ∀ x, x ∈ cfT → ∀ p, p < x.2 → ∀ r, r < x.2 → ∃ q, q < x.2 ∧ ∀ j, j < 12 → piN x.1 p (piN x.1 q j) = piN x.1 r j := by decide +kernel
theorem pi_c2 : ∀ x, x ∈ cfT → ∀ p, p < x.2 → ∀ q, q < x.2 → ∃ r, r < x.2 ∧ ∀ j, j < 12 → piN x.1 p (piN x.1 q j) = piN x.1 r j := by decide +kernel
theorem pi_p : ∀ x, x ∈ cfT → ∀ p, p < x.2 → ((List.range 12).map (piN x.1 p)).Perm (List.range 12) := by decide +kernel
theorem cf_t {t n : Nat} (h : (t, n) ∈ cfT) : t = 1 ∨ t = 2 ∨ t = 4 := by
  simp only [cfT, List.mem_cons, Prod.mk.injEq, List.not_mem_nil, or_false] at h
  omega
theorem cf_n {t n : Nat} (h : (t, n) ∈ cfT) : 1 ≤ n := by
  simp only [cfT, List.mem_cons, Prod.mk.injEq, List.not_mem_nil, or_false] at h
  omega
def nmI (t m n r : Nat) : Prop := (∃ q, q < n ∧ r = PLn t m q) ∧ ∀ q, q < n → r ≤ PLn t m q
def uN (t m o n : Nat) : Prop := ∃ q, q < n ∧ PLn t m q &&& o = PLn t m q
def oN (t m o n : Nat) : Prop := ∃ r, nmI t m n r ∧ nmI t o n r
theorem nm_u {t m n r r2 : Nat} (h : nmI t m n r) (h2 : nmI t m n r2) : r = r2 := by
  obtain ⟨⟨q, a1, a2⟩, a3⟩ := h
  obtain ⟨⟨q2, b1, b2⟩, b3⟩ := h2
  have := a3 q2 b1
  have := b3 q a1
  omega
theorem nm_ex (t m : Nat) : ∀ n, 1 ≤ n → ∃ r, nmI t m n r := by
  intro n
  induction n with
  | zero => intro h; omega
  | succ n ih =>
    intro _
    rcases (by omega : n = 0 ∨ 1 ≤ n) with h | h
    · subst h
      refine ⟨PLn t m 0, ⟨0, by omega, rfl⟩, fun q hq => ?_⟩
      rw [show q = 0 by omega]
      exact Nat.le_refl _
    · obtain ⟨r, ⟨q, a1, a2⟩, a3⟩ := ih h
      rcases (by omega : r ≤ PLn t m n ∨ PLn t m n < r) with c | c
      · refine ⟨r, ⟨q, by omega, a2⟩, fun q2 hq => ?_⟩
        rcases (by omega : q2 < n ∨ q2 = n) with d | d
        · exact a3 q2 d
        · subst d; exact c
      · refine ⟨PLn t m n, ⟨n, by omega, rfl⟩, fun q2 hq => ?_⟩
        rcases (by omega : q2 < n ∨ q2 = n) with d | d
        · have := a3 q2 d; omega
        · subst d; exact Nat.le_refl _
theorem pl_pl {t n m : Nat} (hc : (t, n) ∈ cfT) (hm : m < 4096) {p q r : Nat} (hq : q < n) (h : ∀ j, j < 12 → piN t p (piN t q j) = piN t r j) : PLn t (PLn t m p) q = PLn t m r := by
  have ht := cf_t hc
  refine bits_eq (pl_lt (pl_lt hm t p) t q) (pl_lt hm t r) (fun j hj => ?_)
  rw [pl_bit ht hj, pl_bit ht (pi_lt _ hc q hq j hj), h j hj, pl_bit ht hj]
theorem nm_eq {t n m p r r2 : Nat} (hc : (t, n) ∈ cfT) (hm : m < 4096) (hp : p < n) (h : nmI t m n r) (h2 : nmI t (PLn t m p) n r2) : r = r2 := by
  obtain ⟨⟨q, a1, a2⟩, a3⟩ := h
  obtain ⟨⟨q2, b1, b2⟩, b3⟩ := h2
  obtain ⟨x, c1, c2⟩ := pi_c1 _ hc p hp q a1
  obtain ⟨y, d1, d2⟩ := pi_c2 _ hc p hp q2 b1
  have e1 := b3 x c1
  rw [pl_pl hc hm c1 c2, ← a2] at e1
  have e2 := a3 y d1
  rw [← pl_pl hc hm b1 d2, ← b2] at e2
  omega
def pcN (x : Nat) : Nat := (List.range 12).countP (fun j => x.testBit j)
theorem cnt_le {p q : Nat → Bool} : ∀ l : List Nat, (∀ j, j ∈ l → p j = true → q j = true) → l.countP p ≤ l.countP q ∧ (l.countP p = l.countP q → ∀ j, j ∈ l → p j = q j) := by
  intro l
  induction l with
  | nil => intro _; exact ⟨Nat.le_refl _, fun _ j hj => absurd hj (by simp)⟩
  | cons a l ih =>
    intro h
    obtain ⟨h1, h2⟩ := ih (fun j hj => h j (List.mem_cons_of_mem _ hj))
    have h3 := h a (List.mem_cons_self ..)
    rw [List.countP_cons, List.countP_cons]
    rcases hp : p a with _ | _ <;> rcases hq : q a with _ | _
    · simp only [Bool.false_eq_true, if_false, Nat.add_zero]
      refine ⟨h1, fun e j hj => ?_⟩
      rcases List.mem_cons.mp hj with hj | hj
      · subst hj; rw [hp, hq]
      · exact h2 e j hj
    · simp only [Bool.false_eq_true, if_false, if_true, Nat.add_zero]
      exact ⟨by omega, fun e => absurd e (by omega)⟩
    · rw [hp, hq] at h3; exact absurd (h3 rfl) (by decide)
    · simp only [if_true]
      refine ⟨by omega, fun e j hj => ?_⟩
      rcases List.mem_cons.mp hj with hj | hj
      · subst hj; rw [hp, hq]
      · exact h2 (by omega) j hj
theorem pc_pl {t n m p : Nat} (hc : (t, n) ∈ cfT) (hp : p < n) : pcN (PLn t m p) = pcN m := by
  unfold pcN
  have h1 := (pi_p _ hc p hp).countP_eq (fun j => m.testBit j)
  rw [List.countP_map] at h1
  rw [← h1]
  refine List.countP_congr (fun j hj => ?_)
  rw [pl_bit (cf_t hc) (List.mem_range.mp hj)]
  exact Iff.rfl
theorem pc_sub {x o : Nat} (hx : x < 4096) (ho : o < 4096) (h : x &&& o = x) : pcN x ≤ pcN o ∧ (pcN x = pcN o → x = o) := by
  obtain ⟨h1, h2⟩ := cnt_le (p := fun j => x.testBit j) (q := fun j => o.testBit j) (List.range 12) (fun j _ hj => by
    have h3 := congrArg (fun y => y.testBit j) h
    simp only [Nat.testBit_and] at h3
    have hj : x.testBit j = true := hj
    rw [hj, Bool.true_and] at h3
    exact h3)
  exact ⟨h1, fun e => bits_eq hx ho (fun j hj => h2 e j (List.mem_range.mpr hj))⟩
theorem rk_up {t n m o : Nat} (hc : (t, n) ∈ cfT) (hm : m < 4096) (ho : o < 4096) (h : uN t m o n) (h2 : ¬ oN t m o n) : pcN m < pcN o := by
  obtain ⟨q, h3, h4⟩ := h
  have h5 := pc_sub (pl_lt hm t q) ho h4
  rw [pc_pl hc h3] at h5
  rcases (by omega : pcN m < pcN o ∨ pcN m = pcN o) with h6 | h6
  · exact h6
  · exfalso
    have h7 := h5.2 h6
    obtain ⟨r1, e1⟩ := nm_ex t m n (cf_n hc)
    obtain ⟨r2, e2⟩ := nm_ex t (PLn t m q) n (cf_n hc)
    have e3 := nm_eq hc hm h3 e1 e2
    subst e3
    rw [h7] at e2
    exact h2 ⟨r1, e1, e2⟩
def rB (T U BR : Nat → Int) (b h o : Int) : Prop := uN (U b.toNat).toNat (BR (8 * b + h).toNat).toNat (BR (8 * b + o).toNat).toNat (rPl T U b).toNat ∧ ¬ oN (U b.toNat).toNat (BR (8 * b + h).toNat).toNat (BR (8 * b + o).toNat).toNat (rPl T U b).toNat
theorem rPl_b {T U : Nat → Int} {b : Int} (hU : bd 0 4 U) (h3 : 1 ≤ U b.toNat ∧ ¬ U b.toNat = 3) : 1 ≤ rPl T U b ∧ rPl T U b ≤ 8 := by
  have h := hU b.toNat
  unfold rPl
  split <;> omega
theorem rPl_cf {T U : Nat → Int} {b : Int} (hU : bd 0 4 U) (h3 : 1 ≤ U b.toNat ∧ ¬ U b.toNat = 3) : ((U b.toNat).toNat, (rPl T U b).toNat) ∈ cfT := by
  have h := hU b.toNat
  simp only [cfT, List.mem_cons, Prod.mk.injEq, List.not_mem_nil, or_false]
  unfold rPl
  split <;> omega
def rkH (Bl : Int → Int → Prop) (R : Nat → Nat) : Prop := (∀ h : Nat, h < 8 → R h ≤ 7) ∧ ∀ h o : Nat, h < 8 → o < 8 → Bl h o → R o < R h
theorem rank_ex {T U BR : Nat → Int} {b : Int} (hU : bd 0 4 U) (h3 : 1 ≤ U b.toNat ∧ ¬ U b.toNat = 3) (hB : bd 0 4095 BR) : ∃ R, rkH (rB T U BR b) R := by
  have hc := rPl_cf (T := T) hU h3
  have hlt : ∀ i, (BR i).toNat < 4096 := fun i => by have := hB i; omega
  have key : ∀ h o : Nat, rB T U BR b h o → pcN (BR (8 * b + h).toNat).toNat < pcN (BR (8 * b + o).toNat).toNat := fun h o hr => rk_up hc (hlt _) (hlt _) hr.1 hr.2
  refine ⟨fun h => (List.range 8).countP (fun o : Nat => decide (pcN (BR (8 * b + (h : Int)).toNat).toNat < pcN (BR (8 * b + (o : Int)).toNat).toNat)), ?_, ?_⟩
  · intro h hh
    have h1 := cnt_le (p := fun o : Nat => decide (pcN (BR (8 * b + (h : Int)).toNat).toNat < pcN (BR (8 * b + (o : Int)).toNat).toNat)) (q := fun _ => true) (List.range 8) (fun _ _ _ => rfl)
    have h2 : (List.range 8).countP (fun _ => true) = 8 := by decide
    rw [h2] at h1
    rcases (by omega : (List.range 8).countP (fun o : Nat => decide (pcN (BR (8 * b + (h : Int)).toNat).toNat < pcN (BR (8 * b + (o : Int)).toNat).toNat)) ≤ 7 ∨ (List.range 8).countP (fun o : Nat => decide (pcN (BR (8 * b + (h : Int)).toNat).toNat < pcN (BR (8 * b + (o : Int)).toNat).toNat)) = 8) with h4 | h4
    · exact h4
    · have h5 := h1.2 h4 h (List.mem_range.mpr hh)
      simp only [decide_eq_true_iff] at h5
      omega
  · intro h o hh ho hr
    have hk := key h o hr
    have h1 := cnt_le (p := fun x : Nat => decide (pcN (BR (8 * b + (o : Int)).toNat).toNat < pcN (BR (8 * b + (x : Int)).toNat).toNat)) (q := fun x : Nat => decide (pcN (BR (8 * b + (h : Int)).toNat).toNat < pcN (BR (8 * b + (x : Int)).toNat).toNat)) (List.range 8) (fun x _ hx => by
      simp only [decide_eq_true_iff] at hx ⊢
      omega)
    rcases Nat.lt_or_ge ((List.range 8).countP (fun x : Nat => decide (pcN (BR (8 * b + (o : Int)).toNat).toNat < pcN (BR (8 * b + (x : Int)).toNat).toNat))) ((List.range 8).countP (fun x : Nat => decide (pcN (BR (8 * b + (h : Int)).toNat).toNat < pcN (BR (8 * b + (x : Int)).toNat).toNat))) with h4 | h4
    · exact h4
    · have h5 := h1.2 (by omega) o (List.mem_range.mpr ho)
      rw [decide_eq_decide] at h5
      omega
/-! placedBy, normOf, isUnder -/
theorem ps_t {t m p x : Int} (h : x.toNat = tmN miN m.toNat 12) (hc : t ≤ p) (ht : 0 ≤ t) : x.toNat = plS t.toNat m.toNat p.toNat := by
  unfold plS
  rw [if_pos (by omega)]
  exact h
theorem ps_f {t m p : Int} (hc : p < t) (hp : 0 ≤ p) : m.toNat = plS t.toNat m.toNat p.toNat := by
  unfold plS
  rw [if_neg (by omega)]
theorem it_s {k x y : Int} {m0 : Nat} (h : x.toNat = itN k.toNat m0) (hk : 0 ≤ k) (hy : y.toNat = tmN trN x.toNat 12) : y.toNat = itN (k + 1).toNat m0 := by
  rw [show (k + 1).toNat = k.toNat + 1 by omega]
  show _ = tmN trN (itN k.toNat m0) 12
  rw [← h]
  exact hy
theorem pl_e {U t t1 t2 m p k x z1 z2 q : Int} (et : U = t) (et1 : t1 = t) (et2 : t2 = t) (h : x.toNat = itN k.toNat (plS t.toNat m.toNat p.toNat)) (ht : 1 ≤ t) (hp : 0 ≤ p) (e1 : z1 = p % t1) (e2 : z2 = 4 / t2) (e3 : z1 * z2 = q) (hk : k = q) : x.toNat = PLn U.toNat m.toNat p.toNat := by
  rw [et]
  rw [et1] at e1
  rw [et2] at e2
  have e4 : k.toNat = (p.toNat % t.toNat) * (4 / t.toNat) := by
    subst hk
    subst e3
    subst e1
    subst e2
    obtain ⟨n, rfl⟩ : ∃ n : Nat, t = n := ⟨t.toNat, by omega⟩
    obtain ⟨o, rfl⟩ : ∃ n : Nat, p = n := ⟨p.toNat, by omega⟩
    simp only [Int.toNat_natCast]
    rw [← Int.natCast_emod, show (4 : Int) / (n : Int) = ((4 / n : Nat) : Int) by rw [Int.natCast_ediv]; rfl, ← Int.natCast_mul, Int.toNat_natCast]
  rw [e4] at h
  exact h
theorem pl_0 {t m : Nat} (ht : 1 ≤ t) : PLn t m 0 = m := by
  unfold PLn plS
  rw [if_neg (by omega), Nat.zero_mod, Nat.zero_mul]
  rfl
theorem nm_1 {t m : Int} (ht : 1 ≤ t) : nmI t.toNat m.toNat (1 : Int).toNat m.toNat := by
  have h := pl_0 (t := t.toNat) (m := m.toNat) (by omega)
  refine ⟨⟨0, by decide, h.symm⟩, fun q hq => ?_⟩
  rw [show q = 0 by have : q < 1 := hq; omega, h]
  exact Nat.le_refl _
theorem nm_s {t m n x y z : Int} (h : nmI t.toNat m.toNat n.toNat x.toNat) (hn : 0 ≤ n) (hy : y.toNat = PLn t.toNat m.toNat n.toNat) (hx : 0 ≤ x) (hy0 : 0 ≤ y) (hz : (z = y ∧ y < x) ∨ (z = x ∧ x ≤ y)) : nmI t.toNat m.toNat (n + 1).toNat z.toNat := by
  rw [show (n + 1).toNat = n.toNat + 1 by omega]
  obtain ⟨⟨q, a1, a2⟩, a3⟩ := h
  rcases hz with ⟨hz, h1⟩ | ⟨hz, h1⟩ <;> subst hz
  · refine ⟨⟨n.toNat, by omega, hy⟩, fun q2 h2 => ?_⟩
    rcases (by omega : q2 < n.toNat ∨ q2 = n.toNat) with h3 | h3
    · have := a3 q2 h3; omega
    · rw [h3, ← hy]; exact Nat.le_refl _
  · refine ⟨⟨q, by omega, a2⟩, fun q2 h2 => ?_⟩
    rcases (by omega : q2 < n.toNat ∨ q2 = n.toNat) with h3 | h3
    · exact a3 q2 h3
    · rw [h3, ← hy]; omega
theorem nm_end {t m n k x : Int} (h : nmI t.toNat m.toNat n.toNat x.toNat) (e : n = k) : nmI t.toNat m.toNat k.toNat x.toNat := by rw [← e]; exact h
theorem mI_andnZ {a b z : Int} (h : mI b &&& (mI a ^^^ mI (-1)) = mI z) (ha : 0 ≤ a ∧ a ≤ 4095) (hb : 0 ≤ b ∧ b ≤ 4095) (hzr : -2147483648 ≤ z ∧ z ≤ 2147483647) (hz : ¬ z = 0) : ¬ b.toNat &&& a.toNat = b.toNat := by
  intro hc
  apply hz
  obtain ⟨n, rfl⟩ : ∃ n : Nat, a = n := ⟨a.toNat, by omega⟩
  obtain ⟨o, rfl⟩ : ∃ n : Nat, b = n := ⟨b.toNat, by omega⟩
  simp only [Int.toNat_natCast] at hc
  have h1 : (mI (-1)).toBitVec = BitVec.allOnes 32 := by decide
  have h2 := congrArg Int32.toBitVec h
  rw [Int32.toBitVec_and, Int32.toBitVec_xor, h1, BitVec.xor_allOnes] at h2
  have h3 : (mI (o : Int)).toBitVec &&& (mI (n : Int)).toBitVec = (mI (o : Int)).toBitVec := by
    apply BitVec.eq_of_toNat_eq
    rw [BitVec.toNat_and, mI_nat, mI_nat, pk_tn (by omega), pk_tn (by omega)]
    exact hc
  have h5 : (mI z).toBitVec = 0#32 := by
    rw [← h2]
    apply BitVec.eq_of_getLsbD_eq
    intro i hi
    have h6 := congrArg (fun x => x.getLsbD i) h3
    simp only [BitVec.getLsbD_and] at h6
    simp only [BitVec.getLsbD_and, BitVec.getLsbD_not, BitVec.getLsbD_zero, hi, decide_true, Bool.true_and]
    revert h6
    cases (mI (o : Int)).toBitVec.getLsbD i <;> cases (mI (n : Int)).toBitVec.getLsbD i <;> simp
  have h6 : mI z = mI 0 := Int32.toBitVec_inj.mp (h5.trans (by decide))
  exact (mI_eq hzr (by decide)).mp h6
/-- none of the placements below n fits -/
def uX (t m o n : Nat) : Prop := ∀ q, q < n → ¬ PLn t m q &&& o = PLn t m q
theorem uX_0 {t m o : Nat} : uX t m o (0 : Int).toNat := fun q hq => absurd hq (by simp)
theorem uX_s {t m o : Nat} {n y a z : Int} (h : uX t m o n.toNat) (hn : 0 ≤ n) (hy : y.toNat = PLn t m n.toNat) (ho : a.toNat = o) (e : mI y &&& (mI a ^^^ mI (-1)) = mI z) (ha : 0 ≤ a ∧ a ≤ 4095) (hy0 : 0 ≤ y ∧ y ≤ 4095) (hzr : -2147483648 ≤ z ∧ z ≤ 2147483647) (hz : ¬ z = 0) : uX t m o (n + 1).toNat := by
  intro q hq
  rcases (by omega : q < n.toNat ∨ q = n.toNat) with h1 | h1
  · exact h q h1
  · rw [h1, ← hy, ← ho]
    exact mI_andnZ e ha hy0 hzr hz
theorem uX_n {t m o : Nat} {n k : Int} (h : uX t m o n.toNat) (hn : k ≤ n) : ¬ uN t m o k.toNat := by
  rintro ⟨q, h1, h2⟩
  exact h q (by omega) h2
theorem uN_y {t m o : Nat} {n k y a z : Int} (hy : y.toNat = PLn t m n.toNat) (ho : a.toNat = o) (e : mI y &&& (mI a ^^^ mI (-1)) = mI z) (ha : 0 ≤ a ∧ a ≤ 4095) (hy0 : 0 ≤ y ∧ y ≤ 4095) (hz : z = 0) (hn : 0 ≤ n ∧ n < k) : uN t m o k.toNat := ⟨n.toNat, by omega, by
  rw [← hy, ← ho]
  exact mI_andnN e ha hy0 hz⟩
theorem oN_y {t m o n : Nat} {r r2 : Int} (h : nmI t m n r.toNat) (h2 : nmI t o n r2.toNat) (e : r = r2) : oN t m o n := ⟨r.toNat, h, by rw [e]; exact h2⟩
theorem oN_n {t m o n : Nat} {r r2 : Int} (h : nmI t m n r.toNat) (h2 : nmI t o n r2.toNat) (hr : 0 ≤ r) (hr2 : 0 ≤ r2) (e : ¬ r = r2) : ¬ oN t m o n := by
  rintro ⟨x, a, b⟩
  have e1 := nm_u h a
  have e2 := nm_u h2 b
  omega
theorem it_0 {x : Int} {m0 : Nat} (h : x.toNat = m0) : x.toNat = itN (0 : Int).toNat m0 := h
theorem rB_y {T U BR : Nat → Int} {b h o r1 r2 r3 r4 r5 : Int} (e1 : r1 = BR (8 * b + h).toNat) (e2 : r2 = BR (8 * b + o).toNat) (e4 : r4 = BR (8 * b + h).toNat) (e5 : r5 = BR (8 * b + o).toNat) (hu : (r3 = 1 ∧ uN (U b.toNat).toNat r1.toNat r2.toNat (rPl T U b).toNat) ∨ (r3 = 0 ∧ ¬ uN (U b.toNat).toNat r1.toNat r2.toNat (rPl T U b).toNat)) (h3 : ¬ r3 = 0) (ho : ¬ oN (U b.toNat).toNat r4.toNat r5.toNat (rPl T U b).toNat) : rB T U BR b h o := by
  rw [e1, e2] at hu
  rw [e4, e5] at ho
  rcases hu with hu | hu
  · exact ⟨hu.2, ho⟩
  · exact absurd hu.1 h3
theorem rB_n1 {T U BR : Nat → Int} {b h o r1 r2 r3 : Int} (e1 : r1 = BR (8 * b + h).toNat) (e2 : r2 = BR (8 * b + o).toNat) (hu : (r3 = 1 ∧ uN (U b.toNat).toNat r1.toNat r2.toNat (rPl T U b).toNat) ∨ (r3 = 0 ∧ ¬ uN (U b.toNat).toNat r1.toNat r2.toNat (rPl T U b).toNat)) (h3 : r3 = 0) : ¬ rB T U BR b h o := by
  rw [e1, e2] at hu
  rcases hu with hu | hu
  · exact absurd (h3.symm.trans hu.1) (by decide)
  · exact fun q => hu.2 q.1
theorem rB_n2 {T U BR : Nat → Int} {b h o r4 r5 : Int} (e4 : r4 = BR (8 * b + h).toNat) (e5 : r5 = BR (8 * b + o).toNat) (ho : oN (U b.toNat).toNat r4.toNat r5.toNat (rPl T U b).toNat) : ¬ rB T U BR b h o := by
  rw [e4, e5] at ho
  exact fun q => q.2 ho
/-! ===== the longest chain ===== -/
section CHAIN
variable {Bl : Int → Int → Prop} {R : Nat → Nat} {s n h o most m2 k : Int} {L L2 Row Row2 : Nat → Int}
def cH (Bl : Int → Int → Prop) (R : Nat → Nat) (s n h most : Int) (L : Nat → Int) : Prop :=
  (∀ i : Nat, (i : Int) < s → (1 ≤ n ∨ (i : Int) < h) → (1 ≤ L i ∧ L i ≤ R i + 1 ∧ L i ≤ most) ∧ (L i ≤ 1 ∨ (1 ≤ n ∧ ∃ o : Nat, (o : Int) < s ∧ Bl i o ∧ L i ≤ L o + 1))) ∧
  (∀ i : Nat, (i : Int) < s → ((R i : Int) < n ∨ ((R i : Int) = n ∧ (i : Int) < h)) → ∀ o : Nat, (o : Int) < s → Bl i o → L o < L i) ∧
  ((most = 0 ∧ (s ≤ 0 ∨ (n ≤ 0 ∧ h ≤ 0))) ∨ ∃ i : Nat, (i : Int) < s ∧ (1 ≤ n ∨ (i : Int) < h) ∧ L i = most)
def cO (Bl : Int → Int → Prop) (R : Nat → Nat) (s n h o most : Int) (L : Nat → Int) : Prop :=
  (∀ i : Nat, (i : Int) < s → (1 ≤ n ∨ (i : Int) ≤ h) → (1 ≤ L i ∧ L i ≤ R i + 1) ∧ (L i ≤ 1 ∨ (1 ≤ n ∧ ∃ o : Nat, (o : Int) < s ∧ Bl i o ∧ L i ≤ L o + 1))) ∧
  (∀ i : Nat, (i : Int) < s → ((R i : Int) < n ∨ ((R i : Int) = n ∧ (i : Int) < h)) → ∀ o : Nat, (o : Int) < s → Bl i o → L o < L i) ∧
  ((R h.toNat : Int) = n → ∀ j : Nat, (j : Int) < s → (j : Int) < o → Bl h j → L j < L h.toNat) ∧
  (∀ i : Nat, (i : Int) < s → ¬ (i : Int) = h → (1 ≤ n ∨ (i : Int) < h) → L i ≤ most) ∧
  (most ≤ L h.toNat ∨ ∃ i : Nat, (i : Int) < s ∧ ¬ (i : Int) = h ∧ (1 ≤ n ∨ (i : Int) < h) ∧ L i = most)
theorem cH_0 (hn : n = 0) (hh : h = 0) (hm : most = 0) : cH Bl R s n h most L := by
  subst hn
  subst hh
  subst hm
  refine ⟨fun i h1 h2 => absurd h2 (by omega), fun i h1 h2 => absurd h2 (by omega), Or.inl ⟨rfl, Or.inr ⟨by omega, by omega⟩⟩⟩
theorem cO_0 (c : cH Bl R s n h most L) (hn : 1 ≤ n) (hh : 0 ≤ h ∧ h < s) (ho : o = 0) : cO Bl R s n h o most L := by
  obtain ⟨c1, c2, c3⟩ := c
  have hi : ∀ i : Nat, (i : Int) = h → i = h.toNat := fun i e => by omega
  refine ⟨fun i h1 h2 => ⟨⟨(c1 i h1 (Or.inl hn)).1.1, (c1 i h1 (Or.inl hn)).1.2.1⟩, (c1 i h1 (Or.inl hn)).2⟩, c2, fun _ j _ h2 => absurd h2 (by omega), fun i h1 _ h3 => (c1 i h1 h3).1.2.2, ?_⟩
  have d := (c1 h.toNat (by omega) (Or.inl hn)).1
  rcases c3 with ⟨e, -⟩ | ⟨i, e1, e2, e3⟩
  · left; omega
  · by_cases hi2 : (i : Int) = h
    · left
      rw [← hi i hi2, e3]
      exact Int.le_refl _
    · exact Or.inr ⟨i, e1, hi2, e2, e3⟩
theorem cO_00 (hr : rkH Bl R) (hs : s ≤ 8) (c : cH Bl R s n h most L) (hn : n = 0) (hh : 0 ≤ h ∧ h < s) (e : L2 = ud L h.toNat 1) : cO Bl R s n h o most L2 := by
  subst hn
  subst e
  obtain ⟨c1, c2, c3⟩ := c
  have e1 : ∀ i : Nat, ¬ (i : Int) = h → ud L h.toNat 1 i = L i := fun i hi => ud_n _ _ (by omega)
  have e2 : ud L h.toNat 1 h.toNat = 1 := ud_s ..
  have vac : ∀ i o : Nat, (i : Int) < s → (o : Int) < s → (R i : Int) ≤ 0 → Bl i o → False := fun i o h1 h2 h3 h4 => by
    have := hr.2 i o (by omega) (by omega) h4
    omega
  refine ⟨fun i h1 h2 => ?_, fun i h1 h2 o h3 h4 => (vac i o h1 h3 (by omega) h4).elim, fun h1 j h2 _ h4 => ?_, fun i h1 h2 h3 => ?_, ?_⟩
  · by_cases hi : (i : Int) = h
    · have : i = h.toNat := by omega
      subst this
      rw [e2]
      exact ⟨⟨by omega, by omega⟩, Or.inl (by omega)⟩
    · rw [e1 i hi]
      have d := (c1 i h1 (Or.inr (by omega))).1
      refine ⟨⟨d.1, d.2.1⟩, ?_⟩
      rcases (c1 i h1 (Or.inr (by omega))).2 with h5 | ⟨h5, -⟩
      · exact Or.inl h5
      · omega
  · have : (h.toNat : Int) = h := by omega
    rw [← this] at h4
    exact (vac h.toNat j (by omega) h2 (by omega) h4).elim
  · rw [e1 i h2]
    exact (c1 i h1 h3).1.2.2
  · rcases c3 with ⟨e, -⟩ | ⟨i, d1, d2, d3⟩
    · left; rw [e2]; omega
    · by_cases hi2 : (i : Int) = h
      · omega
      · exact Or.inr ⟨i, d1, hi2, d2, by rw [e1 i hi2]; exact d3⟩
theorem cO_k (c : cO Bl R s n h o most L) (hh : 0 ≤ h) (ho : 0 ≤ o) {z z2 : Int} (e : L o.toNat = z) (e2 : L h.toNat = z2) (hk : ¬ Bl h o ∨ z < z2) : cO Bl R s n h (o + 1) most L := by
  obtain ⟨c1, c2, c3, c4, c5⟩ := c
  refine ⟨c1, c2, fun h1 j h2 h3 h4 => ?_, c4, c5⟩
  rcases (by omega : (j : Int) < o ∨ (j : Int) = o) with h5 | h5
  · exact c3 h1 j h2 h5 h4
  · rw [h5] at h4
    rcases hk with hk | hk
    · exact absurd h4 hk
    · rw [show j = o.toNat by omega, e, e2]
      exact hk
theorem cO_kn (c : cO Bl R s n h o most L) (hh : 0 ≤ h) (ho : 0 ≤ o) (hk : ¬ Bl h o) : cO Bl R s n h (o + 1) most L := cO_k c hh ho rfl rfl (Or.inl hk)
theorem cO_u (hr : rkH Bl R) (hs : s ≤ 8) (c : cO Bl R s n h o most L) (hn : 1 ≤ n) (hh : 0 ≤ h ∧ h < s) (ho : 0 ≤ o ∧ o < s) (hB : Bl h o) {z z2 z3 : Int} (e : L o.toNat = z) (e2 : L h.toNat = z2) (hz : z2 ≤ z) (e3 : L2 = ud L h.toNat z3) (hz3 : z3 = z + 1) : cO Bl R s n h (o + 1) most L2 := by
  subst hz3
  obtain ⟨c1, c2, c3, c4, c5⟩ := c
  have t1 : (h.toNat : Int) = h := by omega
  have t2 : (o.toNat : Int) = o := by omega
  have hB2 : Bl (h.toNat : Int) (o.toNat : Int) := by rw [t1, t2]; exact hB
  have r1 := hr.2 h.toNat o.toNat (by omega) (by omega) hB2
  have e4 : ∀ i : Nat, ¬ (i : Int) = h → L2 i = L i := fun i hi => by rw [e3]; exact ud_n _ _ (by omega)
  have e5 : L2 h.toNat = z + 1 := by rw [e3]; exact ud_s ..
  have e6 : ∀ i : Nat, L i ≤ L2 i := fun i => by
    by_cases hi : (i : Int) = h
    · rw [show i = h.toNat by omega, e5, e2]; omega
    · rw [e4 i hi]; exact Int.le_refl _
  have hno : ¬ ((R h.toNat : Int) < n) := fun q => by
    have := c2 h.toNat (by omega) (Or.inl q) o.toNat (by omega) hB2
    omega
  have hoh : ¬ (o.toNat : Int) = h := fun q => by
    have : o.toNat = h.toNat := by omega
    rw [this] at r1
    omega
  have d0 := (c1 o.toNat (by omega) (Or.inl hn)).1
  refine ⟨fun i h1 h2 => ?_, fun i h1 h2 j h3 h4 => ?_, fun h1 j h2 h3 h4 => ?_, fun i h1 h2 h3 => ?_, ?_⟩
  · by_cases hi : (i : Int) = h
    · have : i = h.toNat := by omega
      subst this
      rw [e5]
      refine ⟨⟨by omega, by omega⟩, Or.inr ⟨hn, o.toNat, by omega, hB2, ?_⟩⟩
      rw [e4 _ hoh, e]
      exact Int.le_refl _
    · rw [e4 i hi]
      have d := c1 i h1 h2
      refine ⟨d.1, ?_⟩
      rcases d.2 with d | ⟨d1, j, d2, d3, d4⟩
      · exact Or.inl d
      · refine Or.inr ⟨d1, j, d2, d3, ?_⟩
        have := e6 j
        omega
  · have hi : ¬ (i : Int) = h := fun q => by
      have : i = h.toNat := by omega
      subst this
      omega
    have hj : ¬ (j : Int) = h := fun q => by
      have : j = h.toNat := by omega
      subst this
      have := hr.2 i h.toNat (by omega) (by omega) h4
      omega
    rw [e4 i hi, e4 j hj]
    exact c2 i h1 h2 j h3 h4
  · have hj : ¬ (j : Int) = h := fun q => by
      have q2 : j = h.toNat := by omega
      subst q2
      rw [← t1] at h4
      have := hr.2 h.toNat h.toNat (by omega) (by omega) h4
      omega
    rw [e5, e4 j hj]
    rcases (by omega : (j : Int) < o ∨ j = o.toNat) with h5 | h5
    · have := c3 h1 j h2 h5 h4
      omega
    · rw [h5, e]; omega
  · rw [e4 i h2]
    exact c4 i h1 h2 h3
  · rcases c5 with c5 | ⟨i, d1, d2, d3, d4⟩
    · left
      rw [e5]
      omega
    · exact Or.inr ⟨i, d1, d2, d3, by rw [e4 i d2]; exact d4⟩
theorem cO_b (hr : rkH Bl R) (hs : s ≤ 8) (c : cO Bl R s n h o most L) (hn : 1 ≤ n) {i z : Int} (hi : 0 ≤ i ∧ i < s) (e : L i.toNat = z) : 1 ≤ z ∧ z ≤ 8 := by
  have d := (c.1 i.toNat (by omega) (Or.inl hn)).1
  have := hr.1 i.toNat (by omega)
  omega
theorem cO_e (hr : rkH Bl R) (hs : s ≤ 8) (c : cO Bl R s n h o most L) (hn : 0 ≤ n) (hh : 0 ≤ h ∧ h < s) (ho : s ≤ o ∨ n ≤ 0) {z : Int} (e : L h.toNat = z) (hm : (z ≤ most ∧ m2 = most) ∨ (most < z ∧ m2 = z)) : cH Bl R s n (h + 1) m2 L := by
  obtain ⟨c1, c2, c3, c4, c5⟩ := c
  have t1 : (h.toNat : Int) = h := by omega
  refine ⟨fun i h1 h2 => ?_, fun i h1 h2 j h3 h4 => ?_, ?_⟩
  · clear c5
    have q : 1 ≤ n ∨ (i : Int) ≤ h := by omega
    refine ⟨⟨(c1 i h1 q).1.1, (c1 i h1 q).1.2, ?_⟩, (c1 i h1 q).2⟩
    by_cases hi : (i : Int) = h
    · rw [show i = h.toNat by omega, e]; omega
    · have := c4 i h1 hi (by omega)
      omega
  · rcases (by omega : ((R i : Int) < n ∨ ((R i : Int) = n ∧ (i : Int) < h)) ∨ ((R i : Int) = n ∧ (i : Int) = h)) with h5 | ⟨h5, h6⟩
    · exact c2 i h1 h5 j h3 h4
    · have h7 : i = h.toNat := by omega
      rcases ho with ho | ho
      · rw [h6] at h4
        rw [h7] at h5 ⊢
        exact c3 h5 j h3 (by omega) h4
      · have := hr.2 i j (by omega) (by omega) h4
        omega
  · have d := (c1 h.toNat (by omega) (by omega)).1
    rcases c5 with c5 | ⟨i, d1, d2, d3, d4⟩
    · exact Or.inr ⟨h.toNat, by omega, by omega, by omega⟩
    · rcases hm with hm | hm
      · exact Or.inr ⟨i, d1, by omega, by omega⟩
      · exact Or.inr ⟨h.toNat, by omega, by omega, by omega⟩
theorem cH_r (c : cH Bl R s n h most L) (hn : 0 ≤ n) (hh : s ≤ h) : cH Bl R s (n + 1) 0 most L := by
  obtain ⟨c1, c2, c3⟩ := c
  refine ⟨fun i h1 h2 => ?_, fun i h1 h2 j h3 h4 => c2 i h1 (by omega) j h3 h4, ?_⟩
  · have d := c1 i h1 (by omega)
    refine ⟨d.1, ?_⟩
    rcases d.2 with d | ⟨d1, d⟩
    · exact Or.inl d
    · exact Or.inr ⟨by omega, d⟩
  · rcases c3 with ⟨e, d⟩ | ⟨i, d1, d2, d3⟩
    · exact Or.inl ⟨e, by omega⟩
    · exact Or.inr ⟨i, d1, by omega, d3⟩
/-- all heights are right -/
def cF (Bl : Int → Int → Prop) (s most : Int) (L : Nat → Int) : Prop :=
  (∀ i : Nat, (i : Int) < s → (L i ≤ 1 ∨ ∃ o : Nat, (o : Int) < s ∧ Bl i o ∧ L i = L o + 1)) ∧ (most = 0 ∨ ∃ i : Nat, (i : Int) < s ∧ L i = most) ∧ (0 ≤ most ∧ most ≤ 8)
theorem cF_of (hr : rkH Bl R) (hs : s ≤ 8) (c : cH Bl R s n h most L) (hn : 8 ≤ n) : cF Bl s most L := by
  obtain ⟨c1, c2, c3⟩ := c
  have b : ∀ i : Nat, (i : Int) < s → R i ≤ 7 := fun i hi => hr.1 i (by omega)
  refine ⟨fun i h1 => ?_, ?_, ?_⟩
  · rcases (c1 i h1 (by omega)).2 with d | ⟨-, o, d1, d2, d3⟩
    · exact Or.inl d
    · have := c2 i h1 (Or.inl (by have := b i h1; omega)) o d1 d2
      exact Or.inr ⟨o, d1, d2, by omega⟩
  · rcases c3 with ⟨e, -⟩ | ⟨i, d1, -, d3⟩
    · exact Or.inl e
    · exact Or.inr ⟨i, d1, d3⟩
  · rcases c3 with ⟨e, -⟩ | ⟨i, d1, d2, d3⟩
    · omega
    · have := (c1 i d1 d2).1
      have := b i d1
      omega
def cK (s : Int) (L Row : Nat → Int) (most k : Int) : Prop := k ≤ 0 ∨ ∃ u : Nat, (u : Int) < s ∧ Row (k - 1).toNat = u ∧ L u = most - k + 1
def cE (Bl : Int → Int → Prop) (s : Int) (L Row : Nat → Int) (most k h : Int) : Prop := ∃ u : Nat, h ≤ u ∧ (u : Int) < s ∧ L u = most - k ∧ (k ≤ 0 ∨ Bl (Row (k - 1).toNat) u)
theorem cK_b (c : cK s L Row most k) (hk : 1 ≤ k) {z : Int} (e : Row (k - 1).toNat = z) : 0 ≤ z ∧ z < s := by
  rcases c with c | ⟨u, h1, h2, -⟩
  · omega
  · omega
theorem cE_0 (f : cF Bl s most L) (c : cK s L Row most k) (hk : 0 ≤ k ∧ k < most) (hh : h = 0) : cE Bl s L Row most k h := by
  obtain ⟨f1, f2, f3⟩ := f
  rcases c with c | ⟨u, h1, h2, h3⟩
  · rcases f2 with f2 | ⟨i, g1, g2⟩
    · omega
    · exact ⟨i, by omega, g1, by omega, Or.inl c⟩
  · rcases f1 u h1 with g | ⟨o, g1, g2, g3⟩
    · omega
    · exact ⟨o, by omega, g1, by omega, Or.inr (by rw [h2]; exact g2)⟩
theorem cE_b (c : cE Bl s L Row most k h) : h < s := by
  obtain ⟨u, h1, h2, -⟩ := c
  omega
theorem cE_n (c : cE Bl s L Row most k h) (hh : 0 ≤ h) {z : Int} (e : L h.toNat = z) (hz : ¬ z = most - k) : cE Bl s L Row most k (h + 1) := by
  obtain ⟨u, h1, h2, h3, h4⟩ := c
  refine ⟨u, ?_, h2, h3, h4⟩
  rcases (by omega : h + 1 ≤ u ∨ u = h.toNat) with h5 | h5
  · exact h5
  · rw [h5] at h3
    omega
theorem cE_n2 (c : cE Bl s L Row most k h) (hh : 0 ≤ h) (hk : 1 ≤ k) {z : Int} (e : Row (k - 1).toNat = z) (hz : ¬ Bl z h) : cE Bl s L Row most k (h + 1) := by
  obtain ⟨u, h1, h2, h3, h4⟩ := c
  refine ⟨u, ?_, h2, h3, h4⟩
  rcases (by omega : h + 1 ≤ u ∨ (u : Int) = h) with h5 | h5
  · exact h5
  · rcases h4 with h4 | h4
    · omega
    · rw [h5, e] at h4
      exact absurd h4 hz
theorem cK_s (hk : 0 ≤ k) (hh : 0 ≤ h ∧ h < s) {z : Int} (e : L h.toNat = z) (hz : z = most - k) (e2 : Row2 = ud Row k.toNat h) : cK s L Row2 most (k + 1) := by
  refine Or.inr ⟨h.toNat, by omega, ?_, by omega⟩
  rw [e2, show (k + 1 - 1).toNat = k.toNat by omega, ud_s]
  omega
end CHAIN
