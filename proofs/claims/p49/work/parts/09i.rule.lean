/-! ===== rules: what is emitted is a right row ===== -/
def rpn (F : Nat → Int) (c0 : Nat) : Nat → Option Nat
  | 0 => some 0
  | n + 1 => match rpn F c0 n with
    | none => none
    | some d => if F (c0 + n) = 126 then (if 1 ≤ d then some d else none) else if 97 ≤ F (c0 + n) ∧ F (c0 + n) ≤ 122 then (if d < 30 then some (d + 1) else none) else (if 2 ≤ d then some (d - 1) else none)
theorem rpn_s (F : Nat → Int) (c0 n : Nat) : rpn F c0 (n + 1) = match rpn F c0 n with
    | none => none
    | some d => if F (c0 + n) = 126 then (if 1 ≤ d then some d else none) else if 97 ≤ F (c0 + n) ∧ F (c0 + n) ≤ 122 then (if d < 30 then some (d + 1) else none) else (if 2 ≤ d then some (d - 1) else none) := rfl
theorem rpn_cong {F G : Nat → Int} {c0 : Nat} : ∀ {n : Nat}, (∀ j, j < n → F (c0 + j) = G (c0 + j)) → rpn F c0 n = rpn G c0 n
  | 0, _ => rfl
  | n + 1, h => by rw [rpn_s, rpn_s, rpn_cong (n := n) (fun j hj => h j (by omega)), h n (by omega)]
theorem rpn_ud {F : Nat → Int} {c0 n k : Nat} {v : Int} (h : c0 + n ≤ k) : rpn (ud F k v) c0 n = rpn F c0 n := rpn_cong (fun j hj => ud_n _ _ (by omega))
theorem rpn_pre {F : Nat → Int} {c0 n d : Nat} (h : rpn F c0 (n + 1) = some d) : ∃ d', rpn F c0 n = some d' := by
  rw [rpn_s] at h
  cases q : rpn F c0 n with
  | none => rw [q] at h; cases h
  | some x => exact ⟨x, rfl⟩
theorem rpn_all {F : Nat → Int} {c0 d : Nat} : ∀ {n : Nat}, rpn F c0 n = some d → ∀ m, m ≤ n → ∃ d', rpn F c0 m = some d'
  | 0, h, m, hm => ⟨d, by rw [show m = 0 by omega]; exact h⟩
  | n + 1, h, m, hm => by
    rcases Nat.lt_or_ge m (n + 1) with q | q
    · obtain ⟨d', h'⟩ := rpn_pre h
      exact rpn_all h' m (by omega)
    · exact ⟨d, by rw [show m = n + 1 by omega]; exact h⟩
theorem rpn_le {F : Nat → Int} {c0 : Nat} : ∀ {n d : Nat}, rpn F c0 n = some d → d ≤ 30
  | 0, d, h => by cases h; omega
  | n + 1, d, h => by
    obtain ⟨x, hx⟩ := rpn_pre h
    have ih := rpn_le hx
    rw [rpn_s, hx] at h
    simp only at h
    split at h
    · split at h
      · cases h; omega
      · cases h
    · split at h
      · split at h
        · cases h; omega
        · cases h
      · split at h
        · cases h; omega
        · cases h
/-- one step -/
theorem rpn_not {F : Nat → Int} {c0 n d : Nat} (h : rpn F c0 n = some d) (hc : F (c0 + n) = 126) (hd : 1 ≤ d) : rpn F c0 (n + 1) = some d := by
  rw [rpn_s, h]
  simp [hc, hd]
theorem rpn_let {F : Nat → Int} {c0 n d : Nat} (h : rpn F c0 n = some d) (hc : 97 ≤ F (c0 + n) ∧ F (c0 + n) ≤ 122) (hd : d < 30) : rpn F c0 (n + 1) = some (d + 1) := by
  rw [rpn_s, h]
  simp only
  rw [if_neg (by omega), if_pos hc, if_pos hd]
theorem rpn_bin {F : Nat → Int} {c0 n d : Nat} (h : rpn F c0 n = some d) (hc : ¬ F (c0 + n) = 126 ∧ ¬ (97 ≤ F (c0 + n) ∧ F (c0 + n) ≤ 122)) (hd : 2 ≤ d) : rpn F c0 (n + 1) = some (d - 1) := by
  rw [rpn_s, h]
  simp only
  rw [if_neg hc.1, if_neg hc.2, if_pos hd]
/-- the pile -/
def nB (F : Nat → Int) : Nat → Nat
  | 0 => 0
  | n + 1 => nB F n + (if F n ≤ 6 ∧ ¬ F n = 3 then 1 else 0)
def nN (F : Nat → Int) : Nat → Nat
  | 0 => 0
  | n + 1 => nN F n + (if F n = 3 then 1 else 0)
def nK (F : Nat → Int) : Nat → Nat
  | 0 => 0
  | n + 1 => nK F n + (if F n = 7 then 1 else 0)
theorem nB_ud {F : Nat → Int} {k : Nat} {v : Int} : ∀ {n : Nat}, n ≤ k → nB (ud F k v) n = nB F n
  | 0, _ => rfl
  | n + 1, h => by show nB (ud F k v) n + _ = nB F n + _; rw [nB_ud (n := n) (by omega), ud_n _ _ (by omega)]
theorem nN_ud {F : Nat → Int} {k : Nat} {v : Int} : ∀ {n : Nat}, n ≤ k → nN (ud F k v) n = nN F n
  | 0, _ => rfl
  | n + 1, h => by show nN (ud F k v) n + _ = nN F n + _; rw [nN_ud (n := n) (by omega), ud_n _ _ (by omega)]
theorem nK_ud {F : Nat → Int} {k : Nat} {v : Int} : ∀ {n : Nat}, n ≤ k → nK (ud F k v) n = nK F n
  | 0, _ => rfl
  | n + 1, h => by show nK (ud F k v) n + _ = nK F n + _; rw [nK_ud (n := n) (by omega), ud_n _ _ (by omega)]
def isBin (s : Int) : Prop := ¬ s = 126 ∧ ¬ (97 ≤ s ∧ s ≤ 122)
/-- n: how many were emitted; P: how many lie on the pile; w: 1 if a unit is wanted -/
def eN (w n P wi u : Nat) (c0 : Nat) (code eW eS : Nat → Int) : Prop :=
  (1 ≤ P ∧ u ≤ 30 ∧ wi ≤ 7 ∧ w ≤ 1) ∧ eW 0 = 8 ∧ (∀ j, 1 ≤ j → j < P → 1 ≤ eW j ∧ eW j ≤ 7) ∧ (∀ j, j < P → eW j ≤ 6 → (eW j = 3 → eS j = 126) ∧ (¬ eW j = 3 → isBin (eS j))) ∧
  rpn code c0 n = some (nB eW P + (1 - w)) ∧ wi = nN eW P + nK eW P ∧ P = 1 + nB eW P + nN eW P + nK eW P ∧ nB eW P + (1 - w) ≤ u ∧ (w = 1 → n + nB eW P + nN eW P ≤ 9 * u + wi) ∧ (w = 0 → n + nB eW P + nN eW P + 1 ≤ 9 * u)
section EN
variable {w n P wi u c0 : Nat} {code eW eS code2 eW2 eS2 : Nat → Int} {v sg : Int}
theorem eN_0 {F : Nat → Int} (h : eW 0 = 8) : eN 1 0 1 0 0 c0 code eW eS := by
  have h1 : nB eW 1 = 0 := by show 0 + _ = 0; rw [h]; rfl
  have h2 : nN eW 1 = 0 := by show 0 + _ = 0; rw [h]; rfl
  have h3 : nK eW 1 = 0 := by show 0 + _ = 0; rw [h]; rfl
  refine ⟨by omega, h, fun j a b => by omega, fun j a b => ?_, ?_, by omega, by omega, by omega, by omega, by omega⟩
  · have : j = 0 := by omega
    subst this
    omega
  · rw [h1]
    rfl
theorem eN_push (h : eN 1 n P wi u c0 code eW eS) (hv : v = 3 ∨ v = 7) (h1 : eW2 = ud eW P v) (h2 : eS2 = ud eS P 126) (hw : wi ≤ 6) {u2 : Nat} (hu : (v = 3 ∧ u2 = u) ∨ (v = 7 ∧ u2 = u + 1 ∧ u < 30)) : eN 1 n (P + 1) (wi + 1) u2 c0 code eW2 eS2 := by
  obtain ⟨a0, a1, a2, a3, a4, a5, a6, a7, a8, a9⟩ := h
  subst h1
  subst h2
  have b1 : nB (ud eW P v) (P + 1) = nB eW P := by
    show nB (ud eW P v) P + (if ud eW P v P ≤ 6 ∧ ¬ ud eW P v P = 3 then 1 else 0) = _
    rw [nB_ud (Nat.le_refl _), ud_s, if_neg (by omega)]
    omega
  have b2 : nN (ud eW P v) (P + 1) = nN eW P + (if v = 3 then 1 else 0) := by
    show nN (ud eW P v) P + (if ud eW P v P = 3 then 1 else 0) = _
    rw [nN_ud (Nat.le_refl _), ud_s]
  have b3 : nK (ud eW P v) (P + 1) = nK eW P + (if v = 7 then 1 else 0) := by
    show nK (ud eW P v) P + (if ud eW P v P = 7 then 1 else 0) = _
    rw [nK_ud (Nat.le_refl _), ud_s]
  have a8' := a8 rfl
  refine ⟨by omega, by rw [ud_n _ _ (by omega)]; exact a1, fun j x y => ?_, fun j x y => ?_, ?_, ?_, ?_, ?_, fun _ => ?_, fun q => absurd q (by omega)⟩
  · by_cases q : j = P
    · subst q
      rw [ud_s]
      omega
    · rw [ud_n _ _ q]
      exact a2 j x (by omega)
  · by_cases q : j = P
    · subst q
      rw [ud_s] at y ⊢
      rw [ud_s]
      exact ⟨fun _ => rfl, fun q => by omega⟩
    · rw [ud_n _ _ q] at y ⊢
      rw [ud_n _ _ q]
      exact a3 j (by omega) y
  · rw [b1]
    exact a4
  · rw [b2, b3]
    rcases hv with rfl | rfl
    · rw [if_pos rfl, if_neg (by decide)]
      omega
    · rw [if_neg (by decide), if_pos rfl]
      omega
  · rw [b1, b2, b3]
    rcases hv with rfl | rfl
    · rw [if_pos rfl, if_neg (by decide)]
      omega
    · rw [if_neg (by decide), if_pos rfl]
      omega
  · rw [b1]
    omega
  · rw [b1, b2]
    rcases hv with rfl | rfl
    · rw [if_pos rfl]
      omega
    · rw [if_neg (by decide)]
      omega
theorem eN_let (h : eN 1 n P wi u c0 code eW eS) (hv : 97 ≤ v ∧ v ≤ 122) (h1 : code2 = ud code (c0 + n) v) (hu : u < 30) : eN 0 (n + 1) P wi (u + 1) c0 code2 eW eS := by
  obtain ⟨a0, a1, a2, a3, a4, a5, a6, a7, a8, a9⟩ := h
  subst h1
  have a8' := a8 rfl
  refine ⟨by omega, a1, a2, a3, ?_, a5, a6, by omega, fun q => absurd q (by omega), fun _ => by omega⟩
  have := rpn_let (F := ud code (c0 + n) v) (c0 := c0) (n := n) (d := nB eW P) (by rw [rpn_ud (Nat.le_refl _), a4]; rfl) (by rw [ud_s]; exact hv) (by omega)
  rw [this]
theorem eN_bin (h : eN 0 n P wi u c0 code eW eS) (hv : 1 ≤ v ∧ v ≤ 6 ∧ ¬ v = 3) (hs : isBin sg) (h1 : eW2 = ud eW P v) (h2 : eS2 = ud eS P sg) : eN 1 n (P + 1) wi u c0 code eW2 eS2 := by
  obtain ⟨a0, a1, a2, a3, a4, a5, a6, a7, a8, a9⟩ := h
  subst h1
  subst h2
  have b1 : nB (ud eW P v) (P + 1) = nB eW P + 1 := by
    show nB (ud eW P v) P + (if ud eW P v P ≤ 6 ∧ ¬ ud eW P v P = 3 then 1 else 0) = _
    rw [nB_ud (Nat.le_refl _), ud_s, if_pos (by omega)]
  have b2 : nN (ud eW P v) (P + 1) = nN eW P := by
    show nN (ud eW P v) P + (if ud eW P v P = 3 then 1 else 0) = _
    rw [nN_ud (Nat.le_refl _), ud_s, if_neg (by omega)]
    omega
  have b3 : nK (ud eW P v) (P + 1) = nK eW P := by
    show nK (ud eW P v) P + (if ud eW P v P = 7 then 1 else 0) = _
    rw [nK_ud (Nat.le_refl _), ud_s, if_neg (by omega)]
    omega
  have a9' := a9 rfl
  refine ⟨by omega, by rw [ud_n _ _ (by omega)]; exact a1, fun j x y => ?_, fun j x y => ?_, ?_, by omega, by omega, by omega, fun _ => by omega, fun q => absurd q (by omega)⟩
  · by_cases q : j = P
    · subst q
      rw [ud_s]
      omega
    · rw [ud_n _ _ q]
      exact a2 j x (by omega)
  · by_cases q : j = P
    · subst q
      rw [ud_s] at y ⊢
      rw [ud_s]
      exact ⟨fun q => by omega, fun _ => hs⟩
    · rw [ud_n _ _ q] at y ⊢
      rw [ud_n _ _ q]
      exact a3 j (by omega) y
  · rw [b1, a4]
theorem eN_pop (h : eN 0 n (P + 1) wi u c0 code eW eS) (hz : eW P ≤ 6) (h1 : code2 = ud code (c0 + n) (eS P)) {wi2 : Nat} (hw : (eW P = 3 ∧ wi2 + 1 = wi) ∨ (¬ eW P = 3 ∧ wi2 = wi)) : eN 0 (n + 1) P wi2 u c0 code2 eW eS := by
  obtain ⟨a0, a1, a2, a3, a4, a5, a6, a7, a8, a9⟩ := h
  subst h1
  have hP : 1 ≤ P := by
    rcases (by omega : P = 0 ∨ 1 ≤ P) with q | q
    · subst q
      omega
    · exact q
  have b1 : nB eW (P + 1) = nB eW P + (if eW P ≤ 6 ∧ ¬ eW P = 3 then 1 else 0) := rfl
  have b2 : nN eW (P + 1) = nN eW P + (if eW P = 3 then 1 else 0) := rfl
  have b3 : nK eW (P + 1) = nK eW P + (if eW P = 7 then 1 else 0) := rfl
  rw [if_neg (by omega)] at b3
  have a9' := a9 rfl
  have a3' := a3 P (by omega) hz
  rcases hw with ⟨q, hw⟩ | ⟨q, hw⟩
  · rw [if_neg (by omega)] at b1
    rw [if_pos q] at b2
    refine ⟨by omega, a1, fun j x y => a2 j x (by omega), fun j x y => a3 j (by omega) y, ?_, by omega, by omega, by omega, fun q => absurd q (by omega), fun _ => by omega⟩
    have := rpn_not (F := ud code (c0 + n) (eS P)) (c0 := c0) (n := n) (d := nB eW P + (1 - 0)) (by rw [rpn_ud (Nat.le_refl _), a4, b1]) (by rw [ud_s]; exact a3'.1 q) (by omega)
    exact this
  · rw [if_pos ⟨hz, q⟩] at b1
    rw [if_neg q] at b2
    refine ⟨by omega, a1, fun j x y => a2 j x (by omega), fun j x y => a3 j (by omega) y, ?_, by omega, by omega, by omega, fun q => absurd q (by omega), fun _ => by omega⟩
    have := rpn_bin (F := ud code (c0 + n) (eS P)) (c0 := c0) (n := n) (d := nB eW (P + 1) + (1 - 0)) (by rw [rpn_ud (Nat.le_refl _), a4]) (by rw [ud_s]; exact a3'.2 q) (by omega)
    rw [this, b1]
    congr 1
theorem eN_close (h : eN 0 n (P + 1) wi u c0 code eW eS) (hz : eW P = 7) {wi2 : Nat} (hw : wi2 + 1 = wi) : eN 0 n P wi2 u c0 code eW eS := by
  obtain ⟨a0, a1, a2, a3, a4, a5, a6, a7, a8, a9⟩ := h
  have hP : 1 ≤ P := by
    rcases (by omega : P = 0 ∨ 1 ≤ P) with q | q
    · subst q
      omega
    · exact q
  have b1 : nB eW (P + 1) = nB eW P + (if eW P ≤ 6 ∧ ¬ eW P = 3 then 1 else 0) := rfl
  have b2 : nN eW (P + 1) = nN eW P + (if eW P = 3 then 1 else 0) := rfl
  have b3 : nK eW (P + 1) = nK eW P + (if eW P = 7 then 1 else 0) := rfl
  rw [if_neg (by omega)] at b1
  rw [if_neg (by omega)] at b2
  rw [if_pos hz] at b3
  have a9' := a9 rfl
  exact ⟨by omega, a1, fun j x y => a2 j x (by omega), fun j x y => a3 j (by omega) y, by rw [a4, b1], by omega, by omega, by omega, fun q => absurd q (by omega), fun _ => by omega⟩
theorem eN_end (h : eN 0 n (P + 1) wi u c0 code eW eS) (hz : eW P = 8) : P = 0 ∧ n ≤ 9 * u ∧ rpn code c0 n = some 1 := by
  obtain ⟨a0, a1, a2, a3, a4, a5, a6, a7, a8, a9⟩ := h
  have a9' := a9 rfl
  rcases (by omega : P = 0 ∨ 1 ≤ P) with q | q
  · subst q
    have b1 : nB eW 1 = 0 := by show 0 + _ = 0; rw [hz]; rfl
    rw [b1] at a4
    exact ⟨rfl, by omega, a4⟩
  · have := a2 P q (by omega)
    omega
theorem eN_top (h : eN w n P wi u c0 code eW eS) : eW (P - 1) ≤ 8 ∧ 1 ≤ eW (P - 1) := by
  obtain ⟨a0, a1, a2, -⟩ := h
  rcases (by omega : P - 1 = 0 ∨ 1 ≤ P - 1) with q | q
  · rw [q]
    omega
  · have := a2 (P - 1) q (by omega)
    omega
theorem eN_b (h : eN w n P wi u c0 code eW eS) : (P ≤ 38 ∧ 1 ≤ P) ∧ n ≤ 9 * u + 7 ∧ u ≤ 30 ∧ wi ≤ 7 := by
  obtain ⟨a0, a1, a2, a3, a4, a5, a6, a7, a8, a9⟩ := h
  rcases (by omega : w = 1 ∨ w = 0) with q | q
  · have := a8 q
    omega
  · have := a9 q
    omega
end EN
/-- over ints; c0: where the rule's code begins -/
def eI (w c0 codes piled within u : Int) (code eW eS : Nat → Int) : Prop := (0 ≤ c0 ∧ c0 ≤ codes ∧ 1 ≤ piled ∧ 0 ≤ within ∧ 0 ≤ u ∧ 0 ≤ w) ∧ eN w.toNat (codes - c0).toNat piled.toNat within.toNat u.toNat c0.toNat code eW eS
def eOK (c0 codes u : Int) (code : Nat → Int) : Prop := (0 ≤ c0 ∧ c0 ≤ codes ∧ codes ≤ c0 + 9 * u) ∧ rpn code c0.toNat (codes - c0).toNat = some 1
/-- fk: the fault; w: what unit() and behindUnit() answered -/
def eSt (fk w c0 codes piled within u : Int) (code eW eS : Nat → Int) : Prop := 1 ≤ fk ∨ ((w = 0 ∨ w = 1) ∧ 1 ≤ piled ∧ eI w c0 codes piled within u code eW eS) ∨ (w = 0 ∧ piled = 0 ∧ eOK c0 codes u code)
section EI
variable {c0 codes piled within u v sg fk w : Int} {code eW eS code2 eW2 eS2 eN2 : Nat → Int}
theorem eI_b (h : eI w c0 codes piled within u code eW eS) : (1 ≤ piled ∧ piled ≤ 38) ∧ (c0 ≤ codes ∧ codes ≤ c0 + 9 * u + 7) ∧ (0 ≤ u ∧ u ≤ 30) ∧ (0 ≤ within ∧ within ≤ 7) ∧ eW 0 = 8 := by
  obtain ⟨h0, h⟩ := h
  have := eN_b h
  have h8 := h.2.1
  refine ⟨by omega, by omega, by omega, by omega, h8⟩
theorem eI_top (h : eI w c0 codes piled within u code eW eS) {z : Int} (e : eW (piled - 1).toNat = z) : 1 ≤ z ∧ z ≤ 8 := by
  obtain ⟨h0, h⟩ := h
  have := eN_top h
  rw [show piled.toNat - 1 = (piled - 1).toNat by omega, e] at this
  omega
theorem eI_0 (h : eW2 = ud eW 0 8) (hc : 0 ≤ c0) : eI 1 c0 c0 1 0 0 code eW2 eS := by
  refine ⟨by omega, ?_⟩
  rw [show (c0 - c0).toNat = 0 by omega]
  exact eN_0 (F := code) (by rw [h, ud_s])
theorem eI_push (h : eI 1 c0 codes piled within u code eW eS) (hv : v = 3 ∨ v = 7) (h1 : eW2 = ud eW piled.toNat v) (h2 : eS2 = ud eS piled.toNat 126) (hw : within ≤ 6) {u2 : Int} (hu : (v = 3 ∧ u2 = u) ∨ (v = 7 ∧ u2 = u + 1 ∧ u < 30)) : eI 1 c0 codes (piled + 1) (within + 1) u2 code eW2 eS2 := by
  obtain ⟨h0, h⟩ := h
  refine ⟨by omega, ?_⟩
  rw [show (piled + 1).toNat = piled.toNat + 1 by omega, show (within + 1).toNat = within.toNat + 1 by omega]
  exact eN_push h hv h1 h2 (by omega) (by omega)
theorem eI_let (h : eI 1 c0 codes piled within u code eW eS) (hv : 97 ≤ v ∧ v ≤ 122) (h1 : code2 = ud code codes.toNat v) (hu : u < 30) : eI 0 c0 (codes + 1) piled within (u + 1) code2 eW eS := by
  obtain ⟨h0, h⟩ := h
  refine ⟨by omega, ?_⟩
  rw [show (codes + 1 - c0).toNat = (codes - c0).toNat + 1 by omega, show (u + 1).toNat = u.toNat + 1 by omega]
  exact eN_let h hv (by rw [h1, show codes.toNat = c0.toNat + (codes - c0).toNat by omega]) (by omega)
theorem eI_bin (h : eI 0 c0 codes piled within u code eW eS) (hv : 1 ≤ v ∧ v ≤ 6 ∧ ¬ v = 3) (hs : ¬ sg = 126 ∧ ¬ (97 ≤ sg ∧ sg ≤ 122)) (h1 : eW2 = ud eW piled.toNat v) (h2 : eS2 = ud eS piled.toNat sg) : eI 1 c0 codes (piled + 1) within u code eW2 eS2 := by
  obtain ⟨h0, h⟩ := h
  refine ⟨by omega, ?_⟩
  rw [show (piled + 1).toNat = piled.toNat + 1 by omega]
  exact eN_bin h hv hs h1 h2
theorem eI_pop (h : eI 0 c0 codes piled within u code eW eS) {z : Int} (e : eW (piled - 1).toNat = z) (hz : z ≤ 6) (es : eS (piled - 1).toNat = sg) (h1 : code2 = ud code codes.toNat sg) {within2 : Int} (hw : (z = 3 ∧ within2 = within - 1) ∨ (¬ z = 3 ∧ within2 = within)) : 1 ≤ piled - 1 ∧ eI 0 c0 (codes + 1) (piled - 1) within2 u code2 eW eS := by
  obtain ⟨h0, h⟩ := h
  rw [show piled.toNat = (piled - 1).toNat + 1 by omega] at h
  have hw0 : z = 3 → 1 ≤ within := by
    intro q
    obtain ⟨-, -, -, -, -, a5, -⟩ := h
    have b2 : nN eW ((piled - 1).toNat + 1) = nN eW (piled - 1).toNat + (if eW (piled - 1).toNat = 3 then 1 else 0) := rfl
    rw [if_pos (e.trans q)] at b2
    omega
  have := eN_pop (P := (piled - 1).toNat) (wi2 := within2.toNat) (code2 := code2) h (by rw [e]; exact hz) (by rw [h1, es, show codes.toNat = c0.toNat + (codes - c0).toNat by omega]) (by rw [e]; omega)
  have h1P := this.1.1
  refine ⟨by omega, by omega, ?_⟩
  rw [show (codes + 1 - c0).toNat = (codes - c0).toNat + 1 by omega]
  exact this
theorem eI_close (h : eI 0 c0 codes piled within u code eW eS) (e : eW (piled - 1).toNat = 7) : 1 ≤ piled - 1 ∧ 1 ≤ within ∧ eI 0 c0 codes (piled - 1) (within - 1) u code eW eS := by
  obtain ⟨h0, h⟩ := h
  rw [show piled.toNat = (piled - 1).toNat + 1 by omega] at h
  have hw0 : 1 ≤ within := by
    obtain ⟨-, -, -, -, -, a5, -⟩ := h
    have b2 : nK eW ((piled - 1).toNat + 1) = nK eW (piled - 1).toNat + (if eW (piled - 1).toNat = 7 then 1 else 0) := rfl
    rw [if_pos e] at b2
    omega
  have := eN_close (P := (piled - 1).toNat) (wi2 := (within - 1).toNat) h e (by omega)
  have h1P := this.1.1
  exact ⟨by omega, hw0, by omega, this⟩
theorem eI_end (h : eI 0 c0 codes piled within u code eW eS) (e : eW (piled - 1).toNat = 8) : piled - 1 = 0 ∧ eOK c0 codes u code := by
  obtain ⟨h0, h⟩ := h
  rw [show piled.toNat = (piled - 1).toNat + 1 by omega] at h
  obtain ⟨h1, h3, h2⟩ := eN_end h e
  exact ⟨by omega, by omega, h2⟩
theorem el_c {F : Nat → Int} {k z c : Int} (h0 : F 0 = c) (e : F k.toNat = z) : ¬ k = 0 ∨ z = c := by
  by_cases h : k = 0
  · subst h
    exact Or.inr (e.symm.trans h0)
  · exact Or.inl h
theorem eSt_1 (h : eSt fk w c0 codes piled within u code eW eS) (hf : fk ≤ 0) (hw : w = 1) : eI 1 c0 codes piled within u code eW eS := by
  rcases h with h | ⟨-, -, h⟩ | ⟨h, -⟩
  · omega
  · subst hw
    exact h
  · omega
theorem eSt_0 (h : eSt fk w c0 codes piled within u code eW eS) (hf : fk ≤ 0) (hw : w = 0) (hp : 1 ≤ piled) : eI 0 c0 codes piled within u code eW eS := by
  rcases h with h | ⟨-, -, h⟩ | ⟨-, h, -⟩
  · omega
  · subst hw
    exact h
  · omega
theorem eSt_e (h : eSt fk w c0 codes piled within u code eW eS) (hf : fk ≤ 0) (hp : piled ≤ 0) : w = 0 ∧ eOK c0 codes u code := by
  rcases h with h | ⟨-, h, -⟩ | ⟨h1, -, h2⟩
  · omega
  · omega
  · exact ⟨h1, h2⟩
theorem eSt_p (h : eSt fk w c0 codes piled within u code eW eS) : 1 ≤ fk ∨ w = 0 ∨ 1 ≤ piled := by
  rcases h with h | ⟨-, h, -⟩ | ⟨h1, -, h2⟩
  · exact Or.inl h
  · exact Or.inr (Or.inr h)
  · exact Or.inr (Or.inl h1)
variable {piled2 within2 codes2 u2 r : Int}
theorem eS_f (h : 1 ≤ fk) : eSt fk r c0 codes piled within u code eW eS := Or.inl h
theorem eS_0 (h : eW2 = ud eW 0 8) (hc : 0 ≤ c0) (hp : piled2 = 1) (hr : r = 1) (hu : u2 = 0) : eSt fk r c0 c0 piled2 0 u2 code eW2 eS := by
  subst hp
  subst hu
  subst hr
  exact Or.inr (Or.inl ⟨Or.inr rfl, by omega, eI_0 h hc⟩)
theorem eS_push (h : eI 1 c0 codes piled within u code eW eS) (hv : v = 3 ∨ v = 7) (h1 : eW2 = ud eW piled.toNat v) (h2 : eS2 = ud eS piled.toNat 126) (hw : within ≤ 6) (hu : (v = 3 ∧ u2 = u) ∨ (v = 7 ∧ u2 = u + 1 ∧ u < 30)) (hp : piled2 = piled + 1) (hq : within2 = within + 1) (hr : r = 1) : eSt fk r c0 codes piled2 within2 u2 code eW2 eS2 := by
  subst hp
  subst hq
  subst hr
  have := (eI_b h).1
  exact Or.inr (Or.inl ⟨Or.inr rfl, by omega, eI_push h hv h1 h2 hw hu⟩)
theorem eS_let (h : eI 1 c0 codes piled within u code eW eS) (hv : 97 ≤ v ∧ v ≤ 122) (h1 : code2 = ud code codes.toNat v) (hu : u < 30) (hc : codes2 = codes + 1) (hu2 : u2 = u + 1) (hr : r = 0) : eSt fk r c0 codes2 piled within u2 code2 eW eS := by
  subst hc
  subst hu2
  subst hr
  have := (eI_b h).1
  exact Or.inr (Or.inl ⟨Or.inl rfl, by omega, eI_let h hv h1 hu⟩)
theorem eS_bin (h : eI 0 c0 codes piled within u code eW eS) (hv : 1 ≤ v ∧ v ≤ 6 ∧ ¬ v = 3) (hs : ¬ sg = 126 ∧ ¬ (97 ≤ sg ∧ sg ≤ 122)) (h1 : eW2 = ud eW piled.toNat v) (h2 : eS2 = ud eS piled.toNat sg) (hp : piled2 = piled + 1) (hr : r = 1) : eSt fk r c0 codes piled2 within u code eW2 eS2 := by
  subst hp
  subst hr
  have := (eI_b h).1
  exact Or.inr (Or.inl ⟨Or.inr rfl, by omega, eI_bin h hv hs h1 h2⟩)
theorem eS_pop (h : eI 0 c0 codes piled within u code eW eS) {z : Int} (e : eW (piled - 1).toNat = z) (hz : z ≤ 6) (es : eS (piled - 1).toNat = sg) (h1 : code2 = ud code codes.toNat sg) (hc : codes2 = codes + 1) (hw : (z = 3 ∧ within2 = within - 1) ∨ (¬ z = 3 ∧ within2 = within)) : 1 ≤ piled - 1 ∧ eI 0 c0 codes2 (piled - 1) within2 u code2 eW eS := by
  subst hc
  exact eI_pop h e hz es h1 hw
theorem eI_w3 (h : eI w c0 codes piled within u code eW eS) {z : Int} (e : eW (piled - 1).toNat = z) : ¬ (z = 3 ∨ z = 7) ∨ 1 ≤ within := by
  by_cases q : z = 3 ∨ z = 7
  · refine Or.inr ?_
    obtain ⟨h0, h⟩ := h
    rw [show piled.toNat = (piled - 1).toNat + 1 by omega] at h
    obtain ⟨-, -, -, -, -, a5, -⟩ := h
    have b2 : nN eW ((piled - 1).toNat + 1) = nN eW (piled - 1).toNat + (if eW (piled - 1).toNat = 3 then 1 else 0) := rfl
    have b3 : nK eW ((piled - 1).toNat + 1) = nK eW (piled - 1).toNat + (if eW (piled - 1).toNat = 7 then 1 else 0) := rfl
    rw [e] at b2 b3
    rcases q with q | q
    · rw [if_pos q] at b2
      omega
    · rw [if_pos q] at b3
      omega
  · exact Or.inl q
theorem eI_not1 (h : eI 0 c0 codes piled within u code eW eS) {z : Int} (e : eW (piled - 1).toNat = z) : ¬ z ≤ 6 ∨ 2 ≤ piled := by
  by_cases q : piled = 1
  · subst q
    have := (eI_b h).2.2.2.2
    have e2 : eW 0 = z := e
    exact Or.inl (by omega)
  · have := (eI_b h).1
    exact Or.inr (by omega)
theorem eS_close (h : eI 0 c0 codes piled within u code eW eS) {z : Int} (e : eW (piled - 1).toNat = z) (hz : z = 7) (hr : r = 0) : eSt fk r c0 codes (piled - 1) (within - 1) u code eW eS := by
  subst hr
  obtain ⟨h1, h2, h3⟩ := eI_close h (e.trans hz)
  exact Or.inr (Or.inl ⟨Or.inl rfl, h1, h3⟩)
theorem eS_end (h : eI 0 c0 codes piled within u code eW eS) {z : Int} (e : eW (piled - 1).toNat = z) (hz : z = 8) (hr : r = 0) : eSt fk r c0 codes (piled - 1) within u code eW eS := by
  subst hr
  obtain ⟨h1, h2⟩ := eI_end h (e.trans hz)
  exact Or.inr (Or.inr ⟨rfl, h1, h2⟩)
theorem eSt_b (h : eSt fk w c0 codes piled within u code eW eS) : 1 ≤ fk ∨ ((0 ≤ piled ∧ piled ≤ 38) ∧ (0 ≤ c0 ∧ c0 ≤ codes ∧ codes ≤ c0 + 9 * u + 7)) := by
  rcases h with h | ⟨-, -, h⟩ | ⟨-, h, h2⟩
  · exact Or.inl h
  · have := eI_b h
    have := h.1
    exact Or.inr (by omega)
  · have := h2.1
    exact Or.inr (by omega)
theorem eOK_o (h : 1 ≤ fk ∨ eOK c0 codes u code) : 1 ≤ fk ∨ (0 ≤ c0 ∧ c0 ≤ codes ∧ codes ≤ c0 + 9 * u) := h.imp id (fun q => q.1)
theorem eOK_b (h : eOK c0 codes u code) : 0 ≤ c0 ∧ c0 ≤ codes ∧ codes ≤ c0 + 9 * u := h.1
end EI
