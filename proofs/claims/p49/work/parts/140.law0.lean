/-! ===== what holds between two calls ===== -/
theorem met_mono {l : Launch} {y : MethodName} {ws : List Cond} {rm : Room} {Pc : Array Value → State → Prop} {Qc Qc2 : Array Value → State → Outcome → State → Prop} {mc ms : Nat} {free : Addr → Prop} (h : Met l y ws rm Pc Qc mc ms free) (hq : ∀ a s o t, Qc a s o t → Qc2 a s o t) : Met l y ws rm Pc Qc2 mc ms free := by
  intro p e ha hc hk s m args below hf happ hP hC
  obtain ⟨k, o, h1, h2, h3, hQ, hR⟩ := h p e ha hc hk s m args below hf happ hP hC
  exact ⟨k, o, h1, h2, h3, hq _ _ _ _ hQ, hR⟩
theorem metI_mono {l : Launch} {D : va_G} {k : Nat → ClassId} {y : MethodName} {bytes : ByteArray} {maxL : Nat} {ret : Option FieldType} {d : Nat} {as : List Value} {ws : va_W} {X : State → Prop} {P P2 : Int → Heap → Prop} (h : MetM l D k y bytes maxL ret d 0 0 as ws X (qGi P)) (hq : ∀ r H, P r H → P2 r H) : MetM l D k y bytes maxL ret d 0 0 as ws X (qGi P2) := fun sz =>
  met_mono (h sz) (fun _ _ _ _ ⟨⟨r, u, h1, h2, h3⟩, h4⟩ => ⟨⟨r, u, h1, h2, hq _ _ h3⟩, h4⟩)
theorem metV_mono {l : Launch} {D : va_G} {k : Nat → ClassId} {y : MethodName} {bytes : ByteArray} {maxL : Nat} {ret : Option FieldType} {d : Nat} {as : List Value} {ws : va_W} {X : State → Prop} {P P2 : Heap → Prop} (h : MetM l D k y bytes maxL ret d 0 0 as ws X (qGv P)) (hq : ∀ H, P H → P2 H) : MetM l D k y bytes maxL ret d 0 0 as ws X (qGv P2) := fun sz =>
  met_mono (h sz) (fun _ _ _ _ ⟨⟨u, h1, h2, h3⟩, h4⟩ => ⟨⟨u, h1, h2, hq _ h3⟩, h4⟩)
theorem metL_mono {l : Launch} {D : va_G} {k : Nat → ClassId} {y : MethodName} {bytes : ByteArray} {maxL : Nat} {ret : Option FieldType} {d : Nat} {as : List Value} {ws : va_W} {X : State → Prop} {P P2 : Int64 → Heap → Prop} (h : MetM l D k y bytes maxL ret d 0 0 as ws X (qGl P)) (hq : ∀ r H, P r H → P2 r H) : MetM l D k y bytes maxL ret d 0 0 as ws X (qGl P2) := fun sz =>
  met_mono (h sz) (fun _ _ _ _ ⟨⟨r, u, h1, h2, h3⟩, h4⟩ => ⟨⟨r, u, h1, h2, hq _ _ h3⟩, h4⟩)
theorem fu_all {α : Type} {B : Nat → α → Prop} {X : Nat → α} (h : ∀ i, B i (X i)) (j : Nat) {v : α} (hv : B j v) : ∀ i, B i (fu X j v i) := by
  intro i
  unfold fu
  split
  · rename_i e
    rw [e]
    exact hv
  · exact h i
def cBx : Nat → Int → Prop
  | 0, z => 0 ≤ z ∧ z ≤ 16
  | 1, z => 0 ≤ z ∧ z ≤ 1600
  | 2, z => 0 ≤ z ∧ z ≤ 1600
  | 3, z => 0 ≤ z ∧ z ≤ 255
  | 4, z => 0 ≤ z ∧ z ≤ 1600
  | 5, z => -2147483648 ≤ z ∧ z ≤ 2147483647
  | 6, z => 0 ≤ z ∧ z ≤ 5
  | 7, z => -1 ≤ z ∧ z ≤ 1600
  | 8, z => -2147483648 ≤ z ∧ z ≤ 2147483647
  | 9, z => 0 ≤ z ∧ z ≤ 1
  | 10, z => -2147483648 ≤ z ∧ z ≤ 2147483647
  | 11, z => 0 ≤ z ∧ z ≤ 999
  | 12, z => 0 ≤ z ∧ z ≤ 8
  | 13, z => 0 ≤ z ∧ z ≤ 6
  | 14, z => 0 ≤ z ∧ z ≤ 8
  | 15, z => -2147483648 ≤ z ∧ z ≤ 2147483647
  | 16, z => 0 ≤ z ∧ z ≤ 270
  | 17, z => 0 ≤ z ∧ z ≤ 30
  | 18, z => -2147483648 ≤ z ∧ z ≤ 2147483647
  | 19, z => 0 ≤ z ∧ z ≤ 1
  | 20, z => -2147483648 ≤ z ∧ z ≤ 2147483647
  | 21, z => -2147483648 ≤ z ∧ z ≤ 2147483647
  | 22, z => 0 ≤ z ∧ z ≤ 8
  | 23, z => 0 ≤ z ∧ z ≤ 6
  | 24, z => 0 ≤ z ∧ z ≤ 8
  | 25, z => -2147483648 ≤ z ∧ z ≤ 2147483647
  | 26, z => 0 ≤ z ∧ z ≤ 270
  | 27, z => 0 ≤ z ∧ z ≤ 30
  | 28, z => 1 ≤ z ∧ z ≤ 8
  | 29, z => 0 ≤ z ∧ z ≤ 6
  | 30, z => -2147483648 ≤ z ∧ z ≤ 2147483647
  | 31, z => 0 ≤ z ∧ z ≤ 40
  | 32, z => -2147483648 ≤ z ∧ z ≤ 2147483647
  | 33, z => -2147483648 ≤ z ∧ z ≤ 2147483647
  | 34, z => 0 ≤ z ∧ z ≤ 64
  | 35, z => 0 ≤ z ∧ z ≤ 30
  | 36, z => 0 ≤ z ∧ z ≤ 100000
  | _, _ => True
def cBf : Nat → (Nat → Int) → Prop
  | 0, f => bd (-2147483648) 2147483647 f
  | 1, f => bd (-128) 127 f
  | 2, f => bd (-2147483648) 2147483647 f
  | 3, f => bd (-2147483648) 2147483647 f
  | 4, f => bd (0) 7 f
  | 5, f => bd (-2147483648) 2147483647 f
  | 6, f => bd (-2147483648) 2147483647 f
  | 7, f => bd (-2147483648) 2147483647 f
  | 8, f => bd (-2147483648) 2147483647 f
  | 9, f => bd (-2147483648) 2147483647 f
  | 10, f => bd (-2147483648) 2147483647 f
  | 11, f => bd (-2147483648) 2147483647 f
  | 12, f => bd (0) 7 f
  | 13, f => bd (-2147483648) 2147483647 f
  | 14, f => bd (-2147483648) 2147483647 f
  | 15, f => bd (-2147483648) 2147483647 f
  | 16, f => bd (-2147483648) 2147483647 f
  | 17, f => bd (-2147483648) 2147483647 f
  | 18, f => bd (0) 4095 f
  | 19, f => bd (0) 4095 f
  | 20, f => bd (0) 7 f
  | 21, f => bd (0) 4095 f
  | 22, f => bd (0) 4095 f
  | 23, f => bd (-128) 127 f
  | 24, f => bd (0) 1 f
  | 25, f => bd (-2147483648) 2147483647 f
  | 26, f => bd (-2147483648) 2147483647 f
  | 27, f => bd (-2147483648) 2147483647 f
  | 28, f => bd (0) 4095 f
  | 29, f => bd (-2147483648) 2147483647 f
  | 30, f => bd (-2147483648) 2147483647 f
  | 31, f => bd (0) 2 f
  | 32, f => bd (0) 11 f
  | 33, f => bd (0) 1 f
  | 34, f => bd (-2147483648) 2147483647 f
  | 35, f => bd (-2147483648) 2147483647 f
  | 36, f => bd (-2147483648) 2147483647 f
  | 37, f => bd (-2147483648) 2147483647 f
  | 38, f => bd (-2147483648) 2147483647 f
  | 39, f => bd (-2147483648) 2147483647 f
  | 40, f => bd (-2147483648) 2147483647 f
  | 41, f => bd (0) 999 f
  | _, _ => True
def cBp : Nat → (Nat → Nat → Int) → Prop
  | 0, f => pb (0) 4095 f
  | 1, f => pb (0) 7 f
  | 2, f => pb (-2147483648) 2147483647 f
  | _, _ => True
def wc (k : Nat → ClassId) (a : Nat → Nat) (q : Nat → Nat) (X : Nat → Int) (N : Nat → Int64) (F : Nat → Nat → Int) (G : Nat → Nat → Int64) (P : Nat → Nat → Nat → Int) (ex : va_W) : va_W := cW k a q (X 0) (X 1) (X 2) (X 3) (X 4) (X 5) (X 6) (X 7) (X 8) (X 9) (X 10) (X 11) (X 12) (X 13) (X 14) (X 15) (X 16) (X 17) (X 18) (X 19) (X 20) (X 21) (X 22) (X 23) (X 24) (X 25) (X 26) (X 27) (X 28) (X 29) (X 30) (X 31) (X 32) (X 33) (X 34) (X 35) (X 36) (N 0) (F 0) (F 1) (F 2) (F 3) (F 4) (F 5) (F 6) (F 7) (F 8) (F 9) (F 10) (F 11) (F 12) (F 13) (F 14) (F 15) (F 16) (F 17) (F 18) (F 19) (F 20) (F 21) (F 22) (F 23) (F 24) (F 25) (F 26) (F 27) (F 28) (F 29) (F 30) (F 31) (F 32) (F 33) (F 34) (F 35) (F 36) (F 37) (F 38) (F 39) (F 40) (F 41) (G 0) (G 1) (G 2) (G 3) (G 4) (G 5) (G 6) (P 0) (P 1) (P 2) ex
def cI (k : Nat → ClassId) (a : Nat → Nat) (q : Nat → Nat) (t : Int) (w : va_W) : Prop := ∃ (X : Nat → Int) (N : Nat → Int64) (F : Nat → Nat → Int) (G : Nat → Nat → Int64) (P : Nat → Nat → Nat → Int), (∀ i, cBx i (X i)) ∧ (∀ i, cBf i (F i)) ∧ (∀ i, cBp i (P i)) ∧ (tI (X 12) (X 14) (F 2) (F 4)) ∧ (bU (X 35) (F 31)) ∧ (¬ (X 3) = 201 ∨ 0 ≤ (X 5)) ∧ X 36 = t ∧ w = wc k a q X N F G P []
theorem wc_app {k : Nat → ClassId} {a q : Nat → Nat} {X : Nat → Int} {N : Nat → Int64} {F : Nat → Nat → Int} {G : Nat → Nat → Int64} {P : Nat → Nat → Nat → Int} {ex : va_W} : wc k a q X N F G P [] ++ ex = wc k a q X N F G P ex := by
  unfold wc cW
  rw [List.append_nil, List.append_assoc]
def rBx : Nat → Int → Prop
  | 0, z => 0 ≤ z ∧ z ≤ 1600
  | 1, z => 0 ≤ z ∧ z ≤ 1600
  | 2, z => 0 ≤ z ∧ z ≤ 5
  | 3, z => -1 ≤ z ∧ z ≤ 1600
  | 4, z => 0 ≤ z ∧ z ≤ 1600
  | 5, z => 0 ≤ z ∧ z ≤ 1600
  | 6, z => 0 ≤ z ∧ z ≤ 5
  | 7, z => -2147483648 ≤ z ∧ z ≤ 2147483647
  | 8, z => 0 ≤ z ∧ z ≤ 1
  | 9, z => 0 ≤ z ∧ z ≤ 1
  | 10, z => 0 ≤ z ∧ z ≤ 1120
  | 11, z => 0 ≤ z ∧ z ≤ 7
  | 12, z => 0 ≤ z ∧ z ≤ 90
  | 13, z => 0 ≤ z ∧ z ≤ 30
  | 14, z => 0 ≤ z ∧ z ≤ 7
  | 15, z => -2147483648 ≤ z ∧ z ≤ 2147483647
  | 16, z => -2147483648 ≤ z ∧ z ≤ 2147483647
  | 17, z => -2147483648 ≤ z ∧ z ≤ 2147483647
  | 18, z => 0 ≤ z ∧ z ≤ 40
  | 19, z => 0 ≤ z ∧ z ≤ 40
  | 20, z => 0 ≤ z ∧ z ≤ 8
  | 21, z => 0 ≤ z ∧ z ≤ 30
  | 22, z => 0 ≤ z ∧ z ≤ 100000
  | 23, z => -2147483648 ≤ z ∧ z ≤ 2147483647
  | _, _ => True
def rBf : Nat → (Nat → Int) → Prop
  | 0, f => bd (-128) 127 f
  | 1, f => bd (-128) 127 f
  | 2, f => bd (0) 4 f
  | 3, f => bd (0) 8 f
  | 4, f => bd (0) 6 f
  | 5, f => bd (0) 8 f
  | 6, f => bd (0) 60 f
  | 7, f => bd (0) 100 f
  | 8, f => bd (0) 999 f
  | 9, f => bd (0) 31 f
  | 10, f => bd (0) 4095 f
  | 11, f => bd (0) 4095 f
  | 12, f => bd (0) 7 f
  | 13, f => bd (0) 99 f
  | 14, f => bd (0) 1120 f
  | 15, f => bd (0) 1120 f
  | 16, f => bd (-2147483648) 2147483647 f
  | 17, f => bd (-2147483648) 2147483647 f
  | 18, f => bd (0) 8 f
  | 19, f => bd (-2147483648) 2147483647 f
  | 20, f => bd (-2147483648) 2147483647 f
  | 21, f => bA f
  | 22, f => bd (0) 4095 f
  | 23, f => bA f
  | 24, f => bd (0) 100 f
  | 25, f => bd (0) 47 f
  | 26, f => bd (-2147483648) 2147483647 f
  | 27, f => bd (-2147483648) 2147483647 f
  | 28, f => bd (0) 2 f
  | 29, f => bd (0) 11 f
  | 30, f => bd (0) 1 f
  | 31, f => bd (0) 100000 f
  | 32, f => bd (-1) 100000 f
  | 33, f => bd (-2147483648) 2147483647 f
  | 34, f => bA f
  | 35, f => bd (0) 1 f
  | _, _ => True
def wr (k : Nat → ClassId) (a : Nat → Nat) (X : Nat → Int) (N : Nat → Int64) (F : Nat → Nat → Int) (G : Nat → Nat → Int64) (ex : va_W) : va_W := rW k a (X 0) (X 1) (X 2) (X 3) (X 4) (X 5) (X 6) (X 7) (X 8) (X 9) (X 10) (X 11) (X 12) (X 13) (X 14) (X 15) (X 16) (X 17) (X 18) (X 19) (X 20) (X 21) (X 22) (X 23) (N 0) (F 0) (F 1) (F 2) (F 3) (F 4) (F 5) (F 6) (F 7) (F 8) (F 9) (F 10) (F 11) (F 12) (F 13) (F 14) (F 15) (F 16) (F 17) (F 18) (F 19) (F 20) (F 21) (F 22) (F 23) (F 24) (F 25) (F 26) (F 27) (F 28) (F 29) (F 30) (F 31) (F 32) (F 33) (F 34) (F 35) (G 0) (G 1) (G 2) ex
def rI (k : Nat → ClassId) (a : Nat → Nat) (t : Int) (w : va_W) : Prop := ∃ (X : Nat → Int) (N : Nat → Int64) (F : Nat → Nat → Int) (G : Nat → Nat → Int64), (∀ i, rBx i (X i)) ∧ (∀ i, rBf i (F i)) ∧ (0 ≤ 40 - (X 18) - (X 19)) ∧ (rQ (X 8) (F 9) (F 14) (F 15) (F 16)) ∧ (1 ≤ (F 2) (X 8).toNat ∧ ¬ (F 2) (X 8).toNat = 3) ∧ X 22 = t ∧ w = wr k a X N F G []
theorem wr_app {k : Nat → ClassId} {a : Nat → Nat} {X : Nat → Int} {N : Nat → Int64} {F : Nat → Nat → Int} {G : Nat → Nat → Int64} {ex : va_W} : wr k a X N F G [] ++ ex = wr k a X N F G ex := rfl
