/-! frames of the world; streets and the reference by their towns -/
def frA (A A' : Nat → List Int32) (ks : List Nat) : Prop := ∀ x, x ∉ ks → A' x = A x
def frI (I I' : Nat → Nat → Int32) (ks : List Nat) : Prop := ∀ x y, x ∉ ks → I' x y = I x y
theorem frA_u (A : Nat → List Int32) (k : Nat) (v : List Int32) {ks : List Nat} (h : k ∈ ks) : frA A (u1 A k v) ks := fun x hx => if_neg (fun (z : x = k) => hx (by rw [z]; exact h))
theorem frI_u (I : Nat → Nat → Int32) (k j : Nat) (v : Int32) {ks : List Nat} (h : k ∈ ks) : frI I (u2 I k j v) ks := fun x _ hx => if_neg (fun (z : x = k) => hx (by rw [z]; exact h))
theorem frA_r (A : Nat → List Int32) (ks : List Nat) : frA A A ks := fun _ _ => rfl
theorem frI_r (I : Nat → Nat → Int32) (ks : List Nat) : frI I I ks := fun _ _ _ => rfl
theorem frA_t {A B C : Nat → List Int32} {ks : List Nat} (h : frA A B ks) (h2 : frA B C ks) : frA A C ks := fun x hx => (h2 x hx).trans (h x hx)
theorem frI_t {A B C : Nat → Nat → Int32} {ks : List Nat} (h : frI A B ks) (h2 : frI B C ks) : frI A C ks := fun x y hx => (h2 x y hx).trans (h x y hx)
/-- the houses that heard it by the sights, and those that did not -/
def hm (T : town) : Nat := msk (fun h => (List.range (T 6 7)).any (fun i => T 7 i == h && T 8 i == 1)) 12
def mm (T : town) : Nat := msk (fun h => (List.range (T 6 7)).any (fun i => T 7 i == h && T 8 i == 0)) 12
/-- the street at cell k is the town T -/
def enS (A : Nat → List Int32) (I : Nat → Nat → Int32) (k : Nat) (T : town) : Prop :=
  (A (k + 1) = lst 12 (T 0) ∧ A (k + 2) = lst 11 (T 1) ∧ A (k + 3) = lst 6 (T 2) ∧ A (k + 4) = lst 6 (T 3) ∧ A (k + 5) = lst 6 (T 4) ∧ A (k + 6) = lst 6 (T 5)) ∧
  I k 6 = nI (T 6 0) ∧ I k 7 = nI (T 6 1) ∧ I k 8 = nI (T 6 2) ∧ I k 9 = nI (T 6 3) ∧ I k 10 = nI (T 6 4) - 3 ∧ I k 11 = nI (T 6 5) ∧ I k 12 = nI (T 6 6) ∧ I k 13 = nI (T 6 7) ∧ I k 14 = nI (hm T) ∧ I k 15 = nI (mm T)
theorem enS.h {A : Nat → List Int32} {I : Nat → Nat → Int32} {k : Nat} {T : town} (h : enS A I k T) : enH A I k T := ⟨h.1.2.1, h.2.2.1, h.2.2.2.2.1, h.2.2.2.2.2.1⟩
/-- the reference's row of facts and of where he stands, the day, who is open, what is read -/
def bk (T : town) (j : Nat) : Nat := if j < 12 then T 0 j else if j = 12 then T 6 5 else if j = 13 then T 6 6 else if j = 14 then T 6 0 else T 6 2
def lt (T : town) (j : Nat) : Nat := T (2 + j % 4) (j / 4)
def sg (T : town) (j : Nat) : Nat := T (7 + j % 2) (j / 2)
/-- the reference is the town T -/
def enM (A : Nat → List Int32) (I : Nat → Nat → Int32) (T : town) : Prop :=
  (A 37 = lst 16 (bk T) ∧ A 39 = lst 11 (T 1) ∧ A 40 = lst 24 (lt T) ∧ A 41 = lst 16 (sg T)) ∧ I 36 2 = nI (T 6 1) ∧ I 36 4 = nI (T 6 3) ∧ I 36 5 = nI (T 6 4) - 3 ∧ I 36 7 = nI (T 6 7)
theorem enM.g {A : Nat → List Int32} {I : Nat → Nat → Int32} {T : town} (h : enM A I T) : enG A I T := ⟨h.1.2.1, h.2.1, h.2.2.1, h.2.2.2.1⟩
theorem enS_fr {A A' : Nat → List Int32} {I I' : Nat → Nat → Int32} {k : Nat} {T : town} {ks is : List Nat} (h : enS A I k T) (hA : frA A A' ks) (hI : frI I I' is) (h1 : k + 1 ∉ ks ∧ k + 2 ∉ ks ∧ k + 3 ∉ ks ∧ k + 4 ∉ ks ∧ k + 5 ∉ ks ∧ k + 6 ∉ ks) (h2 : k ∉ is) : enS A' I' k T := by
  obtain ⟨⟨a1, a2, a3, a4, a5, a6⟩, b⟩ := h
  obtain ⟨g1, g2, g3, g4, g5, g6⟩ := h1
  refine ⟨⟨(hA _ g1).trans a1, (hA _ g2).trans a2, (hA _ g3).trans a3, (hA _ g4).trans a4, (hA _ g5).trans a5, (hA _ g6).trans a6⟩, ?_⟩
  rw [hI k 6 h2, hI k 7 h2, hI k 8 h2, hI k 9 h2, hI k 10 h2, hI k 11 h2, hI k 12 h2, hI k 13 h2, hI k 14 h2, hI k 15 h2]
  exact b

