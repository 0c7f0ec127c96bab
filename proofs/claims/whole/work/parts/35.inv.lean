/-! what holds between calls: of the class, of the reference; what a call of either leaves -/
/-- the reference's image n is the town T -/
def imH (F : Nat → Nat) (n : Nat) (T : town) : Prop := (∀ k, k < 16 → F (80 * n + k) = bk T k ∧ F (80 * n + 16 + k) = sg T k) ∧ (∀ k, k < 24 → F (80 * n + 32 + k) = lt T k) ∧ (∀ k, k < 11 → F (80 * n + 56 + k) = T 1 k) ∧ F (80 * n + 70) = T 6 1 ∧ F (80 * n + 71) = T 6 3 ∧ F (80 * n + 72) = T 6 4 + 4294967293 ∧ F (80 * n + 73) = T 6 7
def kf (km n : Nat) : Nat := if km.testBit n = true then 1 else 0
def ci (T : town) (np : Nat) (PD : Nat → Nat) (km : Nat) (TI : Nat → town) (A : Nat → List Int32) (I : Nat → Nat → Int32) (J : Nat → List Int64) : Prop :=
  okT T ∧ enS A I 1 T ∧ (enS A I 8 (TI 0) ∧ enS A I 15 (TI 1) ∧ ∃ T0, enS A I 22 T0) ∧ (np ≤ 60 ∧ (∀ j, j < 60 → PD j < 128) ∧ A 30 = lst 60 PD ∧ I 29 1 = nI np) ∧ ((∃ f, A 32 = lst 12 f) ∧ (∃ f, A 33 = lst 12 f) ∧ ∃ f, J 35 = lsl 12 f) ∧ km < 4 ∧ I 0 7 = nI km ∧ okT (TI 0) ∧ okT (TI 1)
def mi (T : town) (np : Nat) (PD : Nat → Nat) (km : Nat) (TI : Nat → town) (A : Nat → List Int32) (I : Nat → Nat → Int32) (J : Nat → List Int64) : Prop :=
  okT T ∧ enM A I T ∧ ((∃ f, A 38 = lst 16 f) ∧ (∃ f, A 43 = lst 12 f) ∧ (∃ f, A 44 = lst 12 f) ∧ ∃ f, J 45 = lsl 12 f) ∧ (np ≤ 60 ∧ (∀ j, j < 60 → PD j < 128) ∧ A 42 = lst 60 PD ∧ I 36 9 = nI np) ∧ km < 4 ∧ A 47 = lst 2 (kf km) ∧ ∃ F, A 46 = lst 160 F ∧ ∀ n, n < 2 → km.testBit n = true → imH F n (TI n)
/-- the reference's cells are as they were; the class's cells are -/
def hi (A A' : Nat → List Int32) (I I' : Nat → Nat → Int32) (J J' : Nat → List Int64) : Prop := (∀ x, 36 ≤ x → A' x = A x) ∧ (∀ x y, 36 ≤ x → I' x y = I x y) ∧ J' 45 = J 45
def lo (A A' : Nat → List Int32) (I I' : Nat → Nat → Int32) (J J' : Nat → List Int64) : Prop := (∀ x, x < 36 → A' x = A x) ∧ (∀ x y, x < 36 → I' x y = I x y) ∧ J' 35 = J 35
def pV (T : town) (np : Nat) (PD : Nat → Nat) (km : Nat) (TI : Nat → town) (v : Value) (A : Nat → List Int32) (I : Nat → Nat → Int32) (J : Nat → List Int64) : Option Value → ax_H → Prop := fun r h' => r = some v ∧ ∃ A' I' J' U', h' = HH A' I' J' U' ∧ ci T np PD km TI A' I' J' ∧ hi A A' I I' J J'
def pN (T : town) (np : Nat) (PD : Nat → Nat) (km : Nat) (TI : Nat → town) (v : Value) (A : Nat → List Int32) (I : Nat → Nat → Int32) (J : Nat → List Int64) : Option Value → ax_H → Prop := fun r h' => r = some v ∧ ∃ A' I' J' U', h' = HH A' I' J' U' ∧ mi T np PD km TI A' I' J' ∧ lo A A' I I' J J'
section INV
variable {A A' A2 : Nat → List Int32} {I I' I2 : Nat → Nat → Int32} {J J' J2 : Nat → List Int64} {U : Nat → Nat → Int64} {T T' T0 : town} {np : Nat} {PD : Nat → Nat} {km : Nat} {TI : Nat → town}
theorem hi_r : hi A A I I J J := ⟨fun _ _ => rfl, fun _ _ _ => rfl, rfl⟩
theorem lo_r : lo A A I I J J := ⟨fun _ _ => rfl, fun _ _ _ => rfl, rfl⟩
theorem hi_t (h : hi A A' I I' J J') (h2 : hi A' A2 I' I2 J' J2) : hi A A2 I I2 J J2 := ⟨fun x hx => (h2.1 x hx).trans (h.1 x hx), fun x y hx => (h2.2.1 x y hx).trans (h.2.1 x y hx), h2.2.2.trans h.2.2⟩
theorem lo_t (h : lo A A' I I' J J') (h2 : lo A' A2 I' I2 J' J2) : lo A A2 I I2 J J2 := ⟨fun x hx => (h2.1 x hx).trans (h.1 x hx), fun x y hx => (h2.2.1 x y hx).trans (h.2.1 x y hx), h2.2.2.trans h.2.2⟩
theorem hi_of {ks is : List Nat} (hA : frA A A' ks) (hI : frI I I' is) (h1 : ∀ x ∈ ks, x < 36) (h2 : ∀ x ∈ is, x < 36) : hi A A' I I' J J := ⟨fun x hx => hA x (fun z => absurd (h1 x z) (by omega)), fun x y hx => hI x y (fun z => absurd (h2 x z) (by omega)), rfl⟩
theorem lo_of {ks is : List Nat} (hA : frA A A' ks) (hI : frI I I' is) (h1 : ∀ x ∈ ks, 36 ≤ x) (h2 : ∀ x ∈ is, 36 ≤ x) : lo A A' I I' J J := ⟨fun x hx => hA x (fun z => absurd (h1 x z) (by omega)), fun x y hx => hI x y (fun z => absurd (h2 x z) (by omega)), rfl⟩
theorem lo_N {ks : List Nat} (hA : frA A A' ks) (hI : frN I I') (h1 : ∀ x ∈ ks, 36 ≤ x) : lo A A' I I' J J := ⟨fun x hx => hA x (fun z => absurd (h1 x z) (by omega)), fun x y hx => hI x y (fun z => by omega), rfl⟩
theorem enS_lo {k : Nat} (h : enS A I k T) (hl : lo A A' I I' J J') (hk : k + 6 < 36) : enS A' I' k T := by
  obtain ⟨⟨a1, a2, a3, a4, a5, a6⟩, b⟩ := h
  refine ⟨⟨(hl.1 _ (by omega)).trans a1, (hl.1 _ (by omega)).trans a2, (hl.1 _ (by omega)).trans a3, (hl.1 _ (by omega)).trans a4, (hl.1 _ (by omega)).trans a5, (hl.1 _ (by omega)).trans a6⟩, ?_⟩
  rw [hl.2.1 k 6 (by omega), hl.2.1 k 7 (by omega), hl.2.1 k 8 (by omega), hl.2.1 k 9 (by omega), hl.2.1 k 10 (by omega), hl.2.1 k 11 (by omega), hl.2.1 k 12 (by omega), hl.2.1 k 13 (by omega), hl.2.1 k 14 (by omega), hl.2.1 k 15 (by omega)]
  exact b
theorem ci_lo (h : ci T np PD km TI A I J) (hl : lo A A' I I' J J') : ci T np PD km TI A' I' J' := by
  obtain ⟨h1, h2, ⟨h3, h4, T0, h5⟩, ⟨h6, h7, h8, h9⟩, ⟨⟨f, h10⟩, ⟨f2, h11⟩, f3, h12⟩, h13, h14, h15⟩ := h
  exact ⟨h1, enS_lo h2 hl (by omega), ⟨enS_lo h3 hl (by omega), enS_lo h4 hl (by omega), T0, enS_lo h5 hl (by omega)⟩, ⟨h6, h7, (hl.1 30 (by omega)).trans h8, (hl.2.1 29 1 (by omega)).trans h9⟩, ⟨⟨f, (hl.1 32 (by omega)).trans h10⟩, ⟨f2, (hl.1 33 (by omega)).trans h11⟩, f3, hl.2.2.trans h12⟩, h13, (hl.2.1 0 7 (by omega)).trans h14, h15⟩
theorem enM_hi (h : enM A I T) (hl : hi A A' I I' J J') : enM A' I' T := by
  obtain ⟨⟨a1, a2, a3, a4⟩, b1, b2, b3, b4⟩ := h
  exact ⟨⟨(hl.1 37 (by omega)).trans a1, (hl.1 39 (by omega)).trans a2, (hl.1 40 (by omega)).trans a3, (hl.1 41 (by omega)).trans a4⟩, (hl.2.1 36 2 (by omega)).trans b1, (hl.2.1 36 4 (by omega)).trans b2, (hl.2.1 36 5 (by omega)).trans b3, (hl.2.1 36 7 (by omega)).trans b4⟩
theorem mi_hi (h : mi T np PD km TI A I J) (hl : hi A A' I I' J J') : mi T np PD km TI A' I' J' := by
  obtain ⟨h1, h2, ⟨⟨f, h3⟩, ⟨f2, h4⟩, ⟨f3, h5⟩, f4, h6⟩, ⟨h7, h8, h9, h10⟩, h11, h12, F, h13, h14⟩ := h
  exact ⟨h1, enM_hi h2 hl, ⟨⟨f, (hl.1 38 (by omega)).trans h3⟩, ⟨f2, (hl.1 43 (by omega)).trans h4⟩, ⟨f3, (hl.1 44 (by omega)).trans h5⟩, f4, hl.2.2.trans h6⟩, ⟨h7, h8, (hl.1 42 (by omega)).trans h9, (hl.2.1 36 9 (by omega)).trans h10⟩, h11, (hl.1 47 (by omega)).trans h12, F, (hl.1 46 (by omega)).trans h13, h14⟩
/-- the trial's street and the pad's words of the play have changed -/
theorem ci_22 (h : ci T np PD km TI A I J) (hA : frA A A' (str 22)) (hI : frI I I' [22, 29]) (h29 : I' 29 1 = I 29 1) (hE : enS A' I' 22 T0) : ci T np PD km TI A' I' J := by
  obtain ⟨h1, h2, ⟨h3, h4, _, _⟩, ⟨h6, h7, h8, h9⟩, ⟨⟨f, h10⟩, ⟨f2, h11⟩, f3, h12⟩, h13, h14, h15⟩ := h
  exact ⟨h1, enS_fr h2 hA hI (by decide) (by decide), ⟨enS_fr h3 hA hI (by decide) (by decide), enS_fr h4 hA hI (by decide) (by decide), T0, hE⟩, ⟨h6, h7, (hA 30 (by decide)).trans h8, h29.trans h9⟩, ⟨⟨f, (hA 32 (by decide)).trans h10⟩, ⟨f2, (hA 33 (by decide)).trans h11⟩, f3, h12⟩, h13, (hI 0 7 (by decide)).trans h14, h15⟩
/-- the street has changed -/
theorem ci_1 (h : ci T np PD km TI A I J) (hA : frA A A' (str 1)) (hI : frI I I' [1]) (hE : enS A' I' 1 T') (hT : okT T') : ci T' np PD km TI A' I' J := by
  obtain ⟨h1, h2, ⟨h3, h4, T0, h5⟩, ⟨h6, h7, h8, h9⟩, ⟨⟨f, h10⟩, ⟨f2, h11⟩, f3, h12⟩, h13, h14, h15⟩ := h
  exact ⟨hT, hE, ⟨enS_fr h3 hA hI (by decide) (by decide), enS_fr h4 hA hI (by decide) (by decide), T0, enS_fr h5 hA hI (by decide) (by decide)⟩, ⟨h6, h7, (hA 30 (by decide)).trans h8, (hI 29 1 (by decide)).trans h9⟩, ⟨⟨f, (hA 32 (by decide)).trans h10⟩, ⟨f2, (hA 33 (by decide)).trans h11⟩, f3, h12⟩, h13, (hI 0 7 (by decide)).trans h14, h15⟩
/-- the pad has changed -/
theorem ci_P {np' : Nat} {PD' : Nat → Nat} (h : ci T np PD km TI A I J) (hA : frA A A' [30]) (hI : frI I I' [29]) (hp : np' ≤ 60) (hP : ∀ j, j < 60 → PD' j < 128) (h30 : A' 30 = lst 60 PD') (h29 : I' 29 1 = nI np') : ci T np' PD' km TI A' I' J := by
  obtain ⟨h1, h2, ⟨h3, h4, T0, h5⟩, -, ⟨⟨f, h10⟩, ⟨f2, h11⟩, f3, h12⟩, h13, h14, h15⟩ := h
  exact ⟨h1, enS_fr h2 hA hI (by decide) (by decide), ⟨enS_fr h3 hA hI (by decide) (by decide), enS_fr h4 hA hI (by decide) (by decide), T0, enS_fr h5 hA hI (by decide) (by decide)⟩, ⟨hp, hP, h30, h29⟩, ⟨⟨f, (hA 32 (by decide)).trans h10⟩, ⟨f2, (hA 33 (by decide)).trans h11⟩, f3, h12⟩, h13, (hI 0 7 (by decide)).trans h14, h15⟩
/-- the listener has changed -/
theorem ci_L {f g : Nat → Nat} (h : ci T np PD km TI A I J) (hA : frA A A' [32, 33]) (h32 : A' 32 = lst 12 f) (h33 : A' 33 = lst 12 g) : ci T np PD km TI A' I J := by
  obtain ⟨h1, h2, ⟨h3, h4, T0, h5⟩, ⟨h6, h7, h8, h9⟩, ⟨-, -, f3, h12⟩, h13, h14, h15⟩ := h
  exact ⟨h1, enS_fr h2 hA (frI_r I []) (by decide) (by decide), ⟨enS_fr h3 hA (frI_r I []) (by decide) (by decide), enS_fr h4 hA (frI_r I []) (by decide) (by decide), T0, enS_fr h5 hA (frI_r I []) (by decide) (by decide)⟩, ⟨h6, h7, (hA 30 (by decide)).trans h8, h9⟩, ⟨⟨f, h32⟩, ⟨g, h33⟩, f3, h12⟩, h13, h14, h15⟩
/-- the chances have changed -/
theorem ci_C {f : Nat → Nat} (h : ci T np PD km TI A I J) (hI : frI I I' [34]) (h35 : J' 35 = lsl 12 f) : ci T np PD km TI A I' J' := by
  obtain ⟨h1, h2, ⟨h3, h4, T0, h5⟩, ⟨h6, h7, h8, h9⟩, ⟨h10, h11, -⟩, h13, h14, h15⟩ := h
  exact ⟨h1, enS_fr h2 (frA_r A []) hI (by decide) (by decide), ⟨enS_fr h3 (frA_r A []) hI (by decide) (by decide), enS_fr h4 (frA_r A []) hI (by decide) (by decide), T0, enS_fr h5 (frA_r A []) hI (by decide) (by decide)⟩, ⟨h6, h7, h8, (hI 29 1 (by decide)).trans h9⟩, ⟨h10, h11, f, h35⟩, h13, (hI 0 7 (by decide)).trans h14, h15⟩
/-- the reference's rows of the days, its sets, have changed -/
theorem enM_fr {ks : List Nat} (h : enM A I T) (hA : frA A A' ks) (hI : frN I I') (h1 : 37 ∉ ks ∧ 39 ∉ ks ∧ 40 ∉ ks ∧ 41 ∉ ks) : enM A' I' T := by
  obtain ⟨⟨a1, a2, a3, a4⟩, b1, b2, b3, b4⟩ := h
  exact ⟨⟨(hA 37 h1.1).trans a1, (hA 39 h1.2.1).trans a2, (hA 40 h1.2.2.1).trans a3, (hA 41 h1.2.2.2).trans a4⟩, (hI 36 2 (by omega)).trans b1, (hI 36 4 (by omega)).trans b2, (hI 36 5 (by omega)).trans b3, (hI 36 7 (by omega)).trans b4⟩
theorem mi_D (h : mi T np PD km TI A I J) (hA : frA A A' [38, 43]) (hI : frN I I') (h38 : ∃ f, A' 38 = lst 16 f) (h43 : ∃ f, A' 43 = lst 12 f) : mi T np PD km TI A' I' J := by
  obtain ⟨h1, h2, ⟨-, -, ⟨f3, h5⟩, f4, h6⟩, ⟨h7, h8, h9, h10⟩, h11, h12, F, h13, h14⟩ := h
  exact ⟨h1, enM_fr h2 hA hI (by decide), ⟨h38, h43, ⟨f3, (hA 44 (by decide)).trans h5⟩, f4, h6⟩, ⟨h7, h8, (hA 42 (by decide)).trans h9, (hI 36 9 (by omega)).trans h10⟩, h11, (hA 47 (by decide)).trans h12, F, (hA 46 (by decide)).trans h13, h14⟩
theorem mi_S {f : Nat → Nat} (h : mi T np PD km TI A I J) : mi T np PD km TI (u1 A 44 (lst 12 f)) I J := by
  obtain ⟨h1, h2, ⟨h3, h4, -, h6⟩, h7, h11, h12, F, h13, h14⟩ := h
  exact ⟨h1, h2, ⟨h3, h4, ⟨f, rfl⟩, h6⟩, h7, h11, h12, F, h13, h14⟩
theorem mi_W {f : Nat → Nat} (h : mi T np PD km TI A I J) : mi T np PD km TI A I (u1 J 45 (lsl 12 f)) := by
  obtain ⟨h1, h2, ⟨h3, h4, h5, -⟩, h7⟩ := h
  exact ⟨h1, h2, ⟨h3, h4, h5, f, rfl⟩, h7⟩
theorem mi_P {np' : Nat} {PD' : Nat → Nat} (h : mi T np PD km TI A I J) (hA : frA A A' [42]) (hI : ∀ x y, ¬ (x = 36 ∧ y = 9) → I' x y = I x y) (hp : np' ≤ 60) (hP : ∀ j, j < 60 → PD' j < 128) (h42 : A' 42 = lst 60 PD') (h9 : I' 36 9 = nI np') : mi T np' PD' km TI A' I' J := by
  obtain ⟨h1, ⟨⟨a1, a2, a3, a4⟩, b1, b2, b3, b4⟩, ⟨⟨f, h3⟩, ⟨f2, h4⟩, ⟨f3, h5⟩, f4, h6⟩, -, h11, h12, F, h13, h14⟩ := h
  exact ⟨h1, ⟨⟨(hA 37 (by decide)).trans a1, (hA 39 (by decide)).trans a2, (hA 40 (by decide)).trans a3, (hA 41 (by decide)).trans a4⟩, (hI 36 2 (by omega)).trans b1, (hI 36 4 (by omega)).trans b2, (hI 36 5 (by omega)).trans b3, (hI 36 7 (by omega)).trans b4⟩, ⟨⟨f, (hA 38 (by decide)).trans h3⟩, ⟨f2, (hA 43 (by decide)).trans h4⟩, ⟨f3, (hA 44 (by decide)).trans h5⟩, f4, h6⟩, ⟨hp, hP, h42, h9⟩, h11, (hA 47 (by decide)).trans h12, F, (hA 46 (by decide)).trans h13, h14⟩
/-- the reference's town has changed -/
theorem mi_T (h : mi T np PD km TI A I J) (hA : frA A A' [37, 39, 40, 41]) (h9 : I' 36 9 = I 36 9) (hE : enM A' I' T') (hT : okT T') : mi T' np PD km TI A' I' J := by
  obtain ⟨-, -, ⟨⟨f, h3⟩, ⟨f2, h4⟩, ⟨f3, h5⟩, f4, h6⟩, ⟨h7, h8, h10, h11⟩, h12, h13, F, h14, h15⟩ := h
  exact ⟨hT, hE, ⟨⟨f, (hA 38 (by decide)).trans h3⟩, ⟨f2, (hA 43 (by decide)).trans h4⟩, ⟨f3, (hA 44 (by decide)).trans h5⟩, f4, h6⟩, ⟨h7, h8, (hA 42 (by decide)).trans h10, h9.trans h11⟩, h12, (hA 47 (by decide)).trans h13, F, (hA 46 (by decide)).trans h14, h15⟩
theorem pV_r (h : ci T np PD km TI A I J) (v : Value) : pV T np PD km TI v A I J (some v) (HH A I J U) := ⟨rfl, A, I, J, U, rfl, h, hi_r⟩
theorem pN_r (h : mi T np PD km TI A I J) (v : Value) : pN T np PD km TI v A I J (some v) (HH A I J U) := ⟨rfl, A, I, J, U, rfl, h, lo_r⟩
theorem am_V {M : ax_M} {R : Room} {as : List Value} {v : Value} (h : ci T np PD km TI A I J) (hM : AD M R (HH A I J U) as (some v) (HH A I J U)) : AM M R (HH A I J U) as (pV T np PD km TI v A I J) := am_mono (fun r h' q => by obtain ⟨rfl, rfl⟩ := q; exact pV_r h v) hM
theorem am_N {M : ax_M} {R : Room} {as : List Value} {v : Value} (h : mi T np PD km TI A I J) (hM : AD M R (HH A I J U) as (some v) (HH A I J U)) : AM M R (HH A I J U) as (pN T np PD km TI v A I J) := am_mono (fun r h' q => by obtain ⟨rfl, rfl⟩ := q; exact pN_r h v) hM
theorem am_NM {M : ax_M} {R : Room} {as : List Value} {v : Int32} (h : mi T np PD km TI A I J) (hM : AM M R (HH A I J U) as (pM A I J U v)) : AM M R (HH A I J U) as (pN T np PD km TI (.int v) A I J) := am_mono (fun r h' q => by obtain ⟨rfl, f, rfl⟩ := q; exact ⟨rfl, _, _, _, _, rfl, mi_S h, lo_of (frA_u _ _ _ (List.mem_singleton.mpr rfl)) (frI_r _ []) (by decide) (by decide)⟩) hM
theorem am_NY {M : ax_M} {R : Room} {as : List Value} {v : Int32} (h : mi T np PD km TI A I J) (hM : AM M R (HH A I J U) as (pY A I J U v)) : AM M R (HH A I J U) as (pN T np PD km TI (.int v) A I J) := am_mono (fun r h' q => by obtain ⟨rfl, A', I', rfl, q1, q2, q3, q4⟩ := q; exact ⟨rfl, A', I', _, _, rfl, mi_D h q3 q4 q1 q2, lo_N q3 q4 (by decide)⟩) hM
/- the calls that stand already -/
theorem v_who (h : ci T np PD km TI A I J) (f : Int32) : AM m_V_who r_V_who (HH A I J U) [.ref 0, .int f] (pV T np PD km TI (.int (aWho T f)) A I J) := am_V h (c_V_who h.1 h.2.1 f)
theorem v_loud (h : ci T np PD km TI A I J) (a b : Int32) : AM m_V_loud r_V_loud (HH A I J U) [.ref 0, .int a, .int b] (pV T np PD km TI (.int (aLoud T a b)) A I J) := am_V h (c_V_loud h.1 h.2.1 a b)
theorem v_hears (h : ci T np PD km TI A I J) (a : Int32) : AM m_V_hears r_V_hears (HH A I J U) [.ref 0, .int a] (pV T np PD km TI (.int (aHears T a)) A I J) := am_V h (c_V_hears h.1 h.2.1 a)
theorem v_rumour (h : ci T np PD km TI A I J) (a b : Int32) : AM m_V_rumour r_V_rumour (HH A I J U) [.ref 0, .int a, .int b] (pV T np PD km TI (.int (aRumour T a b)) A I J) := am_V h (c_V_rumour h.1 h.2.1 a b)
theorem v_year (h : ci T np PD km TI A I J) (a b c : Int32) : AM m_V_year r_V_year (HH A I J U) [.ref 0, .int a, .int b, .int c] (pV T np PD km TI (.int (aYear T a b c)) A I J) := by
  obtain ⟨T0, h5⟩ := h.2.2.1.2.2
  exact am_mono (fun r h' q => by
    obtain ⟨rfl, A', I', T', rfl, q1, q2, q3⟩ := q
    have q4 : frI I I' [22, 29] := fun x y hx => q3 x y (fun z => hx (List.mem_cons.mpr (Or.inl (List.mem_singleton.mp z))))
    exact ⟨rfl, A', I', _, _, rfl, ci_22 h q2 q4 (q3 29 1 (by decide)) q1, hi_of q2 q3 (by decide) (by decide)⟩) (c_V_year h.1 h.2.1 h5 a b c)
theorem v_chance (h : ci T np PD km TI A I J) (a b c d : Int32) : AM m_V_chance r_V_chance (HH A I J U) [.ref 0, .int a, .int b, .int c, .int d] (pV T np PD km TI (.long (aChance T a b c d)) A I J) := by
  obtain ⟨f, h5⟩ := h.2.2.2.2.1.2.2
  exact am_mono (fun r h' q => by
    obtain ⟨rfl, I', U', f', rfl, q1⟩ := q
    exact ⟨rfl, A, I', _, U', rfl, ci_C h q1 (f := f') rfl, ⟨fun _ _ => rfl, fun x y hx => q1 x y (fun z => absurd (List.mem_singleton.mp z) (by omega)), rfl⟩⟩) (c_V_chance h.1 h.2.1 h5 a b c d)
theorem n_who (h : mi T np PD km TI A I J) (f : Int32) : AM m_M_who r_M_who (HH A I J U) [.ref 36, .int f] (pN T np PD km TI (.int (aWho T f)) A I J) := am_N h (c_M_who h.1 h.2.1 f)
theorem n_loud (h : mi T np PD km TI A I J) (a b : Int32) : AM m_M_loud r_M_loud (HH A I J U) [.ref 36, .int a, .int b] (pN T np PD km TI (.int (aLoud T a b)) A I J) := am_N h (c_M_loud h.1 h.2.1 a b)
theorem n_hears (h : mi T np PD km TI A I J) (a : Int32) : AM m_M_hears r_M_hears (HH A I J U) [.ref 36, .int a] (pN T np PD km TI (.int (aHears T a)) A I J) := am_N h (c_M_hears h.1 h.2.1 a)
theorem n_rumour (h : mi T np PD km TI A I J) (a b : Int32) : AM m_M_rumour r_M_rumour (HH A I J U) [.ref 36, .int a, .int b] (pN T np PD km TI (.int (aRumour T a b)) A I J) := am_N h (c_M_rumour h.1 h.2.1.g a b)
theorem n_best (h : mi T np PD km TI A I J) (a b : Int32) : AM m_M_best r_M_best (HH A I J U) [.ref 36, .int a, .int b] (pN T np PD km TI (.int (aBest T a b)) A I J) := am_N h (c_M_best h.1 h.2.1 a b)
theorem n_thirds (h : mi T np PD km TI A I J) (a b : Int32) : AM m_M_thirds r_M_thirds (HH A I J U) [.ref 36, .int a, .int b] (pN T np PD km TI (.int (aThirds T a b)) A I J) := by
  obtain ⟨f, h5⟩ := h.2.2.1.2.2.1
  exact am_NM h (c_M_thirds h.1 h.2.1 h5 a b)
theorem n_round (h : mi T np PD km TI A I J) (a b : Int32) : AM m_M_round r_M_round (HH A I J U) [.ref 36, .int a, .int b] (pN T np PD km TI (.int (aRound T a b)) A I J) := by
  obtain ⟨f, h5⟩ := h.2.2.1.2.2.1
  exact am_NM h (c_M_round h.1 h.2.1 h5 a b)
theorem n_ask (h : mi T np PD km TI A I J) (a : Int32) : AM m_M_ask r_M_ask (HH A I J U) [.ref 36, .int a] (pN T np PD km TI (.int (aAsk T a)) A I J) := by
  obtain ⟨f, h5⟩ := h.2.2.1.2.2.1
  exact am_NM h (c_M_ask h.1 h.2.1 h5 a)
theorem n_year (h : mi T np PD km TI A I J) (a b c : Int32) : AM m_M_year r_M_year (HH A I J U) [.ref 36, .int a, .int b, .int c] (pN T np PD km TI (.int (aYear T a b c)) A I J) := am_NY h (c_M_year h.1 h.2.1 h.2.2.1.1 h.2.2.1.2.1 a b c)
theorem n_knows (h : mi T np PD km TI A I J) (a : Int32) : AM m_M_knows r_M_knows (HH A I J U) [.ref 36, .int a] (pN T np PD km TI (.int (aKnows PD np T a)) A I J) := am_NY h (c_M_knows h.1 h.2.1 h.2.2.1.1 h.2.2.1.2.1 h.2.2.2.1.1 h.2.2.2.1.2.1 h.2.2.2.1.2.2.1 h.2.2.2.1.2.2.2 a)
theorem n_behind (h : mi T np PD km TI A I J) (a : Int32) : AM m_M_behind r_M_behind (HH A I J U) [.ref 36, .int a] (pN T np PD km TI (.int (aBehind PD np T a)) A I J) := am_NY h (c_M_behind h.1 h.2.1 h.2.2.1.1 h.2.2.1.2.1 h.2.2.2.1.1 h.2.2.2.1.2.1 h.2.2.2.1.2.2.1 h.2.2.2.1.2.2.2 a)
theorem n_chance (h : mi T np PD km TI A I J) (a b c d : Int32) : AM m_M_chance r_M_chance (HH A I J U) [.ref 36, .int a, .int b, .int c, .int d] (pN T np PD km TI (.long (aChance T a b c d)) A I J) := by
  obtain ⟨f, h5⟩ := h.2.2.1.2.2.2
  exact am_mono (fun r h' q => by
    obtain ⟨rfl, f', rfl⟩ := q
    exact ⟨rfl, A, I, _, U, rfl, mi_W h, ⟨fun _ _ => rfl, fun _ _ _ => rfl, rfl⟩⟩) (c_M_chance h.1 h.2.1.g h5 a b c d)
end INV

