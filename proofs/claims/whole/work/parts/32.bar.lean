/-! the days on the pad, gone: the reference -/
def okP (PD : Nat → Nat) (np : Nat) (T : town) : Prop := flt PD np 0 false = none ∧ (plq PD np T).1 = none
def pB (A : Nat → List Int32) (I : Nat → Nat → Int32) (J : Nat → List Int64) (U : Nat → Nat → Int64) (PD : Nat → Nat) (np : Nat) (T : town) : Option Value → ax_H → Prop := fun r h' => ∃ A' I', h' = HH A' I' J U ∧ ((okP PD np T ∧ r = some (.int 0) ∧ A' 38 = lst 16 (bk (plq PD np T).2.2.2) ∧ I' 36 14 = nI (plq PD np T).2.1 ∧ I' 36 15 = oI (plq PD np T).2.2.1) ∨ (¬ okP PD np T ∧ r = some (.int (-5)))) ∧ (∃ f, A' 38 = lst 16 f) ∧ (∃ f, A' 43 = lst 12 f) ∧ frA A A' [38, 43] ∧ frN I I'
theorem ply_n (PD : Nat → Nat) (np : Nat) : ∀ (f i : Nat) (T : town) (n : Nat) (a : Option Nat) (z : Nat × Nat), (ply PD np f i T n a).1 = some z → z.1 < n + f ∧ ¬ z.2 = 0 ∧ z.2 < 4
  | 0, _, _, _, _, _, h => by cases h
  | f + 1, i, T, n, a, z, h => by
    unfold ply at h
    by_cases h1 : np ≤ i
    · rw [if_pos h1] at h; cases h
    · rw [if_neg h1] at h
      by_cases h2 : wy T (kd (PD i)) (nb (PD (jx PD np i))) = 0
      · rw [if_pos h2] at h
        have := ply_n PD np f _ _ (n + 1) _ z h
        exact ⟨by omega, this.2⟩
      · rw [if_neg h2] at h
        have e : z = (n, wy T (kd (PD i)) (nb (PD (jx PD np i)))) := (Option.some.inj h).symm
        rw [e]
        refine ⟨by show n < _; omega, h2, ?_⟩
        show wy T (kd (PD i)) (nb (PD (jx PD np i))) < 4
        unfold wy; split; omega; split; omega; split <;> omega
section BAR
variable {A : Nat → List Int32} {I : Nat → Nat → Int32} {J : Nat → List Int64} {U : Nat → Nat → Int64} {T : town} {np : Nat} {PD : Nat → Nat}
set_option maxHeartbeats 1000000 in
set_option maxRecDepth 20000 in
theorem c_M_barOfDays (hT : okT T) (hE : enM A I T) (h38 : ∃ f, A 38 = lst 16 f) (h43 : ∃ f, A 43 = lst 12 f) (hp : np ≤ 60) (hP : ∀ j, j < 60 → PD j < 128) (h42 : A 42 = lst 60 PD) (h36 : I 36 9 = nI np) : AM m_M_barOfDays r_M_barOfDays (HH A I J U) [.ref 36] (pB A I J U PD np T) := by
  refine am_of (by decide) rfl (by first | decide | exact Nat.le_of_ble_eq_true rfl) ?_
  have hl : ∀ n, flt PD np 0 false = some n → n < 1000 := fun n hn => by have := flt_lt hn; omega
  by_cases hf : flt PD np 0 false = none
  · refine aw_aload_n (pc := 0) d_M_barOfDays_0 rfl rfl ?_
    refine aw_callV1 (pc := 1) (c_M_faultOf hp hP h42 h36) ok_M_faultOf d_M_barOfDays_1 lm_M_69 hg_36 rfl rfl ⟨by decide, by decide⟩ (Nat.le_of_ble_eq_true rfl) rfl rfl ⟨by decide, by decide⟩ ?_
    refine aw_if_ge (pc := 4) (tgt := 14) d_M_barOfDays_4 (by decide) (fun hh => absurd hh (fun z => (oI_neg hl).mp z hf)) (fun _ => ?_)
    refine aw_aload_n (pc := 7) d_M_barOfDays_7 rfl rfl ?_
    refine aw_callVq (pc := 8) (c_M_goDays hT hE h38 h43 hp hP h42 h36 hf) ok_M_goDays d_M_barOfDays_8 lm_M_110 hg_36 rfl rfl ⟨by decide, by decide⟩ (Nat.le_of_ble_eq_true rfl) rfl rfl ⟨by decide, by decide⟩ (fun rr hh2 hq => ?_)
    obtain ⟨rfl, A1, I1, rfl, e1, e2, e3, e4, -, e6, e7⟩ := hq
    by_cases hq : (plq PD np T).1 = none
    · refine aw_if_lt (pc := 11) (tgt := 19) d_M_barOfDays_11 (by decide) (fun _ => ?_) (fun hh => absurd (by rw [hq]; decide) hh)
      refine aw_iconst (pc := 19) (v := 0) d_M_barOfDays_19 (by decide) ?_
      refine aw_iret (pc := 20) d_M_barOfDays_20 rfl ?_
      exact ⟨A1, I1, rfl, Or.inl ⟨⟨hf, hq⟩, rfl, e1, e3, e4⟩, ⟨_, e1⟩, e2, e6, e7⟩
    · cases hz : (plq PD np T).1 with
      | none => exact absurd hz hq
      | some z =>
        have hb := ply_n PD np np 0 T 0 none z hz
        refine aw_if_lt (pc := 11) (tgt := 19) d_M_barOfDays_11 (by decide) (fun hh => absurd hh (nI_pos (n := z.1) (by omega))) (fun _ => ?_)
        refine aw_bipush (pc := 14) (v := (-5)) d_M_barOfDays_14 (by decide) ?_
        refine aw_goto (pc := 16) (tgt := 20) d_M_barOfDays_16 (by decide) ?_
        refine aw_iret (pc := 20) d_M_barOfDays_20 rfl ?_
        exact ⟨A1, I1, rfl, Or.inr ⟨fun z => hq z.2, rfl⟩, ⟨_, e1⟩, e2, e6, e7⟩
  · refine aw_aload_n (pc := 0) d_M_barOfDays_0 rfl rfl ?_
    refine aw_callV1 (pc := 1) (c_M_faultOf hp hP h42 h36) ok_M_faultOf d_M_barOfDays_1 lm_M_69 hg_36 rfl rfl ⟨by decide, by decide⟩ (Nat.le_of_ble_eq_true rfl) rfl rfl ⟨by decide, by decide⟩ ?_
    refine aw_if_ge (pc := 4) (tgt := 14) d_M_barOfDays_4 (by decide) (fun _ => ?_) (fun hh => absurd ((oI_neg hl).mpr hf) hh)
    refine aw_bipush (pc := 14) (v := (-5)) d_M_barOfDays_14 (by decide) ?_
    refine aw_goto (pc := 16) (tgt := 20) d_M_barOfDays_16 (by decide) ?_
    refine aw_iret (pc := 20) d_M_barOfDays_20 rfl ?_
    exact ⟨A, I, rfl, Or.inr ⟨fun z => hf z.1, rfl⟩, h38, h43, frA_r _ _, frN_r _⟩
end BAR

