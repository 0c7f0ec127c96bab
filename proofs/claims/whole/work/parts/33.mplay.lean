/-! knows, behind, judge, done: the reference -/
def aBar (PD : Nat → Nat) (np : Nat) (T : town) (v : Int32) : Int32 := if flt PD np 0 false = none ∧ (plq PD np T).1 = none then v else -5
theorem aBar_y {PD : Nat → Nat} {np : Nat} {T : town} (v : Int32) (h : okP PD np T) : aBar PD np T v = v := if_pos h
theorem aBar_n {PD : Nat → Nat} {np : Nat} {T : town} (v : Int32) (h : ¬ okP PD np T) : aBar PD np T v = -5 := if_neg h
def aKnows (PD : Nat → Nat) (np : Nat) (T : town) (h : Int32) : Int32 := if ¬ (0 ≤ h ∧ h ≤ 11) then -1 else aBar PD np T (nI ((plq PD np T).2.2.2 0 h.toNatClampNeg))
section MPLAY
variable {A : Nat → List Int32} {I : Nat → Nat → Int32} {J : Nat → List Int64} {U : Nat → Nat → Int64} {T : town} {np : Nat} {PD : Nat → Nat}
set_option maxHeartbeats 1000000 in
set_option maxRecDepth 20000 in
theorem c_M_knows (hT : okT T) (hE : enM A I T) (h38 : ∃ f, A 38 = lst 16 f) (h43 : ∃ f, A 43 = lst 12 f) (hp : np ≤ 60) (hP : ∀ j, j < 60 → PD j < 128) (h42 : A 42 = lst 60 PD) (h36 : I 36 9 = nI np) (h : Int32) : AM m_M_knows r_M_knows (HH A I J U) [.ref 36, .int h] (pY A I J U (aKnows PD np T h)) := by
  refine am_of (by decide) rfl (by first | decide | exact Nat.le_of_ble_eq_true rfl) ?_
  refine aw_iload_n (pc := 0) d_M_knows_0 rfl rfl ?_
  refine aw_callS1 (pc := 1) (c_M_isHouse _ _) ok_M_isHouse d_M_knows_1 lm_M_56 rfl rfl ⟨by decide, by decide⟩ (Nat.le_of_ble_eq_true rfl) rfl rfl ⟨by decide, by decide⟩ ?_
  refine aw_bn (pc := 4) (tgt := 9) d_M_knows_4 (by decide) (fun h4 => ?_) (fun h4 => ?_)
  · obtain ⟨j, hj, rfl⟩ := rng 11 (by omega) h4
    have ea : aKnows PD np T (nI j) = aBar PD np T (nI ((plq PD np T).2.2.2 0 j)) := by unfold aKnows; rw [if_neg (fun z => z h4), nI_clamp (by omega)]
    refine aw_aload_n (pc := 9) d_M_knows_9 rfl rfl ?_
    refine aw_callVq (pc := 10) (c_M_barOfDays hT hE h38 h43 hp hP h42 h36) ok_M_barOfDays d_M_knows_10 lm_M_113 hg_36 rfl rfl ⟨by decide, by decide⟩ (Nat.le_of_ble_eq_true rfl) rfl rfl ⟨by decide, by decide⟩ (fun rr hh2 hq => ?_)
    obtain ⟨A1, I1, rfl, (⟨ho, rfl, e1, e2, e3⟩ | ⟨ho, rfl⟩), g1, g2, g3, g4⟩ := hq
    · refine aw_if_ge (pc := 13) (tgt := 21) d_M_knows_13 (by decide) (fun _ => ?_) (fun hh => absurd (by decide) hh)
      refine aw_aload_n (pc := 21) d_M_knows_21 rfl rfl ?_
      refine aw_get (pc := 22) d_M_knows_22 lf_M_13 hg_36 rfl ?_
      refine aw_iload_n (pc := 25) d_M_knows_25 rfl rfl ?_
      refine aw_ildN (pc := 26) (j := j) d_M_knows_26 hg_38 e1 rfl (by omega) (by decide) ?_
      refine aw_iret (pc := 27) d_M_knows_27 rfl ?_
      exact ⟨by rw [ea, aBar_y _ ho, bk, if_pos (by omega)], A1, I1, rfl, g1, g2, g3, g4⟩
    · refine aw_if_ge (pc := 13) (tgt := 21) d_M_knows_13 (by decide) (fun hh => absurd hh (by decide)) (fun _ => ?_)
      refine aw_bipush (pc := 16) (v := (-5)) d_M_knows_16 (by decide) ?_
      refine aw_goto (pc := 18) (tgt := 27) d_M_knows_18 (by decide) ?_
      refine aw_iret (pc := 27) d_M_knows_27 rfl ?_
      exact ⟨by rw [ea, aBar_n _ ho], A1, I1, rfl, g1, g2, g3, g4⟩
  · have _ := h4
    refine aw_iconst (pc := 7) (v := (-1)) d_M_knows_7 (by decide) ?_
    refine aw_iret (pc := 8) d_M_knows_8 rfl ?_
    exact ⟨by unfold aKnows; rw [if_pos h4], A, I, rfl, h38, h43, frA_r _ _, frN_r _⟩
end MPLAY

