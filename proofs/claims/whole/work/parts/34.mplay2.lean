/-! behind, judge: the reference -/
def aBehind (PD : Nat → Nat) (np : Nat) (T : town) (w : Int32) : Int32 := if ¬ (0 ≤ w ∧ w ≤ 3) then -2 else aBar PD np T (if w = 0 then nI ((plq PD np T).2.2.2 6 5) else if w = 1 then nI ((plq PD np T).2.2.2 6 6) else if w = 2 then nI ((plq PD np T).2.2.2 6 2) else oI (plq PD np T).2.2.1)
def aJudge (PD : Nat → Nat) (np : Nat) (T : town) (w : Int32) : Int32 := if ¬ (0 ≤ w ∧ w ≤ 1) then -2 else if ¬ flt PD np 0 false = none then -5 else if w = 0 then stI (plq PD np T).1 else whI (plq PD np T).1
section MPLAY2
variable {A : Nat → List Int32} {I : Nat → Nat → Int32} {J : Nat → List Int64} {U : Nat → Nat → Int64} {T : town} {np : Nat} {PD : Nat → Nat}
set_option maxHeartbeats 1000000 in
set_option maxRecDepth 20000 in
theorem c_M_behind (hT : okT T) (hE : enM A I T) (h38 : ∃ f, A 38 = lst 16 f) (h43 : ∃ f, A 43 = lst 12 f) (hp : np ≤ 60) (hP : ∀ j, j < 60 → PD j < 128) (h42 : A 42 = lst 60 PD) (h36 : I 36 9 = nI np) (w : Int32) : AM m_M_behind r_M_behind (HH A I J U) [.ref 36, .int w] (pY A I J U (aBehind PD np T w)) := by
  refine am_of (by decide) rfl (by first | decide | exact Nat.le_of_ble_eq_true rfl) ?_
  refine aw_iload_n (pc := 0) d_M_behind_0 rfl rfl ?_
  refine aw_iconst (pc := 1) (v := 0) d_M_behind_1 (by decide) ?_
  refine aw_iconst (pc := 2) (v := 3) d_M_behind_2 (by decide) ?_
  refine aw_callS1 (pc := 3) (c_M_in _ _ _ _) ok_M_in d_M_behind_3 lm_M_52 rfl rfl ⟨by decide, by decide⟩ (Nat.le_of_ble_eq_true rfl) rfl rfl ⟨by decide, by decide⟩ ?_
  refine aw_bn (pc := 6) (tgt := 12) d_M_behind_6 (by decide) (fun h6 => ?_) (fun h6 => ?_)
  · have ea : ∀ v, (if w = 0 then nI ((plq PD np T).2.2.2 6 5) else if w = 1 then nI ((plq PD np T).2.2.2 6 6) else if w = 2 then nI ((plq PD np T).2.2.2 6 2) else oI (plq PD np T).2.2.1) = v → aBehind PD np T w = aBar PD np T v := fun v hv => by unfold aBehind; rw [if_neg (fun z => z h6), hv]
    refine aw_aload_n (pc := 12) d_M_behind_12 rfl rfl ?_
    refine aw_callVq (pc := 13) (c_M_barOfDays hT hE h38 h43 hp hP h42 h36) ok_M_barOfDays d_M_behind_13 lm_M_113 hg_36 rfl rfl ⟨by decide, by decide⟩ (Nat.le_of_ble_eq_true rfl) rfl rfl ⟨by decide, by decide⟩ (fun rr hh2 hq => ?_)
    obtain ⟨A1, I1, rfl, (⟨ho, rfl, e1, e2, e3⟩ | ⟨ho, rfl⟩), g1, g2, g3, g4⟩ := hq
    · refine aw_if_ge (pc := 16) (tgt := 22) d_M_behind_16 (by decide) (fun _ => ?_) (fun hh => absurd (by decide) hh)
      refine aw_iload_n (pc := 22) d_M_behind_22 rfl rfl ?_
      refine aw_if_ne (pc := 23) (tgt := 36) d_M_behind_23 (by decide) (fun h23 => ?_) (fun h23 => ?_)
      · refine aw_iload_n (pc := 36) d_M_behind_36 rfl rfl ?_
        refine aw_iconst (pc := 37) (v := 1) d_M_behind_37 (by decide) ?_
        refine aw_icmp_ne (pc := 38) (tgt := 51) d_M_behind_38 (by decide) (fun h39 => ?_) (fun h39 => ?_)
        · refine aw_iload_n (pc := 51) d_M_behind_51 rfl rfl ?_
          refine aw_iconst (pc := 52) (v := 2) d_M_behind_52 (by decide) ?_
          refine aw_icmp_ne (pc := 53) (tgt := 66) d_M_behind_53 (by decide) (fun h53 => ?_) (fun h53 => ?_)
          · refine aw_aload_n (pc := 66) d_M_behind_66 rfl rfl ?_
            refine aw_geti (pc := 67) (y := (oI (plq PD np T).2.2.1)) d_M_behind_67 lf_M_94 hg_36 rfl e3 ?_
            refine aw_iret (pc := 70) d_M_behind_70 rfl ?_
            exact ⟨by rw [ea _ (by rw [if_neg h23, if_neg h39, if_neg h53]), aBar_y _ ho], A1, I1, rfl, g1, g2, g3, g4⟩
          · refine aw_aload_n (pc := 56) d_M_behind_56 rfl rfl ?_
            refine aw_get (pc := 57) d_M_behind_57 lf_M_13 hg_36 rfl ?_
            refine aw_bipush (pc := 60) (v := 15) d_M_behind_60 (by decide) ?_
            refine aw_ildN (pc := 62) (j := 15) d_M_behind_62 hg_38 e1 rfl (by decide) (by decide) ?_
            refine aw_goto (pc := 63) (tgt := 70) d_M_behind_63 (by decide) ?_
            refine aw_iret (pc := 70) d_M_behind_70 rfl ?_
            exact ⟨by rw [ea _ (by rw [if_neg h23, if_neg h39, if_pos h53]), aBar_y _ ho]; rfl, A1, I1, rfl, g1, g2, g3, g4⟩
        · refine aw_aload_n (pc := 41) d_M_behind_41 rfl rfl ?_
          refine aw_get (pc := 42) d_M_behind_42 lf_M_13 hg_36 rfl ?_
          refine aw_bipush (pc := 45) (v := 13) d_M_behind_45 (by decide) ?_
          refine aw_ildN (pc := 47) (j := 13) d_M_behind_47 hg_38 e1 rfl (by decide) (by decide) ?_
          refine aw_goto (pc := 48) (tgt := 70) d_M_behind_48 (by decide) ?_
          refine aw_iret (pc := 70) d_M_behind_70 rfl ?_
          exact ⟨by rw [ea _ (by rw [if_neg h23, if_pos h39]), aBar_y _ ho]; rfl, A1, I1, rfl, g1, g2, g3, g4⟩
      · refine aw_aload_n (pc := 26) d_M_behind_26 rfl rfl ?_
        refine aw_get (pc := 27) d_M_behind_27 lf_M_13 hg_36 rfl ?_
        refine aw_bipush (pc := 30) (v := 12) d_M_behind_30 (by decide) ?_
        refine aw_ildN (pc := 32) (j := 12) d_M_behind_32 hg_38 e1 rfl (by decide) (by decide) ?_
        refine aw_goto (pc := 33) (tgt := 70) d_M_behind_33 (by decide) ?_
        refine aw_iret (pc := 70) d_M_behind_70 rfl ?_
        exact ⟨by rw [ea _ (by rw [if_pos h23]), aBar_y _ ho]; rfl, A1, I1, rfl, g1, g2, g3, g4⟩
    · refine aw_if_ge (pc := 16) (tgt := 22) d_M_behind_16 (by decide) (fun hh => absurd hh (by decide)) (fun _ => ?_)
      refine aw_bipush (pc := 19) (v := (-5)) d_M_behind_19 (by decide) ?_
      refine aw_iret (pc := 21) d_M_behind_21 rfl ?_
      exact ⟨by rw [ea _ rfl, aBar_n _ ho], A1, I1, rfl, g1, g2, g3, g4⟩
  · refine aw_bipush (pc := 9) (v := (-2)) d_M_behind_9 (by decide) ?_
    refine aw_iret (pc := 11) d_M_behind_11 rfl ?_
    exact ⟨by unfold aBehind; rw [if_pos h6], A, I, rfl, h38, h43, frA_r _ _, frN_r _⟩
end MPLAY2

