/-! the class's face: rumour, chance -/
section VFACE2
variable {A : Nat → List Int32} {I : Nat → Nat → Int32} {J : Nat → List Int64} {U : Nat → Nat → Int64} {T : town}
set_option maxHeartbeats 1000000 in
set_option maxRecDepth 20000 in
theorem c_V_rumour (hT : okT T) (hE : enS A I 1 T) (h n : Int32) : AD m_V_rumour r_V_rumour (HH A I J U) [.ref 0, .int h, .int n] (some (.int (aRumour T h n))) (HH A I J U) := by
  refine am_of (by decide) rfl (by first | decide | exact Nat.le_of_ble_eq_true rfl) ?_
  refine aw_iload_n (pc := 0) d_V_rumour_0 rfl rfl ?_
  refine aw_iconst (pc := 1) (v := 0) d_V_rumour_1 (by decide) ?_
  refine aw_bipush (pc := 2) (v := 11) d_V_rumour_2 (by decide) ?_
  refine aw_callS1 (pc := 4) (c_V_within _ _ _ _) ok_V_within d_V_rumour_4 lm_V_50 rfl rfl ⟨by decide, by decide⟩ (Nat.le_of_ble_eq_true rfl) rfl rfl ⟨by decide, by decide⟩ ?_
  refine aw_bn (pc := 7) (tgt := 12) d_V_rumour_7 (by decide) (fun h7 => ?_) (fun h7 => ?_)
  · refine aw_iload_n (pc := 12) d_V_rumour_12 rfl rfl ?_
    refine aw_iconst (pc := 13) (v := (-1)) d_V_rumour_13 (by decide) ?_
    refine aw_bipush (pc := 14) (v := 20) d_V_rumour_14 (by decide) ?_
    refine aw_callS1 (pc := 16) (c_V_within _ _ _ _) ok_V_within d_V_rumour_16 lm_V_50 rfl rfl ⟨by decide, by decide⟩ (Nat.le_of_ble_eq_true rfl) rfl rfl ⟨by decide, by decide⟩ ?_
    refine aw_bn (pc := 19) (tgt := 25) d_V_rumour_19 (by decide) (fun h19 => ?_) (fun h19 => ?_)
    · obtain ⟨j, hj, rfl⟩ := rng 11 (by omega) h7
      refine aw_iload_n (pc := 25) d_V_rumour_25 rfl rfl ?_
      refine aw_iconst (pc := 26) (v := (-1)) d_V_rumour_26 (by decide) ?_
      refine aw_icmp_ne (pc := 27) (tgt := 41) d_V_rumour_27 (by decide) (fun h27 => ?_) (fun h27 => ?_)
      · have h28 : 0 ≤ n := Decidable.not_not.mp (fun z => h27 (m1_of h19.1 z))
        obtain ⟨m, hm, rfl⟩ := rng 20 (by omega) ⟨h28, h19.2⟩
        refine aw_aload_n (pc := 41) d_V_rumour_41 rfl rfl ?_
        refine aw_get (pc := 42) d_V_rumour_42 lf_V_10 hg_0 rfl ?_
        refine aw_iload_n (pc := 45) d_V_rumour_45 rfl rfl ?_
        refine aw_iload_n (pc := 46) d_V_rumour_46 rfl rfl ?_
        refine aw_callV1 (pc := 47) (c_S_knowersOfRumour hT hE.h (h := j) (n := m) (by omega) hm) ok_S_knowersOfRumour d_V_rumour_47 lm_V_186 hg_1 rfl rfl ⟨by decide, by decide⟩ (Nat.le_of_ble_eq_true rfl) rfl rfl ⟨by decide, by decide⟩ ?_
        refine aw_callS1 (pc := 50) (c_B_bitCount (fd_sp_lt T m 0 _ (p2_lt (by omega)))) ok_B_bitCount d_V_rumour_50 lm_V_189 rfl rfl ⟨by decide, by decide⟩ (Nat.le_of_ble_eq_true rfl) rfl rfl ⟨by decide, by decide⟩ ?_
        refine aw_iret (pc := 53) d_V_rumour_53 rfl ?_
        exact ⟨by unfold aRumour; rw [if_neg (fun z => z h7), if_neg (fun z => z h19), if_neg h27, nI_clamp (by omega), nI_clamp (by omega)], rfl⟩
      · have _ := h27
        refine aw_aload_n (pc := 30) d_V_rumour_30 rfl rfl ?_
        refine aw_get (pc := 31) d_V_rumour_31 lf_V_10 hg_0 rfl ?_
        refine aw_iload_n (pc := 34) d_V_rumour_34 rfl rfl ?_
        refine aw_callV1 (pc := 35) (c_S_eveningsOfRumour hT hE.h (h := j) (by omega)) ok_S_eveningsOfRumour d_V_rumour_35 lm_V_183 hg_1 rfl rfl ⟨by decide, by decide⟩ (Nat.le_of_ble_eq_true rfl) rfl rfl ⟨by decide, by decide⟩ ?_
        refine aw_goto (pc := 38) (tgt := 53) d_V_rumour_38 (by decide) ?_
        refine aw_iret (pc := 53) d_V_rumour_53 rfl ?_
        exact ⟨by unfold aRumour; rw [if_neg (fun z => z h7), if_neg (fun z => z h19), if_pos h27, nI_clamp (by omega)], rfl⟩
    · have _ := h19
      refine aw_bipush (pc := 22) (v := (-2)) d_V_rumour_22 (by decide) ?_
      refine aw_iret (pc := 24) d_V_rumour_24 rfl ?_
      exact ⟨by unfold aRumour; rw [if_neg (fun z => z h7), if_pos h19], rfl⟩
  · have _ := h7
    refine aw_iconst (pc := 10) (v := (-1)) d_V_rumour_10 (by decide) ?_
    refine aw_iret (pc := 11) d_V_rumour_11 rfl ?_
    exact ⟨by unfold aRumour; rw [if_pos h7], rfl⟩
end VFACE2

