/-! the class's face: chance, year -/
section VFACE
variable {A : Nat → List Int32} {I : Nat → Nat → Int32} {J : Nat → List Int64} {U : Nat → Nat → Int64} {T T0 : town}
set_option maxHeartbeats 1000000 in
set_option maxRecDepth 20000 in
theorem c_V_year (hT : okT T) (hE : enS A I 1 T) (hE2 : enS A I 22 T0) (s d w : Int32) : AM m_V_year r_V_year (HH A I J U) [.ref 0, .int s, .int d, .int w] (fun r h' => r = some (.int (aYear T s d w)) ∧ ∃ A' I' T', h' = HH A' I' J U ∧ enS A' I' 22 T' ∧ frA A A' (str 22) ∧ frI I I' [22]) := by
  refine am_of (by decide) rfl (by first | decide | exact Nat.le_of_ble_eq_true rfl) ?_
  refine aw_iload_n (pc := 0) d_V_year_0 rfl rfl ?_
  refine aw_iconst (pc := 1) (v := 0) d_V_year_1 (by decide) ?_
  refine aw_sipush (pc := 2) (v := 9999) d_V_year_2 (by decide) ?_
  refine aw_callS1 (pc := 5) (c_V_within _ _ _ _) ok_V_within d_V_year_5 lm_V_50 rfl rfl ⟨by decide, by decide⟩ (Nat.le_of_ble_eq_true rfl) rfl rfl ⟨by decide, by decide⟩ ?_
  refine aw_bz (pc := 8) (tgt := 30) d_V_year_8 (by decide) (fun h8 => ?_) (fun h8 => ?_)
  · refine aw_bipush (pc := 30) (v := (-2)) d_V_year_30 (by decide) ?_
    refine aw_iret (pc := 32) d_V_year_32 rfl ?_
    exact ⟨by unfold aYear; rw [if_pos (fun z => h8 ⟨z.1, z.2.1⟩)], A, I, T0, rfl, hE2, frA_r _ _, frI_r _ _⟩
  · refine aw_iload_n (pc := 11) d_V_year_11 rfl rfl ?_
    refine aw_iconst (pc := 12) (v := 1) d_V_year_12 (by decide) ?_
    refine aw_bipush (pc := 13) (v := 99) d_V_year_13 (by decide) ?_
    refine aw_callS1 (pc := 15) (c_V_within _ _ _ _) ok_V_within d_V_year_15 lm_V_50 rfl rfl ⟨by decide, by decide⟩ (Nat.le_of_ble_eq_true rfl) rfl rfl ⟨by decide, by decide⟩ ?_
    refine aw_bz (pc := 18) (tgt := 30) d_V_year_18 (by decide) (fun h18 => ?_) (fun h18 => ?_)
    · refine aw_bipush (pc := 30) (v := (-2)) d_V_year_30 (by decide) ?_
      refine aw_iret (pc := 32) d_V_year_32 rfl ?_
      exact ⟨by unfold aYear; rw [if_pos (fun z => h18 ⟨z.2.2.1, z.2.2.2.1⟩)], A, I, T0, rfl, hE2, frA_r _ _, frI_r _ _⟩
    · refine aw_iload_n (pc := 21) d_V_year_21 rfl rfl ?_
      refine aw_iconst (pc := 22) (v := 0) d_V_year_22 (by decide) ?_
      refine aw_iconst (pc := 23) (v := 2) d_V_year_23 (by decide) ?_
      refine aw_callS1 (pc := 24) (c_V_within _ _ _ _) ok_V_within d_V_year_24 lm_V_50 rfl rfl ⟨by decide, by decide⟩ (Nat.le_of_ble_eq_true rfl) rfl rfl ⟨by decide, by decide⟩ ?_
      refine aw_bn (pc := 27) (tgt := 33) d_V_year_27 (by decide) (fun h27 => ?_) (fun h27 => ?_)
      · have hz : 0 ≤ s ∧ s ≤ 9999 ∧ 1 ≤ d ∧ d ≤ 99 ∧ 0 ≤ w ∧ w ≤ 2 := ⟨h8.1, h8.2, h18.1, h18.2, h27⟩
        obtain ⟨s, hs, rfl⟩ := rng 9999 (by omega) h8
        obtain ⟨d, hd, rfl⟩ := rng 99 (by omega) ⟨Int32.le_trans (by decide) h18.1, h18.2⟩
        obtain ⟨w, hw, rfl⟩ := rng 2 (by omega) h27
        have ea : aYear T (nI s) (nI d) (nI w) = if w = 0 then nI (fb_sm (fun j => cn (yr T s d 0 j)) 12) else if w = 1 then nI (yr T s d 6 5) else nI (cn (yr T s d 6 2)) := by
          unfold aYear
          rw [if_neg (fun z => z hz), nI_clamp (by omega), nI_clamp (by omega)]
          by_cases e : w = 0
          · rw [if_pos e, if_pos (by rw [e]; rfl)]
          · rw [if_neg e, if_neg (fun z => e ((nI_e0 (by omega)).mp z))]
            by_cases e2 : w = 1
            · rw [if_pos e2, if_pos (by rw [e2]; rfl)]
            · rw [if_neg e2, if_neg (fun (z : nI w = 1) => e2 ((nI_eq (b := 1) (by omega) (by omega)).mp z))]
        refine aw_aload_n (pc := 33) d_V_year_33 rfl rfl ?_
        refine aw_get (pc := 34) d_V_year_34 lf_V_22 hg_0 rfl ?_
        refine aw_aload_n (pc := 37) d_V_year_37 rfl rfl ?_
        refine aw_get (pc := 38) d_V_year_38 lf_V_10 hg_0 rfl ?_
        refine aw_callVq (pc := 41) (c_S_takeFrom_22_1 hE hE2) ok_S_takeFrom d_V_year_41 lm_V_129 hg_22 rfl rfl ⟨by decide, by decide⟩ (Nat.le_of_ble_eq_true rfl) rfl rfl ⟨by decide, by decide⟩ (fun rr hh2 hq => ?_)
        obtain ⟨rfl, A1, I1, rfl, f1, f2, f3⟩ := hq
        refine aw_aload_n (pc := 44) d_V_year_44 rfl rfl ?_
        refine aw_get (pc := 45) d_V_year_45 lf_V_22 hg_0 rfl ?_
        refine aw_iload_n (pc := 48) d_V_year_48 rfl rfl ?_
        refine aw_iload_n (pc := 49) d_V_year_49 rfl rfl ?_
        refine aw_callVq (pc := 50) (c_S_drawYear hT f1 (s := s) (d := d) (by omega) hd) ok_S_drawYear d_V_year_50 lm_V_217 hg_22 rfl rfl ⟨by decide, by decide⟩ (Nat.le_of_ble_eq_true rfl) rfl rfl ⟨by decide, by decide⟩ (fun rr hh2 hq => ?_)
        obtain ⟨rfl, A2, I2, rfl, g1, g2, g3⟩ := hq
        have hY := ok_yr hT s d
        have b1 := hY.2.2.2.2.2.1
        refine aw_iload_n (pc := 53) d_V_year_53 rfl rfl ?_
        refine aw_if_ne (pc := 54) (tgt := 65) d_V_year_54 (by decide) (fun h54 => ?_) (fun h54 => ?_)
        · have h54 : ¬ w = 0 := fun z => h54 (by rw [z]; rfl)
          refine aw_iload_n (pc := 65) d_V_year_65 rfl rfl ?_
          refine aw_iconst (pc := 66) (v := 1) d_V_year_66 (by decide) ?_
          refine awn_ne (pc := 67) (tgt := 80) (w) (1) d_V_year_67 (by decide) rfl rfl (by omega) (by omega) (fun h67 => ?_) (fun h67 => ?_)
          · refine aw_aload_n (pc := 80) d_V_year_80 rfl rfl ?_
            refine aw_get (pc := 81) d_V_year_81 lf_V_22 hg_0 rfl ?_
            refine aw_geti (pc := 84) (y := (nI (yr T s d 6 2))) d_V_year_84 lf_V_102 hg_22 rfl g1.2.2.2.1 ?_
            refine aw_callS1 (pc := 87) (c_B_bitCount (b := yr T s d 6 2) (by omega)) ok_B_bitCount d_V_year_87 lm_V_189 rfl rfl ⟨by decide, by decide⟩ (Nat.le_of_ble_eq_true rfl) rfl rfl ⟨by decide, by decide⟩ ?_
            refine aw_iret (pc := 90) d_V_year_90 rfl ?_
            exact ⟨by rw [ea, if_neg h54, if_neg h67], A2, I2, _, rfl, g1, frA_t f2 g2, frI_t f3 g3⟩
          · refine aw_aload_n (pc := 70) d_V_year_70 rfl rfl ?_
            refine aw_get (pc := 71) d_V_year_71 lf_V_22 hg_0 rfl ?_
            refine aw_geti (pc := 74) (y := (nI (yr T s d 6 5))) d_V_year_74 lf_V_87 hg_22 rfl g1.2.2.2.2.2.2.1 ?_
            refine aw_goto (pc := 77) (tgt := 90) d_V_year_77 (by decide) ?_
            refine aw_iret (pc := 90) d_V_year_90 rfl ?_
            exact ⟨by rw [ea, if_neg h54, if_pos h67], A2, I2, _, rfl, g1, frA_t f2 g2, frI_t f3 g3⟩
        · have h54 : w = 0 := (nI_eq (b := 0) (by omega) (by omega)).mp h54
          refine aw_aload_n (pc := 57) d_V_year_57 rfl rfl ?_
          refine aw_get (pc := 58) d_V_year_58 lf_V_22 hg_0 rfl ?_
          refine aw_callV1 (pc := 61) (c_S_factsKnown hY g1) ok_S_factsKnown d_V_year_61 lm_V_220 hg_22 rfl rfl ⟨by decide, by decide⟩ (Nat.le_of_ble_eq_true rfl) rfl rfl ⟨by decide, by decide⟩ ?_
          refine aw_iret (pc := 64) d_V_year_64 rfl ?_
          exact ⟨by rw [ea, if_pos h54], A2, I2, _, rfl, g1, frA_t f2 g2, frI_t f3 g3⟩
      · have _ := h27
        refine aw_bipush (pc := 30) (v := (-2)) d_V_year_30 (by decide) ?_
        refine aw_iret (pc := 32) d_V_year_32 rfl ?_
        exact ⟨by unfold aYear; rw [if_pos (fun z => h27 ⟨z.2.2.2.2.1, z.2.2.2.2.2⟩)], A, I, T0, rfl, hE2, frA_r _ _, frI_r _ _⟩
end VFACE

