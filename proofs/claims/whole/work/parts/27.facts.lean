/-! who knows, how loud, who hears: both sides -/
def aWho (T : town) (f : Int32) : Int32 := if ¬ (0 ≤ f ∧ f ≤ 7) then -1 else nI (msk (fun h => (T 0 h).testBit f.toNatClampNeg) 12)
def aHears (T : town) (h : Int32) : Int32 := if ¬ (0 ≤ h ∧ h ≤ 11) then -1 else nI (HS T h.toNatClampNeg (T 6 0))
section FACTS
variable {A : Nat → List Int32} {I : Nat → Nat → Int32} {J : Nat → List Int64} {U : Nat → Nat → Int64} {T : town}
set_option maxHeartbeats 1000000 in
set_option maxRecDepth 20000 in
theorem c_V_hears (hT : okT T) (hE : enS A I 1 T) (h : Int32) : AD m_V_hears r_V_hears (HH A I J U) [.ref 0, .int h] (some (.int (aHears T h))) (HH A I J U) := by
  refine am_of (by decide) rfl (by first | decide | exact Nat.le_of_ble_eq_true rfl) ?_
  refine aw_iload_n (pc := 0) d_V_hears_0 rfl rfl ?_
  refine aw_iconst (pc := 1) (v := 0) d_V_hears_1 (by decide) ?_
  refine aw_bipush (pc := 2) (v := 11) d_V_hears_2 (by decide) ?_
  refine aw_callS1 (pc := 4) (c_V_within _ _ _ _) ok_V_within d_V_hears_4 lm_V_50 rfl rfl ⟨by decide, by decide⟩ (Nat.le_of_ble_eq_true rfl) rfl rfl ⟨by decide, by decide⟩ ?_
  refine aw_bn (pc := 7) (tgt := 12) d_V_hears_7 (by decide) (fun h7 => ?_) (fun h7 => ?_)
  · obtain ⟨j, hj, rfl⟩ := rng 11 (by omega) h7
    refine aw_aload_n (pc := 12) d_V_hears_12 rfl rfl ?_
    refine aw_get (pc := 13) d_V_hears_13 lf_V_10 hg_0 rfl ?_
    refine aw_iload_n (pc := 16) d_V_hears_16 rfl rfl ?_
    refine aw_aload_n (pc := 17) d_V_hears_17 rfl rfl ?_
    refine aw_get (pc := 18) d_V_hears_18 lf_V_10 hg_0 rfl ?_
    refine aw_geti (pc := 21) (y := (nI (T 6 0))) d_V_hears_21 lf_V_58 hg_1 rfl hE.2.1 ?_
    refine aw_callV1 (pc := 24) (c_S_hearers_1 hT hE.h (a := j) (op := T 6 0) (by omega) hT.2.2.2.1) ok_S_hearers d_V_hears_24 lm_V_150 hg_1 rfl rfl ⟨by decide, by decide⟩ (Nat.le_of_ble_eq_true rfl) rfl rfl ⟨by decide, by decide⟩ ?_
    refine aw_iret (pc := 27) d_V_hears_27 rfl ?_
    exact ⟨by unfold aHears; rw [if_neg (fun z => z h7), nI_clamp (by omega)], rfl⟩
  · have _ := h7
    refine aw_iconst (pc := 10) (v := (-1)) d_V_hears_10 (by decide) ?_
    refine aw_iret (pc := 11) d_V_hears_11 rfl ?_
    exact ⟨by unfold aHears; rw [if_pos h7], rfl⟩
set_option maxHeartbeats 1000000 in
set_option maxRecDepth 20000 in
theorem c_M_hears (hT : okT T) (hE : enM A I T) (h : Int32) : AD m_M_hears r_M_hears (HH A I J U) [.ref 36, .int h] (some (.int (aHears T h))) (HH A I J U) := by
  refine am_of (by decide) rfl (by first | decide | exact Nat.le_of_ble_eq_true rfl) ?_
  refine aw_iload_n (pc := 0) d_M_hears_0 rfl rfl ?_
  refine aw_callS1 (pc := 1) (c_M_isHouse _ _) ok_M_isHouse d_M_hears_1 lm_M_56 rfl rfl ⟨by decide, by decide⟩ (Nat.le_of_ble_eq_true rfl) rfl rfl ⟨by decide, by decide⟩ ?_
  refine aw_bz (pc := 4) (tgt := 22) d_M_hears_4 (by decide) (fun h4 => ?_) (fun h4 => ?_)
  · refine aw_iconst (pc := 22) (v := (-1)) d_M_hears_22 (by decide) ?_
    refine aw_iret (pc := 23) d_M_hears_23 rfl ?_
    exact ⟨by unfold aHears; rw [if_pos h4], rfl⟩
  · obtain ⟨j, hj, rfl⟩ := rng 11 (by omega) h4
    refine aw_aload_n (pc := 7) d_M_hears_7 rfl rfl ?_
    refine aw_iload_n (pc := 8) d_M_hears_8 rfl rfl ?_
    refine aw_aload_n (pc := 9) d_M_hears_9 rfl rfl ?_
    refine aw_get (pc := 10) d_M_hears_10 lf_M_7 hg_36 rfl ?_
    refine aw_bipush (pc := 13) (v := 14) d_M_hears_13 (by decide) ?_
    refine aw_ildN (pc := 15) (j := 14) d_M_hears_15 hg_37 hE.1.1 rfl (by decide) (by decide) ?_
    refine aw_callV1 (pc := 16) (c_M_hearers hT hE.g (a := j) (op := T 6 0) (by omega) hT.2.2.2.1) ok_M_hearers d_M_hears_16 lm_M_116 hg_36 rfl rfl ⟨by decide, by decide⟩ (Nat.le_of_ble_eq_true rfl) rfl rfl ⟨by decide, by decide⟩ ?_
    refine aw_goto (pc := 19) (tgt := 23) d_M_hears_19 (by decide) ?_
    refine aw_iret (pc := 23) d_M_hears_23 rfl ?_
    exact ⟨by unfold aHears; rw [if_neg (fun z => z h4), nI_clamp (by omega)], rfl⟩
set_option maxHeartbeats 1000000 in
set_option maxRecDepth 20000 in
theorem c_V_who (hT : okT T) (hE : enS A I 1 T) (f : Int32) : AD m_V_who r_V_who (HH A I J U) [.ref 0, .int f] (some (.int (aWho T f))) (HH A I J U) := by
  refine am_of (by decide) rfl (by first | decide | exact Nat.le_of_ble_eq_true rfl) ?_
  refine aw_iload_n (pc := 0) d_V_who_0 rfl rfl ?_
  refine aw_iconst (pc := 1) (v := 0) d_V_who_1 (by decide) ?_
  refine aw_bipush (pc := 2) (v := 7) d_V_who_2 (by decide) ?_
  refine aw_callS1 (pc := 4) (c_V_within _ _ _ _) ok_V_within d_V_who_4 lm_V_50 rfl rfl ⟨by decide, by decide⟩ (Nat.le_of_ble_eq_true rfl) rfl rfl ⟨by decide, by decide⟩ ?_
  refine aw_bn (pc := 7) (tgt := 12) d_V_who_7 (by decide) (fun h7 => ?_) (fun h7 => ?_)
  · obtain ⟨k, hk, rfl⟩ := rng 7 (by omega) h7
    refine aw_iconst (pc := 12) (v := 0) d_V_who_12 (by decide) ?_
    refine aw_istore_n (pc := 13) (ls' := [(0, _), (1, _), (2, _)]) d_V_who_13 rfl (by decide) rfl ?_
    refine aw_iconst (pc := 14) (v := 0) d_V_who_14 (by decide) ?_
    refine aw_istore_n (pc := 15) (ls' := [(0, _), (1, _), (2, _), (3, _)]) d_V_who_15 rfl (by decide) rfl ?_
    refine lp_i (fun i b => AW m_V_who r_V_who ax_E0 (ax_Zm (fun q1 q2 => q1 = some (.int (aWho T (nI k))) ∧ q2 = HH A I J U) 0 0) (HH A I J U) 0 0 16 [(0, .ref 0), (1, .int (nI k)), (2, .int (nI b)), (3, .int (nI i))] []) (fun i b => b = msk (fun h => (T 0 h).testBit k) i) 12 ?_ ?_ 12 0 0 (by omega) rfl
    · rintro b rfl
      refine aw_iload_n (pc := 16) d_V_who_16 rfl rfl ?_
      refine aw_bipush (pc := 17) (v := 12) d_V_who_17 (by decide) ?_
      refine awn_ge (pc := 19) (tgt := 50) (12) (12) d_V_who_19 (by decide) rfl rfl (by omega) (by omega) (fun _ => ?_) (fun hh => absurd hh (by omega))
      refine aw_iload_n (pc := 50) d_V_who_50 rfl rfl ?_
      refine aw_iret (pc := 51) d_V_who_51 rfl ?_
      exact ⟨by unfold aWho; rw [if_neg (fun z => z h7), nI_clamp (by omega)], rfl⟩
    · rintro i b hi rfl ih
      have h8 := hT.1 i hi
      refine aw_iload_n (pc := 16) d_V_who_16 rfl rfl ?_
      refine aw_bipush (pc := 17) (v := 12) d_V_who_17 (by decide) ?_
      refine awn_ge (pc := 19) (tgt := 50) (i) (12) d_V_who_19 (by decide) rfl rfl (by omega) (by omega) (fun hh => absurd hh (by omega)) (fun _ => ?_)
      refine aw_aload_n (pc := 22) d_V_who_22 rfl rfl ?_
      refine aw_get (pc := 23) d_V_who_23 lf_V_10 hg_0 rfl ?_
      refine aw_get (pc := 26) d_V_who_26 lf_V_54 hg_1 rfl ?_
      refine aw_iload_n (pc := 29) d_V_who_29 rfl rfl ?_
      refine aw_ildN (pc := 30) (j := i) d_V_who_30 hg_2 hE.1.1 rfl hi (by decide) ?_
      refine aw_iload_n (pc := 31) d_V_who_31 rfl rfl ?_
      refine aw_callS1 (pc := 32) (c_V_hasBit _ _ _) ok_V_hasBit d_V_who_32 lm_V_142 rfl rfl ⟨by decide, by decide⟩ (Nat.le_of_ble_eq_true rfl) rfl rfl ⟨by decide, by decide⟩ ?_
      refine aw_bz (pc := 35) (tgt := 44) d_V_who_35 (by decide) (fun h35 => ?_) (fun h35 => ?_)
      · refine aw_incN (pc := 44) (ls' := [(0, _), (1, _), (2, _), (3, _)]) (i := i) d_V_who_44 rfl rfl (by decide) rfl ?_
        refine aw_goto (pc := 47) (tgt := 16) d_V_who_47 (by decide) ?_
        refine ih _ ?_
        rw [msk, if_neg (fun z => h35 ((hb_nI (by omega) (by omega)).mpr z)), Nat.or_zero]
      · refine aw_iload_n (pc := 38) d_V_who_38 rfl rfl ?_
        refine aw_iconst (pc := 39) (v := 1) d_V_who_39 (by decide) ?_
        refine aw_iload_n (pc := 40) d_V_who_40 rfl rfl ?_
        refine aw_ishl (pc := 41) d_V_who_41 ?_
        refine aw_ior (pc := 42) d_V_who_42 ?_
        refine aw_top (or_bit (by omega)) ?_
        refine aw_istore_n (pc := 43) (ls' := [(0, _), (1, _), (2, _), (3, _)]) d_V_who_43 rfl (by decide) rfl ?_
        refine aw_incN (pc := 44) (ls' := [(0, _), (1, _), (2, _), (3, _)]) (i := i) d_V_who_44 rfl rfl (by decide) rfl ?_
        refine aw_goto (pc := 47) (tgt := 16) d_V_who_47 (by decide) ?_
        refine ih _ ?_
        rw [msk, if_pos ((hb_nI (by omega) (by omega)).mp h35)]
  · have _ := h7
    refine aw_iconst (pc := 10) (v := (-1)) d_V_who_10 (by decide) ?_
    refine aw_iret (pc := 11) d_V_who_11 rfl ?_
    exact ⟨by unfold aWho; rw [if_pos h7], rfl⟩
set_option maxHeartbeats 1000000 in
set_option maxRecDepth 20000 in
theorem c_M_who (hT : okT T) (hE : enM A I T) (f : Int32) : AD m_M_who r_M_who (HH A I J U) [.ref 36, .int f] (some (.int (aWho T f))) (HH A I J U) := by
  refine am_of (by decide) rfl (by first | decide | exact Nat.le_of_ble_eq_true rfl) ?_
  refine aw_iload_n (pc := 0) d_M_who_0 rfl rfl ?_
  refine aw_iconst (pc := 1) (v := 0) d_M_who_1 (by decide) ?_
  refine aw_bipush (pc := 2) (v := 7) d_M_who_2 (by decide) ?_
  refine aw_callS1 (pc := 4) (c_M_in _ _ _ _) ok_M_in d_M_who_4 lm_M_52 rfl rfl ⟨by decide, by decide⟩ (Nat.le_of_ble_eq_true rfl) rfl rfl ⟨by decide, by decide⟩ ?_
  refine aw_bn (pc := 7) (tgt := 12) d_M_who_7 (by decide) (fun h7 => ?_) (fun h7 => ?_)
  · obtain ⟨k, hk, rfl⟩ := rng 7 (by omega) h7
    refine aw_iconst (pc := 12) (v := 0) d_M_who_12 (by decide) ?_
    refine aw_istore_n (pc := 13) (ls' := [(0, _), (1, _), (2, _)]) d_M_who_13 rfl (by decide) rfl ?_
    refine aw_iconst (pc := 14) (v := 0) d_M_who_14 (by decide) ?_
    refine aw_istore_n (pc := 15) (ls' := [(0, _), (1, _), (2, _), (3, _)]) d_M_who_15 rfl (by decide) rfl ?_
    refine lp_i (fun i b => AW m_M_who r_M_who ax_E0 (ax_Zm (fun q1 q2 => q1 = some (.int (aWho T (nI k))) ∧ q2 = HH A I J U) 0 0) (HH A I J U) 0 0 16 [(0, .ref 36), (1, .int (nI k)), (2, .int (nI b)), (3, .int (nI i))] []) (fun i b => b = msk (fun h => (T 0 h).testBit k) i) 12 ?_ ?_ 12 0 0 (by omega) rfl
    · rintro b rfl
      refine aw_iload_n (pc := 16) d_M_who_16 rfl rfl ?_
      refine aw_bipush (pc := 17) (v := 12) d_M_who_17 (by decide) ?_
      refine awn_ge (pc := 19) (tgt := 51) (12) (12) d_M_who_19 (by decide) rfl rfl (by omega) (by omega) (fun _ => ?_) (fun hh => absurd hh (by omega))
      refine aw_iload_n (pc := 51) d_M_who_51 rfl rfl ?_
      refine aw_iret (pc := 52) d_M_who_52 rfl ?_
      exact ⟨by unfold aWho; rw [if_neg (fun z => z h7), nI_clamp (by omega)], rfl⟩
    · rintro i b hi rfl ih
      have h8 := hT.1 i hi
      have eb : bk T i = T 0 i := if_pos hi
      refine aw_iload_n (pc := 16) d_M_who_16 rfl rfl ?_
      refine aw_bipush (pc := 17) (v := 12) d_M_who_17 (by decide) ?_
      refine awn_ge (pc := 19) (tgt := 51) (i) (12) d_M_who_19 (by decide) rfl rfl (by omega) (by omega) (fun hh => absurd hh (by omega)) (fun _ => ?_)
      refine aw_iload_n (pc := 22) d_M_who_22 rfl rfl ?_
      refine aw_aload_n (pc := 23) d_M_who_23 rfl rfl ?_
      refine aw_get (pc := 24) d_M_who_24 lf_M_7 hg_36 rfl ?_
      refine aw_iload_n (pc := 27) d_M_who_27 rfl rfl ?_
      refine aw_ildN (pc := 28) (j := i) d_M_who_28 hg_37 hE.1.1 rfl (by omega) (by decide) ?_
      refine aw_iload_n (pc := 29) d_M_who_29 rfl rfl ?_
      refine aw_callS1 (pc := 30) (c_M_has _ _ _) ok_M_has d_M_who_30 lm_M_77 rfl rfl ⟨by decide, by decide⟩ (Nat.le_of_ble_eq_true rfl) rfl rfl ⟨by decide, by decide⟩ ?_
      refine aw_bz (pc := 33) (tgt := 42) d_M_who_33 (by decide) (fun h33 => ?_) (fun h33 => ?_)
      · rw [eb] at h33
        refine aw_iconst (pc := 42) (v := 0) d_M_who_42 (by decide) ?_
        refine aw_ior (pc := 43) d_M_who_43 ?_
        refine aw_top (or_0 _) ?_
        refine aw_istore_n (pc := 44) (ls' := [(0, _), (1, _), (2, _), (3, _)]) d_M_who_44 rfl (by decide) rfl ?_
        refine aw_incN (pc := 45) (ls' := [(0, _), (1, _), (2, _), (3, _)]) (i := i) d_M_who_45 rfl rfl (by decide) rfl ?_
        refine aw_goto (pc := 48) (tgt := 16) d_M_who_48 (by decide) ?_
        refine ih _ ?_
        rw [msk, if_neg (fun z => h33 ((hb_nI (by omega) (by omega)).mpr z)), Nat.or_zero]
      · rw [eb] at h33
        refine aw_iconst (pc := 36) (v := 1) d_M_who_36 (by decide) ?_
        refine aw_iload_n (pc := 37) d_M_who_37 rfl rfl ?_
        refine aw_ishl (pc := 38) d_M_who_38 ?_
        refine aw_goto (pc := 39) (tgt := 43) d_M_who_39 (by decide) ?_
        refine aw_ior (pc := 43) d_M_who_43 ?_
        refine aw_top (or_bit (by omega)) ?_
        refine aw_istore_n (pc := 44) (ls' := [(0, _), (1, _), (2, _), (3, _)]) d_M_who_44 rfl (by decide) rfl ?_
        refine aw_incN (pc := 45) (ls' := [(0, _), (1, _), (2, _), (3, _)]) (i := i) d_M_who_45 rfl rfl (by decide) rfl ?_
        refine aw_goto (pc := 48) (tgt := 16) d_M_who_48 (by decide) ?_
        refine ih _ ?_
        rw [msk, if_pos ((hb_nI (by omega) (by omega)).mp h33)]
  · have _ := h7
    refine aw_iconst (pc := 10) (v := (-1)) d_M_who_10 (by decide) ?_
    refine aw_iret (pc := 11) d_M_who_11 rfl ?_
    exact ⟨by unfold aWho; rw [if_pos h7], rfl⟩
end FACTS

