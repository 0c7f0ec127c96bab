/-! how loud: both sides -/
def aLoud (T : town) (a h : Int32) : Int32 := if (0 ≤ a ∧ a ≤ 11) ∧ 0 ≤ h ∧ h ≤ 11 then nI (ld T a.toNatClampNeg h.toNatClampNeg) else -1
section LOUD
variable {A : Nat → List Int32} {I : Nat → Nat → Int32} {J : Nat → List Int64} {U : Nat → Nat → Int64} {T : town}
set_option maxHeartbeats 1000000 in
set_option maxRecDepth 20000 in
theorem c_V_loud (hT : okT T) (hE : enS A I 1 T) (a h : Int32) : AD m_V_loud r_V_loud (HH A I J U) [.ref 0, .int a, .int h] (some (.int (aLoud T a h))) (HH A I J U) := by
  refine am_of (by decide) rfl (by first | decide | exact Nat.le_of_ble_eq_true rfl) ?_
  refine aw_iload_n (pc := 0) d_V_loud_0 rfl rfl ?_
  refine aw_iconst (pc := 1) (v := 0) d_V_loud_1 (by decide) ?_
  refine aw_bipush (pc := 2) (v := 11) d_V_loud_2 (by decide) ?_
  refine aw_callS1 (pc := 4) (c_V_within _ _ _ _) ok_V_within d_V_loud_4 lm_V_50 rfl rfl ⟨by decide, by decide⟩ (Nat.le_of_ble_eq_true rfl) rfl rfl ⟨by decide, by decide⟩ ?_
  refine aw_bz (pc := 7) (tgt := 20) d_V_loud_7 (by decide) (fun h7 => ?_) (fun h7 => ?_)
  · refine aw_iconst (pc := 20) (v := (-1)) d_V_loud_20 (by decide) ?_
    refine aw_iret (pc := 21) d_V_loud_21 rfl ?_
    exact ⟨by unfold aLoud; rw [if_neg (fun z => h7 z.1)], rfl⟩
  · refine aw_iload_n (pc := 10) d_V_loud_10 rfl rfl ?_
    refine aw_iconst (pc := 11) (v := 0) d_V_loud_11 (by decide) ?_
    refine aw_bipush (pc := 12) (v := 11) d_V_loud_12 (by decide) ?_
    refine aw_callS1 (pc := 14) (c_V_within _ _ _ _) ok_V_within d_V_loud_14 lm_V_50 rfl rfl ⟨by decide, by decide⟩ (Nat.le_of_ble_eq_true rfl) rfl rfl ⟨by decide, by decide⟩ ?_
    refine aw_bn (pc := 17) (tgt := 22) d_V_loud_17 (by decide) (fun h17 => ?_) (fun h17 => ?_)
    · obtain ⟨j, hj, rfl⟩ := rng 11 (by omega) h7
      obtain ⟨k, hk, rfl⟩ := rng 11 (by omega) h17
      refine aw_aload_n (pc := 22) d_V_loud_22 rfl rfl ?_
      refine aw_get (pc := 23) d_V_loud_23 lf_V_10 hg_0 rfl ?_
      refine aw_iload_n (pc := 26) d_V_loud_26 rfl rfl ?_
      refine aw_iload_n (pc := 27) d_V_loud_27 rfl rfl ?_
      refine aw_callV1 (pc := 28) (c_S_loudness hT hE.h (a := j) (h := k) (by omega) (by omega)) ok_S_loudness d_V_loud_28 lm_V_146 hg_1 rfl rfl ⟨by decide, by decide⟩ (Nat.le_of_ble_eq_true rfl) rfl rfl ⟨by decide, by decide⟩ ?_
      refine aw_iret (pc := 31) d_V_loud_31 rfl ?_
      exact ⟨by unfold aLoud; rw [if_pos ⟨h7, h17⟩, nI_clamp (by omega), nI_clamp (by omega)], rfl⟩
    · have _ := h17
      refine aw_iconst (pc := 20) (v := (-1)) d_V_loud_20 (by decide) ?_
      refine aw_iret (pc := 21) d_V_loud_21 rfl ?_
      exact ⟨by unfold aLoud; rw [if_neg (fun z => h17 z.2)], rfl⟩
set_option maxHeartbeats 1000000 in
set_option maxRecDepth 20000 in
theorem c_M_loud (hT : okT T) (hE : enM A I T) (a h : Int32) : AD m_M_loud r_M_loud (HH A I J U) [.ref 36, .int a, .int h] (some (.int (aLoud T a h))) (HH A I J U) := by
  refine am_of (by decide) rfl (by first | decide | exact Nat.le_of_ble_eq_true rfl) ?_
  refine aw_iload_n (pc := 0) d_M_loud_0 rfl rfl ?_
  refine aw_callS1 (pc := 1) (c_M_isHouse _ _) ok_M_isHouse d_M_loud_1 lm_M_56 rfl rfl ⟨by decide, by decide⟩ (Nat.le_of_ble_eq_true rfl) rfl rfl ⟨by decide, by decide⟩ ?_
  refine aw_bz (pc := 4) (tgt := 23) d_M_loud_4 (by decide) (fun h4 => ?_) (fun h4 => ?_)
  · refine aw_iconst (pc := 23) (v := (-1)) d_M_loud_23 (by decide) ?_
    refine aw_iret (pc := 24) d_M_loud_24 rfl ?_
    exact ⟨by unfold aLoud; rw [if_neg (fun z => h4 z.1)], rfl⟩
  · refine aw_iload_n (pc := 7) d_M_loud_7 rfl rfl ?_
    refine aw_callS1 (pc := 8) (c_M_isHouse _ _) ok_M_isHouse d_M_loud_8 lm_M_56 rfl rfl ⟨by decide, by decide⟩ (Nat.le_of_ble_eq_true rfl) rfl rfl ⟨by decide, by decide⟩ ?_
    refine aw_bz (pc := 11) (tgt := 23) d_M_loud_11 (by decide) (fun h11 => ?_) (fun h11 => ?_)
    · refine aw_iconst (pc := 23) (v := (-1)) d_M_loud_23 (by decide) ?_
      refine aw_iret (pc := 24) d_M_loud_24 rfl ?_
      exact ⟨by unfold aLoud; rw [if_neg (fun z => h11 z.2)], rfl⟩
    · obtain ⟨j, hj, rfl⟩ := rng 11 (by omega) h4
      obtain ⟨k, hk, rfl⟩ := rng 11 (by omega) h11
      refine aw_aload_n (pc := 14) d_M_loud_14 rfl rfl ?_
      refine aw_iload_n (pc := 15) d_M_loud_15 rfl rfl ?_
      refine aw_iload_n (pc := 16) d_M_loud_16 rfl rfl ?_
      refine aw_callV1 (pc := 17) (c_M_loudAt hT hE.g (a := j) (h := k) (by omega) (by omega)) ok_M_loudAt d_M_loud_17 lm_M_73 hg_36 rfl rfl ⟨by decide, by decide⟩ (Nat.le_of_ble_eq_true rfl) rfl rfl ⟨by decide, by decide⟩ ?_
      refine aw_goto (pc := 20) (tgt := 24) d_M_loud_20 (by decide) ?_
      refine aw_iret (pc := 24) d_M_loud_24 rfl ?_
      exact ⟨by unfold aLoud; rw [if_pos ⟨h4, h11⟩, nI_clamp (by omega), nI_clamp (by omega)], rfl⟩
end LOUD

