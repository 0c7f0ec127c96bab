/-! say, wipe, fault: both sides -/
theorem u9_r (I : Nat → Nat → Int32) (v : Int32) : ∀ x y, ¬ (x = 36 ∧ y = 9) → u2 I 36 9 v x y = I x y := fun x y hx => by
  show (if x = 36 then (if y = 9 then _ else _) else _) = _
  by_cases ex : x = 36
  · rw [if_pos ex, if_neg (fun ey => hx ⟨ex, ey⟩)]
  · rw [if_neg ex]
section SAY
variable {A : Nat → List Int32} {I : Nat → Nat → Int32} {J : Nat → List Int64} {U : Nat → Nat → Int64} {T : town} {np : Nat} {PD : Nat → Nat} {km : Nat} {TI : Nat → town}
set_option maxHeartbeats 1000000 in
set_option maxRecDepth 20000 in
theorem c_P_write_0 (hp : np = 60) (h29 : I 29 1 = nI np) (v : Int32) : AD m_P_write r_P_write (HH A I J U) [.ref 29, .int v] (some (.int (b2 False))) (HH A I J U) := by
  refine am_of (by decide) rfl (by first | decide | exact Nat.le_of_ble_eq_true rfl) ?_
  refine aw_aload_n (pc := 0) d_P_write_0 rfl rfl ?_
  refine aw_geti (pc := 1) (y := (nI np)) d_P_write_1 lf_P_15 hg_29 rfl h29 ?_
  refine aw_bipush (pc := 4) (v := 60) d_P_write_4 (by decide) ?_
  refine awn_lt (pc := 6) (tgt := 11) (np) (60) d_P_write_6 (by decide) rfl rfl (by omega) (by omega) (fun hh => absurd hh (by omega)) (fun _ => ?_)
  refine aw_iconst (pc := 9) (v := 0) d_P_write_9 (by decide) ?_
  refine aw_zret (pc := 10) d_P_write_10 rfl ft_0 ?_
  exact ⟨rfl, rfl⟩
set_option maxHeartbeats 1000000 in
set_option maxRecDepth 20000 in
theorem c_P_write_1 (hp : np < 60) (h29 : I 29 1 = nI np) (h30 : A 30 = lst 60 PD) {c : Nat} : AD m_P_write r_P_write (HH A I J U) [.ref 29, .int (nI c)] (some (.int (b2 True))) (HH (u1 A 30 (lst 60 (up PD np c))) (u2 I 29 1 (nI (np + 1))) J U) := by
  refine am_of (by decide) rfl (by first | decide | exact Nat.le_of_ble_eq_true rfl) ?_
  refine aw_aload_n (pc := 0) d_P_write_0 rfl rfl ?_
  refine aw_geti (pc := 1) (y := (nI np)) d_P_write_1 lf_P_15 hg_29 rfl h29 ?_
  refine aw_bipush (pc := 4) (v := 60) d_P_write_4 (by decide) ?_
  refine awn_lt (pc := 6) (tgt := 11) (np) (60) d_P_write_6 (by decide) rfl rfl (by omega) (by omega) (fun _ => ?_) (fun hh => absurd hh (by omega))
  refine aw_aload_n (pc := 11) d_P_write_11 rfl rfl ?_
  refine aw_get (pc := 12) d_P_write_12 lf_P_9 hg_29 rfl ?_
  refine aw_aload_n (pc := 15) d_P_write_15 rfl rfl ?_
  refine aw_geti (pc := 16) (y := (nI np)) d_P_write_16 lf_P_15 hg_29 rfl h29 ?_
  refine aw_iload_n (pc := 19) d_P_write_19 rfl rfl ?_
  refine aw_istN (pc := 20) (j := np) (v := c) d_P_write_20 hg_30 h30 rfl rfl hp (by decide) (hs_30 _) ?_
  refine aw_aload_n (pc := 21) d_P_write_21 rfl rfl ?_
  refine aw_dup (pc := 22) d_P_write_22 rfl ?_
  refine aw_geti (pc := 23) (y := (nI np)) d_P_write_23 lf_P_15 hg_29 rfl h29 ?_
  refine aw_iconst (pc := 26) (v := 1) d_P_write_26 (by decide) ?_
  refine aw_iadd (pc := 27) d_P_write_27 ?_
  refine aw_top (nI_1 np) ?_
  refine aw_put (pc := 28) d_P_write_28 lp_P_15 hg_29 (ft_int _) (Nat.le_of_ble_eq_true rfl) (hp_29_1 _) ?_
  refine aw_iconst (pc := 31) (v := 1) d_P_write_31 (by decide) ?_
  refine aw_zret (pc := 32) d_P_write_32 rfl ft_1 ?_
  exact ⟨rfl, rfl⟩
theorem sy_y {s : Int32} (h : 33 ≤ s ∧ s ≤ 126) (hp : ¬ np = 60) : aSay np s = nI (np + 1) ∧ syN np s = np + 1 ∧ syP np PD s = up PD np s.toNatClampNeg := by
  unfold aSay syN syP
  rw [if_neg (fun z => z h), if_neg hp, if_pos ⟨h, hp⟩, if_pos ⟨h, hp⟩]
  exact ⟨rfl, rfl, rfl⟩
theorem sy_f {s : Int32} (h : 33 ≤ s ∧ s ≤ 126) (hp : np = 60) : aSay np s = -4 ∧ syN np s = np ∧ syP np PD s = PD := by
  unfold aSay syN syP
  rw [if_neg (fun z => z h), if_pos hp, if_neg (fun z => z.2 hp), if_neg (fun z => z.2 hp)]
  exact ⟨rfl, rfl, rfl⟩
theorem sy_o {s : Int32} (h : ¬ (33 ≤ s ∧ s ≤ 126)) : aSay np s = -2 ∧ syN np s = np ∧ syP np PD s = PD := by
  unfold aSay syN syP
  rw [if_pos h, if_neg (fun z => h z.1), if_neg (fun z => h z.1)]
  exact ⟨rfl, rfl, rfl⟩
theorem sy_P {c : Nat} (hc : c ≤ 126) (hP : ∀ j, j < 60 → PD j < 128) : ∀ j, j < 60 → up PD np c j < 128 := fun j hj => up_lt (by omega) (hP j hj)
set_option maxHeartbeats 1000000 in
set_option maxRecDepth 20000 in
theorem v_say (h : ci T np PD km TI A I J) (s : Int32) : AM m_V_say r_V_say (HH A I J U) [.ref 0, .int s] (pV T (syN np s) (syP np PD s) km TI (.int (aSay np s)) A I J) := by
  obtain ⟨-, -, -, ⟨hp, hP, h30, h29⟩, -⟩ := id h
  refine am_of (by decide) rfl (by first | decide | exact Nat.le_of_ble_eq_true rfl) ?_
  refine aw_iload_n (pc := 0) d_V_say_0 rfl rfl ?_
  refine aw_bipush (pc := 1) (v := 33) d_V_say_1 (by decide) ?_
  refine aw_bipush (pc := 3) (v := 126) d_V_say_3 (by decide) ?_
  refine aw_callS1 (pc := 5) (c_V_within _ _ _ _) ok_V_within d_V_say_5 lm_V_50 rfl rfl ⟨by decide, by decide⟩ (Nat.le_of_ble_eq_true rfl) rfl rfl ⟨by decide, by decide⟩ ?_
  refine aw_bn (pc := 8) (tgt := 14) d_V_say_8 (by decide) (fun h8 => ?_) (fun h8 => ?_)
  · by_cases e : np = 60
    · obtain ⟨e1, e2, e3⟩ := sy_f (PD := PD) h8 e
      refine aw_aload_n (pc := 14) d_V_say_14 rfl rfl ?_
      refine aw_get (pc := 15) d_V_say_15 lf_V_28 hg_0 rfl ?_
      refine aw_iload_n (pc := 18) d_V_say_18 rfl rfl ?_
      refine aw_callV1 (pc := 19) (c_P_write_0 e h29 _) ok_P_write d_V_say_19 lm_V_105 hg_29 rfl rfl ⟨by decide, by decide⟩ (Nat.le_of_ble_eq_true rfl) rfl rfl ⟨by decide, by decide⟩ ?_
      refine aw_bz (pc := 22) (tgt := 35) d_V_say_22 (by decide) (fun _ => ?_) (fun hh => absurd hh (fun z => z))
      refine aw_bipush (pc := 35) (v := (-4)) d_V_say_35 (by decide) ?_
      refine aw_iret (pc := 37) d_V_say_37 rfl ?_
      rw [e1, e2, e3]
      exact pV_r h _
    · obtain ⟨e1, e2, e3⟩ := sy_y (PD := PD) h8 e
      have hs := clp33 h8
      generalize hn : s.toNatClampNeg = c at hs e3
      obtain ⟨hc, rfl⟩ := hs
      refine aw_aload_n (pc := 14) d_V_say_14 rfl rfl ?_
      refine aw_get (pc := 15) d_V_say_15 lf_V_28 hg_0 rfl ?_
      refine aw_iload_n (pc := 18) d_V_say_18 rfl rfl ?_
      refine aw_callV1 (pc := 19) (c_P_write_1 (by omega) h29 h30) ok_P_write d_V_say_19 lm_V_105 hg_29 rfl rfl ⟨by decide, by decide⟩ (Nat.le_of_ble_eq_true rfl) rfl rfl ⟨by decide, by decide⟩ ?_
      refine aw_bz (pc := 22) (tgt := 35) d_V_say_22 (by decide) (fun hh => absurd trivial hh) (fun _ => ?_)
      refine aw_aload_n (pc := 25) d_V_say_25 rfl rfl ?_
      refine aw_get (pc := 26) d_V_say_26 lf_V_28 hg_0 rfl ?_
      refine aw_get (pc := 29) d_V_say_29 lf_V_109 hg_29 rfl ?_
      refine aw_goto (pc := 32) (tgt := 37) d_V_say_32 (by decide) ?_
      refine aw_iret (pc := 37) d_V_say_37 rfl ?_
      rw [e1, e2, e3]
      exact ⟨rfl, _, _, _, _, rfl, ci_P h (frA_u _ _ _ (by decide)) (frI_u _ _ _ _ (by decide)) (by omega) (sy_P hc hP) rfl rfl, hi_of (frA_u _ _ _ (List.mem_singleton.mpr rfl)) (frI_u _ _ _ _ (List.mem_singleton.mpr rfl)) (by decide) (by decide)⟩
  · obtain ⟨e1, e2, e3⟩ := sy_o (PD := PD) (np := np) h8
    refine aw_bipush (pc := 11) (v := (-2)) d_V_say_11 (by decide) ?_
    refine aw_iret (pc := 13) d_V_say_13 rfl ?_
    rw [e1, e2, e3]
    exact pV_r h _
set_option maxHeartbeats 1000000 in
set_option maxRecDepth 20000 in
theorem n_say (h : mi T np PD km TI A I J) (s : Int32) : AM m_M_say r_M_say (HH A I J U) [.ref 36, .int s] (pN T (syN np s) (syP np PD s) km TI (.int (aSay np s)) A I J) := by
  obtain ⟨-, -, -, ⟨hp, hP, h42, h36⟩, -⟩ := id h
  refine am_of (by decide) rfl (by first | decide | exact Nat.le_of_ble_eq_true rfl) ?_
  refine aw_iload_n (pc := 0) d_M_say_0 rfl rfl ?_
  refine aw_bipush (pc := 1) (v := 33) d_M_say_1 (by decide) ?_
  refine aw_bipush (pc := 3) (v := 126) d_M_say_3 (by decide) ?_
  refine aw_callS1 (pc := 5) (c_M_in _ _ _ _) ok_M_in d_M_say_5 lm_M_52 rfl rfl ⟨by decide, by decide⟩ (Nat.le_of_ble_eq_true rfl) rfl rfl ⟨by decide, by decide⟩ ?_
  refine aw_bn (pc := 8) (tgt := 14) d_M_say_8 (by decide) (fun h8 => ?_) (fun h8 => ?_)
  · by_cases e : np = 60
    · obtain ⟨e1, e2, e3⟩ := sy_f (PD := PD) h8 e
      refine aw_aload_n (pc := 14) d_M_say_14 rfl rfl ?_
      refine aw_geti (pc := 15) (y := (nI np)) d_M_say_15 lf_M_63 hg_36 rfl h36 ?_
      refine aw_bipush (pc := 18) (v := 60) d_M_say_18 (by decide) ?_
      refine awn_ne (pc := 20) (tgt := 26) (np) (60) d_M_say_20 (by decide) rfl rfl (by omega) (by omega) (fun hh => absurd hh (by omega)) (fun _ => ?_)
      refine aw_bipush (pc := 23) (v := (-4)) d_M_say_23 (by decide) ?_
      refine aw_iret (pc := 25) d_M_say_25 rfl ?_
      rw [e1, e2, e3]
      exact pN_r h _
    · obtain ⟨e1, e2, e3⟩ := sy_y (PD := PD) h8 e
      have hs := clp33 h8
      generalize hn : s.toNatClampNeg = c at hs e3
      obtain ⟨hc, rfl⟩ := hs
      refine aw_aload_n (pc := 14) d_M_say_14 rfl rfl ?_
      refine aw_geti (pc := 15) (y := (nI np)) d_M_say_15 lf_M_63 hg_36 rfl h36 ?_
      refine aw_bipush (pc := 18) (v := 60) d_M_say_18 (by decide) ?_
      refine awn_ne (pc := 20) (tgt := 26) (np) (60) d_M_say_20 (by decide) rfl rfl (by omega) (by omega) (fun _ => ?_) (fun hh => absurd hh (by omega))
      refine aw_aload_n (pc := 26) d_M_say_26 rfl rfl ?_
      refine aw_get (pc := 27) d_M_say_27 lf_M_29 hg_36 rfl ?_
      refine aw_aload_n (pc := 30) d_M_say_30 rfl rfl ?_
      refine aw_geti (pc := 31) (y := (nI np)) d_M_say_31 lf_M_63 hg_36 rfl h36 ?_
      refine aw_iload_n (pc := 34) d_M_say_34 rfl rfl ?_
      refine aw_istN (pc := 35) (j := np) (v := c) d_M_say_35 hg_42 h42 rfl rfl (by omega) (by decide) (hs_42 _) ?_
      refine aw_aload_n (pc := 36) d_M_say_36 rfl rfl ?_
      refine aw_dup (pc := 37) d_M_say_37 rfl ?_
      refine aw_geti (pc := 38) (y := (nI np)) d_M_say_38 lf_M_63 hg_36 rfl h36 ?_
      refine aw_iconst (pc := 41) (v := 1) d_M_say_41 (by decide) ?_
      refine aw_iadd (pc := 42) d_M_say_42 ?_
      refine aw_top (nI_1 np) ?_
      refine aw_put (pc := 43) d_M_say_43 lp_M_63 hg_36 (ft_int _) (Nat.le_of_ble_eq_true rfl) (hp_36_9 _) ?_
      refine aw_aload_n (pc := 46) d_M_say_46 rfl rfl ?_
      refine aw_get (pc := 47) d_M_say_47 lf_M_63 hg_36 rfl ?_
      refine aw_iret (pc := 50) d_M_say_50 rfl ?_
      rw [e1, e2, e3]
      exact ⟨rfl, _, _, _, _, rfl, mi_P h (frA_u _ _ _ (by decide)) (u9_r I _) (by omega) (sy_P hc hP) rfl rfl, lo_of (frA_u _ _ _ (List.mem_singleton.mpr rfl)) (frI_u _ _ _ _ (List.mem_singleton.mpr rfl)) (by decide) (by decide)⟩
  · obtain ⟨e1, e2, e3⟩ := sy_o (PD := PD) (np := np) h8
    refine aw_bipush (pc := 11) (v := (-2)) d_M_say_11 (by decide) ?_
    refine aw_iret (pc := 13) d_M_say_13 rfl ?_
    rw [e1, e2, e3]
    exact pN_r h _
set_option maxHeartbeats 1000000 in
set_option maxRecDepth 20000 in
theorem v_wipe (h : ci T np PD km TI A I J) : AM m_V_wipe r_V_wipe (HH A I J U) [.ref 0] (pV T 0 PD km TI (.int (nI np)) A I J) := by
  obtain ⟨-, -, -, ⟨hp, hP, h30, h29⟩, -⟩ := id h
  refine am_of (by decide) rfl (by first | decide | exact Nat.le_of_ble_eq_true rfl) ?_
  refine aw_aload_n (pc := 0) d_V_wipe_0 rfl rfl ?_
  refine aw_get (pc := 1) d_V_wipe_1 lf_V_28 hg_0 rfl ?_
  refine aw_callV1 (pc := 4) (c_P_clean h29) ok_P_clean d_V_wipe_4 lm_V_112 hg_29 rfl rfl ⟨by decide, by decide⟩ (Nat.le_of_ble_eq_true rfl) rfl rfl ⟨by decide, by decide⟩ ?_
  refine aw_iret (pc := 7) d_V_wipe_7 rfl ?_
  exact ⟨rfl, _, _, _, _, rfl, ci_P h (frA_r _ _) (frI_u _ _ _ _ (by decide)) (by omega) hP h30 rfl, hi_of (frA_r _ []) (frI_u _ _ _ _ (List.mem_singleton.mpr rfl)) (by decide) (by decide)⟩
set_option maxHeartbeats 1000000 in
set_option maxRecDepth 20000 in
theorem n_wipe (h : mi T np PD km TI A I J) : AM m_M_wipe r_M_wipe (HH A I J U) [.ref 36] (pN T 0 PD km TI (.int (nI np)) A I J) := by
  obtain ⟨-, -, -, ⟨hp, hP, h42, h36⟩, -⟩ := id h
  refine am_of (by decide) rfl (by first | decide | exact Nat.le_of_ble_eq_true rfl) ?_
  refine aw_aload_n (pc := 0) d_M_wipe_0 rfl rfl ?_
  refine aw_geti (pc := 1) (y := (nI np)) d_M_wipe_1 lf_M_63 hg_36 rfl h36 ?_
  refine aw_istore_n (pc := 4) (ls' := [(0, _), (1, _)]) d_M_wipe_4 rfl (by decide) rfl ?_
  refine aw_aload_n (pc := 5) d_M_wipe_5 rfl rfl ?_
  refine aw_iconst (pc := 6) (v := 0) d_M_wipe_6 (by decide) ?_
  refine aw_put (pc := 7) d_M_wipe_7 lp_M_63 hg_36 (ft_int _) (Nat.le_of_ble_eq_true rfl) (hp_36_9 _) ?_
  refine aw_iload_n (pc := 10) d_M_wipe_10 rfl rfl ?_
  refine aw_iret (pc := 11) d_M_wipe_11 rfl ?_
  exact ⟨rfl, _, _, _, _, rfl, mi_P h (frA_r _ _) (u9_r I _) (by omega) hP h42 rfl, lo_of (frA_r _ []) (frI_u _ _ _ _ (List.mem_singleton.mpr rfl)) (by decide) (by decide)⟩
set_option maxHeartbeats 1000000 in
set_option maxRecDepth 20000 in
theorem v_fault (h : ci T np PD km TI A I J) : AM m_V_fault r_V_fault (HH A I J U) [.ref 0] (pV T np PD km TI (.int (oI (flt PD np 0 false))) A I J) := by
  obtain ⟨-, -, -, ⟨hp, hP, h30, h29⟩, -⟩ := id h
  refine am_of (by decide) rfl (by first | decide | exact Nat.le_of_ble_eq_true rfl) ?_
  refine aw_aload_n (pc := 0) d_V_fault_0 rfl rfl ?_
  refine aw_get (pc := 1) d_V_fault_1 lf_V_28 hg_0 rfl ?_
  refine aw_callV1 (pc := 4) (c_P_faultPlace hp hP h30 h29) ok_P_faultPlace d_V_fault_4 lm_V_116 hg_29 rfl rfl ⟨by decide, by decide⟩ (Nat.le_of_ble_eq_true rfl) rfl rfl ⟨by decide, by decide⟩ ?_
  refine aw_iret (pc := 7) d_V_fault_7 rfl ?_
  exact pV_r h _
set_option maxHeartbeats 1000000 in
set_option maxRecDepth 20000 in
theorem n_fault (h : mi T np PD km TI A I J) : AM m_M_fault r_M_fault (HH A I J U) [.ref 36] (pN T np PD km TI (.int (oI (flt PD np 0 false))) A I J) := by
  obtain ⟨-, -, -, ⟨hp, hP, h42, h36⟩, -⟩ := id h
  refine am_of (by decide) rfl (by first | decide | exact Nat.le_of_ble_eq_true rfl) ?_
  refine aw_aload_n (pc := 0) d_M_fault_0 rfl rfl ?_
  refine aw_callV1 (pc := 1) (c_M_faultOf hp hP h42 h36) ok_M_faultOf d_M_fault_1 lm_M_69 hg_36 rfl rfl ⟨by decide, by decide⟩ (Nat.le_of_ble_eq_true rfl) rfl rfl ⟨by decide, by decide⟩ ?_
  refine aw_iret (pc := 4) d_M_fault_4 rfl ?_
  exact pN_r h _
end SAY

