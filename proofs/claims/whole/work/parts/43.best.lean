/-! best, thirds, round, at, ask: what is left of them -/
section BEST
variable {A : Nat → List Int32} {I : Nat → Nat → Int32} {J : Nat → List Int64} {U : Nat → Nat → Int64} {T : town} {np : Nat} {PD : Nat → Nat} {km : Nat} {TI : Nat → town}
theorem pV_L (h : ci T np PD km TI A I J) (v : Value) : pV T np PD km TI v A I J (some v) (HH (u1 (u1 A 32 (lst 12 (hs T))) 33 (lst 12 (pf T))) I J U) :=
  ⟨rfl, _, _, _, _, rfl, ci_L h (frA_t (frA_u _ _ _ (by decide)) (frA_u _ _ _ (by decide))) (f := hs T) (g := pf T) rfl rfl, hi_of (ks := [32, 33]) (frA_t (frA_u _ _ _ (by decide)) (frA_u _ _ _ (by decide))) (frI_r _ []) (by decide) (by decide)⟩
theorem enS_L (hE : enS A I 1 T) : enS (u1 (u1 A 32 (lst 12 (hs T))) 33 (lst 12 (pf T))) I 1 T := enS_fr (ks := [32, 33]) hE (frA_t (frA_u _ _ _ (by decide)) (frA_u _ _ _ (by decide))) (frI_r _ []) (by decide) (by decide)
set_option maxHeartbeats 1000000 in
set_option maxRecDepth 20000 in
theorem v_at (h : ci T np PD km TI A I J) : AM m_V_at r_V_at (HH A I J U) [.ref 0] (pV T np PD km TI (.int (nI (atS T))) A I J) := by
  obtain ⟨hT, hE, -, -, ⟨⟨f, h32⟩, ⟨g, h33⟩, -⟩, -⟩ := id h
  refine am_of (by decide) rfl (by first | decide | exact Nat.le_of_ble_eq_true rfl) ?_
  refine aw_aload_n (pc := 0) d_V_at_0 rfl rfl ?_
  refine aw_get (pc := 1) d_V_at_1 lf_V_35 hg_0 rfl ?_
  refine aw_aload_n (pc := 4) d_V_at_4 rfl rfl ?_
  refine aw_get (pc := 5) d_V_at_5 lf_V_10 hg_0 rfl ?_
  refine aw_callV0 (pc := 8) (c_L_listen hT hE h32 h33) ok_L_listen d_V_at_8 lm_V_153 hg_31 rfl rfl ⟨by decide, by decide⟩ (Nat.le_of_ble_eq_true rfl) rfl rfl ⟨by decide, by decide⟩ ?_
  refine aw_aload_n (pc := 11) d_V_at_11 rfl rfl ?_
  refine aw_get (pc := 12) d_V_at_12 lf_V_35 hg_0 rfl ?_
  refine aw_aload_n (pc := 15) d_V_at_15 rfl rfl ?_
  refine aw_get (pc := 16) d_V_at_16 lf_V_10 hg_0 rfl ?_
  refine aw_callV1 (pc := 19) (c_L_placesThatFit hT (enS_L hE) rfl) ok_L_placesThatFit d_V_at_19 lm_V_176 hg_31 rfl rfl ⟨by decide, by decide⟩ (Nat.le_of_ble_eq_true rfl) rfl rfl ⟨by decide, by decide⟩ ?_
  refine aw_iret (pc := 22) d_V_at_22 rfl ?_
  exact pV_L h _
set_option maxHeartbeats 1000000 in
set_option maxRecDepth 20000 in
theorem n_at (h : mi T np PD km TI A I J) : AM m_M_at r_M_at (HH A I J U) [.ref 36] (pN T np PD km TI (.int (nI (atS T))) A I J) := by
  obtain ⟨hT, hE, ⟨-, -, ⟨f, h44⟩, -⟩, -⟩ := id h
  refine am_of (by decide) rfl (by first | decide | exact Nat.le_of_ble_eq_true rfl) ?_
  refine aw_aload_n (pc := 0) d_M_at_0 rfl rfl ?_
  refine aw_callV1 (pc := 1) (c_M_atSet hT hE h44) ok_M_atSet d_M_at_1 lm_M_129 hg_36 rfl rfl ⟨by decide, by decide⟩ (Nat.le_of_ble_eq_true rfl) rfl rfl ⟨by decide, by decide⟩ ?_
  refine aw_iret (pc := 4) d_M_at_4 rfl ?_
  exact ⟨rfl, _, _, _, _, rfl, mi_S h, lo_of (frA_u _ _ _ (List.mem_singleton.mpr rfl)) (frI_r _ []) (by decide) (by decide)⟩
set_option maxHeartbeats 1000000 in
set_option maxRecDepth 20000 in
theorem v_ask (h : ci T np PD km TI A I J) (w : Int32) : AM m_V_ask r_V_ask (HH A I J U) [.ref 0, .int w] (pV T np PD km TI (.int (aAsk T w)) A I J) := by
  obtain ⟨hT, hE, -, -, ⟨⟨f, h32⟩, ⟨g, h33⟩, -⟩, -⟩ := id h
  have ha := atS_lt T
  refine am_of (by decide) rfl (by first | decide | exact Nat.le_of_ble_eq_true rfl) ?_
  refine aw_iload_n (pc := 0) d_V_ask_0 rfl rfl ?_
  refine aw_iconst (pc := 1) (v := 0) d_V_ask_1 (by decide) ?_
  refine aw_iconst (pc := 2) (v := 1) d_V_ask_2 (by decide) ?_
  refine aw_callS1 (pc := 3) (c_V_within _ _ _ _) ok_V_within d_V_ask_3 lm_V_50 rfl rfl ⟨by decide, by decide⟩ (Nat.le_of_ble_eq_true rfl) rfl rfl ⟨by decide, by decide⟩ ?_
  refine aw_bn (pc := 6) (tgt := 12) d_V_ask_6 (by decide) (fun h6 => ?_) (fun h6 => ?_)
  · refine aw_aload_n (pc := 12) d_V_ask_12 rfl rfl ?_
    refine aw_get (pc := 13) d_V_ask_13 lf_V_35 hg_0 rfl ?_
    refine aw_aload_n (pc := 16) d_V_ask_16 rfl rfl ?_
    refine aw_get (pc := 17) d_V_ask_17 lf_V_10 hg_0 rfl ?_
    refine aw_callV0 (pc := 20) (c_L_listen hT hE h32 h33) ok_L_listen d_V_ask_20 lm_V_153 hg_31 rfl rfl ⟨by decide, by decide⟩ (Nat.le_of_ble_eq_true rfl) rfl rfl ⟨by decide, by decide⟩ ?_
    refine aw_aload_n (pc := 23) d_V_ask_23 rfl rfl ?_
    refine aw_get (pc := 24) d_V_ask_24 lf_V_35 hg_0 rfl ?_
    refine aw_aload_n (pc := 27) d_V_ask_27 rfl rfl ?_
    refine aw_get (pc := 28) d_V_ask_28 lf_V_10 hg_0 rfl ?_
    refine aw_callV1 (pc := 31) (c_L_placesThatFit hT (enS_L hE) rfl) ok_L_placesThatFit d_V_ask_31 lm_V_176 hg_31 rfl rfl ⟨by decide, by decide⟩ (Nat.le_of_ble_eq_true rfl) rfl rfl ⟨by decide, by decide⟩ ?_
    refine aw_istore_n (pc := 34) (ls' := [(0, _), (1, _), (2, _)]) d_V_ask_34 rfl (by decide) rfl ?_
    refine aw_iload_n (pc := 35) d_V_ask_35 rfl rfl ?_
    refine aw_if_ne (pc := 36) (tgt := 44) d_V_ask_36 (by decide) (fun h36 => ?_) (fun h36 => ?_)
    · have h36 : ¬ atS T = 0 := fun z => h36 (by rw [z]; rfl)
      have ea : aAsk T w = if w = 0 then wO (ak T 12) else fO (ak T 12) := by unfold aAsk; rw [if_neg (fun z => z h6), if_neg h36]
      rw [ea]
      refine aw_aload_n (pc := 44) d_V_ask_44 rfl rfl ?_
      refine aw_get (pc := 45) d_V_ask_45 lf_V_35 hg_0 rfl ?_
      refine aw_iload_n (pc := 48) d_V_ask_48 rfl rfl ?_
      refine aw_iload_n (pc := 49) d_V_ask_49 rfl rfl ?_
      refine aw_if_ne (pc := 50) (tgt := 57) d_V_ask_50 (by decide) (fun h50 => ?_) (fun h50 => ?_)
      · refine aw_iconst (pc := 57) (v := 0) d_V_ask_57 (by decide) ?_
        refine aw_top (y := b2 (w = 0)) (b2_0 h50).symm ?_
        refine aw_callV1 (pc := 58) (c_L_bestToAsk rfl) ok_L_bestToAsk d_V_ask_58 lm_V_180 hg_31 rfl rfl ⟨by decide, by decide⟩ (Nat.le_of_ble_eq_true rfl) rfl rfl ⟨by decide, by decide⟩ ?_
        refine aw_iret (pc := 61) d_V_ask_61 rfl ?_
        exact pV_L h _
      · refine aw_iconst (pc := 53) (v := 1) d_V_ask_53 (by decide) ?_
        refine aw_goto (pc := 54) (tgt := 58) d_V_ask_54 (by decide) ?_
        refine aw_top (y := b2 (w = 0)) (b2_1 h50).symm ?_
        refine aw_callV1 (pc := 58) (c_L_bestToAsk rfl) ok_L_bestToAsk d_V_ask_58 lm_V_180 hg_31 rfl rfl ⟨by decide, by decide⟩ (Nat.le_of_ble_eq_true rfl) rfl rfl ⟨by decide, by decide⟩ ?_
        refine aw_iret (pc := 61) d_V_ask_61 rfl ?_
        exact pV_L h _
    · have h36 : atS T = 0 := (nI_eq (b := 0) (by omega) (by omega)).mp h36
      have ea : aAsk T w = -6 := by unfold aAsk; rw [if_neg (fun z => z h6), if_pos h36]
      rw [ea]
      refine aw_bipush (pc := 39) (v := (-6)) d_V_ask_39 (by decide) ?_
      refine aw_goto (pc := 41) (tgt := 61) d_V_ask_41 (by decide) ?_
      refine aw_iret (pc := 61) d_V_ask_61 rfl ?_
      exact pV_L h _
  · have ea : aAsk T w = -2 := by unfold aAsk; rw [if_pos h6]
    rw [ea]
    refine aw_bipush (pc := 9) (v := (-2)) d_V_ask_9 (by decide) ?_
    refine aw_iret (pc := 11) d_V_ask_11 rfl ?_
    exact pV_r h _
set_option maxHeartbeats 1000000 in
set_option maxRecDepth 20000 in
theorem v_best (h : ci T np PD km TI A I J) (l w : Int32) : AM m_V_best r_V_best (HH A I J U) [.ref 0, .int l, .int w] (pV T np PD km TI (.int (aBest T l w)) A I J) := by
  obtain ⟨hT, hE, -, -, ⟨⟨f, h32⟩, ⟨g, h33⟩, -⟩, -⟩ := id h
  refine am_of (by decide) rfl (by first | decide | exact Nat.le_of_ble_eq_true rfl) ?_
  refine aw_iload_n (pc := 0) d_V_best_0 rfl rfl ?_
  refine aw_iconst (pc := 1) (v := 0) d_V_best_1 (by decide) ?_
  refine aw_iconst (pc := 2) (v := 5) d_V_best_2 (by decide) ?_
  refine aw_callS1 (pc := 3) (c_V_within _ _ _ _) ok_V_within d_V_best_3 lm_V_50 rfl rfl ⟨by decide, by decide⟩ (Nat.le_of_ble_eq_true rfl) rfl rfl ⟨by decide, by decide⟩ ?_
  refine aw_bn (pc := 6) (tgt := 11) d_V_best_6 (by decide) (fun h6 => ?_) (fun h6 => ?_)
  · refine aw_iload_n (pc := 11) d_V_best_11 rfl rfl ?_
    refine aw_iconst (pc := 12) (v := 0) d_V_best_12 (by decide) ?_
    refine aw_iconst (pc := 13) (v := 1) d_V_best_13 (by decide) ?_
    refine aw_callS1 (pc := 14) (c_V_within _ _ _ _) ok_V_within d_V_best_14 lm_V_50 rfl rfl ⟨by decide, by decide⟩ (Nat.le_of_ble_eq_true rfl) rfl rfl ⟨by decide, by decide⟩ ?_
    refine aw_bn (pc := 17) (tgt := 23) d_V_best_17 (by decide) (fun h17 => ?_) (fun h17 => ?_)
    · obtain ⟨j, hj, rfl⟩ := rng 5 (by omega) h6
      have ea : aBest T (nI j) w = if w = 0 then fO (bs T (T 2 j) 12) else wO (bs T (T 2 j) 12) := by unfold aBest; rw [if_neg (fun z => z h6), if_neg (fun z => z h17), nI_clamp (by omega)]
      rw [ea]
      have hfw := (hT.2.2.1 j (by omega)).1
      refine aw_aload_n (pc := 23) d_V_best_23 rfl rfl ?_
      refine aw_get (pc := 24) d_V_best_24 lf_V_35 hg_0 rfl ?_
      refine aw_aload_n (pc := 27) d_V_best_27 rfl rfl ?_
      refine aw_get (pc := 28) d_V_best_28 lf_V_10 hg_0 rfl ?_
      refine aw_callV0 (pc := 31) (c_L_listen hT hE h32 h33) ok_L_listen d_V_best_31 lm_V_153 hg_31 rfl rfl ⟨by decide, by decide⟩ (Nat.le_of_ble_eq_true rfl) rfl rfl ⟨by decide, by decide⟩ ?_
      refine aw_aload_n (pc := 34) d_V_best_34 rfl rfl ?_
      refine aw_get (pc := 35) d_V_best_35 lf_V_35 hg_0 rfl ?_
      refine aw_aload_n (pc := 38) d_V_best_38 rfl rfl ?_
      refine aw_get (pc := 39) d_V_best_39 lf_V_10 hg_0 rfl ?_
      refine aw_get (pc := 42) d_V_best_42 lf_V_90 hg_1 rfl ?_
      refine aw_iload_n (pc := 45) d_V_best_45 rfl rfl ?_
      refine aw_ildN (pc := 46) (j := j) d_V_best_46 hg_4 hE.1.2.2.1 rfl (by omega) (by decide) ?_
      refine aw_iload_n (pc := 47) d_V_best_47 rfl rfl ?_
      refine aw_if_ne (pc := 48) (tgt := 55) d_V_best_48 (by decide) (fun h48 => ?_) (fun h48 => ?_)
      · refine aw_iconst (pc := 55) (v := 0) d_V_best_55 (by decide) ?_
        refine aw_top (y := b2 (w = 0)) (b2_0 h48).symm ?_
        refine aw_callV1 (pc := 56) (c_L_bestFor rfl hfw) ok_L_bestFor d_V_best_56 lm_V_156 hg_31 rfl rfl ⟨by decide, by decide⟩ (Nat.le_of_ble_eq_true rfl) rfl rfl ⟨by decide, by decide⟩ ?_
        refine aw_iret (pc := 59) d_V_best_59 rfl ?_
        exact pV_L h _
      · refine aw_iconst (pc := 51) (v := 1) d_V_best_51 (by decide) ?_
        refine aw_goto (pc := 52) (tgt := 56) d_V_best_52 (by decide) ?_
        refine aw_top (y := b2 (w = 0)) (b2_1 h48).symm ?_
        refine aw_callV1 (pc := 56) (c_L_bestFor rfl hfw) ok_L_bestFor d_V_best_56 lm_V_156 hg_31 rfl rfl ⟨by decide, by decide⟩ (Nat.le_of_ble_eq_true rfl) rfl rfl ⟨by decide, by decide⟩ ?_
        refine aw_iret (pc := 59) d_V_best_59 rfl ?_
        exact pV_L h _
    · have ea : aBest T l w = -2 := by unfold aBest; rw [if_neg (fun z => z h6), if_pos h17]
      rw [ea]
      refine aw_bipush (pc := 20) (v := (-2)) d_V_best_20 (by decide) ?_
      refine aw_iret (pc := 22) d_V_best_22 rfl ?_
      exact pV_r h _
  · have ea : aBest T l w = -1 := by unfold aBest; rw [if_pos h6]
    rw [ea]
    refine aw_iconst (pc := 9) (v := (-1)) d_V_best_9 (by decide) ?_
    refine aw_iret (pc := 10) d_V_best_10 rfl ?_
    exact pV_r h _
set_option maxHeartbeats 1000000 in
set_option maxRecDepth 20000 in
theorem v_thirds (h : ci T np PD km TI A I J) (l w : Int32) : AM m_V_thirds r_V_thirds (HH A I J U) [.ref 0, .int l, .int w] (pV T np PD km TI (.int (aThirds T l w)) A I J) := by
  obtain ⟨hT, hE, -, -, ⟨⟨f, h32⟩, ⟨g, h33⟩, -⟩, -⟩ := id h
  refine am_of (by decide) rfl (by first | decide | exact Nat.le_of_ble_eq_true rfl) ?_
  refine aw_iload_n (pc := 0) d_V_thirds_0 rfl rfl ?_
  refine aw_iconst (pc := 1) (v := 0) d_V_thirds_1 (by decide) ?_
  refine aw_bipush (pc := 2) (v := 11) d_V_thirds_2 (by decide) ?_
  refine aw_callS1 (pc := 4) (c_V_within _ _ _ _) ok_V_within d_V_thirds_4 lm_V_50 rfl rfl ⟨by decide, by decide⟩ (Nat.le_of_ble_eq_true rfl) rfl rfl ⟨by decide, by decide⟩ ?_
  refine aw_bn (pc := 7) (tgt := 12) d_V_thirds_7 (by decide) (fun h6 => ?_) (fun h6 => ?_)
  · refine aw_iload_n (pc := 12) d_V_thirds_12 rfl rfl ?_
    refine aw_iconst (pc := 13) (v := 0) d_V_thirds_13 (by decide) ?_
    refine aw_iconst (pc := 14) (v := 1) d_V_thirds_14 (by decide) ?_
    refine aw_callS1 (pc := 15) (c_V_within _ _ _ _) ok_V_within d_V_thirds_15 lm_V_50 rfl rfl ⟨by decide, by decide⟩ (Nat.le_of_ble_eq_true rfl) rfl rfl ⟨by decide, by decide⟩ ?_
    refine aw_bn (pc := 18) (tgt := 24) d_V_thirds_18 (by decide) (fun h17 => ?_) (fun h17 => ?_)
    · obtain ⟨j, hj, rfl⟩ := rng 11 (by omega) h6
      have ea : aThirds T (nI j) w = if w = 0 then nI (th4 T j).1 else oI (th4 T j).2 := by unfold aThirds; rw [if_neg (fun z => z h6), if_neg (fun z => z h17), nI_clamp (by omega)]
      rw [ea]
      refine aw_aload_n (pc := 24) d_V_thirds_24 rfl rfl ?_
      refine aw_get (pc := 25) d_V_thirds_25 lf_V_35 hg_0 rfl ?_
      refine aw_aload_n (pc := 28) d_V_thirds_28 rfl rfl ?_
      refine aw_get (pc := 29) d_V_thirds_29 lf_V_10 hg_0 rfl ?_
      refine aw_callV0 (pc := 32) (c_L_listen hT hE h32 h33) ok_L_listen d_V_thirds_32 lm_V_153 hg_31 rfl rfl ⟨by decide, by decide⟩ (Nat.le_of_ble_eq_true rfl) rfl rfl ⟨by decide, by decide⟩ ?_
      refine aw_aload_n (pc := 35) d_V_thirds_35 rfl rfl ?_
      refine aw_get (pc := 36) d_V_thirds_36 lf_V_35 hg_0 rfl ?_
      refine aw_iload_n (pc := 39) d_V_thirds_39 rfl rfl ?_
      refine aw_iload_n (pc := 40) d_V_thirds_40 rfl rfl ?_
      refine aw_if_ne (pc := 41) (tgt := 48) d_V_thirds_41 (by decide) (fun h41 => ?_) (fun h41 => ?_)
      · refine aw_iconst (pc := 48) (v := 0) d_V_thirds_48 (by decide) ?_
        refine aw_top (y := b2 (w = 0)) (b2_0 h41).symm ?_
        refine aw_callV1 (pc := 49) (c_L_thirdsFor (h := j) rfl (by omega)) ok_L_thirdsFor d_V_thirds_49 lm_V_160 hg_31 rfl rfl ⟨by decide, by decide⟩ (Nat.le_of_ble_eq_true rfl) rfl rfl ⟨by decide, by decide⟩ ?_
        refine aw_iret (pc := 52) d_V_thirds_52 rfl ?_
        exact pV_L h _
      · refine aw_iconst (pc := 44) (v := 1) d_V_thirds_44 (by decide) ?_
        refine aw_goto (pc := 45) (tgt := 49) d_V_thirds_45 (by decide) ?_
        refine aw_top (y := b2 (w = 0)) (b2_1 h41).symm ?_
        refine aw_callV1 (pc := 49) (c_L_thirdsFor (h := j) rfl (by omega)) ok_L_thirdsFor d_V_thirds_49 lm_V_160 hg_31 rfl rfl ⟨by decide, by decide⟩ (Nat.le_of_ble_eq_true rfl) rfl rfl ⟨by decide, by decide⟩ ?_
        refine aw_iret (pc := 52) d_V_thirds_52 rfl ?_
        exact pV_L h _
    · have ea : aThirds T l w = -2 := by unfold aThirds; rw [if_neg (fun z => z h6), if_pos h17]
      rw [ea]
      refine aw_bipush (pc := 21) (v := (-2)) d_V_thirds_21 (by decide) ?_
      refine aw_iret (pc := 23) d_V_thirds_23 rfl ?_
      exact pV_r h _
  · have ea : aThirds T l w = -1 := by unfold aThirds; rw [if_pos h6]
    rw [ea]
    refine aw_iconst (pc := 10) (v := (-1)) d_V_thirds_10 (by decide) ?_
    refine aw_iret (pc := 11) d_V_thirds_11 rfl ?_
    exact pV_r h _
set_option maxHeartbeats 1000000 in
set_option maxRecDepth 20000 in
theorem v_round (h : ci T np PD km TI A I J) (l w : Int32) : AM m_V_round r_V_round (HH A I J U) [.ref 0, .int l, .int w] (pV T np PD km TI (.int (aRound T l w)) A I J) := by
  obtain ⟨hT, hE, -, -, ⟨⟨f, h32⟩, ⟨g, h33⟩, -⟩, -⟩ := id h
  refine am_of (by decide) rfl (by first | decide | exact Nat.le_of_ble_eq_true rfl) ?_
  refine aw_iload_n (pc := 0) d_V_round_0 rfl rfl ?_
  refine aw_iconst (pc := 1) (v := 0) d_V_round_1 (by decide) ?_
  refine aw_bipush (pc := 2) (v := 63) d_V_round_2 (by decide) ?_
  refine aw_callS1 (pc := 4) (c_V_within _ _ _ _) ok_V_within d_V_round_4 lm_V_50 rfl rfl ⟨by decide, by decide⟩ (Nat.le_of_ble_eq_true rfl) rfl rfl ⟨by decide, by decide⟩ ?_
  refine aw_bn (pc := 7) (tgt := 12) d_V_round_7 (by decide) (fun h6 => ?_) (fun h6 => ?_)
  · refine aw_iload_n (pc := 12) d_V_round_12 rfl rfl ?_
    refine aw_iconst (pc := 13) (v := 0) d_V_round_13 (by decide) ?_
    refine aw_iconst (pc := 14) (v := 1) d_V_round_14 (by decide) ?_
    refine aw_callS1 (pc := 15) (c_V_within _ _ _ _) ok_V_within d_V_round_15 lm_V_50 rfl rfl ⟨by decide, by decide⟩ (Nat.le_of_ble_eq_true rfl) rfl rfl ⟨by decide, by decide⟩ ?_
    refine aw_bn (pc := 18) (tgt := 24) d_V_round_18 (by decide) (fun h17 => ?_) (fun h17 => ?_)
    · obtain ⟨j, hj, rfl⟩ := rng 63 (by omega) h6
      have ea : aRound T (nI j) w = if w = 0 then fO (rd3 T j) else wO (rd3 T j) := by unfold aRound; rw [if_neg (fun z => z h6), if_neg (fun z => z h17), nI_clamp (by omega)]
      rw [ea]
      refine aw_aload_n (pc := 24) d_V_round_24 rfl rfl ?_
      refine aw_get (pc := 25) d_V_round_25 lf_V_35 hg_0 rfl ?_
      refine aw_aload_n (pc := 28) d_V_round_28 rfl rfl ?_
      refine aw_get (pc := 29) d_V_round_29 lf_V_10 hg_0 rfl ?_
      refine aw_callV0 (pc := 32) (c_L_listen hT hE h32 h33) ok_L_listen d_V_round_32 lm_V_153 hg_31 rfl rfl ⟨by decide, by decide⟩ (Nat.le_of_ble_eq_true rfl) rfl rfl ⟨by decide, by decide⟩ ?_
      refine aw_aload_n (pc := 35) d_V_round_35 rfl rfl ?_
      refine aw_get (pc := 36) d_V_round_36 lf_V_35 hg_0 rfl ?_
      refine aw_aload_n (pc := 39) d_V_round_39 rfl rfl ?_
      refine aw_get (pc := 40) d_V_round_40 lf_V_10 hg_0 rfl ?_
      refine aw_iload_n (pc := 43) d_V_round_43 rfl rfl ?_
      refine aw_iload_n (pc := 44) d_V_round_44 rfl rfl ?_
      refine aw_if_ne (pc := 45) (tgt := 52) d_V_round_45 (by decide) (fun h45 => ?_) (fun h45 => ?_)
      · refine aw_iconst (pc := 52) (v := 0) d_V_round_52 (by decide) ?_
        refine aw_top (y := b2 (w = 0)) (b2_0 h45).symm ?_
        refine aw_callV1 (pc := 53) (c_L_leastWalk hT (enS_L hE) rfl (ls := j) (by omega)) ok_L_leastWalk d_V_round_53 lm_V_163 hg_31 rfl rfl ⟨by decide, by decide⟩ (Nat.le_of_ble_eq_true rfl) rfl rfl ⟨by decide, by decide⟩ ?_
        refine aw_iret (pc := 56) d_V_round_56 rfl ?_
        exact pV_L h _
      · refine aw_iconst (pc := 48) (v := 1) d_V_round_48 (by decide) ?_
        refine aw_goto (pc := 49) (tgt := 53) d_V_round_49 (by decide) ?_
        refine aw_top (y := b2 (w = 0)) (b2_1 h45).symm ?_
        refine aw_callV1 (pc := 53) (c_L_leastWalk hT (enS_L hE) rfl (ls := j) (by omega)) ok_L_leastWalk d_V_round_53 lm_V_163 hg_31 rfl rfl ⟨by decide, by decide⟩ (Nat.le_of_ble_eq_true rfl) rfl rfl ⟨by decide, by decide⟩ ?_
        refine aw_iret (pc := 56) d_V_round_56 rfl ?_
        exact pV_L h _
    · have ea : aRound T l w = -2 := by unfold aRound; rw [if_neg (fun z => z h6), if_pos h17]
      rw [ea]
      refine aw_bipush (pc := 21) (v := (-2)) d_V_round_21 (by decide) ?_
      refine aw_iret (pc := 23) d_V_round_23 rfl ?_
      exact pV_r h _
  · have ea : aRound T l w = -1 := by unfold aRound; rw [if_pos h6]
    rw [ea]
    refine aw_iconst (pc := 10) (v := (-1)) d_V_round_10 (by decide) ?_
    refine aw_iret (pc := 11) d_V_round_11 rfl ?_
    exact pV_r h _
end BEST

