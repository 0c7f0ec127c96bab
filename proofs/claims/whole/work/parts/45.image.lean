/-! image, restore: the class -/
def aImage (n : Int32) : Int32 := if 0 ≤ n ∧ n ≤ 1 then 1 else -2
def imK (km : Nat) (n : Int32) : Nat := if 0 ≤ n ∧ n ≤ 1 then km ||| 2 ^ n.toNatClampNeg else km
def imI (TI : Nat → town) (n : Int32) (T : town) : Nat → town := if 0 ≤ n ∧ n ≤ 1 then u1 TI n.toNatClampNeg T else TI
def aRest (km : Nat) (n : Int32) : Int32 := if ¬ (0 ≤ n ∧ n ≤ 1) then -2 else if km.testBit n.toNatClampNeg = true then 1 else -3
def reT (km : Nat) (TI : Nat → town) (n : Int32) (T : town) : town := if (0 ≤ n ∧ n ≤ 1) ∧ km.testBit n.toNatClampNeg = true then TI n.toNatClampNeg else T
theorem km_lt {km n : Nat} (hk : km < 4) (hn : n ≤ 1) : km ||| 2 ^ n < 4 := Nat.or_lt_two_pow (n := 2) hk (Nat.pow_lt_pow_right (by omega) (by omega))
theorem im_y {TI : Nat → town} {T : town} {km n : Nat} (hn : n ≤ 1) : aImage (nI n) = 1 ∧ imK km (nI n) = km ||| 2 ^ n ∧ imI TI (nI n) T = u1 TI n T := by
  have h : 0 ≤ nI n ∧ nI n ≤ 1 := rng_i (n := 1) (by omega) hn
  unfold aImage imK imI
  rw [if_pos h, if_pos h, if_pos h, nI_clamp (by omega)]
  exact ⟨rfl, rfl, rfl⟩
theorem im_n {TI : Nat → town} {T : town} {km : Nat} {n : Int32} (h : ¬ (0 ≤ n ∧ n ≤ 1)) : aImage n = -2 ∧ imK km n = km ∧ imI TI n T = TI := by
  unfold aImage imK imI
  rw [if_neg h, if_neg h, if_neg h]
  exact ⟨rfl, rfl, rfl⟩
theorem re_y {TI : Nat → town} {T : town} {km n : Nat} (hn : n ≤ 1) (hb : km.testBit n = true) : aRest km (nI n) = 1 ∧ reT km TI (nI n) T = TI n := by
  have h : 0 ≤ nI n ∧ nI n ≤ 1 := rng_i (n := 1) (by omega) hn
  unfold aRest reT
  rw [nI_clamp (by omega), if_neg (fun z => z h), if_pos hb, if_pos ⟨h, hb⟩]
  exact ⟨rfl, rfl⟩
theorem re_s {TI : Nat → town} {T : town} {km n : Nat} (hn : n ≤ 1) (hb : ¬ km.testBit n = true) : aRest km (nI n) = -3 ∧ reT km TI (nI n) T = T := by
  have h : 0 ≤ nI n ∧ nI n ≤ 1 := rng_i (n := 1) (by omega) hn
  unfold aRest reT
  rw [nI_clamp (by omega), if_neg (fun z => z h), if_neg hb, if_neg (fun z => hb z.2)]
  exact ⟨rfl, rfl⟩
theorem re_n {TI : Nat → town} {T : town} {km : Nat} {n : Int32} (h : ¬ (0 ≤ n ∧ n ≤ 1)) : aRest km n = -2 ∧ reT km TI n T = T := by
  unfold aRest reT
  rw [if_pos h, if_neg (fun z => h z.1)]
  exact ⟨rfl, rfl⟩
section IMAGE
variable {A : Nat → List Int32} {I : Nat → Nat → Int32} {J : Nat → List Int64} {U : Nat → Nat → Int64} {T : town} {np : Nat} {PD : Nat → Nat} {km : Nat} {TI : Nat → town}
set_option maxHeartbeats 1000000 in
set_option maxRecDepth 20000 in
theorem c_V_imageNumbered_0 : AD m_V_imageNumbered r_V_imageNumbered (HH A I J U) [.ref 0, .int (nI 0)] (some (.ref 8)) (HH A I J U) := by
  refine am_of (by decide) rfl (by first | decide | exact Nat.le_of_ble_eq_true rfl) ?_
  refine aw_iload_n (pc := 0) d_V_imageNumbered_0 rfl rfl ?_
  refine aw_if_ne (pc := 1) (tgt := 11) d_V_imageNumbered_1 (by decide) (fun hh => absurd hh (fun z => z rfl)) (fun _ => ?_)
  refine aw_aload_n (pc := 4) d_V_imageNumbered_4 rfl rfl ?_
  refine aw_get (pc := 5) d_V_imageNumbered_5 lf_V_16 hg_0 rfl ?_
  refine aw_goto (pc := 8) (tgt := 15) d_V_imageNumbered_8 (by decide) ?_
  refine aw_aret (pc := 15) d_V_imageNumbered_15 rfl ?_
  exact ⟨rfl, rfl⟩
set_option maxHeartbeats 1000000 in
set_option maxRecDepth 20000 in
theorem c_V_imageNumbered_1 : AD m_V_imageNumbered r_V_imageNumbered (HH A I J U) [.ref 0, .int (nI 1)] (some (.ref 15)) (HH A I J U) := by
  refine am_of (by decide) rfl (by first | decide | exact Nat.le_of_ble_eq_true rfl) ?_
  refine aw_iload_n (pc := 0) d_V_imageNumbered_0 rfl rfl ?_
  refine aw_if_ne (pc := 1) (tgt := 11) d_V_imageNumbered_1 (by decide) (fun _ => ?_) (fun hh => absurd hh (by decide))
  refine aw_aload_n (pc := 11) d_V_imageNumbered_11 rfl rfl ?_
  refine aw_get (pc := 12) d_V_imageNumbered_12 lf_V_19 hg_0 rfl ?_
  refine aw_aret (pc := 15) d_V_imageNumbered_15 rfl ?_
  exact ⟨rfl, rfl⟩
set_option maxHeartbeats 1000000 in
set_option maxRecDepth 20000 in
theorem v_image (h : ci T np PD km TI A I J) (w : Int32) : AM m_V_image r_V_image (HH A I J U) [.ref 0, .int w] (pV T np PD (imK km w) (imI TI w T) (.int (aImage w)) A I J) := by
  obtain ⟨hT, hE, ⟨h8, h15, T0, h22⟩, ⟨hp, hP, h30, h29⟩, ⟨h32, h33, h35⟩, hk, h07, o0, o1⟩ := id h
  refine am_of (by decide) rfl (by first | decide | exact Nat.le_of_ble_eq_true rfl) ?_
  refine aw_iload_n (pc := 0) d_V_image_0 rfl rfl ?_
  refine aw_iconst (pc := 1) (v := 0) d_V_image_1 (by decide) ?_
  refine aw_iconst (pc := 2) (v := 1) d_V_image_2 (by decide) ?_
  refine aw_callS1 (pc := 3) (c_V_within _ _ _ _) ok_V_within d_V_image_3 lm_V_50 rfl rfl ⟨by decide, by decide⟩ (Nat.le_of_ble_eq_true rfl) rfl rfl ⟨by decide, by decide⟩ ?_
  refine aw_bn (pc := 6) (tgt := 12) d_V_image_6 (by decide) (fun h6 => ?_) (fun h6 => ?_)
  · obtain ⟨n, hn, rfl⟩ := rng 1 (by omega) h6
    obtain ⟨e1, e2, e3⟩ := im_y (TI := TI) (T := T) (km := km) hn
    rw [e1, e2, e3]
    rcases (show n = 0 ∨ n = 1 by omega) with rfl | rfl
    · refine aw_aload_n (pc := 12) d_V_image_12 rfl rfl ?_
      refine aw_iload_n (pc := 13) d_V_image_13 rfl rfl ?_
      refine aw_callV1 (pc := 14) c_V_imageNumbered_0 ok_V_imageNumbered d_V_image_14 lm_V_223 hg_0 rfl rfl ⟨by decide, by decide⟩ (Nat.le_of_ble_eq_true rfl) rfl rfl ⟨by decide, by decide⟩ ?_
      refine aw_aload_n (pc := 17) d_V_image_17 rfl rfl ?_
      refine aw_get (pc := 18) d_V_image_18 lf_V_10 hg_0 rfl ?_
      refine aw_callVq (pc := 21) (c_S_takeFrom_8_1 hE h8) ok_S_takeFrom d_V_image_21 lm_V_129 hg_8 rfl rfl ⟨by decide, by decide⟩ (Nat.le_of_ble_eq_true rfl) rfl rfl ⟨by decide, by decide⟩ (fun rr hh2 hq => ?_)
      obtain ⟨rfl, A1, I1, rfl, f1, f2, f3⟩ := hq
      refine aw_aload_n (pc := 24) d_V_image_24 rfl rfl ?_
      refine aw_dup (pc := 25) d_V_image_25 rfl ?_
      refine aw_geti (pc := 26) (y := (nI km)) d_V_image_26 lf_V_46 hg_0 rfl (show I1 0 7 = nI km from (f3 0 7 (by decide)).trans h07) ?_
      refine aw_iconst (pc := 29) (v := 1) d_V_image_29 (by decide) ?_
      refine aw_iload_n (pc := 30) d_V_image_30 rfl rfl ?_
      refine aw_ishl (pc := 31) d_V_image_31 ?_
      refine aw_ior (pc := 32) d_V_image_32 ?_
      refine aw_top (or_bit (i := 0) (by omega)) ?_
      refine aw_put (pc := 33) d_V_image_33 lp_V_46 hg_0 (ft_int _) (Nat.le_of_ble_eq_true rfl) (hp_0_7 _) ?_
      refine aw_iconst (pc := 36) (v := 1) d_V_image_36 (by decide) ?_
      refine aw_iret (pc := 37) d_V_image_37 rfl ?_
      have g1 : frI I (u2 I1 0 7 (nI (km ||| 2 ^ 0))) [0, 8] := frI_t (fun x y hx => f3 x y (fun z => hx (List.mem_cons_of_mem _ z))) (frI_u _ _ _ _ (by decide))
      have g2 : frI I1 (u2 I1 0 7 (nI (km ||| 2 ^ 0))) [0] := frI_u _ _ _ _ (by decide)
      refine ⟨rfl, _, _, _, _, rfl, ⟨hT, enS_fr hE f2 g1 (by decide) (by decide), ⟨enS_fr (ks := []) f1 (frA_r _ _) g2 (by decide) (by decide), enS_fr h15 f2 g1 (by decide) (by decide), T0, enS_fr h22 f2 g1 (by decide) (by decide)⟩, ⟨hp, hP, (f2 30 (by decide)).trans h30, (g1 29 1 (by decide)).trans h29⟩, ⟨?_, ?_, h35⟩, km_lt hk (by omega), rfl, hT, o1⟩, hi_of f2 g1 (by decide) (by decide)⟩
      · obtain ⟨f, hf⟩ := h32
        exact ⟨f, (f2 32 (by decide)).trans hf⟩
      · obtain ⟨f, hf⟩ := h33
        exact ⟨f, (f2 33 (by decide)).trans hf⟩
    · refine aw_aload_n (pc := 12) d_V_image_12 rfl rfl ?_
      refine aw_iload_n (pc := 13) d_V_image_13 rfl rfl ?_
      refine aw_callV1 (pc := 14) c_V_imageNumbered_1 ok_V_imageNumbered d_V_image_14 lm_V_223 hg_0 rfl rfl ⟨by decide, by decide⟩ (Nat.le_of_ble_eq_true rfl) rfl rfl ⟨by decide, by decide⟩ ?_
      refine aw_aload_n (pc := 17) d_V_image_17 rfl rfl ?_
      refine aw_get (pc := 18) d_V_image_18 lf_V_10 hg_0 rfl ?_
      refine aw_callVq (pc := 21) (c_S_takeFrom_15_1 hE h15) ok_S_takeFrom d_V_image_21 lm_V_129 hg_15 rfl rfl ⟨by decide, by decide⟩ (Nat.le_of_ble_eq_true rfl) rfl rfl ⟨by decide, by decide⟩ (fun rr hh2 hq => ?_)
      obtain ⟨rfl, A1, I1, rfl, f1, f2, f3⟩ := hq
      refine aw_aload_n (pc := 24) d_V_image_24 rfl rfl ?_
      refine aw_dup (pc := 25) d_V_image_25 rfl ?_
      refine aw_geti (pc := 26) (y := (nI km)) d_V_image_26 lf_V_46 hg_0 rfl (show I1 0 7 = nI km from (f3 0 7 (by decide)).trans h07) ?_
      refine aw_iconst (pc := 29) (v := 1) d_V_image_29 (by decide) ?_
      refine aw_iload_n (pc := 30) d_V_image_30 rfl rfl ?_
      refine aw_ishl (pc := 31) d_V_image_31 ?_
      refine aw_ior (pc := 32) d_V_image_32 ?_
      refine aw_top (or_bit (i := 1) (by omega)) ?_
      refine aw_put (pc := 33) d_V_image_33 lp_V_46 hg_0 (ft_int _) (Nat.le_of_ble_eq_true rfl) (hp_0_7 _) ?_
      refine aw_iconst (pc := 36) (v := 1) d_V_image_36 (by decide) ?_
      refine aw_iret (pc := 37) d_V_image_37 rfl ?_
      have g1 : frI I (u2 I1 0 7 (nI (km ||| 2 ^ 1))) [0, 15] := frI_t (fun x y hx => f3 x y (fun z => hx (List.mem_cons_of_mem _ z))) (frI_u _ _ _ _ (by decide))
      have g2 : frI I1 (u2 I1 0 7 (nI (km ||| 2 ^ 1))) [0] := frI_u _ _ _ _ (by decide)
      refine ⟨rfl, _, _, _, _, rfl, ⟨hT, enS_fr hE f2 g1 (by decide) (by decide), ⟨enS_fr h8 f2 g1 (by decide) (by decide), enS_fr (ks := []) f1 (frA_r _ _) g2 (by decide) (by decide), T0, enS_fr h22 f2 g1 (by decide) (by decide)⟩, ⟨hp, hP, (f2 30 (by decide)).trans h30, (g1 29 1 (by decide)).trans h29⟩, ⟨?_, ?_, h35⟩, km_lt hk (by omega), rfl, o0, hT⟩, hi_of f2 g1 (by decide) (by decide)⟩
      · obtain ⟨f, hf⟩ := h32
        exact ⟨f, (f2 32 (by decide)).trans hf⟩
      · obtain ⟨f, hf⟩ := h33
        exact ⟨f, (f2 33 (by decide)).trans hf⟩
  · obtain ⟨e1, e2, e3⟩ := im_n (TI := TI) (T := T) (km := km) h6
    rw [e1, e2, e3]
    refine aw_bipush (pc := 9) (v := (-2)) d_V_image_9 (by decide) ?_
    refine aw_iret (pc := 11) d_V_image_11 rfl ?_
    exact pV_r h _
set_option maxHeartbeats 1000000 in
set_option maxRecDepth 20000 in
theorem v_restore (h : ci T np PD km TI A I J) (w : Int32) : AM m_V_restore r_V_restore (HH A I J U) [.ref 0, .int w] (pV (reT km TI w T) np PD km TI (.int (aRest km w)) A I J) := by
  obtain ⟨hT, hE, ⟨h8, h15, T0, h22⟩, -, -, hk, h07, o0, o1⟩ := id h
  refine am_of (by decide) rfl (by first | decide | exact Nat.le_of_ble_eq_true rfl) ?_
  refine aw_iload_n (pc := 0) d_V_restore_0 rfl rfl ?_
  refine aw_iconst (pc := 1) (v := 0) d_V_restore_1 (by decide) ?_
  refine aw_iconst (pc := 2) (v := 1) d_V_restore_2 (by decide) ?_
  refine aw_callS1 (pc := 3) (c_V_within _ _ _ _) ok_V_within d_V_restore_3 lm_V_50 rfl rfl ⟨by decide, by decide⟩ (Nat.le_of_ble_eq_true rfl) rfl rfl ⟨by decide, by decide⟩ ?_
  refine aw_bn (pc := 6) (tgt := 12) d_V_restore_6 (by decide) (fun h6 => ?_) (fun h6 => ?_)
  · obtain ⟨n, hn, rfl⟩ := rng 1 (by omega) h6
    by_cases hb : km.testBit n = true
    · obtain ⟨e1, e2⟩ := re_y (TI := TI) (T := T) hn hb
      rw [e1, e2]
      rcases (show n = 0 ∨ n = 1 by omega) with rfl | rfl
      · refine aw_aload_n (pc := 12) d_V_restore_12 rfl rfl ?_
        refine aw_geti (pc := 13) (y := (nI km)) d_V_restore_13 lf_V_46 hg_0 rfl h07 ?_
        refine aw_iload_n (pc := 16) d_V_restore_16 rfl rfl ?_
        refine aw_callS1 (pc := 17) (c_V_hasBit _ _ _) ok_V_hasBit d_V_restore_17 lm_V_142 rfl rfl ⟨by decide, by decide⟩ (Nat.le_of_ble_eq_true rfl) rfl rfl ⟨by decide, by decide⟩ ?_
        refine aw_bn (pc := 20) (tgt := 26) d_V_restore_20 (by decide) (fun _ => ?_) (fun hh => absurd ((hb_nI (k := 0) (by omega) (by omega)).mpr hb) hh)
        refine aw_aload_n (pc := 26) d_V_restore_26 rfl rfl ?_
        refine aw_get (pc := 27) d_V_restore_27 lf_V_10 hg_0 rfl ?_
        refine aw_aload_n (pc := 30) d_V_restore_30 rfl rfl ?_
        refine aw_iload_n (pc := 31) d_V_restore_31 rfl rfl ?_
        refine aw_callV1 (pc := 32) c_V_imageNumbered_0 ok_V_imageNumbered d_V_restore_32 lm_V_223 hg_0 rfl rfl ⟨by decide, by decide⟩ (Nat.le_of_ble_eq_true rfl) rfl rfl ⟨by decide, by decide⟩ ?_
        refine aw_callVq (pc := 35) (c_S_takeFrom_1_8 h8 hE) ok_S_takeFrom d_V_restore_35 lm_V_129 hg_1 rfl rfl ⟨by decide, by decide⟩ (Nat.le_of_ble_eq_true rfl) rfl rfl ⟨by decide, by decide⟩ (fun rr hh2 hq => ?_)
        obtain ⟨rfl, A1, I1, rfl, f1, f2, f3⟩ := hq
        refine aw_iconst (pc := 38) (v := 1) d_V_restore_38 (by decide) ?_
        refine aw_iret (pc := 39) d_V_restore_39 rfl ?_
        exact ⟨rfl, _, _, _, _, rfl, ci_1 h f2 f3 f1 o0, hi_of f2 f3 (by decide) (by decide)⟩
      · refine aw_aload_n (pc := 12) d_V_restore_12 rfl rfl ?_
        refine aw_geti (pc := 13) (y := (nI km)) d_V_restore_13 lf_V_46 hg_0 rfl h07 ?_
        refine aw_iload_n (pc := 16) d_V_restore_16 rfl rfl ?_
        refine aw_callS1 (pc := 17) (c_V_hasBit _ _ _) ok_V_hasBit d_V_restore_17 lm_V_142 rfl rfl ⟨by decide, by decide⟩ (Nat.le_of_ble_eq_true rfl) rfl rfl ⟨by decide, by decide⟩ ?_
        refine aw_bn (pc := 20) (tgt := 26) d_V_restore_20 (by decide) (fun _ => ?_) (fun hh => absurd ((hb_nI (k := 1) (by omega) (by omega)).mpr hb) hh)
        refine aw_aload_n (pc := 26) d_V_restore_26 rfl rfl ?_
        refine aw_get (pc := 27) d_V_restore_27 lf_V_10 hg_0 rfl ?_
        refine aw_aload_n (pc := 30) d_V_restore_30 rfl rfl ?_
        refine aw_iload_n (pc := 31) d_V_restore_31 rfl rfl ?_
        refine aw_callV1 (pc := 32) c_V_imageNumbered_1 ok_V_imageNumbered d_V_restore_32 lm_V_223 hg_0 rfl rfl ⟨by decide, by decide⟩ (Nat.le_of_ble_eq_true rfl) rfl rfl ⟨by decide, by decide⟩ ?_
        refine aw_callVq (pc := 35) (c_S_takeFrom_1_15 h15 hE) ok_S_takeFrom d_V_restore_35 lm_V_129 hg_1 rfl rfl ⟨by decide, by decide⟩ (Nat.le_of_ble_eq_true rfl) rfl rfl ⟨by decide, by decide⟩ (fun rr hh2 hq => ?_)
        obtain ⟨rfl, A1, I1, rfl, f1, f2, f3⟩ := hq
        refine aw_iconst (pc := 38) (v := 1) d_V_restore_38 (by decide) ?_
        refine aw_iret (pc := 39) d_V_restore_39 rfl ?_
        exact ⟨rfl, _, _, _, _, rfl, ci_1 h f2 f3 f1 o1, hi_of f2 f3 (by decide) (by decide)⟩
    · obtain ⟨e1, e2⟩ := re_s (TI := TI) (T := T) hn hb
      rw [e1, e2]
      refine aw_aload_n (pc := 12) d_V_restore_12 rfl rfl ?_
      refine aw_geti (pc := 13) (y := (nI km)) d_V_restore_13 lf_V_46 hg_0 rfl h07 ?_
      refine aw_iload_n (pc := 16) d_V_restore_16 rfl rfl ?_
      refine aw_callS1 (pc := 17) (c_V_hasBit _ _ _) ok_V_hasBit d_V_restore_17 lm_V_142 rfl rfl ⟨by decide, by decide⟩ (Nat.le_of_ble_eq_true rfl) rfl rfl ⟨by decide, by decide⟩ ?_
      refine aw_bn (pc := 20) (tgt := 26) d_V_restore_20 (by decide) (fun hh => absurd hh (fun z => hb ((hb_nI (by omega) (by omega)).mp z))) (fun _ => ?_)
      refine aw_bipush (pc := 23) (v := (-3)) d_V_restore_23 (by decide) ?_
      refine aw_iret (pc := 25) d_V_restore_25 rfl ?_
      exact pV_r h _
  · obtain ⟨e1, e2⟩ := re_n (TI := TI) (T := T) (km := km) h6
    rw [e1, e2]
    refine aw_bipush (pc := 9) (v := (-2)) d_V_restore_9 (by decide) ?_
    refine aw_iret (pc := 11) d_V_restore_11 rfl ?_
    exact pV_r h _
end IMAGE

