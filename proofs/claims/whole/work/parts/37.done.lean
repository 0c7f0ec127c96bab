/-! done: both sides -/
section DONE
variable {A : Nat → List Int32} {I : Nat → Nat → Int32} {J : Nat → List Int64} {U : Nat → Nat → Int64} {T : town} {np : Nat} {PD : Nat → Nat} {km : Nat} {TI : Nat → town}
set_option maxHeartbeats 1000000 in
set_option maxRecDepth 20000 in
theorem c_P_clean {n : Int32} (h29 : I 29 1 = n) : AD m_P_clean r_P_clean (HH A I J U) [.ref 29] (some (.int n)) (HH A (u2 I 29 1 0) J U) := by
  refine am_of (by decide) rfl (by first | decide | exact Nat.le_of_ble_eq_true rfl) ?_
  refine aw_aload_n (pc := 0) d_P_clean_0 rfl rfl ?_
  refine aw_geti (pc := 1) (y := (n)) d_P_clean_1 lf_P_15 hg_29 rfl h29 ?_
  refine aw_istore_n (pc := 4) (ls' := [(0, _), (1, _)]) d_P_clean_4 rfl (by decide) rfl ?_
  refine aw_aload_n (pc := 5) d_P_clean_5 rfl rfl ?_
  refine aw_iconst (pc := 6) (v := 0) d_P_clean_6 (by decide) ?_
  refine aw_put (pc := 7) d_P_clean_7 lp_P_15 hg_29 (ft_int _) (Nat.le_of_ble_eq_true rfl) (hp_29_1 _) ?_
  refine aw_iload_n (pc := 10) d_P_clean_10 rfl rfl ?_
  refine aw_iret (pc := 11) d_P_clean_11 rfl ?_
  exact ⟨rfl, rfl⟩
set_option maxHeartbeats 1000000 in
set_option maxRecDepth 20000 in
theorem v_done (h : ci T np PD km TI A I J) : AM m_V_done r_V_done (HH A I J U) [.ref 0] (pV (dnT PD np T) (dnP PD np T) PD km TI (.int (aDone PD np T)) A I J) := by
  obtain ⟨hT, hE, ⟨-, -, T0, hE2⟩, ⟨hp, hP, h30, h29⟩, -⟩ := id h
  refine am_of (by decide) rfl (by first | decide | exact Nat.le_of_ble_eq_true rfl) ?_
  by_cases hf : flt PD np 0 false = none
  · refine aw_aload_n (pc := 0) d_V_done_0 rfl rfl ?_
    refine aw_get (pc := 1) d_V_done_1 lf_V_28 hg_0 rfl ?_
    refine aw_aload_n (pc := 4) d_V_done_4 rfl rfl ?_
    refine aw_get (pc := 5) d_V_done_5 lf_V_10 hg_0 rfl ?_
    refine aw_aload_n (pc := 8) d_V_done_8 rfl rfl ?_
    refine aw_get (pc := 9) d_V_done_9 lf_V_22 hg_0 rfl ?_
    refine aw_callVq (pc := 12) (c_P_plays hT hE hE2 hp hP h30 h29 hf) ok_P_playsToTheEnd d_V_done_12 lm_V_119 hg_29 rfl rfl ⟨by decide, by decide⟩ (Nat.le_of_ble_eq_true rfl) rfl rfl ⟨by decide, by decide⟩ (fun rr hh2 hq => ?_)
    obtain ⟨rfl, A1, I1, rfl, e1, e2, -, -, -, e6, e7, e8⟩ := hq
    have hc := ci_22 h e7 e8 e6 e1
    have hh : hi A A1 I I1 J J := hi_of e7 e8 (by decide) (by decide)
    refine aw_bn (pc := 15) (tgt := 21) d_V_done_15 (by decide) (fun h15 => ?_) (fun h15 => ?_)
    · have ho : okP PD np T := ⟨hf, h15⟩
      refine aw_aload_n (pc := 21) d_V_done_21 rfl rfl ?_
      refine aw_get (pc := 22) d_V_done_22 lf_V_10 hg_0 rfl ?_
      refine aw_aload_n (pc := 25) d_V_done_25 rfl rfl ?_
      refine aw_get (pc := 26) d_V_done_26 lf_V_22 hg_0 rfl ?_
      refine aw_callVq (pc := 29) (c_S_takeFrom_1_22 e1 hc.2.1) ok_S_takeFrom d_V_done_29 lm_V_129 hg_1 rfl rfl ⟨by decide, by decide⟩ (Nat.le_of_ble_eq_true rfl) rfl rfl ⟨by decide, by decide⟩ (fun rr hh2 hq => ?_)
      obtain ⟨rfl, A2, I2, rfl, g1, g2, g3⟩ := hq
      have hc2 := ci_1 hc g2 g3 g1 (ok_plq hT hf)
      have hh2 : hi A1 A2 I1 I2 J J := hi_of g2 g3 (by decide) (by decide)
      refine aw_aload_n (pc := 32) d_V_done_32 rfl rfl ?_
      refine aw_get (pc := 33) d_V_done_33 lf_V_28 hg_0 rfl ?_
      refine aw_callV1 (pc := 36) (c_P_clean rfl) ok_P_clean d_V_done_36 lm_V_112 hg_29 rfl rfl ⟨by decide, by decide⟩ (Nat.le_of_ble_eq_true rfl) rfl rfl ⟨by decide, by decide⟩ ?_
      refine aw_pop (pc := 39) d_V_done_39 rfl ?_
      refine aw_aload_n (pc := 40) d_V_done_40 rfl rfl ?_
      refine aw_get (pc := 41) d_V_done_41 lf_V_28 hg_0 rfl ?_
      refine aw_geti (pc := 44) (y := (nI (plq PD np T).2.1)) d_V_done_44 lf_V_133 hg_29 rfl (show I2 29 2 = _ from (g3 29 2 (by decide)).trans e2) ?_
      refine aw_iret (pc := 47) d_V_done_47 rfl ?_
      refine ⟨by unfold aDone; rw [aBar_y _ ho], _, _, _, _, rfl, ?_, hi_t (hi_t hh hh2) (hi_of (frA_r _ []) (frI_u _ _ _ _ (List.mem_singleton.mpr rfl)) (by decide) (by decide))⟩
      rw [dnT_y ho, dnP_y ho]
      exact ci_P hc2 (frA_r _ _) (frI_u _ _ _ _ (by decide)) (by omega) hP hc2.2.2.2.1.2.2.1 rfl
    · have ho : ¬ okP PD np T := fun z => h15 z.2
      refine aw_bipush (pc := 18) (v := (-5)) d_V_done_18 (by decide) ?_
      refine aw_iret (pc := 20) d_V_done_20 rfl ?_
      refine ⟨by unfold aDone; rw [aBar_n _ ho], A1, I1, J, U, rfl, ?_, hh⟩
      rw [dnT_n ho, dnP_n ho]
      exact hc
  · have ho : ¬ okP PD np T := fun z => hf z.1
    refine aw_aload_n (pc := 0) d_V_done_0 rfl rfl ?_
    refine aw_get (pc := 1) d_V_done_1 lf_V_28 hg_0 rfl ?_
    refine aw_aload_n (pc := 4) d_V_done_4 rfl rfl ?_
    refine aw_get (pc := 5) d_V_done_5 lf_V_10 hg_0 rfl ?_
    refine aw_aload_n (pc := 8) d_V_done_8 rfl rfl ?_
    refine aw_get (pc := 9) d_V_done_9 lf_V_22 hg_0 rfl ?_
    refine aw_callV1 (pc := 12) (c_P_plays_f hp hP h30 h29 hf) ok_P_playsToTheEnd d_V_done_12 lm_V_119 hg_29 rfl rfl ⟨by decide, by decide⟩ (Nat.le_of_ble_eq_true rfl) rfl rfl ⟨by decide, by decide⟩ ?_
    refine aw_bn (pc := 15) (tgt := 21) d_V_done_15 (by decide) (fun hh => absurd hh (fun z => z)) (fun _ => ?_)
    refine aw_bipush (pc := 18) (v := (-5)) d_V_done_18 (by decide) ?_
    refine aw_iret (pc := 20) d_V_done_20 rfl ?_
    refine ⟨by unfold aDone; rw [aBar_n _ ho], A, I, J, U, rfl, ?_, hi_r⟩
    rw [dnT_n ho, dnP_n ho]
    exact h
set_option maxHeartbeats 1000000 in
set_option maxRecDepth 20000 in
theorem n_done (h : mi T np PD km TI A I J) : AM m_M_done r_M_done (HH A I J U) [.ref 36] (pN (dnT PD np T) (dnP PD np T) PD km TI (.int (aDone PD np T)) A I J) := by
  obtain ⟨hT, hE, ⟨h38, h43, -⟩, ⟨hp, hP, h42, h36⟩, -⟩ := id h
  refine am_of (by decide) rfl (by first | decide | exact Nat.le_of_ble_eq_true rfl) ?_
  refine aw_aload_n (pc := 0) d_M_done_0 rfl rfl ?_
  refine aw_callVq (pc := 1) (c_M_barOfDays hT hE h38 h43 hp hP h42 h36) ok_M_barOfDays d_M_done_1 lm_M_113 hg_36 rfl rfl ⟨by decide, by decide⟩ (Nat.le_of_ble_eq_true rfl) rfl rfl ⟨by decide, by decide⟩ (fun rr hh2 hq => ?_)
  obtain ⟨A1, I1, rfl, (⟨ho, rfl, e1, e2, e3⟩ | ⟨ho, rfl⟩), g1, g2, g3, g4⟩ := hq
  · have hc := mi_D h g3 g4 g1 g2
    have hh : lo A A1 I I1 J J := lo_N g3 g4 (by decide)
    have k37 := hc.2.1.1.1
    refine aw_if_ge (pc := 4) (tgt := 10) d_M_done_4 (by decide) (fun _ => ?_) (fun hh => absurd (by decide) hh)
    refine aw_iconst (pc := 10) (v := 0) d_M_done_10 (by decide) ?_
    refine aw_istore_n (pc := 11) (ls' := [(0, _), (1, _)]) d_M_done_11 rfl (by decide) rfl ?_
    refine aw_eq (h' := HH (u1 A1 37 (lst 16 (bk T))) I1 J U) ?_ (by rw [u1_self k37]) rfl rfl
    refine lp_i (fun i F => AW m_M_done r_M_done ax_E0 (ax_Zm (pN (dnT PD np T) (dnP PD np T) PD km TI (.int (aDone PD np T)) A I J) 0 0) (HH (u1 A1 37 (lst 16 F)) I1 J U) 0 0 12 [(0, .ref 36), (1, .int (nI i))] []) (fun i F => ∀ j, j < i → F j = bk (plq PD np T).2.2.2 j) 16 ?_ ?_ 16 0 (bk T) (by omega) (fun j hj => absurd hj (by omega))
    · intro F hV
      refine aw_iload_n (pc := 12) d_M_done_12 rfl rfl ?_
      refine aw_bipush (pc := 13) (v := 16) d_M_done_13 (by decide) ?_
      refine awn_ge (pc := 15) (tgt := 36) (16) (16) d_M_done_15 (by decide) rfl rfl (by omega) (by omega) (fun _ => ?_) (fun hh => absurd hh (by omega))
      refine aw_aload_n (pc := 36) d_M_done_36 rfl rfl ?_
      refine aw_iconst (pc := 37) (v := 0) d_M_done_37 (by decide) ?_
      refine aw_put (pc := 38) d_M_done_38 lp_M_63 hg_36 (ft_int _) (Nat.le_of_ble_eq_true rfl) (hp_36_9 _) ?_
      refine aw_aload_n (pc := 41) d_M_done_41 rfl rfl ?_
      refine aw_geti (pc := 42) (y := (nI (plq PD np T).2.1)) d_M_done_42 lf_M_91 hg_36 rfl e2 ?_
      refine aw_iret (pc := 45) d_M_done_45 rfl ?_
      have hs := sm_ply PD np np 0 T 0 none
      have hE1 := hc.2.1
      refine ⟨by unfold aDone; rw [aBar_y _ ho], _, _, _, _, rfl, ?_, lo_t hh (lo_of (frA_u _ _ _ (List.mem_singleton.mpr rfl)) (frI_u _ _ _ _ (List.mem_singleton.mpr rfl)) (by decide) (by decide))⟩
      rw [dnT_y ho, dnP_y ho]
      have hcT : mi (plq PD np T).2.2.2 np PD km TI (u1 A1 37 (lst 16 F)) I1 J := by
        refine mi_T hc (frA_u _ _ _ (by decide)) rfl ⟨⟨?_, ?_, ?_, ?_⟩, ?_, ?_, ?_, ?_⟩ (ok_plq hT ho.1)
        · show lst 16 F = _
          exact lst_cong hV
        · show A1 39 = _
          rw [hE1.1.2.1]
          exact lst_cong (fun j hj => (hs.1 1 j (by omega) (by omega)).symm)
        · show A1 40 = _
          rw [hE1.1.2.2.1]
          exact lst_cong (fun j hj => (hs.1 (2 + j % 4) (j / 4) (by omega) (by omega)).symm)
        · show A1 41 = _
          rw [hE1.1.2.2.2]
          exact lst_cong (fun j hj => (hs.1 (7 + j % 2) (j / 2) (by omega) (by omega)).symm)
        · rw [hE1.2.1, show (plq PD np T).2.2.2 6 1 = T 6 1 from hs.2 1 (by omega) (by omega) (by omega) (by omega)]
        · rw [hE1.2.2.1, show (plq PD np T).2.2.2 6 3 = T 6 3 from hs.2 3 (by omega) (by omega) (by omega) (by omega)]
        · rw [hE1.2.2.2.1, show (plq PD np T).2.2.2 6 4 = T 6 4 from hs.2 4 (by omega) (by omega) (by omega) (by omega)]
        · rw [hE1.2.2.2.2, show (plq PD np T).2.2.2 6 7 = T 6 7 from hs.2 7 (by omega) (by omega) (by omega) (by omega)]
      exact mi_P hcT (frA_r _ _) (fun x y hx => by show (if x = 36 then (if y = 9 then _ else _) else _) = _; by_cases ex : x = 36
                                                   · rw [if_pos ex, if_neg (fun ey => hx ⟨ex, ey⟩)]
                                                   · rw [if_neg ex]) (by omega) hP hcT.2.2.2.1.2.2.1 rfl
    · intro i F hi hV ih
      refine aw_iload_n (pc := 12) d_M_done_12 rfl rfl ?_
      refine aw_bipush (pc := 13) (v := 16) d_M_done_13 (by decide) ?_
      refine awn_ge (pc := 15) (tgt := 36) (i) (16) d_M_done_15 (by decide) rfl rfl (by omega) (by omega) (fun hh => absurd hh (by omega)) (fun _ => ?_)
      refine aw_aload_n (pc := 18) d_M_done_18 rfl rfl ?_
      refine aw_get (pc := 19) d_M_done_19 lf_M_7 hg_36 rfl ?_
      refine aw_iload_n (pc := 22) d_M_done_22 rfl rfl ?_
      refine aw_aload_n (pc := 23) d_M_done_23 rfl rfl ?_
      refine aw_get (pc := 24) d_M_done_24 lf_M_13 hg_36 rfl ?_
      refine aw_iload_n (pc := 27) d_M_done_27 rfl rfl ?_
      refine aw_ildN (pc := 28) (j := i) d_M_done_28 hg_38 e1 rfl hi (by decide) ?_
      refine aw_istN (pc := 29) (j := i) (v := _) d_M_done_29 hg_37 rfl rfl rfl hi (by decide) (hs_37 _) ?_
      refine aw_incN (pc := 30) (ls' := [(0, _), (1, _)]) (i := i) d_M_done_30 rfl rfl (by decide) rfl ?_
      refine aw_goto (pc := 33) (tgt := 12) d_M_done_33 (by decide) ?_
      refine aw_eq (ih (up F i (bk (plq PD np T).2.2.2 i)) (fun j hj => ?_)) (by rw [u1_u1]) rfl rfl
      by_cases e : j = i
      · subst e; rw [up_s]
      · rw [up_n _ _ e]; exact hV j (by omega)
  · refine aw_if_ge (pc := 4) (tgt := 10) d_M_done_4 (by decide) (fun hh => absurd hh (by decide)) (fun _ => ?_)
    refine aw_bipush (pc := 7) (v := (-5)) d_M_done_7 (by decide) ?_
    refine aw_iret (pc := 9) d_M_done_9 rfl ?_
    refine ⟨by unfold aDone; rw [aBar_n _ ho], A1, I1, J, U, rfl, ?_, lo_N g3 g4 (by decide)⟩
    rw [dnT_n ho, dnP_n ho]
    exact mi_D h g3 g4 g1 g2
end DONE

