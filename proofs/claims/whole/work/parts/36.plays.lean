/-! judge, done, knows, behind: what is left of them -/
theorem ok_ply (PD : Nat → Nat) (np : Nat) (k1 : ∀ j, j < np → ¬ kd (PD j) = 9) : ∀ (f i : Nat) (T : town) (n : Nat) (a : Option Nat), okT T → okT (ply PD np f i T n a).2.2.2
  | 0, _, _, _, _, h => h
  | f + 1, i, T, n, a, h => by
    unfold ply
    by_cases h1 : np ≤ i
    · rw [if_pos h1]; exact h
    · rw [if_neg h1]
      by_cases h2 : wy T (kd (PD i)) (nb (PD (jx PD np i))) = 0
      · rw [if_pos h2]
        refine ok_ply PD np k1 f _ _ _ _ (ok_ac h (kd_lt4 (k1 i (by omega))) (nb_lt _) (fun z => ?_) h2)
        have e : jx PD np i = i := by unfold jx; rw [if_neg (fun q => absurd q.1 (by omega))]
        rw [e]; exact nb_lt6 z
      · rw [if_neg h2]; exact h
theorem ok_plq {PD : Nat → Nat} {np : Nat} {T : town} (h : okT T) (hf : flt PD np 0 false = none) : okT (plq PD np T).2.2.2 := ok_ply PD np (fun j hj => (flt_kd hf).1 j (by omega) (by omega)) np 0 T 0 none h
theorem sm_ply (PD : Nat → Nat) (np : Nat) : ∀ (f i : Nat) (T : town) (n : Nat) (a : Option Nat), (∀ x y, ¬ x = 0 → ¬ x = 6 → (ply PD np f i T n a).2.2.2 x y = T x y) ∧ ∀ y, ¬ y = 0 → ¬ y = 2 → ¬ y = 5 → ¬ y = 6 → (ply PD np f i T n a).2.2.2 6 y = T 6 y
  | 0, _, _, _, _ => ⟨fun _ _ _ _ => rfl, fun _ _ _ _ _ => rfl⟩
  | f + 1, i, T, n, a => by
    unfold ply
    by_cases h1 : np ≤ i
    · rw [if_pos h1]; exact ⟨fun _ _ _ _ => rfl, fun _ _ _ _ _ => rfl⟩
    · rw [if_neg h1]
      by_cases h2 : wy T (kd (PD i)) (nb (PD (jx PD np i))) = 0
      · rw [if_pos h2]
        have ih := sm_ply PD np f (jx PD np i + 1) (acT T (kd (PD i)) (nb (PD (jx PD np i)))) (n + 1) (ast T (kd (PD i)) (nb (PD (jx PD np i))) n a)
        exact ⟨fun x y h0 h6 => (ih.1 x y h0 h6).trans (row_ac T _ _ x y h0 h6), fun y y0 y2 y5 y6 => (ih.2 y y0 y2 y5 y6).trans (sc_ac T _ _ y y0 y2 y5 y6)⟩
      · rw [if_neg h2]; exact ⟨fun _ _ _ _ => rfl, fun _ _ _ _ _ => rfl⟩
def aDone (PD : Nat → Nat) (np : Nat) (T : town) : Int32 := aBar PD np T (nI (plq PD np T).2.1)
def dnT (PD : Nat → Nat) (np : Nat) (T : town) : town := if flt PD np 0 false = none ∧ (plq PD np T).1 = none then (plq PD np T).2.2.2 else T
def dnP (PD : Nat → Nat) (np : Nat) (T : town) : Nat := if flt PD np 0 false = none ∧ (plq PD np T).1 = none then 0 else np
theorem dnT_y {PD : Nat → Nat} {np : Nat} {T : town} (h : okP PD np T) : dnT PD np T = (plq PD np T).2.2.2 := if_pos h
theorem dnT_n {PD : Nat → Nat} {np : Nat} {T : town} (h : ¬ okP PD np T) : dnT PD np T = T := if_neg h
theorem dnP_y {PD : Nat → Nat} {np : Nat} {T : town} (h : okP PD np T) : dnP PD np T = 0 := if_pos h
theorem dnP_n {PD : Nat → Nat} {np : Nat} {T : town} (h : ¬ okP PD np T) : dnP PD np T = np := if_neg h
section PLAYS
variable {A : Nat → List Int32} {I : Nat → Nat → Int32} {J : Nat → List Int64} {U : Nat → Nat → Int64} {T : town} {np : Nat} {PD : Nat → Nat} {km : Nat} {TI : Nat → town}
set_option maxHeartbeats 1000000 in
set_option maxRecDepth 20000 in
theorem v_knows (h : ci T np PD km TI A I J) (a : Int32) : AM m_V_knows r_V_knows (HH A I J U) [.ref 0, .int a] (pV T np PD km TI (.int (aKnows PD np T a)) A I J) := by
  obtain ⟨hT, hE, ⟨-, -, T0, hE2⟩, ⟨hp, hP, h30, h29⟩, -⟩ := id h
  refine am_of (by decide) rfl (by first | decide | exact Nat.le_of_ble_eq_true rfl) ?_
  refine aw_iload_n (pc := 0) d_V_knows_0 rfl rfl ?_
  refine aw_iconst (pc := 1) (v := 0) d_V_knows_1 (by decide) ?_
  refine aw_bipush (pc := 2) (v := 11) d_V_knows_2 (by decide) ?_
  refine aw_callS1 (pc := 4) (c_V_within _ _ _ _) ok_V_within d_V_knows_4 lm_V_50 rfl rfl ⟨by decide, by decide⟩ (Nat.le_of_ble_eq_true rfl) rfl rfl ⟨by decide, by decide⟩ ?_
  refine aw_bn (pc := 7) (tgt := 12) d_V_knows_7 (by decide) (fun h7 => ?_) (fun h7 => ?_)
  · obtain ⟨j, hj, rfl⟩ := rng 11 (by omega) h7
    have ea : aKnows PD np T (nI j) = aBar PD np T (nI ((plq PD np T).2.2.2 0 j)) := by unfold aKnows; rw [if_neg (fun z => z h7), nI_clamp (by omega)]
    by_cases hf : flt PD np 0 false = none
    · refine aw_aload_n (pc := 12) d_V_knows_12 rfl rfl ?_
      refine aw_get (pc := 13) d_V_knows_13 lf_V_28 hg_0 rfl ?_
      refine aw_aload_n (pc := 16) d_V_knows_16 rfl rfl ?_
      refine aw_get (pc := 17) d_V_knows_17 lf_V_10 hg_0 rfl ?_
      refine aw_aload_n (pc := 20) d_V_knows_20 rfl rfl ?_
      refine aw_get (pc := 21) d_V_knows_21 lf_V_22 hg_0 rfl ?_
      refine aw_callVq (pc := 24) (c_P_plays hT hE hE2 hp hP h30 h29 hf) ok_P_playsToTheEnd d_V_knows_24 lm_V_119 hg_29 rfl rfl ⟨by decide, by decide⟩ (Nat.le_of_ble_eq_true rfl) rfl rfl ⟨by decide, by decide⟩ (fun rr hh2 hq => ?_)
      obtain ⟨rfl, A1, I1, rfl, e1, -, -, -, -, e6, e7, e8⟩ := hq
      refine aw_bn (pc := 27) (tgt := 33) d_V_knows_27 (by decide) (fun h27 => ?_) (fun h27 => ?_)
      · refine aw_aload_n (pc := 33) d_V_knows_33 rfl rfl ?_
        refine aw_get (pc := 34) d_V_knows_34 lf_V_22 hg_0 rfl ?_
        refine aw_get (pc := 37) d_V_knows_37 lf_V_54 hg_22 rfl ?_
        refine aw_iload_n (pc := 40) d_V_knows_40 rfl rfl ?_
        refine aw_ildN (pc := 41) (j := j) d_V_knows_41 hg_23 e1.1.1 rfl (by omega) (by decide) ?_
        refine aw_iret (pc := 42) d_V_knows_42 rfl ?_
        exact ⟨by rw [ea, aBar_y _ ⟨hf, h27⟩], A1, I1, J, U, rfl, ci_22 h e7 e8 e6 e1, hi_of e7 e8 (by decide) (by decide)⟩
      · refine aw_bipush (pc := 30) (v := (-5)) d_V_knows_30 (by decide) ?_
        refine aw_iret (pc := 32) d_V_knows_32 rfl ?_
        exact ⟨by rw [ea, aBar_n _ (fun z => h27 z.2)], A1, I1, J, U, rfl, ci_22 h e7 e8 e6 e1, hi_of e7 e8 (by decide) (by decide)⟩
    · refine aw_aload_n (pc := 12) d_V_knows_12 rfl rfl ?_
      refine aw_get (pc := 13) d_V_knows_13 lf_V_28 hg_0 rfl ?_
      refine aw_aload_n (pc := 16) d_V_knows_16 rfl rfl ?_
      refine aw_get (pc := 17) d_V_knows_17 lf_V_10 hg_0 rfl ?_
      refine aw_aload_n (pc := 20) d_V_knows_20 rfl rfl ?_
      refine aw_get (pc := 21) d_V_knows_21 lf_V_22 hg_0 rfl ?_
      refine aw_callV1 (pc := 24) (c_P_plays_f hp hP h30 h29 hf) ok_P_playsToTheEnd d_V_knows_24 lm_V_119 hg_29 rfl rfl ⟨by decide, by decide⟩ (Nat.le_of_ble_eq_true rfl) rfl rfl ⟨by decide, by decide⟩ ?_
      refine aw_bn (pc := 27) (tgt := 33) d_V_knows_27 (by decide) (fun hh => absurd hh (fun z => z)) (fun _ => ?_)
      refine aw_bipush (pc := 30) (v := (-5)) d_V_knows_30 (by decide) ?_
      refine aw_iret (pc := 32) d_V_knows_32 rfl ?_
      rw [ea, aBar_n _ (fun z => hf z.1)]
      exact pV_r h _
  · have _ := h7
    refine aw_iconst (pc := 10) (v := (-1)) d_V_knows_10 (by decide) ?_
    refine aw_iret (pc := 11) d_V_knows_11 rfl ?_
    exact ⟨by unfold aKnows; rw [if_pos h7], A, I, J, U, rfl, h, hi_r⟩
set_option maxHeartbeats 1000000 in
set_option maxRecDepth 20000 in
theorem v_behind (h : ci T np PD km TI A I J) (w : Int32) : AM m_V_behind r_V_behind (HH A I J U) [.ref 0, .int w] (pV T np PD km TI (.int (aBehind PD np T w)) A I J) := by
  obtain ⟨hT, hE, ⟨-, -, T0, hE2⟩, ⟨hp, hP, h30, h29⟩, -⟩ := id h
  refine am_of (by decide) rfl (by first | decide | exact Nat.le_of_ble_eq_true rfl) ?_
  refine aw_iload_n (pc := 0) d_V_behind_0 rfl rfl ?_
  refine aw_iconst (pc := 1) (v := 0) d_V_behind_1 (by decide) ?_
  refine aw_iconst (pc := 2) (v := 3) d_V_behind_2 (by decide) ?_
  refine aw_callS1 (pc := 3) (c_V_within _ _ _ _) ok_V_within d_V_behind_3 lm_V_50 rfl rfl ⟨by decide, by decide⟩ (Nat.le_of_ble_eq_true rfl) rfl rfl ⟨by decide, by decide⟩ ?_
  refine aw_bn (pc := 6) (tgt := 12) d_V_behind_6 (by decide) (fun h6 => ?_) (fun h6 => ?_)
  · have ea : ∀ v, (if w = 0 then nI ((plq PD np T).2.2.2 6 5) else if w = 1 then nI ((plq PD np T).2.2.2 6 6) else if w = 2 then nI ((plq PD np T).2.2.2 6 2) else oI (plq PD np T).2.2.1) = v → aBehind PD np T w = aBar PD np T v := fun v hv => by unfold aBehind; rw [if_neg (fun z => z h6), hv]
    by_cases hf : flt PD np 0 false = none
    · refine aw_aload_n (pc := 12) d_V_behind_12 rfl rfl ?_
      refine aw_get (pc := 13) d_V_behind_13 lf_V_28 hg_0 rfl ?_
      refine aw_aload_n (pc := 16) d_V_behind_16 rfl rfl ?_
      refine aw_get (pc := 17) d_V_behind_17 lf_V_10 hg_0 rfl ?_
      refine aw_aload_n (pc := 20) d_V_behind_20 rfl rfl ?_
      refine aw_get (pc := 21) d_V_behind_21 lf_V_22 hg_0 rfl ?_
      refine aw_callVq (pc := 24) (c_P_plays hT hE hE2 hp hP h30 h29 hf) ok_P_playsToTheEnd d_V_behind_24 lm_V_119 hg_29 rfl rfl ⟨by decide, by decide⟩ (Nat.le_of_ble_eq_true rfl) rfl rfl ⟨by decide, by decide⟩ (fun rr hh2 hq => ?_)
      obtain ⟨rfl, A1, I1, rfl, e1, -, -, -, e5, e6, e7, e8⟩ := hq
      have hc := ci_22 h e7 e8 e6 e1
      have hh : hi A A1 I I1 J J := hi_of e7 e8 (by decide) (by decide)
      refine aw_bn (pc := 27) (tgt := 33) d_V_behind_27 (by decide) (fun h27 => ?_) (fun h27 => ?_)
      · have ho : okP PD np T := ⟨hf, h27⟩
        refine aw_iload_n (pc := 33) d_V_behind_33 rfl rfl ?_
        refine aw_if_ne (pc := 34) (tgt := 45) d_V_behind_34 (by decide) (fun h34 => ?_) (fun h34 => ?_)
        · refine aw_iload_n (pc := 45) d_V_behind_45 rfl rfl ?_
          refine aw_iconst (pc := 46) (v := 1) d_V_behind_46 (by decide) ?_
          refine aw_icmp_ne (pc := 47) (tgt := 58) d_V_behind_47 (by decide) (fun h47 => ?_) (fun h47 => ?_)
          · refine aw_iload_n (pc := 58) d_V_behind_58 rfl rfl ?_
            refine aw_iconst (pc := 59) (v := 2) d_V_behind_59 (by decide) ?_
            refine aw_icmp_ne (pc := 60) (tgt := 71) d_V_behind_60 (by decide) (fun h60 => ?_) (fun h60 => ?_)
            · refine aw_aload_n (pc := 71) d_V_behind_71 rfl rfl ?_
              refine aw_get (pc := 72) d_V_behind_72 lf_V_28 hg_0 rfl ?_
              refine aw_geti (pc := 75) (y := (oI (plq PD np T).2.2.1)) d_V_behind_75 lf_V_139 hg_29 rfl e5 ?_
              refine aw_iret (pc := 78) d_V_behind_78 rfl ?_
              exact ⟨by rw [ea _ (by rw [if_neg h34, if_neg h47, if_neg h60]), aBar_y _ ho], A1, I1, J, U, rfl, hc, hh⟩
            · refine aw_aload_n (pc := 63) d_V_behind_63 rfl rfl ?_
              refine aw_get (pc := 64) d_V_behind_64 lf_V_22 hg_0 rfl ?_
              refine aw_geti (pc := 67) (y := (nI ((plq PD np T).2.2.2 6 2))) d_V_behind_67 lf_V_102 hg_22 rfl e1.2.2.2.1 ?_
              refine aw_iret (pc := 70) d_V_behind_70 rfl ?_
              exact ⟨by rw [ea _ (by rw [if_neg h34, if_neg h47, if_pos h60]), aBar_y _ ho], A1, I1, J, U, rfl, hc, hh⟩
          · refine aw_aload_n (pc := 50) d_V_behind_50 rfl rfl ?_
            refine aw_get (pc := 51) d_V_behind_51 lf_V_22 hg_0 rfl ?_
            refine aw_geti (pc := 54) (y := (nI ((plq PD np T).2.2.2 6 6))) d_V_behind_54 lf_V_136 hg_22 rfl e1.2.2.2.2.2.2.2.1 ?_
            refine aw_iret (pc := 57) d_V_behind_57 rfl ?_
            exact ⟨by rw [ea _ (by rw [if_neg h34, if_pos h47]), aBar_y _ ho], A1, I1, J, U, rfl, hc, hh⟩
        · refine aw_aload_n (pc := 37) d_V_behind_37 rfl rfl ?_
          refine aw_get (pc := 38) d_V_behind_38 lf_V_22 hg_0 rfl ?_
          refine aw_geti (pc := 41) (y := (nI ((plq PD np T).2.2.2 6 5))) d_V_behind_41 lf_V_87 hg_22 rfl e1.2.2.2.2.2.2.1 ?_
          refine aw_iret (pc := 44) d_V_behind_44 rfl ?_
          exact ⟨by rw [ea _ (by rw [if_pos h34]), aBar_y _ ho], A1, I1, J, U, rfl, hc, hh⟩
      · refine aw_bipush (pc := 30) (v := (-5)) d_V_behind_30 (by decide) ?_
        refine aw_iret (pc := 32) d_V_behind_32 rfl ?_
        exact ⟨by rw [ea _ rfl, aBar_n _ (fun z => h27 z.2)], A1, I1, J, U, rfl, hc, hh⟩
    · refine aw_aload_n (pc := 12) d_V_behind_12 rfl rfl ?_
      refine aw_get (pc := 13) d_V_behind_13 lf_V_28 hg_0 rfl ?_
      refine aw_aload_n (pc := 16) d_V_behind_16 rfl rfl ?_
      refine aw_get (pc := 17) d_V_behind_17 lf_V_10 hg_0 rfl ?_
      refine aw_aload_n (pc := 20) d_V_behind_20 rfl rfl ?_
      refine aw_get (pc := 21) d_V_behind_21 lf_V_22 hg_0 rfl ?_
      refine aw_callV1 (pc := 24) (c_P_plays_f hp hP h30 h29 hf) ok_P_playsToTheEnd d_V_behind_24 lm_V_119 hg_29 rfl rfl ⟨by decide, by decide⟩ (Nat.le_of_ble_eq_true rfl) rfl rfl ⟨by decide, by decide⟩ ?_
      refine aw_bn (pc := 27) (tgt := 33) d_V_behind_27 (by decide) (fun hh => absurd hh (fun z => z)) (fun _ => ?_)
      refine aw_bipush (pc := 30) (v := (-5)) d_V_behind_30 (by decide) ?_
      refine aw_iret (pc := 32) d_V_behind_32 rfl ?_
      rw [ea _ rfl, aBar_n _ (fun z => hf z.1)]
      exact pV_r h _
  · refine aw_bipush (pc := 9) (v := (-2)) d_V_behind_9 (by decide) ?_
    refine aw_iret (pc := 11) d_V_behind_11 rfl ?_
    exact ⟨by unfold aBehind; rw [if_pos h6], A, I, J, U, rfl, h, hi_r⟩
set_option maxHeartbeats 1000000 in
set_option maxRecDepth 20000 in
theorem v_judge (h : ci T np PD km TI A I J) (w : Int32) : AM m_V_judge r_V_judge (HH A I J U) [.ref 0, .int w] (pV T np PD km TI (.int (aJudge PD np T w)) A I J) := by
  obtain ⟨hT, hE, ⟨-, -, T0, hE2⟩, ⟨hp, hP, h30, h29⟩, -⟩ := id h
  have hl : ∀ n, flt PD np 0 false = some n → n < 1000 := fun n hn => by have := flt_lt hn; omega
  refine am_of (by decide) rfl (by first | decide | exact Nat.le_of_ble_eq_true rfl) ?_
  refine aw_iload_n (pc := 0) d_V_judge_0 rfl rfl ?_
  refine aw_iconst (pc := 1) (v := 0) d_V_judge_1 (by decide) ?_
  refine aw_iconst (pc := 2) (v := 1) d_V_judge_2 (by decide) ?_
  refine aw_callS1 (pc := 3) (c_V_within _ _ _ _) ok_V_within d_V_judge_3 lm_V_50 rfl rfl ⟨by decide, by decide⟩ (Nat.le_of_ble_eq_true rfl) rfl rfl ⟨by decide, by decide⟩ ?_
  refine aw_bn (pc := 6) (tgt := 12) d_V_judge_6 (by decide) (fun h6 => ?_) (fun h6 => ?_)
  · by_cases hf : flt PD np 0 false = none
    · refine aw_aload_n (pc := 12) d_V_judge_12 rfl rfl ?_
      refine aw_get (pc := 13) d_V_judge_13 lf_V_28 hg_0 rfl ?_
      refine aw_callV1 (pc := 16) (c_P_faultPlace hp hP h30 h29) ok_P_faultPlace d_V_judge_16 lm_V_116 hg_29 rfl rfl ⟨by decide, by decide⟩ (Nat.le_of_ble_eq_true rfl) rfl rfl ⟨by decide, by decide⟩ ?_
      refine aw_bipush (pc := 19) (v := (-6)) d_V_judge_19 (by decide) ?_
      refine aw_icmp_eq (pc := 21) (tgt := 27) d_V_judge_21 (by decide) (fun _ => ?_) (fun hh => absurd ((oI_m6 hl).mpr hf) hh)
      refine aw_aload_n (pc := 27) d_V_judge_27 rfl rfl ?_
      refine aw_get (pc := 28) d_V_judge_28 lf_V_28 hg_0 rfl ?_
      refine aw_aload_n (pc := 31) d_V_judge_31 rfl rfl ?_
      refine aw_get (pc := 32) d_V_judge_32 lf_V_10 hg_0 rfl ?_
      refine aw_aload_n (pc := 35) d_V_judge_35 rfl rfl ?_
      refine aw_get (pc := 36) d_V_judge_36 lf_V_22 hg_0 rfl ?_
      refine aw_callVq (pc := 39) (c_P_plays hT hE hE2 hp hP h30 h29 hf) ok_P_playsToTheEnd d_V_judge_39 lm_V_119 hg_29 rfl rfl ⟨by decide, by decide⟩ (Nat.le_of_ble_eq_true rfl) rfl rfl ⟨by decide, by decide⟩ (fun rr hh2 hq => ?_)
      obtain ⟨rfl, A1, I1, rfl, e1, -, e3, e4, -, e6, e7, e8⟩ := hq
      have hc := ci_22 h e7 e8 e6 e1
      have hh : hi A A1 I I1 J J := hi_of e7 e8 (by decide) (by decide)
      refine aw_pop (pc := 42) d_V_judge_42 rfl ?_
      refine aw_iload_n (pc := 43) d_V_judge_43 rfl rfl ?_
      refine aw_if_ne (pc := 44) (tgt := 57) d_V_judge_44 (by decide) (fun h44 => ?_) (fun h44 => ?_)
      · refine aw_aload_n (pc := 57) d_V_judge_57 rfl rfl ?_
        refine aw_get (pc := 58) d_V_judge_58 lf_V_28 hg_0 rfl ?_
        refine aw_geti (pc := 61) (y := (whI (plq PD np T).1)) d_V_judge_61 lf_V_126 hg_29 rfl e4 ?_
        refine aw_iret (pc := 64) d_V_judge_64 rfl ?_
        exact ⟨by unfold aJudge; rw [if_neg (fun z => z h6), if_neg (fun z => z hf), if_neg h44], A1, I1, J, U, rfl, hc, hh⟩
      · refine aw_aload_n (pc := 47) d_V_judge_47 rfl rfl ?_
        refine aw_get (pc := 48) d_V_judge_48 lf_V_28 hg_0 rfl ?_
        refine aw_geti (pc := 51) (y := (stI (plq PD np T).1)) d_V_judge_51 lf_V_123 hg_29 rfl e3 ?_
        refine aw_goto (pc := 54) (tgt := 64) d_V_judge_54 (by decide) ?_
        refine aw_iret (pc := 64) d_V_judge_64 rfl ?_
        exact ⟨by unfold aJudge; rw [if_neg (fun z => z h6), if_neg (fun z => z hf), if_pos h44], A1, I1, J, U, rfl, hc, hh⟩
    · refine aw_aload_n (pc := 12) d_V_judge_12 rfl rfl ?_
      refine aw_get (pc := 13) d_V_judge_13 lf_V_28 hg_0 rfl ?_
      refine aw_callV1 (pc := 16) (c_P_faultPlace hp hP h30 h29) ok_P_faultPlace d_V_judge_16 lm_V_116 hg_29 rfl rfl ⟨by decide, by decide⟩ (Nat.le_of_ble_eq_true rfl) rfl rfl ⟨by decide, by decide⟩ ?_
      refine aw_bipush (pc := 19) (v := (-6)) d_V_judge_19 (by decide) ?_
      refine aw_icmp_eq (pc := 21) (tgt := 27) d_V_judge_21 (by decide) (fun hh => absurd hh (fun z => hf ((oI_m6 hl).mp z))) (fun _ => ?_)
      refine aw_bipush (pc := 24) (v := (-5)) d_V_judge_24 (by decide) ?_
      refine aw_iret (pc := 26) d_V_judge_26 rfl ?_
      exact ⟨by unfold aJudge; rw [if_neg (fun z => z h6), if_pos hf], A, I, J, U, rfl, h, hi_r⟩
  · refine aw_bipush (pc := 9) (v := (-2)) d_V_judge_9 (by decide) ?_
    refine aw_iret (pc := 11) d_V_judge_11 rfl ?_
    exact ⟨by unfold aJudge; rw [if_pos h6], A, I, J, U, rfl, h, hi_r⟩
set_option maxHeartbeats 1000000 in
set_option maxRecDepth 20000 in
theorem n_judge (h : mi T np PD km TI A I J) (w : Int32) : AM m_M_judge r_M_judge (HH A I J U) [.ref 36, .int w] (pN T np PD km TI (.int (aJudge PD np T w)) A I J) := by
  obtain ⟨hT, hE, ⟨h38, h43, -⟩, ⟨hp, hP, h42, h36⟩, -⟩ := id h
  have hl : ∀ n, flt PD np 0 false = some n → n < 1000 := fun n hn => by have := flt_lt hn; omega
  refine am_of (by decide) rfl (by first | decide | exact Nat.le_of_ble_eq_true rfl) ?_
  refine aw_iload_n (pc := 0) d_M_judge_0 rfl rfl ?_
  refine aw_iconst (pc := 1) (v := 0) d_M_judge_1 (by decide) ?_
  refine aw_iconst (pc := 2) (v := 1) d_M_judge_2 (by decide) ?_
  refine aw_callS1 (pc := 3) (c_M_in _ _ _ _) ok_M_in d_M_judge_3 lm_M_52 rfl rfl ⟨by decide, by decide⟩ (Nat.le_of_ble_eq_true rfl) rfl rfl ⟨by decide, by decide⟩ ?_
  refine aw_bn (pc := 6) (tgt := 12) d_M_judge_6 (by decide) (fun h6 => ?_) (fun h6 => ?_)
  · by_cases hf : flt PD np 0 false = none
    · refine aw_aload_n (pc := 12) d_M_judge_12 rfl rfl ?_
      refine aw_callV1 (pc := 13) (c_M_faultOf hp hP h42 h36) ok_M_faultOf d_M_judge_13 lm_M_69 hg_36 rfl rfl ⟨by decide, by decide⟩ (Nat.le_of_ble_eq_true rfl) rfl rfl ⟨by decide, by decide⟩ ?_
      refine aw_if_lt (pc := 16) (tgt := 22) d_M_judge_16 (by decide) (fun _ => ?_) (fun hh => absurd (by rw [hf]; decide) hh)
      refine aw_aload_n (pc := 22) d_M_judge_22 rfl rfl ?_
      refine aw_callVq (pc := 23) (c_M_goDays hT hE h38 h43 hp hP h42 h36 hf) ok_M_goDays d_M_judge_23 lm_M_110 hg_36 rfl rfl ⟨by decide, by decide⟩ (Nat.le_of_ble_eq_true rfl) rfl rfl ⟨by decide, by decide⟩ (fun rr hh2 hq => ?_)
      obtain ⟨rfl, A1, I1, rfl, e1, e2, e3, e4, e5, e6, e7⟩ := hq
      have hc := mi_D h e6 e7 ⟨_, e1⟩ e2
      have hh : lo A A1 I I1 J J := lo_N e6 e7 (by decide)
      cases hz : (plq PD np T).1 with
      | none =>
        refine aw_istore_n (pc := 26) (ls' := [(0, _), (1, _), (2, _)]) d_M_judge_26 rfl (by decide) rfl ?_
        refine aw_iload_n (pc := 27) d_M_judge_27 rfl rfl ?_
        refine aw_if_lt (pc := 28) (tgt := 35) d_M_judge_28 (by decide) (fun _ => ?_) (fun hh => absurd (by decide) hh)
        refine aw_iload_n (pc := 35) d_M_judge_35 rfl rfl ?_
        refine aw_goto (pc := 36) (tgt := 43) d_M_judge_36 (by decide) ?_
        refine aw_iret (pc := 43) d_M_judge_43 rfl ?_
        refine ⟨?_, A1, I1, J, U, rfl, hc, hh⟩
        unfold aJudge
        rw [if_neg (fun z => z h6), if_neg (fun z => z hf), hz]
        split <;> rfl
      | some z =>
        have hb := ply_n PD np np 0 T 0 none z hz
        have h13 := e5 z hz
        refine aw_istore_n (pc := 26) (ls' := [(0, _), (1, _), (2, _)]) d_M_judge_26 rfl (by decide) rfl ?_
        refine aw_iload_n (pc := 27) d_M_judge_27 rfl rfl ?_
        refine aw_if_lt (pc := 28) (tgt := 35) d_M_judge_28 (by decide) (fun hh => absurd hh (fun q => absurd (nI_pos' (n := z.1) (by omega)) (Int32.not_le.mpr q))) (fun _ => ?_)
        refine aw_iload_n (pc := 31) d_M_judge_31 rfl rfl ?_
        refine aw_if_ne (pc := 32) (tgt := 39) d_M_judge_32 (by decide) (fun h32 => ?_) (fun h32 => ?_)
        · refine aw_aload_n (pc := 39) d_M_judge_39 rfl rfl ?_
          refine aw_geti (pc := 40) (y := (nI z.2)) d_M_judge_40 lf_M_97 hg_36 rfl h13 ?_
          refine aw_iret (pc := 43) d_M_judge_43 rfl ?_
          exact ⟨by unfold aJudge; rw [if_neg (fun z => z h6), if_neg (fun z => z hf), if_neg h32, hz]; rfl, A1, I1, J, U, rfl, hc, hh⟩
        · refine aw_iload_n (pc := 35) d_M_judge_35 rfl rfl ?_
          refine aw_goto (pc := 36) (tgt := 43) d_M_judge_36 (by decide) ?_
          refine aw_iret (pc := 43) d_M_judge_43 rfl ?_
          exact ⟨by unfold aJudge; rw [if_neg (fun z => z h6), if_neg (fun z => z hf), if_pos h32, hz], A1, I1, J, U, rfl, hc, hh⟩
    · refine aw_aload_n (pc := 12) d_M_judge_12 rfl rfl ?_
      refine aw_callV1 (pc := 13) (c_M_faultOf hp hP h42 h36) ok_M_faultOf d_M_judge_13 lm_M_69 hg_36 rfl rfl ⟨by decide, by decide⟩ (Nat.le_of_ble_eq_true rfl) rfl rfl ⟨by decide, by decide⟩ ?_
      refine aw_if_lt (pc := 16) (tgt := 22) d_M_judge_16 (by decide) (fun hh => absurd hh (Int32.not_lt.mpr ((oI_neg hl).mpr hf))) (fun _ => ?_)
      refine aw_bipush (pc := 19) (v := (-5)) d_M_judge_19 (by decide) ?_
      refine aw_iret (pc := 21) d_M_judge_21 rfl ?_
      exact ⟨by unfold aJudge; rw [if_neg (fun z => z h6), if_pos hf], A, I, J, U, rfl, h, lo_r⟩
  · refine aw_bipush (pc := 9) (v := (-2)) d_M_judge_9 (by decide) ?_
    refine aw_iret (pc := 11) d_M_judge_11 rfl ?_
    exact ⟨by unfold aJudge; rw [if_pos h6], A, I, J, U, rfl, h, lo_r⟩
end PLAYS

