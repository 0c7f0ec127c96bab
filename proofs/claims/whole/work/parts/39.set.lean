/-! set, say, wipe, fault: both sides -/
def aSet (T : town) (w v : Int32) : Int32 := if w = 0 ∧ 1 ≤ v ∧ v ≤ 40 then nI (T 6 3) else if w = 1 ∧ -3 ≤ v ∧ v ≤ 3 then nI (T 6 4) - 3 + 3 else if w = 2 ∧ 0 ≤ v ∧ v ≤ 11 then nI (T 6 5) else -2
def seT (T : town) (w v : Int32) : town := if w = 0 ∧ 1 ≤ v ∧ v ≤ 40 then u2 T 6 3 v.toNatClampNeg else if w = 1 ∧ -3 ≤ v ∧ v ≤ 3 then u2 T 6 4 (v.toInt + 3).toNat else if w = 2 ∧ 0 ≤ v ∧ v ≤ 11 then u2 T 6 5 v.toNatClampNeg else T
theorem wnd {v : Int32} (h : -3 ≤ v ∧ v ≤ 3) : (v.toInt + 3).toNat ≤ 6 ∧ v = nI (v.toInt + 3).toNat - 3 := by
  have h1 : (-3 : Int32).toInt ≤ v.toInt := (fa_le _ _).mp h.1
  have h2 : v.toInt ≤ (3 : Int32).toInt := (fa_le _ _).mp h.2
  have h3 : (-3 : Int) ≤ v.toInt := h1
  have h4 : v.toInt ≤ (3 : Int) := h2
  refine ⟨by omega, ?_⟩
  rw [zI_nI, show (3 : Int32) = zI 3 from rfl, zI_sub, show ((v.toInt + 3).toNat : Int) - 3 = v.toInt by omega]
  exact (Int32.ofInt_toInt v).symm
theorem clp {v : Int32} {n : Nat} (hn : n < 2 ^ 31) (h : 0 ≤ v ∧ v ≤ nI n) : v.toNatClampNeg ≤ n ∧ v = nI v.toNatClampNeg := by
  obtain ⟨j, hj, rfl⟩ := rng n hn h
  rw [nI_clamp (by omega)]
  exact ⟨hj, rfl⟩
theorem clp1 {v : Int32} (h : 1 ≤ v ∧ v ≤ 40) : (1 ≤ v.toNatClampNeg ∧ v.toNatClampNeg ≤ 40) ∧ v = nI v.toNatClampNeg := by
  obtain ⟨j, hj, rfl⟩ := rng 40 (by omega) ⟨Int32.le_trans (by decide) h.1, h.2⟩
  rw [nI_clamp (by omega)]
  exact ⟨⟨(nI_leI (a := 1) (by omega) (by omega)).mp h.1, hj⟩, rfl⟩
theorem ok_s3 {T : town} (hT : okT T) {n : Nat} (hn : 1 ≤ n ∧ n ≤ 40) : okT (u2 T 6 3 n) := by
  obtain ⟨h0, h1, h2, h3, h4, h5, h6, h7⟩ := hT
  exact ⟨h0, h1, h2, h3, h4, h5, hn, h7⟩
theorem ok_s4 {T : town} (hT : okT T) {n : Nat} (hn : n ≤ 6) : okT (u2 T 6 4 n) := by
  obtain ⟨h0, h1, h2, h3, h4, h5, h6, h7, h8⟩ := hT
  exact ⟨h0, h1, h2, h3, h4, h5, h6, hn, h8⟩
theorem u6_r (T : town) (k n x y : Nat) (h : ¬ x = 6) : u2 T 6 k n x y = T x y := if_neg h
theorem lst_lt6 {T : town} {k n : Nat} {xs : List Int32} (h : xs = lst 24 (lt T)) : xs = lst 24 (lt (u2 T 6 k n)) := h.trans (lst_cong (lt_row (fun x y _ _ => u6_r T k n x y (by omega))))
theorem lst_sg6 {T : town} {k n : Nat} {xs : List Int32} (h : xs = lst 16 (sg T)) : xs = lst 16 (sg (u2 T 6 k n)) := h.trans (lst_cong (sg_row (fun x y _ _ => u6_r T k n x y (by omega))))
theorem bk_s3 (T : town) (n : Nat) : bk (u2 T 6 3 n) = bk T := by
  funext j; unfold bk; rfl
theorem bk_s4 (T : town) (n : Nat) : bk (u2 T 6 4 n) = bk T := by
  funext j; unfold bk; rfl
def aSay (np : Nat) (s : Int32) : Int32 := if ¬ (33 ≤ s ∧ s ≤ 126) then -2 else if np = 60 then -4 else nI (np + 1)
def syN (np : Nat) (s : Int32) : Nat := if (33 ≤ s ∧ s ≤ 126) ∧ ¬ np = 60 then np + 1 else np
def syP (np : Nat) (PD : Nat → Nat) (s : Int32) : Nat → Nat := if (33 ≤ s ∧ s ≤ 126) ∧ ¬ np = 60 then up PD np s.toNatClampNeg else PD
theorem clp33 {v : Int32} (h : 33 ≤ v ∧ v ≤ 126) : v.toNatClampNeg ≤ 126 ∧ v = nI v.toNatClampNeg := clp (n := 126) (by omega) ⟨Int32.le_trans (by decide) h.1, h.2⟩
section SET
variable {A : Nat → List Int32} {I : Nat → Nat → Int32} {J : Nat → List Int64} {U : Nat → Nat → Int64} {T : town} {np : Nat} {PD : Nat → Nat} {km : Nat} {TI : Nat → town}
def psV (c : Prop) [Decidable c] (T' T : town) (np : Nat) (PD : Nat → Nat) (km : Nat) (TI : Nat → town) (v : Int32) (A : Nat → List Int32) (I : Nat → Nat → Int32) (J : Nat → List Int64) : Option Value → ax_H → Prop := pV (if c then T' else T) np PD km TI (.int (if c then v else -2)) A I J
set_option maxHeartbeats 1000000 in
set_option maxRecDepth 20000 in
theorem c_V_setVoice (h : ci T np PD km TI A I J) (v : Int32) : AM m_V_setVoice r_V_setVoice (HH A I J U) [.ref 0, .int v] (psV (1 ≤ v ∧ v ≤ 40) (u2 T 6 3 v.toNatClampNeg) T np PD km TI (nI (T 6 3)) A I J) := by
  obtain ⟨hT, hE, -⟩ := id h
  refine am_of (by decide) rfl (by first | decide | exact Nat.le_of_ble_eq_true rfl) ?_
  refine aw_iload_n (pc := 0) d_V_setVoice_0 rfl rfl ?_
  refine aw_iconst (pc := 1) (v := 1) d_V_setVoice_1 (by decide) ?_
  refine aw_bipush (pc := 2) (v := 40) d_V_setVoice_2 (by decide) ?_
  refine aw_callS1 (pc := 4) (c_V_within _ _ _ _) ok_V_within d_V_setVoice_4 lm_V_50 rfl rfl ⟨by decide, by decide⟩ (Nat.le_of_ble_eq_true rfl) rfl rfl ⟨by decide, by decide⟩ ?_
  refine aw_bn (pc := 7) (tgt := 13) d_V_setVoice_7 (by decide) (fun h7 => ?_) (fun h7 => ?_)
  · obtain ⟨⟨a1, a2, a3, a4, a5, a6⟩, b6, b7, b8, b9, b10, b11, b12, b13, b14, b15⟩ := hE
    refine aw_aload_n (pc := 13) d_V_setVoice_13 rfl rfl ?_
    refine aw_get (pc := 14) d_V_setVoice_14 lf_V_10 hg_0 rfl ?_
    refine aw_geti (pc := 17) (y := (nI (T 6 3))) d_V_setVoice_17 lf_V_81 hg_1 rfl b9 ?_
    refine aw_istore_n (pc := 20) (ls' := [(0, _), (1, _), (2, _)]) d_V_setVoice_20 rfl (by decide) rfl ?_
    refine aw_aload_n (pc := 21) d_V_setVoice_21 rfl rfl ?_
    refine aw_get (pc := 22) d_V_setVoice_22 lf_V_10 hg_0 rfl ?_
    refine aw_iload_n (pc := 25) d_V_setVoice_25 rfl rfl ?_
    refine aw_put (pc := 26) d_V_setVoice_26 lp_V_81 hg_1 (ft_int _) (Nat.le_of_ble_eq_true rfl) (hp_1_9 _) ?_
    refine aw_iload_n (pc := 29) d_V_setVoice_29 rfl rfl ?_
    refine aw_iret (pc := 30) d_V_setVoice_30 rfl ?_
    unfold psV
    rw [if_pos h7, if_pos h7]
    exact ⟨rfl, _, _, _, _, rfl, ci_1 h (frA_r _ _) (frI_u _ _ _ _ (by decide)) ⟨⟨a1, a2, a3, a4, a5, a6⟩, b6, b7, b8, (clp1 h7).2, b10, b11, b12, b13, b14, b15⟩ (ok_s3 hT (clp1 h7).1), hi_of (frA_r _ []) (frI_u _ _ _ _ (List.mem_singleton.mpr rfl)) (by decide) (by decide)⟩
  · refine aw_bipush (pc := 10) (v := (-2)) d_V_setVoice_10 (by decide) ?_
    refine aw_iret (pc := 12) d_V_setVoice_12 rfl ?_
    unfold psV
    rw [if_neg h7, if_neg h7]
    exact pV_r h _
set_option maxHeartbeats 1000000 in
set_option maxRecDepth 20000 in
theorem c_V_setWind (h : ci T np PD km TI A I J) (v : Int32) : AM m_V_setWind r_V_setWind (HH A I J U) [.ref 0, .int v] (psV (-3 ≤ v ∧ v ≤ 3) (u2 T 6 4 (v.toInt + 3).toNat) T np PD km TI (nI (T 6 4) - 3 + 3) A I J) := by
  obtain ⟨hT, hE, -⟩ := id h
  refine am_of (by decide) rfl (by first | decide | exact Nat.le_of_ble_eq_true rfl) ?_
  refine aw_iload_n (pc := 0) d_V_setWind_0 rfl rfl ?_
  refine aw_bipush (pc := 1) (v := (-3)) d_V_setWind_1 (by decide) ?_
  refine aw_iconst (pc := 3) (v := 3) d_V_setWind_3 (by decide) ?_
  refine aw_callS1 (pc := 4) (c_V_within _ _ _ _) ok_V_within d_V_setWind_4 lm_V_50 rfl rfl ⟨by decide, by decide⟩ (Nat.le_of_ble_eq_true rfl) rfl rfl ⟨by decide, by decide⟩ ?_
  refine aw_bn (pc := 7) (tgt := 13) d_V_setWind_7 (by decide) (fun h7 => ?_) (fun h7 => ?_)
  · obtain ⟨⟨a1, a2, a3, a4, a5, a6⟩, b6, b7, b8, b9, b10, b11, b12, b13, b14, b15⟩ := hE
    refine aw_aload_n (pc := 13) d_V_setWind_13 rfl rfl ?_
    refine aw_get (pc := 14) d_V_setWind_14 lf_V_10 hg_0 rfl ?_
    refine aw_geti (pc := 17) (y := (nI (T 6 4) - 3)) d_V_setWind_17 lf_V_84 hg_1 rfl b10 ?_
    refine aw_istore_n (pc := 20) (ls' := [(0, _), (1, _), (2, _)]) d_V_setWind_20 rfl (by decide) rfl ?_
    refine aw_aload_n (pc := 21) d_V_setWind_21 rfl rfl ?_
    refine aw_get (pc := 22) d_V_setWind_22 lf_V_10 hg_0 rfl ?_
    refine aw_iload_n (pc := 25) d_V_setWind_25 rfl rfl ?_
    refine aw_put (pc := 26) d_V_setWind_26 lp_V_84 hg_1 (ft_int _) (Nat.le_of_ble_eq_true rfl) (hp_1_10 _) ?_
    refine aw_iload_n (pc := 29) d_V_setWind_29 rfl rfl ?_
    refine aw_iconst (pc := 30) (v := 3) d_V_setWind_30 (by decide) ?_
    refine aw_iadd (pc := 31) d_V_setWind_31 ?_
    refine aw_iret (pc := 32) d_V_setWind_32 rfl ?_
    unfold psV
    rw [if_pos h7, if_pos h7]
    exact ⟨rfl, _, _, _, _, rfl, ci_1 h (frA_r _ _) (frI_u _ _ _ _ (by decide)) ⟨⟨a1, a2, a3, a4, a5, a6⟩, b6, b7, b8, b9, (wnd h7).2, b11, b12, b13, b14, b15⟩ (ok_s4 hT (wnd h7).1), hi_of (frA_r _ []) (frI_u _ _ _ _ (List.mem_singleton.mpr rfl)) (by decide) (by decide)⟩
  · refine aw_bipush (pc := 10) (v := (-2)) d_V_setWind_10 (by decide) ?_
    refine aw_iret (pc := 12) d_V_setWind_12 rfl ?_
    unfold psV
    rw [if_neg h7, if_neg h7]
    exact pV_r h _
set_option maxHeartbeats 1000000 in
set_option maxRecDepth 20000 in
theorem c_V_setPlace (h : ci T np PD km TI A I J) (v : Int32) : AM m_V_setPlace r_V_setPlace (HH A I J U) [.ref 0, .int v] (psV (0 ≤ v ∧ v ≤ 11) (u2 T 6 5 v.toNatClampNeg) T np PD km TI (nI (T 6 5)) A I J) := by
  obtain ⟨hT, hE, -⟩ := id h
  refine am_of (by decide) rfl (by first | decide | exact Nat.le_of_ble_eq_true rfl) ?_
  refine aw_iload_n (pc := 0) d_V_setPlace_0 rfl rfl ?_
  refine aw_iconst (pc := 1) (v := 0) d_V_setPlace_1 (by decide) ?_
  refine aw_bipush (pc := 2) (v := 11) d_V_setPlace_2 (by decide) ?_
  refine aw_callS1 (pc := 4) (c_V_within _ _ _ _) ok_V_within d_V_setPlace_4 lm_V_50 rfl rfl ⟨by decide, by decide⟩ (Nat.le_of_ble_eq_true rfl) rfl rfl ⟨by decide, by decide⟩ ?_
  refine aw_bn (pc := 7) (tgt := 13) d_V_setPlace_7 (by decide) (fun h7 => ?_) (fun h7 => ?_)
  · obtain ⟨⟨a1, a2, a3, a4, a5, a6⟩, b6, b7, b8, b9, b10, b11, b12, b13, b14, b15⟩ := hE
    have hc := clp (n := 11) (by omega) h7
    refine aw_aload_n (pc := 13) d_V_setPlace_13 rfl rfl ?_
    refine aw_get (pc := 14) d_V_setPlace_14 lf_V_10 hg_0 rfl ?_
    refine aw_geti (pc := 17) (y := (nI (T 6 5))) d_V_setPlace_17 lf_V_87 hg_1 rfl b11 ?_
    refine aw_istore_n (pc := 20) (ls' := [(0, _), (1, _), (2, _)]) d_V_setPlace_20 rfl (by decide) rfl ?_
    refine aw_aload_n (pc := 21) d_V_setPlace_21 rfl rfl ?_
    refine aw_get (pc := 22) d_V_setPlace_22 lf_V_10 hg_0 rfl ?_
    refine aw_iload_n (pc := 25) d_V_setPlace_25 rfl rfl ?_
    refine aw_put (pc := 26) d_V_setPlace_26 lp_V_87 hg_1 (ft_int _) (Nat.le_of_ble_eq_true rfl) (hp_1_11 _) ?_
    refine aw_iload_n (pc := 29) d_V_setPlace_29 rfl rfl ?_
    refine aw_iret (pc := 30) d_V_setPlace_30 rfl ?_
    unfold psV
    rw [if_pos h7, if_pos h7]
    exact ⟨rfl, _, _, _, _, rfl, ci_1 h (frA_r _ _) (frI_u _ _ _ _ (by decide)) ⟨⟨a1, a2, a3, a4, a5, a6⟩, b6, b7, b8, b9, b10, hc.2, b12, b13, b14, b15⟩ (ok_go hT (by omega)), hi_of (frA_r _ []) (frI_u _ _ _ _ (List.mem_singleton.mpr rfl)) (by decide) (by decide)⟩
  · refine aw_bipush (pc := 10) (v := (-2)) d_V_setPlace_10 (by decide) ?_
    refine aw_iret (pc := 12) d_V_setPlace_12 rfl ?_
    unfold psV
    rw [if_neg h7, if_neg h7]
    exact pV_r h _
set_option maxHeartbeats 1000000 in
set_option maxRecDepth 20000 in
theorem v_set (h : ci T np PD km TI A I J) (w v : Int32) : AM m_V_set r_V_set (HH A I J U) [.ref 0, .int w, .int v] (pV (seT T w v) np PD km TI (.int (aSet T w v)) A I J) := by
  refine am_of (by decide) rfl (by first | decide | exact Nat.le_of_ble_eq_true rfl) ?_
  refine aw_iload_n (pc := 0) d_V_set_0 rfl rfl ?_
  refine aw_if_ne (pc := 1) (tgt := 10) d_V_set_1 (by decide) (fun h1 => ?_) (fun h1 => ?_)
  · refine aw_iload_n (pc := 10) d_V_set_10 rfl rfl ?_
    refine aw_iconst (pc := 11) (v := 1) d_V_set_11 (by decide) ?_
    refine aw_icmp_ne (pc := 12) (tgt := 21) d_V_set_12 (by decide) (fun h12 => ?_) (fun h12 => ?_)
    · refine aw_iload_n (pc := 21) d_V_set_21 rfl rfl ?_
      refine aw_iconst (pc := 22) (v := 2) d_V_set_22 (by decide) ?_
      refine aw_icmp_ne (pc := 23) (tgt := 32) d_V_set_23 (by decide) (fun h23 => ?_) (fun h23 => ?_)
      · refine aw_bipush (pc := 32) (v := (-2)) d_V_set_32 (by decide) ?_
        refine aw_iret (pc := 34) d_V_set_34 rfl ?_
        unfold aSet seT
        rw [if_neg (fun z => h1 z.1), if_neg (fun z => h12 z.1), if_neg (fun z => h23 z.1), if_neg (fun z => h1 z.1), if_neg (fun z => h12 z.1), if_neg (fun z => h23 z.1)]
        exact pV_r h _
      · refine aw_aload_n (pc := 26) d_V_set_26 rfl rfl ?_
        refine aw_iload_n (pc := 27) d_V_set_27 rfl rfl ?_
        refine aw_callVq (pc := 28) (c_V_setPlace h v) ok_V_setPlace d_V_set_28 lm_V_78 hg_0 rfl rfl ⟨by decide, by decide⟩ (Nat.le_of_ble_eq_true rfl) rfl rfl ⟨by decide, by decide⟩ (fun rr hh2 hq => ?_)
        have e1 : seT T w v = if 0 ≤ v ∧ v ≤ 11 then u2 T 6 5 v.toNatClampNeg else T := by
          unfold seT; rw [if_neg (fun z => h1 z.1), if_neg (fun z => h12 z.1)]
          by_cases e : 0 ≤ v ∧ v ≤ 11
          · rw [if_pos ⟨h23, e⟩, if_pos e]
          · rw [if_neg (fun z => e z.2), if_neg e]
        have e2 : aSet T w v = if 0 ≤ v ∧ v ≤ 11 then nI (T 6 5) else -2 := by
          unfold aSet; rw [if_neg (fun z => h1 z.1), if_neg (fun z => h12 z.1)]
          by_cases e : 0 ≤ v ∧ v ≤ 11
          · rw [if_pos ⟨h23, e⟩, if_pos e]
          · rw [if_neg (fun z => e z.2), if_neg e]
        obtain ⟨rfl, A1, I1, J1, U1, rfl, q1, q2⟩ := hq
        refine aw_iret (pc := 31) d_V_set_31 rfl ?_
        rw [e1, e2]
        exact ⟨rfl, A1, I1, J1, U1, rfl, q1, q2⟩
    · refine aw_aload_n (pc := 15) d_V_set_15 rfl rfl ?_
      refine aw_iload_n (pc := 16) d_V_set_16 rfl rfl ?_
      refine aw_callVq (pc := 17) (c_V_setWind h v) ok_V_setWind d_V_set_17 lm_V_75 hg_0 rfl rfl ⟨by decide, by decide⟩ (Nat.le_of_ble_eq_true rfl) rfl rfl ⟨by decide, by decide⟩ (fun rr hh2 hq => ?_)
      have e1 : seT T w v = if -3 ≤ v ∧ v ≤ 3 then u2 T 6 4 (v.toInt + 3).toNat else T := by
        unfold seT; rw [if_neg (fun z => h1 z.1)]
        by_cases e : -3 ≤ v ∧ v ≤ 3
        · rw [if_pos ⟨h12, e⟩, if_pos e]
        · rw [if_neg (fun z => e z.2), if_neg e, if_neg (fun z => by rw [h12] at z; exact absurd z.1 (by decide))]
      have e2 : aSet T w v = if -3 ≤ v ∧ v ≤ 3 then nI (T 6 4) - 3 + 3 else -2 := by
        unfold aSet; rw [if_neg (fun z => h1 z.1)]
        by_cases e : -3 ≤ v ∧ v ≤ 3
        · rw [if_pos ⟨h12, e⟩, if_pos e]
        · rw [if_neg (fun z => e z.2), if_neg e, if_neg (fun z => by rw [h12] at z; exact absurd z.1 (by decide))]
      obtain ⟨rfl, A1, I1, J1, U1, rfl, q1, q2⟩ := hq
      refine aw_iret (pc := 20) d_V_set_20 rfl ?_
      rw [e1, e2]
      exact ⟨rfl, A1, I1, J1, U1, rfl, q1, q2⟩
  · refine aw_aload_n (pc := 4) d_V_set_4 rfl rfl ?_
    refine aw_iload_n (pc := 5) d_V_set_5 rfl rfl ?_
    refine aw_callVq (pc := 6) (c_V_setVoice h v) ok_V_setVoice d_V_set_6 lm_V_71 hg_0 rfl rfl ⟨by decide, by decide⟩ (Nat.le_of_ble_eq_true rfl) rfl rfl ⟨by decide, by decide⟩ (fun rr hh2 hq => ?_)
    have n1 : ¬ w = 1 := fun z => by rw [h1] at z; exact absurd z (by decide)
    have n2 : ¬ w = 2 := fun z => by rw [h1] at z; exact absurd z (by decide)
    have e1 : seT T w v = if 1 ≤ v ∧ v ≤ 40 then u2 T 6 3 v.toNatClampNeg else T := by
      unfold seT
      by_cases e : 1 ≤ v ∧ v ≤ 40
      · rw [if_pos ⟨h1, e⟩, if_pos e]
      · rw [if_neg (fun z => e z.2), if_neg e, if_neg (fun z => n1 z.1), if_neg (fun z => n2 z.1)]
    have e2 : aSet T w v = if 1 ≤ v ∧ v ≤ 40 then nI (T 6 3) else -2 := by
      unfold aSet
      by_cases e : 1 ≤ v ∧ v ≤ 40
      · rw [if_pos ⟨h1, e⟩, if_pos e]
      · rw [if_neg (fun z => e z.2), if_neg e, if_neg (fun z => n1 z.1), if_neg (fun z => n2 z.1)]
    obtain ⟨rfl, A1, I1, J1, U1, rfl, q1, q2⟩ := hq
    refine aw_iret (pc := 9) d_V_set_9 rfl ?_
    rw [e1, e2]
    exact ⟨rfl, A1, I1, J1, U1, rfl, q1, q2⟩
set_option maxHeartbeats 1000000 in
set_option maxRecDepth 20000 in
theorem n_set (h : mi T np PD km TI A I J) (w v : Int32) : AM m_M_set r_M_set (HH A I J U) [.ref 36, .int w, .int v] (pN (seT T w v) np PD km TI (.int (aSet T w v)) A I J) := by
  obtain ⟨hT, hE, -⟩ := id h
  obtain ⟨⟨a1, a2, a3, a4⟩, b1, b2_, b3, b4⟩ := id hE
  refine am_of (by decide) rfl (by first | decide | exact Nat.le_of_ble_eq_true rfl) ?_
  have k57 : ¬ (w = 0 ∧ 1 ≤ v ∧ v ≤ 40) → ¬ (w = 1 ∧ -3 ≤ v ∧ v ≤ 3) → AW m_M_set r_M_set ax_E0 (ax_Zm (pN (seT T w v) np PD km TI (.int (aSet T w v)) A I J) 0 0) (HH A I J U) 0 0 57 [(0, .ref 36), (1, .int w), (2, .int v)] [] := by
    intro c0 c1
    refine aw_iload_n (pc := 57) d_M_set_57 rfl rfl ?_
    refine aw_iconst (pc := 58) (v := 2) d_M_set_58 (by decide) ?_
    refine aw_icmp_ne (pc := 59) (tgt := 88) d_M_set_59 (by decide) (fun h59 => ?_) (fun h59 => ?_)
    · refine aw_bipush (pc := 88) (v := (-2)) d_M_set_88 (by decide) ?_
      refine aw_istore_n (pc := 90) (ls' := [(0, _), (1, _), (2, _), (3, _)]) d_M_set_90 rfl (by decide) rfl ?_
      refine aw_iload_n (pc := 91) d_M_set_91 rfl rfl ?_
      refine aw_iret (pc := 92) d_M_set_92 rfl ?_
      unfold aSet seT
      rw [if_neg c0, if_neg c1, if_neg (fun z => h59 z.1), if_neg c0, if_neg c1, if_neg (fun z => h59 z.1)]
      exact pN_r h _
    · refine aw_iload_n (pc := 62) d_M_set_62 rfl rfl ?_
      refine aw_callS1 (pc := 63) (c_M_isHouse _ _) ok_M_isHouse d_M_set_63 lm_M_56 rfl rfl ⟨by decide, by decide⟩ (Nat.le_of_ble_eq_true rfl) rfl rfl ⟨by decide, by decide⟩ ?_
      refine aw_bz (pc := 66) (tgt := 88) d_M_set_66 (by decide) (fun h66 => ?_) (fun h66 => ?_)
      · refine aw_bipush (pc := 88) (v := (-2)) d_M_set_88 (by decide) ?_
        refine aw_istore_n (pc := 90) (ls' := [(0, _), (1, _), (2, _), (3, _)]) d_M_set_90 rfl (by decide) rfl ?_
        refine aw_iload_n (pc := 91) d_M_set_91 rfl rfl ?_
        refine aw_iret (pc := 92) d_M_set_92 rfl ?_
        unfold aSet seT
        rw [if_neg c0, if_neg c1, if_neg (fun z => h66 z.2), if_neg c0, if_neg c1, if_neg (fun z => h66 z.2)]
        exact pN_r h _
      · have hc := clp (n := 11) (by omega) h66
        refine aw_aload_n (pc := 69) d_M_set_69 rfl rfl ?_
        refine aw_get (pc := 70) d_M_set_70 lf_M_7 hg_36 rfl ?_
        refine aw_bipush (pc := 73) (v := 12) d_M_set_73 (by decide) ?_
        refine aw_ildN (pc := 75) (j := 12) d_M_set_75 hg_37 a1 rfl (by decide) (by decide) ?_
        refine aw_istore_n (pc := 76) (ls' := [(0, _), (1, _), (2, _), (3, _)]) d_M_set_76 rfl (by decide) rfl ?_
        refine aw_aload_n (pc := 77) d_M_set_77 rfl rfl ?_
        refine aw_get (pc := 78) d_M_set_78 lf_M_7 hg_36 rfl ?_
        refine aw_bipush (pc := 81) (v := 12) d_M_set_81 (by decide) ?_
        refine aw_iload_n (pc := 83) d_M_set_83 rfl rfl ?_
        refine aw_istN (pc := 84) (j := 12) (v := v.toNatClampNeg) d_M_set_84 hg_37 a1 rfl hc.2 (by decide) (by decide) (hs_37 _) ?_
        refine aw_goto (pc := 85) (tgt := 91) d_M_set_85 (by decide) ?_
        refine aw_iload_n (pc := 91) d_M_set_91 rfl rfl ?_
        refine aw_iret (pc := 92) d_M_set_92 rfl ?_
        unfold aSet seT
        rw [if_neg c0, if_neg c1, if_pos ⟨h59, h66⟩, if_neg c0, if_neg c1, if_pos ⟨h59, h66⟩]
        exact ⟨rfl, _, _, _, _, rfl, mi_T h (frA_u _ _ _ (by decide)) rfl ⟨⟨lst_cong (bk_go T _), a2, lst_lt6 a3, lst_sg6 a4⟩, b1, b2_, b3, b4⟩ (ok_go hT (by omega)), lo_of (frA_u _ _ _ (List.mem_singleton.mpr rfl)) (frI_r _ []) (by decide) (by decide)⟩
  have k27 : ¬ (w = 0 ∧ 1 ≤ v ∧ v ≤ 40) → AW m_M_set r_M_set ax_E0 (ax_Zm (pN (seT T w v) np PD km TI (.int (aSet T w v)) A I J) 0 0) (HH A I J U) 0 0 27 [(0, .ref 36), (1, .int w), (2, .int v)] [] := by
    intro c0
    refine aw_iload_n (pc := 27) d_M_set_27 rfl rfl ?_
    refine aw_iconst (pc := 28) (v := 1) d_M_set_28 (by decide) ?_
    refine aw_icmp_ne (pc := 29) (tgt := 57) d_M_set_29 (by decide) (fun h29 => ?_) (fun h29 => ?_)
    · exact k57 c0 (fun z => h29 z.1)
    · refine aw_iload_n (pc := 32) d_M_set_32 rfl rfl ?_
      refine aw_bipush (pc := 33) (v := (-3)) d_M_set_33 (by decide) ?_
      refine aw_iconst (pc := 35) (v := 3) d_M_set_35 (by decide) ?_
      refine aw_callS1 (pc := 36) (c_M_in _ _ _ _) ok_M_in d_M_set_36 lm_M_52 rfl rfl ⟨by decide, by decide⟩ (Nat.le_of_ble_eq_true rfl) rfl rfl ⟨by decide, by decide⟩ ?_
      refine aw_bz (pc := 39) (tgt := 57) d_M_set_39 (by decide) (fun h39 => ?_) (fun h39 => ?_)
      · exact k57 c0 (fun z => h39 z.2)
      · refine aw_aload_n (pc := 42) d_M_set_42 rfl rfl ?_
        refine aw_geti (pc := 43) (y := (nI (T 6 4) - 3)) d_M_set_43 lf_M_60 hg_36 rfl b3 ?_
        refine aw_iconst (pc := 46) (v := 3) d_M_set_46 (by decide) ?_
        refine aw_iadd (pc := 47) d_M_set_47 ?_
        refine aw_istore_n (pc := 48) (ls' := [(0, _), (1, _), (2, _), (3, _)]) d_M_set_48 rfl (by decide) rfl ?_
        refine aw_aload_n (pc := 49) d_M_set_49 rfl rfl ?_
        refine aw_iload_n (pc := 50) d_M_set_50 rfl rfl ?_
        refine aw_put (pc := 51) d_M_set_51 lp_M_60 hg_36 (ft_int _) (Nat.le_of_ble_eq_true rfl) (hp_36_5 _) ?_
        refine aw_goto (pc := 54) (tgt := 91) d_M_set_54 (by decide) ?_
        refine aw_iload_n (pc := 91) d_M_set_91 rfl rfl ?_
        refine aw_iret (pc := 92) d_M_set_92 rfl ?_
        unfold aSet seT
        rw [if_neg c0, if_pos ⟨h29, h39⟩, if_neg c0, if_pos ⟨h29, h39⟩]
        exact ⟨rfl, _, _, _, _, rfl, mi_T h (frA_r _ _) rfl ⟨⟨by rw [bk_s4]; exact a1, a2, lst_lt6 a3, lst_sg6 a4⟩, b1, b2_, (wnd h39).2, b4⟩ (ok_s4 hT (wnd h39).1), lo_of (frA_r _ []) (frI_u _ _ _ _ (List.mem_singleton.mpr rfl)) (by decide) (by decide)⟩
  refine aw_iload_n (pc := 0) d_M_set_0 rfl rfl ?_
  refine aw_if_ne (pc := 1) (tgt := 27) d_M_set_1 (by decide) (fun h1 => ?_) (fun h1 => ?_)
  · exact k27 (fun z => h1 z.1)
  · refine aw_iload_n (pc := 4) d_M_set_4 rfl rfl ?_
    refine aw_iconst (pc := 5) (v := 1) d_M_set_5 (by decide) ?_
    refine aw_bipush (pc := 6) (v := 40) d_M_set_6 (by decide) ?_
    refine aw_callS1 (pc := 8) (c_M_in _ _ _ _) ok_M_in d_M_set_8 lm_M_52 rfl rfl ⟨by decide, by decide⟩ (Nat.le_of_ble_eq_true rfl) rfl rfl ⟨by decide, by decide⟩ ?_
    refine aw_bz (pc := 11) (tgt := 27) d_M_set_11 (by decide) (fun h11 => ?_) (fun h11 => ?_)
    · exact k27 (fun z => h11 z.2)
    · refine aw_aload_n (pc := 14) d_M_set_14 rfl rfl ?_
      refine aw_geti (pc := 15) (y := (nI (T 6 3))) d_M_set_15 lf_M_19 hg_36 rfl b2_ ?_
      refine aw_istore_n (pc := 18) (ls' := [(0, _), (1, _), (2, _), (3, _)]) d_M_set_18 rfl (by decide) rfl ?_
      refine aw_aload_n (pc := 19) d_M_set_19 rfl rfl ?_
      refine aw_iload_n (pc := 20) d_M_set_20 rfl rfl ?_
      refine aw_put (pc := 21) d_M_set_21 lp_M_19 hg_36 (ft_int _) (Nat.le_of_ble_eq_true rfl) (hp_36_4 _) ?_
      refine aw_goto (pc := 24) (tgt := 91) d_M_set_24 (by decide) ?_
      refine aw_iload_n (pc := 91) d_M_set_91 rfl rfl ?_
      refine aw_iret (pc := 92) d_M_set_92 rfl ?_
      unfold aSet seT
      rw [if_pos ⟨h1, h11⟩, if_pos ⟨h1, h11⟩]
      exact ⟨rfl, _, _, _, _, rfl, mi_T h (frA_r _ _) rfl ⟨⟨by rw [bk_s3]; exact a1, a2, lst_lt6 a3, lst_sg6 a4⟩, b1, (clp1 h11).2, b3, b4⟩ (ok_s3 hT (clp1 h11).1), lo_of (frA_r _ []) (frI_u _ _ _ _ (List.mem_singleton.mpr rfl)) (by decide) (by decide)⟩
end SET

