/-! house, wall: both sides -/
def aHouse (T : town) (h f : Int32) : Int32 := if ¬ (0 ≤ h ∧ h ≤ 11) then -1 else if ¬ (0 ≤ f ∧ f ≤ 255) then -2 else nI (T 0 h.toNatClampNeg)
def hoU (T : town) (j f : Nat) (o d : Bool) : town := u2 (u2 (u1 T 0 (up (T 0) j f)) 6 0 (sb (T 6 0) j o)) 6 1 (sb (T 6 1) j d)
def hoT (T : town) (h f : Int32) (o d : Bool) : town := if (0 ≤ h ∧ h ≤ 11) ∧ 0 ≤ f ∧ f ≤ 255 then hoU T h.toNatClampNeg f.toNatClampNeg o d else T
def aWall (T : town) (h f : Int32) : Int32 := if ¬ (0 ≤ h ∧ h ≤ 10) then -1 else if ¬ (0 ≤ f ∧ f ≤ 9) then -2 else nI (T 1 h.toNatClampNeg)
def waU (T : town) (j f : Nat) : town := u1 T 1 (up (T 1) j f)
def waT (T : town) (h f : Int32) : town := if (0 ≤ h ∧ h ≤ 10) ∧ 0 ≤ f ∧ f ≤ 9 then waU T h.toNatClampNeg f.toNatClampNeg else T
theorem up_lt {f : Nat → Nat} {j v b : Nat} (hv : v < b) {i : Nat} (h : f i < b) : up f j v i < b := by
  unfold up; split
  · exact hv
  · exact h
theorem up_le {f : Nat → Nat} {j v b : Nat} (hv : v ≤ b) {i : Nat} (h : f i ≤ b) : up f j v i ≤ b := by
  unfold up; split
  · exact hv
  · exact h
theorem ok_ho {T : town} (hT : okT T) {j f : Nat} (hf : f < 256) (o d : Bool) : okT (hoU T j f o d) := by
  obtain ⟨h0, h1, h2, h3, h4, h5⟩ := hT
  exact ⟨fun i hi => up_lt hf (h0 i hi), h1, h2, sb_lt _ _ _, sb_lt _ _ _, h5⟩
theorem ok_wa {T : town} (hT : okT T) {j f : Nat} (hf : f ≤ 9) : okT (waU T j f) := by
  obtain ⟨h0, h1, h2⟩ := hT
  exact ⟨h0, fun i hi => up_le hf (h1 i hi), h2⟩
theorem lt_row {T T' : town} (h : ∀ x y, 2 ≤ x → x ≤ 5 → T' x y = T x y) : ∀ j, j < 24 → lt T j = lt T' j := fun j _ => (h (2 + j % 4) (j / 4) (by omega) (by omega)).symm
theorem sg_row {T T' : town} (h : ∀ x y, 7 ≤ x → x ≤ 8 → T' x y = T x y) : ∀ j, j < 16 → sg T j = sg T' j := fun j _ => (h (7 + j % 2) (j / 2) (by omega) (by omega)).symm
theorem hoU_r (T : town) (j f : Nat) (o d : Bool) (x y : Nat) (h0 : ¬ x = 0) (h6 : ¬ x = 6) : hoU T j f o d x y = T x y := by
  show (if x = 6 then _ else (if x = 6 then _ else (if x = 0 then _ else _ : Nat → Nat) y)) = _
  rw [if_neg h6, if_neg h6, if_neg h0]
theorem waU_r (T : town) (j f : Nat) (x y : Nat) (h0 : ¬ x = 1) : waU T j f x y = T x y := by
  show (if x = 1 then _ else _ : Nat → Nat) y = _
  rw [if_neg h0]
theorem lst_lth {T : town} {j f : Nat} {o d : Bool} {xs : List Int32} (h : xs = lst 24 (lt T)) : xs = lst 24 (lt (hoU T j f o d)) := h.trans (lst_cong (lt_row (fun x y _ _ => hoU_r T j f o d x y (by omega) (by omega))))
theorem lst_sgh {T : town} {j f : Nat} {o d : Bool} {xs : List Int32} (h : xs = lst 16 (sg T)) : xs = lst 16 (sg (hoU T j f o d)) := h.trans (lst_cong (sg_row (fun x y _ _ => hoU_r T j f o d x y (by omega) (by omega))))
theorem lst_ltw {T : town} {j f : Nat} {xs : List Int32} (h : xs = lst 24 (lt T)) : xs = lst 24 (lt (waU T j f)) := h.trans (lst_cong (lt_row (fun x y _ _ => waU_r T j f x y (by omega))))
theorem lst_sgw {T : town} {j f : Nat} {xs : List Int32} (h : xs = lst 16 (sg T)) : xs = lst 16 (sg (waU T j f)) := h.trans (lst_cong (sg_row (fun x y _ _ => waU_r T j f x y (by omega))))
section HOUSE
variable {A : Nat → List Int32} {I : Nat → Nat → Int32} {J : Nat → List Int64} {U : Nat → Nat → Int64} {T : town} {np : Nat} {PD : Nat → Nat} {km : Nat} {TI : Nat → town}
set_option maxHeartbeats 1000000 in
set_option maxRecDepth 20000 in
theorem v_house (h : ci T np PD km TI A I J) (a f : Int32) {p q : Prop} [Decidable p] [Decidable q] : AM m_V_house r_V_house (HH A I J U) [.ref 0, .int a, .int (b2 p), .int (b2 q), .int f] (pV (hoT T a f (decide p) (decide q)) np PD km TI (.int (aHouse T a f)) A I J) := by
  obtain ⟨hT, hE, -⟩ := id h
  refine am_of (by decide) rfl (by first | decide | exact Nat.le_of_ble_eq_true rfl) ?_
  refine aw_iload_n (pc := 0) d_V_house_0 rfl rfl ?_
  refine aw_iconst (pc := 1) (v := 0) d_V_house_1 (by decide) ?_
  refine aw_bipush (pc := 2) (v := 11) d_V_house_2 (by decide) ?_
  refine aw_callS1 (pc := 4) (c_V_within _ _ _ _) ok_V_within d_V_house_4 lm_V_50 rfl rfl ⟨by decide, by decide⟩ (Nat.le_of_ble_eq_true rfl) rfl rfl ⟨by decide, by decide⟩ ?_
  refine aw_bn (pc := 7) (tgt := 12) d_V_house_7 (by decide) (fun h7 => ?_) (fun h7 => ?_)
  · refine aw_iload (pc := 12) d_V_house_12 rfl ?_
    refine aw_iconst (pc := 14) (v := 0) d_V_house_14 (by decide) ?_
    refine aw_sipush (pc := 15) (v := 255) d_V_house_15 (by decide) ?_
    refine aw_callS1 (pc := 18) (c_V_within _ _ _ _) ok_V_within d_V_house_18 lm_V_50 rfl rfl ⟨by decide, by decide⟩ (Nat.le_of_ble_eq_true rfl) rfl rfl ⟨by decide, by decide⟩ ?_
    refine aw_bn (pc := 21) (tgt := 27) d_V_house_21 (by decide) (fun h21 => ?_) (fun h21 => ?_)
    · obtain ⟨j, hj, rfl⟩ := rng 11 (by omega) h7
      obtain ⟨f, hf, rfl⟩ := rng 255 (by omega) h21
      obtain ⟨⟨a1, a2, a3, a4, a5, a6⟩, b6, b7, b8, b9, b10, b11, b12, b13, b14, b15⟩ := hE
      refine aw_aload_n (pc := 27) d_V_house_27 rfl rfl ?_
      refine aw_get (pc := 28) d_V_house_28 lf_V_10 hg_0 rfl ?_
      refine aw_get (pc := 31) d_V_house_31 lf_V_54 hg_1 rfl ?_
      refine aw_iload_n (pc := 34) d_V_house_34 rfl rfl ?_
      refine aw_ildN (pc := 35) (j := j) d_V_house_35 hg_2 a1 rfl (by omega) (by decide) ?_
      refine aw_istore (pc := 36) (ls' := [(0, _), (1, _), (2, _), (3, _), (4, _), (5, _)]) d_V_house_36 (by decide) rfl ?_
      refine aw_aload_n (pc := 38) d_V_house_38 rfl rfl ?_
      refine aw_get (pc := 39) d_V_house_39 lf_V_10 hg_0 rfl ?_
      refine aw_aload_n (pc := 42) d_V_house_42 rfl rfl ?_
      refine aw_get (pc := 43) d_V_house_43 lf_V_10 hg_0 rfl ?_
      refine aw_geti (pc := 46) (y := (nI (T 6 0))) d_V_house_46 lf_V_58 hg_1 rfl b6 ?_
      refine aw_iload_n (pc := 49) d_V_house_49 rfl rfl ?_
      refine aw_iload_n (pc := 50) d_V_house_50 rfl rfl ?_
      refine aw_callS1 (pc := 51) (c_V_withBit (j := j) hT.2.2.2.1 (by omega)) ok_V_withBit d_V_house_51 lm_V_61 rfl rfl ⟨by decide, by decide⟩ (Nat.le_of_ble_eq_true rfl) rfl rfl ⟨by decide, by decide⟩ ?_
      refine aw_put (pc := 54) d_V_house_54 lp_V_58 hg_1 (ft_int _) (Nat.le_of_ble_eq_true rfl) (hp_1_6 _) ?_
      refine aw_aload_n (pc := 57) d_V_house_57 rfl rfl ?_
      refine aw_get (pc := 58) d_V_house_58 lf_V_10 hg_0 rfl ?_
      refine aw_aload_n (pc := 61) d_V_house_61 rfl rfl ?_
      refine aw_get (pc := 62) d_V_house_62 lf_V_10 hg_0 rfl ?_
      refine aw_geti (pc := 65) (y := (nI (T 6 1))) d_V_house_65 lf_V_65 hg_1 rfl b7 ?_
      refine aw_iload_n (pc := 68) d_V_house_68 rfl rfl ?_
      refine aw_iload_n (pc := 69) d_V_house_69 rfl rfl ?_
      refine aw_callS1 (pc := 70) (c_V_withBit (j := j) hT.2.2.2.2.1 (by omega)) ok_V_withBit d_V_house_70 lm_V_61 rfl rfl ⟨by decide, by decide⟩ (Nat.le_of_ble_eq_true rfl) rfl rfl ⟨by decide, by decide⟩ ?_
      refine aw_put (pc := 73) d_V_house_73 lp_V_65 hg_1 (ft_int _) (Nat.le_of_ble_eq_true rfl) (hp_1_7 _) ?_
      refine aw_aload_n (pc := 76) d_V_house_76 rfl rfl ?_
      refine aw_get (pc := 77) d_V_house_77 lf_V_10 hg_0 rfl ?_
      refine aw_get (pc := 80) d_V_house_80 lf_V_54 hg_1 rfl ?_
      refine aw_iload_n (pc := 83) d_V_house_83 rfl rfl ?_
      refine aw_iload (pc := 84) d_V_house_84 rfl ?_
      refine aw_istN (pc := 86) (j := j) (v := f) d_V_house_86 hg_2 a1 rfl rfl (by omega) (by decide) (hs_2 _) ?_
      refine aw_iload (pc := 87) d_V_house_87 rfl ?_
      refine aw_iret (pc := 89) d_V_house_89 rfl ?_
      refine ⟨by unfold aHouse; rw [if_neg (fun z => z h7), if_neg (fun z => z h21), nI_clamp (by omega)], _, _, _, _, rfl, ?_, hi_of (frA_u _ _ _ (List.mem_singleton.mpr rfl)) (frI_t (frI_u _ _ _ _ (List.mem_singleton.mpr rfl)) (frI_u _ _ _ _ (List.mem_singleton.mpr rfl))) (by decide) (by decide)⟩
      unfold hoT
      rw [if_pos ⟨h7, h21⟩, nI_clamp (by omega), nI_clamp (by omega)]
      exact ci_1 h (frA_u _ _ _ (by decide)) (frI_t (frI_u _ _ _ _ (by decide)) (frI_u _ _ _ _ (by decide))) ⟨⟨rfl, a2, a3, a4, a5, a6⟩, rfl, rfl, b8, b9, b10, b11, b12, b13, b14, b15⟩ (ok_ho hT (by omega) _ _)
    · have _ := h21
      refine aw_bipush (pc := 24) (v := (-2)) d_V_house_24 (by decide) ?_
      refine aw_iret (pc := 26) d_V_house_26 rfl ?_
      unfold aHouse hoT
      rw [if_neg (fun z => h21 z.2), if_neg (fun z => z h7), if_pos h21]
      exact pV_r h _
  · refine aw_iconst (pc := 10) (v := (-1)) d_V_house_10 (by decide) ?_
    refine aw_iret (pc := 11) d_V_house_11 rfl ?_
    unfold aHouse hoT
    rw [if_pos h7, if_neg (fun z => h7 z.1)]
    exact pV_r h _
set_option maxHeartbeats 1000000 in
set_option maxRecDepth 20000 in
theorem v_wall (h : ci T np PD km TI A I J) (a f : Int32) : AM m_V_wall r_V_wall (HH A I J U) [.ref 0, .int a, .int f] (pV (waT T a f) np PD km TI (.int (aWall T a f)) A I J) := by
  obtain ⟨hT, hE, -⟩ := id h
  refine am_of (by decide) rfl (by first | decide | exact Nat.le_of_ble_eq_true rfl) ?_
  refine aw_iload_n (pc := 0) d_V_wall_0 rfl rfl ?_
  refine aw_iconst (pc := 1) (v := 0) d_V_wall_1 (by decide) ?_
  refine aw_bipush (pc := 2) (v := 10) d_V_wall_2 (by decide) ?_
  refine aw_callS1 (pc := 4) (c_V_within _ _ _ _) ok_V_within d_V_wall_4 lm_V_50 rfl rfl ⟨by decide, by decide⟩ (Nat.le_of_ble_eq_true rfl) rfl rfl ⟨by decide, by decide⟩ ?_
  refine aw_bn (pc := 7) (tgt := 12) d_V_wall_7 (by decide) (fun h7 => ?_) (fun h7 => ?_)
  · refine aw_iload_n (pc := 12) d_V_wall_12 rfl rfl ?_
    refine aw_iconst (pc := 13) (v := 0) d_V_wall_13 (by decide) ?_
    refine aw_bipush (pc := 14) (v := 9) d_V_wall_14 (by decide) ?_
    refine aw_callS1 (pc := 16) (c_V_within _ _ _ _) ok_V_within d_V_wall_16 lm_V_50 rfl rfl ⟨by decide, by decide⟩ (Nat.le_of_ble_eq_true rfl) rfl rfl ⟨by decide, by decide⟩ ?_
    refine aw_bn (pc := 19) (tgt := 25) d_V_wall_19 (by decide) (fun h21 => ?_) (fun h21 => ?_)
    · obtain ⟨j, hj, rfl⟩ := rng 10 (by omega) h7
      obtain ⟨f, hf, rfl⟩ := rng 9 (by omega) h21
      obtain ⟨⟨a1, a2, a3, a4, a5, a6⟩, bb⟩ := hE
      refine aw_aload_n (pc := 25) d_V_wall_25 rfl rfl ?_
      refine aw_get (pc := 26) d_V_wall_26 lf_V_10 hg_0 rfl ?_
      refine aw_get (pc := 29) d_V_wall_29 lf_V_68 hg_1 rfl ?_
      refine aw_iload_n (pc := 32) d_V_wall_32 rfl rfl ?_
      refine aw_ildN (pc := 33) (j := j) d_V_wall_33 hg_3 a2 rfl (by omega) (by decide) ?_
      refine aw_istore_n (pc := 34) (ls' := [(0, _), (1, _), (2, _), (3, _)]) d_V_wall_34 rfl (by decide) rfl ?_
      refine aw_aload_n (pc := 35) d_V_wall_35 rfl rfl ?_
      refine aw_get (pc := 36) d_V_wall_36 lf_V_10 hg_0 rfl ?_
      refine aw_get (pc := 39) d_V_wall_39 lf_V_68 hg_1 rfl ?_
      refine aw_iload_n (pc := 42) d_V_wall_42 rfl rfl ?_
      refine aw_iload_n (pc := 43) d_V_wall_43 rfl rfl ?_
      refine aw_istN (pc := 44) (j := j) (v := f) d_V_wall_44 hg_3 a2 rfl rfl (by omega) (by decide) (hs_3 _) ?_
      refine aw_iload_n (pc := 45) d_V_wall_45 rfl rfl ?_
      refine aw_iret (pc := 46) d_V_wall_46 rfl ?_
      refine ⟨by unfold aWall; rw [if_neg (fun z => z h7), if_neg (fun z => z h21), nI_clamp (by omega)], _, _, _, _, rfl, ?_, hi_of (frA_u _ _ _ (List.mem_singleton.mpr rfl)) (frI_r _ []) (by decide) (by decide)⟩
      unfold waT
      rw [if_pos ⟨h7, h21⟩, nI_clamp (by omega), nI_clamp (by omega)]
      exact ci_1 h (frA_u _ _ _ (by decide)) (frI_r _ _) ⟨⟨a1, rfl, a3, a4, a5, a6⟩, bb⟩ (ok_wa hT hf)
    · have _ := h21
      refine aw_bipush (pc := 22) (v := (-2)) d_V_wall_22 (by decide) ?_
      refine aw_iret (pc := 24) d_V_wall_24 rfl ?_
      unfold aWall waT
      rw [if_neg (fun z => h21 z.2), if_neg (fun z => z h7), if_pos h21]
      exact pV_r h _
  · refine aw_iconst (pc := 10) (v := (-1)) d_V_wall_10 (by decide) ?_
    refine aw_iret (pc := 11) d_V_wall_11 rfl ?_
    unfold aWall waT
    rw [if_pos h7, if_neg (fun z => h7 z.1)]
    exact pV_r h _
set_option maxHeartbeats 1000000 in
set_option maxRecDepth 20000 in
theorem n_wall (h : mi T np PD km TI A I J) (a f : Int32) : AM m_M_wall r_M_wall (HH A I J U) [.ref 36, .int a, .int f] (pN (waT T a f) np PD km TI (.int (aWall T a f)) A I J) := by
  obtain ⟨hT, hE, -⟩ := id h
  refine am_of (by decide) rfl (by first | decide | exact Nat.le_of_ble_eq_true rfl) ?_
  refine aw_iload_n (pc := 0) d_M_wall_0 rfl rfl ?_
  refine aw_iconst (pc := 1) (v := 0) d_M_wall_1 (by decide) ?_
  refine aw_bipush (pc := 2) (v := 10) d_M_wall_2 (by decide) ?_
  refine aw_callS1 (pc := 4) (c_M_in _ _ _ _) ok_M_in d_M_wall_4 lm_M_52 rfl rfl ⟨by decide, by decide⟩ (Nat.le_of_ble_eq_true rfl) rfl rfl ⟨by decide, by decide⟩ ?_
  refine aw_bn (pc := 7) (tgt := 12) d_M_wall_7 (by decide) (fun h7 => ?_) (fun h7 => ?_)
  · refine aw_iload_n (pc := 12) d_M_wall_12 rfl rfl ?_
    refine aw_iconst (pc := 13) (v := 0) d_M_wall_13 (by decide) ?_
    refine aw_bipush (pc := 14) (v := 9) d_M_wall_14 (by decide) ?_
    refine aw_callS1 (pc := 16) (c_M_in _ _ _ _) ok_M_in d_M_wall_16 lm_M_52 rfl rfl ⟨by decide, by decide⟩ (Nat.le_of_ble_eq_true rfl) rfl rfl ⟨by decide, by decide⟩ ?_
    refine aw_bn (pc := 19) (tgt := 25) d_M_wall_19 (by decide) (fun h21 => ?_) (fun h21 => ?_)
    · obtain ⟨j, hj, rfl⟩ := rng 10 (by omega) h7
      obtain ⟨f, hf, rfl⟩ := rng 9 (by omega) h21
      obtain ⟨⟨a1, a2, a3, a4⟩, bb⟩ := hE
      refine aw_aload_n (pc := 25) d_M_wall_25 rfl rfl ?_
      refine aw_get (pc := 26) d_M_wall_26 lf_M_16 hg_36 rfl ?_
      refine aw_iload_n (pc := 29) d_M_wall_29 rfl rfl ?_
      refine aw_ildN (pc := 30) (j := j) d_M_wall_30 hg_39 a2 rfl (by omega) (by decide) ?_
      refine aw_istore_n (pc := 31) (ls' := [(0, _), (1, _), (2, _), (3, _)]) d_M_wall_31 rfl (by decide) rfl ?_
      refine aw_aload_n (pc := 32) d_M_wall_32 rfl rfl ?_
      refine aw_get (pc := 33) d_M_wall_33 lf_M_16 hg_36 rfl ?_
      refine aw_iload_n (pc := 36) d_M_wall_36 rfl rfl ?_
      refine aw_iload_n (pc := 37) d_M_wall_37 rfl rfl ?_
      refine aw_istN (pc := 38) (j := j) (v := f) d_M_wall_38 hg_39 a2 rfl rfl (by omega) (by decide) (hs_39 _) ?_
      refine aw_iload_n (pc := 39) d_M_wall_39 rfl rfl ?_
      refine aw_iret (pc := 40) d_M_wall_40 rfl ?_
      refine ⟨by unfold aWall; rw [if_neg (fun z => z h7), if_neg (fun z => z h21), nI_clamp (by omega)], _, _, _, _, rfl, ?_, lo_of (frA_u _ _ _ (List.mem_singleton.mpr rfl)) (frI_r _ []) (by decide) (by decide)⟩
      unfold waT
      rw [if_pos ⟨h7, h21⟩, nI_clamp (by omega), nI_clamp (by omega)]
      exact mi_T h (frA_u _ _ _ (by decide)) rfl ⟨⟨a1, rfl, lst_ltw a3, lst_sgw a4⟩, bb⟩ (ok_wa hT hf)
    · have _ := h21
      refine aw_bipush (pc := 22) (v := (-2)) d_M_wall_22 (by decide) ?_
      refine aw_iret (pc := 24) d_M_wall_24 rfl ?_
      unfold aWall waT
      rw [if_neg (fun z => h21 z.2), if_neg (fun z => z h7), if_pos h21]
      exact pN_r h _
  · refine aw_iconst (pc := 10) (v := (-1)) d_M_wall_10 (by decide) ?_
    refine aw_iret (pc := 11) d_M_wall_11 rfl ?_
    unfold aWall waT
    rw [if_pos h7, if_neg (fun z => h7 z.1)]
    exact pN_r h _
set_option maxHeartbeats 1000000 in
set_option maxRecDepth 20000 in
theorem n_house (h : mi T np PD km TI A I J) (a f : Int32) {p q : Prop} [Decidable p] [Decidable q] : AM m_M_house r_M_house (HH A I J U) [.ref 36, .int a, .int (b2 p), .int (b2 q), .int f] (pN (hoT T a f (decide p) (decide q)) np PD km TI (.int (aHouse T a f)) A I J) := by
  obtain ⟨hT, hE, -⟩ := id h
  refine am_of (by decide) rfl (by first | decide | exact Nat.le_of_ble_eq_true rfl) ?_
  refine aw_iload_n (pc := 0) d_M_house_0 rfl rfl ?_
  refine aw_callS1 (pc := 1) (c_M_isHouse _ _) ok_M_isHouse d_M_house_1 lm_M_56 rfl rfl ⟨by decide, by decide⟩ (Nat.le_of_ble_eq_true rfl) rfl rfl ⟨by decide, by decide⟩ ?_
  refine aw_bn (pc := 4) (tgt := 9) d_M_house_4 (by decide) (fun h7 => ?_) (fun h7 => ?_)
  · refine aw_iload (pc := 9) d_M_house_9 rfl ?_
    refine aw_iconst (pc := 11) (v := 0) d_M_house_11 (by decide) ?_
    refine aw_sipush (pc := 12) (v := 255) d_M_house_12 (by decide) ?_
    refine aw_callS1 (pc := 15) (c_M_in _ _ _ _) ok_M_in d_M_house_15 lm_M_52 rfl rfl ⟨by decide, by decide⟩ (Nat.le_of_ble_eq_true rfl) rfl rfl ⟨by decide, by decide⟩ ?_
    refine aw_bn (pc := 18) (tgt := 24) d_M_house_18 (by decide) (fun h21 => ?_) (fun h21 => ?_)
    · obtain ⟨j, hj, rfl⟩ := rng 11 (by omega) h7
      obtain ⟨f, hf, rfl⟩ := rng 255 (by omega) h21
      have ok0 := hT.2.2.2.1
      have ok1 := hT.2.2.2.2.1
      obtain ⟨⟨a1, a2, a3, a4⟩, b1, b2_, b3, b4⟩ := id hE
      have eb : bk T j = T 0 j := if_pos (by omega)
      have e14 : up (bk T) j f 14 = T 6 0 := by rw [up_n _ _ (by omega)]; rfl
      have k107 : ∀ F : Nat → Nat, (∀ i, i < 16 → F i = bk (hoU T j f (decide p) (decide q)) i) → ∀ A1, frA A A1 [37] → A1 37 = lst 16 F → AW m_M_house r_M_house ax_E0 (ax_Zm (pN (hoT T (nI j) (nI f) (decide p) (decide q)) np PD km TI (.int (aHouse T (nI j) (nI f))) A I J) 0 0) (HH A1 (u2 I 36 2 (nI (sb (T 6 1) j false))) J U) 0 0 107 [(0, .ref 36), (1, .int (nI j)), (2, .int (b2 p)), (3, .int (b2 q)), (4, .int (nI f)), (5, .int (nI (bk T j)))] [.int (nI (sb (T 6 1) j (decide q))), .ref 36] := by
        intro F hF A1 hA hA37
        refine aw_put (pc := 107) d_M_house_107 lp_M_49 hg_36 (ft_int _) (Nat.le_of_ble_eq_true rfl) (hp_36_2 _) ?_
        refine aw_iload (pc := 110) d_M_house_110 rfl ?_
        refine aw_iret (pc := 112) d_M_house_112 rfl ?_
        refine ⟨by unfold aHouse; rw [if_neg (fun z => z h7), if_neg (fun z => z h21), nI_clamp (by omega), eb], _, _, _, _, rfl, ?_, lo_of hA (frI_t (frI_u _ _ _ _ (List.mem_singleton.mpr rfl)) (frI_u _ _ _ _ (List.mem_singleton.mpr rfl))) (by decide) (by decide)⟩
        unfold hoT
        rw [if_pos ⟨h7, h21⟩, nI_clamp (by omega), nI_clamp (by omega)]
        exact mi_T h (fun x hx => hA x (fun z => hx (by rw [List.mem_singleton.mp z]; decide))) rfl ⟨⟨hA37.trans (lst_cong hF), (hA 39 (by decide)).trans a2, (hA 40 (by decide)).trans (lst_lth a3), (hA 41 (by decide)).trans (lst_sgh a4)⟩, rfl, b2_, b3, b4⟩ (ok_ho hT (by omega) _ _)
      have k76 : ∀ F : Nat → Nat, (∀ i, i < 16 → F i = bk (hoU T j f (decide p) (decide q)) i) → ∀ A1, frA A A1 [37] → A1 37 = lst 16 F → AW m_M_house r_M_house ax_E0 (ax_Zm (pN (hoT T (nI j) (nI f) (decide p) (decide q)) np PD km TI (.int (aHouse T (nI j) (nI f))) A I J) 0 0) (HH A1 I J U) 0 0 76 [(0, .ref 36), (1, .int (nI j)), (2, .int (b2 p)), (3, .int (b2 q)), (4, .int (nI f)), (5, .int (nI (bk T j)))] [] := by
        intro F hF A1 hA hA37
        refine aw_aload_n (pc := 76) d_M_house_76 rfl rfl ?_
        refine aw_dup (pc := 77) d_M_house_77 rfl ?_
        refine aw_geti (pc := 78) (y := (nI (T 6 1))) d_M_house_78 lf_M_49 hg_36 rfl b1 ?_
        refine aw_iconst (pc := 81) (v := 1) d_M_house_81 (by decide) ?_
        refine aw_iload_n (pc := 82) d_M_house_82 rfl rfl ?_
        refine aw_ishl (pc := 83) d_M_house_83 ?_
        refine aw_iconst (pc := 84) (v := (-1)) d_M_house_84 (by decide) ?_
        refine aw_ixor (pc := 85) d_M_house_85 ?_
        refine aw_iand (pc := 86) d_M_house_86 ?_
        refine aw_top (sb_off ok1 (by omega)) ?_
        refine aw_put (pc := 87) d_M_house_87 lp_M_49 hg_36 (ft_int _) (Nat.le_of_ble_eq_true rfl) (hp_36_2 _) ?_
        refine aw_aload_n (pc := 90) d_M_house_90 rfl rfl ?_
        refine aw_dup (pc := 91) d_M_house_91 rfl ?_
        refine aw_get (pc := 92) d_M_house_92 lf_M_49 hg_36 rfl ?_
        refine aw_iload_n (pc := 95) d_M_house_95 rfl rfl ?_
        refine aw_bz (pc := 96) (tgt := 105) d_M_house_96 (by decide) (fun h96 => ?_) (fun h96 => ?_)
        · refine aw_iconst (pc := 105) (v := 0) d_M_house_105 (by decide) ?_
          refine aw_ior (pc := 106) d_M_house_106 ?_
          refine aw_top (y := nI (sb (T 6 1) j (decide q))) (by rw [decide_eq_false h96]; exact or_0 _) ?_
          exact k107 F hF A1 hA hA37
        · refine aw_iconst (pc := 99) (v := 1) d_M_house_99 (by decide) ?_
          refine aw_iload_n (pc := 100) d_M_house_100 rfl rfl ?_
          refine aw_ishl (pc := 101) d_M_house_101 ?_
          refine aw_goto (pc := 102) (tgt := 106) d_M_house_102 (by decide) ?_
          refine aw_ior (pc := 106) d_M_house_106 ?_
          refine aw_top (y := nI (sb (T 6 1) j (decide q))) (by rw [decide_eq_true h96]; exact (or_bit (by omega)).trans (by rw [sb_on (sb_lt _ _ _) (by omega), sb_twice])) ?_
          exact k107 F hF A1 hA hA37
      have hF : ∀ i, i < 16 → up (up (up (bk T) j f) 14 (sb (T 6 0) j false)) 14 (sb (T 6 0) j (decide p)) i = bk (hoU T j f (decide p) (decide q)) i := by
        intro i hi
        by_cases e : i = 14
        · subst e; rw [up_s]; rfl
        · rw [up_n _ _ e, up_n _ _ e]
          by_cases e2 : i < 12
          · rw [bk_lo _ e2]
            show _ = up (T 0) j f i
            by_cases e3 : i = j
            · subst e3; rw [up_s, up_s]
            · rw [up_n _ _ e3, up_n _ _ e3, bk_lo _ e2]
          · rw [up_n _ _ (by omega)]
            unfold bk
            rw [if_neg e2, if_neg e2, if_neg e, if_neg e]
            rfl
      refine aw_aload_n (pc := 24) d_M_house_24 rfl rfl ?_
      refine aw_get (pc := 25) d_M_house_25 lf_M_7 hg_36 rfl ?_
      refine aw_iload_n (pc := 28) d_M_house_28 rfl rfl ?_
      refine aw_ildN (pc := 29) (j := j) d_M_house_29 hg_37 a1 rfl (by omega) (by decide) ?_
      refine aw_istore (pc := 30) (ls' := [(0, _), (1, _), (2, _), (3, _), (4, _), (5, _)]) d_M_house_30 (by decide) rfl ?_
      refine aw_aload_n (pc := 32) d_M_house_32 rfl rfl ?_
      refine aw_get (pc := 33) d_M_house_33 lf_M_7 hg_36 rfl ?_
      refine aw_iload_n (pc := 36) d_M_house_36 rfl rfl ?_
      refine aw_iload (pc := 37) d_M_house_37 rfl ?_
      refine aw_istN (pc := 39) (j := j) (v := f) d_M_house_39 hg_37 a1 rfl rfl (by omega) (by decide) (hs_37 _) ?_
      refine aw_aload_n (pc := 40) d_M_house_40 rfl rfl ?_
      refine aw_get (pc := 41) d_M_house_41 lf_M_7 hg_36 rfl ?_
      refine aw_bipush (pc := 44) (v := 14) d_M_house_44 (by decide) ?_
      refine aw_dup2 (pc := 46) d_M_house_46 rfl rfl ?_
      refine aw_ildN (pc := 47) (j := 14) d_M_house_47 hg_37 rfl rfl (by decide) (by decide) ?_
      refine aw_iconst (pc := 48) (v := 1) d_M_house_48 (by decide) ?_
      refine aw_iload_n (pc := 49) d_M_house_49 rfl rfl ?_
      refine aw_ishl (pc := 50) d_M_house_50 ?_
      refine aw_iconst (pc := 51) (v := (-1)) d_M_house_51 (by decide) ?_
      refine aw_ixor (pc := 52) d_M_house_52 ?_
      refine aw_iand (pc := 53) d_M_house_53 ?_
      refine aw_top (y := nI (sb (T 6 0) j false)) (by rw [e14]; exact sb_off ok0 (by omega)) ?_
      refine aw_istN (pc := 54) (j := 14) (v := _) d_M_house_54 hg_37 rfl rfl rfl (by decide) (by decide) (hs_37 _) ?_
      refine aw_aload_n (pc := 55) d_M_house_55 rfl rfl ?_
      refine aw_get (pc := 56) d_M_house_56 lf_M_7 hg_36 rfl ?_
      refine aw_bipush (pc := 59) (v := 14) d_M_house_59 (by decide) ?_
      refine aw_dup2 (pc := 61) d_M_house_61 rfl rfl ?_
      refine aw_ildN (pc := 62) (j := 14) d_M_house_62 hg_37 rfl rfl (by decide) (by decide) ?_
      refine aw_iload_n (pc := 63) d_M_house_63 rfl rfl ?_
      refine aw_bz (pc := 64) (tgt := 73) d_M_house_64 (by decide) (fun h64 => ?_) (fun h64 => ?_)
      · refine aw_iconst (pc := 73) (v := 0) d_M_house_73 (by decide) ?_
        refine aw_ior (pc := 74) d_M_house_74 ?_
        refine aw_top (y := nI (sb (T 6 0) j (decide p))) (by rw [decide_eq_false h64, up_s]; exact or_0 _) ?_
        refine aw_istN (pc := 75) (j := 14) (v := _) d_M_house_75 hg_37 rfl rfl rfl (by decide) (by decide) (hs_37 _) ?_
        exact k76 _ hF _ (frA_t (frA_t (frA_u _ _ _ (by decide)) (frA_u _ _ _ (by decide))) (frA_u _ _ _ (by decide))) rfl
      · refine aw_iconst (pc := 67) (v := 1) d_M_house_67 (by decide) ?_
        refine aw_iload_n (pc := 68) d_M_house_68 rfl rfl ?_
        refine aw_ishl (pc := 69) d_M_house_69 ?_
        refine aw_goto (pc := 70) (tgt := 74) d_M_house_70 (by decide) ?_
        refine aw_ior (pc := 74) d_M_house_74 ?_
        refine aw_top (y := nI (sb (T 6 0) j (decide p))) (by rw [decide_eq_true h64, up_s]; exact (or_bit (by omega)).trans (by rw [sb_on (sb_lt _ _ _) (by omega), sb_twice])) ?_
        refine aw_istN (pc := 75) (j := 14) (v := _) d_M_house_75 hg_37 rfl rfl rfl (by decide) (by decide) (hs_37 _) ?_
        exact k76 _ hF _ (frA_t (frA_t (frA_u _ _ _ (by decide)) (frA_u _ _ _ (by decide))) (frA_u _ _ _ (by decide))) rfl
    · have _ := h21
      refine aw_bipush (pc := 21) (v := (-2)) d_M_house_21 (by decide) ?_
      refine aw_iret (pc := 23) d_M_house_23 rfl ?_
      unfold aHouse hoT
      rw [if_neg (fun z => h21 z.2), if_neg (fun z => z h7), if_pos h21]
      exact pN_r h _
  · refine aw_iconst (pc := 7) (v := (-1)) d_M_house_7 (by decide) ?_
    refine aw_iret (pc := 8) d_M_house_8 rfl ?_
    unfold aHouse hoT
    rw [if_pos h7, if_neg (fun z => h7 z.1)]
    exact pN_r h _
end HOUSE

