/-! seen, forget: both sides -/
def aSeen (T : town) (h : Int32) : Int32 := if ¬ (0 ≤ h ∧ h ≤ 11) then -1 else if T 6 7 = 8 then -4 else nI (T 6 7 + 1)
def snU (T : town) (j b : Nat) : town := u2 (u1 (u1 T 7 (up (T 7) (T 6 7) j)) 8 (up (T 8) (T 6 7) b)) 6 7 (T 6 7 + 1)
def snT (T : town) (h : Int32) (b : Bool) : town := if (0 ≤ h ∧ h ≤ 11) ∧ ¬ T 6 7 = 8 then snU T h.toNatClampNeg (if b = true then 1 else 0) else T
theorem ok_sn {T : town} (hT : okT T) {j b : Nat} (hj : j < 12) (hb : b ≤ 1) (h8 : ¬ T 6 7 = 8) : okT (snU T j b) := by
  obtain ⟨h0, h1, h2, h3, h4, h5, h6, h7, h8', h9, h10, h11⟩ := hT
  exact ⟨h0, h1, h2, h3, h4, h5, h6, h7, h8', h9, show T 6 7 + 1 ≤ 8 by omega, fun i hi => ⟨up_lt hj (h11 i hi).1, up_le hb (h11 i hi).2⟩⟩
theorem ok_fg {T : town} (hT : okT T) : okT (u2 T 6 7 0) := by
  obtain ⟨h0, h1, h2, h3, h4, h5, h6, h7, h8', h9, h10, h11⟩ := hT
  exact ⟨h0, h1, h2, h3, h4, h5, h6, h7, h8', h9, show 0 ≤ 8 by omega, h11⟩
theorem sn_any {f g : Nat → Nat} {n j b x c : Nat} : (∃ i, i < n + 1 ∧ up f n j i = x ∧ up g n b i = c) ↔ (∃ i, i < n ∧ f i = x ∧ g i = c) ∨ (j = x ∧ b = c) := by
  constructor
  · rintro ⟨i, hi, h1, h2⟩
    by_cases e : i = n
    · subst e; rw [up_s] at h1 h2; exact Or.inr ⟨h1, h2⟩
    · rw [up_n _ _ e] at h1 h2; exact Or.inl ⟨i, by omega, h1, h2⟩
  · rintro (⟨i, hi, h1, h2⟩ | ⟨h1, h2⟩)
    · exact ⟨i, by omega, by rw [up_n _ _ (by omega)]; exact h1, by rw [up_n _ _ (by omega)]; exact h2⟩
    · exact ⟨n, by omega, by rw [up_s]; exact h1, by rw [up_s]; exact h2⟩
theorem hm_sn (T : town) {j : Nat} (b : Nat) (hj : j < 12) : hm (snU T j b) = if b = 1 then hm T ||| 2 ^ j else hm T := by
  have hl : (if b = 1 then hm T ||| 2 ^ j else hm T) < 4096 := by
    split
    · exact or_lt (hm_lt T) hj
    · exact hm_lt T
  refine bits_ext (n := 12) (hm_lt _) hl (fun x hx => ?_)
  apply Bool.eq_iff_iff.mpr
  rw [hm_bit _ hx]
  show (∃ i, i < T 6 7 + 1 ∧ up (T 7) (T 6 7) j i = x ∧ up (T 8) (T 6 7) b i = 1) ↔ _
  rw [sn_any, ← hm_bit T hx]
  by_cases e : b = 1
  · rw [if_pos e, Nat.testBit_or, Bool.or_eq_true, Nat.testBit_two_pow]
    simp [e]
  · rw [if_neg e]
    exact ⟨fun z => z.elim id (fun q => absurd q.2 e), Or.inl⟩
theorem mm_sn (T : town) {j : Nat} (b : Nat) (hj : j < 12) : mm (snU T j b) = if b = 0 then mm T ||| 2 ^ j else mm T := by
  have hl : (if b = 0 then mm T ||| 2 ^ j else mm T) < 4096 := by
    split
    · exact or_lt (mm_lt T) hj
    · exact mm_lt T
  refine bits_ext (n := 12) (mm_lt _) hl (fun x hx => ?_)
  apply Bool.eq_iff_iff.mpr
  rw [mm_bit _ hx]
  show (∃ i, i < T 6 7 + 1 ∧ up (T 7) (T 6 7) j i = x ∧ up (T 8) (T 6 7) b i = 0) ↔ _
  rw [sn_any, ← mm_bit T hx]
  by_cases e : b = 0
  · rw [if_pos e, Nat.testBit_or, Bool.or_eq_true, Nat.testBit_two_pow]
    simp [e]
  · rw [if_neg e]
    exact ⟨fun z => z.elim id (fun q => absurd q.2 e), Or.inl⟩
theorem hm_fg (T : town) : hm (u2 T 6 7 0) = 0 := by
  refine bits_ext (n := 12) (hm_lt _) (by decide) (fun x hx => ?_)
  rw [Nat.zero_testBit]
  apply Bool.eq_false_iff.mpr
  intro z
  obtain ⟨i, hi, -⟩ := (hm_bit _ hx).mp z
  exact absurd (show i < 0 from hi) (by omega)
theorem mm_fg (T : town) : mm (u2 T 6 7 0) = 0 := by
  refine bits_ext (n := 12) (mm_lt _) (by decide) (fun x hx => ?_)
  rw [Nat.zero_testBit]
  apply Bool.eq_false_iff.mpr
  intro z
  obtain ⟨i, hi, -⟩ := (mm_bit _ hx).mp z
  exact absurd (show i < 0 from hi) (by omega)
theorem snU_r (T : town) (j b : Nat) (x y : Nat) (h6 : ¬ x = 6) (h7 : ¬ x = 7) (h8 : ¬ x = 8) : snU T j b x y = T x y := by
  show (if x = 6 then _ else (if x = 8 then _ else (if x = 7 then _ else _) : Nat → Nat) y) = _
  rw [if_neg h6, if_neg h8, if_neg h7]
theorem sg_sn (T : town) (j b : Nat) : ∀ i, i < 16 → up (up (sg T) (2 * T 6 7 + 0) j) (2 * T 6 7 + 1) b i = sg (snU T j b) i := by
  intro i hi
  obtain ⟨m, c, hc, e⟩ : ∃ m c, c < 2 ∧ i = 2 * m + c := ⟨i / 2, i % 2, by omega, by omega⟩
  subst e
  rcases (show c = 0 ∨ c = 1 by omega) with rfl | rfl
  · rw [sg_0, up_n _ _ (by omega)]
    show _ = up (T 7) (T 6 7) j m
    by_cases e : m = T 6 7
    · rw [e, up_s, up_s]
    · rw [up_n _ _ (by omega), up_n _ _ e, sg_0]
  · rw [sg_1]
    show _ = up (T 8) (T 6 7) b m
    by_cases e : m = T 6 7
    · rw [e, up_s, up_s]
    · rw [up_n _ _ (by omega), up_n _ _ e, up_n _ _ (by omega), sg_1]
theorem bk_sn (T : town) (j b : Nat) : bk (snU T j b) = bk T := by
  funext i; unfold bk; rfl
section SEEN
variable {A : Nat → List Int32} {I : Nat → Nat → Int32} {J : Nat → List Int64} {U : Nat → Nat → Int64} {T : town} {np : Nat} {PD : Nat → Nat} {km : Nat} {TI : Nat → town}
set_option maxHeartbeats 1000000 in
set_option maxRecDepth 20000 in
theorem v_seen (h : ci T np PD km TI A I J) (a : Int32) {p : Prop} [Decidable p] : AM m_V_seen r_V_seen (HH A I J U) [.ref 0, .int a, .int (b2 p)] (pV (snT T a (decide p)) np PD km TI (.int (aSeen T a)) A I J) := by
  obtain ⟨hT, hE, -⟩ := id h
  have o8 := hT.2.2.2.2.2.2.2.2.2.2.1
  obtain ⟨⟨a1, a2, a3, a4, a5, a6⟩, b6, b7, b8, b9, b10, b11, b12, b13, b14, b15⟩ := id hE
  refine am_of (by decide) rfl (by first | decide | exact Nat.le_of_ble_eq_true rfl) ?_
  refine aw_iload_n (pc := 0) d_V_seen_0 rfl rfl ?_
  refine aw_iconst (pc := 1) (v := 0) d_V_seen_1 (by decide) ?_
  refine aw_bipush (pc := 2) (v := 11) d_V_seen_2 (by decide) ?_
  refine aw_callS1 (pc := 4) (c_V_within _ _ _ _) ok_V_within d_V_seen_4 lm_V_50 rfl rfl ⟨by decide, by decide⟩ (Nat.le_of_ble_eq_true rfl) rfl rfl ⟨by decide, by decide⟩ ?_
  refine aw_bn (pc := 7) (tgt := 12) d_V_seen_7 (by decide) (fun h7 => ?_) (fun h7 => ?_)
  · by_cases e8 : T 6 7 = 8
    · refine aw_aload_n (pc := 12) d_V_seen_12 rfl rfl ?_
      refine aw_get (pc := 13) d_V_seen_13 lf_V_10 hg_0 rfl ?_
      refine aw_geti (pc := 16) (y := (nI (T 6 7))) d_V_seen_16 lf_V_167 hg_1 rfl b13 ?_
      refine aw_bipush (pc := 19) (v := 8) d_V_seen_19 (by decide) ?_
      refine awn_lt (pc := 21) (tgt := 27) (T 6 7) (8) d_V_seen_21 (by decide) rfl rfl (by omega) (by omega) (fun hh => absurd hh (by omega)) (fun _ => ?_)
      refine aw_bipush (pc := 24) (v := (-4)) d_V_seen_24 (by decide) ?_
      refine aw_iret (pc := 26) d_V_seen_26 rfl ?_
      unfold aSeen snT
      rw [if_neg (fun z => z.2 e8), if_neg (fun z => z h7), if_pos e8]
      exact pV_r h _
    · have ea : aSeen T a = nI (T 6 7 + 1) := by unfold aSeen; rw [if_neg (fun z => z h7), if_neg e8]
      have et : snT T a (decide p) = snU T a.toNatClampNeg (if decide p = true then 1 else 0) := by unfold snT; rw [if_pos ⟨h7, e8⟩]
      have hj := clp (n := 11) (by omega) h7
      rw [ea, et]
      generalize a.toNatClampNeg = j at hj
      obtain ⟨hj, rfl⟩ := hj
      have hob := ok_sn hT (j := j) (b := if decide p = true then 1 else 0) (by omega) (by split <;> omega) e8
      have k64 : ∀ I1 : Nat → Nat → Int32, frI I I1 [1] → enS A (u2 I1 1 13 (nI (T 6 7 + 1))) 1 (snU T j (if decide p = true then 1 else 0)) → I1 1 13 = nI (T 6 7) → AW m_V_seen r_V_seen ax_E0 (ax_Zm (pV (snU T j (if decide p = true then 1 else 0)) np PD km TI (.int (nI (T 6 7 + 1))) A I J) 0 0) (HH A I1 J U) 0 0 64 [(0, .ref 0), (1, .int (nI j)), (2, .int (b2 p))] [] := by
        intro I1 f1 f2 f3
        refine aw_aload_n (pc := 64) d_V_seen_64 rfl rfl ?_
        refine aw_get (pc := 65) d_V_seen_65 lf_V_10 hg_0 rfl ?_
        refine aw_dup (pc := 68) d_V_seen_68 rfl ?_
        refine aw_geti (pc := 69) (y := (nI (T 6 7))) d_V_seen_69 lf_V_167 hg_1 rfl f3 ?_
        refine aw_iconst (pc := 72) (v := 1) d_V_seen_72 (by decide) ?_
        refine aw_iadd (pc := 73) d_V_seen_73 ?_
        refine aw_top (nI_1 _) ?_
        refine aw_put (pc := 74) d_V_seen_74 lp_V_167 hg_1 (ft_int _) (Nat.le_of_ble_eq_true rfl) (hp_1_13 _) ?_
        refine aw_aload_n (pc := 77) d_V_seen_77 rfl rfl ?_
        refine aw_get (pc := 78) d_V_seen_78 lf_V_10 hg_0 rfl ?_
        refine aw_get (pc := 81) d_V_seen_81 lf_V_167 hg_1 rfl ?_
        refine aw_iret (pc := 84) d_V_seen_84 rfl ?_
        exact ⟨rfl, _, _, _, _, rfl, ci_1 h (frA_r _ _) (frI_t f1 (frI_u _ _ _ _ (by decide))) f2 hob, hi_of (frA_r _ []) (frI_t f1 (frI_u _ _ _ _ (List.mem_singleton.mpr rfl))) (by decide) (by decide)⟩
      refine aw_aload_n (pc := 12) d_V_seen_12 rfl rfl ?_
      refine aw_get (pc := 13) d_V_seen_13 lf_V_10 hg_0 rfl ?_
      refine aw_geti (pc := 16) (y := (nI (T 6 7))) d_V_seen_16 lf_V_167 hg_1 rfl b13 ?_
      refine aw_bipush (pc := 19) (v := 8) d_V_seen_19 (by decide) ?_
      refine awn_lt (pc := 21) (tgt := 27) (T 6 7) (8) d_V_seen_21 (by decide) rfl rfl (by omega) (by omega) (fun _ => ?_) (fun hh => absurd hh (by omega))
      refine aw_iload_n (pc := 27) d_V_seen_27 rfl rfl ?_
      refine aw_bz (pc := 28) (tgt := 49) d_V_seen_28 (by decide) (fun h28 => ?_) (fun h28 => ?_)
      · have eb : (if decide p = true then 1 else 0) = 0 := by rw [decide_eq_false h28]; rfl
        refine aw_aload_n (pc := 49) d_V_seen_49 rfl rfl ?_
        refine aw_get (pc := 50) d_V_seen_50 lf_V_10 hg_0 rfl ?_
        refine aw_dup (pc := 53) d_V_seen_53 rfl ?_
        refine aw_geti (pc := 54) (y := (nI (mm T))) d_V_seen_54 lf_V_173 hg_1 rfl b15 ?_
        refine aw_iconst (pc := 57) (v := 1) d_V_seen_57 (by decide) ?_
        refine aw_iload_n (pc := 58) d_V_seen_58 rfl rfl ?_
        refine aw_ishl (pc := 59) d_V_seen_59 ?_
        refine aw_ior (pc := 60) d_V_seen_60 ?_
        refine aw_top (or_bit (i := j) (by omega)) ?_
        refine aw_put (pc := 61) d_V_seen_61 lp_V_173 hg_1 (ft_int _) (Nat.le_of_ble_eq_true rfl) (hp_1_15 _) ?_
        refine k64 _ (frI_u _ _ _ _ (by decide)) ⟨⟨a1, a2, a3, a4, a5, a6⟩, b6, b7, b8, b9, b10, b11, b12, rfl, ?_, ?_⟩ b13
        · rw [hm_sn T _ (by omega), eb, if_neg (by omega)]; exact b14
        · rw [mm_sn T _ (by omega), eb, if_pos rfl]; rfl
      · have eb : (if decide p = true then 1 else 0) = 1 := by rw [decide_eq_true h28]; rfl
        refine aw_aload_n (pc := 31) d_V_seen_31 rfl rfl ?_
        refine aw_get (pc := 32) d_V_seen_32 lf_V_10 hg_0 rfl ?_
        refine aw_dup (pc := 35) d_V_seen_35 rfl ?_
        refine aw_geti (pc := 36) (y := (nI (hm T))) d_V_seen_36 lf_V_170 hg_1 rfl b14 ?_
        refine aw_iconst (pc := 39) (v := 1) d_V_seen_39 (by decide) ?_
        refine aw_iload_n (pc := 40) d_V_seen_40 rfl rfl ?_
        refine aw_ishl (pc := 41) d_V_seen_41 ?_
        refine aw_ior (pc := 42) d_V_seen_42 ?_
        refine aw_top (or_bit (i := j) (by omega)) ?_
        refine aw_put (pc := 43) d_V_seen_43 lp_V_170 hg_1 (ft_int _) (Nat.le_of_ble_eq_true rfl) (hp_1_14 _) ?_
        refine aw_goto (pc := 46) (tgt := 64) d_V_seen_46 (by decide) ?_
        refine k64 _ (frI_u _ _ _ _ (by decide)) ⟨⟨a1, a2, a3, a4, a5, a6⟩, b6, b7, b8, b9, b10, b11, b12, rfl, ?_, ?_⟩ b13
        · rw [hm_sn T _ (by omega), eb, if_pos rfl]; rfl
        · rw [mm_sn T _ (by omega), eb, if_neg (by omega)]; exact b15
  · have _ := h7
    refine aw_iconst (pc := 10) (v := (-1)) d_V_seen_10 (by decide) ?_
    refine aw_iret (pc := 11) d_V_seen_11 rfl ?_
    unfold aSeen snT
    rw [if_pos h7, if_neg (fun z => h7 z.1)]
    exact pV_r h _
set_option maxHeartbeats 1000000 in
set_option maxRecDepth 20000 in
theorem n_seen (h : mi T np PD km TI A I J) (a : Int32) {p : Prop} [Decidable p] : AM m_M_seen r_M_seen (HH A I J U) [.ref 36, .int a, .int (b2 p)] (pN (snT T a (decide p)) np PD km TI (.int (aSeen T a)) A I J) := by
  obtain ⟨hT, hE, -⟩ := id h
  have o8 := hT.2.2.2.2.2.2.2.2.2.2.1
  obtain ⟨⟨a1, a2, a3, a4⟩, b1, b2_, b3, b4⟩ := id hE
  refine am_of (by decide) rfl (by first | decide | exact Nat.le_of_ble_eq_true rfl) ?_
  refine aw_iload_n (pc := 0) d_M_seen_0 rfl rfl ?_
  refine aw_callS1 (pc := 1) (c_M_isHouse _ _) ok_M_isHouse d_M_seen_1 lm_M_56 rfl rfl ⟨by decide, by decide⟩ (Nat.le_of_ble_eq_true rfl) rfl rfl ⟨by decide, by decide⟩ ?_
  refine aw_bn (pc := 4) (tgt := 9) d_M_seen_4 (by decide) (fun h7 => ?_) (fun h7 => ?_)
  · by_cases e8 : T 6 7 = 8
    · refine aw_aload_n (pc := 9) d_M_seen_9 rfl rfl ?_
      refine aw_geti (pc := 10) (y := (nI (T 6 7))) d_M_seen_10 lf_M_126 hg_36 rfl b4 ?_
      refine aw_bipush (pc := 13) (v := 8) d_M_seen_13 (by decide) ?_
      refine awn_ne (pc := 15) (tgt := 21) (T 6 7) (8) d_M_seen_15 (by decide) rfl rfl (by omega) (by omega) (fun hh => absurd hh (by omega)) (fun _ => ?_)
      refine aw_bipush (pc := 18) (v := (-4)) d_M_seen_18 (by decide) ?_
      refine aw_iret (pc := 20) d_M_seen_20 rfl ?_
      unfold aSeen snT
      rw [if_neg (fun z => z.2 e8), if_neg (fun z => z h7), if_pos e8]
      exact pN_r h _
    · have ea : aSeen T a = nI (T 6 7 + 1) := by unfold aSeen; rw [if_neg (fun z => z h7), if_neg e8]
      have et : snT T a (decide p) = snU T a.toNatClampNeg (if decide p = true then 1 else 0) := by unfold snT; rw [if_pos ⟨h7, e8⟩]
      have hj := clp (n := 11) (by omega) h7
      rw [ea, et]
      generalize a.toNatClampNeg = j at hj
      obtain ⟨hj, rfl⟩ := hj
      have hob := ok_sn hT (j := j) (b := if decide p = true then 1 else 0) (by omega) (by split <;> omega) e8
      have k54 : AW m_M_seen r_M_seen ax_E0 (ax_Zm (pN (snU T j (if decide p = true then 1 else 0)) np PD km TI (.int (nI (T 6 7 + 1))) A I J) 0 0) (HH (u1 A 41 (lst 16 (up (sg T) (2 * T 6 7 + 0) j))) I J U) 0 0 54 [(0, .ref 36), (1, .int (nI j)), (2, .int (b2 p))] [.int (nI (if decide p = true then 1 else 0)), .int (2 * nI (T 6 7) + 1), .ref 41] := by
        refine aw_istN (pc := 54) (j := 2 * T 6 7 + 1) (v := _) d_M_seen_54 hg_41 rfl (i2_1 _) rfl (by omega) (by decide) (hs_41 _) ?_
        refine aw_aload_n (pc := 55) d_M_seen_55 rfl rfl ?_
        refine aw_dup (pc := 56) d_M_seen_56 rfl ?_
        refine aw_geti (pc := 57) (y := (nI (T 6 7))) d_M_seen_57 lf_M_126 hg_36 rfl b4 ?_
        refine aw_iconst (pc := 60) (v := 1) d_M_seen_60 (by decide) ?_
        refine aw_iadd (pc := 61) d_M_seen_61 ?_
        refine aw_top (nI_1 _) ?_
        refine aw_put (pc := 62) d_M_seen_62 lp_M_126 hg_36 (ft_int _) (Nat.le_of_ble_eq_true rfl) (hp_36_7 _) ?_
        refine aw_aload_n (pc := 65) d_M_seen_65 rfl rfl ?_
        refine aw_get (pc := 66) d_M_seen_66 lf_M_126 hg_36 rfl ?_
        refine aw_iret (pc := 69) d_M_seen_69 rfl ?_
        exact ⟨rfl, _, _, _, _, rfl, mi_T h (frA_t (frA_u _ _ _ (by decide)) (frA_u _ _ _ (by decide))) rfl ⟨⟨by rw [bk_sn]; exact a1, a2, a3.trans (lst_cong (lt_row (fun x y _ _ => snU_r T _ _ x y (by omega) (by omega) (by omega)))), lst_cong (sg_sn T _ _)⟩, b1, b2_, b3, rfl⟩ hob, lo_of (frA_t (frA_u _ _ _ (List.mem_singleton.mpr rfl)) (frA_u _ _ _ (List.mem_singleton.mpr rfl))) (frI_u _ _ _ _ (List.mem_singleton.mpr rfl)) (by decide) (by decide)⟩
      refine aw_aload_n (pc := 9) d_M_seen_9 rfl rfl ?_
      refine aw_geti (pc := 10) (y := (nI (T 6 7))) d_M_seen_10 lf_M_126 hg_36 rfl b4 ?_
      refine aw_bipush (pc := 13) (v := 8) d_M_seen_13 (by decide) ?_
      refine awn_ne (pc := 15) (tgt := 21) (T 6 7) (8) d_M_seen_15 (by decide) rfl rfl (by omega) (by omega) (fun _ => ?_) (fun hh => absurd hh (by omega))
      refine aw_aload_n (pc := 21) d_M_seen_21 rfl rfl ?_
      refine aw_get (pc := 22) d_M_seen_22 lf_M_26 hg_36 rfl ?_
      refine aw_iconst (pc := 25) (v := 2) d_M_seen_25 (by decide) ?_
      refine aw_aload_n (pc := 26) d_M_seen_26 rfl rfl ?_
      refine aw_geti (pc := 27) (y := (nI (T 6 7))) d_M_seen_27 lf_M_126 hg_36 rfl b4 ?_
      refine aw_imul (pc := 30) d_M_seen_30 ?_
      refine aw_iload_n (pc := 31) d_M_seen_31 rfl rfl ?_
      refine aw_istN (pc := 32) (j := 2 * T 6 7 + 0) (v := j) d_M_seen_32 hg_41 a4 (i2_0 _) rfl (by omega) (by decide) (hs_41 _) ?_
      refine aw_aload_n (pc := 33) d_M_seen_33 rfl rfl ?_
      refine aw_get (pc := 34) d_M_seen_34 lf_M_26 hg_36 rfl ?_
      refine aw_iconst (pc := 37) (v := 2) d_M_seen_37 (by decide) ?_
      refine aw_aload_n (pc := 38) d_M_seen_38 rfl rfl ?_
      refine aw_geti (pc := 39) (y := (nI (T 6 7))) d_M_seen_39 lf_M_126 hg_36 rfl b4 ?_
      refine aw_imul (pc := 42) d_M_seen_42 ?_
      refine aw_iconst (pc := 43) (v := 1) d_M_seen_43 (by decide) ?_
      refine aw_iadd (pc := 44) d_M_seen_44 ?_
      refine aw_iload_n (pc := 45) d_M_seen_45 rfl rfl ?_
      refine aw_bz (pc := 46) (tgt := 53) d_M_seen_46 (by decide) (fun h46 => ?_) (fun h46 => ?_)
      · refine aw_iconst (pc := 53) (v := 0) d_M_seen_53 (by decide) ?_
        refine aw_eq k54 rfl rfl ?_
        rw [if_neg (fun z => h46 (of_decide_eq_true z))]
        rfl
      · refine aw_iconst (pc := 49) (v := 1) d_M_seen_49 (by decide) ?_
        refine aw_goto (pc := 50) (tgt := 54) d_M_seen_50 (by decide) ?_
        refine aw_eq k54 rfl rfl ?_
        rw [if_pos (decide_eq_true h46)]
        rfl
  · have _ := h7
    refine aw_iconst (pc := 7) (v := (-1)) d_M_seen_7 (by decide) ?_
    refine aw_iret (pc := 8) d_M_seen_8 rfl ?_
    unfold aSeen snT
    rw [if_pos h7, if_neg (fun z => h7 z.1)]
    exact pN_r h _
set_option maxHeartbeats 1000000 in
set_option maxRecDepth 20000 in
theorem v_forget (h : ci T np PD km TI A I J) : AM m_V_forget r_V_forget (HH A I J U) [.ref 0] (pV (u2 T 6 7 0) np PD km TI (.int (nI (T 6 7))) A I J) := by
  obtain ⟨hT, hE, -⟩ := id h
  obtain ⟨⟨a1, a2, a3, a4, a5, a6⟩, b6, b7, b8, b9, b10, b11, b12, b13, b14, b15⟩ := id hE
  refine am_of (by decide) rfl (by first | decide | exact Nat.le_of_ble_eq_true rfl) ?_
  refine aw_aload_n (pc := 0) d_V_forget_0 rfl rfl ?_
  refine aw_get (pc := 1) d_V_forget_1 lf_V_10 hg_0 rfl ?_
  refine aw_geti (pc := 4) (y := (nI (T 6 7))) d_V_forget_4 lf_V_167 hg_1 rfl b13 ?_
  refine aw_istore_n (pc := 7) (ls' := [(0, _), (1, _)]) d_V_forget_7 rfl (by decide) rfl ?_
  refine aw_aload_n (pc := 8) d_V_forget_8 rfl rfl ?_
  refine aw_get (pc := 9) d_V_forget_9 lf_V_10 hg_0 rfl ?_
  refine aw_iconst (pc := 12) (v := 0) d_V_forget_12 (by decide) ?_
  refine aw_put (pc := 13) d_V_forget_13 lp_V_167 hg_1 (ft_int _) (Nat.le_of_ble_eq_true rfl) (hp_1_13 _) ?_
  refine aw_aload_n (pc := 16) d_V_forget_16 rfl rfl ?_
  refine aw_get (pc := 17) d_V_forget_17 lf_V_10 hg_0 rfl ?_
  refine aw_iconst (pc := 20) (v := 0) d_V_forget_20 (by decide) ?_
  refine aw_put (pc := 21) d_V_forget_21 lp_V_170 hg_1 (ft_int _) (Nat.le_of_ble_eq_true rfl) (hp_1_14 _) ?_
  refine aw_aload_n (pc := 24) d_V_forget_24 rfl rfl ?_
  refine aw_get (pc := 25) d_V_forget_25 lf_V_10 hg_0 rfl ?_
  refine aw_iconst (pc := 28) (v := 0) d_V_forget_28 (by decide) ?_
  refine aw_put (pc := 29) d_V_forget_29 lp_V_173 hg_1 (ft_int _) (Nat.le_of_ble_eq_true rfl) (hp_1_15 _) ?_
  refine aw_iload_n (pc := 32) d_V_forget_32 rfl rfl ?_
  refine aw_iret (pc := 33) d_V_forget_33 rfl ?_
  exact ⟨rfl, _, _, _, _, rfl, ci_1 h (frA_r _ _) (frI_t (frI_t (frI_u _ _ _ _ (by decide)) (frI_u _ _ _ _ (by decide))) (frI_u _ _ _ _ (by decide))) ⟨⟨a1, a2, a3, a4, a5, a6⟩, b6, b7, b8, b9, b10, b11, b12, rfl, by rw [hm_fg]; rfl, by rw [mm_fg]; rfl⟩ (ok_fg hT), hi_of (frA_r _ []) (frI_t (frI_t (frI_u _ _ _ _ (List.mem_singleton.mpr rfl)) (frI_u _ _ _ _ (List.mem_singleton.mpr rfl))) (frI_u _ _ _ _ (List.mem_singleton.mpr rfl))) (by decide) (by decide)⟩
set_option maxHeartbeats 1000000 in
set_option maxRecDepth 20000 in
theorem n_forget (h : mi T np PD km TI A I J) : AM m_M_forget r_M_forget (HH A I J U) [.ref 36] (pN (u2 T 6 7 0) np PD km TI (.int (nI (T 6 7))) A I J) := by
  obtain ⟨hT, hE, -⟩ := id h
  obtain ⟨⟨a1, a2, a3, a4⟩, b1, b2_, b3, b4⟩ := id hE
  refine am_of (by decide) rfl (by first | decide | exact Nat.le_of_ble_eq_true rfl) ?_
  refine aw_aload_n (pc := 0) d_M_forget_0 rfl rfl ?_
  refine aw_geti (pc := 1) (y := (nI (T 6 7))) d_M_forget_1 lf_M_126 hg_36 rfl b4 ?_
  refine aw_istore_n (pc := 4) (ls' := [(0, _), (1, _)]) d_M_forget_4 rfl (by decide) rfl ?_
  refine aw_aload_n (pc := 5) d_M_forget_5 rfl rfl ?_
  refine aw_iconst (pc := 6) (v := 0) d_M_forget_6 (by decide) ?_
  refine aw_put (pc := 7) d_M_forget_7 lp_M_126 hg_36 (ft_int _) (Nat.le_of_ble_eq_true rfl) (hp_36_7 _) ?_
  refine aw_iload_n (pc := 10) d_M_forget_10 rfl rfl ?_
  refine aw_iret (pc := 11) d_M_forget_11 rfl ?_
  exact ⟨rfl, _, _, _, _, rfl, mi_T h (frA_r _ _) rfl ⟨⟨a1, a2, lst_lt6 a3, lst_sg6 a4⟩, b1, b2_, b3, rfl⟩ (ok_fg hT), lo_of (frA_r _ []) (frI_u _ _ _ _ (List.mem_singleton.mpr rfl)) (by decide) (by decide)⟩
end SEEN

