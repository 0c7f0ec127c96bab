/-! a year drawn -/
def yx (x : Nat) : Nat := (75 * x + 74) % 65537
def yn (x : Nat) : Nat := x / 8 % (if dk (x % 8) = 1 then 6 else 12)
def yS (T : town) (x : Nat) : town := if wy T (dk (x % 8)) (yn x) = 0 then acT T (dk (x % 8)) (yn x) else T
def yst (_ : Nat) (p : Nat × town) : Nat × town := (yx p.1, yS p.2 (yx p.1))
def yr (T : town) (s d : Nat) : town := (fd yst d 0 (s, T)).2
def aYear (T : town) (s d w : Int32) : Int32 := if ¬ (0 ≤ s ∧ s ≤ 9999 ∧ 1 ≤ d ∧ d ≤ 99 ∧ 0 ≤ w ∧ w ≤ 2) then -2 else if w = 0 then nI (fb_sm (fun j => cn (yr T s.toNatClampNeg d.toNatClampNeg 0 j)) 12) else if w = 1 then nI (yr T s.toNatClampNeg d.toNatClampNeg 6 5) else nI (cn (yr T s.toNatClampNeg d.toNatClampNeg 6 2))
theorem yx_lt (x : Nat) : yx x < 65537 := Nat.mod_lt _ (by decide)
theorem yx_eq {x : Nat} (hx : x < 65537) : (75 * nI x + 74) - (75 * nI x + 74) / 65537 * 65537 = nI (yx x) := by
  have e : (75 : Int32) * nI x + 74 = nI (75 * x + 74) := by
    have e1 : (75 : Int32) * nI x = nI (75 * x) := pk_mul 75 x
    rw [e1]; exact nI_add (75 * x) 74
  rw [e]
  exact pk_rem (a := 75 * x + 74) (d := 65537) (by omega) (by decide) (by decide)
theorem y8_eq {y : Nat} (hy : y < 65537) : nI y - nI y / 8 * 8 = nI (y % 8) := pk_rem (a := y) (d := 8) (by omega) (by decide) (by decide)
theorem yn_eq {y m : Nat} (hy : y < 65537) (h0 : 0 < m) (hm : m < 2 ^ 31) : nI y / 8 - nI y / 8 / nI m * nI m = nI (y / 8 % m) := by
  have e : nI y / 8 = nI (y / 8) := pk_div (a := y) (d := 8) (by omega) (by decide) (by decide)
  rw [e]
  exact pk_rem (by omega) h0 hm
theorem dk_lt (d : Nat) : dk d < 4 := by unfold dk; split; omega; split; omega; split <;> omega
theorem yn_lt (x : Nat) : yn x < 12 := by
  unfold yn
  split
  · have := Nat.mod_lt (x / 8) (show 0 < 6 by decide); omega
  · exact Nat.mod_lt _ (by decide)
theorem yn_lt6 {x : Nat} (h : dk (x % 8) = 1) : yn x < 6 := by
  unfold yn
  rw [if_pos h]
  exact Nat.mod_lt _ (by decide)
theorem ok_yS {T : town} (hT : okT T) (x : Nat) : okT (yS T x) := by
  unfold yS
  by_cases h : wy T (dk (x % 8)) (yn x) = 0
  · rw [if_pos h]
    exact ok_ac hT (dk_lt _) (yn_lt x) yn_lt6 h
  · rw [if_neg h]
    exact hT
theorem ok_yst : ∀ (k i : Nat) (p : Nat × town), okT p.2 → okT (fd yst k i p).2
  | 0, _, _, h => h
  | k + 1, i, p, h => ok_yst k (i + 1) (yst i p) (ok_yS h _)
theorem ok_yr {T : town} (hT : okT T) (s d : Nat) : okT (yr T s d) := ok_yst d 0 (s, T) hT
theorem cn_le12 (b : Nat) : cn b ≤ 12 := fb_ct_le _ _
section YEAR
variable {A : Nat → List Int32} {I : Nat → Nat → Int32} {J : Nat → List Int64} {U : Nat → Nat → Int64} {T : town}
set_option maxHeartbeats 1000000 in
set_option maxRecDepth 20000 in
theorem c_S_drawYear (hT : okT T) (hE : enS A I 22 T) {s d : Nat} (hs : s < 65537) (hd : d ≤ 99) : AM m_S_drawYear r_S_drawYear (HH A I J U) [.ref 22, .int (nI s), .int (nI d)] (pS A I J U 22 (yr T s d)) := by
  refine am_of (by decide) rfl (by first | decide | exact Nat.le_of_ble_eq_true rfl) ?_
  refine aw_iload_n (pc := 0) d_S_drawYear_0 rfl rfl ?_
  refine aw_istore_n (pc := 1) (ls' := [(0, _), (1, _), (2, _), (3, _)]) d_S_drawYear_1 rfl (by decide) rfl ?_
  refine aw_iconst (pc := 2) (v := 0) d_S_drawYear_2 (by decide) ?_
  refine aw_istore (pc := 3) (ls' := [(0, _), (1, _), (2, _), (3, _), (4, _)]) d_S_drawYear_3 (by decide) rfl ?_
  refine lp_i (fun i (x : (Nat → List Int32) × (Nat → Nat → Int32) × Nat × town) => AW m_S_drawYear r_S_drawYear ax_E0 (ax_Zm (pS A I J U 22 (yr T s d)) 0 0) (HH x.1 x.2.1 J U) 0 0 5 [(0, .ref 22), (1, .int (nI s)), (2, .int (nI d)), (3, .int (nI x.2.2.1)), (4, .int (nI i))] []) (fun i x => yr T s d = (fd yst (d - i) i x.2.2).2 ∧ x.2.2.1 < 65537 ∧ okT x.2.2.2 ∧ enS x.1 x.2.1 22 x.2.2.2 ∧ frA A x.1 (str 22) ∧ frI I x.2.1 [22]) d ?_ ?_ d 0 (A, I, s, T) (by omega) ⟨rfl, hs, hT, hE, frA_r _ _, frI_r _ _⟩
  · rintro ⟨A2, I2, x, T2⟩ ⟨hV, -, -, h1, h2, h3⟩
    rw [fd_0] at hV
    have hV : yr T s d = T2 := hV
    refine aw_iload (pc := 5) d_S_drawYear_5 rfl ?_
    refine aw_iload_n (pc := 7) d_S_drawYear_7 rfl rfl ?_
    refine awn_ge (pc := 8) (tgt := 76) (d) (d) d_S_drawYear_8 (by decide) rfl rfl (by omega) (by omega) (fun _ => ?_) (fun hh => absurd hh (by omega))
    refine aw_vret (pc := 76) d_S_drawYear_76 rfl ?_
    exact ⟨rfl, A2, I2, rfl, (by rw [hV]; exact h1), h2, h3⟩
  · rintro i ⟨A2, I2, x, T2⟩ hi ⟨hV, hx, hT2, h1, h2, h3⟩ ih
    have hx : x < 65537 := hx
    have hT2 : okT T2 := hT2
    have h1 : enS A2 I2 22 T2 := h1
    rw [fd_s _ hi] at hV
    have hV : yr T s d = (fd yst (d - (i + 1)) (i + 1) (yx x, yS T2 (yx x))).2 := hV
    have hy := yx_lt x
    have hk := dk_lt (yx x % 8)
    have hn := yn_lt (yx x)
    have fin : AW m_S_drawYear r_S_drawYear ax_E0 (ax_Zm (pS A I J U 22 (yr T s d)) 0 0) (HH A2 I2 J U) 0 0 49 [(0, .ref 22), (1, .int (nI s)), (2, .int (nI d)), (3, .int (nI (yx x))), (4, .int (nI i)), (5, .int (nI (dk (yx x % 8))))] [.int (nI (yn (yx x)))] := by
      refine aw_istore (pc := 49) (ls' := [(0, _), (1, _), (2, _), (3, _), (4, _), (5, _), (6, _)]) d_S_drawYear_49 (by decide) rfl ?_
      refine aw_aload_n (pc := 51) d_S_drawYear_51 rfl rfl ?_
      refine aw_iload (pc := 52) d_S_drawYear_52 rfl ?_
      refine aw_iload (pc := 54) d_S_drawYear_54 rfl ?_
      refine aw_callV1 (pc := 56) (c_S_whyNot hT2 h1 hk hn) ok_S_whyNot d_S_drawYear_56 lm_S_102 hg_22 rfl rfl ⟨by decide, by decide⟩ (Nat.le_of_ble_eq_true rfl) rfl rfl ⟨by decide, by decide⟩ ?_
      refine aw_if_ne (pc := 59) (tgt := 70) d_S_drawYear_59 (by decide) (fun h59 => ?_) (fun h59 => ?_)
      · have h59 : ¬ wy T2 (dk (yx x % 8)) (yn (yx x)) = 0 := fun z => h59 (by rw [z]; rfl)
        refine aw_incN (pc := 70) (ls' := [(0, _), (1, _), (2, _), (3, _), (4, _), (5, _), (6, _)]) (i := i) d_S_drawYear_70 rfl rfl (by decide) rfl ?_
        refine aw_goto (pc := 73) (tgt := 5) d_S_drawYear_73 (by decide) ?_
        refine aw_sub (ls' := [(0, _), (1, _), (2, _), (3, _), (4, _)]) [0, 1, 2, 3, 4] rfl ?_
        refine ih (A2, I2, yx x, T2) ⟨?_, hy, hT2, h1, h2, h3⟩
        rw [hV, yS, if_neg h59]
      · have h59 : wy T2 (dk (yx x % 8)) (yn (yx x)) = 0 := (nI_eq (b := 0) (by unfold wy; split; omega; split; omega; split <;> omega) (by omega)).mp h59
        refine aw_aload_n (pc := 62) d_S_drawYear_62 rfl rfl ?_
        refine aw_iload (pc := 63) d_S_drawYear_63 rfl ?_
        refine aw_iload (pc := 65) d_S_drawYear_65 rfl ?_
        refine aw_callVq (pc := 67) (c_S_carryOut hT2 h1 hk hn yn_lt6) ok_S_carryOut d_S_drawYear_67 lm_S_105 hg_22 rfl rfl ⟨by decide, by decide⟩ (Nat.le_of_ble_eq_true rfl) rfl rfl ⟨by decide, by decide⟩ (fun rr hh2 hq => ?_)
        obtain ⟨rfl, A3, I3, rfl, f1, f2, f3⟩ := hq
        refine aw_incN (pc := 70) (ls' := [(0, _), (1, _), (2, _), (3, _), (4, _), (5, _), (6, _)]) (i := i) d_S_drawYear_70 rfl rfl (by decide) rfl ?_
        refine aw_goto (pc := 73) (tgt := 5) d_S_drawYear_73 (by decide) ?_
        refine aw_sub (ls' := [(0, _), (1, _), (2, _), (3, _), (4, _)]) [0, 1, 2, 3, 4] rfl ?_
        refine ih (A3, I3, yx x, acT T2 (dk (yx x % 8)) (yn (yx x))) ⟨?_, hy, ok_ac hT2 hk hn yn_lt6 h59, f1, frA_t h2 f2, frI_t h3 f3⟩
        rw [hV, yS, if_pos h59]
    refine aw_iload (pc := 5) d_S_drawYear_5 rfl ?_
    refine aw_iload_n (pc := 7) d_S_drawYear_7 rfl rfl ?_
    refine awn_ge (pc := 8) (tgt := 76) (i) (d) d_S_drawYear_8 (by decide) rfl rfl (by omega) (by omega) (fun hh => absurd hh (by omega)) (fun _ => ?_)
    refine aw_bipush (pc := 11) (v := 75) d_S_drawYear_11 (by decide) ?_
    refine aw_iload_n (pc := 13) d_S_drawYear_13 rfl rfl ?_
    refine aw_imul (pc := 14) d_S_drawYear_14 ?_
    refine aw_bipush (pc := 15) (v := 74) d_S_drawYear_15 (by decide) ?_
    refine aw_iadd (pc := 17) d_S_drawYear_17 ?_
    refine aw_ldc (pc := 18) d_S_drawYear_18 lc_S_98 ?_
    refine aw_irem (pc := 20) d_S_drawYear_20 (by decide) ?_
    refine aw_top (yx_eq hx) ?_
    refine aw_istore_n (pc := 21) (ls' := [(0, _), (1, _), (2, _), (3, _), (4, _)]) d_S_drawYear_21 rfl (by decide) rfl ?_
    refine aw_iload_n (pc := 22) d_S_drawYear_22 rfl rfl ?_
    refine aw_bipush (pc := 23) (v := 8) d_S_drawYear_23 (by decide) ?_
    refine aw_irem (pc := 25) d_S_drawYear_25 (by decide) ?_
    refine aw_top (y8_eq hy) ?_
    refine aw_callS1 (pc := 26) (c_S_drawnKind (Nat.mod_lt _ (by decide))) ok_S_drawnKind d_S_drawYear_26 lm_S_99 rfl rfl ⟨by decide, by decide⟩ (Nat.le_of_ble_eq_true rfl) rfl rfl ⟨by decide, by decide⟩ ?_
    refine aw_istore (pc := 29) (ls' := [(0, _), (1, _), (2, _), (3, _), (4, _), (5, _)]) d_S_drawYear_29 (by decide) rfl ?_
    refine aw_iload_n (pc := 31) d_S_drawYear_31 rfl rfl ?_
    refine aw_bipush (pc := 32) (v := 8) d_S_drawYear_32 (by decide) ?_
    refine aw_idiv (pc := 34) d_S_drawYear_34 (by decide) ?_
    refine aw_iload (pc := 35) d_S_drawYear_35 rfl ?_
    refine aw_iconst (pc := 37) (v := 1) d_S_drawYear_37 (by decide) ?_
    refine awn_ne (pc := 38) (tgt := 46) (dk (yx x % 8)) (1) d_S_drawYear_38 (by decide) rfl rfl (by omega) (by omega) (fun h38 => ?_) (fun h38 => ?_)
    · refine aw_bipush (pc := 46) (v := 12) d_S_drawYear_46 (by decide) ?_
      refine aw_irem (pc := 48) d_S_drawYear_48 (by decide) ?_
      refine aw_top (y := nI (yn (yx x))) (by unfold yn; rw [if_neg h38]; exact yn_eq (m := 12) hy (by decide) (by decide)) ?_
      exact fin
    · refine aw_bipush (pc := 41) (v := 6) d_S_drawYear_41 (by decide) ?_
      refine aw_goto (pc := 43) (tgt := 48) d_S_drawYear_43 (by decide) ?_
      refine aw_irem (pc := 48) d_S_drawYear_48 (by decide) ?_
      refine aw_top (y := nI (yn (yx x))) (by unfold yn; rw [if_pos h38]; exact yn_eq (m := 6) hy (by decide) (by decide)) ?_
      exact fin
set_option maxHeartbeats 1000000 in
set_option maxRecDepth 20000 in
theorem c_S_factsKnown (hT : okT T) (hE : enS A I 22 T) : AD m_S_factsKnown r_S_factsKnown (HH A I J U) [.ref 22] (some (.int (nI (fb_sm (fun j => cn (T 0 j)) 12)))) (HH A I J U) := by
  refine am_of (by decide) rfl (by first | decide | exact Nat.le_of_ble_eq_true rfl) ?_
  refine aw_iconst (pc := 0) (v := 0) d_S_factsKnown_0 (by decide) ?_
  refine aw_istore_n (pc := 1) (ls' := [(0, _), (1, _)]) d_S_factsKnown_1 rfl (by decide) rfl ?_
  refine aw_iconst (pc := 2) (v := 0) d_S_factsKnown_2 (by decide) ?_
  refine aw_istore_n (pc := 3) (ls' := [(0, _), (1, _), (2, _)]) d_S_factsKnown_3 rfl (by decide) rfl ?_
  refine lp_i (fun i c => AW m_S_factsKnown r_S_factsKnown ax_E0 (ax_Zm (fun q1 q2 => q1 = some (.int (nI (fb_sm (fun j => cn (T 0 j)) 12))) ∧ q2 = HH A I J U) 0 0) (HH A I J U) 0 0 4 [(0, .ref 22), (1, .int (nI c)), (2, .int (nI i))] []) (fun i c => c = fb_sm (fun j => cn (T 0 j)) i) 12 ?_ ?_ 12 0 0 (by omega) rfl
  · rintro c rfl
    refine aw_iload_n (pc := 4) d_S_factsKnown_4 rfl rfl ?_
    refine aw_bipush (pc := 5) (v := 12) d_S_factsKnown_5 (by decide) ?_
    refine awn_ge (pc := 7) (tgt := 28) (12) (12) d_S_factsKnown_7 (by decide) rfl rfl (by omega) (by omega) (fun _ => ?_) (fun hh => absurd hh (by omega))
    refine aw_iload_n (pc := 28) d_S_factsKnown_28 rfl rfl ?_
    refine aw_iret (pc := 29) d_S_factsKnown_29 rfl ?_
    exact ⟨rfl, rfl⟩
  · rintro i c hi rfl ih
    have h8 := hT.1 i hi
    refine aw_iload_n (pc := 4) d_S_factsKnown_4 rfl rfl ?_
    refine aw_bipush (pc := 5) (v := 12) d_S_factsKnown_5 (by decide) ?_
    refine awn_ge (pc := 7) (tgt := 28) (i) (12) d_S_factsKnown_7 (by decide) rfl rfl (by omega) (by omega) (fun hh => absurd hh (by omega)) (fun _ => ?_)
    refine aw_iload_n (pc := 10) d_S_factsKnown_10 rfl rfl ?_
    refine aw_aload_n (pc := 11) d_S_factsKnown_11 rfl rfl ?_
    refine aw_get (pc := 12) d_S_factsKnown_12 lf_S_9 hg_22 rfl ?_
    refine aw_iload_n (pc := 15) d_S_factsKnown_15 rfl rfl ?_
    refine aw_ildN (pc := 16) (j := i) d_S_factsKnown_16 hg_23 hE.1.1 rfl hi (by decide) ?_
    refine aw_callS1 (pc := 17) (c_B_bitCount (by omega)) ok_B_bitCount d_S_factsKnown_17 lm_S_109 rfl rfl ⟨by decide, by decide⟩ (Nat.le_of_ble_eq_true rfl) rfl rfl ⟨by decide, by decide⟩ ?_
    refine aw_iadd (pc := 20) d_S_factsKnown_20 ?_
    refine aw_top (nI_add _ _) ?_
    refine aw_istore_n (pc := 21) (ls' := [(0, _), (1, _), (2, _)]) d_S_factsKnown_21 rfl (by decide) rfl ?_
    refine aw_incN (pc := 22) (ls' := [(0, _), (1, _), (2, _)]) (i := i) d_S_factsKnown_22 rfl rfl (by decide) rfl ?_
    refine aw_goto (pc := 25) (tgt := 4) d_S_factsKnown_25 (by decide) ?_
    exact ih _ rfl
def pY (A : Nat → List Int32) (I : Nat → Nat → Int32) (J : Nat → List Int64) (U : Nat → Nat → Int64) (v : Int32) : Option Value → ax_H → Prop := fun r h' => r = some (.int v) ∧ ∃ A' I', h' = HH A' I' J U ∧ (∃ f, A' 38 = lst 16 f) ∧ (∃ f, A' 43 = lst 12 f) ∧ frA A A' [38, 43] ∧ frN I I'
set_option maxHeartbeats 1000000 in
set_option maxRecDepth 20000 in
theorem c_M_year (hT : okT T) (hE : enM A I T) (h38 : ∃ f, A 38 = lst 16 f) (h43 : ∃ f, A 43 = lst 12 f) (s d w : Int32) : AM m_M_year r_M_year (HH A I J U) [.ref 36, .int s, .int d, .int w] (pY A I J U (aYear T s d w)) := by
  refine am_of (by decide) rfl (by first | decide | exact Nat.le_of_ble_eq_true rfl) ?_
  refine aw_iload_n (pc := 0) d_M_year_0 rfl rfl ?_
  refine aw_iconst (pc := 1) (v := 0) d_M_year_1 (by decide) ?_
  refine aw_sipush (pc := 2) (v := 9999) d_M_year_2 (by decide) ?_
  refine aw_callS1 (pc := 5) (c_M_in _ _ _ _) ok_M_in d_M_year_5 lm_M_52 rfl rfl ⟨by decide, by decide⟩ (Nat.le_of_ble_eq_true rfl) rfl rfl ⟨by decide, by decide⟩ ?_
  refine aw_bz (pc := 8) (tgt := 30) d_M_year_8 (by decide) (fun h8 => ?_) (fun h8 => ?_)
  · refine aw_bipush (pc := 30) (v := (-2)) d_M_year_30 (by decide) ?_
    refine aw_iret (pc := 32) d_M_year_32 rfl ?_
    exact ⟨by unfold aYear; rw [if_pos (fun z => h8 ⟨z.1, z.2.1⟩)], A, I, rfl, h38, h43, frA_r _ _, frN_r _⟩
  · refine aw_iload_n (pc := 11) d_M_year_11 rfl rfl ?_
    refine aw_iconst (pc := 12) (v := 1) d_M_year_12 (by decide) ?_
    refine aw_bipush (pc := 13) (v := 99) d_M_year_13 (by decide) ?_
    refine aw_callS1 (pc := 15) (c_M_in _ _ _ _) ok_M_in d_M_year_15 lm_M_52 rfl rfl ⟨by decide, by decide⟩ (Nat.le_of_ble_eq_true rfl) rfl rfl ⟨by decide, by decide⟩ ?_
    refine aw_bz (pc := 18) (tgt := 30) d_M_year_18 (by decide) (fun h18 => ?_) (fun h18 => ?_)
    · refine aw_bipush (pc := 30) (v := (-2)) d_M_year_30 (by decide) ?_
      refine aw_iret (pc := 32) d_M_year_32 rfl ?_
      exact ⟨by unfold aYear; rw [if_pos (fun z => h18 ⟨z.2.2.1, z.2.2.2.1⟩)], A, I, rfl, h38, h43, frA_r _ _, frN_r _⟩
    · refine aw_iload_n (pc := 21) d_M_year_21 rfl rfl ?_
      refine aw_iconst (pc := 22) (v := 0) d_M_year_22 (by decide) ?_
      refine aw_iconst (pc := 23) (v := 2) d_M_year_23 (by decide) ?_
      refine aw_callS1 (pc := 24) (c_M_in _ _ _ _) ok_M_in d_M_year_24 lm_M_52 rfl rfl ⟨by decide, by decide⟩ (Nat.le_of_ble_eq_true rfl) rfl rfl ⟨by decide, by decide⟩ ?_
      refine aw_bn (pc := 27) (tgt := 33) d_M_year_27 (by decide) (fun h27 => ?_) (fun h27 => ?_)
      · have hz : 0 ≤ s ∧ s ≤ 9999 ∧ 1 ≤ d ∧ d ≤ 99 ∧ 0 ≤ w ∧ w ≤ 2 := ⟨h8.1, h8.2, h18.1, h18.2, h27⟩
        obtain ⟨s, hs, rfl⟩ := rng 9999 (by omega) h8
        obtain ⟨d, hd, rfl⟩ := rng 99 (by omega) ⟨Int32.le_trans (by decide) h18.1, h18.2⟩
        obtain ⟨w, hw, rfl⟩ := rng 2 (by omega) h27
        have ea : aYear T (nI s) (nI d) (nI w) = if w = 0 then nI (fb_sm (fun j => cn (yr T s d 0 j)) 12) else if w = 1 then nI (yr T s d 6 5) else nI (cn (yr T s d 6 2)) := by
          unfold aYear
          rw [if_neg (fun z => z hz), nI_clamp (by omega), nI_clamp (by omega)]
          by_cases e : w = 0
          · rw [if_pos e, if_pos (by rw [e]; rfl)]
          · rw [if_neg e, if_neg (fun z => e ((nI_e0 (by omega)).mp z))]
            by_cases e2 : w = 1
            · rw [if_pos e2, if_pos (by rw [e2]; rfl)]
            · rw [if_neg e2, if_neg (fun (z : nI w = 1) => e2 ((nI_eq (b := 1) (by omega) (by omega)).mp z))]
        obtain ⟨f0, h38⟩ := h38
        refine aw_aload_n (pc := 33) d_M_year_33 rfl rfl ?_
        refine aw_callV0 (pc := 34) (c_M_asNow hE.1.1 h38) ok_M_asNow d_M_year_34 lm_M_88 hg_36 rfl rfl ⟨by decide, by decide⟩ (Nat.le_of_ble_eq_true rfl) rfl rfl ⟨by decide, by decide⟩ ?_
        refine aw_iload_n (pc := 37) d_M_year_37 rfl rfl ?_
        refine aw_istore (pc := 38) (ls' := [(0, _), (1, _), (2, _), (3, _), (4, _)]) d_M_year_38 (by decide) rfl ?_
        refine aw_iconst (pc := 40) (v := 0) d_M_year_40 (by decide) ?_
        refine aw_istore (pc := 41) (ls' := [(0, _), (1, _), (2, _), (3, _), (4, _), (5, _)]) d_M_year_41 (by decide) rfl ?_
        refine lp_i (fun i (x : (Nat → List Int32) × (Nat → Nat → Int32) × Nat × town) => AW m_M_year r_M_year ax_E0 (ax_Zm (pY A I J U (aYear T (nI s) (nI d) (nI w))) 0 0) (HH x.1 x.2.1 J U) 0 0 43 [(0, .ref 36), (1, .int (nI s)), (2, .int (nI d)), (3, .int (nI w)), (4, .int (nI x.2.2.1)), (5, .int (nI i))] []) (fun i x => yr T s d = (fd yst (d - i) i x.2.2).2 ∧ x.2.2.1 < 65537 ∧ okT x.2.2.2 ∧ enN x.1 x.2.1 x.2.2.2 ∧ frA A x.1 [38, 43] ∧ frN I x.2.1) d ?_ ?_ d 0 (u1 A 38 (lst 16 (bk T)), I, s, T) (by omega) ⟨rfl, (by show s < 65537; omega), hT, ⟨hE.g, hE.1.2.2.1, rfl, h43⟩, frA_u _ _ _ (by decide), frN_r _⟩
        · rintro ⟨A2, I2, x, T2⟩ ⟨hV, -, hT2, h1, h2, h3⟩
          rw [fd_0] at hV
          have hV : yr T s d = T2 := hV
          have hT2 : okT T2 := hT2
          have h1 : enN A2 I2 T2 := h1
          rw [hV] at ea
          refine aw_iload (pc := 43) d_M_year_43 rfl ?_
          refine aw_iload_n (pc := 45) d_M_year_45 rfl rfl ?_
          refine awn_ge (pc := 46) (tgt := 152) (d) (d) d_M_year_46 (by decide) rfl rfl (by omega) (by omega) (fun _ => ?_) (fun hh => absurd hh (by omega))
          refine aw_iconst (pc := 152) (v := 0) d_M_year_152 (by decide) ?_
          refine aw_istore (pc := 153) (ls' := [(0, _), (1, _), (2, _), (3, _), (4, _), (5, _)]) d_M_year_153 (by decide) rfl ?_
          refine aw_iconst (pc := 155) (v := 0) d_M_year_155 (by decide) ?_
          refine aw_istore (pc := 156) (ls' := [(0, _), (1, _), (2, _), (3, _), (4, _), (5, _), (6, _)]) d_M_year_156 (by decide) rfl ?_
          refine lp_i (fun i c => AW m_M_year r_M_year ax_E0 (ax_Zm (pY A I J U (aYear T (nI s) (nI d) (nI w))) 0 0) (HH A2 I2 J U) 0 0 158 [(0, .ref 36), (1, .int (nI s)), (2, .int (nI d)), (3, .int (nI w)), (4, .int (nI x)), (5, .int (nI c)), (6, .int (nI i))] []) (fun i c => c = fb_sm (fun j => cn (T2 0 j)) i) 12 ?_ ?_ 12 0 0 (by omega) rfl
          · rintro c rfl
            have b1 := hT2.2.2.2.2.2.1
            refine aw_iload (pc := 158) d_M_year_158 rfl ?_
            refine aw_bipush (pc := 160) (v := 12) d_M_year_160 (by decide) ?_
            refine awn_ge (pc := 162) (tgt := 186) (12) (12) d_M_year_162 (by decide) rfl rfl (by omega) (by omega) (fun _ => ?_) (fun hh => absurd hh (by omega))
            refine aw_iload_n (pc := 186) d_M_year_186 rfl rfl ?_
            refine aw_if_ne (pc := 187) (tgt := 195) d_M_year_187 (by decide) (fun h187 => ?_) (fun h187 => ?_)
            · have h187 : ¬ w = 0 := fun z => h187 (by rw [z]; rfl)
              refine aw_iload_n (pc := 195) d_M_year_195 rfl rfl ?_
              refine aw_iconst (pc := 196) (v := 1) d_M_year_196 (by decide) ?_
              refine awn_ne (pc := 197) (tgt := 210) (w) (1) d_M_year_197 (by decide) rfl rfl (by omega) (by omega) (fun h197 => ?_) (fun h197 => ?_)
              · refine aw_aload_n (pc := 210) d_M_year_210 rfl rfl ?_
                refine aw_get (pc := 211) d_M_year_211 lf_M_13 hg_36 rfl ?_
                refine aw_bipush (pc := 214) (v := 15) d_M_year_214 (by decide) ?_
                refine aw_ildN (pc := 216) (j := 15) d_M_year_216 hg_38 h1.2.2.1 rfl (by omega) (by decide) ?_
                refine aw_callS1 (pc := 217) (c_M_bits (b := T2 6 2) (by omega)) ok_M_bits d_M_year_217 lm_M_120 rfl rfl ⟨by decide, by decide⟩ (Nat.le_of_ble_eq_true rfl) rfl rfl ⟨by decide, by decide⟩ ?_
                refine aw_iret (pc := 220) d_M_year_220 rfl ?_
                exact ⟨by rw [ea, if_neg h187, if_neg h197], A2, I2, rfl, ⟨_, h1.2.2.1⟩, h1.2.2.2, h2, h3⟩
              · refine aw_aload_n (pc := 200) d_M_year_200 rfl rfl ?_
                refine aw_get (pc := 201) d_M_year_201 lf_M_13 hg_36 rfl ?_
                refine aw_bipush (pc := 204) (v := 12) d_M_year_204 (by decide) ?_
                refine aw_ildN (pc := 206) (j := 12) d_M_year_206 hg_38 h1.2.2.1 rfl (by omega) (by decide) ?_
                refine aw_goto (pc := 207) (tgt := 220) d_M_year_207 (by decide) ?_
                refine aw_iret (pc := 220) d_M_year_220 rfl ?_
                exact ⟨by rw [ea, if_neg h187, if_pos h197]; rfl, A2, I2, rfl, ⟨_, h1.2.2.1⟩, h1.2.2.2, h2, h3⟩
            · have h187 : w = 0 := (nI_eq (b := 0) (by omega) (by omega)).mp h187
              refine aw_iload (pc := 190) d_M_year_190 rfl ?_
              refine aw_goto (pc := 192) (tgt := 220) d_M_year_192 (by decide) ?_
              refine aw_iret (pc := 220) d_M_year_220 rfl ?_
              exact ⟨by rw [ea, if_pos h187], A2, I2, rfl, ⟨_, h1.2.2.1⟩, h1.2.2.2, h2, h3⟩
          · rintro i c hi rfl ih2
            have h8 := hT2.1 i hi
            have eb : bk T2 i = T2 0 i := if_pos hi
            refine aw_iload (pc := 158) d_M_year_158 rfl ?_
            refine aw_bipush (pc := 160) (v := 12) d_M_year_160 (by decide) ?_
            refine awn_ge (pc := 162) (tgt := 186) (i) (12) d_M_year_162 (by decide) rfl rfl (by omega) (by omega) (fun hh => absurd hh (by omega)) (fun _ => ?_)
            refine aw_iload (pc := 165) d_M_year_165 rfl ?_
            refine aw_aload_n (pc := 167) d_M_year_167 rfl rfl ?_
            refine aw_get (pc := 168) d_M_year_168 lf_M_13 hg_36 rfl ?_
            refine aw_iload (pc := 171) d_M_year_171 rfl ?_
            refine aw_ildN (pc := 173) (j := i) d_M_year_173 hg_38 h1.2.2.1 rfl (by omega) (by decide) ?_
            refine aw_callS1 (pc := 174) (c_M_bits (b := bk T2 i) (by omega)) ok_M_bits d_M_year_174 lm_M_120 rfl rfl ⟨by decide, by decide⟩ (Nat.le_of_ble_eq_true rfl) rfl rfl ⟨by decide, by decide⟩ ?_
            refine aw_iadd (pc := 177) d_M_year_177 ?_
            refine aw_top (nI_add _ _) ?_
            refine aw_istore (pc := 178) (ls' := [(0, _), (1, _), (2, _), (3, _), (4, _), (5, _), (6, _)]) d_M_year_178 (by decide) rfl ?_
            refine aw_incN (pc := 180) (ls' := [(0, _), (1, _), (2, _), (3, _), (4, _), (5, _), (6, _)]) (i := i) d_M_year_180 rfl rfl (by decide) rfl ?_
            refine aw_goto (pc := 183) (tgt := 158) d_M_year_183 (by decide) ?_
            exact ih2 _ (by rw [eb]; rfl)
        · rintro i ⟨A2, I2, x, T2⟩ hi ⟨hV, hx, hT2, h1, h2, h3⟩ ih
          have hx : x < 65537 := hx
          have hT2 : okT T2 := hT2
          have h1 : enN A2 I2 T2 := h1
          rw [fd_s _ hi] at hV
          have hV : yr T s d = (fd yst (d - (i + 1)) (i + 1) (yx x, yS T2 (yx x))).2 := hV
          have hy := yx_lt x
          have hn := yn_lt (yx x)
          have hd99 := hT2.2.2.2.2.2.2.2.2.2.1
          have nxt : ∀ (A3 : Nat → List Int32) (I3 : Nat → Nat → Int32) (r : Int32), enN A3 I3 (yS T2 (yx x)) → frA A2 A3 [38, 43] → frN I2 I3 → AW m_M_year r_M_year ax_E0 (ax_Zm (pY A I J U (aYear T (nI s) (nI d) (nI w))) 0 0) (HH A3 I3 J U) 0 0 146 [(0, .ref 36), (1, .int (nI s)), (2, .int (nI d)), (3, .int (nI w)), (4, .int (nI (yx x))), (5, .int (nI i)), (6, .int r)] [] := by
            intro A3 I3 r e1 e2 e3
            refine aw_incN (pc := 146) (ls' := [(0, _), (1, _), (2, _), (3, _), (4, _), (5, _), (6, _)]) (i := i) d_M_year_146 rfl rfl (by decide) rfl ?_
            refine aw_goto (pc := 149) (tgt := 43) d_M_year_149 (by decide) ?_
            refine aw_sub (ls' := [(0, _), (1, _), (2, _), (3, _), (4, _), (5, _)]) [0, 1, 2, 3, 4, 5] rfl ?_
            exact ih (A3, I3, yx x, yS T2 (yx x)) ⟨hV, hy, ok_yS hT2 _, e1, frA_t h2 e2, frN_t h3 e3⟩
          refine aw_iload (pc := 43) d_M_year_43 rfl ?_
          refine aw_iload_n (pc := 45) d_M_year_45 rfl rfl ?_
          refine awn_ge (pc := 46) (tgt := 152) (i) (d) d_M_year_46 (by decide) rfl rfl (by omega) (by omega) (fun hh => absurd hh (by omega)) (fun _ => ?_)
          refine aw_bipush (pc := 49) (v := 75) d_M_year_49 (by decide) ?_
          refine aw_iload (pc := 51) d_M_year_51 rfl ?_
          refine aw_imul (pc := 53) d_M_year_53 ?_
          refine aw_bipush (pc := 54) (v := 74) d_M_year_54 (by decide) ?_
          refine aw_iadd (pc := 56) d_M_year_56 ?_
          refine aw_ldc (pc := 57) d_M_year_57 lc_M_141 ?_
          refine aw_irem (pc := 59) d_M_year_59 (by decide) ?_
          refine aw_top (yx_eq hx) ?_
          refine aw_istore (pc := 60) (ls' := [(0, _), (1, _), (2, _), (3, _), (4, _), (5, _)]) d_M_year_60 (by decide) rfl ?_
          refine aw_iload (pc := 62) d_M_year_62 rfl ?_
          refine aw_bipush (pc := 64) (v := 8) d_M_year_64 (by decide) ?_
          refine aw_irem (pc := 66) d_M_year_66 (by decide) ?_
          refine aw_top (y8_eq hy) ?_
          refine aw_istore (pc := 67) (ls' := [(0, _), (1, _), (2, _), (3, _), (4, _), (5, _), (6, _)]) d_M_year_67 (by decide) rfl ?_
          refine aw_iload (pc := 69) d_M_year_69 rfl ?_
          refine aw_if_ne (pc := 71) (tgt := 82) d_M_year_71 (by decide) (fun h71 => ?_) (fun h71 => ?_)
          · have h71 : ¬ yx x % 8 = 0 := fun z => h71 (by rw [z]; rfl)
            refine aw_iload (pc := 82) d_M_year_82 rfl ?_
            refine aw_iconst (pc := 84) (v := 1) d_M_year_84 (by decide) ?_
            refine awn_ne (pc := 85) (tgt := 111) (yx x % 8) (1) d_M_year_85 (by decide) rfl rfl (by omega) (by omega) (fun h85 => ?_) (fun h85 => ?_)
            · refine aw_iload (pc := 111) d_M_year_111 rfl ?_
              refine aw_iconst (pc := 113) (v := 5) d_M_year_113 (by decide) ?_
              refine awn_ge (pc := 114) (tgt := 133) (yx x % 8) (5) d_M_year_114 (by decide) rfl rfl (by omega) (by omega) (fun h114 => ?_) (fun h114 => ?_)
              · have ek : dk (yx x % 8) = 1 := by unfold dk; rw [if_neg h71, if_neg h85, if_neg (by omega)]
                have h6 := yn_lt6 ek
                refine aw_aload_n (pc := 133) d_M_year_133 rfl rfl ?_
                refine aw_iload (pc := 134) d_M_year_134 rfl ?_
                refine aw_bipush (pc := 136) (v := 8) d_M_year_136 (by decide) ?_
                refine aw_idiv (pc := 138) d_M_year_138 (by decide) ?_
                refine aw_bipush (pc := 139) (v := 6) d_M_year_139 (by decide) ?_
                refine aw_irem (pc := 141) d_M_year_141 (by decide) ?_
                refine aw_top (y := nI (yn (yx x))) (by unfold yn; rw [if_pos ek]; exact yn_eq (m := 6) hy (by decide) (by decide)) ?_
                by_cases hw : (T2 6 2).testBit (yn (yx x)) = true
                · have ew : yS T2 (yx x) = T2 := by unfold yS; rw [if_neg (by unfold wy; rw [ek, if_neg (by omega), if_pos ⟨rfl, hw⟩]; decide)]
                  refine aw_callV1 (pc := 142) (c_M_read_1 hT2 h1.2.2.1 h6 hw) ok_M_read d_M_year_142 lm_M_107 hg_36 rfl rfl ⟨by decide, by decide⟩ (Nat.le_of_ble_eq_true rfl) rfl rfl ⟨by decide, by decide⟩ ?_
                  refine aw_pop (pc := 145) d_M_year_145 rfl ?_
                  exact nxt A2 I2 _ (by rw [ew]; exact h1) (frA_r _ _) (frN_r _)
                · have ew : yS T2 (yx x) = rdT T2 (yn (yx x)) := by unfold yS; rw [if_pos (by unfold wy; rw [ek, if_neg (by omega), if_neg (fun z => hw z.2), if_neg (by omega)]), ek]; rfl
                  refine aw_callV1 (pc := 142) (c_M_read_0 hT2 h1 h6 hw) ok_M_read d_M_year_142 lm_M_107 hg_36 rfl rfl ⟨by decide, by decide⟩ (Nat.le_of_ble_eq_true rfl) rfl rfl ⟨by decide, by decide⟩ ?_
                  refine aw_pop (pc := 145) d_M_year_145 rfl ?_
                  exact nxt _ _ _ (enN_fr h1 (frA_u _ _ _ (by decide)) (frN_u _ _ (by omega) (by omega)) (by rw [ew]; rfl) h1.2.2.2 1 (yn (yx x)) ew) (frA_u _ _ _ (by decide)) (frN_u _ _ (by omega) (by omega))
              · have ek : dk (yx x % 8) = 0 := by unfold dk; rw [if_neg h71, if_neg h85, if_pos (by omega)]
                refine aw_aload_n (pc := 117) d_M_year_117 rfl rfl ?_
                refine aw_iload (pc := 118) d_M_year_118 rfl ?_
                refine aw_bipush (pc := 120) (v := 8) d_M_year_120 (by decide) ?_
                refine aw_idiv (pc := 122) d_M_year_122 (by decide) ?_
                refine aw_bipush (pc := 123) (v := 12) d_M_year_123 (by decide) ?_
                refine aw_irem (pc := 125) d_M_year_125 (by decide) ?_
                refine aw_top (y := nI (yn (yx x))) (by unfold yn; rw [if_neg (by omega)]; exact yn_eq (m := 12) hy (by decide) (by decide)) ?_
                by_cases hw : T2 6 5 = yn (yx x)
                · have ew : yS T2 (yx x) = T2 := by unfold yS; rw [if_neg (by unfold wy; rw [ek, if_pos ⟨rfl, hw⟩]; decide)]
                  refine aw_callV1 (pc := 126) (c_M_goTo_1 hT2 h1.2.2.1 hn hw) ok_M_goTo d_M_year_126 lm_M_103 hg_36 rfl rfl ⟨by decide, by decide⟩ (Nat.le_of_ble_eq_true rfl) rfl rfl ⟨by decide, by decide⟩ ?_
                  refine aw_pop (pc := 129) d_M_year_129 rfl ?_
                  refine aw_goto (pc := 130) (tgt := 146) d_M_year_130 (by decide) ?_
                  exact nxt A2 I2 _ (by rw [ew]; exact h1) (frA_r _ _) (frN_r _)
                · have ew : yS T2 (yx x) = goT T2 (yn (yx x)) := by unfold yS; rw [if_pos (by unfold wy; rw [ek, if_neg (fun z => hw z.2), if_neg (by omega), if_neg (by omega)]), ek]; rfl
                  refine aw_callV1 (pc := 126) (c_M_goTo_0 hT2 h1.2.2.1 hn hw) ok_M_goTo d_M_year_126 lm_M_103 hg_36 rfl rfl ⟨by decide, by decide⟩ (Nat.le_of_ble_eq_true rfl) rfl rfl ⟨by decide, by decide⟩ ?_
                  refine aw_pop (pc := 129) d_M_year_129 rfl ?_
                  refine aw_goto (pc := 130) (tgt := 146) d_M_year_130 (by decide) ?_
                  exact nxt _ _ _ (enN_fr h1 (frA_u _ _ _ (by decide)) (frN_r _) (by rw [ew]; rfl) h1.2.2.2 0 (yn (yx x)) ew) (frA_u _ _ _ (by decide)) (frN_r _)
            · have ek : dk (yx x % 8) = 2 := by rw [h85]; rfl
              have ew : yS T2 (yx x) = opT T2 (yn (yx x)) := by unfold yS; rw [if_pos (by unfold wy; rw [ek, if_neg (by omega), if_neg (by omega), if_neg (by omega)]), ek]; rfl
              refine aw_aload_n (pc := 88) d_M_year_88 rfl rfl ?_
              refine aw_get (pc := 89) d_M_year_89 lf_M_13 hg_36 rfl ?_
              refine aw_bipush (pc := 92) (v := 14) d_M_year_92 (by decide) ?_
              refine aw_dup2 (pc := 94) d_M_year_94 rfl rfl ?_
              refine aw_ildN (pc := 95) (j := 14) d_M_year_95 hg_38 h1.2.2.1 rfl (by omega) (by decide) ?_
              refine aw_iconst (pc := 96) (v := 1) d_M_year_96 (by decide) ?_
              refine aw_iload (pc := 97) d_M_year_97 rfl ?_
              refine aw_bipush (pc := 99) (v := 8) d_M_year_99 (by decide) ?_
              refine aw_idiv (pc := 101) d_M_year_101 (by decide) ?_
              refine aw_bipush (pc := 102) (v := 12) d_M_year_102 (by decide) ?_
              refine aw_irem (pc := 104) d_M_year_104 (by decide) ?_
              refine aw_top (y := nI (yn (yx x))) (by unfold yn; rw [if_neg (by omega)]; exact yn_eq (m := 12) hy (by decide) (by decide)) ?_
              refine aw_ishl (pc := 105) d_M_year_105 ?_
              refine aw_top (sh1 (by omega)) ?_
              refine aw_ixor (pc := 106) d_M_year_106 ?_
              refine aw_top (fb_xorI _ _) ?_
              refine aw_istN (pc := 107) (j := 14) (v := _) d_M_year_107 hg_38 h1.2.2.1 rfl rfl (by omega) (by decide) (hs_38 _) ?_
              refine aw_goto (pc := 108) (tgt := 146) d_M_year_108 (by decide) ?_
              exact nxt _ _ _ (enN_fr h1 (frA_u _ _ _ (by decide)) (frN_r _) (by rw [ew]; exact lst_cong (bk_op T2 _)) h1.2.2.2 2 (yn (yx x)) ew) (frA_u _ _ _ (by decide)) (frN_r _)
          · have h71 : yx x % 8 = 0 := (nI_eq (b := 0) (by omega) (by omega)).mp h71
            have ek : dk (yx x % 8) = 3 := by rw [h71]; rfl
            by_cases hw : T2 6 6 = 99
            · have ew : yS T2 (yx x) = T2 := by unfold yS; rw [if_neg (by unfold wy; rw [ek, if_neg (by omega), if_neg (by omega), if_pos ⟨rfl, by omega⟩]; decide)]
              refine aw_aload_n (pc := 74) d_M_year_74 rfl rfl ?_
              refine aw_callV1 (pc := 75) (c_M_evening_1 hT2 h1.2.2.1 hw) ok_M_evening d_M_year_75 lm_M_100 hg_36 rfl rfl ⟨by decide, by decide⟩ (Nat.le_of_ble_eq_true rfl) rfl rfl ⟨by decide, by decide⟩ ?_
              refine aw_pop (pc := 78) d_M_year_78 rfl ?_
              refine aw_goto (pc := 79) (tgt := 146) d_M_year_79 (by decide) ?_
              exact nxt A2 I2 _ (by rw [ew]; exact h1) (frA_r _ _) (frN_r _)
            · have ew : yS T2 (yx x) = evT T2 := by unfold yS; rw [if_pos (by unfold wy; rw [ek, if_neg (by omega), if_neg (by omega), if_neg (by omega)]), ek]; rfl
              refine aw_aload_n (pc := 74) d_M_year_74 rfl rfl ?_
              refine aw_callVq (pc := 75) (c_M_evening_0 hT2 h1 (by omega)) ok_M_evening d_M_year_75 lm_M_100 hg_36 rfl rfl ⟨by decide, by decide⟩ (Nat.le_of_ble_eq_true rfl) rfl rfl ⟨by decide, by decide⟩ (fun rr hh2 hq => ?_)
              obtain ⟨rfl, f9, rfl⟩ := hq
              refine aw_pop (pc := 78) d_M_year_78 rfl ?_
              refine aw_goto (pc := 79) (tgt := 146) d_M_year_79 (by decide) ?_
              exact nxt _ _ _ (enN_fr h1 (frA_t (frA_u _ _ _ (by decide)) (frA_u _ _ _ (by decide))) (frN_r _) (by rw [ew]; rfl) ⟨f9, rfl⟩ 3 0 ew) (frA_t (frA_u _ _ _ (by decide)) (frA_u _ _ _ (by decide))) (frN_r _)
      · refine aw_bipush (pc := 30) (v := (-2)) d_M_year_30 (by decide) ?_
        refine aw_iret (pc := 32) d_M_year_32 rfl ?_
        exact ⟨by unfold aYear; rw [if_pos (fun z => h27 ⟨z.2.2.2.2.1, z.2.2.2.2.2⟩)], A, I, rfl, h38, h43, frA_r _ _, frN_r _⟩
end YEAR

