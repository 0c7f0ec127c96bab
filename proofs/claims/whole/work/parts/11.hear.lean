/-! who hears: the class's loudness, reached, hearers; the reference's loudAt, doesHear, hearers -/
section HEAR
variable {A : Nat → List Int32} {I : Nat → Nat → Int32} {J : Nat → List Int64} {U : Nat → Nat → Int64} {T : town}
set_option maxHeartbeats 1000000 in
set_option maxRecDepth 20000 in
theorem c_S_loudness (hT : okT T) (hE : enH A I 1 T) {a h : Nat} (ha : a < 12) (hh : h < 12) : AD m_S_loudness r_S_loudness (HH A I J U) [.ref 1, .int (nI a), .int (nI h)] (some (.int (nI (ld T a h)))) (HH A I J U) := by
  refine am_of (by decide) rfl (by first | decide | exact Nat.le_of_ble_eq_true rfl) ?_
  obtain ⟨hW, hDf, hV0, hWi⟩ := hE
  have hvo := hT.2.2.2.2.2.2.1
  have hwi := hT.2.2.2.2.2.2.2.1
  refine aw_aload_n (pc := 0) d_S_loudness_0 rfl rfl ?_
  refine aw_geti (pc := 1) (y := (zI (T 6 3))) d_S_loudness_1 lf_S_40 hg_1 rfl (by rw [hV0, zI_nI]) ?_
  refine aw_istore_n (pc := 4) (ls' := [(0, _), (1, _), (2, _), (3, _)]) d_S_loudness_4 rfl (by decide) rfl ?_
  refine aw_iload_n (pc := 5) d_S_loudness_5 rfl rfl ?_
  refine aw_istore (pc := 6) (ls' := [(0, _), (1, _), (2, _), (3, _), (4, _)]) d_S_loudness_6 (by decide) rfl ?_
  refine lp_i (fun i L => AW m_S_loudness r_S_loudness ax_E0 (ax_Zm (fun q1 q2 => q1 = some (.int (nI (ld T a h))) ∧ q2 = HH A I J U) 0 0) (HH A I J U) 0 0 8 [(0, .ref 1), (1, .int (nI a)), (2, .int (nI h)), (3, .int (zI L)), (4, .int (nI i))] []) (fun i L => a ≤ i ∧ L = (T 6 3 : Int) - dE T a (i - a)) (max a h) ?_ ?_ (max a h - a) a (T 6 3) (by omega) ⟨Nat.le_refl _, by show _ = _ - ((dE T a (a - a) : Nat) : Int); rw [Nat.sub_self, show dE T a 0 = 0 from rfl]; omega⟩
  · intro L hV
    refine aw_iload (pc := 8) d_S_loudness_8 rfl ?_
    refine aw_iload_n (pc := 10) d_S_loudness_10 rfl rfl ?_
    refine awn_ge (pc := 11) (tgt := 46) (max a h) (h) d_S_loudness_11 (by decide) rfl rfl (by omega) (by omega) (fun _ => ?_) (fun hh => absurd hh (by omega))
    refine aw_iload_n (pc := 46) d_S_loudness_46 rfl rfl ?_
    refine aw_istore (pc := 47) (ls' := [(0, _), (1, _), (2, _), (3, _), (4, _)]) d_S_loudness_47 (by decide) rfl ?_
    rw [hV.2, show max a h - a = h - a by omega]
    refine lp_i (fun j L => AW m_S_loudness r_S_loudness ax_E0 (ax_Zm (fun q1 q2 => q1 = some (.int (nI (ld T a h))) ∧ q2 = HH A I J U) 0 0) (HH A I J U) 0 0 49 [(0, .ref 1), (1, .int (nI a)), (2, .int (nI h)), (3, .int (zI L)), (4, .int (nI (a - j)))] []) (fun j L => L = (T 6 3 : Int) - dE T a (h - a) - dW T a j) (a - h) ?_ ?_ (a - h) 0 ((T 6 3 : Int) - dE T a (h - a)) (by omega) (by show _ = _ - ((dW T a 0 : Nat) : Int); rw [show dW T a 0 = 0 from rfl]; omega)
    · intro L hV
      refine aw_iload (pc := 49) d_S_loudness_49 rfl ?_
      refine aw_iload_n (pc := 51) d_S_loudness_51 rfl rfl ?_
      refine awn_le (pc := 52) (tgt := 89) (a - (a - h)) (h) d_S_loudness_52 (by decide) rfl rfl (by omega) (by omega) (fun _ => ?_) (fun hh => absurd hh (by omega))
      refine aw_iconst (pc := 89) (v := 0) d_S_loudness_89 (by decide) ?_
      refine aw_iload_n (pc := 90) d_S_loudness_90 rfl rfl ?_
      refine aw_mmax (pc := 91) d_S_loudness_91 lm_S_67 ws_H_max wn_H wc_H_max (by decide) (Nat.le_of_ble_eq_true rfl) ⟨by decide, by decide⟩ ?_
      refine aw_iret (pc := 94) d_S_loudness_94 rfl ?_
      refine ⟨?_, rfl⟩
      have h9 := dE_b hT (a := a) (n := h - a) (by omega)
      have h8 := dW_b hT (a := a) (n := a - h) (by omega) (by omega)
      rw [show (0 : Int32) = zI 0 from rfl, hV]
      by_cases hz : (0 : Int) < (T 6 3 : Int) - dE T a (h - a) - dW T a (a - h)
      · rw [if_pos ((zI_lt (by decide) (by omega)).mpr hz), zI_nI]
        congr 3; unfold ld; omega
      · rw [if_neg (fun z => hz ((zI_lt (by decide) (by omega)).mp z)), show zI 0 = nI 0 from rfl]
        congr 3; unfold ld; omega
    · intro j L hj hV ih
      have hw9 := hT.2.1 (a - 1 - j) (by omega)
      refine aw_iload (pc := 49) d_S_loudness_49 rfl ?_
      refine aw_iload_n (pc := 51) d_S_loudness_51 rfl rfl ?_
      refine awn_le (pc := 52) (tgt := 89) (a - j) (h) d_S_loudness_52 (by decide) rfl rfl (by omega) (by omega) (fun hh => absurd hh (by omega)) (fun _ => ?_)
      refine aw_aload_n (pc := 55) d_S_loudness_55 rfl rfl ?_
      refine aw_get (pc := 56) d_S_loudness_56 lf_S_15 hg_1 rfl ?_
      refine aw_iload (pc := 59) d_S_loudness_59 rfl ?_
      refine aw_iconst (pc := 61) (v := 1) d_S_loudness_61 (by decide) ?_
      refine aw_isub (pc := 62) d_S_loudness_62 ?_
      refine aw_ildN (pc := 63) (j := a - 1 - j) d_S_loudness_63 hg_3 hW (show nI (a - j) - 1 = nI (a - 1 - j) by rw [show a - j = (a - 1 - j) + 1 by omega]; exact nI_pred _) (by omega) (by decide) ?_
      refine aw_iconst (pc := 64) (v := 1) d_S_loudness_64 (by decide) ?_
      refine aw_iadd (pc := 65) d_S_loudness_65 ?_
      refine aw_aload_n (pc := 66) d_S_loudness_66 rfl rfl ?_
      refine aw_geti (pc := 67) (y := (nI (T 6 4) - 3)) d_S_loudness_67 lf_S_43 hg_1 rfl hWi ?_
      refine aw_iadd (pc := 70) d_S_loudness_70 ?_
      refine aw_top (loss_w _ _) ?_
      refine aw_istore (pc := 71) (ls' := [(0, _), (1, _), (2, _), (3, _), (4, _), (5, _)]) d_S_loudness_71 (by decide) rfl ?_
      refine aw_iload (pc := 73) d_S_loudness_73 rfl ?_
      refine aw_if_le (pc := 75) (tgt := 83) d_S_loudness_75 (by decide) (fun h75 => ?_) (fun h75 => ?_)
      · refine aw_decN (pc := 83) (ls' := [(0, _), (1, _), (2, _), (3, _), (4, _), (5, _)]) (i := a - (j + 1)) d_S_loudness_83 rfl (by rw [show a - j = a - (j + 1) + 1 by omega]) (by decide) rfl ?_
        refine aw_goto (pc := 86) (tgt := 49) d_S_loudness_86 (by decide) ?_
        refine aw_sub (ls' := [(0, _), (1, _), (2, _), (3, _), (4, _)]) [0, 1, 2, 3, 4] rfl ?_
        exact ih L (by
          have h9 := (zI_le (by omega) (by decide)).mp (show zI _ ≤ zI 0 from h75)
          rw [hV, dW_s, show wL T (a - 1 - j) = 0 by unfold wL; omega]; omega)
      · refine aw_iload_n (pc := 78) d_S_loudness_78 rfl rfl ?_
        refine aw_iload (pc := 79) d_S_loudness_79 rfl ?_
        refine aw_isub (pc := 81) d_S_loudness_81 ?_
        refine aw_istore_n (pc := 82) (ls' := [(0, _), (1, _), (2, _), (3, _), (4, _), (5, _)]) d_S_loudness_82 rfl (by decide) rfl ?_
        refine aw_decN (pc := 83) (ls' := [(0, _), (1, _), (2, _), (3, _), (4, _), (5, _)]) (i := a - (j + 1)) d_S_loudness_83 rfl (by rw [show a - j = a - (j + 1) + 1 by omega]) (by decide) rfl ?_
        refine aw_goto (pc := 86) (tgt := 49) d_S_loudness_86 (by decide) ?_
        refine aw_sub (ls' := [(0, _), (1, _), (2, _), (3, _), (4, _)]) [0, 1, 2, 3, 4] rfl ?_
        exact aw_eq (ih (L - ((T 1 (a - 1 - j) : Int) + T 6 4 - 2)) (by
          have h9 : ¬ ((T 1 (a - 1 - j) : Int) + T 6 4 - 2 ≤ 0) := fun z => h75 ((zI_le (by omega) (by decide)).mpr z)
          have h8 : (wL T (a - 1 - j) : Int) = (T 1 (a - 1 - j) : Int) + T 6 4 - 2 := by unfold wL; omega
          rw [hV, dW_s]; omega)) rfl (by rw [zI_sub]) rfl
  · intro i L hi hV ih
    have hw9 := hT.2.1 i (by omega)
    refine aw_iload (pc := 8) d_S_loudness_8 rfl ?_
    refine aw_iload_n (pc := 10) d_S_loudness_10 rfl rfl ?_
    refine awn_ge (pc := 11) (tgt := 46) (i) (h) d_S_loudness_11 (by decide) rfl rfl (by omega) (by omega) (fun hh => absurd hh (by omega)) (fun _ => ?_)
    refine aw_aload_n (pc := 14) d_S_loudness_14 rfl rfl ?_
    refine aw_get (pc := 15) d_S_loudness_15 lf_S_15 hg_1 rfl ?_
    refine aw_iload (pc := 18) d_S_loudness_18 rfl ?_
    refine aw_ildN (pc := 20) (j := i) d_S_loudness_20 hg_3 hW rfl (by omega) (by decide) ?_
    refine aw_iconst (pc := 21) (v := 1) d_S_loudness_21 (by decide) ?_
    refine aw_iadd (pc := 22) d_S_loudness_22 ?_
    refine aw_aload_n (pc := 23) d_S_loudness_23 rfl rfl ?_
    refine aw_geti (pc := 24) (y := (nI (T 6 4) - 3)) d_S_loudness_24 lf_S_43 hg_1 rfl hWi ?_
    refine aw_isub (pc := 27) d_S_loudness_27 ?_
    refine aw_top (loss_e _ _) ?_
    refine aw_istore (pc := 28) (ls' := [(0, _), (1, _), (2, _), (3, _), (4, _), (5, _)]) d_S_loudness_28 (by decide) rfl ?_
    refine aw_iload (pc := 30) d_S_loudness_30 rfl ?_
    refine aw_if_le (pc := 32) (tgt := 40) d_S_loudness_32 (by decide) (fun h32 => ?_) (fun h32 => ?_)
    · refine aw_incN (pc := 40) (ls' := [(0, _), (1, _), (2, _), (3, _), (4, _), (5, _)]) (i := i) d_S_loudness_40 rfl rfl (by decide) rfl ?_
      refine aw_goto (pc := 43) (tgt := 8) d_S_loudness_43 (by decide) ?_
      refine aw_sub (ls' := [(0, _), (1, _), (2, _), (3, _), (4, _)]) [0, 1, 2, 3, 4] rfl ?_
      exact ih L ⟨by omega, by
        have h9 := (zI_le (by omega) (by decide)).mp (show zI _ ≤ zI 0 from h32)
        rw [hV.2, show i + 1 - a = (i - a) + 1 by omega, dE_s, show a + (i - a) = i by omega, show eL T i = 0 by unfold eL; omega]; omega⟩
    · refine aw_iload_n (pc := 35) d_S_loudness_35 rfl rfl ?_
      refine aw_iload (pc := 36) d_S_loudness_36 rfl ?_
      refine aw_isub (pc := 38) d_S_loudness_38 ?_
      refine aw_istore_n (pc := 39) (ls' := [(0, _), (1, _), (2, _), (3, _), (4, _), (5, _)]) d_S_loudness_39 rfl (by decide) rfl ?_
      refine aw_incN (pc := 40) (ls' := [(0, _), (1, _), (2, _), (3, _), (4, _), (5, _)]) (i := i) d_S_loudness_40 rfl rfl (by decide) rfl ?_
      refine aw_goto (pc := 43) (tgt := 8) d_S_loudness_43 (by decide) ?_
      refine aw_sub (ls' := [(0, _), (1, _), (2, _), (3, _), (4, _)]) [0, 1, 2, 3, 4] rfl ?_
      exact aw_eq (ih (L - ((T 1 i : Int) + 4 - T 6 4)) ⟨by omega, by
        have h9 : ¬ ((T 1 i : Int) + 4 - T 6 4 ≤ 0) := fun z => h32 ((zI_le (by omega) (by decide)).mpr z)
        have h8 : (eL T i : Int) = (T 1 i : Int) + 4 - T 6 4 := by unfold eL; omega
        rw [hV.2, show i + 1 - a = (i - a) + 1 by omega, dE_s, show a + (i - a) = i by omega]; omega⟩) rfl (by rw [zI_sub]) rfl
set_option maxHeartbeats 1000000 in
set_option maxRecDepth 20000 in
theorem c_S_reached_1 (hT : okT T) (hE : enH A I 1 T) {a le : Nat} (ha : a < 12) (hl : 1 ≤ le) (hl2 : le ≤ 40) : AD m_S_reached r_S_reached (HH A I J U) [.ref 1, .int (nI a), .int (nI le)] (some (.int (nI (msk (rc T a le) 12)))) (HH A I J U) := by
  refine am_of (by decide) rfl (by first | decide | exact Nat.le_of_ble_eq_true rfl) ?_
  obtain ⟨hW, hDf, hV0, hWi⟩ := hE
  have hvo := hT.2.2.2.2.2.2.1
  have hwi := hT.2.2.2.2.2.2.2.1
  refine aw_iconst (pc := 0) (v := 1) d_S_reached_0 (by decide) ?_
  refine aw_iload_n (pc := 1) d_S_reached_1 rfl rfl ?_
  refine aw_ishl (pc := 2) d_S_reached_2 ?_
  refine aw_top (sh1 (by omega)) ?_
  refine aw_istore_n (pc := 3) (ls' := [(0, _), (1, _), (2, _), (3, _)]) d_S_reached_3 rfl (by decide) rfl ?_
  refine aw_aload_n (pc := 4) d_S_reached_4 rfl rfl ?_
  refine aw_geti (pc := 5) (y := (zI (T 6 3))) d_S_reached_5 lf_S_40 hg_1 rfl (by rw [hV0, zI_nI]) ?_
  refine aw_istore (pc := 8) (ls' := [(0, _), (1, _), (2, _), (3, _), (4, _)]) d_S_reached_8 (by decide) rfl ?_
  refine aw_iload_n (pc := 10) d_S_reached_10 rfl rfl ?_
  refine aw_iconst (pc := 11) (v := 1) d_S_reached_11 (by decide) ?_
  refine aw_iadd (pc := 12) d_S_reached_12 ?_
  refine aw_top (nI_1 a) ?_
  refine aw_istore (pc := 13) (ls' := [(0, _), (1, _), (2, _), (3, _), (4, _), (5, _)]) d_S_reached_13 (by decide) rfl ?_
  refine lp_i (fun i (x : Int × Nat) => AW m_S_reached r_S_reached ax_E0 (ax_Zm (fun q1 q2 => q1 = some (.int (nI (msk (rc T a le) 12))) ∧ q2 = HH A I J U) 0 0) (HH A I J U) 0 0 15 [(0, .ref 1), (1, .int (nI a)), (2, .int (nI le)), (3, .int (nI x.2)), (4, .int (zI x.1)), (5, .int (nI i))] []) (fun i x => a + 1 ≤ i ∧ x.1 = (T 6 3 : Int) - dE T a (i - 1 - a) ∧ x.2 < 4096 ∧ ∀ h, h < 12 → x.2.testBit h = (decide (h = a) || (decide (a < h ∧ h < i) && decide (le ≤ ld T a h)))) 12 ?_ ?_ (12 - (a + 1)) (a + 1) (T 6 3, 2 ^ a) (by omega) ⟨Nat.le_refl _, by show (T 6 3 : Int) = _ - ((dE T a (a + 1 - 1 - a) : Nat) : Int); rw [show a + 1 - 1 - a = 0 by omega, show dE T a 0 = 0 from rfl]; omega, (Nat.pow_lt_pow_right (show 1 < 2 by decide) ha : 2 ^ a < 2 ^ 12), fun h hh => by
      show (2 ^ a).testBit h = _
      rw [Nat.testBit_two_pow, decide_eq_false (show ¬ (a < h ∧ h < a + 1) by omega), Bool.false_and, Bool.or_false]
      exact decide_eq_decide.mpr ⟨fun z => z.symm, fun z => z.symm⟩⟩
  · rintro ⟨L, b⟩ ⟨-, -, hbl, hbb⟩
    refine aw_iload (pc := 15) d_S_reached_15 rfl ?_
    refine aw_bipush (pc := 17) (v := 12) d_S_reached_17 (by decide) ?_
    refine awn_ge (pc := 19) (tgt := 71) (12) (12) d_S_reached_19 (by decide) rfl rfl (by omega) (by omega) (fun _ => ?_) (fun hh => absurd hh (by omega))
    refine aw_aload_n (pc := 71) d_S_reached_71 rfl rfl ?_
    refine aw_geti (pc := 72) (y := (zI (T 6 3))) d_S_reached_72 lf_S_40 hg_1 rfl (by rw [hV0, zI_nI]) ?_
    refine aw_istore (pc := 75) (ls' := [(0, _), (1, _), (2, _), (3, _), (4, _), (5, _)]) d_S_reached_75 (by decide) rfl ?_
    refine aw_iload_n (pc := 77) d_S_reached_77 rfl rfl ?_
    refine aw_iconst (pc := 78) (v := 1) d_S_reached_78 (by decide) ?_
    refine aw_isub (pc := 79) d_S_reached_79 ?_
    refine aw_top (show nI a - 1 = zI ((a : Int) - 1 - (0 : Nat)) by rw [zI_nI, show (1 : Int32) = zI 1 from rfl, zI_sub]; congr 1; omega) ?_
    refine aw_istore (pc := 80) (ls' := [(0, _), (1, _), (2, _), (3, _), (4, _), (5, _)]) d_S_reached_80 (by decide) rfl ?_
    refine lp_i (fun j (x : Int × Nat) => AW m_S_reached r_S_reached ax_E0 (ax_Zm (fun q1 q2 => q1 = some (.int (nI (msk (rc T a le) 12))) ∧ q2 = HH A I J U) 0 0) (HH A I J U) 0 0 82 [(0, .ref 1), (1, .int (nI a)), (2, .int (nI le)), (3, .int (nI x.2)), (4, .int (zI x.1)), (5, .int (zI ((a : Int) - 1 - j)))] []) (fun j x => x.1 = (T 6 3 : Int) - dW T a j ∧ x.2 < 4096 ∧ ∀ h, h < 12 → x.2.testBit h = (decide (h = a) || (decide (a ≤ h + j) && decide (le ≤ ld T a h)))) a ?_ ?_ a 0 (T 6 3, b) (by omega) ⟨by show (T 6 3 : Int) = _ - ((dW T a 0 : Nat) : Int); rw [show dW T a 0 = 0 from rfl]; omega, hbl, fun h hh => by
        show b.testBit h = _
        rw [hbb h hh]
        by_cases h1 : h = a
        · simp [h1]
        · rw [decide_eq_decide.mpr (show (a < h ∧ h < 12) ↔ a ≤ h + 0 by omega)]⟩
    · rintro ⟨L, b⟩ ⟨-, hbl, hbb⟩
      refine aw_iload (pc := 82) d_S_reached_82 rfl ?_
      refine aw_if_lt (pc := 84) (tgt := 134) d_S_reached_84 (by decide) (fun _ => ?_) (fun hh => absurd (show zI ((a : Int) - 1 - a) < zI 0 from (zI_lt (by omega) (by decide)).mpr (by omega)) hh)
      refine aw_iload_n (pc := 134) d_S_reached_134 rfl rfl ?_
      refine aw_iret (pc := 135) d_S_reached_135 rfl ?_
      refine ⟨?_, rfl⟩
      show some (Value.int (nI b)) = _
      rw [show b = msk (rc T a le) 12 from msk_ext (n := 12) (p := rc T a le) hbl (fun h hh => by rw [hbb h hh, decide_eq_true (show a ≤ h + a by omega), Bool.true_and]; rfl)]
    · rintro j ⟨L, b⟩ hj ⟨hLv, hbl, hbb⟩ ih
      have hw9 := hT.2.1 (a - 1 - j) (by omega)
      have hdb := dW_b hT (a := a) (n := j) (by omega) (by omega)
      have ej : zI ((a : Int) - 1 - j) = nI (a - 1 - j) := by rw [zI_nI]; congr 1; omega
      have ew := dW_s T a j
      have elw := ld_w T (a := a) (h := a - 1 - j) (by omega)
      rw [show a - (a - 1 - j) = j + 1 by omega] at elw
      have bits : ∀ (c : Nat), (∀ h, h < 12 → c.testBit h = (b.testBit h || (decide (h = a - 1 - j) && decide (le ≤ ld T a h)))) → ∀ h, h < 12 → c.testBit h = (decide (h = a) || (decide (a ≤ h + (j + 1)) && decide (le ≤ ld T a h))) := by
        intro c hc h hh
        rw [hc h hh, hbb h hh]
        by_cases h1 : h = a - 1 - j
        · rw [decide_eq_true h1, decide_eq_false (show ¬ h = a by omega), decide_eq_false (show ¬ a ≤ h + j by omega), decide_eq_true (show a ≤ h + (j + 1) by omega)]; simp
        · rw [decide_eq_false h1, decide_eq_decide.mpr (show (a ≤ h + j) ↔ a ≤ h + (j + 1) by omega), Bool.false_and, Bool.or_false]
      have key : ∀ L', L' = (T 6 3 : Int) - dW T a (j + 1) → AW m_S_reached r_S_reached ax_E0 (ax_Zm (fun q1 q2 => q1 = some (.int (nI (msk (rc T a le) 12))) ∧ q2 = HH A I J U) 0 0) (HH A I J U) 0 0 115 [(0, .ref 1), (1, .int (nI a)), (2, .int (nI le)), (3, .int (nI b)), (4, .int (zI L')), (5, .int (zI ((a : Int) - 1 - j)))] [] := by
        intro L' hL'
        have hdb2 := dW_b hT (a := a) (n := j + 1) (by omega) (by omega)
        refine aw_iload (pc := 115) d_S_reached_115 rfl ?_
        refine aw_iload_n (pc := 117) d_S_reached_117 rfl rfl ?_
        refine aw_icmp_lt (pc := 118) (tgt := 128) d_S_reached_118 (by decide) (fun h118 => ?_) (fun h118 => ?_)
        · refine aw_iinc (pc := 128) (ls' := [(0, _), (1, _), (2, _), (3, _), (4, _), (5, _)]) d_S_reached_128 rfl rfl (by decide) rfl ?_
          refine aw_goto (pc := 131) (tgt := 82) d_S_reached_131 (by decide) ?_
          refine aw_eq (ih (L', b) ⟨hL', hbl, bits b (fun h hh => ?_)⟩) rfl (by rw [show Int32.ofInt (-1) = zI (-1) from rfl, zI_add, show (a : Int) - 1 - j + -1 = (a : Int) - 1 - ((j + 1 : Nat) : Int) by omega]) rfl
          have h9 : L' < le := (zI_lt (by omega) (by omega)).mp (by rw [← zI_nI]; exact h118)
          by_cases h1 : h = a - 1 - j
          · subst h1
            rw [decide_eq_false (show ¬ le ≤ ld T a (a - 1 - j) by omega), Bool.and_false, Bool.or_false]
          · rw [decide_eq_false h1, Bool.false_and, Bool.or_false]
        · refine aw_iload_n (pc := 121) d_S_reached_121 rfl rfl ?_
          refine aw_iconst (pc := 122) (v := 1) d_S_reached_122 (by decide) ?_
          refine aw_eq (ls' := [(0, .ref 1), (1, .int (nI a)), (2, .int (nI le)), (3, .int (nI b)), (4, .int (zI L')), (5, .int (nI (a - 1 - j)))]) ?_ rfl (by rw [ej]) rfl
          refine aw_iload (pc := 123) d_S_reached_123 rfl ?_
          refine aw_ishl (pc := 125) d_S_reached_125 ?_
          refine aw_ior (pc := 126) d_S_reached_126 ?_
          refine aw_top (or_bit (by omega)) ?_
          refine aw_istore_n (pc := 127) (ls' := [(0, _), (1, _), (2, _), (3, _), (4, _), (5, _)]) d_S_reached_127 rfl (by decide) rfl ?_
          refine aw_iinc (pc := 128) (ls' := [(0, _), (1, _), (2, _), (3, _), (4, _), (5, _)]) d_S_reached_128 rfl rfl (by decide) rfl ?_
          refine aw_goto (pc := 131) (tgt := 82) d_S_reached_131 (by decide) ?_
          refine aw_eq (ih (L', b ||| 2 ^ (a - 1 - j)) ⟨hL', or_lt hbl (by omega), bits _ (fun h hh => ?_)⟩) rfl (by rw [← ej, show Int32.ofInt (-1) = zI (-1) from rfl, zI_add, show (a : Int) - 1 - j + -1 = (a : Int) - 1 - ((j + 1 : Nat) : Int) by omega]) rfl
          have h9 : ¬ L' < le := fun z => h118 (by rw [zI_nI]; exact (zI_lt (by omega) (by omega)).mpr z)
          rw [fb_bit_set]
          by_cases h1 : h = a - 1 - j
          · subst h1
            rw [decide_eq_true (show le ≤ ld T a (a - 1 - j) by omega), Bool.and_true]
          · rw [decide_eq_false h1, Bool.false_and]
      refine aw_iload (pc := 82) d_S_reached_82 rfl ?_
      refine aw_if_lt (pc := 84) (tgt := 134) d_S_reached_84 (by decide) (fun hh => absurd hh (fun z => absurd ((zI_lt (by omega) (by decide)).mp (show zI ((a : Int) - 1 - j) < zI 0 from z)) (by omega))) (fun _ => ?_)
      refine aw_aload_n (pc := 87) d_S_reached_87 rfl rfl ?_
      refine aw_get (pc := 88) d_S_reached_88 lf_S_15 hg_1 rfl ?_
      refine aw_iload (pc := 91) d_S_reached_91 rfl ?_
      refine aw_ildN (pc := 93) (j := a - 1 - j) d_S_reached_93 hg_3 hW ej (by omega) (by decide) ?_
      refine aw_iconst (pc := 94) (v := 1) d_S_reached_94 (by decide) ?_
      refine aw_iadd (pc := 95) d_S_reached_95 ?_
      refine aw_aload_n (pc := 96) d_S_reached_96 rfl rfl ?_
      refine aw_geti (pc := 97) (y := (nI (T 6 4) - 3)) d_S_reached_97 lf_S_43 hg_1 rfl hWi ?_
      refine aw_iadd (pc := 100) d_S_reached_100 ?_
      refine aw_top (loss_w _ _) ?_
      refine aw_istore (pc := 101) (ls' := [(0, _), (1, _), (2, _), (3, _), (4, _), (5, _), (6, _)]) d_S_reached_101 (by decide) rfl ?_
      refine aw_iload (pc := 103) d_S_reached_103 rfl ?_
      refine aw_if_le (pc := 105) (tgt := 115) d_S_reached_105 (by decide) (fun h105 => ?_) (fun h105 => ?_)
      · refine aw_sub (ls' := [(0, _), (1, _), (2, _), (3, _), (4, _), (5, _)]) [0, 1, 2, 3, 4, 5] rfl ?_
        exact key L (by
          have h9 := (zI_le (by omega) (by decide)).mp (show zI _ ≤ zI 0 from h105)
          have h8 : wL T (a - 1 - j) = 0 := by unfold wL; omega
          show L = _
          rw [ew, h8]; exact hLv)
      · refine aw_iload (pc := 108) d_S_reached_108 rfl ?_
        refine aw_iload (pc := 110) d_S_reached_110 rfl ?_
        refine aw_isub (pc := 112) d_S_reached_112 ?_
        refine aw_istore (pc := 113) (ls' := [(0, _), (1, _), (2, _), (3, _), (4, _), (5, _), (6, _)]) d_S_reached_113 (by decide) rfl ?_
        refine aw_sub (ls' := [(0, _), (1, _), (2, _), (3, _), (4, _), (5, _)]) [0, 1, 2, 3, 4, 5] rfl ?_
        have h9 : ¬ ((T 1 (a - 1 - j) : Int) + T 6 4 - 2 ≤ 0) := fun z => h105 ((zI_le (by omega) (by decide)).mpr z)
        have h8 : (wL T (a - 1 - j) : Int) = (T 1 (a - 1 - j) : Int) + T 6 4 - 2 := by unfold wL; omega
        exact aw_eq (key (L - ((T 1 (a - 1 - j) : Int) + T 6 4 - 2)) (by rw [ew]; have h7 : L = (T 6 3 : Int) - dW T a j := hLv; omega)) rfl (by rw [zI_sub]) rfl
  · rintro i ⟨L, b⟩ hi ⟨hai, hLv, hbl, hbb⟩ ih
    have hw9 := hT.2.1 (i - 1) (by omega)
    have hdb := dE_b hT (a := a) (n := i - 1 - a) (by omega)
    have ew := dE_s T a (i - 1 - a)
    rw [show a + (i - 1 - a) = i - 1 by omega, show i - 1 - a + 1 = i + 1 - 1 - a by omega] at ew
    have ele := ld_e T (a := a) (h := i) (by omega)
    rw [show i - a = i + 1 - 1 - a by omega] at ele
    have bits : ∀ (c : Nat), (∀ h, h < 12 → c.testBit h = (b.testBit h || (decide (h = i) && decide (le ≤ ld T a h)))) → ∀ h, h < 12 → c.testBit h = (decide (h = a) || (decide (a < h ∧ h < i + 1) && decide (le ≤ ld T a h))) := by
      intro c hc h hh
      rw [hc h hh, hbb h hh]
      by_cases h1 : h = i
      · rw [decide_eq_true h1, decide_eq_false (show ¬ h = a by omega), decide_eq_false (show ¬ (a < h ∧ h < i) by omega), decide_eq_true (show a < h ∧ h < i + 1 by omega)]; simp
      · rw [decide_eq_false h1, decide_eq_decide.mpr (show (a < h ∧ h < i) ↔ (a < h ∧ h < i + 1) by omega), Bool.false_and, Bool.or_false]
    have key : ∀ L', L' = (T 6 3 : Int) - dE T a (i + 1 - 1 - a) → AW m_S_reached r_S_reached ax_E0 (ax_Zm (fun q1 q2 => q1 = some (.int (nI (msk (rc T a le) 12))) ∧ q2 = HH A I J U) 0 0) (HH A I J U) 0 0 52 [(0, .ref 1), (1, .int (nI a)), (2, .int (nI le)), (3, .int (nI b)), (4, .int (zI L')), (5, .int (nI i))] [] := by
      intro L' hL'
      have hdb2 := dE_b hT (a := a) (n := i + 1 - 1 - a) (by omega)
      refine aw_iload (pc := 52) d_S_reached_52 rfl ?_
      refine aw_iload_n (pc := 54) d_S_reached_54 rfl rfl ?_
      refine aw_icmp_lt (pc := 55) (tgt := 65) d_S_reached_55 (by decide) (fun h55 => ?_) (fun h55 => ?_)
      · refine aw_incN (pc := 65) (ls' := [(0, _), (1, _), (2, _), (3, _), (4, _), (5, _)]) (i := i) d_S_reached_65 rfl rfl (by decide) rfl ?_
        refine aw_goto (pc := 68) (tgt := 15) d_S_reached_68 (by decide) ?_
        refine ih (L', b) ⟨by omega, hL', hbl, bits b (fun h hh => ?_)⟩
        have h9 : L' < le := (zI_lt (by omega) (by omega)).mp (by rw [← zI_nI]; exact h55)
        by_cases h1 : h = i
        · subst h1
          rw [decide_eq_false (show ¬ le ≤ ld T a h by omega), Bool.and_false, Bool.or_false]
        · rw [decide_eq_false h1, Bool.false_and, Bool.or_false]
      · refine aw_iload_n (pc := 58) d_S_reached_58 rfl rfl ?_
        refine aw_iconst (pc := 59) (v := 1) d_S_reached_59 (by decide) ?_
        refine aw_iload (pc := 60) d_S_reached_60 rfl ?_
        refine aw_ishl (pc := 62) d_S_reached_62 ?_
        refine aw_ior (pc := 63) d_S_reached_63 ?_
        refine aw_top (or_bit (by omega)) ?_
        refine aw_istore_n (pc := 64) (ls' := [(0, _), (1, _), (2, _), (3, _), (4, _), (5, _)]) d_S_reached_64 rfl (by decide) rfl ?_
        refine aw_incN (pc := 65) (ls' := [(0, _), (1, _), (2, _), (3, _), (4, _), (5, _)]) (i := i) d_S_reached_65 rfl rfl (by decide) rfl ?_
        refine aw_goto (pc := 68) (tgt := 15) d_S_reached_68 (by decide) ?_
        refine ih (L', b ||| 2 ^ i) ⟨by omega, hL', or_lt hbl (by omega), bits _ (fun h hh => ?_)⟩
        have h9 : ¬ L' < le := fun z => h55 (by rw [zI_nI]; exact (zI_lt (by omega) (by omega)).mpr z)
        rw [fb_bit_set]
        by_cases h1 : h = i
        · subst h1
          rw [decide_eq_true (show le ≤ ld T a h by omega), Bool.and_true]
        · rw [decide_eq_false h1, Bool.false_and]
    refine aw_iload (pc := 15) d_S_reached_15 rfl ?_
    refine aw_bipush (pc := 17) (v := 12) d_S_reached_17 (by decide) ?_
    refine awn_ge (pc := 19) (tgt := 71) (i) (12) d_S_reached_19 (by decide) rfl rfl (by omega) (by omega) (fun hh => absurd hh (by omega)) (fun _ => ?_)
    refine aw_aload_n (pc := 22) d_S_reached_22 rfl rfl ?_
    refine aw_get (pc := 23) d_S_reached_23 lf_S_15 hg_1 rfl ?_
    refine aw_iload (pc := 26) d_S_reached_26 rfl ?_
    refine aw_iconst (pc := 28) (v := 1) d_S_reached_28 (by decide) ?_
    refine aw_isub (pc := 29) d_S_reached_29 ?_
    refine aw_ildN (pc := 30) (j := i - 1) d_S_reached_30 hg_3 hW (pk_sub (a := i) (b := 1) (by omega)) (by omega) (by decide) ?_
    refine aw_iconst (pc := 31) (v := 1) d_S_reached_31 (by decide) ?_
    refine aw_iadd (pc := 32) d_S_reached_32 ?_
    refine aw_aload_n (pc := 33) d_S_reached_33 rfl rfl ?_
    refine aw_geti (pc := 34) (y := (nI (T 6 4) - 3)) d_S_reached_34 lf_S_43 hg_1 rfl hWi ?_
    refine aw_isub (pc := 37) d_S_reached_37 ?_
    refine aw_top (loss_e _ _) ?_
    refine aw_istore (pc := 38) (ls' := [(0, _), (1, _), (2, _), (3, _), (4, _), (5, _), (6, _)]) d_S_reached_38 (by decide) rfl ?_
    refine aw_iload (pc := 40) d_S_reached_40 rfl ?_
    refine aw_if_le (pc := 42) (tgt := 52) d_S_reached_42 (by decide) (fun h42 => ?_) (fun h42 => ?_)
    · refine aw_sub (ls' := [(0, _), (1, _), (2, _), (3, _), (4, _), (5, _)]) [0, 1, 2, 3, 4, 5] rfl ?_
      exact key L (by
        have h9 := (zI_le (by omega) (by decide)).mp (show zI _ ≤ zI 0 from h42)
        have h8 : eL T (i - 1) = 0 := by unfold eL; omega
        show L = _
        rw [ew, h8]; exact hLv)
    · refine aw_iload (pc := 45) d_S_reached_45 rfl ?_
      refine aw_iload (pc := 47) d_S_reached_47 rfl ?_
      refine aw_isub (pc := 49) d_S_reached_49 ?_
      refine aw_istore (pc := 50) (ls' := [(0, _), (1, _), (2, _), (3, _), (4, _), (5, _), (6, _)]) d_S_reached_50 (by decide) rfl ?_
      refine aw_sub (ls' := [(0, _), (1, _), (2, _), (3, _), (4, _), (5, _)]) [0, 1, 2, 3, 4, 5] rfl ?_
      have h9 : ¬ ((T 1 (i - 1) : Int) + 4 - T 6 4 ≤ 0) := fun z => h42 ((zI_le (by omega) (by decide)).mpr z)
      have h8 : (eL T (i - 1) : Int) = (T 1 (i - 1) : Int) + 4 - T 6 4 := by unfold eL; omega
      exact aw_eq (key (L - ((T 1 (i - 1) : Int) + 4 - T 6 4)) (by have h7 : L = (T 6 3 : Int) - dE T a (i - 1 - a) := hLv; omega)) rfl (by rw [zI_sub]) rfl
set_option maxHeartbeats 1000000 in
set_option maxRecDepth 20000 in
theorem c_S_hearers_1 (hT : okT T) (hE : enH A I 1 T) {a op : Nat} (ha : a < 12) (ho : op < 4096) : AD m_S_hearers r_S_hearers (HH A I J U) [.ref 1, .int (nI a), .int (nI op)] (some (.int (nI (HS T a op)))) (HH A I J U) := by
  refine am_of (by decide) rfl (by first | decide | exact Nat.le_of_ble_eq_true rfl) ?_
  refine aw_aload_n (pc := 0) d_S_hearers_0 rfl rfl ?_
  refine aw_iload_n (pc := 1) d_S_hearers_1 rfl rfl ?_
  refine aw_iconst (pc := 2) (v := 3) d_S_hearers_2 (by decide) ?_
  refine aw_callV1 (pc := 3) (c_S_reached_1 hT hE (le := 3) ha (by omega) (by omega)) ok_S_reached d_S_hearers_3 lm_S_73 hg_1 rfl rfl ⟨by decide, by decide⟩ (Nat.le_of_ble_eq_true rfl) rfl rfl ⟨by decide, by decide⟩ ?_
  refine aw_istore_n (pc := 6) (ls' := [(0, _), (1, _), (2, _), (3, _)]) d_S_hearers_6 rfl (by decide) rfl ?_
  refine aw_aload_n (pc := 7) d_S_hearers_7 rfl rfl ?_
  refine aw_iload_n (pc := 8) d_S_hearers_8 rfl rfl ?_
  refine aw_iconst (pc := 9) (v := 1) d_S_hearers_9 (by decide) ?_
  refine aw_callV1 (pc := 10) (c_S_reached_1 hT hE (le := 1) ha (by omega) (by omega)) ok_S_reached d_S_hearers_10 lm_S_73 hg_1 rfl rfl ⟨by decide, by decide⟩ (Nat.le_of_ble_eq_true rfl) rfl rfl ⟨by decide, by decide⟩ ?_
  refine aw_iload_n (pc := 13) d_S_hearers_13 rfl rfl ?_
  refine aw_iand (pc := 14) d_S_hearers_14 ?_
  refine aw_istore (pc := 15) (ls' := [(0, _), (1, _), (2, _), (3, _), (4, _)]) d_S_hearers_15 (by decide) rfl ?_
  refine aw_iload_n (pc := 17) d_S_hearers_17 rfl rfl ?_
  refine aw_iload (pc := 18) d_S_hearers_18 rfl ?_
  refine aw_ior (pc := 20) d_S_hearers_20 ?_
  refine aw_aload_n (pc := 21) d_S_hearers_21 rfl rfl ?_
  refine aw_geti (pc := 22) (y := (nI (T 6 1))) d_S_hearers_22 lf_S_34 hg_1 rfl hE.2.1 ?_
  refine aw_iconst (pc := 25) (v := (-1)) d_S_hearers_25 (by decide) ?_
  refine aw_ixor (pc := 26) d_S_hearers_26 ?_
  refine aw_iand (pc := 27) d_S_hearers_27 ?_
  refine aw_iret (pc := 28) d_S_hearers_28 rfl ?_
  refine ⟨?_, rfl⟩
  rw [fa_and, fa_or, andn (Nat.or_lt_two_pow (n := 12) (msk_lt _ _) (Nat.lt_of_le_of_lt Nat.and_le_left (msk_lt _ _)))]
  unfold HS
  congr 3
  apply msk_cong
  intro h hh
  rw [Nat.testBit_or, Nat.testBit_and, msk_bit, msk_bit, decide_eq_true hh]
  unfold rc he
  cases h1 : decide (h = a) <;> cases h2 : decide (3 ≤ ld T a h) <;> cases h3 : decide (1 ≤ ld T a h) <;> cases h4 : op.testBit h <;> cases h5 : (T 6 1).testBit h <;> rfl
set_option maxHeartbeats 1000000 in
set_option maxRecDepth 20000 in
theorem c_S_reached_22 (hT : okT T) (hE : enH A I 22 T) {a le : Nat} (ha : a < 12) (hl : 1 ≤ le) (hl2 : le ≤ 40) : AD m_S_reached r_S_reached (HH A I J U) [.ref 22, .int (nI a), .int (nI le)] (some (.int (nI (msk (rc T a le) 12)))) (HH A I J U) := by
  refine am_of (by decide) rfl (by first | decide | exact Nat.le_of_ble_eq_true rfl) ?_
  obtain ⟨hW, hDf, hV0, hWi⟩ := hE
  have hvo := hT.2.2.2.2.2.2.1
  have hwi := hT.2.2.2.2.2.2.2.1
  refine aw_iconst (pc := 0) (v := 1) d_S_reached_0 (by decide) ?_
  refine aw_iload_n (pc := 1) d_S_reached_1 rfl rfl ?_
  refine aw_ishl (pc := 2) d_S_reached_2 ?_
  refine aw_top (sh1 (by omega)) ?_
  refine aw_istore_n (pc := 3) (ls' := [(0, _), (1, _), (2, _), (3, _)]) d_S_reached_3 rfl (by decide) rfl ?_
  refine aw_aload_n (pc := 4) d_S_reached_4 rfl rfl ?_
  refine aw_geti (pc := 5) (y := (zI (T 6 3))) d_S_reached_5 lf_S_40 hg_22 rfl (by rw [hV0, zI_nI]) ?_
  refine aw_istore (pc := 8) (ls' := [(0, _), (1, _), (2, _), (3, _), (4, _)]) d_S_reached_8 (by decide) rfl ?_
  refine aw_iload_n (pc := 10) d_S_reached_10 rfl rfl ?_
  refine aw_iconst (pc := 11) (v := 1) d_S_reached_11 (by decide) ?_
  refine aw_iadd (pc := 12) d_S_reached_12 ?_
  refine aw_top (nI_1 a) ?_
  refine aw_istore (pc := 13) (ls' := [(0, _), (1, _), (2, _), (3, _), (4, _), (5, _)]) d_S_reached_13 (by decide) rfl ?_
  refine lp_i (fun i (x : Int × Nat) => AW m_S_reached r_S_reached ax_E0 (ax_Zm (fun q1 q2 => q1 = some (.int (nI (msk (rc T a le) 12))) ∧ q2 = HH A I J U) 0 0) (HH A I J U) 0 0 15 [(0, .ref 22), (1, .int (nI a)), (2, .int (nI le)), (3, .int (nI x.2)), (4, .int (zI x.1)), (5, .int (nI i))] []) (fun i x => a + 1 ≤ i ∧ x.1 = (T 6 3 : Int) - dE T a (i - 1 - a) ∧ x.2 < 4096 ∧ ∀ h, h < 12 → x.2.testBit h = (decide (h = a) || (decide (a < h ∧ h < i) && decide (le ≤ ld T a h)))) 12 ?_ ?_ (12 - (a + 1)) (a + 1) (T 6 3, 2 ^ a) (by omega) ⟨Nat.le_refl _, by show (T 6 3 : Int) = _ - ((dE T a (a + 1 - 1 - a) : Nat) : Int); rw [show a + 1 - 1 - a = 0 by omega, show dE T a 0 = 0 from rfl]; omega, (Nat.pow_lt_pow_right (show 1 < 2 by decide) ha : 2 ^ a < 2 ^ 12), fun h hh => by
      show (2 ^ a).testBit h = _
      rw [Nat.testBit_two_pow, decide_eq_false (show ¬ (a < h ∧ h < a + 1) by omega), Bool.false_and, Bool.or_false]
      exact decide_eq_decide.mpr ⟨fun z => z.symm, fun z => z.symm⟩⟩
  · rintro ⟨L, b⟩ ⟨-, -, hbl, hbb⟩
    refine aw_iload (pc := 15) d_S_reached_15 rfl ?_
    refine aw_bipush (pc := 17) (v := 12) d_S_reached_17 (by decide) ?_
    refine awn_ge (pc := 19) (tgt := 71) (12) (12) d_S_reached_19 (by decide) rfl rfl (by omega) (by omega) (fun _ => ?_) (fun hh => absurd hh (by omega))
    refine aw_aload_n (pc := 71) d_S_reached_71 rfl rfl ?_
    refine aw_geti (pc := 72) (y := (zI (T 6 3))) d_S_reached_72 lf_S_40 hg_22 rfl (by rw [hV0, zI_nI]) ?_
    refine aw_istore (pc := 75) (ls' := [(0, _), (1, _), (2, _), (3, _), (4, _), (5, _)]) d_S_reached_75 (by decide) rfl ?_
    refine aw_iload_n (pc := 77) d_S_reached_77 rfl rfl ?_
    refine aw_iconst (pc := 78) (v := 1) d_S_reached_78 (by decide) ?_
    refine aw_isub (pc := 79) d_S_reached_79 ?_
    refine aw_top (show nI a - 1 = zI ((a : Int) - 1 - (0 : Nat)) by rw [zI_nI, show (1 : Int32) = zI 1 from rfl, zI_sub]; congr 1; omega) ?_
    refine aw_istore (pc := 80) (ls' := [(0, _), (1, _), (2, _), (3, _), (4, _), (5, _)]) d_S_reached_80 (by decide) rfl ?_
    refine lp_i (fun j (x : Int × Nat) => AW m_S_reached r_S_reached ax_E0 (ax_Zm (fun q1 q2 => q1 = some (.int (nI (msk (rc T a le) 12))) ∧ q2 = HH A I J U) 0 0) (HH A I J U) 0 0 82 [(0, .ref 22), (1, .int (nI a)), (2, .int (nI le)), (3, .int (nI x.2)), (4, .int (zI x.1)), (5, .int (zI ((a : Int) - 1 - j)))] []) (fun j x => x.1 = (T 6 3 : Int) - dW T a j ∧ x.2 < 4096 ∧ ∀ h, h < 12 → x.2.testBit h = (decide (h = a) || (decide (a ≤ h + j) && decide (le ≤ ld T a h)))) a ?_ ?_ a 0 (T 6 3, b) (by omega) ⟨by show (T 6 3 : Int) = _ - ((dW T a 0 : Nat) : Int); rw [show dW T a 0 = 0 from rfl]; omega, hbl, fun h hh => by
        show b.testBit h = _
        rw [hbb h hh]
        by_cases h1 : h = a
        · simp [h1]
        · rw [decide_eq_decide.mpr (show (a < h ∧ h < 12) ↔ a ≤ h + 0 by omega)]⟩
    · rintro ⟨L, b⟩ ⟨-, hbl, hbb⟩
      refine aw_iload (pc := 82) d_S_reached_82 rfl ?_
      refine aw_if_lt (pc := 84) (tgt := 134) d_S_reached_84 (by decide) (fun _ => ?_) (fun hh => absurd (show zI ((a : Int) - 1 - a) < zI 0 from (zI_lt (by omega) (by decide)).mpr (by omega)) hh)
      refine aw_iload_n (pc := 134) d_S_reached_134 rfl rfl ?_
      refine aw_iret (pc := 135) d_S_reached_135 rfl ?_
      refine ⟨?_, rfl⟩
      show some (Value.int (nI b)) = _
      rw [show b = msk (rc T a le) 12 from msk_ext (n := 12) (p := rc T a le) hbl (fun h hh => by rw [hbb h hh, decide_eq_true (show a ≤ h + a by omega), Bool.true_and]; rfl)]
    · rintro j ⟨L, b⟩ hj ⟨hLv, hbl, hbb⟩ ih
      have hw9 := hT.2.1 (a - 1 - j) (by omega)
      have hdb := dW_b hT (a := a) (n := j) (by omega) (by omega)
      have ej : zI ((a : Int) - 1 - j) = nI (a - 1 - j) := by rw [zI_nI]; congr 1; omega
      have ew := dW_s T a j
      have elw := ld_w T (a := a) (h := a - 1 - j) (by omega)
      rw [show a - (a - 1 - j) = j + 1 by omega] at elw
      have bits : ∀ (c : Nat), (∀ h, h < 12 → c.testBit h = (b.testBit h || (decide (h = a - 1 - j) && decide (le ≤ ld T a h)))) → ∀ h, h < 12 → c.testBit h = (decide (h = a) || (decide (a ≤ h + (j + 1)) && decide (le ≤ ld T a h))) := by
        intro c hc h hh
        rw [hc h hh, hbb h hh]
        by_cases h1 : h = a - 1 - j
        · rw [decide_eq_true h1, decide_eq_false (show ¬ h = a by omega), decide_eq_false (show ¬ a ≤ h + j by omega), decide_eq_true (show a ≤ h + (j + 1) by omega)]; simp
        · rw [decide_eq_false h1, decide_eq_decide.mpr (show (a ≤ h + j) ↔ a ≤ h + (j + 1) by omega), Bool.false_and, Bool.or_false]
      have key : ∀ L', L' = (T 6 3 : Int) - dW T a (j + 1) → AW m_S_reached r_S_reached ax_E0 (ax_Zm (fun q1 q2 => q1 = some (.int (nI (msk (rc T a le) 12))) ∧ q2 = HH A I J U) 0 0) (HH A I J U) 0 0 115 [(0, .ref 22), (1, .int (nI a)), (2, .int (nI le)), (3, .int (nI b)), (4, .int (zI L')), (5, .int (zI ((a : Int) - 1 - j)))] [] := by
        intro L' hL'
        have hdb2 := dW_b hT (a := a) (n := j + 1) (by omega) (by omega)
        refine aw_iload (pc := 115) d_S_reached_115 rfl ?_
        refine aw_iload_n (pc := 117) d_S_reached_117 rfl rfl ?_
        refine aw_icmp_lt (pc := 118) (tgt := 128) d_S_reached_118 (by decide) (fun h118 => ?_) (fun h118 => ?_)
        · refine aw_iinc (pc := 128) (ls' := [(0, _), (1, _), (2, _), (3, _), (4, _), (5, _)]) d_S_reached_128 rfl rfl (by decide) rfl ?_
          refine aw_goto (pc := 131) (tgt := 82) d_S_reached_131 (by decide) ?_
          refine aw_eq (ih (L', b) ⟨hL', hbl, bits b (fun h hh => ?_)⟩) rfl (by rw [show Int32.ofInt (-1) = zI (-1) from rfl, zI_add, show (a : Int) - 1 - j + -1 = (a : Int) - 1 - ((j + 1 : Nat) : Int) by omega]) rfl
          have h9 : L' < le := (zI_lt (by omega) (by omega)).mp (by rw [← zI_nI]; exact h118)
          by_cases h1 : h = a - 1 - j
          · subst h1
            rw [decide_eq_false (show ¬ le ≤ ld T a (a - 1 - j) by omega), Bool.and_false, Bool.or_false]
          · rw [decide_eq_false h1, Bool.false_and, Bool.or_false]
        · refine aw_iload_n (pc := 121) d_S_reached_121 rfl rfl ?_
          refine aw_iconst (pc := 122) (v := 1) d_S_reached_122 (by decide) ?_
          refine aw_eq (ls' := [(0, .ref 22), (1, .int (nI a)), (2, .int (nI le)), (3, .int (nI b)), (4, .int (zI L')), (5, .int (nI (a - 1 - j)))]) ?_ rfl (by rw [ej]) rfl
          refine aw_iload (pc := 123) d_S_reached_123 rfl ?_
          refine aw_ishl (pc := 125) d_S_reached_125 ?_
          refine aw_ior (pc := 126) d_S_reached_126 ?_
          refine aw_top (or_bit (by omega)) ?_
          refine aw_istore_n (pc := 127) (ls' := [(0, _), (1, _), (2, _), (3, _), (4, _), (5, _)]) d_S_reached_127 rfl (by decide) rfl ?_
          refine aw_iinc (pc := 128) (ls' := [(0, _), (1, _), (2, _), (3, _), (4, _), (5, _)]) d_S_reached_128 rfl rfl (by decide) rfl ?_
          refine aw_goto (pc := 131) (tgt := 82) d_S_reached_131 (by decide) ?_
          refine aw_eq (ih (L', b ||| 2 ^ (a - 1 - j)) ⟨hL', or_lt hbl (by omega), bits _ (fun h hh => ?_)⟩) rfl (by rw [← ej, show Int32.ofInt (-1) = zI (-1) from rfl, zI_add, show (a : Int) - 1 - j + -1 = (a : Int) - 1 - ((j + 1 : Nat) : Int) by omega]) rfl
          have h9 : ¬ L' < le := fun z => h118 (by rw [zI_nI]; exact (zI_lt (by omega) (by omega)).mpr z)
          rw [fb_bit_set]
          by_cases h1 : h = a - 1 - j
          · subst h1
            rw [decide_eq_true (show le ≤ ld T a (a - 1 - j) by omega), Bool.and_true]
          · rw [decide_eq_false h1, Bool.false_and]
      refine aw_iload (pc := 82) d_S_reached_82 rfl ?_
      refine aw_if_lt (pc := 84) (tgt := 134) d_S_reached_84 (by decide) (fun hh => absurd hh (fun z => absurd ((zI_lt (by omega) (by decide)).mp (show zI ((a : Int) - 1 - j) < zI 0 from z)) (by omega))) (fun _ => ?_)
      refine aw_aload_n (pc := 87) d_S_reached_87 rfl rfl ?_
      refine aw_get (pc := 88) d_S_reached_88 lf_S_15 hg_22 rfl ?_
      refine aw_iload (pc := 91) d_S_reached_91 rfl ?_
      refine aw_ildN (pc := 93) (j := a - 1 - j) d_S_reached_93 hg_24 hW ej (by omega) (by decide) ?_
      refine aw_iconst (pc := 94) (v := 1) d_S_reached_94 (by decide) ?_
      refine aw_iadd (pc := 95) d_S_reached_95 ?_
      refine aw_aload_n (pc := 96) d_S_reached_96 rfl rfl ?_
      refine aw_geti (pc := 97) (y := (nI (T 6 4) - 3)) d_S_reached_97 lf_S_43 hg_22 rfl hWi ?_
      refine aw_iadd (pc := 100) d_S_reached_100 ?_
      refine aw_top (loss_w _ _) ?_
      refine aw_istore (pc := 101) (ls' := [(0, _), (1, _), (2, _), (3, _), (4, _), (5, _), (6, _)]) d_S_reached_101 (by decide) rfl ?_
      refine aw_iload (pc := 103) d_S_reached_103 rfl ?_
      refine aw_if_le (pc := 105) (tgt := 115) d_S_reached_105 (by decide) (fun h105 => ?_) (fun h105 => ?_)
      · refine aw_sub (ls' := [(0, _), (1, _), (2, _), (3, _), (4, _), (5, _)]) [0, 1, 2, 3, 4, 5] rfl ?_
        exact key L (by
          have h9 := (zI_le (by omega) (by decide)).mp (show zI _ ≤ zI 0 from h105)
          have h8 : wL T (a - 1 - j) = 0 := by unfold wL; omega
          show L = _
          rw [ew, h8]; exact hLv)
      · refine aw_iload (pc := 108) d_S_reached_108 rfl ?_
        refine aw_iload (pc := 110) d_S_reached_110 rfl ?_
        refine aw_isub (pc := 112) d_S_reached_112 ?_
        refine aw_istore (pc := 113) (ls' := [(0, _), (1, _), (2, _), (3, _), (4, _), (5, _), (6, _)]) d_S_reached_113 (by decide) rfl ?_
        refine aw_sub (ls' := [(0, _), (1, _), (2, _), (3, _), (4, _), (5, _)]) [0, 1, 2, 3, 4, 5] rfl ?_
        have h9 : ¬ ((T 1 (a - 1 - j) : Int) + T 6 4 - 2 ≤ 0) := fun z => h105 ((zI_le (by omega) (by decide)).mpr z)
        have h8 : (wL T (a - 1 - j) : Int) = (T 1 (a - 1 - j) : Int) + T 6 4 - 2 := by unfold wL; omega
        exact aw_eq (key (L - ((T 1 (a - 1 - j) : Int) + T 6 4 - 2)) (by rw [ew]; have h7 : L = (T 6 3 : Int) - dW T a j := hLv; omega)) rfl (by rw [zI_sub]) rfl
  · rintro i ⟨L, b⟩ hi ⟨hai, hLv, hbl, hbb⟩ ih
    have hw9 := hT.2.1 (i - 1) (by omega)
    have hdb := dE_b hT (a := a) (n := i - 1 - a) (by omega)
    have ew := dE_s T a (i - 1 - a)
    rw [show a + (i - 1 - a) = i - 1 by omega, show i - 1 - a + 1 = i + 1 - 1 - a by omega] at ew
    have ele := ld_e T (a := a) (h := i) (by omega)
    rw [show i - a = i + 1 - 1 - a by omega] at ele
    have bits : ∀ (c : Nat), (∀ h, h < 12 → c.testBit h = (b.testBit h || (decide (h = i) && decide (le ≤ ld T a h)))) → ∀ h, h < 12 → c.testBit h = (decide (h = a) || (decide (a < h ∧ h < i + 1) && decide (le ≤ ld T a h))) := by
      intro c hc h hh
      rw [hc h hh, hbb h hh]
      by_cases h1 : h = i
      · rw [decide_eq_true h1, decide_eq_false (show ¬ h = a by omega), decide_eq_false (show ¬ (a < h ∧ h < i) by omega), decide_eq_true (show a < h ∧ h < i + 1 by omega)]; simp
      · rw [decide_eq_false h1, decide_eq_decide.mpr (show (a < h ∧ h < i) ↔ (a < h ∧ h < i + 1) by omega), Bool.false_and, Bool.or_false]
    have key : ∀ L', L' = (T 6 3 : Int) - dE T a (i + 1 - 1 - a) → AW m_S_reached r_S_reached ax_E0 (ax_Zm (fun q1 q2 => q1 = some (.int (nI (msk (rc T a le) 12))) ∧ q2 = HH A I J U) 0 0) (HH A I J U) 0 0 52 [(0, .ref 22), (1, .int (nI a)), (2, .int (nI le)), (3, .int (nI b)), (4, .int (zI L')), (5, .int (nI i))] [] := by
      intro L' hL'
      have hdb2 := dE_b hT (a := a) (n := i + 1 - 1 - a) (by omega)
      refine aw_iload (pc := 52) d_S_reached_52 rfl ?_
      refine aw_iload_n (pc := 54) d_S_reached_54 rfl rfl ?_
      refine aw_icmp_lt (pc := 55) (tgt := 65) d_S_reached_55 (by decide) (fun h55 => ?_) (fun h55 => ?_)
      · refine aw_incN (pc := 65) (ls' := [(0, _), (1, _), (2, _), (3, _), (4, _), (5, _)]) (i := i) d_S_reached_65 rfl rfl (by decide) rfl ?_
        refine aw_goto (pc := 68) (tgt := 15) d_S_reached_68 (by decide) ?_
        refine ih (L', b) ⟨by omega, hL', hbl, bits b (fun h hh => ?_)⟩
        have h9 : L' < le := (zI_lt (by omega) (by omega)).mp (by rw [← zI_nI]; exact h55)
        by_cases h1 : h = i
        · subst h1
          rw [decide_eq_false (show ¬ le ≤ ld T a h by omega), Bool.and_false, Bool.or_false]
        · rw [decide_eq_false h1, Bool.false_and, Bool.or_false]
      · refine aw_iload_n (pc := 58) d_S_reached_58 rfl rfl ?_
        refine aw_iconst (pc := 59) (v := 1) d_S_reached_59 (by decide) ?_
        refine aw_iload (pc := 60) d_S_reached_60 rfl ?_
        refine aw_ishl (pc := 62) d_S_reached_62 ?_
        refine aw_ior (pc := 63) d_S_reached_63 ?_
        refine aw_top (or_bit (by omega)) ?_
        refine aw_istore_n (pc := 64) (ls' := [(0, _), (1, _), (2, _), (3, _), (4, _), (5, _)]) d_S_reached_64 rfl (by decide) rfl ?_
        refine aw_incN (pc := 65) (ls' := [(0, _), (1, _), (2, _), (3, _), (4, _), (5, _)]) (i := i) d_S_reached_65 rfl rfl (by decide) rfl ?_
        refine aw_goto (pc := 68) (tgt := 15) d_S_reached_68 (by decide) ?_
        refine ih (L', b ||| 2 ^ i) ⟨by omega, hL', or_lt hbl (by omega), bits _ (fun h hh => ?_)⟩
        have h9 : ¬ L' < le := fun z => h55 (by rw [zI_nI]; exact (zI_lt (by omega) (by omega)).mpr z)
        rw [fb_bit_set]
        by_cases h1 : h = i
        · subst h1
          rw [decide_eq_true (show le ≤ ld T a h by omega), Bool.and_true]
        · rw [decide_eq_false h1, Bool.false_and]
    refine aw_iload (pc := 15) d_S_reached_15 rfl ?_
    refine aw_bipush (pc := 17) (v := 12) d_S_reached_17 (by decide) ?_
    refine awn_ge (pc := 19) (tgt := 71) (i) (12) d_S_reached_19 (by decide) rfl rfl (by omega) (by omega) (fun hh => absurd hh (by omega)) (fun _ => ?_)
    refine aw_aload_n (pc := 22) d_S_reached_22 rfl rfl ?_
    refine aw_get (pc := 23) d_S_reached_23 lf_S_15 hg_22 rfl ?_
    refine aw_iload (pc := 26) d_S_reached_26 rfl ?_
    refine aw_iconst (pc := 28) (v := 1) d_S_reached_28 (by decide) ?_
    refine aw_isub (pc := 29) d_S_reached_29 ?_
    refine aw_ildN (pc := 30) (j := i - 1) d_S_reached_30 hg_24 hW (pk_sub (a := i) (b := 1) (by omega)) (by omega) (by decide) ?_
    refine aw_iconst (pc := 31) (v := 1) d_S_reached_31 (by decide) ?_
    refine aw_iadd (pc := 32) d_S_reached_32 ?_
    refine aw_aload_n (pc := 33) d_S_reached_33 rfl rfl ?_
    refine aw_geti (pc := 34) (y := (nI (T 6 4) - 3)) d_S_reached_34 lf_S_43 hg_22 rfl hWi ?_
    refine aw_isub (pc := 37) d_S_reached_37 ?_
    refine aw_top (loss_e _ _) ?_
    refine aw_istore (pc := 38) (ls' := [(0, _), (1, _), (2, _), (3, _), (4, _), (5, _), (6, _)]) d_S_reached_38 (by decide) rfl ?_
    refine aw_iload (pc := 40) d_S_reached_40 rfl ?_
    refine aw_if_le (pc := 42) (tgt := 52) d_S_reached_42 (by decide) (fun h42 => ?_) (fun h42 => ?_)
    · refine aw_sub (ls' := [(0, _), (1, _), (2, _), (3, _), (4, _), (5, _)]) [0, 1, 2, 3, 4, 5] rfl ?_
      exact key L (by
        have h9 := (zI_le (by omega) (by decide)).mp (show zI _ ≤ zI 0 from h42)
        have h8 : eL T (i - 1) = 0 := by unfold eL; omega
        show L = _
        rw [ew, h8]; exact hLv)
    · refine aw_iload (pc := 45) d_S_reached_45 rfl ?_
      refine aw_iload (pc := 47) d_S_reached_47 rfl ?_
      refine aw_isub (pc := 49) d_S_reached_49 ?_
      refine aw_istore (pc := 50) (ls' := [(0, _), (1, _), (2, _), (3, _), (4, _), (5, _), (6, _)]) d_S_reached_50 (by decide) rfl ?_
      refine aw_sub (ls' := [(0, _), (1, _), (2, _), (3, _), (4, _), (5, _)]) [0, 1, 2, 3, 4, 5] rfl ?_
      have h9 : ¬ ((T 1 (i - 1) : Int) + 4 - T 6 4 ≤ 0) := fun z => h42 ((zI_le (by omega) (by decide)).mpr z)
      have h8 : (eL T (i - 1) : Int) = (T 1 (i - 1) : Int) + 4 - T 6 4 := by unfold eL; omega
      exact aw_eq (key (L - ((T 1 (i - 1) : Int) + 4 - T 6 4)) (by have h7 : L = (T 6 3 : Int) - dE T a (i - 1 - a) := hLv; omega)) rfl (by rw [zI_sub]) rfl
set_option maxHeartbeats 1000000 in
set_option maxRecDepth 20000 in
theorem c_S_hearers_22 (hT : okT T) (hE : enH A I 22 T) {a op : Nat} (ha : a < 12) (ho : op < 4096) : AD m_S_hearers r_S_hearers (HH A I J U) [.ref 22, .int (nI a), .int (nI op)] (some (.int (nI (HS T a op)))) (HH A I J U) := by
  refine am_of (by decide) rfl (by first | decide | exact Nat.le_of_ble_eq_true rfl) ?_
  refine aw_aload_n (pc := 0) d_S_hearers_0 rfl rfl ?_
  refine aw_iload_n (pc := 1) d_S_hearers_1 rfl rfl ?_
  refine aw_iconst (pc := 2) (v := 3) d_S_hearers_2 (by decide) ?_
  refine aw_callV1 (pc := 3) (c_S_reached_22 hT hE (le := 3) ha (by omega) (by omega)) ok_S_reached d_S_hearers_3 lm_S_73 hg_22 rfl rfl ⟨by decide, by decide⟩ (Nat.le_of_ble_eq_true rfl) rfl rfl ⟨by decide, by decide⟩ ?_
  refine aw_istore_n (pc := 6) (ls' := [(0, _), (1, _), (2, _), (3, _)]) d_S_hearers_6 rfl (by decide) rfl ?_
  refine aw_aload_n (pc := 7) d_S_hearers_7 rfl rfl ?_
  refine aw_iload_n (pc := 8) d_S_hearers_8 rfl rfl ?_
  refine aw_iconst (pc := 9) (v := 1) d_S_hearers_9 (by decide) ?_
  refine aw_callV1 (pc := 10) (c_S_reached_22 hT hE (le := 1) ha (by omega) (by omega)) ok_S_reached d_S_hearers_10 lm_S_73 hg_22 rfl rfl ⟨by decide, by decide⟩ (Nat.le_of_ble_eq_true rfl) rfl rfl ⟨by decide, by decide⟩ ?_
  refine aw_iload_n (pc := 13) d_S_hearers_13 rfl rfl ?_
  refine aw_iand (pc := 14) d_S_hearers_14 ?_
  refine aw_istore (pc := 15) (ls' := [(0, _), (1, _), (2, _), (3, _), (4, _)]) d_S_hearers_15 (by decide) rfl ?_
  refine aw_iload_n (pc := 17) d_S_hearers_17 rfl rfl ?_
  refine aw_iload (pc := 18) d_S_hearers_18 rfl ?_
  refine aw_ior (pc := 20) d_S_hearers_20 ?_
  refine aw_aload_n (pc := 21) d_S_hearers_21 rfl rfl ?_
  refine aw_geti (pc := 22) (y := (nI (T 6 1))) d_S_hearers_22 lf_S_34 hg_22 rfl hE.2.1 ?_
  refine aw_iconst (pc := 25) (v := (-1)) d_S_hearers_25 (by decide) ?_
  refine aw_ixor (pc := 26) d_S_hearers_26 ?_
  refine aw_iand (pc := 27) d_S_hearers_27 ?_
  refine aw_iret (pc := 28) d_S_hearers_28 rfl ?_
  refine ⟨?_, rfl⟩
  rw [fa_and, fa_or, andn (Nat.or_lt_two_pow (n := 12) (msk_lt _ _) (Nat.lt_of_le_of_lt Nat.and_le_left (msk_lt _ _)))]
  unfold HS
  congr 3
  apply msk_cong
  intro h hh
  rw [Nat.testBit_or, Nat.testBit_and, msk_bit, msk_bit, decide_eq_true hh]
  unfold rc he
  cases h1 : decide (h = a) <;> cases h2 : decide (3 ≤ ld T a h) <;> cases h3 : decide (1 ≤ ld T a h) <;> cases h4 : op.testBit h <;> cases h5 : (T 6 1).testBit h <;> rfl
set_option maxHeartbeats 1000000 in
set_option maxRecDepth 20000 in
theorem c_M_loudAt (hT : okT T) (hE : enG A I T) {a h : Nat} (ha : a < 12) (hh : h < 12) : AD m_M_loudAt r_M_loudAt (HH A I J U) [.ref 36, .int (nI a), .int (nI h)] (some (.int (nI (ld T a h)))) (HH A I J U) := by
  refine am_of (by decide) rfl (by first | decide | exact Nat.le_of_ble_eq_true rfl) ?_
  obtain ⟨hW, hDf, hV0, hWi⟩ := hE
  have hvo := hT.2.2.2.2.2.2.1
  have hwi := hT.2.2.2.2.2.2.2.1
  refine aw_aload_n (pc := 0) d_M_loudAt_0 rfl rfl ?_
  refine aw_geti (pc := 1) (y := (nI (T 6 3))) d_M_loudAt_1 lf_M_19 hg_36 rfl hV0 ?_
  refine aw_istore_n (pc := 4) (ls' := [(0, _), (1, _), (2, _), (3, _)]) d_M_loudAt_4 rfl (by decide) rfl ?_
  refine aw_iload_n (pc := 5) d_M_loudAt_5 rfl rfl ?_
  refine aw_istore (pc := 6) (ls' := [(0, _), (1, _), (2, _), (3, _), (4, _)]) d_M_loudAt_6 (by decide) rfl ?_
  refine lp_i (fun i L => AW m_M_loudAt r_M_loudAt ax_E0 (ax_Zm (fun q1 q2 => q1 = some (.int (nI (ld T a h))) ∧ q2 = HH A I J U) 0 0) (HH A I J U) 0 0 8 [(0, .ref 36), (1, .int (nI a)), (2, .int (nI h)), (3, .int (nI L)), (4, .int (nI i))] []) (fun i L => a ≤ i ∧ L = T 6 3 - dE T a (i - a)) (max a h) ?_ ?_ (max a h - a) a (T 6 3) (by omega) ⟨Nat.le_refl _, by rw [Nat.sub_self, show dE T a 0 = 0 from rfl]; omega⟩
  · intro L hV
    refine aw_iload (pc := 8) d_M_loudAt_8 rfl ?_
    refine aw_iload_n (pc := 10) d_M_loudAt_10 rfl rfl ?_
    refine awn_ge (pc := 11) (tgt := 61) (max a h) (h) d_M_loudAt_11 (by decide) rfl rfl (by omega) (by omega) (fun _ => ?_) (fun hh => absurd hh (by omega))
    refine aw_iload_n (pc := 61) d_M_loudAt_61 rfl rfl ?_
    refine aw_istore (pc := 62) (ls' := [(0, _), (1, _), (2, _), (3, _), (4, _)]) d_M_loudAt_62 (by decide) rfl ?_
    rw [hV.2, show max a h - a = h - a by omega]
    refine lp_i (fun j L => AW m_M_loudAt r_M_loudAt ax_E0 (ax_Zm (fun q1 q2 => q1 = some (.int (nI (ld T a h))) ∧ q2 = HH A I J U) 0 0) (HH A I J U) 0 0 64 [(0, .ref 36), (1, .int (nI a)), (2, .int (nI h)), (3, .int (nI L)), (4, .int (nI (a - j)))] []) (fun j L => L = T 6 3 - dE T a (h - a) - dW T a j) (a - h) ?_ ?_ (a - h) 0 (T 6 3 - dE T a (h - a)) (by omega) (by rw [show dW T a 0 = 0 from rfl]; omega)
    · intro L hV
      refine aw_iload (pc := 64) d_M_loudAt_64 rfl ?_
      refine aw_iload_n (pc := 66) d_M_loudAt_66 rfl rfl ?_
      refine awn_le (pc := 67) (tgt := 119) (a - (a - h)) (h) d_M_loudAt_67 (by decide) rfl rfl (by omega) (by omega) (fun _ => ?_) (fun hh => absurd hh (by omega))
      refine aw_iload_n (pc := 119) d_M_loudAt_119 rfl rfl ?_
      refine aw_iret (pc := 120) d_M_loudAt_120 rfl ?_
      refine ⟨?_, rfl⟩
      rw [hV]
      congr 3
      unfold ld; omega
    · intro j L hj hV ih
      have hw9 := hT.2.1 (a - 1 - j) (by omega)
      have ew := dW_s T a j
      have el : (wL T (a - 1 - j) : Int) = (T 1 (a - 1 - j) : Int) + T 6 4 - 2 ∨ (wL T (a - 1 - j) = 0 ∧ (T 1 (a - 1 - j) : Int) + T 6 4 - 2 ≤ 0) := by unfold wL; omega
      refine aw_iload (pc := 64) d_M_loudAt_64 rfl ?_
      refine aw_iload_n (pc := 66) d_M_loudAt_66 rfl rfl ?_
      refine awn_le (pc := 67) (tgt := 119) (a - j) (h) d_M_loudAt_67 (by decide) rfl rfl (by omega) (by omega) (fun hh => absurd hh (by omega)) (fun _ => ?_)
      refine aw_iload_n (pc := 70) d_M_loudAt_70 rfl rfl ?_
      refine aw_iconst (pc := 71) (v := 1) d_M_loudAt_71 (by decide) ?_
      refine aw_isub (pc := 72) d_M_loudAt_72 ?_
      refine aw_aload_n (pc := 73) d_M_loudAt_73 rfl rfl ?_
      refine aw_get (pc := 74) d_M_loudAt_74 lf_M_16 hg_36 rfl ?_
      refine aw_iload (pc := 77) d_M_loudAt_77 rfl ?_
      refine aw_iconst (pc := 79) (v := 1) d_M_loudAt_79 (by decide) ?_
      refine aw_isub (pc := 80) d_M_loudAt_80 ?_
      refine aw_ildN (pc := 81) (j := a - 1 - j) d_M_loudAt_81 hg_39 hW (show nI (a - j) - 1 = nI (a - 1 - j) by rw [show a - j = (a - 1 - j) + 1 by omega]; exact nI_pred _) (by omega) (by decide) ?_
      refine aw_isub (pc := 82) d_M_loudAt_82 ?_
      refine aw_aload_n (pc := 83) d_M_loudAt_83 rfl rfl ?_
      refine aw_geti (pc := 84) (y := (nI (T 6 4) - 3)) d_M_loudAt_84 lf_M_60 hg_36 rfl hWi ?_
      refine aw_isub (pc := 87) d_M_loudAt_87 ?_
      refine aw_top (y := zI ((L : Int) - ((T 1 (a - 1 - j) : Int) + T 6 4 - 2))) (by rw [zI_nI, zI_nI, zI_nI, show (1 : Int32) = zI 1 from rfl, show (3 : Int32) = zI 3 from rfl, zI_sub, zI_sub, zI_sub, zI_sub]; congr 1; omega) ?_
      refine aw_istore (pc := 88) (ls' := [(0, _), (1, _), (2, _), (3, _), (4, _), (5, _)]) d_M_loudAt_88 (by decide) rfl ?_
      refine aw_iload (pc := 90) d_M_loudAt_90 rfl ?_
      refine aw_iload_n (pc := 92) d_M_loudAt_92 rfl rfl ?_
      refine aw_icmp_ge (pc := 93) (tgt := 101) d_M_loudAt_93 (by decide) (fun h93 => ?_) (fun h93 => ?_)
      · have h9 : (L : Int) ≤ (L : Int) - ((T 1 (a - 1 - j) : Int) + T 6 4 - 2) := (zI_le (by omega) (by omega)).mp (by rw [← zI_nI]; exact h93)
        refine aw_iload_n (pc := 101) d_M_loudAt_101 rfl rfl ?_
        refine aw_istore_n (pc := 102) (ls' := [(0, _), (1, _), (2, _), (3, _), (4, _), (5, _)]) d_M_loudAt_102 rfl (by decide) rfl ?_
        refine aw_iload_n (pc := 103) d_M_loudAt_103 rfl rfl ?_
        refine aw_if_ge (pc := 104) (tgt := 111) d_M_loudAt_104 (by decide) (fun _ => ?_) (fun hh => absurd (show (0 : Int32) ≤ nI L from nI_pos' (by omega)) hh)
        refine aw_iload_n (pc := 111) d_M_loudAt_111 rfl rfl ?_
        refine aw_istore_n (pc := 112) (ls' := [(0, _), (1, _), (2, _), (3, _), (4, _), (5, _)]) d_M_loudAt_112 rfl (by decide) rfl ?_
        refine aw_decN (pc := 113) (ls' := [(0, _), (1, _), (2, _), (3, _), (4, _), (5, _)]) (i := a - (j + 1)) d_M_loudAt_113 rfl (by rw [show a - j = a - (j + 1) + 1 by omega]) (by decide) rfl ?_
        refine aw_goto (pc := 116) (tgt := 64) d_M_loudAt_116 (by decide) ?_
        refine aw_sub (ls' := [(0, _), (1, _), (2, _), (3, _), (4, _)]) [0, 1, 2, 3, 4] rfl ?_
        exact ih L (by omega)
      · have h9 : ¬ (L : Int) ≤ (L : Int) - ((T 1 (a - 1 - j) : Int) + T 6 4 - 2) := fun z => h93 (by rw [zI_nI]; exact (zI_le (by omega) (by omega)).mpr z)
        refine aw_iload (pc := 96) d_M_loudAt_96 rfl ?_
        refine aw_goto (pc := 98) (tgt := 102) d_M_loudAt_98 (by decide) ?_
        refine aw_istore_n (pc := 102) (ls' := [(0, _), (1, _), (2, _), (3, _), (4, _), (5, _)]) d_M_loudAt_102 rfl (by decide) rfl ?_
        refine aw_iload_n (pc := 103) d_M_loudAt_103 rfl rfl ?_
        refine aw_if_ge (pc := 104) (tgt := 111) d_M_loudAt_104 (by decide) (fun h104 => ?_) (fun h104 => ?_)
        · have h8 := (zI_le (by decide) (by omega)).mp (show zI 0 ≤ _ from h104)
          refine aw_iload_n (pc := 111) d_M_loudAt_111 rfl rfl ?_
          refine aw_istore_n (pc := 112) (ls' := [(0, _), (1, _), (2, _), (3, _), (4, _), (5, _)]) d_M_loudAt_112 rfl (by decide) rfl ?_
          refine aw_decN (pc := 113) (ls' := [(0, _), (1, _), (2, _), (3, _), (4, _), (5, _)]) (i := a - (j + 1)) d_M_loudAt_113 rfl (by rw [show a - j = a - (j + 1) + 1 by omega]) (by decide) rfl ?_
          refine aw_goto (pc := 116) (tgt := 64) d_M_loudAt_116 (by decide) ?_
          refine aw_sub (ls' := [(0, _), (1, _), (2, _), (3, _), (4, _)]) [0, 1, 2, 3, 4] rfl ?_
          exact aw_eq (ih (L - wL T (a - 1 - j)) (by omega)) rfl (by rw [show nI (L - wL T (a - 1 - j)) = zI ((L : Int) - ((T 1 (a - 1 - j) : Int) + T 6 4 - 2)) by rw [zI_nI]; congr 1; omega]) rfl
        · have h8 : ¬ (0 : Int) ≤ (L : Int) - ((T 1 (a - 1 - j) : Int) + T 6 4 - 2) := fun z => h104 (show zI 0 ≤ _ from (zI_le (by decide) (by omega)).mpr z)
          refine aw_iconst (pc := 107) (v := 0) d_M_loudAt_107 (by decide) ?_
          refine aw_goto (pc := 108) (tgt := 112) d_M_loudAt_108 (by decide) ?_
          refine aw_istore_n (pc := 112) (ls' := [(0, _), (1, _), (2, _), (3, _), (4, _), (5, _)]) d_M_loudAt_112 rfl (by decide) rfl ?_
          refine aw_decN (pc := 113) (ls' := [(0, _), (1, _), (2, _), (3, _), (4, _), (5, _)]) (i := a - (j + 1)) d_M_loudAt_113 rfl (by rw [show a - j = a - (j + 1) + 1 by omega]) (by decide) rfl ?_
          refine aw_goto (pc := 116) (tgt := 64) d_M_loudAt_116 (by decide) ?_
          refine aw_sub (ls' := [(0, _), (1, _), (2, _), (3, _), (4, _)]) [0, 1, 2, 3, 4] rfl ?_
          exact ih 0 (by omega)
  · intro i L hi hV ih
    have hw9 := hT.2.1 i (by omega)
    have ew := dE_s T a (i - a)
    rw [show a + (i - a) = i by omega, show i - a + 1 = i + 1 - a by omega] at ew
    have el : (eL T i : Int) = (T 1 i : Int) + 4 - T 6 4 ∨ (eL T i = 0 ∧ (T 1 i : Int) + 4 - T 6 4 ≤ 0) := by unfold eL; omega
    refine aw_iload (pc := 8) d_M_loudAt_8 rfl ?_
    refine aw_iload_n (pc := 10) d_M_loudAt_10 rfl rfl ?_
    refine awn_ge (pc := 11) (tgt := 61) (i) (h) d_M_loudAt_11 (by decide) rfl rfl (by omega) (by omega) (fun hh => absurd hh (by omega)) (fun _ => ?_)
    refine aw_iload_n (pc := 14) d_M_loudAt_14 rfl rfl ?_
    refine aw_iconst (pc := 15) (v := 1) d_M_loudAt_15 (by decide) ?_
    refine aw_isub (pc := 16) d_M_loudAt_16 ?_
    refine aw_aload_n (pc := 17) d_M_loudAt_17 rfl rfl ?_
    refine aw_get (pc := 18) d_M_loudAt_18 lf_M_16 hg_36 rfl ?_
    refine aw_iload (pc := 21) d_M_loudAt_21 rfl ?_
    refine aw_ildN (pc := 23) (j := i) d_M_loudAt_23 hg_39 hW rfl (by omega) (by decide) ?_
    refine aw_isub (pc := 24) d_M_loudAt_24 ?_
    refine aw_aload_n (pc := 25) d_M_loudAt_25 rfl rfl ?_
    refine aw_geti (pc := 26) (y := (nI (T 6 4) - 3)) d_M_loudAt_26 lf_M_60 hg_36 rfl hWi ?_
    refine aw_iadd (pc := 29) d_M_loudAt_29 ?_
    refine aw_top (y := zI ((L : Int) - ((T 1 i : Int) + 4 - T 6 4))) (by rw [zI_nI, zI_nI, zI_nI, show (1 : Int32) = zI 1 from rfl, show (3 : Int32) = zI 3 from rfl, zI_sub, zI_sub, zI_sub, zI_add]; congr 1; omega) ?_
    refine aw_istore (pc := 30) (ls' := [(0, _), (1, _), (2, _), (3, _), (4, _), (5, _)]) d_M_loudAt_30 (by decide) rfl ?_
    refine aw_iload (pc := 32) d_M_loudAt_32 rfl ?_
    refine aw_iload_n (pc := 34) d_M_loudAt_34 rfl rfl ?_
    refine aw_icmp_ge (pc := 35) (tgt := 43) d_M_loudAt_35 (by decide) (fun h35 => ?_) (fun h35 => ?_)
    · have h9 : (L : Int) ≤ (L : Int) - ((T 1 i : Int) + 4 - T 6 4) := (zI_le (by omega) (by omega)).mp (by rw [← zI_nI]; exact h35)
      refine aw_iload_n (pc := 43) d_M_loudAt_43 rfl rfl ?_
      refine aw_istore_n (pc := 44) (ls' := [(0, _), (1, _), (2, _), (3, _), (4, _), (5, _)]) d_M_loudAt_44 rfl (by decide) rfl ?_
      refine aw_iload_n (pc := 45) d_M_loudAt_45 rfl rfl ?_
      refine aw_if_ge (pc := 46) (tgt := 53) d_M_loudAt_46 (by decide) (fun _ => ?_) (fun hh => absurd (show (0 : Int32) ≤ nI L from nI_pos' (by omega)) hh)
      refine aw_iload_n (pc := 53) d_M_loudAt_53 rfl rfl ?_
      refine aw_istore_n (pc := 54) (ls' := [(0, _), (1, _), (2, _), (3, _), (4, _), (5, _)]) d_M_loudAt_54 rfl (by decide) rfl ?_
      refine aw_incN (pc := 55) (ls' := [(0, _), (1, _), (2, _), (3, _), (4, _), (5, _)]) (i := i) d_M_loudAt_55 rfl rfl (by decide) rfl ?_
      refine aw_goto (pc := 58) (tgt := 8) d_M_loudAt_58 (by decide) ?_
      refine aw_sub (ls' := [(0, _), (1, _), (2, _), (3, _), (4, _)]) [0, 1, 2, 3, 4] rfl ?_
      exact ih L ⟨by omega, by omega⟩
    · have h9 : ¬ (L : Int) ≤ (L : Int) - ((T 1 i : Int) + 4 - T 6 4) := fun z => h35 (by rw [zI_nI]; exact (zI_le (by omega) (by omega)).mpr z)
      refine aw_iload (pc := 38) d_M_loudAt_38 rfl ?_
      refine aw_goto (pc := 40) (tgt := 44) d_M_loudAt_40 (by decide) ?_
      refine aw_istore_n (pc := 44) (ls' := [(0, _), (1, _), (2, _), (3, _), (4, _), (5, _)]) d_M_loudAt_44 rfl (by decide) rfl ?_
      refine aw_iload_n (pc := 45) d_M_loudAt_45 rfl rfl ?_
      refine aw_if_ge (pc := 46) (tgt := 53) d_M_loudAt_46 (by decide) (fun h46 => ?_) (fun h46 => ?_)
      · have h8 := (zI_le (by decide) (by omega)).mp (show zI 0 ≤ _ from h46)
        refine aw_iload_n (pc := 53) d_M_loudAt_53 rfl rfl ?_
        refine aw_istore_n (pc := 54) (ls' := [(0, _), (1, _), (2, _), (3, _), (4, _), (5, _)]) d_M_loudAt_54 rfl (by decide) rfl ?_
        refine aw_incN (pc := 55) (ls' := [(0, _), (1, _), (2, _), (3, _), (4, _), (5, _)]) (i := i) d_M_loudAt_55 rfl rfl (by decide) rfl ?_
        refine aw_goto (pc := 58) (tgt := 8) d_M_loudAt_58 (by decide) ?_
        refine aw_sub (ls' := [(0, _), (1, _), (2, _), (3, _), (4, _)]) [0, 1, 2, 3, 4] rfl ?_
        exact aw_eq (ih (L - eL T i) ⟨by omega, by omega⟩) rfl (by rw [show nI (L - eL T i) = zI ((L : Int) - ((T 1 i : Int) + 4 - T 6 4)) by rw [zI_nI]; congr 1; omega]) rfl
      · have h8 : ¬ (0 : Int) ≤ (L : Int) - ((T 1 i : Int) + 4 - T 6 4) := fun z => h46 (show zI 0 ≤ _ from (zI_le (by decide) (by omega)).mpr z)
        refine aw_iconst (pc := 49) (v := 0) d_M_loudAt_49 (by decide) ?_
        refine aw_goto (pc := 50) (tgt := 54) d_M_loudAt_50 (by decide) ?_
        refine aw_istore_n (pc := 54) (ls' := [(0, _), (1, _), (2, _), (3, _), (4, _), (5, _)]) d_M_loudAt_54 rfl (by decide) rfl ?_
        refine aw_incN (pc := 55) (ls' := [(0, _), (1, _), (2, _), (3, _), (4, _), (5, _)]) (i := i) d_M_loudAt_55 rfl rfl (by decide) rfl ?_
        refine aw_goto (pc := 58) (tgt := 8) d_M_loudAt_58 (by decide) ?_
        refine aw_sub (ls' := [(0, _), (1, _), (2, _), (3, _), (4, _)]) [0, 1, 2, 3, 4] rfl ?_
        exact ih 0 ⟨by omega, by omega⟩
theorem ld_lt {T : town} (hT : okT T) (a h : Nat) : ld T a h ≤ 40 := by
  have := hT.2.2.2.2.2.2.1.2
  unfold ld; omega
set_option maxHeartbeats 1000000 in
set_option maxRecDepth 20000 in
theorem c_M_doesHear (hT : okT T) (hE : enG A I T) {a h op : Nat} (ha : a < 12) (hh : h < 12) (ho : op < 4096) : AD m_M_doesHear r_M_doesHear (HH A I J U) [.ref 36, .int (nI a), .int (nI h), .int (nI op)] (some (.int (b2 (he T a op h = true)))) (HH A I J U) := by
  refine am_of (by decide) rfl (by first | decide | exact Nat.le_of_ble_eq_true rfl) ?_
  have hd9 := hT.2.2.2.2.1
  have hl9 := ld_lt hT a h
  refine aw_aload_n (pc := 0) d_M_doesHear_0 rfl rfl ?_
  refine aw_iload_n (pc := 1) d_M_doesHear_1 rfl rfl ?_
  refine aw_iload_n (pc := 2) d_M_doesHear_2 rfl rfl ?_
  refine aw_callV1 (pc := 3) (c_M_loudAt hT hE ha hh) ok_M_loudAt d_M_doesHear_3 lm_M_73 hg_36 rfl rfl ⟨by decide, by decide⟩ (Nat.le_of_ble_eq_true rfl) rfl rfl ⟨by decide, by decide⟩ ?_
  refine aw_istore (pc := 6) (ls' := [(0, _), (1, _), (2, _), (3, _), (4, _)]) d_M_doesHear_6 (by decide) rfl ?_
  refine aw_aload_n (pc := 8) d_M_doesHear_8 rfl rfl ?_
  refine aw_geti (pc := 9) (y := (nI (T 6 1))) d_M_doesHear_9 lf_M_49 hg_36 rfl hE.2.1 ?_
  refine aw_iload_n (pc := 12) d_M_doesHear_12 rfl rfl ?_
  refine aw_callS1 (pc := 13) (c_M_has _ _ _) ok_M_has d_M_doesHear_13 lm_M_77 rfl rfl ⟨by decide, by decide⟩ (Nat.le_of_ble_eq_true rfl) rfl rfl ⟨by decide, by decide⟩ ?_
  refine aw_bn (pc := 16) (tgt := 47) d_M_doesHear_16 (by decide) (fun h16 => ?_) (fun h16 => ?_)
  · refine aw_iconst (pc := 47) (v := 0) d_M_doesHear_47 (by decide) ?_
    refine aw_zret (pc := 48) d_M_doesHear_48 rfl ft_0 ?_
    have h1 := (hb_nI (by omega) (by omega)).mp h16
    exact ⟨by rw [b2_0]; simp [he, h1], rfl⟩
  · have h1 : (T 6 1).testBit h = false := by
      cases hq : (T 6 1).testBit h with
      | false => rfl
      | true => exact absurd ((hb_nI (by omega) (by omega)).mpr hq) h16
    refine aw_iload_n (pc := 19) d_M_doesHear_19 rfl rfl ?_
    refine aw_iload_n (pc := 20) d_M_doesHear_20 rfl rfl ?_
    refine awn_eq (pc := 21) (tgt := 43) (h) (a) d_M_doesHear_21 (by decide) rfl rfl (by omega) (by omega) (fun h21 => ?_) (fun h21 => ?_)
    · refine aw_iconst (pc := 43) (v := 1) d_M_doesHear_43 (by decide) ?_
      refine aw_goto (pc := 44) (tgt := 48) d_M_doesHear_44 (by decide) ?_
      refine aw_zret (pc := 48) d_M_doesHear_48 rfl ft_1 ?_
      subst h21
      exact ⟨by rw [b2_1]; simp [he, h1], rfl⟩
    · refine aw_iload (pc := 24) d_M_doesHear_24 rfl ?_
      refine aw_iconst (pc := 26) (v := 2) d_M_doesHear_26 (by decide) ?_
      refine awn_gt (pc := 27) (tgt := 43) (ld T a h) (2) d_M_doesHear_27 (by decide) rfl rfl (by omega) (by omega) (fun h27 => ?_) (fun h27 => ?_)
      · refine aw_iconst (pc := 43) (v := 1) d_M_doesHear_43 (by decide) ?_
        refine aw_goto (pc := 44) (tgt := 48) d_M_doesHear_44 (by decide) ?_
        refine aw_zret (pc := 48) d_M_doesHear_48 rfl ft_1 ?_
        exact ⟨by rw [b2_1]; simp [he, h1, show 3 ≤ ld T a h by omega], rfl⟩
      · refine aw_iload (pc := 30) d_M_doesHear_30 rfl ?_
        refine aw_if_le (pc := 32) (tgt := 47) d_M_doesHear_32 (by decide) (fun h32 => ?_) (fun h32 => ?_)
        · have h2 : ld T a h = 0 := by
            rcases Nat.eq_zero_or_pos (ld T a h) with q | q
            · exact q
            · exact absurd h32 (nI_nle q (by omega))
          refine aw_iconst (pc := 47) (v := 0) d_M_doesHear_47 (by decide) ?_
          refine aw_zret (pc := 48) d_M_doesHear_48 rfl ft_0 ?_
          exact ⟨by rw [b2_0]; simp [he, h21, h2], rfl⟩
        · have h2 : 1 ≤ ld T a h := by
            rcases Nat.eq_zero_or_pos (ld T a h) with q | q
            · rw [q] at h32; exact absurd (by decide) h32
            · exact q
          refine aw_iload_n (pc := 35) d_M_doesHear_35 rfl rfl ?_
          refine aw_iload_n (pc := 36) d_M_doesHear_36 rfl rfl ?_
          refine aw_callS1 (pc := 37) (c_M_has _ _ _) ok_M_has d_M_doesHear_37 lm_M_77 rfl rfl ⟨by decide, by decide⟩ (Nat.le_of_ble_eq_true rfl) rfl rfl ⟨by decide, by decide⟩ ?_
          refine aw_bz (pc := 40) (tgt := 47) d_M_doesHear_40 (by decide) (fun h40 => ?_) (fun h40 => ?_)
          · have h3 : op.testBit h = false := by
              cases hq : op.testBit h with
              | false => rfl
              | true => exact absurd ((hb_nI (by omega) (by omega)).mpr hq) h40
            refine aw_iconst (pc := 47) (v := 0) d_M_doesHear_47 (by decide) ?_
            refine aw_zret (pc := 48) d_M_doesHear_48 rfl ft_0 ?_
            exact ⟨by rw [b2_0]; simp [he, h21, h3]; omega, rfl⟩
          · have h3 := (hb_nI (by omega) (by omega)).mp h40
            refine aw_iconst (pc := 43) (v := 1) d_M_doesHear_43 (by decide) ?_
            refine aw_goto (pc := 44) (tgt := 48) d_M_doesHear_44 (by decide) ?_
            refine aw_zret (pc := 48) d_M_doesHear_48 rfl ft_1 ?_
            exact ⟨by rw [b2_1]; simp [he, h1, h3, h2], rfl⟩
theorem or_0 (x : Int32) : x ||| 0 = x := by
  apply b_ext
  intro i hi
  rw [b_or, b_0, Bool.or_false]
set_option maxHeartbeats 1000000 in
set_option maxRecDepth 20000 in
theorem c_M_hearers (hT : okT T) (hE : enG A I T) {a op : Nat} (ha : a < 12) (ho : op < 4096) : AD m_M_hearers r_M_hearers (HH A I J U) [.ref 36, .int (nI a), .int (nI op)] (some (.int (nI (HS T a op)))) (HH A I J U) := by
  refine am_of (by decide) rfl (by first | decide | exact Nat.le_of_ble_eq_true rfl) ?_
  refine aw_iconst (pc := 0) (v := 0) d_M_hearers_0 (by decide) ?_
  refine aw_istore_n (pc := 1) (ls' := [(0, _), (1, _), (2, _), (3, _)]) d_M_hearers_1 rfl (by decide) rfl ?_
  refine aw_iconst (pc := 2) (v := 0) d_M_hearers_2 (by decide) ?_
  refine aw_istore (pc := 3) (ls' := [(0, _), (1, _), (2, _), (3, _), (4, _)]) d_M_hearers_3 (by decide) rfl ?_
  refine lp_i (fun i b => AW m_M_hearers r_M_hearers ax_E0 (ax_Zm (fun q1 q2 => q1 = some (.int (nI (HS T a op))) ∧ q2 = HH A I J U) 0 0) (HH A I J U) 0 0 5 [(0, .ref 36), (1, .int (nI a)), (2, .int (nI op)), (3, .int (nI b)), (4, .int (nI i))] []) (fun i b => b = msk (he T a op) i) 12 ?_ ?_ 12 0 0 (by omega) rfl
  · intro b hV
    refine aw_iload (pc := 5) d_M_hearers_5 rfl ?_
    refine aw_bipush (pc := 7) (v := 12) d_M_hearers_7 (by decide) ?_
    refine awn_ge (pc := 9) (tgt := 40) (12) (12) d_M_hearers_9 (by decide) rfl rfl (by omega) (by omega) (fun _ => ?_) (fun hh => absurd hh (by omega))
    refine aw_iload_n (pc := 40) d_M_hearers_40 rfl rfl ?_
    refine aw_iret (pc := 41) d_M_hearers_41 rfl ?_
    exact ⟨by rw [hV]; rfl, rfl⟩
  · intro i b hi hV ih
    refine aw_iload (pc := 5) d_M_hearers_5 rfl ?_
    refine aw_bipush (pc := 7) (v := 12) d_M_hearers_7 (by decide) ?_
    refine awn_ge (pc := 9) (tgt := 40) (i) (12) d_M_hearers_9 (by decide) rfl rfl (by omega) (by omega) (fun hh => absurd hh (by omega)) (fun _ => ?_)
    refine aw_iload_n (pc := 12) d_M_hearers_12 rfl rfl ?_
    refine aw_aload_n (pc := 13) d_M_hearers_13 rfl rfl ?_
    refine aw_iload_n (pc := 14) d_M_hearers_14 rfl rfl ?_
    refine aw_iload (pc := 15) d_M_hearers_15 rfl ?_
    refine aw_iload_n (pc := 17) d_M_hearers_17 rfl rfl ?_
    refine aw_callV1 (pc := 18) (c_M_doesHear hT hE (h := i) ha (by omega) ho) ok_M_doesHear d_M_hearers_18 lm_M_81 hg_36 rfl rfl ⟨by decide, by decide⟩ (Nat.le_of_ble_eq_true rfl) rfl rfl ⟨by decide, by decide⟩ ?_
    refine aw_bz (pc := 21) (tgt := 31) d_M_hearers_21 (by decide) (fun h21 => ?_) (fun h21 => ?_)
    · refine aw_iconst (pc := 31) (v := 0) d_M_hearers_31 (by decide) ?_
      refine aw_ior (pc := 32) d_M_hearers_32 ?_
      refine aw_top (or_0 _) ?_
      refine aw_istore_n (pc := 33) (ls' := [(0, _), (1, _), (2, _), (3, _), (4, _)]) d_M_hearers_33 rfl (by decide) rfl ?_
      refine aw_incN (pc := 34) (ls' := [(0, _), (1, _), (2, _), (3, _), (4, _)]) (i := i) d_M_hearers_34 rfl rfl (by decide) rfl ?_
      refine aw_goto (pc := 37) (tgt := 5) d_M_hearers_37 (by decide) ?_
      exact ih b (by rw [msk, if_neg h21, Nat.or_zero]; exact hV)
    · refine aw_iconst (pc := 24) (v := 1) d_M_hearers_24 (by decide) ?_
      refine aw_iload (pc := 25) d_M_hearers_25 rfl ?_
      refine aw_ishl (pc := 27) d_M_hearers_27 ?_
      refine aw_goto (pc := 28) (tgt := 32) d_M_hearers_28 (by decide) ?_
      refine aw_ior (pc := 32) d_M_hearers_32 ?_
      refine aw_top (or_bit (by omega)) ?_
      refine aw_istore_n (pc := 33) (ls' := [(0, _), (1, _), (2, _), (3, _), (4, _)]) d_M_hearers_33 rfl (by decide) rfl ?_
      refine aw_incN (pc := 34) (ls' := [(0, _), (1, _), (2, _), (3, _), (4, _)]) (i := i) d_M_hearers_34 rfl rfl (by decide) rfl ?_
      refine aw_goto (pc := 37) (tgt := 5) d_M_hearers_37 (by decide) ?_
      exact ih (b ||| 2 ^ i) (by rw [msk, if_pos h21, hV])
end HEAR

