/-! told: both sides -/
def tA (T : town) (np k : Nat) : Int32 := if k = 0 then nI np else if k = 1 then nI (T 6 5) else if k = 2 then nI (T 6 6) else if k = 3 then nI (T 6 0) else if k = 4 then nI (T 6 1) else if k = 5 then nI (T 6 2) else if k = 6 then nI (T 6 7) else if k = 7 then nI (T 6 3) else nI (T 6 4) - 3 + 3
def tL (T : town) (l p : Nat) : Int32 := if p < 4 then nI (T (2 + p) l) else -2
def aTold (T : town) (np : Nat) (w : Int32) : Int32 := if 0 ≤ w ∧ w ≤ 8 then tA T np w.toNatClampNeg else if 20 ≤ w ∧ w ≤ 31 then nI (T 0 (w.toNatClampNeg - 20)) else if 40 ≤ w ∧ w ≤ 50 then nI (T 1 (w.toNatClampNeg - 40)) else if 100 ≤ w ∧ w ≤ 159 then tL T ((w.toNatClampNeg - 100) / 10) (w.toNatClampNeg % 10) else -2
theorem in_nI {j a b : Nat} (hj : j < 2 ^ 31) (ha : a < 2 ^ 31) (hb : b < 2 ^ 31) : (nI a ≤ nI j ∧ nI j ≤ nI b) ↔ (a ≤ j ∧ j ≤ b) := by rw [nI_leI ha hj, nI_leI hj hb]
theorem aTold_n (T : town) (np : Nat) {j : Nat} (hj : j < 2 ^ 31) : aTold T np (nI j) = if 0 ≤ j ∧ j ≤ 8 then tA T np j else if 20 ≤ j ∧ j ≤ 31 then nI (T 0 (j - 20)) else if 40 ≤ j ∧ j ≤ 50 then nI (T 1 (j - 40)) else if 100 ≤ j ∧ j ≤ 159 then tL T ((j - 100) / 10) (j % 10) else -2 := by
  unfold aTold
  rw [nI_clamp hj]
  have i1 : (0 ≤ nI j ∧ nI j ≤ 8) ↔ (0 ≤ j ∧ j ≤ 8) := in_nI (a := 0) (b := 8) hj (by omega) (by omega)
  have i2 : (20 ≤ nI j ∧ nI j ≤ 31) ↔ (20 ≤ j ∧ j ≤ 31) := in_nI (a := 20) (b := 31) hj (by omega) (by omega)
  have i3 : (40 ≤ nI j ∧ nI j ≤ 50) ↔ (40 ≤ j ∧ j ≤ 50) := in_nI (a := 40) (b := 50) hj (by omega) (by omega)
  have i4 : (100 ≤ nI j ∧ nI j ≤ 159) ↔ (100 ≤ j ∧ j ≤ 159) := in_nI (a := 100) (b := 159) hj (by omega) (by omega)
  by_cases h1 : 0 ≤ j ∧ j ≤ 8
  · rw [if_pos (i1.mpr h1), if_pos h1]
  · rw [if_neg (fun z => h1 (i1.mp z)), if_neg h1]
    by_cases h2 : 20 ≤ j ∧ j ≤ 31
    · rw [if_pos (i2.mpr h2), if_pos h2]
    · rw [if_neg (fun z => h2 (i2.mp z)), if_neg h2]
      by_cases h3 : 40 ≤ j ∧ j ≤ 50
      · rw [if_pos (i3.mpr h3), if_pos h3]
      · rw [if_neg (fun z => h3 (i3.mp z)), if_neg h3]
        by_cases h4 : 100 ≤ j ∧ j ≤ 159
        · rw [if_pos (i4.mpr h4), if_pos h4]
        · rw [if_neg (fun z => h4 (i4.mp z)), if_neg h4]
theorem aTold_o (T : town) (np : Nat) {w : Int32} (h : w < 0) : aTold T np w = -2 := by
  have h0 : ∀ a b : Int32, 0 ≤ a → ¬ (a ≤ w ∧ w ≤ b) := fun a b ha z => absurd h (Int32.not_lt.mpr (Int32.le_trans ha z.1))
  unfold aTold
  rw [if_neg (h0 _ _ (by decide)), if_neg (h0 _ _ (by decide)), if_neg (h0 _ _ (by decide)), if_neg (h0 _ _ (by decide))]
theorem neg_or {w : Int32} : w < 0 ∨ ∃ j : Nat, j < 2 ^ 31 ∧ w = nI j := by
  by_cases h : w < 0
  · exact Or.inl h
  · have h1 := Int32.not_lt.mp h
    have h2 : (0 : Int) ≤ w.toInt := (fa_le _ _).mp h1
    have h3 : w.toInt < 2147483648 := Int32.toInt_lt w
    refine Or.inr ⟨w.toInt.toNat, by omega, ?_⟩
    rw [zI_nI, show ((w.toInt.toNat : Nat) : Int) = w.toInt by omega]
    exact (Int32.ofInt_toInt w).symm
section TOLD
variable {A : Nat → List Int32} {I : Nat → Nat → Int32} {J : Nat → List Int64} {U : Nat → Nat → Int64} {T : town} {np : Nat} {PD : Nat → Nat} {km : Nat} {TI : Nat → town}
set_option maxHeartbeats 1000000 in
set_option maxRecDepth 20000 in
theorem c_V_toldOfAll (hE : enS A I 1 T) (h29 : I 29 1 = nI np) {k : Nat} (hk : k ≤ 8) : AD m_V_toldOfAll r_V_toldOfAll (HH A I J U) [.ref 0, .int (nI k)] (some (.int (tA T np k))) (HH A I J U) := by
  obtain ⟨-, b6, b7, b8, b9, b10, b11, b12, b13, -, -⟩ := hE
  refine am_of (by decide) rfl (by first | decide | exact Nat.le_of_ble_eq_true rfl) ?_
  rcases (show k = 0 ∨ k = 1 ∨ k = 2 ∨ k = 3 ∨ k = 4 ∨ k = 5 ∨ k = 6 ∨ k = 7 ∨ k = 8 by omega) with rfl | rfl | rfl | rfl | rfl | rfl | rfl | rfl | rfl
  · refine aw_iload_n (pc := 0) d_V_toldOfAll_0 rfl rfl ?_
    refine aw_swIn (pc := 1) (tgt := 48) d_V_toldOfAll_1 (by decide) (by decide) rfl (by decide) ?_
    refine aw_aload_n (pc := 48) d_V_toldOfAll_48 rfl rfl ?_
    refine aw_get (pc := 49) d_V_toldOfAll_49 lf_V_28 hg_0 rfl ?_
    refine aw_geti (pc := 52) (y := (nI np)) d_V_toldOfAll_52 lf_V_109 hg_29 rfl h29 ?_
    refine aw_iret (pc := 55) d_V_toldOfAll_55 rfl ?_
    exact ⟨rfl, rfl⟩
  · refine aw_iload_n (pc := 0) d_V_toldOfAll_0 rfl rfl ?_
    refine aw_swIn (pc := 1) (tgt := 56) d_V_toldOfAll_1 (by decide) (by decide) rfl (by decide) ?_
    refine aw_aload_n (pc := 56) d_V_toldOfAll_56 rfl rfl ?_
    refine aw_get (pc := 57) d_V_toldOfAll_57 lf_V_10 hg_0 rfl ?_
    refine aw_geti (pc := 60) (y := (nI (T 6 5))) d_V_toldOfAll_60 lf_V_87 hg_1 rfl b11 ?_
    refine aw_iret (pc := 63) d_V_toldOfAll_63 rfl ?_
    exact ⟨rfl, rfl⟩
  · refine aw_iload_n (pc := 0) d_V_toldOfAll_0 rfl rfl ?_
    refine aw_swIn (pc := 1) (tgt := 64) d_V_toldOfAll_1 (by decide) (by decide) rfl (by decide) ?_
    refine aw_aload_n (pc := 64) d_V_toldOfAll_64 rfl rfl ?_
    refine aw_get (pc := 65) d_V_toldOfAll_65 lf_V_10 hg_0 rfl ?_
    refine aw_geti (pc := 68) (y := (nI (T 6 6))) d_V_toldOfAll_68 lf_V_136 hg_1 rfl b12 ?_
    refine aw_iret (pc := 71) d_V_toldOfAll_71 rfl ?_
    exact ⟨rfl, rfl⟩
  · refine aw_iload_n (pc := 0) d_V_toldOfAll_0 rfl rfl ?_
    refine aw_swIn (pc := 1) (tgt := 72) d_V_toldOfAll_1 (by decide) (by decide) rfl (by decide) ?_
    refine aw_aload_n (pc := 72) d_V_toldOfAll_72 rfl rfl ?_
    refine aw_get (pc := 73) d_V_toldOfAll_73 lf_V_10 hg_0 rfl ?_
    refine aw_geti (pc := 76) (y := (nI (T 6 0))) d_V_toldOfAll_76 lf_V_58 hg_1 rfl b6 ?_
    refine aw_iret (pc := 79) d_V_toldOfAll_79 rfl ?_
    exact ⟨rfl, rfl⟩
  · refine aw_iload_n (pc := 0) d_V_toldOfAll_0 rfl rfl ?_
    refine aw_swIn (pc := 1) (tgt := 80) d_V_toldOfAll_1 (by decide) (by decide) rfl (by decide) ?_
    refine aw_aload_n (pc := 80) d_V_toldOfAll_80 rfl rfl ?_
    refine aw_get (pc := 81) d_V_toldOfAll_81 lf_V_10 hg_0 rfl ?_
    refine aw_geti (pc := 84) (y := (nI (T 6 1))) d_V_toldOfAll_84 lf_V_65 hg_1 rfl b7 ?_
    refine aw_iret (pc := 87) d_V_toldOfAll_87 rfl ?_
    exact ⟨rfl, rfl⟩
  · refine aw_iload_n (pc := 0) d_V_toldOfAll_0 rfl rfl ?_
    refine aw_swIn (pc := 1) (tgt := 88) d_V_toldOfAll_1 (by decide) (by decide) rfl (by decide) ?_
    refine aw_aload_n (pc := 88) d_V_toldOfAll_88 rfl rfl ?_
    refine aw_get (pc := 89) d_V_toldOfAll_89 lf_V_10 hg_0 rfl ?_
    refine aw_geti (pc := 92) (y := (nI (T 6 2))) d_V_toldOfAll_92 lf_V_102 hg_1 rfl b8 ?_
    refine aw_iret (pc := 95) d_V_toldOfAll_95 rfl ?_
    exact ⟨rfl, rfl⟩
  · refine aw_iload_n (pc := 0) d_V_toldOfAll_0 rfl rfl ?_
    refine aw_swIn (pc := 1) (tgt := 96) d_V_toldOfAll_1 (by decide) (by decide) rfl (by decide) ?_
    refine aw_aload_n (pc := 96) d_V_toldOfAll_96 rfl rfl ?_
    refine aw_get (pc := 97) d_V_toldOfAll_97 lf_V_10 hg_0 rfl ?_
    refine aw_geti (pc := 100) (y := (nI (T 6 7))) d_V_toldOfAll_100 lf_V_167 hg_1 rfl b13 ?_
    refine aw_iret (pc := 103) d_V_toldOfAll_103 rfl ?_
    exact ⟨rfl, rfl⟩
  · refine aw_iload_n (pc := 0) d_V_toldOfAll_0 rfl rfl ?_
    refine aw_swIn (pc := 1) (tgt := 104) d_V_toldOfAll_1 (by decide) (by decide) rfl (by decide) ?_
    refine aw_aload_n (pc := 104) d_V_toldOfAll_104 rfl rfl ?_
    refine aw_get (pc := 105) d_V_toldOfAll_105 lf_V_10 hg_0 rfl ?_
    refine aw_geti (pc := 108) (y := (nI (T 6 3))) d_V_toldOfAll_108 lf_V_81 hg_1 rfl b9 ?_
    refine aw_iret (pc := 111) d_V_toldOfAll_111 rfl ?_
    exact ⟨rfl, rfl⟩
  · refine aw_iload_n (pc := 0) d_V_toldOfAll_0 rfl rfl ?_
    refine aw_swOut (pc := 1) (tgt := 112) d_V_toldOfAll_1 (Or.inr (by decide)) (by decide) ?_
    refine aw_aload_n (pc := 112) d_V_toldOfAll_112 rfl rfl ?_
    refine aw_get (pc := 113) d_V_toldOfAll_113 lf_V_10 hg_0 rfl ?_
    refine aw_geti (pc := 116) (y := (nI (T 6 4) - 3)) d_V_toldOfAll_116 lf_V_84 hg_1 rfl b10 ?_
    refine aw_iconst (pc := 119) (v := 3) d_V_toldOfAll_119 (by decide) ?_
    refine aw_iadd (pc := 120) d_V_toldOfAll_120 ?_
    refine aw_iret (pc := 121) d_V_toldOfAll_121 rfl ?_
    exact ⟨rfl, rfl⟩
set_option maxHeartbeats 1000000 in
set_option maxRecDepth 20000 in
theorem c_V_toldOfLetter (hE : enS A I 1 T) {l k : Nat} (hl : l < 6) (hk : k < 10) : AD m_V_toldOfLetter r_V_toldOfLetter (HH A I J U) [.ref 0, .int (nI l), .int (nI k)] (some (.int (tL T l k))) (HH A I J U) := by
  obtain ⟨⟨a1, a2, a3, a4, a5, a6⟩, -⟩ := hE
  refine am_of (by decide) rfl (by first | decide | exact Nat.le_of_ble_eq_true rfl) ?_
  rcases (show k = 0 ∨ k = 1 ∨ k = 2 ∨ k = 3 ∨ (4 ≤ k ∧ k < 10) by omega) with rfl | rfl | rfl | rfl | h4
  · refine aw_iload_n (pc := 0) d_V_toldOfLetter_0 rfl rfl ?_
    refine aw_swIn (pc := 1) (tgt := 32) d_V_toldOfLetter_1 (by decide) (by decide) rfl (by decide) ?_
    refine aw_aload_n (pc := 32) d_V_toldOfLetter_32 rfl rfl ?_
    refine aw_get (pc := 33) d_V_toldOfLetter_33 lf_V_10 hg_0 rfl ?_
    refine aw_get (pc := 36) d_V_toldOfLetter_36 lf_V_90 hg_1 rfl ?_
    refine aw_iload_n (pc := 39) d_V_toldOfLetter_39 rfl rfl ?_
    refine aw_ildN (pc := 40) (j := l) d_V_toldOfLetter_40 hg_4 a3 rfl hl (by decide) ?_
    refine aw_iret (pc := 41) d_V_toldOfLetter_41 rfl ?_
    exact ⟨rfl, rfl⟩
  · refine aw_iload_n (pc := 0) d_V_toldOfLetter_0 rfl rfl ?_
    refine aw_swIn (pc := 1) (tgt := 42) d_V_toldOfLetter_1 (by decide) (by decide) rfl (by decide) ?_
    refine aw_aload_n (pc := 42) d_V_toldOfLetter_42 rfl rfl ?_
    refine aw_get (pc := 43) d_V_toldOfLetter_43 lf_V_10 hg_0 rfl ?_
    refine aw_get (pc := 46) d_V_toldOfLetter_46 lf_V_93 hg_1 rfl ?_
    refine aw_iload_n (pc := 49) d_V_toldOfLetter_49 rfl rfl ?_
    refine aw_ildN (pc := 50) (j := l) d_V_toldOfLetter_50 hg_5 a4 rfl hl (by decide) ?_
    refine aw_iret (pc := 51) d_V_toldOfLetter_51 rfl ?_
    exact ⟨rfl, rfl⟩
  · refine aw_iload_n (pc := 0) d_V_toldOfLetter_0 rfl rfl ?_
    refine aw_swIn (pc := 1) (tgt := 52) d_V_toldOfLetter_1 (by decide) (by decide) rfl (by decide) ?_
    refine aw_aload_n (pc := 52) d_V_toldOfLetter_52 rfl rfl ?_
    refine aw_get (pc := 53) d_V_toldOfLetter_53 lf_V_10 hg_0 rfl ?_
    refine aw_get (pc := 56) d_V_toldOfLetter_56 lf_V_96 hg_1 rfl ?_
    refine aw_iload_n (pc := 59) d_V_toldOfLetter_59 rfl rfl ?_
    refine aw_ildN (pc := 60) (j := l) d_V_toldOfLetter_60 hg_6 a5 rfl hl (by decide) ?_
    refine aw_iret (pc := 61) d_V_toldOfLetter_61 rfl ?_
    exact ⟨rfl, rfl⟩
  · refine aw_iload_n (pc := 0) d_V_toldOfLetter_0 rfl rfl ?_
    refine aw_swIn (pc := 1) (tgt := 62) d_V_toldOfLetter_1 (by decide) (by decide) rfl (by decide) ?_
    refine aw_aload_n (pc := 62) d_V_toldOfLetter_62 rfl rfl ?_
    refine aw_get (pc := 63) d_V_toldOfLetter_63 lf_V_10 hg_0 rfl ?_
    refine aw_get (pc := 66) d_V_toldOfLetter_66 lf_V_99 hg_1 rfl ?_
    refine aw_iload_n (pc := 69) d_V_toldOfLetter_69 rfl rfl ?_
    refine aw_ildN (pc := 70) (j := l) d_V_toldOfLetter_70 hg_7 a6 rfl hl (by decide) ?_
    refine aw_iret (pc := 71) d_V_toldOfLetter_71 rfl ?_
    exact ⟨rfl, rfl⟩
  · refine aw_iload_n (pc := 0) d_V_toldOfLetter_0 rfl rfl ?_
    refine aw_swOut (pc := 1) (tgt := 72) d_V_toldOfLetter_1 (Or.inr (by rw [zI_nI, fb_ofI (by omega) (by omega)]; omega)) (by decide) ?_
    refine aw_bipush (pc := 72) (v := (-2)) d_V_toldOfLetter_72 (by decide) ?_
    refine aw_iret (pc := 74) d_V_toldOfLetter_74 rfl ?_
    exact ⟨by unfold tL; rw [if_neg (by omega)], rfl⟩
set_option maxHeartbeats 1000000 in
set_option maxRecDepth 20000 in
theorem v_told (h : ci T np PD km TI A I J) (w : Int32) : AM m_V_told r_V_told (HH A I J U) [.ref 0, .int w] (pV T np PD km TI (.int (aTold T np w)) A I J) := by
  obtain ⟨hT, hE, -, ⟨-, -, -, h29⟩, -⟩ := id h
  refine am_of (by decide) rfl (by first | decide | exact Nat.le_of_ble_eq_true rfl) ?_
  refine aw_iload_n (pc := 0) d_V_told_0 rfl rfl ?_
  refine aw_iconst (pc := 1) (v := 0) d_V_told_1 (by decide) ?_
  refine aw_bipush (pc := 2) (v := 8) d_V_told_2 (by decide) ?_
  refine aw_callS1 (pc := 4) (c_V_within _ _ _ _) ok_V_within d_V_told_4 lm_V_50 rfl rfl ⟨by decide, by decide⟩ (Nat.le_of_ble_eq_true rfl) rfl rfl ⟨by decide, by decide⟩ ?_
  refine aw_bz (pc := 7) (tgt := 16) d_V_told_7 (by decide) (fun h7 => ?_) (fun h7 => ?_)
  · refine aw_iload_n (pc := 16) d_V_told_16 rfl rfl ?_
    refine aw_bipush (pc := 17) (v := 20) d_V_told_17 (by decide) ?_
    refine aw_bipush (pc := 19) (v := 31) d_V_told_19 (by decide) ?_
    refine aw_callS1 (pc := 21) (c_V_within _ _ _ _) ok_V_within d_V_told_21 lm_V_50 rfl rfl ⟨by decide, by decide⟩ (Nat.le_of_ble_eq_true rfl) rfl rfl ⟨by decide, by decide⟩ ?_
    refine aw_bz (pc := 24) (tgt := 40) d_V_told_24 (by decide) (fun h24 => ?_) (fun h24 => ?_)
    · refine aw_iload_n (pc := 40) d_V_told_40 rfl rfl ?_
      refine aw_bipush (pc := 41) (v := 40) d_V_told_41 (by decide) ?_
      refine aw_bipush (pc := 43) (v := 50) d_V_told_43 (by decide) ?_
      refine aw_callS1 (pc := 45) (c_V_within _ _ _ _) ok_V_within d_V_told_45 lm_V_50 rfl rfl ⟨by decide, by decide⟩ (Nat.le_of_ble_eq_true rfl) rfl rfl ⟨by decide, by decide⟩ ?_
      refine aw_bz (pc := 48) (tgt := 64) d_V_told_48 (by decide) (fun h48 => ?_) (fun h48 => ?_)
      · refine aw_iload_n (pc := 64) d_V_told_64 rfl rfl ?_
        refine aw_bipush (pc := 65) (v := 100) d_V_told_65 (by decide) ?_
        refine aw_sipush (pc := 67) (v := 159) d_V_told_67 (by decide) ?_
        refine aw_callS1 (pc := 70) (c_V_within _ _ _ _) ok_V_within d_V_told_70 lm_V_50 rfl rfl ⟨by decide, by decide⟩ (Nat.le_of_ble_eq_true rfl) rfl rfl ⟨by decide, by decide⟩ ?_
        refine aw_bz (pc := 73) (tgt := 92) d_V_told_73 (by decide) (fun h73 => ?_) (fun h73 => ?_)
        · refine aw_bipush (pc := 92) (v := (-2)) d_V_told_92 (by decide) ?_
          refine aw_iret (pc := 94) d_V_told_94 rfl ?_
          have ea : aTold T np w = -2 := by unfold aTold; rw [if_neg h7, if_neg h24, if_neg h48, if_neg h73]
          rw [ea]
          exact pV_r h _
        · obtain ⟨j, hj, rfl⟩ := rng 159 (by omega) ⟨Int32.le_trans (by decide) h73.1, h73.2⟩
          have hj2 : 100 ≤ j := (nI_leI (a := 100) (by omega) (by omega)).mp h73.1
          have ea : aTold T np (nI j) = tL T ((j - 100) / 10) (j % 10) := by unfold aTold; rw [if_neg h7, if_neg h24, if_neg h48, if_pos h73, nI_clamp (by omega)]
          refine aw_aload_n (pc := 76) d_V_told_76 rfl rfl ?_
          refine aw_iload_n (pc := 77) d_V_told_77 rfl rfl ?_
          refine aw_bipush (pc := 78) (v := 100) d_V_told_78 (by decide) ?_
          refine aw_isub (pc := 80) d_V_told_80 ?_
          refine aw_bipush (pc := 81) (v := 10) d_V_told_81 (by decide) ?_
          refine aw_idiv (pc := 83) d_V_told_83 (by decide) ?_
          refine aw_top (y := nI ((j - 100) / 10)) (by rw [show nI j - 100 = nI (j - 100) from pk_sub (b := 100) (by omega)]; exact pk_div (d := 10) (by omega) (by decide) (by decide)) ?_
          refine aw_iload_n (pc := 84) d_V_told_84 rfl rfl ?_
          refine aw_bipush (pc := 85) (v := 10) d_V_told_85 (by decide) ?_
          refine aw_irem (pc := 87) d_V_told_87 (by decide) ?_
          refine aw_top (y := nI (j % 10)) (pk_rem (d := 10) (by omega) (by decide) (by decide)) ?_
          refine aw_callV1 (pc := 88) (c_V_toldOfLetter hE (l := (j - 100) / 10) (k := j % 10) (by omega) (by omega)) ok_V_toldOfLetter d_V_told_88 lm_V_230 hg_0 rfl rfl ⟨by decide, by decide⟩ (Nat.le_of_ble_eq_true rfl) rfl rfl ⟨by decide, by decide⟩ ?_
          refine aw_iret (pc := 91) d_V_told_91 rfl ?_
          rw [ea]
          exact pV_r h _
      · obtain ⟨j, hj, rfl⟩ := rng 50 (by omega) ⟨Int32.le_trans (by decide) h48.1, h48.2⟩
        have hj2 : 40 ≤ j := (nI_leI (a := 40) (by omega) (by omega)).mp h48.1
        have ea : aTold T np (nI j) = nI (T 1 (j - 40)) := by unfold aTold; rw [if_neg h7, if_neg h24, if_pos h48, nI_clamp (by omega)]
        refine aw_aload_n (pc := 51) d_V_told_51 rfl rfl ?_
        refine aw_get (pc := 52) d_V_told_52 lf_V_10 hg_0 rfl ?_
        refine aw_get (pc := 55) d_V_told_55 lf_V_68 hg_1 rfl ?_
        refine aw_iload_n (pc := 58) d_V_told_58 rfl rfl ?_
        refine aw_bipush (pc := 59) (v := 40) d_V_told_59 (by decide) ?_
        refine aw_isub (pc := 61) d_V_told_61 ?_
        refine aw_top (y := nI (j - 40)) (pk_sub (b := 40) (by omega)) ?_
        refine aw_ildN (pc := 62) (j := j - 40) d_V_told_62 hg_3 hE.1.2.1 rfl (by omega) (by decide) ?_
        refine aw_iret (pc := 63) d_V_told_63 rfl ?_
        rw [ea]
        exact pV_r h _
    · obtain ⟨j, hj, rfl⟩ := rng 31 (by omega) ⟨Int32.le_trans (by decide) h24.1, h24.2⟩
      have hj2 : 20 ≤ j := (nI_leI (a := 20) (by omega) (by omega)).mp h24.1
      have ea : aTold T np (nI j) = nI (T 0 (j - 20)) := by unfold aTold; rw [if_neg h7, if_pos h24, nI_clamp (by omega)]
      refine aw_aload_n (pc := 27) d_V_told_27 rfl rfl ?_
      refine aw_get (pc := 28) d_V_told_28 lf_V_10 hg_0 rfl ?_
      refine aw_get (pc := 31) d_V_told_31 lf_V_54 hg_1 rfl ?_
      refine aw_iload_n (pc := 34) d_V_told_34 rfl rfl ?_
      refine aw_bipush (pc := 35) (v := 20) d_V_told_35 (by decide) ?_
      refine aw_isub (pc := 37) d_V_told_37 ?_
      refine aw_top (y := nI (j - 20)) (pk_sub (b := 20) (by omega)) ?_
      refine aw_ildN (pc := 38) (j := j - 20) d_V_told_38 hg_2 hE.1.1 rfl (by omega) (by decide) ?_
      refine aw_iret (pc := 39) d_V_told_39 rfl ?_
      rw [ea]
      exact pV_r h _
  · obtain ⟨j, hj, rfl⟩ := rng 8 (by omega) h7
    have ea : aTold T np (nI j) = tA T np j := by unfold aTold; rw [if_pos h7, nI_clamp (by omega)]
    refine aw_aload_n (pc := 10) d_V_told_10 rfl rfl ?_
    refine aw_iload_n (pc := 11) d_V_told_11 rfl rfl ?_
    refine aw_callV1 (pc := 12) (c_V_toldOfAll hE h29 hj) ok_V_toldOfAll d_V_told_12 lm_V_227 hg_0 rfl rfl ⟨by decide, by decide⟩ (Nat.le_of_ble_eq_true rfl) rfl rfl ⟨by decide, by decide⟩ ?_
    refine aw_iret (pc := 15) d_V_told_15 rfl ?_
    rw [ea]
    exact pV_r h _
set_option maxHeartbeats 1000000 in
set_option maxRecDepth 20000 in
theorem n_told (h : mi T np PD km TI A I J) (w : Int32) : AM m_M_told r_M_told (HH A I J U) [.ref 36, .int w] (pN T np PD km TI (.int (aTold T np w)) A I J) := by
  obtain ⟨hT, hE, -, ⟨-, -, -, h36⟩, -⟩ := id h
  obtain ⟨⟨a1, a2, a3, a4⟩, b1, b2_, b3, b4⟩ := id hE
  refine am_of (by decide) rfl (by first | decide | exact Nat.le_of_ble_eq_true rfl) ?_
  rcases neg_or (w := w) with hw | ⟨j, hj, rfl⟩
  · rw [aTold_o T np hw]
    have l1 : w < 100 := fa_trans hw (by decide)
    have l2 : w < 40 := fa_trans hw (by decide)
    have l3 : w < 20 := fa_trans hw (by decide)
    have l4 : ¬ w = 8 := fun z => by rw [z] at hw; exact absurd hw (by decide)
    refine aw_iload_n (pc := 0) d_M_told_0 rfl rfl ?_
    refine aw_bipush (pc := 1) (v := 100) d_M_told_1 (by decide) ?_
    refine aw_icmp_lt (pc := 3) (tgt := 46) d_M_told_3 (by decide) (fun _ => ?_) (fun hh => absurd l1 hh)
    refine aw_iload_n (pc := 46) d_M_told_46 rfl rfl ?_
    refine aw_bipush (pc := 47) (v := 40) d_M_told_47 (by decide) ?_
    refine aw_icmp_lt (pc := 49) (tgt := 78) d_M_told_49 (by decide) (fun _ => ?_) (fun hh => absurd l2 hh)
    refine aw_iload_n (pc := 78) d_M_told_78 rfl rfl ?_
    refine aw_bipush (pc := 79) (v := 20) d_M_told_79 (by decide) ?_
    refine aw_icmp_lt (pc := 81) (tgt := 109) d_M_told_81 (by decide) (fun _ => ?_) (fun hh => absurd l3 hh)
    refine aw_iload_n (pc := 109) d_M_told_109 rfl rfl ?_
    refine aw_swOut (pc := 110) (tgt := 208) d_M_told_110 (Or.inl ((fa_lt _ _).mp hw)) (by decide) ?_
    refine aw_iload_n (pc := 208) d_M_told_208 rfl rfl ?_
    refine aw_bipush (pc := 209) (v := 8) d_M_told_209 (by decide) ?_
    refine aw_icmp_ne (pc := 211) (tgt := 223) d_M_told_211 (by decide) (fun _ => ?_) (fun hh => absurd hh l4)
    refine aw_bipush (pc := 223) (v := (-2)) d_M_told_223 (by decide) ?_
    refine aw_iret (pc := 225) d_M_told_225 rfl ?_
    exact pN_r h _
  · rw [aTold_n T np hj]
    by_cases c1 : 100 ≤ j
    · rw [if_neg (by omega), if_neg (by omega), if_neg (by omega)]
      by_cases c2 : j ≤ 159
      · rw [if_pos ⟨c1, c2⟩]
        by_cases c3 : j % 10 < 4
        · have e1 : tL T ((j - 100) / 10) (j % 10) = nI (lt T (4 * ((j - 100) / 10) + j % 10)) := by unfold tL; rw [if_pos c3, lt_at T c3]
          rw [e1]
          refine aw_iload_n (pc := 0) d_M_told_0 rfl rfl ?_
          refine aw_bipush (pc := 1) (v := 100) d_M_told_1 (by decide) ?_
          refine awn_lt (pc := 3) (tgt := 46) (j) (100) d_M_told_3 (by decide) rfl rfl (by omega) (by omega) (fun hh => absurd hh (by omega)) (fun _ => ?_)
          refine aw_iload_n (pc := 6) d_M_told_6 rfl rfl ?_
          refine aw_sipush (pc := 7) (v := 160) d_M_told_7 (by decide) ?_
          refine awn_ge (pc := 10) (tgt := 43) (j) (160) d_M_told_10 (by decide) rfl rfl (by omega) (by omega) (fun hh => absurd hh (by omega)) (fun _ => ?_)
          refine aw_iload_n (pc := 13) d_M_told_13 rfl rfl ?_
          refine aw_bipush (pc := 14) (v := 10) d_M_told_14 (by decide) ?_
          refine aw_irem (pc := 16) d_M_told_16 (by decide) ?_
          refine aw_top (y := nI (j % 10)) (pk_rem (d := 10) (by omega) (by decide) (by decide)) ?_
          refine aw_iconst (pc := 17) (v := 4) d_M_told_17 (by decide) ?_
          refine awn_ge (pc := 18) (tgt := 43) (j % 10) (4) d_M_told_18 (by decide) rfl rfl (by omega) (by omega) (fun hh => absurd hh (by omega)) (fun _ => ?_)
          refine aw_aload_n (pc := 21) d_M_told_21 rfl rfl ?_
          refine aw_get (pc := 22) d_M_told_22 lf_M_23 hg_36 rfl ?_
          refine aw_iconst (pc := 25) (v := 4) d_M_told_25 (by decide) ?_
          refine aw_iload_n (pc := 26) d_M_told_26 rfl rfl ?_
          refine aw_bipush (pc := 27) (v := 10) d_M_told_27 (by decide) ?_
          refine aw_idiv (pc := 29) d_M_told_29 (by decide) ?_
          refine aw_bipush (pc := 30) (v := 10) d_M_told_30 (by decide) ?_
          refine aw_isub (pc := 32) d_M_told_32 ?_
          refine aw_imul (pc := 33) d_M_told_33 ?_
          refine aw_iload_n (pc := 34) d_M_told_34 rfl rfl ?_
          refine aw_bipush (pc := 35) (v := 10) d_M_told_35 (by decide) ?_
          refine aw_irem (pc := 37) d_M_told_37 (by decide) ?_
          refine aw_top (y := nI (j % 10)) (pk_rem (d := 10) (by omega) (by decide) (by decide)) ?_
          refine aw_iadd (pc := 38) d_M_told_38 ?_
          refine aw_top (y := nI (4 * ((j - 100) / 10) + j % 10)) (by rw [show nI j / 10 = nI (j / 10) from pk_div (d := 10) (by omega) (by decide) (by decide), show nI (j / 10) - 10 = nI (j / 10 - 10) from pk_sub (b := 10) (by omega), show j / 10 - 10 = (j - 100) / 10 by omega]; exact ix_at _ _) ?_
          refine aw_ildN (pc := 39) (j := 4 * ((j - 100) / 10) + j % 10) d_M_told_39 hg_40 a3 rfl (by omega) (by decide) ?_
          refine aw_goto (pc := 40) (tgt := 45) d_M_told_40 (by decide) ?_
          refine aw_iret (pc := 45) d_M_told_45 rfl ?_
          exact pN_r h _
        · have e1 : tL T ((j - 100) / 10) (j % 10) = -2 := by unfold tL; rw [if_neg c3]
          rw [e1]
          refine aw_iload_n (pc := 0) d_M_told_0 rfl rfl ?_
          refine aw_bipush (pc := 1) (v := 100) d_M_told_1 (by decide) ?_
          refine awn_lt (pc := 3) (tgt := 46) (j) (100) d_M_told_3 (by decide) rfl rfl (by omega) (by omega) (fun hh => absurd hh (by omega)) (fun _ => ?_)
          refine aw_iload_n (pc := 6) d_M_told_6 rfl rfl ?_
          refine aw_sipush (pc := 7) (v := 160) d_M_told_7 (by decide) ?_
          refine awn_ge (pc := 10) (tgt := 43) (j) (160) d_M_told_10 (by decide) rfl rfl (by omega) (by omega) (fun hh => absurd hh (by omega)) (fun _ => ?_)
          refine aw_iload_n (pc := 13) d_M_told_13 rfl rfl ?_
          refine aw_bipush (pc := 14) (v := 10) d_M_told_14 (by decide) ?_
          refine aw_irem (pc := 16) d_M_told_16 (by decide) ?_
          refine aw_top (y := nI (j % 10)) (pk_rem (d := 10) (by omega) (by decide) (by decide)) ?_
          refine aw_iconst (pc := 17) (v := 4) d_M_told_17 (by decide) ?_
          refine awn_ge (pc := 18) (tgt := 43) (j % 10) (4) d_M_told_18 (by decide) rfl rfl (by omega) (by omega) (fun _ => ?_) (fun hh => absurd hh (by omega))
          refine aw_bipush (pc := 43) (v := (-2)) d_M_told_43 (by decide) ?_
          refine aw_iret (pc := 45) d_M_told_45 rfl ?_
          exact pN_r h _
      · rw [if_neg (by omega)]
        refine aw_iload_n (pc := 0) d_M_told_0 rfl rfl ?_
        refine aw_bipush (pc := 1) (v := 100) d_M_told_1 (by decide) ?_
        refine awn_lt (pc := 3) (tgt := 46) (j) (100) d_M_told_3 (by decide) rfl rfl (by omega) (by omega) (fun hh => absurd hh (by omega)) (fun _ => ?_)
        refine aw_iload_n (pc := 6) d_M_told_6 rfl rfl ?_
        refine aw_sipush (pc := 7) (v := 160) d_M_told_7 (by decide) ?_
        refine awn_ge (pc := 10) (tgt := 43) (j) (160) d_M_told_10 (by decide) rfl rfl (by omega) (by omega) (fun _ => ?_) (fun hh => absurd hh (by omega))
        refine aw_bipush (pc := 43) (v := (-2)) d_M_told_43 (by decide) ?_
        refine aw_iret (pc := 45) d_M_told_45 rfl ?_
        exact pN_r h _
    · by_cases c2 : 40 ≤ j
      · rw [if_neg (by omega), if_neg (by omega)]
        by_cases c3 : j ≤ 50
        · rw [if_pos ⟨c2, c3⟩]
          refine aw_iload_n (pc := 0) d_M_told_0 rfl rfl ?_
          refine aw_bipush (pc := 1) (v := 100) d_M_told_1 (by decide) ?_
          refine awn_lt (pc := 3) (tgt := 46) (j) (100) d_M_told_3 (by decide) rfl rfl (by omega) (by omega) (fun _ => ?_) (fun hh => absurd hh (by omega))
          refine aw_iload_n (pc := 46) d_M_told_46 rfl rfl ?_
          refine aw_bipush (pc := 47) (v := 40) d_M_told_47 (by decide) ?_
          refine awn_lt (pc := 49) (tgt := 78) (j) (40) d_M_told_49 (by decide) rfl rfl (by omega) (by omega) (fun hh => absurd hh (by omega)) (fun _ => ?_)
          refine aw_iload_n (pc := 52) d_M_told_52 rfl rfl ?_
          refine aw_bipush (pc := 53) (v := 40) d_M_told_53 (by decide) ?_
          refine aw_bipush (pc := 55) (v := 50) d_M_told_55 (by decide) ?_
          refine aw_callS1 (pc := 57) (c_M_in _ _ _ _) ok_M_in d_M_told_57 lm_M_52 rfl rfl ⟨by decide, by decide⟩ (Nat.le_of_ble_eq_true rfl) rfl rfl ⟨by decide, by decide⟩ ?_
          refine aw_bz (pc := 60) (tgt := 75) d_M_told_60 (by decide) (fun hh => absurd ((in_nI (a := 40) (b := 50) hj (by omega) (by omega)).mpr ⟨c2, c3⟩) hh) (fun _ => ?_)
          refine aw_aload_n (pc := 63) d_M_told_63 rfl rfl ?_
          refine aw_get (pc := 64) d_M_told_64 lf_M_16 hg_36 rfl ?_
          refine aw_iload_n (pc := 67) d_M_told_67 rfl rfl ?_
          refine aw_bipush (pc := 68) (v := 40) d_M_told_68 (by decide) ?_
          refine aw_isub (pc := 70) d_M_told_70 ?_
          refine aw_top (y := nI (j - 40)) (pk_sub (b := 40) (by omega)) ?_
          refine aw_ildN (pc := 71) (j := j - 40) d_M_told_71 hg_39 a2 rfl (by omega) (by decide) ?_
          refine aw_goto (pc := 72) (tgt := 77) d_M_told_72 (by decide) ?_
          refine aw_iret (pc := 77) d_M_told_77 rfl ?_
          exact pN_r h _
        · rw [if_neg (by omega), if_neg (by omega)]
          refine aw_iload_n (pc := 0) d_M_told_0 rfl rfl ?_
          refine aw_bipush (pc := 1) (v := 100) d_M_told_1 (by decide) ?_
          refine awn_lt (pc := 3) (tgt := 46) (j) (100) d_M_told_3 (by decide) rfl rfl (by omega) (by omega) (fun _ => ?_) (fun hh => absurd hh (by omega))
          refine aw_iload_n (pc := 46) d_M_told_46 rfl rfl ?_
          refine aw_bipush (pc := 47) (v := 40) d_M_told_47 (by decide) ?_
          refine awn_lt (pc := 49) (tgt := 78) (j) (40) d_M_told_49 (by decide) rfl rfl (by omega) (by omega) (fun hh => absurd hh (by omega)) (fun _ => ?_)
          refine aw_iload_n (pc := 52) d_M_told_52 rfl rfl ?_
          refine aw_bipush (pc := 53) (v := 40) d_M_told_53 (by decide) ?_
          refine aw_bipush (pc := 55) (v := 50) d_M_told_55 (by decide) ?_
          refine aw_callS1 (pc := 57) (c_M_in _ _ _ _) ok_M_in d_M_told_57 lm_M_52 rfl rfl ⟨by decide, by decide⟩ (Nat.le_of_ble_eq_true rfl) rfl rfl ⟨by decide, by decide⟩ ?_
          refine aw_bz (pc := 60) (tgt := 75) d_M_told_60 (by decide) (fun _ => ?_) (fun hh => absurd hh (fun z => c3 ((in_nI (a := 40) (b := 50) hj (by omega) (by omega)).mp z).2))
          refine aw_bipush (pc := 75) (v := (-2)) d_M_told_75 (by decide) ?_
          refine aw_iret (pc := 77) d_M_told_77 rfl ?_
          exact pN_r h _
      · by_cases c3 : 20 ≤ j
        · rw [if_neg (by omega)]
          by_cases c4 : j ≤ 31
          · rw [if_pos ⟨c3, c4⟩]
            have eb : bk T (j - 20) = T 0 (j - 20) := bk_lo T (by omega)
            rw [← eb]
            refine aw_iload_n (pc := 0) d_M_told_0 rfl rfl ?_
            refine aw_bipush (pc := 1) (v := 100) d_M_told_1 (by decide) ?_
            refine awn_lt (pc := 3) (tgt := 46) (j) (100) d_M_told_3 (by decide) rfl rfl (by omega) (by omega) (fun _ => ?_) (fun hh => absurd hh (by omega))
            refine aw_iload_n (pc := 46) d_M_told_46 rfl rfl ?_
            refine aw_bipush (pc := 47) (v := 40) d_M_told_47 (by decide) ?_
            refine awn_lt (pc := 49) (tgt := 78) (j) (40) d_M_told_49 (by decide) rfl rfl (by omega) (by omega) (fun _ => ?_) (fun hh => absurd hh (by omega))
            refine aw_iload_n (pc := 78) d_M_told_78 rfl rfl ?_
            refine aw_bipush (pc := 79) (v := 20) d_M_told_79 (by decide) ?_
            refine awn_lt (pc := 81) (tgt := 109) (j) (20) d_M_told_81 (by decide) rfl rfl (by omega) (by omega) (fun hh => absurd hh (by omega)) (fun _ => ?_)
            refine aw_iload_n (pc := 84) d_M_told_84 rfl rfl ?_
            refine aw_bipush (pc := 85) (v := 20) d_M_told_85 (by decide) ?_
            refine aw_isub (pc := 87) d_M_told_87 ?_
            refine aw_top (y := nI (j - 20)) (pk_sub (b := 20) (by omega)) ?_
            refine aw_callS1 (pc := 88) (c_M_isHouse _ _) ok_M_isHouse d_M_told_88 lm_M_56 rfl rfl ⟨by decide, by decide⟩ (Nat.le_of_ble_eq_true rfl) rfl rfl ⟨by decide, by decide⟩ ?_
            refine aw_bz (pc := 91) (tgt := 106) d_M_told_91 (by decide) (fun hh => absurd ((in_nI (a := 0) (b := 11) (j := j - 20) (by omega) (by omega) (by omega)).mpr ⟨by omega, by omega⟩) hh) (fun _ => ?_)
            refine aw_aload_n (pc := 94) d_M_told_94 rfl rfl ?_
            refine aw_get (pc := 95) d_M_told_95 lf_M_7 hg_36 rfl ?_
            refine aw_iload_n (pc := 98) d_M_told_98 rfl rfl ?_
            refine aw_bipush (pc := 99) (v := 20) d_M_told_99 (by decide) ?_
            refine aw_isub (pc := 101) d_M_told_101 ?_
            refine aw_top (y := nI (j - 20)) (pk_sub (b := 20) (by omega)) ?_
            refine aw_ildN (pc := 102) (j := j - 20) d_M_told_102 hg_37 a1 rfl (by omega) (by decide) ?_
            refine aw_goto (pc := 103) (tgt := 108) d_M_told_103 (by decide) ?_
            refine aw_iret (pc := 108) d_M_told_108 rfl ?_
            exact pN_r h _
          · rw [if_neg (by omega), if_neg (by omega), if_neg (by omega)]
            refine aw_iload_n (pc := 0) d_M_told_0 rfl rfl ?_
            refine aw_bipush (pc := 1) (v := 100) d_M_told_1 (by decide) ?_
            refine awn_lt (pc := 3) (tgt := 46) (j) (100) d_M_told_3 (by decide) rfl rfl (by omega) (by omega) (fun _ => ?_) (fun hh => absurd hh (by omega))
            refine aw_iload_n (pc := 46) d_M_told_46 rfl rfl ?_
            refine aw_bipush (pc := 47) (v := 40) d_M_told_47 (by decide) ?_
            refine awn_lt (pc := 49) (tgt := 78) (j) (40) d_M_told_49 (by decide) rfl rfl (by omega) (by omega) (fun _ => ?_) (fun hh => absurd hh (by omega))
            refine aw_iload_n (pc := 78) d_M_told_78 rfl rfl ?_
            refine aw_bipush (pc := 79) (v := 20) d_M_told_79 (by decide) ?_
            refine awn_lt (pc := 81) (tgt := 109) (j) (20) d_M_told_81 (by decide) rfl rfl (by omega) (by omega) (fun hh => absurd hh (by omega)) (fun _ => ?_)
            refine aw_iload_n (pc := 84) d_M_told_84 rfl rfl ?_
            refine aw_bipush (pc := 85) (v := 20) d_M_told_85 (by decide) ?_
            refine aw_isub (pc := 87) d_M_told_87 ?_
            refine aw_top (y := nI (j - 20)) (pk_sub (b := 20) (by omega)) ?_
            refine aw_callS1 (pc := 88) (c_M_isHouse _ _) ok_M_isHouse d_M_told_88 lm_M_56 rfl rfl ⟨by decide, by decide⟩ (Nat.le_of_ble_eq_true rfl) rfl rfl ⟨by decide, by decide⟩ ?_
            refine aw_bz (pc := 91) (tgt := 106) d_M_told_91 (by decide) (fun _ => ?_) (fun hh => absurd hh (fun z => absurd ((in_nI (a := 0) (b := 11) (j := j - 20) (by omega) (by omega) (by omega)).mp z) (by omega)))
            refine aw_bipush (pc := 106) (v := (-2)) d_M_told_106 (by decide) ?_
            refine aw_iret (pc := 108) d_M_told_108 rfl ?_
            exact pN_r h _
        · by_cases c4 : j ≤ 8
          · rw [if_pos ⟨by omega, c4⟩]
            rcases (show j = 0 ∨ j = 1 ∨ j = 2 ∨ j = 3 ∨ j = 4 ∨ j = 5 ∨ j = 6 ∨ j = 7 ∨ j = 8 by omega) with rfl | rfl | rfl | rfl | rfl | rfl | rfl | rfl | rfl
            · refine aw_iload_n (pc := 0) d_M_told_0 rfl rfl ?_
              refine aw_bipush (pc := 1) (v := 100) d_M_told_1 (by decide) ?_
              refine awn_lt (pc := 3) (tgt := 46) (0) (100) d_M_told_3 (by decide) rfl rfl (by omega) (by omega) (fun _ => ?_) (fun hh => absurd hh (by omega))
              refine aw_iload_n (pc := 46) d_M_told_46 rfl rfl ?_
              refine aw_bipush (pc := 47) (v := 40) d_M_told_47 (by decide) ?_
              refine awn_lt (pc := 49) (tgt := 78) (0) (40) d_M_told_49 (by decide) rfl rfl (by omega) (by omega) (fun _ => ?_) (fun hh => absurd hh (by omega))
              refine aw_iload_n (pc := 78) d_M_told_78 rfl rfl ?_
              refine aw_bipush (pc := 79) (v := 20) d_M_told_79 (by decide) ?_
              refine awn_lt (pc := 81) (tgt := 109) (0) (20) d_M_told_81 (by decide) rfl rfl (by omega) (by omega) (fun _ => ?_) (fun hh => absurd hh (by omega))
              refine aw_iload_n (pc := 109) d_M_told_109 rfl rfl ?_
              refine aw_swIn (pc := 110) (tgt := 156) d_M_told_110 (by decide) (by decide) rfl (by decide) ?_
              refine aw_aload_n (pc := 156) d_M_told_156 rfl rfl ?_
              refine aw_geti (pc := 157) (y := (nI np)) d_M_told_157 lf_M_63 hg_36 rfl h36 ?_
              refine aw_iret (pc := 160) d_M_told_160 rfl ?_
              exact pN_r h _
            · refine aw_iload_n (pc := 0) d_M_told_0 rfl rfl ?_
              refine aw_bipush (pc := 1) (v := 100) d_M_told_1 (by decide) ?_
              refine awn_lt (pc := 3) (tgt := 46) (1) (100) d_M_told_3 (by decide) rfl rfl (by omega) (by omega) (fun _ => ?_) (fun hh => absurd hh (by omega))
              refine aw_iload_n (pc := 46) d_M_told_46 rfl rfl ?_
              refine aw_bipush (pc := 47) (v := 40) d_M_told_47 (by decide) ?_
              refine awn_lt (pc := 49) (tgt := 78) (1) (40) d_M_told_49 (by decide) rfl rfl (by omega) (by omega) (fun _ => ?_) (fun hh => absurd hh (by omega))
              refine aw_iload_n (pc := 78) d_M_told_78 rfl rfl ?_
              refine aw_bipush (pc := 79) (v := 20) d_M_told_79 (by decide) ?_
              refine awn_lt (pc := 81) (tgt := 109) (1) (20) d_M_told_81 (by decide) rfl rfl (by omega) (by omega) (fun _ => ?_) (fun hh => absurd hh (by omega))
              refine aw_iload_n (pc := 109) d_M_told_109 rfl rfl ?_
              refine aw_swIn (pc := 110) (tgt := 161) d_M_told_110 (by decide) (by decide) rfl (by decide) ?_
              refine aw_aload_n (pc := 161) d_M_told_161 rfl rfl ?_
              refine aw_get (pc := 162) d_M_told_162 lf_M_7 hg_36 rfl ?_
              refine aw_bipush (pc := 165) (v := 12) d_M_told_165 (by decide) ?_
              refine aw_ildN (pc := 167) (j := 12) d_M_told_167 hg_37 a1 rfl (by decide) (by decide) ?_
              refine aw_iret (pc := 168) d_M_told_168 rfl ?_
              exact pN_r h _
            · refine aw_iload_n (pc := 0) d_M_told_0 rfl rfl ?_
              refine aw_bipush (pc := 1) (v := 100) d_M_told_1 (by decide) ?_
              refine awn_lt (pc := 3) (tgt := 46) (2) (100) d_M_told_3 (by decide) rfl rfl (by omega) (by omega) (fun _ => ?_) (fun hh => absurd hh (by omega))
              refine aw_iload_n (pc := 46) d_M_told_46 rfl rfl ?_
              refine aw_bipush (pc := 47) (v := 40) d_M_told_47 (by decide) ?_
              refine awn_lt (pc := 49) (tgt := 78) (2) (40) d_M_told_49 (by decide) rfl rfl (by omega) (by omega) (fun _ => ?_) (fun hh => absurd hh (by omega))
              refine aw_iload_n (pc := 78) d_M_told_78 rfl rfl ?_
              refine aw_bipush (pc := 79) (v := 20) d_M_told_79 (by decide) ?_
              refine awn_lt (pc := 81) (tgt := 109) (2) (20) d_M_told_81 (by decide) rfl rfl (by omega) (by omega) (fun _ => ?_) (fun hh => absurd hh (by omega))
              refine aw_iload_n (pc := 109) d_M_told_109 rfl rfl ?_
              refine aw_swIn (pc := 110) (tgt := 169) d_M_told_110 (by decide) (by decide) rfl (by decide) ?_
              refine aw_aload_n (pc := 169) d_M_told_169 rfl rfl ?_
              refine aw_get (pc := 170) d_M_told_170 lf_M_7 hg_36 rfl ?_
              refine aw_bipush (pc := 173) (v := 13) d_M_told_173 (by decide) ?_
              refine aw_ildN (pc := 175) (j := 13) d_M_told_175 hg_37 a1 rfl (by decide) (by decide) ?_
              refine aw_iret (pc := 176) d_M_told_176 rfl ?_
              exact pN_r h _
            · refine aw_iload_n (pc := 0) d_M_told_0 rfl rfl ?_
              refine aw_bipush (pc := 1) (v := 100) d_M_told_1 (by decide) ?_
              refine awn_lt (pc := 3) (tgt := 46) (3) (100) d_M_told_3 (by decide) rfl rfl (by omega) (by omega) (fun _ => ?_) (fun hh => absurd hh (by omega))
              refine aw_iload_n (pc := 46) d_M_told_46 rfl rfl ?_
              refine aw_bipush (pc := 47) (v := 40) d_M_told_47 (by decide) ?_
              refine awn_lt (pc := 49) (tgt := 78) (3) (40) d_M_told_49 (by decide) rfl rfl (by omega) (by omega) (fun _ => ?_) (fun hh => absurd hh (by omega))
              refine aw_iload_n (pc := 78) d_M_told_78 rfl rfl ?_
              refine aw_bipush (pc := 79) (v := 20) d_M_told_79 (by decide) ?_
              refine awn_lt (pc := 81) (tgt := 109) (3) (20) d_M_told_81 (by decide) rfl rfl (by omega) (by omega) (fun _ => ?_) (fun hh => absurd hh (by omega))
              refine aw_iload_n (pc := 109) d_M_told_109 rfl rfl ?_
              refine aw_swIn (pc := 110) (tgt := 177) d_M_told_110 (by decide) (by decide) rfl (by decide) ?_
              refine aw_aload_n (pc := 177) d_M_told_177 rfl rfl ?_
              refine aw_get (pc := 178) d_M_told_178 lf_M_7 hg_36 rfl ?_
              refine aw_bipush (pc := 181) (v := 14) d_M_told_181 (by decide) ?_
              refine aw_ildN (pc := 183) (j := 14) d_M_told_183 hg_37 a1 rfl (by decide) (by decide) ?_
              refine aw_iret (pc := 184) d_M_told_184 rfl ?_
              exact pN_r h _
            · refine aw_iload_n (pc := 0) d_M_told_0 rfl rfl ?_
              refine aw_bipush (pc := 1) (v := 100) d_M_told_1 (by decide) ?_
              refine awn_lt (pc := 3) (tgt := 46) (4) (100) d_M_told_3 (by decide) rfl rfl (by omega) (by omega) (fun _ => ?_) (fun hh => absurd hh (by omega))
              refine aw_iload_n (pc := 46) d_M_told_46 rfl rfl ?_
              refine aw_bipush (pc := 47) (v := 40) d_M_told_47 (by decide) ?_
              refine awn_lt (pc := 49) (tgt := 78) (4) (40) d_M_told_49 (by decide) rfl rfl (by omega) (by omega) (fun _ => ?_) (fun hh => absurd hh (by omega))
              refine aw_iload_n (pc := 78) d_M_told_78 rfl rfl ?_
              refine aw_bipush (pc := 79) (v := 20) d_M_told_79 (by decide) ?_
              refine awn_lt (pc := 81) (tgt := 109) (4) (20) d_M_told_81 (by decide) rfl rfl (by omega) (by omega) (fun _ => ?_) (fun hh => absurd hh (by omega))
              refine aw_iload_n (pc := 109) d_M_told_109 rfl rfl ?_
              refine aw_swIn (pc := 110) (tgt := 185) d_M_told_110 (by decide) (by decide) rfl (by decide) ?_
              refine aw_aload_n (pc := 185) d_M_told_185 rfl rfl ?_
              refine aw_geti (pc := 186) (y := (nI (T 6 1))) d_M_told_186 lf_M_49 hg_36 rfl b1 ?_
              refine aw_iret (pc := 189) d_M_told_189 rfl ?_
              exact pN_r h _
            · refine aw_iload_n (pc := 0) d_M_told_0 rfl rfl ?_
              refine aw_bipush (pc := 1) (v := 100) d_M_told_1 (by decide) ?_
              refine awn_lt (pc := 3) (tgt := 46) (5) (100) d_M_told_3 (by decide) rfl rfl (by omega) (by omega) (fun _ => ?_) (fun hh => absurd hh (by omega))
              refine aw_iload_n (pc := 46) d_M_told_46 rfl rfl ?_
              refine aw_bipush (pc := 47) (v := 40) d_M_told_47 (by decide) ?_
              refine awn_lt (pc := 49) (tgt := 78) (5) (40) d_M_told_49 (by decide) rfl rfl (by omega) (by omega) (fun _ => ?_) (fun hh => absurd hh (by omega))
              refine aw_iload_n (pc := 78) d_M_told_78 rfl rfl ?_
              refine aw_bipush (pc := 79) (v := 20) d_M_told_79 (by decide) ?_
              refine awn_lt (pc := 81) (tgt := 109) (5) (20) d_M_told_81 (by decide) rfl rfl (by omega) (by omega) (fun _ => ?_) (fun hh => absurd hh (by omega))
              refine aw_iload_n (pc := 109) d_M_told_109 rfl rfl ?_
              refine aw_swIn (pc := 110) (tgt := 190) d_M_told_110 (by decide) (by decide) rfl (by decide) ?_
              refine aw_aload_n (pc := 190) d_M_told_190 rfl rfl ?_
              refine aw_get (pc := 191) d_M_told_191 lf_M_7 hg_36 rfl ?_
              refine aw_bipush (pc := 194) (v := 15) d_M_told_194 (by decide) ?_
              refine aw_ildN (pc := 196) (j := 15) d_M_told_196 hg_37 a1 rfl (by decide) (by decide) ?_
              refine aw_iret (pc := 197) d_M_told_197 rfl ?_
              exact pN_r h _
            · refine aw_iload_n (pc := 0) d_M_told_0 rfl rfl ?_
              refine aw_bipush (pc := 1) (v := 100) d_M_told_1 (by decide) ?_
              refine awn_lt (pc := 3) (tgt := 46) (6) (100) d_M_told_3 (by decide) rfl rfl (by omega) (by omega) (fun _ => ?_) (fun hh => absurd hh (by omega))
              refine aw_iload_n (pc := 46) d_M_told_46 rfl rfl ?_
              refine aw_bipush (pc := 47) (v := 40) d_M_told_47 (by decide) ?_
              refine awn_lt (pc := 49) (tgt := 78) (6) (40) d_M_told_49 (by decide) rfl rfl (by omega) (by omega) (fun _ => ?_) (fun hh => absurd hh (by omega))
              refine aw_iload_n (pc := 78) d_M_told_78 rfl rfl ?_
              refine aw_bipush (pc := 79) (v := 20) d_M_told_79 (by decide) ?_
              refine awn_lt (pc := 81) (tgt := 109) (6) (20) d_M_told_81 (by decide) rfl rfl (by omega) (by omega) (fun _ => ?_) (fun hh => absurd hh (by omega))
              refine aw_iload_n (pc := 109) d_M_told_109 rfl rfl ?_
              refine aw_swIn (pc := 110) (tgt := 198) d_M_told_110 (by decide) (by decide) rfl (by decide) ?_
              refine aw_aload_n (pc := 198) d_M_told_198 rfl rfl ?_
              refine aw_geti (pc := 199) (y := (nI (T 6 7))) d_M_told_199 lf_M_126 hg_36 rfl b4 ?_
              refine aw_iret (pc := 202) d_M_told_202 rfl ?_
              exact pN_r h _
            · refine aw_iload_n (pc := 0) d_M_told_0 rfl rfl ?_
              refine aw_bipush (pc := 1) (v := 100) d_M_told_1 (by decide) ?_
              refine awn_lt (pc := 3) (tgt := 46) (7) (100) d_M_told_3 (by decide) rfl rfl (by omega) (by omega) (fun _ => ?_) (fun hh => absurd hh (by omega))
              refine aw_iload_n (pc := 46) d_M_told_46 rfl rfl ?_
              refine aw_bipush (pc := 47) (v := 40) d_M_told_47 (by decide) ?_
              refine awn_lt (pc := 49) (tgt := 78) (7) (40) d_M_told_49 (by decide) rfl rfl (by omega) (by omega) (fun _ => ?_) (fun hh => absurd hh (by omega))
              refine aw_iload_n (pc := 78) d_M_told_78 rfl rfl ?_
              refine aw_bipush (pc := 79) (v := 20) d_M_told_79 (by decide) ?_
              refine awn_lt (pc := 81) (tgt := 109) (7) (20) d_M_told_81 (by decide) rfl rfl (by omega) (by omega) (fun _ => ?_) (fun hh => absurd hh (by omega))
              refine aw_iload_n (pc := 109) d_M_told_109 rfl rfl ?_
              refine aw_swIn (pc := 110) (tgt := 203) d_M_told_110 (by decide) (by decide) rfl (by decide) ?_
              refine aw_aload_n (pc := 203) d_M_told_203 rfl rfl ?_
              refine aw_geti (pc := 204) (y := (nI (T 6 3))) d_M_told_204 lf_M_19 hg_36 rfl b2_ ?_
              refine aw_iret (pc := 207) d_M_told_207 rfl ?_
              exact pN_r h _
            · refine aw_iload_n (pc := 0) d_M_told_0 rfl rfl ?_
              refine aw_bipush (pc := 1) (v := 100) d_M_told_1 (by decide) ?_
              refine awn_lt (pc := 3) (tgt := 46) (8) (100) d_M_told_3 (by decide) rfl rfl (by omega) (by omega) (fun _ => ?_) (fun hh => absurd hh (by omega))
              refine aw_iload_n (pc := 46) d_M_told_46 rfl rfl ?_
              refine aw_bipush (pc := 47) (v := 40) d_M_told_47 (by decide) ?_
              refine awn_lt (pc := 49) (tgt := 78) (8) (40) d_M_told_49 (by decide) rfl rfl (by omega) (by omega) (fun _ => ?_) (fun hh => absurd hh (by omega))
              refine aw_iload_n (pc := 78) d_M_told_78 rfl rfl ?_
              refine aw_bipush (pc := 79) (v := 20) d_M_told_79 (by decide) ?_
              refine awn_lt (pc := 81) (tgt := 109) (8) (20) d_M_told_81 (by decide) rfl rfl (by omega) (by omega) (fun _ => ?_) (fun hh => absurd hh (by omega))
              refine aw_iload_n (pc := 109) d_M_told_109 rfl rfl ?_
              refine aw_swOut (pc := 110) (tgt := 208) d_M_told_110 (Or.inr (by decide)) (by decide) ?_
              refine aw_iload_n (pc := 208) d_M_told_208 rfl rfl ?_
              refine aw_bipush (pc := 209) (v := 8) d_M_told_209 (by decide) ?_
              refine awn_ne (pc := 211) (tgt := 223) (8) (8) d_M_told_211 (by decide) rfl rfl (by omega) (by omega) (fun hh => absurd hh (by omega)) (fun _ => ?_)
              refine aw_aload_n (pc := 214) d_M_told_214 rfl rfl ?_
              refine aw_geti (pc := 215) (y := (nI (T 6 4) - 3)) d_M_told_215 lf_M_60 hg_36 rfl b3 ?_
              refine aw_iconst (pc := 218) (v := 3) d_M_told_218 (by decide) ?_
              refine aw_iadd (pc := 219) d_M_told_219 ?_
              refine aw_goto (pc := 220) (tgt := 225) d_M_told_220 (by decide) ?_
              refine aw_iret (pc := 225) d_M_told_225 rfl ?_
              exact pN_r h _
          · rw [if_neg (by omega), if_neg (by omega), if_neg (by omega), if_neg (by omega)]
            refine aw_iload_n (pc := 0) d_M_told_0 rfl rfl ?_
            refine aw_bipush (pc := 1) (v := 100) d_M_told_1 (by decide) ?_
            refine awn_lt (pc := 3) (tgt := 46) (j) (100) d_M_told_3 (by decide) rfl rfl (by omega) (by omega) (fun _ => ?_) (fun hh => absurd hh (by omega))
            refine aw_iload_n (pc := 46) d_M_told_46 rfl rfl ?_
            refine aw_bipush (pc := 47) (v := 40) d_M_told_47 (by decide) ?_
            refine awn_lt (pc := 49) (tgt := 78) (j) (40) d_M_told_49 (by decide) rfl rfl (by omega) (by omega) (fun _ => ?_) (fun hh => absurd hh (by omega))
            refine aw_iload_n (pc := 78) d_M_told_78 rfl rfl ?_
            refine aw_bipush (pc := 79) (v := 20) d_M_told_79 (by decide) ?_
            refine awn_lt (pc := 81) (tgt := 109) (j) (20) d_M_told_81 (by decide) rfl rfl (by omega) (by omega) (fun _ => ?_) (fun hh => absurd hh (by omega))
            refine aw_iload_n (pc := 109) d_M_told_109 rfl rfl ?_
            refine aw_swOut (pc := 110) (tgt := 208) d_M_told_110 (Or.inr (by rw [zI_nI, fb_ofI (by omega) (by omega)]; omega)) (by decide) ?_
            refine aw_iload_n (pc := 208) d_M_told_208 rfl rfl ?_
            refine aw_bipush (pc := 209) (v := 8) d_M_told_209 (by decide) ?_
            refine awn_ne (pc := 211) (tgt := 223) (j) (8) d_M_told_211 (by decide) rfl rfl (by omega) (by omega) (fun _ => ?_) (fun hh => absurd hh (by omega))
            refine aw_bipush (pc := 223) (v := (-2)) d_M_told_223 (by decide) ?_
            refine aw_iret (pc := 225) d_M_told_225 rfl ?_
            exact pN_r h _
end TOLD

