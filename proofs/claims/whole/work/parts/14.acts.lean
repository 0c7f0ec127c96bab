/-! the class's street: copies, acts -/
theorem u1_self {α : Type} {f : Nat → α} {k : Nat} {v : α} (h : f k = v) : u1 f k v = f := by
  funext a
  unfold u1
  by_cases e : a = k
  · rw [if_pos e, e, h]
  · rw [if_neg e]
theorem u1_u1 {α : Type} (f : Nat → α) (k : Nat) (v w : α) : u1 (u1 f k v) k w = u1 f k w := by
  funext a
  unfold u1
  by_cases e : a = k
  · rw [if_pos e, if_pos e]
  · rw [if_neg e, if_neg e, if_neg e]
abbrev str (k : Nat) : List Nat := [k + 1, k + 2, k + 3, k + 4, k + 5, k + 6]
/-- a void method of the street at k that makes of it the town T' -/
def pS (A : Nat → List Int32) (I : Nat → Nat → Int32) (J : Nat → List Int64) (U : Nat → Nat → Int64) (k : Nat) (T' : town) : Option Value → ax_H → Prop := fun r h' => r = none ∧ ∃ A' I', h' = HH A' I' J U ∧ enS A' I' k T' ∧ frA A A' (str k) ∧ frI I I' [k]
section ACTS
variable {A : Nat → List Int32} {I : Nat → Nat → Int32} {J : Nat → List Int64} {U : Nat → Nat → Int64} {T T0 : town}
set_option maxHeartbeats 1000000 in
set_option maxRecDepth 20000 in
theorem c_S_takeFrom_22_1 (hE : enS A I 1 T) (hE0 : enS A I 22 T0) : AM m_S_takeFrom r_S_takeFrom (HH A I J U) [.ref 22, .ref 1] (pS A I J U 22 T) := by
  refine am_of (by decide) rfl (by first | decide | exact Nat.le_of_ble_eq_true rfl) ?_
  obtain ⟨⟨a1, a2, a3, a4, a5, a6⟩, b⟩ := hE
  obtain ⟨⟨c1, c2, c3, c4, c5, c6⟩, -⟩ := hE0
  refine aw_aload_n (pc := 0) d_S_takeFrom_0 rfl rfl ?_
  refine aw_get (pc := 1) d_S_takeFrom_1 lf_S_9 hg_1 rfl ?_
  refine aw_iconst (pc := 4) (v := 0) d_S_takeFrom_4 (by decide) ?_
  refine aw_aload_n (pc := 5) d_S_takeFrom_5 rfl rfl ?_
  refine aw_get (pc := 6) d_S_takeFrom_6 lf_S_9 hg_22 rfl ?_
  refine aw_iconst (pc := 9) (v := 0) d_S_takeFrom_9 (by decide) ?_
  refine aw_bipush (pc := 10) (v := 12) d_S_takeFrom_10 (by decide) ?_
  refine aw_copy (pc := 12) (n0 := 12) d_S_takeFrom_12 lm_S_61 ws_Y_arraycopy wx_native wn_Y hg_2 hg_23 (by rw [a1]; exact lst_len _ _) (by rw [c1]; exact lst_len _ _) rfl (by decide) (by decide) (Nat.le_of_ble_eq_true rfl) (hs_23 _) ?_
  refine aw_aload_n (pc := 15) d_S_takeFrom_15 rfl rfl ?_
  refine aw_get (pc := 16) d_S_takeFrom_16 lf_S_15 hg_1 rfl ?_
  refine aw_iconst (pc := 19) (v := 0) d_S_takeFrom_19 (by decide) ?_
  refine aw_aload_n (pc := 20) d_S_takeFrom_20 rfl rfl ?_
  refine aw_get (pc := 21) d_S_takeFrom_21 lf_S_15 hg_22 rfl ?_
  refine aw_iconst (pc := 24) (v := 0) d_S_takeFrom_24 (by decide) ?_
  refine aw_bipush (pc := 25) (v := 11) d_S_takeFrom_25 (by decide) ?_
  refine aw_copy (pc := 27) (n0 := 11) d_S_takeFrom_27 lm_S_61 ws_Y_arraycopy wx_native wn_Y hg_3 hg_24 (show (A (1 + 2)).length = 11 by rw [a2]; exact lst_len _ _) (show (A (22 + 2)).length = 11 by rw [c2]; exact lst_len _ _) rfl (by decide) (by decide) (Nat.le_of_ble_eq_true rfl) (hs_24 _) ?_
  refine aw_aload_n (pc := 30) d_S_takeFrom_30 rfl rfl ?_
  refine aw_get (pc := 31) d_S_takeFrom_31 lf_S_18 hg_1 rfl ?_
  refine aw_iconst (pc := 34) (v := 0) d_S_takeFrom_34 (by decide) ?_
  refine aw_aload_n (pc := 35) d_S_takeFrom_35 rfl rfl ?_
  refine aw_get (pc := 36) d_S_takeFrom_36 lf_S_18 hg_22 rfl ?_
  refine aw_iconst (pc := 39) (v := 0) d_S_takeFrom_39 (by decide) ?_
  refine aw_bipush (pc := 40) (v := 6) d_S_takeFrom_40 (by decide) ?_
  refine aw_copy (pc := 42) (n0 := 6) d_S_takeFrom_42 lm_S_61 ws_Y_arraycopy wx_native wn_Y hg_4 hg_25 (show (A (1 + 3)).length = 6 by rw [a3]; exact lst_len _ _) (show (A (22 + 3)).length = 6 by rw [c3]; exact lst_len _ _) rfl (by decide) (by decide) (Nat.le_of_ble_eq_true rfl) (hs_25 _) ?_
  refine aw_aload_n (pc := 45) d_S_takeFrom_45 rfl rfl ?_
  refine aw_get (pc := 46) d_S_takeFrom_46 lf_S_21 hg_1 rfl ?_
  refine aw_iconst (pc := 49) (v := 0) d_S_takeFrom_49 (by decide) ?_
  refine aw_aload_n (pc := 50) d_S_takeFrom_50 rfl rfl ?_
  refine aw_get (pc := 51) d_S_takeFrom_51 lf_S_21 hg_22 rfl ?_
  refine aw_iconst (pc := 54) (v := 0) d_S_takeFrom_54 (by decide) ?_
  refine aw_bipush (pc := 55) (v := 6) d_S_takeFrom_55 (by decide) ?_
  refine aw_copy (pc := 57) (n0 := 6) d_S_takeFrom_57 lm_S_61 ws_Y_arraycopy wx_native wn_Y hg_5 hg_26 (show (A (1 + 4)).length = 6 by rw [a4]; exact lst_len _ _) (show (A (22 + 4)).length = 6 by rw [c4]; exact lst_len _ _) rfl (by decide) (by decide) (Nat.le_of_ble_eq_true rfl) (hs_26 _) ?_
  refine aw_aload_n (pc := 60) d_S_takeFrom_60 rfl rfl ?_
  refine aw_get (pc := 61) d_S_takeFrom_61 lf_S_24 hg_1 rfl ?_
  refine aw_iconst (pc := 64) (v := 0) d_S_takeFrom_64 (by decide) ?_
  refine aw_aload_n (pc := 65) d_S_takeFrom_65 rfl rfl ?_
  refine aw_get (pc := 66) d_S_takeFrom_66 lf_S_24 hg_22 rfl ?_
  refine aw_iconst (pc := 69) (v := 0) d_S_takeFrom_69 (by decide) ?_
  refine aw_bipush (pc := 70) (v := 6) d_S_takeFrom_70 (by decide) ?_
  refine aw_copy (pc := 72) (n0 := 6) d_S_takeFrom_72 lm_S_61 ws_Y_arraycopy wx_native wn_Y hg_6 hg_27 (show (A (1 + 5)).length = 6 by rw [a5]; exact lst_len _ _) (show (A (22 + 5)).length = 6 by rw [c5]; exact lst_len _ _) rfl (by decide) (by decide) (Nat.le_of_ble_eq_true rfl) (hs_27 _) ?_
  refine aw_aload_n (pc := 75) d_S_takeFrom_75 rfl rfl ?_
  refine aw_get (pc := 76) d_S_takeFrom_76 lf_S_27 hg_1 rfl ?_
  refine aw_iconst (pc := 79) (v := 0) d_S_takeFrom_79 (by decide) ?_
  refine aw_aload_n (pc := 80) d_S_takeFrom_80 rfl rfl ?_
  refine aw_get (pc := 81) d_S_takeFrom_81 lf_S_27 hg_22 rfl ?_
  refine aw_iconst (pc := 84) (v := 0) d_S_takeFrom_84 (by decide) ?_
  refine aw_bipush (pc := 85) (v := 6) d_S_takeFrom_85 (by decide) ?_
  refine aw_copy (pc := 87) (n0 := 6) d_S_takeFrom_87 lm_S_61 ws_Y_arraycopy wx_native wn_Y hg_7 hg_28 (show (A (1 + 6)).length = 6 by rw [a6]; exact lst_len _ _) (show (A (22 + 6)).length = 6 by rw [c6]; exact lst_len _ _) rfl (by decide) (by decide) (Nat.le_of_ble_eq_true rfl) (hs_28 _) ?_
  refine aw_aload_n (pc := 90) d_S_takeFrom_90 rfl rfl ?_
  refine aw_aload_n (pc := 91) d_S_takeFrom_91 rfl rfl ?_
  refine aw_get (pc := 92) d_S_takeFrom_92 lf_S_30 hg_1 rfl ?_
  refine aw_put (pc := 95) d_S_takeFrom_95 lp_S_30 hg_22 (ft_int _) (Nat.le_of_ble_eq_true rfl) (hp_22_6 _) ?_
  refine aw_aload_n (pc := 98) d_S_takeFrom_98 rfl rfl ?_
  refine aw_aload_n (pc := 99) d_S_takeFrom_99 rfl rfl ?_
  refine aw_get (pc := 100) d_S_takeFrom_100 lf_S_34 hg_1 rfl ?_
  refine aw_put (pc := 103) d_S_takeFrom_103 lp_S_34 hg_22 (ft_int _) (Nat.le_of_ble_eq_true rfl) (hp_22_7 _) ?_
  refine aw_aload_n (pc := 106) d_S_takeFrom_106 rfl rfl ?_
  refine aw_aload_n (pc := 107) d_S_takeFrom_107 rfl rfl ?_
  refine aw_get (pc := 108) d_S_takeFrom_108 lf_S_37 hg_1 rfl ?_
  refine aw_put (pc := 111) d_S_takeFrom_111 lp_S_37 hg_22 (ft_int _) (Nat.le_of_ble_eq_true rfl) (hp_22_8 _) ?_
  refine aw_aload_n (pc := 114) d_S_takeFrom_114 rfl rfl ?_
  refine aw_aload_n (pc := 115) d_S_takeFrom_115 rfl rfl ?_
  refine aw_get (pc := 116) d_S_takeFrom_116 lf_S_40 hg_1 rfl ?_
  refine aw_put (pc := 119) d_S_takeFrom_119 lp_S_40 hg_22 (ft_int _) (Nat.le_of_ble_eq_true rfl) (hp_22_9 _) ?_
  refine aw_aload_n (pc := 122) d_S_takeFrom_122 rfl rfl ?_
  refine aw_aload_n (pc := 123) d_S_takeFrom_123 rfl rfl ?_
  refine aw_get (pc := 124) d_S_takeFrom_124 lf_S_43 hg_1 rfl ?_
  refine aw_put (pc := 127) d_S_takeFrom_127 lp_S_43 hg_22 (ft_int _) (Nat.le_of_ble_eq_true rfl) (hp_22_10 _) ?_
  refine aw_aload_n (pc := 130) d_S_takeFrom_130 rfl rfl ?_
  refine aw_aload_n (pc := 131) d_S_takeFrom_131 rfl rfl ?_
  refine aw_get (pc := 132) d_S_takeFrom_132 lf_S_46 hg_1 rfl ?_
  refine aw_put (pc := 135) d_S_takeFrom_135 lp_S_46 hg_22 (ft_int _) (Nat.le_of_ble_eq_true rfl) (hp_22_11 _) ?_
  refine aw_aload_n (pc := 138) d_S_takeFrom_138 rfl rfl ?_
  refine aw_aload_n (pc := 139) d_S_takeFrom_139 rfl rfl ?_
  refine aw_get (pc := 140) d_S_takeFrom_140 lf_S_49 hg_1 rfl ?_
  refine aw_put (pc := 143) d_S_takeFrom_143 lp_S_49 hg_22 (ft_int _) (Nat.le_of_ble_eq_true rfl) (hp_22_12 _) ?_
  refine aw_aload_n (pc := 146) d_S_takeFrom_146 rfl rfl ?_
  refine aw_aload_n (pc := 147) d_S_takeFrom_147 rfl rfl ?_
  refine aw_get (pc := 148) d_S_takeFrom_148 lf_S_52 hg_1 rfl ?_
  refine aw_put (pc := 151) d_S_takeFrom_151 lp_S_52 hg_22 (ft_int _) (Nat.le_of_ble_eq_true rfl) (hp_22_13 _) ?_
  refine aw_aload_n (pc := 154) d_S_takeFrom_154 rfl rfl ?_
  refine aw_aload_n (pc := 155) d_S_takeFrom_155 rfl rfl ?_
  refine aw_get (pc := 156) d_S_takeFrom_156 lf_S_55 hg_1 rfl ?_
  refine aw_put (pc := 159) d_S_takeFrom_159 lp_S_55 hg_22 (ft_int _) (Nat.le_of_ble_eq_true rfl) (hp_22_14 _) ?_
  refine aw_aload_n (pc := 162) d_S_takeFrom_162 rfl rfl ?_
  refine aw_aload_n (pc := 163) d_S_takeFrom_163 rfl rfl ?_
  refine aw_get (pc := 164) d_S_takeFrom_164 lf_S_58 hg_1 rfl ?_
  refine aw_put (pc := 167) d_S_takeFrom_167 lp_S_58 hg_22 (ft_int _) (Nat.le_of_ble_eq_true rfl) (hp_22_15 _) ?_
  refine aw_vret (pc := 170) d_S_takeFrom_170 rfl ?_
  refine ⟨rfl, _, _, rfl, ⟨⟨a1, a2, a3, a4, a5, a6⟩, b⟩, ?_, ?_⟩
  · exact frA_t (frA_t (frA_t (frA_t (frA_t (frA_u _ _ _ (by decide)) (frA_u _ _ _ (by decide))) (frA_u _ _ _ (by decide))) (frA_u _ _ _ (by decide))) (frA_u _ _ _ (by decide))) (frA_u _ _ _ (by decide))
  · exact frI_t (frI_t (frI_t (frI_t (frI_t (frI_t (frI_t (frI_t (frI_t (frI_u _ _ _ _ (by decide)) (frI_u _ _ _ _ (by decide))) (frI_u _ _ _ _ (by decide))) (frI_u _ _ _ _ (by decide))) (frI_u _ _ _ _ (by decide))) (frI_u _ _ _ _ (by decide))) (frI_u _ _ _ _ (by decide))) (frI_u _ _ _ _ (by decide))) (frI_u _ _ _ _ (by decide))) (frI_u _ _ _ _ (by decide))
set_option maxHeartbeats 1000000 in
set_option maxRecDepth 20000 in
theorem c_S_takeFrom_1_22 (hE : enS A I 22 T) (hE0 : enS A I 1 T0) : AM m_S_takeFrom r_S_takeFrom (HH A I J U) [.ref 1, .ref 22] (pS A I J U 1 T) := by
  refine am_of (by decide) rfl (by first | decide | exact Nat.le_of_ble_eq_true rfl) ?_
  obtain ⟨⟨a1, a2, a3, a4, a5, a6⟩, b⟩ := hE
  obtain ⟨⟨c1, c2, c3, c4, c5, c6⟩, -⟩ := hE0
  refine aw_aload_n (pc := 0) d_S_takeFrom_0 rfl rfl ?_
  refine aw_get (pc := 1) d_S_takeFrom_1 lf_S_9 hg_22 rfl ?_
  refine aw_iconst (pc := 4) (v := 0) d_S_takeFrom_4 (by decide) ?_
  refine aw_aload_n (pc := 5) d_S_takeFrom_5 rfl rfl ?_
  refine aw_get (pc := 6) d_S_takeFrom_6 lf_S_9 hg_1 rfl ?_
  refine aw_iconst (pc := 9) (v := 0) d_S_takeFrom_9 (by decide) ?_
  refine aw_bipush (pc := 10) (v := 12) d_S_takeFrom_10 (by decide) ?_
  refine aw_copy (pc := 12) (n0 := 12) d_S_takeFrom_12 lm_S_61 ws_Y_arraycopy wx_native wn_Y hg_23 hg_2 (by rw [a1]; exact lst_len _ _) (by rw [c1]; exact lst_len _ _) rfl (by decide) (by decide) (Nat.le_of_ble_eq_true rfl) (hs_2 _) ?_
  refine aw_aload_n (pc := 15) d_S_takeFrom_15 rfl rfl ?_
  refine aw_get (pc := 16) d_S_takeFrom_16 lf_S_15 hg_22 rfl ?_
  refine aw_iconst (pc := 19) (v := 0) d_S_takeFrom_19 (by decide) ?_
  refine aw_aload_n (pc := 20) d_S_takeFrom_20 rfl rfl ?_
  refine aw_get (pc := 21) d_S_takeFrom_21 lf_S_15 hg_1 rfl ?_
  refine aw_iconst (pc := 24) (v := 0) d_S_takeFrom_24 (by decide) ?_
  refine aw_bipush (pc := 25) (v := 11) d_S_takeFrom_25 (by decide) ?_
  refine aw_copy (pc := 27) (n0 := 11) d_S_takeFrom_27 lm_S_61 ws_Y_arraycopy wx_native wn_Y hg_24 hg_3 (show (A (22 + 2)).length = 11 by rw [a2]; exact lst_len _ _) (show (A (1 + 2)).length = 11 by rw [c2]; exact lst_len _ _) rfl (by decide) (by decide) (Nat.le_of_ble_eq_true rfl) (hs_3 _) ?_
  refine aw_aload_n (pc := 30) d_S_takeFrom_30 rfl rfl ?_
  refine aw_get (pc := 31) d_S_takeFrom_31 lf_S_18 hg_22 rfl ?_
  refine aw_iconst (pc := 34) (v := 0) d_S_takeFrom_34 (by decide) ?_
  refine aw_aload_n (pc := 35) d_S_takeFrom_35 rfl rfl ?_
  refine aw_get (pc := 36) d_S_takeFrom_36 lf_S_18 hg_1 rfl ?_
  refine aw_iconst (pc := 39) (v := 0) d_S_takeFrom_39 (by decide) ?_
  refine aw_bipush (pc := 40) (v := 6) d_S_takeFrom_40 (by decide) ?_
  refine aw_copy (pc := 42) (n0 := 6) d_S_takeFrom_42 lm_S_61 ws_Y_arraycopy wx_native wn_Y hg_25 hg_4 (show (A (22 + 3)).length = 6 by rw [a3]; exact lst_len _ _) (show (A (1 + 3)).length = 6 by rw [c3]; exact lst_len _ _) rfl (by decide) (by decide) (Nat.le_of_ble_eq_true rfl) (hs_4 _) ?_
  refine aw_aload_n (pc := 45) d_S_takeFrom_45 rfl rfl ?_
  refine aw_get (pc := 46) d_S_takeFrom_46 lf_S_21 hg_22 rfl ?_
  refine aw_iconst (pc := 49) (v := 0) d_S_takeFrom_49 (by decide) ?_
  refine aw_aload_n (pc := 50) d_S_takeFrom_50 rfl rfl ?_
  refine aw_get (pc := 51) d_S_takeFrom_51 lf_S_21 hg_1 rfl ?_
  refine aw_iconst (pc := 54) (v := 0) d_S_takeFrom_54 (by decide) ?_
  refine aw_bipush (pc := 55) (v := 6) d_S_takeFrom_55 (by decide) ?_
  refine aw_copy (pc := 57) (n0 := 6) d_S_takeFrom_57 lm_S_61 ws_Y_arraycopy wx_native wn_Y hg_26 hg_5 (show (A (22 + 4)).length = 6 by rw [a4]; exact lst_len _ _) (show (A (1 + 4)).length = 6 by rw [c4]; exact lst_len _ _) rfl (by decide) (by decide) (Nat.le_of_ble_eq_true rfl) (hs_5 _) ?_
  refine aw_aload_n (pc := 60) d_S_takeFrom_60 rfl rfl ?_
  refine aw_get (pc := 61) d_S_takeFrom_61 lf_S_24 hg_22 rfl ?_
  refine aw_iconst (pc := 64) (v := 0) d_S_takeFrom_64 (by decide) ?_
  refine aw_aload_n (pc := 65) d_S_takeFrom_65 rfl rfl ?_
  refine aw_get (pc := 66) d_S_takeFrom_66 lf_S_24 hg_1 rfl ?_
  refine aw_iconst (pc := 69) (v := 0) d_S_takeFrom_69 (by decide) ?_
  refine aw_bipush (pc := 70) (v := 6) d_S_takeFrom_70 (by decide) ?_
  refine aw_copy (pc := 72) (n0 := 6) d_S_takeFrom_72 lm_S_61 ws_Y_arraycopy wx_native wn_Y hg_27 hg_6 (show (A (22 + 5)).length = 6 by rw [a5]; exact lst_len _ _) (show (A (1 + 5)).length = 6 by rw [c5]; exact lst_len _ _) rfl (by decide) (by decide) (Nat.le_of_ble_eq_true rfl) (hs_6 _) ?_
  refine aw_aload_n (pc := 75) d_S_takeFrom_75 rfl rfl ?_
  refine aw_get (pc := 76) d_S_takeFrom_76 lf_S_27 hg_22 rfl ?_
  refine aw_iconst (pc := 79) (v := 0) d_S_takeFrom_79 (by decide) ?_
  refine aw_aload_n (pc := 80) d_S_takeFrom_80 rfl rfl ?_
  refine aw_get (pc := 81) d_S_takeFrom_81 lf_S_27 hg_1 rfl ?_
  refine aw_iconst (pc := 84) (v := 0) d_S_takeFrom_84 (by decide) ?_
  refine aw_bipush (pc := 85) (v := 6) d_S_takeFrom_85 (by decide) ?_
  refine aw_copy (pc := 87) (n0 := 6) d_S_takeFrom_87 lm_S_61 ws_Y_arraycopy wx_native wn_Y hg_28 hg_7 (show (A (22 + 6)).length = 6 by rw [a6]; exact lst_len _ _) (show (A (1 + 6)).length = 6 by rw [c6]; exact lst_len _ _) rfl (by decide) (by decide) (Nat.le_of_ble_eq_true rfl) (hs_7 _) ?_
  refine aw_aload_n (pc := 90) d_S_takeFrom_90 rfl rfl ?_
  refine aw_aload_n (pc := 91) d_S_takeFrom_91 rfl rfl ?_
  refine aw_get (pc := 92) d_S_takeFrom_92 lf_S_30 hg_22 rfl ?_
  refine aw_put (pc := 95) d_S_takeFrom_95 lp_S_30 hg_1 (ft_int _) (Nat.le_of_ble_eq_true rfl) (hp_1_6 _) ?_
  refine aw_aload_n (pc := 98) d_S_takeFrom_98 rfl rfl ?_
  refine aw_aload_n (pc := 99) d_S_takeFrom_99 rfl rfl ?_
  refine aw_get (pc := 100) d_S_takeFrom_100 lf_S_34 hg_22 rfl ?_
  refine aw_put (pc := 103) d_S_takeFrom_103 lp_S_34 hg_1 (ft_int _) (Nat.le_of_ble_eq_true rfl) (hp_1_7 _) ?_
  refine aw_aload_n (pc := 106) d_S_takeFrom_106 rfl rfl ?_
  refine aw_aload_n (pc := 107) d_S_takeFrom_107 rfl rfl ?_
  refine aw_get (pc := 108) d_S_takeFrom_108 lf_S_37 hg_22 rfl ?_
  refine aw_put (pc := 111) d_S_takeFrom_111 lp_S_37 hg_1 (ft_int _) (Nat.le_of_ble_eq_true rfl) (hp_1_8 _) ?_
  refine aw_aload_n (pc := 114) d_S_takeFrom_114 rfl rfl ?_
  refine aw_aload_n (pc := 115) d_S_takeFrom_115 rfl rfl ?_
  refine aw_get (pc := 116) d_S_takeFrom_116 lf_S_40 hg_22 rfl ?_
  refine aw_put (pc := 119) d_S_takeFrom_119 lp_S_40 hg_1 (ft_int _) (Nat.le_of_ble_eq_true rfl) (hp_1_9 _) ?_
  refine aw_aload_n (pc := 122) d_S_takeFrom_122 rfl rfl ?_
  refine aw_aload_n (pc := 123) d_S_takeFrom_123 rfl rfl ?_
  refine aw_get (pc := 124) d_S_takeFrom_124 lf_S_43 hg_22 rfl ?_
  refine aw_put (pc := 127) d_S_takeFrom_127 lp_S_43 hg_1 (ft_int _) (Nat.le_of_ble_eq_true rfl) (hp_1_10 _) ?_
  refine aw_aload_n (pc := 130) d_S_takeFrom_130 rfl rfl ?_
  refine aw_aload_n (pc := 131) d_S_takeFrom_131 rfl rfl ?_
  refine aw_get (pc := 132) d_S_takeFrom_132 lf_S_46 hg_22 rfl ?_
  refine aw_put (pc := 135) d_S_takeFrom_135 lp_S_46 hg_1 (ft_int _) (Nat.le_of_ble_eq_true rfl) (hp_1_11 _) ?_
  refine aw_aload_n (pc := 138) d_S_takeFrom_138 rfl rfl ?_
  refine aw_aload_n (pc := 139) d_S_takeFrom_139 rfl rfl ?_
  refine aw_get (pc := 140) d_S_takeFrom_140 lf_S_49 hg_22 rfl ?_
  refine aw_put (pc := 143) d_S_takeFrom_143 lp_S_49 hg_1 (ft_int _) (Nat.le_of_ble_eq_true rfl) (hp_1_12 _) ?_
  refine aw_aload_n (pc := 146) d_S_takeFrom_146 rfl rfl ?_
  refine aw_aload_n (pc := 147) d_S_takeFrom_147 rfl rfl ?_
  refine aw_get (pc := 148) d_S_takeFrom_148 lf_S_52 hg_22 rfl ?_
  refine aw_put (pc := 151) d_S_takeFrom_151 lp_S_52 hg_1 (ft_int _) (Nat.le_of_ble_eq_true rfl) (hp_1_13 _) ?_
  refine aw_aload_n (pc := 154) d_S_takeFrom_154 rfl rfl ?_
  refine aw_aload_n (pc := 155) d_S_takeFrom_155 rfl rfl ?_
  refine aw_get (pc := 156) d_S_takeFrom_156 lf_S_55 hg_22 rfl ?_
  refine aw_put (pc := 159) d_S_takeFrom_159 lp_S_55 hg_1 (ft_int _) (Nat.le_of_ble_eq_true rfl) (hp_1_14 _) ?_
  refine aw_aload_n (pc := 162) d_S_takeFrom_162 rfl rfl ?_
  refine aw_aload_n (pc := 163) d_S_takeFrom_163 rfl rfl ?_
  refine aw_get (pc := 164) d_S_takeFrom_164 lf_S_58 hg_22 rfl ?_
  refine aw_put (pc := 167) d_S_takeFrom_167 lp_S_58 hg_1 (ft_int _) (Nat.le_of_ble_eq_true rfl) (hp_1_15 _) ?_
  refine aw_vret (pc := 170) d_S_takeFrom_170 rfl ?_
  refine ⟨rfl, _, _, rfl, ⟨⟨a1, a2, a3, a4, a5, a6⟩, b⟩, ?_, ?_⟩
  · exact frA_t (frA_t (frA_t (frA_t (frA_t (frA_u _ _ _ (by decide)) (frA_u _ _ _ (by decide))) (frA_u _ _ _ (by decide))) (frA_u _ _ _ (by decide))) (frA_u _ _ _ (by decide))) (frA_u _ _ _ (by decide))
  · exact frI_t (frI_t (frI_t (frI_t (frI_t (frI_t (frI_t (frI_t (frI_t (frI_u _ _ _ _ (by decide)) (frI_u _ _ _ _ (by decide))) (frI_u _ _ _ _ (by decide))) (frI_u _ _ _ _ (by decide))) (frI_u _ _ _ _ (by decide))) (frI_u _ _ _ _ (by decide))) (frI_u _ _ _ _ (by decide))) (frI_u _ _ _ _ (by decide))) (frI_u _ _ _ _ (by decide))) (frI_u _ _ _ _ (by decide))
set_option maxHeartbeats 1000000 in
set_option maxRecDepth 20000 in
theorem c_S_takeFrom_8_1 (hE : enS A I 1 T) (hE0 : enS A I 8 T0) : AM m_S_takeFrom r_S_takeFrom (HH A I J U) [.ref 8, .ref 1] (pS A I J U 8 T) := by
  refine am_of (by decide) rfl (by first | decide | exact Nat.le_of_ble_eq_true rfl) ?_
  obtain ⟨⟨a1, a2, a3, a4, a5, a6⟩, b⟩ := hE
  obtain ⟨⟨c1, c2, c3, c4, c5, c6⟩, -⟩ := hE0
  refine aw_aload_n (pc := 0) d_S_takeFrom_0 rfl rfl ?_
  refine aw_get (pc := 1) d_S_takeFrom_1 lf_S_9 hg_1 rfl ?_
  refine aw_iconst (pc := 4) (v := 0) d_S_takeFrom_4 (by decide) ?_
  refine aw_aload_n (pc := 5) d_S_takeFrom_5 rfl rfl ?_
  refine aw_get (pc := 6) d_S_takeFrom_6 lf_S_9 hg_8 rfl ?_
  refine aw_iconst (pc := 9) (v := 0) d_S_takeFrom_9 (by decide) ?_
  refine aw_bipush (pc := 10) (v := 12) d_S_takeFrom_10 (by decide) ?_
  refine aw_copy (pc := 12) (n0 := 12) d_S_takeFrom_12 lm_S_61 ws_Y_arraycopy wx_native wn_Y hg_2 hg_9 (by rw [a1]; exact lst_len _ _) (by rw [c1]; exact lst_len _ _) rfl (by decide) (by decide) (Nat.le_of_ble_eq_true rfl) (hs_9 _) ?_
  refine aw_aload_n (pc := 15) d_S_takeFrom_15 rfl rfl ?_
  refine aw_get (pc := 16) d_S_takeFrom_16 lf_S_15 hg_1 rfl ?_
  refine aw_iconst (pc := 19) (v := 0) d_S_takeFrom_19 (by decide) ?_
  refine aw_aload_n (pc := 20) d_S_takeFrom_20 rfl rfl ?_
  refine aw_get (pc := 21) d_S_takeFrom_21 lf_S_15 hg_8 rfl ?_
  refine aw_iconst (pc := 24) (v := 0) d_S_takeFrom_24 (by decide) ?_
  refine aw_bipush (pc := 25) (v := 11) d_S_takeFrom_25 (by decide) ?_
  refine aw_copy (pc := 27) (n0 := 11) d_S_takeFrom_27 lm_S_61 ws_Y_arraycopy wx_native wn_Y hg_3 hg_10 (show (A (1 + 2)).length = 11 by rw [a2]; exact lst_len _ _) (show (A (8 + 2)).length = 11 by rw [c2]; exact lst_len _ _) rfl (by decide) (by decide) (Nat.le_of_ble_eq_true rfl) (hs_10 _) ?_
  refine aw_aload_n (pc := 30) d_S_takeFrom_30 rfl rfl ?_
  refine aw_get (pc := 31) d_S_takeFrom_31 lf_S_18 hg_1 rfl ?_
  refine aw_iconst (pc := 34) (v := 0) d_S_takeFrom_34 (by decide) ?_
  refine aw_aload_n (pc := 35) d_S_takeFrom_35 rfl rfl ?_
  refine aw_get (pc := 36) d_S_takeFrom_36 lf_S_18 hg_8 rfl ?_
  refine aw_iconst (pc := 39) (v := 0) d_S_takeFrom_39 (by decide) ?_
  refine aw_bipush (pc := 40) (v := 6) d_S_takeFrom_40 (by decide) ?_
  refine aw_copy (pc := 42) (n0 := 6) d_S_takeFrom_42 lm_S_61 ws_Y_arraycopy wx_native wn_Y hg_4 hg_11 (show (A (1 + 3)).length = 6 by rw [a3]; exact lst_len _ _) (show (A (8 + 3)).length = 6 by rw [c3]; exact lst_len _ _) rfl (by decide) (by decide) (Nat.le_of_ble_eq_true rfl) (hs_11 _) ?_
  refine aw_aload_n (pc := 45) d_S_takeFrom_45 rfl rfl ?_
  refine aw_get (pc := 46) d_S_takeFrom_46 lf_S_21 hg_1 rfl ?_
  refine aw_iconst (pc := 49) (v := 0) d_S_takeFrom_49 (by decide) ?_
  refine aw_aload_n (pc := 50) d_S_takeFrom_50 rfl rfl ?_
  refine aw_get (pc := 51) d_S_takeFrom_51 lf_S_21 hg_8 rfl ?_
  refine aw_iconst (pc := 54) (v := 0) d_S_takeFrom_54 (by decide) ?_
  refine aw_bipush (pc := 55) (v := 6) d_S_takeFrom_55 (by decide) ?_
  refine aw_copy (pc := 57) (n0 := 6) d_S_takeFrom_57 lm_S_61 ws_Y_arraycopy wx_native wn_Y hg_5 hg_12 (show (A (1 + 4)).length = 6 by rw [a4]; exact lst_len _ _) (show (A (8 + 4)).length = 6 by rw [c4]; exact lst_len _ _) rfl (by decide) (by decide) (Nat.le_of_ble_eq_true rfl) (hs_12 _) ?_
  refine aw_aload_n (pc := 60) d_S_takeFrom_60 rfl rfl ?_
  refine aw_get (pc := 61) d_S_takeFrom_61 lf_S_24 hg_1 rfl ?_
  refine aw_iconst (pc := 64) (v := 0) d_S_takeFrom_64 (by decide) ?_
  refine aw_aload_n (pc := 65) d_S_takeFrom_65 rfl rfl ?_
  refine aw_get (pc := 66) d_S_takeFrom_66 lf_S_24 hg_8 rfl ?_
  refine aw_iconst (pc := 69) (v := 0) d_S_takeFrom_69 (by decide) ?_
  refine aw_bipush (pc := 70) (v := 6) d_S_takeFrom_70 (by decide) ?_
  refine aw_copy (pc := 72) (n0 := 6) d_S_takeFrom_72 lm_S_61 ws_Y_arraycopy wx_native wn_Y hg_6 hg_13 (show (A (1 + 5)).length = 6 by rw [a5]; exact lst_len _ _) (show (A (8 + 5)).length = 6 by rw [c5]; exact lst_len _ _) rfl (by decide) (by decide) (Nat.le_of_ble_eq_true rfl) (hs_13 _) ?_
  refine aw_aload_n (pc := 75) d_S_takeFrom_75 rfl rfl ?_
  refine aw_get (pc := 76) d_S_takeFrom_76 lf_S_27 hg_1 rfl ?_
  refine aw_iconst (pc := 79) (v := 0) d_S_takeFrom_79 (by decide) ?_
  refine aw_aload_n (pc := 80) d_S_takeFrom_80 rfl rfl ?_
  refine aw_get (pc := 81) d_S_takeFrom_81 lf_S_27 hg_8 rfl ?_
  refine aw_iconst (pc := 84) (v := 0) d_S_takeFrom_84 (by decide) ?_
  refine aw_bipush (pc := 85) (v := 6) d_S_takeFrom_85 (by decide) ?_
  refine aw_copy (pc := 87) (n0 := 6) d_S_takeFrom_87 lm_S_61 ws_Y_arraycopy wx_native wn_Y hg_7 hg_14 (show (A (1 + 6)).length = 6 by rw [a6]; exact lst_len _ _) (show (A (8 + 6)).length = 6 by rw [c6]; exact lst_len _ _) rfl (by decide) (by decide) (Nat.le_of_ble_eq_true rfl) (hs_14 _) ?_
  refine aw_aload_n (pc := 90) d_S_takeFrom_90 rfl rfl ?_
  refine aw_aload_n (pc := 91) d_S_takeFrom_91 rfl rfl ?_
  refine aw_get (pc := 92) d_S_takeFrom_92 lf_S_30 hg_1 rfl ?_
  refine aw_put (pc := 95) d_S_takeFrom_95 lp_S_30 hg_8 (ft_int _) (Nat.le_of_ble_eq_true rfl) (hp_8_6 _) ?_
  refine aw_aload_n (pc := 98) d_S_takeFrom_98 rfl rfl ?_
  refine aw_aload_n (pc := 99) d_S_takeFrom_99 rfl rfl ?_
  refine aw_get (pc := 100) d_S_takeFrom_100 lf_S_34 hg_1 rfl ?_
  refine aw_put (pc := 103) d_S_takeFrom_103 lp_S_34 hg_8 (ft_int _) (Nat.le_of_ble_eq_true rfl) (hp_8_7 _) ?_
  refine aw_aload_n (pc := 106) d_S_takeFrom_106 rfl rfl ?_
  refine aw_aload_n (pc := 107) d_S_takeFrom_107 rfl rfl ?_
  refine aw_get (pc := 108) d_S_takeFrom_108 lf_S_37 hg_1 rfl ?_
  refine aw_put (pc := 111) d_S_takeFrom_111 lp_S_37 hg_8 (ft_int _) (Nat.le_of_ble_eq_true rfl) (hp_8_8 _) ?_
  refine aw_aload_n (pc := 114) d_S_takeFrom_114 rfl rfl ?_
  refine aw_aload_n (pc := 115) d_S_takeFrom_115 rfl rfl ?_
  refine aw_get (pc := 116) d_S_takeFrom_116 lf_S_40 hg_1 rfl ?_
  refine aw_put (pc := 119) d_S_takeFrom_119 lp_S_40 hg_8 (ft_int _) (Nat.le_of_ble_eq_true rfl) (hp_8_9 _) ?_
  refine aw_aload_n (pc := 122) d_S_takeFrom_122 rfl rfl ?_
  refine aw_aload_n (pc := 123) d_S_takeFrom_123 rfl rfl ?_
  refine aw_get (pc := 124) d_S_takeFrom_124 lf_S_43 hg_1 rfl ?_
  refine aw_put (pc := 127) d_S_takeFrom_127 lp_S_43 hg_8 (ft_int _) (Nat.le_of_ble_eq_true rfl) (hp_8_10 _) ?_
  refine aw_aload_n (pc := 130) d_S_takeFrom_130 rfl rfl ?_
  refine aw_aload_n (pc := 131) d_S_takeFrom_131 rfl rfl ?_
  refine aw_get (pc := 132) d_S_takeFrom_132 lf_S_46 hg_1 rfl ?_
  refine aw_put (pc := 135) d_S_takeFrom_135 lp_S_46 hg_8 (ft_int _) (Nat.le_of_ble_eq_true rfl) (hp_8_11 _) ?_
  refine aw_aload_n (pc := 138) d_S_takeFrom_138 rfl rfl ?_
  refine aw_aload_n (pc := 139) d_S_takeFrom_139 rfl rfl ?_
  refine aw_get (pc := 140) d_S_takeFrom_140 lf_S_49 hg_1 rfl ?_
  refine aw_put (pc := 143) d_S_takeFrom_143 lp_S_49 hg_8 (ft_int _) (Nat.le_of_ble_eq_true rfl) (hp_8_12 _) ?_
  refine aw_aload_n (pc := 146) d_S_takeFrom_146 rfl rfl ?_
  refine aw_aload_n (pc := 147) d_S_takeFrom_147 rfl rfl ?_
  refine aw_get (pc := 148) d_S_takeFrom_148 lf_S_52 hg_1 rfl ?_
  refine aw_put (pc := 151) d_S_takeFrom_151 lp_S_52 hg_8 (ft_int _) (Nat.le_of_ble_eq_true rfl) (hp_8_13 _) ?_
  refine aw_aload_n (pc := 154) d_S_takeFrom_154 rfl rfl ?_
  refine aw_aload_n (pc := 155) d_S_takeFrom_155 rfl rfl ?_
  refine aw_get (pc := 156) d_S_takeFrom_156 lf_S_55 hg_1 rfl ?_
  refine aw_put (pc := 159) d_S_takeFrom_159 lp_S_55 hg_8 (ft_int _) (Nat.le_of_ble_eq_true rfl) (hp_8_14 _) ?_
  refine aw_aload_n (pc := 162) d_S_takeFrom_162 rfl rfl ?_
  refine aw_aload_n (pc := 163) d_S_takeFrom_163 rfl rfl ?_
  refine aw_get (pc := 164) d_S_takeFrom_164 lf_S_58 hg_1 rfl ?_
  refine aw_put (pc := 167) d_S_takeFrom_167 lp_S_58 hg_8 (ft_int _) (Nat.le_of_ble_eq_true rfl) (hp_8_15 _) ?_
  refine aw_vret (pc := 170) d_S_takeFrom_170 rfl ?_
  refine ⟨rfl, _, _, rfl, ⟨⟨a1, a2, a3, a4, a5, a6⟩, b⟩, ?_, ?_⟩
  · exact frA_t (frA_t (frA_t (frA_t (frA_t (frA_u _ _ _ (by decide)) (frA_u _ _ _ (by decide))) (frA_u _ _ _ (by decide))) (frA_u _ _ _ (by decide))) (frA_u _ _ _ (by decide))) (frA_u _ _ _ (by decide))
  · exact frI_t (frI_t (frI_t (frI_t (frI_t (frI_t (frI_t (frI_t (frI_t (frI_u _ _ _ _ (by decide)) (frI_u _ _ _ _ (by decide))) (frI_u _ _ _ _ (by decide))) (frI_u _ _ _ _ (by decide))) (frI_u _ _ _ _ (by decide))) (frI_u _ _ _ _ (by decide))) (frI_u _ _ _ _ (by decide))) (frI_u _ _ _ _ (by decide))) (frI_u _ _ _ _ (by decide))) (frI_u _ _ _ _ (by decide))
set_option maxHeartbeats 1000000 in
set_option maxRecDepth 20000 in
theorem c_S_takeFrom_15_1 (hE : enS A I 1 T) (hE0 : enS A I 15 T0) : AM m_S_takeFrom r_S_takeFrom (HH A I J U) [.ref 15, .ref 1] (pS A I J U 15 T) := by
  refine am_of (by decide) rfl (by first | decide | exact Nat.le_of_ble_eq_true rfl) ?_
  obtain ⟨⟨a1, a2, a3, a4, a5, a6⟩, b⟩ := hE
  obtain ⟨⟨c1, c2, c3, c4, c5, c6⟩, -⟩ := hE0
  refine aw_aload_n (pc := 0) d_S_takeFrom_0 rfl rfl ?_
  refine aw_get (pc := 1) d_S_takeFrom_1 lf_S_9 hg_1 rfl ?_
  refine aw_iconst (pc := 4) (v := 0) d_S_takeFrom_4 (by decide) ?_
  refine aw_aload_n (pc := 5) d_S_takeFrom_5 rfl rfl ?_
  refine aw_get (pc := 6) d_S_takeFrom_6 lf_S_9 hg_15 rfl ?_
  refine aw_iconst (pc := 9) (v := 0) d_S_takeFrom_9 (by decide) ?_
  refine aw_bipush (pc := 10) (v := 12) d_S_takeFrom_10 (by decide) ?_
  refine aw_copy (pc := 12) (n0 := 12) d_S_takeFrom_12 lm_S_61 ws_Y_arraycopy wx_native wn_Y hg_2 hg_16 (by rw [a1]; exact lst_len _ _) (by rw [c1]; exact lst_len _ _) rfl (by decide) (by decide) (Nat.le_of_ble_eq_true rfl) (hs_16 _) ?_
  refine aw_aload_n (pc := 15) d_S_takeFrom_15 rfl rfl ?_
  refine aw_get (pc := 16) d_S_takeFrom_16 lf_S_15 hg_1 rfl ?_
  refine aw_iconst (pc := 19) (v := 0) d_S_takeFrom_19 (by decide) ?_
  refine aw_aload_n (pc := 20) d_S_takeFrom_20 rfl rfl ?_
  refine aw_get (pc := 21) d_S_takeFrom_21 lf_S_15 hg_15 rfl ?_
  refine aw_iconst (pc := 24) (v := 0) d_S_takeFrom_24 (by decide) ?_
  refine aw_bipush (pc := 25) (v := 11) d_S_takeFrom_25 (by decide) ?_
  refine aw_copy (pc := 27) (n0 := 11) d_S_takeFrom_27 lm_S_61 ws_Y_arraycopy wx_native wn_Y hg_3 hg_17 (show (A (1 + 2)).length = 11 by rw [a2]; exact lst_len _ _) (show (A (15 + 2)).length = 11 by rw [c2]; exact lst_len _ _) rfl (by decide) (by decide) (Nat.le_of_ble_eq_true rfl) (hs_17 _) ?_
  refine aw_aload_n (pc := 30) d_S_takeFrom_30 rfl rfl ?_
  refine aw_get (pc := 31) d_S_takeFrom_31 lf_S_18 hg_1 rfl ?_
  refine aw_iconst (pc := 34) (v := 0) d_S_takeFrom_34 (by decide) ?_
  refine aw_aload_n (pc := 35) d_S_takeFrom_35 rfl rfl ?_
  refine aw_get (pc := 36) d_S_takeFrom_36 lf_S_18 hg_15 rfl ?_
  refine aw_iconst (pc := 39) (v := 0) d_S_takeFrom_39 (by decide) ?_
  refine aw_bipush (pc := 40) (v := 6) d_S_takeFrom_40 (by decide) ?_
  refine aw_copy (pc := 42) (n0 := 6) d_S_takeFrom_42 lm_S_61 ws_Y_arraycopy wx_native wn_Y hg_4 hg_18 (show (A (1 + 3)).length = 6 by rw [a3]; exact lst_len _ _) (show (A (15 + 3)).length = 6 by rw [c3]; exact lst_len _ _) rfl (by decide) (by decide) (Nat.le_of_ble_eq_true rfl) (hs_18 _) ?_
  refine aw_aload_n (pc := 45) d_S_takeFrom_45 rfl rfl ?_
  refine aw_get (pc := 46) d_S_takeFrom_46 lf_S_21 hg_1 rfl ?_
  refine aw_iconst (pc := 49) (v := 0) d_S_takeFrom_49 (by decide) ?_
  refine aw_aload_n (pc := 50) d_S_takeFrom_50 rfl rfl ?_
  refine aw_get (pc := 51) d_S_takeFrom_51 lf_S_21 hg_15 rfl ?_
  refine aw_iconst (pc := 54) (v := 0) d_S_takeFrom_54 (by decide) ?_
  refine aw_bipush (pc := 55) (v := 6) d_S_takeFrom_55 (by decide) ?_
  refine aw_copy (pc := 57) (n0 := 6) d_S_takeFrom_57 lm_S_61 ws_Y_arraycopy wx_native wn_Y hg_5 hg_19 (show (A (1 + 4)).length = 6 by rw [a4]; exact lst_len _ _) (show (A (15 + 4)).length = 6 by rw [c4]; exact lst_len _ _) rfl (by decide) (by decide) (Nat.le_of_ble_eq_true rfl) (hs_19 _) ?_
  refine aw_aload_n (pc := 60) d_S_takeFrom_60 rfl rfl ?_
  refine aw_get (pc := 61) d_S_takeFrom_61 lf_S_24 hg_1 rfl ?_
  refine aw_iconst (pc := 64) (v := 0) d_S_takeFrom_64 (by decide) ?_
  refine aw_aload_n (pc := 65) d_S_takeFrom_65 rfl rfl ?_
  refine aw_get (pc := 66) d_S_takeFrom_66 lf_S_24 hg_15 rfl ?_
  refine aw_iconst (pc := 69) (v := 0) d_S_takeFrom_69 (by decide) ?_
  refine aw_bipush (pc := 70) (v := 6) d_S_takeFrom_70 (by decide) ?_
  refine aw_copy (pc := 72) (n0 := 6) d_S_takeFrom_72 lm_S_61 ws_Y_arraycopy wx_native wn_Y hg_6 hg_20 (show (A (1 + 5)).length = 6 by rw [a5]; exact lst_len _ _) (show (A (15 + 5)).length = 6 by rw [c5]; exact lst_len _ _) rfl (by decide) (by decide) (Nat.le_of_ble_eq_true rfl) (hs_20 _) ?_
  refine aw_aload_n (pc := 75) d_S_takeFrom_75 rfl rfl ?_
  refine aw_get (pc := 76) d_S_takeFrom_76 lf_S_27 hg_1 rfl ?_
  refine aw_iconst (pc := 79) (v := 0) d_S_takeFrom_79 (by decide) ?_
  refine aw_aload_n (pc := 80) d_S_takeFrom_80 rfl rfl ?_
  refine aw_get (pc := 81) d_S_takeFrom_81 lf_S_27 hg_15 rfl ?_
  refine aw_iconst (pc := 84) (v := 0) d_S_takeFrom_84 (by decide) ?_
  refine aw_bipush (pc := 85) (v := 6) d_S_takeFrom_85 (by decide) ?_
  refine aw_copy (pc := 87) (n0 := 6) d_S_takeFrom_87 lm_S_61 ws_Y_arraycopy wx_native wn_Y hg_7 hg_21 (show (A (1 + 6)).length = 6 by rw [a6]; exact lst_len _ _) (show (A (15 + 6)).length = 6 by rw [c6]; exact lst_len _ _) rfl (by decide) (by decide) (Nat.le_of_ble_eq_true rfl) (hs_21 _) ?_
  refine aw_aload_n (pc := 90) d_S_takeFrom_90 rfl rfl ?_
  refine aw_aload_n (pc := 91) d_S_takeFrom_91 rfl rfl ?_
  refine aw_get (pc := 92) d_S_takeFrom_92 lf_S_30 hg_1 rfl ?_
  refine aw_put (pc := 95) d_S_takeFrom_95 lp_S_30 hg_15 (ft_int _) (Nat.le_of_ble_eq_true rfl) (hp_15_6 _) ?_
  refine aw_aload_n (pc := 98) d_S_takeFrom_98 rfl rfl ?_
  refine aw_aload_n (pc := 99) d_S_takeFrom_99 rfl rfl ?_
  refine aw_get (pc := 100) d_S_takeFrom_100 lf_S_34 hg_1 rfl ?_
  refine aw_put (pc := 103) d_S_takeFrom_103 lp_S_34 hg_15 (ft_int _) (Nat.le_of_ble_eq_true rfl) (hp_15_7 _) ?_
  refine aw_aload_n (pc := 106) d_S_takeFrom_106 rfl rfl ?_
  refine aw_aload_n (pc := 107) d_S_takeFrom_107 rfl rfl ?_
  refine aw_get (pc := 108) d_S_takeFrom_108 lf_S_37 hg_1 rfl ?_
  refine aw_put (pc := 111) d_S_takeFrom_111 lp_S_37 hg_15 (ft_int _) (Nat.le_of_ble_eq_true rfl) (hp_15_8 _) ?_
  refine aw_aload_n (pc := 114) d_S_takeFrom_114 rfl rfl ?_
  refine aw_aload_n (pc := 115) d_S_takeFrom_115 rfl rfl ?_
  refine aw_get (pc := 116) d_S_takeFrom_116 lf_S_40 hg_1 rfl ?_
  refine aw_put (pc := 119) d_S_takeFrom_119 lp_S_40 hg_15 (ft_int _) (Nat.le_of_ble_eq_true rfl) (hp_15_9 _) ?_
  refine aw_aload_n (pc := 122) d_S_takeFrom_122 rfl rfl ?_
  refine aw_aload_n (pc := 123) d_S_takeFrom_123 rfl rfl ?_
  refine aw_get (pc := 124) d_S_takeFrom_124 lf_S_43 hg_1 rfl ?_
  refine aw_put (pc := 127) d_S_takeFrom_127 lp_S_43 hg_15 (ft_int _) (Nat.le_of_ble_eq_true rfl) (hp_15_10 _) ?_
  refine aw_aload_n (pc := 130) d_S_takeFrom_130 rfl rfl ?_
  refine aw_aload_n (pc := 131) d_S_takeFrom_131 rfl rfl ?_
  refine aw_get (pc := 132) d_S_takeFrom_132 lf_S_46 hg_1 rfl ?_
  refine aw_put (pc := 135) d_S_takeFrom_135 lp_S_46 hg_15 (ft_int _) (Nat.le_of_ble_eq_true rfl) (hp_15_11 _) ?_
  refine aw_aload_n (pc := 138) d_S_takeFrom_138 rfl rfl ?_
  refine aw_aload_n (pc := 139) d_S_takeFrom_139 rfl rfl ?_
  refine aw_get (pc := 140) d_S_takeFrom_140 lf_S_49 hg_1 rfl ?_
  refine aw_put (pc := 143) d_S_takeFrom_143 lp_S_49 hg_15 (ft_int _) (Nat.le_of_ble_eq_true rfl) (hp_15_12 _) ?_
  refine aw_aload_n (pc := 146) d_S_takeFrom_146 rfl rfl ?_
  refine aw_aload_n (pc := 147) d_S_takeFrom_147 rfl rfl ?_
  refine aw_get (pc := 148) d_S_takeFrom_148 lf_S_52 hg_1 rfl ?_
  refine aw_put (pc := 151) d_S_takeFrom_151 lp_S_52 hg_15 (ft_int _) (Nat.le_of_ble_eq_true rfl) (hp_15_13 _) ?_
  refine aw_aload_n (pc := 154) d_S_takeFrom_154 rfl rfl ?_
  refine aw_aload_n (pc := 155) d_S_takeFrom_155 rfl rfl ?_
  refine aw_get (pc := 156) d_S_takeFrom_156 lf_S_55 hg_1 rfl ?_
  refine aw_put (pc := 159) d_S_takeFrom_159 lp_S_55 hg_15 (ft_int _) (Nat.le_of_ble_eq_true rfl) (hp_15_14 _) ?_
  refine aw_aload_n (pc := 162) d_S_takeFrom_162 rfl rfl ?_
  refine aw_aload_n (pc := 163) d_S_takeFrom_163 rfl rfl ?_
  refine aw_get (pc := 164) d_S_takeFrom_164 lf_S_58 hg_1 rfl ?_
  refine aw_put (pc := 167) d_S_takeFrom_167 lp_S_58 hg_15 (ft_int _) (Nat.le_of_ble_eq_true rfl) (hp_15_15 _) ?_
  refine aw_vret (pc := 170) d_S_takeFrom_170 rfl ?_
  refine ⟨rfl, _, _, rfl, ⟨⟨a1, a2, a3, a4, a5, a6⟩, b⟩, ?_, ?_⟩
  · exact frA_t (frA_t (frA_t (frA_t (frA_t (frA_u _ _ _ (by decide)) (frA_u _ _ _ (by decide))) (frA_u _ _ _ (by decide))) (frA_u _ _ _ (by decide))) (frA_u _ _ _ (by decide))) (frA_u _ _ _ (by decide))
  · exact frI_t (frI_t (frI_t (frI_t (frI_t (frI_t (frI_t (frI_t (frI_t (frI_u _ _ _ _ (by decide)) (frI_u _ _ _ _ (by decide))) (frI_u _ _ _ _ (by decide))) (frI_u _ _ _ _ (by decide))) (frI_u _ _ _ _ (by decide))) (frI_u _ _ _ _ (by decide))) (frI_u _ _ _ _ (by decide))) (frI_u _ _ _ _ (by decide))) (frI_u _ _ _ _ (by decide))) (frI_u _ _ _ _ (by decide))
set_option maxHeartbeats 1000000 in
set_option maxRecDepth 20000 in
theorem c_S_takeFrom_1_8 (hE : enS A I 8 T) (hE0 : enS A I 1 T0) : AM m_S_takeFrom r_S_takeFrom (HH A I J U) [.ref 1, .ref 8] (pS A I J U 1 T) := by
  refine am_of (by decide) rfl (by first | decide | exact Nat.le_of_ble_eq_true rfl) ?_
  obtain ⟨⟨a1, a2, a3, a4, a5, a6⟩, b⟩ := hE
  obtain ⟨⟨c1, c2, c3, c4, c5, c6⟩, -⟩ := hE0
  refine aw_aload_n (pc := 0) d_S_takeFrom_0 rfl rfl ?_
  refine aw_get (pc := 1) d_S_takeFrom_1 lf_S_9 hg_8 rfl ?_
  refine aw_iconst (pc := 4) (v := 0) d_S_takeFrom_4 (by decide) ?_
  refine aw_aload_n (pc := 5) d_S_takeFrom_5 rfl rfl ?_
  refine aw_get (pc := 6) d_S_takeFrom_6 lf_S_9 hg_1 rfl ?_
  refine aw_iconst (pc := 9) (v := 0) d_S_takeFrom_9 (by decide) ?_
  refine aw_bipush (pc := 10) (v := 12) d_S_takeFrom_10 (by decide) ?_
  refine aw_copy (pc := 12) (n0 := 12) d_S_takeFrom_12 lm_S_61 ws_Y_arraycopy wx_native wn_Y hg_9 hg_2 (by rw [a1]; exact lst_len _ _) (by rw [c1]; exact lst_len _ _) rfl (by decide) (by decide) (Nat.le_of_ble_eq_true rfl) (hs_2 _) ?_
  refine aw_aload_n (pc := 15) d_S_takeFrom_15 rfl rfl ?_
  refine aw_get (pc := 16) d_S_takeFrom_16 lf_S_15 hg_8 rfl ?_
  refine aw_iconst (pc := 19) (v := 0) d_S_takeFrom_19 (by decide) ?_
  refine aw_aload_n (pc := 20) d_S_takeFrom_20 rfl rfl ?_
  refine aw_get (pc := 21) d_S_takeFrom_21 lf_S_15 hg_1 rfl ?_
  refine aw_iconst (pc := 24) (v := 0) d_S_takeFrom_24 (by decide) ?_
  refine aw_bipush (pc := 25) (v := 11) d_S_takeFrom_25 (by decide) ?_
  refine aw_copy (pc := 27) (n0 := 11) d_S_takeFrom_27 lm_S_61 ws_Y_arraycopy wx_native wn_Y hg_10 hg_3 (show (A (8 + 2)).length = 11 by rw [a2]; exact lst_len _ _) (show (A (1 + 2)).length = 11 by rw [c2]; exact lst_len _ _) rfl (by decide) (by decide) (Nat.le_of_ble_eq_true rfl) (hs_3 _) ?_
  refine aw_aload_n (pc := 30) d_S_takeFrom_30 rfl rfl ?_
  refine aw_get (pc := 31) d_S_takeFrom_31 lf_S_18 hg_8 rfl ?_
  refine aw_iconst (pc := 34) (v := 0) d_S_takeFrom_34 (by decide) ?_
  refine aw_aload_n (pc := 35) d_S_takeFrom_35 rfl rfl ?_
  refine aw_get (pc := 36) d_S_takeFrom_36 lf_S_18 hg_1 rfl ?_
  refine aw_iconst (pc := 39) (v := 0) d_S_takeFrom_39 (by decide) ?_
  refine aw_bipush (pc := 40) (v := 6) d_S_takeFrom_40 (by decide) ?_
  refine aw_copy (pc := 42) (n0 := 6) d_S_takeFrom_42 lm_S_61 ws_Y_arraycopy wx_native wn_Y hg_11 hg_4 (show (A (8 + 3)).length = 6 by rw [a3]; exact lst_len _ _) (show (A (1 + 3)).length = 6 by rw [c3]; exact lst_len _ _) rfl (by decide) (by decide) (Nat.le_of_ble_eq_true rfl) (hs_4 _) ?_
  refine aw_aload_n (pc := 45) d_S_takeFrom_45 rfl rfl ?_
  refine aw_get (pc := 46) d_S_takeFrom_46 lf_S_21 hg_8 rfl ?_
  refine aw_iconst (pc := 49) (v := 0) d_S_takeFrom_49 (by decide) ?_
  refine aw_aload_n (pc := 50) d_S_takeFrom_50 rfl rfl ?_
  refine aw_get (pc := 51) d_S_takeFrom_51 lf_S_21 hg_1 rfl ?_
  refine aw_iconst (pc := 54) (v := 0) d_S_takeFrom_54 (by decide) ?_
  refine aw_bipush (pc := 55) (v := 6) d_S_takeFrom_55 (by decide) ?_
  refine aw_copy (pc := 57) (n0 := 6) d_S_takeFrom_57 lm_S_61 ws_Y_arraycopy wx_native wn_Y hg_12 hg_5 (show (A (8 + 4)).length = 6 by rw [a4]; exact lst_len _ _) (show (A (1 + 4)).length = 6 by rw [c4]; exact lst_len _ _) rfl (by decide) (by decide) (Nat.le_of_ble_eq_true rfl) (hs_5 _) ?_
  refine aw_aload_n (pc := 60) d_S_takeFrom_60 rfl rfl ?_
  refine aw_get (pc := 61) d_S_takeFrom_61 lf_S_24 hg_8 rfl ?_
  refine aw_iconst (pc := 64) (v := 0) d_S_takeFrom_64 (by decide) ?_
  refine aw_aload_n (pc := 65) d_S_takeFrom_65 rfl rfl ?_
  refine aw_get (pc := 66) d_S_takeFrom_66 lf_S_24 hg_1 rfl ?_
  refine aw_iconst (pc := 69) (v := 0) d_S_takeFrom_69 (by decide) ?_
  refine aw_bipush (pc := 70) (v := 6) d_S_takeFrom_70 (by decide) ?_
  refine aw_copy (pc := 72) (n0 := 6) d_S_takeFrom_72 lm_S_61 ws_Y_arraycopy wx_native wn_Y hg_13 hg_6 (show (A (8 + 5)).length = 6 by rw [a5]; exact lst_len _ _) (show (A (1 + 5)).length = 6 by rw [c5]; exact lst_len _ _) rfl (by decide) (by decide) (Nat.le_of_ble_eq_true rfl) (hs_6 _) ?_
  refine aw_aload_n (pc := 75) d_S_takeFrom_75 rfl rfl ?_
  refine aw_get (pc := 76) d_S_takeFrom_76 lf_S_27 hg_8 rfl ?_
  refine aw_iconst (pc := 79) (v := 0) d_S_takeFrom_79 (by decide) ?_
  refine aw_aload_n (pc := 80) d_S_takeFrom_80 rfl rfl ?_
  refine aw_get (pc := 81) d_S_takeFrom_81 lf_S_27 hg_1 rfl ?_
  refine aw_iconst (pc := 84) (v := 0) d_S_takeFrom_84 (by decide) ?_
  refine aw_bipush (pc := 85) (v := 6) d_S_takeFrom_85 (by decide) ?_
  refine aw_copy (pc := 87) (n0 := 6) d_S_takeFrom_87 lm_S_61 ws_Y_arraycopy wx_native wn_Y hg_14 hg_7 (show (A (8 + 6)).length = 6 by rw [a6]; exact lst_len _ _) (show (A (1 + 6)).length = 6 by rw [c6]; exact lst_len _ _) rfl (by decide) (by decide) (Nat.le_of_ble_eq_true rfl) (hs_7 _) ?_
  refine aw_aload_n (pc := 90) d_S_takeFrom_90 rfl rfl ?_
  refine aw_aload_n (pc := 91) d_S_takeFrom_91 rfl rfl ?_
  refine aw_get (pc := 92) d_S_takeFrom_92 lf_S_30 hg_8 rfl ?_
  refine aw_put (pc := 95) d_S_takeFrom_95 lp_S_30 hg_1 (ft_int _) (Nat.le_of_ble_eq_true rfl) (hp_1_6 _) ?_
  refine aw_aload_n (pc := 98) d_S_takeFrom_98 rfl rfl ?_
  refine aw_aload_n (pc := 99) d_S_takeFrom_99 rfl rfl ?_
  refine aw_get (pc := 100) d_S_takeFrom_100 lf_S_34 hg_8 rfl ?_
  refine aw_put (pc := 103) d_S_takeFrom_103 lp_S_34 hg_1 (ft_int _) (Nat.le_of_ble_eq_true rfl) (hp_1_7 _) ?_
  refine aw_aload_n (pc := 106) d_S_takeFrom_106 rfl rfl ?_
  refine aw_aload_n (pc := 107) d_S_takeFrom_107 rfl rfl ?_
  refine aw_get (pc := 108) d_S_takeFrom_108 lf_S_37 hg_8 rfl ?_
  refine aw_put (pc := 111) d_S_takeFrom_111 lp_S_37 hg_1 (ft_int _) (Nat.le_of_ble_eq_true rfl) (hp_1_8 _) ?_
  refine aw_aload_n (pc := 114) d_S_takeFrom_114 rfl rfl ?_
  refine aw_aload_n (pc := 115) d_S_takeFrom_115 rfl rfl ?_
  refine aw_get (pc := 116) d_S_takeFrom_116 lf_S_40 hg_8 rfl ?_
  refine aw_put (pc := 119) d_S_takeFrom_119 lp_S_40 hg_1 (ft_int _) (Nat.le_of_ble_eq_true rfl) (hp_1_9 _) ?_
  refine aw_aload_n (pc := 122) d_S_takeFrom_122 rfl rfl ?_
  refine aw_aload_n (pc := 123) d_S_takeFrom_123 rfl rfl ?_
  refine aw_get (pc := 124) d_S_takeFrom_124 lf_S_43 hg_8 rfl ?_
  refine aw_put (pc := 127) d_S_takeFrom_127 lp_S_43 hg_1 (ft_int _) (Nat.le_of_ble_eq_true rfl) (hp_1_10 _) ?_
  refine aw_aload_n (pc := 130) d_S_takeFrom_130 rfl rfl ?_
  refine aw_aload_n (pc := 131) d_S_takeFrom_131 rfl rfl ?_
  refine aw_get (pc := 132) d_S_takeFrom_132 lf_S_46 hg_8 rfl ?_
  refine aw_put (pc := 135) d_S_takeFrom_135 lp_S_46 hg_1 (ft_int _) (Nat.le_of_ble_eq_true rfl) (hp_1_11 _) ?_
  refine aw_aload_n (pc := 138) d_S_takeFrom_138 rfl rfl ?_
  refine aw_aload_n (pc := 139) d_S_takeFrom_139 rfl rfl ?_
  refine aw_get (pc := 140) d_S_takeFrom_140 lf_S_49 hg_8 rfl ?_
  refine aw_put (pc := 143) d_S_takeFrom_143 lp_S_49 hg_1 (ft_int _) (Nat.le_of_ble_eq_true rfl) (hp_1_12 _) ?_
  refine aw_aload_n (pc := 146) d_S_takeFrom_146 rfl rfl ?_
  refine aw_aload_n (pc := 147) d_S_takeFrom_147 rfl rfl ?_
  refine aw_get (pc := 148) d_S_takeFrom_148 lf_S_52 hg_8 rfl ?_
  refine aw_put (pc := 151) d_S_takeFrom_151 lp_S_52 hg_1 (ft_int _) (Nat.le_of_ble_eq_true rfl) (hp_1_13 _) ?_
  refine aw_aload_n (pc := 154) d_S_takeFrom_154 rfl rfl ?_
  refine aw_aload_n (pc := 155) d_S_takeFrom_155 rfl rfl ?_
  refine aw_get (pc := 156) d_S_takeFrom_156 lf_S_55 hg_8 rfl ?_
  refine aw_put (pc := 159) d_S_takeFrom_159 lp_S_55 hg_1 (ft_int _) (Nat.le_of_ble_eq_true rfl) (hp_1_14 _) ?_
  refine aw_aload_n (pc := 162) d_S_takeFrom_162 rfl rfl ?_
  refine aw_aload_n (pc := 163) d_S_takeFrom_163 rfl rfl ?_
  refine aw_get (pc := 164) d_S_takeFrom_164 lf_S_58 hg_8 rfl ?_
  refine aw_put (pc := 167) d_S_takeFrom_167 lp_S_58 hg_1 (ft_int _) (Nat.le_of_ble_eq_true rfl) (hp_1_15 _) ?_
  refine aw_vret (pc := 170) d_S_takeFrom_170 rfl ?_
  refine ⟨rfl, _, _, rfl, ⟨⟨a1, a2, a3, a4, a5, a6⟩, b⟩, ?_, ?_⟩
  · exact frA_t (frA_t (frA_t (frA_t (frA_t (frA_u _ _ _ (by decide)) (frA_u _ _ _ (by decide))) (frA_u _ _ _ (by decide))) (frA_u _ _ _ (by decide))) (frA_u _ _ _ (by decide))) (frA_u _ _ _ (by decide))
  · exact frI_t (frI_t (frI_t (frI_t (frI_t (frI_t (frI_t (frI_t (frI_t (frI_u _ _ _ _ (by decide)) (frI_u _ _ _ _ (by decide))) (frI_u _ _ _ _ (by decide))) (frI_u _ _ _ _ (by decide))) (frI_u _ _ _ _ (by decide))) (frI_u _ _ _ _ (by decide))) (frI_u _ _ _ _ (by decide))) (frI_u _ _ _ _ (by decide))) (frI_u _ _ _ _ (by decide))) (frI_u _ _ _ _ (by decide))
set_option maxHeartbeats 1000000 in
set_option maxRecDepth 20000 in
theorem c_S_takeFrom_1_15 (hE : enS A I 15 T) (hE0 : enS A I 1 T0) : AM m_S_takeFrom r_S_takeFrom (HH A I J U) [.ref 1, .ref 15] (pS A I J U 1 T) := by
  refine am_of (by decide) rfl (by first | decide | exact Nat.le_of_ble_eq_true rfl) ?_
  obtain ⟨⟨a1, a2, a3, a4, a5, a6⟩, b⟩ := hE
  obtain ⟨⟨c1, c2, c3, c4, c5, c6⟩, -⟩ := hE0
  refine aw_aload_n (pc := 0) d_S_takeFrom_0 rfl rfl ?_
  refine aw_get (pc := 1) d_S_takeFrom_1 lf_S_9 hg_15 rfl ?_
  refine aw_iconst (pc := 4) (v := 0) d_S_takeFrom_4 (by decide) ?_
  refine aw_aload_n (pc := 5) d_S_takeFrom_5 rfl rfl ?_
  refine aw_get (pc := 6) d_S_takeFrom_6 lf_S_9 hg_1 rfl ?_
  refine aw_iconst (pc := 9) (v := 0) d_S_takeFrom_9 (by decide) ?_
  refine aw_bipush (pc := 10) (v := 12) d_S_takeFrom_10 (by decide) ?_
  refine aw_copy (pc := 12) (n0 := 12) d_S_takeFrom_12 lm_S_61 ws_Y_arraycopy wx_native wn_Y hg_16 hg_2 (by rw [a1]; exact lst_len _ _) (by rw [c1]; exact lst_len _ _) rfl (by decide) (by decide) (Nat.le_of_ble_eq_true rfl) (hs_2 _) ?_
  refine aw_aload_n (pc := 15) d_S_takeFrom_15 rfl rfl ?_
  refine aw_get (pc := 16) d_S_takeFrom_16 lf_S_15 hg_15 rfl ?_
  refine aw_iconst (pc := 19) (v := 0) d_S_takeFrom_19 (by decide) ?_
  refine aw_aload_n (pc := 20) d_S_takeFrom_20 rfl rfl ?_
  refine aw_get (pc := 21) d_S_takeFrom_21 lf_S_15 hg_1 rfl ?_
  refine aw_iconst (pc := 24) (v := 0) d_S_takeFrom_24 (by decide) ?_
  refine aw_bipush (pc := 25) (v := 11) d_S_takeFrom_25 (by decide) ?_
  refine aw_copy (pc := 27) (n0 := 11) d_S_takeFrom_27 lm_S_61 ws_Y_arraycopy wx_native wn_Y hg_17 hg_3 (show (A (15 + 2)).length = 11 by rw [a2]; exact lst_len _ _) (show (A (1 + 2)).length = 11 by rw [c2]; exact lst_len _ _) rfl (by decide) (by decide) (Nat.le_of_ble_eq_true rfl) (hs_3 _) ?_
  refine aw_aload_n (pc := 30) d_S_takeFrom_30 rfl rfl ?_
  refine aw_get (pc := 31) d_S_takeFrom_31 lf_S_18 hg_15 rfl ?_
  refine aw_iconst (pc := 34) (v := 0) d_S_takeFrom_34 (by decide) ?_
  refine aw_aload_n (pc := 35) d_S_takeFrom_35 rfl rfl ?_
  refine aw_get (pc := 36) d_S_takeFrom_36 lf_S_18 hg_1 rfl ?_
  refine aw_iconst (pc := 39) (v := 0) d_S_takeFrom_39 (by decide) ?_
  refine aw_bipush (pc := 40) (v := 6) d_S_takeFrom_40 (by decide) ?_
  refine aw_copy (pc := 42) (n0 := 6) d_S_takeFrom_42 lm_S_61 ws_Y_arraycopy wx_native wn_Y hg_18 hg_4 (show (A (15 + 3)).length = 6 by rw [a3]; exact lst_len _ _) (show (A (1 + 3)).length = 6 by rw [c3]; exact lst_len _ _) rfl (by decide) (by decide) (Nat.le_of_ble_eq_true rfl) (hs_4 _) ?_
  refine aw_aload_n (pc := 45) d_S_takeFrom_45 rfl rfl ?_
  refine aw_get (pc := 46) d_S_takeFrom_46 lf_S_21 hg_15 rfl ?_
  refine aw_iconst (pc := 49) (v := 0) d_S_takeFrom_49 (by decide) ?_
  refine aw_aload_n (pc := 50) d_S_takeFrom_50 rfl rfl ?_
  refine aw_get (pc := 51) d_S_takeFrom_51 lf_S_21 hg_1 rfl ?_
  refine aw_iconst (pc := 54) (v := 0) d_S_takeFrom_54 (by decide) ?_
  refine aw_bipush (pc := 55) (v := 6) d_S_takeFrom_55 (by decide) ?_
  refine aw_copy (pc := 57) (n0 := 6) d_S_takeFrom_57 lm_S_61 ws_Y_arraycopy wx_native wn_Y hg_19 hg_5 (show (A (15 + 4)).length = 6 by rw [a4]; exact lst_len _ _) (show (A (1 + 4)).length = 6 by rw [c4]; exact lst_len _ _) rfl (by decide) (by decide) (Nat.le_of_ble_eq_true rfl) (hs_5 _) ?_
  refine aw_aload_n (pc := 60) d_S_takeFrom_60 rfl rfl ?_
  refine aw_get (pc := 61) d_S_takeFrom_61 lf_S_24 hg_15 rfl ?_
  refine aw_iconst (pc := 64) (v := 0) d_S_takeFrom_64 (by decide) ?_
  refine aw_aload_n (pc := 65) d_S_takeFrom_65 rfl rfl ?_
  refine aw_get (pc := 66) d_S_takeFrom_66 lf_S_24 hg_1 rfl ?_
  refine aw_iconst (pc := 69) (v := 0) d_S_takeFrom_69 (by decide) ?_
  refine aw_bipush (pc := 70) (v := 6) d_S_takeFrom_70 (by decide) ?_
  refine aw_copy (pc := 72) (n0 := 6) d_S_takeFrom_72 lm_S_61 ws_Y_arraycopy wx_native wn_Y hg_20 hg_6 (show (A (15 + 5)).length = 6 by rw [a5]; exact lst_len _ _) (show (A (1 + 5)).length = 6 by rw [c5]; exact lst_len _ _) rfl (by decide) (by decide) (Nat.le_of_ble_eq_true rfl) (hs_6 _) ?_
  refine aw_aload_n (pc := 75) d_S_takeFrom_75 rfl rfl ?_
  refine aw_get (pc := 76) d_S_takeFrom_76 lf_S_27 hg_15 rfl ?_
  refine aw_iconst (pc := 79) (v := 0) d_S_takeFrom_79 (by decide) ?_
  refine aw_aload_n (pc := 80) d_S_takeFrom_80 rfl rfl ?_
  refine aw_get (pc := 81) d_S_takeFrom_81 lf_S_27 hg_1 rfl ?_
  refine aw_iconst (pc := 84) (v := 0) d_S_takeFrom_84 (by decide) ?_
  refine aw_bipush (pc := 85) (v := 6) d_S_takeFrom_85 (by decide) ?_
  refine aw_copy (pc := 87) (n0 := 6) d_S_takeFrom_87 lm_S_61 ws_Y_arraycopy wx_native wn_Y hg_21 hg_7 (show (A (15 + 6)).length = 6 by rw [a6]; exact lst_len _ _) (show (A (1 + 6)).length = 6 by rw [c6]; exact lst_len _ _) rfl (by decide) (by decide) (Nat.le_of_ble_eq_true rfl) (hs_7 _) ?_
  refine aw_aload_n (pc := 90) d_S_takeFrom_90 rfl rfl ?_
  refine aw_aload_n (pc := 91) d_S_takeFrom_91 rfl rfl ?_
  refine aw_get (pc := 92) d_S_takeFrom_92 lf_S_30 hg_15 rfl ?_
  refine aw_put (pc := 95) d_S_takeFrom_95 lp_S_30 hg_1 (ft_int _) (Nat.le_of_ble_eq_true rfl) (hp_1_6 _) ?_
  refine aw_aload_n (pc := 98) d_S_takeFrom_98 rfl rfl ?_
  refine aw_aload_n (pc := 99) d_S_takeFrom_99 rfl rfl ?_
  refine aw_get (pc := 100) d_S_takeFrom_100 lf_S_34 hg_15 rfl ?_
  refine aw_put (pc := 103) d_S_takeFrom_103 lp_S_34 hg_1 (ft_int _) (Nat.le_of_ble_eq_true rfl) (hp_1_7 _) ?_
  refine aw_aload_n (pc := 106) d_S_takeFrom_106 rfl rfl ?_
  refine aw_aload_n (pc := 107) d_S_takeFrom_107 rfl rfl ?_
  refine aw_get (pc := 108) d_S_takeFrom_108 lf_S_37 hg_15 rfl ?_
  refine aw_put (pc := 111) d_S_takeFrom_111 lp_S_37 hg_1 (ft_int _) (Nat.le_of_ble_eq_true rfl) (hp_1_8 _) ?_
  refine aw_aload_n (pc := 114) d_S_takeFrom_114 rfl rfl ?_
  refine aw_aload_n (pc := 115) d_S_takeFrom_115 rfl rfl ?_
  refine aw_get (pc := 116) d_S_takeFrom_116 lf_S_40 hg_15 rfl ?_
  refine aw_put (pc := 119) d_S_takeFrom_119 lp_S_40 hg_1 (ft_int _) (Nat.le_of_ble_eq_true rfl) (hp_1_9 _) ?_
  refine aw_aload_n (pc := 122) d_S_takeFrom_122 rfl rfl ?_
  refine aw_aload_n (pc := 123) d_S_takeFrom_123 rfl rfl ?_
  refine aw_get (pc := 124) d_S_takeFrom_124 lf_S_43 hg_15 rfl ?_
  refine aw_put (pc := 127) d_S_takeFrom_127 lp_S_43 hg_1 (ft_int _) (Nat.le_of_ble_eq_true rfl) (hp_1_10 _) ?_
  refine aw_aload_n (pc := 130) d_S_takeFrom_130 rfl rfl ?_
  refine aw_aload_n (pc := 131) d_S_takeFrom_131 rfl rfl ?_
  refine aw_get (pc := 132) d_S_takeFrom_132 lf_S_46 hg_15 rfl ?_
  refine aw_put (pc := 135) d_S_takeFrom_135 lp_S_46 hg_1 (ft_int _) (Nat.le_of_ble_eq_true rfl) (hp_1_11 _) ?_
  refine aw_aload_n (pc := 138) d_S_takeFrom_138 rfl rfl ?_
  refine aw_aload_n (pc := 139) d_S_takeFrom_139 rfl rfl ?_
  refine aw_get (pc := 140) d_S_takeFrom_140 lf_S_49 hg_15 rfl ?_
  refine aw_put (pc := 143) d_S_takeFrom_143 lp_S_49 hg_1 (ft_int _) (Nat.le_of_ble_eq_true rfl) (hp_1_12 _) ?_
  refine aw_aload_n (pc := 146) d_S_takeFrom_146 rfl rfl ?_
  refine aw_aload_n (pc := 147) d_S_takeFrom_147 rfl rfl ?_
  refine aw_get (pc := 148) d_S_takeFrom_148 lf_S_52 hg_15 rfl ?_
  refine aw_put (pc := 151) d_S_takeFrom_151 lp_S_52 hg_1 (ft_int _) (Nat.le_of_ble_eq_true rfl) (hp_1_13 _) ?_
  refine aw_aload_n (pc := 154) d_S_takeFrom_154 rfl rfl ?_
  refine aw_aload_n (pc := 155) d_S_takeFrom_155 rfl rfl ?_
  refine aw_get (pc := 156) d_S_takeFrom_156 lf_S_55 hg_15 rfl ?_
  refine aw_put (pc := 159) d_S_takeFrom_159 lp_S_55 hg_1 (ft_int _) (Nat.le_of_ble_eq_true rfl) (hp_1_14 _) ?_
  refine aw_aload_n (pc := 162) d_S_takeFrom_162 rfl rfl ?_
  refine aw_aload_n (pc := 163) d_S_takeFrom_163 rfl rfl ?_
  refine aw_get (pc := 164) d_S_takeFrom_164 lf_S_58 hg_15 rfl ?_
  refine aw_put (pc := 167) d_S_takeFrom_167 lp_S_58 hg_1 (ft_int _) (Nat.le_of_ble_eq_true rfl) (hp_1_15 _) ?_
  refine aw_vret (pc := 170) d_S_takeFrom_170 rfl ?_
  refine ⟨rfl, _, _, rfl, ⟨⟨a1, a2, a3, a4, a5, a6⟩, b⟩, ?_, ?_⟩
  · exact frA_t (frA_t (frA_t (frA_t (frA_t (frA_u _ _ _ (by decide)) (frA_u _ _ _ (by decide))) (frA_u _ _ _ (by decide))) (frA_u _ _ _ (by decide))) (frA_u _ _ _ (by decide))) (frA_u _ _ _ (by decide))
  · exact frI_t (frI_t (frI_t (frI_t (frI_t (frI_t (frI_t (frI_t (frI_t (frI_u _ _ _ _ (by decide)) (frI_u _ _ _ _ (by decide))) (frI_u _ _ _ _ (by decide))) (frI_u _ _ _ _ (by decide))) (frI_u _ _ _ _ (by decide))) (frI_u _ _ _ _ (by decide))) (frI_u _ _ _ _ (by decide))) (frI_u _ _ _ _ (by decide))) (frI_u _ _ _ _ (by decide))) (frI_u _ _ _ _ (by decide))
/-- why an act can not be: kinds 0 goes, 1 reads, 2 window, 3 evening -/
def wy (T : town) (k n : Nat) : Nat := if k = 0 ∧ T 6 5 = n then 1 else if k = 1 ∧ (T 6 2).testBit n = true then 2 else if k = 3 ∧ 99 ≤ T 6 6 then 3 else 0
def rdF (T : town) (l h : Nat) : Nat := if he T (T 6 5) (T 6 0) h = true then (T 0 h ||| T 3 l) ||| (if (T 5 l).testBit h = true then T 4 l else 0) else T 0 h
def rdT (T : town) (l : Nat) : town := u2 (u1 T 0 (rdF T l)) 6 2 (T 6 2 ||| 2 ^ l)
def evF (T : town) (h : Nat) : Nat := if (T 6 1).testBit h = true then T 0 h else (T 0 h ||| (if 0 < h ∧ T 1 (h - 1) ≤ 4 then T 0 (h - 1) else 0)) ||| (if h < 11 ∧ T 1 h ≤ 4 then T 0 (h + 1) else 0)
def evT (T : town) : town := u2 (u1 T 0 (evF T)) 6 6 (T 6 6 + 1)
def goT (T : town) (n : Nat) : town := u2 T 6 5 n
def opT (T : town) (n : Nat) : town := u2 T 6 0 (T 6 0 ^^^ 2 ^ n)
def acT (T : town) (k n : Nat) : town := if k = 0 then goT T n else if k = 1 then rdT T n else if k = 2 then opT T n else evT T
set_option maxHeartbeats 1000000 in
set_option maxRecDepth 20000 in
theorem c_S_whyNot (hT : okT T) (hE : enS A I 22 T) {k n : Nat} (hk : k < 4) (hn : n < 12) : AD m_S_whyNot r_S_whyNot (HH A I J U) [.ref 22, .int (nI k), .int (nI n)] (some (.int (nI (wy T k n)))) (HH A I J U) := by
  refine am_of (by decide) rfl (by first | decide | exact Nat.le_of_ble_eq_true rfl) ?_
  obtain ⟨-, -, -, b8, -, -, b11, b12, -⟩ := hE
  have hrd := hT.2.2.2.2.2.1
  have hpl := hT.2.2.2.2.2.2.2.2.1
  have hda := hT.2.2.2.2.2.2.2.2.2.1
  have key32 : ¬ (k = 0 ∧ T 6 5 = n) → ¬ (k = 1 ∧ (T 6 2).testBit n = true) → AW m_S_whyNot r_S_whyNot ax_E0 (ax_Zm (fun q1 q2 => q1 = some (.int (nI (wy T k n))) ∧ q2 = HH A I J U) 0 0) (HH A I J U) 0 0 32 [(0, .ref 22), (1, .int (nI k)), (2, .int (nI n))] [] := by
    intro n1 n2
    refine aw_iload_n (pc := 32) d_S_whyNot_32 rfl rfl ?_
    refine aw_iconst (pc := 33) (v := 3) d_S_whyNot_33 (by decide) ?_
    refine awn_ne (pc := 34) (tgt := 48) (k) (3) d_S_whyNot_34 (by decide) rfl rfl (by omega) (by omega) (fun h34 => ?_) (fun h34 => ?_)
    · refine aw_iconst (pc := 48) (v := 0) d_S_whyNot_48 (by decide) ?_
      refine aw_iret (pc := 49) d_S_whyNot_49 rfl ?_
      exact ⟨by unfold wy; rw [if_neg n1, if_neg n2, if_neg (fun z => h34 z.1)]; rfl, rfl⟩
    · refine aw_aload_n (pc := 37) d_S_whyNot_37 rfl rfl ?_
      refine aw_geti (pc := 38) (y := (nI (T 6 6))) d_S_whyNot_38 lf_S_49 hg_22 rfl b12 ?_
      refine aw_bipush (pc := 41) (v := 99) d_S_whyNot_41 (by decide) ?_
      refine awn_lt (pc := 43) (tgt := 48) (T 6 6) (99) d_S_whyNot_43 (by decide) rfl rfl (by omega) (by omega) (fun h43 => ?_) (fun h43 => ?_)
      · refine aw_iconst (pc := 48) (v := 0) d_S_whyNot_48 (by decide) ?_
        refine aw_iret (pc := 49) d_S_whyNot_49 rfl ?_
        exact ⟨by unfold wy; rw [if_neg n1, if_neg n2, if_neg (fun z => absurd z.2 (by omega))]; rfl, rfl⟩
      · refine aw_iconst (pc := 46) (v := 3) d_S_whyNot_46 (by decide) ?_
        refine aw_iret (pc := 47) d_S_whyNot_47 rfl ?_
        exact ⟨by unfold wy; rw [if_neg n1, if_neg n2, if_pos ⟨h34, h43⟩]; rfl, rfl⟩
  have key14 : ¬ (k = 0 ∧ T 6 5 = n) → AW m_S_whyNot r_S_whyNot ax_E0 (ax_Zm (fun q1 q2 => q1 = some (.int (nI (wy T k n))) ∧ q2 = HH A I J U) 0 0) (HH A I J U) 0 0 14 [(0, .ref 22), (1, .int (nI k)), (2, .int (nI n))] [] := by
    intro n1
    refine aw_iload_n (pc := 14) d_S_whyNot_14 rfl rfl ?_
    refine aw_iconst (pc := 15) (v := 1) d_S_whyNot_15 (by decide) ?_
    refine awn_ne (pc := 16) (tgt := 32) (k) (1) d_S_whyNot_16 (by decide) rfl rfl (by omega) (by omega) (fun h16 => ?_) (fun h16 => ?_)
    · exact key32 n1 (fun z => h16 z.1)
    · refine aw_aload_n (pc := 19) d_S_whyNot_19 rfl rfl ?_
      refine aw_geti (pc := 20) (y := (nI (T 6 2))) d_S_whyNot_20 lf_S_37 hg_22 rfl b8 ?_
      refine aw_iload_n (pc := 23) d_S_whyNot_23 rfl rfl ?_
      refine aw_callT1 (pc := 24) (c_V_hasBit _ _ _) ok_V_hasBit d_S_whyNot_24 ln_S_76 rfl rfl ⟨by decide, by decide⟩ (Nat.le_of_ble_eq_true rfl) rfl rfl ⟨by decide, by decide⟩ ?_
      refine aw_bz (pc := 27) (tgt := 32) d_S_whyNot_27 (by decide) (fun h27 => ?_) (fun h27 => ?_)
      · exact key32 n1 (fun z => h27 ((hb_nI (by omega) (by omega)).mpr z.2))
      · refine aw_iconst (pc := 30) (v := 2) d_S_whyNot_30 (by decide) ?_
        refine aw_iret (pc := 31) d_S_whyNot_31 rfl ?_
        exact ⟨by unfold wy; rw [if_neg n1, if_pos ⟨h16, (hb_nI (by omega) (by omega)).mp h27⟩]; rfl, rfl⟩
  refine aw_iload_n (pc := 0) d_S_whyNot_0 rfl rfl ?_
  refine aw_if_ne (pc := 1) (tgt := 14) d_S_whyNot_1 (by decide) (fun h1 => ?_) (fun h1 => ?_)
  · exact key14 (fun z => h1 (by rw [z.1]; rfl))
  · have h1 : k = 0 := (nI_eq (by omega) (by omega)).mp h1
    refine aw_aload_n (pc := 4) d_S_whyNot_4 rfl rfl ?_
    refine aw_geti (pc := 5) (y := (nI (T 6 5))) d_S_whyNot_5 lf_S_46 hg_22 rfl b11 ?_
    refine aw_iload_n (pc := 8) d_S_whyNot_8 rfl rfl ?_
    refine awn_ne (pc := 9) (tgt := 14) (T 6 5) (n) d_S_whyNot_9 (by decide) rfl rfl (by omega) (by omega) (fun h9 => ?_) (fun h9 => ?_)
    · exact key14 (fun z => h9 z.2)
    · refine aw_iconst (pc := 12) (v := 1) d_S_whyNot_12 (by decide) ?_
      refine aw_iret (pc := 13) d_S_whyNot_13 rfl ?_
      exact ⟨by unfold wy; rw [if_pos ⟨h1, h9⟩]; rfl, rfl⟩
theorem f8 {a b : Nat} (ha : a < 256) (hb : b < 256) : a ||| b < 256 := Nat.or_lt_two_pow (n := 8) ha hb
theorem rdF_lt (hT : okT T) {l h : Nat} (hl : l < 6) (hh : h < 12) : rdF T l h < 256 := by
  unfold rdF
  have h1 := hT.1 h hh
  have h2 := hT.2.2.1 l hl
  by_cases h3 : he T (T 6 5) (T 6 0) h = true
  · rw [if_pos h3]
    refine f8 (f8 h1 h2.2.1) ?_
    by_cases h4 : (T 5 l).testBit h = true
    · rw [if_pos h4]; exact h2.2.2.1
    · rw [if_neg h4]; omega
  · rw [if_neg h3]; exact h1
theorem evF_lt (hT : okT T) {h : Nat} (hh : h < 12) : evF T h < 256 := by
  unfold evF
  have h1 := hT.1 h hh
  by_cases h3 : (T 6 1).testBit h = true
  · rw [if_pos h3]; exact h1
  · rw [if_neg h3]
    refine f8 (f8 h1 ?_) ?_
    · by_cases h4 : 0 < h ∧ T 1 (h - 1) ≤ 4
      · rw [if_pos h4]; exact hT.1 (h - 1) (by omega)
      · rw [if_neg h4]; omega
    · by_cases h4 : h < 11 ∧ T 1 h ≤ 4
      · rw [if_pos h4]; exact hT.1 (h + 1) (by omega)
      · rw [if_neg h4]; omega
theorem ok_rd (hT : okT T) {l : Nat} (hl : l < 6) : okT (rdT T l) := by
  obtain ⟨h0, h1, h2, h3, h4, h5, h6⟩ := hT
  exact ⟨fun j hj => rdF_lt ⟨h0, h1, h2, h3, h4, h5, h6⟩ hl hj, h1, h2, h3, h4, Nat.or_lt_two_pow (n := 6) h5 (Nat.pow_lt_pow_right (by decide) hl), h6⟩
theorem ok_ev (hT : okT T) (hd : T 6 6 < 99) : okT (evT T) := by
  obtain ⟨h0, h1, h2, h3, h4, h5, h6, h7, h8, h9, h10⟩ := hT
  exact ⟨fun j hj => evF_lt ⟨h0, h1, h2, h3, h4, h5, h6, h7, h8, h9, h10⟩ hj, h1, h2, h3, h4, h5, h6, h7, h8, (show T 6 6 + 1 ≤ 99 by omega), h10⟩
theorem ok_go (hT : okT T) {n : Nat} (hn : n < 12) : okT (goT T n) := by
  obtain ⟨h0, h1, h2, h3, h4, h5, h6, h7, h8, h9⟩ := hT
  exact ⟨h0, h1, h2, h3, h4, h5, h6, h7, hn, h9⟩
theorem ok_op (hT : okT T) {n : Nat} (hn : n < 12) : okT (opT T n) := by
  obtain ⟨h0, h1, h2, h3, h4⟩ := hT
  exact ⟨h0, h1, h2, Nat.xor_lt_two_pow (n := 12) h3 (Nat.pow_lt_pow_right (by decide) hn), h4⟩
set_option maxHeartbeats 1000000 in
set_option maxRecDepth 20000 in
theorem c_S_readOut (hT : okT T) (hE : enS A I 22 T) {l : Nat} (hl : l < 6) : AM m_S_readOut r_S_readOut (HH A I J U) [.ref 22, .int (nI l)] (pS A I J U 22 (rdT T l)) := by
  refine am_of (by decide) rfl (by first | decide | exact Nat.le_of_ble_eq_true rfl) ?_
  have hEh := hE.h
  obtain ⟨⟨a1, a2, a3, a4, a5, a6⟩, b6, b7, b8, b9, b10, b11, b12, b13, b14, b15⟩ := hE
  have hop := hT.2.2.2.1
  have hrd := hT.2.2.2.2.2.1
  have hpl := hT.2.2.2.2.2.2.2.2.1
  have hlt := hT.2.2.1 l hl
  refine aw_aload_n (pc := 0) d_S_readOut_0 rfl rfl ?_
  refine aw_aload_n (pc := 1) d_S_readOut_1 rfl rfl ?_
  refine aw_geti (pc := 2) (y := (nI (T 6 5))) d_S_readOut_2 lf_S_46 hg_22 rfl b11 ?_
  refine aw_aload_n (pc := 5) d_S_readOut_5 rfl rfl ?_
  refine aw_geti (pc := 6) (y := (nI (T 6 0))) d_S_readOut_6 lf_S_30 hg_22 rfl b6 ?_
  refine aw_callV1 (pc := 9) (c_S_hearers_22 hT hEh hpl hop) ok_S_hearers d_S_readOut_9 lm_S_87 hg_22 rfl rfl ⟨by decide, by decide⟩ (Nat.le_of_ble_eq_true rfl) rfl rfl ⟨by decide, by decide⟩ ?_
  refine aw_istore_n (pc := 12) (ls' := [(0, _), (1, _), (2, _)]) d_S_readOut_12 rfl (by decide) rfl ?_
  refine aw_iconst (pc := 13) (v := 0) d_S_readOut_13 (by decide) ?_
  refine aw_istore_n (pc := 14) (ls' := [(0, _), (1, _), (2, _), (3, _)]) d_S_readOut_14 rfl (by decide) rfl ?_
  refine aw_eq (h' := HH (u1 A 23 (lst 12 (T 0))) I J U) ?_ (by rw [u1_self a1]) rfl rfl
  refine lp_i (fun i F => AW m_S_readOut r_S_readOut ax_E0 (ax_Zm (pS A I J U 22 (rdT T l)) 0 0) (HH (u1 A 23 (lst 12 F)) I J U) 0 0 15 [(0, .ref 22), (1, .int (nI l)), (2, .int (nI (HS T (T 6 5) (T 6 0)))), (3, .int (nI i))] []) (fun i F => ∀ h, h < 12 → F h = if h < i then rdF T l h else T 0 h) 12 ?_ ?_ 12 0 (T 0) (by omega) (fun h hh => by rw [if_neg (by omega)])
  · intro F hV
    refine aw_iload_n (pc := 15) d_S_readOut_15 rfl rfl ?_
    refine aw_bipush (pc := 16) (v := 12) d_S_readOut_16 (by decide) ?_
    refine awn_ge (pc := 18) (tgt := 81) (12) (12) d_S_readOut_18 (by decide) rfl rfl (by omega) (by omega) (fun _ => ?_) (fun hh => absurd hh (by omega))
    refine aw_aload_n (pc := 81) d_S_readOut_81 rfl rfl ?_
    refine aw_dup (pc := 82) d_S_readOut_82 rfl ?_
    refine aw_geti (pc := 83) (y := (nI (T 6 2))) d_S_readOut_83 lf_S_37 hg_22 rfl b8 ?_
    refine aw_iconst (pc := 86) (v := 1) d_S_readOut_86 (by decide) ?_
    refine aw_iload_n (pc := 87) d_S_readOut_87 rfl rfl ?_
    refine aw_ishl (pc := 88) d_S_readOut_88 ?_
    refine aw_ior (pc := 89) d_S_readOut_89 ?_
    refine aw_top (or_bit (by omega)) ?_
    refine aw_put (pc := 90) d_S_readOut_90 lp_S_37 hg_22 (ft_int _) (Nat.le_of_ble_eq_true rfl) (hp_22_8 _) ?_
    refine aw_vret (pc := 93) d_S_readOut_93 rfl ?_
    refine ⟨rfl, _, _, rfl, ⟨⟨?_, a2, a3, a4, a5, a6⟩, b6, b7, rfl, b9, b10, b11, b12, b13, b14, b15⟩, frA_u _ _ _ (by decide), frI_u _ _ _ _ (by decide)⟩
    exact lst_cong (fun h hh => by rw [hV h hh, if_pos hh]; rfl)
  · intro i F hi hV ih
    have hbi := HS_bit T (T 6 5) (T 6 0) hi
    have hHl := HS_lt T (T 6 5) (T 6 0)
    have hFi : F i = T 0 i := by rw [hV i hi, if_neg (by omega)]
    have fin : ∀ G : Nat → Nat, (∀ h, h < 12 → G h = if h = i then rdF T l i else F h) → ∀ h, h < 12 → G h = if h < i + 1 then rdF T l h else T 0 h := by
      intro G hG h hh
      rw [hG h hh]
      by_cases e : h = i
      · subst e; rw [if_pos rfl, if_pos (by omega)]
      · rw [if_neg e, hV h hh]
        by_cases e2 : h < i
        · rw [if_pos e2, if_pos (by omega)]
        · rw [if_neg e2, if_neg (by omega)]
    refine aw_iload_n (pc := 15) d_S_readOut_15 rfl rfl ?_
    refine aw_bipush (pc := 16) (v := 12) d_S_readOut_16 (by decide) ?_
    refine awn_ge (pc := 18) (tgt := 81) (i) (12) d_S_readOut_18 (by decide) rfl rfl (by omega) (by omega) (fun hh => absurd hh (by omega)) (fun _ => ?_)
    refine aw_iload_n (pc := 21) d_S_readOut_21 rfl rfl ?_
    refine aw_iload_n (pc := 22) d_S_readOut_22 rfl rfl ?_
    refine aw_callT1 (pc := 23) (c_V_hasBit _ _ _) ok_V_hasBit d_S_readOut_23 ln_S_76 rfl rfl ⟨by decide, by decide⟩ (Nat.le_of_ble_eq_true rfl) rfl rfl ⟨by decide, by decide⟩ ?_
    refine aw_bn (pc := 26) (tgt := 32) d_S_readOut_26 (by decide) (fun h26 => ?_) (fun h26 => ?_)
    · have h26 := (hb_nI (by omega) (by omega)).mp h26
      rw [hbi] at h26
      refine aw_aload_n (pc := 32) d_S_readOut_32 rfl rfl ?_
      refine aw_get (pc := 33) d_S_readOut_33 lf_S_9 hg_22 rfl ?_
      refine aw_iload_n (pc := 36) d_S_readOut_36 rfl rfl ?_
      refine aw_dup2 (pc := 37) d_S_readOut_37 rfl rfl ?_
      refine aw_ildN (pc := 38) (j := i) d_S_readOut_38 hg_23 rfl rfl hi (by decide) ?_
      refine aw_aload_n (pc := 39) d_S_readOut_39 rfl rfl ?_
      refine aw_get (pc := 40) d_S_readOut_40 lf_S_21 hg_22 rfl ?_
      refine aw_iload_n (pc := 43) d_S_readOut_43 rfl rfl ?_
      refine aw_ildN (pc := 44) (j := l) d_S_readOut_44 hg_26 a4 rfl hl (by decide) ?_
      refine aw_ior (pc := 45) d_S_readOut_45 ?_
      refine aw_top (fa_or _ _) ?_
      refine aw_istN (pc := 46) (j := i) (v := _) d_S_readOut_46 hg_23 rfl rfl rfl hi (by decide) (hs_23 _) ?_
      refine aw_aload_n (pc := 47) d_S_readOut_47 rfl rfl ?_
      refine aw_get (pc := 48) d_S_readOut_48 lf_S_27 hg_22 rfl ?_
      refine aw_iload_n (pc := 51) d_S_readOut_51 rfl rfl ?_
      refine aw_ildN (pc := 52) (j := l) d_S_readOut_52 hg_28 a6 rfl hl (by decide) ?_
      refine aw_iload_n (pc := 53) d_S_readOut_53 rfl rfl ?_
      refine aw_callT1 (pc := 54) (c_V_hasBit _ _ _) ok_V_hasBit d_S_readOut_54 ln_S_76 rfl rfl ⟨by decide, by decide⟩ (Nat.le_of_ble_eq_true rfl) rfl rfl ⟨by decide, by decide⟩ ?_
      refine aw_bz (pc := 57) (tgt := 75) d_S_readOut_57 (by decide) (fun h57 => ?_) (fun h57 => ?_)
      · have h57 : ¬ (T 5 l).testBit i = true := fun z => h57 ((hb_nI (by omega) (by omega)).mpr z)
        refine aw_incN (pc := 75) (ls' := [(0, _), (1, _), (2, _), (3, _)]) (i := i) d_S_readOut_75 rfl rfl (by decide) rfl ?_
        refine aw_goto (pc := 78) (tgt := 15) d_S_readOut_78 (by decide) ?_
        refine aw_eq (ih _ (fin (up F i (F i ||| T 3 l)) (fun h hh => ?_))) (by rw [u1_u1]) rfl rfl
        by_cases e : h = i
        · subst e; rw [up_s, if_pos rfl]; unfold rdF; rw [if_pos h26, if_neg h57, hFi, Nat.or_zero]
        · rw [up_n _ _ e, if_neg e]
      · have h57 := (hb_nI (by omega) (by omega)).mp h57
        refine aw_aload_n (pc := 60) d_S_readOut_60 rfl rfl ?_
        refine aw_get (pc := 61) d_S_readOut_61 lf_S_9 hg_22 rfl ?_
        refine aw_iload_n (pc := 64) d_S_readOut_64 rfl rfl ?_
        refine aw_dup2 (pc := 65) d_S_readOut_65 rfl rfl ?_
        refine aw_ildN (pc := 66) (j := i) d_S_readOut_66 hg_23 rfl rfl hi (by decide) ?_
        refine aw_aload_n (pc := 67) d_S_readOut_67 rfl rfl ?_
        refine aw_get (pc := 68) d_S_readOut_68 lf_S_24 hg_22 rfl ?_
        refine aw_iload_n (pc := 71) d_S_readOut_71 rfl rfl ?_
        refine aw_ildN (pc := 72) (j := l) d_S_readOut_72 hg_27 a5 rfl hl (by decide) ?_
        refine aw_ior (pc := 73) d_S_readOut_73 ?_
        refine aw_top (fa_or _ _) ?_
        refine aw_istN (pc := 74) (j := i) (v := _) d_S_readOut_74 hg_23 rfl rfl rfl hi (by decide) (hs_23 _) ?_
        refine aw_incN (pc := 75) (ls' := [(0, _), (1, _), (2, _), (3, _)]) (i := i) d_S_readOut_75 rfl rfl (by decide) rfl ?_
        refine aw_goto (pc := 78) (tgt := 15) d_S_readOut_78 (by decide) ?_
        refine aw_eq (ih _ (fin (up (up F i (F i ||| T 3 l)) i (up F i (F i ||| T 3 l) i ||| T 4 l)) (fun h hh => ?_))) (by rw [u1_u1, u1_u1]) rfl rfl
        by_cases e : h = i
        · subst e; rw [up_s, up_s, if_pos rfl]; unfold rdF; rw [if_pos h26, if_pos h57, hFi]
        · rw [up_n _ _ e, up_n _ _ e, if_neg e]
    · have h26 : ¬ he T (T 6 5) (T 6 0) i = true := fun z => h26 ((hb_nI (by omega) (by omega)).mpr (by rw [hbi]; exact z))
      refine aw_goto (pc := 29) (tgt := 75) d_S_readOut_29 (by decide) ?_
      refine aw_incN (pc := 75) (ls' := [(0, _), (1, _), (2, _), (3, _)]) (i := i) d_S_readOut_75 rfl rfl (by decide) rfl ?_
      refine aw_goto (pc := 78) (tgt := 15) d_S_readOut_78 (by decide) ?_
      refine ih F (fin F (fun h hh => ?_))
      by_cases e : h = i
      · subst e; rw [if_pos rfl]; unfold rdF; rw [if_neg h26, hFi]
      · rw [if_neg e]
set_option maxHeartbeats 1000000 in
set_option maxRecDepth 20000 in
theorem c_S_tells_22 (hT : okT T) (hE : enH A I 22 T) {j : Nat} (hj : j < 12) : AD m_S_tellsEastward r_S_tellsEastward (HH A I J U) [.ref 22, .int (nI j)] (some (.int (b2 (j < 11 ∧ T 1 j ≤ 4)))) (HH A I J U) := by
  refine am_of (by decide) rfl (by first | decide | exact Nat.le_of_ble_eq_true rfl) ?_
  refine aw_iload_n (pc := 0) d_S_tellsEastward_0 rfl rfl ?_
  refine aw_if_lt (pc := 1) (tgt := 24) d_S_tellsEastward_1 (by decide) (fun hh => absurd hh (nI_pos (by omega))) (fun _ => ?_)
  refine aw_iload_n (pc := 4) d_S_tellsEastward_4 rfl rfl ?_
  refine aw_bipush (pc := 5) (v := 11) d_S_tellsEastward_5 (by decide) ?_
  refine awn_ge (pc := 7) (tgt := 24) (j) (11) d_S_tellsEastward_7 (by decide) rfl rfl (by omega) (by omega) (fun h7 => ?_) (fun h7 => ?_)
  · refine aw_iconst (pc := 24) (v := 0) d_S_tellsEastward_24 (by decide) ?_
    refine aw_zret (pc := 25) d_S_tellsEastward_25 rfl ft_0 ?_
    exact ⟨by rw [b2_0 (fun z => absurd z.1 (by omega))], rfl⟩
  · have hw9 := hT.2.1 j h7
    refine aw_aload_n (pc := 10) d_S_tellsEastward_10 rfl rfl ?_
    refine aw_get (pc := 11) d_S_tellsEastward_11 lf_S_15 hg_22 rfl ?_
    refine aw_iload_n (pc := 14) d_S_tellsEastward_14 rfl rfl ?_
    refine aw_ildN (pc := 15) (j := j) d_S_tellsEastward_15 hg_24 hE.1 rfl h7 (by decide) ?_
    refine aw_iconst (pc := 16) (v := 4) d_S_tellsEastward_16 (by decide) ?_
    refine awn_gt (pc := 17) (tgt := 24) (T 1 j) (4) d_S_tellsEastward_17 (by decide) rfl rfl (by omega) (by omega) (fun h17 => ?_) (fun h17 => ?_)
    · refine aw_iconst (pc := 24) (v := 0) d_S_tellsEastward_24 (by decide) ?_
      refine aw_zret (pc := 25) d_S_tellsEastward_25 rfl ft_0 ?_
      exact ⟨by rw [b2_0 (fun z => absurd z.2 (by omega))], rfl⟩
    · refine aw_iconst (pc := 20) (v := 1) d_S_tellsEastward_20 (by decide) ?_
      refine aw_goto (pc := 21) (tgt := 25) d_S_tellsEastward_21 (by decide) ?_
      refine aw_zret (pc := 25) d_S_tellsEastward_25 rfl ft_1 ?_
      exact ⟨by rw [b2_1 ⟨h7, h17⟩], rfl⟩
set_option maxHeartbeats 1000000 in
set_option maxRecDepth 20000 in
theorem c_S_tells_1 (hT : okT T) (hE : enH A I 1 T) {j : Nat} (hj : j < 12) : AD m_S_tellsEastward r_S_tellsEastward (HH A I J U) [.ref 1, .int (nI j)] (some (.int (b2 (j < 11 ∧ T 1 j ≤ 4)))) (HH A I J U) := by
  refine am_of (by decide) rfl (by first | decide | exact Nat.le_of_ble_eq_true rfl) ?_
  refine aw_iload_n (pc := 0) d_S_tellsEastward_0 rfl rfl ?_
  refine aw_if_lt (pc := 1) (tgt := 24) d_S_tellsEastward_1 (by decide) (fun hh => absurd hh (nI_pos (by omega))) (fun _ => ?_)
  refine aw_iload_n (pc := 4) d_S_tellsEastward_4 rfl rfl ?_
  refine aw_bipush (pc := 5) (v := 11) d_S_tellsEastward_5 (by decide) ?_
  refine awn_ge (pc := 7) (tgt := 24) (j) (11) d_S_tellsEastward_7 (by decide) rfl rfl (by omega) (by omega) (fun h7 => ?_) (fun h7 => ?_)
  · refine aw_iconst (pc := 24) (v := 0) d_S_tellsEastward_24 (by decide) ?_
    refine aw_zret (pc := 25) d_S_tellsEastward_25 rfl ft_0 ?_
    exact ⟨by rw [b2_0 (fun z => absurd z.1 (by omega))], rfl⟩
  · have hw9 := hT.2.1 j h7
    refine aw_aload_n (pc := 10) d_S_tellsEastward_10 rfl rfl ?_
    refine aw_get (pc := 11) d_S_tellsEastward_11 lf_S_15 hg_1 rfl ?_
    refine aw_iload_n (pc := 14) d_S_tellsEastward_14 rfl rfl ?_
    refine aw_ildN (pc := 15) (j := j) d_S_tellsEastward_15 hg_3 hE.1 rfl h7 (by decide) ?_
    refine aw_iconst (pc := 16) (v := 4) d_S_tellsEastward_16 (by decide) ?_
    refine awn_gt (pc := 17) (tgt := 24) (T 1 j) (4) d_S_tellsEastward_17 (by decide) rfl rfl (by omega) (by omega) (fun h17 => ?_) (fun h17 => ?_)
    · refine aw_iconst (pc := 24) (v := 0) d_S_tellsEastward_24 (by decide) ?_
      refine aw_zret (pc := 25) d_S_tellsEastward_25 rfl ft_0 ?_
      exact ⟨by rw [b2_0 (fun z => absurd z.2 (by omega))], rfl⟩
    · refine aw_iconst (pc := 20) (v := 1) d_S_tellsEastward_20 (by decide) ?_
      refine aw_goto (pc := 21) (tgt := 25) d_S_tellsEastward_21 (by decide) ?_
      refine aw_zret (pc := 25) d_S_tellsEastward_25 rfl ft_1 ?_
      exact ⟨by rw [b2_1 ⟨h7, h17⟩], rfl⟩
set_option maxHeartbeats 1000000 in
set_option maxRecDepth 20000 in
theorem c_S_tells_m : AD m_S_tellsEastward r_S_tellsEastward (HH A I J U) [.ref 22, .int (-1)] (some (.int (b2 False))) (HH A I J U) := by
  refine am_of (by decide) rfl (by first | decide | exact Nat.le_of_ble_eq_true rfl) ?_
  refine aw_iload_n (pc := 0) d_S_tellsEastward_0 rfl rfl ?_
  refine aw_if_lt (pc := 1) (tgt := 24) d_S_tellsEastward_1 (by decide) (fun _ => ?_) (fun hh => absurd (by decide) hh)
  refine aw_iconst (pc := 24) (v := 0) d_S_tellsEastward_24 (by decide) ?_
  refine aw_zret (pc := 25) d_S_tellsEastward_25 rfl ft_0 ?_
  exact ⟨rfl, rfl⟩
set_option maxHeartbeats 1000000 in
set_option maxRecDepth 20000 in
theorem c_S_passEvening (hT : okT T) (hE : enS A I 22 T) : AM m_S_passEvening r_S_passEvening (HH A I J U) [.ref 22] (pS A I J U 22 (evT T)) := by
  refine am_of (by decide) rfl (by first | decide | exact Nat.le_of_ble_eq_true rfl) ?_
  have hEh := hE.h
  obtain ⟨⟨a1, a2, a3, a4, a5, a6⟩, b6, b7, b8, b9, b10, b11, b12, b13, b14, b15⟩ := hE
  have hde := hT.2.2.2.2.1
  have hEh2 : ∀ G : Nat → Nat, enH (u1 A 23 (lst 12 G)) I 22 T := fun G => ⟨hEh.1, hEh.2⟩
  refine aw_iconst (pc := 0) (v := 0) d_S_passEvening_0 (by decide) ?_
  refine aw_istore_n (pc := 1) (ls' := [(0, _), (1, _)]) d_S_passEvening_1 rfl (by decide) rfl ?_
  refine aw_iconst (pc := 2) (v := 0) d_S_passEvening_2 (by decide) ?_
  refine aw_istore_n (pc := 3) (ls' := [(0, _), (1, _), (2, _)]) d_S_passEvening_3 rfl (by decide) rfl ?_
  refine aw_eq (h' := HH (u1 A 23 (lst 12 (T 0))) I J U) ?_ (by rw [u1_self a1]) rfl rfl
  refine lp_i (fun i (x : (Nat → Nat) × Nat) => AW m_S_passEvening r_S_passEvening ax_E0 (ax_Zm (pS A I J U 22 (evT T)) 0 0) (HH (u1 A 23 (lst 12 x.1)) I J U) 0 0 4 [(0, .ref 22), (1, .int (nI x.2)), (2, .int (nI i))] []) (fun i x => (∀ h, h < 12 → x.1 h = if h < i then evF T h else T 0 h) ∧ (0 < i → x.2 = T 0 (i - 1))) 12 ?_ ?_ 12 0 (T 0, 0) (by omega) ⟨fun h hh => by rw [if_neg (by omega)], fun z => absurd z (by omega)⟩
  · rintro ⟨F, w⟩ ⟨hV, -⟩
    refine aw_iload_n (pc := 4) d_S_passEvening_4 rfl rfl ?_
    refine aw_bipush (pc := 5) (v := 12) d_S_passEvening_5 (by decide) ?_
    refine awn_ge (pc := 7) (tgt := 81) (12) (12) d_S_passEvening_7 (by decide) rfl rfl (by omega) (by omega) (fun _ => ?_) (fun hh => absurd hh (by omega))
    refine aw_aload_n (pc := 81) d_S_passEvening_81 rfl rfl ?_
    refine aw_dup (pc := 82) d_S_passEvening_82 rfl ?_
    refine aw_geti (pc := 83) (y := (nI (T 6 6))) d_S_passEvening_83 lf_S_49 hg_22 rfl b12 ?_
    refine aw_iconst (pc := 86) (v := 1) d_S_passEvening_86 (by decide) ?_
    refine aw_iadd (pc := 87) d_S_passEvening_87 ?_
    refine aw_top (nI_1 _) ?_
    refine aw_put (pc := 88) d_S_passEvening_88 lp_S_49 hg_22 (ft_int _) (Nat.le_of_ble_eq_true rfl) (hp_22_12 _) ?_
    refine aw_vret (pc := 91) d_S_passEvening_91 rfl ?_
    refine ⟨rfl, _, _, rfl, ⟨⟨?_, a2, a3, a4, a5, a6⟩, b6, b7, b8, b9, b10, b11, rfl, b13, b14, b15⟩, frA_u _ _ _ (by decide), frI_u _ _ _ _ (by decide)⟩
    exact lst_cong (fun h hh => by rw [hV h hh, if_pos hh]; rfl)
  · rintro i ⟨F, w⟩ hi ⟨hV, hw⟩ ih
    have hV : ∀ h, h < 12 → F h = if h < i then evF T h else T 0 h := hV
    have hw : 0 < i → w = T 0 (i - 1) := hw
    have hFi : F i = T 0 i := by rw [hV i hi, if_neg (by omega)]
    have fin : ∀ G : Nat → Nat, (∀ h, h < 12 → G h = if h = i then evF T i else F h) → ∀ h, h < 12 → G h = if h < i + 1 then evF T h else T 0 h := by
      intro G hG h hh
      rw [hG h hh]
      by_cases e : h = i
      · subst e; rw [if_pos rfl, if_pos (by omega)]
      · rw [if_neg e, hV h hh]
        by_cases e2 : h < i
        · rw [if_pos e2, if_pos (by omega)]
        · rw [if_neg e2, if_neg (by omega)]
    -- behind the west: G is the row by then
    have east : ∀ G : Nat → Nat, (T 6 1).testBit i = false → (∀ h, h < 12 → ¬ h = i → G h = F h) → G i = (T 0 i ||| (if 0 < i ∧ T 1 (i - 1) ≤ 4 then T 0 (i - 1) else 0)) → AW m_S_passEvening r_S_passEvening ax_E0 (ax_Zm (pS A I J U 22 (evT T)) 0 0) (HH (u1 A 23 (lst 12 G)) I J U) 0 0 48 [(0, .ref 22), (1, .int (nI w)), (2, .int (nI i)), (3, .int (nI (F i)))] [] := by
      intro G hd hG hGi
      have hd' : ¬ (T 6 1).testBit i = true := by rw [hd]; decide
      refine aw_aload_n (pc := 48) d_S_passEvening_48 rfl rfl ?_
      refine aw_iload_n (pc := 49) d_S_passEvening_49 rfl rfl ?_
      refine aw_callV1 (pc := 50) (c_S_tells_22 hT (hEh2 G) hi) ok_S_tellsEastward d_S_passEvening_50 lm_S_90 hg_22 rfl rfl ⟨by decide, by decide⟩ (Nat.le_of_ble_eq_true rfl) rfl rfl ⟨by decide, by decide⟩ ?_
      refine aw_bz (pc := 53) (tgt := 73) d_S_passEvening_53 (by decide) (fun h53 => ?_) (fun h53 => ?_)
      · refine aw_iload_n (pc := 73) d_S_passEvening_73 rfl rfl ?_
        refine aw_istore_n (pc := 74) (ls' := [(0, _), (1, _), (2, _), (3, _)]) d_S_passEvening_74 rfl (by decide) rfl ?_
        refine aw_incN (pc := 75) (ls' := [(0, _), (1, _), (2, _), (3, _)]) (i := i) d_S_passEvening_75 rfl rfl (by decide) rfl ?_
        refine aw_goto (pc := 78) (tgt := 4) d_S_passEvening_78 (by decide) ?_
        refine aw_sub (ls' := [(0, _), (1, _), (2, _)]) [0, 1, 2] rfl ?_
        refine ih (G, F i) ⟨fin G (fun h hh => ?_), fun _ => hFi⟩
        by_cases e : h = i
        · subst e; rw [if_pos rfl, hGi]; unfold evF; rw [if_neg hd', if_neg h53, Nat.or_zero]
        · rw [if_neg e]; exact hG h hh e
      · refine aw_aload_n (pc := 56) d_S_passEvening_56 rfl rfl ?_
        refine aw_get (pc := 57) d_S_passEvening_57 lf_S_9 hg_22 rfl ?_
        refine aw_iload_n (pc := 60) d_S_passEvening_60 rfl rfl ?_
        refine aw_dup2 (pc := 61) d_S_passEvening_61 rfl rfl ?_
        refine aw_ildN (pc := 62) (j := i) d_S_passEvening_62 hg_23 rfl rfl hi (by decide) ?_
        refine aw_aload_n (pc := 63) d_S_passEvening_63 rfl rfl ?_
        refine aw_get (pc := 64) d_S_passEvening_64 lf_S_9 hg_22 rfl ?_
        refine aw_iload_n (pc := 67) d_S_passEvening_67 rfl rfl ?_
        refine aw_iconst (pc := 68) (v := 1) d_S_passEvening_68 (by decide) ?_
        refine aw_iadd (pc := 69) d_S_passEvening_69 ?_
        refine aw_ildN (pc := 70) (j := i + 1) d_S_passEvening_70 hg_23 rfl (nI_1 i) (by omega) (by decide) ?_
        refine aw_ior (pc := 71) d_S_passEvening_71 ?_
        refine aw_top (fa_or _ _) ?_
        refine aw_istN (pc := 72) (j := i) (v := _) d_S_passEvening_72 hg_23 rfl rfl rfl hi (by decide) (hs_23 _) ?_
        refine aw_iload_n (pc := 73) d_S_passEvening_73 rfl rfl ?_
        refine aw_istore_n (pc := 74) (ls' := [(0, _), (1, _), (2, _), (3, _)]) d_S_passEvening_74 rfl (by decide) rfl ?_
        refine aw_incN (pc := 75) (ls' := [(0, _), (1, _), (2, _), (3, _)]) (i := i) d_S_passEvening_75 rfl rfl (by decide) rfl ?_
        refine aw_goto (pc := 78) (tgt := 4) d_S_passEvening_78 (by decide) ?_
        refine aw_sub (ls' := [(0, _), (1, _), (2, _)]) [0, 1, 2] rfl ?_
        refine aw_eq (ih (up G i (G i ||| G (i + 1)), F i) ⟨fin (up G i (G i ||| G (i + 1))) (fun h hh => ?_), fun _ => hFi⟩) (by rw [u1_u1]) rfl rfl
        by_cases e : h = i
        · subst e
          have hF1 : F (h + 1) = T 0 (h + 1) := by rw [hV (h + 1) (by omega), if_neg (by omega)]
          rw [up_s, if_pos rfl, hGi, hG (h + 1) (by omega) (by omega), hF1]
          unfold evF
          rw [if_neg hd', if_pos h53]
        · rw [up_n _ _ e, if_neg e]; exact hG h hh e
    refine aw_iload_n (pc := 4) d_S_passEvening_4 rfl rfl ?_
    refine aw_bipush (pc := 5) (v := 12) d_S_passEvening_5 (by decide) ?_
    refine awn_ge (pc := 7) (tgt := 81) (i) (12) d_S_passEvening_7 (by decide) rfl rfl (by omega) (by omega) (fun hh => absurd hh (by omega)) (fun _ => ?_)
    refine aw_aload_n (pc := 10) d_S_passEvening_10 rfl rfl ?_
    refine aw_get (pc := 11) d_S_passEvening_11 lf_S_9 hg_22 rfl ?_
    refine aw_iload_n (pc := 14) d_S_passEvening_14 rfl rfl ?_
    refine aw_ildN (pc := 15) (j := i) d_S_passEvening_15 hg_23 rfl rfl hi (by decide) ?_
    refine aw_istore_n (pc := 16) (ls' := [(0, _), (1, _), (2, _), (3, _)]) d_S_passEvening_16 rfl (by decide) rfl ?_
    refine aw_aload_n (pc := 17) d_S_passEvening_17 rfl rfl ?_
    refine aw_geti (pc := 18) (y := (nI (T 6 1))) d_S_passEvening_18 lf_S_34 hg_22 rfl b7 ?_
    refine aw_iload_n (pc := 21) d_S_passEvening_21 rfl rfl ?_
    refine aw_callT1 (pc := 22) (c_V_hasBit _ _ _) ok_V_hasBit d_S_passEvening_22 ln_S_76 rfl rfl ⟨by decide, by decide⟩ (Nat.le_of_ble_eq_true rfl) rfl rfl ⟨by decide, by decide⟩ ?_
    refine aw_bn (pc := 25) (tgt := 73) d_S_passEvening_25 (by decide) (fun h25 => ?_) (fun h25 => ?_)
    · have h25 := (hb_nI (by omega) (by omega)).mp h25
      refine aw_iload_n (pc := 73) d_S_passEvening_73 rfl rfl ?_
      refine aw_istore_n (pc := 74) (ls' := [(0, _), (1, _), (2, _), (3, _)]) d_S_passEvening_74 rfl (by decide) rfl ?_
      refine aw_incN (pc := 75) (ls' := [(0, _), (1, _), (2, _), (3, _)]) (i := i) d_S_passEvening_75 rfl rfl (by decide) rfl ?_
      refine aw_goto (pc := 78) (tgt := 4) d_S_passEvening_78 (by decide) ?_
      refine aw_sub (ls' := [(0, _), (1, _), (2, _)]) [0, 1, 2] rfl ?_
      refine ih (F, F i) ⟨fin F (fun h hh => ?_), fun _ => hFi⟩
      by_cases e : h = i
      · subst e; rw [if_pos rfl, hFi]; unfold evF; rw [if_pos h25]
      · rw [if_neg e]
    · have h25 : (T 6 1).testBit i = false := by
        cases hq : (T 6 1).testBit i with
        | false => rfl
        | true => exact absurd ((hb_nI (by omega) (by omega)).mpr hq) h25
      refine aw_aload_n (pc := 28) d_S_passEvening_28 rfl rfl ?_
      refine aw_iload_n (pc := 29) d_S_passEvening_29 rfl rfl ?_
      refine aw_iconst (pc := 30) (v := 1) d_S_passEvening_30 (by decide) ?_
      refine aw_isub (pc := 31) d_S_passEvening_31 ?_
      rcases Nat.eq_zero_or_pos i with h0 | h0
      · subst h0
        refine aw_callV1 (pc := 32) c_S_tells_m ok_S_tellsEastward d_S_passEvening_32 lm_S_90 hg_22 rfl rfl ⟨by decide, by decide⟩ (Nat.le_of_ble_eq_true rfl) rfl rfl ⟨by decide, by decide⟩ ?_
        refine aw_bz (pc := 35) (tgt := 48) d_S_passEvening_35 (by decide) (fun _ => ?_) (fun hh => absurd hh (fun z => z))
        exact east F h25 (fun h hh e => rfl) (by rw [hFi, if_neg (by omega), Nat.or_zero])
      · have ei : nI i - 1 = nI (i - 1) := pk_sub (a := i) (b := 1) (by omega)
        refine aw_top ei ?_
        refine aw_callV1 (pc := 32) (c_S_tells_22 hT (hEh2 F) (j := i - 1) (by omega)) ok_S_tellsEastward d_S_passEvening_32 lm_S_90 hg_22 rfl rfl ⟨by decide, by decide⟩ (Nat.le_of_ble_eq_true rfl) rfl rfl ⟨by decide, by decide⟩ ?_
        refine aw_bz (pc := 35) (tgt := 48) d_S_passEvening_35 (by decide) (fun h35 => ?_) (fun h35 => ?_)
        · exact east F h25 (fun h hh e => rfl) (by rw [hFi, if_neg (fun z => h35 ⟨by omega, z.2⟩), Nat.or_zero])
        · refine aw_aload_n (pc := 38) d_S_passEvening_38 rfl rfl ?_
          refine aw_get (pc := 39) d_S_passEvening_39 lf_S_9 hg_22 rfl ?_
          refine aw_iload_n (pc := 42) d_S_passEvening_42 rfl rfl ?_
          refine aw_dup2 (pc := 43) d_S_passEvening_43 rfl rfl ?_
          refine aw_ildN (pc := 44) (j := i) d_S_passEvening_44 hg_23 rfl rfl hi (by decide) ?_
          refine aw_iload_n (pc := 45) d_S_passEvening_45 rfl rfl ?_
          refine aw_ior (pc := 46) d_S_passEvening_46 ?_
          refine aw_top (fa_or _ _) ?_
          refine aw_istN (pc := 47) (j := i) (v := _) d_S_passEvening_47 hg_23 rfl rfl rfl hi (by decide) (hs_23 _) ?_
          refine aw_eq (east (up F i (F i ||| w)) h25 (fun h hh e => up_n _ _ e) (by rw [up_s, hFi, if_pos ⟨h0, h35.2⟩, hw h0])) (by rw [u1_u1]) rfl rfl
set_option maxHeartbeats 1000000 in
set_option maxRecDepth 20000 in
theorem c_S_carryOut (hT : okT T) (hE : enS A I 22 T) {k n : Nat} (hk : k < 4) (hn : n < 12) (hn2 : k = 1 → n < 6) : AM m_S_carryOut r_S_carryOut (HH A I J U) [.ref 22, .int (nI k), .int (nI n)] (pS A I J U 22 (acT T k n)) := by
  refine am_of (by decide) rfl (by first | decide | exact Nat.le_of_ble_eq_true rfl) ?_
  refine aw_iload_n (pc := 0) d_S_carryOut_0 rfl rfl ?_
  refine aw_if_ne (pc := 1) (tgt := 12) d_S_carryOut_1 (by decide) (fun h1 => ?_) (fun h1 => ?_)
  · have h1 : ¬ k = 0 := fun z => h1 (by rw [z]; rfl)
    refine aw_iload_n (pc := 12) d_S_carryOut_12 rfl rfl ?_
    refine aw_iconst (pc := 13) (v := 1) d_S_carryOut_13 (by decide) ?_
    refine awn_ne (pc := 14) (tgt := 25) (k) (1) d_S_carryOut_14 (by decide) rfl rfl (by omega) (by omega) (fun h14 => ?_) (fun h14 => ?_)
    · refine aw_iload_n (pc := 25) d_S_carryOut_25 rfl rfl ?_
      refine aw_iconst (pc := 26) (v := 2) d_S_carryOut_26 (by decide) ?_
      refine awn_ne (pc := 27) (tgt := 45) (k) (2) d_S_carryOut_27 (by decide) rfl rfl (by omega) (by omega) (fun h27 => ?_) (fun h27 => ?_)
      · refine aw_aload_n (pc := 45) d_S_carryOut_45 rfl rfl ?_
        refine aw_callVq (pc := 46) (c_S_passEvening hT hE) ok_S_passEvening d_S_carryOut_46 lm_S_84 hg_22 rfl rfl ⟨by decide, by decide⟩ (Nat.le_of_ble_eq_true rfl) rfl rfl ⟨by decide, by decide⟩ (fun rr hh2 hq => ?_)
        obtain ⟨rfl, A', I', rfl, h5, h6, h7⟩ := hq
        refine aw_vret (pc := 49) d_S_carryOut_49 rfl ?_
        exact ⟨rfl, A', I', rfl, by unfold acT; rw [if_neg h1, if_neg h14, if_neg h27]; exact h5, h6, h7⟩
      · obtain ⟨⟨a1, a2, a3, a4, a5, a6⟩, b6, b7, b8, b9, b10, b11, b12, b13, b14, b15⟩ := hE
        refine aw_aload_n (pc := 30) d_S_carryOut_30 rfl rfl ?_
        refine aw_dup (pc := 31) d_S_carryOut_31 rfl ?_
        refine aw_geti (pc := 32) (y := (nI (T 6 0))) d_S_carryOut_32 lf_S_30 hg_22 rfl b6 ?_
        refine aw_iconst (pc := 35) (v := 1) d_S_carryOut_35 (by decide) ?_
        refine aw_iload_n (pc := 36) d_S_carryOut_36 rfl rfl ?_
        refine aw_ishl (pc := 37) d_S_carryOut_37 ?_
        refine aw_top (sh1 (by omega)) ?_
        refine aw_ixor (pc := 38) d_S_carryOut_38 ?_
        refine aw_top (fb_xorI _ _) ?_
        refine aw_put (pc := 39) d_S_carryOut_39 lp_S_30 hg_22 (ft_int _) (Nat.le_of_ble_eq_true rfl) (hp_22_6 _) ?_
        refine aw_goto (pc := 42) (tgt := 49) d_S_carryOut_42 (by decide) ?_
        refine aw_vret (pc := 49) d_S_carryOut_49 rfl ?_
        exact ⟨rfl, _, _, rfl, by unfold acT; rw [if_neg h1, if_neg h14, if_pos h27]; exact ⟨⟨a1, a2, a3, a4, a5, a6⟩, rfl, b7, b8, b9, b10, b11, b12, b13, b14, b15⟩, frA_r _ _, frI_u _ _ _ _ (by decide)⟩
    · refine aw_aload_n (pc := 17) d_S_carryOut_17 rfl rfl ?_
      refine aw_iload_n (pc := 18) d_S_carryOut_18 rfl rfl ?_
      refine aw_callVq (pc := 19) (c_S_readOut hT hE (hn2 h14)) ok_S_readOut d_S_carryOut_19 lm_S_80 hg_22 rfl rfl ⟨by decide, by decide⟩ (Nat.le_of_ble_eq_true rfl) rfl rfl ⟨by decide, by decide⟩ (fun rr hh2 hq => ?_)
      obtain ⟨rfl, A', I', rfl, h5, h6, h7⟩ := hq
      refine aw_goto (pc := 22) (tgt := 49) d_S_carryOut_22 (by decide) ?_
      refine aw_vret (pc := 49) d_S_carryOut_49 rfl ?_
      exact ⟨rfl, A', I', rfl, by unfold acT; rw [if_neg h1, if_pos h14]; exact h5, h6, h7⟩
  · have h1 : k = 0 := (nI_eq (by omega) (by omega)).mp h1
    obtain ⟨⟨a1, a2, a3, a4, a5, a6⟩, b6, b7, b8, b9, b10, b11, b12, b13, b14, b15⟩ := hE
    refine aw_aload_n (pc := 4) d_S_carryOut_4 rfl rfl ?_
    refine aw_iload_n (pc := 5) d_S_carryOut_5 rfl rfl ?_
    refine aw_put (pc := 6) d_S_carryOut_6 lp_S_46 hg_22 (ft_int _) (Nat.le_of_ble_eq_true rfl) (hp_22_11 _) ?_
    refine aw_goto (pc := 9) (tgt := 49) d_S_carryOut_9 (by decide) ?_
    refine aw_vret (pc := 49) d_S_carryOut_49 rfl ?_
    exact ⟨rfl, _, _, rfl, by unfold acT; rw [if_pos h1]; exact ⟨⟨a1, a2, a3, a4, a5, a6⟩, b6, b7, b8, b9, b10, rfl, b12, b13, b14, b15⟩, frA_r _ _, frI_u _ _ _ _ (by decide)⟩
end ACTS

