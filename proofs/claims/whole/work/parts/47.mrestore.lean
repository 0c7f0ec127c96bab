/-! restore: the reference -/
section MREST
variable {A : Nat → List Int32} {I : Nat → Nat → Int32} {J : Nat → List Int64} {U : Nat → Nat → Int64} {T : town} {np : Nat} {PD : Nat → Nat} {km : Nat} {TI : Nat → town}
set_option maxHeartbeats 1000000 in
set_option maxRecDepth 20000 in
theorem n_restore (h : mi T np PD km TI A I J) (o0 : okT (TI 0)) (o1 : okT (TI 1)) (w : Int32) : AM m_M_restore r_M_restore (HH A I J U) [.ref 36, .int w] (pN (reT km TI w T) np PD km TI (.int (aRest km w)) A I J) := by
  obtain ⟨hT, hE, ⟨h38, h43, h44, h45⟩, ⟨hp, hP, h42, h36⟩, hk, h47, F, h46, hF0⟩ := id h
  obtain ⟨⟨a1, a2, a3, a4⟩, b1, b2_, b3, b4⟩ := id hE
  refine am_of (by decide) rfl (by first | decide | exact Nat.le_of_ble_eq_true rfl) ?_
  refine aw_iload_n (pc := 0) d_M_restore_0 rfl rfl ?_
  refine aw_iconst (pc := 1) (v := 0) d_M_restore_1 (by decide) ?_
  refine aw_iconst (pc := 2) (v := 1) d_M_restore_2 (by decide) ?_
  refine aw_callS1 (pc := 3) (c_M_in _ _ _ _) ok_M_in d_M_restore_3 lm_M_52 rfl rfl ⟨by decide, by decide⟩ (Nat.le_of_ble_eq_true rfl) rfl rfl ⟨by decide, by decide⟩ ?_
  refine aw_bn (pc := 6) (tgt := 12) d_M_restore_6 (by decide) (fun h6 => ?_) (fun h6 => ?_)
  · obtain ⟨n, hn, rfl⟩ := rng 1 (by omega) h6
    by_cases hb : km.testBit n = true
    · obtain ⟨e1, e2⟩ := re_y (TI := TI) (T := T) hn hb
      rw [e1, e2]
      have ho : okT (TI n) := by
        rcases (show n = 0 ∨ n = 1 by omega) with rfl | rfl
        · exact o0
        · exact o1
      obtain ⟨i1, i2, i3, i4, i5, i6, i7⟩ := hF0 n (by omega) hb
      refine aw_aload_n (pc := 12) d_M_restore_12 rfl rfl ?_
      refine aw_get (pc := 13) d_M_restore_13 lf_M_45 hg_36 rfl ?_
      refine aw_iload_n (pc := 16) d_M_restore_16 rfl rfl ?_
      refine aw_zald (pc := 17) (j := n) d_M_restore_17 hg_47 (show (A 47).length = 2 by rw [h47]; exact lst_len _ _) rfl (by omega) (by decide) ?_
      refine aw_top (y := 1) (by rw [h47, lst_get (by omega)]; unfold kf; rw [if_pos hb]; rfl) ?_
      refine aw_if_ne (pc := 18) (tgt := 24) d_M_restore_18 (by decide) (fun _ => ?_) (fun hh => absurd hh (by decide))
      refine aw_bipush (pc := 24) (v := 80) d_M_restore_24 (by decide) ?_
      refine aw_iload_n (pc := 26) d_M_restore_26 rfl rfl ?_
      refine aw_imul (pc := 27) d_M_restore_27 ?_
      refine aw_top (y := nI (80 * n)) (pk_mul 80 n) ?_
      refine aw_istore_n (pc := 28) (ls' := [(0, _), (1, _), (2, _)]) d_M_restore_28 rfl (by decide) rfl ?_
      refine aw_iconst (pc := 29) (v := 0) d_M_restore_29 (by decide) ?_
      refine aw_istore_n (pc := 30) (ls' := [(0, _), (1, _), (2, _), (3, _)]) d_M_restore_30 rfl (by decide) rfl ?_
      refine lp_i (fun i A1 => AW m_M_restore r_M_restore ax_E0 (ax_Zm (pN (TI n) np PD km TI (.int 1) A I J) 0 0) (HH A1 I J U) 0 0 31 [(0, .ref 36), (1, .int (nI n)), (2, .int (nI (80 * n))), (3, .int (nI i))] []) (fun i A1 => frA A A1 [37, 39, 40, 41] ∧ A1 39 = A 39 ∧ A1 40 = A 40 ∧ ∃ f g, A1 37 = lst 16 f ∧ A1 41 = lst 16 g ∧ ∀ k, k < i → f k = bk (TI n) k ∧ g k = sg (TI n) k) 16 ?_ ?_ 16 0 A (by omega) ⟨frA_r _ _, rfl, rfl, _, _, a1, a4, fun k hk => absurd hk (by omega)⟩
      · rintro A1 ⟨f1, f2, f3, f, g, f4, f5, f6⟩
        refine aw_iload_n (pc := 31) d_M_restore_31 rfl rfl ?_
        refine aw_bipush (pc := 32) (v := 16) d_M_restore_32 (by decide) ?_
        refine awn_ge (pc := 34) (tgt := 74) (16) (16) d_M_restore_34 (by decide) rfl rfl (by omega) (by omega) (fun _ => ?_) (fun hh => absurd hh (by omega))
        refine aw_iconst (pc := 74) (v := 0) d_M_restore_74 (by decide) ?_
        refine aw_istore_n (pc := 75) (ls' := [(0, _), (1, _), (2, _), (3, _)]) d_M_restore_75 rfl (by decide) rfl ?_
        refine lp_i (fun i A1 => AW m_M_restore r_M_restore ax_E0 (ax_Zm (pN (TI n) np PD km TI (.int 1) A I J) 0 0) (HH A1 I J U) 0 0 76 [(0, .ref 36), (1, .int (nI n)), (2, .int (nI (80 * n))), (3, .int (nI i))] []) (fun i A1 => frA A A1 [37, 39, 40, 41] ∧ A1 39 = A 39 ∧ A1 37 = lst 16 (bk (TI n)) ∧ A1 41 = lst 16 (sg (TI n)) ∧ ∃ f, A1 40 = lst 24 f ∧ ∀ k, k < i → f k = lt (TI n) k) 24 ?_ ?_ 24 0 A1 (by omega) ⟨f1, f2, f4.trans (lst_cong (fun k hk => (f6 k hk).1)), f5.trans (lst_cong (fun k hk => (f6 k hk).2)), _, f3.trans a3, fun k hk => absurd hk (by omega)⟩
        · rintro A1 ⟨f1, f2, f3, f4, f, f5, f6⟩
          refine aw_iload_n (pc := 76) d_M_restore_76 rfl rfl ?_
          refine aw_bipush (pc := 77) (v := 24) d_M_restore_77 (by decide) ?_
          refine awn_ge (pc := 79) (tgt := 105) (24) (24) d_M_restore_79 (by decide) rfl rfl (by omega) (by omega) (fun _ => ?_) (fun hh => absurd hh (by omega))
          refine aw_iconst (pc := 105) (v := 0) d_M_restore_105 (by decide) ?_
          refine aw_istore_n (pc := 106) (ls' := [(0, _), (1, _), (2, _), (3, _)]) d_M_restore_106 rfl (by decide) rfl ?_
          refine lp_i (fun i A1 => AW m_M_restore r_M_restore ax_E0 (ax_Zm (pN (TI n) np PD km TI (.int 1) A I J) 0 0) (HH A1 I J U) 0 0 107 [(0, .ref 36), (1, .int (nI n)), (2, .int (nI (80 * n))), (3, .int (nI i))] []) (fun i A1 => frA A A1 [37, 39, 40, 41] ∧ A1 37 = lst 16 (bk (TI n)) ∧ A1 41 = lst 16 (sg (TI n)) ∧ A1 40 = lst 24 (lt (TI n)) ∧ ∃ f, A1 39 = lst 11 f ∧ ∀ k, k < i → f k = TI n 1 k) 11 ?_ ?_ 11 0 A1 (by omega) ⟨f1, f3, f4, f5.trans (lst_cong f6), _, f2.trans a2, fun k hk => absurd hk (by omega)⟩
          · rintro A1 ⟨f1, f3, f4, f5, f, f6, f7⟩
            have k46 : A1 46 = lst 160 F := (f1 46 (by decide)).trans h46
            refine aw_iload_n (pc := 107) d_M_restore_107 rfl rfl ?_
            refine aw_bipush (pc := 108) (v := 11) d_M_restore_108 (by decide) ?_
            refine awn_ge (pc := 110) (tgt := 136) (11) (11) d_M_restore_110 (by decide) rfl rfl (by omega) (by omega) (fun _ => ?_) (fun hh => absurd hh (by omega))
            refine aw_aload_n (pc := 136) d_M_restore_136 rfl rfl ?_
            refine aw_aload_n (pc := 137) d_M_restore_137 rfl rfl ?_
            refine aw_get (pc := 138) d_M_restore_138 lf_M_42 hg_36 rfl ?_
            refine aw_iload_n (pc := 141) d_M_restore_141 rfl rfl ?_
            refine aw_bipush (pc := 142) (v := 70) d_M_restore_142 (by decide) ?_
            refine aw_iadd (pc := 144) d_M_restore_144 ?_
            refine aw_ildN (pc := 145) (j := 80 * n + 70) d_M_restore_145 hg_46 k46 (nI_add _ 70) (by omega) (by decide) ?_
            refine aw_put (pc := 146) d_M_restore_146 lp_M_49 hg_36 (ft_int _) (Nat.le_of_ble_eq_true rfl) (hp_36_2 _) ?_
            refine aw_aload_n (pc := 149) d_M_restore_149 rfl rfl ?_
            refine aw_aload_n (pc := 150) d_M_restore_150 rfl rfl ?_
            refine aw_get (pc := 151) d_M_restore_151 lf_M_42 hg_36 rfl ?_
            refine aw_iload_n (pc := 154) d_M_restore_154 rfl rfl ?_
            refine aw_bipush (pc := 155) (v := 71) d_M_restore_155 (by decide) ?_
            refine aw_iadd (pc := 157) d_M_restore_157 ?_
            refine aw_ildN (pc := 158) (j := 80 * n + 71) d_M_restore_158 hg_46 k46 (nI_add _ 71) (by omega) (by decide) ?_
            refine aw_put (pc := 159) d_M_restore_159 lp_M_19 hg_36 (ft_int _) (Nat.le_of_ble_eq_true rfl) (hp_36_4 _) ?_
            refine aw_aload_n (pc := 162) d_M_restore_162 rfl rfl ?_
            refine aw_aload_n (pc := 163) d_M_restore_163 rfl rfl ?_
            refine aw_get (pc := 164) d_M_restore_164 lf_M_42 hg_36 rfl ?_
            refine aw_iload_n (pc := 167) d_M_restore_167 rfl rfl ?_
            refine aw_bipush (pc := 168) (v := 72) d_M_restore_168 (by decide) ?_
            refine aw_iadd (pc := 170) d_M_restore_170 ?_
            refine aw_ildN (pc := 171) (j := 80 * n + 72) d_M_restore_171 hg_46 k46 (nI_add _ 72) (by omega) (by decide) ?_
            refine aw_put (pc := 172) d_M_restore_172 lp_M_60 hg_36 (ft_int _) (Nat.le_of_ble_eq_true rfl) (hp_36_5 _) ?_
            refine aw_aload_n (pc := 175) d_M_restore_175 rfl rfl ?_
            refine aw_aload_n (pc := 176) d_M_restore_176 rfl rfl ?_
            refine aw_get (pc := 177) d_M_restore_177 lf_M_42 hg_36 rfl ?_
            refine aw_iload_n (pc := 180) d_M_restore_180 rfl rfl ?_
            refine aw_bipush (pc := 181) (v := 73) d_M_restore_181 (by decide) ?_
            refine aw_iadd (pc := 183) d_M_restore_183 ?_
            refine aw_ildN (pc := 184) (j := 80 * n + 73) d_M_restore_184 hg_46 k46 (nI_add _ 73) (by omega) (by decide) ?_
            refine aw_put (pc := 185) d_M_restore_185 lp_M_126 hg_36 (ft_int _) (Nat.le_of_ble_eq_true rfl) (hp_36_7 _) ?_
            refine aw_iconst (pc := 188) (v := 1) d_M_restore_188 (by decide) ?_
            refine aw_iret (pc := 189) d_M_restore_189 rfl ?_
            refine ⟨rfl, _, _, _, _, rfl, mi_T h f1 rfl ⟨⟨f3, f6.trans (lst_cong f7), f5, f4⟩, ?_, ?_, ?_, ?_⟩ ho, lo_of f1 (frI_t (frI_t (frI_t (frI_u _ _ _ _ (List.mem_singleton.mpr rfl)) (frI_u _ _ _ _ (List.mem_singleton.mpr rfl))) (frI_u _ _ _ _ (List.mem_singleton.mpr rfl))) (frI_u _ _ _ _ (List.mem_singleton.mpr rfl))) (by decide) (by decide)⟩
            · show nI (F (80 * n + 70)) = _
              rw [i4]
            · show nI (F (80 * n + 71)) = _
              rw [i5]
            · show nI (F (80 * n + 72)) = _
              rw [i6, wd_m]
            · show nI (F (80 * n + 73)) = _
              rw [i7]
          · rintro i A1 hi ⟨f1, f3, f4, f5, f, f6, f7⟩ ih
            have k46 : A1 46 = lst 160 F := (f1 46 (by decide)).trans h46
            refine aw_iload_n (pc := 107) d_M_restore_107 rfl rfl ?_
            refine aw_bipush (pc := 108) (v := 11) d_M_restore_108 (by decide) ?_
            refine awn_ge (pc := 110) (tgt := 136) (i) (11) d_M_restore_110 (by decide) rfl rfl (by omega) (by omega) (fun hh => absurd hh (by omega)) (fun _ => ?_)
            refine aw_aload_n (pc := 113) d_M_restore_113 rfl rfl ?_
            refine aw_get (pc := 114) d_M_restore_114 lf_M_16 hg_36 rfl ?_
            refine aw_iload_n (pc := 117) d_M_restore_117 rfl rfl ?_
            refine aw_aload_n (pc := 118) d_M_restore_118 rfl rfl ?_
            refine aw_get (pc := 119) d_M_restore_119 lf_M_42 hg_36 rfl ?_
            refine aw_iload_n (pc := 122) d_M_restore_122 rfl rfl ?_
            refine aw_bipush (pc := 123) (v := 56) d_M_restore_123 (by decide) ?_
            refine aw_iadd (pc := 125) d_M_restore_125 ?_
            refine aw_iload_n (pc := 126) d_M_restore_126 rfl rfl ?_
            refine aw_iadd (pc := 127) d_M_restore_127 ?_
            refine aw_ildN (pc := 128) (j := 80 * n + 56 + i) d_M_restore_128 hg_46 k46 (ix_2 _ _ 56) (by omega) (by decide) ?_
            refine aw_istN (pc := 129) (j := i) (v := _) d_M_restore_129 hg_39 f6 rfl rfl hi (by decide) (hs_39 _) ?_
            refine aw_incN (pc := 130) (ls' := [(0, _), (1, _), (2, _), (3, _)]) (i := i) d_M_restore_130 rfl rfl (by decide) rfl ?_
            refine aw_goto (pc := 133) (tgt := 107) d_M_restore_133 (by decide) ?_
            refine ih _ ⟨frA_t f1 (frA_u _ _ _ (by decide)), f3, f4, f5, _, rfl, fun k hk => ?_⟩
            by_cases e : k = i
            · subst e; rw [up_s]; exact i3 k hi
            · rw [up_n _ _ e]; exact f7 k (by omega)
        · rintro i A1 hi ⟨f1, f2, f3, f4, f, f5, f6⟩ ih
          have k46 : A1 46 = lst 160 F := (f1 46 (by decide)).trans h46
          refine aw_iload_n (pc := 76) d_M_restore_76 rfl rfl ?_
          refine aw_bipush (pc := 77) (v := 24) d_M_restore_77 (by decide) ?_
          refine awn_ge (pc := 79) (tgt := 105) (i) (24) d_M_restore_79 (by decide) rfl rfl (by omega) (by omega) (fun hh => absurd hh (by omega)) (fun _ => ?_)
          refine aw_aload_n (pc := 82) d_M_restore_82 rfl rfl ?_
          refine aw_get (pc := 83) d_M_restore_83 lf_M_23 hg_36 rfl ?_
          refine aw_iload_n (pc := 86) d_M_restore_86 rfl rfl ?_
          refine aw_aload_n (pc := 87) d_M_restore_87 rfl rfl ?_
          refine aw_get (pc := 88) d_M_restore_88 lf_M_42 hg_36 rfl ?_
          refine aw_iload_n (pc := 91) d_M_restore_91 rfl rfl ?_
          refine aw_bipush (pc := 92) (v := 32) d_M_restore_92 (by decide) ?_
          refine aw_iadd (pc := 94) d_M_restore_94 ?_
          refine aw_iload_n (pc := 95) d_M_restore_95 rfl rfl ?_
          refine aw_iadd (pc := 96) d_M_restore_96 ?_
          refine aw_ildN (pc := 97) (j := 80 * n + 32 + i) d_M_restore_97 hg_46 k46 (ix_2 _ _ 32) (by omega) (by decide) ?_
          refine aw_istN (pc := 98) (j := i) (v := _) d_M_restore_98 hg_40 f5 rfl rfl hi (by decide) (hs_40 _) ?_
          refine aw_incN (pc := 99) (ls' := [(0, _), (1, _), (2, _), (3, _)]) (i := i) d_M_restore_99 rfl rfl (by decide) rfl ?_
          refine aw_goto (pc := 102) (tgt := 76) d_M_restore_102 (by decide) ?_
          refine ih _ ⟨frA_t f1 (frA_u _ _ _ (by decide)), f2, f3, f4, _, rfl, fun k hk => ?_⟩
          by_cases e : k = i
          · subst e; rw [up_s]; exact i2 k hi
          · rw [up_n _ _ e]; exact f6 k (by omega)
      · rintro i A1 hi ⟨f1, f2, f3, f, g, f4, f5, f6⟩ ih
        have k46 : A1 46 = lst 160 F := (f1 46 (by decide)).trans h46
        refine aw_iload_n (pc := 31) d_M_restore_31 rfl rfl ?_
        refine aw_bipush (pc := 32) (v := 16) d_M_restore_32 (by decide) ?_
        refine awn_ge (pc := 34) (tgt := 74) (i) (16) d_M_restore_34 (by decide) rfl rfl (by omega) (by omega) (fun hh => absurd hh (by omega)) (fun _ => ?_)
        refine aw_aload_n (pc := 37) d_M_restore_37 rfl rfl ?_
        refine aw_get (pc := 38) d_M_restore_38 lf_M_7 hg_36 rfl ?_
        refine aw_iload_n (pc := 41) d_M_restore_41 rfl rfl ?_
        refine aw_aload_n (pc := 42) d_M_restore_42 rfl rfl ?_
        refine aw_get (pc := 43) d_M_restore_43 lf_M_42 hg_36 rfl ?_
        refine aw_iload_n (pc := 46) d_M_restore_46 rfl rfl ?_
        refine aw_iload_n (pc := 47) d_M_restore_47 rfl rfl ?_
        refine aw_iadd (pc := 48) d_M_restore_48 ?_
        refine aw_ildN (pc := 49) (j := 80 * n + i) d_M_restore_49 hg_46 k46 (nI_add _ _) (by omega) (by decide) ?_
        refine aw_istN (pc := 50) (j := i) (v := _) d_M_restore_50 hg_37 f4 rfl rfl hi (by decide) (hs_37 _) ?_
        refine aw_aload_n (pc := 51) d_M_restore_51 rfl rfl ?_
        refine aw_get (pc := 52) d_M_restore_52 lf_M_26 hg_36 rfl ?_
        refine aw_iload_n (pc := 55) d_M_restore_55 rfl rfl ?_
        refine aw_aload_n (pc := 56) d_M_restore_56 rfl rfl ?_
        refine aw_get (pc := 57) d_M_restore_57 lf_M_42 hg_36 rfl ?_
        refine aw_iload_n (pc := 60) d_M_restore_60 rfl rfl ?_
        refine aw_bipush (pc := 61) (v := 16) d_M_restore_61 (by decide) ?_
        refine aw_iadd (pc := 63) d_M_restore_63 ?_
        refine aw_iload_n (pc := 64) d_M_restore_64 rfl rfl ?_
        refine aw_iadd (pc := 65) d_M_restore_65 ?_
        refine aw_ildN (pc := 66) (j := 80 * n + 16 + i) d_M_restore_66 hg_46 k46 (ix_2 _ _ 16) (by omega) (by decide) ?_
        refine aw_istN (pc := 67) (j := i) (v := _) d_M_restore_67 hg_41 f5 rfl rfl hi (by decide) (hs_41 _) ?_
        refine aw_incN (pc := 68) (ls' := [(0, _), (1, _), (2, _), (3, _)]) (i := i) d_M_restore_68 rfl rfl (by decide) rfl ?_
        refine aw_goto (pc := 71) (tgt := 31) d_M_restore_71 (by decide) ?_
        refine ih _ ⟨frA_t (frA_t f1 (frA_u _ _ _ (by decide))) (frA_u _ _ _ (by decide)), f2, f3, _, _, rfl, rfl, fun k hk => ⟨?_, ?_⟩⟩
        · by_cases e : k = i
          · subst e; rw [up_s]; exact (i1 k hi).1
          · rw [up_n _ _ e]; exact (f6 k (by omega)).1
        · by_cases e : k = i
          · subst e; rw [up_s]; exact (i1 k hi).2
          · rw [up_n _ _ e]; exact (f6 k (by omega)).2
    · obtain ⟨e1, e2⟩ := re_s (TI := TI) (T := T) hn hb
      rw [e1, e2]
      refine aw_aload_n (pc := 12) d_M_restore_12 rfl rfl ?_
      refine aw_get (pc := 13) d_M_restore_13 lf_M_45 hg_36 rfl ?_
      refine aw_iload_n (pc := 16) d_M_restore_16 rfl rfl ?_
      refine aw_zald (pc := 17) (j := n) d_M_restore_17 hg_47 (show (A 47).length = 2 by rw [h47]; exact lst_len _ _) rfl (by omega) (by decide) ?_
      refine aw_top (y := 0) (by rw [h47, lst_get (by omega)]; unfold kf; rw [if_neg hb]; rfl) ?_
      refine aw_if_ne (pc := 18) (tgt := 24) d_M_restore_18 (by decide) (fun hh => absurd hh (fun z => z rfl)) (fun _ => ?_)
      refine aw_bipush (pc := 21) (v := (-3)) d_M_restore_21 (by decide) ?_
      refine aw_iret (pc := 23) d_M_restore_23 rfl ?_
      exact pN_r h _
  · obtain ⟨e1, e2⟩ := re_n (TI := TI) (T := T) (km := km) h6
    rw [e1, e2]
    refine aw_bipush (pc := 9) (v := (-2)) d_M_restore_9 (by decide) ?_
    refine aw_iret (pc := 11) d_M_restore_11 rfl ?_
    exact pN_r h _
end MREST

