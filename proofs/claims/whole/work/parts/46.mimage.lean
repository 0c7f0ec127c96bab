/-! image, restore: the reference -/
theorem imH_c {F F' : Nat → Nat} {n : Nat} {T : town} (h : imH F n T) (e : ∀ x, 80 * n ≤ x → x < 80 * n + 80 → F' x = F x) : imH F' n T := by
  obtain ⟨h1, h2, h3, h4, h5, h6, h7⟩ := h
  exact ⟨fun k hk => ⟨(e _ (by omega) (by omega)).trans (h1 k hk).1, (e _ (by omega) (by omega)).trans (h1 k hk).2⟩, fun k hk => (e _ (by omega) (by omega)).trans (h2 k hk), fun k hk => (e _ (by omega) (by omega)).trans (h3 k hk), (e _ (by omega) (by omega)).trans h4, (e _ (by omega) (by omega)).trans h5, (e _ (by omega) (by omega)).trans h6, (e _ (by omega) (by omega)).trans h7⟩
theorem wd_m (a : Nat) : nI a - 3 = nI (a + 4294967293) := by
  rw [← nI_add, show nI 4294967293 = -3 by decide, Int32.sub_eq_add_neg]
theorem ix_2 (a k : Nat) (c : Nat) : nI a + nI c + nI k = nI (a + c + k) := by rw [nI_add, nI_add]
theorem kf_or (km n : Nat) : ∀ j, j < 2 → up (kf km) n 1 j = kf (km ||| 2 ^ n) j := by
  intro j hj
  unfold kf
  rw [Nat.testBit_or, Nat.testBit_two_pow]
  by_cases e : j = n
  · subst e; rw [up_s]; simp
  · rw [up_n _ _ e]
    have : decide (n = j) = false := decide_eq_false (fun z => e z.symm)
    rw [this, Bool.or_false]
section MIMAGE
variable {A : Nat → List Int32} {I : Nat → Nat → Int32} {J : Nat → List Int64} {U : Nat → Nat → Int64} {T : town} {np : Nat} {PD : Nat → Nat} {km : Nat} {TI : Nat → town}
/-- the reference's image row, under way: outside the image n it is as it was -/
def imW (F0 F : Nat → Nat) (n : Nat) : Prop := ∀ x, x < 80 * n ∨ 80 * n + 80 ≤ x → F x = F0 x
theorem imW_u {F0 F : Nat → Nat} {n j v : Nat} (h : imW F0 F n) (h1 : 80 * n ≤ j) (h2 : j < 80 * n + 80) : imW F0 (up F j v) n := fun x hx => by rw [up_n _ _ (by omega)]; exact h x hx
set_option maxHeartbeats 1000000 in
set_option maxRecDepth 20000 in
theorem n_image (h : mi T np PD km TI A I J) (w : Int32) : AM m_M_image r_M_image (HH A I J U) [.ref 36, .int w] (pN T np PD (imK km w) (imI TI w T) (.int (aImage w)) A I J) := by
  obtain ⟨hT, hE, ⟨h38, h43, h44, h45⟩, ⟨hp, hP, h42, h36⟩, hk, h47, F0, h46, hF0⟩ := id h
  obtain ⟨⟨a1, a2, a3, a4⟩, b1, b2_, b3, b4⟩ := id hE
  refine am_of (by decide) rfl (by first | decide | exact Nat.le_of_ble_eq_true rfl) ?_
  refine aw_iload_n (pc := 0) d_M_image_0 rfl rfl ?_
  refine aw_iconst (pc := 1) (v := 0) d_M_image_1 (by decide) ?_
  refine aw_iconst (pc := 2) (v := 1) d_M_image_2 (by decide) ?_
  refine aw_callS1 (pc := 3) (c_M_in _ _ _ _) ok_M_in d_M_image_3 lm_M_52 rfl rfl ⟨by decide, by decide⟩ (Nat.le_of_ble_eq_true rfl) rfl rfl ⟨by decide, by decide⟩ ?_
  refine aw_bn (pc := 6) (tgt := 12) d_M_image_6 (by decide) (fun h6 => ?_) (fun h6 => ?_)
  · obtain ⟨n, hn, rfl⟩ := rng 1 (by omega) h6
    obtain ⟨e1, e2, e3⟩ := im_y (TI := TI) (T := T) (km := km) hn
    rw [e1, e2, e3]
    refine aw_bipush (pc := 12) (v := 80) d_M_image_12 (by decide) ?_
    refine aw_iload_n (pc := 14) d_M_image_14 rfl rfl ?_
    refine aw_imul (pc := 15) d_M_image_15 ?_
    refine aw_top (y := nI (80 * n)) (pk_mul 80 n) ?_
    refine aw_istore_n (pc := 16) (ls' := [(0, _), (1, _), (2, _)]) d_M_image_16 rfl (by decide) rfl ?_
    refine aw_iconst (pc := 17) (v := 0) d_M_image_17 (by decide) ?_
    refine aw_istore_n (pc := 18) (ls' := [(0, _), (1, _), (2, _), (3, _)]) d_M_image_18 rfl (by decide) rfl ?_
    refine lp_i (fun i A1 => AW m_M_image r_M_image ax_E0 (ax_Zm (pN T np PD (km ||| 2 ^ n) (u1 TI n T) (.int 1) A I J) 0 0) (HH A1 I J U) 0 0 19 [(0, .ref 36), (1, .int (nI n)), (2, .int (nI (80 * n))), (3, .int (nI i))] []) (fun i A1 => frA A A1 [46] ∧ ∃ F, A1 46 = lst 160 F ∧ imW F0 F n ∧ ∀ k, k < i → F (80 * n + k) = bk T k ∧ F (80 * n + 16 + k) = sg T k) 16 ?_ ?_ 16 0 A (by omega) ⟨frA_r _ _, F0, h46, fun _ _ => rfl, fun k hk => absurd hk (by omega)⟩
    · rintro A1 ⟨f1, F1, g1, g2, g3⟩
      refine aw_iload_n (pc := 19) d_M_image_19 rfl rfl ?_
      refine aw_bipush (pc := 20) (v := 16) d_M_image_20 (by decide) ?_
      refine awn_ge (pc := 22) (tgt := 62) (16) (16) d_M_image_22 (by decide) rfl rfl (by omega) (by omega) (fun _ => ?_) (fun hh => absurd hh (by omega))
      refine aw_iconst (pc := 62) (v := 0) d_M_image_62 (by decide) ?_
      refine aw_istore_n (pc := 63) (ls' := [(0, _), (1, _), (2, _), (3, _)]) d_M_image_63 rfl (by decide) rfl ?_
      refine lp_i (fun i A1 => AW m_M_image r_M_image ax_E0 (ax_Zm (pN T np PD (km ||| 2 ^ n) (u1 TI n T) (.int 1) A I J) 0 0) (HH A1 I J U) 0 0 64 [(0, .ref 36), (1, .int (nI n)), (2, .int (nI (80 * n))), (3, .int (nI i))] []) (fun i A1 => frA A A1 [46] ∧ ∃ F, A1 46 = lst 160 F ∧ imW F0 F n ∧ (∀ k, k < 16 → F (80 * n + k) = bk T k ∧ F (80 * n + 16 + k) = sg T k) ∧ ∀ k, k < i → F (80 * n + 32 + k) = lt T k) 24 ?_ ?_ 24 0 A1 (by omega) ⟨f1, F1, g1, g2, g3, fun k hk => absurd hk (by omega)⟩
      · rintro A1 ⟨f1, F1, g1, g2, g3, g4⟩
        refine aw_iload_n (pc := 64) d_M_image_64 rfl rfl ?_
        refine aw_bipush (pc := 65) (v := 24) d_M_image_65 (by decide) ?_
        refine awn_ge (pc := 67) (tgt := 93) (24) (24) d_M_image_67 (by decide) rfl rfl (by omega) (by omega) (fun _ => ?_) (fun hh => absurd hh (by omega))
        refine aw_iconst (pc := 93) (v := 0) d_M_image_93 (by decide) ?_
        refine aw_istore_n (pc := 94) (ls' := [(0, _), (1, _), (2, _), (3, _)]) d_M_image_94 rfl (by decide) rfl ?_
        refine lp_i (fun i A1 => AW m_M_image r_M_image ax_E0 (ax_Zm (pN T np PD (km ||| 2 ^ n) (u1 TI n T) (.int 1) A I J) 0 0) (HH A1 I J U) 0 0 95 [(0, .ref 36), (1, .int (nI n)), (2, .int (nI (80 * n))), (3, .int (nI i))] []) (fun i A1 => frA A A1 [46] ∧ ∃ F, A1 46 = lst 160 F ∧ imW F0 F n ∧ (∀ k, k < 16 → F (80 * n + k) = bk T k ∧ F (80 * n + 16 + k) = sg T k) ∧ (∀ k, k < 24 → F (80 * n + 32 + k) = lt T k) ∧ ∀ k, k < i → F (80 * n + 56 + k) = T 1 k) 11 ?_ ?_ 11 0 A1 (by omega) ⟨f1, F1, g1, g2, g3, g4, fun k hk => absurd hk (by omega)⟩
        · rintro A1 ⟨f1, F1, g1, g2, g3, g4, g5⟩
          have k47 : A1 47 = lst 2 (kf km) := (f1 47 (by decide)).trans h47
          refine aw_iload_n (pc := 95) d_M_image_95 rfl rfl ?_
          refine aw_bipush (pc := 96) (v := 11) d_M_image_96 (by decide) ?_
          refine awn_ge (pc := 98) (tgt := 124) (11) (11) d_M_image_98 (by decide) rfl rfl (by omega) (by omega) (fun _ => ?_) (fun hh => absurd hh (by omega))
          refine aw_aload_n (pc := 124) d_M_image_124 rfl rfl ?_
          refine aw_get (pc := 125) d_M_image_125 lf_M_42 hg_36 rfl ?_
          refine aw_iload_n (pc := 128) d_M_image_128 rfl rfl ?_
          refine aw_bipush (pc := 129) (v := 70) d_M_image_129 (by decide) ?_
          refine aw_iadd (pc := 131) d_M_image_131 ?_
          refine aw_aload_n (pc := 132) d_M_image_132 rfl rfl ?_
          refine aw_geti (pc := 133) (y := (nI (T 6 1))) d_M_image_133 lf_M_49 hg_36 rfl b1 ?_
          refine aw_istN (pc := 136) (j := 80 * n + 70) (v := T 6 1) d_M_image_136 hg_46 g1 (nI_add _ 70) rfl (by omega) (by decide) (hs_46 _) ?_
          refine aw_aload_n (pc := 137) d_M_image_137 rfl rfl ?_
          refine aw_get (pc := 138) d_M_image_138 lf_M_42 hg_36 rfl ?_
          refine aw_iload_n (pc := 141) d_M_image_141 rfl rfl ?_
          refine aw_bipush (pc := 142) (v := 71) d_M_image_142 (by decide) ?_
          refine aw_iadd (pc := 144) d_M_image_144 ?_
          refine aw_aload_n (pc := 145) d_M_image_145 rfl rfl ?_
          refine aw_geti (pc := 146) (y := (nI (T 6 3))) d_M_image_146 lf_M_19 hg_36 rfl b2_ ?_
          refine aw_istN (pc := 149) (j := 80 * n + 71) (v := T 6 3) d_M_image_149 hg_46 rfl (nI_add _ 71) rfl (by omega) (by decide) (hs_46 _) ?_
          refine aw_aload_n (pc := 150) d_M_image_150 rfl rfl ?_
          refine aw_get (pc := 151) d_M_image_151 lf_M_42 hg_36 rfl ?_
          refine aw_iload_n (pc := 154) d_M_image_154 rfl rfl ?_
          refine aw_bipush (pc := 155) (v := 72) d_M_image_155 (by decide) ?_
          refine aw_iadd (pc := 157) d_M_image_157 ?_
          refine aw_aload_n (pc := 158) d_M_image_158 rfl rfl ?_
          refine aw_geti (pc := 159) (y := (nI (T 6 4) - 3)) d_M_image_159 lf_M_60 hg_36 rfl b3 ?_
          refine aw_istN (pc := 162) (j := 80 * n + 72) (v := T 6 4 + 4294967293) d_M_image_162 hg_46 rfl (nI_add _ 72) (wd_m _) (by omega) (by decide) (hs_46 _) ?_
          refine aw_aload_n (pc := 163) d_M_image_163 rfl rfl ?_
          refine aw_get (pc := 164) d_M_image_164 lf_M_42 hg_36 rfl ?_
          refine aw_iload_n (pc := 167) d_M_image_167 rfl rfl ?_
          refine aw_bipush (pc := 168) (v := 73) d_M_image_168 (by decide) ?_
          refine aw_iadd (pc := 170) d_M_image_170 ?_
          refine aw_aload_n (pc := 171) d_M_image_171 rfl rfl ?_
          refine aw_geti (pc := 172) (y := (nI (T 6 7))) d_M_image_172 lf_M_126 hg_36 rfl b4 ?_
          refine aw_istN (pc := 175) (j := 80 * n + 73) (v := T 6 7) d_M_image_175 hg_46 rfl (nI_add _ 73) rfl (by omega) (by decide) (hs_46 _) ?_
          refine aw_aload_n (pc := 176) d_M_image_176 rfl rfl ?_
          refine aw_get (pc := 177) d_M_image_177 lf_M_45 hg_36 rfl ?_
          refine aw_iload_n (pc := 180) d_M_image_180 rfl rfl ?_
          refine aw_iconst (pc := 181) (v := 1) d_M_image_181 (by decide) ?_
          refine aw_zast (pc := 182) (j := n) d_M_image_182 hg_47 (show (A1 47).length = 2 by rw [k47]; exact lst_len _ _) rfl (by omega) (by decide) rfl (hs_47 _) ?_
          refine aw_iconst (pc := 183) (v := 1) d_M_image_183 (by decide) ?_
          refine aw_iret (pc := 184) d_M_image_184 rfl ?_
          have q1 : imW F0 (up (up (up (up F1 (80 * n + 70) (T 6 1)) (80 * n + 71) (T 6 3)) (80 * n + 72) (T 6 4 + 4294967293)) (80 * n + 73) (T 6 7)) n := imW_u (imW_u (imW_u (imW_u g2 (by omega) (by omega)) (by omega) (by omega)) (by omega) (by omega)) (by omega) (by omega)
          have q2 : imH (up (up (up (up F1 (80 * n + 70) (T 6 1)) (80 * n + 71) (T 6 3)) (80 * n + 72) (T 6 4 + 4294967293)) (80 * n + 73) (T 6 7)) n T := by
            have lo4 : ∀ x, x < 80 * n + 70 → up (up (up (up F1 (80 * n + 70) (T 6 1)) (80 * n + 71) (T 6 3)) (80 * n + 72) (T 6 4 + 4294967293)) (80 * n + 73) (T 6 7) x = F1 x := fun x hx => by rw [up_n _ _ (by omega), up_n _ _ (by omega), up_n _ _ (by omega), up_n _ _ (by omega)]
            refine ⟨fun k hk => ⟨(lo4 _ (by omega)).trans (g3 k hk).1, (lo4 _ (by omega)).trans (g3 k hk).2⟩, fun k hk => (lo4 _ (by omega)).trans (g4 k hk), fun k hk => (lo4 _ (by omega)).trans (g5 k hk), ?_, ?_, ?_, ?_⟩
            · rw [up_n _ _ (by omega), up_n _ _ (by omega), up_n _ _ (by omega), up_s]
            · rw [up_n _ _ (by omega), up_n _ _ (by omega), up_s]
            · rw [up_n _ _ (by omega), up_s]
            · rw [up_s]
          have fa : frA A (u1 (u1 (u1 (u1 (u1 A1 46 (lst 160 (up F1 (80 * n + 70) (T 6 1)))) 46 (lst 160 (up (up F1 (80 * n + 70) (T 6 1)) (80 * n + 71) (T 6 3)))) 46 (lst 160 (up (up (up F1 (80 * n + 70) (T 6 1)) (80 * n + 71) (T 6 3)) (80 * n + 72) (T 6 4 + 4294967293)))) 46 (lst 160 (up (up (up (up F1 (80 * n + 70) (T 6 1)) (80 * n + 71) (T 6 3)) (80 * n + 72) (T 6 4 + 4294967293)) (80 * n + 73) (T 6 7)))) 47 ((A1 47).set n 1)) [46, 47] := frA_t (frA_t (frA_t (frA_t (frA_t (fun x hx => f1 x (fun z => hx (List.mem_cons.mpr (Or.inl (List.mem_singleton.mp z))))) (frA_u _ _ _ (by decide))) (frA_u _ _ _ (by decide))) (frA_u _ _ _ (by decide))) (frA_u _ _ _ (by decide))) (frA_u _ _ _ (by decide))
          obtain ⟨f38, h38⟩ := h38
          obtain ⟨f43, h43⟩ := h43
          obtain ⟨f44, h44⟩ := h44
          refine ⟨rfl, _, _, _, _, rfl, ⟨hT, enM_fr hE fa (frN_r _) (by decide), ⟨⟨f38, (fa 38 (by decide)).trans h38⟩, ⟨f43, (fa 43 (by decide)).trans h43⟩, ⟨f44, (fa 44 (by decide)).trans h44⟩, h45⟩, ⟨hp, hP, (fa 42 (by decide)).trans h42, h36⟩, km_lt hk hn, ?_, _, rfl, ?_⟩, lo_of fa (frI_r _ []) (by decide) (by decide)⟩
          · show (A1 47).set n 1 = _
            rw [k47]
            exact (lst_set 2 (kf km) n 1).trans (lst_cong (kf_or km n))
          · intro m hm hb
            by_cases e : m = n
            · subst e
              rw [show u1 TI m T m = T from if_pos rfl]
              exact q2
            · rw [show u1 TI n T m = TI m from if_neg e]
              rw [Nat.testBit_or, Nat.testBit_two_pow, decide_eq_false (fun z => e z.symm), Bool.or_false] at hb
              exact imH_c (hF0 m hm hb) (fun x h1 h2 => q1 x (by omega))
        · rintro i A1 hi ⟨f1, F1, g1, g2, g3, g4, g5⟩ ih
          refine aw_iload_n (pc := 95) d_M_image_95 rfl rfl ?_
          refine aw_bipush (pc := 96) (v := 11) d_M_image_96 (by decide) ?_
          refine awn_ge (pc := 98) (tgt := 124) (i) (11) d_M_image_98 (by decide) rfl rfl (by omega) (by omega) (fun hh => absurd hh (by omega)) (fun _ => ?_)
          refine aw_aload_n (pc := 101) d_M_image_101 rfl rfl ?_
          refine aw_get (pc := 102) d_M_image_102 lf_M_42 hg_36 rfl ?_
          refine aw_iload_n (pc := 105) d_M_image_105 rfl rfl ?_
          refine aw_bipush (pc := 106) (v := 56) d_M_image_106 (by decide) ?_
          refine aw_iadd (pc := 108) d_M_image_108 ?_
          refine aw_iload_n (pc := 109) d_M_image_109 rfl rfl ?_
          refine aw_iadd (pc := 110) d_M_image_110 ?_
          refine aw_aload_n (pc := 111) d_M_image_111 rfl rfl ?_
          refine aw_get (pc := 112) d_M_image_112 lf_M_16 hg_36 rfl ?_
          refine aw_iload_n (pc := 115) d_M_image_115 rfl rfl ?_
          refine aw_ildN (pc := 116) (j := i) d_M_image_116 hg_39 ((f1 39 (by decide)).trans a2) rfl hi (by decide) ?_
          refine aw_istN (pc := 117) (j := 80 * n + 56 + i) (v := T 1 i) d_M_image_117 hg_46 g1 (ix_2 _ _ 56) rfl (by omega) (by decide) (hs_46 _) ?_
          refine aw_incN (pc := 118) (ls' := [(0, _), (1, _), (2, _), (3, _)]) (i := i) d_M_image_118 rfl rfl (by decide) rfl ?_
          refine aw_goto (pc := 121) (tgt := 95) d_M_image_121 (by decide) ?_
          refine ih _ ⟨frA_t f1 (frA_u _ _ _ (by decide)), _, rfl, imW_u g2 (by omega) (by omega), fun k hk => ⟨?_, ?_⟩, fun k hk => ?_, fun k hk => ?_⟩
          · rw [up_n _ _ (by omega)]; exact (g3 k hk).1
          · rw [up_n _ _ (by omega)]; exact (g3 k hk).2
          · rw [up_n _ _ (by omega)]; exact g4 k hk
          · by_cases e : k = i
            · subst e; rw [up_s]
            · rw [up_n _ _ (by omega)]; exact g5 k (by omega)
      · rintro i A1 hi ⟨f1, F1, g1, g2, g3, g4⟩ ih
        refine aw_iload_n (pc := 64) d_M_image_64 rfl rfl ?_
        refine aw_bipush (pc := 65) (v := 24) d_M_image_65 (by decide) ?_
        refine awn_ge (pc := 67) (tgt := 93) (i) (24) d_M_image_67 (by decide) rfl rfl (by omega) (by omega) (fun hh => absurd hh (by omega)) (fun _ => ?_)
        refine aw_aload_n (pc := 70) d_M_image_70 rfl rfl ?_
        refine aw_get (pc := 71) d_M_image_71 lf_M_42 hg_36 rfl ?_
        refine aw_iload_n (pc := 74) d_M_image_74 rfl rfl ?_
        refine aw_bipush (pc := 75) (v := 32) d_M_image_75 (by decide) ?_
        refine aw_iadd (pc := 77) d_M_image_77 ?_
        refine aw_iload_n (pc := 78) d_M_image_78 rfl rfl ?_
        refine aw_iadd (pc := 79) d_M_image_79 ?_
        refine aw_aload_n (pc := 80) d_M_image_80 rfl rfl ?_
        refine aw_get (pc := 81) d_M_image_81 lf_M_23 hg_36 rfl ?_
        refine aw_iload_n (pc := 84) d_M_image_84 rfl rfl ?_
        refine aw_ildN (pc := 85) (j := i) d_M_image_85 hg_40 ((f1 40 (by decide)).trans a3) rfl hi (by decide) ?_
        refine aw_istN (pc := 86) (j := 80 * n + 32 + i) (v := lt T i) d_M_image_86 hg_46 g1 (ix_2 _ _ 32) rfl (by omega) (by decide) (hs_46 _) ?_
        refine aw_incN (pc := 87) (ls' := [(0, _), (1, _), (2, _), (3, _)]) (i := i) d_M_image_87 rfl rfl (by decide) rfl ?_
        refine aw_goto (pc := 90) (tgt := 64) d_M_image_90 (by decide) ?_
        refine ih _ ⟨frA_t f1 (frA_u _ _ _ (by decide)), _, rfl, imW_u g2 (by omega) (by omega), fun k hk => ⟨?_, ?_⟩, fun k hk => ?_⟩
        · rw [up_n _ _ (by omega)]; exact (g3 k hk).1
        · rw [up_n _ _ (by omega)]; exact (g3 k hk).2
        · by_cases e : k = i
          · subst e; rw [up_s]
          · rw [up_n _ _ (by omega)]; exact g4 k (by omega)
    · rintro i A1 hi ⟨f1, F1, g1, g2, g3⟩ ih
      refine aw_iload_n (pc := 19) d_M_image_19 rfl rfl ?_
      refine aw_bipush (pc := 20) (v := 16) d_M_image_20 (by decide) ?_
      refine awn_ge (pc := 22) (tgt := 62) (i) (16) d_M_image_22 (by decide) rfl rfl (by omega) (by omega) (fun hh => absurd hh (by omega)) (fun _ => ?_)
      refine aw_aload_n (pc := 25) d_M_image_25 rfl rfl ?_
      refine aw_get (pc := 26) d_M_image_26 lf_M_42 hg_36 rfl ?_
      refine aw_iload_n (pc := 29) d_M_image_29 rfl rfl ?_
      refine aw_iload_n (pc := 30) d_M_image_30 rfl rfl ?_
      refine aw_iadd (pc := 31) d_M_image_31 ?_
      refine aw_aload_n (pc := 32) d_M_image_32 rfl rfl ?_
      refine aw_get (pc := 33) d_M_image_33 lf_M_7 hg_36 rfl ?_
      refine aw_iload_n (pc := 36) d_M_image_36 rfl rfl ?_
      refine aw_ildN (pc := 37) (j := i) d_M_image_37 hg_37 ((f1 37 (by decide)).trans a1) rfl hi (by decide) ?_
      refine aw_istN (pc := 38) (j := 80 * n + i) (v := bk T i) d_M_image_38 hg_46 g1 (nI_add _ _) rfl (by omega) (by decide) (hs_46 _) ?_
      refine aw_aload_n (pc := 39) d_M_image_39 rfl rfl ?_
      refine aw_get (pc := 40) d_M_image_40 lf_M_42 hg_36 rfl ?_
      refine aw_iload_n (pc := 43) d_M_image_43 rfl rfl ?_
      refine aw_bipush (pc := 44) (v := 16) d_M_image_44 (by decide) ?_
      refine aw_iadd (pc := 46) d_M_image_46 ?_
      refine aw_iload_n (pc := 47) d_M_image_47 rfl rfl ?_
      refine aw_iadd (pc := 48) d_M_image_48 ?_
      refine aw_aload_n (pc := 49) d_M_image_49 rfl rfl ?_
      refine aw_get (pc := 50) d_M_image_50 lf_M_26 hg_36 rfl ?_
      refine aw_iload_n (pc := 53) d_M_image_53 rfl rfl ?_
      refine aw_ildN (pc := 54) (j := i) d_M_image_54 hg_41 ((f1 41 (by decide)).trans a4) rfl hi (by decide) ?_
      refine aw_istN (pc := 55) (j := 80 * n + 16 + i) (v := sg T i) d_M_image_55 hg_46 rfl (ix_2 _ _ 16) rfl (by omega) (by decide) (hs_46 _) ?_
      refine aw_incN (pc := 56) (ls' := [(0, _), (1, _), (2, _), (3, _)]) (i := i) d_M_image_56 rfl rfl (by decide) rfl ?_
      refine aw_goto (pc := 59) (tgt := 19) d_M_image_59 (by decide) ?_
      refine ih _ ⟨frA_t (frA_t f1 (frA_u _ _ _ (by decide))) (frA_u _ _ _ (by decide)), _, rfl, imW_u (imW_u g2 (by omega) (by omega)) (by omega) (by omega), fun k hk => ⟨?_, ?_⟩⟩
      · rw [up_n _ _ (by omega)]
        by_cases e : k = i
        · subst e; rw [up_s]
        · rw [up_n _ _ (by omega)]; exact (g3 k (by omega)).1
      · by_cases e : k = i
        · subst e; rw [up_s]
        · rw [up_n _ _ (by omega), up_n _ _ (by omega)]; exact (g3 k (by omega)).2
  · obtain ⟨e1, e2, e3⟩ := im_n (TI := TI) (T := T) (km := km) h6
    rw [e1, e2, e3]
    refine aw_bipush (pc := 9) (v := (-2)) d_M_image_9 (by decide) ?_
    refine aw_iret (pc := 11) d_M_image_11 rfl ?_
    exact pN_r h _
end MIMAGE

