/-! days: the reference's play -/
theorem row_ac (T : town) (k m a b : Nat) (h : ¬ a = 0) (h6 : ¬ a = 6) : acT T k m a b = T a b := by
  unfold acT
  by_cases h0 : k = 0
  · rw [if_pos h0]; unfold goT u2; rw [if_neg h6]
  · rw [if_neg h0]
    by_cases h1 : k = 1
    · rw [if_pos h1]; unfold rdT u2 u1; rw [if_neg h6, if_neg h]
    · rw [if_neg h1]
      by_cases h2 : k = 2
      · rw [if_pos h2]; unfold opT u2; rw [if_neg h6]
      · rw [if_neg h2]; unfold evT u2 u1; rw [if_neg h6, if_neg h]
theorem sc_ac (T : town) (k m b : Nat) (h : ¬ b = 0) (h2 : ¬ b = 2) (h5 : ¬ b = 5) (h6 : ¬ b = 6) : acT T k m 6 b = T 6 b := by
  unfold acT
  by_cases h0 : k = 0
  · rw [if_pos h0]; unfold goT u2; rw [if_pos rfl, if_neg h5]
  · rw [if_neg h0]
    by_cases h1 : k = 1
    · rw [if_pos h1]; unfold rdT u2 u1; rw [if_pos rfl, if_neg h2, if_neg (by decide)]
    · rw [if_neg h1]
      by_cases h22 : k = 2
      · rw [if_pos h22]; unfold opT u2; rw [if_pos rfl, if_neg h]
      · rw [if_neg h22]; unfold evT u2 u1; rw [if_pos rfl, if_neg h6, if_neg (by decide)]
theorem lt_ac (T : town) (k m j : Nat) : lt (acT T k m) j = lt T j := row_ac T k m _ _ (by omega) (by omega)
theorem enG_ac {A : Nat → List Int32} {I : Nat → Nat → Int32} {T : town} (h : enG A I T) (k m : Nat) : enG A I (acT T k m) := by
  obtain ⟨h1, h2, h3, h4⟩ := h
  refine ⟨h1.trans (lst_cong (fun j _ => (row_ac T k m 1 j (by decide) (by decide)).symm)), ?_, ?_, ?_⟩
  · rw [sc_ac T k m 1 (by decide) (by decide) (by decide) (by decide)]; exact h2
  · rw [sc_ac T k m 3 (by decide) (by decide) (by decide) (by decide)]; exact h3
  · rw [sc_ac T k m 4 (by decide) (by decide) (by decide) (by decide)]; exact h4
theorem bk_op (T : town) (m : Nat) : ∀ j, j < 16 → up (bk T) 14 (T 6 0 ^^^ 2 ^ m) j = bk (opT T m) j := by
  intro j hj
  by_cases e : j = 14
  · subst e; rw [up_s]; rfl
  · rw [up_n _ _ e]
    unfold bk
    rw [if_neg e, if_neg e]
    rfl
theorem oI_neg {a : Option Nat} (h : ∀ n, a = some n → n < 1000) : 0 ≤ oI a ↔ ¬ a = none := by
  cases a with
  | none => exact ⟨fun z => absurd z (by decide), fun z => absurd rfl z⟩
  | some n => exact ⟨fun _ => (fun z => by cases z), fun _ => nI_pos' (by have := h n rfl; omega)⟩
/-- what the reference's play leaves -/
def pG (A : Nat → List Int32) (I : Nat → Nat → Int32) (J : Nat → List Int64) (U : Nat → Nat → Int64) (q : plr) : Option Value → ax_H → Prop := fun r h' => r = some (.int (stI q.1)) ∧ ∃ A' I', h' = HH A' I' J U ∧ A' 38 = lst 16 (bk q.2.2.2) ∧ (∃ f, A' 43 = lst 12 f) ∧ I' 36 14 = nI q.2.1 ∧ I' 36 15 = oI q.2.2.1 ∧ (∀ z, q.1 = some z → I' 36 13 = nI z.2) ∧ frA A A' [38, 43] ∧ frN I I'
section MGO
variable {A : Nat → List Int32} {I : Nat → Nat → Int32} {J : Nat → List Int64} {U : Nat → Nat → Int64} {T T0 : town} {np : Nat} {PD : Nat → Nat}
theorem enN_fr {A2 : Nat → List Int32} {I2 : Nat → Nat → Int32} {T2 : town} (h : enN A I T) (hA : frA A A2 [38, 43]) (hI : frN I I2) (h38 : A2 38 = lst 16 (bk T2)) (h43 : ∃ f, A2 43 = lst 12 f) (k m : Nat) (e : T2 = acT T k m) : enN A2 I2 T2 := by
  obtain ⟨⟨g1, g2, g3, g4⟩, g5, -, -⟩ := h
  subst e
  refine ⟨enG_ac ⟨(hA 39 (by decide)).trans g1, (hI 36 2 (by decide)).trans g2, (hI 36 4 (by decide)).trans g3, (hI 36 5 (by decide)).trans g4⟩ k m, ?_, h38, h43⟩
  rw [hA 40 (by decide), g5]
  exact lst_cong (fun j _ => (lt_ac T k m j).symm)
theorem enN_fr0 {A2 : Nat → List Int32} {I2 : Nat → Nat → Int32} (h : enN A I T) (hA : frA A A2 [38, 43]) (hI : frN I I2) (h38 : A2 38 = A 38) (h43 : ∃ f, A2 43 = lst 12 f) : enN A2 I2 T := by
  obtain ⟨⟨g1, g2, g3, g4⟩, g5, g6, -⟩ := h
  exact ⟨⟨(hA 39 (by decide)).trans g1, (hI 36 2 (by decide)).trans g2, (hI 36 4 (by decide)).trans g3, (hI 36 5 (by decide)).trans g4⟩, (hA 40 (by decide)).trans g5, h38.trans g6, h43⟩
set_option maxHeartbeats 1000000 in
set_option maxRecDepth 20000 in
theorem c_M_goDays (hT : okT T) (hE : enM A I T) (h38 : ∃ f, A 38 = lst 16 f) (h43 : ∃ f, A 43 = lst 12 f) (hp : np ≤ 60) (hP : ∀ j, j < 60 → PD j < 128) (h42 : A 42 = lst 60 PD) (h36 : I 36 9 = nI np) (hf : flt PD np 0 false = none) : AM m_M_goDays r_M_goDays (HH A I J U) [.ref 36] (pG A I J U (plq PD np T)) := by
  refine am_of (by decide) rfl (by first | decide | exact Nat.le_of_ble_eq_true rfl) ?_
  obtain ⟨k1, -, k2⟩ := flt_kd hf
  obtain ⟨f0, h38⟩ := h38
  refine aw_aload_n (pc := 0) d_M_goDays_0 rfl rfl ?_
  refine aw_callV0 (pc := 1) (c_M_asNow hE.1.1 h38) ok_M_asNow d_M_goDays_1 lm_M_88 hg_36 rfl rfl ⟨by decide, by decide⟩ (Nat.le_of_ble_eq_true rfl) rfl rfl ⟨by decide, by decide⟩ ?_
  refine aw_aload_n (pc := 4) d_M_goDays_4 rfl rfl ?_
  refine aw_iconst (pc := 5) (v := 0) d_M_goDays_5 (by decide) ?_
  refine aw_put (pc := 6) d_M_goDays_6 lp_M_91 hg_36 (ft_int _) (Nat.le_of_ble_eq_true rfl) (hp_36_14 _) ?_
  refine aw_aload_n (pc := 9) d_M_goDays_9 rfl rfl ?_
  refine aw_bipush (pc := 10) (v := (-6)) d_M_goDays_10 (by decide) ?_
  refine aw_put (pc := 12) d_M_goDays_12 lp_M_94 hg_36 (ft_int _) (Nat.le_of_ble_eq_true rfl) (hp_36_15 _) ?_
  refine aw_iconst (pc := 15) (v := 0) d_M_goDays_15 (by decide) ?_
  refine aw_istore_n (pc := 16) (ls' := [(0, _), (1, _)]) d_M_goDays_16 rfl (by decide) rfl ?_
  have start : ∀ (f i : Nat) (A2 : Nat → List Int32) (I2 : Nat → Nat → Int32) (T2 : town) (n : Nat) (a : Option Nat), np ≤ i + f → i ≤ np → n ≤ i → okT T2 → enN A2 I2 T2 → I2 36 14 = nI n → I2 36 15 = oI a → (∀ n, a = some n → n < 1000) → frA A A2 [38, 43] → frN I I2 → plq PD np T = ply PD np f i T2 n a → AW m_M_goDays r_M_goDays ax_E0 (ax_Zm (pG A I J U (plq PD np T)) 0 0) (HH A2 I2 J U) 0 0 17 [(0, .ref 36), (1, .int (nI i))] [] := by
    intro f
    induction f with
    | zero =>
      intro i A2 I2 T2 n a hif hin hni hT2 g1 g2 g5 g6 g8 g9 gq
      refine aw_iload_n (pc := 17) d_M_goDays_17 rfl rfl ?_
      refine aw_aload_n (pc := 18) d_M_goDays_18 rfl rfl ?_
      refine aw_geti (pc := 19) (y := (nI np)) d_M_goDays_19 lf_M_63 hg_36 rfl ((g9 36 9 (by decide)).trans h36) ?_
      refine awn_ge (pc := 22) (tgt := 179) (i) (np) d_M_goDays_22 (by decide) rfl rfl (by omega) (by omega) (fun _ => ?_) (fun hh => absurd hh (by omega))
      refine aw_bipush (pc := 179) (v := (-6)) d_M_goDays_179 (by decide) ?_
      refine aw_iret (pc := 181) d_M_goDays_181 rfl ?_
      rw [gq, ply_end (by omega)]
      exact ⟨rfl, A2, I2, rfl, g1.2.2.1, g1.2.2.2, g2, g5, (fun z hz => by cases hz), g8, g9⟩
    | succ f ihf =>
      intro i A2 I2 T2 n a hif hin hni hT2 g1 g2 g5 g6 g8 g9 gq
      by_cases hend : np ≤ i
      · refine aw_iload_n (pc := 17) d_M_goDays_17 rfl rfl ?_
        refine aw_aload_n (pc := 18) d_M_goDays_18 rfl rfl ?_
        refine aw_geti (pc := 19) (y := (nI np)) d_M_goDays_19 lf_M_63 hg_36 rfl ((g9 36 9 (by decide)).trans h36) ?_
        refine awn_ge (pc := 22) (tgt := 179) (i) (np) d_M_goDays_22 (by decide) rfl rfl (by omega) (by omega) (fun _ => ?_) (fun hh => absurd hh (by omega))
        refine aw_bipush (pc := 179) (v := (-6)) d_M_goDays_179 (by decide) ?_
        refine aw_iret (pc := 181) d_M_goDays_181 rfl ?_
        rw [gq, ply_end (by omega)]
        exact ⟨rfl, A2, I2, rfl, g1.2.2.1, g1.2.2.2, g2, g5, (fun z hz => by cases hz), g8, g9⟩
      · have hi : i < np := by omega
        have hc := hP i (by omega)
        have hk9 := k1 i (by omega) (by omega)
        have hk4 := kd_lt4 hk9
        have g42 : A2 42 = lst 60 PD := (g8 42 (by decide)).trans h42
        have g36 : I2 36 9 = nI np := (g9 36 9 (by decide)).trans h36
        unfold ply at gq
        rw [if_neg hend] at gq
        have hj1 : jx PD np i < np := by unfold jx; split <;> omega
        have hj2 : i ≤ jx PD np i := by unfold jx; split <;> omega
        have hm := nb_lt (PD (jx PD np i))
        have ej : ¬ kd (PD i) = 2 → jx PD np i = i := fun z => by unfold jx; rw [if_neg (fun q => z q.1)]
        have hm2 : kd (PD i) = 1 → nb (PD (jx PD np i)) < 6 := fun z => by
          rw [ej (by omega)]; exact nb_lt6 z
        -- an act that can not be
        have stop : ¬ wy T2 (kd (PD i)) (nb (PD (jx PD np i))) = 0 → ∀ (c : Int32) (I3 : Nat → Nat → Int32) (A3 : Nat → List Int32), A3 38 = lst 16 (bk T2) → (∃ f, A3 43 = lst 12 f) → I3 36 13 = nI (wy T2 (kd (PD i)) (nb (PD (jx PD np i)))) → I3 36 14 = nI n → I3 36 15 = oI a → frA A A3 [38, 43] → frN I I3 → ∀ jj : Int32, AW m_M_goDays r_M_goDays ax_E0 (ax_Zm (pG A I J U (plq PD np T)) 0 0) (HH A3 I3 J U) 0 0 122 [(0, .ref 36), (1, .int jj), (2, .int c)] [] := by
          intro hw c I3 A3 e1 e2 e3 e4 e5 e6 e7 jj
          have hwl : wy T2 (kd (PD i)) (nb (PD (jx PD np i))) < 4 := by unfold wy; split; omega; split; omega; split <;> omega
          refine aw_aload_n (pc := 122) d_M_goDays_122 rfl rfl ?_
          refine aw_geti (pc := 123) (y := (nI (wy T2 (kd (PD i)) (nb (PD (jx PD np i)))))) d_M_goDays_123 lf_M_97 hg_36 rfl e3 ?_
          refine aw_if_le (pc := 126) (tgt := 134) d_M_goDays_126 (by decide) (fun hh => absurd hh (nI_nle (by omega) (by omega))) (fun _ => ?_)
          refine aw_aload_n (pc := 129) d_M_goDays_129 rfl rfl ?_
          refine aw_geti (pc := 130) (y := (nI n)) d_M_goDays_130 lf_M_91 hg_36 rfl e4 ?_
          refine aw_iret (pc := 133) d_M_goDays_133 rfl ?_
          rw [if_neg hw] at gq
          rw [gq]
          exact ⟨rfl, A3, I3, rfl, e1, e2, e4, e5, (fun z hz => by cases hz; exact e3), e6, e7⟩
        -- an act done
        have onw : wy T2 (kd (PD i)) (nb (PD (jx PD np i))) = 0 → ∀ (c : Int32) (I3 : Nat → Nat → Int32) (A3 : Nat → List Int32) (fl : Int32), enN A3 I3 (acT T2 (kd (PD i)) (nb (PD (jx PD np i)))) → I3 36 13 = nI 0 → I3 36 14 = nI n → I3 36 15 = oI a → I3 36 12 = fl → fl = b2 (kd (PD i) = 1 ∧ he T2 (T2 6 5) (T2 6 0) (T2 2 (nb (PD (jx PD np i)))) = false) → frA A A3 [38, 43] → frN I I3 → AW m_M_goDays r_M_goDays ax_E0 (ax_Zm (pG A I J U (plq PD np T)) 0 0) (HH A3 I3 J U) 0 0 122 [(0, .ref 36), (1, .int (nI (jx PD np i))), (2, .int c)] [] := by
          intro hw c I3 A3 fl e1 e3 e4 e5 e12 efl e6 e7
          rw [if_pos hw] at gq
          have go : ∀ a2 : Option Nat, a2 = ast T2 (kd (PD i)) (nb (PD (jx PD np i))) n a → AW m_M_goDays r_M_goDays ax_E0 (ax_Zm (pG A I J U (plq PD np T)) 0 0) (HH A3 (u2 I3 36 15 (oI a2)) J U) 0 0 163 [(0, .ref 36), (1, .int (nI (jx PD np i))), (2, .int c)] [] := by
            intro a2 ha2
            refine aw_incN (pc := 163) (ls' := [(0, _), (1, _), (2, _)]) (i := jx PD np i) d_M_goDays_163 rfl rfl (by decide) rfl ?_
            refine aw_aload_n (pc := 166) d_M_goDays_166 rfl rfl ?_
            refine aw_dup (pc := 167) d_M_goDays_167 rfl ?_
            refine aw_geti (pc := 168) (y := (nI n)) d_M_goDays_168 lf_M_91 hg_36 rfl e4 ?_
            refine aw_iconst (pc := 171) (v := 1) d_M_goDays_171 (by decide) ?_
            refine aw_iadd (pc := 172) d_M_goDays_172 ?_
            refine aw_top (nI_1 n) ?_
            refine aw_put (pc := 173) d_M_goDays_173 lp_M_91 hg_36 (ft_int _) (Nat.le_of_ble_eq_true rfl) (hp_36_14 _) ?_
            refine aw_goto (pc := 176) (tgt := 17) d_M_goDays_176 (by decide) ?_
            refine aw_sub (ls' := [(0, _), (1, _)]) [0, 1] rfl ?_
            refine ihf (jx PD np i + 1) A3 (u2 (u2 I3 36 15 (oI a2)) 36 14 (nI (n + 1))) _ (n + 1) _ (by omega) (by omega) (by omega) (ok_ac hT2 hk4 hm hm2 hw) (enN_fr0 e1 (frA_r _ _) (frN_t (frN_u _ _ (by omega) (by omega)) (frN_u _ _ (by omega) (by omega))) rfl e1.2.2.2) rfl (show oI a2 = _ by rw [ha2]) ?_ e6 (frN_t e7 (frN_t (frN_u _ _ (by omega) (by omega)) (frN_u _ _ (by omega) (by omega)))) gq
            intro n' hn'
            unfold ast at hn'
            split at hn'
            · cases hn'; omega
            · exact g6 n' hn'
          refine aw_aload_n (pc := 122) d_M_goDays_122 rfl rfl ?_
          refine aw_geti (pc := 123) (y := (nI 0)) d_M_goDays_123 lf_M_97 hg_36 rfl e3 ?_
          refine aw_if_le (pc := 126) (tgt := 134) d_M_goDays_126 (by decide) (fun _ => ?_) (fun hh => absurd (by decide) hh)
          refine aw_aload_n (pc := 134) d_M_goDays_134 rfl rfl ?_
          refine aw_aload_n (pc := 135) d_M_goDays_135 rfl rfl ?_
          refine aw_geti (pc := 136) (y := (oI a)) d_M_goDays_136 lf_M_94 hg_36 rfl e5 ?_
          refine aw_if_ge (pc := 139) (tgt := 156) d_M_goDays_139 (by decide) (fun h139 => ?_) (fun h139 => ?_)
          · have h139 := (oI_neg g6).mp h139
            refine aw_aload_n (pc := 156) d_M_goDays_156 rfl rfl ?_
            refine aw_geti (pc := 157) (y := (oI a)) d_M_goDays_157 lf_M_94 hg_36 rfl e5 ?_
            refine aw_put (pc := 160) d_M_goDays_160 lp_M_94 hg_36 (ft_int _) (Nat.le_of_ble_eq_true rfl) (hp_36_15 _) ?_
            exact go a (by unfold ast; rw [if_neg (fun z => h139 z.2.1)])
          · have h139 : a = none := by
              rcases Decidable.em (a = none) with q | q
              · exact q
              · exact absurd ((oI_neg g6).mpr q) h139
            refine aw_aload_n (pc := 142) d_M_goDays_142 rfl rfl ?_
            refine aw_geti (pc := 143) (y := (fl)) d_M_goDays_143 lf_M_84 hg_36 rfl e12 ?_
            refine aw_if_eq (pc := 146) (tgt := 156) d_M_goDays_146 (by decide) (fun h146 => ?_) (fun h146 => ?_)
            · rw [efl] at h146
              have h146 := b2_e.mp h146
              refine aw_aload_n (pc := 156) d_M_goDays_156 rfl rfl ?_
              refine aw_geti (pc := 157) (y := (oI a)) d_M_goDays_157 lf_M_94 hg_36 rfl e5 ?_
              refine aw_put (pc := 160) d_M_goDays_160 lp_M_94 hg_36 (ft_int _) (Nat.le_of_ble_eq_true rfl) (hp_36_15 _) ?_
              exact go a (by unfold ast; rw [if_neg (fun z => h146 ⟨z.1, z.2.2⟩)])
            · have h146 : kd (PD i) = 1 ∧ he T2 (T2 6 5) (T2 6 0) (T2 2 (nb (PD (jx PD np i)))) = false := by
                rw [efl] at h146
                exact Decidable.not_not.mp (fun z => h146 (b2_e.mpr z))
              refine aw_aload_n (pc := 149) d_M_goDays_149 rfl rfl ?_
              refine aw_geti (pc := 150) (y := (nI n)) d_M_goDays_150 lf_M_91 hg_36 rfl e4 ?_
              refine aw_goto (pc := 153) (tgt := 160) d_M_goDays_153 (by decide) ?_
              refine aw_put (pc := 160) d_M_goDays_160 lp_M_94 hg_36 (ft_int _) (Nat.le_of_ble_eq_true rfl) (hp_36_15 _) ?_
              exact go (some n) (by unfold ast; rw [if_pos ⟨h146.1, h139, h146.2⟩])
        refine aw_iload_n (pc := 17) d_M_goDays_17 rfl rfl ?_
        refine aw_aload_n (pc := 18) d_M_goDays_18 rfl rfl ?_
        refine aw_geti (pc := 19) (y := (nI np)) d_M_goDays_19 lf_M_63 hg_36 rfl g36 ?_
        refine awn_ge (pc := 22) (tgt := 179) (i) (np) d_M_goDays_22 (by decide) rfl rfl (by omega) (by omega) (fun hh => absurd hh (by omega)) (fun _ => ?_)
        refine aw_aload_n (pc := 25) d_M_goDays_25 rfl rfl ?_
        refine aw_get (pc := 26) d_M_goDays_26 lf_M_29 hg_36 rfl ?_
        refine aw_iload_n (pc := 29) d_M_goDays_29 rfl rfl ?_
        refine aw_ildN (pc := 30) (j := i) d_M_goDays_30 hg_42 g42 rfl (by omega) (by decide) ?_
        refine aw_istore_n (pc := 31) (ls' := [(0, _), (1, _), (2, _)]) d_M_goDays_31 rfl (by decide) rfl ?_
        refine aw_aload_n (pc := 32) d_M_goDays_32 rfl rfl ?_
        refine aw_iconst (pc := 33) (v := 0) d_M_goDays_33 (by decide) ?_
        refine aw_put (pc := 34) d_M_goDays_34 lp_M_97 hg_36 (ft_int _) (Nat.le_of_ble_eq_true rfl) (hp_36_13 _) ?_
        refine aw_aload_n (pc := 37) d_M_goDays_37 rfl rfl ?_
        refine aw_iconst (pc := 38) (v := 0) d_M_goDays_38 (by decide) ?_
        refine aw_put (pc := 39) d_M_goDays_39 lp_M_84 hg_36 ft_0 (Nat.le_of_ble_eq_true rfl) (hp_36_12 _) ?_
        refine aw_iload_n (pc := 42) d_M_goDays_42 rfl rfl ?_
        refine aw_bipush (pc := 43) (v := 46) d_M_goDays_43 (by decide) ?_
        have gb : enN A2 (u2 (u2 I2 36 13 0) 36 12 0) T2 := enN_fr0 g1 (frA_r _ _) (frN_t (frN_u _ _ (by omega) (by omega)) (frN_u _ _ (by omega) (by omega))) rfl g1.2.2.2
        have gn : frN I (u2 (u2 I2 36 13 0) 36 12 0) := frN_t g9 (frN_t (frN_u _ _ (by omega) (by omega)) (frN_u _ _ (by omega) (by omega)))
        refine awn_ne (pc := 45) (tgt := 59) (PD i) (46) d_M_goDays_45 (by decide) rfl rfl (by omega) (by omega) (fun h45 => ?_) (fun h45 => ?_)
        · have ek1 : ¬ PD i = 46 := h45
          refine aw_iload_n (pc := 59) d_M_goDays_59 rfl rfl ?_
          refine aw_bipush (pc := 60) (v := 33) d_M_goDays_60 (by decide) ?_
          refine awn_ne (pc := 62) (tgt := 92) (PD i) (33) d_M_goDays_62 (by decide) rfl rfl (by omega) (by omega) (fun h62 => ?_) (fun h62 => ?_)
          · -- a letter or a digit
            have hne2 : ¬ kd (PD i) = 2 := fun z => by
              have : ∀ c, c < 128 → kd c = 2 → c = 33 := by decide +kernel
              exact h62 (this _ hc z)
            have ej' := ej hne2
            refine aw_aload_n (pc := 92) d_M_goDays_92 rfl rfl ?_
            refine aw_iload_n (pc := 93) d_M_goDays_93 rfl rfl ?_
            refine aw_callS1 (pc := 94) (c_M_isLetter _ _) ok_M_isLetter d_M_goDays_94 lm_M_66 rfl rfl ⟨by decide, by decide⟩ (Nat.le_of_ble_eq_true rfl) rfl rfl ⟨by decide, by decide⟩ ?_
            have hlt : (97 ≤ nI (PD i) ∧ nI (PD i) ≤ 108) ↔ kd (PD i) = 0 := by
              rw [show (97 : Int32) = nI 97 from rfl, show (108 : Int32) = nI 108 from rfl, nI_leI (by omega) (by omega), nI_leI (by omega) (by omega)]
              exact ⟨fun z => kd_0 (by omega), fun z => by have := kd_is0 z; omega⟩
            refine aw_bz (pc := 97) (tgt := 111) d_M_goDays_97 (by decide) (fun h97 => ?_) (fun h97 => ?_)
            · have h0 : ¬ kd (PD i) = 0 := fun z => h97 (hlt.mpr z)
              have hk1 : kd (PD i) = 1 := by
                have : ∀ c, c < 128 → kd c < 4 → ¬ kd c = 0 → ¬ kd c = 2 → ¬ c = 46 → kd c = 1 := by decide +kernel
                exact this _ hc hk4 h0 hne2 h45
              have hr := kd_is1 hk1
              have em : nb (PD (jx PD np i)) = PD i - 48 := by rw [ej']; unfold nb; rw [if_neg (by omega), if_pos hr]
              have esub : nI (PD i) - 48 = nI (nb (PD (jx PD np i))) := by rw [em]; exact pk_sub (a := PD i) (b := 48) hr.1
              refine aw_aload_n (pc := 111) d_M_goDays_111 rfl rfl ?_
              refine aw_iload_n (pc := 112) d_M_goDays_112 rfl rfl ?_
              refine aw_bipush (pc := 113) (v := 48) d_M_goDays_113 (by decide) ?_
              refine aw_isub (pc := 115) d_M_goDays_115 ?_
              refine aw_top esub ?_
              by_cases hw : (T2 6 2).testBit (nb (PD (jx PD np i))) = true
              · have ew : wy T2 (kd (PD i)) (nb (PD (jx PD np i))) = 2 := by unfold wy; rw [if_neg (fun z => h0 z.1), if_pos ⟨hk1, hw⟩]
                refine aw_callV1 (pc := 116) (c_M_read_1 hT2 gb.2.2.1 (hm2 hk1) hw) ok_M_read d_M_goDays_116 lm_M_107 hg_36 rfl rfl ⟨by decide, by decide⟩ (Nat.le_of_ble_eq_true rfl) rfl rfl ⟨by decide, by decide⟩ ?_
                refine aw_put (pc := 119) d_M_goDays_119 lp_M_97 hg_36 (ft_int _) (Nat.le_of_ble_eq_true rfl) (hp_36_13 _) ?_
                exact stop (by omega) (nI (PD i)) (u2 (u2 (u2 I2 36 13 0) 36 12 0) 36 13 (nI 2)) A2 gb.2.2.1 gb.2.2.2 (by rw [ew]; rfl) g2 g5 g8 (frN_t gn (frN_u _ _ (by omega) (by omega))) (nI i)
              · have ew : wy T2 (kd (PD i)) (nb (PD (jx PD np i))) = 0 := by unfold wy; rw [if_neg (fun z => h0 z.1), if_neg (fun z => hw z.2), if_neg (by omega)]
                have eac : acT T2 (kd (PD i)) (nb (PD (jx PD np i))) = rdT T2 (nb (PD (jx PD np i))) := by unfold acT; rw [if_neg h0, if_pos hk1]
                refine aw_callV1 (pc := 116) (c_M_read_0 hT2 gb (hm2 hk1) hw) ok_M_read d_M_goDays_116 lm_M_107 hg_36 rfl rfl ⟨by decide, by decide⟩ (Nat.le_of_ble_eq_true rfl) rfl rfl ⟨by decide, by decide⟩ ?_
                refine aw_put (pc := 119) d_M_goDays_119 lp_M_97 hg_36 (ft_int _) (Nat.le_of_ble_eq_true rfl) (hp_36_13 _) ?_
                refine aw_eq (ls' := [(0, .ref 36), (1, .int (nI (jx PD np i))), (2, .int (nI (PD i)))]) ?_ rfl (by rw [ej']) rfl
                refine onw ew (nI (PD i)) (u2 (u2 (u2 (u2 I2 36 13 0) 36 12 0) 36 12 (b2 (he T2 (T2 6 5) (T2 6 0) (T2 2 (nb (PD (jx PD np i)))) = false))) 36 13 (nI 0)) (u1 A2 38 (lst 16 (bk (rdT T2 (nb (PD (jx PD np i))))))) (b2 (he T2 (T2 6 5) (T2 6 0) (T2 2 (nb (PD (jx PD np i)))) = false)) (enN_fr gb (frA_u _ _ _ (by decide)) (frN_t (frN_u _ _ (by omega) (by omega)) (frN_u _ _ (by omega) (by omega))) (by rw [eac]; rfl) gb.2.2.2 _ _ rfl) rfl g2 g5 rfl (b2_c ⟨fun z => ⟨hk1, z⟩, fun z => z.2⟩) (frA_t g8 (frA_u _ _ _ (by decide))) (frN_t gn (frN_t (frN_u _ _ (by omega) (by omega)) (frN_u _ _ (by omega) (by omega))))
            · have hk0 := hlt.mp h97
              have hr := kd_is0 hk0
              have em : nb (PD (jx PD np i)) = PD i - 97 := by rw [ej']; unfold nb; rw [if_pos hr]
              have esub : nI (PD i) - 97 = nI (nb (PD (jx PD np i))) := by rw [em]; exact pk_sub (a := PD i) (b := 97) hr.1
              refine aw_aload_n (pc := 100) d_M_goDays_100 rfl rfl ?_
              refine aw_iload_n (pc := 101) d_M_goDays_101 rfl rfl ?_
              refine aw_bipush (pc := 102) (v := 97) d_M_goDays_102 (by decide) ?_
              refine aw_isub (pc := 104) d_M_goDays_104 ?_
              refine aw_top esub ?_
              by_cases hw : T2 6 5 = nb (PD (jx PD np i))
              · have ew : wy T2 (kd (PD i)) (nb (PD (jx PD np i))) = 1 := by unfold wy; rw [if_pos ⟨hk0, hw⟩]
                refine aw_callV1 (pc := 105) (c_M_goTo_1 hT2 gb.2.2.1 hm hw) ok_M_goTo d_M_goDays_105 lm_M_103 hg_36 rfl rfl ⟨by decide, by decide⟩ (Nat.le_of_ble_eq_true rfl) rfl rfl ⟨by decide, by decide⟩ ?_
                refine aw_goto (pc := 108) (tgt := 119) d_M_goDays_108 (by decide) ?_
                refine aw_put (pc := 119) d_M_goDays_119 lp_M_97 hg_36 (ft_int _) (Nat.le_of_ble_eq_true rfl) (hp_36_13 _) ?_
                exact stop (by omega) (nI (PD i)) (u2 (u2 (u2 I2 36 13 0) 36 12 0) 36 13 (nI 1)) A2 gb.2.2.1 gb.2.2.2 (by rw [ew]; rfl) g2 g5 g8 (frN_t gn (frN_u _ _ (by omega) (by omega))) (nI i)
              · have ew : wy T2 (kd (PD i)) (nb (PD (jx PD np i))) = 0 := by unfold wy; rw [if_neg (fun z => hw z.2), if_neg (by omega), if_neg (by omega)]
                have eac : acT T2 (kd (PD i)) (nb (PD (jx PD np i))) = goT T2 (nb (PD (jx PD np i))) := by unfold acT; rw [if_pos hk0]
                refine aw_callV1 (pc := 105) (c_M_goTo_0 hT2 gb.2.2.1 hm hw) ok_M_goTo d_M_goDays_105 lm_M_103 hg_36 rfl rfl ⟨by decide, by decide⟩ (Nat.le_of_ble_eq_true rfl) rfl rfl ⟨by decide, by decide⟩ ?_
                refine aw_goto (pc := 108) (tgt := 119) d_M_goDays_108 (by decide) ?_
                refine aw_put (pc := 119) d_M_goDays_119 lp_M_97 hg_36 (ft_int _) (Nat.le_of_ble_eq_true rfl) (hp_36_13 _) ?_
                refine aw_eq (ls' := [(0, .ref 36), (1, .int (nI (jx PD np i))), (2, .int (nI (PD i)))]) ?_ rfl (by rw [ej']) rfl
                refine onw ew (nI (PD i)) (u2 (u2 (u2 I2 36 13 0) 36 12 0) 36 13 (nI 0)) (u1 A2 38 (lst 16 (bk (goT T2 (nb (PD (jx PD np i))))))) 0 (enN_fr gb (frA_u _ _ _ (by decide)) (frN_u _ _ (by omega) (by omega)) (by rw [eac]; rfl) gb.2.2.2 _ _ rfl) rfl g2 g5 rfl (b2_0 (fun z => absurd z.1 (by omega))).symm (frA_t g8 (frA_u _ _ _ (by decide))) (frN_t gn (frN_u _ _ (by omega) (by omega)))
          · -- a window
            have hk2 : kd (PD i) = 2 := by rw [h62]; rfl
            have h3 := k2 i (by omega) (by omega) hk2
            have e1 : jx PD np i = i + 1 := by unfold jx; rw [if_pos ⟨hk2, by omega⟩]
            have hr := kd_is0 h3.2
            have em : nb (PD (jx PD np i)) = PD (i + 1) - 97 := by rw [e1]; unfold nb; rw [if_pos hr]
            have esub : nI (PD (i + 1)) - 97 = nI (nb (PD (jx PD np i))) := by rw [em]; exact pk_sub (a := PD (i + 1)) (b := 97) hr.1
            have ew : wy T2 (kd (PD i)) (nb (PD (jx PD np i))) = 0 := by unfold wy; rw [if_neg (by omega), if_neg (by omega), if_neg (by omega)]
            have eac : acT T2 (kd (PD i)) (nb (PD (jx PD np i))) = opT T2 (nb (PD (jx PD np i))) := by unfold acT; rw [if_neg (by omega), if_neg (by omega), if_pos hk2]
            refine aw_incN (pc := 65) (ls' := [(0, _), (1, _), (2, _)]) (i := i) d_M_goDays_65 rfl rfl (by decide) rfl ?_
            refine aw_aload_n (pc := 68) d_M_goDays_68 rfl rfl ?_
            refine aw_get (pc := 69) d_M_goDays_69 lf_M_13 hg_36 rfl ?_
            refine aw_bipush (pc := 72) (v := 14) d_M_goDays_72 (by decide) ?_
            refine aw_dup2 (pc := 74) d_M_goDays_74 rfl rfl ?_
            refine aw_ildN (pc := 75) (j := 14) d_M_goDays_75 hg_38 gb.2.2.1 rfl (by omega) (by decide) ?_
            refine aw_iconst (pc := 76) (v := 1) d_M_goDays_76 (by decide) ?_
            refine aw_aload_n (pc := 77) d_M_goDays_77 rfl rfl ?_
            refine aw_get (pc := 78) d_M_goDays_78 lf_M_29 hg_36 rfl ?_
            refine aw_iload_n (pc := 81) d_M_goDays_81 rfl rfl ?_
            refine aw_ildN (pc := 82) (j := i + 1) d_M_goDays_82 hg_42 g42 rfl (by omega) (by decide) ?_
            refine aw_bipush (pc := 83) (v := 97) d_M_goDays_83 (by decide) ?_
            refine aw_isub (pc := 85) d_M_goDays_85 ?_
            refine aw_top esub ?_
            refine aw_ishl (pc := 86) d_M_goDays_86 ?_
            refine aw_top (sh1 (by omega)) ?_
            refine aw_ixor (pc := 87) d_M_goDays_87 ?_
            refine aw_top (fb_xorI _ _) ?_
            refine aw_istN (pc := 88) (j := 14) (v := _) d_M_goDays_88 hg_38 gb.2.2.1 rfl rfl (by omega) (by decide) (hs_38 _) ?_
            refine aw_goto (pc := 89) (tgt := 122) d_M_goDays_89 (by decide) ?_
            refine aw_eq (ls' := [(0, .ref 36), (1, .int (nI (jx PD np i))), (2, .int (nI (PD i)))]) ?_ rfl (by rw [e1]) rfl
            refine onw ew (nI (PD i)) (u2 (u2 I2 36 13 0) 36 12 0) (u1 A2 38 (lst 16 (up (bk T2) 14 (bk T2 14 ^^^ 2 ^ nb (PD (jx PD np i)))))) 0 (enN_fr gb (frA_u _ _ _ (by decide)) (frN_r _) (by rw [eac]; exact lst_cong (bk_op T2 _)) gb.2.2.2 _ _ rfl) rfl g2 g5 rfl (b2_0 (fun z => absurd z.1 (by omega))).symm (frA_t g8 (frA_u _ _ _ (by decide))) gn
        · -- an evening
          have hk3 : kd (PD i) = 3 := by rw [h45]; rfl
          have ej' := ej (by omega)
          have hd99 := hT2.2.2.2.2.2.2.2.2.2.1
          by_cases hw : T2 6 6 = 99
          · have ew : wy T2 (kd (PD i)) (nb (PD (jx PD np i))) = 3 := by unfold wy; rw [if_neg (by omega), if_neg (by omega), if_pos ⟨hk3, by omega⟩]
            refine aw_aload_n (pc := 48) d_M_goDays_48 rfl rfl ?_
            refine aw_aload_n (pc := 49) d_M_goDays_49 rfl rfl ?_
            refine aw_callV1 (pc := 50) (c_M_evening_1 hT2 gb.2.2.1 hw) ok_M_evening d_M_goDays_50 lm_M_100 hg_36 rfl rfl ⟨by decide, by decide⟩ (Nat.le_of_ble_eq_true rfl) rfl rfl ⟨by decide, by decide⟩ ?_
            refine aw_put (pc := 53) d_M_goDays_53 lp_M_97 hg_36 (ft_int _) (Nat.le_of_ble_eq_true rfl) (hp_36_13 _) ?_
            refine aw_goto (pc := 56) (tgt := 122) d_M_goDays_56 (by decide) ?_
            exact stop (by omega) (nI (PD i)) (u2 (u2 (u2 I2 36 13 0) 36 12 0) 36 13 (nI 3)) A2 gb.2.2.1 gb.2.2.2 (by rw [ew]; rfl) g2 g5 g8 (frN_t gn (frN_u _ _ (by omega) (by omega))) (nI i)
          · have ew : wy T2 (kd (PD i)) (nb (PD (jx PD np i))) = 0 := by unfold wy; rw [if_neg (by omega), if_neg (by omega), if_neg (by omega)]
            have eac : acT T2 (kd (PD i)) (nb (PD (jx PD np i))) = evT T2 := by unfold acT; rw [if_neg (by omega), if_neg (by omega), if_neg (by omega)]
            refine aw_aload_n (pc := 48) d_M_goDays_48 rfl rfl ?_
            refine aw_aload_n (pc := 49) d_M_goDays_49 rfl rfl ?_
            refine aw_callVq (pc := 50) (c_M_evening_0 hT2 gb (by omega)) ok_M_evening d_M_goDays_50 lm_M_100 hg_36 rfl rfl ⟨by decide, by decide⟩ (Nat.le_of_ble_eq_true rfl) rfl rfl ⟨by decide, by decide⟩ (fun rr hh2 hq => ?_)
            obtain ⟨rfl, f9, rfl⟩ := hq
            refine aw_put (pc := 53) d_M_goDays_53 lp_M_97 hg_36 (ft_int _) (Nat.le_of_ble_eq_true rfl) (hp_36_13 _) ?_
            refine aw_goto (pc := 56) (tgt := 122) d_M_goDays_56 (by decide) ?_
            refine aw_eq (ls' := [(0, .ref 36), (1, .int (nI (jx PD np i))), (2, .int (nI (PD i)))]) ?_ rfl (by rw [ej']) rfl
            refine onw ew (nI (PD i)) (u2 (u2 (u2 I2 36 13 0) 36 12 0) 36 13 (nI 0)) (u1 (u1 A2 43 (lst 12 f9)) 38 (lst 16 (bk (evT T2)))) 0 (enN_fr gb (frA_t (frA_u _ _ _ (by decide)) (frA_u _ _ _ (by decide))) (frN_u _ _ (by omega) (by omega)) (by rw [eac]; rfl) ⟨f9, rfl⟩ _ _ rfl) rfl g2 g5 rfl (b2_0 (fun z => absurd z.1 (by omega))).symm (frA_t g8 (frA_t (frA_u _ _ _ (by decide)) (frA_u _ _ _ (by decide)))) (frN_t gn (frN_u _ _ (by omega) (by omega)))
  refine start np 0 (u1 A 38 (lst 16 (bk T))) (u2 (u2 I 36 14 0) 36 15 (-6)) T 0 none (by omega) (by omega) (by omega) hT ⟨hE.g, hE.1.2.2.1, rfl, h43⟩ rfl rfl (fun n z => by cases z) (frA_u _ _ _ (by decide)) (frN_t (frN_u _ _ (by omega) (by omega)) (frN_u _ _ (by omega) (by omega))) rfl
end MGO

