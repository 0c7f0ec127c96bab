/-! letter: both sides -/
abbrev leC (h p c k : Int32) : Prop := (0 ≤ h ∧ h ≤ 11) ∧ (0 ≤ p ∧ p ≤ 255) ∧ (0 ≤ c ∧ c ≤ 255) ∧ 0 ≤ k ∧ k ≤ 4095
def aLetter (T : town) (l h p c k : Int32) : Int32 := if ¬ (0 ≤ l ∧ l ≤ 5) then -1 else if ¬ leC h p c k then -2 else nI (T 2 l.toNatClampNeg)
def leU (T : town) (l h p c k : Nat) : town := u2 (u1 (u1 (u1 (u1 T 2 (up (T 2) l h)) 3 (up (T 3) l p)) 4 (up (T 4) l c)) 5 (up (T 5) l k)) 6 2 (sb (T 6 2) l false)
def leT (T : town) (l h p c k : Int32) : town := if (0 ≤ l ∧ l ≤ 5) ∧ leC h p c k then leU T l.toNatClampNeg h.toNatClampNeg p.toNatClampNeg c.toNatClampNeg k.toNatClampNeg else T
theorem ok_le {T : town} (hT : okT T) {l h p c k : Nat} (hh : h ≤ 11) (hp : p ≤ 255) (hc : c ≤ 255) (hk : k ≤ 4095) : okT (leU T l h p c k) := by
  obtain ⟨h0, h1, h2, h3, h4, h5, h6⟩ := hT
  exact ⟨h0, h1, fun i hi => ⟨up_lt (by omega) (h2 i hi).1, up_lt (by omega) (h2 i hi).2.1, up_lt (by omega) (h2 i hi).2.2.1, up_lt (by omega) (h2 i hi).2.2.2⟩, h3, h4, sb_64 h5, h6⟩
theorem leU_r (T : town) (l h p c k : Nat) (x y : Nat) (h2 : x < 2 ∨ 6 < x) : leU T l h p c k x y = T x y := by
  show (if x = 6 then _ else (if x = 5 then _ else (if x = 4 then _ else (if x = 3 then _ else (if x = 2 then _ else _))) : Nat → Nat) y) = _
  rw [if_neg (by omega), if_neg (by omega), if_neg (by omega), if_neg (by omega), if_neg (by omega)]
theorem lt_le (T : town) (l h p c k : Nat) : ∀ i, i < 24 → up (up (up (up (lt T) (4 * l + 0) h) (4 * l + 1) p) (4 * l + 2) c) (4 * l + 3) k i = lt (leU T l h p c k) i := by
  intro i hi
  obtain ⟨m, d, hd, e⟩ : ∃ m d, d < 4 ∧ i = 4 * m + d := ⟨i / 4, i % 4, by omega, by omega⟩
  subst e
  rcases (show d = 0 ∨ d = 1 ∨ d = 2 ∨ d = 3 by omega) with rfl | rfl | rfl | rfl
  · rw [lt_a0]
    show _ = up (T 2) l h m
    by_cases e : m = l
    · rw [e, up_s, up_n _ _ (by omega), up_n _ _ (by omega), up_n _ _ (by omega), up_s]
    · rw [up_n _ _ (by omega), up_n _ _ (by omega), up_n _ _ (by omega), up_n _ _ (by omega), up_n _ _ e, lt_a0]
  · rw [lt_a1]
    show _ = up (T 3) l p m
    by_cases e : m = l
    · rw [e, up_n _ _ (by omega), up_n _ _ (by omega), up_s, up_s]
    · rw [up_n _ _ (by omega), up_n _ _ (by omega), up_n _ _ (by omega), up_n _ _ (by omega), up_n _ _ e, lt_a1]
  · rw [lt_a2]
    show _ = up (T 4) l c m
    by_cases e : m = l
    · rw [e, up_n _ _ (by omega), up_s, up_s]
    · rw [up_n _ _ (by omega), up_n _ _ (by omega), up_n _ _ (by omega), up_n _ _ (by omega), up_n _ _ e, lt_a2]
  · rw [lt_a3]
    show _ = up (T 5) l k m
    by_cases e : m = l
    · rw [e, up_s, up_s]
    · rw [up_n _ _ (by omega), up_n _ _ (by omega), up_n _ _ (by omega), up_n _ _ (by omega), up_n _ _ e, lt_a3]
theorem bk_le (T : town) (l h p c k : Nat) : ∀ i, i < 16 → up (bk T) 15 (sb (T 6 2) l false) i = bk (leU T l h p c k) i := by
  intro i hi
  by_cases e : i = 15
  · subst e; rw [up_s]; rfl
  · rw [up_n _ _ e]
    by_cases e2 : i < 12
    · rw [bk_lo _ e2, bk_lo _ e2]; exact (leU_r T l h p c k 0 i (by omega)).symm
    · rcases (show i = 12 ∨ i = 13 ∨ i = 14 by omega) with rfl | rfl | rfl <;> rfl
section LETTER
variable {A : Nat → List Int32} {I : Nat → Nat → Int32} {J : Nat → List Int64} {U : Nat → Nat → Int64} {T : town} {np : Nat} {PD : Nat → Nat} {km : Nat} {TI : Nat → town}
theorem le_o {l h p c k : Int32} (h1 : 0 ≤ l ∧ l ≤ 5) (h2 : ¬ leC h p c k) : aLetter T l h p c k = -2 ∧ leT T l h p c k = T := by
  unfold aLetter leT
  rw [if_neg (fun z => z h1), if_pos h2, if_neg (fun z => h2 z.2)]
  exact ⟨rfl, rfl⟩
theorem le_u {l h p c k : Int32} (h1 : ¬ (0 ≤ l ∧ l ≤ 5)) : aLetter T l h p c k = -1 ∧ leT T l h p c k = T := by
  unfold aLetter leT
  rw [if_pos h1, if_neg (fun z => h1 z.1)]
  exact ⟨rfl, rfl⟩
theorem le_y {l h p c k : Int32} (h1 : 0 ≤ l ∧ l ≤ 5) (h2 : leC h p c k) : aLetter T l h p c k = nI (T 2 l.toNatClampNeg) ∧ leT T l h p c k = leU T l.toNatClampNeg h.toNatClampNeg p.toNatClampNeg c.toNatClampNeg k.toNatClampNeg := by
  unfold aLetter leT
  rw [if_neg (fun z => z h1), if_neg (fun z => z h2), if_pos ⟨h1, h2⟩]
  exact ⟨rfl, rfl⟩
set_option maxHeartbeats 1000000 in
set_option maxRecDepth 20000 in
theorem v_letter (h : ci T np PD km TI A I J) (l a p c k : Int32) : AM m_V_letter r_V_letter (HH A I J U) [.ref 0, .int l, .int a, .int p, .int c, .int k] (pV (leT T l a p c k) np PD km TI (.int (aLetter T l a p c k)) A I J) := by
  obtain ⟨hT, hE, -⟩ := id h
  obtain ⟨⟨a1, a2, a3, a4, a5, a6⟩, b6, b7, b8, b9, b10, b11, b12, b13, b14, b15⟩ := id hE
  refine am_of (by decide) rfl (by first | decide | exact Nat.le_of_ble_eq_true rfl) ?_
  refine aw_iload_n (pc := 0) d_V_letter_0 rfl rfl ?_
  refine aw_iconst (pc := 1) (v := 0) d_V_letter_1 (by decide) ?_
  refine aw_iconst (pc := 2) (v := 5) d_V_letter_2 (by decide) ?_
  refine aw_callS1 (pc := 3) (c_V_within _ _ _ _) ok_V_within d_V_letter_3 lm_V_50 rfl rfl ⟨by decide, by decide⟩ (Nat.le_of_ble_eq_true rfl) rfl rfl ⟨by decide, by decide⟩ ?_
  refine aw_bn (pc := 6) (tgt := 11) d_V_letter_6 (by decide) (fun h6 => ?_) (fun h6 => ?_)
  · refine aw_iload_n (pc := 11) d_V_letter_11 rfl rfl ?_
    refine aw_iconst (pc := 12) (v := 0) d_V_letter_12 (by decide) ?_
    refine aw_bipush (pc := 13) (v := 11) d_V_letter_13 (by decide) ?_
    refine aw_callS1 (pc := 15) (c_V_within _ _ _ _) ok_V_within d_V_letter_15 lm_V_50 rfl rfl ⟨by decide, by decide⟩ (Nat.le_of_ble_eq_true rfl) rfl rfl ⟨by decide, by decide⟩ ?_
    refine aw_bz (pc := 18) (tgt := 33) d_V_letter_18 (by decide) (fun h18 => ?_) (fun h18 => ?_)
    · obtain ⟨e1, e2⟩ := le_o (T := T) h6 (fun (z : leC a p c k) => h18 z.1)
      refine aw_bipush (pc := 33) (v := (-2)) d_V_letter_33 (by decide) ?_
      refine aw_iret (pc := 35) d_V_letter_35 rfl ?_
      rw [e1, e2]
      exact pV_r h _
    · refine aw_iload (pc := 21) d_V_letter_21 rfl ?_
      refine aw_iconst (pc := 23) (v := 0) d_V_letter_23 (by decide) ?_
      refine aw_sipush (pc := 24) (v := 4095) d_V_letter_24 (by decide) ?_
      refine aw_callS1 (pc := 27) (c_V_within _ _ _ _) ok_V_within d_V_letter_27 lm_V_50 rfl rfl ⟨by decide, by decide⟩ (Nat.le_of_ble_eq_true rfl) rfl rfl ⟨by decide, by decide⟩ ?_
      refine aw_bn (pc := 30) (tgt := 36) d_V_letter_30 (by decide) (fun h30 => ?_) (fun h30 => ?_)
      · refine aw_iload_n (pc := 36) d_V_letter_36 rfl rfl ?_
        refine aw_iconst (pc := 37) (v := 0) d_V_letter_37 (by decide) ?_
        refine aw_sipush (pc := 38) (v := 255) d_V_letter_38 (by decide) ?_
        refine aw_callS1 (pc := 41) (c_V_within _ _ _ _) ok_V_within d_V_letter_41 lm_V_50 rfl rfl ⟨by decide, by decide⟩ (Nat.le_of_ble_eq_true rfl) rfl rfl ⟨by decide, by decide⟩ ?_
        refine aw_bz (pc := 44) (tgt := 59) d_V_letter_44 (by decide) (fun h44 => ?_) (fun h44 => ?_)
        · obtain ⟨e1, e2⟩ := le_o (T := T) h6 (fun (z : leC a p c k) => h44 z.2.1)
          refine aw_bipush (pc := 59) (v := (-2)) d_V_letter_59 (by decide) ?_
          refine aw_iret (pc := 61) d_V_letter_61 rfl ?_
          rw [e1, e2]
          exact pV_r h _
        · refine aw_iload (pc := 47) d_V_letter_47 rfl ?_
          refine aw_iconst (pc := 49) (v := 0) d_V_letter_49 (by decide) ?_
          refine aw_sipush (pc := 50) (v := 255) d_V_letter_50 (by decide) ?_
          refine aw_callS1 (pc := 53) (c_V_within _ _ _ _) ok_V_within d_V_letter_53 lm_V_50 rfl rfl ⟨by decide, by decide⟩ (Nat.le_of_ble_eq_true rfl) rfl rfl ⟨by decide, by decide⟩ ?_
          refine aw_bn (pc := 56) (tgt := 62) d_V_letter_56 (by decide) (fun h56 => ?_) (fun h56 => ?_)
          · obtain ⟨e1, e2⟩ := le_y (T := T) h6 (show leC a p c k from ⟨h18, h44, h56, h30⟩)
            obtain ⟨l1, l2⟩ := clp (n := 5) (by omega) h6
            obtain ⟨x1, x2⟩ := clp (n := 11) (by omega) h18
            obtain ⟨p1, p2⟩ := clp (n := 255) (by omega) h44
            obtain ⟨c1, c2⟩ := clp (n := 255) (by omega) h56
            obtain ⟨k1, k2⟩ := clp (n := 4095) (by omega) h30
            rw [e1, e2]
            generalize l.toNatClampNeg = l0 at l1 l2
            generalize a.toNatClampNeg = a0 at x1 x2
            generalize p.toNatClampNeg = p0 at p1 p2
            generalize c.toNatClampNeg = c0 at c1 c2
            generalize k.toNatClampNeg = k0 at k1 k2
            subst l2; subst x2; subst p2; subst c2; subst k2
            have o6 := hT.2.2.2.2.2.1
            refine aw_aload_n (pc := 62) d_V_letter_62 rfl rfl ?_
            refine aw_get (pc := 63) d_V_letter_63 lf_V_10 hg_0 rfl ?_
            refine aw_get (pc := 66) d_V_letter_66 lf_V_90 hg_1 rfl ?_
            refine aw_iload_n (pc := 69) d_V_letter_69 rfl rfl ?_
            refine aw_ildN (pc := 70) (j := l0) d_V_letter_70 hg_4 a3 rfl (by omega) (by decide) ?_
            refine aw_istore (pc := 71) (ls' := [(0, _), (1, _), (2, _), (3, _), (4, _), (5, _), (6, _)]) d_V_letter_71 (by decide) rfl ?_
            refine aw_aload_n (pc := 73) d_V_letter_73 rfl rfl ?_
            refine aw_get (pc := 74) d_V_letter_74 lf_V_10 hg_0 rfl ?_
            refine aw_get (pc := 77) d_V_letter_77 lf_V_90 hg_1 rfl ?_
            refine aw_iload_n (pc := 80) d_V_letter_80 rfl rfl ?_
            refine aw_iload_n (pc := 81) d_V_letter_81 rfl rfl ?_
            refine aw_istN (pc := 82) (j := l0) (v := a0) d_V_letter_82 hg_4 a3 rfl rfl (by omega) (by decide) (hs_4 _) ?_
            refine aw_aload_n (pc := 83) d_V_letter_83 rfl rfl ?_
            refine aw_get (pc := 84) d_V_letter_84 lf_V_10 hg_0 rfl ?_
            refine aw_get (pc := 87) d_V_letter_87 lf_V_93 hg_1 rfl ?_
            refine aw_iload_n (pc := 90) d_V_letter_90 rfl rfl ?_
            refine aw_iload_n (pc := 91) d_V_letter_91 rfl rfl ?_
            refine aw_istN (pc := 92) (j := l0) (v := p0) d_V_letter_92 hg_5 a4 rfl rfl (by omega) (by decide) (hs_5 _) ?_
            refine aw_aload_n (pc := 93) d_V_letter_93 rfl rfl ?_
            refine aw_get (pc := 94) d_V_letter_94 lf_V_10 hg_0 rfl ?_
            refine aw_get (pc := 97) d_V_letter_97 lf_V_96 hg_1 rfl ?_
            refine aw_iload_n (pc := 100) d_V_letter_100 rfl rfl ?_
            refine aw_iload (pc := 101) d_V_letter_101 rfl ?_
            refine aw_istN (pc := 103) (j := l0) (v := c0) d_V_letter_103 hg_6 a5 rfl rfl (by omega) (by decide) (hs_6 _) ?_
            refine aw_aload_n (pc := 104) d_V_letter_104 rfl rfl ?_
            refine aw_get (pc := 105) d_V_letter_105 lf_V_10 hg_0 rfl ?_
            refine aw_get (pc := 108) d_V_letter_108 lf_V_99 hg_1 rfl ?_
            refine aw_iload_n (pc := 111) d_V_letter_111 rfl rfl ?_
            refine aw_iload (pc := 112) d_V_letter_112 rfl ?_
            refine aw_istN (pc := 114) (j := l0) (v := k0) d_V_letter_114 hg_7 a6 rfl rfl (by omega) (by decide) (hs_7 _) ?_
            refine aw_aload_n (pc := 115) d_V_letter_115 rfl rfl ?_
            refine aw_get (pc := 116) d_V_letter_116 lf_V_10 hg_0 rfl ?_
            refine aw_aload_n (pc := 119) d_V_letter_119 rfl rfl ?_
            refine aw_get (pc := 120) d_V_letter_120 lf_V_10 hg_0 rfl ?_
            refine aw_geti (pc := 123) (y := (nI (T 6 2))) d_V_letter_123 lf_V_102 hg_1 rfl b8 ?_
            refine aw_iload_n (pc := 126) d_V_letter_126 rfl rfl ?_
            refine aw_iconst (pc := 127) (v := 0) d_V_letter_127 (by decide) ?_
            refine aw_callS1 (pc := 128) (c_V_withBit0 (j := l0) (by omega) (by omega)) ok_V_withBit d_V_letter_128 lm_V_61 rfl rfl ⟨by decide, by decide⟩ (Nat.le_of_ble_eq_true rfl) rfl rfl ⟨by decide, by decide⟩ ?_
            refine aw_put (pc := 131) d_V_letter_131 lp_V_102 hg_1 (ft_int _) (Nat.le_of_ble_eq_true rfl) (hp_1_8 _) ?_
            refine aw_iload (pc := 134) d_V_letter_134 rfl ?_
            refine aw_iret (pc := 136) d_V_letter_136 rfl ?_
            exact ⟨rfl, _, _, _, _, rfl, ci_1 h (frA_t (frA_t (frA_t (frA_u _ _ _ (by decide)) (frA_u _ _ _ (by decide))) (frA_u _ _ _ (by decide))) (frA_u _ _ _ (by decide))) (frI_u _ _ _ _ (by decide)) ⟨⟨a1, a2, rfl, rfl, rfl, rfl⟩, b6, b7, rfl, b9, b10, b11, b12, b13, b14, b15⟩ (ok_le hT x1 p1 c1 k1), hi_of (ks := str 1) (frA_t (frA_t (frA_t (frA_u _ _ _ (by decide)) (frA_u _ _ _ (by decide))) (frA_u _ _ _ (by decide))) (frA_u _ _ _ (by decide))) (frI_u _ _ _ _ (List.mem_singleton.mpr rfl)) (by decide) (by decide)⟩
          · obtain ⟨e1, e2⟩ := le_o (T := T) h6 (fun (z : leC a p c k) => h56 z.2.2.1)
            refine aw_bipush (pc := 59) (v := (-2)) d_V_letter_59 (by decide) ?_
            refine aw_iret (pc := 61) d_V_letter_61 rfl ?_
            rw [e1, e2]
            exact pV_r h _
      · obtain ⟨e1, e2⟩ := le_o (T := T) h6 (fun (z : leC a p c k) => h30 z.2.2.2)
        refine aw_bipush (pc := 33) (v := (-2)) d_V_letter_33 (by decide) ?_
        refine aw_iret (pc := 35) d_V_letter_35 rfl ?_
        rw [e1, e2]
        exact pV_r h _
  · obtain ⟨e1, e2⟩ := le_u (T := T) (h := a) (p := p) (c := c) (k := k) h6
    refine aw_iconst (pc := 9) (v := (-1)) d_V_letter_9 (by decide) ?_
    refine aw_iret (pc := 10) d_V_letter_10 rfl ?_
    rw [e1, e2]
    exact pV_r h _
set_option maxHeartbeats 1000000 in
set_option maxRecDepth 20000 in
theorem n_letter (h : mi T np PD km TI A I J) (l a p c k : Int32) : AM m_M_letter r_M_letter (HH A I J U) [.ref 36, .int l, .int a, .int p, .int c, .int k] (pN (leT T l a p c k) np PD km TI (.int (aLetter T l a p c k)) A I J) := by
  obtain ⟨hT, hE, -⟩ := id h
  obtain ⟨⟨a1, a2, a3, a4⟩, b1, b2_, b3, b4⟩ := id hE
  refine am_of (by decide) rfl (by first | decide | exact Nat.le_of_ble_eq_true rfl) ?_
  refine aw_iload_n (pc := 0) d_M_letter_0 rfl rfl ?_
  refine aw_iconst (pc := 1) (v := 0) d_M_letter_1 (by decide) ?_
  refine aw_iconst (pc := 2) (v := 5) d_M_letter_2 (by decide) ?_
  refine aw_callS1 (pc := 3) (c_M_in _ _ _ _) ok_M_in d_M_letter_3 lm_M_52 rfl rfl ⟨by decide, by decide⟩ (Nat.le_of_ble_eq_true rfl) rfl rfl ⟨by decide, by decide⟩ ?_
  refine aw_bn (pc := 6) (tgt := 11) d_M_letter_6 (by decide) (fun h6 => ?_) (fun h6 => ?_)
  · refine aw_iload_n (pc := 11) d_M_letter_11 rfl rfl ?_
    refine aw_callS1 (pc := 12) (c_M_isHouse _ _) ok_M_isHouse d_M_letter_12 lm_M_56 rfl rfl ⟨by decide, by decide⟩ (Nat.le_of_ble_eq_true rfl) rfl rfl ⟨by decide, by decide⟩ ?_
    refine aw_bz (pc := 15) (tgt := 53) d_M_letter_15 (by decide) (fun h18 => ?_) (fun h18 => ?_)
    · obtain ⟨e1, e2⟩ := le_o (T := T) h6 (fun (z : leC a p c k) => h18 z.1)
      refine aw_bipush (pc := 53) (v := (-2)) d_M_letter_53 (by decide) ?_
      refine aw_iret (pc := 55) d_M_letter_55 rfl ?_
      rw [e1, e2]
      exact pN_r h _
    · refine aw_iload_n (pc := 18) d_M_letter_18 rfl rfl ?_
      refine aw_iconst (pc := 19) (v := 0) d_M_letter_19 (by decide) ?_
      refine aw_sipush (pc := 20) (v := 255) d_M_letter_20 (by decide) ?_
      refine aw_callS1 (pc := 23) (c_M_in _ _ _ _) ok_M_in d_M_letter_23 lm_M_52 rfl rfl ⟨by decide, by decide⟩ (Nat.le_of_ble_eq_true rfl) rfl rfl ⟨by decide, by decide⟩ ?_
      refine aw_bz (pc := 26) (tgt := 53) d_M_letter_26 (by decide) (fun h44 => ?_) (fun h44 => ?_)
      · obtain ⟨e1, e2⟩ := le_o (T := T) h6 (fun (z : leC a p c k) => h44 z.2.1)
        refine aw_bipush (pc := 53) (v := (-2)) d_M_letter_53 (by decide) ?_
        refine aw_iret (pc := 55) d_M_letter_55 rfl ?_
        rw [e1, e2]
        exact pN_r h _
      · refine aw_iload (pc := 29) d_M_letter_29 rfl ?_
        refine aw_iconst (pc := 31) (v := 0) d_M_letter_31 (by decide) ?_
        refine aw_sipush (pc := 32) (v := 255) d_M_letter_32 (by decide) ?_
        refine aw_callS1 (pc := 35) (c_M_in _ _ _ _) ok_M_in d_M_letter_35 lm_M_52 rfl rfl ⟨by decide, by decide⟩ (Nat.le_of_ble_eq_true rfl) rfl rfl ⟨by decide, by decide⟩ ?_
        refine aw_bz (pc := 38) (tgt := 53) d_M_letter_38 (by decide) (fun h56 => ?_) (fun h56 => ?_)
        · obtain ⟨e1, e2⟩ := le_o (T := T) h6 (fun (z : leC a p c k) => h56 z.2.2.1)
          refine aw_bipush (pc := 53) (v := (-2)) d_M_letter_53 (by decide) ?_
          refine aw_iret (pc := 55) d_M_letter_55 rfl ?_
          rw [e1, e2]
          exact pN_r h _
        · refine aw_iload (pc := 41) d_M_letter_41 rfl ?_
          refine aw_iconst (pc := 43) (v := 0) d_M_letter_43 (by decide) ?_
          refine aw_sipush (pc := 44) (v := 4095) d_M_letter_44 (by decide) ?_
          refine aw_callS1 (pc := 47) (c_M_in _ _ _ _) ok_M_in d_M_letter_47 lm_M_52 rfl rfl ⟨by decide, by decide⟩ (Nat.le_of_ble_eq_true rfl) rfl rfl ⟨by decide, by decide⟩ ?_
          refine aw_bn (pc := 50) (tgt := 56) d_M_letter_50 (by decide) (fun h30 => ?_) (fun h30 => ?_)
          · obtain ⟨e1, e2⟩ := le_y (T := T) h6 (show leC a p c k from ⟨h18, h44, h56, h30⟩)
            obtain ⟨l1, l2⟩ := clp (n := 5) (by omega) h6
            obtain ⟨x1, x2⟩ := clp (n := 11) (by omega) h18
            obtain ⟨p1, p2⟩ := clp (n := 255) (by omega) h44
            obtain ⟨c1, c2⟩ := clp (n := 255) (by omega) h56
            obtain ⟨k1, k2⟩ := clp (n := 4095) (by omega) h30
            rw [e1, e2]
            generalize l.toNatClampNeg = l0 at l1 l2
            generalize a.toNatClampNeg = a0 at x1 x2
            generalize p.toNatClampNeg = p0 at p1 p2
            generalize c.toNatClampNeg = c0 at c1 c2
            generalize k.toNatClampNeg = k0 at k1 k2
            subst l2; subst x2; subst p2; subst c2; subst k2
            have o6 := hT.2.2.2.2.2.1
            refine aw_aload_n (pc := 56) d_M_letter_56 rfl rfl ?_
            refine aw_get (pc := 57) d_M_letter_57 lf_M_23 hg_36 rfl ?_
            refine aw_iconst (pc := 60) (v := 4) d_M_letter_60 (by decide) ?_
            refine aw_iload_n (pc := 61) d_M_letter_61 rfl rfl ?_
            refine aw_imul (pc := 62) d_M_letter_62 ?_
            refine aw_ildN (pc := 63) (j := 4 * l0 + 0) d_M_letter_63 hg_40 a3 (ix_0 l0) (by omega) (by decide) ?_
            refine aw_istore (pc := 64) (ls' := [(0, _), (1, _), (2, _), (3, _), (4, _), (5, _), (6, _)]) d_M_letter_64 (by decide) rfl ?_
            refine aw_aload_n (pc := 66) d_M_letter_66 rfl rfl ?_
            refine aw_get (pc := 67) d_M_letter_67 lf_M_23 hg_36 rfl ?_
            refine aw_iconst (pc := 70) (v := 4) d_M_letter_70 (by decide) ?_
            refine aw_iload_n (pc := 71) d_M_letter_71 rfl rfl ?_
            refine aw_imul (pc := 72) d_M_letter_72 ?_
            refine aw_iload_n (pc := 73) d_M_letter_73 rfl rfl ?_
            refine aw_istN (pc := 74) (j := 4 * l0 + 0) (v := a0) d_M_letter_74 hg_40 a3 (ix_0 l0) rfl (by omega) (by decide) (hs_40 _) ?_
            refine aw_aload_n (pc := 75) d_M_letter_75 rfl rfl ?_
            refine aw_get (pc := 76) d_M_letter_76 lf_M_23 hg_36 rfl ?_
            refine aw_iconst (pc := 79) (v := 4) d_M_letter_79 (by decide) ?_
            refine aw_iload_n (pc := 80) d_M_letter_80 rfl rfl ?_
            refine aw_imul (pc := 81) d_M_letter_81 ?_
            refine aw_iconst (pc := 82) (v := 1) d_M_letter_82 (by decide) ?_
            refine aw_iadd (pc := 83) d_M_letter_83 ?_
            refine aw_iload_n (pc := 84) d_M_letter_84 rfl rfl ?_
            refine aw_istN (pc := 85) (j := 4 * l0 + 1) (v := p0) d_M_letter_85 hg_40 rfl (ix_at l0 1) rfl (by omega) (by decide) (hs_40 _) ?_
            refine aw_aload_n (pc := 86) d_M_letter_86 rfl rfl ?_
            refine aw_get (pc := 87) d_M_letter_87 lf_M_23 hg_36 rfl ?_
            refine aw_iconst (pc := 90) (v := 4) d_M_letter_90 (by decide) ?_
            refine aw_iload_n (pc := 91) d_M_letter_91 rfl rfl ?_
            refine aw_imul (pc := 92) d_M_letter_92 ?_
            refine aw_iconst (pc := 93) (v := 2) d_M_letter_93 (by decide) ?_
            refine aw_iadd (pc := 94) d_M_letter_94 ?_
            refine aw_iload (pc := 95) d_M_letter_95 rfl ?_
            refine aw_istN (pc := 97) (j := 4 * l0 + 2) (v := c0) d_M_letter_97 hg_40 rfl (ix_at l0 2) rfl (by omega) (by decide) (hs_40 _) ?_
            refine aw_aload_n (pc := 98) d_M_letter_98 rfl rfl ?_
            refine aw_get (pc := 99) d_M_letter_99 lf_M_23 hg_36 rfl ?_
            refine aw_iconst (pc := 102) (v := 4) d_M_letter_102 (by decide) ?_
            refine aw_iload_n (pc := 103) d_M_letter_103 rfl rfl ?_
            refine aw_imul (pc := 104) d_M_letter_104 ?_
            refine aw_iconst (pc := 105) (v := 3) d_M_letter_105 (by decide) ?_
            refine aw_iadd (pc := 106) d_M_letter_106 ?_
            refine aw_iload (pc := 107) d_M_letter_107 rfl ?_
            refine aw_istN (pc := 109) (j := 4 * l0 + 3) (v := k0) d_M_letter_109 hg_40 rfl (ix_at l0 3) rfl (by omega) (by decide) (hs_40 _) ?_
            refine aw_aload_n (pc := 110) d_M_letter_110 rfl rfl ?_
            refine aw_get (pc := 111) d_M_letter_111 lf_M_7 hg_36 rfl ?_
            refine aw_bipush (pc := 114) (v := 15) d_M_letter_114 (by decide) ?_
            refine aw_dup2 (pc := 116) d_M_letter_116 rfl rfl ?_
            refine aw_ildN (pc := 117) (j := 15) d_M_letter_117 hg_37 a1 rfl (by decide) (by decide) ?_
            refine aw_iconst (pc := 118) (v := 1) d_M_letter_118 (by decide) ?_
            refine aw_iload_n (pc := 119) d_M_letter_119 rfl rfl ?_
            refine aw_ishl (pc := 120) d_M_letter_120 ?_
            refine aw_iconst (pc := 121) (v := (-1)) d_M_letter_121 (by decide) ?_
            refine aw_ixor (pc := 122) d_M_letter_122 ?_
            refine aw_iand (pc := 123) d_M_letter_123 ?_
            refine aw_top (y := nI (sb (T 6 2) l0 false)) (sb_off (b := T 6 2) (by omega) (by omega)) ?_
            refine aw_istN (pc := 124) (j := 15) (v := sb (T 6 2) l0 false) d_M_letter_124 hg_37 a1 rfl rfl (by decide) (by decide) (hs_37 _) ?_
            refine aw_iload (pc := 125) d_M_letter_125 rfl ?_
            refine aw_iret (pc := 127) d_M_letter_127 rfl ?_
            exact ⟨by rw [lt_a0], _, _, _, _, rfl, mi_T h (frA_t (frA_t (frA_t (frA_t (frA_u _ _ _ (by decide)) (frA_u _ _ _ (by decide))) (frA_u _ _ _ (by decide))) (frA_u _ _ _ (by decide))) (frA_u _ _ _ (by decide))) rfl ⟨⟨lst_cong (bk_le T _ _ _ _ _), a2, lst_cong (lt_le T _ _ _ _ _), a4.trans (lst_cong (sg_row (fun x y _ _ => leU_r T _ _ _ _ _ x y (by omega))))⟩, b1, b2_, b3, b4⟩ (ok_le hT x1 p1 c1 k1), lo_of (ks := [37, 40]) (frA_t (frA_t (frA_t (frA_t (frA_u _ _ _ (by decide)) (frA_u _ _ _ (by decide))) (frA_u _ _ _ (by decide))) (frA_u _ _ _ (by decide))) (frA_u _ _ _ (by decide))) (frI_r _ []) (by decide) (by decide)⟩
          · obtain ⟨e1, e2⟩ := le_o (T := T) h6 (fun (z : leC a p c k) => h30 z.2.2.2)
            refine aw_bipush (pc := 53) (v := (-2)) d_M_letter_53 (by decide) ?_
            refine aw_iret (pc := 55) d_M_letter_55 rfl ?_
            rw [e1, e2]
            exact pN_r h _
  · obtain ⟨e1, e2⟩ := le_u (T := T) (h := a) (p := p) (c := c) (k := k) h6
    refine aw_iconst (pc := 9) (v := (-1)) d_M_letter_9 (by decide) ?_
    refine aw_iret (pc := 10) d_M_letter_10 rfl ?_
    rw [e1, e2]
    exact pN_r h _
end LETTER

