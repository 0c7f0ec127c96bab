/-! best, thirds, round, at, ask: the reference -/
theorem rng {v : Int32} (n : Nat) (hn : n < 2 ^ 31) (h : 0 ≤ v ∧ v ≤ nI n) : ∃ j, j ≤ n ∧ v = nI j := by
  have h1 : ¬ v < 0 := Int32.not_lt.mpr h.1
  exact nI_of2 (nI_toInt hn) h1 h.2
theorem nI_e0 {w : Nat} (hw : w < 2 ^ 31) : nI w = 0 ↔ w = 0 := nI_eq (b := 0) hw (by omega)
theorem rng_i {j n : Nat} (hn : n < 2 ^ 31) (hj : j ≤ n) : 0 ≤ nI j ∧ nI j ≤ nI n := ⟨nI_pos' (by omega), nI_le hj hn⟩
def aBest (T : town) (l w : Int32) : Int32 := if ¬ (0 ≤ l ∧ l ≤ 5) then -1 else if ¬ (0 ≤ w ∧ w ≤ 1) then -2 else if w = 0 then fO (bs T (T 2 l.toNatClampNeg) 12) else wO (bs T (T 2 l.toNatClampNeg) 12)
def aThirds (T : town) (h w : Int32) : Int32 := if ¬ (0 ≤ h ∧ h ≤ 11) then -1 else if ¬ (0 ≤ w ∧ w ≤ 1) then -2 else if w = 0 then nI (th4 T h.toNatClampNeg).1 else oI (th4 T h.toNatClampNeg).2
def aRound (T : town) (ls w : Int32) : Int32 := if ¬ (0 ≤ ls ∧ ls ≤ 63) then -1 else if ¬ (0 ≤ w ∧ w ≤ 1) then -2 else if w = 0 then fO (rd3 T ls.toNatClampNeg) else wO (rd3 T ls.toNatClampNeg)
def aAsk (T : town) (w : Int32) : Int32 := if ¬ (0 ≤ w ∧ w ≤ 1) then -2 else if atS T = 0 then -6 else if w = 0 then wO (ak T 12) else fO (ak T 12)
/-- an answer of the reference that may have laid its sets anew -/
def pM (A : Nat → List Int32) (I : Nat → Nat → Int32) (J : Nat → List Int64) (U : Nat → Nat → Int64) (v : Int32) : Option Value → ax_H → Prop := fun r h' => r = some (.int v) ∧ ∃ f, h' = HH (u1 A 44 (lst 12 f)) I J U
theorem sg_0 (T : town) (i : Nat) : sg T (2 * i + 0) = T 7 i := by
  unfold sg
  rw [show (2 * i + 0) % 2 = 0 by omega, show (2 * i + 0) / 2 = i by omega]
theorem sg_1 (T : town) (i : Nat) : sg T (2 * i + 1) = T 8 i := by
  unfold sg
  rw [show (2 * i + 1) % 2 = 1 by omega, show (2 * i + 1) / 2 = i by omega]
theorem i2_0 (l : Nat) : (2 : Int32) * nI l = nI (2 * l + 0) := by
  rw [show (2 : Int32) = nI 2 from rfl, pk_mul, Nat.add_zero]
theorem i2_1 (l : Nat) : (2 : Int32) * nI l + 1 = nI (2 * l + 1) := by
  rw [show (2 : Int32) = nI 2 from rfl, pk_mul]; exact nI_1 _
theorem wO_neg {o : Option (Nat × Nat)} (h : ∀ q, o = some q → q.1 < 1000) : wO o < 0 ↔ o = none := by
  cases o with
  | none => exact ⟨fun _ => rfl, fun _ => by decide⟩
  | some q => exact ⟨fun z => absurd z (nI_pos (by have := h q rfl; omega)), fun z => by cases z⟩
section MLISTEN
variable {A : Nat → List Int32} {I : Nat → Nat → Int32} {J : Nat → List Int64} {U : Nat → Nat → Int64} {T : town}
set_option maxHeartbeats 1000000 in
set_option maxRecDepth 20000 in
theorem c_M_laySets (hT : okT T) (hE : enM A I T) {f : Nat → Nat} (h44 : A 44 = lst 12 f) : AD m_M_laySets r_M_laySets (HH A I J U) [.ref 36] none (HH (u1 A 44 (lst 12 (hs T))) I J U) := by
  refine am_of (by decide) rfl (by first | decide | exact Nat.le_of_ble_eq_true rfl) ?_
  have hG := hE.g
  have hG2 : ∀ F, enG (u1 A 44 (lst 12 F)) I T := fun F => ⟨hG.1, hG.2⟩
  have hop := hT.2.2.2.1
  refine aw_iconst (pc := 0) (v := 0) d_M_laySets_0 (by decide) ?_
  refine aw_istore_n (pc := 1) (ls' := [(0, _), (1, _)]) d_M_laySets_1 rfl (by decide) rfl ?_
  refine aw_eq (h' := HH (u1 A 44 (lst 12 f)) I J U) ?_ (by rw [u1_self h44]) rfl rfl
  refine lp_i (fun i F => AW m_M_laySets r_M_laySets ax_E0 (ax_Zm (fun q1 q2 => q1 = none ∧ q2 = HH (u1 A 44 (lst 12 (hs T))) I J U) 0 0) (HH (u1 A 44 (lst 12 F)) I J U) 0 0 2 [(0, .ref 36), (1, .int (nI i))] []) (fun i F => ∀ j, j < i → F j = hs T j) 12 ?_ ?_ 12 0 f (by omega) (fun j hj => absurd hj (by omega))
  · intro F hV
    refine aw_iload_n (pc := 2) d_M_laySets_2 rfl rfl ?_
    refine aw_bipush (pc := 3) (v := 12) d_M_laySets_3 (by decide) ?_
    refine awn_ge (pc := 5) (tgt := 32) (12) (12) d_M_laySets_5 (by decide) rfl rfl (by omega) (by omega) (fun _ => ?_) (fun hh => absurd hh (by omega))
    refine aw_vret (pc := 32) d_M_laySets_32 rfl ?_
    exact ⟨rfl, by rw [lst_cong hV]⟩
  · intro i F hi hV ih
    refine aw_iload_n (pc := 2) d_M_laySets_2 rfl rfl ?_
    refine aw_bipush (pc := 3) (v := 12) d_M_laySets_3 (by decide) ?_
    refine awn_ge (pc := 5) (tgt := 32) (i) (12) d_M_laySets_5 (by decide) rfl rfl (by omega) (by omega) (fun hh => absurd hh (by omega)) (fun _ => ?_)
    refine aw_aload_n (pc := 8) d_M_laySets_8 rfl rfl ?_
    refine aw_get (pc := 9) d_M_laySets_9 lf_M_35 hg_36 rfl ?_
    refine aw_iload_n (pc := 12) d_M_laySets_12 rfl rfl ?_
    refine aw_aload_n (pc := 13) d_M_laySets_13 rfl rfl ?_
    refine aw_iload_n (pc := 14) d_M_laySets_14 rfl rfl ?_
    refine aw_aload_n (pc := 15) d_M_laySets_15 rfl rfl ?_
    refine aw_get (pc := 16) d_M_laySets_16 lf_M_7 hg_36 rfl ?_
    refine aw_bipush (pc := 19) (v := 14) d_M_laySets_19 (by decide) ?_
    refine aw_ildN (pc := 21) (j := 14) d_M_laySets_21 hg_37 hE.1.1 rfl (by omega) (by decide) ?_
    rw [bk_14]
    refine aw_callV1 (pc := 22) (c_M_hearers hT (hG2 F) hi hop) ok_M_hearers d_M_laySets_22 lm_M_116 hg_36 rfl rfl ⟨by decide, by decide⟩ (Nat.le_of_ble_eq_true rfl) rfl rfl ⟨by decide, by decide⟩ ?_
    refine aw_istN (pc := 25) (j := i) (v := hs T i) d_M_laySets_25 hg_44 rfl rfl rfl hi (by decide) (hs_44 _) ?_
    refine aw_incN (pc := 26) (ls' := [(0, _), (1, _)]) (i := i) d_M_laySets_26 rfl rfl (by decide) rfl ?_
    refine aw_goto (pc := 29) (tgt := 2) d_M_laySets_29 (by decide) ?_
    refine aw_eq (ih (up F i (hs T i)) (fun j hj => ?_)) (by rw [u1_u1]) rfl rfl
    by_cases e : j = i
    · subst e; rw [up_s]
    · rw [up_n _ _ e]; exact hV j (by omega)
set_option maxHeartbeats 1000000 in
set_option maxRecDepth 20000 in
theorem c_M_best (hT : okT T) (hE : enM A I T) (l w : Int32) : AD m_M_best r_M_best (HH A I J U) [.ref 36, .int l, .int w] (some (.int (aBest T l w))) (HH A I J U) := by
  refine am_of (by decide) rfl (by first | decide | exact Nat.le_of_ble_eq_true rfl) ?_
  have hG := hE.g
  have hop := hT.2.2.2.1
  refine aw_iload_n (pc := 0) d_M_best_0 rfl rfl ?_
  refine aw_iconst (pc := 1) (v := 0) d_M_best_1 (by decide) ?_
  refine aw_iconst (pc := 2) (v := 5) d_M_best_2 (by decide) ?_
  refine aw_callS1 (pc := 3) (c_M_in _ _ _ _) ok_M_in d_M_best_3 lm_M_52 rfl rfl ⟨by decide, by decide⟩ (Nat.le_of_ble_eq_true rfl) rfl rfl ⟨by decide, by decide⟩ ?_
  refine aw_bn (pc := 6) (tgt := 11) d_M_best_6 (by decide) (fun h6 => ?_) (fun h6 => ?_)
  · refine aw_iload_n (pc := 11) d_M_best_11 rfl rfl ?_
    refine aw_iconst (pc := 12) (v := 0) d_M_best_12 (by decide) ?_
    refine aw_iconst (pc := 13) (v := 1) d_M_best_13 (by decide) ?_
    refine aw_callS1 (pc := 14) (c_M_in _ _ _ _) ok_M_in d_M_best_14 lm_M_52 rfl rfl ⟨by decide, by decide⟩ (Nat.le_of_ble_eq_true rfl) rfl rfl ⟨by decide, by decide⟩ ?_
    refine aw_bn (pc := 17) (tgt := 23) d_M_best_17 (by decide) (fun h17 => ?_) (fun h17 => ?_)
    · obtain ⟨l, hl, rfl⟩ := rng 5 (by omega) h6
      obtain ⟨w, hw, rfl⟩ := rng 1 (by omega) h17
      have hlt := hT.2.2.1 l (by omega)
      have ea : aBest T (nI l) (nI w) = if w = 0 then fO (bs T (T 2 l) 12) else wO (bs T (T 2 l) 12) := by
        unfold aBest
        rw [if_neg (fun z => z h6), if_neg (fun z => z h17), nI_clamp (by omega)]
        by_cases e : w = 0
        · rw [if_pos e, if_pos (by rw [e]; rfl)]
        · rw [if_neg e, if_neg (fun z => e ((nI_e0 (by omega)).mp z))]
      refine aw_bipush (pc := 23) (v := (-6)) d_M_best_23 (by decide) ?_
      refine aw_istore_n (pc := 25) (ls' := [(0, _), (1, _), (2, _), (3, _)]) d_M_best_25 rfl (by decide) rfl ?_
      refine aw_ldc (pc := 26) d_M_best_26 lc_M_119 ?_
      refine aw_istore (pc := 28) (ls' := [(0, _), (1, _), (2, _), (3, _), (4, _)]) d_M_best_28 (by decide) rfl ?_
      refine aw_iconst (pc := 30) (v := 0) d_M_best_30 (by decide) ?_
      refine aw_istore (pc := 31) (ls' := [(0, _), (1, _), (2, _), (3, _), (4, _), (5, _)]) d_M_best_31 (by decide) rfl ?_
      refine lp_i (fun i x => AW m_M_best r_M_best ax_E0 (ax_Zm (fun q1 q2 => q1 = some (.int (aBest T (nI l) (nI w))) ∧ q2 = HH A I J U) 0 0) (HH A I J U) 0 0 33 [(0, .ref 36), (1, .int (nI l)), (2, .int (nI w)), (3, .int (wO x)), (4, .int (nI (fD 1000000 x))), (5, .int (nI i))] []) (fun i x => x = bs T (T 2 l) i) 12 ?_ ?_ 12 0 none (by omega) rfl
      · intro x hV
        subst hV
        have hl9 := bs_lt T (T 2 l) 12
        refine aw_iload (pc := 33) d_M_best_33 rfl ?_
        refine aw_bipush (pc := 35) (v := 12) d_M_best_35 (by decide) ?_
        refine awn_ge (pc := 37) (tgt := 126) (12) (12) d_M_best_37 (by decide) rfl rfl (by omega) (by omega) (fun _ => ?_) (fun hh => absurd hh (by omega))
        refine aw_iload_n (pc := 126) d_M_best_126 rfl rfl ?_
        refine aw_if_lt (pc := 127) (tgt := 135) d_M_best_127 (by decide) (fun h127 => ?_) (fun h127 => ?_)
        · have h127 := (wO_neg (fun q hq => by have := hl9 q hq; omega)).mp h127
          refine aw_iload_n (pc := 135) d_M_best_135 rfl rfl ?_
          refine aw_goto (pc := 136) (tgt := 141) d_M_best_136 (by decide) ?_
          refine aw_iret (pc := 141) d_M_best_141 rfl ?_
          exact ⟨by rw [ea, h127]; split <;> rfl, rfl⟩
        · have h127 : ¬ bs T (T 2 l) 12 = none := fun z => h127 (by rw [z]; decide)
          refine aw_iload_n (pc := 130) d_M_best_130 rfl rfl ?_
          refine aw_iconst (pc := 131) (v := 1) d_M_best_131 (by decide) ?_
          refine awn_ne (pc := 132) (tgt := 139) (w) (1) d_M_best_132 (by decide) rfl rfl (by omega) (by omega) (fun h132 => ?_) (fun h132 => ?_)
          · refine aw_iload (pc := 139) d_M_best_139 rfl ?_
            refine aw_iret (pc := 141) d_M_best_141 rfl ?_
            refine ⟨?_, rfl⟩
            rw [ea, if_pos (by omega)]
            cases hq : bs T (T 2 l) 12 with
            | none => exact absurd hq h127
            | some q => rfl
          · refine aw_iload_n (pc := 135) d_M_best_135 rfl rfl ?_
            refine aw_goto (pc := 136) (tgt := 141) d_M_best_136 (by decide) ?_
            refine aw_iret (pc := 141) d_M_best_141 rfl ?_
            exact ⟨by rw [ea, if_neg (by omega)], rfl⟩
      · intro i x hi hV ih
        subst hV
        have hHi := hs_lt T i
        have hcn := cn_le (hs T i)
        have hl9 := bs_lt T (T 2 l) i
        have hfd : fD 1000000 (bs T (T 2 l) i) ≤ 1000000 := by
          cases hq : bs T (T 2 l) i with
          | none => exact Nat.le_refl _
          | some q => have := hl9 q hq; show q.2 ≤ 1000000; omega
        have keep : bs T (T 2 l) (i + 1) = bs T (T 2 l) i → ∀ x6 x7 : Int32, AW m_M_best r_M_best ax_E0 (ax_Zm (fun q1 q2 => q1 = some (.int (aBest T (nI l) (nI w))) ∧ q2 = HH A I J U) 0 0) (HH A I J U) 0 0 91 [(0, .ref 36), (1, .int (nI l)), (2, .int (nI w)), (3, .int (wO (bs T (T 2 l) i))), (4, .int (nI (fD 1000000 (bs T (T 2 l) i)))), (5, .int (nI i)), (6, .int x6), (7, .int x7)] [] := by
          intro he x6 x7
          refine aw_iconst (pc := 91) (v := 0) d_M_best_91 (by decide) ?_
          refine aw_istore (pc := 92) (ls' := [(0, _), (1, _), (2, _), (3, _), (4, _), (5, _), (6, _), (7, _), (8, _)]) d_M_best_92 (by decide) rfl ?_
          refine aw_iload (pc := 94) d_M_best_94 rfl ?_
          refine aw_if_eq (pc := 96) (tgt := 104) d_M_best_96 (by decide) (fun _ => ?_) (fun hh => absurd rfl hh)
          refine aw_iload_n (pc := 104) d_M_best_104 rfl rfl ?_
          refine aw_istore_n (pc := 105) (ls' := [(0, _), (1, _), (2, _), (3, _), (4, _), (5, _), (6, _), (7, _), (8, _)]) d_M_best_105 rfl (by decide) rfl ?_
          refine aw_iload (pc := 106) d_M_best_106 rfl ?_
          refine aw_if_eq (pc := 108) (tgt := 116) d_M_best_108 (by decide) (fun _ => ?_) (fun hh => absurd rfl hh)
          refine aw_iload (pc := 116) d_M_best_116 rfl ?_
          refine aw_istore (pc := 118) (ls' := [(0, _), (1, _), (2, _), (3, _), (4, _), (5, _), (6, _), (7, _), (8, _)]) d_M_best_118 (by decide) rfl ?_
          refine aw_incN (pc := 120) (ls' := [(0, _), (1, _), (2, _), (3, _), (4, _), (5, _), (6, _), (7, _), (8, _)]) (i := i) d_M_best_120 rfl rfl (by decide) rfl ?_
          refine aw_goto (pc := 123) (tgt := 33) d_M_best_123 (by decide) ?_
          refine aw_sub (ls' := [(0, _), (1, _), (2, _), (3, _), (4, _), (5, _)]) [0, 1, 2, 3, 4, 5] rfl ?_
          exact ih _ he.symm
        refine aw_iload (pc := 33) d_M_best_33 rfl ?_
        refine aw_bipush (pc := 35) (v := 12) d_M_best_35 (by decide) ?_
        refine awn_ge (pc := 37) (tgt := 126) (i) (12) d_M_best_37 (by decide) rfl rfl (by omega) (by omega) (fun hh => absurd hh (by omega)) (fun _ => ?_)
        refine aw_aload_n (pc := 40) d_M_best_40 rfl rfl ?_
        refine aw_iload (pc := 41) d_M_best_41 rfl ?_
        refine aw_aload_n (pc := 43) d_M_best_43 rfl rfl ?_
        refine aw_get (pc := 44) d_M_best_44 lf_M_7 hg_36 rfl ?_
        refine aw_bipush (pc := 47) (v := 14) d_M_best_47 (by decide) ?_
        refine aw_ildN (pc := 49) (j := 14) d_M_best_49 hg_37 hE.1.1 rfl (by omega) (by decide) ?_
        rw [bk_14]
        refine aw_callV1 (pc := 50) (c_M_hearers hT hG hi hop) ok_M_hearers d_M_best_50 lm_M_116 hg_36 rfl rfl ⟨by decide, by decide⟩ (Nat.le_of_ble_eq_true rfl) rfl rfl ⟨by decide, by decide⟩ ?_
        refine aw_istore (pc := 53) (ls' := [(0, _), (1, _), (2, _), (3, _), (4, _), (5, _), (6, _)]) d_M_best_53 (by decide) rfl ?_
        refine aw_iload (pc := 55) d_M_best_55 rfl ?_
        refine aw_callS1 (pc := 57) (c_M_bits hHi) ok_M_bits d_M_best_57 lm_M_120 rfl rfl ⟨by decide, by decide⟩ (Nat.le_of_ble_eq_true rfl) rfl rfl ⟨by decide, by decide⟩ ?_
        refine aw_iconst (pc := 60) (v := 1) d_M_best_60 (by decide) ?_
        refine aw_isub (pc := 61) d_M_best_61 ?_
        refine aw_istore (pc := 62) (ls' := [(0, _), (1, _), (2, _), (3, _), (4, _), (5, _), (6, _), (7, _)]) d_M_best_62 (by decide) rfl ?_
        refine aw_iload (pc := 64) d_M_best_64 rfl ?_
        refine aw_aload_n (pc := 66) d_M_best_66 rfl rfl ?_
        refine aw_get (pc := 67) d_M_best_67 lf_M_23 hg_36 rfl ?_
        refine aw_iconst (pc := 70) (v := 4) d_M_best_70 (by decide) ?_
        refine aw_iload_n (pc := 71) d_M_best_71 rfl rfl ?_
        refine aw_imul (pc := 72) d_M_best_72 ?_
        refine aw_top (ix_0 l) ?_
        refine aw_ildN (pc := 73) (j := 4 * l + 0) d_M_best_73 hg_40 hE.1.2.2.1 rfl (by omega) (by decide) ?_
        rw [lt_a0]
        refine aw_callS1 (pc := 74) (c_M_has _ _ _) ok_M_has d_M_best_74 lm_M_77 rfl rfl ⟨by decide, by decide⟩ (Nat.le_of_ble_eq_true rfl) rfl rfl ⟨by decide, by decide⟩ ?_
        refine aw_bz (pc := 77) (tgt := 91) d_M_best_77 (by decide) (fun h77 => ?_) (fun h77 => ?_)
        · have h77 : ¬ (hs T i).testBit (T 2 l) = true := fun z => h77 ((hb_nI (Nat.lt_trans hHi (by decide)) (by omega)).mpr z)
          exact keep (by rw [bs, if_neg (fun z => h77 z.1)]) _ _
        · have h77 : (hs T i).testBit (T 2 l) = true := (hb_nI (Nat.lt_trans hHi (by decide)) (by omega)).mp h77
          have hp := cn_pos hlt.1 h77
          have es : nI (cn (hs T i)) - 1 = nI (cn (hs T i) - 1) := pk_sub (a := cn (hs T i)) (b := 1) (by omega)
          refine aw_iload (pc := 80) d_M_best_80 rfl ?_
          refine aw_iload (pc := 82) d_M_best_82 rfl ?_
          refine awn_ge (pc := 84) (tgt := 91) (cn (hs T i) - 1) (fD 1000000 (bs T (T 2 l) i)) d_M_best_84 (by decide) es rfl (by omega) (by omega) (fun h84 => ?_) (fun h84 => ?_)
          · exact keep (by rw [bs, if_neg (fun z => absurd ((lso_ (d := 1000000) (by omega)).mp z.2) (by omega))]) _ _
          · refine aw_iconst (pc := 87) (v := 1) d_M_best_87 (by decide) ?_
            refine aw_goto (pc := 88) (tgt := 92) d_M_best_88 (by decide) ?_
            refine aw_istore (pc := 92) (ls' := [(0, _), (1, _), (2, _), (3, _), (4, _), (5, _), (6, _), (7, _), (8, _)]) d_M_best_92 (by decide) rfl ?_
            refine aw_iload (pc := 94) d_M_best_94 rfl ?_
            refine aw_if_eq (pc := 96) (tgt := 104) d_M_best_96 (by decide) (fun hh => absurd hh (by decide)) (fun _ => ?_)
            refine aw_iload (pc := 99) d_M_best_99 rfl ?_
            refine aw_goto (pc := 101) (tgt := 105) d_M_best_101 (by decide) ?_
            refine aw_istore_n (pc := 105) (ls' := [(0, _), (1, _), (2, _), (3, _), (4, _), (5, _), (6, _), (7, _), (8, _)]) d_M_best_105 rfl (by decide) rfl ?_
            refine aw_iload (pc := 106) d_M_best_106 rfl ?_
            refine aw_if_eq (pc := 108) (tgt := 116) d_M_best_108 (by decide) (fun hh => absurd hh (by decide)) (fun _ => ?_)
            refine aw_iload (pc := 111) d_M_best_111 rfl ?_
            refine aw_goto (pc := 113) (tgt := 118) d_M_best_113 (by decide) ?_
            refine aw_istore (pc := 118) (ls' := [(0, _), (1, _), (2, _), (3, _), (4, _), (5, _), (6, _), (7, _), (8, _)]) d_M_best_118 (by decide) rfl ?_
            refine aw_incN (pc := 120) (ls' := [(0, _), (1, _), (2, _), (3, _), (4, _), (5, _), (6, _), (7, _), (8, _)]) (i := i) d_M_best_120 rfl rfl (by decide) rfl ?_
            refine aw_goto (pc := 123) (tgt := 33) d_M_best_123 (by decide) ?_
            refine aw_sub (ls' := [(0, _), (1, _), (2, _), (3, _), (4, _), (5, _)]) [0, 1, 2, 3, 4, 5] rfl ?_
            exact aw_eq (ih (some (i, cn (hs T i) - 1)) (by rw [bs, if_pos ⟨h77, (lso_ (d := 1000000) (by omega)).mpr h84⟩])) rfl (by show _ = [_, _, _, _, (4, Value.int (nI (cn (hs T i) - 1))), _]; rw [← es]; rfl) rfl
    · refine aw_bipush (pc := 20) (v := (-2)) d_M_best_20 (by decide) ?_
      refine aw_iret (pc := 22) d_M_best_22 rfl ?_
      exact ⟨by unfold aBest; rw [if_neg (fun z => z h6), if_pos h17], rfl⟩
  · refine aw_iconst (pc := 9) (v := (-1)) d_M_best_9 (by decide) ?_
    refine aw_iret (pc := 10) d_M_best_10 rfl ?_
    exact ⟨by unfold aBest; rw [if_pos h6], rfl⟩
set_option maxHeartbeats 1000000 in
set_option maxRecDepth 20000 in
theorem c_M_thirds (hT : okT T) (hE : enM A I T) {f : Nat → Nat} (h44 : A 44 = lst 12 f) (h w : Int32) : AM m_M_thirds r_M_thirds (HH A I J U) [.ref 36, .int h, .int w] (pM A I J U (aThirds T h w)) := by
  refine am_of (by decide) rfl (by first | decide | exact Nat.le_of_ble_eq_true rfl) ?_
  refine aw_iload_n (pc := 0) d_M_thirds_0 rfl rfl ?_
  refine aw_callS1 (pc := 1) (c_M_isHouse _ _) ok_M_isHouse d_M_thirds_1 lm_M_56 rfl rfl ⟨by decide, by decide⟩ (Nat.le_of_ble_eq_true rfl) rfl rfl ⟨by decide, by decide⟩ ?_
  refine aw_bn (pc := 4) (tgt := 9) d_M_thirds_4 (by decide) (fun h4 => ?_) (fun h4 => ?_)
  · refine aw_iload_n (pc := 9) d_M_thirds_9 rfl rfl ?_
    refine aw_iconst (pc := 10) (v := 0) d_M_thirds_10 (by decide) ?_
    refine aw_iconst (pc := 11) (v := 1) d_M_thirds_11 (by decide) ?_
    refine aw_callS1 (pc := 12) (c_M_in _ _ _ _) ok_M_in d_M_thirds_12 lm_M_52 rfl rfl ⟨by decide, by decide⟩ (Nat.le_of_ble_eq_true rfl) rfl rfl ⟨by decide, by decide⟩ ?_
    refine aw_bn (pc := 15) (tgt := 21) d_M_thirds_15 (by decide) (fun h15 => ?_) (fun h15 => ?_)
    · obtain ⟨h, hh, rfl⟩ := rng 11 (by omega) h4
      obtain ⟨w, hw, rfl⟩ := rng 1 (by omega) h15
      have ea : aThirds T (nI h) (nI w) = if w = 0 then nI (th4 T h).1 else oI (th4 T h).2 := by
        unfold aThirds
        rw [if_neg (fun z => z h4), if_neg (fun z => z h15), nI_clamp (by omega)]
        by_cases e : w = 0
        · rw [if_pos e, if_pos (by rw [e]; rfl)]
        · rw [if_neg e, if_neg (fun z => e ((nI_e0 (by omega)).mp z))]
      refine aw_aload_n (pc := 21) d_M_thirds_21 rfl rfl ?_
      refine aw_callV0 (pc := 22) (c_M_laySets hT hE h44) ok_M_laySets d_M_thirds_22 lm_M_123 hg_36 rfl rfl ⟨by decide, by decide⟩ (Nat.le_of_ble_eq_true rfl) rfl rfl ⟨by decide, by decide⟩ ?_
      refine aw_iconst (pc := 25) (v := 0) d_M_thirds_25 (by decide) ?_
      refine aw_istore_n (pc := 26) (ls' := [(0, _), (1, _), (2, _), (3, _)]) d_M_thirds_26 rfl (by decide) rfl ?_
      refine aw_bipush (pc := 27) (v := (-6)) d_M_thirds_27 (by decide) ?_
      refine aw_istore (pc := 29) (ls' := [(0, _), (1, _), (2, _), (3, _), (4, _)]) d_M_thirds_29 (by decide) rfl ?_
      refine aw_iconst (pc := 31) (v := 0) d_M_thirds_31 (by decide) ?_
      refine aw_istore (pc := 32) (ls' := [(0, _), (1, _), (2, _), (3, _), (4, _), (5, _)]) d_M_thirds_32 (by decide) rfl ?_
      refine lp_i (fun i (x : Nat × Option Nat) => AW m_M_thirds r_M_thirds ax_E0 (ax_Zm (pM A I J U (aThirds T (nI h) (nI w))) 0 0) (HH (u1 A 44 (lst 12 (hs T))) I J U) 0 0 34 [(0, .ref 36), (1, .int (nI h)), (2, .int (nI w)), (3, .int (nI x.1)), (4, .int (oI x.2)), (5, .int (nI i))] []) (fun i x => th4 T h = fd (th3 T h) (12 - i) i x ∧ x.1 ≤ 144 * i) 12 ?_ ?_ 12 0 (0, none) (by omega) ⟨rfl, by omega⟩
      · rintro ⟨n, fs⟩ ⟨hV, -⟩
        rw [fd_0] at hV
        refine aw_iload (pc := 34) d_M_thirds_34 rfl ?_
        refine aw_bipush (pc := 36) (v := 12) d_M_thirds_36 (by decide) ?_
        refine awn_ge (pc := 38) (tgt := 139) (12) (12) d_M_thirds_38 (by decide) rfl rfl (by omega) (by omega) (fun _ => ?_) (fun hh => absurd hh (by omega))
        refine aw_iload_n (pc := 139) d_M_thirds_139 rfl rfl ?_
        refine aw_if_ne (pc := 140) (tgt := 147) d_M_thirds_140 (by decide) (fun h140 => ?_) (fun h140 => ?_)
        · have h140 : ¬ w = 0 := fun z => h140 (by rw [z]; rfl)
          refine aw_iload (pc := 147) d_M_thirds_147 rfl ?_
          refine aw_iret (pc := 149) d_M_thirds_149 rfl ?_
          exact ⟨by rw [ea, if_neg h140, hV], hs T, rfl⟩
        · have h140 : w = 0 := (nI_eq (by omega) (by omega)).mp h140
          refine aw_iload_n (pc := 143) d_M_thirds_143 rfl rfl ?_
          refine aw_goto (pc := 144) (tgt := 149) d_M_thirds_144 (by decide) ?_
          refine aw_iret (pc := 149) d_M_thirds_149 rfl ?_
          exact ⟨by rw [ea, if_pos h140, hV], hs T, rfl⟩
      · rintro i x hi ⟨hV, hn⟩ ih
        rw [fd_s _ hi] at hV
        refine aw_iload (pc := 34) d_M_thirds_34 rfl ?_
        refine aw_bipush (pc := 36) (v := 12) d_M_thirds_36 (by decide) ?_
        refine awn_ge (pc := 38) (tgt := 139) (i) (12) d_M_thirds_38 (by decide) rfl rfl (by omega) (by omega) (fun hh => absurd hh (by omega)) (fun _ => ?_)
        refine aw_iload (pc := 41) d_M_thirds_41 rfl ?_
        refine aw_istore (pc := 43) (ls' := [(0, _), (1, _), (2, _), (3, _), (4, _), (5, _), (6, _)]) d_M_thirds_43 (by decide) rfl ?_
        refine lp_i (fun j (y : Nat × Option Nat) => AW m_M_thirds r_M_thirds ax_E0 (ax_Zm (pM A I J U (aThirds T (nI h) (nI w))) 0 0) (HH (u1 A 44 (lst 12 (hs T))) I J U) 0 0 45 [(0, .ref 36), (1, .int (nI h)), (2, .int (nI w)), (3, .int (nI y.1)), (4, .int (oI y.2)), (5, .int (nI i)), (6, .int (nI j))] []) (fun j y => th4 T h = fd (th3 T h) (12 - (i + 1)) (i + 1) (fd (th2 T h i) (12 - j) j y) ∧ y.1 ≤ 144 * i + 12 * j) 12 ?_ ?_ (12 - i) i x (by omega) ⟨hV, by omega⟩
        · rintro y ⟨hV2, hn2⟩
          rw [fd_0] at hV2
          refine aw_iload (pc := 45) d_M_thirds_45 rfl ?_
          refine aw_bipush (pc := 47) (v := 12) d_M_thirds_47 (by decide) ?_
          refine awn_ge (pc := 49) (tgt := 133) (12) (12) d_M_thirds_49 (by decide) rfl rfl (by omega) (by omega) (fun _ => ?_) (fun hh => absurd hh (by omega))
          refine aw_incN (pc := 133) (ls' := [(0, _), (1, _), (2, _), (3, _), (4, _), (5, _), (6, _)]) (i := i) d_M_thirds_133 rfl rfl (by decide) rfl ?_
          refine aw_goto (pc := 136) (tgt := 34) d_M_thirds_136 (by decide) ?_
          refine aw_sub (ls' := [(0, _), (1, _), (2, _), (3, _), (4, _), (5, _)]) [0, 1, 2, 3, 4, 5] rfl ?_
          exact ih y ⟨hV2, by omega⟩
        · rintro j y hj ⟨hV2, hn2⟩ ih2
          rw [fd_s _ hj] at hV2
          refine aw_iload (pc := 45) d_M_thirds_45 rfl ?_
          refine aw_bipush (pc := 47) (v := 12) d_M_thirds_47 (by decide) ?_
          refine awn_ge (pc := 49) (tgt := 133) (j) (12) d_M_thirds_49 (by decide) rfl rfl (by omega) (by omega) (fun hh => absurd hh (by omega)) (fun _ => ?_)
          refine aw_iload (pc := 52) d_M_thirds_52 rfl ?_
          refine aw_istore (pc := 54) (ls' := [(0, _), (1, _), (2, _), (3, _), (4, _), (5, _), (6, _), (7, _)]) d_M_thirds_54 (by decide) rfl ?_
          refine lp_i (fun r (z : Nat × Option Nat) => AW m_M_thirds r_M_thirds ax_E0 (ax_Zm (pM A I J U (aThirds T (nI h) (nI w))) 0 0) (HH (u1 A 44 (lst 12 (hs T))) I J U) 0 0 56 [(0, .ref 36), (1, .int (nI h)), (2, .int (nI w)), (3, .int (nI z.1)), (4, .int (oI z.2)), (5, .int (nI i)), (6, .int (nI j)), (7, .int (nI r))] []) (fun r z => th4 T h = fd (th3 T h) (12 - (i + 1)) (i + 1) (fd (th2 T h i) (12 - (j + 1)) (j + 1) (fd (th1 T h i j) (12 - r) r z)) ∧ z.1 ≤ 144 * i + 12 * j + r) 12 ?_ ?_ (12 - j) j y (by omega) ⟨hV2, by omega⟩
          · rintro z ⟨hV3, hn3⟩
            rw [fd_0] at hV3
            refine aw_iload (pc := 56) d_M_thirds_56 rfl ?_
            refine aw_bipush (pc := 58) (v := 12) d_M_thirds_58 (by decide) ?_
            refine awn_ge (pc := 60) (tgt := 127) (12) (12) d_M_thirds_60 (by decide) rfl rfl (by omega) (by omega) (fun _ => ?_) (fun hh => absurd hh (by omega))
            refine aw_incN (pc := 127) (ls' := [(0, _), (1, _), (2, _), (3, _), (4, _), (5, _), (6, _), (7, _)]) (i := j) d_M_thirds_127 rfl rfl (by decide) rfl ?_
            refine aw_goto (pc := 130) (tgt := 45) d_M_thirds_130 (by decide) ?_
            refine aw_sub (ls' := [(0, _), (1, _), (2, _), (3, _), (4, _), (5, _), (6, _)]) [0, 1, 2, 3, 4, 5, 6] rfl ?_
            exact ih2 z ⟨hV3, by omega⟩
          · rintro r ⟨n, fs⟩ hr ⟨hV3, hn3⟩ ih3
            have hn3 : n ≤ 144 * i + 12 * j + r := hn3
            rw [fd_s _ hr] at hV3
            refine aw_iload (pc := 56) d_M_thirds_56 rfl ?_
            refine aw_bipush (pc := 58) (v := 12) d_M_thirds_58 (by decide) ?_
            refine awn_ge (pc := 60) (tgt := 127) (r) (12) d_M_thirds_60 (by decide) rfl rfl (by omega) (by omega) (fun hh => absurd hh (by omega)) (fun _ => ?_)
            refine aw_aload_n (pc := 63) d_M_thirds_63 rfl rfl ?_
            refine aw_get (pc := 64) d_M_thirds_64 lf_M_35 hg_36 rfl ?_
            refine aw_iload (pc := 67) d_M_thirds_67 rfl ?_
            refine aw_ildN (pc := 69) (j := i) d_M_thirds_69 hg_44 rfl rfl hi (by decide) ?_
            refine aw_aload_n (pc := 70) d_M_thirds_70 rfl rfl ?_
            refine aw_get (pc := 71) d_M_thirds_71 lf_M_35 hg_36 rfl ?_
            refine aw_iload (pc := 74) d_M_thirds_74 rfl ?_
            refine aw_ildN (pc := 76) (j := j) d_M_thirds_76 hg_44 rfl rfl hj (by decide) ?_
            refine aw_iand (pc := 77) d_M_thirds_77 ?_
            refine aw_top (fa_and _ _) ?_
            refine aw_aload_n (pc := 78) d_M_thirds_78 rfl rfl ?_
            refine aw_get (pc := 79) d_M_thirds_79 lf_M_35 hg_36 rfl ?_
            refine aw_iload (pc := 82) d_M_thirds_82 rfl ?_
            refine aw_ildN (pc := 84) (j := r) d_M_thirds_84 hg_44 rfl rfl hr (by decide) ?_
            refine aw_iand (pc := 85) d_M_thirds_85 ?_
            refine aw_top (fa_and _ _) ?_
            refine aw_iconst (pc := 86) (v := 1) d_M_thirds_86 (by decide) ?_
            refine aw_iload_n (pc := 87) d_M_thirds_87 rfl rfl ?_
            refine aw_ishl (pc := 88) d_M_thirds_88 ?_
            refine aw_top (sh1 (by omega)) ?_
            refine awn_ne (pc := 89) (tgt := 121) ((hs T i &&& hs T j) &&& hs T r) (2 ^ h) d_M_thirds_89 (by decide) rfl rfl (Nat.lt_of_le_of_lt Nat.and_le_right (Nat.lt_trans (hs_lt T r) (by decide))) (Nat.pow_lt_pow_right (by decide) (by omega)) (fun h89 => ?_) (fun h89 => ?_)
            · refine aw_incN (pc := 121) (ls' := [(0, _), (1, _), (2, _), (3, _), (4, _), (5, _), (6, _), (7, _)]) (i := r) d_M_thirds_121 rfl rfl (by decide) rfl ?_
              refine aw_goto (pc := 124) (tgt := 56) d_M_thirds_124 (by decide) ?_
              exact ih3 (n, fs) ⟨by rw [hV3, th1, if_neg h89], by show n ≤ _; omega⟩
            · refine aw_iload_n (pc := 92) d_M_thirds_92 rfl rfl ?_
              refine aw_if_ne (pc := 93) (tgt := 114) d_M_thirds_93 (by decide) (fun h93 => ?_) (fun h93 => ?_)
              · have h93 : ¬ n = 0 := fun z => h93 (by rw [z]; rfl)
                refine aw_iload (pc := 114) d_M_thirds_114 rfl ?_
                refine aw_istore (pc := 116) (ls' := [(0, _), (1, _), (2, _), (3, _), (4, _), (5, _), (6, _), (7, _)]) d_M_thirds_116 (by decide) rfl ?_
                refine aw_incN (pc := 118) (ls' := [(0, _), (1, _), (2, _), (3, _), (4, _), (5, _), (6, _), (7, _)]) (i := n) d_M_thirds_118 rfl rfl (by decide) rfl ?_
                refine aw_incN (pc := 121) (ls' := [(0, _), (1, _), (2, _), (3, _), (4, _), (5, _), (6, _), (7, _)]) (i := r) d_M_thirds_121 rfl rfl (by decide) rfl ?_
                refine aw_goto (pc := 124) (tgt := 56) d_M_thirds_124 (by decide) ?_
                exact ih3 (n + 1, fs) ⟨by rw [hV3, th1, if_pos h89, if_neg h93], by show n + 1 ≤ _; omega⟩
              · have h93 : n = 0 := (nI_eq (by omega) (by omega)).mp h93
                refine aw_sipush (pc := 96) (v := 10000) d_M_thirds_96 (by decide) ?_
                refine aw_iload (pc := 99) d_M_thirds_99 rfl ?_
                refine aw_imul (pc := 101) d_M_thirds_101 ?_
                refine aw_bipush (pc := 102) (v := 100) d_M_thirds_102 (by decide) ?_
                refine aw_iload (pc := 104) d_M_thirds_104 rfl ?_
                refine aw_imul (pc := 106) d_M_thirds_106 ?_
                refine aw_iadd (pc := 107) d_M_thirds_107 ?_
                refine aw_iload (pc := 108) d_M_thirds_108 rfl ?_
                refine aw_iadd (pc := 110) d_M_thirds_110 ?_
                refine aw_top (th_code i j r) ?_
                refine aw_goto (pc := 111) (tgt := 116) d_M_thirds_111 (by decide) ?_
                refine aw_istore (pc := 116) (ls' := [(0, _), (1, _), (2, _), (3, _), (4, _), (5, _), (6, _), (7, _)]) d_M_thirds_116 (by decide) rfl ?_
                refine aw_incN (pc := 118) (ls' := [(0, _), (1, _), (2, _), (3, _), (4, _), (5, _), (6, _), (7, _)]) (i := n) d_M_thirds_118 rfl rfl (by decide) rfl ?_
                refine aw_incN (pc := 121) (ls' := [(0, _), (1, _), (2, _), (3, _), (4, _), (5, _), (6, _), (7, _)]) (i := r) d_M_thirds_121 rfl rfl (by decide) rfl ?_
                refine aw_goto (pc := 124) (tgt := 56) d_M_thirds_124 (by decide) ?_
                exact ih3 (n + 1, some (10000 * i + 100 * j + r)) ⟨by rw [hV3, th1, if_pos h89, if_pos h93], by show n + 1 ≤ _; omega⟩
    · refine aw_bipush (pc := 18) (v := (-2)) d_M_thirds_18 (by decide) ?_
      refine aw_iret (pc := 20) d_M_thirds_20 rfl ?_
      exact ⟨by unfold aThirds; rw [if_neg (fun z => z h4), if_pos h15], f, by rw [u1_self h44]⟩
  · refine aw_iconst (pc := 7) (v := (-1)) d_M_thirds_7 (by decide) ?_
    refine aw_iret (pc := 8) d_M_thirds_8 rfl ?_
    exact ⟨by unfold aThirds; rw [if_pos h4], f, by rw [u1_self h44]⟩
end MLISTEN

