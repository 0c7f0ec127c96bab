/-! days: the fault, the play; the class's pad -/
def oI (a : Option Nat) : Int32 := match a with
  | none => -6
  | some n => nI n
theorem oI_m6 {a : Option Nat} (h : ∀ n, a = some n → n < 1000) : oI a = -6 ↔ a = none := by
  cases a with
  | none => exact ⟨fun _ => rfl, fun _ => rfl⟩
  | some n =>
    refine ⟨fun z => ?_, fun z => by cases z⟩
    have h1 := h n rfl
    have h2 : nI n = -6 := z
    have h3 := nI_pos (n := n) (by omega)
    rw [h2] at h3
    exact absurd (by decide) h3
/-- the place of the first sign that can not stand there: k signs from i on, w: a window is to be named -/
def flt (PD : Nat → Nat) : Nat → Nat → Bool → Option Nat
  | 0, i, w => if w = true then some i else none
  | k + 1, i, w => if kd (PD i) = 9 ∨ (w = true ∧ ¬ kd (PD i) = 0) then some i else flt PD k (i + 1) (decide (kd (PD i) = 2))
theorem flt_s (PD : Nat → Nat) (k i : Nat) (w : Bool) : flt PD (k + 1) i w = if kd (PD i) = 9 ∨ (w = true ∧ ¬ kd (PD i) = 0) then some i else flt PD k (i + 1) (decide (kd (PD i) = 2)) := rfl
theorem flt_lt {PD : Nat → Nat} : ∀ {k i : Nat} {w : Bool} {n : Nat}, flt PD k i w = some n → n ≤ i + k
  | 0, i, w, n, h => by
    unfold flt at h
    by_cases hw : w = true
    · rw [if_pos hw] at h; cases h; omega
    · rw [if_neg hw] at h; cases h
  | k + 1, i, w, n, h => by
    unfold flt at h
    by_cases hc : kd (PD i) = 9 ∨ (w = true ∧ ¬ kd (PD i) = 0)
    · rw [if_pos hc] at h; cases h; omega
    · rw [if_neg hc] at h
      have := flt_lt h
      omega
/-- what comes of days: the act that can not be and why; acts; the first reading astray; the town -/
abbrev plr : Type := Option (Nat × Nat) × Nat × Option Nat × town
def ast (T : town) (k m n : Nat) (a : Option Nat) : Option Nat := if k = 1 ∧ a = none ∧ he T (T 6 5) (T 6 0) (T 2 m) = false then some n else a
def jx (PD : Nat → Nat) (np i : Nat) : Nat := if kd (PD i) = 2 ∧ i + 1 < np then i + 1 else i
def ply (PD : Nat → Nat) (np : Nat) : Nat → Nat → town → Nat → Option Nat → plr
  | 0, _, T, n, a => (none, n, a, T)
  | f + 1, i, T, n, a => if np ≤ i then (none, n, a, T) else if wy T (kd (PD i)) (nb (PD (jx PD np i))) = 0 then ply PD np f (jx PD np i + 1) (acT T (kd (PD i)) (nb (PD (jx PD np i)))) (n + 1) (ast T (kd (PD i)) (nb (PD (jx PD np i))) n a) else (some (n, wy T (kd (PD i)) (nb (PD (jx PD np i)))), n, a, T)
theorem ply_end {PD : Nat → Nat} {np f i : Nat} {T : town} {n : Nat} {a : Option Nat} (h : np ≤ i) : ply PD np f i T n a = (none, n, a, T) := by
  cases f with
  | zero => rfl
  | succ f => unfold ply; rw [if_pos h]
theorem ok_ac {T : town} (hT : okT T) {k n : Nat} (hk : k < 4) (hn : n < 12) (hn2 : k = 1 → n < 6) (hw : wy T k n = 0) : okT (acT T k n) := by
  unfold acT
  by_cases h0 : k = 0
  · rw [if_pos h0]; exact ok_go hT hn
  · rw [if_neg h0]
    by_cases h1 : k = 1
    · rw [if_pos h1]; exact ok_rd hT (hn2 h1)
    · rw [if_neg h1]
      by_cases h2 : k = 2
      · rw [if_pos h2]; exact ok_op hT hn
      · rw [if_neg h2]
        refine ok_ev hT ?_
        unfold wy at hw
        rw [if_neg (fun z => h0 z.1), if_neg (fun z => h1 z.1)] at hw
        by_cases h3 : k = 3 ∧ 99 ≤ T 6 6
        · rw [if_pos h3] at hw; omega
        · omega
section PLAY
variable {A : Nat → List Int32} {I : Nat → Nat → Int32} {J : Nat → List Int64} {U : Nat → Nat → Int64} {T T0 : town} {np : Nat} {PD : Nat → Nat}
set_option maxHeartbeats 1000000 in
set_option maxRecDepth 20000 in
theorem c_P_faultPlace (hp : np ≤ 60) (hP : ∀ j, j < 60 → PD j < 128) (h30 : A 30 = lst 60 PD) (h29 : I 29 1 = nI np) : AD m_P_faultPlace r_P_faultPlace (HH A I J U) [.ref 29] (some (.int (oI (flt PD np 0 false)))) (HH A I J U) := by
  refine am_of (by decide) rfl (by first | decide | exact Nat.le_of_ble_eq_true rfl) ?_
  refine aw_iconst (pc := 0) (v := 0) d_P_faultPlace_0 (by decide) ?_
  refine aw_istore_n (pc := 1) (ls' := [(0, _), (1, _)]) d_P_faultPlace_1 rfl (by decide) rfl ?_
  refine aw_iconst (pc := 2) (v := 0) d_P_faultPlace_2 (by decide) ?_
  refine aw_istore_n (pc := 3) (ls' := [(0, _), (1, _), (2, _)]) d_P_faultPlace_3 rfl (by decide) rfl ?_
  refine lp_i (fun i w => AW m_P_faultPlace r_P_faultPlace ax_E0 (ax_Zm (fun q1 q2 => q1 = some (.int (oI (flt PD np 0 false))) ∧ q2 = HH A I J U) 0 0) (HH A I J U) 0 0 4 [(0, .ref 29), (1, .int (b2 (w = true))), (2, .int (nI i))] []) (fun i w => i ≤ np ∧ flt PD np 0 false = flt PD (np - i) i w) np ?_ ?_ np 0 false (by omega) ⟨by omega, rfl⟩
  · intro w hV
    refine aw_iload_n (pc := 4) d_P_faultPlace_4 rfl rfl ?_
    refine aw_aload_n (pc := 5) d_P_faultPlace_5 rfl rfl ?_
    refine aw_geti (pc := 6) (y := (nI np)) d_P_faultPlace_6 lf_P_15 hg_29 rfl h29 ?_
    refine awn_ge (pc := 9) (tgt := 55) (np) (np) d_P_faultPlace_9 (by decide) rfl rfl (by omega) (by omega) (fun _ => ?_) (fun hh => absurd hh (by omega))
    refine aw_iload_n (pc := 55) d_P_faultPlace_55 rfl rfl ?_
    have e := hV.2
    rw [Nat.sub_self] at e
    refine aw_bz (pc := 56) (tgt := 66) d_P_faultPlace_56 (by decide) (fun h56 => ?_) (fun h56 => ?_)
    · refine aw_bipush (pc := 66) (v := (-6)) d_P_faultPlace_66 (by decide) ?_
      refine aw_iret (pc := 68) d_P_faultPlace_68 rfl ?_
      exact ⟨by rw [e]; unfold flt; rw [if_neg h56]; rfl, rfl⟩
    · refine aw_aload_n (pc := 59) d_P_faultPlace_59 rfl rfl ?_
      refine aw_geti (pc := 60) (y := (nI np)) d_P_faultPlace_60 lf_P_15 hg_29 rfl h29 ?_
      refine aw_goto (pc := 63) (tgt := 68) d_P_faultPlace_63 (by decide) ?_
      refine aw_iret (pc := 68) d_P_faultPlace_68 rfl ?_
      exact ⟨by rw [e]; unfold flt; rw [if_pos h56]; rfl, rfl⟩
  · intro i w hi hV ih
    have hc := hP i (by omega)
    have hkl := kd_le (PD i)
    have e := hV.2
    rw [show np - i = (np - (i + 1)) + 1 by omega] at e
    rw [flt_s] at e
    have bad : kd (PD i) = 9 ∨ (w = true ∧ ¬ kd (PD i) = 0) → AW m_P_faultPlace r_P_faultPlace ax_E0 (ax_Zm (fun q1 q2 => q1 = some (.int (oI (flt PD np 0 false))) ∧ q2 = HH A I J U) 0 0) (HH A I J U) 0 0 36 [(0, .ref 29), (1, .int (b2 (w = true))), (2, .int (nI i)), (3, .int (kI (kd (PD i))))] [] := by
      intro hb
      refine aw_iload_n (pc := 36) d_P_faultPlace_36 rfl rfl ?_
      refine aw_iret (pc := 37) d_P_faultPlace_37 rfl ?_
      rw [if_pos hb] at e
      exact ⟨by rw [e]; rfl, rfl⟩
    have good : ¬ (kd (PD i) = 9 ∨ (w = true ∧ ¬ kd (PD i) = 0)) → AW m_P_faultPlace r_P_faultPlace ax_E0 (ax_Zm (fun q1 q2 => q1 = some (.int (oI (flt PD np 0 false))) ∧ q2 = HH A I J U) 0 0) (HH A I J U) 0 0 38 [(0, .ref 29), (1, .int (b2 (w = true))), (2, .int (nI i)), (3, .int (kI (kd (PD i))))] [] := by
      intro hg
      rw [if_neg hg] at e
      refine aw_iload_n (pc := 38) d_P_faultPlace_38 rfl rfl ?_
      refine aw_iconst (pc := 39) (v := 2) d_P_faultPlace_39 (by decide) ?_
      refine aw_icmp_ne (pc := 40) (tgt := 47) d_P_faultPlace_40 (by decide) (fun h40 => ?_) (fun h40 => ?_)
      · have h40 : ¬ kd (PD i) = 2 := fun z => h40 (by rw [z]; rfl)
        refine aw_iconst (pc := 47) (v := 0) d_P_faultPlace_47 (by decide) ?_
        refine aw_istore_n (pc := 48) (ls' := [(0, _), (1, _), (2, _), (3, _)]) d_P_faultPlace_48 rfl (by decide) rfl ?_
        refine aw_incN (pc := 49) (ls' := [(0, _), (1, _), (2, _), (3, _)]) (i := i) d_P_faultPlace_49 rfl rfl (by decide) rfl ?_
        refine aw_goto (pc := 52) (tgt := 4) d_P_faultPlace_52 (by decide) ?_
        refine aw_sub (ls' := [(0, _), (1, _), (2, _)]) [0, 1, 2] rfl ?_
        exact ih false ⟨by omega, by rw [decide_eq_false h40] at e; exact e⟩
      · have h40 : kd (PD i) = 2 := (kI_eq hkl (by omega)).mp h40
        refine aw_iconst (pc := 43) (v := 1) d_P_faultPlace_43 (by decide) ?_
        refine aw_goto (pc := 44) (tgt := 48) d_P_faultPlace_44 (by decide) ?_
        refine aw_istore_n (pc := 48) (ls' := [(0, _), (1, _), (2, _), (3, _)]) d_P_faultPlace_48 rfl (by decide) rfl ?_
        refine aw_incN (pc := 49) (ls' := [(0, _), (1, _), (2, _), (3, _)]) (i := i) d_P_faultPlace_49 rfl rfl (by decide) rfl ?_
        refine aw_goto (pc := 52) (tgt := 4) d_P_faultPlace_52 (by decide) ?_
        refine aw_sub (ls' := [(0, _), (1, _), (2, _)]) [0, 1, 2] rfl ?_
        exact ih true ⟨by omega, by rw [decide_eq_true h40] at e; exact e⟩
    refine aw_iload_n (pc := 4) d_P_faultPlace_4 rfl rfl ?_
    refine aw_aload_n (pc := 5) d_P_faultPlace_5 rfl rfl ?_
    refine aw_geti (pc := 6) (y := (nI np)) d_P_faultPlace_6 lf_P_15 hg_29 rfl h29 ?_
    refine awn_ge (pc := 9) (tgt := 55) (i) (np) d_P_faultPlace_9 (by decide) rfl rfl (by omega) (by omega) (fun hh => absurd hh (by omega)) (fun _ => ?_)
    refine aw_aload_n (pc := 12) d_P_faultPlace_12 rfl rfl ?_
    refine aw_get (pc := 13) d_P_faultPlace_13 lf_P_9 hg_29 rfl ?_
    refine aw_iload_n (pc := 16) d_P_faultPlace_16 rfl rfl ?_
    refine aw_ildN (pc := 17) (j := i) d_P_faultPlace_17 hg_30 h30 rfl (by omega) (by decide) ?_
    refine aw_callS1 (pc := 18) (c_P_kindOf hc) ok_P_kindOf d_P_faultPlace_18 lm_P_31 rfl rfl ⟨by decide, by decide⟩ (Nat.le_of_ble_eq_true rfl) rfl rfl ⟨by decide, by decide⟩ ?_
    refine aw_istore_n (pc := 21) (ls' := [(0, _), (1, _), (2, _), (3, _)]) d_P_faultPlace_21 rfl (by decide) rfl ?_
    refine aw_iload_n (pc := 22) d_P_faultPlace_22 rfl rfl ?_
    refine aw_bipush (pc := 23) (v := (-6)) d_P_faultPlace_23 (by decide) ?_
    refine aw_icmp_eq (pc := 25) (tgt := 36) d_P_faultPlace_25 (by decide) (fun h25 => ?_) (fun h25 => ?_)
    · have h25 : kd (PD i) = 9 := by
        have : ∀ k, k < 10 → kI k = -6 → k = 9 := by decide +kernel
        exact this _ (by omega) h25
      exact bad (Or.inl h25)
    · have h25 : ¬ kd (PD i) = 9 := fun z => h25 (by rw [z]; rfl)
      refine aw_iload_n (pc := 28) d_P_faultPlace_28 rfl rfl ?_
      refine aw_bz (pc := 29) (tgt := 38) d_P_faultPlace_29 (by decide) (fun h29' => ?_) (fun h29' => ?_)
      · exact good (fun z => z.elim h25 (fun z => h29' z.1))
      · refine aw_iload_n (pc := 32) d_P_faultPlace_32 rfl rfl ?_
        refine aw_if_eq (pc := 33) (tgt := 38) d_P_faultPlace_33 (by decide) (fun h33 => ?_) (fun h33 => ?_)
        · have h33 : kd (PD i) = 0 := (kI_eq hkl (by omega)).mp h33
          exact good (fun z => z.elim h25 (fun z => z.2 h33))
        · have h33 : ¬ kd (PD i) = 0 := fun z => h33 (by rw [z]; rfl)
          exact bad (Or.inr ⟨h29', h33⟩)
set_option maxHeartbeats 1000000 in
set_option maxRecDepth 20000 in
theorem c_P_goesAstray (hT : okT T) (hE : enS A I 22 T) {l : Nat} (hl : l < 6) : AD m_P_goesAstray r_P_goesAstray (HH A I J U) [.ref 22, .int (nI l)] (some (.int (b2 (he T (T 6 5) (T 6 0) (T 2 l) = false)))) (HH A I J U) := by
  refine am_of (by decide) rfl (by first | decide | exact Nat.le_of_ble_eq_true rfl) ?_
  have hEh := hE.h
  obtain ⟨⟨a1, a2, a3, a4, a5, a6⟩, b6, b7, b8, b9, b10, b11, b12, b13, b14, b15⟩ := hE
  have hop := hT.2.2.2.1
  have hpl := hT.2.2.2.2.2.2.2.2.1
  have hlt := hT.2.2.1 l hl
  have hbi := HS_bit T (T 6 5) (T 6 0) hlt.1
  have hHl := HS_lt T (T 6 5) (T 6 0)
  refine aw_aload_n (pc := 0) d_P_goesAstray_0 rfl rfl ?_
  refine aw_aload_n (pc := 1) d_P_goesAstray_1 rfl rfl ?_
  refine aw_geti (pc := 2) (y := (nI (T 6 5))) d_P_goesAstray_2 lf_P_64 hg_22 rfl b11 ?_
  refine aw_aload_n (pc := 5) d_P_goesAstray_5 rfl rfl ?_
  refine aw_geti (pc := 6) (y := (nI (T 6 0))) d_P_goesAstray_6 lf_P_67 hg_22 rfl b6 ?_
  refine aw_callV1 (pc := 9) (c_S_hearers_22 hT hEh hpl hop) ok_S_hearers d_P_goesAstray_9 lm_P_70 hg_22 rfl rfl ⟨by decide, by decide⟩ (Nat.le_of_ble_eq_true rfl) rfl rfl ⟨by decide, by decide⟩ ?_
  refine aw_aload_n (pc := 12) d_P_goesAstray_12 rfl rfl ?_
  refine aw_get (pc := 13) d_P_goesAstray_13 lf_P_73 hg_22 rfl ?_
  refine aw_iload_n (pc := 16) d_P_goesAstray_16 rfl rfl ?_
  refine aw_ildN (pc := 17) (j := l) d_P_goesAstray_17 hg_25 a3 rfl hl (by decide) ?_
  refine aw_callT1 (pc := 18) (c_V_hasBit _ _ _) ok_V_hasBit d_P_goesAstray_18 ln_P_76 rfl rfl ⟨by decide, by decide⟩ (Nat.le_of_ble_eq_true rfl) rfl rfl ⟨by decide, by decide⟩ ?_
  refine aw_bn (pc := 21) (tgt := 28) d_P_goesAstray_21 (by decide) (fun h21 => ?_) (fun h21 => ?_)
  · have h21 := (hb_nI (by omega) (by omega)).mp h21
    rw [hbi] at h21
    refine aw_iconst (pc := 28) (v := 0) d_P_goesAstray_28 (by decide) ?_
    refine aw_zret (pc := 29) d_P_goesAstray_29 rfl ft_0 ?_
    exact ⟨by rw [b2_0]; rw [h21]; decide, rfl⟩
  · have h21 : he T (T 6 5) (T 6 0) (T 2 l) = false := by
      cases hq : he T (T 6 5) (T 6 0) (T 2 l) with
      | false => rfl
      | true => exact absurd ((hb_nI (by omega) (by omega)).mpr (by rw [hbi]; exact hq)) h21
    refine aw_iconst (pc := 24) (v := 1) d_P_goesAstray_24 (by decide) ?_
    refine aw_goto (pc := 25) (tgt := 29) d_P_goesAstray_25 (by decide) ?_
    refine aw_zret (pc := 29) d_P_goesAstray_29 rfl ft_1 ?_
    exact ⟨by rw [b2_1 h21], rfl⟩
set_option maxHeartbeats 1000000 in
set_option maxRecDepth 20000 in
theorem c_P_playAct_1 (hT : okT T) (hE : enS A I 22 T) {k m : Nat} (hk : k < 4) (hm : m < 12) {n : Nat} (hn : I 29 2 = nI n) (hw : ¬ wy T k m = 0) : AD m_P_playAct r_P_playAct (HH A I J U) [.ref 29, .ref 22, .int (nI k), .int (nI m)] none (HH A (u2 (u2 I 29 3 (nI n)) 29 4 (nI (wy T k m))) J U) := by
  refine am_of (by decide) rfl (by first | decide | exact Nat.le_of_ble_eq_true rfl) ?_
  have hwl : wy T k m < 4 := by unfold wy; split; omega; split; omega; split <;> omega
  refine aw_aload_n (pc := 0) d_P_playAct_0 rfl rfl ?_
  refine aw_iload_n (pc := 1) d_P_playAct_1 rfl rfl ?_
  refine aw_iload_n (pc := 2) d_P_playAct_2 rfl rfl ?_
  refine aw_callV1 (pc := 3) (c_S_whyNot hT hE hk hm) ok_S_whyNot d_P_playAct_3 lm_P_52 hg_22 rfl rfl ⟨by decide, by decide⟩ (Nat.le_of_ble_eq_true rfl) rfl rfl ⟨by decide, by decide⟩ ?_
  refine aw_istore (pc := 6) (ls' := [(0, _), (1, _), (2, _), (3, _), (4, _)]) d_P_playAct_6 (by decide) rfl ?_
  refine aw_iload (pc := 8) d_P_playAct_8 rfl ?_
  refine aw_if_eq (pc := 10) (tgt := 28) d_P_playAct_10 (by decide) (fun hh => absurd hh (fun z => hw ((nI_eq (by omega) (by omega)).mp z))) (fun _ => ?_)
  refine aw_aload_n (pc := 13) d_P_playAct_13 rfl rfl ?_
  refine aw_aload_n (pc := 14) d_P_playAct_14 rfl rfl ?_
  refine aw_geti (pc := 15) (y := (nI n)) d_P_playAct_15 lf_P_19 hg_29 rfl hn ?_
  refine aw_put (pc := 18) d_P_playAct_18 lp_P_22 hg_29 (ft_int _) (Nat.le_of_ble_eq_true rfl) (hp_29_3 _) ?_
  refine aw_aload_n (pc := 21) d_P_playAct_21 rfl rfl ?_
  refine aw_iload (pc := 22) d_P_playAct_22 rfl ?_
  refine aw_put (pc := 24) d_P_playAct_24 lp_P_25 hg_29 (ft_int _) (Nat.le_of_ble_eq_true rfl) (hp_29_4 _) ?_
  refine aw_vret (pc := 27) d_P_playAct_27 rfl ?_
  exact ⟨rfl, rfl⟩
set_option maxHeartbeats 1000000 in
set_option maxRecDepth 20000 in
theorem c_P_playAct_0 (hT : okT T) (hE : enS A I 22 T) {k m : Nat} (hk : k < 4) (hm : m < 12) (hm2 : k = 1 → m < 6) {n : Nat} (hn : I 29 2 = nI n) {a : Option Nat} (ha : I 29 5 = oI a) (hal : ∀ n, a = some n → n < 1000) (hw : wy T k m = 0) : AM m_P_playAct r_P_playAct (HH A I J U) [.ref 29, .ref 22, .int (nI k), .int (nI m)] (fun r h' => r = none ∧ ∃ A' I', h' = HH A' I' J U ∧ enS A' I' 22 (acT T k m) ∧ I' 29 2 = nI (n + 1) ∧ I' 29 5 = oI (ast T k m n a) ∧ I' 29 1 = I 29 1 ∧ I' 29 3 = I 29 3 ∧ I' 29 4 = I 29 4 ∧ frA A A' (str 22) ∧ frI I I' [22, 29]) := by
  refine am_of (by decide) rfl (by first | decide | exact Nat.le_of_ble_eq_true rfl) ?_
  have tail : ∀ I2 : Nat → Nat → Int32, (∀ x y, ¬ (x = 29 ∧ y = 5) → I2 x y = I x y) → I2 29 5 = oI (ast T k m n a) → AW m_P_playAct r_P_playAct ax_E0 (ax_Zm (fun r h' => r = none ∧ ∃ A' I', h' = HH A' I' J U ∧ enS A' I' 22 (acT T k m) ∧ I' 29 2 = nI (n + 1) ∧ I' 29 5 = oI (ast T k m n a) ∧ I' 29 1 = I 29 1 ∧ I' 29 3 = I 29 3 ∧ I' 29 4 = I 29 4 ∧ frA A A' (str 22) ∧ frI I I' [22, 29]) 0 0) (HH A I2 J U) 0 0 58 [(0, .ref 29), (1, .ref 22), (2, .int (nI k)), (3, .int (nI m)), (4, .int (nI (wy T k m)))] [] := by
    intro I2 h2 h5
    have hE2 : enS A I2 22 T := enS_fr (ks := []) (is := [29]) hE (frA_r _ _) (fun x y hx => h2 x y (fun z => hx (by rw [z.1]; exact List.mem_cons_self))) (by decide) (by decide)
    refine aw_aload_n (pc := 58) d_P_playAct_58 rfl rfl ?_
    refine aw_iload_n (pc := 59) d_P_playAct_59 rfl rfl ?_
    refine aw_iload_n (pc := 60) d_P_playAct_60 rfl rfl ?_
    refine aw_callVq (pc := 61) (c_S_carryOut hT hE2 hk hm hm2) ok_S_carryOut d_P_playAct_61 lm_P_60 hg_22 rfl rfl ⟨by decide, by decide⟩ (Nat.le_of_ble_eq_true rfl) rfl rfl ⟨by decide, by decide⟩ (fun rr hh2 hq => ?_)
    obtain ⟨rfl, A', I', rfl, h6, h7, h8⟩ := hq
    refine aw_aload_n (pc := 64) d_P_playAct_64 rfl rfl ?_
    refine aw_dup (pc := 65) d_P_playAct_65 rfl ?_
    refine aw_geti (pc := 66) (y := (nI n)) d_P_playAct_66 lf_P_19 hg_29 rfl (by rw [h8 29 2 (by decide), h2 29 2 (by decide)]; exact hn) ?_
    refine aw_iconst (pc := 69) (v := 1) d_P_playAct_69 (by decide) ?_
    refine aw_iadd (pc := 70) d_P_playAct_70 ?_
    refine aw_top (nI_1 n) ?_
    refine aw_put (pc := 71) d_P_playAct_71 lp_P_19 hg_29 (ft_int _) (Nat.le_of_ble_eq_true rfl) (hp_29_2 _) ?_
    refine aw_vret (pc := 74) d_P_playAct_74 rfl ?_
    refine ⟨rfl, A', _, rfl, enS_fr (ks := []) (is := [29]) h6 (frA_r _ _) (frI_u _ _ _ _ (by decide)) (by decide) (by decide), rfl, ?_, ?_, ?_, ?_, h7, ?_⟩
    · show I' 29 5 = _
      rw [h8 29 5 (by decide)]; exact h5
    · show I' 29 1 = _
      rw [h8 29 1 (by decide), h2 29 1 (by decide)]
    · show I' 29 3 = _
      rw [h8 29 3 (by decide), h2 29 3 (by decide)]
    · show I' 29 4 = _
      rw [h8 29 4 (by decide), h2 29 4 (by decide)]
    · intro x y hx
      have h9 : ¬ x = 29 := fun z => hx (by rw [z]; decide)
      have h10 : x ∉ [22] := fun z => hx (by rw [List.mem_singleton.mp z]; decide)
      show u2 I' 29 2 _ x y = _
      unfold u2
      rw [if_neg h9, h8 x y h10, h2 x y (fun z => h9 z.1)]
  refine aw_aload_n (pc := 0) d_P_playAct_0 rfl rfl ?_
  refine aw_iload_n (pc := 1) d_P_playAct_1 rfl rfl ?_
  refine aw_iload_n (pc := 2) d_P_playAct_2 rfl rfl ?_
  refine aw_callV1 (pc := 3) (c_S_whyNot hT hE hk hm) ok_S_whyNot d_P_playAct_3 lm_P_52 hg_22 rfl rfl ⟨by decide, by decide⟩ (Nat.le_of_ble_eq_true rfl) rfl rfl ⟨by decide, by decide⟩ ?_
  refine aw_istore (pc := 6) (ls' := [(0, _), (1, _), (2, _), (3, _), (4, _)]) d_P_playAct_6 (by decide) rfl ?_
  refine aw_iload (pc := 8) d_P_playAct_8 rfl ?_
  refine aw_if_eq (pc := 10) (tgt := 28) d_P_playAct_10 (by decide) (fun _ => ?_) (fun hh => absurd (by rw [hw]; rfl) hh)
  refine aw_iload_n (pc := 28) d_P_playAct_28 rfl rfl ?_
  refine aw_iconst (pc := 29) (v := 1) d_P_playAct_29 (by decide) ?_
  refine awn_ne (pc := 30) (tgt := 58) (k) (1) d_P_playAct_30 (by decide) rfl rfl (by omega) (by omega) (fun h30 => ?_) (fun h30 => ?_)
  · exact tail I (fun _ _ _ => rfl) (by unfold ast; rw [if_neg (fun z => h30 z.1)]; exact ha)
  · refine aw_aload_n (pc := 33) d_P_playAct_33 rfl rfl ?_
    refine aw_geti (pc := 34) (y := (oI a)) d_P_playAct_34 lf_P_28 hg_29 rfl ha ?_
    refine aw_bipush (pc := 37) (v := (-6)) d_P_playAct_37 (by decide) ?_
    refine aw_icmp_ne (pc := 39) (tgt := 58) d_P_playAct_39 (by decide) (fun h39 => ?_) (fun h39 => ?_)
    · exact tail I (fun _ _ _ => rfl) (by unfold ast; rw [if_neg (fun z => h39 (by rw [z.2.1]; rfl))]; exact ha)
    · have h39 := (oI_m6 hal).mp h39
      refine aw_aload_n (pc := 42) d_P_playAct_42 rfl rfl ?_
      refine aw_iload_n (pc := 43) d_P_playAct_43 rfl rfl ?_
      refine aw_callS1 (pc := 44) (c_P_goesAstray hT hE (hm2 h30)) ok_P_goesAstray d_P_playAct_44 lm_P_56 rfl rfl ⟨by decide, by decide⟩ (Nat.le_of_ble_eq_true rfl) rfl rfl ⟨by decide, by decide⟩ ?_
      refine aw_bz (pc := 47) (tgt := 58) d_P_playAct_47 (by decide) (fun h47 => ?_) (fun h47 => ?_)
      · exact tail I (fun _ _ _ => rfl) (by unfold ast; rw [if_neg (fun z => h47 z.2.2)]; exact ha)
      · refine aw_aload_n (pc := 50) d_P_playAct_50 rfl rfl ?_
        refine aw_aload_n (pc := 51) d_P_playAct_51 rfl rfl ?_
        refine aw_geti (pc := 52) (y := (nI n)) d_P_playAct_52 lf_P_19 hg_29 rfl hn ?_
        refine aw_put (pc := 55) d_P_playAct_55 lp_P_28 hg_29 (ft_int _) (Nat.le_of_ble_eq_true rfl) (hp_29_5 _) ?_
        refine tail _ (fun x y hx => ?_) (by unfold ast; rw [if_pos ⟨h30, h39, h47⟩]; rfl)
        unfold u2
        by_cases e1 : x = 29
        · rw [if_pos e1, if_neg (fun z => hx ⟨e1, z⟩)]
        · rw [if_neg e1]
theorem flt_kd {PD : Nat → Nat} : ∀ {k i : Nat} {w : Bool}, flt PD k i w = none → (∀ j, i ≤ j → j < i + k → ¬ kd (PD j) = 9) ∧ (0 < k → w = true → kd (PD i) = 0) ∧ (∀ j, i ≤ j → j < i + k → kd (PD j) = 2 → j + 1 < i + k ∧ kd (PD (j + 1)) = 0)
  | 0, i, w, h => ⟨fun j h1 h2 => absurd h2 (by omega), fun z => absurd z (by omega), fun j h1 h2 => absurd h2 (by omega)⟩
  | k + 1, i, w, h => by
    rw [flt_s] at h
    by_cases hc : kd (PD i) = 9 ∨ (w = true ∧ ¬ kd (PD i) = 0)
    · rw [if_pos hc] at h; cases h
    · rw [if_neg hc] at h
      obtain ⟨h1, h2, h3⟩ := flt_kd h
      refine ⟨fun j g1 g2 => ?_, fun _ hw => ?_, fun j g1 g2 g3 => ?_⟩
      · by_cases e : j = i
        · subst e; exact fun z => hc (Or.inl z)
        · exact h1 j (by omega) (by omega)
      · rcases Decidable.em (kd (PD i) = 0) with q | q
        · exact q
        · exact absurd (Or.inr ⟨hw, q⟩) hc
      · by_cases e : j = i
        · subst e
          rw [decide_eq_true g3] at h h2
          by_cases hk : k = 0
          · subst hk
            exact absurd h (by unfold flt; rw [if_pos rfl]; exact fun z => by cases z)
          · exact ⟨by omega, h2 (by omega) rfl⟩
        · have := h3 j (by omega) (by omega) g3
          exact ⟨by omega, this.2⟩
theorem kd_lt4 {c : Nat} (h : ¬ kd c = 9) : kd c < 4 := by
  unfold kd at h ⊢
  by_cases h1 : 97 ≤ c ∧ c < 109
  · rw [if_pos h1]; omega
  · rw [if_neg h1] at h ⊢
    by_cases h2 : 48 ≤ c ∧ c < 54
    · rw [if_pos h2]; omega
    · rw [if_neg h2] at h ⊢
      by_cases h3 : c = 33
      · rw [if_pos h3]; omega
      · rw [if_neg h3] at h ⊢
        by_cases h4 : c = 46
        · rw [if_pos h4]; omega
        · rw [if_neg h4] at h; exact absurd rfl h
theorem kI_n {k : Nat} (h : k < 4) : kI k = nI k := if_neg (by omega)
def stI (x : Option (Nat × Nat)) : Int32 := match x with
  | none => -6
  | some q => nI q.1
def whI (x : Option (Nat × Nat)) : Int32 := match x with
  | none => -6
  | some q => nI q.2
/-- what the play leaves -/
def pP (A : Nat → List Int32) (I : Nat → Nat → Int32) (J : Nat → List Int64) (U : Nat → Nat → Int64) (q : plr) : Option Value → ax_H → Prop := fun r h' => r = some (.int (b2 (q.1 = none))) ∧ ∃ A' I', h' = HH A' I' J U ∧ enS A' I' 22 q.2.2.2 ∧ I' 29 2 = nI q.2.1 ∧ I' 29 3 = stI q.1 ∧ I' 29 4 = whI q.1 ∧ I' 29 5 = oI q.2.2.1 ∧ I' 29 1 = I 29 1 ∧ frA A A' (str 22) ∧ frI I I' [22, 29]
def plq (PD : Nat → Nat) (np : Nat) (T : town) : plr := ply PD np np 0 T 0 none
set_option maxHeartbeats 1000000 in
set_option maxRecDepth 20000 in
theorem c_P_plays (hT : okT T) (hE : enS A I 1 T) (hE2 : enS A I 22 T0) (hp : np ≤ 60) (hP : ∀ j, j < 60 → PD j < 128) (h30 : A 30 = lst 60 PD) (h29 : I 29 1 = nI np) (hf : flt PD np 0 false = none) : AM m_P_playsToTheEnd r_P_playsToTheEnd (HH A I J U) [.ref 29, .ref 1, .ref 22] (pP A I J U (plq PD np T)) := by
  refine am_of (by decide) rfl (by first | decide | exact Nat.le_of_ble_eq_true rfl) ?_
  obtain ⟨k1, -, k2⟩ := flt_kd hf
  refine aw_aload_n (pc := 0) d_P_playsToTheEnd_0 rfl rfl ?_
  refine aw_callV1 (pc := 1) (c_P_faultPlace hp hP h30 h29) ok_P_faultPlace d_P_playsToTheEnd_1 lm_P_35 hg_29 rfl rfl ⟨by decide, by decide⟩ (Nat.le_of_ble_eq_true rfl) rfl rfl ⟨by decide, by decide⟩ ?_
  refine aw_bipush (pc := 4) (v := (-6)) d_P_playsToTheEnd_4 (by decide) ?_
  refine aw_icmp_eq (pc := 6) (tgt := 11) d_P_playsToTheEnd_6 (by decide) (fun _ => ?_) (fun hh => absurd (by rw [hf]; rfl) hh)
  refine aw_aload_n (pc := 11) d_P_playsToTheEnd_11 rfl rfl ?_
  refine aw_aload_n (pc := 12) d_P_playsToTheEnd_12 rfl rfl ?_
  refine aw_callVq (pc := 13) (c_S_takeFrom_22_1 hE hE2) ok_S_takeFrom d_P_playsToTheEnd_13 lm_P_39 hg_22 rfl rfl ⟨by decide, by decide⟩ (Nat.le_of_ble_eq_true rfl) rfl rfl ⟨by decide, by decide⟩ (fun rr hh2 hq => ?_)
  obtain ⟨rfl, A1, I1, rfl, h5, h6, h7⟩ := hq
  refine aw_aload_n (pc := 16) d_P_playsToTheEnd_16 rfl rfl ?_
  refine aw_iconst (pc := 17) (v := 0) d_P_playsToTheEnd_17 (by decide) ?_
  refine aw_put (pc := 18) d_P_playsToTheEnd_18 lp_P_19 hg_29 (ft_int _) (Nat.le_of_ble_eq_true rfl) (hp_29_2 _) ?_
  refine aw_aload_n (pc := 21) d_P_playsToTheEnd_21 rfl rfl ?_
  refine aw_bipush (pc := 22) (v := (-6)) d_P_playsToTheEnd_22 (by decide) ?_
  refine aw_put (pc := 24) d_P_playsToTheEnd_24 lp_P_22 hg_29 (ft_int _) (Nat.le_of_ble_eq_true rfl) (hp_29_3 _) ?_
  refine aw_aload_n (pc := 27) d_P_playsToTheEnd_27 rfl rfl ?_
  refine aw_bipush (pc := 28) (v := (-6)) d_P_playsToTheEnd_28 (by decide) ?_
  refine aw_put (pc := 30) d_P_playsToTheEnd_30 lp_P_25 hg_29 (ft_int _) (Nat.le_of_ble_eq_true rfl) (hp_29_4 _) ?_
  refine aw_aload_n (pc := 33) d_P_playsToTheEnd_33 rfl rfl ?_
  refine aw_bipush (pc := 34) (v := (-6)) d_P_playsToTheEnd_34 (by decide) ?_
  refine aw_put (pc := 36) d_P_playsToTheEnd_36 lp_P_28 hg_29 (ft_int _) (Nat.le_of_ble_eq_true rfl) (hp_29_5 _) ?_
  refine aw_iconst (pc := 39) (v := 0) d_P_playsToTheEnd_39 (by decide) ?_
  refine aw_istore_n (pc := 40) (ls' := [(0, _), (1, _), (2, _), (3, _)]) d_P_playsToTheEnd_40 rfl (by decide) rfl ?_
  have start : ∀ (f i : Nat) (A2 : Nat → List Int32) (I2 : Nat → Nat → Int32) (T2 : town) (n : Nat) (a : Option Nat), np ≤ i + f → i ≤ np → n ≤ i → okT T2 → enS A2 I2 22 T2 → I2 29 2 = nI n → I2 29 3 = -6 → I2 29 4 = -6 → I2 29 5 = oI a → (∀ n, a = some n → n < 1000) → I2 29 1 = I 29 1 → frA A A2 (str 22) → frI I I2 [22, 29] → plq PD np T = ply PD np f i T2 n a → AW m_P_playsToTheEnd r_P_playsToTheEnd ax_E0 (ax_Zm (pP A I J U (plq PD np T)) 0 0) (HH A2 I2 J U) 0 0 41 [(0, .ref 29), (1, .ref 1), (2, .ref 22), (3, .int (nI i))] [] := by
    intro f
    induction f with
    | zero =>
      intro i A2 I2 T2 n a hif hin hni hT2 g1 g2 g3 g4 g5 g6 g7 g8 g9 gq
      refine aw_iload_n (pc := 41) d_P_playsToTheEnd_41 rfl rfl ?_
      refine aw_aload_n (pc := 42) d_P_playsToTheEnd_42 rfl rfl ?_
      refine aw_geti (pc := 43) (y := (nI np)) d_P_playsToTheEnd_43 lf_P_15 hg_29 rfl (g7.trans h29) ?_
      refine awn_ge (pc := 46) (tgt := 110) (i) (np) d_P_playsToTheEnd_46 (by decide) rfl rfl (by omega) (by omega) (fun _ => ?_) (fun hh => absurd hh (by omega))
      refine aw_aload_n (pc := 110) d_P_playsToTheEnd_110 rfl rfl ?_
      refine aw_get (pc := 111) d_P_playsToTheEnd_111 lf_P_22 hg_29 rfl ?_
      refine aw_bipush (pc := 114) (v := (-6)) d_P_playsToTheEnd_114 (by decide) ?_
      refine aw_icmp_ne (pc := 116) (tgt := 123) d_P_playsToTheEnd_116 (by decide) (fun hh => absurd hh (fun z => z g3)) (fun _ => ?_)
      refine aw_iconst (pc := 119) (v := 1) d_P_playsToTheEnd_119 (by decide) ?_
      refine aw_goto (pc := 120) (tgt := 124) d_P_playsToTheEnd_120 (by decide) ?_
      refine aw_zret (pc := 124) d_P_playsToTheEnd_124 rfl ft_1 ?_
      rw [gq, ply_end (by omega)]
      exact ⟨by rw [b2_1 rfl], A2, I2, rfl, g1, g2, g3, g4, g5, g7, g8, g9⟩
    | succ f ihf =>
      intro i A2 I2 T2 n a hif hin hni hT2 g1 g2 g3 g4 g5 g6 g7 g8 g9 gq
      by_cases hend : np ≤ i
      · refine aw_iload_n (pc := 41) d_P_playsToTheEnd_41 rfl rfl ?_
        refine aw_aload_n (pc := 42) d_P_playsToTheEnd_42 rfl rfl ?_
        refine aw_geti (pc := 43) (y := (nI np)) d_P_playsToTheEnd_43 lf_P_15 hg_29 rfl (g7.trans h29) ?_
        refine awn_ge (pc := 46) (tgt := 110) (i) (np) d_P_playsToTheEnd_46 (by decide) rfl rfl (by omega) (by omega) (fun _ => ?_) (fun hh => absurd hh (by omega))
        refine aw_aload_n (pc := 110) d_P_playsToTheEnd_110 rfl rfl ?_
        refine aw_get (pc := 111) d_P_playsToTheEnd_111 lf_P_22 hg_29 rfl ?_
        refine aw_bipush (pc := 114) (v := (-6)) d_P_playsToTheEnd_114 (by decide) ?_
        refine aw_icmp_ne (pc := 116) (tgt := 123) d_P_playsToTheEnd_116 (by decide) (fun hh => absurd hh (fun z => z g3)) (fun _ => ?_)
        refine aw_iconst (pc := 119) (v := 1) d_P_playsToTheEnd_119 (by decide) ?_
        refine aw_goto (pc := 120) (tgt := 124) d_P_playsToTheEnd_120 (by decide) ?_
        refine aw_zret (pc := 124) d_P_playsToTheEnd_124 rfl ft_1 ?_
        rw [gq, ply_end (by omega)]
        exact ⟨by rw [b2_1 rfl], A2, I2, rfl, g1, g2, g3, g4, g5, g7, g8, g9⟩
      · have hi : i < np := by omega
        have hc := hP i (by omega)
        have hk9 := k1 i (by omega) (by omega)
        have hk4 := kd_lt4 hk9
        have g30 : A2 30 = lst 60 PD := (g8 30 (by decide)).trans h30
        have g29 : I2 29 1 = nI np := g7.trans h29
        unfold ply at gq
        rw [if_neg hend] at gq
        have hj1 : jx PD np i < np := by unfold jx; split <;> omega
        have hj2 : i ≤ jx PD np i := by unfold jx; split <;> omega
        have hm := nb_lt (PD (jx PD np i))
        have hm2 : kd (PD i) = 1 → nb (PD (jx PD np i)) < 6 := fun z => by
          have e : jx PD np i = i := by unfold jx; rw [if_neg (fun q => absurd q.1 (by omega))]
          rw [e]; exact nb_lt6 z
        have key : AW m_P_playsToTheEnd r_P_playsToTheEnd ax_E0 (ax_Zm (pP A I J U (plq PD np T)) 0 0) (HH A2 I2 J U) 0 0 88 [(0, .ref 29), (1, .ref 1), (2, .ref 22), (3, .int (nI (jx PD np i))), (4, .int (nI (kd (PD i))))] [] := by
          by_cases hw : wy T2 (kd (PD i)) (nb (PD (jx PD np i))) = 0
          · rw [if_pos hw] at gq
            refine aw_aload_n (pc := 88) d_P_playsToTheEnd_88 rfl rfl ?_
            refine aw_aload_n (pc := 89) d_P_playsToTheEnd_89 rfl rfl ?_
            refine aw_iload (pc := 90) d_P_playsToTheEnd_90 rfl ?_
            refine aw_aload_n (pc := 92) d_P_playsToTheEnd_92 rfl rfl ?_
            refine aw_get (pc := 93) d_P_playsToTheEnd_93 lf_P_9 hg_29 rfl ?_
            refine aw_iload_n (pc := 96) d_P_playsToTheEnd_96 rfl rfl ?_
            refine aw_ildN (pc := 97) (j := jx PD np i) d_P_playsToTheEnd_97 hg_30 g30 rfl (by omega) (by decide) ?_
            refine aw_callS1 (pc := 98) (c_P_numberOf (hP _ (by omega))) ok_P_numberOf d_P_playsToTheEnd_98 lm_P_45 rfl rfl ⟨by decide, by decide⟩ (Nat.le_of_ble_eq_true rfl) rfl rfl ⟨by decide, by decide⟩ ?_
            refine aw_callVq (pc := 101) (c_P_playAct_0 hT2 g1 hk4 hm hm2 g2 g5 g6 hw) ok_P_playAct d_P_playsToTheEnd_101 lm_P_48 hg_29 rfl rfl ⟨by decide, by decide⟩ (Nat.le_of_ble_eq_true rfl) rfl rfl ⟨by decide, by decide⟩ (fun rr hh2 hq => ?_)
            obtain ⟨rfl, A3, I3, rfl, f1, f2, f3, f4, f5, f6, f7, f8⟩ := hq
            refine aw_incN (pc := 104) (ls' := [(0, _), (1, _), (2, _), (3, _), (4, _)]) (i := jx PD np i) d_P_playsToTheEnd_104 rfl rfl (by decide) rfl ?_
            refine aw_goto (pc := 107) (tgt := 41) d_P_playsToTheEnd_107 (by decide) ?_
            refine aw_sub (ls' := [(0, _), (1, _), (2, _), (3, _)]) [0, 1, 2, 3] rfl ?_
            refine ihf (jx PD np i + 1) A3 I3 _ (n + 1) _ (by omega) (by omega) (by omega) (ok_ac hT2 hk4 hm hm2 hw) f1 f2 (f5.trans g3) (f6.trans g4) f3 ?_ (f4.trans g7) (frA_t g8 f7) (frI_t g9 f8) gq
            intro n' hn'
            unfold ast at hn'
            split at hn'
            · cases hn'; omega
            · exact g6 n' hn'
          · rw [if_neg hw] at gq
            refine aw_aload_n (pc := 88) d_P_playsToTheEnd_88 rfl rfl ?_
            refine aw_aload_n (pc := 89) d_P_playsToTheEnd_89 rfl rfl ?_
            refine aw_iload (pc := 90) d_P_playsToTheEnd_90 rfl ?_
            refine aw_aload_n (pc := 92) d_P_playsToTheEnd_92 rfl rfl ?_
            refine aw_get (pc := 93) d_P_playsToTheEnd_93 lf_P_9 hg_29 rfl ?_
            refine aw_iload_n (pc := 96) d_P_playsToTheEnd_96 rfl rfl ?_
            refine aw_ildN (pc := 97) (j := jx PD np i) d_P_playsToTheEnd_97 hg_30 g30 rfl (by omega) (by decide) ?_
            refine aw_callS1 (pc := 98) (c_P_numberOf (hP _ (by omega))) ok_P_numberOf d_P_playsToTheEnd_98 lm_P_45 rfl rfl ⟨by decide, by decide⟩ (Nat.le_of_ble_eq_true rfl) rfl rfl ⟨by decide, by decide⟩ ?_
            refine aw_callV0 (pc := 101) (c_P_playAct_1 hT2 g1 hk4 hm g2 hw) ok_P_playAct d_P_playsToTheEnd_101 lm_P_48 hg_29 rfl rfl ⟨by decide, by decide⟩ (Nat.le_of_ble_eq_true rfl) rfl rfl ⟨by decide, by decide⟩ ?_
            refine aw_incN (pc := 104) (ls' := [(0, _), (1, _), (2, _), (3, _), (4, _)]) (i := jx PD np i) d_P_playsToTheEnd_104 rfl rfl (by decide) rfl ?_
            refine aw_goto (pc := 107) (tgt := 41) d_P_playsToTheEnd_107 (by decide) ?_
            have hne : ¬ nI n = -6 := fun z => by
              have h3 := nI_pos (n := n) (by omega)
              rw [z] at h3
              exact absurd (by decide) h3
            have last : AW m_P_playsToTheEnd r_P_playsToTheEnd ax_E0 (ax_Zm (pP A I J U (plq PD np T)) 0 0) (HH A2 (u2 (u2 I2 29 3 (nI n)) 29 4 (nI (wy T2 (kd (PD i)) (nb (PD (jx PD np i)))))) J U) 0 0 110 [(0, .ref 29), (1, .ref 1), (2, .ref 22), (3, .int (nI (jx PD np i + 1)))] [] := by
              refine aw_aload_n (pc := 110) d_P_playsToTheEnd_110 rfl rfl ?_
              refine aw_get (pc := 111) d_P_playsToTheEnd_111 lf_P_22 hg_29 rfl ?_
              refine aw_bipush (pc := 114) (v := (-6)) d_P_playsToTheEnd_114 (by decide) ?_
              refine aw_icmp_ne (pc := 116) (tgt := 123) d_P_playsToTheEnd_116 (by decide) (fun _ => ?_) (fun hh => absurd hh hne)
              refine aw_iconst (pc := 123) (v := 0) d_P_playsToTheEnd_123 (by decide) ?_
              refine aw_zret (pc := 124) d_P_playsToTheEnd_124 rfl ft_0 ?_
              rw [gq]
              refine ⟨by rw [b2_0 (fun z => by cases z)], A2, _, rfl, enS_fr (ks := []) (is := [29]) g1 (frA_r _ _) (frI_t (frI_u _ _ _ _ (by decide)) (frI_u _ _ _ _ (by decide))) (by decide) (by decide), g2, rfl, rfl, g5, g7, g8, frI_t g9 (frI_t (frI_u _ _ _ _ (by decide)) (frI_u _ _ _ _ (by decide)))⟩
            refine aw_sub (ls' := [(0, _), (1, _), (2, _), (3, _)]) [0, 1, 2, 3] rfl ?_
            refine aw_iload_n (pc := 41) d_P_playsToTheEnd_41 rfl rfl ?_
            refine aw_aload_n (pc := 42) d_P_playsToTheEnd_42 rfl rfl ?_
            refine aw_geti (pc := 43) (y := (nI np)) d_P_playsToTheEnd_43 lf_P_15 hg_29 rfl g29 ?_
            refine awn_ge (pc := 46) (tgt := 110) (jx PD np i + 1) (np) d_P_playsToTheEnd_46 (by decide) rfl rfl (by omega) (by omega) (fun h46 => ?_) (fun h46 => ?_)
            · exact last
            · refine aw_aload_n (pc := 49) d_P_playsToTheEnd_49 rfl rfl ?_
              refine aw_get (pc := 50) d_P_playsToTheEnd_50 lf_P_22 hg_29 rfl ?_
              refine aw_bipush (pc := 53) (v := (-6)) d_P_playsToTheEnd_53 (by decide) ?_
              refine aw_icmp_ne (pc := 55) (tgt := 110) d_P_playsToTheEnd_55 (by decide) (fun _ => ?_) (fun hh => absurd hh hne)
              exact last
        refine aw_iload_n (pc := 41) d_P_playsToTheEnd_41 rfl rfl ?_
        refine aw_aload_n (pc := 42) d_P_playsToTheEnd_42 rfl rfl ?_
        refine aw_geti (pc := 43) (y := (nI np)) d_P_playsToTheEnd_43 lf_P_15 hg_29 rfl g29 ?_
        refine awn_ge (pc := 46) (tgt := 110) (i) (np) d_P_playsToTheEnd_46 (by decide) rfl rfl (by omega) (by omega) (fun hh => absurd hh (by omega)) (fun _ => ?_)
        refine aw_aload_n (pc := 49) d_P_playsToTheEnd_49 rfl rfl ?_
        refine aw_get (pc := 50) d_P_playsToTheEnd_50 lf_P_22 hg_29 rfl ?_
        refine aw_bipush (pc := 53) (v := (-6)) d_P_playsToTheEnd_53 (by decide) ?_
        refine aw_icmp_ne (pc := 55) (tgt := 110) d_P_playsToTheEnd_55 (by decide) (fun hh => absurd hh (fun z => z g3)) (fun _ => ?_)
        refine aw_aload_n (pc := 58) d_P_playsToTheEnd_58 rfl rfl ?_
        refine aw_get (pc := 59) d_P_playsToTheEnd_59 lf_P_9 hg_29 rfl ?_
        refine aw_iload_n (pc := 62) d_P_playsToTheEnd_62 rfl rfl ?_
        refine aw_ildN (pc := 63) (j := i) d_P_playsToTheEnd_63 hg_30 g30 rfl (by omega) (by decide) ?_
        refine aw_callS1 (pc := 64) (c_P_kindOf hc) ok_P_kindOf d_P_playsToTheEnd_64 lm_P_31 rfl rfl ⟨by decide, by decide⟩ (Nat.le_of_ble_eq_true rfl) rfl rfl ⟨by decide, by decide⟩ ?_
        refine aw_top (kI_n hk4) ?_
        refine aw_istore (pc := 67) (ls' := [(0, _), (1, _), (2, _), (3, _), (4, _)]) d_P_playsToTheEnd_67 (by decide) rfl ?_
        refine aw_iload (pc := 69) d_P_playsToTheEnd_69 rfl ?_
        refine aw_iconst (pc := 71) (v := 2) d_P_playsToTheEnd_71 (by decide) ?_
        refine awn_ne (pc := 72) (tgt := 88) (kd (PD i)) (2) d_P_playsToTheEnd_72 (by decide) rfl rfl (by omega) (by omega) (fun h72 => ?_) (fun h72 => ?_)
        · exact aw_eq key rfl (by unfold jx; rw [if_neg (fun z => h72 z.1)]) rfl
        · have h3 := (k2 i (by omega) (by omega) h72).1
          refine aw_iload_n (pc := 75) d_P_playsToTheEnd_75 rfl rfl ?_
          refine aw_iconst (pc := 76) (v := 1) d_P_playsToTheEnd_76 (by decide) ?_
          refine aw_iadd (pc := 77) d_P_playsToTheEnd_77 ?_
          refine aw_aload_n (pc := 78) d_P_playsToTheEnd_78 rfl rfl ?_
          refine aw_geti (pc := 79) (y := (nI np)) d_P_playsToTheEnd_79 lf_P_15 hg_29 rfl g29 ?_
          refine awn_ge (pc := 82) (tgt := 88) (i + 1) np d_P_playsToTheEnd_82 (by decide) (nI_1 i) rfl (by omega) (by omega) (fun hh => absurd hh (by omega)) (fun _ => ?_)
          refine aw_incN (pc := 85) (ls' := [(0, _), (1, _), (2, _), (3, _), (4, _)]) (i := i) d_P_playsToTheEnd_85 rfl rfl (by decide) rfl ?_
          exact aw_eq key rfl (by unfold jx; rw [if_pos ⟨h72, by omega⟩]) rfl
  refine start np 0 A1 _ T 0 none (by omega) (by omega) (by omega) hT ?_ rfl rfl rfl rfl (fun n z => by cases z) ?_ h6 ?_ rfl
  · exact enS_fr (ks := []) (is := [29]) h5 (frA_r _ _) (frI_t (frI_t (frI_t (frI_u _ _ _ _ (by decide)) (frI_u _ _ _ _ (by decide))) (frI_u _ _ _ _ (by decide))) (frI_u _ _ _ _ (by decide))) (by decide) (by decide)
  · exact h7 29 1 (by decide)
  · refine frI_t (fun x y hx => h7 x y (fun z => hx (by rw [List.mem_singleton.mp z]; decide))) (frI_t (frI_t (frI_t (frI_u _ _ _ _ (by decide)) (frI_u _ _ _ _ (by decide))) (frI_u _ _ _ _ (by decide))) (frI_u _ _ _ _ (by decide)))
set_option maxHeartbeats 1000000 in
set_option maxRecDepth 20000 in
theorem c_P_plays_f (hp : np ≤ 60) (hP : ∀ j, j < 60 → PD j < 128) (h30 : A 30 = lst 60 PD) (h29 : I 29 1 = nI np) (hf : ¬ flt PD np 0 false = none) : AD m_P_playsToTheEnd r_P_playsToTheEnd (HH A I J U) [.ref 29, .ref 1, .ref 22] (some (.int (b2 False))) (HH A I J U) := by
  refine am_of (by decide) rfl (by first | decide | exact Nat.le_of_ble_eq_true rfl) ?_
  refine aw_aload_n (pc := 0) d_P_playsToTheEnd_0 rfl rfl ?_
  refine aw_callV1 (pc := 1) (c_P_faultPlace hp hP h30 h29) ok_P_faultPlace d_P_playsToTheEnd_1 lm_P_35 hg_29 rfl rfl ⟨by decide, by decide⟩ (Nat.le_of_ble_eq_true rfl) rfl rfl ⟨by decide, by decide⟩ ?_
  refine aw_bipush (pc := 4) (v := (-6)) d_P_playsToTheEnd_4 (by decide) ?_
  refine aw_icmp_eq (pc := 6) (tgt := 11) d_P_playsToTheEnd_6 (by decide) (fun hh => absurd hh (fun z => hf ((oI_m6 (fun n hn => by have := flt_lt hn; omega)).mp z))) (fun _ => ?_)
  refine aw_iconst (pc := 9) (v := 0) d_P_playsToTheEnd_9 (by decide) ?_
  refine aw_zret (pc := 10) d_P_playsToTheEnd_10 rfl ft_0 ?_
  exact ⟨rfl, rfl⟩
end PLAY

