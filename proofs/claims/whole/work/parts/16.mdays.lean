/-! days: the reference -/
def frN (I I' : Nat → Nat → Int32) : Prop := ∀ x y, ¬ (x = 36 ∧ 12 ≤ y ∧ y ≤ 15) → I' x y = I x y
theorem frN_r (I : Nat → Nat → Int32) : frN I I := fun _ _ _ => rfl
theorem frN_t {A B C : Nat → Nat → Int32} (h : frN A B) (h2 : frN B C) : frN A C := fun x y hx => (h2 x y hx).trans (h x y hx)
theorem frN_u (I : Nat → Nat → Int32) {j : Nat} (v : Int32) (h1 : 12 ≤ j) (h2 : j ≤ 15) : frN I (u2 I 36 j v) := fun x y hx => by
  unfold u2
  by_cases e1 : x = 36
  · rw [if_pos e1, if_neg (fun z => hx ⟨e1, by omega, by omega⟩)]
  · rw [if_neg e1]
theorem lt_at (T : town) {l c : Nat} (hc : c < 4) : lt T (4 * l + c) = T (2 + c) l := by
  unfold lt
  rw [show (4 * l + c) % 4 = c by omega, show (4 * l + c) / 4 = l by omega]
theorem lt_a0 (T : town) (l : Nat) : lt T (4 * l + 0) = T 2 l := lt_at T (by omega)
theorem lt_a1 (T : town) (l : Nat) : lt T (4 * l + 1) = T 3 l := lt_at T (by omega)
theorem lt_a2 (T : town) (l : Nat) : lt T (4 * l + 2) = T 4 l := lt_at T (by omega)
theorem lt_a3 (T : town) (l : Nat) : lt T (4 * l + 3) = T 5 l := lt_at T (by omega)
theorem ix_at (l c : Nat) : (4 : Int32) * nI l + nI c = nI (4 * l + c) := by
  rw [show (4 : Int32) = nI 4 from rfl, pk_mul, nI_add]
theorem ix_0 (l : Nat) : (4 : Int32) * nI l = nI (4 * l + 0) := by
  rw [show (4 : Int32) = nI 4 from rfl, pk_mul, Nat.add_zero]
/-- what days take of the reference's cells -/
def enN (A : Nat → List Int32) (I : Nat → Nat → Int32) (T : town) : Prop := enG A I T ∧ A 40 = lst 24 (lt T) ∧ A 38 = lst 16 (bk T) ∧ ∃ f, A 43 = lst 12 f
section MDAYS
variable {A : Nat → List Int32} {I : Nat → Nat → Int32} {J : Nat → List Int64} {U : Nat → Nat → Int64} {T T0 : town} {np : Nat} {PD : Nat → Nat}
set_option maxHeartbeats 1000000 in
set_option maxRecDepth 20000 in
theorem c_M_faultOf (hp : np ≤ 60) (hP : ∀ j, j < 60 → PD j < 128) (h42 : A 42 = lst 60 PD) (h36 : I 36 9 = nI np) : AD m_M_faultOf r_M_faultOf (HH A I J U) [.ref 36] (some (.int (oI (flt PD np 0 false)))) (HH A I J U) := by
  refine am_of (by decide) rfl (by first | decide | exact Nat.le_of_ble_eq_true rfl) ?_
  refine aw_iconst (pc := 0) (v := 0) d_M_faultOf_0 (by decide) ?_
  refine aw_istore_n (pc := 1) (ls' := [(0, _), (1, _)]) d_M_faultOf_1 rfl (by decide) rfl ?_
  refine aw_iconst (pc := 2) (v := 0) d_M_faultOf_2 (by decide) ?_
  refine aw_istore_n (pc := 3) (ls' := [(0, _), (1, _), (2, _)]) d_M_faultOf_3 rfl (by decide) rfl ?_
  refine lp_i (fun i w => AW m_M_faultOf r_M_faultOf ax_E0 (ax_Zm (fun q1 q2 => q1 = some (.int (oI (flt PD np 0 false))) ∧ q2 = HH A I J U) 0 0) (HH A I J U) 0 0 4 [(0, .ref 36), (1, .int (b2 (w = true))), (2, .int (nI i))] []) (fun i w => i ≤ np ∧ flt PD np 0 false = flt PD (np - i) i w) np ?_ ?_ np 0 false (by omega) ⟨by omega, rfl⟩
  · intro w hV
    refine aw_iload_n (pc := 4) d_M_faultOf_4 rfl rfl ?_
    refine aw_aload_n (pc := 5) d_M_faultOf_5 rfl rfl ?_
    refine aw_geti (pc := 6) (y := (nI np)) d_M_faultOf_6 lf_M_63 hg_36 rfl h36 ?_
    refine awn_ge (pc := 9) (tgt := 73) (np) (np) d_M_faultOf_9 (by decide) rfl rfl (by omega) (by omega) (fun _ => ?_) (fun hh => absurd hh (by omega))
    refine aw_iload_n (pc := 73) d_M_faultOf_73 rfl rfl ?_
    have e := hV.2
    rw [Nat.sub_self] at e
    refine aw_bz (pc := 74) (tgt := 84) d_M_faultOf_74 (by decide) (fun h74 => ?_) (fun h74 => ?_)
    · refine aw_bipush (pc := 84) (v := (-6)) d_M_faultOf_84 (by decide) ?_
      refine aw_iret (pc := 86) d_M_faultOf_86 rfl ?_
      exact ⟨by rw [e]; unfold flt; rw [if_neg h74]; rfl, rfl⟩
    · refine aw_aload_n (pc := 77) d_M_faultOf_77 rfl rfl ?_
      refine aw_geti (pc := 78) (y := (nI np)) d_M_faultOf_78 lf_M_63 hg_36 rfl h36 ?_
      refine aw_goto (pc := 81) (tgt := 86) d_M_faultOf_81 (by decide) ?_
      refine aw_iret (pc := 86) d_M_faultOf_86 rfl ?_
      exact ⟨by rw [e]; unfold flt; rw [if_pos h74]; rfl, rfl⟩
  · intro i w hi hV ih
    have hc := hP i (by omega)
    have e := hV.2
    rw [show np - i = (np - (i + 1)) + 1 by omega, flt_s] at e
    have bad : kd (PD i) = 9 ∨ (w = true ∧ ¬ kd (PD i) = 0) → AW m_M_faultOf r_M_faultOf ax_E0 (ax_Zm (fun q1 q2 => q1 = some (.int (oI (flt PD np 0 false))) ∧ q2 = HH A I J U) 0 0) (HH A I J U) 0 0 53 [(0, .ref 36), (1, .int (b2 (w = true))), (2, .int (nI i)), (3, .int (nI (PD i)))] [] := by
      intro hb
      refine aw_iload_n (pc := 53) d_M_faultOf_53 rfl rfl ?_
      refine aw_iret (pc := 54) d_M_faultOf_54 rfl ?_
      rw [if_pos hb] at e
      exact ⟨by rw [e]; rfl, rfl⟩
    have good : ¬ (kd (PD i) = 9 ∨ (w = true ∧ ¬ kd (PD i) = 0)) → AW m_M_faultOf r_M_faultOf ax_E0 (ax_Zm (fun q1 q2 => q1 = some (.int (oI (flt PD np 0 false))) ∧ q2 = HH A I J U) 0 0) (HH A I J U) 0 0 55 [(0, .ref 36), (1, .int (b2 (w = true))), (2, .int (nI i)), (3, .int (nI (PD i)))] [] := by
      intro hg
      rw [if_neg hg] at e
      refine aw_iload_n (pc := 55) d_M_faultOf_55 rfl rfl ?_
      refine aw_bipush (pc := 56) (v := 33) d_M_faultOf_56 (by decide) ?_
      refine awn_ne (pc := 58) (tgt := 65) (PD i) (33) d_M_faultOf_58 (by decide) rfl rfl (by omega) (by omega) (fun h58 => ?_) (fun h58 => ?_)
      · have h2 : ¬ kd (PD i) = 2 := fun z => h58 (by
          unfold kd at z
          by_cases g1 : 97 ≤ PD i ∧ PD i < 109
          · rw [if_pos g1] at z; omega
          · rw [if_neg g1] at z
            by_cases g2 : 48 ≤ PD i ∧ PD i < 54
            · rw [if_pos g2] at z; omega
            · rw [if_neg g2, if_neg h58] at z
              by_cases g4 : PD i = 46
              · rw [if_pos g4] at z; omega
              · rw [if_neg g4] at z; omega)
        refine aw_iconst (pc := 65) (v := 0) d_M_faultOf_65 (by decide) ?_
        refine aw_istore_n (pc := 66) (ls' := [(0, _), (1, _), (2, _), (3, _)]) d_M_faultOf_66 rfl (by decide) rfl ?_
        refine aw_incN (pc := 67) (ls' := [(0, _), (1, _), (2, _), (3, _)]) (i := i) d_M_faultOf_67 rfl rfl (by decide) rfl ?_
        refine aw_goto (pc := 70) (tgt := 4) d_M_faultOf_70 (by decide) ?_
        refine aw_sub (ls' := [(0, _), (1, _), (2, _)]) [0, 1, 2] rfl ?_
        exact ih false ⟨by omega, by rw [decide_eq_false h2] at e; exact e⟩
      · refine aw_iconst (pc := 61) (v := 1) d_M_faultOf_61 (by decide) ?_
        refine aw_goto (pc := 62) (tgt := 66) d_M_faultOf_62 (by decide) ?_
        refine aw_istore_n (pc := 66) (ls' := [(0, _), (1, _), (2, _), (3, _)]) d_M_faultOf_66 rfl (by decide) rfl ?_
        refine aw_incN (pc := 67) (ls' := [(0, _), (1, _), (2, _), (3, _)]) (i := i) d_M_faultOf_67 rfl rfl (by decide) rfl ?_
        refine aw_goto (pc := 70) (tgt := 4) d_M_faultOf_70 (by decide) ?_
        refine aw_sub (ls' := [(0, _), (1, _), (2, _)]) [0, 1, 2] rfl ?_
        exact ih true ⟨by omega, by rw [h58, kd_2] at e; exact e⟩
    refine aw_iload_n (pc := 4) d_M_faultOf_4 rfl rfl ?_
    refine aw_aload_n (pc := 5) d_M_faultOf_5 rfl rfl ?_
    refine aw_geti (pc := 6) (y := (nI np)) d_M_faultOf_6 lf_M_63 hg_36 rfl h36 ?_
    refine awn_ge (pc := 9) (tgt := 73) (i) (np) d_M_faultOf_9 (by decide) rfl rfl (by omega) (by omega) (fun hh => absurd hh (by omega)) (fun _ => ?_)
    refine aw_aload_n (pc := 12) d_M_faultOf_12 rfl rfl ?_
    refine aw_get (pc := 13) d_M_faultOf_13 lf_M_29 hg_36 rfl ?_
    refine aw_iload_n (pc := 16) d_M_faultOf_16 rfl rfl ?_
    refine aw_ildN (pc := 17) (j := i) d_M_faultOf_17 hg_42 h42 rfl (by omega) (by decide) ?_
    refine aw_istore_n (pc := 18) (ls' := [(0, _), (1, _), (2, _), (3, _)]) d_M_faultOf_18 rfl (by decide) rfl ?_
    refine aw_iload_n (pc := 19) d_M_faultOf_19 rfl rfl ?_
    refine aw_callS1 (pc := 20) (c_M_isLetter _ _) ok_M_isLetter d_M_faultOf_20 lm_M_66 rfl rfl ⟨by decide, by decide⟩ (Nat.le_of_ble_eq_true rfl) rfl rfl ⟨by decide, by decide⟩ ?_
    have hlt : (97 ≤ nI (PD i) ∧ nI (PD i) ≤ 108) ↔ kd (PD i) = 0 := by
      rw [show (97 : Int32) = nI 97 from rfl, show (108 : Int32) = nI 108 from rfl, nI_leI (by omega) (by omega), nI_leI (by omega) (by omega)]
      exact ⟨fun z => kd_0 (by omega), fun z => by have := kd_is0 z; omega⟩
    refine aw_bn (pc := 23) (tgt := 55) d_M_faultOf_23 (by decide) (fun h23 => ?_) (fun h23 => ?_)
    · exact good (fun z => by
        have h0 := hlt.mp h23
        rcases z with z | z
        · omega
        · exact z.2 h0)
    · have h0 : ¬ kd (PD i) = 0 := fun z => h23 (hlt.mpr z)
      refine aw_iload_n (pc := 26) d_M_faultOf_26 rfl rfl ?_
      refine aw_bn (pc := 27) (tgt := 53) d_M_faultOf_27 (by decide) (fun h27 => ?_) (fun h27 => ?_)
      · exact bad (Or.inr ⟨h27, h0⟩)
      · refine aw_iload_n (pc := 30) d_M_faultOf_30 rfl rfl ?_
        refine aw_bipush (pc := 31) (v := 46) d_M_faultOf_31 (by decide) ?_
        refine awn_eq (pc := 33) (tgt := 55) (PD i) (46) d_M_faultOf_33 (by decide) rfl rfl (by omega) (by omega) (fun h33 => ?_) (fun h33 => ?_)
        · exact good (fun z => z.elim (fun z => by rw [h33, kd_3] at z; omega) (fun z => h27 z.1))
        · refine aw_iload_n (pc := 36) d_M_faultOf_36 rfl rfl ?_
          refine aw_bipush (pc := 37) (v := 33) d_M_faultOf_37 (by decide) ?_
          refine awn_eq (pc := 39) (tgt := 55) (PD i) (33) d_M_faultOf_39 (by decide) rfl rfl (by omega) (by omega) (fun h39 => ?_) (fun h39 => ?_)
          · exact good (fun z => z.elim (fun z => by rw [h39, kd_2] at z; omega) (fun z => h27 z.1))
          · refine aw_iload_n (pc := 42) d_M_faultOf_42 rfl rfl ?_
            refine aw_bipush (pc := 43) (v := 48) d_M_faultOf_43 (by decide) ?_
            refine aw_bipush (pc := 45) (v := 53) d_M_faultOf_45 (by decide) ?_
            refine aw_callS1 (pc := 47) (c_M_in _ _ _ _) ok_M_in d_M_faultOf_47 lm_M_52 rfl rfl ⟨by decide, by decide⟩ (Nat.le_of_ble_eq_true rfl) rfl rfl ⟨by decide, by decide⟩ ?_
            have hin : (48 ≤ nI (PD i) ∧ nI (PD i) ≤ 53) ↔ (48 ≤ PD i ∧ PD i < 54) := by
              rw [show (48 : Int32) = nI 48 from rfl, show (53 : Int32) = nI 53 from rfl, nI_leI (by omega) (by omega), nI_leI (by omega) (by omega)]
              omega
            refine aw_bn (pc := 50) (tgt := 55) d_M_faultOf_50 (by decide) (fun h50 => ?_) (fun h50 => ?_)
            · have := kd_1 (hin.mp h50)
              exact good (fun z => z.elim (fun z => by omega) (fun z => h27 z.1))
            · exact bad (Or.inl (kd_9 (fun z => h0 (kd_0 z)) (fun z => h50 (hin.mpr z)) h39 h33))
set_option maxHeartbeats 1000000 in
set_option maxRecDepth 20000 in
theorem c_M_asNow (h37 : A 37 = lst 16 (bk T)) {f : Nat → Nat} (h38 : A 38 = lst 16 f) : AD m_M_asNow r_M_asNow (HH A I J U) [.ref 36] none (HH (u1 A 38 (lst 16 (bk T))) I J U) := by
  refine am_of (by decide) rfl (by first | decide | exact Nat.le_of_ble_eq_true rfl) ?_
  refine aw_iconst (pc := 0) (v := 0) d_M_asNow_0 (by decide) ?_
  refine aw_istore_n (pc := 1) (ls' := [(0, _), (1, _)]) d_M_asNow_1 rfl (by decide) rfl ?_
  refine aw_eq (h' := HH (u1 A 38 (lst 16 f)) I J U) ?_ (by rw [u1_self h38]) rfl rfl
  refine lp_i (fun i F => AW m_M_asNow r_M_asNow ax_E0 (ax_Zm (fun q1 q2 => q1 = none ∧ q2 = HH (u1 A 38 (lst 16 (bk T))) I J U) 0 0) (HH (u1 A 38 (lst 16 F)) I J U) 0 0 2 [(0, .ref 36), (1, .int (nI i))] []) (fun i F => ∀ j, j < i → F j = bk T j) 16 ?_ ?_ 16 0 f (by omega) (fun j hj => absurd hj (by omega))
  · intro F hV
    refine aw_iload_n (pc := 2) d_M_asNow_2 rfl rfl ?_
    refine aw_bipush (pc := 3) (v := 16) d_M_asNow_3 (by decide) ?_
    refine awn_ge (pc := 5) (tgt := 26) (16) (16) d_M_asNow_5 (by decide) rfl rfl (by omega) (by omega) (fun _ => ?_) (fun hh => absurd hh (by omega))
    refine aw_vret (pc := 26) d_M_asNow_26 rfl ?_
    exact ⟨rfl, by rw [lst_cong hV]⟩
  · intro i F hi hV ih
    refine aw_iload_n (pc := 2) d_M_asNow_2 rfl rfl ?_
    refine aw_bipush (pc := 3) (v := 16) d_M_asNow_3 (by decide) ?_
    refine awn_ge (pc := 5) (tgt := 26) (i) (16) d_M_asNow_5 (by decide) rfl rfl (by omega) (by omega) (fun hh => absurd hh (by omega)) (fun _ => ?_)
    refine aw_aload_n (pc := 8) d_M_asNow_8 rfl rfl ?_
    refine aw_get (pc := 9) d_M_asNow_9 lf_M_13 hg_36 rfl ?_
    refine aw_iload_n (pc := 12) d_M_asNow_12 rfl rfl ?_
    refine aw_aload_n (pc := 13) d_M_asNow_13 rfl rfl ?_
    refine aw_get (pc := 14) d_M_asNow_14 lf_M_7 hg_36 rfl ?_
    refine aw_iload_n (pc := 17) d_M_asNow_17 rfl rfl ?_
    refine aw_ildN (pc := 18) (j := i) d_M_asNow_18 hg_37 h37 rfl hi (by decide) ?_
    refine aw_istN (pc := 19) (j := i) (v := _) d_M_asNow_19 hg_38 rfl rfl rfl hi (by decide) (hs_38 _) ?_
    refine aw_incN (pc := 20) (ls' := [(0, _), (1, _)]) (i := i) d_M_asNow_20 rfl rfl (by decide) rfl ?_
    refine aw_goto (pc := 23) (tgt := 2) d_M_asNow_23 (by decide) ?_
    refine aw_eq (ih (up F i (bk T i)) (fun j hj => ?_)) (by rw [u1_u1]) rfl rfl
    by_cases e : j = i
    · subst e; rw [up_s]
    · rw [up_n _ _ e]; exact hV j (by omega)
theorem bk_go (T : town) (n : Nat) : ∀ j, j < 16 → up (bk T) 12 n j = bk (goT T n) j := by
  intro j hj
  by_cases e : j = 12
  · subst e; rw [up_s]; rfl
  · rw [up_n _ _ e]
    unfold bk
    rw [if_neg e, if_neg e]
    rfl
set_option maxHeartbeats 1000000 in
set_option maxRecDepth 20000 in
theorem c_M_goTo_1 (hT : okT T) (h38 : A 38 = lst 16 (bk T)) {n : Nat} (hn : n < 12) (hw : T 6 5 = n) : AD m_M_goTo r_M_goTo (HH A I J U) [.ref 36, .int (nI n)] (some (.int (nI 1))) (HH A I J U) := by
  refine am_of (by decide) rfl (by first | decide | exact Nat.le_of_ble_eq_true rfl) ?_
  refine aw_aload_n (pc := 0) d_M_goTo_0 rfl rfl ?_
  refine aw_get (pc := 1) d_M_goTo_1 lf_M_13 hg_36 rfl ?_
  refine aw_bipush (pc := 4) (v := 12) d_M_goTo_4 (by decide) ?_
  refine aw_ildN (pc := 6) (j := 12) d_M_goTo_6 hg_38 h38 rfl (by omega) (by decide) ?_
  refine aw_iload_n (pc := 7) d_M_goTo_7 rfl rfl ?_
  refine awn_ne (pc := 8) (tgt := 13) (T 6 5) (n) d_M_goTo_8 (by decide) rfl rfl (by omega) (by omega) (fun hh => absurd hh (by omega)) (fun _ => ?_)
  refine aw_iconst (pc := 11) (v := 1) d_M_goTo_11 (by decide) ?_
  refine aw_iret (pc := 12) d_M_goTo_12 rfl ?_
  exact ⟨rfl, rfl⟩
set_option maxHeartbeats 1000000 in
set_option maxRecDepth 20000 in
theorem c_M_goTo_0 (hT : okT T) (h38 : A 38 = lst 16 (bk T)) {n : Nat} (hn : n < 12) (hw : ¬ T 6 5 = n) : AD m_M_goTo r_M_goTo (HH A I J U) [.ref 36, .int (nI n)] (some (.int (nI 0))) (HH (u1 A 38 (lst 16 (bk (goT T n)))) I J U) := by
  refine am_of (by decide) rfl (by first | decide | exact Nat.le_of_ble_eq_true rfl) ?_
  have h8 := hT.2.2.2.2.2.2.2.2.1
  refine aw_aload_n (pc := 0) d_M_goTo_0 rfl rfl ?_
  refine aw_get (pc := 1) d_M_goTo_1 lf_M_13 hg_36 rfl ?_
  refine aw_bipush (pc := 4) (v := 12) d_M_goTo_4 (by decide) ?_
  refine aw_ildN (pc := 6) (j := 12) d_M_goTo_6 hg_38 h38 rfl (by omega) (by decide) ?_
  refine aw_iload_n (pc := 7) d_M_goTo_7 rfl rfl ?_
  refine awn_ne (pc := 8) (tgt := 13) (T 6 5) (n) d_M_goTo_8 (by decide) rfl rfl (by omega) (by omega) (fun _ => ?_) (fun hh => absurd hh (by omega))
  refine aw_aload_n (pc := 13) d_M_goTo_13 rfl rfl ?_
  refine aw_get (pc := 14) d_M_goTo_14 lf_M_13 hg_36 rfl ?_
  refine aw_bipush (pc := 17) (v := 12) d_M_goTo_17 (by decide) ?_
  refine aw_iload_n (pc := 19) d_M_goTo_19 rfl rfl ?_
  refine aw_istN (pc := 20) (j := 12) (v := n) d_M_goTo_20 hg_38 h38 rfl rfl (by omega) (by decide) (hs_38 _) ?_
  refine aw_iconst (pc := 21) (v := 0) d_M_goTo_21 (by decide) ?_
  refine aw_iret (pc := 22) d_M_goTo_22 rfl ?_
  exact ⟨rfl, by rw [lst_cong (bk_go T n)]⟩
theorem bk_12 (T : town) : bk T 12 = T 6 5 := rfl
theorem bk_13 (T : town) : bk T 13 = T 6 6 := rfl
theorem bk_14 (T : town) : bk T 14 = T 6 0 := rfl
theorem bk_15 (T : town) : bk T 15 = T 6 2 := rfl
theorem bk_lo (T : town) {j : Nat} (h : j < 12) : bk T j = T 0 j := if_pos h
set_option maxHeartbeats 1000000 in
set_option maxRecDepth 20000 in
theorem c_M_read_1 (hT : okT T) (h38 : A 38 = lst 16 (bk T)) {l : Nat} (hl : l < 6) (hw : (T 6 2).testBit l = true) : AD m_M_read r_M_read (HH A I J U) [.ref 36, .int (nI l)] (some (.int (nI 2))) (HH A I J U) := by
  refine am_of (by decide) rfl (by first | decide | exact Nat.le_of_ble_eq_true rfl) ?_
  have hrd := hT.2.2.2.2.2.1
  refine aw_aload_n (pc := 0) d_M_read_0 rfl rfl ?_
  refine aw_get (pc := 1) d_M_read_1 lf_M_13 hg_36 rfl ?_
  refine aw_bipush (pc := 4) (v := 15) d_M_read_4 (by decide) ?_
  refine aw_ildN (pc := 6) (j := 15) d_M_read_6 hg_38 h38 rfl (by omega) (by decide) ?_
  refine aw_iload_n (pc := 7) d_M_read_7 rfl rfl ?_
  refine aw_callS1 (pc := 8) (c_M_has _ _ _) ok_M_has d_M_read_8 lm_M_77 rfl rfl ⟨by decide, by decide⟩ (Nat.le_of_ble_eq_true rfl) rfl rfl ⟨by decide, by decide⟩ ?_
  refine aw_bz (pc := 11) (tgt := 16) d_M_read_11 (by decide) (fun hh => absurd ((hb_nI (by show T 6 2 < _; omega) (by omega)).mpr hw) hh) (fun _ => ?_)
  refine aw_iconst (pc := 14) (v := 2) d_M_read_14 (by decide) ?_
  refine aw_iret (pc := 15) d_M_read_15 rfl ?_
  exact ⟨rfl, rfl⟩
set_option maxHeartbeats 1000000 in
set_option maxRecDepth 20000 in
theorem c_M_read_0 (hT : okT T) (hE : enN A I T) {l : Nat} (hl : l < 6) (hw : ¬ (T 6 2).testBit l = true) : AD m_M_read r_M_read (HH A I J U) [.ref 36, .int (nI l)] (some (.int (nI 0))) (HH (u1 A 38 (lst 16 (bk (rdT T l)))) (u2 I 36 12 (b2 (he T (T 6 5) (T 6 0) (T 2 l) = false))) J U) := by
  refine am_of (by decide) rfl (by first | decide | exact Nat.le_of_ble_eq_true rfl) ?_
  obtain ⟨hG, h40, h38, -⟩ := hE
  have hG2 : ∀ F : Nat → Nat, enG (u1 A 38 (lst 16 F)) I T := fun F => ⟨hG.1, hG.2⟩
  have hop := hT.2.2.2.1
  have hrd := hT.2.2.2.2.2.1
  have hpl := hT.2.2.2.2.2.2.2.2.1
  have hlt := hT.2.2.1 l hl
  refine aw_aload_n (pc := 0) d_M_read_0 rfl rfl ?_
  refine aw_get (pc := 1) d_M_read_1 lf_M_13 hg_36 rfl ?_
  refine aw_bipush (pc := 4) (v := 15) d_M_read_4 (by decide) ?_
  refine aw_ildN (pc := 6) (j := 15) d_M_read_6 hg_38 h38 rfl (by omega) (by decide) ?_
  refine aw_iload_n (pc := 7) d_M_read_7 rfl rfl ?_
  refine aw_callS1 (pc := 8) (c_M_has _ _ _) ok_M_has d_M_read_8 lm_M_77 rfl rfl ⟨by decide, by decide⟩ (Nat.le_of_ble_eq_true rfl) rfl rfl ⟨by decide, by decide⟩ ?_
  refine aw_bz (pc := 11) (tgt := 16) d_M_read_11 (by decide) (fun _ => ?_) (fun hh => absurd hh (fun z => hw ((hb_nI (by show T 6 2 < _; omega) (by omega)).mp z)))
  refine aw_iconst (pc := 16) (v := 0) d_M_read_16 (by decide) ?_
  refine aw_istore_n (pc := 17) (ls' := [(0, _), (1, _), (2, _)]) d_M_read_17 rfl (by decide) rfl ?_
  refine aw_eq (h' := HH (u1 A 38 (lst 16 (bk T))) I J U) ?_ (by rw [u1_self h38]) rfl rfl
  refine lp_i (fun i F => AW m_M_read r_M_read ax_E0 (ax_Zm (fun q1 q2 => q1 = some (.int (nI 0)) ∧ q2 = HH (u1 A 38 (lst 16 (bk (rdT T l)))) (u2 I 36 12 (b2 (he T (T 6 5) (T 6 0) (T 2 l) = false))) J U) 0 0) (HH (u1 A 38 (lst 16 F)) I J U) 0 0 18 [(0, .ref 36), (1, .int (nI l)), (2, .int (nI i))] []) (fun i F => ∀ j, j < 16 → F j = if j < i then rdF T l j else bk T j) 12 ?_ ?_ 12 0 (bk T) (by omega) (fun j hj => by rw [if_neg (by omega)])
  · intro F hV
    have f12 : F 12 = T 6 5 := by rw [hV 12 (by omega), if_neg (by omega), bk_12]
    have f14 : F 14 = T 6 0 := by rw [hV 14 (by omega), if_neg (by omega), bk_14]
    have f15 : F 15 = T 6 2 := by rw [hV 15 (by omega), if_neg (by omega), bk_15]
    have fin : ∀ p : Prop, ∀ (dp : Decidable p), (p ↔ he T (T 6 5) (T 6 0) (T 2 l) = false) → AW m_M_read r_M_read ax_E0 (ax_Zm (fun q1 q2 => q1 = some (.int (nI 0)) ∧ q2 = HH (u1 A 38 (lst 16 (bk (rdT T l)))) (u2 I 36 12 (b2 (he T (T 6 5) (T 6 0) (T 2 l) = false))) J U) 0 0) (HH (u1 A 38 (lst 16 F)) (u2 I 36 12 (b2 p)) J U) 0 0 141 [(0, .ref 36), (1, .int (nI l)), (2, .int (nI 12))] [] := by
      intro p dp hp
      refine aw_aload_n (pc := 141) d_M_read_141 rfl rfl ?_
      refine aw_get (pc := 142) d_M_read_142 lf_M_13 hg_36 rfl ?_
      refine aw_bipush (pc := 145) (v := 15) d_M_read_145 (by decide) ?_
      refine aw_dup2 (pc := 147) d_M_read_147 rfl rfl ?_
      refine aw_ildN (pc := 148) (j := 15) d_M_read_148 hg_38 rfl rfl (by omega) (by decide) ?_
      refine aw_iconst (pc := 149) (v := 1) d_M_read_149 (by decide) ?_
      refine aw_iload_n (pc := 150) d_M_read_150 rfl rfl ?_
      refine aw_ishl (pc := 151) d_M_read_151 ?_
      refine aw_ior (pc := 152) d_M_read_152 ?_
      rw [f15]
      refine aw_top (or_bit (by omega)) ?_
      refine aw_istN (pc := 153) (j := 15) (v := _) d_M_read_153 hg_38 rfl rfl rfl (by omega) (by decide) (hs_38 _) ?_
      refine aw_iconst (pc := 154) (v := 0) d_M_read_154 (by decide) ?_
      refine aw_iret (pc := 155) d_M_read_155 rfl ?_
      refine ⟨rfl, ?_⟩
      rw [u1_u1, b2_c hp]
      congr 2
      apply lst_cong
      intro j hj
      by_cases e : j = 15
      · subst e; rw [up_s]; rfl
      · rw [up_n _ _ e, hV j hj]
        by_cases e2 : j < 12
        · rw [if_pos e2, bk_lo _ e2]; rfl
        · rw [if_neg e2]
          unfold bk
          rw [if_neg e2, if_neg e2]
          rcases (show j = 12 ∨ j = 13 ∨ j = 14 by omega) with rfl | rfl | rfl <;> rfl
    refine aw_iload_n (pc := 18) d_M_read_18 rfl rfl ?_
    refine aw_bipush (pc := 19) (v := 12) d_M_read_19 (by decide) ?_
    refine awn_ge (pc := 21) (tgt := 103) (12) (12) d_M_read_21 (by decide) rfl rfl (by omega) (by omega) (fun _ => ?_) (fun hh => absurd hh (by omega))
    refine aw_aload_n (pc := 103) d_M_read_103 rfl rfl ?_
    refine aw_aload_n (pc := 104) d_M_read_104 rfl rfl ?_
    refine aw_aload_n (pc := 105) d_M_read_105 rfl rfl ?_
    refine aw_get (pc := 106) d_M_read_106 lf_M_13 hg_36 rfl ?_
    refine aw_bipush (pc := 109) (v := 12) d_M_read_109 (by decide) ?_
    refine aw_ildN (pc := 111) (j := 12) d_M_read_111 hg_38 rfl rfl (by omega) (by decide) ?_
    refine aw_aload_n (pc := 112) d_M_read_112 rfl rfl ?_
    refine aw_get (pc := 113) d_M_read_113 lf_M_23 hg_36 rfl ?_
    refine aw_iconst (pc := 116) (v := 4) d_M_read_116 (by decide) ?_
    refine aw_iload_n (pc := 117) d_M_read_117 rfl rfl ?_
    refine aw_imul (pc := 118) d_M_read_118 ?_
    refine aw_top (ix_0 l) ?_
    refine aw_ildN (pc := 119) (j := 4 * l + 0) d_M_read_119 hg_40 h40 rfl (by omega) (by decide) ?_
    refine aw_aload_n (pc := 120) d_M_read_120 rfl rfl ?_
    refine aw_get (pc := 121) d_M_read_121 lf_M_13 hg_36 rfl ?_
    refine aw_bipush (pc := 124) (v := 14) d_M_read_124 (by decide) ?_
    refine aw_ildN (pc := 126) (j := 14) d_M_read_126 hg_38 rfl rfl (by omega) (by decide) ?_
    rw [f12, f14, lt_a0]
    refine aw_callV1 (pc := 127) (c_M_doesHear hT (hG2 F) (h := T 2 l) hpl hlt.1 hop) ok_M_doesHear d_M_read_127 lm_M_81 hg_36 rfl rfl ⟨by decide, by decide⟩ (Nat.le_of_ble_eq_true rfl) rfl rfl ⟨by decide, by decide⟩ ?_
    refine aw_bn (pc := 130) (tgt := 137) d_M_read_130 (by decide) (fun h130 => ?_) (fun h130 => ?_)
    · refine aw_iconst (pc := 137) (v := 0) d_M_read_137 (by decide) ?_
      refine aw_put (pc := 138) d_M_read_138 lp_M_84 hg_36 ft_0 (Nat.le_of_ble_eq_true rfl) (hp_36_12 _) ?_
      exact fin False inferInstance ⟨fun z => z.elim, fun z => by rw [h130] at z; cases z⟩
    · refine aw_iconst (pc := 133) (v := 1) d_M_read_133 (by decide) ?_
      refine aw_goto (pc := 134) (tgt := 138) d_M_read_134 (by decide) ?_
      refine aw_put (pc := 138) d_M_read_138 lp_M_84 hg_36 ft_1 (Nat.le_of_ble_eq_true rfl) (hp_36_12 _) ?_
      exact fin True inferInstance ⟨fun _ => by cases hq : he T (T 6 5) (T 6 0) (T 2 l) with
        | false => rfl
        | true => exact absurd hq h130, fun _ => trivial⟩
  · intro i F hi hV ih
    have f12 : F 12 = T 6 5 := by rw [hV 12 (by omega), if_neg (by omega), bk_12]
    have f14 : F 14 = T 6 0 := by rw [hV 14 (by omega), if_neg (by omega), bk_14]
    have hFi : F i = T 0 i := by rw [hV i (by omega), if_neg (by omega), bk_lo _ hi]
    have fin : ∀ G : Nat → Nat, (∀ h, h < 16 → G h = if h = i then rdF T l i else F h) → ∀ h, h < 16 → G h = if h < i + 1 then rdF T l h else bk T h := by
      intro G hG h hh
      rw [hG h hh]
      by_cases e : h = i
      · subst e; rw [if_pos rfl, if_pos (by omega)]
      · rw [if_neg e, hV h hh]
        by_cases e2 : h < i
        · rw [if_pos e2, if_pos (by omega)]
        · rw [if_neg e2, if_neg (by omega)]
    refine aw_iload_n (pc := 18) d_M_read_18 rfl rfl ?_
    refine aw_bipush (pc := 19) (v := 12) d_M_read_19 (by decide) ?_
    refine awn_ge (pc := 21) (tgt := 103) (i) (12) d_M_read_21 (by decide) rfl rfl (by omega) (by omega) (fun hh => absurd hh (by omega)) (fun _ => ?_)
    refine aw_aload_n (pc := 24) d_M_read_24 rfl rfl ?_
    refine aw_aload_n (pc := 25) d_M_read_25 rfl rfl ?_
    refine aw_get (pc := 26) d_M_read_26 lf_M_13 hg_36 rfl ?_
    refine aw_bipush (pc := 29) (v := 12) d_M_read_29 (by decide) ?_
    refine aw_ildN (pc := 31) (j := 12) d_M_read_31 hg_38 rfl rfl (by omega) (by decide) ?_
    refine aw_iload_n (pc := 32) d_M_read_32 rfl rfl ?_
    refine aw_aload_n (pc := 33) d_M_read_33 rfl rfl ?_
    refine aw_get (pc := 34) d_M_read_34 lf_M_13 hg_36 rfl ?_
    refine aw_bipush (pc := 37) (v := 14) d_M_read_37 (by decide) ?_
    refine aw_ildN (pc := 39) (j := 14) d_M_read_39 hg_38 rfl rfl (by omega) (by decide) ?_
    rw [f12, f14]
    refine aw_callV1 (pc := 40) (c_M_doesHear hT (hG2 F) (h := i) hpl hi hop) ok_M_doesHear d_M_read_40 lm_M_81 hg_36 rfl rfl ⟨by decide, by decide⟩ (Nat.le_of_ble_eq_true rfl) rfl rfl ⟨by decide, by decide⟩ ?_
    refine aw_bz (pc := 43) (tgt := 97) d_M_read_43 (by decide) (fun h43 => ?_) (fun h43 => ?_)
    · refine aw_incN (pc := 97) (ls' := [(0, _), (1, _), (2, _)]) (i := i) d_M_read_97 rfl rfl (by decide) rfl ?_
      refine aw_goto (pc := 100) (tgt := 18) d_M_read_100 (by decide) ?_
      refine ih F (fin F (fun h hh => ?_))
      by_cases e : h = i
      · subst e; rw [if_pos rfl, hFi]; unfold rdF; rw [if_neg h43]
      · rw [if_neg e]
    · refine aw_aload_n (pc := 46) d_M_read_46 rfl rfl ?_
      refine aw_get (pc := 47) d_M_read_47 lf_M_13 hg_36 rfl ?_
      refine aw_iload_n (pc := 50) d_M_read_50 rfl rfl ?_
      refine aw_dup2 (pc := 51) d_M_read_51 rfl rfl ?_
      refine aw_ildN (pc := 52) (j := i) d_M_read_52 hg_38 rfl rfl (by omega) (by decide) ?_
      refine aw_aload_n (pc := 53) d_M_read_53 rfl rfl ?_
      refine aw_get (pc := 54) d_M_read_54 lf_M_23 hg_36 rfl ?_
      refine aw_iconst (pc := 57) (v := 4) d_M_read_57 (by decide) ?_
      refine aw_iload_n (pc := 58) d_M_read_58 rfl rfl ?_
      refine aw_imul (pc := 59) d_M_read_59 ?_
      refine aw_iconst (pc := 60) (v := 1) d_M_read_60 (by decide) ?_
      refine aw_iadd (pc := 61) d_M_read_61 ?_
      refine aw_top (ix_at l 1) ?_
      refine aw_ildN (pc := 62) (j := 4 * l + 1) d_M_read_62 hg_40 h40 rfl (by omega) (by decide) ?_
      refine aw_aload_n (pc := 63) d_M_read_63 rfl rfl ?_
      refine aw_get (pc := 64) d_M_read_64 lf_M_23 hg_36 rfl ?_
      refine aw_iconst (pc := 67) (v := 4) d_M_read_67 (by decide) ?_
      refine aw_iload_n (pc := 68) d_M_read_68 rfl rfl ?_
      refine aw_imul (pc := 69) d_M_read_69 ?_
      refine aw_iconst (pc := 70) (v := 3) d_M_read_70 (by decide) ?_
      refine aw_iadd (pc := 71) d_M_read_71 ?_
      refine aw_top (ix_at l 3) ?_
      refine aw_ildN (pc := 72) (j := 4 * l + 3) d_M_read_72 hg_40 h40 rfl (by omega) (by decide) ?_
      rw [lt_a1, lt_a3]
      refine aw_iload_n (pc := 73) d_M_read_73 rfl rfl ?_
      refine aw_callS1 (pc := 74) (c_M_has _ _ _) ok_M_has d_M_read_74 lm_M_77 rfl rfl ⟨by decide, by decide⟩ (Nat.le_of_ble_eq_true rfl) rfl rfl ⟨by decide, by decide⟩ ?_
      refine aw_bz (pc := 77) (tgt := 93) d_M_read_77 (by decide) (fun h77 => ?_) (fun h77 => ?_)
      · have h77 : ¬ (T 5 l).testBit i = true := fun z => h77 ((hb_nI (by omega) (by omega)).mpr z)
        refine aw_iconst (pc := 93) (v := 0) d_M_read_93 (by decide) ?_
        refine aw_ior (pc := 94) d_M_read_94 ?_
        refine aw_top (or_0 _) ?_
        refine aw_ior (pc := 95) d_M_read_95 ?_
        refine aw_top (fa_or _ _) ?_
        refine aw_istN (pc := 96) (j := i) (v := _) d_M_read_96 hg_38 rfl rfl rfl (by omega) (by decide) (hs_38 _) ?_
        refine aw_incN (pc := 97) (ls' := [(0, _), (1, _), (2, _)]) (i := i) d_M_read_97 rfl rfl (by decide) rfl ?_
        refine aw_goto (pc := 100) (tgt := 18) d_M_read_100 (by decide) ?_
        refine aw_eq (ih _ (fin (up F i (F i ||| T 3 l)) (fun h hh => ?_))) (by rw [u1_u1]) rfl rfl
        by_cases e : h = i
        · subst e; rw [up_s, if_pos rfl]; unfold rdF; rw [if_pos h43, if_neg h77, hFi, Nat.or_zero]
        · rw [up_n _ _ e, if_neg e]
      · have h77 := (hb_nI (by omega) (by omega)).mp h77
        refine aw_aload_n (pc := 80) d_M_read_80 rfl rfl ?_
        refine aw_get (pc := 81) d_M_read_81 lf_M_23 hg_36 rfl ?_
        refine aw_iconst (pc := 84) (v := 4) d_M_read_84 (by decide) ?_
        refine aw_iload_n (pc := 85) d_M_read_85 rfl rfl ?_
        refine aw_imul (pc := 86) d_M_read_86 ?_
        refine aw_iconst (pc := 87) (v := 2) d_M_read_87 (by decide) ?_
        refine aw_iadd (pc := 88) d_M_read_88 ?_
        refine aw_top (ix_at l 2) ?_
        refine aw_ildN (pc := 89) (j := 4 * l + 2) d_M_read_89 hg_40 h40 rfl (by omega) (by decide) ?_
        refine aw_goto (pc := 90) (tgt := 94) d_M_read_90 (by decide) ?_
        rw [lt_a2]
        refine aw_ior (pc := 94) d_M_read_94 ?_
        refine aw_top (fa_or _ _) ?_
        refine aw_ior (pc := 95) d_M_read_95 ?_
        refine aw_top (fa_or _ _) ?_
        refine aw_istN (pc := 96) (j := i) (v := _) d_M_read_96 hg_38 rfl rfl rfl (by omega) (by decide) (hs_38 _) ?_
        refine aw_incN (pc := 97) (ls' := [(0, _), (1, _), (2, _)]) (i := i) d_M_read_97 rfl rfl (by decide) rfl ?_
        refine aw_goto (pc := 100) (tgt := 18) d_M_read_100 (by decide) ?_
        refine aw_eq (ih _ (fin (up F i (F i ||| (T 3 l ||| T 4 l))) (fun h hh => ?_))) (by rw [u1_u1]) rfl rfl
        by_cases e : h = i
        · subst e; rw [up_s, if_pos rfl]; unfold rdF; rw [if_pos h43, if_pos h77, hFi, Nat.or_assoc]
        · rw [up_n _ _ e, if_neg e]
def cW (T : town) (h : Nat) : Nat := if (T 6 1).testBit h = true then 0 else if 0 < h ∧ T 1 (h - 1) ≤ 4 then T 0 (h - 1) else 0
def cE (T : town) (h : Nat) : Nat := if (T 6 1).testBit h = true then 0 else if h < 11 ∧ T 1 h ≤ 4 then T 0 (h + 1) else 0
theorem evF_c (T : town) (h : Nat) : evF T h = (T 0 h ||| cW T h) ||| cE T h := by
  unfold evF cW cE
  by_cases h1 : (T 6 1).testBit h = true
  · rw [if_pos h1, if_pos h1, if_pos h1, Nat.or_zero, Nat.or_zero]
  · rw [if_neg h1, if_neg h1, if_neg h1]
set_option maxHeartbeats 1000000 in
set_option maxRecDepth 20000 in
theorem c_M_evening_1 (hT : okT T) (h38 : A 38 = lst 16 (bk T)) (hw : T 6 6 = 99) : AD m_M_evening r_M_evening (HH A I J U) [.ref 36] (some (.int (nI 3))) (HH A I J U) := by
  refine am_of (by decide) rfl (by first | decide | exact Nat.le_of_ble_eq_true rfl) ?_
  refine aw_aload_n (pc := 0) d_M_evening_0 rfl rfl ?_
  refine aw_get (pc := 1) d_M_evening_1 lf_M_13 hg_36 rfl ?_
  refine aw_bipush (pc := 4) (v := 13) d_M_evening_4 (by decide) ?_
  refine aw_ildN (pc := 6) (j := 13) d_M_evening_6 hg_38 h38 rfl (by omega) (by decide) ?_
  refine aw_bipush (pc := 7) (v := 99) d_M_evening_7 (by decide) ?_
  refine awn_ne (pc := 9) (tgt := 14) (T 6 6) (99) d_M_evening_9 (by decide) rfl rfl (by omega) (by omega) (fun hh => absurd hh (by omega)) (fun _ => ?_)
  refine aw_iconst (pc := 12) (v := 3) d_M_evening_12 (by decide) ?_
  refine aw_iret (pc := 13) d_M_evening_13 rfl ?_
  exact ⟨rfl, rfl⟩
set_option maxHeartbeats 1000000 in
set_option maxRecDepth 20000 in
theorem c_M_evening_0 (hT : okT T) (hE : enN A I T) (hw : T 6 6 < 99) : AM m_M_evening r_M_evening (HH A I J U) [.ref 36] (fun r h' => r = some (.int (nI 0)) ∧ ∃ f, h' = HH (u1 (u1 A 43 (lst 12 f)) 38 (lst 16 (bk (evT T)))) I J U) := by
  refine am_of (by decide) rfl (by first | decide | exact Nat.le_of_ble_eq_true rfl) ?_
  obtain ⟨hG, h40, h38, g, h43⟩ := hE
  have hde := hT.2.2.2.2.1
  refine aw_aload_n (pc := 0) d_M_evening_0 rfl rfl ?_
  refine aw_get (pc := 1) d_M_evening_1 lf_M_13 hg_36 rfl ?_
  refine aw_bipush (pc := 4) (v := 13) d_M_evening_4 (by decide) ?_
  refine aw_ildN (pc := 6) (j := 13) d_M_evening_6 hg_38 h38 rfl (by omega) (by decide) ?_
  refine aw_bipush (pc := 7) (v := 99) d_M_evening_7 (by decide) ?_
  refine awn_ne (pc := 9) (tgt := 14) (T 6 6) (99) d_M_evening_9 (by decide) rfl rfl (by omega) (by omega) (fun _ => ?_) (fun hh => absurd hh (by omega))
  refine aw_iconst (pc := 14) (v := 0) d_M_evening_14 (by decide) ?_
  refine aw_istore_n (pc := 15) (ls' := [(0, _), (1, _)]) d_M_evening_15 rfl (by decide) rfl ?_
  refine aw_eq (h' := HH (u1 A 43 (lst 12 g)) I J U) ?_ (by rw [u1_self h43]) rfl rfl
  refine lp_i (fun i K => AW m_M_evening r_M_evening ax_E0 (ax_Zm (fun r h' => r = some (.int (nI 0)) ∧ ∃ f, h' = HH (u1 (u1 A 43 (lst 12 f)) 38 (lst 16 (bk (evT T)))) I J U) 0 0) (HH (u1 A 43 (lst 12 K)) I J U) 0 0 16 [(0, .ref 36), (1, .int (nI i))] []) (fun i K => ∀ j, j < i → K j = T 0 j) 12 ?_ ?_ 12 0 g (by omega) (fun j hj => absurd hj (by omega))
  · intro K hK
    refine aw_iload_n (pc := 16) d_M_evening_16 rfl rfl ?_
    refine aw_bipush (pc := 17) (v := 12) d_M_evening_17 (by decide) ?_
    refine awn_ge (pc := 19) (tgt := 40) (12) (12) d_M_evening_19 (by decide) rfl rfl (by omega) (by omega) (fun _ => ?_) (fun hh => absurd hh (by omega))
    refine aw_iconst (pc := 40) (v := 0) d_M_evening_40 (by decide) ?_
    refine aw_istore_n (pc := 41) (ls' := [(0, _), (1, _)]) d_M_evening_41 rfl (by decide) rfl ?_
    refine aw_eq (h' := HH (u1 (u1 A 43 (lst 12 K)) 38 (lst 16 (bk T))) I J U) ?_ (by rw [u1_self (f := u1 A 43 (lst 12 K)) (k := 38) h38]) rfl rfl
    refine lp_i (fun i F => AW m_M_evening r_M_evening ax_E0 (ax_Zm (fun r h' => r = some (.int (nI 0)) ∧ ∃ f, h' = HH (u1 (u1 A 43 (lst 12 f)) 38 (lst 16 (bk (evT T)))) I J U) 0 0) (HH (u1 (u1 A 43 (lst 12 K)) 38 (lst 16 F)) I J U) 0 0 42 [(0, .ref 36), (1, .int (nI i))] []) (fun i F => (∀ h, h < 12 → F h = (T 0 h ||| (if h ≤ i then cW T h else 0)) ||| (if h < i then cE T h else 0)) ∧ ∀ h, 12 ≤ h → h < 16 → F h = bk T h) 11 ?_ ?_ 11 0 (bk T) (by omega) ⟨fun h hh => by
        rw [bk_lo _ hh, if_neg (show ¬ h < 0 by omega), Nat.or_zero]
        by_cases e : h ≤ 0
        · rw [if_pos e]
          unfold cW
          rw [if_neg (show ¬ (0 < h ∧ T 1 (h - 1) ≤ 4) by omega)]
          split <;> rw [Nat.or_zero]
        · rw [if_neg e, Nat.or_zero], fun h _ _ => rfl⟩
    · rintro F ⟨hV, hV2⟩
      have f13 : F 13 = T 6 6 := by rw [hV2 13 (by omega) (by omega), bk_13]
      refine aw_iload_n (pc := 42) d_M_evening_42 rfl rfl ?_
      refine aw_bipush (pc := 43) (v := 11) d_M_evening_43 (by decide) ?_
      refine awn_ge (pc := 45) (tgt := 130) (11) (11) d_M_evening_45 (by decide) rfl rfl (by omega) (by omega) (fun _ => ?_) (fun hh => absurd hh (by omega))
      refine aw_aload_n (pc := 130) d_M_evening_130 rfl rfl ?_
      refine aw_get (pc := 131) d_M_evening_131 lf_M_13 hg_36 rfl ?_
      refine aw_bipush (pc := 134) (v := 13) d_M_evening_134 (by decide) ?_
      refine aw_dup2 (pc := 136) d_M_evening_136 rfl rfl ?_
      refine aw_ildN (pc := 137) (j := 13) d_M_evening_137 hg_38 rfl rfl (by omega) (by decide) ?_
      refine aw_iconst (pc := 138) (v := 1) d_M_evening_138 (by decide) ?_
      rw [f13]
      refine aw_iadd (pc := 139) d_M_evening_139 ?_
      refine aw_top (nI_1 _) ?_
      refine aw_istN (pc := 140) (j := 13) (v := _) d_M_evening_140 hg_38 rfl rfl rfl (by omega) (by decide) (hs_38 _) ?_
      refine aw_iconst (pc := 141) (v := 0) d_M_evening_141 (by decide) ?_
      refine aw_iret (pc := 142) d_M_evening_142 rfl ?_
      refine ⟨rfl, K, ?_⟩
      rw [u1_u1]
      congr 2
      apply lst_cong
      intro j hj
      by_cases e : j = 13
      · subst e; rw [up_s]; rfl
      · rw [up_n _ _ e]
        by_cases e2 : j < 12
        · rw [hV j e2, bk_lo _ e2]
          show _ = evF T j
          rw [evF_c, if_pos (by omega)]
          by_cases e3 : j < 11
          · rw [if_pos e3]
          · rw [if_neg e3]
            have e4 : cE T j = 0 := by
              unfold cE
              rw [if_neg (show ¬ (j < 11 ∧ T 1 j ≤ 4) by omega)]
              split <;> rfl
            rw [e4]
        · rw [hV2 j (by omega) hj]
          unfold bk
          rw [if_neg e2, if_neg e2]
          rcases (show j = 12 ∨ j = 14 ∨ j = 15 by omega) with rfl | rfl | rfl <;> rfl
    · rintro i F hi ⟨hV, hV2⟩ ih
      have hw9 := hT.2.1 i hi
      have fin : ∀ G : Nat → Nat, (∀ h, ¬ h = i → ¬ h = i + 1 → G h = F h) → G i = F i ||| cE T i → G (i + 1) = F (i + 1) ||| cW T (i + 1) → AW m_M_evening r_M_evening ax_E0 (ax_Zm (fun r h' => r = some (.int (nI 0)) ∧ ∃ f, h' = HH (u1 (u1 A 43 (lst 12 f)) 38 (lst 16 (bk (evT T)))) I J U) 0 0) (HH (u1 (u1 A 43 (lst 12 K)) 38 (lst 16 G)) I J U) 0 0 124 [(0, .ref 36), (1, .int (nI i))] [] := by
        intro G hG g1 g2
        refine aw_incN (pc := 124) (ls' := [(0, _), (1, _)]) (i := i) d_M_evening_124 rfl rfl (by decide) rfl ?_
        refine aw_goto (pc := 127) (tgt := 42) d_M_evening_127 (by decide) ?_
        refine ih G ⟨fun h hh => ?_, fun h h1 h2 => by rw [hG h (by omega) (by omega)]; exact hV2 h h1 h2⟩
        by_cases e1 : h = i
        · subst e1
          rw [g1, hV h hh, if_pos (Nat.le_refl h), if_neg (Nat.lt_irrefl h), Nat.or_zero, if_pos (by omega), if_pos (by omega)]
        · by_cases e2 : h = i + 1
          · subst e2
            rw [g2, hV (i + 1) hh, if_neg (by omega), if_neg (by omega), Nat.or_zero, Nat.or_zero, if_pos (Nat.le_refl _), if_neg (Nat.lt_irrefl _), Nat.or_zero]
          · rw [hG h e1 e2, hV h hh]
            by_cases e3 : h ≤ i
            · rw [if_pos e3, if_pos (show h ≤ i + 1 by omega), if_pos (show h < i by omega), if_pos (show h < i + 1 by omega)]
            · rw [if_neg e3, if_neg (show ¬ h ≤ i + 1 by omega), if_neg (show ¬ h < i by omega), if_neg (show ¬ h < i + 1 by omega)]
      have east : ∀ v, (v = cE T i ∨ T 1 i ≤ 4 ∧ v = cE T i) → T 1 i ≤ 4 → AW m_M_evening r_M_evening ax_E0 (ax_Zm (fun r h' => r = some (.int (nI 0)) ∧ ∃ f, h' = HH (u1 (u1 A 43 (lst 12 f)) 38 (lst 16 (bk (evT T)))) I J U) 0 0) (HH (u1 (u1 A 43 (lst 12 K)) 38 (lst 16 (up F i (F i ||| v)))) I J U) 0 0 90 [(0, .ref 36), (1, .int (nI i))] [] := by
        intro v hv0 h4
        have hv : v = cE T i := hv0.elim (fun z => z) (fun z => z.2)
        subst hv
        refine aw_aload_n (pc := 90) d_M_evening_90 rfl rfl ?_
        refine aw_get (pc := 91) d_M_evening_91 lf_M_13 hg_36 rfl ?_
        refine aw_iload_n (pc := 94) d_M_evening_94 rfl rfl ?_
        refine aw_iconst (pc := 95) (v := 1) d_M_evening_95 (by decide) ?_
        refine aw_iadd (pc := 96) d_M_evening_96 ?_
        refine aw_top (nI_1 i) ?_
        refine aw_dup2 (pc := 97) d_M_evening_97 rfl rfl ?_
        refine aw_ildN (pc := 98) (j := i + 1) d_M_evening_98 hg_38 rfl rfl (by omega) (by decide) ?_
        refine aw_aload_n (pc := 99) d_M_evening_99 rfl rfl ?_
        refine aw_geti (pc := 100) (y := (nI (T 6 1))) d_M_evening_100 lf_M_49 hg_36 rfl hG.2.1 ?_
        refine aw_iload_n (pc := 103) d_M_evening_103 rfl rfl ?_
        refine aw_iconst (pc := 104) (v := 1) d_M_evening_104 (by decide) ?_
        refine aw_iadd (pc := 105) d_M_evening_105 ?_
        refine aw_top (nI_1 i) ?_
        refine aw_callS1 (pc := 106) (c_M_has _ _ _) ok_M_has d_M_evening_106 lm_M_77 rfl rfl ⟨by decide, by decide⟩ (Nat.le_of_ble_eq_true rfl) rfl rfl ⟨by decide, by decide⟩ ?_
        refine aw_bz (pc := 109) (tgt := 116) d_M_evening_109 (by decide) (fun h109 => ?_) (fun h109 => ?_)
        · have h109 : ¬ (T 6 1).testBit (i + 1) = true := fun z => h109 ((hb_nI (by omega) (by omega)).mpr z)
          refine aw_aload_n (pc := 116) d_M_evening_116 rfl rfl ?_
          refine aw_get (pc := 117) d_M_evening_117 lf_M_32 hg_36 rfl ?_
          refine aw_iload_n (pc := 120) d_M_evening_120 rfl rfl ?_
          refine aw_ildN (pc := 121) (j := i) d_M_evening_121 hg_43 rfl rfl (by omega) (by decide) ?_
          refine aw_ior (pc := 122) d_M_evening_122 ?_
          refine aw_top (fa_or _ _) ?_
          refine aw_istN (pc := 123) (j := i + 1) (v := _) d_M_evening_123 hg_38 rfl rfl rfl (by omega) (by decide) (hs_38 _) ?_
          refine aw_eq (fin (up (up F i (F i ||| cE T i)) (i + 1) (up F i (F i ||| cE T i) (i + 1) ||| K i)) (fun h g1 g2 => by rw [up_n _ _ g2, up_n _ _ g1]) (by rw [up_n _ _ (by omega), up_s]) ?_) (by rw [u1_u1]) rfl rfl
          rw [up_s, up_n _ _ (by omega), hK i (by omega)]
          unfold cW
          rw [if_neg h109, if_pos ⟨by omega, h4⟩]; rfl
        · have h109 := (hb_nI (by omega) (by omega)).mp h109
          refine aw_iconst (pc := 112) (v := 0) d_M_evening_112 (by decide) ?_
          refine aw_goto (pc := 113) (tgt := 122) d_M_evening_113 (by decide) ?_
          refine aw_ior (pc := 122) d_M_evening_122 ?_
          refine aw_top (or_0 _) ?_
          refine aw_istN (pc := 123) (j := i + 1) (v := _) d_M_evening_123 hg_38 rfl rfl rfl (by omega) (by decide) (hs_38 _) ?_
          refine aw_eq (fin (up (up F i (F i ||| cE T i)) (i + 1) (up F i (F i ||| cE T i) (i + 1))) (fun h g1 g2 => by rw [up_n _ _ g2, up_n _ _ g1]) (by rw [up_n _ _ (by omega), up_s]) ?_) (by rw [u1_u1]) rfl rfl
          rw [up_s, up_n _ _ (by omega)]
          unfold cW
          rw [if_pos h109, Nat.or_zero]
      refine aw_iload_n (pc := 42) d_M_evening_42 rfl rfl ?_
      refine aw_bipush (pc := 43) (v := 11) d_M_evening_43 (by decide) ?_
      refine awn_ge (pc := 45) (tgt := 130) (i) (11) d_M_evening_45 (by decide) rfl rfl (by omega) (by omega) (fun hh => absurd hh (by omega)) (fun _ => ?_)
      refine aw_aload_n (pc := 48) d_M_evening_48 rfl rfl ?_
      refine aw_get (pc := 49) d_M_evening_49 lf_M_16 hg_36 rfl ?_
      refine aw_iload_n (pc := 52) d_M_evening_52 rfl rfl ?_
      refine aw_ildN (pc := 53) (j := i) d_M_evening_53 hg_39 hG.1 rfl hi (by decide) ?_
      refine aw_iconst (pc := 54) (v := 5) d_M_evening_54 (by decide) ?_
      refine awn_ge (pc := 55) (tgt := 124) (T 1 i) (5) d_M_evening_55 (by decide) rfl rfl (by omega) (by omega) (fun h55 => ?_) (fun h55 => ?_)
      · refine fin F (fun h _ _ => rfl) ?_ ?_
        · unfold cE
          rw [if_neg (show ¬ (i < 11 ∧ T 1 i ≤ 4) by omega)]
          split <;> rw [Nat.or_zero]
        · unfold cW
          rw [show i + 1 - 1 = i by omega, if_neg (show ¬ (0 < i + 1 ∧ T 1 i ≤ 4) by omega)]
          split <;> rw [Nat.or_zero]
      · refine aw_aload_n (pc := 58) d_M_evening_58 rfl rfl ?_
        refine aw_get (pc := 59) d_M_evening_59 lf_M_13 hg_36 rfl ?_
        refine aw_iload_n (pc := 62) d_M_evening_62 rfl rfl ?_
        refine aw_dup2 (pc := 63) d_M_evening_63 rfl rfl ?_
        refine aw_ildN (pc := 64) (j := i) d_M_evening_64 hg_38 rfl rfl (by omega) (by decide) ?_
        refine aw_aload_n (pc := 65) d_M_evening_65 rfl rfl ?_
        refine aw_geti (pc := 66) (y := (nI (T 6 1))) d_M_evening_66 lf_M_49 hg_36 rfl hG.2.1 ?_
        refine aw_iload_n (pc := 69) d_M_evening_69 rfl rfl ?_
        refine aw_callS1 (pc := 70) (c_M_has _ _ _) ok_M_has d_M_evening_70 lm_M_77 rfl rfl ⟨by decide, by decide⟩ (Nat.le_of_ble_eq_true rfl) rfl rfl ⟨by decide, by decide⟩ ?_
        refine aw_bz (pc := 73) (tgt := 80) d_M_evening_73 (by decide) (fun h73 => ?_) (fun h73 => ?_)
        · have h73 : ¬ (T 6 1).testBit i = true := fun z => h73 ((hb_nI (by omega) (by omega)).mpr z)
          refine aw_aload_n (pc := 80) d_M_evening_80 rfl rfl ?_
          refine aw_get (pc := 81) d_M_evening_81 lf_M_32 hg_36 rfl ?_
          refine aw_iload_n (pc := 84) d_M_evening_84 rfl rfl ?_
          refine aw_iconst (pc := 85) (v := 1) d_M_evening_85 (by decide) ?_
          refine aw_iadd (pc := 86) d_M_evening_86 ?_
          refine aw_ildN (pc := 87) (j := i + 1) d_M_evening_87 hg_43 rfl (nI_1 i) (by omega) (by decide) ?_
          refine aw_ior (pc := 88) d_M_evening_88 ?_
          refine aw_top (fa_or _ _) ?_
          refine aw_istN (pc := 89) (j := i) (v := _) d_M_evening_89 hg_38 rfl rfl rfl (by omega) (by decide) (hs_38 _) ?_
          refine aw_eq (east (K (i + 1)) (Or.inl ?_) (by omega)) (by rw [u1_u1]) rfl rfl
          rw [hK (i + 1) (by omega)]
          unfold cE
          rw [if_neg h73, if_pos ⟨hi, by omega⟩]
        · have h73 := (hb_nI (by omega) (by omega)).mp h73
          refine aw_iconst (pc := 76) (v := 0) d_M_evening_76 (by decide) ?_
          refine aw_goto (pc := 77) (tgt := 88) d_M_evening_77 (by decide) ?_
          refine aw_ior (pc := 88) d_M_evening_88 ?_
          refine aw_top (or_0 _) ?_
          refine aw_istN (pc := 89) (j := i) (v := _) d_M_evening_89 hg_38 rfl rfl rfl (by omega) (by decide) (hs_38 _) ?_
          have e0 : cE T i = 0 := by unfold cE; rw [if_pos h73]
          refine aw_eq (east 0 (Or.inl e0.symm) (by omega)) (by rw [u1_u1, Nat.or_zero]) rfl rfl
  · intro i K hi hK ih
    refine aw_iload_n (pc := 16) d_M_evening_16 rfl rfl ?_
    refine aw_bipush (pc := 17) (v := 12) d_M_evening_17 (by decide) ?_
    refine awn_ge (pc := 19) (tgt := 40) (i) (12) d_M_evening_19 (by decide) rfl rfl (by omega) (by omega) (fun hh => absurd hh (by omega)) (fun _ => ?_)
    refine aw_aload_n (pc := 22) d_M_evening_22 rfl rfl ?_
    refine aw_get (pc := 23) d_M_evening_23 lf_M_32 hg_36 rfl ?_
    refine aw_iload_n (pc := 26) d_M_evening_26 rfl rfl ?_
    refine aw_aload_n (pc := 27) d_M_evening_27 rfl rfl ?_
    refine aw_get (pc := 28) d_M_evening_28 lf_M_13 hg_36 rfl ?_
    refine aw_iload_n (pc := 31) d_M_evening_31 rfl rfl ?_
    refine aw_ildN (pc := 32) (j := i) d_M_evening_32 hg_38 h38 rfl (by omega) (by decide) ?_
    rw [bk_lo T hi]
    refine aw_istN (pc := 33) (j := i) (v := _) d_M_evening_33 hg_43 rfl rfl rfl hi (by decide) (hs_43 _) ?_
    refine aw_incN (pc := 34) (ls' := [(0, _), (1, _)]) (i := i) d_M_evening_34 rfl rfl (by decide) rfl ?_
    refine aw_goto (pc := 37) (tgt := 16) d_M_evening_37 (by decide) ?_
    refine aw_eq (ih (up K i (T 0 i)) (fun j hj => ?_)) (by rw [u1_u1]) rfl rfl
    by_cases e : j = i
    · subst e; rw [up_s]
    · rw [up_n _ _ e]; exact hK j (by omega)
end MDAYS

