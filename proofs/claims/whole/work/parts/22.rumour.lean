/-! rumours -/
def spq (T : town) (b i h : Nat) : Bool := b.testBit h || (!(T 6 1).testBit h && ((decide (0 < h ∧ h ≤ i ∧ T 1 (h - 1) ≤ 4) && b.testBit (h - 1)) || (decide (h < i ∧ T 1 h ≤ 4) && b.testBit (h + 1))))
/-- who knows it behind an evening -/
def sp (T : town) (b : Nat) : Nat := msk (spq T b 11) 12
theorem sp_lt (T : town) (b : Nat) : sp T b < 4096 := msk_lt _ 12
theorem spq_0 (T : town) (b h : Nat) : spq T b 0 h = b.testBit h := by
  unfold spq
  rw [decide_eq_false (show ¬ (0 < h ∧ h ≤ 0 ∧ T 1 (h - 1) ≤ 4) by omega), decide_eq_false (show ¬ (h < 0 ∧ T 1 h ≤ 4) by omega)]
  simp
theorem spq_s (T : town) (b i h : Nat) : spq T b (i + 1) h = (spq T b i h || (decide (T 1 i ≤ 4) && ((decide (h = i + 1) && (b.testBit i && !(T 6 1).testBit (i + 1))) || (decide (h = i) && (b.testBit (i + 1) && !(T 6 1).testBit i))))) := by
  unfold spq
  by_cases h1 : h = i + 1
  · subst h1
    rw [show i + 1 - 1 = i by omega, decide_eq_false (show ¬ (0 < i + 1 ∧ i + 1 ≤ i ∧ T 1 i ≤ 4) by omega), decide_eq_false (show ¬ (i + 1 < i ∧ T 1 (i + 1) ≤ 4) by omega), decide_eq_false (show ¬ (i + 1 < i + 1 ∧ T 1 (i + 1) ≤ 4) by omega), decide_eq_false (show ¬ i + 1 = i by omega), decide_eq_true (show i + 1 = i + 1 from rfl)]
    by_cases h2 : T 1 i ≤ 4
    · rw [decide_eq_true (show 0 < i + 1 ∧ i + 1 ≤ i + 1 ∧ T 1 i ≤ 4 by omega), decide_eq_true h2]
      cases b.testBit (i + 1) <;> cases b.testBit i <;> cases (T 6 1).testBit (i + 1) <;> simp
    · rw [decide_eq_false (show ¬ (0 < i + 1 ∧ i + 1 ≤ i + 1 ∧ T 1 i ≤ 4) by omega), decide_eq_false h2]
      simp
  · by_cases h3 : h = i
    · subst h3
      have e1 : decide (0 < h ∧ h ≤ h + 1 ∧ T 1 (h - 1) ≤ 4) = decide (0 < h ∧ h ≤ h ∧ T 1 (h - 1) ≤ 4) := decide_eq_decide.mpr (by omega)
      have e2 : decide (h < h + 1 ∧ T 1 h ≤ 4) = decide (T 1 h ≤ 4) := decide_eq_decide.mpr (by omega)
      rw [decide_eq_false (show ¬ (h < h ∧ T 1 h ≤ 4) by omega), decide_eq_false h1, decide_eq_true (show h = h from rfl), e1, e2]
      cases b.testBit h <;> cases b.testBit (h + 1) <;> cases (T 6 1).testBit h <;> cases decide (T 1 h ≤ 4) <;> simp
    · have e1 : decide (0 < h ∧ h ≤ i + 1 ∧ T 1 (h - 1) ≤ 4) = decide (0 < h ∧ h ≤ i ∧ T 1 (h - 1) ≤ 4) := decide_eq_decide.mpr (by omega)
      have e2 : decide (h < i + 1 ∧ T 1 h ≤ 4) = decide (h < i ∧ T 1 h ≤ 4) := decide_eq_decide.mpr (by omega)
      rw [decide_eq_false h1, decide_eq_false h3, e1, e2]
      simp
def evs (T : town) : Nat → Nat → Nat
  | 0, _ => 0
  | k + 1, b => if sp T b = b then 0 else evs T k (sp T b) + 1
theorem evs_s (T : town) (k b : Nat) : evs T (k + 1) b = if sp T b = b then 0 else evs T k (sp T b) + 1 := rfl
theorem evs_le (T : town) : ∀ k b, evs T k b ≤ k
  | 0, _ => Nat.le_refl _
  | k + 1, b => by
    unfold evs
    split
    · omega
    · have := evs_le T k (sp T b); omega
theorem sp_grow (T : town) {b : Nat} (hb : b < 4096) (h : ¬ sp T b = b) : cn b < cn (sp T b) := by
  have hsub : ∀ i, i < 12 → b.testBit i = true → (sp T b).testBit i = true := fun i hi h1 => by
    rw [sp, msk_bit, decide_eq_true hi, Bool.true_and]
    unfold spq
    rw [h1, Bool.true_or]
  rcases Classical.em (∃ i, i < 12 ∧ (sp T b).testBit i = true ∧ b.testBit i = false) with ⟨i, hi, h1, h2⟩ | q
  · have e1 : cn (sp T b) = fb_ct (fun k => (sp T b).testBit k) 12 := rfl
    have e2 := fb_ct_upd (fun k => b.testBit k) true (n := 12) hi
    have e3 : fb_ct (fun k => if k = i then true else b.testBit k) 12 ≤ fb_ct (fun k => (sp T b).testBit k) 12 := fb_ct_sub (fun k hk hp => by
      by_cases e : k = i
      · rw [e]; exact h1
      · rw [if_neg e] at hp; exact hsub k hk hp)
    have e4 : cn b = fb_ct (fun k => b.testBit k) 12 := rfl
    have e5 : (if (fun k => b.testBit k) i = true then 1 else 0) = 0 := if_neg (fun z => absurd (h2.symm.trans z) (by decide))
    have e6 : (if true = true then 1 else 0) = 1 := if_pos rfl
    rw [e5, e6] at e2
    rw [e1, e4]
    omega
  · exfalso
    apply h
    refine bits_ext (n := 12) (sp_lt T b) hb (fun i hi => ?_)
    cases h1 : b.testBit i with
    | true => exact hsub i hi h1
    | false =>
      cases h2 : (sp T b).testBit i with
      | false => rfl
      | true => exact absurd ⟨i, hi, h2, h1⟩ q
def aRumour (T : town) (h n : Int32) : Int32 := if ¬ (0 ≤ h ∧ h ≤ 11) then -1 else if ¬ (-1 ≤ n ∧ n ≤ 20) then -2 else if n = -1 then nI (evs T 12 (2 ^ h.toNatClampNeg)) else nI (cn (fd (fun _ b => sp T b) n.toNatClampNeg 0 (2 ^ h.toNatClampNeg)))
theorem tb_not {x : Nat} {h : Nat} (hx : x < 4096) (hh : h < 12) (q : ¬ hb (nI x) (nI h)) : x.testBit h = false := by
  cases e : x.testBit h with
  | false => rfl
  | true => exact absurd ((hb_nI (by omega) (by omega)).mpr e) q
theorem tb_yes {x : Nat} {h : Nat} (hx : x < 4096) (hh : h < 12) (q : hb (nI x) (nI h)) : x.testBit h = true := (hb_nI (by omega) (by omega)).mp q
section RUMOUR
variable {A : Nat → List Int32} {I : Nat → Nat → Int32} {J : Nat → List Int64} {U : Nat → Nat → Int64} {T : town}
set_option maxHeartbeats 1000000 in
set_option maxRecDepth 20000 in
theorem c_S_toldOnward (hT : okT T) (hE : enH A I 1 T) {b : Nat} (hb : b < 4096) : AD m_S_toldOnward r_S_toldOnward (HH A I J U) [.ref 1, .int (nI b)] (some (.int (nI (sp T b)))) (HH A I J U) := by
  refine am_of (by decide) rfl (by first | decide | exact Nat.le_of_ble_eq_true rfl) ?_
  have hde := hT.2.2.2.2.1
  refine aw_iload_n (pc := 0) d_S_toldOnward_0 rfl rfl ?_
  refine aw_istore_n (pc := 1) (ls' := [(0, _), (1, _), (2, _)]) d_S_toldOnward_1 rfl (by decide) rfl ?_
  refine aw_iconst (pc := 2) (v := 0) d_S_toldOnward_2 (by decide) ?_
  refine aw_istore_n (pc := 3) (ls' := [(0, _), (1, _), (2, _), (3, _)]) d_S_toldOnward_3 rfl (by decide) rfl ?_
  refine lp_i (fun i c => AW m_S_toldOnward r_S_toldOnward ax_E0 (ax_Zm (fun q1 q2 => q1 = some (.int (nI (sp T b))) ∧ q2 = HH A I J U) 0 0) (HH A I J U) 0 0 4 [(0, .ref 1), (1, .int (nI b)), (2, .int (nI c)), (3, .int (nI i))] []) (fun i c => c < 4096 ∧ ∀ h, h < 12 → c.testBit h = spq T b i h) 11 ?_ ?_ 11 0 b (by omega) ⟨hb, fun h _ => (spq_0 T b h).symm⟩
  · rintro c ⟨hc, hV⟩
    refine aw_iload_n (pc := 4) d_S_toldOnward_4 rfl rfl ?_
    refine aw_bipush (pc := 5) (v := 11) d_S_toldOnward_5 (by decide) ?_
    refine awn_ge (pc := 7) (tgt := 83) (11) (11) d_S_toldOnward_7 (by decide) rfl rfl (by omega) (by omega) (fun _ => ?_) (fun hh => absurd hh (by omega))
    refine aw_iload_n (pc := 83) d_S_toldOnward_83 rfl rfl ?_
    refine aw_iret (pc := 84) d_S_toldOnward_84 rfl ?_
    exact ⟨by rw [show c = sp T b from msk_ext (n := 12) hc hV], rfl⟩
  · rintro i c hi ⟨hc, hV⟩ ih
    have nxt : ∀ d, d < 4096 → (∀ h, h < 12 → d.testBit h = (c.testBit h || (decide (T 1 i ≤ 4) && ((decide (h = i + 1) && (b.testBit i && !(T 6 1).testBit (i + 1))) || (decide (h = i) && (b.testBit (i + 1) && !(T 6 1).testBit i)))))) → AW m_S_toldOnward r_S_toldOnward ax_E0 (ax_Zm (fun q1 q2 => q1 = some (.int (nI (sp T b))) ∧ q2 = HH A I J U) 0 0) (HH A I J U) 0 0 77 [(0, .ref 1), (1, .int (nI b)), (2, .int (nI d)), (3, .int (nI i))] [] := by
      intro d hd hD
      refine aw_incN (pc := 77) (ls' := [(0, _), (1, _), (2, _), (3, _)]) (i := i) d_S_toldOnward_77 rfl rfl (by decide) rfl ?_
      refine aw_goto (pc := 80) (tgt := 4) d_S_toldOnward_80 (by decide) ?_
      exact ih d ⟨hd, fun h hh => by rw [hD h hh, hV h hh, ← spq_s]⟩
    have sec : T 1 i ≤ 4 → ∀ d, d < 4096 → (∀ h, h < 12 → d.testBit h = (c.testBit h || (decide (h = i + 1) && (b.testBit i && !(T 6 1).testBit (i + 1))))) → AW m_S_toldOnward r_S_toldOnward ax_E0 (ax_Zm (fun q1 q2 => q1 = some (.int (nI (sp T b))) ∧ q2 = HH A I J U) 0 0) (HH A I J U) 0 0 50 [(0, .ref 1), (1, .int (nI b)), (2, .int (nI d)), (3, .int (nI i))] [] := by
      intro h4 d hd hD
      refine aw_iload_n (pc := 50) d_S_toldOnward_50 rfl rfl ?_
      refine aw_iload_n (pc := 51) d_S_toldOnward_51 rfl rfl ?_
      refine aw_iconst (pc := 52) (v := 1) d_S_toldOnward_52 (by decide) ?_
      refine aw_iadd (pc := 53) d_S_toldOnward_53 ?_
      refine aw_top (nI_1 i) ?_
      refine aw_callT1 (pc := 54) (c_V_hasBit _ _ _) ok_V_hasBit d_S_toldOnward_54 ln_S_76 rfl rfl ⟨by decide, by decide⟩ (Nat.le_of_ble_eq_true rfl) rfl rfl ⟨by decide, by decide⟩ ?_
      refine aw_bz (pc := 57) (tgt := 77) d_S_toldOnward_57 (by decide) (fun h57 => ?_) (fun h57 => ?_)
      · have h57 := tb_not hb (by omega) h57
        exact nxt d hd (fun h hh => by rw [hD h hh, h57, decide_eq_true h4]; simp)
      · have h57 := tb_yes hb (by omega) h57
        refine aw_aload_n (pc := 60) d_S_toldOnward_60 rfl rfl ?_
        refine aw_geti (pc := 61) (y := (nI (T 6 1))) d_S_toldOnward_61 lf_S_34 hg_1 rfl hE.2.1 ?_
        refine aw_iload_n (pc := 64) d_S_toldOnward_64 rfl rfl ?_
        refine aw_callT1 (pc := 65) (c_V_hasBit _ _ _) ok_V_hasBit d_S_toldOnward_65 ln_S_76 rfl rfl ⟨by decide, by decide⟩ (Nat.le_of_ble_eq_true rfl) rfl rfl ⟨by decide, by decide⟩ ?_
        refine aw_bn (pc := 68) (tgt := 77) d_S_toldOnward_68 (by decide) (fun h68 => ?_) (fun h68 => ?_)
        · have h68 := tb_yes hde (by omega) h68
          exact nxt d hd (fun h hh => by rw [hD h hh, h68, decide_eq_true h4]; simp)
        · have h68 := tb_not hde (by omega) h68
          refine aw_iload_n (pc := 71) d_S_toldOnward_71 rfl rfl ?_
          refine aw_iconst (pc := 72) (v := 1) d_S_toldOnward_72 (by decide) ?_
          refine aw_iload_n (pc := 73) d_S_toldOnward_73 rfl rfl ?_
          refine aw_ishl (pc := 74) d_S_toldOnward_74 ?_
          refine aw_ior (pc := 75) d_S_toldOnward_75 ?_
          refine aw_top (or_bit (by omega)) ?_
          refine aw_istore_n (pc := 76) (ls' := [(0, _), (1, _), (2, _), (3, _)]) d_S_toldOnward_76 rfl (by decide) rfl ?_
          exact nxt (d ||| 2 ^ i) (or_lt hd (by omega)) (fun h hh => by rw [fb_bit_set, hD h hh, h57, h68, decide_eq_true h4]; simp [Bool.or_assoc])
    refine aw_iload_n (pc := 4) d_S_toldOnward_4 rfl rfl ?_
    refine aw_bipush (pc := 5) (v := 11) d_S_toldOnward_5 (by decide) ?_
    refine awn_ge (pc := 7) (tgt := 83) (i) (11) d_S_toldOnward_7 (by decide) rfl rfl (by omega) (by omega) (fun hh => absurd hh (by omega)) (fun _ => ?_)
    refine aw_aload_n (pc := 10) d_S_toldOnward_10 rfl rfl ?_
    refine aw_iload_n (pc := 11) d_S_toldOnward_11 rfl rfl ?_
    refine aw_callV1 (pc := 12) (c_S_tells_1 hT hE (j := i) (by omega)) ok_S_tellsEastward d_S_toldOnward_12 lm_S_90 hg_1 rfl rfl ⟨by decide, by decide⟩ (Nat.le_of_ble_eq_true rfl) rfl rfl ⟨by decide, by decide⟩ ?_
    refine aw_bn (pc := 15) (tgt := 21) d_S_toldOnward_15 (by decide) (fun h15 => ?_) (fun h15 => ?_)
    · refine aw_iload_n (pc := 21) d_S_toldOnward_21 rfl rfl ?_
      refine aw_iload_n (pc := 22) d_S_toldOnward_22 rfl rfl ?_
      refine aw_callT1 (pc := 23) (c_V_hasBit _ _ _) ok_V_hasBit d_S_toldOnward_23 ln_S_76 rfl rfl ⟨by decide, by decide⟩ (Nat.le_of_ble_eq_true rfl) rfl rfl ⟨by decide, by decide⟩ ?_
      refine aw_bz (pc := 26) (tgt := 50) d_S_toldOnward_26 (by decide) (fun h26 => ?_) (fun h26 => ?_)
      · have h26 := tb_not hb (by omega) h26
        exact sec h15.2 c hc (fun h hh => by rw [h26]; simp)
      · have h26 := tb_yes hb (by omega) h26
        refine aw_aload_n (pc := 29) d_S_toldOnward_29 rfl rfl ?_
        refine aw_geti (pc := 30) (y := (nI (T 6 1))) d_S_toldOnward_30 lf_S_34 hg_1 rfl hE.2.1 ?_
        refine aw_iload_n (pc := 33) d_S_toldOnward_33 rfl rfl ?_
        refine aw_iconst (pc := 34) (v := 1) d_S_toldOnward_34 (by decide) ?_
        refine aw_iadd (pc := 35) d_S_toldOnward_35 ?_
        refine aw_top (nI_1 i) ?_
        refine aw_callT1 (pc := 36) (c_V_hasBit _ _ _) ok_V_hasBit d_S_toldOnward_36 ln_S_76 rfl rfl ⟨by decide, by decide⟩ (Nat.le_of_ble_eq_true rfl) rfl rfl ⟨by decide, by decide⟩ ?_
        refine aw_bn (pc := 39) (tgt := 50) d_S_toldOnward_39 (by decide) (fun h39 => ?_) (fun h39 => ?_)
        · have h39 := tb_yes hde (by omega) h39
          exact sec h15.2 c hc (fun h hh => by rw [h39]; simp)
        · have h39 := tb_not hde (by omega) h39
          refine aw_iload_n (pc := 42) d_S_toldOnward_42 rfl rfl ?_
          refine aw_iconst (pc := 43) (v := 1) d_S_toldOnward_43 (by decide) ?_
          refine aw_iload_n (pc := 44) d_S_toldOnward_44 rfl rfl ?_
          refine aw_iconst (pc := 45) (v := 1) d_S_toldOnward_45 (by decide) ?_
          refine aw_iadd (pc := 46) d_S_toldOnward_46 ?_
          refine aw_top (nI_1 i) ?_
          refine aw_ishl (pc := 47) d_S_toldOnward_47 ?_
          refine aw_ior (pc := 48) d_S_toldOnward_48 ?_
          refine aw_top (or_bit (by omega)) ?_
          refine aw_istore_n (pc := 49) (ls' := [(0, _), (1, _), (2, _), (3, _)]) d_S_toldOnward_49 rfl (by decide) rfl ?_
          exact sec h15.2 (c ||| 2 ^ (i + 1)) (or_lt hc (by omega)) (fun h hh => by rw [fb_bit_set, h26, h39]; simp)
    · refine aw_goto (pc := 18) (tgt := 77) d_S_toldOnward_18 (by decide) ?_
      exact nxt c hc (fun h hh => by rw [decide_eq_false (show ¬ T 1 i ≤ 4 from fun z => h15 ⟨hi, z⟩)]; simp)
set_option maxHeartbeats 1000000 in
set_option maxRecDepth 20000 in
theorem c_M_spread (hT : okT T) (hE : enG A I T) {b : Nat} (hb : b < 4096) : AD m_M_spread r_M_spread (HH A I J U) [.ref 36, .int (nI b)] (some (.int (nI (sp T b)))) (HH A I J U) := by
  refine am_of (by decide) rfl (by first | decide | exact Nat.le_of_ble_eq_true rfl) ?_
  have hde := hT.2.2.2.2.1
  refine aw_iload_n (pc := 0) d_M_spread_0 rfl rfl ?_
  refine aw_istore_n (pc := 1) (ls' := [(0, _), (1, _), (2, _)]) d_M_spread_1 rfl (by decide) rfl ?_
  refine aw_iconst (pc := 2) (v := 0) d_M_spread_2 (by decide) ?_
  refine aw_istore_n (pc := 3) (ls' := [(0, _), (1, _), (2, _), (3, _)]) d_M_spread_3 rfl (by decide) rfl ?_
  refine lp_i (fun i c => AW m_M_spread r_M_spread ax_E0 (ax_Zm (fun q1 q2 => q1 = some (.int (nI (sp T b))) ∧ q2 = HH A I J U) 0 0) (HH A I J U) 0 0 4 [(0, .ref 36), (1, .int (nI b)), (2, .int (nI c)), (3, .int (nI i))] []) (fun i c => c < 4096 ∧ ∀ h, h < 12 → c.testBit h = spq T b i h) 11 ?_ ?_ 11 0 b (by omega) ⟨hb, fun h _ => (spq_0 T b h).symm⟩
  · rintro c ⟨hc, hV⟩
    refine aw_iload_n (pc := 4) d_M_spread_4 rfl rfl ?_
    refine aw_bipush (pc := 5) (v := 11) d_M_spread_5 (by decide) ?_
    refine awn_ge (pc := 7) (tgt := 90) (11) (11) d_M_spread_7 (by decide) rfl rfl (by omega) (by omega) (fun _ => ?_) (fun hh => absurd hh (by omega))
    refine aw_iload_n (pc := 90) d_M_spread_90 rfl rfl ?_
    refine aw_iret (pc := 91) d_M_spread_91 rfl ?_
    exact ⟨by rw [show c = sp T b from msk_ext (n := 12) hc hV], rfl⟩
  · rintro i c hi ⟨hc, hV⟩ ih
    have hw9 := hT.2.1 i hi
    have nxt : ∀ d, d < 4096 → (∀ h, h < 12 → d.testBit h = (c.testBit h || (decide (T 1 i ≤ 4) && ((decide (h = i + 1) && (b.testBit i && !(T 6 1).testBit (i + 1))) || (decide (h = i) && (b.testBit (i + 1) && !(T 6 1).testBit i)))))) → AW m_M_spread r_M_spread ax_E0 (ax_Zm (fun q1 q2 => q1 = some (.int (nI (sp T b))) ∧ q2 = HH A I J U) 0 0) (HH A I J U) 0 0 84 [(0, .ref 36), (1, .int (nI b)), (2, .int (nI d)), (3, .int (nI i))] [] := by
      intro d hd hD
      refine aw_incN (pc := 84) (ls' := [(0, _), (1, _), (2, _), (3, _)]) (i := i) d_M_spread_84 rfl rfl (by decide) rfl ?_
      refine aw_goto (pc := 87) (tgt := 4) d_M_spread_87 (by decide) ?_
      exact ih d ⟨hd, fun h hh => by rw [hD h hh, hV h hh, ← spq_s]⟩
    have sec : T 1 i ≤ 4 → ∀ d, d < 4096 → (∀ h, h < 12 → d.testBit h = (c.testBit h || (decide (h = i) && (b.testBit (i + 1) && !(T 6 1).testBit i)))) → AW m_M_spread r_M_spread ax_E0 (ax_Zm (fun q1 q2 => q1 = some (.int (nI (sp T b))) ∧ q2 = HH A I J U) 0 0) (HH A I J U) 0 0 51 [(0, .ref 36), (1, .int (nI b)), (2, .int (nI d)), (3, .int (nI i))] [] := by
      intro h4 d hd hD
      have no : (b.testBit i && !(T 6 1).testBit (i + 1)) = false → AW m_M_spread r_M_spread ax_E0 (ax_Zm (fun q1 q2 => q1 = some (.int (nI (sp T b))) ∧ q2 = HH A I J U) 0 0) (HH A I J U) 0 0 81 [(0, .ref 36), (1, .int (nI b)), (2, .int (nI d)), (3, .int (nI i))] [.int (nI d)] := by
        intro hno
        refine aw_iconst (pc := 81) (v := 0) d_M_spread_81 (by decide) ?_
        refine aw_ior (pc := 82) d_M_spread_82 ?_
        refine aw_top (or_0 _) ?_
        refine aw_istore_n (pc := 83) (ls' := [(0, _), (1, _), (2, _), (3, _)]) d_M_spread_83 rfl (by decide) rfl ?_
        exact nxt d hd (fun h hh => by rw [hD h hh, hno, decide_eq_true h4]; simp)
      refine aw_iload_n (pc := 51) d_M_spread_51 rfl rfl ?_
      refine aw_iload_n (pc := 52) d_M_spread_52 rfl rfl ?_
      refine aw_iload_n (pc := 53) d_M_spread_53 rfl rfl ?_
      refine aw_callS1 (pc := 54) (c_M_has _ _ _) ok_M_has d_M_spread_54 lm_M_77 rfl rfl ⟨by decide, by decide⟩ (Nat.le_of_ble_eq_true rfl) rfl rfl ⟨by decide, by decide⟩ ?_
      refine aw_bz (pc := 57) (tgt := 81) d_M_spread_57 (by decide) (fun h57 => ?_) (fun h57 => ?_)
      · have h57 := tb_not hb (by omega) h57
        exact no (by rw [h57]; rfl)
      · have h57 := tb_yes hb (by omega) h57
        refine aw_aload_n (pc := 60) d_M_spread_60 rfl rfl ?_
        refine aw_geti (pc := 61) (y := (nI (T 6 1))) d_M_spread_61 lf_M_49 hg_36 rfl hE.2.1 ?_
        refine aw_iload_n (pc := 64) d_M_spread_64 rfl rfl ?_
        refine aw_iconst (pc := 65) (v := 1) d_M_spread_65 (by decide) ?_
        refine aw_iadd (pc := 66) d_M_spread_66 ?_
        refine aw_top (nI_1 i) ?_
        refine aw_callS1 (pc := 67) (c_M_has _ _ _) ok_M_has d_M_spread_67 lm_M_77 rfl rfl ⟨by decide, by decide⟩ (Nat.le_of_ble_eq_true rfl) rfl rfl ⟨by decide, by decide⟩ ?_
        refine aw_bn (pc := 70) (tgt := 81) d_M_spread_70 (by decide) (fun h70 => ?_) (fun h70 => ?_)
        · have h70 := tb_yes hde (by omega) h70
          exact no (by rw [h57, h70]; rfl)
        · have h70 := tb_not hde (by omega) h70
          refine aw_iconst (pc := 73) (v := 1) d_M_spread_73 (by decide) ?_
          refine aw_iload_n (pc := 74) d_M_spread_74 rfl rfl ?_
          refine aw_iconst (pc := 75) (v := 1) d_M_spread_75 (by decide) ?_
          refine aw_iadd (pc := 76) d_M_spread_76 ?_
          refine aw_top (nI_1 i) ?_
          refine aw_ishl (pc := 77) d_M_spread_77 ?_
          refine aw_goto (pc := 78) (tgt := 82) d_M_spread_78 (by decide) ?_
          refine aw_ior (pc := 82) d_M_spread_82 ?_
          refine aw_top (or_bit (by omega)) ?_
          refine aw_istore_n (pc := 83) (ls' := [(0, _), (1, _), (2, _), (3, _)]) d_M_spread_83 rfl (by decide) rfl ?_
          refine nxt (d ||| 2 ^ (i + 1)) (or_lt hd (by omega)) (fun h hh => ?_)
          rw [fb_bit_set, hD h hh, h57, h70, decide_eq_true h4]
          cases c.testBit h <;> cases decide (h = i) <;> cases b.testBit (i + 1) <;> cases (T 6 1).testBit i <;> simp
    have no1 : T 1 i ≤ 4 → (b.testBit (i + 1) && !(T 6 1).testBit i) = false → AW m_M_spread r_M_spread ax_E0 (ax_Zm (fun q1 q2 => q1 = some (.int (nI (sp T b))) ∧ q2 = HH A I J U) 0 0) (HH A I J U) 0 0 48 [(0, .ref 36), (1, .int (nI b)), (2, .int (nI c)), (3, .int (nI i))] [.int (nI c)] := by
      intro h4 hno
      refine aw_iconst (pc := 48) (v := 0) d_M_spread_48 (by decide) ?_
      refine aw_ior (pc := 49) d_M_spread_49 ?_
      refine aw_top (or_0 _) ?_
      refine aw_istore_n (pc := 50) (ls' := [(0, _), (1, _), (2, _), (3, _)]) d_M_spread_50 rfl (by decide) rfl ?_
      exact sec h4 c hc (fun h hh => by rw [hno]; simp)
    refine aw_iload_n (pc := 4) d_M_spread_4 rfl rfl ?_
    refine aw_bipush (pc := 5) (v := 11) d_M_spread_5 (by decide) ?_
    refine awn_ge (pc := 7) (tgt := 90) (i) (11) d_M_spread_7 (by decide) rfl rfl (by omega) (by omega) (fun hh => absurd hh (by omega)) (fun _ => ?_)
    refine aw_aload_n (pc := 10) d_M_spread_10 rfl rfl ?_
    refine aw_get (pc := 11) d_M_spread_11 lf_M_16 hg_36 rfl ?_
    refine aw_iload_n (pc := 14) d_M_spread_14 rfl rfl ?_
    refine aw_ildN (pc := 15) (j := i) d_M_spread_15 hg_39 hE.1 rfl hi (by decide) ?_
    refine aw_iconst (pc := 16) (v := 5) d_M_spread_16 (by decide) ?_
    refine awn_ge (pc := 17) (tgt := 84) (T 1 i) (5) d_M_spread_17 (by decide) rfl rfl (by omega) (by omega) (fun h17 => ?_) (fun h17 => ?_)
    · exact nxt c hc (fun h hh => by rw [decide_eq_false (show ¬ T 1 i ≤ 4 by omega)]; simp)
    · refine aw_iload_n (pc := 20) d_M_spread_20 rfl rfl ?_
      refine aw_iload_n (pc := 21) d_M_spread_21 rfl rfl ?_
      refine aw_iload_n (pc := 22) d_M_spread_22 rfl rfl ?_
      refine aw_iconst (pc := 23) (v := 1) d_M_spread_23 (by decide) ?_
      refine aw_iadd (pc := 24) d_M_spread_24 ?_
      refine aw_top (nI_1 i) ?_
      refine aw_callS1 (pc := 25) (c_M_has _ _ _) ok_M_has d_M_spread_25 lm_M_77 rfl rfl ⟨by decide, by decide⟩ (Nat.le_of_ble_eq_true rfl) rfl rfl ⟨by decide, by decide⟩ ?_
      refine aw_bz (pc := 28) (tgt := 48) d_M_spread_28 (by decide) (fun h28 => ?_) (fun h28 => ?_)
      · have h28 := tb_not hb (by omega) h28
        exact no1 (by omega) (by rw [h28]; rfl)
      · have h28 := tb_yes hb (by omega) h28
        refine aw_aload_n (pc := 31) d_M_spread_31 rfl rfl ?_
        refine aw_geti (pc := 32) (y := (nI (T 6 1))) d_M_spread_32 lf_M_49 hg_36 rfl hE.2.1 ?_
        refine aw_iload_n (pc := 35) d_M_spread_35 rfl rfl ?_
        refine aw_callS1 (pc := 36) (c_M_has _ _ _) ok_M_has d_M_spread_36 lm_M_77 rfl rfl ⟨by decide, by decide⟩ (Nat.le_of_ble_eq_true rfl) rfl rfl ⟨by decide, by decide⟩ ?_
        refine aw_bn (pc := 39) (tgt := 48) d_M_spread_39 (by decide) (fun h39 => ?_) (fun h39 => ?_)
        · have h39 := tb_yes hde (by omega) h39
          exact no1 (by omega) (by rw [h28, h39]; rfl)
        · have h39 := tb_not hde (by omega) h39
          refine aw_iconst (pc := 42) (v := 1) d_M_spread_42 (by decide) ?_
          refine aw_iload_n (pc := 43) d_M_spread_43 rfl rfl ?_
          refine aw_ishl (pc := 44) d_M_spread_44 ?_
          refine aw_goto (pc := 45) (tgt := 49) d_M_spread_45 (by decide) ?_
          refine aw_ior (pc := 49) d_M_spread_49 ?_
          refine aw_top (or_bit (by omega)) ?_
          refine aw_istore_n (pc := 50) (ls' := [(0, _), (1, _), (2, _), (3, _)]) d_M_spread_50 rfl (by decide) rfl ?_
          exact sec (by omega) (c ||| 2 ^ i) (or_lt hc (by omega)) (fun h hh => by rw [fb_bit_set, h28, h39]; simp)
theorem p2_lt {h : Nat} (hh : h < 12) : 2 ^ h < 4096 := (Nat.pow_lt_pow_right (show 1 < 2 by decide) hh : 2 ^ h < 2 ^ 12)
theorem fd_sp_lt (T : town) : ∀ k i b, b < 4096 → fd (fun _ b => sp T b) k i b < 4096
  | 0, _, _, h => h
  | k + 1, i, b, _ => fd_sp_lt T k (i + 1) _ (sp_lt T b)
set_option maxHeartbeats 1000000 in
set_option maxRecDepth 20000 in
theorem c_S_knowersOfRumour (hT : okT T) (hE : enH A I 1 T) {h n : Nat} (hh : h < 12) (hn : n ≤ 20) : AD m_S_knowersOfRumour r_S_knowersOfRumour (HH A I J U) [.ref 1, .int (nI h), .int (nI n)] (some (.int (nI (fd (fun _ b => sp T b) n 0 (2 ^ h))))) (HH A I J U) := by
  refine am_of (by decide) rfl (by first | decide | exact Nat.le_of_ble_eq_true rfl) ?_
  refine aw_iconst (pc := 0) (v := 1) d_S_knowersOfRumour_0 (by decide) ?_
  refine aw_iload_n (pc := 1) d_S_knowersOfRumour_1 rfl rfl ?_
  refine aw_ishl (pc := 2) d_S_knowersOfRumour_2 ?_
  refine aw_top (sh1 (by omega)) ?_
  refine aw_istore_n (pc := 3) (ls' := [(0, _), (1, _), (2, _), (3, _)]) d_S_knowersOfRumour_3 rfl (by decide) rfl ?_
  refine aw_iconst (pc := 4) (v := 0) d_S_knowersOfRumour_4 (by decide) ?_
  refine aw_istore (pc := 5) (ls' := [(0, _), (1, _), (2, _), (3, _), (4, _)]) d_S_knowersOfRumour_5 (by decide) rfl ?_
  refine lp_i (fun i b => AW m_S_knowersOfRumour r_S_knowersOfRumour ax_E0 (ax_Zm (fun q1 q2 => q1 = some (.int (nI (fd (fun _ b => sp T b) n 0 (2 ^ h)))) ∧ q2 = HH A I J U) 0 0) (HH A I J U) 0 0 7 [(0, .ref 1), (1, .int (nI h)), (2, .int (nI n)), (3, .int (nI b)), (4, .int (nI i))] []) (fun i b => b < 4096 ∧ fd (fun _ b => sp T b) n 0 (2 ^ h) = fd (fun _ b => sp T b) (n - i) i b) n ?_ ?_ n 0 (2 ^ h) (by omega) ⟨p2_lt hh, rfl⟩
  · rintro b ⟨hb, hV⟩
    rw [fd_0] at hV
    refine aw_iload (pc := 7) d_S_knowersOfRumour_7 rfl ?_
    refine aw_iload_n (pc := 9) d_S_knowersOfRumour_9 rfl rfl ?_
    refine awn_ge (pc := 10) (tgt := 25) (n) (n) d_S_knowersOfRumour_10 (by decide) rfl rfl (by omega) (by omega) (fun _ => ?_) (fun hh => absurd hh (by omega))
    refine aw_iload_n (pc := 25) d_S_knowersOfRumour_25 rfl rfl ?_
    refine aw_iret (pc := 26) d_S_knowersOfRumour_26 rfl ?_
    exact ⟨by rw [hV], rfl⟩
  · rintro i b hi ⟨hb, hV⟩ ih
    rw [fd_s _ hi] at hV
    refine aw_iload (pc := 7) d_S_knowersOfRumour_7 rfl ?_
    refine aw_iload_n (pc := 9) d_S_knowersOfRumour_9 rfl rfl ?_
    refine awn_ge (pc := 10) (tgt := 25) (i) (n) d_S_knowersOfRumour_10 (by decide) rfl rfl (by omega) (by omega) (fun hh => absurd hh (by omega)) (fun _ => ?_)
    refine aw_aload_n (pc := 13) d_S_knowersOfRumour_13 rfl rfl ?_
    refine aw_iload_n (pc := 14) d_S_knowersOfRumour_14 rfl rfl ?_
    refine aw_callV1 (pc := 15) (c_S_toldOnward hT hE hb) ok_S_toldOnward d_S_knowersOfRumour_15 lm_S_94 hg_1 rfl rfl ⟨by decide, by decide⟩ (Nat.le_of_ble_eq_true rfl) rfl rfl ⟨by decide, by decide⟩ ?_
    refine aw_istore_n (pc := 18) (ls' := [(0, _), (1, _), (2, _), (3, _), (4, _)]) d_S_knowersOfRumour_18 rfl (by decide) rfl ?_
    refine aw_incN (pc := 19) (ls' := [(0, _), (1, _), (2, _), (3, _), (4, _)]) (i := i) d_S_knowersOfRumour_19 rfl rfl (by decide) rfl ?_
    refine aw_goto (pc := 22) (tgt := 7) d_S_knowersOfRumour_22 (by decide) ?_
    exact ih (sp T b) ⟨sp_lt T b, hV⟩
set_option maxHeartbeats 1000000 in
set_option maxRecDepth 20000 in
theorem c_S_eveningsOfRumour (hT : okT T) (hE : enH A I 1 T) {h : Nat} (hh : h < 12) : AD m_S_eveningsOfRumour r_S_eveningsOfRumour (HH A I J U) [.ref 1, .int (nI h)] (some (.int (nI (evs T 12 (2 ^ h))))) (HH A I J U) := by
  refine am_of (by decide) rfl (by first | decide | exact Nat.le_of_ble_eq_true rfl) ?_
  refine aw_iconst (pc := 0) (v := 1) d_S_eveningsOfRumour_0 (by decide) ?_
  refine aw_iload_n (pc := 1) d_S_eveningsOfRumour_1 rfl rfl ?_
  refine aw_ishl (pc := 2) d_S_eveningsOfRumour_2 ?_
  refine aw_top (sh1 (by omega)) ?_
  refine aw_istore_n (pc := 3) (ls' := [(0, _), (1, _), (2, _)]) d_S_eveningsOfRumour_3 rfl (by decide) rfl ?_
  refine aw_iconst (pc := 4) (v := 0) d_S_eveningsOfRumour_4 (by decide) ?_
  refine aw_istore_n (pc := 5) (ls' := [(0, _), (1, _), (2, _), (3, _)]) d_S_eveningsOfRumour_5 rfl (by decide) rfl ?_
  refine lp_i (fun i b => AW m_S_eveningsOfRumour r_S_eveningsOfRumour ax_E0 (ax_Zm (fun q1 q2 => q1 = some (.int (nI (evs T 12 (2 ^ h)))) ∧ q2 = HH A I J U) 0 0) (HH A I J U) 0 0 6 [(0, .ref 1), (1, .int (nI h)), (2, .int (nI b)), (3, .int (nI i))] []) (fun i b => b < 4096 ∧ i ≤ 12 ∧ evs T 12 (2 ^ h) = i + evs T (12 - i) b) 12 ?_ ?_ 12 0 (2 ^ h) (by omega) ⟨p2_lt hh, (by omega), (Nat.zero_add _).symm⟩
  · rintro b ⟨hb, -, hV⟩
    refine aw_iload_n (pc := 6) d_S_eveningsOfRumour_6 rfl rfl ?_
    refine aw_bipush (pc := 7) (v := 12) d_S_eveningsOfRumour_7 (by decide) ?_
    refine awn_ge (pc := 9) (tgt := 36) (12) (12) d_S_eveningsOfRumour_9 (by decide) rfl rfl (by omega) (by omega) (fun _ => ?_) (fun hh => absurd hh (by omega))
    refine aw_bipush (pc := 36) (v := 12) d_S_eveningsOfRumour_36 (by decide) ?_
    refine aw_iret (pc := 38) d_S_eveningsOfRumour_38 rfl ?_
    exact ⟨by rw [hV]; rfl, rfl⟩
  · rintro i b hi ⟨hb, -, hV⟩ ih
    rw [show 12 - i = (12 - (i + 1)) + 1 by omega, evs_s T (12 - (i + 1)) b] at hV
    refine aw_iload_n (pc := 6) d_S_eveningsOfRumour_6 rfl rfl ?_
    refine aw_bipush (pc := 7) (v := 12) d_S_eveningsOfRumour_7 (by decide) ?_
    refine awn_ge (pc := 9) (tgt := 36) (i) (12) d_S_eveningsOfRumour_9 (by decide) rfl rfl (by omega) (by omega) (fun hh => absurd hh (by omega)) (fun _ => ?_)
    refine aw_aload_n (pc := 12) d_S_eveningsOfRumour_12 rfl rfl ?_
    refine aw_iload_n (pc := 13) d_S_eveningsOfRumour_13 rfl rfl ?_
    refine aw_callV1 (pc := 14) (c_S_toldOnward hT hE hb) ok_S_toldOnward d_S_eveningsOfRumour_14 lm_S_94 hg_1 rfl rfl ⟨by decide, by decide⟩ (Nat.le_of_ble_eq_true rfl) rfl rfl ⟨by decide, by decide⟩ ?_
    refine aw_istore (pc := 17) (ls' := [(0, _), (1, _), (2, _), (3, _), (4, _)]) d_S_eveningsOfRumour_17 (by decide) rfl ?_
    refine aw_iload (pc := 19) d_S_eveningsOfRumour_19 rfl ?_
    refine aw_iload_n (pc := 21) d_S_eveningsOfRumour_21 rfl rfl ?_
    refine awn_ne (pc := 22) (tgt := 27) (sp T b) (b) d_S_eveningsOfRumour_22 (by decide) rfl rfl (Nat.lt_trans (sp_lt T b) (by decide)) (Nat.lt_trans hb (by decide)) (fun h22 => ?_) (fun h22 => ?_)
    · rw [if_neg h22] at hV
      refine aw_iload (pc := 27) d_S_eveningsOfRumour_27 rfl ?_
      refine aw_istore_n (pc := 29) (ls' := [(0, _), (1, _), (2, _), (3, _), (4, _)]) d_S_eveningsOfRumour_29 rfl (by decide) rfl ?_
      refine aw_incN (pc := 30) (ls' := [(0, _), (1, _), (2, _), (3, _), (4, _)]) (i := i) d_S_eveningsOfRumour_30 rfl rfl (by decide) rfl ?_
      refine aw_goto (pc := 33) (tgt := 6) d_S_eveningsOfRumour_33 (by decide) ?_
      refine aw_sub (ls' := [(0, _), (1, _), (2, _), (3, _)]) [0, 1, 2, 3] rfl ?_
      exact ih (sp T b) ⟨sp_lt T b, hi, by omega⟩
    · rw [if_pos h22] at hV
      refine aw_iload_n (pc := 25) d_S_eveningsOfRumour_25 rfl rfl ?_
      refine aw_iret (pc := 26) d_S_eveningsOfRumour_26 rfl ?_
      exact ⟨by rw [hV]; rfl, rfl⟩
theorem m1_of {n : Int32} (h : -1 ≤ n) (h2 : ¬ 0 ≤ n) : n = -1 := by
  have h : (-1 : Int32).toInt ≤ n.toInt := (fa_le _ _).mp h
  have h2 : ¬ (0 : Int32).toInt ≤ n.toInt := fun z => h2 ((fa_le _ _).mpr z)
  have e1 : (-1 : Int32).toInt = -1 := by decide
  have e0 : (0 : Int32).toInt = 0 := by decide
  rw [e1] at h
  rw [e0] at h2
  rw [fa_eq, e1]
  omega
theorem cn_two {h : Nat} (hh : h < 12) : 1 ≤ cn (2 ^ h) := by
  have e : cn (2 ^ h) = fb_ct (fun k => (2 ^ h).testBit k) 12 := rfl
  have e2 : 0 < fb_ct (fun k => (2 ^ h).testBit k) 12 := fb_ct_pos.mpr ⟨h, hh, Nat.testBit_two_pow_self⟩
  rw [e]
  exact e2
set_option maxHeartbeats 1000000 in
set_option maxRecDepth 20000 in
theorem c_M_rumour (hT : okT T) (hE : enG A I T) (h n : Int32) : AD m_M_rumour r_M_rumour (HH A I J U) [.ref 36, .int h, .int n] (some (.int (aRumour T h n))) (HH A I J U) := by
  refine am_of (by decide) rfl (by first | decide | exact Nat.le_of_ble_eq_true rfl) ?_
  refine aw_iload_n (pc := 0) d_M_rumour_0 rfl rfl ?_
  refine aw_callS1 (pc := 1) (c_M_isHouse _ _) ok_M_isHouse d_M_rumour_1 lm_M_56 rfl rfl ⟨by decide, by decide⟩ (Nat.le_of_ble_eq_true rfl) rfl rfl ⟨by decide, by decide⟩ ?_
  refine aw_bn (pc := 4) (tgt := 9) d_M_rumour_4 (by decide) (fun h4 => ?_) (fun h4 => ?_)
  · refine aw_iload_n (pc := 9) d_M_rumour_9 rfl rfl ?_
    refine aw_iconst (pc := 10) (v := (-1)) d_M_rumour_10 (by decide) ?_
    refine aw_bipush (pc := 11) (v := 20) d_M_rumour_11 (by decide) ?_
    refine aw_callS1 (pc := 13) (c_M_in _ _ _ _) ok_M_in d_M_rumour_13 lm_M_52 rfl rfl ⟨by decide, by decide⟩ (Nat.le_of_ble_eq_true rfl) rfl rfl ⟨by decide, by decide⟩ ?_
    refine aw_bn (pc := 16) (tgt := 22) d_M_rumour_16 (by decide) (fun h16 => ?_) (fun h16 => ?_)
    · obtain ⟨j, hj, rfl⟩ := rng 11 (by omega) h4
      refine aw_iconst (pc := 22) (v := 1) d_M_rumour_22 (by decide) ?_
      refine aw_iload_n (pc := 23) d_M_rumour_23 rfl rfl ?_
      refine aw_ishl (pc := 24) d_M_rumour_24 ?_
      refine aw_top (sh1 (by omega)) ?_
      refine aw_istore_n (pc := 25) (ls' := [(0, _), (1, _), (2, _), (3, _)]) d_M_rumour_25 rfl (by decide) rfl ?_
      refine aw_iload_n (pc := 26) d_M_rumour_26 rfl rfl ?_
      refine aw_if_ge (pc := 27) (tgt := 57) d_M_rumour_27 (by decide) (fun h27 => ?_) (fun h27 => ?_)
      · obtain ⟨m, hm, rfl⟩ := rng 20 (by omega) ⟨h27, h16.2⟩
        refine aw_iconst (pc := 57) (v := 0) d_M_rumour_57 (by decide) ?_
        refine aw_istore (pc := 58) (ls' := [(0, _), (1, _), (2, _), (3, _), (4, _)]) d_M_rumour_58 (by decide) rfl ?_
        refine lp_i (fun i b => AW m_M_rumour r_M_rumour ax_E0 (ax_Zm (fun q1 q2 => q1 = some (.int (aRumour T (nI j) (nI m))) ∧ q2 = HH A I J U) 0 0) (HH A I J U) 0 0 60 [(0, .ref 36), (1, .int (nI j)), (2, .int (nI m)), (3, .int (nI b)), (4, .int (nI i))] []) (fun i b => b < 4096 ∧ fd (fun _ b => sp T b) m 0 (2 ^ j) = fd (fun _ b => sp T b) (m - i) i b) m ?_ ?_ m 0 (2 ^ j) (by omega) ⟨p2_lt (by omega), rfl⟩
        · rintro b ⟨hb, hV⟩
          rw [fd_0] at hV
          refine aw_iload (pc := 60) d_M_rumour_60 rfl ?_
          refine aw_iload_n (pc := 62) d_M_rumour_62 rfl rfl ?_
          refine awn_ge (pc := 63) (tgt := 78) (m) (m) d_M_rumour_63 (by decide) rfl rfl (by omega) (by omega) (fun _ => ?_) (fun hh => absurd hh (by omega))
          refine aw_iload_n (pc := 78) d_M_rumour_78 rfl rfl ?_
          refine aw_callS1 (pc := 79) (c_M_bits hb) ok_M_bits d_M_rumour_79 lm_M_120 rfl rfl ⟨by decide, by decide⟩ (Nat.le_of_ble_eq_true rfl) rfl rfl ⟨by decide, by decide⟩ ?_
          refine aw_iret (pc := 82) d_M_rumour_82 rfl ?_
          exact ⟨by unfold aRumour; rw [if_neg (fun z => z h4), if_neg (fun z => z h16), if_neg (fun z => absurd (z ▸ h27) (by decide)), nI_clamp (by omega), nI_clamp (by omega), hV], rfl⟩
        · rintro i b hi ⟨hb, hV⟩ ih
          rw [fd_s _ hi] at hV
          refine aw_iload (pc := 60) d_M_rumour_60 rfl ?_
          refine aw_iload_n (pc := 62) d_M_rumour_62 rfl rfl ?_
          refine awn_ge (pc := 63) (tgt := 78) (i) (m) d_M_rumour_63 (by decide) rfl rfl (by omega) (by omega) (fun hh => absurd hh (by omega)) (fun _ => ?_)
          refine aw_aload_n (pc := 66) d_M_rumour_66 rfl rfl ?_
          refine aw_iload_n (pc := 67) d_M_rumour_67 rfl rfl ?_
          refine aw_callV1 (pc := 68) (c_M_spread hT hE hb) ok_M_spread d_M_rumour_68 lm_M_132 hg_36 rfl rfl ⟨by decide, by decide⟩ (Nat.le_of_ble_eq_true rfl) rfl rfl ⟨by decide, by decide⟩ ?_
          refine aw_istore_n (pc := 71) (ls' := [(0, _), (1, _), (2, _), (3, _), (4, _)]) d_M_rumour_71 rfl (by decide) rfl ?_
          refine aw_incN (pc := 72) (ls' := [(0, _), (1, _), (2, _), (3, _), (4, _)]) (i := i) d_M_rumour_72 rfl rfl (by decide) rfl ?_
          refine aw_goto (pc := 75) (tgt := 60) d_M_rumour_75 (by decide) ?_
          exact ih (sp T b) ⟨sp_lt T b, hV⟩
      · have en : n = -1 := m1_of h16.1 h27
        subst en
        refine aw_iconst (pc := 30) (v := 0) d_M_rumour_30 (by decide) ?_
        refine aw_istore (pc := 31) (ls' := [(0, _), (1, _), (2, _), (3, _), (4, _)]) d_M_rumour_31 (by decide) rfl ?_
        have wl : ∀ k e b, e + k = 12 → b < 4096 → e + 1 ≤ cn b → evs T 12 (2 ^ j) = e + evs T k b → AW m_M_rumour r_M_rumour ax_E0 (ax_Zm (fun q1 q2 => q1 = some (.int (aRumour T (nI j) (-1))) ∧ q2 = HH A I J U) 0 0) (HH A I J U) 0 0 33 [(0, .ref 36), (1, .int (nI j)), (2, .int (-1)), (3, .int (nI b)), (4, .int (nI e))] [] := by
          intro k
          induction k with
          | zero =>
            intro e b he hb hc hV
            have h12 : cn b ≤ 12 := fb_ct_le _ _
            omega
          | succ k ih =>
            intro e b he hb hc hV
            rw [evs_s T k b] at hV
            refine aw_aload_n (pc := 33) d_M_rumour_33 rfl rfl ?_
            refine aw_iload_n (pc := 34) d_M_rumour_34 rfl rfl ?_
            refine aw_callV1 (pc := 35) (c_M_spread hT hE hb) ok_M_spread d_M_rumour_35 lm_M_132 hg_36 rfl rfl ⟨by decide, by decide⟩ (Nat.le_of_ble_eq_true rfl) rfl rfl ⟨by decide, by decide⟩ ?_
            refine aw_iload_n (pc := 38) d_M_rumour_38 rfl rfl ?_
            refine awn_eq (pc := 39) (tgt := 54) (sp T b) (b) d_M_rumour_39 (by decide) rfl rfl (Nat.lt_trans (sp_lt T b) (by decide)) (Nat.lt_trans hb (by decide)) (fun h39 => ?_) (fun h39 => ?_)
            · rw [if_pos h39] at hV
              refine aw_iload (pc := 54) d_M_rumour_54 rfl ?_
              refine aw_iret (pc := 56) d_M_rumour_56 rfl ?_
              exact ⟨by unfold aRumour; rw [if_neg (fun z => z h4), if_neg (fun z => z h16), if_pos rfl, nI_clamp (by omega), hV]; rfl, rfl⟩
            · rw [if_neg h39] at hV
              have hg := sp_grow T hb h39
              refine aw_aload_n (pc := 42) d_M_rumour_42 rfl rfl ?_
              refine aw_iload_n (pc := 43) d_M_rumour_43 rfl rfl ?_
              refine aw_callV1 (pc := 44) (c_M_spread hT hE hb) ok_M_spread d_M_rumour_44 lm_M_132 hg_36 rfl rfl ⟨by decide, by decide⟩ (Nat.le_of_ble_eq_true rfl) rfl rfl ⟨by decide, by decide⟩ ?_
              refine aw_istore_n (pc := 47) (ls' := [(0, _), (1, _), (2, _), (3, _), (4, _)]) d_M_rumour_47 rfl (by decide) rfl ?_
              refine aw_incN (pc := 48) (ls' := [(0, _), (1, _), (2, _), (3, _), (4, _)]) (i := e) d_M_rumour_48 rfl rfl (by decide) rfl ?_
              refine aw_goto (pc := 51) (tgt := 33) d_M_rumour_51 (by decide) ?_
              exact ih (e + 1) (sp T b) (by omega) (sp_lt T b) (by omega) (by omega)
        exact wl 12 0 (2 ^ j) rfl (p2_lt (by omega)) (cn_two (by omega)) (Nat.zero_add _).symm
    · refine aw_bipush (pc := 19) (v := (-2)) d_M_rumour_19 (by decide) ?_
      refine aw_iret (pc := 21) d_M_rumour_21 rfl ?_
      exact ⟨by unfold aRumour; rw [if_neg (fun z => z h4), if_pos h16], rfl⟩
  · refine aw_iconst (pc := 7) (v := (-1)) d_M_rumour_7 (by decide) ?_
    refine aw_iret (pc := 8) d_M_rumour_8 rfl ?_
    exact ⟨by unfold aRumour; rw [if_pos h4], rfl⟩
end RUMOUR

