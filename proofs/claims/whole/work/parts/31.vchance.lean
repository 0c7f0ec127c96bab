/-! the class's face: chance -/
def pK (A : Nat → List Int32) (I : Nat → Nat → Int32) (J : Nat → List Int64) (U : Nat → Nat → Int64) (v : Int64) : Option Value → ax_H → Prop := fun r h' => r = some (.long v) ∧ ∃ I' U' f, h' = HH A I' (u1 J 35 (lsl 12 f)) U' ∧ frI I I' [34]
theorem u34_3 (U : Nat → Nat → Int64) (a b : Int64) : u2 (u2 U 34 3 a) 34 4 b 34 3 = a := rfl
theorem u34_4 (U : Nat → Nat → Int64) (a b : Int64) : u2 (u2 U 34 3 a) 34 4 b 34 4 = b := rfl
section VCHANCE
variable {A : Nat → List Int32} {I : Nat → Nat → Int32} {J : Nat → List Int64} {U : Nat → Nat → Int64} {T : town}
set_option maxHeartbeats 1000000 in
set_option maxRecDepth 20000 in
theorem c_V_chance (hT : okT T) (hE : enS A I 1 T) {f0 : Nat → Nat} (h35 : J 35 = lsl 12 f0) (h t c w : Int32) : AM m_V_chance r_V_chance (HH A I J U) [.ref 0, .int h, .int t, .int c, .int w] (pK A I J U (aChance T h t c w)) := by
  refine am_of (by decide) rfl (by first | decide | exact Nat.le_of_ble_eq_true rfl) ?_
  refine aw_iload_n (pc := 0) d_V_chance_0 rfl rfl ?_
  refine aw_iconst (pc := 1) (v := 0) d_V_chance_1 (by decide) ?_
  refine aw_bipush (pc := 2) (v := 11) d_V_chance_2 (by decide) ?_
  refine aw_callS1 (pc := 4) (c_V_within _ _ _ _) ok_V_within d_V_chance_4 lm_V_50 rfl rfl ⟨by decide, by decide⟩ (Nat.le_of_ble_eq_true rfl) rfl rfl ⟨by decide, by decide⟩ ?_
  refine aw_bn (pc := 7) (tgt := 14) d_V_chance_7 (by decide) (fun h4 => ?_) (fun h4 => ?_)
  · refine aw_iload_n (pc := 14) d_V_chance_14 rfl rfl ?_
    refine aw_iconst (pc := 15) (v := 0) d_V_chance_15 (by decide) ?_
    refine aw_bipush (pc := 16) (v := 10) d_V_chance_16 (by decide) ?_
    refine aw_callS1 (pc := 18) (c_V_within _ _ _ _) ok_V_within d_V_chance_18 lm_V_50 rfl rfl ⟨by decide, by decide⟩ (Nat.le_of_ble_eq_true rfl) rfl rfl ⟨by decide, by decide⟩ ?_
    refine aw_bz (pc := 21) (tgt := 44) d_V_chance_21 (by decide) (fun h18 => ?_) (fun h18 => ?_)
    · refine aw_ldc2 (pc := 44) d_V_chance_44 lc_V_196 ?_
      refine aw_lret (pc := 47) d_V_chance_47 rfl ?_
      exact ⟨by unfold aChance; rw [if_neg (fun z => z h4), if_pos (fun z => h18 ⟨z.1, z.2.1⟩)], I, U, f0, by rw [u1_self h35], frI_r _ _⟩
    · refine aw_iload_n (pc := 24) d_V_chance_24 rfl rfl ?_
      refine aw_iconst (pc := 25) (v := (-1)) d_V_chance_25 (by decide) ?_
      refine aw_bipush (pc := 26) (v := 11) d_V_chance_26 (by decide) ?_
      refine aw_callS1 (pc := 28) (c_V_within _ _ _ _) ok_V_within d_V_chance_28 lm_V_50 rfl rfl ⟨by decide, by decide⟩ (Nat.le_of_ble_eq_true rfl) rfl rfl ⟨by decide, by decide⟩ ?_
      refine aw_bz (pc := 31) (tgt := 44) d_V_chance_31 (by decide) (fun h28 => ?_) (fun h28 => ?_)
      · refine aw_ldc2 (pc := 44) d_V_chance_44 lc_V_196 ?_
        refine aw_lret (pc := 47) d_V_chance_47 rfl ?_
        exact ⟨by unfold aChance; rw [if_neg (fun z => z h4), if_pos (fun z => h28 ⟨z.2.2.1, z.2.2.2.1⟩)], I, U, f0, by rw [u1_self h35], frI_r _ _⟩
      · refine aw_iload (pc := 34) d_V_chance_34 rfl ?_
        refine aw_iconst (pc := 36) (v := 0) d_V_chance_36 (by decide) ?_
        refine aw_iconst (pc := 37) (v := 1) d_V_chance_37 (by decide) ?_
        refine aw_callS1 (pc := 38) (c_V_within _ _ _ _) ok_V_within d_V_chance_38 lm_V_50 rfl rfl ⟨by decide, by decide⟩ (Nat.le_of_ble_eq_true rfl) rfl rfl ⟨by decide, by decide⟩ ?_
        refine aw_bn (pc := 41) (tgt := 48) d_V_chance_41 (by decide) (fun h38 => ?_) (fun h38 => ?_)
        · have hz : 0 ≤ t ∧ t ≤ 10 ∧ -1 ≤ c ∧ c ≤ 11 ∧ 0 ≤ w ∧ w ≤ 1 := ⟨h18.1, h18.2, h28.1, h28.2, h38⟩
          obtain ⟨h, hh, rfl⟩ := rng 11 (by omega) h4
          obtain ⟨t, ht, rfl⟩ := rng 10 (by omega) h18
          obtain ⟨w, hw, rfl⟩ := rng 1 (by omega) h38
          have ea : aChance T (nI h) (nI t) c (nI w) = if w = 0 then lN ((chP T h t c).1 / Nat.gcd (chP T h t c).1 (chP T h t c).2) else lN ((chP T h t c).2 / Nat.gcd (chP T h t c).1 (chP T h t c).2) := by
            unfold aChance
            rw [if_neg (fun z => z h4), if_neg (fun z => z hz), nI_clamp (by omega), nI_clamp (by omega)]
            by_cases e : w = 0
            · rw [if_pos e, if_pos (by rw [e]; rfl)]
            · rw [if_neg e, if_neg (fun z => e ((nI_e0 (by omega)).mp z))]
          have hal := alC_le T (h := h) (by omega)
          have hsu := suC_le T h
          have hmy : suC T h + myC T h ≤ 11 := by unfold myC; omega
          have hfr : frI I (u2 (u2 I 34 1 (nI (suC T h))) 34 2 (nI (myC T h))) [34] := frI_t (frI_u _ _ _ _ (by decide)) (frI_u _ _ _ _ (by decide))
          have fin : ∀ (f : Nat → Nat) (U2 : Nat → Nat → Int64), U2 34 3 = lN ((chP T h t c).1 / Nat.gcd (chP T h t c).1 (chP T h t c).2) → U2 34 4 = lN ((chP T h t c).2 / Nat.gcd (chP T h t c).1 (chP T h t c).2) → AW m_V_chance r_V_chance ax_E0 (ax_Zm (pK A I J U (aChance T (nI h) (nI t) c (nI w))) 0 0) (HH A (u2 (u2 I 34 1 (nI (suC T h))) 34 2 (nI (myC T h))) (u1 J 35 (lsl 12 f)) U2) 0 0 85 [(0, .ref 0), (1, .int (nI h)), (2, .int (nI t)), (3, .int c), (4, .int (nI w))] [] := by
            intro f U2 e3 e4
            refine aw_iload (pc := 85) d_V_chance_85 rfl ?_
            refine aw_if_ne (pc := 87) (tgt := 100) d_V_chance_87 (by decide) (fun h87 => ?_) (fun h87 => ?_)
            · have h87 : ¬ w = 0 := fun z => h87 (by rw [z]; rfl)
              refine aw_aload_n (pc := 100) d_V_chance_100 rfl rfl ?_
              refine aw_get (pc := 101) d_V_chance_101 lf_V_42 hg_0 rfl ?_
              refine aw_get (pc := 104) d_V_chance_104 lf_V_214 hg_34 rfl ?_
              refine aw_lret (pc := 107) d_V_chance_107 rfl ?_
              exact ⟨by rw [ea, if_neg h87, e4], _, U2, f, rfl, hfr⟩
            · have h87 : w = 0 := (nI_eq (b := 0) (by omega) (by omega)).mp h87
              refine aw_aload_n (pc := 90) d_V_chance_90 rfl rfl ?_
              refine aw_get (pc := 91) d_V_chance_91 lf_V_42 hg_0 rfl ?_
              refine aw_get (pc := 94) d_V_chance_94 lf_V_210 hg_34 rfl ?_
              refine aw_goto (pc := 97) (tgt := 107) d_V_chance_97 (by decide) ?_
              refine aw_lret (pc := 107) d_V_chance_107 rfl ?_
              exact ⟨by rw [ea, if_pos h87, e3], _, U2, f, rfl, hfr⟩
          refine aw_aload_n (pc := 48) d_V_chance_48 rfl rfl ?_
          refine aw_get (pc := 49) d_V_chance_49 lf_V_42 hg_0 rfl ?_
          refine aw_aload_n (pc := 52) d_V_chance_52 rfl rfl ?_
          refine aw_get (pc := 53) d_V_chance_53 lf_V_10 hg_0 rfl ?_
          refine aw_iload_n (pc := 56) d_V_chance_56 rfl rfl ?_
          refine aw_callV0 (pc := 57) (c_C_weigh hT hE.h (h := h) (by omega)) ok_C_weigh d_V_chance_57 lm_V_198 hg_34 rfl rfl ⟨by decide, by decide⟩ (Nat.le_of_ble_eq_true rfl) rfl rfl ⟨by decide, by decide⟩ ?_
          refine aw_iload_n (pc := 60) d_V_chance_60 rfl rfl ?_
          refine aw_iconst (pc := 61) (v := (-1)) d_V_chance_61 (by decide) ?_
          refine aw_icmp_ne (pc := 62) (tgt := 76) d_V_chance_62 (by decide) (fun h62 => ?_) (fun h62 => ?_)
          · have h63 : 0 ≤ c := Decidable.not_not.mp (fun z => h62 (m1_of h28.1 z))
            obtain ⟨m, hm, rfl⟩ := rng 11 (by omega) ⟨h63, h28.2⟩
            have ep : chP T h t (nI m) = (fb_sm (fun x => if x ≤ m then rk t (suC T h) (myC T h) x else 0) 12, 10 ^ myC T h) := by unfold chP; rw [if_neg h62, nI_clamp (by omega)]
            refine aw_aload_n (pc := 76) d_V_chance_76 rfl rfl ?_
            refine aw_get (pc := 77) d_V_chance_77 lf_V_42 hg_0 rfl ?_
            refine aw_iload_n (pc := 80) d_V_chance_80 rfl rfl ?_
            refine aw_iload_n (pc := 81) d_V_chance_81 rfl rfl ?_
            refine aw_callVq (pc := 82) (c_C_findAtMost (su := suC T h) (my := myC T h) (t := t) (c := m) hmy ht hm rfl rfl h35) ok_C_findAtMost d_V_chance_82 lm_V_206 hg_34 rfl rfl ⟨by decide, by decide⟩ (Nat.le_of_ble_eq_true rfl) rfl rfl ⟨by decide, by decide⟩ (fun rr hh2 hq => ?_)
            obtain ⟨rfl, f, rfl⟩ := hq
            exact fin f (u2 (u2 U 34 3 (lN ((fb_sm (fun x => if x ≤ m then rk t (suC T h) (myC T h) x else 0) 12) / Nat.gcd (fb_sm (fun x => if x ≤ m then rk t (suC T h) (myC T h) x else 0) 12) (10 ^ myC T h)))) 34 4 (lN ((10 ^ myC T h) / Nat.gcd (fb_sm (fun x => if x ≤ m then rk t (suC T h) (myC T h) x else 0) 12) (10 ^ myC T h)))) (by rw [ep, u34_3]) (by rw [ep, u34_4])
          · have ep : chP T h t c = (10 * suC T h + t * myC T h, 10) := by unfold chP; rw [if_pos h62]
            refine aw_aload_n (pc := 65) d_V_chance_65 rfl rfl ?_
            refine aw_get (pc := 66) d_V_chance_66 lf_V_42 hg_0 rfl ?_
            refine aw_iload_n (pc := 69) d_V_chance_69 rfl rfl ?_
            refine aw_callV0 (pc := 70) (c_C_findMean (su := suC T h) (my := myC T h) (t := t) (by omega) (by omega) ht rfl rfl) ok_C_findMean d_V_chance_70 lm_V_202 hg_34 rfl rfl ⟨by decide, by decide⟩ (Nat.le_of_ble_eq_true rfl) rfl rfl ⟨by decide, by decide⟩ ?_
            refine aw_goto (pc := 73) (tgt := 85) d_V_chance_73 (by decide) ?_
            exact aw_eq (fin f0 (u2 (u2 U 34 3 (lN ((10 * suC T h + t * myC T h) / Nat.gcd (10 * suC T h + t * myC T h) 10))) 34 4 (lN (10 / Nat.gcd (10 * suC T h + t * myC T h) 10))) (by rw [ep, u34_3]) (by rw [ep, u34_4])) (by rw [u1_self h35]) rfl rfl
        · have _ := h38
          refine aw_ldc2 (pc := 44) d_V_chance_44 lc_V_196 ?_
          refine aw_lret (pc := 47) d_V_chance_47 rfl ?_
          exact ⟨by unfold aChance; rw [if_neg (fun z => z h4), if_pos (fun z => h38 ⟨z.2.2.2.2.1, z.2.2.2.2.2⟩)], I, U, f0, by rw [u1_self h35], frI_r _ _⟩
  · have _ := h4
    refine aw_ldc2 (pc := 10) d_V_chance_10 lc_V_194 ?_
    refine aw_lret (pc := 13) d_V_chance_13 rfl ?_
    exact ⟨by unfold aChance; rw [if_pos h4], I, U, f0, by rw [u1_self h35], frI_r _ _⟩
end VCHANCE

