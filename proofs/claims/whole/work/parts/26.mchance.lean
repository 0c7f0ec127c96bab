/-! chances: the reference -/
def chP (T : town) (h t : Nat) (c : Int32) : Nat × Nat := if c = -1 then (10 * suC T h + t * myC T h, 10) else (fb_sm (fun x => if x ≤ c.toNatClampNeg then rk t (suC T h) (myC T h) x else 0) 12, 10 ^ myC T h)
def aChance (T : town) (h t c w : Int32) : Int64 := if ¬ (0 ≤ h ∧ h ≤ 11) then -1000000000000000001 else if ¬ (0 ≤ t ∧ t ≤ 10 ∧ -1 ≤ c ∧ c ≤ 11 ∧ 0 ≤ w ∧ w ≤ 1) then -1000000000000000002 else if w = 0 then lN ((chP T h.toNatClampNeg t.toNatClampNeg c).1 / Nat.gcd (chP T h.toNatClampNeg t.toNatClampNeg c).1 (chP T h.toNatClampNeg t.toNatClampNeg c).2) else lN ((chP T h.toNatClampNeg t.toNatClampNeg c).2 / Nat.gcd (chP T h.toNatClampNeg t.toNatClampNeg c).1 (chP T h.toNatClampNeg t.toNatClampNeg c).2)
def dI (c : Nat) : Int32 := nI c - 1
theorem dI_m (c : Nat) : nI c + Int32.ofInt (-1) = dI c := by
  unfold dI
  rw [Int32.sub_eq_add_neg]; rfl
theorem dI_s (c : Nat) : dI (c + 1) = nI c := pk_sub (a := c + 1) (b := 1) (by omega)
/-- what the reference weighs: over the 12 numbers of hearers -/
def chF (t su my : Nat) (c : Int32) (x : Nat) : Nat := if c = -1 then x * rk t su my x else if x ≤ c.toNatClampNeg then rk t su my x else 0
def pC (A : Nat → List Int32) (I : Nat → Nat → Int32) (J : Nat → List Int64) (U : Nat → Nat → Int64) (v : Int64) : Option Value → ax_H → Prop := fun r h' => r = some (.long v) ∧ ∃ f, h' = HH A I (u1 J 45 (lsl 12 f)) U
section MCHANCE
variable {A : Nat → List Int32} {I : Nat → Nat → Int32} {J : Nat → List Int64} {U : Nat → Nat → Int64} {T : town}
set_option maxHeartbeats 1000000 in
set_option maxRecDepth 20000 in
theorem c_M_chance (hT : okT T) (hE : enG A I T) {f0 : Nat → Nat} (h45 : J 45 = lsl 12 f0) (h t c w : Int32) : AM m_M_chance r_M_chance (HH A I J U) [.ref 36, .int h, .int t, .int c, .int w] (pC A I J U (aChance T h t c w)) := by
  refine am_of (by decide) rfl (by first | decide | exact Nat.le_of_ble_eq_true rfl) ?_
  refine aw_iload_n (pc := 0) d_M_chance_0 rfl rfl ?_
  refine aw_callS1 (pc := 1) (c_M_isHouse _ _) ok_M_isHouse d_M_chance_1 lm_M_56 rfl rfl ⟨by decide, by decide⟩ (Nat.le_of_ble_eq_true rfl) rfl rfl ⟨by decide, by decide⟩ ?_
  refine aw_bn (pc := 4) (tgt := 11) d_M_chance_4 (by decide) (fun h4 => ?_) (fun h4 => ?_)
  · refine aw_iload_n (pc := 11) d_M_chance_11 rfl rfl ?_
    refine aw_iconst (pc := 12) (v := 0) d_M_chance_12 (by decide) ?_
    refine aw_bipush (pc := 13) (v := 10) d_M_chance_13 (by decide) ?_
    refine aw_callS1 (pc := 15) (c_M_in _ _ _ _) ok_M_in d_M_chance_15 lm_M_52 rfl rfl ⟨by decide, by decide⟩ (Nat.le_of_ble_eq_true rfl) rfl rfl ⟨by decide, by decide⟩ ?_
    refine aw_bz (pc := 18) (tgt := 41) d_M_chance_18 (by decide) (fun h18 => ?_) (fun h18 => ?_)
    · refine aw_ldc2 (pc := 41) d_M_chance_41 lc_M_137 ?_
      refine aw_lret (pc := 44) d_M_chance_44 rfl ?_
      exact ⟨by unfold aChance; rw [if_neg (fun z => z h4), if_pos (fun z => h18 ⟨z.1, z.2.1⟩)], f0, by rw [u1_self h45]⟩
    · refine aw_iload_n (pc := 21) d_M_chance_21 rfl rfl ?_
      refine aw_iconst (pc := 22) (v := (-1)) d_M_chance_22 (by decide) ?_
      refine aw_bipush (pc := 23) (v := 11) d_M_chance_23 (by decide) ?_
      refine aw_callS1 (pc := 25) (c_M_in _ _ _ _) ok_M_in d_M_chance_25 lm_M_52 rfl rfl ⟨by decide, by decide⟩ (Nat.le_of_ble_eq_true rfl) rfl rfl ⟨by decide, by decide⟩ ?_
      refine aw_bz (pc := 28) (tgt := 41) d_M_chance_28 (by decide) (fun h28 => ?_) (fun h28 => ?_)
      · refine aw_ldc2 (pc := 41) d_M_chance_41 lc_M_137 ?_
        refine aw_lret (pc := 44) d_M_chance_44 rfl ?_
        exact ⟨by unfold aChance; rw [if_neg (fun z => z h4), if_pos (fun z => h28 ⟨z.2.2.1, z.2.2.2.1⟩)], f0, by rw [u1_self h45]⟩
      · refine aw_iload (pc := 31) d_M_chance_31 rfl ?_
        refine aw_iconst (pc := 33) (v := 0) d_M_chance_33 (by decide) ?_
        refine aw_iconst (pc := 34) (v := 1) d_M_chance_34 (by decide) ?_
        refine aw_callS1 (pc := 35) (c_M_in _ _ _ _) ok_M_in d_M_chance_35 lm_M_52 rfl rfl ⟨by decide, by decide⟩ (Nat.le_of_ble_eq_true rfl) rfl rfl ⟨by decide, by decide⟩ ?_
        refine aw_bn (pc := 38) (tgt := 45) d_M_chance_38 (by decide) (fun h38 => ?_) (fun h38 => ?_)
        · have hz : 0 ≤ t ∧ t ≤ 10 ∧ -1 ≤ c ∧ c ≤ 11 ∧ 0 ≤ w ∧ w ≤ 1 := ⟨h18.1, h18.2, h28.1, h28.2, h38⟩
          obtain ⟨h, hh, rfl⟩ := rng 11 (by omega) h4
          obtain ⟨t, ht, rfl⟩ := rng 10 (by omega) h18
          obtain ⟨w, hw, rfl⟩ := rng 1 (by omega) h38
          have ea : aChance T (nI h) (nI t) c (nI w) = if w = 0 then lN ((chP T h t c).1 / Nat.gcd (chP T h t c).1 (chP T h t c).2) else lN ((chP T h t c).2 / Nat.gcd (chP T h t c).1 (chP T h t c).2) := by
            unfold aChance
            rw [if_neg (fun z => z h4), if_neg (fun z => z hz), nI_clamp (by omega), nI_clamp (by omega)]
            by_cases e : w = 0
            · rw [if_pos e, if_pos (by rw [e]; rfl)]
            · rw [if_neg e, if_neg (fun z => e ((nI_e0 (by omega)).mp z))]
          have hal := alC_le T (h := h) (by omega)
          have hsu := suC_le T h
          have hmy : suC T h + myC T h ≤ 11 := by unfold myC; omega
          refine aw_aload_n (pc := 45) d_M_chance_45 rfl rfl ?_
          refine aw_iload_n (pc := 46) d_M_chance_46 rfl rfl ?_
          refine aw_iconst (pc := 47) (v := 0) d_M_chance_47 (by decide) ?_
          refine aw_callV1 (pc := 48) (c_M_hearers (op := 0) hT hE (by omega) (by decide)) ok_M_hearers d_M_chance_48 lm_M_116 hg_36 rfl rfl ⟨by decide, by decide⟩ (Nat.le_of_ble_eq_true rfl) rfl rfl ⟨by decide, by decide⟩ ?_
          refine aw_iconst (pc := 51) (v := 1) d_M_chance_51 (by decide) ?_
          refine aw_iload_n (pc := 52) d_M_chance_52 rfl rfl ?_
          refine aw_ishl (pc := 53) d_M_chance_53 ?_
          refine aw_iconst (pc := 54) (v := (-1)) d_M_chance_54 (by decide) ?_
          refine aw_ixor (pc := 55) d_M_chance_55 ?_
          refine aw_iand (pc := 56) d_M_chance_56 ?_
          refine aw_top (sb_off (msk_lt _ 12) (by omega)) ?_
          refine aw_callS1 (pc := 57) (c_M_bits (sb_lt _ _ _)) ok_M_bits d_M_chance_57 lm_M_120 rfl rfl ⟨by decide, by decide⟩ (Nat.le_of_ble_eq_true rfl) rfl rfl ⟨by decide, by decide⟩ ?_
          refine aw_istore (pc := 60) (ls' := [(0, _), (1, _), (2, _), (3, _), (4, _), (5, _)]) d_M_chance_60 (by decide) rfl ?_
          refine aw_aload_n (pc := 62) d_M_chance_62 rfl rfl ?_
          refine aw_iload_n (pc := 63) d_M_chance_63 rfl rfl ?_
          refine aw_sipush (pc := 64) (v := 4095) d_M_chance_64 (by decide) ?_
          refine aw_callV1 (pc := 67) (c_M_hearers (op := 4095) hT hE (by omega) (by decide)) ok_M_hearers d_M_chance_67 lm_M_116 hg_36 rfl rfl ⟨by decide, by decide⟩ (Nat.le_of_ble_eq_true rfl) rfl rfl ⟨by decide, by decide⟩ ?_
          refine aw_iconst (pc := 70) (v := 1) d_M_chance_70 (by decide) ?_
          refine aw_iload_n (pc := 71) d_M_chance_71 rfl rfl ?_
          refine aw_ishl (pc := 72) d_M_chance_72 ?_
          refine aw_iconst (pc := 73) (v := (-1)) d_M_chance_73 (by decide) ?_
          refine aw_ixor (pc := 74) d_M_chance_74 ?_
          refine aw_iand (pc := 75) d_M_chance_75 ?_
          refine aw_top (sb_off (msk_lt _ 12) (by omega)) ?_
          refine aw_callS1 (pc := 76) (c_M_bits (sb_lt _ _ _)) ok_M_bits d_M_chance_76 lm_M_120 rfl rfl ⟨by decide, by decide⟩ (Nat.le_of_ble_eq_true rfl) rfl rfl ⟨by decide, by decide⟩ ?_
          refine aw_iload (pc := 79) d_M_chance_79 rfl ?_
          refine aw_isub (pc := 81) d_M_chance_81 ?_
          refine aw_top (y := nI (myC T h)) (pk_sub (suC_le T h)) ?_
          refine aw_istore (pc := 82) (ls' := [(0, _), (1, _), (2, _), (3, _), (4, _), (5, _), (6, _)]) d_M_chance_82 (by decide) rfl ?_
          refine aw_lconst (pc := 84) (v := 1) d_M_chance_84 (by decide) ?_
          refine aw_lstore (pc := 85) (ls' := [(0, _), (1, _), (2, _), (3, _), (4, _), (5, _), (6, _), (7, _)]) d_M_chance_85 (by decide) rfl ?_
          refine aw_iconst (pc := 87) (v := 0) d_M_chance_87 (by decide) ?_
          refine aw_istore (pc := 88) (ls' := [(0, _), (1, _), (2, _), (3, _), (4, _), (5, _), (6, _), (7, _), (9, _)]) d_M_chance_88 (by decide) rfl ?_
          -- the last: the lowest terms
          have last : ∀ (f : Nat → Nat) (S : Nat), S = fb_sm (chF t (suC T h) (myC T h) c) 12 → AW m_M_chance r_M_chance ax_E0 (ax_Zm (pC A I J U (aChance T (nI h) (nI t) c (nI w))) 0 0) (HH A I (u1 J 45 (lsl 12 f)) U) 0 0 262 [(0, .ref 36), (1, .int (nI h)), (2, .int (nI t)), (3, .int c), (4, .int (nI w)), (5, .int (nI (suC T h))), (6, .int (nI (myC T h))), (7, .long (lN (10 ^ myC T h))), (9, .long (lN S))] [] := by
            intro f S hS
            have hD : 10 ^ myC T h ≤ 10 ^ 11 := Nat.pow_le_pow_right (by decide) (by omega)
            have hD0 : 0 < 10 ^ myC T h := Nat.pow_pos (by decide)
            have hD1 : (10 : Nat) ^ 11 = 100000000000 := by decide
            have key : (chP T h t c).1 / Nat.gcd (chP T h t c).1 (chP T h t c).2 = S / Nat.gcd S (10 ^ myC T h) ∧ (chP T h t c).2 / Nat.gcd (chP T h t c).1 (chP T h t c).2 = 10 ^ myC T h / Nat.gcd S (10 ^ myC T h) ∧ S ≤ 12000000000000 := by
              unfold chP
              by_cases e : c = -1
              · rw [if_pos e]
                have e1 : S = fb_sm (fun x => x * rk t (suC T h) (myC T h) x) 12 := by
                  rw [hS]
                  exact fb_sm_cong (fun k _ => by unfold chF; rw [if_pos e])
                have e2 := rk_T (t := t) (a := suC T h) ht (myC T h) 12 (by omega)
                rw [← e1] at e2
                have e3 := rd_same hD0 (show 0 < 10 by decide) e2
                refine ⟨e3.1.symm, e3.2.symm, ?_⟩
                have e4 : t * myC T h ≤ 10 * 11 := Nat.mul_le_mul ht (by omega)
                have e5 : 10 ^ myC T h * (10 * suC T h + t * myC T h) ≤ 10 ^ 11 * 1200 := Nat.mul_le_mul hD (by omega)
                omega
              · rw [if_neg e]
                have e1 : S = fb_sm (fun x => if x ≤ c.toNatClampNeg then rk t (suC T h) (myC T h) x else 0) 12 := by
                  rw [hS]
                  exact fb_sm_cong (fun k _ => by unfold chF; rw [if_neg e])
                have e2 := rk_Fle (a := suC T h) (m := myC T h) ht c.toNatClampNeg (by omega)
                rw [← e1] at e2 ⊢
                exact ⟨rfl, rfl, by omega⟩
            obtain ⟨k1, k2, k3⟩ := key
            have hg0 : 0 < Nat.gcd S (10 ^ myC T h) := Nat.gcd_pos_of_pos_right S hD0
            have hg1 : Nat.gcd S (10 ^ myC T h) ≤ 10 ^ myC T h := Nat.le_of_dvd hD0 (Nat.gcd_dvd_right _ _)
            have gcd : ∀ (b a : Nat), a < 2 ^ 63 → b < 2 ^ 63 → Nat.gcd a b = Nat.gcd S (10 ^ myC T h) → AW m_M_chance r_M_chance ax_E0 (ax_Zm (pC A I J U (aChance T (nI h) (nI t) c (nI w))) 0 0) (HH A I (u1 J 45 (lsl 12 f)) U) 0 0 270 [(0, .ref 36), (1, .int (nI h)), (2, .int (nI t)), (3, .int c), (4, .int (nI w)), (5, .int (nI (suC T h))), (6, .int (nI (myC T h))), (7, .long (lN (10 ^ myC T h))), (9, .long (lN S)), (11, .long (lN a)), (13, .long (lN b))] [] := by
              intro b
              induction b using Nat.strongRecOn with
              | ind b ihb =>
                intro a ha hb hg
                refine aw_lload (pc := 270) d_M_chance_270 rfl ?_
                refine aw_lconst (pc := 272) (v := 0) d_M_chance_272 (by decide) ?_
                refine aw_lcmp (pc := 273) d_M_chance_273 ?_
                refine aw_if_eq (pc := 274) (tgt := 295) d_M_chance_274 (by decide) (fun h274 => ?_) (fun h274 => ?_)
                · have h274 : b = 0 := (lN_0 hb).mp ((lg_cmp_eq _ _).mp h274)
                  rw [h274, Nat.gcd_zero_right] at hg
                  have gz : ¬ lN a = 0 := fun z => absurd ((lN_0 ha).mp z) (by omega)
                  refine aw_iload (pc := 295) d_M_chance_295 rfl ?_
                  refine aw_if_ne (pc := 297) (tgt := 308) d_M_chance_297 (by decide) (fun h297 => ?_) (fun h297 => ?_)
                  · have h297 : ¬ w = 0 := fun z => h297 (by rw [z]; rfl)
                    refine aw_lload (pc := 308) d_M_chance_308 rfl ?_
                    refine aw_lload (pc := 310) d_M_chance_310 rfl ?_
                    refine aw_ldiv (pc := 312) d_M_chance_312 gz ?_
                    refine aw_topl (pk_lDiv (by omega) (by omega) ha) ?_
                    refine aw_lret (pc := 313) d_M_chance_313 rfl ?_
                    exact ⟨by rw [ea, if_neg h297, k2, hg], f, rfl⟩
                  · have h297 : w = 0 := (nI_eq (b := 0) (by omega) (by omega)).mp h297
                    refine aw_lload (pc := 300) d_M_chance_300 rfl ?_
                    refine aw_lload (pc := 302) d_M_chance_302 rfl ?_
                    refine aw_ldiv (pc := 304) d_M_chance_304 gz ?_
                    refine aw_topl (pk_lDiv (by omega) (by omega) ha) ?_
                    refine aw_goto (pc := 305) (tgt := 313) d_M_chance_305 (by decide) ?_
                    refine aw_lret (pc := 313) d_M_chance_313 rfl ?_
                    exact ⟨by rw [ea, if_pos h297, k1, hg], f, rfl⟩
                · have h274 : ¬ b = 0 := fun z => h274 ((lg_cmp_eq _ _).mpr ((lN_0 hb).mpr z))
                  refine aw_lload (pc := 277) d_M_chance_277 rfl ?_
                  refine aw_lload (pc := 279) d_M_chance_279 rfl ?_
                  refine aw_lrem (pc := 281) d_M_chance_281 (fun z => h274 ((lN_0 hb).mp z)) ?_
                  refine aw_topl (pk_lRem ha (by omega) hb) ?_
                  refine aw_lstore (pc := 282) (ls' := [(0, _), (1, _), (2, _), (3, _), (4, _), (5, _), (6, _), (7, _), (9, _), (11, _), (13, _), (15, _)]) d_M_chance_282 (by decide) rfl ?_
                  refine aw_lload (pc := 284) d_M_chance_284 rfl ?_
                  refine aw_lstore (pc := 286) (ls' := [(0, _), (1, _), (2, _), (3, _), (4, _), (5, _), (6, _), (7, _), (9, _), (11, _), (13, _), (15, _)]) d_M_chance_286 (by decide) rfl ?_
                  refine aw_lload (pc := 288) d_M_chance_288 rfl ?_
                  refine aw_lstore (pc := 290) (ls' := [(0, _), (1, _), (2, _), (3, _), (4, _), (5, _), (6, _), (7, _), (9, _), (11, _), (13, _), (15, _)]) d_M_chance_290 (by decide) rfl ?_
                  refine aw_goto (pc := 292) (tgt := 270) d_M_chance_292 (by decide) ?_
                  refine aw_sub (ls' := [(0, _), (1, _), (2, _), (3, _), (4, _), (5, _), (6, _), (7, _), (9, _), (11, _), (13, _)]) [0, 1, 2, 3, 4, 5, 6, 7, 8, 9, 10] rfl ?_
                  refine ihb (a % b) (Nat.mod_lt _ (by omega)) b hb (Nat.lt_of_le_of_lt (Nat.mod_le a b) ha) ?_
                  rw [← hg, Nat.gcd_comm a b, Nat.gcd_rec b a, Nat.gcd_comm]
            refine aw_lload (pc := 262) d_M_chance_262 rfl ?_
            refine aw_lstore (pc := 264) (ls' := [(0, _), (1, _), (2, _), (3, _), (4, _), (5, _), (6, _), (7, _), (9, _), (11, _)]) d_M_chance_264 (by decide) rfl ?_
            refine aw_lload (pc := 266) d_M_chance_266 rfl ?_
            refine aw_lstore (pc := 268) (ls' := [(0, _), (1, _), (2, _), (3, _), (4, _), (5, _), (6, _), (7, _), (9, _), (11, _), (13, _)]) d_M_chance_268 (by decide) rfl ?_
            exact gcd (10 ^ myC T h) S (by omega) (by omega) rfl
          -- the sum
          have sum : ∀ (f : Nat → Nat), (∀ j, j < 12 → f j = rk t (suC T h) (myC T h) j) → AW m_M_chance r_M_chance ax_E0 (ax_Zm (pC A I J U (aChance T (nI h) (nI t) c (nI w))) 0 0) (HH A I (u1 J 45 (lsl 12 f)) U) 0 0 203 [(0, .ref 36), (1, .int (nI h)), (2, .int (nI t)), (3, .int c), (4, .int (nI w)), (5, .int (nI (suC T h))), (6, .int (nI (myC T h))), (7, .long (lN (10 ^ myC T h)))] [] := by
            intro f hf
            refine aw_lconst (pc := 203) (v := 0) d_M_chance_203 (by decide) ?_
            refine aw_lstore (pc := 204) (ls' := [(0, _), (1, _), (2, _), (3, _), (4, _), (5, _), (6, _), (7, _), (9, _)]) d_M_chance_204 (by decide) rfl ?_
            refine aw_iconst (pc := 206) (v := 0) d_M_chance_206 (by decide) ?_
            refine aw_istore (pc := 207) (ls' := [(0, _), (1, _), (2, _), (3, _), (4, _), (5, _), (6, _), (7, _), (9, _), (11, _)]) d_M_chance_207 (by decide) rfl ?_
            refine lp_i (fun i s => AW m_M_chance r_M_chance ax_E0 (ax_Zm (pC A I J U (aChance T (nI h) (nI t) c (nI w))) 0 0) (HH A I (u1 J 45 (lsl 12 f)) U) 0 0 209 [(0, .ref 36), (1, .int (nI h)), (2, .int (nI t)), (3, .int c), (4, .int (nI w)), (5, .int (nI (suC T h))), (6, .int (nI (myC T h))), (7, .long (lN (10 ^ myC T h))), (9, .long (lN s)), (11, .int (nI i))] []) (fun i s => s = fb_sm (chF t (suC T h) (myC T h) c) i) 12 ?_ ?_ 12 0 0 (by omega) rfl
            · intro s hs
              refine aw_iload (pc := 209) d_M_chance_209 rfl ?_
              refine aw_bipush (pc := 211) (v := 12) d_M_chance_211 (by decide) ?_
              refine awn_ge (pc := 213) (tgt := 262) (12) (12) d_M_chance_213 (by decide) rfl rfl (by omega) (by omega) (fun _ => ?_) (fun hh => absurd hh (by omega))
              refine aw_sub (ls' := [(0, _), (1, _), (2, _), (3, _), (4, _), (5, _), (6, _), (7, _), (9, _)]) [0, 1, 2, 3, 4, 5, 6, 7, 8] rfl ?_
              exact last f s hs
            · intro i s hi hs ih
              have hfi := hf i hi
              have nxt : ∀ y : Nat, y = chF t (suC T h) (myC T h) c i → AW m_M_chance r_M_chance ax_E0 (ax_Zm (pC A I J U (aChance T (nI h) (nI t) c (nI w))) 0 0) (HH A I (u1 J 45 (lsl 12 f)) U) 0 0 253 [(0, .ref 36), (1, .int (nI h)), (2, .int (nI t)), (3, .int c), (4, .int (nI w)), (5, .int (nI (suC T h))), (6, .int (nI (myC T h))), (7, .long (lN (10 ^ myC T h))), (9, .long (lN s)), (11, .int (nI i))] [.long (lN y), .long (lN s)] := by
                intro y hy
                refine aw_ladd (pc := 253) d_M_chance_253 ?_
                refine aw_topl (lN_add _ _) ?_
                refine aw_lstore (pc := 254) (ls' := [(0, _), (1, _), (2, _), (3, _), (4, _), (5, _), (6, _), (7, _), (9, _), (11, _)]) d_M_chance_254 (by decide) rfl ?_
                refine aw_incN (pc := 256) (ls' := [(0, _), (1, _), (2, _), (3, _), (4, _), (5, _), (6, _), (7, _), (9, _), (11, _)]) (i := i) d_M_chance_256 rfl rfl (by decide) rfl ?_
                refine aw_goto (pc := 259) (tgt := 209) d_M_chance_259 (by decide) ?_
                exact ih (s + y) (by rw [fb_sm_succ, ← hs, hy])
              refine aw_iload (pc := 209) d_M_chance_209 rfl ?_
              refine aw_bipush (pc := 211) (v := 12) d_M_chance_211 (by decide) ?_
              refine awn_ge (pc := 213) (tgt := 262) (i) (12) d_M_chance_213 (by decide) rfl rfl (by omega) (by omega) (fun hh => absurd hh (by omega)) (fun _ => ?_)
              refine aw_lload (pc := 216) d_M_chance_216 rfl ?_
              refine aw_iload_n (pc := 218) d_M_chance_218 rfl rfl ?_
              refine aw_if_ge (pc := 219) (tgt := 236) d_M_chance_219 (by decide) (fun h219 => ?_) (fun h219 => ?_)
              · obtain ⟨m, hm, rfl⟩ := rng 11 (by omega) ⟨h219, h28.2⟩
                have e : ¬ nI m = -1 := fun z => by rw [z] at h219; exact absurd h219 (by decide)
                refine aw_iload (pc := 236) d_M_chance_236 rfl ?_
                refine aw_iload_n (pc := 238) d_M_chance_238 rfl rfl ?_
                refine awn_gt (pc := 239) (tgt := 252) (i) (m) d_M_chance_239 (by decide) rfl rfl (by omega) (by omega) (fun h239 => ?_) (fun h239 => ?_)
                · refine aw_lconst (pc := 252) (v := 0) d_M_chance_252 (by decide) ?_
                  exact nxt 0 (by unfold chF; rw [if_neg e, nI_clamp (by omega), if_neg (by omega)])
                · refine aw_aload_n (pc := 242) d_M_chance_242 rfl rfl ?_
                  refine aw_get (pc := 243) d_M_chance_243 lf_M_38 hg_36 rfl ?_
                  refine aw_iload (pc := 246) d_M_chance_246 rfl ?_
                  refine aw_lldN (pc := 248) (j := i) d_M_chance_248 hg_45 rfl rfl hi (by decide) ?_
                  refine aw_goto (pc := 249) (tgt := 253) d_M_chance_249 (by decide) ?_
                  exact nxt (f i) (by unfold chF; rw [if_neg e, nI_clamp (by omega), if_pos h239, hfi])
              · have e : c = -1 := m1_of h28.1 h219
                refine aw_iload (pc := 222) d_M_chance_222 rfl ?_
                refine aw_i2l (pc := 224) d_M_chance_224 ?_
                refine aw_aload_n (pc := 225) d_M_chance_225 rfl rfl ?_
                refine aw_get (pc := 226) d_M_chance_226 lf_M_38 hg_36 rfl ?_
                refine aw_iload (pc := 229) d_M_chance_229 rfl ?_
                refine aw_lldN (pc := 231) (j := i) d_M_chance_231 hg_45 rfl rfl hi (by decide) ?_
                refine aw_lmul (pc := 232) d_M_chance_232 ?_
                refine aw_topl (y := lN (i * f i)) (by rw [nI_l (by omega), lN_mul]) ?_
                refine aw_goto (pc := 233) (tgt := 253) d_M_chance_233 (by decide) ?_
                exact nxt (i * f i) (by unfold chF; rw [if_pos e, hfi])
          refine lp_i (fun i (f : Nat → Nat) => AW m_M_chance r_M_chance ax_E0 (ax_Zm (pC A I J U (aChance T (nI h) (nI t) c (nI w))) 0 0) (HH A I (u1 J 45 (lsl 12 f)) U) 0 0 90 [(0, .ref 36), (1, .int (nI h)), (2, .int (nI t)), (3, .int c), (4, .int (nI w)), (5, .int (nI (suC T h))), (6, .int (nI (myC T h))), (7, .long (lN 1)), (9, .int (nI i))] []) (fun i f => ∀ j, j < i → f j = rk t (suC T h) 0 j) 12 ?_ ?_ 12 0 f0 (by omega) (fun j hj => absurd hj (Nat.not_lt_zero j)) |> fun z => aw_eq z (by rw [u1_self h45])
          · intro f hf
            refine aw_iload (pc := 90) d_M_chance_90 rfl ?_
            refine aw_bipush (pc := 92) (v := 12) d_M_chance_92 (by decide) ?_
            refine awn_ge (pc := 94) (tgt := 122) (12) (12) d_M_chance_94 (by decide) rfl rfl (by omega) (by omega) (fun _ => ?_) (fun hh => absurd hh (by omega))
            refine aw_iconst (pc := 122) (v := 0) d_M_chance_122 (by decide) ?_
            refine aw_istore (pc := 123) (ls' := [(0, _), (1, _), (2, _), (3, _), (4, _), (5, _), (6, _), (7, _), (9, _)]) d_M_chance_123 (by decide) rfl ?_
            refine lp_i (fun i (f : Nat → Nat) => AW m_M_chance r_M_chance ax_E0 (ax_Zm (pC A I J U (aChance T (nI h) (nI t) c (nI w))) 0 0) (HH A I (u1 J 45 (lsl 12 f)) U) 0 0 125 [(0, .ref 36), (1, .int (nI h)), (2, .int (nI t)), (3, .int c), (4, .int (nI w)), (5, .int (nI (suC T h))), (6, .int (nI (myC T h))), (7, .long (lN (10 ^ i))), (9, .int (nI i))] []) (fun i f => ∀ j, j < 12 → f j = rk t (suC T h) i j) (myC T h) ?_ ?_ (myC T h) 0 f (by omega) hf
            · intro f hf
              refine aw_iload (pc := 125) d_M_chance_125 rfl ?_
              refine aw_iload (pc := 127) d_M_chance_127 rfl ?_
              refine awn_ge (pc := 129) (tgt := 203) (myC T h) (myC T h) d_M_chance_129 (by decide) rfl rfl (by omega) (by omega) (fun _ => ?_) (fun hh => absurd hh (by omega))
              refine aw_sub (ls' := [(0, _), (1, _), (2, _), (3, _), (4, _), (5, _), (6, _), (7, _)]) [0, 1, 2, 3, 4, 5, 6, 7] rfl ?_
              exact sum f hf
            · intro i f hi hf ih
              refine aw_iload (pc := 125) d_M_chance_125 rfl ?_
              refine aw_iload (pc := 127) d_M_chance_127 rfl ?_
              refine awn_ge (pc := 129) (tgt := 203) (i) (myC T h) d_M_chance_129 (by decide) rfl rfl (by omega) (by omega) (fun hh => absurd hh (by omega)) (fun _ => ?_)
              refine aw_bipush (pc := 132) (v := 11) d_M_chance_132 (by decide) ?_
              refine aw_istore (pc := 134) (ls' := [(0, _), (1, _), (2, _), (3, _), (4, _), (5, _), (6, _), (7, _), (9, _), (10, _)]) d_M_chance_134 (by decide) rfl ?_
              refine aw_eq (lp_d (fun k (g : Nat → Nat) => AW m_M_chance r_M_chance ax_E0 (ax_Zm (pC A I J U (aChance T (nI h) (nI t) c (nI w))) 0 0) (HH A I (u1 J 45 (lsl 12 g)) U) 0 0 136 [(0, .ref 36), (1, .int (nI h)), (2, .int (nI t)), (3, .int c), (4, .int (nI w)), (5, .int (nI (suC T h))), (6, .int (nI (myC T h))), (7, .long (lN (10 ^ i))), (9, .int (nI i)), (10, .int (dI k))] []) (fun k g => k ≤ 12 ∧ (∀ j, j < k → g j = rk t (suC T h) i j) ∧ ∀ j, k ≤ j → j < 12 → g j = rk t (suC T h) (i + 1) j) ?_ ?_ 12 f ⟨by omega, hf, fun j h1 h2 => absurd h1 (by omega)⟩) rfl rfl rfl
              · rintro g ⟨-, -, g2⟩
                refine aw_iload (pc := 136) d_M_chance_136 rfl ?_
                refine aw_if_lt (pc := 138) (tgt := 189) d_M_chance_138 (by decide) (fun _ => ?_) (fun hh => absurd (show dI 0 < 0 by decide) hh)
                refine aw_lload (pc := 189) d_M_chance_189 rfl ?_
                refine aw_ldc2 (pc := 191) d_M_chance_191 lc_M_139 ?_
                refine aw_lmul (pc := 194) d_M_chance_194 ?_
                refine aw_topl (y := lN (10 ^ (i + 1))) (by rw [Nat.pow_succ]; exact lN_mul _ 10) ?_
                refine aw_lstore (pc := 195) (ls' := [(0, _), (1, _), (2, _), (3, _), (4, _), (5, _), (6, _), (7, _), (9, _), (10, _)]) d_M_chance_195 (by decide) rfl ?_
                refine aw_incN (pc := 197) (ls' := [(0, _), (1, _), (2, _), (3, _), (4, _), (5, _), (6, _), (7, _), (9, _), (10, _)]) (i := i) d_M_chance_197 rfl rfl (by decide) rfl ?_
                refine aw_goto (pc := 200) (tgt := 125) d_M_chance_200 (by decide) ?_
                refine aw_sub (ls' := [(0, _), (1, _), (2, _), (3, _), (4, _), (5, _), (6, _), (7, _), (9, _)]) [0, 1, 2, 3, 4, 5, 6, 7, 8] rfl ?_
                exact ih g (fun j hj => g2 j (by omega) hj)
              · rintro k g ⟨hk, g1, g2⟩ ih2
                have fin : ∀ y, y = rk t (suC T h) (i + 1) k → AW m_M_chance r_M_chance ax_E0 (ax_Zm (pC A I J U (aChance T (nI h) (nI t) c (nI w))) 0 0) (HH A I (u1 J 45 (lsl 12 g)) U) 0 0 182 [(0, .ref 36), (1, .int (nI h)), (2, .int (nI t)), (3, .int c), (4, .int (nI w)), (5, .int (nI (suC T h))), (6, .int (nI (myC T h))), (7, .long (lN (10 ^ i))), (9, .int (nI i)), (10, .int (nI k))] [.long (lN y), .int (nI k), .ref 45] := by
                  intro y hy
                  refine aw_llsN (pc := 182) (j := k) (v := y) d_M_chance_182 hg_45 rfl rfl rfl (by omega) (by decide) (hs_45 _) ?_
                  refine aw_iinc (pc := 183) d_M_chance_183 rfl (dI_m k) (by decide) rfl ?_
                  refine aw_goto (pc := 186) (tgt := 136) d_M_chance_186 (by decide) ?_
                  rw [u1_u1]
                  refine ih2 _ ⟨by omega, (fun j hj => by rw [up_n _ _ (by omega)]; exact g1 j (by omega)), (fun j h1 h2 => ?_)⟩
                  by_cases e : j = k
                  · rw [e, up_s, hy]
                  · rw [up_n _ _ e]
                    exact g2 j (by omega) h2
                refine aw_eq (ls' := [(0, .ref 36), (1, .int (nI h)), (2, .int (nI t)), (3, .int c), (4, .int (nI w)), (5, .int (nI (suC T h))), (6, .int (nI (myC T h))), (7, .long (lN (10 ^ i))), (9, .int (nI i)), (10, .int (nI k))]) ?_ rfl (by rw [dI_s]) rfl
                refine aw_iload (pc := 136) d_M_chance_136 rfl ?_
                refine aw_if_lt (pc := 138) (tgt := 189) d_M_chance_138 (by decide) (fun hh => absurd hh (nI_pos (by omega))) (fun _ => ?_)
                refine aw_aload_n (pc := 141) d_M_chance_141 rfl rfl ?_
                refine aw_get (pc := 142) d_M_chance_142 lf_M_38 hg_36 rfl ?_
                refine aw_iload (pc := 145) d_M_chance_145 rfl ?_
                refine aw_aload_n (pc := 147) d_M_chance_147 rfl rfl ?_
                refine aw_get (pc := 148) d_M_chance_148 lf_M_38 hg_36 rfl ?_
                refine aw_iload (pc := 151) d_M_chance_151 rfl ?_
                refine aw_lldN (pc := 153) (j := k) d_M_chance_153 hg_45 rfl rfl (by omega) (by decide) ?_
                refine aw_bipush (pc := 154) (v := 10) d_M_chance_154 (by decide) ?_
                refine aw_iload_n (pc := 156) d_M_chance_156 rfl rfl ?_
                refine aw_isub (pc := 157) d_M_chance_157 ?_
                refine aw_i2l (pc := 158) d_M_chance_158 ?_
                refine aw_lmul (pc := 159) d_M_chance_159 ?_
                refine aw_topl (y := lN (g k * (10 - t))) (by rw [t_sub ht, lN_mul]) ?_
                by_cases hk0 : k = 0
                · subst hk0
                  refine aw_iload (pc := 160) d_M_chance_160 rfl ?_
                  refine aw_if_le (pc := 162) (tgt := 180) d_M_chance_162 (by decide) (fun _ => ?_) (fun hh => absurd (by decide) hh)
                  refine aw_lconst (pc := 180) (v := 0) d_M_chance_180 (by decide) ?_
                  refine aw_ladd (pc := 181) d_M_chance_181 ?_
                  refine aw_topl (lN_add _ 0) ?_
                  exact fin _ (by rw [rk_s, if_pos rfl, g1 0 (by omega)])
                · obtain ⟨m, rfl⟩ : ∃ m, k = m + 1 := ⟨k - 1, by omega⟩
                  have em : nI (m + 1) - 1 = nI m := pk_sub (a := m + 1) (b := 1) (by omega)
                  refine aw_iload (pc := 160) d_M_chance_160 rfl ?_
                  refine aw_if_le (pc := 162) (tgt := 180) d_M_chance_162 (by decide) (fun hh => absurd hh (nI_nle (by omega) (by omega))) (fun _ => ?_)
                  refine aw_aload_n (pc := 165) d_M_chance_165 rfl rfl ?_
                  refine aw_get (pc := 166) d_M_chance_166 lf_M_38 hg_36 rfl ?_
                  refine aw_iload (pc := 169) d_M_chance_169 rfl ?_
                  refine aw_iconst (pc := 171) (v := 1) d_M_chance_171 (by decide) ?_
                  refine aw_isub (pc := 172) d_M_chance_172 ?_
                  refine aw_lldN (pc := 173) (j := m) d_M_chance_173 hg_45 rfl em (by omega) (by decide) ?_
                  refine aw_iload_n (pc := 174) d_M_chance_174 rfl rfl ?_
                  refine aw_i2l (pc := 175) d_M_chance_175 ?_
                  refine aw_lmul (pc := 176) d_M_chance_176 ?_
                  refine aw_topl (y := lN (g m * t)) (by rw [nI_l (by omega), lN_mul]) ?_
                  refine aw_goto (pc := 177) (tgt := 181) d_M_chance_177 (by decide) ?_
                  refine aw_ladd (pc := 181) d_M_chance_181 ?_
                  refine aw_topl (lN_add _ _) ?_
                  exact fin _ (by rw [rk_ss, g1 (m + 1) (by omega), g1 m (by omega)])
          · intro i f hi hf ih
            have nxt : ∀ y, y = rk t (suC T h) 0 i → AW m_M_chance r_M_chance ax_E0 (ax_Zm (pC A I J U (aChance T (nI h) (nI t) c (nI w))) 0 0) (HH A I (u1 J 45 (lsl 12 f)) U) 0 0 115 [(0, .ref 36), (1, .int (nI h)), (2, .int (nI t)), (3, .int c), (4, .int (nI w)), (5, .int (nI (suC T h))), (6, .int (nI (myC T h))), (7, .long (lN 1)), (9, .int (nI i))] [.long (lN y), .int (nI i), .ref 45] := by
              intro y hy
              refine aw_llsN (pc := 115) (j := i) (v := y) d_M_chance_115 hg_45 rfl rfl rfl hi (by decide) (hs_45 _) ?_
              refine aw_incN (pc := 116) (ls' := [(0, _), (1, _), (2, _), (3, _), (4, _), (5, _), (6, _), (7, _), (9, _)]) (i := i) d_M_chance_116 rfl rfl (by decide) rfl ?_
              refine aw_goto (pc := 119) (tgt := 90) d_M_chance_119 (by decide) ?_
              rw [u1_u1]
              refine ih _ (fun j hj => ?_)
              by_cases e : j = i
              · rw [e, up_s, hy]
              · rw [up_n _ _ e]
                exact hf j (by omega)
            refine aw_iload (pc := 90) d_M_chance_90 rfl ?_
            refine aw_bipush (pc := 92) (v := 12) d_M_chance_92 (by decide) ?_
            refine awn_ge (pc := 94) (tgt := 122) (i) (12) d_M_chance_94 (by decide) rfl rfl (by omega) (by omega) (fun hh => absurd hh (by omega)) (fun _ => ?_)
            refine aw_aload_n (pc := 97) d_M_chance_97 rfl rfl ?_
            refine aw_get (pc := 98) d_M_chance_98 lf_M_38 hg_36 rfl ?_
            refine aw_iload (pc := 101) d_M_chance_101 rfl ?_
            refine aw_iload (pc := 103) d_M_chance_103 rfl ?_
            refine aw_iload (pc := 105) d_M_chance_105 rfl ?_
            refine awn_ne (pc := 107) (tgt := 114) (i) (suC T h) d_M_chance_107 (by decide) rfl rfl (by omega) (by omega) (fun h107 => ?_) (fun h107 => ?_)
            · refine aw_lconst (pc := 114) (v := 0) d_M_chance_114 (by decide) ?_
              exact nxt 0 (if_neg h107).symm
            · refine aw_lconst (pc := 110) (v := 1) d_M_chance_110 (by decide) ?_
              refine aw_goto (pc := 111) (tgt := 115) d_M_chance_111 (by decide) ?_
              exact nxt 1 (if_pos h107).symm
        · refine aw_ldc2 (pc := 41) d_M_chance_41 lc_M_137 ?_
          refine aw_lret (pc := 44) d_M_chance_44 rfl ?_
          exact ⟨by unfold aChance; rw [if_neg (fun z => z h4), if_pos (fun z => h38 ⟨z.2.2.2.2.1, z.2.2.2.2.2⟩)], f0, by rw [u1_self h45]⟩
  · refine aw_ldc2 (pc := 7) d_M_chance_7 lc_M_135 ?_
    refine aw_lret (pc := 10) d_M_chance_10 rfl ?_
    exact ⟨by unfold aChance; rw [if_pos h4], f0, by rw [u1_self h45]⟩
end MCHANCE

