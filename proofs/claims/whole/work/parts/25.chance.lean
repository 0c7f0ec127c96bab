/-! chances: the class -/
def suC (T : town) (h : Nat) : Nat := cn (sb (HS T h 0) h false)
def alC (T : town) (h : Nat) : Nat := cn (sb (HS T h 4095) h false)
def myC (T : town) (h : Nat) : Nat := alC T h - suC T h
theorem alC_le (T : town) {h : Nat} (hh : h < 12) : alC T h ≤ 11 := by
  have h1 : alC T h ≤ 12 := cn_le _
  have h2 : ¬ alC T h = 12 := fun z => by
    have h3 := (fb_ct_all (p := fun k => (sb (HS T h 4095) h false).testBit k) (n := 12)).mp z h hh
    have h4 : (sb (HS T h 4095) h false).testBit h = false := by
      rw [sb, msk_bit, if_pos rfl, Bool.and_false]
    have h5 : (sb (HS T h 4095) h false).testBit h = true := h3
    rw [h4] at h5
    cases h5
  omega
theorem suC_le (T : town) (h : Nat) : suC T h ≤ alC T h := by
  refine fb_ct_sub (fun k hk hp => ?_)
  have hp : (sb (HS T h 0) h false).testBit k = true := hp
  show (sb (HS T h 4095) h false).testBit k = true
  rw [sb, msk_bit, decide_eq_true hk, Bool.true_and] at hp ⊢
  by_cases e : k = h
  · rw [if_pos e] at hp; cases hp
  · rw [if_neg e] at hp ⊢
    rw [HS, msk_bit, decide_eq_true hk, Bool.true_and] at hp ⊢
    unfold he at hp ⊢
    rw [Nat.zero_testBit, Bool.and_false, Bool.or_false] at hp
    cases h1 : (T 6 1).testBit k <;> rw [h1] at hp
    · cases h2 : (decide (k = h) || decide (3 ≤ ld T h k))
      · have h3 : (decide (k = h) || decide (3 ≤ ld T h k)) = true := by simpa using hp
        rw [h2] at h3; cases h3
      · rw [← Bool.or_assoc, h2]; rfl
    · cases hp
theorem gdf_s (f a b : Nat) : gdf (f + 1) a b = if b = 0 then a else gdf f b (a % b) := rfl
theorem lN_0 {n : Nat} (h : n < 2 ^ 63) : lN n = 0 ↔ n = 0 := pk_lEQ (b := 0) h (by decide)
section CHANCE
variable {A : Nat → List Int32} {I : Nat → Nat → Int32} {J : Nat → List Int64} {U : Nat → Nat → Int64} {T : town}
set_option maxHeartbeats 1000000 in
set_option maxRecDepth 20000 in
theorem c_C_weigh (hT : okT T) (hE : enH A I 1 T) {h : Nat} (hh : h < 12) : AD m_C_weigh r_C_weigh (HH A I J U) [.ref 34, .ref 1, .int (nI h)] none (HH A (u2 (u2 I 34 1 (nI (suC T h))) 34 2 (nI (myC T h))) J U) := by
  refine am_of (by decide) rfl (by first | decide | exact Nat.le_of_ble_eq_true rfl) ?_
  refine aw_iconst (pc := 0) (v := 1) d_C_weigh_0 (by decide) ?_
  refine aw_iload_n (pc := 1) d_C_weigh_1 rfl rfl ?_
  refine aw_ishl (pc := 2) d_C_weigh_2 ?_
  refine aw_iconst (pc := 3) (v := (-1)) d_C_weigh_3 (by decide) ?_
  refine aw_ixor (pc := 4) d_C_weigh_4 ?_
  refine aw_istore_n (pc := 5) (ls' := [(0, _), (1, _), (2, _), (3, _)]) d_C_weigh_5 rfl (by decide) rfl ?_
  refine aw_aload_n (pc := 6) d_C_weigh_6 rfl rfl ?_
  refine aw_iload_n (pc := 7) d_C_weigh_7 rfl rfl ?_
  refine aw_iconst (pc := 8) (v := 0) d_C_weigh_8 (by decide) ?_
  refine aw_callV1 (pc := 9) (c_S_hearers_1 (op := 0) hT hE hh (by decide)) ok_S_hearers d_C_weigh_9 lm_C_29 hg_1 rfl rfl ⟨by decide, by decide⟩ (Nat.le_of_ble_eq_true rfl) rfl rfl ⟨by decide, by decide⟩ ?_
  refine aw_iload_n (pc := 12) d_C_weigh_12 rfl rfl ?_
  refine aw_iand (pc := 13) d_C_weigh_13 ?_
  refine aw_top (sb_off (msk_lt _ 12) hh) ?_
  refine aw_istore (pc := 14) (ls' := [(0, _), (1, _), (2, _), (3, _), (4, _)]) d_C_weigh_14 (by decide) rfl ?_
  refine aw_aload_n (pc := 16) d_C_weigh_16 rfl rfl ?_
  refine aw_iload_n (pc := 17) d_C_weigh_17 rfl rfl ?_
  refine aw_sipush (pc := 18) (v := 4095) d_C_weigh_18 (by decide) ?_
  refine aw_callV1 (pc := 21) (c_S_hearers_1 (op := 4095) hT hE hh (by decide)) ok_S_hearers d_C_weigh_21 lm_C_29 hg_1 rfl rfl ⟨by decide, by decide⟩ (Nat.le_of_ble_eq_true rfl) rfl rfl ⟨by decide, by decide⟩ ?_
  refine aw_iload_n (pc := 24) d_C_weigh_24 rfl rfl ?_
  refine aw_iand (pc := 25) d_C_weigh_25 ?_
  refine aw_top (sb_off (msk_lt _ 12) hh) ?_
  refine aw_istore (pc := 26) (ls' := [(0, _), (1, _), (2, _), (3, _), (4, _), (5, _)]) d_C_weigh_26 (by decide) rfl ?_
  refine aw_aload_n (pc := 28) d_C_weigh_28 rfl rfl ?_
  refine aw_iload (pc := 29) d_C_weigh_29 rfl ?_
  refine aw_callS1 (pc := 31) (c_B_bitCount (sb_lt _ _ _)) ok_B_bitCount d_C_weigh_31 lm_C_35 rfl rfl ⟨by decide, by decide⟩ (Nat.le_of_ble_eq_true rfl) rfl rfl ⟨by decide, by decide⟩ ?_
  refine aw_put (pc := 34) d_C_weigh_34 lp_C_15 hg_34 (ft_int _) (Nat.le_of_ble_eq_true rfl) (hp_34_1 _) ?_
  refine aw_aload_n (pc := 37) d_C_weigh_37 rfl rfl ?_
  refine aw_iload (pc := 38) d_C_weigh_38 rfl ?_
  refine aw_callS1 (pc := 40) (c_B_bitCount (sb_lt _ _ _)) ok_B_bitCount d_C_weigh_40 lm_C_35 rfl rfl ⟨by decide, by decide⟩ (Nat.le_of_ble_eq_true rfl) rfl rfl ⟨by decide, by decide⟩ ?_
  refine aw_aload_n (pc := 43) d_C_weigh_43 rfl rfl ?_
  refine aw_geti (pc := 44) (y := (nI (suC T h))) d_C_weigh_44 lf_C_15 hg_34 rfl rfl ?_
  refine aw_isub (pc := 47) d_C_weigh_47 ?_
  refine aw_top (y := nI (myC T h)) (pk_sub (suC_le T h)) ?_
  refine aw_put (pc := 48) d_C_weigh_48 lp_C_19 hg_34 (ft_int _) (Nat.le_of_ble_eq_true rfl) (hp_34_2 _) ?_
  refine aw_vret (pc := 51) d_C_weigh_51 rfl ?_
  exact ⟨rfl, rfl⟩
set_option maxHeartbeats 1000000 in
set_option maxRecDepth 20000 in
theorem c_C_greatestDivisor {hp : ax_H} {a b : Nat} (ha : a < 2 ^ 63) (hb : b < 2 ^ 50) : AD m_C_greatestDivisor r_C_greatestDivisor hp [.long (lN a), .long (lN b)] (some (.long (lN (Nat.gcd a b)))) hp := by
  refine am_of (by decide) rfl (by first | decide | exact Nat.le_of_ble_eq_true rfl) ?_
  refine aw_lload_n (pc := 0) d_C_greatestDivisor_0 rfl rfl ?_
  refine aw_lstore (pc := 1) (ls' := [(0, _), (2, _), (4, _)]) d_C_greatestDivisor_1 (by decide) rfl ?_
  refine aw_lload_n (pc := 3) d_C_greatestDivisor_3 rfl rfl ?_
  refine aw_lstore (pc := 4) (ls' := [(0, _), (2, _), (4, _), (6, _)]) d_C_greatestDivisor_4 (by decide) rfl ?_
  refine aw_iconst (pc := 6) (v := 0) d_C_greatestDivisor_6 (by decide) ?_
  refine aw_istore (pc := 7) (ls' := [(0, _), (2, _), (4, _), (6, _), (8, _)]) d_C_greatestDivisor_7 (by decide) rfl ?_
  refine lp_i (fun i (x : Nat × Nat) => AW m_C_greatestDivisor r_C_greatestDivisor ax_E0 (ax_Zm (fun q1 q2 => q1 = some (.long (lN (Nat.gcd a b))) ∧ q2 = hp) 0 0) hp 0 0 9 [(0, .long (lN a)), (2, .long (lN b)), (4, .long (lN x.1)), (6, .long (lN x.2)), (8, .int (nI i))] []) (fun i x => Nat.gcd a b = gdf (100 - i) x.1 x.2 ∧ x.1 < 2 ^ 63 ∧ x.2 < 2 ^ 63) 100 ?_ ?_ 100 0 (a, b) (by omega) ⟨(gdf_gcd 50 100 a b hb (by decide)).symm, ha, Nat.lt_trans hb (by decide)⟩
  · rintro ⟨x, y⟩ ⟨hV, -, -⟩
    have hV : Nat.gcd a b = x := hV
    refine aw_iload (pc := 9) d_C_greatestDivisor_9 rfl ?_
    refine aw_bipush (pc := 11) (v := 100) d_C_greatestDivisor_11 (by decide) ?_
    refine awn_ge (pc := 13) (tgt := 44) (100) (100) d_C_greatestDivisor_13 (by decide) rfl rfl (by omega) (by omega) (fun _ => ?_) (fun hh => absurd hh (by omega))
    refine aw_lload (pc := 44) d_C_greatestDivisor_44 rfl ?_
    refine aw_lret (pc := 46) d_C_greatestDivisor_46 rfl ?_
    exact ⟨by rw [hV], rfl⟩
  · rintro i ⟨x, y⟩ hi ⟨hV, hx, hy⟩ ih
    have hx : x < 2 ^ 63 := hx
    have hy : y < 2 ^ 63 := hy
    rw [show 100 - i = (100 - (i + 1)) + 1 by omega] at hV
    have hV : Nat.gcd a b = if y = 0 then x else gdf (100 - (i + 1)) y (x % y) := hV
    refine aw_iload (pc := 9) d_C_greatestDivisor_9 rfl ?_
    refine aw_bipush (pc := 11) (v := 100) d_C_greatestDivisor_11 (by decide) ?_
    refine awn_ge (pc := 13) (tgt := 44) (i) (100) d_C_greatestDivisor_13 (by decide) rfl rfl (by omega) (by omega) (fun hh => absurd hh (by omega)) (fun _ => ?_)
    refine aw_lload (pc := 16) d_C_greatestDivisor_16 rfl ?_
    refine aw_lconst (pc := 18) (v := 0) d_C_greatestDivisor_18 (by decide) ?_
    refine aw_lcmp (pc := 19) d_C_greatestDivisor_19 ?_
    refine aw_if_eq (pc := 20) (tgt := 44) d_C_greatestDivisor_20 (by decide) (fun h20 => ?_) (fun h20 => ?_)
    · have h20 : y = 0 := (lN_0 hy).mp ((lg_cmp_eq _ _).mp h20)
      rw [if_pos h20] at hV
      refine aw_lload (pc := 44) d_C_greatestDivisor_44 rfl ?_
      refine aw_lret (pc := 46) d_C_greatestDivisor_46 rfl ?_
      exact ⟨by rw [hV], rfl⟩
    · have h20 : ¬ y = 0 := fun z => h20 ((lg_cmp_eq _ _).mpr ((lN_0 hy).mpr z))
      rw [if_neg h20] at hV
      refine aw_lload (pc := 23) d_C_greatestDivisor_23 rfl ?_
      refine aw_lload (pc := 25) d_C_greatestDivisor_25 rfl ?_
      refine aw_lrem (pc := 27) d_C_greatestDivisor_27 (fun z => h20 ((lN_0 hy).mp z)) ?_
      refine aw_topl (pk_lRem hx (by omega) hy) ?_
      refine aw_lstore (pc := 28) (ls' := [(0, _), (2, _), (4, _), (6, _), (8, _), (9, _)]) d_C_greatestDivisor_28 (by decide) rfl ?_
      refine aw_lload (pc := 30) d_C_greatestDivisor_30 rfl ?_
      refine aw_lstore (pc := 32) (ls' := [(0, _), (2, _), (4, _), (6, _), (8, _), (9, _)]) d_C_greatestDivisor_32 (by decide) rfl ?_
      refine aw_lload (pc := 34) d_C_greatestDivisor_34 rfl ?_
      refine aw_lstore (pc := 36) (ls' := [(0, _), (2, _), (4, _), (6, _), (8, _), (9, _)]) d_C_greatestDivisor_36 (by decide) rfl ?_
      refine aw_incN (pc := 38) (ls' := [(0, _), (2, _), (4, _), (6, _), (8, _), (9, _)]) (i := i) d_C_greatestDivisor_38 rfl rfl (by decide) rfl ?_
      refine aw_goto (pc := 41) (tgt := 9) d_C_greatestDivisor_41 (by decide) ?_
      refine aw_sub (ls' := [(0, _), (2, _), (4, _), (6, _), (8, _)]) [0, 1, 2, 3, 4] rfl ?_
      exact ih (y, x % y) ⟨hV, hy, Nat.lt_of_le_of_lt (Nat.mod_le x y) hx⟩
theorem gc_div {a b : Nat} (ha : a < 2 ^ 63) (hb : 0 < b) (hb2 : b < 2 ^ 50) : 0 < Nat.gcd a b ∧ Nat.gcd a b < 2 ^ 50 := ⟨Nat.gcd_pos_of_pos_right a hb, Nat.lt_of_le_of_lt (Nat.le_of_dvd hb (Nat.gcd_dvd_right a b)) hb2⟩
set_option maxHeartbeats 1000000 in
set_option maxRecDepth 20000 in
theorem c_C_putLowest {a b : Nat} (ha : a < 2 ^ 63) (hb : 0 < b) (hb2 : b < 2 ^ 50) : AD m_C_putLowest r_C_putLowest (HH A I J U) [.ref 34, .long (lN a), .long (lN b)] none (HH A I J (u2 (u2 U 34 3 (lN (a / Nat.gcd a b))) 34 4 (lN (b / Nat.gcd a b)))) := by
  refine am_of (by decide) rfl (by first | decide | exact Nat.le_of_ble_eq_true rfl) ?_
  obtain ⟨g0, g1⟩ := gc_div ha hb hb2
  have g2 : Nat.gcd a b < 2 ^ 63 := Nat.lt_trans g1 (by decide)
  have gz : ¬ lN (Nat.gcd a b) = 0 := fun z => absurd ((lN_0 g2).mp z) (by omega)
  refine aw_lload_n (pc := 0) d_C_putLowest_0 rfl rfl ?_
  refine aw_lload_n (pc := 1) d_C_putLowest_1 rfl rfl ?_
  refine aw_callS1 (pc := 2) (c_C_greatestDivisor ha hb2) ok_C_greatestDivisor d_C_putLowest_2 lm_C_51 rfl rfl ⟨by decide, by decide⟩ (Nat.le_of_ble_eq_true rfl) rfl rfl ⟨by decide, by decide⟩ ?_
  refine aw_lstore (pc := 5) (ls' := [(0, _), (1, _), (3, _), (5, _)]) d_C_putLowest_5 (by decide) rfl ?_
  refine aw_lload (pc := 7) d_C_putLowest_7 rfl ?_
  refine aw_lconst (pc := 9) (v := 0) d_C_putLowest_9 (by decide) ?_
  refine aw_lcmp (pc := 10) d_C_putLowest_10 ?_
  refine aw_if_gt (pc := 11) (tgt := 15) d_C_putLowest_11 (by decide) (fun _ => ?_) (fun hh => absurd ((lg_cmp_gt _ _).mpr ((pk_lLT (a := 0) (by decide) g2).mpr g0)) hh)
  refine aw_aload_n (pc := 15) d_C_putLowest_15 rfl rfl ?_
  refine aw_lload_n (pc := 16) d_C_putLowest_16 rfl rfl ?_
  refine aw_lload (pc := 17) d_C_putLowest_17 rfl ?_
  refine aw_ldiv (pc := 19) d_C_putLowest_19 gz ?_
  refine aw_topl (pk_lDiv ha g0 g2) ?_
  refine aw_put (pc := 20) d_C_putLowest_20 lp_C_22 hg_34 (ft_long _) (Nat.le_of_ble_eq_true rfl) (hp_34_3 _) ?_
  refine aw_aload_n (pc := 23) d_C_putLowest_23 rfl rfl ?_
  refine aw_lload_n (pc := 24) d_C_putLowest_24 rfl rfl ?_
  refine aw_lload (pc := 25) d_C_putLowest_25 rfl ?_
  refine aw_ldiv (pc := 27) d_C_putLowest_27 gz ?_
  refine aw_topl (pk_lDiv (Nat.lt_trans hb2 (by decide)) g0 g2) ?_
  refine aw_put (pc := 28) d_C_putLowest_28 lp_C_26 hg_34 (ft_long _) (Nat.le_of_ble_eq_true rfl) (hp_34_4 _) ?_
  refine aw_vret (pc := 31) d_C_putLowest_31 rfl ?_
  exact ⟨rfl, rfl⟩
set_option maxHeartbeats 1000000 in
set_option maxRecDepth 20000 in
theorem c_C_findMean {su my t : Nat} (hs : su ≤ 12) (hm : my ≤ 12) (ht : t ≤ 10) (h1 : I 34 1 = nI su) (h2 : I 34 2 = nI my) : AD m_C_findMean r_C_findMean (HH A I J U) [.ref 34, .int (nI t)] none (HH A I J (u2 (u2 U 34 3 (lN ((10 * su + t * my) / Nat.gcd (10 * su + t * my) 10))) 34 4 (lN (10 / Nat.gcd (10 * su + t * my) 10)))) := by
  refine am_of (by decide) rfl (by first | decide | exact Nat.le_of_ble_eq_true rfl) ?_
  have hb : t * my ≤ 10 * 12 := Nat.mul_le_mul ht hm
  refine aw_aload_n (pc := 0) d_C_findMean_0 rfl rfl ?_
  refine aw_bipush (pc := 1) (v := 10) d_C_findMean_1 (by decide) ?_
  refine aw_aload_n (pc := 3) d_C_findMean_3 rfl rfl ?_
  refine aw_geti (pc := 4) (y := (nI su)) d_C_findMean_4 lf_C_15 hg_34 rfl h1 ?_
  refine aw_imul (pc := 7) d_C_findMean_7 ?_
  refine aw_iload_n (pc := 8) d_C_findMean_8 rfl rfl ?_
  refine aw_aload_n (pc := 9) d_C_findMean_9 rfl rfl ?_
  refine aw_geti (pc := 10) (y := (nI my)) d_C_findMean_10 lf_C_19 hg_34 rfl h2 ?_
  refine aw_imul (pc := 13) d_C_findMean_13 ?_
  refine aw_iadd (pc := 14) d_C_findMean_14 ?_
  refine aw_i2l (pc := 15) d_C_findMean_15 ?_
  refine aw_topl (y := lN (10 * su + t * my)) (by rw [show (10 : Int32) * nI su = nI (10 * su) from pk_mul 10 su, pk_mul, nI_add, nI_l (by omega)]) ?_
  refine aw_ldc2 (pc := 16) d_C_findMean_16 lc_C_41 ?_
  refine aw_callV0 (pc := 19) (c_C_putLowest (a := 10 * su + t * my) (b := 10) (by omega) (by decide) (by decide)) ok_C_putLowest d_C_findMean_19 lm_C_43 hg_34 rfl rfl ⟨by decide, by decide⟩ (Nat.le_of_ble_eq_true rfl) rfl rfl ⟨by decide, by decide⟩ ?_
  refine aw_vret (pc := 22) d_C_findMean_22 rfl ?_
  exact ⟨rfl, rfl⟩
theorem t_sub {t : Nat} (ht : t ≤ 10) : (10 - nI t).toInt64 = lN (10 - t) := by
  rw [show (10 : Int32) - nI t = nI (10 - t) from pk_sub (a := 10) ht, nI_l (by omega)]
set_option maxHeartbeats 1000000 in
set_option maxRecDepth 20000 in
theorem c_C_countWays {my t : Nat} (hm : my ≤ 11) (ht : t ≤ 10) (h2 : I 34 2 = nI my) {f0 : Nat → Nat} (h35 : J 35 = lsl 12 f0) : AM m_C_countWays r_C_countWays (HH A I J U) [.ref 34, .int (nI t)] (fun r h' => r = none ∧ ∃ f, h' = HH A I (u1 J 35 (lsl 12 f)) U ∧ ∀ j, j ≤ my → f j = rk t 0 my j) := by
  refine am_of (by decide) rfl (by first | decide | exact Nat.le_of_ble_eq_true rfl) ?_
  refine aw_aload_n (pc := 0) d_C_countWays_0 rfl rfl ?_
  refine aw_get (pc := 1) d_C_countWays_1 lf_C_9 hg_34 rfl ?_
  refine aw_iconst (pc := 4) (v := 0) d_C_countWays_4 (by decide) ?_
  refine aw_lconst (pc := 5) (v := 1) d_C_countWays_5 (by decide) ?_
  refine aw_llsN (pc := 6) (j := 0) (v := 1) d_C_countWays_6 hg_35 h35 rfl rfl (by decide) (by decide) (hs_35 _) ?_
  refine aw_iconst (pc := 7) (v := 1) d_C_countWays_7 (by decide) ?_
  refine aw_istore_n (pc := 8) (ls' := [(0, _), (1, _), (2, _)]) d_C_countWays_8 rfl (by decide) rfl ?_
  refine lp_i (fun i (f : Nat → Nat) => AW m_C_countWays r_C_countWays ax_E0 (ax_Zm ((fun r h' => r = none ∧ ∃ f, h' = HH A I (u1 J 35 (lsl 12 f)) U ∧ ∀ j, j ≤ my → f j = rk t 0 my j)) 0 0) (HH A I (u1 J 35 (lsl 12 f)) U) 0 0 9 [(0, .ref 34), (1, .int (nI t)), (2, .int (nI (i + 1)))] []) (fun i f => ∀ j, j ≤ i → f j = rk t 0 i j) my ?_ ?_ my 0 (up f0 0 1) (by omega) (fun j hj => by
    have e : j = 0 := by omega
    subst e; rfl)
  · intro f hV
    refine aw_iload_n (pc := 9) d_C_countWays_9 rfl rfl ?_
    refine aw_aload_n (pc := 10) d_C_countWays_10 rfl rfl ?_
    refine aw_geti (pc := 11) (y := (nI my)) d_C_countWays_11 lf_C_19 hg_34 rfl h2 ?_
    refine awn_gt (pc := 14) (tgt := 105) (my + 1) (my) d_C_countWays_14 (by decide) rfl rfl (by omega) (by omega) (fun _ => ?_) (fun hh => absurd hh (by omega))
    refine aw_vret (pc := 105) d_C_countWays_105 rfl ?_
    exact ⟨rfl, f, rfl, hV⟩
  · intro i f hi hV ih
    have es : nI (i + 1) - 1 = nI i := pk_sub (a := i + 1) (b := 1) (by omega)
    refine aw_iload_n (pc := 9) d_C_countWays_9 rfl rfl ?_
    refine aw_aload_n (pc := 10) d_C_countWays_10 rfl rfl ?_
    refine aw_geti (pc := 11) (y := (nI my)) d_C_countWays_11 lf_C_19 hg_34 rfl h2 ?_
    refine awn_gt (pc := 14) (tgt := 105) (i + 1) (my) d_C_countWays_14 (by decide) rfl rfl (by omega) (by omega) (fun hh => absurd hh (by omega)) (fun _ => ?_)
    refine aw_iload_n (pc := 17) d_C_countWays_17 rfl rfl ?_
    refine aw_bipush (pc := 18) (v := 12) d_C_countWays_18 (by decide) ?_
    refine awn_ge (pc := 20) (tgt := 105) (i + 1) (12) d_C_countWays_20 (by decide) rfl rfl (by omega) (by omega) (fun hh => absurd hh (by omega)) (fun _ => ?_)
    refine aw_aload_n (pc := 23) d_C_countWays_23 rfl rfl ?_
    refine aw_get (pc := 24) d_C_countWays_24 lf_C_9 hg_34 rfl ?_
    refine aw_iload_n (pc := 27) d_C_countWays_27 rfl rfl ?_
    refine aw_aload_n (pc := 28) d_C_countWays_28 rfl rfl ?_
    refine aw_get (pc := 29) d_C_countWays_29 lf_C_9 hg_34 rfl ?_
    refine aw_iload_n (pc := 32) d_C_countWays_32 rfl rfl ?_
    refine aw_iconst (pc := 33) (v := 1) d_C_countWays_33 (by decide) ?_
    refine aw_isub (pc := 34) d_C_countWays_34 ?_
    refine aw_lldN (pc := 35) (j := i) d_C_countWays_35 hg_35 rfl es (by omega) (by decide) ?_
    refine aw_iload_n (pc := 36) d_C_countWays_36 rfl rfl ?_
    refine aw_i2l (pc := 37) d_C_countWays_37 ?_
    refine aw_lmul (pc := 38) d_C_countWays_38 ?_
    refine aw_topl (y := lN (f i * t)) (by rw [nI_l (by omega), lN_mul]) ?_
    refine aw_llsN (pc := 39) (j := i + 1) (v := f i * t) d_C_countWays_39 hg_35 rfl rfl rfl (by omega) (by decide) (hs_35 _) ?_
    refine aw_iload_n (pc := 40) d_C_countWays_40 rfl rfl ?_
    refine aw_iconst (pc := 41) (v := 1) d_C_countWays_41 (by decide) ?_
    refine aw_isub (pc := 42) d_C_countWays_42 ?_
    refine aw_top es ?_
    refine aw_istore_n (pc := 43) (ls' := [(0, _), (1, _), (2, _), (3, _)]) d_C_countWays_43 rfl (by decide) rfl ?_
    rw [u1_u1]
    refine lp_d (fun c (g : Nat → Nat) => AW m_C_countWays r_C_countWays ax_E0 (ax_Zm ((fun r h' => r = none ∧ ∃ f, h' = HH A I (u1 J 35 (lsl 12 f)) U ∧ ∀ j, j ≤ my → f j = rk t 0 my j)) 0 0) (HH A I (u1 J 35 (lsl 12 g)) U) 0 0 44 [(0, .ref 34), (1, .int (nI t)), (2, .int (nI (i + 1))), (3, .int (nI c))] []) (fun c g => c ≤ i ∧ (∀ j, j ≤ c → g j = rk t 0 i j) ∧ ∀ j, c < j → j ≤ i + 1 → g j = rk t 0 (i + 1) j) ?_ ?_ i _ ⟨Nat.le_refl _, (fun j hj => by rw [up_n _ _ (by omega)]; exact hV j hj), (fun j h1 h2 => ?_)⟩
    · rintro g ⟨-, g1, g2⟩
      refine aw_iload_n (pc := 44) d_C_countWays_44 rfl rfl ?_
      refine aw_iconst (pc := 45) (v := 1) d_C_countWays_45 (by decide) ?_
      refine awn_lt (pc := 46) (tgt := 85) (0) (1) d_C_countWays_46 (by decide) rfl rfl (by omega) (by omega) (fun _ => ?_) (fun hh => absurd hh (by omega))
      refine aw_aload_n (pc := 85) d_C_countWays_85 rfl rfl ?_
      refine aw_get (pc := 86) d_C_countWays_86 lf_C_9 hg_34 rfl ?_
      refine aw_iconst (pc := 89) (v := 0) d_C_countWays_89 (by decide) ?_
      refine aw_dup2 (pc := 90) d_C_countWays_90 rfl rfl ?_
      refine aw_lldN (pc := 91) (j := 0) d_C_countWays_91 hg_35 rfl rfl (by decide) (by decide) ?_
      refine aw_bipush (pc := 92) (v := 10) d_C_countWays_92 (by decide) ?_
      refine aw_iload_n (pc := 94) d_C_countWays_94 rfl rfl ?_
      refine aw_isub (pc := 95) d_C_countWays_95 ?_
      refine aw_i2l (pc := 96) d_C_countWays_96 ?_
      refine aw_lmul (pc := 97) d_C_countWays_97 ?_
      refine aw_topl (y := lN (g 0 * (10 - t))) (by rw [t_sub ht, lN_mul]) ?_
      refine aw_llsN (pc := 98) (j := 0) (v := g 0 * (10 - t)) d_C_countWays_98 hg_35 rfl rfl rfl (by decide) (by decide) (hs_35 _) ?_
      refine aw_incN (pc := 99) (ls' := [(0, _), (1, _), (2, _), (3, _)]) (i := i + 1) d_C_countWays_99 rfl rfl (by decide) rfl ?_
      refine aw_goto (pc := 102) (tgt := 9) d_C_countWays_102 (by decide) ?_
      refine aw_sub (ls' := [(0, _), (1, _), (2, _)]) [0, 1, 2] rfl ?_
      rw [u1_u1]
      refine ih _ (fun j hj => ?_)
      by_cases h0 : j = 0
      · subst h0
        rw [up_s, g1 0 (Nat.le_refl _), rk_s, if_pos rfl, Nat.add_zero]
      · rw [up_n _ _ h0]
        exact g2 j (by omega) hj
    · rintro c g ⟨hc, g1, g2⟩ ih2
      have ec : nI (c + 1) - 1 = nI c := pk_sub (a := c + 1) (b := 1) (by omega)
      refine aw_iload_n (pc := 44) d_C_countWays_44 rfl rfl ?_
      refine aw_iconst (pc := 45) (v := 1) d_C_countWays_45 (by decide) ?_
      refine awn_lt (pc := 46) (tgt := 85) (c + 1) (1) d_C_countWays_46 (by decide) rfl rfl (by omega) (by omega) (fun hh => absurd hh (by omega)) (fun _ => ?_)
      refine aw_aload_n (pc := 49) d_C_countWays_49 rfl rfl ?_
      refine aw_get (pc := 50) d_C_countWays_50 lf_C_9 hg_34 rfl ?_
      refine aw_iload_n (pc := 53) d_C_countWays_53 rfl rfl ?_
      refine aw_aload_n (pc := 54) d_C_countWays_54 rfl rfl ?_
      refine aw_get (pc := 55) d_C_countWays_55 lf_C_9 hg_34 rfl ?_
      refine aw_iload_n (pc := 58) d_C_countWays_58 rfl rfl ?_
      refine aw_lldN (pc := 59) (j := c + 1) d_C_countWays_59 hg_35 rfl rfl (by omega) (by decide) ?_
      refine aw_bipush (pc := 60) (v := 10) d_C_countWays_60 (by decide) ?_
      refine aw_iload_n (pc := 62) d_C_countWays_62 rfl rfl ?_
      refine aw_isub (pc := 63) d_C_countWays_63 ?_
      refine aw_i2l (pc := 64) d_C_countWays_64 ?_
      refine aw_lmul (pc := 65) d_C_countWays_65 ?_
      refine aw_topl (y := lN (g (c + 1) * (10 - t))) (by rw [t_sub ht, lN_mul]) ?_
      refine aw_aload_n (pc := 66) d_C_countWays_66 rfl rfl ?_
      refine aw_get (pc := 67) d_C_countWays_67 lf_C_9 hg_34 rfl ?_
      refine aw_iload_n (pc := 70) d_C_countWays_70 rfl rfl ?_
      refine aw_iconst (pc := 71) (v := 1) d_C_countWays_71 (by decide) ?_
      refine aw_isub (pc := 72) d_C_countWays_72 ?_
      refine aw_lldN (pc := 73) (j := c) d_C_countWays_73 hg_35 rfl ec (by omega) (by decide) ?_
      refine aw_iload_n (pc := 74) d_C_countWays_74 rfl rfl ?_
      refine aw_i2l (pc := 75) d_C_countWays_75 ?_
      refine aw_lmul (pc := 76) d_C_countWays_76 ?_
      refine aw_topl (y := lN (g c * t)) (by rw [nI_l (by omega), lN_mul]) ?_
      refine aw_ladd (pc := 77) d_C_countWays_77 ?_
      refine aw_topl (lN_add _ _) ?_
      refine aw_llsN (pc := 78) (j := c + 1) (v := _) d_C_countWays_78 hg_35 rfl rfl rfl (by omega) (by decide) (hs_35 _) ?_
      refine aw_decN (pc := 79) (ls' := [(0, _), (1, _), (2, _), (3, _)]) (i := c) d_C_countWays_79 rfl rfl (by decide) rfl ?_
      refine aw_goto (pc := 82) (tgt := 44) d_C_countWays_82 (by decide) ?_
      rw [u1_u1]
      refine ih2 _ ⟨(by omega), (fun j hj => by rw [up_n _ _ (by omega)]; exact g1 j (by omega)), (fun j h3 h4 => ?_)⟩
      by_cases h5 : j = c + 1
      · subst h5
        rw [up_s, g1 (c + 1) (Nat.le_refl _), g1 c (by omega), rk_ss]
      · rw [up_n _ _ h5]
        exact g2 j (by omega) h4
    · have e : j = i + 1 := by omega
      subst e
      rw [up_s, rk_ss, rk_hi t 0 i (i + 1) (by omega), Nat.zero_mul, Nat.zero_add, hV i (Nat.le_refl _)]
set_option maxHeartbeats 1000000 in
set_option maxRecDepth 20000 in
theorem c_C_findAtMost {su my t c : Nat} (hs : su + my ≤ 11) (ht : t ≤ 10) (hc : c ≤ 11) (h1 : I 34 1 = nI su) (h2 : I 34 2 = nI my) {f0 : Nat → Nat} (h35 : J 35 = lsl 12 f0) : AM m_C_findAtMost r_C_findAtMost (HH A I J U) [.ref 34, .int (nI t), .int (nI c)] (fun r h' => r = none ∧ ∃ f, h' = HH A I (u1 J 35 (lsl 12 f)) (u2 (u2 U 34 3 (lN (fb_sm (fun x => if x ≤ c then rk t su my x else 0) 12 / Nat.gcd (fb_sm (fun x => if x ≤ c then rk t su my x else 0) 12) (10 ^ my)))) 34 4 (lN (10 ^ my / Nat.gcd (fb_sm (fun x => if x ≤ c then rk t su my x else 0) 12) (10 ^ my))))) := by
  refine am_of (by decide) rfl (by first | decide | exact Nat.le_of_ble_eq_true rfl) ?_
  have hF := rk_Fle (a := su) (m := my) ht c (by omega)
  have hD : 10 ^ my ≤ 10 ^ 11 := Nat.pow_le_pow_right (by decide) (by omega)
  have hD2 : (10 : Nat) ^ 11 < 2 ^ 50 := by decide
  have hD0 : 0 < 10 ^ my := Nat.pow_pos (by decide)
  have hD3 : 10 ^ my < 2 ^ 50 := Nat.lt_of_le_of_lt hD hD2
  have hF3 : fb_sm (fun x => if x ≤ c then rk t su my x else 0) 12 < 2 ^ 63 := Nat.lt_of_le_of_lt hF (Nat.lt_trans hD3 (by decide))
  refine aw_aload_n (pc := 0) d_C_findAtMost_0 rfl rfl ?_
  refine aw_iload_n (pc := 1) d_C_findAtMost_1 rfl rfl ?_
  refine aw_callVq (pc := 2) (c_C_countWays (by omega) ht h2 h35) ok_C_countWays d_C_findAtMost_2 lm_C_47 hg_34 rfl rfl ⟨by decide, by decide⟩ (Nat.le_of_ble_eq_true rfl) rfl rfl ⟨by decide, by decide⟩ (fun rr hh2 hq => ?_)
  obtain ⟨rfl, f, rfl, hf⟩ := hq
  refine aw_lconst (pc := 5) (v := 0) d_C_findAtMost_5 (by decide) ?_
  refine aw_lstore_n (pc := 6) (ls' := [(0, _), (1, _), (2, _), (3, _)]) d_C_findAtMost_6 rfl (by decide) rfl ?_
  refine aw_lconst (pc := 7) (v := 0) d_C_findAtMost_7 (by decide) ?_
  refine aw_lstore (pc := 8) (ls' := [(0, _), (1, _), (2, _), (3, _), (5, _)]) d_C_findAtMost_8 (by decide) rfl ?_
  refine aw_iconst (pc := 10) (v := 0) d_C_findAtMost_10 (by decide) ?_
  refine aw_istore (pc := 11) (ls' := [(0, _), (1, _), (2, _), (3, _), (5, _), (7, _)]) d_C_findAtMost_11 (by decide) rfl ?_
  refine lp_i (fun i (x : Nat × Nat) => AW m_C_findAtMost r_C_findAtMost ax_E0 (ax_Zm ((fun r h' => r = none ∧ ∃ f, h' = HH A I (u1 J 35 (lsl 12 f)) (u2 (u2 U 34 3 (lN (fb_sm (fun x => if x ≤ c then rk t su my x else 0) 12 / Nat.gcd (fb_sm (fun x => if x ≤ c then rk t su my x else 0) 12) (10 ^ my)))) 34 4 (lN (10 ^ my / Nat.gcd (fb_sm (fun x => if x ≤ c then rk t su my x else 0) 12) (10 ^ my)))))) 0 0) (HH A I (u1 J 35 (lsl 12 f)) U) 0 0 13 [(0, .ref 34), (1, .int (nI t)), (2, .int (nI c)), (3, .long (lN x.1)), (5, .long (lN x.2)), (7, .int (nI i))] []) (fun i x => x.1 = fb_sm (rk t 0 my) i ∧ x.2 = fb_sm (fun j => if su + j ≤ c then rk t 0 my j else 0) i) (my + 1) ?_ ?_ (my + 1) 0 (0, 0) (by omega) ⟨rfl, rfl⟩
  · rintro ⟨x, y⟩ ⟨hx, hy⟩
    have hx2 : x = 10 ^ my := hx.trans (rk_S (a := 0) ht my (my + 1) (by omega))
    have hy2 : y = fb_sm (fun x => if x ≤ c then rk t su my x else 0) 12 := hy.trans (rk_F t (by omega)).symm
    refine aw_eq (ls' := [(0, .ref 34), (1, .int (nI t)), (2, .int (nI c)), (3, .long (lN (10 ^ my))), (5, .long (lN (fb_sm (fun x => if x ≤ c then rk t su my x else 0) 12))), (7, .int (nI (my + 1)))]) ?_ rfl (by rw [← hx2, ← hy2]) rfl
    refine aw_iload (pc := 13) d_C_findAtMost_13 rfl ?_
    refine aw_aload_n (pc := 15) d_C_findAtMost_15 rfl rfl ?_
    refine aw_geti (pc := 16) (y := (nI my)) d_C_findAtMost_16 lf_C_19 hg_34 rfl h2 ?_
    refine awn_gt (pc := 19) (tgt := 68) (my + 1) (my) d_C_findAtMost_19 (by decide) rfl rfl (by omega) (by omega) (fun _ => ?_) (fun hh => absurd hh (by omega))
    refine aw_aload_n (pc := 68) d_C_findAtMost_68 rfl rfl ?_
    refine aw_lload (pc := 69) d_C_findAtMost_69 rfl ?_
    refine aw_lload_n (pc := 71) d_C_findAtMost_71 rfl rfl ?_
    refine aw_callV0 (pc := 72) (c_C_putLowest (A := A) (I := I) (J := u1 J 35 (lsl 12 f)) (U := U) (a := fb_sm (fun x => if x ≤ c then rk t su my x else 0) 12) (b := 10 ^ my) hF3 hD0 hD3) ok_C_putLowest d_C_findAtMost_72 lm_C_43 hg_34 rfl rfl ⟨by decide, by decide⟩ (Nat.le_of_ble_eq_true rfl) rfl rfl ⟨by decide, by decide⟩ ?_
    refine aw_vret (pc := 75) d_C_findAtMost_75 rfl ?_
    exact ⟨rfl, f, rfl⟩
  · rintro i ⟨x, y⟩ hi ⟨hx, hy⟩ ih
    have hx : x = fb_sm (rk t 0 my) i := hx
    have hy : y = fb_sm (fun j => if su + j ≤ c then rk t 0 my j else 0) i := hy
    have hfi := hf i (by omega)
    refine aw_iload (pc := 13) d_C_findAtMost_13 rfl ?_
    refine aw_aload_n (pc := 15) d_C_findAtMost_15 rfl rfl ?_
    refine aw_geti (pc := 16) (y := (nI my)) d_C_findAtMost_16 lf_C_19 hg_34 rfl h2 ?_
    refine awn_gt (pc := 19) (tgt := 68) (i) (my) d_C_findAtMost_19 (by decide) rfl rfl (by omega) (by omega) (fun hh => absurd hh (by omega)) (fun _ => ?_)
    refine aw_iload (pc := 22) d_C_findAtMost_22 rfl ?_
    refine aw_bipush (pc := 24) (v := 12) d_C_findAtMost_24 (by decide) ?_
    refine awn_ge (pc := 26) (tgt := 68) (i) (12) d_C_findAtMost_26 (by decide) rfl rfl (by omega) (by omega) (fun hh => absurd hh (by omega)) (fun _ => ?_)
    refine aw_lload_n (pc := 29) d_C_findAtMost_29 rfl rfl ?_
    refine aw_aload_n (pc := 30) d_C_findAtMost_30 rfl rfl ?_
    refine aw_get (pc := 31) d_C_findAtMost_31 lf_C_9 hg_34 rfl ?_
    refine aw_iload (pc := 34) d_C_findAtMost_34 rfl ?_
    refine aw_lldN (pc := 36) (j := i) d_C_findAtMost_36 hg_35 rfl rfl (by omega) (by decide) ?_
    refine aw_ladd (pc := 37) d_C_findAtMost_37 ?_
    refine aw_topl (lN_add _ _) ?_
    refine aw_lstore_n (pc := 38) (ls' := [(0, _), (1, _), (2, _), (3, _), (5, _), (7, _)]) d_C_findAtMost_38 rfl (by decide) rfl ?_
    refine aw_aload_n (pc := 39) d_C_findAtMost_39 rfl rfl ?_
    refine aw_geti (pc := 40) (y := (nI su)) d_C_findAtMost_40 lf_C_15 hg_34 rfl h1 ?_
    refine aw_iload (pc := 43) d_C_findAtMost_43 rfl ?_
    refine aw_iadd (pc := 45) d_C_findAtMost_45 ?_
    refine aw_iload_n (pc := 46) d_C_findAtMost_46 rfl rfl ?_
    refine awn_gt (pc := 47) (tgt := 62) (su + i) (c) d_C_findAtMost_47 (by decide) (nI_add _ _) rfl (by omega) (by omega) (fun h47 => ?_) (fun h47 => ?_)
    · refine aw_incN (pc := 62) (ls' := [(0, _), (1, _), (2, _), (3, _), (5, _), (7, _)]) (i := i) d_C_findAtMost_62 rfl rfl (by decide) rfl ?_
      refine aw_goto (pc := 65) (tgt := 13) d_C_findAtMost_65 (by decide) ?_
      exact ih (x + f i, y) ⟨by rw [fb_sm_succ, ← hx, hfi], by rw [fb_sm_succ, ← hy, if_neg (by omega)]; rfl⟩
    · refine aw_lload (pc := 50) d_C_findAtMost_50 rfl ?_
      refine aw_aload_n (pc := 52) d_C_findAtMost_52 rfl rfl ?_
      refine aw_get (pc := 53) d_C_findAtMost_53 lf_C_9 hg_34 rfl ?_
      refine aw_iload (pc := 56) d_C_findAtMost_56 rfl ?_
      refine aw_lldN (pc := 58) (j := i) d_C_findAtMost_58 hg_35 rfl rfl (by omega) (by decide) ?_
      refine aw_ladd (pc := 59) d_C_findAtMost_59 ?_
      refine aw_topl (lN_add _ _) ?_
      refine aw_lstore (pc := 60) (ls' := [(0, _), (1, _), (2, _), (3, _), (5, _), (7, _)]) d_C_findAtMost_60 (by decide) rfl ?_
      refine aw_incN (pc := 62) (ls' := [(0, _), (1, _), (2, _), (3, _), (5, _), (7, _)]) (i := i) d_C_findAtMost_62 rfl rfl (by decide) rfl ?_
      refine aw_goto (pc := 65) (tgt := 13) d_C_findAtMost_65 (by decide) ?_
      exact ih (x + f i, y + f i) ⟨by rw [fb_sm_succ, ← hx, hfi], by rw [fb_sm_succ, ← hy, if_pos h47, hfi]⟩
end CHANCE

