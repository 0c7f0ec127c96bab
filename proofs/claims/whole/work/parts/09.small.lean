/-! numbers, masks; branches by naturals -/
abbrev zI (z : Int) : Int32 := Int32.ofInt z
theorem zI_nI (n : Nat) : nI n = zI (n : Int) := by
  apply Int32.toBitVec_inj.mp
  show BitVec.ofNat 32 n = BitVec.ofInt 32 (n : Int)
  simp
theorem zI_add (a b : Int) : zI a + zI b = zI (a + b) := (Int32.ofInt_add a b).symm
theorem zI_sub (a b : Int) : zI a - zI b = zI (a - b) := (Int32.ofInt_sub a b).symm
theorem zI_le {a b : Int} (ha : -2147483648 ≤ a ∧ a < 2147483648) (hb : -2147483648 ≤ b ∧ b < 2147483648) : zI a ≤ zI b ↔ a ≤ b := by
  rw [fa_le, fb_ofI ha.1 ha.2, fb_ofI hb.1 hb.2]
theorem zI_lt {a b : Int} (ha : -2147483648 ≤ a ∧ a < 2147483648) (hb : -2147483648 ≤ b ∧ b < 2147483648) : zI a < zI b ↔ a < b := by
  rw [fa_lt, fb_ofI ha.1 ha.2, fb_ofI hb.1 hb.2]
theorem zI_eq {a b : Int} (ha : -2147483648 ≤ a ∧ a < 2147483648) (hb : -2147483648 ≤ b ∧ b < 2147483648) : zI a = zI b ↔ a = b := by
  rw [fa_eq, fb_ofI ha.1 ha.2, fb_ofI hb.1 hb.2]
/-- a set of the first n numbers, as a number -/
def msk (p : Nat → Bool) : Nat → Nat
  | 0 => 0
  | n + 1 => msk p n ||| (if p n then 2 ^ n else 0)
theorem msk_bit (p : Nat → Bool) : ∀ n i, (msk p n).testBit i = (decide (i < n) && p i)
  | 0, i => by simp [msk]
  | n + 1, i => by
    rw [msk, Nat.testBit_or, msk_bit p n i]
    by_cases hp : p n = true
    · rw [if_pos hp, Nat.testBit_two_pow]
      by_cases h1 : i < n
      · have h2 : ¬ n = i := by omega
        simp [h1, Nat.lt_succ_of_lt h1, h2]
      · by_cases h2 : n = i
        · subst h2; simp [hp]
        · have h3 : ¬ i < n + 1 := by omega
          simp [h1, h2, h3]
    · rw [if_neg hp, Nat.zero_testBit]
      by_cases h1 : i < n
      · simp [h1, Nat.lt_succ_of_lt h1]
      · by_cases h2 : n = i
        · subst h2; simp [hp]
        · have h3 : ¬ i < n + 1 := by omega
          simp [h1, h3]
theorem msk_lt (p : Nat → Bool) : ∀ n, msk p n < 2 ^ n
  | 0 => by simp [msk]
  | n + 1 => by
    rw [msk]
    refine Nat.or_lt_two_pow (Nat.lt_trans (msk_lt p n) (Nat.pow_lt_pow_succ (by omega))) ?_
    split
    · exact Nat.pow_lt_pow_succ (by omega)
    · exact Nat.two_pow_pos _
theorem bits_ext {a b n : Nat} (ha : a < 2 ^ n) (hb : b < 2 ^ n) (h : ∀ i, i < n → a.testBit i = b.testBit i) : a = b := by
  apply Nat.eq_of_testBit_eq
  intro i
  by_cases hi : i < n
  · exact h i hi
  · rw [Nat.testBit_lt_two_pow (Nat.lt_of_lt_of_le ha (Nat.pow_le_pow_right (by omega) (by omega))), Nat.testBit_lt_two_pow (Nat.lt_of_lt_of_le hb (Nat.pow_le_pow_right (by omega) (by omega)))]
theorem msk_ext {a n : Nat} {p : Nat → Bool} (ha : a < 2 ^ n) (h : ∀ i, i < n → a.testBit i = p i) : a = msk p n :=
  bits_ext ha (msk_lt p n) (fun i hi => by rw [h i hi, msk_bit, decide_eq_true hi, Bool.true_and])
theorem msk_cong {p q : Nat → Bool} {n : Nat} (h : ∀ i, i < n → p i = q i) : msk p n = msk q n :=
  bits_ext (msk_lt p n) (msk_lt q n) (fun i hi => by rw [msk_bit, msk_bit, h i hi])
theorem sh1 {k : Nat} (hk : k < 31) : (1 : Int32) <<< (nI k &&& 31) = nI (2 ^ k) := by
  have h := pk_shlN (n := 1) (nI k &&& 31) k (s_l k (by omega)) (by have : 2 ^ k < 2 ^ 31 := Nat.pow_lt_pow_right (by omega) hk; omega)
  rw [Nat.one_mul] at h
  exact h
/-- bit n of x -/
abbrev hb (x n : Int32) : Prop := (x >>> (n &&& 31)) &&& 1 = 1
theorem shr_bit {a k : Nat} (ha : a < 2 ^ 31) (hk : k < 31) : (nI a >>> (nI k &&& 31)) &&& 1 = nI (if a.testBit k then 1 else 0) := by
  rw [pk_shrN ha (nI k &&& 31) k (s_l k (by omega))]
  show nI (a / 2 ^ k) &&& nI 1 = _
  rw [fa_and, Nat.and_one_is_mod, Nat.testBit_eq_decide_div_mod_eq]
  congr 1
  by_cases h : a / 2 ^ k % 2 = 1
  · simp [h]
  · simp [h]; omega
theorem hb_nI {a k : Nat} (ha : a < 2 ^ 31) (hk : k < 31) : hb (nI a) (nI k) ↔ a.testBit k = true := by
  unfold hb
  rw [shr_bit ha hk]
  show nI _ = nI 1 ↔ _
  rw [nI_eq (by split <;> omega) (by omega)]
  by_cases h : a.testBit k = true
  · simp [h]
  · simp [h]
section BR
variable {M : ax_M} {R : Room} {E : ax_Et} {Z : ax_Zt} {h : ax_H} {kc ks pc : Nat} {ls : List (Nat × Value)} {st : List Value}
theorem awn_ge {x y : Int32} {off : Int} {tgt : Nat} (a b : Nat) (hd : decode M.2.1 pc = .ok (.if_icmp .ge off, 3)) (ht : (pc : Int) + off = (tgt : Int)) (hx : x = nI a) (hy : y = nI b) (ha : a < 2 ^ 31) (hb : b < 2 ^ 31) (kt : b ≤ a → AW M R E Z h kc ks tgt ls st) (kf : a < b → AW M R E Z h kc ks (pc + 3) ls st) : AW M R E Z h kc ks pc ls (.int y :: .int x :: st) := by
  subst hx; subst hy
  exact aw_icmp_ge hd ht (fun q => kt ((nI_leI hb ha).mp q)) (fun q => kf (by have h9 : ¬ (b ≤ a) := (fun z => q ((nI_leI hb ha).mpr z)); omega))
theorem awn_lt {x y : Int32} {off : Int} {tgt : Nat} (a b : Nat) (hd : decode M.2.1 pc = .ok (.if_icmp .lt off, 3)) (ht : (pc : Int) + off = (tgt : Int)) (hx : x = nI a) (hy : y = nI b) (ha : a < 2 ^ 31) (hb : b < 2 ^ 31) (kt : a < b → AW M R E Z h kc ks tgt ls st) (kf : b ≤ a → AW M R E Z h kc ks (pc + 3) ls st) : AW M R E Z h kc ks pc ls (.int y :: .int x :: st) := by
  subst hx; subst hy
  exact aw_icmp_lt hd ht (fun q => kt ((nI_ltI ha hb).mp q)) (fun q => kf (by have h9 : ¬ (a < b) := (fun z => q ((nI_ltI ha hb).mpr z)); omega))
theorem awn_gt {x y : Int32} {off : Int} {tgt : Nat} (a b : Nat) (hd : decode M.2.1 pc = .ok (.if_icmp .gt off, 3)) (ht : (pc : Int) + off = (tgt : Int)) (hx : x = nI a) (hy : y = nI b) (ha : a < 2 ^ 31) (hb : b < 2 ^ 31) (kt : b < a → AW M R E Z h kc ks tgt ls st) (kf : a ≤ b → AW M R E Z h kc ks (pc + 3) ls st) : AW M R E Z h kc ks pc ls (.int y :: .int x :: st) := by
  subst hx; subst hy
  exact aw_icmp_gt hd ht (fun q => kt ((nI_ltI hb ha).mp q)) (fun q => kf (by have h9 : ¬ (b < a) := (fun z => q ((nI_ltI hb ha).mpr z)); omega))
theorem awn_le {x y : Int32} {off : Int} {tgt : Nat} (a b : Nat) (hd : decode M.2.1 pc = .ok (.if_icmp .le off, 3)) (ht : (pc : Int) + off = (tgt : Int)) (hx : x = nI a) (hy : y = nI b) (ha : a < 2 ^ 31) (hb : b < 2 ^ 31) (kt : a ≤ b → AW M R E Z h kc ks tgt ls st) (kf : b < a → AW M R E Z h kc ks (pc + 3) ls st) : AW M R E Z h kc ks pc ls (.int y :: .int x :: st) := by
  subst hx; subst hy
  exact aw_icmp_le hd ht (fun q => kt ((nI_leI ha hb).mp q)) (fun q => kf (by have h9 : ¬ (a ≤ b) := (fun z => q ((nI_leI ha hb).mpr z)); omega))
theorem awn_eq {x y : Int32} {off : Int} {tgt : Nat} (a b : Nat) (hd : decode M.2.1 pc = .ok (.if_icmp .eq off, 3)) (ht : (pc : Int) + off = (tgt : Int)) (hx : x = nI a) (hy : y = nI b) (ha : a < 2 ^ 31) (hb : b < 2 ^ 31) (kt : a = b → AW M R E Z h kc ks tgt ls st) (kf : ¬ a = b → AW M R E Z h kc ks (pc + 3) ls st) : AW M R E Z h kc ks pc ls (.int y :: .int x :: st) := by
  subst hx; subst hy
  exact aw_icmp_eq hd ht (fun q => kt ((nI_eq ha hb).mp q)) (fun q => kf (fun z => q ((nI_eq ha hb).mpr z)))
theorem awn_ne {x y : Int32} {off : Int} {tgt : Nat} (a b : Nat) (hd : decode M.2.1 pc = .ok (.if_icmp .ne off, 3)) (ht : (pc : Int) + off = (tgt : Int)) (hx : x = nI a) (hy : y = nI b) (ha : a < 2 ^ 31) (hb : b < 2 ^ 31) (kt : ¬ a = b → AW M R E Z h kc ks tgt ls st) (kf : a = b → AW M R E Z h kc ks (pc + 3) ls st) : AW M R E Z h kc ks pc ls (.int y :: .int x :: st) := by
  subst hx; subst hy
  exact aw_icmp_ne hd ht (fun q => kt (fun z => q ((nI_eq ha hb).mpr z))) (fun q => kf ((nI_eq ha hb).mp q))
end BR
/-- a loop: i goes up from i0 to n; X is what else changes -/
theorem lp_i {X : Type} (G V : Nat → X → Prop) (n : Nat) (hx : ∀ x, V n x → G n x) (hs : ∀ i x, i < n → V i x → (∀ x', V (i + 1) x' → G (i + 1) x') → G i x) : ∀ (k i : Nat) (x : X), i + k = n → V i x → G i x
  | 0, i, x, hk, hv => by
    have e : i = n := by omega
    subst e
    exact hx x hv
  | k + 1, i, x, hk, hv => hs i x (by omega) hv (fun x' hv' => lp_i G V n hx hs k (i + 1) x' (by omega) hv')
/-- a loop: i goes down to 0 (the place i + 1 stands for the counter i) -/
theorem lp_d {X : Type} (G V : Nat → X → Prop) (hx : ∀ x, V 0 x → G 0 x) (hs : ∀ i x, V (i + 1) x → (∀ x', V i x' → G i x') → G (i + 1) x) : ∀ (i : Nat) (x : X), V i x → G i x
  | 0, x, hv => hx x hv
  | i + 1, x, hv => hs i x hv (fun x' hv' => lp_d G V hx hs i x' hv')
set_option maxRecDepth 20000 in
theorem wc_H_max : Cond.code Lib.Math.max.name Lib.Math.max.code 2 (some .int) ∈ ax_T := ax_in 368 rfl rfl
set_option maxRecDepth 20000 in
theorem wc_H_min : Cond.code Lib.Math.min.name Lib.Math.min.code 2 (some .int) ∈ ax_T := ax_in 416 rfl rfl
set_option maxRecDepth 20000 in
theorem wc_O : Cond.code Lib.objectInit ⟨#[0xb1]⟩ 1 none ∈ ax_T := ax_in 46 rfl rfl
set_option maxHeartbeats 1000000 in
set_option maxRecDepth 20000 in
theorem c_V_within (h : ax_H) (v lo hi : Int32) : AD m_V_within r_V_within h [.int v, .int lo, .int hi] (some (.int (b2 (lo ≤ v ∧ v ≤ hi)))) h := by
  refine am_of (by decide) rfl (by first | decide | exact Nat.le_of_ble_eq_true rfl) ?_
  refine aw_iload_n (pc := 0) d_V_within_0 rfl rfl ?_
  refine aw_iload_n (pc := 1) d_V_within_1 rfl rfl ?_
  refine aw_icmp_lt (pc := 2) (tgt := 14) d_V_within_2 (by decide) (fun h2 => ?_) (fun h2 => ?_)
  · refine aw_iconst (pc := 14) (v := 0) d_V_within_14 (by decide) ?_
    refine aw_zret (pc := 15) d_V_within_15 rfl ft_0 ?_
    exact ⟨by rw [b2_0 (fun z => absurd z.1 (Int32.not_le.mpr h2))], rfl⟩
  · refine aw_iload_n (pc := 5) d_V_within_5 rfl rfl ?_
    refine aw_iload_n (pc := 6) d_V_within_6 rfl rfl ?_
    refine aw_icmp_gt (pc := 7) (tgt := 14) d_V_within_7 (by decide) (fun h7 => ?_) (fun h7 => ?_)
    · refine aw_iconst (pc := 14) (v := 0) d_V_within_14 (by decide) ?_
      refine aw_zret (pc := 15) d_V_within_15 rfl ft_0 ?_
      exact ⟨by rw [b2_0 (fun z => absurd z.2 (Int32.not_le.mpr h7))], rfl⟩
    · refine aw_iconst (pc := 10) (v := 1) d_V_within_10 (by decide) ?_
      refine aw_goto (pc := 11) (tgt := 15) d_V_within_11 (by decide) ?_
      refine aw_zret (pc := 15) d_V_within_15 rfl ft_1 ?_
      exact ⟨by rw [b2_1 ⟨Int32.not_lt.mp h2, Int32.not_lt.mp h7⟩], rfl⟩
set_option maxHeartbeats 1000000 in
set_option maxRecDepth 20000 in
theorem c_M_in (h : ax_H) (v lo hi : Int32) : AD m_M_in r_M_in h [.int v, .int lo, .int hi] (some (.int (b2 (lo ≤ v ∧ v ≤ hi)))) h := by
  refine am_of (by decide) rfl (by first | decide | exact Nat.le_of_ble_eq_true rfl) ?_
  refine aw_iload_n (pc := 0) d_M_in_0 rfl rfl ?_
  refine aw_iload_n (pc := 1) d_M_in_1 rfl rfl ?_
  refine aw_icmp_lt (pc := 2) (tgt := 14) d_M_in_2 (by decide) (fun h2 => ?_) (fun h2 => ?_)
  · refine aw_iconst (pc := 14) (v := 0) d_M_in_14 (by decide) ?_
    refine aw_zret (pc := 15) d_M_in_15 rfl ft_0 ?_
    exact ⟨by rw [b2_0 (fun z => absurd z.1 (Int32.not_le.mpr h2))], rfl⟩
  · refine aw_iload_n (pc := 5) d_M_in_5 rfl rfl ?_
    refine aw_iload_n (pc := 6) d_M_in_6 rfl rfl ?_
    refine aw_icmp_gt (pc := 7) (tgt := 14) d_M_in_7 (by decide) (fun h7 => ?_) (fun h7 => ?_)
    · refine aw_iconst (pc := 14) (v := 0) d_M_in_14 (by decide) ?_
      refine aw_zret (pc := 15) d_M_in_15 rfl ft_0 ?_
      exact ⟨by rw [b2_0 (fun z => absurd z.2 (Int32.not_le.mpr h7))], rfl⟩
    · refine aw_iconst (pc := 10) (v := 1) d_M_in_10 (by decide) ?_
      refine aw_goto (pc := 11) (tgt := 15) d_M_in_11 (by decide) ?_
      refine aw_zret (pc := 15) d_M_in_15 rfl ft_1 ?_
      exact ⟨by rw [b2_1 ⟨Int32.not_lt.mp h2, Int32.not_lt.mp h7⟩], rfl⟩
set_option maxHeartbeats 1000000 in
set_option maxRecDepth 20000 in
theorem c_V_hasBit (h : ax_H) (x n : Int32) : AD m_V_hasBit r_V_hasBit h [.int x, .int n] (some (.int (b2 (hb x n)))) h := by
  refine am_of (by decide) rfl (by first | decide | exact Nat.le_of_ble_eq_true rfl) ?_
  refine aw_iload_n (pc := 0) d_V_hasBit_0 rfl rfl ?_
  refine aw_iload_n (pc := 1) d_V_hasBit_1 rfl rfl ?_
  refine aw_ishr (pc := 2) d_V_hasBit_2 ?_
  refine aw_iconst (pc := 3) (v := 1) d_V_hasBit_3 (by decide) ?_
  refine aw_iand (pc := 4) d_V_hasBit_4 ?_
  refine aw_iconst (pc := 5) (v := 1) d_V_hasBit_5 (by decide) ?_
  refine aw_icmp_ne (pc := 6) (tgt := 13) d_V_hasBit_6 (by decide) (fun h6 => ?_) (fun h6 => ?_)
  · refine aw_iconst (pc := 13) (v := 0) d_V_hasBit_13 (by decide) ?_
    refine aw_zret (pc := 14) d_V_hasBit_14 rfl ft_0 ?_
    exact ⟨by rw [b2_0 (show ¬ hb x n from h6)], rfl⟩
  · refine aw_iconst (pc := 9) (v := 1) d_V_hasBit_9 (by decide) ?_
    refine aw_goto (pc := 10) (tgt := 14) d_V_hasBit_10 (by decide) ?_
    refine aw_zret (pc := 14) d_V_hasBit_14 rfl ft_1 ?_
    exact ⟨by rw [b2_1 (show hb x n from h6)], rfl⟩
set_option maxHeartbeats 1000000 in
set_option maxRecDepth 20000 in
theorem c_M_has (h : ax_H) (x n : Int32) : AD m_M_has r_M_has h [.int x, .int n] (some (.int (b2 (hb x n)))) h := by
  refine am_of (by decide) rfl (by first | decide | exact Nat.le_of_ble_eq_true rfl) ?_
  refine aw_iload_n (pc := 0) d_M_has_0 rfl rfl ?_
  refine aw_iload_n (pc := 1) d_M_has_1 rfl rfl ?_
  refine aw_ishr (pc := 2) d_M_has_2 ?_
  refine aw_iconst (pc := 3) (v := 1) d_M_has_3 (by decide) ?_
  refine aw_iand (pc := 4) d_M_has_4 ?_
  refine aw_iconst (pc := 5) (v := 1) d_M_has_5 (by decide) ?_
  refine aw_icmp_ne (pc := 6) (tgt := 13) d_M_has_6 (by decide) (fun h6 => ?_) (fun h6 => ?_)
  · refine aw_iconst (pc := 13) (v := 0) d_M_has_13 (by decide) ?_
    refine aw_zret (pc := 14) d_M_has_14 rfl ft_0 ?_
    exact ⟨by rw [b2_0 (show ¬ hb x n from h6)], rfl⟩
  · refine aw_iconst (pc := 9) (v := 1) d_M_has_9 (by decide) ?_
    refine aw_goto (pc := 10) (tgt := 14) d_M_has_10 (by decide) ?_
    refine aw_zret (pc := 14) d_M_has_14 rfl ft_1 ?_
    exact ⟨by rw [b2_1 (show hb x n from h6)], rfl⟩
