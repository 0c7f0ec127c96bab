/-! leaves: single bits, counts, kinds of signs -/
/-- how many of the first twelve -/
def cn (b : Nat) : Nat := fb_ct (fun h => b.testBit h) 12
theorem cn_le (b : Nat) : cn b ≤ 12 := fb_ct_le _ 12
/-- bit j of b put -/
def sb (b j : Nat) (on : Bool) : Nat := msk (fun h => if h = j then on else b.testBit h) 12
theorem sb_lt (b j : Nat) (on : Bool) : sb b j on < 4096 := msk_lt _ 12
theorem sb_on {b j : Nat} (hb : b < 4096) (hj : j < 12) : b ||| 2 ^ j = sb b j true := by
  apply msk_ext (n := 12) (or_lt hb hj)
  intro i hi
  rw [fb_bit_set]
  by_cases h : i = j
  · simp [h]
  · simp [h]
theorem sb_off {b j : Nat} (hb : b < 4096) (hj : j < 12) : nI b &&& (((1 : Int32) <<< (nI j &&& 31)) ^^^ (-1)) = nI (sb b j false) := by
  rw [sh1 (by omega), andn hb]
  congr 1
  apply msk_cong
  intro i hi
  rw [Nat.testBit_two_pow]
  by_cases h : i = j
  · simp [h]
  · simp [h, show ¬ j = i from fun z => h z.symm]
theorem sb_64 {b j : Nat} (hb : b < 64) : sb b j false < 64 := by
  apply Nat.lt_pow_two_of_testBit (n := 6)
  intro i hi
  rw [sb, msk_bit]
  by_cases h : i = j
  · simp [h]
  · rw [if_neg h, Nat.testBit_lt_two_pow (Nat.lt_of_lt_of_le hb (Nat.pow_le_pow_right (n := 2) (i := 6) (by decide) hi)), Bool.and_false]
theorem sb_twice {b j : Nat} (on : Bool) : sb (sb b j false) j on = sb b j on := by
  apply msk_cong
  intro i hi
  by_cases h : i = j
  · simp [h]
  · rw [if_neg h, if_neg h, sb, msk_bit, decide_eq_true hi, if_neg h, Bool.true_and]
theorem sb_same {b j : Nat} {on : Bool} (hb : b < 4096) (h : b.testBit j = on) : sb b j on = b := by
  symm
  apply msk_ext (n := 12) hb
  intro i hi
  by_cases e : i = j
  · subst e; rw [if_pos rfl]; exact h
  · rw [if_neg e]
set_option maxHeartbeats 1000000 in
set_option maxRecDepth 20000 in
theorem c_V_withBit {h : ax_H} {b j : Nat} {p : Prop} [Decidable p] (hb : b < 4096) (hj : j < 12) : AD m_V_withBit r_V_withBit h [.int (nI b), .int (nI j), .int (b2 p)] (some (.int (nI (sb b j (decide p))))) h := by
  refine am_of (by decide) rfl (by first | decide | exact Nat.le_of_ble_eq_true rfl) ?_
  refine aw_iload_n (pc := 0) d_V_withBit_0 rfl rfl ?_
  refine aw_bz (pc := 1) (tgt := 12) d_V_withBit_1 (by decide) (fun h1 => ?_) (fun h1 => ?_)
  · refine aw_iload_n (pc := 12) d_V_withBit_12 rfl rfl ?_
    refine aw_iconst (pc := 13) (v := 1) d_V_withBit_13 (by decide) ?_
    refine aw_iload_n (pc := 14) d_V_withBit_14 rfl rfl ?_
    refine aw_ishl (pc := 15) d_V_withBit_15 ?_
    refine aw_iconst (pc := 16) (v := (-1)) d_V_withBit_16 (by decide) ?_
    refine aw_ixor (pc := 17) d_V_withBit_17 ?_
    refine aw_iand (pc := 18) d_V_withBit_18 ?_
    refine aw_iret (pc := 19) d_V_withBit_19 rfl ?_
    exact ⟨by rw [decide_eq_false h1, sb_off hb hj], rfl⟩
  · refine aw_iload_n (pc := 4) d_V_withBit_4 rfl rfl ?_
    refine aw_iconst (pc := 5) (v := 1) d_V_withBit_5 (by decide) ?_
    refine aw_iload_n (pc := 6) d_V_withBit_6 rfl rfl ?_
    refine aw_ishl (pc := 7) d_V_withBit_7 ?_
    refine aw_ior (pc := 8) d_V_withBit_8 ?_
    refine aw_goto (pc := 9) (tgt := 19) d_V_withBit_9 (by decide) ?_
    refine aw_iret (pc := 19) d_V_withBit_19 rfl ?_
    exact ⟨by rw [decide_eq_true h1, or_bit (by omega), sb_on hb hj], rfl⟩
set_option maxHeartbeats 1000000 in
set_option maxRecDepth 20000 in
theorem c_V_withBit0 {h : ax_H} {b j : Nat} (hb : b < 4096) (hj : j < 12) : AD m_V_withBit r_V_withBit h [.int (nI b), .int (nI j), .int 0] (some (.int (nI (sb b j false)))) h := by
  refine am_of (by decide) rfl (by first | decide | exact Nat.le_of_ble_eq_true rfl) ?_
  refine aw_iload_n (pc := 0) d_V_withBit_0 rfl rfl ?_
  refine aw_if_eq (pc := 1) (tgt := 12) d_V_withBit_1 (by decide) (fun _ => ?_) (fun hh => absurd rfl hh)
  refine aw_iload_n (pc := 12) d_V_withBit_12 rfl rfl ?_
  refine aw_iconst (pc := 13) (v := 1) d_V_withBit_13 (by decide) ?_
  refine aw_iload_n (pc := 14) d_V_withBit_14 rfl rfl ?_
  refine aw_ishl (pc := 15) d_V_withBit_15 ?_
  refine aw_iconst (pc := 16) (v := (-1)) d_V_withBit_16 (by decide) ?_
  refine aw_ixor (pc := 17) d_V_withBit_17 ?_
  refine aw_iand (pc := 18) d_V_withBit_18 ?_
  refine aw_iret (pc := 19) d_V_withBit_19 rfl ?_
  exact ⟨by rw [sb_off hb hj], rfl⟩
set_option maxHeartbeats 1000000 in
set_option maxRecDepth 20000 in
theorem c_M_bits {h : ax_H} {b : Nat} (hb : b < 4096) : AD m_M_bits r_M_bits h [.int (nI b)] (some (.int (nI (cn b)))) h := by
  refine am_of (by decide) rfl (by first | decide | exact Nat.le_of_ble_eq_true rfl) ?_
  refine aw_iconst (pc := 0) (v := 0) d_M_bits_0 (by decide) ?_
  refine aw_istore_n (pc := 1) (ls' := [(0, _), (1, _)]) d_M_bits_1 rfl (by decide) rfl ?_
  refine aw_iconst (pc := 2) (v := 0) d_M_bits_2 (by decide) ?_
  refine aw_istore_n (pc := 3) (ls' := [(0, _), (1, _), (2, _)]) d_M_bits_3 rfl (by decide) rfl ?_
  refine lp_i (fun i c => AW m_M_bits r_M_bits ax_E0 (ax_Zm (fun q1 q2 => q1 = some (.int (nI (cn b))) ∧ q2 = h) 0 0) h 0 0 4 [(0, .int (nI b)), (1, .int (nI c)), (2, .int (nI i))] []) (fun i c => c = fb_ct (fun h => b.testBit h) i) 12 ?_ ?_ 12 0 0 (by omega) rfl
  · intro c hV
    refine aw_iload_n (pc := 4) d_M_bits_4 rfl rfl ?_
    refine aw_bipush (pc := 5) (v := 12) d_M_bits_5 (by decide) ?_
    refine awn_ge (pc := 7) (tgt := 24) (12) (12) d_M_bits_7 (by decide) rfl rfl (by omega) (by omega) (fun _ => ?_) (fun hh => absurd hh (by omega))
    refine aw_iload_n (pc := 24) d_M_bits_24 rfl rfl ?_
    refine aw_iret (pc := 25) d_M_bits_25 rfl ?_
    exact ⟨by rw [hV]; rfl, rfl⟩
  · intro i c hi hV ih
    refine aw_iload_n (pc := 4) d_M_bits_4 rfl rfl ?_
    refine aw_bipush (pc := 5) (v := 12) d_M_bits_5 (by decide) ?_
    refine awn_ge (pc := 7) (tgt := 24) (i) (12) d_M_bits_7 (by decide) rfl rfl (by omega) (by omega) (fun hh => absurd hh (by omega)) (fun _ => ?_)
    refine aw_iload_n (pc := 10) d_M_bits_10 rfl rfl ?_
    refine aw_iload_n (pc := 11) d_M_bits_11 rfl rfl ?_
    refine aw_iload_n (pc := 12) d_M_bits_12 rfl rfl ?_
    refine aw_ishr (pc := 13) d_M_bits_13 ?_
    refine aw_iconst (pc := 14) (v := 1) d_M_bits_14 (by decide) ?_
    refine aw_iand (pc := 15) d_M_bits_15 ?_
    refine aw_top (shr_bit (by omega) (by omega)) ?_
    refine aw_iadd (pc := 16) d_M_bits_16 ?_
    refine aw_top (nI_add _ _) ?_
    refine aw_istore_n (pc := 17) (ls' := [(0, _), (1, _), (2, _)]) d_M_bits_17 rfl (by decide) rfl ?_
    refine aw_incN (pc := 18) (ls' := [(0, _), (1, _), (2, _)]) (i := i) d_M_bits_18 rfl rfl (by decide) rfl ?_
    refine aw_goto (pc := 21) (tgt := 4) d_M_bits_21 (by decide) ?_
    exact ih _ (by rw [hV]; rfl)
def bc (x : Int32) : Int32 :=
  let s (y k : Int32) : Int32 := (y.toUInt32 >>> (k.toUInt32 &&& Int32.toUInt32 31)).toInt32
  let a := x - (s x 1 &&& 1431655765)
  let b := (a &&& 858993459) + (s a 2 &&& 858993459)
  let c := (b + s b 4) &&& 252645135
  let d := c + s c 8
  let e := d + s d 16
  e &&& 63
set_option maxRecDepth 200000 in
theorem bc_ok : ∀ b, b < 4096 → bc (nI b) = nI (cn b) := by decide +kernel
set_option maxHeartbeats 1000000 in
set_option maxRecDepth 20000 in
theorem c_B_bitCount {h : ax_H} {b : Nat} (hb : b < 4096) : AD m_B_bitCount r_B_bitCount h [.int (nI b)] (some (.int (nI (cn b)))) h := by
  refine am_of (by decide) rfl (by first | decide | exact Nat.le_of_ble_eq_true rfl) ?_
  refine aw_iload_n (pc := 0) d_B_bitCount_0 rfl rfl ?_
  refine aw_iload_n (pc := 1) d_B_bitCount_1 rfl rfl ?_
  refine aw_iconst (pc := 2) (v := 1) d_B_bitCount_2 (by decide) ?_
  refine aw_iushr (pc := 3) d_B_bitCount_3 ?_
  refine aw_ldcw (pc := 4) d_B_bitCount_4 lc_B_265 ?_
  refine aw_iand (pc := 7) d_B_bitCount_7 ?_
  refine aw_isub (pc := 8) d_B_bitCount_8 ?_
  refine aw_istore_n (pc := 9) (ls' := [(0, _)]) d_B_bitCount_9 rfl (by decide) rfl ?_
  refine aw_iload_n (pc := 10) d_B_bitCount_10 rfl rfl ?_
  refine aw_ldcw (pc := 11) d_B_bitCount_11 lc_B_266 ?_
  refine aw_iand (pc := 14) d_B_bitCount_14 ?_
  refine aw_iload_n (pc := 15) d_B_bitCount_15 rfl rfl ?_
  refine aw_iconst (pc := 16) (v := 2) d_B_bitCount_16 (by decide) ?_
  refine aw_iushr (pc := 17) d_B_bitCount_17 ?_
  refine aw_ldcw (pc := 18) d_B_bitCount_18 lc_B_266 ?_
  refine aw_iand (pc := 21) d_B_bitCount_21 ?_
  refine aw_iadd (pc := 22) d_B_bitCount_22 ?_
  refine aw_istore_n (pc := 23) (ls' := [(0, _)]) d_B_bitCount_23 rfl (by decide) rfl ?_
  refine aw_iload_n (pc := 24) d_B_bitCount_24 rfl rfl ?_
  refine aw_iload_n (pc := 25) d_B_bitCount_25 rfl rfl ?_
  refine aw_iconst (pc := 26) (v := 4) d_B_bitCount_26 (by decide) ?_
  refine aw_iushr (pc := 27) d_B_bitCount_27 ?_
  refine aw_iadd (pc := 28) d_B_bitCount_28 ?_
  refine aw_ldcw (pc := 29) d_B_bitCount_29 lc_B_267 ?_
  refine aw_iand (pc := 32) d_B_bitCount_32 ?_
  refine aw_istore_n (pc := 33) (ls' := [(0, _)]) d_B_bitCount_33 rfl (by decide) rfl ?_
  refine aw_iload_n (pc := 34) d_B_bitCount_34 rfl rfl ?_
  refine aw_iload_n (pc := 35) d_B_bitCount_35 rfl rfl ?_
  refine aw_bipush (pc := 36) (v := 8) d_B_bitCount_36 (by decide) ?_
  refine aw_iushr (pc := 38) d_B_bitCount_38 ?_
  refine aw_iadd (pc := 39) d_B_bitCount_39 ?_
  refine aw_istore_n (pc := 40) (ls' := [(0, _)]) d_B_bitCount_40 rfl (by decide) rfl ?_
  refine aw_iload_n (pc := 41) d_B_bitCount_41 rfl rfl ?_
  refine aw_iload_n (pc := 42) d_B_bitCount_42 rfl rfl ?_
  refine aw_bipush (pc := 43) (v := 16) d_B_bitCount_43 (by decide) ?_
  refine aw_iushr (pc := 45) d_B_bitCount_45 ?_
  refine aw_iadd (pc := 46) d_B_bitCount_46 ?_
  refine aw_istore_n (pc := 47) (ls' := [(0, _)]) d_B_bitCount_47 rfl (by decide) rfl ?_
  refine aw_iload_n (pc := 48) d_B_bitCount_48 rfl rfl ?_
  refine aw_bipush (pc := 49) (v := 63) d_B_bitCount_49 (by decide) ?_
  refine aw_iand (pc := 51) d_B_bitCount_51 ?_
  refine aw_iret (pc := 52) d_B_bitCount_52 rfl ?_
  exact ⟨congrArg (fun z => some (Value.int z)) (bc_ok b hb), rfl⟩
set_option maxHeartbeats 1000000 in
set_option maxRecDepth 20000 in
theorem c_M_isHouse (h : ax_H) (v : Int32) : AD m_M_isHouse r_M_isHouse h [.int v] (some (.int (b2 (0 ≤ v ∧ v ≤ 11)))) h := by
  refine am_of (by decide) rfl (by first | decide | exact Nat.le_of_ble_eq_true rfl) ?_
  refine aw_iload_n (pc := 0) d_M_isHouse_0 rfl rfl ?_
  refine aw_iconst (pc := 1) (v := 0) d_M_isHouse_1 (by decide) ?_
  refine aw_bipush (pc := 2) (v := 11) d_M_isHouse_2 (by decide) ?_
  refine aw_callS1 (pc := 4) (c_M_in _ _ _ _) ok_M_in d_M_isHouse_4 lm_M_52 rfl rfl ⟨by decide, by decide⟩ (Nat.le_of_ble_eq_true rfl) rfl rfl ⟨by decide, by decide⟩ ?_
  refine aw_zret (pc := 7) d_M_isHouse_7 rfl (ft_b2 _) ?_
  exact ⟨rfl, rfl⟩
set_option maxHeartbeats 1000000 in
set_option maxRecDepth 20000 in
theorem c_M_isLetter (h : ax_H) (v : Int32) : AD m_M_isLetter r_M_isLetter h [.int v] (some (.int (b2 (97 ≤ v ∧ v ≤ 108)))) h := by
  refine am_of (by decide) rfl (by first | decide | exact Nat.le_of_ble_eq_true rfl) ?_
  refine aw_iload_n (pc := 0) d_M_isLetter_0 rfl rfl ?_
  refine aw_bipush (pc := 1) (v := 97) d_M_isLetter_1 (by decide) ?_
  refine aw_bipush (pc := 3) (v := 108) d_M_isLetter_3 (by decide) ?_
  refine aw_callS1 (pc := 5) (c_M_in _ _ _ _) ok_M_in d_M_isLetter_5 lm_M_52 rfl rfl ⟨by decide, by decide⟩ (Nat.le_of_ble_eq_true rfl) rfl rfl ⟨by decide, by decide⟩ ?_
  refine aw_zret (pc := 8) d_M_isLetter_8 rfl (ft_b2 _) ?_
  exact ⟨rfl, rfl⟩
/-- the kind of a sign: 0 a house's letter, 1 a digit, 2 !, 3 ., 9 none -/
def kd (c : Nat) : Nat := if 97 ≤ c ∧ c < 109 then 0 else if 48 ≤ c ∧ c < 54 then 1 else if c = 33 then 2 else if c = 46 then 3 else 9
def kI (k : Nat) : Int32 := if k = 9 then -6 else nI k
/-- the house or letter that a sign names -/
def nb (c : Nat) : Nat := if 97 ≤ c ∧ c < 109 then c - 97 else if 48 ≤ c ∧ c < 54 then c - 48 else 0
theorem kd_0 {c : Nat} (h : 97 ≤ c ∧ c < 109) : kd c = 0 := if_pos h
theorem kd_1 {c : Nat} (h : 48 ≤ c ∧ c < 54) : kd c = 1 := by unfold kd; rw [if_neg (by omega), if_pos h]
theorem kd_2 : kd 33 = 2 := rfl
theorem kd_3 : kd 46 = 3 := rfl
theorem kd_9 {c : Nat} (h1 : ¬ (97 ≤ c ∧ c < 109)) (h2 : ¬ (48 ≤ c ∧ c < 54)) (h3 : ¬ c = 33) (h4 : ¬ c = 46) : kd c = 9 := by unfold kd; rw [if_neg h1, if_neg h2, if_neg h3, if_neg h4]
theorem nb_lt (c : Nat) : nb c < 12 := by
  unfold nb
  by_cases h1 : 97 ≤ c ∧ c < 109
  · rw [if_pos h1]; omega
  · rw [if_neg h1]
    by_cases h2 : 48 ≤ c ∧ c < 54
    · rw [if_pos h2]; omega
    · rw [if_neg h2]; omega
theorem nb_lt6 {c : Nat} (h : kd c = 1) : nb c < 6 := by
  unfold kd at h
  unfold nb
  by_cases h1 : 97 ≤ c ∧ c < 109
  · rw [if_pos h1] at h; omega
  · rw [if_neg h1] at h ⊢
    by_cases h2 : 48 ≤ c ∧ c < 54
    · rw [if_pos h2]; omega
    · rw [if_neg h2]; omega
set_option maxHeartbeats 1000000 in
set_option maxRecDepth 20000 in
theorem c_P_kindOf {h : ax_H} {c : Nat} (hc : c < 128) : AD m_P_kindOf r_P_kindOf h [.int (nI c)] (some (.int (kI (kd c)))) h := by
  refine am_of (by decide) rfl (by first | decide | exact Nat.le_of_ble_eq_true rfl) ?_
  have key14 : ¬ (97 ≤ c ∧ c < 109) → AW m_P_kindOf r_P_kindOf ax_E0 (ax_Zm (fun q1 q2 => q1 = some (.int (kI (kd c))) ∧ q2 = h) 0 0) h 0 0 14 [(0, .int (nI c))] [] := by
    intro hn
    have key28 : ¬ (48 ≤ c ∧ c < 54) → AW m_P_kindOf r_P_kindOf ax_E0 (ax_Zm (fun q1 q2 => q1 = some (.int (kI (kd c))) ∧ q2 = h) 0 0) h 0 0 28 [(0, .int (nI c))] [] := by
      intro hn2
      refine aw_iload_n (pc := 28) d_P_kindOf_28 rfl rfl ?_
      refine aw_bipush (pc := 29) (v := 33) d_P_kindOf_29 (by decide) ?_
      refine awn_ne (pc := 31) (tgt := 36) (c) (33) d_P_kindOf_31 (by decide) rfl rfl (by omega) (by omega) (fun h31 => ?_) (fun h31 => ?_)
      · refine aw_iload_n (pc := 36) d_P_kindOf_36 rfl rfl ?_
        refine aw_bipush (pc := 37) (v := 46) d_P_kindOf_37 (by decide) ?_
        refine awn_ne (pc := 39) (tgt := 46) (c) (46) d_P_kindOf_39 (by decide) rfl rfl (by omega) (by omega) (fun h39 => ?_) (fun h39 => ?_)
        · refine aw_bipush (pc := 46) (v := (-6)) d_P_kindOf_46 (by decide) ?_
          refine aw_iret (pc := 48) d_P_kindOf_48 rfl ?_
          exact ⟨by rw [kd_9 hn hn2 h31 h39]; rfl, rfl⟩
        · refine aw_iconst (pc := 42) (v := 3) d_P_kindOf_42 (by decide) ?_
          refine aw_goto (pc := 43) (tgt := 48) d_P_kindOf_43 (by decide) ?_
          refine aw_iret (pc := 48) d_P_kindOf_48 rfl ?_
          exact ⟨by rw [h39]; rfl, rfl⟩
      · refine aw_iconst (pc := 34) (v := 2) d_P_kindOf_34 (by decide) ?_
        refine aw_iret (pc := 35) d_P_kindOf_35 rfl ?_
        exact ⟨by rw [h31]; rfl, rfl⟩
    refine aw_iload_n (pc := 14) d_P_kindOf_14 rfl rfl ?_
    refine aw_bipush (pc := 15) (v := 48) d_P_kindOf_15 (by decide) ?_
    refine awn_lt (pc := 17) (tgt := 28) (c) (48) d_P_kindOf_17 (by decide) rfl rfl (by omega) (by omega) (fun h17 => ?_) (fun h17 => ?_)
    · exact key28 (by omega)
    · refine aw_iload_n (pc := 20) d_P_kindOf_20 rfl rfl ?_
      refine aw_bipush (pc := 21) (v := 54) d_P_kindOf_21 (by decide) ?_
      refine awn_ge (pc := 23) (tgt := 28) (c) (54) d_P_kindOf_23 (by decide) rfl rfl (by omega) (by omega) (fun h23 => ?_) (fun h23 => ?_)
      · exact key28 (by omega)
      · refine aw_iconst (pc := 26) (v := 1) d_P_kindOf_26 (by decide) ?_
        refine aw_iret (pc := 27) d_P_kindOf_27 rfl ?_
        exact ⟨by rw [kd_1 ⟨h17, h23⟩]; rfl, rfl⟩
  refine aw_iload_n (pc := 0) d_P_kindOf_0 rfl rfl ?_
  refine aw_bipush (pc := 1) (v := 97) d_P_kindOf_1 (by decide) ?_
  refine awn_lt (pc := 3) (tgt := 14) (c) (97) d_P_kindOf_3 (by decide) rfl rfl (by omega) (by omega) (fun h3 => ?_) (fun h3 => ?_)
  · exact key14 (by omega)
  · refine aw_iload_n (pc := 6) d_P_kindOf_6 rfl rfl ?_
    refine aw_bipush (pc := 7) (v := 109) d_P_kindOf_7 (by decide) ?_
    refine awn_ge (pc := 9) (tgt := 14) (c) (109) d_P_kindOf_9 (by decide) rfl rfl (by omega) (by omega) (fun h9 => ?_) (fun h9 => ?_)
    · exact key14 (by omega)
    · refine aw_iconst (pc := 12) (v := 0) d_P_kindOf_12 (by decide) ?_
      refine aw_iret (pc := 13) d_P_kindOf_13 rfl ?_
      exact ⟨by rw [kd_0 ⟨h3, h9⟩]; rfl, rfl⟩
theorem kI_eq {k j : Nat} (hk : k ≤ 9) (hj : j < 9) : kI k = nI j ↔ k = j := by
  have : ∀ k, k < 10 → ∀ j, j < 9 → (kI k = nI j ↔ k = j) := by decide +kernel
  exact this k (by omega) j hj
theorem kd_le (c : Nat) : kd c ≤ 9 := by
  unfold kd
  by_cases h1 : 97 ≤ c ∧ c < 109
  · rw [if_pos h1]; omega
  · rw [if_neg h1]
    by_cases h2 : 48 ≤ c ∧ c < 54
    · rw [if_pos h2]; omega
    · rw [if_neg h2]
      by_cases h3 : c = 33
      · rw [if_pos h3]; omega
      · rw [if_neg h3]
        by_cases h4 : c = 46
        · rw [if_pos h4]; omega
        · rw [if_neg h4]; omega
theorem kd_is0 {c : Nat} (h : kd c = 0) : 97 ≤ c ∧ c < 109 := by
  rcases Decidable.em (97 ≤ c ∧ c < 109) with q | q
  · exact q
  · exfalso
    unfold kd at h
    rw [if_neg q] at h
    by_cases h2 : 48 ≤ c ∧ c < 54
    · rw [if_pos h2] at h; omega
    · rw [if_neg h2] at h
      by_cases h3 : c = 33
      · rw [if_pos h3] at h; omega
      · rw [if_neg h3] at h
        by_cases h4 : c = 46
        · rw [if_pos h4] at h; omega
        · rw [if_neg h4] at h; omega
theorem kd_is1 {c : Nat} (h : kd c = 1) : 48 ≤ c ∧ c < 54 := by
  rcases Decidable.em (48 ≤ c ∧ c < 54) with q | q
  · exact q
  · exfalso
    unfold kd at h
    by_cases h1 : 97 ≤ c ∧ c < 109
    · rw [if_pos h1] at h; omega
    · rw [if_neg h1, if_neg q] at h
      by_cases h3 : c = 33
      · rw [if_pos h3] at h; omega
      · rw [if_neg h3] at h
        by_cases h4 : c = 46
        · rw [if_pos h4] at h; omega
        · rw [if_neg h4] at h; omega
set_option maxHeartbeats 1000000 in
set_option maxRecDepth 20000 in
theorem c_P_numberOf {h : ax_H} {c : Nat} (hc : c < 128) : AD m_P_numberOf r_P_numberOf h [.int (nI c)] (some (.int (nI (nb c)))) h := by
  refine am_of (by decide) rfl (by first | decide | exact Nat.le_of_ble_eq_true rfl) ?_
  have hk := kd_le c
  refine aw_iload_n (pc := 0) d_P_numberOf_0 rfl rfl ?_
  refine aw_callS1 (pc := 1) (c_P_kindOf hc) ok_P_kindOf d_P_numberOf_1 lm_P_31 rfl rfl ⟨by decide, by decide⟩ (Nat.le_of_ble_eq_true rfl) rfl rfl ⟨by decide, by decide⟩ ?_
  refine aw_istore_n (pc := 4) (ls' := [(0, _), (1, _)]) d_P_numberOf_4 rfl (by decide) rfl ?_
  refine aw_iload_n (pc := 5) d_P_numberOf_5 rfl rfl ?_
  refine aw_if_ne (pc := 6) (tgt := 14) d_P_numberOf_6 (by decide) (fun h6 => ?_) (fun h6 => ?_)
  · have h6 : ¬ kd c = 0 := fun z => h6 (by rw [z]; rfl)
    refine aw_iload_n (pc := 14) d_P_numberOf_14 rfl rfl ?_
    refine aw_iconst (pc := 15) (v := 1) d_P_numberOf_15 (by decide) ?_
    refine aw_icmp_ne (pc := 16) (tgt := 26) d_P_numberOf_16 (by decide) (fun h16 => ?_) (fun h16 => ?_)
    · have h16 : ¬ kd c = 1 := fun z => h16 (by rw [z]; rfl)
      refine aw_iconst (pc := 26) (v := 0) d_P_numberOf_26 (by decide) ?_
      refine aw_iret (pc := 27) d_P_numberOf_27 rfl ?_
      refine ⟨?_, rfl⟩
      have h1 : ¬ (97 ≤ c ∧ c < 109) := fun z => h6 (kd_0 z)
      have h2 : ¬ (48 ≤ c ∧ c < 54) := fun z => h16 (kd_1 z)
      unfold nb
      rw [if_neg h1, if_neg h2]; rfl
    · have h16 : kd c = 1 := (kI_eq hk (by omega)).mp h16
      have h1 : ¬ (97 ≤ c ∧ c < 109) := fun z => h6 (kd_0 z)
      have h2 := kd_is1 h16
      refine aw_iload_n (pc := 19) d_P_numberOf_19 rfl rfl ?_
      refine aw_bipush (pc := 20) (v := 48) d_P_numberOf_20 (by decide) ?_
      refine aw_isub (pc := 22) d_P_numberOf_22 ?_
      refine aw_goto (pc := 23) (tgt := 27) d_P_numberOf_23 (by decide) ?_
      refine aw_iret (pc := 27) d_P_numberOf_27 rfl ?_
      refine ⟨?_, rfl⟩
      unfold nb
      rw [if_neg h1, if_pos h2]
      exact congrArg (fun z => some (Value.int z)) (pk_sub (a := c) (b := 48) h2.1)
  · have h6 : kd c = 0 := (kI_eq hk (by omega)).mp h6
    have h1 := kd_is0 h6
    refine aw_iload_n (pc := 9) d_P_numberOf_9 rfl rfl ?_
    refine aw_bipush (pc := 10) (v := 97) d_P_numberOf_10 (by decide) ?_
    refine aw_isub (pc := 12) d_P_numberOf_12 ?_
    refine aw_iret (pc := 13) d_P_numberOf_13 rfl ?_
    refine ⟨?_, rfl⟩
    unfold nb
    rw [if_pos h1]
    exact congrArg (fun z => some (Value.int z)) (pk_sub (a := c) (b := 97) h1.1)
/-- the kind of an act drawn -/
def dk (d : Nat) : Nat := if d = 0 then 3 else if d = 1 then 2 else if d ≤ 4 then 0 else 1
set_option maxHeartbeats 1000000 in
set_option maxRecDepth 20000 in
theorem c_S_drawnKind {h : ax_H} {d : Nat} (hd : d < 8) : AD m_S_drawnKind r_S_drawnKind h [.int (nI d)] (some (.int (nI (dk d)))) h := by
  refine am_of (by decide) rfl (by first | decide | exact Nat.le_of_ble_eq_true rfl) ?_
  refine aw_iload_n (pc := 0) d_S_drawnKind_0 rfl rfl ?_
  refine aw_if_ne (pc := 1) (tgt := 6) d_S_drawnKind_1 (by decide) (fun h1 => ?_) (fun h1 => ?_)
  · have h1 : ¬ d = 0 := fun z => h1 (by rw [z]; rfl)
    refine aw_iload_n (pc := 6) d_S_drawnKind_6 rfl rfl ?_
    refine aw_iconst (pc := 7) (v := 1) d_S_drawnKind_7 (by decide) ?_
    refine awn_ne (pc := 8) (tgt := 13) (d) (1) d_S_drawnKind_8 (by decide) rfl rfl (by omega) (by omega) (fun h8 => ?_) (fun h8 => ?_)
    · refine aw_iload_n (pc := 13) d_S_drawnKind_13 rfl rfl ?_
      refine aw_iconst (pc := 14) (v := 4) d_S_drawnKind_14 (by decide) ?_
      refine awn_gt (pc := 15) (tgt := 22) (d) (4) d_S_drawnKind_15 (by decide) rfl rfl (by omega) (by omega) (fun h15 => ?_) (fun h15 => ?_)
      · refine aw_iconst (pc := 22) (v := 1) d_S_drawnKind_22 (by decide) ?_
        refine aw_iret (pc := 23) d_S_drawnKind_23 rfl ?_
        exact ⟨by unfold dk; rw [if_neg h1, if_neg h8, if_neg (by omega)]; rfl, rfl⟩
      · refine aw_iconst (pc := 18) (v := 0) d_S_drawnKind_18 (by decide) ?_
        refine aw_goto (pc := 19) (tgt := 23) d_S_drawnKind_19 (by decide) ?_
        refine aw_iret (pc := 23) d_S_drawnKind_23 rfl ?_
        exact ⟨by unfold dk; rw [if_neg h1, if_neg h8, if_pos h15]; rfl, rfl⟩
    · refine aw_iconst (pc := 11) (v := 2) d_S_drawnKind_11 (by decide) ?_
      refine aw_iret (pc := 12) d_S_drawnKind_12 rfl ?_
      exact ⟨by rw [h8]; rfl, rfl⟩
  · have h1 : d = 0 := (nI_eq (by omega) (by omega)).mp h1
    refine aw_iconst (pc := 4) (v := 3) d_S_drawnKind_4 (by decide) ?_
    refine aw_iret (pc := 5) d_S_drawnKind_5 rfl ?_
    exact ⟨by rw [h1]; rfl, rfl⟩

