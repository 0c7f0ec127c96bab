/-! thirds, the least walk, where it was, whom to ask: the class's listener -/
def one1 (T : town) (ls w e l : Nat) : Bool := !ls.testBit l || (List.range (e + 1 - w)).any (fun j => (hs T (w + j)).testBit (T 2 l))
theorem all1_t {T : town} {ls w e : Nat} (h : ∀ l, l < 6 → one1 T ls w e l = true) : all1 T ls w e = true := List.all_eq_true.mpr (fun l hl => h l (List.mem_range.mp hl))
theorem all1_f {T : town} {ls w e l : Nat} (hl : l < 6) (h : ¬ one1 T ls w e l = true) : ¬ all1 T ls w e = true := fun z => h (List.all_eq_true.mp z l (List.mem_range.mpr hl))
theorem any_w {p : Nat → Bool} {w e : Nat} : (List.range (e + 1 - w)).any (fun j => p (w + j)) = true ↔ ∃ a, w ≤ a ∧ a ≤ e ∧ p a = true := by
  rw [List.any_eq_true]
  constructor
  · rintro ⟨j, hj, hp⟩
    have := List.mem_range.mp hj
    exact ⟨w + j, by omega, by omega, hp⟩
  · rintro ⟨a, h1, h2, h3⟩
    exact ⟨a - w, List.mem_range.mpr (by omega), by rw [show w + (a - w) = a by omega]; exact h3⟩
set_option maxRecDepth 100000 in
theorem str_bit : ∀ w, w < 12 → ∀ e, e < 12 → w ≤ e → ∀ i, i < 12 → (2 ^ (e + 1) - 2 ^ w).testBit i = decide (w ≤ i ∧ i ≤ e) := by decide +kernel
theorem and_ne0 {b m : Nat} (hb : b < 4096) : ¬ b &&& m = 0 ↔ ∃ i, i < 12 ∧ b.testBit i = true ∧ m.testBit i = true := by
  constructor
  · intro h
    rcases Classical.em (∃ i, i < 12 ∧ b.testBit i = true ∧ m.testBit i = true) with q | q
    · exact q
    · exfalso
      apply h
      apply Nat.eq_of_testBit_eq
      intro i
      rw [Nat.testBit_and, Nat.zero_testBit]
      by_cases hi : i < 12
      · cases h1 : b.testBit i with
        | false => rfl
        | true =>
          cases h2 : m.testBit i with
          | false => rfl
          | true => exact absurd ⟨i, hi, h1, h2⟩ q
      · rw [Nat.testBit_lt_two_pow (Nat.lt_of_lt_of_le hb (Nat.pow_le_pow_right (n := 2) (i := 12) (by decide) (by omega))), Bool.false_and]
  · rintro ⟨i, -, h1, h2⟩ h
    have := congrArg (fun z => z.testBit i) h
    simp only [Nat.testBit_and, Nat.zero_testBit, h1, h2] at this
    cases this
theorem sub_and {b m : Nat} (hm : m < 4096) : b &&& m = m ↔ ∀ i, i < 12 → m.testBit i = true → b.testBit i = true := by
  constructor
  · intro h i hi h1
    have := congrArg (fun z => z.testBit i) h
    simp only [Nat.testBit_and, h1] at this
    cases h2 : b.testBit i with
    | true => rfl
    | false => rw [h2] at this; cases this
  · intro h
    apply Nat.eq_of_testBit_eq
    intro i
    rw [Nat.testBit_and]
    by_cases hi : i < 12
    · cases h1 : m.testBit i with
      | false => rw [Bool.and_false]
      | true => rw [h i hi h1]; rfl
    · rw [Nat.testBit_lt_two_pow (Nat.lt_of_lt_of_le hm (Nat.pow_le_pow_right (n := 2) (i := 12) (by decide) (by omega))), Bool.and_false]
theorem any_r {n : Nat} {p : Nat → Bool} : (List.range n).any p = true ↔ ∃ i, i < n ∧ p i = true := by
  rw [List.any_eq_true]
  exact ⟨fun ⟨i, h1, h2⟩ => ⟨i, List.mem_range.mp h1, h2⟩, fun ⟨i, h1, h2⟩ => ⟨i, List.mem_range.mpr h1, h2⟩⟩
theorem all_r {n : Nat} {p : Nat → Bool} : (List.range n).all p = true ↔ ∀ i, i < n → p i = true := by
  rw [List.all_eq_true]
  exact ⟨fun h i hi => h i (List.mem_range.mpr hi), fun h i hi => h i (List.mem_range.mp hi)⟩
theorem hm_lt (T : town) : hm T < 4096 := msk_lt _ 12
theorem mm_lt (T : town) : mm T < 4096 := msk_lt _ 12
theorem hm_bit (T : town) {h : Nat} (hh : h < 12) : (hm T).testBit h = true ↔ ∃ i, i < T 6 7 ∧ T 7 i = h ∧ T 8 i = 1 := by
  rw [hm, msk_bit, decide_eq_true hh, Bool.true_and, any_r]
  constructor
  · rintro ⟨i, h1, h2⟩
    simp only [Bool.and_eq_true, beq_iff_eq] at h2
    exact ⟨i, h1, h2.1, h2.2⟩
  · rintro ⟨i, h1, h2, h3⟩
    exact ⟨i, h1, by simp [h2, h3]⟩
theorem mm_bit (T : town) {h : Nat} (hh : h < 12) : (mm T).testBit h = true ↔ ∃ i, i < T 6 7 ∧ T 7 i = h ∧ T 8 i = 0 := by
  rw [mm, msk_bit, decide_eq_true hh, Bool.true_and, any_r]
  constructor
  · rintro ⟨i, h1, h2⟩
    simp only [Bool.and_eq_true, beq_iff_eq] at h2
    exact ⟨i, h1, h2.1, h2.2⟩
  · rintro ⟨i, h1, h2, h3⟩
    exact ⟨i, h1, by simp [h2, h3]⟩
theorem ftt_iff {T : town} (hT : okT T) (a : Nat) : ftt T a = true ↔ (hs T a &&& hm T = hm T) ∧ hs T a &&& mm T = 0 := by
  have hns := hT.2.2.2.2.2.2.2.2.2.2.1
  have hsg := hT.2.2.2.2.2.2.2.2.2.2.2
  unfold ftt
  rw [all_r, sub_and (hm_lt T)]
  constructor
  · intro h
    refine ⟨fun i hi h1 => ?_, ?_⟩
    · obtain ⟨j, g1, g2, g3⟩ := (hm_bit T hi).mp h1
      have := h j g1
      rw [g2, g3] at this
      simpa using this
    · rcases Decidable.em (hs T a &&& mm T = 0) with q | q
      · exact q
      · exfalso
        obtain ⟨i, hi, h1, h2⟩ := (and_ne0 (hs_lt T a)).mp q
        obtain ⟨j, g1, g2, g3⟩ := (mm_bit T hi).mp h2
        have := h j g1
        rw [g2, g3, h1] at this
        cases this
  · rintro ⟨h1, h2⟩ i hi
    have hb := hsg i (by omega)
    rcases (show T 8 i = 0 ∨ T 8 i = 1 by omega) with e | e
    · rw [e]
      cases h3 : (hs T a).testBit (T 7 i) with
      | false => rfl
      | true => exact absurd h2 ((and_ne0 (hs_lt T a)).mpr ⟨T 7 i, hb.1, h3, (mm_bit T hb.1).mpr ⟨i, hi, rfl, e⟩⟩)
    · rw [e, h1 (T 7 i) hb.1 ((hm_bit T hb.1).mpr ⟨i, hi, rfl, e⟩)]
      rfl
theorem cn_sub (a b : Nat) : cn (a &&& b) ≤ cn a := fb_ct_sub (fun k _ h => by rw [Nat.testBit_and] at h; exact (Bool.and_eq_true _ _ ▸ h).1)
theorem wrs_le (T : town) (h : Nat) : wrs T h ≤ cn (atS T) := by
  have := cn_sub (atS T) (pf T h)
  unfold wrs
  omega
theorem ak_lt (T : town) : ∀ n q, ak T n = some q → q.1 < n ∧ q.2 ≤ 12
  | 0, q, e => by cases e
  | n + 1, q, e => by
    unfold ak at e
    split at e
    · cases e
      have h1 := wrs_le T n
      have h2 := cn_le (atS T)
      exact ⟨by show n < n + 1; omega, by show wrs T n ≤ 12; omega⟩
    · have := ak_lt T n q e
      omega
theorem th_code (p q r : Nat) : (10000 : Int32) * nI p + 100 * nI q + nI r = nI (10000 * p + 100 * q + r) := by
  rw [show (10000 : Int32) = nI 10000 from rfl, show (100 : Int32) = nI 100 from rfl, pk_mul, pk_mul, nI_add, nI_add]
section LISTEN2
variable {A : Nat → List Int32} {I : Nat → Nat → Int32} {J : Nat → List Int64} {U : Nat → Nat → Int64} {T : town}
set_option maxHeartbeats 1000000 in
set_option maxRecDepth 20000 in
theorem c_L_thirdsFor (h32 : A 32 = lst 12 (hs T)) {h : Nat} (hh : h < 12) {p : Prop} [Decidable p] : AD m_L_thirdsFor r_L_thirdsFor (HH A I J U) [.ref 31, .int (nI h), .int (b2 p)] (some (.int (if p then nI (th4 T h).1 else oI (th4 T h).2))) (HH A I J U) := by
  refine am_of (by decide) rfl (by first | decide | exact Nat.le_of_ble_eq_true rfl) ?_
  refine aw_iconst (pc := 0) (v := 0) d_L_thirdsFor_0 (by decide) ?_
  refine aw_istore_n (pc := 1) (ls' := [(0, _), (1, _), (2, _), (3, _)]) d_L_thirdsFor_1 rfl (by decide) rfl ?_
  refine aw_bipush (pc := 2) (v := (-6)) d_L_thirdsFor_2 (by decide) ?_
  refine aw_istore (pc := 4) (ls' := [(0, _), (1, _), (2, _), (3, _), (4, _)]) d_L_thirdsFor_4 (by decide) rfl ?_
  refine aw_iconst (pc := 6) (v := 0) d_L_thirdsFor_6 (by decide) ?_
  refine aw_istore (pc := 7) (ls' := [(0, _), (1, _), (2, _), (3, _), (4, _), (5, _)]) d_L_thirdsFor_7 (by decide) rfl ?_
  refine lp_i (fun i (x : Nat × Option Nat) => AW m_L_thirdsFor r_L_thirdsFor ax_E0 (ax_Zm (fun q1 q2 => q1 = some (.int (if p then nI (th4 T h).1 else oI (th4 T h).2)) ∧ q2 = HH A I J U) 0 0) (HH A I J U) 0 0 9 [(0, .ref 31), (1, .int (nI h)), (2, .int (b2 p)), (3, .int (nI x.1)), (4, .int (oI x.2)), (5, .int (nI i))] []) (fun i x => th4 T h = fd (th3 T h) (12 - i) i x ∧ x.1 ≤ 144 * i) 12 ?_ ?_ 12 0 (0, none) (by omega) ⟨rfl, by omega⟩
  · rintro ⟨n, fs⟩ ⟨hV, -⟩
    rw [fd_0] at hV
    refine aw_iload (pc := 9) d_L_thirdsFor_9 rfl ?_
    refine aw_bipush (pc := 11) (v := 12) d_L_thirdsFor_11 (by decide) ?_
    refine awn_ge (pc := 13) (tgt := 112) (12) (12) d_L_thirdsFor_13 (by decide) rfl rfl (by omega) (by omega) (fun _ => ?_) (fun hh => absurd hh (by omega))
    refine aw_iload_n (pc := 112) d_L_thirdsFor_112 rfl rfl ?_
    refine aw_bz (pc := 113) (tgt := 120) d_L_thirdsFor_113 (by decide) (fun h113 => ?_) (fun h113 => ?_)
    · refine aw_iload (pc := 120) d_L_thirdsFor_120 rfl ?_
      refine aw_iret (pc := 122) d_L_thirdsFor_122 rfl ?_
      exact ⟨by rw [if_neg h113, hV], rfl⟩
    · refine aw_iload_n (pc := 116) d_L_thirdsFor_116 rfl rfl ?_
      refine aw_goto (pc := 117) (tgt := 122) d_L_thirdsFor_117 (by decide) ?_
      refine aw_iret (pc := 122) d_L_thirdsFor_122 rfl ?_
      exact ⟨by rw [if_pos h113, hV], rfl⟩
  · rintro i x hi ⟨hV, hn⟩ ih
    rw [fd_s _ hi] at hV
    refine aw_iload (pc := 9) d_L_thirdsFor_9 rfl ?_
    refine aw_bipush (pc := 11) (v := 12) d_L_thirdsFor_11 (by decide) ?_
    refine awn_ge (pc := 13) (tgt := 112) (i) (12) d_L_thirdsFor_13 (by decide) rfl rfl (by omega) (by omega) (fun hh => absurd hh (by omega)) (fun _ => ?_)
    refine aw_iload (pc := 16) d_L_thirdsFor_16 rfl ?_
    refine aw_istore (pc := 18) (ls' := [(0, _), (1, _), (2, _), (3, _), (4, _), (5, _), (6, _)]) d_L_thirdsFor_18 (by decide) rfl ?_
    refine lp_i (fun j (y : Nat × Option Nat) => AW m_L_thirdsFor r_L_thirdsFor ax_E0 (ax_Zm (fun q1 q2 => q1 = some (.int (if p then nI (th4 T h).1 else oI (th4 T h).2)) ∧ q2 = HH A I J U) 0 0) (HH A I J U) 0 0 20 [(0, .ref 31), (1, .int (nI h)), (2, .int (b2 p)), (3, .int (nI y.1)), (4, .int (oI y.2)), (5, .int (nI i)), (6, .int (nI j))] []) (fun j y => th4 T h = fd (th3 T h) (12 - (i + 1)) (i + 1) (fd (th2 T h i) (12 - j) j y) ∧ y.1 ≤ 144 * i + 12 * j) 12 ?_ ?_ (12 - i) i x (by omega) ⟨hV, by omega⟩
    · rintro y ⟨hV2, hn2⟩
      rw [fd_0] at hV2
      refine aw_iload (pc := 20) d_L_thirdsFor_20 rfl ?_
      refine aw_bipush (pc := 22) (v := 12) d_L_thirdsFor_22 (by decide) ?_
      refine awn_ge (pc := 24) (tgt := 106) (12) (12) d_L_thirdsFor_24 (by decide) rfl rfl (by omega) (by omega) (fun _ => ?_) (fun hh => absurd hh (by omega))
      refine aw_incN (pc := 106) (ls' := [(0, _), (1, _), (2, _), (3, _), (4, _), (5, _), (6, _)]) (i := i) d_L_thirdsFor_106 rfl rfl (by decide) rfl ?_
      refine aw_goto (pc := 109) (tgt := 9) d_L_thirdsFor_109 (by decide) ?_
      refine aw_sub (ls' := [(0, _), (1, _), (2, _), (3, _), (4, _), (5, _)]) [0, 1, 2, 3, 4, 5] rfl ?_
      exact ih y ⟨hV2, by omega⟩
    · rintro j y hj ⟨hV2, hn2⟩ ih2
      rw [fd_s _ hj] at hV2
      refine aw_iload (pc := 20) d_L_thirdsFor_20 rfl ?_
      refine aw_bipush (pc := 22) (v := 12) d_L_thirdsFor_22 (by decide) ?_
      refine awn_ge (pc := 24) (tgt := 106) (j) (12) d_L_thirdsFor_24 (by decide) rfl rfl (by omega) (by omega) (fun hh => absurd hh (by omega)) (fun _ => ?_)
      refine aw_iload (pc := 27) d_L_thirdsFor_27 rfl ?_
      refine aw_istore (pc := 29) (ls' := [(0, _), (1, _), (2, _), (3, _), (4, _), (5, _), (6, _), (7, _)]) d_L_thirdsFor_29 (by decide) rfl ?_
      refine lp_i (fun r (z : Nat × Option Nat) => AW m_L_thirdsFor r_L_thirdsFor ax_E0 (ax_Zm (fun q1 q2 => q1 = some (.int (if p then nI (th4 T h).1 else oI (th4 T h).2)) ∧ q2 = HH A I J U) 0 0) (HH A I J U) 0 0 31 [(0, .ref 31), (1, .int (nI h)), (2, .int (b2 p)), (3, .int (nI z.1)), (4, .int (oI z.2)), (5, .int (nI i)), (6, .int (nI j)), (7, .int (nI r))] []) (fun r z => th4 T h = fd (th3 T h) (12 - (i + 1)) (i + 1) (fd (th2 T h i) (12 - (j + 1)) (j + 1) (fd (th1 T h i j) (12 - r) r z)) ∧ z.1 ≤ 144 * i + 12 * j + r) 12 ?_ ?_ (12 - j) j y (by omega) ⟨hV2, by omega⟩
      · rintro z ⟨hV3, hn3⟩
        rw [fd_0] at hV3
        refine aw_iload (pc := 31) d_L_thirdsFor_31 rfl ?_
        refine aw_bipush (pc := 33) (v := 12) d_L_thirdsFor_33 (by decide) ?_
        refine awn_ge (pc := 35) (tgt := 100) (12) (12) d_L_thirdsFor_35 (by decide) rfl rfl (by omega) (by omega) (fun _ => ?_) (fun hh => absurd hh (by omega))
        refine aw_incN (pc := 100) (ls' := [(0, _), (1, _), (2, _), (3, _), (4, _), (5, _), (6, _), (7, _)]) (i := j) d_L_thirdsFor_100 rfl rfl (by decide) rfl ?_
        refine aw_goto (pc := 103) (tgt := 20) d_L_thirdsFor_103 (by decide) ?_
        refine aw_sub (ls' := [(0, _), (1, _), (2, _), (3, _), (4, _), (5, _), (6, _)]) [0, 1, 2, 3, 4, 5, 6] rfl ?_
        exact ih2 z ⟨hV3, by omega⟩
      · rintro r ⟨n, fs⟩ hr ⟨hV3, hn3⟩ ih3
        have hn3 : n ≤ 144 * i + 12 * j + r := hn3
        rw [fd_s _ hr] at hV3
        refine aw_iload (pc := 31) d_L_thirdsFor_31 rfl ?_
        refine aw_bipush (pc := 33) (v := 12) d_L_thirdsFor_33 (by decide) ?_
        refine awn_ge (pc := 35) (tgt := 100) (r) (12) d_L_thirdsFor_35 (by decide) rfl rfl (by omega) (by omega) (fun hh => absurd hh (by omega)) (fun _ => ?_)
        refine aw_aload_n (pc := 38) d_L_thirdsFor_38 rfl rfl ?_
        refine aw_get (pc := 39) d_L_thirdsFor_39 lf_L_9 hg_31 rfl ?_
        refine aw_iload (pc := 42) d_L_thirdsFor_42 rfl ?_
        refine aw_ildN (pc := 44) (j := i) d_L_thirdsFor_44 hg_32 h32 rfl hi (by decide) ?_
        refine aw_aload_n (pc := 45) d_L_thirdsFor_45 rfl rfl ?_
        refine aw_get (pc := 46) d_L_thirdsFor_46 lf_L_9 hg_31 rfl ?_
        refine aw_iload (pc := 49) d_L_thirdsFor_49 rfl ?_
        refine aw_ildN (pc := 51) (j := j) d_L_thirdsFor_51 hg_32 h32 rfl hj (by decide) ?_
        refine aw_iand (pc := 52) d_L_thirdsFor_52 ?_
        refine aw_top (fa_and _ _) ?_
        refine aw_aload_n (pc := 53) d_L_thirdsFor_53 rfl rfl ?_
        refine aw_get (pc := 54) d_L_thirdsFor_54 lf_L_9 hg_31 rfl ?_
        refine aw_iload (pc := 57) d_L_thirdsFor_57 rfl ?_
        refine aw_ildN (pc := 59) (j := r) d_L_thirdsFor_59 hg_32 h32 rfl hr (by decide) ?_
        refine aw_iand (pc := 60) d_L_thirdsFor_60 ?_
        refine aw_top (fa_and _ _) ?_
        refine aw_iconst (pc := 61) (v := 1) d_L_thirdsFor_61 (by decide) ?_
        refine aw_iload_n (pc := 62) d_L_thirdsFor_62 rfl rfl ?_
        refine aw_ishl (pc := 63) d_L_thirdsFor_63 ?_
        refine aw_top (sh1 (by omega)) ?_
        refine awn_eq (pc := 64) (tgt := 70) ((hs T i &&& hs T j) &&& hs T r) (2 ^ h) d_L_thirdsFor_64 (by decide) rfl rfl (Nat.lt_of_le_of_lt Nat.and_le_right (Nat.lt_trans (hs_lt T r) (by decide))) (Nat.pow_lt_pow_right (by decide) (by omega)) (fun h64 => ?_) (fun h64 => ?_)
        · refine aw_iload_n (pc := 70) d_L_thirdsFor_70 rfl rfl ?_
          refine aw_if_ne (pc := 71) (tgt := 91) d_L_thirdsFor_71 (by decide) (fun h71 => ?_) (fun h71 => ?_)
          · have h71 : ¬ n = 0 := fun z => h71 (by rw [z]; rfl)
            refine aw_incN (pc := 91) (ls' := [(0, _), (1, _), (2, _), (3, _), (4, _), (5, _), (6, _), (7, _)]) (i := n) d_L_thirdsFor_91 rfl rfl (by decide) rfl ?_
            refine aw_incN (pc := 94) (ls' := [(0, _), (1, _), (2, _), (3, _), (4, _), (5, _), (6, _), (7, _)]) (i := r) d_L_thirdsFor_94 rfl rfl (by decide) rfl ?_
            refine aw_goto (pc := 97) (tgt := 31) d_L_thirdsFor_97 (by decide) ?_
            exact ih3 (n + 1, fs) ⟨by rw [hV3, th1, if_pos h64, if_neg h71], by show n + 1 ≤ _; omega⟩
          · have h71 : n = 0 := (nI_eq (by omega) (by omega)).mp h71
            refine aw_sipush (pc := 74) (v := 10000) d_L_thirdsFor_74 (by decide) ?_
            refine aw_iload (pc := 77) d_L_thirdsFor_77 rfl ?_
            refine aw_imul (pc := 79) d_L_thirdsFor_79 ?_
            refine aw_bipush (pc := 80) (v := 100) d_L_thirdsFor_80 (by decide) ?_
            refine aw_iload (pc := 82) d_L_thirdsFor_82 rfl ?_
            refine aw_imul (pc := 84) d_L_thirdsFor_84 ?_
            refine aw_iadd (pc := 85) d_L_thirdsFor_85 ?_
            refine aw_iload (pc := 86) d_L_thirdsFor_86 rfl ?_
            refine aw_iadd (pc := 88) d_L_thirdsFor_88 ?_
            refine aw_top (th_code i j r) ?_
            refine aw_istore (pc := 89) (ls' := [(0, _), (1, _), (2, _), (3, _), (4, _), (5, _), (6, _), (7, _)]) d_L_thirdsFor_89 (by decide) rfl ?_
            refine aw_incN (pc := 91) (ls' := [(0, _), (1, _), (2, _), (3, _), (4, _), (5, _), (6, _), (7, _)]) (i := n) d_L_thirdsFor_91 rfl rfl (by decide) rfl ?_
            refine aw_incN (pc := 94) (ls' := [(0, _), (1, _), (2, _), (3, _), (4, _), (5, _), (6, _), (7, _)]) (i := r) d_L_thirdsFor_94 rfl rfl (by decide) rfl ?_
            refine aw_goto (pc := 97) (tgt := 31) d_L_thirdsFor_97 (by decide) ?_
            exact ih3 (n + 1, some (10000 * i + 100 * j + r)) ⟨by rw [hV3, th1, if_pos h64, if_pos h71], by show n + 1 ≤ _; omega⟩
        · refine aw_goto (pc := 67) (tgt := 94) d_L_thirdsFor_67 (by decide) ?_
          refine aw_incN (pc := 94) (ls' := [(0, _), (1, _), (2, _), (3, _), (4, _), (5, _), (6, _), (7, _)]) (i := r) d_L_thirdsFor_94 rfl rfl (by decide) rfl ?_
          refine aw_goto (pc := 97) (tgt := 31) d_L_thirdsFor_97 (by decide) ?_
          exact ih3 (n, fs) ⟨by rw [hV3, th1, if_neg h64], by show n ≤ _; omega⟩
set_option maxHeartbeats 1000000 in
set_option maxRecDepth 20000 in
theorem c_L_allCanBeRead (hT : okT T) (h33 : A 33 = lst 12 (pf T)) (h4 : A 4 = lst 6 (T 2)) {ls w e : Nat} (hl : ls < 64) (hw : w ≤ e) (he : e < 12) : AD m_L_allCanBeRead r_L_allCanBeRead (HH A I J U) [.ref 31, .ref 1, .int (nI ls), .int (nI w), .int (nI e)] (some (.int (b2 (all1 T ls w e = true)))) (HH A I J U) := by
  refine am_of (by decide) rfl (by first | decide | exact Nat.le_of_ble_eq_true rfl) ?_
  have hpw : 2 ^ w ≤ 2 ^ (e + 1) := Nat.pow_le_pow_right (by decide) (by omega)
  have hpe : 2 ^ (e + 1) ≤ 2 ^ 12 := Nat.pow_le_pow_right (by decide) (by omega)
  refine aw_iconst (pc := 0) (v := 1) d_L_allCanBeRead_0 (by decide) ?_
  refine aw_iload (pc := 1) d_L_allCanBeRead_1 rfl ?_
  refine aw_iconst (pc := 3) (v := 1) d_L_allCanBeRead_3 (by decide) ?_
  refine aw_iadd (pc := 4) d_L_allCanBeRead_4 ?_
  refine aw_top (nI_1 e) ?_
  refine aw_ishl (pc := 5) d_L_allCanBeRead_5 ?_
  refine aw_top (sh1 (by omega)) ?_
  refine aw_iconst (pc := 6) (v := 1) d_L_allCanBeRead_6 (by decide) ?_
  refine aw_iload_n (pc := 7) d_L_allCanBeRead_7 rfl rfl ?_
  refine aw_ishl (pc := 8) d_L_allCanBeRead_8 ?_
  refine aw_top (sh1 (by omega)) ?_
  refine aw_isub (pc := 9) d_L_allCanBeRead_9 ?_
  refine aw_top (pk_sub hpw) ?_
  refine aw_istore (pc := 10) (ls' := [(0, _), (1, _), (2, _), (3, _), (4, _), (5, _)]) d_L_allCanBeRead_10 (by decide) rfl ?_
  refine aw_iconst (pc := 12) (v := 0) d_L_allCanBeRead_12 (by decide) ?_
  refine aw_istore (pc := 13) (ls' := [(0, _), (1, _), (2, _), (3, _), (4, _), (5, _), (6, _)]) d_L_allCanBeRead_13 (by decide) rfl ?_
  refine lp_i (fun i (_ : Unit) => AW m_L_allCanBeRead r_L_allCanBeRead ax_E0 (ax_Zm (fun q1 q2 => q1 = some (.int (b2 (all1 T ls w e = true))) ∧ q2 = HH A I J U) 0 0) (HH A I J U) 0 0 15 [(0, .ref 31), (1, .ref 1), (2, .int (nI ls)), (3, .int (nI w)), (4, .int (nI e)), (5, .int (nI (2 ^ (e + 1) - 2 ^ w))), (6, .int (nI i))] []) (fun i _ => ∀ l, l < i → one1 T ls w e l = true) 6 ?_ ?_ 6 0 () (by omega) (fun l hl => absurd hl (by omega))
  · intro _ hV
    refine aw_iload (pc := 15) d_L_allCanBeRead_15 rfl ?_
    refine aw_bipush (pc := 17) (v := 6) d_L_allCanBeRead_17 (by decide) ?_
    refine awn_ge (pc := 19) (tgt := 60) (6) (6) d_L_allCanBeRead_19 (by decide) rfl rfl (by omega) (by omega) (fun _ => ?_) (fun hh => absurd hh (by omega))
    refine aw_iconst (pc := 60) (v := 1) d_L_allCanBeRead_60 (by decide) ?_
    refine aw_zret (pc := 61) d_L_allCanBeRead_61 rfl ft_1 ?_
    exact ⟨by rw [b2_1 (all1_t hV)], rfl⟩
  · intro i _ hi hV ih
    have hlt := hT.2.2.1 i hi
    have hpf := pf_lt T (T 2 i)
    have key : (¬ pf T (T 2 i) &&& (2 ^ (e + 1) - 2 ^ w) = 0) ↔ (List.range (e + 1 - w)).any (fun j => (hs T (w + j)).testBit (T 2 i)) = true := by
      rw [and_ne0 hpf, any_w (p := fun a => (hs T a).testBit (T 2 i))]
      constructor
      · rintro ⟨a, g1, g2, g3⟩
        rw [str_bit w (by omega) e he hw a g1] at g3
        rw [pf_bit T _ g1] at g2
        have := of_decide_eq_true g3
        exact ⟨a, this.1, this.2, g2⟩
      · rintro ⟨a, g1, g2, g3⟩
        exact ⟨a, by omega, by rw [pf_bit T _ (by omega)]; exact g3, by rw [str_bit w (by omega) e he hw a (by omega)]; exact decide_eq_true ⟨g1, g2⟩⟩
    refine aw_iload (pc := 15) d_L_allCanBeRead_15 rfl ?_
    refine aw_bipush (pc := 17) (v := 6) d_L_allCanBeRead_17 (by decide) ?_
    refine awn_ge (pc := 19) (tgt := 60) (i) (6) d_L_allCanBeRead_19 (by decide) rfl rfl (by omega) (by omega) (fun hh => absurd hh (by omega)) (fun _ => ?_)
    refine aw_iload_n (pc := 22) d_L_allCanBeRead_22 rfl rfl ?_
    refine aw_iload (pc := 23) d_L_allCanBeRead_23 rfl ?_
    refine aw_callT1 (pc := 25) (c_V_hasBit _ _ _) ok_V_hasBit d_L_allCanBeRead_25 ln_L_32 rfl rfl ⟨by decide, by decide⟩ (Nat.le_of_ble_eq_true rfl) rfl rfl ⟨by decide, by decide⟩ ?_
    refine aw_bn (pc := 28) (tgt := 34) d_L_allCanBeRead_28 (by decide) (fun h28 => ?_) (fun h28 => ?_)
    · have h28 := (hb_nI (by omega) (by omega)).mp h28
      refine aw_aload_n (pc := 34) d_L_allCanBeRead_34 rfl rfl ?_
      refine aw_get (pc := 35) d_L_allCanBeRead_35 lf_L_15 hg_31 rfl ?_
      refine aw_aload_n (pc := 38) d_L_allCanBeRead_38 rfl rfl ?_
      refine aw_get (pc := 39) d_L_allCanBeRead_39 lf_L_53 hg_1 rfl ?_
      refine aw_iload (pc := 42) d_L_allCanBeRead_42 rfl ?_
      refine aw_ildN (pc := 44) (j := i) d_L_allCanBeRead_44 hg_4 h4 rfl hi (by decide) ?_
      refine aw_ildN (pc := 45) (j := T 2 i) d_L_allCanBeRead_45 hg_33 h33 rfl hlt.1 (by decide) ?_
      refine aw_iload (pc := 46) d_L_allCanBeRead_46 rfl ?_
      refine aw_iand (pc := 48) d_L_allCanBeRead_48 ?_
      refine aw_top (fa_and _ _) ?_
      refine aw_if_ne (pc := 49) (tgt := 54) d_L_allCanBeRead_49 (by decide) (fun h49 => ?_) (fun h49 => ?_)
      · have h49 : ¬ pf T (T 2 i) &&& (2 ^ (e + 1) - 2 ^ w) = 0 := fun z => h49 (by rw [z]; rfl)
        refine aw_incN (pc := 54) (ls' := [(0, _), (1, _), (2, _), (3, _), (4, _), (5, _), (6, _)]) (i := i) d_L_allCanBeRead_54 rfl rfl (by decide) rfl ?_
        refine aw_goto (pc := 57) (tgt := 15) d_L_allCanBeRead_57 (by decide) ?_
        refine ih () (lt_s hV ?_)
        unfold one1
        rw [key.mp h49, Bool.or_true]
      · have h49 : pf T (T 2 i) &&& (2 ^ (e + 1) - 2 ^ w) = 0 := (nI_eq (Nat.lt_of_le_of_lt Nat.and_le_left (Nat.lt_trans hpf (by decide))) (by omega)).mp h49
        refine aw_iconst (pc := 52) (v := 0) d_L_allCanBeRead_52 (by decide) ?_
        refine aw_zret (pc := 53) d_L_allCanBeRead_53 rfl ft_0 ?_
        have hno : ¬ one1 T ls w e i = true := by
          unfold one1
          rw [h28]
          intro z
          exact key.mpr (by simpa using z) h49
        exact ⟨by rw [b2_0 (all1_f hi hno)], rfl⟩
    · have h28 : ls.testBit i = false := by
        cases hq : ls.testBit i with
        | false => rfl
        | true => exact absurd ((hb_nI (by omega) (by omega)).mpr hq) h28
      refine aw_goto (pc := 31) (tgt := 54) d_L_allCanBeRead_31 (by decide) ?_
      refine aw_incN (pc := 54) (ls' := [(0, _), (1, _), (2, _), (3, _), (4, _), (5, _), (6, _)]) (i := i) d_L_allCanBeRead_54 rfl rfl (by decide) rfl ?_
      refine aw_goto (pc := 57) (tgt := 15) d_L_allCanBeRead_57 (by decide) ?_
      refine ih () (lt_s hV ?_)
      unfold one1
      rw [h28]; rfl
theorem stp_lt {pl w e : Nat} (h1 : pl < 12) (h2 : w < 12) (h3 : e < 12) : stp pl w e < 100 := by unfold stp; split <;> omega
set_option maxHeartbeats 1000000 in
set_option maxRecDepth 20000 in
theorem c_L_leastWalk (hT : okT T) (hE : enS A I 1 T) (h33 : A 33 = lst 12 (pf T)) {ls : Nat} (hl : ls < 64) {p : Prop} [Decidable p] : AD m_L_leastWalk r_L_leastWalk (HH A I J U) [.ref 31, .ref 1, .int (nI ls), .int (b2 p)] (some (.int (if p then fO (rd3 T ls) else wO (rd3 T ls)))) (HH A I J U) := by
  refine am_of (by decide) rfl (by first | decide | exact Nat.le_of_ble_eq_true rfl) ?_
  have b11 := hE.2.2.2.2.2.2.1
  have h4 := hE.1.2.2.1
  have hpl := hT.2.2.2.2.2.2.2.2.1
  refine aw_bipush (pc := 0) (v := (-6)) d_L_leastWalk_0 (by decide) ?_
  refine aw_istore (pc := 2) (ls' := [(0, _), (1, _), (2, _), (3, _), (4, _)]) d_L_leastWalk_2 (by decide) rfl ?_
  refine aw_bipush (pc := 4) (v := (-6)) d_L_leastWalk_4 (by decide) ?_
  refine aw_istore (pc := 6) (ls' := [(0, _), (1, _), (2, _), (3, _), (4, _), (5, _)]) d_L_leastWalk_6 (by decide) rfl ?_
  refine aw_iconst (pc := 8) (v := 0) d_L_leastWalk_8 (by decide) ?_
  refine aw_istore (pc := 9) (ls' := [(0, _), (1, _), (2, _), (3, _), (4, _), (5, _), (6, _)]) d_L_leastWalk_9 (by decide) rfl ?_
  refine lp_i (fun i (x : Option (Nat × Nat)) => AW m_L_leastWalk r_L_leastWalk ax_E0 (ax_Zm (fun q1 q2 => q1 = some (.int (if p then fO (rd3 T ls) else wO (rd3 T ls))) ∧ q2 = HH A I J U) 0 0) (HH A I J U) 0 0 11 [(0, .ref 31), (1, .ref 1), (2, .int (nI ls)), (3, .int (b2 p)), (4, .int (fO x)), (5, .int (wO x)), (6, .int (nI i))] []) (fun i x => rd3 T ls = fd (rd2 T ls) (T 6 5 + 1 - i) i x ∧ ∀ q, x = some q → q.2 < 100) (T 6 5 + 1) ?_ ?_ (T 6 5 + 1) 0 none (by omega) ⟨rfl, fun q z => by cases z⟩
  · rintro x ⟨hV, -⟩
    rw [fd_0] at hV
    refine aw_iload (pc := 11) d_L_leastWalk_11 rfl ?_
    refine aw_aload_n (pc := 13) d_L_leastWalk_13 rfl rfl ?_
    refine aw_geti (pc := 14) (y := (nI (T 6 5))) d_L_leastWalk_14 lf_L_41 hg_1 rfl b11 ?_
    refine awn_gt (pc := 17) (tgt := 119) (T 6 5 + 1) (T 6 5) d_L_leastWalk_17 (by decide) rfl rfl (by omega) (by omega) (fun _ => ?_) (fun hh => absurd hh (by omega))
    refine aw_iload_n (pc := 119) d_L_leastWalk_119 rfl rfl ?_
    refine aw_bz (pc := 120) (tgt := 128) d_L_leastWalk_120 (by decide) (fun h120 => ?_) (fun h120 => ?_)
    · refine aw_iload (pc := 128) d_L_leastWalk_128 rfl ?_
      refine aw_iret (pc := 130) d_L_leastWalk_130 rfl ?_
      exact ⟨by rw [if_neg h120, hV], rfl⟩
    · refine aw_iload (pc := 123) d_L_leastWalk_123 rfl ?_
      refine aw_goto (pc := 125) (tgt := 130) d_L_leastWalk_125 (by decide) ?_
      refine aw_iret (pc := 130) d_L_leastWalk_130 rfl ?_
      exact ⟨by rw [if_pos h120, hV], rfl⟩
  · rintro i x hi ⟨hV, hx⟩ ih
    rw [fd_s _ hi] at hV
    refine aw_iload (pc := 11) d_L_leastWalk_11 rfl ?_
    refine aw_aload_n (pc := 13) d_L_leastWalk_13 rfl rfl ?_
    refine aw_geti (pc := 14) (y := (nI (T 6 5))) d_L_leastWalk_14 lf_L_41 hg_1 rfl b11 ?_
    refine awn_gt (pc := 17) (tgt := 119) (i) (T 6 5) d_L_leastWalk_17 (by decide) rfl rfl (by omega) (by omega) (fun hh => absurd hh (by omega)) (fun _ => ?_)
    refine aw_aload_n (pc := 20) d_L_leastWalk_20 rfl rfl ?_
    refine aw_geti (pc := 21) (y := (nI (T 6 5))) d_L_leastWalk_21 lf_L_41 hg_1 rfl b11 ?_
    refine aw_istore (pc := 24) (ls' := [(0, _), (1, _), (2, _), (3, _), (4, _), (5, _), (6, _), (7, _)]) d_L_leastWalk_24 (by decide) rfl ?_
    refine lp_i (fun e (y : Option (Nat × Nat)) => AW m_L_leastWalk r_L_leastWalk ax_E0 (ax_Zm (fun q1 q2 => q1 = some (.int (if p then fO (rd3 T ls) else wO (rd3 T ls))) ∧ q2 = HH A I J U) 0 0) (HH A I J U) 0 0 26 [(0, .ref 31), (1, .ref 1), (2, .int (nI ls)), (3, .int (b2 p)), (4, .int (fO y)), (5, .int (wO y)), (6, .int (nI i)), (7, .int (nI e))] []) (fun e y => T 6 5 ≤ e ∧ rd3 T ls = fd (rd2 T ls) (T 6 5 + 1 - (i + 1)) (i + 1) (fd (rd1 T ls i) (12 - e) e y) ∧ ∀ q, y = some q → q.2 < 100) 12 ?_ ?_ (12 - T 6 5) (T 6 5) x (by omega) ⟨Nat.le_refl _, hV, hx⟩
    · rintro y ⟨-, hV2, hy⟩
      rw [fd_0] at hV2
      refine aw_iload (pc := 26) d_L_leastWalk_26 rfl ?_
      refine aw_bipush (pc := 28) (v := 12) d_L_leastWalk_28 (by decide) ?_
      refine awn_ge (pc := 30) (tgt := 113) (12) (12) d_L_leastWalk_30 (by decide) rfl rfl (by omega) (by omega) (fun _ => ?_) (fun hh => absurd hh (by omega))
      refine aw_incN (pc := 113) (ls' := [(0, _), (1, _), (2, _), (3, _), (4, _), (5, _), (6, _), (7, _)]) (i := i) d_L_leastWalk_113 rfl rfl (by decide) rfl ?_
      refine aw_goto (pc := 116) (tgt := 11) d_L_leastWalk_116 (by decide) ?_
      refine aw_sub (ls' := [(0, _), (1, _), (2, _), (3, _), (4, _), (5, _), (6, _)]) [0, 1, 2, 3, 4, 5, 6] rfl ?_
      exact ih y ⟨hV2, hy⟩
    · rintro e y he ⟨hpe, hV2, hy⟩ ih2
      rw [fd_s _ he] at hV2
      have hst := stp_lt hpl (show i < 12 by omega) he
      have next : ∀ z : Option (Nat × Nat), z = rd1 T ls i e y → (∀ q, z = some q → q.2 < 100) → AW m_L_leastWalk r_L_leastWalk ax_E0 (ax_Zm (fun q1 q2 => q1 = some (.int (if p then fO (rd3 T ls) else wO (rd3 T ls))) ∧ q2 = HH A I J U) 0 0) (HH A I J U) 0 0 107 [(0, .ref 31), (1, .ref 1), (2, .int (nI ls)), (3, .int (b2 p)), (4, .int (fO z)), (5, .int (wO z)), (6, .int (nI i)), (7, .int (nI e)), (10, .int (nI (stp (T 6 5) i e)))] [] := by
        intro z hz hz2
        refine aw_incN (pc := 107) (ls' := [(0, _), (1, _), (2, _), (3, _), (4, _), (5, _), (6, _), (7, _), (10, _)]) (i := e) d_L_leastWalk_107 rfl rfl (by decide) rfl ?_
        refine aw_goto (pc := 110) (tgt := 26) d_L_leastWalk_110 (by decide) ?_
        refine aw_sub (ls' := [(0, _), (1, _), (2, _), (3, _), (4, _), (5, _), (6, _), (7, _)]) [0, 1, 2, 3, 4, 5, 6, 7] rfl ?_
        exact ih2 z ⟨by omega, by rw [hz]; exact hV2, hz2⟩
      have try1 : lso y (stp (T 6 5) i e) = true → AW m_L_leastWalk r_L_leastWalk ax_E0 (ax_Zm (fun q1 q2 => q1 = some (.int (if p then fO (rd3 T ls) else wO (rd3 T ls))) ∧ q2 = HH A I J U) 0 0) (HH A I J U) 0 0 83 [(0, .ref 31), (1, .ref 1), (2, .int (nI ls)), (3, .int (b2 p)), (4, .int (fO y)), (5, .int (wO y)), (6, .int (nI i)), (7, .int (nI e)), (10, .int (nI (stp (T 6 5) i e)))] [] := by
        intro hlso
        refine aw_aload_n (pc := 83) d_L_leastWalk_83 rfl rfl ?_
        refine aw_aload_n (pc := 84) d_L_leastWalk_84 rfl rfl ?_
        refine aw_iload_n (pc := 85) d_L_leastWalk_85 rfl rfl ?_
        refine aw_iload (pc := 86) d_L_leastWalk_86 rfl ?_
        refine aw_iload (pc := 88) d_L_leastWalk_88 rfl ?_
        refine aw_callV1 (pc := 90) (c_L_allCanBeRead hT h33 h4 hl (by omega) he) ok_L_allCanBeRead d_L_leastWalk_90 lm_L_49 hg_31 rfl rfl ⟨by decide, by decide⟩ (Nat.le_of_ble_eq_true rfl) rfl rfl ⟨by decide, by decide⟩ ?_
        refine aw_bn (pc := 93) (tgt := 99) d_L_leastWalk_93 (by decide) (fun h93 => ?_) (fun h93 => ?_)
        · refine aw_iload (pc := 99) d_L_leastWalk_99 rfl ?_
          refine aw_istore (pc := 101) (ls' := [(0, _), (1, _), (2, _), (3, _), (4, _), (5, _), (6, _), (7, _), (10, _)]) d_L_leastWalk_101 (by decide) rfl ?_
          refine aw_iload (pc := 103) d_L_leastWalk_103 rfl ?_
          refine aw_istore (pc := 105) (ls' := [(0, _), (1, _), (2, _), (3, _), (4, _), (5, _), (6, _), (7, _), (10, _)]) d_L_leastWalk_105 (by decide) rfl ?_
          exact next (some (i, stp (T 6 5) i e)) (by unfold rd1; rw [if_pos ⟨h93, hlso⟩]) (fun q hq => by cases hq; exact hst)
        · refine aw_goto (pc := 96) (tgt := 107) d_L_leastWalk_96 (by decide) ?_
          exact next y (by unfold rd1; rw [if_neg (fun z => h93 z.1)]) hy
      refine aw_iload (pc := 26) d_L_leastWalk_26 rfl ?_
      refine aw_bipush (pc := 28) (v := 12) d_L_leastWalk_28 (by decide) ?_
      refine awn_ge (pc := 30) (tgt := 113) (e) (12) d_L_leastWalk_30 (by decide) rfl rfl (by omega) (by omega) (fun hh => absurd hh (by omega)) (fun _ => ?_)
      refine aw_aload_n (pc := 33) d_L_leastWalk_33 rfl rfl ?_
      refine aw_geti (pc := 34) (y := (nI (T 6 5))) d_L_leastWalk_34 lf_L_41 hg_1 rfl b11 ?_
      refine aw_iload (pc := 37) d_L_leastWalk_37 rfl ?_
      refine aw_isub (pc := 39) d_L_leastWalk_39 ?_
      refine aw_top (pk_sub (show i ≤ T 6 5 by omega)) ?_
      refine aw_istore (pc := 40) (ls' := [(0, _), (1, _), (2, _), (3, _), (4, _), (5, _), (6, _), (7, _), (8, _)]) d_L_leastWalk_40 (by decide) rfl ?_
      refine aw_iload (pc := 42) d_L_leastWalk_42 rfl ?_
      refine aw_aload_n (pc := 44) d_L_leastWalk_44 rfl rfl ?_
      refine aw_geti (pc := 45) (y := (nI (T 6 5))) d_L_leastWalk_45 lf_L_41 hg_1 rfl b11 ?_
      refine aw_isub (pc := 48) d_L_leastWalk_48 ?_
      refine aw_top (pk_sub hpe) ?_
      refine aw_istore (pc := 49) (ls' := [(0, _), (1, _), (2, _), (3, _), (4, _), (5, _), (6, _), (7, _), (8, _), (9, _)]) d_L_leastWalk_49 (by decide) rfl ?_
      refine aw_iload (pc := 51) d_L_leastWalk_51 rfl ?_
      refine aw_iload (pc := 53) d_L_leastWalk_53 rfl ?_
      refine aw_iadd (pc := 55) d_L_leastWalk_55 ?_
      refine aw_iload (pc := 56) d_L_leastWalk_56 rfl ?_
      refine aw_iload (pc := 58) d_L_leastWalk_58 rfl ?_
      refine aw_mmin (pc := 60) d_L_leastWalk_60 lm_L_44 ws_H_min wn_H wc_H_min (by decide) (Nat.le_of_ble_eq_true rfl) ⟨by decide, by decide⟩ ?_
      refine aw_iadd (pc := 63) d_L_leastWalk_63 ?_
      refine aw_top (y := nI (stp (T 6 5) i e)) ?_ ?_
      · unfold stp
        by_cases hc : e - T 6 5 < T 6 5 - i
        · rw [if_pos ((nI_ltI (by omega) (by omega)).mpr hc), if_pos hc, nI_add, nI_add]
        · rw [if_neg (fun z => hc ((nI_ltI (by omega) (by omega)).mp z)), if_neg hc, nI_add, nI_add]
      refine aw_istore (pc := 64) (ls' := [(0, _), (1, _), (2, _), (3, _), (4, _), (5, _), (6, _), (7, _), (8, _), (9, _), (10, _)]) d_L_leastWalk_64 (by decide) rfl ?_
      refine aw_iload (pc := 66) d_L_leastWalk_66 rfl ?_
      refine aw_bipush (pc := 68) (v := (-6)) d_L_leastWalk_68 (by decide) ?_
      refine aw_icmp_eq (pc := 70) (tgt := 83) d_L_leastWalk_70 (by decide) (fun h70 => ?_) (fun h70 => ?_)
      · have h70 := (fO_m6 (fun q hq => by have := hy q hq; omega)).mp h70
        refine aw_sub (ls' := [(0, _), (1, _), (2, _), (3, _), (4, _), (5, _), (6, _), (7, _), (10, _)]) [0, 1, 2, 3, 4, 5, 6, 7, 10] rfl ?_
        exact try1 (by rw [h70]; rfl)
      · have h70 : ¬ y = none := fun z => h70 (by rw [z]; rfl)
        obtain ⟨q, hq⟩ : ∃ q, y = some q := by
          cases y with
          | none => exact absurd rfl h70
          | some q => exact ⟨q, rfl⟩
        have hq2 := hy q hq
        refine aw_iload (pc := 73) d_L_leastWalk_73 rfl ?_
        refine aw_iload (pc := 75) d_L_leastWalk_75 rfl ?_
        refine awn_lt (pc := 77) (tgt := 83) (stp (T 6 5) i e) (q.2) d_L_leastWalk_77 (by decide) rfl (by rw [hq]; rfl) (by omega) (by omega) (fun h77 => ?_) (fun h77 => ?_)
        · refine aw_sub (ls' := [(0, _), (1, _), (2, _), (3, _), (4, _), (5, _), (6, _), (7, _), (10, _)]) [0, 1, 2, 3, 4, 5, 6, 7, 10] rfl ?_
          exact try1 (by rw [hq]; exact decide_eq_true h77)
        · refine aw_goto (pc := 80) (tgt := 107) d_L_leastWalk_80 (by decide) ?_
          refine aw_sub (ls' := [(0, _), (1, _), (2, _), (3, _), (4, _), (5, _), (6, _), (7, _), (10, _)]) [0, 1, 2, 3, 4, 5, 6, 7, 10] rfl ?_
          exact next y (by unfold rd1; rw [if_neg (fun z => by rw [hq] at z; exact absurd (of_decide_eq_true z.2) (by omega))]) hy
set_option maxHeartbeats 1000000 in
set_option maxRecDepth 20000 in
theorem c_L_placesThatFit (hT : okT T) (hE : enS A I 1 T) (h32 : A 32 = lst 12 (hs T)) : AD m_L_placesThatFit r_L_placesThatFit (HH A I J U) [.ref 31, .ref 1] (some (.int (nI (atS T)))) (HH A I J U) := by
  refine am_of (by decide) rfl (by first | decide | exact Nat.le_of_ble_eq_true rfl) ?_
  have b14 := hE.2.2.2.2.2.2.2.2.2.1
  have b15 := hE.2.2.2.2.2.2.2.2.2.2
  refine aw_iconst (pc := 0) (v := 0) d_L_placesThatFit_0 (by decide) ?_
  refine aw_istore_n (pc := 1) (ls' := [(0, _), (1, _), (2, _)]) d_L_placesThatFit_1 rfl (by decide) rfl ?_
  refine aw_iconst (pc := 2) (v := 0) d_L_placesThatFit_2 (by decide) ?_
  refine aw_istore_n (pc := 3) (ls' := [(0, _), (1, _), (2, _), (3, _)]) d_L_placesThatFit_3 rfl (by decide) rfl ?_
  refine lp_i (fun i b => AW m_L_placesThatFit r_L_placesThatFit ax_E0 (ax_Zm (fun q1 q2 => q1 = some (.int (nI (atS T))) ∧ q2 = HH A I J U) 0 0) (HH A I J U) 0 0 4 [(0, .ref 31), (1, .ref 1), (2, .int (nI b)), (3, .int (nI i))] []) (fun i b => b = msk (ftt T) i) 12 ?_ ?_ 12 0 0 (by omega) rfl
  · intro b hV
    refine aw_iload_n (pc := 4) d_L_placesThatFit_4 rfl rfl ?_
    refine aw_bipush (pc := 5) (v := 12) d_L_placesThatFit_5 (by decide) ?_
    refine awn_ge (pc := 7) (tgt := 78) (12) (12) d_L_placesThatFit_7 (by decide) rfl rfl (by omega) (by omega) (fun _ => ?_) (fun hh => absurd hh (by omega))
    refine aw_iload_n (pc := 78) d_L_placesThatFit_78 rfl rfl ?_
    refine aw_iret (pc := 79) d_L_placesThatFit_79 rfl ?_
    exact ⟨by rw [hV]; rfl, rfl⟩
  · intro i b hi hV ih
    have hH := hs_lt T i
    have hm1 := hm_lt T
    have hm2 := mm_lt T
    have hft := ftt_iff hT i
    have fin : ∀ (x4 x5 : Int32) (c : Nat), c = msk (ftt T) (i + 1) → AW m_L_placesThatFit r_L_placesThatFit ax_E0 (ax_Zm (fun q1 q2 => q1 = some (.int (nI (atS T))) ∧ q2 = HH A I J U) 0 0) (HH A I J U) 0 0 72 [(0, .ref 31), (1, .ref 1), (2, .int (nI c)), (3, .int (nI i)), (4, .int x4), (5, .int x5)] [] := by
      intro x4 x5 c hc
      refine aw_incN (pc := 72) (ls' := [(0, _), (1, _), (2, _), (3, _), (4, _), (5, _)]) (i := i) d_L_placesThatFit_72 rfl rfl (by decide) rfl ?_
      refine aw_goto (pc := 75) (tgt := 4) d_L_placesThatFit_75 (by decide) ?_
      refine aw_sub (ls' := [(0, _), (1, _), (2, _), (3, _)]) [0, 1, 2, 3] rfl ?_
      exact ih c hc
    have sec : ∀ (P : Prop) (dp : Decidable P), (P ↔ hs T i &&& hm T = hm T) → AW m_L_placesThatFit r_L_placesThatFit ax_E0 (ax_Zm (fun q1 q2 => q1 = some (.int (nI (atS T))) ∧ q2 = HH A I J U) 0 0) (HH A I J U) 0 0 35 [(0, .ref 31), (1, .ref 1), (2, .int (nI b)), (3, .int (nI i)), (4, .int (b2 P))] [] := by
      intro P dp hP
      refine aw_aload_n (pc := 35) d_L_placesThatFit_35 rfl rfl ?_
      refine aw_get (pc := 36) d_L_placesThatFit_36 lf_L_9 hg_31 rfl ?_
      refine aw_iload_n (pc := 39) d_L_placesThatFit_39 rfl rfl ?_
      refine aw_ildN (pc := 40) (j := i) d_L_placesThatFit_40 hg_32 h32 rfl hi (by decide) ?_
      refine aw_aload_n (pc := 41) d_L_placesThatFit_41 rfl rfl ?_
      refine aw_geti (pc := 42) (y := (nI (mm T))) d_L_placesThatFit_42 lf_L_59 hg_1 rfl b15 ?_
      refine aw_iand (pc := 45) d_L_placesThatFit_45 ?_
      refine aw_top (fa_and _ _) ?_
      refine aw_if_ne (pc := 46) (tgt := 53) d_L_placesThatFit_46 (by decide) (fun h46 => ?_) (fun h46 => ?_)
      · have h46 : ¬ hs T i &&& mm T = 0 := fun z => h46 (by rw [z]; rfl)
        have hno : ¬ ftt T i = true := fun z => h46 (hft.mp z).2
        have hc : b = msk (ftt T) (i + 1) := by rw [msk, if_neg hno, Nat.or_zero]; exact hV
        refine aw_iconst (pc := 53) (v := 0) d_L_placesThatFit_53 (by decide) ?_
        refine aw_istore (pc := 54) (ls' := [(0, _), (1, _), (2, _), (3, _), (4, _), (5, _)]) d_L_placesThatFit_54 (by decide) rfl ?_
        refine aw_iload (pc := 56) d_L_placesThatFit_56 rfl ?_
        refine aw_bz (pc := 58) (tgt := 72) d_L_placesThatFit_58 (by decide) (fun h58 => ?_) (fun h58 => ?_)
        · exact fin _ _ b hc
        · refine aw_iload (pc := 61) d_L_placesThatFit_61 rfl ?_
          refine aw_if_eq (pc := 63) (tgt := 72) d_L_placesThatFit_63 (by decide) (fun _ => ?_) (fun hh => absurd rfl hh)
          exact fin _ _ b hc
      · have h46 : hs T i &&& mm T = 0 := (nI_eq (Nat.lt_of_le_of_lt Nat.and_le_left (Nat.lt_trans hH (by decide))) (by omega)).mp h46
        refine aw_iconst (pc := 49) (v := 1) d_L_placesThatFit_49 (by decide) ?_
        refine aw_goto (pc := 50) (tgt := 54) d_L_placesThatFit_50 (by decide) ?_
        refine aw_istore (pc := 54) (ls' := [(0, _), (1, _), (2, _), (3, _), (4, _), (5, _)]) d_L_placesThatFit_54 (by decide) rfl ?_
        refine aw_iload (pc := 56) d_L_placesThatFit_56 rfl ?_
        refine aw_bz (pc := 58) (tgt := 72) d_L_placesThatFit_58 (by decide) (fun h58 => ?_) (fun h58 => ?_)
        · have hno : ¬ ftt T i = true := fun z => h58 (hP.mpr (hft.mp z).1)
          exact fin _ _ b (by rw [msk, if_neg hno, Nat.or_zero]; exact hV)
        · have hyes : ftt T i = true := hft.mpr ⟨hP.mp h58, h46⟩
          refine aw_iload (pc := 61) d_L_placesThatFit_61 rfl ?_
          refine aw_if_eq (pc := 63) (tgt := 72) d_L_placesThatFit_63 (by decide) (fun hh => absurd hh (by decide)) (fun _ => ?_)
          refine aw_iload_n (pc := 66) d_L_placesThatFit_66 rfl rfl ?_
          refine aw_iconst (pc := 67) (v := 1) d_L_placesThatFit_67 (by decide) ?_
          refine aw_iload_n (pc := 68) d_L_placesThatFit_68 rfl rfl ?_
          refine aw_ishl (pc := 69) d_L_placesThatFit_69 ?_
          refine aw_ior (pc := 70) d_L_placesThatFit_70 ?_
          refine aw_top (or_bit (by omega)) ?_
          refine aw_istore_n (pc := 71) (ls' := [(0, _), (1, _), (2, _), (3, _), (4, _), (5, _)]) d_L_placesThatFit_71 rfl (by decide) rfl ?_
          exact fin _ _ (b ||| 2 ^ i) (by rw [msk, if_pos hyes, hV])
    refine aw_iload_n (pc := 4) d_L_placesThatFit_4 rfl rfl ?_
    refine aw_bipush (pc := 5) (v := 12) d_L_placesThatFit_5 (by decide) ?_
    refine awn_ge (pc := 7) (tgt := 78) (i) (12) d_L_placesThatFit_7 (by decide) rfl rfl (by omega) (by omega) (fun hh => absurd hh (by omega)) (fun _ => ?_)
    refine aw_aload_n (pc := 10) d_L_placesThatFit_10 rfl rfl ?_
    refine aw_get (pc := 11) d_L_placesThatFit_11 lf_L_9 hg_31 rfl ?_
    refine aw_iload_n (pc := 14) d_L_placesThatFit_14 rfl rfl ?_
    refine aw_ildN (pc := 15) (j := i) d_L_placesThatFit_15 hg_32 h32 rfl hi (by decide) ?_
    refine aw_aload_n (pc := 16) d_L_placesThatFit_16 rfl rfl ?_
    refine aw_geti (pc := 17) (y := (nI (hm T))) d_L_placesThatFit_17 lf_L_56 hg_1 rfl b14 ?_
    refine aw_iand (pc := 20) d_L_placesThatFit_20 ?_
    refine aw_top (fa_and _ _) ?_
    refine aw_aload_n (pc := 21) d_L_placesThatFit_21 rfl rfl ?_
    refine aw_geti (pc := 22) (y := (nI (hm T))) d_L_placesThatFit_22 lf_L_56 hg_1 rfl b14 ?_
    refine awn_ne (pc := 25) (tgt := 32) (hs T i &&& hm T) (hm T) d_L_placesThatFit_25 (by decide) rfl rfl (Nat.lt_of_le_of_lt Nat.and_le_left (Nat.lt_trans hH (by decide))) (by omega) (fun h25 => ?_) (fun h25 => ?_)
    · refine aw_iconst (pc := 32) (v := 0) d_L_placesThatFit_32 (by decide) ?_
      refine aw_istore (pc := 33) (ls' := [(0, _), (1, _), (2, _), (3, _), (4, _)]) d_L_placesThatFit_33 (by decide) rfl ?_
      exact sec False inferInstance ⟨fun z => z.elim, fun z => h25 z⟩
    · refine aw_iconst (pc := 28) (v := 1) d_L_placesThatFit_28 (by decide) ?_
      refine aw_goto (pc := 29) (tgt := 33) d_L_placesThatFit_29 (by decide) ?_
      refine aw_istore (pc := 33) (ls' := [(0, _), (1, _), (2, _), (3, _), (4, _)]) d_L_placesThatFit_33 (by decide) rfl ?_
      exact sec True inferInstance ⟨fun _ => h25, fun _ => trivial⟩
set_option maxHeartbeats 1000000 in
set_option maxRecDepth 20000 in
theorem c_L_bestToAsk (h33 : A 33 = lst 12 (pf T)) {p : Prop} [Decidable p] : AD m_L_bestToAsk r_L_bestToAsk (HH A I J U) [.ref 31, .int (nI (atS T)), .int (b2 p)] (some (.int (if p then wO (ak T 12) else fO (ak T 12)))) (HH A I J U) := by
  refine am_of (by decide) rfl (by first | decide | exact Nat.le_of_ble_eq_true rfl) ?_
  have hat := atS_lt T
  have hca := cn_le (atS T)
  refine aw_iload_n (pc := 0) d_L_bestToAsk_0 rfl rfl ?_
  refine aw_callS1 (pc := 1) (c_B_bitCount hat) ok_B_bitCount d_L_bestToAsk_1 lm_L_36 rfl rfl ⟨by decide, by decide⟩ (Nat.le_of_ble_eq_true rfl) rfl rfl ⟨by decide, by decide⟩ ?_
  refine aw_istore_n (pc := 4) (ls' := [(0, _), (1, _), (2, _), (3, _)]) d_L_bestToAsk_4 rfl (by decide) rfl ?_
  refine aw_iload_n (pc := 5) d_L_bestToAsk_5 rfl rfl ?_
  refine aw_iconst (pc := 6) (v := 1) d_L_bestToAsk_6 (by decide) ?_
  refine aw_iadd (pc := 7) d_L_bestToAsk_7 ?_
  refine aw_top (nI_1 _) ?_
  refine aw_istore (pc := 8) (ls' := [(0, _), (1, _), (2, _), (3, _), (4, _)]) d_L_bestToAsk_8 (by decide) rfl ?_
  refine aw_bipush (pc := 10) (v := (-6)) d_L_bestToAsk_10 (by decide) ?_
  refine aw_istore (pc := 12) (ls' := [(0, _), (1, _), (2, _), (3, _), (4, _), (5, _)]) d_L_bestToAsk_12 (by decide) rfl ?_
  refine aw_iconst (pc := 14) (v := 0) d_L_bestToAsk_14 (by decide) ?_
  refine aw_istore (pc := 15) (ls' := [(0, _), (1, _), (2, _), (3, _), (4, _), (5, _), (6, _)]) d_L_bestToAsk_15 (by decide) rfl ?_
  refine lp_i (fun i (x : Option (Nat × Nat)) => AW m_L_bestToAsk r_L_bestToAsk ax_E0 (ax_Zm (fun q1 q2 => q1 = some (.int (if p then wO (ak T 12) else fO (ak T 12))) ∧ q2 = HH A I J U) 0 0) (HH A I J U) 0 0 17 [(0, .ref 31), (1, .int (nI (atS T))), (2, .int (b2 p)), (3, .int (nI (cn (atS T)))), (4, .int (nI (fD (cn (atS T) + 1) x))), (5, .int (wO x)), (6, .int (nI i))] []) (fun i x => x = ak T i) 12 ?_ ?_ 12 0 none (by omega) rfl
  · intro x hV
    subst hV
    refine aw_iload (pc := 17) d_L_bestToAsk_17 rfl ?_
    refine aw_bipush (pc := 19) (v := 12) d_L_bestToAsk_19 (by decide) ?_
    refine awn_ge (pc := 21) (tgt := 70) (12) (12) d_L_bestToAsk_21 (by decide) rfl rfl (by omega) (by omega) (fun _ => ?_) (fun hh => absurd hh (by omega))
    refine aw_iload_n (pc := 70) d_L_bestToAsk_70 rfl rfl ?_
    refine aw_bz (pc := 71) (tgt := 79) d_L_bestToAsk_71 (by decide) (fun h71 => ?_) (fun h71 => ?_)
    · refine aw_iload (pc := 79) d_L_bestToAsk_79 rfl ?_
      refine aw_iret (pc := 81) d_L_bestToAsk_81 rfl ?_
      refine ⟨?_, rfl⟩
      rw [if_neg h71]
      cases hq : ak T 12 with
      | some q => rfl
      | none =>
        exfalso
        unfold ak at hq
        split at hq
        · cases hq
        · rename_i hne
          rw [hq] at hne
          exact hne rfl
    · refine aw_iload (pc := 74) d_L_bestToAsk_74 rfl ?_
      refine aw_goto (pc := 76) (tgt := 81) d_L_bestToAsk_76 (by decide) ?_
      refine aw_iret (pc := 81) d_L_bestToAsk_81 rfl ?_
      exact ⟨by rw [if_pos h71], rfl⟩
  · intro i x hi hV ih
    subst hV
    have hpf := pf_lt T i
    have hab : atS T &&& pf T i < 4096 := Nat.lt_of_le_of_lt Nat.and_le_left hat
    have hcs := cn_sub (atS T) (pf T i)
    have hwl := wrs_le T i
    have hl := ak_lt T i
    have hfd : fD (cn (atS T) + 1) (ak T i) ≤ 13 := by
      cases hq : ak T i with
      | none => show cn (atS T) + 1 ≤ 13; omega
      | some q => have := hl q hq; show q.2 ≤ 13; omega
    refine aw_iload (pc := 17) d_L_bestToAsk_17 rfl ?_
    refine aw_bipush (pc := 19) (v := 12) d_L_bestToAsk_19 (by decide) ?_
    refine awn_ge (pc := 21) (tgt := 70) (i) (12) d_L_bestToAsk_21 (by decide) rfl rfl (by omega) (by omega) (fun hh => absurd hh (by omega)) (fun _ => ?_)
    refine aw_iload_n (pc := 24) d_L_bestToAsk_24 rfl rfl ?_
    refine aw_aload_n (pc := 25) d_L_bestToAsk_25 rfl rfl ?_
    refine aw_get (pc := 26) d_L_bestToAsk_26 lf_L_15 hg_31 rfl ?_
    refine aw_iload (pc := 29) d_L_bestToAsk_29 rfl ?_
    refine aw_ildN (pc := 31) (j := i) d_L_bestToAsk_31 hg_33 h33 rfl hi (by decide) ?_
    refine aw_iand (pc := 32) d_L_bestToAsk_32 ?_
    refine aw_top (fa_and _ _) ?_
    refine aw_callS1 (pc := 33) (c_B_bitCount hab) ok_B_bitCount d_L_bestToAsk_33 lm_L_36 rfl rfl ⟨by decide, by decide⟩ (Nat.le_of_ble_eq_true rfl) rfl rfl ⟨by decide, by decide⟩ ?_
    refine aw_istore (pc := 36) (ls' := [(0, _), (1, _), (2, _), (3, _), (4, _), (5, _), (6, _), (7, _)]) d_L_bestToAsk_36 (by decide) rfl ?_
    refine aw_iload (pc := 38) d_L_bestToAsk_38 rfl ?_
    refine aw_iload_n (pc := 40) d_L_bestToAsk_40 rfl rfl ?_
    refine aw_iload (pc := 41) d_L_bestToAsk_41 rfl ?_
    refine aw_isub (pc := 43) d_L_bestToAsk_43 ?_
    refine aw_top (pk_sub hcs) ?_
    refine aw_mmax (pc := 44) d_L_bestToAsk_44 lm_L_62 ws_H_max wn_H wc_H_max (by decide) (Nat.le_of_ble_eq_true rfl) ⟨by decide, by decide⟩ ?_
    refine aw_top (y := nI (wrs T i)) ?_ ?_
    · unfold wrs
      by_cases hc : cn (atS T &&& pf T i) < cn (atS T) - cn (atS T &&& pf T i)
      · rw [if_pos ((nI_ltI (by omega) (by omega)).mpr hc), Nat.max_eq_right (by omega)]
      · rw [if_neg (fun z => hc ((nI_ltI (by omega) (by omega)).mp z)), Nat.max_eq_left (by omega)]
    refine aw_istore (pc := 47) (ls' := [(0, _), (1, _), (2, _), (3, _), (4, _), (5, _), (6, _), (7, _), (8, _)]) d_L_bestToAsk_47 (by decide) rfl ?_
    refine aw_iload (pc := 49) d_L_bestToAsk_49 rfl ?_
    refine aw_iload (pc := 51) d_L_bestToAsk_51 rfl ?_
    refine awn_ge (pc := 53) (tgt := 64) (wrs T i) (fD (cn (atS T) + 1) (ak T i)) d_L_bestToAsk_53 (by decide) rfl rfl (by omega) (by omega) (fun h53 => ?_) (fun h53 => ?_)
    · refine aw_incN (pc := 64) (ls' := [(0, _), (1, _), (2, _), (3, _), (4, _), (5, _), (6, _), (7, _), (8, _)]) (i := i) d_L_bestToAsk_64 rfl rfl (by decide) rfl ?_
      refine aw_goto (pc := 67) (tgt := 17) d_L_bestToAsk_67 (by decide) ?_
      refine aw_sub (ls' := [(0, _), (1, _), (2, _), (3, _), (4, _), (5, _), (6, _)]) [0, 1, 2, 3, 4, 5, 6] rfl ?_
      exact ih (ak T i) (by rw [ak, if_neg (fun z => absurd ((lso_ (d := cn (atS T) + 1) (by omega)).mp z) (by omega))])
    · refine aw_iload (pc := 56) d_L_bestToAsk_56 rfl ?_
      refine aw_istore (pc := 58) (ls' := [(0, _), (1, _), (2, _), (3, _), (4, _), (5, _), (6, _), (7, _), (8, _)]) d_L_bestToAsk_58 (by decide) rfl ?_
      refine aw_iload (pc := 60) d_L_bestToAsk_60 rfl ?_
      refine aw_istore (pc := 62) (ls' := [(0, _), (1, _), (2, _), (3, _), (4, _), (5, _), (6, _), (7, _), (8, _)]) d_L_bestToAsk_62 (by decide) rfl ?_
      refine aw_incN (pc := 64) (ls' := [(0, _), (1, _), (2, _), (3, _), (4, _), (5, _), (6, _), (7, _), (8, _)]) (i := i) d_L_bestToAsk_64 rfl rfl (by decide) rfl ?_
      refine aw_goto (pc := 67) (tgt := 17) d_L_bestToAsk_67 (by decide) ?_
      refine aw_sub (ls' := [(0, _), (1, _), (2, _), (3, _), (4, _), (5, _), (6, _)]) [0, 1, 2, 3, 4, 5, 6] rfl ?_
      exact ih (some (i, wrs T i)) (by rw [ak, if_pos ((lso_ (d := cn (atS T) + 1) (by omega)).mpr h53)])
end LISTEN2

