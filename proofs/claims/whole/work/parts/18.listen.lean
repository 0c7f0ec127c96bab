/-! who hears one who reads somewhere: the class's listener -/
def hs (T : town) (a : Nat) : Nat := HS T a (T 6 0)
def pf (T : town) (h : Nat) : Nat := msk (fun a => (hs T a).testBit h) 12
theorem hs_lt (T : town) (a : Nat) : hs T a < 4096 := HS_lt _ _ _
theorem pf_lt (T : town) (a : Nat) : pf T a < 4096 := msk_lt _ 12
theorem pf_bit (T : town) (h : Nat) {a : Nat} (ha : a < 12) : (pf T h).testBit a = (hs T a).testBit h := by rw [pf, msk_bit, decide_eq_true ha, Bool.true_and]
/-- less than what was found -/
def lso (o : Option (Nat × Nat)) (x : Nat) : Bool := match o with
  | none => true
  | some q => decide (x < q.2)
def wO (o : Option (Nat × Nat)) : Int32 := match o with
  | none => -6
  | some q => nI q.1
def fO (o : Option (Nat × Nat)) : Int32 := match o with
  | none => -6
  | some q => nI q.2
def fD (d : Nat) (o : Option (Nat × Nat)) : Nat := match o with
  | none => d
  | some q => q.2
/-- where best to read: behind the first n places -/
def bs (T : town) (h : Nat) : Nat → Option (Nat × Nat)
  | 0 => none
  | n + 1 => if (hs T n).testBit h = true ∧ lso (bs T h n) (cn (hs T n) - 1) = true then some (n, cn (hs T n) - 1) else bs T h n
theorem bs_lt (T : town) (h : Nat) : ∀ n q, bs T h n = some q → q.1 < n ∧ q.2 < 12
  | 0, q, e => by cases e
  | n + 1, q, e => by
    unfold bs at e
    split at e
    · cases e
      have := cn_le (hs T n)
      exact ⟨by show n < n + 1; omega, by show cn (hs T n) - 1 < 12; omega⟩
    · have := bs_lt T h n q e
      omega
theorem cn_pos {b h : Nat} (hh : h < 12) (hb : b.testBit h = true) : 0 < cn b := fb_ct_pos.mpr ⟨h, hh, hb⟩
theorem lso_ {o : Option (Nat × Nat)} {x d : Nat} (hd : x < d) : lso o x = true ↔ x < fD d o := by
  cases o with
  | none => exact ⟨fun _ => hd, fun _ => rfl⟩
  | some q => exact decide_eq_true_iff
theorem wO_m6 {o : Option (Nat × Nat)} (h : ∀ q, o = some q → q.1 < 1000) : wO o = -6 ↔ o = none := by
  cases o with
  | none => exact ⟨fun _ => rfl, fun _ => rfl⟩
  | some q =>
    refine ⟨fun z => ?_, fun z => by cases z⟩
    have h1 := h q rfl
    have h2 : nI q.1 = -6 := z
    have h3 := nI_pos (n := q.1) (by omega)
    rw [h2] at h3
    exact absurd (by decide) h3
theorem fO_m6 {o : Option (Nat × Nat)} (h : ∀ q, o = some q → q.2 < 1000) : fO o = -6 ↔ o = none := by
  cases o with
  | none => exact ⟨fun _ => rfl, fun _ => rfl⟩
  | some q =>
    refine ⟨fun z => ?_, fun z => by cases z⟩
    have h1 := h q rfl
    have h2 : nI q.2 = -6 := z
    have h3 := nI_pos (n := q.2) (by omega)
    rw [h2] at h3
    exact absurd (by decide) h3
/-- k turns of F from i on -/
def fd {X : Type} (F : Nat → X → X) : Nat → Nat → X → X
  | 0, _, x => x
  | k + 1, i, x => fd F k (i + 1) (F i x)
theorem fd_s {X : Type} (F : Nat → X → X) {n i : Nat} (h : i < n) (x : X) : fd F (n - i) i x = fd F (n - (i + 1)) (i + 1) (F i x) := by
  rw [show n - i = (n - (i + 1)) + 1 by omega]; rfl
theorem fd_0 {X : Type} (F : Nat → X → X) (n : Nat) (x : X) : fd F (n - n) n x = x := by rw [Nat.sub_self]; rfl
/-- thirds: how many, the first -/
def th1 (T : town) (h p q r : Nat) (x : Nat × Option Nat) : Nat × Option Nat := if (hs T p &&& hs T q) &&& hs T r = 2 ^ h then (x.1 + 1, if x.1 = 0 then some (10000 * p + 100 * q + r) else x.2) else x
def th2 (T : town) (h p q : Nat) (x : Nat × Option Nat) : Nat × Option Nat := fd (th1 T h p q) (12 - q) q x
def th3 (T : town) (h p : Nat) (x : Nat × Option Nat) : Nat × Option Nat := fd (th2 T h p) (12 - p) p x
def th4 (T : town) (h : Nat) : Nat × Option Nat := fd (th3 T h) (12 - 0) 0 (0, none)
/-- all of some letters can be read between two houses -/
def all1 (T : town) (ls w e : Nat) : Bool := (List.range 6).all (fun l => !ls.testBit l || (List.range (e + 1 - w)).any (fun j => (hs T (w + j)).testBit (T 2 l)))
def stp (pl w e : Nat) : Nat := (pl - w) + (e - pl) + (if e - pl < pl - w then e - pl else pl - w)
def rd1 (T : town) (ls w e : Nat) (x : Option (Nat × Nat)) : Option (Nat × Nat) := if all1 T ls w e = true ∧ lso x (stp (T 6 5) w e) = true then some (w, stp (T 6 5) w e) else x
def rd2 (T : town) (ls w : Nat) (x : Option (Nat × Nat)) : Option (Nat × Nat) := fd (rd1 T ls w) (12 - T 6 5) (T 6 5) x
def rd3 (T : town) (ls : Nat) : Option (Nat × Nat) := fd (rd2 T ls) (T 6 5 + 1 - 0) 0 none
/-- the places that fit the sights -/
def ftt (T : town) (a : Nat) : Bool := (List.range (T 6 7)).all (fun i => (hs T a).testBit (T 7 i) == (T 8 i == 1))
def atS (T : town) : Nat := msk (ftt T) 12
theorem atS_lt (T : town) : atS T < 4096 := msk_lt _ 12
/-- whom to ask -/
def wrs (T : town) (h : Nat) : Nat := max (cn (atS T &&& pf T h)) (cn (atS T) - cn (atS T &&& pf T h))
def ak (T : town) : Nat → Option (Nat × Nat)
  | 0 => none
  | n + 1 => if lso (ak T n) (wrs T n) = true then some (n, wrs T n) else ak T n
section LISTEN
variable {A : Nat → List Int32} {I : Nat → Nat → Int32} {J : Nat → List Int64} {U : Nat → Nat → Int64} {T : town}
set_option maxHeartbeats 1000000 in
set_option maxRecDepth 20000 in
theorem c_L_placesFor {H : Nat → Nat} (h32 : A 32 = lst 12 H) (hH : ∀ a, a < 12 → H a < 4096) {h : Nat} (hh : h < 12) : AD m_L_placesFor r_L_placesFor (HH A I J U) [.ref 31, .int (nI h)] (some (.int (nI (msk (fun a => (H a).testBit h) 12)))) (HH A I J U) := by
  refine am_of (by decide) rfl (by first | decide | exact Nat.le_of_ble_eq_true rfl) ?_
  refine aw_iconst (pc := 0) (v := 0) d_L_placesFor_0 (by decide) ?_
  refine aw_istore_n (pc := 1) (ls' := [(0, _), (1, _), (2, _)]) d_L_placesFor_1 rfl (by decide) rfl ?_
  refine aw_iconst (pc := 2) (v := 0) d_L_placesFor_2 (by decide) ?_
  refine aw_istore_n (pc := 3) (ls' := [(0, _), (1, _), (2, _), (3, _)]) d_L_placesFor_3 rfl (by decide) rfl ?_
  refine lp_i (fun i b => AW m_L_placesFor r_L_placesFor ax_E0 (ax_Zm (fun q1 q2 => q1 = some (.int (nI (msk (fun a => (H a).testBit h) 12))) ∧ q2 = HH A I J U) 0 0) (HH A I J U) 0 0 4 [(0, .ref 31), (1, .int (nI h)), (2, .int (nI b)), (3, .int (nI i))] []) (fun i b => b = msk (fun a => (H a).testBit h) i) 12 ?_ ?_ 12 0 0 (by omega) rfl
  · intro b hV
    refine aw_iload_n (pc := 4) d_L_placesFor_4 rfl rfl ?_
    refine aw_bipush (pc := 5) (v := 12) d_L_placesFor_5 (by decide) ?_
    refine awn_ge (pc := 7) (tgt := 35) (12) (12) d_L_placesFor_7 (by decide) rfl rfl (by omega) (by omega) (fun _ => ?_) (fun hh => absurd hh (by omega))
    refine aw_iload_n (pc := 35) d_L_placesFor_35 rfl rfl ?_
    refine aw_iret (pc := 36) d_L_placesFor_36 rfl ?_
    exact ⟨by rw [hV], rfl⟩
  · intro i b hi hV ih
    have hHi := hH i hi
    refine aw_iload_n (pc := 4) d_L_placesFor_4 rfl rfl ?_
    refine aw_bipush (pc := 5) (v := 12) d_L_placesFor_5 (by decide) ?_
    refine awn_ge (pc := 7) (tgt := 35) (i) (12) d_L_placesFor_7 (by decide) rfl rfl (by omega) (by omega) (fun hh => absurd hh (by omega)) (fun _ => ?_)
    refine aw_aload_n (pc := 10) d_L_placesFor_10 rfl rfl ?_
    refine aw_get (pc := 11) d_L_placesFor_11 lf_L_9 hg_31 rfl ?_
    refine aw_iload_n (pc := 14) d_L_placesFor_14 rfl rfl ?_
    refine aw_ildN (pc := 15) (j := i) d_L_placesFor_15 hg_32 h32 rfl hi (by decide) ?_
    refine aw_iload_n (pc := 16) d_L_placesFor_16 rfl rfl ?_
    refine aw_callT1 (pc := 17) (c_V_hasBit _ _ _) ok_V_hasBit d_L_placesFor_17 ln_L_32 rfl rfl ⟨by decide, by decide⟩ (Nat.le_of_ble_eq_true rfl) rfl rfl ⟨by decide, by decide⟩ ?_
    refine aw_bz (pc := 20) (tgt := 29) d_L_placesFor_20 (by decide) (fun h20 => ?_) (fun h20 => ?_)
    · have h20 : ¬ (H i).testBit h = true := fun z => h20 ((hb_nI (by omega) (by omega)).mpr z)
      refine aw_incN (pc := 29) (ls' := [(0, _), (1, _), (2, _), (3, _)]) (i := i) d_L_placesFor_29 rfl rfl (by decide) rfl ?_
      refine aw_goto (pc := 32) (tgt := 4) d_L_placesFor_32 (by decide) ?_
      exact ih b (by rw [msk, if_neg h20, Nat.or_zero]; exact hV)
    · have h20 := (hb_nI (by omega) (by omega)).mp h20
      refine aw_iload_n (pc := 23) d_L_placesFor_23 rfl rfl ?_
      refine aw_iconst (pc := 24) (v := 1) d_L_placesFor_24 (by decide) ?_
      refine aw_iload_n (pc := 25) d_L_placesFor_25 rfl rfl ?_
      refine aw_ishl (pc := 26) d_L_placesFor_26 ?_
      refine aw_ior (pc := 27) d_L_placesFor_27 ?_
      refine aw_top (or_bit (by omega)) ?_
      refine aw_istore_n (pc := 28) (ls' := [(0, _), (1, _), (2, _), (3, _)]) d_L_placesFor_28 rfl (by decide) rfl ?_
      refine aw_incN (pc := 29) (ls' := [(0, _), (1, _), (2, _), (3, _)]) (i := i) d_L_placesFor_29 rfl rfl (by decide) rfl ?_
      refine aw_goto (pc := 32) (tgt := 4) d_L_placesFor_32 (by decide) ?_
      exact ih (b ||| 2 ^ i) (by rw [msk, if_pos h20, hV])
set_option maxHeartbeats 1000000 in
set_option maxRecDepth 20000 in
theorem c_L_listen (hT : okT T) (hE : enS A I 1 T) {f g : Nat → Nat} (h32 : A 32 = lst 12 f) (h33 : A 33 = lst 12 g) : AD m_L_listen r_L_listen (HH A I J U) [.ref 31, .ref 1] none (HH (u1 (u1 A 32 (lst 12 (hs T))) 33 (lst 12 (pf T))) I J U) := by
  refine am_of (by decide) rfl (by first | decide | exact Nat.le_of_ble_eq_true rfl) ?_
  have hEh := hE.h
  have hEh2 : ∀ F, enH (u1 A 32 (lst 12 F)) I 1 T := fun F => ⟨hEh.1, hEh.2⟩
  have hop := hT.2.2.2.1
  have b6 := hE.2.1
  refine aw_iconst (pc := 0) (v := 0) d_L_listen_0 (by decide) ?_
  refine aw_istore_n (pc := 1) (ls' := [(0, _), (1, _), (2, _)]) d_L_listen_1 rfl (by decide) rfl ?_
  refine aw_eq (h' := HH (u1 A 32 (lst 12 f)) I J U) ?_ (by rw [u1_self h32]) rfl rfl
  refine lp_i (fun i F => AW m_L_listen r_L_listen ax_E0 (ax_Zm (fun q1 q2 => q1 = none ∧ q2 = HH (u1 (u1 A 32 (lst 12 (hs T))) 33 (lst 12 (pf T))) I J U) 0 0) (HH (u1 A 32 (lst 12 F)) I J U) 0 0 2 [(0, .ref 31), (1, .ref 1), (2, .int (nI i))] []) (fun i F => ∀ j, j < i → F j = hs T j) 12 ?_ ?_ 12 0 f (by omega) (fun j hj => absurd hj (by omega))
  · intro F hV
    rw [lst_cong hV]
    refine aw_iload_n (pc := 2) d_L_listen_2 rfl rfl ?_
    refine aw_bipush (pc := 3) (v := 12) d_L_listen_3 (by decide) ?_
    refine awn_ge (pc := 5) (tgt := 29) (12) (12) d_L_listen_5 (by decide) rfl rfl (by omega) (by omega) (fun _ => ?_) (fun hh => absurd hh (by omega))
    refine aw_iconst (pc := 29) (v := 0) d_L_listen_29 (by decide) ?_
    refine aw_istore_n (pc := 30) (ls' := [(0, _), (1, _), (2, _)]) d_L_listen_30 rfl (by decide) rfl ?_
    refine aw_eq (h' := HH (u1 (u1 A 32 (lst 12 (hs T))) 33 (lst 12 g)) I J U) ?_ (by rw [u1_self (f := u1 A 32 (lst 12 (hs T))) (k := 33) h33]) rfl rfl
    refine lp_i (fun i G => AW m_L_listen r_L_listen ax_E0 (ax_Zm (fun q1 q2 => q1 = none ∧ q2 = HH (u1 (u1 A 32 (lst 12 (hs T))) 33 (lst 12 (pf T))) I J U) 0 0) (HH (u1 (u1 A 32 (lst 12 (hs T))) 33 (lst 12 G)) I J U) 0 0 31 [(0, .ref 31), (1, .ref 1), (2, .int (nI i))] []) (fun i G => ∀ j, j < i → G j = pf T j) 12 ?_ ?_ 12 0 g (by omega) (fun j hj => absurd hj (by omega))
    · intro G hV2
      refine aw_iload_n (pc := 31) d_L_listen_31 rfl rfl ?_
      refine aw_bipush (pc := 32) (v := 12) d_L_listen_32 (by decide) ?_
      refine awn_ge (pc := 34) (tgt := 54) (12) (12) d_L_listen_34 (by decide) rfl rfl (by omega) (by omega) (fun _ => ?_) (fun hh => absurd hh (by omega))
      refine aw_vret (pc := 54) d_L_listen_54 rfl ?_
      exact ⟨rfl, by rw [lst_cong hV2]⟩
    · intro i G hi hV2 ih
      refine aw_iload_n (pc := 31) d_L_listen_31 rfl rfl ?_
      refine aw_bipush (pc := 32) (v := 12) d_L_listen_32 (by decide) ?_
      refine awn_ge (pc := 34) (tgt := 54) (i) (12) d_L_listen_34 (by decide) rfl rfl (by omega) (by omega) (fun hh => absurd hh (by omega)) (fun _ => ?_)
      refine aw_aload_n (pc := 37) d_L_listen_37 rfl rfl ?_
      refine aw_get (pc := 38) d_L_listen_38 lf_L_15 hg_31 rfl ?_
      refine aw_iload_n (pc := 41) d_L_listen_41 rfl rfl ?_
      refine aw_aload_n (pc := 42) d_L_listen_42 rfl rfl ?_
      refine aw_iload_n (pc := 43) d_L_listen_43 rfl rfl ?_
      refine aw_callV1 (pc := 44) (c_L_placesFor (H := hs T) rfl (fun a _ => hs_lt T a) hi) ok_L_placesFor d_L_listen_44 lm_L_28 hg_31 rfl rfl ⟨by decide, by decide⟩ (Nat.le_of_ble_eq_true rfl) rfl rfl ⟨by decide, by decide⟩ ?_
      refine aw_istN (pc := 47) (j := i) (v := pf T i) d_L_listen_47 hg_33 rfl rfl rfl hi (by decide) (hs_33 _) ?_
      refine aw_incN (pc := 48) (ls' := [(0, _), (1, _), (2, _)]) (i := i) d_L_listen_48 rfl rfl (by decide) rfl ?_
      refine aw_goto (pc := 51) (tgt := 31) d_L_listen_51 (by decide) ?_
      refine aw_eq (ih (up G i (pf T i)) (fun j hj => ?_)) (by rw [u1_u1]) rfl rfl
      by_cases e : j = i
      · subst e; rw [up_s]
      · rw [up_n _ _ e]; exact hV2 j (by omega)
  · intro i F hi hV ih
    refine aw_iload_n (pc := 2) d_L_listen_2 rfl rfl ?_
    refine aw_bipush (pc := 3) (v := 12) d_L_listen_3 (by decide) ?_
    refine awn_ge (pc := 5) (tgt := 29) (i) (12) d_L_listen_5 (by decide) rfl rfl (by omega) (by omega) (fun hh => absurd hh (by omega)) (fun _ => ?_)
    refine aw_aload_n (pc := 8) d_L_listen_8 rfl rfl ?_
    refine aw_get (pc := 9) d_L_listen_9 lf_L_9 hg_31 rfl ?_
    refine aw_iload_n (pc := 12) d_L_listen_12 rfl rfl ?_
    refine aw_aload_n (pc := 13) d_L_listen_13 rfl rfl ?_
    refine aw_iload_n (pc := 14) d_L_listen_14 rfl rfl ?_
    refine aw_aload_n (pc := 15) d_L_listen_15 rfl rfl ?_
    refine aw_geti (pc := 16) (y := (nI (T 6 0))) d_L_listen_16 lf_L_18 hg_1 rfl b6 ?_
    refine aw_callV1 (pc := 19) (c_S_hearers_1 hT (hEh2 F) hi hop) ok_S_hearers d_L_listen_19 lm_L_24 hg_1 rfl rfl ⟨by decide, by decide⟩ (Nat.le_of_ble_eq_true rfl) rfl rfl ⟨by decide, by decide⟩ ?_
    refine aw_istN (pc := 22) (j := i) (v := hs T i) d_L_listen_22 hg_32 rfl rfl rfl hi (by decide) (hs_32 _) ?_
    refine aw_incN (pc := 23) (ls' := [(0, _), (1, _), (2, _)]) (i := i) d_L_listen_23 rfl rfl (by decide) rfl ?_
    refine aw_goto (pc := 26) (tgt := 2) d_L_listen_26 (by decide) ?_
    refine aw_eq (ih (up F i (hs T i)) (fun j hj => ?_)) (by rw [u1_u1]) rfl rfl
    by_cases e : j = i
    · subst e; rw [up_s]
    · rw [up_n _ _ e]; exact hV j (by omega)
set_option maxHeartbeats 1000000 in
set_option maxRecDepth 20000 in
theorem c_L_bestFor (h32 : A 32 = lst 12 (hs T)) {h : Nat} (hh : h < 12) {p : Prop} [Decidable p] : AD m_L_bestFor r_L_bestFor (HH A I J U) [.ref 31, .int (nI h), .int (b2 p)] (some (.int (if p then fO (bs T h 12) else wO (bs T h 12)))) (HH A I J U) := by
  refine am_of (by decide) rfl (by first | decide | exact Nat.le_of_ble_eq_true rfl) ?_
  refine aw_bipush (pc := 0) (v := 12) d_L_bestFor_0 (by decide) ?_
  refine aw_istore_n (pc := 2) (ls' := [(0, _), (1, _), (2, _), (3, _)]) d_L_bestFor_2 rfl (by decide) rfl ?_
  refine aw_bipush (pc := 3) (v := (-6)) d_L_bestFor_3 (by decide) ?_
  refine aw_istore (pc := 5) (ls' := [(0, _), (1, _), (2, _), (3, _), (4, _)]) d_L_bestFor_5 (by decide) rfl ?_
  refine aw_iconst (pc := 7) (v := 0) d_L_bestFor_7 (by decide) ?_
  refine aw_istore (pc := 8) (ls' := [(0, _), (1, _), (2, _), (3, _), (4, _), (5, _)]) d_L_bestFor_8 (by decide) rfl ?_
  refine lp_i (fun i x => AW m_L_bestFor r_L_bestFor ax_E0 (ax_Zm (fun q1 q2 => q1 = some (.int (if p then fO (bs T h 12) else wO (bs T h 12))) ∧ q2 = HH A I J U) 0 0) (HH A I J U) 0 0 10 [(0, .ref 31), (1, .int (nI h)), (2, .int (b2 p)), (3, .int (nI (fD 12 x))), (4, .int (wO x)), (5, .int (nI i))] []) (fun i x => x = bs T h i) 12 ?_ ?_ 12 0 none (by omega) rfl
  · intro x hV
    subst hV
    have hl := bs_lt T h 12
    refine aw_iload (pc := 10) d_L_bestFor_10 rfl ?_
    refine aw_bipush (pc := 12) (v := 12) d_L_bestFor_12 (by decide) ?_
    refine awn_ge (pc := 14) (tgt := 64) (12) (12) d_L_bestFor_14 (by decide) rfl rfl (by omega) (by omega) (fun _ => ?_) (fun hh => absurd hh (by omega))
    refine aw_iload_n (pc := 64) d_L_bestFor_64 rfl rfl ?_
    refine aw_bz (pc := 65) (tgt := 79) d_L_bestFor_65 (by decide) (fun h65 => ?_) (fun h65 => ?_)
    · refine aw_iload (pc := 79) d_L_bestFor_79 rfl ?_
      refine aw_iret (pc := 81) d_L_bestFor_81 rfl ?_
      exact ⟨by rw [if_neg h65], rfl⟩
    · refine aw_iload (pc := 68) d_L_bestFor_68 rfl ?_
      refine aw_bipush (pc := 70) (v := (-6)) d_L_bestFor_70 (by decide) ?_
      refine aw_icmp_eq (pc := 72) (tgt := 79) d_L_bestFor_72 (by decide) (fun h72 => ?_) (fun h72 => ?_)
      · have h72 := (wO_m6 (fun q hq => by have := hl q hq; omega)).mp h72
        refine aw_iload (pc := 79) d_L_bestFor_79 rfl ?_
        refine aw_iret (pc := 81) d_L_bestFor_81 rfl ?_
        exact ⟨by rw [if_pos h65, h72]; rfl, rfl⟩
      · have h72 : ¬ bs T h 12 = none := fun z => h72 (by rw [z]; rfl)
        refine aw_iload_n (pc := 75) d_L_bestFor_75 rfl rfl ?_
        refine aw_goto (pc := 76) (tgt := 81) d_L_bestFor_76 (by decide) ?_
        refine aw_iret (pc := 81) d_L_bestFor_81 rfl ?_
        refine ⟨?_, rfl⟩
        rw [if_pos h65]
        cases hq : bs T h 12 with
        | none => exact absurd hq h72
        | some q => rfl
  · intro i x hi hV ih
    subst hV
    have hHi := hs_lt T i
    have hcn := cn_le (hs T i)
    have hl := bs_lt T h i
    have hfd : fD 12 (bs T h i) ≤ 12 := by
      cases hq : bs T h i with
      | none => exact Nat.le_refl _
      | some q => have := hl q hq; show q.2 ≤ 12; omega
    refine aw_iload (pc := 10) d_L_bestFor_10 rfl ?_
    refine aw_bipush (pc := 12) (v := 12) d_L_bestFor_12 (by decide) ?_
    refine awn_ge (pc := 14) (tgt := 64) (i) (12) d_L_bestFor_14 (by decide) rfl rfl (by omega) (by omega) (fun hh => absurd hh (by omega)) (fun _ => ?_)
    refine aw_aload_n (pc := 17) d_L_bestFor_17 rfl rfl ?_
    refine aw_get (pc := 18) d_L_bestFor_18 lf_L_9 hg_31 rfl ?_
    refine aw_iload (pc := 21) d_L_bestFor_21 rfl ?_
    refine aw_ildN (pc := 23) (j := i) d_L_bestFor_23 hg_32 h32 rfl hi (by decide) ?_
    refine aw_callS1 (pc := 24) (c_B_bitCount hHi) ok_B_bitCount d_L_bestFor_24 lm_L_36 rfl rfl ⟨by decide, by decide⟩ (Nat.le_of_ble_eq_true rfl) rfl rfl ⟨by decide, by decide⟩ ?_
    refine aw_iconst (pc := 27) (v := 1) d_L_bestFor_27 (by decide) ?_
    refine aw_isub (pc := 28) d_L_bestFor_28 ?_
    refine aw_istore (pc := 29) (ls' := [(0, _), (1, _), (2, _), (3, _), (4, _), (5, _), (6, _)]) d_L_bestFor_29 (by decide) rfl ?_
    refine aw_aload_n (pc := 31) d_L_bestFor_31 rfl rfl ?_
    refine aw_get (pc := 32) d_L_bestFor_32 lf_L_9 hg_31 rfl ?_
    refine aw_iload (pc := 35) d_L_bestFor_35 rfl ?_
    refine aw_ildN (pc := 37) (j := i) d_L_bestFor_37 hg_32 h32 rfl hi (by decide) ?_
    refine aw_iload_n (pc := 38) d_L_bestFor_38 rfl rfl ?_
    refine aw_callT1 (pc := 39) (c_V_hasBit _ _ _) ok_V_hasBit d_L_bestFor_39 ln_L_32 rfl rfl ⟨by decide, by decide⟩ (Nat.le_of_ble_eq_true rfl) rfl rfl ⟨by decide, by decide⟩ ?_
    refine aw_bz (pc := 42) (tgt := 58) d_L_bestFor_42 (by decide) (fun h42 => ?_) (fun h42 => ?_)
    · have h42 : ¬ (hs T i).testBit h = true := fun z => h42 ((hb_nI (by omega) (by omega)).mpr z)
      refine aw_incN (pc := 58) (ls' := [(0, _), (1, _), (2, _), (3, _), (4, _), (5, _), (6, _)]) (i := i) d_L_bestFor_58 rfl rfl (by decide) rfl ?_
      refine aw_goto (pc := 61) (tgt := 10) d_L_bestFor_61 (by decide) ?_
      refine aw_sub (ls' := [(0, _), (1, _), (2, _), (3, _), (4, _), (5, _)]) [0, 1, 2, 3, 4, 5] rfl ?_
      exact ih (bs T h i) (by rw [bs, if_neg (fun z => h42 z.1)])
    · have h42 := (hb_nI (by omega) (by omega)).mp h42
      have hp := cn_pos hh h42
      have es : nI (cn (hs T i)) - 1 = nI (cn (hs T i) - 1) := pk_sub (a := cn (hs T i)) (b := 1) (by omega)
      refine aw_iload (pc := 45) d_L_bestFor_45 rfl ?_
      refine aw_iload_n (pc := 47) d_L_bestFor_47 rfl rfl ?_
      refine awn_ge (pc := 48) (tgt := 58) (cn (hs T i) - 1) (fD 12 (bs T h i)) d_L_bestFor_48 (by decide) es rfl (by omega) (by omega) (fun h48 => ?_) (fun h48 => ?_)
      · refine aw_incN (pc := 58) (ls' := [(0, _), (1, _), (2, _), (3, _), (4, _), (5, _), (6, _)]) (i := i) d_L_bestFor_58 rfl rfl (by decide) rfl ?_
        refine aw_goto (pc := 61) (tgt := 10) d_L_bestFor_61 (by decide) ?_
        refine aw_sub (ls' := [(0, _), (1, _), (2, _), (3, _), (4, _), (5, _)]) [0, 1, 2, 3, 4, 5] rfl ?_
        exact ih (bs T h i) (by rw [bs, if_neg (fun z => absurd ((lso_ (d := 12) (by omega)).mp z.2) (by omega))])
      · refine aw_iload (pc := 51) d_L_bestFor_51 rfl ?_
        refine aw_istore_n (pc := 53) (ls' := [(0, _), (1, _), (2, _), (3, _), (4, _), (5, _), (6, _)]) d_L_bestFor_53 rfl (by decide) rfl ?_
        refine aw_iload (pc := 54) d_L_bestFor_54 rfl ?_
        refine aw_istore (pc := 56) (ls' := [(0, _), (1, _), (2, _), (3, _), (4, _), (5, _), (6, _)]) d_L_bestFor_56 (by decide) rfl ?_
        refine aw_incN (pc := 58) (ls' := [(0, _), (1, _), (2, _), (3, _), (4, _), (5, _), (6, _)]) (i := i) d_L_bestFor_58 rfl rfl (by decide) rfl ?_
        refine aw_goto (pc := 61) (tgt := 10) d_L_bestFor_61 (by decide) ?_
        refine aw_sub (ls' := [(0, _), (1, _), (2, _), (3, _), (4, _), (5, _)]) [0, 1, 2, 3, 4, 5] rfl ?_
        exact aw_eq (ih (some (i, cn (hs T i) - 1)) (by rw [bs, if_pos ⟨h42, (lso_ (d := 12) (by omega)).mpr h48⟩])) rfl (by rw [es]; rfl) rfl
end LISTEN

