/-! arrays of naturals, the town -/
def lst (n : Nat) (f : Nat → Nat) : List Int32 := (List.range n).map (fun j => nI (f j))
theorem lst_len (n : Nat) (f : Nat → Nat) : (lst n f).length = n := by simp [lst]
theorem lst_at {n : Nat} {f : Nat → Nat} {j : Nat} (h : j < n) : (lst n f)[j]? = some (nI (f j)) := by simp [lst, h]
theorem lst_get {n : Nat} {f : Nat → Nat} {j : Nat} (h : j < n) : (lst n f).getD j 0 = nI (f j) := by
  rw [List.getD_eq_getElem?_getD, lst_at h]; rfl
theorem lst_cong {n : Nat} {f g : Nat → Nat} (h : ∀ j, j < n → f j = g j) : lst n f = lst n g := by
  apply List.map_congr_left
  intro j hj
  rw [h j (List.mem_range.mp hj)]
def up (f : Nat → Nat) (j v : Nat) : Nat → Nat := fun i => if i = j then v else f i
theorem up_s (f : Nat → Nat) (j v : Nat) : up f j v j = v := if_pos rfl
theorem up_n (f : Nat → Nat) {j i : Nat} (v : Nat) (h : ¬ i = j) : up f j v i = f i := if_neg h
theorem lst_set (n : Nat) (f : Nat → Nat) (j v : Nat) : (lst n f).set j (nI v) = lst n (up f j v) := by
  apply List.ext_getElem?
  intro i
  rw [List.getElem?_set]
  by_cases hi : i < n
  · by_cases hj : j = i
    · subst hj
      rw [if_pos rfl, if_pos (by rw [lst_len]; exact hi), lst_at hi, up_s]
    · rw [if_neg hj, lst_at hi, lst_at hi, up_n f v (fun z => hj z.symm)]
  · have h1 : (lst n f)[i]? = none := List.getElem?_eq_none (by rw [lst_len]; omega)
    have h2 : (lst n (up f j v))[i]? = none := List.getElem?_eq_none (by rw [lst_len]; omega)
    rw [h1, h2, lst_len]
    split
    · split
      · omega
      · rfl
    · rfl
theorem lst_inj {n : Nat} {f g : Nat → Nat} (h : lst n f = lst n g) {j : Nat} (hj : j < n) : nI (f j) = nI (g j) := by
  have := lst_at (f := f) hj
  rw [h, lst_at hj] at this
  exact (Option.some.inj this).symm
theorem lst_0 (n : Nat) : List.replicate n (0 : Int32) = lst n (fun _ => 0) := by
  apply List.ext_getElem?
  intro i
  by_cases hi : i < n
  · rw [lst_at hi, List.getElem?_replicate, if_pos hi]; rfl
  · rw [List.getElem?_eq_none (by simp; omega), List.getElem?_eq_none (by rw [lst_len]; omega)]
section ROWN
variable {M : ax_M} {R : Room} {E : ax_Et} {Z : ax_Zt} {h : ax_H} {kc ks pc : Nat} {ls : List (Nat × Value)} {st : List Value}
theorem aw_geti {idx ci j k : Nat} {fs : List Value} {x y : Int32} (hd : decode M.2.1 pc = .ok (.getfield idx, 3)) (hL : fl_ok M.1.cls idx ci j) (hk : h[k]? = some (ob ci fs)) (hv : fs[j]? = some (.int x)) (e : x = y) (kk : AW M R E Z h kc ks (pc + 3) ls (.int y :: st)) : AW M R E Z h kc ks pc ls (.ref k :: st) := by
  subst e; exact aw_get hd hL hk hv kk
theorem aw_ildN {k j n : Nat} {i : Int32} {xs : List Int32} {f : Nat → Nat} (hd : decode M.2.1 pc = .ok (.iaload, 1)) (hk : h[k]? = some (ia xs)) (hx : xs = lst n f) (hi : i = nI j) (hj : j < n) (hm : n < 2 ^ 31) (kk : AW M R E Z h kc ks (pc + 1) ls (.int (nI (f j)) :: st)) : AW M R E Z h kc ks pc ls (.int i :: .ref k :: st) := by
  subst hx
  refine aw_iald hd hk (lst_len n f) hi hj hm ?_
  rw [lst_get hj]; exact kk
theorem aw_istN {k j n v : Nat} {i x : Int32} {xs : List Int32} {f : Nat → Nat} {h' : ax_H} (hd : decode M.2.1 pc = .ok (.iastore, 1)) (hk : h[k]? = some (ia xs)) (hx : xs = lst n f) (hi : i = nI j) (hv : x = nI v) (hj : j < n) (hm : n < 2 ^ 31) (hs : h.set k (ia (lst n (up f j v))) = h') (kk : AW M R E Z h' kc ks (pc + 1) ls st) : AW M R E Z h kc ks pc ls (.int x :: .int i :: .ref k :: st) := by
  subst hx; subst hv
  refine aw_iast hd hk (lst_len n f) hi hj hm ?_ kk
  rw [lst_set]; exact hs
theorem aw_incN {j i : Nat} {x : Int32} {ls' : List (Nat × Value)} (hd : decode M.2.1 pc = .ok (.iinc j 1, 3)) (hv : lg ls j = some (.int x)) (hx : x = nI i) (hn : j < M.2.2.1) (hs : ls1 j (.int (nI (i + 1))) ls = ls') (k : AW M R E Z h kc ks (pc + 3) ls' st) : AW M R E Z h kc ks pc ls st :=
  aw_iinc hd hv (by rw [hx]; exact nI_1 i) hn hs k
theorem aw_decN {j i : Nat} {x : Int32} {ls' : List (Nat × Value)} (hd : decode M.2.1 pc = .ok (.iinc j (-1), 3)) (hv : lg ls j = some (.int x)) (hx : x = nI (i + 1)) (hn : j < M.2.2.1) (hs : ls1 j (.int (nI i)) ls = ls') (k : AW M R E Z h kc ks (pc + 3) ls' st) : AW M R E Z h kc ks pc ls st :=
  aw_iinc hd hv (by rw [hx]; exact pk_m1 i) hn hs k
/-- the top of the stack, rewritten -/
theorem aw_top {x y : Int32} (e : x = y) (k : AW M R E Z h kc ks pc ls (.int y :: st)) : AW M R E Z h kc ks pc ls (.int x :: st) := by
  subst e; exact k
theorem aw_topl {x y : Int64} (e : x = y) (k : AW M R E Z h kc ks pc ls (.long y :: st)) : AW M R E Z h kc ks pc ls (.long x :: st) := by
  subst e; exact k
end ROWN
/-- a town: row 0 facts, 1 walls, 2 for whom, 3 plain, 4 cipher, 5 keys, 6 scalars (0 open, 1 deaf, 2 read, 3 voice, 4 wind and 3, 5 place, 6 day, 7 sights), 7 houses of the sights, 8 whether they heard -/
abbrev town : Type := Nat → Nat → Nat
def okT (T : town) : Prop := (∀ j, j < 12 → T 0 j < 256) ∧ (∀ j, j < 11 → T 1 j ≤ 9) ∧ (∀ l, l < 6 → T 2 l < 12 ∧ T 3 l < 256 ∧ T 4 l < 256 ∧ T 5 l < 4096) ∧ T 6 0 < 4096 ∧ T 6 1 < 4096 ∧ T 6 2 < 64 ∧ (1 ≤ T 6 3 ∧ T 6 3 ≤ 40) ∧ T 6 4 ≤ 6 ∧ T 6 5 < 12 ∧ T 6 6 ≤ 99 ∧ T 6 7 ≤ 8 ∧ (∀ i, i < 8 → T 7 i < 12 ∧ T 8 i ≤ 1)
/-- what is lost from house k to the next one east, and from the next one east of k to k -/
def eL (T : town) (k : Nat) : Nat := T 1 k + 4 - T 6 4
def wL (T : town) (k : Nat) : Nat := T 1 k + T 6 4 - 2
def dE (T : town) (a n : Nat) : Nat := fb_sm (fun j => eL T (a + j)) n
def dW (T : town) (a n : Nat) : Nat := fb_sm (fun j => wL T (a - 1 - j)) n
/-- how loud, read at a, at h -/
def ld (T : town) (a h : Nat) : Nat := T 6 3 - (dE T a (h - a) + dW T a (a - h))
def he (T : town) (a op h : Nat) : Bool := !(T 6 1).testBit h && (decide (h = a) || (decide (3 ≤ ld T a h) || (decide (1 ≤ ld T a h) && op.testBit h)))
def HS (T : town) (a op : Nat) : Nat := msk (he T a op) 12
theorem dE_s (T : town) (a n : Nat) : dE T a (n + 1) = dE T a n + eL T (a + n) := rfl
theorem dW_s (T : town) (a n : Nat) : dW T a (n + 1) = dW T a n + wL T (a - 1 - n) := rfl
theorem dE_b {T : town} (h : okT T) {a n : Nat} (hn : a + n ≤ 11) : dE T a n ≤ n * 13 := by
  induction n with
  | zero => simp [dE, fb_sm]
  | succ n ih =>
    rw [dE_s]
    have h1 := ih (by omega)
    have h2 := h.2.1 (a + n) (by omega)
    unfold eL
    omega
theorem dW_b {T : town} (h : okT T) {a n : Nat} (hn : n ≤ a) (ha : a ≤ 11) : dW T a n ≤ n * 13 := by
  induction n with
  | zero => simp [dW, fb_sm]
  | succ n ih =>
    rw [dW_s]
    have h1 := ih (by omega)
    have h2 := h.2.1 (a - 1 - n) (by omega)
    have h3 := h.2.2.2.2.2.2.2.1
    unfold wL
    omega
theorem loss_e (w wi : Nat) : nI w + 1 - (nI wi - 3) = zI ((w : Int) + 4 - wi) := by
  rw [zI_nI, zI_nI, show (1 : Int32) = zI 1 from rfl, show (3 : Int32) = zI 3 from rfl, zI_add, zI_sub, zI_sub]
  congr 1; omega
theorem loss_w (w wi : Nat) : nI w + 1 + (nI wi - 3) = zI ((w : Int) + wi - 2) := by
  rw [zI_nI, zI_nI, show (1 : Int32) = zI 1 from rfl, show (3 : Int32) = zI 3 from rfl, zI_add, zI_sub, zI_add]
  congr 1; omega
theorem HS_lt (T : town) (a op : Nat) : HS T a op < 4096 := msk_lt _ 12
theorem HS_bit (T : town) (a op : Nat) {h : Nat} (hh : h < 12) : (HS T a op).testBit h = he T a op h := by
  rw [HS, msk_bit, decide_eq_true hh, Bool.true_and]
theorem ld_e (T : town) {a h : Nat} (hh : a ≤ h) : ld T a h = T 6 3 - dE T a (h - a) := by
  unfold ld
  rw [show a - h = 0 by omega, show dW T a 0 = 0 from rfl, Nat.add_zero]
theorem ld_w (T : town) {a h : Nat} (hh : h ≤ a) : ld T a h = T 6 3 - dW T a (a - h) := by
  unfold ld
  rw [show h - a = 0 by omega, show dE T a 0 = 0 from rfl, Nat.zero_add]
theorem or_bit {b i : Nat} (hi : i < 31) : nI b ||| ((1 : Int32) <<< (nI i &&& 31)) = nI (b ||| 2 ^ i) := by rw [sh1 hi, fa_or]
theorem or_lt {b i : Nat} (hb : b < 4096) (hi : i < 12) : b ||| 2 ^ i < 4096 := Nat.or_lt_two_pow (n := 12) hb (Nat.pow_lt_pow_right (by omega) hi)
def rc (T : town) (a le h : Nat) : Bool := decide (h = a) || decide (le ≤ ld T a h)
theorem bt_nI (n : Nat) {i : Nat} (hi : i < 32) : bt (nI n) i = n.testBit i := by
  show (BitVec.ofNat 32 n).getLsbD i = _
  rw [BitVec.getLsbD_ofNat, decide_eq_true hi, Bool.true_and]
theorem andn {x d : Nat} (hx : x < 4096) : nI x &&& (nI d ^^^ (-1)) = nI (msk (fun h => x.testBit h && !d.testBit h) 12) := by
  apply b_ext
  intro i hi
  rw [b_and, b_xor, b_m1 i hi, bt_nI _ hi, bt_nI _ hi, bt_nI _ hi, msk_bit]
  by_cases h1 : i < 12
  · simp [h1]
  · rw [Nat.testBit_lt_two_pow (Nat.lt_of_lt_of_le hx (Nat.pow_le_pow_right (n := 2) (i := 12) (by decide) (by omega))), decide_eq_false h1]; simp
/-- what hearing takes of a street's cells, and of the reference's -/
def enH (A : Nat → List Int32) (I : Nat → Nat → Int32) (k : Nat) (T : town) : Prop := A (k + 2) = lst 11 (T 1) ∧ I k 7 = nI (T 6 1) ∧ I k 9 = nI (T 6 3) ∧ I k 10 = nI (T 6 4) - 3
def enG (A : Nat → List Int32) (I : Nat → Nat → Int32) (T : town) : Prop := A 39 = lst 11 (T 1) ∧ I 36 2 = nI (T 6 1) ∧ I 36 4 = nI (T 6 3) ∧ I 36 5 = nI (T 6 4) - 3
