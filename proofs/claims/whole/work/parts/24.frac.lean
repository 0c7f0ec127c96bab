/-! long rows; rows of ways, fractions -/
def lsl (n : Nat) (f : Nat → Nat) : List Int64 := (List.range n).map (fun j => lN (f j))
theorem lsl_len (n : Nat) (f : Nat → Nat) : (lsl n f).length = n := by simp [lsl]
theorem lsl_at {n : Nat} {f : Nat → Nat} {j : Nat} (h : j < n) : (lsl n f)[j]? = some (lN (f j)) := by simp [lsl, h]
theorem lsl_get {n : Nat} {f : Nat → Nat} {j : Nat} (h : j < n) : (lsl n f).getD j 0 = lN (f j) := by
  rw [List.getD_eq_getElem?_getD, lsl_at h]; rfl
theorem lsl_cong {n : Nat} {f g : Nat → Nat} (h : ∀ j, j < n → f j = g j) : lsl n f = lsl n g := by
  apply List.map_congr_left
  intro j hj
  rw [h j (List.mem_range.mp hj)]
theorem lsl_set (n : Nat) (f : Nat → Nat) (j v : Nat) : (lsl n f).set j (lN v) = lsl n (up f j v) := by
  apply List.ext_getElem?
  intro i
  rw [List.getElem?_set]
  by_cases hi : i < n
  · by_cases hj : j = i
    · subst hj
      rw [if_pos rfl, if_pos (by rw [lsl_len]; exact hi), lsl_at hi, up_s]
    · rw [if_neg hj, lsl_at hi, lsl_at hi, up_n f v (fun z => hj z.symm)]
  · have h1 : (lsl n f)[i]? = none := List.getElem?_eq_none (by rw [lsl_len]; omega)
    have h2 : (lsl n (up f j v))[i]? = none := List.getElem?_eq_none (by rw [lsl_len]; omega)
    rw [h1, h2, lsl_len]
    split
    · split
      · omega
      · rfl
    · rfl
theorem lsl_0 (n : Nat) : List.replicate n (0 : Int64) = lsl n (fun _ => 0) := by
  apply List.ext_getElem?
  intro i
  by_cases hi : i < n
  · rw [lsl_at hi, List.getElem?_replicate, if_pos hi]; rfl
  · rw [List.getElem?_eq_none (by simp; omega), List.getElem?_eq_none (by rw [lsl_len]; omega)]
section ROWL
variable {M : ax_M} {R : Room} {E : ax_Et} {Z : ax_Zt} {h : ax_H} {kc ks pc : Nat} {ls : List (Nat × Value)} {st : List Value}
theorem aw_lldN {k j n : Nat} {i : Int32} {xs : List Int64} {f : Nat → Nat} (hd : decode M.2.1 pc = .ok (.laload, 1)) (hk : h[k]? = some (ja xs)) (hx : xs = lsl n f) (hi : i = nI j) (hj : j < n) (hm : n < 2 ^ 31) (kk : AW M R E Z h kc ks (pc + 1) ls (.long (lN (f j)) :: st)) : AW M R E Z h kc ks pc ls (.int i :: .ref k :: st) := by
  subst hx
  refine aw_lald hd hk (lsl_len n f) hi hj hm ?_
  rw [lsl_get hj]; exact kk
theorem aw_llsN {k j n v : Nat} {i : Int32} {x : Int64} {xs : List Int64} {f : Nat → Nat} {h' : ax_H} (hd : decode M.2.1 pc = .ok (.lastore, 1)) (hk : h[k]? = some (ja xs)) (hx : xs = lsl n f) (hi : i = nI j) (hv : x = lN v) (hj : j < n) (hm : n < 2 ^ 31) (hs : h.set k (ja (lsl n (up f j v))) = h') (kk : AW M R E Z h' kc ks (pc + 1) ls st) : AW M R E Z h kc ks pc ls (.long x :: .int i :: .ref k :: st) := by
  subst hx; subst hv
  refine aw_last hd hk (lsl_len n f) hi hj hm ?_ kk
  rw [lsl_set]; exact hs
end ROWL
/-- of the 10^k ways that count alike, those in which x hear: a hear for sure, k perhaps, each with t tenths -/
def rk (t a : Nat) : Nat → Nat → Nat
  | 0, x => if x = a then 1 else 0
  | k + 1, x => rk t a k x * (10 - t) + (if x = 0 then 0 else rk t a k (x - 1) * t)
theorem rk_s (t a k x : Nat) : rk t a (k + 1) x = rk t a k x * (10 - t) + (if x = 0 then 0 else rk t a k (x - 1) * t) := rfl
theorem rk_ss (t a k x : Nat) : rk t a (k + 1) (x + 1) = rk t a k (x + 1) * (10 - t) + rk t a k x * t := by
  rw [rk_s, if_neg (Nat.succ_ne_zero x), Nat.add_sub_cancel]
theorem rk_lo (t a : Nat) : ∀ k x, x < a → rk t a k x = 0
  | 0, x, h => if_neg (by omega)
  | k + 1, x, h => by
    rw [rk_s, rk_lo t a k x h, rk_lo t a k (x - 1) (by omega), Nat.zero_mul, Nat.zero_mul]
    split <;> rfl
theorem rk_hi (t a : Nat) : ∀ k x, a + k < x → rk t a k x = 0
  | 0, x, h => if_neg (by omega)
  | k + 1, x, h => by
    rw [rk_s, rk_hi t a k x (by omega), rk_hi t a k (x - 1) (by omega), Nat.zero_mul, Nat.zero_mul]
    split <;> rfl
theorem rk_sh (t a : Nat) : ∀ k j, rk t a k (a + j) = rk t 0 k j
  | 0, j => by
    show (if a + j = a then 1 else 0) = (if j = 0 then 1 else 0)
    by_cases h : j = 0
    · rw [if_pos h, if_pos (by omega)]
    · rw [if_neg h, if_neg (by omega)]
  | k + 1, 0 => by
    rw [rk_s, rk_s, rk_sh t a k 0, if_pos rfl]
    by_cases h : a = 0
    · rw [if_pos (by omega)]
    · rw [if_neg (by omega), rk_lo t a k (a + 0 - 1) (by omega), Nat.zero_mul]
  | k + 1, j + 1 => by
    have e : a + (j + 1) = (a + j) + 1 := rfl
    rw [e, rk_ss, rk_ss, rk_sh t a k j, ← e, rk_sh t a k (j + 1)]
theorem rk_s1 (t a k : Nat) : ∀ N, fb_sm (rk t a (k + 1)) (N + 1) = fb_sm (rk t a k) (N + 1) * (10 - t) + fb_sm (rk t a k) N * t
  | 0 => by
    show 0 + rk t a (k + 1) 0 = (0 + rk t a k 0) * (10 - t) + 0 * t
    rw [rk_s, if_pos rfl, Nat.zero_add, Nat.zero_add, Nat.zero_mul]
  | N + 1 => by
    rw [fb_sm_succ (rk t a (k + 1)) (N + 1), rk_s1 t a k N, rk_ss, fb_sm_succ (rk t a k) (N + 1), fb_sm_succ (rk t a k) N, Nat.add_mul (fb_sm (rk t a k) N + rk t a k N), Nat.add_mul (fb_sm (rk t a k) N) (rk t a k N) t]
    omega
theorem rk_s2 (t a k : Nat) : ∀ N, fb_sm (fun x => x * rk t a (k + 1) x) (N + 1) = fb_sm (fun x => x * rk t a k x) (N + 1) * (10 - t) + (fb_sm (fun x => x * rk t a k x) N + fb_sm (rk t a k) N) * t
  | 0 => by
    show 0 + 0 * rk t a (k + 1) 0 = (0 + 0 * rk t a k 0) * (10 - t) + (0 + 0) * t
    simp
  | N + 1 => by
    rw [fb_sm_succ (fun x => x * rk t a (k + 1) x) (N + 1), rk_s2 t a k N, fb_sm_succ (fun x => x * rk t a k x) (N + 1)]
    have e : (N + 1) * rk t a (k + 1) (N + 1) = (N + 1) * rk t a k (N + 1) * (10 - t) + (N * rk t a k N + rk t a k N) * t := by
      rw [rk_ss, Nat.mul_add, Nat.mul_assoc, Nat.succ_mul N (rk t a k N) |>.symm, Nat.mul_assoc]
    rw [e, fb_sm_succ (fun x => x * rk t a k x) N, fb_sm_succ (rk t a k) N, Nat.add_mul (fb_sm (fun x => x * rk t a k x) N + N * rk t a k N) _ (10 - t), ← Nat.add_assoc]
    have e2 : (fb_sm (fun x => x * rk t a k x) N + N * rk t a k N + (fb_sm (rk t a k) N + rk t a k N)) * t = (fb_sm (fun x => x * rk t a k x) N + fb_sm (rk t a k) N) * t + (N * rk t a k N + rk t a k N) * t := by
      rw [← Nat.add_mul]
      congr 1
      omega
    rw [e2]
    omega
theorem rk_10 {t n : Nat} (ht : t ≤ 10) : n * (10 - t) + n * t = n * 10 := by
  rw [← Nat.mul_add, Nat.sub_add_cancel ht]
theorem rk_S0 (a : Nat) (t : Nat) : ∀ N, fb_sm (rk t a 0) N = if a < N then 1 else 0
  | 0 => rfl
  | N + 1 => by
    rw [fb_sm_succ, rk_S0 a t N]
    show _ + (if N = a then 1 else 0) = _
    by_cases h : a < N
    · rw [if_pos h, if_neg (by omega), if_pos (by omega)]
    · by_cases h2 : N = a
      · rw [if_neg h, if_pos h2, if_pos (by omega)]
      · rw [if_neg h, if_neg h2, if_neg (by omega)]
theorem rk_T0 (a : Nat) (t : Nat) : ∀ N, fb_sm (fun x => x * rk t a 0 x) N = if a < N then a else 0
  | 0 => rfl
  | N + 1 => by
    rw [fb_sm_succ, rk_T0 a t N]
    show _ + N * (if N = a then 1 else 0) = _
    by_cases h : a < N
    · rw [if_pos h, if_neg (by omega), if_pos (by omega), Nat.mul_zero, Nat.add_zero]
    · by_cases h2 : N = a
      · rw [if_neg h, if_pos h2, if_pos (by omega), h2, Nat.mul_one, Nat.zero_add]
      · rw [if_neg h, if_neg h2, if_neg (by omega), Nat.mul_zero]
theorem rk_S {t a : Nat} (ht : t ≤ 10) : ∀ k N, a + k < N → fb_sm (rk t a k) N = 10 ^ k
  | 0, N, h => by rw [rk_S0, if_pos (by omega), Nat.pow_zero]
  | k + 1, N, h => by
    obtain ⟨n, rfl⟩ : ∃ n, N = n + 1 := ⟨N - 1, by omega⟩
    rw [rk_s1, rk_S ht k (n + 1) (by omega), rk_S ht k n (by omega), rk_10 ht, Nat.pow_succ]
theorem rk_T {t a : Nat} (ht : t ≤ 10) : ∀ k N, a + k < N → fb_sm (fun x => x * rk t a k x) N * 10 = 10 ^ k * (10 * a + t * k)
  | 0, N, h => by rw [rk_T0, if_pos (by omega), Nat.pow_zero, Nat.one_mul, Nat.mul_zero, Nat.add_zero, Nat.mul_comm]
  | k + 1, N, h => by
    obtain ⟨n, rfl⟩ : ∃ n, N = n + 1 := ⟨N - 1, by omega⟩
    have e1 := rk_T (a := a) ht k (n + 1) (by omega)
    have e2 := rk_T (a := a) ht k n (by omega)
    have e3 := rk_S (a := a) ht k n (by omega)
    have e4 : fb_sm (fun x => x * rk t a k x) (n + 1) = fb_sm (fun x => x * rk t a k x) n := by omega
    rw [rk_s2, e3, e4, Nat.add_mul (fb_sm (fun x => x * rk t a k x) n) (10 ^ k) t, ← Nat.add_assoc, rk_10 ht, Nat.add_mul, e2, Nat.pow_succ, Nat.mul_add t k 1, Nat.mul_one, Nat.mul_assoc (10 ^ k) 10 _, Nat.mul_assoc (10 ^ k) t 10, Nat.mul_assoc (10 ^ k) (10 * a + t * k) 10, ← Nat.mul_add]
    congr 1
    omega
theorem sm_cut (f : Nat → Nat) (n : Nat) : ∀ m, (∀ x, n ≤ x → f x = 0) → fb_sm f (n + m) = fb_sm f n
  | 0, _ => rfl
  | m + 1, h => by
    have e : fb_sm f (n + (m + 1)) = fb_sm f (n + m) + f (n + m) := rfl
    rw [e, h (n + m) (by omega), sm_cut f n m h, Nat.add_zero]
theorem sm_zero {f : Nat → Nat} : ∀ n, (∀ x, x < n → f x = 0) → fb_sm f n = 0
  | 0, _ => rfl
  | n + 1, h => by rw [fb_sm_succ, sm_zero n (fun x hx => h x (by omega)), h n (by omega)]
/-- at most c hear -/
theorem rk_F (t : Nat) {a m c : Nat} (h : a + m < 12) : fb_sm (fun x => if x ≤ c then rk t a m x else 0) 12 = fb_sm (fun j => if a + j ≤ c then rk t 0 m j else 0) (m + 1) := by
  have e1 := fb_sm_split (fun x => if x ≤ c then rk t a m x else 0) a (12 - a)
  rw [show a + (12 - a) = 12 by omega, sm_zero a (fun x hx => by rw [rk_lo t a m x hx]; split <;> rfl), Nat.zero_add] at e1
  rw [e1, show 12 - a = (m + 1) + (12 - a - (m + 1)) by omega]
  rw [sm_cut _ (m + 1) _ (fun x hx => by show (if a + x ≤ c then rk t a m (a + x) else 0) = 0; rw [rk_hi t a m (a + x) (by omega)]; split <;> rfl)]
  exact fb_sm_cong (fun j _ => by rw [rk_sh])
theorem rk_Fle {t a m : Nat} (ht : t ≤ 10) (c : Nat) (h : a + m < 12) : fb_sm (fun x => if x ≤ c then rk t a m x else 0) 12 ≤ 10 ^ m := by
  rw [← rk_S (a := a) ht m 12 h]
  exact fb_sm_le (fun k _ => by split; exact Nat.le_refl _; exact Nat.zero_le _)
/-- the lowest terms of one fraction are the same -/
theorem rd_same {S p N q : Nat} (hp : 0 < p) (hq : 0 < q) (h : S * q = p * N) : S / Nat.gcd S p = N / Nat.gcd N q ∧ p / Nat.gcd S p = q / Nat.gcd N q := by
  have g1 : 0 < Nat.gcd S p := Nat.gcd_pos_of_pos_right S hp
  have g2 : 0 < Nat.gcd N q := Nat.gcd_pos_of_pos_right N hq
  have e : Nat.gcd S p * q = p * Nat.gcd N q := by
    rw [← Nat.gcd_mul_right, ← Nat.gcd_mul_left, h]
  obtain ⟨s, hs⟩ := Nat.gcd_dvd_left S p
  obtain ⟨r, hr⟩ := Nat.gcd_dvd_right S p
  obtain ⟨n, hn⟩ := Nat.gcd_dvd_left N q
  obtain ⟨u, hu⟩ := Nat.gcd_dvd_right N q
  have f1 : S / Nat.gcd S p = s := Nat.div_eq_of_eq_mul_right g1 hs
  have f2 : p / Nat.gcd S p = r := Nat.div_eq_of_eq_mul_right g1 hr
  have f3 : N / Nat.gcd N q = n := Nat.div_eq_of_eq_mul_right g2 hn
  have f4 : q / Nat.gcd N q = u := Nat.div_eq_of_eq_mul_right g2 hu
  rw [f1, f2, f3, f4]
  have hru : r = u := by
    have k : (Nat.gcd S p * Nat.gcd N q) * u = (Nat.gcd S p * Nat.gcd N q) * r := by
      rw [Nat.mul_assoc, ← hu, e, Nat.mul_comm (Nat.gcd S p) (Nat.gcd N q), Nat.mul_assoc, ← hr, Nat.mul_comm]
    exact (Nat.eq_of_mul_eq_mul_left (Nat.mul_pos g1 g2) k).symm
  refine ⟨?_, hru⟩
  have k : (Nat.gcd S p * q) * s = (Nat.gcd S p * q) * n := by
    have k1 : (Nat.gcd S p * q) * s = S * q := by
      rw [Nat.mul_assoc, Nat.mul_comm q s, ← Nat.mul_assoc, ← hs]
    have k2 : (Nat.gcd S p * q) * n = p * N := by
      rw [e, Nat.mul_assoc, ← hn]
    rw [k1, k2, h]
  exact Nat.eq_of_mul_eq_mul_left (Nat.mul_pos g1 hq) k
def gdf : Nat → Nat → Nat → Nat
  | 0, a, _ => a
  | f + 1, a, b => if b = 0 then a else gdf f b (a % b)
theorem gdf_z : ∀ f a, gdf f a 0 = a
  | 0, _ => rfl
  | _ + 1, _ => rfl
theorem gdf_gcd : ∀ k f a b, b < 2 ^ k → 2 * k ≤ f → gdf f a b = Nat.gcd a b
  | 0, f, a, b, h, _ => by
    have e : b = 0 := by
      rw [Nat.pow_zero] at h
      omega
    rw [e, gdf_z, Nat.gcd_zero_right]
  | k + 1, f, a, b, h, hf => by
    obtain ⟨f, rfl⟩ : ∃ g, f = g + 1 + 1 := ⟨f - 2, by omega⟩
    rw [Nat.pow_succ] at h
    unfold gdf
    by_cases hb : b = 0
    · rw [if_pos hb, hb, Nat.gcd_zero_right]
    · rw [if_neg hb]
      have g1 : Nat.gcd a b = Nat.gcd b (a % b) := by rw [Nat.gcd_comm a b, Nat.gcd_rec, Nat.gcd_comm]
      rw [g1]
      unfold gdf
      by_cases hr : a % b = 0
      · rw [if_pos hr, hr, Nat.gcd_zero_right]
      · rw [if_neg hr]
        have l1 : a % b < b := Nat.mod_lt _ (by omega)
        have l2 : b % (a % b) < a % b := Nat.mod_lt _ (by omega)
        have l3 : b % (a % b) ≤ b - a % b := by
          have := Nat.mod_eq_sub_mod (a := b) (b := a % b) (by omega)
          rw [this]
          exact Nat.mod_le _ _
        have g2 : Nat.gcd b (a % b) = Nat.gcd (a % b) (b % (a % b)) := by rw [Nat.gcd_comm b (a % b), Nat.gcd_rec, Nat.gcd_comm]
        rw [g2]
        exact gdf_gcd k f _ _ (by omega) (by omega)

