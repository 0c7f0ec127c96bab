theorem df_0 : ∀ j, j < 5 → defaultValue (ty_0 j) = vp_V [.null, .int 0, .int 0, .long 0, .long 0] j := by
  intro j hj
  match j, hj with
  | 0, _ => rfl
  | 1, _ => rfl
  | 2, _ => rfl
  | 3, _ => rfl
  | 4, _ => rfl
  | k + 5, hk => exact absurd hk (by omega)
theorem df_1 : ∀ j, j < 2 → defaultValue (ty_1 j) = vp_V [.null, .null] j := by
  intro j hj
  match j, hj with
  | 0, _ => rfl
  | 1, _ => rfl
  | k + 2, hk => exact absurd hk (by omega)
theorem df_2 : ∀ j, j < 6 → defaultValue (ty_2 j) = vp_V [.null, .int 0, .int 0, .int 0, .int 0, .int 0] j := by
  intro j hj
  match j, hj with
  | 0, _ => rfl
  | 1, _ => rfl
  | 2, _ => rfl
  | 3, _ => rfl
  | 4, _ => rfl
  | 5, _ => rfl
  | k + 6, hk => exact absurd hk (by omega)
theorem df_3 : ∀ j, j < 16 → defaultValue (ty_3 j) = vp_V [.null, .null, .null, .null, .null, .null, .int 0, .int 0, .int 0, .int 0, .int 0, .int 0, .int 0, .int 0, .int 0, .int 0] j := by
  intro j hj
  match j, hj with
  | 0, _ => rfl
  | 1, _ => rfl
  | 2, _ => rfl
  | 3, _ => rfl
  | 4, _ => rfl
  | 5, _ => rfl
  | 6, _ => rfl
  | 7, _ => rfl
  | 8, _ => rfl
  | 9, _ => rfl
  | 10, _ => rfl
  | 11, _ => rfl
  | 12, _ => rfl
  | 13, _ => rfl
  | 14, _ => rfl
  | 15, _ => rfl
  | k + 16, hk => exact absurd hk (by omega)
theorem df_4 : ∀ j, j < 8 → defaultValue (ty_4 j) = vp_V [.null, .null, .null, .null, .null, .null, .null, .int 0] j := by
  intro j hj
  match j, hj with
  | 0, _ => rfl
  | 1, _ => rfl
  | 2, _ => rfl
  | 3, _ => rfl
  | 4, _ => rfl
  | 5, _ => rfl
  | 6, _ => rfl
  | 7, _ => rfl
  | k + 8, hk => exact absurd hk (by omega)
theorem df_5 : ∀ j, j < 20 → defaultValue (ty_5 j) = vp_V [.null, .null, .int 0, .null, .int 0, .int 0, .null, .int 0, .null, .int 0, .null, .null, .int 0, .int 0, .int 0, .int 0, .null, .null, .null, .null] j := by
  intro j hj
  match j, hj with
  | 0, _ => rfl
  | 1, _ => rfl
  | 2, _ => rfl
  | 3, _ => rfl
  | 4, _ => rfl
  | 5, _ => rfl
  | 6, _ => rfl
  | 7, _ => rfl
  | 8, _ => rfl
  | 9, _ => rfl
  | 10, _ => rfl
  | 11, _ => rfl
  | 12, _ => rfl
  | 13, _ => rfl
  | 14, _ => rfl
  | 15, _ => rfl
  | 16, _ => rfl
  | 17, _ => rfl
  | 18, _ => rfl
  | 19, _ => rfl
  | k + 20, hk => exact absurd hk (by omega)
section NEWP
variable {M : ax_M} {R : Room} {E : ax_Et} {Z : ax_Zt} {h0 : ax_H} {kc ks pc : Nat} {ls : List (Nat × Value)} {st : List Value}
theorem aw_newiP {b k : Nat} {l l' : ax_H} {n : Int32} {N : Nat} (hb : h0.length = b) (hl : l.length = k) (hd : decode M.2.1 pc = .ok (.newarray .int, 2)) (hn : ¬ n < 0) (hN : n.toNatClampNeg = N) (hm : N ≤ 1000) (hcs : kc + 1 ≤ R.cells ∧ ks + N ≤ R.slots) (hl' : l ++ [ia (List.replicate N 0)] = l') (kk : AW M R E Z (h0 ++ l') (kc + 1) (ks + N) (pc + 2) ls (.ref (b + k) :: st)) : AW M R E Z (h0 ++ l) kc ks pc ls (.int n :: st) := by
  refine aw_newi hd hn hN hm hcs ?_
  refine aw_eq kk ?_ rfl ?_
  · rw [← hl', List.append_assoc]
  · rw [List.length_append, hb, hl]
theorem aw_newzP {b k : Nat} {l l' : ax_H} {n : Int32} {N : Nat} (hb : h0.length = b) (hl : l.length = k) (hd : decode M.2.1 pc = .ok (.newarray .boolean, 2)) (hn : ¬ n < 0) (hN : n.toNatClampNeg = N) (hm : N ≤ 1000) (hcs : kc + 1 ≤ R.cells ∧ ks + N ≤ R.slots) (hl' : l ++ [za (List.replicate N 0)] = l') (kk : AW M R E Z (h0 ++ l') (kc + 1) (ks + N) (pc + 2) ls (.ref (b + k) :: st)) : AW M R E Z (h0 ++ l) kc ks pc ls (.int n :: st) := by
  refine aw_newz hd hn hN hm hcs ?_
  refine aw_eq kk ?_ rfl ?_
  · rw [← hl', List.append_assoc]
  · rw [List.length_append, hb, hl]
theorem aw_newlP {b k : Nat} {l l' : ax_H} {n : Int32} {N : Nat} (hb : h0.length = b) (hl : l.length = k) (hd : decode M.2.1 pc = .ok (.newarray .long, 2)) (hn : ¬ n < 0) (hN : n.toNatClampNeg = N) (hm : N ≤ 1000) (hcs : kc + 1 ≤ R.cells ∧ ks + N ≤ R.slots) (hl' : l ++ [ja (List.replicate N 0)] = l') (kk : AW M R E Z (h0 ++ l') (kc + 1) (ks + N) (pc + 2) ls (.ref (b + k) :: st)) : AW M R E Z (h0 ++ l) kc ks pc ls (.int n :: st) := by
  refine aw_newl hd hn hN hm hcs ?_
  refine aw_eq kk ?_ rfl ?_
  · rw [← hl', List.append_assoc]
  · rw [List.length_append, hb, hl]
theorem pre_at {b k : Nat} {l : ax_H} {c : ax_C} (hb : h0.length = b) (hk : l[k]? = some c) : (h0 ++ l)[b + k]? = some c := by
  rw [← hb, List.getElem?_append_right (Nat.le_add_right _ _), Nat.add_sub_cancel_left]; exact hk
theorem pre_set {b k : Nat} {l l' : ax_H} {c : ax_C} (hb : h0.length = b) (hk : l.set k c = l') : (h0 ++ l).set (b + k) c = h0 ++ l' := by
  rw [← hb, List.set_append_right _ _ (Nat.le_add_right _ _), Nat.add_sub_cancel_left, hk]
theorem aw_putFP {idx ci j b k : Nat} {fs : List Value} {v : Value} {t : FieldType} {l l' : ax_H} (hb : h0.length = b) (hd : decode M.2.1 pc = .ok (.putfield idx, 3)) (hL : fp_ok M.1.cls idx ci j true t) (hi : M.1.name = "<init>") (hk : l[k]? = some (ob ci fs)) (hv : ft_ok t v) (hj : j < fs.length) (hs : l.set k (ob ci (fs.set j v)) = l') (kk : AW M R E Z (h0 ++ l') kc ks (pc + 3) ls st) : AW M R E Z (h0 ++ l) kc ks pc ls (v :: .ref (b + k) :: st) :=
  aw_putF hd hL hi (pre_at hb hk) hv hj (pre_set hb hs) kk
theorem aw_putP {idx ci j b k : Nat} {fs : List Value} {v : Value} {t : FieldType} {l l' : ax_H} (hb : h0.length = b) (hd : decode M.2.1 pc = .ok (.putfield idx, 3)) (hL : fp_ok M.1.cls idx ci j false t) (hk : l[k]? = some (ob ci fs)) (hv : ft_ok t v) (hj : j < fs.length) (hs : l.set k (ob ci (fs.set j v)) = l') (kk : AW M R E Z (h0 ++ l') kc ks (pc + 3) ls st) : AW M R E Z (h0 ++ l) kc ks pc ls (v :: .ref (b + k) :: st) :=
  aw_put hd hL (pre_at hb hk) hv hj (pre_set hb hs) kk
end NEWP
set_option maxHeartbeats 1000000 in
set_option maxRecDepth 20000 in
theorem c_S_init {h0 : ax_H} {b : Nat} (hb : h0.length = b) : AM m_S_init r_S_init (h0 ++ [ob 3 [.null, .null, .null, .null, .null, .null, .int 0, .int 0, .int 0, .int 0, .int 0, .int 0, .int 0, .int 0, .int 0, .int 0]]) [.ref b] (fun r h' => r = none ∧ h' = h0 ++ [ob 3 [.ref (b + 1), .ref (b + 2), .ref (b + 3), .ref (b + 4), .ref (b + 5), .ref (b + 6), .int 0, .int 0, .int 0, .int 4, .int 0, .int 0, .int 0, .int 0, .int 0, .int 0], ia (List.replicate 12 0), ia (List.replicate 11 0), ia (List.replicate 6 0), ia (List.replicate 6 0), ia (List.replicate 6 0), ia (List.replicate 6 0)]) := by
  refine am_of (by decide) rfl (by first | decide | exact Nat.le_of_ble_eq_true rfl) ?_
  refine aw_aload_n (pc := 0) d_S_init_0 rfl rfl ?_
  refine aw_objInit (pc := 1) d_S_init_1 lm_S_3 wi_O_init wc_O (by decide) (Nat.le_of_ble_eq_true rfl) ?_
  refine aw_aload_n (pc := 4) d_S_init_4 rfl rfl ?_
  refine aw_bipush (pc := 5) (v := 12) d_S_init_5 (by decide) ?_
  refine aw_newiP (pc := 7) (k := 1) (N := 12) (l' := [ob 3 [.null, .null, .null, .null, .null, .null, .int 0, .int 0, .int 0, .int 0, .int 0, .int 0, .int 0, .int 0, .int 0, .int 0], ia (List.replicate 12 0)]) hb rfl d_S_init_7 (by decide) rfl (by decide) ⟨by decide, by decide⟩ rfl ?_
  refine aw_putFP (pc := 9) (b := b) (k := 0) (l' := [ob 3 [.ref (b + 1), .null, .null, .null, .null, .null, .int 0, .int 0, .int 0, .int 0, .int 0, .int 0, .int 0, .int 0, .int 0, .int 0], ia (List.replicate 12 0)]) hb d_S_init_9 lp_S_9 rfl rfl (ft_arr _ _) (Nat.le_of_ble_eq_true rfl) rfl ?_
  refine aw_aload_n (pc := 12) d_S_init_12 rfl rfl ?_
  refine aw_bipush (pc := 13) (v := 11) d_S_init_13 (by decide) ?_
  refine aw_newiP (pc := 15) (k := 2) (N := 11) (l' := [ob 3 [.ref (b + 1), .null, .null, .null, .null, .null, .int 0, .int 0, .int 0, .int 0, .int 0, .int 0, .int 0, .int 0, .int 0, .int 0], ia (List.replicate 12 0), ia (List.replicate 11 0)]) hb rfl d_S_init_15 (by decide) rfl (by decide) ⟨by decide, by decide⟩ rfl ?_
  refine aw_putFP (pc := 17) (b := b) (k := 0) (l' := [ob 3 [.ref (b + 1), .ref (b + 2), .null, .null, .null, .null, .int 0, .int 0, .int 0, .int 0, .int 0, .int 0, .int 0, .int 0, .int 0, .int 0], ia (List.replicate 12 0), ia (List.replicate 11 0)]) hb d_S_init_17 lp_S_15 rfl rfl (ft_arr _ _) (Nat.le_of_ble_eq_true rfl) rfl ?_
  refine aw_aload_n (pc := 20) d_S_init_20 rfl rfl ?_
  refine aw_bipush (pc := 21) (v := 6) d_S_init_21 (by decide) ?_
  refine aw_newiP (pc := 23) (k := 3) (N := 6) (l' := [ob 3 [.ref (b + 1), .ref (b + 2), .null, .null, .null, .null, .int 0, .int 0, .int 0, .int 0, .int 0, .int 0, .int 0, .int 0, .int 0, .int 0], ia (List.replicate 12 0), ia (List.replicate 11 0), ia (List.replicate 6 0)]) hb rfl d_S_init_23 (by decide) rfl (by decide) ⟨by decide, by decide⟩ rfl ?_
  refine aw_putFP (pc := 25) (b := b) (k := 0) (l' := [ob 3 [.ref (b + 1), .ref (b + 2), .ref (b + 3), .null, .null, .null, .int 0, .int 0, .int 0, .int 0, .int 0, .int 0, .int 0, .int 0, .int 0, .int 0], ia (List.replicate 12 0), ia (List.replicate 11 0), ia (List.replicate 6 0)]) hb d_S_init_25 lp_S_18 rfl rfl (ft_arr _ _) (Nat.le_of_ble_eq_true rfl) rfl ?_
  refine aw_aload_n (pc := 28) d_S_init_28 rfl rfl ?_
  refine aw_bipush (pc := 29) (v := 6) d_S_init_29 (by decide) ?_
  refine aw_newiP (pc := 31) (k := 4) (N := 6) (l' := [ob 3 [.ref (b + 1), .ref (b + 2), .ref (b + 3), .null, .null, .null, .int 0, .int 0, .int 0, .int 0, .int 0, .int 0, .int 0, .int 0, .int 0, .int 0], ia (List.replicate 12 0), ia (List.replicate 11 0), ia (List.replicate 6 0), ia (List.replicate 6 0)]) hb rfl d_S_init_31 (by decide) rfl (by decide) ⟨by decide, by decide⟩ rfl ?_
  refine aw_putFP (pc := 33) (b := b) (k := 0) (l' := [ob 3 [.ref (b + 1), .ref (b + 2), .ref (b + 3), .ref (b + 4), .null, .null, .int 0, .int 0, .int 0, .int 0, .int 0, .int 0, .int 0, .int 0, .int 0, .int 0], ia (List.replicate 12 0), ia (List.replicate 11 0), ia (List.replicate 6 0), ia (List.replicate 6 0)]) hb d_S_init_33 lp_S_21 rfl rfl (ft_arr _ _) (Nat.le_of_ble_eq_true rfl) rfl ?_
  refine aw_aload_n (pc := 36) d_S_init_36 rfl rfl ?_
  refine aw_bipush (pc := 37) (v := 6) d_S_init_37 (by decide) ?_
  refine aw_newiP (pc := 39) (k := 5) (N := 6) (l' := [ob 3 [.ref (b + 1), .ref (b + 2), .ref (b + 3), .ref (b + 4), .null, .null, .int 0, .int 0, .int 0, .int 0, .int 0, .int 0, .int 0, .int 0, .int 0, .int 0], ia (List.replicate 12 0), ia (List.replicate 11 0), ia (List.replicate 6 0), ia (List.replicate 6 0), ia (List.replicate 6 0)]) hb rfl d_S_init_39 (by decide) rfl (by decide) ⟨by decide, by decide⟩ rfl ?_
  refine aw_putFP (pc := 41) (b := b) (k := 0) (l' := [ob 3 [.ref (b + 1), .ref (b + 2), .ref (b + 3), .ref (b + 4), .ref (b + 5), .null, .int 0, .int 0, .int 0, .int 0, .int 0, .int 0, .int 0, .int 0, .int 0, .int 0], ia (List.replicate 12 0), ia (List.replicate 11 0), ia (List.replicate 6 0), ia (List.replicate 6 0), ia (List.replicate 6 0)]) hb d_S_init_41 lp_S_24 rfl rfl (ft_arr _ _) (Nat.le_of_ble_eq_true rfl) rfl ?_
  refine aw_aload_n (pc := 44) d_S_init_44 rfl rfl ?_
  refine aw_bipush (pc := 45) (v := 6) d_S_init_45 (by decide) ?_
  refine aw_newiP (pc := 47) (k := 6) (N := 6) (l' := [ob 3 [.ref (b + 1), .ref (b + 2), .ref (b + 3), .ref (b + 4), .ref (b + 5), .null, .int 0, .int 0, .int 0, .int 0, .int 0, .int 0, .int 0, .int 0, .int 0, .int 0], ia (List.replicate 12 0), ia (List.replicate 11 0), ia (List.replicate 6 0), ia (List.replicate 6 0), ia (List.replicate 6 0), ia (List.replicate 6 0)]) hb rfl d_S_init_47 (by decide) rfl (by decide) ⟨by decide, by decide⟩ rfl ?_
  refine aw_putFP (pc := 49) (b := b) (k := 0) (l' := [ob 3 [.ref (b + 1), .ref (b + 2), .ref (b + 3), .ref (b + 4), .ref (b + 5), .ref (b + 6), .int 0, .int 0, .int 0, .int 0, .int 0, .int 0, .int 0, .int 0, .int 0, .int 0], ia (List.replicate 12 0), ia (List.replicate 11 0), ia (List.replicate 6 0), ia (List.replicate 6 0), ia (List.replicate 6 0), ia (List.replicate 6 0)]) hb d_S_init_49 lp_S_27 rfl rfl (ft_arr _ _) (Nat.le_of_ble_eq_true rfl) rfl ?_
  refine aw_aload_n (pc := 52) d_S_init_52 rfl rfl ?_
  refine aw_iconst (pc := 53) (v := 0) d_S_init_53 (by decide) ?_
  refine aw_putP (pc := 54) (b := b) (k := 0) (l' := [ob 3 [.ref (b + 1), .ref (b + 2), .ref (b + 3), .ref (b + 4), .ref (b + 5), .ref (b + 6), .int 0, .int 0, .int 0, .int 0, .int 0, .int 0, .int 0, .int 0, .int 0, .int 0], ia (List.replicate 12 0), ia (List.replicate 11 0), ia (List.replicate 6 0), ia (List.replicate 6 0), ia (List.replicate 6 0), ia (List.replicate 6 0)]) hb d_S_init_54 lp_S_30 rfl (ft_int _) (Nat.le_of_ble_eq_true rfl) rfl ?_
  refine aw_aload_n (pc := 57) d_S_init_57 rfl rfl ?_
  refine aw_iconst (pc := 58) (v := 0) d_S_init_58 (by decide) ?_
  refine aw_putP (pc := 59) (b := b) (k := 0) (l' := [ob 3 [.ref (b + 1), .ref (b + 2), .ref (b + 3), .ref (b + 4), .ref (b + 5), .ref (b + 6), .int 0, .int 0, .int 0, .int 0, .int 0, .int 0, .int 0, .int 0, .int 0, .int 0], ia (List.replicate 12 0), ia (List.replicate 11 0), ia (List.replicate 6 0), ia (List.replicate 6 0), ia (List.replicate 6 0), ia (List.replicate 6 0)]) hb d_S_init_59 lp_S_34 rfl (ft_int _) (Nat.le_of_ble_eq_true rfl) rfl ?_
  refine aw_aload_n (pc := 62) d_S_init_62 rfl rfl ?_
  refine aw_iconst (pc := 63) (v := 0) d_S_init_63 (by decide) ?_
  refine aw_putP (pc := 64) (b := b) (k := 0) (l' := [ob 3 [.ref (b + 1), .ref (b + 2), .ref (b + 3), .ref (b + 4), .ref (b + 5), .ref (b + 6), .int 0, .int 0, .int 0, .int 0, .int 0, .int 0, .int 0, .int 0, .int 0, .int 0], ia (List.replicate 12 0), ia (List.replicate 11 0), ia (List.replicate 6 0), ia (List.replicate 6 0), ia (List.replicate 6 0), ia (List.replicate 6 0)]) hb d_S_init_64 lp_S_37 rfl (ft_int _) (Nat.le_of_ble_eq_true rfl) rfl ?_
  refine aw_aload_n (pc := 67) d_S_init_67 rfl rfl ?_
  refine aw_iconst (pc := 68) (v := 4) d_S_init_68 (by decide) ?_
  refine aw_putP (pc := 69) (b := b) (k := 0) (l' := [ob 3 [.ref (b + 1), .ref (b + 2), .ref (b + 3), .ref (b + 4), .ref (b + 5), .ref (b + 6), .int 0, .int 0, .int 0, .int 4, .int 0, .int 0, .int 0, .int 0, .int 0, .int 0], ia (List.replicate 12 0), ia (List.replicate 11 0), ia (List.replicate 6 0), ia (List.replicate 6 0), ia (List.replicate 6 0), ia (List.replicate 6 0)]) hb d_S_init_69 lp_S_40 rfl (ft_int _) (Nat.le_of_ble_eq_true rfl) rfl ?_
  refine aw_aload_n (pc := 72) d_S_init_72 rfl rfl ?_
  refine aw_iconst (pc := 73) (v := 0) d_S_init_73 (by decide) ?_
  refine aw_putP (pc := 74) (b := b) (k := 0) (l' := [ob 3 [.ref (b + 1), .ref (b + 2), .ref (b + 3), .ref (b + 4), .ref (b + 5), .ref (b + 6), .int 0, .int 0, .int 0, .int 4, .int 0, .int 0, .int 0, .int 0, .int 0, .int 0], ia (List.replicate 12 0), ia (List.replicate 11 0), ia (List.replicate 6 0), ia (List.replicate 6 0), ia (List.replicate 6 0), ia (List.replicate 6 0)]) hb d_S_init_74 lp_S_43 rfl (ft_int _) (Nat.le_of_ble_eq_true rfl) rfl ?_
  refine aw_aload_n (pc := 77) d_S_init_77 rfl rfl ?_
  refine aw_iconst (pc := 78) (v := 0) d_S_init_78 (by decide) ?_
  refine aw_putP (pc := 79) (b := b) (k := 0) (l' := [ob 3 [.ref (b + 1), .ref (b + 2), .ref (b + 3), .ref (b + 4), .ref (b + 5), .ref (b + 6), .int 0, .int 0, .int 0, .int 4, .int 0, .int 0, .int 0, .int 0, .int 0, .int 0], ia (List.replicate 12 0), ia (List.replicate 11 0), ia (List.replicate 6 0), ia (List.replicate 6 0), ia (List.replicate 6 0), ia (List.replicate 6 0)]) hb d_S_init_79 lp_S_46 rfl (ft_int _) (Nat.le_of_ble_eq_true rfl) rfl ?_
  refine aw_aload_n (pc := 82) d_S_init_82 rfl rfl ?_
  refine aw_iconst (pc := 83) (v := 0) d_S_init_83 (by decide) ?_
  refine aw_putP (pc := 84) (b := b) (k := 0) (l' := [ob 3 [.ref (b + 1), .ref (b + 2), .ref (b + 3), .ref (b + 4), .ref (b + 5), .ref (b + 6), .int 0, .int 0, .int 0, .int 4, .int 0, .int 0, .int 0, .int 0, .int 0, .int 0], ia (List.replicate 12 0), ia (List.replicate 11 0), ia (List.replicate 6 0), ia (List.replicate 6 0), ia (List.replicate 6 0), ia (List.replicate 6 0)]) hb d_S_init_84 lp_S_49 rfl (ft_int _) (Nat.le_of_ble_eq_true rfl) rfl ?_
  refine aw_aload_n (pc := 87) d_S_init_87 rfl rfl ?_
  refine aw_iconst (pc := 88) (v := 0) d_S_init_88 (by decide) ?_
  refine aw_putP (pc := 89) (b := b) (k := 0) (l' := [ob 3 [.ref (b + 1), .ref (b + 2), .ref (b + 3), .ref (b + 4), .ref (b + 5), .ref (b + 6), .int 0, .int 0, .int 0, .int 4, .int 0, .int 0, .int 0, .int 0, .int 0, .int 0], ia (List.replicate 12 0), ia (List.replicate 11 0), ia (List.replicate 6 0), ia (List.replicate 6 0), ia (List.replicate 6 0), ia (List.replicate 6 0)]) hb d_S_init_89 lp_S_52 rfl (ft_int _) (Nat.le_of_ble_eq_true rfl) rfl ?_
  refine aw_aload_n (pc := 92) d_S_init_92 rfl rfl ?_
  refine aw_iconst (pc := 93) (v := 0) d_S_init_93 (by decide) ?_
  refine aw_putP (pc := 94) (b := b) (k := 0) (l' := [ob 3 [.ref (b + 1), .ref (b + 2), .ref (b + 3), .ref (b + 4), .ref (b + 5), .ref (b + 6), .int 0, .int 0, .int 0, .int 4, .int 0, .int 0, .int 0, .int 0, .int 0, .int 0], ia (List.replicate 12 0), ia (List.replicate 11 0), ia (List.replicate 6 0), ia (List.replicate 6 0), ia (List.replicate 6 0), ia (List.replicate 6 0)]) hb d_S_init_94 lp_S_55 rfl (ft_int _) (Nat.le_of_ble_eq_true rfl) rfl ?_
  refine aw_aload_n (pc := 97) d_S_init_97 rfl rfl ?_
  refine aw_iconst (pc := 98) (v := 0) d_S_init_98 (by decide) ?_
  refine aw_putP (pc := 99) (b := b) (k := 0) (l' := [ob 3 [.ref (b + 1), .ref (b + 2), .ref (b + 3), .ref (b + 4), .ref (b + 5), .ref (b + 6), .int 0, .int 0, .int 0, .int 4, .int 0, .int 0, .int 0, .int 0, .int 0, .int 0], ia (List.replicate 12 0), ia (List.replicate 11 0), ia (List.replicate 6 0), ia (List.replicate 6 0), ia (List.replicate 6 0), ia (List.replicate 6 0)]) hb d_S_init_99 lp_S_58 rfl (ft_int _) (Nat.le_of_ble_eq_true rfl) rfl ?_
  refine aw_vret (pc := 102) d_S_init_102 rfl ?_
  exact ⟨rfl, rfl⟩
set_option maxHeartbeats 1000000 in
set_option maxRecDepth 20000 in
theorem c_P_init {h0 : ax_H} {b : Nat} (hb : h0.length = b) : AM m_P_init r_P_init (h0 ++ [ob 2 [.null, .int 0, .int 0, .int 0, .int 0, .int 0]]) [.ref b] (fun r h' => r = none ∧ h' = h0 ++ [ob 2 [.ref (b + 1), .int 0, .int 0, .int (-6), .int (-6), .int (-6)], ia (List.replicate 60 0)]) := by
  refine am_of (by decide) rfl (by first | decide | exact Nat.le_of_ble_eq_true rfl) ?_
  refine aw_aload_n (pc := 0) d_P_init_0 rfl rfl ?_
  refine aw_objInit (pc := 1) d_P_init_1 lm_P_3 wi_O_init wc_O (by decide) (Nat.le_of_ble_eq_true rfl) ?_
  refine aw_aload_n (pc := 4) d_P_init_4 rfl rfl ?_
  refine aw_bipush (pc := 5) (v := 60) d_P_init_5 (by decide) ?_
  refine aw_newiP (pc := 7) (k := 1) (N := 60) (l' := [ob 2 [.null, .int 0, .int 0, .int 0, .int 0, .int 0], ia (List.replicate 60 0)]) hb rfl d_P_init_7 (by decide) rfl (by decide) ⟨by decide, by decide⟩ rfl ?_
  refine aw_putFP (pc := 9) (b := b) (k := 0) (l' := [ob 2 [.ref (b + 1), .int 0, .int 0, .int 0, .int 0, .int 0], ia (List.replicate 60 0)]) hb d_P_init_9 lp_P_9 rfl rfl (ft_arr _ _) (Nat.le_of_ble_eq_true rfl) rfl ?_
  refine aw_aload_n (pc := 12) d_P_init_12 rfl rfl ?_
  refine aw_iconst (pc := 13) (v := 0) d_P_init_13 (by decide) ?_
  refine aw_putP (pc := 14) (b := b) (k := 0) (l' := [ob 2 [.ref (b + 1), .int 0, .int 0, .int 0, .int 0, .int 0], ia (List.replicate 60 0)]) hb d_P_init_14 lp_P_15 rfl (ft_int _) (Nat.le_of_ble_eq_true rfl) rfl ?_
  refine aw_aload_n (pc := 17) d_P_init_17 rfl rfl ?_
  refine aw_iconst (pc := 18) (v := 0) d_P_init_18 (by decide) ?_
  refine aw_putP (pc := 19) (b := b) (k := 0) (l' := [ob 2 [.ref (b + 1), .int 0, .int 0, .int 0, .int 0, .int 0], ia (List.replicate 60 0)]) hb d_P_init_19 lp_P_19 rfl (ft_int _) (Nat.le_of_ble_eq_true rfl) rfl ?_
  refine aw_aload_n (pc := 22) d_P_init_22 rfl rfl ?_
  refine aw_bipush (pc := 23) (v := (-6)) d_P_init_23 (by decide) ?_
  refine aw_putP (pc := 25) (b := b) (k := 0) (l' := [ob 2 [.ref (b + 1), .int 0, .int 0, .int (-6), .int 0, .int 0], ia (List.replicate 60 0)]) hb d_P_init_25 lp_P_22 rfl (ft_int _) (Nat.le_of_ble_eq_true rfl) rfl ?_
  refine aw_aload_n (pc := 28) d_P_init_28 rfl rfl ?_
  refine aw_bipush (pc := 29) (v := (-6)) d_P_init_29 (by decide) ?_
  refine aw_putP (pc := 31) (b := b) (k := 0) (l' := [ob 2 [.ref (b + 1), .int 0, .int 0, .int (-6), .int (-6), .int 0], ia (List.replicate 60 0)]) hb d_P_init_31 lp_P_25 rfl (ft_int _) (Nat.le_of_ble_eq_true rfl) rfl ?_
  refine aw_aload_n (pc := 34) d_P_init_34 rfl rfl ?_
  refine aw_bipush (pc := 35) (v := (-6)) d_P_init_35 (by decide) ?_
  refine aw_putP (pc := 37) (b := b) (k := 0) (l' := [ob 2 [.ref (b + 1), .int 0, .int 0, .int (-6), .int (-6), .int (-6)], ia (List.replicate 60 0)]) hb d_P_init_37 lp_P_28 rfl (ft_int _) (Nat.le_of_ble_eq_true rfl) rfl ?_
  refine aw_vret (pc := 40) d_P_init_40 rfl ?_
  exact ⟨rfl, rfl⟩
set_option maxHeartbeats 1000000 in
set_option maxRecDepth 20000 in
theorem c_L_init {h0 : ax_H} {b : Nat} (hb : h0.length = b) : AM m_L_init r_L_init (h0 ++ [ob 1 [.null, .null]]) [.ref b] (fun r h' => r = none ∧ h' = h0 ++ [ob 1 [.ref (b + 1), .ref (b + 2)], ia (List.replicate 12 0), ia (List.replicate 12 0)]) := by
  refine am_of (by decide) rfl (by first | decide | exact Nat.le_of_ble_eq_true rfl) ?_
  refine aw_aload_n (pc := 0) d_L_init_0 rfl rfl ?_
  refine aw_objInit (pc := 1) d_L_init_1 lm_L_3 wi_O_init wc_O (by decide) (Nat.le_of_ble_eq_true rfl) ?_
  refine aw_aload_n (pc := 4) d_L_init_4 rfl rfl ?_
  refine aw_bipush (pc := 5) (v := 12) d_L_init_5 (by decide) ?_
  refine aw_newiP (pc := 7) (k := 1) (N := 12) (l' := [ob 1 [.null, .null], ia (List.replicate 12 0)]) hb rfl d_L_init_7 (by decide) rfl (by decide) ⟨by decide, by decide⟩ rfl ?_
  refine aw_putFP (pc := 9) (b := b) (k := 0) (l' := [ob 1 [.ref (b + 1), .null], ia (List.replicate 12 0)]) hb d_L_init_9 lp_L_9 rfl rfl (ft_arr _ _) (Nat.le_of_ble_eq_true rfl) rfl ?_
  refine aw_aload_n (pc := 12) d_L_init_12 rfl rfl ?_
  refine aw_bipush (pc := 13) (v := 12) d_L_init_13 (by decide) ?_
  refine aw_newiP (pc := 15) (k := 2) (N := 12) (l' := [ob 1 [.ref (b + 1), .null], ia (List.replicate 12 0), ia (List.replicate 12 0)]) hb rfl d_L_init_15 (by decide) rfl (by decide) ⟨by decide, by decide⟩ rfl ?_
  refine aw_putFP (pc := 17) (b := b) (k := 0) (l' := [ob 1 [.ref (b + 1), .ref (b + 2)], ia (List.replicate 12 0), ia (List.replicate 12 0)]) hb d_L_init_17 lp_L_15 rfl rfl (ft_arr _ _) (Nat.le_of_ble_eq_true rfl) rfl ?_
  refine aw_vret (pc := 20) d_L_init_20 rfl ?_
  exact ⟨rfl, rfl⟩
set_option maxHeartbeats 1000000 in
set_option maxRecDepth 20000 in
theorem c_C_init {h0 : ax_H} {b : Nat} (hb : h0.length = b) : AM m_C_init r_C_init (h0 ++ [ob 0 [.null, .int 0, .int 0, .long 0, .long 0]]) [.ref b] (fun r h' => r = none ∧ h' = h0 ++ [ob 0 [.ref (b + 1), .int 0, .int 0, .long 0, .long 1], ja (List.replicate 12 0)]) := by
  refine am_of (by decide) rfl (by first | decide | exact Nat.le_of_ble_eq_true rfl) ?_
  refine aw_aload_n (pc := 0) d_C_init_0 rfl rfl ?_
  refine aw_objInit (pc := 1) d_C_init_1 lm_C_3 wi_O_init wc_O (by decide) (Nat.le_of_ble_eq_true rfl) ?_
  refine aw_aload_n (pc := 4) d_C_init_4 rfl rfl ?_
  refine aw_bipush (pc := 5) (v := 12) d_C_init_5 (by decide) ?_
  refine aw_newlP (pc := 7) (k := 1) (N := 12) (l' := [ob 0 [.null, .int 0, .int 0, .long 0, .long 0], ja (List.replicate 12 0)]) hb rfl d_C_init_7 (by decide) rfl (by decide) ⟨by decide, by decide⟩ rfl ?_
  refine aw_putFP (pc := 9) (b := b) (k := 0) (l' := [ob 0 [.ref (b + 1), .int 0, .int 0, .long 0, .long 0], ja (List.replicate 12 0)]) hb d_C_init_9 lp_C_9 rfl rfl (ft_arr _ _) (Nat.le_of_ble_eq_true rfl) rfl ?_
  refine aw_aload_n (pc := 12) d_C_init_12 rfl rfl ?_
  refine aw_iconst (pc := 13) (v := 0) d_C_init_13 (by decide) ?_
  refine aw_putP (pc := 14) (b := b) (k := 0) (l' := [ob 0 [.ref (b + 1), .int 0, .int 0, .long 0, .long 0], ja (List.replicate 12 0)]) hb d_C_init_14 lp_C_15 rfl (ft_int _) (Nat.le_of_ble_eq_true rfl) rfl ?_
  refine aw_aload_n (pc := 17) d_C_init_17 rfl rfl ?_
  refine aw_iconst (pc := 18) (v := 0) d_C_init_18 (by decide) ?_
  refine aw_putP (pc := 19) (b := b) (k := 0) (l' := [ob 0 [.ref (b + 1), .int 0, .int 0, .long 0, .long 0], ja (List.replicate 12 0)]) hb d_C_init_19 lp_C_19 rfl (ft_int _) (Nat.le_of_ble_eq_true rfl) rfl ?_
  refine aw_aload_n (pc := 22) d_C_init_22 rfl rfl ?_
  refine aw_lconst (pc := 23) (v := 0) d_C_init_23 (by decide) ?_
  refine aw_putP (pc := 24) (b := b) (k := 0) (l' := [ob 0 [.ref (b + 1), .int 0, .int 0, .long 0, .long 0], ja (List.replicate 12 0)]) hb d_C_init_24 lp_C_22 rfl (ft_long _) (Nat.le_of_ble_eq_true rfl) rfl ?_
  refine aw_aload_n (pc := 27) d_C_init_27 rfl rfl ?_
  refine aw_lconst (pc := 28) (v := 1) d_C_init_28 (by decide) ?_
  refine aw_putP (pc := 29) (b := b) (k := 0) (l' := [ob 0 [.ref (b + 1), .int 0, .int 0, .long 0, .long 1], ja (List.replicate 12 0)]) hb d_C_init_29 lp_C_26 rfl (ft_long _) (Nat.le_of_ble_eq_true rfl) rfl ?_
  refine aw_vret (pc := 32) d_C_init_32 rfl ?_
  exact ⟨rfl, rfl⟩
set_option maxHeartbeats 1000000 in
set_option maxRecDepth 20000 in
theorem c_M_init {h0 : ax_H} {b : Nat} (hb : h0.length = b) : AM m_M_init r_M_init (h0 ++ [ob 5 [.null, .null, .int 0, .null, .int 0, .int 0, .null, .int 0, .null, .int 0, .null, .null, .int 0, .int 0, .int 0, .int 0, .null, .null, .null, .null]]) [.ref b] (fun r h' => r = none ∧ h' = h0 ++ [ob 5 [.ref (b + 1), .ref (b + 2), .int 0, .ref (b + 3), .int 4, .int 0, .ref (b + 4), .int 0, .ref (b + 5), .int 0, .ref (b + 6), .ref (b + 7), .int 0, .int 0, .int 0, .int 0, .ref (b + 8), .ref (b + 9), .ref (b + 10), .ref (b + 11)], ia (List.replicate 16 0), ia (List.replicate 16 0), ia (List.replicate 11 0), ia (List.replicate 24 0), ia (List.replicate 16 0), ia (List.replicate 60 0), ia (List.replicate 12 0), ia (List.replicate 12 0), ja (List.replicate 12 0), ia (List.replicate 160 0), za (List.replicate 2 0)]) := by
  refine am_of (by decide) rfl (by first | decide | exact Nat.le_of_ble_eq_true rfl) ?_
  refine aw_aload_n (pc := 0) d_M_init_0 rfl rfl ?_
  refine aw_objInit (pc := 1) d_M_init_1 lm_M_1 wi_O_init wc_O (by decide) (Nat.le_of_ble_eq_true rfl) ?_
  refine aw_aload_n (pc := 4) d_M_init_4 rfl rfl ?_
  refine aw_bipush (pc := 5) (v := 16) d_M_init_5 (by decide) ?_
  refine aw_newiP (pc := 7) (k := 1) (N := 16) (l' := [ob 5 [.null, .null, .int 0, .null, .int 0, .int 0, .null, .int 0, .null, .int 0, .null, .null, .int 0, .int 0, .int 0, .int 0, .null, .null, .null, .null], ia (List.replicate 16 0)]) hb rfl d_M_init_7 (by decide) rfl (by decide) ⟨by decide, by decide⟩ rfl ?_
  refine aw_putFP (pc := 9) (b := b) (k := 0) (l' := [ob 5 [.ref (b + 1), .null, .int 0, .null, .int 0, .int 0, .null, .int 0, .null, .int 0, .null, .null, .int 0, .int 0, .int 0, .int 0, .null, .null, .null, .null], ia (List.replicate 16 0)]) hb d_M_init_9 lp_M_7 rfl rfl (ft_arr _ _) (Nat.le_of_ble_eq_true rfl) rfl ?_
  refine aw_aload_n (pc := 12) d_M_init_12 rfl rfl ?_
  refine aw_bipush (pc := 13) (v := 16) d_M_init_13 (by decide) ?_
  refine aw_newiP (pc := 15) (k := 2) (N := 16) (l' := [ob 5 [.ref (b + 1), .null, .int 0, .null, .int 0, .int 0, .null, .int 0, .null, .int 0, .null, .null, .int 0, .int 0, .int 0, .int 0, .null, .null, .null, .null], ia (List.replicate 16 0), ia (List.replicate 16 0)]) hb rfl d_M_init_15 (by decide) rfl (by decide) ⟨by decide, by decide⟩ rfl ?_
  refine aw_putFP (pc := 17) (b := b) (k := 0) (l' := [ob 5 [.ref (b + 1), .ref (b + 2), .int 0, .null, .int 0, .int 0, .null, .int 0, .null, .int 0, .null, .null, .int 0, .int 0, .int 0, .int 0, .null, .null, .null, .null], ia (List.replicate 16 0), ia (List.replicate 16 0)]) hb d_M_init_17 lp_M_13 rfl rfl (ft_arr _ _) (Nat.le_of_ble_eq_true rfl) rfl ?_
  refine aw_aload_n (pc := 20) d_M_init_20 rfl rfl ?_
  refine aw_bipush (pc := 21) (v := 11) d_M_init_21 (by decide) ?_
  refine aw_newiP (pc := 23) (k := 3) (N := 11) (l' := [ob 5 [.ref (b + 1), .ref (b + 2), .int 0, .null, .int 0, .int 0, .null, .int 0, .null, .int 0, .null, .null, .int 0, .int 0, .int 0, .int 0, .null, .null, .null, .null], ia (List.replicate 16 0), ia (List.replicate 16 0), ia (List.replicate 11 0)]) hb rfl d_M_init_23 (by decide) rfl (by decide) ⟨by decide, by decide⟩ rfl ?_
  refine aw_putFP (pc := 25) (b := b) (k := 0) (l' := [ob 5 [.ref (b + 1), .ref (b + 2), .int 0, .ref (b + 3), .int 0, .int 0, .null, .int 0, .null, .int 0, .null, .null, .int 0, .int 0, .int 0, .int 0, .null, .null, .null, .null], ia (List.replicate 16 0), ia (List.replicate 16 0), ia (List.replicate 11 0)]) hb d_M_init_25 lp_M_16 rfl rfl (ft_arr _ _) (Nat.le_of_ble_eq_true rfl) rfl ?_
  refine aw_aload_n (pc := 28) d_M_init_28 rfl rfl ?_
  refine aw_iconst (pc := 29) (v := 4) d_M_init_29 (by decide) ?_
  refine aw_putP (pc := 30) (b := b) (k := 0) (l' := [ob 5 [.ref (b + 1), .ref (b + 2), .int 0, .ref (b + 3), .int 4, .int 0, .null, .int 0, .null, .int 0, .null, .null, .int 0, .int 0, .int 0, .int 0, .null, .null, .null, .null], ia (List.replicate 16 0), ia (List.replicate 16 0), ia (List.replicate 11 0)]) hb d_M_init_30 lp_M_19 rfl (ft_int _) (Nat.le_of_ble_eq_true rfl) rfl ?_
  refine aw_aload_n (pc := 33) d_M_init_33 rfl rfl ?_
  refine aw_bipush (pc := 34) (v := 24) d_M_init_34 (by decide) ?_
  refine aw_newiP (pc := 36) (k := 4) (N := 24) (l' := [ob 5 [.ref (b + 1), .ref (b + 2), .int 0, .ref (b + 3), .int 4, .int 0, .null, .int 0, .null, .int 0, .null, .null, .int 0, .int 0, .int 0, .int 0, .null, .null, .null, .null], ia (List.replicate 16 0), ia (List.replicate 16 0), ia (List.replicate 11 0), ia (List.replicate 24 0)]) hb rfl d_M_init_36 (by decide) rfl (by decide) ⟨by decide, by decide⟩ rfl ?_
  refine aw_putFP (pc := 38) (b := b) (k := 0) (l' := [ob 5 [.ref (b + 1), .ref (b + 2), .int 0, .ref (b + 3), .int 4, .int 0, .ref (b + 4), .int 0, .null, .int 0, .null, .null, .int 0, .int 0, .int 0, .int 0, .null, .null, .null, .null], ia (List.replicate 16 0), ia (List.replicate 16 0), ia (List.replicate 11 0), ia (List.replicate 24 0)]) hb d_M_init_38 lp_M_23 rfl rfl (ft_arr _ _) (Nat.le_of_ble_eq_true rfl) rfl ?_
  refine aw_aload_n (pc := 41) d_M_init_41 rfl rfl ?_
  refine aw_bipush (pc := 42) (v := 16) d_M_init_42 (by decide) ?_
  refine aw_newiP (pc := 44) (k := 5) (N := 16) (l' := [ob 5 [.ref (b + 1), .ref (b + 2), .int 0, .ref (b + 3), .int 4, .int 0, .ref (b + 4), .int 0, .null, .int 0, .null, .null, .int 0, .int 0, .int 0, .int 0, .null, .null, .null, .null], ia (List.replicate 16 0), ia (List.replicate 16 0), ia (List.replicate 11 0), ia (List.replicate 24 0), ia (List.replicate 16 0)]) hb rfl d_M_init_44 (by decide) rfl (by decide) ⟨by decide, by decide⟩ rfl ?_
  refine aw_putFP (pc := 46) (b := b) (k := 0) (l' := [ob 5 [.ref (b + 1), .ref (b + 2), .int 0, .ref (b + 3), .int 4, .int 0, .ref (b + 4), .int 0, .ref (b + 5), .int 0, .null, .null, .int 0, .int 0, .int 0, .int 0, .null, .null, .null, .null], ia (List.replicate 16 0), ia (List.replicate 16 0), ia (List.replicate 11 0), ia (List.replicate 24 0), ia (List.replicate 16 0)]) hb d_M_init_46 lp_M_26 rfl rfl (ft_arr _ _) (Nat.le_of_ble_eq_true rfl) rfl ?_
  refine aw_aload_n (pc := 49) d_M_init_49 rfl rfl ?_
  refine aw_bipush (pc := 50) (v := 60) d_M_init_50 (by decide) ?_
  refine aw_newiP (pc := 52) (k := 6) (N := 60) (l' := [ob 5 [.ref (b + 1), .ref (b + 2), .int 0, .ref (b + 3), .int 4, .int 0, .ref (b + 4), .int 0, .ref (b + 5), .int 0, .null, .null, .int 0, .int 0, .int 0, .int 0, .null, .null, .null, .null], ia (List.replicate 16 0), ia (List.replicate 16 0), ia (List.replicate 11 0), ia (List.replicate 24 0), ia (List.replicate 16 0), ia (List.replicate 60 0)]) hb rfl d_M_init_52 (by decide) rfl (by decide) ⟨by decide, by decide⟩ rfl ?_
  refine aw_putFP (pc := 54) (b := b) (k := 0) (l' := [ob 5 [.ref (b + 1), .ref (b + 2), .int 0, .ref (b + 3), .int 4, .int 0, .ref (b + 4), .int 0, .ref (b + 5), .int 0, .ref (b + 6), .null, .int 0, .int 0, .int 0, .int 0, .null, .null, .null, .null], ia (List.replicate 16 0), ia (List.replicate 16 0), ia (List.replicate 11 0), ia (List.replicate 24 0), ia (List.replicate 16 0), ia (List.replicate 60 0)]) hb d_M_init_54 lp_M_29 rfl rfl (ft_arr _ _) (Nat.le_of_ble_eq_true rfl) rfl ?_
  refine aw_aload_n (pc := 57) d_M_init_57 rfl rfl ?_
  refine aw_bipush (pc := 58) (v := 12) d_M_init_58 (by decide) ?_
  refine aw_newiP (pc := 60) (k := 7) (N := 12) (l' := [ob 5 [.ref (b + 1), .ref (b + 2), .int 0, .ref (b + 3), .int 4, .int 0, .ref (b + 4), .int 0, .ref (b + 5), .int 0, .ref (b + 6), .null, .int 0, .int 0, .int 0, .int 0, .null, .null, .null, .null], ia (List.replicate 16 0), ia (List.replicate 16 0), ia (List.replicate 11 0), ia (List.replicate 24 0), ia (List.replicate 16 0), ia (List.replicate 60 0), ia (List.replicate 12 0)]) hb rfl d_M_init_60 (by decide) rfl (by decide) ⟨by decide, by decide⟩ rfl ?_
  refine aw_putFP (pc := 62) (b := b) (k := 0) (l' := [ob 5 [.ref (b + 1), .ref (b + 2), .int 0, .ref (b + 3), .int 4, .int 0, .ref (b + 4), .int 0, .ref (b + 5), .int 0, .ref (b + 6), .ref (b + 7), .int 0, .int 0, .int 0, .int 0, .null, .null, .null, .null], ia (List.replicate 16 0), ia (List.replicate 16 0), ia (List.replicate 11 0), ia (List.replicate 24 0), ia (List.replicate 16 0), ia (List.replicate 60 0), ia (List.replicate 12 0)]) hb d_M_init_62 lp_M_32 rfl rfl (ft_arr _ _) (Nat.le_of_ble_eq_true rfl) rfl ?_
  refine aw_aload_n (pc := 65) d_M_init_65 rfl rfl ?_
  refine aw_bipush (pc := 66) (v := 12) d_M_init_66 (by decide) ?_
  refine aw_newiP (pc := 68) (k := 8) (N := 12) (l' := [ob 5 [.ref (b + 1), .ref (b + 2), .int 0, .ref (b + 3), .int 4, .int 0, .ref (b + 4), .int 0, .ref (b + 5), .int 0, .ref (b + 6), .ref (b + 7), .int 0, .int 0, .int 0, .int 0, .null, .null, .null, .null], ia (List.replicate 16 0), ia (List.replicate 16 0), ia (List.replicate 11 0), ia (List.replicate 24 0), ia (List.replicate 16 0), ia (List.replicate 60 0), ia (List.replicate 12 0), ia (List.replicate 12 0)]) hb rfl d_M_init_68 (by decide) rfl (by decide) ⟨by decide, by decide⟩ rfl ?_
  refine aw_putFP (pc := 70) (b := b) (k := 0) (l' := [ob 5 [.ref (b + 1), .ref (b + 2), .int 0, .ref (b + 3), .int 4, .int 0, .ref (b + 4), .int 0, .ref (b + 5), .int 0, .ref (b + 6), .ref (b + 7), .int 0, .int 0, .int 0, .int 0, .ref (b + 8), .null, .null, .null], ia (List.replicate 16 0), ia (List.replicate 16 0), ia (List.replicate 11 0), ia (List.replicate 24 0), ia (List.replicate 16 0), ia (List.replicate 60 0), ia (List.replicate 12 0), ia (List.replicate 12 0)]) hb d_M_init_70 lp_M_35 rfl rfl (ft_arr _ _) (Nat.le_of_ble_eq_true rfl) rfl ?_
  refine aw_aload_n (pc := 73) d_M_init_73 rfl rfl ?_
  refine aw_bipush (pc := 74) (v := 12) d_M_init_74 (by decide) ?_
  refine aw_newlP (pc := 76) (k := 9) (N := 12) (l' := [ob 5 [.ref (b + 1), .ref (b + 2), .int 0, .ref (b + 3), .int 4, .int 0, .ref (b + 4), .int 0, .ref (b + 5), .int 0, .ref (b + 6), .ref (b + 7), .int 0, .int 0, .int 0, .int 0, .ref (b + 8), .null, .null, .null], ia (List.replicate 16 0), ia (List.replicate 16 0), ia (List.replicate 11 0), ia (List.replicate 24 0), ia (List.replicate 16 0), ia (List.replicate 60 0), ia (List.replicate 12 0), ia (List.replicate 12 0), ja (List.replicate 12 0)]) hb rfl d_M_init_76 (by decide) rfl (by decide) ⟨by decide, by decide⟩ rfl ?_
  refine aw_putFP (pc := 78) (b := b) (k := 0) (l' := [ob 5 [.ref (b + 1), .ref (b + 2), .int 0, .ref (b + 3), .int 4, .int 0, .ref (b + 4), .int 0, .ref (b + 5), .int 0, .ref (b + 6), .ref (b + 7), .int 0, .int 0, .int 0, .int 0, .ref (b + 8), .ref (b + 9), .null, .null], ia (List.replicate 16 0), ia (List.replicate 16 0), ia (List.replicate 11 0), ia (List.replicate 24 0), ia (List.replicate 16 0), ia (List.replicate 60 0), ia (List.replicate 12 0), ia (List.replicate 12 0), ja (List.replicate 12 0)]) hb d_M_init_78 lp_M_38 rfl rfl (ft_arr _ _) (Nat.le_of_ble_eq_true rfl) rfl ?_
  refine aw_aload_n (pc := 81) d_M_init_81 rfl rfl ?_
  refine aw_sipush (pc := 82) (v := 160) d_M_init_82 (by decide) ?_
  refine aw_newiP (pc := 85) (k := 10) (N := 160) (l' := [ob 5 [.ref (b + 1), .ref (b + 2), .int 0, .ref (b + 3), .int 4, .int 0, .ref (b + 4), .int 0, .ref (b + 5), .int 0, .ref (b + 6), .ref (b + 7), .int 0, .int 0, .int 0, .int 0, .ref (b + 8), .ref (b + 9), .null, .null], ia (List.replicate 16 0), ia (List.replicate 16 0), ia (List.replicate 11 0), ia (List.replicate 24 0), ia (List.replicate 16 0), ia (List.replicate 60 0), ia (List.replicate 12 0), ia (List.replicate 12 0), ja (List.replicate 12 0), ia (List.replicate 160 0)]) hb rfl d_M_init_85 (by decide) rfl (by decide) ⟨by decide, by decide⟩ rfl ?_
  refine aw_putFP (pc := 87) (b := b) (k := 0) (l' := [ob 5 [.ref (b + 1), .ref (b + 2), .int 0, .ref (b + 3), .int 4, .int 0, .ref (b + 4), .int 0, .ref (b + 5), .int 0, .ref (b + 6), .ref (b + 7), .int 0, .int 0, .int 0, .int 0, .ref (b + 8), .ref (b + 9), .ref (b + 10), .null], ia (List.replicate 16 0), ia (List.replicate 16 0), ia (List.replicate 11 0), ia (List.replicate 24 0), ia (List.replicate 16 0), ia (List.replicate 60 0), ia (List.replicate 12 0), ia (List.replicate 12 0), ja (List.replicate 12 0), ia (List.replicate 160 0)]) hb d_M_init_87 lp_M_42 rfl rfl (ft_arr _ _) (Nat.le_of_ble_eq_true rfl) rfl ?_
  refine aw_aload_n (pc := 90) d_M_init_90 rfl rfl ?_
  refine aw_iconst (pc := 91) (v := 2) d_M_init_91 (by decide) ?_
  refine aw_newzP (pc := 92) (k := 11) (N := 2) (l' := [ob 5 [.ref (b + 1), .ref (b + 2), .int 0, .ref (b + 3), .int 4, .int 0, .ref (b + 4), .int 0, .ref (b + 5), .int 0, .ref (b + 6), .ref (b + 7), .int 0, .int 0, .int 0, .int 0, .ref (b + 8), .ref (b + 9), .ref (b + 10), .null], ia (List.replicate 16 0), ia (List.replicate 16 0), ia (List.replicate 11 0), ia (List.replicate 24 0), ia (List.replicate 16 0), ia (List.replicate 60 0), ia (List.replicate 12 0), ia (List.replicate 12 0), ja (List.replicate 12 0), ia (List.replicate 160 0), za (List.replicate 2 0)]) hb rfl d_M_init_92 (by decide) rfl (by decide) ⟨by decide, by decide⟩ rfl ?_
  refine aw_putFP (pc := 94) (b := b) (k := 0) (l' := [ob 5 [.ref (b + 1), .ref (b + 2), .int 0, .ref (b + 3), .int 4, .int 0, .ref (b + 4), .int 0, .ref (b + 5), .int 0, .ref (b + 6), .ref (b + 7), .int 0, .int 0, .int 0, .int 0, .ref (b + 8), .ref (b + 9), .ref (b + 10), .ref (b + 11)], ia (List.replicate 16 0), ia (List.replicate 16 0), ia (List.replicate 11 0), ia (List.replicate 24 0), ia (List.replicate 16 0), ia (List.replicate 60 0), ia (List.replicate 12 0), ia (List.replicate 12 0), ja (List.replicate 12 0), ia (List.replicate 160 0), za (List.replicate 2 0)]) hb d_M_init_94 lp_M_45 rfl rfl (ft_arr _ _) (Nat.le_of_ble_eq_true rfl) rfl ?_
  refine aw_aload_n (pc := 97) d_M_init_97 rfl rfl ?_
  refine aw_iconst (pc := 98) (v := 0) d_M_init_98 (by decide) ?_
  refine aw_putP (pc := 99) (b := b) (k := 0) (l' := [ob 5 [.ref (b + 1), .ref (b + 2), .int 0, .ref (b + 3), .int 4, .int 0, .ref (b + 4), .int 0, .ref (b + 5), .int 0, .ref (b + 6), .ref (b + 7), .int 0, .int 0, .int 0, .int 0, .ref (b + 8), .ref (b + 9), .ref (b + 10), .ref (b + 11)], ia (List.replicate 16 0), ia (List.replicate 16 0), ia (List.replicate 11 0), ia (List.replicate 24 0), ia (List.replicate 16 0), ia (List.replicate 60 0), ia (List.replicate 12 0), ia (List.replicate 12 0), ja (List.replicate 12 0), ia (List.replicate 160 0), za (List.replicate 2 0)]) hb d_M_init_99 lp_M_49 rfl (ft_int _) (Nat.le_of_ble_eq_true rfl) rfl ?_
  refine aw_vret (pc := 102) d_M_init_102 rfl ?_
  exact ⟨rfl, rfl⟩
def wV : ax_H := [ob 4 [.ref 1, .ref 8, .ref 15, .ref 22, .ref 29, .ref 31, .ref 34, .int 0], ob 3 [.ref 2, .ref 3, .ref 4, .ref 5, .ref 6, .ref 7, .int 0, .int 0, .int 0, .int 4, .int 0, .int 0, .int 0, .int 0, .int 0, .int 0], ia (List.replicate 12 0), ia (List.replicate 11 0), ia (List.replicate 6 0), ia (List.replicate 6 0), ia (List.replicate 6 0), ia (List.replicate 6 0), ob 3 [.ref 9, .ref 10, .ref 11, .ref 12, .ref 13, .ref 14, .int 0, .int 0, .int 0, .int 4, .int 0, .int 0, .int 0, .int 0, .int 0, .int 0], ia (List.replicate 12 0), ia (List.replicate 11 0), ia (List.replicate 6 0), ia (List.replicate 6 0), ia (List.replicate 6 0), ia (List.replicate 6 0), ob 3 [.ref 16, .ref 17, .ref 18, .ref 19, .ref 20, .ref 21, .int 0, .int 0, .int 0, .int 4, .int 0, .int 0, .int 0, .int 0, .int 0, .int 0], ia (List.replicate 12 0), ia (List.replicate 11 0), ia (List.replicate 6 0), ia (List.replicate 6 0), ia (List.replicate 6 0), ia (List.replicate 6 0), ob 3 [.ref 23, .ref 24, .ref 25, .ref 26, .ref 27, .ref 28, .int 0, .int 0, .int 0, .int 4, .int 0, .int 0, .int 0, .int 0, .int 0, .int 0], ia (List.replicate 12 0), ia (List.replicate 11 0), ia (List.replicate 6 0), ia (List.replicate 6 0), ia (List.replicate 6 0), ia (List.replicate 6 0), ob 2 [.ref 30, .int 0, .int 0, .int (-6), .int (-6), .int (-6)], ia (List.replicate 60 0), ob 1 [.ref 32, .ref 33], ia (List.replicate 12 0), ia (List.replicate 12 0), ob 0 [.ref 35, .int 0, .int 0, .long 0, .long 1], ja (List.replicate 12 0)]
set_option maxHeartbeats 1000000 in
set_option maxRecDepth 20000 in
theorem c_V_init : AM m_V_init r_V_init [ob 4 [.null, .null, .null, .null, .null, .null, .null, .int 0]] [.ref 0] (fun r h' => r = none ∧ h' = wV) := by
  refine am_of (by decide) rfl (by first | decide | exact Nat.le_of_ble_eq_true rfl) ?_
  refine aw_aload_n (pc := 0) d_V_init_0 rfl rfl ?_
  refine aw_objInit (pc := 1) d_V_init_1 lm_V_1 wi_O_init wc_O (by decide) (Nat.le_of_ble_eq_true rfl) ?_
  refine aw_aload_n (pc := 4) d_V_init_4 rfl rfl ?_
  refine aw_new (pc := 5) (fs := [.null, .null, .null, .null, .null, .null, .int 0, .int 0, .int 0, .int 0, .int 0, .int 0, .int 0, .int 0, .int 0, .int 0]) d_V_init_5 cl_3 lk_V_7 wt_S wn_S df_3 (fun g => rfl) ⟨by decide, by decide⟩ ?_
  refine aw_dup (pc := 8) d_V_init_8 rfl ?_
  refine aw_callJ (pc := 9) (as := []) (rest := [.ref 1, .ref 0]) (k := 1) (c_S_init (h0 := [ob 4 [.null, .null, .null, .null, .null, .null, .null, .int 0]]) (b := 1) rfl) ok_S_init d_V_init_9 ln_V_9 rfl rfl ⟨by decide, by decide⟩ (Nat.le_of_ble_eq_true rfl) ⟨by decide, by decide⟩ (fun r h' hq => ?_)
  obtain ⟨rfl, rfl⟩ := hq
  refine aw_eq (h' := [ob 4 [.null, .null, .null, .null, .null, .null, .null, .int 0], ob 3 [.ref 2, .ref 3, .ref 4, .ref 5, .ref 6, .ref 7, .int 0, .int 0, .int 0, .int 4, .int 0, .int 0, .int 0, .int 0, .int 0, .int 0], ia (List.replicate 12 0), ia (List.replicate 11 0), ia (List.replicate 6 0), ia (List.replicate 6 0), ia (List.replicate 6 0), ia (List.replicate 6 0)]) (st' := [.ref 1, .ref 0]) ?_ rfl rfl rfl
  refine aw_putF (pc := 12) (k := 0) (h' := [ob 4 [.ref 1, .null, .null, .null, .null, .null, .null, .int 0], ob 3 [.ref 2, .ref 3, .ref 4, .ref 5, .ref 6, .ref 7, .int 0, .int 0, .int 0, .int 4, .int 0, .int 0, .int 0, .int 0, .int 0, .int 0], ia (List.replicate 12 0), ia (List.replicate 11 0), ia (List.replicate 6 0), ia (List.replicate 6 0), ia (List.replicate 6 0), ia (List.replicate 6 0)]) d_V_init_12 lp_V_10 rfl rfl (ft_obj _ _) (Nat.le_of_ble_eq_true rfl) rfl ?_
  refine aw_aload_n (pc := 15) d_V_init_15 rfl rfl ?_
  refine aw_new (pc := 16) (fs := [.null, .null, .null, .null, .null, .null, .int 0, .int 0, .int 0, .int 0, .int 0, .int 0, .int 0, .int 0, .int 0, .int 0]) d_V_init_16 cl_3 lk_V_7 wt_S wn_S df_3 (fun g => rfl) ⟨by decide, by decide⟩ ?_
  refine aw_dup (pc := 19) d_V_init_19 rfl ?_
  refine aw_callJ (pc := 20) (as := []) (rest := [.ref 8, .ref 0]) (k := 8) (c_S_init (h0 := [ob 4 [.ref 1, .null, .null, .null, .null, .null, .null, .int 0], ob 3 [.ref 2, .ref 3, .ref 4, .ref 5, .ref 6, .ref 7, .int 0, .int 0, .int 0, .int 4, .int 0, .int 0, .int 0, .int 0, .int 0, .int 0], ia (List.replicate 12 0), ia (List.replicate 11 0), ia (List.replicate 6 0), ia (List.replicate 6 0), ia (List.replicate 6 0), ia (List.replicate 6 0)]) (b := 8) rfl) ok_S_init d_V_init_20 ln_V_9 rfl rfl ⟨by decide, by decide⟩ (Nat.le_of_ble_eq_true rfl) ⟨by decide, by decide⟩ (fun r h' hq => ?_)
  obtain ⟨rfl, rfl⟩ := hq
  refine aw_eq (h' := [ob 4 [.ref 1, .null, .null, .null, .null, .null, .null, .int 0], ob 3 [.ref 2, .ref 3, .ref 4, .ref 5, .ref 6, .ref 7, .int 0, .int 0, .int 0, .int 4, .int 0, .int 0, .int 0, .int 0, .int 0, .int 0], ia (List.replicate 12 0), ia (List.replicate 11 0), ia (List.replicate 6 0), ia (List.replicate 6 0), ia (List.replicate 6 0), ia (List.replicate 6 0), ob 3 [.ref 9, .ref 10, .ref 11, .ref 12, .ref 13, .ref 14, .int 0, .int 0, .int 0, .int 4, .int 0, .int 0, .int 0, .int 0, .int 0, .int 0], ia (List.replicate 12 0), ia (List.replicate 11 0), ia (List.replicate 6 0), ia (List.replicate 6 0), ia (List.replicate 6 0), ia (List.replicate 6 0)]) (st' := [.ref 8, .ref 0]) ?_ rfl rfl rfl
  refine aw_putF (pc := 23) (k := 0) (h' := [ob 4 [.ref 1, .ref 8, .null, .null, .null, .null, .null, .int 0], ob 3 [.ref 2, .ref 3, .ref 4, .ref 5, .ref 6, .ref 7, .int 0, .int 0, .int 0, .int 4, .int 0, .int 0, .int 0, .int 0, .int 0, .int 0], ia (List.replicate 12 0), ia (List.replicate 11 0), ia (List.replicate 6 0), ia (List.replicate 6 0), ia (List.replicate 6 0), ia (List.replicate 6 0), ob 3 [.ref 9, .ref 10, .ref 11, .ref 12, .ref 13, .ref 14, .int 0, .int 0, .int 0, .int 4, .int 0, .int 0, .int 0, .int 0, .int 0, .int 0], ia (List.replicate 12 0), ia (List.replicate 11 0), ia (List.replicate 6 0), ia (List.replicate 6 0), ia (List.replicate 6 0), ia (List.replicate 6 0)]) d_V_init_23 lp_V_16 rfl rfl (ft_obj _ _) (Nat.le_of_ble_eq_true rfl) rfl ?_
  refine aw_aload_n (pc := 26) d_V_init_26 rfl rfl ?_
  refine aw_new (pc := 27) (fs := [.null, .null, .null, .null, .null, .null, .int 0, .int 0, .int 0, .int 0, .int 0, .int 0, .int 0, .int 0, .int 0, .int 0]) d_V_init_27 cl_3 lk_V_7 wt_S wn_S df_3 (fun g => rfl) ⟨by decide, by decide⟩ ?_
  refine aw_dup (pc := 30) d_V_init_30 rfl ?_
  refine aw_callJ (pc := 31) (as := []) (rest := [.ref 15, .ref 0]) (k := 15) (c_S_init (h0 := [ob 4 [.ref 1, .ref 8, .null, .null, .null, .null, .null, .int 0], ob 3 [.ref 2, .ref 3, .ref 4, .ref 5, .ref 6, .ref 7, .int 0, .int 0, .int 0, .int 4, .int 0, .int 0, .int 0, .int 0, .int 0, .int 0], ia (List.replicate 12 0), ia (List.replicate 11 0), ia (List.replicate 6 0), ia (List.replicate 6 0), ia (List.replicate 6 0), ia (List.replicate 6 0), ob 3 [.ref 9, .ref 10, .ref 11, .ref 12, .ref 13, .ref 14, .int 0, .int 0, .int 0, .int 4, .int 0, .int 0, .int 0, .int 0, .int 0, .int 0], ia (List.replicate 12 0), ia (List.replicate 11 0), ia (List.replicate 6 0), ia (List.replicate 6 0), ia (List.replicate 6 0), ia (List.replicate 6 0)]) (b := 15) rfl) ok_S_init d_V_init_31 ln_V_9 rfl rfl ⟨by decide, by decide⟩ (Nat.le_of_ble_eq_true rfl) ⟨by decide, by decide⟩ (fun r h' hq => ?_)
  obtain ⟨rfl, rfl⟩ := hq
  refine aw_eq (h' := [ob 4 [.ref 1, .ref 8, .null, .null, .null, .null, .null, .int 0], ob 3 [.ref 2, .ref 3, .ref 4, .ref 5, .ref 6, .ref 7, .int 0, .int 0, .int 0, .int 4, .int 0, .int 0, .int 0, .int 0, .int 0, .int 0], ia (List.replicate 12 0), ia (List.replicate 11 0), ia (List.replicate 6 0), ia (List.replicate 6 0), ia (List.replicate 6 0), ia (List.replicate 6 0), ob 3 [.ref 9, .ref 10, .ref 11, .ref 12, .ref 13, .ref 14, .int 0, .int 0, .int 0, .int 4, .int 0, .int 0, .int 0, .int 0, .int 0, .int 0], ia (List.replicate 12 0), ia (List.replicate 11 0), ia (List.replicate 6 0), ia (List.replicate 6 0), ia (List.replicate 6 0), ia (List.replicate 6 0), ob 3 [.ref 16, .ref 17, .ref 18, .ref 19, .ref 20, .ref 21, .int 0, .int 0, .int 0, .int 4, .int 0, .int 0, .int 0, .int 0, .int 0, .int 0], ia (List.replicate 12 0), ia (List.replicate 11 0), ia (List.replicate 6 0), ia (List.replicate 6 0), ia (List.replicate 6 0), ia (List.replicate 6 0)]) (st' := [.ref 15, .ref 0]) ?_ rfl rfl rfl
  refine aw_putF (pc := 34) (k := 0) (h' := [ob 4 [.ref 1, .ref 8, .ref 15, .null, .null, .null, .null, .int 0], ob 3 [.ref 2, .ref 3, .ref 4, .ref 5, .ref 6, .ref 7, .int 0, .int 0, .int 0, .int 4, .int 0, .int 0, .int 0, .int 0, .int 0, .int 0], ia (List.replicate 12 0), ia (List.replicate 11 0), ia (List.replicate 6 0), ia (List.replicate 6 0), ia (List.replicate 6 0), ia (List.replicate 6 0), ob 3 [.ref 9, .ref 10, .ref 11, .ref 12, .ref 13, .ref 14, .int 0, .int 0, .int 0, .int 4, .int 0, .int 0, .int 0, .int 0, .int 0, .int 0], ia (List.replicate 12 0), ia (List.replicate 11 0), ia (List.replicate 6 0), ia (List.replicate 6 0), ia (List.replicate 6 0), ia (List.replicate 6 0), ob 3 [.ref 16, .ref 17, .ref 18, .ref 19, .ref 20, .ref 21, .int 0, .int 0, .int 0, .int 4, .int 0, .int 0, .int 0, .int 0, .int 0, .int 0], ia (List.replicate 12 0), ia (List.replicate 11 0), ia (List.replicate 6 0), ia (List.replicate 6 0), ia (List.replicate 6 0), ia (List.replicate 6 0)]) d_V_init_34 lp_V_19 rfl rfl (ft_obj _ _) (Nat.le_of_ble_eq_true rfl) rfl ?_
  refine aw_aload_n (pc := 37) d_V_init_37 rfl rfl ?_
  refine aw_new (pc := 38) (fs := [.null, .null, .null, .null, .null, .null, .int 0, .int 0, .int 0, .int 0, .int 0, .int 0, .int 0, .int 0, .int 0, .int 0]) d_V_init_38 cl_3 lk_V_7 wt_S wn_S df_3 (fun g => rfl) ⟨by decide, by decide⟩ ?_
  refine aw_dup (pc := 41) d_V_init_41 rfl ?_
  refine aw_callJ (pc := 42) (as := []) (rest := [.ref 22, .ref 0]) (k := 22) (c_S_init (h0 := [ob 4 [.ref 1, .ref 8, .ref 15, .null, .null, .null, .null, .int 0], ob 3 [.ref 2, .ref 3, .ref 4, .ref 5, .ref 6, .ref 7, .int 0, .int 0, .int 0, .int 4, .int 0, .int 0, .int 0, .int 0, .int 0, .int 0], ia (List.replicate 12 0), ia (List.replicate 11 0), ia (List.replicate 6 0), ia (List.replicate 6 0), ia (List.replicate 6 0), ia (List.replicate 6 0), ob 3 [.ref 9, .ref 10, .ref 11, .ref 12, .ref 13, .ref 14, .int 0, .int 0, .int 0, .int 4, .int 0, .int 0, .int 0, .int 0, .int 0, .int 0], ia (List.replicate 12 0), ia (List.replicate 11 0), ia (List.replicate 6 0), ia (List.replicate 6 0), ia (List.replicate 6 0), ia (List.replicate 6 0), ob 3 [.ref 16, .ref 17, .ref 18, .ref 19, .ref 20, .ref 21, .int 0, .int 0, .int 0, .int 4, .int 0, .int 0, .int 0, .int 0, .int 0, .int 0], ia (List.replicate 12 0), ia (List.replicate 11 0), ia (List.replicate 6 0), ia (List.replicate 6 0), ia (List.replicate 6 0), ia (List.replicate 6 0)]) (b := 22) rfl) ok_S_init d_V_init_42 ln_V_9 rfl rfl ⟨by decide, by decide⟩ (Nat.le_of_ble_eq_true rfl) ⟨by decide, by decide⟩ (fun r h' hq => ?_)
  obtain ⟨rfl, rfl⟩ := hq
  refine aw_eq (h' := [ob 4 [.ref 1, .ref 8, .ref 15, .null, .null, .null, .null, .int 0], ob 3 [.ref 2, .ref 3, .ref 4, .ref 5, .ref 6, .ref 7, .int 0, .int 0, .int 0, .int 4, .int 0, .int 0, .int 0, .int 0, .int 0, .int 0], ia (List.replicate 12 0), ia (List.replicate 11 0), ia (List.replicate 6 0), ia (List.replicate 6 0), ia (List.replicate 6 0), ia (List.replicate 6 0), ob 3 [.ref 9, .ref 10, .ref 11, .ref 12, .ref 13, .ref 14, .int 0, .int 0, .int 0, .int 4, .int 0, .int 0, .int 0, .int 0, .int 0, .int 0], ia (List.replicate 12 0), ia (List.replicate 11 0), ia (List.replicate 6 0), ia (List.replicate 6 0), ia (List.replicate 6 0), ia (List.replicate 6 0), ob 3 [.ref 16, .ref 17, .ref 18, .ref 19, .ref 20, .ref 21, .int 0, .int 0, .int 0, .int 4, .int 0, .int 0, .int 0, .int 0, .int 0, .int 0], ia (List.replicate 12 0), ia (List.replicate 11 0), ia (List.replicate 6 0), ia (List.replicate 6 0), ia (List.replicate 6 0), ia (List.replicate 6 0), ob 3 [.ref 23, .ref 24, .ref 25, .ref 26, .ref 27, .ref 28, .int 0, .int 0, .int 0, .int 4, .int 0, .int 0, .int 0, .int 0, .int 0, .int 0], ia (List.replicate 12 0), ia (List.replicate 11 0), ia (List.replicate 6 0), ia (List.replicate 6 0), ia (List.replicate 6 0), ia (List.replicate 6 0)]) (st' := [.ref 22, .ref 0]) ?_ rfl rfl rfl
  refine aw_putF (pc := 45) (k := 0) (h' := [ob 4 [.ref 1, .ref 8, .ref 15, .ref 22, .null, .null, .null, .int 0], ob 3 [.ref 2, .ref 3, .ref 4, .ref 5, .ref 6, .ref 7, .int 0, .int 0, .int 0, .int 4, .int 0, .int 0, .int 0, .int 0, .int 0, .int 0], ia (List.replicate 12 0), ia (List.replicate 11 0), ia (List.replicate 6 0), ia (List.replicate 6 0), ia (List.replicate 6 0), ia (List.replicate 6 0), ob 3 [.ref 9, .ref 10, .ref 11, .ref 12, .ref 13, .ref 14, .int 0, .int 0, .int 0, .int 4, .int 0, .int 0, .int 0, .int 0, .int 0, .int 0], ia (List.replicate 12 0), ia (List.replicate 11 0), ia (List.replicate 6 0), ia (List.replicate 6 0), ia (List.replicate 6 0), ia (List.replicate 6 0), ob 3 [.ref 16, .ref 17, .ref 18, .ref 19, .ref 20, .ref 21, .int 0, .int 0, .int 0, .int 4, .int 0, .int 0, .int 0, .int 0, .int 0, .int 0], ia (List.replicate 12 0), ia (List.replicate 11 0), ia (List.replicate 6 0), ia (List.replicate 6 0), ia (List.replicate 6 0), ia (List.replicate 6 0), ob 3 [.ref 23, .ref 24, .ref 25, .ref 26, .ref 27, .ref 28, .int 0, .int 0, .int 0, .int 4, .int 0, .int 0, .int 0, .int 0, .int 0, .int 0], ia (List.replicate 12 0), ia (List.replicate 11 0), ia (List.replicate 6 0), ia (List.replicate 6 0), ia (List.replicate 6 0), ia (List.replicate 6 0)]) d_V_init_45 lp_V_22 rfl rfl (ft_obj _ _) (Nat.le_of_ble_eq_true rfl) rfl ?_
  refine aw_aload_n (pc := 48) d_V_init_48 rfl rfl ?_
  refine aw_new (pc := 49) (fs := [.null, .int 0, .int 0, .int 0, .int 0, .int 0]) d_V_init_49 cl_2 lk_V_25 wt_P wn_P df_2 (fun g => rfl) ⟨by decide, by decide⟩ ?_
  refine aw_dup (pc := 52) d_V_init_52 rfl ?_
  refine aw_callJ (pc := 53) (as := []) (rest := [.ref 29, .ref 0]) (k := 29) (c_P_init (h0 := [ob 4 [.ref 1, .ref 8, .ref 15, .ref 22, .null, .null, .null, .int 0], ob 3 [.ref 2, .ref 3, .ref 4, .ref 5, .ref 6, .ref 7, .int 0, .int 0, .int 0, .int 4, .int 0, .int 0, .int 0, .int 0, .int 0, .int 0], ia (List.replicate 12 0), ia (List.replicate 11 0), ia (List.replicate 6 0), ia (List.replicate 6 0), ia (List.replicate 6 0), ia (List.replicate 6 0), ob 3 [.ref 9, .ref 10, .ref 11, .ref 12, .ref 13, .ref 14, .int 0, .int 0, .int 0, .int 4, .int 0, .int 0, .int 0, .int 0, .int 0, .int 0], ia (List.replicate 12 0), ia (List.replicate 11 0), ia (List.replicate 6 0), ia (List.replicate 6 0), ia (List.replicate 6 0), ia (List.replicate 6 0), ob 3 [.ref 16, .ref 17, .ref 18, .ref 19, .ref 20, .ref 21, .int 0, .int 0, .int 0, .int 4, .int 0, .int 0, .int 0, .int 0, .int 0, .int 0], ia (List.replicate 12 0), ia (List.replicate 11 0), ia (List.replicate 6 0), ia (List.replicate 6 0), ia (List.replicate 6 0), ia (List.replicate 6 0), ob 3 [.ref 23, .ref 24, .ref 25, .ref 26, .ref 27, .ref 28, .int 0, .int 0, .int 0, .int 4, .int 0, .int 0, .int 0, .int 0, .int 0, .int 0], ia (List.replicate 12 0), ia (List.replicate 11 0), ia (List.replicate 6 0), ia (List.replicate 6 0), ia (List.replicate 6 0), ia (List.replicate 6 0)]) (b := 29) rfl) ok_P_init d_V_init_53 ln_V_27 rfl rfl ⟨by decide, by decide⟩ (Nat.le_of_ble_eq_true rfl) ⟨by decide, by decide⟩ (fun r h' hq => ?_)
  obtain ⟨rfl, rfl⟩ := hq
  refine aw_eq (h' := [ob 4 [.ref 1, .ref 8, .ref 15, .ref 22, .null, .null, .null, .int 0], ob 3 [.ref 2, .ref 3, .ref 4, .ref 5, .ref 6, .ref 7, .int 0, .int 0, .int 0, .int 4, .int 0, .int 0, .int 0, .int 0, .int 0, .int 0], ia (List.replicate 12 0), ia (List.replicate 11 0), ia (List.replicate 6 0), ia (List.replicate 6 0), ia (List.replicate 6 0), ia (List.replicate 6 0), ob 3 [.ref 9, .ref 10, .ref 11, .ref 12, .ref 13, .ref 14, .int 0, .int 0, .int 0, .int 4, .int 0, .int 0, .int 0, .int 0, .int 0, .int 0], ia (List.replicate 12 0), ia (List.replicate 11 0), ia (List.replicate 6 0), ia (List.replicate 6 0), ia (List.replicate 6 0), ia (List.replicate 6 0), ob 3 [.ref 16, .ref 17, .ref 18, .ref 19, .ref 20, .ref 21, .int 0, .int 0, .int 0, .int 4, .int 0, .int 0, .int 0, .int 0, .int 0, .int 0], ia (List.replicate 12 0), ia (List.replicate 11 0), ia (List.replicate 6 0), ia (List.replicate 6 0), ia (List.replicate 6 0), ia (List.replicate 6 0), ob 3 [.ref 23, .ref 24, .ref 25, .ref 26, .ref 27, .ref 28, .int 0, .int 0, .int 0, .int 4, .int 0, .int 0, .int 0, .int 0, .int 0, .int 0], ia (List.replicate 12 0), ia (List.replicate 11 0), ia (List.replicate 6 0), ia (List.replicate 6 0), ia (List.replicate 6 0), ia (List.replicate 6 0), ob 2 [.ref 30, .int 0, .int 0, .int (-6), .int (-6), .int (-6)], ia (List.replicate 60 0)]) (st' := [.ref 29, .ref 0]) ?_ rfl rfl rfl
  refine aw_putF (pc := 56) (k := 0) (h' := [ob 4 [.ref 1, .ref 8, .ref 15, .ref 22, .ref 29, .null, .null, .int 0], ob 3 [.ref 2, .ref 3, .ref 4, .ref 5, .ref 6, .ref 7, .int 0, .int 0, .int 0, .int 4, .int 0, .int 0, .int 0, .int 0, .int 0, .int 0], ia (List.replicate 12 0), ia (List.replicate 11 0), ia (List.replicate 6 0), ia (List.replicate 6 0), ia (List.replicate 6 0), ia (List.replicate 6 0), ob 3 [.ref 9, .ref 10, .ref 11, .ref 12, .ref 13, .ref 14, .int 0, .int 0, .int 0, .int 4, .int 0, .int 0, .int 0, .int 0, .int 0, .int 0], ia (List.replicate 12 0), ia (List.replicate 11 0), ia (List.replicate 6 0), ia (List.replicate 6 0), ia (List.replicate 6 0), ia (List.replicate 6 0), ob 3 [.ref 16, .ref 17, .ref 18, .ref 19, .ref 20, .ref 21, .int 0, .int 0, .int 0, .int 4, .int 0, .int 0, .int 0, .int 0, .int 0, .int 0], ia (List.replicate 12 0), ia (List.replicate 11 0), ia (List.replicate 6 0), ia (List.replicate 6 0), ia (List.replicate 6 0), ia (List.replicate 6 0), ob 3 [.ref 23, .ref 24, .ref 25, .ref 26, .ref 27, .ref 28, .int 0, .int 0, .int 0, .int 4, .int 0, .int 0, .int 0, .int 0, .int 0, .int 0], ia (List.replicate 12 0), ia (List.replicate 11 0), ia (List.replicate 6 0), ia (List.replicate 6 0), ia (List.replicate 6 0), ia (List.replicate 6 0), ob 2 [.ref 30, .int 0, .int 0, .int (-6), .int (-6), .int (-6)], ia (List.replicate 60 0)]) d_V_init_56 lp_V_28 rfl rfl (ft_obj _ _) (Nat.le_of_ble_eq_true rfl) rfl ?_
  refine aw_aload_n (pc := 59) d_V_init_59 rfl rfl ?_
  refine aw_new (pc := 60) (fs := [.null, .null]) d_V_init_60 cl_1 lk_V_32 wt_L wn_L df_1 (fun g => rfl) ⟨by decide, by decide⟩ ?_
  refine aw_dup (pc := 63) d_V_init_63 rfl ?_
  refine aw_callJ (pc := 64) (as := []) (rest := [.ref 31, .ref 0]) (k := 31) (c_L_init (h0 := [ob 4 [.ref 1, .ref 8, .ref 15, .ref 22, .ref 29, .null, .null, .int 0], ob 3 [.ref 2, .ref 3, .ref 4, .ref 5, .ref 6, .ref 7, .int 0, .int 0, .int 0, .int 4, .int 0, .int 0, .int 0, .int 0, .int 0, .int 0], ia (List.replicate 12 0), ia (List.replicate 11 0), ia (List.replicate 6 0), ia (List.replicate 6 0), ia (List.replicate 6 0), ia (List.replicate 6 0), ob 3 [.ref 9, .ref 10, .ref 11, .ref 12, .ref 13, .ref 14, .int 0, .int 0, .int 0, .int 4, .int 0, .int 0, .int 0, .int 0, .int 0, .int 0], ia (List.replicate 12 0), ia (List.replicate 11 0), ia (List.replicate 6 0), ia (List.replicate 6 0), ia (List.replicate 6 0), ia (List.replicate 6 0), ob 3 [.ref 16, .ref 17, .ref 18, .ref 19, .ref 20, .ref 21, .int 0, .int 0, .int 0, .int 4, .int 0, .int 0, .int 0, .int 0, .int 0, .int 0], ia (List.replicate 12 0), ia (List.replicate 11 0), ia (List.replicate 6 0), ia (List.replicate 6 0), ia (List.replicate 6 0), ia (List.replicate 6 0), ob 3 [.ref 23, .ref 24, .ref 25, .ref 26, .ref 27, .ref 28, .int 0, .int 0, .int 0, .int 4, .int 0, .int 0, .int 0, .int 0, .int 0, .int 0], ia (List.replicate 12 0), ia (List.replicate 11 0), ia (List.replicate 6 0), ia (List.replicate 6 0), ia (List.replicate 6 0), ia (List.replicate 6 0), ob 2 [.ref 30, .int 0, .int 0, .int (-6), .int (-6), .int (-6)], ia (List.replicate 60 0)]) (b := 31) rfl) ok_L_init d_V_init_64 ln_V_34 rfl rfl ⟨by decide, by decide⟩ (Nat.le_of_ble_eq_true rfl) ⟨by decide, by decide⟩ (fun r h' hq => ?_)
  obtain ⟨rfl, rfl⟩ := hq
  refine aw_eq (h' := [ob 4 [.ref 1, .ref 8, .ref 15, .ref 22, .ref 29, .null, .null, .int 0], ob 3 [.ref 2, .ref 3, .ref 4, .ref 5, .ref 6, .ref 7, .int 0, .int 0, .int 0, .int 4, .int 0, .int 0, .int 0, .int 0, .int 0, .int 0], ia (List.replicate 12 0), ia (List.replicate 11 0), ia (List.replicate 6 0), ia (List.replicate 6 0), ia (List.replicate 6 0), ia (List.replicate 6 0), ob 3 [.ref 9, .ref 10, .ref 11, .ref 12, .ref 13, .ref 14, .int 0, .int 0, .int 0, .int 4, .int 0, .int 0, .int 0, .int 0, .int 0, .int 0], ia (List.replicate 12 0), ia (List.replicate 11 0), ia (List.replicate 6 0), ia (List.replicate 6 0), ia (List.replicate 6 0), ia (List.replicate 6 0), ob 3 [.ref 16, .ref 17, .ref 18, .ref 19, .ref 20, .ref 21, .int 0, .int 0, .int 0, .int 4, .int 0, .int 0, .int 0, .int 0, .int 0, .int 0], ia (List.replicate 12 0), ia (List.replicate 11 0), ia (List.replicate 6 0), ia (List.replicate 6 0), ia (List.replicate 6 0), ia (List.replicate 6 0), ob 3 [.ref 23, .ref 24, .ref 25, .ref 26, .ref 27, .ref 28, .int 0, .int 0, .int 0, .int 4, .int 0, .int 0, .int 0, .int 0, .int 0, .int 0], ia (List.replicate 12 0), ia (List.replicate 11 0), ia (List.replicate 6 0), ia (List.replicate 6 0), ia (List.replicate 6 0), ia (List.replicate 6 0), ob 2 [.ref 30, .int 0, .int 0, .int (-6), .int (-6), .int (-6)], ia (List.replicate 60 0), ob 1 [.ref 32, .ref 33], ia (List.replicate 12 0), ia (List.replicate 12 0)]) (st' := [.ref 31, .ref 0]) ?_ rfl rfl rfl
  refine aw_putF (pc := 67) (k := 0) (h' := [ob 4 [.ref 1, .ref 8, .ref 15, .ref 22, .ref 29, .ref 31, .null, .int 0], ob 3 [.ref 2, .ref 3, .ref 4, .ref 5, .ref 6, .ref 7, .int 0, .int 0, .int 0, .int 4, .int 0, .int 0, .int 0, .int 0, .int 0, .int 0], ia (List.replicate 12 0), ia (List.replicate 11 0), ia (List.replicate 6 0), ia (List.replicate 6 0), ia (List.replicate 6 0), ia (List.replicate 6 0), ob 3 [.ref 9, .ref 10, .ref 11, .ref 12, .ref 13, .ref 14, .int 0, .int 0, .int 0, .int 4, .int 0, .int 0, .int 0, .int 0, .int 0, .int 0], ia (List.replicate 12 0), ia (List.replicate 11 0), ia (List.replicate 6 0), ia (List.replicate 6 0), ia (List.replicate 6 0), ia (List.replicate 6 0), ob 3 [.ref 16, .ref 17, .ref 18, .ref 19, .ref 20, .ref 21, .int 0, .int 0, .int 0, .int 4, .int 0, .int 0, .int 0, .int 0, .int 0, .int 0], ia (List.replicate 12 0), ia (List.replicate 11 0), ia (List.replicate 6 0), ia (List.replicate 6 0), ia (List.replicate 6 0), ia (List.replicate 6 0), ob 3 [.ref 23, .ref 24, .ref 25, .ref 26, .ref 27, .ref 28, .int 0, .int 0, .int 0, .int 4, .int 0, .int 0, .int 0, .int 0, .int 0, .int 0], ia (List.replicate 12 0), ia (List.replicate 11 0), ia (List.replicate 6 0), ia (List.replicate 6 0), ia (List.replicate 6 0), ia (List.replicate 6 0), ob 2 [.ref 30, .int 0, .int 0, .int (-6), .int (-6), .int (-6)], ia (List.replicate 60 0), ob 1 [.ref 32, .ref 33], ia (List.replicate 12 0), ia (List.replicate 12 0)]) d_V_init_67 lp_V_35 rfl rfl (ft_obj _ _) (Nat.le_of_ble_eq_true rfl) rfl ?_
  refine aw_aload_n (pc := 70) d_V_init_70 rfl rfl ?_
  refine aw_new (pc := 71) (fs := [.null, .int 0, .int 0, .long 0, .long 0]) d_V_init_71 cl_0 lk_V_39 wt_C wn_C df_0 (fun g => rfl) ⟨by decide, by decide⟩ ?_
  refine aw_dup (pc := 74) d_V_init_74 rfl ?_
  refine aw_callJ (pc := 75) (as := []) (rest := [.ref 34, .ref 0]) (k := 34) (c_C_init (h0 := [ob 4 [.ref 1, .ref 8, .ref 15, .ref 22, .ref 29, .ref 31, .null, .int 0], ob 3 [.ref 2, .ref 3, .ref 4, .ref 5, .ref 6, .ref 7, .int 0, .int 0, .int 0, .int 4, .int 0, .int 0, .int 0, .int 0, .int 0, .int 0], ia (List.replicate 12 0), ia (List.replicate 11 0), ia (List.replicate 6 0), ia (List.replicate 6 0), ia (List.replicate 6 0), ia (List.replicate 6 0), ob 3 [.ref 9, .ref 10, .ref 11, .ref 12, .ref 13, .ref 14, .int 0, .int 0, .int 0, .int 4, .int 0, .int 0, .int 0, .int 0, .int 0, .int 0], ia (List.replicate 12 0), ia (List.replicate 11 0), ia (List.replicate 6 0), ia (List.replicate 6 0), ia (List.replicate 6 0), ia (List.replicate 6 0), ob 3 [.ref 16, .ref 17, .ref 18, .ref 19, .ref 20, .ref 21, .int 0, .int 0, .int 0, .int 4, .int 0, .int 0, .int 0, .int 0, .int 0, .int 0], ia (List.replicate 12 0), ia (List.replicate 11 0), ia (List.replicate 6 0), ia (List.replicate 6 0), ia (List.replicate 6 0), ia (List.replicate 6 0), ob 3 [.ref 23, .ref 24, .ref 25, .ref 26, .ref 27, .ref 28, .int 0, .int 0, .int 0, .int 4, .int 0, .int 0, .int 0, .int 0, .int 0, .int 0], ia (List.replicate 12 0), ia (List.replicate 11 0), ia (List.replicate 6 0), ia (List.replicate 6 0), ia (List.replicate 6 0), ia (List.replicate 6 0), ob 2 [.ref 30, .int 0, .int 0, .int (-6), .int (-6), .int (-6)], ia (List.replicate 60 0), ob 1 [.ref 32, .ref 33], ia (List.replicate 12 0), ia (List.replicate 12 0)]) (b := 34) rfl) ok_C_init d_V_init_75 ln_V_41 rfl rfl ⟨by decide, by decide⟩ (Nat.le_of_ble_eq_true rfl) ⟨by decide, by decide⟩ (fun r h' hq => ?_)
  obtain ⟨rfl, rfl⟩ := hq
  refine aw_eq (h' := [ob 4 [.ref 1, .ref 8, .ref 15, .ref 22, .ref 29, .ref 31, .null, .int 0], ob 3 [.ref 2, .ref 3, .ref 4, .ref 5, .ref 6, .ref 7, .int 0, .int 0, .int 0, .int 4, .int 0, .int 0, .int 0, .int 0, .int 0, .int 0], ia (List.replicate 12 0), ia (List.replicate 11 0), ia (List.replicate 6 0), ia (List.replicate 6 0), ia (List.replicate 6 0), ia (List.replicate 6 0), ob 3 [.ref 9, .ref 10, .ref 11, .ref 12, .ref 13, .ref 14, .int 0, .int 0, .int 0, .int 4, .int 0, .int 0, .int 0, .int 0, .int 0, .int 0], ia (List.replicate 12 0), ia (List.replicate 11 0), ia (List.replicate 6 0), ia (List.replicate 6 0), ia (List.replicate 6 0), ia (List.replicate 6 0), ob 3 [.ref 16, .ref 17, .ref 18, .ref 19, .ref 20, .ref 21, .int 0, .int 0, .int 0, .int 4, .int 0, .int 0, .int 0, .int 0, .int 0, .int 0], ia (List.replicate 12 0), ia (List.replicate 11 0), ia (List.replicate 6 0), ia (List.replicate 6 0), ia (List.replicate 6 0), ia (List.replicate 6 0), ob 3 [.ref 23, .ref 24, .ref 25, .ref 26, .ref 27, .ref 28, .int 0, .int 0, .int 0, .int 4, .int 0, .int 0, .int 0, .int 0, .int 0, .int 0], ia (List.replicate 12 0), ia (List.replicate 11 0), ia (List.replicate 6 0), ia (List.replicate 6 0), ia (List.replicate 6 0), ia (List.replicate 6 0), ob 2 [.ref 30, .int 0, .int 0, .int (-6), .int (-6), .int (-6)], ia (List.replicate 60 0), ob 1 [.ref 32, .ref 33], ia (List.replicate 12 0), ia (List.replicate 12 0), ob 0 [.ref 35, .int 0, .int 0, .long 0, .long 1], ja (List.replicate 12 0)]) (st' := [.ref 34, .ref 0]) ?_ rfl rfl rfl
  refine aw_putF (pc := 78) (k := 0) (h' := [ob 4 [.ref 1, .ref 8, .ref 15, .ref 22, .ref 29, .ref 31, .ref 34, .int 0], ob 3 [.ref 2, .ref 3, .ref 4, .ref 5, .ref 6, .ref 7, .int 0, .int 0, .int 0, .int 4, .int 0, .int 0, .int 0, .int 0, .int 0, .int 0], ia (List.replicate 12 0), ia (List.replicate 11 0), ia (List.replicate 6 0), ia (List.replicate 6 0), ia (List.replicate 6 0), ia (List.replicate 6 0), ob 3 [.ref 9, .ref 10, .ref 11, .ref 12, .ref 13, .ref 14, .int 0, .int 0, .int 0, .int 4, .int 0, .int 0, .int 0, .int 0, .int 0, .int 0], ia (List.replicate 12 0), ia (List.replicate 11 0), ia (List.replicate 6 0), ia (List.replicate 6 0), ia (List.replicate 6 0), ia (List.replicate 6 0), ob 3 [.ref 16, .ref 17, .ref 18, .ref 19, .ref 20, .ref 21, .int 0, .int 0, .int 0, .int 4, .int 0, .int 0, .int 0, .int 0, .int 0, .int 0], ia (List.replicate 12 0), ia (List.replicate 11 0), ia (List.replicate 6 0), ia (List.replicate 6 0), ia (List.replicate 6 0), ia (List.replicate 6 0), ob 3 [.ref 23, .ref 24, .ref 25, .ref 26, .ref 27, .ref 28, .int 0, .int 0, .int 0, .int 4, .int 0, .int 0, .int 0, .int 0, .int 0, .int 0], ia (List.replicate 12 0), ia (List.replicate 11 0), ia (List.replicate 6 0), ia (List.replicate 6 0), ia (List.replicate 6 0), ia (List.replicate 6 0), ob 2 [.ref 30, .int 0, .int 0, .int (-6), .int (-6), .int (-6)], ia (List.replicate 60 0), ob 1 [.ref 32, .ref 33], ia (List.replicate 12 0), ia (List.replicate 12 0), ob 0 [.ref 35, .int 0, .int 0, .long 0, .long 1], ja (List.replicate 12 0)]) d_V_init_78 lp_V_42 rfl rfl (ft_obj _ _) (Nat.le_of_ble_eq_true rfl) rfl ?_
  refine aw_aload_n (pc := 81) d_V_init_81 rfl rfl ?_
  refine aw_iconst (pc := 82) (v := 0) d_V_init_82 (by decide) ?_
  refine aw_put (pc := 83) (k := 0) (h' := [ob 4 [.ref 1, .ref 8, .ref 15, .ref 22, .ref 29, .ref 31, .ref 34, .int 0], ob 3 [.ref 2, .ref 3, .ref 4, .ref 5, .ref 6, .ref 7, .int 0, .int 0, .int 0, .int 4, .int 0, .int 0, .int 0, .int 0, .int 0, .int 0], ia (List.replicate 12 0), ia (List.replicate 11 0), ia (List.replicate 6 0), ia (List.replicate 6 0), ia (List.replicate 6 0), ia (List.replicate 6 0), ob 3 [.ref 9, .ref 10, .ref 11, .ref 12, .ref 13, .ref 14, .int 0, .int 0, .int 0, .int 4, .int 0, .int 0, .int 0, .int 0, .int 0, .int 0], ia (List.replicate 12 0), ia (List.replicate 11 0), ia (List.replicate 6 0), ia (List.replicate 6 0), ia (List.replicate 6 0), ia (List.replicate 6 0), ob 3 [.ref 16, .ref 17, .ref 18, .ref 19, .ref 20, .ref 21, .int 0, .int 0, .int 0, .int 4, .int 0, .int 0, .int 0, .int 0, .int 0, .int 0], ia (List.replicate 12 0), ia (List.replicate 11 0), ia (List.replicate 6 0), ia (List.replicate 6 0), ia (List.replicate 6 0), ia (List.replicate 6 0), ob 3 [.ref 23, .ref 24, .ref 25, .ref 26, .ref 27, .ref 28, .int 0, .int 0, .int 0, .int 4, .int 0, .int 0, .int 0, .int 0, .int 0, .int 0], ia (List.replicate 12 0), ia (List.replicate 11 0), ia (List.replicate 6 0), ia (List.replicate 6 0), ia (List.replicate 6 0), ia (List.replicate 6 0), ob 2 [.ref 30, .int 0, .int 0, .int (-6), .int (-6), .int (-6)], ia (List.replicate 60 0), ob 1 [.ref 32, .ref 33], ia (List.replicate 12 0), ia (List.replicate 12 0), ob 0 [.ref 35, .int 0, .int 0, .long 0, .long 1], ja (List.replicate 12 0)]) d_V_init_83 lp_V_46 rfl (ft_int _) (Nat.le_of_ble_eq_true rfl) rfl ?_
  refine aw_vret (pc := 86) d_V_init_86 rfl ?_
  exact ⟨rfl, rfl⟩
