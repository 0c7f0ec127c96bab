/-! heap, calls, ends, over the light machine -/
theorem ax_sz {p : Program} {l : Launch} {e : Env} {R : Room} {s : State} {m : MethodId} {args : Array Value} {below : List Frame} {meth : Method} {c : Code} {T : State} {locs : List Loc} {kc ks : Nat} {g : ax_G} {h : ax_H} {H : Heap} (X : Stand p l e R s m args below meth c T locs kc ks) (hT : T.heap = H) (hb : g.1 ≤ s.heap.size ∧ s.heap.size + kc = g.1 + h.length) (hP : va_P g.2.2.1 classes (ax_w g h) H) (hS : va_S (ax_A g) s.heap H locs) : H.size = g.1 + h.length := by
  have h1 : H.size ≤ s.heap.size + kc := by rw [← hT]; exact X.heapSize
  have h2 := hS.1
  by_cases hl : h.length = 0
  · omega
  · obtain ⟨c0, hc0⟩ : ∃ c0, h[h.length - 1]? = some c0 := ⟨h[h.length - 1]'(by omega), List.getElem?_eq_getElem (by omega)⟩
    have h3 : g.1 + (h.length - 1) < H.size := (hP (h.length - 1) _ (ax_w_at hc0)).lt
    omega
theorem up_set {xs : List Int32} {j : Nat} {x : Int32} (hj : j < xs.length) : upd (fun j => xs.getD j 0) j x = fun i => (xs.set j x).getD i 0 := by
  funext i
  by_cases hi : i = j
  · subst hi
    simp [upd, List.getD_eq_getElem?_getD, hj]
  · simp [upd, hi, List.getD_eq_getElem?_getD, List.getElem?_set_ne (Ne.symm hi)]
theorem up_setL {xs : List Int64} {j : Nat} {x : Int64} (hj : j < xs.length) : vp_updL (fun j => xs.getD j 0) j x = fun i => (xs.set j x).getD i 0 := by
  funext i
  by_cases hi : i = j
  · subst hi
    simp [vp_updL, List.getD_eq_getElem?_getD, hj]
  · simp [vp_updL, hi, List.getD_eq_getElem?_getD, List.getElem?_set_ne (Ne.symm hi)]
theorem rep_getD (N : Nat) (i : Nat) : (List.replicate N (0 : Int32)).getD i 0 = 0 := by
  rw [List.getD_eq_getElem?_getD]
  by_cases h : i < N
  · simp [List.getElem?_replicate, h]
  · simp [List.getElem?_replicate, h]
theorem rep_getDL (N : Nat) (i : Nat) : (List.replicate N (0 : Int64)).getD i 0 = 0 := by
  rw [List.getD_eq_getElem?_getD]
  by_cases h : i < N
  · simp [List.getElem?_replicate, h]
  · simp [List.getElem?_replicate, h]
/-- a field that may be written: its type, whether it is final -/
def fp_ok (own : String) (idx ci j : Nat) (fin : Bool) (t : FieldType) : Prop := ∃ (C : String) (T : u_T) (N : Nat) (ty : Nat → FieldType), cl_ok ci C T N ty ∧ j < N ∧ Cond.fieldLink own idx (T j).1 (T j).2.1 (T j).2.2.1 ∈ ax_T ∧ ty j = t ∧ (T j).2.2.2 = fin ∧ (fin = true → (T j).1 = own)
/-- a value that a field of a type takes -/
def ft_ok (t : FieldType) (v : Value) : Prop := ∀ g : ax_G, narrow t (ax_v g v) = ax_v g v ∧ fits t (ax_v g v) = true
theorem ft_int (x : Int32) : ft_ok .int (.int x) := fun _ => ⟨rfl, rfl⟩
theorem ft_long (x : Int64) : ft_ok .long (.long x) := fun _ => ⟨rfl, rfl⟩
theorem ft_obj (C : String) (k : Nat) : ft_ok (.object C) (.ref k) := fun _ => ⟨rfl, rfl⟩
theorem ft_arr (t : FieldType) (k : Nat) : ft_ok (.array t) (.ref k) := fun _ => ⟨rfl, rfl⟩
theorem ft_b2 (p : Prop) [Decidable p] : ft_ok .boolean (.int (b2 p)) := fun _ => by
  by_cases h : p
  · rw [b2_1 h]; exact ⟨rfl, rfl⟩
  · rw [b2_0 h]; exact ⟨rfl, rfl⟩
theorem ft_0 : ft_ok .boolean (.int 0) := fun _ => ⟨rfl, rfl⟩
theorem ft_1 : ft_ok .boolean (.int 1) := fun _ => ⟨rfl, rfl⟩
/-- what a method comes to -/
def ax_Q (g : ax_G) (Q : Option Value → ax_H → Prop) (mc : Nat) : Array Value → State → Outcome → State → Prop := fun _ st o t =>
  ∃ (r : Option Value) (h' : ax_H), o = .returned (r.map (ax_v g)) ∧ Q r h' ∧ va_P g.2.2.1 classes (ax_w g h') t.heap ∧ st.heap.size + mc = g.1 + h'.length ∧ va_F (ax_A g) st t
def ax_Zm (Q : Option Value → ax_H → Prop) (mc ms : Nat) : ax_Zt := fun g below args s => MQ below (ax_Q g Q mc) args s mc ms (ax_A g)
abbrev ax_E0 : ax_Et := fun _ _ => True
abbrev ax_ws (M : ax_M) : List Cond := Cond.code M.1 M.2.1 M.2.2.1 M.2.2.2 :: ax_T
def ax_Pc (g : ax_G) (h : ax_H) (as : List Value) : Array Value → State → Prop := va_Pc (as.map (ax_v g)) (fun U => (g.1 ≤ U.heap.size ∧ U.heap.size = g.1 + h.length) ∧ va_P g.2.2.1 classes (ax_w g h) U.heap ∧ ax_K g U)
theorem ax_blind (g : ax_G) (h : ax_H) (as : List Value) : FrameBlind (ax_Pc g h as) := fun _ _ _ _ q => ⟨q.1, q.2.1, q.2.2.1, q.2.2.2.calling⟩
/-- a method's contract: called with these values over these cells it returns what Q says -/
def AM (M : ax_M) (R : Room) (h : ax_H) (as : List Value) (Q : Option Value → ax_H → Prop) : Prop :=
  ∀ (l : Launch) (g : ax_G), Met l M.1 (ax_ws M) R (ax_Pc g h as) (ax_Q g Q R.cells) R.cells R.slots (ax_A g)
abbrev AD (M : ax_M) (R : Room) (h : ax_H) (as : List Value) (r : Option Value) (h' : ax_H) : Prop := AM M R h as (fun a b => a = r ∧ b = h')
theorem ax_args (g : ax_G) : ∀ (as : List Value) (k : Nat), lv_args k (as.map (ax_v g)) = ax_ml g (lv_args k as)
  | [], _ => rfl
  | v :: vs, k => by
    show (k, ax_v g v) :: lv_args (if (ax_v g v).category = 2 then k + 2 else k + 1) (vs.map (ax_v g)) = (k, ax_v g v) :: ax_ml g (lv_args (if v.category = 2 then k + 2 else k + 1) vs)
    rw [ax_cat, ax_args g vs]
theorem ax_sl (g : ax_G) : ∀ (as : List Value), (lg_sl (as.map (ax_v g))).length = (lg_sl as).length
  | [] => rfl
  | v :: vs => by
    have ih := ax_sl g vs
    simp only [lg_sl, List.map_cons, List.flatMap_cons, List.length_append] at ih ⊢
    rw [ih, ax_cat]
    split <;> rfl
theorem am_of {M : ax_M} {R : Room} {h : ax_H} {as : List Value} {Q : Option Value → ax_H → Prop} (hy : plainName M.1.cls = true) {ls : List (Nat × Value)} (hls : lv_args 0 as = ls) (hn : (lg_sl as).length ≤ M.2.2.1)
    (k : AW M R ax_E0 (ax_Zm Q R.cells R.slots) h 0 0 0 ls []) : AM M R h as Q := by
  intro l g
  refine Met.ofW (cc := M.2.1) (maxL := M.2.2.1) (ret := M.2.2.2) hy rfl ?_
  intro p e s m args below meth c s₁ B hml hv
  obtain ⟨rfl, hsz, hP, hK⟩ := hv
  have hts := atoms_spec (ws := ax_ws M) B.pre
  have hl := lv_entry (as.map (ax_v g)) (n := M.2.2.1) (by rw [ax_sl]; exact hn)
  rw [ax_args, hls] at hl
  rw [lg_entry_eq]
  exact k p l e s m _ below meth c g s.heap [] _ ⟨B.exec, B.bytes, hml, findClass_of_methodNamed B.named, fun w hw => hts w (List.mem_cons_of_mem _ hw), B.returns, B.notSynchronized, fun hi => ((name_of_methodNamed B.named B.method).1).trans hi⟩ hK hsz hP va_S.rf hl trivial
/-- fewer words of a post -/
theorem am_mono {M : ax_M} {R : Room} {h : ax_H} {as : List Value} {Q Q' : Option Value → ax_H → Prop} (hq : ∀ r h', Q r h' → Q' r h') (hM : AM M R h as Q) : AM M R h as Q' := by
  intro l g p e ha hc hk s m args below hf hfit hP hK
  have := hM l g p e ha hc hk s m args below hf hfit hP hK
  obtain ⟨t, o, h1, h2, h3, ⟨r, h', e1, e2, e3⟩, h5⟩ := this
  exact ⟨t, o, h1, h2, h3, ⟨r, h', e1, hq r h' e2, e3⟩, h5⟩
def mo_ok (M : ax_M) (n : Nat) : Prop := Cond.code M.1 M.2.1 M.2.2.1 M.2.2.2 ∈ ax_T ∧ Cond.initialized M.1.cls ∈ ax_T ∧ M.1.cls ≠ "java/lang/invoke/MethodHandle" ∧ M.1.cls ≠ "java/lang/invoke/VarHandle" ∧ (parseMethodDescriptor M.1.desc).map (fun d => d.parameters.length) = some n
def mv_ok (M : ax_M) (n ci : Nat) : Prop := mo_ok M n ∧ Cond.instanceMethod M.1 ∈ ax_T ∧ Cond.selects M.1.cls M.1 M.1 ∈ ax_T ∧ ∃ (T : u_T) (N : Nat), classes[ci]? = some (M.1.cls, T, N)
def ms_ok (M : ax_M) (n : Nat) : Prop := mo_ok M n ∧ Cond.static M.1 ∈ ax_T
def mi_ok (M : ax_M) (n : Nat) : Prop := mo_ok M n ∧ Cond.instanceMethod M.1 ∈ ax_T ∧ M.1.name = "<init>" ∧ M.2.2.2 = none
theorem ax_wsT {M : ax_M} {n : Nat} (hok : mo_ok M n) : GoodIn ax_T (ax_ws M) := ax_good (fun w hw => by
  rcases List.mem_cons.mp hw with rfl | hw
  · exact hok.1
  · exact hw)
theorem ax_CB {M' : ax_M} {R R' : Room} {s : State} {args : Array Value} {own : String} {idx n : Nat} (hok : mo_ok M' n) (hts : ∀ w ∈ ax_T, w.before args s = true) (hl : (Cond.methodLink own idx M'.1).before args s = true) (hR : R'.frames + 1 ≤ R.frames ∧ 8 + (M'.2.2.1 + 11) + R'.locals ≤ R.locals) :
    CallB R s args own idx M'.1 M'.2.1 M'.2.2.1 M'.2.2.2 (ax_ws M') R' R'.cells R'.slots n := callB_of n hts (ax_wsT hok) rfl rfl rfl (hts _ hok.2.1) hl hok.2.2 hR
theorem ax_CN {M' : ax_M} {R R' : Room} {s : State} {args : Array Value} {own host : String} {idx n : Nat} (hok : mo_ok M' n) (hts : ∀ w ∈ ax_T, w.before args s = true) (hl : va_Nw (.methodLinkNest own idx M'.1 host) s) (hR : R'.frames + 1 ≤ R.frames ∧ 8 + (M'.2.2.1 + 11) + R'.locals ≤ R.locals) :
    va_CN R s args own idx M'.1 host M'.2.1 M'.2.2.1 M'.2.2.2 (ax_ws M') R' R'.cells R'.slots n := va_cnB n hts (ax_wsT hok) rfl rfl rfl hl (hts _ hok.2.1) hok.2.2 hR
theorem ax_rs (g : ax_G) (rest : List Value) : ((rest.map (ax_v g)).map fun v => v.category).sum = (rest.map fun v => v.category).sum := by
  rw [List.map_map]
  congr 1
  exact List.map_congr_left (fun v _ => ax_cat g v)
section HEAP
variable {M : ax_M} {R : Room} {E : ax_Et} {Z : ax_Zt} {h : ax_H} {kc ks pc : Nat} {ls : List (Nat × Value)} {st : List Value}
theorem aw_get {idx ci j k : Nat} {fs : List Value} {v : Value} (hd : decode M.2.1 pc = .ok (.getfield idx, 3)) (hL : fl_ok M.1.cls idx ci j) (hk : h[k]? = some (ob ci fs)) (hv : fs[j]? = some v) (kk : AW M R E Z h kc ks (pc + 3) ls (v :: st)) : AW M R E Z h kc ks pc ls (.ref k :: st) := by
  intro p l e s m args below meth c g H locs lz X K hb hP hS hl hE
  obtain ⟨C, T, N, ty, hc, hj, hw⟩ := hL
  exact va_get X.1 X.2.1 X.2.2.2.2.1 hc.2.1 X.2.2.2.1 K.1 hP k (ax_w_at hk) hc.1 j hj (X.2.2.2.2.1 _ hw) (fun _ h9 => h9) (v := ax_v g v) (by rw [List.getElem?_map, hv]; rfl) hd (kk p l e s m args below meth c g H locs lz X K hb hP hS hl hE)
theorem ax_oset (g : ax_G) (h : ax_H) (k ci j : Nat) (fs : List Value) (v : Value) : (ax_w g h).set k (g.1 + k, .inr (ci, (fs.map (ax_v g)).set j (ax_v g v))) = ax_w g (h.set k (ob ci (fs.set j v))) := by
  rw [← ax_w_set]
  show _ = (ax_w g h).set k (g.1 + k, .inr (ci, (fs.set j v).map (ax_v g)))
  rw [List.map_set]
theorem aw_put {idx ci j k : Nat} {fs : List Value} {v : Value} {t : FieldType} {h' : ax_H} (hd : decode M.2.1 pc = .ok (.putfield idx, 3)) (hL : fp_ok M.1.cls idx ci j false t) (hk : h[k]? = some (ob ci fs)) (hv : ft_ok t v) (hj : j < fs.length) (hs : h.set k (ob ci (fs.set j v)) = h') (kk : AW M R E Z h' kc ks (pc + 3) ls st) : AW M R E Z h kc ks pc ls (v :: .ref k :: st) := by
  intro p l e s m args below meth c g H locs lz X K hb hP hS hl hE
  obtain ⟨C, T, N, ty, hc, hjN, hw, ht, hf, -⟩ := hL
  subst hs
  refine va_put X.1 X.2.1 X.2.2.2.2.1 hc.2.1 ty hc.2.2.1 hc.2.2.2 X.2.2.2.1 K.1 hP (ax_D g h) hS k (ax_w_at hk) hc.1 j hjN (X.2.2.2.2.1 _ hw) (fun _ h9 => h9) hf (ty := t) (v := ax_v g v) (by rw [hc.2.2.1 j hjN, ht]) (hv g).1 (hv g).2 (by rw [List.length_map]; exact hj) hd (fun H1 locs1 hP1 _ hS1 => ?_)
  rw [ax_oset] at hP1
  exact kk p l e s m args below meth c g H1 locs1 lz X K ⟨hb.1, by rw [List.length_set]; exact hb.2⟩ hP1 hS1 hl hE
theorem aw_putF {idx ci j k : Nat} {fs : List Value} {v : Value} {t : FieldType} {h' : ax_H} (hd : decode M.2.1 pc = .ok (.putfield idx, 3)) (hL : fp_ok M.1.cls idx ci j true t) (hi : M.1.name = "<init>") (hk : h[k]? = some (ob ci fs)) (hv : ft_ok t v) (hj : j < fs.length) (hs : h.set k (ob ci (fs.set j v)) = h') (kk : AW M R E Z h' kc ks (pc + 3) ls st) : AW M R E Z h kc ks pc ls (v :: .ref k :: st) := by
  intro p l e s m args below meth c g H locs lz X K hb hP hS hl hE
  obtain ⟨C, T, N, ty, hc, hjN, hw, ht, hf, hdc⟩ := hL
  subst hs
  refine va_putF X.1 X.2.1 X.2.2.2.2.1 hc.2.1 ty hc.2.2.1 hc.2.2.2 X.2.2.2.1 K.1 hP (ax_D g h) hS k (ax_w_at hk) hc.1 j hjN (X.2.2.2.2.1 _ hw) (fun _ h9 => h9) hf (X.2.2.2.2.2.2.2 hi) (hdc rfl) (ty := t) (v := ax_v g v) (by rw [hc.2.2.1 j hjN, ht]) (hv g).1 (hv g).2 (by rw [List.length_map]; exact hj) hd (fun H1 locs1 hP1 _ hS1 => ?_)
  rw [ax_oset] at hP1
  exact kk p l e s m args below meth c g H1 locs1 lz X K ⟨hb.1, by rw [List.length_set]; exact hb.2⟩ hP1 hS1 hl hE
theorem aw_iald {k j n : Nat} {i : Int32} {xs : List Int32} (hd : decode M.2.1 pc = .ok (.iaload, 1)) (hk : h[k]? = some (ia xs)) (hn : xs.length = n) (hi : i = nI j) (hj : j < n) (hm : n < 2 ^ 31) (kk : AW M R E Z h kc ks (pc + 1) ls (.int (xs.getD j 0) :: st)) : AW M R E Z h kc ks pc ls (.int i :: .ref k :: st) := by
  intro p l e s m args below meth c g H locs lz X K hb hP hS hl hE
  subst hi; subst hn
  have e1 : xs.getD (nI j).toNatClampNeg 0 = xs.getD j 0 := by rw [nI_clamp (by omega)]
  refine va_iald X.1 X.2.1 K.1 hP k 0 (ax_w_at hk) rfl (i := nI j) (vp_in_nI hj hm) hd ?_
  show W p l e R s m args below meth c H locs kc ks _ (F0 m (pc + 1) lz (.int (xs.getD (nI j).toNatClampNeg 0) :: st.map (ax_v g)))
  rw [e1]
  exact kk p l e s m args below meth c g H locs lz X K hb hP hS hl hE
theorem aw_zald {k j n : Nat} {i : Int32} {xs : List Int32} (hd : decode M.2.1 pc = .ok (.baload, 1)) (hk : h[k]? = some (za xs)) (hn : xs.length = n) (hi : i = nI j) (hj : j < n) (hm : n < 2 ^ 31) (kk : AW M R E Z h kc ks (pc + 1) ls (.int (xs.getD j 0) :: st)) : AW M R E Z h kc ks pc ls (.int i :: .ref k :: st) := by
  intro p l e s m args below meth c g H locs lz X K hb hP hS hl hE
  subst hi; subst hn
  have e1 : xs.getD (nI j).toNatClampNeg 0 = xs.getD j 0 := by rw [nI_clamp (by omega)]
  refine va_zald X.1 X.2.1 K.1 hP k 1 (ax_w_at hk) rfl (i := nI j) (vp_in_nI hj hm) hd ?_
  show W p l e R s m args below meth c H locs kc ks _ (F0 m (pc + 1) lz (.int (xs.getD (nI j).toNatClampNeg 0) :: st.map (ax_v g)))
  rw [e1]
  exact kk p l e s m args below meth c g H locs lz X K hb hP hS hl hE
theorem aw_lald {k j n : Nat} {i : Int32} {xs : List Int64} (hd : decode M.2.1 pc = .ok (.laload, 1)) (hk : h[k]? = some (ja xs)) (hn : xs.length = n) (hi : i = nI j) (hj : j < n) (hm : n < 2 ^ 31) (kk : AW M R E Z h kc ks (pc + 1) ls (.long (xs.getD j 0) :: st)) : AW M R E Z h kc ks pc ls (.int i :: .ref k :: st) := by
  intro p l e s m args below meth c g H locs lz X K hb hP hS hl hE
  subst hi; subst hn
  have e1 : xs.getD (nI j).toNatClampNeg 0 = xs.getD j 0 := by rw [nI_clamp (by omega)]
  refine va_lald X.1 X.2.1 K.1 hP k 2 (ax_w_at hk) rfl (i := nI j) (vp_in_nI hj hm) hd ?_
  show W p l e R s m args below meth c H locs kc ks _ (F0 m (pc + 1) lz (.long (xs.getD (nI j).toNatClampNeg 0) :: st.map (ax_v g)))
  rw [e1]
  exact kk p l e s m args below meth c g H locs lz X K hb hP hS hl hE
theorem aw_iast {k j n : Nat} {i : Int32} {x : Int32} {xs : List Int32} {h' : ax_H} (hd : decode M.2.1 pc = .ok (.iastore, 1)) (hk : h[k]? = some (ia xs)) (hn : xs.length = n) (hi : i = nI j) (hj : j < n) (hm : n < 2 ^ 31) (hs : h.set k (ia (xs.set j x)) = h') (kk : AW M R E Z h' kc ks (pc + 1) ls st) : AW M R E Z h kc ks pc ls (.int x :: .int i :: .ref k :: st) := by
  intro p l e s m args below meth c g H locs lz X K hb hP hS hl hE
  subst hi; subst hn; subst hs
  refine va_iast X.1 X.2.1 K.1 hP (ax_D g h) hS k 0 (ax_w_at hk) rfl (i := nI j) (x := x) (vp_in_nI hj hm) hd (fun H1 locs1 hP1 _ hS1 => ?_)
  have e1 : (ax_w g h).set k (g.1 + k, .inl (g.2.2.2 0, xs.length, .inl (upd (fun j => xs.getD j 0) (nI j).toNatClampNeg x))) = ax_w g (h.set k (ia (xs.set j x))) := by
    rw [nI_clamp (by omega), up_set hj, ← ax_w_set]
    show _ = (ax_w g h).set k (g.1 + k, .inl (g.2.2.2 0, (xs.set j x).length, _))
    rw [List.length_set]
  rw [e1] at hP1
  exact kk p l e s m args below meth c g H1 locs1 lz X K ⟨hb.1, by rw [List.length_set]; exact hb.2⟩ hP1 hS1 hl hE
theorem aw_last {k j n : Nat} {i : Int32} {x : Int64} {xs : List Int64} {h' : ax_H} (hd : decode M.2.1 pc = .ok (.lastore, 1)) (hk : h[k]? = some (ja xs)) (hn : xs.length = n) (hi : i = nI j) (hj : j < n) (hm : n < 2 ^ 31) (hs : h.set k (ja (xs.set j x)) = h') (kk : AW M R E Z h' kc ks (pc + 1) ls st) : AW M R E Z h kc ks pc ls (.long x :: .int i :: .ref k :: st) := by
  intro p l e s m args below meth c g H locs lz X K hb hP hS hl hE
  subst hi; subst hn; subst hs
  refine va_last X.1 X.2.1 K.1 hP (ax_D g h) hS k 2 (ax_w_at hk) rfl (i := nI j) (x := x) (vp_in_nI hj hm) hd (fun H1 locs1 hP1 _ hS1 => ?_)
  have e1 : (ax_w g h).set k (g.1 + k, .inl (g.2.2.2 2, xs.length, .inr (.inl (vp_updL (fun j => xs.getD j 0) (nI j).toNatClampNeg x)))) = ax_w g (h.set k (ja (xs.set j x))) := by
    rw [nI_clamp (by omega), up_setL hj, ← ax_w_set]
    show _ = (ax_w g h).set k (g.1 + k, .inl (g.2.2.2 2, (xs.set j x).length, _))
    rw [List.length_set]
  rw [e1] at hP1
  exact kk p l e s m args below meth c g H1 locs1 lz X K ⟨hb.1, by rw [List.length_set]; exact hb.2⟩ hP1 hS1 hl hE
theorem aw_zast {k j n : Nat} {i x : Int32} {xs : List Int32} {h' : ax_H} (hd : decode M.2.1 pc = .ok (.bastore, 1)) (hk : h[k]? = some (za xs)) (hn : xs.length = n) (hi : i = nI j) (hj : j < n) (hm : n < 2 ^ 31) (hx : vp_nar .boolean x = x) (hs : h.set k (za (xs.set j x)) = h') (kk : AW M R E Z h' kc ks (pc + 1) ls st) : AW M R E Z h kc ks pc ls (.int x :: .int i :: .ref k :: st) := by
  intro p l e s m args below meth c g H locs lz X K hb hP hS hl hE
  subst hi; subst hn; subst hs
  refine va_zast X.1 X.2.1 K.1 hP (ax_D g h) hS k 1 (ax_w_at hk) rfl (i := nI j) (x := x) (vp_in_nI hj hm) hd (fun H1 locs1 hP1 _ hS1 => ?_)
  have e1 : (ax_w g h).set k (g.1 + k, .inl (g.2.2.2 1, xs.length, .inl (upd (fun j => xs.getD j 0) (nI j).toNatClampNeg (vp_nar .boolean x)))) = ax_w g (h.set k (za (xs.set j x))) := by
    rw [nI_clamp (by omega), hx, up_set hj, ← ax_w_set]
    show _ = (ax_w g h).set k (g.1 + k, .inl (g.2.2.2 1, (xs.set j x).length, _))
    rw [List.length_set]
  rw [e1] at hP1
  exact kk p l e s m args below meth c g H1 locs1 lz X K ⟨hb.1, by rw [List.length_set]; exact hb.2⟩ hP1 hS1 hl hE
theorem aw_new {idx ci N : Nat} {C : String} {T : u_T} {ty : Nat → FieldType} {fs : List Value} (hd : decode M.2.1 pc = .ok (.new idx, 3)) (hc : cl_ok ci C T N ty) (hL : Cond.classLink M.1.cls idx C ∈ ax_T) (hI : Cond.instantiable C N ∈ ax_T) (hN : Cond.initialized C ∈ ax_T) (hfs : ∀ j, j < N → defaultValue (ty j) = vp_V fs j) (hpl : ∀ g, fs.map (ax_v g) = fs) (hcs : kc + 1 ≤ R.cells ∧ ks + N ≤ R.slots)
    (kk : AW M R E Z (h ++ [ob ci fs]) (kc + 1) (ks + N) (pc + 3) ls (.ref h.length :: st)) : AW M R E Z h kc ks pc ls st := by
  intro p l e s m args below meth c g H locs lz X K hb hP hS hl hE T0 hT XX
  have hsz := ax_sz XX hT hb hP hS
  have hKn := K.1.1 ci _ hc.1
  refine W.newcK X.1 X.2.1 X.2.2.2.1 (X.2.2.2.2.1 _ hL) (X.2.2.2.2.1 _ hI) (X.2.2.2.2.1 _ hN) (g := F0 m pc lz (st.map (ax_v g))) rfl hd hcs.1 hcs.2 hKn.2.1 hsz (fun H1 kC hkC e1 z1 o1 => ?_) T0 hT XX
  have hk : ∀ (k : Nat) (x : Nat × va_E), (ax_w g h)[k]? = some x → H1[x.1]? = H[x.1]? := fun k x hx => o1 x.1 (by rw [← hsz]; exact (hP k x hx).lt)
  refine kk p l e s m args below meth c g H1 locs lz X K ⟨hb.1, by rw [List.length_append]; show s.heap.size + (kc + 1) = g.1 + (h.length + 1); omega⟩ ?_ ⟨by have := hS.1; omega, fun x h1 h2 => (o1 x (by have := hS.1; omega)).trans (hS.2.1 x h1 h2), hS.2.2⟩ hl hE
  rw [ax_w_push]
  refine (hP.kept hk).app (fun j x hx => ?_)
  have hz : j < 1 := (List.getElem?_eq_some_iff.mp hx).1
  rw [show j = 0 by omega] at hx
  cases hx
  refine ⟨_, hc.1, (u_born ty X.2.2.2.2.1 hc.2.1 hKn hkC e1 hc.2.2.1).to (fun j hj => ?_)⟩
  show _ = vp_V (fs.map (ax_v g)) j
  rw [hpl g]
  exact hfs j hj
theorem aw_newi {n : Int32} {N : Nat} (hd : decode M.2.1 pc = .ok (.newarray .int, 2)) (hn : ¬ n < 0) (hN : n.toNatClampNeg = N) (hm : N ≤ 1000) (hcs : kc + 1 ≤ R.cells ∧ ks + N ≤ R.slots) (kk : AW M R E Z (h ++ [ia (List.replicate N 0)]) (kc + 1) (ks + N) (pc + 2) ls (.ref h.length :: st)) : AW M R E Z h kc ks pc ls (.int n :: st) := by
  intro p l e s m args below meth c g H locs lz X K hb hP hS hl hE T0 hT XX
  have hsz := ax_sz XX hT hb hP hS
  refine va_newaK (atype := .int) X.1 X.2.1 (X.2.2.2.2.1 _ wa_int) (g := F0 m pc lz ((Value.int n :: st).map (ax_v g))) rfl hd (rest := st.map (ax_v g)) rfl hn hN (Nat.le_trans (Nat.mul_le_mul_right _ hm) (by decide)) hcs.1 hcs.2 hsz (fun H1 cA e1 z1 o1 hAr hNm => ?_) T0 hT XX
  have hcA : cA = g.2.2.2 0 := Option.some.inj (hNm.symm.trans (K.1.2 0 _ rfl).2)
  subst hcA
  have hk : ∀ (k : Nat) (x : Nat × va_E), (ax_w g h)[k]? = some x → H1[x.1]? = H[x.1]? := fun k x hx => o1 x.1 (by rw [← hsz]; exact (hP k x hx).lt)
  refine kk p l e s m args below meth c g H1 locs lz X K ⟨hb.1, by rw [List.length_append]; show s.heap.size + (kc + 1) = g.1 + (h.length + 1); omega⟩ ?_ ⟨by have := hS.1; omega, fun x h1 h2 => (o1 x (by have := hS.1; omega)).trans (hS.2.1 x h1 h2), hS.2.2⟩ hl hE
  rw [ax_w_push]
  refine (hP.kept hk).app (fun j x hx => ?_)
  have hz : j < 1 := (List.getElem?_eq_some_iff.mp hx).1
  rw [show j = 0 by omega] at hx
  cases hx
  show H1[g.1 + h.length]? = some (arrV (g.2.2.2 0) (List.replicate N _).length (fun j => .int ((List.replicate N 0).getD j 0)))
  rw [e1, List.length_replicate]
  congr 2
  funext j
  rw [rep_getD]
  rfl
theorem aw_newz {n : Int32} {N : Nat} (hd : decode M.2.1 pc = .ok (.newarray .boolean, 2)) (hn : ¬ n < 0) (hN : n.toNatClampNeg = N) (hm : N ≤ 1000) (hcs : kc + 1 ≤ R.cells ∧ ks + N ≤ R.slots) (kk : AW M R E Z (h ++ [za (List.replicate N 0)]) (kc + 1) (ks + N) (pc + 2) ls (.ref h.length :: st)) : AW M R E Z h kc ks pc ls (.int n :: st) := by
  intro p l e s m args below meth c g H locs lz X K hb hP hS hl hE T0 hT XX
  have hsz := ax_sz XX hT hb hP hS
  refine va_newaK (atype := .boolean) X.1 X.2.1 (X.2.2.2.2.1 _ wa_boolean) (g := F0 m pc lz ((Value.int n :: st).map (ax_v g))) rfl hd (rest := st.map (ax_v g)) rfl hn hN (Nat.le_trans (Nat.mul_le_mul_right _ hm) (by decide)) hcs.1 hcs.2 hsz (fun H1 cA e1 z1 o1 hAr hNm => ?_) T0 hT XX
  have hcA : cA = g.2.2.2 1 := Option.some.inj (hNm.symm.trans (K.1.2 1 _ rfl).2)
  subst hcA
  have hk : ∀ (k : Nat) (x : Nat × va_E), (ax_w g h)[k]? = some x → H1[x.1]? = H[x.1]? := fun k x hx => o1 x.1 (by rw [← hsz]; exact (hP k x hx).lt)
  refine kk p l e s m args below meth c g H1 locs lz X K ⟨hb.1, by rw [List.length_append]; show s.heap.size + (kc + 1) = g.1 + (h.length + 1); omega⟩ ?_ ⟨by have := hS.1; omega, fun x h1 h2 => (o1 x (by have := hS.1; omega)).trans (hS.2.1 x h1 h2), hS.2.2⟩ hl hE
  rw [ax_w_push]
  refine (hP.kept hk).app (fun j x hx => ?_)
  have hz : j < 1 := (List.getElem?_eq_some_iff.mp hx).1
  rw [show j = 0 by omega] at hx
  cases hx
  show H1[g.1 + h.length]? = some (arrV (g.2.2.2 1) (List.replicate N _).length (fun j => .int ((List.replicate N 0).getD j 0)))
  rw [e1, List.length_replicate]
  congr 2
  funext j
  rw [rep_getD]
  rfl
theorem aw_newl {n : Int32} {N : Nat} (hd : decode M.2.1 pc = .ok (.newarray .long, 2)) (hn : ¬ n < 0) (hN : n.toNatClampNeg = N) (hm : N ≤ 1000) (hcs : kc + 1 ≤ R.cells ∧ ks + N ≤ R.slots) (kk : AW M R E Z (h ++ [ja (List.replicate N 0)]) (kc + 1) (ks + N) (pc + 2) ls (.ref h.length :: st)) : AW M R E Z h kc ks pc ls (.int n :: st) := by
  intro p l e s m args below meth c g H locs lz X K hb hP hS hl hE T0 hT XX
  have hsz := ax_sz XX hT hb hP hS
  refine va_newaK (atype := .long) X.1 X.2.1 (X.2.2.2.2.1 _ wa_long) (g := F0 m pc lz ((Value.int n :: st).map (ax_v g))) rfl hd (rest := st.map (ax_v g)) rfl hn hN (Nat.le_trans (Nat.mul_le_mul_right _ hm) (by decide)) hcs.1 hcs.2 hsz (fun H1 cA e1 z1 o1 hAr hNm => ?_) T0 hT XX
  have hcA : cA = g.2.2.2 2 := Option.some.inj (hNm.symm.trans (K.1.2 2 _ rfl).2)
  subst hcA
  have hk : ∀ (k : Nat) (x : Nat × va_E), (ax_w g h)[k]? = some x → H1[x.1]? = H[x.1]? := fun k x hx => o1 x.1 (by rw [← hsz]; exact (hP k x hx).lt)
  refine kk p l e s m args below meth c g H1 locs lz X K ⟨hb.1, by rw [List.length_append]; show s.heap.size + (kc + 1) = g.1 + (h.length + 1); omega⟩ ?_ ⟨by have := hS.1; omega, fun x h1 h2 => (o1 x (by have := hS.1; omega)).trans (hS.2.1 x h1 h2), hS.2.2⟩ hl hE
  rw [ax_w_push]
  refine (hP.kept hk).app (fun j x hx => ?_)
  have hz : j < 1 := (List.getElem?_eq_some_iff.mp hx).1
  rw [show j = 0 by omega] at hx
  cases hx
  show H1[g.1 + h.length]? = some (arrV (g.2.2.2 2) (List.replicate N _).length (fun j => .long ((List.replicate N 0).getD j 0)))
  rw [e1, List.length_replicate]
  congr 2
  funext j
  rw [rep_getDL]
  rfl
theorem aw_callV {M' : ax_M} {R' : Room} {as rest : List Value} {k idx ci n : Nat} {fs : List Value} {Q' : Option Value → ax_H → Prop} (hM : AM M' R' h (.ref k :: as) Q') (hok : mv_ok M' n ci) (hd : decode M.2.1 pc = .ok (.invokevirtual idx, 3)) (hL : Cond.methodLink M.1.cls idx M'.1 ∈ ax_T) (hk : h[k]? = some (ob ci fs)) (hn : as.length = n) (hst : st = as.reverse ++ .ref k :: rest) (hroom : R'.frames + 1 ≤ R.frames ∧ 8 + (M'.2.2.1 + 11) + R'.locals ≤ R.locals) (hrs : (rest.map fun v => v.category).sum ≤ 8) (hcs : kc + R'.cells ≤ R.cells ∧ ks + R'.slots ≤ R.slots) (kk : ∀ r h', Q' r h' → AW M R E Z h' (kc + R'.cells) (ks + R'.slots) (pc + 3) ls (r.toList ++ rest)) : AW M R E Z h kc ks pc ls st := by
  intro p l e s m args below meth c g H locs lz X K hb hP hS hl hE T hT XX
  have hsz := ax_sz XX hT hb hP hS
  obtain ⟨hok, hI, hV, Tc, Nc, hcl⟩ := hok
  have hrun := va_runV (l := l) (e := e) (below := below) (meth := meth) (H := H) (locs := locs) (cells := kc) (slots := ks) (As := as.map (ax_v g)) (rest := rest.map (ax_v g)) (g := F0 m pc lz (st.map (ax_v g))) (b := g.1 + k) ⟨X.1, X.2.1, X.2.2.1, X.2.2.2.1, X.2.2.2.2.1⟩ (hM l g) ⟨ax_CB hok X.2.2.2.2.1 (X.2.2.2.2.1 _ hL) hroom, X.2.2.2.2.1 _ hI, X.2.2.2.2.1 _ hV⟩ ⟨ax_blind g h _, va_recv K.1 hP hcl (ax_w_at hk), fun U hU hW => ⟨rfl, ⟨by rw [hU]; omega, by rw [hU]; exact hsz⟩, by rw [hU]; exact hP, K.moved hW⟩⟩ rfl (by rw [List.length_map]; exact hn) hl.1 (by rw [hst]; simp [ax_v]) (lv_room (by rw [ax_rs]; exact hrs)) hd hcs
  obtain ⟨v, st0, t, T', L, h0, X', hL2, e1, e2, ⟨r, h', hr, hq, hP', hsz2, hF⟩, go⟩ := hrun T hT XX
  have hv : v = r.map (ax_v g) := by injection hr
  subst hv
  rw [h0] at hsz2
  obtain ⟨t2, a1, b1⟩ := kk r h' hq p l e s m args below meth c g t.heap (locs ++ L) lz X K ⟨hb.1, by omega⟩ hP' ⟨Nat.le_trans hS.1 (by rw [← h0]; exact hF.1), fun q h1 h2 => by rw [hF.2 q (by rw [h0]; exact Nat.lt_of_lt_of_le h1 hS.1) h2, h0]; exact hS.2.1 q h1 h2, fun q hq2 => (List.mem_append.mp hq2).elim (hS.2.2 q) (hL2 q)⟩ hl hE T' e1 X'
  refine ⟨t2, go t2 ?_, b1⟩
  have e3 : (r.toList ++ rest).map (ax_v g) = (r.map (ax_v g)).toList ++ rest.map (ax_v g) := by cases r <;> simp
  rw [e3] at a1
  exact a1
theorem aw_callV1 {M' : ax_M} {R' : Room} {as rest : List Value} {k idx ci n : Nat} {fs : List Value} {h' : ax_H} {v : Value} (hM : AD M' R' h (.ref k :: as) (some v) h') (hok : mv_ok M' n ci) (hd : decode M.2.1 pc = .ok (.invokevirtual idx, 3)) (hL : Cond.methodLink M.1.cls idx M'.1 ∈ ax_T) (hk : h[k]? = some (ob ci fs)) (hn : as.length = n) (hst : st = as.reverse ++ .ref k :: rest) (hroom : R'.frames + 1 ≤ R.frames ∧ 8 + (M'.2.2.1 + 11) + R'.locals ≤ R.locals) (hrs : (rest.map fun v => v.category).sum ≤ 8) (hc0 : R'.cells = 0) (hs0 : R'.slots = 0) (hcs : kc ≤ R.cells ∧ ks ≤ R.slots) (kk : AW M R E Z h' kc ks (pc + 3) ls (v :: rest)) : AW M R E Z h kc ks pc ls st :=
  aw_callV hM hok hd hL hk hn hst hroom hrs (by rw [hc0, hs0]; exact hcs) (fun r h2 hq => by obtain ⟨rfl, rfl⟩ := hq; rw [hc0, hs0]; exact kk)
theorem aw_callV0 {M' : ax_M} {R' : Room} {as rest : List Value} {k idx ci n : Nat} {fs : List Value} {h' : ax_H} (hM : AD M' R' h (.ref k :: as) none h') (hok : mv_ok M' n ci) (hd : decode M.2.1 pc = .ok (.invokevirtual idx, 3)) (hL : Cond.methodLink M.1.cls idx M'.1 ∈ ax_T) (hk : h[k]? = some (ob ci fs)) (hn : as.length = n) (hst : st = as.reverse ++ .ref k :: rest) (hroom : R'.frames + 1 ≤ R.frames ∧ 8 + (M'.2.2.1 + 11) + R'.locals ≤ R.locals) (hrs : (rest.map fun v => v.category).sum ≤ 8) (hc0 : R'.cells = 0) (hs0 : R'.slots = 0) (hcs : kc ≤ R.cells ∧ ks ≤ R.slots) (kk : AW M R E Z h' kc ks (pc + 3) ls rest) : AW M R E Z h kc ks pc ls st :=
  aw_callV hM hok hd hL hk hn hst hroom hrs (by rw [hc0, hs0]; exact hcs) (fun r h2 hq => by obtain ⟨rfl, rfl⟩ := hq; rw [hc0, hs0]; exact kk)
theorem aw_callVq {M' : ax_M} {R' : Room} {as rest : List Value} {k idx ci n : Nat} {fs : List Value} {Q' : Option Value → ax_H → Prop} (hM : AM M' R' h (.ref k :: as) Q') (hok : mv_ok M' n ci) (hd : decode M.2.1 pc = .ok (.invokevirtual idx, 3)) (hL : Cond.methodLink M.1.cls idx M'.1 ∈ ax_T) (hk : h[k]? = some (ob ci fs)) (hn : as.length = n) (hst : st = as.reverse ++ .ref k :: rest) (hroom : R'.frames + 1 ≤ R.frames ∧ 8 + (M'.2.2.1 + 11) + R'.locals ≤ R.locals) (hrs : (rest.map fun v => v.category).sum ≤ 8) (hc0 : R'.cells = 0) (hs0 : R'.slots = 0) (hcs : kc ≤ R.cells ∧ ks ≤ R.slots) (kk : ∀ r h', Q' r h' → AW M R E Z h' kc ks (pc + 3) ls (r.toList ++ rest)) : AW M R E Z h kc ks pc ls st :=
  aw_callV hM hok hd hL hk hn hst hroom hrs (by rw [hc0, hs0]; exact hcs) (fun r h2 hq => by rw [hc0, hs0]; exact kk r h2 hq)
theorem aw_callS {M' : ax_M} {R' : Room} {as rest : List Value} {idx n : Nat} {Q' : Option Value → ax_H → Prop} (hM : AM M' R' h as Q') (hok : ms_ok M' n) (hd : decode M.2.1 pc = .ok (.invokestatic idx, 3)) (hL : Cond.methodLink M.1.cls idx M'.1 ∈ ax_T) (hn : as.length = n) (hst : st = as.reverse ++ rest) (hroom : R'.frames + 1 ≤ R.frames ∧ 8 + (M'.2.2.1 + 11) + R'.locals ≤ R.locals) (hrs : (rest.map fun v => v.category).sum ≤ 8) (hcs : kc + R'.cells ≤ R.cells ∧ ks + R'.slots ≤ R.slots) (kk : ∀ r h', Q' r h' → AW M R E Z h' (kc + R'.cells) (ks + R'.slots) (pc + 3) ls (r.toList ++ rest)) : AW M R E Z h kc ks pc ls st := by
  intro p l e s m args below meth c g H locs lz X K hb hP hS hl hE T hT XX
  have hsz := ax_sz XX hT hb hP hS
  obtain ⟨hok, hI⟩ := hok
  have hrun := va_runS (l := l) (e := e) (below := below) (meth := meth) (H := H) (locs := locs) (cells := kc) (slots := ks) (As := as.map (ax_v g)) (rest := rest.map (ax_v g)) (g := F0 m pc lz (st.map (ax_v g))) ⟨X.1, X.2.1, X.2.2.1, X.2.2.2.1, X.2.2.2.2.1⟩ (hM l g) ⟨ax_CB hok X.2.2.2.2.1 (X.2.2.2.2.1 _ hL) hroom, X.2.2.2.2.1 _ hI⟩ ⟨ax_blind g h _, fun U hU hW => ⟨rfl, ⟨by rw [hU]; omega, by rw [hU]; exact hsz⟩, by rw [hU]; exact hP, K.moved hW⟩⟩ rfl (by rw [List.length_map]; exact hn) hl.1 (by rw [hst]; simp) (lv_room (by rw [ax_rs]; exact hrs)) hd hcs
  obtain ⟨v, st0, t, T', L, h0, X', hL2, e1, e2, ⟨r, h', hr, hq, hP', hsz2, hF⟩, go⟩ := hrun T hT XX
  have hv : v = r.map (ax_v g) := by injection hr
  subst hv
  rw [h0] at hsz2
  obtain ⟨t2, a1, b1⟩ := kk r h' hq p l e s m args below meth c g t.heap (locs ++ L) lz X K ⟨hb.1, by omega⟩ hP' ⟨Nat.le_trans hS.1 (by rw [← h0]; exact hF.1), fun q h1 h2 => by rw [hF.2 q (by rw [h0]; exact Nat.lt_of_lt_of_le h1 hS.1) h2, h0]; exact hS.2.1 q h1 h2, fun q hq2 => (List.mem_append.mp hq2).elim (hS.2.2 q) (hL2 q)⟩ hl hE T' e1 X'
  refine ⟨t2, go t2 ?_, b1⟩
  have e3 : (r.toList ++ rest).map (ax_v g) = (r.map (ax_v g)).toList ++ rest.map (ax_v g) := by cases r <;> simp
  rw [e3] at a1
  exact a1
theorem aw_callS1 {M' : ax_M} {R' : Room} {as rest : List Value} {idx n : Nat} {h' : ax_H} {v : Value} (hM : AD M' R' h as (some v) h') (hok : ms_ok M' n) (hd : decode M.2.1 pc = .ok (.invokestatic idx, 3)) (hL : Cond.methodLink M.1.cls idx M'.1 ∈ ax_T) (hn : as.length = n) (hst : st = as.reverse ++ rest) (hroom : R'.frames + 1 ≤ R.frames ∧ 8 + (M'.2.2.1 + 11) + R'.locals ≤ R.locals) (hrs : (rest.map fun v => v.category).sum ≤ 8) (hc0 : R'.cells = 0) (hs0 : R'.slots = 0) (hcs : kc ≤ R.cells ∧ ks ≤ R.slots) (kk : AW M R E Z h' kc ks (pc + 3) ls (v :: rest)) : AW M R E Z h kc ks pc ls st :=
  aw_callS hM hok hd hL hn hst hroom hrs (by rw [hc0, hs0]; exact hcs) (fun r h2 hq => by obtain ⟨rfl, rfl⟩ := hq; rw [hc0, hs0]; exact kk)
theorem aw_callS0 {M' : ax_M} {R' : Room} {as rest : List Value} {idx n : Nat} {h' : ax_H} (hM : AD M' R' h as none h') (hok : ms_ok M' n) (hd : decode M.2.1 pc = .ok (.invokestatic idx, 3)) (hL : Cond.methodLink M.1.cls idx M'.1 ∈ ax_T) (hn : as.length = n) (hst : st = as.reverse ++ rest) (hroom : R'.frames + 1 ≤ R.frames ∧ 8 + (M'.2.2.1 + 11) + R'.locals ≤ R.locals) (hrs : (rest.map fun v => v.category).sum ≤ 8) (hc0 : R'.cells = 0) (hs0 : R'.slots = 0) (hcs : kc ≤ R.cells ∧ ks ≤ R.slots) (kk : AW M R E Z h' kc ks (pc + 3) ls rest) : AW M R E Z h kc ks pc ls st :=
  aw_callS hM hok hd hL hn hst hroom hrs (by rw [hc0, hs0]; exact hcs) (fun r h2 hq => by obtain ⟨rfl, rfl⟩ := hq; rw [hc0, hs0]; exact kk)
theorem aw_callSq {M' : ax_M} {R' : Room} {as rest : List Value} {idx n : Nat} {Q' : Option Value → ax_H → Prop} (hM : AM M' R' h as Q') (hok : ms_ok M' n) (hd : decode M.2.1 pc = .ok (.invokestatic idx, 3)) (hL : Cond.methodLink M.1.cls idx M'.1 ∈ ax_T) (hn : as.length = n) (hst : st = as.reverse ++ rest) (hroom : R'.frames + 1 ≤ R.frames ∧ 8 + (M'.2.2.1 + 11) + R'.locals ≤ R.locals) (hrs : (rest.map fun v => v.category).sum ≤ 8) (hc0 : R'.cells = 0) (hs0 : R'.slots = 0) (hcs : kc ≤ R.cells ∧ ks ≤ R.slots) (kk : ∀ r h', Q' r h' → AW M R E Z h' kc ks (pc + 3) ls (r.toList ++ rest)) : AW M R E Z h kc ks pc ls st :=
  aw_callS hM hok hd hL hn hst hroom hrs (by rw [hc0, hs0]; exact hcs) (fun r h2 hq => by rw [hc0, hs0]; exact kk r h2 hq)
theorem aw_callT {M' : ax_M} {R' : Room} {as rest : List Value} {idx n : Nat} {host : String} {Q' : Option Value → ax_H → Prop} (hM : AM M' R' h as Q') (hok : ms_ok M' n) (hd : decode M.2.1 pc = .ok (.invokestatic idx, 3)) (hL : (M.1.cls, idx, M'.1, host) ∈ ax_N) (hn : as.length = n) (hst : st = as.reverse ++ rest) (hroom : R'.frames + 1 ≤ R.frames ∧ 8 + (M'.2.2.1 + 11) + R'.locals ≤ R.locals) (hrs : (rest.map fun v => v.category).sum ≤ 8) (hcs : kc + R'.cells ≤ R.cells ∧ ks + R'.slots ≤ R.slots) (kk : ∀ r h', Q' r h' → AW M R E Z h' (kc + R'.cells) (ks + R'.slots) (pc + 3) ls (r.toList ++ rest)) : AW M R E Z h kc ks pc ls st := by
  intro p l e s m args below meth c g H locs lz X K hb hP hS hl hE T hT XX
  have hsz := ax_sz XX hT hb hP hS
  obtain ⟨hok, hI⟩ := hok
  have hrun := va_runSN (l := l) (e := e) (below := below) (meth := meth) (H := H) (locs := locs) (cells := kc) (slots := ks) (As := as.map (ax_v g)) (rest := rest.map (ax_v g)) (g := F0 m pc lz (st.map (ax_v g))) ⟨X.1, X.2.1, X.2.2.1, X.2.2.2.1, X.2.2.2.2.1⟩ (hM l g) ⟨ax_CN hok X.2.2.2.2.1 (K.2 _ hL) hroom, X.2.2.2.2.1 _ hI, trivial⟩ ⟨ax_blind g h _, fun U hU hW => ⟨rfl, ⟨by rw [hU]; omega, by rw [hU]; exact hsz⟩, by rw [hU]; exact hP, K.moved hW⟩⟩ rfl (by rw [List.length_map]; exact hn) hl.1 (by rw [hst]; simp) (lv_room (by rw [ax_rs]; exact hrs)) hd hcs
  obtain ⟨v, st0, t, T', L, h0, X', hL2, e1, e2, ⟨r, h', hr, hq, hP', hsz2, hF⟩, go⟩ := hrun T hT XX
  have hv : v = r.map (ax_v g) := by injection hr
  subst hv
  rw [h0] at hsz2
  obtain ⟨t2, a1, b1⟩ := kk r h' hq p l e s m args below meth c g t.heap (locs ++ L) lz X K ⟨hb.1, by omega⟩ hP' ⟨Nat.le_trans hS.1 (by rw [← h0]; exact hF.1), fun q h1 h2 => by rw [hF.2 q (by rw [h0]; exact Nat.lt_of_lt_of_le h1 hS.1) h2, h0]; exact hS.2.1 q h1 h2, fun q hq2 => (List.mem_append.mp hq2).elim (hS.2.2 q) (hL2 q)⟩ hl hE T' e1 X'
  refine ⟨t2, go t2 ?_, b1⟩
  have e3 : (r.toList ++ rest).map (ax_v g) = (r.map (ax_v g)).toList ++ rest.map (ax_v g) := by cases r <;> simp
  rw [e3] at a1
  exact a1
theorem aw_callT1 {M' : ax_M} {R' : Room} {as rest : List Value} {idx n : Nat} {host : String} {h' : ax_H} {v : Value} (hM : AD M' R' h as (some v) h') (hok : ms_ok M' n) (hd : decode M.2.1 pc = .ok (.invokestatic idx, 3)) (hL : (M.1.cls, idx, M'.1, host) ∈ ax_N) (hn : as.length = n) (hst : st = as.reverse ++ rest) (hroom : R'.frames + 1 ≤ R.frames ∧ 8 + (M'.2.2.1 + 11) + R'.locals ≤ R.locals) (hrs : (rest.map fun v => v.category).sum ≤ 8) (hc0 : R'.cells = 0) (hs0 : R'.slots = 0) (hcs : kc ≤ R.cells ∧ ks ≤ R.slots) (kk : AW M R E Z h' kc ks (pc + 3) ls (v :: rest)) : AW M R E Z h kc ks pc ls st :=
  aw_callT hM hok hd hL hn hst hroom hrs (by rw [hc0, hs0]; exact hcs) (fun r h2 hq => by obtain ⟨rfl, rfl⟩ := hq; rw [hc0, hs0]; exact kk)
theorem aw_callT0 {M' : ax_M} {R' : Room} {as rest : List Value} {idx n : Nat} {host : String} {h' : ax_H} (hM : AD M' R' h as none h') (hok : ms_ok M' n) (hd : decode M.2.1 pc = .ok (.invokestatic idx, 3)) (hL : (M.1.cls, idx, M'.1, host) ∈ ax_N) (hn : as.length = n) (hst : st = as.reverse ++ rest) (hroom : R'.frames + 1 ≤ R.frames ∧ 8 + (M'.2.2.1 + 11) + R'.locals ≤ R.locals) (hrs : (rest.map fun v => v.category).sum ≤ 8) (hc0 : R'.cells = 0) (hs0 : R'.slots = 0) (hcs : kc ≤ R.cells ∧ ks ≤ R.slots) (kk : AW M R E Z h' kc ks (pc + 3) ls rest) : AW M R E Z h kc ks pc ls st :=
  aw_callT hM hok hd hL hn hst hroom hrs (by rw [hc0, hs0]; exact hcs) (fun r h2 hq => by obtain ⟨rfl, rfl⟩ := hq; rw [hc0, hs0]; exact kk)
theorem aw_callTq {M' : ax_M} {R' : Room} {as rest : List Value} {idx n : Nat} {host : String} {Q' : Option Value → ax_H → Prop} (hM : AM M' R' h as Q') (hok : ms_ok M' n) (hd : decode M.2.1 pc = .ok (.invokestatic idx, 3)) (hL : (M.1.cls, idx, M'.1, host) ∈ ax_N) (hn : as.length = n) (hst : st = as.reverse ++ rest) (hroom : R'.frames + 1 ≤ R.frames ∧ 8 + (M'.2.2.1 + 11) + R'.locals ≤ R.locals) (hrs : (rest.map fun v => v.category).sum ≤ 8) (hc0 : R'.cells = 0) (hs0 : R'.slots = 0) (hcs : kc ≤ R.cells ∧ ks ≤ R.slots) (kk : ∀ r h', Q' r h' → AW M R E Z h' kc ks (pc + 3) ls (r.toList ++ rest)) : AW M R E Z h kc ks pc ls st :=
  aw_callT hM hok hd hL hn hst hroom hrs (by rw [hc0, hs0]; exact hcs) (fun r h2 hq => by rw [hc0, hs0]; exact kk r h2 hq)
theorem aw_callI {M' : ax_M} {R' : Room} {as rest : List Value} {k idx n : Nat} {Q' : Option Value → ax_H → Prop} (hM : AM M' R' h (.ref k :: as) Q') (hok : mi_ok M' n) (hd : decode M.2.1 pc = .ok (.invokespecial idx, 3)) (hL : Cond.methodLink M.1.cls idx M'.1 ∈ ax_T) (hn : as.length = n) (hst : st = as.reverse ++ .ref k :: rest) (hroom : R'.frames + 1 ≤ R.frames ∧ 8 + (M'.2.2.1 + 11) + R'.locals ≤ R.locals) (hrs : (rest.map fun v => v.category).sum ≤ 8) (hcs : kc + R'.cells ≤ R.cells ∧ ks + R'.slots ≤ R.slots) (kk : ∀ r h', Q' r h' → AW M R E Z h' (kc + R'.cells) (ks + R'.slots) (pc + 3) ls (r.toList ++ rest)) : AW M R E Z h kc ks pc ls st := by
  intro p l e s m args below meth c g H locs lz X K hb hP hS hl hE T hT XX
  have hsz := ax_sz XX hT hb hP hS
  obtain ⟨hok, hI, hin, hrt⟩ := hok
  have hrun := va_runI (l := l) (e := e) (below := below) (meth := meth) (H := H) (locs := locs) (cells := kc) (slots := ks) (As := as.map (ax_v g)) (rest := rest.map (ax_v g)) (g := F0 m pc lz (st.map (ax_v g))) (b := g.1 + k) ⟨X.1, X.2.1, X.2.2.1, X.2.2.2.1, X.2.2.2.2.1⟩ (hM l g) ⟨by rw [← hrt]; exact ax_CB hok X.2.2.2.2.1 (X.2.2.2.2.1 _ hL) hroom, hin, X.2.2.2.2.1 _ hI⟩ ⟨ax_blind g h _, fun U hU hW => ⟨rfl, ⟨by rw [hU]; omega, by rw [hU]; exact hsz⟩, by rw [hU]; exact hP, K.moved hW⟩⟩ rfl (by rw [List.length_map]; exact hn) hl.1 (by rw [hst]; simp [ax_v]) (lv_room (by rw [ax_rs]; exact hrs)) hd hcs
  obtain ⟨v, st0, t, T', L, h0, X', hL2, e1, e2, ⟨r, h', hr, hq, hP', hsz2, hF⟩, go⟩ := hrun T hT XX
  have hv : v = r.map (ax_v g) := by injection hr
  subst hv
  rw [h0] at hsz2
  obtain ⟨t2, a1, b1⟩ := kk r h' hq p l e s m args below meth c g t.heap (locs ++ L) lz X K ⟨hb.1, by omega⟩ hP' ⟨Nat.le_trans hS.1 (by rw [← h0]; exact hF.1), fun q h1 h2 => by rw [hF.2 q (by rw [h0]; exact Nat.lt_of_lt_of_le h1 hS.1) h2, h0]; exact hS.2.1 q h1 h2, fun q hq2 => (List.mem_append.mp hq2).elim (hS.2.2 q) (hL2 q)⟩ hl hE T' e1 X'
  refine ⟨t2, go t2 ?_, b1⟩
  have e3 : (r.toList ++ rest).map (ax_v g) = (r.map (ax_v g)).toList ++ rest.map (ax_v g) := by cases r <;> simp
  rw [e3] at a1
  exact a1
theorem aw_callJ {M' : ax_M} {R' : Room} {as rest : List Value} {k idx n : Nat} {host : String} {Q' : Option Value → ax_H → Prop} (hM : AM M' R' h (.ref k :: as) Q') (hok : mi_ok M' n) (hd : decode M.2.1 pc = .ok (.invokespecial idx, 3)) (hL : (M.1.cls, idx, M'.1, host) ∈ ax_N) (hn : as.length = n) (hst : st = as.reverse ++ .ref k :: rest) (hroom : R'.frames + 1 ≤ R.frames ∧ 8 + (M'.2.2.1 + 11) + R'.locals ≤ R.locals) (hrs : (rest.map fun v => v.category).sum ≤ 8) (hcs : kc + R'.cells ≤ R.cells ∧ ks + R'.slots ≤ R.slots) (kk : ∀ r h', Q' r h' → AW M R E Z h' (kc + R'.cells) (ks + R'.slots) (pc + 3) ls (r.toList ++ rest)) : AW M R E Z h kc ks pc ls st := by
  intro p l e s m args below meth c g H locs lz X K hb hP hS hl hE T hT XX
  have hsz := ax_sz XX hT hb hP hS
  obtain ⟨hok, hI, hin, hrt⟩ := hok
  have hrun := va_runIN (l := l) (e := e) (below := below) (meth := meth) (H := H) (locs := locs) (cells := kc) (slots := ks) (As := as.map (ax_v g)) (rest := rest.map (ax_v g)) (g := F0 m pc lz (st.map (ax_v g))) (b := g.1 + k) ⟨X.1, X.2.1, X.2.2.1, X.2.2.2.1, X.2.2.2.2.1⟩ (hM l g) ⟨by rw [← hrt]; exact ax_CN hok X.2.2.2.2.1 (K.2 _ hL) hroom, hin, X.2.2.2.2.1 _ hI⟩ ⟨ax_blind g h _, fun U hU hW => ⟨rfl, ⟨by rw [hU]; omega, by rw [hU]; exact hsz⟩, by rw [hU]; exact hP, K.moved hW⟩⟩ rfl (by rw [List.length_map]; exact hn) hl.1 (by rw [hst]; simp [ax_v]) (lv_room (by rw [ax_rs]; exact hrs)) hd hcs
  obtain ⟨v, st0, t, T', L, h0, X', hL2, e1, e2, ⟨r, h', hr, hq, hP', hsz2, hF⟩, go⟩ := hrun T hT XX
  have hv : v = r.map (ax_v g) := by injection hr
  subst hv
  rw [h0] at hsz2
  obtain ⟨t2, a1, b1⟩ := kk r h' hq p l e s m args below meth c g t.heap (locs ++ L) lz X K ⟨hb.1, by omega⟩ hP' ⟨Nat.le_trans hS.1 (by rw [← h0]; exact hF.1), fun q h1 h2 => by rw [hF.2 q (by rw [h0]; exact Nat.lt_of_lt_of_le h1 hS.1) h2, h0]; exact hS.2.1 q h1 h2, fun q hq2 => (List.mem_append.mp hq2).elim (hS.2.2 q) (hL2 q)⟩ hl hE T' e1 X'
  refine ⟨t2, go t2 ?_, b1⟩
  have e3 : (r.toList ++ rest).map (ax_v g) = (r.map (ax_v g)).toList ++ rest.map (ax_v g) := by cases r <;> simp
  rw [e3] at a1
  exact a1
theorem aw_objInit {k idx : Nat} (hd : decode M.2.1 pc = .ok (.invokespecial idx, 3)) (hL : Cond.methodLink M.1.cls idx Lib.objectInit ∈ ax_T) (hI : Cond.instanceMethod Lib.objectInit ∈ ax_T) (hC : Cond.code Lib.objectInit ⟨#[0xb1]⟩ 1 none ∈ ax_T) (hf : 1 ≤ R.frames) (hr : (st.map fun v => v.category).sum + 12 ≤ R.locals) (kk : AW M R E Z h kc ks (pc + 3) ls st) : AW M R E Z h kc ks pc ls (.ref k :: st) := by
  intro p l e s m args below meth c g H locs lz X K hb hP hS hl hE
  exact W.objInit X.1 X.2.1 X.2.2.2.1 (X.2.2.2.2.1 _ hL) (X.2.2.2.2.1 _ hI) (X.2.2.2.2.1 _ hC) (g := F0 m pc lz ((Value.ref k :: st).map (ax_v g))) rfl (by rw [X.2.2.1]; exact hl.1) (rest := st.map (ax_v g)) rfl hd hf (by rw [ax_rs]; show 2 * 0 + _ + 12 ≤ _; omega) (kk p l e s m args below meth c g H locs lz X K hb hP hS hl hE)
theorem aw_mmax {idx : Nat} {x y : Int32} (hd : decode M.2.1 pc = .ok (.invokestatic idx, 3)) (hL : Cond.methodLink M.1.cls idx Lib.Math.max.name ∈ ax_T) (hI : Cond.static Lib.Math.max.name ∈ ax_T) (hN : Cond.initialized "java/lang/Math" ∈ ax_T) (hC : Cond.code Lib.Math.max.name Lib.Math.max.code 2 (some .int) ∈ ax_T) (hf : 1 ≤ R.frames) (hr : (st.map fun v => v.category).sum + 13 ≤ R.locals) (hcs : kc ≤ R.cells ∧ ks ≤ R.slots) (kk : AW M R E Z h kc ks (pc + 3) ls (.int (if x < y then y else x) :: st)) : AW M R E Z h kc ks pc ls (.int y :: .int x :: st) := by
  intro p l e s m args below meth c g H locs lz X K hb hP hS hl hE
  exact va_mmax X.1 X.2.1 (X.2.2.1.trans hl.1.symm) X.2.2.2.1 (X.2.2.2.2.1 _ hL) (X.2.2.2.2.1 _ hI) (X.2.2.2.2.1 _ hN) (X.2.2.2.2.1 _ hC) hf (by rw [ax_rs]; exact hr) hcs.1 hcs.2 hd (kk p l e s m args below meth c g H locs lz X K hb hP hS hl hE)
theorem aw_mmin {idx : Nat} {x y : Int32} (hd : decode M.2.1 pc = .ok (.invokestatic idx, 3)) (hL : Cond.methodLink M.1.cls idx Lib.Math.min.name ∈ ax_T) (hI : Cond.static Lib.Math.min.name ∈ ax_T) (hN : Cond.initialized "java/lang/Math" ∈ ax_T) (hC : Cond.code Lib.Math.min.name Lib.Math.min.code 2 (some .int) ∈ ax_T) (hf : 1 ≤ R.frames) (hr : (st.map fun v => v.category).sum + 13 ≤ R.locals) (hcs : kc ≤ R.cells ∧ ks ≤ R.slots) (kk : AW M R E Z h kc ks (pc + 3) ls (.int (if y < x then y else x) :: st)) : AW M R E Z h kc ks pc ls (.int y :: .int x :: st) := by
  intro p l e s m args below meth c g H locs lz X K hb hP hS hl hE
  exact va_mmin X.1 X.2.1 (X.2.2.1.trans hl.1.symm) X.2.2.2.1 (X.2.2.2.2.1 _ hL) (X.2.2.2.2.1 _ hI) (X.2.2.2.2.1 _ hN) (X.2.2.2.2.1 _ hC) hf (by rw [ax_rs]; exact hr) hcs.1 hcs.2 hd (kk p l e s m args below meth c g H locs lz X K hb hP hS hl hE)
theorem aw_lcmp {x y : Int64} (hd : decode M.2.1 pc = .ok (.lcmp, 1)) (kk : AW M R E Z h kc ks (pc + 1) ls (.int (lg_cmp x y) :: st)) : AW M R E Z h kc ks pc ls (.long y :: .long x :: st) := by
  intro p l e s m args below meth c g H locs lz X K hb hP hS hl hE
  exact W.lcmp X.1 X.2.1 hd (kk p l e s m args below meth c g H locs lz X K hb hP hS hl hE)
theorem aw_swIn {dflt lo hi : Int} {offs : Array Int} {len : Nat} {x : Int32} {off : Int} {tgt : Nat} (hd : decode M.2.1 pc = .ok (.tableswitch dflt lo hi offs, len)) (h1 : ¬ x.toInt < lo) (h2 : ¬ hi < x.toInt) (ho : offs[(x.toInt - lo).toNat]? = some off) (ht : (pc : Int) + off = (tgt : Int)) (kk : AW M R E Z h kc ks tgt ls st) : AW M R E Z h kc ks pc ls (.int x :: st) := by
  intro p l e s m args below meth c g H locs lz X K hb hP hS hl hE
  exact lv_tableIn X.1 X.2.1 hd h1 h2 ho ht (kk p l e s m args below meth c g H locs lz X K hb hP hS hl hE)
theorem aw_swOut {dflt lo hi : Int} {offs : Array Int} {len : Nat} {x : Int32} {tgt : Nat} (hd : decode M.2.1 pc = .ok (.tableswitch dflt lo hi offs, len)) (h1 : x.toInt < lo ∨ hi < x.toInt) (ht : (pc : Int) + dflt = (tgt : Int)) (kk : AW M R E Z h kc ks tgt ls st) : AW M R E Z h kc ks pc ls (.int x :: st) := by
  intro p l e s m args below meth c g H locs lz X K hb hP hS hl hE
  exact lv_tableOut X.1 X.2.1 hd h1 ht (kk p l e s m args below meth c g H locs lz X K hb hP hS hl hE)
theorem aw_copy {idx k0 k1 n0 : Nat} {n : Int32} {xs ys : List Int32} {h' : ax_H} (hd : decode M.2.1 pc = .ok (.invokestatic idx, 3)) (hL : Cond.methodLink M.1.cls idx arraycopyName ∈ ax_T) (hI : Cond.static arraycopyName ∈ ax_T) (hX : Cond.native arraycopyName ∈ ax_T) (hN : Cond.initialized "java/lang/System" ∈ ax_T) (hk0 : h[k0]? = some (ia xs)) (hk1 : h[k1]? = some (ia ys)) (hx : xs.length = n0) (hy : ys.length = n0) (hn : n = nI n0) (hm : n0 < 2 ^ 31) (hf : 1 ≤ R.frames) (hr : (st.map fun v => v.category).sum + 18 ≤ R.locals) (hs : h.set k1 (ia xs) = h') (kk : AW M R E Z h' kc ks (pc + 3) ls st) : AW M R E Z h kc ks pc ls (.int n :: .int 0 :: .ref k1 :: .int 0 :: .ref k0 :: st) := by
  intro p l e s m args below meth c g H locs lz X K hb hP hS hl hE
  subst hn; subst hs
  have hcn : (nI n0).toNatClampNeg = n0 := nI_clamp hm
  have hc0 : (0 : Int32).toNatClampNeg = 0 := rfl
  refine va_copyi X.1 X.2.1 (X.2.2.1.trans hl.1.symm) X.2.2.2.1 (X.2.2.2.2.1 _ hL) (X.2.2.2.2.1 _ hX) (X.2.2.2.2.1 _ hI) (X.2.2.2.2.1 _ hN) K.1 hP (ax_D g h) hS k0 k1 0 0 (ax_w_at hk0) (ax_w_at hk1) rfl rfl rfl (sp := 0) (dp := 0) (n := nI n0) (by decide) (by decide) (nI_pos hm) (by show _ + _ ≤ xs.length; rw [hcn, hc0, hx]; omega) (by show _ + _ ≤ ys.length; rw [hcn, hc0, hy]; omega) (fun i _ => rfl) hf (by rw [ax_rs]; exact hr) hd (fun H1 locs1 hP1 _ hS1 => ?_)
  have e1 : (ax_w g h).set k1 (g.1 + k1, .inl (g.2.2.2 0, ys.length, .inl (va_cpy (fun j => xs.getD j 0) (fun j => ys.getD j 0) (0 : Int32).toNatClampNeg (0 : Int32).toNatClampNeg (nI n0).toNatClampNeg))) = ax_w g (h.set k1 (ia xs)) := by
    rw [hcn, hc0, ← ax_w_set]
    show _ = (ax_w g h).set k1 (g.1 + k1, .inl (g.2.2.2 0, xs.length, .inl (fun j => xs.getD j 0)))
    have ef : va_cpy (fun j => xs.getD j 0) (fun j => ys.getD j 0) 0 0 n0 = fun j => xs.getD j 0 := by
      funext j
      by_cases hj : j < n0
      · simp [va_cpy, hj]
      · simp only [va_cpy]
        rw [if_neg (by omega), List.getD_eq_getElem?_getD, List.getD_eq_getElem?_getD, List.getElem?_eq_none (by omega), List.getElem?_eq_none (by omega)]
    rw [hx, hy, ef]
  rw [e1] at hP1
  exact kk p l e s m args below meth c g H1 locs1 lz X K ⟨hb.1, by rw [List.length_set]; exact hb.2⟩ hP1 hS1 hl hE
theorem aw_slen {L : Nat} {xs : Nat → Int32} {u : UInt32} (hd : decode M.2.1 pc = .ok (.arraylength, 1)) (hX : ∀ s g, E s g → va_X g.2.1 L xs s s.heap ∧ g.2.1 < s.heap.size ∧ g.1 = s.heap.size) (kk : AW M R E Z h kc ks (pc + 1) ls (.int (nI L) :: st)) : AW M R E Z h kc ks pc ls (.float u :: st) := by
  intro p l e s m args below meth c g H locs lz X K hb hP hS hl hE
  obtain ⟨h1, h2, h3⟩ := hX s g hE
  exact va_slen X.1 X.2.1 h1 h2 (by show ¬ g.1 ≤ g.2.1; omega) hS hd (kk p l e s m args below meth c g H locs lz X K hb hP hS hl hE)
theorem aw_sld {L : Nat} {xs : Nat → Int32} {u : UInt32} {i : Int32} {j : Nat} (hd : decode M.2.1 pc = .ok (.iaload, 1)) (hX : ∀ s g, E s g → va_X g.2.1 L xs s s.heap ∧ g.2.1 < s.heap.size ∧ g.1 = s.heap.size) (hi : i = nI j) (hj : j < L) (hm : L < 2 ^ 31) (kk : AW M R E Z h kc ks (pc + 1) ls (.int (xs j) :: st)) : AW M R E Z h kc ks pc ls (.int i :: .float u :: st) := by
  intro p l e s m args below meth c g H locs lz X K hb hP hS hl hE
  obtain ⟨h1, h2, h3⟩ := hX s g hE
  subst hi
  refine va_sld X.1 X.2.1 h1 h2 (by show ¬ g.1 ≤ g.2.1; omega) hS (i := nI j) (vp_in_nI hj hm) hd ?_
  rw [nI_clamp (by omega)]
  exact kk p l e s m args below meth c g H locs lz X K hb hP hS hl hE
end HEAP
section ENDS
variable {M : ax_M} {R : Room} {E : ax_Et} {h : ax_H} {mc ms pc : Nat} {ls : List (Nat × Value)} {Q : Option Value → ax_H → Prop}
theorem ax_end {g : ax_G} {H : Heap} {locs : List Loc} {s : State} {args : Array Value} {r : Option Value} (hb : g.1 ≤ s.heap.size ∧ s.heap.size + mc = g.1 + h.length) (hP : va_P g.2.2.1 classes (ax_w g h) H) (hS : va_S (ax_A g) s.heap H locs) (hQ : Q r h) : ∀ t : State, t.heap = H → s.WarmedH t.vm → ax_Q g Q mc args s (.returned (r.map (ax_v g))) t :=
  fun t ht _ => ⟨r, h, rfl, hQ, by rw [ht]; exact hP, hb.2, hS.F ht⟩
theorem aw_iret {v : Int32} (hd : decode M.2.1 pc = .ok (.ireturn, 1)) (hr : M.2.2.2 = some .int) (hQ : Q (some (.int v)) h) : AW M R E (ax_Zm Q mc ms) h mc ms pc ls [.int v] := by
  intro p l e s m args below meth c g H locs lz X K hb hP hS hl hE
  exact W.iret X.1 X.2.1 (X.2.2.2.2.2.1.trans hr) (ax_end hb hP hS hQ) hS.2.2 hd X.2.2.2.2.2.2.1
theorem aw_zret {v : Int32} (hd : decode M.2.1 pc = .ok (.ireturn, 1)) (hr : M.2.2.2 = some .boolean) (hv : ft_ok .boolean (.int v)) (hQ : Q (some (.int v)) h) : AW M R E (ax_Zm Q mc ms) h mc ms pc ls [.int v] := by
  intro p l e s m args below meth c g H locs lz X K hb hP hS hl hE
  exact W.zret X.1 X.2.1 (X.2.2.2.2.2.1.trans hr) (hv g).1 (ax_end hb hP hS hQ) hS.2.2 hd X.2.2.2.2.2.2.1
theorem aw_lret {v : Int64} (hd : decode M.2.1 pc = .ok (.lreturn, 1)) (hr : M.2.2.2 = some .long) (hQ : Q (some (.long v)) h) : AW M R E (ax_Zm Q mc ms) h mc ms pc ls [.long v] := by
  intro p l e s m args below meth c g H locs lz X K hb hP hS hl hE
  exact W.lret X.1 X.2.1 (X.2.2.2.2.2.1.trans hr) (ax_end hb hP hS hQ) hS.2.2 hd X.2.2.2.2.2.2.1
theorem aw_aret {k : Nat} {C : String} (hd : decode M.2.1 pc = .ok (.areturn, 1)) (hr : M.2.2.2 = some (.object C)) (hQ : Q (some (.ref k)) h) : AW M R E (ax_Zm Q mc ms) h mc ms pc ls [.ref k] := by
  intro p l e s m args below meth c g H locs lz X K hb hP hS hl hE
  exact W.aret X.1 X.2.1 (X.2.2.2.2.2.1.trans hr) (Or.inl ⟨C, rfl⟩) (Or.inr ⟨_, rfl⟩) (ax_end hb hP hS hQ) hS.2.2 hd X.2.2.2.2.2.2.1
theorem aw_vret (hd : decode M.2.1 pc = .ok (.return_, 1)) (hr : M.2.2.2 = none) (hQ : Q none h) : AW M R E (ax_Zm Q mc ms) h mc ms pc ls [] := by
  intro p l e s m args below meth c g H locs lz X K hb hP hS hl hE
  exact W.vret X.1 X.2.1 (X.2.2.2.2.2.1.trans hr) (ax_end hb hP hS hQ) hS.2.2 hd X.2.2.2.2.2.2.1
end ENDS
