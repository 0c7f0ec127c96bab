/-! A light machine over the kit's: cells by their places behind the base, a method's locals and stack as lists; a row an instruction, no heap, no room beside what is counted. -/
abbrev ax_M : Type := MethodName × ByteArray × Nat × Option FieldType
abbrev ax_C : Type := (Nat × List Int32) ⊕ (List Int64 ⊕ (Nat × List Value))
abbrev ax_H : Type := List ax_C
/-- base, script's address, the classes' numbers and slots, the array classes (0 int, 1 boolean, 2 long) -/
abbrev ax_G : Type := Nat × Nat × va_G × (Nat → ClassId)
abbrev ob (ci : Nat) (fs : List Value) : ax_C := .inr (.inr (ci, fs))
abbrev ia (xs : List Int32) : ax_C := .inl (0, xs)
abbrev za (xs : List Int32) : ax_C := .inl (1, xs)
abbrev ja (xs : List Int64) : ax_C := .inr (.inl xs)
/-- a value of ours as a value of the machine: a reference is a place behind the base; a float stands for the script -/
def ax_v (g : ax_G) (v : Value) : Value := match v with
  | .ref k => .ref (g.1 + k)
  | .float _ => .ref g.2.1
  | v => v
def ax_e (g : ax_G) (c : ax_C) : va_E := match c with
  | .inl q => .inl (g.2.2.2 q.1, q.2.length, .inl (fun j => q.2.getD j 0))
  | .inr (.inl xs) => .inl (g.2.2.2 2, xs.length, .inr (.inl (fun j => xs.getD j 0)))
  | .inr (.inr q) => .inr (q.1, q.2.map (ax_v g))
def ax_w (g : ax_G) (h : ax_H) : va_W := h.mapIdx (fun k c => (g.1 + k, ax_e g c))
theorem ax_w_at {g : ax_G} {h : ax_H} {k : Nat} {c : ax_C} (hk : h[k]? = some c) : (ax_w g h)[k]? = some (g.1 + k, ax_e g c) := by
  simp [ax_w, hk]
theorem ax_w_set (g : ax_G) (h : ax_H) (k : Nat) (c : ax_C) : (ax_w g h).set k (g.1 + k, ax_e g c) = ax_w g (h.set k c) := by
  apply List.ext_getElem?
  intro i
  simp only [ax_w, List.getElem?_set, List.getElem?_mapIdx, List.length_mapIdx]
  by_cases hi : k = i
  · subst hi
    by_cases hl : k < h.length
    · simp [hl]
    · simp [hl]
  · simp [hi]
theorem ax_w_push (g : ax_G) (h : ax_H) (c : ax_C) : ax_w g (h ++ [c]) = ax_w g h ++ [(g.1 + h.length, ax_e g c)] := by
  simp [ax_w, List.mapIdx_append]
def ax_A (g : ax_G) : Nat → Prop := fun q => g.1 ≤ q
theorem ax_D (g : ax_G) (h : ax_H) : va_D (ax_A g) (ax_w g h) := by
  have key : ∀ (k : Nat) (q : Nat × va_E), (ax_w g h)[k]? = some q → q.1 = g.1 + k := by
    intro k q hk
    simp only [ax_w, List.getElem?_mapIdx] at hk
    cases hc : h[k]? with
    | none => rw [hc] at hk; cases hk
    | some c => rw [hc] at hk; cases hk; rfl
  refine ⟨fun i j p q hi hj hpq => ?_, fun k q hk => ?_⟩
  · have h1 := key i p hi
    have h2 := key j q hj
    omega
  · show g.1 ≤ q.1
    rw [key k q hk]
    exact Nat.le_add_right _ _
abbrev ax_tys (g : ax_G) : List (ClassId × FieldType) := [(g.2.2.2 0, .int), (g.2.2.2 1, .boolean), (g.2.2.2 2, .long)]
def ax_K (g : ax_G) (U : State) : Prop := va_K g.2.2.1 classes (ax_tys g) U ∧ ∀ q ∈ ax_N, va_Nw (.methodLinkNest q.1 q.2.1 q.2.2.1 q.2.2.2) U
theorem ax_K.moved {g : ax_G} {s U : State} (hW : s.WarmedH U.vm) (h : ax_K g s) : ax_K g U := ⟨va_K.moved hW.alike h.1, fun q hq => (h.2 q hq).warmM hW⟩
theorem ax_K.calling {g : ax_G} {U : State} {f : JFrame} {mk : MethodId} {a : Array Value} (h : ax_K g U) : ax_K g (U.calling f mk a) := ⟨va_K.moved (u := U) (U := U.calling f mk a) (Vm.Alike.refl U.vm) h.1, fun q hq => (h.2 q hq).same rfl rfl⟩
/-- what stays through a method's body -/
def ax_X (M : ax_M) (p : Program) (s : State) (m : MethodId) (args : Array Value) (meth : Method) (c : Code) : Prop :=
  p.tables.exec = Jvm.exec ∧ c.code = M.2.1 ∧ c.maxLocals = M.2.2.1 ∧ s.vm.findClass M.1.cls = some m.cls ∧ (∀ w ∈ ax_T, w.before args s = true) ∧ meth.sig.returnType = M.2.2.2 ∧ meth.locks = false ∧ (M.1.name = "<init>" → meth.name = "<init>")
abbrev ax_Et : Type := State → ax_G → Prop
abbrev ax_Zt : Type := ax_G → List Frame → Array Value → State → State → Prop
def ax_ml (g : ax_G) (ls : List (Nat × Value)) : List (Nat × Value) := ls.map (fun q => (q.1, ax_v g q.2))
def AW (M : ax_M) (R : Room) (E : ax_Et) (Z : ax_Zt) (h : ax_H) (kc ks pc : Nat) (ls : List (Nat × Value)) (st : List Value) : Prop :=
  ∀ (p : Program) (l : Launch) (e : Env) (s : State) (m : MethodId) (args : Array Value) (below : List Frame) (meth : Method) (c : Code) (g : ax_G) (H : Heap) (locs : List Loc) (lz : Array Slot),
    ax_X M p s m args meth c → ax_K g s → g.1 ≤ s.heap.size ∧ s.heap.size + kc = g.1 + h.length → va_P g.2.2.1 classes (ax_w g h) H → va_S (ax_A g) s.heap H locs → lv_has lz M.2.2.1 (ax_ml g ls) → E s g →
    W p l e R s m args below meth c H locs kc ks (Z g below args s) (F0 m pc lz (st.map (ax_v g)))
def lg : List (Nat × Value) → Nat → Option Value
  | [], _ => none
  | q :: t, i => bif q.1 == i then some q.2 else lg t i
theorem lg_mem : ∀ {ls : List (Nat × Value)} {i : Nat} {v : Value}, lg ls i = some v → (i, v) ∈ ls
  | q :: t, i, v, h => by
    unfold lg at h
    cases hb : (q.1 == i) with
    | true =>
      rw [hb] at h
      have h1 : q.2 = v := Option.some.inj h
      have h2 : q.1 = i := by simpa using hb
      subst h1; subst h2
      exact List.mem_cons_self
    | false =>
      rw [hb] at h
      exact List.mem_cons_of_mem _ (lg_mem h)
theorem lg_at {g : ax_G} {lz : Array Slot} {n : Nat} {ls : List (Nat × Value)} {i : Nat} {v : Value} (hl : lv_has lz n (ax_ml g ls)) (h : lg ls i = some v) : lz[i]? = some (.val (ax_v g v)) :=
  hl.2.2 (i, ax_v g v) (List.mem_map.mpr ⟨(i, v), lg_mem h, rfl⟩)
/-- a value of one word put into a local -/
def ls1 (i : Nat) (v : Value) : List (Nat × Value) → List (Nat × Value)
  | [] => [(i, v)]
  | q :: t => bif q.1 == i then (i, v) :: t.filter (fun q => !(q.1 == i) && !(q.1 + 1 == i && q.2.category == 2)) else (bif q.1 + 1 == i && q.2.category == 2 then ls1 i v t else q :: ls1 i v t)
def ls2 (i : Nat) (v : Value) : List (Nat × Value) → List (Nat × Value)
  | [] => [(i, v)]
  | q :: t => bif q.1 == i then (i, v) :: t.filter (fun q => !(q.1 == i) && (!(q.1 == i + 1) && !(q.1 + 1 == i && q.2.category == 2))) else (bif q.1 == i + 1 || (q.1 + 1 == i && q.2.category == 2) then ls2 i v t else q :: ls2 i v t)
theorem ls1_mem (i : Nat) (v : Value) : ∀ (ls : List (Nat × Value)), ∀ q ∈ ls1 i v ls, q = (i, v) ∨ (q ∈ ls ∧ (!(q.1 == i) && !(q.1 + 1 == i && q.2.category == 2)) = true)
  | [], q, h => by
    have : q = (i, v) := by simpa [ls1] using h
    exact Or.inl this
  | a :: t, q, h => by
    unfold ls1 at h
    cases hb : (a.1 == i) with
    | true =>
      rw [hb] at h
      rcases List.mem_cons.mp h with h | h
      · exact Or.inl h
      · exact Or.inr ⟨List.mem_cons_of_mem _ (List.mem_filter.mp h).1, (List.mem_filter.mp h).2⟩
    | false =>
      rw [hb] at h
      cases hc : (a.1 + 1 == i && a.2.category == 2) with
      | true =>
        rw [hc] at h
        rcases ls1_mem i v t q h with h | h
        · exact Or.inl h
        · exact Or.inr ⟨List.mem_cons_of_mem _ h.1, h.2⟩
      | false =>
        rw [hc] at h
        rcases List.mem_cons.mp h with h | h
        · subst h
          exact Or.inr ⟨List.mem_cons_self, by rw [hb, hc]; rfl⟩
        · rcases ls1_mem i v t q h with h | h
          · exact Or.inl h
          · exact Or.inr ⟨List.mem_cons_of_mem _ h.1, h.2⟩
theorem ls2_mem (i : Nat) (v : Value) : ∀ (ls : List (Nat × Value)), ∀ q ∈ ls2 i v ls, q = (i, v) ∨ (q ∈ ls ∧ (!(q.1 == i) && (!(q.1 == i + 1) && !(q.1 + 1 == i && q.2.category == 2))) = true)
  | [], q, h => by
    have : q = (i, v) := by simpa [ls2] using h
    exact Or.inl this
  | a :: t, q, h => by
    unfold ls2 at h
    cases hb : (a.1 == i) with
    | true =>
      rw [hb] at h
      rcases List.mem_cons.mp h with h | h
      · exact Or.inl h
      · exact Or.inr ⟨List.mem_cons_of_mem _ (List.mem_filter.mp h).1, (List.mem_filter.mp h).2⟩
    | false =>
      rw [hb] at h
      cases hd : (a.1 == i + 1) with
      | true =>
        rw [hd] at h
        rcases ls2_mem i v t q h with h | h
        · exact Or.inl h
        · exact Or.inr ⟨List.mem_cons_of_mem _ h.1, h.2⟩
      | false =>
        cases hc : (a.1 + 1 == i && a.2.category == 2) with
        | true =>
          rw [hd, hc] at h
          rcases ls2_mem i v t q h with h | h
          · exact Or.inl h
          · exact Or.inr ⟨List.mem_cons_of_mem _ h.1, h.2⟩
        | false =>
          rw [hd, hc] at h
          rcases List.mem_cons.mp h with h | h
          · subst h
            exact Or.inr ⟨List.mem_cons_self, by rw [hb, hd, hc]; rfl⟩
          · rcases ls2_mem i v t q h with h | h
            · exact Or.inl h
            · exact Or.inr ⟨List.mem_cons_of_mem _ h.1, h.2⟩
theorem ax_cat (g : ax_G) (v : Value) : (ax_v g v).category = v.category := by cases v <;> rfl
theorem ls1_has {g : ax_G} {lz : Array Slot} {n i : Nat} {v : Value} {ls ls' : List (Nat × Value)} (h : lv_has lz n ((i, ax_v g v) :: (ax_ml g ls).filter (fun q => !(q.1 == i) && !(q.1 + 1 == i && q.2.category == 2)))) (hs : ls1 i v ls = ls') : lv_has lz n (ax_ml g ls') := by
  subst hs
  refine ⟨h.1, h.2.1, fun q hq => h.2.2 q ?_⟩
  obtain ⟨a, ha, rfl⟩ := List.mem_map.mp hq
  rcases ls1_mem i v ls a ha with rfl | ⟨h1, h2⟩
  · exact List.mem_cons_self
  · refine List.mem_cons_of_mem _ (List.mem_filter.mpr ⟨List.mem_map.mpr ⟨a, h1, rfl⟩, ?_⟩)
    show (!(a.1 == i) && !(a.1 + 1 == i && (ax_v g a.2).category == 2)) = true
    rw [ax_cat]; exact h2
theorem ls2_has {g : ax_G} {lz : Array Slot} {n i : Nat} {v : Value} {ls ls' : List (Nat × Value)} (h : lv_has lz n ((i, ax_v g v) :: (ax_ml g ls).filter (fun q => !(q.1 == i) && (!(q.1 == i + 1) && !(q.1 + 1 == i && q.2.category == 2))))) (hs : ls2 i v ls = ls') : lv_has lz n (ax_ml g ls') := by
  subst hs
  refine ⟨h.1, h.2.1, fun q hq => h.2.2 q ?_⟩
  obtain ⟨a, ha, rfl⟩ := List.mem_map.mp hq
  rcases ls2_mem i v ls a ha with rfl | ⟨h1, h2⟩
  · exact List.mem_cons_self
  · refine List.mem_cons_of_mem _ (List.mem_filter.mpr ⟨List.mem_map.mpr ⟨a, h1, rfl⟩, ?_⟩)
    show (!(a.1 == i) && (!(a.1 == i + 1) && !(a.1 + 1 == i && (ax_v g a.2).category == 2))) = true
    rw [ax_cat]; exact h2
section ROWS
variable {M : ax_M} {R : Room} {E : ax_Et} {Z : ax_Zt} {h : ax_H} {kc ks pc : Nat} {ls : List (Nat × Value)} {st : List Value}
theorem aw_sub {ls' : List (Nat × Value)} (ps : List Nat) (hp : lv_pick ls ps = ls') (k : AW M R E Z h kc ks pc ls' st) : AW M R E Z h kc ks pc ls st := by
  intro p l e s m args below meth c g H locs lz X K hb hP hS hl hE
  refine k p l e s m args below meth c g H locs lz X K hb hP hS ⟨hl.1, hl.2.1, fun q hq => hl.2.2 q ?_⟩ hE
  obtain ⟨a, ha, rfl⟩ := List.mem_map.mp hq
  rw [← hp] at ha
  obtain ⟨j, -, hj⟩ := List.mem_filterMap.mp ha
  exact List.mem_map.mpr ⟨a, List.mem_of_getElem? hj, rfl⟩
theorem aw_eq {h' : ax_H} {ls' : List (Nat × Value)} {st' : List Value} (k : AW M R E Z h' kc ks pc ls' st') (e1 : h = h' := by rfl) (e2 : ls = ls' := by rfl) (e3 : st = st' := by rfl) : AW M R E Z h kc ks pc ls st := by
  subst e1; subst e2; subst e3; exact k
theorem aw_iadd {x y : Int32} (hd : decode M.2.1 pc = .ok (.iadd, 1)) (k : AW M R E Z h kc ks (pc + 1) ls (.int (x + y) :: st)) : AW M R E Z h kc ks pc ls (.int y :: .int x :: st) := by
  intro p l e s m args below meth c g H locs lz X K hb hP hS hl hE
  exact lv_iadd X.1 X.2.1 hd (k p l e s m args below meth c g H locs lz X K hb hP hS hl hE)
theorem aw_isub {x y : Int32} (hd : decode M.2.1 pc = .ok (.isub, 1)) (k : AW M R E Z h kc ks (pc + 1) ls (.int (x - y) :: st)) : AW M R E Z h kc ks pc ls (.int y :: .int x :: st) := by
  intro p l e s m args below meth c g H locs lz X K hb hP hS hl hE
  exact lv_isub X.1 X.2.1 hd (k p l e s m args below meth c g H locs lz X K hb hP hS hl hE)
theorem aw_imul {x y : Int32} (hd : decode M.2.1 pc = .ok (.imul, 1)) (k : AW M R E Z h kc ks (pc + 1) ls (.int (x * y) :: st)) : AW M R E Z h kc ks pc ls (.int y :: .int x :: st) := by
  intro p l e s m args below meth c g H locs lz X K hb hP hS hl hE
  exact lv_imul X.1 X.2.1 hd (k p l e s m args below meth c g H locs lz X K hb hP hS hl hE)
theorem aw_iand {x y : Int32} (hd : decode M.2.1 pc = .ok (.iand, 1)) (k : AW M R E Z h kc ks (pc + 1) ls (.int (x &&& y) :: st)) : AW M R E Z h kc ks pc ls (.int y :: .int x :: st) := by
  intro p l e s m args below meth c g H locs lz X K hb hP hS hl hE
  exact lv_iand X.1 X.2.1 hd (k p l e s m args below meth c g H locs lz X K hb hP hS hl hE)
theorem aw_ior {x y : Int32} (hd : decode M.2.1 pc = .ok (.ior, 1)) (k : AW M R E Z h kc ks (pc + 1) ls (.int (x ||| y) :: st)) : AW M R E Z h kc ks pc ls (.int y :: .int x :: st) := by
  intro p l e s m args below meth c g H locs lz X K hb hP hS hl hE
  exact lv_ior X.1 X.2.1 hd (k p l e s m args below meth c g H locs lz X K hb hP hS hl hE)
theorem aw_ixor {x y : Int32} (hd : decode M.2.1 pc = .ok (.ixor, 1)) (k : AW M R E Z h kc ks (pc + 1) ls (.int (x ^^^ y) :: st)) : AW M R E Z h kc ks pc ls (.int y :: .int x :: st) := by
  intro p l e s m args below meth c g H locs lz X K hb hP hS hl hE
  exact lv_ixor X.1 X.2.1 hd (k p l e s m args below meth c g H locs lz X K hb hP hS hl hE)
theorem aw_ladd {x y : Int64} (hd : decode M.2.1 pc = .ok (.ladd, 1)) (k : AW M R E Z h kc ks (pc + 1) ls (.long (x + y) :: st)) : AW M R E Z h kc ks pc ls (.long y :: .long x :: st) := by
  intro p l e s m args below meth c g H locs lz X K hb hP hS hl hE
  exact lv_ladd X.1 X.2.1 hd (k p l e s m args below meth c g H locs lz X K hb hP hS hl hE)
theorem aw_lsub {x y : Int64} (hd : decode M.2.1 pc = .ok (.lsub, 1)) (k : AW M R E Z h kc ks (pc + 1) ls (.long (x - y) :: st)) : AW M R E Z h kc ks pc ls (.long y :: .long x :: st) := by
  intro p l e s m args below meth c g H locs lz X K hb hP hS hl hE
  exact lv_lsub X.1 X.2.1 hd (k p l e s m args below meth c g H locs lz X K hb hP hS hl hE)
theorem aw_lmul {x y : Int64} (hd : decode M.2.1 pc = .ok (.lmul, 1)) (k : AW M R E Z h kc ks (pc + 1) ls (.long (x * y) :: st)) : AW M R E Z h kc ks pc ls (.long y :: .long x :: st) := by
  intro p l e s m args below meth c g H locs lz X K hb hP hS hl hE
  exact lv_lmul X.1 X.2.1 hd (k p l e s m args below meth c g H locs lz X K hb hP hS hl hE)
theorem aw_idiv {x y : Int32} (hd : decode M.2.1 pc = .ok (.idiv, 1)) (hy : ¬ y = 0) (k : AW M R E Z h kc ks (pc + 1) ls (.int (x / y) :: st)) : AW M R E Z h kc ks pc ls (.int y :: .int x :: st) := by
  intro p l e s m args below meth c g H locs lz X K hb hP hS hl hE
  exact lv_idiv X.1 X.2.1 hd hy (k p l e s m args below meth c g H locs lz X K hb hP hS hl hE)
theorem aw_irem {x y : Int32} (hd : decode M.2.1 pc = .ok (.irem, 1)) (hy : ¬ y = 0) (k : AW M R E Z h kc ks (pc + 1) ls (.int (x - x / y * y) :: st)) : AW M R E Z h kc ks pc ls (.int y :: .int x :: st) := by
  intro p l e s m args below meth c g H locs lz X K hb hP hS hl hE
  exact lv_irem X.1 X.2.1 hd hy (k p l e s m args below meth c g H locs lz X K hb hP hS hl hE)
theorem aw_ldiv {x y : Int64} (hd : decode M.2.1 pc = .ok (.ldiv, 1)) (hy : ¬ y = 0) (k : AW M R E Z h kc ks (pc + 1) ls (.long (x / y) :: st)) : AW M R E Z h kc ks pc ls (.long y :: .long x :: st) := by
  intro p l e s m args below meth c g H locs lz X K hb hP hS hl hE
  exact lv_ldiv X.1 X.2.1 hd hy (k p l e s m args below meth c g H locs lz X K hb hP hS hl hE)
theorem aw_lrem {x y : Int64} (hd : decode M.2.1 pc = .ok (.lrem, 1)) (hy : ¬ y = 0) (k : AW M R E Z h kc ks (pc + 1) ls (.long (x - x / y * y) :: st)) : AW M R E Z h kc ks pc ls (.long y :: .long x :: st) := by
  intro p l e s m args below meth c g H locs lz X K hb hP hS hl hE
  exact lv_lrem X.1 X.2.1 hd hy (k p l e s m args below meth c g H locs lz X K hb hP hS hl hE)
theorem aw_ishl {x y : Int32} (hd : decode M.2.1 pc = .ok (.ishl, 1)) (k : AW M R E Z h kc ks (pc + 1) ls (.int (x <<< (y &&& 31)) :: st)) : AW M R E Z h kc ks pc ls (.int y :: .int x :: st) := by
  intro p l e s m args below meth c g H locs lz X K hb hP hS hl hE
  exact lv_ishl X.1 X.2.1 hd (k p l e s m args below meth c g H locs lz X K hb hP hS hl hE)
theorem aw_ishr {x y : Int32} (hd : decode M.2.1 pc = .ok (.ishr, 1)) (k : AW M R E Z h kc ks (pc + 1) ls (.int (x >>> (y &&& 31)) :: st)) : AW M R E Z h kc ks pc ls (.int y :: .int x :: st) := by
  intro p l e s m args below meth c g H locs lz X K hb hP hS hl hE
  exact lv_ishr X.1 X.2.1 hd (k p l e s m args below meth c g H locs lz X K hb hP hS hl hE)
theorem aw_iushr {x y : Int32} (hd : decode M.2.1 pc = .ok (.iushr, 1)) (k : AW M R E Z h kc ks (pc + 1) ls (.int ((x.toUInt32 >>> (y.toUInt32 &&& Int32.toUInt32 31)).toInt32) :: st)) : AW M R E Z h kc ks pc ls (.int y :: .int x :: st) := by
  intro p l e s m args below meth c g H locs lz X K hb hP hS hl hE
  exact lv_iushr X.1 X.2.1 hd rfl (k p l e s m args below meth c g H locs lz X K hb hP hS hl hE)
theorem aw_i2l {x : Int32} (hd : decode M.2.1 pc = .ok (.i2l, 1)) (k : AW M R E Z h kc ks (pc + 1) ls (.long x.toInt64 :: st)) : AW M R E Z h kc ks pc ls (.int x :: st) := by
  intro p l e s m args below meth c g H locs lz X K hb hP hS hl hE
  exact lv_i2l X.1 X.2.1 hd rfl (k p l e s m args below meth c g H locs lz X K hb hP hS hl hE)
theorem aw_iconst {z : Int} {v : Int32} (hd : decode M.2.1 pc = .ok (.iconst z, 1)) (hv : Int32.ofInt z = v) (k : AW M R E Z h kc ks (pc + 1) ls (.int v :: st)) : AW M R E Z h kc ks pc ls st := by
  intro p l e s m args below meth c g H locs lz X K hb hP hS hl hE
  exact lv_iconst X.1 X.2.1 hd hv (k p l e s m args below meth c g H locs lz X K hb hP hS hl hE)
theorem aw_bipush {z : Int} {v : Int32} (hd : decode M.2.1 pc = .ok (.bipush z, 2)) (hv : (Int8.ofInt z).toInt32 = v) (k : AW M R E Z h kc ks (pc + 2) ls (.int v :: st)) : AW M R E Z h kc ks pc ls st := by
  intro p l e s m args below meth c g H locs lz X K hb hP hS hl hE
  exact lv_bipush X.1 X.2.1 hd hv (k p l e s m args below meth c g H locs lz X K hb hP hS hl hE)
theorem aw_sipush {z : Int} {v : Int32} (hd : decode M.2.1 pc = .ok (.sipush z, 3)) (hv : (Int16.ofInt z).toInt32 = v) (k : AW M R E Z h kc ks (pc + 3) ls (.int v :: st)) : AW M R E Z h kc ks pc ls st := by
  intro p l e s m args below meth c g H locs lz X K hb hP hS hl hE
  exact lv_sipush X.1 X.2.1 hd hv (k p l e s m args below meth c g H locs lz X K hb hP hS hl hE)
theorem aw_lconst {z : Fin 2} {v : Int64} (hd : decode M.2.1 pc = .ok (.lconst z, 1)) (hv : Int64.ofNat (z : Nat) = v) (k : AW M R E Z h kc ks (pc + 1) ls (.long v :: st)) : AW M R E Z h kc ks pc ls st := by
  intro p l e s m args below meth c g H locs lz X K hb hP hS hl hE
  exact lv_lconst X.1 X.2.1 hd hv (k p l e s m args below meth c g H locs lz X K hb hP hS hl hE)
theorem aw_ldc {z : Nat} {v : Int32} (hd : decode M.2.1 pc = .ok (.ldc z, 2)) (hw : Cond.constant M.1.cls z v ∈ ax_T) (k : AW M R E Z h kc ks (pc + 2) ls (.int v :: st)) : AW M R E Z h kc ks pc ls st := by
  intro p l e s m args below meth c g H locs lz X K hb hP hS hl hE
  exact lv_ldc X.1 X.2.1 X.2.2.2.1 (X.2.2.2.2.1 _ hw) hd (k p l e s m args below meth c g H locs lz X K hb hP hS hl hE)
theorem aw_ldcw {z : Nat} {v : Int32} (hd : decode M.2.1 pc = .ok (.ldc_w z, 3)) (hw : Cond.constant M.1.cls z v ∈ ax_T) (k : AW M R E Z h kc ks (pc + 3) ls (.int v :: st)) : AW M R E Z h kc ks pc ls st := by
  intro p l e s m args below meth c g H locs lz X K hb hP hS hl hE
  exact lv_ldcw X.1 X.2.1 X.2.2.2.1 (X.2.2.2.2.1 _ hw) hd (k p l e s m args below meth c g H locs lz X K hb hP hS hl hE)
theorem aw_ldc2 {z : Nat} {v : Int64} (hd : decode M.2.1 pc = .ok (.ldc2_w z, 3)) (hw : Cond.constantLong M.1.cls z v ∈ ax_T) (k : AW M R E Z h kc ks (pc + 3) ls (.long v :: st)) : AW M R E Z h kc ks pc ls st := by
  intro p l e s m args below meth c g H locs lz X K hb hP hS hl hE
  exact lv_ldc2 X.1 X.2.1 X.2.2.2.1 (X.2.2.2.2.1 _ hw) hd (k p l e s m args below meth c g H locs lz X K hb hP hS hl hE)
theorem aw_iload_n {i : Fin 4} {j : Nat} {x : Int32} (hd : decode M.2.1 pc = .ok (.iload_n i, 1)) (hi : (i : Nat) = j) (hv : lg ls j = some (.int x)) (k : AW M R E Z h kc ks (pc + 1) ls (.int x :: st)) : AW M R E Z h kc ks pc ls st := by
  intro p l e s m args below meth c g H locs lz X K hb hP hS hl hE
  exact lv_iload_n X.1 X.2.1 hd hi (lg_at hl hv) (k p l e s m args below meth c g H locs lz X K hb hP hS hl hE)
theorem aw_iload {j : Nat} {x : Int32} (hd : decode M.2.1 pc = .ok (.iload j, 2)) (hv : lg ls j = some (.int x)) (k : AW M R E Z h kc ks (pc + 2) ls (.int x :: st)) : AW M R E Z h kc ks pc ls st := by
  intro p l e s m args below meth c g H locs lz X K hb hP hS hl hE
  exact lv_iload X.1 X.2.1 hd (lg_at hl hv) (k p l e s m args below meth c g H locs lz X K hb hP hS hl hE)
theorem aw_lload_n {i : Fin 4} {j : Nat} {x : Int64} (hd : decode M.2.1 pc = .ok (.lload_n i, 1)) (hi : (i : Nat) = j) (hv : lg ls j = some (.long x)) (k : AW M R E Z h kc ks (pc + 1) ls (.long x :: st)) : AW M R E Z h kc ks pc ls st := by
  intro p l e s m args below meth c g H locs lz X K hb hP hS hl hE
  exact lv_lload_n X.1 X.2.1 hd hi (lg_at hl hv) (k p l e s m args below meth c g H locs lz X K hb hP hS hl hE)
theorem aw_lload {j : Nat} {x : Int64} (hd : decode M.2.1 pc = .ok (.lload j, 2)) (hv : lg ls j = some (.long x)) (k : AW M R E Z h kc ks (pc + 2) ls (.long x :: st)) : AW M R E Z h kc ks pc ls st := by
  intro p l e s m args below meth c g H locs lz X K hb hP hS hl hE
  exact lv_lload X.1 X.2.1 hd (lg_at hl hv) (k p l e s m args below meth c g H locs lz X K hb hP hS hl hE)
theorem aw_aload_n {i : Fin 4} {j : Nat} {x : Nat} (hd : decode M.2.1 pc = .ok (.aload_n i, 1)) (hi : (i : Nat) = j) (hv : lg ls j = some (.ref x)) (k : AW M R E Z h kc ks (pc + 1) ls (.ref x :: st)) : AW M R E Z h kc ks pc ls st := by
  intro p l e s m args below meth c g H locs lz X K hb hP hS hl hE
  exact lv_aload_n X.1 X.2.1 hd hi (lg_at hl hv) (k p l e s m args below meth c g H locs lz X K hb hP hS hl hE)
theorem aw_aload {j : Nat} {x : Nat} (hd : decode M.2.1 pc = .ok (.aload j, 2)) (hv : lg ls j = some (.ref x)) (k : AW M R E Z h kc ks (pc + 2) ls (.ref x :: st)) : AW M R E Z h kc ks pc ls st := by
  intro p l e s m args below meth c g H locs lz X K hb hP hS hl hE
  exact lv_aload X.1 X.2.1 hd (lg_at hl hv) (k p l e s m args below meth c g H locs lz X K hb hP hS hl hE)
theorem aw_aload_s {i : Fin 4} {j : Nat} {x : UInt32} (hd : decode M.2.1 pc = .ok (.aload_n i, 1)) (hi : (i : Nat) = j) (hv : lg ls j = some (.float x)) (k : AW M R E Z h kc ks (pc + 1) ls (.float x :: st)) : AW M R E Z h kc ks pc ls st := by
  intro p l e s m args below meth c g H locs lz X K hb hP hS hl hE
  exact lv_aload_n X.1 X.2.1 hd hi (lg_at hl hv) (k p l e s m args below meth c g H locs lz X K hb hP hS hl hE)
theorem aw_istore_n {i : Fin 4} {j : Nat} {x : Int32} {ls' : List (Nat × Value)} (hd : decode M.2.1 pc = .ok (.istore_n i, 1)) (hi : (i : Nat) = j) (hn : j < M.2.2.1) (hs : ls1 j (.int x) ls = ls') (k : AW M R E Z h kc ks (pc + 1) ls' st) : AW M R E Z h kc ks pc ls (.int x :: st) := by
  intro p l e s m args below meth c g H locs lz X K hb hP hS hl hE
  exact lv_istore_n X.1 X.2.1 hd hi hl hn rfl (fun lz hl => k p l e s m args below meth c g H locs lz X K hb hP hS (ls1_has hl hs) hE)
theorem aw_istore {j : Nat} {x : Int32} {ls' : List (Nat × Value)} (hd : decode M.2.1 pc = .ok (.istore j, 2)) (hn : j < M.2.2.1) (hs : ls1 j (.int x) ls = ls') (k : AW M R E Z h kc ks (pc + 2) ls' st) : AW M R E Z h kc ks pc ls (.int x :: st) := by
  intro p l e s m args below meth c g H locs lz X K hb hP hS hl hE
  exact lv_istore X.1 X.2.1 hd hl hn rfl (fun lz hl => k p l e s m args below meth c g H locs lz X K hb hP hS (ls1_has hl hs) hE)
theorem aw_astore_n {i : Fin 4} {j : Nat} {x : Nat} {ls' : List (Nat × Value)} (hd : decode M.2.1 pc = .ok (.astore_n i, 1)) (hi : (i : Nat) = j) (hn : j < M.2.2.1) (hs : ls1 j (.ref x) ls = ls') (k : AW M R E Z h kc ks (pc + 1) ls' st) : AW M R E Z h kc ks pc ls (.ref x :: st) := by
  intro p l e s m args below meth c g H locs lz X K hb hP hS hl hE
  exact lv_astore_n X.1 X.2.1 hd hi hl hn rfl (fun lz hl => k p l e s m args below meth c g H locs lz X K hb hP hS (ls1_has hl hs) hE)
theorem aw_astore {j : Nat} {x : Nat} {ls' : List (Nat × Value)} (hd : decode M.2.1 pc = .ok (.astore j, 2)) (hn : j < M.2.2.1) (hs : ls1 j (.ref x) ls = ls') (k : AW M R E Z h kc ks (pc + 2) ls' st) : AW M R E Z h kc ks pc ls (.ref x :: st) := by
  intro p l e s m args below meth c g H locs lz X K hb hP hS hl hE
  exact lv_astore X.1 X.2.1 hd hl hn rfl (fun lz hl => k p l e s m args below meth c g H locs lz X K hb hP hS (ls1_has hl hs) hE)
theorem aw_lstore_n {i : Fin 4} {j : Nat} {x : Int64} {ls' : List (Nat × Value)} (hd : decode M.2.1 pc = .ok (.lstore_n i, 1)) (hi : (i : Nat) = j) (hn : j + 1 < M.2.2.1) (hs : ls2 j (.long x) ls = ls') (k : AW M R E Z h kc ks (pc + 1) ls' st) : AW M R E Z h kc ks pc ls (.long x :: st) := by
  intro p l e s m args below meth c g H locs lz X K hb hP hS hl hE
  exact lv_lstore_n X.1 X.2.1 hd hi hl hn rfl (fun lz hl => k p l e s m args below meth c g H locs lz X K hb hP hS (ls2_has hl hs) hE)
theorem aw_lstore {j : Nat} {x : Int64} {ls' : List (Nat × Value)} (hd : decode M.2.1 pc = .ok (.lstore j, 2)) (hn : j + 1 < M.2.2.1) (hs : ls2 j (.long x) ls = ls') (k : AW M R E Z h kc ks (pc + 2) ls' st) : AW M R E Z h kc ks pc ls (.long x :: st) := by
  intro p l e s m args below meth c g H locs lz X K hb hP hS hl hE
  exact lv_lstore X.1 X.2.1 hd hl hn rfl (fun lz hl => k p l e s m args below meth c g H locs lz X K hb hP hS (ls2_has hl hs) hE)
theorem aw_iinc {j : Nat} {z : Int} {x v : Int32} {ls' : List (Nat × Value)} (hd : decode M.2.1 pc = .ok (.iinc j z, 3)) (hv : lg ls j = some (.int x)) (hx : x + Int32.ofInt z = v) (hn : j < M.2.2.1) (hs : ls1 j (.int v) ls = ls') (k : AW M R E Z h kc ks (pc + 3) ls' st) : AW M R E Z h kc ks pc ls st := by
  intro p l e s m args below meth c g H locs lz X K hb hP hS hl hE
  have hm : (j, Value.int x) ∈ ax_ml g ls := List.mem_map.mpr ⟨(j, .int x), lg_mem hv, rfl⟩
  obtain ⟨i, hi⟩ := List.getElem?_of_mem hm
  exact lv_iinc X.1 X.2.1 hd hl hi hx hn rfl (fun lz hl => k p l e s m args below meth c g H locs lz X K hb hP hS (ls1_has hl hs) hE)
theorem aw_dup {v : Value} (hd : decode M.2.1 pc = .ok (.dup, 1)) (hv : v.category = 1) (k : AW M R E Z h kc ks (pc + 1) ls (v :: v :: st)) : AW M R E Z h kc ks pc ls (v :: st) := by
  intro p l e s m args below meth c g H locs lz X K hb hP hS hl hE
  exact lv_dup X.1 X.2.1 hd ((ax_cat g v).trans hv) (k p l e s m args below meth c g H locs lz X K hb hP hS hl hE)
theorem aw_pop {v : Value} (hd : decode M.2.1 pc = .ok (.pop, 1)) (hv : v.category = 1) (k : AW M R E Z h kc ks (pc + 1) ls st) : AW M R E Z h kc ks pc ls (v :: st) := by
  intro p l e s m args below meth c g H locs lz X K hb hP hS hl hE
  exact lv_pop X.1 X.2.1 hd ((ax_cat g v).trans hv) (k p l e s m args below meth c g H locs lz X K hb hP hS hl hE)
theorem aw_dup2 {v w : Value} (hd : decode M.2.1 pc = .ok (.dup2, 1)) (hv : v.category = 1) (hw : w.category = 1) (k : AW M R E Z h kc ks (pc + 1) ls (v :: w :: v :: w :: st)) : AW M R E Z h kc ks pc ls (v :: w :: st) := by
  intro p l e s m args below meth c g H locs lz X K hb hP hS hl hE
  exact lv_dup2_11 X.1 X.2.1 hd ((ax_cat g v).trans hv) ((ax_cat g w).trans hw) (k p l e s m args below meth c g H locs lz X K hb hP hS hl hE)
theorem aw_icmp_eq {x y : Int32} {off : Int} {tgt : Nat} (hd : decode M.2.1 pc = .ok (.if_icmp .eq off, 3)) (ht : (pc : Int) + off = (tgt : Int)) (kt : x = y → AW M R E Z h kc ks tgt ls st) (kf : ¬ x = y → AW M R E Z h kc ks (pc + 3) ls st) : AW M R E Z h kc ks pc ls (.int y :: .int x :: st) := by
  intro p l e s m args below meth c g H locs lz X K hb hP hS hl hE
  exact lv_icmp_eq X.1 X.2.1 hd ht (fun hc => kt hc p l e s m args below meth c g H locs lz X K hb hP hS hl hE) (fun hc => kf hc p l e s m args below meth c g H locs lz X K hb hP hS hl hE)
theorem aw_if_eq {x : Int32} {off : Int} {tgt : Nat} (hd : decode M.2.1 pc = .ok (.ifCond .eq off, 3)) (ht : (pc : Int) + off = (tgt : Int)) (kt : x = 0 → AW M R E Z h kc ks tgt ls st) (kf : ¬ x = 0 → AW M R E Z h kc ks (pc + 3) ls st) : AW M R E Z h kc ks pc ls (.int x :: st) := by
  intro p l e s m args below meth c g H locs lz X K hb hP hS hl hE
  exact lv_if_eq X.1 X.2.1 hd ht (fun hc => kt hc p l e s m args below meth c g H locs lz X K hb hP hS hl hE) (fun hc => kf hc p l e s m args below meth c g H locs lz X K hb hP hS hl hE)
theorem aw_icmp_ne {x y : Int32} {off : Int} {tgt : Nat} (hd : decode M.2.1 pc = .ok (.if_icmp .ne off, 3)) (ht : (pc : Int) + off = (tgt : Int)) (kt : ¬ x = y → AW M R E Z h kc ks tgt ls st) (kf : x = y → AW M R E Z h kc ks (pc + 3) ls st) : AW M R E Z h kc ks pc ls (.int y :: .int x :: st) := by
  intro p l e s m args below meth c g H locs lz X K hb hP hS hl hE
  exact lv_icmp_ne X.1 X.2.1 hd ht (fun hc => kt hc p l e s m args below meth c g H locs lz X K hb hP hS hl hE) (fun hc => kf hc p l e s m args below meth c g H locs lz X K hb hP hS hl hE)
theorem aw_if_ne {x : Int32} {off : Int} {tgt : Nat} (hd : decode M.2.1 pc = .ok (.ifCond .ne off, 3)) (ht : (pc : Int) + off = (tgt : Int)) (kt : ¬ x = 0 → AW M R E Z h kc ks tgt ls st) (kf : x = 0 → AW M R E Z h kc ks (pc + 3) ls st) : AW M R E Z h kc ks pc ls (.int x :: st) := by
  intro p l e s m args below meth c g H locs lz X K hb hP hS hl hE
  exact lv_if_ne X.1 X.2.1 hd ht (fun hc => kt hc p l e s m args below meth c g H locs lz X K hb hP hS hl hE) (fun hc => kf hc p l e s m args below meth c g H locs lz X K hb hP hS hl hE)
theorem aw_icmp_lt {x y : Int32} {off : Int} {tgt : Nat} (hd : decode M.2.1 pc = .ok (.if_icmp .lt off, 3)) (ht : (pc : Int) + off = (tgt : Int)) (kt : x < y → AW M R E Z h kc ks tgt ls st) (kf : ¬ x < y → AW M R E Z h kc ks (pc + 3) ls st) : AW M R E Z h kc ks pc ls (.int y :: .int x :: st) := by
  intro p l e s m args below meth c g H locs lz X K hb hP hS hl hE
  exact lv_icmp_lt X.1 X.2.1 hd ht (fun hc => kt hc p l e s m args below meth c g H locs lz X K hb hP hS hl hE) (fun hc => kf hc p l e s m args below meth c g H locs lz X K hb hP hS hl hE)
theorem aw_if_lt {x : Int32} {off : Int} {tgt : Nat} (hd : decode M.2.1 pc = .ok (.ifCond .lt off, 3)) (ht : (pc : Int) + off = (tgt : Int)) (kt : x < 0 → AW M R E Z h kc ks tgt ls st) (kf : ¬ x < 0 → AW M R E Z h kc ks (pc + 3) ls st) : AW M R E Z h kc ks pc ls (.int x :: st) := by
  intro p l e s m args below meth c g H locs lz X K hb hP hS hl hE
  exact lv_if_lt X.1 X.2.1 hd ht (fun hc => kt hc p l e s m args below meth c g H locs lz X K hb hP hS hl hE) (fun hc => kf hc p l e s m args below meth c g H locs lz X K hb hP hS hl hE)
theorem aw_icmp_ge {x y : Int32} {off : Int} {tgt : Nat} (hd : decode M.2.1 pc = .ok (.if_icmp .ge off, 3)) (ht : (pc : Int) + off = (tgt : Int)) (kt : y ≤ x → AW M R E Z h kc ks tgt ls st) (kf : ¬ y ≤ x → AW M R E Z h kc ks (pc + 3) ls st) : AW M R E Z h kc ks pc ls (.int y :: .int x :: st) := by
  intro p l e s m args below meth c g H locs lz X K hb hP hS hl hE
  exact lv_icmp_ge X.1 X.2.1 hd ht (fun hc => kt hc p l e s m args below meth c g H locs lz X K hb hP hS hl hE) (fun hc => kf hc p l e s m args below meth c g H locs lz X K hb hP hS hl hE)
theorem aw_if_ge {x : Int32} {off : Int} {tgt : Nat} (hd : decode M.2.1 pc = .ok (.ifCond .ge off, 3)) (ht : (pc : Int) + off = (tgt : Int)) (kt : 0 ≤ x → AW M R E Z h kc ks tgt ls st) (kf : ¬ 0 ≤ x → AW M R E Z h kc ks (pc + 3) ls st) : AW M R E Z h kc ks pc ls (.int x :: st) := by
  intro p l e s m args below meth c g H locs lz X K hb hP hS hl hE
  exact lv_if_ge X.1 X.2.1 hd ht (fun hc => kt hc p l e s m args below meth c g H locs lz X K hb hP hS hl hE) (fun hc => kf hc p l e s m args below meth c g H locs lz X K hb hP hS hl hE)
theorem aw_icmp_gt {x y : Int32} {off : Int} {tgt : Nat} (hd : decode M.2.1 pc = .ok (.if_icmp .gt off, 3)) (ht : (pc : Int) + off = (tgt : Int)) (kt : y < x → AW M R E Z h kc ks tgt ls st) (kf : ¬ y < x → AW M R E Z h kc ks (pc + 3) ls st) : AW M R E Z h kc ks pc ls (.int y :: .int x :: st) := by
  intro p l e s m args below meth c g H locs lz X K hb hP hS hl hE
  exact lv_icmp_gt X.1 X.2.1 hd ht (fun hc => kt hc p l e s m args below meth c g H locs lz X K hb hP hS hl hE) (fun hc => kf hc p l e s m args below meth c g H locs lz X K hb hP hS hl hE)
theorem aw_if_gt {x : Int32} {off : Int} {tgt : Nat} (hd : decode M.2.1 pc = .ok (.ifCond .gt off, 3)) (ht : (pc : Int) + off = (tgt : Int)) (kt : 0 < x → AW M R E Z h kc ks tgt ls st) (kf : ¬ 0 < x → AW M R E Z h kc ks (pc + 3) ls st) : AW M R E Z h kc ks pc ls (.int x :: st) := by
  intro p l e s m args below meth c g H locs lz X K hb hP hS hl hE
  exact lv_if_gt X.1 X.2.1 hd ht (fun hc => kt hc p l e s m args below meth c g H locs lz X K hb hP hS hl hE) (fun hc => kf hc p l e s m args below meth c g H locs lz X K hb hP hS hl hE)
theorem aw_icmp_le {x y : Int32} {off : Int} {tgt : Nat} (hd : decode M.2.1 pc = .ok (.if_icmp .le off, 3)) (ht : (pc : Int) + off = (tgt : Int)) (kt : x ≤ y → AW M R E Z h kc ks tgt ls st) (kf : ¬ x ≤ y → AW M R E Z h kc ks (pc + 3) ls st) : AW M R E Z h kc ks pc ls (.int y :: .int x :: st) := by
  intro p l e s m args below meth c g H locs lz X K hb hP hS hl hE
  exact lv_icmp_le X.1 X.2.1 hd ht (fun hc => kt hc p l e s m args below meth c g H locs lz X K hb hP hS hl hE) (fun hc => kf hc p l e s m args below meth c g H locs lz X K hb hP hS hl hE)
theorem aw_if_le {x : Int32} {off : Int} {tgt : Nat} (hd : decode M.2.1 pc = .ok (.ifCond .le off, 3)) (ht : (pc : Int) + off = (tgt : Int)) (kt : x ≤ 0 → AW M R E Z h kc ks tgt ls st) (kf : ¬ x ≤ 0 → AW M R E Z h kc ks (pc + 3) ls st) : AW M R E Z h kc ks pc ls (.int x :: st) := by
  intro p l e s m args below meth c g H locs lz X K hb hP hS hl hE
  exact lv_if_le X.1 X.2.1 hd ht (fun hc => kt hc p l e s m args below meth c g H locs lz X K hb hP hS hl hE) (fun hc => kf hc p l e s m args below meth c g H locs lz X K hb hP hS hl hE)
theorem aw_goto {off : Int} {tgt : Nat} (hd : decode M.2.1 pc = .ok (.goto off, 3)) (ht : (pc : Int) + off = (tgt : Int)) (k : AW M R E Z h kc ks tgt ls st) : AW M R E Z h kc ks pc ls st := by
  intro p l e s m args below meth c g H locs lz X K hb hP hS hl hE
  exact lv_goto X.1 X.2.1 hd ht (k p l e s m args below meth c g H locs lz X K hb hP hS hl hE)
/-- a truth as the machine has it -/
def b2 (p : Prop) [Decidable p] : Int32 := if p then 1 else 0
theorem b2_1 {p : Prop} [Decidable p] (h : p) : b2 p = 1 := if_pos h
theorem b2_0 {p : Prop} [Decidable p] (h : ¬ p) : b2 p = 0 := if_neg h
theorem b2_e {p : Prop} [Decidable p] : b2 p = 0 ↔ ¬ p := by
  by_cases h : p
  · rw [b2_1 h]; exact ⟨fun q => absurd q (by decide), fun q => absurd h q⟩
  · rw [b2_0 h]; exact ⟨fun _ => h, fun _ => rfl⟩
theorem b2_c {p q : Prop} [Decidable p] [Decidable q] (h : p ↔ q) : b2 p = b2 q := by
  by_cases hp : p
  · rw [b2_1 hp, b2_1 (h.mp hp)]
  · rw [b2_0 hp, b2_0 (fun z => hp (h.mpr z))]
theorem aw_bz {p : Prop} [Decidable p] {off : Int} {tgt : Nat} (hd : decode M.2.1 pc = .ok (.ifCond .eq off, 3)) (ht : (pc : Int) + off = (tgt : Int)) (kt : ¬ p → AW M R E Z h kc ks tgt ls st) (kf : p → AW M R E Z h kc ks (pc + 3) ls st) : AW M R E Z h kc ks pc ls (.int (b2 p) :: st) :=
  aw_if_eq hd ht (fun q => kt (b2_e.mp q)) (fun q => kf (Decidable.not_not.mp (fun z => q (b2_e.mpr z))))
theorem aw_bn {p : Prop} [Decidable p] {off : Int} {tgt : Nat} (hd : decode M.2.1 pc = .ok (.ifCond .ne off, 3)) (ht : (pc : Int) + off = (tgt : Int)) (kt : p → AW M R E Z h kc ks tgt ls st) (kf : ¬ p → AW M R E Z h kc ks (pc + 3) ls st) : AW M R E Z h kc ks pc ls (.int (b2 p) :: st) :=
  aw_if_ne hd ht (fun q => kt (Decidable.not_not.mp (fun z => q (b2_e.mpr z)))) (fun q => kf (b2_e.mp q))
end ROWS
