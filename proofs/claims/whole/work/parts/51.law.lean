/-! THE CLAIM OUT OF ONE WALK OF THE LAW'S BODY. Your part is whole_start (and what it stands on); all else here is the same for every law, but numbers. -/
def R_law : String := "DoorVoiceLaw"
def lw_P (b : Addr) (xs : List Int32) (args : Array Value) (s : State) : Prop := args = #[.ref b] ∧ s.IntsAt b xs ∧ xs.length ≤ 3072 ∧ (Jvm.Cond.and given_1 narrow_1).before args s = true
def lw_Q (_ : Array Value) (s : State) (o : Outcome) (t : State) : Prop := o = .returned (some (.int 1)) ∧ Framed s o t [] 48 730
def lw_Z (below : List Frame) (a : Array Value) (s : State) : State → Prop := fun t => ∃ o, t.status = .running ∧ Ended t below o ∧ lw_Q a s o t
/-- the law's own end, with 1 on the stack, nothing written that was there before, its room as the claim has it -/
theorem lw_ret {p : Program} {l : Launch} {e : Env} {s : State} {m : MethodId} {below : List Frame} {meth : Method} {c : Code} {b : Nat} (hx : p.tables.exec = Jvm.exec) (hb : c.code = code) (hr : meth.sig.returnType = ret) (hlocks : meth.locks = false) {pc : Nat} {H : Heap} {ls : Array Slot} (hdg : decode code pc = .ok (.ireturn, 1)) : W p l e room_1 s m #[Value.ref b] below meth c H [] 48 730 (lw_Z below #[Value.ref b] s) (F0 m pc ls [.int 1]) := by
  intro T hT X
  obtain ⟨fs, hret, hrun, hended, hW, hframe⟩ := X.leave (v := some (.int 1)) (hlocks := hlocks) (fun h => by rw [hr] at h; cases h)
  have hmeth' : T.vm.method? m = some meth := X.method'
  refine ⟨T.setFrames fs, ?_, .returned (some (.int 1)), hrun, hended, rfl, ⟨_, rfl⟩, hW, hframe⟩
  jvm_step X.here [X.here.top, hx, hb, hdg, hmeth', hr, ret, narrow_b1]
  (try refine ⟨rfl, ?_⟩); (try refine ⟨rfl, ?_⟩)
  first | (intro acts; rw [hret _ acts rfl rfl rfl]) | rw [hret _ _ rfl rfl rfl]
  exact Steps.refl _
/-- what holds at the law's entry: the machine, the code, the tables' words (any of lw_tbl by 'hts w (by decide +kernel)'), the script of L ints xs at the cell b, what the Statement gives of the start (any of its parts by flat_of_before) -/
def lw_At (p : Program) (s : State) (m : MethodId) (meth : Method) (c : Code) (b L : Nat) (xs : Nat → Int32) : Prop :=
  p.tables.exec = Jvm.exec ∧ c.code = code ∧ meth.sig.returnType = ret ∧ c.maxLocals = 4 ∧ s.vm.findClass R_law = some m.cls ∧ (∀ w ∈ lw_tbl, w.before #[Value.ref b] s = true) ∧ va_X b L xs s s.heap ∧ b < s.heap.size ∧ meth.locks = false ∧ (Jvm.Cond.and given_1 narrow_1).before #[Value.ref b] s = true
/-- the law's end, whatever it was called with -/
theorem lw_retA {p : Program} {l : Launch} {e : Env} {s : State} {m : MethodId} {args : Array Value} {below : List Frame} {meth : Method} {c : Code} (hx : p.tables.exec = Jvm.exec) (hb : c.code = code) (hr : meth.sig.returnType = ret) (hlocks : meth.locks = false) {pc : Nat} {H : Heap} {ls : Array Slot} (hdg : decode code pc = .ok (.ireturn, 1)) : W p l e room_1 s m args below meth c H [] 48 730 (lw_Z below args s) (F0 m pc ls [.int 1]) := by
  intro T hT X
  obtain ⟨fs, hret, hrun, hended, hW, hframe⟩ := X.leave (v := some (.int 1)) (hlocks := hlocks) (fun h => by rw [hr] at h; cases h)
  have hmeth' : T.vm.method? m = some meth := X.method'
  refine ⟨T.setFrames fs, ?_, .returned (some (.int 1)), hrun, hended, rfl, ⟨_, rfl⟩, hW, hframe⟩
  jvm_step X.here [X.here.top, hx, hb, hdg, hmeth', hr, ret, narrow_b1]
  (try refine ⟨rfl, ?_⟩); (try refine ⟨rfl, ?_⟩)
  first | (intro acts; rw [hret _ acts rfl rfl rfl]) | rw [hret _ _ rfl rfl rfl]
  exact Steps.refl _
abbrev lwZ : ax_Zt := fun _ below args s => lw_Z below args s
theorem lw_end {L : Nat} {xs : Nat → Int32} {h : ax_H} {ls : List (Nat × Value)} : AW m_W_law room_1 (lwE L xs) lwZ h 48 730 983 ls [.int 1] := by
  intro p l e s m args below meth c g H locs lz X K hb hP hS hl hE
  refine va_forget (fun q hq => ?_) ?_
  · have h1 : g.1 ≤ q.base := hS.2.2 q hq
    rw [← hE.2.2]; exact h1
  · exact lw_retA X.1 X.2.1 X.2.2.2.2.2.1 X.2.2.2.2.2.2.1 d_W_law_983
theorem sub6 {L i : Nat} (hL : L ≤ 3072) (hi : i ≤ L) (h : ¬ i + 6 ≤ L) : nI L - 6 < nI i := by
  rw [fa_lt, show (nI L - 6).toInt = (L : Int) - 6 from pk_sub_toInt (b := 6) (by omega) (by omega), zI_nI, fb_ofI (by omega) (by omega)]
  omega
set_option maxHeartbeats 4000000 in
set_option maxRecDepth 20000 in
theorem lw_loop {L : Nat} {xs : Nat → Int32} {u : UInt32} (hL : L ≤ 3072) : ∀ (n i : Nat) (A : Nat → List Int32) (I : Nat → Nat → Int32) (J : Nat → List Int64) (U : Nat → Nat → Int64) (T : town) (np : Nat) (PD : Nat → Nat) (km : Nat) (TI : Nat → town), i ≤ L → L < i + n → ci T np PD km TI A I J → mi T np PD km TI A I J → AW m_W_law room_1 (lwE L xs) lwZ (HH A I J U) 48 730 18 (lwL u i) [] := by
  intro n
  induction n with
  | zero => intro i A I J U T np PD km TI h1 h2; omega
  | succ n ih =>
    intro i A I J U T np PD km TI h1 h2 hc hm
    refine aw_iload_n (pc := 18) d_W_law_18 rfl rfl ?_
    refine aw_aload_s (pc := 19) d_W_law_19 rfl rfl ?_
    refine aw_slen (pc := 20) d_W_law_20 (fun _ _ h => h) ?_
    refine aw_bipush (pc := 21) (v := 6) d_W_law_21 (by decide) ?_
    refine aw_isub (pc := 23) d_W_law_23 ?_
    by_cases hi : i + 6 ≤ L
    · refine aw_icmp_gt (pc := 24) (tgt := 982) d_W_law_24 (by decide) (fun hh => absurd hh ?_) (fun _ => ?_)
      · rw [show nI L - 6 = nI (L - 6) from pk_sub (b := 6) (by omega)]
        intro z
        exact absurd ((nI_ltI (by omega) (by omega)).mp z) (by omega)
      · have nx : lwN L xs lwZ u i := by
          intro A I J U T np PD km TI hc hm
          refine aw_iinc (pc := 976) (v := nI (i + 6)) (ls' := lwL u (i + 6)) d_W_law_976 rfl (nI_add i 6) (by decide) rfl ?_
          refine aw_goto (pc := 979) (tgt := 18) d_W_law_979 (by decide) ?_
          exact ih (i + 6) A I J U T np PD km TI hi (by omega) hc hm
        refine aw_aload_s (pc := 27) d_W_law_27 rfl rfl ?_
        refine aw_iload_n (pc := 28) d_W_law_28 rfl rfl ?_
        refine aw_sld (pc := 29) (j := i) d_W_law_29 (fun _ _ h => h) rfl (by omega) (by omega) ?_
        refine aw_bipush (pc := 30) (v := 31) d_W_law_30 (by decide) ?_
        refine aw_iand (pc := 32) d_W_law_32 ?_
        obtain ⟨j, hj, e⟩ := pk_andE (xs i) (m := 31) 5 (by decide)
        refine aw_top e ?_
        rcases (show j = 0 ∨ j = 1 ∨ j = 2 ∨ j = 3 ∨ j = 4 ∨ j = 5 ∨ j = 6 ∨ j = 7 ∨ j = 8 ∨ j = 9 ∨ j = 10 ∨ j = 11 ∨ j = 12 ∨ j = 13 ∨ j = 14 ∨ j = 15 ∨ j = 16 ∨ j = 17 ∨ j = 18 ∨ j = 19 ∨ j = 20 ∨ j = 21 ∨ j = 22 ∨ j = 23 ∨ j = 24 ∨ j = 25 ∨ j = 26 ∨ 27 ≤ j by omega) with rfl | rfl | rfl | rfl | rfl | rfl | rfl | rfl | rfl | rfl | rfl | rfl | rfl | rfl | rfl | rfl | rfl | rfl | rfl | rfl | rfl | rfl | rfl | rfl | rfl | rfl | rfl | h27
        · refine aw_swIn (pc := 33) (tgt := 156) d_W_law_33 (by decide) (by decide) rfl (by decide) ?_
          exact lw_house hi hL hc hm nx
        · refine aw_swIn (pc := 33) (tgt := 241) d_W_law_33 (by decide) (by decide) rfl (by decide) ?_
          exact lw_wall hi hL hc hm nx
        · refine aw_swIn (pc := 33) (tgt := 274) d_W_law_33 (by decide) (by decide) rfl (by decide) ?_
          exact lw_set hi hL hc hm nx
        · refine aw_swIn (pc := 33) (tgt := 307) d_W_law_33 (by decide) (by decide) rfl (by decide) ?_
          exact lw_letter hi hL hc hm nx
        · refine aw_swIn (pc := 33) (tgt := 370) d_W_law_33 (by decide) (by decide) rfl (by decide) ?_
          exact lw_say hi hL hc hm nx
        · refine aw_swIn (pc := 33) (tgt := 393) d_W_law_33 (by decide) (by decide) rfl (by decide) ?_
          exact lw_wipe hi hL hc hm nx
        · refine aw_swIn (pc := 33) (tgt := 406) d_W_law_33 (by decide) (by decide) rfl (by decide) ?_
          exact lw_fault hi hL hc hm nx
        · refine aw_swIn (pc := 33) (tgt := 419) d_W_law_33 (by decide) (by decide) rfl (by decide) ?_
          exact lw_judge hi hL hc hm nx
        · refine aw_swIn (pc := 33) (tgt := 442) d_W_law_33 (by decide) (by decide) rfl (by decide) ?_
          exact lw_done hi hL hc hm nx
        · refine aw_swIn (pc := 33) (tgt := 455) d_W_law_33 (by decide) (by decide) rfl (by decide) ?_
          exact lw_knows hi hL hc hm nx
        · refine aw_swIn (pc := 33) (tgt := 478) d_W_law_33 (by decide) (by decide) rfl (by decide) ?_
          exact lw_behind hi hL hc hm nx
        · refine aw_swIn (pc := 33) (tgt := 501) d_W_law_33 (by decide) (by decide) rfl (by decide) ?_
          exact lw_who hi hL hc hm nx
        · refine aw_swIn (pc := 33) (tgt := 524) d_W_law_33 (by decide) (by decide) rfl (by decide) ?_
          exact lw_loud hi hL hc hm nx
        · refine aw_swIn (pc := 33) (tgt := 557) d_W_law_33 (by decide) (by decide) rfl (by decide) ?_
          exact lw_hears hi hL hc hm nx
        · refine aw_swIn (pc := 33) (tgt := 580) d_W_law_33 (by decide) (by decide) rfl (by decide) ?_
          exact lw_best hi hL hc hm nx
        · refine aw_swIn (pc := 33) (tgt := 613) d_W_law_33 (by decide) (by decide) rfl (by decide) ?_
          exact lw_thirds hi hL hc hm nx
        · refine aw_swIn (pc := 33) (tgt := 646) d_W_law_33 (by decide) (by decide) rfl (by decide) ?_
          exact lw_round hi hL hc hm nx
        · refine aw_swIn (pc := 33) (tgt := 679) d_W_law_33 (by decide) (by decide) rfl (by decide) ?_
          exact lw_seen hi hL hc hm nx
        · refine aw_swIn (pc := 33) (tgt := 728) d_W_law_33 (by decide) (by decide) rfl (by decide) ?_
          exact lw_forget hi hL hc hm nx
        · refine aw_swIn (pc := 33) (tgt := 741) d_W_law_33 (by decide) (by decide) rfl (by decide) ?_
          exact lw_at hi hL hc hm nx
        · refine aw_swIn (pc := 33) (tgt := 754) d_W_law_33 (by decide) (by decide) rfl (by decide) ?_
          exact lw_ask hi hL hc hm nx
        · refine aw_swIn (pc := 33) (tgt := 777) d_W_law_33 (by decide) (by decide) rfl (by decide) ?_
          exact lw_rumour hi hL hc hm nx
        · refine aw_swIn (pc := 33) (tgt := 810) d_W_law_33 (by decide) (by decide) rfl (by decide) ?_
          exact lw_chance hi hL hc hm nx
        · refine aw_swIn (pc := 33) (tgt := 864) d_W_law_33 (by decide) (by decide) rfl (by decide) ?_
          exact lw_year hi hL hc hm nx
        · refine aw_swIn (pc := 33) (tgt := 907) d_W_law_33 (by decide) (by decide) rfl (by decide) ?_
          exact lw_image hi hL hc hm nx
        · refine aw_swIn (pc := 33) (tgt := 930) d_W_law_33 (by decide) (by decide) rfl (by decide) ?_
          exact lw_restore hi hL hc hm nx
        · refine aw_swIn (pc := 33) (tgt := 953) d_W_law_33 (by decide) (by decide) rfl (by decide) ?_
          exact lw_told hi hL hc hm nx
        · refine aw_swOut (pc := 33) (tgt := 976) d_W_law_33 (Or.inr (by rw [zI_nI, fb_ofI (by omega) (by omega)]; omega)) (by decide) ?_
          exact nx A I J U T np PD km TI hc hm
    · refine aw_icmp_gt (pc := 24) (tgt := 982) d_W_law_24 (by decide) (fun _ => ?_) (fun hh => absurd (sub6 hL h1 hi) hh)
      refine aw_iconst (pc := 982) (v := 1) d_W_law_982 (by decide) ?_
      exact lw_end
set_option maxHeartbeats 4000000 in
set_option maxRecDepth 20000 in
theorem lw_body {L : Nat} {xs : Nat → Int32} {u : UInt32} (hL : L ≤ 3072) : AW m_W_law room_1 (lwE L xs) lwZ [] 0 0 0 [(0, .float u)] [] := by
  refine aw_new (pc := 0) (fs := [.null, .null, .null, .null, .null, .null, .null, .int 0]) d_W_law_0 cl_4 lk_W_7 wt_V wn_V df_4 (fun g => rfl) ⟨by decide, by decide⟩ ?_
  refine aw_dup (pc := 3) d_W_law_3 rfl ?_
  refine aw_callI (pc := 4) (as := []) (rest := [.ref 0]) (k := 0) c_V_init ok_V_init d_W_law_4 lm_W_9 rfl rfl ⟨by decide, by decide⟩ (Nat.le_of_ble_eq_true rfl) ⟨by decide, by decide⟩ (fun r h' hq => ?_)
  obtain ⟨rfl, rfl⟩ := hq
  refine aw_astore_n (pc := 7) (ls' := [(0, _), (1, _)]) d_W_law_7 rfl (by decide) rfl ?_
  refine aw_new (pc := 8) (fs := [.null, .null, .int 0, .null, .int 0, .int 0, .null, .int 0, .null, .int 0, .null, .null, .int 0, .int 0, .int 0, .int 0, .null, .null, .null, .null]) d_W_law_8 cl_5 lk_W_10 wt_M wn_M df_5 (fun g => rfl) ⟨by decide, by decide⟩ ?_
  refine aw_dup (pc := 11) d_W_law_11 rfl ?_
  refine aw_callI (pc := 12) (as := []) (rest := [.ref 36]) (k := 36) (c_M_init (h0 := wV) (b := 36) rfl) ok_M_init d_W_law_12 lm_W_12 rfl rfl ⟨by decide, by decide⟩ (Nat.le_of_ble_eq_true rfl) ⟨by decide, by decide⟩ (fun r h' hq => ?_)
  obtain ⟨rfl, rfl⟩ := hq
  refine aw_eq (h' := HH A0 I0 J0 U0) (st' := [.ref 36]) ?_ rfl rfl rfl
  refine aw_astore_n (pc := 15) (ls' := [(0, _), (1, _), (2, _)]) d_W_law_15 rfl (by decide) rfl ?_
  refine aw_iconst (pc := 16) (v := 0) d_W_law_16 (by decide) ?_
  refine aw_istore_n (pc := 17) (ls' := lwL u 0) d_W_law_17 rfl (by decide) rfl ?_
  exact lw_loop hL (L + 1) 0 A0 I0 J0 U0 tw0 0 (fun _ => 0) 0 (fun _ => tw0) (Nat.zero_le L) (by omega) ci_0 mi_0
