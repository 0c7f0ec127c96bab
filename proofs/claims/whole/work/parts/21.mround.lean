/-! round, at, ask: the reference -/
section MROUND
variable {A : Nat → List Int32} {I : Nat → Nat → Int32} {J : Nat → List Int64} {U : Nat → Nat → Int64} {T : town}
theorem all1_iff {T : town} {ls w e : Nat} : all1 T ls w e = true ↔ ∀ l, l < 6 → one1 T ls w e l = true := ⟨fun h l hl => Decidable.not_not.mp (fun z => all1_f hl z h), all1_t⟩
theorem one1_iff {T : town} {ls w e l : Nat} : one1 T ls w e l = true ↔ (¬ ls.testBit l = true ∨ ∃ a, w ≤ a ∧ a < e + 1 ∧ (hs T a).testBit (T 2 l) = true) := by
  unfold one1
  rw [Bool.or_eq_true, any_w (p := fun a => (hs T a).testBit (T 2 l))]
  constructor
  · rintro (h | ⟨a, h1, h2, h3⟩)
    · exact Or.inl (by simpa using h)
    · exact Or.inr ⟨a, h1, by omega, h3⟩
  · rintro (h | ⟨a, h1, h2, h3⟩)
    · exact Or.inl (by simpa using h)
    · exact Or.inr ⟨a, h1, by omega, h3⟩
set_option maxHeartbeats 1000000 in
set_option maxRecDepth 20000 in
theorem c_M_round (hT : okT T) (hE : enM A I T) {f : Nat → Nat} (h44 : A 44 = lst 12 f) (ls w : Int32) : AM m_M_round r_M_round (HH A I J U) [.ref 36, .int ls, .int w] (pM A I J U (aRound T ls w)) := by
  refine am_of (by decide) rfl (by first | decide | exact Nat.le_of_ble_eq_true rfl) ?_
  have hpl := hT.2.2.2.2.2.2.2.2.1
  refine aw_iload_n (pc := 0) d_M_round_0 rfl rfl ?_
  refine aw_iconst (pc := 1) (v := 0) d_M_round_1 (by decide) ?_
  refine aw_bipush (pc := 2) (v := 63) d_M_round_2 (by decide) ?_
  refine aw_callS1 (pc := 4) (c_M_in _ _ _ _) ok_M_in d_M_round_4 lm_M_52 rfl rfl ⟨by decide, by decide⟩ (Nat.le_of_ble_eq_true rfl) rfl rfl ⟨by decide, by decide⟩ ?_
  refine aw_bn (pc := 7) (tgt := 12) d_M_round_7 (by decide) (fun h7 => ?_) (fun h7 => ?_)
  · refine aw_iload_n (pc := 12) d_M_round_12 rfl rfl ?_
    refine aw_iconst (pc := 13) (v := 0) d_M_round_13 (by decide) ?_
    refine aw_iconst (pc := 14) (v := 1) d_M_round_14 (by decide) ?_
    refine aw_callS1 (pc := 15) (c_M_in _ _ _ _) ok_M_in d_M_round_15 lm_M_52 rfl rfl ⟨by decide, by decide⟩ (Nat.le_of_ble_eq_true rfl) rfl rfl ⟨by decide, by decide⟩ ?_
    refine aw_bn (pc := 18) (tgt := 24) d_M_round_18 (by decide) (fun h18 => ?_) (fun h18 => ?_)
    · obtain ⟨ls, hl, rfl⟩ := rng 63 (by omega) h7
      obtain ⟨w, hw, rfl⟩ := rng 1 (by omega) h18
      have ea : aRound T (nI ls) (nI w) = if w = 0 then fO (rd3 T ls) else wO (rd3 T ls) := by
        unfold aRound
        rw [if_neg (fun z => z h7), if_neg (fun z => z h18), nI_clamp (by omega)]
        by_cases e : w = 0
        · rw [if_pos e, if_pos (by rw [e]; rfl)]
        · rw [if_neg e, if_neg (fun z => e ((nI_e0 (by omega)).mp z))]
      refine aw_aload_n (pc := 24) d_M_round_24 rfl rfl ?_
      refine aw_callV0 (pc := 25) (c_M_laySets hT hE h44) ok_M_laySets d_M_round_25 lm_M_123 hg_36 rfl rfl ⟨by decide, by decide⟩ (Nat.le_of_ble_eq_true rfl) rfl rfl ⟨by decide, by decide⟩ ?_
      refine aw_aload_n (pc := 28) d_M_round_28 rfl rfl ?_
      refine aw_get (pc := 29) d_M_round_29 lf_M_7 hg_36 rfl ?_
      refine aw_bipush (pc := 32) (v := 12) d_M_round_32 (by decide) ?_
      refine aw_ildN (pc := 34) (j := 12) d_M_round_34 hg_37 hE.1.1 rfl (by omega) (by decide) ?_
      rw [bk_12]
      refine aw_istore_n (pc := 35) (ls' := [(0, _), (1, _), (2, _), (3, _)]) d_M_round_35 rfl (by decide) rfl ?_
      refine aw_ldc (pc := 36) d_M_round_36 lc_M_119 ?_
      refine aw_istore (pc := 38) (ls' := [(0, _), (1, _), (2, _), (3, _), (4, _)]) d_M_round_38 (by decide) rfl ?_
      refine aw_bipush (pc := 40) (v := (-6)) d_M_round_40 (by decide) ?_
      refine aw_istore (pc := 42) (ls' := [(0, _), (1, _), (2, _), (3, _), (4, _), (5, _)]) d_M_round_42 (by decide) rfl ?_
      refine aw_iconst (pc := 44) (v := 0) d_M_round_44 (by decide) ?_
      refine aw_istore (pc := 45) (ls' := [(0, _), (1, _), (2, _), (3, _), (4, _), (5, _), (6, _)]) d_M_round_45 (by decide) rfl ?_
      refine lp_i (fun i (x : Option (Nat × Nat)) => AW m_M_round r_M_round ax_E0 (ax_Zm (pM A I J U (aRound T (nI ls) (nI w))) 0 0) (HH (u1 A 44 (lst 12 (hs T))) I J U) 0 0 47 [(0, .ref 36), (1, .int (nI ls)), (2, .int (nI w)), (3, .int (nI (T 6 5))), (4, .int (nI (fD 1000000 x))), (5, .int (wO x)), (6, .int (nI i))] []) (fun i x => rd3 T ls = fd (rd2 T ls) (T 6 5 + 1 - i) i x ∧ ∀ q, x = some q → q.1 < 100 ∧ q.2 < 100) (T 6 5 + 1) ?_ ?_ (T 6 5 + 1) 0 none (by omega) ⟨rfl, fun q z => by cases z⟩
      · rintro x ⟨hV, hx⟩
        rw [fd_0] at hV
        refine aw_iload (pc := 47) d_M_round_47 rfl ?_
        refine aw_iload_n (pc := 49) d_M_round_49 rfl rfl ?_
        refine awn_gt (pc := 50) (tgt := 259) (T 6 5 + 1) (T 6 5) d_M_round_50 (by decide) rfl rfl (by omega) (by omega) (fun _ => ?_) (fun hh => absurd hh (by omega))
        refine aw_iload (pc := 259) d_M_round_259 rfl ?_
        refine aw_if_lt (pc := 261) (tgt := 269) d_M_round_261 (by decide) (fun h261 => ?_) (fun h261 => ?_)
        · have h261 := (wO_neg (fun q hq => by have := hx q hq; omega)).mp h261
          refine aw_iload (pc := 269) d_M_round_269 rfl ?_
          refine aw_goto (pc := 271) (tgt := 276) d_M_round_271 (by decide) ?_
          refine aw_iret (pc := 276) d_M_round_276 rfl ?_
          exact ⟨by rw [ea, hV, h261]; split <;> rfl, hs T, rfl⟩
        · have h261 : ¬ x = none := fun z => h261 (by rw [z]; decide)
          refine aw_iload_n (pc := 264) d_M_round_264 rfl rfl ?_
          refine aw_iconst (pc := 265) (v := 1) d_M_round_265 (by decide) ?_
          refine awn_ne (pc := 266) (tgt := 274) (w) (1) d_M_round_266 (by decide) rfl rfl (by omega) (by omega) (fun h266 => ?_) (fun h266 => ?_)
          · refine aw_iload (pc := 274) d_M_round_274 rfl ?_
            refine aw_iret (pc := 276) d_M_round_276 rfl ?_
            refine ⟨?_, hs T, rfl⟩
            rw [ea, if_pos (by omega), hV]
            cases x with
            | none => exact absurd rfl h261
            | some q => rfl
          · refine aw_iload (pc := 269) d_M_round_269 rfl ?_
            refine aw_goto (pc := 271) (tgt := 276) d_M_round_271 (by decide) ?_
            refine aw_iret (pc := 276) d_M_round_276 rfl ?_
            exact ⟨by rw [ea, if_neg (by omega), hV], hs T, rfl⟩
      · rintro i x hi ⟨hV, hx⟩ ih
        rw [fd_s _ hi] at hV
        refine aw_iload (pc := 47) d_M_round_47 rfl ?_
        refine aw_iload_n (pc := 49) d_M_round_49 rfl rfl ?_
        refine awn_gt (pc := 50) (tgt := 259) (i) (T 6 5) d_M_round_50 (by decide) rfl rfl (by omega) (by omega) (fun hh => absurd hh (by omega)) (fun _ => ?_)
        refine aw_iload_n (pc := 53) d_M_round_53 rfl rfl ?_
        refine aw_istore (pc := 54) (ls' := [(0, _), (1, _), (2, _), (3, _), (4, _), (5, _), (6, _), (7, _)]) d_M_round_54 (by decide) rfl ?_
        refine lp_i (fun e (y : Option (Nat × Nat)) => AW m_M_round r_M_round ax_E0 (ax_Zm (pM A I J U (aRound T (nI ls) (nI w))) 0 0) (HH (u1 A 44 (lst 12 (hs T))) I J U) 0 0 56 [(0, .ref 36), (1, .int (nI ls)), (2, .int (nI w)), (3, .int (nI (T 6 5))), (4, .int (nI (fD 1000000 y))), (5, .int (wO y)), (6, .int (nI i)), (7, .int (nI e))] []) (fun e y => T 6 5 ≤ e ∧ rd3 T ls = fd (rd2 T ls) (T 6 5 + 1 - (i + 1)) (i + 1) (fd (rd1 T ls i) (12 - e) e y) ∧ ∀ q, y = some q → q.1 < 100 ∧ q.2 < 100) 12 ?_ ?_ (12 - T 6 5) (T 6 5) x (by omega) ⟨Nat.le_refl _, hV, hx⟩
        · rintro y ⟨-, hV2, hy⟩
          rw [fd_0] at hV2
          refine aw_iload (pc := 56) d_M_round_56 rfl ?_
          refine aw_bipush (pc := 58) (v := 12) d_M_round_58 (by decide) ?_
          refine awn_ge (pc := 60) (tgt := 253) (12) (12) d_M_round_60 (by decide) rfl rfl (by omega) (by omega) (fun _ => ?_) (fun hh => absurd hh (by omega))
          refine aw_incN (pc := 253) (ls' := [(0, _), (1, _), (2, _), (3, _), (4, _), (5, _), (6, _), (7, _)]) (i := i) d_M_round_253 rfl rfl (by decide) rfl ?_
          refine aw_goto (pc := 256) (tgt := 47) d_M_round_256 (by decide) ?_
          refine aw_sub (ls' := [(0, _), (1, _), (2, _), (3, _), (4, _), (5, _), (6, _)]) [0, 1, 2, 3, 4, 5, 6] rfl ?_
          exact ih y ⟨hV2, hy⟩
        · rintro e y he ⟨hpe, hV2, hy⟩ ih2
          rw [fd_s _ he] at hV2
          have hst := stp_lt hpl (show i < 12 by omega) he
          have hfd : fD 1000000 y ≤ 1000000 := by
            cases hq : y with
            | none => exact Nat.le_refl _
            | some q => have := hy q hq; show q.2 ≤ 1000000; omega
          -- all letters looked at
          have keep : y = rd1 T ls i e y → ∀ x8 x9 : Int32, AW m_M_round r_M_round ax_E0 (ax_Zm (pM A I J U (aRound T (nI ls) (nI w))) 0 0) (HH (u1 A 44 (lst 12 (hs T))) I J U) 0 0 216 [(0, .ref 36), (1, .int (nI ls)), (2, .int (nI w)), (3, .int (nI (T 6 5))), (4, .int (nI (fD 1000000 y))), (5, .int (wO y)), (6, .int (nI i)), (7, .int (nI e)), (8, .int x8), (9, .int x9), (10, .int (nI (stp (T 6 5) i e)))] [] := by
            intro hr x8 x9
            refine aw_iconst (pc := 216) (v := 0) d_M_round_216 (by decide) ?_
            refine aw_istore (pc := 217) (ls' := [(0, _), (1, _), (2, _), (3, _), (4, _), (5, _), (6, _), (7, _), (8, _), (9, _), (10, _), (11, _)]) d_M_round_217 (by decide) rfl ?_
            refine aw_iload (pc := 219) d_M_round_219 rfl ?_
            refine aw_if_eq (pc := 221) (tgt := 229) d_M_round_221 (by decide) (fun _ => ?_) (fun hh => absurd rfl hh)
            refine aw_iload (pc := 229) d_M_round_229 rfl ?_
            refine aw_istore (pc := 231) (ls' := [(0, _), (1, _), (2, _), (3, _), (4, _), (5, _), (6, _), (7, _), (8, _), (9, _), (10, _), (11, _)]) d_M_round_231 (by decide) rfl ?_
            refine aw_iload (pc := 233) d_M_round_233 rfl ?_
            refine aw_if_eq (pc := 235) (tgt := 243) d_M_round_235 (by decide) (fun _ => ?_) (fun hh => absurd rfl hh)
            refine aw_iload (pc := 243) d_M_round_243 rfl ?_
            refine aw_istore (pc := 245) (ls' := [(0, _), (1, _), (2, _), (3, _), (4, _), (5, _), (6, _), (7, _), (8, _), (9, _), (10, _), (11, _)]) d_M_round_245 (by decide) rfl ?_
            refine aw_incN (pc := 247) (ls' := [(0, _), (1, _), (2, _), (3, _), (4, _), (5, _), (6, _), (7, _), (8, _), (9, _), (10, _), (11, _)]) (i := e) d_M_round_247 rfl rfl (by decide) rfl ?_
            refine aw_goto (pc := 250) (tgt := 56) d_M_round_250 (by decide) ?_
            refine aw_sub (ls' := [(0, _), (1, _), (2, _), (3, _), (4, _), (5, _), (6, _), (7, _)]) [0, 1, 2, 3, 4, 5, 6, 7] rfl ?_
            exact ih2 y ⟨by omega, by rw [← hr] at hV2; exact hV2, hy⟩
          have behind : ∀ (q : Bool), (q = true ↔ all1 T ls i e = true) → AW m_M_round r_M_round ax_E0 (ax_Zm (pM A I J U (aRound T (nI ls) (nI w))) 0 0) (HH (u1 A 44 (lst 12 (hs T))) I J U) 0 0 166 [(0, .ref 36), (1, .int (nI ls)), (2, .int (nI w)), (3, .int (nI (T 6 5))), (4, .int (nI (fD 1000000 y))), (5, .int (wO y)), (6, .int (nI i)), (7, .int (nI e)), (8, .int (b2 (q = true))), (9, .int (nI 6))] [] := by
            intro q hq
            have e1 : nI (T 6 5) - nI i = nI (T 6 5 - i) := pk_sub (by omega)
            have e2 : nI e - nI (T 6 5) = nI (e - T 6 5) := pk_sub hpe
            have e3 : nI e - nI i = nI (e - i) := pk_sub (by omega)
            have tail : ∀ sh : Int32, sh = nI (if e - T 6 5 < T 6 5 - i then e - T 6 5 else T 6 5 - i) → AW m_M_round r_M_round ax_E0 (ax_Zm (pM A I J U (aRound T (nI ls) (nI w))) 0 0) (HH (u1 A 44 (lst 12 (hs T))) I J U) 0 0 188 [(0, .ref 36), (1, .int (nI ls)), (2, .int (nI w)), (3, .int (nI (T 6 5))), (4, .int (nI (fD 1000000 y))), (5, .int (wO y)), (6, .int (nI i)), (7, .int (nI e)), (8, .int (b2 (q = true))), (9, .int (nI 6))] [.int sh] := by
              intro sh hsh
              refine aw_istore (pc := 188) (ls' := [(0, _), (1, _), (2, _), (3, _), (4, _), (5, _), (6, _), (7, _), (8, _), (9, _)]) d_M_round_188 (by decide) rfl ?_
              refine aw_iload (pc := 190) d_M_round_190 rfl ?_
              refine aw_iload (pc := 192) d_M_round_192 rfl ?_
              refine aw_isub (pc := 194) d_M_round_194 ?_
              refine aw_iload (pc := 195) d_M_round_195 rfl ?_
              refine aw_iadd (pc := 197) d_M_round_197 ?_
              refine aw_top (y := nI (stp (T 6 5) i e)) (by rw [hsh, e3, nI_add]; unfold stp; rw [show e - i = T 6 5 - i + (e - T 6 5) by omega]) ?_
              refine aw_istore (pc := 198) (ls' := [(0, _), (1, _), (2, _), (3, _), (4, _), (5, _), (6, _), (7, _), (8, _), (9, _), (10, _)]) d_M_round_198 (by decide) rfl ?_
              refine aw_iload (pc := 200) d_M_round_200 rfl ?_
              refine aw_bz (pc := 202) (tgt := 216) d_M_round_202 (by decide) (fun h202 => ?_) (fun h202 => ?_)
              · exact keep (by unfold rd1; rw [if_neg (fun z => h202 (hq.mpr z.1))]) _ _
              · refine aw_iload (pc := 205) d_M_round_205 rfl ?_
                refine aw_iload (pc := 207) d_M_round_207 rfl ?_
                refine awn_ge (pc := 209) (tgt := 216) (stp (T 6 5) i e) (fD 1000000 y) d_M_round_209 (by decide) rfl rfl (by omega) (by omega) (fun h209 => ?_) (fun h209 => ?_)
                · exact keep (by unfold rd1; rw [if_neg (fun z => absurd ((lso_ (d := 1000000) (by omega)).mp z.2) (by omega))]) _ _
                · refine aw_iconst (pc := 212) (v := 1) d_M_round_212 (by decide) ?_
                  refine aw_goto (pc := 213) (tgt := 217) d_M_round_213 (by decide) ?_
                  refine aw_istore (pc := 217) (ls' := [(0, _), (1, _), (2, _), (3, _), (4, _), (5, _), (6, _), (7, _), (8, _), (9, _), (10, _), (11, _)]) d_M_round_217 (by decide) rfl ?_
                  refine aw_iload (pc := 219) d_M_round_219 rfl ?_
                  refine aw_if_eq (pc := 221) (tgt := 229) d_M_round_221 (by decide) (fun hh => absurd hh (by decide)) (fun _ => ?_)
                  refine aw_iload (pc := 224) d_M_round_224 rfl ?_
                  refine aw_goto (pc := 226) (tgt := 231) d_M_round_226 (by decide) ?_
                  refine aw_istore (pc := 231) (ls' := [(0, _), (1, _), (2, _), (3, _), (4, _), (5, _), (6, _), (7, _), (8, _), (9, _), (10, _), (11, _)]) d_M_round_231 (by decide) rfl ?_
                  refine aw_iload (pc := 233) d_M_round_233 rfl ?_
                  refine aw_if_eq (pc := 235) (tgt := 243) d_M_round_235 (by decide) (fun hh => absurd hh (by decide)) (fun _ => ?_)
                  refine aw_iload (pc := 238) d_M_round_238 rfl ?_
                  refine aw_goto (pc := 240) (tgt := 245) d_M_round_240 (by decide) ?_
                  refine aw_istore (pc := 245) (ls' := [(0, _), (1, _), (2, _), (3, _), (4, _), (5, _), (6, _), (7, _), (8, _), (9, _), (10, _), (11, _)]) d_M_round_245 (by decide) rfl ?_
                  refine aw_incN (pc := 247) (ls' := [(0, _), (1, _), (2, _), (3, _), (4, _), (5, _), (6, _), (7, _), (8, _), (9, _), (10, _), (11, _)]) (i := e) d_M_round_247 rfl rfl (by decide) rfl ?_
                  refine aw_goto (pc := 250) (tgt := 56) d_M_round_250 (by decide) ?_
                  refine aw_sub (ls' := [(0, _), (1, _), (2, _), (3, _), (4, _), (5, _), (6, _), (7, _)]) [0, 1, 2, 3, 4, 5, 6, 7] rfl ?_
                  have hr : rd1 T ls i e y = some (i, stp (T 6 5) i e) := by unfold rd1; rw [if_pos ⟨hq.mp h202, (lso_ (d := 1000000) (by omega)).mpr h209⟩]
                  rw [hr] at hV2
                  exact ih2 (some (i, stp (T 6 5) i e)) ⟨by omega, hV2, fun q hq => by cases hq; exact ⟨show i < 100 by omega, hst⟩⟩
            refine aw_iload_n (pc := 166) d_M_round_166 rfl rfl ?_
            refine aw_iload (pc := 167) d_M_round_167 rfl ?_
            refine aw_isub (pc := 169) d_M_round_169 ?_
            refine aw_iload (pc := 170) d_M_round_170 rfl ?_
            refine aw_iload_n (pc := 172) d_M_round_172 rfl rfl ?_
            refine aw_isub (pc := 173) d_M_round_173 ?_
            refine awn_ge (pc := 174) (tgt := 184) (T 6 5 - i) (e - T 6 5) d_M_round_174 (by decide) e1 e2 (by omega) (by omega) (fun h174 => ?_) (fun h174 => ?_)
            · refine aw_iload (pc := 184) d_M_round_184 rfl ?_
              refine aw_iload_n (pc := 186) d_M_round_186 rfl rfl ?_
              refine aw_isub (pc := 187) d_M_round_187 ?_
              refine tail _ ?_
              rw [e2]
              by_cases hc : e - T 6 5 < T 6 5 - i
              · rw [if_pos hc]
              · rw [if_neg hc, show e - T 6 5 = T 6 5 - i by omega]
            · refine aw_iload_n (pc := 177) d_M_round_177 rfl rfl ?_
              refine aw_iload (pc := 178) d_M_round_178 rfl ?_
              refine aw_isub (pc := 180) d_M_round_180 ?_
              refine aw_goto (pc := 181) (tgt := 188) d_M_round_181 (by decide) ?_
              exact tail _ (by rw [e1, if_neg (by omega)])
          refine aw_iload (pc := 56) d_M_round_56 rfl ?_
          refine aw_bipush (pc := 58) (v := 12) d_M_round_58 (by decide) ?_
          refine awn_ge (pc := 60) (tgt := 253) (e) (12) d_M_round_60 (by decide) rfl rfl (by omega) (by omega) (fun hh => absurd hh (by omega)) (fun _ => ?_)
          refine aw_iconst (pc := 63) (v := 1) d_M_round_63 (by decide) ?_
          refine aw_istore (pc := 64) (ls' := [(0, _), (1, _), (2, _), (3, _), (4, _), (5, _), (6, _), (7, _), (8, _)]) d_M_round_64 (by decide) rfl ?_
          refine aw_iconst (pc := 66) (v := 0) d_M_round_66 (by decide) ?_
          refine aw_istore (pc := 67) (ls' := [(0, _), (1, _), (2, _), (3, _), (4, _), (5, _), (6, _), (7, _), (8, _), (9, _)]) d_M_round_67 (by decide) rfl ?_
          refine lp_i (fun l (q : Bool) => AW m_M_round r_M_round ax_E0 (ax_Zm (pM A I J U (aRound T (nI ls) (nI w))) 0 0) (HH (u1 A 44 (lst 12 (hs T))) I J U) 0 0 69 [(0, .ref 36), (1, .int (nI ls)), (2, .int (nI w)), (3, .int (nI (T 6 5))), (4, .int (nI (fD 1000000 y))), (5, .int (wO y)), (6, .int (nI i)), (7, .int (nI e)), (8, .int (b2 (q = true))), (9, .int (nI l))] []) (fun l q => q = true ↔ ∀ l', l' < l → one1 T ls i e l' = true) 6 ?_ ?_ 6 0 true (by omega) ⟨fun _ l' h => absurd h (by omega), fun _ => rfl⟩
          · intro q hq
            refine aw_iload (pc := 69) d_M_round_69 rfl ?_
            refine aw_bipush (pc := 71) (v := 6) d_M_round_71 (by decide) ?_
            refine awn_ge (pc := 73) (tgt := 166) (6) (6) d_M_round_73 (by decide) rfl rfl (by omega) (by omega) (fun _ => ?_) (fun hh => absurd hh (by omega))
            exact behind q (hq.trans all1_iff.symm)
          · intro l q hl6 hq ih3
            have hlt := hT.2.2.1 l hl6
            have inner : ∀ (c : Bool), (c = true ↔ ¬ ls.testBit l = true) → AW m_M_round r_M_round ax_E0 (ax_Zm (pM A I J U (aRound T (nI ls) (nI w))) 0 0) (HH (u1 A 44 (lst 12 (hs T))) I J U) 0 0 96 [(0, .ref 36), (1, .int (nI ls)), (2, .int (nI w)), (3, .int (nI (T 6 5))), (4, .int (nI (fD 1000000 y))), (5, .int (wO y)), (6, .int (nI i)), (7, .int (nI e)), (8, .int (b2 (q = true))), (9, .int (nI l)), (10, .int (b2 (c = true))), (11, .int (nI i))] [] := by
              intro c0 hc0
              refine lp_i (fun a (c : Bool) => AW m_M_round r_M_round ax_E0 (ax_Zm (pM A I J U (aRound T (nI ls) (nI w))) 0 0) (HH (u1 A 44 (lst 12 (hs T))) I J U) 0 0 96 [(0, .ref 36), (1, .int (nI ls)), (2, .int (nI w)), (3, .int (nI (T 6 5))), (4, .int (nI (fD 1000000 y))), (5, .int (wO y)), (6, .int (nI i)), (7, .int (nI e)), (8, .int (b2 (q = true))), (9, .int (nI l)), (10, .int (b2 (c = true))), (11, .int (nI a))] []) (fun a c => i ≤ a ∧ (c = true ↔ (¬ ls.testBit l = true ∨ ∃ b, i ≤ b ∧ b < a ∧ (hs T b).testBit (T 2 l) = true))) (e + 1) ?_ ?_ (e + 1 - i) i c0 (by omega) ⟨Nat.le_refl _, fun z => Or.inl (hc0.mp z), fun z => z.elim hc0.mpr (fun ⟨b, h1, h2, _⟩ => absurd h2 (by omega))⟩
              · rintro c ⟨-, hc⟩
                have hone : c = true ↔ one1 T ls i e l = true := hc.trans one1_iff.symm
                have nxt : ∀ q2 : Bool, (q2 = true ↔ (q = true ∧ c = true)) → (q2 = true ↔ ∀ l', l' < l + 1 → one1 T ls i e l' = true) := by
                  intro q2 h2
                  rw [h2, hq, hone]
                  constructor
                  · rintro ⟨g1, g2⟩ l' hl'
                    by_cases e9 : l' = l
                    · rw [e9]; exact g2
                    · exact g1 l' (by omega)
                  · intro g
                    exact ⟨fun l' hl' => g l' (by omega), g l (by omega)⟩
                refine aw_iload (pc := 96) d_M_round_96 rfl ?_
                refine aw_iload (pc := 98) d_M_round_98 rfl ?_
                refine awn_gt (pc := 100) (tgt := 143) (e + 1) (e) d_M_round_100 (by decide) rfl rfl (by omega) (by omega) (fun _ => ?_) (fun hh => absurd hh (by omega))
                refine aw_iload (pc := 143) d_M_round_143 rfl ?_
                refine aw_bz (pc := 145) (tgt := 157) d_M_round_145 (by decide) (fun h145 => ?_) (fun h145 => ?_)
                · refine aw_iconst (pc := 157) (v := 0) d_M_round_157 (by decide) ?_
                  refine aw_istore (pc := 158) (ls' := [(0, _), (1, _), (2, _), (3, _), (4, _), (5, _), (6, _), (7, _), (8, _), (9, _), (10, _), (11, _)]) d_M_round_158 (by decide) rfl ?_
                  refine aw_incN (pc := 160) (ls' := [(0, _), (1, _), (2, _), (3, _), (4, _), (5, _), (6, _), (7, _), (8, _), (9, _), (10, _), (11, _)]) (i := l) d_M_round_160 rfl rfl (by decide) rfl ?_
                  refine aw_goto (pc := 163) (tgt := 69) d_M_round_163 (by decide) ?_
                  refine aw_sub (ls' := [(0, _), (1, _), (2, _), (3, _), (4, _), (5, _), (6, _), (7, _), (8, _), (9, _)]) [0, 1, 2, 3, 4, 5, 6, 7, 8, 9] rfl ?_
                  exact ih3 false (nxt false ⟨(fun z => by cases z), fun z => absurd z.1 h145⟩)
                · refine aw_iload (pc := 148) d_M_round_148 rfl ?_
                  refine aw_bz (pc := 150) (tgt := 157) d_M_round_150 (by decide) (fun h150 => ?_) (fun h150 => ?_)
                  · refine aw_iconst (pc := 157) (v := 0) d_M_round_157 (by decide) ?_
                    refine aw_istore (pc := 158) (ls' := [(0, _), (1, _), (2, _), (3, _), (4, _), (5, _), (6, _), (7, _), (8, _), (9, _), (10, _), (11, _)]) d_M_round_158 (by decide) rfl ?_
                    refine aw_incN (pc := 160) (ls' := [(0, _), (1, _), (2, _), (3, _), (4, _), (5, _), (6, _), (7, _), (8, _), (9, _), (10, _), (11, _)]) (i := l) d_M_round_160 rfl rfl (by decide) rfl ?_
                    refine aw_goto (pc := 163) (tgt := 69) d_M_round_163 (by decide) ?_
                    refine aw_sub (ls' := [(0, _), (1, _), (2, _), (3, _), (4, _), (5, _), (6, _), (7, _), (8, _), (9, _)]) [0, 1, 2, 3, 4, 5, 6, 7, 8, 9] rfl ?_
                    exact ih3 false (nxt false ⟨(fun z => by cases z), fun z => absurd z.2 h150⟩)
                  · refine aw_iconst (pc := 153) (v := 1) d_M_round_153 (by decide) ?_
                    refine aw_goto (pc := 154) (tgt := 158) d_M_round_154 (by decide) ?_
                    refine aw_istore (pc := 158) (ls' := [(0, _), (1, _), (2, _), (3, _), (4, _), (5, _), (6, _), (7, _), (8, _), (9, _), (10, _), (11, _)]) d_M_round_158 (by decide) rfl ?_
                    refine aw_incN (pc := 160) (ls' := [(0, _), (1, _), (2, _), (3, _), (4, _), (5, _), (6, _), (7, _), (8, _), (9, _), (10, _), (11, _)]) (i := l) d_M_round_160 rfl rfl (by decide) rfl ?_
                    refine aw_goto (pc := 163) (tgt := 69) d_M_round_163 (by decide) ?_
                    refine aw_sub (ls' := [(0, _), (1, _), (2, _), (3, _), (4, _), (5, _), (6, _), (7, _), (8, _), (9, _)]) [0, 1, 2, 3, 4, 5, 6, 7, 8, 9] rfl ?_
                    exact ih3 true (nxt true ⟨fun _ => ⟨h145, h150⟩, fun _ => rfl⟩)
              · rintro a c ha ⟨hia, hc⟩ ih4
                have hHa := hs_lt T a
                have st1 : ∀ c2 : Bool, (c2 = true ↔ (c = true ∨ (hs T a).testBit (T 2 l) = true)) → (c2 = true ↔ (¬ ls.testBit l = true ∨ ∃ b, i ≤ b ∧ b < a + 1 ∧ (hs T b).testBit (T 2 l) = true)) := by
                  intro c2 h2
                  rw [h2, hc]
                  constructor
                  · rintro ((g | ⟨b, g1, g2, g3⟩) | g)
                    · exact Or.inl g
                    · exact Or.inr ⟨b, g1, by omega, g3⟩
                    · exact Or.inr ⟨a, hia, by omega, g⟩
                  · rintro (g | ⟨b, g1, g2, g3⟩)
                    · exact Or.inl (Or.inl g)
                    · by_cases e9 : b = a
                      · subst e9; exact Or.inr g3
                      · exact Or.inl (Or.inr ⟨b, g1, by omega, g3⟩)
                refine aw_iload (pc := 96) d_M_round_96 rfl ?_
                refine aw_iload (pc := 98) d_M_round_98 rfl ?_
                refine awn_gt (pc := 100) (tgt := 143) (a) (e) d_M_round_100 (by decide) rfl rfl (by omega) (by omega) (fun hh => absurd hh (by omega)) (fun _ => ?_)
                refine aw_iload (pc := 103) d_M_round_103 rfl ?_
                refine aw_bn (pc := 105) (tgt := 130) d_M_round_105 (by decide) (fun h105 => ?_) (fun h105 => ?_)
                · refine aw_iconst (pc := 130) (v := 1) d_M_round_130 (by decide) ?_
                  refine aw_goto (pc := 131) (tgt := 135) d_M_round_131 (by decide) ?_
                  refine aw_istore (pc := 135) (ls' := [(0, _), (1, _), (2, _), (3, _), (4, _), (5, _), (6, _), (7, _), (8, _), (9, _), (10, _), (11, _)]) d_M_round_135 (by decide) rfl ?_
                  refine aw_incN (pc := 137) (ls' := [(0, _), (1, _), (2, _), (3, _), (4, _), (5, _), (6, _), (7, _), (8, _), (9, _), (10, _), (11, _)]) (i := a) d_M_round_137 rfl rfl (by decide) rfl ?_
                  refine aw_goto (pc := 140) (tgt := 96) d_M_round_140 (by decide) ?_
                  exact ih4 true ⟨by omega, st1 true ⟨fun _ => Or.inl h105, fun _ => rfl⟩⟩
                · refine aw_aload_n (pc := 108) d_M_round_108 rfl rfl ?_
                  refine aw_get (pc := 109) d_M_round_109 lf_M_35 hg_36 rfl ?_
                  refine aw_iload (pc := 112) d_M_round_112 rfl ?_
                  refine aw_ildN (pc := 114) (j := a) d_M_round_114 hg_44 rfl rfl (by omega) (by decide) ?_
                  refine aw_aload_n (pc := 115) d_M_round_115 rfl rfl ?_
                  refine aw_get (pc := 116) d_M_round_116 lf_M_23 hg_36 rfl ?_
                  refine aw_iconst (pc := 119) (v := 4) d_M_round_119 (by decide) ?_
                  refine aw_iload (pc := 120) d_M_round_120 rfl ?_
                  refine aw_imul (pc := 122) d_M_round_122 ?_
                  refine aw_top (ix_0 l) ?_
                  refine aw_ildN (pc := 123) (j := 4 * l + 0) d_M_round_123 hg_40 hE.1.2.2.1 rfl (by omega) (by decide) ?_
                  rw [lt_a0]
                  refine aw_callS1 (pc := 124) (c_M_has _ _ _) ok_M_has d_M_round_124 lm_M_77 rfl rfl ⟨by decide, by decide⟩ (Nat.le_of_ble_eq_true rfl) rfl rfl ⟨by decide, by decide⟩ ?_
                  refine aw_bz (pc := 127) (tgt := 134) d_M_round_127 (by decide) (fun h127 => ?_) (fun h127 => ?_)
                  · have h127 : ¬ (hs T a).testBit (T 2 l) = true := fun z => h127 ((hb_nI (by omega) (by omega)).mpr z)
                    refine aw_iconst (pc := 134) (v := 0) d_M_round_134 (by decide) ?_
                    refine aw_istore (pc := 135) (ls' := [(0, _), (1, _), (2, _), (3, _), (4, _), (5, _), (6, _), (7, _), (8, _), (9, _), (10, _), (11, _)]) d_M_round_135 (by decide) rfl ?_
                    refine aw_incN (pc := 137) (ls' := [(0, _), (1, _), (2, _), (3, _), (4, _), (5, _), (6, _), (7, _), (8, _), (9, _), (10, _), (11, _)]) (i := a) d_M_round_137 rfl rfl (by decide) rfl ?_
                    refine aw_goto (pc := 140) (tgt := 96) d_M_round_140 (by decide) ?_
                    exact ih4 false ⟨by omega, st1 false ⟨(fun z => by cases z), fun z => z.elim (fun z => absurd z h105) (fun z => absurd z h127)⟩⟩
                  · have h127 := (hb_nI (by omega) (by omega)).mp h127
                    refine aw_iconst (pc := 130) (v := 1) d_M_round_130 (by decide) ?_
                    refine aw_goto (pc := 131) (tgt := 135) d_M_round_131 (by decide) ?_
                    refine aw_istore (pc := 135) (ls' := [(0, _), (1, _), (2, _), (3, _), (4, _), (5, _), (6, _), (7, _), (8, _), (9, _), (10, _), (11, _)]) d_M_round_135 (by decide) rfl ?_
                    refine aw_incN (pc := 137) (ls' := [(0, _), (1, _), (2, _), (3, _), (4, _), (5, _), (6, _), (7, _), (8, _), (9, _), (10, _), (11, _)]) (i := a) d_M_round_137 rfl rfl (by decide) rfl ?_
                    refine aw_goto (pc := 140) (tgt := 96) d_M_round_140 (by decide) ?_
                    exact ih4 true ⟨by omega, st1 true ⟨fun _ => Or.inr h127, fun _ => rfl⟩⟩
            refine aw_iload (pc := 69) d_M_round_69 rfl ?_
            refine aw_bipush (pc := 71) (v := 6) d_M_round_71 (by decide) ?_
            refine awn_ge (pc := 73) (tgt := 166) (l) (6) d_M_round_73 (by decide) rfl rfl (by omega) (by omega) (fun hh => absurd hh (by omega)) (fun _ => ?_)
            refine aw_iload_n (pc := 76) d_M_round_76 rfl rfl ?_
            refine aw_iload (pc := 77) d_M_round_77 rfl ?_
            refine aw_callS1 (pc := 79) (c_M_has _ _ _) ok_M_has d_M_round_79 lm_M_77 rfl rfl ⟨by decide, by decide⟩ (Nat.le_of_ble_eq_true rfl) rfl rfl ⟨by decide, by decide⟩ ?_
            refine aw_bn (pc := 82) (tgt := 89) d_M_round_82 (by decide) (fun h82 => ?_) (fun h82 => ?_)
            · have h82 := (hb_nI (by omega) (by omega)).mp h82
              refine aw_iconst (pc := 89) (v := 0) d_M_round_89 (by decide) ?_
              refine aw_istore (pc := 90) (ls' := [(0, _), (1, _), (2, _), (3, _), (4, _), (5, _), (6, _), (7, _), (8, _), (9, _), (10, _)]) d_M_round_90 (by decide) rfl ?_
              refine aw_iload (pc := 92) d_M_round_92 rfl ?_
              refine aw_istore (pc := 94) (ls' := [(0, _), (1, _), (2, _), (3, _), (4, _), (5, _), (6, _), (7, _), (8, _), (9, _), (10, _), (11, _)]) d_M_round_94 (by decide) rfl ?_
              exact inner false ⟨(fun z => by cases z), fun z => absurd h82 z⟩
            · have h82 : ¬ ls.testBit l = true := fun z => h82 ((hb_nI (by omega) (by omega)).mpr z)
              refine aw_iconst (pc := 85) (v := 1) d_M_round_85 (by decide) ?_
              refine aw_goto (pc := 86) (tgt := 90) d_M_round_86 (by decide) ?_
              refine aw_istore (pc := 90) (ls' := [(0, _), (1, _), (2, _), (3, _), (4, _), (5, _), (6, _), (7, _), (8, _), (9, _), (10, _)]) d_M_round_90 (by decide) rfl ?_
              refine aw_iload (pc := 92) d_M_round_92 rfl ?_
              refine aw_istore (pc := 94) (ls' := [(0, _), (1, _), (2, _), (3, _), (4, _), (5, _), (6, _), (7, _), (8, _), (9, _), (10, _), (11, _)]) d_M_round_94 (by decide) rfl ?_
              exact inner true ⟨fun _ => h82, fun _ => rfl⟩
    · refine aw_bipush (pc := 21) (v := (-2)) d_M_round_21 (by decide) ?_
      refine aw_iret (pc := 23) d_M_round_23 rfl ?_
      exact ⟨by unfold aRound; rw [if_neg (fun z => z h7), if_pos h18], f, by rw [u1_self h44]⟩
  · refine aw_iconst (pc := 10) (v := (-1)) d_M_round_10 (by decide) ?_
    refine aw_iret (pc := 11) d_M_round_11 rfl ?_
    exact ⟨by unfold aRound; rw [if_pos h7], f, by rw [u1_self h44]⟩
theorem cond_st {b : Bool} {t : Nat} (ht : t ≤ 1) : (nI (if b = true then 1 else 0) = nI t) ↔ (b == (t == 1)) = true := by
  rcases (show t = 0 ∨ t = 1 by omega) with rfl | rfl <;> cases b <;> decide
set_option maxHeartbeats 1000000 in
set_option maxRecDepth 20000 in
theorem c_M_atSet (hT : okT T) (hE : enM A I T) {f : Nat → Nat} (h44 : A 44 = lst 12 f) : AD m_M_atSet r_M_atSet (HH A I J U) [.ref 36] (some (.int (nI (atS T)))) (HH (u1 A 44 (lst 12 (hs T))) I J U) := by
  refine am_of (by decide) rfl (by first | decide | exact Nat.le_of_ble_eq_true rfl) ?_
  have hns := hT.2.2.2.2.2.2.2.2.2.2.1
  have hsg := hT.2.2.2.2.2.2.2.2.2.2.2
  have b7 := hE.2.2.2.2
  refine aw_aload_n (pc := 0) d_M_atSet_0 rfl rfl ?_
  refine aw_callV0 (pc := 1) (c_M_laySets hT hE h44) ok_M_laySets d_M_atSet_1 lm_M_123 hg_36 rfl rfl ⟨by decide, by decide⟩ (Nat.le_of_ble_eq_true rfl) rfl rfl ⟨by decide, by decide⟩ ?_
  refine aw_iconst (pc := 4) (v := 0) d_M_atSet_4 (by decide) ?_
  refine aw_istore_n (pc := 5) (ls' := [(0, _), (1, _)]) d_M_atSet_5 rfl (by decide) rfl ?_
  refine aw_iconst (pc := 6) (v := 0) d_M_atSet_6 (by decide) ?_
  refine aw_istore_n (pc := 7) (ls' := [(0, _), (1, _), (2, _)]) d_M_atSet_7 rfl (by decide) rfl ?_
  refine lp_i (fun i b => AW m_M_atSet r_M_atSet ax_E0 (ax_Zm (fun q1 q2 => q1 = some (.int (nI (atS T))) ∧ q2 = HH (u1 A 44 (lst 12 (hs T))) I J U) 0 0) (HH (u1 A 44 (lst 12 (hs T))) I J U) 0 0 8 [(0, .ref 36), (1, .int (nI b)), (2, .int (nI i))] []) (fun i b => b = msk (ftt T) i) 12 ?_ ?_ 12 0 0 (by omega) rfl
  · intro b hV
    refine aw_iload_n (pc := 8) d_M_atSet_8 rfl rfl ?_
    refine aw_bipush (pc := 9) (v := 12) d_M_atSet_9 (by decide) ?_
    refine awn_ge (pc := 11) (tgt := 96) (12) (12) d_M_atSet_11 (by decide) rfl rfl (by omega) (by omega) (fun _ => ?_) (fun hh => absurd hh (by omega))
    refine aw_iload_n (pc := 96) d_M_atSet_96 rfl rfl ?_
    refine aw_iret (pc := 97) d_M_atSet_97 rfl ?_
    exact ⟨by rw [hV]; rfl, rfl⟩
  · intro a b ha hV ih
    have hHa := hs_lt T a
    refine aw_iload_n (pc := 8) d_M_atSet_8 rfl rfl ?_
    refine aw_bipush (pc := 9) (v := 12) d_M_atSet_9 (by decide) ?_
    refine awn_ge (pc := 11) (tgt := 96) (a) (12) d_M_atSet_11 (by decide) rfl rfl (by omega) (by omega) (fun hh => absurd hh (by omega)) (fun _ => ?_)
    refine aw_iconst (pc := 14) (v := 1) d_M_atSet_14 (by decide) ?_
    refine aw_istore_n (pc := 15) (ls' := [(0, _), (1, _), (2, _), (3, _)]) d_M_atSet_15 rfl (by decide) rfl ?_
    refine aw_iconst (pc := 16) (v := 0) d_M_atSet_16 (by decide) ?_
    refine aw_istore (pc := 17) (ls' := [(0, _), (1, _), (2, _), (3, _), (4, _)]) d_M_atSet_17 (by decide) rfl ?_
    refine lp_i (fun i (q : Bool) => AW m_M_atSet r_M_atSet ax_E0 (ax_Zm (fun q1 q2 => q1 = some (.int (nI (atS T))) ∧ q2 = HH (u1 A 44 (lst 12 (hs T))) I J U) 0 0) (HH (u1 A 44 (lst 12 (hs T))) I J U) 0 0 19 [(0, .ref 36), (1, .int (nI b)), (2, .int (nI a)), (3, .int (b2 (q = true))), (4, .int (nI i))] []) (fun i q => q = true ↔ ∀ j, j < i → ((hs T a).testBit (T 7 j) == (T 8 j == 1)) = true) (T 6 7) ?_ ?_ (T 6 7) 0 true (by omega) ⟨fun _ j hj => absurd hj (by omega), fun _ => rfl⟩
    · intro q hq
      have hft : q = true ↔ ftt T a = true := hq.trans all_r.symm
      refine aw_iload (pc := 19) d_M_atSet_19 rfl ?_
      refine aw_aload_n (pc := 21) d_M_atSet_21 rfl rfl ?_
      refine aw_geti (pc := 22) (y := (nI (T 6 7))) d_M_atSet_22 lf_M_126 hg_36 rfl b7 ?_
      refine awn_ge (pc := 25) (tgt := 76) (T 6 7) (T 6 7) d_M_atSet_25 (by decide) rfl rfl (by omega) (by omega) (fun _ => ?_) (fun hh => absurd hh (by omega))
      refine aw_iload_n (pc := 76) d_M_atSet_76 rfl rfl ?_
      refine aw_iload_n (pc := 77) d_M_atSet_77 rfl rfl ?_
      refine aw_bz (pc := 78) (tgt := 87) d_M_atSet_78 (by decide) (fun h78 => ?_) (fun h78 => ?_)
      · refine aw_iconst (pc := 87) (v := 0) d_M_atSet_87 (by decide) ?_
        refine aw_ior (pc := 88) d_M_atSet_88 ?_
        refine aw_top (or_0 _) ?_
        refine aw_istore_n (pc := 89) (ls' := [(0, _), (1, _), (2, _), (3, _), (4, _)]) d_M_atSet_89 rfl (by decide) rfl ?_
        refine aw_incN (pc := 90) (ls' := [(0, _), (1, _), (2, _), (3, _), (4, _)]) (i := a) d_M_atSet_90 rfl rfl (by decide) rfl ?_
        refine aw_goto (pc := 93) (tgt := 8) d_M_atSet_93 (by decide) ?_
        refine aw_sub (ls' := [(0, _), (1, _), (2, _)]) [0, 1, 2] rfl ?_
        exact ih b (by rw [msk, if_neg (fun z => h78 (hft.mpr z)), Nat.or_zero]; exact hV)
      · refine aw_iconst (pc := 81) (v := 1) d_M_atSet_81 (by decide) ?_
        refine aw_iload_n (pc := 82) d_M_atSet_82 rfl rfl ?_
        refine aw_ishl (pc := 83) d_M_atSet_83 ?_
        refine aw_goto (pc := 84) (tgt := 88) d_M_atSet_84 (by decide) ?_
        refine aw_ior (pc := 88) d_M_atSet_88 ?_
        refine aw_top (or_bit (by omega)) ?_
        refine aw_istore_n (pc := 89) (ls' := [(0, _), (1, _), (2, _), (3, _), (4, _)]) d_M_atSet_89 rfl (by decide) rfl ?_
        refine aw_incN (pc := 90) (ls' := [(0, _), (1, _), (2, _), (3, _), (4, _)]) (i := a) d_M_atSet_90 rfl rfl (by decide) rfl ?_
        refine aw_goto (pc := 93) (tgt := 8) d_M_atSet_93 (by decide) ?_
        refine aw_sub (ls' := [(0, _), (1, _), (2, _)]) [0, 1, 2] rfl ?_
        exact ih (b ||| 2 ^ a) (by rw [msk, if_pos (hft.mp h78), hV])
    · intro i q hi hq ih2
      have hsi := hsg i (by omega)
      have nxt : ∀ q2 : Bool, (q2 = true ↔ (q = true ∧ ((hs T a).testBit (T 7 i) == (T 8 i == 1)) = true)) → (q2 = true ↔ ∀ j, j < i + 1 → ((hs T a).testBit (T 7 j) == (T 8 j == 1)) = true) := by
        intro q2 h2
        rw [h2, hq]
        constructor
        · rintro ⟨g1, g2⟩ j hj
          by_cases e9 : j = i
          · rw [e9]; exact g2
          · exact g1 j (by omega)
        · intro g
          exact ⟨fun j hj => g j (by omega), g i (by omega)⟩
      refine aw_iload (pc := 19) d_M_atSet_19 rfl ?_
      refine aw_aload_n (pc := 21) d_M_atSet_21 rfl rfl ?_
      refine aw_geti (pc := 22) (y := (nI (T 6 7))) d_M_atSet_22 lf_M_126 hg_36 rfl b7 ?_
      refine awn_ge (pc := 25) (tgt := 76) (i) (T 6 7) d_M_atSet_25 (by decide) rfl rfl (by omega) (by omega) (fun hh => absurd hh (by omega)) (fun _ => ?_)
      refine aw_iload_n (pc := 28) d_M_atSet_28 rfl rfl ?_
      refine aw_bz (pc := 29) (tgt := 68) d_M_atSet_29 (by decide) (fun h29 => ?_) (fun h29 => ?_)
      · refine aw_iconst (pc := 68) (v := 0) d_M_atSet_68 (by decide) ?_
        refine aw_istore_n (pc := 69) (ls' := [(0, _), (1, _), (2, _), (3, _), (4, _)]) d_M_atSet_69 rfl (by decide) rfl ?_
        refine aw_incN (pc := 70) (ls' := [(0, _), (1, _), (2, _), (3, _), (4, _)]) (i := i) d_M_atSet_70 rfl rfl (by decide) rfl ?_
        refine aw_goto (pc := 73) (tgt := 19) d_M_atSet_73 (by decide) ?_
        exact ih2 false (nxt false ⟨(fun z => by cases z), fun z => absurd z.1 h29⟩)
      · refine aw_aload_n (pc := 32) d_M_atSet_32 rfl rfl ?_
        refine aw_get (pc := 33) d_M_atSet_33 lf_M_35 hg_36 rfl ?_
        refine aw_iload_n (pc := 36) d_M_atSet_36 rfl rfl ?_
        refine aw_ildN (pc := 37) (j := a) d_M_atSet_37 hg_44 rfl rfl ha (by decide) ?_
        refine aw_aload_n (pc := 38) d_M_atSet_38 rfl rfl ?_
        refine aw_get (pc := 39) d_M_atSet_39 lf_M_26 hg_36 rfl ?_
        refine aw_iconst (pc := 42) (v := 2) d_M_atSet_42 (by decide) ?_
        refine aw_iload (pc := 43) d_M_atSet_43 rfl ?_
        refine aw_imul (pc := 45) d_M_atSet_45 ?_
        refine aw_top (i2_0 i) ?_
        refine aw_ildN (pc := 46) (j := 2 * i + 0) d_M_atSet_46 hg_41 hE.1.2.2.2 rfl (by omega) (by decide) ?_
        rw [sg_0]
        refine aw_ishr (pc := 47) d_M_atSet_47 ?_
        refine aw_iconst (pc := 48) (v := 1) d_M_atSet_48 (by decide) ?_
        refine aw_iand (pc := 49) d_M_atSet_49 ?_
        refine aw_top (shr_bit (by omega) (by omega)) ?_
        refine aw_aload_n (pc := 50) d_M_atSet_50 rfl rfl ?_
        refine aw_get (pc := 51) d_M_atSet_51 lf_M_26 hg_36 rfl ?_
        refine aw_iconst (pc := 54) (v := 2) d_M_atSet_54 (by decide) ?_
        refine aw_iload (pc := 55) d_M_atSet_55 rfl ?_
        refine aw_imul (pc := 57) d_M_atSet_57 ?_
        refine aw_iconst (pc := 58) (v := 1) d_M_atSet_58 (by decide) ?_
        refine aw_iadd (pc := 59) d_M_atSet_59 ?_
        refine aw_top (i2_1 i) ?_
        refine aw_ildN (pc := 60) (j := 2 * i + 1) d_M_atSet_60 hg_41 hE.1.2.2.2 rfl (by omega) (by decide) ?_
        rw [sg_1]
        refine aw_icmp_ne (pc := 61) (tgt := 68) d_M_atSet_61 (by decide) (fun h61 => ?_) (fun h61 => ?_)
        · have h61 : ¬ ((hs T a).testBit (T 7 i) == (T 8 i == 1)) = true := fun z => h61 ((cond_st hsi.2).mpr z)
          refine aw_iconst (pc := 68) (v := 0) d_M_atSet_68 (by decide) ?_
          refine aw_istore_n (pc := 69) (ls' := [(0, _), (1, _), (2, _), (3, _), (4, _)]) d_M_atSet_69 rfl (by decide) rfl ?_
          refine aw_incN (pc := 70) (ls' := [(0, _), (1, _), (2, _), (3, _), (4, _)]) (i := i) d_M_atSet_70 rfl rfl (by decide) rfl ?_
          refine aw_goto (pc := 73) (tgt := 19) d_M_atSet_73 (by decide) ?_
          exact ih2 false (nxt false ⟨(fun z => by cases z), fun z => absurd z.2 h61⟩)
        · have h61 := (cond_st hsi.2).mp h61
          refine aw_iconst (pc := 64) (v := 1) d_M_atSet_64 (by decide) ?_
          refine aw_goto (pc := 65) (tgt := 69) d_M_atSet_65 (by decide) ?_
          refine aw_istore_n (pc := 69) (ls' := [(0, _), (1, _), (2, _), (3, _), (4, _)]) d_M_atSet_69 rfl (by decide) rfl ?_
          refine aw_incN (pc := 70) (ls' := [(0, _), (1, _), (2, _), (3, _), (4, _)]) (i := i) d_M_atSet_70 rfl rfl (by decide) rfl ?_
          refine aw_goto (pc := 73) (tgt := 19) d_M_atSet_73 (by decide) ?_
          exact ih2 true (nxt true ⟨fun _ => ⟨h29, h61⟩, fun _ => rfl⟩)
set_option maxHeartbeats 1000000 in
set_option maxRecDepth 20000 in
theorem c_M_ask (hT : okT T) (hE : enM A I T) {f : Nat → Nat} (h44 : A 44 = lst 12 f) (w : Int32) : AM m_M_ask r_M_ask (HH A I J U) [.ref 36, .int w] (pM A I J U (aAsk T w)) := by
  refine am_of (by decide) rfl (by first | decide | exact Nat.le_of_ble_eq_true rfl) ?_
  have hat := atS_lt T
  have hca := cn_le (atS T)
  refine aw_iload_n (pc := 0) d_M_ask_0 rfl rfl ?_
  refine aw_iconst (pc := 1) (v := 0) d_M_ask_1 (by decide) ?_
  refine aw_iconst (pc := 2) (v := 1) d_M_ask_2 (by decide) ?_
  refine aw_callS1 (pc := 3) (c_M_in _ _ _ _) ok_M_in d_M_ask_3 lm_M_52 rfl rfl ⟨by decide, by decide⟩ (Nat.le_of_ble_eq_true rfl) rfl rfl ⟨by decide, by decide⟩ ?_
  refine aw_bn (pc := 6) (tgt := 12) d_M_ask_6 (by decide) (fun h6 => ?_) (fun h6 => ?_)
  · obtain ⟨w, hw, rfl⟩ := rng 1 (by omega) h6
    refine aw_aload_n (pc := 12) d_M_ask_12 rfl rfl ?_
    refine aw_callV1 (pc := 13) (c_M_atSet hT hE h44) ok_M_atSet d_M_ask_13 lm_M_129 hg_36 rfl rfl ⟨by decide, by decide⟩ (Nat.le_of_ble_eq_true rfl) rfl rfl ⟨by decide, by decide⟩ ?_
    refine aw_istore_n (pc := 16) (ls' := [(0, _), (1, _), (2, _)]) d_M_ask_16 rfl (by decide) rfl ?_
    refine aw_bipush (pc := 17) (v := (-6)) d_M_ask_17 (by decide) ?_
    refine aw_istore_n (pc := 19) (ls' := [(0, _), (1, _), (2, _), (3, _)]) d_M_ask_19 rfl (by decide) rfl ?_
    refine aw_ldc (pc := 20) d_M_ask_20 lc_M_119 ?_
    refine aw_istore (pc := 22) (ls' := [(0, _), (1, _), (2, _), (3, _), (4, _)]) d_M_ask_22 (by decide) rfl ?_
    refine aw_iconst (pc := 24) (v := 0) d_M_ask_24 (by decide) ?_
    refine aw_istore (pc := 25) (ls' := [(0, _), (1, _), (2, _), (3, _), (4, _), (5, _)]) d_M_ask_25 (by decide) rfl ?_
    by_cases h0 : atS T = 0
    · have ea : aAsk T (nI w) = -6 := by unfold aAsk; rw [if_neg (fun z => z h6), if_pos h0]
      refine aw_iload (pc := 27) d_M_ask_27 rfl ?_
      refine aw_bipush (pc := 29) (v := 12) d_M_ask_29 (by decide) ?_
      refine awn_ge (pc := 31) (tgt := 153) (0) (12) d_M_ask_31 (by decide) rfl rfl (by omega) (by omega) (fun hh => absurd hh (by omega)) (fun _ => ?_)
      refine aw_iload_n (pc := 34) d_M_ask_34 rfl rfl ?_
      refine aw_if_eq (pc := 35) (tgt := 153) d_M_ask_35 (by decide) (fun _ => ?_) (fun hh => absurd (by rw [h0]; rfl) hh)
      refine aw_iload_n (pc := 153) d_M_ask_153 rfl rfl ?_
      refine aw_if_lt (pc := 154) (tgt := 161) d_M_ask_154 (by decide) (fun _ => ?_) (fun hh => absurd (by decide) hh)
      refine aw_iload_n (pc := 161) d_M_ask_161 rfl rfl ?_
      refine aw_goto (pc := 162) (tgt := 167) d_M_ask_162 (by decide) ?_
      refine aw_iret (pc := 167) d_M_ask_167 rfl ?_
      exact ⟨by rw [ea], hs T, rfl⟩
    · have ea : aAsk T (nI w) = if w = 0 then wO (ak T 12) else fO (ak T 12) := by
        unfold aAsk
        rw [if_neg (fun z => z h6), if_neg h0]
        by_cases e : w = 0
        · rw [if_pos e, if_pos (by rw [e]; rfl)]
        · rw [if_neg e, if_neg (fun z => e ((nI_e0 (by omega)).mp z))]
      have hn0 : ¬ nI (atS T) = 0 := fun z => h0 ((nI_e0 (by omega)).mp z)
      refine lp_i (fun i (x : Option (Nat × Nat)) => AW m_M_ask r_M_ask ax_E0 (ax_Zm (pM A I J U (aAsk T (nI w))) 0 0) (HH (u1 A 44 (lst 12 (hs T))) I J U) 0 0 27 [(0, .ref 36), (1, .int (nI w)), (2, .int (nI (atS T))), (3, .int (wO x)), (4, .int (nI (fD 1000000 x))), (5, .int (nI i))] []) (fun i x => x = ak T i) 12 ?_ ?_ 12 0 none (by omega) rfl
      · intro x hV
        subst hV
        have hl9 := ak_lt T 12
        refine aw_iload (pc := 27) d_M_ask_27 rfl ?_
        refine aw_bipush (pc := 29) (v := 12) d_M_ask_29 (by decide) ?_
        refine awn_ge (pc := 31) (tgt := 153) (12) (12) d_M_ask_31 (by decide) rfl rfl (by omega) (by omega) (fun _ => ?_) (fun hh => absurd hh (by omega))
        refine aw_iload_n (pc := 153) d_M_ask_153 rfl rfl ?_
        refine aw_if_lt (pc := 154) (tgt := 161) d_M_ask_154 (by decide) (fun h154 => ?_) (fun h154 => ?_)
        · have h154 := (wO_neg (fun q hq => by have := hl9 q hq; omega)).mp h154
          refine aw_iload_n (pc := 161) d_M_ask_161 rfl rfl ?_
          refine aw_goto (pc := 162) (tgt := 167) d_M_ask_162 (by decide) ?_
          refine aw_iret (pc := 167) d_M_ask_167 rfl ?_
          exact ⟨by rw [ea, h154]; split <;> rfl, hs T, rfl⟩
        · have h154 : ¬ ak T 12 = none := fun z => h154 (by rw [z]; decide)
          refine aw_iload_n (pc := 157) d_M_ask_157 rfl rfl ?_
          refine aw_if_ne (pc := 158) (tgt := 165) d_M_ask_158 (by decide) (fun h158 => ?_) (fun h158 => ?_)
          · have h158 : ¬ w = 0 := fun z => h158 (by rw [z]; rfl)
            refine aw_iload (pc := 165) d_M_ask_165 rfl ?_
            refine aw_iret (pc := 167) d_M_ask_167 rfl ?_
            refine ⟨?_, hs T, rfl⟩
            rw [ea, if_neg h158]
            cases hq : ak T 12 with
            | none => exact absurd hq h154
            | some q => rfl
          · have h158 : w = 0 := (nI_e0 (by omega)).mp h158
            refine aw_iload_n (pc := 161) d_M_ask_161 rfl rfl ?_
            refine aw_goto (pc := 162) (tgt := 167) d_M_ask_162 (by decide) ?_
            refine aw_iret (pc := 167) d_M_ask_167 rfl ?_
            exact ⟨by rw [ea, if_pos h158], hs T, rfl⟩
      · intro i x hi hV ih
        subst hV
        have hcs := cn_sub (atS T) (pf T i)
        have hwl := wrs_le T i
        have hl9 := ak_lt T i
        have hfd : fD 1000000 (ak T i) ≤ 1000000 := by
          cases hq : ak T i with
          | none => exact Nat.le_refl _
          | some q => have := hl9 q hq; show q.2 ≤ 1000000; omega
        have fin : AW m_M_ask r_M_ask ax_E0 (ax_Zm (pM A I J U (aAsk T (nI w))) 0 0) (HH (u1 A 44 (lst 12 (hs T))) I J U) 0 0 115 [(0, .ref 36), (1, .int (nI w)), (2, .int (nI (atS T))), (3, .int (wO (ak T i))), (4, .int (nI (fD 1000000 (ak T i)))), (5, .int (nI i)), (6, .int (nI (cn (atS T &&& pf T i))))] [.int (nI (wrs T i))] := by
          refine aw_istore (pc := 115) (ls' := [(0, _), (1, _), (2, _), (3, _), (4, _), (5, _), (6, _), (7, _)]) d_M_ask_115 (by decide) rfl ?_
          refine aw_iload (pc := 117) d_M_ask_117 rfl ?_
          refine aw_iload (pc := 119) d_M_ask_119 rfl ?_
          refine awn_ge (pc := 121) (tgt := 129) (wrs T i) (fD 1000000 (ak T i)) d_M_ask_121 (by decide) rfl rfl (by omega) (by omega) (fun h121 => ?_) (fun h121 => ?_)
          · refine aw_iload_n (pc := 129) d_M_ask_129 rfl rfl ?_
            refine aw_istore_n (pc := 130) (ls' := [(0, _), (1, _), (2, _), (3, _), (4, _), (5, _), (6, _), (7, _)]) d_M_ask_130 rfl (by decide) rfl ?_
            refine aw_iload (pc := 131) d_M_ask_131 rfl ?_
            refine aw_iload (pc := 133) d_M_ask_133 rfl ?_
            refine awn_ge (pc := 135) (tgt := 143) (wrs T i) (fD 1000000 (ak T i)) d_M_ask_135 (by decide) rfl rfl (by omega) (by omega) (fun _ => ?_) (fun hh => absurd hh (by omega))
            refine aw_iload (pc := 143) d_M_ask_143 rfl ?_
            refine aw_istore (pc := 145) (ls' := [(0, _), (1, _), (2, _), (3, _), (4, _), (5, _), (6, _), (7, _)]) d_M_ask_145 (by decide) rfl ?_
            refine aw_incN (pc := 147) (ls' := [(0, _), (1, _), (2, _), (3, _), (4, _), (5, _), (6, _), (7, _)]) (i := i) d_M_ask_147 rfl rfl (by decide) rfl ?_
            refine aw_goto (pc := 150) (tgt := 27) d_M_ask_150 (by decide) ?_
            refine aw_sub (ls' := [(0, _), (1, _), (2, _), (3, _), (4, _), (5, _)]) [0, 1, 2, 3, 4, 5] rfl ?_
            exact ih (ak T i) (by rw [ak, if_neg (fun z => absurd ((lso_ (d := 1000000) (by omega)).mp z) (by omega))])
          · refine aw_iload (pc := 124) d_M_ask_124 rfl ?_
            refine aw_goto (pc := 126) (tgt := 130) d_M_ask_126 (by decide) ?_
            refine aw_istore_n (pc := 130) (ls' := [(0, _), (1, _), (2, _), (3, _), (4, _), (5, _), (6, _), (7, _)]) d_M_ask_130 rfl (by decide) rfl ?_
            refine aw_iload (pc := 131) d_M_ask_131 rfl ?_
            refine aw_iload (pc := 133) d_M_ask_133 rfl ?_
            refine awn_ge (pc := 135) (tgt := 143) (wrs T i) (fD 1000000 (ak T i)) d_M_ask_135 (by decide) rfl rfl (by omega) (by omega) (fun hh => absurd hh (by omega)) (fun _ => ?_)
            refine aw_iload (pc := 138) d_M_ask_138 rfl ?_
            refine aw_goto (pc := 140) (tgt := 145) d_M_ask_140 (by decide) ?_
            refine aw_istore (pc := 145) (ls' := [(0, _), (1, _), (2, _), (3, _), (4, _), (5, _), (6, _), (7, _)]) d_M_ask_145 (by decide) rfl ?_
            refine aw_incN (pc := 147) (ls' := [(0, _), (1, _), (2, _), (3, _), (4, _), (5, _), (6, _), (7, _)]) (i := i) d_M_ask_147 rfl rfl (by decide) rfl ?_
            refine aw_goto (pc := 150) (tgt := 27) d_M_ask_150 (by decide) ?_
            refine aw_sub (ls' := [(0, _), (1, _), (2, _), (3, _), (4, _), (5, _)]) [0, 1, 2, 3, 4, 5] rfl ?_
            exact ih (some (i, wrs T i)) (by rw [ak, if_pos ((lso_ (d := 1000000) (by omega)).mpr h121)])
        refine aw_iload (pc := 27) d_M_ask_27 rfl ?_
        refine aw_bipush (pc := 29) (v := 12) d_M_ask_29 (by decide) ?_
        refine awn_ge (pc := 31) (tgt := 153) (i) (12) d_M_ask_31 (by decide) rfl rfl (by omega) (by omega) (fun hh => absurd hh (by omega)) (fun _ => ?_)
        refine aw_iload_n (pc := 34) d_M_ask_34 rfl rfl ?_
        refine aw_if_eq (pc := 35) (tgt := 153) d_M_ask_35 (by decide) (fun hh => absurd hh hn0) (fun _ => ?_)
        refine aw_iconst (pc := 38) (v := 0) d_M_ask_38 (by decide) ?_
        refine aw_istore (pc := 39) (ls' := [(0, _), (1, _), (2, _), (3, _), (4, _), (5, _), (6, _)]) d_M_ask_39 (by decide) rfl ?_
        refine aw_iconst (pc := 41) (v := 0) d_M_ask_41 (by decide) ?_
        refine aw_istore (pc := 42) (ls' := [(0, _), (1, _), (2, _), (3, _), (4, _), (5, _), (6, _), (7, _)]) d_M_ask_42 (by decide) rfl ?_
        refine lp_i (fun a c => AW m_M_ask r_M_ask ax_E0 (ax_Zm (pM A I J U (aAsk T (nI w))) 0 0) (HH (u1 A 44 (lst 12 (hs T))) I J U) 0 0 44 [(0, .ref 36), (1, .int (nI w)), (2, .int (nI (atS T))), (3, .int (wO (ak T i))), (4, .int (nI (fD 1000000 (ak T i)))), (5, .int (nI i)), (6, .int (nI c)), (7, .int (nI a))] []) (fun a c => c = fb_ct (fun k => (atS T &&& pf T i).testBit k) a) 12 ?_ ?_ 12 0 0 (by omega) rfl
        · intro c hc
          have hc : c = cn (atS T &&& pf T i) := hc
          subst hc
          have es : nI (cn (atS T)) - nI (cn (atS T &&& pf T i)) = nI (cn (atS T) - cn (atS T &&& pf T i)) := pk_sub hcs
          refine aw_iload (pc := 44) d_M_ask_44 rfl ?_
          refine aw_bipush (pc := 46) (v := 12) d_M_ask_46 (by decide) ?_
          refine awn_ge (pc := 48) (tgt := 91) (12) (12) d_M_ask_48 (by decide) rfl rfl (by omega) (by omega) (fun _ => ?_) (fun hh => absurd hh (by omega))
          refine aw_iload (pc := 91) d_M_ask_91 rfl ?_
          refine aw_iload_n (pc := 93) d_M_ask_93 rfl rfl ?_
          refine aw_callS1 (pc := 94) (c_M_bits hat) ok_M_bits d_M_ask_94 lm_M_120 rfl rfl ⟨by decide, by decide⟩ (Nat.le_of_ble_eq_true rfl) rfl rfl ⟨by decide, by decide⟩ ?_
          refine aw_iload (pc := 97) d_M_ask_97 rfl ?_
          refine aw_isub (pc := 99) d_M_ask_99 ?_
          refine awn_le (pc := 100) (tgt := 108) (cn (atS T &&& pf T i)) (cn (atS T) - cn (atS T &&& pf T i)) d_M_ask_100 (by decide) rfl es (by omega) (by omega) (fun h100 => ?_) (fun h100 => ?_)
          · refine aw_iload_n (pc := 108) d_M_ask_108 rfl rfl ?_
            refine aw_callS1 (pc := 109) (c_M_bits hat) ok_M_bits d_M_ask_109 lm_M_120 rfl rfl ⟨by decide, by decide⟩ (Nat.le_of_ble_eq_true rfl) rfl rfl ⟨by decide, by decide⟩ ?_
            refine aw_iload (pc := 112) d_M_ask_112 rfl ?_
            refine aw_isub (pc := 114) d_M_ask_114 ?_
            refine aw_top (y := nI (wrs T i)) (by rw [es]; unfold wrs; rw [Nat.max_eq_right h100]) ?_
            refine aw_sub (ls' := [(0, _), (1, _), (2, _), (3, _), (4, _), (5, _), (6, _)]) [0, 1, 2, 3, 4, 5, 6] rfl ?_
            exact fin
          · refine aw_iload (pc := 103) d_M_ask_103 rfl ?_
            refine aw_goto (pc := 105) (tgt := 115) d_M_ask_105 (by decide) ?_
            refine aw_top (y := nI (wrs T i)) (by unfold wrs; rw [Nat.max_eq_left (by omega)]) ?_
            refine aw_sub (ls' := [(0, _), (1, _), (2, _), (3, _), (4, _), (5, _), (6, _)]) [0, 1, 2, 3, 4, 5, 6] rfl ?_
            exact fin
        · intro a c ha hc ih2
          have hHa := hs_lt T a
          have hpb := pf_bit T i ha
          refine aw_iload (pc := 44) d_M_ask_44 rfl ?_
          refine aw_bipush (pc := 46) (v := 12) d_M_ask_46 (by decide) ?_
          refine awn_ge (pc := 48) (tgt := 91) (a) (12) d_M_ask_48 (by decide) rfl rfl (by omega) (by omega) (fun hh => absurd hh (by omega)) (fun _ => ?_)
          refine aw_iload (pc := 51) d_M_ask_51 rfl ?_
          refine aw_iload_n (pc := 53) d_M_ask_53 rfl rfl ?_
          refine aw_iload (pc := 54) d_M_ask_54 rfl ?_
          refine aw_callS1 (pc := 56) (c_M_has _ _ _) ok_M_has d_M_ask_56 lm_M_77 rfl rfl ⟨by decide, by decide⟩ (Nat.le_of_ble_eq_true rfl) rfl rfl ⟨by decide, by decide⟩ ?_
          refine aw_bz (pc := 59) (tgt := 81) d_M_ask_59 (by decide) (fun h59 => ?_) (fun h59 => ?_)
          · have h59 : ¬ (atS T).testBit a = true := fun z => h59 ((hb_nI (by omega) (by omega)).mpr z)
            refine aw_iconst (pc := 81) (v := 0) d_M_ask_81 (by decide) ?_
            refine aw_iadd (pc := 82) d_M_ask_82 ?_
            refine aw_top (y := nI c) (nI_add c 0) ?_
            refine aw_istore (pc := 83) (ls' := [(0, _), (1, _), (2, _), (3, _), (4, _), (5, _), (6, _), (7, _)]) d_M_ask_83 (by decide) rfl ?_
            refine aw_incN (pc := 85) (ls' := [(0, _), (1, _), (2, _), (3, _), (4, _), (5, _), (6, _), (7, _)]) (i := a) d_M_ask_85 rfl rfl (by decide) rfl ?_
            refine aw_goto (pc := 88) (tgt := 44) d_M_ask_88 (by decide) ?_
            refine ih2 c ?_
            rw [fb_ct_succ, ← hc, Nat.testBit_and]
            simp [h59]
          · have h59 := (hb_nI (by omega) (by omega)).mp h59
            refine aw_aload_n (pc := 62) d_M_ask_62 rfl rfl ?_
            refine aw_get (pc := 63) d_M_ask_63 lf_M_35 hg_36 rfl ?_
            refine aw_iload (pc := 66) d_M_ask_66 rfl ?_
            refine aw_ildN (pc := 68) (j := a) d_M_ask_68 hg_44 rfl rfl ha (by decide) ?_
            refine aw_iload (pc := 69) d_M_ask_69 rfl ?_
            refine aw_callS1 (pc := 71) (c_M_has _ _ _) ok_M_has d_M_ask_71 lm_M_77 rfl rfl ⟨by decide, by decide⟩ (Nat.le_of_ble_eq_true rfl) rfl rfl ⟨by decide, by decide⟩ ?_
            refine aw_bz (pc := 74) (tgt := 81) d_M_ask_74 (by decide) (fun h74 => ?_) (fun h74 => ?_)
            · have h74 : ¬ (hs T a).testBit i = true := fun z => h74 ((hb_nI (by omega) (by omega)).mpr z)
              refine aw_iconst (pc := 81) (v := 0) d_M_ask_81 (by decide) ?_
              refine aw_iadd (pc := 82) d_M_ask_82 ?_
              refine aw_top (y := nI c) (nI_add c 0) ?_
              refine aw_istore (pc := 83) (ls' := [(0, _), (1, _), (2, _), (3, _), (4, _), (5, _), (6, _), (7, _)]) d_M_ask_83 (by decide) rfl ?_
              refine aw_incN (pc := 85) (ls' := [(0, _), (1, _), (2, _), (3, _), (4, _), (5, _), (6, _), (7, _)]) (i := a) d_M_ask_85 rfl rfl (by decide) rfl ?_
              refine aw_goto (pc := 88) (tgt := 44) d_M_ask_88 (by decide) ?_
              refine ih2 c ?_
              rw [fb_ct_succ, ← hc, Nat.testBit_and, hpb]
              simp [h74]
            · have h74 := (hb_nI (by omega) (by omega)).mp h74
              refine aw_iconst (pc := 77) (v := 1) d_M_ask_77 (by decide) ?_
              refine aw_goto (pc := 78) (tgt := 82) d_M_ask_78 (by decide) ?_
              refine aw_iadd (pc := 82) d_M_ask_82 ?_
              refine aw_top (nI_1 c) ?_
              refine aw_istore (pc := 83) (ls' := [(0, _), (1, _), (2, _), (3, _), (4, _), (5, _), (6, _), (7, _)]) d_M_ask_83 (by decide) rfl ?_
              refine aw_incN (pc := 85) (ls' := [(0, _), (1, _), (2, _), (3, _), (4, _), (5, _), (6, _), (7, _)]) (i := a) d_M_ask_85 rfl rfl (by decide) rfl ?_
              refine aw_goto (pc := 88) (tgt := 44) d_M_ask_88 (by decide) ?_
              refine ih2 (c + 1) ?_
              rw [fb_ct_succ, ← hc, Nat.testBit_and, hpb]
              simp [h59, h74]
  · refine aw_bipush (pc := 9) (v := (-2)) d_M_ask_9 (by decide) ?_
    refine aw_iret (pc := 11) d_M_ask_11 rfl ?_
    exact ⟨by unfold aAsk; rw [if_pos h6], f, by rw [u1_self h44]⟩
end MROUND

