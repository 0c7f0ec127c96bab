/-! the world as it is made -/
def tw0 : town := fun a b => if a = 6 then (if b = 3 then 4 else if b = 4 then 3 else 0) else 0
def A0 : Nat → List Int32 := fun k => List.replicate ([0, 0, 12, 11, 6, 6, 6, 6, 0, 12, 11, 6, 6, 6, 6, 0, 12, 11, 6, 6, 6, 6, 0, 12, 11, 6, 6, 6, 6, 0, 60, 0, 12, 12, 0, 0, 0, 16, 16, 11, 24, 16, 60, 12, 12, 0, 160, 2].getD k 0) 0
def I0 : Nat → Nat → Int32 := fun k j => if j = 9 then (if k = 1 then 4 else if k = 8 then 4 else if k = 15 then 4 else if k = 22 then 4 else 0) else if k = 36 then (if j = 4 then 4 else 0) else if k = 29 then (if j = 3 then -6 else if j = 4 then -6 else if j = 5 then -6 else 0) else 0
def J0 : Nat → List Int64 := fun _ => List.replicate 12 0
def U0 : Nat → Nat → Int64 := fun _ j => if j = 4 then 1 else 0
theorem ok_tw0 : okT tw0 := by
  refine ⟨fun j _ => ?_, fun j _ => ?_, fun l _ => ⟨?_, ?_, ?_, ?_⟩, by decide, by decide, by decide, by decide, by decide, by decide, by decide, by decide, fun i _ => ⟨?_, ?_⟩⟩
  · show 0 < 256; omega
  · show 0 ≤ 9; omega
  · show 0 < 12; omega
  · show 0 < 256; omega
  · show 0 < 256; omega
  · show 0 < 4096; omega
  · show 0 < 12; omega
  · show 0 ≤ 1; omega
theorem lst_z {n : Nat} {f : Nat → Nat} (h : ∀ j, j < n → 0 = f j) : List.replicate n (0 : Int32) = lst n f := (lst_0 n).trans (lst_cong h)
theorem hm_0 : hm tw0 = 0 := by decide +kernel
theorem mm_0 : mm tw0 = 0 := by decide +kernel
theorem enS_0_1 : enS A0 I0 1 tw0 := ⟨⟨lst_0 12, lst_0 11, lst_0 6, lst_0 6, lst_0 6, lst_0 6⟩, by decide, by decide, by decide, by decide, by decide, by decide, by decide, by decide, by rw [hm_0]; decide, by rw [mm_0]; decide⟩
theorem enS_0_8 : enS A0 I0 8 tw0 := ⟨⟨lst_0 12, lst_0 11, lst_0 6, lst_0 6, lst_0 6, lst_0 6⟩, by decide, by decide, by decide, by decide, by decide, by decide, by decide, by decide, by rw [hm_0]; decide, by rw [mm_0]; decide⟩
theorem enS_0_15 : enS A0 I0 15 tw0 := ⟨⟨lst_0 12, lst_0 11, lst_0 6, lst_0 6, lst_0 6, lst_0 6⟩, by decide, by decide, by decide, by decide, by decide, by decide, by decide, by decide, by rw [hm_0]; decide, by rw [mm_0]; decide⟩
theorem enS_0_22 : enS A0 I0 22 tw0 := ⟨⟨lst_0 12, lst_0 11, lst_0 6, lst_0 6, lst_0 6, lst_0 6⟩, by decide, by decide, by decide, by decide, by decide, by decide, by decide, by decide, by rw [hm_0]; decide, by rw [mm_0]; decide⟩
theorem bk_0 : ∀ j, j < 16 → 0 = bk tw0 j := by decide
theorem ltz_0 : ∀ j, j < 24 → 0 = lt tw0 j := by decide
theorem sg_z : ∀ j, j < 16 → 0 = sg tw0 j := by decide
theorem enM_0 : enM A0 I0 tw0 := ⟨⟨lst_z (n := 16) bk_0, lst_0 11, lst_z (n := 24) ltz_0, lst_z (n := 16) sg_z⟩, by decide, by decide, by decide, by decide⟩
theorem ci_0 : ci tw0 0 (fun _ => 0) 0 (fun _ => tw0) A0 I0 J0 := ⟨ok_tw0, enS_0_1, ⟨enS_0_8, enS_0_15, tw0, enS_0_22⟩, ⟨by omega, fun _ _ => (by decide : (0 : Nat) < 128), lst_0 60, by decide⟩, ⟨⟨_, lst_0 12⟩, ⟨_, lst_0 12⟩, _, lsl_0 12⟩, by omega, by decide, ok_tw0, ok_tw0⟩
theorem mi_0 : mi tw0 0 (fun _ => 0) 0 (fun _ => tw0) A0 I0 J0 := ⟨ok_tw0, enM_0, ⟨⟨_, lst_0 16⟩, ⟨_, lst_0 12⟩, ⟨_, lst_0 12⟩, _, lsl_0 12⟩, ⟨by omega, fun _ _ => (by decide : (0 : Nat) < 128), lst_0 60, by decide⟩, by omega, lst_z (n := 2) (by decide), _, lst_0 160, fun n _ h => by rw [Nat.zero_testBit] at h; cases h⟩

