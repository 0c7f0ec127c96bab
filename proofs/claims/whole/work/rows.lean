section
-- ===== PART A: goes FIRST, ahead of the names: the tables' words, and 'selects' of the private methods out of them =====
/-- a private method of a class that the tables say can be made, by its rows of tables_1 -/
def lw_okq (q : MethodName × Nat) : Prop := (q.1.cls ≠ "java/lang/invoke/MethodHandle" ∧ q.1.cls ≠ "java/lang/invoke/VarHandle") ∧ Cond.instantiable q.1.cls q.2 ∈ tables_1 ∧ Cond.privateMethod q.1 ∈ tables_1 ∧ Cond.instanceMethod q.1 ∈ tables_1
set_option maxRecDepth 20000 in
theorem lw_p0 : lw_okq (⟨"DoorVoice", "setVoice", "(I)I"⟩, 8) := ⟨⟨by decide +kernel, by decide +kernel⟩, List.mem_of_getElem? (i := 11) (by decide +kernel), List.mem_of_getElem? (i := 210) (by decide +kernel), List.mem_of_getElem? (i := 211) (by decide +kernel)⟩
set_option maxRecDepth 20000 in
theorem lw_p1 : lw_okq (⟨"DoorVoice", "setWind", "(I)I"⟩, 8) := ⟨⟨by decide +kernel, by decide +kernel⟩, List.mem_of_getElem? (i := 11) (by decide +kernel), List.mem_of_getElem? (i := 214) (by decide +kernel), List.mem_of_getElem? (i := 215) (by decide +kernel)⟩
set_option maxRecDepth 20000 in
theorem lw_p2 : lw_okq (⟨"DoorVoice", "setPlace", "(I)I"⟩, 8) := ⟨⟨by decide +kernel, by decide +kernel⟩, List.mem_of_getElem? (i := 11) (by decide +kernel), List.mem_of_getElem? (i := 218) (by decide +kernel), List.mem_of_getElem? (i := 219) (by decide +kernel)⟩
set_option maxRecDepth 20000 in
theorem lw_p3 : lw_okq (⟨"DoorVoice$Pad", "playAct", "(LDoorVoice$Street;II)V"⟩, 6) := ⟨⟨by decide +kernel, by decide +kernel⟩, List.mem_of_getElem? (i := 99) (by decide +kernel), List.mem_of_getElem? (i := 272) (by decide +kernel), List.mem_of_getElem? (i := 273) (by decide +kernel)⟩
set_option maxRecDepth 20000 in
theorem lw_p4 : lw_okq (⟨"DoorVoice$Street", "reached", "(II)I"⟩, 16) := ⟨⟨by decide +kernel, by decide +kernel⟩, List.mem_of_getElem? (i := 19) (by decide +kernel), List.mem_of_getElem? (i := 290) (by decide +kernel), List.mem_of_getElem? (i := 291) (by decide +kernel)⟩
set_option maxRecDepth 20000 in
theorem lw_p5 : lw_okq (⟨"DoorVoice$Street", "readOut", "(I)V"⟩, 16) := ⟨⟨by decide +kernel, by decide +kernel⟩, List.mem_of_getElem? (i := 19) (by decide +kernel), List.mem_of_getElem? (i := 299) (by decide +kernel), List.mem_of_getElem? (i := 300) (by decide +kernel)⟩
set_option maxRecDepth 20000 in
theorem lw_p6 : lw_okq (⟨"DoorVoice$Street", "passEvening", "()V"⟩, 16) := ⟨⟨by decide +kernel, by decide +kernel⟩, List.mem_of_getElem? (i := 19) (by decide +kernel), List.mem_of_getElem? (i := 304) (by decide +kernel), List.mem_of_getElem? (i := 305) (by decide +kernel)⟩
set_option maxRecDepth 20000 in
theorem lw_p7 : lw_okq (⟨"DoorVoice$Street", "tellsEastward", "(I)Z"⟩, 16) := ⟨⟨by decide +kernel, by decide +kernel⟩, List.mem_of_getElem? (i := 19) (by decide +kernel), List.mem_of_getElem? (i := 308) (by decide +kernel), List.mem_of_getElem? (i := 309) (by decide +kernel)⟩
set_option maxRecDepth 20000 in
theorem lw_p8 : lw_okq (⟨"DoorVoice$Listener", "placesFor", "(I)I"⟩, 2) := ⟨⟨by decide +kernel, by decide +kernel⟩, List.mem_of_getElem? (i := 129) (by decide +kernel), List.mem_of_getElem? (i := 355) (by decide +kernel), List.mem_of_getElem? (i := 356) (by decide +kernel)⟩
set_option maxRecDepth 20000 in
theorem lw_p9 : lw_okq (⟨"DoorVoice$Listener", "allCanBeRead", "(LDoorVoice$Street;III)Z"⟩, 2) := ⟨⟨by decide +kernel, by decide +kernel⟩, List.mem_of_getElem? (i := 129) (by decide +kernel), List.mem_of_getElem? (i := 389) (by decide +kernel), List.mem_of_getElem? (i := 390) (by decide +kernel)⟩
set_option maxRecDepth 20000 in
theorem lw_p10 : lw_okq (⟨"DoorVoice$Street", "toldOnward", "(I)I"⟩, 16) := ⟨⟨by decide +kernel, by decide +kernel⟩, List.mem_of_getElem? (i := 19) (by decide +kernel), List.mem_of_getElem? (i := 426) (by decide +kernel), List.mem_of_getElem? (i := 427) (by decide +kernel)⟩
set_option maxRecDepth 20000 in
theorem lw_p11 : lw_okq (⟨"DoorVoice$Chances", "putLowest", "(JJ)V"⟩, 5) := ⟨⟨by decide +kernel, by decide +kernel⟩, List.mem_of_getElem? (i := 142) (by decide +kernel), List.mem_of_getElem? (i := 452) (by decide +kernel), List.mem_of_getElem? (i := 453) (by decide +kernel)⟩
set_option maxRecDepth 20000 in
theorem lw_p12 : lw_okq (⟨"DoorVoice$Chances", "countWays", "(I)V"⟩, 5) := ⟨⟨by decide +kernel, by decide +kernel⟩, List.mem_of_getElem? (i := 142) (by decide +kernel), List.mem_of_getElem? (i := 463) (by decide +kernel), List.mem_of_getElem? (i := 464) (by decide +kernel)⟩
set_option maxRecDepth 20000 in
theorem lw_p13 : lw_okq (⟨"DoorVoice", "imageNumbered", "(I)LDoorVoice$Street;"⟩, 8) := ⟨⟨by decide +kernel, by decide +kernel⟩, List.mem_of_getElem? (i := 11) (by decide +kernel), List.mem_of_getElem? (i := 490) (by decide +kernel), List.mem_of_getElem? (i := 491) (by decide +kernel)⟩
set_option maxRecDepth 20000 in
theorem lw_p14 : lw_okq (⟨"DoorVoice", "toldOfAll", "(I)I"⟩, 8) := ⟨⟨by decide +kernel, by decide +kernel⟩, List.mem_of_getElem? (i := 11) (by decide +kernel), List.mem_of_getElem? (i := 502) (by decide +kernel), List.mem_of_getElem? (i := 503) (by decide +kernel)⟩
set_option maxRecDepth 20000 in
theorem lw_p15 : lw_okq (⟨"DoorVoice", "toldOfLetter", "(II)I"⟩, 8) := ⟨⟨by decide +kernel, by decide +kernel⟩, List.mem_of_getElem? (i := 11) (by decide +kernel), List.mem_of_getElem? (i := 506) (by decide +kernel), List.mem_of_getElem? (i := 507) (by decide +kernel)⟩
def lw_privs_1 : List (MethodName × Nat) := [(⟨"DoorVoice", "setVoice", "(I)I"⟩, 8), (⟨"DoorVoice", "setWind", "(I)I"⟩, 8), (⟨"DoorVoice", "setPlace", "(I)I"⟩, 8), (⟨"DoorVoice$Pad", "playAct", "(LDoorVoice$Street;II)V"⟩, 6), (⟨"DoorVoice$Street", "reached", "(II)I"⟩, 16), (⟨"DoorVoice$Street", "readOut", "(I)V"⟩, 16), (⟨"DoorVoice$Street", "passEvening", "()V"⟩, 16), (⟨"DoorVoice$Street", "tellsEastward", "(I)Z"⟩, 16), (⟨"DoorVoice$Listener", "placesFor", "(I)I"⟩, 2), (⟨"DoorVoice$Listener", "allCanBeRead", "(LDoorVoice$Street;III)Z"⟩, 2), (⟨"DoorVoice$Street", "toldOnward", "(I)I"⟩, 16), (⟨"DoorVoice$Chances", "putLowest", "(JJ)V"⟩, 5), (⟨"DoorVoice$Chances", "countWays", "(I)V"⟩, 5), (⟨"DoorVoice", "imageNumbered", "(I)LDoorVoice$Street;"⟩, 8), (⟨"DoorVoice", "toldOfAll", "(I)I"⟩, 8), (⟨"DoorVoice", "toldOfLetter", "(II)I"⟩, 8)]
theorem lw_r1 : ∀ q ∈ lw_privs_1, lw_okq q := List.forall_mem_cons.mpr ⟨lw_p0, List.forall_mem_cons.mpr ⟨lw_p1, List.forall_mem_cons.mpr ⟨lw_p2, List.forall_mem_cons.mpr ⟨lw_p3, List.forall_mem_cons.mpr ⟨lw_p4, List.forall_mem_cons.mpr ⟨lw_p5, List.forall_mem_cons.mpr ⟨lw_p6, List.forall_mem_cons.mpr ⟨lw_p7, List.forall_mem_cons.mpr ⟨lw_p8, List.forall_mem_cons.mpr ⟨lw_p9, List.forall_mem_cons.mpr ⟨lw_p10, List.forall_mem_cons.mpr ⟨lw_p11, List.forall_mem_cons.mpr ⟨lw_p12, List.forall_mem_cons.mpr ⟨lw_p13, List.forall_mem_cons.mpr ⟨lw_p14, List.forall_mem_cons.mpr ⟨lw_p15, fun _ h => absurd h List.not_mem_nil⟩⟩⟩⟩⟩⟩⟩⟩⟩⟩⟩⟩⟩⟩⟩⟩
set_option maxRecDepth 20000 in
theorem lw_p16 : lw_okq (⟨"DoorVoiceModel", "faultOf", "()I"⟩, 20) := ⟨⟨by decide +kernel, by decide +kernel⟩, List.mem_of_getElem? (i := 510) (by decide +kernel), List.mem_of_getElem? (i := 612) (by decide +kernel), List.mem_of_getElem? (i := 613) (by decide +kernel)⟩
set_option maxRecDepth 20000 in
theorem lw_p17 : lw_okq (⟨"DoorVoiceModel", "goDays", "()I"⟩, 20) := ⟨⟨by decide +kernel, by decide +kernel⟩, List.mem_of_getElem? (i := 510) (by decide +kernel), List.mem_of_getElem? (i := 623) (by decide +kernel), List.mem_of_getElem? (i := 624) (by decide +kernel)⟩
set_option maxRecDepth 20000 in
theorem lw_p18 : lw_okq (⟨"DoorVoiceModel", "asNow", "()V"⟩, 20) := ⟨⟨by decide +kernel, by decide +kernel⟩, List.mem_of_getElem? (i := 510) (by decide +kernel), List.mem_of_getElem? (i := 627) (by decide +kernel), List.mem_of_getElem? (i := 628) (by decide +kernel)⟩
set_option maxRecDepth 20000 in
theorem lw_p19 : lw_okq (⟨"DoorVoiceModel", "evening", "()I"⟩, 20) := ⟨⟨by decide +kernel, by decide +kernel⟩, List.mem_of_getElem? (i := 510) (by decide +kernel), List.mem_of_getElem? (i := 631) (by decide +kernel), List.mem_of_getElem? (i := 632) (by decide +kernel)⟩
set_option maxRecDepth 20000 in
theorem lw_p20 : lw_okq (⟨"DoorVoiceModel", "goTo", "(I)I"⟩, 20) := ⟨⟨by decide +kernel, by decide +kernel⟩, List.mem_of_getElem? (i := 510) (by decide +kernel), List.mem_of_getElem? (i := 638) (by decide +kernel), List.mem_of_getElem? (i := 639) (by decide +kernel)⟩
set_option maxRecDepth 20000 in
theorem lw_p21 : lw_okq (⟨"DoorVoiceModel", "read", "(I)I"⟩, 20) := ⟨⟨by decide +kernel, by decide +kernel⟩, List.mem_of_getElem? (i := 510) (by decide +kernel), List.mem_of_getElem? (i := 642) (by decide +kernel), List.mem_of_getElem? (i := 643) (by decide +kernel)⟩
set_option maxRecDepth 20000 in
theorem lw_p22 : lw_okq (⟨"DoorVoiceModel", "doesHear", "(III)Z"⟩, 20) := ⟨⟨by decide +kernel, by decide +kernel⟩, List.mem_of_getElem? (i := 510) (by decide +kernel), List.mem_of_getElem? (i := 646) (by decide +kernel), List.mem_of_getElem? (i := 647) (by decide +kernel)⟩
set_option maxRecDepth 20000 in
theorem lw_p23 : lw_okq (⟨"DoorVoiceModel", "loudAt", "(II)I"⟩, 20) := ⟨⟨by decide +kernel, by decide +kernel⟩, List.mem_of_getElem? (i := 510) (by decide +kernel), List.mem_of_getElem? (i := 650) (by decide +kernel), List.mem_of_getElem? (i := 651) (by decide +kernel)⟩
set_option maxRecDepth 20000 in
theorem lw_p24 : lw_okq (⟨"DoorVoiceModel", "barOfDays", "()I"⟩, 20) := ⟨⟨by decide +kernel, by decide +kernel⟩, List.mem_of_getElem? (i := 510) (by decide +kernel), List.mem_of_getElem? (i := 658) (by decide +kernel), List.mem_of_getElem? (i := 659) (by decide +kernel)⟩
set_option maxRecDepth 20000 in
theorem lw_p25 : lw_okq (⟨"DoorVoiceModel", "hearers", "(II)I"⟩, 20) := ⟨⟨by decide +kernel, by decide +kernel⟩, List.mem_of_getElem? (i := 510) (by decide +kernel), List.mem_of_getElem? (i := 682) (by decide +kernel), List.mem_of_getElem? (i := 683) (by decide +kernel)⟩
set_option maxRecDepth 20000 in
theorem lw_p26 : lw_okq (⟨"DoorVoiceModel", "laySets", "()V"⟩, 20) := ⟨⟨by decide +kernel, by decide +kernel⟩, List.mem_of_getElem? (i := 510) (by decide +kernel), List.mem_of_getElem? (i := 698) (by decide +kernel), List.mem_of_getElem? (i := 699) (by decide +kernel)⟩
set_option maxRecDepth 20000 in
theorem lw_p27 : lw_okq (⟨"DoorVoiceModel", "atSet", "()I"⟩, 20) := ⟨⟨by decide +kernel, by decide +kernel⟩, List.mem_of_getElem? (i := 510) (by decide +kernel), List.mem_of_getElem? (i := 718) (by decide +kernel), List.mem_of_getElem? (i := 719) (by decide +kernel)⟩
set_option maxRecDepth 20000 in
theorem lw_p28 : lw_okq (⟨"DoorVoiceModel", "spread", "(I)I"⟩, 20) := ⟨⟨by decide +kernel, by decide +kernel⟩, List.mem_of_getElem? (i := 510) (by decide +kernel), List.mem_of_getElem? (i := 730) (by decide +kernel), List.mem_of_getElem? (i := 731) (by decide +kernel)⟩
def lw_privs_2 : List (MethodName × Nat) := [(⟨"DoorVoiceModel", "faultOf", "()I"⟩, 20), (⟨"DoorVoiceModel", "goDays", "()I"⟩, 20), (⟨"DoorVoiceModel", "asNow", "()V"⟩, 20), (⟨"DoorVoiceModel", "evening", "()I"⟩, 20), (⟨"DoorVoiceModel", "goTo", "(I)I"⟩, 20), (⟨"DoorVoiceModel", "read", "(I)I"⟩, 20), (⟨"DoorVoiceModel", "doesHear", "(III)Z"⟩, 20), (⟨"DoorVoiceModel", "loudAt", "(II)I"⟩, 20), (⟨"DoorVoiceModel", "barOfDays", "()I"⟩, 20), (⟨"DoorVoiceModel", "hearers", "(II)I"⟩, 20), (⟨"DoorVoiceModel", "laySets", "()V"⟩, 20), (⟨"DoorVoiceModel", "atSet", "()I"⟩, 20), (⟨"DoorVoiceModel", "spread", "(I)I"⟩, 20)]
theorem lw_r2 : ∀ q ∈ lw_privs_2, lw_okq q := List.forall_mem_cons.mpr ⟨lw_p16, List.forall_mem_cons.mpr ⟨lw_p17, List.forall_mem_cons.mpr ⟨lw_p18, List.forall_mem_cons.mpr ⟨lw_p19, List.forall_mem_cons.mpr ⟨lw_p20, List.forall_mem_cons.mpr ⟨lw_p21, List.forall_mem_cons.mpr ⟨lw_p22, List.forall_mem_cons.mpr ⟨lw_p23, List.forall_mem_cons.mpr ⟨lw_p24, List.forall_mem_cons.mpr ⟨lw_p25, List.forall_mem_cons.mpr ⟨lw_p26, List.forall_mem_cons.mpr ⟨lw_p27, List.forall_mem_cons.mpr ⟨lw_p28, fun _ h => absurd h List.not_mem_nil⟩⟩⟩⟩⟩⟩⟩⟩⟩⟩⟩⟩⟩
def lw_privs : List (MethodName × Nat) := lw_privs_1 ++ (lw_privs_2)
def lw_tbl : List Cond := k2_sels lw_privs ++ tables_1
theorem lw_privs_ok : ∀ q ∈ lw_privs, lw_okq q := by
  show ∀ q ∈ lw_privs_1 ++ (lw_privs_2), lw_okq q
  exact List.forall_mem_append.mpr ⟨lw_r1, lw_r2⟩
def tb_0 : u_T := fun k => match k with
  | 0 => ("DoorVoice$Chances", "ways", "[J", true)
  | 1 => ("DoorVoice$Chances", "sure", "I", false)
  | 2 => ("DoorVoice$Chances", "unsure", "I", false)
  | 3 => ("DoorVoice$Chances", "upper", "J", false)
  | _ => ("DoorVoice$Chances", "lower", "J", false)
def ty_0 : Nat → FieldType := fun k => match k with
  | 0 => .array .long
  | 1 => .int
  | 2 => .int
  | 3 => .long
  | _ => .long
def tb_1 : u_T := fun k => match k with
  | 0 => ("DoorVoice$Listener", "hearersAt", "[I", true)
  | _ => ("DoorVoice$Listener", "placesHeardBy", "[I", true)
def ty_1 : Nat → FieldType := fun k => match k with
  | 0 => .array .int
  | _ => .array .int
def tb_2 : u_T := fun k => match k with
  | 0 => ("DoorVoice$Pad", "signs", "[I", true)
  | 1 => ("DoorVoice$Pad", "count", "I", false)
  | 2 => ("DoorVoice$Pad", "acts", "I", false)
  | 3 => ("DoorVoice$Pad", "stop", "I", false)
  | 4 => ("DoorVoice$Pad", "why", "I", false)
  | _ => ("DoorVoice$Pad", "astray", "I", false)
def ty_2 : Nat → FieldType := fun k => match k with
  | 0 => .array .int
  | 1 => .int
  | 2 => .int
  | 3 => .int
  | 4 => .int
  | _ => .int
def tb_3 : u_T := fun k => match k with
  | 0 => ("DoorVoice$Street", "facts", "[I", true)
  | 1 => ("DoorVoice$Street", "walls", "[I", true)
  | 2 => ("DoorVoice$Street", "forWhom", "[I", true)
  | 3 => ("DoorVoice$Street", "plain", "[I", true)
  | 4 => ("DoorVoice$Street", "cipher", "[I", true)
  | 5 => ("DoorVoice$Street", "keys", "[I", true)
  | 6 => ("DoorVoice$Street", "open", "I", false)
  | 7 => ("DoorVoice$Street", "deaf", "I", false)
  | 8 => ("DoorVoice$Street", "read", "I", false)
  | 9 => ("DoorVoice$Street", "voice", "I", false)
  | 10 => ("DoorVoice$Street", "wind", "I", false)
  | 11 => ("DoorVoice$Street", "place", "I", false)
  | 12 => ("DoorVoice$Street", "day", "I", false)
  | 13 => ("DoorVoice$Street", "sights", "I", false)
  | 14 => ("DoorVoice$Street", "heardBy", "I", false)
  | _ => ("DoorVoice$Street", "missedBy", "I", false)
def ty_3 : Nat → FieldType := fun k => match k with
  | 0 => .array .int
  | 1 => .array .int
  | 2 => .array .int
  | 3 => .array .int
  | 4 => .array .int
  | 5 => .array .int
  | 6 => .int
  | 7 => .int
  | 8 => .int
  | 9 => .int
  | 10 => .int
  | 11 => .int
  | 12 => .int
  | 13 => .int
  | 14 => .int
  | _ => .int
def tb_4 : u_T := fun k => match k with
  | 0 => ("DoorVoice", "now", "LDoorVoice$Street;", true)
  | 1 => ("DoorVoice", "firstImage", "LDoorVoice$Street;", true)
  | 2 => ("DoorVoice", "secondImage", "LDoorVoice$Street;", true)
  | 3 => ("DoorVoice", "trial", "LDoorVoice$Street;", true)
  | 4 => ("DoorVoice", "pad", "LDoorVoice$Pad;", true)
  | 5 => ("DoorVoice", "listener", "LDoorVoice$Listener;", true)
  | 6 => ("DoorVoice", "chances", "LDoorVoice$Chances;", true)
  | _ => ("DoorVoice", "keptImages", "I", false)
def ty_4 : Nat → FieldType := fun k => match k with
  | 0 => .object "DoorVoice$Street"
  | 1 => .object "DoorVoice$Street"
  | 2 => .object "DoorVoice$Street"
  | 3 => .object "DoorVoice$Street"
  | 4 => .object "DoorVoice$Pad"
  | 5 => .object "DoorVoice$Listener"
  | 6 => .object "DoorVoice$Chances"
  | _ => .int
def tb_5 : u_T := fun k => match k with
  | 0 => ("DoorVoiceModel", "book", "[I", true)
  | 1 => ("DoorVoiceModel", "now", "[I", true)
  | 2 => ("DoorVoiceModel", "deaf", "I", false)
  | 3 => ("DoorVoiceModel", "wall", "[I", true)
  | 4 => ("DoorVoiceModel", "voice", "I", false)
  | 5 => ("DoorVoiceModel", "wind", "I", false)
  | 6 => ("DoorVoiceModel", "letters", "[I", true)
  | 7 => ("DoorVoiceModel", "sights", "I", false)
  | 8 => ("DoorVoiceModel", "sight", "[I", true)
  | 9 => ("DoorVoiceModel", "signs", "I", false)
  | 10 => ("DoorVoiceModel", "pad", "[I", true)
  | 11 => ("DoorVoiceModel", "knew", "[I", true)
  | 12 => ("DoorVoiceModel", "isAstray", "Z", false)
  | 13 => ("DoorVoiceModel", "reason", "I", false)
  | 14 => ("DoorVoiceModel", "acts", "I", false)
  | 15 => ("DoorVoiceModel", "astray", "I", false)
  | 16 => ("DoorVoiceModel", "sets", "[I", true)
  | 17 => ("DoorVoiceModel", "ways", "[J", true)
  | 18 => ("DoorVoiceModel", "image", "[I", true)
  | _ => ("DoorVoiceModel", "isKept", "[Z", true)
def ty_5 : Nat → FieldType := fun k => match k with
  | 0 => .array .int
  | 1 => .array .int
  | 2 => .int
  | 3 => .array .int
  | 4 => .int
  | 5 => .int
  | 6 => .array .int
  | 7 => .int
  | 8 => .array .int
  | 9 => .int
  | 10 => .array .int
  | 11 => .array .int
  | 12 => .boolean
  | 13 => .int
  | 14 => .int
  | 15 => .int
  | 16 => .array .int
  | 17 => .array .long
  | 18 => .array .int
  | _ => .array .boolean
abbrev classes : List vw_C := [("DoorVoice$Chances", tb_0, 5), ("DoorVoice$Listener", tb_1, 2), ("DoorVoice$Pad", tb_2, 6), ("DoorVoice$Street", tb_3, 16), ("DoorVoice", tb_4, 8), ("DoorVoiceModel", tb_5, 20)]
def ax_T : List Cond := lw_tbl.filter goodWord
theorem ax_in {w : Cond} (i : Nat) (h : lw_tbl[i]? = some w) (hg : goodWord w = true) : w ∈ ax_T := List.mem_filter.mpr ⟨List.mem_of_getElem? h, hg⟩
theorem ax_good {ws : List Cond} (h : ∀ w ∈ ws, w ∈ ax_T) : GoodIn ax_T ws := fun w hw => ⟨h w hw, good_of_word (List.mem_filter.mp (h w hw)).2⟩
theorem nm_0 : ∀ a, a < 5 → ∀ b, b < 5 → a ≠ b → (tb_0 a).2.1 ≠ (tb_0 b).2.1 := by decide +kernel
theorem ty_0_ok : ∀ k, k < 5 → parseFieldDescriptor (tb_0 k).2.2.1 = some (ty_0 k) := by decide +kernel
set_option maxRecDepth 20000 in
theorem in_0 : ∀ w ∈ u_ws "DoorVoice$Chances" tb_0 5, w ∈ ax_T := by
  intro w hw
  obtain ⟨k, hk, rfl⟩ := List.mem_map.mp hw
  have hk := List.mem_range.mp hk
  match k, hk with
  | 0, _ => exact ax_in 183 rfl rfl
  | 1, _ => exact ax_in 185 rfl rfl
  | 2, _ => exact ax_in 187 rfl rfl
  | 3, _ => exact ax_in 189 rfl rfl
  | 4, _ => exact ax_in 191 rfl rfl
  | k + 5, hk => exact absurd hk (by omega)
theorem nm_1 : ∀ a, a < 2 → ∀ b, b < 2 → a ≠ b → (tb_1 a).2.1 ≠ (tb_1 b).2.1 := by decide +kernel
theorem ty_1_ok : ∀ k, k < 2 → parseFieldDescriptor (tb_1 k).2.2.1 = some (ty_1 k) := by decide +kernel
set_option maxRecDepth 20000 in
theorem in_1 : ∀ w ∈ u_ws "DoorVoice$Listener" tb_1 2, w ∈ ax_T := by
  intro w hw
  obtain ⟨k, hk, rfl⟩ := List.mem_map.mp hw
  have hk := List.mem_range.mp hk
  match k, hk with
  | 0, _ => exact ax_in 165 rfl rfl
  | 1, _ => exact ax_in 167 rfl rfl
  | k + 2, hk => exact absurd hk (by omega)
theorem nm_2 : ∀ a, a < 6 → ∀ b, b < 6 → a ≠ b → (tb_2 a).2.1 ≠ (tb_2 b).2.1 := by decide +kernel
theorem ty_2_ok : ∀ k, k < 6 → parseFieldDescriptor (tb_2 k).2.2.1 = some (ty_2 k) := by decide +kernel
set_option maxRecDepth 20000 in
theorem in_2 : ∀ w ∈ u_ws "DoorVoice$Pad" tb_2 6, w ∈ ax_T := by
  intro w hw
  obtain ⟨k, hk, rfl⟩ := List.mem_map.mp hw
  have hk := List.mem_range.mp hk
  match k, hk with
  | 0, _ => exact ax_in 144 rfl rfl
  | 1, _ => exact ax_in 146 rfl rfl
  | 2, _ => exact ax_in 148 rfl rfl
  | 3, _ => exact ax_in 150 rfl rfl
  | 4, _ => exact ax_in 152 rfl rfl
  | 5, _ => exact ax_in 154 rfl rfl
  | k + 6, hk => exact absurd hk (by omega)
theorem nm_3 : ∀ a, a < 16 → ∀ b, b < 16 → a ≠ b → (tb_3 a).2.1 ≠ (tb_3 b).2.1 := by decide +kernel
theorem ty_3_ok : ∀ k, k < 16 → parseFieldDescriptor (tb_3 k).2.2.1 = some (ty_3 k) := by decide +kernel
set_option maxRecDepth 20000 in
theorem in_3 : ∀ w ∈ u_ws "DoorVoice$Street" tb_3 16, w ∈ ax_T := by
  intro w hw
  obtain ⟨k, hk, rfl⟩ := List.mem_map.mp hw
  have hk := List.mem_range.mp hk
  match k, hk with
  | 0, _ => exact ax_in 93 rfl rfl
  | 1, _ => exact ax_in 95 rfl rfl
  | 2, _ => exact ax_in 97 rfl rfl
  | 3, _ => exact ax_in 99 rfl rfl
  | 4, _ => exact ax_in 101 rfl rfl
  | 5, _ => exact ax_in 103 rfl rfl
  | 6, _ => exact ax_in 105 rfl rfl
  | 7, _ => exact ax_in 107 rfl rfl
  | 8, _ => exact ax_in 109 rfl rfl
  | 9, _ => exact ax_in 111 rfl rfl
  | 10, _ => exact ax_in 113 rfl rfl
  | 11, _ => exact ax_in 115 rfl rfl
  | 12, _ => exact ax_in 117 rfl rfl
  | 13, _ => exact ax_in 119 rfl rfl
  | 14, _ => exact ax_in 121 rfl rfl
  | 15, _ => exact ax_in 123 rfl rfl
  | k + 16, hk => exact absurd hk (by omega)
theorem nm_4 : ∀ a, a < 8 → ∀ b, b < 8 → a ≠ b → (tb_4 a).2.1 ≠ (tb_4 b).2.1 := by decide +kernel
theorem ty_4_ok : ∀ k, k < 8 → parseFieldDescriptor (tb_4 k).2.2.1 = some (ty_4 k) := by decide +kernel
set_option maxRecDepth 20000 in
theorem in_4 : ∀ w ∈ u_ws "DoorVoice" tb_4 8, w ∈ ax_T := by
  intro w hw
  obtain ⟨k, hk, rfl⟩ := List.mem_map.mp hw
  have hk := List.mem_range.mp hk
  match k, hk with
  | 0, _ => exact ax_in 203 rfl rfl
  | 1, _ => exact ax_in 205 rfl rfl
  | 2, _ => exact ax_in 207 rfl rfl
  | 3, _ => exact ax_in 209 rfl rfl
  | 4, _ => exact ax_in 211 rfl rfl
  | 5, _ => exact ax_in 213 rfl rfl
  | 6, _ => exact ax_in 215 rfl rfl
  | 7, _ => exact ax_in 217 rfl rfl
  | k + 8, hk => exact absurd hk (by omega)
theorem nm_5 : ∀ a, a < 20 → ∀ b, b < 20 → a ≠ b → (tb_5 a).2.1 ≠ (tb_5 b).2.1 := by decide +kernel
theorem ty_5_ok : ∀ k, k < 20 → parseFieldDescriptor (tb_5 k).2.2.1 = some (ty_5 k) := by decide +kernel
set_option maxRecDepth 20000 in
theorem in_5 : ∀ w ∈ u_ws "DoorVoiceModel" tb_5 20, w ∈ ax_T := by
  intro w hw
  obtain ⟨k, hk, rfl⟩ := List.mem_map.mp hw
  have hk := List.mem_range.mp hk
  match k, hk with
  | 0, _ => exact ax_in 564 rfl rfl
  | 1, _ => exact ax_in 566 rfl rfl
  | 2, _ => exact ax_in 568 rfl rfl
  | 3, _ => exact ax_in 570 rfl rfl
  | 4, _ => exact ax_in 572 rfl rfl
  | 5, _ => exact ax_in 574 rfl rfl
  | 6, _ => exact ax_in 576 rfl rfl
  | 7, _ => exact ax_in 578 rfl rfl
  | 8, _ => exact ax_in 580 rfl rfl
  | 9, _ => exact ax_in 582 rfl rfl
  | 10, _ => exact ax_in 584 rfl rfl
  | 11, _ => exact ax_in 586 rfl rfl
  | 12, _ => exact ax_in 588 rfl rfl
  | 13, _ => exact ax_in 590 rfl rfl
  | 14, _ => exact ax_in 592 rfl rfl
  | 15, _ => exact ax_in 594 rfl rfl
  | 16, _ => exact ax_in 596 rfl rfl
  | 17, _ => exact ax_in 598 rfl rfl
  | 18, _ => exact ax_in 600 rfl rfl
  | 19, _ => exact ax_in 602 rfl rfl
  | k + 20, hk => exact absurd hk (by omega)
def cl_ok (ci : Nat) (C : String) (T : u_T) (N : Nat) (ty : Nat → FieldType) : Prop := classes[ci]? = some (C, T, N) ∧ (∀ w ∈ u_ws C T N, w ∈ ax_T) ∧ (∀ k, k < N → parseFieldDescriptor (T k).2.2.1 = some (ty k)) ∧ (∀ a, a < N → ∀ b, b < N → a ≠ b → (T a).2.1 ≠ (T b).2.1)
theorem cl_0 : cl_ok 0 "DoorVoice$Chances" tb_0 5 ty_0 := ⟨rfl, in_0, ty_0_ok, nm_0⟩
theorem cl_1 : cl_ok 1 "DoorVoice$Listener" tb_1 2 ty_1 := ⟨rfl, in_1, ty_1_ok, nm_1⟩
theorem cl_2 : cl_ok 2 "DoorVoice$Pad" tb_2 6 ty_2 := ⟨rfl, in_2, ty_2_ok, nm_2⟩
theorem cl_3 : cl_ok 3 "DoorVoice$Street" tb_3 16 ty_3 := ⟨rfl, in_3, ty_3_ok, nm_3⟩
theorem cl_4 : cl_ok 4 "DoorVoice" tb_4 8 ty_4 := ⟨rfl, in_4, ty_4_ok, nm_4⟩
theorem cl_5 : cl_ok 5 "DoorVoiceModel" tb_5 20 ty_5 := ⟨rfl, in_5, ty_5_ok, nm_5⟩
/-- a field by its link: class number, field number -/
def fl_ok (own : String) (idx ci j : Nat) : Prop := ∃ (C : String) (T : u_T) (N : Nat) (ty : Nat → FieldType), cl_ok ci C T N ty ∧ j < N ∧ Cond.fieldLink own idx (T j).1 (T j).2.1 (T j).2.2.1 ∈ ax_T
set_option maxRecDepth 20000 in
theorem lf_S_9 : fl_ok "DoorVoice$Street" 9 3 0 := ⟨_, _, _, _, cl_3, by decide, ax_in 53 rfl rfl⟩
set_option maxRecDepth 20000 in
theorem lf_V_54 : fl_ok "DoorVoice" 54 3 0 := ⟨_, _, _, _, cl_3, by decide, ax_in 54 rfl rfl⟩
set_option maxRecDepth 20000 in
theorem lf_S_15 : fl_ok "DoorVoice$Street" 15 3 1 := ⟨_, _, _, _, cl_3, by decide, ax_in 55 rfl rfl⟩
set_option maxRecDepth 20000 in
theorem lf_V_68 : fl_ok "DoorVoice" 68 3 1 := ⟨_, _, _, _, cl_3, by decide, ax_in 56 rfl rfl⟩
set_option maxRecDepth 20000 in
theorem lf_S_18 : fl_ok "DoorVoice$Street" 18 3 2 := ⟨_, _, _, _, cl_3, by decide, ax_in 57 rfl rfl⟩
set_option maxRecDepth 20000 in
theorem lf_L_53 : fl_ok "DoorVoice$Listener" 53 3 2 := ⟨_, _, _, _, cl_3, by decide, ax_in 58 rfl rfl⟩
set_option maxRecDepth 20000 in
theorem lf_V_90 : fl_ok "DoorVoice" 90 3 2 := ⟨_, _, _, _, cl_3, by decide, ax_in 59 rfl rfl⟩
set_option maxRecDepth 20000 in
theorem lf_P_73 : fl_ok "DoorVoice$Pad" 73 3 2 := ⟨_, _, _, _, cl_3, by decide, ax_in 60 rfl rfl⟩
set_option maxRecDepth 20000 in
theorem lf_S_21 : fl_ok "DoorVoice$Street" 21 3 3 := ⟨_, _, _, _, cl_3, by decide, ax_in 61 rfl rfl⟩
set_option maxRecDepth 20000 in
theorem lf_V_93 : fl_ok "DoorVoice" 93 3 3 := ⟨_, _, _, _, cl_3, by decide, ax_in 62 rfl rfl⟩
set_option maxRecDepth 20000 in
theorem lf_S_24 : fl_ok "DoorVoice$Street" 24 3 4 := ⟨_, _, _, _, cl_3, by decide, ax_in 63 rfl rfl⟩
set_option maxRecDepth 20000 in
theorem lf_V_96 : fl_ok "DoorVoice" 96 3 4 := ⟨_, _, _, _, cl_3, by decide, ax_in 64 rfl rfl⟩
set_option maxRecDepth 20000 in
theorem lf_S_27 : fl_ok "DoorVoice$Street" 27 3 5 := ⟨_, _, _, _, cl_3, by decide, ax_in 65 rfl rfl⟩
set_option maxRecDepth 20000 in
theorem lf_V_99 : fl_ok "DoorVoice" 99 3 5 := ⟨_, _, _, _, cl_3, by decide, ax_in 66 rfl rfl⟩
set_option maxRecDepth 20000 in
theorem lf_S_30 : fl_ok "DoorVoice$Street" 30 3 6 := ⟨_, _, _, _, cl_3, by decide, ax_in 67 rfl rfl⟩
set_option maxRecDepth 20000 in
theorem lf_L_18 : fl_ok "DoorVoice$Listener" 18 3 6 := ⟨_, _, _, _, cl_3, by decide, ax_in 68 rfl rfl⟩
set_option maxRecDepth 20000 in
theorem lf_V_58 : fl_ok "DoorVoice" 58 3 6 := ⟨_, _, _, _, cl_3, by decide, ax_in 69 rfl rfl⟩
set_option maxRecDepth 20000 in
theorem lf_P_67 : fl_ok "DoorVoice$Pad" 67 3 6 := ⟨_, _, _, _, cl_3, by decide, ax_in 70 rfl rfl⟩
set_option maxRecDepth 20000 in
theorem lf_S_34 : fl_ok "DoorVoice$Street" 34 3 7 := ⟨_, _, _, _, cl_3, by decide, ax_in 71 rfl rfl⟩
set_option maxRecDepth 20000 in
theorem lf_V_65 : fl_ok "DoorVoice" 65 3 7 := ⟨_, _, _, _, cl_3, by decide, ax_in 72 rfl rfl⟩
set_option maxRecDepth 20000 in
theorem lf_S_37 : fl_ok "DoorVoice$Street" 37 3 8 := ⟨_, _, _, _, cl_3, by decide, ax_in 73 rfl rfl⟩
set_option maxRecDepth 20000 in
theorem lf_V_102 : fl_ok "DoorVoice" 102 3 8 := ⟨_, _, _, _, cl_3, by decide, ax_in 74 rfl rfl⟩
set_option maxRecDepth 20000 in
theorem lf_S_40 : fl_ok "DoorVoice$Street" 40 3 9 := ⟨_, _, _, _, cl_3, by decide, ax_in 75 rfl rfl⟩
set_option maxRecDepth 20000 in
theorem lf_V_81 : fl_ok "DoorVoice" 81 3 9 := ⟨_, _, _, _, cl_3, by decide, ax_in 76 rfl rfl⟩
set_option maxRecDepth 20000 in
theorem lf_S_43 : fl_ok "DoorVoice$Street" 43 3 10 := ⟨_, _, _, _, cl_3, by decide, ax_in 77 rfl rfl⟩
set_option maxRecDepth 20000 in
theorem lf_V_84 : fl_ok "DoorVoice" 84 3 10 := ⟨_, _, _, _, cl_3, by decide, ax_in 78 rfl rfl⟩
set_option maxRecDepth 20000 in
theorem lf_S_46 : fl_ok "DoorVoice$Street" 46 3 11 := ⟨_, _, _, _, cl_3, by decide, ax_in 79 rfl rfl⟩
set_option maxRecDepth 20000 in
theorem lf_L_41 : fl_ok "DoorVoice$Listener" 41 3 11 := ⟨_, _, _, _, cl_3, by decide, ax_in 80 rfl rfl⟩
set_option maxRecDepth 20000 in
theorem lf_V_87 : fl_ok "DoorVoice" 87 3 11 := ⟨_, _, _, _, cl_3, by decide, ax_in 81 rfl rfl⟩
set_option maxRecDepth 20000 in
theorem lf_P_64 : fl_ok "DoorVoice$Pad" 64 3 11 := ⟨_, _, _, _, cl_3, by decide, ax_in 82 rfl rfl⟩
set_option maxRecDepth 20000 in
theorem lf_S_49 : fl_ok "DoorVoice$Street" 49 3 12 := ⟨_, _, _, _, cl_3, by decide, ax_in 83 rfl rfl⟩
set_option maxRecDepth 20000 in
theorem lf_V_136 : fl_ok "DoorVoice" 136 3 12 := ⟨_, _, _, _, cl_3, by decide, ax_in 84 rfl rfl⟩
set_option maxRecDepth 20000 in
theorem lf_S_52 : fl_ok "DoorVoice$Street" 52 3 13 := ⟨_, _, _, _, cl_3, by decide, ax_in 85 rfl rfl⟩
set_option maxRecDepth 20000 in
theorem lf_V_167 : fl_ok "DoorVoice" 167 3 13 := ⟨_, _, _, _, cl_3, by decide, ax_in 86 rfl rfl⟩
set_option maxRecDepth 20000 in
theorem lf_S_55 : fl_ok "DoorVoice$Street" 55 3 14 := ⟨_, _, _, _, cl_3, by decide, ax_in 87 rfl rfl⟩
set_option maxRecDepth 20000 in
theorem lf_L_56 : fl_ok "DoorVoice$Listener" 56 3 14 := ⟨_, _, _, _, cl_3, by decide, ax_in 88 rfl rfl⟩
set_option maxRecDepth 20000 in
theorem lf_V_170 : fl_ok "DoorVoice" 170 3 14 := ⟨_, _, _, _, cl_3, by decide, ax_in 89 rfl rfl⟩
set_option maxRecDepth 20000 in
theorem lf_S_58 : fl_ok "DoorVoice$Street" 58 3 15 := ⟨_, _, _, _, cl_3, by decide, ax_in 90 rfl rfl⟩
set_option maxRecDepth 20000 in
theorem lf_L_59 : fl_ok "DoorVoice$Listener" 59 3 15 := ⟨_, _, _, _, cl_3, by decide, ax_in 91 rfl rfl⟩
set_option maxRecDepth 20000 in
theorem lf_V_173 : fl_ok "DoorVoice" 173 3 15 := ⟨_, _, _, _, cl_3, by decide, ax_in 92 rfl rfl⟩
set_option maxRecDepth 20000 in
theorem lf_P_9 : fl_ok "DoorVoice$Pad" 9 2 0 := ⟨_, _, _, _, cl_2, by decide, ax_in 133 rfl rfl⟩
set_option maxRecDepth 20000 in
theorem lf_P_15 : fl_ok "DoorVoice$Pad" 15 2 1 := ⟨_, _, _, _, cl_2, by decide, ax_in 134 rfl rfl⟩
set_option maxRecDepth 20000 in
theorem lf_V_109 : fl_ok "DoorVoice" 109 2 1 := ⟨_, _, _, _, cl_2, by decide, ax_in 135 rfl rfl⟩
set_option maxRecDepth 20000 in
theorem lf_P_19 : fl_ok "DoorVoice$Pad" 19 2 2 := ⟨_, _, _, _, cl_2, by decide, ax_in 136 rfl rfl⟩
set_option maxRecDepth 20000 in
theorem lf_V_133 : fl_ok "DoorVoice" 133 2 2 := ⟨_, _, _, _, cl_2, by decide, ax_in 137 rfl rfl⟩
set_option maxRecDepth 20000 in
theorem lf_P_22 : fl_ok "DoorVoice$Pad" 22 2 3 := ⟨_, _, _, _, cl_2, by decide, ax_in 138 rfl rfl⟩
set_option maxRecDepth 20000 in
theorem lf_V_123 : fl_ok "DoorVoice" 123 2 3 := ⟨_, _, _, _, cl_2, by decide, ax_in 139 rfl rfl⟩
set_option maxRecDepth 20000 in
theorem lf_P_25 : fl_ok "DoorVoice$Pad" 25 2 4 := ⟨_, _, _, _, cl_2, by decide, ax_in 140 rfl rfl⟩
set_option maxRecDepth 20000 in
theorem lf_V_126 : fl_ok "DoorVoice" 126 2 4 := ⟨_, _, _, _, cl_2, by decide, ax_in 141 rfl rfl⟩
set_option maxRecDepth 20000 in
theorem lf_P_28 : fl_ok "DoorVoice$Pad" 28 2 5 := ⟨_, _, _, _, cl_2, by decide, ax_in 142 rfl rfl⟩
set_option maxRecDepth 20000 in
theorem lf_V_139 : fl_ok "DoorVoice" 139 2 5 := ⟨_, _, _, _, cl_2, by decide, ax_in 143 rfl rfl⟩
set_option maxRecDepth 20000 in
theorem lf_L_9 : fl_ok "DoorVoice$Listener" 9 1 0 := ⟨_, _, _, _, cl_1, by decide, ax_in 163 rfl rfl⟩
set_option maxRecDepth 20000 in
theorem lf_L_15 : fl_ok "DoorVoice$Listener" 15 1 1 := ⟨_, _, _, _, cl_1, by decide, ax_in 164 rfl rfl⟩
set_option maxRecDepth 20000 in
theorem lf_C_9 : fl_ok "DoorVoice$Chances" 9 0 0 := ⟨_, _, _, _, cl_0, by decide, ax_in 176 rfl rfl⟩
set_option maxRecDepth 20000 in
theorem lf_C_15 : fl_ok "DoorVoice$Chances" 15 0 1 := ⟨_, _, _, _, cl_0, by decide, ax_in 177 rfl rfl⟩
set_option maxRecDepth 20000 in
theorem lf_C_19 : fl_ok "DoorVoice$Chances" 19 0 2 := ⟨_, _, _, _, cl_0, by decide, ax_in 178 rfl rfl⟩
set_option maxRecDepth 20000 in
theorem lf_C_22 : fl_ok "DoorVoice$Chances" 22 0 3 := ⟨_, _, _, _, cl_0, by decide, ax_in 179 rfl rfl⟩
set_option maxRecDepth 20000 in
theorem lf_V_210 : fl_ok "DoorVoice" 210 0 3 := ⟨_, _, _, _, cl_0, by decide, ax_in 180 rfl rfl⟩
set_option maxRecDepth 20000 in
theorem lf_C_26 : fl_ok "DoorVoice$Chances" 26 0 4 := ⟨_, _, _, _, cl_0, by decide, ax_in 181 rfl rfl⟩
set_option maxRecDepth 20000 in
theorem lf_V_214 : fl_ok "DoorVoice" 214 0 4 := ⟨_, _, _, _, cl_0, by decide, ax_in 182 rfl rfl⟩
set_option maxRecDepth 20000 in
theorem lf_V_10 : fl_ok "DoorVoice" 10 4 0 := ⟨_, _, _, _, cl_4, by decide, ax_in 195 rfl rfl⟩
set_option maxRecDepth 20000 in
theorem lf_V_16 : fl_ok "DoorVoice" 16 4 1 := ⟨_, _, _, _, cl_4, by decide, ax_in 196 rfl rfl⟩
set_option maxRecDepth 20000 in
theorem lf_V_19 : fl_ok "DoorVoice" 19 4 2 := ⟨_, _, _, _, cl_4, by decide, ax_in 197 rfl rfl⟩
set_option maxRecDepth 20000 in
theorem lf_V_22 : fl_ok "DoorVoice" 22 4 3 := ⟨_, _, _, _, cl_4, by decide, ax_in 198 rfl rfl⟩
set_option maxRecDepth 20000 in
theorem lf_V_28 : fl_ok "DoorVoice" 28 4 4 := ⟨_, _, _, _, cl_4, by decide, ax_in 199 rfl rfl⟩
set_option maxRecDepth 20000 in
theorem lf_V_35 : fl_ok "DoorVoice" 35 4 5 := ⟨_, _, _, _, cl_4, by decide, ax_in 200 rfl rfl⟩
set_option maxRecDepth 20000 in
theorem lf_V_42 : fl_ok "DoorVoice" 42 4 6 := ⟨_, _, _, _, cl_4, by decide, ax_in 201 rfl rfl⟩
set_option maxRecDepth 20000 in
theorem lf_V_46 : fl_ok "DoorVoice" 46 4 7 := ⟨_, _, _, _, cl_4, by decide, ax_in 202 rfl rfl⟩
set_option maxRecDepth 20000 in
theorem lf_M_7 : fl_ok "DoorVoiceModel" 7 5 0 := ⟨_, _, _, _, cl_5, by decide, ax_in 544 rfl rfl⟩
set_option maxRecDepth 20000 in
theorem lf_M_13 : fl_ok "DoorVoiceModel" 13 5 1 := ⟨_, _, _, _, cl_5, by decide, ax_in 545 rfl rfl⟩
set_option maxRecDepth 20000 in
theorem lf_M_49 : fl_ok "DoorVoiceModel" 49 5 2 := ⟨_, _, _, _, cl_5, by decide, ax_in 546 rfl rfl⟩
set_option maxRecDepth 20000 in
theorem lf_M_16 : fl_ok "DoorVoiceModel" 16 5 3 := ⟨_, _, _, _, cl_5, by decide, ax_in 547 rfl rfl⟩
set_option maxRecDepth 20000 in
theorem lf_M_19 : fl_ok "DoorVoiceModel" 19 5 4 := ⟨_, _, _, _, cl_5, by decide, ax_in 548 rfl rfl⟩
set_option maxRecDepth 20000 in
theorem lf_M_60 : fl_ok "DoorVoiceModel" 60 5 5 := ⟨_, _, _, _, cl_5, by decide, ax_in 549 rfl rfl⟩
set_option maxRecDepth 20000 in
theorem lf_M_23 : fl_ok "DoorVoiceModel" 23 5 6 := ⟨_, _, _, _, cl_5, by decide, ax_in 550 rfl rfl⟩
set_option maxRecDepth 20000 in
theorem lf_M_126 : fl_ok "DoorVoiceModel" 126 5 7 := ⟨_, _, _, _, cl_5, by decide, ax_in 551 rfl rfl⟩
set_option maxRecDepth 20000 in
theorem lf_M_26 : fl_ok "DoorVoiceModel" 26 5 8 := ⟨_, _, _, _, cl_5, by decide, ax_in 552 rfl rfl⟩
set_option maxRecDepth 20000 in
theorem lf_M_63 : fl_ok "DoorVoiceModel" 63 5 9 := ⟨_, _, _, _, cl_5, by decide, ax_in 553 rfl rfl⟩
set_option maxRecDepth 20000 in
theorem lf_M_29 : fl_ok "DoorVoiceModel" 29 5 10 := ⟨_, _, _, _, cl_5, by decide, ax_in 554 rfl rfl⟩
set_option maxRecDepth 20000 in
theorem lf_M_32 : fl_ok "DoorVoiceModel" 32 5 11 := ⟨_, _, _, _, cl_5, by decide, ax_in 555 rfl rfl⟩
set_option maxRecDepth 20000 in
theorem lf_M_84 : fl_ok "DoorVoiceModel" 84 5 12 := ⟨_, _, _, _, cl_5, by decide, ax_in 556 rfl rfl⟩
set_option maxRecDepth 20000 in
theorem lf_M_97 : fl_ok "DoorVoiceModel" 97 5 13 := ⟨_, _, _, _, cl_5, by decide, ax_in 557 rfl rfl⟩
set_option maxRecDepth 20000 in
theorem lf_M_91 : fl_ok "DoorVoiceModel" 91 5 14 := ⟨_, _, _, _, cl_5, by decide, ax_in 558 rfl rfl⟩
set_option maxRecDepth 20000 in
theorem lf_M_94 : fl_ok "DoorVoiceModel" 94 5 15 := ⟨_, _, _, _, cl_5, by decide, ax_in 559 rfl rfl⟩
set_option maxRecDepth 20000 in
theorem lf_M_35 : fl_ok "DoorVoiceModel" 35 5 16 := ⟨_, _, _, _, cl_5, by decide, ax_in 560 rfl rfl⟩
set_option maxRecDepth 20000 in
theorem lf_M_38 : fl_ok "DoorVoiceModel" 38 5 17 := ⟨_, _, _, _, cl_5, by decide, ax_in 561 rfl rfl⟩
set_option maxRecDepth 20000 in
theorem lf_M_42 : fl_ok "DoorVoiceModel" 42 5 18 := ⟨_, _, _, _, cl_5, by decide, ax_in 562 rfl rfl⟩
set_option maxRecDepth 20000 in
theorem lf_M_45 : fl_ok "DoorVoiceModel" 45 5 19 := ⟨_, _, _, _, cl_5, by decide, ax_in 563 rfl rfl⟩
abbrev m_V_init : MethodName × ByteArray × Nat × Option FieldType := (⟨"DoorVoice", "<init>", "()V"⟩, prog_1_method_1_code, 1, none)
abbrev m_V_house : MethodName × ByteArray × Nat × Option FieldType := (⟨"DoorVoice", "house", "(IZZI)I"⟩, prog_1_method_2_code, 6, (some .int))
abbrev m_V_wall : MethodName × ByteArray × Nat × Option FieldType := (⟨"DoorVoice", "wall", "(II)I"⟩, prog_1_method_3_code, 4, (some .int))
abbrev m_V_set : MethodName × ByteArray × Nat × Option FieldType := (⟨"DoorVoice", "set", "(II)I"⟩, prog_1_method_4_code, 3, (some .int))
abbrev m_V_setVoice : MethodName × ByteArray × Nat × Option FieldType := (⟨"DoorVoice", "setVoice", "(I)I"⟩, prog_1_method_5_code, 3, (some .int))
abbrev m_V_setWind : MethodName × ByteArray × Nat × Option FieldType := (⟨"DoorVoice", "setWind", "(I)I"⟩, prog_1_method_6_code, 3, (some .int))
abbrev m_V_setPlace : MethodName × ByteArray × Nat × Option FieldType := (⟨"DoorVoice", "setPlace", "(I)I"⟩, prog_1_method_7_code, 3, (some .int))
abbrev m_V_letter : MethodName × ByteArray × Nat × Option FieldType := (⟨"DoorVoice", "letter", "(IIIII)I"⟩, prog_1_method_8_code, 7, (some .int))
abbrev m_V_say : MethodName × ByteArray × Nat × Option FieldType := (⟨"DoorVoice", "say", "(I)I"⟩, prog_1_method_9_code, 2, (some .int))
abbrev m_V_wipe : MethodName × ByteArray × Nat × Option FieldType := (⟨"DoorVoice", "wipe", "()I"⟩, prog_1_method_10_code, 1, (some .int))
abbrev m_V_fault : MethodName × ByteArray × Nat × Option FieldType := (⟨"DoorVoice", "fault", "()I"⟩, prog_1_method_11_code, 1, (some .int))
abbrev m_V_judge : MethodName × ByteArray × Nat × Option FieldType := (⟨"DoorVoice", "judge", "(I)I"⟩, prog_1_method_12_code, 2, (some .int))
abbrev m_V_done : MethodName × ByteArray × Nat × Option FieldType := (⟨"DoorVoice", "done", "()I"⟩, prog_1_method_13_code, 1, (some .int))
abbrev m_V_knows : MethodName × ByteArray × Nat × Option FieldType := (⟨"DoorVoice", "knows", "(I)I"⟩, prog_1_method_14_code, 2, (some .int))
abbrev m_V_behind : MethodName × ByteArray × Nat × Option FieldType := (⟨"DoorVoice", "behind", "(I)I"⟩, prog_1_method_15_code, 2, (some .int))
abbrev m_V_who : MethodName × ByteArray × Nat × Option FieldType := (⟨"DoorVoice", "who", "(I)I"⟩, prog_1_method_16_code, 4, (some .int))
abbrev m_V_loud : MethodName × ByteArray × Nat × Option FieldType := (⟨"DoorVoice", "loud", "(II)I"⟩, prog_1_method_17_code, 3, (some .int))
abbrev m_V_hears : MethodName × ByteArray × Nat × Option FieldType := (⟨"DoorVoice", "hears", "(I)I"⟩, prog_1_method_18_code, 2, (some .int))
abbrev m_V_best : MethodName × ByteArray × Nat × Option FieldType := (⟨"DoorVoice", "best", "(II)I"⟩, prog_1_method_19_code, 3, (some .int))
abbrev m_V_thirds : MethodName × ByteArray × Nat × Option FieldType := (⟨"DoorVoice", "thirds", "(II)I"⟩, prog_1_method_20_code, 3, (some .int))
abbrev m_V_round : MethodName × ByteArray × Nat × Option FieldType := (⟨"DoorVoice", "round", "(II)I"⟩, prog_1_method_21_code, 3, (some .int))
abbrev m_V_seen : MethodName × ByteArray × Nat × Option FieldType := (⟨"DoorVoice", "seen", "(IZ)I"⟩, prog_1_method_22_code, 3, (some .int))
abbrev m_V_forget : MethodName × ByteArray × Nat × Option FieldType := (⟨"DoorVoice", "forget", "()I"⟩, prog_1_method_23_code, 2, (some .int))
abbrev m_V_at : MethodName × ByteArray × Nat × Option FieldType := (⟨"DoorVoice", "at", "()I"⟩, prog_1_method_24_code, 1, (some .int))
abbrev m_V_ask : MethodName × ByteArray × Nat × Option FieldType := (⟨"DoorVoice", "ask", "(I)I"⟩, prog_1_method_25_code, 3, (some .int))
abbrev m_V_rumour : MethodName × ByteArray × Nat × Option FieldType := (⟨"DoorVoice", "rumour", "(II)I"⟩, prog_1_method_26_code, 3, (some .int))
abbrev m_V_chance : MethodName × ByteArray × Nat × Option FieldType := (⟨"DoorVoice", "chance", "(IIII)J"⟩, prog_1_method_27_code, 5, (some .long))
abbrev m_V_year : MethodName × ByteArray × Nat × Option FieldType := (⟨"DoorVoice", "year", "(III)I"⟩, prog_1_method_28_code, 4, (some .int))
abbrev m_V_image : MethodName × ByteArray × Nat × Option FieldType := (⟨"DoorVoice", "image", "(I)I"⟩, prog_1_method_29_code, 2, (some .int))
abbrev m_V_restore : MethodName × ByteArray × Nat × Option FieldType := (⟨"DoorVoice", "restore", "(I)I"⟩, prog_1_method_30_code, 2, (some .int))
abbrev m_V_imageNumbered : MethodName × ByteArray × Nat × Option FieldType := (⟨"DoorVoice", "imageNumbered", "(I)LDoorVoice$Street;"⟩, prog_1_method_31_code, 2, (some (.object "DoorVoice$Street")))
abbrev m_V_told : MethodName × ByteArray × Nat × Option FieldType := (⟨"DoorVoice", "told", "(I)I"⟩, prog_1_method_32_code, 2, (some .int))
abbrev m_V_toldOfAll : MethodName × ByteArray × Nat × Option FieldType := (⟨"DoorVoice", "toldOfAll", "(I)I"⟩, prog_1_method_33_code, 2, (some .int))
abbrev m_V_toldOfLetter : MethodName × ByteArray × Nat × Option FieldType := (⟨"DoorVoice", "toldOfLetter", "(II)I"⟩, prog_1_method_34_code, 3, (some .int))
abbrev m_V_within : MethodName × ByteArray × Nat × Option FieldType := (⟨"DoorVoice", "within", "(III)Z"⟩, prog_1_method_35_code, 3, (some .boolean))
abbrev m_V_hasBit : MethodName × ByteArray × Nat × Option FieldType := (⟨"DoorVoice", "hasBit", "(II)Z"⟩, prog_1_method_36_code, 2, (some .boolean))
abbrev m_V_withBit : MethodName × ByteArray × Nat × Option FieldType := (⟨"DoorVoice", "withBit", "(IIZ)I"⟩, prog_1_method_37_code, 3, (some .int))
abbrev m_M_init : MethodName × ByteArray × Nat × Option FieldType := (⟨"DoorVoiceModel", "<init>", "()V"⟩, prog_7_method_1_code, 1, none)
abbrev m_M_in : MethodName × ByteArray × Nat × Option FieldType := (⟨"DoorVoiceModel", "in", "(III)Z"⟩, prog_7_method_2_code, 3, (some .boolean))
abbrev m_M_has : MethodName × ByteArray × Nat × Option FieldType := (⟨"DoorVoiceModel", "has", "(II)Z"⟩, prog_7_method_3_code, 2, (some .boolean))
abbrev m_M_bits : MethodName × ByteArray × Nat × Option FieldType := (⟨"DoorVoiceModel", "bits", "(I)I"⟩, prog_7_method_4_code, 3, (some .int))
abbrev m_M_isHouse : MethodName × ByteArray × Nat × Option FieldType := (⟨"DoorVoiceModel", "isHouse", "(I)Z"⟩, prog_7_method_5_code, 1, (some .boolean))
abbrev m_M_house : MethodName × ByteArray × Nat × Option FieldType := (⟨"DoorVoiceModel", "house", "(IZZI)I"⟩, prog_7_method_6_code, 6, (some .int))
abbrev m_M_wall : MethodName × ByteArray × Nat × Option FieldType := (⟨"DoorVoiceModel", "wall", "(II)I"⟩, prog_7_method_7_code, 4, (some .int))
abbrev m_M_set : MethodName × ByteArray × Nat × Option FieldType := (⟨"DoorVoiceModel", "set", "(II)I"⟩, prog_7_method_8_code, 4, (some .int))
abbrev m_M_letter : MethodName × ByteArray × Nat × Option FieldType := (⟨"DoorVoiceModel", "letter", "(IIIII)I"⟩, prog_7_method_9_code, 7, (some .int))
abbrev m_M_say : MethodName × ByteArray × Nat × Option FieldType := (⟨"DoorVoiceModel", "say", "(I)I"⟩, prog_7_method_10_code, 2, (some .int))
abbrev m_M_wipe : MethodName × ByteArray × Nat × Option FieldType := (⟨"DoorVoiceModel", "wipe", "()I"⟩, prog_7_method_11_code, 2, (some .int))
abbrev m_M_isLetter : MethodName × ByteArray × Nat × Option FieldType := (⟨"DoorVoiceModel", "isLetter", "(I)Z"⟩, prog_7_method_12_code, 1, (some .boolean))
abbrev m_M_faultOf : MethodName × ByteArray × Nat × Option FieldType := (⟨"DoorVoiceModel", "faultOf", "()I"⟩, prog_7_method_13_code, 4, (some .int))
abbrev m_M_fault : MethodName × ByteArray × Nat × Option FieldType := (⟨"DoorVoiceModel", "fault", "()I"⟩, prog_7_method_14_code, 1, (some .int))
abbrev m_M_loudAt : MethodName × ByteArray × Nat × Option FieldType := (⟨"DoorVoiceModel", "loudAt", "(II)I"⟩, prog_7_method_15_code, 6, (some .int))
abbrev m_M_doesHear : MethodName × ByteArray × Nat × Option FieldType := (⟨"DoorVoiceModel", "doesHear", "(III)Z"⟩, prog_7_method_16_code, 5, (some .boolean))
abbrev m_M_hearers : MethodName × ByteArray × Nat × Option FieldType := (⟨"DoorVoiceModel", "hearers", "(II)I"⟩, prog_7_method_17_code, 5, (some .int))
abbrev m_M_asNow : MethodName × ByteArray × Nat × Option FieldType := (⟨"DoorVoiceModel", "asNow", "()V"⟩, prog_7_method_18_code, 2, none)
abbrev m_M_goTo : MethodName × ByteArray × Nat × Option FieldType := (⟨"DoorVoiceModel", "goTo", "(I)I"⟩, prog_7_method_19_code, 2, (some .int))
abbrev m_M_read : MethodName × ByteArray × Nat × Option FieldType := (⟨"DoorVoiceModel", "read", "(I)I"⟩, prog_7_method_20_code, 3, (some .int))
abbrev m_M_evening : MethodName × ByteArray × Nat × Option FieldType := (⟨"DoorVoiceModel", "evening", "()I"⟩, prog_7_method_21_code, 2, (some .int))
abbrev m_M_goDays : MethodName × ByteArray × Nat × Option FieldType := (⟨"DoorVoiceModel", "goDays", "()I"⟩, prog_7_method_22_code, 3, (some .int))
abbrev m_M_judge : MethodName × ByteArray × Nat × Option FieldType := (⟨"DoorVoiceModel", "judge", "(I)I"⟩, prog_7_method_23_code, 3, (some .int))
abbrev m_M_barOfDays : MethodName × ByteArray × Nat × Option FieldType := (⟨"DoorVoiceModel", "barOfDays", "()I"⟩, prog_7_method_24_code, 1, (some .int))
abbrev m_M_done : MethodName × ByteArray × Nat × Option FieldType := (⟨"DoorVoiceModel", "done", "()I"⟩, prog_7_method_25_code, 2, (some .int))
abbrev m_M_knows : MethodName × ByteArray × Nat × Option FieldType := (⟨"DoorVoiceModel", "knows", "(I)I"⟩, prog_7_method_26_code, 2, (some .int))
abbrev m_M_behind : MethodName × ByteArray × Nat × Option FieldType := (⟨"DoorVoiceModel", "behind", "(I)I"⟩, prog_7_method_27_code, 2, (some .int))
abbrev m_M_who : MethodName × ByteArray × Nat × Option FieldType := (⟨"DoorVoiceModel", "who", "(I)I"⟩, prog_7_method_28_code, 4, (some .int))
abbrev m_M_loud : MethodName × ByteArray × Nat × Option FieldType := (⟨"DoorVoiceModel", "loud", "(II)I"⟩, prog_7_method_29_code, 3, (some .int))
abbrev m_M_hears : MethodName × ByteArray × Nat × Option FieldType := (⟨"DoorVoiceModel", "hears", "(I)I"⟩, prog_7_method_30_code, 2, (some .int))
abbrev m_M_best : MethodName × ByteArray × Nat × Option FieldType := (⟨"DoorVoiceModel", "best", "(II)I"⟩, prog_7_method_31_code, 9, (some .int))
abbrev m_M_laySets : MethodName × ByteArray × Nat × Option FieldType := (⟨"DoorVoiceModel", "laySets", "()V"⟩, prog_7_method_32_code, 2, none)
abbrev m_M_thirds : MethodName × ByteArray × Nat × Option FieldType := (⟨"DoorVoiceModel", "thirds", "(II)I"⟩, prog_7_method_33_code, 8, (some .int))
abbrev m_M_round : MethodName × ByteArray × Nat × Option FieldType := (⟨"DoorVoiceModel", "round", "(II)I"⟩, prog_7_method_34_code, 12, (some .int))
abbrev m_M_seen : MethodName × ByteArray × Nat × Option FieldType := (⟨"DoorVoiceModel", "seen", "(IZ)I"⟩, prog_7_method_35_code, 3, (some .int))
abbrev m_M_forget : MethodName × ByteArray × Nat × Option FieldType := (⟨"DoorVoiceModel", "forget", "()I"⟩, prog_7_method_36_code, 2, (some .int))
abbrev m_M_atSet : MethodName × ByteArray × Nat × Option FieldType := (⟨"DoorVoiceModel", "atSet", "()I"⟩, prog_7_method_37_code, 5, (some .int))
abbrev m_M_at : MethodName × ByteArray × Nat × Option FieldType := (⟨"DoorVoiceModel", "at", "()I"⟩, prog_7_method_38_code, 1, (some .int))
abbrev m_M_ask : MethodName × ByteArray × Nat × Option FieldType := (⟨"DoorVoiceModel", "ask", "(I)I"⟩, prog_7_method_39_code, 8, (some .int))
abbrev m_M_spread : MethodName × ByteArray × Nat × Option FieldType := (⟨"DoorVoiceModel", "spread", "(I)I"⟩, prog_7_method_40_code, 4, (some .int))
abbrev m_M_rumour : MethodName × ByteArray × Nat × Option FieldType := (⟨"DoorVoiceModel", "rumour", "(II)I"⟩, prog_7_method_41_code, 5, (some .int))
abbrev m_M_chance : MethodName × ByteArray × Nat × Option FieldType := (⟨"DoorVoiceModel", "chance", "(IIII)J"⟩, prog_7_method_42_code, 17, (some .long))
abbrev m_M_year : MethodName × ByteArray × Nat × Option FieldType := (⟨"DoorVoiceModel", "year", "(III)I"⟩, prog_7_method_43_code, 7, (some .int))
abbrev m_M_image : MethodName × ByteArray × Nat × Option FieldType := (⟨"DoorVoiceModel", "image", "(I)I"⟩, prog_7_method_44_code, 4, (some .int))
abbrev m_M_restore : MethodName × ByteArray × Nat × Option FieldType := (⟨"DoorVoiceModel", "restore", "(I)I"⟩, prog_7_method_45_code, 4, (some .int))
abbrev m_M_told : MethodName × ByteArray × Nat × Option FieldType := (⟨"DoorVoiceModel", "told", "(I)I"⟩, prog_7_method_46_code, 2, (some .int))
abbrev m_C_init : MethodName × ByteArray × Nat × Option FieldType := (⟨"DoorVoice$Chances", "<init>", "()V"⟩, prog_2_method_1_code, 1, none)
abbrev m_C_weigh : MethodName × ByteArray × Nat × Option FieldType := (⟨"DoorVoice$Chances", "weigh", "(LDoorVoice$Street;I)V"⟩, prog_2_method_2_code, 6, none)
abbrev m_C_findMean : MethodName × ByteArray × Nat × Option FieldType := (⟨"DoorVoice$Chances", "findMean", "(I)V"⟩, prog_2_method_3_code, 2, none)
abbrev m_C_findAtMost : MethodName × ByteArray × Nat × Option FieldType := (⟨"DoorVoice$Chances", "findAtMost", "(II)V"⟩, prog_2_method_4_code, 8, none)
abbrev m_C_countWays : MethodName × ByteArray × Nat × Option FieldType := (⟨"DoorVoice$Chances", "countWays", "(I)V"⟩, prog_2_method_5_code, 4, none)
abbrev m_C_putLowest : MethodName × ByteArray × Nat × Option FieldType := (⟨"DoorVoice$Chances", "putLowest", "(JJ)V"⟩, prog_2_method_6_code, 7, none)
abbrev m_C_greatestDivisor : MethodName × ByteArray × Nat × Option FieldType := (⟨"DoorVoice$Chances", "greatestDivisor", "(JJ)J"⟩, prog_2_method_7_code, 11, (some .long))
abbrev m_L_init : MethodName × ByteArray × Nat × Option FieldType := (⟨"DoorVoice$Listener", "<init>", "()V"⟩, prog_3_method_1_code, 1, none)
abbrev m_L_listen : MethodName × ByteArray × Nat × Option FieldType := (⟨"DoorVoice$Listener", "listen", "(LDoorVoice$Street;)V"⟩, prog_3_method_2_code, 3, none)
abbrev m_L_placesFor : MethodName × ByteArray × Nat × Option FieldType := (⟨"DoorVoice$Listener", "placesFor", "(I)I"⟩, prog_3_method_3_code, 4, (some .int))
abbrev m_L_bestFor : MethodName × ByteArray × Nat × Option FieldType := (⟨"DoorVoice$Listener", "bestFor", "(IZ)I"⟩, prog_3_method_4_code, 7, (some .int))
abbrev m_L_thirdsFor : MethodName × ByteArray × Nat × Option FieldType := (⟨"DoorVoice$Listener", "thirdsFor", "(IZ)I"⟩, prog_3_method_5_code, 8, (some .int))
abbrev m_L_leastWalk : MethodName × ByteArray × Nat × Option FieldType := (⟨"DoorVoice$Listener", "leastWalk", "(LDoorVoice$Street;IZ)I"⟩, prog_3_method_6_code, 11, (some .int))
abbrev m_L_allCanBeRead : MethodName × ByteArray × Nat × Option FieldType := (⟨"DoorVoice$Listener", "allCanBeRead", "(LDoorVoice$Street;III)Z"⟩, prog_3_method_7_code, 7, (some .boolean))
abbrev m_L_placesThatFit : MethodName × ByteArray × Nat × Option FieldType := (⟨"DoorVoice$Listener", "placesThatFit", "(LDoorVoice$Street;)I"⟩, prog_3_method_8_code, 6, (some .int))
abbrev m_L_bestToAsk : MethodName × ByteArray × Nat × Option FieldType := (⟨"DoorVoice$Listener", "bestToAsk", "(IZ)I"⟩, prog_3_method_9_code, 9, (some .int))
abbrev m_P_init : MethodName × ByteArray × Nat × Option FieldType := (⟨"DoorVoice$Pad", "<init>", "()V"⟩, prog_4_method_1_code, 1, none)
abbrev m_P_write : MethodName × ByteArray × Nat × Option FieldType := (⟨"DoorVoice$Pad", "write", "(I)Z"⟩, prog_4_method_2_code, 2, (some .boolean))
abbrev m_P_clean : MethodName × ByteArray × Nat × Option FieldType := (⟨"DoorVoice$Pad", "clean", "()I"⟩, prog_4_method_3_code, 2, (some .int))
abbrev m_P_faultPlace : MethodName × ByteArray × Nat × Option FieldType := (⟨"DoorVoice$Pad", "faultPlace", "()I"⟩, prog_4_method_4_code, 4, (some .int))
abbrev m_P_kindOf : MethodName × ByteArray × Nat × Option FieldType := (⟨"DoorVoice$Pad", "kindOf", "(I)I"⟩, prog_4_method_5_code, 1, (some .int))
abbrev m_P_numberOf : MethodName × ByteArray × Nat × Option FieldType := (⟨"DoorVoice$Pad", "numberOf", "(I)I"⟩, prog_4_method_6_code, 2, (some .int))
abbrev m_P_playsToTheEnd : MethodName × ByteArray × Nat × Option FieldType := (⟨"DoorVoice$Pad", "playsToTheEnd", "(LDoorVoice$Street;LDoorVoice$Street;)Z"⟩, prog_4_method_7_code, 5, (some .boolean))
abbrev m_P_playAct : MethodName × ByteArray × Nat × Option FieldType := (⟨"DoorVoice$Pad", "playAct", "(LDoorVoice$Street;II)V"⟩, prog_4_method_8_code, 5, none)
abbrev m_P_goesAstray : MethodName × ByteArray × Nat × Option FieldType := (⟨"DoorVoice$Pad", "goesAstray", "(LDoorVoice$Street;I)Z"⟩, prog_4_method_9_code, 2, (some .boolean))
abbrev m_S_init : MethodName × ByteArray × Nat × Option FieldType := (⟨"DoorVoice$Street", "<init>", "()V"⟩, prog_5_method_1_code, 1, none)
abbrev m_S_takeFrom : MethodName × ByteArray × Nat × Option FieldType := (⟨"DoorVoice$Street", "takeFrom", "(LDoorVoice$Street;)V"⟩, prog_5_method_2_code, 2, none)
abbrev m_S_loudness : MethodName × ByteArray × Nat × Option FieldType := (⟨"DoorVoice$Street", "loudness", "(II)I"⟩, prog_5_method_3_code, 6, (some .int))
abbrev m_S_reached : MethodName × ByteArray × Nat × Option FieldType := (⟨"DoorVoice$Street", "reached", "(II)I"⟩, prog_5_method_4_code, 7, (some .int))
abbrev m_S_hearers : MethodName × ByteArray × Nat × Option FieldType := (⟨"DoorVoice$Street", "hearers", "(II)I"⟩, prog_5_method_5_code, 5, (some .int))
abbrev m_S_whyNot : MethodName × ByteArray × Nat × Option FieldType := (⟨"DoorVoice$Street", "whyNot", "(II)I"⟩, prog_5_method_6_code, 3, (some .int))
abbrev m_S_carryOut : MethodName × ByteArray × Nat × Option FieldType := (⟨"DoorVoice$Street", "carryOut", "(II)V"⟩, prog_5_method_7_code, 3, none)
abbrev m_S_readOut : MethodName × ByteArray × Nat × Option FieldType := (⟨"DoorVoice$Street", "readOut", "(I)V"⟩, prog_5_method_8_code, 4, none)
abbrev m_S_passEvening : MethodName × ByteArray × Nat × Option FieldType := (⟨"DoorVoice$Street", "passEvening", "()V"⟩, prog_5_method_9_code, 4, none)
abbrev m_S_tellsEastward : MethodName × ByteArray × Nat × Option FieldType := (⟨"DoorVoice$Street", "tellsEastward", "(I)Z"⟩, prog_5_method_10_code, 2, (some .boolean))
abbrev m_S_knowersOfRumour : MethodName × ByteArray × Nat × Option FieldType := (⟨"DoorVoice$Street", "knowersOfRumour", "(II)I"⟩, prog_5_method_11_code, 5, (some .int))
abbrev m_S_eveningsOfRumour : MethodName × ByteArray × Nat × Option FieldType := (⟨"DoorVoice$Street", "eveningsOfRumour", "(I)I"⟩, prog_5_method_12_code, 5, (some .int))
abbrev m_S_toldOnward : MethodName × ByteArray × Nat × Option FieldType := (⟨"DoorVoice$Street", "toldOnward", "(I)I"⟩, prog_5_method_13_code, 4, (some .int))
abbrev m_S_drawYear : MethodName × ByteArray × Nat × Option FieldType := (⟨"DoorVoice$Street", "drawYear", "(II)V"⟩, prog_5_method_14_code, 7, none)
abbrev m_S_drawnKind : MethodName × ByteArray × Nat × Option FieldType := (⟨"DoorVoice$Street", "drawnKind", "(I)I"⟩, prog_5_method_15_code, 1, (some .int))
abbrev m_S_factsKnown : MethodName × ByteArray × Nat × Option FieldType := (⟨"DoorVoice$Street", "factsKnown", "()I"⟩, prog_5_method_16_code, 3, (some .int))
abbrev m_B_bitCount : MethodName × ByteArray × Nat × Option FieldType := (⟨"java/lang/Integer", "bitCount", "(I)I"⟩, prog_8_method_49_code, 1, (some .int))
abbrev m_W_law : MethodName × ByteArray × Nat × Option FieldType := (⟨"DoorVoiceLaw", "law", "([I)Z"⟩, code, 4, some .boolean)
set_option maxRecDepth 20000 in
theorem wc_V_init : Cond.code m_V_init.1 m_V_init.2.1 m_V_init.2.2.1 m_V_init.2.2.2 ∈ ax_T := ax_in 43 rfl rfl
set_option maxRecDepth 20000 in
theorem wc_V_house : Cond.code m_V_house.1 m_V_house.2.1 m_V_house.2.2.1 m_V_house.2.2.2 ∈ ax_T := ax_in 223 rfl rfl
set_option maxRecDepth 20000 in
theorem wc_V_wall : Cond.code m_V_wall.1 m_V_wall.2.1 m_V_wall.2.2.1 m_V_wall.2.2.2 ∈ ax_T := ax_in 233 rfl rfl
set_option maxRecDepth 20000 in
theorem wc_V_set : Cond.code m_V_set.1 m_V_set.2.1 m_V_set.2.2.1 m_V_set.2.2.2 ∈ ax_T := ax_in 237 rfl rfl
set_option maxRecDepth 20000 in
theorem wc_V_setVoice : Cond.code m_V_setVoice.1 m_V_setVoice.2.1 m_V_setVoice.2.2.1 m_V_setVoice.2.2.2 ∈ ax_T := ax_in 241 rfl rfl
set_option maxRecDepth 20000 in
theorem wc_V_setWind : Cond.code m_V_setWind.1 m_V_setWind.2.1 m_V_setWind.2.2.1 m_V_setWind.2.2.2 ∈ ax_T := ax_in 245 rfl rfl
set_option maxRecDepth 20000 in
theorem wc_V_setPlace : Cond.code m_V_setPlace.1 m_V_setPlace.2.1 m_V_setPlace.2.2.1 m_V_setPlace.2.2.2 ∈ ax_T := ax_in 249 rfl rfl
set_option maxRecDepth 20000 in
theorem wc_V_letter : Cond.code m_V_letter.1 m_V_letter.2.1 m_V_letter.2.2.1 m_V_letter.2.2.2 ∈ ax_T := ax_in 253 rfl rfl
set_option maxRecDepth 20000 in
theorem wc_V_say : Cond.code m_V_say.1 m_V_say.2.1 m_V_say.2.2.1 m_V_say.2.2.2 ∈ ax_T := ax_in 257 rfl rfl
set_option maxRecDepth 20000 in
theorem wc_V_wipe : Cond.code m_V_wipe.1 m_V_wipe.2.1 m_V_wipe.2.2.1 m_V_wipe.2.2.2 ∈ ax_T := ax_in 265 rfl rfl
set_option maxRecDepth 20000 in
theorem wc_V_fault : Cond.code m_V_fault.1 m_V_fault.2.1 m_V_fault.2.2.1 m_V_fault.2.2.2 ∈ ax_T := ax_in 273 rfl rfl
set_option maxRecDepth 20000 in
theorem wc_V_judge : Cond.code m_V_judge.1 m_V_judge.2.1 m_V_judge.2.2.1 m_V_judge.2.2.2 ∈ ax_T := ax_in 284 rfl rfl
set_option maxRecDepth 20000 in
theorem wc_V_done : Cond.code m_V_done.1 m_V_done.2.1 m_V_done.2.2.1 m_V_done.2.2.2 ∈ ax_T := ax_in 343 rfl rfl
set_option maxRecDepth 20000 in
theorem wc_V_knows : Cond.code m_V_knows.1 m_V_knows.2.1 m_V_knows.2.2.1 m_V_knows.2.2.2 ∈ ax_T := ax_in 348 rfl rfl
set_option maxRecDepth 20000 in
theorem wc_V_behind : Cond.code m_V_behind.1 m_V_behind.2.1 m_V_behind.2.2.1 m_V_behind.2.2.2 ∈ ax_T := ax_in 352 rfl rfl
set_option maxRecDepth 20000 in
theorem wc_V_who : Cond.code m_V_who.1 m_V_who.2.1 m_V_who.2.2.1 m_V_who.2.2.2 ∈ ax_T := ax_in 356 rfl rfl
set_option maxRecDepth 20000 in
theorem wc_V_loud : Cond.code m_V_loud.1 m_V_loud.2.1 m_V_loud.2.2.1 m_V_loud.2.2.2 ∈ ax_T := ax_in 361 rfl rfl
set_option maxRecDepth 20000 in
theorem wc_V_hears : Cond.code m_V_hears.1 m_V_hears.2.1 m_V_hears.2.2.1 m_V_hears.2.2.2 ∈ ax_T := ax_in 372 rfl rfl
set_option maxRecDepth 20000 in
theorem wc_V_best : Cond.code m_V_best.1 m_V_best.2.1 m_V_best.2.2.1 m_V_best.2.2.2 ∈ ax_T := ax_in 377 rfl rfl
set_option maxRecDepth 20000 in
theorem wc_V_thirds : Cond.code m_V_thirds.1 m_V_thirds.2.1 m_V_thirds.2.2.1 m_V_thirds.2.2.2 ∈ ax_T := ax_in 401 rfl rfl
set_option maxRecDepth 20000 in
theorem wc_V_round : Cond.code m_V_round.1 m_V_round.2.1 m_V_round.2.2.1 m_V_round.2.2.2 ∈ ax_T := ax_in 409 rfl rfl
set_option maxRecDepth 20000 in
theorem wc_V_seen : Cond.code m_V_seen.1 m_V_seen.2.1 m_V_seen.2.2.1 m_V_seen.2.2.2 ∈ ax_T := ax_in 424 rfl rfl
set_option maxRecDepth 20000 in
theorem wc_V_forget : Cond.code m_V_forget.1 m_V_forget.2.1 m_V_forget.2.2.1 m_V_forget.2.2.2 ∈ ax_T := ax_in 428 rfl rfl
set_option maxRecDepth 20000 in
theorem wc_V_at : Cond.code m_V_at.1 m_V_at.2.1 m_V_at.2.2.1 m_V_at.2.2.2 ∈ ax_T := ax_in 432 rfl rfl
set_option maxRecDepth 20000 in
theorem wc_V_ask : Cond.code m_V_ask.1 m_V_ask.2.1 m_V_ask.2.2.1 m_V_ask.2.2.2 ∈ ax_T := ax_in 440 rfl rfl
set_option maxRecDepth 20000 in
theorem wc_V_rumour : Cond.code m_V_rumour.1 m_V_rumour.2.1 m_V_rumour.2.2.1 m_V_rumour.2.2.2 ∈ ax_T := ax_in 449 rfl rfl
set_option maxRecDepth 20000 in
theorem wc_V_chance : Cond.code m_V_chance.1 m_V_chance.2.1 m_V_chance.2.2.1 m_V_chance.2.2.2 ∈ ax_T := ax_in 466 rfl rfl
set_option maxRecDepth 20000 in
theorem wc_V_year : Cond.code m_V_year.1 m_V_year.2.1 m_V_year.2.2.1 m_V_year.2.2.2 ∈ ax_T := ax_in 498 rfl rfl
set_option maxRecDepth 20000 in
theorem wc_V_image : Cond.code m_V_image.1 m_V_image.2.1 m_V_image.2.2.1 m_V_image.2.2.2 ∈ ax_T := ax_in 517 rfl rfl
set_option maxRecDepth 20000 in
theorem wc_V_restore : Cond.code m_V_restore.1 m_V_restore.2.1 m_V_restore.2.2.1 m_V_restore.2.2.2 ∈ ax_T := ax_in 525 rfl rfl
set_option maxRecDepth 20000 in
theorem wc_V_imageNumbered : Cond.code m_V_imageNumbered.1 m_V_imageNumbered.2.1 m_V_imageNumbered.2.2.1 m_V_imageNumbered.2.2.2 ∈ ax_T := ax_in 521 rfl rfl
set_option maxRecDepth 20000 in
theorem wc_V_told : Cond.code m_V_told.1 m_V_told.2.1 m_V_told.2.2.1 m_V_told.2.2.2 ∈ ax_T := ax_in 529 rfl rfl
set_option maxRecDepth 20000 in
theorem wc_V_toldOfAll : Cond.code m_V_toldOfAll.1 m_V_toldOfAll.2.1 m_V_toldOfAll.2.2.1 m_V_toldOfAll.2.2.2 ∈ ax_T := ax_in 533 rfl rfl
set_option maxRecDepth 20000 in
theorem wc_V_toldOfLetter : Cond.code m_V_toldOfLetter.1 m_V_toldOfLetter.2.1 m_V_toldOfLetter.2.2.1 m_V_toldOfLetter.2.2.2 ∈ ax_T := ax_in 537 rfl rfl
set_option maxRecDepth 20000 in
theorem wc_V_within : Cond.code m_V_within.1 m_V_within.2.1 m_V_within.2.2.1 m_V_within.2.2.2 ∈ ax_T := ax_in 226 rfl rfl
set_option maxRecDepth 20000 in
theorem wc_V_hasBit : Cond.code m_V_hasBit.1 m_V_hasBit.2.1 m_V_hasBit.2.2.1 m_V_hasBit.2.2.2 ∈ ax_T := ax_in 310 rfl rfl
set_option maxRecDepth 20000 in
theorem wc_V_withBit : Cond.code m_V_withBit.1 m_V_withBit.2.1 m_V_withBit.2.2.1 m_V_withBit.2.2.2 ∈ ax_T := ax_in 229 rfl rfl
set_option maxRecDepth 20000 in
theorem wc_M_init : Cond.code m_M_init.1 m_M_init.2.1 m_M_init.2.2.1 m_M_init.2.2.2 ∈ ax_T := ax_in 542 rfl rfl
set_option maxRecDepth 20000 in
theorem wc_M_in : Cond.code m_M_in.1 m_M_in.2.1 m_M_in.2.2.1 m_M_in.2.2.2 ∈ ax_T := ax_in 615 rfl rfl
set_option maxRecDepth 20000 in
theorem wc_M_has : Cond.code m_M_has.1 m_M_has.2.1 m_M_has.2.2.1 m_M_has.2.2.2 ∈ ax_T := ax_in 665 rfl rfl
set_option maxRecDepth 20000 in
theorem wc_M_bits : Cond.code m_M_bits.1 m_M_bits.2.1 m_M_bits.2.2.1 m_M_bits.2.2.2 ∈ ax_T := ax_in 721 rfl rfl
set_option maxRecDepth 20000 in
theorem wc_M_isHouse : Cond.code m_M_isHouse.1 m_M_isHouse.2.1 m_M_isHouse.2.2.1 m_M_isHouse.2.2.2 ∈ ax_T := ax_in 612 rfl rfl
set_option maxRecDepth 20000 in
theorem wc_M_house : Cond.code m_M_house.1 m_M_house.2.1 m_M_house.2.2.1 m_M_house.2.2.2 ∈ ax_T := ax_in 609 rfl rfl
set_option maxRecDepth 20000 in
theorem wc_M_wall : Cond.code m_M_wall.1 m_M_wall.2.1 m_M_wall.2.2.1 m_M_wall.2.2.2 ∈ ax_T := ax_in 619 rfl rfl
set_option maxRecDepth 20000 in
theorem wc_M_set : Cond.code m_M_set.1 m_M_set.2.1 m_M_set.2.2.1 m_M_set.2.2.2 ∈ ax_T := ax_in 623 rfl rfl
set_option maxRecDepth 20000 in
theorem wc_M_letter : Cond.code m_M_letter.1 m_M_letter.2.1 m_M_letter.2.2.1 m_M_letter.2.2.2 ∈ ax_T := ax_in 627 rfl rfl
set_option maxRecDepth 20000 in
theorem wc_M_say : Cond.code m_M_say.1 m_M_say.2.1 m_M_say.2.2.1 m_M_say.2.2.2 ∈ ax_T := ax_in 631 rfl rfl
set_option maxRecDepth 20000 in
theorem wc_M_wipe : Cond.code m_M_wipe.1 m_M_wipe.2.1 m_M_wipe.2.2.1 m_M_wipe.2.2.2 ∈ ax_T := ax_in 635 rfl rfl
set_option maxRecDepth 20000 in
theorem wc_M_isLetter : Cond.code m_M_isLetter.1 m_M_isLetter.2.1 m_M_isLetter.2.2.1 m_M_isLetter.2.2.2 ∈ ax_T := ax_in 646 rfl rfl
set_option maxRecDepth 20000 in
theorem wc_M_faultOf : Cond.code m_M_faultOf.1 m_M_faultOf.2.1 m_M_faultOf.2.2.1 m_M_faultOf.2.2.2 ∈ ax_T := ax_in 643 rfl rfl
set_option maxRecDepth 20000 in
theorem wc_M_fault : Cond.code m_M_fault.1 m_M_fault.2.1 m_M_fault.2.2.1 m_M_fault.2.2.2 ∈ ax_T := ax_in 639 rfl rfl
set_option maxRecDepth 20000 in
theorem wc_M_loudAt : Cond.code m_M_loudAt.1 m_M_loudAt.2.1 m_M_loudAt.2.2.1 m_M_loudAt.2.2.2 ∈ ax_T := ax_in 681 rfl rfl
set_option maxRecDepth 20000 in
theorem wc_M_doesHear : Cond.code m_M_doesHear.1 m_M_doesHear.2.1 m_M_doesHear.2.2.1 m_M_doesHear.2.2.2 ∈ ax_T := ax_in 677 rfl rfl
set_option maxRecDepth 20000 in
theorem wc_M_hearers : Cond.code m_M_hearers.1 m_M_hearers.2.1 m_M_hearers.2.2.1 m_M_hearers.2.2.2 ∈ ax_T := ax_in 713 rfl rfl
set_option maxRecDepth 20000 in
theorem wc_M_asNow : Cond.code m_M_asNow.1 m_M_asNow.2.1 m_M_asNow.2.2.1 m_M_asNow.2.2.2 ∈ ax_T := ax_in 658 rfl rfl
set_option maxRecDepth 20000 in
theorem wc_M_goTo : Cond.code m_M_goTo.1 m_M_goTo.2.1 m_M_goTo.2.2.1 m_M_goTo.2.2.2 ∈ ax_T := ax_in 669 rfl rfl
set_option maxRecDepth 20000 in
theorem wc_M_read : Cond.code m_M_read.1 m_M_read.2.1 m_M_read.2.2.1 m_M_read.2.2.2 ∈ ax_T := ax_in 673 rfl rfl
set_option maxRecDepth 20000 in
theorem wc_M_evening : Cond.code m_M_evening.1 m_M_evening.2.1 m_M_evening.2.2.1 m_M_evening.2.2.2 ∈ ax_T := ax_in 662 rfl rfl
set_option maxRecDepth 20000 in
theorem wc_M_goDays : Cond.code m_M_goDays.1 m_M_goDays.2.1 m_M_goDays.2.2.1 m_M_goDays.2.2.2 ∈ ax_T := ax_in 654 rfl rfl
set_option maxRecDepth 20000 in
theorem wc_M_judge : Cond.code m_M_judge.1 m_M_judge.2.1 m_M_judge.2.2.1 m_M_judge.2.2.2 ∈ ax_T := ax_in 650 rfl rfl
set_option maxRecDepth 20000 in
theorem wc_M_barOfDays : Cond.code m_M_barOfDays.1 m_M_barOfDays.2.1 m_M_barOfDays.2.2.1 m_M_barOfDays.2.2.2 ∈ ax_T := ax_in 689 rfl rfl
set_option maxRecDepth 20000 in
theorem wc_M_done : Cond.code m_M_done.1 m_M_done.2.1 m_M_done.2.2.1 m_M_done.2.2.2 ∈ ax_T := ax_in 685 rfl rfl
set_option maxRecDepth 20000 in
theorem wc_M_knows : Cond.code m_M_knows.1 m_M_knows.2.1 m_M_knows.2.2.1 m_M_knows.2.2.2 ∈ ax_T := ax_in 693 rfl rfl
set_option maxRecDepth 20000 in
theorem wc_M_behind : Cond.code m_M_behind.1 m_M_behind.2.1 m_M_behind.2.2.1 m_M_behind.2.2.2 ∈ ax_T := ax_in 697 rfl rfl
set_option maxRecDepth 20000 in
theorem wc_M_who : Cond.code m_M_who.1 m_M_who.2.1 m_M_who.2.2.1 m_M_who.2.2.2 ∈ ax_T := ax_in 701 rfl rfl
set_option maxRecDepth 20000 in
theorem wc_M_loud : Cond.code m_M_loud.1 m_M_loud.2.1 m_M_loud.2.2.1 m_M_loud.2.2.2 ∈ ax_T := ax_in 705 rfl rfl
set_option maxRecDepth 20000 in
theorem wc_M_hears : Cond.code m_M_hears.1 m_M_hears.2.1 m_M_hears.2.2.1 m_M_hears.2.2.2 ∈ ax_T := ax_in 709 rfl rfl
set_option maxRecDepth 20000 in
theorem wc_M_best : Cond.code m_M_best.1 m_M_best.2.1 m_M_best.2.2.1 m_M_best.2.2.2 ∈ ax_T := ax_in 717 rfl rfl
set_option maxRecDepth 20000 in
theorem wc_M_laySets : Cond.code m_M_laySets.1 m_M_laySets.2.1 m_M_laySets.2.2.1 m_M_laySets.2.2.2 ∈ ax_T := ax_in 729 rfl rfl
set_option maxRecDepth 20000 in
theorem wc_M_thirds : Cond.code m_M_thirds.1 m_M_thirds.2.1 m_M_thirds.2.2.1 m_M_thirds.2.2.2 ∈ ax_T := ax_in 725 rfl rfl
set_option maxRecDepth 20000 in
theorem wc_M_round : Cond.code m_M_round.1 m_M_round.2.1 m_M_round.2.2.1 m_M_round.2.2.2 ∈ ax_T := ax_in 733 rfl rfl
set_option maxRecDepth 20000 in
theorem wc_M_seen : Cond.code m_M_seen.1 m_M_seen.2.1 m_M_seen.2.2.1 m_M_seen.2.2.2 ∈ ax_T := ax_in 737 rfl rfl
set_option maxRecDepth 20000 in
theorem wc_M_forget : Cond.code m_M_forget.1 m_M_forget.2.1 m_M_forget.2.2.1 m_M_forget.2.2.2 ∈ ax_T := ax_in 741 rfl rfl
set_option maxRecDepth 20000 in
theorem wc_M_atSet : Cond.code m_M_atSet.1 m_M_atSet.2.1 m_M_atSet.2.2.1 m_M_atSet.2.2.2 ∈ ax_T := ax_in 749 rfl rfl
set_option maxRecDepth 20000 in
theorem wc_M_at : Cond.code m_M_at.1 m_M_at.2.1 m_M_at.2.2.1 m_M_at.2.2.2 ∈ ax_T := ax_in 745 rfl rfl
set_option maxRecDepth 20000 in
theorem wc_M_ask : Cond.code m_M_ask.1 m_M_ask.2.1 m_M_ask.2.2.1 m_M_ask.2.2.2 ∈ ax_T := ax_in 753 rfl rfl
set_option maxRecDepth 20000 in
theorem wc_M_spread : Cond.code m_M_spread.1 m_M_spread.2.1 m_M_spread.2.2.1 m_M_spread.2.2.2 ∈ ax_T := ax_in 761 rfl rfl
set_option maxRecDepth 20000 in
theorem wc_M_rumour : Cond.code m_M_rumour.1 m_M_rumour.2.1 m_M_rumour.2.2.1 m_M_rumour.2.2.2 ∈ ax_T := ax_in 757 rfl rfl
set_option maxRecDepth 20000 in
theorem wc_M_chance : Cond.code m_M_chance.1 m_M_chance.2.1 m_M_chance.2.2.1 m_M_chance.2.2.2 ∈ ax_T := ax_in 765 rfl rfl
set_option maxRecDepth 20000 in
theorem wc_M_year : Cond.code m_M_year.1 m_M_year.2.1 m_M_year.2.2.1 m_M_year.2.2.2 ∈ ax_T := ax_in 772 rfl rfl
set_option maxRecDepth 20000 in
theorem wc_M_image : Cond.code m_M_image.1 m_M_image.2.1 m_M_image.2.2.1 m_M_image.2.2.2 ∈ ax_T := ax_in 777 rfl rfl
set_option maxRecDepth 20000 in
theorem wc_M_restore : Cond.code m_M_restore.1 m_M_restore.2.1 m_M_restore.2.2.1 m_M_restore.2.2.2 ∈ ax_T := ax_in 781 rfl rfl
set_option maxRecDepth 20000 in
theorem wc_M_told : Cond.code m_M_told.1 m_M_told.2.1 m_M_told.2.2.1 m_M_told.2.2.2 ∈ ax_T := ax_in 785 rfl rfl
set_option maxRecDepth 20000 in
theorem wc_C_init : Cond.code m_C_init.1 m_C_init.2.1 m_C_init.2.2.1 m_C_init.2.2.2 ∈ ax_T := ax_in 174 rfl rfl
set_option maxRecDepth 20000 in
theorem wc_C_weigh : Cond.code m_C_weigh.1 m_C_weigh.2.1 m_C_weigh.2.2.1 m_C_weigh.2.2.2 ∈ ax_T := ax_in 472 rfl rfl
set_option maxRecDepth 20000 in
theorem wc_C_findMean : Cond.code m_C_findMean.1 m_C_findMean.2.1 m_C_findMean.2.2.1 m_C_findMean.2.2.2 ∈ ax_T := ax_in 478 rfl rfl
set_option maxRecDepth 20000 in
theorem wc_C_findAtMost : Cond.code m_C_findAtMost.1 m_C_findAtMost.2.1 m_C_findAtMost.2.2.1 m_C_findAtMost.2.2.2 ∈ ax_T := ax_in 490 rfl rfl
set_option maxRecDepth 20000 in
theorem wc_C_countWays : Cond.code m_C_countWays.1 m_C_countWays.2.1 m_C_countWays.2.2.1 m_C_countWays.2.2.2 ∈ ax_T := ax_in 494 rfl rfl
set_option maxRecDepth 20000 in
theorem wc_C_putLowest : Cond.code m_C_putLowest.1 m_C_putLowest.2.1 m_C_putLowest.2.2.1 m_C_putLowest.2.2.2 ∈ ax_T := ax_in 483 rfl rfl
set_option maxRecDepth 20000 in
theorem wc_C_greatestDivisor : Cond.code m_C_greatestDivisor.1 m_C_greatestDivisor.2.1 m_C_greatestDivisor.2.2.1 m_C_greatestDivisor.2.2.2 ∈ ax_T := ax_in 486 rfl rfl
set_option maxRecDepth 20000 in
theorem wc_L_init : Cond.code m_L_init.1 m_L_init.2.1 m_L_init.2.2.1 m_L_init.2.2.2 ∈ ax_T := ax_in 161 rfl rfl
set_option maxRecDepth 20000 in
theorem wc_L_listen : Cond.code m_L_listen.1 m_L_listen.2.1 m_L_listen.2.2.1 m_L_listen.2.2.2 ∈ ax_T := ax_in 381 rfl rfl
set_option maxRecDepth 20000 in
theorem wc_L_placesFor : Cond.code m_L_placesFor.1 m_L_placesFor.2.1 m_L_placesFor.2.2.1 m_L_placesFor.2.2.2 ∈ ax_T := ax_in 386 rfl rfl
set_option maxRecDepth 20000 in
theorem wc_L_bestFor : Cond.code m_L_bestFor.1 m_L_bestFor.2.1 m_L_bestFor.2.2.1 m_L_bestFor.2.2.2 ∈ ax_T := ax_in 391 rfl rfl
set_option maxRecDepth 20000 in
theorem wc_L_thirdsFor : Cond.code m_L_thirdsFor.1 m_L_thirdsFor.2.1 m_L_thirdsFor.2.2.1 m_L_thirdsFor.2.2.2 ∈ ax_T := ax_in 405 rfl rfl
set_option maxRecDepth 20000 in
theorem wc_L_leastWalk : Cond.code m_L_leastWalk.1 m_L_leastWalk.2.1 m_L_leastWalk.2.2.1 m_L_leastWalk.2.2.2 ∈ ax_T := ax_in 413 rfl rfl
set_option maxRecDepth 20000 in
theorem wc_L_allCanBeRead : Cond.code m_L_allCanBeRead.1 m_L_allCanBeRead.2.1 m_L_allCanBeRead.2.2.1 m_L_allCanBeRead.2.2.2 ∈ ax_T := ax_in 420 rfl rfl
set_option maxRecDepth 20000 in
theorem wc_L_placesThatFit : Cond.code m_L_placesThatFit.1 m_L_placesThatFit.2.1 m_L_placesThatFit.2.2.1 m_L_placesThatFit.2.2.2 ∈ ax_T := ax_in 436 rfl rfl
set_option maxRecDepth 20000 in
theorem wc_L_bestToAsk : Cond.code m_L_bestToAsk.1 m_L_bestToAsk.2.1 m_L_bestToAsk.2.2.1 m_L_bestToAsk.2.2.2 ∈ ax_T := ax_in 444 rfl rfl
set_option maxRecDepth 20000 in
theorem wc_P_init : Cond.code m_P_init.1 m_P_init.2.1 m_P_init.2.2.1 m_P_init.2.2.2 ∈ ax_T := ax_in 131 rfl rfl
set_option maxRecDepth 20000 in
theorem wc_P_write : Cond.code m_P_write.1 m_P_write.2.1 m_P_write.2.2.1 m_P_write.2.2.2 ∈ ax_T := ax_in 261 rfl rfl
set_option maxRecDepth 20000 in
theorem wc_P_clean : Cond.code m_P_clean.1 m_P_clean.2.1 m_P_clean.2.2.1 m_P_clean.2.2.2 ∈ ax_T := ax_in 269 rfl rfl
set_option maxRecDepth 20000 in
theorem wc_P_faultPlace : Cond.code m_P_faultPlace.1 m_P_faultPlace.2.1 m_P_faultPlace.2.2.1 m_P_faultPlace.2.2.2 ∈ ax_T := ax_in 277 rfl rfl
set_option maxRecDepth 20000 in
theorem wc_P_kindOf : Cond.code m_P_kindOf.1 m_P_kindOf.2.1 m_P_kindOf.2.2.1 m_P_kindOf.2.2.2 ∈ ax_T := ax_in 280 rfl rfl
set_option maxRecDepth 20000 in
theorem wc_P_numberOf : Cond.code m_P_numberOf.1 m_P_numberOf.2.1 m_P_numberOf.2.2.1 m_P_numberOf.2.2.2 ∈ ax_T := ax_in 299 rfl rfl
set_option maxRecDepth 20000 in
theorem wc_P_playsToTheEnd : Cond.code m_P_playsToTheEnd.1 m_P_playsToTheEnd.2.1 m_P_playsToTheEnd.2.2.1 m_P_playsToTheEnd.2.2.2 ∈ ax_T := ax_in 288 rfl rfl
set_option maxRecDepth 20000 in
theorem wc_P_playAct : Cond.code m_P_playAct.1 m_P_playAct.2.1 m_P_playAct.2.2.1 m_P_playAct.2.2.2 ∈ ax_T := ax_in 303 rfl rfl
set_option maxRecDepth 20000 in
theorem wc_P_goesAstray : Cond.code m_P_goesAstray.1 m_P_goesAstray.2.1 m_P_goesAstray.2.2.1 m_P_goesAstray.2.2.2 ∈ ax_T := ax_in 313 rfl rfl
set_option maxRecDepth 20000 in
theorem wc_S_init : Cond.code m_S_init.1 m_S_init.2.1 m_S_init.2.2.1 m_S_init.2.2.2 ∈ ax_T := ax_in 51 rfl rfl
set_option maxRecDepth 20000 in
theorem wc_S_takeFrom : Cond.code m_S_takeFrom.1 m_S_takeFrom.2.1 m_S_takeFrom.2.2.1 m_S_takeFrom.2.2.2 ∈ ax_T := ax_in 293 rfl rfl
set_option maxRecDepth 20000 in
theorem wc_S_loudness : Cond.code m_S_loudness.1 m_S_loudness.2.1 m_S_loudness.2.2.1 m_S_loudness.2.2.2 ∈ ax_T := ax_in 365 rfl rfl
set_option maxRecDepth 20000 in
theorem wc_S_reached : Cond.code m_S_reached.1 m_S_reached.2.1 m_S_reached.2.2.1 m_S_reached.2.2.2 ∈ ax_T := ax_in 321 rfl rfl
set_option maxRecDepth 20000 in
theorem wc_S_hearers : Cond.code m_S_hearers.1 m_S_hearers.2.1 m_S_hearers.2.2.1 m_S_hearers.2.2.2 ∈ ax_T := ax_in 317 rfl rfl
set_option maxRecDepth 20000 in
theorem wc_S_whyNot : Cond.code m_S_whyNot.1 m_S_whyNot.2.1 m_S_whyNot.2.2.1 m_S_whyNot.2.2.2 ∈ ax_T := ax_in 307 rfl rfl
set_option maxRecDepth 20000 in
theorem wc_S_carryOut : Cond.code m_S_carryOut.1 m_S_carryOut.2.1 m_S_carryOut.2.2.1 m_S_carryOut.2.2.2 ∈ ax_T := ax_in 326 rfl rfl
set_option maxRecDepth 20000 in
theorem wc_S_readOut : Cond.code m_S_readOut.1 m_S_readOut.2.1 m_S_readOut.2.2.1 m_S_readOut.2.2.2 ∈ ax_T := ax_in 330 rfl rfl
set_option maxRecDepth 20000 in
theorem wc_S_passEvening : Cond.code m_S_passEvening.1 m_S_passEvening.2.1 m_S_passEvening.2.2.1 m_S_passEvening.2.2.2 ∈ ax_T := ax_in 335 rfl rfl
set_option maxRecDepth 20000 in
theorem wc_S_tellsEastward : Cond.code m_S_tellsEastward.1 m_S_tellsEastward.2.1 m_S_tellsEastward.2.2.1 m_S_tellsEastward.2.2.2 ∈ ax_T := ax_in 339 rfl rfl
set_option maxRecDepth 20000 in
theorem wc_S_knowersOfRumour : Cond.code m_S_knowersOfRumour.1 m_S_knowersOfRumour.2.1 m_S_knowersOfRumour.2.2.1 m_S_knowersOfRumour.2.2.2 ∈ ax_T := ax_in 461 rfl rfl
set_option maxRecDepth 20000 in
theorem wc_S_eveningsOfRumour : Cond.code m_S_eveningsOfRumour.1 m_S_eveningsOfRumour.2.1 m_S_eveningsOfRumour.2.2.1 m_S_eveningsOfRumour.2.2.2 ∈ ax_T := ax_in 453 rfl rfl
set_option maxRecDepth 20000 in
theorem wc_S_toldOnward : Cond.code m_S_toldOnward.1 m_S_toldOnward.2.1 m_S_toldOnward.2.2.1 m_S_toldOnward.2.2.2 ∈ ax_T := ax_in 457 rfl rfl
set_option maxRecDepth 20000 in
theorem wc_S_drawYear : Cond.code m_S_drawYear.1 m_S_drawYear.2.1 m_S_drawYear.2.2.1 m_S_drawYear.2.2.2 ∈ ax_T := ax_in 502 rfl rfl
set_option maxRecDepth 20000 in
theorem wc_S_drawnKind : Cond.code m_S_drawnKind.1 m_S_drawnKind.2.1 m_S_drawnKind.2.2.1 m_S_drawnKind.2.2.2 ∈ ax_T := ax_in 506 rfl rfl
set_option maxRecDepth 20000 in
theorem wc_S_factsKnown : Cond.code m_S_factsKnown.1 m_S_factsKnown.2.1 m_S_factsKnown.2.2.1 m_S_factsKnown.2.2.2 ∈ ax_T := ax_in 512 rfl rfl
set_option maxRecDepth 20000 in
theorem wc_B_bitCount : Cond.code m_B_bitCount.1 m_B_bitCount.2.1 m_B_bitCount.2.2.1 m_B_bitCount.2.2.2 ∈ ax_T := ax_in 394 rfl rfl
set_option maxRecDepth 20000 in
theorem wn_W : Cond.initialized "DoorVoiceLaw" ∈ ax_T := ax_in 29 rfl rfl
set_option maxRecDepth 20000 in
theorem wn_V : Cond.initialized "DoorVoice" ∈ ax_T := ax_in 30 rfl rfl
set_option maxRecDepth 20000 in
theorem wn_S : Cond.initialized "DoorVoice$Street" ∈ ax_T := ax_in 31 rfl rfl
set_option maxRecDepth 20000 in
theorem wn_P : Cond.initialized "DoorVoice$Pad" ∈ ax_T := ax_in 32 rfl rfl
set_option maxRecDepth 20000 in
theorem wn_L : Cond.initialized "DoorVoice$Listener" ∈ ax_T := ax_in 33 rfl rfl
set_option maxRecDepth 20000 in
theorem wn_C : Cond.initialized "DoorVoice$Chances" ∈ ax_T := ax_in 34 rfl rfl
set_option maxRecDepth 20000 in
theorem wn_M : Cond.initialized "DoorVoiceModel" ∈ ax_T := ax_in 35 rfl rfl
set_option maxRecDepth 20000 in
theorem wn_Y : Cond.initialized "java/lang/System" ∈ ax_T := ax_in 36 rfl rfl
set_option maxRecDepth 20000 in
theorem wn_H : Cond.initialized "java/lang/Math" ∈ ax_T := ax_in 37 rfl rfl
set_option maxRecDepth 20000 in
theorem wn_B : Cond.initialized "java/lang/Integer" ∈ ax_T := ax_in 38 rfl rfl
set_option maxRecDepth 20000 in
theorem lk_W_7 : Cond.classLink "DoorVoiceLaw" 7 "DoorVoice" ∈ ax_T := ax_in 39 rfl rfl
set_option maxRecDepth 20000 in
theorem wt_V : Cond.instantiable "DoorVoice" 8 ∈ ax_T := ax_in 40 rfl rfl
set_option maxRecDepth 20000 in
theorem lm_W_9 : Cond.methodLink "DoorVoiceLaw" 9 ⟨"DoorVoice", "<init>", "()V"⟩ ∈ ax_T := ax_in 41 rfl rfl
set_option maxRecDepth 20000 in
theorem wi_V_init : Cond.instanceMethod ⟨"DoorVoice", "<init>", "()V"⟩ ∈ ax_T := ax_in 42 rfl rfl
set_option maxRecDepth 20000 in
theorem lm_V_1 : Cond.methodLink "DoorVoice" 1 ⟨"java/lang/Object", "<init>", "()V"⟩ ∈ ax_T := ax_in 44 rfl rfl
set_option maxRecDepth 20000 in
theorem wi_O_init : Cond.instanceMethod ⟨"java/lang/Object", "<init>", "()V"⟩ ∈ ax_T := ax_in 45 rfl rfl
set_option maxRecDepth 20000 in
theorem lk_V_7 : Cond.classLink "DoorVoice" 7 "DoorVoice$Street" ∈ ax_T := ax_in 47 rfl rfl
set_option maxRecDepth 20000 in
theorem wt_S : Cond.instantiable "DoorVoice$Street" 16 ∈ ax_T := ax_in 48 rfl rfl
set_option maxRecDepth 20000 in
theorem wi_S_init : Cond.instanceMethod ⟨"DoorVoice$Street", "<init>", "()V"⟩ ∈ ax_T := ax_in 50 rfl rfl
set_option maxRecDepth 20000 in
theorem lm_S_3 : Cond.methodLink "DoorVoice$Street" 3 ⟨"java/lang/Object", "<init>", "()V"⟩ ∈ ax_T := ax_in 52 rfl rfl
set_option maxRecDepth 20000 in
theorem wa_int : Cond.arrayClass .int ∈ ax_T := ax_in 126 rfl rfl
set_option maxRecDepth 20000 in
theorem lk_V_25 : Cond.classLink "DoorVoice" 25 "DoorVoice$Pad" ∈ ax_T := ax_in 127 rfl rfl
set_option maxRecDepth 20000 in
theorem wt_P : Cond.instantiable "DoorVoice$Pad" 6 ∈ ax_T := ax_in 128 rfl rfl
set_option maxRecDepth 20000 in
theorem wi_P_init : Cond.instanceMethod ⟨"DoorVoice$Pad", "<init>", "()V"⟩ ∈ ax_T := ax_in 130 rfl rfl
set_option maxRecDepth 20000 in
theorem lm_P_3 : Cond.methodLink "DoorVoice$Pad" 3 ⟨"java/lang/Object", "<init>", "()V"⟩ ∈ ax_T := ax_in 132 rfl rfl
set_option maxRecDepth 20000 in
theorem lk_V_32 : Cond.classLink "DoorVoice" 32 "DoorVoice$Listener" ∈ ax_T := ax_in 157 rfl rfl
set_option maxRecDepth 20000 in
theorem wt_L : Cond.instantiable "DoorVoice$Listener" 2 ∈ ax_T := ax_in 158 rfl rfl
set_option maxRecDepth 20000 in
theorem wi_L_init : Cond.instanceMethod ⟨"DoorVoice$Listener", "<init>", "()V"⟩ ∈ ax_T := ax_in 160 rfl rfl
set_option maxRecDepth 20000 in
theorem lm_L_3 : Cond.methodLink "DoorVoice$Listener" 3 ⟨"java/lang/Object", "<init>", "()V"⟩ ∈ ax_T := ax_in 162 rfl rfl
set_option maxRecDepth 20000 in
theorem lk_V_39 : Cond.classLink "DoorVoice" 39 "DoorVoice$Chances" ∈ ax_T := ax_in 170 rfl rfl
set_option maxRecDepth 20000 in
theorem wt_C : Cond.instantiable "DoorVoice$Chances" 5 ∈ ax_T := ax_in 171 rfl rfl
set_option maxRecDepth 20000 in
theorem wi_C_init : Cond.instanceMethod ⟨"DoorVoice$Chances", "<init>", "()V"⟩ ∈ ax_T := ax_in 173 rfl rfl
set_option maxRecDepth 20000 in
theorem lm_C_3 : Cond.methodLink "DoorVoice$Chances" 3 ⟨"java/lang/Object", "<init>", "()V"⟩ ∈ ax_T := ax_in 175 rfl rfl
set_option maxRecDepth 20000 in
theorem wa_long : Cond.arrayClass .long ∈ ax_T := ax_in 194 rfl rfl
set_option maxRecDepth 20000 in
theorem lm_W_13 : Cond.methodLink "DoorVoiceLaw" 13 ⟨"DoorVoice", "house", "(IZZI)I"⟩ ∈ ax_T := ax_in 220 rfl rfl
set_option maxRecDepth 20000 in
theorem wi_V_house : Cond.instanceMethod ⟨"DoorVoice", "house", "(IZZI)I"⟩ ∈ ax_T := ax_in 221 rfl rfl
set_option maxRecDepth 20000 in
theorem wv_V_house : Cond.selects "DoorVoice" ⟨"DoorVoice", "house", "(IZZI)I"⟩ ⟨"DoorVoice", "house", "(IZZI)I"⟩ ∈ ax_T := ax_in 222 rfl rfl
set_option maxRecDepth 20000 in
theorem lm_V_50 : Cond.methodLink "DoorVoice" 50 ⟨"DoorVoice", "within", "(III)Z"⟩ ∈ ax_T := ax_in 224 rfl rfl
set_option maxRecDepth 20000 in
theorem ws_V_within : Cond.static ⟨"DoorVoice", "within", "(III)Z"⟩ ∈ ax_T := ax_in 225 rfl rfl
set_option maxRecDepth 20000 in
theorem lm_V_61 : Cond.methodLink "DoorVoice" 61 ⟨"DoorVoice", "withBit", "(IIZ)I"⟩ ∈ ax_T := ax_in 227 rfl rfl
set_option maxRecDepth 20000 in
theorem ws_V_withBit : Cond.static ⟨"DoorVoice", "withBit", "(IIZ)I"⟩ ∈ ax_T := ax_in 228 rfl rfl
set_option maxRecDepth 20000 in
theorem lm_W_18 : Cond.methodLink "DoorVoiceLaw" 18 ⟨"DoorVoice", "wall", "(II)I"⟩ ∈ ax_T := ax_in 230 rfl rfl
set_option maxRecDepth 20000 in
theorem wi_V_wall : Cond.instanceMethod ⟨"DoorVoice", "wall", "(II)I"⟩ ∈ ax_T := ax_in 231 rfl rfl
set_option maxRecDepth 20000 in
theorem wv_V_wall : Cond.selects "DoorVoice" ⟨"DoorVoice", "wall", "(II)I"⟩ ⟨"DoorVoice", "wall", "(II)I"⟩ ∈ ax_T := ax_in 232 rfl rfl
set_option maxRecDepth 20000 in
theorem lm_W_23 : Cond.methodLink "DoorVoiceLaw" 23 ⟨"DoorVoice", "set", "(II)I"⟩ ∈ ax_T := ax_in 234 rfl rfl
set_option maxRecDepth 20000 in
theorem wi_V_set : Cond.instanceMethod ⟨"DoorVoice", "set", "(II)I"⟩ ∈ ax_T := ax_in 235 rfl rfl
set_option maxRecDepth 20000 in
theorem wv_V_set : Cond.selects "DoorVoice" ⟨"DoorVoice", "set", "(II)I"⟩ ⟨"DoorVoice", "set", "(II)I"⟩ ∈ ax_T := ax_in 236 rfl rfl
set_option maxRecDepth 20000 in
theorem lm_V_71 : Cond.methodLink "DoorVoice" 71 ⟨"DoorVoice", "setVoice", "(I)I"⟩ ∈ ax_T := ax_in 238 rfl rfl
set_option maxRecDepth 20000 in
theorem wi_V_setVoice : Cond.instanceMethod ⟨"DoorVoice", "setVoice", "(I)I"⟩ ∈ ax_T := ax_in 240 rfl rfl
set_option maxRecDepth 20000 in
theorem lm_V_75 : Cond.methodLink "DoorVoice" 75 ⟨"DoorVoice", "setWind", "(I)I"⟩ ∈ ax_T := ax_in 242 rfl rfl
set_option maxRecDepth 20000 in
theorem wi_V_setWind : Cond.instanceMethod ⟨"DoorVoice", "setWind", "(I)I"⟩ ∈ ax_T := ax_in 244 rfl rfl
set_option maxRecDepth 20000 in
theorem lm_V_78 : Cond.methodLink "DoorVoice" 78 ⟨"DoorVoice", "setPlace", "(I)I"⟩ ∈ ax_T := ax_in 246 rfl rfl
set_option maxRecDepth 20000 in
theorem wi_V_setPlace : Cond.instanceMethod ⟨"DoorVoice", "setPlace", "(I)I"⟩ ∈ ax_T := ax_in 248 rfl rfl
set_option maxRecDepth 20000 in
theorem lm_W_27 : Cond.methodLink "DoorVoiceLaw" 27 ⟨"DoorVoice", "letter", "(IIIII)I"⟩ ∈ ax_T := ax_in 250 rfl rfl
set_option maxRecDepth 20000 in
theorem wi_V_letter : Cond.instanceMethod ⟨"DoorVoice", "letter", "(IIIII)I"⟩ ∈ ax_T := ax_in 251 rfl rfl
set_option maxRecDepth 20000 in
theorem wv_V_letter : Cond.selects "DoorVoice" ⟨"DoorVoice", "letter", "(IIIII)I"⟩ ⟨"DoorVoice", "letter", "(IIIII)I"⟩ ∈ ax_T := ax_in 252 rfl rfl
set_option maxRecDepth 20000 in
theorem lm_W_32 : Cond.methodLink "DoorVoiceLaw" 32 ⟨"DoorVoice", "say", "(I)I"⟩ ∈ ax_T := ax_in 254 rfl rfl
set_option maxRecDepth 20000 in
theorem wi_V_say : Cond.instanceMethod ⟨"DoorVoice", "say", "(I)I"⟩ ∈ ax_T := ax_in 255 rfl rfl
set_option maxRecDepth 20000 in
theorem wv_V_say : Cond.selects "DoorVoice" ⟨"DoorVoice", "say", "(I)I"⟩ ⟨"DoorVoice", "say", "(I)I"⟩ ∈ ax_T := ax_in 256 rfl rfl
set_option maxRecDepth 20000 in
theorem lm_V_105 : Cond.methodLink "DoorVoice" 105 ⟨"DoorVoice$Pad", "write", "(I)Z"⟩ ∈ ax_T := ax_in 258 rfl rfl
set_option maxRecDepth 20000 in
theorem wi_P_write : Cond.instanceMethod ⟨"DoorVoice$Pad", "write", "(I)Z"⟩ ∈ ax_T := ax_in 259 rfl rfl
set_option maxRecDepth 20000 in
theorem wv_P_write : Cond.selects "DoorVoice$Pad" ⟨"DoorVoice$Pad", "write", "(I)Z"⟩ ⟨"DoorVoice$Pad", "write", "(I)Z"⟩ ∈ ax_T := ax_in 260 rfl rfl
set_option maxRecDepth 20000 in
theorem lm_W_37 : Cond.methodLink "DoorVoiceLaw" 37 ⟨"DoorVoice", "wipe", "()I"⟩ ∈ ax_T := ax_in 262 rfl rfl
set_option maxRecDepth 20000 in
theorem wi_V_wipe : Cond.instanceMethod ⟨"DoorVoice", "wipe", "()I"⟩ ∈ ax_T := ax_in 263 rfl rfl
set_option maxRecDepth 20000 in
theorem wv_V_wipe : Cond.selects "DoorVoice" ⟨"DoorVoice", "wipe", "()I"⟩ ⟨"DoorVoice", "wipe", "()I"⟩ ∈ ax_T := ax_in 264 rfl rfl
set_option maxRecDepth 20000 in
theorem lm_V_112 : Cond.methodLink "DoorVoice" 112 ⟨"DoorVoice$Pad", "clean", "()I"⟩ ∈ ax_T := ax_in 266 rfl rfl
set_option maxRecDepth 20000 in
theorem wi_P_clean : Cond.instanceMethod ⟨"DoorVoice$Pad", "clean", "()I"⟩ ∈ ax_T := ax_in 267 rfl rfl
set_option maxRecDepth 20000 in
theorem wv_P_clean : Cond.selects "DoorVoice$Pad" ⟨"DoorVoice$Pad", "clean", "()I"⟩ ⟨"DoorVoice$Pad", "clean", "()I"⟩ ∈ ax_T := ax_in 268 rfl rfl
set_option maxRecDepth 20000 in
theorem lm_W_42 : Cond.methodLink "DoorVoiceLaw" 42 ⟨"DoorVoice", "fault", "()I"⟩ ∈ ax_T := ax_in 270 rfl rfl
set_option maxRecDepth 20000 in
theorem wi_V_fault : Cond.instanceMethod ⟨"DoorVoice", "fault", "()I"⟩ ∈ ax_T := ax_in 271 rfl rfl
set_option maxRecDepth 20000 in
theorem wv_V_fault : Cond.selects "DoorVoice" ⟨"DoorVoice", "fault", "()I"⟩ ⟨"DoorVoice", "fault", "()I"⟩ ∈ ax_T := ax_in 272 rfl rfl
set_option maxRecDepth 20000 in
theorem lm_V_116 : Cond.methodLink "DoorVoice" 116 ⟨"DoorVoice$Pad", "faultPlace", "()I"⟩ ∈ ax_T := ax_in 274 rfl rfl
set_option maxRecDepth 20000 in
theorem wi_P_faultPlace : Cond.instanceMethod ⟨"DoorVoice$Pad", "faultPlace", "()I"⟩ ∈ ax_T := ax_in 275 rfl rfl
set_option maxRecDepth 20000 in
theorem wv_P_faultPlace : Cond.selects "DoorVoice$Pad" ⟨"DoorVoice$Pad", "faultPlace", "()I"⟩ ⟨"DoorVoice$Pad", "faultPlace", "()I"⟩ ∈ ax_T := ax_in 276 rfl rfl
set_option maxRecDepth 20000 in
theorem lm_P_31 : Cond.methodLink "DoorVoice$Pad" 31 ⟨"DoorVoice$Pad", "kindOf", "(I)I"⟩ ∈ ax_T := ax_in 278 rfl rfl
set_option maxRecDepth 20000 in
theorem ws_P_kindOf : Cond.static ⟨"DoorVoice$Pad", "kindOf", "(I)I"⟩ ∈ ax_T := ax_in 279 rfl rfl
set_option maxRecDepth 20000 in
theorem lm_W_46 : Cond.methodLink "DoorVoiceLaw" 46 ⟨"DoorVoice", "judge", "(I)I"⟩ ∈ ax_T := ax_in 281 rfl rfl
set_option maxRecDepth 20000 in
theorem wi_V_judge : Cond.instanceMethod ⟨"DoorVoice", "judge", "(I)I"⟩ ∈ ax_T := ax_in 282 rfl rfl
set_option maxRecDepth 20000 in
theorem wv_V_judge : Cond.selects "DoorVoice" ⟨"DoorVoice", "judge", "(I)I"⟩ ⟨"DoorVoice", "judge", "(I)I"⟩ ∈ ax_T := ax_in 283 rfl rfl
set_option maxRecDepth 20000 in
theorem lm_V_119 : Cond.methodLink "DoorVoice" 119 ⟨"DoorVoice$Pad", "playsToTheEnd", "(LDoorVoice$Street;LDoorVoice$Street;)Z"⟩ ∈ ax_T := ax_in 285 rfl rfl
set_option maxRecDepth 20000 in
theorem wi_P_playsToTheEnd : Cond.instanceMethod ⟨"DoorVoice$Pad", "playsToTheEnd", "(LDoorVoice$Street;LDoorVoice$Street;)Z"⟩ ∈ ax_T := ax_in 286 rfl rfl
set_option maxRecDepth 20000 in
theorem wv_P_playsToTheEnd : Cond.selects "DoorVoice$Pad" ⟨"DoorVoice$Pad", "playsToTheEnd", "(LDoorVoice$Street;LDoorVoice$Street;)Z"⟩ ⟨"DoorVoice$Pad", "playsToTheEnd", "(LDoorVoice$Street;LDoorVoice$Street;)Z"⟩ ∈ ax_T := ax_in 287 rfl rfl
set_option maxRecDepth 20000 in
theorem lm_P_35 : Cond.methodLink "DoorVoice$Pad" 35 ⟨"DoorVoice$Pad", "faultPlace", "()I"⟩ ∈ ax_T := ax_in 289 rfl rfl
set_option maxRecDepth 20000 in
theorem lm_P_39 : Cond.methodLink "DoorVoice$Pad" 39 ⟨"DoorVoice$Street", "takeFrom", "(LDoorVoice$Street;)V"⟩ ∈ ax_T := ax_in 290 rfl rfl
set_option maxRecDepth 20000 in
theorem wi_S_takeFrom : Cond.instanceMethod ⟨"DoorVoice$Street", "takeFrom", "(LDoorVoice$Street;)V"⟩ ∈ ax_T := ax_in 291 rfl rfl
set_option maxRecDepth 20000 in
theorem wv_S_takeFrom : Cond.selects "DoorVoice$Street" ⟨"DoorVoice$Street", "takeFrom", "(LDoorVoice$Street;)V"⟩ ⟨"DoorVoice$Street", "takeFrom", "(LDoorVoice$Street;)V"⟩ ∈ ax_T := ax_in 292 rfl rfl
set_option maxRecDepth 20000 in
theorem lm_S_61 : Cond.methodLink "DoorVoice$Street" 61 ⟨"java/lang/System", "arraycopy", "(Ljava/lang/Object;ILjava/lang/Object;II)V"⟩ ∈ ax_T := ax_in 294 rfl rfl
set_option maxRecDepth 20000 in
theorem ws_Y_arraycopy : Cond.static ⟨"java/lang/System", "arraycopy", "(Ljava/lang/Object;ILjava/lang/Object;II)V"⟩ ∈ ax_T := ax_in 295 rfl rfl
set_option maxRecDepth 20000 in
theorem wx_native : Cond.native ⟨"java/lang/System", "arraycopy", "(Ljava/lang/Object;ILjava/lang/Object;II)V"⟩ ∈ ax_T := ax_in 296 rfl rfl
set_option maxRecDepth 20000 in
theorem lm_P_45 : Cond.methodLink "DoorVoice$Pad" 45 ⟨"DoorVoice$Pad", "numberOf", "(I)I"⟩ ∈ ax_T := ax_in 297 rfl rfl
set_option maxRecDepth 20000 in
theorem ws_P_numberOf : Cond.static ⟨"DoorVoice$Pad", "numberOf", "(I)I"⟩ ∈ ax_T := ax_in 298 rfl rfl
set_option maxRecDepth 20000 in
theorem lm_P_48 : Cond.methodLink "DoorVoice$Pad" 48 ⟨"DoorVoice$Pad", "playAct", "(LDoorVoice$Street;II)V"⟩ ∈ ax_T := ax_in 300 rfl rfl
set_option maxRecDepth 20000 in
theorem wi_P_playAct : Cond.instanceMethod ⟨"DoorVoice$Pad", "playAct", "(LDoorVoice$Street;II)V"⟩ ∈ ax_T := ax_in 302 rfl rfl
set_option maxRecDepth 20000 in
theorem lm_P_52 : Cond.methodLink "DoorVoice$Pad" 52 ⟨"DoorVoice$Street", "whyNot", "(II)I"⟩ ∈ ax_T := ax_in 304 rfl rfl
set_option maxRecDepth 20000 in
theorem wi_S_whyNot : Cond.instanceMethod ⟨"DoorVoice$Street", "whyNot", "(II)I"⟩ ∈ ax_T := ax_in 305 rfl rfl
set_option maxRecDepth 20000 in
theorem wv_S_whyNot : Cond.selects "DoorVoice$Street" ⟨"DoorVoice$Street", "whyNot", "(II)I"⟩ ⟨"DoorVoice$Street", "whyNot", "(II)I"⟩ ∈ ax_T := ax_in 306 rfl rfl
set_option maxRecDepth 20000 in
theorem ws_V_hasBit : Cond.static ⟨"DoorVoice", "hasBit", "(II)Z"⟩ ∈ ax_T := ax_in 309 rfl rfl
set_option maxRecDepth 20000 in
theorem lm_P_56 : Cond.methodLink "DoorVoice$Pad" 56 ⟨"DoorVoice$Pad", "goesAstray", "(LDoorVoice$Street;I)Z"⟩ ∈ ax_T := ax_in 311 rfl rfl
set_option maxRecDepth 20000 in
theorem ws_P_goesAstray : Cond.static ⟨"DoorVoice$Pad", "goesAstray", "(LDoorVoice$Street;I)Z"⟩ ∈ ax_T := ax_in 312 rfl rfl
set_option maxRecDepth 20000 in
theorem lm_P_70 : Cond.methodLink "DoorVoice$Pad" 70 ⟨"DoorVoice$Street", "hearers", "(II)I"⟩ ∈ ax_T := ax_in 314 rfl rfl
set_option maxRecDepth 20000 in
theorem wi_S_hearers : Cond.instanceMethod ⟨"DoorVoice$Street", "hearers", "(II)I"⟩ ∈ ax_T := ax_in 315 rfl rfl
set_option maxRecDepth 20000 in
theorem wv_S_hearers : Cond.selects "DoorVoice$Street" ⟨"DoorVoice$Street", "hearers", "(II)I"⟩ ⟨"DoorVoice$Street", "hearers", "(II)I"⟩ ∈ ax_T := ax_in 316 rfl rfl
set_option maxRecDepth 20000 in
theorem lm_S_73 : Cond.methodLink "DoorVoice$Street" 73 ⟨"DoorVoice$Street", "reached", "(II)I"⟩ ∈ ax_T := ax_in 318 rfl rfl
set_option maxRecDepth 20000 in
theorem wi_S_reached : Cond.instanceMethod ⟨"DoorVoice$Street", "reached", "(II)I"⟩ ∈ ax_T := ax_in 320 rfl rfl
set_option maxRecDepth 20000 in
theorem lm_P_60 : Cond.methodLink "DoorVoice$Pad" 60 ⟨"DoorVoice$Street", "carryOut", "(II)V"⟩ ∈ ax_T := ax_in 323 rfl rfl
set_option maxRecDepth 20000 in
theorem wi_S_carryOut : Cond.instanceMethod ⟨"DoorVoice$Street", "carryOut", "(II)V"⟩ ∈ ax_T := ax_in 324 rfl rfl
set_option maxRecDepth 20000 in
theorem wv_S_carryOut : Cond.selects "DoorVoice$Street" ⟨"DoorVoice$Street", "carryOut", "(II)V"⟩ ⟨"DoorVoice$Street", "carryOut", "(II)V"⟩ ∈ ax_T := ax_in 325 rfl rfl
set_option maxRecDepth 20000 in
theorem lm_S_80 : Cond.methodLink "DoorVoice$Street" 80 ⟨"DoorVoice$Street", "readOut", "(I)V"⟩ ∈ ax_T := ax_in 327 rfl rfl
set_option maxRecDepth 20000 in
theorem wi_S_readOut : Cond.instanceMethod ⟨"DoorVoice$Street", "readOut", "(I)V"⟩ ∈ ax_T := ax_in 329 rfl rfl
set_option maxRecDepth 20000 in
theorem lm_S_87 : Cond.methodLink "DoorVoice$Street" 87 ⟨"DoorVoice$Street", "hearers", "(II)I"⟩ ∈ ax_T := ax_in 331 rfl rfl
set_option maxRecDepth 20000 in
theorem lm_S_84 : Cond.methodLink "DoorVoice$Street" 84 ⟨"DoorVoice$Street", "passEvening", "()V"⟩ ∈ ax_T := ax_in 332 rfl rfl
set_option maxRecDepth 20000 in
theorem wi_S_passEvening : Cond.instanceMethod ⟨"DoorVoice$Street", "passEvening", "()V"⟩ ∈ ax_T := ax_in 334 rfl rfl
set_option maxRecDepth 20000 in
theorem lm_S_90 : Cond.methodLink "DoorVoice$Street" 90 ⟨"DoorVoice$Street", "tellsEastward", "(I)Z"⟩ ∈ ax_T := ax_in 336 rfl rfl
set_option maxRecDepth 20000 in
theorem wi_S_tellsEastward : Cond.instanceMethod ⟨"DoorVoice$Street", "tellsEastward", "(I)Z"⟩ ∈ ax_T := ax_in 338 rfl rfl
set_option maxRecDepth 20000 in
theorem lm_W_50 : Cond.methodLink "DoorVoiceLaw" 50 ⟨"DoorVoice", "done", "()I"⟩ ∈ ax_T := ax_in 340 rfl rfl
set_option maxRecDepth 20000 in
theorem wi_V_done : Cond.instanceMethod ⟨"DoorVoice", "done", "()I"⟩ ∈ ax_T := ax_in 341 rfl rfl
set_option maxRecDepth 20000 in
theorem wv_V_done : Cond.selects "DoorVoice" ⟨"DoorVoice", "done", "()I"⟩ ⟨"DoorVoice", "done", "()I"⟩ ∈ ax_T := ax_in 342 rfl rfl
set_option maxRecDepth 20000 in
theorem lm_V_129 : Cond.methodLink "DoorVoice" 129 ⟨"DoorVoice$Street", "takeFrom", "(LDoorVoice$Street;)V"⟩ ∈ ax_T := ax_in 344 rfl rfl
set_option maxRecDepth 20000 in
theorem lm_W_54 : Cond.methodLink "DoorVoiceLaw" 54 ⟨"DoorVoice", "knows", "(I)I"⟩ ∈ ax_T := ax_in 345 rfl rfl
set_option maxRecDepth 20000 in
theorem wi_V_knows : Cond.instanceMethod ⟨"DoorVoice", "knows", "(I)I"⟩ ∈ ax_T := ax_in 346 rfl rfl
set_option maxRecDepth 20000 in
theorem wv_V_knows : Cond.selects "DoorVoice" ⟨"DoorVoice", "knows", "(I)I"⟩ ⟨"DoorVoice", "knows", "(I)I"⟩ ∈ ax_T := ax_in 347 rfl rfl
set_option maxRecDepth 20000 in
theorem lm_W_58 : Cond.methodLink "DoorVoiceLaw" 58 ⟨"DoorVoice", "behind", "(I)I"⟩ ∈ ax_T := ax_in 349 rfl rfl
set_option maxRecDepth 20000 in
theorem wi_V_behind : Cond.instanceMethod ⟨"DoorVoice", "behind", "(I)I"⟩ ∈ ax_T := ax_in 350 rfl rfl
set_option maxRecDepth 20000 in
theorem wv_V_behind : Cond.selects "DoorVoice" ⟨"DoorVoice", "behind", "(I)I"⟩ ⟨"DoorVoice", "behind", "(I)I"⟩ ∈ ax_T := ax_in 351 rfl rfl
set_option maxRecDepth 20000 in
theorem lm_W_62 : Cond.methodLink "DoorVoiceLaw" 62 ⟨"DoorVoice", "who", "(I)I"⟩ ∈ ax_T := ax_in 353 rfl rfl
set_option maxRecDepth 20000 in
theorem wi_V_who : Cond.instanceMethod ⟨"DoorVoice", "who", "(I)I"⟩ ∈ ax_T := ax_in 354 rfl rfl
set_option maxRecDepth 20000 in
theorem wv_V_who : Cond.selects "DoorVoice" ⟨"DoorVoice", "who", "(I)I"⟩ ⟨"DoorVoice", "who", "(I)I"⟩ ∈ ax_T := ax_in 355 rfl rfl
set_option maxRecDepth 20000 in
theorem lm_V_142 : Cond.methodLink "DoorVoice" 142 ⟨"DoorVoice", "hasBit", "(II)Z"⟩ ∈ ax_T := ax_in 357 rfl rfl
set_option maxRecDepth 20000 in
theorem lm_W_66 : Cond.methodLink "DoorVoiceLaw" 66 ⟨"DoorVoice", "loud", "(II)I"⟩ ∈ ax_T := ax_in 358 rfl rfl
set_option maxRecDepth 20000 in
theorem wi_V_loud : Cond.instanceMethod ⟨"DoorVoice", "loud", "(II)I"⟩ ∈ ax_T := ax_in 359 rfl rfl
set_option maxRecDepth 20000 in
theorem wv_V_loud : Cond.selects "DoorVoice" ⟨"DoorVoice", "loud", "(II)I"⟩ ⟨"DoorVoice", "loud", "(II)I"⟩ ∈ ax_T := ax_in 360 rfl rfl
set_option maxRecDepth 20000 in
theorem lm_V_146 : Cond.methodLink "DoorVoice" 146 ⟨"DoorVoice$Street", "loudness", "(II)I"⟩ ∈ ax_T := ax_in 362 rfl rfl
set_option maxRecDepth 20000 in
theorem wi_S_loudness : Cond.instanceMethod ⟨"DoorVoice$Street", "loudness", "(II)I"⟩ ∈ ax_T := ax_in 363 rfl rfl
set_option maxRecDepth 20000 in
theorem wv_S_loudness : Cond.selects "DoorVoice$Street" ⟨"DoorVoice$Street", "loudness", "(II)I"⟩ ⟨"DoorVoice$Street", "loudness", "(II)I"⟩ ∈ ax_T := ax_in 364 rfl rfl
set_option maxRecDepth 20000 in
theorem lm_S_67 : Cond.methodLink "DoorVoice$Street" 67 ⟨"java/lang/Math", "max", "(II)I"⟩ ∈ ax_T := ax_in 366 rfl rfl
set_option maxRecDepth 20000 in
theorem ws_H_max : Cond.static ⟨"java/lang/Math", "max", "(II)I"⟩ ∈ ax_T := ax_in 367 rfl rfl
set_option maxRecDepth 20000 in
theorem lm_W_70 : Cond.methodLink "DoorVoiceLaw" 70 ⟨"DoorVoice", "hears", "(I)I"⟩ ∈ ax_T := ax_in 369 rfl rfl
set_option maxRecDepth 20000 in
theorem wi_V_hears : Cond.instanceMethod ⟨"DoorVoice", "hears", "(I)I"⟩ ∈ ax_T := ax_in 370 rfl rfl
set_option maxRecDepth 20000 in
theorem wv_V_hears : Cond.selects "DoorVoice" ⟨"DoorVoice", "hears", "(I)I"⟩ ⟨"DoorVoice", "hears", "(I)I"⟩ ∈ ax_T := ax_in 371 rfl rfl
set_option maxRecDepth 20000 in
theorem lm_V_150 : Cond.methodLink "DoorVoice" 150 ⟨"DoorVoice$Street", "hearers", "(II)I"⟩ ∈ ax_T := ax_in 373 rfl rfl
set_option maxRecDepth 20000 in
theorem lm_W_74 : Cond.methodLink "DoorVoiceLaw" 74 ⟨"DoorVoice", "best", "(II)I"⟩ ∈ ax_T := ax_in 374 rfl rfl
set_option maxRecDepth 20000 in
theorem wi_V_best : Cond.instanceMethod ⟨"DoorVoice", "best", "(II)I"⟩ ∈ ax_T := ax_in 375 rfl rfl
set_option maxRecDepth 20000 in
theorem wv_V_best : Cond.selects "DoorVoice" ⟨"DoorVoice", "best", "(II)I"⟩ ⟨"DoorVoice", "best", "(II)I"⟩ ∈ ax_T := ax_in 376 rfl rfl
set_option maxRecDepth 20000 in
theorem lm_V_153 : Cond.methodLink "DoorVoice" 153 ⟨"DoorVoice$Listener", "listen", "(LDoorVoice$Street;)V"⟩ ∈ ax_T := ax_in 378 rfl rfl
set_option maxRecDepth 20000 in
theorem wi_L_listen : Cond.instanceMethod ⟨"DoorVoice$Listener", "listen", "(LDoorVoice$Street;)V"⟩ ∈ ax_T := ax_in 379 rfl rfl
set_option maxRecDepth 20000 in
theorem wv_L_listen : Cond.selects "DoorVoice$Listener" ⟨"DoorVoice$Listener", "listen", "(LDoorVoice$Street;)V"⟩ ⟨"DoorVoice$Listener", "listen", "(LDoorVoice$Street;)V"⟩ ∈ ax_T := ax_in 380 rfl rfl
set_option maxRecDepth 20000 in
theorem lm_L_24 : Cond.methodLink "DoorVoice$Listener" 24 ⟨"DoorVoice$Street", "hearers", "(II)I"⟩ ∈ ax_T := ax_in 382 rfl rfl
set_option maxRecDepth 20000 in
theorem lm_L_28 : Cond.methodLink "DoorVoice$Listener" 28 ⟨"DoorVoice$Listener", "placesFor", "(I)I"⟩ ∈ ax_T := ax_in 383 rfl rfl
set_option maxRecDepth 20000 in
theorem wi_L_placesFor : Cond.instanceMethod ⟨"DoorVoice$Listener", "placesFor", "(I)I"⟩ ∈ ax_T := ax_in 385 rfl rfl
set_option maxRecDepth 20000 in
theorem lm_V_156 : Cond.methodLink "DoorVoice" 156 ⟨"DoorVoice$Listener", "bestFor", "(IZ)I"⟩ ∈ ax_T := ax_in 388 rfl rfl
set_option maxRecDepth 20000 in
theorem wi_L_bestFor : Cond.instanceMethod ⟨"DoorVoice$Listener", "bestFor", "(IZ)I"⟩ ∈ ax_T := ax_in 389 rfl rfl
set_option maxRecDepth 20000 in
theorem wv_L_bestFor : Cond.selects "DoorVoice$Listener" ⟨"DoorVoice$Listener", "bestFor", "(IZ)I"⟩ ⟨"DoorVoice$Listener", "bestFor", "(IZ)I"⟩ ∈ ax_T := ax_in 390 rfl rfl
set_option maxRecDepth 20000 in
theorem lm_L_36 : Cond.methodLink "DoorVoice$Listener" 36 ⟨"java/lang/Integer", "bitCount", "(I)I"⟩ ∈ ax_T := ax_in 392 rfl rfl
set_option maxRecDepth 20000 in
theorem ws_B_bitCount : Cond.static ⟨"java/lang/Integer", "bitCount", "(I)I"⟩ ∈ ax_T := ax_in 393 rfl rfl
set_option maxRecDepth 20000 in
theorem lc_B_265 : Cond.constant "java/lang/Integer" 265 (1431655765) ∈ ax_T := ax_in 395 rfl rfl
set_option maxRecDepth 20000 in
theorem lc_B_266 : Cond.constant "java/lang/Integer" 266 (858993459) ∈ ax_T := ax_in 396 rfl rfl
set_option maxRecDepth 20000 in
theorem lc_B_267 : Cond.constant "java/lang/Integer" 267 (252645135) ∈ ax_T := ax_in 397 rfl rfl
set_option maxRecDepth 20000 in
theorem lm_W_78 : Cond.methodLink "DoorVoiceLaw" 78 ⟨"DoorVoice", "thirds", "(II)I"⟩ ∈ ax_T := ax_in 398 rfl rfl
set_option maxRecDepth 20000 in
theorem wi_V_thirds : Cond.instanceMethod ⟨"DoorVoice", "thirds", "(II)I"⟩ ∈ ax_T := ax_in 399 rfl rfl
set_option maxRecDepth 20000 in
theorem wv_V_thirds : Cond.selects "DoorVoice" ⟨"DoorVoice", "thirds", "(II)I"⟩ ⟨"DoorVoice", "thirds", "(II)I"⟩ ∈ ax_T := ax_in 400 rfl rfl
set_option maxRecDepth 20000 in
theorem lm_V_160 : Cond.methodLink "DoorVoice" 160 ⟨"DoorVoice$Listener", "thirdsFor", "(IZ)I"⟩ ∈ ax_T := ax_in 402 rfl rfl
set_option maxRecDepth 20000 in
theorem wi_L_thirdsFor : Cond.instanceMethod ⟨"DoorVoice$Listener", "thirdsFor", "(IZ)I"⟩ ∈ ax_T := ax_in 403 rfl rfl
set_option maxRecDepth 20000 in
theorem wv_L_thirdsFor : Cond.selects "DoorVoice$Listener" ⟨"DoorVoice$Listener", "thirdsFor", "(IZ)I"⟩ ⟨"DoorVoice$Listener", "thirdsFor", "(IZ)I"⟩ ∈ ax_T := ax_in 404 rfl rfl
set_option maxRecDepth 20000 in
theorem lm_W_82 : Cond.methodLink "DoorVoiceLaw" 82 ⟨"DoorVoice", "round", "(II)I"⟩ ∈ ax_T := ax_in 406 rfl rfl
set_option maxRecDepth 20000 in
theorem wi_V_round : Cond.instanceMethod ⟨"DoorVoice", "round", "(II)I"⟩ ∈ ax_T := ax_in 407 rfl rfl
set_option maxRecDepth 20000 in
theorem wv_V_round : Cond.selects "DoorVoice" ⟨"DoorVoice", "round", "(II)I"⟩ ⟨"DoorVoice", "round", "(II)I"⟩ ∈ ax_T := ax_in 408 rfl rfl
set_option maxRecDepth 20000 in
theorem lm_V_163 : Cond.methodLink "DoorVoice" 163 ⟨"DoorVoice$Listener", "leastWalk", "(LDoorVoice$Street;IZ)I"⟩ ∈ ax_T := ax_in 410 rfl rfl
set_option maxRecDepth 20000 in
theorem wi_L_leastWalk : Cond.instanceMethod ⟨"DoorVoice$Listener", "leastWalk", "(LDoorVoice$Street;IZ)I"⟩ ∈ ax_T := ax_in 411 rfl rfl
set_option maxRecDepth 20000 in
theorem wv_L_leastWalk : Cond.selects "DoorVoice$Listener" ⟨"DoorVoice$Listener", "leastWalk", "(LDoorVoice$Street;IZ)I"⟩ ⟨"DoorVoice$Listener", "leastWalk", "(LDoorVoice$Street;IZ)I"⟩ ∈ ax_T := ax_in 412 rfl rfl
set_option maxRecDepth 20000 in
theorem lm_L_44 : Cond.methodLink "DoorVoice$Listener" 44 ⟨"java/lang/Math", "min", "(II)I"⟩ ∈ ax_T := ax_in 414 rfl rfl
set_option maxRecDepth 20000 in
theorem ws_H_min : Cond.static ⟨"java/lang/Math", "min", "(II)I"⟩ ∈ ax_T := ax_in 415 rfl rfl
set_option maxRecDepth 20000 in
theorem lm_L_49 : Cond.methodLink "DoorVoice$Listener" 49 ⟨"DoorVoice$Listener", "allCanBeRead", "(LDoorVoice$Street;III)Z"⟩ ∈ ax_T := ax_in 417 rfl rfl
set_option maxRecDepth 20000 in
theorem wi_L_allCanBeRead : Cond.instanceMethod ⟨"DoorVoice$Listener", "allCanBeRead", "(LDoorVoice$Street;III)Z"⟩ ∈ ax_T := ax_in 419 rfl rfl
set_option maxRecDepth 20000 in
theorem lm_W_86 : Cond.methodLink "DoorVoiceLaw" 86 ⟨"DoorVoice", "seen", "(IZ)I"⟩ ∈ ax_T := ax_in 421 rfl rfl
set_option maxRecDepth 20000 in
theorem wi_V_seen : Cond.instanceMethod ⟨"DoorVoice", "seen", "(IZ)I"⟩ ∈ ax_T := ax_in 422 rfl rfl
set_option maxRecDepth 20000 in
theorem wv_V_seen : Cond.selects "DoorVoice" ⟨"DoorVoice", "seen", "(IZ)I"⟩ ⟨"DoorVoice", "seen", "(IZ)I"⟩ ∈ ax_T := ax_in 423 rfl rfl
set_option maxRecDepth 20000 in
theorem lm_W_91 : Cond.methodLink "DoorVoiceLaw" 91 ⟨"DoorVoice", "forget", "()I"⟩ ∈ ax_T := ax_in 425 rfl rfl
set_option maxRecDepth 20000 in
theorem wi_V_forget : Cond.instanceMethod ⟨"DoorVoice", "forget", "()I"⟩ ∈ ax_T := ax_in 426 rfl rfl
set_option maxRecDepth 20000 in
theorem wv_V_forget : Cond.selects "DoorVoice" ⟨"DoorVoice", "forget", "()I"⟩ ⟨"DoorVoice", "forget", "()I"⟩ ∈ ax_T := ax_in 427 rfl rfl
set_option maxRecDepth 20000 in
theorem lm_W_95 : Cond.methodLink "DoorVoiceLaw" 95 ⟨"DoorVoice", "at", "()I"⟩ ∈ ax_T := ax_in 429 rfl rfl
set_option maxRecDepth 20000 in
theorem wi_V_at : Cond.instanceMethod ⟨"DoorVoice", "at", "()I"⟩ ∈ ax_T := ax_in 430 rfl rfl
set_option maxRecDepth 20000 in
theorem wv_V_at : Cond.selects "DoorVoice" ⟨"DoorVoice", "at", "()I"⟩ ⟨"DoorVoice", "at", "()I"⟩ ∈ ax_T := ax_in 431 rfl rfl
set_option maxRecDepth 20000 in
theorem lm_V_176 : Cond.methodLink "DoorVoice" 176 ⟨"DoorVoice$Listener", "placesThatFit", "(LDoorVoice$Street;)I"⟩ ∈ ax_T := ax_in 433 rfl rfl
set_option maxRecDepth 20000 in
theorem wi_L_placesThatFit : Cond.instanceMethod ⟨"DoorVoice$Listener", "placesThatFit", "(LDoorVoice$Street;)I"⟩ ∈ ax_T := ax_in 434 rfl rfl
set_option maxRecDepth 20000 in
theorem wv_L_placesThatFit : Cond.selects "DoorVoice$Listener" ⟨"DoorVoice$Listener", "placesThatFit", "(LDoorVoice$Street;)I"⟩ ⟨"DoorVoice$Listener", "placesThatFit", "(LDoorVoice$Street;)I"⟩ ∈ ax_T := ax_in 435 rfl rfl
set_option maxRecDepth 20000 in
theorem lm_W_99 : Cond.methodLink "DoorVoiceLaw" 99 ⟨"DoorVoice", "ask", "(I)I"⟩ ∈ ax_T := ax_in 437 rfl rfl
set_option maxRecDepth 20000 in
theorem wi_V_ask : Cond.instanceMethod ⟨"DoorVoice", "ask", "(I)I"⟩ ∈ ax_T := ax_in 438 rfl rfl
set_option maxRecDepth 20000 in
theorem wv_V_ask : Cond.selects "DoorVoice" ⟨"DoorVoice", "ask", "(I)I"⟩ ⟨"DoorVoice", "ask", "(I)I"⟩ ∈ ax_T := ax_in 439 rfl rfl
set_option maxRecDepth 20000 in
theorem lm_V_180 : Cond.methodLink "DoorVoice" 180 ⟨"DoorVoice$Listener", "bestToAsk", "(IZ)I"⟩ ∈ ax_T := ax_in 441 rfl rfl
set_option maxRecDepth 20000 in
theorem wi_L_bestToAsk : Cond.instanceMethod ⟨"DoorVoice$Listener", "bestToAsk", "(IZ)I"⟩ ∈ ax_T := ax_in 442 rfl rfl
set_option maxRecDepth 20000 in
theorem wv_L_bestToAsk : Cond.selects "DoorVoice$Listener" ⟨"DoorVoice$Listener", "bestToAsk", "(IZ)I"⟩ ⟨"DoorVoice$Listener", "bestToAsk", "(IZ)I"⟩ ∈ ax_T := ax_in 443 rfl rfl
set_option maxRecDepth 20000 in
theorem lm_L_62 : Cond.methodLink "DoorVoice$Listener" 62 ⟨"java/lang/Math", "max", "(II)I"⟩ ∈ ax_T := ax_in 445 rfl rfl
set_option maxRecDepth 20000 in
theorem lm_W_103 : Cond.methodLink "DoorVoiceLaw" 103 ⟨"DoorVoice", "rumour", "(II)I"⟩ ∈ ax_T := ax_in 446 rfl rfl
set_option maxRecDepth 20000 in
theorem wi_V_rumour : Cond.instanceMethod ⟨"DoorVoice", "rumour", "(II)I"⟩ ∈ ax_T := ax_in 447 rfl rfl
set_option maxRecDepth 20000 in
theorem wv_V_rumour : Cond.selects "DoorVoice" ⟨"DoorVoice", "rumour", "(II)I"⟩ ⟨"DoorVoice", "rumour", "(II)I"⟩ ∈ ax_T := ax_in 448 rfl rfl
set_option maxRecDepth 20000 in
theorem lm_V_183 : Cond.methodLink "DoorVoice" 183 ⟨"DoorVoice$Street", "eveningsOfRumour", "(I)I"⟩ ∈ ax_T := ax_in 450 rfl rfl
set_option maxRecDepth 20000 in
theorem wi_S_eveningsOfRumour : Cond.instanceMethod ⟨"DoorVoice$Street", "eveningsOfRumour", "(I)I"⟩ ∈ ax_T := ax_in 451 rfl rfl
set_option maxRecDepth 20000 in
theorem wv_S_eveningsOfRumour : Cond.selects "DoorVoice$Street" ⟨"DoorVoice$Street", "eveningsOfRumour", "(I)I"⟩ ⟨"DoorVoice$Street", "eveningsOfRumour", "(I)I"⟩ ∈ ax_T := ax_in 452 rfl rfl
set_option maxRecDepth 20000 in
theorem lm_S_94 : Cond.methodLink "DoorVoice$Street" 94 ⟨"DoorVoice$Street", "toldOnward", "(I)I"⟩ ∈ ax_T := ax_in 454 rfl rfl
set_option maxRecDepth 20000 in
theorem wi_S_toldOnward : Cond.instanceMethod ⟨"DoorVoice$Street", "toldOnward", "(I)I"⟩ ∈ ax_T := ax_in 456 rfl rfl
set_option maxRecDepth 20000 in
theorem lm_V_186 : Cond.methodLink "DoorVoice" 186 ⟨"DoorVoice$Street", "knowersOfRumour", "(II)I"⟩ ∈ ax_T := ax_in 458 rfl rfl
set_option maxRecDepth 20000 in
theorem wi_S_knowersOfRumour : Cond.instanceMethod ⟨"DoorVoice$Street", "knowersOfRumour", "(II)I"⟩ ∈ ax_T := ax_in 459 rfl rfl
set_option maxRecDepth 20000 in
theorem wv_S_knowersOfRumour : Cond.selects "DoorVoice$Street" ⟨"DoorVoice$Street", "knowersOfRumour", "(II)I"⟩ ⟨"DoorVoice$Street", "knowersOfRumour", "(II)I"⟩ ∈ ax_T := ax_in 460 rfl rfl
set_option maxRecDepth 20000 in
theorem lm_V_189 : Cond.methodLink "DoorVoice" 189 ⟨"java/lang/Integer", "bitCount", "(I)I"⟩ ∈ ax_T := ax_in 462 rfl rfl
set_option maxRecDepth 20000 in
theorem lm_W_107 : Cond.methodLink "DoorVoiceLaw" 107 ⟨"DoorVoice", "chance", "(IIII)J"⟩ ∈ ax_T := ax_in 463 rfl rfl
set_option maxRecDepth 20000 in
theorem wi_V_chance : Cond.instanceMethod ⟨"DoorVoice", "chance", "(IIII)J"⟩ ∈ ax_T := ax_in 464 rfl rfl
set_option maxRecDepth 20000 in
theorem wv_V_chance : Cond.selects "DoorVoice" ⟨"DoorVoice", "chance", "(IIII)J"⟩ ⟨"DoorVoice", "chance", "(IIII)J"⟩ ∈ ax_T := ax_in 465 rfl rfl
set_option maxRecDepth 20000 in
theorem lc_V_194 : Cond.constantLong "DoorVoice" 194 (-1000000000000000001) ∈ ax_T := ax_in 467 rfl rfl
set_option maxRecDepth 20000 in
theorem lc_V_196 : Cond.constantLong "DoorVoice" 196 (-1000000000000000002) ∈ ax_T := ax_in 468 rfl rfl
set_option maxRecDepth 20000 in
theorem lm_V_198 : Cond.methodLink "DoorVoice" 198 ⟨"DoorVoice$Chances", "weigh", "(LDoorVoice$Street;I)V"⟩ ∈ ax_T := ax_in 469 rfl rfl
set_option maxRecDepth 20000 in
theorem wi_C_weigh : Cond.instanceMethod ⟨"DoorVoice$Chances", "weigh", "(LDoorVoice$Street;I)V"⟩ ∈ ax_T := ax_in 470 rfl rfl
set_option maxRecDepth 20000 in
theorem wv_C_weigh : Cond.selects "DoorVoice$Chances" ⟨"DoorVoice$Chances", "weigh", "(LDoorVoice$Street;I)V"⟩ ⟨"DoorVoice$Chances", "weigh", "(LDoorVoice$Street;I)V"⟩ ∈ ax_T := ax_in 471 rfl rfl
set_option maxRecDepth 20000 in
theorem lm_C_29 : Cond.methodLink "DoorVoice$Chances" 29 ⟨"DoorVoice$Street", "hearers", "(II)I"⟩ ∈ ax_T := ax_in 473 rfl rfl
set_option maxRecDepth 20000 in
theorem lm_C_35 : Cond.methodLink "DoorVoice$Chances" 35 ⟨"java/lang/Integer", "bitCount", "(I)I"⟩ ∈ ax_T := ax_in 474 rfl rfl
set_option maxRecDepth 20000 in
theorem lm_V_202 : Cond.methodLink "DoorVoice" 202 ⟨"DoorVoice$Chances", "findMean", "(I)V"⟩ ∈ ax_T := ax_in 475 rfl rfl
set_option maxRecDepth 20000 in
theorem wi_C_findMean : Cond.instanceMethod ⟨"DoorVoice$Chances", "findMean", "(I)V"⟩ ∈ ax_T := ax_in 476 rfl rfl
set_option maxRecDepth 20000 in
theorem wv_C_findMean : Cond.selects "DoorVoice$Chances" ⟨"DoorVoice$Chances", "findMean", "(I)V"⟩ ⟨"DoorVoice$Chances", "findMean", "(I)V"⟩ ∈ ax_T := ax_in 477 rfl rfl
set_option maxRecDepth 20000 in
theorem lc_C_41 : Cond.constantLong "DoorVoice$Chances" 41 (10) ∈ ax_T := ax_in 479 rfl rfl
set_option maxRecDepth 20000 in
theorem lm_C_43 : Cond.methodLink "DoorVoice$Chances" 43 ⟨"DoorVoice$Chances", "putLowest", "(JJ)V"⟩ ∈ ax_T := ax_in 480 rfl rfl
set_option maxRecDepth 20000 in
theorem wi_C_putLowest : Cond.instanceMethod ⟨"DoorVoice$Chances", "putLowest", "(JJ)V"⟩ ∈ ax_T := ax_in 482 rfl rfl
set_option maxRecDepth 20000 in
theorem lm_C_51 : Cond.methodLink "DoorVoice$Chances" 51 ⟨"DoorVoice$Chances", "greatestDivisor", "(JJ)J"⟩ ∈ ax_T := ax_in 484 rfl rfl
set_option maxRecDepth 20000 in
theorem ws_C_greatestDivisor : Cond.static ⟨"DoorVoice$Chances", "greatestDivisor", "(JJ)J"⟩ ∈ ax_T := ax_in 485 rfl rfl
set_option maxRecDepth 20000 in
theorem lm_V_206 : Cond.methodLink "DoorVoice" 206 ⟨"DoorVoice$Chances", "findAtMost", "(II)V"⟩ ∈ ax_T := ax_in 487 rfl rfl
set_option maxRecDepth 20000 in
theorem wi_C_findAtMost : Cond.instanceMethod ⟨"DoorVoice$Chances", "findAtMost", "(II)V"⟩ ∈ ax_T := ax_in 488 rfl rfl
set_option maxRecDepth 20000 in
theorem wv_C_findAtMost : Cond.selects "DoorVoice$Chances" ⟨"DoorVoice$Chances", "findAtMost", "(II)V"⟩ ⟨"DoorVoice$Chances", "findAtMost", "(II)V"⟩ ∈ ax_T := ax_in 489 rfl rfl
set_option maxRecDepth 20000 in
theorem lm_C_47 : Cond.methodLink "DoorVoice$Chances" 47 ⟨"DoorVoice$Chances", "countWays", "(I)V"⟩ ∈ ax_T := ax_in 491 rfl rfl
set_option maxRecDepth 20000 in
theorem wi_C_countWays : Cond.instanceMethod ⟨"DoorVoice$Chances", "countWays", "(I)V"⟩ ∈ ax_T := ax_in 493 rfl rfl
set_option maxRecDepth 20000 in
theorem lm_W_112 : Cond.methodLink "DoorVoiceLaw" 112 ⟨"DoorVoice", "year", "(III)I"⟩ ∈ ax_T := ax_in 495 rfl rfl
set_option maxRecDepth 20000 in
theorem wi_V_year : Cond.instanceMethod ⟨"DoorVoice", "year", "(III)I"⟩ ∈ ax_T := ax_in 496 rfl rfl
set_option maxRecDepth 20000 in
theorem wv_V_year : Cond.selects "DoorVoice" ⟨"DoorVoice", "year", "(III)I"⟩ ⟨"DoorVoice", "year", "(III)I"⟩ ∈ ax_T := ax_in 497 rfl rfl
set_option maxRecDepth 20000 in
theorem lm_V_217 : Cond.methodLink "DoorVoice" 217 ⟨"DoorVoice$Street", "drawYear", "(II)V"⟩ ∈ ax_T := ax_in 499 rfl rfl
set_option maxRecDepth 20000 in
theorem wi_S_drawYear : Cond.instanceMethod ⟨"DoorVoice$Street", "drawYear", "(II)V"⟩ ∈ ax_T := ax_in 500 rfl rfl
set_option maxRecDepth 20000 in
theorem wv_S_drawYear : Cond.selects "DoorVoice$Street" ⟨"DoorVoice$Street", "drawYear", "(II)V"⟩ ⟨"DoorVoice$Street", "drawYear", "(II)V"⟩ ∈ ax_T := ax_in 501 rfl rfl
set_option maxRecDepth 20000 in
theorem lc_S_98 : Cond.constant "DoorVoice$Street" 98 (65537) ∈ ax_T := ax_in 503 rfl rfl
set_option maxRecDepth 20000 in
theorem lm_S_99 : Cond.methodLink "DoorVoice$Street" 99 ⟨"DoorVoice$Street", "drawnKind", "(I)I"⟩ ∈ ax_T := ax_in 504 rfl rfl
set_option maxRecDepth 20000 in
theorem ws_S_drawnKind : Cond.static ⟨"DoorVoice$Street", "drawnKind", "(I)I"⟩ ∈ ax_T := ax_in 505 rfl rfl
set_option maxRecDepth 20000 in
theorem lm_S_102 : Cond.methodLink "DoorVoice$Street" 102 ⟨"DoorVoice$Street", "whyNot", "(II)I"⟩ ∈ ax_T := ax_in 507 rfl rfl
set_option maxRecDepth 20000 in
theorem lm_S_105 : Cond.methodLink "DoorVoice$Street" 105 ⟨"DoorVoice$Street", "carryOut", "(II)V"⟩ ∈ ax_T := ax_in 508 rfl rfl
set_option maxRecDepth 20000 in
theorem lm_V_220 : Cond.methodLink "DoorVoice" 220 ⟨"DoorVoice$Street", "factsKnown", "()I"⟩ ∈ ax_T := ax_in 509 rfl rfl
set_option maxRecDepth 20000 in
theorem wi_S_factsKnown : Cond.instanceMethod ⟨"DoorVoice$Street", "factsKnown", "()I"⟩ ∈ ax_T := ax_in 510 rfl rfl
set_option maxRecDepth 20000 in
theorem wv_S_factsKnown : Cond.selects "DoorVoice$Street" ⟨"DoorVoice$Street", "factsKnown", "()I"⟩ ⟨"DoorVoice$Street", "factsKnown", "()I"⟩ ∈ ax_T := ax_in 511 rfl rfl
set_option maxRecDepth 20000 in
theorem lm_S_109 : Cond.methodLink "DoorVoice$Street" 109 ⟨"java/lang/Integer", "bitCount", "(I)I"⟩ ∈ ax_T := ax_in 513 rfl rfl
set_option maxRecDepth 20000 in
theorem lm_W_117 : Cond.methodLink "DoorVoiceLaw" 117 ⟨"DoorVoice", "image", "(I)I"⟩ ∈ ax_T := ax_in 514 rfl rfl
set_option maxRecDepth 20000 in
theorem wi_V_image : Cond.instanceMethod ⟨"DoorVoice", "image", "(I)I"⟩ ∈ ax_T := ax_in 515 rfl rfl
set_option maxRecDepth 20000 in
theorem wv_V_image : Cond.selects "DoorVoice" ⟨"DoorVoice", "image", "(I)I"⟩ ⟨"DoorVoice", "image", "(I)I"⟩ ∈ ax_T := ax_in 516 rfl rfl
set_option maxRecDepth 20000 in
theorem lm_V_223 : Cond.methodLink "DoorVoice" 223 ⟨"DoorVoice", "imageNumbered", "(I)LDoorVoice$Street;"⟩ ∈ ax_T := ax_in 518 rfl rfl
set_option maxRecDepth 20000 in
theorem wi_V_imageNumbered : Cond.instanceMethod ⟨"DoorVoice", "imageNumbered", "(I)LDoorVoice$Street;"⟩ ∈ ax_T := ax_in 520 rfl rfl
set_option maxRecDepth 20000 in
theorem lm_W_121 : Cond.methodLink "DoorVoiceLaw" 121 ⟨"DoorVoice", "restore", "(I)I"⟩ ∈ ax_T := ax_in 522 rfl rfl
set_option maxRecDepth 20000 in
theorem wi_V_restore : Cond.instanceMethod ⟨"DoorVoice", "restore", "(I)I"⟩ ∈ ax_T := ax_in 523 rfl rfl
set_option maxRecDepth 20000 in
theorem wv_V_restore : Cond.selects "DoorVoice" ⟨"DoorVoice", "restore", "(I)I"⟩ ⟨"DoorVoice", "restore", "(I)I"⟩ ∈ ax_T := ax_in 524 rfl rfl
set_option maxRecDepth 20000 in
theorem lm_W_125 : Cond.methodLink "DoorVoiceLaw" 125 ⟨"DoorVoice", "told", "(I)I"⟩ ∈ ax_T := ax_in 526 rfl rfl
set_option maxRecDepth 20000 in
theorem wi_V_told : Cond.instanceMethod ⟨"DoorVoice", "told", "(I)I"⟩ ∈ ax_T := ax_in 527 rfl rfl
set_option maxRecDepth 20000 in
theorem wv_V_told : Cond.selects "DoorVoice" ⟨"DoorVoice", "told", "(I)I"⟩ ⟨"DoorVoice", "told", "(I)I"⟩ ∈ ax_T := ax_in 528 rfl rfl
set_option maxRecDepth 20000 in
theorem lm_V_227 : Cond.methodLink "DoorVoice" 227 ⟨"DoorVoice", "toldOfAll", "(I)I"⟩ ∈ ax_T := ax_in 530 rfl rfl
set_option maxRecDepth 20000 in
theorem wi_V_toldOfAll : Cond.instanceMethod ⟨"DoorVoice", "toldOfAll", "(I)I"⟩ ∈ ax_T := ax_in 532 rfl rfl
set_option maxRecDepth 20000 in
theorem lm_V_230 : Cond.methodLink "DoorVoice" 230 ⟨"DoorVoice", "toldOfLetter", "(II)I"⟩ ∈ ax_T := ax_in 534 rfl rfl
set_option maxRecDepth 20000 in
theorem wi_V_toldOfLetter : Cond.instanceMethod ⟨"DoorVoice", "toldOfLetter", "(II)I"⟩ ∈ ax_T := ax_in 536 rfl rfl
set_option maxRecDepth 20000 in
theorem lk_W_10 : Cond.classLink "DoorVoiceLaw" 10 "DoorVoiceModel" ∈ ax_T := ax_in 538 rfl rfl
set_option maxRecDepth 20000 in
theorem wt_M : Cond.instantiable "DoorVoiceModel" 20 ∈ ax_T := ax_in 539 rfl rfl
set_option maxRecDepth 20000 in
theorem lm_W_12 : Cond.methodLink "DoorVoiceLaw" 12 ⟨"DoorVoiceModel", "<init>", "()V"⟩ ∈ ax_T := ax_in 540 rfl rfl
set_option maxRecDepth 20000 in
theorem wi_M_init : Cond.instanceMethod ⟨"DoorVoiceModel", "<init>", "()V"⟩ ∈ ax_T := ax_in 541 rfl rfl
set_option maxRecDepth 20000 in
theorem lm_M_1 : Cond.methodLink "DoorVoiceModel" 1 ⟨"java/lang/Object", "<init>", "()V"⟩ ∈ ax_T := ax_in 543 rfl rfl
set_option maxRecDepth 20000 in
theorem wa_boolean : Cond.arrayClass .boolean ∈ ax_T := ax_in 605 rfl rfl
set_option maxRecDepth 20000 in
theorem lm_W_17 : Cond.methodLink "DoorVoiceLaw" 17 ⟨"DoorVoiceModel", "house", "(IZZI)I"⟩ ∈ ax_T := ax_in 606 rfl rfl
set_option maxRecDepth 20000 in
theorem wi_M_house : Cond.instanceMethod ⟨"DoorVoiceModel", "house", "(IZZI)I"⟩ ∈ ax_T := ax_in 607 rfl rfl
set_option maxRecDepth 20000 in
theorem wv_M_house : Cond.selects "DoorVoiceModel" ⟨"DoorVoiceModel", "house", "(IZZI)I"⟩ ⟨"DoorVoiceModel", "house", "(IZZI)I"⟩ ∈ ax_T := ax_in 608 rfl rfl
set_option maxRecDepth 20000 in
theorem lm_M_56 : Cond.methodLink "DoorVoiceModel" 56 ⟨"DoorVoiceModel", "isHouse", "(I)Z"⟩ ∈ ax_T := ax_in 610 rfl rfl
set_option maxRecDepth 20000 in
theorem ws_M_isHouse : Cond.static ⟨"DoorVoiceModel", "isHouse", "(I)Z"⟩ ∈ ax_T := ax_in 611 rfl rfl
set_option maxRecDepth 20000 in
theorem lm_M_52 : Cond.methodLink "DoorVoiceModel" 52 ⟨"DoorVoiceModel", "in", "(III)Z"⟩ ∈ ax_T := ax_in 613 rfl rfl
set_option maxRecDepth 20000 in
theorem ws_M_in : Cond.static ⟨"DoorVoiceModel", "in", "(III)Z"⟩ ∈ ax_T := ax_in 614 rfl rfl
set_option maxRecDepth 20000 in
theorem lm_W_22 : Cond.methodLink "DoorVoiceLaw" 22 ⟨"DoorVoiceModel", "wall", "(II)I"⟩ ∈ ax_T := ax_in 616 rfl rfl
set_option maxRecDepth 20000 in
theorem wi_M_wall : Cond.instanceMethod ⟨"DoorVoiceModel", "wall", "(II)I"⟩ ∈ ax_T := ax_in 617 rfl rfl
set_option maxRecDepth 20000 in
theorem wv_M_wall : Cond.selects "DoorVoiceModel" ⟨"DoorVoiceModel", "wall", "(II)I"⟩ ⟨"DoorVoiceModel", "wall", "(II)I"⟩ ∈ ax_T := ax_in 618 rfl rfl
set_option maxRecDepth 20000 in
theorem lm_W_26 : Cond.methodLink "DoorVoiceLaw" 26 ⟨"DoorVoiceModel", "set", "(II)I"⟩ ∈ ax_T := ax_in 620 rfl rfl
set_option maxRecDepth 20000 in
theorem wi_M_set : Cond.instanceMethod ⟨"DoorVoiceModel", "set", "(II)I"⟩ ∈ ax_T := ax_in 621 rfl rfl
set_option maxRecDepth 20000 in
theorem wv_M_set : Cond.selects "DoorVoiceModel" ⟨"DoorVoiceModel", "set", "(II)I"⟩ ⟨"DoorVoiceModel", "set", "(II)I"⟩ ∈ ax_T := ax_in 622 rfl rfl
set_option maxRecDepth 20000 in
theorem lm_W_31 : Cond.methodLink "DoorVoiceLaw" 31 ⟨"DoorVoiceModel", "letter", "(IIIII)I"⟩ ∈ ax_T := ax_in 624 rfl rfl
set_option maxRecDepth 20000 in
theorem wi_M_letter : Cond.instanceMethod ⟨"DoorVoiceModel", "letter", "(IIIII)I"⟩ ∈ ax_T := ax_in 625 rfl rfl
set_option maxRecDepth 20000 in
theorem wv_M_letter : Cond.selects "DoorVoiceModel" ⟨"DoorVoiceModel", "letter", "(IIIII)I"⟩ ⟨"DoorVoiceModel", "letter", "(IIIII)I"⟩ ∈ ax_T := ax_in 626 rfl rfl
set_option maxRecDepth 20000 in
theorem lm_W_36 : Cond.methodLink "DoorVoiceLaw" 36 ⟨"DoorVoiceModel", "say", "(I)I"⟩ ∈ ax_T := ax_in 628 rfl rfl
set_option maxRecDepth 20000 in
theorem wi_M_say : Cond.instanceMethod ⟨"DoorVoiceModel", "say", "(I)I"⟩ ∈ ax_T := ax_in 629 rfl rfl
set_option maxRecDepth 20000 in
theorem wv_M_say : Cond.selects "DoorVoiceModel" ⟨"DoorVoiceModel", "say", "(I)I"⟩ ⟨"DoorVoiceModel", "say", "(I)I"⟩ ∈ ax_T := ax_in 630 rfl rfl
set_option maxRecDepth 20000 in
theorem lm_W_41 : Cond.methodLink "DoorVoiceLaw" 41 ⟨"DoorVoiceModel", "wipe", "()I"⟩ ∈ ax_T := ax_in 632 rfl rfl
set_option maxRecDepth 20000 in
theorem wi_M_wipe : Cond.instanceMethod ⟨"DoorVoiceModel", "wipe", "()I"⟩ ∈ ax_T := ax_in 633 rfl rfl
set_option maxRecDepth 20000 in
theorem wv_M_wipe : Cond.selects "DoorVoiceModel" ⟨"DoorVoiceModel", "wipe", "()I"⟩ ⟨"DoorVoiceModel", "wipe", "()I"⟩ ∈ ax_T := ax_in 634 rfl rfl
set_option maxRecDepth 20000 in
theorem lm_W_45 : Cond.methodLink "DoorVoiceLaw" 45 ⟨"DoorVoiceModel", "fault", "()I"⟩ ∈ ax_T := ax_in 636 rfl rfl
set_option maxRecDepth 20000 in
theorem wi_M_fault : Cond.instanceMethod ⟨"DoorVoiceModel", "fault", "()I"⟩ ∈ ax_T := ax_in 637 rfl rfl
set_option maxRecDepth 20000 in
theorem wv_M_fault : Cond.selects "DoorVoiceModel" ⟨"DoorVoiceModel", "fault", "()I"⟩ ⟨"DoorVoiceModel", "fault", "()I"⟩ ∈ ax_T := ax_in 638 rfl rfl
set_option maxRecDepth 20000 in
theorem lm_M_69 : Cond.methodLink "DoorVoiceModel" 69 ⟨"DoorVoiceModel", "faultOf", "()I"⟩ ∈ ax_T := ax_in 640 rfl rfl
set_option maxRecDepth 20000 in
theorem wi_M_faultOf : Cond.instanceMethod ⟨"DoorVoiceModel", "faultOf", "()I"⟩ ∈ ax_T := ax_in 642 rfl rfl
set_option maxRecDepth 20000 in
theorem lm_M_66 : Cond.methodLink "DoorVoiceModel" 66 ⟨"DoorVoiceModel", "isLetter", "(I)Z"⟩ ∈ ax_T := ax_in 644 rfl rfl
set_option maxRecDepth 20000 in
theorem ws_M_isLetter : Cond.static ⟨"DoorVoiceModel", "isLetter", "(I)Z"⟩ ∈ ax_T := ax_in 645 rfl rfl
set_option maxRecDepth 20000 in
theorem lm_W_49 : Cond.methodLink "DoorVoiceLaw" 49 ⟨"DoorVoiceModel", "judge", "(I)I"⟩ ∈ ax_T := ax_in 647 rfl rfl
set_option maxRecDepth 20000 in
theorem wi_M_judge : Cond.instanceMethod ⟨"DoorVoiceModel", "judge", "(I)I"⟩ ∈ ax_T := ax_in 648 rfl rfl
set_option maxRecDepth 20000 in
theorem wv_M_judge : Cond.selects "DoorVoiceModel" ⟨"DoorVoiceModel", "judge", "(I)I"⟩ ⟨"DoorVoiceModel", "judge", "(I)I"⟩ ∈ ax_T := ax_in 649 rfl rfl
set_option maxRecDepth 20000 in
theorem lm_M_110 : Cond.methodLink "DoorVoiceModel" 110 ⟨"DoorVoiceModel", "goDays", "()I"⟩ ∈ ax_T := ax_in 651 rfl rfl
set_option maxRecDepth 20000 in
theorem wi_M_goDays : Cond.instanceMethod ⟨"DoorVoiceModel", "goDays", "()I"⟩ ∈ ax_T := ax_in 653 rfl rfl
set_option maxRecDepth 20000 in
theorem lm_M_88 : Cond.methodLink "DoorVoiceModel" 88 ⟨"DoorVoiceModel", "asNow", "()V"⟩ ∈ ax_T := ax_in 655 rfl rfl
set_option maxRecDepth 20000 in
theorem wi_M_asNow : Cond.instanceMethod ⟨"DoorVoiceModel", "asNow", "()V"⟩ ∈ ax_T := ax_in 657 rfl rfl
set_option maxRecDepth 20000 in
theorem lm_M_100 : Cond.methodLink "DoorVoiceModel" 100 ⟨"DoorVoiceModel", "evening", "()I"⟩ ∈ ax_T := ax_in 659 rfl rfl
set_option maxRecDepth 20000 in
theorem wi_M_evening : Cond.instanceMethod ⟨"DoorVoiceModel", "evening", "()I"⟩ ∈ ax_T := ax_in 661 rfl rfl
set_option maxRecDepth 20000 in
theorem lm_M_77 : Cond.methodLink "DoorVoiceModel" 77 ⟨"DoorVoiceModel", "has", "(II)Z"⟩ ∈ ax_T := ax_in 663 rfl rfl
set_option maxRecDepth 20000 in
theorem ws_M_has : Cond.static ⟨"DoorVoiceModel", "has", "(II)Z"⟩ ∈ ax_T := ax_in 664 rfl rfl
set_option maxRecDepth 20000 in
theorem lm_M_103 : Cond.methodLink "DoorVoiceModel" 103 ⟨"DoorVoiceModel", "goTo", "(I)I"⟩ ∈ ax_T := ax_in 666 rfl rfl
set_option maxRecDepth 20000 in
theorem wi_M_goTo : Cond.instanceMethod ⟨"DoorVoiceModel", "goTo", "(I)I"⟩ ∈ ax_T := ax_in 668 rfl rfl
set_option maxRecDepth 20000 in
theorem lm_M_107 : Cond.methodLink "DoorVoiceModel" 107 ⟨"DoorVoiceModel", "read", "(I)I"⟩ ∈ ax_T := ax_in 670 rfl rfl
set_option maxRecDepth 20000 in
theorem wi_M_read : Cond.instanceMethod ⟨"DoorVoiceModel", "read", "(I)I"⟩ ∈ ax_T := ax_in 672 rfl rfl
set_option maxRecDepth 20000 in
theorem lm_M_81 : Cond.methodLink "DoorVoiceModel" 81 ⟨"DoorVoiceModel", "doesHear", "(III)Z"⟩ ∈ ax_T := ax_in 674 rfl rfl
set_option maxRecDepth 20000 in
theorem wi_M_doesHear : Cond.instanceMethod ⟨"DoorVoiceModel", "doesHear", "(III)Z"⟩ ∈ ax_T := ax_in 676 rfl rfl
set_option maxRecDepth 20000 in
theorem lm_M_73 : Cond.methodLink "DoorVoiceModel" 73 ⟨"DoorVoiceModel", "loudAt", "(II)I"⟩ ∈ ax_T := ax_in 678 rfl rfl
set_option maxRecDepth 20000 in
theorem wi_M_loudAt : Cond.instanceMethod ⟨"DoorVoiceModel", "loudAt", "(II)I"⟩ ∈ ax_T := ax_in 680 rfl rfl
set_option maxRecDepth 20000 in
theorem lm_W_53 : Cond.methodLink "DoorVoiceLaw" 53 ⟨"DoorVoiceModel", "done", "()I"⟩ ∈ ax_T := ax_in 682 rfl rfl
set_option maxRecDepth 20000 in
theorem wi_M_done : Cond.instanceMethod ⟨"DoorVoiceModel", "done", "()I"⟩ ∈ ax_T := ax_in 683 rfl rfl
set_option maxRecDepth 20000 in
theorem wv_M_done : Cond.selects "DoorVoiceModel" ⟨"DoorVoiceModel", "done", "()I"⟩ ⟨"DoorVoiceModel", "done", "()I"⟩ ∈ ax_T := ax_in 684 rfl rfl
set_option maxRecDepth 20000 in
theorem lm_M_113 : Cond.methodLink "DoorVoiceModel" 113 ⟨"DoorVoiceModel", "barOfDays", "()I"⟩ ∈ ax_T := ax_in 686 rfl rfl
set_option maxRecDepth 20000 in
theorem wi_M_barOfDays : Cond.instanceMethod ⟨"DoorVoiceModel", "barOfDays", "()I"⟩ ∈ ax_T := ax_in 688 rfl rfl
set_option maxRecDepth 20000 in
theorem lm_W_57 : Cond.methodLink "DoorVoiceLaw" 57 ⟨"DoorVoiceModel", "knows", "(I)I"⟩ ∈ ax_T := ax_in 690 rfl rfl
set_option maxRecDepth 20000 in
theorem wi_M_knows : Cond.instanceMethod ⟨"DoorVoiceModel", "knows", "(I)I"⟩ ∈ ax_T := ax_in 691 rfl rfl
set_option maxRecDepth 20000 in
theorem wv_M_knows : Cond.selects "DoorVoiceModel" ⟨"DoorVoiceModel", "knows", "(I)I"⟩ ⟨"DoorVoiceModel", "knows", "(I)I"⟩ ∈ ax_T := ax_in 692 rfl rfl
set_option maxRecDepth 20000 in
theorem lm_W_61 : Cond.methodLink "DoorVoiceLaw" 61 ⟨"DoorVoiceModel", "behind", "(I)I"⟩ ∈ ax_T := ax_in 694 rfl rfl
set_option maxRecDepth 20000 in
theorem wi_M_behind : Cond.instanceMethod ⟨"DoorVoiceModel", "behind", "(I)I"⟩ ∈ ax_T := ax_in 695 rfl rfl
set_option maxRecDepth 20000 in
theorem wv_M_behind : Cond.selects "DoorVoiceModel" ⟨"DoorVoiceModel", "behind", "(I)I"⟩ ⟨"DoorVoiceModel", "behind", "(I)I"⟩ ∈ ax_T := ax_in 696 rfl rfl
set_option maxRecDepth 20000 in
theorem lm_W_65 : Cond.methodLink "DoorVoiceLaw" 65 ⟨"DoorVoiceModel", "who", "(I)I"⟩ ∈ ax_T := ax_in 698 rfl rfl
set_option maxRecDepth 20000 in
theorem wi_M_who : Cond.instanceMethod ⟨"DoorVoiceModel", "who", "(I)I"⟩ ∈ ax_T := ax_in 699 rfl rfl
set_option maxRecDepth 20000 in
theorem wv_M_who : Cond.selects "DoorVoiceModel" ⟨"DoorVoiceModel", "who", "(I)I"⟩ ⟨"DoorVoiceModel", "who", "(I)I"⟩ ∈ ax_T := ax_in 700 rfl rfl
set_option maxRecDepth 20000 in
theorem lm_W_69 : Cond.methodLink "DoorVoiceLaw" 69 ⟨"DoorVoiceModel", "loud", "(II)I"⟩ ∈ ax_T := ax_in 702 rfl rfl
set_option maxRecDepth 20000 in
theorem wi_M_loud : Cond.instanceMethod ⟨"DoorVoiceModel", "loud", "(II)I"⟩ ∈ ax_T := ax_in 703 rfl rfl
set_option maxRecDepth 20000 in
theorem wv_M_loud : Cond.selects "DoorVoiceModel" ⟨"DoorVoiceModel", "loud", "(II)I"⟩ ⟨"DoorVoiceModel", "loud", "(II)I"⟩ ∈ ax_T := ax_in 704 rfl rfl
set_option maxRecDepth 20000 in
theorem lm_W_73 : Cond.methodLink "DoorVoiceLaw" 73 ⟨"DoorVoiceModel", "hears", "(I)I"⟩ ∈ ax_T := ax_in 706 rfl rfl
set_option maxRecDepth 20000 in
theorem wi_M_hears : Cond.instanceMethod ⟨"DoorVoiceModel", "hears", "(I)I"⟩ ∈ ax_T := ax_in 707 rfl rfl
set_option maxRecDepth 20000 in
theorem wv_M_hears : Cond.selects "DoorVoiceModel" ⟨"DoorVoiceModel", "hears", "(I)I"⟩ ⟨"DoorVoiceModel", "hears", "(I)I"⟩ ∈ ax_T := ax_in 708 rfl rfl
set_option maxRecDepth 20000 in
theorem lm_M_116 : Cond.methodLink "DoorVoiceModel" 116 ⟨"DoorVoiceModel", "hearers", "(II)I"⟩ ∈ ax_T := ax_in 710 rfl rfl
set_option maxRecDepth 20000 in
theorem wi_M_hearers : Cond.instanceMethod ⟨"DoorVoiceModel", "hearers", "(II)I"⟩ ∈ ax_T := ax_in 712 rfl rfl
set_option maxRecDepth 20000 in
theorem lm_W_77 : Cond.methodLink "DoorVoiceLaw" 77 ⟨"DoorVoiceModel", "best", "(II)I"⟩ ∈ ax_T := ax_in 714 rfl rfl
set_option maxRecDepth 20000 in
theorem wi_M_best : Cond.instanceMethod ⟨"DoorVoiceModel", "best", "(II)I"⟩ ∈ ax_T := ax_in 715 rfl rfl
set_option maxRecDepth 20000 in
theorem wv_M_best : Cond.selects "DoorVoiceModel" ⟨"DoorVoiceModel", "best", "(II)I"⟩ ⟨"DoorVoiceModel", "best", "(II)I"⟩ ∈ ax_T := ax_in 716 rfl rfl
set_option maxRecDepth 20000 in
theorem lc_M_119 : Cond.constant "DoorVoiceModel" 119 (1000000) ∈ ax_T := ax_in 718 rfl rfl
set_option maxRecDepth 20000 in
theorem lm_M_120 : Cond.methodLink "DoorVoiceModel" 120 ⟨"DoorVoiceModel", "bits", "(I)I"⟩ ∈ ax_T := ax_in 719 rfl rfl
set_option maxRecDepth 20000 in
theorem ws_M_bits : Cond.static ⟨"DoorVoiceModel", "bits", "(I)I"⟩ ∈ ax_T := ax_in 720 rfl rfl
set_option maxRecDepth 20000 in
theorem lm_W_81 : Cond.methodLink "DoorVoiceLaw" 81 ⟨"DoorVoiceModel", "thirds", "(II)I"⟩ ∈ ax_T := ax_in 722 rfl rfl
set_option maxRecDepth 20000 in
theorem wi_M_thirds : Cond.instanceMethod ⟨"DoorVoiceModel", "thirds", "(II)I"⟩ ∈ ax_T := ax_in 723 rfl rfl
set_option maxRecDepth 20000 in
theorem wv_M_thirds : Cond.selects "DoorVoiceModel" ⟨"DoorVoiceModel", "thirds", "(II)I"⟩ ⟨"DoorVoiceModel", "thirds", "(II)I"⟩ ∈ ax_T := ax_in 724 rfl rfl
set_option maxRecDepth 20000 in
theorem lm_M_123 : Cond.methodLink "DoorVoiceModel" 123 ⟨"DoorVoiceModel", "laySets", "()V"⟩ ∈ ax_T := ax_in 726 rfl rfl
set_option maxRecDepth 20000 in
theorem wi_M_laySets : Cond.instanceMethod ⟨"DoorVoiceModel", "laySets", "()V"⟩ ∈ ax_T := ax_in 728 rfl rfl
set_option maxRecDepth 20000 in
theorem lm_W_85 : Cond.methodLink "DoorVoiceLaw" 85 ⟨"DoorVoiceModel", "round", "(II)I"⟩ ∈ ax_T := ax_in 730 rfl rfl
set_option maxRecDepth 20000 in
theorem wi_M_round : Cond.instanceMethod ⟨"DoorVoiceModel", "round", "(II)I"⟩ ∈ ax_T := ax_in 731 rfl rfl
set_option maxRecDepth 20000 in
theorem wv_M_round : Cond.selects "DoorVoiceModel" ⟨"DoorVoiceModel", "round", "(II)I"⟩ ⟨"DoorVoiceModel", "round", "(II)I"⟩ ∈ ax_T := ax_in 732 rfl rfl
set_option maxRecDepth 20000 in
theorem lm_W_90 : Cond.methodLink "DoorVoiceLaw" 90 ⟨"DoorVoiceModel", "seen", "(IZ)I"⟩ ∈ ax_T := ax_in 734 rfl rfl
set_option maxRecDepth 20000 in
theorem wi_M_seen : Cond.instanceMethod ⟨"DoorVoiceModel", "seen", "(IZ)I"⟩ ∈ ax_T := ax_in 735 rfl rfl
set_option maxRecDepth 20000 in
theorem wv_M_seen : Cond.selects "DoorVoiceModel" ⟨"DoorVoiceModel", "seen", "(IZ)I"⟩ ⟨"DoorVoiceModel", "seen", "(IZ)I"⟩ ∈ ax_T := ax_in 736 rfl rfl
set_option maxRecDepth 20000 in
theorem lm_W_94 : Cond.methodLink "DoorVoiceLaw" 94 ⟨"DoorVoiceModel", "forget", "()I"⟩ ∈ ax_T := ax_in 738 rfl rfl
set_option maxRecDepth 20000 in
theorem wi_M_forget : Cond.instanceMethod ⟨"DoorVoiceModel", "forget", "()I"⟩ ∈ ax_T := ax_in 739 rfl rfl
set_option maxRecDepth 20000 in
theorem wv_M_forget : Cond.selects "DoorVoiceModel" ⟨"DoorVoiceModel", "forget", "()I"⟩ ⟨"DoorVoiceModel", "forget", "()I"⟩ ∈ ax_T := ax_in 740 rfl rfl
set_option maxRecDepth 20000 in
theorem lm_W_98 : Cond.methodLink "DoorVoiceLaw" 98 ⟨"DoorVoiceModel", "at", "()I"⟩ ∈ ax_T := ax_in 742 rfl rfl
set_option maxRecDepth 20000 in
theorem wi_M_at : Cond.instanceMethod ⟨"DoorVoiceModel", "at", "()I"⟩ ∈ ax_T := ax_in 743 rfl rfl
set_option maxRecDepth 20000 in
theorem wv_M_at : Cond.selects "DoorVoiceModel" ⟨"DoorVoiceModel", "at", "()I"⟩ ⟨"DoorVoiceModel", "at", "()I"⟩ ∈ ax_T := ax_in 744 rfl rfl
set_option maxRecDepth 20000 in
theorem lm_M_129 : Cond.methodLink "DoorVoiceModel" 129 ⟨"DoorVoiceModel", "atSet", "()I"⟩ ∈ ax_T := ax_in 746 rfl rfl
set_option maxRecDepth 20000 in
theorem wi_M_atSet : Cond.instanceMethod ⟨"DoorVoiceModel", "atSet", "()I"⟩ ∈ ax_T := ax_in 748 rfl rfl
set_option maxRecDepth 20000 in
theorem lm_W_102 : Cond.methodLink "DoorVoiceLaw" 102 ⟨"DoorVoiceModel", "ask", "(I)I"⟩ ∈ ax_T := ax_in 750 rfl rfl
set_option maxRecDepth 20000 in
theorem wi_M_ask : Cond.instanceMethod ⟨"DoorVoiceModel", "ask", "(I)I"⟩ ∈ ax_T := ax_in 751 rfl rfl
set_option maxRecDepth 20000 in
theorem wv_M_ask : Cond.selects "DoorVoiceModel" ⟨"DoorVoiceModel", "ask", "(I)I"⟩ ⟨"DoorVoiceModel", "ask", "(I)I"⟩ ∈ ax_T := ax_in 752 rfl rfl
set_option maxRecDepth 20000 in
theorem lm_W_106 : Cond.methodLink "DoorVoiceLaw" 106 ⟨"DoorVoiceModel", "rumour", "(II)I"⟩ ∈ ax_T := ax_in 754 rfl rfl
set_option maxRecDepth 20000 in
theorem wi_M_rumour : Cond.instanceMethod ⟨"DoorVoiceModel", "rumour", "(II)I"⟩ ∈ ax_T := ax_in 755 rfl rfl
set_option maxRecDepth 20000 in
theorem wv_M_rumour : Cond.selects "DoorVoiceModel" ⟨"DoorVoiceModel", "rumour", "(II)I"⟩ ⟨"DoorVoiceModel", "rumour", "(II)I"⟩ ∈ ax_T := ax_in 756 rfl rfl
set_option maxRecDepth 20000 in
theorem lm_M_132 : Cond.methodLink "DoorVoiceModel" 132 ⟨"DoorVoiceModel", "spread", "(I)I"⟩ ∈ ax_T := ax_in 758 rfl rfl
set_option maxRecDepth 20000 in
theorem wi_M_spread : Cond.instanceMethod ⟨"DoorVoiceModel", "spread", "(I)I"⟩ ∈ ax_T := ax_in 760 rfl rfl
set_option maxRecDepth 20000 in
theorem lm_W_111 : Cond.methodLink "DoorVoiceLaw" 111 ⟨"DoorVoiceModel", "chance", "(IIII)J"⟩ ∈ ax_T := ax_in 762 rfl rfl
set_option maxRecDepth 20000 in
theorem wi_M_chance : Cond.instanceMethod ⟨"DoorVoiceModel", "chance", "(IIII)J"⟩ ∈ ax_T := ax_in 763 rfl rfl
set_option maxRecDepth 20000 in
theorem wv_M_chance : Cond.selects "DoorVoiceModel" ⟨"DoorVoiceModel", "chance", "(IIII)J"⟩ ⟨"DoorVoiceModel", "chance", "(IIII)J"⟩ ∈ ax_T := ax_in 764 rfl rfl
set_option maxRecDepth 20000 in
theorem lc_M_135 : Cond.constantLong "DoorVoiceModel" 135 (-1000000000000000001) ∈ ax_T := ax_in 766 rfl rfl
set_option maxRecDepth 20000 in
theorem lc_M_137 : Cond.constantLong "DoorVoiceModel" 137 (-1000000000000000002) ∈ ax_T := ax_in 767 rfl rfl
set_option maxRecDepth 20000 in
theorem lc_M_139 : Cond.constantLong "DoorVoiceModel" 139 (10) ∈ ax_T := ax_in 768 rfl rfl
set_option maxRecDepth 20000 in
theorem lm_W_116 : Cond.methodLink "DoorVoiceLaw" 116 ⟨"DoorVoiceModel", "year", "(III)I"⟩ ∈ ax_T := ax_in 769 rfl rfl
set_option maxRecDepth 20000 in
theorem wi_M_year : Cond.instanceMethod ⟨"DoorVoiceModel", "year", "(III)I"⟩ ∈ ax_T := ax_in 770 rfl rfl
set_option maxRecDepth 20000 in
theorem wv_M_year : Cond.selects "DoorVoiceModel" ⟨"DoorVoiceModel", "year", "(III)I"⟩ ⟨"DoorVoiceModel", "year", "(III)I"⟩ ∈ ax_T := ax_in 771 rfl rfl
set_option maxRecDepth 20000 in
theorem lc_M_141 : Cond.constant "DoorVoiceModel" 141 (65537) ∈ ax_T := ax_in 773 rfl rfl
set_option maxRecDepth 20000 in
theorem lm_W_120 : Cond.methodLink "DoorVoiceLaw" 120 ⟨"DoorVoiceModel", "image", "(I)I"⟩ ∈ ax_T := ax_in 774 rfl rfl
set_option maxRecDepth 20000 in
theorem wi_M_image : Cond.instanceMethod ⟨"DoorVoiceModel", "image", "(I)I"⟩ ∈ ax_T := ax_in 775 rfl rfl
set_option maxRecDepth 20000 in
theorem wv_M_image : Cond.selects "DoorVoiceModel" ⟨"DoorVoiceModel", "image", "(I)I"⟩ ⟨"DoorVoiceModel", "image", "(I)I"⟩ ∈ ax_T := ax_in 776 rfl rfl
set_option maxRecDepth 20000 in
theorem lm_W_124 : Cond.methodLink "DoorVoiceLaw" 124 ⟨"DoorVoiceModel", "restore", "(I)I"⟩ ∈ ax_T := ax_in 778 rfl rfl
set_option maxRecDepth 20000 in
theorem wi_M_restore : Cond.instanceMethod ⟨"DoorVoiceModel", "restore", "(I)I"⟩ ∈ ax_T := ax_in 779 rfl rfl
set_option maxRecDepth 20000 in
theorem wv_M_restore : Cond.selects "DoorVoiceModel" ⟨"DoorVoiceModel", "restore", "(I)I"⟩ ⟨"DoorVoiceModel", "restore", "(I)I"⟩ ∈ ax_T := ax_in 780 rfl rfl
set_option maxRecDepth 20000 in
theorem lm_W_128 : Cond.methodLink "DoorVoiceLaw" 128 ⟨"DoorVoiceModel", "told", "(I)I"⟩ ∈ ax_T := ax_in 782 rfl rfl
set_option maxRecDepth 20000 in
theorem wi_M_told : Cond.instanceMethod ⟨"DoorVoiceModel", "told", "(I)I"⟩ ∈ ax_T := ax_in 783 rfl rfl
set_option maxRecDepth 20000 in
theorem wv_M_told : Cond.selects "DoorVoiceModel" ⟨"DoorVoiceModel", "told", "(I)I"⟩ ⟨"DoorVoiceModel", "told", "(I)I"⟩ ∈ ax_T := ax_in 784 rfl rfl
set_option maxRecDepth 20000 in
theorem wv_V_setVoice : Cond.selects "DoorVoice" ⟨"DoorVoice", "setVoice", "(I)I"⟩ ⟨"DoorVoice", "setVoice", "(I)I"⟩ ∈ ax_T := ax_in 0 rfl rfl
set_option maxRecDepth 20000 in
theorem wv_V_setWind : Cond.selects "DoorVoice" ⟨"DoorVoice", "setWind", "(I)I"⟩ ⟨"DoorVoice", "setWind", "(I)I"⟩ ∈ ax_T := ax_in 1 rfl rfl
set_option maxRecDepth 20000 in
theorem wv_V_setPlace : Cond.selects "DoorVoice" ⟨"DoorVoice", "setPlace", "(I)I"⟩ ⟨"DoorVoice", "setPlace", "(I)I"⟩ ∈ ax_T := ax_in 2 rfl rfl
set_option maxRecDepth 20000 in
theorem wv_P_playAct : Cond.selects "DoorVoice$Pad" ⟨"DoorVoice$Pad", "playAct", "(LDoorVoice$Street;II)V"⟩ ⟨"DoorVoice$Pad", "playAct", "(LDoorVoice$Street;II)V"⟩ ∈ ax_T := ax_in 3 rfl rfl
set_option maxRecDepth 20000 in
theorem wv_S_reached : Cond.selects "DoorVoice$Street" ⟨"DoorVoice$Street", "reached", "(II)I"⟩ ⟨"DoorVoice$Street", "reached", "(II)I"⟩ ∈ ax_T := ax_in 4 rfl rfl
set_option maxRecDepth 20000 in
theorem wv_S_readOut : Cond.selects "DoorVoice$Street" ⟨"DoorVoice$Street", "readOut", "(I)V"⟩ ⟨"DoorVoice$Street", "readOut", "(I)V"⟩ ∈ ax_T := ax_in 5 rfl rfl
set_option maxRecDepth 20000 in
theorem wv_S_passEvening : Cond.selects "DoorVoice$Street" ⟨"DoorVoice$Street", "passEvening", "()V"⟩ ⟨"DoorVoice$Street", "passEvening", "()V"⟩ ∈ ax_T := ax_in 6 rfl rfl
set_option maxRecDepth 20000 in
theorem wv_S_tellsEastward : Cond.selects "DoorVoice$Street" ⟨"DoorVoice$Street", "tellsEastward", "(I)Z"⟩ ⟨"DoorVoice$Street", "tellsEastward", "(I)Z"⟩ ∈ ax_T := ax_in 7 rfl rfl
set_option maxRecDepth 20000 in
theorem wv_L_placesFor : Cond.selects "DoorVoice$Listener" ⟨"DoorVoice$Listener", "placesFor", "(I)I"⟩ ⟨"DoorVoice$Listener", "placesFor", "(I)I"⟩ ∈ ax_T := ax_in 8 rfl rfl
set_option maxRecDepth 20000 in
theorem wv_L_allCanBeRead : Cond.selects "DoorVoice$Listener" ⟨"DoorVoice$Listener", "allCanBeRead", "(LDoorVoice$Street;III)Z"⟩ ⟨"DoorVoice$Listener", "allCanBeRead", "(LDoorVoice$Street;III)Z"⟩ ∈ ax_T := ax_in 9 rfl rfl
set_option maxRecDepth 20000 in
theorem wv_S_toldOnward : Cond.selects "DoorVoice$Street" ⟨"DoorVoice$Street", "toldOnward", "(I)I"⟩ ⟨"DoorVoice$Street", "toldOnward", "(I)I"⟩ ∈ ax_T := ax_in 10 rfl rfl
set_option maxRecDepth 20000 in
theorem wv_C_putLowest : Cond.selects "DoorVoice$Chances" ⟨"DoorVoice$Chances", "putLowest", "(JJ)V"⟩ ⟨"DoorVoice$Chances", "putLowest", "(JJ)V"⟩ ∈ ax_T := ax_in 11 rfl rfl
set_option maxRecDepth 20000 in
theorem wv_C_countWays : Cond.selects "DoorVoice$Chances" ⟨"DoorVoice$Chances", "countWays", "(I)V"⟩ ⟨"DoorVoice$Chances", "countWays", "(I)V"⟩ ∈ ax_T := ax_in 12 rfl rfl
set_option maxRecDepth 20000 in
theorem wv_V_imageNumbered : Cond.selects "DoorVoice" ⟨"DoorVoice", "imageNumbered", "(I)LDoorVoice$Street;"⟩ ⟨"DoorVoice", "imageNumbered", "(I)LDoorVoice$Street;"⟩ ∈ ax_T := ax_in 13 rfl rfl
set_option maxRecDepth 20000 in
theorem wv_V_toldOfAll : Cond.selects "DoorVoice" ⟨"DoorVoice", "toldOfAll", "(I)I"⟩ ⟨"DoorVoice", "toldOfAll", "(I)I"⟩ ∈ ax_T := ax_in 14 rfl rfl
set_option maxRecDepth 20000 in
theorem wv_V_toldOfLetter : Cond.selects "DoorVoice" ⟨"DoorVoice", "toldOfLetter", "(II)I"⟩ ⟨"DoorVoice", "toldOfLetter", "(II)I"⟩ ∈ ax_T := ax_in 15 rfl rfl
set_option maxRecDepth 20000 in
theorem wv_M_faultOf : Cond.selects "DoorVoiceModel" ⟨"DoorVoiceModel", "faultOf", "()I"⟩ ⟨"DoorVoiceModel", "faultOf", "()I"⟩ ∈ ax_T := ax_in 16 rfl rfl
set_option maxRecDepth 20000 in
theorem wv_M_goDays : Cond.selects "DoorVoiceModel" ⟨"DoorVoiceModel", "goDays", "()I"⟩ ⟨"DoorVoiceModel", "goDays", "()I"⟩ ∈ ax_T := ax_in 17 rfl rfl
set_option maxRecDepth 20000 in
theorem wv_M_asNow : Cond.selects "DoorVoiceModel" ⟨"DoorVoiceModel", "asNow", "()V"⟩ ⟨"DoorVoiceModel", "asNow", "()V"⟩ ∈ ax_T := ax_in 18 rfl rfl
set_option maxRecDepth 20000 in
theorem wv_M_evening : Cond.selects "DoorVoiceModel" ⟨"DoorVoiceModel", "evening", "()I"⟩ ⟨"DoorVoiceModel", "evening", "()I"⟩ ∈ ax_T := ax_in 19 rfl rfl
set_option maxRecDepth 20000 in
theorem wv_M_goTo : Cond.selects "DoorVoiceModel" ⟨"DoorVoiceModel", "goTo", "(I)I"⟩ ⟨"DoorVoiceModel", "goTo", "(I)I"⟩ ∈ ax_T := ax_in 20 rfl rfl
set_option maxRecDepth 20000 in
theorem wv_M_read : Cond.selects "DoorVoiceModel" ⟨"DoorVoiceModel", "read", "(I)I"⟩ ⟨"DoorVoiceModel", "read", "(I)I"⟩ ∈ ax_T := ax_in 21 rfl rfl
set_option maxRecDepth 20000 in
theorem wv_M_doesHear : Cond.selects "DoorVoiceModel" ⟨"DoorVoiceModel", "doesHear", "(III)Z"⟩ ⟨"DoorVoiceModel", "doesHear", "(III)Z"⟩ ∈ ax_T := ax_in 22 rfl rfl
set_option maxRecDepth 20000 in
theorem wv_M_loudAt : Cond.selects "DoorVoiceModel" ⟨"DoorVoiceModel", "loudAt", "(II)I"⟩ ⟨"DoorVoiceModel", "loudAt", "(II)I"⟩ ∈ ax_T := ax_in 23 rfl rfl
set_option maxRecDepth 20000 in
theorem wv_M_barOfDays : Cond.selects "DoorVoiceModel" ⟨"DoorVoiceModel", "barOfDays", "()I"⟩ ⟨"DoorVoiceModel", "barOfDays", "()I"⟩ ∈ ax_T := ax_in 24 rfl rfl
set_option maxRecDepth 20000 in
theorem wv_M_hearers : Cond.selects "DoorVoiceModel" ⟨"DoorVoiceModel", "hearers", "(II)I"⟩ ⟨"DoorVoiceModel", "hearers", "(II)I"⟩ ∈ ax_T := ax_in 25 rfl rfl
set_option maxRecDepth 20000 in
theorem wv_M_laySets : Cond.selects "DoorVoiceModel" ⟨"DoorVoiceModel", "laySets", "()V"⟩ ⟨"DoorVoiceModel", "laySets", "()V"⟩ ∈ ax_T := ax_in 26 rfl rfl
set_option maxRecDepth 20000 in
theorem wv_M_atSet : Cond.selects "DoorVoiceModel" ⟨"DoorVoiceModel", "atSet", "()I"⟩ ⟨"DoorVoiceModel", "atSet", "()I"⟩ ∈ ax_T := ax_in 27 rfl rfl
set_option maxRecDepth 20000 in
theorem wv_M_spread : Cond.selects "DoorVoiceModel" ⟨"DoorVoiceModel", "spread", "(I)I"⟩ ⟨"DoorVoiceModel", "spread", "(I)I"⟩ ∈ ax_T := ax_in 28 rfl rfl
def ax_N : List (String × Nat × MethodName × String) := [("DoorVoice", 9, ⟨"DoorVoice$Street", "<init>", "()V"⟩, "DoorVoice"), ("DoorVoice", 27, ⟨"DoorVoice$Pad", "<init>", "()V"⟩, "DoorVoice"), ("DoorVoice", 34, ⟨"DoorVoice$Listener", "<init>", "()V"⟩, "DoorVoice"), ("DoorVoice", 41, ⟨"DoorVoice$Chances", "<init>", "()V"⟩, "DoorVoice"), ("DoorVoice$Street", 76, ⟨"DoorVoice", "hasBit", "(II)Z"⟩, "DoorVoice"), ("DoorVoice$Pad", 76, ⟨"DoorVoice", "hasBit", "(II)Z"⟩, "DoorVoice"), ("DoorVoice$Listener", 32, ⟨"DoorVoice", "hasBit", "(II)Z"⟩, "DoorVoice")]
set_option maxRecDepth 20000 in
theorem ax_N_in : ∀ q ∈ ax_N, Cond.methodLinkNest q.1 q.2.1 q.2.2.1 q.2.2.2 ∈ lw_tbl := by
  intro q hq
  simp only [ax_N, List.mem_cons, List.not_mem_nil, or_false] at hq
  rcases hq with rfl | rfl | rfl | rfl | rfl | rfl | rfl
  · exact List.mem_of_getElem? (i := 49) rfl
  · exact List.mem_of_getElem? (i := 129) rfl
  · exact List.mem_of_getElem? (i := 159) rfl
  · exact List.mem_of_getElem? (i := 172) rfl
  · exact List.mem_of_getElem? (i := 308) rfl
  · exact List.mem_of_getElem? (i := 322) rfl
  · exact List.mem_of_getElem? (i := 387) rfl
set_option maxRecDepth 20000 in
theorem ln_V_9 : ("DoorVoice", 9, (⟨"DoorVoice$Street", "<init>", "()V"⟩ : MethodName), "DoorVoice") ∈ ax_N := List.mem_of_getElem? (i := 0) rfl
set_option maxRecDepth 20000 in
theorem ln_V_27 : ("DoorVoice", 27, (⟨"DoorVoice$Pad", "<init>", "()V"⟩ : MethodName), "DoorVoice") ∈ ax_N := List.mem_of_getElem? (i := 1) rfl
set_option maxRecDepth 20000 in
theorem ln_V_34 : ("DoorVoice", 34, (⟨"DoorVoice$Listener", "<init>", "()V"⟩ : MethodName), "DoorVoice") ∈ ax_N := List.mem_of_getElem? (i := 2) rfl
set_option maxRecDepth 20000 in
theorem ln_V_41 : ("DoorVoice", 41, (⟨"DoorVoice$Chances", "<init>", "()V"⟩ : MethodName), "DoorVoice") ∈ ax_N := List.mem_of_getElem? (i := 3) rfl
set_option maxRecDepth 20000 in
theorem ln_S_76 : ("DoorVoice$Street", 76, (⟨"DoorVoice", "hasBit", "(II)Z"⟩ : MethodName), "DoorVoice") ∈ ax_N := List.mem_of_getElem? (i := 4) rfl
set_option maxRecDepth 20000 in
theorem ln_P_76 : ("DoorVoice$Pad", 76, (⟨"DoorVoice", "hasBit", "(II)Z"⟩ : MethodName), "DoorVoice") ∈ ax_N := List.mem_of_getElem? (i := 5) rfl
set_option maxRecDepth 20000 in
theorem ln_L_32 : ("DoorVoice$Listener", 32, (⟨"DoorVoice", "hasBit", "(II)Z"⟩ : MethodName), "DoorVoice") ∈ ax_N := List.mem_of_getElem? (i := 6) rfl
end
section
/-! A light machine over the kit's: cells by their places behind the base, a method's locals and stack as lists; a row an instruction, no heap, no room beside what is counted. -/
abbrev ax_M : Type := MethodName × ByteArray × Nat × Option FieldType
abbrev ax_C : Type := (Nat × List Int32) ⊕ (List Int64 ⊕ (Nat × List Value))
abbrev ax_H : Type := List ax_C
/-- base, script's address, the classes' numbers and slots, the array classes (0 int, 1 boolean, 2 long) -/
abbrev ax_G : Type := Nat × Nat × va_G × (Nat → ClassId)
abbrev ob (ci : Nat) (fs : List Value) : ax_C := .inr (.inr (ci, fs))
abbrev ia (xs : List Int32) : ax_C := .inl (0, xs)
abbrev za (xs : List Int32) : ax_C := .inl (1, xs)
abbrev ja (xs : List Int64) : ax_C := .inr (.inl xs)
/-- a value of ours as a value of the machine: a reference is a place behind the base; a float stands for the script -/
def ax_v (g : ax_G) (v : Value) : Value := match v with
  | .ref k => .ref (g.1 + k)
  | .float _ => .ref g.2.1
  | v => v
def ax_e (g : ax_G) (c : ax_C) : va_E := match c with
  | .inl q => .inl (g.2.2.2 q.1, q.2.length, .inl (fun j => q.2.getD j 0))
  | .inr (.inl xs) => .inl (g.2.2.2 2, xs.length, .inr (.inl (fun j => xs.getD j 0)))
  | .inr (.inr q) => .inr (q.1, q.2.map (ax_v g))
def ax_w (g : ax_G) (h : ax_H) : va_W := h.mapIdx (fun k c => (g.1 + k, ax_e g c))
theorem ax_w_at {g : ax_G} {h : ax_H} {k : Nat} {c : ax_C} (hk : h[k]? = some c) : (ax_w g h)[k]? = some (g.1 + k, ax_e g c) := by
  simp [ax_w, hk]
theorem ax_w_set (g : ax_G) (h : ax_H) (k : Nat) (c : ax_C) : (ax_w g h).set k (g.1 + k, ax_e g c) = ax_w g (h.set k c) := by
  apply List.ext_getElem?
  intro i
  simp only [ax_w, List.getElem?_set, List.getElem?_mapIdx, List.length_mapIdx]
  by_cases hi : k = i
  · subst hi
    by_cases hl : k < h.length
    · simp [hl]
    · simp [hl]
  · simp [hi]
theorem ax_w_push (g : ax_G) (h : ax_H) (c : ax_C) : ax_w g (h ++ [c]) = ax_w g h ++ [(g.1 + h.length, ax_e g c)] := by
  simp [ax_w, List.mapIdx_append]
def ax_A (g : ax_G) : Nat → Prop := fun q => g.1 ≤ q
theorem ax_D (g : ax_G) (h : ax_H) : va_D (ax_A g) (ax_w g h) := by
  have key : ∀ (k : Nat) (q : Nat × va_E), (ax_w g h)[k]? = some q → q.1 = g.1 + k := by
    intro k q hk
    simp only [ax_w, List.getElem?_mapIdx] at hk
    cases hc : h[k]? with
    | none => rw [hc] at hk; cases hk
    | some c => rw [hc] at hk; cases hk; rfl
  refine ⟨fun i j p q hi hj hpq => ?_, fun k q hk => ?_⟩
  · have h1 := key i p hi
    have h2 := key j q hj
    omega
  · show g.1 ≤ q.1
    rw [key k q hk]
    exact Nat.le_add_right _ _
abbrev ax_tys (g : ax_G) : List (ClassId × FieldType) := [(g.2.2.2 0, .int), (g.2.2.2 1, .boolean), (g.2.2.2 2, .long)]
def ax_K (g : ax_G) (U : State) : Prop := va_K g.2.2.1 classes (ax_tys g) U ∧ ∀ q ∈ ax_N, va_Nw (.methodLinkNest q.1 q.2.1 q.2.2.1 q.2.2.2) U
theorem ax_K.moved {g : ax_G} {s U : State} (hW : s.WarmedH U.vm) (h : ax_K g s) : ax_K g U := ⟨va_K.moved hW.alike h.1, fun q hq => (h.2 q hq).warmM hW⟩
theorem ax_K.calling {g : ax_G} {U : State} {f : JFrame} {mk : MethodId} {a : Array Value} (h : ax_K g U) : ax_K g (U.calling f mk a) := ⟨va_K.moved (u := U) (U := U.calling f mk a) (Vm.Alike.refl U.vm) h.1, fun q hq => (h.2 q hq).same rfl rfl⟩
/-- what stays through a method's body -/
def ax_X (M : ax_M) (p : Program) (s : State) (m : MethodId) (args : Array Value) (meth : Method) (c : Code) : Prop :=
  p.tables.exec = Jvm.exec ∧ c.code = M.2.1 ∧ c.maxLocals = M.2.2.1 ∧ s.vm.findClass M.1.cls = some m.cls ∧ (∀ w ∈ ax_T, w.before args s = true) ∧ meth.sig.returnType = M.2.2.2 ∧ meth.locks = false ∧ (M.1.name = "<init>" → meth.name = "<init>")
abbrev ax_Et : Type := State → ax_G → Prop
abbrev ax_Zt : Type := ax_G → List Frame → Array Value → State → State → Prop
def ax_ml (g : ax_G) (ls : List (Nat × Value)) : List (Nat × Value) := ls.map (fun q => (q.1, ax_v g q.2))
def AW (M : ax_M) (R : Room) (E : ax_Et) (Z : ax_Zt) (h : ax_H) (kc ks pc : Nat) (ls : List (Nat × Value)) (st : List Value) : Prop :=
  ∀ (p : Program) (l : Launch) (e : Env) (s : State) (m : MethodId) (args : Array Value) (below : List Frame) (meth : Method) (c : Code) (g : ax_G) (H : Heap) (locs : List Loc) (lz : Array Slot),
    ax_X M p s m args meth c → ax_K g s → g.1 ≤ s.heap.size ∧ s.heap.size + kc = g.1 + h.length → va_P g.2.2.1 classes (ax_w g h) H → va_S (ax_A g) s.heap H locs → lv_has lz M.2.2.1 (ax_ml g ls) → E s g →
    W p l e R s m args below meth c H locs kc ks (Z g below args s) (F0 m pc lz (st.map (ax_v g)))
def lg : List (Nat × Value) → Nat → Option Value
  | [], _ => none
  | q :: t, i => bif q.1 == i then some q.2 else lg t i
theorem lg_mem : ∀ {ls : List (Nat × Value)} {i : Nat} {v : Value}, lg ls i = some v → (i, v) ∈ ls
  | q :: t, i, v, h => by
    unfold lg at h
    cases hb : (q.1 == i) with
    | true =>
      rw [hb] at h
      have h1 : q.2 = v := Option.some.inj h
      have h2 : q.1 = i := by simpa using hb
      subst h1; subst h2
      exact List.mem_cons_self
    | false =>
      rw [hb] at h
      exact List.mem_cons_of_mem _ (lg_mem h)
theorem lg_at {g : ax_G} {lz : Array Slot} {n : Nat} {ls : List (Nat × Value)} {i : Nat} {v : Value} (hl : lv_has lz n (ax_ml g ls)) (h : lg ls i = some v) : lz[i]? = some (.val (ax_v g v)) :=
  hl.2.2 (i, ax_v g v) (List.mem_map.mpr ⟨(i, v), lg_mem h, rfl⟩)
/-- a value of one word put into a local -/
def ls1 (i : Nat) (v : Value) : List (Nat × Value) → List (Nat × Value)
  | [] => [(i, v)]
  | q :: t => bif q.1 == i then (i, v) :: t.filter (fun q => !(q.1 == i) && !(q.1 + 1 == i && q.2.category == 2)) else (bif q.1 + 1 == i && q.2.category == 2 then ls1 i v t else q :: ls1 i v t)
def ls2 (i : Nat) (v : Value) : List (Nat × Value) → List (Nat × Value)
  | [] => [(i, v)]
  | q :: t => bif q.1 == i then (i, v) :: t.filter (fun q => !(q.1 == i) && (!(q.1 == i + 1) && !(q.1 + 1 == i && q.2.category == 2))) else (bif q.1 == i + 1 || (q.1 + 1 == i && q.2.category == 2) then ls2 i v t else q :: ls2 i v t)
theorem ls1_mem (i : Nat) (v : Value) : ∀ (ls : List (Nat × Value)), ∀ q ∈ ls1 i v ls, q = (i, v) ∨ (q ∈ ls ∧ (!(q.1 == i) && !(q.1 + 1 == i && q.2.category == 2)) = true)
  | [], q, h => by
    have : q = (i, v) := by simpa [ls1] using h
    exact Or.inl this
  | a :: t, q, h => by
    unfold ls1 at h
    cases hb : (a.1 == i) with
    | true =>
      rw [hb] at h
      rcases List.mem_cons.mp h with h | h
      · exact Or.inl h
      · exact Or.inr ⟨List.mem_cons_of_mem _ (List.mem_filter.mp h).1, (List.mem_filter.mp h).2⟩
    | false =>
      rw [hb] at h
      cases hc : (a.1 + 1 == i && a.2.category == 2) with
      | true =>
        rw [hc] at h
        rcases ls1_mem i v t q h with h | h
        · exact Or.inl h
        · exact Or.inr ⟨List.mem_cons_of_mem _ h.1, h.2⟩
      | false =>
        rw [hc] at h
        rcases List.mem_cons.mp h with h | h
        · subst h
          exact Or.inr ⟨List.mem_cons_self, by rw [hb, hc]; rfl⟩
        · rcases ls1_mem i v t q h with h | h
          · exact Or.inl h
          · exact Or.inr ⟨List.mem_cons_of_mem _ h.1, h.2⟩
theorem ls2_mem (i : Nat) (v : Value) : ∀ (ls : List (Nat × Value)), ∀ q ∈ ls2 i v ls, q = (i, v) ∨ (q ∈ ls ∧ (!(q.1 == i) && (!(q.1 == i + 1) && !(q.1 + 1 == i && q.2.category == 2))) = true)
  | [], q, h => by
    have : q = (i, v) := by simpa [ls2] using h
    exact Or.inl this
  | a :: t, q, h => by
    unfold ls2 at h
    cases hb : (a.1 == i) with
    | true =>
      rw [hb] at h
      rcases List.mem_cons.mp h with h | h
      · exact Or.inl h
      · exact Or.inr ⟨List.mem_cons_of_mem _ (List.mem_filter.mp h).1, (List.mem_filter.mp h).2⟩
    | false =>
      rw [hb] at h
      cases hd : (a.1 == i + 1) with
      | true =>
        rw [hd] at h
        rcases ls2_mem i v t q h with h | h
        · exact Or.inl h
        · exact Or.inr ⟨List.mem_cons_of_mem _ h.1, h.2⟩
      | false =>
        cases hc : (a.1 + 1 == i && a.2.category == 2) with
        | true =>
          rw [hd, hc] at h
          rcases ls2_mem i v t q h with h | h
          · exact Or.inl h
          · exact Or.inr ⟨List.mem_cons_of_mem _ h.1, h.2⟩
        | false =>
          rw [hd, hc] at h
          rcases List.mem_cons.mp h with h | h
          · subst h
            exact Or.inr ⟨List.mem_cons_self, by rw [hb, hd, hc]; rfl⟩
          · rcases ls2_mem i v t q h with h | h
            · exact Or.inl h
            · exact Or.inr ⟨List.mem_cons_of_mem _ h.1, h.2⟩
theorem ax_cat (g : ax_G) (v : Value) : (ax_v g v).category = v.category := by cases v <;> rfl
theorem ls1_has {g : ax_G} {lz : Array Slot} {n i : Nat} {v : Value} {ls ls' : List (Nat × Value)} (h : lv_has lz n ((i, ax_v g v) :: (ax_ml g ls).filter (fun q => !(q.1 == i) && !(q.1 + 1 == i && q.2.category == 2)))) (hs : ls1 i v ls = ls') : lv_has lz n (ax_ml g ls') := by
  subst hs
  refine ⟨h.1, h.2.1, fun q hq => h.2.2 q ?_⟩
  obtain ⟨a, ha, rfl⟩ := List.mem_map.mp hq
  rcases ls1_mem i v ls a ha with rfl | ⟨h1, h2⟩
  · exact List.mem_cons_self
  · refine List.mem_cons_of_mem _ (List.mem_filter.mpr ⟨List.mem_map.mpr ⟨a, h1, rfl⟩, ?_⟩)
    show (!(a.1 == i) && !(a.1 + 1 == i && (ax_v g a.2).category == 2)) = true
    rw [ax_cat]; exact h2
theorem ls2_has {g : ax_G} {lz : Array Slot} {n i : Nat} {v : Value} {ls ls' : List (Nat × Value)} (h : lv_has lz n ((i, ax_v g v) :: (ax_ml g ls).filter (fun q => !(q.1 == i) && (!(q.1 == i + 1) && !(q.1 + 1 == i && q.2.category == 2))))) (hs : ls2 i v ls = ls') : lv_has lz n (ax_ml g ls') := by
  subst hs
  refine ⟨h.1, h.2.1, fun q hq => h.2.2 q ?_⟩
  obtain ⟨a, ha, rfl⟩ := List.mem_map.mp hq
  rcases ls2_mem i v ls a ha with rfl | ⟨h1, h2⟩
  · exact List.mem_cons_self
  · refine List.mem_cons_of_mem _ (List.mem_filter.mpr ⟨List.mem_map.mpr ⟨a, h1, rfl⟩, ?_⟩)
    show (!(a.1 == i) && (!(a.1 == i + 1) && !(a.1 + 1 == i && (ax_v g a.2).category == 2))) = true
    rw [ax_cat]; exact h2
section ROWS
variable {M : ax_M} {R : Room} {E : ax_Et} {Z : ax_Zt} {h : ax_H} {kc ks pc : Nat} {ls : List (Nat × Value)} {st : List Value}
theorem aw_sub {ls' : List (Nat × Value)} (ps : List Nat) (hp : lv_pick ls ps = ls') (k : AW M R E Z h kc ks pc ls' st) : AW M R E Z h kc ks pc ls st := by
  intro p l e s m args below meth c g H locs lz X K hb hP hS hl hE
  refine k p l e s m args below meth c g H locs lz X K hb hP hS ⟨hl.1, hl.2.1, fun q hq => hl.2.2 q ?_⟩ hE
  obtain ⟨a, ha, rfl⟩ := List.mem_map.mp hq
  rw [← hp] at ha
  obtain ⟨j, -, hj⟩ := List.mem_filterMap.mp ha
  exact List.mem_map.mpr ⟨a, List.mem_of_getElem? hj, rfl⟩
theorem aw_eq {h' : ax_H} {ls' : List (Nat × Value)} {st' : List Value} (k : AW M R E Z h' kc ks pc ls' st') (e1 : h = h' := by rfl) (e2 : ls = ls' := by rfl) (e3 : st = st' := by rfl) : AW M R E Z h kc ks pc ls st := by
  subst e1; subst e2; subst e3; exact k
theorem aw_iadd {x y : Int32} (hd : decode M.2.1 pc = .ok (.iadd, 1)) (k : AW M R E Z h kc ks (pc + 1) ls (.int (x + y) :: st)) : AW M R E Z h kc ks pc ls (.int y :: .int x :: st) := by
  intro p l e s m args below meth c g H locs lz X K hb hP hS hl hE
  exact lv_iadd X.1 X.2.1 hd (k p l e s m args below meth c g H locs lz X K hb hP hS hl hE)
theorem aw_isub {x y : Int32} (hd : decode M.2.1 pc = .ok (.isub, 1)) (k : AW M R E Z h kc ks (pc + 1) ls (.int (x - y) :: st)) : AW M R E Z h kc ks pc ls (.int y :: .int x :: st) := by
  intro p l e s m args below meth c g H locs lz X K hb hP hS hl hE
  exact lv_isub X.1 X.2.1 hd (k p l e s m args below meth c g H locs lz X K hb hP hS hl hE)
theorem aw_imul {x y : Int32} (hd : decode M.2.1 pc = .ok (.imul, 1)) (k : AW M R E Z h kc ks (pc + 1) ls (.int (x * y) :: st)) : AW M R E Z h kc ks pc ls (.int y :: .int x :: st) := by
  intro p l e s m args below meth c g H locs lz X K hb hP hS hl hE
  exact lv_imul X.1 X.2.1 hd (k p l e s m args below meth c g H locs lz X K hb hP hS hl hE)
theorem aw_iand {x y : Int32} (hd : decode M.2.1 pc = .ok (.iand, 1)) (k : AW M R E Z h kc ks (pc + 1) ls (.int (x &&& y) :: st)) : AW M R E Z h kc ks pc ls (.int y :: .int x :: st) := by
  intro p l e s m args below meth c g H locs lz X K hb hP hS hl hE
  exact lv_iand X.1 X.2.1 hd (k p l e s m args below meth c g H locs lz X K hb hP hS hl hE)
theorem aw_ior {x y : Int32} (hd : decode M.2.1 pc = .ok (.ior, 1)) (k : AW M R E Z h kc ks (pc + 1) ls (.int (x ||| y) :: st)) : AW M R E Z h kc ks pc ls (.int y :: .int x :: st) := by
  intro p l e s m args below meth c g H locs lz X K hb hP hS hl hE
  exact lv_ior X.1 X.2.1 hd (k p l e s m args below meth c g H locs lz X K hb hP hS hl hE)
theorem aw_ixor {x y : Int32} (hd : decode M.2.1 pc = .ok (.ixor, 1)) (k : AW M R E Z h kc ks (pc + 1) ls (.int (x ^^^ y) :: st)) : AW M R E Z h kc ks pc ls (.int y :: .int x :: st) := by
  intro p l e s m args below meth c g H locs lz X K hb hP hS hl hE
  exact lv_ixor X.1 X.2.1 hd (k p l e s m args below meth c g H locs lz X K hb hP hS hl hE)
theorem aw_ladd {x y : Int64} (hd : decode M.2.1 pc = .ok (.ladd, 1)) (k : AW M R E Z h kc ks (pc + 1) ls (.long (x + y) :: st)) : AW M R E Z h kc ks pc ls (.long y :: .long x :: st) := by
  intro p l e s m args below meth c g H locs lz X K hb hP hS hl hE
  exact lv_ladd X.1 X.2.1 hd (k p l e s m args below meth c g H locs lz X K hb hP hS hl hE)
theorem aw_lsub {x y : Int64} (hd : decode M.2.1 pc = .ok (.lsub, 1)) (k : AW M R E Z h kc ks (pc + 1) ls (.long (x - y) :: st)) : AW M R E Z h kc ks pc ls (.long y :: .long x :: st) := by
  intro p l e s m args below meth c g H locs lz X K hb hP hS hl hE
  exact lv_lsub X.1 X.2.1 hd (k p l e s m args below meth c g H locs lz X K hb hP hS hl hE)
theorem aw_lmul {x y : Int64} (hd : decode M.2.1 pc = .ok (.lmul, 1)) (k : AW M R E Z h kc ks (pc + 1) ls (.long (x * y) :: st)) : AW M R E Z h kc ks pc ls (.long y :: .long x :: st) := by
  intro p l e s m args below meth c g H locs lz X K hb hP hS hl hE
  exact lv_lmul X.1 X.2.1 hd (k p l e s m args below meth c g H locs lz X K hb hP hS hl hE)
theorem aw_idiv {x y : Int32} (hd : decode M.2.1 pc = .ok (.idiv, 1)) (hy : ¬ y = 0) (k : AW M R E Z h kc ks (pc + 1) ls (.int (x / y) :: st)) : AW M R E Z h kc ks pc ls (.int y :: .int x :: st) := by
  intro p l e s m args below meth c g H locs lz X K hb hP hS hl hE
  exact lv_idiv X.1 X.2.1 hd hy (k p l e s m args below meth c g H locs lz X K hb hP hS hl hE)
theorem aw_irem {x y : Int32} (hd : decode M.2.1 pc = .ok (.irem, 1)) (hy : ¬ y = 0) (k : AW M R E Z h kc ks (pc + 1) ls (.int (x - x / y * y) :: st)) : AW M R E Z h kc ks pc ls (.int y :: .int x :: st) := by
  intro p l e s m args below meth c g H locs lz X K hb hP hS hl hE
  exact lv_irem X.1 X.2.1 hd hy (k p l e s m args below meth c g H locs lz X K hb hP hS hl hE)
theorem aw_ldiv {x y : Int64} (hd : decode M.2.1 pc = .ok (.ldiv, 1)) (hy : ¬ y = 0) (k : AW M R E Z h kc ks (pc + 1) ls (.long (x / y) :: st)) : AW M R E Z h kc ks pc ls (.long y :: .long x :: st) := by
  intro p l e s m args below meth c g H locs lz X K hb hP hS hl hE
  exact lv_ldiv X.1 X.2.1 hd hy (k p l e s m args below meth c g H locs lz X K hb hP hS hl hE)
theorem aw_lrem {x y : Int64} (hd : decode M.2.1 pc = .ok (.lrem, 1)) (hy : ¬ y = 0) (k : AW M R E Z h kc ks (pc + 1) ls (.long (x - x / y * y) :: st)) : AW M R E Z h kc ks pc ls (.long y :: .long x :: st) := by
  intro p l e s m args below meth c g H locs lz X K hb hP hS hl hE
  exact lv_lrem X.1 X.2.1 hd hy (k p l e s m args below meth c g H locs lz X K hb hP hS hl hE)
theorem aw_ishl {x y : Int32} (hd : decode M.2.1 pc = .ok (.ishl, 1)) (k : AW M R E Z h kc ks (pc + 1) ls (.int (x <<< (y &&& 31)) :: st)) : AW M R E Z h kc ks pc ls (.int y :: .int x :: st) := by
  intro p l e s m args below meth c g H locs lz X K hb hP hS hl hE
  exact lv_ishl X.1 X.2.1 hd (k p l e s m args below meth c g H locs lz X K hb hP hS hl hE)
theorem aw_ishr {x y : Int32} (hd : decode M.2.1 pc = .ok (.ishr, 1)) (k : AW M R E Z h kc ks (pc + 1) ls (.int (x >>> (y &&& 31)) :: st)) : AW M R E Z h kc ks pc ls (.int y :: .int x :: st) := by
  intro p l e s m args below meth c g H locs lz X K hb hP hS hl hE
  exact lv_ishr X.1 X.2.1 hd (k p l e s m args below meth c g H locs lz X K hb hP hS hl hE)
theorem aw_iushr {x y : Int32} (hd : decode M.2.1 pc = .ok (.iushr, 1)) (k : AW M R E Z h kc ks (pc + 1) ls (.int ((x.toUInt32 >>> (y.toUInt32 &&& Int32.toUInt32 31)).toInt32) :: st)) : AW M R E Z h kc ks pc ls (.int y :: .int x :: st) := by
  intro p l e s m args below meth c g H locs lz X K hb hP hS hl hE
  exact lv_iushr X.1 X.2.1 hd rfl (k p l e s m args below meth c g H locs lz X K hb hP hS hl hE)
theorem aw_i2l {x : Int32} (hd : decode M.2.1 pc = .ok (.i2l, 1)) (k : AW M R E Z h kc ks (pc + 1) ls (.long x.toInt64 :: st)) : AW M R E Z h kc ks pc ls (.int x :: st) := by
  intro p l e s m args below meth c g H locs lz X K hb hP hS hl hE
  exact lv_i2l X.1 X.2.1 hd rfl (k p l e s m args below meth c g H locs lz X K hb hP hS hl hE)
theorem aw_iconst {z : Int} {v : Int32} (hd : decode M.2.1 pc = .ok (.iconst z, 1)) (hv : Int32.ofInt z = v) (k : AW M R E Z h kc ks (pc + 1) ls (.int v :: st)) : AW M R E Z h kc ks pc ls st := by
  intro p l e s m args below meth c g H locs lz X K hb hP hS hl hE
  exact lv_iconst X.1 X.2.1 hd hv (k p l e s m args below meth c g H locs lz X K hb hP hS hl hE)
theorem aw_bipush {z : Int} {v : Int32} (hd : decode M.2.1 pc = .ok (.bipush z, 2)) (hv : (Int8.ofInt z).toInt32 = v) (k : AW M R E Z h kc ks (pc + 2) ls (.int v :: st)) : AW M R E Z h kc ks pc ls st := by
  intro p l e s m args below meth c g H locs lz X K hb hP hS hl hE
  exact lv_bipush X.1 X.2.1 hd hv (k p l e s m args below meth c g H locs lz X K hb hP hS hl hE)
theorem aw_sipush {z : Int} {v : Int32} (hd : decode M.2.1 pc = .ok (.sipush z, 3)) (hv : (Int16.ofInt z).toInt32 = v) (k : AW M R E Z h kc ks (pc + 3) ls (.int v :: st)) : AW M R E Z h kc ks pc ls st := by
  intro p l e s m args below meth c g H locs lz X K hb hP hS hl hE
  exact lv_sipush X.1 X.2.1 hd hv (k p l e s m args below meth c g H locs lz X K hb hP hS hl hE)
theorem aw_lconst {z : Fin 2} {v : Int64} (hd : decode M.2.1 pc = .ok (.lconst z, 1)) (hv : Int64.ofNat (z : Nat) = v) (k : AW M R E Z h kc ks (pc + 1) ls (.long v :: st)) : AW M R E Z h kc ks pc ls st := by
  intro p l e s m args below meth c g H locs lz X K hb hP hS hl hE
  exact lv_lconst X.1 X.2.1 hd hv (k p l e s m args below meth c g H locs lz X K hb hP hS hl hE)
theorem aw_ldc {z : Nat} {v : Int32} (hd : decode M.2.1 pc = .ok (.ldc z, 2)) (hw : Cond.constant M.1.cls z v ∈ ax_T) (k : AW M R E Z h kc ks (pc + 2) ls (.int v :: st)) : AW M R E Z h kc ks pc ls st := by
  intro p l e s m args below meth c g H locs lz X K hb hP hS hl hE
  exact lv_ldc X.1 X.2.1 X.2.2.2.1 (X.2.2.2.2.1 _ hw) hd (k p l e s m args below meth c g H locs lz X K hb hP hS hl hE)
theorem aw_ldcw {z : Nat} {v : Int32} (hd : decode M.2.1 pc = .ok (.ldc_w z, 3)) (hw : Cond.constant M.1.cls z v ∈ ax_T) (k : AW M R E Z h kc ks (pc + 3) ls (.int v :: st)) : AW M R E Z h kc ks pc ls st := by
  intro p l e s m args below meth c g H locs lz X K hb hP hS hl hE
  exact lv_ldcw X.1 X.2.1 X.2.2.2.1 (X.2.2.2.2.1 _ hw) hd (k p l e s m args below meth c g H locs lz X K hb hP hS hl hE)
theorem aw_ldc2 {z : Nat} {v : Int64} (hd : decode M.2.1 pc = .ok (.ldc2_w z, 3)) (hw : Cond.constantLong M.1.cls z v ∈ ax_T) (k : AW M R E Z h kc ks (pc + 3) ls (.long v :: st)) : AW M R E Z h kc ks pc ls st := by
  intro p l e s m args below meth c g H locs lz X K hb hP hS hl hE
  exact lv_ldc2 X.1 X.2.1 X.2.2.2.1 (X.2.2.2.2.1 _ hw) hd (k p l e s m args below meth c g H locs lz X K hb hP hS hl hE)
theorem aw_iload_n {i : Fin 4} {j : Nat} {x : Int32} (hd : decode M.2.1 pc = .ok (.iload_n i, 1)) (hi : (i : Nat) = j) (hv : lg ls j = some (.int x)) (k : AW M R E Z h kc ks (pc + 1) ls (.int x :: st)) : AW M R E Z h kc ks pc ls st := by
  intro p l e s m args below meth c g H locs lz X K hb hP hS hl hE
  exact lv_iload_n X.1 X.2.1 hd hi (lg_at hl hv) (k p l e s m args below meth c g H locs lz X K hb hP hS hl hE)
theorem aw_iload {j : Nat} {x : Int32} (hd : decode M.2.1 pc = .ok (.iload j, 2)) (hv : lg ls j = some (.int x)) (k : AW M R E Z h kc ks (pc + 2) ls (.int x :: st)) : AW M R E Z h kc ks pc ls st := by
  intro p l e s m args below meth c g H locs lz X K hb hP hS hl hE
  exact lv_iload X.1 X.2.1 hd (lg_at hl hv) (k p l e s m args below meth c g H locs lz X K hb hP hS hl hE)
theorem aw_lload_n {i : Fin 4} {j : Nat} {x : Int64} (hd : decode M.2.1 pc = .ok (.lload_n i, 1)) (hi : (i : Nat) = j) (hv : lg ls j = some (.long x)) (k : AW M R E Z h kc ks (pc + 1) ls (.long x :: st)) : AW M R E Z h kc ks pc ls st := by
  intro p l e s m args below meth c g H locs lz X K hb hP hS hl hE
  exact lv_lload_n X.1 X.2.1 hd hi (lg_at hl hv) (k p l e s m args below meth c g H locs lz X K hb hP hS hl hE)
theorem aw_lload {j : Nat} {x : Int64} (hd : decode M.2.1 pc = .ok (.lload j, 2)) (hv : lg ls j = some (.long x)) (k : AW M R E Z h kc ks (pc + 2) ls (.long x :: st)) : AW M R E Z h kc ks pc ls st := by
  intro p l e s m args below meth c g H locs lz X K hb hP hS hl hE
  exact lv_lload X.1 X.2.1 hd (lg_at hl hv) (k p l e s m args below meth c g H locs lz X K hb hP hS hl hE)
theorem aw_aload_n {i : Fin 4} {j : Nat} {x : Nat} (hd : decode M.2.1 pc = .ok (.aload_n i, 1)) (hi : (i : Nat) = j) (hv : lg ls j = some (.ref x)) (k : AW M R E Z h kc ks (pc + 1) ls (.ref x :: st)) : AW M R E Z h kc ks pc ls st := by
  intro p l e s m args below meth c g H locs lz X K hb hP hS hl hE
  exact lv_aload_n X.1 X.2.1 hd hi (lg_at hl hv) (k p l e s m args below meth c g H locs lz X K hb hP hS hl hE)
theorem aw_aload {j : Nat} {x : Nat} (hd : decode M.2.1 pc = .ok (.aload j, 2)) (hv : lg ls j = some (.ref x)) (k : AW M R E Z h kc ks (pc + 2) ls (.ref x :: st)) : AW M R E Z h kc ks pc ls st := by
  intro p l e s m args below meth c g H locs lz X K hb hP hS hl hE
  exact lv_aload X.1 X.2.1 hd (lg_at hl hv) (k p l e s m args below meth c g H locs lz X K hb hP hS hl hE)
theorem aw_aload_s {i : Fin 4} {j : Nat} {x : UInt32} (hd : decode M.2.1 pc = .ok (.aload_n i, 1)) (hi : (i : Nat) = j) (hv : lg ls j = some (.float x)) (k : AW M R E Z h kc ks (pc + 1) ls (.float x :: st)) : AW M R E Z h kc ks pc ls st := by
  intro p l e s m args below meth c g H locs lz X K hb hP hS hl hE
  exact lv_aload_n X.1 X.2.1 hd hi (lg_at hl hv) (k p l e s m args below meth c g H locs lz X K hb hP hS hl hE)
theorem aw_istore_n {i : Fin 4} {j : Nat} {x : Int32} {ls' : List (Nat × Value)} (hd : decode M.2.1 pc = .ok (.istore_n i, 1)) (hi : (i : Nat) = j) (hn : j < M.2.2.1) (hs : ls1 j (.int x) ls = ls') (k : AW M R E Z h kc ks (pc + 1) ls' st) : AW M R E Z h kc ks pc ls (.int x :: st) := by
  intro p l e s m args below meth c g H locs lz X K hb hP hS hl hE
  exact lv_istore_n X.1 X.2.1 hd hi hl hn rfl (fun lz hl => k p l e s m args below meth c g H locs lz X K hb hP hS (ls1_has hl hs) hE)
theorem aw_istore {j : Nat} {x : Int32} {ls' : List (Nat × Value)} (hd : decode M.2.1 pc = .ok (.istore j, 2)) (hn : j < M.2.2.1) (hs : ls1 j (.int x) ls = ls') (k : AW M R E Z h kc ks (pc + 2) ls' st) : AW M R E Z h kc ks pc ls (.int x :: st) := by
  intro p l e s m args below meth c g H locs lz X K hb hP hS hl hE
  exact lv_istore X.1 X.2.1 hd hl hn rfl (fun lz hl => k p l e s m args below meth c g H locs lz X K hb hP hS (ls1_has hl hs) hE)
theorem aw_astore_n {i : Fin 4} {j : Nat} {x : Nat} {ls' : List (Nat × Value)} (hd : decode M.2.1 pc = .ok (.astore_n i, 1)) (hi : (i : Nat) = j) (hn : j < M.2.2.1) (hs : ls1 j (.ref x) ls = ls') (k : AW M R E Z h kc ks (pc + 1) ls' st) : AW M R E Z h kc ks pc ls (.ref x :: st) := by
  intro p l e s m args below meth c g H locs lz X K hb hP hS hl hE
  exact lv_astore_n X.1 X.2.1 hd hi hl hn rfl (fun lz hl => k p l e s m args below meth c g H locs lz X K hb hP hS (ls1_has hl hs) hE)
theorem aw_astore {j : Nat} {x : Nat} {ls' : List (Nat × Value)} (hd : decode M.2.1 pc = .ok (.astore j, 2)) (hn : j < M.2.2.1) (hs : ls1 j (.ref x) ls = ls') (k : AW M R E Z h kc ks (pc + 2) ls' st) : AW M R E Z h kc ks pc ls (.ref x :: st) := by
  intro p l e s m args below meth c g H locs lz X K hb hP hS hl hE
  exact lv_astore X.1 X.2.1 hd hl hn rfl (fun lz hl => k p l e s m args below meth c g H locs lz X K hb hP hS (ls1_has hl hs) hE)
theorem aw_lstore_n {i : Fin 4} {j : Nat} {x : Int64} {ls' : List (Nat × Value)} (hd : decode M.2.1 pc = .ok (.lstore_n i, 1)) (hi : (i : Nat) = j) (hn : j + 1 < M.2.2.1) (hs : ls2 j (.long x) ls = ls') (k : AW M R E Z h kc ks (pc + 1) ls' st) : AW M R E Z h kc ks pc ls (.long x :: st) := by
  intro p l e s m args below meth c g H locs lz X K hb hP hS hl hE
  exact lv_lstore_n X.1 X.2.1 hd hi hl hn rfl (fun lz hl => k p l e s m args below meth c g H locs lz X K hb hP hS (ls2_has hl hs) hE)
theorem aw_lstore {j : Nat} {x : Int64} {ls' : List (Nat × Value)} (hd : decode M.2.1 pc = .ok (.lstore j, 2)) (hn : j + 1 < M.2.2.1) (hs : ls2 j (.long x) ls = ls') (k : AW M R E Z h kc ks (pc + 2) ls' st) : AW M R E Z h kc ks pc ls (.long x :: st) := by
  intro p l e s m args below meth c g H locs lz X K hb hP hS hl hE
  exact lv_lstore X.1 X.2.1 hd hl hn rfl (fun lz hl => k p l e s m args below meth c g H locs lz X K hb hP hS (ls2_has hl hs) hE)
theorem aw_iinc {j : Nat} {z : Int} {x v : Int32} {ls' : List (Nat × Value)} (hd : decode M.2.1 pc = .ok (.iinc j z, 3)) (hv : lg ls j = some (.int x)) (hx : x + Int32.ofInt z = v) (hn : j < M.2.2.1) (hs : ls1 j (.int v) ls = ls') (k : AW M R E Z h kc ks (pc + 3) ls' st) : AW M R E Z h kc ks pc ls st := by
  intro p l e s m args below meth c g H locs lz X K hb hP hS hl hE
  have hm : (j, Value.int x) ∈ ax_ml g ls := List.mem_map.mpr ⟨(j, .int x), lg_mem hv, rfl⟩
  obtain ⟨i, hi⟩ := List.getElem?_of_mem hm
  exact lv_iinc X.1 X.2.1 hd hl hi hx hn rfl (fun lz hl => k p l e s m args below meth c g H locs lz X K hb hP hS (ls1_has hl hs) hE)
theorem aw_dup {v : Value} (hd : decode M.2.1 pc = .ok (.dup, 1)) (hv : v.category = 1) (k : AW M R E Z h kc ks (pc + 1) ls (v :: v :: st)) : AW M R E Z h kc ks pc ls (v :: st) := by
  intro p l e s m args below meth c g H locs lz X K hb hP hS hl hE
  exact lv_dup X.1 X.2.1 hd ((ax_cat g v).trans hv) (k p l e s m args below meth c g H locs lz X K hb hP hS hl hE)
theorem aw_pop {v : Value} (hd : decode M.2.1 pc = .ok (.pop, 1)) (hv : v.category = 1) (k : AW M R E Z h kc ks (pc + 1) ls st) : AW M R E Z h kc ks pc ls (v :: st) := by
  intro p l e s m args below meth c g H locs lz X K hb hP hS hl hE
  exact lv_pop X.1 X.2.1 hd ((ax_cat g v).trans hv) (k p l e s m args below meth c g H locs lz X K hb hP hS hl hE)
theorem aw_dup2 {v w : Value} (hd : decode M.2.1 pc = .ok (.dup2, 1)) (hv : v.category = 1) (hw : w.category = 1) (k : AW M R E Z h kc ks (pc + 1) ls (v :: w :: v :: w :: st)) : AW M R E Z h kc ks pc ls (v :: w :: st) := by
  intro p l e s m args below meth c g H locs lz X K hb hP hS hl hE
  exact lv_dup2_11 X.1 X.2.1 hd ((ax_cat g v).trans hv) ((ax_cat g w).trans hw) (k p l e s m args below meth c g H locs lz X K hb hP hS hl hE)
theorem aw_icmp_eq {x y : Int32} {off : Int} {tgt : Nat} (hd : decode M.2.1 pc = .ok (.if_icmp .eq off, 3)) (ht : (pc : Int) + off = (tgt : Int)) (kt : x = y → AW M R E Z h kc ks tgt ls st) (kf : ¬ x = y → AW M R E Z h kc ks (pc + 3) ls st) : AW M R E Z h kc ks pc ls (.int y :: .int x :: st) := by
  intro p l e s m args below meth c g H locs lz X K hb hP hS hl hE
  exact lv_icmp_eq X.1 X.2.1 hd ht (fun hc => kt hc p l e s m args below meth c g H locs lz X K hb hP hS hl hE) (fun hc => kf hc p l e s m args below meth c g H locs lz X K hb hP hS hl hE)
theorem aw_if_eq {x : Int32} {off : Int} {tgt : Nat} (hd : decode M.2.1 pc = .ok (.ifCond .eq off, 3)) (ht : (pc : Int) + off = (tgt : Int)) (kt : x = 0 → AW M R E Z h kc ks tgt ls st) (kf : ¬ x = 0 → AW M R E Z h kc ks (pc + 3) ls st) : AW M R E Z h kc ks pc ls (.int x :: st) := by
  intro p l e s m args below meth c g H locs lz X K hb hP hS hl hE
  exact lv_if_eq X.1 X.2.1 hd ht (fun hc => kt hc p l e s m args below meth c g H locs lz X K hb hP hS hl hE) (fun hc => kf hc p l e s m args below meth c g H locs lz X K hb hP hS hl hE)
theorem aw_icmp_ne {x y : Int32} {off : Int} {tgt : Nat} (hd : decode M.2.1 pc = .ok (.if_icmp .ne off, 3)) (ht : (pc : Int) + off = (tgt : Int)) (kt : ¬ x = y → AW M R E Z h kc ks tgt ls st) (kf : x = y → AW M R E Z h kc ks (pc + 3) ls st) : AW M R E Z h kc ks pc ls (.int y :: .int x :: st) := by
  intro p l e s m args below meth c g H locs lz X K hb hP hS hl hE
  exact lv_icmp_ne X.1 X.2.1 hd ht (fun hc => kt hc p l e s m args below meth c g H locs lz X K hb hP hS hl hE) (fun hc => kf hc p l e s m args below meth c g H locs lz X K hb hP hS hl hE)
theorem aw_if_ne {x : Int32} {off : Int} {tgt : Nat} (hd : decode M.2.1 pc = .ok (.ifCond .ne off, 3)) (ht : (pc : Int) + off = (tgt : Int)) (kt : ¬ x = 0 → AW M R E Z h kc ks tgt ls st) (kf : x = 0 → AW M R E Z h kc ks (pc + 3) ls st) : AW M R E Z h kc ks pc ls (.int x :: st) := by
  intro p l e s m args below meth c g H locs lz X K hb hP hS hl hE
  exact lv_if_ne X.1 X.2.1 hd ht (fun hc => kt hc p l e s m args below meth c g H locs lz X K hb hP hS hl hE) (fun hc => kf hc p l e s m args below meth c g H locs lz X K hb hP hS hl hE)
theorem aw_icmp_lt {x y : Int32} {off : Int} {tgt : Nat} (hd : decode M.2.1 pc = .ok (.if_icmp .lt off, 3)) (ht : (pc : Int) + off = (tgt : Int)) (kt : x < y → AW M R E Z h kc ks tgt ls st) (kf : ¬ x < y → AW M R E Z h kc ks (pc + 3) ls st) : AW M R E Z h kc ks pc ls (.int y :: .int x :: st) := by
  intro p l e s m args below meth c g H locs lz X K hb hP hS hl hE
  exact lv_icmp_lt X.1 X.2.1 hd ht (fun hc => kt hc p l e s m args below meth c g H locs lz X K hb hP hS hl hE) (fun hc => kf hc p l e s m args below meth c g H locs lz X K hb hP hS hl hE)
theorem aw_if_lt {x : Int32} {off : Int} {tgt : Nat} (hd : decode M.2.1 pc = .ok (.ifCond .lt off, 3)) (ht : (pc : Int) + off = (tgt : Int)) (kt : x < 0 → AW M R E Z h kc ks tgt ls st) (kf : ¬ x < 0 → AW M R E Z h kc ks (pc + 3) ls st) : AW M R E Z h kc ks pc ls (.int x :: st) := by
  intro p l e s m args below meth c g H locs lz X K hb hP hS hl hE
  exact lv_if_lt X.1 X.2.1 hd ht (fun hc => kt hc p l e s m args below meth c g H locs lz X K hb hP hS hl hE) (fun hc => kf hc p l e s m args below meth c g H locs lz X K hb hP hS hl hE)
theorem aw_icmp_ge {x y : Int32} {off : Int} {tgt : Nat} (hd : decode M.2.1 pc = .ok (.if_icmp .ge off, 3)) (ht : (pc : Int) + off = (tgt : Int)) (kt : y ≤ x → AW M R E Z h kc ks tgt ls st) (kf : ¬ y ≤ x → AW M R E Z h kc ks (pc + 3) ls st) : AW M R E Z h kc ks pc ls (.int y :: .int x :: st) := by
  intro p l e s m args below meth c g H locs lz X K hb hP hS hl hE
  exact lv_icmp_ge X.1 X.2.1 hd ht (fun hc => kt hc p l e s m args below meth c g H locs lz X K hb hP hS hl hE) (fun hc => kf hc p l e s m args below meth c g H locs lz X K hb hP hS hl hE)
theorem aw_if_ge {x : Int32} {off : Int} {tgt : Nat} (hd : decode M.2.1 pc = .ok (.ifCond .ge off, 3)) (ht : (pc : Int) + off = (tgt : Int)) (kt : 0 ≤ x → AW M R E Z h kc ks tgt ls st) (kf : ¬ 0 ≤ x → AW M R E Z h kc ks (pc + 3) ls st) : AW M R E Z h kc ks pc ls (.int x :: st) := by
  intro p l e s m args below meth c g H locs lz X K hb hP hS hl hE
  exact lv_if_ge X.1 X.2.1 hd ht (fun hc => kt hc p l e s m args below meth c g H locs lz X K hb hP hS hl hE) (fun hc => kf hc p l e s m args below meth c g H locs lz X K hb hP hS hl hE)
theorem aw_icmp_gt {x y : Int32} {off : Int} {tgt : Nat} (hd : decode M.2.1 pc = .ok (.if_icmp .gt off, 3)) (ht : (pc : Int) + off = (tgt : Int)) (kt : y < x → AW M R E Z h kc ks tgt ls st) (kf : ¬ y < x → AW M R E Z h kc ks (pc + 3) ls st) : AW M R E Z h kc ks pc ls (.int y :: .int x :: st) := by
  intro p l e s m args below meth c g H locs lz X K hb hP hS hl hE
  exact lv_icmp_gt X.1 X.2.1 hd ht (fun hc => kt hc p l e s m args below meth c g H locs lz X K hb hP hS hl hE) (fun hc => kf hc p l e s m args below meth c g H locs lz X K hb hP hS hl hE)
theorem aw_if_gt {x : Int32} {off : Int} {tgt : Nat} (hd : decode M.2.1 pc = .ok (.ifCond .gt off, 3)) (ht : (pc : Int) + off = (tgt : Int)) (kt : 0 < x → AW M R E Z h kc ks tgt ls st) (kf : ¬ 0 < x → AW M R E Z h kc ks (pc + 3) ls st) : AW M R E Z h kc ks pc ls (.int x :: st) := by
  intro p l e s m args below meth c g H locs lz X K hb hP hS hl hE
  exact lv_if_gt X.1 X.2.1 hd ht (fun hc => kt hc p l e s m args below meth c g H locs lz X K hb hP hS hl hE) (fun hc => kf hc p l e s m args below meth c g H locs lz X K hb hP hS hl hE)
theorem aw_icmp_le {x y : Int32} {off : Int} {tgt : Nat} (hd : decode M.2.1 pc = .ok (.if_icmp .le off, 3)) (ht : (pc : Int) + off = (tgt : Int)) (kt : x ≤ y → AW M R E Z h kc ks tgt ls st) (kf : ¬ x ≤ y → AW M R E Z h kc ks (pc + 3) ls st) : AW M R E Z h kc ks pc ls (.int y :: .int x :: st) := by
  intro p l e s m args below meth c g H locs lz X K hb hP hS hl hE
  exact lv_icmp_le X.1 X.2.1 hd ht (fun hc => kt hc p l e s m args below meth c g H locs lz X K hb hP hS hl hE) (fun hc => kf hc p l e s m args below meth c g H locs lz X K hb hP hS hl hE)
theorem aw_if_le {x : Int32} {off : Int} {tgt : Nat} (hd : decode M.2.1 pc = .ok (.ifCond .le off, 3)) (ht : (pc : Int) + off = (tgt : Int)) (kt : x ≤ 0 → AW M R E Z h kc ks tgt ls st) (kf : ¬ x ≤ 0 → AW M R E Z h kc ks (pc + 3) ls st) : AW M R E Z h kc ks pc ls (.int x :: st) := by
  intro p l e s m args below meth c g H locs lz X K hb hP hS hl hE
  exact lv_if_le X.1 X.2.1 hd ht (fun hc => kt hc p l e s m args below meth c g H locs lz X K hb hP hS hl hE) (fun hc => kf hc p l e s m args below meth c g H locs lz X K hb hP hS hl hE)
theorem aw_goto {off : Int} {tgt : Nat} (hd : decode M.2.1 pc = .ok (.goto off, 3)) (ht : (pc : Int) + off = (tgt : Int)) (k : AW M R E Z h kc ks tgt ls st) : AW M R E Z h kc ks pc ls st := by
  intro p l e s m args below meth c g H locs lz X K hb hP hS hl hE
  exact lv_goto X.1 X.2.1 hd ht (k p l e s m args below meth c g H locs lz X K hb hP hS hl hE)
/-- a truth as the machine has it -/
def b2 (p : Prop) [Decidable p] : Int32 := if p then 1 else 0
theorem b2_1 {p : Prop} [Decidable p] (h : p) : b2 p = 1 := if_pos h
theorem b2_0 {p : Prop} [Decidable p] (h : ¬ p) : b2 p = 0 := if_neg h
theorem b2_e {p : Prop} [Decidable p] : b2 p = 0 ↔ ¬ p := by
  by_cases h : p
  · rw [b2_1 h]; exact ⟨fun q => absurd q (by decide), fun q => absurd h q⟩
  · rw [b2_0 h]; exact ⟨fun _ => h, fun _ => rfl⟩
theorem b2_c {p q : Prop} [Decidable p] [Decidable q] (h : p ↔ q) : b2 p = b2 q := by
  by_cases hp : p
  · rw [b2_1 hp, b2_1 (h.mp hp)]
  · rw [b2_0 hp, b2_0 (fun z => hp (h.mpr z))]
theorem aw_bz {p : Prop} [Decidable p] {off : Int} {tgt : Nat} (hd : decode M.2.1 pc = .ok (.ifCond .eq off, 3)) (ht : (pc : Int) + off = (tgt : Int)) (kt : ¬ p → AW M R E Z h kc ks tgt ls st) (kf : p → AW M R E Z h kc ks (pc + 3) ls st) : AW M R E Z h kc ks pc ls (.int (b2 p) :: st) :=
  aw_if_eq hd ht (fun q => kt (b2_e.mp q)) (fun q => kf (Decidable.not_not.mp (fun z => q (b2_e.mpr z))))
theorem aw_bn {p : Prop} [Decidable p] {off : Int} {tgt : Nat} (hd : decode M.2.1 pc = .ok (.ifCond .ne off, 3)) (ht : (pc : Int) + off = (tgt : Int)) (kt : p → AW M R E Z h kc ks tgt ls st) (kf : ¬ p → AW M R E Z h kc ks (pc + 3) ls st) : AW M R E Z h kc ks pc ls (.int (b2 p) :: st) :=
  aw_if_ne hd ht (fun q => kt (Decidable.not_not.mp (fun z => q (b2_e.mpr z)))) (fun q => kf (b2_e.mp q))
end ROWS
end
section
/-! heap, calls, ends, over the light machine -/
theorem ax_sz {p : Program} {l : Launch} {e : Env} {R : Room} {s : State} {m : MethodId} {args : Array Value} {below : List Frame} {meth : Method} {c : Code} {T : State} {locs : List Loc} {kc ks : Nat} {g : ax_G} {h : ax_H} {H : Heap} (X : Stand p l e R s m args below meth c T locs kc ks) (hT : T.heap = H) (hb : g.1 ≤ s.heap.size ∧ s.heap.size + kc = g.1 + h.length) (hP : va_P g.2.2.1 classes (ax_w g h) H) (hS : va_S (ax_A g) s.heap H locs) : H.size = g.1 + h.length := by
  have h1 : H.size ≤ s.heap.size + kc := by rw [← hT]; exact X.heapSize
  have h2 := hS.1
  by_cases hl : h.length = 0
  · omega
  · obtain ⟨c0, hc0⟩ : ∃ c0, h[h.length - 1]? = some c0 := ⟨h[h.length - 1]'(by omega), List.getElem?_eq_getElem (by omega)⟩
    have h3 : g.1 + (h.length - 1) < H.size := (hP (h.length - 1) _ (ax_w_at hc0)).lt
    omega
theorem up_set {xs : List Int32} {j : Nat} {x : Int32} (hj : j < xs.length) : upd (fun j => xs.getD j 0) j x = fun i => (xs.set j x).getD i 0 := by
  funext i
  by_cases hi : i = j
  · subst hi
    simp [upd, List.getD_eq_getElem?_getD, hj]
  · simp [upd, hi, List.getD_eq_getElem?_getD, List.getElem?_set_ne (Ne.symm hi)]
theorem up_setL {xs : List Int64} {j : Nat} {x : Int64} (hj : j < xs.length) : vp_updL (fun j => xs.getD j 0) j x = fun i => (xs.set j x).getD i 0 := by
  funext i
  by_cases hi : i = j
  · subst hi
    simp [vp_updL, List.getD_eq_getElem?_getD, hj]
  · simp [vp_updL, hi, List.getD_eq_getElem?_getD, List.getElem?_set_ne (Ne.symm hi)]
theorem rep_getD (N : Nat) (i : Nat) : (List.replicate N (0 : Int32)).getD i 0 = 0 := by
  rw [List.getD_eq_getElem?_getD]
  by_cases h : i < N
  · simp [List.getElem?_replicate, h]
  · simp [List.getElem?_replicate, h]
theorem rep_getDL (N : Nat) (i : Nat) : (List.replicate N (0 : Int64)).getD i 0 = 0 := by
  rw [List.getD_eq_getElem?_getD]
  by_cases h : i < N
  · simp [List.getElem?_replicate, h]
  · simp [List.getElem?_replicate, h]
/-- a field that may be written: its type, whether it is final -/
def fp_ok (own : String) (idx ci j : Nat) (fin : Bool) (t : FieldType) : Prop := ∃ (C : String) (T : u_T) (N : Nat) (ty : Nat → FieldType), cl_ok ci C T N ty ∧ j < N ∧ Cond.fieldLink own idx (T j).1 (T j).2.1 (T j).2.2.1 ∈ ax_T ∧ ty j = t ∧ (T j).2.2.2 = fin ∧ (fin = true → (T j).1 = own)
/-- a value that a field of a type takes -/
def ft_ok (t : FieldType) (v : Value) : Prop := ∀ g : ax_G, narrow t (ax_v g v) = ax_v g v ∧ fits t (ax_v g v) = true
theorem ft_int (x : Int32) : ft_ok .int (.int x) := fun _ => ⟨rfl, rfl⟩
theorem ft_long (x : Int64) : ft_ok .long (.long x) := fun _ => ⟨rfl, rfl⟩
theorem ft_obj (C : String) (k : Nat) : ft_ok (.object C) (.ref k) := fun _ => ⟨rfl, rfl⟩
theorem ft_arr (t : FieldType) (k : Nat) : ft_ok (.array t) (.ref k) := fun _ => ⟨rfl, rfl⟩
theorem ft_b2 (p : Prop) [Decidable p] : ft_ok .boolean (.int (b2 p)) := fun _ => by
  by_cases h : p
  · rw [b2_1 h]; exact ⟨rfl, rfl⟩
  · rw [b2_0 h]; exact ⟨rfl, rfl⟩
theorem ft_0 : ft_ok .boolean (.int 0) := fun _ => ⟨rfl, rfl⟩
theorem ft_1 : ft_ok .boolean (.int 1) := fun _ => ⟨rfl, rfl⟩
/-- what a method comes to -/
def ax_Q (g : ax_G) (Q : Option Value → ax_H → Prop) (mc : Nat) : Array Value → State → Outcome → State → Prop := fun _ st o t =>
  ∃ (r : Option Value) (h' : ax_H), o = .returned (r.map (ax_v g)) ∧ Q r h' ∧ va_P g.2.2.1 classes (ax_w g h') t.heap ∧ st.heap.size + mc = g.1 + h'.length ∧ va_F (ax_A g) st t
def ax_Zm (Q : Option Value → ax_H → Prop) (mc ms : Nat) : ax_Zt := fun g below args s => MQ below (ax_Q g Q mc) args s mc ms (ax_A g)
abbrev ax_E0 : ax_Et := fun _ _ => True
abbrev ax_ws (M : ax_M) : List Cond := Cond.code M.1 M.2.1 M.2.2.1 M.2.2.2 :: ax_T
def ax_Pc (g : ax_G) (h : ax_H) (as : List Value) : Array Value → State → Prop := va_Pc (as.map (ax_v g)) (fun U => (g.1 ≤ U.heap.size ∧ U.heap.size = g.1 + h.length) ∧ va_P g.2.2.1 classes (ax_w g h) U.heap ∧ ax_K g U)
theorem ax_blind (g : ax_G) (h : ax_H) (as : List Value) : FrameBlind (ax_Pc g h as) := fun _ _ _ _ q => ⟨q.1, q.2.1, q.2.2.1, q.2.2.2.calling⟩
/-- a method's contract: called with these values over these cells it returns what Q says -/
def AM (M : ax_M) (R : Room) (h : ax_H) (as : List Value) (Q : Option Value → ax_H → Prop) : Prop :=
  ∀ (l : Launch) (g : ax_G), Met l M.1 (ax_ws M) R (ax_Pc g h as) (ax_Q g Q R.cells) R.cells R.slots (ax_A g)
abbrev AD (M : ax_M) (R : Room) (h : ax_H) (as : List Value) (r : Option Value) (h' : ax_H) : Prop := AM M R h as (fun a b => a = r ∧ b = h')
theorem ax_args (g : ax_G) : ∀ (as : List Value) (k : Nat), lv_args k (as.map (ax_v g)) = ax_ml g (lv_args k as)
  | [], _ => rfl
  | v :: vs, k => by
    show (k, ax_v g v) :: lv_args (if (ax_v g v).category = 2 then k + 2 else k + 1) (vs.map (ax_v g)) = (k, ax_v g v) :: ax_ml g (lv_args (if v.category = 2 then k + 2 else k + 1) vs)
    rw [ax_cat, ax_args g vs]
theorem ax_sl (g : ax_G) : ∀ (as : List Value), (lg_sl (as.map (ax_v g))).length = (lg_sl as).length
  | [] => rfl
  | v :: vs => by
    have ih := ax_sl g vs
    simp only [lg_sl, List.map_cons, List.flatMap_cons, List.length_append] at ih ⊢
    rw [ih, ax_cat]
    split <;> rfl
theorem am_of {M : ax_M} {R : Room} {h : ax_H} {as : List Value} {Q : Option Value → ax_H → Prop} (hy : plainName M.1.cls = true) {ls : List (Nat × Value)} (hls : lv_args 0 as = ls) (hn : (lg_sl as).length ≤ M.2.2.1)
    (k : AW M R ax_E0 (ax_Zm Q R.cells R.slots) h 0 0 0 ls []) : AM M R h as Q := by
  intro l g
  refine Met.ofW (cc := M.2.1) (maxL := M.2.2.1) (ret := M.2.2.2) hy rfl ?_
  intro p e s m args below meth c s₁ B hml hv
  obtain ⟨rfl, hsz, hP, hK⟩ := hv
  have hts := atoms_spec (ws := ax_ws M) B.pre
  have hl := lv_entry (as.map (ax_v g)) (n := M.2.2.1) (by rw [ax_sl]; exact hn)
  rw [ax_args, hls] at hl
  rw [lg_entry_eq]
  exact k p l e s m _ below meth c g s.heap [] _ ⟨B.exec, B.bytes, hml, findClass_of_methodNamed B.named, fun w hw => hts w (List.mem_cons_of_mem _ hw), B.returns, B.notSynchronized, fun hi => ((name_of_methodNamed B.named B.method).1).trans hi⟩ hK hsz hP va_S.rf hl trivial
/-- fewer words of a post -/
theorem am_mono {M : ax_M} {R : Room} {h : ax_H} {as : List Value} {Q Q' : Option Value → ax_H → Prop} (hq : ∀ r h', Q r h' → Q' r h') (hM : AM M R h as Q) : AM M R h as Q' := by
  intro l g p e ha hc hk s m args below hf hfit hP hK
  have := hM l g p e ha hc hk s m args below hf hfit hP hK
  obtain ⟨t, o, h1, h2, h3, ⟨r, h', e1, e2, e3⟩, h5⟩ := this
  exact ⟨t, o, h1, h2, h3, ⟨r, h', e1, hq r h' e2, e3⟩, h5⟩
def mo_ok (M : ax_M) (n : Nat) : Prop := Cond.code M.1 M.2.1 M.2.2.1 M.2.2.2 ∈ ax_T ∧ Cond.initialized M.1.cls ∈ ax_T ∧ M.1.cls ≠ "java/lang/invoke/MethodHandle" ∧ M.1.cls ≠ "java/lang/invoke/VarHandle" ∧ (parseMethodDescriptor M.1.desc).map (fun d => d.parameters.length) = some n
def mv_ok (M : ax_M) (n ci : Nat) : Prop := mo_ok M n ∧ Cond.instanceMethod M.1 ∈ ax_T ∧ Cond.selects M.1.cls M.1 M.1 ∈ ax_T ∧ ∃ (T : u_T) (N : Nat), classes[ci]? = some (M.1.cls, T, N)
def ms_ok (M : ax_M) (n : Nat) : Prop := mo_ok M n ∧ Cond.static M.1 ∈ ax_T
def mi_ok (M : ax_M) (n : Nat) : Prop := mo_ok M n ∧ Cond.instanceMethod M.1 ∈ ax_T ∧ M.1.name = "<init>" ∧ M.2.2.2 = none
theorem ax_wsT {M : ax_M} {n : Nat} (hok : mo_ok M n) : GoodIn ax_T (ax_ws M) := ax_good (fun w hw => by
  rcases List.mem_cons.mp hw with rfl | hw
  · exact hok.1
  · exact hw)
theorem ax_CB {M' : ax_M} {R R' : Room} {s : State} {args : Array Value} {own : String} {idx n : Nat} (hok : mo_ok M' n) (hts : ∀ w ∈ ax_T, w.before args s = true) (hl : (Cond.methodLink own idx M'.1).before args s = true) (hR : R'.frames + 1 ≤ R.frames ∧ 8 + (M'.2.2.1 + 11) + R'.locals ≤ R.locals) :
    CallB R s args own idx M'.1 M'.2.1 M'.2.2.1 M'.2.2.2 (ax_ws M') R' R'.cells R'.slots n := callB_of n hts (ax_wsT hok) rfl rfl rfl (hts _ hok.2.1) hl hok.2.2 hR
theorem ax_CN {M' : ax_M} {R R' : Room} {s : State} {args : Array Value} {own host : String} {idx n : Nat} (hok : mo_ok M' n) (hts : ∀ w ∈ ax_T, w.before args s = true) (hl : va_Nw (.methodLinkNest own idx M'.1 host) s) (hR : R'.frames + 1 ≤ R.frames ∧ 8 + (M'.2.2.1 + 11) + R'.locals ≤ R.locals) :
    va_CN R s args own idx M'.1 host M'.2.1 M'.2.2.1 M'.2.2.2 (ax_ws M') R' R'.cells R'.slots n := va_cnB n hts (ax_wsT hok) rfl rfl rfl hl (hts _ hok.2.1) hok.2.2 hR
theorem ax_rs (g : ax_G) (rest : List Value) : ((rest.map (ax_v g)).map fun v => v.category).sum = (rest.map fun v => v.category).sum := by
  rw [List.map_map]
  congr 1
  exact List.map_congr_left (fun v _ => ax_cat g v)
section HEAP
variable {M : ax_M} {R : Room} {E : ax_Et} {Z : ax_Zt} {h : ax_H} {kc ks pc : Nat} {ls : List (Nat × Value)} {st : List Value}
theorem aw_get {idx ci j k : Nat} {fs : List Value} {v : Value} (hd : decode M.2.1 pc = .ok (.getfield idx, 3)) (hL : fl_ok M.1.cls idx ci j) (hk : h[k]? = some (ob ci fs)) (hv : fs[j]? = some v) (kk : AW M R E Z h kc ks (pc + 3) ls (v :: st)) : AW M R E Z h kc ks pc ls (.ref k :: st) := by
  intro p l e s m args below meth c g H locs lz X K hb hP hS hl hE
  obtain ⟨C, T, N, ty, hc, hj, hw⟩ := hL
  exact va_get X.1 X.2.1 X.2.2.2.2.1 hc.2.1 X.2.2.2.1 K.1 hP k (ax_w_at hk) hc.1 j hj (X.2.2.2.2.1 _ hw) (fun _ h9 => h9) (v := ax_v g v) (by rw [List.getElem?_map, hv]; rfl) hd (kk p l e s m args below meth c g H locs lz X K hb hP hS hl hE)
theorem ax_oset (g : ax_G) (h : ax_H) (k ci j : Nat) (fs : List Value) (v : Value) : (ax_w g h).set k (g.1 + k, .inr (ci, (fs.map (ax_v g)).set j (ax_v g v))) = ax_w g (h.set k (ob ci (fs.set j v))) := by
  rw [← ax_w_set]
  show _ = (ax_w g h).set k (g.1 + k, .inr (ci, (fs.set j v).map (ax_v g)))
  rw [List.map_set]
theorem aw_put {idx ci j k : Nat} {fs : List Value} {v : Value} {t : FieldType} {h' : ax_H} (hd : decode M.2.1 pc = .ok (.putfield idx, 3)) (hL : fp_ok M.1.cls idx ci j false t) (hk : h[k]? = some (ob ci fs)) (hv : ft_ok t v) (hj : j < fs.length) (hs : h.set k (ob ci (fs.set j v)) = h') (kk : AW M R E Z h' kc ks (pc + 3) ls st) : AW M R E Z h kc ks pc ls (v :: .ref k :: st) := by
  intro p l e s m args below meth c g H locs lz X K hb hP hS hl hE
  obtain ⟨C, T, N, ty, hc, hjN, hw, ht, hf, -⟩ := hL
  subst hs
  refine va_put X.1 X.2.1 X.2.2.2.2.1 hc.2.1 ty hc.2.2.1 hc.2.2.2 X.2.2.2.1 K.1 hP (ax_D g h) hS k (ax_w_at hk) hc.1 j hjN (X.2.2.2.2.1 _ hw) (fun _ h9 => h9) hf (ty := t) (v := ax_v g v) (by rw [hc.2.2.1 j hjN, ht]) (hv g).1 (hv g).2 (by rw [List.length_map]; exact hj) hd (fun H1 locs1 hP1 _ hS1 => ?_)
  rw [ax_oset] at hP1
  exact kk p l e s m args below meth c g H1 locs1 lz X K ⟨hb.1, by rw [List.length_set]; exact hb.2⟩ hP1 hS1 hl hE
theorem aw_putF {idx ci j k : Nat} {fs : List Value} {v : Value} {t : FieldType} {h' : ax_H} (hd : decode M.2.1 pc = .ok (.putfield idx, 3)) (hL : fp_ok M.1.cls idx ci j true t) (hi : M.1.name = "<init>") (hk : h[k]? = some (ob ci fs)) (hv : ft_ok t v) (hj : j < fs.length) (hs : h.set k (ob ci (fs.set j v)) = h') (kk : AW M R E Z h' kc ks (pc + 3) ls st) : AW M R E Z h kc ks pc ls (v :: .ref k :: st) := by
  intro p l e s m args below meth c g H locs lz X K hb hP hS hl hE
  obtain ⟨C, T, N, ty, hc, hjN, hw, ht, hf, hdc⟩ := hL
  subst hs
  refine va_putF X.1 X.2.1 X.2.2.2.2.1 hc.2.1 ty hc.2.2.1 hc.2.2.2 X.2.2.2.1 K.1 hP (ax_D g h) hS k (ax_w_at hk) hc.1 j hjN (X.2.2.2.2.1 _ hw) (fun _ h9 => h9) hf (X.2.2.2.2.2.2.2 hi) (hdc rfl) (ty := t) (v := ax_v g v) (by rw [hc.2.2.1 j hjN, ht]) (hv g).1 (hv g).2 (by rw [List.length_map]; exact hj) hd (fun H1 locs1 hP1 _ hS1 => ?_)
  rw [ax_oset] at hP1
  exact kk p l e s m args below meth c g H1 locs1 lz X K ⟨hb.1, by rw [List.length_set]; exact hb.2⟩ hP1 hS1 hl hE
theorem aw_iald {k j n : Nat} {i : Int32} {xs : List Int32} (hd : decode M.2.1 pc = .ok (.iaload, 1)) (hk : h[k]? = some (ia xs)) (hn : xs.length = n) (hi : i = nI j) (hj : j < n) (hm : n < 2 ^ 31) (kk : AW M R E Z h kc ks (pc + 1) ls (.int (xs.getD j 0) :: st)) : AW M R E Z h kc ks pc ls (.int i :: .ref k :: st) := by
  intro p l e s m args below meth c g H locs lz X K hb hP hS hl hE
  subst hi; subst hn
  have e1 : xs.getD (nI j).toNatClampNeg 0 = xs.getD j 0 := by rw [nI_clamp (by omega)]
  refine va_iald X.1 X.2.1 K.1 hP k 0 (ax_w_at hk) rfl (i := nI j) (vp_in_nI hj hm) hd ?_
  show W p l e R s m args below meth c H locs kc ks _ (F0 m (pc + 1) lz (.int (xs.getD (nI j).toNatClampNeg 0) :: st.map (ax_v g)))
  rw [e1]
  exact kk p l e s m args below meth c g H locs lz X K hb hP hS hl hE
theorem aw_zald {k j n : Nat} {i : Int32} {xs : List Int32} (hd : decode M.2.1 pc = .ok (.baload, 1)) (hk : h[k]? = some (za xs)) (hn : xs.length = n) (hi : i = nI j) (hj : j < n) (hm : n < 2 ^ 31) (kk : AW M R E Z h kc ks (pc + 1) ls (.int (xs.getD j 0) :: st)) : AW M R E Z h kc ks pc ls (.int i :: .ref k :: st) := by
  intro p l e s m args below meth c g H locs lz X K hb hP hS hl hE
  subst hi; subst hn
  have e1 : xs.getD (nI j).toNatClampNeg 0 = xs.getD j 0 := by rw [nI_clamp (by omega)]
  refine va_zald X.1 X.2.1 K.1 hP k 1 (ax_w_at hk) rfl (i := nI j) (vp_in_nI hj hm) hd ?_
  show W p l e R s m args below meth c H locs kc ks _ (F0 m (pc + 1) lz (.int (xs.getD (nI j).toNatClampNeg 0) :: st.map (ax_v g)))
  rw [e1]
  exact kk p l e s m args below meth c g H locs lz X K hb hP hS hl hE
theorem aw_lald {k j n : Nat} {i : Int32} {xs : List Int64} (hd : decode M.2.1 pc = .ok (.laload, 1)) (hk : h[k]? = some (ja xs)) (hn : xs.length = n) (hi : i = nI j) (hj : j < n) (hm : n < 2 ^ 31) (kk : AW M R E Z h kc ks (pc + 1) ls (.long (xs.getD j 0) :: st)) : AW M R E Z h kc ks pc ls (.int i :: .ref k :: st) := by
  intro p l e s m args below meth c g H locs lz X K hb hP hS hl hE
  subst hi; subst hn
  have e1 : xs.getD (nI j).toNatClampNeg 0 = xs.getD j 0 := by rw [nI_clamp (by omega)]
  refine va_lald X.1 X.2.1 K.1 hP k 2 (ax_w_at hk) rfl (i := nI j) (vp_in_nI hj hm) hd ?_
  show W p l e R s m args below meth c H locs kc ks _ (F0 m (pc + 1) lz (.long (xs.getD (nI j).toNatClampNeg 0) :: st.map (ax_v g)))
  rw [e1]
  exact kk p l e s m args below meth c g H locs lz X K hb hP hS hl hE
theorem aw_iast {k j n : Nat} {i : Int32} {x : Int32} {xs : List Int32} {h' : ax_H} (hd : decode M.2.1 pc = .ok (.iastore, 1)) (hk : h[k]? = some (ia xs)) (hn : xs.length = n) (hi : i = nI j) (hj : j < n) (hm : n < 2 ^ 31) (hs : h.set k (ia (xs.set j x)) = h') (kk : AW M R E Z h' kc ks (pc + 1) ls st) : AW M R E Z h kc ks pc ls (.int x :: .int i :: .ref k :: st) := by
  intro p l e s m args below meth c g H locs lz X K hb hP hS hl hE
  subst hi; subst hn; subst hs
  refine va_iast X.1 X.2.1 K.1 hP (ax_D g h) hS k 0 (ax_w_at hk) rfl (i := nI j) (x := x) (vp_in_nI hj hm) hd (fun H1 locs1 hP1 _ hS1 => ?_)
  have e1 : (ax_w g h).set k (g.1 + k, .inl (g.2.2.2 0, xs.length, .inl (upd (fun j => xs.getD j 0) (nI j).toNatClampNeg x))) = ax_w g (h.set k (ia (xs.set j x))) := by
    rw [nI_clamp (by omega), up_set hj, ← ax_w_set]
    show _ = (ax_w g h).set k (g.1 + k, .inl (g.2.2.2 0, (xs.set j x).length, _))
    rw [List.length_set]
  rw [e1] at hP1
  exact kk p l e s m args below meth c g H1 locs1 lz X K ⟨hb.1, by rw [List.length_set]; exact hb.2⟩ hP1 hS1 hl hE
theorem aw_last {k j n : Nat} {i : Int32} {x : Int64} {xs : List Int64} {h' : ax_H} (hd : decode M.2.1 pc = .ok (.lastore, 1)) (hk : h[k]? = some (ja xs)) (hn : xs.length = n) (hi : i = nI j) (hj : j < n) (hm : n < 2 ^ 31) (hs : h.set k (ja (xs.set j x)) = h') (kk : AW M R E Z h' kc ks (pc + 1) ls st) : AW M R E Z h kc ks pc ls (.long x :: .int i :: .ref k :: st) := by
  intro p l e s m args below meth c g H locs lz X K hb hP hS hl hE
  subst hi; subst hn; subst hs
  refine va_last X.1 X.2.1 K.1 hP (ax_D g h) hS k 2 (ax_w_at hk) rfl (i := nI j) (x := x) (vp_in_nI hj hm) hd (fun H1 locs1 hP1 _ hS1 => ?_)
  have e1 : (ax_w g h).set k (g.1 + k, .inl (g.2.2.2 2, xs.length, .inr (.inl (vp_updL (fun j => xs.getD j 0) (nI j).toNatClampNeg x)))) = ax_w g (h.set k (ja (xs.set j x))) := by
    rw [nI_clamp (by omega), up_setL hj, ← ax_w_set]
    show _ = (ax_w g h).set k (g.1 + k, .inl (g.2.2.2 2, (xs.set j x).length, _))
    rw [List.length_set]
  rw [e1] at hP1
  exact kk p l e s m args below meth c g H1 locs1 lz X K ⟨hb.1, by rw [List.length_set]; exact hb.2⟩ hP1 hS1 hl hE
theorem aw_zast {k j n : Nat} {i x : Int32} {xs : List Int32} {h' : ax_H} (hd : decode M.2.1 pc = .ok (.bastore, 1)) (hk : h[k]? = some (za xs)) (hn : xs.length = n) (hi : i = nI j) (hj : j < n) (hm : n < 2 ^ 31) (hx : vp_nar .boolean x = x) (hs : h.set k (za (xs.set j x)) = h') (kk : AW M R E Z h' kc ks (pc + 1) ls st) : AW M R E Z h kc ks pc ls (.int x :: .int i :: .ref k :: st) := by
  intro p l e s m args below meth c g H locs lz X K hb hP hS hl hE
  subst hi; subst hn; subst hs
  refine va_zast X.1 X.2.1 K.1 hP (ax_D g h) hS k 1 (ax_w_at hk) rfl (i := nI j) (x := x) (vp_in_nI hj hm) hd (fun H1 locs1 hP1 _ hS1 => ?_)
  have e1 : (ax_w g h).set k (g.1 + k, .inl (g.2.2.2 1, xs.length, .inl (upd (fun j => xs.getD j 0) (nI j).toNatClampNeg (vp_nar .boolean x)))) = ax_w g (h.set k (za (xs.set j x))) := by
    rw [nI_clamp (by omega), hx, up_set hj, ← ax_w_set]
    show _ = (ax_w g h).set k (g.1 + k, .inl (g.2.2.2 1, (xs.set j x).length, _))
    rw [List.length_set]
  rw [e1] at hP1
  exact kk p l e s m args below meth c g H1 locs1 lz X K ⟨hb.1, by rw [List.length_set]; exact hb.2⟩ hP1 hS1 hl hE
theorem aw_new {idx ci N : Nat} {C : String} {T : u_T} {ty : Nat → FieldType} {fs : List Value} (hd : decode M.2.1 pc = .ok (.new idx, 3)) (hc : cl_ok ci C T N ty) (hL : Cond.classLink M.1.cls idx C ∈ ax_T) (hI : Cond.instantiable C N ∈ ax_T) (hN : Cond.initialized C ∈ ax_T) (hfs : ∀ j, j < N → defaultValue (ty j) = vp_V fs j) (hpl : ∀ g, fs.map (ax_v g) = fs) (hcs : kc + 1 ≤ R.cells ∧ ks + N ≤ R.slots)
    (kk : AW M R E Z (h ++ [ob ci fs]) (kc + 1) (ks + N) (pc + 3) ls (.ref h.length :: st)) : AW M R E Z h kc ks pc ls st := by
  intro p l e s m args below meth c g H locs lz X K hb hP hS hl hE T0 hT XX
  have hsz := ax_sz XX hT hb hP hS
  have hKn := K.1.1 ci _ hc.1
  refine W.newcK X.1 X.2.1 X.2.2.2.1 (X.2.2.2.2.1 _ hL) (X.2.2.2.2.1 _ hI) (X.2.2.2.2.1 _ hN) (g := F0 m pc lz (st.map (ax_v g))) rfl hd hcs.1 hcs.2 hKn.2.1 hsz (fun H1 kC hkC e1 z1 o1 => ?_) T0 hT XX
  have hk : ∀ (k : Nat) (x : Nat × va_E), (ax_w g h)[k]? = some x → H1[x.1]? = H[x.1]? := fun k x hx => o1 x.1 (by rw [← hsz]; exact (hP k x hx).lt)
  refine kk p l e s m args below meth c g H1 locs lz X K ⟨hb.1, by rw [List.length_append]; show s.heap.size + (kc + 1) = g.1 + (h.length + 1); omega⟩ ?_ ⟨by have := hS.1; omega, fun x h1 h2 => (o1 x (by have := hS.1; omega)).trans (hS.2.1 x h1 h2), hS.2.2⟩ hl hE
  rw [ax_w_push]
  refine (hP.kept hk).app (fun j x hx => ?_)
  have hz : j < 1 := (List.getElem?_eq_some_iff.mp hx).1
  rw [show j = 0 by omega] at hx
  cases hx
  refine ⟨_, hc.1, (u_born ty X.2.2.2.2.1 hc.2.1 hKn hkC e1 hc.2.2.1).to (fun j hj => ?_)⟩
  show _ = vp_V (fs.map (ax_v g)) j
  rw [hpl g]
  exact hfs j hj
theorem aw_newi {n : Int32} {N : Nat} (hd : decode M.2.1 pc = .ok (.newarray .int, 2)) (hn : ¬ n < 0) (hN : n.toNatClampNeg = N) (hm : N ≤ 1000) (hcs : kc + 1 ≤ R.cells ∧ ks + N ≤ R.slots) (kk : AW M R E Z (h ++ [ia (List.replicate N 0)]) (kc + 1) (ks + N) (pc + 2) ls (.ref h.length :: st)) : AW M R E Z h kc ks pc ls (.int n :: st) := by
  intro p l e s m args below meth c g H locs lz X K hb hP hS hl hE T0 hT XX
  have hsz := ax_sz XX hT hb hP hS
  refine va_newaK (atype := .int) X.1 X.2.1 (X.2.2.2.2.1 _ wa_int) (g := F0 m pc lz ((Value.int n :: st).map (ax_v g))) rfl hd (rest := st.map (ax_v g)) rfl hn hN (Nat.le_trans (Nat.mul_le_mul_right _ hm) (by decide)) hcs.1 hcs.2 hsz (fun H1 cA e1 z1 o1 hAr hNm => ?_) T0 hT XX
  have hcA : cA = g.2.2.2 0 := Option.some.inj (hNm.symm.trans (K.1.2 0 _ rfl).2)
  subst hcA
  have hk : ∀ (k : Nat) (x : Nat × va_E), (ax_w g h)[k]? = some x → H1[x.1]? = H[x.1]? := fun k x hx => o1 x.1 (by rw [← hsz]; exact (hP k x hx).lt)
  refine kk p l e s m args below meth c g H1 locs lz X K ⟨hb.1, by rw [List.length_append]; show s.heap.size + (kc + 1) = g.1 + (h.length + 1); omega⟩ ?_ ⟨by have := hS.1; omega, fun x h1 h2 => (o1 x (by have := hS.1; omega)).trans (hS.2.1 x h1 h2), hS.2.2⟩ hl hE
  rw [ax_w_push]
  refine (hP.kept hk).app (fun j x hx => ?_)
  have hz : j < 1 := (List.getElem?_eq_some_iff.mp hx).1
  rw [show j = 0 by omega] at hx
  cases hx
  show H1[g.1 + h.length]? = some (arrV (g.2.2.2 0) (List.replicate N _).length (fun j => .int ((List.replicate N 0).getD j 0)))
  rw [e1, List.length_replicate]
  congr 2
  funext j
  rw [rep_getD]
  rfl
theorem aw_newz {n : Int32} {N : Nat} (hd : decode M.2.1 pc = .ok (.newarray .boolean, 2)) (hn : ¬ n < 0) (hN : n.toNatClampNeg = N) (hm : N ≤ 1000) (hcs : kc + 1 ≤ R.cells ∧ ks + N ≤ R.slots) (kk : AW M R E Z (h ++ [za (List.replicate N 0)]) (kc + 1) (ks + N) (pc + 2) ls (.ref h.length :: st)) : AW M R E Z h kc ks pc ls (.int n :: st) := by
  intro p l e s m args below meth c g H locs lz X K hb hP hS hl hE T0 hT XX
  have hsz := ax_sz XX hT hb hP hS
  refine va_newaK (atype := .boolean) X.1 X.2.1 (X.2.2.2.2.1 _ wa_boolean) (g := F0 m pc lz ((Value.int n :: st).map (ax_v g))) rfl hd (rest := st.map (ax_v g)) rfl hn hN (Nat.le_trans (Nat.mul_le_mul_right _ hm) (by decide)) hcs.1 hcs.2 hsz (fun H1 cA e1 z1 o1 hAr hNm => ?_) T0 hT XX
  have hcA : cA = g.2.2.2 1 := Option.some.inj (hNm.symm.trans (K.1.2 1 _ rfl).2)
  subst hcA
  have hk : ∀ (k : Nat) (x : Nat × va_E), (ax_w g h)[k]? = some x → H1[x.1]? = H[x.1]? := fun k x hx => o1 x.1 (by rw [← hsz]; exact (hP k x hx).lt)
  refine kk p l e s m args below meth c g H1 locs lz X K ⟨hb.1, by rw [List.length_append]; show s.heap.size + (kc + 1) = g.1 + (h.length + 1); omega⟩ ?_ ⟨by have := hS.1; omega, fun x h1 h2 => (o1 x (by have := hS.1; omega)).trans (hS.2.1 x h1 h2), hS.2.2⟩ hl hE
  rw [ax_w_push]
  refine (hP.kept hk).app (fun j x hx => ?_)
  have hz : j < 1 := (List.getElem?_eq_some_iff.mp hx).1
  rw [show j = 0 by omega] at hx
  cases hx
  show H1[g.1 + h.length]? = some (arrV (g.2.2.2 1) (List.replicate N _).length (fun j => .int ((List.replicate N 0).getD j 0)))
  rw [e1, List.length_replicate]
  congr 2
  funext j
  rw [rep_getD]
  rfl
theorem aw_newl {n : Int32} {N : Nat} (hd : decode M.2.1 pc = .ok (.newarray .long, 2)) (hn : ¬ n < 0) (hN : n.toNatClampNeg = N) (hm : N ≤ 1000) (hcs : kc + 1 ≤ R.cells ∧ ks + N ≤ R.slots) (kk : AW M R E Z (h ++ [ja (List.replicate N 0)]) (kc + 1) (ks + N) (pc + 2) ls (.ref h.length :: st)) : AW M R E Z h kc ks pc ls (.int n :: st) := by
  intro p l e s m args below meth c g H locs lz X K hb hP hS hl hE T0 hT XX
  have hsz := ax_sz XX hT hb hP hS
  refine va_newaK (atype := .long) X.1 X.2.1 (X.2.2.2.2.1 _ wa_long) (g := F0 m pc lz ((Value.int n :: st).map (ax_v g))) rfl hd (rest := st.map (ax_v g)) rfl hn hN (Nat.le_trans (Nat.mul_le_mul_right _ hm) (by decide)) hcs.1 hcs.2 hsz (fun H1 cA e1 z1 o1 hAr hNm => ?_) T0 hT XX
  have hcA : cA = g.2.2.2 2 := Option.some.inj (hNm.symm.trans (K.1.2 2 _ rfl).2)
  subst hcA
  have hk : ∀ (k : Nat) (x : Nat × va_E), (ax_w g h)[k]? = some x → H1[x.1]? = H[x.1]? := fun k x hx => o1 x.1 (by rw [← hsz]; exact (hP k x hx).lt)
  refine kk p l e s m args below meth c g H1 locs lz X K ⟨hb.1, by rw [List.length_append]; show s.heap.size + (kc + 1) = g.1 + (h.length + 1); omega⟩ ?_ ⟨by have := hS.1; omega, fun x h1 h2 => (o1 x (by have := hS.1; omega)).trans (hS.2.1 x h1 h2), hS.2.2⟩ hl hE
  rw [ax_w_push]
  refine (hP.kept hk).app (fun j x hx => ?_)
  have hz : j < 1 := (List.getElem?_eq_some_iff.mp hx).1
  rw [show j = 0 by omega] at hx
  cases hx
  show H1[g.1 + h.length]? = some (arrV (g.2.2.2 2) (List.replicate N _).length (fun j => .long ((List.replicate N 0).getD j 0)))
  rw [e1, List.length_replicate]
  congr 2
  funext j
  rw [rep_getDL]
  rfl
theorem aw_callV {M' : ax_M} {R' : Room} {as rest : List Value} {k idx ci n : Nat} {fs : List Value} {Q' : Option Value → ax_H → Prop} (hM : AM M' R' h (.ref k :: as) Q') (hok : mv_ok M' n ci) (hd : decode M.2.1 pc = .ok (.invokevirtual idx, 3)) (hL : Cond.methodLink M.1.cls idx M'.1 ∈ ax_T) (hk : h[k]? = some (ob ci fs)) (hn : as.length = n) (hst : st = as.reverse ++ .ref k :: rest) (hroom : R'.frames + 1 ≤ R.frames ∧ 8 + (M'.2.2.1 + 11) + R'.locals ≤ R.locals) (hrs : (rest.map fun v => v.category).sum ≤ 8) (hcs : kc + R'.cells ≤ R.cells ∧ ks + R'.slots ≤ R.slots) (kk : ∀ r h', Q' r h' → AW M R E Z h' (kc + R'.cells) (ks + R'.slots) (pc + 3) ls (r.toList ++ rest)) : AW M R E Z h kc ks pc ls st := by
  intro p l e s m args below meth c g H locs lz X K hb hP hS hl hE T hT XX
  have hsz := ax_sz XX hT hb hP hS
  obtain ⟨hok, hI, hV, Tc, Nc, hcl⟩ := hok
  have hrun := va_runV (l := l) (e := e) (below := below) (meth := meth) (H := H) (locs := locs) (cells := kc) (slots := ks) (As := as.map (ax_v g)) (rest := rest.map (ax_v g)) (g := F0 m pc lz (st.map (ax_v g))) (b := g.1 + k) ⟨X.1, X.2.1, X.2.2.1, X.2.2.2.1, X.2.2.2.2.1⟩ (hM l g) ⟨ax_CB hok X.2.2.2.2.1 (X.2.2.2.2.1 _ hL) hroom, X.2.2.2.2.1 _ hI, X.2.2.2.2.1 _ hV⟩ ⟨ax_blind g h _, va_recv K.1 hP hcl (ax_w_at hk), fun U hU hW => ⟨rfl, ⟨by rw [hU]; omega, by rw [hU]; exact hsz⟩, by rw [hU]; exact hP, K.moved hW⟩⟩ rfl (by rw [List.length_map]; exact hn) hl.1 (by rw [hst]; simp [ax_v]) (lv_room (by rw [ax_rs]; exact hrs)) hd hcs
  obtain ⟨v, st0, t, T', L, h0, X', hL2, e1, e2, ⟨r, h', hr, hq, hP', hsz2, hF⟩, go⟩ := hrun T hT XX
  have hv : v = r.map (ax_v g) := by injection hr
  subst hv
  rw [h0] at hsz2
  obtain ⟨t2, a1, b1⟩ := kk r h' hq p l e s m args below meth c g t.heap (locs ++ L) lz X K ⟨hb.1, by omega⟩ hP' ⟨Nat.le_trans hS.1 (by rw [← h0]; exact hF.1), fun q h1 h2 => by rw [hF.2 q (by rw [h0]; exact Nat.lt_of_lt_of_le h1 hS.1) h2, h0]; exact hS.2.1 q h1 h2, fun q hq2 => (List.mem_append.mp hq2).elim (hS.2.2 q) (hL2 q)⟩ hl hE T' e1 X'
  refine ⟨t2, go t2 ?_, b1⟩
  have e3 : (r.toList ++ rest).map (ax_v g) = (r.map (ax_v g)).toList ++ rest.map (ax_v g) := by cases r <;> simp
  rw [e3] at a1
  exact a1
theorem aw_callV1 {M' : ax_M} {R' : Room} {as rest : List Value} {k idx ci n : Nat} {fs : List Value} {h' : ax_H} {v : Value} (hM : AD M' R' h (.ref k :: as) (some v) h') (hok : mv_ok M' n ci) (hd : decode M.2.1 pc = .ok (.invokevirtual idx, 3)) (hL : Cond.methodLink M.1.cls idx M'.1 ∈ ax_T) (hk : h[k]? = some (ob ci fs)) (hn : as.length = n) (hst : st = as.reverse ++ .ref k :: rest) (hroom : R'.frames + 1 ≤ R.frames ∧ 8 + (M'.2.2.1 + 11) + R'.locals ≤ R.locals) (hrs : (rest.map fun v => v.category).sum ≤ 8) (hc0 : R'.cells = 0) (hs0 : R'.slots = 0) (hcs : kc ≤ R.cells ∧ ks ≤ R.slots) (kk : AW M R E Z h' kc ks (pc + 3) ls (v :: rest)) : AW M R E Z h kc ks pc ls st :=
  aw_callV hM hok hd hL hk hn hst hroom hrs (by rw [hc0, hs0]; exact hcs) (fun r h2 hq => by obtain ⟨rfl, rfl⟩ := hq; rw [hc0, hs0]; exact kk)
theorem aw_callV0 {M' : ax_M} {R' : Room} {as rest : List Value} {k idx ci n : Nat} {fs : List Value} {h' : ax_H} (hM : AD M' R' h (.ref k :: as) none h') (hok : mv_ok M' n ci) (hd : decode M.2.1 pc = .ok (.invokevirtual idx, 3)) (hL : Cond.methodLink M.1.cls idx M'.1 ∈ ax_T) (hk : h[k]? = some (ob ci fs)) (hn : as.length = n) (hst : st = as.reverse ++ .ref k :: rest) (hroom : R'.frames + 1 ≤ R.frames ∧ 8 + (M'.2.2.1 + 11) + R'.locals ≤ R.locals) (hrs : (rest.map fun v => v.category).sum ≤ 8) (hc0 : R'.cells = 0) (hs0 : R'.slots = 0) (hcs : kc ≤ R.cells ∧ ks ≤ R.slots) (kk : AW M R E Z h' kc ks (pc + 3) ls rest) : AW M R E Z h kc ks pc ls st :=
  aw_callV hM hok hd hL hk hn hst hroom hrs (by rw [hc0, hs0]; exact hcs) (fun r h2 hq => by obtain ⟨rfl, rfl⟩ := hq; rw [hc0, hs0]; exact kk)
theorem aw_callVq {M' : ax_M} {R' : Room} {as rest : List Value} {k idx ci n : Nat} {fs : List Value} {Q' : Option Value → ax_H → Prop} (hM : AM M' R' h (.ref k :: as) Q') (hok : mv_ok M' n ci) (hd : decode M.2.1 pc = .ok (.invokevirtual idx, 3)) (hL : Cond.methodLink M.1.cls idx M'.1 ∈ ax_T) (hk : h[k]? = some (ob ci fs)) (hn : as.length = n) (hst : st = as.reverse ++ .ref k :: rest) (hroom : R'.frames + 1 ≤ R.frames ∧ 8 + (M'.2.2.1 + 11) + R'.locals ≤ R.locals) (hrs : (rest.map fun v => v.category).sum ≤ 8) (hc0 : R'.cells = 0) (hs0 : R'.slots = 0) (hcs : kc ≤ R.cells ∧ ks ≤ R.slots) (kk : ∀ r h', Q' r h' → AW M R E Z h' kc ks (pc + 3) ls (r.toList ++ rest)) : AW M R E Z h kc ks pc ls st :=
  aw_callV hM hok hd hL hk hn hst hroom hrs (by rw [hc0, hs0]; exact hcs) (fun r h2 hq => by rw [hc0, hs0]; exact kk r h2 hq)
theorem aw_callS {M' : ax_M} {R' : Room} {as rest : List Value} {idx n : Nat} {Q' : Option Value → ax_H → Prop} (hM : AM M' R' h as Q') (hok : ms_ok M' n) (hd : decode M.2.1 pc = .ok (.invokestatic idx, 3)) (hL : Cond.methodLink M.1.cls idx M'.1 ∈ ax_T) (hn : as.length = n) (hst : st = as.reverse ++ rest) (hroom : R'.frames + 1 ≤ R.frames ∧ 8 + (M'.2.2.1 + 11) + R'.locals ≤ R.locals) (hrs : (rest.map fun v => v.category).sum ≤ 8) (hcs : kc + R'.cells ≤ R.cells ∧ ks + R'.slots ≤ R.slots) (kk : ∀ r h', Q' r h' → AW M R E Z h' (kc + R'.cells) (ks + R'.slots) (pc + 3) ls (r.toList ++ rest)) : AW M R E Z h kc ks pc ls st := by
  intro p l e s m args below meth c g H locs lz X K hb hP hS hl hE T hT XX
  have hsz := ax_sz XX hT hb hP hS
  obtain ⟨hok, hI⟩ := hok
  have hrun := va_runS (l := l) (e := e) (below := below) (meth := meth) (H := H) (locs := locs) (cells := kc) (slots := ks) (As := as.map (ax_v g)) (rest := rest.map (ax_v g)) (g := F0 m pc lz (st.map (ax_v g))) ⟨X.1, X.2.1, X.2.2.1, X.2.2.2.1, X.2.2.2.2.1⟩ (hM l g) ⟨ax_CB hok X.2.2.2.2.1 (X.2.2.2.2.1 _ hL) hroom, X.2.2.2.2.1 _ hI⟩ ⟨ax_blind g h _, fun U hU hW => ⟨rfl, ⟨by rw [hU]; omega, by rw [hU]; exact hsz⟩, by rw [hU]; exact hP, K.moved hW⟩⟩ rfl (by rw [List.length_map]; exact hn) hl.1 (by rw [hst]; simp) (lv_room (by rw [ax_rs]; exact hrs)) hd hcs
  obtain ⟨v, st0, t, T', L, h0, X', hL2, e1, e2, ⟨r, h', hr, hq, hP', hsz2, hF⟩, go⟩ := hrun T hT XX
  have hv : v = r.map (ax_v g) := by injection hr
  subst hv
  rw [h0] at hsz2
  obtain ⟨t2, a1, b1⟩ := kk r h' hq p l e s m args below meth c g t.heap (locs ++ L) lz X K ⟨hb.1, by omega⟩ hP' ⟨Nat.le_trans hS.1 (by rw [← h0]; exact hF.1), fun q h1 h2 => by rw [hF.2 q (by rw [h0]; exact Nat.lt_of_lt_of_le h1 hS.1) h2, h0]; exact hS.2.1 q h1 h2, fun q hq2 => (List.mem_append.mp hq2).elim (hS.2.2 q) (hL2 q)⟩ hl hE T' e1 X'
  refine ⟨t2, go t2 ?_, b1⟩
  have e3 : (r.toList ++ rest).map (ax_v g) = (r.map (ax_v g)).toList ++ rest.map (ax_v g) := by cases r <;> simp
  rw [e3] at a1
  exact a1
theorem aw_callS1 {M' : ax_M} {R' : Room} {as rest : List Value} {idx n : Nat} {h' : ax_H} {v : Value} (hM : AD M' R' h as (some v) h') (hok : ms_ok M' n) (hd : decode M.2.1 pc = .ok (.invokestatic idx, 3)) (hL : Cond.methodLink M.1.cls idx M'.1 ∈ ax_T) (hn : as.length = n) (hst : st = as.reverse ++ rest) (hroom : R'.frames + 1 ≤ R.frames ∧ 8 + (M'.2.2.1 + 11) + R'.locals ≤ R.locals) (hrs : (rest.map fun v => v.category).sum ≤ 8) (hc0 : R'.cells = 0) (hs0 : R'.slots = 0) (hcs : kc ≤ R.cells ∧ ks ≤ R.slots) (kk : AW M R E Z h' kc ks (pc + 3) ls (v :: rest)) : AW M R E Z h kc ks pc ls st :=
  aw_callS hM hok hd hL hn hst hroom hrs (by rw [hc0, hs0]; exact hcs) (fun r h2 hq => by obtain ⟨rfl, rfl⟩ := hq; rw [hc0, hs0]; exact kk)
theorem aw_callS0 {M' : ax_M} {R' : Room} {as rest : List Value} {idx n : Nat} {h' : ax_H} (hM : AD M' R' h as none h') (hok : ms_ok M' n) (hd : decode M.2.1 pc = .ok (.invokestatic idx, 3)) (hL : Cond.methodLink M.1.cls idx M'.1 ∈ ax_T) (hn : as.length = n) (hst : st = as.reverse ++ rest) (hroom : R'.frames + 1 ≤ R.frames ∧ 8 + (M'.2.2.1 + 11) + R'.locals ≤ R.locals) (hrs : (rest.map fun v => v.category).sum ≤ 8) (hc0 : R'.cells = 0) (hs0 : R'.slots = 0) (hcs : kc ≤ R.cells ∧ ks ≤ R.slots) (kk : AW M R E Z h' kc ks (pc + 3) ls rest) : AW M R E Z h kc ks pc ls st :=
  aw_callS hM hok hd hL hn hst hroom hrs (by rw [hc0, hs0]; exact hcs) (fun r h2 hq => by obtain ⟨rfl, rfl⟩ := hq; rw [hc0, hs0]; exact kk)
theorem aw_callSq {M' : ax_M} {R' : Room} {as rest : List Value} {idx n : Nat} {Q' : Option Value → ax_H → Prop} (hM : AM M' R' h as Q') (hok : ms_ok M' n) (hd : decode M.2.1 pc = .ok (.invokestatic idx, 3)) (hL : Cond.methodLink M.1.cls idx M'.1 ∈ ax_T) (hn : as.length = n) (hst : st = as.reverse ++ rest) (hroom : R'.frames + 1 ≤ R.frames ∧ 8 + (M'.2.2.1 + 11) + R'.locals ≤ R.locals) (hrs : (rest.map fun v => v.category).sum ≤ 8) (hc0 : R'.cells = 0) (hs0 : R'.slots = 0) (hcs : kc ≤ R.cells ∧ ks ≤ R.slots) (kk : ∀ r h', Q' r h' → AW M R E Z h' kc ks (pc + 3) ls (r.toList ++ rest)) : AW M R E Z h kc ks pc ls st :=
  aw_callS hM hok hd hL hn hst hroom hrs (by rw [hc0, hs0]; exact hcs) (fun r h2 hq => by rw [hc0, hs0]; exact kk r h2 hq)
theorem aw_callT {M' : ax_M} {R' : Room} {as rest : List Value} {idx n : Nat} {host : String} {Q' : Option Value → ax_H → Prop} (hM : AM M' R' h as Q') (hok : ms_ok M' n) (hd : decode M.2.1 pc = .ok (.invokestatic idx, 3)) (hL : (M.1.cls, idx, M'.1, host) ∈ ax_N) (hn : as.length = n) (hst : st = as.reverse ++ rest) (hroom : R'.frames + 1 ≤ R.frames ∧ 8 + (M'.2.2.1 + 11) + R'.locals ≤ R.locals) (hrs : (rest.map fun v => v.category).sum ≤ 8) (hcs : kc + R'.cells ≤ R.cells ∧ ks + R'.slots ≤ R.slots) (kk : ∀ r h', Q' r h' → AW M R E Z h' (kc + R'.cells) (ks + R'.slots) (pc + 3) ls (r.toList ++ rest)) : AW M R E Z h kc ks pc ls st := by
  intro p l e s m args below meth c g H locs lz X K hb hP hS hl hE T hT XX
  have hsz := ax_sz XX hT hb hP hS
  obtain ⟨hok, hI⟩ := hok
  have hrun := va_runSN (l := l) (e := e) (below := below) (meth := meth) (H := H) (locs := locs) (cells := kc) (slots := ks) (As := as.map (ax_v g)) (rest := rest.map (ax_v g)) (g := F0 m pc lz (st.map (ax_v g))) ⟨X.1, X.2.1, X.2.2.1, X.2.2.2.1, X.2.2.2.2.1⟩ (hM l g) ⟨ax_CN hok X.2.2.2.2.1 (K.2 _ hL) hroom, X.2.2.2.2.1 _ hI, trivial⟩ ⟨ax_blind g h _, fun U hU hW => ⟨rfl, ⟨by rw [hU]; omega, by rw [hU]; exact hsz⟩, by rw [hU]; exact hP, K.moved hW⟩⟩ rfl (by rw [List.length_map]; exact hn) hl.1 (by rw [hst]; simp) (lv_room (by rw [ax_rs]; exact hrs)) hd hcs
  obtain ⟨v, st0, t, T', L, h0, X', hL2, e1, e2, ⟨r, h', hr, hq, hP', hsz2, hF⟩, go⟩ := hrun T hT XX
  have hv : v = r.map (ax_v g) := by injection hr
  subst hv
  rw [h0] at hsz2
  obtain ⟨t2, a1, b1⟩ := kk r h' hq p l e s m args below meth c g t.heap (locs ++ L) lz X K ⟨hb.1, by omega⟩ hP' ⟨Nat.le_trans hS.1 (by rw [← h0]; exact hF.1), fun q h1 h2 => by rw [hF.2 q (by rw [h0]; exact Nat.lt_of_lt_of_le h1 hS.1) h2, h0]; exact hS.2.1 q h1 h2, fun q hq2 => (List.mem_append.mp hq2).elim (hS.2.2 q) (hL2 q)⟩ hl hE T' e1 X'
  refine ⟨t2, go t2 ?_, b1⟩
  have e3 : (r.toList ++ rest).map (ax_v g) = (r.map (ax_v g)).toList ++ rest.map (ax_v g) := by cases r <;> simp
  rw [e3] at a1
  exact a1
theorem aw_callT1 {M' : ax_M} {R' : Room} {as rest : List Value} {idx n : Nat} {host : String} {h' : ax_H} {v : Value} (hM : AD M' R' h as (some v) h') (hok : ms_ok M' n) (hd : decode M.2.1 pc = .ok (.invokestatic idx, 3)) (hL : (M.1.cls, idx, M'.1, host) ∈ ax_N) (hn : as.length = n) (hst : st = as.reverse ++ rest) (hroom : R'.frames + 1 ≤ R.frames ∧ 8 + (M'.2.2.1 + 11) + R'.locals ≤ R.locals) (hrs : (rest.map fun v => v.category).sum ≤ 8) (hc0 : R'.cells = 0) (hs0 : R'.slots = 0) (hcs : kc ≤ R.cells ∧ ks ≤ R.slots) (kk : AW M R E Z h' kc ks (pc + 3) ls (v :: rest)) : AW M R E Z h kc ks pc ls st :=
  aw_callT hM hok hd hL hn hst hroom hrs (by rw [hc0, hs0]; exact hcs) (fun r h2 hq => by obtain ⟨rfl, rfl⟩ := hq; rw [hc0, hs0]; exact kk)
theorem aw_callT0 {M' : ax_M} {R' : Room} {as rest : List Value} {idx n : Nat} {host : String} {h' : ax_H} (hM : AD M' R' h as none h') (hok : ms_ok M' n) (hd : decode M.2.1 pc = .ok (.invokestatic idx, 3)) (hL : (M.1.cls, idx, M'.1, host) ∈ ax_N) (hn : as.length = n) (hst : st = as.reverse ++ rest) (hroom : R'.frames + 1 ≤ R.frames ∧ 8 + (M'.2.2.1 + 11) + R'.locals ≤ R.locals) (hrs : (rest.map fun v => v.category).sum ≤ 8) (hc0 : R'.cells = 0) (hs0 : R'.slots = 0) (hcs : kc ≤ R.cells ∧ ks ≤ R.slots) (kk : AW M R E Z h' kc ks (pc + 3) ls rest) : AW M R E Z h kc ks pc ls st :=
  aw_callT hM hok hd hL hn hst hroom hrs (by rw [hc0, hs0]; exact hcs) (fun r h2 hq => by obtain ⟨rfl, rfl⟩ := hq; rw [hc0, hs0]; exact kk)
theorem aw_callTq {M' : ax_M} {R' : Room} {as rest : List Value} {idx n : Nat} {host : String} {Q' : Option Value → ax_H → Prop} (hM : AM M' R' h as Q') (hok : ms_ok M' n) (hd : decode M.2.1 pc = .ok (.invokestatic idx, 3)) (hL : (M.1.cls, idx, M'.1, host) ∈ ax_N) (hn : as.length = n) (hst : st = as.reverse ++ rest) (hroom : R'.frames + 1 ≤ R.frames ∧ 8 + (M'.2.2.1 + 11) + R'.locals ≤ R.locals) (hrs : (rest.map fun v => v.category).sum ≤ 8) (hc0 : R'.cells = 0) (hs0 : R'.slots = 0) (hcs : kc ≤ R.cells ∧ ks ≤ R.slots) (kk : ∀ r h', Q' r h' → AW M R E Z h' kc ks (pc + 3) ls (r.toList ++ rest)) : AW M R E Z h kc ks pc ls st :=
  aw_callT hM hok hd hL hn hst hroom hrs (by rw [hc0, hs0]; exact hcs) (fun r h2 hq => by rw [hc0, hs0]; exact kk r h2 hq)
theorem aw_callI {M' : ax_M} {R' : Room} {as rest : List Value} {k idx n : Nat} {Q' : Option Value → ax_H → Prop} (hM : AM M' R' h (.ref k :: as) Q') (hok : mi_ok M' n) (hd : decode M.2.1 pc = .ok (.invokespecial idx, 3)) (hL : Cond.methodLink M.1.cls idx M'.1 ∈ ax_T) (hn : as.length = n) (hst : st = as.reverse ++ .ref k :: rest) (hroom : R'.frames + 1 ≤ R.frames ∧ 8 + (M'.2.2.1 + 11) + R'.locals ≤ R.locals) (hrs : (rest.map fun v => v.category).sum ≤ 8) (hcs : kc + R'.cells ≤ R.cells ∧ ks + R'.slots ≤ R.slots) (kk : ∀ r h', Q' r h' → AW M R E Z h' (kc + R'.cells) (ks + R'.slots) (pc + 3) ls (r.toList ++ rest)) : AW M R E Z h kc ks pc ls st := by
  intro p l e s m args below meth c g H locs lz X K hb hP hS hl hE T hT XX
  have hsz := ax_sz XX hT hb hP hS
  obtain ⟨hok, hI, hin, hrt⟩ := hok
  have hrun := va_runI (l := l) (e := e) (below := below) (meth := meth) (H := H) (locs := locs) (cells := kc) (slots := ks) (As := as.map (ax_v g)) (rest := rest.map (ax_v g)) (g := F0 m pc lz (st.map (ax_v g))) (b := g.1 + k) ⟨X.1, X.2.1, X.2.2.1, X.2.2.2.1, X.2.2.2.2.1⟩ (hM l g) ⟨by rw [← hrt]; exact ax_CB hok X.2.2.2.2.1 (X.2.2.2.2.1 _ hL) hroom, hin, X.2.2.2.2.1 _ hI⟩ ⟨ax_blind g h _, fun U hU hW => ⟨rfl, ⟨by rw [hU]; omega, by rw [hU]; exact hsz⟩, by rw [hU]; exact hP, K.moved hW⟩⟩ rfl (by rw [List.length_map]; exact hn) hl.1 (by rw [hst]; simp [ax_v]) (lv_room (by rw [ax_rs]; exact hrs)) hd hcs
  obtain ⟨v, st0, t, T', L, h0, X', hL2, e1, e2, ⟨r, h', hr, hq, hP', hsz2, hF⟩, go⟩ := hrun T hT XX
  have hv : v = r.map (ax_v g) := by injection hr
  subst hv
  rw [h0] at hsz2
  obtain ⟨t2, a1, b1⟩ := kk r h' hq p l e s m args below meth c g t.heap (locs ++ L) lz X K ⟨hb.1, by omega⟩ hP' ⟨Nat.le_trans hS.1 (by rw [← h0]; exact hF.1), fun q h1 h2 => by rw [hF.2 q (by rw [h0]; exact Nat.lt_of_lt_of_le h1 hS.1) h2, h0]; exact hS.2.1 q h1 h2, fun q hq2 => (List.mem_append.mp hq2).elim (hS.2.2 q) (hL2 q)⟩ hl hE T' e1 X'
  refine ⟨t2, go t2 ?_, b1⟩
  have e3 : (r.toList ++ rest).map (ax_v g) = (r.map (ax_v g)).toList ++ rest.map (ax_v g) := by cases r <;> simp
  rw [e3] at a1
  exact a1
theorem aw_callJ {M' : ax_M} {R' : Room} {as rest : List Value} {k idx n : Nat} {host : String} {Q' : Option Value → ax_H → Prop} (hM : AM M' R' h (.ref k :: as) Q') (hok : mi_ok M' n) (hd : decode M.2.1 pc = .ok (.invokespecial idx, 3)) (hL : (M.1.cls, idx, M'.1, host) ∈ ax_N) (hn : as.length = n) (hst : st = as.reverse ++ .ref k :: rest) (hroom : R'.frames + 1 ≤ R.frames ∧ 8 + (M'.2.2.1 + 11) + R'.locals ≤ R.locals) (hrs : (rest.map fun v => v.category).sum ≤ 8) (hcs : kc + R'.cells ≤ R.cells ∧ ks + R'.slots ≤ R.slots) (kk : ∀ r h', Q' r h' → AW M R E Z h' (kc + R'.cells) (ks + R'.slots) (pc + 3) ls (r.toList ++ rest)) : AW M R E Z h kc ks pc ls st := by
  intro p l e s m args below meth c g H locs lz X K hb hP hS hl hE T hT XX
  have hsz := ax_sz XX hT hb hP hS
  obtain ⟨hok, hI, hin, hrt⟩ := hok
  have hrun := va_runIN (l := l) (e := e) (below := below) (meth := meth) (H := H) (locs := locs) (cells := kc) (slots := ks) (As := as.map (ax_v g)) (rest := rest.map (ax_v g)) (g := F0 m pc lz (st.map (ax_v g))) (b := g.1 + k) ⟨X.1, X.2.1, X.2.2.1, X.2.2.2.1, X.2.2.2.2.1⟩ (hM l g) ⟨by rw [← hrt]; exact ax_CN hok X.2.2.2.2.1 (K.2 _ hL) hroom, hin, X.2.2.2.2.1 _ hI⟩ ⟨ax_blind g h _, fun U hU hW => ⟨rfl, ⟨by rw [hU]; omega, by rw [hU]; exact hsz⟩, by rw [hU]; exact hP, K.moved hW⟩⟩ rfl (by rw [List.length_map]; exact hn) hl.1 (by rw [hst]; simp [ax_v]) (lv_room (by rw [ax_rs]; exact hrs)) hd hcs
  obtain ⟨v, st0, t, T', L, h0, X', hL2, e1, e2, ⟨r, h', hr, hq, hP', hsz2, hF⟩, go⟩ := hrun T hT XX
  have hv : v = r.map (ax_v g) := by injection hr
  subst hv
  rw [h0] at hsz2
  obtain ⟨t2, a1, b1⟩ := kk r h' hq p l e s m args below meth c g t.heap (locs ++ L) lz X K ⟨hb.1, by omega⟩ hP' ⟨Nat.le_trans hS.1 (by rw [← h0]; exact hF.1), fun q h1 h2 => by rw [hF.2 q (by rw [h0]; exact Nat.lt_of_lt_of_le h1 hS.1) h2, h0]; exact hS.2.1 q h1 h2, fun q hq2 => (List.mem_append.mp hq2).elim (hS.2.2 q) (hL2 q)⟩ hl hE T' e1 X'
  refine ⟨t2, go t2 ?_, b1⟩
  have e3 : (r.toList ++ rest).map (ax_v g) = (r.map (ax_v g)).toList ++ rest.map (ax_v g) := by cases r <;> simp
  rw [e3] at a1
  exact a1
theorem aw_objInit {k idx : Nat} (hd : decode M.2.1 pc = .ok (.invokespecial idx, 3)) (hL : Cond.methodLink M.1.cls idx Lib.objectInit ∈ ax_T) (hI : Cond.instanceMethod Lib.objectInit ∈ ax_T) (hC : Cond.code Lib.objectInit ⟨#[0xb1]⟩ 1 none ∈ ax_T) (hf : 1 ≤ R.frames) (hr : (st.map fun v => v.category).sum + 12 ≤ R.locals) (kk : AW M R E Z h kc ks (pc + 3) ls st) : AW M R E Z h kc ks pc ls (.ref k :: st) := by
  intro p l e s m args below meth c g H locs lz X K hb hP hS hl hE
  exact W.objInit X.1 X.2.1 X.2.2.2.1 (X.2.2.2.2.1 _ hL) (X.2.2.2.2.1 _ hI) (X.2.2.2.2.1 _ hC) (g := F0 m pc lz ((Value.ref k :: st).map (ax_v g))) rfl (by rw [X.2.2.1]; exact hl.1) (rest := st.map (ax_v g)) rfl hd hf (by rw [ax_rs]; show 2 * 0 + _ + 12 ≤ _; omega) (kk p l e s m args below meth c g H locs lz X K hb hP hS hl hE)
theorem aw_mmax {idx : Nat} {x y : Int32} (hd : decode M.2.1 pc = .ok (.invokestatic idx, 3)) (hL : Cond.methodLink M.1.cls idx Lib.Math.max.name ∈ ax_T) (hI : Cond.static Lib.Math.max.name ∈ ax_T) (hN : Cond.initialized "java/lang/Math" ∈ ax_T) (hC : Cond.code Lib.Math.max.name Lib.Math.max.code 2 (some .int) ∈ ax_T) (hf : 1 ≤ R.frames) (hr : (st.map fun v => v.category).sum + 13 ≤ R.locals) (hcs : kc ≤ R.cells ∧ ks ≤ R.slots) (kk : AW M R E Z h kc ks (pc + 3) ls (.int (if x < y then y else x) :: st)) : AW M R E Z h kc ks pc ls (.int y :: .int x :: st) := by
  intro p l e s m args below meth c g H locs lz X K hb hP hS hl hE
  exact va_mmax X.1 X.2.1 (X.2.2.1.trans hl.1.symm) X.2.2.2.1 (X.2.2.2.2.1 _ hL) (X.2.2.2.2.1 _ hI) (X.2.2.2.2.1 _ hN) (X.2.2.2.2.1 _ hC) hf (by rw [ax_rs]; exact hr) hcs.1 hcs.2 hd (kk p l e s m args below meth c g H locs lz X K hb hP hS hl hE)
theorem aw_mmin {idx : Nat} {x y : Int32} (hd : decode M.2.1 pc = .ok (.invokestatic idx, 3)) (hL : Cond.methodLink M.1.cls idx Lib.Math.min.name ∈ ax_T) (hI : Cond.static Lib.Math.min.name ∈ ax_T) (hN : Cond.initialized "java/lang/Math" ∈ ax_T) (hC : Cond.code Lib.Math.min.name Lib.Math.min.code 2 (some .int) ∈ ax_T) (hf : 1 ≤ R.frames) (hr : (st.map fun v => v.category).sum + 13 ≤ R.locals) (hcs : kc ≤ R.cells ∧ ks ≤ R.slots) (kk : AW M R E Z h kc ks (pc + 3) ls (.int (if y < x then y else x) :: st)) : AW M R E Z h kc ks pc ls (.int y :: .int x :: st) := by
  intro p l e s m args below meth c g H locs lz X K hb hP hS hl hE
  exact va_mmin X.1 X.2.1 (X.2.2.1.trans hl.1.symm) X.2.2.2.1 (X.2.2.2.2.1 _ hL) (X.2.2.2.2.1 _ hI) (X.2.2.2.2.1 _ hN) (X.2.2.2.2.1 _ hC) hf (by rw [ax_rs]; exact hr) hcs.1 hcs.2 hd (kk p l e s m args below meth c g H locs lz X K hb hP hS hl hE)
theorem aw_lcmp {x y : Int64} (hd : decode M.2.1 pc = .ok (.lcmp, 1)) (kk : AW M R E Z h kc ks (pc + 1) ls (.int (lg_cmp x y) :: st)) : AW M R E Z h kc ks pc ls (.long y :: .long x :: st) := by
  intro p l e s m args below meth c g H locs lz X K hb hP hS hl hE
  exact W.lcmp X.1 X.2.1 hd (kk p l e s m args below meth c g H locs lz X K hb hP hS hl hE)
theorem aw_swIn {dflt lo hi : Int} {offs : Array Int} {len : Nat} {x : Int32} {off : Int} {tgt : Nat} (hd : decode M.2.1 pc = .ok (.tableswitch dflt lo hi offs, len)) (h1 : ¬ x.toInt < lo) (h2 : ¬ hi < x.toInt) (ho : offs[(x.toInt - lo).toNat]? = some off) (ht : (pc : Int) + off = (tgt : Int)) (kk : AW M R E Z h kc ks tgt ls st) : AW M R E Z h kc ks pc ls (.int x :: st) := by
  intro p l e s m args below meth c g H locs lz X K hb hP hS hl hE
  exact lv_tableIn X.1 X.2.1 hd h1 h2 ho ht (kk p l e s m args below meth c g H locs lz X K hb hP hS hl hE)
theorem aw_swOut {dflt lo hi : Int} {offs : Array Int} {len : Nat} {x : Int32} {tgt : Nat} (hd : decode M.2.1 pc = .ok (.tableswitch dflt lo hi offs, len)) (h1 : x.toInt < lo ∨ hi < x.toInt) (ht : (pc : Int) + dflt = (tgt : Int)) (kk : AW M R E Z h kc ks tgt ls st) : AW M R E Z h kc ks pc ls (.int x :: st) := by
  intro p l e s m args below meth c g H locs lz X K hb hP hS hl hE
  exact lv_tableOut X.1 X.2.1 hd h1 ht (kk p l e s m args below meth c g H locs lz X K hb hP hS hl hE)
theorem aw_copy {idx k0 k1 n0 : Nat} {n : Int32} {xs ys : List Int32} {h' : ax_H} (hd : decode M.2.1 pc = .ok (.invokestatic idx, 3)) (hL : Cond.methodLink M.1.cls idx arraycopyName ∈ ax_T) (hI : Cond.static arraycopyName ∈ ax_T) (hX : Cond.native arraycopyName ∈ ax_T) (hN : Cond.initialized "java/lang/System" ∈ ax_T) (hk0 : h[k0]? = some (ia xs)) (hk1 : h[k1]? = some (ia ys)) (hx : xs.length = n0) (hy : ys.length = n0) (hn : n = nI n0) (hm : n0 < 2 ^ 31) (hf : 1 ≤ R.frames) (hr : (st.map fun v => v.category).sum + 18 ≤ R.locals) (hs : h.set k1 (ia xs) = h') (kk : AW M R E Z h' kc ks (pc + 3) ls st) : AW M R E Z h kc ks pc ls (.int n :: .int 0 :: .ref k1 :: .int 0 :: .ref k0 :: st) := by
  intro p l e s m args below meth c g H locs lz X K hb hP hS hl hE
  subst hn; subst hs
  have hcn : (nI n0).toNatClampNeg = n0 := nI_clamp hm
  have hc0 : (0 : Int32).toNatClampNeg = 0 := rfl
  refine va_copyi X.1 X.2.1 (X.2.2.1.trans hl.1.symm) X.2.2.2.1 (X.2.2.2.2.1 _ hL) (X.2.2.2.2.1 _ hX) (X.2.2.2.2.1 _ hI) (X.2.2.2.2.1 _ hN) K.1 hP (ax_D g h) hS k0 k1 0 0 (ax_w_at hk0) (ax_w_at hk1) rfl rfl rfl (sp := 0) (dp := 0) (n := nI n0) (by decide) (by decide) (nI_pos hm) (by show _ + _ ≤ xs.length; rw [hcn, hc0, hx]; omega) (by show _ + _ ≤ ys.length; rw [hcn, hc0, hy]; omega) (fun i _ => rfl) hf (by rw [ax_rs]; exact hr) hd (fun H1 locs1 hP1 _ hS1 => ?_)
  have e1 : (ax_w g h).set k1 (g.1 + k1, .inl (g.2.2.2 0, ys.length, .inl (va_cpy (fun j => xs.getD j 0) (fun j => ys.getD j 0) (0 : Int32).toNatClampNeg (0 : Int32).toNatClampNeg (nI n0).toNatClampNeg))) = ax_w g (h.set k1 (ia xs)) := by
    rw [hcn, hc0, ← ax_w_set]
    show _ = (ax_w g h).set k1 (g.1 + k1, .inl (g.2.2.2 0, xs.length, .inl (fun j => xs.getD j 0)))
    have ef : va_cpy (fun j => xs.getD j 0) (fun j => ys.getD j 0) 0 0 n0 = fun j => xs.getD j 0 := by
      funext j
      by_cases hj : j < n0
      · simp [va_cpy, hj]
      · simp only [va_cpy]
        rw [if_neg (by omega), List.getD_eq_getElem?_getD, List.getD_eq_getElem?_getD, List.getElem?_eq_none (by omega), List.getElem?_eq_none (by omega)]
    rw [hx, hy, ef]
  rw [e1] at hP1
  exact kk p l e s m args below meth c g H1 locs1 lz X K ⟨hb.1, by rw [List.length_set]; exact hb.2⟩ hP1 hS1 hl hE
theorem aw_slen {L : Nat} {xs : Nat → Int32} {u : UInt32} (hd : decode M.2.1 pc = .ok (.arraylength, 1)) (hX : ∀ s g, E s g → va_X g.2.1 L xs s s.heap ∧ g.2.1 < s.heap.size ∧ g.1 = s.heap.size) (kk : AW M R E Z h kc ks (pc + 1) ls (.int (nI L) :: st)) : AW M R E Z h kc ks pc ls (.float u :: st) := by
  intro p l e s m args below meth c g H locs lz X K hb hP hS hl hE
  obtain ⟨h1, h2, h3⟩ := hX s g hE
  exact va_slen X.1 X.2.1 h1 h2 (by show ¬ g.1 ≤ g.2.1; omega) hS hd (kk p l e s m args below meth c g H locs lz X K hb hP hS hl hE)
theorem aw_sld {L : Nat} {xs : Nat → Int32} {u : UInt32} {i : Int32} {j : Nat} (hd : decode M.2.1 pc = .ok (.iaload, 1)) (hX : ∀ s g, E s g → va_X g.2.1 L xs s s.heap ∧ g.2.1 < s.heap.size ∧ g.1 = s.heap.size) (hi : i = nI j) (hj : j < L) (hm : L < 2 ^ 31) (kk : AW M R E Z h kc ks (pc + 1) ls (.int (xs j) :: st)) : AW M R E Z h kc ks pc ls (.int i :: .float u :: st) := by
  intro p l e s m args below meth c g H locs lz X K hb hP hS hl hE
  obtain ⟨h1, h2, h3⟩ := hX s g hE
  subst hi
  refine va_sld X.1 X.2.1 h1 h2 (by show ¬ g.1 ≤ g.2.1; omega) hS (i := nI j) (vp_in_nI hj hm) hd ?_
  rw [nI_clamp (by omega)]
  exact kk p l e s m args below meth c g H locs lz X K hb hP hS hl hE
end HEAP
section ENDS
variable {M : ax_M} {R : Room} {E : ax_Et} {h : ax_H} {mc ms pc : Nat} {ls : List (Nat × Value)} {Q : Option Value → ax_H → Prop}
theorem ax_end {g : ax_G} {H : Heap} {locs : List Loc} {s : State} {args : Array Value} {r : Option Value} (hb : g.1 ≤ s.heap.size ∧ s.heap.size + mc = g.1 + h.length) (hP : va_P g.2.2.1 classes (ax_w g h) H) (hS : va_S (ax_A g) s.heap H locs) (hQ : Q r h) : ∀ t : State, t.heap = H → s.WarmedH t.vm → ax_Q g Q mc args s (.returned (r.map (ax_v g))) t :=
  fun t ht _ => ⟨r, h, rfl, hQ, by rw [ht]; exact hP, hb.2, hS.F ht⟩
theorem aw_iret {v : Int32} (hd : decode M.2.1 pc = .ok (.ireturn, 1)) (hr : M.2.2.2 = some .int) (hQ : Q (some (.int v)) h) : AW M R E (ax_Zm Q mc ms) h mc ms pc ls [.int v] := by
  intro p l e s m args below meth c g H locs lz X K hb hP hS hl hE
  exact W.iret X.1 X.2.1 (X.2.2.2.2.2.1.trans hr) (ax_end hb hP hS hQ) hS.2.2 hd X.2.2.2.2.2.2.1
theorem aw_zret {v : Int32} (hd : decode M.2.1 pc = .ok (.ireturn, 1)) (hr : M.2.2.2 = some .boolean) (hv : ft_ok .boolean (.int v)) (hQ : Q (some (.int v)) h) : AW M R E (ax_Zm Q mc ms) h mc ms pc ls [.int v] := by
  intro p l e s m args below meth c g H locs lz X K hb hP hS hl hE
  exact W.zret X.1 X.2.1 (X.2.2.2.2.2.1.trans hr) (hv g).1 (ax_end hb hP hS hQ) hS.2.2 hd X.2.2.2.2.2.2.1
theorem aw_lret {v : Int64} (hd : decode M.2.1 pc = .ok (.lreturn, 1)) (hr : M.2.2.2 = some .long) (hQ : Q (some (.long v)) h) : AW M R E (ax_Zm Q mc ms) h mc ms pc ls [.long v] := by
  intro p l e s m args below meth c g H locs lz X K hb hP hS hl hE
  exact W.lret X.1 X.2.1 (X.2.2.2.2.2.1.trans hr) (ax_end hb hP hS hQ) hS.2.2 hd X.2.2.2.2.2.2.1
theorem aw_aret {k : Nat} {C : String} (hd : decode M.2.1 pc = .ok (.areturn, 1)) (hr : M.2.2.2 = some (.object C)) (hQ : Q (some (.ref k)) h) : AW M R E (ax_Zm Q mc ms) h mc ms pc ls [.ref k] := by
  intro p l e s m args below meth c g H locs lz X K hb hP hS hl hE
  exact W.aret X.1 X.2.1 (X.2.2.2.2.2.1.trans hr) (Or.inl ⟨C, rfl⟩) (Or.inr ⟨_, rfl⟩) (ax_end hb hP hS hQ) hS.2.2 hd X.2.2.2.2.2.2.1
theorem aw_vret (hd : decode M.2.1 pc = .ok (.return_, 1)) (hr : M.2.2.2 = none) (hQ : Q none h) : AW M R E (ax_Zm Q mc ms) h mc ms pc ls [] := by
  intro p l e s m args below meth c g H locs lz X K hb hP hS hl hE
  exact W.vret X.1 X.2.1 (X.2.2.2.2.2.1.trans hr) (ax_end hb hP hS hQ) hS.2.2 hd X.2.2.2.2.2.2.1
end ENDS
end
