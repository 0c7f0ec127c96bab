section
-- ===== PART A: goes FIRST, ahead of the names: the tables' words, and 'selects' of the private methods out of them =====
/-- a private method of a class that the tables say can be made, by its rows of tables_1 -/
def lw_okq (q : MethodName × Nat) : Prop := (q.1.cls ≠ "java/lang/invoke/MethodHandle" ∧ q.1.cls ≠ "java/lang/invoke/VarHandle") ∧ Cond.instantiable q.1.cls q.2 ∈ tables_1 ∧ Cond.privateMethod q.1 ∈ tables_1 ∧ Cond.instanceMethod q.1 ∈ tables_1
set_option maxRecDepth 20000 in
theorem lw_p0 : lw_okq (⟨"DoorVoice", "setVoice", "(I)I"⟩, 8) := ⟨⟨by decide +kernel, by decide +kernel⟩, List.mem_of_getElem? (i := 11) (by decide +kernel), List.mem_of_getElem? (i := 210) (by decide +kernel), List.mem_of_getElem? (i := 211) (by decide +kernel)⟩
set_option maxRecDepth 20000 in
theorem lw_p1 : lw_okq (⟨"DoorVoice", "setWind", "(I)I"⟩, 8) := ⟨⟨by decide +kernel, by decide +kernel⟩, List.mem_of_getElem? (i := 11) (by decide +kernel), List.mem_of_getElem? (i := 214) (by decide +kernel), List.mem_of_getElem? (i := 215) (by decide +kernel)⟩
set_option maxRecDepth 20000 in
theorem lw_p2 : lw_okq (⟨"DoorVoice", "setPlace", "(I)I"⟩, 8) := ⟨⟨by decide +kernel, by decide +kernel⟩, List.mem_of_getElem? (i := 11) (by decide +kernel), List.mem_of_getElem? (i := 218) (by decide +kernel), List.mem_of_getElem? (i := 219) (by decide +kernel)⟩
set_option maxRecDepth 20000 in
theorem lw_p3 : lw_okq (⟨"DoorVoice$Pad", "playAct", "(LDoorVoice$Street;II)V"⟩, 6) := ⟨⟨by decide +kernel, by decide +kernel⟩, List.mem_of_getElem? (i := 99) (by decide +kernel), List.mem_of_getElem? (i := 272) (by decide +kernel), List.mem_of_getElem? (i := 273) (by decide +kernel)⟩
set_option maxRecDepth 20000 in
theorem lw_p4 : lw_okq (⟨"DoorVoice$Street", "reached", "(II)I"⟩, 16) := ⟨⟨by decide +kernel, by decide +kernel⟩, List.mem_of_getElem? (i := 19) (by decide +kernel), List.mem_of_getElem? (i := 290) (by decide +kernel), List.mem_of_getElem? (i := 291) (by decide +kernel)⟩
set_option maxRecDepth 20000 in
theorem lw_p5 : lw_okq (⟨"DoorVoice$Street", "readOut", "(I)V"⟩, 16) := ⟨⟨by decide +kernel, by decide +kernel⟩, List.mem_of_getElem? (i := 19) (by decide +kernel), List.mem_of_getElem? (i := 299) (by decide +kernel), List.mem_of_getElem? (i := 300) (by decide +kernel)⟩
set_option maxRecDepth 20000 in
theorem lw_p6 : lw_okq (⟨"DoorVoice$Street", "passEvening", "()V"⟩, 16) := ⟨⟨by decide +kernel, by decide +kernel⟩, List.mem_of_getElem? (i := 19) (by decide +kernel), List.mem_of_getElem? (i := 304) (by decide +kernel), List.mem_of_getElem? (i := 305) (by decide +kernel)⟩
set_option maxRecDepth 20000 in
theorem lw_p7 : lw_okq (⟨"DoorVoice$Street", "tellsEastward", "(I)Z"⟩, 16) := ⟨⟨by decide +kernel, by decide +kernel⟩, List.mem_of_getElem? (i := 19) (by decide +kernel), List.mem_of_getElem? (i := 308) (by decide +kernel), List.mem_of_getElem? (i := 309) (by decide +kernel)⟩
set_option maxRecDepth 20000 in
theorem lw_p8 : lw_okq (⟨"DoorVoice$Listener", "placesFor", "(I)I"⟩, 2) := ⟨⟨by decide +kernel, by decide +kernel⟩, List.mem_of_getElem? (i := 129) (by decide +kernel), List.mem_of_getElem? (i := 355) (by decide +kernel), List.mem_of_getElem? (i := 356) (by decide +kernel)⟩
set_option maxRecDepth 20000 in
theorem lw_p9 : lw_okq (⟨"DoorVoice$Listener", "allCanBeRead", "(LDoorVoice$Street;III)Z"⟩, 2) := ⟨⟨by decide +kernel, by decide +kernel⟩, List.mem_of_getElem? (i := 129) (by decide +kernel), List.mem_of_getElem? (i := 389) (by decide +kernel), List.mem_of_getElem? (i := 390) (by decide +kernel)⟩
set_option maxRecDepth 20000 in
theorem lw_p10 : lw_okq (⟨"DoorVoice$Street", "toldOnward", "(I)I"⟩, 16) := ⟨⟨by decide +kernel, by decide +kernel⟩, List.mem_of_getElem? (i := 19) (by decide +kernel), List.mem_of_getElem? (i := 426) (by decide +kernel), List.mem_of_getElem? (i := 427) (by decide +kernel)⟩
set_option maxRecDepth 20000 in
theorem lw_p11 : lw_okq (⟨"DoorVoice$Chances", "putLowest", "(JJ)V"⟩, 5) := ⟨⟨by decide +kernel, by decide +kernel⟩, List.mem_of_getElem? (i := 142) (by decide +kernel), List.mem_of_getElem? (i := 452) (by decide +kernel), List.mem_of_getElem? (i := 453) (by decide +kernel)⟩
set_option maxRecDepth 20000 in
theorem lw_p12 : lw_okq (⟨"DoorVoice$Chances", "countWays", "(I)V"⟩, 5) := ⟨⟨by decide +kernel, by decide +kernel⟩, List.mem_of_getElem? (i := 142) (by decide +kernel), List.mem_of_getElem? (i := 463) (by decide +kernel), List.mem_of_getElem? (i := 464) (by decide +kernel)⟩
set_option maxRecDepth 20000 in
theorem lw_p13 : lw_okq (⟨"DoorVoice", "imageNumbered", "(I)LDoorVoice$Street;"⟩, 8) := ⟨⟨by decide +kernel, by decide +kernel⟩, List.mem_of_getElem? (i := 11) (by decide +kernel), List.mem_of_getElem? (i := 490) (by decide +kernel), List.mem_of_getElem? (i := 491) (by decide +kernel)⟩
set_option maxRecDepth 20000 in
theorem lw_p14 : lw_okq (⟨"DoorVoice", "toldOfAll", "(I)I"⟩, 8) := ⟨⟨by decide +kernel, by decide +kernel⟩, List.mem_of_getElem? (i := 11) (by decide +kernel), List.mem_of_getElem? (i := 502) (by decide +kernel), List.mem_of_getElem? (i := 503) (by decide +kernel)⟩
set_option maxRecDepth 20000 in
theorem lw_p15 : lw_okq (⟨"DoorVoice", "toldOfLetter", "(II)I"⟩, 8) := ⟨⟨by decide +kernel, by decide +kernel⟩, List.mem_of_getElem? (i := 11) (by decide +kernel), List.mem_of_getElem? (i := 506) (by decide +kernel), List.mem_of_getElem? (i := 507) (by decide +kernel)⟩
def lw_privs_1 : List (MethodName × Nat) := [(⟨"DoorVoice", "setVoice", "(I)I"⟩, 8), (⟨"DoorVoice", "setWind", "(I)I"⟩, 8), (⟨"DoorVoice", "setPlace", "(I)I"⟩, 8), (⟨"DoorVoice$Pad", "playAct", "(LDoorVoice$Street;II)V"⟩, 6), (⟨"DoorVoice$Street", "reached", "(II)I"⟩, 16), (⟨"DoorVoice$Street", "readOut", "(I)V"⟩, 16), (⟨"DoorVoice$Street", "passEvening", "()V"⟩, 16), (⟨"DoorVoice$Street", "tellsEastward", "(I)Z"⟩, 16), (⟨"DoorVoice$Listener", "placesFor", "(I)I"⟩, 2), (⟨"DoorVoice$Listener", "allCanBeRead", "(LDoorVoice$Street;III)Z"⟩, 2), (⟨"DoorVoice$Street", "toldOnward", "(I)I"⟩, 16), (⟨"DoorVoice$Chances", "putLowest", "(JJ)V"⟩, 5), (⟨"DoorVoice$Chances", "countWays", "(I)V"⟩, 5), (⟨"DoorVoice", "imageNumbered", "(I)LDoorVoice$Street;"⟩, 8), (⟨"DoorVoice", "toldOfAll", "(I)I"⟩, 8), (⟨"DoorVoice", "toldOfLetter", "(II)I"⟩, 8)]
theorem lw_r1 : ∀ q ∈ lw_privs_1, lw_okq q := List.forall_mem_cons.mpr ⟨lw_p0, List.forall_mem_cons.mpr ⟨lw_p1, List.forall_mem_cons.mpr ⟨lw_p2, List.forall_mem_cons.mpr ⟨lw_p3, List.forall_mem_cons.mpr ⟨lw_p4, List.forall_mem_cons.mpr ⟨lw_p5, List.forall_mem_cons.mpr ⟨lw_p6, List.forall_mem_cons.mpr ⟨lw_p7, List.forall_mem_cons.mpr ⟨lw_p8, List.forall_mem_cons.mpr ⟨lw_p9, List.forall_mem_cons.mpr ⟨lw_p10, List.forall_mem_cons.mpr ⟨lw_p11, List.forall_mem_cons.mpr ⟨lw_p12, List.forall_mem_cons.mpr ⟨lw_p13, List.forall_mem_cons.mpr ⟨lw_p14, List.forall_mem_cons.mpr ⟨lw_p15, fun _ h => absurd h List.not_mem_nil⟩⟩⟩⟩⟩⟩⟩⟩⟩⟩⟩⟩⟩⟩⟩⟩
set_option maxRecDepth 20000 in
theorem lw_p16 : lw_okq (⟨"DoorVoiceModel", "faultOf", "()I"⟩, 20) := ⟨⟨by decide +kernel, by decide +kernel⟩, List.mem_of_getElem? (i := 510) (by decide +kernel), List.mem_of_getElem? (i := 612) (by decide +kernel), List.mem_of_getElem? (i := 613) (by decide +kernel)⟩
set_option maxRecDepth 20000 in
theorem lw_p17 : lw_okq (⟨"DoorVoiceModel", "goDays", "()I"⟩, 20) := ⟨⟨by decide +kernel, by decide +kernel⟩, List.mem_of_getElem? (i := 510) (by decide +kernel), List.mem_of_getElem? (i := 623) (by decide +kernel), List.mem_of_getElem? (i := 624) (by decide +kernel)⟩
set_option maxRecDepth 20000 in
theorem lw_p18 : lw_okq (⟨"DoorVoiceModel", "asNow", "()V"⟩, 20) := ⟨⟨by decide +kernel, by decide +kernel⟩, List.mem_of_getElem? (i := 510) (by decide +kernel), List.mem_of_getElem? (i := 627) (by decide +kernel), List.mem_of_getElem? (i := 628) (by decide +kernel)⟩
set_option maxRecDepth 20000 in
theorem lw_p19 : lw_okq (⟨"DoorVoiceModel", "evening", "()I"⟩, 20) := ⟨⟨by decide +kernel, by decide +kernel⟩, List.mem_of_getElem? (i := 510) (by decide +kernel), List.mem_of_getElem? (i := 631) (by decide +kernel), List.mem_of_getElem? (i := 632) (by decide +kernel)⟩
set_option maxRecDepth 20000 in
theorem lw_p20 : lw_okq (⟨"DoorVoiceModel", "goTo", "(I)I"⟩, 20) := ⟨⟨by decide +kernel, by decide +kernel⟩, List.mem_of_getElem? (i := 510) (by decide +kernel), List.mem_of_getElem? (i := 638) (by decide +kernel), List.mem_of_getElem? (i := 639) (by decide +kernel)⟩
set_option maxRecDepth 20000 in
theorem lw_p21 : lw_okq (⟨"DoorVoiceModel", "read", "(I)I"⟩, 20) := ⟨⟨by decide +kernel, by decide +kernel⟩, List.mem_of_getElem? (i := 510) (by decide +kernel), List.mem_of_getElem? (i := 642) (by decide +kernel), List.mem_of_getElem? (i := 643) (by decide +kernel)⟩
set_option maxRecDepth 20000 in
theorem lw_p22 : lw_okq (⟨"DoorVoiceModel", "doesHear", "(III)Z"⟩, 20) := ⟨⟨by decide +kernel, by decide +kernel⟩, List.mem_of_getElem? (i := 510) (by decide +kernel), List.mem_of_getElem? (i := 646) (by decide +kernel), List.mem_of_getElem? (i := 647) (by decide +kernel)⟩
set_option maxRecDepth 20000 in
theorem lw_p23 : lw_okq (⟨"DoorVoiceModel", "loudAt", "(II)I"⟩, 20) := ⟨⟨by decide +kernel, by decide +kernel⟩, List.mem_of_getElem? (i := 510) (by decide +kernel), List.mem_of_getElem? (i := 650) (by decide +kernel), List.mem_of_getElem? (i := 651) (by decide +kernel)⟩
set_option maxRecDepth 20000 in
theorem lw_p24 : lw_okq (⟨"DoorVoiceModel", "barOfDays", "()I"⟩, 20) := ⟨⟨by decide +kernel, by decide +kernel⟩, List.mem_of_getElem? (i := 510) (by decide +kernel), List.mem_of_getElem? (i := 658) (by decide +kernel), List.mem_of_getElem? (i := 659) (by decide +kernel)⟩
set_option maxRecDepth 20000 in
theorem lw_p25 : lw_okq (⟨"DoorVoiceModel", "hearers", "(II)I"⟩, 20) := ⟨⟨by decide +kernel, by decide +kernel⟩, List.mem_of_getElem? (i := 510) (by decide +kernel), List.mem_of_getElem? (i := 682) (by decide +kernel), List.mem_of_getElem? (i := 683) (by decide +kernel)⟩
set_option maxRecDepth 20000 in
theorem lw_p26 : lw_okq (⟨"DoorVoiceModel", "laySets", "()V"⟩, 20) := ⟨⟨by decide +kernel, by decide +kernel⟩, List.mem_of_getElem? (i := 510) (by decide +kernel), List.mem_of_getElem? (i := 698) (by decide +kernel), List.mem_of_getElem? (i := 699) (by decide +kernel)⟩
set_option maxRecDepth 20000 in
theorem lw_p27 : lw_okq (⟨"DoorVoiceModel", "atSet", "()I"⟩, 20) := ⟨⟨by decide +kernel, by decide +kernel⟩, List.mem_of_getElem? (i := 510) (by decide +kernel), List.mem_of_getElem? (i := 718) (by decide +kernel), List.mem_of_getElem? (i := 719) (by decide +kernel)⟩
set_option maxRecDepth 20000 in
theorem lw_p28 : lw_okq (⟨"DoorVoiceModel", "spread", "(I)I"⟩, 20) := ⟨⟨by decide +kernel, by decide +kernel⟩, List.mem_of_getElem? (i := 510) (by decide +kernel), List.mem_of_getElem? (i := 730) (by decide +kernel), List.mem_of_getElem? (i := 731) (by decide +kernel)⟩
def lw_privs_2 : List (MethodName × Nat) := [(⟨"DoorVoiceModel", "faultOf", "()I"⟩, 20), (⟨"DoorVoiceModel", "goDays", "()I"⟩, 20), (⟨"DoorVoiceModel", "asNow", "()V"⟩, 20), (⟨"DoorVoiceModel", "evening", "()I"⟩, 20), (⟨"DoorVoiceModel", "goTo", "(I)I"⟩, 20), (⟨"DoorVoiceModel", "read", "(I)I"⟩, 20), (⟨"DoorVoiceModel", "doesHear", "(III)Z"⟩, 20), (⟨"DoorVoiceModel", "loudAt", "(II)I"⟩, 20), (⟨"DoorVoiceModel", "barOfDays", "()I"⟩, 20), (⟨"DoorVoiceModel", "hearers", "(II)I"⟩, 20), (⟨"DoorVoiceModel", "laySets", "()V"⟩, 20), (⟨"DoorVoiceModel", "atSet", "()I"⟩, 20), (⟨"DoorVoiceModel", "spread", "(I)I"⟩, 20)]
theorem lw_r2 : ∀ q ∈ lw_privs_2, lw_okq q := List.forall_mem_cons.mpr ⟨lw_p16, List.forall_mem_cons.mpr ⟨lw_p17, List.forall_mem_cons.mpr ⟨lw_p18, List.forall_mem_cons.mpr ⟨lw_p19, List.forall_mem_cons.mpr ⟨lw_p20, List.forall_mem_cons.mpr ⟨lw_p21, List.forall_mem_cons.mpr ⟨lw_p22, List.forall_mem_cons.mpr ⟨lw_p23, List.forall_mem_cons.mpr ⟨lw_p24, List.forall_mem_cons.mpr ⟨lw_p25, List.forall_mem_cons.mpr ⟨lw_p26, List.forall_mem_cons.mpr ⟨lw_p27, List.forall_mem_cons.mpr ⟨lw_p28, fun _ h => absurd h List.not_mem_nil⟩⟩⟩⟩⟩⟩⟩⟩⟩⟩⟩⟩⟩
def lw_privs : List (MethodName × Nat) := lw_privs_1 ++ (lw_privs_2)
def lw_tbl : List Cond := k2_sels lw_privs ++ tables_1
theorem lw_privs_ok : ∀ q ∈ lw_privs, lw_okq q := by
  show ∀ q ∈ lw_privs_1 ++ (lw_privs_2), lw_okq q
  exact List.forall_mem_append.mpr ⟨lw_r1, lw_r2⟩
def tb_0 : u_T := fun k => match k with
  | 0 => ("DoorVoice$Chances", "ways", "[J", true)
  | 1 => ("DoorVoice$Chances", "sure", "I", false)
  | 2 => ("DoorVoice$Chances", "unsure", "I", false)
  | 3 => ("DoorVoice$Chances", "upper", "J", false)
  | _ => ("DoorVoice$Chances", "lower", "J", false)
def ty_0 : Nat → FieldType := fun k => match k with
  | 0 => .array .long
  | 1 => .int
  | 2 => .int
  | 3 => .long
  | _ => .long
def tb_1 : u_T := fun k => match k with
  | 0 => ("DoorVoice$Listener", "hearersAt", "[I", true)
  | _ => ("DoorVoice$Listener", "placesHeardBy", "[I", true)
def ty_1 : Nat → FieldType := fun k => match k with
  | 0 => .array .int
  | _ => .array .int
def tb_2 : u_T := fun k => match k with
  | 0 => ("DoorVoice$Pad", "signs", "[I", true)
  | 1 => ("DoorVoice$Pad", "count", "I", false)
  | 2 => ("DoorVoice$Pad", "acts", "I", false)
  | 3 => ("DoorVoice$Pad", "stop", "I", false)
  | 4 => ("DoorVoice$Pad", "why", "I", false)
  | _ => ("DoorVoice$Pad", "astray", "I", false)
def ty_2 : Nat → FieldType := fun k => match k with
  | 0 => .array .int
  | 1 => .int
  | 2 => .int
  | 3 => .int
  | 4 => .int
  | _ => .int
def tb_3 : u_T := fun k => match k with
  | 0 => ("DoorVoice$Street", "facts", "[I", true)
  | 1 => ("DoorVoice$Street", "walls", "[I", true)
  | 2 => ("DoorVoice$Street", "forWhom", "[I", true)
  | 3 => ("DoorVoice$Street", "plain", "[I", true)
  | 4 => ("DoorVoice$Street", "cipher", "[I", true)
  | 5 => ("DoorVoice$Street", "keys", "[I", true)
  | 6 => ("DoorVoice$Street", "open", "I", false)
  | 7 => ("DoorVoice$Street", "deaf", "I", false)
  | 8 => ("DoorVoice$Street", "read", "I", false)
  | 9 => ("DoorVoice$Street", "voice", "I", false)
  | 10 => ("DoorVoice$Street", "wind", "I", false)
  | 11 => ("DoorVoice$Street", "place", "I", false)
  | 12 => ("DoorVoice$Street", "day", "I", false)
  | 13 => ("DoorVoice$Street", "sights", "I", false)
  | 14 => ("DoorVoice$Street", "heardBy", "I", false)
  | _ => ("DoorVoice$Street", "missedBy", "I", false)
def ty_3 : Nat → FieldType := fun k => match k with
  | 0 => .array .int
  | 1 => .array .int
  | 2 => .array .int
  | 3 => .array .int
  | 4 => .array .int
  | 5 => .array .int
  | 6 => .int
  | 7 => .int
  | 8 => .int
  | 9 => .int
  | 10 => .int
  | 11 => .int
  | 12 => .int
  | 13 => .int
  | 14 => .int
  | _ => .int
def tb_4 : u_T := fun k => match k with
  | 0 => ("DoorVoice", "now", "LDoorVoice$Street;", true)
  | 1 => ("DoorVoice", "firstImage", "LDoorVoice$Street;", true)
  | 2 => ("DoorVoice", "secondImage", "LDoorVoice$Street;", true)
  | 3 => ("DoorVoice", "trial", "LDoorVoice$Street;", true)
  | 4 => ("DoorVoice", "pad", "LDoorVoice$Pad;", true)
  | 5 => ("DoorVoice", "listener", "LDoorVoice$Listener;", true)
  | 6 => ("DoorVoice", "chances", "LDoorVoice$Chances;", true)
  | _ => ("DoorVoice", "keptImages", "I", false)
def ty_4 : Nat → FieldType := fun k => match k with
  | 0 => .object "DoorVoice$Street"
  | 1 => .object "DoorVoice$Street"
  | 2 => .object "DoorVoice$Street"
  | 3 => .object "DoorVoice$Street"
  | 4 => .object "DoorVoice$Pad"
  | 5 => .object "DoorVoice$Listener"
  | 6 => .object "DoorVoice$Chances"
  | _ => .int
def tb_5 : u_T := fun k => match k with
  | 0 => ("DoorVoiceModel", "book", "[I", true)
  | 1 => ("DoorVoiceModel", "now", "[I", true)
  | 2 => ("DoorVoiceModel", "deaf", "I", false)
  | 3 => ("DoorVoiceModel", "wall", "[I", true)
  | 4 => ("DoorVoiceModel", "voice", "I", false)
  | 5 => ("DoorVoiceModel", "wind", "I", false)
  | 6 => ("DoorVoiceModel", "letters", "[I", true)
  | 7 => ("DoorVoiceModel", "sights", "I", false)
  | 8 => ("DoorVoiceModel", "sight", "[I", true)
  | 9 => ("DoorVoiceModel", "signs", "I", false)
  | 10 => ("DoorVoiceModel", "pad", "[I", true)
  | 11 => ("DoorVoiceModel", "knew", "[I", true)
  | 12 => ("DoorVoiceModel", "isAstray", "Z", false)
  | 13 => ("DoorVoiceModel", "reason", "I", false)
  | 14 => ("DoorVoiceModel", "acts", "I", false)
  | 15 => ("DoorVoiceModel", "astray", "I", false)
  | 16 => ("DoorVoiceModel", "sets", "[I", true)
  | 17 => ("DoorVoiceModel", "ways", "[J", true)
  | 18 => ("DoorVoiceModel", "image", "[I", true)
  | _ => ("DoorVoiceModel", "isKept", "[Z", true)
def ty_5 : Nat → FieldType := fun k => match k with
  | 0 => .array .int
  | 1 => .array .int
  | 2 => .int
  | 3 => .array .int
  | 4 => .int
  | 5 => .int
  | 6 => .array .int
  | 7 => .int
  | 8 => .array .int
  | 9 => .int
  | 10 => .array .int
  | 11 => .array .int
  | 12 => .boolean
  | 13 => .int
  | 14 => .int
  | 15 => .int
  | 16 => .array .int
  | 17 => .array .long
  | 18 => .array .int
  | _ => .array .boolean
abbrev classes : List vw_C := [("DoorVoice$Chances", tb_0, 5), ("DoorVoice$Listener", tb_1, 2), ("DoorVoice$Pad", tb_2, 6), ("DoorVoice$Street", tb_3, 16), ("DoorVoice", tb_4, 8), ("DoorVoiceModel", tb_5, 20)]
def ax_T : List Cond := lw_tbl.filter goodWord
theorem ax_in {w : Cond} (i : Nat) (h : lw_tbl[i]? = some w) (hg : goodWord w = true) : w ∈ ax_T := List.mem_filter.mpr ⟨List.mem_of_getElem? h, hg⟩
theorem ax_good {ws : List Cond} (h : ∀ w ∈ ws, w ∈ ax_T) : GoodIn ax_T ws := fun w hw => ⟨h w hw, good_of_word (List.mem_filter.mp (h w hw)).2⟩
theorem nm_0 : ∀ a, a < 5 → ∀ b, b < 5 → a ≠ b → (tb_0 a).2.1 ≠ (tb_0 b).2.1 := by decide +kernel
theorem ty_0_ok : ∀ k, k < 5 → parseFieldDescriptor (tb_0 k).2.2.1 = some (ty_0 k) := by decide +kernel
set_option maxRecDepth 20000 in
theorem in_0 : ∀ w ∈ u_ws "DoorVoice$Chances" tb_0 5, w ∈ ax_T := by
  intro w hw
  obtain ⟨k, hk, rfl⟩ := List.mem_map.mp hw
  have hk := List.mem_range.mp hk
  match k, hk with
  | 0, _ => exact ax_in 183 rfl rfl
  | 1, _ => exact ax_in 185 rfl rfl
  | 2, _ => exact ax_in 187 rfl rfl
  | 3, _ => exact ax_in 189 rfl rfl
  | 4, _ => exact ax_in 191 rfl rfl
  | k + 5, hk => exact absurd hk (by omega)
theorem nm_1 : ∀ a, a < 2 → ∀ b, b < 2 → a ≠ b → (tb_1 a).2.1 ≠ (tb_1 b).2.1 := by decide +kernel
theorem ty_1_ok : ∀ k, k < 2 → parseFieldDescriptor (tb_1 k).2.2.1 = some (ty_1 k) := by decide +kernel
set_option maxRecDepth 20000 in
theorem in_1 : ∀ w ∈ u_ws "DoorVoice$Listener" tb_1 2, w ∈ ax_T := by
  intro w hw
  obtain ⟨k, hk, rfl⟩ := List.mem_map.mp hw
  have hk := List.mem_range.mp hk
  match k, hk with
  | 0, _ => exact ax_in 165 rfl rfl
  | 1, _ => exact ax_in 167 rfl rfl
  | k + 2, hk => exact absurd hk (by omega)
theorem nm_2 : ∀ a, a < 6 → ∀ b, b < 6 → a ≠ b → (tb_2 a).2.1 ≠ (tb_2 b).2.1 := by decide +kernel
theorem ty_2_ok : ∀ k, k < 6 → parseFieldDescriptor (tb_2 k).2.2.1 = some (ty_2 k) := by decide +kernel
set_option maxRecDepth 20000 in
theorem in_2 : ∀ w ∈ u_ws "DoorVoice$Pad" tb_2 6, w ∈ ax_T := by
  intro w hw
  obtain ⟨k, hk, rfl⟩ := List.mem_map.mp hw
  have hk := List.mem_range.mp hk
  match k, hk with
  | 0, _ => exact ax_in 144 rfl rfl
  | 1, _ => exact ax_in 146 rfl rfl
  | 2, _ => exact ax_in 148 rfl rfl
  | 3, _ => exact ax_in 150 rfl rfl
  | 4, _ => exact ax_in 152 rfl rfl
  | 5, _ => exact ax_in 154 rfl rfl
  | k + 6, hk => exact absurd hk (by omega)
theorem nm_3 : ∀ a, a < 16 → ∀ b, b < 16 → a ≠ b → (tb_3 a).2.1 ≠ (tb_3 b).2.1 := by decide +kernel
theorem ty_3_ok : ∀ k, k < 16 → parseFieldDescriptor (tb_3 k).2.2.1 = some (ty_3 k) := by decide +kernel
set_option maxRecDepth 20000 in
theorem in_3 : ∀ w ∈ u_ws "DoorVoice$Street" tb_3 16, w ∈ ax_T := by
  intro w hw
  obtain ⟨k, hk, rfl⟩ := List.mem_map.mp hw
  have hk := List.mem_range.mp hk
  match k, hk with
  | 0, _ => exact ax_in 93 rfl rfl
  | 1, _ => exact ax_in 95 rfl rfl
  | 2, _ => exact ax_in 97 rfl rfl
  | 3, _ => exact ax_in 99 rfl rfl
  | 4, _ => exact ax_in 101 rfl rfl
  | 5, _ => exact ax_in 103 rfl rfl
  | 6, _ => exact ax_in 105 rfl rfl
  | 7, _ => exact ax_in 107 rfl rfl
  | 8, _ => exact ax_in 109 rfl rfl
  | 9, _ => exact ax_in 111 rfl rfl
  | 10, _ => exact ax_in 113 rfl rfl
  | 11, _ => exact ax_in 115 rfl rfl
  | 12, _ => exact ax_in 117 rfl rfl
  | 13, _ => exact ax_in 119 rfl rfl
  | 14, _ => exact ax_in 121 rfl rfl
  | 15, _ => exact ax_in 123 rfl rfl
  | k + 16, hk => exact absurd hk (by omega)
theorem nm_4 : ∀ a, a < 8 → ∀ b, b < 8 → a ≠ b → (tb_4 a).2.1 ≠ (tb_4 b).2.1 := by decide +kernel
theorem ty_4_ok : ∀ k, k < 8 → parseFieldDescriptor (tb_4 k).2.2.1 = some (ty_4 k) := by decide +kernel
set_option maxRecDepth 20000 in
theorem in_4 : ∀ w ∈ u_ws "DoorVoice" tb_4 8, w ∈ ax_T := by
  intro w hw
  obtain ⟨k, hk, rfl⟩ := List.mem_map.mp hw
  have hk := List.mem_range.mp hk
  match k, hk with
  | 0, _ => exact ax_in 203 rfl rfl
  | 1, _ => exact ax_in 205 rfl rfl
  | 2, _ => exact ax_in 207 rfl rfl
  | 3, _ => exact ax_in 209 rfl rfl
  | 4, _ => exact ax_in 211 rfl rfl
  | 5, _ => exact ax_in 213 rfl rfl
  | 6, _ => exact ax_in 215 rfl rfl
  | 7, _ => exact ax_in 217 rfl rfl
  | k + 8, hk => exact absurd hk (by omega)
theorem nm_5 : ∀ a, a < 20 → ∀ b, b < 20 → a ≠ b → (tb_5 a).2.1 ≠ (tb_5 b).2.1 := by decide +kernel
theorem ty_5_ok : ∀ k, k < 20 → parseFieldDescriptor (tb_5 k).2.2.1 = some (ty_5 k) := by decide +kernel
set_option maxRecDepth 20000 in
theorem in_5 : ∀ w ∈ u_ws "DoorVoiceModel" tb_5 20, w ∈ ax_T := by
  intro w hw
  obtain ⟨k, hk, rfl⟩ := List.mem_map.mp hw
  have hk := List.mem_range.mp hk
  match k, hk with
  | 0, _ => exact ax_in 564 rfl rfl
  | 1, _ => exact ax_in 566 rfl rfl
  | 2, _ => exact ax_in 568 rfl rfl
  | 3, _ => exact ax_in 570 rfl rfl
  | 4, _ => exact ax_in 572 rfl rfl
  | 5, _ => exact ax_in 574 rfl rfl
  | 6, _ => exact ax_in 576 rfl rfl
  | 7, _ => exact ax_in 578 rfl rfl
  | 8, _ => exact ax_in 580 rfl rfl
  | 9, _ => exact ax_in 582 rfl rfl
  | 10, _ => exact ax_in 584 rfl rfl
  | 11, _ => exact ax_in 586 rfl rfl
  | 12, _ => exact ax_in 588 rfl rfl
  | 13, _ => exact ax_in 590 rfl rfl
  | 14, _ => exact ax_in 592 rfl rfl
  | 15, _ => exact ax_in 594 rfl rfl
  | 16, _ => exact ax_in 596 rfl rfl
  | 17, _ => exact ax_in 598 rfl rfl
  | 18, _ => exact ax_in 600 rfl rfl
  | 19, _ => exact ax_in 602 rfl rfl
  | k + 20, hk => exact absurd hk (by omega)
def cl_ok (ci : Nat) (C : String) (T : u_T) (N : Nat) (ty : Nat → FieldType) : Prop := classes[ci]? = some (C, T, N) ∧ (∀ w ∈ u_ws C T N, w ∈ ax_T) ∧ (∀ k, k < N → parseFieldDescriptor (T k).2.2.1 = some (ty k)) ∧ (∀ a, a < N → ∀ b, b < N → a ≠ b → (T a).2.1 ≠ (T b).2.1)
theorem cl_0 : cl_ok 0 "DoorVoice$Chances" tb_0 5 ty_0 := ⟨rfl, in_0, ty_0_ok, nm_0⟩
theorem cl_1 : cl_ok 1 "DoorVoice$Listener" tb_1 2 ty_1 := ⟨rfl, in_1, ty_1_ok, nm_1⟩
theorem cl_2 : cl_ok 2 "DoorVoice$Pad" tb_2 6 ty_2 := ⟨rfl, in_2, ty_2_ok, nm_2⟩
theorem cl_3 : cl_ok 3 "DoorVoice$Street" tb_3 16 ty_3 := ⟨rfl, in_3, ty_3_ok, nm_3⟩
theorem cl_4 : cl_ok 4 "DoorVoice" tb_4 8 ty_4 := ⟨rfl, in_4, ty_4_ok, nm_4⟩
theorem cl_5 : cl_ok 5 "DoorVoiceModel" tb_5 20 ty_5 := ⟨rfl, in_5, ty_5_ok, nm_5⟩
/-- a field by its link: class number, field number -/
def fl_ok (own : String) (idx ci j : Nat) : Prop := ∃ (C : String) (T : u_T) (N : Nat) (ty : Nat → FieldType), cl_ok ci C T N ty ∧ j < N ∧ Cond.fieldLink own idx (T j).1 (T j).2.1 (T j).2.2.1 ∈ ax_T
set_option maxRecDepth 20000 in
theorem lf_S_9 : fl_ok "DoorVoice$Street" 9 3 0 := ⟨_, _, _, _, cl_3, by decide, ax_in 53 rfl rfl⟩
set_option maxRecDepth 20000 in
theorem lf_V_54 : fl_ok "DoorVoice" 54 3 0 := ⟨_, _, _, _, cl_3, by decide, ax_in 54 rfl rfl⟩
set_option maxRecDepth 20000 in
theorem lf_S_15 : fl_ok "DoorVoice$Street" 15 3 1 := ⟨_, _, _, _, cl_3, by decide, ax_in 55 rfl rfl⟩
set_option maxRecDepth 20000 in
theorem lf_V_68 : fl_ok "DoorVoice" 68 3 1 := ⟨_, _, _, _, cl_3, by decide, ax_in 56 rfl rfl⟩
set_option maxRecDepth 20000 in
theorem lf_S_18 : fl_ok "DoorVoice$Street" 18 3 2 := ⟨_, _, _, _, cl_3, by decide, ax_in 57 rfl rfl⟩
set_option maxRecDepth 20000 in
theorem lf_L_53 : fl_ok "DoorVoice$Listener" 53 3 2 := ⟨_, _, _, _, cl_3, by decide, ax_in 58 rfl rfl⟩
set_option maxRecDepth 20000 in
theorem lf_V_90 : fl_ok "DoorVoice" 90 3 2 := ⟨_, _, _, _, cl_3, by decide, ax_in 59 rfl rfl⟩
set_option maxRecDepth 20000 in
theorem lf_P_73 : fl_ok "DoorVoice$Pad" 73 3 2 := ⟨_, _, _, _, cl_3, by decide, ax_in 60 rfl rfl⟩
set_option maxRecDepth 20000 in
theorem lf_S_21 : fl_ok "DoorVoice$Street" 21 3 3 := ⟨_, _, _, _, cl_3, by decide, ax_in 61 rfl rfl⟩
set_option maxRecDepth 20000 in
theorem lf_V_93 : fl_ok "DoorVoice" 93 3 3 := ⟨_, _, _, _, cl_3, by decide, ax_in 62 rfl rfl⟩
set_option maxRecDepth 20000 in
theorem lf_S_24 : fl_ok "DoorVoice$Street" 24 3 4 := ⟨_, _, _, _, cl_3, by decide, ax_in 63 rfl rfl⟩
set_option maxRecDepth 20000 in
theorem lf_V_96 : fl_ok "DoorVoice" 96 3 4 := ⟨_, _, _, _, cl_3, by decide, ax_in 64 rfl rfl⟩
set_option maxRecDepth 20000 in
theorem lf_S_27 : fl_ok "DoorVoice$Street" 27 3 5 := ⟨_, _, _, _, cl_3, by decide, ax_in 65 rfl rfl⟩
set_option maxRecDepth 20000 in
theorem lf_V_99 : fl_ok "DoorVoice" 99 3 5 := ⟨_, _, _, _, cl_3, by decide, ax_in 66 rfl rfl⟩
set_option maxRecDepth 20000 in
theorem lf_S_30 : fl_ok "DoorVoice$Street" 30 3 6 := ⟨_, _, _, _, cl_3, by decide, ax_in 67 rfl rfl⟩
set_option maxRecDepth 20000 in
theorem lf_L_18 : fl_ok "DoorVoice$Listener" 18 3 6 := ⟨_, _, _, _, cl_3, by decide, ax_in 68 rfl rfl⟩
set_option maxRecDepth 20000 in
theorem lf_V_58 : fl_ok "DoorVoice" 58 3 6 := ⟨_, _, _, _, cl_3, by decide, ax_in 69 rfl rfl⟩
set_option maxRecDepth 20000 in
theorem lf_P_67 : fl_ok "DoorVoice$Pad" 67 3 6 := ⟨_, _, _, _, cl_3, by decide, ax_in 70 rfl rfl⟩
set_option maxRecDepth 20000 in
theorem lf_S_34 : fl_ok "DoorVoice$Street" 34 3 7 := ⟨_, _, _, _, cl_3, by decide, ax_in 71 rfl rfl⟩
set_option maxRecDepth 20000 in
theorem lf_V_65 : fl_ok "DoorVoice" 65 3 7 := ⟨_, _, _, _, cl_3, by decide, ax_in 72 rfl rfl⟩
set_option maxRecDepth 20000 in
theorem lf_S_37 : fl_ok "DoorVoice$Street" 37 3 8 := ⟨_, _, _, _, cl_3, by decide, ax_in 73 rfl rfl⟩
set_option maxRecDepth 20000 in
theorem lf_V_102 : fl_ok "DoorVoice" 102 3 8 := ⟨_, _, _, _, cl_3, by decide, ax_in 74 rfl rfl⟩
set_option maxRecDepth 20000 in
theorem lf_S_40 : fl_ok "DoorVoice$Street" 40 3 9 := ⟨_, _, _, _, cl_3, by decide, ax_in 75 rfl rfl⟩
set_option maxRecDepth 20000 in
theorem lf_V_81 : fl_ok "DoorVoice" 81 3 9 := ⟨_, _, _, _, cl_3, by decide, ax_in 76 rfl rfl⟩
set_option maxRecDepth 20000 in
theorem lf_S_43 : fl_ok "DoorVoice$Street" 43 3 10 := ⟨_, _, _, _, cl_3, by decide, ax_in 77 rfl rfl⟩
set_option maxRecDepth 20000 in
theorem lf_V_84 : fl_ok "DoorVoice" 84 3 10 := ⟨_, _, _, _, cl_3, by decide, ax_in 78 rfl rfl⟩
set_option maxRecDepth 20000 in
theorem lf_S_46 : fl_ok "DoorVoice$Street" 46 3 11 := ⟨_, _, _, _, cl_3, by decide, ax_in 79 rfl rfl⟩
set_option maxRecDepth 20000 in
theorem lf_L_41 : fl_ok "DoorVoice$Listener" 41 3 11 := ⟨_, _, _, _, cl_3, by decide, ax_in 80 rfl rfl⟩
set_option maxRecDepth 20000 in
theorem lf_V_87 : fl_ok "DoorVoice" 87 3 11 := ⟨_, _, _, _, cl_3, by decide, ax_in 81 rfl rfl⟩
set_option maxRecDepth 20000 in
theorem lf_P_64 : fl_ok "DoorVoice$Pad" 64 3 11 := ⟨_, _, _, _, cl_3, by decide, ax_in 82 rfl rfl⟩
set_option maxRecDepth 20000 in
theorem lf_S_49 : fl_ok "DoorVoice$Street" 49 3 12 := ⟨_, _, _, _, cl_3, by decide, ax_in 83 rfl rfl⟩
set_option maxRecDepth 20000 in
theorem lf_V_136 : fl_ok "DoorVoice" 136 3 12 := ⟨_, _, _, _, cl_3, by decide, ax_in 84 rfl rfl⟩
set_option maxRecDepth 20000 in
theorem lf_S_52 : fl_ok "DoorVoice$Street" 52 3 13 := ⟨_, _, _, _, cl_3, by decide, ax_in 85 rfl rfl⟩
set_option maxRecDepth 20000 in
theorem lf_V_167 : fl_ok "DoorVoice" 167 3 13 := ⟨_, _, _, _, cl_3, by decide, ax_in 86 rfl rfl⟩
set_option maxRecDepth 20000 in
theorem lf_S_55 : fl_ok "DoorVoice$Street" 55 3 14 := ⟨_, _, _, _, cl_3, by decide, ax_in 87 rfl rfl⟩
set_option maxRecDepth 20000 in
theorem lf_L_56 : fl_ok "DoorVoice$Listener" 56 3 14 := ⟨_, _, _, _, cl_3, by decide, ax_in 88 rfl rfl⟩
set_option maxRecDepth 20000 in
theorem lf_V_170 : fl_ok "DoorVoice" 170 3 14 := ⟨_, _, _, _, cl_3, by decide, ax_in 89 rfl rfl⟩
set_option maxRecDepth 20000 in
theorem lf_S_58 : fl_ok "DoorVoice$Street" 58 3 15 := ⟨_, _, _, _, cl_3, by decide, ax_in 90 rfl rfl⟩
set_option maxRecDepth 20000 in
theorem lf_L_59 : fl_ok "DoorVoice$Listener" 59 3 15 := ⟨_, _, _, _, cl_3, by decide, ax_in 91 rfl rfl⟩
set_option maxRecDepth 20000 in
theorem lf_V_173 : fl_ok "DoorVoice" 173 3 15 := ⟨_, _, _, _, cl_3, by decide, ax_in 92 rfl rfl⟩
set_option maxRecDepth 20000 in
theorem lf_P_9 : fl_ok "DoorVoice$Pad" 9 2 0 := ⟨_, _, _, _, cl_2, by decide, ax_in 133 rfl rfl⟩
set_option maxRecDepth 20000 in
theorem lf_P_15 : fl_ok "DoorVoice$Pad" 15 2 1 := ⟨_, _, _, _, cl_2, by decide, ax_in 134 rfl rfl⟩
set_option maxRecDepth 20000 in
theorem lf_V_109 : fl_ok "DoorVoice" 109 2 1 := ⟨_, _, _, _, cl_2, by decide, ax_in 135 rfl rfl⟩
set_option maxRecDepth 20000 in
theorem lf_P_19 : fl_ok "DoorVoice$Pad" 19 2 2 := ⟨_, _, _, _, cl_2, by decide, ax_in 136 rfl rfl⟩
set_option maxRecDepth 20000 in
theorem lf_V_133 : fl_ok "DoorVoice" 133 2 2 := ⟨_, _, _, _, cl_2, by decide, ax_in 137 rfl rfl⟩
set_option maxRecDepth 20000 in
theorem lf_P_22 : fl_ok "DoorVoice$Pad" 22 2 3 := ⟨_, _, _, _, cl_2, by decide, ax_in 138 rfl rfl⟩
set_option maxRecDepth 20000 in
theorem lf_V_123 : fl_ok "DoorVoice" 123 2 3 := ⟨_, _, _, _, cl_2, by decide, ax_in 139 rfl rfl⟩
set_option maxRecDepth 20000 in
theorem lf_P_25 : fl_ok "DoorVoice$Pad" 25 2 4 := ⟨_, _, _, _, cl_2, by decide, ax_in 140 rfl rfl⟩
set_option maxRecDepth 20000 in
theorem lf_V_126 : fl_ok "DoorVoice" 126 2 4 := ⟨_, _, _, _, cl_2, by decide, ax_in 141 rfl rfl⟩
set_option maxRecDepth 20000 in
theorem lf_P_28 : fl_ok "DoorVoice$Pad" 28 2 5 := ⟨_, _, _, _, cl_2, by decide, ax_in 142 rfl rfl⟩
set_option maxRecDepth 20000 in
theorem lf_V_139 : fl_ok "DoorVoice" 139 2 5 := ⟨_, _, _, _, cl_2, by decide, ax_in 143 rfl rfl⟩
set_option maxRecDepth 20000 in
theorem lf_L_9 : fl_ok "DoorVoice$Listener" 9 1 0 := ⟨_, _, _, _, cl_1, by decide, ax_in 163 rfl rfl⟩
set_option maxRecDepth 20000 in
theorem lf_L_15 : fl_ok "DoorVoice$Listener" 15 1 1 := ⟨_, _, _, _, cl_1, by decide, ax_in 164 rfl rfl⟩
set_option maxRecDepth 20000 in
theorem lf_C_9 : fl_ok "DoorVoice$Chances" 9 0 0 := ⟨_, _, _, _, cl_0, by decide, ax_in 176 rfl rfl⟩
set_option maxRecDepth 20000 in
theorem lf_C_15 : fl_ok "DoorVoice$Chances" 15 0 1 := ⟨_, _, _, _, cl_0, by decide, ax_in 177 rfl rfl⟩
set_option maxRecDepth 20000 in
theorem lf_C_19 : fl_ok "DoorVoice$Chances" 19 0 2 := ⟨_, _, _, _, cl_0, by decide, ax_in 178 rfl rfl⟩
set_option maxRecDepth 20000 in
theorem lf_C_22 : fl_ok "DoorVoice$Chances" 22 0 3 := ⟨_, _, _, _, cl_0, by decide, ax_in 179 rfl rfl⟩
set_option maxRecDepth 20000 in
theorem lf_V_210 : fl_ok "DoorVoice" 210 0 3 := ⟨_, _, _, _, cl_0, by decide, ax_in 180 rfl rfl⟩
set_option maxRecDepth 20000 in
theorem lf_C_26 : fl_ok "DoorVoice$Chances" 26 0 4 := ⟨_, _, _, _, cl_0, by decide, ax_in 181 rfl rfl⟩
set_option maxRecDepth 20000 in
theorem lf_V_214 : fl_ok "DoorVoice" 214 0 4 := ⟨_, _, _, _, cl_0, by decide, ax_in 182 rfl rfl⟩
set_option maxRecDepth 20000 in
theorem lf_V_10 : fl_ok "DoorVoice" 10 4 0 := ⟨_, _, _, _, cl_4, by decide, ax_in 195 rfl rfl⟩
set_option maxRecDepth 20000 in
theorem lf_V_16 : fl_ok "DoorVoice" 16 4 1 := ⟨_, _, _, _, cl_4, by decide, ax_in 196 rfl rfl⟩
set_option maxRecDepth 20000 in
theorem lf_V_19 : fl_ok "DoorVoice" 19 4 2 := ⟨_, _, _, _, cl_4, by decide, ax_in 197 rfl rfl⟩
set_option maxRecDepth 20000 in
theorem lf_V_22 : fl_ok "DoorVoice" 22 4 3 := ⟨_, _, _, _, cl_4, by decide, ax_in 198 rfl rfl⟩
set_option maxRecDepth 20000 in
theorem lf_V_28 : fl_ok "DoorVoice" 28 4 4 := ⟨_, _, _, _, cl_4, by decide, ax_in 199 rfl rfl⟩
set_option maxRecDepth 20000 in
theorem lf_V_35 : fl_ok "DoorVoice" 35 4 5 := ⟨_, _, _, _, cl_4, by decide, ax_in 200 rfl rfl⟩
set_option maxRecDepth 20000 in
theorem lf_V_42 : fl_ok "DoorVoice" 42 4 6 := ⟨_, _, _, _, cl_4, by decide, ax_in 201 rfl rfl⟩
set_option maxRecDepth 20000 in
theorem lf_V_46 : fl_ok "DoorVoice" 46 4 7 := ⟨_, _, _, _, cl_4, by decide, ax_in 202 rfl rfl⟩
set_option maxRecDepth 20000 in
theorem lf_M_7 : fl_ok "DoorVoiceModel" 7 5 0 := ⟨_, _, _, _, cl_5, by decide, ax_in 544 rfl rfl⟩
set_option maxRecDepth 20000 in
theorem lf_M_13 : fl_ok "DoorVoiceModel" 13 5 1 := ⟨_, _, _, _, cl_5, by decide, ax_in 545 rfl rfl⟩
set_option maxRecDepth 20000 in
theorem lf_M_49 : fl_ok "DoorVoiceModel" 49 5 2 := ⟨_, _, _, _, cl_5, by decide, ax_in 546 rfl rfl⟩
set_option maxRecDepth 20000 in
theorem lf_M_16 : fl_ok "DoorVoiceModel" 16 5 3 := ⟨_, _, _, _, cl_5, by decide, ax_in 547 rfl rfl⟩
set_option maxRecDepth 20000 in
theorem lf_M_19 : fl_ok "DoorVoiceModel" 19 5 4 := ⟨_, _, _, _, cl_5, by decide, ax_in 548 rfl rfl⟩
set_option maxRecDepth 20000 in
theorem lf_M_60 : fl_ok "DoorVoiceModel" 60 5 5 := ⟨_, _, _, _, cl_5, by decide, ax_in 549 rfl rfl⟩
set_option maxRecDepth 20000 in
theorem lf_M_23 : fl_ok "DoorVoiceModel" 23 5 6 := ⟨_, _, _, _, cl_5, by decide, ax_in 550 rfl rfl⟩
set_option maxRecDepth 20000 in
theorem lf_M_126 : fl_ok "DoorVoiceModel" 126 5 7 := ⟨_, _, _, _, cl_5, by decide, ax_in 551 rfl rfl⟩
set_option maxRecDepth 20000 in
theorem lf_M_26 : fl_ok "DoorVoiceModel" 26 5 8 := ⟨_, _, _, _, cl_5, by decide, ax_in 552 rfl rfl⟩
set_option maxRecDepth 20000 in
theorem lf_M_63 : fl_ok "DoorVoiceModel" 63 5 9 := ⟨_, _, _, _, cl_5, by decide, ax_in 553 rfl rfl⟩
set_option maxRecDepth 20000 in
theorem lf_M_29 : fl_ok "DoorVoiceModel" 29 5 10 := ⟨_, _, _, _, cl_5, by decide, ax_in 554 rfl rfl⟩
set_option maxRecDepth 20000 in
theorem lf_M_32 : fl_ok "DoorVoiceModel" 32 5 11 := ⟨_, _, _, _, cl_5, by decide, ax_in 555 rfl rfl⟩
set_option maxRecDepth 20000 in
theorem lf_M_84 : fl_ok "DoorVoiceModel" 84 5 12 := ⟨_, _, _, _, cl_5, by decide, ax_in 556 rfl rfl⟩
set_option maxRecDepth 20000 in
theorem lf_M_97 : fl_ok "DoorVoiceModel" 97 5 13 := ⟨_, _, _, _, cl_5, by decide, ax_in 557 rfl rfl⟩
set_option maxRecDepth 20000 in
theorem lf_M_91 : fl_ok "DoorVoiceModel" 91 5 14 := ⟨_, _, _, _, cl_5, by decide, ax_in 558 rfl rfl⟩
set_option maxRecDepth 20000 in
theorem lf_M_94 : fl_ok "DoorVoiceModel" 94 5 15 := ⟨_, _, _, _, cl_5, by decide, ax_in 559 rfl rfl⟩
set_option maxRecDepth 20000 in
theorem lf_M_35 : fl_ok "DoorVoiceModel" 35 5 16 := ⟨_, _, _, _, cl_5, by decide, ax_in 560 rfl rfl⟩
set_option maxRecDepth 20000 in
theorem lf_M_38 : fl_ok "DoorVoiceModel" 38 5 17 := ⟨_, _, _, _, cl_5, by decide, ax_in 561 rfl rfl⟩
set_option maxRecDepth 20000 in
theorem lf_M_42 : fl_ok "DoorVoiceModel" 42 5 18 := ⟨_, _, _, _, cl_5, by decide, ax_in 562 rfl rfl⟩
set_option maxRecDepth 20000 in
theorem lf_M_45 : fl_ok "DoorVoiceModel" 45 5 19 := ⟨_, _, _, _, cl_5, by decide, ax_in 563 rfl rfl⟩
abbrev m_V_init : MethodName × ByteArray × Nat × Option FieldType := (⟨"DoorVoice", "<init>", "()V"⟩, prog_1_method_1_code, 1, none)
abbrev m_V_house : MethodName × ByteArray × Nat × Option FieldType := (⟨"DoorVoice", "house", "(IZZI)I"⟩, prog_1_method_2_code, 6, (some .int))
abbrev m_V_wall : MethodName × ByteArray × Nat × Option FieldType := (⟨"DoorVoice", "wall", "(II)I"⟩, prog_1_method_3_code, 4, (some .int))
abbrev m_V_set : MethodName × ByteArray × Nat × Option FieldType := (⟨"DoorVoice", "set", "(II)I"⟩, prog_1_method_4_code, 3, (some .int))
abbrev m_V_setVoice : MethodName × ByteArray × Nat × Option FieldType := (⟨"DoorVoice", "setVoice", "(I)I"⟩, prog_1_method_5_code, 3, (some .int))
abbrev m_V_setWind : MethodName × ByteArray × Nat × Option FieldType := (⟨"DoorVoice", "setWind", "(I)I"⟩, prog_1_method_6_code, 3, (some .int))
abbrev m_V_setPlace : MethodName × ByteArray × Nat × Option FieldType := (⟨"DoorVoice", "setPlace", "(I)I"⟩, prog_1_method_7_code, 3, (some .int))
abbrev m_V_letter : MethodName × ByteArray × Nat × Option FieldType := (⟨"DoorVoice", "letter", "(IIIII)I"⟩, prog_1_method_8_code, 7, (some .int))
abbrev m_V_say : MethodName × ByteArray × Nat × Option FieldType := (⟨"DoorVoice", "say", "(I)I"⟩, prog_1_method_9_code, 2, (some .int))
abbrev m_V_wipe : MethodName × ByteArray × Nat × Option FieldType := (⟨"DoorVoice", "wipe", "()I"⟩, prog_1_method_10_code, 1, (some .int))
abbrev m_V_fault : MethodName × ByteArray × Nat × Option FieldType := (⟨"DoorVoice", "fault", "()I"⟩, prog_1_method_11_code, 1, (some .int))
abbrev m_V_judge : MethodName × ByteArray × Nat × Option FieldType := (⟨"DoorVoice", "judge", "(I)I"⟩, prog_1_method_12_code, 2, (some .int))
abbrev m_V_done : MethodName × ByteArray × Nat × Option FieldType := (⟨"DoorVoice", "done", "()I"⟩, prog_1_method_13_code, 1, (some .int))
abbrev m_V_knows : MethodName × ByteArray × Nat × Option FieldType := (⟨"DoorVoice", "knows", "(I)I"⟩, prog_1_method_14_code, 2, (some .int))
abbrev m_V_behind : MethodName × ByteArray × Nat × Option FieldType := (⟨"DoorVoice", "behind", "(I)I"⟩, prog_1_method_15_code, 2, (some .int))
abbrev m_V_who : MethodName × ByteArray × Nat × Option FieldType := (⟨"DoorVoice", "who", "(I)I"⟩, prog_1_method_16_code, 4, (some .int))
abbrev m_V_loud : MethodName × ByteArray × Nat × Option FieldType := (⟨"DoorVoice", "loud", "(II)I"⟩, prog_1_method_17_code, 3, (some .int))
abbrev m_V_hears : MethodName × ByteArray × Nat × Option FieldType := (⟨"DoorVoice", "hears", "(I)I"⟩, prog_1_method_18_code, 2, (some .int))
abbrev m_V_best : MethodName × ByteArray × Nat × Option FieldType := (⟨"DoorVoice", "best", "(II)I"⟩, prog_1_method_19_code, 3, (some .int))
abbrev m_V_thirds : MethodName × ByteArray × Nat × Option FieldType := (⟨"DoorVoice", "thirds", "(II)I"⟩, prog_1_method_20_code, 3, (some .int))
abbrev m_V_round : MethodName × ByteArray × Nat × Option FieldType := (⟨"DoorVoice", "round", "(II)I"⟩, prog_1_method_21_code, 3, (some .int))
abbrev m_V_seen : MethodName × ByteArray × Nat × Option FieldType := (⟨"DoorVoice", "seen", "(IZ)I"⟩, prog_1_method_22_code, 3, (some .int))
abbrev m_V_forget : MethodName × ByteArray × Nat × Option FieldType := (⟨"DoorVoice", "forget", "()I"⟩, prog_1_method_23_code, 2, (some .int))
abbrev m_V_at : MethodName × ByteArray × Nat × Option FieldType := (⟨"DoorVoice", "at", "()I"⟩, prog_1_method_24_code, 1, (some .int))
abbrev m_V_ask : MethodName × ByteArray × Nat × Option FieldType := (⟨"DoorVoice", "ask", "(I)I"⟩, prog_1_method_25_code, 3, (some .int))
abbrev m_V_rumour : MethodName × ByteArray × Nat × Option FieldType := (⟨"DoorVoice", "rumour", "(II)I"⟩, prog_1_method_26_code, 3, (some .int))
abbrev m_V_chance : MethodName × ByteArray × Nat × Option FieldType := (⟨"DoorVoice", "chance", "(IIII)J"⟩, prog_1_method_27_code, 5, (some .long))
abbrev m_V_year : MethodName × ByteArray × Nat × Option FieldType := (⟨"DoorVoice", "year", "(III)I"⟩, prog_1_method_28_code, 4, (some .int))
abbrev m_V_image : MethodName × ByteArray × Nat × Option FieldType := (⟨"DoorVoice", "image", "(I)I"⟩, prog_1_method_29_code, 2, (some .int))
abbrev m_V_restore : MethodName × ByteArray × Nat × Option FieldType := (⟨"DoorVoice", "restore", "(I)I"⟩, prog_1_method_30_code, 2, (some .int))
abbrev m_V_imageNumbered : MethodName × ByteArray × Nat × Option FieldType := (⟨"DoorVoice", "imageNumbered", "(I)LDoorVoice$Street;"⟩, prog_1_method_31_code, 2, (some (.object "DoorVoice$Street")))
abbrev m_V_told : MethodName × ByteArray × Nat × Option FieldType := (⟨"DoorVoice", "told", "(I)I"⟩, prog_1_method_32_code, 2, (some .int))
abbrev m_V_toldOfAll : MethodName × ByteArray × Nat × Option FieldType := (⟨"DoorVoice", "toldOfAll", "(I)I"⟩, prog_1_method_33_code, 2, (some .int))
abbrev m_V_toldOfLetter : MethodName × ByteArray × Nat × Option FieldType := (⟨"DoorVoice", "toldOfLetter", "(II)I"⟩, prog_1_method_34_code, 3, (some .int))
abbrev m_V_within : MethodName × ByteArray × Nat × Option FieldType := (⟨"DoorVoice", "within", "(III)Z"⟩, prog_1_method_35_code, 3, (some .boolean))
abbrev m_V_hasBit : MethodName × ByteArray × Nat × Option FieldType := (⟨"DoorVoice", "hasBit", "(II)Z"⟩, prog_1_method_36_code, 2, (some .boolean))
abbrev m_V_withBit : MethodName × ByteArray × Nat × Option FieldType := (⟨"DoorVoice", "withBit", "(IIZ)I"⟩, prog_1_method_37_code, 3, (some .int))
abbrev m_M_init : MethodName × ByteArray × Nat × Option FieldType := (⟨"DoorVoiceModel", "<init>", "()V"⟩, prog_7_method_1_code, 1, none)
abbrev m_M_in : MethodName × ByteArray × Nat × Option FieldType := (⟨"DoorVoiceModel", "in", "(III)Z"⟩, prog_7_method_2_code, 3, (some .boolean))
abbrev m_M_has : MethodName × ByteArray × Nat × Option FieldType := (⟨"DoorVoiceModel", "has", "(II)Z"⟩, prog_7_method_3_code, 2, (some .boolean))
abbrev m_M_bits : MethodName × ByteArray × Nat × Option FieldType := (⟨"DoorVoiceModel", "bits", "(I)I"⟩, prog_7_method_4_code, 3, (some .int))
abbrev m_M_isHouse : MethodName × ByteArray × Nat × Option FieldType := (⟨"DoorVoiceModel", "isHouse", "(I)Z"⟩, prog_7_method_5_code, 1, (some .boolean))
abbrev m_M_house : MethodName × ByteArray × Nat × Option FieldType := (⟨"DoorVoiceModel", "house", "(IZZI)I"⟩, prog_7_method_6_code, 6, (some .int))
abbrev m_M_wall : MethodName × ByteArray × Nat × Option FieldType := (⟨"DoorVoiceModel", "wall", "(II)I"⟩, prog_7_method_7_code, 4, (some .int))
abbrev m_M_set : MethodName × ByteArray × Nat × Option FieldType := (⟨"DoorVoiceModel", "set", "(II)I"⟩, prog_7_method_8_code, 4, (some .int))
abbrev m_M_letter : MethodName × ByteArray × Nat × Option FieldType := (⟨"DoorVoiceModel", "letter", "(IIIII)I"⟩, prog_7_method_9_code, 7, (some .int))
abbrev m_M_say : MethodName × ByteArray × Nat × Option FieldType := (⟨"DoorVoiceModel", "say", "(I)I"⟩, prog_7_method_10_code, 2, (some .int))
abbrev m_M_wipe : MethodName × ByteArray × Nat × Option FieldType := (⟨"DoorVoiceModel", "wipe", "()I"⟩, prog_7_method_11_code, 2, (some .int))
abbrev m_M_isLetter : MethodName × ByteArray × Nat × Option FieldType := (⟨"DoorVoiceModel", "isLetter", "(I)Z"⟩, prog_7_method_12_code, 1, (some .boolean))
abbrev m_M_faultOf : MethodName × ByteArray × Nat × Option FieldType := (⟨"DoorVoiceModel", "faultOf", "()I"⟩, prog_7_method_13_code, 4, (some .int))
abbrev m_M_fault : MethodName × ByteArray × Nat × Option FieldType := (⟨"DoorVoiceModel", "fault", "()I"⟩, prog_7_method_14_code, 1, (some .int))
abbrev m_M_loudAt : MethodName × ByteArray × Nat × Option FieldType := (⟨"DoorVoiceModel", "loudAt", "(II)I"⟩, prog_7_method_15_code, 6, (some .int))
abbrev m_M_doesHear : MethodName × ByteArray × Nat × Option FieldType := (⟨"DoorVoiceModel", "doesHear", "(III)Z"⟩, prog_7_method_16_code, 5, (some .boolean))
abbrev m_M_hearers : MethodName × ByteArray × Nat × Option FieldType := (⟨"DoorVoiceModel", "hearers", "(II)I"⟩, prog_7_method_17_code, 5, (some .int))
abbrev m_M_asNow : MethodName × ByteArray × Nat × Option FieldType := (⟨"DoorVoiceModel", "asNow", "()V"⟩, prog_7_method_18_code, 2, none)
abbrev m_M_goTo : MethodName × ByteArray × Nat × Option FieldType := (⟨"DoorVoiceModel", "goTo", "(I)I"⟩, prog_7_method_19_code, 2, (some .int))
abbrev m_M_read : MethodName × ByteArray × Nat × Option FieldType := (⟨"DoorVoiceModel", "read", "(I)I"⟩, prog_7_method_20_code, 3, (some .int))
abbrev m_M_evening : MethodName × ByteArray × Nat × Option FieldType := (⟨"DoorVoiceModel", "evening", "()I"⟩, prog_7_method_21_code, 2, (some .int))
abbrev m_M_goDays : MethodName × ByteArray × Nat × Option FieldType := (⟨"DoorVoiceModel", "goDays", "()I"⟩, prog_7_method_22_code, 3, (some .int))
abbrev m_M_judge : MethodName × ByteArray × Nat × Option FieldType := (⟨"DoorVoiceModel", "judge", "(I)I"⟩, prog_7_method_23_code, 3, (some .int))
abbrev m_M_barOfDays : MethodName × ByteArray × Nat × Option FieldType := (⟨"DoorVoiceModel", "barOfDays", "()I"⟩, prog_7_method_24_code, 1, (some .int))
abbrev m_M_done : MethodName × ByteArray × Nat × Option FieldType := (⟨"DoorVoiceModel", "done", "()I"⟩, prog_7_method_25_code, 2, (some .int))
abbrev m_M_knows : MethodName × ByteArray × Nat × Option FieldType := (⟨"DoorVoiceModel", "knows", "(I)I"⟩, prog_7_method_26_code, 2, (some .int))
abbrev m_M_behind : MethodName × ByteArray × Nat × Option FieldType := (⟨"DoorVoiceModel", "behind", "(I)I"⟩, prog_7_method_27_code, 2, (some .int))
abbrev m_M_who : MethodName × ByteArray × Nat × Option FieldType := (⟨"DoorVoiceModel", "who", "(I)I"⟩, prog_7_method_28_code, 4, (some .int))
abbrev m_M_loud : MethodName × ByteArray × Nat × Option FieldType := (⟨"DoorVoiceModel", "loud", "(II)I"⟩, prog_7_method_29_code, 3, (some .int))
abbrev m_M_hears : MethodName × ByteArray × Nat × Option FieldType := (⟨"DoorVoiceModel", "hears", "(I)I"⟩, prog_7_method_30_code, 2, (some .int))
abbrev m_M_best : MethodName × ByteArray × Nat × Option FieldType := (⟨"DoorVoiceModel", "best", "(II)I"⟩, prog_7_method_31_code, 9, (some .int))
abbrev m_M_laySets : MethodName × ByteArray × Nat × Option FieldType := (⟨"DoorVoiceModel", "laySets", "()V"⟩, prog_7_method_32_code, 2, none)
abbrev m_M_thirds : MethodName × ByteArray × Nat × Option FieldType := (⟨"DoorVoiceModel", "thirds", "(II)I"⟩, prog_7_method_33_code, 8, (some .int))
abbrev m_M_round : MethodName × ByteArray × Nat × Option FieldType := (⟨"DoorVoiceModel", "round", "(II)I"⟩, prog_7_method_34_code, 12, (some .int))
abbrev m_M_seen : MethodName × ByteArray × Nat × Option FieldType := (⟨"DoorVoiceModel", "seen", "(IZ)I"⟩, prog_7_method_35_code, 3, (some .int))
abbrev m_M_forget : MethodName × ByteArray × Nat × Option FieldType := (⟨"DoorVoiceModel", "forget", "()I"⟩, prog_7_method_36_code, 2, (some .int))
abbrev m_M_atSet : MethodName × ByteArray × Nat × Option FieldType := (⟨"DoorVoiceModel", "atSet", "()I"⟩, prog_7_method_37_code, 5, (some .int))
abbrev m_M_at : MethodName × ByteArray × Nat × Option FieldType := (⟨"DoorVoiceModel", "at", "()I"⟩, prog_7_method_38_code, 1, (some .int))
abbrev m_M_ask : MethodName × ByteArray × Nat × Option FieldType := (⟨"DoorVoiceModel", "ask", "(I)I"⟩, prog_7_method_39_code, 8, (some .int))
abbrev m_M_spread : MethodName × ByteArray × Nat × Option FieldType := (⟨"DoorVoiceModel", "spread", "(I)I"⟩, prog_7_method_40_code, 4, (some .int))
abbrev m_M_rumour : MethodName × ByteArray × Nat × Option FieldType := (⟨"DoorVoiceModel", "rumour", "(II)I"⟩, prog_7_method_41_code, 5, (some .int))
abbrev m_M_chance : MethodName × ByteArray × Nat × Option FieldType := (⟨"DoorVoiceModel", "chance", "(IIII)J"⟩, prog_7_method_42_code, 17, (some .long))
abbrev m_M_year : MethodName × ByteArray × Nat × Option FieldType := (⟨"DoorVoiceModel", "year", "(III)I"⟩, prog_7_method_43_code, 7, (some .int))
abbrev m_M_image : MethodName × ByteArray × Nat × Option FieldType := (⟨"DoorVoiceModel", "image", "(I)I"⟩, prog_7_method_44_code, 4, (some .int))
abbrev m_M_restore : MethodName × ByteArray × Nat × Option FieldType := (⟨"DoorVoiceModel", "restore", "(I)I"⟩, prog_7_method_45_code, 4, (some .int))
abbrev m_M_told : MethodName × ByteArray × Nat × Option FieldType := (⟨"DoorVoiceModel", "told", "(I)I"⟩, prog_7_method_46_code, 2, (some .int))
abbrev m_C_init : MethodName × ByteArray × Nat × Option FieldType := (⟨"DoorVoice$Chances", "<init>", "()V"⟩, prog_2_method_1_code, 1, none)
abbrev m_C_weigh : MethodName × ByteArray × Nat × Option FieldType := (⟨"DoorVoice$Chances", "weigh", "(LDoorVoice$Street;I)V"⟩, prog_2_method_2_code, 6, none)
abbrev m_C_findMean : MethodName × ByteArray × Nat × Option FieldType := (⟨"DoorVoice$Chances", "findMean", "(I)V"⟩, prog_2_method_3_code, 2, none)
abbrev m_C_findAtMost : MethodName × ByteArray × Nat × Option FieldType := (⟨"DoorVoice$Chances", "findAtMost", "(II)V"⟩, prog_2_method_4_code, 8, none)
abbrev m_C_countWays : MethodName × ByteArray × Nat × Option FieldType := (⟨"DoorVoice$Chances", "countWays", "(I)V"⟩, prog_2_method_5_code, 4, none)
abbrev m_C_putLowest : MethodName × ByteArray × Nat × Option FieldType := (⟨"DoorVoice$Chances", "putLowest", "(JJ)V"⟩, prog_2_method_6_code, 7, none)
abbrev m_C_greatestDivisor : MethodName × ByteArray × Nat × Option FieldType := (⟨"DoorVoice$Chances", "greatestDivisor", "(JJ)J"⟩, prog_2_method_7_code, 11, (some .long))
abbrev m_L_init : MethodName × ByteArray × Nat × Option FieldType := (⟨"DoorVoice$Listener", "<init>", "()V"⟩, prog_3_method_1_code, 1, none)
abbrev m_L_listen : MethodName × ByteArray × Nat × Option FieldType := (⟨"DoorVoice$Listener", "listen", "(LDoorVoice$Street;)V"⟩, prog_3_method_2_code, 3, none)
abbrev m_L_placesFor : MethodName × ByteArray × Nat × Option FieldType := (⟨"DoorVoice$Listener", "placesFor", "(I)I"⟩, prog_3_method_3_code, 4, (some .int))
abbrev m_L_bestFor : MethodName × ByteArray × Nat × Option FieldType := (⟨"DoorVoice$Listener", "bestFor", "(IZ)I"⟩, prog_3_method_4_code, 7, (some .int))
abbrev m_L_thirdsFor : MethodName × ByteArray × Nat × Option FieldType := (⟨"DoorVoice$Listener", "thirdsFor", "(IZ)I"⟩, prog_3_method_5_code, 8, (some .int))
abbrev m_L_leastWalk : MethodName × ByteArray × Nat × Option FieldType := (⟨"DoorVoice$Listener", "leastWalk", "(LDoorVoice$Street;IZ)I"⟩, prog_3_method_6_code, 11, (some .int))
abbrev m_L_allCanBeRead : MethodName × ByteArray × Nat × Option FieldType := (⟨"DoorVoice$Listener", "allCanBeRead", "(LDoorVoice$Street;III)Z"⟩, prog_3_method_7_code, 7, (some .boolean))
abbrev m_L_placesThatFit : MethodName × ByteArray × Nat × Option FieldType := (⟨"DoorVoice$Listener", "placesThatFit", "(LDoorVoice$Street;)I"⟩, prog_3_method_8_code, 6, (some .int))
abbrev m_L_bestToAsk : MethodName × ByteArray × Nat × Option FieldType := (⟨"DoorVoice$Listener", "bestToAsk", "(IZ)I"⟩, prog_3_method_9_code, 9, (some .int))
abbrev m_P_init : MethodName × ByteArray × Nat × Option FieldType := (⟨"DoorVoice$Pad", "<init>", "()V"⟩, prog_4_method_1_code, 1, none)
abbrev m_P_write : MethodName × ByteArray × Nat × Option FieldType := (⟨"DoorVoice$Pad", "write", "(I)Z"⟩, prog_4_method_2_code, 2, (some .boolean))
abbrev m_P_clean : MethodName × ByteArray × Nat × Option FieldType := (⟨"DoorVoice$Pad", "clean", "()I"⟩, prog_4_method_3_code, 2, (some .int))
abbrev m_P_faultPlace : MethodName × ByteArray × Nat × Option FieldType := (⟨"DoorVoice$Pad", "faultPlace", "()I"⟩, prog_4_method_4_code, 4, (some .int))
abbrev m_P_kindOf : MethodName × ByteArray × Nat × Option FieldType := (⟨"DoorVoice$Pad", "kindOf", "(I)I"⟩, prog_4_method_5_code, 1, (some .int))
abbrev m_P_numberOf : MethodName × ByteArray × Nat × Option FieldType := (⟨"DoorVoice$Pad", "numberOf", "(I)I"⟩, prog_4_method_6_code, 2, (some .int))
abbrev m_P_playsToTheEnd : MethodName × ByteArray × Nat × Option FieldType := (⟨"DoorVoice$Pad", "playsToTheEnd", "(LDoorVoice$Street;LDoorVoice$Street;)Z"⟩, prog_4_method_7_code, 5, (some .boolean))
abbrev m_P_playAct : MethodName × ByteArray × Nat × Option FieldType := (⟨"DoorVoice$Pad", "playAct", "(LDoorVoice$Street;II)V"⟩, prog_4_method_8_code, 5, none)
abbrev m_P_goesAstray : MethodName × ByteArray × Nat × Option FieldType := (⟨"DoorVoice$Pad", "goesAstray", "(LDoorVoice$Street;I)Z"⟩, prog_4_method_9_code, 2, (some .boolean))
abbrev m_S_init : MethodName × ByteArray × Nat × Option FieldType := (⟨"DoorVoice$Street", "<init>", "()V"⟩, prog_5_method_1_code, 1, none)
abbrev m_S_takeFrom : MethodName × ByteArray × Nat × Option FieldType := (⟨"DoorVoice$Street", "takeFrom", "(LDoorVoice$Street;)V"⟩, prog_5_method_2_code, 2, none)
abbrev m_S_loudness : MethodName × ByteArray × Nat × Option FieldType := (⟨"DoorVoice$Street", "loudness", "(II)I"⟩, prog_5_method_3_code, 6, (some .int))
abbrev m_S_reached : MethodName × ByteArray × Nat × Option FieldType := (⟨"DoorVoice$Street", "reached", "(II)I"⟩, prog_5_method_4_code, 7, (some .int))
abbrev m_S_hearers : MethodName × ByteArray × Nat × Option FieldType := (⟨"DoorVoice$Street", "hearers", "(II)I"⟩, prog_5_method_5_code, 5, (some .int))
abbrev m_S_whyNot : MethodName × ByteArray × Nat × Option FieldType := (⟨"DoorVoice$Street", "whyNot", "(II)I"⟩, prog_5_method_6_code, 3, (some .int))
abbrev m_S_carryOut : MethodName × ByteArray × Nat × Option FieldType := (⟨"DoorVoice$Street", "carryOut", "(II)V"⟩, prog_5_method_7_code, 3, none)
abbrev m_S_readOut : MethodName × ByteArray × Nat × Option FieldType := (⟨"DoorVoice$Street", "readOut", "(I)V"⟩, prog_5_method_8_code, 4, none)
abbrev m_S_passEvening : MethodName × ByteArray × Nat × Option FieldType := (⟨"DoorVoice$Street", "passEvening", "()V"⟩, prog_5_method_9_code, 4, none)
abbrev m_S_tellsEastward : MethodName × ByteArray × Nat × Option FieldType := (⟨"DoorVoice$Street", "tellsEastward", "(I)Z"⟩, prog_5_method_10_code, 2, (some .boolean))
abbrev m_S_knowersOfRumour : MethodName × ByteArray × Nat × Option FieldType := (⟨"DoorVoice$Street", "knowersOfRumour", "(II)I"⟩, prog_5_method_11_code, 5, (some .int))
abbrev m_S_eveningsOfRumour : MethodName × ByteArray × Nat × Option FieldType := (⟨"DoorVoice$Street", "eveningsOfRumour", "(I)I"⟩, prog_5_method_12_code, 5, (some .int))
abbrev m_S_toldOnward : MethodName × ByteArray × Nat × Option FieldType := (⟨"DoorVoice$Street", "toldOnward", "(I)I"⟩, prog_5_method_13_code, 4, (some .int))
abbrev m_S_drawYear : MethodName × ByteArray × Nat × Option FieldType := (⟨"DoorVoice$Street", "drawYear", "(II)V"⟩, prog_5_method_14_code, 7, none)
abbrev m_S_drawnKind : MethodName × ByteArray × Nat × Option FieldType := (⟨"DoorVoice$Street", "drawnKind", "(I)I"⟩, prog_5_method_15_code, 1, (some .int))
abbrev m_S_factsKnown : MethodName × ByteArray × Nat × Option FieldType := (⟨"DoorVoice$Street", "factsKnown", "()I"⟩, prog_5_method_16_code, 3, (some .int))
abbrev m_B_bitCount : MethodName × ByteArray × Nat × Option FieldType := (⟨"java/lang/Integer", "bitCount", "(I)I"⟩, prog_8_method_49_code, 1, (some .int))
abbrev m_W_law : MethodName × ByteArray × Nat × Option FieldType := (⟨"DoorVoiceLaw", "law", "([I)Z"⟩, code, 4, some .boolean)
set_option maxRecDepth 20000 in
theorem wc_V_init : Cond.code m_V_init.1 m_V_init.2.1 m_V_init.2.2.1 m_V_init.2.2.2 ∈ ax_T := ax_in 43 rfl rfl
set_option maxRecDepth 20000 in
theorem wc_V_house : Cond.code m_V_house.1 m_V_house.2.1 m_V_house.2.2.1 m_V_house.2.2.2 ∈ ax_T := ax_in 223 rfl rfl
set_option maxRecDepth 20000 in
theorem wc_V_wall : Cond.code m_V_wall.1 m_V_wall.2.1 m_V_wall.2.2.1 m_V_wall.2.2.2 ∈ ax_T := ax_in 233 rfl rfl
set_option maxRecDepth 20000 in
theorem wc_V_set : Cond.code m_V_set.1 m_V_set.2.1 m_V_set.2.2.1 m_V_set.2.2.2 ∈ ax_T := ax_in 237 rfl rfl
set_option maxRecDepth 20000 in
theorem wc_V_setVoice : Cond.code m_V_setVoice.1 m_V_setVoice.2.1 m_V_setVoice.2.2.1 m_V_setVoice.2.2.2 ∈ ax_T := ax_in 241 rfl rfl
set_option maxRecDepth 20000 in
theorem wc_V_setWind : Cond.code m_V_setWind.1 m_V_setWind.2.1 m_V_setWind.2.2.1 m_V_setWind.2.2.2 ∈ ax_T := ax_in 245 rfl rfl
set_option maxRecDepth 20000 in
theorem wc_V_setPlace : Cond.code m_V_setPlace.1 m_V_setPlace.2.1 m_V_setPlace.2.2.1 m_V_setPlace.2.2.2 ∈ ax_T := ax_in 249 rfl rfl
set_option maxRecDepth 20000 in
theorem wc_V_letter : Cond.code m_V_letter.1 m_V_letter.2.1 m_V_letter.2.2.1 m_V_letter.2.2.2 ∈ ax_T := ax_in 253 rfl rfl
set_option maxRecDepth 20000 in
theorem wc_V_say : Cond.code m_V_say.1 m_V_say.2.1 m_V_say.2.2.1 m_V_say.2.2.2 ∈ ax_T := ax_in 257 rfl rfl
set_option maxRecDepth 20000 in
theorem wc_V_wipe : Cond.code m_V_wipe.1 m_V_wipe.2.1 m_V_wipe.2.2.1 m_V_wipe.2.2.2 ∈ ax_T := ax_in 265 rfl rfl
set_option maxRecDepth 20000 in
theorem wc_V_fault : Cond.code m_V_fault.1 m_V_fault.2.1 m_V_fault.2.2.1 m_V_fault.2.2.2 ∈ ax_T := ax_in 273 rfl rfl
set_option maxRecDepth 20000 in
theorem wc_V_judge : Cond.code m_V_judge.1 m_V_judge.2.1 m_V_judge.2.2.1 m_V_judge.2.2.2 ∈ ax_T := ax_in 284 rfl rfl
set_option maxRecDepth 20000 in
theorem wc_V_done : Cond.code m_V_done.1 m_V_done.2.1 m_V_done.2.2.1 m_V_done.2.2.2 ∈ ax_T := ax_in 343 rfl rfl
set_option maxRecDepth 20000 in
theorem wc_V_knows : Cond.code m_V_knows.1 m_V_knows.2.1 m_V_knows.2.2.1 m_V_knows.2.2.2 ∈ ax_T := ax_in 348 rfl rfl
set_option maxRecDepth 20000 in
theorem wc_V_behind : Cond.code m_V_behind.1 m_V_behind.2.1 m_V_behind.2.2.1 m_V_behind.2.2.2 ∈ ax_T := ax_in 352 rfl rfl
set_option maxRecDepth 20000 in
theorem wc_V_who : Cond.code m_V_who.1 m_V_who.2.1 m_V_who.2.2.1 m_V_who.2.2.2 ∈ ax_T := ax_in 356 rfl rfl
set_option maxRecDepth 20000 in
theorem wc_V_loud : Cond.code m_V_loud.1 m_V_loud.2.1 m_V_loud.2.2.1 m_V_loud.2.2.2 ∈ ax_T := ax_in 361 rfl rfl
set_option maxRecDepth 20000 in
theorem wc_V_hears : Cond.code m_V_hears.1 m_V_hears.2.1 m_V_hears.2.2.1 m_V_hears.2.2.2 ∈ ax_T := ax_in 372 rfl rfl
set_option maxRecDepth 20000 in
theorem wc_V_best : Cond.code m_V_best.1 m_V_best.2.1 m_V_best.2.2.1 m_V_best.2.2.2 ∈ ax_T := ax_in 377 rfl rfl
set_option maxRecDepth 20000 in
theorem wc_V_thirds : Cond.code m_V_thirds.1 m_V_thirds.2.1 m_V_thirds.2.2.1 m_V_thirds.2.2.2 ∈ ax_T := ax_in 401 rfl rfl
set_option maxRecDepth 20000 in
theorem wc_V_round : Cond.code m_V_round.1 m_V_round.2.1 m_V_round.2.2.1 m_V_round.2.2.2 ∈ ax_T := ax_in 409 rfl rfl
set_option maxRecDepth 20000 in
theorem wc_V_seen : Cond.code m_V_seen.1 m_V_seen.2.1 m_V_seen.2.2.1 m_V_seen.2.2.2 ∈ ax_T := ax_in 424 rfl rfl
set_option maxRecDepth 20000 in
theorem wc_V_forget : Cond.code m_V_forget.1 m_V_forget.2.1 m_V_forget.2.2.1 m_V_forget.2.2.2 ∈ ax_T := ax_in 428 rfl rfl
set_option maxRecDepth 20000 in
theorem wc_V_at : Cond.code m_V_at.1 m_V_at.2.1 m_V_at.2.2.1 m_V_at.2.2.2 ∈ ax_T := ax_in 432 rfl rfl
set_option maxRecDepth 20000 in
theorem wc_V_ask : Cond.code m_V_ask.1 m_V_ask.2.1 m_V_ask.2.2.1 m_V_ask.2.2.2 ∈ ax_T := ax_in 440 rfl rfl
set_option maxRecDepth 20000 in
theorem wc_V_rumour : Cond.code m_V_rumour.1 m_V_rumour.2.1 m_V_rumour.2.2.1 m_V_rumour.2.2.2 ∈ ax_T := ax_in 449 rfl rfl
set_option maxRecDepth 20000 in
theorem wc_V_chance : Cond.code m_V_chance.1 m_V_chance.2.1 m_V_chance.2.2.1 m_V_chance.2.2.2 ∈ ax_T := ax_in 466 rfl rfl
set_option maxRecDepth 20000 in
theorem wc_V_year : Cond.code m_V_year.1 m_V_year.2.1 m_V_year.2.2.1 m_V_year.2.2.2 ∈ ax_T := ax_in 498 rfl rfl
set_option maxRecDepth 20000 in
theorem wc_V_image : Cond.code m_V_image.1 m_V_image.2.1 m_V_image.2.2.1 m_V_image.2.2.2 ∈ ax_T := ax_in 517 rfl rfl
set_option maxRecDepth 20000 in
theorem wc_V_restore : Cond.code m_V_restore.1 m_V_restore.2.1 m_V_restore.2.2.1 m_V_restore.2.2.2 ∈ ax_T := ax_in 525 rfl rfl
set_option maxRecDepth 20000 in
theorem wc_V_imageNumbered : Cond.code m_V_imageNumbered.1 m_V_imageNumbered.2.1 m_V_imageNumbered.2.2.1 m_V_imageNumbered.2.2.2 ∈ ax_T := ax_in 521 rfl rfl
set_option maxRecDepth 20000 in
theorem wc_V_told : Cond.code m_V_told.1 m_V_told.2.1 m_V_told.2.2.1 m_V_told.2.2.2 ∈ ax_T := ax_in 529 rfl rfl
set_option maxRecDepth 20000 in
theorem wc_V_toldOfAll : Cond.code m_V_toldOfAll.1 m_V_toldOfAll.2.1 m_V_toldOfAll.2.2.1 m_V_toldOfAll.2.2.2 ∈ ax_T := ax_in 533 rfl rfl
set_option maxRecDepth 20000 in
theorem wc_V_toldOfLetter : Cond.code m_V_toldOfLetter.1 m_V_toldOfLetter.2.1 m_V_toldOfLetter.2.2.1 m_V_toldOfLetter.2.2.2 ∈ ax_T := ax_in 537 rfl rfl
set_option maxRecDepth 20000 in
theorem wc_V_within : Cond.code m_V_within.1 m_V_within.2.1 m_V_within.2.2.1 m_V_within.2.2.2 ∈ ax_T := ax_in 226 rfl rfl
set_option maxRecDepth 20000 in
theorem wc_V_hasBit : Cond.code m_V_hasBit.1 m_V_hasBit.2.1 m_V_hasBit.2.2.1 m_V_hasBit.2.2.2 ∈ ax_T := ax_in 310 rfl rfl
set_option maxRecDepth 20000 in
theorem wc_V_withBit : Cond.code m_V_withBit.1 m_V_withBit.2.1 m_V_withBit.2.2.1 m_V_withBit.2.2.2 ∈ ax_T := ax_in 229 rfl rfl
set_option maxRecDepth 20000 in
theorem wc_M_init : Cond.code m_M_init.1 m_M_init.2.1 m_M_init.2.2.1 m_M_init.2.2.2 ∈ ax_T := ax_in 542 rfl rfl
set_option maxRecDepth 20000 in
theorem wc_M_in : Cond.code m_M_in.1 m_M_in.2.1 m_M_in.2.2.1 m_M_in.2.2.2 ∈ ax_T := ax_in 615 rfl rfl
set_option maxRecDepth 20000 in
theorem wc_M_has : Cond.code m_M_has.1 m_M_has.2.1 m_M_has.2.2.1 m_M_has.2.2.2 ∈ ax_T := ax_in 665 rfl rfl
set_option maxRecDepth 20000 in
theorem wc_M_bits : Cond.code m_M_bits.1 m_M_bits.2.1 m_M_bits.2.2.1 m_M_bits.2.2.2 ∈ ax_T := ax_in 721 rfl rfl
set_option maxRecDepth 20000 in
theorem wc_M_isHouse : Cond.code m_M_isHouse.1 m_M_isHouse.2.1 m_M_isHouse.2.2.1 m_M_isHouse.2.2.2 ∈ ax_T := ax_in 612 rfl rfl
set_option maxRecDepth 20000 in
theorem wc_M_house : Cond.code m_M_house.1 m_M_house.2.1 m_M_house.2.2.1 m_M_house.2.2.2 ∈ ax_T := ax_in 609 rfl rfl
set_option maxRecDepth 20000 in
theorem wc_M_wall : Cond.code m_M_wall.1 m_M_wall.2.1 m_M_wall.2.2.1 m_M_wall.2.2.2 ∈ ax_T := ax_in 619 rfl rfl
set_option maxRecDepth 20000 in
theorem wc_M_set : Cond.code m_M_set.1 m_M_set.2.1 m_M_set.2.2.1 m_M_set.2.2.2 ∈ ax_T := ax_in 623 rfl rfl
set_option maxRecDepth 20000 in
theorem wc_M_letter : Cond.code m_M_letter.1 m_M_letter.2.1 m_M_letter.2.2.1 m_M_letter.2.2.2 ∈ ax_T := ax_in 627 rfl rfl
set_option maxRecDepth 20000 in
theorem wc_M_say : Cond.code m_M_say.1 m_M_say.2.1 m_M_say.2.2.1 m_M_say.2.2.2 ∈ ax_T := ax_in 631 rfl rfl
set_option maxRecDepth 20000 in
theorem wc_M_wipe : Cond.code m_M_wipe.1 m_M_wipe.2.1 m_M_wipe.2.2.1 m_M_wipe.2.2.2 ∈ ax_T := ax_in 635 rfl rfl
set_option maxRecDepth 20000 in
theorem wc_M_isLetter : Cond.code m_M_isLetter.1 m_M_isLetter.2.1 m_M_isLetter.2.2.1 m_M_isLetter.2.2.2 ∈ ax_T := ax_in 646 rfl rfl
set_option maxRecDepth 20000 in
theorem wc_M_faultOf : Cond.code m_M_faultOf.1 m_M_faultOf.2.1 m_M_faultOf.2.2.1 m_M_faultOf.2.2.2 ∈ ax_T := ax_in 643 rfl rfl
set_option maxRecDepth 20000 in
theorem wc_M_fault : Cond.code m_M_fault.1 m_M_fault.2.1 m_M_fault.2.2.1 m_M_fault.2.2.2 ∈ ax_T := ax_in 639 rfl rfl
set_option maxRecDepth 20000 in
theorem wc_M_loudAt : Cond.code m_M_loudAt.1 m_M_loudAt.2.1 m_M_loudAt.2.2.1 m_M_loudAt.2.2.2 ∈ ax_T := ax_in 681 rfl rfl
set_option maxRecDepth 20000 in
theorem wc_M_doesHear : Cond.code m_M_doesHear.1 m_M_doesHear.2.1 m_M_doesHear.2.2.1 m_M_doesHear.2.2.2 ∈ ax_T := ax_in 677 rfl rfl
set_option maxRecDepth 20000 in
theorem wc_M_hearers : Cond.code m_M_hearers.1 m_M_hearers.2.1 m_M_hearers.2.2.1 m_M_hearers.2.2.2 ∈ ax_T := ax_in 713 rfl rfl
set_option maxRecDepth 20000 in
theorem wc_M_asNow : Cond.code m_M_asNow.1 m_M_asNow.2.1 m_M_asNow.2.2.1 m_M_asNow.2.2.2 ∈ ax_T := ax_in 658 rfl rfl
set_option maxRecDepth 20000 in
theorem wc_M_goTo : Cond.code m_M_goTo.1 m_M_goTo.2.1 m_M_goTo.2.2.1 m_M_goTo.2.2.2 ∈ ax_T := ax_in 669 rfl rfl
set_option maxRecDepth 20000 in
theorem wc_M_read : Cond.code m_M_read.1 m_M_read.2.1 m_M_read.2.2.1 m_M_read.2.2.2 ∈ ax_T := ax_in 673 rfl rfl
set_option maxRecDepth 20000 in
theorem wc_M_evening : Cond.code m_M_evening.1 m_M_evening.2.1 m_M_evening.2.2.1 m_M_evening.2.2.2 ∈ ax_T := ax_in 662 rfl rfl
set_option maxRecDepth 20000 in
theorem wc_M_goDays : Cond.code m_M_goDays.1 m_M_goDays.2.1 m_M_goDays.2.2.1 m_M_goDays.2.2.2 ∈ ax_T := ax_in 654 rfl rfl
set_option maxRecDepth 20000 in
theorem wc_M_judge : Cond.code m_M_judge.1 m_M_judge.2.1 m_M_judge.2.2.1 m_M_judge.2.2.2 ∈ ax_T := ax_in 650 rfl rfl
set_option maxRecDepth 20000 in
theorem wc_M_barOfDays : Cond.code m_M_barOfDays.1 m_M_barOfDays.2.1 m_M_barOfDays.2.2.1 m_M_barOfDays.2.2.2 ∈ ax_T := ax_in 689 rfl rfl
set_option maxRecDepth 20000 in
theorem wc_M_done : Cond.code m_M_done.1 m_M_done.2.1 m_M_done.2.2.1 m_M_done.2.2.2 ∈ ax_T := ax_in 685 rfl rfl
set_option maxRecDepth 20000 in
theorem wc_M_knows : Cond.code m_M_knows.1 m_M_knows.2.1 m_M_knows.2.2.1 m_M_knows.2.2.2 ∈ ax_T := ax_in 693 rfl rfl
set_option maxRecDepth 20000 in
theorem wc_M_behind : Cond.code m_M_behind.1 m_M_behind.2.1 m_M_behind.2.2.1 m_M_behind.2.2.2 ∈ ax_T := ax_in 697 rfl rfl
set_option maxRecDepth 20000 in
theorem wc_M_who : Cond.code m_M_who.1 m_M_who.2.1 m_M_who.2.2.1 m_M_who.2.2.2 ∈ ax_T := ax_in 701 rfl rfl
set_option maxRecDepth 20000 in
theorem wc_M_loud : Cond.code m_M_loud.1 m_M_loud.2.1 m_M_loud.2.2.1 m_M_loud.2.2.2 ∈ ax_T := ax_in 705 rfl rfl
set_option maxRecDepth 20000 in
theorem wc_M_hears : Cond.code m_M_hears.1 m_M_hears.2.1 m_M_hears.2.2.1 m_M_hears.2.2.2 ∈ ax_T := ax_in 709 rfl rfl
set_option maxRecDepth 20000 in
theorem wc_M_best : Cond.code m_M_best.1 m_M_best.2.1 m_M_best.2.2.1 m_M_best.2.2.2 ∈ ax_T := ax_in 717 rfl rfl
set_option maxRecDepth 20000 in
theorem wc_M_laySets : Cond.code m_M_laySets.1 m_M_laySets.2.1 m_M_laySets.2.2.1 m_M_laySets.2.2.2 ∈ ax_T := ax_in 729 rfl rfl
set_option maxRecDepth 20000 in
theorem wc_M_thirds : Cond.code m_M_thirds.1 m_M_thirds.2.1 m_M_thirds.2.2.1 m_M_thirds.2.2.2 ∈ ax_T := ax_in 725 rfl rfl
set_option maxRecDepth 20000 in
theorem wc_M_round : Cond.code m_M_round.1 m_M_round.2.1 m_M_round.2.2.1 m_M_round.2.2.2 ∈ ax_T := ax_in 733 rfl rfl
set_option maxRecDepth 20000 in
theorem wc_M_seen : Cond.code m_M_seen.1 m_M_seen.2.1 m_M_seen.2.2.1 m_M_seen.2.2.2 ∈ ax_T := ax_in 737 rfl rfl
set_option maxRecDepth 20000 in
theorem wc_M_forget : Cond.code m_M_forget.1 m_M_forget.2.1 m_M_forget.2.2.1 m_M_forget.2.2.2 ∈ ax_T := ax_in 741 rfl rfl
set_option maxRecDepth 20000 in
theorem wc_M_atSet : Cond.code m_M_atSet.1 m_M_atSet.2.1 m_M_atSet.2.2.1 m_M_atSet.2.2.2 ∈ ax_T := ax_in 749 rfl rfl
set_option maxRecDepth 20000 in
theorem wc_M_at : Cond.code m_M_at.1 m_M_at.2.1 m_M_at.2.2.1 m_M_at.2.2.2 ∈ ax_T := ax_in 745 rfl rfl
set_option maxRecDepth 20000 in
theorem wc_M_ask : Cond.code m_M_ask.1 m_M_ask.2.1 m_M_ask.2.2.1 m_M_ask.2.2.2 ∈ ax_T := ax_in 753 rfl rfl
set_option maxRecDepth 20000 in
theorem wc_M_spread : Cond.code m_M_spread.1 m_M_spread.2.1 m_M_spread.2.2.1 m_M_spread.2.2.2 ∈ ax_T := ax_in 761 rfl rfl
set_option maxRecDepth 20000 in
theorem wc_M_rumour : Cond.code m_M_rumour.1 m_M_rumour.2.1 m_M_rumour.2.2.1 m_M_rumour.2.2.2 ∈ ax_T := ax_in 757 rfl rfl
set_option maxRecDepth 20000 in
theorem wc_M_chance : Cond.code m_M_chance.1 m_M_chance.2.1 m_M_chance.2.2.1 m_M_chance.2.2.2 ∈ ax_T := ax_in 765 rfl rfl
set_option maxRecDepth 20000 in
theorem wc_M_year : Cond.code m_M_year.1 m_M_year.2.1 m_M_year.2.2.1 m_M_year.2.2.2 ∈ ax_T := ax_in 772 rfl rfl
set_option maxRecDepth 20000 in
theorem wc_M_image : Cond.code m_M_image.1 m_M_image.2.1 m_M_image.2.2.1 m_M_image.2.2.2 ∈ ax_T := ax_in 777 rfl rfl
set_option maxRecDepth 20000 in
theorem wc_M_restore : Cond.code m_M_restore.1 m_M_restore.2.1 m_M_restore.2.2.1 m_M_restore.2.2.2 ∈ ax_T := ax_in 781 rfl rfl
set_option maxRecDepth 20000 in
theorem wc_M_told : Cond.code m_M_told.1 m_M_told.2.1 m_M_told.2.2.1 m_M_told.2.2.2 ∈ ax_T := ax_in 785 rfl rfl
set_option maxRecDepth 20000 in
theorem wc_C_init : Cond.code m_C_init.1 m_C_init.2.1 m_C_init.2.2.1 m_C_init.2.2.2 ∈ ax_T := ax_in 174 rfl rfl
set_option maxRecDepth 20000 in
theorem wc_C_weigh : Cond.code m_C_weigh.1 m_C_weigh.2.1 m_C_weigh.2.2.1 m_C_weigh.2.2.2 ∈ ax_T := ax_in 472 rfl rfl
set_option maxRecDepth 20000 in
theorem wc_C_findMean : Cond.code m_C_findMean.1 m_C_findMean.2.1 m_C_findMean.2.2.1 m_C_findMean.2.2.2 ∈ ax_T := ax_in 478 rfl rfl
set_option maxRecDepth 20000 in
theorem wc_C_findAtMost : Cond.code m_C_findAtMost.1 m_C_findAtMost.2.1 m_C_findAtMost.2.2.1 m_C_findAtMost.2.2.2 ∈ ax_T := ax_in 490 rfl rfl
set_option maxRecDepth 20000 in
theorem wc_C_countWays : Cond.code m_C_countWays.1 m_C_countWays.2.1 m_C_countWays.2.2.1 m_C_countWays.2.2.2 ∈ ax_T := ax_in 494 rfl rfl
set_option maxRecDepth 20000 in
theorem wc_C_putLowest : Cond.code m_C_putLowest.1 m_C_putLowest.2.1 m_C_putLowest.2.2.1 m_C_putLowest.2.2.2 ∈ ax_T := ax_in 483 rfl rfl
set_option maxRecDepth 20000 in
theorem wc_C_greatestDivisor : Cond.code m_C_greatestDivisor.1 m_C_greatestDivisor.2.1 m_C_greatestDivisor.2.2.1 m_C_greatestDivisor.2.2.2 ∈ ax_T := ax_in 486 rfl rfl
set_option maxRecDepth 20000 in
theorem wc_L_init : Cond.code m_L_init.1 m_L_init.2.1 m_L_init.2.2.1 m_L_init.2.2.2 ∈ ax_T := ax_in 161 rfl rfl
set_option maxRecDepth 20000 in
theorem wc_L_listen : Cond.code m_L_listen.1 m_L_listen.2.1 m_L_listen.2.2.1 m_L_listen.2.2.2 ∈ ax_T := ax_in 381 rfl rfl
set_option maxRecDepth 20000 in
theorem wc_L_placesFor : Cond.code m_L_placesFor.1 m_L_placesFor.2.1 m_L_placesFor.2.2.1 m_L_placesFor.2.2.2 ∈ ax_T := ax_in 386 rfl rfl
set_option maxRecDepth 20000 in
theorem wc_L_bestFor : Cond.code m_L_bestFor.1 m_L_bestFor.2.1 m_L_bestFor.2.2.1 m_L_bestFor.2.2.2 ∈ ax_T := ax_in 391 rfl rfl
set_option maxRecDepth 20000 in
theorem wc_L_thirdsFor : Cond.code m_L_thirdsFor.1 m_L_thirdsFor.2.1 m_L_thirdsFor.2.2.1 m_L_thirdsFor.2.2.2 ∈ ax_T := ax_in 405 rfl rfl
set_option maxRecDepth 20000 in
theorem wc_L_leastWalk : Cond.code m_L_leastWalk.1 m_L_leastWalk.2.1 m_L_leastWalk.2.2.1 m_L_leastWalk.2.2.2 ∈ ax_T := ax_in 413 rfl rfl
set_option maxRecDepth 20000 in
theorem wc_L_allCanBeRead : Cond.code m_L_allCanBeRead.1 m_L_allCanBeRead.2.1 m_L_allCanBeRead.2.2.1 m_L_allCanBeRead.2.2.2 ∈ ax_T := ax_in 420 rfl rfl
set_option maxRecDepth 20000 in
theorem wc_L_placesThatFit : Cond.code m_L_placesThatFit.1 m_L_placesThatFit.2.1 m_L_placesThatFit.2.2.1 m_L_placesThatFit.2.2.2 ∈ ax_T := ax_in 436 rfl rfl
set_option maxRecDepth 20000 in
theorem wc_L_bestToAsk : Cond.code m_L_bestToAsk.1 m_L_bestToAsk.2.1 m_L_bestToAsk.2.2.1 m_L_bestToAsk.2.2.2 ∈ ax_T := ax_in 444 rfl rfl
set_option maxRecDepth 20000 in
theorem wc_P_init : Cond.code m_P_init.1 m_P_init.2.1 m_P_init.2.2.1 m_P_init.2.2.2 ∈ ax_T := ax_in 131 rfl rfl
set_option maxRecDepth 20000 in
theorem wc_P_write : Cond.code m_P_write.1 m_P_write.2.1 m_P_write.2.2.1 m_P_write.2.2.2 ∈ ax_T := ax_in 261 rfl rfl
set_option maxRecDepth 20000 in
theorem wc_P_clean : Cond.code m_P_clean.1 m_P_clean.2.1 m_P_clean.2.2.1 m_P_clean.2.2.2 ∈ ax_T := ax_in 269 rfl rfl
set_option maxRecDepth 20000 in
theorem wc_P_faultPlace : Cond.code m_P_faultPlace.1 m_P_faultPlace.2.1 m_P_faultPlace.2.2.1 m_P_faultPlace.2.2.2 ∈ ax_T := ax_in 277 rfl rfl
set_option maxRecDepth 20000 in
theorem wc_P_kindOf : Cond.code m_P_kindOf.1 m_P_kindOf.2.1 m_P_kindOf.2.2.1 m_P_kindOf.2.2.2 ∈ ax_T := ax_in 280 rfl rfl
set_option maxRecDepth 20000 in
theorem wc_P_numberOf : Cond.code m_P_numberOf.1 m_P_numberOf.2.1 m_P_numberOf.2.2.1 m_P_numberOf.2.2.2 ∈ ax_T := ax_in 299 rfl rfl
set_option maxRecDepth 20000 in
theorem wc_P_playsToTheEnd : Cond.code m_P_playsToTheEnd.1 m_P_playsToTheEnd.2.1 m_P_playsToTheEnd.2.2.1 m_P_playsToTheEnd.2.2.2 ∈ ax_T := ax_in 288 rfl rfl
set_option maxRecDepth 20000 in
theorem wc_P_playAct : Cond.code m_P_playAct.1 m_P_playAct.2.1 m_P_playAct.2.2.1 m_P_playAct.2.2.2 ∈ ax_T := ax_in 303 rfl rfl
set_option maxRecDepth 20000 in
theorem wc_P_goesAstray : Cond.code m_P_goesAstray.1 m_P_goesAstray.2.1 m_P_goesAstray.2.2.1 m_P_goesAstray.2.2.2 ∈ ax_T := ax_in 313 rfl rfl
set_option maxRecDepth 20000 in
theorem wc_S_init : Cond.code m_S_init.1 m_S_init.2.1 m_S_init.2.2.1 m_S_init.2.2.2 ∈ ax_T := ax_in 51 rfl rfl
set_option maxRecDepth 20000 in
theorem wc_S_takeFrom : Cond.code m_S_takeFrom.1 m_S_takeFrom.2.1 m_S_takeFrom.2.2.1 m_S_takeFrom.2.2.2 ∈ ax_T := ax_in 293 rfl rfl
set_option maxRecDepth 20000 in
theorem wc_S_loudness : Cond.code m_S_loudness.1 m_S_loudness.2.1 m_S_loudness.2.2.1 m_S_loudness.2.2.2 ∈ ax_T := ax_in 365 rfl rfl
set_option maxRecDepth 20000 in
theorem wc_S_reached : Cond.code m_S_reached.1 m_S_reached.2.1 m_S_reached.2.2.1 m_S_reached.2.2.2 ∈ ax_T := ax_in 321 rfl rfl
set_option maxRecDepth 20000 in
theorem wc_S_hearers : Cond.code m_S_hearers.1 m_S_hearers.2.1 m_S_hearers.2.2.1 m_S_hearers.2.2.2 ∈ ax_T := ax_in 317 rfl rfl
set_option maxRecDepth 20000 in
theorem wc_S_whyNot : Cond.code m_S_whyNot.1 m_S_whyNot.2.1 m_S_whyNot.2.2.1 m_S_whyNot.2.2.2 ∈ ax_T := ax_in 307 rfl rfl
set_option maxRecDepth 20000 in
theorem wc_S_carryOut : Cond.code m_S_carryOut.1 m_S_carryOut.2.1 m_S_carryOut.2.2.1 m_S_carryOut.2.2.2 ∈ ax_T := ax_in 326 rfl rfl
set_option maxRecDepth 20000 in
theorem wc_S_readOut : Cond.code m_S_readOut.1 m_S_readOut.2.1 m_S_readOut.2.2.1 m_S_readOut.2.2.2 ∈ ax_T := ax_in 330 rfl rfl
set_option maxRecDepth 20000 in
theorem wc_S_passEvening : Cond.code m_S_passEvening.1 m_S_passEvening.2.1 m_S_passEvening.2.2.1 m_S_passEvening.2.2.2 ∈ ax_T := ax_in 335 rfl rfl
set_option maxRecDepth 20000 in
theorem wc_S_tellsEastward : Cond.code m_S_tellsEastward.1 m_S_tellsEastward.2.1 m_S_tellsEastward.2.2.1 m_S_tellsEastward.2.2.2 ∈ ax_T := ax_in 339 rfl rfl
set_option maxRecDepth 20000 in
theorem wc_S_knowersOfRumour : Cond.code m_S_knowersOfRumour.1 m_S_knowersOfRumour.2.1 m_S_knowersOfRumour.2.2.1 m_S_knowersOfRumour.2.2.2 ∈ ax_T := ax_in 461 rfl rfl
set_option maxRecDepth 20000 in
theorem wc_S_eveningsOfRumour : Cond.code m_S_eveningsOfRumour.1 m_S_eveningsOfRumour.2.1 m_S_eveningsOfRumour.2.2.1 m_S_eveningsOfRumour.2.2.2 ∈ ax_T := ax_in 453 rfl rfl
set_option maxRecDepth 20000 in
theorem wc_S_toldOnward : Cond.code m_S_toldOnward.1 m_S_toldOnward.2.1 m_S_toldOnward.2.2.1 m_S_toldOnward.2.2.2 ∈ ax_T := ax_in 457 rfl rfl
set_option maxRecDepth 20000 in
theorem wc_S_drawYear : Cond.code m_S_drawYear.1 m_S_drawYear.2.1 m_S_drawYear.2.2.1 m_S_drawYear.2.2.2 ∈ ax_T := ax_in 502 rfl rfl
set_option maxRecDepth 20000 in
theorem wc_S_drawnKind : Cond.code m_S_drawnKind.1 m_S_drawnKind.2.1 m_S_drawnKind.2.2.1 m_S_drawnKind.2.2.2 ∈ ax_T := ax_in 506 rfl rfl
set_option maxRecDepth 20000 in
theorem wc_S_factsKnown : Cond.code m_S_factsKnown.1 m_S_factsKnown.2.1 m_S_factsKnown.2.2.1 m_S_factsKnown.2.2.2 ∈ ax_T := ax_in 512 rfl rfl
set_option maxRecDepth 20000 in
theorem wc_B_bitCount : Cond.code m_B_bitCount.1 m_B_bitCount.2.1 m_B_bitCount.2.2.1 m_B_bitCount.2.2.2 ∈ ax_T := ax_in 394 rfl rfl
set_option maxRecDepth 20000 in
theorem wn_W : Cond.initialized "DoorVoiceLaw" ∈ ax_T := ax_in 29 rfl rfl
set_option maxRecDepth 20000 in
theorem wn_V : Cond.initialized "DoorVoice" ∈ ax_T := ax_in 30 rfl rfl
set_option maxRecDepth 20000 in
theorem wn_S : Cond.initialized "DoorVoice$Street" ∈ ax_T := ax_in 31 rfl rfl
set_option maxRecDepth 20000 in
theorem wn_P : Cond.initialized "DoorVoice$Pad" ∈ ax_T := ax_in 32 rfl rfl
set_option maxRecDepth 20000 in
theorem wn_L : Cond.initialized "DoorVoice$Listener" ∈ ax_T := ax_in 33 rfl rfl
set_option maxRecDepth 20000 in
theorem wn_C : Cond.initialized "DoorVoice$Chances" ∈ ax_T := ax_in 34 rfl rfl
set_option maxRecDepth 20000 in
theorem wn_M : Cond.initialized "DoorVoiceModel" ∈ ax_T := ax_in 35 rfl rfl
set_option maxRecDepth 20000 in
theorem wn_Y : Cond.initialized "java/lang/System" ∈ ax_T := ax_in 36 rfl rfl
set_option maxRecDepth 20000 in
theorem wn_H : Cond.initialized "java/lang/Math" ∈ ax_T := ax_in 37 rfl rfl
set_option maxRecDepth 20000 in
theorem wn_B : Cond.initialized "java/lang/Integer" ∈ ax_T := ax_in 38 rfl rfl
set_option maxRecDepth 20000 in
theorem lk_W_7 : Cond.classLink "DoorVoiceLaw" 7 "DoorVoice" ∈ ax_T := ax_in 39 rfl rfl
set_option maxRecDepth 20000 in
theorem wt_V : Cond.instantiable "DoorVoice" 8 ∈ ax_T := ax_in 40 rfl rfl
set_option maxRecDepth 20000 in
theorem lm_W_9 : Cond.methodLink "DoorVoiceLaw" 9 ⟨"DoorVoice", "<init>", "()V"⟩ ∈ ax_T := ax_in 41 rfl rfl
set_option maxRecDepth 20000 in
theorem wi_V_init : Cond.instanceMethod ⟨"DoorVoice", "<init>", "()V"⟩ ∈ ax_T := ax_in 42 rfl rfl
set_option maxRecDepth 20000 in
theorem lm_V_1 : Cond.methodLink "DoorVoice" 1 ⟨"java/lang/Object", "<init>", "()V"⟩ ∈ ax_T := ax_in 44 rfl rfl
set_option maxRecDepth 20000 in
theorem wi_O_init : Cond.instanceMethod ⟨"java/lang/Object", "<init>", "()V"⟩ ∈ ax_T := ax_in 45 rfl rfl
set_option maxRecDepth 20000 in
theorem lk_V_7 : Cond.classLink "DoorVoice" 7 "DoorVoice$Street" ∈ ax_T := ax_in 47 rfl rfl
set_option maxRecDepth 20000 in
theorem wt_S : Cond.instantiable "DoorVoice$Street" 16 ∈ ax_T := ax_in 48 rfl rfl
set_option maxRecDepth 20000 in
theorem wi_S_init : Cond.instanceMethod ⟨"DoorVoice$Street", "<init>", "()V"⟩ ∈ ax_T := ax_in 50 rfl rfl
set_option maxRecDepth 20000 in
theorem lm_S_3 : Cond.methodLink "DoorVoice$Street" 3 ⟨"java/lang/Object", "<init>", "()V"⟩ ∈ ax_T := ax_in 52 rfl rfl
set_option maxRecDepth 20000 in
theorem wa_int : Cond.arrayClass .int ∈ ax_T := ax_in 126 rfl rfl
set_option maxRecDepth 20000 in
theorem lk_V_25 : Cond.classLink "DoorVoice" 25 "DoorVoice$Pad" ∈ ax_T := ax_in 127 rfl rfl
set_option maxRecDepth 20000 in
theorem wt_P : Cond.instantiable "DoorVoice$Pad" 6 ∈ ax_T := ax_in 128 rfl rfl
set_option maxRecDepth 20000 in
theorem wi_P_init : Cond.instanceMethod ⟨"DoorVoice$Pad", "<init>", "()V"⟩ ∈ ax_T := ax_in 130 rfl rfl
set_option maxRecDepth 20000 in
theorem lm_P_3 : Cond.methodLink "DoorVoice$Pad" 3 ⟨"java/lang/Object", "<init>", "()V"⟩ ∈ ax_T := ax_in 132 rfl rfl
set_option maxRecDepth 20000 in
theorem lk_V_32 : Cond.classLink "DoorVoice" 32 "DoorVoice$Listener" ∈ ax_T := ax_in 157 rfl rfl
set_option maxRecDepth 20000 in
theorem wt_L : Cond.instantiable "DoorVoice$Listener" 2 ∈ ax_T := ax_in 158 rfl rfl
set_option maxRecDepth 20000 in
theorem wi_L_init : Cond.instanceMethod ⟨"DoorVoice$Listener", "<init>", "()V"⟩ ∈ ax_T := ax_in 160 rfl rfl
set_option maxRecDepth 20000 in
theorem lm_L_3 : Cond.methodLink "DoorVoice$Listener" 3 ⟨"java/lang/Object", "<init>", "()V"⟩ ∈ ax_T := ax_in 162 rfl rfl
set_option maxRecDepth 20000 in
theorem lk_V_39 : Cond.classLink "DoorVoice" 39 "DoorVoice$Chances" ∈ ax_T := ax_in 170 rfl rfl
set_option maxRecDepth 20000 in
theorem wt_C : Cond.instantiable "DoorVoice$Chances" 5 ∈ ax_T := ax_in 171 rfl rfl
set_option maxRecDepth 20000 in
theorem wi_C_init : Cond.instanceMethod ⟨"DoorVoice$Chances", "<init>", "()V"⟩ ∈ ax_T := ax_in 173 rfl rfl
set_option maxRecDepth 20000 in
theorem lm_C_3 : Cond.methodLink "DoorVoice$Chances" 3 ⟨"java/lang/Object", "<init>", "()V"⟩ ∈ ax_T := ax_in 175 rfl rfl
set_option maxRecDepth 20000 in
theorem wa_long : Cond.arrayClass .long ∈ ax_T := ax_in 194 rfl rfl
set_option maxRecDepth 20000 in
theorem lm_W_13 : Cond.methodLink "DoorVoiceLaw" 13 ⟨"DoorVoice", "house", "(IZZI)I"⟩ ∈ ax_T := ax_in 220 rfl rfl
set_option maxRecDepth 20000 in
theorem wi_V_house : Cond.instanceMethod ⟨"DoorVoice", "house", "(IZZI)I"⟩ ∈ ax_T := ax_in 221 rfl rfl
set_option maxRecDepth 20000 in
theorem wv_V_house : Cond.selects "DoorVoice" ⟨"DoorVoice", "house", "(IZZI)I"⟩ ⟨"DoorVoice", "house", "(IZZI)I"⟩ ∈ ax_T := ax_in 222 rfl rfl
set_option maxRecDepth 20000 in
theorem lm_V_50 : Cond.methodLink "DoorVoice" 50 ⟨"DoorVoice", "within", "(III)Z"⟩ ∈ ax_T := ax_in 224 rfl rfl
set_option maxRecDepth 20000 in
theorem ws_V_within : Cond.static ⟨"DoorVoice", "within", "(III)Z"⟩ ∈ ax_T := ax_in 225 rfl rfl
set_option maxRecDepth 20000 in
theorem lm_V_61 : Cond.methodLink "DoorVoice" 61 ⟨"DoorVoice", "withBit", "(IIZ)I"⟩ ∈ ax_T := ax_in 227 rfl rfl
set_option maxRecDepth 20000 in
theorem ws_V_withBit : Cond.static ⟨"DoorVoice", "withBit", "(IIZ)I"⟩ ∈ ax_T := ax_in 228 rfl rfl
set_option maxRecDepth 20000 in
theorem lm_W_18 : Cond.methodLink "DoorVoiceLaw" 18 ⟨"DoorVoice", "wall", "(II)I"⟩ ∈ ax_T := ax_in 230 rfl rfl
set_option maxRecDepth 20000 in
theorem wi_V_wall : Cond.instanceMethod ⟨"DoorVoice", "wall", "(II)I"⟩ ∈ ax_T := ax_in 231 rfl rfl
set_option maxRecDepth 20000 in
theorem wv_V_wall : Cond.selects "DoorVoice" ⟨"DoorVoice", "wall", "(II)I"⟩ ⟨"DoorVoice", "wall", "(II)I"⟩ ∈ ax_T := ax_in 232 rfl rfl
set_option maxRecDepth 20000 in
theorem lm_W_23 : Cond.methodLink "DoorVoiceLaw" 23 ⟨"DoorVoice", "set", "(II)I"⟩ ∈ ax_T := ax_in 234 rfl rfl
set_option maxRecDepth 20000 in
theorem wi_V_set : Cond.instanceMethod ⟨"DoorVoice", "set", "(II)I"⟩ ∈ ax_T := ax_in 235 rfl rfl
set_option maxRecDepth 20000 in
theorem wv_V_set : Cond.selects "DoorVoice" ⟨"DoorVoice", "set", "(II)I"⟩ ⟨"DoorVoice", "set", "(II)I"⟩ ∈ ax_T := ax_in 236 rfl rfl
set_option maxRecDepth 20000 in
theorem lm_V_71 : Cond.methodLink "DoorVoice" 71 ⟨"DoorVoice", "setVoice", "(I)I"⟩ ∈ ax_T := ax_in 238 rfl rfl
set_option maxRecDepth 20000 in
theorem wi_V_setVoice : Cond.instanceMethod ⟨"DoorVoice", "setVoice", "(I)I"⟩ ∈ ax_T := ax_in 240 rfl rfl
set_option maxRecDepth 20000 in
theorem lm_V_75 : Cond.methodLink "DoorVoice" 75 ⟨"DoorVoice", "setWind", "(I)I"⟩ ∈ ax_T := ax_in 242 rfl rfl
set_option maxRecDepth 20000 in
theorem wi_V_setWind : Cond.instanceMethod ⟨"DoorVoice", "setWind", "(I)I"⟩ ∈ ax_T := ax_in 244 rfl rfl
set_option maxRecDepth 20000 in
theorem lm_V_78 : Cond.methodLink "DoorVoice" 78 ⟨"DoorVoice", "setPlace", "(I)I"⟩ ∈ ax_T := ax_in 246 rfl rfl
set_option maxRecDepth 20000 in
theorem wi_V_setPlace : Cond.instanceMethod ⟨"DoorVoice", "setPlace", "(I)I"⟩ ∈ ax_T := ax_in 248 rfl rfl
set_option maxRecDepth 20000 in
theorem lm_W_27 : Cond.methodLink "DoorVoiceLaw" 27 ⟨"DoorVoice", "letter", "(IIIII)I"⟩ ∈ ax_T := ax_in 250 rfl rfl
set_option maxRecDepth 20000 in
theorem wi_V_letter : Cond.instanceMethod ⟨"DoorVoice", "letter", "(IIIII)I"⟩ ∈ ax_T := ax_in 251 rfl rfl
set_option maxRecDepth 20000 in
theorem wv_V_letter : Cond.selects "DoorVoice" ⟨"DoorVoice", "letter", "(IIIII)I"⟩ ⟨"DoorVoice", "letter", "(IIIII)I"⟩ ∈ ax_T := ax_in 252 rfl rfl
set_option maxRecDepth 20000 in
theorem lm_W_32 : Cond.methodLink "DoorVoiceLaw" 32 ⟨"DoorVoice", "say", "(I)I"⟩ ∈ ax_T := ax_in 254 rfl rfl
set_option maxRecDepth 20000 in
theorem wi_V_say : Cond.instanceMethod ⟨"DoorVoice", "say", "(I)I"⟩ ∈ ax_T := ax_in 255 rfl rfl
set_option maxRecDepth 20000 in
theorem wv_V_say : Cond.selects "DoorVoice" ⟨"DoorVoice", "say", "(I)I"⟩ ⟨"DoorVoice", "say", "(I)I"⟩ ∈ ax_T := ax_in 256 rfl rfl
set_option maxRecDepth 20000 in
theorem lm_V_105 : Cond.methodLink "DoorVoice" 105 ⟨"DoorVoice$Pad", "write", "(I)Z"⟩ ∈ ax_T := ax_in 258 rfl rfl
set_option maxRecDepth 20000 in
theorem wi_P_write : Cond.instanceMethod ⟨"DoorVoice$Pad", "write", "(I)Z"⟩ ∈ ax_T := ax_in 259 rfl rfl
set_option maxRecDepth 20000 in
theorem wv_P_write : Cond.selects "DoorVoice$Pad" ⟨"DoorVoice$Pad", "write", "(I)Z"⟩ ⟨"DoorVoice$Pad", "write", "(I)Z"⟩ ∈ ax_T := ax_in 260 rfl rfl
set_option maxRecDepth 20000 in
theorem lm_W_37 : Cond.methodLink "DoorVoiceLaw" 37 ⟨"DoorVoice", "wipe", "()I"⟩ ∈ ax_T := ax_in 262 rfl rfl
set_option maxRecDepth 20000 in
theorem wi_V_wipe : Cond.instanceMethod ⟨"DoorVoice", "wipe", "()I"⟩ ∈ ax_T := ax_in 263 rfl rfl
set_option maxRecDepth 20000 in
theorem wv_V_wipe : Cond.selects "DoorVoice" ⟨"DoorVoice", "wipe", "()I"⟩ ⟨"DoorVoice", "wipe", "()I"⟩ ∈ ax_T := ax_in 264 rfl rfl
set_option maxRecDepth 20000 in
theorem lm_V_112 : Cond.methodLink "DoorVoice" 112 ⟨"DoorVoice$Pad", "clean", "()I"⟩ ∈ ax_T := ax_in 266 rfl rfl
set_option maxRecDepth 20000 in
theorem wi_P_clean : Cond.instanceMethod ⟨"DoorVoice$Pad", "clean", "()I"⟩ ∈ ax_T := ax_in 267 rfl rfl
set_option maxRecDepth 20000 in
theorem wv_P_clean : Cond.selects "DoorVoice$Pad" ⟨"DoorVoice$Pad", "clean", "()I"⟩ ⟨"DoorVoice$Pad", "clean", "()I"⟩ ∈ ax_T := ax_in 268 rfl rfl
set_option maxRecDepth 20000 in
theorem lm_W_42 : Cond.methodLink "DoorVoiceLaw" 42 ⟨"DoorVoice", "fault", "()I"⟩ ∈ ax_T := ax_in 270 rfl rfl
set_option maxRecDepth 20000 in
theorem wi_V_fault : Cond.instanceMethod ⟨"DoorVoice", "fault", "()I"⟩ ∈ ax_T := ax_in 271 rfl rfl
set_option maxRecDepth 20000 in
theorem wv_V_fault : Cond.selects "DoorVoice" ⟨"DoorVoice", "fault", "()I"⟩ ⟨"DoorVoice", "fault", "()I"⟩ ∈ ax_T := ax_in 272 rfl rfl
set_option maxRecDepth 20000 in
theorem lm_V_116 : Cond.methodLink "DoorVoice" 116 ⟨"DoorVoice$Pad", "faultPlace", "()I"⟩ ∈ ax_T := ax_in 274 rfl rfl
set_option maxRecDepth 20000 in
theorem wi_P_faultPlace : Cond.instanceMethod ⟨"DoorVoice$Pad", "faultPlace", "()I"⟩ ∈ ax_T := ax_in 275 rfl rfl
set_option maxRecDepth 20000 in
theorem wv_P_faultPlace : Cond.selects "DoorVoice$Pad" ⟨"DoorVoice$Pad", "faultPlace", "()I"⟩ ⟨"DoorVoice$Pad", "faultPlace", "()I"⟩ ∈ ax_T := ax_in 276 rfl rfl
set_option maxRecDepth 20000 in
theorem lm_P_31 : Cond.methodLink "DoorVoice$Pad" 31 ⟨"DoorVoice$Pad", "kindOf", "(I)I"⟩ ∈ ax_T := ax_in 278 rfl rfl
set_option maxRecDepth 20000 in
theorem ws_P_kindOf : Cond.static ⟨"DoorVoice$Pad", "kindOf", "(I)I"⟩ ∈ ax_T := ax_in 279 rfl rfl
set_option maxRecDepth 20000 in
theorem lm_W_46 : Cond.methodLink "DoorVoiceLaw" 46 ⟨"DoorVoice", "judge", "(I)I"⟩ ∈ ax_T := ax_in 281 rfl rfl
set_option maxRecDepth 20000 in
theorem wi_V_judge : Cond.instanceMethod ⟨"DoorVoice", "judge", "(I)I"⟩ ∈ ax_T := ax_in 282 rfl rfl
set_option maxRecDepth 20000 in
theorem wv_V_judge : Cond.selects "DoorVoice" ⟨"DoorVoice", "judge", "(I)I"⟩ ⟨"DoorVoice", "judge", "(I)I"⟩ ∈ ax_T := ax_in 283 rfl rfl
set_option maxRecDepth 20000 in
theorem lm_V_119 : Cond.methodLink "DoorVoice" 119 ⟨"DoorVoice$Pad", "playsToTheEnd", "(LDoorVoice$Street;LDoorVoice$Street;)Z"⟩ ∈ ax_T := ax_in 285 rfl rfl
set_option maxRecDepth 20000 in
theorem wi_P_playsToTheEnd : Cond.instanceMethod ⟨"DoorVoice$Pad", "playsToTheEnd", "(LDoorVoice$Street;LDoorVoice$Street;)Z"⟩ ∈ ax_T := ax_in 286 rfl rfl
set_option maxRecDepth 20000 in
theorem wv_P_playsToTheEnd : Cond.selects "DoorVoice$Pad" ⟨"DoorVoice$Pad", "playsToTheEnd", "(LDoorVoice$Street;LDoorVoice$Street;)Z"⟩ ⟨"DoorVoice$Pad", "playsToTheEnd", "(LDoorVoice$Street;LDoorVoice$Street;)Z"⟩ ∈ ax_T := ax_in 287 rfl rfl
set_option maxRecDepth 20000 in
theorem lm_P_35 : Cond.methodLink "DoorVoice$Pad" 35 ⟨"DoorVoice$Pad", "faultPlace", "()I"⟩ ∈ ax_T := ax_in 289 rfl rfl
set_option maxRecDepth 20000 in
theorem lm_P_39 : Cond.methodLink "DoorVoice$Pad" 39 ⟨"DoorVoice$Street", "takeFrom", "(LDoorVoice$Street;)V"⟩ ∈ ax_T := ax_in 290 rfl rfl
set_option maxRecDepth 20000 in
theorem wi_S_takeFrom : Cond.instanceMethod ⟨"DoorVoice$Street", "takeFrom", "(LDoorVoice$Street;)V"⟩ ∈ ax_T := ax_in 291 rfl rfl
set_option maxRecDepth 20000 in
theorem wv_S_takeFrom : Cond.selects "DoorVoice$Street" ⟨"DoorVoice$Street", "takeFrom", "(LDoorVoice$Street;)V"⟩ ⟨"DoorVoice$Street", "takeFrom", "(LDoorVoice$Street;)V"⟩ ∈ ax_T := ax_in 292 rfl rfl
set_option maxRecDepth 20000 in
theorem lm_S_61 : Cond.methodLink "DoorVoice$Street" 61 ⟨"java/lang/System", "arraycopy", "(Ljava/lang/Object;ILjava/lang/Object;II)V"⟩ ∈ ax_T := ax_in 294 rfl rfl
set_option maxRecDepth 20000 in
theorem ws_Y_arraycopy : Cond.static ⟨"java/lang/System", "arraycopy", "(Ljava/lang/Object;ILjava/lang/Object;II)V"⟩ ∈ ax_T := ax_in 295 rfl rfl
set_option maxRecDepth 20000 in
theorem wx_native : Cond.native ⟨"java/lang/System", "arraycopy", "(Ljava/lang/Object;ILjava/lang/Object;II)V"⟩ ∈ ax_T := ax_in 296 rfl rfl
set_option maxRecDepth 20000 in
theorem lm_P_45 : Cond.methodLink "DoorVoice$Pad" 45 ⟨"DoorVoice$Pad", "numberOf", "(I)I"⟩ ∈ ax_T := ax_in 297 rfl rfl
set_option maxRecDepth 20000 in
theorem ws_P_numberOf : Cond.static ⟨"DoorVoice$Pad", "numberOf", "(I)I"⟩ ∈ ax_T := ax_in 298 rfl rfl
set_option maxRecDepth 20000 in
theorem lm_P_48 : Cond.methodLink "DoorVoice$Pad" 48 ⟨"DoorVoice$Pad", "playAct", "(LDoorVoice$Street;II)V"⟩ ∈ ax_T := ax_in 300 rfl rfl
set_option maxRecDepth 20000 in
theorem wi_P_playAct : Cond.instanceMethod ⟨"DoorVoice$Pad", "playAct", "(LDoorVoice$Street;II)V"⟩ ∈ ax_T := ax_in 302 rfl rfl
set_option maxRecDepth 20000 in
theorem lm_P_52 : Cond.methodLink "DoorVoice$Pad" 52 ⟨"DoorVoice$Street", "whyNot", "(II)I"⟩ ∈ ax_T := ax_in 304 rfl rfl
set_option maxRecDepth 20000 in
theorem wi_S_whyNot : Cond.instanceMethod ⟨"DoorVoice$Street", "whyNot", "(II)I"⟩ ∈ ax_T := ax_in 305 rfl rfl
set_option maxRecDepth 20000 in
theorem wv_S_whyNot : Cond.selects "DoorVoice$Street" ⟨"DoorVoice$Street", "whyNot", "(II)I"⟩ ⟨"DoorVoice$Street", "whyNot", "(II)I"⟩ ∈ ax_T := ax_in 306 rfl rfl
set_option maxRecDepth 20000 in
theorem ws_V_hasBit : Cond.static ⟨"DoorVoice", "hasBit", "(II)Z"⟩ ∈ ax_T := ax_in 309 rfl rfl
set_option maxRecDepth 20000 in
theorem lm_P_56 : Cond.methodLink "DoorVoice$Pad" 56 ⟨"DoorVoice$Pad", "goesAstray", "(LDoorVoice$Street;I)Z"⟩ ∈ ax_T := ax_in 311 rfl rfl
set_option maxRecDepth 20000 in
theorem ws_P_goesAstray : Cond.static ⟨"DoorVoice$Pad", "goesAstray", "(LDoorVoice$Street;I)Z"⟩ ∈ ax_T := ax_in 312 rfl rfl
set_option maxRecDepth 20000 in
theorem lm_P_70 : Cond.methodLink "DoorVoice$Pad" 70 ⟨"DoorVoice$Street", "hearers", "(II)I"⟩ ∈ ax_T := ax_in 314 rfl rfl
set_option maxRecDepth 20000 in
theorem wi_S_hearers : Cond.instanceMethod ⟨"DoorVoice$Street", "hearers", "(II)I"⟩ ∈ ax_T := ax_in 315 rfl rfl
set_option maxRecDepth 20000 in
theorem wv_S_hearers : Cond.selects "DoorVoice$Street" ⟨"DoorVoice$Street", "hearers", "(II)I"⟩ ⟨"DoorVoice$Street", "hearers", "(II)I"⟩ ∈ ax_T := ax_in 316 rfl rfl
set_option maxRecDepth 20000 in
theorem lm_S_73 : Cond.methodLink "DoorVoice$Street" 73 ⟨"DoorVoice$Street", "reached", "(II)I"⟩ ∈ ax_T := ax_in 318 rfl rfl
set_option maxRecDepth 20000 in
theorem wi_S_reached : Cond.instanceMethod ⟨"DoorVoice$Street", "reached", "(II)I"⟩ ∈ ax_T := ax_in 320 rfl rfl
set_option maxRecDepth 20000 in
theorem lm_P_60 : Cond.methodLink "DoorVoice$Pad" 60 ⟨"DoorVoice$Street", "carryOut", "(II)V"⟩ ∈ ax_T := ax_in 323 rfl rfl
set_option maxRecDepth 20000 in
theorem wi_S_carryOut : Cond.instanceMethod ⟨"DoorVoice$Street", "carryOut", "(II)V"⟩ ∈ ax_T := ax_in 324 rfl rfl
set_option maxRecDepth 20000 in
theorem wv_S_carryOut : Cond.selects "DoorVoice$Street" ⟨"DoorVoice$Street", "carryOut", "(II)V"⟩ ⟨"DoorVoice$Street", "carryOut", "(II)V"⟩ ∈ ax_T := ax_in 325 rfl rfl
set_option maxRecDepth 20000 in
theorem lm_S_80 : Cond.methodLink "DoorVoice$Street" 80 ⟨"DoorVoice$Street", "readOut", "(I)V"⟩ ∈ ax_T := ax_in 327 rfl rfl
set_option maxRecDepth 20000 in
theorem wi_S_readOut : Cond.instanceMethod ⟨"DoorVoice$Street", "readOut", "(I)V"⟩ ∈ ax_T := ax_in 329 rfl rfl
set_option maxRecDepth 20000 in
theorem lm_S_87 : Cond.methodLink "DoorVoice$Street" 87 ⟨"DoorVoice$Street", "hearers", "(II)I"⟩ ∈ ax_T := ax_in 331 rfl rfl
set_option maxRecDepth 20000 in
theorem lm_S_84 : Cond.methodLink "DoorVoice$Street" 84 ⟨"DoorVoice$Street", "passEvening", "()V"⟩ ∈ ax_T := ax_in 332 rfl rfl
set_option maxRecDepth 20000 in
theorem wi_S_passEvening : Cond.instanceMethod ⟨"DoorVoice$Street", "passEvening", "()V"⟩ ∈ ax_T := ax_in 334 rfl rfl
set_option maxRecDepth 20000 in
theorem lm_S_90 : Cond.methodLink "DoorVoice$Street" 90 ⟨"DoorVoice$Street", "tellsEastward", "(I)Z"⟩ ∈ ax_T := ax_in 336 rfl rfl
set_option maxRecDepth 20000 in
theorem wi_S_tellsEastward : Cond.instanceMethod ⟨"DoorVoice$Street", "tellsEastward", "(I)Z"⟩ ∈ ax_T := ax_in 338 rfl rfl
set_option maxRecDepth 20000 in
theorem lm_W_50 : Cond.methodLink "DoorVoiceLaw" 50 ⟨"DoorVoice", "done", "()I"⟩ ∈ ax_T := ax_in 340 rfl rfl
set_option maxRecDepth 20000 in
theorem wi_V_done : Cond.instanceMethod ⟨"DoorVoice", "done", "()I"⟩ ∈ ax_T := ax_in 341 rfl rfl
set_option maxRecDepth 20000 in
theorem wv_V_done : Cond.selects "DoorVoice" ⟨"DoorVoice", "done", "()I"⟩ ⟨"DoorVoice", "done", "()I"⟩ ∈ ax_T := ax_in 342 rfl rfl
set_option maxRecDepth 20000 in
theorem lm_V_129 : Cond.methodLink "DoorVoice" 129 ⟨"DoorVoice$Street", "takeFrom", "(LDoorVoice$Street;)V"⟩ ∈ ax_T := ax_in 344 rfl rfl
set_option maxRecDepth 20000 in
theorem lm_W_54 : Cond.methodLink "DoorVoiceLaw" 54 ⟨"DoorVoice", "knows", "(I)I"⟩ ∈ ax_T := ax_in 345 rfl rfl
set_option maxRecDepth 20000 in
theorem wi_V_knows : Cond.instanceMethod ⟨"DoorVoice", "knows", "(I)I"⟩ ∈ ax_T := ax_in 346 rfl rfl
set_option maxRecDepth 20000 in
theorem wv_V_knows : Cond.selects "DoorVoice" ⟨"DoorVoice", "knows", "(I)I"⟩ ⟨"DoorVoice", "knows", "(I)I"⟩ ∈ ax_T := ax_in 347 rfl rfl
set_option maxRecDepth 20000 in
theorem lm_W_58 : Cond.methodLink "DoorVoiceLaw" 58 ⟨"DoorVoice", "behind", "(I)I"⟩ ∈ ax_T := ax_in 349 rfl rfl
set_option maxRecDepth 20000 in
theorem wi_V_behind : Cond.instanceMethod ⟨"DoorVoice", "behind", "(I)I"⟩ ∈ ax_T := ax_in 350 rfl rfl
set_option maxRecDepth 20000 in
theorem wv_V_behind : Cond.selects "DoorVoice" ⟨"DoorVoice", "behind", "(I)I"⟩ ⟨"DoorVoice", "behind", "(I)I"⟩ ∈ ax_T := ax_in 351 rfl rfl
set_option maxRecDepth 20000 in
theorem lm_W_62 : Cond.methodLink "DoorVoiceLaw" 62 ⟨"DoorVoice", "who", "(I)I"⟩ ∈ ax_T := ax_in 353 rfl rfl
set_option maxRecDepth 20000 in
theorem wi_V_who : Cond.instanceMethod ⟨"DoorVoice", "who", "(I)I"⟩ ∈ ax_T := ax_in 354 rfl rfl
set_option maxRecDepth 20000 in
theorem wv_V_who : Cond.selects "DoorVoice" ⟨"DoorVoice", "who", "(I)I"⟩ ⟨"DoorVoice", "who", "(I)I"⟩ ∈ ax_T := ax_in 355 rfl rfl
set_option maxRecDepth 20000 in
theorem lm_V_142 : Cond.methodLink "DoorVoice" 142 ⟨"DoorVoice", "hasBit", "(II)Z"⟩ ∈ ax_T := ax_in 357 rfl rfl
set_option maxRecDepth 20000 in
theorem lm_W_66 : Cond.methodLink "DoorVoiceLaw" 66 ⟨"DoorVoice", "loud", "(II)I"⟩ ∈ ax_T := ax_in 358 rfl rfl
set_option maxRecDepth 20000 in
theorem wi_V_loud : Cond.instanceMethod ⟨"DoorVoice", "loud", "(II)I"⟩ ∈ ax_T := ax_in 359 rfl rfl
set_option maxRecDepth 20000 in
theorem wv_V_loud : Cond.selects "DoorVoice" ⟨"DoorVoice", "loud", "(II)I"⟩ ⟨"DoorVoice", "loud", "(II)I"⟩ ∈ ax_T := ax_in 360 rfl rfl
set_option maxRecDepth 20000 in
theorem lm_V_146 : Cond.methodLink "DoorVoice" 146 ⟨"DoorVoice$Street", "loudness", "(II)I"⟩ ∈ ax_T := ax_in 362 rfl rfl
set_option maxRecDepth 20000 in
theorem wi_S_loudness : Cond.instanceMethod ⟨"DoorVoice$Street", "loudness", "(II)I"⟩ ∈ ax_T := ax_in 363 rfl rfl
set_option maxRecDepth 20000 in
theorem wv_S_loudness : Cond.selects "DoorVoice$Street" ⟨"DoorVoice$Street", "loudness", "(II)I"⟩ ⟨"DoorVoice$Street", "loudness", "(II)I"⟩ ∈ ax_T := ax_in 364 rfl rfl
set_option maxRecDepth 20000 in
theorem lm_S_67 : Cond.methodLink "DoorVoice$Street" 67 ⟨"java/lang/Math", "max", "(II)I"⟩ ∈ ax_T := ax_in 366 rfl rfl
set_option maxRecDepth 20000 in
theorem ws_H_max : Cond.static ⟨"java/lang/Math", "max", "(II)I"⟩ ∈ ax_T := ax_in 367 rfl rfl
set_option maxRecDepth 20000 in
theorem lm_W_70 : Cond.methodLink "DoorVoiceLaw" 70 ⟨"DoorVoice", "hears", "(I)I"⟩ ∈ ax_T := ax_in 369 rfl rfl
set_option maxRecDepth 20000 in
theorem wi_V_hears : Cond.instanceMethod ⟨"DoorVoice", "hears", "(I)I"⟩ ∈ ax_T := ax_in 370 rfl rfl
set_option maxRecDepth 20000 in
theorem wv_V_hears : Cond.selects "DoorVoice" ⟨"DoorVoice", "hears", "(I)I"⟩ ⟨"DoorVoice", "hears", "(I)I"⟩ ∈ ax_T := ax_in 371 rfl rfl
set_option maxRecDepth 20000 in
theorem lm_V_150 : Cond.methodLink "DoorVoice" 150 ⟨"DoorVoice$Street", "hearers", "(II)I"⟩ ∈ ax_T := ax_in 373 rfl rfl
set_option maxRecDepth 20000 in
theorem lm_W_74 : Cond.methodLink "DoorVoiceLaw" 74 ⟨"DoorVoice", "best", "(II)I"⟩ ∈ ax_T := ax_in 374 rfl rfl
set_option maxRecDepth 20000 in
theorem wi_V_best : Cond.instanceMethod ⟨"DoorVoice", "best", "(II)I"⟩ ∈ ax_T := ax_in 375 rfl rfl
set_option maxRecDepth 20000 in
theorem wv_V_best : Cond.selects "DoorVoice" ⟨"DoorVoice", "best", "(II)I"⟩ ⟨"DoorVoice", "best", "(II)I"⟩ ∈ ax_T := ax_in 376 rfl rfl
set_option maxRecDepth 20000 in
theorem lm_V_153 : Cond.methodLink "DoorVoice" 153 ⟨"DoorVoice$Listener", "listen", "(LDoorVoice$Street;)V"⟩ ∈ ax_T := ax_in 378 rfl rfl
set_option maxRecDepth 20000 in
theorem wi_L_listen : Cond.instanceMethod ⟨"DoorVoice$Listener", "listen", "(LDoorVoice$Street;)V"⟩ ∈ ax_T := ax_in 379 rfl rfl
set_option maxRecDepth 20000 in
theorem wv_L_listen : Cond.selects "DoorVoice$Listener" ⟨"DoorVoice$Listener", "listen", "(LDoorVoice$Street;)V"⟩ ⟨"DoorVoice$Listener", "listen", "(LDoorVoice$Street;)V"⟩ ∈ ax_T := ax_in 380 rfl rfl
set_option maxRecDepth 20000 in
theorem lm_L_24 : Cond.methodLink "DoorVoice$Listener" 24 ⟨"DoorVoice$Street", "hearers", "(II)I"⟩ ∈ ax_T := ax_in 382 rfl rfl
set_option maxRecDepth 20000 in
theorem lm_L_28 : Cond.methodLink "DoorVoice$Listener" 28 ⟨"DoorVoice$Listener", "placesFor", "(I)I"⟩ ∈ ax_T := ax_in 383 rfl rfl
set_option maxRecDepth 20000 in
theorem wi_L_placesFor : Cond.instanceMethod ⟨"DoorVoice$Listener", "placesFor", "(I)I"⟩ ∈ ax_T := ax_in 385 rfl rfl
set_option maxRecDepth 20000 in
theorem lm_V_156 : Cond.methodLink "DoorVoice" 156 ⟨"DoorVoice$Listener", "bestFor", "(IZ)I"⟩ ∈ ax_T := ax_in 388 rfl rfl
set_option maxRecDepth 20000 in
theorem wi_L_bestFor : Cond.instanceMethod ⟨"DoorVoice$Listener", "bestFor", "(IZ)I"⟩ ∈ ax_T := ax_in 389 rfl rfl
set_option maxRecDepth 20000 in
theorem wv_L_bestFor : Cond.selects "DoorVoice$Listener" ⟨"DoorVoice$Listener", "bestFor", "(IZ)I"⟩ ⟨"DoorVoice$Listener", "bestFor", "(IZ)I"⟩ ∈ ax_T := ax_in 390 rfl rfl
set_option maxRecDepth 20000 in
theorem lm_L_36 : Cond.methodLink "DoorVoice$Listener" 36 ⟨"java/lang/Integer", "bitCount", "(I)I"⟩ ∈ ax_T := ax_in 392 rfl rfl
set_option maxRecDepth 20000 in
theorem ws_B_bitCount : Cond.static ⟨"java/lang/Integer", "bitCount", "(I)I"⟩ ∈ ax_T := ax_in 393 rfl rfl
set_option maxRecDepth 20000 in
theorem lc_B_265 : Cond.constant "java/lang/Integer" 265 (1431655765) ∈ ax_T := ax_in 395 rfl rfl
set_option maxRecDepth 20000 in
theorem lc_B_266 : Cond.constant "java/lang/Integer" 266 (858993459) ∈ ax_T := ax_in 396 rfl rfl
set_option maxRecDepth 20000 in
theorem lc_B_267 : Cond.constant "java/lang/Integer" 267 (252645135) ∈ ax_T := ax_in 397 rfl rfl
set_option maxRecDepth 20000 in
theorem lm_W_78 : Cond.methodLink "DoorVoiceLaw" 78 ⟨"DoorVoice", "thirds", "(II)I"⟩ ∈ ax_T := ax_in 398 rfl rfl
set_option maxRecDepth 20000 in
theorem wi_V_thirds : Cond.instanceMethod ⟨"DoorVoice", "thirds", "(II)I"⟩ ∈ ax_T := ax_in 399 rfl rfl
set_option maxRecDepth 20000 in
theorem wv_V_thirds : Cond.selects "DoorVoice" ⟨"DoorVoice", "thirds", "(II)I"⟩ ⟨"DoorVoice", "thirds", "(II)I"⟩ ∈ ax_T := ax_in 400 rfl rfl
set_option maxRecDepth 20000 in
theorem lm_V_160 : Cond.methodLink "DoorVoice" 160 ⟨"DoorVoice$Listener", "thirdsFor", "(IZ)I"⟩ ∈ ax_T := ax_in 402 rfl rfl
set_option maxRecDepth 20000 in
theorem wi_L_thirdsFor : Cond.instanceMethod ⟨"DoorVoice$Listener", "thirdsFor", "(IZ)I"⟩ ∈ ax_T := ax_in 403 rfl rfl
set_option maxRecDepth 20000 in
theorem wv_L_thirdsFor : Cond.selects "DoorVoice$Listener" ⟨"DoorVoice$Listener", "thirdsFor", "(IZ)I"⟩ ⟨"DoorVoice$Listener", "thirdsFor", "(IZ)I"⟩ ∈ ax_T := ax_in 404 rfl rfl
set_option maxRecDepth 20000 in
theorem lm_W_82 : Cond.methodLink "DoorVoiceLaw" 82 ⟨"DoorVoice", "round", "(II)I"⟩ ∈ ax_T := ax_in 406 rfl rfl
set_option maxRecDepth 20000 in
theorem wi_V_round : Cond.instanceMethod ⟨"DoorVoice", "round", "(II)I"⟩ ∈ ax_T := ax_in 407 rfl rfl
set_option maxRecDepth 20000 in
theorem wv_V_round : Cond.selects "DoorVoice" ⟨"DoorVoice", "round", "(II)I"⟩ ⟨"DoorVoice", "round", "(II)I"⟩ ∈ ax_T := ax_in 408 rfl rfl
set_option maxRecDepth 20000 in
theorem lm_V_163 : Cond.methodLink "DoorVoice" 163 ⟨"DoorVoice$Listener", "leastWalk", "(LDoorVoice$Street;IZ)I"⟩ ∈ ax_T := ax_in 410 rfl rfl
set_option maxRecDepth 20000 in
theorem wi_L_leastWalk : Cond.instanceMethod ⟨"DoorVoice$Listener", "leastWalk", "(LDoorVoice$Street;IZ)I"⟩ ∈ ax_T := ax_in 411 rfl rfl
set_option maxRecDepth 20000 in
theorem wv_L_leastWalk : Cond.selects "DoorVoice$Listener" ⟨"DoorVoice$Listener", "leastWalk", "(LDoorVoice$Street;IZ)I"⟩ ⟨"DoorVoice$Listener", "leastWalk", "(LDoorVoice$Street;IZ)I"⟩ ∈ ax_T := ax_in 412 rfl rfl
set_option maxRecDepth 20000 in
theorem lm_L_44 : Cond.methodLink "DoorVoice$Listener" 44 ⟨"java/lang/Math", "min", "(II)I"⟩ ∈ ax_T := ax_in 414 rfl rfl
set_option maxRecDepth 20000 in
theorem ws_H_min : Cond.static ⟨"java/lang/Math", "min", "(II)I"⟩ ∈ ax_T := ax_in 415 rfl rfl
set_option maxRecDepth 20000 in
theorem lm_L_49 : Cond.methodLink "DoorVoice$Listener" 49 ⟨"DoorVoice$Listener", "allCanBeRead", "(LDoorVoice$Street;III)Z"⟩ ∈ ax_T := ax_in 417 rfl rfl
set_option maxRecDepth 20000 in
theorem wi_L_allCanBeRead : Cond.instanceMethod ⟨"DoorVoice$Listener", "allCanBeRead", "(LDoorVoice$Street;III)Z"⟩ ∈ ax_T := ax_in 419 rfl rfl
set_option maxRecDepth 20000 in
theorem lm_W_86 : Cond.methodLink "DoorVoiceLaw" 86 ⟨"DoorVoice", "seen", "(IZ)I"⟩ ∈ ax_T := ax_in 421 rfl rfl
set_option maxRecDepth 20000 in
theorem wi_V_seen : Cond.instanceMethod ⟨"DoorVoice", "seen", "(IZ)I"⟩ ∈ ax_T := ax_in 422 rfl rfl
set_option maxRecDepth 20000 in
theorem wv_V_seen : Cond.selects "DoorVoice" ⟨"DoorVoice", "seen", "(IZ)I"⟩ ⟨"DoorVoice", "seen", "(IZ)I"⟩ ∈ ax_T := ax_in 423 rfl rfl
set_option maxRecDepth 20000 in
theorem lm_W_91 : Cond.methodLink "DoorVoiceLaw" 91 ⟨"DoorVoice", "forget", "()I"⟩ ∈ ax_T := ax_in 425 rfl rfl
set_option maxRecDepth 20000 in
theorem wi_V_forget : Cond.instanceMethod ⟨"DoorVoice", "forget", "()I"⟩ ∈ ax_T := ax_in 426 rfl rfl
set_option maxRecDepth 20000 in
theorem wv_V_forget : Cond.selects "DoorVoice" ⟨"DoorVoice", "forget", "()I"⟩ ⟨"DoorVoice", "forget", "()I"⟩ ∈ ax_T := ax_in 427 rfl rfl
set_option maxRecDepth 20000 in
theorem lm_W_95 : Cond.methodLink "DoorVoiceLaw" 95 ⟨"DoorVoice", "at", "()I"⟩ ∈ ax_T := ax_in 429 rfl rfl
set_option maxRecDepth 20000 in
theorem wi_V_at : Cond.instanceMethod ⟨"DoorVoice", "at", "()I"⟩ ∈ ax_T := ax_in 430 rfl rfl
set_option maxRecDepth 20000 in
theorem wv_V_at : Cond.selects "DoorVoice" ⟨"DoorVoice", "at", "()I"⟩ ⟨"DoorVoice", "at", "()I"⟩ ∈ ax_T := ax_in 431 rfl rfl
set_option maxRecDepth 20000 in
theorem lm_V_176 : Cond.methodLink "DoorVoice" 176 ⟨"DoorVoice$Listener", "placesThatFit", "(LDoorVoice$Street;)I"⟩ ∈ ax_T := ax_in 433 rfl rfl
set_option maxRecDepth 20000 in
theorem wi_L_placesThatFit : Cond.instanceMethod ⟨"DoorVoice$Listener", "placesThatFit", "(LDoorVoice$Street;)I"⟩ ∈ ax_T := ax_in 434 rfl rfl
set_option maxRecDepth 20000 in
theorem wv_L_placesThatFit : Cond.selects "DoorVoice$Listener" ⟨"DoorVoice$Listener", "placesThatFit", "(LDoorVoice$Street;)I"⟩ ⟨"DoorVoice$Listener", "placesThatFit", "(LDoorVoice$Street;)I"⟩ ∈ ax_T := ax_in 435 rfl rfl
set_option maxRecDepth 20000 in
theorem lm_W_99 : Cond.methodLink "DoorVoiceLaw" 99 ⟨"DoorVoice", "ask", "(I)I"⟩ ∈ ax_T := ax_in 437 rfl rfl
set_option maxRecDepth 20000 in
theorem wi_V_ask : Cond.instanceMethod ⟨"DoorVoice", "ask", "(I)I"⟩ ∈ ax_T := ax_in 438 rfl rfl
set_option maxRecDepth 20000 in
theorem wv_V_ask : Cond.selects "DoorVoice" ⟨"DoorVoice", "ask", "(I)I"⟩ ⟨"DoorVoice", "ask", "(I)I"⟩ ∈ ax_T := ax_in 439 rfl rfl
set_option maxRecDepth 20000 in
theorem lm_V_180 : Cond.methodLink "DoorVoice" 180 ⟨"DoorVoice$Listener", "bestToAsk", "(IZ)I"⟩ ∈ ax_T := ax_in 441 rfl rfl
set_option maxRecDepth 20000 in
theorem wi_L_bestToAsk : Cond.instanceMethod ⟨"DoorVoice$Listener", "bestToAsk", "(IZ)I"⟩ ∈ ax_T := ax_in 442 rfl rfl
set_option maxRecDepth 20000 in
theorem wv_L_bestToAsk : Cond.selects "DoorVoice$Listener" ⟨"DoorVoice$Listener", "bestToAsk", "(IZ)I"⟩ ⟨"DoorVoice$Listener", "bestToAsk", "(IZ)I"⟩ ∈ ax_T := ax_in 443 rfl rfl
set_option maxRecDepth 20000 in
theorem lm_L_62 : Cond.methodLink "DoorVoice$Listener" 62 ⟨"java/lang/Math", "max", "(II)I"⟩ ∈ ax_T := ax_in 445 rfl rfl
set_option maxRecDepth 20000 in
theorem lm_W_103 : Cond.methodLink "DoorVoiceLaw" 103 ⟨"DoorVoice", "rumour", "(II)I"⟩ ∈ ax_T := ax_in 446 rfl rfl
set_option maxRecDepth 20000 in
theorem wi_V_rumour : Cond.instanceMethod ⟨"DoorVoice", "rumour", "(II)I"⟩ ∈ ax_T := ax_in 447 rfl rfl
set_option maxRecDepth 20000 in
theorem wv_V_rumour : Cond.selects "DoorVoice" ⟨"DoorVoice", "rumour", "(II)I"⟩ ⟨"DoorVoice", "rumour", "(II)I"⟩ ∈ ax_T := ax_in 448 rfl rfl
set_option maxRecDepth 20000 in
theorem lm_V_183 : Cond.methodLink "DoorVoice" 183 ⟨"DoorVoice$Street", "eveningsOfRumour", "(I)I"⟩ ∈ ax_T := ax_in 450 rfl rfl
set_option maxRecDepth 20000 in
theorem wi_S_eveningsOfRumour : Cond.instanceMethod ⟨"DoorVoice$Street", "eveningsOfRumour", "(I)I"⟩ ∈ ax_T := ax_in 451 rfl rfl
set_option maxRecDepth 20000 in
theorem wv_S_eveningsOfRumour : Cond.selects "DoorVoice$Street" ⟨"DoorVoice$Street", "eveningsOfRumour", "(I)I"⟩ ⟨"DoorVoice$Street", "eveningsOfRumour", "(I)I"⟩ ∈ ax_T := ax_in 452 rfl rfl
set_option maxRecDepth 20000 in
theorem lm_S_94 : Cond.methodLink "DoorVoice$Street" 94 ⟨"DoorVoice$Street", "toldOnward", "(I)I"⟩ ∈ ax_T := ax_in 454 rfl rfl
set_option maxRecDepth 20000 in
theorem wi_S_toldOnward : Cond.instanceMethod ⟨"DoorVoice$Street", "toldOnward", "(I)I"⟩ ∈ ax_T := ax_in 456 rfl rfl
set_option maxRecDepth 20000 in
theorem lm_V_186 : Cond.methodLink "DoorVoice" 186 ⟨"DoorVoice$Street", "knowersOfRumour", "(II)I"⟩ ∈ ax_T := ax_in 458 rfl rfl
set_option maxRecDepth 20000 in
theorem wi_S_knowersOfRumour : Cond.instanceMethod ⟨"DoorVoice$Street", "knowersOfRumour", "(II)I"⟩ ∈ ax_T := ax_in 459 rfl rfl
set_option maxRecDepth 20000 in
theorem wv_S_knowersOfRumour : Cond.selects "DoorVoice$Street" ⟨"DoorVoice$Street", "knowersOfRumour", "(II)I"⟩ ⟨"DoorVoice$Street", "knowersOfRumour", "(II)I"⟩ ∈ ax_T := ax_in 460 rfl rfl
set_option maxRecDepth 20000 in
theorem lm_V_189 : Cond.methodLink "DoorVoice" 189 ⟨"java/lang/Integer", "bitCount", "(I)I"⟩ ∈ ax_T := ax_in 462 rfl rfl
set_option maxRecDepth 20000 in
theorem lm_W_107 : Cond.methodLink "DoorVoiceLaw" 107 ⟨"DoorVoice", "chance", "(IIII)J"⟩ ∈ ax_T := ax_in 463 rfl rfl
set_option maxRecDepth 20000 in
theorem wi_V_chance : Cond.instanceMethod ⟨"DoorVoice", "chance", "(IIII)J"⟩ ∈ ax_T := ax_in 464 rfl rfl
set_option maxRecDepth 20000 in
theorem wv_V_chance : Cond.selects "DoorVoice" ⟨"DoorVoice", "chance", "(IIII)J"⟩ ⟨"DoorVoice", "chance", "(IIII)J"⟩ ∈ ax_T := ax_in 465 rfl rfl
set_option maxRecDepth 20000 in
theorem lc_V_194 : Cond.constantLong "DoorVoice" 194 (-1000000000000000001) ∈ ax_T := ax_in 467 rfl rfl
set_option maxRecDepth 20000 in
theorem lc_V_196 : Cond.constantLong "DoorVoice" 196 (-1000000000000000002) ∈ ax_T := ax_in 468 rfl rfl
set_option maxRecDepth 20000 in
theorem lm_V_198 : Cond.methodLink "DoorVoice" 198 ⟨"DoorVoice$Chances", "weigh", "(LDoorVoice$Street;I)V"⟩ ∈ ax_T := ax_in 469 rfl rfl
set_option maxRecDepth 20000 in
theorem wi_C_weigh : Cond.instanceMethod ⟨"DoorVoice$Chances", "weigh", "(LDoorVoice$Street;I)V"⟩ ∈ ax_T := ax_in 470 rfl rfl
set_option maxRecDepth 20000 in
theorem wv_C_weigh : Cond.selects "DoorVoice$Chances" ⟨"DoorVoice$Chances", "weigh", "(LDoorVoice$Street;I)V"⟩ ⟨"DoorVoice$Chances", "weigh", "(LDoorVoice$Street;I)V"⟩ ∈ ax_T := ax_in 471 rfl rfl
set_option maxRecDepth 20000 in
theorem lm_C_29 : Cond.methodLink "DoorVoice$Chances" 29 ⟨"DoorVoice$Street", "hearers", "(II)I"⟩ ∈ ax_T := ax_in 473 rfl rfl
set_option maxRecDepth 20000 in
theorem lm_C_35 : Cond.methodLink "DoorVoice$Chances" 35 ⟨"java/lang/Integer", "bitCount", "(I)I"⟩ ∈ ax_T := ax_in 474 rfl rfl
set_option maxRecDepth 20000 in
theorem lm_V_202 : Cond.methodLink "DoorVoice" 202 ⟨"DoorVoice$Chances", "findMean", "(I)V"⟩ ∈ ax_T := ax_in 475 rfl rfl
set_option maxRecDepth 20000 in
theorem wi_C_findMean : Cond.instanceMethod ⟨"DoorVoice$Chances", "findMean", "(I)V"⟩ ∈ ax_T := ax_in 476 rfl rfl
set_option maxRecDepth 20000 in
theorem wv_C_findMean : Cond.selects "DoorVoice$Chances" ⟨"DoorVoice$Chances", "findMean", "(I)V"⟩ ⟨"DoorVoice$Chances", "findMean", "(I)V"⟩ ∈ ax_T := ax_in 477 rfl rfl
set_option maxRecDepth 20000 in
theorem lc_C_41 : Cond.constantLong "DoorVoice$Chances" 41 (10) ∈ ax_T := ax_in 479 rfl rfl
set_option maxRecDepth 20000 in
theorem lm_C_43 : Cond.methodLink "DoorVoice$Chances" 43 ⟨"DoorVoice$Chances", "putLowest", "(JJ)V"⟩ ∈ ax_T := ax_in 480 rfl rfl
set_option maxRecDepth 20000 in
theorem wi_C_putLowest : Cond.instanceMethod ⟨"DoorVoice$Chances", "putLowest", "(JJ)V"⟩ ∈ ax_T := ax_in 482 rfl rfl
set_option maxRecDepth 20000 in
theorem lm_C_51 : Cond.methodLink "DoorVoice$Chances" 51 ⟨"DoorVoice$Chances", "greatestDivisor", "(JJ)J"⟩ ∈ ax_T := ax_in 484 rfl rfl
set_option maxRecDepth 20000 in
theorem ws_C_greatestDivisor : Cond.static ⟨"DoorVoice$Chances", "greatestDivisor", "(JJ)J"⟩ ∈ ax_T := ax_in 485 rfl rfl
set_option maxRecDepth 20000 in
theorem lm_V_206 : Cond.methodLink "DoorVoice" 206 ⟨"DoorVoice$Chances", "findAtMost", "(II)V"⟩ ∈ ax_T := ax_in 487 rfl rfl
set_option maxRecDepth 20000 in
theorem wi_C_findAtMost : Cond.instanceMethod ⟨"DoorVoice$Chances", "findAtMost", "(II)V"⟩ ∈ ax_T := ax_in 488 rfl rfl
set_option maxRecDepth 20000 in
theorem wv_C_findAtMost : Cond.selects "DoorVoice$Chances" ⟨"DoorVoice$Chances", "findAtMost", "(II)V"⟩ ⟨"DoorVoice$Chances", "findAtMost", "(II)V"⟩ ∈ ax_T := ax_in 489 rfl rfl
set_option maxRecDepth 20000 in
theorem lm_C_47 : Cond.methodLink "DoorVoice$Chances" 47 ⟨"DoorVoice$Chances", "countWays", "(I)V"⟩ ∈ ax_T := ax_in 491 rfl rfl
set_option maxRecDepth 20000 in
theorem wi_C_countWays : Cond.instanceMethod ⟨"DoorVoice$Chances", "countWays", "(I)V"⟩ ∈ ax_T := ax_in 493 rfl rfl
set_option maxRecDepth 20000 in
theorem lm_W_112 : Cond.methodLink "DoorVoiceLaw" 112 ⟨"DoorVoice", "year", "(III)I"⟩ ∈ ax_T := ax_in 495 rfl rfl
set_option maxRecDepth 20000 in
theorem wi_V_year : Cond.instanceMethod ⟨"DoorVoice", "year", "(III)I"⟩ ∈ ax_T := ax_in 496 rfl rfl
set_option maxRecDepth 20000 in
theorem wv_V_year : Cond.selects "DoorVoice" ⟨"DoorVoice", "year", "(III)I"⟩ ⟨"DoorVoice", "year", "(III)I"⟩ ∈ ax_T := ax_in 497 rfl rfl
set_option maxRecDepth 20000 in
theorem lm_V_217 : Cond.methodLink "DoorVoice" 217 ⟨"DoorVoice$Street", "drawYear", "(II)V"⟩ ∈ ax_T := ax_in 499 rfl rfl
set_option maxRecDepth 20000 in
theorem wi_S_drawYear : Cond.instanceMethod ⟨"DoorVoice$Street", "drawYear", "(II)V"⟩ ∈ ax_T := ax_in 500 rfl rfl
set_option maxRecDepth 20000 in
theorem wv_S_drawYear : Cond.selects "DoorVoice$Street" ⟨"DoorVoice$Street", "drawYear", "(II)V"⟩ ⟨"DoorVoice$Street", "drawYear", "(II)V"⟩ ∈ ax_T := ax_in 501 rfl rfl
set_option maxRecDepth 20000 in
theorem lc_S_98 : Cond.constant "DoorVoice$Street" 98 (65537) ∈ ax_T := ax_in 503 rfl rfl
set_option maxRecDepth 20000 in
theorem lm_S_99 : Cond.methodLink "DoorVoice$Street" 99 ⟨"DoorVoice$Street", "drawnKind", "(I)I"⟩ ∈ ax_T := ax_in 504 rfl rfl
set_option maxRecDepth 20000 in
theorem ws_S_drawnKind : Cond.static ⟨"DoorVoice$Street", "drawnKind", "(I)I"⟩ ∈ ax_T := ax_in 505 rfl rfl
set_option maxRecDepth 20000 in
theorem lm_S_102 : Cond.methodLink "DoorVoice$Street" 102 ⟨"DoorVoice$Street", "whyNot", "(II)I"⟩ ∈ ax_T := ax_in 507 rfl rfl
set_option maxRecDepth 20000 in
theorem lm_S_105 : Cond.methodLink "DoorVoice$Street" 105 ⟨"DoorVoice$Street", "carryOut", "(II)V"⟩ ∈ ax_T := ax_in 508 rfl rfl
set_option maxRecDepth 20000 in
theorem lm_V_220 : Cond.methodLink "DoorVoice" 220 ⟨"DoorVoice$Street", "factsKnown", "()I"⟩ ∈ ax_T := ax_in 509 rfl rfl
set_option maxRecDepth 20000 in
theorem wi_S_factsKnown : Cond.instanceMethod ⟨"DoorVoice$Street", "factsKnown", "()I"⟩ ∈ ax_T := ax_in 510 rfl rfl
set_option maxRecDepth 20000 in
theorem wv_S_factsKnown : Cond.selects "DoorVoice$Street" ⟨"DoorVoice$Street", "factsKnown", "()I"⟩ ⟨"DoorVoice$Street", "factsKnown", "()I"⟩ ∈ ax_T := ax_in 511 rfl rfl
set_option maxRecDepth 20000 in
theorem lm_S_109 : Cond.methodLink "DoorVoice$Street" 109 ⟨"java/lang/Integer", "bitCount", "(I)I"⟩ ∈ ax_T := ax_in 513 rfl rfl
set_option maxRecDepth 20000 in
theorem lm_W_117 : Cond.methodLink "DoorVoiceLaw" 117 ⟨"DoorVoice", "image", "(I)I"⟩ ∈ ax_T := ax_in 514 rfl rfl
set_option maxRecDepth 20000 in
theorem wi_V_image : Cond.instanceMethod ⟨"DoorVoice", "image", "(I)I"⟩ ∈ ax_T := ax_in 515 rfl rfl
set_option maxRecDepth 20000 in
theorem wv_V_image : Cond.selects "DoorVoice" ⟨"DoorVoice", "image", "(I)I"⟩ ⟨"DoorVoice", "image", "(I)I"⟩ ∈ ax_T := ax_in 516 rfl rfl
set_option maxRecDepth 20000 in
theorem lm_V_223 : Cond.methodLink "DoorVoice" 223 ⟨"DoorVoice", "imageNumbered", "(I)LDoorVoice$Street;"⟩ ∈ ax_T := ax_in 518 rfl rfl
set_option maxRecDepth 20000 in
theorem wi_V_imageNumbered : Cond.instanceMethod ⟨"DoorVoice", "imageNumbered", "(I)LDoorVoice$Street;"⟩ ∈ ax_T := ax_in 520 rfl rfl
set_option maxRecDepth 20000 in
theorem lm_W_121 : Cond.methodLink "DoorVoiceLaw" 121 ⟨"DoorVoice", "restore", "(I)I"⟩ ∈ ax_T := ax_in 522 rfl rfl
set_option maxRecDepth 20000 in
theorem wi_V_restore : Cond.instanceMethod ⟨"DoorVoice", "restore", "(I)I"⟩ ∈ ax_T := ax_in 523 rfl rfl
set_option maxRecDepth 20000 in
theorem wv_V_restore : Cond.selects "DoorVoice" ⟨"DoorVoice", "restore", "(I)I"⟩ ⟨"DoorVoice", "restore", "(I)I"⟩ ∈ ax_T := ax_in 524 rfl rfl
set_option maxRecDepth 20000 in
theorem lm_W_125 : Cond.methodLink "DoorVoiceLaw" 125 ⟨"DoorVoice", "told", "(I)I"⟩ ∈ ax_T := ax_in 526 rfl rfl
set_option maxRecDepth 20000 in
theorem wi_V_told : Cond.instanceMethod ⟨"DoorVoice", "told", "(I)I"⟩ ∈ ax_T := ax_in 527 rfl rfl
set_option maxRecDepth 20000 in
theorem wv_V_told : Cond.selects "DoorVoice" ⟨"DoorVoice", "told", "(I)I"⟩ ⟨"DoorVoice", "told", "(I)I"⟩ ∈ ax_T := ax_in 528 rfl rfl
set_option maxRecDepth 20000 in
theorem lm_V_227 : Cond.methodLink "DoorVoice" 227 ⟨"DoorVoice", "toldOfAll", "(I)I"⟩ ∈ ax_T := ax_in 530 rfl rfl
set_option maxRecDepth 20000 in
theorem wi_V_toldOfAll : Cond.instanceMethod ⟨"DoorVoice", "toldOfAll", "(I)I"⟩ ∈ ax_T := ax_in 532 rfl rfl
set_option maxRecDepth 20000 in
theorem lm_V_230 : Cond.methodLink "DoorVoice" 230 ⟨"DoorVoice", "toldOfLetter", "(II)I"⟩ ∈ ax_T := ax_in 534 rfl rfl
set_option maxRecDepth 20000 in
theorem wi_V_toldOfLetter : Cond.instanceMethod ⟨"DoorVoice", "toldOfLetter", "(II)I"⟩ ∈ ax_T := ax_in 536 rfl rfl
set_option maxRecDepth 20000 in
theorem lk_W_10 : Cond.classLink "DoorVoiceLaw" 10 "DoorVoiceModel" ∈ ax_T := ax_in 538 rfl rfl
set_option maxRecDepth 20000 in
theorem wt_M : Cond.instantiable "DoorVoiceModel" 20 ∈ ax_T := ax_in 539 rfl rfl
set_option maxRecDepth 20000 in
theorem lm_W_12 : Cond.methodLink "DoorVoiceLaw" 12 ⟨"DoorVoiceModel", "<init>", "()V"⟩ ∈ ax_T := ax_in 540 rfl rfl
set_option maxRecDepth 20000 in
theorem wi_M_init : Cond.instanceMethod ⟨"DoorVoiceModel", "<init>", "()V"⟩ ∈ ax_T := ax_in 541 rfl rfl
set_option maxRecDepth 20000 in
theorem lm_M_1 : Cond.methodLink "DoorVoiceModel" 1 ⟨"java/lang/Object", "<init>", "()V"⟩ ∈ ax_T := ax_in 543 rfl rfl
set_option maxRecDepth 20000 in
theorem wa_boolean : Cond.arrayClass .boolean ∈ ax_T := ax_in 605 rfl rfl
set_option maxRecDepth 20000 in
theorem lm_W_17 : Cond.methodLink "DoorVoiceLaw" 17 ⟨"DoorVoiceModel", "house", "(IZZI)I"⟩ ∈ ax_T := ax_in 606 rfl rfl
set_option maxRecDepth 20000 in
theorem wi_M_house : Cond.instanceMethod ⟨"DoorVoiceModel", "house", "(IZZI)I"⟩ ∈ ax_T := ax_in 607 rfl rfl
set_option maxRecDepth 20000 in
theorem wv_M_house : Cond.selects "DoorVoiceModel" ⟨"DoorVoiceModel", "house", "(IZZI)I"⟩ ⟨"DoorVoiceModel", "house", "(IZZI)I"⟩ ∈ ax_T := ax_in 608 rfl rfl
set_option maxRecDepth 20000 in
theorem lm_M_56 : Cond.methodLink "DoorVoiceModel" 56 ⟨"DoorVoiceModel", "isHouse", "(I)Z"⟩ ∈ ax_T := ax_in 610 rfl rfl
set_option maxRecDepth 20000 in
theorem ws_M_isHouse : Cond.static ⟨"DoorVoiceModel", "isHouse", "(I)Z"⟩ ∈ ax_T := ax_in 611 rfl rfl
set_option maxRecDepth 20000 in
theorem lm_M_52 : Cond.methodLink "DoorVoiceModel" 52 ⟨"DoorVoiceModel", "in", "(III)Z"⟩ ∈ ax_T := ax_in 613 rfl rfl
set_option maxRecDepth 20000 in
theorem ws_M_in : Cond.static ⟨"DoorVoiceModel", "in", "(III)Z"⟩ ∈ ax_T := ax_in 614 rfl rfl
set_option maxRecDepth 20000 in
theorem lm_W_22 : Cond.methodLink "DoorVoiceLaw" 22 ⟨"DoorVoiceModel", "wall", "(II)I"⟩ ∈ ax_T := ax_in 616 rfl rfl
set_option maxRecDepth 20000 in
theorem wi_M_wall : Cond.instanceMethod ⟨"DoorVoiceModel", "wall", "(II)I"⟩ ∈ ax_T := ax_in 617 rfl rfl
set_option maxRecDepth 20000 in
theorem wv_M_wall : Cond.selects "DoorVoiceModel" ⟨"DoorVoiceModel", "wall", "(II)I"⟩ ⟨"DoorVoiceModel", "wall", "(II)I"⟩ ∈ ax_T := ax_in 618 rfl rfl
set_option maxRecDepth 20000 in
theorem lm_W_26 : Cond.methodLink "DoorVoiceLaw" 26 ⟨"DoorVoiceModel", "set", "(II)I"⟩ ∈ ax_T := ax_in 620 rfl rfl
set_option maxRecDepth 20000 in
theorem wi_M_set : Cond.instanceMethod ⟨"DoorVoiceModel", "set", "(II)I"⟩ ∈ ax_T := ax_in 621 rfl rfl
set_option maxRecDepth 20000 in
theorem wv_M_set : Cond.selects "DoorVoiceModel" ⟨"DoorVoiceModel", "set", "(II)I"⟩ ⟨"DoorVoiceModel", "set", "(II)I"⟩ ∈ ax_T := ax_in 622 rfl rfl
set_option maxRecDepth 20000 in
theorem lm_W_31 : Cond.methodLink "DoorVoiceLaw" 31 ⟨"DoorVoiceModel", "letter", "(IIIII)I"⟩ ∈ ax_T := ax_in 624 rfl rfl
set_option maxRecDepth 20000 in
theorem wi_M_letter : Cond.instanceMethod ⟨"DoorVoiceModel", "letter", "(IIIII)I"⟩ ∈ ax_T := ax_in 625 rfl rfl
set_option maxRecDepth 20000 in
theorem wv_M_letter : Cond.selects "DoorVoiceModel" ⟨"DoorVoiceModel", "letter", "(IIIII)I"⟩ ⟨"DoorVoiceModel", "letter", "(IIIII)I"⟩ ∈ ax_T := ax_in 626 rfl rfl
set_option maxRecDepth 20000 in
theorem lm_W_36 : Cond.methodLink "DoorVoiceLaw" 36 ⟨"DoorVoiceModel", "say", "(I)I"⟩ ∈ ax_T := ax_in 628 rfl rfl
set_option maxRecDepth 20000 in
theorem wi_M_say : Cond.instanceMethod ⟨"DoorVoiceModel", "say", "(I)I"⟩ ∈ ax_T := ax_in 629 rfl rfl
set_option maxRecDepth 20000 in
theorem wv_M_say : Cond.selects "DoorVoiceModel" ⟨"DoorVoiceModel", "say", "(I)I"⟩ ⟨"DoorVoiceModel", "say", "(I)I"⟩ ∈ ax_T := ax_in 630 rfl rfl
set_option maxRecDepth 20000 in
theorem lm_W_41 : Cond.methodLink "DoorVoiceLaw" 41 ⟨"DoorVoiceModel", "wipe", "()I"⟩ ∈ ax_T := ax_in 632 rfl rfl
set_option maxRecDepth 20000 in
theorem wi_M_wipe : Cond.instanceMethod ⟨"DoorVoiceModel", "wipe", "()I"⟩ ∈ ax_T := ax_in 633 rfl rfl
set_option maxRecDepth 20000 in
theorem wv_M_wipe : Cond.selects "DoorVoiceModel" ⟨"DoorVoiceModel", "wipe", "()I"⟩ ⟨"DoorVoiceModel", "wipe", "()I"⟩ ∈ ax_T := ax_in 634 rfl rfl
set_option maxRecDepth 20000 in
theorem lm_W_45 : Cond.methodLink "DoorVoiceLaw" 45 ⟨"DoorVoiceModel", "fault", "()I"⟩ ∈ ax_T := ax_in 636 rfl rfl
set_option maxRecDepth 20000 in
theorem wi_M_fault : Cond.instanceMethod ⟨"DoorVoiceModel", "fault", "()I"⟩ ∈ ax_T := ax_in 637 rfl rfl
set_option maxRecDepth 20000 in
theorem wv_M_fault : Cond.selects "DoorVoiceModel" ⟨"DoorVoiceModel", "fault", "()I"⟩ ⟨"DoorVoiceModel", "fault", "()I"⟩ ∈ ax_T := ax_in 638 rfl rfl
set_option maxRecDepth 20000 in
theorem lm_M_69 : Cond.methodLink "DoorVoiceModel" 69 ⟨"DoorVoiceModel", "faultOf", "()I"⟩ ∈ ax_T := ax_in 640 rfl rfl
set_option maxRecDepth 20000 in
theorem wi_M_faultOf : Cond.instanceMethod ⟨"DoorVoiceModel", "faultOf", "()I"⟩ ∈ ax_T := ax_in 642 rfl rfl
set_option maxRecDepth 20000 in
theorem lm_M_66 : Cond.methodLink "DoorVoiceModel" 66 ⟨"DoorVoiceModel", "isLetter", "(I)Z"⟩ ∈ ax_T := ax_in 644 rfl rfl
set_option maxRecDepth 20000 in
theorem ws_M_isLetter : Cond.static ⟨"DoorVoiceModel", "isLetter", "(I)Z"⟩ ∈ ax_T := ax_in 645 rfl rfl
set_option maxRecDepth 20000 in
theorem lm_W_49 : Cond.methodLink "DoorVoiceLaw" 49 ⟨"DoorVoiceModel", "judge", "(I)I"⟩ ∈ ax_T := ax_in 647 rfl rfl
set_option maxRecDepth 20000 in
theorem wi_M_judge : Cond.instanceMethod ⟨"DoorVoiceModel", "judge", "(I)I"⟩ ∈ ax_T := ax_in 648 rfl rfl
set_option maxRecDepth 20000 in
theorem wv_M_judge : Cond.selects "DoorVoiceModel" ⟨"DoorVoiceModel", "judge", "(I)I"⟩ ⟨"DoorVoiceModel", "judge", "(I)I"⟩ ∈ ax_T := ax_in 649 rfl rfl
set_option maxRecDepth 20000 in
theorem lm_M_110 : Cond.methodLink "DoorVoiceModel" 110 ⟨"DoorVoiceModel", "goDays", "()I"⟩ ∈ ax_T := ax_in 651 rfl rfl
set_option maxRecDepth 20000 in
theorem wi_M_goDays : Cond.instanceMethod ⟨"DoorVoiceModel", "goDays", "()I"⟩ ∈ ax_T := ax_in 653 rfl rfl
set_option maxRecDepth 20000 in
theorem lm_M_88 : Cond.methodLink "DoorVoiceModel" 88 ⟨"DoorVoiceModel", "asNow", "()V"⟩ ∈ ax_T := ax_in 655 rfl rfl
set_option maxRecDepth 20000 in
theorem wi_M_asNow : Cond.instanceMethod ⟨"DoorVoiceModel", "asNow", "()V"⟩ ∈ ax_T := ax_in 657 rfl rfl
set_option maxRecDepth 20000 in
theorem lm_M_100 : Cond.methodLink "DoorVoiceModel" 100 ⟨"DoorVoiceModel", "evening", "()I"⟩ ∈ ax_T := ax_in 659 rfl rfl
set_option maxRecDepth 20000 in
theorem wi_M_evening : Cond.instanceMethod ⟨"DoorVoiceModel", "evening", "()I"⟩ ∈ ax_T := ax_in 661 rfl rfl
set_option maxRecDepth 20000 in
theorem lm_M_77 : Cond.methodLink "DoorVoiceModel" 77 ⟨"DoorVoiceModel", "has", "(II)Z"⟩ ∈ ax_T := ax_in 663 rfl rfl
set_option maxRecDepth 20000 in
theorem ws_M_has : Cond.static ⟨"DoorVoiceModel", "has", "(II)Z"⟩ ∈ ax_T := ax_in 664 rfl rfl
set_option maxRecDepth 20000 in
theorem lm_M_103 : Cond.methodLink "DoorVoiceModel" 103 ⟨"DoorVoiceModel", "goTo", "(I)I"⟩ ∈ ax_T := ax_in 666 rfl rfl
set_option maxRecDepth 20000 in
theorem wi_M_goTo : Cond.instanceMethod ⟨"DoorVoiceModel", "goTo", "(I)I"⟩ ∈ ax_T := ax_in 668 rfl rfl
set_option maxRecDepth 20000 in
theorem lm_M_107 : Cond.methodLink "DoorVoiceModel" 107 ⟨"DoorVoiceModel", "read", "(I)I"⟩ ∈ ax_T := ax_in 670 rfl rfl
set_option maxRecDepth 20000 in
theorem wi_M_read : Cond.instanceMethod ⟨"DoorVoiceModel", "read", "(I)I"⟩ ∈ ax_T := ax_in 672 rfl rfl
set_option maxRecDepth 20000 in
theorem lm_M_81 : Cond.methodLink "DoorVoiceModel" 81 ⟨"DoorVoiceModel", "doesHear", "(III)Z"⟩ ∈ ax_T := ax_in 674 rfl rfl
set_option maxRecDepth 20000 in
theorem wi_M_doesHear : Cond.instanceMethod ⟨"DoorVoiceModel", "doesHear", "(III)Z"⟩ ∈ ax_T := ax_in 676 rfl rfl
set_option maxRecDepth 20000 in
theorem lm_M_73 : Cond.methodLink "DoorVoiceModel" 73 ⟨"DoorVoiceModel", "loudAt", "(II)I"⟩ ∈ ax_T := ax_in 678 rfl rfl
set_option maxRecDepth 20000 in
theorem wi_M_loudAt : Cond.instanceMethod ⟨"DoorVoiceModel", "loudAt", "(II)I"⟩ ∈ ax_T := ax_in 680 rfl rfl
set_option maxRecDepth 20000 in
theorem lm_W_53 : Cond.methodLink "DoorVoiceLaw" 53 ⟨"DoorVoiceModel", "done", "()I"⟩ ∈ ax_T := ax_in 682 rfl rfl
set_option maxRecDepth 20000 in
theorem wi_M_done : Cond.instanceMethod ⟨"DoorVoiceModel", "done", "()I"⟩ ∈ ax_T := ax_in 683 rfl rfl
set_option maxRecDepth 20000 in
theorem wv_M_done : Cond.selects "DoorVoiceModel" ⟨"DoorVoiceModel", "done", "()I"⟩ ⟨"DoorVoiceModel", "done", "()I"⟩ ∈ ax_T := ax_in 684 rfl rfl
set_option maxRecDepth 20000 in
theorem lm_M_113 : Cond.methodLink "DoorVoiceModel" 113 ⟨"DoorVoiceModel", "barOfDays", "()I"⟩ ∈ ax_T := ax_in 686 rfl rfl
set_option maxRecDepth 20000 in
theorem wi_M_barOfDays : Cond.instanceMethod ⟨"DoorVoiceModel", "barOfDays", "()I"⟩ ∈ ax_T := ax_in 688 rfl rfl
set_option maxRecDepth 20000 in
theorem lm_W_57 : Cond.methodLink "DoorVoiceLaw" 57 ⟨"DoorVoiceModel", "knows", "(I)I"⟩ ∈ ax_T := ax_in 690 rfl rfl
set_option maxRecDepth 20000 in
theorem wi_M_knows : Cond.instanceMethod ⟨"DoorVoiceModel", "knows", "(I)I"⟩ ∈ ax_T := ax_in 691 rfl rfl
set_option maxRecDepth 20000 in
theorem wv_M_knows : Cond.selects "DoorVoiceModel" ⟨"DoorVoiceModel", "knows", "(I)I"⟩ ⟨"DoorVoiceModel", "knows", "(I)I"⟩ ∈ ax_T := ax_in 692 rfl rfl
set_option maxRecDepth 20000 in
theorem lm_W_61 : Cond.methodLink "DoorVoiceLaw" 61 ⟨"DoorVoiceModel", "behind", "(I)I"⟩ ∈ ax_T := ax_in 694 rfl rfl
set_option maxRecDepth 20000 in
theorem wi_M_behind : Cond.instanceMethod ⟨"DoorVoiceModel", "behind", "(I)I"⟩ ∈ ax_T := ax_in 695 rfl rfl
set_option maxRecDepth 20000 in
theorem wv_M_behind : Cond.selects "DoorVoiceModel" ⟨"DoorVoiceModel", "behind", "(I)I"⟩ ⟨"DoorVoiceModel", "behind", "(I)I"⟩ ∈ ax_T := ax_in 696 rfl rfl
set_option maxRecDepth 20000 in
theorem lm_W_65 : Cond.methodLink "DoorVoiceLaw" 65 ⟨"DoorVoiceModel", "who", "(I)I"⟩ ∈ ax_T := ax_in 698 rfl rfl
set_option maxRecDepth 20000 in
theorem wi_M_who : Cond.instanceMethod ⟨"DoorVoiceModel", "who", "(I)I"⟩ ∈ ax_T := ax_in 699 rfl rfl
set_option maxRecDepth 20000 in
theorem wv_M_who : Cond.selects "DoorVoiceModel" ⟨"DoorVoiceModel", "who", "(I)I"⟩ ⟨"DoorVoiceModel", "who", "(I)I"⟩ ∈ ax_T := ax_in 700 rfl rfl
set_option maxRecDepth 20000 in
theorem lm_W_69 : Cond.methodLink "DoorVoiceLaw" 69 ⟨"DoorVoiceModel", "loud", "(II)I"⟩ ∈ ax_T := ax_in 702 rfl rfl
set_option maxRecDepth 20000 in
theorem wi_M_loud : Cond.instanceMethod ⟨"DoorVoiceModel", "loud", "(II)I"⟩ ∈ ax_T := ax_in 703 rfl rfl
set_option maxRecDepth 20000 in
theorem wv_M_loud : Cond.selects "DoorVoiceModel" ⟨"DoorVoiceModel", "loud", "(II)I"⟩ ⟨"DoorVoiceModel", "loud", "(II)I"⟩ ∈ ax_T := ax_in 704 rfl rfl
set_option maxRecDepth 20000 in
theorem lm_W_73 : Cond.methodLink "DoorVoiceLaw" 73 ⟨"DoorVoiceModel", "hears", "(I)I"⟩ ∈ ax_T := ax_in 706 rfl rfl
set_option maxRecDepth 20000 in
theorem wi_M_hears : Cond.instanceMethod ⟨"DoorVoiceModel", "hears", "(I)I"⟩ ∈ ax_T := ax_in 707 rfl rfl
set_option maxRecDepth 20000 in
theorem wv_M_hears : Cond.selects "DoorVoiceModel" ⟨"DoorVoiceModel", "hears", "(I)I"⟩ ⟨"DoorVoiceModel", "hears", "(I)I"⟩ ∈ ax_T := ax_in 708 rfl rfl
set_option maxRecDepth 20000 in
theorem lm_M_116 : Cond.methodLink "DoorVoiceModel" 116 ⟨"DoorVoiceModel", "hearers", "(II)I"⟩ ∈ ax_T := ax_in 710 rfl rfl
set_option maxRecDepth 20000 in
theorem wi_M_hearers : Cond.instanceMethod ⟨"DoorVoiceModel", "hearers", "(II)I"⟩ ∈ ax_T := ax_in 712 rfl rfl
set_option maxRecDepth 20000 in
theorem lm_W_77 : Cond.methodLink "DoorVoiceLaw" 77 ⟨"DoorVoiceModel", "best", "(II)I"⟩ ∈ ax_T := ax_in 714 rfl rfl
set_option maxRecDepth 20000 in
theorem wi_M_best : Cond.instanceMethod ⟨"DoorVoiceModel", "best", "(II)I"⟩ ∈ ax_T := ax_in 715 rfl rfl
set_option maxRecDepth 20000 in
theorem wv_M_best : Cond.selects "DoorVoiceModel" ⟨"DoorVoiceModel", "best", "(II)I"⟩ ⟨"DoorVoiceModel", "best", "(II)I"⟩ ∈ ax_T := ax_in 716 rfl rfl
set_option maxRecDepth 20000 in
theorem lc_M_119 : Cond.constant "DoorVoiceModel" 119 (1000000) ∈ ax_T := ax_in 718 rfl rfl
set_option maxRecDepth 20000 in
theorem lm_M_120 : Cond.methodLink "DoorVoiceModel" 120 ⟨"DoorVoiceModel", "bits", "(I)I"⟩ ∈ ax_T := ax_in 719 rfl rfl
set_option maxRecDepth 20000 in
theorem ws_M_bits : Cond.static ⟨"DoorVoiceModel", "bits", "(I)I"⟩ ∈ ax_T := ax_in 720 rfl rfl
set_option maxRecDepth 20000 in
theorem lm_W_81 : Cond.methodLink "DoorVoiceLaw" 81 ⟨"DoorVoiceModel", "thirds", "(II)I"⟩ ∈ ax_T := ax_in 722 rfl rfl
set_option maxRecDepth 20000 in
theorem wi_M_thirds : Cond.instanceMethod ⟨"DoorVoiceModel", "thirds", "(II)I"⟩ ∈ ax_T := ax_in 723 rfl rfl
set_option maxRecDepth 20000 in
theorem wv_M_thirds : Cond.selects "DoorVoiceModel" ⟨"DoorVoiceModel", "thirds", "(II)I"⟩ ⟨"DoorVoiceModel", "thirds", "(II)I"⟩ ∈ ax_T := ax_in 724 rfl rfl
set_option maxRecDepth 20000 in
theorem lm_M_123 : Cond.methodLink "DoorVoiceModel" 123 ⟨"DoorVoiceModel", "laySets", "()V"⟩ ∈ ax_T := ax_in 726 rfl rfl
set_option maxRecDepth 20000 in
theorem wi_M_laySets : Cond.instanceMethod ⟨"DoorVoiceModel", "laySets", "()V"⟩ ∈ ax_T := ax_in 728 rfl rfl
set_option maxRecDepth 20000 in
theorem lm_W_85 : Cond.methodLink "DoorVoiceLaw" 85 ⟨"DoorVoiceModel", "round", "(II)I"⟩ ∈ ax_T := ax_in 730 rfl rfl
set_option maxRecDepth 20000 in
theorem wi_M_round : Cond.instanceMethod ⟨"DoorVoiceModel", "round", "(II)I"⟩ ∈ ax_T := ax_in 731 rfl rfl
set_option maxRecDepth 20000 in
theorem wv_M_round : Cond.selects "DoorVoiceModel" ⟨"DoorVoiceModel", "round", "(II)I"⟩ ⟨"DoorVoiceModel", "round", "(II)I"⟩ ∈ ax_T := ax_in 732 rfl rfl
set_option maxRecDepth 20000 in
theorem lm_W_90 : Cond.methodLink "DoorVoiceLaw" 90 ⟨"DoorVoiceModel", "seen", "(IZ)I"⟩ ∈ ax_T := ax_in 734 rfl rfl
set_option maxRecDepth 20000 in
theorem wi_M_seen : Cond.instanceMethod ⟨"DoorVoiceModel", "seen", "(IZ)I"⟩ ∈ ax_T := ax_in 735 rfl rfl
set_option maxRecDepth 20000 in
theorem wv_M_seen : Cond.selects "DoorVoiceModel" ⟨"DoorVoiceModel", "seen", "(IZ)I"⟩ ⟨"DoorVoiceModel", "seen", "(IZ)I"⟩ ∈ ax_T := ax_in 736 rfl rfl
set_option maxRecDepth 20000 in
theorem lm_W_94 : Cond.methodLink "DoorVoiceLaw" 94 ⟨"DoorVoiceModel", "forget", "()I"⟩ ∈ ax_T := ax_in 738 rfl rfl
set_option maxRecDepth 20000 in
theorem wi_M_forget : Cond.instanceMethod ⟨"DoorVoiceModel", "forget", "()I"⟩ ∈ ax_T := ax_in 739 rfl rfl
set_option maxRecDepth 20000 in
theorem wv_M_forget : Cond.selects "DoorVoiceModel" ⟨"DoorVoiceModel", "forget", "()I"⟩ ⟨"DoorVoiceModel", "forget", "()I"⟩ ∈ ax_T := ax_in 740 rfl rfl
set_option maxRecDepth 20000 in
theorem lm_W_98 : Cond.methodLink "DoorVoiceLaw" 98 ⟨"DoorVoiceModel", "at", "()I"⟩ ∈ ax_T := ax_in 742 rfl rfl
set_option maxRecDepth 20000 in
theorem wi_M_at : Cond.instanceMethod ⟨"DoorVoiceModel", "at", "()I"⟩ ∈ ax_T := ax_in 743 rfl rfl
set_option maxRecDepth 20000 in
theorem wv_M_at : Cond.selects "DoorVoiceModel" ⟨"DoorVoiceModel", "at", "()I"⟩ ⟨"DoorVoiceModel", "at", "()I"⟩ ∈ ax_T := ax_in 744 rfl rfl
set_option maxRecDepth 20000 in
theorem lm_M_129 : Cond.methodLink "DoorVoiceModel" 129 ⟨"DoorVoiceModel", "atSet", "()I"⟩ ∈ ax_T := ax_in 746 rfl rfl
set_option maxRecDepth 20000 in
theorem wi_M_atSet : Cond.instanceMethod ⟨"DoorVoiceModel", "atSet", "()I"⟩ ∈ ax_T := ax_in 748 rfl rfl
set_option maxRecDepth 20000 in
theorem lm_W_102 : Cond.methodLink "DoorVoiceLaw" 102 ⟨"DoorVoiceModel", "ask", "(I)I"⟩ ∈ ax_T := ax_in 750 rfl rfl
set_option maxRecDepth 20000 in
theorem wi_M_ask : Cond.instanceMethod ⟨"DoorVoiceModel", "ask", "(I)I"⟩ ∈ ax_T := ax_in 751 rfl rfl
set_option maxRecDepth 20000 in
theorem wv_M_ask : Cond.selects "DoorVoiceModel" ⟨"DoorVoiceModel", "ask", "(I)I"⟩ ⟨"DoorVoiceModel", "ask", "(I)I"⟩ ∈ ax_T := ax_in 752 rfl rfl
set_option maxRecDepth 20000 in
theorem lm_W_106 : Cond.methodLink "DoorVoiceLaw" 106 ⟨"DoorVoiceModel", "rumour", "(II)I"⟩ ∈ ax_T := ax_in 754 rfl rfl
set_option maxRecDepth 20000 in
theorem wi_M_rumour : Cond.instanceMethod ⟨"DoorVoiceModel", "rumour", "(II)I"⟩ ∈ ax_T := ax_in 755 rfl rfl
set_option maxRecDepth 20000 in
theorem wv_M_rumour : Cond.selects "DoorVoiceModel" ⟨"DoorVoiceModel", "rumour", "(II)I"⟩ ⟨"DoorVoiceModel", "rumour", "(II)I"⟩ ∈ ax_T := ax_in 756 rfl rfl
set_option maxRecDepth 20000 in
theorem lm_M_132 : Cond.methodLink "DoorVoiceModel" 132 ⟨"DoorVoiceModel", "spread", "(I)I"⟩ ∈ ax_T := ax_in 758 rfl rfl
set_option maxRecDepth 20000 in
theorem wi_M_spread : Cond.instanceMethod ⟨"DoorVoiceModel", "spread", "(I)I"⟩ ∈ ax_T := ax_in 760 rfl rfl
set_option maxRecDepth 20000 in
theorem lm_W_111 : Cond.methodLink "DoorVoiceLaw" 111 ⟨"DoorVoiceModel", "chance", "(IIII)J"⟩ ∈ ax_T := ax_in 762 rfl rfl
set_option maxRecDepth 20000 in
theorem wi_M_chance : Cond.instanceMethod ⟨"DoorVoiceModel", "chance", "(IIII)J"⟩ ∈ ax_T := ax_in 763 rfl rfl
set_option maxRecDepth 20000 in
theorem wv_M_chance : Cond.selects "DoorVoiceModel" ⟨"DoorVoiceModel", "chance", "(IIII)J"⟩ ⟨"DoorVoiceModel", "chance", "(IIII)J"⟩ ∈ ax_T := ax_in 764 rfl rfl
set_option maxRecDepth 20000 in
theorem lc_M_135 : Cond.constantLong "DoorVoiceModel" 135 (-1000000000000000001) ∈ ax_T := ax_in 766 rfl rfl
set_option maxRecDepth 20000 in
theorem lc_M_137 : Cond.constantLong "DoorVoiceModel" 137 (-1000000000000000002) ∈ ax_T := ax_in 767 rfl rfl
set_option maxRecDepth 20000 in
theorem lc_M_139 : Cond.constantLong "DoorVoiceModel" 139 (10) ∈ ax_T := ax_in 768 rfl rfl
set_option maxRecDepth 20000 in
theorem lm_W_116 : Cond.methodLink "DoorVoiceLaw" 116 ⟨"DoorVoiceModel", "year", "(III)I"⟩ ∈ ax_T := ax_in 769 rfl rfl
set_option maxRecDepth 20000 in
theorem wi_M_year : Cond.instanceMethod ⟨"DoorVoiceModel", "year", "(III)I"⟩ ∈ ax_T := ax_in 770 rfl rfl
set_option maxRecDepth 20000 in
theorem wv_M_year : Cond.selects "DoorVoiceModel" ⟨"DoorVoiceModel", "year", "(III)I"⟩ ⟨"DoorVoiceModel", "year", "(III)I"⟩ ∈ ax_T := ax_in 771 rfl rfl
set_option maxRecDepth 20000 in
theorem lc_M_141 : Cond.constant "DoorVoiceModel" 141 (65537) ∈ ax_T := ax_in 773 rfl rfl
set_option maxRecDepth 20000 in
theorem lm_W_120 : Cond.methodLink "DoorVoiceLaw" 120 ⟨"DoorVoiceModel", "image", "(I)I"⟩ ∈ ax_T := ax_in 774 rfl rfl
set_option maxRecDepth 20000 in
theorem wi_M_image : Cond.instanceMethod ⟨"DoorVoiceModel", "image", "(I)I"⟩ ∈ ax_T := ax_in 775 rfl rfl
set_option maxRecDepth 20000 in
theorem wv_M_image : Cond.selects "DoorVoiceModel" ⟨"DoorVoiceModel", "image", "(I)I"⟩ ⟨"DoorVoiceModel", "image", "(I)I"⟩ ∈ ax_T := ax_in 776 rfl rfl
set_option maxRecDepth 20000 in
theorem lm_W_124 : Cond.methodLink "DoorVoiceLaw" 124 ⟨"DoorVoiceModel", "restore", "(I)I"⟩ ∈ ax_T := ax_in 778 rfl rfl
set_option maxRecDepth 20000 in
theorem wi_M_restore : Cond.instanceMethod ⟨"DoorVoiceModel", "restore", "(I)I"⟩ ∈ ax_T := ax_in 779 rfl rfl
set_option maxRecDepth 20000 in
theorem wv_M_restore : Cond.selects "DoorVoiceModel" ⟨"DoorVoiceModel", "restore", "(I)I"⟩ ⟨"DoorVoiceModel", "restore", "(I)I"⟩ ∈ ax_T := ax_in 780 rfl rfl
set_option maxRecDepth 20000 in
theorem lm_W_128 : Cond.methodLink "DoorVoiceLaw" 128 ⟨"DoorVoiceModel", "told", "(I)I"⟩ ∈ ax_T := ax_in 782 rfl rfl
set_option maxRecDepth 20000 in
theorem wi_M_told : Cond.instanceMethod ⟨"DoorVoiceModel", "told", "(I)I"⟩ ∈ ax_T := ax_in 783 rfl rfl
set_option maxRecDepth 20000 in
theorem wv_M_told : Cond.selects "DoorVoiceModel" ⟨"DoorVoiceModel", "told", "(I)I"⟩ ⟨"DoorVoiceModel", "told", "(I)I"⟩ ∈ ax_T := ax_in 784 rfl rfl
set_option maxRecDepth 20000 in
theorem wv_V_setVoice : Cond.selects "DoorVoice" ⟨"DoorVoice", "setVoice", "(I)I"⟩ ⟨"DoorVoice", "setVoice", "(I)I"⟩ ∈ ax_T := ax_in 0 rfl rfl
set_option maxRecDepth 20000 in
theorem wv_V_setWind : Cond.selects "DoorVoice" ⟨"DoorVoice", "setWind", "(I)I"⟩ ⟨"DoorVoice", "setWind", "(I)I"⟩ ∈ ax_T := ax_in 1 rfl rfl
set_option maxRecDepth 20000 in
theorem wv_V_setPlace : Cond.selects "DoorVoice" ⟨"DoorVoice", "setPlace", "(I)I"⟩ ⟨"DoorVoice", "setPlace", "(I)I"⟩ ∈ ax_T := ax_in 2 rfl rfl
set_option maxRecDepth 20000 in
theorem wv_P_playAct : Cond.selects "DoorVoice$Pad" ⟨"DoorVoice$Pad", "playAct", "(LDoorVoice$Street;II)V"⟩ ⟨"DoorVoice$Pad", "playAct", "(LDoorVoice$Street;II)V"⟩ ∈ ax_T := ax_in 3 rfl rfl
set_option maxRecDepth 20000 in
theorem wv_S_reached : Cond.selects "DoorVoice$Street" ⟨"DoorVoice$Street", "reached", "(II)I"⟩ ⟨"DoorVoice$Street", "reached", "(II)I"⟩ ∈ ax_T := ax_in 4 rfl rfl
set_option maxRecDepth 20000 in
theorem wv_S_readOut : Cond.selects "DoorVoice$Street" ⟨"DoorVoice$Street", "readOut", "(I)V"⟩ ⟨"DoorVoice$Street", "readOut", "(I)V"⟩ ∈ ax_T := ax_in 5 rfl rfl
set_option maxRecDepth 20000 in
theorem wv_S_passEvening : Cond.selects "DoorVoice$Street" ⟨"DoorVoice$Street", "passEvening", "()V"⟩ ⟨"DoorVoice$Street", "passEvening", "()V"⟩ ∈ ax_T := ax_in 6 rfl rfl
set_option maxRecDepth 20000 in
theorem wv_S_tellsEastward : Cond.selects "DoorVoice$Street" ⟨"DoorVoice$Street", "tellsEastward", "(I)Z"⟩ ⟨"DoorVoice$Street", "tellsEastward", "(I)Z"⟩ ∈ ax_T := ax_in 7 rfl rfl
set_option maxRecDepth 20000 in
theorem wv_L_placesFor : Cond.selects "DoorVoice$Listener" ⟨"DoorVoice$Listener", "placesFor", "(I)I"⟩ ⟨"DoorVoice$Listener", "placesFor", "(I)I"⟩ ∈ ax_T := ax_in 8 rfl rfl
set_option maxRecDepth 20000 in
theorem wv_L_allCanBeRead : Cond.selects "DoorVoice$Listener" ⟨"DoorVoice$Listener", "allCanBeRead", "(LDoorVoice$Street;III)Z"⟩ ⟨"DoorVoice$Listener", "allCanBeRead", "(LDoorVoice$Street;III)Z"⟩ ∈ ax_T := ax_in 9 rfl rfl
set_option maxRecDepth 20000 in
theorem wv_S_toldOnward : Cond.selects "DoorVoice$Street" ⟨"DoorVoice$Street", "toldOnward", "(I)I"⟩ ⟨"DoorVoice$Street", "toldOnward", "(I)I"⟩ ∈ ax_T := ax_in 10 rfl rfl
set_option maxRecDepth 20000 in
theorem wv_C_putLowest : Cond.selects "DoorVoice$Chances" ⟨"DoorVoice$Chances", "putLowest", "(JJ)V"⟩ ⟨"DoorVoice$Chances", "putLowest", "(JJ)V"⟩ ∈ ax_T := ax_in 11 rfl rfl
set_option maxRecDepth 20000 in
theorem wv_C_countWays : Cond.selects "DoorVoice$Chances" ⟨"DoorVoice$Chances", "countWays", "(I)V"⟩ ⟨"DoorVoice$Chances", "countWays", "(I)V"⟩ ∈ ax_T := ax_in 12 rfl rfl
set_option maxRecDepth 20000 in
theorem wv_V_imageNumbered : Cond.selects "DoorVoice" ⟨"DoorVoice", "imageNumbered", "(I)LDoorVoice$Street;"⟩ ⟨"DoorVoice", "imageNumbered", "(I)LDoorVoice$Street;"⟩ ∈ ax_T := ax_in 13 rfl rfl
set_option maxRecDepth 20000 in
theorem wv_V_toldOfAll : Cond.selects "DoorVoice" ⟨"DoorVoice", "toldOfAll", "(I)I"⟩ ⟨"DoorVoice", "toldOfAll", "(I)I"⟩ ∈ ax_T := ax_in 14 rfl rfl
set_option maxRecDepth 20000 in
theorem wv_V_toldOfLetter : Cond.selects "DoorVoice" ⟨"DoorVoice", "toldOfLetter", "(II)I"⟩ ⟨"DoorVoice", "toldOfLetter", "(II)I"⟩ ∈ ax_T := ax_in 15 rfl rfl
set_option maxRecDepth 20000 in
theorem wv_M_faultOf : Cond.selects "DoorVoiceModel" ⟨"DoorVoiceModel", "faultOf", "()I"⟩ ⟨"DoorVoiceModel", "faultOf", "()I"⟩ ∈ ax_T := ax_in 16 rfl rfl
set_option maxRecDepth 20000 in
theorem wv_M_goDays : Cond.selects "DoorVoiceModel" ⟨"DoorVoiceModel", "goDays", "()I"⟩ ⟨"DoorVoiceModel", "goDays", "()I"⟩ ∈ ax_T := ax_in 17 rfl rfl
set_option maxRecDepth 20000 in
theorem wv_M_asNow : Cond.selects "DoorVoiceModel" ⟨"DoorVoiceModel", "asNow", "()V"⟩ ⟨"DoorVoiceModel", "asNow", "()V"⟩ ∈ ax_T := ax_in 18 rfl rfl
set_option maxRecDepth 20000 in
theorem wv_M_evening : Cond.selects "DoorVoiceModel" ⟨"DoorVoiceModel", "evening", "()I"⟩ ⟨"DoorVoiceModel", "evening", "()I"⟩ ∈ ax_T := ax_in 19 rfl rfl
set_option maxRecDepth 20000 in
theorem wv_M_goTo : Cond.selects "DoorVoiceModel" ⟨"DoorVoiceModel", "goTo", "(I)I"⟩ ⟨"DoorVoiceModel", "goTo", "(I)I"⟩ ∈ ax_T := ax_in 20 rfl rfl
set_option maxRecDepth 20000 in
theorem wv_M_read : Cond.selects "DoorVoiceModel" ⟨"DoorVoiceModel", "read", "(I)I"⟩ ⟨"DoorVoiceModel", "read", "(I)I"⟩ ∈ ax_T := ax_in 21 rfl rfl
set_option maxRecDepth 20000 in
theorem wv_M_doesHear : Cond.selects "DoorVoiceModel" ⟨"DoorVoiceModel", "doesHear", "(III)Z"⟩ ⟨"DoorVoiceModel", "doesHear", "(III)Z"⟩ ∈ ax_T := ax_in 22 rfl rfl
set_option maxRecDepth 20000 in
theorem wv_M_loudAt : Cond.selects "DoorVoiceModel" ⟨"DoorVoiceModel", "loudAt", "(II)I"⟩ ⟨"DoorVoiceModel", "loudAt", "(II)I"⟩ ∈ ax_T := ax_in 23 rfl rfl
set_option maxRecDepth 20000 in
theorem wv_M_barOfDays : Cond.selects "DoorVoiceModel" ⟨"DoorVoiceModel", "barOfDays", "()I"⟩ ⟨"DoorVoiceModel", "barOfDays", "()I"⟩ ∈ ax_T := ax_in 24 rfl rfl
set_option maxRecDepth 20000 in
theorem wv_M_hearers : Cond.selects "DoorVoiceModel" ⟨"DoorVoiceModel", "hearers", "(II)I"⟩ ⟨"DoorVoiceModel", "hearers", "(II)I"⟩ ∈ ax_T := ax_in 25 rfl rfl
set_option maxRecDepth 20000 in
theorem wv_M_laySets : Cond.selects "DoorVoiceModel" ⟨"DoorVoiceModel", "laySets", "()V"⟩ ⟨"DoorVoiceModel", "laySets", "()V"⟩ ∈ ax_T := ax_in 26 rfl rfl
set_option maxRecDepth 20000 in
theorem wv_M_atSet : Cond.selects "DoorVoiceModel" ⟨"DoorVoiceModel", "atSet", "()I"⟩ ⟨"DoorVoiceModel", "atSet", "()I"⟩ ∈ ax_T := ax_in 27 rfl rfl
set_option maxRecDepth 20000 in
theorem wv_M_spread : Cond.selects "DoorVoiceModel" ⟨"DoorVoiceModel", "spread", "(I)I"⟩ ⟨"DoorVoiceModel", "spread", "(I)I"⟩ ∈ ax_T := ax_in 28 rfl rfl
def ax_N : List (String × Nat × MethodName × String) := [("DoorVoice", 9, ⟨"DoorVoice$Street", "<init>", "()V"⟩, "DoorVoice"), ("DoorVoice", 27, ⟨"DoorVoice$Pad", "<init>", "()V"⟩, "DoorVoice"), ("DoorVoice", 34, ⟨"DoorVoice$Listener", "<init>", "()V"⟩, "DoorVoice"), ("DoorVoice", 41, ⟨"DoorVoice$Chances", "<init>", "()V"⟩, "DoorVoice"), ("DoorVoice$Street", 76, ⟨"DoorVoice", "hasBit", "(II)Z"⟩, "DoorVoice"), ("DoorVoice$Pad", 76, ⟨"DoorVoice", "hasBit", "(II)Z"⟩, "DoorVoice"), ("DoorVoice$Listener", 32, ⟨"DoorVoice", "hasBit", "(II)Z"⟩, "DoorVoice")]
set_option maxRecDepth 20000 in
theorem ax_N_in : ∀ q ∈ ax_N, Cond.methodLinkNest q.1 q.2.1 q.2.2.1 q.2.2.2 ∈ lw_tbl := by
  intro q hq
  simp only [ax_N, List.mem_cons, List.not_mem_nil, or_false] at hq
  rcases hq with rfl | rfl | rfl | rfl | rfl | rfl | rfl
  · exact List.mem_of_getElem? (i := 49) rfl
  · exact List.mem_of_getElem? (i := 129) rfl
  · exact List.mem_of_getElem? (i := 159) rfl
  · exact List.mem_of_getElem? (i := 172) rfl
  · exact List.mem_of_getElem? (i := 308) rfl
  · exact List.mem_of_getElem? (i := 322) rfl
  · exact List.mem_of_getElem? (i := 387) rfl
set_option maxRecDepth 20000 in
theorem ln_V_9 : ("DoorVoice", 9, (⟨"DoorVoice$Street", "<init>", "()V"⟩ : MethodName), "DoorVoice") ∈ ax_N := List.mem_of_getElem? (i := 0) rfl
set_option maxRecDepth 20000 in
theorem ln_V_27 : ("DoorVoice", 27, (⟨"DoorVoice$Pad", "<init>", "()V"⟩ : MethodName), "DoorVoice") ∈ ax_N := List.mem_of_getElem? (i := 1) rfl
set_option maxRecDepth 20000 in
theorem ln_V_34 : ("DoorVoice", 34, (⟨"DoorVoice$Listener", "<init>", "()V"⟩ : MethodName), "DoorVoice") ∈ ax_N := List.mem_of_getElem? (i := 2) rfl
set_option maxRecDepth 20000 in
theorem ln_V_41 : ("DoorVoice", 41, (⟨"DoorVoice$Chances", "<init>", "()V"⟩ : MethodName), "DoorVoice") ∈ ax_N := List.mem_of_getElem? (i := 3) rfl
set_option maxRecDepth 20000 in
theorem ln_S_76 : ("DoorVoice$Street", 76, (⟨"DoorVoice", "hasBit", "(II)Z"⟩ : MethodName), "DoorVoice") ∈ ax_N := List.mem_of_getElem? (i := 4) rfl
set_option maxRecDepth 20000 in
theorem ln_P_76 : ("DoorVoice$Pad", 76, (⟨"DoorVoice", "hasBit", "(II)Z"⟩ : MethodName), "DoorVoice") ∈ ax_N := List.mem_of_getElem? (i := 5) rfl
set_option maxRecDepth 20000 in
theorem ln_L_32 : ("DoorVoice$Listener", 32, (⟨"DoorVoice", "hasBit", "(II)Z"⟩ : MethodName), "DoorVoice") ∈ ax_N := List.mem_of_getElem? (i := 6) rfl
end
section
/-! A light machine over the kit's: cells by their places behind the base, a method's locals and stack as lists; a row an instruction, no heap, no room beside what is counted. -/
abbrev ax_M : Type := MethodName × ByteArray × Nat × Option FieldType
abbrev ax_C : Type := (Nat × List Int32) ⊕ (List Int64 ⊕ (Nat × List Value))
abbrev ax_H : Type := List ax_C
/-- base, script's address, the classes' numbers and slots, the array classes (0 int, 1 boolean, 2 long) -/
abbrev ax_G : Type := Nat × Nat × va_G × (Nat → ClassId)
abbrev ob (ci : Nat) (fs : List Value) : ax_C := .inr (.inr (ci, fs))
abbrev ia (xs : List Int32) : ax_C := .inl (0, xs)
abbrev za (xs : List Int32) : ax_C := .inl (1, xs)
abbrev ja (xs : List Int64) : ax_C := .inr (.inl xs)
/-- a value of ours as a value of the machine: a reference is a place behind the base; a float stands for the script -/
def ax_v (g : ax_G) (v : Value) : Value := match v with
  | .ref k => .ref (g.1 + k)
  | .float _ => .ref g.2.1
  | v => v
def ax_e (g : ax_G) (c : ax_C) : va_E := match c with
  | .inl q => .inl (g.2.2.2 q.1, q.2.length, .inl (fun j => q.2.getD j 0))
  | .inr (.inl xs) => .inl (g.2.2.2 2, xs.length, .inr (.inl (fun j => xs.getD j 0)))
  | .inr (.inr q) => .inr (q.1, q.2.map (ax_v g))
def ax_w (g : ax_G) (h : ax_H) : va_W := h.mapIdx (fun k c => (g.1 + k, ax_e g c))
theorem ax_w_at {g : ax_G} {h : ax_H} {k : Nat} {c : ax_C} (hk : h[k]? = some c) : (ax_w g h)[k]? = some (g.1 + k, ax_e g c) := by
  simp [ax_w, hk]
theorem ax_w_set (g : ax_G) (h : ax_H) (k : Nat) (c : ax_C) : (ax_w g h).set k (g.1 + k, ax_e g c) = ax_w g (h.set k c) := by
  apply List.ext_getElem?
  intro i
  simp only [ax_w, List.getElem?_set, List.getElem?_mapIdx, List.length_mapIdx]
  by_cases hi : k = i
  · subst hi
    by_cases hl : k < h.length
    · simp [hl]
    · simp [hl]
  · simp [hi]
theorem ax_w_push (g : ax_G) (h : ax_H) (c : ax_C) : ax_w g (h ++ [c]) = ax_w g h ++ [(g.1 + h.length, ax_e g c)] := by
  simp [ax_w, List.mapIdx_append]
def ax_A (g : ax_G) : Nat → Prop := fun q => g.1 ≤ q
theorem ax_D (g : ax_G) (h : ax_H) : va_D (ax_A g) (ax_w g h) := by
  have key : ∀ (k : Nat) (q : Nat × va_E), (ax_w g h)[k]? = some q → q.1 = g.1 + k := by
    intro k q hk
    simp only [ax_w, List.getElem?_mapIdx] at hk
    cases hc : h[k]? with
    | none => rw [hc] at hk; cases hk
    | some c => rw [hc] at hk; cases hk; rfl
  refine ⟨fun i j p q hi hj hpq => ?_, fun k q hk => ?_⟩
  · have h1 := key i p hi
    have h2 := key j q hj
    omega
  · show g.1 ≤ q.1
    rw [key k q hk]
    exact Nat.le_add_right _ _
abbrev ax_tys (g : ax_G) : List (ClassId × FieldType) := [(g.2.2.2 0, .int), (g.2.2.2 1, .boolean), (g.2.2.2 2, .long)]
def ax_K (g : ax_G) (U : State) : Prop := va_K g.2.2.1 classes (ax_tys g) U ∧ ∀ q ∈ ax_N, va_Nw (.methodLinkNest q.1 q.2.1 q.2.2.1 q.2.2.2) U
theorem ax_K.moved {g : ax_G} {s U : State} (hW : s.WarmedH U.vm) (h : ax_K g s) : ax_K g U := ⟨va_K.moved hW.alike h.1, fun q hq => (h.2 q hq).warmM hW⟩
theorem ax_K.calling {g : ax_G} {U : State} {f : JFrame} {mk : MethodId} {a : Array Value} (h : ax_K g U) : ax_K g (U.calling f mk a) := ⟨va_K.moved (u := U) (U := U.calling f mk a) (Vm.Alike.refl U.vm) h.1, fun q hq => (h.2 q hq).same rfl rfl⟩
/-- what stays through a method's body -/
def ax_X (M : ax_M) (p : Program) (s : State) (m : MethodId) (args : Array Value) (meth : Method) (c : Code) : Prop :=
  p.tables.exec = Jvm.exec ∧ c.code = M.2.1 ∧ c.maxLocals = M.2.2.1 ∧ s.vm.findClass M.1.cls = some m.cls ∧ (∀ w ∈ ax_T, w.before args s = true) ∧ meth.sig.returnType = M.2.2.2 ∧ meth.locks = false ∧ (M.1.name = "<init>" → meth.name = "<init>")
abbrev ax_Et : Type := State → ax_G → Prop
abbrev ax_Zt : Type := ax_G → List Frame → Array Value → State → State → Prop
def ax_ml (g : ax_G) (ls : List (Nat × Value)) : List (Nat × Value) := ls.map (fun q => (q.1, ax_v g q.2))
def AW (M : ax_M) (R : Room) (E : ax_Et) (Z : ax_Zt) (h : ax_H) (kc ks pc : Nat) (ls : List (Nat × Value)) (st : List Value) : Prop :=
  ∀ (p : Program) (l : Launch) (e : Env) (s : State) (m : MethodId) (args : Array Value) (below : List Frame) (meth : Method) (c : Code) (g : ax_G) (H : Heap) (locs : List Loc) (lz : Array Slot),
    ax_X M p s m args meth c → ax_K g s → g.1 ≤ s.heap.size ∧ s.heap.size + kc = g.1 + h.length → va_P g.2.2.1 classes (ax_w g h) H → va_S (ax_A g) s.heap H locs → lv_has lz M.2.2.1 (ax_ml g ls) → E s g →
    W p l e R s m args below meth c H locs kc ks (Z g below args s) (F0 m pc lz (st.map (ax_v g)))
def lg : List (Nat × Value) → Nat → Option Value
  | [], _ => none
  | q :: t, i => bif q.1 == i then some q.2 else lg t i
theorem lg_mem : ∀ {ls : List (Nat × Value)} {i : Nat} {v : Value}, lg ls i = some v → (i, v) ∈ ls
  | q :: t, i, v, h => by
    unfold lg at h
    cases hb : (q.1 == i) with
    | true =>
      rw [hb] at h
      have h1 : q.2 = v := Option.some.inj h
      have h2 : q.1 = i := by simpa using hb
      subst h1; subst h2
      exact List.mem_cons_self
    | false =>
      rw [hb] at h
      exact List.mem_cons_of_mem _ (lg_mem h)
theorem lg_at {g : ax_G} {lz : Array Slot} {n : Nat} {ls : List (Nat × Value)} {i : Nat} {v : Value} (hl : lv_has lz n (ax_ml g ls)) (h : lg ls i = some v) : lz[i]? = some (.val (ax_v g v)) :=
  hl.2.2 (i, ax_v g v) (List.mem_map.mpr ⟨(i, v), lg_mem h, rfl⟩)
/-- a value of one word put into a local -/
def ls1 (i : Nat) (v : Value) : List (Nat × Value) → List (Nat × Value)
  | [] => [(i, v)]
  | q :: t => bif q.1 == i then (i, v) :: t.filter (fun q => !(q.1 == i) && !(q.1 + 1 == i && q.2.category == 2)) else (bif q.1 + 1 == i && q.2.category == 2 then ls1 i v t else q :: ls1 i v t)
def ls2 (i : Nat) (v : Value) : List (Nat × Value) → List (Nat × Value)
  | [] => [(i, v)]
  | q :: t => bif q.1 == i then (i, v) :: t.filter (fun q => !(q.1 == i) && (!(q.1 == i + 1) && !(q.1 + 1 == i && q.2.category == 2))) else (bif q.1 == i + 1 || (q.1 + 1 == i && q.2.category == 2) then ls2 i v t else q :: ls2 i v t)
theorem ls1_mem (i : Nat) (v : Value) : ∀ (ls : List (Nat × Value)), ∀ q ∈ ls1 i v ls, q = (i, v) ∨ (q ∈ ls ∧ (!(q.1 == i) && !(q.1 + 1 == i && q.2.category == 2)) = true)
  | [], q, h => by
    have : q = (i, v) := by simpa [ls1] using h
    exact Or.inl this
  | a :: t, q, h => by
    unfold ls1 at h
    cases hb : (a.1 == i) with
    | true =>
      rw [hb] at h
      rcases List.mem_cons.mp h with h | h
      · exact Or.inl h
      · exact Or.inr ⟨List.mem_cons_of_mem _ (List.mem_filter.mp h).1, (List.mem_filter.mp h).2⟩
    | false =>
      rw [hb] at h
      cases hc : (a.1 + 1 == i && a.2.category == 2) with
      | true =>
        rw [hc] at h
        rcases ls1_mem i v t q h with h | h
        · exact Or.inl h
        · exact Or.inr ⟨List.mem_cons_of_mem _ h.1, h.2⟩
      | false =>
        rw [hc] at h
        rcases List.mem_cons.mp h with h | h
        · subst h
          exact Or.inr ⟨List.mem_cons_self, by rw [hb, hc]; rfl⟩
        · rcases ls1_mem i v t q h with h | h
          · exact Or.inl h
          · exact Or.inr ⟨List.mem_cons_of_mem _ h.1, h.2⟩
theorem ls2_mem (i : Nat) (v : Value) : ∀ (ls : List (Nat × Value)), ∀ q ∈ ls2 i v ls, q = (i, v) ∨ (q ∈ ls ∧ (!(q.1 == i) && (!(q.1 == i + 1) && !(q.1 + 1 == i && q.2.category == 2))) = true)
  | [], q, h => by
    have : q = (i, v) := by simpa [ls2] using h
    exact Or.inl this
  | a :: t, q, h => by
    unfold ls2 at h
    cases hb : (a.1 == i) with
    | true =>
      rw [hb] at h
      rcases List.mem_cons.mp h with h | h
      · exact Or.inl h
      · exact Or.inr ⟨List.mem_cons_of_mem _ (List.mem_filter.mp h).1, (List.mem_filter.mp h).2⟩
    | false =>
      rw [hb] at h
      cases hd : (a.1 == i + 1) with
      | true =>
        rw [hd] at h
        rcases ls2_mem i v t q h with h | h
        · exact Or.inl h
        · exact Or.inr ⟨List.mem_cons_of_mem _ h.1, h.2⟩
      | false =>
        cases hc : (a.1 + 1 == i && a.2.category == 2) with
        | true =>
          rw [hd, hc] at h
          rcases ls2_mem i v t q h with h | h
          · exact Or.inl h
          · exact Or.inr ⟨List.mem_cons_of_mem _ h.1, h.2⟩
        | false =>
          rw [hd, hc] at h
          rcases List.mem_cons.mp h with h | h
          · subst h
            exact Or.inr ⟨List.mem_cons_self, by rw [hb, hd, hc]; rfl⟩
          · rcases ls2_mem i v t q h with h | h
            · exact Or.inl h
            · exact Or.inr ⟨List.mem_cons_of_mem _ h.1, h.2⟩
theorem ax_cat (g : ax_G) (v : Value) : (ax_v g v).category = v.category := by cases v <;> rfl
theorem ls1_has {g : ax_G} {lz : Array Slot} {n i : Nat} {v : Value} {ls ls' : List (Nat × Value)} (h : lv_has lz n ((i, ax_v g v) :: (ax_ml g ls).filter (fun q => !(q.1 == i) && !(q.1 + 1 == i && q.2.category == 2)))) (hs : ls1 i v ls = ls') : lv_has lz n (ax_ml g ls') := by
  subst hs
  refine ⟨h.1, h.2.1, fun q hq => h.2.2 q ?_⟩
  obtain ⟨a, ha, rfl⟩ := List.mem_map.mp hq
  rcases ls1_mem i v ls a ha with rfl | ⟨h1, h2⟩
  · exact List.mem_cons_self
  · refine List.mem_cons_of_mem _ (List.mem_filter.mpr ⟨List.mem_map.mpr ⟨a, h1, rfl⟩, ?_⟩)
    show (!(a.1 == i) && !(a.1 + 1 == i && (ax_v g a.2).category == 2)) = true
    rw [ax_cat]; exact h2
theorem ls2_has {g : ax_G} {lz : Array Slot} {n i : Nat} {v : Value} {ls ls' : List (Nat × Value)} (h : lv_has lz n ((i, ax_v g v) :: (ax_ml g ls).filter (fun q => !(q.1 == i) && (!(q.1 == i + 1) && !(q.1 + 1 == i && q.2.category == 2))))) (hs : ls2 i v ls = ls') : lv_has lz n (ax_ml g ls') := by
  subst hs
  refine ⟨h.1, h.2.1, fun q hq => h.2.2 q ?_⟩
  obtain ⟨a, ha, rfl⟩ := List.mem_map.mp hq
  rcases ls2_mem i v ls a ha with rfl | ⟨h1, h2⟩
  · exact List.mem_cons_self
  · refine List.mem_cons_of_mem _ (List.mem_filter.mpr ⟨List.mem_map.mpr ⟨a, h1, rfl⟩, ?_⟩)
    show (!(a.1 == i) && (!(a.1 == i + 1) && !(a.1 + 1 == i && (ax_v g a.2).category == 2))) = true
    rw [ax_cat]; exact h2
section ROWS
variable {M : ax_M} {R : Room} {E : ax_Et} {Z : ax_Zt} {h : ax_H} {kc ks pc : Nat} {ls : List (Nat × Value)} {st : List Value}
theorem aw_sub {ls' : List (Nat × Value)} (ps : List Nat) (hp : lv_pick ls ps = ls') (k : AW M R E Z h kc ks pc ls' st) : AW M R E Z h kc ks pc ls st := by
  intro p l e s m args below meth c g H locs lz X K hb hP hS hl hE
  refine k p l e s m args below meth c g H locs lz X K hb hP hS ⟨hl.1, hl.2.1, fun q hq => hl.2.2 q ?_⟩ hE
  obtain ⟨a, ha, rfl⟩ := List.mem_map.mp hq
  rw [← hp] at ha
  obtain ⟨j, -, hj⟩ := List.mem_filterMap.mp ha
  exact List.mem_map.mpr ⟨a, List.mem_of_getElem? hj, rfl⟩
theorem aw_eq {h' : ax_H} {ls' : List (Nat × Value)} {st' : List Value} (k : AW M R E Z h' kc ks pc ls' st') (e1 : h = h' := by rfl) (e2 : ls = ls' := by rfl) (e3 : st = st' := by rfl) : AW M R E Z h kc ks pc ls st := by
  subst e1; subst e2; subst e3; exact k
theorem aw_iadd {x y : Int32} (hd : decode M.2.1 pc = .ok (.iadd, 1)) (k : AW M R E Z h kc ks (pc + 1) ls (.int (x + y) :: st)) : AW M R E Z h kc ks pc ls (.int y :: .int x :: st) := by
  intro p l e s m args below meth c g H locs lz X K hb hP hS hl hE
  exact lv_iadd X.1 X.2.1 hd (k p l e s m args below meth c g H locs lz X K hb hP hS hl hE)
theorem aw_isub {x y : Int32} (hd : decode M.2.1 pc = .ok (.isub, 1)) (k : AW M R E Z h kc ks (pc + 1) ls (.int (x - y) :: st)) : AW M R E Z h kc ks pc ls (.int y :: .int x :: st) := by
  intro p l e s m args below meth c g H locs lz X K hb hP hS hl hE
  exact lv_isub X.1 X.2.1 hd (k p l e s m args below meth c g H locs lz X K hb hP hS hl hE)
theorem aw_imul {x y : Int32} (hd : decode M.2.1 pc = .ok (.imul, 1)) (k : AW M R E Z h kc ks (pc + 1) ls (.int (x * y) :: st)) : AW M R E Z h kc ks pc ls (.int y :: .int x :: st) := by
  intro p l e s m args below meth c g H locs lz X K hb hP hS hl hE
  exact lv_imul X.1 X.2.1 hd (k p l e s m args below meth c g H locs lz X K hb hP hS hl hE)
theorem aw_iand {x y : Int32} (hd : decode M.2.1 pc = .ok (.iand, 1)) (k : AW M R E Z h kc ks (pc + 1) ls (.int (x &&& y) :: st)) : AW M R E Z h kc ks pc ls (.int y :: .int x :: st) := by
  intro p l e s m args below meth c g H locs lz X K hb hP hS hl hE
  exact lv_iand X.1 X.2.1 hd (k p l e s m args below meth c g H locs lz X K hb hP hS hl hE)
theorem aw_ior {x y : Int32} (hd : decode M.2.1 pc = .ok (.ior, 1)) (k : AW M R E Z h kc ks (pc + 1) ls (.int (x ||| y) :: st)) : AW M R E Z h kc ks pc ls (.int y :: .int x :: st) := by
  intro p l e s m args below meth c g H locs lz X K hb hP hS hl hE
  exact lv_ior X.1 X.2.1 hd (k p l e s m args below meth c g H locs lz X K hb hP hS hl hE)
theorem aw_ixor {x y : Int32} (hd : decode M.2.1 pc = .ok (.ixor, 1)) (k : AW M R E Z h kc ks (pc + 1) ls (.int (x ^^^ y) :: st)) : AW M R E Z h kc ks pc ls (.int y :: .int x :: st) := by
  intro p l e s m args below meth c g H locs lz X K hb hP hS hl hE
  exact lv_ixor X.1 X.2.1 hd (k p l e s m args below meth c g H locs lz X K hb hP hS hl hE)
theorem aw_ladd {x y : Int64} (hd : decode M.2.1 pc = .ok (.ladd, 1)) (k : AW M R E Z h kc ks (pc + 1) ls (.long (x + y) :: st)) : AW M R E Z h kc ks pc ls (.long y :: .long x :: st) := by
  intro p l e s m args below meth c g H locs lz X K hb hP hS hl hE
  exact lv_ladd X.1 X.2.1 hd (k p l e s m args below meth c g H locs lz X K hb hP hS hl hE)
theorem aw_lsub {x y : Int64} (hd : decode M.2.1 pc = .ok (.lsub, 1)) (k : AW M R E Z h kc ks (pc + 1) ls (.long (x - y) :: st)) : AW M R E Z h kc ks pc ls (.long y :: .long x :: st) := by
  intro p l e s m args below meth c g H locs lz X K hb hP hS hl hE
  exact lv_lsub X.1 X.2.1 hd (k p l e s m args below meth c g H locs lz X K hb hP hS hl hE)
theorem aw_lmul {x y : Int64} (hd : decode M.2.1 pc = .ok (.lmul, 1)) (k : AW M R E Z h kc ks (pc + 1) ls (.long (x * y) :: st)) : AW M R E Z h kc ks pc ls (.long y :: .long x :: st) := by
  intro p l e s m args below meth c g H locs lz X K hb hP hS hl hE
  exact lv_lmul X.1 X.2.1 hd (k p l e s m args below meth c g H locs lz X K hb hP hS hl hE)
theorem aw_idiv {x y : Int32} (hd : decode M.2.1 pc = .ok (.idiv, 1)) (hy : ¬ y = 0) (k : AW M R E Z h kc ks (pc + 1) ls (.int (x / y) :: st)) : AW M R E Z h kc ks pc ls (.int y :: .int x :: st) := by
  intro p l e s m args below meth c g H locs lz X K hb hP hS hl hE
  exact lv_idiv X.1 X.2.1 hd hy (k p l e s m args below meth c g H locs lz X K hb hP hS hl hE)
theorem aw_irem {x y : Int32} (hd : decode M.2.1 pc = .ok (.irem, 1)) (hy : ¬ y = 0) (k : AW M R E Z h kc ks (pc + 1) ls (.int (x - x / y * y) :: st)) : AW M R E Z h kc ks pc ls (.int y :: .int x :: st) := by
  intro p l e s m args below meth c g H locs lz X K hb hP hS hl hE
  exact lv_irem X.1 X.2.1 hd hy (k p l e s m args below meth c g H locs lz X K hb hP hS hl hE)
theorem aw_ldiv {x y : Int64} (hd : decode M.2.1 pc = .ok (.ldiv, 1)) (hy : ¬ y = 0) (k : AW M R E Z h kc ks (pc + 1) ls (.long (x / y) :: st)) : AW M R E Z h kc ks pc ls (.long y :: .long x :: st) := by
  intro p l e s m args below meth c g H locs lz X K hb hP hS hl hE
  exact lv_ldiv X.1 X.2.1 hd hy (k p l e s m args below meth c g H locs lz X K hb hP hS hl hE)
theorem aw_lrem {x y : Int64} (hd : decode M.2.1 pc = .ok (.lrem, 1)) (hy : ¬ y = 0) (k : AW M R E Z h kc ks (pc + 1) ls (.long (x - x / y * y) :: st)) : AW M R E Z h kc ks pc ls (.long y :: .long x :: st) := by
  intro p l e s m args below meth c g H locs lz X K hb hP hS hl hE
  exact lv_lrem X.1 X.2.1 hd hy (k p l e s m args below meth c g H locs lz X K hb hP hS hl hE)
theorem aw_ishl {x y : Int32} (hd : decode M.2.1 pc = .ok (.ishl, 1)) (k : AW M R E Z h kc ks (pc + 1) ls (.int (x <<< (y &&& 31)) :: st)) : AW M R E Z h kc ks pc ls (.int y :: .int x :: st) := by
  intro p l e s m args below meth c g H locs lz X K hb hP hS hl hE
  exact lv_ishl X.1 X.2.1 hd (k p l e s m args below meth c g H locs lz X K hb hP hS hl hE)
theorem aw_ishr {x y : Int32} (hd : decode M.2.1 pc = .ok (.ishr, 1)) (k : AW M R E Z h kc ks (pc + 1) ls (.int (x >>> (y &&& 31)) :: st)) : AW M R E Z h kc ks pc ls (.int y :: .int x :: st) := by
  intro p l e s m args below meth c g H locs lz X K hb hP hS hl hE
  exact lv_ishr X.1 X.2.1 hd (k p l e s m args below meth c g H locs lz X K hb hP hS hl hE)
theorem aw_iushr {x y : Int32} (hd : decode M.2.1 pc = .ok (.iushr, 1)) (k : AW M R E Z h kc ks (pc + 1) ls (.int ((x.toUInt32 >>> (y.toUInt32 &&& Int32.toUInt32 31)).toInt32) :: st)) : AW M R E Z h kc ks pc ls (.int y :: .int x :: st) := by
  intro p l e s m args below meth c g H locs lz X K hb hP hS hl hE
  exact lv_iushr X.1 X.2.1 hd rfl (k p l e s m args below meth c g H locs lz X K hb hP hS hl hE)
theorem aw_i2l {x : Int32} (hd : decode M.2.1 pc = .ok (.i2l, 1)) (k : AW M R E Z h kc ks (pc + 1) ls (.long x.toInt64 :: st)) : AW M R E Z h kc ks pc ls (.int x :: st) := by
  intro p l e s m args below meth c g H locs lz X K hb hP hS hl hE
  exact lv_i2l X.1 X.2.1 hd rfl (k p l e s m args below meth c g H locs lz X K hb hP hS hl hE)
theorem aw_iconst {z : Int} {v : Int32} (hd : decode M.2.1 pc = .ok (.iconst z, 1)) (hv : Int32.ofInt z = v) (k : AW M R E Z h kc ks (pc + 1) ls (.int v :: st)) : AW M R E Z h kc ks pc ls st := by
  intro p l e s m args below meth c g H locs lz X K hb hP hS hl hE
  exact lv_iconst X.1 X.2.1 hd hv (k p l e s m args below meth c g H locs lz X K hb hP hS hl hE)
theorem aw_bipush {z : Int} {v : Int32} (hd : decode M.2.1 pc = .ok (.bipush z, 2)) (hv : (Int8.ofInt z).toInt32 = v) (k : AW M R E Z h kc ks (pc + 2) ls (.int v :: st)) : AW M R E Z h kc ks pc ls st := by
  intro p l e s m args below meth c g H locs lz X K hb hP hS hl hE
  exact lv_bipush X.1 X.2.1 hd hv (k p l e s m args below meth c g H locs lz X K hb hP hS hl hE)
theorem aw_sipush {z : Int} {v : Int32} (hd : decode M.2.1 pc = .ok (.sipush z, 3)) (hv : (Int16.ofInt z).toInt32 = v) (k : AW M R E Z h kc ks (pc + 3) ls (.int v :: st)) : AW M R E Z h kc ks pc ls st := by
  intro p l e s m args below meth c g H locs lz X K hb hP hS hl hE
  exact lv_sipush X.1 X.2.1 hd hv (k p l e s m args below meth c g H locs lz X K hb hP hS hl hE)
theorem aw_lconst {z : Fin 2} {v : Int64} (hd : decode M.2.1 pc = .ok (.lconst z, 1)) (hv : Int64.ofNat (z : Nat) = v) (k : AW M R E Z h kc ks (pc + 1) ls (.long v :: st)) : AW M R E Z h kc ks pc ls st := by
  intro p l e s m args below meth c g H locs lz X K hb hP hS hl hE
  exact lv_lconst X.1 X.2.1 hd hv (k p l e s m args below meth c g H locs lz X K hb hP hS hl hE)
theorem aw_ldc {z : Nat} {v : Int32} (hd : decode M.2.1 pc = .ok (.ldc z, 2)) (hw : Cond.constant M.1.cls z v ∈ ax_T) (k : AW M R E Z h kc ks (pc + 2) ls (.int v :: st)) : AW M R E Z h kc ks pc ls st := by
  intro p l e s m args below meth c g H locs lz X K hb hP hS hl hE
  exact lv_ldc X.1 X.2.1 X.2.2.2.1 (X.2.2.2.2.1 _ hw) hd (k p l e s m args below meth c g H locs lz X K hb hP hS hl hE)
theorem aw_ldcw {z : Nat} {v : Int32} (hd : decode M.2.1 pc = .ok (.ldc_w z, 3)) (hw : Cond.constant M.1.cls z v ∈ ax_T) (k : AW M R E Z h kc ks (pc + 3) ls (.int v :: st)) : AW M R E Z h kc ks pc ls st := by
  intro p l e s m args below meth c g H locs lz X K hb hP hS hl hE
  exact lv_ldcw X.1 X.2.1 X.2.2.2.1 (X.2.2.2.2.1 _ hw) hd (k p l e s m args below meth c g H locs lz X K hb hP hS hl hE)
theorem aw_ldc2 {z : Nat} {v : Int64} (hd : decode M.2.1 pc = .ok (.ldc2_w z, 3)) (hw : Cond.constantLong M.1.cls z v ∈ ax_T) (k : AW M R E Z h kc ks (pc + 3) ls (.long v :: st)) : AW M R E Z h kc ks pc ls st := by
  intro p l e s m args below meth c g H locs lz X K hb hP hS hl hE
  exact lv_ldc2 X.1 X.2.1 X.2.2.2.1 (X.2.2.2.2.1 _ hw) hd (k p l e s m args below meth c g H locs lz X K hb hP hS hl hE)
theorem aw_iload_n {i : Fin 4} {j : Nat} {x : Int32} (hd : decode M.2.1 pc = .ok (.iload_n i, 1)) (hi : (i : Nat) = j) (hv : lg ls j = some (.int x)) (k : AW M R E Z h kc ks (pc + 1) ls (.int x :: st)) : AW M R E Z h kc ks pc ls st := by
  intro p l e s m args below meth c g H locs lz X K hb hP hS hl hE
  exact lv_iload_n X.1 X.2.1 hd hi (lg_at hl hv) (k p l e s m args below meth c g H locs lz X K hb hP hS hl hE)
theorem aw_iload {j : Nat} {x : Int32} (hd : decode M.2.1 pc = .ok (.iload j, 2)) (hv : lg ls j = some (.int x)) (k : AW M R E Z h kc ks (pc + 2) ls (.int x :: st)) : AW M R E Z h kc ks pc ls st := by
  intro p l e s m args below meth c g H locs lz X K hb hP hS hl hE
  exact lv_iload X.1 X.2.1 hd (lg_at hl hv) (k p l e s m args below meth c g H locs lz X K hb hP hS hl hE)
theorem aw_lload_n {i : Fin 4} {j : Nat} {x : Int64} (hd : decode M.2.1 pc = .ok (.lload_n i, 1)) (hi : (i : Nat) = j) (hv : lg ls j = some (.long x)) (k : AW M R E Z h kc ks (pc + 1) ls (.long x :: st)) : AW M R E Z h kc ks pc ls st := by
  intro p l e s m args below meth c g H locs lz X K hb hP hS hl hE
  exact lv_lload_n X.1 X.2.1 hd hi (lg_at hl hv) (k p l e s m args below meth c g H locs lz X K hb hP hS hl hE)
theorem aw_lload {j : Nat} {x : Int64} (hd : decode M.2.1 pc = .ok (.lload j, 2)) (hv : lg ls j = some (.long x)) (k : AW M R E Z h kc ks (pc + 2) ls (.long x :: st)) : AW M R E Z h kc ks pc ls st := by
  intro p l e s m args below meth c g H locs lz X K hb hP hS hl hE
  exact lv_lload X.1 X.2.1 hd (lg_at hl hv) (k p l e s m args below meth c g H locs lz X K hb hP hS hl hE)
theorem aw_aload_n {i : Fin 4} {j : Nat} {x : Nat} (hd : decode M.2.1 pc = .ok (.aload_n i, 1)) (hi : (i : Nat) = j) (hv : lg ls j = some (.ref x)) (k : AW M R E Z h kc ks (pc + 1) ls (.ref x :: st)) : AW M R E Z h kc ks pc ls st := by
  intro p l e s m args below meth c g H locs lz X K hb hP hS hl hE
  exact lv_aload_n X.1 X.2.1 hd hi (lg_at hl hv) (k p l e s m args below meth c g H locs lz X K hb hP hS hl hE)
theorem aw_aload {j : Nat} {x : Nat} (hd : decode M.2.1 pc = .ok (.aload j, 2)) (hv : lg ls j = some (.ref x)) (k : AW M R E Z h kc ks (pc + 2) ls (.ref x :: st)) : AW M R E Z h kc ks pc ls st := by
  intro p l e s m args below meth c g H locs lz X K hb hP hS hl hE
  exact lv_aload X.1 X.2.1 hd (lg_at hl hv) (k p l e s m args below meth c g H locs lz X K hb hP hS hl hE)
theorem aw_aload_s {i : Fin 4} {j : Nat} {x : UInt32} (hd : decode M.2.1 pc = .ok (.aload_n i, 1)) (hi : (i : Nat) = j) (hv : lg ls j = some (.float x)) (k : AW M R E Z h kc ks (pc + 1) ls (.float x :: st)) : AW M R E Z h kc ks pc ls st := by
  intro p l e s m args below meth c g H locs lz X K hb hP hS hl hE
  exact lv_aload_n X.1 X.2.1 hd hi (lg_at hl hv) (k p l e s m args below meth c g H locs lz X K hb hP hS hl hE)
theorem aw_istore_n {i : Fin 4} {j : Nat} {x : Int32} {ls' : List (Nat × Value)} (hd : decode M.2.1 pc = .ok (.istore_n i, 1)) (hi : (i : Nat) = j) (hn : j < M.2.2.1) (hs : ls1 j (.int x) ls = ls') (k : AW M R E Z h kc ks (pc + 1) ls' st) : AW M R E Z h kc ks pc ls (.int x :: st) := by
  intro p l e s m args below meth c g H locs lz X K hb hP hS hl hE
  exact lv_istore_n X.1 X.2.1 hd hi hl hn rfl (fun lz hl => k p l e s m args below meth c g H locs lz X K hb hP hS (ls1_has hl hs) hE)
theorem aw_istore {j : Nat} {x : Int32} {ls' : List (Nat × Value)} (hd : decode M.2.1 pc = .ok (.istore j, 2)) (hn : j < M.2.2.1) (hs : ls1 j (.int x) ls = ls') (k : AW M R E Z h kc ks (pc + 2) ls' st) : AW M R E Z h kc ks pc ls (.int x :: st) := by
  intro p l e s m args below meth c g H locs lz X K hb hP hS hl hE
  exact lv_istore X.1 X.2.1 hd hl hn rfl (fun lz hl => k p l e s m args below meth c g H locs lz X K hb hP hS (ls1_has hl hs) hE)
theorem aw_astore_n {i : Fin 4} {j : Nat} {x : Nat} {ls' : List (Nat × Value)} (hd : decode M.2.1 pc = .ok (.astore_n i, 1)) (hi : (i : Nat) = j) (hn : j < M.2.2.1) (hs : ls1 j (.ref x) ls = ls') (k : AW M R E Z h kc ks (pc + 1) ls' st) : AW M R E Z h kc ks pc ls (.ref x :: st) := by
  intro p l e s m args below meth c g H locs lz X K hb hP hS hl hE
  exact lv_astore_n X.1 X.2.1 hd hi hl hn rfl (fun lz hl => k p l e s m args below meth c g H locs lz X K hb hP hS (ls1_has hl hs) hE)
theorem aw_astore {j : Nat} {x : Nat} {ls' : List (Nat × Value)} (hd : decode M.2.1 pc = .ok (.astore j, 2)) (hn : j < M.2.2.1) (hs : ls1 j (.ref x) ls = ls') (k : AW M R E Z h kc ks (pc + 2) ls' st) : AW M R E Z h kc ks pc ls (.ref x :: st) := by
  intro p l e s m args below meth c g H locs lz X K hb hP hS hl hE
  exact lv_astore X.1 X.2.1 hd hl hn rfl (fun lz hl => k p l e s m args below meth c g H locs lz X K hb hP hS (ls1_has hl hs) hE)
theorem aw_lstore_n {i : Fin 4} {j : Nat} {x : Int64} {ls' : List (Nat × Value)} (hd : decode M.2.1 pc = .ok (.lstore_n i, 1)) (hi : (i : Nat) = j) (hn : j + 1 < M.2.2.1) (hs : ls2 j (.long x) ls = ls') (k : AW M R E Z h kc ks (pc + 1) ls' st) : AW M R E Z h kc ks pc ls (.long x :: st) := by
  intro p l e s m args below meth c g H locs lz X K hb hP hS hl hE
  exact lv_lstore_n X.1 X.2.1 hd hi hl hn rfl (fun lz hl => k p l e s m args below meth c g H locs lz X K hb hP hS (ls2_has hl hs) hE)
theorem aw_lstore {j : Nat} {x : Int64} {ls' : List (Nat × Value)} (hd : decode M.2.1 pc = .ok (.lstore j, 2)) (hn : j + 1 < M.2.2.1) (hs : ls2 j (.long x) ls = ls') (k : AW M R E Z h kc ks (pc + 2) ls' st) : AW M R E Z h kc ks pc ls (.long x :: st) := by
  intro p l e s m args below meth c g H locs lz X K hb hP hS hl hE
  exact lv_lstore X.1 X.2.1 hd hl hn rfl (fun lz hl => k p l e s m args below meth c g H locs lz X K hb hP hS (ls2_has hl hs) hE)
theorem aw_iinc {j : Nat} {z : Int} {x v : Int32} {ls' : List (Nat × Value)} (hd : decode M.2.1 pc = .ok (.iinc j z, 3)) (hv : lg ls j = some (.int x)) (hx : x + Int32.ofInt z = v) (hn : j < M.2.2.1) (hs : ls1 j (.int v) ls = ls') (k : AW M R E Z h kc ks (pc + 3) ls' st) : AW M R E Z h kc ks pc ls st := by
  intro p l e s m args below meth c g H locs lz X K hb hP hS hl hE
  have hm : (j, Value.int x) ∈ ax_ml g ls := List.mem_map.mpr ⟨(j, .int x), lg_mem hv, rfl⟩
  obtain ⟨i, hi⟩ := List.getElem?_of_mem hm
  exact lv_iinc X.1 X.2.1 hd hl hi hx hn rfl (fun lz hl => k p l e s m args below meth c g H locs lz X K hb hP hS (ls1_has hl hs) hE)
theorem aw_dup {v : Value} (hd : decode M.2.1 pc = .ok (.dup, 1)) (hv : v.category = 1) (k : AW M R E Z h kc ks (pc + 1) ls (v :: v :: st)) : AW M R E Z h kc ks pc ls (v :: st) := by
  intro p l e s m args below meth c g H locs lz X K hb hP hS hl hE
  exact lv_dup X.1 X.2.1 hd ((ax_cat g v).trans hv) (k p l e s m args below meth c g H locs lz X K hb hP hS hl hE)
theorem aw_pop {v : Value} (hd : decode M.2.1 pc = .ok (.pop, 1)) (hv : v.category = 1) (k : AW M R E Z h kc ks (pc + 1) ls st) : AW M R E Z h kc ks pc ls (v :: st) := by
  intro p l e s m args below meth c g H locs lz X K hb hP hS hl hE
  exact lv_pop X.1 X.2.1 hd ((ax_cat g v).trans hv) (k p l e s m args below meth c g H locs lz X K hb hP hS hl hE)
theorem aw_dup2 {v w : Value} (hd : decode M.2.1 pc = .ok (.dup2, 1)) (hv : v.category = 1) (hw : w.category = 1) (k : AW M R E Z h kc ks (pc + 1) ls (v :: w :: v :: w :: st)) : AW M R E Z h kc ks pc ls (v :: w :: st) := by
  intro p l e s m args below meth c g H locs lz X K hb hP hS hl hE
  exact lv_dup2_11 X.1 X.2.1 hd ((ax_cat g v).trans hv) ((ax_cat g w).trans hw) (k p l e s m args below meth c g H locs lz X K hb hP hS hl hE)
theorem aw_icmp_eq {x y : Int32} {off : Int} {tgt : Nat} (hd : decode M.2.1 pc = .ok (.if_icmp .eq off, 3)) (ht : (pc : Int) + off = (tgt : Int)) (kt : x = y → AW M R E Z h kc ks tgt ls st) (kf : ¬ x = y → AW M R E Z h kc ks (pc + 3) ls st) : AW M R E Z h kc ks pc ls (.int y :: .int x :: st) := by
  intro p l e s m args below meth c g H locs lz X K hb hP hS hl hE
  exact lv_icmp_eq X.1 X.2.1 hd ht (fun hc => kt hc p l e s m args below meth c g H locs lz X K hb hP hS hl hE) (fun hc => kf hc p l e s m args below meth c g H locs lz X K hb hP hS hl hE)
theorem aw_if_eq {x : Int32} {off : Int} {tgt : Nat} (hd : decode M.2.1 pc = .ok (.ifCond .eq off, 3)) (ht : (pc : Int) + off = (tgt : Int)) (kt : x = 0 → AW M R E Z h kc ks tgt ls st) (kf : ¬ x = 0 → AW M R E Z h kc ks (pc + 3) ls st) : AW M R E Z h kc ks pc ls (.int x :: st) := by
  intro p l e s m args below meth c g H locs lz X K hb hP hS hl hE
  exact lv_if_eq X.1 X.2.1 hd ht (fun hc => kt hc p l e s m args below meth c g H locs lz X K hb hP hS hl hE) (fun hc => kf hc p l e s m args below meth c g H locs lz X K hb hP hS hl hE)
theorem aw_icmp_ne {x y : Int32} {off : Int} {tgt : Nat} (hd : decode M.2.1 pc = .ok (.if_icmp .ne off, 3)) (ht : (pc : Int) + off = (tgt : Int)) (kt : ¬ x = y → AW M R E Z h kc ks tgt ls st) (kf : x = y → AW M R E Z h kc ks (pc + 3) ls st) : AW M R E Z h kc ks pc ls (.int y :: .int x :: st) := by
  intro p l e s m args below meth c g H locs lz X K hb hP hS hl hE
  exact lv_icmp_ne X.1 X.2.1 hd ht (fun hc => kt hc p l e s m args below meth c g H locs lz X K hb hP hS hl hE) (fun hc => kf hc p l e s m args below meth c g H locs lz X K hb hP hS hl hE)
theorem aw_if_ne {x : Int32} {off : Int} {tgt : Nat} (hd : decode M.2.1 pc = .ok (.ifCond .ne off, 3)) (ht : (pc : Int) + off = (tgt : Int)) (kt : ¬ x = 0 → AW M R E Z h kc ks tgt ls st) (kf : x = 0 → AW M R E Z h kc ks (pc + 3) ls st) : AW M R E Z h kc ks pc ls (.int x :: st) := by
  intro p l e s m args below meth c g H locs lz X K hb hP hS hl hE
  exact lv_if_ne X.1 X.2.1 hd ht (fun hc => kt hc p l e s m args below meth c g H locs lz X K hb hP hS hl hE) (fun hc => kf hc p l e s m args below meth c g H locs lz X K hb hP hS hl hE)
theorem aw_icmp_lt {x y : Int32} {off : Int} {tgt : Nat} (hd : decode M.2.1 pc = .ok (.if_icmp .lt off, 3)) (ht : (pc : Int) + off = (tgt : Int)) (kt : x < y → AW M R E Z h kc ks tgt ls st) (kf : ¬ x < y → AW M R E Z h kc ks (pc + 3) ls st) : AW M R E Z h kc ks pc ls (.int y :: .int x :: st) := by
  intro p l e s m args below meth c g H locs lz X K hb hP hS hl hE
  exact lv_icmp_lt X.1 X.2.1 hd ht (fun hc => kt hc p l e s m args below meth c g H locs lz X K hb hP hS hl hE) (fun hc => kf hc p l e s m args below meth c g H locs lz X K hb hP hS hl hE)
theorem aw_if_lt {x : Int32} {off : Int} {tgt : Nat} (hd : decode M.2.1 pc = .ok (.ifCond .lt off, 3)) (ht : (pc : Int) + off = (tgt : Int)) (kt : x < 0 → AW M R E Z h kc ks tgt ls st) (kf : ¬ x < 0 → AW M R E Z h kc ks (pc + 3) ls st) : AW M R E Z h kc ks pc ls (.int x :: st) := by
  intro p l e s m args below meth c g H locs lz X K hb hP hS hl hE
  exact lv_if_lt X.1 X.2.1 hd ht (fun hc => kt hc p l e s m args below meth c g H locs lz X K hb hP hS hl hE) (fun hc => kf hc p l e s m args below meth c g H locs lz X K hb hP hS hl hE)
theorem aw_icmp_ge {x y : Int32} {off : Int} {tgt : Nat} (hd : decode M.2.1 pc = .ok (.if_icmp .ge off, 3)) (ht : (pc : Int) + off = (tgt : Int)) (kt : y ≤ x → AW M R E Z h kc ks tgt ls st) (kf : ¬ y ≤ x → AW M R E Z h kc ks (pc + 3) ls st) : AW M R E Z h kc ks pc ls (.int y :: .int x :: st) := by
  intro p l e s m args below meth c g H locs lz X K hb hP hS hl hE
  exact lv_icmp_ge X.1 X.2.1 hd ht (fun hc => kt hc p l e s m args below meth c g H locs lz X K hb hP hS hl hE) (fun hc => kf hc p l e s m args below meth c g H locs lz X K hb hP hS hl hE)
theorem aw_if_ge {x : Int32} {off : Int} {tgt : Nat} (hd : decode M.2.1 pc = .ok (.ifCond .ge off, 3)) (ht : (pc : Int) + off = (tgt : Int)) (kt : 0 ≤ x → AW M R E Z h kc ks tgt ls st) (kf : ¬ 0 ≤ x → AW M R E Z h kc ks (pc + 3) ls st) : AW M R E Z h kc ks pc ls (.int x :: st) := by
  intro p l e s m args below meth c g H locs lz X K hb hP hS hl hE
  exact lv_if_ge X.1 X.2.1 hd ht (fun hc => kt hc p l e s m args below meth c g H locs lz X K hb hP hS hl hE) (fun hc => kf hc p l e s m args below meth c g H locs lz X K hb hP hS hl hE)
theorem aw_icmp_gt {x y : Int32} {off : Int} {tgt : Nat} (hd : decode M.2.1 pc = .ok (.if_icmp .gt off, 3)) (ht : (pc : Int) + off = (tgt : Int)) (kt : y < x → AW M R E Z h kc ks tgt ls st) (kf : ¬ y < x → AW M R E Z h kc ks (pc + 3) ls st) : AW M R E Z h kc ks pc ls (.int y :: .int x :: st) := by
  intro p l e s m args below meth c g H locs lz X K hb hP hS hl hE
  exact lv_icmp_gt X.1 X.2.1 hd ht (fun hc => kt hc p l e s m args below meth c g H locs lz X K hb hP hS hl hE) (fun hc => kf hc p l e s m args below meth c g H locs lz X K hb hP hS hl hE)
theorem aw_if_gt {x : Int32} {off : Int} {tgt : Nat} (hd : decode M.2.1 pc = .ok (.ifCond .gt off, 3)) (ht : (pc : Int) + off = (tgt : Int)) (kt : 0 < x → AW M R E Z h kc ks tgt ls st) (kf : ¬ 0 < x → AW M R E Z h kc ks (pc + 3) ls st) : AW M R E Z h kc ks pc ls (.int x :: st) := by
  intro p l e s m args below meth c g H locs lz X K hb hP hS hl hE
  exact lv_if_gt X.1 X.2.1 hd ht (fun hc => kt hc p l e s m args below meth c g H locs lz X K hb hP hS hl hE) (fun hc => kf hc p l e s m args below meth c g H locs lz X K hb hP hS hl hE)
theorem aw_icmp_le {x y : Int32} {off : Int} {tgt : Nat} (hd : decode M.2.1 pc = .ok (.if_icmp .le off, 3)) (ht : (pc : Int) + off = (tgt : Int)) (kt : x ≤ y → AW M R E Z h kc ks tgt ls st) (kf : ¬ x ≤ y → AW M R E Z h kc ks (pc + 3) ls st) : AW M R E Z h kc ks pc ls (.int y :: .int x :: st) := by
  intro p l e s m args below meth c g H locs lz X K hb hP hS hl hE
  exact lv_icmp_le X.1 X.2.1 hd ht (fun hc => kt hc p l e s m args below meth c g H locs lz X K hb hP hS hl hE) (fun hc => kf hc p l e s m args below meth c g H locs lz X K hb hP hS hl hE)
theorem aw_if_le {x : Int32} {off : Int} {tgt : Nat} (hd : decode M.2.1 pc = .ok (.ifCond .le off, 3)) (ht : (pc : Int) + off = (tgt : Int)) (kt : x ≤ 0 → AW M R E Z h kc ks tgt ls st) (kf : ¬ x ≤ 0 → AW M R E Z h kc ks (pc + 3) ls st) : AW M R E Z h kc ks pc ls (.int x :: st) := by
  intro p l e s m args below meth c g H locs lz X K hb hP hS hl hE
  exact lv_if_le X.1 X.2.1 hd ht (fun hc => kt hc p l e s m args below meth c g H locs lz X K hb hP hS hl hE) (fun hc => kf hc p l e s m args below meth c g H locs lz X K hb hP hS hl hE)
theorem aw_goto {off : Int} {tgt : Nat} (hd : decode M.2.1 pc = .ok (.goto off, 3)) (ht : (pc : Int) + off = (tgt : Int)) (k : AW M R E Z h kc ks tgt ls st) : AW M R E Z h kc ks pc ls st := by
  intro p l e s m args below meth c g H locs lz X K hb hP hS hl hE
  exact lv_goto X.1 X.2.1 hd ht (k p l e s m args below meth c g H locs lz X K hb hP hS hl hE)
/-- a truth as the machine has it -/
def b2 (p : Prop) [Decidable p] : Int32 := if p then 1 else 0
theorem b2_1 {p : Prop} [Decidable p] (h : p) : b2 p = 1 := if_pos h
theorem b2_0 {p : Prop} [Decidable p] (h : ¬ p) : b2 p = 0 := if_neg h
theorem b2_e {p : Prop} [Decidable p] : b2 p = 0 ↔ ¬ p := by
  by_cases h : p
  · rw [b2_1 h]; exact ⟨fun q => absurd q (by decide), fun q => absurd h q⟩
  · rw [b2_0 h]; exact ⟨fun _ => h, fun _ => rfl⟩
theorem b2_c {p q : Prop} [Decidable p] [Decidable q] (h : p ↔ q) : b2 p = b2 q := by
  by_cases hp : p
  · rw [b2_1 hp, b2_1 (h.mp hp)]
  · rw [b2_0 hp, b2_0 (fun z => hp (h.mpr z))]
theorem aw_bz {p : Prop} [Decidable p] {off : Int} {tgt : Nat} (hd : decode M.2.1 pc = .ok (.ifCond .eq off, 3)) (ht : (pc : Int) + off = (tgt : Int)) (kt : ¬ p → AW M R E Z h kc ks tgt ls st) (kf : p → AW M R E Z h kc ks (pc + 3) ls st) : AW M R E Z h kc ks pc ls (.int (b2 p) :: st) :=
  aw_if_eq hd ht (fun q => kt (b2_e.mp q)) (fun q => kf (Decidable.not_not.mp (fun z => q (b2_e.mpr z))))
theorem aw_bn {p : Prop} [Decidable p] {off : Int} {tgt : Nat} (hd : decode M.2.1 pc = .ok (.ifCond .ne off, 3)) (ht : (pc : Int) + off = (tgt : Int)) (kt : p → AW M R E Z h kc ks tgt ls st) (kf : ¬ p → AW M R E Z h kc ks (pc + 3) ls st) : AW M R E Z h kc ks pc ls (.int (b2 p) :: st) :=
  aw_if_ne hd ht (fun q => kt (Decidable.not_not.mp (fun z => q (b2_e.mpr z)))) (fun q => kf (b2_e.mp q))
end ROWS
end
section
/-! heap, calls, ends, over the light machine -/
theorem ax_sz {p : Program} {l : Launch} {e : Env} {R : Room} {s : State} {m : MethodId} {args : Array Value} {below : List Frame} {meth : Method} {c : Code} {T : State} {locs : List Loc} {kc ks : Nat} {g : ax_G} {h : ax_H} {H : Heap} (X : Stand p l e R s m args below meth c T locs kc ks) (hT : T.heap = H) (hb : g.1 ≤ s.heap.size ∧ s.heap.size + kc = g.1 + h.length) (hP : va_P g.2.2.1 classes (ax_w g h) H) (hS : va_S (ax_A g) s.heap H locs) : H.size = g.1 + h.length := by
  have h1 : H.size ≤ s.heap.size + kc := by rw [← hT]; exact X.heapSize
  have h2 := hS.1
  by_cases hl : h.length = 0
  · omega
  · obtain ⟨c0, hc0⟩ : ∃ c0, h[h.length - 1]? = some c0 := ⟨h[h.length - 1]'(by omega), List.getElem?_eq_getElem (by omega)⟩
    have h3 : g.1 + (h.length - 1) < H.size := (hP (h.length - 1) _ (ax_w_at hc0)).lt
    omega
theorem up_set {xs : List Int32} {j : Nat} {x : Int32} (hj : j < xs.length) : upd (fun j => xs.getD j 0) j x = fun i => (xs.set j x).getD i 0 := by
  funext i
  by_cases hi : i = j
  · subst hi
    simp [upd, List.getD_eq_getElem?_getD, hj]
  · simp [upd, hi, List.getD_eq_getElem?_getD, List.getElem?_set_ne (Ne.symm hi)]
theorem up_setL {xs : List Int64} {j : Nat} {x : Int64} (hj : j < xs.length) : vp_updL (fun j => xs.getD j 0) j x = fun i => (xs.set j x).getD i 0 := by
  funext i
  by_cases hi : i = j
  · subst hi
    simp [vp_updL, List.getD_eq_getElem?_getD, hj]
  · simp [vp_updL, hi, List.getD_eq_getElem?_getD, List.getElem?_set_ne (Ne.symm hi)]
theorem rep_getD (N : Nat) (i : Nat) : (List.replicate N (0 : Int32)).getD i 0 = 0 := by
  rw [List.getD_eq_getElem?_getD]
  by_cases h : i < N
  · simp [List.getElem?_replicate, h]
  · simp [List.getElem?_replicate, h]
theorem rep_getDL (N : Nat) (i : Nat) : (List.replicate N (0 : Int64)).getD i 0 = 0 := by
  rw [List.getD_eq_getElem?_getD]
  by_cases h : i < N
  · simp [List.getElem?_replicate, h]
  · simp [List.getElem?_replicate, h]
/-- a field that may be written: its type, whether it is final -/
def fp_ok (own : String) (idx ci j : Nat) (fin : Bool) (t : FieldType) : Prop := ∃ (C : String) (T : u_T) (N : Nat) (ty : Nat → FieldType), cl_ok ci C T N ty ∧ j < N ∧ Cond.fieldLink own idx (T j).1 (T j).2.1 (T j).2.2.1 ∈ ax_T ∧ ty j = t ∧ (T j).2.2.2 = fin ∧ (fin = true → (T j).1 = own)
/-- a value that a field of a type takes -/
def ft_ok (t : FieldType) (v : Value) : Prop := ∀ g : ax_G, narrow t (ax_v g v) = ax_v g v ∧ fits t (ax_v g v) = true
theorem ft_int (x : Int32) : ft_ok .int (.int x) := fun _ => ⟨rfl, rfl⟩
theorem ft_long (x : Int64) : ft_ok .long (.long x) := fun _ => ⟨rfl, rfl⟩
theorem ft_obj (C : String) (k : Nat) : ft_ok (.object C) (.ref k) := fun _ => ⟨rfl, rfl⟩
theorem ft_arr (t : FieldType) (k : Nat) : ft_ok (.array t) (.ref k) := fun _ => ⟨rfl, rfl⟩
theorem ft_b2 (p : Prop) [Decidable p] : ft_ok .boolean (.int (b2 p)) := fun _ => by
  by_cases h : p
  · rw [b2_1 h]; exact ⟨rfl, rfl⟩
  · rw [b2_0 h]; exact ⟨rfl, rfl⟩
theorem ft_0 : ft_ok .boolean (.int 0) := fun _ => ⟨rfl, rfl⟩
theorem ft_1 : ft_ok .boolean (.int 1) := fun _ => ⟨rfl, rfl⟩
/-- what a method comes to -/
def ax_Q (g : ax_G) (Q : Option Value → ax_H → Prop) (mc : Nat) : Array Value → State → Outcome → State → Prop := fun _ st o t =>
  ∃ (r : Option Value) (h' : ax_H), o = .returned (r.map (ax_v g)) ∧ Q r h' ∧ va_P g.2.2.1 classes (ax_w g h') t.heap ∧ st.heap.size + mc = g.1 + h'.length ∧ va_F (ax_A g) st t
def ax_Zm (Q : Option Value → ax_H → Prop) (mc ms : Nat) : ax_Zt := fun g below args s => MQ below (ax_Q g Q mc) args s mc ms (ax_A g)
abbrev ax_E0 : ax_Et := fun _ _ => True
abbrev ax_ws (M : ax_M) : List Cond := Cond.code M.1 M.2.1 M.2.2.1 M.2.2.2 :: ax_T
def ax_Pc (g : ax_G) (h : ax_H) (as : List Value) : Array Value → State → Prop := va_Pc (as.map (ax_v g)) (fun U => (g.1 ≤ U.heap.size ∧ U.heap.size = g.1 + h.length) ∧ va_P g.2.2.1 classes (ax_w g h) U.heap ∧ ax_K g U)
theorem ax_blind (g : ax_G) (h : ax_H) (as : List Value) : FrameBlind (ax_Pc g h as) := fun _ _ _ _ q => ⟨q.1, q.2.1, q.2.2.1, q.2.2.2.calling⟩
/-- a method's contract: called with these values over these cells it returns what Q says -/
def AM (M : ax_M) (R : Room) (h : ax_H) (as : List Value) (Q : Option Value → ax_H → Prop) : Prop :=
  ∀ (l : Launch) (g : ax_G), Met l M.1 (ax_ws M) R (ax_Pc g h as) (ax_Q g Q R.cells) R.cells R.slots (ax_A g)
abbrev AD (M : ax_M) (R : Room) (h : ax_H) (as : List Value) (r : Option Value) (h' : ax_H) : Prop := AM M R h as (fun a b => a = r ∧ b = h')
theorem ax_args (g : ax_G) : ∀ (as : List Value) (k : Nat), lv_args k (as.map (ax_v g)) = ax_ml g (lv_args k as)
  | [], _ => rfl
  | v :: vs, k => by
    show (k, ax_v g v) :: lv_args (if (ax_v g v).category = 2 then k + 2 else k + 1) (vs.map (ax_v g)) = (k, ax_v g v) :: ax_ml g (lv_args (if v.category = 2 then k + 2 else k + 1) vs)
    rw [ax_cat, ax_args g vs]
theorem ax_sl (g : ax_G) : ∀ (as : List Value), (lg_sl (as.map (ax_v g))).length = (lg_sl as).length
  | [] => rfl
  | v :: vs => by
    have ih := ax_sl g vs
    simp only [lg_sl, List.map_cons, List.flatMap_cons, List.length_append] at ih ⊢
    rw [ih, ax_cat]
    split <;> rfl
theorem am_of {M : ax_M} {R : Room} {h : ax_H} {as : List Value} {Q : Option Value → ax_H → Prop} (hy : plainName M.1.cls = true) {ls : List (Nat × Value)} (hls : lv_args 0 as = ls) (hn : (lg_sl as).length ≤ M.2.2.1)
    (k : AW M R ax_E0 (ax_Zm Q R.cells R.slots) h 0 0 0 ls []) : AM M R h as Q := by
  intro l g
  refine Met.ofW (cc := M.2.1) (maxL := M.2.2.1) (ret := M.2.2.2) hy rfl ?_
  intro p e s m args below meth c s₁ B hml hv
  obtain ⟨rfl, hsz, hP, hK⟩ := hv
  have hts := atoms_spec (ws := ax_ws M) B.pre
  have hl := lv_entry (as.map (ax_v g)) (n := M.2.2.1) (by rw [ax_sl]; exact hn)
  rw [ax_args, hls] at hl
  rw [lg_entry_eq]
  exact k p l e s m _ below meth c g s.heap [] _ ⟨B.exec, B.bytes, hml, findClass_of_methodNamed B.named, fun w hw => hts w (List.mem_cons_of_mem _ hw), B.returns, B.notSynchronized, fun hi => ((name_of_methodNamed B.named B.method).1).trans hi⟩ hK hsz hP va_S.rf hl trivial
/-- fewer words of a post -/
theorem am_mono {M : ax_M} {R : Room} {h : ax_H} {as : List Value} {Q Q' : Option Value → ax_H → Prop} (hq : ∀ r h', Q r h' → Q' r h') (hM : AM M R h as Q) : AM M R h as Q' := by
  intro l g p e ha hc hk s m args below hf hfit hP hK
  have := hM l g p e ha hc hk s m args below hf hfit hP hK
  obtain ⟨t, o, h1, h2, h3, ⟨r, h', e1, e2, e3⟩, h5⟩ := this
  exact ⟨t, o, h1, h2, h3, ⟨r, h', e1, hq r h' e2, e3⟩, h5⟩
def mo_ok (M : ax_M) (n : Nat) : Prop := Cond.code M.1 M.2.1 M.2.2.1 M.2.2.2 ∈ ax_T ∧ Cond.initialized M.1.cls ∈ ax_T ∧ M.1.cls ≠ "java/lang/invoke/MethodHandle" ∧ M.1.cls ≠ "java/lang/invoke/VarHandle" ∧ (parseMethodDescriptor M.1.desc).map (fun d => d.parameters.length) = some n
def mv_ok (M : ax_M) (n ci : Nat) : Prop := mo_ok M n ∧ Cond.instanceMethod M.1 ∈ ax_T ∧ Cond.selects M.1.cls M.1 M.1 ∈ ax_T ∧ ∃ (T : u_T) (N : Nat), classes[ci]? = some (M.1.cls, T, N)
def ms_ok (M : ax_M) (n : Nat) : Prop := mo_ok M n ∧ Cond.static M.1 ∈ ax_T
def mi_ok (M : ax_M) (n : Nat) : Prop := mo_ok M n ∧ Cond.instanceMethod M.1 ∈ ax_T ∧ M.1.name = "<init>" ∧ M.2.2.2 = none
theorem ax_wsT {M : ax_M} {n : Nat} (hok : mo_ok M n) : GoodIn ax_T (ax_ws M) := ax_good (fun w hw => by
  rcases List.mem_cons.mp hw with rfl | hw
  · exact hok.1
  · exact hw)
theorem ax_CB {M' : ax_M} {R R' : Room} {s : State} {args : Array Value} {own : String} {idx n : Nat} (hok : mo_ok M' n) (hts : ∀ w ∈ ax_T, w.before args s = true) (hl : (Cond.methodLink own idx M'.1).before args s = true) (hR : R'.frames + 1 ≤ R.frames ∧ 8 + (M'.2.2.1 + 11) + R'.locals ≤ R.locals) :
    CallB R s args own idx M'.1 M'.2.1 M'.2.2.1 M'.2.2.2 (ax_ws M') R' R'.cells R'.slots n := callB_of n hts (ax_wsT hok) rfl rfl rfl (hts _ hok.2.1) hl hok.2.2 hR
theorem ax_CN {M' : ax_M} {R R' : Room} {s : State} {args : Array Value} {own host : String} {idx n : Nat} (hok : mo_ok M' n) (hts : ∀ w ∈ ax_T, w.before args s = true) (hl : va_Nw (.methodLinkNest own idx M'.1 host) s) (hR : R'.frames + 1 ≤ R.frames ∧ 8 + (M'.2.2.1 + 11) + R'.locals ≤ R.locals) :
    va_CN R s args own idx M'.1 host M'.2.1 M'.2.2.1 M'.2.2.2 (ax_ws M') R' R'.cells R'.slots n := va_cnB n hts (ax_wsT hok) rfl rfl rfl hl (hts _ hok.2.1) hok.2.2 hR
theorem ax_rs (g : ax_G) (rest : List Value) : ((rest.map (ax_v g)).map fun v => v.category).sum = (rest.map fun v => v.category).sum := by
  rw [List.map_map]
  congr 1
  exact List.map_congr_left (fun v _ => ax_cat g v)
section HEAP
variable {M : ax_M} {R : Room} {E : ax_Et} {Z : ax_Zt} {h : ax_H} {kc ks pc : Nat} {ls : List (Nat × Value)} {st : List Value}
theorem aw_get {idx ci j k : Nat} {fs : List Value} {v : Value} (hd : decode M.2.1 pc = .ok (.getfield idx, 3)) (hL : fl_ok M.1.cls idx ci j) (hk : h[k]? = some (ob ci fs)) (hv : fs[j]? = some v) (kk : AW M R E Z h kc ks (pc + 3) ls (v :: st)) : AW M R E Z h kc ks pc ls (.ref k :: st) := by
  intro p l e s m args below meth c g H locs lz X K hb hP hS hl hE
  obtain ⟨C, T, N, ty, hc, hj, hw⟩ := hL
  exact va_get X.1 X.2.1 X.2.2.2.2.1 hc.2.1 X.2.2.2.1 K.1 hP k (ax_w_at hk) hc.1 j hj (X.2.2.2.2.1 _ hw) (fun _ h9 => h9) (v := ax_v g v) (by rw [List.getElem?_map, hv]; rfl) hd (kk p l e s m args below meth c g H locs lz X K hb hP hS hl hE)
theorem ax_oset (g : ax_G) (h : ax_H) (k ci j : Nat) (fs : List Value) (v : Value) : (ax_w g h).set k (g.1 + k, .inr (ci, (fs.map (ax_v g)).set j (ax_v g v))) = ax_w g (h.set k (ob ci (fs.set j v))) := by
  rw [← ax_w_set]
  show _ = (ax_w g h).set k (g.1 + k, .inr (ci, (fs.set j v).map (ax_v g)))
  rw [List.map_set]
theorem aw_put {idx ci j k : Nat} {fs : List Value} {v : Value} {t : FieldType} {h' : ax_H} (hd : decode M.2.1 pc = .ok (.putfield idx, 3)) (hL : fp_ok M.1.cls idx ci j false t) (hk : h[k]? = some (ob ci fs)) (hv : ft_ok t v) (hj : j < fs.length) (hs : h.set k (ob ci (fs.set j v)) = h') (kk : AW M R E Z h' kc ks (pc + 3) ls st) : AW M R E Z h kc ks pc ls (v :: .ref k :: st) := by
  intro p l e s m args below meth c g H locs lz X K hb hP hS hl hE
  obtain ⟨C, T, N, ty, hc, hjN, hw, ht, hf, -⟩ := hL
  subst hs
  refine va_put X.1 X.2.1 X.2.2.2.2.1 hc.2.1 ty hc.2.2.1 hc.2.2.2 X.2.2.2.1 K.1 hP (ax_D g h) hS k (ax_w_at hk) hc.1 j hjN (X.2.2.2.2.1 _ hw) (fun _ h9 => h9) hf (ty := t) (v := ax_v g v) (by rw [hc.2.2.1 j hjN, ht]) (hv g).1 (hv g).2 (by rw [List.length_map]; exact hj) hd (fun H1 locs1 hP1 _ hS1 => ?_)
  rw [ax_oset] at hP1
  exact kk p l e s m args below meth c g H1 locs1 lz X K ⟨hb.1, by rw [List.length_set]; exact hb.2⟩ hP1 hS1 hl hE
theorem aw_putF {idx ci j k : Nat} {fs : List Value} {v : Value} {t : FieldType} {h' : ax_H} (hd : decode M.2.1 pc = .ok (.putfield idx, 3)) (hL : fp_ok M.1.cls idx ci j true t) (hi : M.1.name = "<init>") (hk : h[k]? = some (ob ci fs)) (hv : ft_ok t v) (hj : j < fs.length) (hs : h.set k (ob ci (fs.set j v)) = h') (kk : AW M R E Z h' kc ks (pc + 3) ls st) : AW M R E Z h kc ks pc ls (v :: .ref k :: st) := by
  intro p l e s m args below meth c g H locs lz X K hb hP hS hl hE
  obtain ⟨C, T, N, ty, hc, hjN, hw, ht, hf, hdc⟩ := hL
  subst hs
  refine va_putF X.1 X.2.1 X.2.2.2.2.1 hc.2.1 ty hc.2.2.1 hc.2.2.2 X.2.2.2.1 K.1 hP (ax_D g h) hS k (ax_w_at hk) hc.1 j hjN (X.2.2.2.2.1 _ hw) (fun _ h9 => h9) hf (X.2.2.2.2.2.2.2 hi) (hdc rfl) (ty := t) (v := ax_v g v) (by rw [hc.2.2.1 j hjN, ht]) (hv g).1 (hv g).2 (by rw [List.length_map]; exact hj) hd (fun H1 locs1 hP1 _ hS1 => ?_)
  rw [ax_oset] at hP1
  exact kk p l e s m args below meth c g H1 locs1 lz X K ⟨hb.1, by rw [List.length_set]; exact hb.2⟩ hP1 hS1 hl hE
theorem aw_iald {k j n : Nat} {i : Int32} {xs : List Int32} (hd : decode M.2.1 pc = .ok (.iaload, 1)) (hk : h[k]? = some (ia xs)) (hn : xs.length = n) (hi : i = nI j) (hj : j < n) (hm : n < 2 ^ 31) (kk : AW M R E Z h kc ks (pc + 1) ls (.int (xs.getD j 0) :: st)) : AW M R E Z h kc ks pc ls (.int i :: .ref k :: st) := by
  intro p l e s m args below meth c g H locs lz X K hb hP hS hl hE
  subst hi; subst hn
  have e1 : xs.getD (nI j).toNatClampNeg 0 = xs.getD j 0 := by rw [nI_clamp (by omega)]
  refine va_iald X.1 X.2.1 K.1 hP k 0 (ax_w_at hk) rfl (i := nI j) (vp_in_nI hj hm) hd ?_
  show W p l e R s m args below meth c H locs kc ks _ (F0 m (pc + 1) lz (.int (xs.getD (nI j).toNatClampNeg 0) :: st.map (ax_v g)))
  rw [e1]
  exact kk p l e s m args below meth c g H locs lz X K hb hP hS hl hE
theorem aw_zald {k j n : Nat} {i : Int32} {xs : List Int32} (hd : decode M.2.1 pc = .ok (.baload, 1)) (hk : h[k]? = some (za xs)) (hn : xs.length = n) (hi : i = nI j) (hj : j < n) (hm : n < 2 ^ 31) (kk : AW M R E Z h kc ks (pc + 1) ls (.int (xs.getD j 0) :: st)) : AW M R E Z h kc ks pc ls (.int i :: .ref k :: st) := by
  intro p l e s m args below meth c g H locs lz X K hb hP hS hl hE
  subst hi; subst hn
  have e1 : xs.getD (nI j).toNatClampNeg 0 = xs.getD j 0 := by rw [nI_clamp (by omega)]
  refine va_zald X.1 X.2.1 K.1 hP k 1 (ax_w_at hk) rfl (i := nI j) (vp_in_nI hj hm) hd ?_
  show W p l e R s m args below meth c H locs kc ks _ (F0 m (pc + 1) lz (.int (xs.getD (nI j).toNatClampNeg 0) :: st.map (ax_v g)))
  rw [e1]
  exact kk p l e s m args below meth c g H locs lz X K hb hP hS hl hE
theorem aw_lald {k j n : Nat} {i : Int32} {xs : List Int64} (hd : decode M.2.1 pc = .ok (.laload, 1)) (hk : h[k]? = some (ja xs)) (hn : xs.length = n) (hi : i = nI j) (hj : j < n) (hm : n < 2 ^ 31) (kk : AW M R E Z h kc ks (pc + 1) ls (.long (xs.getD j 0) :: st)) : AW M R E Z h kc ks pc ls (.int i :: .ref k :: st) := by
  intro p l e s m args below meth c g H locs lz X K hb hP hS hl hE
  subst hi; subst hn
  have e1 : xs.getD (nI j).toNatClampNeg 0 = xs.getD j 0 := by rw [nI_clamp (by omega)]
  refine va_lald X.1 X.2.1 K.1 hP k 2 (ax_w_at hk) rfl (i := nI j) (vp_in_nI hj hm) hd ?_
  show W p l e R s m args below meth c H locs kc ks _ (F0 m (pc + 1) lz (.long (xs.getD (nI j).toNatClampNeg 0) :: st.map (ax_v g)))
  rw [e1]
  exact kk p l e s m args below meth c g H locs lz X K hb hP hS hl hE
theorem aw_iast {k j n : Nat} {i : Int32} {x : Int32} {xs : List Int32} {h' : ax_H} (hd : decode M.2.1 pc = .ok (.iastore, 1)) (hk : h[k]? = some (ia xs)) (hn : xs.length = n) (hi : i = nI j) (hj : j < n) (hm : n < 2 ^ 31) (hs : h.set k (ia (xs.set j x)) = h') (kk : AW M R E Z h' kc ks (pc + 1) ls st) : AW M R E Z h kc ks pc ls (.int x :: .int i :: .ref k :: st) := by
  intro p l e s m args below meth c g H locs lz X K hb hP hS hl hE
  subst hi; subst hn; subst hs
  refine va_iast X.1 X.2.1 K.1 hP (ax_D g h) hS k 0 (ax_w_at hk) rfl (i := nI j) (x := x) (vp_in_nI hj hm) hd (fun H1 locs1 hP1 _ hS1 => ?_)
  have e1 : (ax_w g h).set k (g.1 + k, .inl (g.2.2.2 0, xs.length, .inl (upd (fun j => xs.getD j 0) (nI j).toNatClampNeg x))) = ax_w g (h.set k (ia (xs.set j x))) := by
    rw [nI_clamp (by omega), up_set hj, ← ax_w_set]
    show _ = (ax_w g h).set k (g.1 + k, .inl (g.2.2.2 0, (xs.set j x).length, _))
    rw [List.length_set]
  rw [e1] at hP1
  exact kk p l e s m args below meth c g H1 locs1 lz X K ⟨hb.1, by rw [List.length_set]; exact hb.2⟩ hP1 hS1 hl hE
theorem aw_last {k j n : Nat} {i : Int32} {x : Int64} {xs : List Int64} {h' : ax_H} (hd : decode M.2.1 pc = .ok (.lastore, 1)) (hk : h[k]? = some (ja xs)) (hn : xs.length = n) (hi : i = nI j) (hj : j < n) (hm : n < 2 ^ 31) (hs : h.set k (ja (xs.set j x)) = h') (kk : AW M R E Z h' kc ks (pc + 1) ls st) : AW M R E Z h kc ks pc ls (.long x :: .int i :: .ref k :: st) := by
  intro p l e s m args below meth c g H locs lz X K hb hP hS hl hE
  subst hi; subst hn; subst hs
  refine va_last X.1 X.2.1 K.1 hP (ax_D g h) hS k 2 (ax_w_at hk) rfl (i := nI j) (x := x) (vp_in_nI hj hm) hd (fun H1 locs1 hP1 _ hS1 => ?_)
  have e1 : (ax_w g h).set k (g.1 + k, .inl (g.2.2.2 2, xs.length, .inr (.inl (vp_updL (fun j => xs.getD j 0) (nI j).toNatClampNeg x)))) = ax_w g (h.set k (ja (xs.set j x))) := by
    rw [nI_clamp (by omega), up_setL hj, ← ax_w_set]
    show _ = (ax_w g h).set k (g.1 + k, .inl (g.2.2.2 2, (xs.set j x).length, _))
    rw [List.length_set]
  rw [e1] at hP1
  exact kk p l e s m args below meth c g H1 locs1 lz X K ⟨hb.1, by rw [List.length_set]; exact hb.2⟩ hP1 hS1 hl hE
theorem aw_zast {k j n : Nat} {i x : Int32} {xs : List Int32} {h' : ax_H} (hd : decode M.2.1 pc = .ok (.bastore, 1)) (hk : h[k]? = some (za xs)) (hn : xs.length = n) (hi : i = nI j) (hj : j < n) (hm : n < 2 ^ 31) (hx : vp_nar .boolean x = x) (hs : h.set k (za (xs.set j x)) = h') (kk : AW M R E Z h' kc ks (pc + 1) ls st) : AW M R E Z h kc ks pc ls (.int x :: .int i :: .ref k :: st) := by
  intro p l e s m args below meth c g H locs lz X K hb hP hS hl hE
  subst hi; subst hn; subst hs
  refine va_zast X.1 X.2.1 K.1 hP (ax_D g h) hS k 1 (ax_w_at hk) rfl (i := nI j) (x := x) (vp_in_nI hj hm) hd (fun H1 locs1 hP1 _ hS1 => ?_)
  have e1 : (ax_w g h).set k (g.1 + k, .inl (g.2.2.2 1, xs.length, .inl (upd (fun j => xs.getD j 0) (nI j).toNatClampNeg (vp_nar .boolean x)))) = ax_w g (h.set k (za (xs.set j x))) := by
    rw [nI_clamp (by omega), hx, up_set hj, ← ax_w_set]
    show _ = (ax_w g h).set k (g.1 + k, .inl (g.2.2.2 1, (xs.set j x).length, _))
    rw [List.length_set]
  rw [e1] at hP1
  exact kk p l e s m args below meth c g H1 locs1 lz X K ⟨hb.1, by rw [List.length_set]; exact hb.2⟩ hP1 hS1 hl hE
theorem aw_new {idx ci N : Nat} {C : String} {T : u_T} {ty : Nat → FieldType} {fs : List Value} (hd : decode M.2.1 pc = .ok (.new idx, 3)) (hc : cl_ok ci C T N ty) (hL : Cond.classLink M.1.cls idx C ∈ ax_T) (hI : Cond.instantiable C N ∈ ax_T) (hN : Cond.initialized C ∈ ax_T) (hfs : ∀ j, j < N → defaultValue (ty j) = vp_V fs j) (hpl : ∀ g, fs.map (ax_v g) = fs) (hcs : kc + 1 ≤ R.cells ∧ ks + N ≤ R.slots)
    (kk : AW M R E Z (h ++ [ob ci fs]) (kc + 1) (ks + N) (pc + 3) ls (.ref h.length :: st)) : AW M R E Z h kc ks pc ls st := by
  intro p l e s m args below meth c g H locs lz X K hb hP hS hl hE T0 hT XX
  have hsz := ax_sz XX hT hb hP hS
  have hKn := K.1.1 ci _ hc.1
  refine W.newcK X.1 X.2.1 X.2.2.2.1 (X.2.2.2.2.1 _ hL) (X.2.2.2.2.1 _ hI) (X.2.2.2.2.1 _ hN) (g := F0 m pc lz (st.map (ax_v g))) rfl hd hcs.1 hcs.2 hKn.2.1 hsz (fun H1 kC hkC e1 z1 o1 => ?_) T0 hT XX
  have hk : ∀ (k : Nat) (x : Nat × va_E), (ax_w g h)[k]? = some x → H1[x.1]? = H[x.1]? := fun k x hx => o1 x.1 (by rw [← hsz]; exact (hP k x hx).lt)
  refine kk p l e s m args below meth c g H1 locs lz X K ⟨hb.1, by rw [List.length_append]; show s.heap.size + (kc + 1) = g.1 + (h.length + 1); omega⟩ ?_ ⟨by have := hS.1; omega, fun x h1 h2 => (o1 x (by have := hS.1; omega)).trans (hS.2.1 x h1 h2), hS.2.2⟩ hl hE
  rw [ax_w_push]
  refine (hP.kept hk).app (fun j x hx => ?_)
  have hz : j < 1 := (List.getElem?_eq_some_iff.mp hx).1
  rw [show j = 0 by omega] at hx
  cases hx
  refine ⟨_, hc.1, (u_born ty X.2.2.2.2.1 hc.2.1 hKn hkC e1 hc.2.2.1).to (fun j hj => ?_)⟩
  show _ = vp_V (fs.map (ax_v g)) j
  rw [hpl g]
  exact hfs j hj
theorem aw_newi {n : Int32} {N : Nat} (hd : decode M.2.1 pc = .ok (.newarray .int, 2)) (hn : ¬ n < 0) (hN : n.toNatClampNeg = N) (hm : N ≤ 1000) (hcs : kc + 1 ≤ R.cells ∧ ks + N ≤ R.slots) (kk : AW M R E Z (h ++ [ia (List.replicate N 0)]) (kc + 1) (ks + N) (pc + 2) ls (.ref h.length :: st)) : AW M R E Z h kc ks pc ls (.int n :: st) := by
  intro p l e s m args below meth c g H locs lz X K hb hP hS hl hE T0 hT XX
  have hsz := ax_sz XX hT hb hP hS
  refine va_newaK (atype := .int) X.1 X.2.1 (X.2.2.2.2.1 _ wa_int) (g := F0 m pc lz ((Value.int n :: st).map (ax_v g))) rfl hd (rest := st.map (ax_v g)) rfl hn hN (Nat.le_trans (Nat.mul_le_mul_right _ hm) (by decide)) hcs.1 hcs.2 hsz (fun H1 cA e1 z1 o1 hAr hNm => ?_) T0 hT XX
  have hcA : cA = g.2.2.2 0 := Option.some.inj (hNm.symm.trans (K.1.2 0 _ rfl).2)
  subst hcA
  have hk : ∀ (k : Nat) (x : Nat × va_E), (ax_w g h)[k]? = some x → H1[x.1]? = H[x.1]? := fun k x hx => o1 x.1 (by rw [← hsz]; exact (hP k x hx).lt)
  refine kk p l e s m args below meth c g H1 locs lz X K ⟨hb.1, by rw [List.length_append]; show s.heap.size + (kc + 1) = g.1 + (h.length + 1); omega⟩ ?_ ⟨by have := hS.1; omega, fun x h1 h2 => (o1 x (by have := hS.1; omega)).trans (hS.2.1 x h1 h2), hS.2.2⟩ hl hE
  rw [ax_w_push]
  refine (hP.kept hk).app (fun j x hx => ?_)
  have hz : j < 1 := (List.getElem?_eq_some_iff.mp hx).1
  rw [show j = 0 by omega] at hx
  cases hx
  show H1[g.1 + h.length]? = some (arrV (g.2.2.2 0) (List.replicate N _).length (fun j => .int ((List.replicate N 0).getD j 0)))
  rw [e1, List.length_replicate]
  congr 2
  funext j
  rw [rep_getD]
  rfl
theorem aw_newz {n : Int32} {N : Nat} (hd : decode M.2.1 pc = .ok (.newarray .boolean, 2)) (hn : ¬ n < 0) (hN : n.toNatClampNeg = N) (hm : N ≤ 1000) (hcs : kc + 1 ≤ R.cells ∧ ks + N ≤ R.slots) (kk : AW M R E Z (h ++ [za (List.replicate N 0)]) (kc + 1) (ks + N) (pc + 2) ls (.ref h.length :: st)) : AW M R E Z h kc ks pc ls (.int n :: st) := by
  intro p l e s m args below meth c g H locs lz X K hb hP hS hl hE T0 hT XX
  have hsz := ax_sz XX hT hb hP hS
  refine va_newaK (atype := .boolean) X.1 X.2.1 (X.2.2.2.2.1 _ wa_boolean) (g := F0 m pc lz ((Value.int n :: st).map (ax_v g))) rfl hd (rest := st.map (ax_v g)) rfl hn hN (Nat.le_trans (Nat.mul_le_mul_right _ hm) (by decide)) hcs.1 hcs.2 hsz (fun H1 cA e1 z1 o1 hAr hNm => ?_) T0 hT XX
  have hcA : cA = g.2.2.2 1 := Option.some.inj (hNm.symm.trans (K.1.2 1 _ rfl).2)
  subst hcA
  have hk : ∀ (k : Nat) (x : Nat × va_E), (ax_w g h)[k]? = some x → H1[x.1]? = H[x.1]? := fun k x hx => o1 x.1 (by rw [← hsz]; exact (hP k x hx).lt)
  refine kk p l e s m args below meth c g H1 locs lz X K ⟨hb.1, by rw [List.length_append]; show s.heap.size + (kc + 1) = g.1 + (h.length + 1); omega⟩ ?_ ⟨by have := hS.1; omega, fun x h1 h2 => (o1 x (by have := hS.1; omega)).trans (hS.2.1 x h1 h2), hS.2.2⟩ hl hE
  rw [ax_w_push]
  refine (hP.kept hk).app (fun j x hx => ?_)
  have hz : j < 1 := (List.getElem?_eq_some_iff.mp hx).1
  rw [show j = 0 by omega] at hx
  cases hx
  show H1[g.1 + h.length]? = some (arrV (g.2.2.2 1) (List.replicate N _).length (fun j => .int ((List.replicate N 0).getD j 0)))
  rw [e1, List.length_replicate]
  congr 2
  funext j
  rw [rep_getD]
  rfl
theorem aw_newl {n : Int32} {N : Nat} (hd : decode M.2.1 pc = .ok (.newarray .long, 2)) (hn : ¬ n < 0) (hN : n.toNatClampNeg = N) (hm : N ≤ 1000) (hcs : kc + 1 ≤ R.cells ∧ ks + N ≤ R.slots) (kk : AW M R E Z (h ++ [ja (List.replicate N 0)]) (kc + 1) (ks + N) (pc + 2) ls (.ref h.length :: st)) : AW M R E Z h kc ks pc ls (.int n :: st) := by
  intro p l e s m args below meth c g H locs lz X K hb hP hS hl hE T0 hT XX
  have hsz := ax_sz XX hT hb hP hS
  refine va_newaK (atype := .long) X.1 X.2.1 (X.2.2.2.2.1 _ wa_long) (g := F0 m pc lz ((Value.int n :: st).map (ax_v g))) rfl hd (rest := st.map (ax_v g)) rfl hn hN (Nat.le_trans (Nat.mul_le_mul_right _ hm) (by decide)) hcs.1 hcs.2 hsz (fun H1 cA e1 z1 o1 hAr hNm => ?_) T0 hT XX
  have hcA : cA = g.2.2.2 2 := Option.some.inj (hNm.symm.trans (K.1.2 2 _ rfl).2)
  subst hcA
  have hk : ∀ (k : Nat) (x : Nat × va_E), (ax_w g h)[k]? = some x → H1[x.1]? = H[x.1]? := fun k x hx => o1 x.1 (by rw [← hsz]; exact (hP k x hx).lt)
  refine kk p l e s m args below meth c g H1 locs lz X K ⟨hb.1, by rw [List.length_append]; show s.heap.size + (kc + 1) = g.1 + (h.length + 1); omega⟩ ?_ ⟨by have := hS.1; omega, fun x h1 h2 => (o1 x (by have := hS.1; omega)).trans (hS.2.1 x h1 h2), hS.2.2⟩ hl hE
  rw [ax_w_push]
  refine (hP.kept hk).app (fun j x hx => ?_)
  have hz : j < 1 := (List.getElem?_eq_some_iff.mp hx).1
  rw [show j = 0 by omega] at hx
  cases hx
  show H1[g.1 + h.length]? = some (arrV (g.2.2.2 2) (List.replicate N _).length (fun j => .long ((List.replicate N 0).getD j 0)))
  rw [e1, List.length_replicate]
  congr 2
  funext j
  rw [rep_getDL]
  rfl
theorem aw_callV {M' : ax_M} {R' : Room} {as rest : List Value} {k idx ci n : Nat} {fs : List Value} {Q' : Option Value → ax_H → Prop} (hM : AM M' R' h (.ref k :: as) Q') (hok : mv_ok M' n ci) (hd : decode M.2.1 pc = .ok (.invokevirtual idx, 3)) (hL : Cond.methodLink M.1.cls idx M'.1 ∈ ax_T) (hk : h[k]? = some (ob ci fs)) (hn : as.length = n) (hst : st = as.reverse ++ .ref k :: rest) (hroom : R'.frames + 1 ≤ R.frames ∧ 8 + (M'.2.2.1 + 11) + R'.locals ≤ R.locals) (hrs : (rest.map fun v => v.category).sum ≤ 8) (hcs : kc + R'.cells ≤ R.cells ∧ ks + R'.slots ≤ R.slots) (kk : ∀ r h', Q' r h' → AW M R E Z h' (kc + R'.cells) (ks + R'.slots) (pc + 3) ls (r.toList ++ rest)) : AW M R E Z h kc ks pc ls st := by
  intro p l e s m args below meth c g H locs lz X K hb hP hS hl hE T hT XX
  have hsz := ax_sz XX hT hb hP hS
  obtain ⟨hok, hI, hV, Tc, Nc, hcl⟩ := hok
  have hrun := va_runV (l := l) (e := e) (below := below) (meth := meth) (H := H) (locs := locs) (cells := kc) (slots := ks) (As := as.map (ax_v g)) (rest := rest.map (ax_v g)) (g := F0 m pc lz (st.map (ax_v g))) (b := g.1 + k) ⟨X.1, X.2.1, X.2.2.1, X.2.2.2.1, X.2.2.2.2.1⟩ (hM l g) ⟨ax_CB hok X.2.2.2.2.1 (X.2.2.2.2.1 _ hL) hroom, X.2.2.2.2.1 _ hI, X.2.2.2.2.1 _ hV⟩ ⟨ax_blind g h _, va_recv K.1 hP hcl (ax_w_at hk), fun U hU hW => ⟨rfl, ⟨by rw [hU]; omega, by rw [hU]; exact hsz⟩, by rw [hU]; exact hP, K.moved hW⟩⟩ rfl (by rw [List.length_map]; exact hn) hl.1 (by rw [hst]; simp [ax_v]) (lv_room (by rw [ax_rs]; exact hrs)) hd hcs
  obtain ⟨v, st0, t, T', L, h0, X', hL2, e1, e2, ⟨r, h', hr, hq, hP', hsz2, hF⟩, go⟩ := hrun T hT XX
  have hv : v = r.map (ax_v g) := by injection hr
  subst hv
  rw [h0] at hsz2
  obtain ⟨t2, a1, b1⟩ := kk r h' hq p l e s m args below meth c g t.heap (locs ++ L) lz X K ⟨hb.1, by omega⟩ hP' ⟨Nat.le_trans hS.1 (by rw [← h0]; exact hF.1), fun q h1 h2 => by rw [hF.2 q (by rw [h0]; exact Nat.lt_of_lt_of_le h1 hS.1) h2, h0]; exact hS.2.1 q h1 h2, fun q hq2 => (List.mem_append.mp hq2).elim (hS.2.2 q) (hL2 q)⟩ hl hE T' e1 X'
  refine ⟨t2, go t2 ?_, b1⟩
  have e3 : (r.toList ++ rest).map (ax_v g) = (r.map (ax_v g)).toList ++ rest.map (ax_v g) := by cases r <;> simp
  rw [e3] at a1
  exact a1
theorem aw_callV1 {M' : ax_M} {R' : Room} {as rest : List Value} {k idx ci n : Nat} {fs : List Value} {h' : ax_H} {v : Value} (hM : AD M' R' h (.ref k :: as) (some v) h') (hok : mv_ok M' n ci) (hd : decode M.2.1 pc = .ok (.invokevirtual idx, 3)) (hL : Cond.methodLink M.1.cls idx M'.1 ∈ ax_T) (hk : h[k]? = some (ob ci fs)) (hn : as.length = n) (hst : st = as.reverse ++ .ref k :: rest) (hroom : R'.frames + 1 ≤ R.frames ∧ 8 + (M'.2.2.1 + 11) + R'.locals ≤ R.locals) (hrs : (rest.map fun v => v.category).sum ≤ 8) (hc0 : R'.cells = 0) (hs0 : R'.slots = 0) (hcs : kc ≤ R.cells ∧ ks ≤ R.slots) (kk : AW M R E Z h' kc ks (pc + 3) ls (v :: rest)) : AW M R E Z h kc ks pc ls st :=
  aw_callV hM hok hd hL hk hn hst hroom hrs (by rw [hc0, hs0]; exact hcs) (fun r h2 hq => by obtain ⟨rfl, rfl⟩ := hq; rw [hc0, hs0]; exact kk)
theorem aw_callV0 {M' : ax_M} {R' : Room} {as rest : List Value} {k idx ci n : Nat} {fs : List Value} {h' : ax_H} (hM : AD M' R' h (.ref k :: as) none h') (hok : mv_ok M' n ci) (hd : decode M.2.1 pc = .ok (.invokevirtual idx, 3)) (hL : Cond.methodLink M.1.cls idx M'.1 ∈ ax_T) (hk : h[k]? = some (ob ci fs)) (hn : as.length = n) (hst : st = as.reverse ++ .ref k :: rest) (hroom : R'.frames + 1 ≤ R.frames ∧ 8 + (M'.2.2.1 + 11) + R'.locals ≤ R.locals) (hrs : (rest.map fun v => v.category).sum ≤ 8) (hc0 : R'.cells = 0) (hs0 : R'.slots = 0) (hcs : kc ≤ R.cells ∧ ks ≤ R.slots) (kk : AW M R E Z h' kc ks (pc + 3) ls rest) : AW M R E Z h kc ks pc ls st :=
  aw_callV hM hok hd hL hk hn hst hroom hrs (by rw [hc0, hs0]; exact hcs) (fun r h2 hq => by obtain ⟨rfl, rfl⟩ := hq; rw [hc0, hs0]; exact kk)
theorem aw_callVq {M' : ax_M} {R' : Room} {as rest : List Value} {k idx ci n : Nat} {fs : List Value} {Q' : Option Value → ax_H → Prop} (hM : AM M' R' h (.ref k :: as) Q') (hok : mv_ok M' n ci) (hd : decode M.2.1 pc = .ok (.invokevirtual idx, 3)) (hL : Cond.methodLink M.1.cls idx M'.1 ∈ ax_T) (hk : h[k]? = some (ob ci fs)) (hn : as.length = n) (hst : st = as.reverse ++ .ref k :: rest) (hroom : R'.frames + 1 ≤ R.frames ∧ 8 + (M'.2.2.1 + 11) + R'.locals ≤ R.locals) (hrs : (rest.map fun v => v.category).sum ≤ 8) (hc0 : R'.cells = 0) (hs0 : R'.slots = 0) (hcs : kc ≤ R.cells ∧ ks ≤ R.slots) (kk : ∀ r h', Q' r h' → AW M R E Z h' kc ks (pc + 3) ls (r.toList ++ rest)) : AW M R E Z h kc ks pc ls st :=
  aw_callV hM hok hd hL hk hn hst hroom hrs (by rw [hc0, hs0]; exact hcs) (fun r h2 hq => by rw [hc0, hs0]; exact kk r h2 hq)
theorem aw_callS {M' : ax_M} {R' : Room} {as rest : List Value} {idx n : Nat} {Q' : Option Value → ax_H → Prop} (hM : AM M' R' h as Q') (hok : ms_ok M' n) (hd : decode M.2.1 pc = .ok (.invokestatic idx, 3)) (hL : Cond.methodLink M.1.cls idx M'.1 ∈ ax_T) (hn : as.length = n) (hst : st = as.reverse ++ rest) (hroom : R'.frames + 1 ≤ R.frames ∧ 8 + (M'.2.2.1 + 11) + R'.locals ≤ R.locals) (hrs : (rest.map fun v => v.category).sum ≤ 8) (hcs : kc + R'.cells ≤ R.cells ∧ ks + R'.slots ≤ R.slots) (kk : ∀ r h', Q' r h' → AW M R E Z h' (kc + R'.cells) (ks + R'.slots) (pc + 3) ls (r.toList ++ rest)) : AW M R E Z h kc ks pc ls st := by
  intro p l e s m args below meth c g H locs lz X K hb hP hS hl hE T hT XX
  have hsz := ax_sz XX hT hb hP hS
  obtain ⟨hok, hI⟩ := hok
  have hrun := va_runS (l := l) (e := e) (below := below) (meth := meth) (H := H) (locs := locs) (cells := kc) (slots := ks) (As := as.map (ax_v g)) (rest := rest.map (ax_v g)) (g := F0 m pc lz (st.map (ax_v g))) ⟨X.1, X.2.1, X.2.2.1, X.2.2.2.1, X.2.2.2.2.1⟩ (hM l g) ⟨ax_CB hok X.2.2.2.2.1 (X.2.2.2.2.1 _ hL) hroom, X.2.2.2.2.1 _ hI⟩ ⟨ax_blind g h _, fun U hU hW => ⟨rfl, ⟨by rw [hU]; omega, by rw [hU]; exact hsz⟩, by rw [hU]; exact hP, K.moved hW⟩⟩ rfl (by rw [List.length_map]; exact hn) hl.1 (by rw [hst]; simp) (lv_room (by rw [ax_rs]; exact hrs)) hd hcs
  obtain ⟨v, st0, t, T', L, h0, X', hL2, e1, e2, ⟨r, h', hr, hq, hP', hsz2, hF⟩, go⟩ := hrun T hT XX
  have hv : v = r.map (ax_v g) := by injection hr
  subst hv
  rw [h0] at hsz2
  obtain ⟨t2, a1, b1⟩ := kk r h' hq p l e s m args below meth c g t.heap (locs ++ L) lz X K ⟨hb.1, by omega⟩ hP' ⟨Nat.le_trans hS.1 (by rw [← h0]; exact hF.1), fun q h1 h2 => by rw [hF.2 q (by rw [h0]; exact Nat.lt_of_lt_of_le h1 hS.1) h2, h0]; exact hS.2.1 q h1 h2, fun q hq2 => (List.mem_append.mp hq2).elim (hS.2.2 q) (hL2 q)⟩ hl hE T' e1 X'
  refine ⟨t2, go t2 ?_, b1⟩
  have e3 : (r.toList ++ rest).map (ax_v g) = (r.map (ax_v g)).toList ++ rest.map (ax_v g) := by cases r <;> simp
  rw [e3] at a1
  exact a1
theorem aw_callS1 {M' : ax_M} {R' : Room} {as rest : List Value} {idx n : Nat} {h' : ax_H} {v : Value} (hM : AD M' R' h as (some v) h') (hok : ms_ok M' n) (hd : decode M.2.1 pc = .ok (.invokestatic idx, 3)) (hL : Cond.methodLink M.1.cls idx M'.1 ∈ ax_T) (hn : as.length = n) (hst : st = as.reverse ++ rest) (hroom : R'.frames + 1 ≤ R.frames ∧ 8 + (M'.2.2.1 + 11) + R'.locals ≤ R.locals) (hrs : (rest.map fun v => v.category).sum ≤ 8) (hc0 : R'.cells = 0) (hs0 : R'.slots = 0) (hcs : kc ≤ R.cells ∧ ks ≤ R.slots) (kk : AW M R E Z h' kc ks (pc + 3) ls (v :: rest)) : AW M R E Z h kc ks pc ls st :=
  aw_callS hM hok hd hL hn hst hroom hrs (by rw [hc0, hs0]; exact hcs) (fun r h2 hq => by obtain ⟨rfl, rfl⟩ := hq; rw [hc0, hs0]; exact kk)
theorem aw_callS0 {M' : ax_M} {R' : Room} {as rest : List Value} {idx n : Nat} {h' : ax_H} (hM : AD M' R' h as none h') (hok : ms_ok M' n) (hd : decode M.2.1 pc = .ok (.invokestatic idx, 3)) (hL : Cond.methodLink M.1.cls idx M'.1 ∈ ax_T) (hn : as.length = n) (hst : st = as.reverse ++ rest) (hroom : R'.frames + 1 ≤ R.frames ∧ 8 + (M'.2.2.1 + 11) + R'.locals ≤ R.locals) (hrs : (rest.map fun v => v.category).sum ≤ 8) (hc0 : R'.cells = 0) (hs0 : R'.slots = 0) (hcs : kc ≤ R.cells ∧ ks ≤ R.slots) (kk : AW M R E Z h' kc ks (pc + 3) ls rest) : AW M R E Z h kc ks pc ls st :=
  aw_callS hM hok hd hL hn hst hroom hrs (by rw [hc0, hs0]; exact hcs) (fun r h2 hq => by obtain ⟨rfl, rfl⟩ := hq; rw [hc0, hs0]; exact kk)
theorem aw_callSq {M' : ax_M} {R' : Room} {as rest : List Value} {idx n : Nat} {Q' : Option Value → ax_H → Prop} (hM : AM M' R' h as Q') (hok : ms_ok M' n) (hd : decode M.2.1 pc = .ok (.invokestatic idx, 3)) (hL : Cond.methodLink M.1.cls idx M'.1 ∈ ax_T) (hn : as.length = n) (hst : st = as.reverse ++ rest) (hroom : R'.frames + 1 ≤ R.frames ∧ 8 + (M'.2.2.1 + 11) + R'.locals ≤ R.locals) (hrs : (rest.map fun v => v.category).sum ≤ 8) (hc0 : R'.cells = 0) (hs0 : R'.slots = 0) (hcs : kc ≤ R.cells ∧ ks ≤ R.slots) (kk : ∀ r h', Q' r h' → AW M R E Z h' kc ks (pc + 3) ls (r.toList ++ rest)) : AW M R E Z h kc ks pc ls st :=
  aw_callS hM hok hd hL hn hst hroom hrs (by rw [hc0, hs0]; exact hcs) (fun r h2 hq => by rw [hc0, hs0]; exact kk r h2 hq)
theorem aw_callT {M' : ax_M} {R' : Room} {as rest : List Value} {idx n : Nat} {host : String} {Q' : Option Value → ax_H → Prop} (hM : AM M' R' h as Q') (hok : ms_ok M' n) (hd : decode M.2.1 pc = .ok (.invokestatic idx, 3)) (hL : (M.1.cls, idx, M'.1, host) ∈ ax_N) (hn : as.length = n) (hst : st = as.reverse ++ rest) (hroom : R'.frames + 1 ≤ R.frames ∧ 8 + (M'.2.2.1 + 11) + R'.locals ≤ R.locals) (hrs : (rest.map fun v => v.category).sum ≤ 8) (hcs : kc + R'.cells ≤ R.cells ∧ ks + R'.slots ≤ R.slots) (kk : ∀ r h', Q' r h' → AW M R E Z h' (kc + R'.cells) (ks + R'.slots) (pc + 3) ls (r.toList ++ rest)) : AW M R E Z h kc ks pc ls st := by
  intro p l e s m args below meth c g H locs lz X K hb hP hS hl hE T hT XX
  have hsz := ax_sz XX hT hb hP hS
  obtain ⟨hok, hI⟩ := hok
  have hrun := va_runSN (l := l) (e := e) (below := below) (meth := meth) (H := H) (locs := locs) (cells := kc) (slots := ks) (As := as.map (ax_v g)) (rest := rest.map (ax_v g)) (g := F0 m pc lz (st.map (ax_v g))) ⟨X.1, X.2.1, X.2.2.1, X.2.2.2.1, X.2.2.2.2.1⟩ (hM l g) ⟨ax_CN hok X.2.2.2.2.1 (K.2 _ hL) hroom, X.2.2.2.2.1 _ hI, trivial⟩ ⟨ax_blind g h _, fun U hU hW => ⟨rfl, ⟨by rw [hU]; omega, by rw [hU]; exact hsz⟩, by rw [hU]; exact hP, K.moved hW⟩⟩ rfl (by rw [List.length_map]; exact hn) hl.1 (by rw [hst]; simp) (lv_room (by rw [ax_rs]; exact hrs)) hd hcs
  obtain ⟨v, st0, t, T', L, h0, X', hL2, e1, e2, ⟨r, h', hr, hq, hP', hsz2, hF⟩, go⟩ := hrun T hT XX
  have hv : v = r.map (ax_v g) := by injection hr
  subst hv
  rw [h0] at hsz2
  obtain ⟨t2, a1, b1⟩ := kk r h' hq p l e s m args below meth c g t.heap (locs ++ L) lz X K ⟨hb.1, by omega⟩ hP' ⟨Nat.le_trans hS.1 (by rw [← h0]; exact hF.1), fun q h1 h2 => by rw [hF.2 q (by rw [h0]; exact Nat.lt_of_lt_of_le h1 hS.1) h2, h0]; exact hS.2.1 q h1 h2, fun q hq2 => (List.mem_append.mp hq2).elim (hS.2.2 q) (hL2 q)⟩ hl hE T' e1 X'
  refine ⟨t2, go t2 ?_, b1⟩
  have e3 : (r.toList ++ rest).map (ax_v g) = (r.map (ax_v g)).toList ++ rest.map (ax_v g) := by cases r <;> simp
  rw [e3] at a1
  exact a1
theorem aw_callT1 {M' : ax_M} {R' : Room} {as rest : List Value} {idx n : Nat} {host : String} {h' : ax_H} {v : Value} (hM : AD M' R' h as (some v) h') (hok : ms_ok M' n) (hd : decode M.2.1 pc = .ok (.invokestatic idx, 3)) (hL : (M.1.cls, idx, M'.1, host) ∈ ax_N) (hn : as.length = n) (hst : st = as.reverse ++ rest) (hroom : R'.frames + 1 ≤ R.frames ∧ 8 + (M'.2.2.1 + 11) + R'.locals ≤ R.locals) (hrs : (rest.map fun v => v.category).sum ≤ 8) (hc0 : R'.cells = 0) (hs0 : R'.slots = 0) (hcs : kc ≤ R.cells ∧ ks ≤ R.slots) (kk : AW M R E Z h' kc ks (pc + 3) ls (v :: rest)) : AW M R E Z h kc ks pc ls st :=
  aw_callT hM hok hd hL hn hst hroom hrs (by rw [hc0, hs0]; exact hcs) (fun r h2 hq => by obtain ⟨rfl, rfl⟩ := hq; rw [hc0, hs0]; exact kk)
theorem aw_callT0 {M' : ax_M} {R' : Room} {as rest : List Value} {idx n : Nat} {host : String} {h' : ax_H} (hM : AD M' R' h as none h') (hok : ms_ok M' n) (hd : decode M.2.1 pc = .ok (.invokestatic idx, 3)) (hL : (M.1.cls, idx, M'.1, host) ∈ ax_N) (hn : as.length = n) (hst : st = as.reverse ++ rest) (hroom : R'.frames + 1 ≤ R.frames ∧ 8 + (M'.2.2.1 + 11) + R'.locals ≤ R.locals) (hrs : (rest.map fun v => v.category).sum ≤ 8) (hc0 : R'.cells = 0) (hs0 : R'.slots = 0) (hcs : kc ≤ R.cells ∧ ks ≤ R.slots) (kk : AW M R E Z h' kc ks (pc + 3) ls rest) : AW M R E Z h kc ks pc ls st :=
  aw_callT hM hok hd hL hn hst hroom hrs (by rw [hc0, hs0]; exact hcs) (fun r h2 hq => by obtain ⟨rfl, rfl⟩ := hq; rw [hc0, hs0]; exact kk)
theorem aw_callTq {M' : ax_M} {R' : Room} {as rest : List Value} {idx n : Nat} {host : String} {Q' : Option Value → ax_H → Prop} (hM : AM M' R' h as Q') (hok : ms_ok M' n) (hd : decode M.2.1 pc = .ok (.invokestatic idx, 3)) (hL : (M.1.cls, idx, M'.1, host) ∈ ax_N) (hn : as.length = n) (hst : st = as.reverse ++ rest) (hroom : R'.frames + 1 ≤ R.frames ∧ 8 + (M'.2.2.1 + 11) + R'.locals ≤ R.locals) (hrs : (rest.map fun v => v.category).sum ≤ 8) (hc0 : R'.cells = 0) (hs0 : R'.slots = 0) (hcs : kc ≤ R.cells ∧ ks ≤ R.slots) (kk : ∀ r h', Q' r h' → AW M R E Z h' kc ks (pc + 3) ls (r.toList ++ rest)) : AW M R E Z h kc ks pc ls st :=
  aw_callT hM hok hd hL hn hst hroom hrs (by rw [hc0, hs0]; exact hcs) (fun r h2 hq => by rw [hc0, hs0]; exact kk r h2 hq)
theorem aw_callI {M' : ax_M} {R' : Room} {as rest : List Value} {k idx n : Nat} {Q' : Option Value → ax_H → Prop} (hM : AM M' R' h (.ref k :: as) Q') (hok : mi_ok M' n) (hd : decode M.2.1 pc = .ok (.invokespecial idx, 3)) (hL : Cond.methodLink M.1.cls idx M'.1 ∈ ax_T) (hn : as.length = n) (hst : st = as.reverse ++ .ref k :: rest) (hroom : R'.frames + 1 ≤ R.frames ∧ 8 + (M'.2.2.1 + 11) + R'.locals ≤ R.locals) (hrs : (rest.map fun v => v.category).sum ≤ 8) (hcs : kc + R'.cells ≤ R.cells ∧ ks + R'.slots ≤ R.slots) (kk : ∀ r h', Q' r h' → AW M R E Z h' (kc + R'.cells) (ks + R'.slots) (pc + 3) ls (r.toList ++ rest)) : AW M R E Z h kc ks pc ls st := by
  intro p l e s m args below meth c g H locs lz X K hb hP hS hl hE T hT XX
  have hsz := ax_sz XX hT hb hP hS
  obtain ⟨hok, hI, hin, hrt⟩ := hok
  have hrun := va_runI (l := l) (e := e) (below := below) (meth := meth) (H := H) (locs := locs) (cells := kc) (slots := ks) (As := as.map (ax_v g)) (rest := rest.map (ax_v g)) (g := F0 m pc lz (st.map (ax_v g))) (b := g.1 + k) ⟨X.1, X.2.1, X.2.2.1, X.2.2.2.1, X.2.2.2.2.1⟩ (hM l g) ⟨by rw [← hrt]; exact ax_CB hok X.2.2.2.2.1 (X.2.2.2.2.1 _ hL) hroom, hin, X.2.2.2.2.1 _ hI⟩ ⟨ax_blind g h _, fun U hU hW => ⟨rfl, ⟨by rw [hU]; omega, by rw [hU]; exact hsz⟩, by rw [hU]; exact hP, K.moved hW⟩⟩ rfl (by rw [List.length_map]; exact hn) hl.1 (by rw [hst]; simp [ax_v]) (lv_room (by rw [ax_rs]; exact hrs)) hd hcs
  obtain ⟨v, st0, t, T', L, h0, X', hL2, e1, e2, ⟨r, h', hr, hq, hP', hsz2, hF⟩, go⟩ := hrun T hT XX
  have hv : v = r.map (ax_v g) := by injection hr
  subst hv
  rw [h0] at hsz2
  obtain ⟨t2, a1, b1⟩ := kk r h' hq p l e s m args below meth c g t.heap (locs ++ L) lz X K ⟨hb.1, by omega⟩ hP' ⟨Nat.le_trans hS.1 (by rw [← h0]; exact hF.1), fun q h1 h2 => by rw [hF.2 q (by rw [h0]; exact Nat.lt_of_lt_of_le h1 hS.1) h2, h0]; exact hS.2.1 q h1 h2, fun q hq2 => (List.mem_append.mp hq2).elim (hS.2.2 q) (hL2 q)⟩ hl hE T' e1 X'
  refine ⟨t2, go t2 ?_, b1⟩
  have e3 : (r.toList ++ rest).map (ax_v g) = (r.map (ax_v g)).toList ++ rest.map (ax_v g) := by cases r <;> simp
  rw [e3] at a1
  exact a1
theorem aw_callJ {M' : ax_M} {R' : Room} {as rest : List Value} {k idx n : Nat} {host : String} {Q' : Option Value → ax_H → Prop} (hM : AM M' R' h (.ref k :: as) Q') (hok : mi_ok M' n) (hd : decode M.2.1 pc = .ok (.invokespecial idx, 3)) (hL : (M.1.cls, idx, M'.1, host) ∈ ax_N) (hn : as.length = n) (hst : st = as.reverse ++ .ref k :: rest) (hroom : R'.frames + 1 ≤ R.frames ∧ 8 + (M'.2.2.1 + 11) + R'.locals ≤ R.locals) (hrs : (rest.map fun v => v.category).sum ≤ 8) (hcs : kc + R'.cells ≤ R.cells ∧ ks + R'.slots ≤ R.slots) (kk : ∀ r h', Q' r h' → AW M R E Z h' (kc + R'.cells) (ks + R'.slots) (pc + 3) ls (r.toList ++ rest)) : AW M R E Z h kc ks pc ls st := by
  intro p l e s m args below meth c g H locs lz X K hb hP hS hl hE T hT XX
  have hsz := ax_sz XX hT hb hP hS
  obtain ⟨hok, hI, hin, hrt⟩ := hok
  have hrun := va_runIN (l := l) (e := e) (below := below) (meth := meth) (H := H) (locs := locs) (cells := kc) (slots := ks) (As := as.map (ax_v g)) (rest := rest.map (ax_v g)) (g := F0 m pc lz (st.map (ax_v g))) (b := g.1 + k) ⟨X.1, X.2.1, X.2.2.1, X.2.2.2.1, X.2.2.2.2.1⟩ (hM l g) ⟨by rw [← hrt]; exact ax_CN hok X.2.2.2.2.1 (K.2 _ hL) hroom, hin, X.2.2.2.2.1 _ hI⟩ ⟨ax_blind g h _, fun U hU hW => ⟨rfl, ⟨by rw [hU]; omega, by rw [hU]; exact hsz⟩, by rw [hU]; exact hP, K.moved hW⟩⟩ rfl (by rw [List.length_map]; exact hn) hl.1 (by rw [hst]; simp [ax_v]) (lv_room (by rw [ax_rs]; exact hrs)) hd hcs
  obtain ⟨v, st0, t, T', L, h0, X', hL2, e1, e2, ⟨r, h', hr, hq, hP', hsz2, hF⟩, go⟩ := hrun T hT XX
  have hv : v = r.map (ax_v g) := by injection hr
  subst hv
  rw [h0] at hsz2
  obtain ⟨t2, a1, b1⟩ := kk r h' hq p l e s m args below meth c g t.heap (locs ++ L) lz X K ⟨hb.1, by omega⟩ hP' ⟨Nat.le_trans hS.1 (by rw [← h0]; exact hF.1), fun q h1 h2 => by rw [hF.2 q (by rw [h0]; exact Nat.lt_of_lt_of_le h1 hS.1) h2, h0]; exact hS.2.1 q h1 h2, fun q hq2 => (List.mem_append.mp hq2).elim (hS.2.2 q) (hL2 q)⟩ hl hE T' e1 X'
  refine ⟨t2, go t2 ?_, b1⟩
  have e3 : (r.toList ++ rest).map (ax_v g) = (r.map (ax_v g)).toList ++ rest.map (ax_v g) := by cases r <;> simp
  rw [e3] at a1
  exact a1
theorem aw_objInit {k idx : Nat} (hd : decode M.2.1 pc = .ok (.invokespecial idx, 3)) (hL : Cond.methodLink M.1.cls idx Lib.objectInit ∈ ax_T) (hI : Cond.instanceMethod Lib.objectInit ∈ ax_T) (hC : Cond.code Lib.objectInit ⟨#[0xb1]⟩ 1 none ∈ ax_T) (hf : 1 ≤ R.frames) (hr : (st.map fun v => v.category).sum + 12 ≤ R.locals) (kk : AW M R E Z h kc ks (pc + 3) ls st) : AW M R E Z h kc ks pc ls (.ref k :: st) := by
  intro p l e s m args below meth c g H locs lz X K hb hP hS hl hE
  exact W.objInit X.1 X.2.1 X.2.2.2.1 (X.2.2.2.2.1 _ hL) (X.2.2.2.2.1 _ hI) (X.2.2.2.2.1 _ hC) (g := F0 m pc lz ((Value.ref k :: st).map (ax_v g))) rfl (by rw [X.2.2.1]; exact hl.1) (rest := st.map (ax_v g)) rfl hd hf (by rw [ax_rs]; show 2 * 0 + _ + 12 ≤ _; omega) (kk p l e s m args below meth c g H locs lz X K hb hP hS hl hE)
theorem aw_mmax {idx : Nat} {x y : Int32} (hd : decode M.2.1 pc = .ok (.invokestatic idx, 3)) (hL : Cond.methodLink M.1.cls idx Lib.Math.max.name ∈ ax_T) (hI : Cond.static Lib.Math.max.name ∈ ax_T) (hN : Cond.initialized "java/lang/Math" ∈ ax_T) (hC : Cond.code Lib.Math.max.name Lib.Math.max.code 2 (some .int) ∈ ax_T) (hf : 1 ≤ R.frames) (hr : (st.map fun v => v.category).sum + 13 ≤ R.locals) (hcs : kc ≤ R.cells ∧ ks ≤ R.slots) (kk : AW M R E Z h kc ks (pc + 3) ls (.int (if x < y then y else x) :: st)) : AW M R E Z h kc ks pc ls (.int y :: .int x :: st) := by
  intro p l e s m args below meth c g H locs lz X K hb hP hS hl hE
  exact va_mmax X.1 X.2.1 (X.2.2.1.trans hl.1.symm) X.2.2.2.1 (X.2.2.2.2.1 _ hL) (X.2.2.2.2.1 _ hI) (X.2.2.2.2.1 _ hN) (X.2.2.2.2.1 _ hC) hf (by rw [ax_rs]; exact hr) hcs.1 hcs.2 hd (kk p l e s m args below meth c g H locs lz X K hb hP hS hl hE)
theorem aw_mmin {idx : Nat} {x y : Int32} (hd : decode M.2.1 pc = .ok (.invokestatic idx, 3)) (hL : Cond.methodLink M.1.cls idx Lib.Math.min.name ∈ ax_T) (hI : Cond.static Lib.Math.min.name ∈ ax_T) (hN : Cond.initialized "java/lang/Math" ∈ ax_T) (hC : Cond.code Lib.Math.min.name Lib.Math.min.code 2 (some .int) ∈ ax_T) (hf : 1 ≤ R.frames) (hr : (st.map fun v => v.category).sum + 13 ≤ R.locals) (hcs : kc ≤ R.cells ∧ ks ≤ R.slots) (kk : AW M R E Z h kc ks (pc + 3) ls (.int (if y < x then y else x) :: st)) : AW M R E Z h kc ks pc ls (.int y :: .int x :: st) := by
  intro p l e s m args below meth c g H locs lz X K hb hP hS hl hE
  exact va_mmin X.1 X.2.1 (X.2.2.1.trans hl.1.symm) X.2.2.2.1 (X.2.2.2.2.1 _ hL) (X.2.2.2.2.1 _ hI) (X.2.2.2.2.1 _ hN) (X.2.2.2.2.1 _ hC) hf (by rw [ax_rs]; exact hr) hcs.1 hcs.2 hd (kk p l e s m args below meth c g H locs lz X K hb hP hS hl hE)
theorem aw_lcmp {x y : Int64} (hd : decode M.2.1 pc = .ok (.lcmp, 1)) (kk : AW M R E Z h kc ks (pc + 1) ls (.int (lg_cmp x y) :: st)) : AW M R E Z h kc ks pc ls (.long y :: .long x :: st) := by
  intro p l e s m args below meth c g H locs lz X K hb hP hS hl hE
  exact W.lcmp X.1 X.2.1 hd (kk p l e s m args below meth c g H locs lz X K hb hP hS hl hE)
theorem aw_swIn {dflt lo hi : Int} {offs : Array Int} {len : Nat} {x : Int32} {off : Int} {tgt : Nat} (hd : decode M.2.1 pc = .ok (.tableswitch dflt lo hi offs, len)) (h1 : ¬ x.toInt < lo) (h2 : ¬ hi < x.toInt) (ho : offs[(x.toInt - lo).toNat]? = some off) (ht : (pc : Int) + off = (tgt : Int)) (kk : AW M R E Z h kc ks tgt ls st) : AW M R E Z h kc ks pc ls (.int x :: st) := by
  intro p l e s m args below meth c g H locs lz X K hb hP hS hl hE
  exact lv_tableIn X.1 X.2.1 hd h1 h2 ho ht (kk p l e s m args below meth c g H locs lz X K hb hP hS hl hE)
theorem aw_swOut {dflt lo hi : Int} {offs : Array Int} {len : Nat} {x : Int32} {tgt : Nat} (hd : decode M.2.1 pc = .ok (.tableswitch dflt lo hi offs, len)) (h1 : x.toInt < lo ∨ hi < x.toInt) (ht : (pc : Int) + dflt = (tgt : Int)) (kk : AW M R E Z h kc ks tgt ls st) : AW M R E Z h kc ks pc ls (.int x :: st) := by
  intro p l e s m args below meth c g H locs lz X K hb hP hS hl hE
  exact lv_tableOut X.1 X.2.1 hd h1 ht (kk p l e s m args below meth c g H locs lz X K hb hP hS hl hE)
theorem aw_copy {idx k0 k1 n0 : Nat} {n : Int32} {xs ys : List Int32} {h' : ax_H} (hd : decode M.2.1 pc = .ok (.invokestatic idx, 3)) (hL : Cond.methodLink M.1.cls idx arraycopyName ∈ ax_T) (hI : Cond.static arraycopyName ∈ ax_T) (hX : Cond.native arraycopyName ∈ ax_T) (hN : Cond.initialized "java/lang/System" ∈ ax_T) (hk0 : h[k0]? = some (ia xs)) (hk1 : h[k1]? = some (ia ys)) (hx : xs.length = n0) (hy : ys.length = n0) (hn : n = nI n0) (hm : n0 < 2 ^ 31) (hf : 1 ≤ R.frames) (hr : (st.map fun v => v.category).sum + 18 ≤ R.locals) (hs : h.set k1 (ia xs) = h') (kk : AW M R E Z h' kc ks (pc + 3) ls st) : AW M R E Z h kc ks pc ls (.int n :: .int 0 :: .ref k1 :: .int 0 :: .ref k0 :: st) := by
  intro p l e s m args below meth c g H locs lz X K hb hP hS hl hE
  subst hn; subst hs
  have hcn : (nI n0).toNatClampNeg = n0 := nI_clamp hm
  have hc0 : (0 : Int32).toNatClampNeg = 0 := rfl
  refine va_copyi X.1 X.2.1 (X.2.2.1.trans hl.1.symm) X.2.2.2.1 (X.2.2.2.2.1 _ hL) (X.2.2.2.2.1 _ hX) (X.2.2.2.2.1 _ hI) (X.2.2.2.2.1 _ hN) K.1 hP (ax_D g h) hS k0 k1 0 0 (ax_w_at hk0) (ax_w_at hk1) rfl rfl rfl (sp := 0) (dp := 0) (n := nI n0) (by decide) (by decide) (nI_pos hm) (by show _ + _ ≤ xs.length; rw [hcn, hc0, hx]; omega) (by show _ + _ ≤ ys.length; rw [hcn, hc0, hy]; omega) (fun i _ => rfl) hf (by rw [ax_rs]; exact hr) hd (fun H1 locs1 hP1 _ hS1 => ?_)
  have e1 : (ax_w g h).set k1 (g.1 + k1, .inl (g.2.2.2 0, ys.length, .inl (va_cpy (fun j => xs.getD j 0) (fun j => ys.getD j 0) (0 : Int32).toNatClampNeg (0 : Int32).toNatClampNeg (nI n0).toNatClampNeg))) = ax_w g (h.set k1 (ia xs)) := by
    rw [hcn, hc0, ← ax_w_set]
    show _ = (ax_w g h).set k1 (g.1 + k1, .inl (g.2.2.2 0, xs.length, .inl (fun j => xs.getD j 0)))
    have ef : va_cpy (fun j => xs.getD j 0) (fun j => ys.getD j 0) 0 0 n0 = fun j => xs.getD j 0 := by
      funext j
      by_cases hj : j < n0
      · simp [va_cpy, hj]
      · simp only [va_cpy]
        rw [if_neg (by omega), List.getD_eq_getElem?_getD, List.getD_eq_getElem?_getD, List.getElem?_eq_none (by omega), List.getElem?_eq_none (by omega)]
    rw [hx, hy, ef]
  rw [e1] at hP1
  exact kk p l e s m args below meth c g H1 locs1 lz X K ⟨hb.1, by rw [List.length_set]; exact hb.2⟩ hP1 hS1 hl hE
theorem aw_slen {L : Nat} {xs : Nat → Int32} {u : UInt32} (hd : decode M.2.1 pc = .ok (.arraylength, 1)) (hX : ∀ s g, E s g → va_X g.2.1 L xs s s.heap ∧ g.2.1 < s.heap.size ∧ g.1 = s.heap.size) (kk : AW M R E Z h kc ks (pc + 1) ls (.int (nI L) :: st)) : AW M R E Z h kc ks pc ls (.float u :: st) := by
  intro p l e s m args below meth c g H locs lz X K hb hP hS hl hE
  obtain ⟨h1, h2, h3⟩ := hX s g hE
  exact va_slen X.1 X.2.1 h1 h2 (by show ¬ g.1 ≤ g.2.1; omega) hS hd (kk p l e s m args below meth c g H locs lz X K hb hP hS hl hE)
theorem aw_sld {L : Nat} {xs : Nat → Int32} {u : UInt32} {i : Int32} {j : Nat} (hd : decode M.2.1 pc = .ok (.iaload, 1)) (hX : ∀ s g, E s g → va_X g.2.1 L xs s s.heap ∧ g.2.1 < s.heap.size ∧ g.1 = s.heap.size) (hi : i = nI j) (hj : j < L) (hm : L < 2 ^ 31) (kk : AW M R E Z h kc ks (pc + 1) ls (.int (xs j) :: st)) : AW M R E Z h kc ks pc ls (.int i :: .float u :: st) := by
  intro p l e s m args below meth c g H locs lz X K hb hP hS hl hE
  obtain ⟨h1, h2, h3⟩ := hX s g hE
  subst hi
  refine va_sld X.1 X.2.1 h1 h2 (by show ¬ g.1 ≤ g.2.1; omega) hS (i := nI j) (vp_in_nI hj hm) hd ?_
  rw [nI_clamp (by omega)]
  exact kk p l e s m args below meth c g H locs lz X K hb hP hS hl hE
end HEAP
section ENDS
variable {M : ax_M} {R : Room} {E : ax_Et} {h : ax_H} {mc ms pc : Nat} {ls : List (Nat × Value)} {Q : Option Value → ax_H → Prop}
theorem ax_end {g : ax_G} {H : Heap} {locs : List Loc} {s : State} {args : Array Value} {r : Option Value} (hb : g.1 ≤ s.heap.size ∧ s.heap.size + mc = g.1 + h.length) (hP : va_P g.2.2.1 classes (ax_w g h) H) (hS : va_S (ax_A g) s.heap H locs) (hQ : Q r h) : ∀ t : State, t.heap = H → s.WarmedH t.vm → ax_Q g Q mc args s (.returned (r.map (ax_v g))) t :=
  fun t ht _ => ⟨r, h, rfl, hQ, by rw [ht]; exact hP, hb.2, hS.F ht⟩
theorem aw_iret {v : Int32} (hd : decode M.2.1 pc = .ok (.ireturn, 1)) (hr : M.2.2.2 = some .int) (hQ : Q (some (.int v)) h) : AW M R E (ax_Zm Q mc ms) h mc ms pc ls [.int v] := by
  intro p l e s m args below meth c g H locs lz X K hb hP hS hl hE
  exact W.iret X.1 X.2.1 (X.2.2.2.2.2.1.trans hr) (ax_end hb hP hS hQ) hS.2.2 hd X.2.2.2.2.2.2.1
theorem aw_zret {v : Int32} (hd : decode M.2.1 pc = .ok (.ireturn, 1)) (hr : M.2.2.2 = some .boolean) (hv : ft_ok .boolean (.int v)) (hQ : Q (some (.int v)) h) : AW M R E (ax_Zm Q mc ms) h mc ms pc ls [.int v] := by
  intro p l e s m args below meth c g H locs lz X K hb hP hS hl hE
  exact W.zret X.1 X.2.1 (X.2.2.2.2.2.1.trans hr) (hv g).1 (ax_end hb hP hS hQ) hS.2.2 hd X.2.2.2.2.2.2.1
theorem aw_lret {v : Int64} (hd : decode M.2.1 pc = .ok (.lreturn, 1)) (hr : M.2.2.2 = some .long) (hQ : Q (some (.long v)) h) : AW M R E (ax_Zm Q mc ms) h mc ms pc ls [.long v] := by
  intro p l e s m args below meth c g H locs lz X K hb hP hS hl hE
  exact W.lret X.1 X.2.1 (X.2.2.2.2.2.1.trans hr) (ax_end hb hP hS hQ) hS.2.2 hd X.2.2.2.2.2.2.1
theorem aw_aret {k : Nat} {C : String} (hd : decode M.2.1 pc = .ok (.areturn, 1)) (hr : M.2.2.2 = some (.object C)) (hQ : Q (some (.ref k)) h) : AW M R E (ax_Zm Q mc ms) h mc ms pc ls [.ref k] := by
  intro p l e s m args below meth c g H locs lz X K hb hP hS hl hE
  exact W.aret X.1 X.2.1 (X.2.2.2.2.2.1.trans hr) (Or.inl ⟨C, rfl⟩) (Or.inr ⟨_, rfl⟩) (ax_end hb hP hS hQ) hS.2.2 hd X.2.2.2.2.2.2.1
theorem aw_vret (hd : decode M.2.1 pc = .ok (.return_, 1)) (hr : M.2.2.2 = none) (hQ : Q none h) : AW M R E (ax_Zm Q mc ms) h mc ms pc ls [] := by
  intro p l e s m args below meth c g H locs lz X K hb hP hS hl hE
  exact W.vret X.1 X.2.1 (X.2.2.2.2.2.1.trans hr) (ax_end hb hP hS hQ) hS.2.2 hd X.2.2.2.2.2.2.1
end ENDS
end
section
theorem d_V_init_0 : decode m_V_init.2.1 0 = .ok (.aload_n 0, 1) := by decide +kernel
theorem d_V_init_1 : decode m_V_init.2.1 1 = .ok (.invokespecial 1, 3) := by decide +kernel
theorem d_V_init_4 : decode m_V_init.2.1 4 = .ok (.aload_n 0, 1) := by decide +kernel
theorem d_V_init_5 : decode m_V_init.2.1 5 = .ok (.new 7, 3) := by decide +kernel
theorem d_V_init_8 : decode m_V_init.2.1 8 = .ok (.dup, 1) := by decide +kernel
theorem d_V_init_9 : decode m_V_init.2.1 9 = .ok (.invokespecial 9, 3) := by decide +kernel
theorem d_V_init_12 : decode m_V_init.2.1 12 = .ok (.putfield 10, 3) := by decide +kernel
theorem d_V_init_15 : decode m_V_init.2.1 15 = .ok (.aload_n 0, 1) := by decide +kernel
theorem d_V_init_16 : decode m_V_init.2.1 16 = .ok (.new 7, 3) := by decide +kernel
theorem d_V_init_19 : decode m_V_init.2.1 19 = .ok (.dup, 1) := by decide +kernel
theorem d_V_init_20 : decode m_V_init.2.1 20 = .ok (.invokespecial 9, 3) := by decide +kernel
theorem d_V_init_23 : decode m_V_init.2.1 23 = .ok (.putfield 16, 3) := by decide +kernel
theorem d_V_init_26 : decode m_V_init.2.1 26 = .ok (.aload_n 0, 1) := by decide +kernel
theorem d_V_init_27 : decode m_V_init.2.1 27 = .ok (.new 7, 3) := by decide +kernel
theorem d_V_init_30 : decode m_V_init.2.1 30 = .ok (.dup, 1) := by decide +kernel
theorem d_V_init_31 : decode m_V_init.2.1 31 = .ok (.invokespecial 9, 3) := by decide +kernel
theorem d_V_init_34 : decode m_V_init.2.1 34 = .ok (.putfield 19, 3) := by decide +kernel
theorem d_V_init_37 : decode m_V_init.2.1 37 = .ok (.aload_n 0, 1) := by decide +kernel
theorem d_V_init_38 : decode m_V_init.2.1 38 = .ok (.new 7, 3) := by decide +kernel
theorem d_V_init_41 : decode m_V_init.2.1 41 = .ok (.dup, 1) := by decide +kernel
theorem d_V_init_42 : decode m_V_init.2.1 42 = .ok (.invokespecial 9, 3) := by decide +kernel
theorem d_V_init_45 : decode m_V_init.2.1 45 = .ok (.putfield 22, 3) := by decide +kernel
theorem d_V_init_48 : decode m_V_init.2.1 48 = .ok (.aload_n 0, 1) := by decide +kernel
theorem d_V_init_49 : decode m_V_init.2.1 49 = .ok (.new 25, 3) := by decide +kernel
theorem d_V_init_52 : decode m_V_init.2.1 52 = .ok (.dup, 1) := by decide +kernel
theorem d_V_init_53 : decode m_V_init.2.1 53 = .ok (.invokespecial 27, 3) := by decide +kernel
theorem d_V_init_56 : decode m_V_init.2.1 56 = .ok (.putfield 28, 3) := by decide +kernel
theorem d_V_init_59 : decode m_V_init.2.1 59 = .ok (.aload_n 0, 1) := by decide +kernel
theorem d_V_init_60 : decode m_V_init.2.1 60 = .ok (.new 32, 3) := by decide +kernel
theorem d_V_init_63 : decode m_V_init.2.1 63 = .ok (.dup, 1) := by decide +kernel
theorem d_V_init_64 : decode m_V_init.2.1 64 = .ok (.invokespecial 34, 3) := by decide +kernel
theorem d_V_init_67 : decode m_V_init.2.1 67 = .ok (.putfield 35, 3) := by decide +kernel
theorem d_V_init_70 : decode m_V_init.2.1 70 = .ok (.aload_n 0, 1) := by decide +kernel
theorem d_V_init_71 : decode m_V_init.2.1 71 = .ok (.new 39, 3) := by decide +kernel
theorem d_V_init_74 : decode m_V_init.2.1 74 = .ok (.dup, 1) := by decide +kernel
theorem d_V_init_75 : decode m_V_init.2.1 75 = .ok (.invokespecial 41, 3) := by decide +kernel
theorem d_V_init_78 : decode m_V_init.2.1 78 = .ok (.putfield 42, 3) := by decide +kernel
theorem d_V_init_81 : decode m_V_init.2.1 81 = .ok (.aload_n 0, 1) := by decide +kernel
theorem d_V_init_82 : decode m_V_init.2.1 82 = .ok (.iconst 0, 1) := by decide +kernel
theorem d_V_init_83 : decode m_V_init.2.1 83 = .ok (.putfield 46, 3) := by decide +kernel
theorem d_V_init_86 : decode m_V_init.2.1 86 = .ok (.return_, 1) := by decide +kernel
theorem d_V_house_0 : decode m_V_house.2.1 0 = .ok (.iload_n 1, 1) := by decide +kernel
theorem d_V_house_1 : decode m_V_house.2.1 1 = .ok (.iconst 0, 1) := by decide +kernel
theorem d_V_house_2 : decode m_V_house.2.1 2 = .ok (.bipush 11, 2) := by decide +kernel
theorem d_V_house_4 : decode m_V_house.2.1 4 = .ok (.invokestatic 50, 3) := by decide +kernel
theorem d_V_house_7 : decode m_V_house.2.1 7 = .ok (.ifCond .ne 5, 3) := by decide +kernel
theorem d_V_house_10 : decode m_V_house.2.1 10 = .ok (.iconst (-1), 1) := by decide +kernel
theorem d_V_house_11 : decode m_V_house.2.1 11 = .ok (.ireturn, 1) := by decide +kernel
theorem d_V_house_12 : decode m_V_house.2.1 12 = .ok (.iload 4, 2) := by decide +kernel
theorem d_V_house_14 : decode m_V_house.2.1 14 = .ok (.iconst 0, 1) := by decide +kernel
theorem d_V_house_15 : decode m_V_house.2.1 15 = .ok (.sipush 255, 3) := by decide +kernel
theorem d_V_house_18 : decode m_V_house.2.1 18 = .ok (.invokestatic 50, 3) := by decide +kernel
theorem d_V_house_21 : decode m_V_house.2.1 21 = .ok (.ifCond .ne 6, 3) := by decide +kernel
theorem d_V_house_24 : decode m_V_house.2.1 24 = .ok (.bipush (-2), 2) := by decide +kernel
theorem d_V_house_26 : decode m_V_house.2.1 26 = .ok (.ireturn, 1) := by decide +kernel
theorem d_V_house_27 : decode m_V_house.2.1 27 = .ok (.aload_n 0, 1) := by decide +kernel
theorem d_V_house_28 : decode m_V_house.2.1 28 = .ok (.getfield 10, 3) := by decide +kernel
theorem d_V_house_31 : decode m_V_house.2.1 31 = .ok (.getfield 54, 3) := by decide +kernel
theorem d_V_house_34 : decode m_V_house.2.1 34 = .ok (.iload_n 1, 1) := by decide +kernel
theorem d_V_house_35 : decode m_V_house.2.1 35 = .ok (.iaload, 1) := by decide +kernel
theorem d_V_house_36 : decode m_V_house.2.1 36 = .ok (.istore 5, 2) := by decide +kernel
theorem d_V_house_38 : decode m_V_house.2.1 38 = .ok (.aload_n 0, 1) := by decide +kernel
theorem d_V_house_39 : decode m_V_house.2.1 39 = .ok (.getfield 10, 3) := by decide +kernel
theorem d_V_house_42 : decode m_V_house.2.1 42 = .ok (.aload_n 0, 1) := by decide +kernel
theorem d_V_house_43 : decode m_V_house.2.1 43 = .ok (.getfield 10, 3) := by decide +kernel
theorem d_V_house_46 : decode m_V_house.2.1 46 = .ok (.getfield 58, 3) := by decide +kernel
theorem d_V_house_49 : decode m_V_house.2.1 49 = .ok (.iload_n 1, 1) := by decide +kernel
theorem d_V_house_50 : decode m_V_house.2.1 50 = .ok (.iload_n 2, 1) := by decide +kernel
theorem d_V_house_51 : decode m_V_house.2.1 51 = .ok (.invokestatic 61, 3) := by decide +kernel
theorem d_V_house_54 : decode m_V_house.2.1 54 = .ok (.putfield 58, 3) := by decide +kernel
theorem d_V_house_57 : decode m_V_house.2.1 57 = .ok (.aload_n 0, 1) := by decide +kernel
theorem d_V_house_58 : decode m_V_house.2.1 58 = .ok (.getfield 10, 3) := by decide +kernel
theorem d_V_house_61 : decode m_V_house.2.1 61 = .ok (.aload_n 0, 1) := by decide +kernel
theorem d_V_house_62 : decode m_V_house.2.1 62 = .ok (.getfield 10, 3) := by decide +kernel
theorem d_V_house_65 : decode m_V_house.2.1 65 = .ok (.getfield 65, 3) := by decide +kernel
theorem d_V_house_68 : decode m_V_house.2.1 68 = .ok (.iload_n 1, 1) := by decide +kernel
theorem d_V_house_69 : decode m_V_house.2.1 69 = .ok (.iload_n 3, 1) := by decide +kernel
theorem d_V_house_70 : decode m_V_house.2.1 70 = .ok (.invokestatic 61, 3) := by decide +kernel
theorem d_V_house_73 : decode m_V_house.2.1 73 = .ok (.putfield 65, 3) := by decide +kernel
theorem d_V_house_76 : decode m_V_house.2.1 76 = .ok (.aload_n 0, 1) := by decide +kernel
theorem d_V_house_77 : decode m_V_house.2.1 77 = .ok (.getfield 10, 3) := by decide +kernel
theorem d_V_house_80 : decode m_V_house.2.1 80 = .ok (.getfield 54, 3) := by decide +kernel
theorem d_V_house_83 : decode m_V_house.2.1 83 = .ok (.iload_n 1, 1) := by decide +kernel
theorem d_V_house_84 : decode m_V_house.2.1 84 = .ok (.iload 4, 2) := by decide +kernel
theorem d_V_house_86 : decode m_V_house.2.1 86 = .ok (.iastore, 1) := by decide +kernel
theorem d_V_house_87 : decode m_V_house.2.1 87 = .ok (.iload 5, 2) := by decide +kernel
theorem d_V_house_89 : decode m_V_house.2.1 89 = .ok (.ireturn, 1) := by decide +kernel
theorem d_V_wall_0 : decode m_V_wall.2.1 0 = .ok (.iload_n 1, 1) := by decide +kernel
theorem d_V_wall_1 : decode m_V_wall.2.1 1 = .ok (.iconst 0, 1) := by decide +kernel
theorem d_V_wall_2 : decode m_V_wall.2.1 2 = .ok (.bipush 10, 2) := by decide +kernel
theorem d_V_wall_4 : decode m_V_wall.2.1 4 = .ok (.invokestatic 50, 3) := by decide +kernel
theorem d_V_wall_7 : decode m_V_wall.2.1 7 = .ok (.ifCond .ne 5, 3) := by decide +kernel
theorem d_V_wall_10 : decode m_V_wall.2.1 10 = .ok (.iconst (-1), 1) := by decide +kernel
theorem d_V_wall_11 : decode m_V_wall.2.1 11 = .ok (.ireturn, 1) := by decide +kernel
theorem d_V_wall_12 : decode m_V_wall.2.1 12 = .ok (.iload_n 2, 1) := by decide +kernel
theorem d_V_wall_13 : decode m_V_wall.2.1 13 = .ok (.iconst 0, 1) := by decide +kernel
theorem d_V_wall_14 : decode m_V_wall.2.1 14 = .ok (.bipush 9, 2) := by decide +kernel
theorem d_V_wall_16 : decode m_V_wall.2.1 16 = .ok (.invokestatic 50, 3) := by decide +kernel
theorem d_V_wall_19 : decode m_V_wall.2.1 19 = .ok (.ifCond .ne 6, 3) := by decide +kernel
theorem d_V_wall_22 : decode m_V_wall.2.1 22 = .ok (.bipush (-2), 2) := by decide +kernel
theorem d_V_wall_24 : decode m_V_wall.2.1 24 = .ok (.ireturn, 1) := by decide +kernel
theorem d_V_wall_25 : decode m_V_wall.2.1 25 = .ok (.aload_n 0, 1) := by decide +kernel
theorem d_V_wall_26 : decode m_V_wall.2.1 26 = .ok (.getfield 10, 3) := by decide +kernel
theorem d_V_wall_29 : decode m_V_wall.2.1 29 = .ok (.getfield 68, 3) := by decide +kernel
theorem d_V_wall_32 : decode m_V_wall.2.1 32 = .ok (.iload_n 1, 1) := by decide +kernel
theorem d_V_wall_33 : decode m_V_wall.2.1 33 = .ok (.iaload, 1) := by decide +kernel
theorem d_V_wall_34 : decode m_V_wall.2.1 34 = .ok (.istore_n 3, 1) := by decide +kernel
theorem d_V_wall_35 : decode m_V_wall.2.1 35 = .ok (.aload_n 0, 1) := by decide +kernel
theorem d_V_wall_36 : decode m_V_wall.2.1 36 = .ok (.getfield 10, 3) := by decide +kernel
theorem d_V_wall_39 : decode m_V_wall.2.1 39 = .ok (.getfield 68, 3) := by decide +kernel
theorem d_V_wall_42 : decode m_V_wall.2.1 42 = .ok (.iload_n 1, 1) := by decide +kernel
theorem d_V_wall_43 : decode m_V_wall.2.1 43 = .ok (.iload_n 2, 1) := by decide +kernel
theorem d_V_wall_44 : decode m_V_wall.2.1 44 = .ok (.iastore, 1) := by decide +kernel
theorem d_V_wall_45 : decode m_V_wall.2.1 45 = .ok (.iload_n 3, 1) := by decide +kernel
theorem d_V_wall_46 : decode m_V_wall.2.1 46 = .ok (.ireturn, 1) := by decide +kernel
theorem d_V_set_0 : decode m_V_set.2.1 0 = .ok (.iload_n 1, 1) := by decide +kernel
theorem d_V_set_1 : decode m_V_set.2.1 1 = .ok (.ifCond .ne 9, 3) := by decide +kernel
theorem d_V_set_4 : decode m_V_set.2.1 4 = .ok (.aload_n 0, 1) := by decide +kernel
theorem d_V_set_5 : decode m_V_set.2.1 5 = .ok (.iload_n 2, 1) := by decide +kernel
theorem d_V_set_6 : decode m_V_set.2.1 6 = .ok (.invokevirtual 71, 3) := by decide +kernel
theorem d_V_set_9 : decode m_V_set.2.1 9 = .ok (.ireturn, 1) := by decide +kernel
theorem d_V_set_10 : decode m_V_set.2.1 10 = .ok (.iload_n 1, 1) := by decide +kernel
theorem d_V_set_11 : decode m_V_set.2.1 11 = .ok (.iconst 1, 1) := by decide +kernel
theorem d_V_set_12 : decode m_V_set.2.1 12 = .ok (.if_icmp .ne 9, 3) := by decide +kernel
theorem d_V_set_15 : decode m_V_set.2.1 15 = .ok (.aload_n 0, 1) := by decide +kernel
theorem d_V_set_16 : decode m_V_set.2.1 16 = .ok (.iload_n 2, 1) := by decide +kernel
theorem d_V_set_17 : decode m_V_set.2.1 17 = .ok (.invokevirtual 75, 3) := by decide +kernel
theorem d_V_set_20 : decode m_V_set.2.1 20 = .ok (.ireturn, 1) := by decide +kernel
theorem d_V_set_21 : decode m_V_set.2.1 21 = .ok (.iload_n 1, 1) := by decide +kernel
theorem d_V_set_22 : decode m_V_set.2.1 22 = .ok (.iconst 2, 1) := by decide +kernel
theorem d_V_set_23 : decode m_V_set.2.1 23 = .ok (.if_icmp .ne 9, 3) := by decide +kernel
theorem d_V_set_26 : decode m_V_set.2.1 26 = .ok (.aload_n 0, 1) := by decide +kernel
theorem d_V_set_27 : decode m_V_set.2.1 27 = .ok (.iload_n 2, 1) := by decide +kernel
theorem d_V_set_28 : decode m_V_set.2.1 28 = .ok (.invokevirtual 78, 3) := by decide +kernel
theorem d_V_set_31 : decode m_V_set.2.1 31 = .ok (.ireturn, 1) := by decide +kernel
theorem d_V_set_32 : decode m_V_set.2.1 32 = .ok (.bipush (-2), 2) := by decide +kernel
theorem d_V_set_34 : decode m_V_set.2.1 34 = .ok (.ireturn, 1) := by decide +kernel
theorem d_V_setVoice_0 : decode m_V_setVoice.2.1 0 = .ok (.iload_n 1, 1) := by decide +kernel
theorem d_V_setVoice_1 : decode m_V_setVoice.2.1 1 = .ok (.iconst 1, 1) := by decide +kernel
theorem d_V_setVoice_2 : decode m_V_setVoice.2.1 2 = .ok (.bipush 40, 2) := by decide +kernel
theorem d_V_setVoice_4 : decode m_V_setVoice.2.1 4 = .ok (.invokestatic 50, 3) := by decide +kernel
theorem d_V_setVoice_7 : decode m_V_setVoice.2.1 7 = .ok (.ifCond .ne 6, 3) := by decide +kernel
theorem d_V_setVoice_10 : decode m_V_setVoice.2.1 10 = .ok (.bipush (-2), 2) := by decide +kernel
theorem d_V_setVoice_12 : decode m_V_setVoice.2.1 12 = .ok (.ireturn, 1) := by decide +kernel
theorem d_V_setVoice_13 : decode m_V_setVoice.2.1 13 = .ok (.aload_n 0, 1) := by decide +kernel
theorem d_V_setVoice_14 : decode m_V_setVoice.2.1 14 = .ok (.getfield 10, 3) := by decide +kernel
theorem d_V_setVoice_17 : decode m_V_setVoice.2.1 17 = .ok (.getfield 81, 3) := by decide +kernel
theorem d_V_setVoice_20 : decode m_V_setVoice.2.1 20 = .ok (.istore_n 2, 1) := by decide +kernel
theorem d_V_setVoice_21 : decode m_V_setVoice.2.1 21 = .ok (.aload_n 0, 1) := by decide +kernel
theorem d_V_setVoice_22 : decode m_V_setVoice.2.1 22 = .ok (.getfield 10, 3) := by decide +kernel
theorem d_V_setVoice_25 : decode m_V_setVoice.2.1 25 = .ok (.iload_n 1, 1) := by decide +kernel
theorem d_V_setVoice_26 : decode m_V_setVoice.2.1 26 = .ok (.putfield 81, 3) := by decide +kernel
theorem d_V_setVoice_29 : decode m_V_setVoice.2.1 29 = .ok (.iload_n 2, 1) := by decide +kernel
theorem d_V_setVoice_30 : decode m_V_setVoice.2.1 30 = .ok (.ireturn, 1) := by decide +kernel
theorem d_V_setWind_0 : decode m_V_setWind.2.1 0 = .ok (.iload_n 1, 1) := by decide +kernel
theorem d_V_setWind_1 : decode m_V_setWind.2.1 1 = .ok (.bipush (-3), 2) := by decide +kernel
theorem d_V_setWind_3 : decode m_V_setWind.2.1 3 = .ok (.iconst 3, 1) := by decide +kernel
theorem d_V_setWind_4 : decode m_V_setWind.2.1 4 = .ok (.invokestatic 50, 3) := by decide +kernel
theorem d_V_setWind_7 : decode m_V_setWind.2.1 7 = .ok (.ifCond .ne 6, 3) := by decide +kernel
theorem d_V_setWind_10 : decode m_V_setWind.2.1 10 = .ok (.bipush (-2), 2) := by decide +kernel
theorem d_V_setWind_12 : decode m_V_setWind.2.1 12 = .ok (.ireturn, 1) := by decide +kernel
theorem d_V_setWind_13 : decode m_V_setWind.2.1 13 = .ok (.aload_n 0, 1) := by decide +kernel
theorem d_V_setWind_14 : decode m_V_setWind.2.1 14 = .ok (.getfield 10, 3) := by decide +kernel
theorem d_V_setWind_17 : decode m_V_setWind.2.1 17 = .ok (.getfield 84, 3) := by decide +kernel
theorem d_V_setWind_20 : decode m_V_setWind.2.1 20 = .ok (.istore_n 2, 1) := by decide +kernel
theorem d_V_setWind_21 : decode m_V_setWind.2.1 21 = .ok (.aload_n 0, 1) := by decide +kernel
theorem d_V_setWind_22 : decode m_V_setWind.2.1 22 = .ok (.getfield 10, 3) := by decide +kernel
theorem d_V_setWind_25 : decode m_V_setWind.2.1 25 = .ok (.iload_n 1, 1) := by decide +kernel
theorem d_V_setWind_26 : decode m_V_setWind.2.1 26 = .ok (.putfield 84, 3) := by decide +kernel
theorem d_V_setWind_29 : decode m_V_setWind.2.1 29 = .ok (.iload_n 2, 1) := by decide +kernel
theorem d_V_setWind_30 : decode m_V_setWind.2.1 30 = .ok (.iconst 3, 1) := by decide +kernel
theorem d_V_setWind_31 : decode m_V_setWind.2.1 31 = .ok (.iadd, 1) := by decide +kernel
theorem d_V_setWind_32 : decode m_V_setWind.2.1 32 = .ok (.ireturn, 1) := by decide +kernel
theorem d_V_setPlace_0 : decode m_V_setPlace.2.1 0 = .ok (.iload_n 1, 1) := by decide +kernel
theorem d_V_setPlace_1 : decode m_V_setPlace.2.1 1 = .ok (.iconst 0, 1) := by decide +kernel
theorem d_V_setPlace_2 : decode m_V_setPlace.2.1 2 = .ok (.bipush 11, 2) := by decide +kernel
theorem d_V_setPlace_4 : decode m_V_setPlace.2.1 4 = .ok (.invokestatic 50, 3) := by decide +kernel
theorem d_V_setPlace_7 : decode m_V_setPlace.2.1 7 = .ok (.ifCond .ne 6, 3) := by decide +kernel
theorem d_V_setPlace_10 : decode m_V_setPlace.2.1 10 = .ok (.bipush (-2), 2) := by decide +kernel
theorem d_V_setPlace_12 : decode m_V_setPlace.2.1 12 = .ok (.ireturn, 1) := by decide +kernel
theorem d_V_setPlace_13 : decode m_V_setPlace.2.1 13 = .ok (.aload_n 0, 1) := by decide +kernel
theorem d_V_setPlace_14 : decode m_V_setPlace.2.1 14 = .ok (.getfield 10, 3) := by decide +kernel
theorem d_V_setPlace_17 : decode m_V_setPlace.2.1 17 = .ok (.getfield 87, 3) := by decide +kernel
theorem d_V_setPlace_20 : decode m_V_setPlace.2.1 20 = .ok (.istore_n 2, 1) := by decide +kernel
theorem d_V_setPlace_21 : decode m_V_setPlace.2.1 21 = .ok (.aload_n 0, 1) := by decide +kernel
theorem d_V_setPlace_22 : decode m_V_setPlace.2.1 22 = .ok (.getfield 10, 3) := by decide +kernel
theorem d_V_setPlace_25 : decode m_V_setPlace.2.1 25 = .ok (.iload_n 1, 1) := by decide +kernel
theorem d_V_setPlace_26 : decode m_V_setPlace.2.1 26 = .ok (.putfield 87, 3) := by decide +kernel
theorem d_V_setPlace_29 : decode m_V_setPlace.2.1 29 = .ok (.iload_n 2, 1) := by decide +kernel
theorem d_V_setPlace_30 : decode m_V_setPlace.2.1 30 = .ok (.ireturn, 1) := by decide +kernel
theorem d_V_letter_0 : decode m_V_letter.2.1 0 = .ok (.iload_n 1, 1) := by decide +kernel
theorem d_V_letter_1 : decode m_V_letter.2.1 1 = .ok (.iconst 0, 1) := by decide +kernel
theorem d_V_letter_2 : decode m_V_letter.2.1 2 = .ok (.iconst 5, 1) := by decide +kernel
theorem d_V_letter_3 : decode m_V_letter.2.1 3 = .ok (.invokestatic 50, 3) := by decide +kernel
theorem d_V_letter_6 : decode m_V_letter.2.1 6 = .ok (.ifCond .ne 5, 3) := by decide +kernel
theorem d_V_letter_9 : decode m_V_letter.2.1 9 = .ok (.iconst (-1), 1) := by decide +kernel
theorem d_V_letter_10 : decode m_V_letter.2.1 10 = .ok (.ireturn, 1) := by decide +kernel
theorem d_V_letter_11 : decode m_V_letter.2.1 11 = .ok (.iload_n 2, 1) := by decide +kernel
theorem d_V_letter_12 : decode m_V_letter.2.1 12 = .ok (.iconst 0, 1) := by decide +kernel
theorem d_V_letter_13 : decode m_V_letter.2.1 13 = .ok (.bipush 11, 2) := by decide +kernel
theorem d_V_letter_15 : decode m_V_letter.2.1 15 = .ok (.invokestatic 50, 3) := by decide +kernel
theorem d_V_letter_18 : decode m_V_letter.2.1 18 = .ok (.ifCond .eq 15, 3) := by decide +kernel
theorem d_V_letter_21 : decode m_V_letter.2.1 21 = .ok (.iload 5, 2) := by decide +kernel
theorem d_V_letter_23 : decode m_V_letter.2.1 23 = .ok (.iconst 0, 1) := by decide +kernel
theorem d_V_letter_24 : decode m_V_letter.2.1 24 = .ok (.sipush 4095, 3) := by decide +kernel
theorem d_V_letter_27 : decode m_V_letter.2.1 27 = .ok (.invokestatic 50, 3) := by decide +kernel
theorem d_V_letter_30 : decode m_V_letter.2.1 30 = .ok (.ifCond .ne 6, 3) := by decide +kernel
theorem d_V_letter_33 : decode m_V_letter.2.1 33 = .ok (.bipush (-2), 2) := by decide +kernel
theorem d_V_letter_35 : decode m_V_letter.2.1 35 = .ok (.ireturn, 1) := by decide +kernel
theorem d_V_letter_36 : decode m_V_letter.2.1 36 = .ok (.iload_n 3, 1) := by decide +kernel
theorem d_V_letter_37 : decode m_V_letter.2.1 37 = .ok (.iconst 0, 1) := by decide +kernel
theorem d_V_letter_38 : decode m_V_letter.2.1 38 = .ok (.sipush 255, 3) := by decide +kernel
theorem d_V_letter_41 : decode m_V_letter.2.1 41 = .ok (.invokestatic 50, 3) := by decide +kernel
theorem d_V_letter_44 : decode m_V_letter.2.1 44 = .ok (.ifCond .eq 15, 3) := by decide +kernel
theorem d_V_letter_47 : decode m_V_letter.2.1 47 = .ok (.iload 4, 2) := by decide +kernel
theorem d_V_letter_49 : decode m_V_letter.2.1 49 = .ok (.iconst 0, 1) := by decide +kernel
theorem d_V_letter_50 : decode m_V_letter.2.1 50 = .ok (.sipush 255, 3) := by decide +kernel
theorem d_V_letter_53 : decode m_V_letter.2.1 53 = .ok (.invokestatic 50, 3) := by decide +kernel
theorem d_V_letter_56 : decode m_V_letter.2.1 56 = .ok (.ifCond .ne 6, 3) := by decide +kernel
theorem d_V_letter_59 : decode m_V_letter.2.1 59 = .ok (.bipush (-2), 2) := by decide +kernel
theorem d_V_letter_61 : decode m_V_letter.2.1 61 = .ok (.ireturn, 1) := by decide +kernel
theorem d_V_letter_62 : decode m_V_letter.2.1 62 = .ok (.aload_n 0, 1) := by decide +kernel
theorem d_V_letter_63 : decode m_V_letter.2.1 63 = .ok (.getfield 10, 3) := by decide +kernel
theorem d_V_letter_66 : decode m_V_letter.2.1 66 = .ok (.getfield 90, 3) := by decide +kernel
theorem d_V_letter_69 : decode m_V_letter.2.1 69 = .ok (.iload_n 1, 1) := by decide +kernel
theorem d_V_letter_70 : decode m_V_letter.2.1 70 = .ok (.iaload, 1) := by decide +kernel
theorem d_V_letter_71 : decode m_V_letter.2.1 71 = .ok (.istore 6, 2) := by decide +kernel
theorem d_V_letter_73 : decode m_V_letter.2.1 73 = .ok (.aload_n 0, 1) := by decide +kernel
theorem d_V_letter_74 : decode m_V_letter.2.1 74 = .ok (.getfield 10, 3) := by decide +kernel
theorem d_V_letter_77 : decode m_V_letter.2.1 77 = .ok (.getfield 90, 3) := by decide +kernel
theorem d_V_letter_80 : decode m_V_letter.2.1 80 = .ok (.iload_n 1, 1) := by decide +kernel
theorem d_V_letter_81 : decode m_V_letter.2.1 81 = .ok (.iload_n 2, 1) := by decide +kernel
theorem d_V_letter_82 : decode m_V_letter.2.1 82 = .ok (.iastore, 1) := by decide +kernel
theorem d_V_letter_83 : decode m_V_letter.2.1 83 = .ok (.aload_n 0, 1) := by decide +kernel
theorem d_V_letter_84 : decode m_V_letter.2.1 84 = .ok (.getfield 10, 3) := by decide +kernel
theorem d_V_letter_87 : decode m_V_letter.2.1 87 = .ok (.getfield 93, 3) := by decide +kernel
theorem d_V_letter_90 : decode m_V_letter.2.1 90 = .ok (.iload_n 1, 1) := by decide +kernel
theorem d_V_letter_91 : decode m_V_letter.2.1 91 = .ok (.iload_n 3, 1) := by decide +kernel
theorem d_V_letter_92 : decode m_V_letter.2.1 92 = .ok (.iastore, 1) := by decide +kernel
theorem d_V_letter_93 : decode m_V_letter.2.1 93 = .ok (.aload_n 0, 1) := by decide +kernel
theorem d_V_letter_94 : decode m_V_letter.2.1 94 = .ok (.getfield 10, 3) := by decide +kernel
theorem d_V_letter_97 : decode m_V_letter.2.1 97 = .ok (.getfield 96, 3) := by decide +kernel
theorem d_V_letter_100 : decode m_V_letter.2.1 100 = .ok (.iload_n 1, 1) := by decide +kernel
theorem d_V_letter_101 : decode m_V_letter.2.1 101 = .ok (.iload 4, 2) := by decide +kernel
theorem d_V_letter_103 : decode m_V_letter.2.1 103 = .ok (.iastore, 1) := by decide +kernel
theorem d_V_letter_104 : decode m_V_letter.2.1 104 = .ok (.aload_n 0, 1) := by decide +kernel
theorem d_V_letter_105 : decode m_V_letter.2.1 105 = .ok (.getfield 10, 3) := by decide +kernel
theorem d_V_letter_108 : decode m_V_letter.2.1 108 = .ok (.getfield 99, 3) := by decide +kernel
theorem d_V_letter_111 : decode m_V_letter.2.1 111 = .ok (.iload_n 1, 1) := by decide +kernel
theorem d_V_letter_112 : decode m_V_letter.2.1 112 = .ok (.iload 5, 2) := by decide +kernel
theorem d_V_letter_114 : decode m_V_letter.2.1 114 = .ok (.iastore, 1) := by decide +kernel
theorem d_V_letter_115 : decode m_V_letter.2.1 115 = .ok (.aload_n 0, 1) := by decide +kernel
theorem d_V_letter_116 : decode m_V_letter.2.1 116 = .ok (.getfield 10, 3) := by decide +kernel
theorem d_V_letter_119 : decode m_V_letter.2.1 119 = .ok (.aload_n 0, 1) := by decide +kernel
theorem d_V_letter_120 : decode m_V_letter.2.1 120 = .ok (.getfield 10, 3) := by decide +kernel
theorem d_V_letter_123 : decode m_V_letter.2.1 123 = .ok (.getfield 102, 3) := by decide +kernel
theorem d_V_letter_126 : decode m_V_letter.2.1 126 = .ok (.iload_n 1, 1) := by decide +kernel
theorem d_V_letter_127 : decode m_V_letter.2.1 127 = .ok (.iconst 0, 1) := by decide +kernel
theorem d_V_letter_128 : decode m_V_letter.2.1 128 = .ok (.invokestatic 61, 3) := by decide +kernel
theorem d_V_letter_131 : decode m_V_letter.2.1 131 = .ok (.putfield 102, 3) := by decide +kernel
theorem d_V_letter_134 : decode m_V_letter.2.1 134 = .ok (.iload 6, 2) := by decide +kernel
theorem d_V_letter_136 : decode m_V_letter.2.1 136 = .ok (.ireturn, 1) := by decide +kernel
theorem d_V_say_0 : decode m_V_say.2.1 0 = .ok (.iload_n 1, 1) := by decide +kernel
theorem d_V_say_1 : decode m_V_say.2.1 1 = .ok (.bipush 33, 2) := by decide +kernel
theorem d_V_say_3 : decode m_V_say.2.1 3 = .ok (.bipush 126, 2) := by decide +kernel
theorem d_V_say_5 : decode m_V_say.2.1 5 = .ok (.invokestatic 50, 3) := by decide +kernel
theorem d_V_say_8 : decode m_V_say.2.1 8 = .ok (.ifCond .ne 6, 3) := by decide +kernel
theorem d_V_say_11 : decode m_V_say.2.1 11 = .ok (.bipush (-2), 2) := by decide +kernel
theorem d_V_say_13 : decode m_V_say.2.1 13 = .ok (.ireturn, 1) := by decide +kernel
theorem d_V_say_14 : decode m_V_say.2.1 14 = .ok (.aload_n 0, 1) := by decide +kernel
theorem d_V_say_15 : decode m_V_say.2.1 15 = .ok (.getfield 28, 3) := by decide +kernel
theorem d_V_say_18 : decode m_V_say.2.1 18 = .ok (.iload_n 1, 1) := by decide +kernel
theorem d_V_say_19 : decode m_V_say.2.1 19 = .ok (.invokevirtual 105, 3) := by decide +kernel
theorem d_V_say_22 : decode m_V_say.2.1 22 = .ok (.ifCond .eq 13, 3) := by decide +kernel
theorem d_V_say_25 : decode m_V_say.2.1 25 = .ok (.aload_n 0, 1) := by decide +kernel
theorem d_V_say_26 : decode m_V_say.2.1 26 = .ok (.getfield 28, 3) := by decide +kernel
theorem d_V_say_29 : decode m_V_say.2.1 29 = .ok (.getfield 109, 3) := by decide +kernel
theorem d_V_say_32 : decode m_V_say.2.1 32 = .ok (.goto 5, 3) := by decide +kernel
theorem d_V_say_35 : decode m_V_say.2.1 35 = .ok (.bipush (-4), 2) := by decide +kernel
theorem d_V_say_37 : decode m_V_say.2.1 37 = .ok (.ireturn, 1) := by decide +kernel
theorem d_V_wipe_0 : decode m_V_wipe.2.1 0 = .ok (.aload_n 0, 1) := by decide +kernel
theorem d_V_wipe_1 : decode m_V_wipe.2.1 1 = .ok (.getfield 28, 3) := by decide +kernel
theorem d_V_wipe_4 : decode m_V_wipe.2.1 4 = .ok (.invokevirtual 112, 3) := by decide +kernel
theorem d_V_wipe_7 : decode m_V_wipe.2.1 7 = .ok (.ireturn, 1) := by decide +kernel
theorem d_V_fault_0 : decode m_V_fault.2.1 0 = .ok (.aload_n 0, 1) := by decide +kernel
theorem d_V_fault_1 : decode m_V_fault.2.1 1 = .ok (.getfield 28, 3) := by decide +kernel
theorem d_V_fault_4 : decode m_V_fault.2.1 4 = .ok (.invokevirtual 116, 3) := by decide +kernel
theorem d_V_fault_7 : decode m_V_fault.2.1 7 = .ok (.ireturn, 1) := by decide +kernel
theorem d_V_judge_0 : decode m_V_judge.2.1 0 = .ok (.iload_n 1, 1) := by decide +kernel
theorem d_V_judge_1 : decode m_V_judge.2.1 1 = .ok (.iconst 0, 1) := by decide +kernel
theorem d_V_judge_2 : decode m_V_judge.2.1 2 = .ok (.iconst 1, 1) := by decide +kernel
theorem d_V_judge_3 : decode m_V_judge.2.1 3 = .ok (.invokestatic 50, 3) := by decide +kernel
theorem d_V_judge_6 : decode m_V_judge.2.1 6 = .ok (.ifCond .ne 6, 3) := by decide +kernel
theorem d_V_judge_9 : decode m_V_judge.2.1 9 = .ok (.bipush (-2), 2) := by decide +kernel
theorem d_V_judge_11 : decode m_V_judge.2.1 11 = .ok (.ireturn, 1) := by decide +kernel
theorem d_V_judge_12 : decode m_V_judge.2.1 12 = .ok (.aload_n 0, 1) := by decide +kernel
theorem d_V_judge_13 : decode m_V_judge.2.1 13 = .ok (.getfield 28, 3) := by decide +kernel
theorem d_V_judge_16 : decode m_V_judge.2.1 16 = .ok (.invokevirtual 116, 3) := by decide +kernel
theorem d_V_judge_19 : decode m_V_judge.2.1 19 = .ok (.bipush (-6), 2) := by decide +kernel
theorem d_V_judge_21 : decode m_V_judge.2.1 21 = .ok (.if_icmp .eq 6, 3) := by decide +kernel
theorem d_V_judge_24 : decode m_V_judge.2.1 24 = .ok (.bipush (-5), 2) := by decide +kernel
theorem d_V_judge_26 : decode m_V_judge.2.1 26 = .ok (.ireturn, 1) := by decide +kernel
theorem d_V_judge_27 : decode m_V_judge.2.1 27 = .ok (.aload_n 0, 1) := by decide +kernel
theorem d_V_judge_28 : decode m_V_judge.2.1 28 = .ok (.getfield 28, 3) := by decide +kernel
theorem d_V_judge_31 : decode m_V_judge.2.1 31 = .ok (.aload_n 0, 1) := by decide +kernel
theorem d_V_judge_32 : decode m_V_judge.2.1 32 = .ok (.getfield 10, 3) := by decide +kernel
theorem d_V_judge_35 : decode m_V_judge.2.1 35 = .ok (.aload_n 0, 1) := by decide +kernel
theorem d_V_judge_36 : decode m_V_judge.2.1 36 = .ok (.getfield 22, 3) := by decide +kernel
theorem d_V_judge_39 : decode m_V_judge.2.1 39 = .ok (.invokevirtual 119, 3) := by decide +kernel
theorem d_V_judge_42 : decode m_V_judge.2.1 42 = .ok (.pop, 1) := by decide +kernel
theorem d_V_judge_43 : decode m_V_judge.2.1 43 = .ok (.iload_n 1, 1) := by decide +kernel
theorem d_V_judge_44 : decode m_V_judge.2.1 44 = .ok (.ifCond .ne 13, 3) := by decide +kernel
theorem d_V_judge_47 : decode m_V_judge.2.1 47 = .ok (.aload_n 0, 1) := by decide +kernel
theorem d_V_judge_48 : decode m_V_judge.2.1 48 = .ok (.getfield 28, 3) := by decide +kernel
theorem d_V_judge_51 : decode m_V_judge.2.1 51 = .ok (.getfield 123, 3) := by decide +kernel
theorem d_V_judge_54 : decode m_V_judge.2.1 54 = .ok (.goto 10, 3) := by decide +kernel
theorem d_V_judge_57 : decode m_V_judge.2.1 57 = .ok (.aload_n 0, 1) := by decide +kernel
theorem d_V_judge_58 : decode m_V_judge.2.1 58 = .ok (.getfield 28, 3) := by decide +kernel
theorem d_V_judge_61 : decode m_V_judge.2.1 61 = .ok (.getfield 126, 3) := by decide +kernel
theorem d_V_judge_64 : decode m_V_judge.2.1 64 = .ok (.ireturn, 1) := by decide +kernel
theorem d_V_done_0 : decode m_V_done.2.1 0 = .ok (.aload_n 0, 1) := by decide +kernel
theorem d_V_done_1 : decode m_V_done.2.1 1 = .ok (.getfield 28, 3) := by decide +kernel
theorem d_V_done_4 : decode m_V_done.2.1 4 = .ok (.aload_n 0, 1) := by decide +kernel
theorem d_V_done_5 : decode m_V_done.2.1 5 = .ok (.getfield 10, 3) := by decide +kernel
theorem d_V_done_8 : decode m_V_done.2.1 8 = .ok (.aload_n 0, 1) := by decide +kernel
theorem d_V_done_9 : decode m_V_done.2.1 9 = .ok (.getfield 22, 3) := by decide +kernel
theorem d_V_done_12 : decode m_V_done.2.1 12 = .ok (.invokevirtual 119, 3) := by decide +kernel
theorem d_V_done_15 : decode m_V_done.2.1 15 = .ok (.ifCond .ne 6, 3) := by decide +kernel
theorem d_V_done_18 : decode m_V_done.2.1 18 = .ok (.bipush (-5), 2) := by decide +kernel
theorem d_V_done_20 : decode m_V_done.2.1 20 = .ok (.ireturn, 1) := by decide +kernel
theorem d_V_done_21 : decode m_V_done.2.1 21 = .ok (.aload_n 0, 1) := by decide +kernel
theorem d_V_done_22 : decode m_V_done.2.1 22 = .ok (.getfield 10, 3) := by decide +kernel
theorem d_V_done_25 : decode m_V_done.2.1 25 = .ok (.aload_n 0, 1) := by decide +kernel
theorem d_V_done_26 : decode m_V_done.2.1 26 = .ok (.getfield 22, 3) := by decide +kernel
theorem d_V_done_29 : decode m_V_done.2.1 29 = .ok (.invokevirtual 129, 3) := by decide +kernel
theorem d_V_done_32 : decode m_V_done.2.1 32 = .ok (.aload_n 0, 1) := by decide +kernel
theorem d_V_done_33 : decode m_V_done.2.1 33 = .ok (.getfield 28, 3) := by decide +kernel
theorem d_V_done_36 : decode m_V_done.2.1 36 = .ok (.invokevirtual 112, 3) := by decide +kernel
theorem d_V_done_39 : decode m_V_done.2.1 39 = .ok (.pop, 1) := by decide +kernel
theorem d_V_done_40 : decode m_V_done.2.1 40 = .ok (.aload_n 0, 1) := by decide +kernel
theorem d_V_done_41 : decode m_V_done.2.1 41 = .ok (.getfield 28, 3) := by decide +kernel
theorem d_V_done_44 : decode m_V_done.2.1 44 = .ok (.getfield 133, 3) := by decide +kernel
theorem d_V_done_47 : decode m_V_done.2.1 47 = .ok (.ireturn, 1) := by decide +kernel
theorem d_V_knows_0 : decode m_V_knows.2.1 0 = .ok (.iload_n 1, 1) := by decide +kernel
theorem d_V_knows_1 : decode m_V_knows.2.1 1 = .ok (.iconst 0, 1) := by decide +kernel
theorem d_V_knows_2 : decode m_V_knows.2.1 2 = .ok (.bipush 11, 2) := by decide +kernel
theorem d_V_knows_4 : decode m_V_knows.2.1 4 = .ok (.invokestatic 50, 3) := by decide +kernel
theorem d_V_knows_7 : decode m_V_knows.2.1 7 = .ok (.ifCond .ne 5, 3) := by decide +kernel
theorem d_V_knows_10 : decode m_V_knows.2.1 10 = .ok (.iconst (-1), 1) := by decide +kernel
theorem d_V_knows_11 : decode m_V_knows.2.1 11 = .ok (.ireturn, 1) := by decide +kernel
theorem d_V_knows_12 : decode m_V_knows.2.1 12 = .ok (.aload_n 0, 1) := by decide +kernel
theorem d_V_knows_13 : decode m_V_knows.2.1 13 = .ok (.getfield 28, 3) := by decide +kernel
theorem d_V_knows_16 : decode m_V_knows.2.1 16 = .ok (.aload_n 0, 1) := by decide +kernel
theorem d_V_knows_17 : decode m_V_knows.2.1 17 = .ok (.getfield 10, 3) := by decide +kernel
theorem d_V_knows_20 : decode m_V_knows.2.1 20 = .ok (.aload_n 0, 1) := by decide +kernel
theorem d_V_knows_21 : decode m_V_knows.2.1 21 = .ok (.getfield 22, 3) := by decide +kernel
theorem d_V_knows_24 : decode m_V_knows.2.1 24 = .ok (.invokevirtual 119, 3) := by decide +kernel
theorem d_V_knows_27 : decode m_V_knows.2.1 27 = .ok (.ifCond .ne 6, 3) := by decide +kernel
theorem d_V_knows_30 : decode m_V_knows.2.1 30 = .ok (.bipush (-5), 2) := by decide +kernel
theorem d_V_knows_32 : decode m_V_knows.2.1 32 = .ok (.ireturn, 1) := by decide +kernel
theorem d_V_knows_33 : decode m_V_knows.2.1 33 = .ok (.aload_n 0, 1) := by decide +kernel
theorem d_V_knows_34 : decode m_V_knows.2.1 34 = .ok (.getfield 22, 3) := by decide +kernel
theorem d_V_knows_37 : decode m_V_knows.2.1 37 = .ok (.getfield 54, 3) := by decide +kernel
theorem d_V_knows_40 : decode m_V_knows.2.1 40 = .ok (.iload_n 1, 1) := by decide +kernel
theorem d_V_knows_41 : decode m_V_knows.2.1 41 = .ok (.iaload, 1) := by decide +kernel
theorem d_V_knows_42 : decode m_V_knows.2.1 42 = .ok (.ireturn, 1) := by decide +kernel
theorem d_V_behind_0 : decode m_V_behind.2.1 0 = .ok (.iload_n 1, 1) := by decide +kernel
theorem d_V_behind_1 : decode m_V_behind.2.1 1 = .ok (.iconst 0, 1) := by decide +kernel
theorem d_V_behind_2 : decode m_V_behind.2.1 2 = .ok (.iconst 3, 1) := by decide +kernel
theorem d_V_behind_3 : decode m_V_behind.2.1 3 = .ok (.invokestatic 50, 3) := by decide +kernel
theorem d_V_behind_6 : decode m_V_behind.2.1 6 = .ok (.ifCond .ne 6, 3) := by decide +kernel
theorem d_V_behind_9 : decode m_V_behind.2.1 9 = .ok (.bipush (-2), 2) := by decide +kernel
theorem d_V_behind_11 : decode m_V_behind.2.1 11 = .ok (.ireturn, 1) := by decide +kernel
theorem d_V_behind_12 : decode m_V_behind.2.1 12 = .ok (.aload_n 0, 1) := by decide +kernel
theorem d_V_behind_13 : decode m_V_behind.2.1 13 = .ok (.getfield 28, 3) := by decide +kernel
theorem d_V_behind_16 : decode m_V_behind.2.1 16 = .ok (.aload_n 0, 1) := by decide +kernel
theorem d_V_behind_17 : decode m_V_behind.2.1 17 = .ok (.getfield 10, 3) := by decide +kernel
theorem d_V_behind_20 : decode m_V_behind.2.1 20 = .ok (.aload_n 0, 1) := by decide +kernel
theorem d_V_behind_21 : decode m_V_behind.2.1 21 = .ok (.getfield 22, 3) := by decide +kernel
theorem d_V_behind_24 : decode m_V_behind.2.1 24 = .ok (.invokevirtual 119, 3) := by decide +kernel
theorem d_V_behind_27 : decode m_V_behind.2.1 27 = .ok (.ifCond .ne 6, 3) := by decide +kernel
theorem d_V_behind_30 : decode m_V_behind.2.1 30 = .ok (.bipush (-5), 2) := by decide +kernel
theorem d_V_behind_32 : decode m_V_behind.2.1 32 = .ok (.ireturn, 1) := by decide +kernel
theorem d_V_behind_33 : decode m_V_behind.2.1 33 = .ok (.iload_n 1, 1) := by decide +kernel
theorem d_V_behind_34 : decode m_V_behind.2.1 34 = .ok (.ifCond .ne 11, 3) := by decide +kernel
theorem d_V_behind_37 : decode m_V_behind.2.1 37 = .ok (.aload_n 0, 1) := by decide +kernel
theorem d_V_behind_38 : decode m_V_behind.2.1 38 = .ok (.getfield 22, 3) := by decide +kernel
theorem d_V_behind_41 : decode m_V_behind.2.1 41 = .ok (.getfield 87, 3) := by decide +kernel
theorem d_V_behind_44 : decode m_V_behind.2.1 44 = .ok (.ireturn, 1) := by decide +kernel
theorem d_V_behind_45 : decode m_V_behind.2.1 45 = .ok (.iload_n 1, 1) := by decide +kernel
theorem d_V_behind_46 : decode m_V_behind.2.1 46 = .ok (.iconst 1, 1) := by decide +kernel
theorem d_V_behind_47 : decode m_V_behind.2.1 47 = .ok (.if_icmp .ne 11, 3) := by decide +kernel
theorem d_V_behind_50 : decode m_V_behind.2.1 50 = .ok (.aload_n 0, 1) := by decide +kernel
theorem d_V_behind_51 : decode m_V_behind.2.1 51 = .ok (.getfield 22, 3) := by decide +kernel
theorem d_V_behind_54 : decode m_V_behind.2.1 54 = .ok (.getfield 136, 3) := by decide +kernel
theorem d_V_behind_57 : decode m_V_behind.2.1 57 = .ok (.ireturn, 1) := by decide +kernel
theorem d_V_behind_58 : decode m_V_behind.2.1 58 = .ok (.iload_n 1, 1) := by decide +kernel
theorem d_V_behind_59 : decode m_V_behind.2.1 59 = .ok (.iconst 2, 1) := by decide +kernel
theorem d_V_behind_60 : decode m_V_behind.2.1 60 = .ok (.if_icmp .ne 11, 3) := by decide +kernel
theorem d_V_behind_63 : decode m_V_behind.2.1 63 = .ok (.aload_n 0, 1) := by decide +kernel
theorem d_V_behind_64 : decode m_V_behind.2.1 64 = .ok (.getfield 22, 3) := by decide +kernel
theorem d_V_behind_67 : decode m_V_behind.2.1 67 = .ok (.getfield 102, 3) := by decide +kernel
theorem d_V_behind_70 : decode m_V_behind.2.1 70 = .ok (.ireturn, 1) := by decide +kernel
theorem d_V_behind_71 : decode m_V_behind.2.1 71 = .ok (.aload_n 0, 1) := by decide +kernel
theorem d_V_behind_72 : decode m_V_behind.2.1 72 = .ok (.getfield 28, 3) := by decide +kernel
theorem d_V_behind_75 : decode m_V_behind.2.1 75 = .ok (.getfield 139, 3) := by decide +kernel
theorem d_V_behind_78 : decode m_V_behind.2.1 78 = .ok (.ireturn, 1) := by decide +kernel
theorem d_V_who_0 : decode m_V_who.2.1 0 = .ok (.iload_n 1, 1) := by decide +kernel
theorem d_V_who_1 : decode m_V_who.2.1 1 = .ok (.iconst 0, 1) := by decide +kernel
theorem d_V_who_2 : decode m_V_who.2.1 2 = .ok (.bipush 7, 2) := by decide +kernel
theorem d_V_who_4 : decode m_V_who.2.1 4 = .ok (.invokestatic 50, 3) := by decide +kernel
theorem d_V_who_7 : decode m_V_who.2.1 7 = .ok (.ifCond .ne 5, 3) := by decide +kernel
theorem d_V_who_10 : decode m_V_who.2.1 10 = .ok (.iconst (-1), 1) := by decide +kernel
theorem d_V_who_11 : decode m_V_who.2.1 11 = .ok (.ireturn, 1) := by decide +kernel
theorem d_V_who_12 : decode m_V_who.2.1 12 = .ok (.iconst 0, 1) := by decide +kernel
theorem d_V_who_13 : decode m_V_who.2.1 13 = .ok (.istore_n 2, 1) := by decide +kernel
theorem d_V_who_14 : decode m_V_who.2.1 14 = .ok (.iconst 0, 1) := by decide +kernel
theorem d_V_who_15 : decode m_V_who.2.1 15 = .ok (.istore_n 3, 1) := by decide +kernel
theorem d_V_who_16 : decode m_V_who.2.1 16 = .ok (.iload_n 3, 1) := by decide +kernel
theorem d_V_who_17 : decode m_V_who.2.1 17 = .ok (.bipush 12, 2) := by decide +kernel
theorem d_V_who_19 : decode m_V_who.2.1 19 = .ok (.if_icmp .ge 31, 3) := by decide +kernel
theorem d_V_who_22 : decode m_V_who.2.1 22 = .ok (.aload_n 0, 1) := by decide +kernel
theorem d_V_who_23 : decode m_V_who.2.1 23 = .ok (.getfield 10, 3) := by decide +kernel
theorem d_V_who_26 : decode m_V_who.2.1 26 = .ok (.getfield 54, 3) := by decide +kernel
theorem d_V_who_29 : decode m_V_who.2.1 29 = .ok (.iload_n 3, 1) := by decide +kernel
theorem d_V_who_30 : decode m_V_who.2.1 30 = .ok (.iaload, 1) := by decide +kernel
theorem d_V_who_31 : decode m_V_who.2.1 31 = .ok (.iload_n 1, 1) := by decide +kernel
theorem d_V_who_32 : decode m_V_who.2.1 32 = .ok (.invokestatic 142, 3) := by decide +kernel
theorem d_V_who_35 : decode m_V_who.2.1 35 = .ok (.ifCond .eq 9, 3) := by decide +kernel
theorem d_V_who_38 : decode m_V_who.2.1 38 = .ok (.iload_n 2, 1) := by decide +kernel
theorem d_V_who_39 : decode m_V_who.2.1 39 = .ok (.iconst 1, 1) := by decide +kernel
theorem d_V_who_40 : decode m_V_who.2.1 40 = .ok (.iload_n 3, 1) := by decide +kernel
theorem d_V_who_41 : decode m_V_who.2.1 41 = .ok (.ishl, 1) := by decide +kernel
theorem d_V_who_42 : decode m_V_who.2.1 42 = .ok (.ior, 1) := by decide +kernel
theorem d_V_who_43 : decode m_V_who.2.1 43 = .ok (.istore_n 2, 1) := by decide +kernel
theorem d_V_who_44 : decode m_V_who.2.1 44 = .ok (.iinc 3 1, 3) := by decide +kernel
theorem d_V_who_47 : decode m_V_who.2.1 47 = .ok (.goto (-31), 3) := by decide +kernel
theorem d_V_who_50 : decode m_V_who.2.1 50 = .ok (.iload_n 2, 1) := by decide +kernel
theorem d_V_who_51 : decode m_V_who.2.1 51 = .ok (.ireturn, 1) := by decide +kernel
theorem d_V_loud_0 : decode m_V_loud.2.1 0 = .ok (.iload_n 1, 1) := by decide +kernel
theorem d_V_loud_1 : decode m_V_loud.2.1 1 = .ok (.iconst 0, 1) := by decide +kernel
theorem d_V_loud_2 : decode m_V_loud.2.1 2 = .ok (.bipush 11, 2) := by decide +kernel
theorem d_V_loud_4 : decode m_V_loud.2.1 4 = .ok (.invokestatic 50, 3) := by decide +kernel
theorem d_V_loud_7 : decode m_V_loud.2.1 7 = .ok (.ifCond .eq 13, 3) := by decide +kernel
theorem d_V_loud_10 : decode m_V_loud.2.1 10 = .ok (.iload_n 2, 1) := by decide +kernel
theorem d_V_loud_11 : decode m_V_loud.2.1 11 = .ok (.iconst 0, 1) := by decide +kernel
theorem d_V_loud_12 : decode m_V_loud.2.1 12 = .ok (.bipush 11, 2) := by decide +kernel
theorem d_V_loud_14 : decode m_V_loud.2.1 14 = .ok (.invokestatic 50, 3) := by decide +kernel
theorem d_V_loud_17 : decode m_V_loud.2.1 17 = .ok (.ifCond .ne 5, 3) := by decide +kernel
theorem d_V_loud_20 : decode m_V_loud.2.1 20 = .ok (.iconst (-1), 1) := by decide +kernel
theorem d_V_loud_21 : decode m_V_loud.2.1 21 = .ok (.ireturn, 1) := by decide +kernel
theorem d_V_loud_22 : decode m_V_loud.2.1 22 = .ok (.aload_n 0, 1) := by decide +kernel
theorem d_V_loud_23 : decode m_V_loud.2.1 23 = .ok (.getfield 10, 3) := by decide +kernel
theorem d_V_loud_26 : decode m_V_loud.2.1 26 = .ok (.iload_n 1, 1) := by decide +kernel
theorem d_V_loud_27 : decode m_V_loud.2.1 27 = .ok (.iload_n 2, 1) := by decide +kernel
theorem d_V_loud_28 : decode m_V_loud.2.1 28 = .ok (.invokevirtual 146, 3) := by decide +kernel
theorem d_V_loud_31 : decode m_V_loud.2.1 31 = .ok (.ireturn, 1) := by decide +kernel
theorem d_V_hears_0 : decode m_V_hears.2.1 0 = .ok (.iload_n 1, 1) := by decide +kernel
theorem d_V_hears_1 : decode m_V_hears.2.1 1 = .ok (.iconst 0, 1) := by decide +kernel
theorem d_V_hears_2 : decode m_V_hears.2.1 2 = .ok (.bipush 11, 2) := by decide +kernel
theorem d_V_hears_4 : decode m_V_hears.2.1 4 = .ok (.invokestatic 50, 3) := by decide +kernel
theorem d_V_hears_7 : decode m_V_hears.2.1 7 = .ok (.ifCond .ne 5, 3) := by decide +kernel
theorem d_V_hears_10 : decode m_V_hears.2.1 10 = .ok (.iconst (-1), 1) := by decide +kernel
theorem d_V_hears_11 : decode m_V_hears.2.1 11 = .ok (.ireturn, 1) := by decide +kernel
theorem d_V_hears_12 : decode m_V_hears.2.1 12 = .ok (.aload_n 0, 1) := by decide +kernel
theorem d_V_hears_13 : decode m_V_hears.2.1 13 = .ok (.getfield 10, 3) := by decide +kernel
theorem d_V_hears_16 : decode m_V_hears.2.1 16 = .ok (.iload_n 1, 1) := by decide +kernel
theorem d_V_hears_17 : decode m_V_hears.2.1 17 = .ok (.aload_n 0, 1) := by decide +kernel
theorem d_V_hears_18 : decode m_V_hears.2.1 18 = .ok (.getfield 10, 3) := by decide +kernel
theorem d_V_hears_21 : decode m_V_hears.2.1 21 = .ok (.getfield 58, 3) := by decide +kernel
theorem d_V_hears_24 : decode m_V_hears.2.1 24 = .ok (.invokevirtual 150, 3) := by decide +kernel
theorem d_V_hears_27 : decode m_V_hears.2.1 27 = .ok (.ireturn, 1) := by decide +kernel
theorem d_V_best_0 : decode m_V_best.2.1 0 = .ok (.iload_n 1, 1) := by decide +kernel
theorem d_V_best_1 : decode m_V_best.2.1 1 = .ok (.iconst 0, 1) := by decide +kernel
theorem d_V_best_2 : decode m_V_best.2.1 2 = .ok (.iconst 5, 1) := by decide +kernel
theorem d_V_best_3 : decode m_V_best.2.1 3 = .ok (.invokestatic 50, 3) := by decide +kernel
theorem d_V_best_6 : decode m_V_best.2.1 6 = .ok (.ifCond .ne 5, 3) := by decide +kernel
theorem d_V_best_9 : decode m_V_best.2.1 9 = .ok (.iconst (-1), 1) := by decide +kernel
theorem d_V_best_10 : decode m_V_best.2.1 10 = .ok (.ireturn, 1) := by decide +kernel
theorem d_V_best_11 : decode m_V_best.2.1 11 = .ok (.iload_n 2, 1) := by decide +kernel
theorem d_V_best_12 : decode m_V_best.2.1 12 = .ok (.iconst 0, 1) := by decide +kernel
theorem d_V_best_13 : decode m_V_best.2.1 13 = .ok (.iconst 1, 1) := by decide +kernel
theorem d_V_best_14 : decode m_V_best.2.1 14 = .ok (.invokestatic 50, 3) := by decide +kernel
theorem d_V_best_17 : decode m_V_best.2.1 17 = .ok (.ifCond .ne 6, 3) := by decide +kernel
theorem d_V_best_20 : decode m_V_best.2.1 20 = .ok (.bipush (-2), 2) := by decide +kernel
theorem d_V_best_22 : decode m_V_best.2.1 22 = .ok (.ireturn, 1) := by decide +kernel
theorem d_V_best_23 : decode m_V_best.2.1 23 = .ok (.aload_n 0, 1) := by decide +kernel
theorem d_V_best_24 : decode m_V_best.2.1 24 = .ok (.getfield 35, 3) := by decide +kernel
theorem d_V_best_27 : decode m_V_best.2.1 27 = .ok (.aload_n 0, 1) := by decide +kernel
theorem d_V_best_28 : decode m_V_best.2.1 28 = .ok (.getfield 10, 3) := by decide +kernel
theorem d_V_best_31 : decode m_V_best.2.1 31 = .ok (.invokevirtual 153, 3) := by decide +kernel
theorem d_V_best_34 : decode m_V_best.2.1 34 = .ok (.aload_n 0, 1) := by decide +kernel
theorem d_V_best_35 : decode m_V_best.2.1 35 = .ok (.getfield 35, 3) := by decide +kernel
theorem d_V_best_38 : decode m_V_best.2.1 38 = .ok (.aload_n 0, 1) := by decide +kernel
theorem d_V_best_39 : decode m_V_best.2.1 39 = .ok (.getfield 10, 3) := by decide +kernel
theorem d_V_best_42 : decode m_V_best.2.1 42 = .ok (.getfield 90, 3) := by decide +kernel
theorem d_V_best_45 : decode m_V_best.2.1 45 = .ok (.iload_n 1, 1) := by decide +kernel
theorem d_V_best_46 : decode m_V_best.2.1 46 = .ok (.iaload, 1) := by decide +kernel
theorem d_V_best_47 : decode m_V_best.2.1 47 = .ok (.iload_n 2, 1) := by decide +kernel
theorem d_V_best_48 : decode m_V_best.2.1 48 = .ok (.ifCond .ne 7, 3) := by decide +kernel
theorem d_V_best_51 : decode m_V_best.2.1 51 = .ok (.iconst 1, 1) := by decide +kernel
theorem d_V_best_52 : decode m_V_best.2.1 52 = .ok (.goto 4, 3) := by decide +kernel
theorem d_V_best_55 : decode m_V_best.2.1 55 = .ok (.iconst 0, 1) := by decide +kernel
theorem d_V_best_56 : decode m_V_best.2.1 56 = .ok (.invokevirtual 156, 3) := by decide +kernel
theorem d_V_best_59 : decode m_V_best.2.1 59 = .ok (.ireturn, 1) := by decide +kernel
theorem d_V_thirds_0 : decode m_V_thirds.2.1 0 = .ok (.iload_n 1, 1) := by decide +kernel
theorem d_V_thirds_1 : decode m_V_thirds.2.1 1 = .ok (.iconst 0, 1) := by decide +kernel
theorem d_V_thirds_2 : decode m_V_thirds.2.1 2 = .ok (.bipush 11, 2) := by decide +kernel
theorem d_V_thirds_4 : decode m_V_thirds.2.1 4 = .ok (.invokestatic 50, 3) := by decide +kernel
theorem d_V_thirds_7 : decode m_V_thirds.2.1 7 = .ok (.ifCond .ne 5, 3) := by decide +kernel
theorem d_V_thirds_10 : decode m_V_thirds.2.1 10 = .ok (.iconst (-1), 1) := by decide +kernel
theorem d_V_thirds_11 : decode m_V_thirds.2.1 11 = .ok (.ireturn, 1) := by decide +kernel
theorem d_V_thirds_12 : decode m_V_thirds.2.1 12 = .ok (.iload_n 2, 1) := by decide +kernel
theorem d_V_thirds_13 : decode m_V_thirds.2.1 13 = .ok (.iconst 0, 1) := by decide +kernel
theorem d_V_thirds_14 : decode m_V_thirds.2.1 14 = .ok (.iconst 1, 1) := by decide +kernel
theorem d_V_thirds_15 : decode m_V_thirds.2.1 15 = .ok (.invokestatic 50, 3) := by decide +kernel
theorem d_V_thirds_18 : decode m_V_thirds.2.1 18 = .ok (.ifCond .ne 6, 3) := by decide +kernel
theorem d_V_thirds_21 : decode m_V_thirds.2.1 21 = .ok (.bipush (-2), 2) := by decide +kernel
theorem d_V_thirds_23 : decode m_V_thirds.2.1 23 = .ok (.ireturn, 1) := by decide +kernel
theorem d_V_thirds_24 : decode m_V_thirds.2.1 24 = .ok (.aload_n 0, 1) := by decide +kernel
theorem d_V_thirds_25 : decode m_V_thirds.2.1 25 = .ok (.getfield 35, 3) := by decide +kernel
theorem d_V_thirds_28 : decode m_V_thirds.2.1 28 = .ok (.aload_n 0, 1) := by decide +kernel
theorem d_V_thirds_29 : decode m_V_thirds.2.1 29 = .ok (.getfield 10, 3) := by decide +kernel
theorem d_V_thirds_32 : decode m_V_thirds.2.1 32 = .ok (.invokevirtual 153, 3) := by decide +kernel
theorem d_V_thirds_35 : decode m_V_thirds.2.1 35 = .ok (.aload_n 0, 1) := by decide +kernel
theorem d_V_thirds_36 : decode m_V_thirds.2.1 36 = .ok (.getfield 35, 3) := by decide +kernel
theorem d_V_thirds_39 : decode m_V_thirds.2.1 39 = .ok (.iload_n 1, 1) := by decide +kernel
theorem d_V_thirds_40 : decode m_V_thirds.2.1 40 = .ok (.iload_n 2, 1) := by decide +kernel
theorem d_V_thirds_41 : decode m_V_thirds.2.1 41 = .ok (.ifCond .ne 7, 3) := by decide +kernel
theorem d_V_thirds_44 : decode m_V_thirds.2.1 44 = .ok (.iconst 1, 1) := by decide +kernel
theorem d_V_thirds_45 : decode m_V_thirds.2.1 45 = .ok (.goto 4, 3) := by decide +kernel
theorem d_V_thirds_48 : decode m_V_thirds.2.1 48 = .ok (.iconst 0, 1) := by decide +kernel
theorem d_V_thirds_49 : decode m_V_thirds.2.1 49 = .ok (.invokevirtual 160, 3) := by decide +kernel
theorem d_V_thirds_52 : decode m_V_thirds.2.1 52 = .ok (.ireturn, 1) := by decide +kernel
theorem d_V_round_0 : decode m_V_round.2.1 0 = .ok (.iload_n 1, 1) := by decide +kernel
theorem d_V_round_1 : decode m_V_round.2.1 1 = .ok (.iconst 0, 1) := by decide +kernel
theorem d_V_round_2 : decode m_V_round.2.1 2 = .ok (.bipush 63, 2) := by decide +kernel
theorem d_V_round_4 : decode m_V_round.2.1 4 = .ok (.invokestatic 50, 3) := by decide +kernel
theorem d_V_round_7 : decode m_V_round.2.1 7 = .ok (.ifCond .ne 5, 3) := by decide +kernel
theorem d_V_round_10 : decode m_V_round.2.1 10 = .ok (.iconst (-1), 1) := by decide +kernel
theorem d_V_round_11 : decode m_V_round.2.1 11 = .ok (.ireturn, 1) := by decide +kernel
theorem d_V_round_12 : decode m_V_round.2.1 12 = .ok (.iload_n 2, 1) := by decide +kernel
theorem d_V_round_13 : decode m_V_round.2.1 13 = .ok (.iconst 0, 1) := by decide +kernel
theorem d_V_round_14 : decode m_V_round.2.1 14 = .ok (.iconst 1, 1) := by decide +kernel
theorem d_V_round_15 : decode m_V_round.2.1 15 = .ok (.invokestatic 50, 3) := by decide +kernel
theorem d_V_round_18 : decode m_V_round.2.1 18 = .ok (.ifCond .ne 6, 3) := by decide +kernel
theorem d_V_round_21 : decode m_V_round.2.1 21 = .ok (.bipush (-2), 2) := by decide +kernel
theorem d_V_round_23 : decode m_V_round.2.1 23 = .ok (.ireturn, 1) := by decide +kernel
theorem d_V_round_24 : decode m_V_round.2.1 24 = .ok (.aload_n 0, 1) := by decide +kernel
theorem d_V_round_25 : decode m_V_round.2.1 25 = .ok (.getfield 35, 3) := by decide +kernel
theorem d_V_round_28 : decode m_V_round.2.1 28 = .ok (.aload_n 0, 1) := by decide +kernel
theorem d_V_round_29 : decode m_V_round.2.1 29 = .ok (.getfield 10, 3) := by decide +kernel
theorem d_V_round_32 : decode m_V_round.2.1 32 = .ok (.invokevirtual 153, 3) := by decide +kernel
theorem d_V_round_35 : decode m_V_round.2.1 35 = .ok (.aload_n 0, 1) := by decide +kernel
theorem d_V_round_36 : decode m_V_round.2.1 36 = .ok (.getfield 35, 3) := by decide +kernel
theorem d_V_round_39 : decode m_V_round.2.1 39 = .ok (.aload_n 0, 1) := by decide +kernel
theorem d_V_round_40 : decode m_V_round.2.1 40 = .ok (.getfield 10, 3) := by decide +kernel
theorem d_V_round_43 : decode m_V_round.2.1 43 = .ok (.iload_n 1, 1) := by decide +kernel
theorem d_V_round_44 : decode m_V_round.2.1 44 = .ok (.iload_n 2, 1) := by decide +kernel
theorem d_V_round_45 : decode m_V_round.2.1 45 = .ok (.ifCond .ne 7, 3) := by decide +kernel
theorem d_V_round_48 : decode m_V_round.2.1 48 = .ok (.iconst 1, 1) := by decide +kernel
theorem d_V_round_49 : decode m_V_round.2.1 49 = .ok (.goto 4, 3) := by decide +kernel
theorem d_V_round_52 : decode m_V_round.2.1 52 = .ok (.iconst 0, 1) := by decide +kernel
theorem d_V_round_53 : decode m_V_round.2.1 53 = .ok (.invokevirtual 163, 3) := by decide +kernel
theorem d_V_round_56 : decode m_V_round.2.1 56 = .ok (.ireturn, 1) := by decide +kernel
theorem d_V_seen_0 : decode m_V_seen.2.1 0 = .ok (.iload_n 1, 1) := by decide +kernel
theorem d_V_seen_1 : decode m_V_seen.2.1 1 = .ok (.iconst 0, 1) := by decide +kernel
theorem d_V_seen_2 : decode m_V_seen.2.1 2 = .ok (.bipush 11, 2) := by decide +kernel
theorem d_V_seen_4 : decode m_V_seen.2.1 4 = .ok (.invokestatic 50, 3) := by decide +kernel
theorem d_V_seen_7 : decode m_V_seen.2.1 7 = .ok (.ifCond .ne 5, 3) := by decide +kernel
theorem d_V_seen_10 : decode m_V_seen.2.1 10 = .ok (.iconst (-1), 1) := by decide +kernel
theorem d_V_seen_11 : decode m_V_seen.2.1 11 = .ok (.ireturn, 1) := by decide +kernel
theorem d_V_seen_12 : decode m_V_seen.2.1 12 = .ok (.aload_n 0, 1) := by decide +kernel
theorem d_V_seen_13 : decode m_V_seen.2.1 13 = .ok (.getfield 10, 3) := by decide +kernel
theorem d_V_seen_16 : decode m_V_seen.2.1 16 = .ok (.getfield 167, 3) := by decide +kernel
theorem d_V_seen_19 : decode m_V_seen.2.1 19 = .ok (.bipush 8, 2) := by decide +kernel
theorem d_V_seen_21 : decode m_V_seen.2.1 21 = .ok (.if_icmp .lt 6, 3) := by decide +kernel
theorem d_V_seen_24 : decode m_V_seen.2.1 24 = .ok (.bipush (-4), 2) := by decide +kernel
theorem d_V_seen_26 : decode m_V_seen.2.1 26 = .ok (.ireturn, 1) := by decide +kernel
theorem d_V_seen_27 : decode m_V_seen.2.1 27 = .ok (.iload_n 2, 1) := by decide +kernel
theorem d_V_seen_28 : decode m_V_seen.2.1 28 = .ok (.ifCond .eq 21, 3) := by decide +kernel
theorem d_V_seen_31 : decode m_V_seen.2.1 31 = .ok (.aload_n 0, 1) := by decide +kernel
theorem d_V_seen_32 : decode m_V_seen.2.1 32 = .ok (.getfield 10, 3) := by decide +kernel
theorem d_V_seen_35 : decode m_V_seen.2.1 35 = .ok (.dup, 1) := by decide +kernel
theorem d_V_seen_36 : decode m_V_seen.2.1 36 = .ok (.getfield 170, 3) := by decide +kernel
theorem d_V_seen_39 : decode m_V_seen.2.1 39 = .ok (.iconst 1, 1) := by decide +kernel
theorem d_V_seen_40 : decode m_V_seen.2.1 40 = .ok (.iload_n 1, 1) := by decide +kernel
theorem d_V_seen_41 : decode m_V_seen.2.1 41 = .ok (.ishl, 1) := by decide +kernel
theorem d_V_seen_42 : decode m_V_seen.2.1 42 = .ok (.ior, 1) := by decide +kernel
theorem d_V_seen_43 : decode m_V_seen.2.1 43 = .ok (.putfield 170, 3) := by decide +kernel
theorem d_V_seen_46 : decode m_V_seen.2.1 46 = .ok (.goto 18, 3) := by decide +kernel
theorem d_V_seen_49 : decode m_V_seen.2.1 49 = .ok (.aload_n 0, 1) := by decide +kernel
theorem d_V_seen_50 : decode m_V_seen.2.1 50 = .ok (.getfield 10, 3) := by decide +kernel
theorem d_V_seen_53 : decode m_V_seen.2.1 53 = .ok (.dup, 1) := by decide +kernel
theorem d_V_seen_54 : decode m_V_seen.2.1 54 = .ok (.getfield 173, 3) := by decide +kernel
theorem d_V_seen_57 : decode m_V_seen.2.1 57 = .ok (.iconst 1, 1) := by decide +kernel
theorem d_V_seen_58 : decode m_V_seen.2.1 58 = .ok (.iload_n 1, 1) := by decide +kernel
theorem d_V_seen_59 : decode m_V_seen.2.1 59 = .ok (.ishl, 1) := by decide +kernel
theorem d_V_seen_60 : decode m_V_seen.2.1 60 = .ok (.ior, 1) := by decide +kernel
theorem d_V_seen_61 : decode m_V_seen.2.1 61 = .ok (.putfield 173, 3) := by decide +kernel
theorem d_V_seen_64 : decode m_V_seen.2.1 64 = .ok (.aload_n 0, 1) := by decide +kernel
theorem d_V_seen_65 : decode m_V_seen.2.1 65 = .ok (.getfield 10, 3) := by decide +kernel
theorem d_V_seen_68 : decode m_V_seen.2.1 68 = .ok (.dup, 1) := by decide +kernel
theorem d_V_seen_69 : decode m_V_seen.2.1 69 = .ok (.getfield 167, 3) := by decide +kernel
theorem d_V_seen_72 : decode m_V_seen.2.1 72 = .ok (.iconst 1, 1) := by decide +kernel
theorem d_V_seen_73 : decode m_V_seen.2.1 73 = .ok (.iadd, 1) := by decide +kernel
theorem d_V_seen_74 : decode m_V_seen.2.1 74 = .ok (.putfield 167, 3) := by decide +kernel
theorem d_V_seen_77 : decode m_V_seen.2.1 77 = .ok (.aload_n 0, 1) := by decide +kernel
theorem d_V_seen_78 : decode m_V_seen.2.1 78 = .ok (.getfield 10, 3) := by decide +kernel
theorem d_V_seen_81 : decode m_V_seen.2.1 81 = .ok (.getfield 167, 3) := by decide +kernel
theorem d_V_seen_84 : decode m_V_seen.2.1 84 = .ok (.ireturn, 1) := by decide +kernel
theorem d_V_forget_0 : decode m_V_forget.2.1 0 = .ok (.aload_n 0, 1) := by decide +kernel
theorem d_V_forget_1 : decode m_V_forget.2.1 1 = .ok (.getfield 10, 3) := by decide +kernel
theorem d_V_forget_4 : decode m_V_forget.2.1 4 = .ok (.getfield 167, 3) := by decide +kernel
theorem d_V_forget_7 : decode m_V_forget.2.1 7 = .ok (.istore_n 1, 1) := by decide +kernel
theorem d_V_forget_8 : decode m_V_forget.2.1 8 = .ok (.aload_n 0, 1) := by decide +kernel
theorem d_V_forget_9 : decode m_V_forget.2.1 9 = .ok (.getfield 10, 3) := by decide +kernel
theorem d_V_forget_12 : decode m_V_forget.2.1 12 = .ok (.iconst 0, 1) := by decide +kernel
theorem d_V_forget_13 : decode m_V_forget.2.1 13 = .ok (.putfield 167, 3) := by decide +kernel
theorem d_V_forget_16 : decode m_V_forget.2.1 16 = .ok (.aload_n 0, 1) := by decide +kernel
theorem d_V_forget_17 : decode m_V_forget.2.1 17 = .ok (.getfield 10, 3) := by decide +kernel
theorem d_V_forget_20 : decode m_V_forget.2.1 20 = .ok (.iconst 0, 1) := by decide +kernel
theorem d_V_forget_21 : decode m_V_forget.2.1 21 = .ok (.putfield 170, 3) := by decide +kernel
theorem d_V_forget_24 : decode m_V_forget.2.1 24 = .ok (.aload_n 0, 1) := by decide +kernel
theorem d_V_forget_25 : decode m_V_forget.2.1 25 = .ok (.getfield 10, 3) := by decide +kernel
theorem d_V_forget_28 : decode m_V_forget.2.1 28 = .ok (.iconst 0, 1) := by decide +kernel
theorem d_V_forget_29 : decode m_V_forget.2.1 29 = .ok (.putfield 173, 3) := by decide +kernel
theorem d_V_forget_32 : decode m_V_forget.2.1 32 = .ok (.iload_n 1, 1) := by decide +kernel
theorem d_V_forget_33 : decode m_V_forget.2.1 33 = .ok (.ireturn, 1) := by decide +kernel
theorem d_V_at_0 : decode m_V_at.2.1 0 = .ok (.aload_n 0, 1) := by decide +kernel
theorem d_V_at_1 : decode m_V_at.2.1 1 = .ok (.getfield 35, 3) := by decide +kernel
theorem d_V_at_4 : decode m_V_at.2.1 4 = .ok (.aload_n 0, 1) := by decide +kernel
theorem d_V_at_5 : decode m_V_at.2.1 5 = .ok (.getfield 10, 3) := by decide +kernel
theorem d_V_at_8 : decode m_V_at.2.1 8 = .ok (.invokevirtual 153, 3) := by decide +kernel
theorem d_V_at_11 : decode m_V_at.2.1 11 = .ok (.aload_n 0, 1) := by decide +kernel
theorem d_V_at_12 : decode m_V_at.2.1 12 = .ok (.getfield 35, 3) := by decide +kernel
theorem d_V_at_15 : decode m_V_at.2.1 15 = .ok (.aload_n 0, 1) := by decide +kernel
theorem d_V_at_16 : decode m_V_at.2.1 16 = .ok (.getfield 10, 3) := by decide +kernel
theorem d_V_at_19 : decode m_V_at.2.1 19 = .ok (.invokevirtual 176, 3) := by decide +kernel
theorem d_V_at_22 : decode m_V_at.2.1 22 = .ok (.ireturn, 1) := by decide +kernel
theorem d_V_ask_0 : decode m_V_ask.2.1 0 = .ok (.iload_n 1, 1) := by decide +kernel
theorem d_V_ask_1 : decode m_V_ask.2.1 1 = .ok (.iconst 0, 1) := by decide +kernel
theorem d_V_ask_2 : decode m_V_ask.2.1 2 = .ok (.iconst 1, 1) := by decide +kernel
theorem d_V_ask_3 : decode m_V_ask.2.1 3 = .ok (.invokestatic 50, 3) := by decide +kernel
theorem d_V_ask_6 : decode m_V_ask.2.1 6 = .ok (.ifCond .ne 6, 3) := by decide +kernel
theorem d_V_ask_9 : decode m_V_ask.2.1 9 = .ok (.bipush (-2), 2) := by decide +kernel
theorem d_V_ask_11 : decode m_V_ask.2.1 11 = .ok (.ireturn, 1) := by decide +kernel
theorem d_V_ask_12 : decode m_V_ask.2.1 12 = .ok (.aload_n 0, 1) := by decide +kernel
theorem d_V_ask_13 : decode m_V_ask.2.1 13 = .ok (.getfield 35, 3) := by decide +kernel
theorem d_V_ask_16 : decode m_V_ask.2.1 16 = .ok (.aload_n 0, 1) := by decide +kernel
theorem d_V_ask_17 : decode m_V_ask.2.1 17 = .ok (.getfield 10, 3) := by decide +kernel
theorem d_V_ask_20 : decode m_V_ask.2.1 20 = .ok (.invokevirtual 153, 3) := by decide +kernel
theorem d_V_ask_23 : decode m_V_ask.2.1 23 = .ok (.aload_n 0, 1) := by decide +kernel
theorem d_V_ask_24 : decode m_V_ask.2.1 24 = .ok (.getfield 35, 3) := by decide +kernel
theorem d_V_ask_27 : decode m_V_ask.2.1 27 = .ok (.aload_n 0, 1) := by decide +kernel
theorem d_V_ask_28 : decode m_V_ask.2.1 28 = .ok (.getfield 10, 3) := by decide +kernel
theorem d_V_ask_31 : decode m_V_ask.2.1 31 = .ok (.invokevirtual 176, 3) := by decide +kernel
theorem d_V_ask_34 : decode m_V_ask.2.1 34 = .ok (.istore_n 2, 1) := by decide +kernel
theorem d_V_ask_35 : decode m_V_ask.2.1 35 = .ok (.iload_n 2, 1) := by decide +kernel
theorem d_V_ask_36 : decode m_V_ask.2.1 36 = .ok (.ifCond .ne 8, 3) := by decide +kernel
theorem d_V_ask_39 : decode m_V_ask.2.1 39 = .ok (.bipush (-6), 2) := by decide +kernel
theorem d_V_ask_41 : decode m_V_ask.2.1 41 = .ok (.goto 20, 3) := by decide +kernel
theorem d_V_ask_44 : decode m_V_ask.2.1 44 = .ok (.aload_n 0, 1) := by decide +kernel
theorem d_V_ask_45 : decode m_V_ask.2.1 45 = .ok (.getfield 35, 3) := by decide +kernel
theorem d_V_ask_48 : decode m_V_ask.2.1 48 = .ok (.iload_n 2, 1) := by decide +kernel
theorem d_V_ask_49 : decode m_V_ask.2.1 49 = .ok (.iload_n 1, 1) := by decide +kernel
theorem d_V_ask_50 : decode m_V_ask.2.1 50 = .ok (.ifCond .ne 7, 3) := by decide +kernel
theorem d_V_ask_53 : decode m_V_ask.2.1 53 = .ok (.iconst 1, 1) := by decide +kernel
theorem d_V_ask_54 : decode m_V_ask.2.1 54 = .ok (.goto 4, 3) := by decide +kernel
theorem d_V_ask_57 : decode m_V_ask.2.1 57 = .ok (.iconst 0, 1) := by decide +kernel
theorem d_V_ask_58 : decode m_V_ask.2.1 58 = .ok (.invokevirtual 180, 3) := by decide +kernel
theorem d_V_ask_61 : decode m_V_ask.2.1 61 = .ok (.ireturn, 1) := by decide +kernel
theorem d_V_rumour_0 : decode m_V_rumour.2.1 0 = .ok (.iload_n 1, 1) := by decide +kernel
theorem d_V_rumour_1 : decode m_V_rumour.2.1 1 = .ok (.iconst 0, 1) := by decide +kernel
theorem d_V_rumour_2 : decode m_V_rumour.2.1 2 = .ok (.bipush 11, 2) := by decide +kernel
theorem d_V_rumour_4 : decode m_V_rumour.2.1 4 = .ok (.invokestatic 50, 3) := by decide +kernel
theorem d_V_rumour_7 : decode m_V_rumour.2.1 7 = .ok (.ifCond .ne 5, 3) := by decide +kernel
theorem d_V_rumour_10 : decode m_V_rumour.2.1 10 = .ok (.iconst (-1), 1) := by decide +kernel
theorem d_V_rumour_11 : decode m_V_rumour.2.1 11 = .ok (.ireturn, 1) := by decide +kernel
theorem d_V_rumour_12 : decode m_V_rumour.2.1 12 = .ok (.iload_n 2, 1) := by decide +kernel
theorem d_V_rumour_13 : decode m_V_rumour.2.1 13 = .ok (.iconst (-1), 1) := by decide +kernel
theorem d_V_rumour_14 : decode m_V_rumour.2.1 14 = .ok (.bipush 20, 2) := by decide +kernel
theorem d_V_rumour_16 : decode m_V_rumour.2.1 16 = .ok (.invokestatic 50, 3) := by decide +kernel
theorem d_V_rumour_19 : decode m_V_rumour.2.1 19 = .ok (.ifCond .ne 6, 3) := by decide +kernel
theorem d_V_rumour_22 : decode m_V_rumour.2.1 22 = .ok (.bipush (-2), 2) := by decide +kernel
theorem d_V_rumour_24 : decode m_V_rumour.2.1 24 = .ok (.ireturn, 1) := by decide +kernel
theorem d_V_rumour_25 : decode m_V_rumour.2.1 25 = .ok (.iload_n 2, 1) := by decide +kernel
theorem d_V_rumour_26 : decode m_V_rumour.2.1 26 = .ok (.iconst (-1), 1) := by decide +kernel
theorem d_V_rumour_27 : decode m_V_rumour.2.1 27 = .ok (.if_icmp .ne 14, 3) := by decide +kernel
theorem d_V_rumour_30 : decode m_V_rumour.2.1 30 = .ok (.aload_n 0, 1) := by decide +kernel
theorem d_V_rumour_31 : decode m_V_rumour.2.1 31 = .ok (.getfield 10, 3) := by decide +kernel
theorem d_V_rumour_34 : decode m_V_rumour.2.1 34 = .ok (.iload_n 1, 1) := by decide +kernel
theorem d_V_rumour_35 : decode m_V_rumour.2.1 35 = .ok (.invokevirtual 183, 3) := by decide +kernel
theorem d_V_rumour_38 : decode m_V_rumour.2.1 38 = .ok (.goto 15, 3) := by decide +kernel
theorem d_V_rumour_41 : decode m_V_rumour.2.1 41 = .ok (.aload_n 0, 1) := by decide +kernel
theorem d_V_rumour_42 : decode m_V_rumour.2.1 42 = .ok (.getfield 10, 3) := by decide +kernel
theorem d_V_rumour_45 : decode m_V_rumour.2.1 45 = .ok (.iload_n 1, 1) := by decide +kernel
theorem d_V_rumour_46 : decode m_V_rumour.2.1 46 = .ok (.iload_n 2, 1) := by decide +kernel
theorem d_V_rumour_47 : decode m_V_rumour.2.1 47 = .ok (.invokevirtual 186, 3) := by decide +kernel
theorem d_V_rumour_50 : decode m_V_rumour.2.1 50 = .ok (.invokestatic 189, 3) := by decide +kernel
theorem d_V_rumour_53 : decode m_V_rumour.2.1 53 = .ok (.ireturn, 1) := by decide +kernel
theorem d_V_chance_0 : decode m_V_chance.2.1 0 = .ok (.iload_n 1, 1) := by decide +kernel
theorem d_V_chance_1 : decode m_V_chance.2.1 1 = .ok (.iconst 0, 1) := by decide +kernel
theorem d_V_chance_2 : decode m_V_chance.2.1 2 = .ok (.bipush 11, 2) := by decide +kernel
theorem d_V_chance_4 : decode m_V_chance.2.1 4 = .ok (.invokestatic 50, 3) := by decide +kernel
theorem d_V_chance_7 : decode m_V_chance.2.1 7 = .ok (.ifCond .ne 7, 3) := by decide +kernel
theorem d_V_chance_10 : decode m_V_chance.2.1 10 = .ok (.ldc2_w 194, 3) := by decide +kernel
theorem d_V_chance_13 : decode m_V_chance.2.1 13 = .ok (.lreturn, 1) := by decide +kernel
theorem d_V_chance_14 : decode m_V_chance.2.1 14 = .ok (.iload_n 2, 1) := by decide +kernel
theorem d_V_chance_15 : decode m_V_chance.2.1 15 = .ok (.iconst 0, 1) := by decide +kernel
theorem d_V_chance_16 : decode m_V_chance.2.1 16 = .ok (.bipush 10, 2) := by decide +kernel
theorem d_V_chance_18 : decode m_V_chance.2.1 18 = .ok (.invokestatic 50, 3) := by decide +kernel
theorem d_V_chance_21 : decode m_V_chance.2.1 21 = .ok (.ifCond .eq 23, 3) := by decide +kernel
theorem d_V_chance_24 : decode m_V_chance.2.1 24 = .ok (.iload_n 3, 1) := by decide +kernel
theorem d_V_chance_25 : decode m_V_chance.2.1 25 = .ok (.iconst (-1), 1) := by decide +kernel
theorem d_V_chance_26 : decode m_V_chance.2.1 26 = .ok (.bipush 11, 2) := by decide +kernel
theorem d_V_chance_28 : decode m_V_chance.2.1 28 = .ok (.invokestatic 50, 3) := by decide +kernel
theorem d_V_chance_31 : decode m_V_chance.2.1 31 = .ok (.ifCond .eq 13, 3) := by decide +kernel
theorem d_V_chance_34 : decode m_V_chance.2.1 34 = .ok (.iload 4, 2) := by decide +kernel
theorem d_V_chance_36 : decode m_V_chance.2.1 36 = .ok (.iconst 0, 1) := by decide +kernel
theorem d_V_chance_37 : decode m_V_chance.2.1 37 = .ok (.iconst 1, 1) := by decide +kernel
theorem d_V_chance_38 : decode m_V_chance.2.1 38 = .ok (.invokestatic 50, 3) := by decide +kernel
theorem d_V_chance_41 : decode m_V_chance.2.1 41 = .ok (.ifCond .ne 7, 3) := by decide +kernel
theorem d_V_chance_44 : decode m_V_chance.2.1 44 = .ok (.ldc2_w 196, 3) := by decide +kernel
theorem d_V_chance_47 : decode m_V_chance.2.1 47 = .ok (.lreturn, 1) := by decide +kernel
theorem d_V_chance_48 : decode m_V_chance.2.1 48 = .ok (.aload_n 0, 1) := by decide +kernel
theorem d_V_chance_49 : decode m_V_chance.2.1 49 = .ok (.getfield 42, 3) := by decide +kernel
theorem d_V_chance_52 : decode m_V_chance.2.1 52 = .ok (.aload_n 0, 1) := by decide +kernel
theorem d_V_chance_53 : decode m_V_chance.2.1 53 = .ok (.getfield 10, 3) := by decide +kernel
theorem d_V_chance_56 : decode m_V_chance.2.1 56 = .ok (.iload_n 1, 1) := by decide +kernel
theorem d_V_chance_57 : decode m_V_chance.2.1 57 = .ok (.invokevirtual 198, 3) := by decide +kernel
theorem d_V_chance_60 : decode m_V_chance.2.1 60 = .ok (.iload_n 3, 1) := by decide +kernel
theorem d_V_chance_61 : decode m_V_chance.2.1 61 = .ok (.iconst (-1), 1) := by decide +kernel
theorem d_V_chance_62 : decode m_V_chance.2.1 62 = .ok (.if_icmp .ne 14, 3) := by decide +kernel
theorem d_V_chance_65 : decode m_V_chance.2.1 65 = .ok (.aload_n 0, 1) := by decide +kernel
theorem d_V_chance_66 : decode m_V_chance.2.1 66 = .ok (.getfield 42, 3) := by decide +kernel
theorem d_V_chance_69 : decode m_V_chance.2.1 69 = .ok (.iload_n 2, 1) := by decide +kernel
theorem d_V_chance_70 : decode m_V_chance.2.1 70 = .ok (.invokevirtual 202, 3) := by decide +kernel
theorem d_V_chance_73 : decode m_V_chance.2.1 73 = .ok (.goto 12, 3) := by decide +kernel
theorem d_V_chance_76 : decode m_V_chance.2.1 76 = .ok (.aload_n 0, 1) := by decide +kernel
theorem d_V_chance_77 : decode m_V_chance.2.1 77 = .ok (.getfield 42, 3) := by decide +kernel
theorem d_V_chance_80 : decode m_V_chance.2.1 80 = .ok (.iload_n 2, 1) := by decide +kernel
theorem d_V_chance_81 : decode m_V_chance.2.1 81 = .ok (.iload_n 3, 1) := by decide +kernel
theorem d_V_chance_82 : decode m_V_chance.2.1 82 = .ok (.invokevirtual 206, 3) := by decide +kernel
theorem d_V_chance_85 : decode m_V_chance.2.1 85 = .ok (.iload 4, 2) := by decide +kernel
theorem d_V_chance_87 : decode m_V_chance.2.1 87 = .ok (.ifCond .ne 13, 3) := by decide +kernel
theorem d_V_chance_90 : decode m_V_chance.2.1 90 = .ok (.aload_n 0, 1) := by decide +kernel
theorem d_V_chance_91 : decode m_V_chance.2.1 91 = .ok (.getfield 42, 3) := by decide +kernel
theorem d_V_chance_94 : decode m_V_chance.2.1 94 = .ok (.getfield 210, 3) := by decide +kernel
theorem d_V_chance_97 : decode m_V_chance.2.1 97 = .ok (.goto 10, 3) := by decide +kernel
theorem d_V_chance_100 : decode m_V_chance.2.1 100 = .ok (.aload_n 0, 1) := by decide +kernel
theorem d_V_chance_101 : decode m_V_chance.2.1 101 = .ok (.getfield 42, 3) := by decide +kernel
theorem d_V_chance_104 : decode m_V_chance.2.1 104 = .ok (.getfield 214, 3) := by decide +kernel
theorem d_V_chance_107 : decode m_V_chance.2.1 107 = .ok (.lreturn, 1) := by decide +kernel
theorem d_V_year_0 : decode m_V_year.2.1 0 = .ok (.iload_n 1, 1) := by decide +kernel
theorem d_V_year_1 : decode m_V_year.2.1 1 = .ok (.iconst 0, 1) := by decide +kernel
theorem d_V_year_2 : decode m_V_year.2.1 2 = .ok (.sipush 9999, 3) := by decide +kernel
theorem d_V_year_5 : decode m_V_year.2.1 5 = .ok (.invokestatic 50, 3) := by decide +kernel
theorem d_V_year_8 : decode m_V_year.2.1 8 = .ok (.ifCond .eq 22, 3) := by decide +kernel
theorem d_V_year_11 : decode m_V_year.2.1 11 = .ok (.iload_n 2, 1) := by decide +kernel
theorem d_V_year_12 : decode m_V_year.2.1 12 = .ok (.iconst 1, 1) := by decide +kernel
theorem d_V_year_13 : decode m_V_year.2.1 13 = .ok (.bipush 99, 2) := by decide +kernel
theorem d_V_year_15 : decode m_V_year.2.1 15 = .ok (.invokestatic 50, 3) := by decide +kernel
theorem d_V_year_18 : decode m_V_year.2.1 18 = .ok (.ifCond .eq 12, 3) := by decide +kernel
theorem d_V_year_21 : decode m_V_year.2.1 21 = .ok (.iload_n 3, 1) := by decide +kernel
theorem d_V_year_22 : decode m_V_year.2.1 22 = .ok (.iconst 0, 1) := by decide +kernel
theorem d_V_year_23 : decode m_V_year.2.1 23 = .ok (.iconst 2, 1) := by decide +kernel
theorem d_V_year_24 : decode m_V_year.2.1 24 = .ok (.invokestatic 50, 3) := by decide +kernel
theorem d_V_year_27 : decode m_V_year.2.1 27 = .ok (.ifCond .ne 6, 3) := by decide +kernel
theorem d_V_year_30 : decode m_V_year.2.1 30 = .ok (.bipush (-2), 2) := by decide +kernel
theorem d_V_year_32 : decode m_V_year.2.1 32 = .ok (.ireturn, 1) := by decide +kernel
theorem d_V_year_33 : decode m_V_year.2.1 33 = .ok (.aload_n 0, 1) := by decide +kernel
theorem d_V_year_34 : decode m_V_year.2.1 34 = .ok (.getfield 22, 3) := by decide +kernel
theorem d_V_year_37 : decode m_V_year.2.1 37 = .ok (.aload_n 0, 1) := by decide +kernel
theorem d_V_year_38 : decode m_V_year.2.1 38 = .ok (.getfield 10, 3) := by decide +kernel
theorem d_V_year_41 : decode m_V_year.2.1 41 = .ok (.invokevirtual 129, 3) := by decide +kernel
theorem d_V_year_44 : decode m_V_year.2.1 44 = .ok (.aload_n 0, 1) := by decide +kernel
theorem d_V_year_45 : decode m_V_year.2.1 45 = .ok (.getfield 22, 3) := by decide +kernel
theorem d_V_year_48 : decode m_V_year.2.1 48 = .ok (.iload_n 1, 1) := by decide +kernel
theorem d_V_year_49 : decode m_V_year.2.1 49 = .ok (.iload_n 2, 1) := by decide +kernel
theorem d_V_year_50 : decode m_V_year.2.1 50 = .ok (.invokevirtual 217, 3) := by decide +kernel
theorem d_V_year_53 : decode m_V_year.2.1 53 = .ok (.iload_n 3, 1) := by decide +kernel
theorem d_V_year_54 : decode m_V_year.2.1 54 = .ok (.ifCond .ne 11, 3) := by decide +kernel
theorem d_V_year_57 : decode m_V_year.2.1 57 = .ok (.aload_n 0, 1) := by decide +kernel
theorem d_V_year_58 : decode m_V_year.2.1 58 = .ok (.getfield 22, 3) := by decide +kernel
theorem d_V_year_61 : decode m_V_year.2.1 61 = .ok (.invokevirtual 220, 3) := by decide +kernel
theorem d_V_year_64 : decode m_V_year.2.1 64 = .ok (.ireturn, 1) := by decide +kernel
theorem d_V_year_65 : decode m_V_year.2.1 65 = .ok (.iload_n 3, 1) := by decide +kernel
theorem d_V_year_66 : decode m_V_year.2.1 66 = .ok (.iconst 1, 1) := by decide +kernel
theorem d_V_year_67 : decode m_V_year.2.1 67 = .ok (.if_icmp .ne 13, 3) := by decide +kernel
theorem d_V_year_70 : decode m_V_year.2.1 70 = .ok (.aload_n 0, 1) := by decide +kernel
theorem d_V_year_71 : decode m_V_year.2.1 71 = .ok (.getfield 22, 3) := by decide +kernel
theorem d_V_year_74 : decode m_V_year.2.1 74 = .ok (.getfield 87, 3) := by decide +kernel
theorem d_V_year_77 : decode m_V_year.2.1 77 = .ok (.goto 13, 3) := by decide +kernel
theorem d_V_year_80 : decode m_V_year.2.1 80 = .ok (.aload_n 0, 1) := by decide +kernel
theorem d_V_year_81 : decode m_V_year.2.1 81 = .ok (.getfield 22, 3) := by decide +kernel
theorem d_V_year_84 : decode m_V_year.2.1 84 = .ok (.getfield 102, 3) := by decide +kernel
theorem d_V_year_87 : decode m_V_year.2.1 87 = .ok (.invokestatic 189, 3) := by decide +kernel
theorem d_V_year_90 : decode m_V_year.2.1 90 = .ok (.ireturn, 1) := by decide +kernel
theorem d_V_image_0 : decode m_V_image.2.1 0 = .ok (.iload_n 1, 1) := by decide +kernel
theorem d_V_image_1 : decode m_V_image.2.1 1 = .ok (.iconst 0, 1) := by decide +kernel
theorem d_V_image_2 : decode m_V_image.2.1 2 = .ok (.iconst 1, 1) := by decide +kernel
theorem d_V_image_3 : decode m_V_image.2.1 3 = .ok (.invokestatic 50, 3) := by decide +kernel
theorem d_V_image_6 : decode m_V_image.2.1 6 = .ok (.ifCond .ne 6, 3) := by decide +kernel
theorem d_V_image_9 : decode m_V_image.2.1 9 = .ok (.bipush (-2), 2) := by decide +kernel
theorem d_V_image_11 : decode m_V_image.2.1 11 = .ok (.ireturn, 1) := by decide +kernel
theorem d_V_image_12 : decode m_V_image.2.1 12 = .ok (.aload_n 0, 1) := by decide +kernel
theorem d_V_image_13 : decode m_V_image.2.1 13 = .ok (.iload_n 1, 1) := by decide +kernel
theorem d_V_image_14 : decode m_V_image.2.1 14 = .ok (.invokevirtual 223, 3) := by decide +kernel
theorem d_V_image_17 : decode m_V_image.2.1 17 = .ok (.aload_n 0, 1) := by decide +kernel
theorem d_V_image_18 : decode m_V_image.2.1 18 = .ok (.getfield 10, 3) := by decide +kernel
theorem d_V_image_21 : decode m_V_image.2.1 21 = .ok (.invokevirtual 129, 3) := by decide +kernel
theorem d_V_image_24 : decode m_V_image.2.1 24 = .ok (.aload_n 0, 1) := by decide +kernel
theorem d_V_image_25 : decode m_V_image.2.1 25 = .ok (.dup, 1) := by decide +kernel
theorem d_V_image_26 : decode m_V_image.2.1 26 = .ok (.getfield 46, 3) := by decide +kernel
theorem d_V_image_29 : decode m_V_image.2.1 29 = .ok (.iconst 1, 1) := by decide +kernel
theorem d_V_image_30 : decode m_V_image.2.1 30 = .ok (.iload_n 1, 1) := by decide +kernel
theorem d_V_image_31 : decode m_V_image.2.1 31 = .ok (.ishl, 1) := by decide +kernel
theorem d_V_image_32 : decode m_V_image.2.1 32 = .ok (.ior, 1) := by decide +kernel
theorem d_V_image_33 : decode m_V_image.2.1 33 = .ok (.putfield 46, 3) := by decide +kernel
theorem d_V_image_36 : decode m_V_image.2.1 36 = .ok (.iconst 1, 1) := by decide +kernel
theorem d_V_image_37 : decode m_V_image.2.1 37 = .ok (.ireturn, 1) := by decide +kernel
theorem d_V_restore_0 : decode m_V_restore.2.1 0 = .ok (.iload_n 1, 1) := by decide +kernel
theorem d_V_restore_1 : decode m_V_restore.2.1 1 = .ok (.iconst 0, 1) := by decide +kernel
theorem d_V_restore_2 : decode m_V_restore.2.1 2 = .ok (.iconst 1, 1) := by decide +kernel
theorem d_V_restore_3 : decode m_V_restore.2.1 3 = .ok (.invokestatic 50, 3) := by decide +kernel
theorem d_V_restore_6 : decode m_V_restore.2.1 6 = .ok (.ifCond .ne 6, 3) := by decide +kernel
theorem d_V_restore_9 : decode m_V_restore.2.1 9 = .ok (.bipush (-2), 2) := by decide +kernel
theorem d_V_restore_11 : decode m_V_restore.2.1 11 = .ok (.ireturn, 1) := by decide +kernel
theorem d_V_restore_12 : decode m_V_restore.2.1 12 = .ok (.aload_n 0, 1) := by decide +kernel
theorem d_V_restore_13 : decode m_V_restore.2.1 13 = .ok (.getfield 46, 3) := by decide +kernel
theorem d_V_restore_16 : decode m_V_restore.2.1 16 = .ok (.iload_n 1, 1) := by decide +kernel
theorem d_V_restore_17 : decode m_V_restore.2.1 17 = .ok (.invokestatic 142, 3) := by decide +kernel
theorem d_V_restore_20 : decode m_V_restore.2.1 20 = .ok (.ifCond .ne 6, 3) := by decide +kernel
theorem d_V_restore_23 : decode m_V_restore.2.1 23 = .ok (.bipush (-3), 2) := by decide +kernel
theorem d_V_restore_25 : decode m_V_restore.2.1 25 = .ok (.ireturn, 1) := by decide +kernel
theorem d_V_restore_26 : decode m_V_restore.2.1 26 = .ok (.aload_n 0, 1) := by decide +kernel
theorem d_V_restore_27 : decode m_V_restore.2.1 27 = .ok (.getfield 10, 3) := by decide +kernel
theorem d_V_restore_30 : decode m_V_restore.2.1 30 = .ok (.aload_n 0, 1) := by decide +kernel
theorem d_V_restore_31 : decode m_V_restore.2.1 31 = .ok (.iload_n 1, 1) := by decide +kernel
theorem d_V_restore_32 : decode m_V_restore.2.1 32 = .ok (.invokevirtual 223, 3) := by decide +kernel
theorem d_V_restore_35 : decode m_V_restore.2.1 35 = .ok (.invokevirtual 129, 3) := by decide +kernel
theorem d_V_restore_38 : decode m_V_restore.2.1 38 = .ok (.iconst 1, 1) := by decide +kernel
theorem d_V_restore_39 : decode m_V_restore.2.1 39 = .ok (.ireturn, 1) := by decide +kernel
theorem d_V_imageNumbered_0 : decode m_V_imageNumbered.2.1 0 = .ok (.iload_n 1, 1) := by decide +kernel
theorem d_V_imageNumbered_1 : decode m_V_imageNumbered.2.1 1 = .ok (.ifCond .ne 10, 3) := by decide +kernel
theorem d_V_imageNumbered_4 : decode m_V_imageNumbered.2.1 4 = .ok (.aload_n 0, 1) := by decide +kernel
theorem d_V_imageNumbered_5 : decode m_V_imageNumbered.2.1 5 = .ok (.getfield 16, 3) := by decide +kernel
theorem d_V_imageNumbered_8 : decode m_V_imageNumbered.2.1 8 = .ok (.goto 7, 3) := by decide +kernel
theorem d_V_imageNumbered_11 : decode m_V_imageNumbered.2.1 11 = .ok (.aload_n 0, 1) := by decide +kernel
theorem d_V_imageNumbered_12 : decode m_V_imageNumbered.2.1 12 = .ok (.getfield 19, 3) := by decide +kernel
theorem d_V_imageNumbered_15 : decode m_V_imageNumbered.2.1 15 = .ok (.areturn, 1) := by decide +kernel
theorem d_V_told_0 : decode m_V_told.2.1 0 = .ok (.iload_n 1, 1) := by decide +kernel
theorem d_V_told_1 : decode m_V_told.2.1 1 = .ok (.iconst 0, 1) := by decide +kernel
theorem d_V_told_2 : decode m_V_told.2.1 2 = .ok (.bipush 8, 2) := by decide +kernel
theorem d_V_told_4 : decode m_V_told.2.1 4 = .ok (.invokestatic 50, 3) := by decide +kernel
theorem d_V_told_7 : decode m_V_told.2.1 7 = .ok (.ifCond .eq 9, 3) := by decide +kernel
theorem d_V_told_10 : decode m_V_told.2.1 10 = .ok (.aload_n 0, 1) := by decide +kernel
theorem d_V_told_11 : decode m_V_told.2.1 11 = .ok (.iload_n 1, 1) := by decide +kernel
theorem d_V_told_12 : decode m_V_told.2.1 12 = .ok (.invokevirtual 227, 3) := by decide +kernel
theorem d_V_told_15 : decode m_V_told.2.1 15 = .ok (.ireturn, 1) := by decide +kernel
theorem d_V_told_16 : decode m_V_told.2.1 16 = .ok (.iload_n 1, 1) := by decide +kernel
theorem d_V_told_17 : decode m_V_told.2.1 17 = .ok (.bipush 20, 2) := by decide +kernel
theorem d_V_told_19 : decode m_V_told.2.1 19 = .ok (.bipush 31, 2) := by decide +kernel
theorem d_V_told_21 : decode m_V_told.2.1 21 = .ok (.invokestatic 50, 3) := by decide +kernel
theorem d_V_told_24 : decode m_V_told.2.1 24 = .ok (.ifCond .eq 16, 3) := by decide +kernel
theorem d_V_told_27 : decode m_V_told.2.1 27 = .ok (.aload_n 0, 1) := by decide +kernel
theorem d_V_told_28 : decode m_V_told.2.1 28 = .ok (.getfield 10, 3) := by decide +kernel
theorem d_V_told_31 : decode m_V_told.2.1 31 = .ok (.getfield 54, 3) := by decide +kernel
theorem d_V_told_34 : decode m_V_told.2.1 34 = .ok (.iload_n 1, 1) := by decide +kernel
theorem d_V_told_35 : decode m_V_told.2.1 35 = .ok (.bipush 20, 2) := by decide +kernel
theorem d_V_told_37 : decode m_V_told.2.1 37 = .ok (.isub, 1) := by decide +kernel
theorem d_V_told_38 : decode m_V_told.2.1 38 = .ok (.iaload, 1) := by decide +kernel
theorem d_V_told_39 : decode m_V_told.2.1 39 = .ok (.ireturn, 1) := by decide +kernel
theorem d_V_told_40 : decode m_V_told.2.1 40 = .ok (.iload_n 1, 1) := by decide +kernel
theorem d_V_told_41 : decode m_V_told.2.1 41 = .ok (.bipush 40, 2) := by decide +kernel
theorem d_V_told_43 : decode m_V_told.2.1 43 = .ok (.bipush 50, 2) := by decide +kernel
theorem d_V_told_45 : decode m_V_told.2.1 45 = .ok (.invokestatic 50, 3) := by decide +kernel
theorem d_V_told_48 : decode m_V_told.2.1 48 = .ok (.ifCond .eq 16, 3) := by decide +kernel
theorem d_V_told_51 : decode m_V_told.2.1 51 = .ok (.aload_n 0, 1) := by decide +kernel
theorem d_V_told_52 : decode m_V_told.2.1 52 = .ok (.getfield 10, 3) := by decide +kernel
theorem d_V_told_55 : decode m_V_told.2.1 55 = .ok (.getfield 68, 3) := by decide +kernel
theorem d_V_told_58 : decode m_V_told.2.1 58 = .ok (.iload_n 1, 1) := by decide +kernel
theorem d_V_told_59 : decode m_V_told.2.1 59 = .ok (.bipush 40, 2) := by decide +kernel
theorem d_V_told_61 : decode m_V_told.2.1 61 = .ok (.isub, 1) := by decide +kernel
theorem d_V_told_62 : decode m_V_told.2.1 62 = .ok (.iaload, 1) := by decide +kernel
theorem d_V_told_63 : decode m_V_told.2.1 63 = .ok (.ireturn, 1) := by decide +kernel
theorem d_V_told_64 : decode m_V_told.2.1 64 = .ok (.iload_n 1, 1) := by decide +kernel
theorem d_V_told_65 : decode m_V_told.2.1 65 = .ok (.bipush 100, 2) := by decide +kernel
theorem d_V_told_67 : decode m_V_told.2.1 67 = .ok (.sipush 159, 3) := by decide +kernel
theorem d_V_told_70 : decode m_V_told.2.1 70 = .ok (.invokestatic 50, 3) := by decide +kernel
theorem d_V_told_73 : decode m_V_told.2.1 73 = .ok (.ifCond .eq 19, 3) := by decide +kernel
theorem d_V_told_76 : decode m_V_told.2.1 76 = .ok (.aload_n 0, 1) := by decide +kernel
theorem d_V_told_77 : decode m_V_told.2.1 77 = .ok (.iload_n 1, 1) := by decide +kernel
theorem d_V_told_78 : decode m_V_told.2.1 78 = .ok (.bipush 100, 2) := by decide +kernel
theorem d_V_told_80 : decode m_V_told.2.1 80 = .ok (.isub, 1) := by decide +kernel
theorem d_V_told_81 : decode m_V_told.2.1 81 = .ok (.bipush 10, 2) := by decide +kernel
theorem d_V_told_83 : decode m_V_told.2.1 83 = .ok (.idiv, 1) := by decide +kernel
theorem d_V_told_84 : decode m_V_told.2.1 84 = .ok (.iload_n 1, 1) := by decide +kernel
theorem d_V_told_85 : decode m_V_told.2.1 85 = .ok (.bipush 10, 2) := by decide +kernel
theorem d_V_told_87 : decode m_V_told.2.1 87 = .ok (.irem, 1) := by decide +kernel
theorem d_V_told_88 : decode m_V_told.2.1 88 = .ok (.invokevirtual 230, 3) := by decide +kernel
theorem d_V_told_91 : decode m_V_told.2.1 91 = .ok (.ireturn, 1) := by decide +kernel
theorem d_V_told_92 : decode m_V_told.2.1 92 = .ok (.bipush (-2), 2) := by decide +kernel
theorem d_V_told_94 : decode m_V_told.2.1 94 = .ok (.ireturn, 1) := by decide +kernel
theorem d_V_toldOfAll_0 : decode m_V_toldOfAll.2.1 0 = .ok (.iload_n 1, 1) := by decide +kernel
theorem d_V_toldOfAll_1 : decode m_V_toldOfAll.2.1 1 = .ok (.tableswitch 111 0 7 #[47, 55, 63, 71, 79, 87, 95, 103], 47) := by decide +kernel
theorem d_V_toldOfAll_48 : decode m_V_toldOfAll.2.1 48 = .ok (.aload_n 0, 1) := by decide +kernel
theorem d_V_toldOfAll_49 : decode m_V_toldOfAll.2.1 49 = .ok (.getfield 28, 3) := by decide +kernel
theorem d_V_toldOfAll_52 : decode m_V_toldOfAll.2.1 52 = .ok (.getfield 109, 3) := by decide +kernel
theorem d_V_toldOfAll_55 : decode m_V_toldOfAll.2.1 55 = .ok (.ireturn, 1) := by decide +kernel
theorem d_V_toldOfAll_56 : decode m_V_toldOfAll.2.1 56 = .ok (.aload_n 0, 1) := by decide +kernel
theorem d_V_toldOfAll_57 : decode m_V_toldOfAll.2.1 57 = .ok (.getfield 10, 3) := by decide +kernel
theorem d_V_toldOfAll_60 : decode m_V_toldOfAll.2.1 60 = .ok (.getfield 87, 3) := by decide +kernel
theorem d_V_toldOfAll_63 : decode m_V_toldOfAll.2.1 63 = .ok (.ireturn, 1) := by decide +kernel
theorem d_V_toldOfAll_64 : decode m_V_toldOfAll.2.1 64 = .ok (.aload_n 0, 1) := by decide +kernel
theorem d_V_toldOfAll_65 : decode m_V_toldOfAll.2.1 65 = .ok (.getfield 10, 3) := by decide +kernel
theorem d_V_toldOfAll_68 : decode m_V_toldOfAll.2.1 68 = .ok (.getfield 136, 3) := by decide +kernel
theorem d_V_toldOfAll_71 : decode m_V_toldOfAll.2.1 71 = .ok (.ireturn, 1) := by decide +kernel
theorem d_V_toldOfAll_72 : decode m_V_toldOfAll.2.1 72 = .ok (.aload_n 0, 1) := by decide +kernel
theorem d_V_toldOfAll_73 : decode m_V_toldOfAll.2.1 73 = .ok (.getfield 10, 3) := by decide +kernel
theorem d_V_toldOfAll_76 : decode m_V_toldOfAll.2.1 76 = .ok (.getfield 58, 3) := by decide +kernel
theorem d_V_toldOfAll_79 : decode m_V_toldOfAll.2.1 79 = .ok (.ireturn, 1) := by decide +kernel
theorem d_V_toldOfAll_80 : decode m_V_toldOfAll.2.1 80 = .ok (.aload_n 0, 1) := by decide +kernel
theorem d_V_toldOfAll_81 : decode m_V_toldOfAll.2.1 81 = .ok (.getfield 10, 3) := by decide +kernel
theorem d_V_toldOfAll_84 : decode m_V_toldOfAll.2.1 84 = .ok (.getfield 65, 3) := by decide +kernel
theorem d_V_toldOfAll_87 : decode m_V_toldOfAll.2.1 87 = .ok (.ireturn, 1) := by decide +kernel
theorem d_V_toldOfAll_88 : decode m_V_toldOfAll.2.1 88 = .ok (.aload_n 0, 1) := by decide +kernel
theorem d_V_toldOfAll_89 : decode m_V_toldOfAll.2.1 89 = .ok (.getfield 10, 3) := by decide +kernel
theorem d_V_toldOfAll_92 : decode m_V_toldOfAll.2.1 92 = .ok (.getfield 102, 3) := by decide +kernel
theorem d_V_toldOfAll_95 : decode m_V_toldOfAll.2.1 95 = .ok (.ireturn, 1) := by decide +kernel
theorem d_V_toldOfAll_96 : decode m_V_toldOfAll.2.1 96 = .ok (.aload_n 0, 1) := by decide +kernel
theorem d_V_toldOfAll_97 : decode m_V_toldOfAll.2.1 97 = .ok (.getfield 10, 3) := by decide +kernel
theorem d_V_toldOfAll_100 : decode m_V_toldOfAll.2.1 100 = .ok (.getfield 167, 3) := by decide +kernel
theorem d_V_toldOfAll_103 : decode m_V_toldOfAll.2.1 103 = .ok (.ireturn, 1) := by decide +kernel
theorem d_V_toldOfAll_104 : decode m_V_toldOfAll.2.1 104 = .ok (.aload_n 0, 1) := by decide +kernel
theorem d_V_toldOfAll_105 : decode m_V_toldOfAll.2.1 105 = .ok (.getfield 10, 3) := by decide +kernel
theorem d_V_toldOfAll_108 : decode m_V_toldOfAll.2.1 108 = .ok (.getfield 81, 3) := by decide +kernel
theorem d_V_toldOfAll_111 : decode m_V_toldOfAll.2.1 111 = .ok (.ireturn, 1) := by decide +kernel
theorem d_V_toldOfAll_112 : decode m_V_toldOfAll.2.1 112 = .ok (.aload_n 0, 1) := by decide +kernel
theorem d_V_toldOfAll_113 : decode m_V_toldOfAll.2.1 113 = .ok (.getfield 10, 3) := by decide +kernel
theorem d_V_toldOfAll_116 : decode m_V_toldOfAll.2.1 116 = .ok (.getfield 84, 3) := by decide +kernel
theorem d_V_toldOfAll_119 : decode m_V_toldOfAll.2.1 119 = .ok (.iconst 3, 1) := by decide +kernel
theorem d_V_toldOfAll_120 : decode m_V_toldOfAll.2.1 120 = .ok (.iadd, 1) := by decide +kernel
theorem d_V_toldOfAll_121 : decode m_V_toldOfAll.2.1 121 = .ok (.ireturn, 1) := by decide +kernel
theorem d_V_toldOfLetter_0 : decode m_V_toldOfLetter.2.1 0 = .ok (.iload_n 2, 1) := by decide +kernel
theorem d_V_toldOfLetter_1 : decode m_V_toldOfLetter.2.1 1 = .ok (.tableswitch 71 0 3 #[31, 41, 51, 61], 31) := by decide +kernel
theorem d_V_toldOfLetter_32 : decode m_V_toldOfLetter.2.1 32 = .ok (.aload_n 0, 1) := by decide +kernel
theorem d_V_toldOfLetter_33 : decode m_V_toldOfLetter.2.1 33 = .ok (.getfield 10, 3) := by decide +kernel
theorem d_V_toldOfLetter_36 : decode m_V_toldOfLetter.2.1 36 = .ok (.getfield 90, 3) := by decide +kernel
theorem d_V_toldOfLetter_39 : decode m_V_toldOfLetter.2.1 39 = .ok (.iload_n 1, 1) := by decide +kernel
theorem d_V_toldOfLetter_40 : decode m_V_toldOfLetter.2.1 40 = .ok (.iaload, 1) := by decide +kernel
theorem d_V_toldOfLetter_41 : decode m_V_toldOfLetter.2.1 41 = .ok (.ireturn, 1) := by decide +kernel
theorem d_V_toldOfLetter_42 : decode m_V_toldOfLetter.2.1 42 = .ok (.aload_n 0, 1) := by decide +kernel
theorem d_V_toldOfLetter_43 : decode m_V_toldOfLetter.2.1 43 = .ok (.getfield 10, 3) := by decide +kernel
theorem d_V_toldOfLetter_46 : decode m_V_toldOfLetter.2.1 46 = .ok (.getfield 93, 3) := by decide +kernel
theorem d_V_toldOfLetter_49 : decode m_V_toldOfLetter.2.1 49 = .ok (.iload_n 1, 1) := by decide +kernel
theorem d_V_toldOfLetter_50 : decode m_V_toldOfLetter.2.1 50 = .ok (.iaload, 1) := by decide +kernel
theorem d_V_toldOfLetter_51 : decode m_V_toldOfLetter.2.1 51 = .ok (.ireturn, 1) := by decide +kernel
theorem d_V_toldOfLetter_52 : decode m_V_toldOfLetter.2.1 52 = .ok (.aload_n 0, 1) := by decide +kernel
theorem d_V_toldOfLetter_53 : decode m_V_toldOfLetter.2.1 53 = .ok (.getfield 10, 3) := by decide +kernel
theorem d_V_toldOfLetter_56 : decode m_V_toldOfLetter.2.1 56 = .ok (.getfield 96, 3) := by decide +kernel
theorem d_V_toldOfLetter_59 : decode m_V_toldOfLetter.2.1 59 = .ok (.iload_n 1, 1) := by decide +kernel
theorem d_V_toldOfLetter_60 : decode m_V_toldOfLetter.2.1 60 = .ok (.iaload, 1) := by decide +kernel
theorem d_V_toldOfLetter_61 : decode m_V_toldOfLetter.2.1 61 = .ok (.ireturn, 1) := by decide +kernel
theorem d_V_toldOfLetter_62 : decode m_V_toldOfLetter.2.1 62 = .ok (.aload_n 0, 1) := by decide +kernel
theorem d_V_toldOfLetter_63 : decode m_V_toldOfLetter.2.1 63 = .ok (.getfield 10, 3) := by decide +kernel
theorem d_V_toldOfLetter_66 : decode m_V_toldOfLetter.2.1 66 = .ok (.getfield 99, 3) := by decide +kernel
theorem d_V_toldOfLetter_69 : decode m_V_toldOfLetter.2.1 69 = .ok (.iload_n 1, 1) := by decide +kernel
theorem d_V_toldOfLetter_70 : decode m_V_toldOfLetter.2.1 70 = .ok (.iaload, 1) := by decide +kernel
theorem d_V_toldOfLetter_71 : decode m_V_toldOfLetter.2.1 71 = .ok (.ireturn, 1) := by decide +kernel
theorem d_V_toldOfLetter_72 : decode m_V_toldOfLetter.2.1 72 = .ok (.bipush (-2), 2) := by decide +kernel
theorem d_V_toldOfLetter_74 : decode m_V_toldOfLetter.2.1 74 = .ok (.ireturn, 1) := by decide +kernel
theorem d_V_within_0 : decode m_V_within.2.1 0 = .ok (.iload_n 0, 1) := by decide +kernel
theorem d_V_within_1 : decode m_V_within.2.1 1 = .ok (.iload_n 1, 1) := by decide +kernel
theorem d_V_within_2 : decode m_V_within.2.1 2 = .ok (.if_icmp .lt 12, 3) := by decide +kernel
theorem d_V_within_5 : decode m_V_within.2.1 5 = .ok (.iload_n 0, 1) := by decide +kernel
theorem d_V_within_6 : decode m_V_within.2.1 6 = .ok (.iload_n 2, 1) := by decide +kernel
theorem d_V_within_7 : decode m_V_within.2.1 7 = .ok (.if_icmp .gt 7, 3) := by decide +kernel
theorem d_V_within_10 : decode m_V_within.2.1 10 = .ok (.iconst 1, 1) := by decide +kernel
theorem d_V_within_11 : decode m_V_within.2.1 11 = .ok (.goto 4, 3) := by decide +kernel
theorem d_V_within_14 : decode m_V_within.2.1 14 = .ok (.iconst 0, 1) := by decide +kernel
theorem d_V_within_15 : decode m_V_within.2.1 15 = .ok (.ireturn, 1) := by decide +kernel
theorem d_V_hasBit_0 : decode m_V_hasBit.2.1 0 = .ok (.iload_n 0, 1) := by decide +kernel
theorem d_V_hasBit_1 : decode m_V_hasBit.2.1 1 = .ok (.iload_n 1, 1) := by decide +kernel
theorem d_V_hasBit_2 : decode m_V_hasBit.2.1 2 = .ok (.ishr, 1) := by decide +kernel
theorem d_V_hasBit_3 : decode m_V_hasBit.2.1 3 = .ok (.iconst 1, 1) := by decide +kernel
theorem d_V_hasBit_4 : decode m_V_hasBit.2.1 4 = .ok (.iand, 1) := by decide +kernel
theorem d_V_hasBit_5 : decode m_V_hasBit.2.1 5 = .ok (.iconst 1, 1) := by decide +kernel
theorem d_V_hasBit_6 : decode m_V_hasBit.2.1 6 = .ok (.if_icmp .ne 7, 3) := by decide +kernel
theorem d_V_hasBit_9 : decode m_V_hasBit.2.1 9 = .ok (.iconst 1, 1) := by decide +kernel
theorem d_V_hasBit_10 : decode m_V_hasBit.2.1 10 = .ok (.goto 4, 3) := by decide +kernel
theorem d_V_hasBit_13 : decode m_V_hasBit.2.1 13 = .ok (.iconst 0, 1) := by decide +kernel
theorem d_V_hasBit_14 : decode m_V_hasBit.2.1 14 = .ok (.ireturn, 1) := by decide +kernel
theorem d_V_withBit_0 : decode m_V_withBit.2.1 0 = .ok (.iload_n 2, 1) := by decide +kernel
theorem d_V_withBit_1 : decode m_V_withBit.2.1 1 = .ok (.ifCond .eq 11, 3) := by decide +kernel
theorem d_V_withBit_4 : decode m_V_withBit.2.1 4 = .ok (.iload_n 0, 1) := by decide +kernel
theorem d_V_withBit_5 : decode m_V_withBit.2.1 5 = .ok (.iconst 1, 1) := by decide +kernel
theorem d_V_withBit_6 : decode m_V_withBit.2.1 6 = .ok (.iload_n 1, 1) := by decide +kernel
theorem d_V_withBit_7 : decode m_V_withBit.2.1 7 = .ok (.ishl, 1) := by decide +kernel
theorem d_V_withBit_8 : decode m_V_withBit.2.1 8 = .ok (.ior, 1) := by decide +kernel
theorem d_V_withBit_9 : decode m_V_withBit.2.1 9 = .ok (.goto 10, 3) := by decide +kernel
theorem d_V_withBit_12 : decode m_V_withBit.2.1 12 = .ok (.iload_n 0, 1) := by decide +kernel
theorem d_V_withBit_13 : decode m_V_withBit.2.1 13 = .ok (.iconst 1, 1) := by decide +kernel
theorem d_V_withBit_14 : decode m_V_withBit.2.1 14 = .ok (.iload_n 1, 1) := by decide +kernel
theorem d_V_withBit_15 : decode m_V_withBit.2.1 15 = .ok (.ishl, 1) := by decide +kernel
theorem d_V_withBit_16 : decode m_V_withBit.2.1 16 = .ok (.iconst (-1), 1) := by decide +kernel
theorem d_V_withBit_17 : decode m_V_withBit.2.1 17 = .ok (.ixor, 1) := by decide +kernel
theorem d_V_withBit_18 : decode m_V_withBit.2.1 18 = .ok (.iand, 1) := by decide +kernel
theorem d_V_withBit_19 : decode m_V_withBit.2.1 19 = .ok (.ireturn, 1) := by decide +kernel
theorem d_C_init_0 : decode m_C_init.2.1 0 = .ok (.aload_n 0, 1) := by decide +kernel
theorem d_C_init_1 : decode m_C_init.2.1 1 = .ok (.invokespecial 3, 3) := by decide +kernel
theorem d_C_init_4 : decode m_C_init.2.1 4 = .ok (.aload_n 0, 1) := by decide +kernel
theorem d_C_init_5 : decode m_C_init.2.1 5 = .ok (.bipush 12, 2) := by decide +kernel
theorem d_C_init_7 : decode m_C_init.2.1 7 = .ok (.newarray .long, 2) := by decide +kernel
theorem d_C_init_9 : decode m_C_init.2.1 9 = .ok (.putfield 9, 3) := by decide +kernel
theorem d_C_init_12 : decode m_C_init.2.1 12 = .ok (.aload_n 0, 1) := by decide +kernel
theorem d_C_init_13 : decode m_C_init.2.1 13 = .ok (.iconst 0, 1) := by decide +kernel
theorem d_C_init_14 : decode m_C_init.2.1 14 = .ok (.putfield 15, 3) := by decide +kernel
theorem d_C_init_17 : decode m_C_init.2.1 17 = .ok (.aload_n 0, 1) := by decide +kernel
theorem d_C_init_18 : decode m_C_init.2.1 18 = .ok (.iconst 0, 1) := by decide +kernel
theorem d_C_init_19 : decode m_C_init.2.1 19 = .ok (.putfield 19, 3) := by decide +kernel
theorem d_C_init_22 : decode m_C_init.2.1 22 = .ok (.aload_n 0, 1) := by decide +kernel
theorem d_C_init_23 : decode m_C_init.2.1 23 = .ok (.lconst 0, 1) := by decide +kernel
theorem d_C_init_24 : decode m_C_init.2.1 24 = .ok (.putfield 22, 3) := by decide +kernel
theorem d_C_init_27 : decode m_C_init.2.1 27 = .ok (.aload_n 0, 1) := by decide +kernel
theorem d_C_init_28 : decode m_C_init.2.1 28 = .ok (.lconst 1, 1) := by decide +kernel
theorem d_C_init_29 : decode m_C_init.2.1 29 = .ok (.putfield 26, 3) := by decide +kernel
theorem d_C_init_32 : decode m_C_init.2.1 32 = .ok (.return_, 1) := by decide +kernel
theorem d_C_weigh_0 : decode m_C_weigh.2.1 0 = .ok (.iconst 1, 1) := by decide +kernel
theorem d_C_weigh_1 : decode m_C_weigh.2.1 1 = .ok (.iload_n 2, 1) := by decide +kernel
theorem d_C_weigh_2 : decode m_C_weigh.2.1 2 = .ok (.ishl, 1) := by decide +kernel
theorem d_C_weigh_3 : decode m_C_weigh.2.1 3 = .ok (.iconst (-1), 1) := by decide +kernel
theorem d_C_weigh_4 : decode m_C_weigh.2.1 4 = .ok (.ixor, 1) := by decide +kernel
theorem d_C_weigh_5 : decode m_C_weigh.2.1 5 = .ok (.istore_n 3, 1) := by decide +kernel
theorem d_C_weigh_6 : decode m_C_weigh.2.1 6 = .ok (.aload_n 1, 1) := by decide +kernel
theorem d_C_weigh_7 : decode m_C_weigh.2.1 7 = .ok (.iload_n 2, 1) := by decide +kernel
theorem d_C_weigh_8 : decode m_C_weigh.2.1 8 = .ok (.iconst 0, 1) := by decide +kernel
theorem d_C_weigh_9 : decode m_C_weigh.2.1 9 = .ok (.invokevirtual 29, 3) := by decide +kernel
theorem d_C_weigh_12 : decode m_C_weigh.2.1 12 = .ok (.iload_n 3, 1) := by decide +kernel
theorem d_C_weigh_13 : decode m_C_weigh.2.1 13 = .ok (.iand, 1) := by decide +kernel
theorem d_C_weigh_14 : decode m_C_weigh.2.1 14 = .ok (.istore 4, 2) := by decide +kernel
theorem d_C_weigh_16 : decode m_C_weigh.2.1 16 = .ok (.aload_n 1, 1) := by decide +kernel
theorem d_C_weigh_17 : decode m_C_weigh.2.1 17 = .ok (.iload_n 2, 1) := by decide +kernel
theorem d_C_weigh_18 : decode m_C_weigh.2.1 18 = .ok (.sipush 4095, 3) := by decide +kernel
theorem d_C_weigh_21 : decode m_C_weigh.2.1 21 = .ok (.invokevirtual 29, 3) := by decide +kernel
theorem d_C_weigh_24 : decode m_C_weigh.2.1 24 = .ok (.iload_n 3, 1) := by decide +kernel
theorem d_C_weigh_25 : decode m_C_weigh.2.1 25 = .ok (.iand, 1) := by decide +kernel
theorem d_C_weigh_26 : decode m_C_weigh.2.1 26 = .ok (.istore 5, 2) := by decide +kernel
theorem d_C_weigh_28 : decode m_C_weigh.2.1 28 = .ok (.aload_n 0, 1) := by decide +kernel
theorem d_C_weigh_29 : decode m_C_weigh.2.1 29 = .ok (.iload 4, 2) := by decide +kernel
theorem d_C_weigh_31 : decode m_C_weigh.2.1 31 = .ok (.invokestatic 35, 3) := by decide +kernel
theorem d_C_weigh_34 : decode m_C_weigh.2.1 34 = .ok (.putfield 15, 3) := by decide +kernel
theorem d_C_weigh_37 : decode m_C_weigh.2.1 37 = .ok (.aload_n 0, 1) := by decide +kernel
theorem d_C_weigh_38 : decode m_C_weigh.2.1 38 = .ok (.iload 5, 2) := by decide +kernel
theorem d_C_weigh_40 : decode m_C_weigh.2.1 40 = .ok (.invokestatic 35, 3) := by decide +kernel
theorem d_C_weigh_43 : decode m_C_weigh.2.1 43 = .ok (.aload_n 0, 1) := by decide +kernel
theorem d_C_weigh_44 : decode m_C_weigh.2.1 44 = .ok (.getfield 15, 3) := by decide +kernel
theorem d_C_weigh_47 : decode m_C_weigh.2.1 47 = .ok (.isub, 1) := by decide +kernel
theorem d_C_weigh_48 : decode m_C_weigh.2.1 48 = .ok (.putfield 19, 3) := by decide +kernel
theorem d_C_weigh_51 : decode m_C_weigh.2.1 51 = .ok (.return_, 1) := by decide +kernel
theorem d_C_findMean_0 : decode m_C_findMean.2.1 0 = .ok (.aload_n 0, 1) := by decide +kernel
theorem d_C_findMean_1 : decode m_C_findMean.2.1 1 = .ok (.bipush 10, 2) := by decide +kernel
theorem d_C_findMean_3 : decode m_C_findMean.2.1 3 = .ok (.aload_n 0, 1) := by decide +kernel
theorem d_C_findMean_4 : decode m_C_findMean.2.1 4 = .ok (.getfield 15, 3) := by decide +kernel
theorem d_C_findMean_7 : decode m_C_findMean.2.1 7 = .ok (.imul, 1) := by decide +kernel
theorem d_C_findMean_8 : decode m_C_findMean.2.1 8 = .ok (.iload_n 1, 1) := by decide +kernel
theorem d_C_findMean_9 : decode m_C_findMean.2.1 9 = .ok (.aload_n 0, 1) := by decide +kernel
theorem d_C_findMean_10 : decode m_C_findMean.2.1 10 = .ok (.getfield 19, 3) := by decide +kernel
theorem d_C_findMean_13 : decode m_C_findMean.2.1 13 = .ok (.imul, 1) := by decide +kernel
theorem d_C_findMean_14 : decode m_C_findMean.2.1 14 = .ok (.iadd, 1) := by decide +kernel
theorem d_C_findMean_15 : decode m_C_findMean.2.1 15 = .ok (.i2l, 1) := by decide +kernel
theorem d_C_findMean_16 : decode m_C_findMean.2.1 16 = .ok (.ldc2_w 41, 3) := by decide +kernel
theorem d_C_findMean_19 : decode m_C_findMean.2.1 19 = .ok (.invokevirtual 43, 3) := by decide +kernel
theorem d_C_findMean_22 : decode m_C_findMean.2.1 22 = .ok (.return_, 1) := by decide +kernel
theorem d_C_findAtMost_0 : decode m_C_findAtMost.2.1 0 = .ok (.aload_n 0, 1) := by decide +kernel
theorem d_C_findAtMost_1 : decode m_C_findAtMost.2.1 1 = .ok (.iload_n 1, 1) := by decide +kernel
theorem d_C_findAtMost_2 : decode m_C_findAtMost.2.1 2 = .ok (.invokevirtual 47, 3) := by decide +kernel
theorem d_C_findAtMost_5 : decode m_C_findAtMost.2.1 5 = .ok (.lconst 0, 1) := by decide +kernel
theorem d_C_findAtMost_6 : decode m_C_findAtMost.2.1 6 = .ok (.lstore_n 3, 1) := by decide +kernel
theorem d_C_findAtMost_7 : decode m_C_findAtMost.2.1 7 = .ok (.lconst 0, 1) := by decide +kernel
theorem d_C_findAtMost_8 : decode m_C_findAtMost.2.1 8 = .ok (.lstore 5, 2) := by decide +kernel
theorem d_C_findAtMost_10 : decode m_C_findAtMost.2.1 10 = .ok (.iconst 0, 1) := by decide +kernel
theorem d_C_findAtMost_11 : decode m_C_findAtMost.2.1 11 = .ok (.istore 7, 2) := by decide +kernel
theorem d_C_findAtMost_13 : decode m_C_findAtMost.2.1 13 = .ok (.iload 7, 2) := by decide +kernel
theorem d_C_findAtMost_15 : decode m_C_findAtMost.2.1 15 = .ok (.aload_n 0, 1) := by decide +kernel
theorem d_C_findAtMost_16 : decode m_C_findAtMost.2.1 16 = .ok (.getfield 19, 3) := by decide +kernel
theorem d_C_findAtMost_19 : decode m_C_findAtMost.2.1 19 = .ok (.if_icmp .gt 49, 3) := by decide +kernel
theorem d_C_findAtMost_22 : decode m_C_findAtMost.2.1 22 = .ok (.iload 7, 2) := by decide +kernel
theorem d_C_findAtMost_24 : decode m_C_findAtMost.2.1 24 = .ok (.bipush 12, 2) := by decide +kernel
theorem d_C_findAtMost_26 : decode m_C_findAtMost.2.1 26 = .ok (.if_icmp .ge 42, 3) := by decide +kernel
theorem d_C_findAtMost_29 : decode m_C_findAtMost.2.1 29 = .ok (.lload_n 3, 1) := by decide +kernel
theorem d_C_findAtMost_30 : decode m_C_findAtMost.2.1 30 = .ok (.aload_n 0, 1) := by decide +kernel
theorem d_C_findAtMost_31 : decode m_C_findAtMost.2.1 31 = .ok (.getfield 9, 3) := by decide +kernel
theorem d_C_findAtMost_34 : decode m_C_findAtMost.2.1 34 = .ok (.iload 7, 2) := by decide +kernel
theorem d_C_findAtMost_36 : decode m_C_findAtMost.2.1 36 = .ok (.laload, 1) := by decide +kernel
theorem d_C_findAtMost_37 : decode m_C_findAtMost.2.1 37 = .ok (.ladd, 1) := by decide +kernel
theorem d_C_findAtMost_38 : decode m_C_findAtMost.2.1 38 = .ok (.lstore_n 3, 1) := by decide +kernel
theorem d_C_findAtMost_39 : decode m_C_findAtMost.2.1 39 = .ok (.aload_n 0, 1) := by decide +kernel
theorem d_C_findAtMost_40 : decode m_C_findAtMost.2.1 40 = .ok (.getfield 15, 3) := by decide +kernel
theorem d_C_findAtMost_43 : decode m_C_findAtMost.2.1 43 = .ok (.iload 7, 2) := by decide +kernel
theorem d_C_findAtMost_45 : decode m_C_findAtMost.2.1 45 = .ok (.iadd, 1) := by decide +kernel
theorem d_C_findAtMost_46 : decode m_C_findAtMost.2.1 46 = .ok (.iload_n 2, 1) := by decide +kernel
theorem d_C_findAtMost_47 : decode m_C_findAtMost.2.1 47 = .ok (.if_icmp .gt 15, 3) := by decide +kernel
theorem d_C_findAtMost_50 : decode m_C_findAtMost.2.1 50 = .ok (.lload 5, 2) := by decide +kernel
theorem d_C_findAtMost_52 : decode m_C_findAtMost.2.1 52 = .ok (.aload_n 0, 1) := by decide +kernel
theorem d_C_findAtMost_53 : decode m_C_findAtMost.2.1 53 = .ok (.getfield 9, 3) := by decide +kernel
theorem d_C_findAtMost_56 : decode m_C_findAtMost.2.1 56 = .ok (.iload 7, 2) := by decide +kernel
theorem d_C_findAtMost_58 : decode m_C_findAtMost.2.1 58 = .ok (.laload, 1) := by decide +kernel
theorem d_C_findAtMost_59 : decode m_C_findAtMost.2.1 59 = .ok (.ladd, 1) := by decide +kernel
theorem d_C_findAtMost_60 : decode m_C_findAtMost.2.1 60 = .ok (.lstore 5, 2) := by decide +kernel
theorem d_C_findAtMost_62 : decode m_C_findAtMost.2.1 62 = .ok (.iinc 7 1, 3) := by decide +kernel
theorem d_C_findAtMost_65 : decode m_C_findAtMost.2.1 65 = .ok (.goto (-52), 3) := by decide +kernel
theorem d_C_findAtMost_68 : decode m_C_findAtMost.2.1 68 = .ok (.aload_n 0, 1) := by decide +kernel
theorem d_C_findAtMost_69 : decode m_C_findAtMost.2.1 69 = .ok (.lload 5, 2) := by decide +kernel
theorem d_C_findAtMost_71 : decode m_C_findAtMost.2.1 71 = .ok (.lload_n 3, 1) := by decide +kernel
theorem d_C_findAtMost_72 : decode m_C_findAtMost.2.1 72 = .ok (.invokevirtual 43, 3) := by decide +kernel
theorem d_C_findAtMost_75 : decode m_C_findAtMost.2.1 75 = .ok (.return_, 1) := by decide +kernel
theorem d_C_countWays_0 : decode m_C_countWays.2.1 0 = .ok (.aload_n 0, 1) := by decide +kernel
theorem d_C_countWays_1 : decode m_C_countWays.2.1 1 = .ok (.getfield 9, 3) := by decide +kernel
theorem d_C_countWays_4 : decode m_C_countWays.2.1 4 = .ok (.iconst 0, 1) := by decide +kernel
theorem d_C_countWays_5 : decode m_C_countWays.2.1 5 = .ok (.lconst 1, 1) := by decide +kernel
theorem d_C_countWays_6 : decode m_C_countWays.2.1 6 = .ok (.lastore, 1) := by decide +kernel
theorem d_C_countWays_7 : decode m_C_countWays.2.1 7 = .ok (.iconst 1, 1) := by decide +kernel
theorem d_C_countWays_8 : decode m_C_countWays.2.1 8 = .ok (.istore_n 2, 1) := by decide +kernel
theorem d_C_countWays_9 : decode m_C_countWays.2.1 9 = .ok (.iload_n 2, 1) := by decide +kernel
theorem d_C_countWays_10 : decode m_C_countWays.2.1 10 = .ok (.aload_n 0, 1) := by decide +kernel
theorem d_C_countWays_11 : decode m_C_countWays.2.1 11 = .ok (.getfield 19, 3) := by decide +kernel
theorem d_C_countWays_14 : decode m_C_countWays.2.1 14 = .ok (.if_icmp .gt 91, 3) := by decide +kernel
theorem d_C_countWays_17 : decode m_C_countWays.2.1 17 = .ok (.iload_n 2, 1) := by decide +kernel
theorem d_C_countWays_18 : decode m_C_countWays.2.1 18 = .ok (.bipush 12, 2) := by decide +kernel
theorem d_C_countWays_20 : decode m_C_countWays.2.1 20 = .ok (.if_icmp .ge 85, 3) := by decide +kernel
theorem d_C_countWays_23 : decode m_C_countWays.2.1 23 = .ok (.aload_n 0, 1) := by decide +kernel
theorem d_C_countWays_24 : decode m_C_countWays.2.1 24 = .ok (.getfield 9, 3) := by decide +kernel
theorem d_C_countWays_27 : decode m_C_countWays.2.1 27 = .ok (.iload_n 2, 1) := by decide +kernel
theorem d_C_countWays_28 : decode m_C_countWays.2.1 28 = .ok (.aload_n 0, 1) := by decide +kernel
theorem d_C_countWays_29 : decode m_C_countWays.2.1 29 = .ok (.getfield 9, 3) := by decide +kernel
theorem d_C_countWays_32 : decode m_C_countWays.2.1 32 = .ok (.iload_n 2, 1) := by decide +kernel
theorem d_C_countWays_33 : decode m_C_countWays.2.1 33 = .ok (.iconst 1, 1) := by decide +kernel
theorem d_C_countWays_34 : decode m_C_countWays.2.1 34 = .ok (.isub, 1) := by decide +kernel
theorem d_C_countWays_35 : decode m_C_countWays.2.1 35 = .ok (.laload, 1) := by decide +kernel
theorem d_C_countWays_36 : decode m_C_countWays.2.1 36 = .ok (.iload_n 1, 1) := by decide +kernel
theorem d_C_countWays_37 : decode m_C_countWays.2.1 37 = .ok (.i2l, 1) := by decide +kernel
theorem d_C_countWays_38 : decode m_C_countWays.2.1 38 = .ok (.lmul, 1) := by decide +kernel
theorem d_C_countWays_39 : decode m_C_countWays.2.1 39 = .ok (.lastore, 1) := by decide +kernel
theorem d_C_countWays_40 : decode m_C_countWays.2.1 40 = .ok (.iload_n 2, 1) := by decide +kernel
theorem d_C_countWays_41 : decode m_C_countWays.2.1 41 = .ok (.iconst 1, 1) := by decide +kernel
theorem d_C_countWays_42 : decode m_C_countWays.2.1 42 = .ok (.isub, 1) := by decide +kernel
theorem d_C_countWays_43 : decode m_C_countWays.2.1 43 = .ok (.istore_n 3, 1) := by decide +kernel
theorem d_C_countWays_44 : decode m_C_countWays.2.1 44 = .ok (.iload_n 3, 1) := by decide +kernel
theorem d_C_countWays_45 : decode m_C_countWays.2.1 45 = .ok (.iconst 1, 1) := by decide +kernel
theorem d_C_countWays_46 : decode m_C_countWays.2.1 46 = .ok (.if_icmp .lt 39, 3) := by decide +kernel
theorem d_C_countWays_49 : decode m_C_countWays.2.1 49 = .ok (.aload_n 0, 1) := by decide +kernel
theorem d_C_countWays_50 : decode m_C_countWays.2.1 50 = .ok (.getfield 9, 3) := by decide +kernel
theorem d_C_countWays_53 : decode m_C_countWays.2.1 53 = .ok (.iload_n 3, 1) := by decide +kernel
theorem d_C_countWays_54 : decode m_C_countWays.2.1 54 = .ok (.aload_n 0, 1) := by decide +kernel
theorem d_C_countWays_55 : decode m_C_countWays.2.1 55 = .ok (.getfield 9, 3) := by decide +kernel
theorem d_C_countWays_58 : decode m_C_countWays.2.1 58 = .ok (.iload_n 3, 1) := by decide +kernel
theorem d_C_countWays_59 : decode m_C_countWays.2.1 59 = .ok (.laload, 1) := by decide +kernel
theorem d_C_countWays_60 : decode m_C_countWays.2.1 60 = .ok (.bipush 10, 2) := by decide +kernel
theorem d_C_countWays_62 : decode m_C_countWays.2.1 62 = .ok (.iload_n 1, 1) := by decide +kernel
theorem d_C_countWays_63 : decode m_C_countWays.2.1 63 = .ok (.isub, 1) := by decide +kernel
theorem d_C_countWays_64 : decode m_C_countWays.2.1 64 = .ok (.i2l, 1) := by decide +kernel
theorem d_C_countWays_65 : decode m_C_countWays.2.1 65 = .ok (.lmul, 1) := by decide +kernel
theorem d_C_countWays_66 : decode m_C_countWays.2.1 66 = .ok (.aload_n 0, 1) := by decide +kernel
theorem d_C_countWays_67 : decode m_C_countWays.2.1 67 = .ok (.getfield 9, 3) := by decide +kernel
theorem d_C_countWays_70 : decode m_C_countWays.2.1 70 = .ok (.iload_n 3, 1) := by decide +kernel
theorem d_C_countWays_71 : decode m_C_countWays.2.1 71 = .ok (.iconst 1, 1) := by decide +kernel
theorem d_C_countWays_72 : decode m_C_countWays.2.1 72 = .ok (.isub, 1) := by decide +kernel
theorem d_C_countWays_73 : decode m_C_countWays.2.1 73 = .ok (.laload, 1) := by decide +kernel
theorem d_C_countWays_74 : decode m_C_countWays.2.1 74 = .ok (.iload_n 1, 1) := by decide +kernel
theorem d_C_countWays_75 : decode m_C_countWays.2.1 75 = .ok (.i2l, 1) := by decide +kernel
theorem d_C_countWays_76 : decode m_C_countWays.2.1 76 = .ok (.lmul, 1) := by decide +kernel
theorem d_C_countWays_77 : decode m_C_countWays.2.1 77 = .ok (.ladd, 1) := by decide +kernel
theorem d_C_countWays_78 : decode m_C_countWays.2.1 78 = .ok (.lastore, 1) := by decide +kernel
theorem d_C_countWays_79 : decode m_C_countWays.2.1 79 = .ok (.iinc 3 (-1), 3) := by decide +kernel
theorem d_C_countWays_82 : decode m_C_countWays.2.1 82 = .ok (.goto (-38), 3) := by decide +kernel
theorem d_C_countWays_85 : decode m_C_countWays.2.1 85 = .ok (.aload_n 0, 1) := by decide +kernel
theorem d_C_countWays_86 : decode m_C_countWays.2.1 86 = .ok (.getfield 9, 3) := by decide +kernel
theorem d_C_countWays_89 : decode m_C_countWays.2.1 89 = .ok (.iconst 0, 1) := by decide +kernel
theorem d_C_countWays_90 : decode m_C_countWays.2.1 90 = .ok (.dup2, 1) := by decide +kernel
theorem d_C_countWays_91 : decode m_C_countWays.2.1 91 = .ok (.laload, 1) := by decide +kernel
theorem d_C_countWays_92 : decode m_C_countWays.2.1 92 = .ok (.bipush 10, 2) := by decide +kernel
theorem d_C_countWays_94 : decode m_C_countWays.2.1 94 = .ok (.iload_n 1, 1) := by decide +kernel
theorem d_C_countWays_95 : decode m_C_countWays.2.1 95 = .ok (.isub, 1) := by decide +kernel
theorem d_C_countWays_96 : decode m_C_countWays.2.1 96 = .ok (.i2l, 1) := by decide +kernel
theorem d_C_countWays_97 : decode m_C_countWays.2.1 97 = .ok (.lmul, 1) := by decide +kernel
theorem d_C_countWays_98 : decode m_C_countWays.2.1 98 = .ok (.lastore, 1) := by decide +kernel
theorem d_C_countWays_99 : decode m_C_countWays.2.1 99 = .ok (.iinc 2 1, 3) := by decide +kernel
theorem d_C_countWays_102 : decode m_C_countWays.2.1 102 = .ok (.goto (-93), 3) := by decide +kernel
theorem d_C_countWays_105 : decode m_C_countWays.2.1 105 = .ok (.return_, 1) := by decide +kernel
theorem d_C_putLowest_0 : decode m_C_putLowest.2.1 0 = .ok (.lload_n 1, 1) := by decide +kernel
theorem d_C_putLowest_1 : decode m_C_putLowest.2.1 1 = .ok (.lload_n 3, 1) := by decide +kernel
theorem d_C_putLowest_2 : decode m_C_putLowest.2.1 2 = .ok (.invokestatic 51, 3) := by decide +kernel
theorem d_C_putLowest_5 : decode m_C_putLowest.2.1 5 = .ok (.lstore 5, 2) := by decide +kernel
theorem d_C_putLowest_7 : decode m_C_putLowest.2.1 7 = .ok (.lload 5, 2) := by decide +kernel
theorem d_C_putLowest_9 : decode m_C_putLowest.2.1 9 = .ok (.lconst 0, 1) := by decide +kernel
theorem d_C_putLowest_10 : decode m_C_putLowest.2.1 10 = .ok (.lcmp, 1) := by decide +kernel
theorem d_C_putLowest_11 : decode m_C_putLowest.2.1 11 = .ok (.ifCond .gt 4, 3) := by decide +kernel
theorem d_C_putLowest_14 : decode m_C_putLowest.2.1 14 = .ok (.return_, 1) := by decide +kernel
theorem d_C_putLowest_15 : decode m_C_putLowest.2.1 15 = .ok (.aload_n 0, 1) := by decide +kernel
theorem d_C_putLowest_16 : decode m_C_putLowest.2.1 16 = .ok (.lload_n 1, 1) := by decide +kernel
theorem d_C_putLowest_17 : decode m_C_putLowest.2.1 17 = .ok (.lload 5, 2) := by decide +kernel
theorem d_C_putLowest_19 : decode m_C_putLowest.2.1 19 = .ok (.ldiv, 1) := by decide +kernel
theorem d_C_putLowest_20 : decode m_C_putLowest.2.1 20 = .ok (.putfield 22, 3) := by decide +kernel
theorem d_C_putLowest_23 : decode m_C_putLowest.2.1 23 = .ok (.aload_n 0, 1) := by decide +kernel
theorem d_C_putLowest_24 : decode m_C_putLowest.2.1 24 = .ok (.lload_n 3, 1) := by decide +kernel
theorem d_C_putLowest_25 : decode m_C_putLowest.2.1 25 = .ok (.lload 5, 2) := by decide +kernel
theorem d_C_putLowest_27 : decode m_C_putLowest.2.1 27 = .ok (.ldiv, 1) := by decide +kernel
theorem d_C_putLowest_28 : decode m_C_putLowest.2.1 28 = .ok (.putfield 26, 3) := by decide +kernel
theorem d_C_putLowest_31 : decode m_C_putLowest.2.1 31 = .ok (.return_, 1) := by decide +kernel
theorem d_C_greatestDivisor_0 : decode m_C_greatestDivisor.2.1 0 = .ok (.lload_n 0, 1) := by decide +kernel
theorem d_C_greatestDivisor_1 : decode m_C_greatestDivisor.2.1 1 = .ok (.lstore 4, 2) := by decide +kernel
theorem d_C_greatestDivisor_3 : decode m_C_greatestDivisor.2.1 3 = .ok (.lload_n 2, 1) := by decide +kernel
theorem d_C_greatestDivisor_4 : decode m_C_greatestDivisor.2.1 4 = .ok (.lstore 6, 2) := by decide +kernel
theorem d_C_greatestDivisor_6 : decode m_C_greatestDivisor.2.1 6 = .ok (.iconst 0, 1) := by decide +kernel
theorem d_C_greatestDivisor_7 : decode m_C_greatestDivisor.2.1 7 = .ok (.istore 8, 2) := by decide +kernel
theorem d_C_greatestDivisor_9 : decode m_C_greatestDivisor.2.1 9 = .ok (.iload 8, 2) := by decide +kernel
theorem d_C_greatestDivisor_11 : decode m_C_greatestDivisor.2.1 11 = .ok (.bipush 100, 2) := by decide +kernel
theorem d_C_greatestDivisor_13 : decode m_C_greatestDivisor.2.1 13 = .ok (.if_icmp .ge 31, 3) := by decide +kernel
theorem d_C_greatestDivisor_16 : decode m_C_greatestDivisor.2.1 16 = .ok (.lload 6, 2) := by decide +kernel
theorem d_C_greatestDivisor_18 : decode m_C_greatestDivisor.2.1 18 = .ok (.lconst 0, 1) := by decide +kernel
theorem d_C_greatestDivisor_19 : decode m_C_greatestDivisor.2.1 19 = .ok (.lcmp, 1) := by decide +kernel
theorem d_C_greatestDivisor_20 : decode m_C_greatestDivisor.2.1 20 = .ok (.ifCond .eq 24, 3) := by decide +kernel
theorem d_C_greatestDivisor_23 : decode m_C_greatestDivisor.2.1 23 = .ok (.lload 4, 2) := by decide +kernel
theorem d_C_greatestDivisor_25 : decode m_C_greatestDivisor.2.1 25 = .ok (.lload 6, 2) := by decide +kernel
theorem d_C_greatestDivisor_27 : decode m_C_greatestDivisor.2.1 27 = .ok (.lrem, 1) := by decide +kernel
theorem d_C_greatestDivisor_28 : decode m_C_greatestDivisor.2.1 28 = .ok (.lstore 9, 2) := by decide +kernel
theorem d_C_greatestDivisor_30 : decode m_C_greatestDivisor.2.1 30 = .ok (.lload 6, 2) := by decide +kernel
theorem d_C_greatestDivisor_32 : decode m_C_greatestDivisor.2.1 32 = .ok (.lstore 4, 2) := by decide +kernel
theorem d_C_greatestDivisor_34 : decode m_C_greatestDivisor.2.1 34 = .ok (.lload 9, 2) := by decide +kernel
theorem d_C_greatestDivisor_36 : decode m_C_greatestDivisor.2.1 36 = .ok (.lstore 6, 2) := by decide +kernel
theorem d_C_greatestDivisor_38 : decode m_C_greatestDivisor.2.1 38 = .ok (.iinc 8 1, 3) := by decide +kernel
theorem d_C_greatestDivisor_41 : decode m_C_greatestDivisor.2.1 41 = .ok (.goto (-32), 3) := by decide +kernel
theorem d_C_greatestDivisor_44 : decode m_C_greatestDivisor.2.1 44 = .ok (.lload 4, 2) := by decide +kernel
theorem d_C_greatestDivisor_46 : decode m_C_greatestDivisor.2.1 46 = .ok (.lreturn, 1) := by decide +kernel
theorem d_L_init_0 : decode m_L_init.2.1 0 = .ok (.aload_n 0, 1) := by decide +kernel
theorem d_L_init_1 : decode m_L_init.2.1 1 = .ok (.invokespecial 3, 3) := by decide +kernel
theorem d_L_init_4 : decode m_L_init.2.1 4 = .ok (.aload_n 0, 1) := by decide +kernel
theorem d_L_init_5 : decode m_L_init.2.1 5 = .ok (.bipush 12, 2) := by decide +kernel
theorem d_L_init_7 : decode m_L_init.2.1 7 = .ok (.newarray .int, 2) := by decide +kernel
theorem d_L_init_9 : decode m_L_init.2.1 9 = .ok (.putfield 9, 3) := by decide +kernel
theorem d_L_init_12 : decode m_L_init.2.1 12 = .ok (.aload_n 0, 1) := by decide +kernel
theorem d_L_init_13 : decode m_L_init.2.1 13 = .ok (.bipush 12, 2) := by decide +kernel
theorem d_L_init_15 : decode m_L_init.2.1 15 = .ok (.newarray .int, 2) := by decide +kernel
theorem d_L_init_17 : decode m_L_init.2.1 17 = .ok (.putfield 15, 3) := by decide +kernel
theorem d_L_init_20 : decode m_L_init.2.1 20 = .ok (.return_, 1) := by decide +kernel
theorem d_L_listen_0 : decode m_L_listen.2.1 0 = .ok (.iconst 0, 1) := by decide +kernel
theorem d_L_listen_1 : decode m_L_listen.2.1 1 = .ok (.istore_n 2, 1) := by decide +kernel
theorem d_L_listen_2 : decode m_L_listen.2.1 2 = .ok (.iload_n 2, 1) := by decide +kernel
theorem d_L_listen_3 : decode m_L_listen.2.1 3 = .ok (.bipush 12, 2) := by decide +kernel
theorem d_L_listen_5 : decode m_L_listen.2.1 5 = .ok (.if_icmp .ge 24, 3) := by decide +kernel
theorem d_L_listen_8 : decode m_L_listen.2.1 8 = .ok (.aload_n 0, 1) := by decide +kernel
theorem d_L_listen_9 : decode m_L_listen.2.1 9 = .ok (.getfield 9, 3) := by decide +kernel
theorem d_L_listen_12 : decode m_L_listen.2.1 12 = .ok (.iload_n 2, 1) := by decide +kernel
theorem d_L_listen_13 : decode m_L_listen.2.1 13 = .ok (.aload_n 1, 1) := by decide +kernel
theorem d_L_listen_14 : decode m_L_listen.2.1 14 = .ok (.iload_n 2, 1) := by decide +kernel
theorem d_L_listen_15 : decode m_L_listen.2.1 15 = .ok (.aload_n 1, 1) := by decide +kernel
theorem d_L_listen_16 : decode m_L_listen.2.1 16 = .ok (.getfield 18, 3) := by decide +kernel
theorem d_L_listen_19 : decode m_L_listen.2.1 19 = .ok (.invokevirtual 24, 3) := by decide +kernel
theorem d_L_listen_22 : decode m_L_listen.2.1 22 = .ok (.iastore, 1) := by decide +kernel
theorem d_L_listen_23 : decode m_L_listen.2.1 23 = .ok (.iinc 2 1, 3) := by decide +kernel
theorem d_L_listen_26 : decode m_L_listen.2.1 26 = .ok (.goto (-24), 3) := by decide +kernel
theorem d_L_listen_29 : decode m_L_listen.2.1 29 = .ok (.iconst 0, 1) := by decide +kernel
theorem d_L_listen_30 : decode m_L_listen.2.1 30 = .ok (.istore_n 2, 1) := by decide +kernel
theorem d_L_listen_31 : decode m_L_listen.2.1 31 = .ok (.iload_n 2, 1) := by decide +kernel
theorem d_L_listen_32 : decode m_L_listen.2.1 32 = .ok (.bipush 12, 2) := by decide +kernel
theorem d_L_listen_34 : decode m_L_listen.2.1 34 = .ok (.if_icmp .ge 20, 3) := by decide +kernel
theorem d_L_listen_37 : decode m_L_listen.2.1 37 = .ok (.aload_n 0, 1) := by decide +kernel
theorem d_L_listen_38 : decode m_L_listen.2.1 38 = .ok (.getfield 15, 3) := by decide +kernel
theorem d_L_listen_41 : decode m_L_listen.2.1 41 = .ok (.iload_n 2, 1) := by decide +kernel
theorem d_L_listen_42 : decode m_L_listen.2.1 42 = .ok (.aload_n 0, 1) := by decide +kernel
theorem d_L_listen_43 : decode m_L_listen.2.1 43 = .ok (.iload_n 2, 1) := by decide +kernel
theorem d_L_listen_44 : decode m_L_listen.2.1 44 = .ok (.invokevirtual 28, 3) := by decide +kernel
theorem d_L_listen_47 : decode m_L_listen.2.1 47 = .ok (.iastore, 1) := by decide +kernel
theorem d_L_listen_48 : decode m_L_listen.2.1 48 = .ok (.iinc 2 1, 3) := by decide +kernel
theorem d_L_listen_51 : decode m_L_listen.2.1 51 = .ok (.goto (-20), 3) := by decide +kernel
theorem d_L_listen_54 : decode m_L_listen.2.1 54 = .ok (.return_, 1) := by decide +kernel
theorem d_L_placesFor_0 : decode m_L_placesFor.2.1 0 = .ok (.iconst 0, 1) := by decide +kernel
theorem d_L_placesFor_1 : decode m_L_placesFor.2.1 1 = .ok (.istore_n 2, 1) := by decide +kernel
theorem d_L_placesFor_2 : decode m_L_placesFor.2.1 2 = .ok (.iconst 0, 1) := by decide +kernel
theorem d_L_placesFor_3 : decode m_L_placesFor.2.1 3 = .ok (.istore_n 3, 1) := by decide +kernel
theorem d_L_placesFor_4 : decode m_L_placesFor.2.1 4 = .ok (.iload_n 3, 1) := by decide +kernel
theorem d_L_placesFor_5 : decode m_L_placesFor.2.1 5 = .ok (.bipush 12, 2) := by decide +kernel
theorem d_L_placesFor_7 : decode m_L_placesFor.2.1 7 = .ok (.if_icmp .ge 28, 3) := by decide +kernel
theorem d_L_placesFor_10 : decode m_L_placesFor.2.1 10 = .ok (.aload_n 0, 1) := by decide +kernel
theorem d_L_placesFor_11 : decode m_L_placesFor.2.1 11 = .ok (.getfield 9, 3) := by decide +kernel
theorem d_L_placesFor_14 : decode m_L_placesFor.2.1 14 = .ok (.iload_n 3, 1) := by decide +kernel
theorem d_L_placesFor_15 : decode m_L_placesFor.2.1 15 = .ok (.iaload, 1) := by decide +kernel
theorem d_L_placesFor_16 : decode m_L_placesFor.2.1 16 = .ok (.iload_n 1, 1) := by decide +kernel
theorem d_L_placesFor_17 : decode m_L_placesFor.2.1 17 = .ok (.invokestatic 32, 3) := by decide +kernel
theorem d_L_placesFor_20 : decode m_L_placesFor.2.1 20 = .ok (.ifCond .eq 9, 3) := by decide +kernel
theorem d_L_placesFor_23 : decode m_L_placesFor.2.1 23 = .ok (.iload_n 2, 1) := by decide +kernel
theorem d_L_placesFor_24 : decode m_L_placesFor.2.1 24 = .ok (.iconst 1, 1) := by decide +kernel
theorem d_L_placesFor_25 : decode m_L_placesFor.2.1 25 = .ok (.iload_n 3, 1) := by decide +kernel
theorem d_L_placesFor_26 : decode m_L_placesFor.2.1 26 = .ok (.ishl, 1) := by decide +kernel
theorem d_L_placesFor_27 : decode m_L_placesFor.2.1 27 = .ok (.ior, 1) := by decide +kernel
theorem d_L_placesFor_28 : decode m_L_placesFor.2.1 28 = .ok (.istore_n 2, 1) := by decide +kernel
theorem d_L_placesFor_29 : decode m_L_placesFor.2.1 29 = .ok (.iinc 3 1, 3) := by decide +kernel
theorem d_L_placesFor_32 : decode m_L_placesFor.2.1 32 = .ok (.goto (-28), 3) := by decide +kernel
theorem d_L_placesFor_35 : decode m_L_placesFor.2.1 35 = .ok (.iload_n 2, 1) := by decide +kernel
theorem d_L_placesFor_36 : decode m_L_placesFor.2.1 36 = .ok (.ireturn, 1) := by decide +kernel
theorem d_L_bestFor_0 : decode m_L_bestFor.2.1 0 = .ok (.bipush 12, 2) := by decide +kernel
theorem d_L_bestFor_2 : decode m_L_bestFor.2.1 2 = .ok (.istore_n 3, 1) := by decide +kernel
theorem d_L_bestFor_3 : decode m_L_bestFor.2.1 3 = .ok (.bipush (-6), 2) := by decide +kernel
theorem d_L_bestFor_5 : decode m_L_bestFor.2.1 5 = .ok (.istore 4, 2) := by decide +kernel
theorem d_L_bestFor_7 : decode m_L_bestFor.2.1 7 = .ok (.iconst 0, 1) := by decide +kernel
theorem d_L_bestFor_8 : decode m_L_bestFor.2.1 8 = .ok (.istore 5, 2) := by decide +kernel
theorem d_L_bestFor_10 : decode m_L_bestFor.2.1 10 = .ok (.iload 5, 2) := by decide +kernel
theorem d_L_bestFor_12 : decode m_L_bestFor.2.1 12 = .ok (.bipush 12, 2) := by decide +kernel
theorem d_L_bestFor_14 : decode m_L_bestFor.2.1 14 = .ok (.if_icmp .ge 50, 3) := by decide +kernel
theorem d_L_bestFor_17 : decode m_L_bestFor.2.1 17 = .ok (.aload_n 0, 1) := by decide +kernel
theorem d_L_bestFor_18 : decode m_L_bestFor.2.1 18 = .ok (.getfield 9, 3) := by decide +kernel
theorem d_L_bestFor_21 : decode m_L_bestFor.2.1 21 = .ok (.iload 5, 2) := by decide +kernel
theorem d_L_bestFor_23 : decode m_L_bestFor.2.1 23 = .ok (.iaload, 1) := by decide +kernel
theorem d_L_bestFor_24 : decode m_L_bestFor.2.1 24 = .ok (.invokestatic 36, 3) := by decide +kernel
theorem d_L_bestFor_27 : decode m_L_bestFor.2.1 27 = .ok (.iconst 1, 1) := by decide +kernel
theorem d_L_bestFor_28 : decode m_L_bestFor.2.1 28 = .ok (.isub, 1) := by decide +kernel
theorem d_L_bestFor_29 : decode m_L_bestFor.2.1 29 = .ok (.istore 6, 2) := by decide +kernel
theorem d_L_bestFor_31 : decode m_L_bestFor.2.1 31 = .ok (.aload_n 0, 1) := by decide +kernel
theorem d_L_bestFor_32 : decode m_L_bestFor.2.1 32 = .ok (.getfield 9, 3) := by decide +kernel
theorem d_L_bestFor_35 : decode m_L_bestFor.2.1 35 = .ok (.iload 5, 2) := by decide +kernel
theorem d_L_bestFor_37 : decode m_L_bestFor.2.1 37 = .ok (.iaload, 1) := by decide +kernel
theorem d_L_bestFor_38 : decode m_L_bestFor.2.1 38 = .ok (.iload_n 1, 1) := by decide +kernel
theorem d_L_bestFor_39 : decode m_L_bestFor.2.1 39 = .ok (.invokestatic 32, 3) := by decide +kernel
theorem d_L_bestFor_42 : decode m_L_bestFor.2.1 42 = .ok (.ifCond .eq 16, 3) := by decide +kernel
theorem d_L_bestFor_45 : decode m_L_bestFor.2.1 45 = .ok (.iload 6, 2) := by decide +kernel
theorem d_L_bestFor_47 : decode m_L_bestFor.2.1 47 = .ok (.iload_n 3, 1) := by decide +kernel
theorem d_L_bestFor_48 : decode m_L_bestFor.2.1 48 = .ok (.if_icmp .ge 10, 3) := by decide +kernel
theorem d_L_bestFor_51 : decode m_L_bestFor.2.1 51 = .ok (.iload 6, 2) := by decide +kernel
theorem d_L_bestFor_53 : decode m_L_bestFor.2.1 53 = .ok (.istore_n 3, 1) := by decide +kernel
theorem d_L_bestFor_54 : decode m_L_bestFor.2.1 54 = .ok (.iload 5, 2) := by decide +kernel
theorem d_L_bestFor_56 : decode m_L_bestFor.2.1 56 = .ok (.istore 4, 2) := by decide +kernel
theorem d_L_bestFor_58 : decode m_L_bestFor.2.1 58 = .ok (.iinc 5 1, 3) := by decide +kernel
theorem d_L_bestFor_61 : decode m_L_bestFor.2.1 61 = .ok (.goto (-51), 3) := by decide +kernel
theorem d_L_bestFor_64 : decode m_L_bestFor.2.1 64 = .ok (.iload_n 2, 1) := by decide +kernel
theorem d_L_bestFor_65 : decode m_L_bestFor.2.1 65 = .ok (.ifCond .eq 14, 3) := by decide +kernel
theorem d_L_bestFor_68 : decode m_L_bestFor.2.1 68 = .ok (.iload 4, 2) := by decide +kernel
theorem d_L_bestFor_70 : decode m_L_bestFor.2.1 70 = .ok (.bipush (-6), 2) := by decide +kernel
theorem d_L_bestFor_72 : decode m_L_bestFor.2.1 72 = .ok (.if_icmp .eq 7, 3) := by decide +kernel
theorem d_L_bestFor_75 : decode m_L_bestFor.2.1 75 = .ok (.iload_n 3, 1) := by decide +kernel
theorem d_L_bestFor_76 : decode m_L_bestFor.2.1 76 = .ok (.goto 5, 3) := by decide +kernel
theorem d_L_bestFor_79 : decode m_L_bestFor.2.1 79 = .ok (.iload 4, 2) := by decide +kernel
theorem d_L_bestFor_81 : decode m_L_bestFor.2.1 81 = .ok (.ireturn, 1) := by decide +kernel
theorem d_L_thirdsFor_0 : decode m_L_thirdsFor.2.1 0 = .ok (.iconst 0, 1) := by decide +kernel
theorem d_L_thirdsFor_1 : decode m_L_thirdsFor.2.1 1 = .ok (.istore_n 3, 1) := by decide +kernel
theorem d_L_thirdsFor_2 : decode m_L_thirdsFor.2.1 2 = .ok (.bipush (-6), 2) := by decide +kernel
theorem d_L_thirdsFor_4 : decode m_L_thirdsFor.2.1 4 = .ok (.istore 4, 2) := by decide +kernel
theorem d_L_thirdsFor_6 : decode m_L_thirdsFor.2.1 6 = .ok (.iconst 0, 1) := by decide +kernel
theorem d_L_thirdsFor_7 : decode m_L_thirdsFor.2.1 7 = .ok (.istore 5, 2) := by decide +kernel
theorem d_L_thirdsFor_9 : decode m_L_thirdsFor.2.1 9 = .ok (.iload 5, 2) := by decide +kernel
theorem d_L_thirdsFor_11 : decode m_L_thirdsFor.2.1 11 = .ok (.bipush 12, 2) := by decide +kernel
theorem d_L_thirdsFor_13 : decode m_L_thirdsFor.2.1 13 = .ok (.if_icmp .ge 99, 3) := by decide +kernel
theorem d_L_thirdsFor_16 : decode m_L_thirdsFor.2.1 16 = .ok (.iload 5, 2) := by decide +kernel
theorem d_L_thirdsFor_18 : decode m_L_thirdsFor.2.1 18 = .ok (.istore 6, 2) := by decide +kernel
theorem d_L_thirdsFor_20 : decode m_L_thirdsFor.2.1 20 = .ok (.iload 6, 2) := by decide +kernel
theorem d_L_thirdsFor_22 : decode m_L_thirdsFor.2.1 22 = .ok (.bipush 12, 2) := by decide +kernel
theorem d_L_thirdsFor_24 : decode m_L_thirdsFor.2.1 24 = .ok (.if_icmp .ge 82, 3) := by decide +kernel
theorem d_L_thirdsFor_27 : decode m_L_thirdsFor.2.1 27 = .ok (.iload 6, 2) := by decide +kernel
theorem d_L_thirdsFor_29 : decode m_L_thirdsFor.2.1 29 = .ok (.istore 7, 2) := by decide +kernel
theorem d_L_thirdsFor_31 : decode m_L_thirdsFor.2.1 31 = .ok (.iload 7, 2) := by decide +kernel
theorem d_L_thirdsFor_33 : decode m_L_thirdsFor.2.1 33 = .ok (.bipush 12, 2) := by decide +kernel
theorem d_L_thirdsFor_35 : decode m_L_thirdsFor.2.1 35 = .ok (.if_icmp .ge 65, 3) := by decide +kernel
theorem d_L_thirdsFor_38 : decode m_L_thirdsFor.2.1 38 = .ok (.aload_n 0, 1) := by decide +kernel
theorem d_L_thirdsFor_39 : decode m_L_thirdsFor.2.1 39 = .ok (.getfield 9, 3) := by decide +kernel
theorem d_L_thirdsFor_42 : decode m_L_thirdsFor.2.1 42 = .ok (.iload 5, 2) := by decide +kernel
theorem d_L_thirdsFor_44 : decode m_L_thirdsFor.2.1 44 = .ok (.iaload, 1) := by decide +kernel
theorem d_L_thirdsFor_45 : decode m_L_thirdsFor.2.1 45 = .ok (.aload_n 0, 1) := by decide +kernel
theorem d_L_thirdsFor_46 : decode m_L_thirdsFor.2.1 46 = .ok (.getfield 9, 3) := by decide +kernel
theorem d_L_thirdsFor_49 : decode m_L_thirdsFor.2.1 49 = .ok (.iload 6, 2) := by decide +kernel
theorem d_L_thirdsFor_51 : decode m_L_thirdsFor.2.1 51 = .ok (.iaload, 1) := by decide +kernel
theorem d_L_thirdsFor_52 : decode m_L_thirdsFor.2.1 52 = .ok (.iand, 1) := by decide +kernel
theorem d_L_thirdsFor_53 : decode m_L_thirdsFor.2.1 53 = .ok (.aload_n 0, 1) := by decide +kernel
theorem d_L_thirdsFor_54 : decode m_L_thirdsFor.2.1 54 = .ok (.getfield 9, 3) := by decide +kernel
theorem d_L_thirdsFor_57 : decode m_L_thirdsFor.2.1 57 = .ok (.iload 7, 2) := by decide +kernel
theorem d_L_thirdsFor_59 : decode m_L_thirdsFor.2.1 59 = .ok (.iaload, 1) := by decide +kernel
theorem d_L_thirdsFor_60 : decode m_L_thirdsFor.2.1 60 = .ok (.iand, 1) := by decide +kernel
theorem d_L_thirdsFor_61 : decode m_L_thirdsFor.2.1 61 = .ok (.iconst 1, 1) := by decide +kernel
theorem d_L_thirdsFor_62 : decode m_L_thirdsFor.2.1 62 = .ok (.iload_n 1, 1) := by decide +kernel
theorem d_L_thirdsFor_63 : decode m_L_thirdsFor.2.1 63 = .ok (.ishl, 1) := by decide +kernel
theorem d_L_thirdsFor_64 : decode m_L_thirdsFor.2.1 64 = .ok (.if_icmp .eq 6, 3) := by decide +kernel
theorem d_L_thirdsFor_67 : decode m_L_thirdsFor.2.1 67 = .ok (.goto 27, 3) := by decide +kernel
theorem d_L_thirdsFor_70 : decode m_L_thirdsFor.2.1 70 = .ok (.iload_n 3, 1) := by decide +kernel
theorem d_L_thirdsFor_71 : decode m_L_thirdsFor.2.1 71 = .ok (.ifCond .ne 20, 3) := by decide +kernel
theorem d_L_thirdsFor_74 : decode m_L_thirdsFor.2.1 74 = .ok (.sipush 10000, 3) := by decide +kernel
theorem d_L_thirdsFor_77 : decode m_L_thirdsFor.2.1 77 = .ok (.iload 5, 2) := by decide +kernel
theorem d_L_thirdsFor_79 : decode m_L_thirdsFor.2.1 79 = .ok (.imul, 1) := by decide +kernel
theorem d_L_thirdsFor_80 : decode m_L_thirdsFor.2.1 80 = .ok (.bipush 100, 2) := by decide +kernel
theorem d_L_thirdsFor_82 : decode m_L_thirdsFor.2.1 82 = .ok (.iload 6, 2) := by decide +kernel
theorem d_L_thirdsFor_84 : decode m_L_thirdsFor.2.1 84 = .ok (.imul, 1) := by decide +kernel
theorem d_L_thirdsFor_85 : decode m_L_thirdsFor.2.1 85 = .ok (.iadd, 1) := by decide +kernel
theorem d_L_thirdsFor_86 : decode m_L_thirdsFor.2.1 86 = .ok (.iload 7, 2) := by decide +kernel
theorem d_L_thirdsFor_88 : decode m_L_thirdsFor.2.1 88 = .ok (.iadd, 1) := by decide +kernel
theorem d_L_thirdsFor_89 : decode m_L_thirdsFor.2.1 89 = .ok (.istore 4, 2) := by decide +kernel
theorem d_L_thirdsFor_91 : decode m_L_thirdsFor.2.1 91 = .ok (.iinc 3 1, 3) := by decide +kernel
theorem d_L_thirdsFor_94 : decode m_L_thirdsFor.2.1 94 = .ok (.iinc 7 1, 3) := by decide +kernel
theorem d_L_thirdsFor_97 : decode m_L_thirdsFor.2.1 97 = .ok (.goto (-66), 3) := by decide +kernel
theorem d_L_thirdsFor_100 : decode m_L_thirdsFor.2.1 100 = .ok (.iinc 6 1, 3) := by decide +kernel
theorem d_L_thirdsFor_103 : decode m_L_thirdsFor.2.1 103 = .ok (.goto (-83), 3) := by decide +kernel
theorem d_L_thirdsFor_106 : decode m_L_thirdsFor.2.1 106 = .ok (.iinc 5 1, 3) := by decide +kernel
theorem d_L_thirdsFor_109 : decode m_L_thirdsFor.2.1 109 = .ok (.goto (-100), 3) := by decide +kernel
theorem d_L_thirdsFor_112 : decode m_L_thirdsFor.2.1 112 = .ok (.iload_n 2, 1) := by decide +kernel
theorem d_L_thirdsFor_113 : decode m_L_thirdsFor.2.1 113 = .ok (.ifCond .eq 7, 3) := by decide +kernel
theorem d_L_thirdsFor_116 : decode m_L_thirdsFor.2.1 116 = .ok (.iload_n 3, 1) := by decide +kernel
theorem d_L_thirdsFor_117 : decode m_L_thirdsFor.2.1 117 = .ok (.goto 5, 3) := by decide +kernel
theorem d_L_thirdsFor_120 : decode m_L_thirdsFor.2.1 120 = .ok (.iload 4, 2) := by decide +kernel
theorem d_L_thirdsFor_122 : decode m_L_thirdsFor.2.1 122 = .ok (.ireturn, 1) := by decide +kernel
theorem d_L_leastWalk_0 : decode m_L_leastWalk.2.1 0 = .ok (.bipush (-6), 2) := by decide +kernel
theorem d_L_leastWalk_2 : decode m_L_leastWalk.2.1 2 = .ok (.istore 4, 2) := by decide +kernel
theorem d_L_leastWalk_4 : decode m_L_leastWalk.2.1 4 = .ok (.bipush (-6), 2) := by decide +kernel
theorem d_L_leastWalk_6 : decode m_L_leastWalk.2.1 6 = .ok (.istore 5, 2) := by decide +kernel
theorem d_L_leastWalk_8 : decode m_L_leastWalk.2.1 8 = .ok (.iconst 0, 1) := by decide +kernel
theorem d_L_leastWalk_9 : decode m_L_leastWalk.2.1 9 = .ok (.istore 6, 2) := by decide +kernel
theorem d_L_leastWalk_11 : decode m_L_leastWalk.2.1 11 = .ok (.iload 6, 2) := by decide +kernel
theorem d_L_leastWalk_13 : decode m_L_leastWalk.2.1 13 = .ok (.aload_n 1, 1) := by decide +kernel
theorem d_L_leastWalk_14 : decode m_L_leastWalk.2.1 14 = .ok (.getfield 41, 3) := by decide +kernel
theorem d_L_leastWalk_17 : decode m_L_leastWalk.2.1 17 = .ok (.if_icmp .gt 102, 3) := by decide +kernel
theorem d_L_leastWalk_20 : decode m_L_leastWalk.2.1 20 = .ok (.aload_n 1, 1) := by decide +kernel
theorem d_L_leastWalk_21 : decode m_L_leastWalk.2.1 21 = .ok (.getfield 41, 3) := by decide +kernel
theorem d_L_leastWalk_24 : decode m_L_leastWalk.2.1 24 = .ok (.istore 7, 2) := by decide +kernel
theorem d_L_leastWalk_26 : decode m_L_leastWalk.2.1 26 = .ok (.iload 7, 2) := by decide +kernel
theorem d_L_leastWalk_28 : decode m_L_leastWalk.2.1 28 = .ok (.bipush 12, 2) := by decide +kernel
theorem d_L_leastWalk_30 : decode m_L_leastWalk.2.1 30 = .ok (.if_icmp .ge 83, 3) := by decide +kernel
theorem d_L_leastWalk_33 : decode m_L_leastWalk.2.1 33 = .ok (.aload_n 1, 1) := by decide +kernel
theorem d_L_leastWalk_34 : decode m_L_leastWalk.2.1 34 = .ok (.getfield 41, 3) := by decide +kernel
theorem d_L_leastWalk_37 : decode m_L_leastWalk.2.1 37 = .ok (.iload 6, 2) := by decide +kernel
theorem d_L_leastWalk_39 : decode m_L_leastWalk.2.1 39 = .ok (.isub, 1) := by decide +kernel
theorem d_L_leastWalk_40 : decode m_L_leastWalk.2.1 40 = .ok (.istore 8, 2) := by decide +kernel
theorem d_L_leastWalk_42 : decode m_L_leastWalk.2.1 42 = .ok (.iload 7, 2) := by decide +kernel
theorem d_L_leastWalk_44 : decode m_L_leastWalk.2.1 44 = .ok (.aload_n 1, 1) := by decide +kernel
theorem d_L_leastWalk_45 : decode m_L_leastWalk.2.1 45 = .ok (.getfield 41, 3) := by decide +kernel
theorem d_L_leastWalk_48 : decode m_L_leastWalk.2.1 48 = .ok (.isub, 1) := by decide +kernel
theorem d_L_leastWalk_49 : decode m_L_leastWalk.2.1 49 = .ok (.istore 9, 2) := by decide +kernel
theorem d_L_leastWalk_51 : decode m_L_leastWalk.2.1 51 = .ok (.iload 8, 2) := by decide +kernel
theorem d_L_leastWalk_53 : decode m_L_leastWalk.2.1 53 = .ok (.iload 9, 2) := by decide +kernel
theorem d_L_leastWalk_55 : decode m_L_leastWalk.2.1 55 = .ok (.iadd, 1) := by decide +kernel
theorem d_L_leastWalk_56 : decode m_L_leastWalk.2.1 56 = .ok (.iload 8, 2) := by decide +kernel
theorem d_L_leastWalk_58 : decode m_L_leastWalk.2.1 58 = .ok (.iload 9, 2) := by decide +kernel
theorem d_L_leastWalk_60 : decode m_L_leastWalk.2.1 60 = .ok (.invokestatic 44, 3) := by decide +kernel
theorem d_L_leastWalk_63 : decode m_L_leastWalk.2.1 63 = .ok (.iadd, 1) := by decide +kernel
theorem d_L_leastWalk_64 : decode m_L_leastWalk.2.1 64 = .ok (.istore 10, 2) := by decide +kernel
theorem d_L_leastWalk_66 : decode m_L_leastWalk.2.1 66 = .ok (.iload 4, 2) := by decide +kernel
theorem d_L_leastWalk_68 : decode m_L_leastWalk.2.1 68 = .ok (.bipush (-6), 2) := by decide +kernel
theorem d_L_leastWalk_70 : decode m_L_leastWalk.2.1 70 = .ok (.if_icmp .eq 13, 3) := by decide +kernel
theorem d_L_leastWalk_73 : decode m_L_leastWalk.2.1 73 = .ok (.iload 10, 2) := by decide +kernel
theorem d_L_leastWalk_75 : decode m_L_leastWalk.2.1 75 = .ok (.iload 4, 2) := by decide +kernel
theorem d_L_leastWalk_77 : decode m_L_leastWalk.2.1 77 = .ok (.if_icmp .lt 6, 3) := by decide +kernel
theorem d_L_leastWalk_80 : decode m_L_leastWalk.2.1 80 = .ok (.goto 27, 3) := by decide +kernel
theorem d_L_leastWalk_83 : decode m_L_leastWalk.2.1 83 = .ok (.aload_n 0, 1) := by decide +kernel
theorem d_L_leastWalk_84 : decode m_L_leastWalk.2.1 84 = .ok (.aload_n 1, 1) := by decide +kernel
theorem d_L_leastWalk_85 : decode m_L_leastWalk.2.1 85 = .ok (.iload_n 2, 1) := by decide +kernel
theorem d_L_leastWalk_86 : decode m_L_leastWalk.2.1 86 = .ok (.iload 6, 2) := by decide +kernel
theorem d_L_leastWalk_88 : decode m_L_leastWalk.2.1 88 = .ok (.iload 7, 2) := by decide +kernel
theorem d_L_leastWalk_90 : decode m_L_leastWalk.2.1 90 = .ok (.invokevirtual 49, 3) := by decide +kernel
theorem d_L_leastWalk_93 : decode m_L_leastWalk.2.1 93 = .ok (.ifCond .ne 6, 3) := by decide +kernel
theorem d_L_leastWalk_96 : decode m_L_leastWalk.2.1 96 = .ok (.goto 11, 3) := by decide +kernel
theorem d_L_leastWalk_99 : decode m_L_leastWalk.2.1 99 = .ok (.iload 10, 2) := by decide +kernel
theorem d_L_leastWalk_101 : decode m_L_leastWalk.2.1 101 = .ok (.istore 4, 2) := by decide +kernel
theorem d_L_leastWalk_103 : decode m_L_leastWalk.2.1 103 = .ok (.iload 6, 2) := by decide +kernel
theorem d_L_leastWalk_105 : decode m_L_leastWalk.2.1 105 = .ok (.istore 5, 2) := by decide +kernel
theorem d_L_leastWalk_107 : decode m_L_leastWalk.2.1 107 = .ok (.iinc 7 1, 3) := by decide +kernel
theorem d_L_leastWalk_110 : decode m_L_leastWalk.2.1 110 = .ok (.goto (-84), 3) := by decide +kernel
theorem d_L_leastWalk_113 : decode m_L_leastWalk.2.1 113 = .ok (.iinc 6 1, 3) := by decide +kernel
theorem d_L_leastWalk_116 : decode m_L_leastWalk.2.1 116 = .ok (.goto (-105), 3) := by decide +kernel
theorem d_L_leastWalk_119 : decode m_L_leastWalk.2.1 119 = .ok (.iload_n 3, 1) := by decide +kernel
theorem d_L_leastWalk_120 : decode m_L_leastWalk.2.1 120 = .ok (.ifCond .eq 8, 3) := by decide +kernel
theorem d_L_leastWalk_123 : decode m_L_leastWalk.2.1 123 = .ok (.iload 4, 2) := by decide +kernel
theorem d_L_leastWalk_125 : decode m_L_leastWalk.2.1 125 = .ok (.goto 5, 3) := by decide +kernel
theorem d_L_leastWalk_128 : decode m_L_leastWalk.2.1 128 = .ok (.iload 5, 2) := by decide +kernel
theorem d_L_leastWalk_130 : decode m_L_leastWalk.2.1 130 = .ok (.ireturn, 1) := by decide +kernel
theorem d_L_allCanBeRead_0 : decode m_L_allCanBeRead.2.1 0 = .ok (.iconst 1, 1) := by decide +kernel
theorem d_L_allCanBeRead_1 : decode m_L_allCanBeRead.2.1 1 = .ok (.iload 4, 2) := by decide +kernel
theorem d_L_allCanBeRead_3 : decode m_L_allCanBeRead.2.1 3 = .ok (.iconst 1, 1) := by decide +kernel
theorem d_L_allCanBeRead_4 : decode m_L_allCanBeRead.2.1 4 = .ok (.iadd, 1) := by decide +kernel
theorem d_L_allCanBeRead_5 : decode m_L_allCanBeRead.2.1 5 = .ok (.ishl, 1) := by decide +kernel
theorem d_L_allCanBeRead_6 : decode m_L_allCanBeRead.2.1 6 = .ok (.iconst 1, 1) := by decide +kernel
theorem d_L_allCanBeRead_7 : decode m_L_allCanBeRead.2.1 7 = .ok (.iload_n 3, 1) := by decide +kernel
theorem d_L_allCanBeRead_8 : decode m_L_allCanBeRead.2.1 8 = .ok (.ishl, 1) := by decide +kernel
theorem d_L_allCanBeRead_9 : decode m_L_allCanBeRead.2.1 9 = .ok (.isub, 1) := by decide +kernel
theorem d_L_allCanBeRead_10 : decode m_L_allCanBeRead.2.1 10 = .ok (.istore 5, 2) := by decide +kernel
theorem d_L_allCanBeRead_12 : decode m_L_allCanBeRead.2.1 12 = .ok (.iconst 0, 1) := by decide +kernel
theorem d_L_allCanBeRead_13 : decode m_L_allCanBeRead.2.1 13 = .ok (.istore 6, 2) := by decide +kernel
theorem d_L_allCanBeRead_15 : decode m_L_allCanBeRead.2.1 15 = .ok (.iload 6, 2) := by decide +kernel
theorem d_L_allCanBeRead_17 : decode m_L_allCanBeRead.2.1 17 = .ok (.bipush 6, 2) := by decide +kernel
theorem d_L_allCanBeRead_19 : decode m_L_allCanBeRead.2.1 19 = .ok (.if_icmp .ge 41, 3) := by decide +kernel
theorem d_L_allCanBeRead_22 : decode m_L_allCanBeRead.2.1 22 = .ok (.iload_n 2, 1) := by decide +kernel
theorem d_L_allCanBeRead_23 : decode m_L_allCanBeRead.2.1 23 = .ok (.iload 6, 2) := by decide +kernel
theorem d_L_allCanBeRead_25 : decode m_L_allCanBeRead.2.1 25 = .ok (.invokestatic 32, 3) := by decide +kernel
theorem d_L_allCanBeRead_28 : decode m_L_allCanBeRead.2.1 28 = .ok (.ifCond .ne 6, 3) := by decide +kernel
theorem d_L_allCanBeRead_31 : decode m_L_allCanBeRead.2.1 31 = .ok (.goto 23, 3) := by decide +kernel
theorem d_L_allCanBeRead_34 : decode m_L_allCanBeRead.2.1 34 = .ok (.aload_n 0, 1) := by decide +kernel
theorem d_L_allCanBeRead_35 : decode m_L_allCanBeRead.2.1 35 = .ok (.getfield 15, 3) := by decide +kernel
theorem d_L_allCanBeRead_38 : decode m_L_allCanBeRead.2.1 38 = .ok (.aload_n 1, 1) := by decide +kernel
theorem d_L_allCanBeRead_39 : decode m_L_allCanBeRead.2.1 39 = .ok (.getfield 53, 3) := by decide +kernel
theorem d_L_allCanBeRead_42 : decode m_L_allCanBeRead.2.1 42 = .ok (.iload 6, 2) := by decide +kernel
theorem d_L_allCanBeRead_44 : decode m_L_allCanBeRead.2.1 44 = .ok (.iaload, 1) := by decide +kernel
theorem d_L_allCanBeRead_45 : decode m_L_allCanBeRead.2.1 45 = .ok (.iaload, 1) := by decide +kernel
theorem d_L_allCanBeRead_46 : decode m_L_allCanBeRead.2.1 46 = .ok (.iload 5, 2) := by decide +kernel
theorem d_L_allCanBeRead_48 : decode m_L_allCanBeRead.2.1 48 = .ok (.iand, 1) := by decide +kernel
theorem d_L_allCanBeRead_49 : decode m_L_allCanBeRead.2.1 49 = .ok (.ifCond .ne 5, 3) := by decide +kernel
theorem d_L_allCanBeRead_52 : decode m_L_allCanBeRead.2.1 52 = .ok (.iconst 0, 1) := by decide +kernel
theorem d_L_allCanBeRead_53 : decode m_L_allCanBeRead.2.1 53 = .ok (.ireturn, 1) := by decide +kernel
theorem d_L_allCanBeRead_54 : decode m_L_allCanBeRead.2.1 54 = .ok (.iinc 6 1, 3) := by decide +kernel
theorem d_L_allCanBeRead_57 : decode m_L_allCanBeRead.2.1 57 = .ok (.goto (-42), 3) := by decide +kernel
theorem d_L_allCanBeRead_60 : decode m_L_allCanBeRead.2.1 60 = .ok (.iconst 1, 1) := by decide +kernel
theorem d_L_allCanBeRead_61 : decode m_L_allCanBeRead.2.1 61 = .ok (.ireturn, 1) := by decide +kernel
theorem d_L_placesThatFit_0 : decode m_L_placesThatFit.2.1 0 = .ok (.iconst 0, 1) := by decide +kernel
theorem d_L_placesThatFit_1 : decode m_L_placesThatFit.2.1 1 = .ok (.istore_n 2, 1) := by decide +kernel
theorem d_L_placesThatFit_2 : decode m_L_placesThatFit.2.1 2 = .ok (.iconst 0, 1) := by decide +kernel
theorem d_L_placesThatFit_3 : decode m_L_placesThatFit.2.1 3 = .ok (.istore_n 3, 1) := by decide +kernel
theorem d_L_placesThatFit_4 : decode m_L_placesThatFit.2.1 4 = .ok (.iload_n 3, 1) := by decide +kernel
theorem d_L_placesThatFit_5 : decode m_L_placesThatFit.2.1 5 = .ok (.bipush 12, 2) := by decide +kernel
theorem d_L_placesThatFit_7 : decode m_L_placesThatFit.2.1 7 = .ok (.if_icmp .ge 71, 3) := by decide +kernel
theorem d_L_placesThatFit_10 : decode m_L_placesThatFit.2.1 10 = .ok (.aload_n 0, 1) := by decide +kernel
theorem d_L_placesThatFit_11 : decode m_L_placesThatFit.2.1 11 = .ok (.getfield 9, 3) := by decide +kernel
theorem d_L_placesThatFit_14 : decode m_L_placesThatFit.2.1 14 = .ok (.iload_n 3, 1) := by decide +kernel
theorem d_L_placesThatFit_15 : decode m_L_placesThatFit.2.1 15 = .ok (.iaload, 1) := by decide +kernel
theorem d_L_placesThatFit_16 : decode m_L_placesThatFit.2.1 16 = .ok (.aload_n 1, 1) := by decide +kernel
theorem d_L_placesThatFit_17 : decode m_L_placesThatFit.2.1 17 = .ok (.getfield 56, 3) := by decide +kernel
theorem d_L_placesThatFit_20 : decode m_L_placesThatFit.2.1 20 = .ok (.iand, 1) := by decide +kernel
theorem d_L_placesThatFit_21 : decode m_L_placesThatFit.2.1 21 = .ok (.aload_n 1, 1) := by decide +kernel
theorem d_L_placesThatFit_22 : decode m_L_placesThatFit.2.1 22 = .ok (.getfield 56, 3) := by decide +kernel
theorem d_L_placesThatFit_25 : decode m_L_placesThatFit.2.1 25 = .ok (.if_icmp .ne 7, 3) := by decide +kernel
theorem d_L_placesThatFit_28 : decode m_L_placesThatFit.2.1 28 = .ok (.iconst 1, 1) := by decide +kernel
theorem d_L_placesThatFit_29 : decode m_L_placesThatFit.2.1 29 = .ok (.goto 4, 3) := by decide +kernel
theorem d_L_placesThatFit_32 : decode m_L_placesThatFit.2.1 32 = .ok (.iconst 0, 1) := by decide +kernel
theorem d_L_placesThatFit_33 : decode m_L_placesThatFit.2.1 33 = .ok (.istore 4, 2) := by decide +kernel
theorem d_L_placesThatFit_35 : decode m_L_placesThatFit.2.1 35 = .ok (.aload_n 0, 1) := by decide +kernel
theorem d_L_placesThatFit_36 : decode m_L_placesThatFit.2.1 36 = .ok (.getfield 9, 3) := by decide +kernel
theorem d_L_placesThatFit_39 : decode m_L_placesThatFit.2.1 39 = .ok (.iload_n 3, 1) := by decide +kernel
theorem d_L_placesThatFit_40 : decode m_L_placesThatFit.2.1 40 = .ok (.iaload, 1) := by decide +kernel
theorem d_L_placesThatFit_41 : decode m_L_placesThatFit.2.1 41 = .ok (.aload_n 1, 1) := by decide +kernel
theorem d_L_placesThatFit_42 : decode m_L_placesThatFit.2.1 42 = .ok (.getfield 59, 3) := by decide +kernel
theorem d_L_placesThatFit_45 : decode m_L_placesThatFit.2.1 45 = .ok (.iand, 1) := by decide +kernel
theorem d_L_placesThatFit_46 : decode m_L_placesThatFit.2.1 46 = .ok (.ifCond .ne 7, 3) := by decide +kernel
theorem d_L_placesThatFit_49 : decode m_L_placesThatFit.2.1 49 = .ok (.iconst 1, 1) := by decide +kernel
theorem d_L_placesThatFit_50 : decode m_L_placesThatFit.2.1 50 = .ok (.goto 4, 3) := by decide +kernel
theorem d_L_placesThatFit_53 : decode m_L_placesThatFit.2.1 53 = .ok (.iconst 0, 1) := by decide +kernel
theorem d_L_placesThatFit_54 : decode m_L_placesThatFit.2.1 54 = .ok (.istore 5, 2) := by decide +kernel
theorem d_L_placesThatFit_56 : decode m_L_placesThatFit.2.1 56 = .ok (.iload 4, 2) := by decide +kernel
theorem d_L_placesThatFit_58 : decode m_L_placesThatFit.2.1 58 = .ok (.ifCond .eq 14, 3) := by decide +kernel
theorem d_L_placesThatFit_61 : decode m_L_placesThatFit.2.1 61 = .ok (.iload 5, 2) := by decide +kernel
theorem d_L_placesThatFit_63 : decode m_L_placesThatFit.2.1 63 = .ok (.ifCond .eq 9, 3) := by decide +kernel
theorem d_L_placesThatFit_66 : decode m_L_placesThatFit.2.1 66 = .ok (.iload_n 2, 1) := by decide +kernel
theorem d_L_placesThatFit_67 : decode m_L_placesThatFit.2.1 67 = .ok (.iconst 1, 1) := by decide +kernel
theorem d_L_placesThatFit_68 : decode m_L_placesThatFit.2.1 68 = .ok (.iload_n 3, 1) := by decide +kernel
theorem d_L_placesThatFit_69 : decode m_L_placesThatFit.2.1 69 = .ok (.ishl, 1) := by decide +kernel
theorem d_L_placesThatFit_70 : decode m_L_placesThatFit.2.1 70 = .ok (.ior, 1) := by decide +kernel
theorem d_L_placesThatFit_71 : decode m_L_placesThatFit.2.1 71 = .ok (.istore_n 2, 1) := by decide +kernel
theorem d_L_placesThatFit_72 : decode m_L_placesThatFit.2.1 72 = .ok (.iinc 3 1, 3) := by decide +kernel
theorem d_L_placesThatFit_75 : decode m_L_placesThatFit.2.1 75 = .ok (.goto (-71), 3) := by decide +kernel
theorem d_L_placesThatFit_78 : decode m_L_placesThatFit.2.1 78 = .ok (.iload_n 2, 1) := by decide +kernel
theorem d_L_placesThatFit_79 : decode m_L_placesThatFit.2.1 79 = .ok (.ireturn, 1) := by decide +kernel
theorem d_L_bestToAsk_0 : decode m_L_bestToAsk.2.1 0 = .ok (.iload_n 1, 1) := by decide +kernel
theorem d_L_bestToAsk_1 : decode m_L_bestToAsk.2.1 1 = .ok (.invokestatic 36, 3) := by decide +kernel
theorem d_L_bestToAsk_4 : decode m_L_bestToAsk.2.1 4 = .ok (.istore_n 3, 1) := by decide +kernel
theorem d_L_bestToAsk_5 : decode m_L_bestToAsk.2.1 5 = .ok (.iload_n 3, 1) := by decide +kernel
theorem d_L_bestToAsk_6 : decode m_L_bestToAsk.2.1 6 = .ok (.iconst 1, 1) := by decide +kernel
theorem d_L_bestToAsk_7 : decode m_L_bestToAsk.2.1 7 = .ok (.iadd, 1) := by decide +kernel
theorem d_L_bestToAsk_8 : decode m_L_bestToAsk.2.1 8 = .ok (.istore 4, 2) := by decide +kernel
theorem d_L_bestToAsk_10 : decode m_L_bestToAsk.2.1 10 = .ok (.bipush (-6), 2) := by decide +kernel
theorem d_L_bestToAsk_12 : decode m_L_bestToAsk.2.1 12 = .ok (.istore 5, 2) := by decide +kernel
theorem d_L_bestToAsk_14 : decode m_L_bestToAsk.2.1 14 = .ok (.iconst 0, 1) := by decide +kernel
theorem d_L_bestToAsk_15 : decode m_L_bestToAsk.2.1 15 = .ok (.istore 6, 2) := by decide +kernel
theorem d_L_bestToAsk_17 : decode m_L_bestToAsk.2.1 17 = .ok (.iload 6, 2) := by decide +kernel
theorem d_L_bestToAsk_19 : decode m_L_bestToAsk.2.1 19 = .ok (.bipush 12, 2) := by decide +kernel
theorem d_L_bestToAsk_21 : decode m_L_bestToAsk.2.1 21 = .ok (.if_icmp .ge 49, 3) := by decide +kernel
theorem d_L_bestToAsk_24 : decode m_L_bestToAsk.2.1 24 = .ok (.iload_n 1, 1) := by decide +kernel
theorem d_L_bestToAsk_25 : decode m_L_bestToAsk.2.1 25 = .ok (.aload_n 0, 1) := by decide +kernel
theorem d_L_bestToAsk_26 : decode m_L_bestToAsk.2.1 26 = .ok (.getfield 15, 3) := by decide +kernel
theorem d_L_bestToAsk_29 : decode m_L_bestToAsk.2.1 29 = .ok (.iload 6, 2) := by decide +kernel
theorem d_L_bestToAsk_31 : decode m_L_bestToAsk.2.1 31 = .ok (.iaload, 1) := by decide +kernel
theorem d_L_bestToAsk_32 : decode m_L_bestToAsk.2.1 32 = .ok (.iand, 1) := by decide +kernel
theorem d_L_bestToAsk_33 : decode m_L_bestToAsk.2.1 33 = .ok (.invokestatic 36, 3) := by decide +kernel
theorem d_L_bestToAsk_36 : decode m_L_bestToAsk.2.1 36 = .ok (.istore 7, 2) := by decide +kernel
theorem d_L_bestToAsk_38 : decode m_L_bestToAsk.2.1 38 = .ok (.iload 7, 2) := by decide +kernel
theorem d_L_bestToAsk_40 : decode m_L_bestToAsk.2.1 40 = .ok (.iload_n 3, 1) := by decide +kernel
theorem d_L_bestToAsk_41 : decode m_L_bestToAsk.2.1 41 = .ok (.iload 7, 2) := by decide +kernel
theorem d_L_bestToAsk_43 : decode m_L_bestToAsk.2.1 43 = .ok (.isub, 1) := by decide +kernel
theorem d_L_bestToAsk_44 : decode m_L_bestToAsk.2.1 44 = .ok (.invokestatic 62, 3) := by decide +kernel
theorem d_L_bestToAsk_47 : decode m_L_bestToAsk.2.1 47 = .ok (.istore 8, 2) := by decide +kernel
theorem d_L_bestToAsk_49 : decode m_L_bestToAsk.2.1 49 = .ok (.iload 8, 2) := by decide +kernel
theorem d_L_bestToAsk_51 : decode m_L_bestToAsk.2.1 51 = .ok (.iload 4, 2) := by decide +kernel
theorem d_L_bestToAsk_53 : decode m_L_bestToAsk.2.1 53 = .ok (.if_icmp .ge 11, 3) := by decide +kernel
theorem d_L_bestToAsk_56 : decode m_L_bestToAsk.2.1 56 = .ok (.iload 8, 2) := by decide +kernel
theorem d_L_bestToAsk_58 : decode m_L_bestToAsk.2.1 58 = .ok (.istore 4, 2) := by decide +kernel
theorem d_L_bestToAsk_60 : decode m_L_bestToAsk.2.1 60 = .ok (.iload 6, 2) := by decide +kernel
theorem d_L_bestToAsk_62 : decode m_L_bestToAsk.2.1 62 = .ok (.istore 5, 2) := by decide +kernel
theorem d_L_bestToAsk_64 : decode m_L_bestToAsk.2.1 64 = .ok (.iinc 6 1, 3) := by decide +kernel
theorem d_L_bestToAsk_67 : decode m_L_bestToAsk.2.1 67 = .ok (.goto (-50), 3) := by decide +kernel
theorem d_L_bestToAsk_70 : decode m_L_bestToAsk.2.1 70 = .ok (.iload_n 2, 1) := by decide +kernel
theorem d_L_bestToAsk_71 : decode m_L_bestToAsk.2.1 71 = .ok (.ifCond .eq 8, 3) := by decide +kernel
theorem d_L_bestToAsk_74 : decode m_L_bestToAsk.2.1 74 = .ok (.iload 5, 2) := by decide +kernel
theorem d_L_bestToAsk_76 : decode m_L_bestToAsk.2.1 76 = .ok (.goto 5, 3) := by decide +kernel
theorem d_L_bestToAsk_79 : decode m_L_bestToAsk.2.1 79 = .ok (.iload 4, 2) := by decide +kernel
theorem d_L_bestToAsk_81 : decode m_L_bestToAsk.2.1 81 = .ok (.ireturn, 1) := by decide +kernel
theorem d_P_init_0 : decode m_P_init.2.1 0 = .ok (.aload_n 0, 1) := by decide +kernel
theorem d_P_init_1 : decode m_P_init.2.1 1 = .ok (.invokespecial 3, 3) := by decide +kernel
theorem d_P_init_4 : decode m_P_init.2.1 4 = .ok (.aload_n 0, 1) := by decide +kernel
theorem d_P_init_5 : decode m_P_init.2.1 5 = .ok (.bipush 60, 2) := by decide +kernel
theorem d_P_init_7 : decode m_P_init.2.1 7 = .ok (.newarray .int, 2) := by decide +kernel
theorem d_P_init_9 : decode m_P_init.2.1 9 = .ok (.putfield 9, 3) := by decide +kernel
theorem d_P_init_12 : decode m_P_init.2.1 12 = .ok (.aload_n 0, 1) := by decide +kernel
theorem d_P_init_13 : decode m_P_init.2.1 13 = .ok (.iconst 0, 1) := by decide +kernel
theorem d_P_init_14 : decode m_P_init.2.1 14 = .ok (.putfield 15, 3) := by decide +kernel
theorem d_P_init_17 : decode m_P_init.2.1 17 = .ok (.aload_n 0, 1) := by decide +kernel
theorem d_P_init_18 : decode m_P_init.2.1 18 = .ok (.iconst 0, 1) := by decide +kernel
theorem d_P_init_19 : decode m_P_init.2.1 19 = .ok (.putfield 19, 3) := by decide +kernel
theorem d_P_init_22 : decode m_P_init.2.1 22 = .ok (.aload_n 0, 1) := by decide +kernel
theorem d_P_init_23 : decode m_P_init.2.1 23 = .ok (.bipush (-6), 2) := by decide +kernel
theorem d_P_init_25 : decode m_P_init.2.1 25 = .ok (.putfield 22, 3) := by decide +kernel
theorem d_P_init_28 : decode m_P_init.2.1 28 = .ok (.aload_n 0, 1) := by decide +kernel
theorem d_P_init_29 : decode m_P_init.2.1 29 = .ok (.bipush (-6), 2) := by decide +kernel
theorem d_P_init_31 : decode m_P_init.2.1 31 = .ok (.putfield 25, 3) := by decide +kernel
theorem d_P_init_34 : decode m_P_init.2.1 34 = .ok (.aload_n 0, 1) := by decide +kernel
theorem d_P_init_35 : decode m_P_init.2.1 35 = .ok (.bipush (-6), 2) := by decide +kernel
theorem d_P_init_37 : decode m_P_init.2.1 37 = .ok (.putfield 28, 3) := by decide +kernel
theorem d_P_init_40 : decode m_P_init.2.1 40 = .ok (.return_, 1) := by decide +kernel
theorem d_P_write_0 : decode m_P_write.2.1 0 = .ok (.aload_n 0, 1) := by decide +kernel
theorem d_P_write_1 : decode m_P_write.2.1 1 = .ok (.getfield 15, 3) := by decide +kernel
theorem d_P_write_4 : decode m_P_write.2.1 4 = .ok (.bipush 60, 2) := by decide +kernel
theorem d_P_write_6 : decode m_P_write.2.1 6 = .ok (.if_icmp .lt 5, 3) := by decide +kernel
theorem d_P_write_9 : decode m_P_write.2.1 9 = .ok (.iconst 0, 1) := by decide +kernel
theorem d_P_write_10 : decode m_P_write.2.1 10 = .ok (.ireturn, 1) := by decide +kernel
theorem d_P_write_11 : decode m_P_write.2.1 11 = .ok (.aload_n 0, 1) := by decide +kernel
theorem d_P_write_12 : decode m_P_write.2.1 12 = .ok (.getfield 9, 3) := by decide +kernel
theorem d_P_write_15 : decode m_P_write.2.1 15 = .ok (.aload_n 0, 1) := by decide +kernel
theorem d_P_write_16 : decode m_P_write.2.1 16 = .ok (.getfield 15, 3) := by decide +kernel
theorem d_P_write_19 : decode m_P_write.2.1 19 = .ok (.iload_n 1, 1) := by decide +kernel
theorem d_P_write_20 : decode m_P_write.2.1 20 = .ok (.iastore, 1) := by decide +kernel
theorem d_P_write_21 : decode m_P_write.2.1 21 = .ok (.aload_n 0, 1) := by decide +kernel
theorem d_P_write_22 : decode m_P_write.2.1 22 = .ok (.dup, 1) := by decide +kernel
theorem d_P_write_23 : decode m_P_write.2.1 23 = .ok (.getfield 15, 3) := by decide +kernel
theorem d_P_write_26 : decode m_P_write.2.1 26 = .ok (.iconst 1, 1) := by decide +kernel
theorem d_P_write_27 : decode m_P_write.2.1 27 = .ok (.iadd, 1) := by decide +kernel
theorem d_P_write_28 : decode m_P_write.2.1 28 = .ok (.putfield 15, 3) := by decide +kernel
theorem d_P_write_31 : decode m_P_write.2.1 31 = .ok (.iconst 1, 1) := by decide +kernel
theorem d_P_write_32 : decode m_P_write.2.1 32 = .ok (.ireturn, 1) := by decide +kernel
theorem d_P_clean_0 : decode m_P_clean.2.1 0 = .ok (.aload_n 0, 1) := by decide +kernel
theorem d_P_clean_1 : decode m_P_clean.2.1 1 = .ok (.getfield 15, 3) := by decide +kernel
theorem d_P_clean_4 : decode m_P_clean.2.1 4 = .ok (.istore_n 1, 1) := by decide +kernel
theorem d_P_clean_5 : decode m_P_clean.2.1 5 = .ok (.aload_n 0, 1) := by decide +kernel
theorem d_P_clean_6 : decode m_P_clean.2.1 6 = .ok (.iconst 0, 1) := by decide +kernel
theorem d_P_clean_7 : decode m_P_clean.2.1 7 = .ok (.putfield 15, 3) := by decide +kernel
theorem d_P_clean_10 : decode m_P_clean.2.1 10 = .ok (.iload_n 1, 1) := by decide +kernel
theorem d_P_clean_11 : decode m_P_clean.2.1 11 = .ok (.ireturn, 1) := by decide +kernel
theorem d_P_faultPlace_0 : decode m_P_faultPlace.2.1 0 = .ok (.iconst 0, 1) := by decide +kernel
theorem d_P_faultPlace_1 : decode m_P_faultPlace.2.1 1 = .ok (.istore_n 1, 1) := by decide +kernel
theorem d_P_faultPlace_2 : decode m_P_faultPlace.2.1 2 = .ok (.iconst 0, 1) := by decide +kernel
theorem d_P_faultPlace_3 : decode m_P_faultPlace.2.1 3 = .ok (.istore_n 2, 1) := by decide +kernel
theorem d_P_faultPlace_4 : decode m_P_faultPlace.2.1 4 = .ok (.iload_n 2, 1) := by decide +kernel
theorem d_P_faultPlace_5 : decode m_P_faultPlace.2.1 5 = .ok (.aload_n 0, 1) := by decide +kernel
theorem d_P_faultPlace_6 : decode m_P_faultPlace.2.1 6 = .ok (.getfield 15, 3) := by decide +kernel
theorem d_P_faultPlace_9 : decode m_P_faultPlace.2.1 9 = .ok (.if_icmp .ge 46, 3) := by decide +kernel
theorem d_P_faultPlace_12 : decode m_P_faultPlace.2.1 12 = .ok (.aload_n 0, 1) := by decide +kernel
theorem d_P_faultPlace_13 : decode m_P_faultPlace.2.1 13 = .ok (.getfield 9, 3) := by decide +kernel
theorem d_P_faultPlace_16 : decode m_P_faultPlace.2.1 16 = .ok (.iload_n 2, 1) := by decide +kernel
theorem d_P_faultPlace_17 : decode m_P_faultPlace.2.1 17 = .ok (.iaload, 1) := by decide +kernel
theorem d_P_faultPlace_18 : decode m_P_faultPlace.2.1 18 = .ok (.invokestatic 31, 3) := by decide +kernel
theorem d_P_faultPlace_21 : decode m_P_faultPlace.2.1 21 = .ok (.istore_n 3, 1) := by decide +kernel
theorem d_P_faultPlace_22 : decode m_P_faultPlace.2.1 22 = .ok (.iload_n 3, 1) := by decide +kernel
theorem d_P_faultPlace_23 : decode m_P_faultPlace.2.1 23 = .ok (.bipush (-6), 2) := by decide +kernel
theorem d_P_faultPlace_25 : decode m_P_faultPlace.2.1 25 = .ok (.if_icmp .eq 11, 3) := by decide +kernel
theorem d_P_faultPlace_28 : decode m_P_faultPlace.2.1 28 = .ok (.iload_n 1, 1) := by decide +kernel
theorem d_P_faultPlace_29 : decode m_P_faultPlace.2.1 29 = .ok (.ifCond .eq 9, 3) := by decide +kernel
theorem d_P_faultPlace_32 : decode m_P_faultPlace.2.1 32 = .ok (.iload_n 3, 1) := by decide +kernel
theorem d_P_faultPlace_33 : decode m_P_faultPlace.2.1 33 = .ok (.ifCond .eq 5, 3) := by decide +kernel
theorem d_P_faultPlace_36 : decode m_P_faultPlace.2.1 36 = .ok (.iload_n 2, 1) := by decide +kernel
theorem d_P_faultPlace_37 : decode m_P_faultPlace.2.1 37 = .ok (.ireturn, 1) := by decide +kernel
theorem d_P_faultPlace_38 : decode m_P_faultPlace.2.1 38 = .ok (.iload_n 3, 1) := by decide +kernel
theorem d_P_faultPlace_39 : decode m_P_faultPlace.2.1 39 = .ok (.iconst 2, 1) := by decide +kernel
theorem d_P_faultPlace_40 : decode m_P_faultPlace.2.1 40 = .ok (.if_icmp .ne 7, 3) := by decide +kernel
theorem d_P_faultPlace_43 : decode m_P_faultPlace.2.1 43 = .ok (.iconst 1, 1) := by decide +kernel
theorem d_P_faultPlace_44 : decode m_P_faultPlace.2.1 44 = .ok (.goto 4, 3) := by decide +kernel
theorem d_P_faultPlace_47 : decode m_P_faultPlace.2.1 47 = .ok (.iconst 0, 1) := by decide +kernel
theorem d_P_faultPlace_48 : decode m_P_faultPlace.2.1 48 = .ok (.istore_n 1, 1) := by decide +kernel
theorem d_P_faultPlace_49 : decode m_P_faultPlace.2.1 49 = .ok (.iinc 2 1, 3) := by decide +kernel
theorem d_P_faultPlace_52 : decode m_P_faultPlace.2.1 52 = .ok (.goto (-48), 3) := by decide +kernel
theorem d_P_faultPlace_55 : decode m_P_faultPlace.2.1 55 = .ok (.iload_n 1, 1) := by decide +kernel
theorem d_P_faultPlace_56 : decode m_P_faultPlace.2.1 56 = .ok (.ifCond .eq 10, 3) := by decide +kernel
theorem d_P_faultPlace_59 : decode m_P_faultPlace.2.1 59 = .ok (.aload_n 0, 1) := by decide +kernel
theorem d_P_faultPlace_60 : decode m_P_faultPlace.2.1 60 = .ok (.getfield 15, 3) := by decide +kernel
theorem d_P_faultPlace_63 : decode m_P_faultPlace.2.1 63 = .ok (.goto 5, 3) := by decide +kernel
theorem d_P_faultPlace_66 : decode m_P_faultPlace.2.1 66 = .ok (.bipush (-6), 2) := by decide +kernel
theorem d_P_faultPlace_68 : decode m_P_faultPlace.2.1 68 = .ok (.ireturn, 1) := by decide +kernel
theorem d_P_kindOf_0 : decode m_P_kindOf.2.1 0 = .ok (.iload_n 0, 1) := by decide +kernel
theorem d_P_kindOf_1 : decode m_P_kindOf.2.1 1 = .ok (.bipush 97, 2) := by decide +kernel
theorem d_P_kindOf_3 : decode m_P_kindOf.2.1 3 = .ok (.if_icmp .lt 11, 3) := by decide +kernel
theorem d_P_kindOf_6 : decode m_P_kindOf.2.1 6 = .ok (.iload_n 0, 1) := by decide +kernel
theorem d_P_kindOf_7 : decode m_P_kindOf.2.1 7 = .ok (.bipush 109, 2) := by decide +kernel
theorem d_P_kindOf_9 : decode m_P_kindOf.2.1 9 = .ok (.if_icmp .ge 5, 3) := by decide +kernel
theorem d_P_kindOf_12 : decode m_P_kindOf.2.1 12 = .ok (.iconst 0, 1) := by decide +kernel
theorem d_P_kindOf_13 : decode m_P_kindOf.2.1 13 = .ok (.ireturn, 1) := by decide +kernel
theorem d_P_kindOf_14 : decode m_P_kindOf.2.1 14 = .ok (.iload_n 0, 1) := by decide +kernel
theorem d_P_kindOf_15 : decode m_P_kindOf.2.1 15 = .ok (.bipush 48, 2) := by decide +kernel
theorem d_P_kindOf_17 : decode m_P_kindOf.2.1 17 = .ok (.if_icmp .lt 11, 3) := by decide +kernel
theorem d_P_kindOf_20 : decode m_P_kindOf.2.1 20 = .ok (.iload_n 0, 1) := by decide +kernel
theorem d_P_kindOf_21 : decode m_P_kindOf.2.1 21 = .ok (.bipush 54, 2) := by decide +kernel
theorem d_P_kindOf_23 : decode m_P_kindOf.2.1 23 = .ok (.if_icmp .ge 5, 3) := by decide +kernel
theorem d_P_kindOf_26 : decode m_P_kindOf.2.1 26 = .ok (.iconst 1, 1) := by decide +kernel
theorem d_P_kindOf_27 : decode m_P_kindOf.2.1 27 = .ok (.ireturn, 1) := by decide +kernel
theorem d_P_kindOf_28 : decode m_P_kindOf.2.1 28 = .ok (.iload_n 0, 1) := by decide +kernel
theorem d_P_kindOf_29 : decode m_P_kindOf.2.1 29 = .ok (.bipush 33, 2) := by decide +kernel
theorem d_P_kindOf_31 : decode m_P_kindOf.2.1 31 = .ok (.if_icmp .ne 5, 3) := by decide +kernel
theorem d_P_kindOf_34 : decode m_P_kindOf.2.1 34 = .ok (.iconst 2, 1) := by decide +kernel
theorem d_P_kindOf_35 : decode m_P_kindOf.2.1 35 = .ok (.ireturn, 1) := by decide +kernel
theorem d_P_kindOf_36 : decode m_P_kindOf.2.1 36 = .ok (.iload_n 0, 1) := by decide +kernel
theorem d_P_kindOf_37 : decode m_P_kindOf.2.1 37 = .ok (.bipush 46, 2) := by decide +kernel
theorem d_P_kindOf_39 : decode m_P_kindOf.2.1 39 = .ok (.if_icmp .ne 7, 3) := by decide +kernel
theorem d_P_kindOf_42 : decode m_P_kindOf.2.1 42 = .ok (.iconst 3, 1) := by decide +kernel
theorem d_P_kindOf_43 : decode m_P_kindOf.2.1 43 = .ok (.goto 5, 3) := by decide +kernel
theorem d_P_kindOf_46 : decode m_P_kindOf.2.1 46 = .ok (.bipush (-6), 2) := by decide +kernel
theorem d_P_kindOf_48 : decode m_P_kindOf.2.1 48 = .ok (.ireturn, 1) := by decide +kernel
theorem d_P_numberOf_0 : decode m_P_numberOf.2.1 0 = .ok (.iload_n 0, 1) := by decide +kernel
theorem d_P_numberOf_1 : decode m_P_numberOf.2.1 1 = .ok (.invokestatic 31, 3) := by decide +kernel
theorem d_P_numberOf_4 : decode m_P_numberOf.2.1 4 = .ok (.istore_n 1, 1) := by decide +kernel
theorem d_P_numberOf_5 : decode m_P_numberOf.2.1 5 = .ok (.iload_n 1, 1) := by decide +kernel
theorem d_P_numberOf_6 : decode m_P_numberOf.2.1 6 = .ok (.ifCond .ne 8, 3) := by decide +kernel
theorem d_P_numberOf_9 : decode m_P_numberOf.2.1 9 = .ok (.iload_n 0, 1) := by decide +kernel
theorem d_P_numberOf_10 : decode m_P_numberOf.2.1 10 = .ok (.bipush 97, 2) := by decide +kernel
theorem d_P_numberOf_12 : decode m_P_numberOf.2.1 12 = .ok (.isub, 1) := by decide +kernel
theorem d_P_numberOf_13 : decode m_P_numberOf.2.1 13 = .ok (.ireturn, 1) := by decide +kernel
theorem d_P_numberOf_14 : decode m_P_numberOf.2.1 14 = .ok (.iload_n 1, 1) := by decide +kernel
theorem d_P_numberOf_15 : decode m_P_numberOf.2.1 15 = .ok (.iconst 1, 1) := by decide +kernel
theorem d_P_numberOf_16 : decode m_P_numberOf.2.1 16 = .ok (.if_icmp .ne 10, 3) := by decide +kernel
theorem d_P_numberOf_19 : decode m_P_numberOf.2.1 19 = .ok (.iload_n 0, 1) := by decide +kernel
theorem d_P_numberOf_20 : decode m_P_numberOf.2.1 20 = .ok (.bipush 48, 2) := by decide +kernel
theorem d_P_numberOf_22 : decode m_P_numberOf.2.1 22 = .ok (.isub, 1) := by decide +kernel
theorem d_P_numberOf_23 : decode m_P_numberOf.2.1 23 = .ok (.goto 4, 3) := by decide +kernel
theorem d_P_numberOf_26 : decode m_P_numberOf.2.1 26 = .ok (.iconst 0, 1) := by decide +kernel
theorem d_P_numberOf_27 : decode m_P_numberOf.2.1 27 = .ok (.ireturn, 1) := by decide +kernel
theorem d_P_playsToTheEnd_0 : decode m_P_playsToTheEnd.2.1 0 = .ok (.aload_n 0, 1) := by decide +kernel
theorem d_P_playsToTheEnd_1 : decode m_P_playsToTheEnd.2.1 1 = .ok (.invokevirtual 35, 3) := by decide +kernel
theorem d_P_playsToTheEnd_4 : decode m_P_playsToTheEnd.2.1 4 = .ok (.bipush (-6), 2) := by decide +kernel
theorem d_P_playsToTheEnd_6 : decode m_P_playsToTheEnd.2.1 6 = .ok (.if_icmp .eq 5, 3) := by decide +kernel
theorem d_P_playsToTheEnd_9 : decode m_P_playsToTheEnd.2.1 9 = .ok (.iconst 0, 1) := by decide +kernel
theorem d_P_playsToTheEnd_10 : decode m_P_playsToTheEnd.2.1 10 = .ok (.ireturn, 1) := by decide +kernel
theorem d_P_playsToTheEnd_11 : decode m_P_playsToTheEnd.2.1 11 = .ok (.aload_n 2, 1) := by decide +kernel
theorem d_P_playsToTheEnd_12 : decode m_P_playsToTheEnd.2.1 12 = .ok (.aload_n 1, 1) := by decide +kernel
theorem d_P_playsToTheEnd_13 : decode m_P_playsToTheEnd.2.1 13 = .ok (.invokevirtual 39, 3) := by decide +kernel
theorem d_P_playsToTheEnd_16 : decode m_P_playsToTheEnd.2.1 16 = .ok (.aload_n 0, 1) := by decide +kernel
theorem d_P_playsToTheEnd_17 : decode m_P_playsToTheEnd.2.1 17 = .ok (.iconst 0, 1) := by decide +kernel
theorem d_P_playsToTheEnd_18 : decode m_P_playsToTheEnd.2.1 18 = .ok (.putfield 19, 3) := by decide +kernel
theorem d_P_playsToTheEnd_21 : decode m_P_playsToTheEnd.2.1 21 = .ok (.aload_n 0, 1) := by decide +kernel
theorem d_P_playsToTheEnd_22 : decode m_P_playsToTheEnd.2.1 22 = .ok (.bipush (-6), 2) := by decide +kernel
theorem d_P_playsToTheEnd_24 : decode m_P_playsToTheEnd.2.1 24 = .ok (.putfield 22, 3) := by decide +kernel
theorem d_P_playsToTheEnd_27 : decode m_P_playsToTheEnd.2.1 27 = .ok (.aload_n 0, 1) := by decide +kernel
theorem d_P_playsToTheEnd_28 : decode m_P_playsToTheEnd.2.1 28 = .ok (.bipush (-6), 2) := by decide +kernel
theorem d_P_playsToTheEnd_30 : decode m_P_playsToTheEnd.2.1 30 = .ok (.putfield 25, 3) := by decide +kernel
theorem d_P_playsToTheEnd_33 : decode m_P_playsToTheEnd.2.1 33 = .ok (.aload_n 0, 1) := by decide +kernel
theorem d_P_playsToTheEnd_34 : decode m_P_playsToTheEnd.2.1 34 = .ok (.bipush (-6), 2) := by decide +kernel
theorem d_P_playsToTheEnd_36 : decode m_P_playsToTheEnd.2.1 36 = .ok (.putfield 28, 3) := by decide +kernel
theorem d_P_playsToTheEnd_39 : decode m_P_playsToTheEnd.2.1 39 = .ok (.iconst 0, 1) := by decide +kernel
theorem d_P_playsToTheEnd_40 : decode m_P_playsToTheEnd.2.1 40 = .ok (.istore_n 3, 1) := by decide +kernel
theorem d_P_playsToTheEnd_41 : decode m_P_playsToTheEnd.2.1 41 = .ok (.iload_n 3, 1) := by decide +kernel
theorem d_P_playsToTheEnd_42 : decode m_P_playsToTheEnd.2.1 42 = .ok (.aload_n 0, 1) := by decide +kernel
theorem d_P_playsToTheEnd_43 : decode m_P_playsToTheEnd.2.1 43 = .ok (.getfield 15, 3) := by decide +kernel
theorem d_P_playsToTheEnd_46 : decode m_P_playsToTheEnd.2.1 46 = .ok (.if_icmp .ge 64, 3) := by decide +kernel
theorem d_P_playsToTheEnd_49 : decode m_P_playsToTheEnd.2.1 49 = .ok (.aload_n 0, 1) := by decide +kernel
theorem d_P_playsToTheEnd_50 : decode m_P_playsToTheEnd.2.1 50 = .ok (.getfield 22, 3) := by decide +kernel
theorem d_P_playsToTheEnd_53 : decode m_P_playsToTheEnd.2.1 53 = .ok (.bipush (-6), 2) := by decide +kernel
theorem d_P_playsToTheEnd_55 : decode m_P_playsToTheEnd.2.1 55 = .ok (.if_icmp .ne 55, 3) := by decide +kernel
theorem d_P_playsToTheEnd_58 : decode m_P_playsToTheEnd.2.1 58 = .ok (.aload_n 0, 1) := by decide +kernel
theorem d_P_playsToTheEnd_59 : decode m_P_playsToTheEnd.2.1 59 = .ok (.getfield 9, 3) := by decide +kernel
theorem d_P_playsToTheEnd_62 : decode m_P_playsToTheEnd.2.1 62 = .ok (.iload_n 3, 1) := by decide +kernel
theorem d_P_playsToTheEnd_63 : decode m_P_playsToTheEnd.2.1 63 = .ok (.iaload, 1) := by decide +kernel
theorem d_P_playsToTheEnd_64 : decode m_P_playsToTheEnd.2.1 64 = .ok (.invokestatic 31, 3) := by decide +kernel
theorem d_P_playsToTheEnd_67 : decode m_P_playsToTheEnd.2.1 67 = .ok (.istore 4, 2) := by decide +kernel
theorem d_P_playsToTheEnd_69 : decode m_P_playsToTheEnd.2.1 69 = .ok (.iload 4, 2) := by decide +kernel
theorem d_P_playsToTheEnd_71 : decode m_P_playsToTheEnd.2.1 71 = .ok (.iconst 2, 1) := by decide +kernel
theorem d_P_playsToTheEnd_72 : decode m_P_playsToTheEnd.2.1 72 = .ok (.if_icmp .ne 16, 3) := by decide +kernel
theorem d_P_playsToTheEnd_75 : decode m_P_playsToTheEnd.2.1 75 = .ok (.iload_n 3, 1) := by decide +kernel
theorem d_P_playsToTheEnd_76 : decode m_P_playsToTheEnd.2.1 76 = .ok (.iconst 1, 1) := by decide +kernel
theorem d_P_playsToTheEnd_77 : decode m_P_playsToTheEnd.2.1 77 = .ok (.iadd, 1) := by decide +kernel
theorem d_P_playsToTheEnd_78 : decode m_P_playsToTheEnd.2.1 78 = .ok (.aload_n 0, 1) := by decide +kernel
theorem d_P_playsToTheEnd_79 : decode m_P_playsToTheEnd.2.1 79 = .ok (.getfield 15, 3) := by decide +kernel
theorem d_P_playsToTheEnd_82 : decode m_P_playsToTheEnd.2.1 82 = .ok (.if_icmp .ge 6, 3) := by decide +kernel
theorem d_P_playsToTheEnd_85 : decode m_P_playsToTheEnd.2.1 85 = .ok (.iinc 3 1, 3) := by decide +kernel
theorem d_P_playsToTheEnd_88 : decode m_P_playsToTheEnd.2.1 88 = .ok (.aload_n 0, 1) := by decide +kernel
theorem d_P_playsToTheEnd_89 : decode m_P_playsToTheEnd.2.1 89 = .ok (.aload_n 2, 1) := by decide +kernel
theorem d_P_playsToTheEnd_90 : decode m_P_playsToTheEnd.2.1 90 = .ok (.iload 4, 2) := by decide +kernel
theorem d_P_playsToTheEnd_92 : decode m_P_playsToTheEnd.2.1 92 = .ok (.aload_n 0, 1) := by decide +kernel
theorem d_P_playsToTheEnd_93 : decode m_P_playsToTheEnd.2.1 93 = .ok (.getfield 9, 3) := by decide +kernel
theorem d_P_playsToTheEnd_96 : decode m_P_playsToTheEnd.2.1 96 = .ok (.iload_n 3, 1) := by decide +kernel
theorem d_P_playsToTheEnd_97 : decode m_P_playsToTheEnd.2.1 97 = .ok (.iaload, 1) := by decide +kernel
theorem d_P_playsToTheEnd_98 : decode m_P_playsToTheEnd.2.1 98 = .ok (.invokestatic 45, 3) := by decide +kernel
theorem d_P_playsToTheEnd_101 : decode m_P_playsToTheEnd.2.1 101 = .ok (.invokevirtual 48, 3) := by decide +kernel
theorem d_P_playsToTheEnd_104 : decode m_P_playsToTheEnd.2.1 104 = .ok (.iinc 3 1, 3) := by decide +kernel
theorem d_P_playsToTheEnd_107 : decode m_P_playsToTheEnd.2.1 107 = .ok (.goto (-66), 3) := by decide +kernel
theorem d_P_playsToTheEnd_110 : decode m_P_playsToTheEnd.2.1 110 = .ok (.aload_n 0, 1) := by decide +kernel
theorem d_P_playsToTheEnd_111 : decode m_P_playsToTheEnd.2.1 111 = .ok (.getfield 22, 3) := by decide +kernel
theorem d_P_playsToTheEnd_114 : decode m_P_playsToTheEnd.2.1 114 = .ok (.bipush (-6), 2) := by decide +kernel
theorem d_P_playsToTheEnd_116 : decode m_P_playsToTheEnd.2.1 116 = .ok (.if_icmp .ne 7, 3) := by decide +kernel
theorem d_P_playsToTheEnd_119 : decode m_P_playsToTheEnd.2.1 119 = .ok (.iconst 1, 1) := by decide +kernel
theorem d_P_playsToTheEnd_120 : decode m_P_playsToTheEnd.2.1 120 = .ok (.goto 4, 3) := by decide +kernel
theorem d_P_playsToTheEnd_123 : decode m_P_playsToTheEnd.2.1 123 = .ok (.iconst 0, 1) := by decide +kernel
theorem d_P_playsToTheEnd_124 : decode m_P_playsToTheEnd.2.1 124 = .ok (.ireturn, 1) := by decide +kernel
theorem d_P_playAct_0 : decode m_P_playAct.2.1 0 = .ok (.aload_n 1, 1) := by decide +kernel
theorem d_P_playAct_1 : decode m_P_playAct.2.1 1 = .ok (.iload_n 2, 1) := by decide +kernel
theorem d_P_playAct_2 : decode m_P_playAct.2.1 2 = .ok (.iload_n 3, 1) := by decide +kernel
theorem d_P_playAct_3 : decode m_P_playAct.2.1 3 = .ok (.invokevirtual 52, 3) := by decide +kernel
theorem d_P_playAct_6 : decode m_P_playAct.2.1 6 = .ok (.istore 4, 2) := by decide +kernel
theorem d_P_playAct_8 : decode m_P_playAct.2.1 8 = .ok (.iload 4, 2) := by decide +kernel
theorem d_P_playAct_10 : decode m_P_playAct.2.1 10 = .ok (.ifCond .eq 18, 3) := by decide +kernel
theorem d_P_playAct_13 : decode m_P_playAct.2.1 13 = .ok (.aload_n 0, 1) := by decide +kernel
theorem d_P_playAct_14 : decode m_P_playAct.2.1 14 = .ok (.aload_n 0, 1) := by decide +kernel
theorem d_P_playAct_15 : decode m_P_playAct.2.1 15 = .ok (.getfield 19, 3) := by decide +kernel
theorem d_P_playAct_18 : decode m_P_playAct.2.1 18 = .ok (.putfield 22, 3) := by decide +kernel
theorem d_P_playAct_21 : decode m_P_playAct.2.1 21 = .ok (.aload_n 0, 1) := by decide +kernel
theorem d_P_playAct_22 : decode m_P_playAct.2.1 22 = .ok (.iload 4, 2) := by decide +kernel
theorem d_P_playAct_24 : decode m_P_playAct.2.1 24 = .ok (.putfield 25, 3) := by decide +kernel
theorem d_P_playAct_27 : decode m_P_playAct.2.1 27 = .ok (.return_, 1) := by decide +kernel
theorem d_P_playAct_28 : decode m_P_playAct.2.1 28 = .ok (.iload_n 2, 1) := by decide +kernel
theorem d_P_playAct_29 : decode m_P_playAct.2.1 29 = .ok (.iconst 1, 1) := by decide +kernel
theorem d_P_playAct_30 : decode m_P_playAct.2.1 30 = .ok (.if_icmp .ne 28, 3) := by decide +kernel
theorem d_P_playAct_33 : decode m_P_playAct.2.1 33 = .ok (.aload_n 0, 1) := by decide +kernel
theorem d_P_playAct_34 : decode m_P_playAct.2.1 34 = .ok (.getfield 28, 3) := by decide +kernel
theorem d_P_playAct_37 : decode m_P_playAct.2.1 37 = .ok (.bipush (-6), 2) := by decide +kernel
theorem d_P_playAct_39 : decode m_P_playAct.2.1 39 = .ok (.if_icmp .ne 19, 3) := by decide +kernel
theorem d_P_playAct_42 : decode m_P_playAct.2.1 42 = .ok (.aload_n 1, 1) := by decide +kernel
theorem d_P_playAct_43 : decode m_P_playAct.2.1 43 = .ok (.iload_n 3, 1) := by decide +kernel
theorem d_P_playAct_44 : decode m_P_playAct.2.1 44 = .ok (.invokestatic 56, 3) := by decide +kernel
theorem d_P_playAct_47 : decode m_P_playAct.2.1 47 = .ok (.ifCond .eq 11, 3) := by decide +kernel
theorem d_P_playAct_50 : decode m_P_playAct.2.1 50 = .ok (.aload_n 0, 1) := by decide +kernel
theorem d_P_playAct_51 : decode m_P_playAct.2.1 51 = .ok (.aload_n 0, 1) := by decide +kernel
theorem d_P_playAct_52 : decode m_P_playAct.2.1 52 = .ok (.getfield 19, 3) := by decide +kernel
theorem d_P_playAct_55 : decode m_P_playAct.2.1 55 = .ok (.putfield 28, 3) := by decide +kernel
theorem d_P_playAct_58 : decode m_P_playAct.2.1 58 = .ok (.aload_n 1, 1) := by decide +kernel
theorem d_P_playAct_59 : decode m_P_playAct.2.1 59 = .ok (.iload_n 2, 1) := by decide +kernel
theorem d_P_playAct_60 : decode m_P_playAct.2.1 60 = .ok (.iload_n 3, 1) := by decide +kernel
theorem d_P_playAct_61 : decode m_P_playAct.2.1 61 = .ok (.invokevirtual 60, 3) := by decide +kernel
theorem d_P_playAct_64 : decode m_P_playAct.2.1 64 = .ok (.aload_n 0, 1) := by decide +kernel
theorem d_P_playAct_65 : decode m_P_playAct.2.1 65 = .ok (.dup, 1) := by decide +kernel
theorem d_P_playAct_66 : decode m_P_playAct.2.1 66 = .ok (.getfield 19, 3) := by decide +kernel
theorem d_P_playAct_69 : decode m_P_playAct.2.1 69 = .ok (.iconst 1, 1) := by decide +kernel
theorem d_P_playAct_70 : decode m_P_playAct.2.1 70 = .ok (.iadd, 1) := by decide +kernel
theorem d_P_playAct_71 : decode m_P_playAct.2.1 71 = .ok (.putfield 19, 3) := by decide +kernel
theorem d_P_playAct_74 : decode m_P_playAct.2.1 74 = .ok (.return_, 1) := by decide +kernel
theorem d_P_goesAstray_0 : decode m_P_goesAstray.2.1 0 = .ok (.aload_n 0, 1) := by decide +kernel
theorem d_P_goesAstray_1 : decode m_P_goesAstray.2.1 1 = .ok (.aload_n 0, 1) := by decide +kernel
theorem d_P_goesAstray_2 : decode m_P_goesAstray.2.1 2 = .ok (.getfield 64, 3) := by decide +kernel
theorem d_P_goesAstray_5 : decode m_P_goesAstray.2.1 5 = .ok (.aload_n 0, 1) := by decide +kernel
theorem d_P_goesAstray_6 : decode m_P_goesAstray.2.1 6 = .ok (.getfield 67, 3) := by decide +kernel
theorem d_P_goesAstray_9 : decode m_P_goesAstray.2.1 9 = .ok (.invokevirtual 70, 3) := by decide +kernel
theorem d_P_goesAstray_12 : decode m_P_goesAstray.2.1 12 = .ok (.aload_n 0, 1) := by decide +kernel
theorem d_P_goesAstray_13 : decode m_P_goesAstray.2.1 13 = .ok (.getfield 73, 3) := by decide +kernel
theorem d_P_goesAstray_16 : decode m_P_goesAstray.2.1 16 = .ok (.iload_n 1, 1) := by decide +kernel
theorem d_P_goesAstray_17 : decode m_P_goesAstray.2.1 17 = .ok (.iaload, 1) := by decide +kernel
theorem d_P_goesAstray_18 : decode m_P_goesAstray.2.1 18 = .ok (.invokestatic 76, 3) := by decide +kernel
theorem d_P_goesAstray_21 : decode m_P_goesAstray.2.1 21 = .ok (.ifCond .ne 7, 3) := by decide +kernel
theorem d_P_goesAstray_24 : decode m_P_goesAstray.2.1 24 = .ok (.iconst 1, 1) := by decide +kernel
theorem d_P_goesAstray_25 : decode m_P_goesAstray.2.1 25 = .ok (.goto 4, 3) := by decide +kernel
theorem d_P_goesAstray_28 : decode m_P_goesAstray.2.1 28 = .ok (.iconst 0, 1) := by decide +kernel
theorem d_P_goesAstray_29 : decode m_P_goesAstray.2.1 29 = .ok (.ireturn, 1) := by decide +kernel
theorem d_S_init_0 : decode m_S_init.2.1 0 = .ok (.aload_n 0, 1) := by decide +kernel
theorem d_S_init_1 : decode m_S_init.2.1 1 = .ok (.invokespecial 3, 3) := by decide +kernel
theorem d_S_init_4 : decode m_S_init.2.1 4 = .ok (.aload_n 0, 1) := by decide +kernel
theorem d_S_init_5 : decode m_S_init.2.1 5 = .ok (.bipush 12, 2) := by decide +kernel
theorem d_S_init_7 : decode m_S_init.2.1 7 = .ok (.newarray .int, 2) := by decide +kernel
theorem d_S_init_9 : decode m_S_init.2.1 9 = .ok (.putfield 9, 3) := by decide +kernel
theorem d_S_init_12 : decode m_S_init.2.1 12 = .ok (.aload_n 0, 1) := by decide +kernel
theorem d_S_init_13 : decode m_S_init.2.1 13 = .ok (.bipush 11, 2) := by decide +kernel
theorem d_S_init_15 : decode m_S_init.2.1 15 = .ok (.newarray .int, 2) := by decide +kernel
theorem d_S_init_17 : decode m_S_init.2.1 17 = .ok (.putfield 15, 3) := by decide +kernel
theorem d_S_init_20 : decode m_S_init.2.1 20 = .ok (.aload_n 0, 1) := by decide +kernel
theorem d_S_init_21 : decode m_S_init.2.1 21 = .ok (.bipush 6, 2) := by decide +kernel
theorem d_S_init_23 : decode m_S_init.2.1 23 = .ok (.newarray .int, 2) := by decide +kernel
theorem d_S_init_25 : decode m_S_init.2.1 25 = .ok (.putfield 18, 3) := by decide +kernel
theorem d_S_init_28 : decode m_S_init.2.1 28 = .ok (.aload_n 0, 1) := by decide +kernel
theorem d_S_init_29 : decode m_S_init.2.1 29 = .ok (.bipush 6, 2) := by decide +kernel
theorem d_S_init_31 : decode m_S_init.2.1 31 = .ok (.newarray .int, 2) := by decide +kernel
theorem d_S_init_33 : decode m_S_init.2.1 33 = .ok (.putfield 21, 3) := by decide +kernel
theorem d_S_init_36 : decode m_S_init.2.1 36 = .ok (.aload_n 0, 1) := by decide +kernel
theorem d_S_init_37 : decode m_S_init.2.1 37 = .ok (.bipush 6, 2) := by decide +kernel
theorem d_S_init_39 : decode m_S_init.2.1 39 = .ok (.newarray .int, 2) := by decide +kernel
theorem d_S_init_41 : decode m_S_init.2.1 41 = .ok (.putfield 24, 3) := by decide +kernel
theorem d_S_init_44 : decode m_S_init.2.1 44 = .ok (.aload_n 0, 1) := by decide +kernel
theorem d_S_init_45 : decode m_S_init.2.1 45 = .ok (.bipush 6, 2) := by decide +kernel
theorem d_S_init_47 : decode m_S_init.2.1 47 = .ok (.newarray .int, 2) := by decide +kernel
theorem d_S_init_49 : decode m_S_init.2.1 49 = .ok (.putfield 27, 3) := by decide +kernel
theorem d_S_init_52 : decode m_S_init.2.1 52 = .ok (.aload_n 0, 1) := by decide +kernel
theorem d_S_init_53 : decode m_S_init.2.1 53 = .ok (.iconst 0, 1) := by decide +kernel
theorem d_S_init_54 : decode m_S_init.2.1 54 = .ok (.putfield 30, 3) := by decide +kernel
theorem d_S_init_57 : decode m_S_init.2.1 57 = .ok (.aload_n 0, 1) := by decide +kernel
theorem d_S_init_58 : decode m_S_init.2.1 58 = .ok (.iconst 0, 1) := by decide +kernel
theorem d_S_init_59 : decode m_S_init.2.1 59 = .ok (.putfield 34, 3) := by decide +kernel
theorem d_S_init_62 : decode m_S_init.2.1 62 = .ok (.aload_n 0, 1) := by decide +kernel
theorem d_S_init_63 : decode m_S_init.2.1 63 = .ok (.iconst 0, 1) := by decide +kernel
theorem d_S_init_64 : decode m_S_init.2.1 64 = .ok (.putfield 37, 3) := by decide +kernel
theorem d_S_init_67 : decode m_S_init.2.1 67 = .ok (.aload_n 0, 1) := by decide +kernel
theorem d_S_init_68 : decode m_S_init.2.1 68 = .ok (.iconst 4, 1) := by decide +kernel
theorem d_S_init_69 : decode m_S_init.2.1 69 = .ok (.putfield 40, 3) := by decide +kernel
theorem d_S_init_72 : decode m_S_init.2.1 72 = .ok (.aload_n 0, 1) := by decide +kernel
theorem d_S_init_73 : decode m_S_init.2.1 73 = .ok (.iconst 0, 1) := by decide +kernel
theorem d_S_init_74 : decode m_S_init.2.1 74 = .ok (.putfield 43, 3) := by decide +kernel
theorem d_S_init_77 : decode m_S_init.2.1 77 = .ok (.aload_n 0, 1) := by decide +kernel
theorem d_S_init_78 : decode m_S_init.2.1 78 = .ok (.iconst 0, 1) := by decide +kernel
theorem d_S_init_79 : decode m_S_init.2.1 79 = .ok (.putfield 46, 3) := by decide +kernel
theorem d_S_init_82 : decode m_S_init.2.1 82 = .ok (.aload_n 0, 1) := by decide +kernel
theorem d_S_init_83 : decode m_S_init.2.1 83 = .ok (.iconst 0, 1) := by decide +kernel
theorem d_S_init_84 : decode m_S_init.2.1 84 = .ok (.putfield 49, 3) := by decide +kernel
theorem d_S_init_87 : decode m_S_init.2.1 87 = .ok (.aload_n 0, 1) := by decide +kernel
theorem d_S_init_88 : decode m_S_init.2.1 88 = .ok (.iconst 0, 1) := by decide +kernel
theorem d_S_init_89 : decode m_S_init.2.1 89 = .ok (.putfield 52, 3) := by decide +kernel
theorem d_S_init_92 : decode m_S_init.2.1 92 = .ok (.aload_n 0, 1) := by decide +kernel
theorem d_S_init_93 : decode m_S_init.2.1 93 = .ok (.iconst 0, 1) := by decide +kernel
theorem d_S_init_94 : decode m_S_init.2.1 94 = .ok (.putfield 55, 3) := by decide +kernel
theorem d_S_init_97 : decode m_S_init.2.1 97 = .ok (.aload_n 0, 1) := by decide +kernel
theorem d_S_init_98 : decode m_S_init.2.1 98 = .ok (.iconst 0, 1) := by decide +kernel
theorem d_S_init_99 : decode m_S_init.2.1 99 = .ok (.putfield 58, 3) := by decide +kernel
theorem d_S_init_102 : decode m_S_init.2.1 102 = .ok (.return_, 1) := by decide +kernel
theorem d_S_takeFrom_0 : decode m_S_takeFrom.2.1 0 = .ok (.aload_n 1, 1) := by decide +kernel
theorem d_S_takeFrom_1 : decode m_S_takeFrom.2.1 1 = .ok (.getfield 9, 3) := by decide +kernel
theorem d_S_takeFrom_4 : decode m_S_takeFrom.2.1 4 = .ok (.iconst 0, 1) := by decide +kernel
theorem d_S_takeFrom_5 : decode m_S_takeFrom.2.1 5 = .ok (.aload_n 0, 1) := by decide +kernel
theorem d_S_takeFrom_6 : decode m_S_takeFrom.2.1 6 = .ok (.getfield 9, 3) := by decide +kernel
theorem d_S_takeFrom_9 : decode m_S_takeFrom.2.1 9 = .ok (.iconst 0, 1) := by decide +kernel
theorem d_S_takeFrom_10 : decode m_S_takeFrom.2.1 10 = .ok (.bipush 12, 2) := by decide +kernel
theorem d_S_takeFrom_12 : decode m_S_takeFrom.2.1 12 = .ok (.invokestatic 61, 3) := by decide +kernel
theorem d_S_takeFrom_15 : decode m_S_takeFrom.2.1 15 = .ok (.aload_n 1, 1) := by decide +kernel
theorem d_S_takeFrom_16 : decode m_S_takeFrom.2.1 16 = .ok (.getfield 15, 3) := by decide +kernel
theorem d_S_takeFrom_19 : decode m_S_takeFrom.2.1 19 = .ok (.iconst 0, 1) := by decide +kernel
theorem d_S_takeFrom_20 : decode m_S_takeFrom.2.1 20 = .ok (.aload_n 0, 1) := by decide +kernel
theorem d_S_takeFrom_21 : decode m_S_takeFrom.2.1 21 = .ok (.getfield 15, 3) := by decide +kernel
theorem d_S_takeFrom_24 : decode m_S_takeFrom.2.1 24 = .ok (.iconst 0, 1) := by decide +kernel
theorem d_S_takeFrom_25 : decode m_S_takeFrom.2.1 25 = .ok (.bipush 11, 2) := by decide +kernel
theorem d_S_takeFrom_27 : decode m_S_takeFrom.2.1 27 = .ok (.invokestatic 61, 3) := by decide +kernel
theorem d_S_takeFrom_30 : decode m_S_takeFrom.2.1 30 = .ok (.aload_n 1, 1) := by decide +kernel
theorem d_S_takeFrom_31 : decode m_S_takeFrom.2.1 31 = .ok (.getfield 18, 3) := by decide +kernel
theorem d_S_takeFrom_34 : decode m_S_takeFrom.2.1 34 = .ok (.iconst 0, 1) := by decide +kernel
theorem d_S_takeFrom_35 : decode m_S_takeFrom.2.1 35 = .ok (.aload_n 0, 1) := by decide +kernel
theorem d_S_takeFrom_36 : decode m_S_takeFrom.2.1 36 = .ok (.getfield 18, 3) := by decide +kernel
theorem d_S_takeFrom_39 : decode m_S_takeFrom.2.1 39 = .ok (.iconst 0, 1) := by decide +kernel
theorem d_S_takeFrom_40 : decode m_S_takeFrom.2.1 40 = .ok (.bipush 6, 2) := by decide +kernel
theorem d_S_takeFrom_42 : decode m_S_takeFrom.2.1 42 = .ok (.invokestatic 61, 3) := by decide +kernel
theorem d_S_takeFrom_45 : decode m_S_takeFrom.2.1 45 = .ok (.aload_n 1, 1) := by decide +kernel
theorem d_S_takeFrom_46 : decode m_S_takeFrom.2.1 46 = .ok (.getfield 21, 3) := by decide +kernel
theorem d_S_takeFrom_49 : decode m_S_takeFrom.2.1 49 = .ok (.iconst 0, 1) := by decide +kernel
theorem d_S_takeFrom_50 : decode m_S_takeFrom.2.1 50 = .ok (.aload_n 0, 1) := by decide +kernel
theorem d_S_takeFrom_51 : decode m_S_takeFrom.2.1 51 = .ok (.getfield 21, 3) := by decide +kernel
theorem d_S_takeFrom_54 : decode m_S_takeFrom.2.1 54 = .ok (.iconst 0, 1) := by decide +kernel
theorem d_S_takeFrom_55 : decode m_S_takeFrom.2.1 55 = .ok (.bipush 6, 2) := by decide +kernel
theorem d_S_takeFrom_57 : decode m_S_takeFrom.2.1 57 = .ok (.invokestatic 61, 3) := by decide +kernel
theorem d_S_takeFrom_60 : decode m_S_takeFrom.2.1 60 = .ok (.aload_n 1, 1) := by decide +kernel
theorem d_S_takeFrom_61 : decode m_S_takeFrom.2.1 61 = .ok (.getfield 24, 3) := by decide +kernel
theorem d_S_takeFrom_64 : decode m_S_takeFrom.2.1 64 = .ok (.iconst 0, 1) := by decide +kernel
theorem d_S_takeFrom_65 : decode m_S_takeFrom.2.1 65 = .ok (.aload_n 0, 1) := by decide +kernel
theorem d_S_takeFrom_66 : decode m_S_takeFrom.2.1 66 = .ok (.getfield 24, 3) := by decide +kernel
theorem d_S_takeFrom_69 : decode m_S_takeFrom.2.1 69 = .ok (.iconst 0, 1) := by decide +kernel
theorem d_S_takeFrom_70 : decode m_S_takeFrom.2.1 70 = .ok (.bipush 6, 2) := by decide +kernel
theorem d_S_takeFrom_72 : decode m_S_takeFrom.2.1 72 = .ok (.invokestatic 61, 3) := by decide +kernel
theorem d_S_takeFrom_75 : decode m_S_takeFrom.2.1 75 = .ok (.aload_n 1, 1) := by decide +kernel
theorem d_S_takeFrom_76 : decode m_S_takeFrom.2.1 76 = .ok (.getfield 27, 3) := by decide +kernel
theorem d_S_takeFrom_79 : decode m_S_takeFrom.2.1 79 = .ok (.iconst 0, 1) := by decide +kernel
theorem d_S_takeFrom_80 : decode m_S_takeFrom.2.1 80 = .ok (.aload_n 0, 1) := by decide +kernel
theorem d_S_takeFrom_81 : decode m_S_takeFrom.2.1 81 = .ok (.getfield 27, 3) := by decide +kernel
theorem d_S_takeFrom_84 : decode m_S_takeFrom.2.1 84 = .ok (.iconst 0, 1) := by decide +kernel
theorem d_S_takeFrom_85 : decode m_S_takeFrom.2.1 85 = .ok (.bipush 6, 2) := by decide +kernel
theorem d_S_takeFrom_87 : decode m_S_takeFrom.2.1 87 = .ok (.invokestatic 61, 3) := by decide +kernel
theorem d_S_takeFrom_90 : decode m_S_takeFrom.2.1 90 = .ok (.aload_n 0, 1) := by decide +kernel
theorem d_S_takeFrom_91 : decode m_S_takeFrom.2.1 91 = .ok (.aload_n 1, 1) := by decide +kernel
theorem d_S_takeFrom_92 : decode m_S_takeFrom.2.1 92 = .ok (.getfield 30, 3) := by decide +kernel
theorem d_S_takeFrom_95 : decode m_S_takeFrom.2.1 95 = .ok (.putfield 30, 3) := by decide +kernel
theorem d_S_takeFrom_98 : decode m_S_takeFrom.2.1 98 = .ok (.aload_n 0, 1) := by decide +kernel
theorem d_S_takeFrom_99 : decode m_S_takeFrom.2.1 99 = .ok (.aload_n 1, 1) := by decide +kernel
theorem d_S_takeFrom_100 : decode m_S_takeFrom.2.1 100 = .ok (.getfield 34, 3) := by decide +kernel
theorem d_S_takeFrom_103 : decode m_S_takeFrom.2.1 103 = .ok (.putfield 34, 3) := by decide +kernel
theorem d_S_takeFrom_106 : decode m_S_takeFrom.2.1 106 = .ok (.aload_n 0, 1) := by decide +kernel
theorem d_S_takeFrom_107 : decode m_S_takeFrom.2.1 107 = .ok (.aload_n 1, 1) := by decide +kernel
theorem d_S_takeFrom_108 : decode m_S_takeFrom.2.1 108 = .ok (.getfield 37, 3) := by decide +kernel
theorem d_S_takeFrom_111 : decode m_S_takeFrom.2.1 111 = .ok (.putfield 37, 3) := by decide +kernel
theorem d_S_takeFrom_114 : decode m_S_takeFrom.2.1 114 = .ok (.aload_n 0, 1) := by decide +kernel
theorem d_S_takeFrom_115 : decode m_S_takeFrom.2.1 115 = .ok (.aload_n 1, 1) := by decide +kernel
theorem d_S_takeFrom_116 : decode m_S_takeFrom.2.1 116 = .ok (.getfield 40, 3) := by decide +kernel
theorem d_S_takeFrom_119 : decode m_S_takeFrom.2.1 119 = .ok (.putfield 40, 3) := by decide +kernel
theorem d_S_takeFrom_122 : decode m_S_takeFrom.2.1 122 = .ok (.aload_n 0, 1) := by decide +kernel
theorem d_S_takeFrom_123 : decode m_S_takeFrom.2.1 123 = .ok (.aload_n 1, 1) := by decide +kernel
theorem d_S_takeFrom_124 : decode m_S_takeFrom.2.1 124 = .ok (.getfield 43, 3) := by decide +kernel
theorem d_S_takeFrom_127 : decode m_S_takeFrom.2.1 127 = .ok (.putfield 43, 3) := by decide +kernel
theorem d_S_takeFrom_130 : decode m_S_takeFrom.2.1 130 = .ok (.aload_n 0, 1) := by decide +kernel
theorem d_S_takeFrom_131 : decode m_S_takeFrom.2.1 131 = .ok (.aload_n 1, 1) := by decide +kernel
theorem d_S_takeFrom_132 : decode m_S_takeFrom.2.1 132 = .ok (.getfield 46, 3) := by decide +kernel
theorem d_S_takeFrom_135 : decode m_S_takeFrom.2.1 135 = .ok (.putfield 46, 3) := by decide +kernel
theorem d_S_takeFrom_138 : decode m_S_takeFrom.2.1 138 = .ok (.aload_n 0, 1) := by decide +kernel
theorem d_S_takeFrom_139 : decode m_S_takeFrom.2.1 139 = .ok (.aload_n 1, 1) := by decide +kernel
theorem d_S_takeFrom_140 : decode m_S_takeFrom.2.1 140 = .ok (.getfield 49, 3) := by decide +kernel
theorem d_S_takeFrom_143 : decode m_S_takeFrom.2.1 143 = .ok (.putfield 49, 3) := by decide +kernel
theorem d_S_takeFrom_146 : decode m_S_takeFrom.2.1 146 = .ok (.aload_n 0, 1) := by decide +kernel
theorem d_S_takeFrom_147 : decode m_S_takeFrom.2.1 147 = .ok (.aload_n 1, 1) := by decide +kernel
theorem d_S_takeFrom_148 : decode m_S_takeFrom.2.1 148 = .ok (.getfield 52, 3) := by decide +kernel
theorem d_S_takeFrom_151 : decode m_S_takeFrom.2.1 151 = .ok (.putfield 52, 3) := by decide +kernel
theorem d_S_takeFrom_154 : decode m_S_takeFrom.2.1 154 = .ok (.aload_n 0, 1) := by decide +kernel
theorem d_S_takeFrom_155 : decode m_S_takeFrom.2.1 155 = .ok (.aload_n 1, 1) := by decide +kernel
theorem d_S_takeFrom_156 : decode m_S_takeFrom.2.1 156 = .ok (.getfield 55, 3) := by decide +kernel
theorem d_S_takeFrom_159 : decode m_S_takeFrom.2.1 159 = .ok (.putfield 55, 3) := by decide +kernel
theorem d_S_takeFrom_162 : decode m_S_takeFrom.2.1 162 = .ok (.aload_n 0, 1) := by decide +kernel
theorem d_S_takeFrom_163 : decode m_S_takeFrom.2.1 163 = .ok (.aload_n 1, 1) := by decide +kernel
theorem d_S_takeFrom_164 : decode m_S_takeFrom.2.1 164 = .ok (.getfield 58, 3) := by decide +kernel
theorem d_S_takeFrom_167 : decode m_S_takeFrom.2.1 167 = .ok (.putfield 58, 3) := by decide +kernel
theorem d_S_takeFrom_170 : decode m_S_takeFrom.2.1 170 = .ok (.return_, 1) := by decide +kernel
theorem d_S_loudness_0 : decode m_S_loudness.2.1 0 = .ok (.aload_n 0, 1) := by decide +kernel
theorem d_S_loudness_1 : decode m_S_loudness.2.1 1 = .ok (.getfield 40, 3) := by decide +kernel
theorem d_S_loudness_4 : decode m_S_loudness.2.1 4 = .ok (.istore_n 3, 1) := by decide +kernel
theorem d_S_loudness_5 : decode m_S_loudness.2.1 5 = .ok (.iload_n 1, 1) := by decide +kernel
theorem d_S_loudness_6 : decode m_S_loudness.2.1 6 = .ok (.istore 4, 2) := by decide +kernel
theorem d_S_loudness_8 : decode m_S_loudness.2.1 8 = .ok (.iload 4, 2) := by decide +kernel
theorem d_S_loudness_10 : decode m_S_loudness.2.1 10 = .ok (.iload_n 2, 1) := by decide +kernel
theorem d_S_loudness_11 : decode m_S_loudness.2.1 11 = .ok (.if_icmp .ge 35, 3) := by decide +kernel
theorem d_S_loudness_14 : decode m_S_loudness.2.1 14 = .ok (.aload_n 0, 1) := by decide +kernel
theorem d_S_loudness_15 : decode m_S_loudness.2.1 15 = .ok (.getfield 15, 3) := by decide +kernel
theorem d_S_loudness_18 : decode m_S_loudness.2.1 18 = .ok (.iload 4, 2) := by decide +kernel
theorem d_S_loudness_20 : decode m_S_loudness.2.1 20 = .ok (.iaload, 1) := by decide +kernel
theorem d_S_loudness_21 : decode m_S_loudness.2.1 21 = .ok (.iconst 1, 1) := by decide +kernel
theorem d_S_loudness_22 : decode m_S_loudness.2.1 22 = .ok (.iadd, 1) := by decide +kernel
theorem d_S_loudness_23 : decode m_S_loudness.2.1 23 = .ok (.aload_n 0, 1) := by decide +kernel
theorem d_S_loudness_24 : decode m_S_loudness.2.1 24 = .ok (.getfield 43, 3) := by decide +kernel
theorem d_S_loudness_27 : decode m_S_loudness.2.1 27 = .ok (.isub, 1) := by decide +kernel
theorem d_S_loudness_28 : decode m_S_loudness.2.1 28 = .ok (.istore 5, 2) := by decide +kernel
theorem d_S_loudness_30 : decode m_S_loudness.2.1 30 = .ok (.iload 5, 2) := by decide +kernel
theorem d_S_loudness_32 : decode m_S_loudness.2.1 32 = .ok (.ifCond .le 8, 3) := by decide +kernel
theorem d_S_loudness_35 : decode m_S_loudness.2.1 35 = .ok (.iload_n 3, 1) := by decide +kernel
theorem d_S_loudness_36 : decode m_S_loudness.2.1 36 = .ok (.iload 5, 2) := by decide +kernel
theorem d_S_loudness_38 : decode m_S_loudness.2.1 38 = .ok (.isub, 1) := by decide +kernel
theorem d_S_loudness_39 : decode m_S_loudness.2.1 39 = .ok (.istore_n 3, 1) := by decide +kernel
theorem d_S_loudness_40 : decode m_S_loudness.2.1 40 = .ok (.iinc 4 1, 3) := by decide +kernel
theorem d_S_loudness_43 : decode m_S_loudness.2.1 43 = .ok (.goto (-35), 3) := by decide +kernel
theorem d_S_loudness_46 : decode m_S_loudness.2.1 46 = .ok (.iload_n 1, 1) := by decide +kernel
theorem d_S_loudness_47 : decode m_S_loudness.2.1 47 = .ok (.istore 4, 2) := by decide +kernel
theorem d_S_loudness_49 : decode m_S_loudness.2.1 49 = .ok (.iload 4, 2) := by decide +kernel
theorem d_S_loudness_51 : decode m_S_loudness.2.1 51 = .ok (.iload_n 2, 1) := by decide +kernel
theorem d_S_loudness_52 : decode m_S_loudness.2.1 52 = .ok (.if_icmp .le 37, 3) := by decide +kernel
theorem d_S_loudness_55 : decode m_S_loudness.2.1 55 = .ok (.aload_n 0, 1) := by decide +kernel
theorem d_S_loudness_56 : decode m_S_loudness.2.1 56 = .ok (.getfield 15, 3) := by decide +kernel
theorem d_S_loudness_59 : decode m_S_loudness.2.1 59 = .ok (.iload 4, 2) := by decide +kernel
theorem d_S_loudness_61 : decode m_S_loudness.2.1 61 = .ok (.iconst 1, 1) := by decide +kernel
theorem d_S_loudness_62 : decode m_S_loudness.2.1 62 = .ok (.isub, 1) := by decide +kernel
theorem d_S_loudness_63 : decode m_S_loudness.2.1 63 = .ok (.iaload, 1) := by decide +kernel
theorem d_S_loudness_64 : decode m_S_loudness.2.1 64 = .ok (.iconst 1, 1) := by decide +kernel
theorem d_S_loudness_65 : decode m_S_loudness.2.1 65 = .ok (.iadd, 1) := by decide +kernel
theorem d_S_loudness_66 : decode m_S_loudness.2.1 66 = .ok (.aload_n 0, 1) := by decide +kernel
theorem d_S_loudness_67 : decode m_S_loudness.2.1 67 = .ok (.getfield 43, 3) := by decide +kernel
theorem d_S_loudness_70 : decode m_S_loudness.2.1 70 = .ok (.iadd, 1) := by decide +kernel
theorem d_S_loudness_71 : decode m_S_loudness.2.1 71 = .ok (.istore 5, 2) := by decide +kernel
theorem d_S_loudness_73 : decode m_S_loudness.2.1 73 = .ok (.iload 5, 2) := by decide +kernel
theorem d_S_loudness_75 : decode m_S_loudness.2.1 75 = .ok (.ifCond .le 8, 3) := by decide +kernel
theorem d_S_loudness_78 : decode m_S_loudness.2.1 78 = .ok (.iload_n 3, 1) := by decide +kernel
theorem d_S_loudness_79 : decode m_S_loudness.2.1 79 = .ok (.iload 5, 2) := by decide +kernel
theorem d_S_loudness_81 : decode m_S_loudness.2.1 81 = .ok (.isub, 1) := by decide +kernel
theorem d_S_loudness_82 : decode m_S_loudness.2.1 82 = .ok (.istore_n 3, 1) := by decide +kernel
theorem d_S_loudness_83 : decode m_S_loudness.2.1 83 = .ok (.iinc 4 (-1), 3) := by decide +kernel
theorem d_S_loudness_86 : decode m_S_loudness.2.1 86 = .ok (.goto (-37), 3) := by decide +kernel
theorem d_S_loudness_89 : decode m_S_loudness.2.1 89 = .ok (.iconst 0, 1) := by decide +kernel
theorem d_S_loudness_90 : decode m_S_loudness.2.1 90 = .ok (.iload_n 3, 1) := by decide +kernel
theorem d_S_loudness_91 : decode m_S_loudness.2.1 91 = .ok (.invokestatic 67, 3) := by decide +kernel
theorem d_S_loudness_94 : decode m_S_loudness.2.1 94 = .ok (.ireturn, 1) := by decide +kernel
theorem d_S_reached_0 : decode m_S_reached.2.1 0 = .ok (.iconst 1, 1) := by decide +kernel
theorem d_S_reached_1 : decode m_S_reached.2.1 1 = .ok (.iload_n 1, 1) := by decide +kernel
theorem d_S_reached_2 : decode m_S_reached.2.1 2 = .ok (.ishl, 1) := by decide +kernel
theorem d_S_reached_3 : decode m_S_reached.2.1 3 = .ok (.istore_n 3, 1) := by decide +kernel
theorem d_S_reached_4 : decode m_S_reached.2.1 4 = .ok (.aload_n 0, 1) := by decide +kernel
theorem d_S_reached_5 : decode m_S_reached.2.1 5 = .ok (.getfield 40, 3) := by decide +kernel
theorem d_S_reached_8 : decode m_S_reached.2.1 8 = .ok (.istore 4, 2) := by decide +kernel
theorem d_S_reached_10 : decode m_S_reached.2.1 10 = .ok (.iload_n 1, 1) := by decide +kernel
theorem d_S_reached_11 : decode m_S_reached.2.1 11 = .ok (.iconst 1, 1) := by decide +kernel
theorem d_S_reached_12 : decode m_S_reached.2.1 12 = .ok (.iadd, 1) := by decide +kernel
theorem d_S_reached_13 : decode m_S_reached.2.1 13 = .ok (.istore 5, 2) := by decide +kernel
theorem d_S_reached_15 : decode m_S_reached.2.1 15 = .ok (.iload 5, 2) := by decide +kernel
theorem d_S_reached_17 : decode m_S_reached.2.1 17 = .ok (.bipush 12, 2) := by decide +kernel
theorem d_S_reached_19 : decode m_S_reached.2.1 19 = .ok (.if_icmp .ge 52, 3) := by decide +kernel
theorem d_S_reached_22 : decode m_S_reached.2.1 22 = .ok (.aload_n 0, 1) := by decide +kernel
theorem d_S_reached_23 : decode m_S_reached.2.1 23 = .ok (.getfield 15, 3) := by decide +kernel
theorem d_S_reached_26 : decode m_S_reached.2.1 26 = .ok (.iload 5, 2) := by decide +kernel
theorem d_S_reached_28 : decode m_S_reached.2.1 28 = .ok (.iconst 1, 1) := by decide +kernel
theorem d_S_reached_29 : decode m_S_reached.2.1 29 = .ok (.isub, 1) := by decide +kernel
theorem d_S_reached_30 : decode m_S_reached.2.1 30 = .ok (.iaload, 1) := by decide +kernel
theorem d_S_reached_31 : decode m_S_reached.2.1 31 = .ok (.iconst 1, 1) := by decide +kernel
theorem d_S_reached_32 : decode m_S_reached.2.1 32 = .ok (.iadd, 1) := by decide +kernel
theorem d_S_reached_33 : decode m_S_reached.2.1 33 = .ok (.aload_n 0, 1) := by decide +kernel
theorem d_S_reached_34 : decode m_S_reached.2.1 34 = .ok (.getfield 43, 3) := by decide +kernel
theorem d_S_reached_37 : decode m_S_reached.2.1 37 = .ok (.isub, 1) := by decide +kernel
theorem d_S_reached_38 : decode m_S_reached.2.1 38 = .ok (.istore 6, 2) := by decide +kernel
theorem d_S_reached_40 : decode m_S_reached.2.1 40 = .ok (.iload 6, 2) := by decide +kernel
theorem d_S_reached_42 : decode m_S_reached.2.1 42 = .ok (.ifCond .le 10, 3) := by decide +kernel
theorem d_S_reached_45 : decode m_S_reached.2.1 45 = .ok (.iload 4, 2) := by decide +kernel
theorem d_S_reached_47 : decode m_S_reached.2.1 47 = .ok (.iload 6, 2) := by decide +kernel
theorem d_S_reached_49 : decode m_S_reached.2.1 49 = .ok (.isub, 1) := by decide +kernel
theorem d_S_reached_50 : decode m_S_reached.2.1 50 = .ok (.istore 4, 2) := by decide +kernel
theorem d_S_reached_52 : decode m_S_reached.2.1 52 = .ok (.iload 4, 2) := by decide +kernel
theorem d_S_reached_54 : decode m_S_reached.2.1 54 = .ok (.iload_n 2, 1) := by decide +kernel
theorem d_S_reached_55 : decode m_S_reached.2.1 55 = .ok (.if_icmp .lt 10, 3) := by decide +kernel
theorem d_S_reached_58 : decode m_S_reached.2.1 58 = .ok (.iload_n 3, 1) := by decide +kernel
theorem d_S_reached_59 : decode m_S_reached.2.1 59 = .ok (.iconst 1, 1) := by decide +kernel
theorem d_S_reached_60 : decode m_S_reached.2.1 60 = .ok (.iload 5, 2) := by decide +kernel
theorem d_S_reached_62 : decode m_S_reached.2.1 62 = .ok (.ishl, 1) := by decide +kernel
theorem d_S_reached_63 : decode m_S_reached.2.1 63 = .ok (.ior, 1) := by decide +kernel
theorem d_S_reached_64 : decode m_S_reached.2.1 64 = .ok (.istore_n 3, 1) := by decide +kernel
theorem d_S_reached_65 : decode m_S_reached.2.1 65 = .ok (.iinc 5 1, 3) := by decide +kernel
theorem d_S_reached_68 : decode m_S_reached.2.1 68 = .ok (.goto (-53), 3) := by decide +kernel
theorem d_S_reached_71 : decode m_S_reached.2.1 71 = .ok (.aload_n 0, 1) := by decide +kernel
theorem d_S_reached_72 : decode m_S_reached.2.1 72 = .ok (.getfield 40, 3) := by decide +kernel
theorem d_S_reached_75 : decode m_S_reached.2.1 75 = .ok (.istore 4, 2) := by decide +kernel
theorem d_S_reached_77 : decode m_S_reached.2.1 77 = .ok (.iload_n 1, 1) := by decide +kernel
theorem d_S_reached_78 : decode m_S_reached.2.1 78 = .ok (.iconst 1, 1) := by decide +kernel
theorem d_S_reached_79 : decode m_S_reached.2.1 79 = .ok (.isub, 1) := by decide +kernel
theorem d_S_reached_80 : decode m_S_reached.2.1 80 = .ok (.istore 5, 2) := by decide +kernel
theorem d_S_reached_82 : decode m_S_reached.2.1 82 = .ok (.iload 5, 2) := by decide +kernel
theorem d_S_reached_84 : decode m_S_reached.2.1 84 = .ok (.ifCond .lt 50, 3) := by decide +kernel
theorem d_S_reached_87 : decode m_S_reached.2.1 87 = .ok (.aload_n 0, 1) := by decide +kernel
theorem d_S_reached_88 : decode m_S_reached.2.1 88 = .ok (.getfield 15, 3) := by decide +kernel
theorem d_S_reached_91 : decode m_S_reached.2.1 91 = .ok (.iload 5, 2) := by decide +kernel
theorem d_S_reached_93 : decode m_S_reached.2.1 93 = .ok (.iaload, 1) := by decide +kernel
theorem d_S_reached_94 : decode m_S_reached.2.1 94 = .ok (.iconst 1, 1) := by decide +kernel
theorem d_S_reached_95 : decode m_S_reached.2.1 95 = .ok (.iadd, 1) := by decide +kernel
theorem d_S_reached_96 : decode m_S_reached.2.1 96 = .ok (.aload_n 0, 1) := by decide +kernel
theorem d_S_reached_97 : decode m_S_reached.2.1 97 = .ok (.getfield 43, 3) := by decide +kernel
theorem d_S_reached_100 : decode m_S_reached.2.1 100 = .ok (.iadd, 1) := by decide +kernel
theorem d_S_reached_101 : decode m_S_reached.2.1 101 = .ok (.istore 6, 2) := by decide +kernel
theorem d_S_reached_103 : decode m_S_reached.2.1 103 = .ok (.iload 6, 2) := by decide +kernel
theorem d_S_reached_105 : decode m_S_reached.2.1 105 = .ok (.ifCond .le 10, 3) := by decide +kernel
theorem d_S_reached_108 : decode m_S_reached.2.1 108 = .ok (.iload 4, 2) := by decide +kernel
theorem d_S_reached_110 : decode m_S_reached.2.1 110 = .ok (.iload 6, 2) := by decide +kernel
theorem d_S_reached_112 : decode m_S_reached.2.1 112 = .ok (.isub, 1) := by decide +kernel
theorem d_S_reached_113 : decode m_S_reached.2.1 113 = .ok (.istore 4, 2) := by decide +kernel
theorem d_S_reached_115 : decode m_S_reached.2.1 115 = .ok (.iload 4, 2) := by decide +kernel
theorem d_S_reached_117 : decode m_S_reached.2.1 117 = .ok (.iload_n 2, 1) := by decide +kernel
theorem d_S_reached_118 : decode m_S_reached.2.1 118 = .ok (.if_icmp .lt 10, 3) := by decide +kernel
theorem d_S_reached_121 : decode m_S_reached.2.1 121 = .ok (.iload_n 3, 1) := by decide +kernel
theorem d_S_reached_122 : decode m_S_reached.2.1 122 = .ok (.iconst 1, 1) := by decide +kernel
theorem d_S_reached_123 : decode m_S_reached.2.1 123 = .ok (.iload 5, 2) := by decide +kernel
theorem d_S_reached_125 : decode m_S_reached.2.1 125 = .ok (.ishl, 1) := by decide +kernel
theorem d_S_reached_126 : decode m_S_reached.2.1 126 = .ok (.ior, 1) := by decide +kernel
theorem d_S_reached_127 : decode m_S_reached.2.1 127 = .ok (.istore_n 3, 1) := by decide +kernel
theorem d_S_reached_128 : decode m_S_reached.2.1 128 = .ok (.iinc 5 (-1), 3) := by decide +kernel
theorem d_S_reached_131 : decode m_S_reached.2.1 131 = .ok (.goto (-49), 3) := by decide +kernel
theorem d_S_reached_134 : decode m_S_reached.2.1 134 = .ok (.iload_n 3, 1) := by decide +kernel
theorem d_S_reached_135 : decode m_S_reached.2.1 135 = .ok (.ireturn, 1) := by decide +kernel
theorem d_S_hearers_0 : decode m_S_hearers.2.1 0 = .ok (.aload_n 0, 1) := by decide +kernel
theorem d_S_hearers_1 : decode m_S_hearers.2.1 1 = .ok (.iload_n 1, 1) := by decide +kernel
theorem d_S_hearers_2 : decode m_S_hearers.2.1 2 = .ok (.iconst 3, 1) := by decide +kernel
theorem d_S_hearers_3 : decode m_S_hearers.2.1 3 = .ok (.invokevirtual 73, 3) := by decide +kernel
theorem d_S_hearers_6 : decode m_S_hearers.2.1 6 = .ok (.istore_n 3, 1) := by decide +kernel
theorem d_S_hearers_7 : decode m_S_hearers.2.1 7 = .ok (.aload_n 0, 1) := by decide +kernel
theorem d_S_hearers_8 : decode m_S_hearers.2.1 8 = .ok (.iload_n 1, 1) := by decide +kernel
theorem d_S_hearers_9 : decode m_S_hearers.2.1 9 = .ok (.iconst 1, 1) := by decide +kernel
theorem d_S_hearers_10 : decode m_S_hearers.2.1 10 = .ok (.invokevirtual 73, 3) := by decide +kernel
theorem d_S_hearers_13 : decode m_S_hearers.2.1 13 = .ok (.iload_n 2, 1) := by decide +kernel
theorem d_S_hearers_14 : decode m_S_hearers.2.1 14 = .ok (.iand, 1) := by decide +kernel
theorem d_S_hearers_15 : decode m_S_hearers.2.1 15 = .ok (.istore 4, 2) := by decide +kernel
theorem d_S_hearers_17 : decode m_S_hearers.2.1 17 = .ok (.iload_n 3, 1) := by decide +kernel
theorem d_S_hearers_18 : decode m_S_hearers.2.1 18 = .ok (.iload 4, 2) := by decide +kernel
theorem d_S_hearers_20 : decode m_S_hearers.2.1 20 = .ok (.ior, 1) := by decide +kernel
theorem d_S_hearers_21 : decode m_S_hearers.2.1 21 = .ok (.aload_n 0, 1) := by decide +kernel
theorem d_S_hearers_22 : decode m_S_hearers.2.1 22 = .ok (.getfield 34, 3) := by decide +kernel
theorem d_S_hearers_25 : decode m_S_hearers.2.1 25 = .ok (.iconst (-1), 1) := by decide +kernel
theorem d_S_hearers_26 : decode m_S_hearers.2.1 26 = .ok (.ixor, 1) := by decide +kernel
theorem d_S_hearers_27 : decode m_S_hearers.2.1 27 = .ok (.iand, 1) := by decide +kernel
theorem d_S_hearers_28 : decode m_S_hearers.2.1 28 = .ok (.ireturn, 1) := by decide +kernel
theorem d_S_whyNot_0 : decode m_S_whyNot.2.1 0 = .ok (.iload_n 1, 1) := by decide +kernel
theorem d_S_whyNot_1 : decode m_S_whyNot.2.1 1 = .ok (.ifCond .ne 13, 3) := by decide +kernel
theorem d_S_whyNot_4 : decode m_S_whyNot.2.1 4 = .ok (.aload_n 0, 1) := by decide +kernel
theorem d_S_whyNot_5 : decode m_S_whyNot.2.1 5 = .ok (.getfield 46, 3) := by decide +kernel
theorem d_S_whyNot_8 : decode m_S_whyNot.2.1 8 = .ok (.iload_n 2, 1) := by decide +kernel
theorem d_S_whyNot_9 : decode m_S_whyNot.2.1 9 = .ok (.if_icmp .ne 5, 3) := by decide +kernel
theorem d_S_whyNot_12 : decode m_S_whyNot.2.1 12 = .ok (.iconst 1, 1) := by decide +kernel
theorem d_S_whyNot_13 : decode m_S_whyNot.2.1 13 = .ok (.ireturn, 1) := by decide +kernel
theorem d_S_whyNot_14 : decode m_S_whyNot.2.1 14 = .ok (.iload_n 1, 1) := by decide +kernel
theorem d_S_whyNot_15 : decode m_S_whyNot.2.1 15 = .ok (.iconst 1, 1) := by decide +kernel
theorem d_S_whyNot_16 : decode m_S_whyNot.2.1 16 = .ok (.if_icmp .ne 16, 3) := by decide +kernel
theorem d_S_whyNot_19 : decode m_S_whyNot.2.1 19 = .ok (.aload_n 0, 1) := by decide +kernel
theorem d_S_whyNot_20 : decode m_S_whyNot.2.1 20 = .ok (.getfield 37, 3) := by decide +kernel
theorem d_S_whyNot_23 : decode m_S_whyNot.2.1 23 = .ok (.iload_n 2, 1) := by decide +kernel
theorem d_S_whyNot_24 : decode m_S_whyNot.2.1 24 = .ok (.invokestatic 76, 3) := by decide +kernel
theorem d_S_whyNot_27 : decode m_S_whyNot.2.1 27 = .ok (.ifCond .eq 5, 3) := by decide +kernel
theorem d_S_whyNot_30 : decode m_S_whyNot.2.1 30 = .ok (.iconst 2, 1) := by decide +kernel
theorem d_S_whyNot_31 : decode m_S_whyNot.2.1 31 = .ok (.ireturn, 1) := by decide +kernel
theorem d_S_whyNot_32 : decode m_S_whyNot.2.1 32 = .ok (.iload_n 1, 1) := by decide +kernel
theorem d_S_whyNot_33 : decode m_S_whyNot.2.1 33 = .ok (.iconst 3, 1) := by decide +kernel
theorem d_S_whyNot_34 : decode m_S_whyNot.2.1 34 = .ok (.if_icmp .ne 14, 3) := by decide +kernel
theorem d_S_whyNot_37 : decode m_S_whyNot.2.1 37 = .ok (.aload_n 0, 1) := by decide +kernel
theorem d_S_whyNot_38 : decode m_S_whyNot.2.1 38 = .ok (.getfield 49, 3) := by decide +kernel
theorem d_S_whyNot_41 : decode m_S_whyNot.2.1 41 = .ok (.bipush 99, 2) := by decide +kernel
theorem d_S_whyNot_43 : decode m_S_whyNot.2.1 43 = .ok (.if_icmp .lt 5, 3) := by decide +kernel
theorem d_S_whyNot_46 : decode m_S_whyNot.2.1 46 = .ok (.iconst 3, 1) := by decide +kernel
theorem d_S_whyNot_47 : decode m_S_whyNot.2.1 47 = .ok (.ireturn, 1) := by decide +kernel
theorem d_S_whyNot_48 : decode m_S_whyNot.2.1 48 = .ok (.iconst 0, 1) := by decide +kernel
theorem d_S_whyNot_49 : decode m_S_whyNot.2.1 49 = .ok (.ireturn, 1) := by decide +kernel
theorem d_S_carryOut_0 : decode m_S_carryOut.2.1 0 = .ok (.iload_n 1, 1) := by decide +kernel
theorem d_S_carryOut_1 : decode m_S_carryOut.2.1 1 = .ok (.ifCond .ne 11, 3) := by decide +kernel
theorem d_S_carryOut_4 : decode m_S_carryOut.2.1 4 = .ok (.aload_n 0, 1) := by decide +kernel
theorem d_S_carryOut_5 : decode m_S_carryOut.2.1 5 = .ok (.iload_n 2, 1) := by decide +kernel
theorem d_S_carryOut_6 : decode m_S_carryOut.2.1 6 = .ok (.putfield 46, 3) := by decide +kernel
theorem d_S_carryOut_9 : decode m_S_carryOut.2.1 9 = .ok (.goto 40, 3) := by decide +kernel
theorem d_S_carryOut_12 : decode m_S_carryOut.2.1 12 = .ok (.iload_n 1, 1) := by decide +kernel
theorem d_S_carryOut_13 : decode m_S_carryOut.2.1 13 = .ok (.iconst 1, 1) := by decide +kernel
theorem d_S_carryOut_14 : decode m_S_carryOut.2.1 14 = .ok (.if_icmp .ne 11, 3) := by decide +kernel
theorem d_S_carryOut_17 : decode m_S_carryOut.2.1 17 = .ok (.aload_n 0, 1) := by decide +kernel
theorem d_S_carryOut_18 : decode m_S_carryOut.2.1 18 = .ok (.iload_n 2, 1) := by decide +kernel
theorem d_S_carryOut_19 : decode m_S_carryOut.2.1 19 = .ok (.invokevirtual 80, 3) := by decide +kernel
theorem d_S_carryOut_22 : decode m_S_carryOut.2.1 22 = .ok (.goto 27, 3) := by decide +kernel
theorem d_S_carryOut_25 : decode m_S_carryOut.2.1 25 = .ok (.iload_n 1, 1) := by decide +kernel
theorem d_S_carryOut_26 : decode m_S_carryOut.2.1 26 = .ok (.iconst 2, 1) := by decide +kernel
theorem d_S_carryOut_27 : decode m_S_carryOut.2.1 27 = .ok (.if_icmp .ne 18, 3) := by decide +kernel
theorem d_S_carryOut_30 : decode m_S_carryOut.2.1 30 = .ok (.aload_n 0, 1) := by decide +kernel
theorem d_S_carryOut_31 : decode m_S_carryOut.2.1 31 = .ok (.dup, 1) := by decide +kernel
theorem d_S_carryOut_32 : decode m_S_carryOut.2.1 32 = .ok (.getfield 30, 3) := by decide +kernel
theorem d_S_carryOut_35 : decode m_S_carryOut.2.1 35 = .ok (.iconst 1, 1) := by decide +kernel
theorem d_S_carryOut_36 : decode m_S_carryOut.2.1 36 = .ok (.iload_n 2, 1) := by decide +kernel
theorem d_S_carryOut_37 : decode m_S_carryOut.2.1 37 = .ok (.ishl, 1) := by decide +kernel
theorem d_S_carryOut_38 : decode m_S_carryOut.2.1 38 = .ok (.ixor, 1) := by decide +kernel
theorem d_S_carryOut_39 : decode m_S_carryOut.2.1 39 = .ok (.putfield 30, 3) := by decide +kernel
theorem d_S_carryOut_42 : decode m_S_carryOut.2.1 42 = .ok (.goto 7, 3) := by decide +kernel
theorem d_S_carryOut_45 : decode m_S_carryOut.2.1 45 = .ok (.aload_n 0, 1) := by decide +kernel
theorem d_S_carryOut_46 : decode m_S_carryOut.2.1 46 = .ok (.invokevirtual 84, 3) := by decide +kernel
theorem d_S_carryOut_49 : decode m_S_carryOut.2.1 49 = .ok (.return_, 1) := by decide +kernel
theorem d_S_readOut_0 : decode m_S_readOut.2.1 0 = .ok (.aload_n 0, 1) := by decide +kernel
theorem d_S_readOut_1 : decode m_S_readOut.2.1 1 = .ok (.aload_n 0, 1) := by decide +kernel
theorem d_S_readOut_2 : decode m_S_readOut.2.1 2 = .ok (.getfield 46, 3) := by decide +kernel
theorem d_S_readOut_5 : decode m_S_readOut.2.1 5 = .ok (.aload_n 0, 1) := by decide +kernel
theorem d_S_readOut_6 : decode m_S_readOut.2.1 6 = .ok (.getfield 30, 3) := by decide +kernel
theorem d_S_readOut_9 : decode m_S_readOut.2.1 9 = .ok (.invokevirtual 87, 3) := by decide +kernel
theorem d_S_readOut_12 : decode m_S_readOut.2.1 12 = .ok (.istore_n 2, 1) := by decide +kernel
theorem d_S_readOut_13 : decode m_S_readOut.2.1 13 = .ok (.iconst 0, 1) := by decide +kernel
theorem d_S_readOut_14 : decode m_S_readOut.2.1 14 = .ok (.istore_n 3, 1) := by decide +kernel
theorem d_S_readOut_15 : decode m_S_readOut.2.1 15 = .ok (.iload_n 3, 1) := by decide +kernel
theorem d_S_readOut_16 : decode m_S_readOut.2.1 16 = .ok (.bipush 12, 2) := by decide +kernel
theorem d_S_readOut_18 : decode m_S_readOut.2.1 18 = .ok (.if_icmp .ge 63, 3) := by decide +kernel
theorem d_S_readOut_21 : decode m_S_readOut.2.1 21 = .ok (.iload_n 2, 1) := by decide +kernel
theorem d_S_readOut_22 : decode m_S_readOut.2.1 22 = .ok (.iload_n 3, 1) := by decide +kernel
theorem d_S_readOut_23 : decode m_S_readOut.2.1 23 = .ok (.invokestatic 76, 3) := by decide +kernel
theorem d_S_readOut_26 : decode m_S_readOut.2.1 26 = .ok (.ifCond .ne 6, 3) := by decide +kernel
theorem d_S_readOut_29 : decode m_S_readOut.2.1 29 = .ok (.goto 46, 3) := by decide +kernel
theorem d_S_readOut_32 : decode m_S_readOut.2.1 32 = .ok (.aload_n 0, 1) := by decide +kernel
theorem d_S_readOut_33 : decode m_S_readOut.2.1 33 = .ok (.getfield 9, 3) := by decide +kernel
theorem d_S_readOut_36 : decode m_S_readOut.2.1 36 = .ok (.iload_n 3, 1) := by decide +kernel
theorem d_S_readOut_37 : decode m_S_readOut.2.1 37 = .ok (.dup2, 1) := by decide +kernel
theorem d_S_readOut_38 : decode m_S_readOut.2.1 38 = .ok (.iaload, 1) := by decide +kernel
theorem d_S_readOut_39 : decode m_S_readOut.2.1 39 = .ok (.aload_n 0, 1) := by decide +kernel
theorem d_S_readOut_40 : decode m_S_readOut.2.1 40 = .ok (.getfield 21, 3) := by decide +kernel
theorem d_S_readOut_43 : decode m_S_readOut.2.1 43 = .ok (.iload_n 1, 1) := by decide +kernel
theorem d_S_readOut_44 : decode m_S_readOut.2.1 44 = .ok (.iaload, 1) := by decide +kernel
theorem d_S_readOut_45 : decode m_S_readOut.2.1 45 = .ok (.ior, 1) := by decide +kernel
theorem d_S_readOut_46 : decode m_S_readOut.2.1 46 = .ok (.iastore, 1) := by decide +kernel
theorem d_S_readOut_47 : decode m_S_readOut.2.1 47 = .ok (.aload_n 0, 1) := by decide +kernel
theorem d_S_readOut_48 : decode m_S_readOut.2.1 48 = .ok (.getfield 27, 3) := by decide +kernel
theorem d_S_readOut_51 : decode m_S_readOut.2.1 51 = .ok (.iload_n 1, 1) := by decide +kernel
theorem d_S_readOut_52 : decode m_S_readOut.2.1 52 = .ok (.iaload, 1) := by decide +kernel
theorem d_S_readOut_53 : decode m_S_readOut.2.1 53 = .ok (.iload_n 3, 1) := by decide +kernel
theorem d_S_readOut_54 : decode m_S_readOut.2.1 54 = .ok (.invokestatic 76, 3) := by decide +kernel
theorem d_S_readOut_57 : decode m_S_readOut.2.1 57 = .ok (.ifCond .eq 18, 3) := by decide +kernel
theorem d_S_readOut_60 : decode m_S_readOut.2.1 60 = .ok (.aload_n 0, 1) := by decide +kernel
theorem d_S_readOut_61 : decode m_S_readOut.2.1 61 = .ok (.getfield 9, 3) := by decide +kernel
theorem d_S_readOut_64 : decode m_S_readOut.2.1 64 = .ok (.iload_n 3, 1) := by decide +kernel
theorem d_S_readOut_65 : decode m_S_readOut.2.1 65 = .ok (.dup2, 1) := by decide +kernel
theorem d_S_readOut_66 : decode m_S_readOut.2.1 66 = .ok (.iaload, 1) := by decide +kernel
theorem d_S_readOut_67 : decode m_S_readOut.2.1 67 = .ok (.aload_n 0, 1) := by decide +kernel
theorem d_S_readOut_68 : decode m_S_readOut.2.1 68 = .ok (.getfield 24, 3) := by decide +kernel
theorem d_S_readOut_71 : decode m_S_readOut.2.1 71 = .ok (.iload_n 1, 1) := by decide +kernel
theorem d_S_readOut_72 : decode m_S_readOut.2.1 72 = .ok (.iaload, 1) := by decide +kernel
theorem d_S_readOut_73 : decode m_S_readOut.2.1 73 = .ok (.ior, 1) := by decide +kernel
theorem d_S_readOut_74 : decode m_S_readOut.2.1 74 = .ok (.iastore, 1) := by decide +kernel
theorem d_S_readOut_75 : decode m_S_readOut.2.1 75 = .ok (.iinc 3 1, 3) := by decide +kernel
theorem d_S_readOut_78 : decode m_S_readOut.2.1 78 = .ok (.goto (-63), 3) := by decide +kernel
theorem d_S_readOut_81 : decode m_S_readOut.2.1 81 = .ok (.aload_n 0, 1) := by decide +kernel
theorem d_S_readOut_82 : decode m_S_readOut.2.1 82 = .ok (.dup, 1) := by decide +kernel
theorem d_S_readOut_83 : decode m_S_readOut.2.1 83 = .ok (.getfield 37, 3) := by decide +kernel
theorem d_S_readOut_86 : decode m_S_readOut.2.1 86 = .ok (.iconst 1, 1) := by decide +kernel
theorem d_S_readOut_87 : decode m_S_readOut.2.1 87 = .ok (.iload_n 1, 1) := by decide +kernel
theorem d_S_readOut_88 : decode m_S_readOut.2.1 88 = .ok (.ishl, 1) := by decide +kernel
theorem d_S_readOut_89 : decode m_S_readOut.2.1 89 = .ok (.ior, 1) := by decide +kernel
theorem d_S_readOut_90 : decode m_S_readOut.2.1 90 = .ok (.putfield 37, 3) := by decide +kernel
theorem d_S_readOut_93 : decode m_S_readOut.2.1 93 = .ok (.return_, 1) := by decide +kernel
theorem d_S_passEvening_0 : decode m_S_passEvening.2.1 0 = .ok (.iconst 0, 1) := by decide +kernel
theorem d_S_passEvening_1 : decode m_S_passEvening.2.1 1 = .ok (.istore_n 1, 1) := by decide +kernel
theorem d_S_passEvening_2 : decode m_S_passEvening.2.1 2 = .ok (.iconst 0, 1) := by decide +kernel
theorem d_S_passEvening_3 : decode m_S_passEvening.2.1 3 = .ok (.istore_n 2, 1) := by decide +kernel
theorem d_S_passEvening_4 : decode m_S_passEvening.2.1 4 = .ok (.iload_n 2, 1) := by decide +kernel
theorem d_S_passEvening_5 : decode m_S_passEvening.2.1 5 = .ok (.bipush 12, 2) := by decide +kernel
theorem d_S_passEvening_7 : decode m_S_passEvening.2.1 7 = .ok (.if_icmp .ge 74, 3) := by decide +kernel
theorem d_S_passEvening_10 : decode m_S_passEvening.2.1 10 = .ok (.aload_n 0, 1) := by decide +kernel
theorem d_S_passEvening_11 : decode m_S_passEvening.2.1 11 = .ok (.getfield 9, 3) := by decide +kernel
theorem d_S_passEvening_14 : decode m_S_passEvening.2.1 14 = .ok (.iload_n 2, 1) := by decide +kernel
theorem d_S_passEvening_15 : decode m_S_passEvening.2.1 15 = .ok (.iaload, 1) := by decide +kernel
theorem d_S_passEvening_16 : decode m_S_passEvening.2.1 16 = .ok (.istore_n 3, 1) := by decide +kernel
theorem d_S_passEvening_17 : decode m_S_passEvening.2.1 17 = .ok (.aload_n 0, 1) := by decide +kernel
theorem d_S_passEvening_18 : decode m_S_passEvening.2.1 18 = .ok (.getfield 34, 3) := by decide +kernel
theorem d_S_passEvening_21 : decode m_S_passEvening.2.1 21 = .ok (.iload_n 2, 1) := by decide +kernel
theorem d_S_passEvening_22 : decode m_S_passEvening.2.1 22 = .ok (.invokestatic 76, 3) := by decide +kernel
theorem d_S_passEvening_25 : decode m_S_passEvening.2.1 25 = .ok (.ifCond .ne 48, 3) := by decide +kernel
theorem d_S_passEvening_28 : decode m_S_passEvening.2.1 28 = .ok (.aload_n 0, 1) := by decide +kernel
theorem d_S_passEvening_29 : decode m_S_passEvening.2.1 29 = .ok (.iload_n 2, 1) := by decide +kernel
theorem d_S_passEvening_30 : decode m_S_passEvening.2.1 30 = .ok (.iconst 1, 1) := by decide +kernel
theorem d_S_passEvening_31 : decode m_S_passEvening.2.1 31 = .ok (.isub, 1) := by decide +kernel
theorem d_S_passEvening_32 : decode m_S_passEvening.2.1 32 = .ok (.invokevirtual 90, 3) := by decide +kernel
theorem d_S_passEvening_35 : decode m_S_passEvening.2.1 35 = .ok (.ifCond .eq 13, 3) := by decide +kernel
theorem d_S_passEvening_38 : decode m_S_passEvening.2.1 38 = .ok (.aload_n 0, 1) := by decide +kernel
theorem d_S_passEvening_39 : decode m_S_passEvening.2.1 39 = .ok (.getfield 9, 3) := by decide +kernel
theorem d_S_passEvening_42 : decode m_S_passEvening.2.1 42 = .ok (.iload_n 2, 1) := by decide +kernel
theorem d_S_passEvening_43 : decode m_S_passEvening.2.1 43 = .ok (.dup2, 1) := by decide +kernel
theorem d_S_passEvening_44 : decode m_S_passEvening.2.1 44 = .ok (.iaload, 1) := by decide +kernel
theorem d_S_passEvening_45 : decode m_S_passEvening.2.1 45 = .ok (.iload_n 1, 1) := by decide +kernel
theorem d_S_passEvening_46 : decode m_S_passEvening.2.1 46 = .ok (.ior, 1) := by decide +kernel
theorem d_S_passEvening_47 : decode m_S_passEvening.2.1 47 = .ok (.iastore, 1) := by decide +kernel
theorem d_S_passEvening_48 : decode m_S_passEvening.2.1 48 = .ok (.aload_n 0, 1) := by decide +kernel
theorem d_S_passEvening_49 : decode m_S_passEvening.2.1 49 = .ok (.iload_n 2, 1) := by decide +kernel
theorem d_S_passEvening_50 : decode m_S_passEvening.2.1 50 = .ok (.invokevirtual 90, 3) := by decide +kernel
theorem d_S_passEvening_53 : decode m_S_passEvening.2.1 53 = .ok (.ifCond .eq 20, 3) := by decide +kernel
theorem d_S_passEvening_56 : decode m_S_passEvening.2.1 56 = .ok (.aload_n 0, 1) := by decide +kernel
theorem d_S_passEvening_57 : decode m_S_passEvening.2.1 57 = .ok (.getfield 9, 3) := by decide +kernel
theorem d_S_passEvening_60 : decode m_S_passEvening.2.1 60 = .ok (.iload_n 2, 1) := by decide +kernel
theorem d_S_passEvening_61 : decode m_S_passEvening.2.1 61 = .ok (.dup2, 1) := by decide +kernel
theorem d_S_passEvening_62 : decode m_S_passEvening.2.1 62 = .ok (.iaload, 1) := by decide +kernel
theorem d_S_passEvening_63 : decode m_S_passEvening.2.1 63 = .ok (.aload_n 0, 1) := by decide +kernel
theorem d_S_passEvening_64 : decode m_S_passEvening.2.1 64 = .ok (.getfield 9, 3) := by decide +kernel
theorem d_S_passEvening_67 : decode m_S_passEvening.2.1 67 = .ok (.iload_n 2, 1) := by decide +kernel
theorem d_S_passEvening_68 : decode m_S_passEvening.2.1 68 = .ok (.iconst 1, 1) := by decide +kernel
theorem d_S_passEvening_69 : decode m_S_passEvening.2.1 69 = .ok (.iadd, 1) := by decide +kernel
theorem d_S_passEvening_70 : decode m_S_passEvening.2.1 70 = .ok (.iaload, 1) := by decide +kernel
theorem d_S_passEvening_71 : decode m_S_passEvening.2.1 71 = .ok (.ior, 1) := by decide +kernel
theorem d_S_passEvening_72 : decode m_S_passEvening.2.1 72 = .ok (.iastore, 1) := by decide +kernel
theorem d_S_passEvening_73 : decode m_S_passEvening.2.1 73 = .ok (.iload_n 3, 1) := by decide +kernel
theorem d_S_passEvening_74 : decode m_S_passEvening.2.1 74 = .ok (.istore_n 1, 1) := by decide +kernel
theorem d_S_passEvening_75 : decode m_S_passEvening.2.1 75 = .ok (.iinc 2 1, 3) := by decide +kernel
theorem d_S_passEvening_78 : decode m_S_passEvening.2.1 78 = .ok (.goto (-74), 3) := by decide +kernel
theorem d_S_passEvening_81 : decode m_S_passEvening.2.1 81 = .ok (.aload_n 0, 1) := by decide +kernel
theorem d_S_passEvening_82 : decode m_S_passEvening.2.1 82 = .ok (.dup, 1) := by decide +kernel
theorem d_S_passEvening_83 : decode m_S_passEvening.2.1 83 = .ok (.getfield 49, 3) := by decide +kernel
theorem d_S_passEvening_86 : decode m_S_passEvening.2.1 86 = .ok (.iconst 1, 1) := by decide +kernel
theorem d_S_passEvening_87 : decode m_S_passEvening.2.1 87 = .ok (.iadd, 1) := by decide +kernel
theorem d_S_passEvening_88 : decode m_S_passEvening.2.1 88 = .ok (.putfield 49, 3) := by decide +kernel
theorem d_S_passEvening_91 : decode m_S_passEvening.2.1 91 = .ok (.return_, 1) := by decide +kernel
theorem d_S_tellsEastward_0 : decode m_S_tellsEastward.2.1 0 = .ok (.iload_n 1, 1) := by decide +kernel
theorem d_S_tellsEastward_1 : decode m_S_tellsEastward.2.1 1 = .ok (.ifCond .lt 23, 3) := by decide +kernel
theorem d_S_tellsEastward_4 : decode m_S_tellsEastward.2.1 4 = .ok (.iload_n 1, 1) := by decide +kernel
theorem d_S_tellsEastward_5 : decode m_S_tellsEastward.2.1 5 = .ok (.bipush 11, 2) := by decide +kernel
theorem d_S_tellsEastward_7 : decode m_S_tellsEastward.2.1 7 = .ok (.if_icmp .ge 17, 3) := by decide +kernel
theorem d_S_tellsEastward_10 : decode m_S_tellsEastward.2.1 10 = .ok (.aload_n 0, 1) := by decide +kernel
theorem d_S_tellsEastward_11 : decode m_S_tellsEastward.2.1 11 = .ok (.getfield 15, 3) := by decide +kernel
theorem d_S_tellsEastward_14 : decode m_S_tellsEastward.2.1 14 = .ok (.iload_n 1, 1) := by decide +kernel
theorem d_S_tellsEastward_15 : decode m_S_tellsEastward.2.1 15 = .ok (.iaload, 1) := by decide +kernel
theorem d_S_tellsEastward_16 : decode m_S_tellsEastward.2.1 16 = .ok (.iconst 4, 1) := by decide +kernel
theorem d_S_tellsEastward_17 : decode m_S_tellsEastward.2.1 17 = .ok (.if_icmp .gt 7, 3) := by decide +kernel
theorem d_S_tellsEastward_20 : decode m_S_tellsEastward.2.1 20 = .ok (.iconst 1, 1) := by decide +kernel
theorem d_S_tellsEastward_21 : decode m_S_tellsEastward.2.1 21 = .ok (.goto 4, 3) := by decide +kernel
theorem d_S_tellsEastward_24 : decode m_S_tellsEastward.2.1 24 = .ok (.iconst 0, 1) := by decide +kernel
theorem d_S_tellsEastward_25 : decode m_S_tellsEastward.2.1 25 = .ok (.ireturn, 1) := by decide +kernel
theorem d_S_knowersOfRumour_0 : decode m_S_knowersOfRumour.2.1 0 = .ok (.iconst 1, 1) := by decide +kernel
theorem d_S_knowersOfRumour_1 : decode m_S_knowersOfRumour.2.1 1 = .ok (.iload_n 1, 1) := by decide +kernel
theorem d_S_knowersOfRumour_2 : decode m_S_knowersOfRumour.2.1 2 = .ok (.ishl, 1) := by decide +kernel
theorem d_S_knowersOfRumour_3 : decode m_S_knowersOfRumour.2.1 3 = .ok (.istore_n 3, 1) := by decide +kernel
theorem d_S_knowersOfRumour_4 : decode m_S_knowersOfRumour.2.1 4 = .ok (.iconst 0, 1) := by decide +kernel
theorem d_S_knowersOfRumour_5 : decode m_S_knowersOfRumour.2.1 5 = .ok (.istore 4, 2) := by decide +kernel
theorem d_S_knowersOfRumour_7 : decode m_S_knowersOfRumour.2.1 7 = .ok (.iload 4, 2) := by decide +kernel
theorem d_S_knowersOfRumour_9 : decode m_S_knowersOfRumour.2.1 9 = .ok (.iload_n 2, 1) := by decide +kernel
theorem d_S_knowersOfRumour_10 : decode m_S_knowersOfRumour.2.1 10 = .ok (.if_icmp .ge 15, 3) := by decide +kernel
theorem d_S_knowersOfRumour_13 : decode m_S_knowersOfRumour.2.1 13 = .ok (.aload_n 0, 1) := by decide +kernel
theorem d_S_knowersOfRumour_14 : decode m_S_knowersOfRumour.2.1 14 = .ok (.iload_n 3, 1) := by decide +kernel
theorem d_S_knowersOfRumour_15 : decode m_S_knowersOfRumour.2.1 15 = .ok (.invokevirtual 94, 3) := by decide +kernel
theorem d_S_knowersOfRumour_18 : decode m_S_knowersOfRumour.2.1 18 = .ok (.istore_n 3, 1) := by decide +kernel
theorem d_S_knowersOfRumour_19 : decode m_S_knowersOfRumour.2.1 19 = .ok (.iinc 4 1, 3) := by decide +kernel
theorem d_S_knowersOfRumour_22 : decode m_S_knowersOfRumour.2.1 22 = .ok (.goto (-15), 3) := by decide +kernel
theorem d_S_knowersOfRumour_25 : decode m_S_knowersOfRumour.2.1 25 = .ok (.iload_n 3, 1) := by decide +kernel
theorem d_S_knowersOfRumour_26 : decode m_S_knowersOfRumour.2.1 26 = .ok (.ireturn, 1) := by decide +kernel
theorem d_S_eveningsOfRumour_0 : decode m_S_eveningsOfRumour.2.1 0 = .ok (.iconst 1, 1) := by decide +kernel
theorem d_S_eveningsOfRumour_1 : decode m_S_eveningsOfRumour.2.1 1 = .ok (.iload_n 1, 1) := by decide +kernel
theorem d_S_eveningsOfRumour_2 : decode m_S_eveningsOfRumour.2.1 2 = .ok (.ishl, 1) := by decide +kernel
theorem d_S_eveningsOfRumour_3 : decode m_S_eveningsOfRumour.2.1 3 = .ok (.istore_n 2, 1) := by decide +kernel
theorem d_S_eveningsOfRumour_4 : decode m_S_eveningsOfRumour.2.1 4 = .ok (.iconst 0, 1) := by decide +kernel
theorem d_S_eveningsOfRumour_5 : decode m_S_eveningsOfRumour.2.1 5 = .ok (.istore_n 3, 1) := by decide +kernel
theorem d_S_eveningsOfRumour_6 : decode m_S_eveningsOfRumour.2.1 6 = .ok (.iload_n 3, 1) := by decide +kernel
theorem d_S_eveningsOfRumour_7 : decode m_S_eveningsOfRumour.2.1 7 = .ok (.bipush 12, 2) := by decide +kernel
theorem d_S_eveningsOfRumour_9 : decode m_S_eveningsOfRumour.2.1 9 = .ok (.if_icmp .ge 27, 3) := by decide +kernel
theorem d_S_eveningsOfRumour_12 : decode m_S_eveningsOfRumour.2.1 12 = .ok (.aload_n 0, 1) := by decide +kernel
theorem d_S_eveningsOfRumour_13 : decode m_S_eveningsOfRumour.2.1 13 = .ok (.iload_n 2, 1) := by decide +kernel
theorem d_S_eveningsOfRumour_14 : decode m_S_eveningsOfRumour.2.1 14 = .ok (.invokevirtual 94, 3) := by decide +kernel
theorem d_S_eveningsOfRumour_17 : decode m_S_eveningsOfRumour.2.1 17 = .ok (.istore 4, 2) := by decide +kernel
theorem d_S_eveningsOfRumour_19 : decode m_S_eveningsOfRumour.2.1 19 = .ok (.iload 4, 2) := by decide +kernel
theorem d_S_eveningsOfRumour_21 : decode m_S_eveningsOfRumour.2.1 21 = .ok (.iload_n 2, 1) := by decide +kernel
theorem d_S_eveningsOfRumour_22 : decode m_S_eveningsOfRumour.2.1 22 = .ok (.if_icmp .ne 5, 3) := by decide +kernel
theorem d_S_eveningsOfRumour_25 : decode m_S_eveningsOfRumour.2.1 25 = .ok (.iload_n 3, 1) := by decide +kernel
theorem d_S_eveningsOfRumour_26 : decode m_S_eveningsOfRumour.2.1 26 = .ok (.ireturn, 1) := by decide +kernel
theorem d_S_eveningsOfRumour_27 : decode m_S_eveningsOfRumour.2.1 27 = .ok (.iload 4, 2) := by decide +kernel
theorem d_S_eveningsOfRumour_29 : decode m_S_eveningsOfRumour.2.1 29 = .ok (.istore_n 2, 1) := by decide +kernel
theorem d_S_eveningsOfRumour_30 : decode m_S_eveningsOfRumour.2.1 30 = .ok (.iinc 3 1, 3) := by decide +kernel
theorem d_S_eveningsOfRumour_33 : decode m_S_eveningsOfRumour.2.1 33 = .ok (.goto (-27), 3) := by decide +kernel
theorem d_S_eveningsOfRumour_36 : decode m_S_eveningsOfRumour.2.1 36 = .ok (.bipush 12, 2) := by decide +kernel
theorem d_S_eveningsOfRumour_38 : decode m_S_eveningsOfRumour.2.1 38 = .ok (.ireturn, 1) := by decide +kernel
theorem d_S_toldOnward_0 : decode m_S_toldOnward.2.1 0 = .ok (.iload_n 1, 1) := by decide +kernel
theorem d_S_toldOnward_1 : decode m_S_toldOnward.2.1 1 = .ok (.istore_n 2, 1) := by decide +kernel
theorem d_S_toldOnward_2 : decode m_S_toldOnward.2.1 2 = .ok (.iconst 0, 1) := by decide +kernel
theorem d_S_toldOnward_3 : decode m_S_toldOnward.2.1 3 = .ok (.istore_n 3, 1) := by decide +kernel
theorem d_S_toldOnward_4 : decode m_S_toldOnward.2.1 4 = .ok (.iload_n 3, 1) := by decide +kernel
theorem d_S_toldOnward_5 : decode m_S_toldOnward.2.1 5 = .ok (.bipush 11, 2) := by decide +kernel
theorem d_S_toldOnward_7 : decode m_S_toldOnward.2.1 7 = .ok (.if_icmp .ge 76, 3) := by decide +kernel
theorem d_S_toldOnward_10 : decode m_S_toldOnward.2.1 10 = .ok (.aload_n 0, 1) := by decide +kernel
theorem d_S_toldOnward_11 : decode m_S_toldOnward.2.1 11 = .ok (.iload_n 3, 1) := by decide +kernel
theorem d_S_toldOnward_12 : decode m_S_toldOnward.2.1 12 = .ok (.invokevirtual 90, 3) := by decide +kernel
theorem d_S_toldOnward_15 : decode m_S_toldOnward.2.1 15 = .ok (.ifCond .ne 6, 3) := by decide +kernel
theorem d_S_toldOnward_18 : decode m_S_toldOnward.2.1 18 = .ok (.goto 59, 3) := by decide +kernel
theorem d_S_toldOnward_21 : decode m_S_toldOnward.2.1 21 = .ok (.iload_n 1, 1) := by decide +kernel
theorem d_S_toldOnward_22 : decode m_S_toldOnward.2.1 22 = .ok (.iload_n 3, 1) := by decide +kernel
theorem d_S_toldOnward_23 : decode m_S_toldOnward.2.1 23 = .ok (.invokestatic 76, 3) := by decide +kernel
theorem d_S_toldOnward_26 : decode m_S_toldOnward.2.1 26 = .ok (.ifCond .eq 24, 3) := by decide +kernel
theorem d_S_toldOnward_29 : decode m_S_toldOnward.2.1 29 = .ok (.aload_n 0, 1) := by decide +kernel
theorem d_S_toldOnward_30 : decode m_S_toldOnward.2.1 30 = .ok (.getfield 34, 3) := by decide +kernel
theorem d_S_toldOnward_33 : decode m_S_toldOnward.2.1 33 = .ok (.iload_n 3, 1) := by decide +kernel
theorem d_S_toldOnward_34 : decode m_S_toldOnward.2.1 34 = .ok (.iconst 1, 1) := by decide +kernel
theorem d_S_toldOnward_35 : decode m_S_toldOnward.2.1 35 = .ok (.iadd, 1) := by decide +kernel
theorem d_S_toldOnward_36 : decode m_S_toldOnward.2.1 36 = .ok (.invokestatic 76, 3) := by decide +kernel
theorem d_S_toldOnward_39 : decode m_S_toldOnward.2.1 39 = .ok (.ifCond .ne 11, 3) := by decide +kernel
theorem d_S_toldOnward_42 : decode m_S_toldOnward.2.1 42 = .ok (.iload_n 2, 1) := by decide +kernel
theorem d_S_toldOnward_43 : decode m_S_toldOnward.2.1 43 = .ok (.iconst 1, 1) := by decide +kernel
theorem d_S_toldOnward_44 : decode m_S_toldOnward.2.1 44 = .ok (.iload_n 3, 1) := by decide +kernel
theorem d_S_toldOnward_45 : decode m_S_toldOnward.2.1 45 = .ok (.iconst 1, 1) := by decide +kernel
theorem d_S_toldOnward_46 : decode m_S_toldOnward.2.1 46 = .ok (.iadd, 1) := by decide +kernel
theorem d_S_toldOnward_47 : decode m_S_toldOnward.2.1 47 = .ok (.ishl, 1) := by decide +kernel
theorem d_S_toldOnward_48 : decode m_S_toldOnward.2.1 48 = .ok (.ior, 1) := by decide +kernel
theorem d_S_toldOnward_49 : decode m_S_toldOnward.2.1 49 = .ok (.istore_n 2, 1) := by decide +kernel
theorem d_S_toldOnward_50 : decode m_S_toldOnward.2.1 50 = .ok (.iload_n 1, 1) := by decide +kernel
theorem d_S_toldOnward_51 : decode m_S_toldOnward.2.1 51 = .ok (.iload_n 3, 1) := by decide +kernel
theorem d_S_toldOnward_52 : decode m_S_toldOnward.2.1 52 = .ok (.iconst 1, 1) := by decide +kernel
theorem d_S_toldOnward_53 : decode m_S_toldOnward.2.1 53 = .ok (.iadd, 1) := by decide +kernel
theorem d_S_toldOnward_54 : decode m_S_toldOnward.2.1 54 = .ok (.invokestatic 76, 3) := by decide +kernel
theorem d_S_toldOnward_57 : decode m_S_toldOnward.2.1 57 = .ok (.ifCond .eq 20, 3) := by decide +kernel
theorem d_S_toldOnward_60 : decode m_S_toldOnward.2.1 60 = .ok (.aload_n 0, 1) := by decide +kernel
theorem d_S_toldOnward_61 : decode m_S_toldOnward.2.1 61 = .ok (.getfield 34, 3) := by decide +kernel
theorem d_S_toldOnward_64 : decode m_S_toldOnward.2.1 64 = .ok (.iload_n 3, 1) := by decide +kernel
theorem d_S_toldOnward_65 : decode m_S_toldOnward.2.1 65 = .ok (.invokestatic 76, 3) := by decide +kernel
theorem d_S_toldOnward_68 : decode m_S_toldOnward.2.1 68 = .ok (.ifCond .ne 9, 3) := by decide +kernel
theorem d_S_toldOnward_71 : decode m_S_toldOnward.2.1 71 = .ok (.iload_n 2, 1) := by decide +kernel
theorem d_S_toldOnward_72 : decode m_S_toldOnward.2.1 72 = .ok (.iconst 1, 1) := by decide +kernel
theorem d_S_toldOnward_73 : decode m_S_toldOnward.2.1 73 = .ok (.iload_n 3, 1) := by decide +kernel
theorem d_S_toldOnward_74 : decode m_S_toldOnward.2.1 74 = .ok (.ishl, 1) := by decide +kernel
theorem d_S_toldOnward_75 : decode m_S_toldOnward.2.1 75 = .ok (.ior, 1) := by decide +kernel
theorem d_S_toldOnward_76 : decode m_S_toldOnward.2.1 76 = .ok (.istore_n 2, 1) := by decide +kernel
theorem d_S_toldOnward_77 : decode m_S_toldOnward.2.1 77 = .ok (.iinc 3 1, 3) := by decide +kernel
theorem d_S_toldOnward_80 : decode m_S_toldOnward.2.1 80 = .ok (.goto (-76), 3) := by decide +kernel
theorem d_S_toldOnward_83 : decode m_S_toldOnward.2.1 83 = .ok (.iload_n 2, 1) := by decide +kernel
theorem d_S_toldOnward_84 : decode m_S_toldOnward.2.1 84 = .ok (.ireturn, 1) := by decide +kernel
theorem d_S_drawYear_0 : decode m_S_drawYear.2.1 0 = .ok (.iload_n 1, 1) := by decide +kernel
theorem d_S_drawYear_1 : decode m_S_drawYear.2.1 1 = .ok (.istore_n 3, 1) := by decide +kernel
theorem d_S_drawYear_2 : decode m_S_drawYear.2.1 2 = .ok (.iconst 0, 1) := by decide +kernel
theorem d_S_drawYear_3 : decode m_S_drawYear.2.1 3 = .ok (.istore 4, 2) := by decide +kernel
theorem d_S_drawYear_5 : decode m_S_drawYear.2.1 5 = .ok (.iload 4, 2) := by decide +kernel
theorem d_S_drawYear_7 : decode m_S_drawYear.2.1 7 = .ok (.iload_n 2, 1) := by decide +kernel
theorem d_S_drawYear_8 : decode m_S_drawYear.2.1 8 = .ok (.if_icmp .ge 68, 3) := by decide +kernel
theorem d_S_drawYear_11 : decode m_S_drawYear.2.1 11 = .ok (.bipush 75, 2) := by decide +kernel
theorem d_S_drawYear_13 : decode m_S_drawYear.2.1 13 = .ok (.iload_n 3, 1) := by decide +kernel
theorem d_S_drawYear_14 : decode m_S_drawYear.2.1 14 = .ok (.imul, 1) := by decide +kernel
theorem d_S_drawYear_15 : decode m_S_drawYear.2.1 15 = .ok (.bipush 74, 2) := by decide +kernel
theorem d_S_drawYear_17 : decode m_S_drawYear.2.1 17 = .ok (.iadd, 1) := by decide +kernel
theorem d_S_drawYear_18 : decode m_S_drawYear.2.1 18 = .ok (.ldc 98, 2) := by decide +kernel
theorem d_S_drawYear_20 : decode m_S_drawYear.2.1 20 = .ok (.irem, 1) := by decide +kernel
theorem d_S_drawYear_21 : decode m_S_drawYear.2.1 21 = .ok (.istore_n 3, 1) := by decide +kernel
theorem d_S_drawYear_22 : decode m_S_drawYear.2.1 22 = .ok (.iload_n 3, 1) := by decide +kernel
theorem d_S_drawYear_23 : decode m_S_drawYear.2.1 23 = .ok (.bipush 8, 2) := by decide +kernel
theorem d_S_drawYear_25 : decode m_S_drawYear.2.1 25 = .ok (.irem, 1) := by decide +kernel
theorem d_S_drawYear_26 : decode m_S_drawYear.2.1 26 = .ok (.invokestatic 99, 3) := by decide +kernel
theorem d_S_drawYear_29 : decode m_S_drawYear.2.1 29 = .ok (.istore 5, 2) := by decide +kernel
theorem d_S_drawYear_31 : decode m_S_drawYear.2.1 31 = .ok (.iload_n 3, 1) := by decide +kernel
theorem d_S_drawYear_32 : decode m_S_drawYear.2.1 32 = .ok (.bipush 8, 2) := by decide +kernel
theorem d_S_drawYear_34 : decode m_S_drawYear.2.1 34 = .ok (.idiv, 1) := by decide +kernel
theorem d_S_drawYear_35 : decode m_S_drawYear.2.1 35 = .ok (.iload 5, 2) := by decide +kernel
theorem d_S_drawYear_37 : decode m_S_drawYear.2.1 37 = .ok (.iconst 1, 1) := by decide +kernel
theorem d_S_drawYear_38 : decode m_S_drawYear.2.1 38 = .ok (.if_icmp .ne 8, 3) := by decide +kernel
theorem d_S_drawYear_41 : decode m_S_drawYear.2.1 41 = .ok (.bipush 6, 2) := by decide +kernel
theorem d_S_drawYear_43 : decode m_S_drawYear.2.1 43 = .ok (.goto 5, 3) := by decide +kernel
theorem d_S_drawYear_46 : decode m_S_drawYear.2.1 46 = .ok (.bipush 12, 2) := by decide +kernel
theorem d_S_drawYear_48 : decode m_S_drawYear.2.1 48 = .ok (.irem, 1) := by decide +kernel
theorem d_S_drawYear_49 : decode m_S_drawYear.2.1 49 = .ok (.istore 6, 2) := by decide +kernel
theorem d_S_drawYear_51 : decode m_S_drawYear.2.1 51 = .ok (.aload_n 0, 1) := by decide +kernel
theorem d_S_drawYear_52 : decode m_S_drawYear.2.1 52 = .ok (.iload 5, 2) := by decide +kernel
theorem d_S_drawYear_54 : decode m_S_drawYear.2.1 54 = .ok (.iload 6, 2) := by decide +kernel
theorem d_S_drawYear_56 : decode m_S_drawYear.2.1 56 = .ok (.invokevirtual 102, 3) := by decide +kernel
theorem d_S_drawYear_59 : decode m_S_drawYear.2.1 59 = .ok (.ifCond .ne 11, 3) := by decide +kernel
theorem d_S_drawYear_62 : decode m_S_drawYear.2.1 62 = .ok (.aload_n 0, 1) := by decide +kernel
theorem d_S_drawYear_63 : decode m_S_drawYear.2.1 63 = .ok (.iload 5, 2) := by decide +kernel
theorem d_S_drawYear_65 : decode m_S_drawYear.2.1 65 = .ok (.iload 6, 2) := by decide +kernel
theorem d_S_drawYear_67 : decode m_S_drawYear.2.1 67 = .ok (.invokevirtual 105, 3) := by decide +kernel
theorem d_S_drawYear_70 : decode m_S_drawYear.2.1 70 = .ok (.iinc 4 1, 3) := by decide +kernel
theorem d_S_drawYear_73 : decode m_S_drawYear.2.1 73 = .ok (.goto (-68), 3) := by decide +kernel
theorem d_S_drawYear_76 : decode m_S_drawYear.2.1 76 = .ok (.return_, 1) := by decide +kernel
theorem d_S_drawnKind_0 : decode m_S_drawnKind.2.1 0 = .ok (.iload_n 0, 1) := by decide +kernel
theorem d_S_drawnKind_1 : decode m_S_drawnKind.2.1 1 = .ok (.ifCond .ne 5, 3) := by decide +kernel
theorem d_S_drawnKind_4 : decode m_S_drawnKind.2.1 4 = .ok (.iconst 3, 1) := by decide +kernel
theorem d_S_drawnKind_5 : decode m_S_drawnKind.2.1 5 = .ok (.ireturn, 1) := by decide +kernel
theorem d_S_drawnKind_6 : decode m_S_drawnKind.2.1 6 = .ok (.iload_n 0, 1) := by decide +kernel
theorem d_S_drawnKind_7 : decode m_S_drawnKind.2.1 7 = .ok (.iconst 1, 1) := by decide +kernel
theorem d_S_drawnKind_8 : decode m_S_drawnKind.2.1 8 = .ok (.if_icmp .ne 5, 3) := by decide +kernel
theorem d_S_drawnKind_11 : decode m_S_drawnKind.2.1 11 = .ok (.iconst 2, 1) := by decide +kernel
theorem d_S_drawnKind_12 : decode m_S_drawnKind.2.1 12 = .ok (.ireturn, 1) := by decide +kernel
theorem d_S_drawnKind_13 : decode m_S_drawnKind.2.1 13 = .ok (.iload_n 0, 1) := by decide +kernel
theorem d_S_drawnKind_14 : decode m_S_drawnKind.2.1 14 = .ok (.iconst 4, 1) := by decide +kernel
theorem d_S_drawnKind_15 : decode m_S_drawnKind.2.1 15 = .ok (.if_icmp .gt 7, 3) := by decide +kernel
theorem d_S_drawnKind_18 : decode m_S_drawnKind.2.1 18 = .ok (.iconst 0, 1) := by decide +kernel
theorem d_S_drawnKind_19 : decode m_S_drawnKind.2.1 19 = .ok (.goto 4, 3) := by decide +kernel
theorem d_S_drawnKind_22 : decode m_S_drawnKind.2.1 22 = .ok (.iconst 1, 1) := by decide +kernel
theorem d_S_drawnKind_23 : decode m_S_drawnKind.2.1 23 = .ok (.ireturn, 1) := by decide +kernel
theorem d_S_factsKnown_0 : decode m_S_factsKnown.2.1 0 = .ok (.iconst 0, 1) := by decide +kernel
theorem d_S_factsKnown_1 : decode m_S_factsKnown.2.1 1 = .ok (.istore_n 1, 1) := by decide +kernel
theorem d_S_factsKnown_2 : decode m_S_factsKnown.2.1 2 = .ok (.iconst 0, 1) := by decide +kernel
theorem d_S_factsKnown_3 : decode m_S_factsKnown.2.1 3 = .ok (.istore_n 2, 1) := by decide +kernel
theorem d_S_factsKnown_4 : decode m_S_factsKnown.2.1 4 = .ok (.iload_n 2, 1) := by decide +kernel
theorem d_S_factsKnown_5 : decode m_S_factsKnown.2.1 5 = .ok (.bipush 12, 2) := by decide +kernel
theorem d_S_factsKnown_7 : decode m_S_factsKnown.2.1 7 = .ok (.if_icmp .ge 21, 3) := by decide +kernel
theorem d_S_factsKnown_10 : decode m_S_factsKnown.2.1 10 = .ok (.iload_n 1, 1) := by decide +kernel
theorem d_S_factsKnown_11 : decode m_S_factsKnown.2.1 11 = .ok (.aload_n 0, 1) := by decide +kernel
theorem d_S_factsKnown_12 : decode m_S_factsKnown.2.1 12 = .ok (.getfield 9, 3) := by decide +kernel
theorem d_S_factsKnown_15 : decode m_S_factsKnown.2.1 15 = .ok (.iload_n 2, 1) := by decide +kernel
theorem d_S_factsKnown_16 : decode m_S_factsKnown.2.1 16 = .ok (.iaload, 1) := by decide +kernel
theorem d_S_factsKnown_17 : decode m_S_factsKnown.2.1 17 = .ok (.invokestatic 109, 3) := by decide +kernel
theorem d_S_factsKnown_20 : decode m_S_factsKnown.2.1 20 = .ok (.iadd, 1) := by decide +kernel
theorem d_S_factsKnown_21 : decode m_S_factsKnown.2.1 21 = .ok (.istore_n 1, 1) := by decide +kernel
theorem d_S_factsKnown_22 : decode m_S_factsKnown.2.1 22 = .ok (.iinc 2 1, 3) := by decide +kernel
theorem d_S_factsKnown_25 : decode m_S_factsKnown.2.1 25 = .ok (.goto (-21), 3) := by decide +kernel
theorem d_S_factsKnown_28 : decode m_S_factsKnown.2.1 28 = .ok (.iload_n 1, 1) := by decide +kernel
theorem d_S_factsKnown_29 : decode m_S_factsKnown.2.1 29 = .ok (.ireturn, 1) := by decide +kernel
theorem d_B_bitCount_0 : decode m_B_bitCount.2.1 0 = .ok (.iload_n 0, 1) := by decide +kernel
theorem d_B_bitCount_1 : decode m_B_bitCount.2.1 1 = .ok (.iload_n 0, 1) := by decide +kernel
theorem d_B_bitCount_2 : decode m_B_bitCount.2.1 2 = .ok (.iconst 1, 1) := by decide +kernel
theorem d_B_bitCount_3 : decode m_B_bitCount.2.1 3 = .ok (.iushr, 1) := by decide +kernel
theorem d_B_bitCount_4 : decode m_B_bitCount.2.1 4 = .ok (.ldc_w 265, 3) := by decide +kernel
theorem d_B_bitCount_7 : decode m_B_bitCount.2.1 7 = .ok (.iand, 1) := by decide +kernel
theorem d_B_bitCount_8 : decode m_B_bitCount.2.1 8 = .ok (.isub, 1) := by decide +kernel
theorem d_B_bitCount_9 : decode m_B_bitCount.2.1 9 = .ok (.istore_n 0, 1) := by decide +kernel
theorem d_B_bitCount_10 : decode m_B_bitCount.2.1 10 = .ok (.iload_n 0, 1) := by decide +kernel
theorem d_B_bitCount_11 : decode m_B_bitCount.2.1 11 = .ok (.ldc_w 266, 3) := by decide +kernel
theorem d_B_bitCount_14 : decode m_B_bitCount.2.1 14 = .ok (.iand, 1) := by decide +kernel
theorem d_B_bitCount_15 : decode m_B_bitCount.2.1 15 = .ok (.iload_n 0, 1) := by decide +kernel
theorem d_B_bitCount_16 : decode m_B_bitCount.2.1 16 = .ok (.iconst 2, 1) := by decide +kernel
theorem d_B_bitCount_17 : decode m_B_bitCount.2.1 17 = .ok (.iushr, 1) := by decide +kernel
theorem d_B_bitCount_18 : decode m_B_bitCount.2.1 18 = .ok (.ldc_w 266, 3) := by decide +kernel
theorem d_B_bitCount_21 : decode m_B_bitCount.2.1 21 = .ok (.iand, 1) := by decide +kernel
theorem d_B_bitCount_22 : decode m_B_bitCount.2.1 22 = .ok (.iadd, 1) := by decide +kernel
theorem d_B_bitCount_23 : decode m_B_bitCount.2.1 23 = .ok (.istore_n 0, 1) := by decide +kernel
theorem d_B_bitCount_24 : decode m_B_bitCount.2.1 24 = .ok (.iload_n 0, 1) := by decide +kernel
theorem d_B_bitCount_25 : decode m_B_bitCount.2.1 25 = .ok (.iload_n 0, 1) := by decide +kernel
theorem d_B_bitCount_26 : decode m_B_bitCount.2.1 26 = .ok (.iconst 4, 1) := by decide +kernel
theorem d_B_bitCount_27 : decode m_B_bitCount.2.1 27 = .ok (.iushr, 1) := by decide +kernel
theorem d_B_bitCount_28 : decode m_B_bitCount.2.1 28 = .ok (.iadd, 1) := by decide +kernel
theorem d_B_bitCount_29 : decode m_B_bitCount.2.1 29 = .ok (.ldc_w 267, 3) := by decide +kernel
theorem d_B_bitCount_32 : decode m_B_bitCount.2.1 32 = .ok (.iand, 1) := by decide +kernel
theorem d_B_bitCount_33 : decode m_B_bitCount.2.1 33 = .ok (.istore_n 0, 1) := by decide +kernel
theorem d_B_bitCount_34 : decode m_B_bitCount.2.1 34 = .ok (.iload_n 0, 1) := by decide +kernel
theorem d_B_bitCount_35 : decode m_B_bitCount.2.1 35 = .ok (.iload_n 0, 1) := by decide +kernel
theorem d_B_bitCount_36 : decode m_B_bitCount.2.1 36 = .ok (.bipush 8, 2) := by decide +kernel
theorem d_B_bitCount_38 : decode m_B_bitCount.2.1 38 = .ok (.iushr, 1) := by decide +kernel
theorem d_B_bitCount_39 : decode m_B_bitCount.2.1 39 = .ok (.iadd, 1) := by decide +kernel
theorem d_B_bitCount_40 : decode m_B_bitCount.2.1 40 = .ok (.istore_n 0, 1) := by decide +kernel
theorem d_B_bitCount_41 : decode m_B_bitCount.2.1 41 = .ok (.iload_n 0, 1) := by decide +kernel
theorem d_B_bitCount_42 : decode m_B_bitCount.2.1 42 = .ok (.iload_n 0, 1) := by decide +kernel
theorem d_B_bitCount_43 : decode m_B_bitCount.2.1 43 = .ok (.bipush 16, 2) := by decide +kernel
theorem d_B_bitCount_45 : decode m_B_bitCount.2.1 45 = .ok (.iushr, 1) := by decide +kernel
theorem d_B_bitCount_46 : decode m_B_bitCount.2.1 46 = .ok (.iadd, 1) := by decide +kernel
theorem d_B_bitCount_47 : decode m_B_bitCount.2.1 47 = .ok (.istore_n 0, 1) := by decide +kernel
theorem d_B_bitCount_48 : decode m_B_bitCount.2.1 48 = .ok (.iload_n 0, 1) := by decide +kernel
theorem d_B_bitCount_49 : decode m_B_bitCount.2.1 49 = .ok (.bipush 63, 2) := by decide +kernel
theorem d_B_bitCount_51 : decode m_B_bitCount.2.1 51 = .ok (.iand, 1) := by decide +kernel
theorem d_B_bitCount_52 : decode m_B_bitCount.2.1 52 = .ok (.ireturn, 1) := by decide +kernel
end
section
theorem d_M_init_0 : decode m_M_init.2.1 0 = .ok (.aload_n 0, 1) := by decide +kernel
theorem d_M_init_1 : decode m_M_init.2.1 1 = .ok (.invokespecial 1, 3) := by decide +kernel
theorem d_M_init_4 : decode m_M_init.2.1 4 = .ok (.aload_n 0, 1) := by decide +kernel
theorem d_M_init_5 : decode m_M_init.2.1 5 = .ok (.bipush 16, 2) := by decide +kernel
theorem d_M_init_7 : decode m_M_init.2.1 7 = .ok (.newarray .int, 2) := by decide +kernel
theorem d_M_init_9 : decode m_M_init.2.1 9 = .ok (.putfield 7, 3) := by decide +kernel
theorem d_M_init_12 : decode m_M_init.2.1 12 = .ok (.aload_n 0, 1) := by decide +kernel
theorem d_M_init_13 : decode m_M_init.2.1 13 = .ok (.bipush 16, 2) := by decide +kernel
theorem d_M_init_15 : decode m_M_init.2.1 15 = .ok (.newarray .int, 2) := by decide +kernel
theorem d_M_init_17 : decode m_M_init.2.1 17 = .ok (.putfield 13, 3) := by decide +kernel
theorem d_M_init_20 : decode m_M_init.2.1 20 = .ok (.aload_n 0, 1) := by decide +kernel
theorem d_M_init_21 : decode m_M_init.2.1 21 = .ok (.bipush 11, 2) := by decide +kernel
theorem d_M_init_23 : decode m_M_init.2.1 23 = .ok (.newarray .int, 2) := by decide +kernel
theorem d_M_init_25 : decode m_M_init.2.1 25 = .ok (.putfield 16, 3) := by decide +kernel
theorem d_M_init_28 : decode m_M_init.2.1 28 = .ok (.aload_n 0, 1) := by decide +kernel
theorem d_M_init_29 : decode m_M_init.2.1 29 = .ok (.iconst 4, 1) := by decide +kernel
theorem d_M_init_30 : decode m_M_init.2.1 30 = .ok (.putfield 19, 3) := by decide +kernel
theorem d_M_init_33 : decode m_M_init.2.1 33 = .ok (.aload_n 0, 1) := by decide +kernel
theorem d_M_init_34 : decode m_M_init.2.1 34 = .ok (.bipush 24, 2) := by decide +kernel
theorem d_M_init_36 : decode m_M_init.2.1 36 = .ok (.newarray .int, 2) := by decide +kernel
theorem d_M_init_38 : decode m_M_init.2.1 38 = .ok (.putfield 23, 3) := by decide +kernel
theorem d_M_init_41 : decode m_M_init.2.1 41 = .ok (.aload_n 0, 1) := by decide +kernel
theorem d_M_init_42 : decode m_M_init.2.1 42 = .ok (.bipush 16, 2) := by decide +kernel
theorem d_M_init_44 : decode m_M_init.2.1 44 = .ok (.newarray .int, 2) := by decide +kernel
theorem d_M_init_46 : decode m_M_init.2.1 46 = .ok (.putfield 26, 3) := by decide +kernel
theorem d_M_init_49 : decode m_M_init.2.1 49 = .ok (.aload_n 0, 1) := by decide +kernel
theorem d_M_init_50 : decode m_M_init.2.1 50 = .ok (.bipush 60, 2) := by decide +kernel
theorem d_M_init_52 : decode m_M_init.2.1 52 = .ok (.newarray .int, 2) := by decide +kernel
theorem d_M_init_54 : decode m_M_init.2.1 54 = .ok (.putfield 29, 3) := by decide +kernel
theorem d_M_init_57 : decode m_M_init.2.1 57 = .ok (.aload_n 0, 1) := by decide +kernel
theorem d_M_init_58 : decode m_M_init.2.1 58 = .ok (.bipush 12, 2) := by decide +kernel
theorem d_M_init_60 : decode m_M_init.2.1 60 = .ok (.newarray .int, 2) := by decide +kernel
theorem d_M_init_62 : decode m_M_init.2.1 62 = .ok (.putfield 32, 3) := by decide +kernel
theorem d_M_init_65 : decode m_M_init.2.1 65 = .ok (.aload_n 0, 1) := by decide +kernel
theorem d_M_init_66 : decode m_M_init.2.1 66 = .ok (.bipush 12, 2) := by decide +kernel
theorem d_M_init_68 : decode m_M_init.2.1 68 = .ok (.newarray .int, 2) := by decide +kernel
theorem d_M_init_70 : decode m_M_init.2.1 70 = .ok (.putfield 35, 3) := by decide +kernel
theorem d_M_init_73 : decode m_M_init.2.1 73 = .ok (.aload_n 0, 1) := by decide +kernel
theorem d_M_init_74 : decode m_M_init.2.1 74 = .ok (.bipush 12, 2) := by decide +kernel
theorem d_M_init_76 : decode m_M_init.2.1 76 = .ok (.newarray .long, 2) := by decide +kernel
theorem d_M_init_78 : decode m_M_init.2.1 78 = .ok (.putfield 38, 3) := by decide +kernel
theorem d_M_init_81 : decode m_M_init.2.1 81 = .ok (.aload_n 0, 1) := by decide +kernel
theorem d_M_init_82 : decode m_M_init.2.1 82 = .ok (.sipush 160, 3) := by decide +kernel
theorem d_M_init_85 : decode m_M_init.2.1 85 = .ok (.newarray .int, 2) := by decide +kernel
theorem d_M_init_87 : decode m_M_init.2.1 87 = .ok (.putfield 42, 3) := by decide +kernel
theorem d_M_init_90 : decode m_M_init.2.1 90 = .ok (.aload_n 0, 1) := by decide +kernel
theorem d_M_init_91 : decode m_M_init.2.1 91 = .ok (.iconst 2, 1) := by decide +kernel
theorem d_M_init_92 : decode m_M_init.2.1 92 = .ok (.newarray .boolean, 2) := by decide +kernel
theorem d_M_init_94 : decode m_M_init.2.1 94 = .ok (.putfield 45, 3) := by decide +kernel
theorem d_M_init_97 : decode m_M_init.2.1 97 = .ok (.aload_n 0, 1) := by decide +kernel
theorem d_M_init_98 : decode m_M_init.2.1 98 = .ok (.iconst 0, 1) := by decide +kernel
theorem d_M_init_99 : decode m_M_init.2.1 99 = .ok (.putfield 49, 3) := by decide +kernel
theorem d_M_init_102 : decode m_M_init.2.1 102 = .ok (.return_, 1) := by decide +kernel
theorem d_M_in_0 : decode m_M_in.2.1 0 = .ok (.iload_n 0, 1) := by decide +kernel
theorem d_M_in_1 : decode m_M_in.2.1 1 = .ok (.iload_n 1, 1) := by decide +kernel
theorem d_M_in_2 : decode m_M_in.2.1 2 = .ok (.if_icmp .lt 12, 3) := by decide +kernel
theorem d_M_in_5 : decode m_M_in.2.1 5 = .ok (.iload_n 0, 1) := by decide +kernel
theorem d_M_in_6 : decode m_M_in.2.1 6 = .ok (.iload_n 2, 1) := by decide +kernel
theorem d_M_in_7 : decode m_M_in.2.1 7 = .ok (.if_icmp .gt 7, 3) := by decide +kernel
theorem d_M_in_10 : decode m_M_in.2.1 10 = .ok (.iconst 1, 1) := by decide +kernel
theorem d_M_in_11 : decode m_M_in.2.1 11 = .ok (.goto 4, 3) := by decide +kernel
theorem d_M_in_14 : decode m_M_in.2.1 14 = .ok (.iconst 0, 1) := by decide +kernel
theorem d_M_in_15 : decode m_M_in.2.1 15 = .ok (.ireturn, 1) := by decide +kernel
theorem d_M_has_0 : decode m_M_has.2.1 0 = .ok (.iload_n 0, 1) := by decide +kernel
theorem d_M_has_1 : decode m_M_has.2.1 1 = .ok (.iload_n 1, 1) := by decide +kernel
theorem d_M_has_2 : decode m_M_has.2.1 2 = .ok (.ishr, 1) := by decide +kernel
theorem d_M_has_3 : decode m_M_has.2.1 3 = .ok (.iconst 1, 1) := by decide +kernel
theorem d_M_has_4 : decode m_M_has.2.1 4 = .ok (.iand, 1) := by decide +kernel
theorem d_M_has_5 : decode m_M_has.2.1 5 = .ok (.iconst 1, 1) := by decide +kernel
theorem d_M_has_6 : decode m_M_has.2.1 6 = .ok (.if_icmp .ne 7, 3) := by decide +kernel
theorem d_M_has_9 : decode m_M_has.2.1 9 = .ok (.iconst 1, 1) := by decide +kernel
theorem d_M_has_10 : decode m_M_has.2.1 10 = .ok (.goto 4, 3) := by decide +kernel
theorem d_M_has_13 : decode m_M_has.2.1 13 = .ok (.iconst 0, 1) := by decide +kernel
theorem d_M_has_14 : decode m_M_has.2.1 14 = .ok (.ireturn, 1) := by decide +kernel
theorem d_M_bits_0 : decode m_M_bits.2.1 0 = .ok (.iconst 0, 1) := by decide +kernel
theorem d_M_bits_1 : decode m_M_bits.2.1 1 = .ok (.istore_n 1, 1) := by decide +kernel
theorem d_M_bits_2 : decode m_M_bits.2.1 2 = .ok (.iconst 0, 1) := by decide +kernel
theorem d_M_bits_3 : decode m_M_bits.2.1 3 = .ok (.istore_n 2, 1) := by decide +kernel
theorem d_M_bits_4 : decode m_M_bits.2.1 4 = .ok (.iload_n 2, 1) := by decide +kernel
theorem d_M_bits_5 : decode m_M_bits.2.1 5 = .ok (.bipush 12, 2) := by decide +kernel
theorem d_M_bits_7 : decode m_M_bits.2.1 7 = .ok (.if_icmp .ge 17, 3) := by decide +kernel
theorem d_M_bits_10 : decode m_M_bits.2.1 10 = .ok (.iload_n 1, 1) := by decide +kernel
theorem d_M_bits_11 : decode m_M_bits.2.1 11 = .ok (.iload_n 0, 1) := by decide +kernel
theorem d_M_bits_12 : decode m_M_bits.2.1 12 = .ok (.iload_n 2, 1) := by decide +kernel
theorem d_M_bits_13 : decode m_M_bits.2.1 13 = .ok (.ishr, 1) := by decide +kernel
theorem d_M_bits_14 : decode m_M_bits.2.1 14 = .ok (.iconst 1, 1) := by decide +kernel
theorem d_M_bits_15 : decode m_M_bits.2.1 15 = .ok (.iand, 1) := by decide +kernel
theorem d_M_bits_16 : decode m_M_bits.2.1 16 = .ok (.iadd, 1) := by decide +kernel
theorem d_M_bits_17 : decode m_M_bits.2.1 17 = .ok (.istore_n 1, 1) := by decide +kernel
theorem d_M_bits_18 : decode m_M_bits.2.1 18 = .ok (.iinc 2 1, 3) := by decide +kernel
theorem d_M_bits_21 : decode m_M_bits.2.1 21 = .ok (.goto (-17), 3) := by decide +kernel
theorem d_M_bits_24 : decode m_M_bits.2.1 24 = .ok (.iload_n 1, 1) := by decide +kernel
theorem d_M_bits_25 : decode m_M_bits.2.1 25 = .ok (.ireturn, 1) := by decide +kernel
theorem d_M_isHouse_0 : decode m_M_isHouse.2.1 0 = .ok (.iload_n 0, 1) := by decide +kernel
theorem d_M_isHouse_1 : decode m_M_isHouse.2.1 1 = .ok (.iconst 0, 1) := by decide +kernel
theorem d_M_isHouse_2 : decode m_M_isHouse.2.1 2 = .ok (.bipush 11, 2) := by decide +kernel
theorem d_M_isHouse_4 : decode m_M_isHouse.2.1 4 = .ok (.invokestatic 52, 3) := by decide +kernel
theorem d_M_isHouse_7 : decode m_M_isHouse.2.1 7 = .ok (.ireturn, 1) := by decide +kernel
theorem d_M_house_0 : decode m_M_house.2.1 0 = .ok (.iload_n 1, 1) := by decide +kernel
theorem d_M_house_1 : decode m_M_house.2.1 1 = .ok (.invokestatic 56, 3) := by decide +kernel
theorem d_M_house_4 : decode m_M_house.2.1 4 = .ok (.ifCond .ne 5, 3) := by decide +kernel
theorem d_M_house_7 : decode m_M_house.2.1 7 = .ok (.iconst (-1), 1) := by decide +kernel
theorem d_M_house_8 : decode m_M_house.2.1 8 = .ok (.ireturn, 1) := by decide +kernel
theorem d_M_house_9 : decode m_M_house.2.1 9 = .ok (.iload 4, 2) := by decide +kernel
theorem d_M_house_11 : decode m_M_house.2.1 11 = .ok (.iconst 0, 1) := by decide +kernel
theorem d_M_house_12 : decode m_M_house.2.1 12 = .ok (.sipush 255, 3) := by decide +kernel
theorem d_M_house_15 : decode m_M_house.2.1 15 = .ok (.invokestatic 52, 3) := by decide +kernel
theorem d_M_house_18 : decode m_M_house.2.1 18 = .ok (.ifCond .ne 6, 3) := by decide +kernel
theorem d_M_house_21 : decode m_M_house.2.1 21 = .ok (.bipush (-2), 2) := by decide +kernel
theorem d_M_house_23 : decode m_M_house.2.1 23 = .ok (.ireturn, 1) := by decide +kernel
theorem d_M_house_24 : decode m_M_house.2.1 24 = .ok (.aload_n 0, 1) := by decide +kernel
theorem d_M_house_25 : decode m_M_house.2.1 25 = .ok (.getfield 7, 3) := by decide +kernel
theorem d_M_house_28 : decode m_M_house.2.1 28 = .ok (.iload_n 1, 1) := by decide +kernel
theorem d_M_house_29 : decode m_M_house.2.1 29 = .ok (.iaload, 1) := by decide +kernel
theorem d_M_house_30 : decode m_M_house.2.1 30 = .ok (.istore 5, 2) := by decide +kernel
theorem d_M_house_32 : decode m_M_house.2.1 32 = .ok (.aload_n 0, 1) := by decide +kernel
theorem d_M_house_33 : decode m_M_house.2.1 33 = .ok (.getfield 7, 3) := by decide +kernel
theorem d_M_house_36 : decode m_M_house.2.1 36 = .ok (.iload_n 1, 1) := by decide +kernel
theorem d_M_house_37 : decode m_M_house.2.1 37 = .ok (.iload 4, 2) := by decide +kernel
theorem d_M_house_39 : decode m_M_house.2.1 39 = .ok (.iastore, 1) := by decide +kernel
theorem d_M_house_40 : decode m_M_house.2.1 40 = .ok (.aload_n 0, 1) := by decide +kernel
theorem d_M_house_41 : decode m_M_house.2.1 41 = .ok (.getfield 7, 3) := by decide +kernel
theorem d_M_house_44 : decode m_M_house.2.1 44 = .ok (.bipush 14, 2) := by decide +kernel
theorem d_M_house_46 : decode m_M_house.2.1 46 = .ok (.dup2, 1) := by decide +kernel
theorem d_M_house_47 : decode m_M_house.2.1 47 = .ok (.iaload, 1) := by decide +kernel
theorem d_M_house_48 : decode m_M_house.2.1 48 = .ok (.iconst 1, 1) := by decide +kernel
theorem d_M_house_49 : decode m_M_house.2.1 49 = .ok (.iload_n 1, 1) := by decide +kernel
theorem d_M_house_50 : decode m_M_house.2.1 50 = .ok (.ishl, 1) := by decide +kernel
theorem d_M_house_51 : decode m_M_house.2.1 51 = .ok (.iconst (-1), 1) := by decide +kernel
theorem d_M_house_52 : decode m_M_house.2.1 52 = .ok (.ixor, 1) := by decide +kernel
theorem d_M_house_53 : decode m_M_house.2.1 53 = .ok (.iand, 1) := by decide +kernel
theorem d_M_house_54 : decode m_M_house.2.1 54 = .ok (.iastore, 1) := by decide +kernel
theorem d_M_house_55 : decode m_M_house.2.1 55 = .ok (.aload_n 0, 1) := by decide +kernel
theorem d_M_house_56 : decode m_M_house.2.1 56 = .ok (.getfield 7, 3) := by decide +kernel
theorem d_M_house_59 : decode m_M_house.2.1 59 = .ok (.bipush 14, 2) := by decide +kernel
theorem d_M_house_61 : decode m_M_house.2.1 61 = .ok (.dup2, 1) := by decide +kernel
theorem d_M_house_62 : decode m_M_house.2.1 62 = .ok (.iaload, 1) := by decide +kernel
theorem d_M_house_63 : decode m_M_house.2.1 63 = .ok (.iload_n 2, 1) := by decide +kernel
theorem d_M_house_64 : decode m_M_house.2.1 64 = .ok (.ifCond .eq 9, 3) := by decide +kernel
theorem d_M_house_67 : decode m_M_house.2.1 67 = .ok (.iconst 1, 1) := by decide +kernel
theorem d_M_house_68 : decode m_M_house.2.1 68 = .ok (.iload_n 1, 1) := by decide +kernel
theorem d_M_house_69 : decode m_M_house.2.1 69 = .ok (.ishl, 1) := by decide +kernel
theorem d_M_house_70 : decode m_M_house.2.1 70 = .ok (.goto 4, 3) := by decide +kernel
theorem d_M_house_73 : decode m_M_house.2.1 73 = .ok (.iconst 0, 1) := by decide +kernel
theorem d_M_house_74 : decode m_M_house.2.1 74 = .ok (.ior, 1) := by decide +kernel
theorem d_M_house_75 : decode m_M_house.2.1 75 = .ok (.iastore, 1) := by decide +kernel
theorem d_M_house_76 : decode m_M_house.2.1 76 = .ok (.aload_n 0, 1) := by decide +kernel
theorem d_M_house_77 : decode m_M_house.2.1 77 = .ok (.dup, 1) := by decide +kernel
theorem d_M_house_78 : decode m_M_house.2.1 78 = .ok (.getfield 49, 3) := by decide +kernel
theorem d_M_house_81 : decode m_M_house.2.1 81 = .ok (.iconst 1, 1) := by decide +kernel
theorem d_M_house_82 : decode m_M_house.2.1 82 = .ok (.iload_n 1, 1) := by decide +kernel
theorem d_M_house_83 : decode m_M_house.2.1 83 = .ok (.ishl, 1) := by decide +kernel
theorem d_M_house_84 : decode m_M_house.2.1 84 = .ok (.iconst (-1), 1) := by decide +kernel
theorem d_M_house_85 : decode m_M_house.2.1 85 = .ok (.ixor, 1) := by decide +kernel
theorem d_M_house_86 : decode m_M_house.2.1 86 = .ok (.iand, 1) := by decide +kernel
theorem d_M_house_87 : decode m_M_house.2.1 87 = .ok (.putfield 49, 3) := by decide +kernel
theorem d_M_house_90 : decode m_M_house.2.1 90 = .ok (.aload_n 0, 1) := by decide +kernel
theorem d_M_house_91 : decode m_M_house.2.1 91 = .ok (.dup, 1) := by decide +kernel
theorem d_M_house_92 : decode m_M_house.2.1 92 = .ok (.getfield 49, 3) := by decide +kernel
theorem d_M_house_95 : decode m_M_house.2.1 95 = .ok (.iload_n 3, 1) := by decide +kernel
theorem d_M_house_96 : decode m_M_house.2.1 96 = .ok (.ifCond .eq 9, 3) := by decide +kernel
theorem d_M_house_99 : decode m_M_house.2.1 99 = .ok (.iconst 1, 1) := by decide +kernel
theorem d_M_house_100 : decode m_M_house.2.1 100 = .ok (.iload_n 1, 1) := by decide +kernel
theorem d_M_house_101 : decode m_M_house.2.1 101 = .ok (.ishl, 1) := by decide +kernel
theorem d_M_house_102 : decode m_M_house.2.1 102 = .ok (.goto 4, 3) := by decide +kernel
theorem d_M_house_105 : decode m_M_house.2.1 105 = .ok (.iconst 0, 1) := by decide +kernel
theorem d_M_house_106 : decode m_M_house.2.1 106 = .ok (.ior, 1) := by decide +kernel
theorem d_M_house_107 : decode m_M_house.2.1 107 = .ok (.putfield 49, 3) := by decide +kernel
theorem d_M_house_110 : decode m_M_house.2.1 110 = .ok (.iload 5, 2) := by decide +kernel
theorem d_M_house_112 : decode m_M_house.2.1 112 = .ok (.ireturn, 1) := by decide +kernel
theorem d_M_wall_0 : decode m_M_wall.2.1 0 = .ok (.iload_n 1, 1) := by decide +kernel
theorem d_M_wall_1 : decode m_M_wall.2.1 1 = .ok (.iconst 0, 1) := by decide +kernel
theorem d_M_wall_2 : decode m_M_wall.2.1 2 = .ok (.bipush 10, 2) := by decide +kernel
theorem d_M_wall_4 : decode m_M_wall.2.1 4 = .ok (.invokestatic 52, 3) := by decide +kernel
theorem d_M_wall_7 : decode m_M_wall.2.1 7 = .ok (.ifCond .ne 5, 3) := by decide +kernel
theorem d_M_wall_10 : decode m_M_wall.2.1 10 = .ok (.iconst (-1), 1) := by decide +kernel
theorem d_M_wall_11 : decode m_M_wall.2.1 11 = .ok (.ireturn, 1) := by decide +kernel
theorem d_M_wall_12 : decode m_M_wall.2.1 12 = .ok (.iload_n 2, 1) := by decide +kernel
theorem d_M_wall_13 : decode m_M_wall.2.1 13 = .ok (.iconst 0, 1) := by decide +kernel
theorem d_M_wall_14 : decode m_M_wall.2.1 14 = .ok (.bipush 9, 2) := by decide +kernel
theorem d_M_wall_16 : decode m_M_wall.2.1 16 = .ok (.invokestatic 52, 3) := by decide +kernel
theorem d_M_wall_19 : decode m_M_wall.2.1 19 = .ok (.ifCond .ne 6, 3) := by decide +kernel
theorem d_M_wall_22 : decode m_M_wall.2.1 22 = .ok (.bipush (-2), 2) := by decide +kernel
theorem d_M_wall_24 : decode m_M_wall.2.1 24 = .ok (.ireturn, 1) := by decide +kernel
theorem d_M_wall_25 : decode m_M_wall.2.1 25 = .ok (.aload_n 0, 1) := by decide +kernel
theorem d_M_wall_26 : decode m_M_wall.2.1 26 = .ok (.getfield 16, 3) := by decide +kernel
theorem d_M_wall_29 : decode m_M_wall.2.1 29 = .ok (.iload_n 1, 1) := by decide +kernel
theorem d_M_wall_30 : decode m_M_wall.2.1 30 = .ok (.iaload, 1) := by decide +kernel
theorem d_M_wall_31 : decode m_M_wall.2.1 31 = .ok (.istore_n 3, 1) := by decide +kernel
theorem d_M_wall_32 : decode m_M_wall.2.1 32 = .ok (.aload_n 0, 1) := by decide +kernel
theorem d_M_wall_33 : decode m_M_wall.2.1 33 = .ok (.getfield 16, 3) := by decide +kernel
theorem d_M_wall_36 : decode m_M_wall.2.1 36 = .ok (.iload_n 1, 1) := by decide +kernel
theorem d_M_wall_37 : decode m_M_wall.2.1 37 = .ok (.iload_n 2, 1) := by decide +kernel
theorem d_M_wall_38 : decode m_M_wall.2.1 38 = .ok (.iastore, 1) := by decide +kernel
theorem d_M_wall_39 : decode m_M_wall.2.1 39 = .ok (.iload_n 3, 1) := by decide +kernel
theorem d_M_wall_40 : decode m_M_wall.2.1 40 = .ok (.ireturn, 1) := by decide +kernel
theorem d_M_set_0 : decode m_M_set.2.1 0 = .ok (.iload_n 1, 1) := by decide +kernel
theorem d_M_set_1 : decode m_M_set.2.1 1 = .ok (.ifCond .ne 26, 3) := by decide +kernel
theorem d_M_set_4 : decode m_M_set.2.1 4 = .ok (.iload_n 2, 1) := by decide +kernel
theorem d_M_set_5 : decode m_M_set.2.1 5 = .ok (.iconst 1, 1) := by decide +kernel
theorem d_M_set_6 : decode m_M_set.2.1 6 = .ok (.bipush 40, 2) := by decide +kernel
theorem d_M_set_8 : decode m_M_set.2.1 8 = .ok (.invokestatic 52, 3) := by decide +kernel
theorem d_M_set_11 : decode m_M_set.2.1 11 = .ok (.ifCond .eq 16, 3) := by decide +kernel
theorem d_M_set_14 : decode m_M_set.2.1 14 = .ok (.aload_n 0, 1) := by decide +kernel
theorem d_M_set_15 : decode m_M_set.2.1 15 = .ok (.getfield 19, 3) := by decide +kernel
theorem d_M_set_18 : decode m_M_set.2.1 18 = .ok (.istore_n 3, 1) := by decide +kernel
theorem d_M_set_19 : decode m_M_set.2.1 19 = .ok (.aload_n 0, 1) := by decide +kernel
theorem d_M_set_20 : decode m_M_set.2.1 20 = .ok (.iload_n 2, 1) := by decide +kernel
theorem d_M_set_21 : decode m_M_set.2.1 21 = .ok (.putfield 19, 3) := by decide +kernel
theorem d_M_set_24 : decode m_M_set.2.1 24 = .ok (.goto 67, 3) := by decide +kernel
theorem d_M_set_27 : decode m_M_set.2.1 27 = .ok (.iload_n 1, 1) := by decide +kernel
theorem d_M_set_28 : decode m_M_set.2.1 28 = .ok (.iconst 1, 1) := by decide +kernel
theorem d_M_set_29 : decode m_M_set.2.1 29 = .ok (.if_icmp .ne 28, 3) := by decide +kernel
theorem d_M_set_32 : decode m_M_set.2.1 32 = .ok (.iload_n 2, 1) := by decide +kernel
theorem d_M_set_33 : decode m_M_set.2.1 33 = .ok (.bipush (-3), 2) := by decide +kernel
theorem d_M_set_35 : decode m_M_set.2.1 35 = .ok (.iconst 3, 1) := by decide +kernel
theorem d_M_set_36 : decode m_M_set.2.1 36 = .ok (.invokestatic 52, 3) := by decide +kernel
theorem d_M_set_39 : decode m_M_set.2.1 39 = .ok (.ifCond .eq 18, 3) := by decide +kernel
theorem d_M_set_42 : decode m_M_set.2.1 42 = .ok (.aload_n 0, 1) := by decide +kernel
theorem d_M_set_43 : decode m_M_set.2.1 43 = .ok (.getfield 60, 3) := by decide +kernel
theorem d_M_set_46 : decode m_M_set.2.1 46 = .ok (.iconst 3, 1) := by decide +kernel
theorem d_M_set_47 : decode m_M_set.2.1 47 = .ok (.iadd, 1) := by decide +kernel
theorem d_M_set_48 : decode m_M_set.2.1 48 = .ok (.istore_n 3, 1) := by decide +kernel
theorem d_M_set_49 : decode m_M_set.2.1 49 = .ok (.aload_n 0, 1) := by decide +kernel
theorem d_M_set_50 : decode m_M_set.2.1 50 = .ok (.iload_n 2, 1) := by decide +kernel
theorem d_M_set_51 : decode m_M_set.2.1 51 = .ok (.putfield 60, 3) := by decide +kernel
theorem d_M_set_54 : decode m_M_set.2.1 54 = .ok (.goto 37, 3) := by decide +kernel
theorem d_M_set_57 : decode m_M_set.2.1 57 = .ok (.iload_n 1, 1) := by decide +kernel
theorem d_M_set_58 : decode m_M_set.2.1 58 = .ok (.iconst 2, 1) := by decide +kernel
theorem d_M_set_59 : decode m_M_set.2.1 59 = .ok (.if_icmp .ne 29, 3) := by decide +kernel
theorem d_M_set_62 : decode m_M_set.2.1 62 = .ok (.iload_n 2, 1) := by decide +kernel
theorem d_M_set_63 : decode m_M_set.2.1 63 = .ok (.invokestatic 56, 3) := by decide +kernel
theorem d_M_set_66 : decode m_M_set.2.1 66 = .ok (.ifCond .eq 22, 3) := by decide +kernel
theorem d_M_set_69 : decode m_M_set.2.1 69 = .ok (.aload_n 0, 1) := by decide +kernel
theorem d_M_set_70 : decode m_M_set.2.1 70 = .ok (.getfield 7, 3) := by decide +kernel
theorem d_M_set_73 : decode m_M_set.2.1 73 = .ok (.bipush 12, 2) := by decide +kernel
theorem d_M_set_75 : decode m_M_set.2.1 75 = .ok (.iaload, 1) := by decide +kernel
theorem d_M_set_76 : decode m_M_set.2.1 76 = .ok (.istore_n 3, 1) := by decide +kernel
theorem d_M_set_77 : decode m_M_set.2.1 77 = .ok (.aload_n 0, 1) := by decide +kernel
theorem d_M_set_78 : decode m_M_set.2.1 78 = .ok (.getfield 7, 3) := by decide +kernel
theorem d_M_set_81 : decode m_M_set.2.1 81 = .ok (.bipush 12, 2) := by decide +kernel
theorem d_M_set_83 : decode m_M_set.2.1 83 = .ok (.iload_n 2, 1) := by decide +kernel
theorem d_M_set_84 : decode m_M_set.2.1 84 = .ok (.iastore, 1) := by decide +kernel
theorem d_M_set_85 : decode m_M_set.2.1 85 = .ok (.goto 6, 3) := by decide +kernel
theorem d_M_set_88 : decode m_M_set.2.1 88 = .ok (.bipush (-2), 2) := by decide +kernel
theorem d_M_set_90 : decode m_M_set.2.1 90 = .ok (.istore_n 3, 1) := by decide +kernel
theorem d_M_set_91 : decode m_M_set.2.1 91 = .ok (.iload_n 3, 1) := by decide +kernel
theorem d_M_set_92 : decode m_M_set.2.1 92 = .ok (.ireturn, 1) := by decide +kernel
theorem d_M_letter_0 : decode m_M_letter.2.1 0 = .ok (.iload_n 1, 1) := by decide +kernel
theorem d_M_letter_1 : decode m_M_letter.2.1 1 = .ok (.iconst 0, 1) := by decide +kernel
theorem d_M_letter_2 : decode m_M_letter.2.1 2 = .ok (.iconst 5, 1) := by decide +kernel
theorem d_M_letter_3 : decode m_M_letter.2.1 3 = .ok (.invokestatic 52, 3) := by decide +kernel
theorem d_M_letter_6 : decode m_M_letter.2.1 6 = .ok (.ifCond .ne 5, 3) := by decide +kernel
theorem d_M_letter_9 : decode m_M_letter.2.1 9 = .ok (.iconst (-1), 1) := by decide +kernel
theorem d_M_letter_10 : decode m_M_letter.2.1 10 = .ok (.ireturn, 1) := by decide +kernel
theorem d_M_letter_11 : decode m_M_letter.2.1 11 = .ok (.iload_n 2, 1) := by decide +kernel
theorem d_M_letter_12 : decode m_M_letter.2.1 12 = .ok (.invokestatic 56, 3) := by decide +kernel
theorem d_M_letter_15 : decode m_M_letter.2.1 15 = .ok (.ifCond .eq 38, 3) := by decide +kernel
theorem d_M_letter_18 : decode m_M_letter.2.1 18 = .ok (.iload_n 3, 1) := by decide +kernel
theorem d_M_letter_19 : decode m_M_letter.2.1 19 = .ok (.iconst 0, 1) := by decide +kernel
theorem d_M_letter_20 : decode m_M_letter.2.1 20 = .ok (.sipush 255, 3) := by decide +kernel
theorem d_M_letter_23 : decode m_M_letter.2.1 23 = .ok (.invokestatic 52, 3) := by decide +kernel
theorem d_M_letter_26 : decode m_M_letter.2.1 26 = .ok (.ifCond .eq 27, 3) := by decide +kernel
theorem d_M_letter_29 : decode m_M_letter.2.1 29 = .ok (.iload 4, 2) := by decide +kernel
theorem d_M_letter_31 : decode m_M_letter.2.1 31 = .ok (.iconst 0, 1) := by decide +kernel
theorem d_M_letter_32 : decode m_M_letter.2.1 32 = .ok (.sipush 255, 3) := by decide +kernel
theorem d_M_letter_35 : decode m_M_letter.2.1 35 = .ok (.invokestatic 52, 3) := by decide +kernel
theorem d_M_letter_38 : decode m_M_letter.2.1 38 = .ok (.ifCond .eq 15, 3) := by decide +kernel
theorem d_M_letter_41 : decode m_M_letter.2.1 41 = .ok (.iload 5, 2) := by decide +kernel
theorem d_M_letter_43 : decode m_M_letter.2.1 43 = .ok (.iconst 0, 1) := by decide +kernel
theorem d_M_letter_44 : decode m_M_letter.2.1 44 = .ok (.sipush 4095, 3) := by decide +kernel
theorem d_M_letter_47 : decode m_M_letter.2.1 47 = .ok (.invokestatic 52, 3) := by decide +kernel
theorem d_M_letter_50 : decode m_M_letter.2.1 50 = .ok (.ifCond .ne 6, 3) := by decide +kernel
theorem d_M_letter_53 : decode m_M_letter.2.1 53 = .ok (.bipush (-2), 2) := by decide +kernel
theorem d_M_letter_55 : decode m_M_letter.2.1 55 = .ok (.ireturn, 1) := by decide +kernel
theorem d_M_letter_56 : decode m_M_letter.2.1 56 = .ok (.aload_n 0, 1) := by decide +kernel
theorem d_M_letter_57 : decode m_M_letter.2.1 57 = .ok (.getfield 23, 3) := by decide +kernel
theorem d_M_letter_60 : decode m_M_letter.2.1 60 = .ok (.iconst 4, 1) := by decide +kernel
theorem d_M_letter_61 : decode m_M_letter.2.1 61 = .ok (.iload_n 1, 1) := by decide +kernel
theorem d_M_letter_62 : decode m_M_letter.2.1 62 = .ok (.imul, 1) := by decide +kernel
theorem d_M_letter_63 : decode m_M_letter.2.1 63 = .ok (.iaload, 1) := by decide +kernel
theorem d_M_letter_64 : decode m_M_letter.2.1 64 = .ok (.istore 6, 2) := by decide +kernel
theorem d_M_letter_66 : decode m_M_letter.2.1 66 = .ok (.aload_n 0, 1) := by decide +kernel
theorem d_M_letter_67 : decode m_M_letter.2.1 67 = .ok (.getfield 23, 3) := by decide +kernel
theorem d_M_letter_70 : decode m_M_letter.2.1 70 = .ok (.iconst 4, 1) := by decide +kernel
theorem d_M_letter_71 : decode m_M_letter.2.1 71 = .ok (.iload_n 1, 1) := by decide +kernel
theorem d_M_letter_72 : decode m_M_letter.2.1 72 = .ok (.imul, 1) := by decide +kernel
theorem d_M_letter_73 : decode m_M_letter.2.1 73 = .ok (.iload_n 2, 1) := by decide +kernel
theorem d_M_letter_74 : decode m_M_letter.2.1 74 = .ok (.iastore, 1) := by decide +kernel
theorem d_M_letter_75 : decode m_M_letter.2.1 75 = .ok (.aload_n 0, 1) := by decide +kernel
theorem d_M_letter_76 : decode m_M_letter.2.1 76 = .ok (.getfield 23, 3) := by decide +kernel
theorem d_M_letter_79 : decode m_M_letter.2.1 79 = .ok (.iconst 4, 1) := by decide +kernel
theorem d_M_letter_80 : decode m_M_letter.2.1 80 = .ok (.iload_n 1, 1) := by decide +kernel
theorem d_M_letter_81 : decode m_M_letter.2.1 81 = .ok (.imul, 1) := by decide +kernel
theorem d_M_letter_82 : decode m_M_letter.2.1 82 = .ok (.iconst 1, 1) := by decide +kernel
theorem d_M_letter_83 : decode m_M_letter.2.1 83 = .ok (.iadd, 1) := by decide +kernel
theorem d_M_letter_84 : decode m_M_letter.2.1 84 = .ok (.iload_n 3, 1) := by decide +kernel
theorem d_M_letter_85 : decode m_M_letter.2.1 85 = .ok (.iastore, 1) := by decide +kernel
theorem d_M_letter_86 : decode m_M_letter.2.1 86 = .ok (.aload_n 0, 1) := by decide +kernel
theorem d_M_letter_87 : decode m_M_letter.2.1 87 = .ok (.getfield 23, 3) := by decide +kernel
theorem d_M_letter_90 : decode m_M_letter.2.1 90 = .ok (.iconst 4, 1) := by decide +kernel
theorem d_M_letter_91 : decode m_M_letter.2.1 91 = .ok (.iload_n 1, 1) := by decide +kernel
theorem d_M_letter_92 : decode m_M_letter.2.1 92 = .ok (.imul, 1) := by decide +kernel
theorem d_M_letter_93 : decode m_M_letter.2.1 93 = .ok (.iconst 2, 1) := by decide +kernel
theorem d_M_letter_94 : decode m_M_letter.2.1 94 = .ok (.iadd, 1) := by decide +kernel
theorem d_M_letter_95 : decode m_M_letter.2.1 95 = .ok (.iload 4, 2) := by decide +kernel
theorem d_M_letter_97 : decode m_M_letter.2.1 97 = .ok (.iastore, 1) := by decide +kernel
theorem d_M_letter_98 : decode m_M_letter.2.1 98 = .ok (.aload_n 0, 1) := by decide +kernel
theorem d_M_letter_99 : decode m_M_letter.2.1 99 = .ok (.getfield 23, 3) := by decide +kernel
theorem d_M_letter_102 : decode m_M_letter.2.1 102 = .ok (.iconst 4, 1) := by decide +kernel
theorem d_M_letter_103 : decode m_M_letter.2.1 103 = .ok (.iload_n 1, 1) := by decide +kernel
theorem d_M_letter_104 : decode m_M_letter.2.1 104 = .ok (.imul, 1) := by decide +kernel
theorem d_M_letter_105 : decode m_M_letter.2.1 105 = .ok (.iconst 3, 1) := by decide +kernel
theorem d_M_letter_106 : decode m_M_letter.2.1 106 = .ok (.iadd, 1) := by decide +kernel
theorem d_M_letter_107 : decode m_M_letter.2.1 107 = .ok (.iload 5, 2) := by decide +kernel
theorem d_M_letter_109 : decode m_M_letter.2.1 109 = .ok (.iastore, 1) := by decide +kernel
theorem d_M_letter_110 : decode m_M_letter.2.1 110 = .ok (.aload_n 0, 1) := by decide +kernel
theorem d_M_letter_111 : decode m_M_letter.2.1 111 = .ok (.getfield 7, 3) := by decide +kernel
theorem d_M_letter_114 : decode m_M_letter.2.1 114 = .ok (.bipush 15, 2) := by decide +kernel
theorem d_M_letter_116 : decode m_M_letter.2.1 116 = .ok (.dup2, 1) := by decide +kernel
theorem d_M_letter_117 : decode m_M_letter.2.1 117 = .ok (.iaload, 1) := by decide +kernel
theorem d_M_letter_118 : decode m_M_letter.2.1 118 = .ok (.iconst 1, 1) := by decide +kernel
theorem d_M_letter_119 : decode m_M_letter.2.1 119 = .ok (.iload_n 1, 1) := by decide +kernel
theorem d_M_letter_120 : decode m_M_letter.2.1 120 = .ok (.ishl, 1) := by decide +kernel
theorem d_M_letter_121 : decode m_M_letter.2.1 121 = .ok (.iconst (-1), 1) := by decide +kernel
theorem d_M_letter_122 : decode m_M_letter.2.1 122 = .ok (.ixor, 1) := by decide +kernel
theorem d_M_letter_123 : decode m_M_letter.2.1 123 = .ok (.iand, 1) := by decide +kernel
theorem d_M_letter_124 : decode m_M_letter.2.1 124 = .ok (.iastore, 1) := by decide +kernel
theorem d_M_letter_125 : decode m_M_letter.2.1 125 = .ok (.iload 6, 2) := by decide +kernel
theorem d_M_letter_127 : decode m_M_letter.2.1 127 = .ok (.ireturn, 1) := by decide +kernel
theorem d_M_say_0 : decode m_M_say.2.1 0 = .ok (.iload_n 1, 1) := by decide +kernel
theorem d_M_say_1 : decode m_M_say.2.1 1 = .ok (.bipush 33, 2) := by decide +kernel
theorem d_M_say_3 : decode m_M_say.2.1 3 = .ok (.bipush 126, 2) := by decide +kernel
theorem d_M_say_5 : decode m_M_say.2.1 5 = .ok (.invokestatic 52, 3) := by decide +kernel
theorem d_M_say_8 : decode m_M_say.2.1 8 = .ok (.ifCond .ne 6, 3) := by decide +kernel
theorem d_M_say_11 : decode m_M_say.2.1 11 = .ok (.bipush (-2), 2) := by decide +kernel
theorem d_M_say_13 : decode m_M_say.2.1 13 = .ok (.ireturn, 1) := by decide +kernel
theorem d_M_say_14 : decode m_M_say.2.1 14 = .ok (.aload_n 0, 1) := by decide +kernel
theorem d_M_say_15 : decode m_M_say.2.1 15 = .ok (.getfield 63, 3) := by decide +kernel
theorem d_M_say_18 : decode m_M_say.2.1 18 = .ok (.bipush 60, 2) := by decide +kernel
theorem d_M_say_20 : decode m_M_say.2.1 20 = .ok (.if_icmp .ne 6, 3) := by decide +kernel
theorem d_M_say_23 : decode m_M_say.2.1 23 = .ok (.bipush (-4), 2) := by decide +kernel
theorem d_M_say_25 : decode m_M_say.2.1 25 = .ok (.ireturn, 1) := by decide +kernel
theorem d_M_say_26 : decode m_M_say.2.1 26 = .ok (.aload_n 0, 1) := by decide +kernel
theorem d_M_say_27 : decode m_M_say.2.1 27 = .ok (.getfield 29, 3) := by decide +kernel
theorem d_M_say_30 : decode m_M_say.2.1 30 = .ok (.aload_n 0, 1) := by decide +kernel
theorem d_M_say_31 : decode m_M_say.2.1 31 = .ok (.getfield 63, 3) := by decide +kernel
theorem d_M_say_34 : decode m_M_say.2.1 34 = .ok (.iload_n 1, 1) := by decide +kernel
theorem d_M_say_35 : decode m_M_say.2.1 35 = .ok (.iastore, 1) := by decide +kernel
theorem d_M_say_36 : decode m_M_say.2.1 36 = .ok (.aload_n 0, 1) := by decide +kernel
theorem d_M_say_37 : decode m_M_say.2.1 37 = .ok (.dup, 1) := by decide +kernel
theorem d_M_say_38 : decode m_M_say.2.1 38 = .ok (.getfield 63, 3) := by decide +kernel
theorem d_M_say_41 : decode m_M_say.2.1 41 = .ok (.iconst 1, 1) := by decide +kernel
theorem d_M_say_42 : decode m_M_say.2.1 42 = .ok (.iadd, 1) := by decide +kernel
theorem d_M_say_43 : decode m_M_say.2.1 43 = .ok (.putfield 63, 3) := by decide +kernel
theorem d_M_say_46 : decode m_M_say.2.1 46 = .ok (.aload_n 0, 1) := by decide +kernel
theorem d_M_say_47 : decode m_M_say.2.1 47 = .ok (.getfield 63, 3) := by decide +kernel
theorem d_M_say_50 : decode m_M_say.2.1 50 = .ok (.ireturn, 1) := by decide +kernel
theorem d_M_wipe_0 : decode m_M_wipe.2.1 0 = .ok (.aload_n 0, 1) := by decide +kernel
theorem d_M_wipe_1 : decode m_M_wipe.2.1 1 = .ok (.getfield 63, 3) := by decide +kernel
theorem d_M_wipe_4 : decode m_M_wipe.2.1 4 = .ok (.istore_n 1, 1) := by decide +kernel
theorem d_M_wipe_5 : decode m_M_wipe.2.1 5 = .ok (.aload_n 0, 1) := by decide +kernel
theorem d_M_wipe_6 : decode m_M_wipe.2.1 6 = .ok (.iconst 0, 1) := by decide +kernel
theorem d_M_wipe_7 : decode m_M_wipe.2.1 7 = .ok (.putfield 63, 3) := by decide +kernel
theorem d_M_wipe_10 : decode m_M_wipe.2.1 10 = .ok (.iload_n 1, 1) := by decide +kernel
theorem d_M_wipe_11 : decode m_M_wipe.2.1 11 = .ok (.ireturn, 1) := by decide +kernel
theorem d_M_isLetter_0 : decode m_M_isLetter.2.1 0 = .ok (.iload_n 0, 1) := by decide +kernel
theorem d_M_isLetter_1 : decode m_M_isLetter.2.1 1 = .ok (.bipush 97, 2) := by decide +kernel
theorem d_M_isLetter_3 : decode m_M_isLetter.2.1 3 = .ok (.bipush 108, 2) := by decide +kernel
theorem d_M_isLetter_5 : decode m_M_isLetter.2.1 5 = .ok (.invokestatic 52, 3) := by decide +kernel
theorem d_M_isLetter_8 : decode m_M_isLetter.2.1 8 = .ok (.ireturn, 1) := by decide +kernel
theorem d_M_faultOf_0 : decode m_M_faultOf.2.1 0 = .ok (.iconst 0, 1) := by decide +kernel
theorem d_M_faultOf_1 : decode m_M_faultOf.2.1 1 = .ok (.istore_n 1, 1) := by decide +kernel
theorem d_M_faultOf_2 : decode m_M_faultOf.2.1 2 = .ok (.iconst 0, 1) := by decide +kernel
theorem d_M_faultOf_3 : decode m_M_faultOf.2.1 3 = .ok (.istore_n 2, 1) := by decide +kernel
theorem d_M_faultOf_4 : decode m_M_faultOf.2.1 4 = .ok (.iload_n 2, 1) := by decide +kernel
theorem d_M_faultOf_5 : decode m_M_faultOf.2.1 5 = .ok (.aload_n 0, 1) := by decide +kernel
theorem d_M_faultOf_6 : decode m_M_faultOf.2.1 6 = .ok (.getfield 63, 3) := by decide +kernel
theorem d_M_faultOf_9 : decode m_M_faultOf.2.1 9 = .ok (.if_icmp .ge 64, 3) := by decide +kernel
theorem d_M_faultOf_12 : decode m_M_faultOf.2.1 12 = .ok (.aload_n 0, 1) := by decide +kernel
theorem d_M_faultOf_13 : decode m_M_faultOf.2.1 13 = .ok (.getfield 29, 3) := by decide +kernel
theorem d_M_faultOf_16 : decode m_M_faultOf.2.1 16 = .ok (.iload_n 2, 1) := by decide +kernel
theorem d_M_faultOf_17 : decode m_M_faultOf.2.1 17 = .ok (.iaload, 1) := by decide +kernel
theorem d_M_faultOf_18 : decode m_M_faultOf.2.1 18 = .ok (.istore_n 3, 1) := by decide +kernel
theorem d_M_faultOf_19 : decode m_M_faultOf.2.1 19 = .ok (.iload_n 3, 1) := by decide +kernel
theorem d_M_faultOf_20 : decode m_M_faultOf.2.1 20 = .ok (.invokestatic 66, 3) := by decide +kernel
theorem d_M_faultOf_23 : decode m_M_faultOf.2.1 23 = .ok (.ifCond .ne 32, 3) := by decide +kernel
theorem d_M_faultOf_26 : decode m_M_faultOf.2.1 26 = .ok (.iload_n 1, 1) := by decide +kernel
theorem d_M_faultOf_27 : decode m_M_faultOf.2.1 27 = .ok (.ifCond .ne 26, 3) := by decide +kernel
theorem d_M_faultOf_30 : decode m_M_faultOf.2.1 30 = .ok (.iload_n 3, 1) := by decide +kernel
theorem d_M_faultOf_31 : decode m_M_faultOf.2.1 31 = .ok (.bipush 46, 2) := by decide +kernel
theorem d_M_faultOf_33 : decode m_M_faultOf.2.1 33 = .ok (.if_icmp .eq 22, 3) := by decide +kernel
theorem d_M_faultOf_36 : decode m_M_faultOf.2.1 36 = .ok (.iload_n 3, 1) := by decide +kernel
theorem d_M_faultOf_37 : decode m_M_faultOf.2.1 37 = .ok (.bipush 33, 2) := by decide +kernel
theorem d_M_faultOf_39 : decode m_M_faultOf.2.1 39 = .ok (.if_icmp .eq 16, 3) := by decide +kernel
theorem d_M_faultOf_42 : decode m_M_faultOf.2.1 42 = .ok (.iload_n 3, 1) := by decide +kernel
theorem d_M_faultOf_43 : decode m_M_faultOf.2.1 43 = .ok (.bipush 48, 2) := by decide +kernel
theorem d_M_faultOf_45 : decode m_M_faultOf.2.1 45 = .ok (.bipush 53, 2) := by decide +kernel
theorem d_M_faultOf_47 : decode m_M_faultOf.2.1 47 = .ok (.invokestatic 52, 3) := by decide +kernel
theorem d_M_faultOf_50 : decode m_M_faultOf.2.1 50 = .ok (.ifCond .ne 5, 3) := by decide +kernel
theorem d_M_faultOf_53 : decode m_M_faultOf.2.1 53 = .ok (.iload_n 2, 1) := by decide +kernel
theorem d_M_faultOf_54 : decode m_M_faultOf.2.1 54 = .ok (.ireturn, 1) := by decide +kernel
theorem d_M_faultOf_55 : decode m_M_faultOf.2.1 55 = .ok (.iload_n 3, 1) := by decide +kernel
theorem d_M_faultOf_56 : decode m_M_faultOf.2.1 56 = .ok (.bipush 33, 2) := by decide +kernel
theorem d_M_faultOf_58 : decode m_M_faultOf.2.1 58 = .ok (.if_icmp .ne 7, 3) := by decide +kernel
theorem d_M_faultOf_61 : decode m_M_faultOf.2.1 61 = .ok (.iconst 1, 1) := by decide +kernel
theorem d_M_faultOf_62 : decode m_M_faultOf.2.1 62 = .ok (.goto 4, 3) := by decide +kernel
theorem d_M_faultOf_65 : decode m_M_faultOf.2.1 65 = .ok (.iconst 0, 1) := by decide +kernel
theorem d_M_faultOf_66 : decode m_M_faultOf.2.1 66 = .ok (.istore_n 1, 1) := by decide +kernel
theorem d_M_faultOf_67 : decode m_M_faultOf.2.1 67 = .ok (.iinc 2 1, 3) := by decide +kernel
theorem d_M_faultOf_70 : decode m_M_faultOf.2.1 70 = .ok (.goto (-66), 3) := by decide +kernel
theorem d_M_faultOf_73 : decode m_M_faultOf.2.1 73 = .ok (.iload_n 1, 1) := by decide +kernel
theorem d_M_faultOf_74 : decode m_M_faultOf.2.1 74 = .ok (.ifCond .eq 10, 3) := by decide +kernel
theorem d_M_faultOf_77 : decode m_M_faultOf.2.1 77 = .ok (.aload_n 0, 1) := by decide +kernel
theorem d_M_faultOf_78 : decode m_M_faultOf.2.1 78 = .ok (.getfield 63, 3) := by decide +kernel
theorem d_M_faultOf_81 : decode m_M_faultOf.2.1 81 = .ok (.goto 5, 3) := by decide +kernel
theorem d_M_faultOf_84 : decode m_M_faultOf.2.1 84 = .ok (.bipush (-6), 2) := by decide +kernel
theorem d_M_faultOf_86 : decode m_M_faultOf.2.1 86 = .ok (.ireturn, 1) := by decide +kernel
theorem d_M_fault_0 : decode m_M_fault.2.1 0 = .ok (.aload_n 0, 1) := by decide +kernel
theorem d_M_fault_1 : decode m_M_fault.2.1 1 = .ok (.invokevirtual 69, 3) := by decide +kernel
theorem d_M_fault_4 : decode m_M_fault.2.1 4 = .ok (.ireturn, 1) := by decide +kernel
theorem d_M_loudAt_0 : decode m_M_loudAt.2.1 0 = .ok (.aload_n 0, 1) := by decide +kernel
theorem d_M_loudAt_1 : decode m_M_loudAt.2.1 1 = .ok (.getfield 19, 3) := by decide +kernel
theorem d_M_loudAt_4 : decode m_M_loudAt.2.1 4 = .ok (.istore_n 3, 1) := by decide +kernel
theorem d_M_loudAt_5 : decode m_M_loudAt.2.1 5 = .ok (.iload_n 1, 1) := by decide +kernel
theorem d_M_loudAt_6 : decode m_M_loudAt.2.1 6 = .ok (.istore 4, 2) := by decide +kernel
theorem d_M_loudAt_8 : decode m_M_loudAt.2.1 8 = .ok (.iload 4, 2) := by decide +kernel
theorem d_M_loudAt_10 : decode m_M_loudAt.2.1 10 = .ok (.iload_n 2, 1) := by decide +kernel
theorem d_M_loudAt_11 : decode m_M_loudAt.2.1 11 = .ok (.if_icmp .ge 50, 3) := by decide +kernel
theorem d_M_loudAt_14 : decode m_M_loudAt.2.1 14 = .ok (.iload_n 3, 1) := by decide +kernel
theorem d_M_loudAt_15 : decode m_M_loudAt.2.1 15 = .ok (.iconst 1, 1) := by decide +kernel
theorem d_M_loudAt_16 : decode m_M_loudAt.2.1 16 = .ok (.isub, 1) := by decide +kernel
theorem d_M_loudAt_17 : decode m_M_loudAt.2.1 17 = .ok (.aload_n 0, 1) := by decide +kernel
theorem d_M_loudAt_18 : decode m_M_loudAt.2.1 18 = .ok (.getfield 16, 3) := by decide +kernel
theorem d_M_loudAt_21 : decode m_M_loudAt.2.1 21 = .ok (.iload 4, 2) := by decide +kernel
theorem d_M_loudAt_23 : decode m_M_loudAt.2.1 23 = .ok (.iaload, 1) := by decide +kernel
theorem d_M_loudAt_24 : decode m_M_loudAt.2.1 24 = .ok (.isub, 1) := by decide +kernel
theorem d_M_loudAt_25 : decode m_M_loudAt.2.1 25 = .ok (.aload_n 0, 1) := by decide +kernel
theorem d_M_loudAt_26 : decode m_M_loudAt.2.1 26 = .ok (.getfield 60, 3) := by decide +kernel
theorem d_M_loudAt_29 : decode m_M_loudAt.2.1 29 = .ok (.iadd, 1) := by decide +kernel
theorem d_M_loudAt_30 : decode m_M_loudAt.2.1 30 = .ok (.istore 5, 2) := by decide +kernel
theorem d_M_loudAt_32 : decode m_M_loudAt.2.1 32 = .ok (.iload 5, 2) := by decide +kernel
theorem d_M_loudAt_34 : decode m_M_loudAt.2.1 34 = .ok (.iload_n 3, 1) := by decide +kernel
theorem d_M_loudAt_35 : decode m_M_loudAt.2.1 35 = .ok (.if_icmp .ge 8, 3) := by decide +kernel
theorem d_M_loudAt_38 : decode m_M_loudAt.2.1 38 = .ok (.iload 5, 2) := by decide +kernel
theorem d_M_loudAt_40 : decode m_M_loudAt.2.1 40 = .ok (.goto 4, 3) := by decide +kernel
theorem d_M_loudAt_43 : decode m_M_loudAt.2.1 43 = .ok (.iload_n 3, 1) := by decide +kernel
theorem d_M_loudAt_44 : decode m_M_loudAt.2.1 44 = .ok (.istore_n 3, 1) := by decide +kernel
theorem d_M_loudAt_45 : decode m_M_loudAt.2.1 45 = .ok (.iload_n 3, 1) := by decide +kernel
theorem d_M_loudAt_46 : decode m_M_loudAt.2.1 46 = .ok (.ifCond .ge 7, 3) := by decide +kernel
theorem d_M_loudAt_49 : decode m_M_loudAt.2.1 49 = .ok (.iconst 0, 1) := by decide +kernel
theorem d_M_loudAt_50 : decode m_M_loudAt.2.1 50 = .ok (.goto 4, 3) := by decide +kernel
theorem d_M_loudAt_53 : decode m_M_loudAt.2.1 53 = .ok (.iload_n 3, 1) := by decide +kernel
theorem d_M_loudAt_54 : decode m_M_loudAt.2.1 54 = .ok (.istore_n 3, 1) := by decide +kernel
theorem d_M_loudAt_55 : decode m_M_loudAt.2.1 55 = .ok (.iinc 4 1, 3) := by decide +kernel
theorem d_M_loudAt_58 : decode m_M_loudAt.2.1 58 = .ok (.goto (-50), 3) := by decide +kernel
theorem d_M_loudAt_61 : decode m_M_loudAt.2.1 61 = .ok (.iload_n 1, 1) := by decide +kernel
theorem d_M_loudAt_62 : decode m_M_loudAt.2.1 62 = .ok (.istore 4, 2) := by decide +kernel
theorem d_M_loudAt_64 : decode m_M_loudAt.2.1 64 = .ok (.iload 4, 2) := by decide +kernel
theorem d_M_loudAt_66 : decode m_M_loudAt.2.1 66 = .ok (.iload_n 2, 1) := by decide +kernel
theorem d_M_loudAt_67 : decode m_M_loudAt.2.1 67 = .ok (.if_icmp .le 52, 3) := by decide +kernel
theorem d_M_loudAt_70 : decode m_M_loudAt.2.1 70 = .ok (.iload_n 3, 1) := by decide +kernel
theorem d_M_loudAt_71 : decode m_M_loudAt.2.1 71 = .ok (.iconst 1, 1) := by decide +kernel
theorem d_M_loudAt_72 : decode m_M_loudAt.2.1 72 = .ok (.isub, 1) := by decide +kernel
theorem d_M_loudAt_73 : decode m_M_loudAt.2.1 73 = .ok (.aload_n 0, 1) := by decide +kernel
theorem d_M_loudAt_74 : decode m_M_loudAt.2.1 74 = .ok (.getfield 16, 3) := by decide +kernel
theorem d_M_loudAt_77 : decode m_M_loudAt.2.1 77 = .ok (.iload 4, 2) := by decide +kernel
theorem d_M_loudAt_79 : decode m_M_loudAt.2.1 79 = .ok (.iconst 1, 1) := by decide +kernel
theorem d_M_loudAt_80 : decode m_M_loudAt.2.1 80 = .ok (.isub, 1) := by decide +kernel
theorem d_M_loudAt_81 : decode m_M_loudAt.2.1 81 = .ok (.iaload, 1) := by decide +kernel
theorem d_M_loudAt_82 : decode m_M_loudAt.2.1 82 = .ok (.isub, 1) := by decide +kernel
theorem d_M_loudAt_83 : decode m_M_loudAt.2.1 83 = .ok (.aload_n 0, 1) := by decide +kernel
theorem d_M_loudAt_84 : decode m_M_loudAt.2.1 84 = .ok (.getfield 60, 3) := by decide +kernel
theorem d_M_loudAt_87 : decode m_M_loudAt.2.1 87 = .ok (.isub, 1) := by decide +kernel
theorem d_M_loudAt_88 : decode m_M_loudAt.2.1 88 = .ok (.istore 5, 2) := by decide +kernel
theorem d_M_loudAt_90 : decode m_M_loudAt.2.1 90 = .ok (.iload 5, 2) := by decide +kernel
theorem d_M_loudAt_92 : decode m_M_loudAt.2.1 92 = .ok (.iload_n 3, 1) := by decide +kernel
theorem d_M_loudAt_93 : decode m_M_loudAt.2.1 93 = .ok (.if_icmp .ge 8, 3) := by decide +kernel
theorem d_M_loudAt_96 : decode m_M_loudAt.2.1 96 = .ok (.iload 5, 2) := by decide +kernel
theorem d_M_loudAt_98 : decode m_M_loudAt.2.1 98 = .ok (.goto 4, 3) := by decide +kernel
theorem d_M_loudAt_101 : decode m_M_loudAt.2.1 101 = .ok (.iload_n 3, 1) := by decide +kernel
theorem d_M_loudAt_102 : decode m_M_loudAt.2.1 102 = .ok (.istore_n 3, 1) := by decide +kernel
theorem d_M_loudAt_103 : decode m_M_loudAt.2.1 103 = .ok (.iload_n 3, 1) := by decide +kernel
theorem d_M_loudAt_104 : decode m_M_loudAt.2.1 104 = .ok (.ifCond .ge 7, 3) := by decide +kernel
theorem d_M_loudAt_107 : decode m_M_loudAt.2.1 107 = .ok (.iconst 0, 1) := by decide +kernel
theorem d_M_loudAt_108 : decode m_M_loudAt.2.1 108 = .ok (.goto 4, 3) := by decide +kernel
theorem d_M_loudAt_111 : decode m_M_loudAt.2.1 111 = .ok (.iload_n 3, 1) := by decide +kernel
theorem d_M_loudAt_112 : decode m_M_loudAt.2.1 112 = .ok (.istore_n 3, 1) := by decide +kernel
theorem d_M_loudAt_113 : decode m_M_loudAt.2.1 113 = .ok (.iinc 4 (-1), 3) := by decide +kernel
theorem d_M_loudAt_116 : decode m_M_loudAt.2.1 116 = .ok (.goto (-52), 3) := by decide +kernel
theorem d_M_loudAt_119 : decode m_M_loudAt.2.1 119 = .ok (.iload_n 3, 1) := by decide +kernel
theorem d_M_loudAt_120 : decode m_M_loudAt.2.1 120 = .ok (.ireturn, 1) := by decide +kernel
theorem d_M_doesHear_0 : decode m_M_doesHear.2.1 0 = .ok (.aload_n 0, 1) := by decide +kernel
theorem d_M_doesHear_1 : decode m_M_doesHear.2.1 1 = .ok (.iload_n 1, 1) := by decide +kernel
theorem d_M_doesHear_2 : decode m_M_doesHear.2.1 2 = .ok (.iload_n 2, 1) := by decide +kernel
theorem d_M_doesHear_3 : decode m_M_doesHear.2.1 3 = .ok (.invokevirtual 73, 3) := by decide +kernel
theorem d_M_doesHear_6 : decode m_M_doesHear.2.1 6 = .ok (.istore 4, 2) := by decide +kernel
theorem d_M_doesHear_8 : decode m_M_doesHear.2.1 8 = .ok (.aload_n 0, 1) := by decide +kernel
theorem d_M_doesHear_9 : decode m_M_doesHear.2.1 9 = .ok (.getfield 49, 3) := by decide +kernel
theorem d_M_doesHear_12 : decode m_M_doesHear.2.1 12 = .ok (.iload_n 2, 1) := by decide +kernel
theorem d_M_doesHear_13 : decode m_M_doesHear.2.1 13 = .ok (.invokestatic 77, 3) := by decide +kernel
theorem d_M_doesHear_16 : decode m_M_doesHear.2.1 16 = .ok (.ifCond .ne 31, 3) := by decide +kernel
theorem d_M_doesHear_19 : decode m_M_doesHear.2.1 19 = .ok (.iload_n 2, 1) := by decide +kernel
theorem d_M_doesHear_20 : decode m_M_doesHear.2.1 20 = .ok (.iload_n 1, 1) := by decide +kernel
theorem d_M_doesHear_21 : decode m_M_doesHear.2.1 21 = .ok (.if_icmp .eq 22, 3) := by decide +kernel
theorem d_M_doesHear_24 : decode m_M_doesHear.2.1 24 = .ok (.iload 4, 2) := by decide +kernel
theorem d_M_doesHear_26 : decode m_M_doesHear.2.1 26 = .ok (.iconst 2, 1) := by decide +kernel
theorem d_M_doesHear_27 : decode m_M_doesHear.2.1 27 = .ok (.if_icmp .gt 16, 3) := by decide +kernel
theorem d_M_doesHear_30 : decode m_M_doesHear.2.1 30 = .ok (.iload 4, 2) := by decide +kernel
theorem d_M_doesHear_32 : decode m_M_doesHear.2.1 32 = .ok (.ifCond .le 15, 3) := by decide +kernel
theorem d_M_doesHear_35 : decode m_M_doesHear.2.1 35 = .ok (.iload_n 3, 1) := by decide +kernel
theorem d_M_doesHear_36 : decode m_M_doesHear.2.1 36 = .ok (.iload_n 2, 1) := by decide +kernel
theorem d_M_doesHear_37 : decode m_M_doesHear.2.1 37 = .ok (.invokestatic 77, 3) := by decide +kernel
theorem d_M_doesHear_40 : decode m_M_doesHear.2.1 40 = .ok (.ifCond .eq 7, 3) := by decide +kernel
theorem d_M_doesHear_43 : decode m_M_doesHear.2.1 43 = .ok (.iconst 1, 1) := by decide +kernel
theorem d_M_doesHear_44 : decode m_M_doesHear.2.1 44 = .ok (.goto 4, 3) := by decide +kernel
theorem d_M_doesHear_47 : decode m_M_doesHear.2.1 47 = .ok (.iconst 0, 1) := by decide +kernel
theorem d_M_doesHear_48 : decode m_M_doesHear.2.1 48 = .ok (.ireturn, 1) := by decide +kernel
theorem d_M_hearers_0 : decode m_M_hearers.2.1 0 = .ok (.iconst 0, 1) := by decide +kernel
theorem d_M_hearers_1 : decode m_M_hearers.2.1 1 = .ok (.istore_n 3, 1) := by decide +kernel
theorem d_M_hearers_2 : decode m_M_hearers.2.1 2 = .ok (.iconst 0, 1) := by decide +kernel
theorem d_M_hearers_3 : decode m_M_hearers.2.1 3 = .ok (.istore 4, 2) := by decide +kernel
theorem d_M_hearers_5 : decode m_M_hearers.2.1 5 = .ok (.iload 4, 2) := by decide +kernel
theorem d_M_hearers_7 : decode m_M_hearers.2.1 7 = .ok (.bipush 12, 2) := by decide +kernel
theorem d_M_hearers_9 : decode m_M_hearers.2.1 9 = .ok (.if_icmp .ge 31, 3) := by decide +kernel
theorem d_M_hearers_12 : decode m_M_hearers.2.1 12 = .ok (.iload_n 3, 1) := by decide +kernel
theorem d_M_hearers_13 : decode m_M_hearers.2.1 13 = .ok (.aload_n 0, 1) := by decide +kernel
theorem d_M_hearers_14 : decode m_M_hearers.2.1 14 = .ok (.iload_n 1, 1) := by decide +kernel
theorem d_M_hearers_15 : decode m_M_hearers.2.1 15 = .ok (.iload 4, 2) := by decide +kernel
theorem d_M_hearers_17 : decode m_M_hearers.2.1 17 = .ok (.iload_n 2, 1) := by decide +kernel
theorem d_M_hearers_18 : decode m_M_hearers.2.1 18 = .ok (.invokevirtual 81, 3) := by decide +kernel
theorem d_M_hearers_21 : decode m_M_hearers.2.1 21 = .ok (.ifCond .eq 10, 3) := by decide +kernel
theorem d_M_hearers_24 : decode m_M_hearers.2.1 24 = .ok (.iconst 1, 1) := by decide +kernel
theorem d_M_hearers_25 : decode m_M_hearers.2.1 25 = .ok (.iload 4, 2) := by decide +kernel
theorem d_M_hearers_27 : decode m_M_hearers.2.1 27 = .ok (.ishl, 1) := by decide +kernel
theorem d_M_hearers_28 : decode m_M_hearers.2.1 28 = .ok (.goto 4, 3) := by decide +kernel
theorem d_M_hearers_31 : decode m_M_hearers.2.1 31 = .ok (.iconst 0, 1) := by decide +kernel
theorem d_M_hearers_32 : decode m_M_hearers.2.1 32 = .ok (.ior, 1) := by decide +kernel
theorem d_M_hearers_33 : decode m_M_hearers.2.1 33 = .ok (.istore_n 3, 1) := by decide +kernel
theorem d_M_hearers_34 : decode m_M_hearers.2.1 34 = .ok (.iinc 4 1, 3) := by decide +kernel
theorem d_M_hearers_37 : decode m_M_hearers.2.1 37 = .ok (.goto (-32), 3) := by decide +kernel
theorem d_M_hearers_40 : decode m_M_hearers.2.1 40 = .ok (.iload_n 3, 1) := by decide +kernel
theorem d_M_hearers_41 : decode m_M_hearers.2.1 41 = .ok (.ireturn, 1) := by decide +kernel
theorem d_M_asNow_0 : decode m_M_asNow.2.1 0 = .ok (.iconst 0, 1) := by decide +kernel
theorem d_M_asNow_1 : decode m_M_asNow.2.1 1 = .ok (.istore_n 1, 1) := by decide +kernel
theorem d_M_asNow_2 : decode m_M_asNow.2.1 2 = .ok (.iload_n 1, 1) := by decide +kernel
theorem d_M_asNow_3 : decode m_M_asNow.2.1 3 = .ok (.bipush 16, 2) := by decide +kernel
theorem d_M_asNow_5 : decode m_M_asNow.2.1 5 = .ok (.if_icmp .ge 21, 3) := by decide +kernel
theorem d_M_asNow_8 : decode m_M_asNow.2.1 8 = .ok (.aload_n 0, 1) := by decide +kernel
theorem d_M_asNow_9 : decode m_M_asNow.2.1 9 = .ok (.getfield 13, 3) := by decide +kernel
theorem d_M_asNow_12 : decode m_M_asNow.2.1 12 = .ok (.iload_n 1, 1) := by decide +kernel
theorem d_M_asNow_13 : decode m_M_asNow.2.1 13 = .ok (.aload_n 0, 1) := by decide +kernel
theorem d_M_asNow_14 : decode m_M_asNow.2.1 14 = .ok (.getfield 7, 3) := by decide +kernel
theorem d_M_asNow_17 : decode m_M_asNow.2.1 17 = .ok (.iload_n 1, 1) := by decide +kernel
theorem d_M_asNow_18 : decode m_M_asNow.2.1 18 = .ok (.iaload, 1) := by decide +kernel
theorem d_M_asNow_19 : decode m_M_asNow.2.1 19 = .ok (.iastore, 1) := by decide +kernel
theorem d_M_asNow_20 : decode m_M_asNow.2.1 20 = .ok (.iinc 1 1, 3) := by decide +kernel
theorem d_M_asNow_23 : decode m_M_asNow.2.1 23 = .ok (.goto (-21), 3) := by decide +kernel
theorem d_M_asNow_26 : decode m_M_asNow.2.1 26 = .ok (.return_, 1) := by decide +kernel
theorem d_M_goTo_0 : decode m_M_goTo.2.1 0 = .ok (.aload_n 0, 1) := by decide +kernel
theorem d_M_goTo_1 : decode m_M_goTo.2.1 1 = .ok (.getfield 13, 3) := by decide +kernel
theorem d_M_goTo_4 : decode m_M_goTo.2.1 4 = .ok (.bipush 12, 2) := by decide +kernel
theorem d_M_goTo_6 : decode m_M_goTo.2.1 6 = .ok (.iaload, 1) := by decide +kernel
theorem d_M_goTo_7 : decode m_M_goTo.2.1 7 = .ok (.iload_n 1, 1) := by decide +kernel
theorem d_M_goTo_8 : decode m_M_goTo.2.1 8 = .ok (.if_icmp .ne 5, 3) := by decide +kernel
theorem d_M_goTo_11 : decode m_M_goTo.2.1 11 = .ok (.iconst 1, 1) := by decide +kernel
theorem d_M_goTo_12 : decode m_M_goTo.2.1 12 = .ok (.ireturn, 1) := by decide +kernel
theorem d_M_goTo_13 : decode m_M_goTo.2.1 13 = .ok (.aload_n 0, 1) := by decide +kernel
theorem d_M_goTo_14 : decode m_M_goTo.2.1 14 = .ok (.getfield 13, 3) := by decide +kernel
theorem d_M_goTo_17 : decode m_M_goTo.2.1 17 = .ok (.bipush 12, 2) := by decide +kernel
theorem d_M_goTo_19 : decode m_M_goTo.2.1 19 = .ok (.iload_n 1, 1) := by decide +kernel
theorem d_M_goTo_20 : decode m_M_goTo.2.1 20 = .ok (.iastore, 1) := by decide +kernel
theorem d_M_goTo_21 : decode m_M_goTo.2.1 21 = .ok (.iconst 0, 1) := by decide +kernel
theorem d_M_goTo_22 : decode m_M_goTo.2.1 22 = .ok (.ireturn, 1) := by decide +kernel
theorem d_M_read_0 : decode m_M_read.2.1 0 = .ok (.aload_n 0, 1) := by decide +kernel
theorem d_M_read_1 : decode m_M_read.2.1 1 = .ok (.getfield 13, 3) := by decide +kernel
theorem d_M_read_4 : decode m_M_read.2.1 4 = .ok (.bipush 15, 2) := by decide +kernel
theorem d_M_read_6 : decode m_M_read.2.1 6 = .ok (.iaload, 1) := by decide +kernel
theorem d_M_read_7 : decode m_M_read.2.1 7 = .ok (.iload_n 1, 1) := by decide +kernel
theorem d_M_read_8 : decode m_M_read.2.1 8 = .ok (.invokestatic 77, 3) := by decide +kernel
theorem d_M_read_11 : decode m_M_read.2.1 11 = .ok (.ifCond .eq 5, 3) := by decide +kernel
theorem d_M_read_14 : decode m_M_read.2.1 14 = .ok (.iconst 2, 1) := by decide +kernel
theorem d_M_read_15 : decode m_M_read.2.1 15 = .ok (.ireturn, 1) := by decide +kernel
theorem d_M_read_16 : decode m_M_read.2.1 16 = .ok (.iconst 0, 1) := by decide +kernel
theorem d_M_read_17 : decode m_M_read.2.1 17 = .ok (.istore_n 2, 1) := by decide +kernel
theorem d_M_read_18 : decode m_M_read.2.1 18 = .ok (.iload_n 2, 1) := by decide +kernel
theorem d_M_read_19 : decode m_M_read.2.1 19 = .ok (.bipush 12, 2) := by decide +kernel
theorem d_M_read_21 : decode m_M_read.2.1 21 = .ok (.if_icmp .ge 82, 3) := by decide +kernel
theorem d_M_read_24 : decode m_M_read.2.1 24 = .ok (.aload_n 0, 1) := by decide +kernel
theorem d_M_read_25 : decode m_M_read.2.1 25 = .ok (.aload_n 0, 1) := by decide +kernel
theorem d_M_read_26 : decode m_M_read.2.1 26 = .ok (.getfield 13, 3) := by decide +kernel
theorem d_M_read_29 : decode m_M_read.2.1 29 = .ok (.bipush 12, 2) := by decide +kernel
theorem d_M_read_31 : decode m_M_read.2.1 31 = .ok (.iaload, 1) := by decide +kernel
theorem d_M_read_32 : decode m_M_read.2.1 32 = .ok (.iload_n 2, 1) := by decide +kernel
theorem d_M_read_33 : decode m_M_read.2.1 33 = .ok (.aload_n 0, 1) := by decide +kernel
theorem d_M_read_34 : decode m_M_read.2.1 34 = .ok (.getfield 13, 3) := by decide +kernel
theorem d_M_read_37 : decode m_M_read.2.1 37 = .ok (.bipush 14, 2) := by decide +kernel
theorem d_M_read_39 : decode m_M_read.2.1 39 = .ok (.iaload, 1) := by decide +kernel
theorem d_M_read_40 : decode m_M_read.2.1 40 = .ok (.invokevirtual 81, 3) := by decide +kernel
theorem d_M_read_43 : decode m_M_read.2.1 43 = .ok (.ifCond .eq 54, 3) := by decide +kernel
theorem d_M_read_46 : decode m_M_read.2.1 46 = .ok (.aload_n 0, 1) := by decide +kernel
theorem d_M_read_47 : decode m_M_read.2.1 47 = .ok (.getfield 13, 3) := by decide +kernel
theorem d_M_read_50 : decode m_M_read.2.1 50 = .ok (.iload_n 2, 1) := by decide +kernel
theorem d_M_read_51 : decode m_M_read.2.1 51 = .ok (.dup2, 1) := by decide +kernel
theorem d_M_read_52 : decode m_M_read.2.1 52 = .ok (.iaload, 1) := by decide +kernel
theorem d_M_read_53 : decode m_M_read.2.1 53 = .ok (.aload_n 0, 1) := by decide +kernel
theorem d_M_read_54 : decode m_M_read.2.1 54 = .ok (.getfield 23, 3) := by decide +kernel
theorem d_M_read_57 : decode m_M_read.2.1 57 = .ok (.iconst 4, 1) := by decide +kernel
theorem d_M_read_58 : decode m_M_read.2.1 58 = .ok (.iload_n 1, 1) := by decide +kernel
theorem d_M_read_59 : decode m_M_read.2.1 59 = .ok (.imul, 1) := by decide +kernel
theorem d_M_read_60 : decode m_M_read.2.1 60 = .ok (.iconst 1, 1) := by decide +kernel
theorem d_M_read_61 : decode m_M_read.2.1 61 = .ok (.iadd, 1) := by decide +kernel
theorem d_M_read_62 : decode m_M_read.2.1 62 = .ok (.iaload, 1) := by decide +kernel
theorem d_M_read_63 : decode m_M_read.2.1 63 = .ok (.aload_n 0, 1) := by decide +kernel
theorem d_M_read_64 : decode m_M_read.2.1 64 = .ok (.getfield 23, 3) := by decide +kernel
theorem d_M_read_67 : decode m_M_read.2.1 67 = .ok (.iconst 4, 1) := by decide +kernel
theorem d_M_read_68 : decode m_M_read.2.1 68 = .ok (.iload_n 1, 1) := by decide +kernel
theorem d_M_read_69 : decode m_M_read.2.1 69 = .ok (.imul, 1) := by decide +kernel
theorem d_M_read_70 : decode m_M_read.2.1 70 = .ok (.iconst 3, 1) := by decide +kernel
theorem d_M_read_71 : decode m_M_read.2.1 71 = .ok (.iadd, 1) := by decide +kernel
theorem d_M_read_72 : decode m_M_read.2.1 72 = .ok (.iaload, 1) := by decide +kernel
theorem d_M_read_73 : decode m_M_read.2.1 73 = .ok (.iload_n 2, 1) := by decide +kernel
theorem d_M_read_74 : decode m_M_read.2.1 74 = .ok (.invokestatic 77, 3) := by decide +kernel
theorem d_M_read_77 : decode m_M_read.2.1 77 = .ok (.ifCond .eq 16, 3) := by decide +kernel
theorem d_M_read_80 : decode m_M_read.2.1 80 = .ok (.aload_n 0, 1) := by decide +kernel
theorem d_M_read_81 : decode m_M_read.2.1 81 = .ok (.getfield 23, 3) := by decide +kernel
theorem d_M_read_84 : decode m_M_read.2.1 84 = .ok (.iconst 4, 1) := by decide +kernel
theorem d_M_read_85 : decode m_M_read.2.1 85 = .ok (.iload_n 1, 1) := by decide +kernel
theorem d_M_read_86 : decode m_M_read.2.1 86 = .ok (.imul, 1) := by decide +kernel
theorem d_M_read_87 : decode m_M_read.2.1 87 = .ok (.iconst 2, 1) := by decide +kernel
theorem d_M_read_88 : decode m_M_read.2.1 88 = .ok (.iadd, 1) := by decide +kernel
theorem d_M_read_89 : decode m_M_read.2.1 89 = .ok (.iaload, 1) := by decide +kernel
theorem d_M_read_90 : decode m_M_read.2.1 90 = .ok (.goto 4, 3) := by decide +kernel
theorem d_M_read_93 : decode m_M_read.2.1 93 = .ok (.iconst 0, 1) := by decide +kernel
theorem d_M_read_94 : decode m_M_read.2.1 94 = .ok (.ior, 1) := by decide +kernel
theorem d_M_read_95 : decode m_M_read.2.1 95 = .ok (.ior, 1) := by decide +kernel
theorem d_M_read_96 : decode m_M_read.2.1 96 = .ok (.iastore, 1) := by decide +kernel
theorem d_M_read_97 : decode m_M_read.2.1 97 = .ok (.iinc 2 1, 3) := by decide +kernel
theorem d_M_read_100 : decode m_M_read.2.1 100 = .ok (.goto (-82), 3) := by decide +kernel
theorem d_M_read_103 : decode m_M_read.2.1 103 = .ok (.aload_n 0, 1) := by decide +kernel
theorem d_M_read_104 : decode m_M_read.2.1 104 = .ok (.aload_n 0, 1) := by decide +kernel
theorem d_M_read_105 : decode m_M_read.2.1 105 = .ok (.aload_n 0, 1) := by decide +kernel
theorem d_M_read_106 : decode m_M_read.2.1 106 = .ok (.getfield 13, 3) := by decide +kernel
theorem d_M_read_109 : decode m_M_read.2.1 109 = .ok (.bipush 12, 2) := by decide +kernel
theorem d_M_read_111 : decode m_M_read.2.1 111 = .ok (.iaload, 1) := by decide +kernel
theorem d_M_read_112 : decode m_M_read.2.1 112 = .ok (.aload_n 0, 1) := by decide +kernel
theorem d_M_read_113 : decode m_M_read.2.1 113 = .ok (.getfield 23, 3) := by decide +kernel
theorem d_M_read_116 : decode m_M_read.2.1 116 = .ok (.iconst 4, 1) := by decide +kernel
theorem d_M_read_117 : decode m_M_read.2.1 117 = .ok (.iload_n 1, 1) := by decide +kernel
theorem d_M_read_118 : decode m_M_read.2.1 118 = .ok (.imul, 1) := by decide +kernel
theorem d_M_read_119 : decode m_M_read.2.1 119 = .ok (.iaload, 1) := by decide +kernel
theorem d_M_read_120 : decode m_M_read.2.1 120 = .ok (.aload_n 0, 1) := by decide +kernel
theorem d_M_read_121 : decode m_M_read.2.1 121 = .ok (.getfield 13, 3) := by decide +kernel
theorem d_M_read_124 : decode m_M_read.2.1 124 = .ok (.bipush 14, 2) := by decide +kernel
theorem d_M_read_126 : decode m_M_read.2.1 126 = .ok (.iaload, 1) := by decide +kernel
theorem d_M_read_127 : decode m_M_read.2.1 127 = .ok (.invokevirtual 81, 3) := by decide +kernel
theorem d_M_read_130 : decode m_M_read.2.1 130 = .ok (.ifCond .ne 7, 3) := by decide +kernel
theorem d_M_read_133 : decode m_M_read.2.1 133 = .ok (.iconst 1, 1) := by decide +kernel
theorem d_M_read_134 : decode m_M_read.2.1 134 = .ok (.goto 4, 3) := by decide +kernel
theorem d_M_read_137 : decode m_M_read.2.1 137 = .ok (.iconst 0, 1) := by decide +kernel
theorem d_M_read_138 : decode m_M_read.2.1 138 = .ok (.putfield 84, 3) := by decide +kernel
theorem d_M_read_141 : decode m_M_read.2.1 141 = .ok (.aload_n 0, 1) := by decide +kernel
theorem d_M_read_142 : decode m_M_read.2.1 142 = .ok (.getfield 13, 3) := by decide +kernel
theorem d_M_read_145 : decode m_M_read.2.1 145 = .ok (.bipush 15, 2) := by decide +kernel
theorem d_M_read_147 : decode m_M_read.2.1 147 = .ok (.dup2, 1) := by decide +kernel
theorem d_M_read_148 : decode m_M_read.2.1 148 = .ok (.iaload, 1) := by decide +kernel
theorem d_M_read_149 : decode m_M_read.2.1 149 = .ok (.iconst 1, 1) := by decide +kernel
theorem d_M_read_150 : decode m_M_read.2.1 150 = .ok (.iload_n 1, 1) := by decide +kernel
theorem d_M_read_151 : decode m_M_read.2.1 151 = .ok (.ishl, 1) := by decide +kernel
theorem d_M_read_152 : decode m_M_read.2.1 152 = .ok (.ior, 1) := by decide +kernel
theorem d_M_read_153 : decode m_M_read.2.1 153 = .ok (.iastore, 1) := by decide +kernel
theorem d_M_read_154 : decode m_M_read.2.1 154 = .ok (.iconst 0, 1) := by decide +kernel
theorem d_M_read_155 : decode m_M_read.2.1 155 = .ok (.ireturn, 1) := by decide +kernel
theorem d_M_evening_0 : decode m_M_evening.2.1 0 = .ok (.aload_n 0, 1) := by decide +kernel
theorem d_M_evening_1 : decode m_M_evening.2.1 1 = .ok (.getfield 13, 3) := by decide +kernel
theorem d_M_evening_4 : decode m_M_evening.2.1 4 = .ok (.bipush 13, 2) := by decide +kernel
theorem d_M_evening_6 : decode m_M_evening.2.1 6 = .ok (.iaload, 1) := by decide +kernel
theorem d_M_evening_7 : decode m_M_evening.2.1 7 = .ok (.bipush 99, 2) := by decide +kernel
theorem d_M_evening_9 : decode m_M_evening.2.1 9 = .ok (.if_icmp .ne 5, 3) := by decide +kernel
theorem d_M_evening_12 : decode m_M_evening.2.1 12 = .ok (.iconst 3, 1) := by decide +kernel
theorem d_M_evening_13 : decode m_M_evening.2.1 13 = .ok (.ireturn, 1) := by decide +kernel
theorem d_M_evening_14 : decode m_M_evening.2.1 14 = .ok (.iconst 0, 1) := by decide +kernel
theorem d_M_evening_15 : decode m_M_evening.2.1 15 = .ok (.istore_n 1, 1) := by decide +kernel
theorem d_M_evening_16 : decode m_M_evening.2.1 16 = .ok (.iload_n 1, 1) := by decide +kernel
theorem d_M_evening_17 : decode m_M_evening.2.1 17 = .ok (.bipush 12, 2) := by decide +kernel
theorem d_M_evening_19 : decode m_M_evening.2.1 19 = .ok (.if_icmp .ge 21, 3) := by decide +kernel
theorem d_M_evening_22 : decode m_M_evening.2.1 22 = .ok (.aload_n 0, 1) := by decide +kernel
theorem d_M_evening_23 : decode m_M_evening.2.1 23 = .ok (.getfield 32, 3) := by decide +kernel
theorem d_M_evening_26 : decode m_M_evening.2.1 26 = .ok (.iload_n 1, 1) := by decide +kernel
theorem d_M_evening_27 : decode m_M_evening.2.1 27 = .ok (.aload_n 0, 1) := by decide +kernel
theorem d_M_evening_28 : decode m_M_evening.2.1 28 = .ok (.getfield 13, 3) := by decide +kernel
theorem d_M_evening_31 : decode m_M_evening.2.1 31 = .ok (.iload_n 1, 1) := by decide +kernel
theorem d_M_evening_32 : decode m_M_evening.2.1 32 = .ok (.iaload, 1) := by decide +kernel
theorem d_M_evening_33 : decode m_M_evening.2.1 33 = .ok (.iastore, 1) := by decide +kernel
theorem d_M_evening_34 : decode m_M_evening.2.1 34 = .ok (.iinc 1 1, 3) := by decide +kernel
theorem d_M_evening_37 : decode m_M_evening.2.1 37 = .ok (.goto (-21), 3) := by decide +kernel
theorem d_M_evening_40 : decode m_M_evening.2.1 40 = .ok (.iconst 0, 1) := by decide +kernel
theorem d_M_evening_41 : decode m_M_evening.2.1 41 = .ok (.istore_n 1, 1) := by decide +kernel
theorem d_M_evening_42 : decode m_M_evening.2.1 42 = .ok (.iload_n 1, 1) := by decide +kernel
theorem d_M_evening_43 : decode m_M_evening.2.1 43 = .ok (.bipush 11, 2) := by decide +kernel
theorem d_M_evening_45 : decode m_M_evening.2.1 45 = .ok (.if_icmp .ge 85, 3) := by decide +kernel
theorem d_M_evening_48 : decode m_M_evening.2.1 48 = .ok (.aload_n 0, 1) := by decide +kernel
theorem d_M_evening_49 : decode m_M_evening.2.1 49 = .ok (.getfield 16, 3) := by decide +kernel
theorem d_M_evening_52 : decode m_M_evening.2.1 52 = .ok (.iload_n 1, 1) := by decide +kernel
theorem d_M_evening_53 : decode m_M_evening.2.1 53 = .ok (.iaload, 1) := by decide +kernel
theorem d_M_evening_54 : decode m_M_evening.2.1 54 = .ok (.iconst 5, 1) := by decide +kernel
theorem d_M_evening_55 : decode m_M_evening.2.1 55 = .ok (.if_icmp .ge 69, 3) := by decide +kernel
theorem d_M_evening_58 : decode m_M_evening.2.1 58 = .ok (.aload_n 0, 1) := by decide +kernel
theorem d_M_evening_59 : decode m_M_evening.2.1 59 = .ok (.getfield 13, 3) := by decide +kernel
theorem d_M_evening_62 : decode m_M_evening.2.1 62 = .ok (.iload_n 1, 1) := by decide +kernel
theorem d_M_evening_63 : decode m_M_evening.2.1 63 = .ok (.dup2, 1) := by decide +kernel
theorem d_M_evening_64 : decode m_M_evening.2.1 64 = .ok (.iaload, 1) := by decide +kernel
theorem d_M_evening_65 : decode m_M_evening.2.1 65 = .ok (.aload_n 0, 1) := by decide +kernel
theorem d_M_evening_66 : decode m_M_evening.2.1 66 = .ok (.getfield 49, 3) := by decide +kernel
theorem d_M_evening_69 : decode m_M_evening.2.1 69 = .ok (.iload_n 1, 1) := by decide +kernel
theorem d_M_evening_70 : decode m_M_evening.2.1 70 = .ok (.invokestatic 77, 3) := by decide +kernel
theorem d_M_evening_73 : decode m_M_evening.2.1 73 = .ok (.ifCond .eq 7, 3) := by decide +kernel
theorem d_M_evening_76 : decode m_M_evening.2.1 76 = .ok (.iconst 0, 1) := by decide +kernel
theorem d_M_evening_77 : decode m_M_evening.2.1 77 = .ok (.goto 11, 3) := by decide +kernel
theorem d_M_evening_80 : decode m_M_evening.2.1 80 = .ok (.aload_n 0, 1) := by decide +kernel
theorem d_M_evening_81 : decode m_M_evening.2.1 81 = .ok (.getfield 32, 3) := by decide +kernel
theorem d_M_evening_84 : decode m_M_evening.2.1 84 = .ok (.iload_n 1, 1) := by decide +kernel
theorem d_M_evening_85 : decode m_M_evening.2.1 85 = .ok (.iconst 1, 1) := by decide +kernel
theorem d_M_evening_86 : decode m_M_evening.2.1 86 = .ok (.iadd, 1) := by decide +kernel
theorem d_M_evening_87 : decode m_M_evening.2.1 87 = .ok (.iaload, 1) := by decide +kernel
theorem d_M_evening_88 : decode m_M_evening.2.1 88 = .ok (.ior, 1) := by decide +kernel
theorem d_M_evening_89 : decode m_M_evening.2.1 89 = .ok (.iastore, 1) := by decide +kernel
theorem d_M_evening_90 : decode m_M_evening.2.1 90 = .ok (.aload_n 0, 1) := by decide +kernel
theorem d_M_evening_91 : decode m_M_evening.2.1 91 = .ok (.getfield 13, 3) := by decide +kernel
theorem d_M_evening_94 : decode m_M_evening.2.1 94 = .ok (.iload_n 1, 1) := by decide +kernel
theorem d_M_evening_95 : decode m_M_evening.2.1 95 = .ok (.iconst 1, 1) := by decide +kernel
theorem d_M_evening_96 : decode m_M_evening.2.1 96 = .ok (.iadd, 1) := by decide +kernel
theorem d_M_evening_97 : decode m_M_evening.2.1 97 = .ok (.dup2, 1) := by decide +kernel
theorem d_M_evening_98 : decode m_M_evening.2.1 98 = .ok (.iaload, 1) := by decide +kernel
theorem d_M_evening_99 : decode m_M_evening.2.1 99 = .ok (.aload_n 0, 1) := by decide +kernel
theorem d_M_evening_100 : decode m_M_evening.2.1 100 = .ok (.getfield 49, 3) := by decide +kernel
theorem d_M_evening_103 : decode m_M_evening.2.1 103 = .ok (.iload_n 1, 1) := by decide +kernel
theorem d_M_evening_104 : decode m_M_evening.2.1 104 = .ok (.iconst 1, 1) := by decide +kernel
theorem d_M_evening_105 : decode m_M_evening.2.1 105 = .ok (.iadd, 1) := by decide +kernel
theorem d_M_evening_106 : decode m_M_evening.2.1 106 = .ok (.invokestatic 77, 3) := by decide +kernel
theorem d_M_evening_109 : decode m_M_evening.2.1 109 = .ok (.ifCond .eq 7, 3) := by decide +kernel
theorem d_M_evening_112 : decode m_M_evening.2.1 112 = .ok (.iconst 0, 1) := by decide +kernel
theorem d_M_evening_113 : decode m_M_evening.2.1 113 = .ok (.goto 9, 3) := by decide +kernel
theorem d_M_evening_116 : decode m_M_evening.2.1 116 = .ok (.aload_n 0, 1) := by decide +kernel
theorem d_M_evening_117 : decode m_M_evening.2.1 117 = .ok (.getfield 32, 3) := by decide +kernel
theorem d_M_evening_120 : decode m_M_evening.2.1 120 = .ok (.iload_n 1, 1) := by decide +kernel
theorem d_M_evening_121 : decode m_M_evening.2.1 121 = .ok (.iaload, 1) := by decide +kernel
theorem d_M_evening_122 : decode m_M_evening.2.1 122 = .ok (.ior, 1) := by decide +kernel
theorem d_M_evening_123 : decode m_M_evening.2.1 123 = .ok (.iastore, 1) := by decide +kernel
theorem d_M_evening_124 : decode m_M_evening.2.1 124 = .ok (.iinc 1 1, 3) := by decide +kernel
theorem d_M_evening_127 : decode m_M_evening.2.1 127 = .ok (.goto (-85), 3) := by decide +kernel
theorem d_M_evening_130 : decode m_M_evening.2.1 130 = .ok (.aload_n 0, 1) := by decide +kernel
theorem d_M_evening_131 : decode m_M_evening.2.1 131 = .ok (.getfield 13, 3) := by decide +kernel
theorem d_M_evening_134 : decode m_M_evening.2.1 134 = .ok (.bipush 13, 2) := by decide +kernel
theorem d_M_evening_136 : decode m_M_evening.2.1 136 = .ok (.dup2, 1) := by decide +kernel
theorem d_M_evening_137 : decode m_M_evening.2.1 137 = .ok (.iaload, 1) := by decide +kernel
theorem d_M_evening_138 : decode m_M_evening.2.1 138 = .ok (.iconst 1, 1) := by decide +kernel
theorem d_M_evening_139 : decode m_M_evening.2.1 139 = .ok (.iadd, 1) := by decide +kernel
theorem d_M_evening_140 : decode m_M_evening.2.1 140 = .ok (.iastore, 1) := by decide +kernel
theorem d_M_evening_141 : decode m_M_evening.2.1 141 = .ok (.iconst 0, 1) := by decide +kernel
theorem d_M_evening_142 : decode m_M_evening.2.1 142 = .ok (.ireturn, 1) := by decide +kernel
theorem d_M_goDays_0 : decode m_M_goDays.2.1 0 = .ok (.aload_n 0, 1) := by decide +kernel
theorem d_M_goDays_1 : decode m_M_goDays.2.1 1 = .ok (.invokevirtual 88, 3) := by decide +kernel
theorem d_M_goDays_4 : decode m_M_goDays.2.1 4 = .ok (.aload_n 0, 1) := by decide +kernel
theorem d_M_goDays_5 : decode m_M_goDays.2.1 5 = .ok (.iconst 0, 1) := by decide +kernel
theorem d_M_goDays_6 : decode m_M_goDays.2.1 6 = .ok (.putfield 91, 3) := by decide +kernel
theorem d_M_goDays_9 : decode m_M_goDays.2.1 9 = .ok (.aload_n 0, 1) := by decide +kernel
theorem d_M_goDays_10 : decode m_M_goDays.2.1 10 = .ok (.bipush (-6), 2) := by decide +kernel
theorem d_M_goDays_12 : decode m_M_goDays.2.1 12 = .ok (.putfield 94, 3) := by decide +kernel
theorem d_M_goDays_15 : decode m_M_goDays.2.1 15 = .ok (.iconst 0, 1) := by decide +kernel
theorem d_M_goDays_16 : decode m_M_goDays.2.1 16 = .ok (.istore_n 1, 1) := by decide +kernel
theorem d_M_goDays_17 : decode m_M_goDays.2.1 17 = .ok (.iload_n 1, 1) := by decide +kernel
theorem d_M_goDays_18 : decode m_M_goDays.2.1 18 = .ok (.aload_n 0, 1) := by decide +kernel
theorem d_M_goDays_19 : decode m_M_goDays.2.1 19 = .ok (.getfield 63, 3) := by decide +kernel
theorem d_M_goDays_22 : decode m_M_goDays.2.1 22 = .ok (.if_icmp .ge 157, 3) := by decide +kernel
theorem d_M_goDays_25 : decode m_M_goDays.2.1 25 = .ok (.aload_n 0, 1) := by decide +kernel
theorem d_M_goDays_26 : decode m_M_goDays.2.1 26 = .ok (.getfield 29, 3) := by decide +kernel
theorem d_M_goDays_29 : decode m_M_goDays.2.1 29 = .ok (.iload_n 1, 1) := by decide +kernel
theorem d_M_goDays_30 : decode m_M_goDays.2.1 30 = .ok (.iaload, 1) := by decide +kernel
theorem d_M_goDays_31 : decode m_M_goDays.2.1 31 = .ok (.istore_n 2, 1) := by decide +kernel
theorem d_M_goDays_32 : decode m_M_goDays.2.1 32 = .ok (.aload_n 0, 1) := by decide +kernel
theorem d_M_goDays_33 : decode m_M_goDays.2.1 33 = .ok (.iconst 0, 1) := by decide +kernel
theorem d_M_goDays_34 : decode m_M_goDays.2.1 34 = .ok (.putfield 97, 3) := by decide +kernel
theorem d_M_goDays_37 : decode m_M_goDays.2.1 37 = .ok (.aload_n 0, 1) := by decide +kernel
theorem d_M_goDays_38 : decode m_M_goDays.2.1 38 = .ok (.iconst 0, 1) := by decide +kernel
theorem d_M_goDays_39 : decode m_M_goDays.2.1 39 = .ok (.putfield 84, 3) := by decide +kernel
theorem d_M_goDays_42 : decode m_M_goDays.2.1 42 = .ok (.iload_n 2, 1) := by decide +kernel
theorem d_M_goDays_43 : decode m_M_goDays.2.1 43 = .ok (.bipush 46, 2) := by decide +kernel
theorem d_M_goDays_45 : decode m_M_goDays.2.1 45 = .ok (.if_icmp .ne 14, 3) := by decide +kernel
theorem d_M_goDays_48 : decode m_M_goDays.2.1 48 = .ok (.aload_n 0, 1) := by decide +kernel
theorem d_M_goDays_49 : decode m_M_goDays.2.1 49 = .ok (.aload_n 0, 1) := by decide +kernel
theorem d_M_goDays_50 : decode m_M_goDays.2.1 50 = .ok (.invokevirtual 100, 3) := by decide +kernel
theorem d_M_goDays_53 : decode m_M_goDays.2.1 53 = .ok (.putfield 97, 3) := by decide +kernel
theorem d_M_goDays_56 : decode m_M_goDays.2.1 56 = .ok (.goto 66, 3) := by decide +kernel
theorem d_M_goDays_59 : decode m_M_goDays.2.1 59 = .ok (.iload_n 2, 1) := by decide +kernel
theorem d_M_goDays_60 : decode m_M_goDays.2.1 60 = .ok (.bipush 33, 2) := by decide +kernel
theorem d_M_goDays_62 : decode m_M_goDays.2.1 62 = .ok (.if_icmp .ne 30, 3) := by decide +kernel
theorem d_M_goDays_65 : decode m_M_goDays.2.1 65 = .ok (.iinc 1 1, 3) := by decide +kernel
theorem d_M_goDays_68 : decode m_M_goDays.2.1 68 = .ok (.aload_n 0, 1) := by decide +kernel
theorem d_M_goDays_69 : decode m_M_goDays.2.1 69 = .ok (.getfield 13, 3) := by decide +kernel
theorem d_M_goDays_72 : decode m_M_goDays.2.1 72 = .ok (.bipush 14, 2) := by decide +kernel
theorem d_M_goDays_74 : decode m_M_goDays.2.1 74 = .ok (.dup2, 1) := by decide +kernel
theorem d_M_goDays_75 : decode m_M_goDays.2.1 75 = .ok (.iaload, 1) := by decide +kernel
theorem d_M_goDays_76 : decode m_M_goDays.2.1 76 = .ok (.iconst 1, 1) := by decide +kernel
theorem d_M_goDays_77 : decode m_M_goDays.2.1 77 = .ok (.aload_n 0, 1) := by decide +kernel
theorem d_M_goDays_78 : decode m_M_goDays.2.1 78 = .ok (.getfield 29, 3) := by decide +kernel
theorem d_M_goDays_81 : decode m_M_goDays.2.1 81 = .ok (.iload_n 1, 1) := by decide +kernel
theorem d_M_goDays_82 : decode m_M_goDays.2.1 82 = .ok (.iaload, 1) := by decide +kernel
theorem d_M_goDays_83 : decode m_M_goDays.2.1 83 = .ok (.bipush 97, 2) := by decide +kernel
theorem d_M_goDays_85 : decode m_M_goDays.2.1 85 = .ok (.isub, 1) := by decide +kernel
theorem d_M_goDays_86 : decode m_M_goDays.2.1 86 = .ok (.ishl, 1) := by decide +kernel
theorem d_M_goDays_87 : decode m_M_goDays.2.1 87 = .ok (.ixor, 1) := by decide +kernel
theorem d_M_goDays_88 : decode m_M_goDays.2.1 88 = .ok (.iastore, 1) := by decide +kernel
theorem d_M_goDays_89 : decode m_M_goDays.2.1 89 = .ok (.goto 33, 3) := by decide +kernel
theorem d_M_goDays_92 : decode m_M_goDays.2.1 92 = .ok (.aload_n 0, 1) := by decide +kernel
theorem d_M_goDays_93 : decode m_M_goDays.2.1 93 = .ok (.iload_n 2, 1) := by decide +kernel
theorem d_M_goDays_94 : decode m_M_goDays.2.1 94 = .ok (.invokestatic 66, 3) := by decide +kernel
theorem d_M_goDays_97 : decode m_M_goDays.2.1 97 = .ok (.ifCond .eq 14, 3) := by decide +kernel
theorem d_M_goDays_100 : decode m_M_goDays.2.1 100 = .ok (.aload_n 0, 1) := by decide +kernel
theorem d_M_goDays_101 : decode m_M_goDays.2.1 101 = .ok (.iload_n 2, 1) := by decide +kernel
theorem d_M_goDays_102 : decode m_M_goDays.2.1 102 = .ok (.bipush 97, 2) := by decide +kernel
theorem d_M_goDays_104 : decode m_M_goDays.2.1 104 = .ok (.isub, 1) := by decide +kernel
theorem d_M_goDays_105 : decode m_M_goDays.2.1 105 = .ok (.invokevirtual 103, 3) := by decide +kernel
theorem d_M_goDays_108 : decode m_M_goDays.2.1 108 = .ok (.goto 11, 3) := by decide +kernel
theorem d_M_goDays_111 : decode m_M_goDays.2.1 111 = .ok (.aload_n 0, 1) := by decide +kernel
theorem d_M_goDays_112 : decode m_M_goDays.2.1 112 = .ok (.iload_n 2, 1) := by decide +kernel
theorem d_M_goDays_113 : decode m_M_goDays.2.1 113 = .ok (.bipush 48, 2) := by decide +kernel
theorem d_M_goDays_115 : decode m_M_goDays.2.1 115 = .ok (.isub, 1) := by decide +kernel
theorem d_M_goDays_116 : decode m_M_goDays.2.1 116 = .ok (.invokevirtual 107, 3) := by decide +kernel
theorem d_M_goDays_119 : decode m_M_goDays.2.1 119 = .ok (.putfield 97, 3) := by decide +kernel
theorem d_M_goDays_122 : decode m_M_goDays.2.1 122 = .ok (.aload_n 0, 1) := by decide +kernel
theorem d_M_goDays_123 : decode m_M_goDays.2.1 123 = .ok (.getfield 97, 3) := by decide +kernel
theorem d_M_goDays_126 : decode m_M_goDays.2.1 126 = .ok (.ifCond .le 8, 3) := by decide +kernel
theorem d_M_goDays_129 : decode m_M_goDays.2.1 129 = .ok (.aload_n 0, 1) := by decide +kernel
theorem d_M_goDays_130 : decode m_M_goDays.2.1 130 = .ok (.getfield 91, 3) := by decide +kernel
theorem d_M_goDays_133 : decode m_M_goDays.2.1 133 = .ok (.ireturn, 1) := by decide +kernel
theorem d_M_goDays_134 : decode m_M_goDays.2.1 134 = .ok (.aload_n 0, 1) := by decide +kernel
theorem d_M_goDays_135 : decode m_M_goDays.2.1 135 = .ok (.aload_n 0, 1) := by decide +kernel
theorem d_M_goDays_136 : decode m_M_goDays.2.1 136 = .ok (.getfield 94, 3) := by decide +kernel
theorem d_M_goDays_139 : decode m_M_goDays.2.1 139 = .ok (.ifCond .ge 17, 3) := by decide +kernel
theorem d_M_goDays_142 : decode m_M_goDays.2.1 142 = .ok (.aload_n 0, 1) := by decide +kernel
theorem d_M_goDays_143 : decode m_M_goDays.2.1 143 = .ok (.getfield 84, 3) := by decide +kernel
theorem d_M_goDays_146 : decode m_M_goDays.2.1 146 = .ok (.ifCond .eq 10, 3) := by decide +kernel
theorem d_M_goDays_149 : decode m_M_goDays.2.1 149 = .ok (.aload_n 0, 1) := by decide +kernel
theorem d_M_goDays_150 : decode m_M_goDays.2.1 150 = .ok (.getfield 91, 3) := by decide +kernel
theorem d_M_goDays_153 : decode m_M_goDays.2.1 153 = .ok (.goto 7, 3) := by decide +kernel
theorem d_M_goDays_156 : decode m_M_goDays.2.1 156 = .ok (.aload_n 0, 1) := by decide +kernel
theorem d_M_goDays_157 : decode m_M_goDays.2.1 157 = .ok (.getfield 94, 3) := by decide +kernel
theorem d_M_goDays_160 : decode m_M_goDays.2.1 160 = .ok (.putfield 94, 3) := by decide +kernel
theorem d_M_goDays_163 : decode m_M_goDays.2.1 163 = .ok (.iinc 1 1, 3) := by decide +kernel
theorem d_M_goDays_166 : decode m_M_goDays.2.1 166 = .ok (.aload_n 0, 1) := by decide +kernel
theorem d_M_goDays_167 : decode m_M_goDays.2.1 167 = .ok (.dup, 1) := by decide +kernel
theorem d_M_goDays_168 : decode m_M_goDays.2.1 168 = .ok (.getfield 91, 3) := by decide +kernel
theorem d_M_goDays_171 : decode m_M_goDays.2.1 171 = .ok (.iconst 1, 1) := by decide +kernel
theorem d_M_goDays_172 : decode m_M_goDays.2.1 172 = .ok (.iadd, 1) := by decide +kernel
theorem d_M_goDays_173 : decode m_M_goDays.2.1 173 = .ok (.putfield 91, 3) := by decide +kernel
theorem d_M_goDays_176 : decode m_M_goDays.2.1 176 = .ok (.goto (-159), 3) := by decide +kernel
theorem d_M_goDays_179 : decode m_M_goDays.2.1 179 = .ok (.bipush (-6), 2) := by decide +kernel
theorem d_M_goDays_181 : decode m_M_goDays.2.1 181 = .ok (.ireturn, 1) := by decide +kernel
theorem d_M_judge_0 : decode m_M_judge.2.1 0 = .ok (.iload_n 1, 1) := by decide +kernel
theorem d_M_judge_1 : decode m_M_judge.2.1 1 = .ok (.iconst 0, 1) := by decide +kernel
theorem d_M_judge_2 : decode m_M_judge.2.1 2 = .ok (.iconst 1, 1) := by decide +kernel
theorem d_M_judge_3 : decode m_M_judge.2.1 3 = .ok (.invokestatic 52, 3) := by decide +kernel
theorem d_M_judge_6 : decode m_M_judge.2.1 6 = .ok (.ifCond .ne 6, 3) := by decide +kernel
theorem d_M_judge_9 : decode m_M_judge.2.1 9 = .ok (.bipush (-2), 2) := by decide +kernel
theorem d_M_judge_11 : decode m_M_judge.2.1 11 = .ok (.ireturn, 1) := by decide +kernel
theorem d_M_judge_12 : decode m_M_judge.2.1 12 = .ok (.aload_n 0, 1) := by decide +kernel
theorem d_M_judge_13 : decode m_M_judge.2.1 13 = .ok (.invokevirtual 69, 3) := by decide +kernel
theorem d_M_judge_16 : decode m_M_judge.2.1 16 = .ok (.ifCond .lt 6, 3) := by decide +kernel
theorem d_M_judge_19 : decode m_M_judge.2.1 19 = .ok (.bipush (-5), 2) := by decide +kernel
theorem d_M_judge_21 : decode m_M_judge.2.1 21 = .ok (.ireturn, 1) := by decide +kernel
theorem d_M_judge_22 : decode m_M_judge.2.1 22 = .ok (.aload_n 0, 1) := by decide +kernel
theorem d_M_judge_23 : decode m_M_judge.2.1 23 = .ok (.invokevirtual 110, 3) := by decide +kernel
theorem d_M_judge_26 : decode m_M_judge.2.1 26 = .ok (.istore_n 2, 1) := by decide +kernel
theorem d_M_judge_27 : decode m_M_judge.2.1 27 = .ok (.iload_n 2, 1) := by decide +kernel
theorem d_M_judge_28 : decode m_M_judge.2.1 28 = .ok (.ifCond .lt 7, 3) := by decide +kernel
theorem d_M_judge_31 : decode m_M_judge.2.1 31 = .ok (.iload_n 1, 1) := by decide +kernel
theorem d_M_judge_32 : decode m_M_judge.2.1 32 = .ok (.ifCond .ne 7, 3) := by decide +kernel
theorem d_M_judge_35 : decode m_M_judge.2.1 35 = .ok (.iload_n 2, 1) := by decide +kernel
theorem d_M_judge_36 : decode m_M_judge.2.1 36 = .ok (.goto 7, 3) := by decide +kernel
theorem d_M_judge_39 : decode m_M_judge.2.1 39 = .ok (.aload_n 0, 1) := by decide +kernel
theorem d_M_judge_40 : decode m_M_judge.2.1 40 = .ok (.getfield 97, 3) := by decide +kernel
theorem d_M_judge_43 : decode m_M_judge.2.1 43 = .ok (.ireturn, 1) := by decide +kernel
theorem d_M_barOfDays_0 : decode m_M_barOfDays.2.1 0 = .ok (.aload_n 0, 1) := by decide +kernel
theorem d_M_barOfDays_1 : decode m_M_barOfDays.2.1 1 = .ok (.invokevirtual 69, 3) := by decide +kernel
theorem d_M_barOfDays_4 : decode m_M_barOfDays.2.1 4 = .ok (.ifCond .ge 10, 3) := by decide +kernel
theorem d_M_barOfDays_7 : decode m_M_barOfDays.2.1 7 = .ok (.aload_n 0, 1) := by decide +kernel
theorem d_M_barOfDays_8 : decode m_M_barOfDays.2.1 8 = .ok (.invokevirtual 110, 3) := by decide +kernel
theorem d_M_barOfDays_11 : decode m_M_barOfDays.2.1 11 = .ok (.ifCond .lt 8, 3) := by decide +kernel
theorem d_M_barOfDays_14 : decode m_M_barOfDays.2.1 14 = .ok (.bipush (-5), 2) := by decide +kernel
theorem d_M_barOfDays_16 : decode m_M_barOfDays.2.1 16 = .ok (.goto 4, 3) := by decide +kernel
theorem d_M_barOfDays_19 : decode m_M_barOfDays.2.1 19 = .ok (.iconst 0, 1) := by decide +kernel
theorem d_M_barOfDays_20 : decode m_M_barOfDays.2.1 20 = .ok (.ireturn, 1) := by decide +kernel
theorem d_M_done_0 : decode m_M_done.2.1 0 = .ok (.aload_n 0, 1) := by decide +kernel
theorem d_M_done_1 : decode m_M_done.2.1 1 = .ok (.invokevirtual 113, 3) := by decide +kernel
theorem d_M_done_4 : decode m_M_done.2.1 4 = .ok (.ifCond .ge 6, 3) := by decide +kernel
theorem d_M_done_7 : decode m_M_done.2.1 7 = .ok (.bipush (-5), 2) := by decide +kernel
theorem d_M_done_9 : decode m_M_done.2.1 9 = .ok (.ireturn, 1) := by decide +kernel
theorem d_M_done_10 : decode m_M_done.2.1 10 = .ok (.iconst 0, 1) := by decide +kernel
theorem d_M_done_11 : decode m_M_done.2.1 11 = .ok (.istore_n 1, 1) := by decide +kernel
theorem d_M_done_12 : decode m_M_done.2.1 12 = .ok (.iload_n 1, 1) := by decide +kernel
theorem d_M_done_13 : decode m_M_done.2.1 13 = .ok (.bipush 16, 2) := by decide +kernel
theorem d_M_done_15 : decode m_M_done.2.1 15 = .ok (.if_icmp .ge 21, 3) := by decide +kernel
theorem d_M_done_18 : decode m_M_done.2.1 18 = .ok (.aload_n 0, 1) := by decide +kernel
theorem d_M_done_19 : decode m_M_done.2.1 19 = .ok (.getfield 7, 3) := by decide +kernel
theorem d_M_done_22 : decode m_M_done.2.1 22 = .ok (.iload_n 1, 1) := by decide +kernel
theorem d_M_done_23 : decode m_M_done.2.1 23 = .ok (.aload_n 0, 1) := by decide +kernel
theorem d_M_done_24 : decode m_M_done.2.1 24 = .ok (.getfield 13, 3) := by decide +kernel
theorem d_M_done_27 : decode m_M_done.2.1 27 = .ok (.iload_n 1, 1) := by decide +kernel
theorem d_M_done_28 : decode m_M_done.2.1 28 = .ok (.iaload, 1) := by decide +kernel
theorem d_M_done_29 : decode m_M_done.2.1 29 = .ok (.iastore, 1) := by decide +kernel
theorem d_M_done_30 : decode m_M_done.2.1 30 = .ok (.iinc 1 1, 3) := by decide +kernel
theorem d_M_done_33 : decode m_M_done.2.1 33 = .ok (.goto (-21), 3) := by decide +kernel
theorem d_M_done_36 : decode m_M_done.2.1 36 = .ok (.aload_n 0, 1) := by decide +kernel
theorem d_M_done_37 : decode m_M_done.2.1 37 = .ok (.iconst 0, 1) := by decide +kernel
theorem d_M_done_38 : decode m_M_done.2.1 38 = .ok (.putfield 63, 3) := by decide +kernel
theorem d_M_done_41 : decode m_M_done.2.1 41 = .ok (.aload_n 0, 1) := by decide +kernel
theorem d_M_done_42 : decode m_M_done.2.1 42 = .ok (.getfield 91, 3) := by decide +kernel
theorem d_M_done_45 : decode m_M_done.2.1 45 = .ok (.ireturn, 1) := by decide +kernel
theorem d_M_knows_0 : decode m_M_knows.2.1 0 = .ok (.iload_n 1, 1) := by decide +kernel
theorem d_M_knows_1 : decode m_M_knows.2.1 1 = .ok (.invokestatic 56, 3) := by decide +kernel
theorem d_M_knows_4 : decode m_M_knows.2.1 4 = .ok (.ifCond .ne 5, 3) := by decide +kernel
theorem d_M_knows_7 : decode m_M_knows.2.1 7 = .ok (.iconst (-1), 1) := by decide +kernel
theorem d_M_knows_8 : decode m_M_knows.2.1 8 = .ok (.ireturn, 1) := by decide +kernel
theorem d_M_knows_9 : decode m_M_knows.2.1 9 = .ok (.aload_n 0, 1) := by decide +kernel
theorem d_M_knows_10 : decode m_M_knows.2.1 10 = .ok (.invokevirtual 113, 3) := by decide +kernel
theorem d_M_knows_13 : decode m_M_knows.2.1 13 = .ok (.ifCond .ge 8, 3) := by decide +kernel
theorem d_M_knows_16 : decode m_M_knows.2.1 16 = .ok (.bipush (-5), 2) := by decide +kernel
theorem d_M_knows_18 : decode m_M_knows.2.1 18 = .ok (.goto 9, 3) := by decide +kernel
theorem d_M_knows_21 : decode m_M_knows.2.1 21 = .ok (.aload_n 0, 1) := by decide +kernel
theorem d_M_knows_22 : decode m_M_knows.2.1 22 = .ok (.getfield 13, 3) := by decide +kernel
theorem d_M_knows_25 : decode m_M_knows.2.1 25 = .ok (.iload_n 1, 1) := by decide +kernel
theorem d_M_knows_26 : decode m_M_knows.2.1 26 = .ok (.iaload, 1) := by decide +kernel
theorem d_M_knows_27 : decode m_M_knows.2.1 27 = .ok (.ireturn, 1) := by decide +kernel
theorem d_M_behind_0 : decode m_M_behind.2.1 0 = .ok (.iload_n 1, 1) := by decide +kernel
theorem d_M_behind_1 : decode m_M_behind.2.1 1 = .ok (.iconst 0, 1) := by decide +kernel
theorem d_M_behind_2 : decode m_M_behind.2.1 2 = .ok (.iconst 3, 1) := by decide +kernel
theorem d_M_behind_3 : decode m_M_behind.2.1 3 = .ok (.invokestatic 52, 3) := by decide +kernel
theorem d_M_behind_6 : decode m_M_behind.2.1 6 = .ok (.ifCond .ne 6, 3) := by decide +kernel
theorem d_M_behind_9 : decode m_M_behind.2.1 9 = .ok (.bipush (-2), 2) := by decide +kernel
theorem d_M_behind_11 : decode m_M_behind.2.1 11 = .ok (.ireturn, 1) := by decide +kernel
theorem d_M_behind_12 : decode m_M_behind.2.1 12 = .ok (.aload_n 0, 1) := by decide +kernel
theorem d_M_behind_13 : decode m_M_behind.2.1 13 = .ok (.invokevirtual 113, 3) := by decide +kernel
theorem d_M_behind_16 : decode m_M_behind.2.1 16 = .ok (.ifCond .ge 6, 3) := by decide +kernel
theorem d_M_behind_19 : decode m_M_behind.2.1 19 = .ok (.bipush (-5), 2) := by decide +kernel
theorem d_M_behind_21 : decode m_M_behind.2.1 21 = .ok (.ireturn, 1) := by decide +kernel
theorem d_M_behind_22 : decode m_M_behind.2.1 22 = .ok (.iload_n 1, 1) := by decide +kernel
theorem d_M_behind_23 : decode m_M_behind.2.1 23 = .ok (.ifCond .ne 13, 3) := by decide +kernel
theorem d_M_behind_26 : decode m_M_behind.2.1 26 = .ok (.aload_n 0, 1) := by decide +kernel
theorem d_M_behind_27 : decode m_M_behind.2.1 27 = .ok (.getfield 13, 3) := by decide +kernel
theorem d_M_behind_30 : decode m_M_behind.2.1 30 = .ok (.bipush 12, 2) := by decide +kernel
theorem d_M_behind_32 : decode m_M_behind.2.1 32 = .ok (.iaload, 1) := by decide +kernel
theorem d_M_behind_33 : decode m_M_behind.2.1 33 = .ok (.goto 37, 3) := by decide +kernel
theorem d_M_behind_36 : decode m_M_behind.2.1 36 = .ok (.iload_n 1, 1) := by decide +kernel
theorem d_M_behind_37 : decode m_M_behind.2.1 37 = .ok (.iconst 1, 1) := by decide +kernel
theorem d_M_behind_38 : decode m_M_behind.2.1 38 = .ok (.if_icmp .ne 13, 3) := by decide +kernel
theorem d_M_behind_41 : decode m_M_behind.2.1 41 = .ok (.aload_n 0, 1) := by decide +kernel
theorem d_M_behind_42 : decode m_M_behind.2.1 42 = .ok (.getfield 13, 3) := by decide +kernel
theorem d_M_behind_45 : decode m_M_behind.2.1 45 = .ok (.bipush 13, 2) := by decide +kernel
theorem d_M_behind_47 : decode m_M_behind.2.1 47 = .ok (.iaload, 1) := by decide +kernel
theorem d_M_behind_48 : decode m_M_behind.2.1 48 = .ok (.goto 22, 3) := by decide +kernel
theorem d_M_behind_51 : decode m_M_behind.2.1 51 = .ok (.iload_n 1, 1) := by decide +kernel
theorem d_M_behind_52 : decode m_M_behind.2.1 52 = .ok (.iconst 2, 1) := by decide +kernel
theorem d_M_behind_53 : decode m_M_behind.2.1 53 = .ok (.if_icmp .ne 13, 3) := by decide +kernel
theorem d_M_behind_56 : decode m_M_behind.2.1 56 = .ok (.aload_n 0, 1) := by decide +kernel
theorem d_M_behind_57 : decode m_M_behind.2.1 57 = .ok (.getfield 13, 3) := by decide +kernel
theorem d_M_behind_60 : decode m_M_behind.2.1 60 = .ok (.bipush 15, 2) := by decide +kernel
theorem d_M_behind_62 : decode m_M_behind.2.1 62 = .ok (.iaload, 1) := by decide +kernel
theorem d_M_behind_63 : decode m_M_behind.2.1 63 = .ok (.goto 7, 3) := by decide +kernel
theorem d_M_behind_66 : decode m_M_behind.2.1 66 = .ok (.aload_n 0, 1) := by decide +kernel
theorem d_M_behind_67 : decode m_M_behind.2.1 67 = .ok (.getfield 94, 3) := by decide +kernel
theorem d_M_behind_70 : decode m_M_behind.2.1 70 = .ok (.ireturn, 1) := by decide +kernel
theorem d_M_who_0 : decode m_M_who.2.1 0 = .ok (.iload_n 1, 1) := by decide +kernel
theorem d_M_who_1 : decode m_M_who.2.1 1 = .ok (.iconst 0, 1) := by decide +kernel
theorem d_M_who_2 : decode m_M_who.2.1 2 = .ok (.bipush 7, 2) := by decide +kernel
theorem d_M_who_4 : decode m_M_who.2.1 4 = .ok (.invokestatic 52, 3) := by decide +kernel
theorem d_M_who_7 : decode m_M_who.2.1 7 = .ok (.ifCond .ne 5, 3) := by decide +kernel
theorem d_M_who_10 : decode m_M_who.2.1 10 = .ok (.iconst (-1), 1) := by decide +kernel
theorem d_M_who_11 : decode m_M_who.2.1 11 = .ok (.ireturn, 1) := by decide +kernel
theorem d_M_who_12 : decode m_M_who.2.1 12 = .ok (.iconst 0, 1) := by decide +kernel
theorem d_M_who_13 : decode m_M_who.2.1 13 = .ok (.istore_n 2, 1) := by decide +kernel
theorem d_M_who_14 : decode m_M_who.2.1 14 = .ok (.iconst 0, 1) := by decide +kernel
theorem d_M_who_15 : decode m_M_who.2.1 15 = .ok (.istore_n 3, 1) := by decide +kernel
theorem d_M_who_16 : decode m_M_who.2.1 16 = .ok (.iload_n 3, 1) := by decide +kernel
theorem d_M_who_17 : decode m_M_who.2.1 17 = .ok (.bipush 12, 2) := by decide +kernel
theorem d_M_who_19 : decode m_M_who.2.1 19 = .ok (.if_icmp .ge 32, 3) := by decide +kernel
theorem d_M_who_22 : decode m_M_who.2.1 22 = .ok (.iload_n 2, 1) := by decide +kernel
theorem d_M_who_23 : decode m_M_who.2.1 23 = .ok (.aload_n 0, 1) := by decide +kernel
theorem d_M_who_24 : decode m_M_who.2.1 24 = .ok (.getfield 7, 3) := by decide +kernel
theorem d_M_who_27 : decode m_M_who.2.1 27 = .ok (.iload_n 3, 1) := by decide +kernel
theorem d_M_who_28 : decode m_M_who.2.1 28 = .ok (.iaload, 1) := by decide +kernel
theorem d_M_who_29 : decode m_M_who.2.1 29 = .ok (.iload_n 1, 1) := by decide +kernel
theorem d_M_who_30 : decode m_M_who.2.1 30 = .ok (.invokestatic 77, 3) := by decide +kernel
theorem d_M_who_33 : decode m_M_who.2.1 33 = .ok (.ifCond .eq 9, 3) := by decide +kernel
theorem d_M_who_36 : decode m_M_who.2.1 36 = .ok (.iconst 1, 1) := by decide +kernel
theorem d_M_who_37 : decode m_M_who.2.1 37 = .ok (.iload_n 3, 1) := by decide +kernel
theorem d_M_who_38 : decode m_M_who.2.1 38 = .ok (.ishl, 1) := by decide +kernel
theorem d_M_who_39 : decode m_M_who.2.1 39 = .ok (.goto 4, 3) := by decide +kernel
theorem d_M_who_42 : decode m_M_who.2.1 42 = .ok (.iconst 0, 1) := by decide +kernel
theorem d_M_who_43 : decode m_M_who.2.1 43 = .ok (.ior, 1) := by decide +kernel
theorem d_M_who_44 : decode m_M_who.2.1 44 = .ok (.istore_n 2, 1) := by decide +kernel
theorem d_M_who_45 : decode m_M_who.2.1 45 = .ok (.iinc 3 1, 3) := by decide +kernel
theorem d_M_who_48 : decode m_M_who.2.1 48 = .ok (.goto (-32), 3) := by decide +kernel
theorem d_M_who_51 : decode m_M_who.2.1 51 = .ok (.iload_n 2, 1) := by decide +kernel
theorem d_M_who_52 : decode m_M_who.2.1 52 = .ok (.ireturn, 1) := by decide +kernel
theorem d_M_loud_0 : decode m_M_loud.2.1 0 = .ok (.iload_n 1, 1) := by decide +kernel
theorem d_M_loud_1 : decode m_M_loud.2.1 1 = .ok (.invokestatic 56, 3) := by decide +kernel
theorem d_M_loud_4 : decode m_M_loud.2.1 4 = .ok (.ifCond .eq 19, 3) := by decide +kernel
theorem d_M_loud_7 : decode m_M_loud.2.1 7 = .ok (.iload_n 2, 1) := by decide +kernel
theorem d_M_loud_8 : decode m_M_loud.2.1 8 = .ok (.invokestatic 56, 3) := by decide +kernel
theorem d_M_loud_11 : decode m_M_loud.2.1 11 = .ok (.ifCond .eq 12, 3) := by decide +kernel
theorem d_M_loud_14 : decode m_M_loud.2.1 14 = .ok (.aload_n 0, 1) := by decide +kernel
theorem d_M_loud_15 : decode m_M_loud.2.1 15 = .ok (.iload_n 1, 1) := by decide +kernel
theorem d_M_loud_16 : decode m_M_loud.2.1 16 = .ok (.iload_n 2, 1) := by decide +kernel
theorem d_M_loud_17 : decode m_M_loud.2.1 17 = .ok (.invokevirtual 73, 3) := by decide +kernel
theorem d_M_loud_20 : decode m_M_loud.2.1 20 = .ok (.goto 4, 3) := by decide +kernel
theorem d_M_loud_23 : decode m_M_loud.2.1 23 = .ok (.iconst (-1), 1) := by decide +kernel
theorem d_M_loud_24 : decode m_M_loud.2.1 24 = .ok (.ireturn, 1) := by decide +kernel
theorem d_M_hears_0 : decode m_M_hears.2.1 0 = .ok (.iload_n 1, 1) := by decide +kernel
theorem d_M_hears_1 : decode m_M_hears.2.1 1 = .ok (.invokestatic 56, 3) := by decide +kernel
theorem d_M_hears_4 : decode m_M_hears.2.1 4 = .ok (.ifCond .eq 18, 3) := by decide +kernel
theorem d_M_hears_7 : decode m_M_hears.2.1 7 = .ok (.aload_n 0, 1) := by decide +kernel
theorem d_M_hears_8 : decode m_M_hears.2.1 8 = .ok (.iload_n 1, 1) := by decide +kernel
theorem d_M_hears_9 : decode m_M_hears.2.1 9 = .ok (.aload_n 0, 1) := by decide +kernel
theorem d_M_hears_10 : decode m_M_hears.2.1 10 = .ok (.getfield 7, 3) := by decide +kernel
theorem d_M_hears_13 : decode m_M_hears.2.1 13 = .ok (.bipush 14, 2) := by decide +kernel
theorem d_M_hears_15 : decode m_M_hears.2.1 15 = .ok (.iaload, 1) := by decide +kernel
theorem d_M_hears_16 : decode m_M_hears.2.1 16 = .ok (.invokevirtual 116, 3) := by decide +kernel
theorem d_M_hears_19 : decode m_M_hears.2.1 19 = .ok (.goto 4, 3) := by decide +kernel
theorem d_M_hears_22 : decode m_M_hears.2.1 22 = .ok (.iconst (-1), 1) := by decide +kernel
theorem d_M_hears_23 : decode m_M_hears.2.1 23 = .ok (.ireturn, 1) := by decide +kernel
theorem d_M_best_0 : decode m_M_best.2.1 0 = .ok (.iload_n 1, 1) := by decide +kernel
theorem d_M_best_1 : decode m_M_best.2.1 1 = .ok (.iconst 0, 1) := by decide +kernel
theorem d_M_best_2 : decode m_M_best.2.1 2 = .ok (.iconst 5, 1) := by decide +kernel
theorem d_M_best_3 : decode m_M_best.2.1 3 = .ok (.invokestatic 52, 3) := by decide +kernel
theorem d_M_best_6 : decode m_M_best.2.1 6 = .ok (.ifCond .ne 5, 3) := by decide +kernel
theorem d_M_best_9 : decode m_M_best.2.1 9 = .ok (.iconst (-1), 1) := by decide +kernel
theorem d_M_best_10 : decode m_M_best.2.1 10 = .ok (.ireturn, 1) := by decide +kernel
theorem d_M_best_11 : decode m_M_best.2.1 11 = .ok (.iload_n 2, 1) := by decide +kernel
theorem d_M_best_12 : decode m_M_best.2.1 12 = .ok (.iconst 0, 1) := by decide +kernel
theorem d_M_best_13 : decode m_M_best.2.1 13 = .ok (.iconst 1, 1) := by decide +kernel
theorem d_M_best_14 : decode m_M_best.2.1 14 = .ok (.invokestatic 52, 3) := by decide +kernel
theorem d_M_best_17 : decode m_M_best.2.1 17 = .ok (.ifCond .ne 6, 3) := by decide +kernel
theorem d_M_best_20 : decode m_M_best.2.1 20 = .ok (.bipush (-2), 2) := by decide +kernel
theorem d_M_best_22 : decode m_M_best.2.1 22 = .ok (.ireturn, 1) := by decide +kernel
theorem d_M_best_23 : decode m_M_best.2.1 23 = .ok (.bipush (-6), 2) := by decide +kernel
theorem d_M_best_25 : decode m_M_best.2.1 25 = .ok (.istore_n 3, 1) := by decide +kernel
theorem d_M_best_26 : decode m_M_best.2.1 26 = .ok (.ldc 119, 2) := by decide +kernel
theorem d_M_best_28 : decode m_M_best.2.1 28 = .ok (.istore 4, 2) := by decide +kernel
theorem d_M_best_30 : decode m_M_best.2.1 30 = .ok (.iconst 0, 1) := by decide +kernel
theorem d_M_best_31 : decode m_M_best.2.1 31 = .ok (.istore 5, 2) := by decide +kernel
theorem d_M_best_33 : decode m_M_best.2.1 33 = .ok (.iload 5, 2) := by decide +kernel
theorem d_M_best_35 : decode m_M_best.2.1 35 = .ok (.bipush 12, 2) := by decide +kernel
theorem d_M_best_37 : decode m_M_best.2.1 37 = .ok (.if_icmp .ge 89, 3) := by decide +kernel
theorem d_M_best_40 : decode m_M_best.2.1 40 = .ok (.aload_n 0, 1) := by decide +kernel
theorem d_M_best_41 : decode m_M_best.2.1 41 = .ok (.iload 5, 2) := by decide +kernel
theorem d_M_best_43 : decode m_M_best.2.1 43 = .ok (.aload_n 0, 1) := by decide +kernel
theorem d_M_best_44 : decode m_M_best.2.1 44 = .ok (.getfield 7, 3) := by decide +kernel
theorem d_M_best_47 : decode m_M_best.2.1 47 = .ok (.bipush 14, 2) := by decide +kernel
theorem d_M_best_49 : decode m_M_best.2.1 49 = .ok (.iaload, 1) := by decide +kernel
theorem d_M_best_50 : decode m_M_best.2.1 50 = .ok (.invokevirtual 116, 3) := by decide +kernel
theorem d_M_best_53 : decode m_M_best.2.1 53 = .ok (.istore 6, 2) := by decide +kernel
theorem d_M_best_55 : decode m_M_best.2.1 55 = .ok (.iload 6, 2) := by decide +kernel
theorem d_M_best_57 : decode m_M_best.2.1 57 = .ok (.invokestatic 120, 3) := by decide +kernel
theorem d_M_best_60 : decode m_M_best.2.1 60 = .ok (.iconst 1, 1) := by decide +kernel
theorem d_M_best_61 : decode m_M_best.2.1 61 = .ok (.isub, 1) := by decide +kernel
theorem d_M_best_62 : decode m_M_best.2.1 62 = .ok (.istore 7, 2) := by decide +kernel
theorem d_M_best_64 : decode m_M_best.2.1 64 = .ok (.iload 6, 2) := by decide +kernel
theorem d_M_best_66 : decode m_M_best.2.1 66 = .ok (.aload_n 0, 1) := by decide +kernel
theorem d_M_best_67 : decode m_M_best.2.1 67 = .ok (.getfield 23, 3) := by decide +kernel
theorem d_M_best_70 : decode m_M_best.2.1 70 = .ok (.iconst 4, 1) := by decide +kernel
theorem d_M_best_71 : decode m_M_best.2.1 71 = .ok (.iload_n 1, 1) := by decide +kernel
theorem d_M_best_72 : decode m_M_best.2.1 72 = .ok (.imul, 1) := by decide +kernel
theorem d_M_best_73 : decode m_M_best.2.1 73 = .ok (.iaload, 1) := by decide +kernel
theorem d_M_best_74 : decode m_M_best.2.1 74 = .ok (.invokestatic 77, 3) := by decide +kernel
theorem d_M_best_77 : decode m_M_best.2.1 77 = .ok (.ifCond .eq 14, 3) := by decide +kernel
theorem d_M_best_80 : decode m_M_best.2.1 80 = .ok (.iload 7, 2) := by decide +kernel
theorem d_M_best_82 : decode m_M_best.2.1 82 = .ok (.iload 4, 2) := by decide +kernel
theorem d_M_best_84 : decode m_M_best.2.1 84 = .ok (.if_icmp .ge 7, 3) := by decide +kernel
theorem d_M_best_87 : decode m_M_best.2.1 87 = .ok (.iconst 1, 1) := by decide +kernel
theorem d_M_best_88 : decode m_M_best.2.1 88 = .ok (.goto 4, 3) := by decide +kernel
theorem d_M_best_91 : decode m_M_best.2.1 91 = .ok (.iconst 0, 1) := by decide +kernel
theorem d_M_best_92 : decode m_M_best.2.1 92 = .ok (.istore 8, 2) := by decide +kernel
theorem d_M_best_94 : decode m_M_best.2.1 94 = .ok (.iload 8, 2) := by decide +kernel
theorem d_M_best_96 : decode m_M_best.2.1 96 = .ok (.ifCond .eq 8, 3) := by decide +kernel
theorem d_M_best_99 : decode m_M_best.2.1 99 = .ok (.iload 5, 2) := by decide +kernel
theorem d_M_best_101 : decode m_M_best.2.1 101 = .ok (.goto 4, 3) := by decide +kernel
theorem d_M_best_104 : decode m_M_best.2.1 104 = .ok (.iload_n 3, 1) := by decide +kernel
theorem d_M_best_105 : decode m_M_best.2.1 105 = .ok (.istore_n 3, 1) := by decide +kernel
theorem d_M_best_106 : decode m_M_best.2.1 106 = .ok (.iload 8, 2) := by decide +kernel
theorem d_M_best_108 : decode m_M_best.2.1 108 = .ok (.ifCond .eq 8, 3) := by decide +kernel
theorem d_M_best_111 : decode m_M_best.2.1 111 = .ok (.iload 7, 2) := by decide +kernel
theorem d_M_best_113 : decode m_M_best.2.1 113 = .ok (.goto 5, 3) := by decide +kernel
theorem d_M_best_116 : decode m_M_best.2.1 116 = .ok (.iload 4, 2) := by decide +kernel
theorem d_M_best_118 : decode m_M_best.2.1 118 = .ok (.istore 4, 2) := by decide +kernel
theorem d_M_best_120 : decode m_M_best.2.1 120 = .ok (.iinc 5 1, 3) := by decide +kernel
theorem d_M_best_123 : decode m_M_best.2.1 123 = .ok (.goto (-90), 3) := by decide +kernel
theorem d_M_best_126 : decode m_M_best.2.1 126 = .ok (.iload_n 3, 1) := by decide +kernel
theorem d_M_best_127 : decode m_M_best.2.1 127 = .ok (.ifCond .lt 8, 3) := by decide +kernel
theorem d_M_best_130 : decode m_M_best.2.1 130 = .ok (.iload_n 2, 1) := by decide +kernel
theorem d_M_best_131 : decode m_M_best.2.1 131 = .ok (.iconst 1, 1) := by decide +kernel
theorem d_M_best_132 : decode m_M_best.2.1 132 = .ok (.if_icmp .ne 7, 3) := by decide +kernel
theorem d_M_best_135 : decode m_M_best.2.1 135 = .ok (.iload_n 3, 1) := by decide +kernel
theorem d_M_best_136 : decode m_M_best.2.1 136 = .ok (.goto 5, 3) := by decide +kernel
theorem d_M_best_139 : decode m_M_best.2.1 139 = .ok (.iload 4, 2) := by decide +kernel
theorem d_M_best_141 : decode m_M_best.2.1 141 = .ok (.ireturn, 1) := by decide +kernel
theorem d_M_laySets_0 : decode m_M_laySets.2.1 0 = .ok (.iconst 0, 1) := by decide +kernel
theorem d_M_laySets_1 : decode m_M_laySets.2.1 1 = .ok (.istore_n 1, 1) := by decide +kernel
theorem d_M_laySets_2 : decode m_M_laySets.2.1 2 = .ok (.iload_n 1, 1) := by decide +kernel
theorem d_M_laySets_3 : decode m_M_laySets.2.1 3 = .ok (.bipush 12, 2) := by decide +kernel
theorem d_M_laySets_5 : decode m_M_laySets.2.1 5 = .ok (.if_icmp .ge 27, 3) := by decide +kernel
theorem d_M_laySets_8 : decode m_M_laySets.2.1 8 = .ok (.aload_n 0, 1) := by decide +kernel
theorem d_M_laySets_9 : decode m_M_laySets.2.1 9 = .ok (.getfield 35, 3) := by decide +kernel
theorem d_M_laySets_12 : decode m_M_laySets.2.1 12 = .ok (.iload_n 1, 1) := by decide +kernel
theorem d_M_laySets_13 : decode m_M_laySets.2.1 13 = .ok (.aload_n 0, 1) := by decide +kernel
theorem d_M_laySets_14 : decode m_M_laySets.2.1 14 = .ok (.iload_n 1, 1) := by decide +kernel
theorem d_M_laySets_15 : decode m_M_laySets.2.1 15 = .ok (.aload_n 0, 1) := by decide +kernel
theorem d_M_laySets_16 : decode m_M_laySets.2.1 16 = .ok (.getfield 7, 3) := by decide +kernel
theorem d_M_laySets_19 : decode m_M_laySets.2.1 19 = .ok (.bipush 14, 2) := by decide +kernel
theorem d_M_laySets_21 : decode m_M_laySets.2.1 21 = .ok (.iaload, 1) := by decide +kernel
theorem d_M_laySets_22 : decode m_M_laySets.2.1 22 = .ok (.invokevirtual 116, 3) := by decide +kernel
theorem d_M_laySets_25 : decode m_M_laySets.2.1 25 = .ok (.iastore, 1) := by decide +kernel
theorem d_M_laySets_26 : decode m_M_laySets.2.1 26 = .ok (.iinc 1 1, 3) := by decide +kernel
theorem d_M_laySets_29 : decode m_M_laySets.2.1 29 = .ok (.goto (-27), 3) := by decide +kernel
theorem d_M_laySets_32 : decode m_M_laySets.2.1 32 = .ok (.return_, 1) := by decide +kernel
theorem d_M_thirds_0 : decode m_M_thirds.2.1 0 = .ok (.iload_n 1, 1) := by decide +kernel
theorem d_M_thirds_1 : decode m_M_thirds.2.1 1 = .ok (.invokestatic 56, 3) := by decide +kernel
theorem d_M_thirds_4 : decode m_M_thirds.2.1 4 = .ok (.ifCond .ne 5, 3) := by decide +kernel
theorem d_M_thirds_7 : decode m_M_thirds.2.1 7 = .ok (.iconst (-1), 1) := by decide +kernel
theorem d_M_thirds_8 : decode m_M_thirds.2.1 8 = .ok (.ireturn, 1) := by decide +kernel
theorem d_M_thirds_9 : decode m_M_thirds.2.1 9 = .ok (.iload_n 2, 1) := by decide +kernel
theorem d_M_thirds_10 : decode m_M_thirds.2.1 10 = .ok (.iconst 0, 1) := by decide +kernel
theorem d_M_thirds_11 : decode m_M_thirds.2.1 11 = .ok (.iconst 1, 1) := by decide +kernel
theorem d_M_thirds_12 : decode m_M_thirds.2.1 12 = .ok (.invokestatic 52, 3) := by decide +kernel
theorem d_M_thirds_15 : decode m_M_thirds.2.1 15 = .ok (.ifCond .ne 6, 3) := by decide +kernel
theorem d_M_thirds_18 : decode m_M_thirds.2.1 18 = .ok (.bipush (-2), 2) := by decide +kernel
theorem d_M_thirds_20 : decode m_M_thirds.2.1 20 = .ok (.ireturn, 1) := by decide +kernel
theorem d_M_thirds_21 : decode m_M_thirds.2.1 21 = .ok (.aload_n 0, 1) := by decide +kernel
theorem d_M_thirds_22 : decode m_M_thirds.2.1 22 = .ok (.invokevirtual 123, 3) := by decide +kernel
theorem d_M_thirds_25 : decode m_M_thirds.2.1 25 = .ok (.iconst 0, 1) := by decide +kernel
theorem d_M_thirds_26 : decode m_M_thirds.2.1 26 = .ok (.istore_n 3, 1) := by decide +kernel
theorem d_M_thirds_27 : decode m_M_thirds.2.1 27 = .ok (.bipush (-6), 2) := by decide +kernel
theorem d_M_thirds_29 : decode m_M_thirds.2.1 29 = .ok (.istore 4, 2) := by decide +kernel
theorem d_M_thirds_31 : decode m_M_thirds.2.1 31 = .ok (.iconst 0, 1) := by decide +kernel
theorem d_M_thirds_32 : decode m_M_thirds.2.1 32 = .ok (.istore 5, 2) := by decide +kernel
theorem d_M_thirds_34 : decode m_M_thirds.2.1 34 = .ok (.iload 5, 2) := by decide +kernel
theorem d_M_thirds_36 : decode m_M_thirds.2.1 36 = .ok (.bipush 12, 2) := by decide +kernel
theorem d_M_thirds_38 : decode m_M_thirds.2.1 38 = .ok (.if_icmp .ge 101, 3) := by decide +kernel
theorem d_M_thirds_41 : decode m_M_thirds.2.1 41 = .ok (.iload 5, 2) := by decide +kernel
theorem d_M_thirds_43 : decode m_M_thirds.2.1 43 = .ok (.istore 6, 2) := by decide +kernel
theorem d_M_thirds_45 : decode m_M_thirds.2.1 45 = .ok (.iload 6, 2) := by decide +kernel
theorem d_M_thirds_47 : decode m_M_thirds.2.1 47 = .ok (.bipush 12, 2) := by decide +kernel
theorem d_M_thirds_49 : decode m_M_thirds.2.1 49 = .ok (.if_icmp .ge 84, 3) := by decide +kernel
theorem d_M_thirds_52 : decode m_M_thirds.2.1 52 = .ok (.iload 6, 2) := by decide +kernel
theorem d_M_thirds_54 : decode m_M_thirds.2.1 54 = .ok (.istore 7, 2) := by decide +kernel
theorem d_M_thirds_56 : decode m_M_thirds.2.1 56 = .ok (.iload 7, 2) := by decide +kernel
theorem d_M_thirds_58 : decode m_M_thirds.2.1 58 = .ok (.bipush 12, 2) := by decide +kernel
theorem d_M_thirds_60 : decode m_M_thirds.2.1 60 = .ok (.if_icmp .ge 67, 3) := by decide +kernel
theorem d_M_thirds_63 : decode m_M_thirds.2.1 63 = .ok (.aload_n 0, 1) := by decide +kernel
theorem d_M_thirds_64 : decode m_M_thirds.2.1 64 = .ok (.getfield 35, 3) := by decide +kernel
theorem d_M_thirds_67 : decode m_M_thirds.2.1 67 = .ok (.iload 5, 2) := by decide +kernel
theorem d_M_thirds_69 : decode m_M_thirds.2.1 69 = .ok (.iaload, 1) := by decide +kernel
theorem d_M_thirds_70 : decode m_M_thirds.2.1 70 = .ok (.aload_n 0, 1) := by decide +kernel
theorem d_M_thirds_71 : decode m_M_thirds.2.1 71 = .ok (.getfield 35, 3) := by decide +kernel
theorem d_M_thirds_74 : decode m_M_thirds.2.1 74 = .ok (.iload 6, 2) := by decide +kernel
theorem d_M_thirds_76 : decode m_M_thirds.2.1 76 = .ok (.iaload, 1) := by decide +kernel
theorem d_M_thirds_77 : decode m_M_thirds.2.1 77 = .ok (.iand, 1) := by decide +kernel
theorem d_M_thirds_78 : decode m_M_thirds.2.1 78 = .ok (.aload_n 0, 1) := by decide +kernel
theorem d_M_thirds_79 : decode m_M_thirds.2.1 79 = .ok (.getfield 35, 3) := by decide +kernel
theorem d_M_thirds_82 : decode m_M_thirds.2.1 82 = .ok (.iload 7, 2) := by decide +kernel
theorem d_M_thirds_84 : decode m_M_thirds.2.1 84 = .ok (.iaload, 1) := by decide +kernel
theorem d_M_thirds_85 : decode m_M_thirds.2.1 85 = .ok (.iand, 1) := by decide +kernel
theorem d_M_thirds_86 : decode m_M_thirds.2.1 86 = .ok (.iconst 1, 1) := by decide +kernel
theorem d_M_thirds_87 : decode m_M_thirds.2.1 87 = .ok (.iload_n 1, 1) := by decide +kernel
theorem d_M_thirds_88 : decode m_M_thirds.2.1 88 = .ok (.ishl, 1) := by decide +kernel
theorem d_M_thirds_89 : decode m_M_thirds.2.1 89 = .ok (.if_icmp .ne 32, 3) := by decide +kernel
theorem d_M_thirds_92 : decode m_M_thirds.2.1 92 = .ok (.iload_n 3, 1) := by decide +kernel
theorem d_M_thirds_93 : decode m_M_thirds.2.1 93 = .ok (.ifCond .ne 21, 3) := by decide +kernel
theorem d_M_thirds_96 : decode m_M_thirds.2.1 96 = .ok (.sipush 10000, 3) := by decide +kernel
theorem d_M_thirds_99 : decode m_M_thirds.2.1 99 = .ok (.iload 5, 2) := by decide +kernel
theorem d_M_thirds_101 : decode m_M_thirds.2.1 101 = .ok (.imul, 1) := by decide +kernel
theorem d_M_thirds_102 : decode m_M_thirds.2.1 102 = .ok (.bipush 100, 2) := by decide +kernel
theorem d_M_thirds_104 : decode m_M_thirds.2.1 104 = .ok (.iload 6, 2) := by decide +kernel
theorem d_M_thirds_106 : decode m_M_thirds.2.1 106 = .ok (.imul, 1) := by decide +kernel
theorem d_M_thirds_107 : decode m_M_thirds.2.1 107 = .ok (.iadd, 1) := by decide +kernel
theorem d_M_thirds_108 : decode m_M_thirds.2.1 108 = .ok (.iload 7, 2) := by decide +kernel
theorem d_M_thirds_110 : decode m_M_thirds.2.1 110 = .ok (.iadd, 1) := by decide +kernel
theorem d_M_thirds_111 : decode m_M_thirds.2.1 111 = .ok (.goto 5, 3) := by decide +kernel
theorem d_M_thirds_114 : decode m_M_thirds.2.1 114 = .ok (.iload 4, 2) := by decide +kernel
theorem d_M_thirds_116 : decode m_M_thirds.2.1 116 = .ok (.istore 4, 2) := by decide +kernel
theorem d_M_thirds_118 : decode m_M_thirds.2.1 118 = .ok (.iinc 3 1, 3) := by decide +kernel
theorem d_M_thirds_121 : decode m_M_thirds.2.1 121 = .ok (.iinc 7 1, 3) := by decide +kernel
theorem d_M_thirds_124 : decode m_M_thirds.2.1 124 = .ok (.goto (-68), 3) := by decide +kernel
theorem d_M_thirds_127 : decode m_M_thirds.2.1 127 = .ok (.iinc 6 1, 3) := by decide +kernel
theorem d_M_thirds_130 : decode m_M_thirds.2.1 130 = .ok (.goto (-85), 3) := by decide +kernel
theorem d_M_thirds_133 : decode m_M_thirds.2.1 133 = .ok (.iinc 5 1, 3) := by decide +kernel
theorem d_M_thirds_136 : decode m_M_thirds.2.1 136 = .ok (.goto (-102), 3) := by decide +kernel
theorem d_M_thirds_139 : decode m_M_thirds.2.1 139 = .ok (.iload_n 2, 1) := by decide +kernel
theorem d_M_thirds_140 : decode m_M_thirds.2.1 140 = .ok (.ifCond .ne 7, 3) := by decide +kernel
theorem d_M_thirds_143 : decode m_M_thirds.2.1 143 = .ok (.iload_n 3, 1) := by decide +kernel
theorem d_M_thirds_144 : decode m_M_thirds.2.1 144 = .ok (.goto 5, 3) := by decide +kernel
theorem d_M_thirds_147 : decode m_M_thirds.2.1 147 = .ok (.iload 4, 2) := by decide +kernel
theorem d_M_thirds_149 : decode m_M_thirds.2.1 149 = .ok (.ireturn, 1) := by decide +kernel
theorem d_M_round_0 : decode m_M_round.2.1 0 = .ok (.iload_n 1, 1) := by decide +kernel
theorem d_M_round_1 : decode m_M_round.2.1 1 = .ok (.iconst 0, 1) := by decide +kernel
theorem d_M_round_2 : decode m_M_round.2.1 2 = .ok (.bipush 63, 2) := by decide +kernel
theorem d_M_round_4 : decode m_M_round.2.1 4 = .ok (.invokestatic 52, 3) := by decide +kernel
theorem d_M_round_7 : decode m_M_round.2.1 7 = .ok (.ifCond .ne 5, 3) := by decide +kernel
theorem d_M_round_10 : decode m_M_round.2.1 10 = .ok (.iconst (-1), 1) := by decide +kernel
theorem d_M_round_11 : decode m_M_round.2.1 11 = .ok (.ireturn, 1) := by decide +kernel
theorem d_M_round_12 : decode m_M_round.2.1 12 = .ok (.iload_n 2, 1) := by decide +kernel
theorem d_M_round_13 : decode m_M_round.2.1 13 = .ok (.iconst 0, 1) := by decide +kernel
theorem d_M_round_14 : decode m_M_round.2.1 14 = .ok (.iconst 1, 1) := by decide +kernel
theorem d_M_round_15 : decode m_M_round.2.1 15 = .ok (.invokestatic 52, 3) := by decide +kernel
theorem d_M_round_18 : decode m_M_round.2.1 18 = .ok (.ifCond .ne 6, 3) := by decide +kernel
theorem d_M_round_21 : decode m_M_round.2.1 21 = .ok (.bipush (-2), 2) := by decide +kernel
theorem d_M_round_23 : decode m_M_round.2.1 23 = .ok (.ireturn, 1) := by decide +kernel
theorem d_M_round_24 : decode m_M_round.2.1 24 = .ok (.aload_n 0, 1) := by decide +kernel
theorem d_M_round_25 : decode m_M_round.2.1 25 = .ok (.invokevirtual 123, 3) := by decide +kernel
theorem d_M_round_28 : decode m_M_round.2.1 28 = .ok (.aload_n 0, 1) := by decide +kernel
theorem d_M_round_29 : decode m_M_round.2.1 29 = .ok (.getfield 7, 3) := by decide +kernel
theorem d_M_round_32 : decode m_M_round.2.1 32 = .ok (.bipush 12, 2) := by decide +kernel
theorem d_M_round_34 : decode m_M_round.2.1 34 = .ok (.iaload, 1) := by decide +kernel
theorem d_M_round_35 : decode m_M_round.2.1 35 = .ok (.istore_n 3, 1) := by decide +kernel
theorem d_M_round_36 : decode m_M_round.2.1 36 = .ok (.ldc 119, 2) := by decide +kernel
theorem d_M_round_38 : decode m_M_round.2.1 38 = .ok (.istore 4, 2) := by decide +kernel
theorem d_M_round_40 : decode m_M_round.2.1 40 = .ok (.bipush (-6), 2) := by decide +kernel
theorem d_M_round_42 : decode m_M_round.2.1 42 = .ok (.istore 5, 2) := by decide +kernel
theorem d_M_round_44 : decode m_M_round.2.1 44 = .ok (.iconst 0, 1) := by decide +kernel
theorem d_M_round_45 : decode m_M_round.2.1 45 = .ok (.istore 6, 2) := by decide +kernel
theorem d_M_round_47 : decode m_M_round.2.1 47 = .ok (.iload 6, 2) := by decide +kernel
theorem d_M_round_49 : decode m_M_round.2.1 49 = .ok (.iload_n 3, 1) := by decide +kernel
theorem d_M_round_50 : decode m_M_round.2.1 50 = .ok (.if_icmp .gt 209, 3) := by decide +kernel
theorem d_M_round_53 : decode m_M_round.2.1 53 = .ok (.iload_n 3, 1) := by decide +kernel
theorem d_M_round_54 : decode m_M_round.2.1 54 = .ok (.istore 7, 2) := by decide +kernel
theorem d_M_round_56 : decode m_M_round.2.1 56 = .ok (.iload 7, 2) := by decide +kernel
theorem d_M_round_58 : decode m_M_round.2.1 58 = .ok (.bipush 12, 2) := by decide +kernel
theorem d_M_round_60 : decode m_M_round.2.1 60 = .ok (.if_icmp .ge 193, 3) := by decide +kernel
theorem d_M_round_63 : decode m_M_round.2.1 63 = .ok (.iconst 1, 1) := by decide +kernel
theorem d_M_round_64 : decode m_M_round.2.1 64 = .ok (.istore 8, 2) := by decide +kernel
theorem d_M_round_66 : decode m_M_round.2.1 66 = .ok (.iconst 0, 1) := by decide +kernel
theorem d_M_round_67 : decode m_M_round.2.1 67 = .ok (.istore 9, 2) := by decide +kernel
theorem d_M_round_69 : decode m_M_round.2.1 69 = .ok (.iload 9, 2) := by decide +kernel
theorem d_M_round_71 : decode m_M_round.2.1 71 = .ok (.bipush 6, 2) := by decide +kernel
theorem d_M_round_73 : decode m_M_round.2.1 73 = .ok (.if_icmp .ge 93, 3) := by decide +kernel
theorem d_M_round_76 : decode m_M_round.2.1 76 = .ok (.iload_n 1, 1) := by decide +kernel
theorem d_M_round_77 : decode m_M_round.2.1 77 = .ok (.iload 9, 2) := by decide +kernel
theorem d_M_round_79 : decode m_M_round.2.1 79 = .ok (.invokestatic 77, 3) := by decide +kernel
theorem d_M_round_82 : decode m_M_round.2.1 82 = .ok (.ifCond .ne 7, 3) := by decide +kernel
theorem d_M_round_85 : decode m_M_round.2.1 85 = .ok (.iconst 1, 1) := by decide +kernel
theorem d_M_round_86 : decode m_M_round.2.1 86 = .ok (.goto 4, 3) := by decide +kernel
theorem d_M_round_89 : decode m_M_round.2.1 89 = .ok (.iconst 0, 1) := by decide +kernel
theorem d_M_round_90 : decode m_M_round.2.1 90 = .ok (.istore 10, 2) := by decide +kernel
theorem d_M_round_92 : decode m_M_round.2.1 92 = .ok (.iload 6, 2) := by decide +kernel
theorem d_M_round_94 : decode m_M_round.2.1 94 = .ok (.istore 11, 2) := by decide +kernel
theorem d_M_round_96 : decode m_M_round.2.1 96 = .ok (.iload 11, 2) := by decide +kernel
theorem d_M_round_98 : decode m_M_round.2.1 98 = .ok (.iload 7, 2) := by decide +kernel
theorem d_M_round_100 : decode m_M_round.2.1 100 = .ok (.if_icmp .gt 43, 3) := by decide +kernel
theorem d_M_round_103 : decode m_M_round.2.1 103 = .ok (.iload 10, 2) := by decide +kernel
theorem d_M_round_105 : decode m_M_round.2.1 105 = .ok (.ifCond .ne 25, 3) := by decide +kernel
theorem d_M_round_108 : decode m_M_round.2.1 108 = .ok (.aload_n 0, 1) := by decide +kernel
theorem d_M_round_109 : decode m_M_round.2.1 109 = .ok (.getfield 35, 3) := by decide +kernel
theorem d_M_round_112 : decode m_M_round.2.1 112 = .ok (.iload 11, 2) := by decide +kernel
theorem d_M_round_114 : decode m_M_round.2.1 114 = .ok (.iaload, 1) := by decide +kernel
theorem d_M_round_115 : decode m_M_round.2.1 115 = .ok (.aload_n 0, 1) := by decide +kernel
theorem d_M_round_116 : decode m_M_round.2.1 116 = .ok (.getfield 23, 3) := by decide +kernel
theorem d_M_round_119 : decode m_M_round.2.1 119 = .ok (.iconst 4, 1) := by decide +kernel
theorem d_M_round_120 : decode m_M_round.2.1 120 = .ok (.iload 9, 2) := by decide +kernel
theorem d_M_round_122 : decode m_M_round.2.1 122 = .ok (.imul, 1) := by decide +kernel
theorem d_M_round_123 : decode m_M_round.2.1 123 = .ok (.iaload, 1) := by decide +kernel
theorem d_M_round_124 : decode m_M_round.2.1 124 = .ok (.invokestatic 77, 3) := by decide +kernel
theorem d_M_round_127 : decode m_M_round.2.1 127 = .ok (.ifCond .eq 7, 3) := by decide +kernel
theorem d_M_round_130 : decode m_M_round.2.1 130 = .ok (.iconst 1, 1) := by decide +kernel
theorem d_M_round_131 : decode m_M_round.2.1 131 = .ok (.goto 4, 3) := by decide +kernel
theorem d_M_round_134 : decode m_M_round.2.1 134 = .ok (.iconst 0, 1) := by decide +kernel
theorem d_M_round_135 : decode m_M_round.2.1 135 = .ok (.istore 10, 2) := by decide +kernel
theorem d_M_round_137 : decode m_M_round.2.1 137 = .ok (.iinc 11 1, 3) := by decide +kernel
theorem d_M_round_140 : decode m_M_round.2.1 140 = .ok (.goto (-44), 3) := by decide +kernel
theorem d_M_round_143 : decode m_M_round.2.1 143 = .ok (.iload 8, 2) := by decide +kernel
theorem d_M_round_145 : decode m_M_round.2.1 145 = .ok (.ifCond .eq 12, 3) := by decide +kernel
theorem d_M_round_148 : decode m_M_round.2.1 148 = .ok (.iload 10, 2) := by decide +kernel
theorem d_M_round_150 : decode m_M_round.2.1 150 = .ok (.ifCond .eq 7, 3) := by decide +kernel
theorem d_M_round_153 : decode m_M_round.2.1 153 = .ok (.iconst 1, 1) := by decide +kernel
theorem d_M_round_154 : decode m_M_round.2.1 154 = .ok (.goto 4, 3) := by decide +kernel
theorem d_M_round_157 : decode m_M_round.2.1 157 = .ok (.iconst 0, 1) := by decide +kernel
theorem d_M_round_158 : decode m_M_round.2.1 158 = .ok (.istore 8, 2) := by decide +kernel
theorem d_M_round_160 : decode m_M_round.2.1 160 = .ok (.iinc 9 1, 3) := by decide +kernel
theorem d_M_round_163 : decode m_M_round.2.1 163 = .ok (.goto (-94), 3) := by decide +kernel
theorem d_M_round_166 : decode m_M_round.2.1 166 = .ok (.iload_n 3, 1) := by decide +kernel
theorem d_M_round_167 : decode m_M_round.2.1 167 = .ok (.iload 6, 2) := by decide +kernel
theorem d_M_round_169 : decode m_M_round.2.1 169 = .ok (.isub, 1) := by decide +kernel
theorem d_M_round_170 : decode m_M_round.2.1 170 = .ok (.iload 7, 2) := by decide +kernel
theorem d_M_round_172 : decode m_M_round.2.1 172 = .ok (.iload_n 3, 1) := by decide +kernel
theorem d_M_round_173 : decode m_M_round.2.1 173 = .ok (.isub, 1) := by decide +kernel
theorem d_M_round_174 : decode m_M_round.2.1 174 = .ok (.if_icmp .ge 10, 3) := by decide +kernel
theorem d_M_round_177 : decode m_M_round.2.1 177 = .ok (.iload_n 3, 1) := by decide +kernel
theorem d_M_round_178 : decode m_M_round.2.1 178 = .ok (.iload 6, 2) := by decide +kernel
theorem d_M_round_180 : decode m_M_round.2.1 180 = .ok (.isub, 1) := by decide +kernel
theorem d_M_round_181 : decode m_M_round.2.1 181 = .ok (.goto 7, 3) := by decide +kernel
theorem d_M_round_184 : decode m_M_round.2.1 184 = .ok (.iload 7, 2) := by decide +kernel
theorem d_M_round_186 : decode m_M_round.2.1 186 = .ok (.iload_n 3, 1) := by decide +kernel
theorem d_M_round_187 : decode m_M_round.2.1 187 = .ok (.isub, 1) := by decide +kernel
theorem d_M_round_188 : decode m_M_round.2.1 188 = .ok (.istore 9, 2) := by decide +kernel
theorem d_M_round_190 : decode m_M_round.2.1 190 = .ok (.iload 7, 2) := by decide +kernel
theorem d_M_round_192 : decode m_M_round.2.1 192 = .ok (.iload 6, 2) := by decide +kernel
theorem d_M_round_194 : decode m_M_round.2.1 194 = .ok (.isub, 1) := by decide +kernel
theorem d_M_round_195 : decode m_M_round.2.1 195 = .ok (.iload 9, 2) := by decide +kernel
theorem d_M_round_197 : decode m_M_round.2.1 197 = .ok (.iadd, 1) := by decide +kernel
theorem d_M_round_198 : decode m_M_round.2.1 198 = .ok (.istore 10, 2) := by decide +kernel
theorem d_M_round_200 : decode m_M_round.2.1 200 = .ok (.iload 8, 2) := by decide +kernel
theorem d_M_round_202 : decode m_M_round.2.1 202 = .ok (.ifCond .eq 14, 3) := by decide +kernel
theorem d_M_round_205 : decode m_M_round.2.1 205 = .ok (.iload 10, 2) := by decide +kernel
theorem d_M_round_207 : decode m_M_round.2.1 207 = .ok (.iload 4, 2) := by decide +kernel
theorem d_M_round_209 : decode m_M_round.2.1 209 = .ok (.if_icmp .ge 7, 3) := by decide +kernel
theorem d_M_round_212 : decode m_M_round.2.1 212 = .ok (.iconst 1, 1) := by decide +kernel
theorem d_M_round_213 : decode m_M_round.2.1 213 = .ok (.goto 4, 3) := by decide +kernel
theorem d_M_round_216 : decode m_M_round.2.1 216 = .ok (.iconst 0, 1) := by decide +kernel
theorem d_M_round_217 : decode m_M_round.2.1 217 = .ok (.istore 11, 2) := by decide +kernel
theorem d_M_round_219 : decode m_M_round.2.1 219 = .ok (.iload 11, 2) := by decide +kernel
theorem d_M_round_221 : decode m_M_round.2.1 221 = .ok (.ifCond .eq 8, 3) := by decide +kernel
theorem d_M_round_224 : decode m_M_round.2.1 224 = .ok (.iload 6, 2) := by decide +kernel
theorem d_M_round_226 : decode m_M_round.2.1 226 = .ok (.goto 5, 3) := by decide +kernel
theorem d_M_round_229 : decode m_M_round.2.1 229 = .ok (.iload 5, 2) := by decide +kernel
theorem d_M_round_231 : decode m_M_round.2.1 231 = .ok (.istore 5, 2) := by decide +kernel
theorem d_M_round_233 : decode m_M_round.2.1 233 = .ok (.iload 11, 2) := by decide +kernel
theorem d_M_round_235 : decode m_M_round.2.1 235 = .ok (.ifCond .eq 8, 3) := by decide +kernel
theorem d_M_round_238 : decode m_M_round.2.1 238 = .ok (.iload 10, 2) := by decide +kernel
theorem d_M_round_240 : decode m_M_round.2.1 240 = .ok (.goto 5, 3) := by decide +kernel
theorem d_M_round_243 : decode m_M_round.2.1 243 = .ok (.iload 4, 2) := by decide +kernel
theorem d_M_round_245 : decode m_M_round.2.1 245 = .ok (.istore 4, 2) := by decide +kernel
theorem d_M_round_247 : decode m_M_round.2.1 247 = .ok (.iinc 7 1, 3) := by decide +kernel
theorem d_M_round_250 : decode m_M_round.2.1 250 = .ok (.goto (-194), 3) := by decide +kernel
theorem d_M_round_253 : decode m_M_round.2.1 253 = .ok (.iinc 6 1, 3) := by decide +kernel
theorem d_M_round_256 : decode m_M_round.2.1 256 = .ok (.goto (-209), 3) := by decide +kernel
theorem d_M_round_259 : decode m_M_round.2.1 259 = .ok (.iload 5, 2) := by decide +kernel
theorem d_M_round_261 : decode m_M_round.2.1 261 = .ok (.ifCond .lt 8, 3) := by decide +kernel
theorem d_M_round_264 : decode m_M_round.2.1 264 = .ok (.iload_n 2, 1) := by decide +kernel
theorem d_M_round_265 : decode m_M_round.2.1 265 = .ok (.iconst 1, 1) := by decide +kernel
theorem d_M_round_266 : decode m_M_round.2.1 266 = .ok (.if_icmp .ne 8, 3) := by decide +kernel
theorem d_M_round_269 : decode m_M_round.2.1 269 = .ok (.iload 5, 2) := by decide +kernel
theorem d_M_round_271 : decode m_M_round.2.1 271 = .ok (.goto 5, 3) := by decide +kernel
theorem d_M_round_274 : decode m_M_round.2.1 274 = .ok (.iload 4, 2) := by decide +kernel
theorem d_M_round_276 : decode m_M_round.2.1 276 = .ok (.ireturn, 1) := by decide +kernel
theorem d_M_seen_0 : decode m_M_seen.2.1 0 = .ok (.iload_n 1, 1) := by decide +kernel
theorem d_M_seen_1 : decode m_M_seen.2.1 1 = .ok (.invokestatic 56, 3) := by decide +kernel
theorem d_M_seen_4 : decode m_M_seen.2.1 4 = .ok (.ifCond .ne 5, 3) := by decide +kernel
theorem d_M_seen_7 : decode m_M_seen.2.1 7 = .ok (.iconst (-1), 1) := by decide +kernel
theorem d_M_seen_8 : decode m_M_seen.2.1 8 = .ok (.ireturn, 1) := by decide +kernel
theorem d_M_seen_9 : decode m_M_seen.2.1 9 = .ok (.aload_n 0, 1) := by decide +kernel
theorem d_M_seen_10 : decode m_M_seen.2.1 10 = .ok (.getfield 126, 3) := by decide +kernel
theorem d_M_seen_13 : decode m_M_seen.2.1 13 = .ok (.bipush 8, 2) := by decide +kernel
theorem d_M_seen_15 : decode m_M_seen.2.1 15 = .ok (.if_icmp .ne 6, 3) := by decide +kernel
theorem d_M_seen_18 : decode m_M_seen.2.1 18 = .ok (.bipush (-4), 2) := by decide +kernel
theorem d_M_seen_20 : decode m_M_seen.2.1 20 = .ok (.ireturn, 1) := by decide +kernel
theorem d_M_seen_21 : decode m_M_seen.2.1 21 = .ok (.aload_n 0, 1) := by decide +kernel
theorem d_M_seen_22 : decode m_M_seen.2.1 22 = .ok (.getfield 26, 3) := by decide +kernel
theorem d_M_seen_25 : decode m_M_seen.2.1 25 = .ok (.iconst 2, 1) := by decide +kernel
theorem d_M_seen_26 : decode m_M_seen.2.1 26 = .ok (.aload_n 0, 1) := by decide +kernel
theorem d_M_seen_27 : decode m_M_seen.2.1 27 = .ok (.getfield 126, 3) := by decide +kernel
theorem d_M_seen_30 : decode m_M_seen.2.1 30 = .ok (.imul, 1) := by decide +kernel
theorem d_M_seen_31 : decode m_M_seen.2.1 31 = .ok (.iload_n 1, 1) := by decide +kernel
theorem d_M_seen_32 : decode m_M_seen.2.1 32 = .ok (.iastore, 1) := by decide +kernel
theorem d_M_seen_33 : decode m_M_seen.2.1 33 = .ok (.aload_n 0, 1) := by decide +kernel
theorem d_M_seen_34 : decode m_M_seen.2.1 34 = .ok (.getfield 26, 3) := by decide +kernel
theorem d_M_seen_37 : decode m_M_seen.2.1 37 = .ok (.iconst 2, 1) := by decide +kernel
theorem d_M_seen_38 : decode m_M_seen.2.1 38 = .ok (.aload_n 0, 1) := by decide +kernel
theorem d_M_seen_39 : decode m_M_seen.2.1 39 = .ok (.getfield 126, 3) := by decide +kernel
theorem d_M_seen_42 : decode m_M_seen.2.1 42 = .ok (.imul, 1) := by decide +kernel
theorem d_M_seen_43 : decode m_M_seen.2.1 43 = .ok (.iconst 1, 1) := by decide +kernel
theorem d_M_seen_44 : decode m_M_seen.2.1 44 = .ok (.iadd, 1) := by decide +kernel
theorem d_M_seen_45 : decode m_M_seen.2.1 45 = .ok (.iload_n 2, 1) := by decide +kernel
theorem d_M_seen_46 : decode m_M_seen.2.1 46 = .ok (.ifCond .eq 7, 3) := by decide +kernel
theorem d_M_seen_49 : decode m_M_seen.2.1 49 = .ok (.iconst 1, 1) := by decide +kernel
theorem d_M_seen_50 : decode m_M_seen.2.1 50 = .ok (.goto 4, 3) := by decide +kernel
theorem d_M_seen_53 : decode m_M_seen.2.1 53 = .ok (.iconst 0, 1) := by decide +kernel
theorem d_M_seen_54 : decode m_M_seen.2.1 54 = .ok (.iastore, 1) := by decide +kernel
theorem d_M_seen_55 : decode m_M_seen.2.1 55 = .ok (.aload_n 0, 1) := by decide +kernel
theorem d_M_seen_56 : decode m_M_seen.2.1 56 = .ok (.dup, 1) := by decide +kernel
theorem d_M_seen_57 : decode m_M_seen.2.1 57 = .ok (.getfield 126, 3) := by decide +kernel
theorem d_M_seen_60 : decode m_M_seen.2.1 60 = .ok (.iconst 1, 1) := by decide +kernel
theorem d_M_seen_61 : decode m_M_seen.2.1 61 = .ok (.iadd, 1) := by decide +kernel
theorem d_M_seen_62 : decode m_M_seen.2.1 62 = .ok (.putfield 126, 3) := by decide +kernel
theorem d_M_seen_65 : decode m_M_seen.2.1 65 = .ok (.aload_n 0, 1) := by decide +kernel
theorem d_M_seen_66 : decode m_M_seen.2.1 66 = .ok (.getfield 126, 3) := by decide +kernel
theorem d_M_seen_69 : decode m_M_seen.2.1 69 = .ok (.ireturn, 1) := by decide +kernel
theorem d_M_forget_0 : decode m_M_forget.2.1 0 = .ok (.aload_n 0, 1) := by decide +kernel
theorem d_M_forget_1 : decode m_M_forget.2.1 1 = .ok (.getfield 126, 3) := by decide +kernel
theorem d_M_forget_4 : decode m_M_forget.2.1 4 = .ok (.istore_n 1, 1) := by decide +kernel
theorem d_M_forget_5 : decode m_M_forget.2.1 5 = .ok (.aload_n 0, 1) := by decide +kernel
theorem d_M_forget_6 : decode m_M_forget.2.1 6 = .ok (.iconst 0, 1) := by decide +kernel
theorem d_M_forget_7 : decode m_M_forget.2.1 7 = .ok (.putfield 126, 3) := by decide +kernel
theorem d_M_forget_10 : decode m_M_forget.2.1 10 = .ok (.iload_n 1, 1) := by decide +kernel
theorem d_M_forget_11 : decode m_M_forget.2.1 11 = .ok (.ireturn, 1) := by decide +kernel
theorem d_M_atSet_0 : decode m_M_atSet.2.1 0 = .ok (.aload_n 0, 1) := by decide +kernel
theorem d_M_atSet_1 : decode m_M_atSet.2.1 1 = .ok (.invokevirtual 123, 3) := by decide +kernel
theorem d_M_atSet_4 : decode m_M_atSet.2.1 4 = .ok (.iconst 0, 1) := by decide +kernel
theorem d_M_atSet_5 : decode m_M_atSet.2.1 5 = .ok (.istore_n 1, 1) := by decide +kernel
theorem d_M_atSet_6 : decode m_M_atSet.2.1 6 = .ok (.iconst 0, 1) := by decide +kernel
theorem d_M_atSet_7 : decode m_M_atSet.2.1 7 = .ok (.istore_n 2, 1) := by decide +kernel
theorem d_M_atSet_8 : decode m_M_atSet.2.1 8 = .ok (.iload_n 2, 1) := by decide +kernel
theorem d_M_atSet_9 : decode m_M_atSet.2.1 9 = .ok (.bipush 12, 2) := by decide +kernel
theorem d_M_atSet_11 : decode m_M_atSet.2.1 11 = .ok (.if_icmp .ge 85, 3) := by decide +kernel
theorem d_M_atSet_14 : decode m_M_atSet.2.1 14 = .ok (.iconst 1, 1) := by decide +kernel
theorem d_M_atSet_15 : decode m_M_atSet.2.1 15 = .ok (.istore_n 3, 1) := by decide +kernel
theorem d_M_atSet_16 : decode m_M_atSet.2.1 16 = .ok (.iconst 0, 1) := by decide +kernel
theorem d_M_atSet_17 : decode m_M_atSet.2.1 17 = .ok (.istore 4, 2) := by decide +kernel
theorem d_M_atSet_19 : decode m_M_atSet.2.1 19 = .ok (.iload 4, 2) := by decide +kernel
theorem d_M_atSet_21 : decode m_M_atSet.2.1 21 = .ok (.aload_n 0, 1) := by decide +kernel
theorem d_M_atSet_22 : decode m_M_atSet.2.1 22 = .ok (.getfield 126, 3) := by decide +kernel
theorem d_M_atSet_25 : decode m_M_atSet.2.1 25 = .ok (.if_icmp .ge 51, 3) := by decide +kernel
theorem d_M_atSet_28 : decode m_M_atSet.2.1 28 = .ok (.iload_n 3, 1) := by decide +kernel
theorem d_M_atSet_29 : decode m_M_atSet.2.1 29 = .ok (.ifCond .eq 39, 3) := by decide +kernel
theorem d_M_atSet_32 : decode m_M_atSet.2.1 32 = .ok (.aload_n 0, 1) := by decide +kernel
theorem d_M_atSet_33 : decode m_M_atSet.2.1 33 = .ok (.getfield 35, 3) := by decide +kernel
theorem d_M_atSet_36 : decode m_M_atSet.2.1 36 = .ok (.iload_n 2, 1) := by decide +kernel
theorem d_M_atSet_37 : decode m_M_atSet.2.1 37 = .ok (.iaload, 1) := by decide +kernel
theorem d_M_atSet_38 : decode m_M_atSet.2.1 38 = .ok (.aload_n 0, 1) := by decide +kernel
theorem d_M_atSet_39 : decode m_M_atSet.2.1 39 = .ok (.getfield 26, 3) := by decide +kernel
theorem d_M_atSet_42 : decode m_M_atSet.2.1 42 = .ok (.iconst 2, 1) := by decide +kernel
theorem d_M_atSet_43 : decode m_M_atSet.2.1 43 = .ok (.iload 4, 2) := by decide +kernel
theorem d_M_atSet_45 : decode m_M_atSet.2.1 45 = .ok (.imul, 1) := by decide +kernel
theorem d_M_atSet_46 : decode m_M_atSet.2.1 46 = .ok (.iaload, 1) := by decide +kernel
theorem d_M_atSet_47 : decode m_M_atSet.2.1 47 = .ok (.ishr, 1) := by decide +kernel
theorem d_M_atSet_48 : decode m_M_atSet.2.1 48 = .ok (.iconst 1, 1) := by decide +kernel
theorem d_M_atSet_49 : decode m_M_atSet.2.1 49 = .ok (.iand, 1) := by decide +kernel
theorem d_M_atSet_50 : decode m_M_atSet.2.1 50 = .ok (.aload_n 0, 1) := by decide +kernel
theorem d_M_atSet_51 : decode m_M_atSet.2.1 51 = .ok (.getfield 26, 3) := by decide +kernel
theorem d_M_atSet_54 : decode m_M_atSet.2.1 54 = .ok (.iconst 2, 1) := by decide +kernel
theorem d_M_atSet_55 : decode m_M_atSet.2.1 55 = .ok (.iload 4, 2) := by decide +kernel
theorem d_M_atSet_57 : decode m_M_atSet.2.1 57 = .ok (.imul, 1) := by decide +kernel
theorem d_M_atSet_58 : decode m_M_atSet.2.1 58 = .ok (.iconst 1, 1) := by decide +kernel
theorem d_M_atSet_59 : decode m_M_atSet.2.1 59 = .ok (.iadd, 1) := by decide +kernel
theorem d_M_atSet_60 : decode m_M_atSet.2.1 60 = .ok (.iaload, 1) := by decide +kernel
theorem d_M_atSet_61 : decode m_M_atSet.2.1 61 = .ok (.if_icmp .ne 7, 3) := by decide +kernel
theorem d_M_atSet_64 : decode m_M_atSet.2.1 64 = .ok (.iconst 1, 1) := by decide +kernel
theorem d_M_atSet_65 : decode m_M_atSet.2.1 65 = .ok (.goto 4, 3) := by decide +kernel
theorem d_M_atSet_68 : decode m_M_atSet.2.1 68 = .ok (.iconst 0, 1) := by decide +kernel
theorem d_M_atSet_69 : decode m_M_atSet.2.1 69 = .ok (.istore_n 3, 1) := by decide +kernel
theorem d_M_atSet_70 : decode m_M_atSet.2.1 70 = .ok (.iinc 4 1, 3) := by decide +kernel
theorem d_M_atSet_73 : decode m_M_atSet.2.1 73 = .ok (.goto (-54), 3) := by decide +kernel
theorem d_M_atSet_76 : decode m_M_atSet.2.1 76 = .ok (.iload_n 1, 1) := by decide +kernel
theorem d_M_atSet_77 : decode m_M_atSet.2.1 77 = .ok (.iload_n 3, 1) := by decide +kernel
theorem d_M_atSet_78 : decode m_M_atSet.2.1 78 = .ok (.ifCond .eq 9, 3) := by decide +kernel
theorem d_M_atSet_81 : decode m_M_atSet.2.1 81 = .ok (.iconst 1, 1) := by decide +kernel
theorem d_M_atSet_82 : decode m_M_atSet.2.1 82 = .ok (.iload_n 2, 1) := by decide +kernel
theorem d_M_atSet_83 : decode m_M_atSet.2.1 83 = .ok (.ishl, 1) := by decide +kernel
theorem d_M_atSet_84 : decode m_M_atSet.2.1 84 = .ok (.goto 4, 3) := by decide +kernel
theorem d_M_atSet_87 : decode m_M_atSet.2.1 87 = .ok (.iconst 0, 1) := by decide +kernel
theorem d_M_atSet_88 : decode m_M_atSet.2.1 88 = .ok (.ior, 1) := by decide +kernel
theorem d_M_atSet_89 : decode m_M_atSet.2.1 89 = .ok (.istore_n 1, 1) := by decide +kernel
theorem d_M_atSet_90 : decode m_M_atSet.2.1 90 = .ok (.iinc 2 1, 3) := by decide +kernel
theorem d_M_atSet_93 : decode m_M_atSet.2.1 93 = .ok (.goto (-85), 3) := by decide +kernel
theorem d_M_atSet_96 : decode m_M_atSet.2.1 96 = .ok (.iload_n 1, 1) := by decide +kernel
theorem d_M_atSet_97 : decode m_M_atSet.2.1 97 = .ok (.ireturn, 1) := by decide +kernel
theorem d_M_at_0 : decode m_M_at.2.1 0 = .ok (.aload_n 0, 1) := by decide +kernel
theorem d_M_at_1 : decode m_M_at.2.1 1 = .ok (.invokevirtual 129, 3) := by decide +kernel
theorem d_M_at_4 : decode m_M_at.2.1 4 = .ok (.ireturn, 1) := by decide +kernel
theorem d_M_ask_0 : decode m_M_ask.2.1 0 = .ok (.iload_n 1, 1) := by decide +kernel
theorem d_M_ask_1 : decode m_M_ask.2.1 1 = .ok (.iconst 0, 1) := by decide +kernel
theorem d_M_ask_2 : decode m_M_ask.2.1 2 = .ok (.iconst 1, 1) := by decide +kernel
theorem d_M_ask_3 : decode m_M_ask.2.1 3 = .ok (.invokestatic 52, 3) := by decide +kernel
theorem d_M_ask_6 : decode m_M_ask.2.1 6 = .ok (.ifCond .ne 6, 3) := by decide +kernel
theorem d_M_ask_9 : decode m_M_ask.2.1 9 = .ok (.bipush (-2), 2) := by decide +kernel
theorem d_M_ask_11 : decode m_M_ask.2.1 11 = .ok (.ireturn, 1) := by decide +kernel
theorem d_M_ask_12 : decode m_M_ask.2.1 12 = .ok (.aload_n 0, 1) := by decide +kernel
theorem d_M_ask_13 : decode m_M_ask.2.1 13 = .ok (.invokevirtual 129, 3) := by decide +kernel
theorem d_M_ask_16 : decode m_M_ask.2.1 16 = .ok (.istore_n 2, 1) := by decide +kernel
theorem d_M_ask_17 : decode m_M_ask.2.1 17 = .ok (.bipush (-6), 2) := by decide +kernel
theorem d_M_ask_19 : decode m_M_ask.2.1 19 = .ok (.istore_n 3, 1) := by decide +kernel
theorem d_M_ask_20 : decode m_M_ask.2.1 20 = .ok (.ldc 119, 2) := by decide +kernel
theorem d_M_ask_22 : decode m_M_ask.2.1 22 = .ok (.istore 4, 2) := by decide +kernel
theorem d_M_ask_24 : decode m_M_ask.2.1 24 = .ok (.iconst 0, 1) := by decide +kernel
theorem d_M_ask_25 : decode m_M_ask.2.1 25 = .ok (.istore 5, 2) := by decide +kernel
theorem d_M_ask_27 : decode m_M_ask.2.1 27 = .ok (.iload 5, 2) := by decide +kernel
theorem d_M_ask_29 : decode m_M_ask.2.1 29 = .ok (.bipush 12, 2) := by decide +kernel
theorem d_M_ask_31 : decode m_M_ask.2.1 31 = .ok (.if_icmp .ge 122, 3) := by decide +kernel
theorem d_M_ask_34 : decode m_M_ask.2.1 34 = .ok (.iload_n 2, 1) := by decide +kernel
theorem d_M_ask_35 : decode m_M_ask.2.1 35 = .ok (.ifCond .eq 118, 3) := by decide +kernel
theorem d_M_ask_38 : decode m_M_ask.2.1 38 = .ok (.iconst 0, 1) := by decide +kernel
theorem d_M_ask_39 : decode m_M_ask.2.1 39 = .ok (.istore 6, 2) := by decide +kernel
theorem d_M_ask_41 : decode m_M_ask.2.1 41 = .ok (.iconst 0, 1) := by decide +kernel
theorem d_M_ask_42 : decode m_M_ask.2.1 42 = .ok (.istore 7, 2) := by decide +kernel
theorem d_M_ask_44 : decode m_M_ask.2.1 44 = .ok (.iload 7, 2) := by decide +kernel
theorem d_M_ask_46 : decode m_M_ask.2.1 46 = .ok (.bipush 12, 2) := by decide +kernel
theorem d_M_ask_48 : decode m_M_ask.2.1 48 = .ok (.if_icmp .ge 43, 3) := by decide +kernel
theorem d_M_ask_51 : decode m_M_ask.2.1 51 = .ok (.iload 6, 2) := by decide +kernel
theorem d_M_ask_53 : decode m_M_ask.2.1 53 = .ok (.iload_n 2, 1) := by decide +kernel
theorem d_M_ask_54 : decode m_M_ask.2.1 54 = .ok (.iload 7, 2) := by decide +kernel
theorem d_M_ask_56 : decode m_M_ask.2.1 56 = .ok (.invokestatic 77, 3) := by decide +kernel
theorem d_M_ask_59 : decode m_M_ask.2.1 59 = .ok (.ifCond .eq 22, 3) := by decide +kernel
theorem d_M_ask_62 : decode m_M_ask.2.1 62 = .ok (.aload_n 0, 1) := by decide +kernel
theorem d_M_ask_63 : decode m_M_ask.2.1 63 = .ok (.getfield 35, 3) := by decide +kernel
theorem d_M_ask_66 : decode m_M_ask.2.1 66 = .ok (.iload 7, 2) := by decide +kernel
theorem d_M_ask_68 : decode m_M_ask.2.1 68 = .ok (.iaload, 1) := by decide +kernel
theorem d_M_ask_69 : decode m_M_ask.2.1 69 = .ok (.iload 5, 2) := by decide +kernel
theorem d_M_ask_71 : decode m_M_ask.2.1 71 = .ok (.invokestatic 77, 3) := by decide +kernel
theorem d_M_ask_74 : decode m_M_ask.2.1 74 = .ok (.ifCond .eq 7, 3) := by decide +kernel
theorem d_M_ask_77 : decode m_M_ask.2.1 77 = .ok (.iconst 1, 1) := by decide +kernel
theorem d_M_ask_78 : decode m_M_ask.2.1 78 = .ok (.goto 4, 3) := by decide +kernel
theorem d_M_ask_81 : decode m_M_ask.2.1 81 = .ok (.iconst 0, 1) := by decide +kernel
theorem d_M_ask_82 : decode m_M_ask.2.1 82 = .ok (.iadd, 1) := by decide +kernel
theorem d_M_ask_83 : decode m_M_ask.2.1 83 = .ok (.istore 6, 2) := by decide +kernel
theorem d_M_ask_85 : decode m_M_ask.2.1 85 = .ok (.iinc 7 1, 3) := by decide +kernel
theorem d_M_ask_88 : decode m_M_ask.2.1 88 = .ok (.goto (-44), 3) := by decide +kernel
theorem d_M_ask_91 : decode m_M_ask.2.1 91 = .ok (.iload 6, 2) := by decide +kernel
theorem d_M_ask_93 : decode m_M_ask.2.1 93 = .ok (.iload_n 2, 1) := by decide +kernel
theorem d_M_ask_94 : decode m_M_ask.2.1 94 = .ok (.invokestatic 120, 3) := by decide +kernel
theorem d_M_ask_97 : decode m_M_ask.2.1 97 = .ok (.iload 6, 2) := by decide +kernel
theorem d_M_ask_99 : decode m_M_ask.2.1 99 = .ok (.isub, 1) := by decide +kernel
theorem d_M_ask_100 : decode m_M_ask.2.1 100 = .ok (.if_icmp .le 8, 3) := by decide +kernel
theorem d_M_ask_103 : decode m_M_ask.2.1 103 = .ok (.iload 6, 2) := by decide +kernel
theorem d_M_ask_105 : decode m_M_ask.2.1 105 = .ok (.goto 10, 3) := by decide +kernel
theorem d_M_ask_108 : decode m_M_ask.2.1 108 = .ok (.iload_n 2, 1) := by decide +kernel
theorem d_M_ask_109 : decode m_M_ask.2.1 109 = .ok (.invokestatic 120, 3) := by decide +kernel
theorem d_M_ask_112 : decode m_M_ask.2.1 112 = .ok (.iload 6, 2) := by decide +kernel
theorem d_M_ask_114 : decode m_M_ask.2.1 114 = .ok (.isub, 1) := by decide +kernel
theorem d_M_ask_115 : decode m_M_ask.2.1 115 = .ok (.istore 7, 2) := by decide +kernel
theorem d_M_ask_117 : decode m_M_ask.2.1 117 = .ok (.iload 7, 2) := by decide +kernel
theorem d_M_ask_119 : decode m_M_ask.2.1 119 = .ok (.iload 4, 2) := by decide +kernel
theorem d_M_ask_121 : decode m_M_ask.2.1 121 = .ok (.if_icmp .ge 8, 3) := by decide +kernel
theorem d_M_ask_124 : decode m_M_ask.2.1 124 = .ok (.iload 5, 2) := by decide +kernel
theorem d_M_ask_126 : decode m_M_ask.2.1 126 = .ok (.goto 4, 3) := by decide +kernel
theorem d_M_ask_129 : decode m_M_ask.2.1 129 = .ok (.iload_n 3, 1) := by decide +kernel
theorem d_M_ask_130 : decode m_M_ask.2.1 130 = .ok (.istore_n 3, 1) := by decide +kernel
theorem d_M_ask_131 : decode m_M_ask.2.1 131 = .ok (.iload 7, 2) := by decide +kernel
theorem d_M_ask_133 : decode m_M_ask.2.1 133 = .ok (.iload 4, 2) := by decide +kernel
theorem d_M_ask_135 : decode m_M_ask.2.1 135 = .ok (.if_icmp .ge 8, 3) := by decide +kernel
theorem d_M_ask_138 : decode m_M_ask.2.1 138 = .ok (.iload 7, 2) := by decide +kernel
theorem d_M_ask_140 : decode m_M_ask.2.1 140 = .ok (.goto 5, 3) := by decide +kernel
theorem d_M_ask_143 : decode m_M_ask.2.1 143 = .ok (.iload 4, 2) := by decide +kernel
theorem d_M_ask_145 : decode m_M_ask.2.1 145 = .ok (.istore 4, 2) := by decide +kernel
theorem d_M_ask_147 : decode m_M_ask.2.1 147 = .ok (.iinc 5 1, 3) := by decide +kernel
theorem d_M_ask_150 : decode m_M_ask.2.1 150 = .ok (.goto (-123), 3) := by decide +kernel
theorem d_M_ask_153 : decode m_M_ask.2.1 153 = .ok (.iload_n 3, 1) := by decide +kernel
theorem d_M_ask_154 : decode m_M_ask.2.1 154 = .ok (.ifCond .lt 7, 3) := by decide +kernel
theorem d_M_ask_157 : decode m_M_ask.2.1 157 = .ok (.iload_n 1, 1) := by decide +kernel
theorem d_M_ask_158 : decode m_M_ask.2.1 158 = .ok (.ifCond .ne 7, 3) := by decide +kernel
theorem d_M_ask_161 : decode m_M_ask.2.1 161 = .ok (.iload_n 3, 1) := by decide +kernel
theorem d_M_ask_162 : decode m_M_ask.2.1 162 = .ok (.goto 5, 3) := by decide +kernel
theorem d_M_ask_165 : decode m_M_ask.2.1 165 = .ok (.iload 4, 2) := by decide +kernel
theorem d_M_ask_167 : decode m_M_ask.2.1 167 = .ok (.ireturn, 1) := by decide +kernel
theorem d_M_spread_0 : decode m_M_spread.2.1 0 = .ok (.iload_n 1, 1) := by decide +kernel
theorem d_M_spread_1 : decode m_M_spread.2.1 1 = .ok (.istore_n 2, 1) := by decide +kernel
theorem d_M_spread_2 : decode m_M_spread.2.1 2 = .ok (.iconst 0, 1) := by decide +kernel
theorem d_M_spread_3 : decode m_M_spread.2.1 3 = .ok (.istore_n 3, 1) := by decide +kernel
theorem d_M_spread_4 : decode m_M_spread.2.1 4 = .ok (.iload_n 3, 1) := by decide +kernel
theorem d_M_spread_5 : decode m_M_spread.2.1 5 = .ok (.bipush 11, 2) := by decide +kernel
theorem d_M_spread_7 : decode m_M_spread.2.1 7 = .ok (.if_icmp .ge 83, 3) := by decide +kernel
theorem d_M_spread_10 : decode m_M_spread.2.1 10 = .ok (.aload_n 0, 1) := by decide +kernel
theorem d_M_spread_11 : decode m_M_spread.2.1 11 = .ok (.getfield 16, 3) := by decide +kernel
theorem d_M_spread_14 : decode m_M_spread.2.1 14 = .ok (.iload_n 3, 1) := by decide +kernel
theorem d_M_spread_15 : decode m_M_spread.2.1 15 = .ok (.iaload, 1) := by decide +kernel
theorem d_M_spread_16 : decode m_M_spread.2.1 16 = .ok (.iconst 5, 1) := by decide +kernel
theorem d_M_spread_17 : decode m_M_spread.2.1 17 = .ok (.if_icmp .ge 67, 3) := by decide +kernel
theorem d_M_spread_20 : decode m_M_spread.2.1 20 = .ok (.iload_n 2, 1) := by decide +kernel
theorem d_M_spread_21 : decode m_M_spread.2.1 21 = .ok (.iload_n 1, 1) := by decide +kernel
theorem d_M_spread_22 : decode m_M_spread.2.1 22 = .ok (.iload_n 3, 1) := by decide +kernel
theorem d_M_spread_23 : decode m_M_spread.2.1 23 = .ok (.iconst 1, 1) := by decide +kernel
theorem d_M_spread_24 : decode m_M_spread.2.1 24 = .ok (.iadd, 1) := by decide +kernel
theorem d_M_spread_25 : decode m_M_spread.2.1 25 = .ok (.invokestatic 77, 3) := by decide +kernel
theorem d_M_spread_28 : decode m_M_spread.2.1 28 = .ok (.ifCond .eq 20, 3) := by decide +kernel
theorem d_M_spread_31 : decode m_M_spread.2.1 31 = .ok (.aload_n 0, 1) := by decide +kernel
theorem d_M_spread_32 : decode m_M_spread.2.1 32 = .ok (.getfield 49, 3) := by decide +kernel
theorem d_M_spread_35 : decode m_M_spread.2.1 35 = .ok (.iload_n 3, 1) := by decide +kernel
theorem d_M_spread_36 : decode m_M_spread.2.1 36 = .ok (.invokestatic 77, 3) := by decide +kernel
theorem d_M_spread_39 : decode m_M_spread.2.1 39 = .ok (.ifCond .ne 9, 3) := by decide +kernel
theorem d_M_spread_42 : decode m_M_spread.2.1 42 = .ok (.iconst 1, 1) := by decide +kernel
theorem d_M_spread_43 : decode m_M_spread.2.1 43 = .ok (.iload_n 3, 1) := by decide +kernel
theorem d_M_spread_44 : decode m_M_spread.2.1 44 = .ok (.ishl, 1) := by decide +kernel
theorem d_M_spread_45 : decode m_M_spread.2.1 45 = .ok (.goto 4, 3) := by decide +kernel
theorem d_M_spread_48 : decode m_M_spread.2.1 48 = .ok (.iconst 0, 1) := by decide +kernel
theorem d_M_spread_49 : decode m_M_spread.2.1 49 = .ok (.ior, 1) := by decide +kernel
theorem d_M_spread_50 : decode m_M_spread.2.1 50 = .ok (.istore_n 2, 1) := by decide +kernel
theorem d_M_spread_51 : decode m_M_spread.2.1 51 = .ok (.iload_n 2, 1) := by decide +kernel
theorem d_M_spread_52 : decode m_M_spread.2.1 52 = .ok (.iload_n 1, 1) := by decide +kernel
theorem d_M_spread_53 : decode m_M_spread.2.1 53 = .ok (.iload_n 3, 1) := by decide +kernel
theorem d_M_spread_54 : decode m_M_spread.2.1 54 = .ok (.invokestatic 77, 3) := by decide +kernel
theorem d_M_spread_57 : decode m_M_spread.2.1 57 = .ok (.ifCond .eq 24, 3) := by decide +kernel
theorem d_M_spread_60 : decode m_M_spread.2.1 60 = .ok (.aload_n 0, 1) := by decide +kernel
theorem d_M_spread_61 : decode m_M_spread.2.1 61 = .ok (.getfield 49, 3) := by decide +kernel
theorem d_M_spread_64 : decode m_M_spread.2.1 64 = .ok (.iload_n 3, 1) := by decide +kernel
theorem d_M_spread_65 : decode m_M_spread.2.1 65 = .ok (.iconst 1, 1) := by decide +kernel
theorem d_M_spread_66 : decode m_M_spread.2.1 66 = .ok (.iadd, 1) := by decide +kernel
theorem d_M_spread_67 : decode m_M_spread.2.1 67 = .ok (.invokestatic 77, 3) := by decide +kernel
theorem d_M_spread_70 : decode m_M_spread.2.1 70 = .ok (.ifCond .ne 11, 3) := by decide +kernel
theorem d_M_spread_73 : decode m_M_spread.2.1 73 = .ok (.iconst 1, 1) := by decide +kernel
theorem d_M_spread_74 : decode m_M_spread.2.1 74 = .ok (.iload_n 3, 1) := by decide +kernel
theorem d_M_spread_75 : decode m_M_spread.2.1 75 = .ok (.iconst 1, 1) := by decide +kernel
theorem d_M_spread_76 : decode m_M_spread.2.1 76 = .ok (.iadd, 1) := by decide +kernel
theorem d_M_spread_77 : decode m_M_spread.2.1 77 = .ok (.ishl, 1) := by decide +kernel
theorem d_M_spread_78 : decode m_M_spread.2.1 78 = .ok (.goto 4, 3) := by decide +kernel
theorem d_M_spread_81 : decode m_M_spread.2.1 81 = .ok (.iconst 0, 1) := by decide +kernel
theorem d_M_spread_82 : decode m_M_spread.2.1 82 = .ok (.ior, 1) := by decide +kernel
theorem d_M_spread_83 : decode m_M_spread.2.1 83 = .ok (.istore_n 2, 1) := by decide +kernel
theorem d_M_spread_84 : decode m_M_spread.2.1 84 = .ok (.iinc 3 1, 3) := by decide +kernel
theorem d_M_spread_87 : decode m_M_spread.2.1 87 = .ok (.goto (-83), 3) := by decide +kernel
theorem d_M_spread_90 : decode m_M_spread.2.1 90 = .ok (.iload_n 2, 1) := by decide +kernel
theorem d_M_spread_91 : decode m_M_spread.2.1 91 = .ok (.ireturn, 1) := by decide +kernel
theorem d_M_rumour_0 : decode m_M_rumour.2.1 0 = .ok (.iload_n 1, 1) := by decide +kernel
theorem d_M_rumour_1 : decode m_M_rumour.2.1 1 = .ok (.invokestatic 56, 3) := by decide +kernel
theorem d_M_rumour_4 : decode m_M_rumour.2.1 4 = .ok (.ifCond .ne 5, 3) := by decide +kernel
theorem d_M_rumour_7 : decode m_M_rumour.2.1 7 = .ok (.iconst (-1), 1) := by decide +kernel
theorem d_M_rumour_8 : decode m_M_rumour.2.1 8 = .ok (.ireturn, 1) := by decide +kernel
theorem d_M_rumour_9 : decode m_M_rumour.2.1 9 = .ok (.iload_n 2, 1) := by decide +kernel
theorem d_M_rumour_10 : decode m_M_rumour.2.1 10 = .ok (.iconst (-1), 1) := by decide +kernel
theorem d_M_rumour_11 : decode m_M_rumour.2.1 11 = .ok (.bipush 20, 2) := by decide +kernel
theorem d_M_rumour_13 : decode m_M_rumour.2.1 13 = .ok (.invokestatic 52, 3) := by decide +kernel
theorem d_M_rumour_16 : decode m_M_rumour.2.1 16 = .ok (.ifCond .ne 6, 3) := by decide +kernel
theorem d_M_rumour_19 : decode m_M_rumour.2.1 19 = .ok (.bipush (-2), 2) := by decide +kernel
theorem d_M_rumour_21 : decode m_M_rumour.2.1 21 = .ok (.ireturn, 1) := by decide +kernel
theorem d_M_rumour_22 : decode m_M_rumour.2.1 22 = .ok (.iconst 1, 1) := by decide +kernel
theorem d_M_rumour_23 : decode m_M_rumour.2.1 23 = .ok (.iload_n 1, 1) := by decide +kernel
theorem d_M_rumour_24 : decode m_M_rumour.2.1 24 = .ok (.ishl, 1) := by decide +kernel
theorem d_M_rumour_25 : decode m_M_rumour.2.1 25 = .ok (.istore_n 3, 1) := by decide +kernel
theorem d_M_rumour_26 : decode m_M_rumour.2.1 26 = .ok (.iload_n 2, 1) := by decide +kernel
theorem d_M_rumour_27 : decode m_M_rumour.2.1 27 = .ok (.ifCond .ge 30, 3) := by decide +kernel
theorem d_M_rumour_30 : decode m_M_rumour.2.1 30 = .ok (.iconst 0, 1) := by decide +kernel
theorem d_M_rumour_31 : decode m_M_rumour.2.1 31 = .ok (.istore 4, 2) := by decide +kernel
theorem d_M_rumour_33 : decode m_M_rumour.2.1 33 = .ok (.aload_n 0, 1) := by decide +kernel
theorem d_M_rumour_34 : decode m_M_rumour.2.1 34 = .ok (.iload_n 3, 1) := by decide +kernel
theorem d_M_rumour_35 : decode m_M_rumour.2.1 35 = .ok (.invokevirtual 132, 3) := by decide +kernel
theorem d_M_rumour_38 : decode m_M_rumour.2.1 38 = .ok (.iload_n 3, 1) := by decide +kernel
theorem d_M_rumour_39 : decode m_M_rumour.2.1 39 = .ok (.if_icmp .eq 15, 3) := by decide +kernel
theorem d_M_rumour_42 : decode m_M_rumour.2.1 42 = .ok (.aload_n 0, 1) := by decide +kernel
theorem d_M_rumour_43 : decode m_M_rumour.2.1 43 = .ok (.iload_n 3, 1) := by decide +kernel
theorem d_M_rumour_44 : decode m_M_rumour.2.1 44 = .ok (.invokevirtual 132, 3) := by decide +kernel
theorem d_M_rumour_47 : decode m_M_rumour.2.1 47 = .ok (.istore_n 3, 1) := by decide +kernel
theorem d_M_rumour_48 : decode m_M_rumour.2.1 48 = .ok (.iinc 4 1, 3) := by decide +kernel
theorem d_M_rumour_51 : decode m_M_rumour.2.1 51 = .ok (.goto (-18), 3) := by decide +kernel
theorem d_M_rumour_54 : decode m_M_rumour.2.1 54 = .ok (.iload 4, 2) := by decide +kernel
theorem d_M_rumour_56 : decode m_M_rumour.2.1 56 = .ok (.ireturn, 1) := by decide +kernel
theorem d_M_rumour_57 : decode m_M_rumour.2.1 57 = .ok (.iconst 0, 1) := by decide +kernel
theorem d_M_rumour_58 : decode m_M_rumour.2.1 58 = .ok (.istore 4, 2) := by decide +kernel
theorem d_M_rumour_60 : decode m_M_rumour.2.1 60 = .ok (.iload 4, 2) := by decide +kernel
theorem d_M_rumour_62 : decode m_M_rumour.2.1 62 = .ok (.iload_n 2, 1) := by decide +kernel
theorem d_M_rumour_63 : decode m_M_rumour.2.1 63 = .ok (.if_icmp .ge 15, 3) := by decide +kernel
theorem d_M_rumour_66 : decode m_M_rumour.2.1 66 = .ok (.aload_n 0, 1) := by decide +kernel
theorem d_M_rumour_67 : decode m_M_rumour.2.1 67 = .ok (.iload_n 3, 1) := by decide +kernel
theorem d_M_rumour_68 : decode m_M_rumour.2.1 68 = .ok (.invokevirtual 132, 3) := by decide +kernel
theorem d_M_rumour_71 : decode m_M_rumour.2.1 71 = .ok (.istore_n 3, 1) := by decide +kernel
theorem d_M_rumour_72 : decode m_M_rumour.2.1 72 = .ok (.iinc 4 1, 3) := by decide +kernel
theorem d_M_rumour_75 : decode m_M_rumour.2.1 75 = .ok (.goto (-15), 3) := by decide +kernel
theorem d_M_rumour_78 : decode m_M_rumour.2.1 78 = .ok (.iload_n 3, 1) := by decide +kernel
theorem d_M_rumour_79 : decode m_M_rumour.2.1 79 = .ok (.invokestatic 120, 3) := by decide +kernel
theorem d_M_rumour_82 : decode m_M_rumour.2.1 82 = .ok (.ireturn, 1) := by decide +kernel
theorem d_M_chance_0 : decode m_M_chance.2.1 0 = .ok (.iload_n 1, 1) := by decide +kernel
theorem d_M_chance_1 : decode m_M_chance.2.1 1 = .ok (.invokestatic 56, 3) := by decide +kernel
theorem d_M_chance_4 : decode m_M_chance.2.1 4 = .ok (.ifCond .ne 7, 3) := by decide +kernel
theorem d_M_chance_7 : decode m_M_chance.2.1 7 = .ok (.ldc2_w 135, 3) := by decide +kernel
theorem d_M_chance_10 : decode m_M_chance.2.1 10 = .ok (.lreturn, 1) := by decide +kernel
theorem d_M_chance_11 : decode m_M_chance.2.1 11 = .ok (.iload_n 2, 1) := by decide +kernel
theorem d_M_chance_12 : decode m_M_chance.2.1 12 = .ok (.iconst 0, 1) := by decide +kernel
theorem d_M_chance_13 : decode m_M_chance.2.1 13 = .ok (.bipush 10, 2) := by decide +kernel
theorem d_M_chance_15 : decode m_M_chance.2.1 15 = .ok (.invokestatic 52, 3) := by decide +kernel
theorem d_M_chance_18 : decode m_M_chance.2.1 18 = .ok (.ifCond .eq 23, 3) := by decide +kernel
theorem d_M_chance_21 : decode m_M_chance.2.1 21 = .ok (.iload_n 3, 1) := by decide +kernel
theorem d_M_chance_22 : decode m_M_chance.2.1 22 = .ok (.iconst (-1), 1) := by decide +kernel
theorem d_M_chance_23 : decode m_M_chance.2.1 23 = .ok (.bipush 11, 2) := by decide +kernel
theorem d_M_chance_25 : decode m_M_chance.2.1 25 = .ok (.invokestatic 52, 3) := by decide +kernel
theorem d_M_chance_28 : decode m_M_chance.2.1 28 = .ok (.ifCond .eq 13, 3) := by decide +kernel
theorem d_M_chance_31 : decode m_M_chance.2.1 31 = .ok (.iload 4, 2) := by decide +kernel
theorem d_M_chance_33 : decode m_M_chance.2.1 33 = .ok (.iconst 0, 1) := by decide +kernel
theorem d_M_chance_34 : decode m_M_chance.2.1 34 = .ok (.iconst 1, 1) := by decide +kernel
theorem d_M_chance_35 : decode m_M_chance.2.1 35 = .ok (.invokestatic 52, 3) := by decide +kernel
theorem d_M_chance_38 : decode m_M_chance.2.1 38 = .ok (.ifCond .ne 7, 3) := by decide +kernel
theorem d_M_chance_41 : decode m_M_chance.2.1 41 = .ok (.ldc2_w 137, 3) := by decide +kernel
theorem d_M_chance_44 : decode m_M_chance.2.1 44 = .ok (.lreturn, 1) := by decide +kernel
theorem d_M_chance_45 : decode m_M_chance.2.1 45 = .ok (.aload_n 0, 1) := by decide +kernel
theorem d_M_chance_46 : decode m_M_chance.2.1 46 = .ok (.iload_n 1, 1) := by decide +kernel
theorem d_M_chance_47 : decode m_M_chance.2.1 47 = .ok (.iconst 0, 1) := by decide +kernel
theorem d_M_chance_48 : decode m_M_chance.2.1 48 = .ok (.invokevirtual 116, 3) := by decide +kernel
theorem d_M_chance_51 : decode m_M_chance.2.1 51 = .ok (.iconst 1, 1) := by decide +kernel
theorem d_M_chance_52 : decode m_M_chance.2.1 52 = .ok (.iload_n 1, 1) := by decide +kernel
theorem d_M_chance_53 : decode m_M_chance.2.1 53 = .ok (.ishl, 1) := by decide +kernel
theorem d_M_chance_54 : decode m_M_chance.2.1 54 = .ok (.iconst (-1), 1) := by decide +kernel
theorem d_M_chance_55 : decode m_M_chance.2.1 55 = .ok (.ixor, 1) := by decide +kernel
theorem d_M_chance_56 : decode m_M_chance.2.1 56 = .ok (.iand, 1) := by decide +kernel
theorem d_M_chance_57 : decode m_M_chance.2.1 57 = .ok (.invokestatic 120, 3) := by decide +kernel
theorem d_M_chance_60 : decode m_M_chance.2.1 60 = .ok (.istore 5, 2) := by decide +kernel
theorem d_M_chance_62 : decode m_M_chance.2.1 62 = .ok (.aload_n 0, 1) := by decide +kernel
theorem d_M_chance_63 : decode m_M_chance.2.1 63 = .ok (.iload_n 1, 1) := by decide +kernel
theorem d_M_chance_64 : decode m_M_chance.2.1 64 = .ok (.sipush 4095, 3) := by decide +kernel
theorem d_M_chance_67 : decode m_M_chance.2.1 67 = .ok (.invokevirtual 116, 3) := by decide +kernel
theorem d_M_chance_70 : decode m_M_chance.2.1 70 = .ok (.iconst 1, 1) := by decide +kernel
theorem d_M_chance_71 : decode m_M_chance.2.1 71 = .ok (.iload_n 1, 1) := by decide +kernel
theorem d_M_chance_72 : decode m_M_chance.2.1 72 = .ok (.ishl, 1) := by decide +kernel
theorem d_M_chance_73 : decode m_M_chance.2.1 73 = .ok (.iconst (-1), 1) := by decide +kernel
theorem d_M_chance_74 : decode m_M_chance.2.1 74 = .ok (.ixor, 1) := by decide +kernel
theorem d_M_chance_75 : decode m_M_chance.2.1 75 = .ok (.iand, 1) := by decide +kernel
theorem d_M_chance_76 : decode m_M_chance.2.1 76 = .ok (.invokestatic 120, 3) := by decide +kernel
theorem d_M_chance_79 : decode m_M_chance.2.1 79 = .ok (.iload 5, 2) := by decide +kernel
theorem d_M_chance_81 : decode m_M_chance.2.1 81 = .ok (.isub, 1) := by decide +kernel
theorem d_M_chance_82 : decode m_M_chance.2.1 82 = .ok (.istore 6, 2) := by decide +kernel
theorem d_M_chance_84 : decode m_M_chance.2.1 84 = .ok (.lconst 1, 1) := by decide +kernel
theorem d_M_chance_85 : decode m_M_chance.2.1 85 = .ok (.lstore 7, 2) := by decide +kernel
theorem d_M_chance_87 : decode m_M_chance.2.1 87 = .ok (.iconst 0, 1) := by decide +kernel
theorem d_M_chance_88 : decode m_M_chance.2.1 88 = .ok (.istore 9, 2) := by decide +kernel
theorem d_M_chance_90 : decode m_M_chance.2.1 90 = .ok (.iload 9, 2) := by decide +kernel
theorem d_M_chance_92 : decode m_M_chance.2.1 92 = .ok (.bipush 12, 2) := by decide +kernel
theorem d_M_chance_94 : decode m_M_chance.2.1 94 = .ok (.if_icmp .ge 28, 3) := by decide +kernel
theorem d_M_chance_97 : decode m_M_chance.2.1 97 = .ok (.aload_n 0, 1) := by decide +kernel
theorem d_M_chance_98 : decode m_M_chance.2.1 98 = .ok (.getfield 38, 3) := by decide +kernel
theorem d_M_chance_101 : decode m_M_chance.2.1 101 = .ok (.iload 9, 2) := by decide +kernel
theorem d_M_chance_103 : decode m_M_chance.2.1 103 = .ok (.iload 9, 2) := by decide +kernel
theorem d_M_chance_105 : decode m_M_chance.2.1 105 = .ok (.iload 5, 2) := by decide +kernel
theorem d_M_chance_107 : decode m_M_chance.2.1 107 = .ok (.if_icmp .ne 7, 3) := by decide +kernel
theorem d_M_chance_110 : decode m_M_chance.2.1 110 = .ok (.lconst 1, 1) := by decide +kernel
theorem d_M_chance_111 : decode m_M_chance.2.1 111 = .ok (.goto 4, 3) := by decide +kernel
theorem d_M_chance_114 : decode m_M_chance.2.1 114 = .ok (.lconst 0, 1) := by decide +kernel
theorem d_M_chance_115 : decode m_M_chance.2.1 115 = .ok (.lastore, 1) := by decide +kernel
theorem d_M_chance_116 : decode m_M_chance.2.1 116 = .ok (.iinc 9 1, 3) := by decide +kernel
theorem d_M_chance_119 : decode m_M_chance.2.1 119 = .ok (.goto (-29), 3) := by decide +kernel
theorem d_M_chance_122 : decode m_M_chance.2.1 122 = .ok (.iconst 0, 1) := by decide +kernel
theorem d_M_chance_123 : decode m_M_chance.2.1 123 = .ok (.istore 9, 2) := by decide +kernel
theorem d_M_chance_125 : decode m_M_chance.2.1 125 = .ok (.iload 9, 2) := by decide +kernel
theorem d_M_chance_127 : decode m_M_chance.2.1 127 = .ok (.iload 6, 2) := by decide +kernel
theorem d_M_chance_129 : decode m_M_chance.2.1 129 = .ok (.if_icmp .ge 74, 3) := by decide +kernel
theorem d_M_chance_132 : decode m_M_chance.2.1 132 = .ok (.bipush 11, 2) := by decide +kernel
theorem d_M_chance_134 : decode m_M_chance.2.1 134 = .ok (.istore 10, 2) := by decide +kernel
theorem d_M_chance_136 : decode m_M_chance.2.1 136 = .ok (.iload 10, 2) := by decide +kernel
theorem d_M_chance_138 : decode m_M_chance.2.1 138 = .ok (.ifCond .lt 51, 3) := by decide +kernel
theorem d_M_chance_141 : decode m_M_chance.2.1 141 = .ok (.aload_n 0, 1) := by decide +kernel
theorem d_M_chance_142 : decode m_M_chance.2.1 142 = .ok (.getfield 38, 3) := by decide +kernel
theorem d_M_chance_145 : decode m_M_chance.2.1 145 = .ok (.iload 10, 2) := by decide +kernel
theorem d_M_chance_147 : decode m_M_chance.2.1 147 = .ok (.aload_n 0, 1) := by decide +kernel
theorem d_M_chance_148 : decode m_M_chance.2.1 148 = .ok (.getfield 38, 3) := by decide +kernel
theorem d_M_chance_151 : decode m_M_chance.2.1 151 = .ok (.iload 10, 2) := by decide +kernel
theorem d_M_chance_153 : decode m_M_chance.2.1 153 = .ok (.laload, 1) := by decide +kernel
theorem d_M_chance_154 : decode m_M_chance.2.1 154 = .ok (.bipush 10, 2) := by decide +kernel
theorem d_M_chance_156 : decode m_M_chance.2.1 156 = .ok (.iload_n 2, 1) := by decide +kernel
theorem d_M_chance_157 : decode m_M_chance.2.1 157 = .ok (.isub, 1) := by decide +kernel
theorem d_M_chance_158 : decode m_M_chance.2.1 158 = .ok (.i2l, 1) := by decide +kernel
theorem d_M_chance_159 : decode m_M_chance.2.1 159 = .ok (.lmul, 1) := by decide +kernel
theorem d_M_chance_160 : decode m_M_chance.2.1 160 = .ok (.iload 10, 2) := by decide +kernel
theorem d_M_chance_162 : decode m_M_chance.2.1 162 = .ok (.ifCond .le 18, 3) := by decide +kernel
theorem d_M_chance_165 : decode m_M_chance.2.1 165 = .ok (.aload_n 0, 1) := by decide +kernel
theorem d_M_chance_166 : decode m_M_chance.2.1 166 = .ok (.getfield 38, 3) := by decide +kernel
theorem d_M_chance_169 : decode m_M_chance.2.1 169 = .ok (.iload 10, 2) := by decide +kernel
theorem d_M_chance_171 : decode m_M_chance.2.1 171 = .ok (.iconst 1, 1) := by decide +kernel
theorem d_M_chance_172 : decode m_M_chance.2.1 172 = .ok (.isub, 1) := by decide +kernel
theorem d_M_chance_173 : decode m_M_chance.2.1 173 = .ok (.laload, 1) := by decide +kernel
theorem d_M_chance_174 : decode m_M_chance.2.1 174 = .ok (.iload_n 2, 1) := by decide +kernel
theorem d_M_chance_175 : decode m_M_chance.2.1 175 = .ok (.i2l, 1) := by decide +kernel
theorem d_M_chance_176 : decode m_M_chance.2.1 176 = .ok (.lmul, 1) := by decide +kernel
theorem d_M_chance_177 : decode m_M_chance.2.1 177 = .ok (.goto 4, 3) := by decide +kernel
theorem d_M_chance_180 : decode m_M_chance.2.1 180 = .ok (.lconst 0, 1) := by decide +kernel
theorem d_M_chance_181 : decode m_M_chance.2.1 181 = .ok (.ladd, 1) := by decide +kernel
theorem d_M_chance_182 : decode m_M_chance.2.1 182 = .ok (.lastore, 1) := by decide +kernel
theorem d_M_chance_183 : decode m_M_chance.2.1 183 = .ok (.iinc 10 (-1), 3) := by decide +kernel
theorem d_M_chance_186 : decode m_M_chance.2.1 186 = .ok (.goto (-50), 3) := by decide +kernel
theorem d_M_chance_189 : decode m_M_chance.2.1 189 = .ok (.lload 7, 2) := by decide +kernel
theorem d_M_chance_191 : decode m_M_chance.2.1 191 = .ok (.ldc2_w 139, 3) := by decide +kernel
theorem d_M_chance_194 : decode m_M_chance.2.1 194 = .ok (.lmul, 1) := by decide +kernel
theorem d_M_chance_195 : decode m_M_chance.2.1 195 = .ok (.lstore 7, 2) := by decide +kernel
theorem d_M_chance_197 : decode m_M_chance.2.1 197 = .ok (.iinc 9 1, 3) := by decide +kernel
theorem d_M_chance_200 : decode m_M_chance.2.1 200 = .ok (.goto (-75), 3) := by decide +kernel
theorem d_M_chance_203 : decode m_M_chance.2.1 203 = .ok (.lconst 0, 1) := by decide +kernel
theorem d_M_chance_204 : decode m_M_chance.2.1 204 = .ok (.lstore 9, 2) := by decide +kernel
theorem d_M_chance_206 : decode m_M_chance.2.1 206 = .ok (.iconst 0, 1) := by decide +kernel
theorem d_M_chance_207 : decode m_M_chance.2.1 207 = .ok (.istore 11, 2) := by decide +kernel
theorem d_M_chance_209 : decode m_M_chance.2.1 209 = .ok (.iload 11, 2) := by decide +kernel
theorem d_M_chance_211 : decode m_M_chance.2.1 211 = .ok (.bipush 12, 2) := by decide +kernel
theorem d_M_chance_213 : decode m_M_chance.2.1 213 = .ok (.if_icmp .ge 49, 3) := by decide +kernel
theorem d_M_chance_216 : decode m_M_chance.2.1 216 = .ok (.lload 9, 2) := by decide +kernel
theorem d_M_chance_218 : decode m_M_chance.2.1 218 = .ok (.iload_n 3, 1) := by decide +kernel
theorem d_M_chance_219 : decode m_M_chance.2.1 219 = .ok (.ifCond .ge 17, 3) := by decide +kernel
theorem d_M_chance_222 : decode m_M_chance.2.1 222 = .ok (.iload 11, 2) := by decide +kernel
theorem d_M_chance_224 : decode m_M_chance.2.1 224 = .ok (.i2l, 1) := by decide +kernel
theorem d_M_chance_225 : decode m_M_chance.2.1 225 = .ok (.aload_n 0, 1) := by decide +kernel
theorem d_M_chance_226 : decode m_M_chance.2.1 226 = .ok (.getfield 38, 3) := by decide +kernel
theorem d_M_chance_229 : decode m_M_chance.2.1 229 = .ok (.iload 11, 2) := by decide +kernel
theorem d_M_chance_231 : decode m_M_chance.2.1 231 = .ok (.laload, 1) := by decide +kernel
theorem d_M_chance_232 : decode m_M_chance.2.1 232 = .ok (.lmul, 1) := by decide +kernel
theorem d_M_chance_233 : decode m_M_chance.2.1 233 = .ok (.goto 20, 3) := by decide +kernel
theorem d_M_chance_236 : decode m_M_chance.2.1 236 = .ok (.iload 11, 2) := by decide +kernel
theorem d_M_chance_238 : decode m_M_chance.2.1 238 = .ok (.iload_n 3, 1) := by decide +kernel
theorem d_M_chance_239 : decode m_M_chance.2.1 239 = .ok (.if_icmp .gt 13, 3) := by decide +kernel
theorem d_M_chance_242 : decode m_M_chance.2.1 242 = .ok (.aload_n 0, 1) := by decide +kernel
theorem d_M_chance_243 : decode m_M_chance.2.1 243 = .ok (.getfield 38, 3) := by decide +kernel
theorem d_M_chance_246 : decode m_M_chance.2.1 246 = .ok (.iload 11, 2) := by decide +kernel
theorem d_M_chance_248 : decode m_M_chance.2.1 248 = .ok (.laload, 1) := by decide +kernel
theorem d_M_chance_249 : decode m_M_chance.2.1 249 = .ok (.goto 4, 3) := by decide +kernel
theorem d_M_chance_252 : decode m_M_chance.2.1 252 = .ok (.lconst 0, 1) := by decide +kernel
theorem d_M_chance_253 : decode m_M_chance.2.1 253 = .ok (.ladd, 1) := by decide +kernel
theorem d_M_chance_254 : decode m_M_chance.2.1 254 = .ok (.lstore 9, 2) := by decide +kernel
theorem d_M_chance_256 : decode m_M_chance.2.1 256 = .ok (.iinc 11 1, 3) := by decide +kernel
theorem d_M_chance_259 : decode m_M_chance.2.1 259 = .ok (.goto (-50), 3) := by decide +kernel
theorem d_M_chance_262 : decode m_M_chance.2.1 262 = .ok (.lload 9, 2) := by decide +kernel
theorem d_M_chance_264 : decode m_M_chance.2.1 264 = .ok (.lstore 11, 2) := by decide +kernel
theorem d_M_chance_266 : decode m_M_chance.2.1 266 = .ok (.lload 7, 2) := by decide +kernel
theorem d_M_chance_268 : decode m_M_chance.2.1 268 = .ok (.lstore 13, 2) := by decide +kernel
theorem d_M_chance_270 : decode m_M_chance.2.1 270 = .ok (.lload 13, 2) := by decide +kernel
theorem d_M_chance_272 : decode m_M_chance.2.1 272 = .ok (.lconst 0, 1) := by decide +kernel
theorem d_M_chance_273 : decode m_M_chance.2.1 273 = .ok (.lcmp, 1) := by decide +kernel
theorem d_M_chance_274 : decode m_M_chance.2.1 274 = .ok (.ifCond .eq 21, 3) := by decide +kernel
theorem d_M_chance_277 : decode m_M_chance.2.1 277 = .ok (.lload 11, 2) := by decide +kernel
theorem d_M_chance_279 : decode m_M_chance.2.1 279 = .ok (.lload 13, 2) := by decide +kernel
theorem d_M_chance_281 : decode m_M_chance.2.1 281 = .ok (.lrem, 1) := by decide +kernel
theorem d_M_chance_282 : decode m_M_chance.2.1 282 = .ok (.lstore 15, 2) := by decide +kernel
theorem d_M_chance_284 : decode m_M_chance.2.1 284 = .ok (.lload 13, 2) := by decide +kernel
theorem d_M_chance_286 : decode m_M_chance.2.1 286 = .ok (.lstore 11, 2) := by decide +kernel
theorem d_M_chance_288 : decode m_M_chance.2.1 288 = .ok (.lload 15, 2) := by decide +kernel
theorem d_M_chance_290 : decode m_M_chance.2.1 290 = .ok (.lstore 13, 2) := by decide +kernel
theorem d_M_chance_292 : decode m_M_chance.2.1 292 = .ok (.goto (-22), 3) := by decide +kernel
theorem d_M_chance_295 : decode m_M_chance.2.1 295 = .ok (.iload 4, 2) := by decide +kernel
theorem d_M_chance_297 : decode m_M_chance.2.1 297 = .ok (.ifCond .ne 11, 3) := by decide +kernel
theorem d_M_chance_300 : decode m_M_chance.2.1 300 = .ok (.lload 9, 2) := by decide +kernel
theorem d_M_chance_302 : decode m_M_chance.2.1 302 = .ok (.lload 11, 2) := by decide +kernel
theorem d_M_chance_304 : decode m_M_chance.2.1 304 = .ok (.ldiv, 1) := by decide +kernel
theorem d_M_chance_305 : decode m_M_chance.2.1 305 = .ok (.goto 8, 3) := by decide +kernel
theorem d_M_chance_308 : decode m_M_chance.2.1 308 = .ok (.lload 7, 2) := by decide +kernel
theorem d_M_chance_310 : decode m_M_chance.2.1 310 = .ok (.lload 11, 2) := by decide +kernel
theorem d_M_chance_312 : decode m_M_chance.2.1 312 = .ok (.ldiv, 1) := by decide +kernel
theorem d_M_chance_313 : decode m_M_chance.2.1 313 = .ok (.lreturn, 1) := by decide +kernel
theorem d_M_year_0 : decode m_M_year.2.1 0 = .ok (.iload_n 1, 1) := by decide +kernel
theorem d_M_year_1 : decode m_M_year.2.1 1 = .ok (.iconst 0, 1) := by decide +kernel
theorem d_M_year_2 : decode m_M_year.2.1 2 = .ok (.sipush 9999, 3) := by decide +kernel
theorem d_M_year_5 : decode m_M_year.2.1 5 = .ok (.invokestatic 52, 3) := by decide +kernel
theorem d_M_year_8 : decode m_M_year.2.1 8 = .ok (.ifCond .eq 22, 3) := by decide +kernel
theorem d_M_year_11 : decode m_M_year.2.1 11 = .ok (.iload_n 2, 1) := by decide +kernel
theorem d_M_year_12 : decode m_M_year.2.1 12 = .ok (.iconst 1, 1) := by decide +kernel
theorem d_M_year_13 : decode m_M_year.2.1 13 = .ok (.bipush 99, 2) := by decide +kernel
theorem d_M_year_15 : decode m_M_year.2.1 15 = .ok (.invokestatic 52, 3) := by decide +kernel
theorem d_M_year_18 : decode m_M_year.2.1 18 = .ok (.ifCond .eq 12, 3) := by decide +kernel
theorem d_M_year_21 : decode m_M_year.2.1 21 = .ok (.iload_n 3, 1) := by decide +kernel
theorem d_M_year_22 : decode m_M_year.2.1 22 = .ok (.iconst 0, 1) := by decide +kernel
theorem d_M_year_23 : decode m_M_year.2.1 23 = .ok (.iconst 2, 1) := by decide +kernel
theorem d_M_year_24 : decode m_M_year.2.1 24 = .ok (.invokestatic 52, 3) := by decide +kernel
theorem d_M_year_27 : decode m_M_year.2.1 27 = .ok (.ifCond .ne 6, 3) := by decide +kernel
theorem d_M_year_30 : decode m_M_year.2.1 30 = .ok (.bipush (-2), 2) := by decide +kernel
theorem d_M_year_32 : decode m_M_year.2.1 32 = .ok (.ireturn, 1) := by decide +kernel
theorem d_M_year_33 : decode m_M_year.2.1 33 = .ok (.aload_n 0, 1) := by decide +kernel
theorem d_M_year_34 : decode m_M_year.2.1 34 = .ok (.invokevirtual 88, 3) := by decide +kernel
theorem d_M_year_37 : decode m_M_year.2.1 37 = .ok (.iload_n 1, 1) := by decide +kernel
theorem d_M_year_38 : decode m_M_year.2.1 38 = .ok (.istore 4, 2) := by decide +kernel
theorem d_M_year_40 : decode m_M_year.2.1 40 = .ok (.iconst 0, 1) := by decide +kernel
theorem d_M_year_41 : decode m_M_year.2.1 41 = .ok (.istore 5, 2) := by decide +kernel
theorem d_M_year_43 : decode m_M_year.2.1 43 = .ok (.iload 5, 2) := by decide +kernel
theorem d_M_year_45 : decode m_M_year.2.1 45 = .ok (.iload_n 2, 1) := by decide +kernel
theorem d_M_year_46 : decode m_M_year.2.1 46 = .ok (.if_icmp .ge 106, 3) := by decide +kernel
theorem d_M_year_49 : decode m_M_year.2.1 49 = .ok (.bipush 75, 2) := by decide +kernel
theorem d_M_year_51 : decode m_M_year.2.1 51 = .ok (.iload 4, 2) := by decide +kernel
theorem d_M_year_53 : decode m_M_year.2.1 53 = .ok (.imul, 1) := by decide +kernel
theorem d_M_year_54 : decode m_M_year.2.1 54 = .ok (.bipush 74, 2) := by decide +kernel
theorem d_M_year_56 : decode m_M_year.2.1 56 = .ok (.iadd, 1) := by decide +kernel
theorem d_M_year_57 : decode m_M_year.2.1 57 = .ok (.ldc 141, 2) := by decide +kernel
theorem d_M_year_59 : decode m_M_year.2.1 59 = .ok (.irem, 1) := by decide +kernel
theorem d_M_year_60 : decode m_M_year.2.1 60 = .ok (.istore 4, 2) := by decide +kernel
theorem d_M_year_62 : decode m_M_year.2.1 62 = .ok (.iload 4, 2) := by decide +kernel
theorem d_M_year_64 : decode m_M_year.2.1 64 = .ok (.bipush 8, 2) := by decide +kernel
theorem d_M_year_66 : decode m_M_year.2.1 66 = .ok (.irem, 1) := by decide +kernel
theorem d_M_year_67 : decode m_M_year.2.1 67 = .ok (.istore 6, 2) := by decide +kernel
theorem d_M_year_69 : decode m_M_year.2.1 69 = .ok (.iload 6, 2) := by decide +kernel
theorem d_M_year_71 : decode m_M_year.2.1 71 = .ok (.ifCond .ne 11, 3) := by decide +kernel
theorem d_M_year_74 : decode m_M_year.2.1 74 = .ok (.aload_n 0, 1) := by decide +kernel
theorem d_M_year_75 : decode m_M_year.2.1 75 = .ok (.invokevirtual 100, 3) := by decide +kernel
theorem d_M_year_78 : decode m_M_year.2.1 78 = .ok (.pop, 1) := by decide +kernel
theorem d_M_year_79 : decode m_M_year.2.1 79 = .ok (.goto 67, 3) := by decide +kernel
theorem d_M_year_82 : decode m_M_year.2.1 82 = .ok (.iload 6, 2) := by decide +kernel
theorem d_M_year_84 : decode m_M_year.2.1 84 = .ok (.iconst 1, 1) := by decide +kernel
theorem d_M_year_85 : decode m_M_year.2.1 85 = .ok (.if_icmp .ne 26, 3) := by decide +kernel
theorem d_M_year_88 : decode m_M_year.2.1 88 = .ok (.aload_n 0, 1) := by decide +kernel
theorem d_M_year_89 : decode m_M_year.2.1 89 = .ok (.getfield 13, 3) := by decide +kernel
theorem d_M_year_92 : decode m_M_year.2.1 92 = .ok (.bipush 14, 2) := by decide +kernel
theorem d_M_year_94 : decode m_M_year.2.1 94 = .ok (.dup2, 1) := by decide +kernel
theorem d_M_year_95 : decode m_M_year.2.1 95 = .ok (.iaload, 1) := by decide +kernel
theorem d_M_year_96 : decode m_M_year.2.1 96 = .ok (.iconst 1, 1) := by decide +kernel
theorem d_M_year_97 : decode m_M_year.2.1 97 = .ok (.iload 4, 2) := by decide +kernel
theorem d_M_year_99 : decode m_M_year.2.1 99 = .ok (.bipush 8, 2) := by decide +kernel
theorem d_M_year_101 : decode m_M_year.2.1 101 = .ok (.idiv, 1) := by decide +kernel
theorem d_M_year_102 : decode m_M_year.2.1 102 = .ok (.bipush 12, 2) := by decide +kernel
theorem d_M_year_104 : decode m_M_year.2.1 104 = .ok (.irem, 1) := by decide +kernel
theorem d_M_year_105 : decode m_M_year.2.1 105 = .ok (.ishl, 1) := by decide +kernel
theorem d_M_year_106 : decode m_M_year.2.1 106 = .ok (.ixor, 1) := by decide +kernel
theorem d_M_year_107 : decode m_M_year.2.1 107 = .ok (.iastore, 1) := by decide +kernel
theorem d_M_year_108 : decode m_M_year.2.1 108 = .ok (.goto 38, 3) := by decide +kernel
theorem d_M_year_111 : decode m_M_year.2.1 111 = .ok (.iload 6, 2) := by decide +kernel
theorem d_M_year_113 : decode m_M_year.2.1 113 = .ok (.iconst 5, 1) := by decide +kernel
theorem d_M_year_114 : decode m_M_year.2.1 114 = .ok (.if_icmp .ge 19, 3) := by decide +kernel
theorem d_M_year_117 : decode m_M_year.2.1 117 = .ok (.aload_n 0, 1) := by decide +kernel
theorem d_M_year_118 : decode m_M_year.2.1 118 = .ok (.iload 4, 2) := by decide +kernel
theorem d_M_year_120 : decode m_M_year.2.1 120 = .ok (.bipush 8, 2) := by decide +kernel
theorem d_M_year_122 : decode m_M_year.2.1 122 = .ok (.idiv, 1) := by decide +kernel
theorem d_M_year_123 : decode m_M_year.2.1 123 = .ok (.bipush 12, 2) := by decide +kernel
theorem d_M_year_125 : decode m_M_year.2.1 125 = .ok (.irem, 1) := by decide +kernel
theorem d_M_year_126 : decode m_M_year.2.1 126 = .ok (.invokevirtual 103, 3) := by decide +kernel
theorem d_M_year_129 : decode m_M_year.2.1 129 = .ok (.pop, 1) := by decide +kernel
theorem d_M_year_130 : decode m_M_year.2.1 130 = .ok (.goto 16, 3) := by decide +kernel
theorem d_M_year_133 : decode m_M_year.2.1 133 = .ok (.aload_n 0, 1) := by decide +kernel
theorem d_M_year_134 : decode m_M_year.2.1 134 = .ok (.iload 4, 2) := by decide +kernel
theorem d_M_year_136 : decode m_M_year.2.1 136 = .ok (.bipush 8, 2) := by decide +kernel
theorem d_M_year_138 : decode m_M_year.2.1 138 = .ok (.idiv, 1) := by decide +kernel
theorem d_M_year_139 : decode m_M_year.2.1 139 = .ok (.bipush 6, 2) := by decide +kernel
theorem d_M_year_141 : decode m_M_year.2.1 141 = .ok (.irem, 1) := by decide +kernel
theorem d_M_year_142 : decode m_M_year.2.1 142 = .ok (.invokevirtual 107, 3) := by decide +kernel
theorem d_M_year_145 : decode m_M_year.2.1 145 = .ok (.pop, 1) := by decide +kernel
theorem d_M_year_146 : decode m_M_year.2.1 146 = .ok (.iinc 5 1, 3) := by decide +kernel
theorem d_M_year_149 : decode m_M_year.2.1 149 = .ok (.goto (-106), 3) := by decide +kernel
theorem d_M_year_152 : decode m_M_year.2.1 152 = .ok (.iconst 0, 1) := by decide +kernel
theorem d_M_year_153 : decode m_M_year.2.1 153 = .ok (.istore 5, 2) := by decide +kernel
theorem d_M_year_155 : decode m_M_year.2.1 155 = .ok (.iconst 0, 1) := by decide +kernel
theorem d_M_year_156 : decode m_M_year.2.1 156 = .ok (.istore 6, 2) := by decide +kernel
theorem d_M_year_158 : decode m_M_year.2.1 158 = .ok (.iload 6, 2) := by decide +kernel
theorem d_M_year_160 : decode m_M_year.2.1 160 = .ok (.bipush 12, 2) := by decide +kernel
theorem d_M_year_162 : decode m_M_year.2.1 162 = .ok (.if_icmp .ge 24, 3) := by decide +kernel
theorem d_M_year_165 : decode m_M_year.2.1 165 = .ok (.iload 5, 2) := by decide +kernel
theorem d_M_year_167 : decode m_M_year.2.1 167 = .ok (.aload_n 0, 1) := by decide +kernel
theorem d_M_year_168 : decode m_M_year.2.1 168 = .ok (.getfield 13, 3) := by decide +kernel
theorem d_M_year_171 : decode m_M_year.2.1 171 = .ok (.iload 6, 2) := by decide +kernel
theorem d_M_year_173 : decode m_M_year.2.1 173 = .ok (.iaload, 1) := by decide +kernel
theorem d_M_year_174 : decode m_M_year.2.1 174 = .ok (.invokestatic 120, 3) := by decide +kernel
theorem d_M_year_177 : decode m_M_year.2.1 177 = .ok (.iadd, 1) := by decide +kernel
theorem d_M_year_178 : decode m_M_year.2.1 178 = .ok (.istore 5, 2) := by decide +kernel
theorem d_M_year_180 : decode m_M_year.2.1 180 = .ok (.iinc 6 1, 3) := by decide +kernel
theorem d_M_year_183 : decode m_M_year.2.1 183 = .ok (.goto (-25), 3) := by decide +kernel
theorem d_M_year_186 : decode m_M_year.2.1 186 = .ok (.iload_n 3, 1) := by decide +kernel
theorem d_M_year_187 : decode m_M_year.2.1 187 = .ok (.ifCond .ne 8, 3) := by decide +kernel
theorem d_M_year_190 : decode m_M_year.2.1 190 = .ok (.iload 5, 2) := by decide +kernel
theorem d_M_year_192 : decode m_M_year.2.1 192 = .ok (.goto 28, 3) := by decide +kernel
theorem d_M_year_195 : decode m_M_year.2.1 195 = .ok (.iload_n 3, 1) := by decide +kernel
theorem d_M_year_196 : decode m_M_year.2.1 196 = .ok (.iconst 1, 1) := by decide +kernel
theorem d_M_year_197 : decode m_M_year.2.1 197 = .ok (.if_icmp .ne 13, 3) := by decide +kernel
theorem d_M_year_200 : decode m_M_year.2.1 200 = .ok (.aload_n 0, 1) := by decide +kernel
theorem d_M_year_201 : decode m_M_year.2.1 201 = .ok (.getfield 13, 3) := by decide +kernel
theorem d_M_year_204 : decode m_M_year.2.1 204 = .ok (.bipush 12, 2) := by decide +kernel
theorem d_M_year_206 : decode m_M_year.2.1 206 = .ok (.iaload, 1) := by decide +kernel
theorem d_M_year_207 : decode m_M_year.2.1 207 = .ok (.goto 13, 3) := by decide +kernel
theorem d_M_year_210 : decode m_M_year.2.1 210 = .ok (.aload_n 0, 1) := by decide +kernel
theorem d_M_year_211 : decode m_M_year.2.1 211 = .ok (.getfield 13, 3) := by decide +kernel
theorem d_M_year_214 : decode m_M_year.2.1 214 = .ok (.bipush 15, 2) := by decide +kernel
theorem d_M_year_216 : decode m_M_year.2.1 216 = .ok (.iaload, 1) := by decide +kernel
theorem d_M_year_217 : decode m_M_year.2.1 217 = .ok (.invokestatic 120, 3) := by decide +kernel
theorem d_M_year_220 : decode m_M_year.2.1 220 = .ok (.ireturn, 1) := by decide +kernel
theorem d_M_image_0 : decode m_M_image.2.1 0 = .ok (.iload_n 1, 1) := by decide +kernel
theorem d_M_image_1 : decode m_M_image.2.1 1 = .ok (.iconst 0, 1) := by decide +kernel
theorem d_M_image_2 : decode m_M_image.2.1 2 = .ok (.iconst 1, 1) := by decide +kernel
theorem d_M_image_3 : decode m_M_image.2.1 3 = .ok (.invokestatic 52, 3) := by decide +kernel
theorem d_M_image_6 : decode m_M_image.2.1 6 = .ok (.ifCond .ne 6, 3) := by decide +kernel
theorem d_M_image_9 : decode m_M_image.2.1 9 = .ok (.bipush (-2), 2) := by decide +kernel
theorem d_M_image_11 : decode m_M_image.2.1 11 = .ok (.ireturn, 1) := by decide +kernel
theorem d_M_image_12 : decode m_M_image.2.1 12 = .ok (.bipush 80, 2) := by decide +kernel
theorem d_M_image_14 : decode m_M_image.2.1 14 = .ok (.iload_n 1, 1) := by decide +kernel
theorem d_M_image_15 : decode m_M_image.2.1 15 = .ok (.imul, 1) := by decide +kernel
theorem d_M_image_16 : decode m_M_image.2.1 16 = .ok (.istore_n 2, 1) := by decide +kernel
theorem d_M_image_17 : decode m_M_image.2.1 17 = .ok (.iconst 0, 1) := by decide +kernel
theorem d_M_image_18 : decode m_M_image.2.1 18 = .ok (.istore_n 3, 1) := by decide +kernel
theorem d_M_image_19 : decode m_M_image.2.1 19 = .ok (.iload_n 3, 1) := by decide +kernel
theorem d_M_image_20 : decode m_M_image.2.1 20 = .ok (.bipush 16, 2) := by decide +kernel
theorem d_M_image_22 : decode m_M_image.2.1 22 = .ok (.if_icmp .ge 40, 3) := by decide +kernel
theorem d_M_image_25 : decode m_M_image.2.1 25 = .ok (.aload_n 0, 1) := by decide +kernel
theorem d_M_image_26 : decode m_M_image.2.1 26 = .ok (.getfield 42, 3) := by decide +kernel
theorem d_M_image_29 : decode m_M_image.2.1 29 = .ok (.iload_n 2, 1) := by decide +kernel
theorem d_M_image_30 : decode m_M_image.2.1 30 = .ok (.iload_n 3, 1) := by decide +kernel
theorem d_M_image_31 : decode m_M_image.2.1 31 = .ok (.iadd, 1) := by decide +kernel
theorem d_M_image_32 : decode m_M_image.2.1 32 = .ok (.aload_n 0, 1) := by decide +kernel
theorem d_M_image_33 : decode m_M_image.2.1 33 = .ok (.getfield 7, 3) := by decide +kernel
theorem d_M_image_36 : decode m_M_image.2.1 36 = .ok (.iload_n 3, 1) := by decide +kernel
theorem d_M_image_37 : decode m_M_image.2.1 37 = .ok (.iaload, 1) := by decide +kernel
theorem d_M_image_38 : decode m_M_image.2.1 38 = .ok (.iastore, 1) := by decide +kernel
theorem d_M_image_39 : decode m_M_image.2.1 39 = .ok (.aload_n 0, 1) := by decide +kernel
theorem d_M_image_40 : decode m_M_image.2.1 40 = .ok (.getfield 42, 3) := by decide +kernel
theorem d_M_image_43 : decode m_M_image.2.1 43 = .ok (.iload_n 2, 1) := by decide +kernel
theorem d_M_image_44 : decode m_M_image.2.1 44 = .ok (.bipush 16, 2) := by decide +kernel
theorem d_M_image_46 : decode m_M_image.2.1 46 = .ok (.iadd, 1) := by decide +kernel
theorem d_M_image_47 : decode m_M_image.2.1 47 = .ok (.iload_n 3, 1) := by decide +kernel
theorem d_M_image_48 : decode m_M_image.2.1 48 = .ok (.iadd, 1) := by decide +kernel
theorem d_M_image_49 : decode m_M_image.2.1 49 = .ok (.aload_n 0, 1) := by decide +kernel
theorem d_M_image_50 : decode m_M_image.2.1 50 = .ok (.getfield 26, 3) := by decide +kernel
theorem d_M_image_53 : decode m_M_image.2.1 53 = .ok (.iload_n 3, 1) := by decide +kernel
theorem d_M_image_54 : decode m_M_image.2.1 54 = .ok (.iaload, 1) := by decide +kernel
theorem d_M_image_55 : decode m_M_image.2.1 55 = .ok (.iastore, 1) := by decide +kernel
theorem d_M_image_56 : decode m_M_image.2.1 56 = .ok (.iinc 3 1, 3) := by decide +kernel
theorem d_M_image_59 : decode m_M_image.2.1 59 = .ok (.goto (-40), 3) := by decide +kernel
theorem d_M_image_62 : decode m_M_image.2.1 62 = .ok (.iconst 0, 1) := by decide +kernel
theorem d_M_image_63 : decode m_M_image.2.1 63 = .ok (.istore_n 3, 1) := by decide +kernel
theorem d_M_image_64 : decode m_M_image.2.1 64 = .ok (.iload_n 3, 1) := by decide +kernel
theorem d_M_image_65 : decode m_M_image.2.1 65 = .ok (.bipush 24, 2) := by decide +kernel
theorem d_M_image_67 : decode m_M_image.2.1 67 = .ok (.if_icmp .ge 26, 3) := by decide +kernel
theorem d_M_image_70 : decode m_M_image.2.1 70 = .ok (.aload_n 0, 1) := by decide +kernel
theorem d_M_image_71 : decode m_M_image.2.1 71 = .ok (.getfield 42, 3) := by decide +kernel
theorem d_M_image_74 : decode m_M_image.2.1 74 = .ok (.iload_n 2, 1) := by decide +kernel
theorem d_M_image_75 : decode m_M_image.2.1 75 = .ok (.bipush 32, 2) := by decide +kernel
theorem d_M_image_77 : decode m_M_image.2.1 77 = .ok (.iadd, 1) := by decide +kernel
theorem d_M_image_78 : decode m_M_image.2.1 78 = .ok (.iload_n 3, 1) := by decide +kernel
theorem d_M_image_79 : decode m_M_image.2.1 79 = .ok (.iadd, 1) := by decide +kernel
theorem d_M_image_80 : decode m_M_image.2.1 80 = .ok (.aload_n 0, 1) := by decide +kernel
theorem d_M_image_81 : decode m_M_image.2.1 81 = .ok (.getfield 23, 3) := by decide +kernel
theorem d_M_image_84 : decode m_M_image.2.1 84 = .ok (.iload_n 3, 1) := by decide +kernel
theorem d_M_image_85 : decode m_M_image.2.1 85 = .ok (.iaload, 1) := by decide +kernel
theorem d_M_image_86 : decode m_M_image.2.1 86 = .ok (.iastore, 1) := by decide +kernel
theorem d_M_image_87 : decode m_M_image.2.1 87 = .ok (.iinc 3 1, 3) := by decide +kernel
theorem d_M_image_90 : decode m_M_image.2.1 90 = .ok (.goto (-26), 3) := by decide +kernel
theorem d_M_image_93 : decode m_M_image.2.1 93 = .ok (.iconst 0, 1) := by decide +kernel
theorem d_M_image_94 : decode m_M_image.2.1 94 = .ok (.istore_n 3, 1) := by decide +kernel
theorem d_M_image_95 : decode m_M_image.2.1 95 = .ok (.iload_n 3, 1) := by decide +kernel
theorem d_M_image_96 : decode m_M_image.2.1 96 = .ok (.bipush 11, 2) := by decide +kernel
theorem d_M_image_98 : decode m_M_image.2.1 98 = .ok (.if_icmp .ge 26, 3) := by decide +kernel
theorem d_M_image_101 : decode m_M_image.2.1 101 = .ok (.aload_n 0, 1) := by decide +kernel
theorem d_M_image_102 : decode m_M_image.2.1 102 = .ok (.getfield 42, 3) := by decide +kernel
theorem d_M_image_105 : decode m_M_image.2.1 105 = .ok (.iload_n 2, 1) := by decide +kernel
theorem d_M_image_106 : decode m_M_image.2.1 106 = .ok (.bipush 56, 2) := by decide +kernel
theorem d_M_image_108 : decode m_M_image.2.1 108 = .ok (.iadd, 1) := by decide +kernel
theorem d_M_image_109 : decode m_M_image.2.1 109 = .ok (.iload_n 3, 1) := by decide +kernel
theorem d_M_image_110 : decode m_M_image.2.1 110 = .ok (.iadd, 1) := by decide +kernel
theorem d_M_image_111 : decode m_M_image.2.1 111 = .ok (.aload_n 0, 1) := by decide +kernel
theorem d_M_image_112 : decode m_M_image.2.1 112 = .ok (.getfield 16, 3) := by decide +kernel
theorem d_M_image_115 : decode m_M_image.2.1 115 = .ok (.iload_n 3, 1) := by decide +kernel
theorem d_M_image_116 : decode m_M_image.2.1 116 = .ok (.iaload, 1) := by decide +kernel
theorem d_M_image_117 : decode m_M_image.2.1 117 = .ok (.iastore, 1) := by decide +kernel
theorem d_M_image_118 : decode m_M_image.2.1 118 = .ok (.iinc 3 1, 3) := by decide +kernel
theorem d_M_image_121 : decode m_M_image.2.1 121 = .ok (.goto (-26), 3) := by decide +kernel
theorem d_M_image_124 : decode m_M_image.2.1 124 = .ok (.aload_n 0, 1) := by decide +kernel
theorem d_M_image_125 : decode m_M_image.2.1 125 = .ok (.getfield 42, 3) := by decide +kernel
theorem d_M_image_128 : decode m_M_image.2.1 128 = .ok (.iload_n 2, 1) := by decide +kernel
theorem d_M_image_129 : decode m_M_image.2.1 129 = .ok (.bipush 70, 2) := by decide +kernel
theorem d_M_image_131 : decode m_M_image.2.1 131 = .ok (.iadd, 1) := by decide +kernel
theorem d_M_image_132 : decode m_M_image.2.1 132 = .ok (.aload_n 0, 1) := by decide +kernel
theorem d_M_image_133 : decode m_M_image.2.1 133 = .ok (.getfield 49, 3) := by decide +kernel
theorem d_M_image_136 : decode m_M_image.2.1 136 = .ok (.iastore, 1) := by decide +kernel
theorem d_M_image_137 : decode m_M_image.2.1 137 = .ok (.aload_n 0, 1) := by decide +kernel
theorem d_M_image_138 : decode m_M_image.2.1 138 = .ok (.getfield 42, 3) := by decide +kernel
theorem d_M_image_141 : decode m_M_image.2.1 141 = .ok (.iload_n 2, 1) := by decide +kernel
theorem d_M_image_142 : decode m_M_image.2.1 142 = .ok (.bipush 71, 2) := by decide +kernel
theorem d_M_image_144 : decode m_M_image.2.1 144 = .ok (.iadd, 1) := by decide +kernel
theorem d_M_image_145 : decode m_M_image.2.1 145 = .ok (.aload_n 0, 1) := by decide +kernel
theorem d_M_image_146 : decode m_M_image.2.1 146 = .ok (.getfield 19, 3) := by decide +kernel
theorem d_M_image_149 : decode m_M_image.2.1 149 = .ok (.iastore, 1) := by decide +kernel
theorem d_M_image_150 : decode m_M_image.2.1 150 = .ok (.aload_n 0, 1) := by decide +kernel
theorem d_M_image_151 : decode m_M_image.2.1 151 = .ok (.getfield 42, 3) := by decide +kernel
theorem d_M_image_154 : decode m_M_image.2.1 154 = .ok (.iload_n 2, 1) := by decide +kernel
theorem d_M_image_155 : decode m_M_image.2.1 155 = .ok (.bipush 72, 2) := by decide +kernel
theorem d_M_image_157 : decode m_M_image.2.1 157 = .ok (.iadd, 1) := by decide +kernel
theorem d_M_image_158 : decode m_M_image.2.1 158 = .ok (.aload_n 0, 1) := by decide +kernel
theorem d_M_image_159 : decode m_M_image.2.1 159 = .ok (.getfield 60, 3) := by decide +kernel
theorem d_M_image_162 : decode m_M_image.2.1 162 = .ok (.iastore, 1) := by decide +kernel
theorem d_M_image_163 : decode m_M_image.2.1 163 = .ok (.aload_n 0, 1) := by decide +kernel
theorem d_M_image_164 : decode m_M_image.2.1 164 = .ok (.getfield 42, 3) := by decide +kernel
theorem d_M_image_167 : decode m_M_image.2.1 167 = .ok (.iload_n 2, 1) := by decide +kernel
theorem d_M_image_168 : decode m_M_image.2.1 168 = .ok (.bipush 73, 2) := by decide +kernel
theorem d_M_image_170 : decode m_M_image.2.1 170 = .ok (.iadd, 1) := by decide +kernel
theorem d_M_image_171 : decode m_M_image.2.1 171 = .ok (.aload_n 0, 1) := by decide +kernel
theorem d_M_image_172 : decode m_M_image.2.1 172 = .ok (.getfield 126, 3) := by decide +kernel
theorem d_M_image_175 : decode m_M_image.2.1 175 = .ok (.iastore, 1) := by decide +kernel
theorem d_M_image_176 : decode m_M_image.2.1 176 = .ok (.aload_n 0, 1) := by decide +kernel
theorem d_M_image_177 : decode m_M_image.2.1 177 = .ok (.getfield 45, 3) := by decide +kernel
theorem d_M_image_180 : decode m_M_image.2.1 180 = .ok (.iload_n 1, 1) := by decide +kernel
theorem d_M_image_181 : decode m_M_image.2.1 181 = .ok (.iconst 1, 1) := by decide +kernel
theorem d_M_image_182 : decode m_M_image.2.1 182 = .ok (.bastore, 1) := by decide +kernel
theorem d_M_image_183 : decode m_M_image.2.1 183 = .ok (.iconst 1, 1) := by decide +kernel
theorem d_M_image_184 : decode m_M_image.2.1 184 = .ok (.ireturn, 1) := by decide +kernel
theorem d_M_restore_0 : decode m_M_restore.2.1 0 = .ok (.iload_n 1, 1) := by decide +kernel
theorem d_M_restore_1 : decode m_M_restore.2.1 1 = .ok (.iconst 0, 1) := by decide +kernel
theorem d_M_restore_2 : decode m_M_restore.2.1 2 = .ok (.iconst 1, 1) := by decide +kernel
theorem d_M_restore_3 : decode m_M_restore.2.1 3 = .ok (.invokestatic 52, 3) := by decide +kernel
theorem d_M_restore_6 : decode m_M_restore.2.1 6 = .ok (.ifCond .ne 6, 3) := by decide +kernel
theorem d_M_restore_9 : decode m_M_restore.2.1 9 = .ok (.bipush (-2), 2) := by decide +kernel
theorem d_M_restore_11 : decode m_M_restore.2.1 11 = .ok (.ireturn, 1) := by decide +kernel
theorem d_M_restore_12 : decode m_M_restore.2.1 12 = .ok (.aload_n 0, 1) := by decide +kernel
theorem d_M_restore_13 : decode m_M_restore.2.1 13 = .ok (.getfield 45, 3) := by decide +kernel
theorem d_M_restore_16 : decode m_M_restore.2.1 16 = .ok (.iload_n 1, 1) := by decide +kernel
theorem d_M_restore_17 : decode m_M_restore.2.1 17 = .ok (.baload, 1) := by decide +kernel
theorem d_M_restore_18 : decode m_M_restore.2.1 18 = .ok (.ifCond .ne 6, 3) := by decide +kernel
theorem d_M_restore_21 : decode m_M_restore.2.1 21 = .ok (.bipush (-3), 2) := by decide +kernel
theorem d_M_restore_23 : decode m_M_restore.2.1 23 = .ok (.ireturn, 1) := by decide +kernel
theorem d_M_restore_24 : decode m_M_restore.2.1 24 = .ok (.bipush 80, 2) := by decide +kernel
theorem d_M_restore_26 : decode m_M_restore.2.1 26 = .ok (.iload_n 1, 1) := by decide +kernel
theorem d_M_restore_27 : decode m_M_restore.2.1 27 = .ok (.imul, 1) := by decide +kernel
theorem d_M_restore_28 : decode m_M_restore.2.1 28 = .ok (.istore_n 2, 1) := by decide +kernel
theorem d_M_restore_29 : decode m_M_restore.2.1 29 = .ok (.iconst 0, 1) := by decide +kernel
theorem d_M_restore_30 : decode m_M_restore.2.1 30 = .ok (.istore_n 3, 1) := by decide +kernel
theorem d_M_restore_31 : decode m_M_restore.2.1 31 = .ok (.iload_n 3, 1) := by decide +kernel
theorem d_M_restore_32 : decode m_M_restore.2.1 32 = .ok (.bipush 16, 2) := by decide +kernel
theorem d_M_restore_34 : decode m_M_restore.2.1 34 = .ok (.if_icmp .ge 40, 3) := by decide +kernel
theorem d_M_restore_37 : decode m_M_restore.2.1 37 = .ok (.aload_n 0, 1) := by decide +kernel
theorem d_M_restore_38 : decode m_M_restore.2.1 38 = .ok (.getfield 7, 3) := by decide +kernel
theorem d_M_restore_41 : decode m_M_restore.2.1 41 = .ok (.iload_n 3, 1) := by decide +kernel
theorem d_M_restore_42 : decode m_M_restore.2.1 42 = .ok (.aload_n 0, 1) := by decide +kernel
theorem d_M_restore_43 : decode m_M_restore.2.1 43 = .ok (.getfield 42, 3) := by decide +kernel
theorem d_M_restore_46 : decode m_M_restore.2.1 46 = .ok (.iload_n 2, 1) := by decide +kernel
theorem d_M_restore_47 : decode m_M_restore.2.1 47 = .ok (.iload_n 3, 1) := by decide +kernel
theorem d_M_restore_48 : decode m_M_restore.2.1 48 = .ok (.iadd, 1) := by decide +kernel
theorem d_M_restore_49 : decode m_M_restore.2.1 49 = .ok (.iaload, 1) := by decide +kernel
theorem d_M_restore_50 : decode m_M_restore.2.1 50 = .ok (.iastore, 1) := by decide +kernel
theorem d_M_restore_51 : decode m_M_restore.2.1 51 = .ok (.aload_n 0, 1) := by decide +kernel
theorem d_M_restore_52 : decode m_M_restore.2.1 52 = .ok (.getfield 26, 3) := by decide +kernel
theorem d_M_restore_55 : decode m_M_restore.2.1 55 = .ok (.iload_n 3, 1) := by decide +kernel
theorem d_M_restore_56 : decode m_M_restore.2.1 56 = .ok (.aload_n 0, 1) := by decide +kernel
theorem d_M_restore_57 : decode m_M_restore.2.1 57 = .ok (.getfield 42, 3) := by decide +kernel
theorem d_M_restore_60 : decode m_M_restore.2.1 60 = .ok (.iload_n 2, 1) := by decide +kernel
theorem d_M_restore_61 : decode m_M_restore.2.1 61 = .ok (.bipush 16, 2) := by decide +kernel
theorem d_M_restore_63 : decode m_M_restore.2.1 63 = .ok (.iadd, 1) := by decide +kernel
theorem d_M_restore_64 : decode m_M_restore.2.1 64 = .ok (.iload_n 3, 1) := by decide +kernel
theorem d_M_restore_65 : decode m_M_restore.2.1 65 = .ok (.iadd, 1) := by decide +kernel
theorem d_M_restore_66 : decode m_M_restore.2.1 66 = .ok (.iaload, 1) := by decide +kernel
theorem d_M_restore_67 : decode m_M_restore.2.1 67 = .ok (.iastore, 1) := by decide +kernel
theorem d_M_restore_68 : decode m_M_restore.2.1 68 = .ok (.iinc 3 1, 3) := by decide +kernel
theorem d_M_restore_71 : decode m_M_restore.2.1 71 = .ok (.goto (-40), 3) := by decide +kernel
theorem d_M_restore_74 : decode m_M_restore.2.1 74 = .ok (.iconst 0, 1) := by decide +kernel
theorem d_M_restore_75 : decode m_M_restore.2.1 75 = .ok (.istore_n 3, 1) := by decide +kernel
theorem d_M_restore_76 : decode m_M_restore.2.1 76 = .ok (.iload_n 3, 1) := by decide +kernel
theorem d_M_restore_77 : decode m_M_restore.2.1 77 = .ok (.bipush 24, 2) := by decide +kernel
theorem d_M_restore_79 : decode m_M_restore.2.1 79 = .ok (.if_icmp .ge 26, 3) := by decide +kernel
theorem d_M_restore_82 : decode m_M_restore.2.1 82 = .ok (.aload_n 0, 1) := by decide +kernel
theorem d_M_restore_83 : decode m_M_restore.2.1 83 = .ok (.getfield 23, 3) := by decide +kernel
theorem d_M_restore_86 : decode m_M_restore.2.1 86 = .ok (.iload_n 3, 1) := by decide +kernel
theorem d_M_restore_87 : decode m_M_restore.2.1 87 = .ok (.aload_n 0, 1) := by decide +kernel
theorem d_M_restore_88 : decode m_M_restore.2.1 88 = .ok (.getfield 42, 3) := by decide +kernel
theorem d_M_restore_91 : decode m_M_restore.2.1 91 = .ok (.iload_n 2, 1) := by decide +kernel
theorem d_M_restore_92 : decode m_M_restore.2.1 92 = .ok (.bipush 32, 2) := by decide +kernel
theorem d_M_restore_94 : decode m_M_restore.2.1 94 = .ok (.iadd, 1) := by decide +kernel
theorem d_M_restore_95 : decode m_M_restore.2.1 95 = .ok (.iload_n 3, 1) := by decide +kernel
theorem d_M_restore_96 : decode m_M_restore.2.1 96 = .ok (.iadd, 1) := by decide +kernel
theorem d_M_restore_97 : decode m_M_restore.2.1 97 = .ok (.iaload, 1) := by decide +kernel
theorem d_M_restore_98 : decode m_M_restore.2.1 98 = .ok (.iastore, 1) := by decide +kernel
theorem d_M_restore_99 : decode m_M_restore.2.1 99 = .ok (.iinc 3 1, 3) := by decide +kernel
theorem d_M_restore_102 : decode m_M_restore.2.1 102 = .ok (.goto (-26), 3) := by decide +kernel
theorem d_M_restore_105 : decode m_M_restore.2.1 105 = .ok (.iconst 0, 1) := by decide +kernel
theorem d_M_restore_106 : decode m_M_restore.2.1 106 = .ok (.istore_n 3, 1) := by decide +kernel
theorem d_M_restore_107 : decode m_M_restore.2.1 107 = .ok (.iload_n 3, 1) := by decide +kernel
theorem d_M_restore_108 : decode m_M_restore.2.1 108 = .ok (.bipush 11, 2) := by decide +kernel
theorem d_M_restore_110 : decode m_M_restore.2.1 110 = .ok (.if_icmp .ge 26, 3) := by decide +kernel
theorem d_M_restore_113 : decode m_M_restore.2.1 113 = .ok (.aload_n 0, 1) := by decide +kernel
theorem d_M_restore_114 : decode m_M_restore.2.1 114 = .ok (.getfield 16, 3) := by decide +kernel
theorem d_M_restore_117 : decode m_M_restore.2.1 117 = .ok (.iload_n 3, 1) := by decide +kernel
theorem d_M_restore_118 : decode m_M_restore.2.1 118 = .ok (.aload_n 0, 1) := by decide +kernel
theorem d_M_restore_119 : decode m_M_restore.2.1 119 = .ok (.getfield 42, 3) := by decide +kernel
theorem d_M_restore_122 : decode m_M_restore.2.1 122 = .ok (.iload_n 2, 1) := by decide +kernel
theorem d_M_restore_123 : decode m_M_restore.2.1 123 = .ok (.bipush 56, 2) := by decide +kernel
theorem d_M_restore_125 : decode m_M_restore.2.1 125 = .ok (.iadd, 1) := by decide +kernel
theorem d_M_restore_126 : decode m_M_restore.2.1 126 = .ok (.iload_n 3, 1) := by decide +kernel
theorem d_M_restore_127 : decode m_M_restore.2.1 127 = .ok (.iadd, 1) := by decide +kernel
theorem d_M_restore_128 : decode m_M_restore.2.1 128 = .ok (.iaload, 1) := by decide +kernel
theorem d_M_restore_129 : decode m_M_restore.2.1 129 = .ok (.iastore, 1) := by decide +kernel
theorem d_M_restore_130 : decode m_M_restore.2.1 130 = .ok (.iinc 3 1, 3) := by decide +kernel
theorem d_M_restore_133 : decode m_M_restore.2.1 133 = .ok (.goto (-26), 3) := by decide +kernel
theorem d_M_restore_136 : decode m_M_restore.2.1 136 = .ok (.aload_n 0, 1) := by decide +kernel
theorem d_M_restore_137 : decode m_M_restore.2.1 137 = .ok (.aload_n 0, 1) := by decide +kernel
theorem d_M_restore_138 : decode m_M_restore.2.1 138 = .ok (.getfield 42, 3) := by decide +kernel
theorem d_M_restore_141 : decode m_M_restore.2.1 141 = .ok (.iload_n 2, 1) := by decide +kernel
theorem d_M_restore_142 : decode m_M_restore.2.1 142 = .ok (.bipush 70, 2) := by decide +kernel
theorem d_M_restore_144 : decode m_M_restore.2.1 144 = .ok (.iadd, 1) := by decide +kernel
theorem d_M_restore_145 : decode m_M_restore.2.1 145 = .ok (.iaload, 1) := by decide +kernel
theorem d_M_restore_146 : decode m_M_restore.2.1 146 = .ok (.putfield 49, 3) := by decide +kernel
theorem d_M_restore_149 : decode m_M_restore.2.1 149 = .ok (.aload_n 0, 1) := by decide +kernel
theorem d_M_restore_150 : decode m_M_restore.2.1 150 = .ok (.aload_n 0, 1) := by decide +kernel
theorem d_M_restore_151 : decode m_M_restore.2.1 151 = .ok (.getfield 42, 3) := by decide +kernel
theorem d_M_restore_154 : decode m_M_restore.2.1 154 = .ok (.iload_n 2, 1) := by decide +kernel
theorem d_M_restore_155 : decode m_M_restore.2.1 155 = .ok (.bipush 71, 2) := by decide +kernel
theorem d_M_restore_157 : decode m_M_restore.2.1 157 = .ok (.iadd, 1) := by decide +kernel
theorem d_M_restore_158 : decode m_M_restore.2.1 158 = .ok (.iaload, 1) := by decide +kernel
theorem d_M_restore_159 : decode m_M_restore.2.1 159 = .ok (.putfield 19, 3) := by decide +kernel
theorem d_M_restore_162 : decode m_M_restore.2.1 162 = .ok (.aload_n 0, 1) := by decide +kernel
theorem d_M_restore_163 : decode m_M_restore.2.1 163 = .ok (.aload_n 0, 1) := by decide +kernel
theorem d_M_restore_164 : decode m_M_restore.2.1 164 = .ok (.getfield 42, 3) := by decide +kernel
theorem d_M_restore_167 : decode m_M_restore.2.1 167 = .ok (.iload_n 2, 1) := by decide +kernel
theorem d_M_restore_168 : decode m_M_restore.2.1 168 = .ok (.bipush 72, 2) := by decide +kernel
theorem d_M_restore_170 : decode m_M_restore.2.1 170 = .ok (.iadd, 1) := by decide +kernel
theorem d_M_restore_171 : decode m_M_restore.2.1 171 = .ok (.iaload, 1) := by decide +kernel
theorem d_M_restore_172 : decode m_M_restore.2.1 172 = .ok (.putfield 60, 3) := by decide +kernel
theorem d_M_restore_175 : decode m_M_restore.2.1 175 = .ok (.aload_n 0, 1) := by decide +kernel
theorem d_M_restore_176 : decode m_M_restore.2.1 176 = .ok (.aload_n 0, 1) := by decide +kernel
theorem d_M_restore_177 : decode m_M_restore.2.1 177 = .ok (.getfield 42, 3) := by decide +kernel
theorem d_M_restore_180 : decode m_M_restore.2.1 180 = .ok (.iload_n 2, 1) := by decide +kernel
theorem d_M_restore_181 : decode m_M_restore.2.1 181 = .ok (.bipush 73, 2) := by decide +kernel
theorem d_M_restore_183 : decode m_M_restore.2.1 183 = .ok (.iadd, 1) := by decide +kernel
theorem d_M_restore_184 : decode m_M_restore.2.1 184 = .ok (.iaload, 1) := by decide +kernel
theorem d_M_restore_185 : decode m_M_restore.2.1 185 = .ok (.putfield 126, 3) := by decide +kernel
theorem d_M_restore_188 : decode m_M_restore.2.1 188 = .ok (.iconst 1, 1) := by decide +kernel
theorem d_M_restore_189 : decode m_M_restore.2.1 189 = .ok (.ireturn, 1) := by decide +kernel
theorem d_M_told_0 : decode m_M_told.2.1 0 = .ok (.iload_n 1, 1) := by decide +kernel
theorem d_M_told_1 : decode m_M_told.2.1 1 = .ok (.bipush 100, 2) := by decide +kernel
theorem d_M_told_3 : decode m_M_told.2.1 3 = .ok (.if_icmp .lt 43, 3) := by decide +kernel
theorem d_M_told_6 : decode m_M_told.2.1 6 = .ok (.iload_n 1, 1) := by decide +kernel
theorem d_M_told_7 : decode m_M_told.2.1 7 = .ok (.sipush 160, 3) := by decide +kernel
theorem d_M_told_10 : decode m_M_told.2.1 10 = .ok (.if_icmp .ge 33, 3) := by decide +kernel
theorem d_M_told_13 : decode m_M_told.2.1 13 = .ok (.iload_n 1, 1) := by decide +kernel
theorem d_M_told_14 : decode m_M_told.2.1 14 = .ok (.bipush 10, 2) := by decide +kernel
theorem d_M_told_16 : decode m_M_told.2.1 16 = .ok (.irem, 1) := by decide +kernel
theorem d_M_told_17 : decode m_M_told.2.1 17 = .ok (.iconst 4, 1) := by decide +kernel
theorem d_M_told_18 : decode m_M_told.2.1 18 = .ok (.if_icmp .ge 25, 3) := by decide +kernel
theorem d_M_told_21 : decode m_M_told.2.1 21 = .ok (.aload_n 0, 1) := by decide +kernel
theorem d_M_told_22 : decode m_M_told.2.1 22 = .ok (.getfield 23, 3) := by decide +kernel
theorem d_M_told_25 : decode m_M_told.2.1 25 = .ok (.iconst 4, 1) := by decide +kernel
theorem d_M_told_26 : decode m_M_told.2.1 26 = .ok (.iload_n 1, 1) := by decide +kernel
theorem d_M_told_27 : decode m_M_told.2.1 27 = .ok (.bipush 10, 2) := by decide +kernel
theorem d_M_told_29 : decode m_M_told.2.1 29 = .ok (.idiv, 1) := by decide +kernel
theorem d_M_told_30 : decode m_M_told.2.1 30 = .ok (.bipush 10, 2) := by decide +kernel
theorem d_M_told_32 : decode m_M_told.2.1 32 = .ok (.isub, 1) := by decide +kernel
theorem d_M_told_33 : decode m_M_told.2.1 33 = .ok (.imul, 1) := by decide +kernel
theorem d_M_told_34 : decode m_M_told.2.1 34 = .ok (.iload_n 1, 1) := by decide +kernel
theorem d_M_told_35 : decode m_M_told.2.1 35 = .ok (.bipush 10, 2) := by decide +kernel
theorem d_M_told_37 : decode m_M_told.2.1 37 = .ok (.irem, 1) := by decide +kernel
theorem d_M_told_38 : decode m_M_told.2.1 38 = .ok (.iadd, 1) := by decide +kernel
theorem d_M_told_39 : decode m_M_told.2.1 39 = .ok (.iaload, 1) := by decide +kernel
theorem d_M_told_40 : decode m_M_told.2.1 40 = .ok (.goto 5, 3) := by decide +kernel
theorem d_M_told_43 : decode m_M_told.2.1 43 = .ok (.bipush (-2), 2) := by decide +kernel
theorem d_M_told_45 : decode m_M_told.2.1 45 = .ok (.ireturn, 1) := by decide +kernel
theorem d_M_told_46 : decode m_M_told.2.1 46 = .ok (.iload_n 1, 1) := by decide +kernel
theorem d_M_told_47 : decode m_M_told.2.1 47 = .ok (.bipush 40, 2) := by decide +kernel
theorem d_M_told_49 : decode m_M_told.2.1 49 = .ok (.if_icmp .lt 29, 3) := by decide +kernel
theorem d_M_told_52 : decode m_M_told.2.1 52 = .ok (.iload_n 1, 1) := by decide +kernel
theorem d_M_told_53 : decode m_M_told.2.1 53 = .ok (.bipush 40, 2) := by decide +kernel
theorem d_M_told_55 : decode m_M_told.2.1 55 = .ok (.bipush 50, 2) := by decide +kernel
theorem d_M_told_57 : decode m_M_told.2.1 57 = .ok (.invokestatic 52, 3) := by decide +kernel
theorem d_M_told_60 : decode m_M_told.2.1 60 = .ok (.ifCond .eq 15, 3) := by decide +kernel
theorem d_M_told_63 : decode m_M_told.2.1 63 = .ok (.aload_n 0, 1) := by decide +kernel
theorem d_M_told_64 : decode m_M_told.2.1 64 = .ok (.getfield 16, 3) := by decide +kernel
theorem d_M_told_67 : decode m_M_told.2.1 67 = .ok (.iload_n 1, 1) := by decide +kernel
theorem d_M_told_68 : decode m_M_told.2.1 68 = .ok (.bipush 40, 2) := by decide +kernel
theorem d_M_told_70 : decode m_M_told.2.1 70 = .ok (.isub, 1) := by decide +kernel
theorem d_M_told_71 : decode m_M_told.2.1 71 = .ok (.iaload, 1) := by decide +kernel
theorem d_M_told_72 : decode m_M_told.2.1 72 = .ok (.goto 5, 3) := by decide +kernel
theorem d_M_told_75 : decode m_M_told.2.1 75 = .ok (.bipush (-2), 2) := by decide +kernel
theorem d_M_told_77 : decode m_M_told.2.1 77 = .ok (.ireturn, 1) := by decide +kernel
theorem d_M_told_78 : decode m_M_told.2.1 78 = .ok (.iload_n 1, 1) := by decide +kernel
theorem d_M_told_79 : decode m_M_told.2.1 79 = .ok (.bipush 20, 2) := by decide +kernel
theorem d_M_told_81 : decode m_M_told.2.1 81 = .ok (.if_icmp .lt 28, 3) := by decide +kernel
theorem d_M_told_84 : decode m_M_told.2.1 84 = .ok (.iload_n 1, 1) := by decide +kernel
theorem d_M_told_85 : decode m_M_told.2.1 85 = .ok (.bipush 20, 2) := by decide +kernel
theorem d_M_told_87 : decode m_M_told.2.1 87 = .ok (.isub, 1) := by decide +kernel
theorem d_M_told_88 : decode m_M_told.2.1 88 = .ok (.invokestatic 56, 3) := by decide +kernel
theorem d_M_told_91 : decode m_M_told.2.1 91 = .ok (.ifCond .eq 15, 3) := by decide +kernel
theorem d_M_told_94 : decode m_M_told.2.1 94 = .ok (.aload_n 0, 1) := by decide +kernel
theorem d_M_told_95 : decode m_M_told.2.1 95 = .ok (.getfield 7, 3) := by decide +kernel
theorem d_M_told_98 : decode m_M_told.2.1 98 = .ok (.iload_n 1, 1) := by decide +kernel
theorem d_M_told_99 : decode m_M_told.2.1 99 = .ok (.bipush 20, 2) := by decide +kernel
theorem d_M_told_101 : decode m_M_told.2.1 101 = .ok (.isub, 1) := by decide +kernel
theorem d_M_told_102 : decode m_M_told.2.1 102 = .ok (.iaload, 1) := by decide +kernel
theorem d_M_told_103 : decode m_M_told.2.1 103 = .ok (.goto 5, 3) := by decide +kernel
theorem d_M_told_106 : decode m_M_told.2.1 106 = .ok (.bipush (-2), 2) := by decide +kernel
theorem d_M_told_108 : decode m_M_told.2.1 108 = .ok (.ireturn, 1) := by decide +kernel
theorem d_M_told_109 : decode m_M_told.2.1 109 = .ok (.iload_n 1, 1) := by decide +kernel
theorem d_M_told_110 : decode m_M_told.2.1 110 = .ok (.tableswitch 98 0 7 #[46, 51, 59, 67, 75, 80, 88, 93], 46) := by decide +kernel
theorem d_M_told_156 : decode m_M_told.2.1 156 = .ok (.aload_n 0, 1) := by decide +kernel
theorem d_M_told_157 : decode m_M_told.2.1 157 = .ok (.getfield 63, 3) := by decide +kernel
theorem d_M_told_160 : decode m_M_told.2.1 160 = .ok (.ireturn, 1) := by decide +kernel
theorem d_M_told_161 : decode m_M_told.2.1 161 = .ok (.aload_n 0, 1) := by decide +kernel
theorem d_M_told_162 : decode m_M_told.2.1 162 = .ok (.getfield 7, 3) := by decide +kernel
theorem d_M_told_165 : decode m_M_told.2.1 165 = .ok (.bipush 12, 2) := by decide +kernel
theorem d_M_told_167 : decode m_M_told.2.1 167 = .ok (.iaload, 1) := by decide +kernel
theorem d_M_told_168 : decode m_M_told.2.1 168 = .ok (.ireturn, 1) := by decide +kernel
theorem d_M_told_169 : decode m_M_told.2.1 169 = .ok (.aload_n 0, 1) := by decide +kernel
theorem d_M_told_170 : decode m_M_told.2.1 170 = .ok (.getfield 7, 3) := by decide +kernel
theorem d_M_told_173 : decode m_M_told.2.1 173 = .ok (.bipush 13, 2) := by decide +kernel
theorem d_M_told_175 : decode m_M_told.2.1 175 = .ok (.iaload, 1) := by decide +kernel
theorem d_M_told_176 : decode m_M_told.2.1 176 = .ok (.ireturn, 1) := by decide +kernel
theorem d_M_told_177 : decode m_M_told.2.1 177 = .ok (.aload_n 0, 1) := by decide +kernel
theorem d_M_told_178 : decode m_M_told.2.1 178 = .ok (.getfield 7, 3) := by decide +kernel
theorem d_M_told_181 : decode m_M_told.2.1 181 = .ok (.bipush 14, 2) := by decide +kernel
theorem d_M_told_183 : decode m_M_told.2.1 183 = .ok (.iaload, 1) := by decide +kernel
theorem d_M_told_184 : decode m_M_told.2.1 184 = .ok (.ireturn, 1) := by decide +kernel
theorem d_M_told_185 : decode m_M_told.2.1 185 = .ok (.aload_n 0, 1) := by decide +kernel
theorem d_M_told_186 : decode m_M_told.2.1 186 = .ok (.getfield 49, 3) := by decide +kernel
theorem d_M_told_189 : decode m_M_told.2.1 189 = .ok (.ireturn, 1) := by decide +kernel
theorem d_M_told_190 : decode m_M_told.2.1 190 = .ok (.aload_n 0, 1) := by decide +kernel
theorem d_M_told_191 : decode m_M_told.2.1 191 = .ok (.getfield 7, 3) := by decide +kernel
theorem d_M_told_194 : decode m_M_told.2.1 194 = .ok (.bipush 15, 2) := by decide +kernel
theorem d_M_told_196 : decode m_M_told.2.1 196 = .ok (.iaload, 1) := by decide +kernel
theorem d_M_told_197 : decode m_M_told.2.1 197 = .ok (.ireturn, 1) := by decide +kernel
theorem d_M_told_198 : decode m_M_told.2.1 198 = .ok (.aload_n 0, 1) := by decide +kernel
theorem d_M_told_199 : decode m_M_told.2.1 199 = .ok (.getfield 126, 3) := by decide +kernel
theorem d_M_told_202 : decode m_M_told.2.1 202 = .ok (.ireturn, 1) := by decide +kernel
theorem d_M_told_203 : decode m_M_told.2.1 203 = .ok (.aload_n 0, 1) := by decide +kernel
theorem d_M_told_204 : decode m_M_told.2.1 204 = .ok (.getfield 19, 3) := by decide +kernel
theorem d_M_told_207 : decode m_M_told.2.1 207 = .ok (.ireturn, 1) := by decide +kernel
theorem d_M_told_208 : decode m_M_told.2.1 208 = .ok (.iload_n 1, 1) := by decide +kernel
theorem d_M_told_209 : decode m_M_told.2.1 209 = .ok (.bipush 8, 2) := by decide +kernel
theorem d_M_told_211 : decode m_M_told.2.1 211 = .ok (.if_icmp .ne 12, 3) := by decide +kernel
theorem d_M_told_214 : decode m_M_told.2.1 214 = .ok (.aload_n 0, 1) := by decide +kernel
theorem d_M_told_215 : decode m_M_told.2.1 215 = .ok (.getfield 60, 3) := by decide +kernel
theorem d_M_told_218 : decode m_M_told.2.1 218 = .ok (.iconst 3, 1) := by decide +kernel
theorem d_M_told_219 : decode m_M_told.2.1 219 = .ok (.iadd, 1) := by decide +kernel
theorem d_M_told_220 : decode m_M_told.2.1 220 = .ok (.goto 5, 3) := by decide +kernel
theorem d_M_told_223 : decode m_M_told.2.1 223 = .ok (.bipush (-2), 2) := by decide +kernel
theorem d_M_told_225 : decode m_M_told.2.1 225 = .ok (.ireturn, 1) := by decide +kernel
end
section
theorem d_W_law_0 : decode m_W_law.2.1 0 = .ok (.new 7, 3) := by decide +kernel
theorem d_W_law_3 : decode m_W_law.2.1 3 = .ok (.dup, 1) := by decide +kernel
theorem d_W_law_4 : decode m_W_law.2.1 4 = .ok (.invokespecial 9, 3) := by decide +kernel
theorem d_W_law_7 : decode m_W_law.2.1 7 = .ok (.astore_n 1, 1) := by decide +kernel
theorem d_W_law_8 : decode m_W_law.2.1 8 = .ok (.new 10, 3) := by decide +kernel
theorem d_W_law_11 : decode m_W_law.2.1 11 = .ok (.dup, 1) := by decide +kernel
theorem d_W_law_12 : decode m_W_law.2.1 12 = .ok (.invokespecial 12, 3) := by decide +kernel
theorem d_W_law_15 : decode m_W_law.2.1 15 = .ok (.astore_n 2, 1) := by decide +kernel
theorem d_W_law_16 : decode m_W_law.2.1 16 = .ok (.iconst 0, 1) := by decide +kernel
theorem d_W_law_17 : decode m_W_law.2.1 17 = .ok (.istore_n 3, 1) := by decide +kernel
theorem d_W_law_18 : decode m_W_law.2.1 18 = .ok (.iload_n 3, 1) := by decide +kernel
theorem d_W_law_19 : decode m_W_law.2.1 19 = .ok (.aload_n 0, 1) := by decide +kernel
theorem d_W_law_20 : decode m_W_law.2.1 20 = .ok (.arraylength, 1) := by decide +kernel
theorem d_W_law_21 : decode m_W_law.2.1 21 = .ok (.bipush 6, 2) := by decide +kernel
theorem d_W_law_23 : decode m_W_law.2.1 23 = .ok (.isub, 1) := by decide +kernel
theorem d_W_law_24 : decode m_W_law.2.1 24 = .ok (.if_icmp .gt 958, 3) := by decide +kernel
theorem d_W_law_27 : decode m_W_law.2.1 27 = .ok (.aload_n 0, 1) := by decide +kernel
theorem d_W_law_28 : decode m_W_law.2.1 28 = .ok (.iload_n 3, 1) := by decide +kernel
theorem d_W_law_29 : decode m_W_law.2.1 29 = .ok (.iaload, 1) := by decide +kernel
theorem d_W_law_30 : decode m_W_law.2.1 30 = .ok (.bipush 31, 2) := by decide +kernel
theorem d_W_law_32 : decode m_W_law.2.1 32 = .ok (.iand, 1) := by decide +kernel
theorem d_W_law_33 : decode m_W_law.2.1 33 = .ok (.tableswitch 943 0 26 #[123, 208, 241, 274, 337, 360, 373, 386, 409, 422, 445, 468, 491, 524, 547, 580, 613, 646, 695, 708, 721, 744, 777, 831, 874, 897, 920], 123) := by decide +kernel
theorem d_W_law_156 : decode m_W_law.2.1 156 = .ok (.aload_n 1, 1) := by decide +kernel
theorem d_W_law_157 : decode m_W_law.2.1 157 = .ok (.aload_n 0, 1) := by decide +kernel
theorem d_W_law_158 : decode m_W_law.2.1 158 = .ok (.iload_n 3, 1) := by decide +kernel
theorem d_W_law_159 : decode m_W_law.2.1 159 = .ok (.iconst 1, 1) := by decide +kernel
theorem d_W_law_160 : decode m_W_law.2.1 160 = .ok (.iadd, 1) := by decide +kernel
theorem d_W_law_161 : decode m_W_law.2.1 161 = .ok (.iaload, 1) := by decide +kernel
theorem d_W_law_162 : decode m_W_law.2.1 162 = .ok (.aload_n 0, 1) := by decide +kernel
theorem d_W_law_163 : decode m_W_law.2.1 163 = .ok (.iload_n 3, 1) := by decide +kernel
theorem d_W_law_164 : decode m_W_law.2.1 164 = .ok (.iconst 2, 1) := by decide +kernel
theorem d_W_law_165 : decode m_W_law.2.1 165 = .ok (.iadd, 1) := by decide +kernel
theorem d_W_law_166 : decode m_W_law.2.1 166 = .ok (.iaload, 1) := by decide +kernel
theorem d_W_law_167 : decode m_W_law.2.1 167 = .ok (.ifCond .eq 7, 3) := by decide +kernel
theorem d_W_law_170 : decode m_W_law.2.1 170 = .ok (.iconst 1, 1) := by decide +kernel
theorem d_W_law_171 : decode m_W_law.2.1 171 = .ok (.goto 4, 3) := by decide +kernel
theorem d_W_law_174 : decode m_W_law.2.1 174 = .ok (.iconst 0, 1) := by decide +kernel
theorem d_W_law_175 : decode m_W_law.2.1 175 = .ok (.aload_n 0, 1) := by decide +kernel
theorem d_W_law_176 : decode m_W_law.2.1 176 = .ok (.iload_n 3, 1) := by decide +kernel
theorem d_W_law_177 : decode m_W_law.2.1 177 = .ok (.iconst 3, 1) := by decide +kernel
theorem d_W_law_178 : decode m_W_law.2.1 178 = .ok (.iadd, 1) := by decide +kernel
theorem d_W_law_179 : decode m_W_law.2.1 179 = .ok (.iaload, 1) := by decide +kernel
theorem d_W_law_180 : decode m_W_law.2.1 180 = .ok (.ifCond .eq 7, 3) := by decide +kernel
theorem d_W_law_183 : decode m_W_law.2.1 183 = .ok (.iconst 1, 1) := by decide +kernel
theorem d_W_law_184 : decode m_W_law.2.1 184 = .ok (.goto 4, 3) := by decide +kernel
theorem d_W_law_187 : decode m_W_law.2.1 187 = .ok (.iconst 0, 1) := by decide +kernel
theorem d_W_law_188 : decode m_W_law.2.1 188 = .ok (.aload_n 0, 1) := by decide +kernel
theorem d_W_law_189 : decode m_W_law.2.1 189 = .ok (.iload_n 3, 1) := by decide +kernel
theorem d_W_law_190 : decode m_W_law.2.1 190 = .ok (.iconst 4, 1) := by decide +kernel
theorem d_W_law_191 : decode m_W_law.2.1 191 = .ok (.iadd, 1) := by decide +kernel
theorem d_W_law_192 : decode m_W_law.2.1 192 = .ok (.iaload, 1) := by decide +kernel
theorem d_W_law_193 : decode m_W_law.2.1 193 = .ok (.invokevirtual 13, 3) := by decide +kernel
theorem d_W_law_196 : decode m_W_law.2.1 196 = .ok (.aload_n 2, 1) := by decide +kernel
theorem d_W_law_197 : decode m_W_law.2.1 197 = .ok (.aload_n 0, 1) := by decide +kernel
theorem d_W_law_198 : decode m_W_law.2.1 198 = .ok (.iload_n 3, 1) := by decide +kernel
theorem d_W_law_199 : decode m_W_law.2.1 199 = .ok (.iconst 1, 1) := by decide +kernel
theorem d_W_law_200 : decode m_W_law.2.1 200 = .ok (.iadd, 1) := by decide +kernel
theorem d_W_law_201 : decode m_W_law.2.1 201 = .ok (.iaload, 1) := by decide +kernel
theorem d_W_law_202 : decode m_W_law.2.1 202 = .ok (.aload_n 0, 1) := by decide +kernel
theorem d_W_law_203 : decode m_W_law.2.1 203 = .ok (.iload_n 3, 1) := by decide +kernel
theorem d_W_law_204 : decode m_W_law.2.1 204 = .ok (.iconst 2, 1) := by decide +kernel
theorem d_W_law_205 : decode m_W_law.2.1 205 = .ok (.iadd, 1) := by decide +kernel
theorem d_W_law_206 : decode m_W_law.2.1 206 = .ok (.iaload, 1) := by decide +kernel
theorem d_W_law_207 : decode m_W_law.2.1 207 = .ok (.ifCond .eq 7, 3) := by decide +kernel
theorem d_W_law_210 : decode m_W_law.2.1 210 = .ok (.iconst 1, 1) := by decide +kernel
theorem d_W_law_211 : decode m_W_law.2.1 211 = .ok (.goto 4, 3) := by decide +kernel
theorem d_W_law_214 : decode m_W_law.2.1 214 = .ok (.iconst 0, 1) := by decide +kernel
theorem d_W_law_215 : decode m_W_law.2.1 215 = .ok (.aload_n 0, 1) := by decide +kernel
theorem d_W_law_216 : decode m_W_law.2.1 216 = .ok (.iload_n 3, 1) := by decide +kernel
theorem d_W_law_217 : decode m_W_law.2.1 217 = .ok (.iconst 3, 1) := by decide +kernel
theorem d_W_law_218 : decode m_W_law.2.1 218 = .ok (.iadd, 1) := by decide +kernel
theorem d_W_law_219 : decode m_W_law.2.1 219 = .ok (.iaload, 1) := by decide +kernel
theorem d_W_law_220 : decode m_W_law.2.1 220 = .ok (.ifCond .eq 7, 3) := by decide +kernel
theorem d_W_law_223 : decode m_W_law.2.1 223 = .ok (.iconst 1, 1) := by decide +kernel
theorem d_W_law_224 : decode m_W_law.2.1 224 = .ok (.goto 4, 3) := by decide +kernel
theorem d_W_law_227 : decode m_W_law.2.1 227 = .ok (.iconst 0, 1) := by decide +kernel
theorem d_W_law_228 : decode m_W_law.2.1 228 = .ok (.aload_n 0, 1) := by decide +kernel
theorem d_W_law_229 : decode m_W_law.2.1 229 = .ok (.iload_n 3, 1) := by decide +kernel
theorem d_W_law_230 : decode m_W_law.2.1 230 = .ok (.iconst 4, 1) := by decide +kernel
theorem d_W_law_231 : decode m_W_law.2.1 231 = .ok (.iadd, 1) := by decide +kernel
theorem d_W_law_232 : decode m_W_law.2.1 232 = .ok (.iaload, 1) := by decide +kernel
theorem d_W_law_233 : decode m_W_law.2.1 233 = .ok (.invokevirtual 17, 3) := by decide +kernel
theorem d_W_law_236 : decode m_W_law.2.1 236 = .ok (.if_icmp .eq 740, 3) := by decide +kernel
theorem d_W_law_239 : decode m_W_law.2.1 239 = .ok (.iconst 0, 1) := by decide +kernel
theorem d_W_law_240 : decode m_W_law.2.1 240 = .ok (.ireturn, 1) := by decide +kernel
theorem d_W_law_241 : decode m_W_law.2.1 241 = .ok (.aload_n 1, 1) := by decide +kernel
theorem d_W_law_242 : decode m_W_law.2.1 242 = .ok (.aload_n 0, 1) := by decide +kernel
theorem d_W_law_243 : decode m_W_law.2.1 243 = .ok (.iload_n 3, 1) := by decide +kernel
theorem d_W_law_244 : decode m_W_law.2.1 244 = .ok (.iconst 1, 1) := by decide +kernel
theorem d_W_law_245 : decode m_W_law.2.1 245 = .ok (.iadd, 1) := by decide +kernel
theorem d_W_law_246 : decode m_W_law.2.1 246 = .ok (.iaload, 1) := by decide +kernel
theorem d_W_law_247 : decode m_W_law.2.1 247 = .ok (.aload_n 0, 1) := by decide +kernel
theorem d_W_law_248 : decode m_W_law.2.1 248 = .ok (.iload_n 3, 1) := by decide +kernel
theorem d_W_law_249 : decode m_W_law.2.1 249 = .ok (.iconst 2, 1) := by decide +kernel
theorem d_W_law_250 : decode m_W_law.2.1 250 = .ok (.iadd, 1) := by decide +kernel
theorem d_W_law_251 : decode m_W_law.2.1 251 = .ok (.iaload, 1) := by decide +kernel
theorem d_W_law_252 : decode m_W_law.2.1 252 = .ok (.invokevirtual 18, 3) := by decide +kernel
theorem d_W_law_255 : decode m_W_law.2.1 255 = .ok (.aload_n 2, 1) := by decide +kernel
theorem d_W_law_256 : decode m_W_law.2.1 256 = .ok (.aload_n 0, 1) := by decide +kernel
theorem d_W_law_257 : decode m_W_law.2.1 257 = .ok (.iload_n 3, 1) := by decide +kernel
theorem d_W_law_258 : decode m_W_law.2.1 258 = .ok (.iconst 1, 1) := by decide +kernel
theorem d_W_law_259 : decode m_W_law.2.1 259 = .ok (.iadd, 1) := by decide +kernel
theorem d_W_law_260 : decode m_W_law.2.1 260 = .ok (.iaload, 1) := by decide +kernel
theorem d_W_law_261 : decode m_W_law.2.1 261 = .ok (.aload_n 0, 1) := by decide +kernel
theorem d_W_law_262 : decode m_W_law.2.1 262 = .ok (.iload_n 3, 1) := by decide +kernel
theorem d_W_law_263 : decode m_W_law.2.1 263 = .ok (.iconst 2, 1) := by decide +kernel
theorem d_W_law_264 : decode m_W_law.2.1 264 = .ok (.iadd, 1) := by decide +kernel
theorem d_W_law_265 : decode m_W_law.2.1 265 = .ok (.iaload, 1) := by decide +kernel
theorem d_W_law_266 : decode m_W_law.2.1 266 = .ok (.invokevirtual 22, 3) := by decide +kernel
theorem d_W_law_269 : decode m_W_law.2.1 269 = .ok (.if_icmp .eq 707, 3) := by decide +kernel
theorem d_W_law_272 : decode m_W_law.2.1 272 = .ok (.iconst 0, 1) := by decide +kernel
theorem d_W_law_273 : decode m_W_law.2.1 273 = .ok (.ireturn, 1) := by decide +kernel
theorem d_W_law_274 : decode m_W_law.2.1 274 = .ok (.aload_n 1, 1) := by decide +kernel
theorem d_W_law_275 : decode m_W_law.2.1 275 = .ok (.aload_n 0, 1) := by decide +kernel
theorem d_W_law_276 : decode m_W_law.2.1 276 = .ok (.iload_n 3, 1) := by decide +kernel
theorem d_W_law_277 : decode m_W_law.2.1 277 = .ok (.iconst 1, 1) := by decide +kernel
theorem d_W_law_278 : decode m_W_law.2.1 278 = .ok (.iadd, 1) := by decide +kernel
theorem d_W_law_279 : decode m_W_law.2.1 279 = .ok (.iaload, 1) := by decide +kernel
theorem d_W_law_280 : decode m_W_law.2.1 280 = .ok (.aload_n 0, 1) := by decide +kernel
theorem d_W_law_281 : decode m_W_law.2.1 281 = .ok (.iload_n 3, 1) := by decide +kernel
theorem d_W_law_282 : decode m_W_law.2.1 282 = .ok (.iconst 2, 1) := by decide +kernel
theorem d_W_law_283 : decode m_W_law.2.1 283 = .ok (.iadd, 1) := by decide +kernel
theorem d_W_law_284 : decode m_W_law.2.1 284 = .ok (.iaload, 1) := by decide +kernel
theorem d_W_law_285 : decode m_W_law.2.1 285 = .ok (.invokevirtual 23, 3) := by decide +kernel
theorem d_W_law_288 : decode m_W_law.2.1 288 = .ok (.aload_n 2, 1) := by decide +kernel
theorem d_W_law_289 : decode m_W_law.2.1 289 = .ok (.aload_n 0, 1) := by decide +kernel
theorem d_W_law_290 : decode m_W_law.2.1 290 = .ok (.iload_n 3, 1) := by decide +kernel
theorem d_W_law_291 : decode m_W_law.2.1 291 = .ok (.iconst 1, 1) := by decide +kernel
theorem d_W_law_292 : decode m_W_law.2.1 292 = .ok (.iadd, 1) := by decide +kernel
theorem d_W_law_293 : decode m_W_law.2.1 293 = .ok (.iaload, 1) := by decide +kernel
theorem d_W_law_294 : decode m_W_law.2.1 294 = .ok (.aload_n 0, 1) := by decide +kernel
theorem d_W_law_295 : decode m_W_law.2.1 295 = .ok (.iload_n 3, 1) := by decide +kernel
theorem d_W_law_296 : decode m_W_law.2.1 296 = .ok (.iconst 2, 1) := by decide +kernel
theorem d_W_law_297 : decode m_W_law.2.1 297 = .ok (.iadd, 1) := by decide +kernel
theorem d_W_law_298 : decode m_W_law.2.1 298 = .ok (.iaload, 1) := by decide +kernel
theorem d_W_law_299 : decode m_W_law.2.1 299 = .ok (.invokevirtual 26, 3) := by decide +kernel
theorem d_W_law_302 : decode m_W_law.2.1 302 = .ok (.if_icmp .eq 674, 3) := by decide +kernel
theorem d_W_law_305 : decode m_W_law.2.1 305 = .ok (.iconst 0, 1) := by decide +kernel
theorem d_W_law_306 : decode m_W_law.2.1 306 = .ok (.ireturn, 1) := by decide +kernel
theorem d_W_law_307 : decode m_W_law.2.1 307 = .ok (.aload_n 1, 1) := by decide +kernel
theorem d_W_law_308 : decode m_W_law.2.1 308 = .ok (.aload_n 0, 1) := by decide +kernel
theorem d_W_law_309 : decode m_W_law.2.1 309 = .ok (.iload_n 3, 1) := by decide +kernel
theorem d_W_law_310 : decode m_W_law.2.1 310 = .ok (.iconst 1, 1) := by decide +kernel
theorem d_W_law_311 : decode m_W_law.2.1 311 = .ok (.iadd, 1) := by decide +kernel
theorem d_W_law_312 : decode m_W_law.2.1 312 = .ok (.iaload, 1) := by decide +kernel
theorem d_W_law_313 : decode m_W_law.2.1 313 = .ok (.aload_n 0, 1) := by decide +kernel
theorem d_W_law_314 : decode m_W_law.2.1 314 = .ok (.iload_n 3, 1) := by decide +kernel
theorem d_W_law_315 : decode m_W_law.2.1 315 = .ok (.iconst 2, 1) := by decide +kernel
theorem d_W_law_316 : decode m_W_law.2.1 316 = .ok (.iadd, 1) := by decide +kernel
theorem d_W_law_317 : decode m_W_law.2.1 317 = .ok (.iaload, 1) := by decide +kernel
theorem d_W_law_318 : decode m_W_law.2.1 318 = .ok (.aload_n 0, 1) := by decide +kernel
theorem d_W_law_319 : decode m_W_law.2.1 319 = .ok (.iload_n 3, 1) := by decide +kernel
theorem d_W_law_320 : decode m_W_law.2.1 320 = .ok (.iconst 3, 1) := by decide +kernel
theorem d_W_law_321 : decode m_W_law.2.1 321 = .ok (.iadd, 1) := by decide +kernel
theorem d_W_law_322 : decode m_W_law.2.1 322 = .ok (.iaload, 1) := by decide +kernel
theorem d_W_law_323 : decode m_W_law.2.1 323 = .ok (.aload_n 0, 1) := by decide +kernel
theorem d_W_law_324 : decode m_W_law.2.1 324 = .ok (.iload_n 3, 1) := by decide +kernel
theorem d_W_law_325 : decode m_W_law.2.1 325 = .ok (.iconst 4, 1) := by decide +kernel
theorem d_W_law_326 : decode m_W_law.2.1 326 = .ok (.iadd, 1) := by decide +kernel
theorem d_W_law_327 : decode m_W_law.2.1 327 = .ok (.iaload, 1) := by decide +kernel
theorem d_W_law_328 : decode m_W_law.2.1 328 = .ok (.aload_n 0, 1) := by decide +kernel
theorem d_W_law_329 : decode m_W_law.2.1 329 = .ok (.iload_n 3, 1) := by decide +kernel
theorem d_W_law_330 : decode m_W_law.2.1 330 = .ok (.iconst 5, 1) := by decide +kernel
theorem d_W_law_331 : decode m_W_law.2.1 331 = .ok (.iadd, 1) := by decide +kernel
theorem d_W_law_332 : decode m_W_law.2.1 332 = .ok (.iaload, 1) := by decide +kernel
theorem d_W_law_333 : decode m_W_law.2.1 333 = .ok (.invokevirtual 27, 3) := by decide +kernel
theorem d_W_law_336 : decode m_W_law.2.1 336 = .ok (.aload_n 2, 1) := by decide +kernel
theorem d_W_law_337 : decode m_W_law.2.1 337 = .ok (.aload_n 0, 1) := by decide +kernel
theorem d_W_law_338 : decode m_W_law.2.1 338 = .ok (.iload_n 3, 1) := by decide +kernel
theorem d_W_law_339 : decode m_W_law.2.1 339 = .ok (.iconst 1, 1) := by decide +kernel
theorem d_W_law_340 : decode m_W_law.2.1 340 = .ok (.iadd, 1) := by decide +kernel
theorem d_W_law_341 : decode m_W_law.2.1 341 = .ok (.iaload, 1) := by decide +kernel
theorem d_W_law_342 : decode m_W_law.2.1 342 = .ok (.aload_n 0, 1) := by decide +kernel
theorem d_W_law_343 : decode m_W_law.2.1 343 = .ok (.iload_n 3, 1) := by decide +kernel
theorem d_W_law_344 : decode m_W_law.2.1 344 = .ok (.iconst 2, 1) := by decide +kernel
theorem d_W_law_345 : decode m_W_law.2.1 345 = .ok (.iadd, 1) := by decide +kernel
theorem d_W_law_346 : decode m_W_law.2.1 346 = .ok (.iaload, 1) := by decide +kernel
theorem d_W_law_347 : decode m_W_law.2.1 347 = .ok (.aload_n 0, 1) := by decide +kernel
theorem d_W_law_348 : decode m_W_law.2.1 348 = .ok (.iload_n 3, 1) := by decide +kernel
theorem d_W_law_349 : decode m_W_law.2.1 349 = .ok (.iconst 3, 1) := by decide +kernel
theorem d_W_law_350 : decode m_W_law.2.1 350 = .ok (.iadd, 1) := by decide +kernel
theorem d_W_law_351 : decode m_W_law.2.1 351 = .ok (.iaload, 1) := by decide +kernel
theorem d_W_law_352 : decode m_W_law.2.1 352 = .ok (.aload_n 0, 1) := by decide +kernel
theorem d_W_law_353 : decode m_W_law.2.1 353 = .ok (.iload_n 3, 1) := by decide +kernel
theorem d_W_law_354 : decode m_W_law.2.1 354 = .ok (.iconst 4, 1) := by decide +kernel
theorem d_W_law_355 : decode m_W_law.2.1 355 = .ok (.iadd, 1) := by decide +kernel
theorem d_W_law_356 : decode m_W_law.2.1 356 = .ok (.iaload, 1) := by decide +kernel
theorem d_W_law_357 : decode m_W_law.2.1 357 = .ok (.aload_n 0, 1) := by decide +kernel
theorem d_W_law_358 : decode m_W_law.2.1 358 = .ok (.iload_n 3, 1) := by decide +kernel
theorem d_W_law_359 : decode m_W_law.2.1 359 = .ok (.iconst 5, 1) := by decide +kernel
theorem d_W_law_360 : decode m_W_law.2.1 360 = .ok (.iadd, 1) := by decide +kernel
theorem d_W_law_361 : decode m_W_law.2.1 361 = .ok (.iaload, 1) := by decide +kernel
theorem d_W_law_362 : decode m_W_law.2.1 362 = .ok (.invokevirtual 31, 3) := by decide +kernel
theorem d_W_law_365 : decode m_W_law.2.1 365 = .ok (.if_icmp .eq 611, 3) := by decide +kernel
theorem d_W_law_368 : decode m_W_law.2.1 368 = .ok (.iconst 0, 1) := by decide +kernel
theorem d_W_law_369 : decode m_W_law.2.1 369 = .ok (.ireturn, 1) := by decide +kernel
theorem d_W_law_370 : decode m_W_law.2.1 370 = .ok (.aload_n 1, 1) := by decide +kernel
theorem d_W_law_371 : decode m_W_law.2.1 371 = .ok (.aload_n 0, 1) := by decide +kernel
theorem d_W_law_372 : decode m_W_law.2.1 372 = .ok (.iload_n 3, 1) := by decide +kernel
theorem d_W_law_373 : decode m_W_law.2.1 373 = .ok (.iconst 1, 1) := by decide +kernel
theorem d_W_law_374 : decode m_W_law.2.1 374 = .ok (.iadd, 1) := by decide +kernel
theorem d_W_law_375 : decode m_W_law.2.1 375 = .ok (.iaload, 1) := by decide +kernel
theorem d_W_law_376 : decode m_W_law.2.1 376 = .ok (.invokevirtual 32, 3) := by decide +kernel
theorem d_W_law_379 : decode m_W_law.2.1 379 = .ok (.aload_n 2, 1) := by decide +kernel
theorem d_W_law_380 : decode m_W_law.2.1 380 = .ok (.aload_n 0, 1) := by decide +kernel
theorem d_W_law_381 : decode m_W_law.2.1 381 = .ok (.iload_n 3, 1) := by decide +kernel
theorem d_W_law_382 : decode m_W_law.2.1 382 = .ok (.iconst 1, 1) := by decide +kernel
theorem d_W_law_383 : decode m_W_law.2.1 383 = .ok (.iadd, 1) := by decide +kernel
theorem d_W_law_384 : decode m_W_law.2.1 384 = .ok (.iaload, 1) := by decide +kernel
theorem d_W_law_385 : decode m_W_law.2.1 385 = .ok (.invokevirtual 36, 3) := by decide +kernel
theorem d_W_law_388 : decode m_W_law.2.1 388 = .ok (.if_icmp .eq 588, 3) := by decide +kernel
theorem d_W_law_391 : decode m_W_law.2.1 391 = .ok (.iconst 0, 1) := by decide +kernel
theorem d_W_law_392 : decode m_W_law.2.1 392 = .ok (.ireturn, 1) := by decide +kernel
theorem d_W_law_393 : decode m_W_law.2.1 393 = .ok (.aload_n 1, 1) := by decide +kernel
theorem d_W_law_394 : decode m_W_law.2.1 394 = .ok (.invokevirtual 37, 3) := by decide +kernel
theorem d_W_law_397 : decode m_W_law.2.1 397 = .ok (.aload_n 2, 1) := by decide +kernel
theorem d_W_law_398 : decode m_W_law.2.1 398 = .ok (.invokevirtual 41, 3) := by decide +kernel
theorem d_W_law_401 : decode m_W_law.2.1 401 = .ok (.if_icmp .eq 575, 3) := by decide +kernel
theorem d_W_law_404 : decode m_W_law.2.1 404 = .ok (.iconst 0, 1) := by decide +kernel
theorem d_W_law_405 : decode m_W_law.2.1 405 = .ok (.ireturn, 1) := by decide +kernel
theorem d_W_law_406 : decode m_W_law.2.1 406 = .ok (.aload_n 1, 1) := by decide +kernel
theorem d_W_law_407 : decode m_W_law.2.1 407 = .ok (.invokevirtual 42, 3) := by decide +kernel
theorem d_W_law_410 : decode m_W_law.2.1 410 = .ok (.aload_n 2, 1) := by decide +kernel
theorem d_W_law_411 : decode m_W_law.2.1 411 = .ok (.invokevirtual 45, 3) := by decide +kernel
theorem d_W_law_414 : decode m_W_law.2.1 414 = .ok (.if_icmp .eq 562, 3) := by decide +kernel
theorem d_W_law_417 : decode m_W_law.2.1 417 = .ok (.iconst 0, 1) := by decide +kernel
theorem d_W_law_418 : decode m_W_law.2.1 418 = .ok (.ireturn, 1) := by decide +kernel
theorem d_W_law_419 : decode m_W_law.2.1 419 = .ok (.aload_n 1, 1) := by decide +kernel
theorem d_W_law_420 : decode m_W_law.2.1 420 = .ok (.aload_n 0, 1) := by decide +kernel
theorem d_W_law_421 : decode m_W_law.2.1 421 = .ok (.iload_n 3, 1) := by decide +kernel
theorem d_W_law_422 : decode m_W_law.2.1 422 = .ok (.iconst 1, 1) := by decide +kernel
theorem d_W_law_423 : decode m_W_law.2.1 423 = .ok (.iadd, 1) := by decide +kernel
theorem d_W_law_424 : decode m_W_law.2.1 424 = .ok (.iaload, 1) := by decide +kernel
theorem d_W_law_425 : decode m_W_law.2.1 425 = .ok (.invokevirtual 46, 3) := by decide +kernel
theorem d_W_law_428 : decode m_W_law.2.1 428 = .ok (.aload_n 2, 1) := by decide +kernel
theorem d_W_law_429 : decode m_W_law.2.1 429 = .ok (.aload_n 0, 1) := by decide +kernel
theorem d_W_law_430 : decode m_W_law.2.1 430 = .ok (.iload_n 3, 1) := by decide +kernel
theorem d_W_law_431 : decode m_W_law.2.1 431 = .ok (.iconst 1, 1) := by decide +kernel
theorem d_W_law_432 : decode m_W_law.2.1 432 = .ok (.iadd, 1) := by decide +kernel
theorem d_W_law_433 : decode m_W_law.2.1 433 = .ok (.iaload, 1) := by decide +kernel
theorem d_W_law_434 : decode m_W_law.2.1 434 = .ok (.invokevirtual 49, 3) := by decide +kernel
theorem d_W_law_437 : decode m_W_law.2.1 437 = .ok (.if_icmp .eq 539, 3) := by decide +kernel
theorem d_W_law_440 : decode m_W_law.2.1 440 = .ok (.iconst 0, 1) := by decide +kernel
theorem d_W_law_441 : decode m_W_law.2.1 441 = .ok (.ireturn, 1) := by decide +kernel
theorem d_W_law_442 : decode m_W_law.2.1 442 = .ok (.aload_n 1, 1) := by decide +kernel
theorem d_W_law_443 : decode m_W_law.2.1 443 = .ok (.invokevirtual 50, 3) := by decide +kernel
theorem d_W_law_446 : decode m_W_law.2.1 446 = .ok (.aload_n 2, 1) := by decide +kernel
theorem d_W_law_447 : decode m_W_law.2.1 447 = .ok (.invokevirtual 53, 3) := by decide +kernel
theorem d_W_law_450 : decode m_W_law.2.1 450 = .ok (.if_icmp .eq 526, 3) := by decide +kernel
theorem d_W_law_453 : decode m_W_law.2.1 453 = .ok (.iconst 0, 1) := by decide +kernel
theorem d_W_law_454 : decode m_W_law.2.1 454 = .ok (.ireturn, 1) := by decide +kernel
theorem d_W_law_455 : decode m_W_law.2.1 455 = .ok (.aload_n 1, 1) := by decide +kernel
theorem d_W_law_456 : decode m_W_law.2.1 456 = .ok (.aload_n 0, 1) := by decide +kernel
theorem d_W_law_457 : decode m_W_law.2.1 457 = .ok (.iload_n 3, 1) := by decide +kernel
theorem d_W_law_458 : decode m_W_law.2.1 458 = .ok (.iconst 1, 1) := by decide +kernel
theorem d_W_law_459 : decode m_W_law.2.1 459 = .ok (.iadd, 1) := by decide +kernel
theorem d_W_law_460 : decode m_W_law.2.1 460 = .ok (.iaload, 1) := by decide +kernel
theorem d_W_law_461 : decode m_W_law.2.1 461 = .ok (.invokevirtual 54, 3) := by decide +kernel
theorem d_W_law_464 : decode m_W_law.2.1 464 = .ok (.aload_n 2, 1) := by decide +kernel
theorem d_W_law_465 : decode m_W_law.2.1 465 = .ok (.aload_n 0, 1) := by decide +kernel
theorem d_W_law_466 : decode m_W_law.2.1 466 = .ok (.iload_n 3, 1) := by decide +kernel
theorem d_W_law_467 : decode m_W_law.2.1 467 = .ok (.iconst 1, 1) := by decide +kernel
theorem d_W_law_468 : decode m_W_law.2.1 468 = .ok (.iadd, 1) := by decide +kernel
theorem d_W_law_469 : decode m_W_law.2.1 469 = .ok (.iaload, 1) := by decide +kernel
theorem d_W_law_470 : decode m_W_law.2.1 470 = .ok (.invokevirtual 57, 3) := by decide +kernel
theorem d_W_law_473 : decode m_W_law.2.1 473 = .ok (.if_icmp .eq 503, 3) := by decide +kernel
theorem d_W_law_476 : decode m_W_law.2.1 476 = .ok (.iconst 0, 1) := by decide +kernel
theorem d_W_law_477 : decode m_W_law.2.1 477 = .ok (.ireturn, 1) := by decide +kernel
theorem d_W_law_478 : decode m_W_law.2.1 478 = .ok (.aload_n 1, 1) := by decide +kernel
theorem d_W_law_479 : decode m_W_law.2.1 479 = .ok (.aload_n 0, 1) := by decide +kernel
theorem d_W_law_480 : decode m_W_law.2.1 480 = .ok (.iload_n 3, 1) := by decide +kernel
theorem d_W_law_481 : decode m_W_law.2.1 481 = .ok (.iconst 1, 1) := by decide +kernel
theorem d_W_law_482 : decode m_W_law.2.1 482 = .ok (.iadd, 1) := by decide +kernel
theorem d_W_law_483 : decode m_W_law.2.1 483 = .ok (.iaload, 1) := by decide +kernel
theorem d_W_law_484 : decode m_W_law.2.1 484 = .ok (.invokevirtual 58, 3) := by decide +kernel
theorem d_W_law_487 : decode m_W_law.2.1 487 = .ok (.aload_n 2, 1) := by decide +kernel
theorem d_W_law_488 : decode m_W_law.2.1 488 = .ok (.aload_n 0, 1) := by decide +kernel
theorem d_W_law_489 : decode m_W_law.2.1 489 = .ok (.iload_n 3, 1) := by decide +kernel
theorem d_W_law_490 : decode m_W_law.2.1 490 = .ok (.iconst 1, 1) := by decide +kernel
theorem d_W_law_491 : decode m_W_law.2.1 491 = .ok (.iadd, 1) := by decide +kernel
theorem d_W_law_492 : decode m_W_law.2.1 492 = .ok (.iaload, 1) := by decide +kernel
theorem d_W_law_493 : decode m_W_law.2.1 493 = .ok (.invokevirtual 61, 3) := by decide +kernel
theorem d_W_law_496 : decode m_W_law.2.1 496 = .ok (.if_icmp .eq 480, 3) := by decide +kernel
theorem d_W_law_499 : decode m_W_law.2.1 499 = .ok (.iconst 0, 1) := by decide +kernel
theorem d_W_law_500 : decode m_W_law.2.1 500 = .ok (.ireturn, 1) := by decide +kernel
theorem d_W_law_501 : decode m_W_law.2.1 501 = .ok (.aload_n 1, 1) := by decide +kernel
theorem d_W_law_502 : decode m_W_law.2.1 502 = .ok (.aload_n 0, 1) := by decide +kernel
theorem d_W_law_503 : decode m_W_law.2.1 503 = .ok (.iload_n 3, 1) := by decide +kernel
theorem d_W_law_504 : decode m_W_law.2.1 504 = .ok (.iconst 1, 1) := by decide +kernel
theorem d_W_law_505 : decode m_W_law.2.1 505 = .ok (.iadd, 1) := by decide +kernel
theorem d_W_law_506 : decode m_W_law.2.1 506 = .ok (.iaload, 1) := by decide +kernel
theorem d_W_law_507 : decode m_W_law.2.1 507 = .ok (.invokevirtual 62, 3) := by decide +kernel
theorem d_W_law_510 : decode m_W_law.2.1 510 = .ok (.aload_n 2, 1) := by decide +kernel
theorem d_W_law_511 : decode m_W_law.2.1 511 = .ok (.aload_n 0, 1) := by decide +kernel
theorem d_W_law_512 : decode m_W_law.2.1 512 = .ok (.iload_n 3, 1) := by decide +kernel
theorem d_W_law_513 : decode m_W_law.2.1 513 = .ok (.iconst 1, 1) := by decide +kernel
theorem d_W_law_514 : decode m_W_law.2.1 514 = .ok (.iadd, 1) := by decide +kernel
theorem d_W_law_515 : decode m_W_law.2.1 515 = .ok (.iaload, 1) := by decide +kernel
theorem d_W_law_516 : decode m_W_law.2.1 516 = .ok (.invokevirtual 65, 3) := by decide +kernel
theorem d_W_law_519 : decode m_W_law.2.1 519 = .ok (.if_icmp .eq 457, 3) := by decide +kernel
theorem d_W_law_522 : decode m_W_law.2.1 522 = .ok (.iconst 0, 1) := by decide +kernel
theorem d_W_law_523 : decode m_W_law.2.1 523 = .ok (.ireturn, 1) := by decide +kernel
theorem d_W_law_524 : decode m_W_law.2.1 524 = .ok (.aload_n 1, 1) := by decide +kernel
theorem d_W_law_525 : decode m_W_law.2.1 525 = .ok (.aload_n 0, 1) := by decide +kernel
theorem d_W_law_526 : decode m_W_law.2.1 526 = .ok (.iload_n 3, 1) := by decide +kernel
theorem d_W_law_527 : decode m_W_law.2.1 527 = .ok (.iconst 1, 1) := by decide +kernel
theorem d_W_law_528 : decode m_W_law.2.1 528 = .ok (.iadd, 1) := by decide +kernel
theorem d_W_law_529 : decode m_W_law.2.1 529 = .ok (.iaload, 1) := by decide +kernel
theorem d_W_law_530 : decode m_W_law.2.1 530 = .ok (.aload_n 0, 1) := by decide +kernel
theorem d_W_law_531 : decode m_W_law.2.1 531 = .ok (.iload_n 3, 1) := by decide +kernel
theorem d_W_law_532 : decode m_W_law.2.1 532 = .ok (.iconst 2, 1) := by decide +kernel
theorem d_W_law_533 : decode m_W_law.2.1 533 = .ok (.iadd, 1) := by decide +kernel
theorem d_W_law_534 : decode m_W_law.2.1 534 = .ok (.iaload, 1) := by decide +kernel
theorem d_W_law_535 : decode m_W_law.2.1 535 = .ok (.invokevirtual 66, 3) := by decide +kernel
theorem d_W_law_538 : decode m_W_law.2.1 538 = .ok (.aload_n 2, 1) := by decide +kernel
theorem d_W_law_539 : decode m_W_law.2.1 539 = .ok (.aload_n 0, 1) := by decide +kernel
theorem d_W_law_540 : decode m_W_law.2.1 540 = .ok (.iload_n 3, 1) := by decide +kernel
theorem d_W_law_541 : decode m_W_law.2.1 541 = .ok (.iconst 1, 1) := by decide +kernel
theorem d_W_law_542 : decode m_W_law.2.1 542 = .ok (.iadd, 1) := by decide +kernel
theorem d_W_law_543 : decode m_W_law.2.1 543 = .ok (.iaload, 1) := by decide +kernel
theorem d_W_law_544 : decode m_W_law.2.1 544 = .ok (.aload_n 0, 1) := by decide +kernel
theorem d_W_law_545 : decode m_W_law.2.1 545 = .ok (.iload_n 3, 1) := by decide +kernel
theorem d_W_law_546 : decode m_W_law.2.1 546 = .ok (.iconst 2, 1) := by decide +kernel
theorem d_W_law_547 : decode m_W_law.2.1 547 = .ok (.iadd, 1) := by decide +kernel
theorem d_W_law_548 : decode m_W_law.2.1 548 = .ok (.iaload, 1) := by decide +kernel
theorem d_W_law_549 : decode m_W_law.2.1 549 = .ok (.invokevirtual 69, 3) := by decide +kernel
theorem d_W_law_552 : decode m_W_law.2.1 552 = .ok (.if_icmp .eq 424, 3) := by decide +kernel
theorem d_W_law_555 : decode m_W_law.2.1 555 = .ok (.iconst 0, 1) := by decide +kernel
theorem d_W_law_556 : decode m_W_law.2.1 556 = .ok (.ireturn, 1) := by decide +kernel
theorem d_W_law_557 : decode m_W_law.2.1 557 = .ok (.aload_n 1, 1) := by decide +kernel
theorem d_W_law_558 : decode m_W_law.2.1 558 = .ok (.aload_n 0, 1) := by decide +kernel
theorem d_W_law_559 : decode m_W_law.2.1 559 = .ok (.iload_n 3, 1) := by decide +kernel
theorem d_W_law_560 : decode m_W_law.2.1 560 = .ok (.iconst 1, 1) := by decide +kernel
theorem d_W_law_561 : decode m_W_law.2.1 561 = .ok (.iadd, 1) := by decide +kernel
theorem d_W_law_562 : decode m_W_law.2.1 562 = .ok (.iaload, 1) := by decide +kernel
theorem d_W_law_563 : decode m_W_law.2.1 563 = .ok (.invokevirtual 70, 3) := by decide +kernel
theorem d_W_law_566 : decode m_W_law.2.1 566 = .ok (.aload_n 2, 1) := by decide +kernel
theorem d_W_law_567 : decode m_W_law.2.1 567 = .ok (.aload_n 0, 1) := by decide +kernel
theorem d_W_law_568 : decode m_W_law.2.1 568 = .ok (.iload_n 3, 1) := by decide +kernel
theorem d_W_law_569 : decode m_W_law.2.1 569 = .ok (.iconst 1, 1) := by decide +kernel
theorem d_W_law_570 : decode m_W_law.2.1 570 = .ok (.iadd, 1) := by decide +kernel
theorem d_W_law_571 : decode m_W_law.2.1 571 = .ok (.iaload, 1) := by decide +kernel
theorem d_W_law_572 : decode m_W_law.2.1 572 = .ok (.invokevirtual 73, 3) := by decide +kernel
theorem d_W_law_575 : decode m_W_law.2.1 575 = .ok (.if_icmp .eq 401, 3) := by decide +kernel
theorem d_W_law_578 : decode m_W_law.2.1 578 = .ok (.iconst 0, 1) := by decide +kernel
theorem d_W_law_579 : decode m_W_law.2.1 579 = .ok (.ireturn, 1) := by decide +kernel
theorem d_W_law_580 : decode m_W_law.2.1 580 = .ok (.aload_n 1, 1) := by decide +kernel
theorem d_W_law_581 : decode m_W_law.2.1 581 = .ok (.aload_n 0, 1) := by decide +kernel
theorem d_W_law_582 : decode m_W_law.2.1 582 = .ok (.iload_n 3, 1) := by decide +kernel
theorem d_W_law_583 : decode m_W_law.2.1 583 = .ok (.iconst 1, 1) := by decide +kernel
theorem d_W_law_584 : decode m_W_law.2.1 584 = .ok (.iadd, 1) := by decide +kernel
theorem d_W_law_585 : decode m_W_law.2.1 585 = .ok (.iaload, 1) := by decide +kernel
theorem d_W_law_586 : decode m_W_law.2.1 586 = .ok (.aload_n 0, 1) := by decide +kernel
theorem d_W_law_587 : decode m_W_law.2.1 587 = .ok (.iload_n 3, 1) := by decide +kernel
theorem d_W_law_588 : decode m_W_law.2.1 588 = .ok (.iconst 2, 1) := by decide +kernel
theorem d_W_law_589 : decode m_W_law.2.1 589 = .ok (.iadd, 1) := by decide +kernel
theorem d_W_law_590 : decode m_W_law.2.1 590 = .ok (.iaload, 1) := by decide +kernel
theorem d_W_law_591 : decode m_W_law.2.1 591 = .ok (.invokevirtual 74, 3) := by decide +kernel
theorem d_W_law_594 : decode m_W_law.2.1 594 = .ok (.aload_n 2, 1) := by decide +kernel
theorem d_W_law_595 : decode m_W_law.2.1 595 = .ok (.aload_n 0, 1) := by decide +kernel
theorem d_W_law_596 : decode m_W_law.2.1 596 = .ok (.iload_n 3, 1) := by decide +kernel
theorem d_W_law_597 : decode m_W_law.2.1 597 = .ok (.iconst 1, 1) := by decide +kernel
theorem d_W_law_598 : decode m_W_law.2.1 598 = .ok (.iadd, 1) := by decide +kernel
theorem d_W_law_599 : decode m_W_law.2.1 599 = .ok (.iaload, 1) := by decide +kernel
theorem d_W_law_600 : decode m_W_law.2.1 600 = .ok (.aload_n 0, 1) := by decide +kernel
theorem d_W_law_601 : decode m_W_law.2.1 601 = .ok (.iload_n 3, 1) := by decide +kernel
theorem d_W_law_602 : decode m_W_law.2.1 602 = .ok (.iconst 2, 1) := by decide +kernel
theorem d_W_law_603 : decode m_W_law.2.1 603 = .ok (.iadd, 1) := by decide +kernel
theorem d_W_law_604 : decode m_W_law.2.1 604 = .ok (.iaload, 1) := by decide +kernel
theorem d_W_law_605 : decode m_W_law.2.1 605 = .ok (.invokevirtual 77, 3) := by decide +kernel
theorem d_W_law_608 : decode m_W_law.2.1 608 = .ok (.if_icmp .eq 368, 3) := by decide +kernel
theorem d_W_law_611 : decode m_W_law.2.1 611 = .ok (.iconst 0, 1) := by decide +kernel
theorem d_W_law_612 : decode m_W_law.2.1 612 = .ok (.ireturn, 1) := by decide +kernel
theorem d_W_law_613 : decode m_W_law.2.1 613 = .ok (.aload_n 1, 1) := by decide +kernel
theorem d_W_law_614 : decode m_W_law.2.1 614 = .ok (.aload_n 0, 1) := by decide +kernel
theorem d_W_law_615 : decode m_W_law.2.1 615 = .ok (.iload_n 3, 1) := by decide +kernel
theorem d_W_law_616 : decode m_W_law.2.1 616 = .ok (.iconst 1, 1) := by decide +kernel
theorem d_W_law_617 : decode m_W_law.2.1 617 = .ok (.iadd, 1) := by decide +kernel
theorem d_W_law_618 : decode m_W_law.2.1 618 = .ok (.iaload, 1) := by decide +kernel
theorem d_W_law_619 : decode m_W_law.2.1 619 = .ok (.aload_n 0, 1) := by decide +kernel
theorem d_W_law_620 : decode m_W_law.2.1 620 = .ok (.iload_n 3, 1) := by decide +kernel
theorem d_W_law_621 : decode m_W_law.2.1 621 = .ok (.iconst 2, 1) := by decide +kernel
theorem d_W_law_622 : decode m_W_law.2.1 622 = .ok (.iadd, 1) := by decide +kernel
theorem d_W_law_623 : decode m_W_law.2.1 623 = .ok (.iaload, 1) := by decide +kernel
theorem d_W_law_624 : decode m_W_law.2.1 624 = .ok (.invokevirtual 78, 3) := by decide +kernel
theorem d_W_law_627 : decode m_W_law.2.1 627 = .ok (.aload_n 2, 1) := by decide +kernel
theorem d_W_law_628 : decode m_W_law.2.1 628 = .ok (.aload_n 0, 1) := by decide +kernel
theorem d_W_law_629 : decode m_W_law.2.1 629 = .ok (.iload_n 3, 1) := by decide +kernel
theorem d_W_law_630 : decode m_W_law.2.1 630 = .ok (.iconst 1, 1) := by decide +kernel
theorem d_W_law_631 : decode m_W_law.2.1 631 = .ok (.iadd, 1) := by decide +kernel
theorem d_W_law_632 : decode m_W_law.2.1 632 = .ok (.iaload, 1) := by decide +kernel
theorem d_W_law_633 : decode m_W_law.2.1 633 = .ok (.aload_n 0, 1) := by decide +kernel
theorem d_W_law_634 : decode m_W_law.2.1 634 = .ok (.iload_n 3, 1) := by decide +kernel
theorem d_W_law_635 : decode m_W_law.2.1 635 = .ok (.iconst 2, 1) := by decide +kernel
theorem d_W_law_636 : decode m_W_law.2.1 636 = .ok (.iadd, 1) := by decide +kernel
theorem d_W_law_637 : decode m_W_law.2.1 637 = .ok (.iaload, 1) := by decide +kernel
theorem d_W_law_638 : decode m_W_law.2.1 638 = .ok (.invokevirtual 81, 3) := by decide +kernel
theorem d_W_law_641 : decode m_W_law.2.1 641 = .ok (.if_icmp .eq 335, 3) := by decide +kernel
theorem d_W_law_644 : decode m_W_law.2.1 644 = .ok (.iconst 0, 1) := by decide +kernel
theorem d_W_law_645 : decode m_W_law.2.1 645 = .ok (.ireturn, 1) := by decide +kernel
theorem d_W_law_646 : decode m_W_law.2.1 646 = .ok (.aload_n 1, 1) := by decide +kernel
theorem d_W_law_647 : decode m_W_law.2.1 647 = .ok (.aload_n 0, 1) := by decide +kernel
theorem d_W_law_648 : decode m_W_law.2.1 648 = .ok (.iload_n 3, 1) := by decide +kernel
theorem d_W_law_649 : decode m_W_law.2.1 649 = .ok (.iconst 1, 1) := by decide +kernel
theorem d_W_law_650 : decode m_W_law.2.1 650 = .ok (.iadd, 1) := by decide +kernel
theorem d_W_law_651 : decode m_W_law.2.1 651 = .ok (.iaload, 1) := by decide +kernel
theorem d_W_law_652 : decode m_W_law.2.1 652 = .ok (.aload_n 0, 1) := by decide +kernel
theorem d_W_law_653 : decode m_W_law.2.1 653 = .ok (.iload_n 3, 1) := by decide +kernel
theorem d_W_law_654 : decode m_W_law.2.1 654 = .ok (.iconst 2, 1) := by decide +kernel
theorem d_W_law_655 : decode m_W_law.2.1 655 = .ok (.iadd, 1) := by decide +kernel
theorem d_W_law_656 : decode m_W_law.2.1 656 = .ok (.iaload, 1) := by decide +kernel
theorem d_W_law_657 : decode m_W_law.2.1 657 = .ok (.invokevirtual 82, 3) := by decide +kernel
theorem d_W_law_660 : decode m_W_law.2.1 660 = .ok (.aload_n 2, 1) := by decide +kernel
theorem d_W_law_661 : decode m_W_law.2.1 661 = .ok (.aload_n 0, 1) := by decide +kernel
theorem d_W_law_662 : decode m_W_law.2.1 662 = .ok (.iload_n 3, 1) := by decide +kernel
theorem d_W_law_663 : decode m_W_law.2.1 663 = .ok (.iconst 1, 1) := by decide +kernel
theorem d_W_law_664 : decode m_W_law.2.1 664 = .ok (.iadd, 1) := by decide +kernel
theorem d_W_law_665 : decode m_W_law.2.1 665 = .ok (.iaload, 1) := by decide +kernel
theorem d_W_law_666 : decode m_W_law.2.1 666 = .ok (.aload_n 0, 1) := by decide +kernel
theorem d_W_law_667 : decode m_W_law.2.1 667 = .ok (.iload_n 3, 1) := by decide +kernel
theorem d_W_law_668 : decode m_W_law.2.1 668 = .ok (.iconst 2, 1) := by decide +kernel
theorem d_W_law_669 : decode m_W_law.2.1 669 = .ok (.iadd, 1) := by decide +kernel
theorem d_W_law_670 : decode m_W_law.2.1 670 = .ok (.iaload, 1) := by decide +kernel
theorem d_W_law_671 : decode m_W_law.2.1 671 = .ok (.invokevirtual 85, 3) := by decide +kernel
theorem d_W_law_674 : decode m_W_law.2.1 674 = .ok (.if_icmp .eq 302, 3) := by decide +kernel
theorem d_W_law_677 : decode m_W_law.2.1 677 = .ok (.iconst 0, 1) := by decide +kernel
theorem d_W_law_678 : decode m_W_law.2.1 678 = .ok (.ireturn, 1) := by decide +kernel
theorem d_W_law_679 : decode m_W_law.2.1 679 = .ok (.aload_n 1, 1) := by decide +kernel
theorem d_W_law_680 : decode m_W_law.2.1 680 = .ok (.aload_n 0, 1) := by decide +kernel
theorem d_W_law_681 : decode m_W_law.2.1 681 = .ok (.iload_n 3, 1) := by decide +kernel
theorem d_W_law_682 : decode m_W_law.2.1 682 = .ok (.iconst 1, 1) := by decide +kernel
theorem d_W_law_683 : decode m_W_law.2.1 683 = .ok (.iadd, 1) := by decide +kernel
theorem d_W_law_684 : decode m_W_law.2.1 684 = .ok (.iaload, 1) := by decide +kernel
theorem d_W_law_685 : decode m_W_law.2.1 685 = .ok (.aload_n 0, 1) := by decide +kernel
theorem d_W_law_686 : decode m_W_law.2.1 686 = .ok (.iload_n 3, 1) := by decide +kernel
theorem d_W_law_687 : decode m_W_law.2.1 687 = .ok (.iconst 2, 1) := by decide +kernel
theorem d_W_law_688 : decode m_W_law.2.1 688 = .ok (.iadd, 1) := by decide +kernel
theorem d_W_law_689 : decode m_W_law.2.1 689 = .ok (.iaload, 1) := by decide +kernel
theorem d_W_law_690 : decode m_W_law.2.1 690 = .ok (.ifCond .eq 7, 3) := by decide +kernel
theorem d_W_law_693 : decode m_W_law.2.1 693 = .ok (.iconst 1, 1) := by decide +kernel
theorem d_W_law_694 : decode m_W_law.2.1 694 = .ok (.goto 4, 3) := by decide +kernel
theorem d_W_law_697 : decode m_W_law.2.1 697 = .ok (.iconst 0, 1) := by decide +kernel
theorem d_W_law_698 : decode m_W_law.2.1 698 = .ok (.invokevirtual 86, 3) := by decide +kernel
theorem d_W_law_701 : decode m_W_law.2.1 701 = .ok (.aload_n 2, 1) := by decide +kernel
theorem d_W_law_702 : decode m_W_law.2.1 702 = .ok (.aload_n 0, 1) := by decide +kernel
theorem d_W_law_703 : decode m_W_law.2.1 703 = .ok (.iload_n 3, 1) := by decide +kernel
theorem d_W_law_704 : decode m_W_law.2.1 704 = .ok (.iconst 1, 1) := by decide +kernel
theorem d_W_law_705 : decode m_W_law.2.1 705 = .ok (.iadd, 1) := by decide +kernel
theorem d_W_law_706 : decode m_W_law.2.1 706 = .ok (.iaload, 1) := by decide +kernel
theorem d_W_law_707 : decode m_W_law.2.1 707 = .ok (.aload_n 0, 1) := by decide +kernel
theorem d_W_law_708 : decode m_W_law.2.1 708 = .ok (.iload_n 3, 1) := by decide +kernel
theorem d_W_law_709 : decode m_W_law.2.1 709 = .ok (.iconst 2, 1) := by decide +kernel
theorem d_W_law_710 : decode m_W_law.2.1 710 = .ok (.iadd, 1) := by decide +kernel
theorem d_W_law_711 : decode m_W_law.2.1 711 = .ok (.iaload, 1) := by decide +kernel
theorem d_W_law_712 : decode m_W_law.2.1 712 = .ok (.ifCond .eq 7, 3) := by decide +kernel
theorem d_W_law_715 : decode m_W_law.2.1 715 = .ok (.iconst 1, 1) := by decide +kernel
theorem d_W_law_716 : decode m_W_law.2.1 716 = .ok (.goto 4, 3) := by decide +kernel
theorem d_W_law_719 : decode m_W_law.2.1 719 = .ok (.iconst 0, 1) := by decide +kernel
theorem d_W_law_720 : decode m_W_law.2.1 720 = .ok (.invokevirtual 90, 3) := by decide +kernel
theorem d_W_law_723 : decode m_W_law.2.1 723 = .ok (.if_icmp .eq 253, 3) := by decide +kernel
theorem d_W_law_726 : decode m_W_law.2.1 726 = .ok (.iconst 0, 1) := by decide +kernel
theorem d_W_law_727 : decode m_W_law.2.1 727 = .ok (.ireturn, 1) := by decide +kernel
theorem d_W_law_728 : decode m_W_law.2.1 728 = .ok (.aload_n 1, 1) := by decide +kernel
theorem d_W_law_729 : decode m_W_law.2.1 729 = .ok (.invokevirtual 91, 3) := by decide +kernel
theorem d_W_law_732 : decode m_W_law.2.1 732 = .ok (.aload_n 2, 1) := by decide +kernel
theorem d_W_law_733 : decode m_W_law.2.1 733 = .ok (.invokevirtual 94, 3) := by decide +kernel
theorem d_W_law_736 : decode m_W_law.2.1 736 = .ok (.if_icmp .eq 240, 3) := by decide +kernel
theorem d_W_law_739 : decode m_W_law.2.1 739 = .ok (.iconst 0, 1) := by decide +kernel
theorem d_W_law_740 : decode m_W_law.2.1 740 = .ok (.ireturn, 1) := by decide +kernel
theorem d_W_law_741 : decode m_W_law.2.1 741 = .ok (.aload_n 1, 1) := by decide +kernel
theorem d_W_law_742 : decode m_W_law.2.1 742 = .ok (.invokevirtual 95, 3) := by decide +kernel
theorem d_W_law_745 : decode m_W_law.2.1 745 = .ok (.aload_n 2, 1) := by decide +kernel
theorem d_W_law_746 : decode m_W_law.2.1 746 = .ok (.invokevirtual 98, 3) := by decide +kernel
theorem d_W_law_749 : decode m_W_law.2.1 749 = .ok (.if_icmp .eq 227, 3) := by decide +kernel
theorem d_W_law_752 : decode m_W_law.2.1 752 = .ok (.iconst 0, 1) := by decide +kernel
theorem d_W_law_753 : decode m_W_law.2.1 753 = .ok (.ireturn, 1) := by decide +kernel
theorem d_W_law_754 : decode m_W_law.2.1 754 = .ok (.aload_n 1, 1) := by decide +kernel
theorem d_W_law_755 : decode m_W_law.2.1 755 = .ok (.aload_n 0, 1) := by decide +kernel
theorem d_W_law_756 : decode m_W_law.2.1 756 = .ok (.iload_n 3, 1) := by decide +kernel
theorem d_W_law_757 : decode m_W_law.2.1 757 = .ok (.iconst 1, 1) := by decide +kernel
theorem d_W_law_758 : decode m_W_law.2.1 758 = .ok (.iadd, 1) := by decide +kernel
theorem d_W_law_759 : decode m_W_law.2.1 759 = .ok (.iaload, 1) := by decide +kernel
theorem d_W_law_760 : decode m_W_law.2.1 760 = .ok (.invokevirtual 99, 3) := by decide +kernel
theorem d_W_law_763 : decode m_W_law.2.1 763 = .ok (.aload_n 2, 1) := by decide +kernel
theorem d_W_law_764 : decode m_W_law.2.1 764 = .ok (.aload_n 0, 1) := by decide +kernel
theorem d_W_law_765 : decode m_W_law.2.1 765 = .ok (.iload_n 3, 1) := by decide +kernel
theorem d_W_law_766 : decode m_W_law.2.1 766 = .ok (.iconst 1, 1) := by decide +kernel
theorem d_W_law_767 : decode m_W_law.2.1 767 = .ok (.iadd, 1) := by decide +kernel
theorem d_W_law_768 : decode m_W_law.2.1 768 = .ok (.iaload, 1) := by decide +kernel
theorem d_W_law_769 : decode m_W_law.2.1 769 = .ok (.invokevirtual 102, 3) := by decide +kernel
theorem d_W_law_772 : decode m_W_law.2.1 772 = .ok (.if_icmp .eq 204, 3) := by decide +kernel
theorem d_W_law_775 : decode m_W_law.2.1 775 = .ok (.iconst 0, 1) := by decide +kernel
theorem d_W_law_776 : decode m_W_law.2.1 776 = .ok (.ireturn, 1) := by decide +kernel
theorem d_W_law_777 : decode m_W_law.2.1 777 = .ok (.aload_n 1, 1) := by decide +kernel
theorem d_W_law_778 : decode m_W_law.2.1 778 = .ok (.aload_n 0, 1) := by decide +kernel
theorem d_W_law_779 : decode m_W_law.2.1 779 = .ok (.iload_n 3, 1) := by decide +kernel
theorem d_W_law_780 : decode m_W_law.2.1 780 = .ok (.iconst 1, 1) := by decide +kernel
theorem d_W_law_781 : decode m_W_law.2.1 781 = .ok (.iadd, 1) := by decide +kernel
theorem d_W_law_782 : decode m_W_law.2.1 782 = .ok (.iaload, 1) := by decide +kernel
theorem d_W_law_783 : decode m_W_law.2.1 783 = .ok (.aload_n 0, 1) := by decide +kernel
theorem d_W_law_784 : decode m_W_law.2.1 784 = .ok (.iload_n 3, 1) := by decide +kernel
theorem d_W_law_785 : decode m_W_law.2.1 785 = .ok (.iconst 2, 1) := by decide +kernel
theorem d_W_law_786 : decode m_W_law.2.1 786 = .ok (.iadd, 1) := by decide +kernel
theorem d_W_law_787 : decode m_W_law.2.1 787 = .ok (.iaload, 1) := by decide +kernel
theorem d_W_law_788 : decode m_W_law.2.1 788 = .ok (.invokevirtual 103, 3) := by decide +kernel
theorem d_W_law_791 : decode m_W_law.2.1 791 = .ok (.aload_n 2, 1) := by decide +kernel
theorem d_W_law_792 : decode m_W_law.2.1 792 = .ok (.aload_n 0, 1) := by decide +kernel
theorem d_W_law_793 : decode m_W_law.2.1 793 = .ok (.iload_n 3, 1) := by decide +kernel
theorem d_W_law_794 : decode m_W_law.2.1 794 = .ok (.iconst 1, 1) := by decide +kernel
theorem d_W_law_795 : decode m_W_law.2.1 795 = .ok (.iadd, 1) := by decide +kernel
theorem d_W_law_796 : decode m_W_law.2.1 796 = .ok (.iaload, 1) := by decide +kernel
theorem d_W_law_797 : decode m_W_law.2.1 797 = .ok (.aload_n 0, 1) := by decide +kernel
theorem d_W_law_798 : decode m_W_law.2.1 798 = .ok (.iload_n 3, 1) := by decide +kernel
theorem d_W_law_799 : decode m_W_law.2.1 799 = .ok (.iconst 2, 1) := by decide +kernel
theorem d_W_law_800 : decode m_W_law.2.1 800 = .ok (.iadd, 1) := by decide +kernel
theorem d_W_law_801 : decode m_W_law.2.1 801 = .ok (.iaload, 1) := by decide +kernel
theorem d_W_law_802 : decode m_W_law.2.1 802 = .ok (.invokevirtual 106, 3) := by decide +kernel
theorem d_W_law_805 : decode m_W_law.2.1 805 = .ok (.if_icmp .eq 171, 3) := by decide +kernel
theorem d_W_law_808 : decode m_W_law.2.1 808 = .ok (.iconst 0, 1) := by decide +kernel
theorem d_W_law_809 : decode m_W_law.2.1 809 = .ok (.ireturn, 1) := by decide +kernel
theorem d_W_law_810 : decode m_W_law.2.1 810 = .ok (.aload_n 1, 1) := by decide +kernel
theorem d_W_law_811 : decode m_W_law.2.1 811 = .ok (.aload_n 0, 1) := by decide +kernel
theorem d_W_law_812 : decode m_W_law.2.1 812 = .ok (.iload_n 3, 1) := by decide +kernel
theorem d_W_law_813 : decode m_W_law.2.1 813 = .ok (.iconst 1, 1) := by decide +kernel
theorem d_W_law_814 : decode m_W_law.2.1 814 = .ok (.iadd, 1) := by decide +kernel
theorem d_W_law_815 : decode m_W_law.2.1 815 = .ok (.iaload, 1) := by decide +kernel
theorem d_W_law_816 : decode m_W_law.2.1 816 = .ok (.aload_n 0, 1) := by decide +kernel
theorem d_W_law_817 : decode m_W_law.2.1 817 = .ok (.iload_n 3, 1) := by decide +kernel
theorem d_W_law_818 : decode m_W_law.2.1 818 = .ok (.iconst 2, 1) := by decide +kernel
theorem d_W_law_819 : decode m_W_law.2.1 819 = .ok (.iadd, 1) := by decide +kernel
theorem d_W_law_820 : decode m_W_law.2.1 820 = .ok (.iaload, 1) := by decide +kernel
theorem d_W_law_821 : decode m_W_law.2.1 821 = .ok (.aload_n 0, 1) := by decide +kernel
theorem d_W_law_822 : decode m_W_law.2.1 822 = .ok (.iload_n 3, 1) := by decide +kernel
theorem d_W_law_823 : decode m_W_law.2.1 823 = .ok (.iconst 3, 1) := by decide +kernel
theorem d_W_law_824 : decode m_W_law.2.1 824 = .ok (.iadd, 1) := by decide +kernel
theorem d_W_law_825 : decode m_W_law.2.1 825 = .ok (.iaload, 1) := by decide +kernel
theorem d_W_law_826 : decode m_W_law.2.1 826 = .ok (.aload_n 0, 1) := by decide +kernel
theorem d_W_law_827 : decode m_W_law.2.1 827 = .ok (.iload_n 3, 1) := by decide +kernel
theorem d_W_law_828 : decode m_W_law.2.1 828 = .ok (.iconst 4, 1) := by decide +kernel
theorem d_W_law_829 : decode m_W_law.2.1 829 = .ok (.iadd, 1) := by decide +kernel
theorem d_W_law_830 : decode m_W_law.2.1 830 = .ok (.iaload, 1) := by decide +kernel
theorem d_W_law_831 : decode m_W_law.2.1 831 = .ok (.invokevirtual 107, 3) := by decide +kernel
theorem d_W_law_834 : decode m_W_law.2.1 834 = .ok (.aload_n 2, 1) := by decide +kernel
theorem d_W_law_835 : decode m_W_law.2.1 835 = .ok (.aload_n 0, 1) := by decide +kernel
theorem d_W_law_836 : decode m_W_law.2.1 836 = .ok (.iload_n 3, 1) := by decide +kernel
theorem d_W_law_837 : decode m_W_law.2.1 837 = .ok (.iconst 1, 1) := by decide +kernel
theorem d_W_law_838 : decode m_W_law.2.1 838 = .ok (.iadd, 1) := by decide +kernel
theorem d_W_law_839 : decode m_W_law.2.1 839 = .ok (.iaload, 1) := by decide +kernel
theorem d_W_law_840 : decode m_W_law.2.1 840 = .ok (.aload_n 0, 1) := by decide +kernel
theorem d_W_law_841 : decode m_W_law.2.1 841 = .ok (.iload_n 3, 1) := by decide +kernel
theorem d_W_law_842 : decode m_W_law.2.1 842 = .ok (.iconst 2, 1) := by decide +kernel
theorem d_W_law_843 : decode m_W_law.2.1 843 = .ok (.iadd, 1) := by decide +kernel
theorem d_W_law_844 : decode m_W_law.2.1 844 = .ok (.iaload, 1) := by decide +kernel
theorem d_W_law_845 : decode m_W_law.2.1 845 = .ok (.aload_n 0, 1) := by decide +kernel
theorem d_W_law_846 : decode m_W_law.2.1 846 = .ok (.iload_n 3, 1) := by decide +kernel
theorem d_W_law_847 : decode m_W_law.2.1 847 = .ok (.iconst 3, 1) := by decide +kernel
theorem d_W_law_848 : decode m_W_law.2.1 848 = .ok (.iadd, 1) := by decide +kernel
theorem d_W_law_849 : decode m_W_law.2.1 849 = .ok (.iaload, 1) := by decide +kernel
theorem d_W_law_850 : decode m_W_law.2.1 850 = .ok (.aload_n 0, 1) := by decide +kernel
theorem d_W_law_851 : decode m_W_law.2.1 851 = .ok (.iload_n 3, 1) := by decide +kernel
theorem d_W_law_852 : decode m_W_law.2.1 852 = .ok (.iconst 4, 1) := by decide +kernel
theorem d_W_law_853 : decode m_W_law.2.1 853 = .ok (.iadd, 1) := by decide +kernel
theorem d_W_law_854 : decode m_W_law.2.1 854 = .ok (.iaload, 1) := by decide +kernel
theorem d_W_law_855 : decode m_W_law.2.1 855 = .ok (.invokevirtual 111, 3) := by decide +kernel
theorem d_W_law_858 : decode m_W_law.2.1 858 = .ok (.lcmp, 1) := by decide +kernel
theorem d_W_law_859 : decode m_W_law.2.1 859 = .ok (.ifCond .eq 117, 3) := by decide +kernel
theorem d_W_law_862 : decode m_W_law.2.1 862 = .ok (.iconst 0, 1) := by decide +kernel
theorem d_W_law_863 : decode m_W_law.2.1 863 = .ok (.ireturn, 1) := by decide +kernel
theorem d_W_law_864 : decode m_W_law.2.1 864 = .ok (.aload_n 1, 1) := by decide +kernel
theorem d_W_law_865 : decode m_W_law.2.1 865 = .ok (.aload_n 0, 1) := by decide +kernel
theorem d_W_law_866 : decode m_W_law.2.1 866 = .ok (.iload_n 3, 1) := by decide +kernel
theorem d_W_law_867 : decode m_W_law.2.1 867 = .ok (.iconst 1, 1) := by decide +kernel
theorem d_W_law_868 : decode m_W_law.2.1 868 = .ok (.iadd, 1) := by decide +kernel
theorem d_W_law_869 : decode m_W_law.2.1 869 = .ok (.iaload, 1) := by decide +kernel
theorem d_W_law_870 : decode m_W_law.2.1 870 = .ok (.aload_n 0, 1) := by decide +kernel
theorem d_W_law_871 : decode m_W_law.2.1 871 = .ok (.iload_n 3, 1) := by decide +kernel
theorem d_W_law_872 : decode m_W_law.2.1 872 = .ok (.iconst 2, 1) := by decide +kernel
theorem d_W_law_873 : decode m_W_law.2.1 873 = .ok (.iadd, 1) := by decide +kernel
theorem d_W_law_874 : decode m_W_law.2.1 874 = .ok (.iaload, 1) := by decide +kernel
theorem d_W_law_875 : decode m_W_law.2.1 875 = .ok (.aload_n 0, 1) := by decide +kernel
theorem d_W_law_876 : decode m_W_law.2.1 876 = .ok (.iload_n 3, 1) := by decide +kernel
theorem d_W_law_877 : decode m_W_law.2.1 877 = .ok (.iconst 3, 1) := by decide +kernel
theorem d_W_law_878 : decode m_W_law.2.1 878 = .ok (.iadd, 1) := by decide +kernel
theorem d_W_law_879 : decode m_W_law.2.1 879 = .ok (.iaload, 1) := by decide +kernel
theorem d_W_law_880 : decode m_W_law.2.1 880 = .ok (.invokevirtual 112, 3) := by decide +kernel
theorem d_W_law_883 : decode m_W_law.2.1 883 = .ok (.aload_n 2, 1) := by decide +kernel
theorem d_W_law_884 : decode m_W_law.2.1 884 = .ok (.aload_n 0, 1) := by decide +kernel
theorem d_W_law_885 : decode m_W_law.2.1 885 = .ok (.iload_n 3, 1) := by decide +kernel
theorem d_W_law_886 : decode m_W_law.2.1 886 = .ok (.iconst 1, 1) := by decide +kernel
theorem d_W_law_887 : decode m_W_law.2.1 887 = .ok (.iadd, 1) := by decide +kernel
theorem d_W_law_888 : decode m_W_law.2.1 888 = .ok (.iaload, 1) := by decide +kernel
theorem d_W_law_889 : decode m_W_law.2.1 889 = .ok (.aload_n 0, 1) := by decide +kernel
theorem d_W_law_890 : decode m_W_law.2.1 890 = .ok (.iload_n 3, 1) := by decide +kernel
theorem d_W_law_891 : decode m_W_law.2.1 891 = .ok (.iconst 2, 1) := by decide +kernel
theorem d_W_law_892 : decode m_W_law.2.1 892 = .ok (.iadd, 1) := by decide +kernel
theorem d_W_law_893 : decode m_W_law.2.1 893 = .ok (.iaload, 1) := by decide +kernel
theorem d_W_law_894 : decode m_W_law.2.1 894 = .ok (.aload_n 0, 1) := by decide +kernel
theorem d_W_law_895 : decode m_W_law.2.1 895 = .ok (.iload_n 3, 1) := by decide +kernel
theorem d_W_law_896 : decode m_W_law.2.1 896 = .ok (.iconst 3, 1) := by decide +kernel
theorem d_W_law_897 : decode m_W_law.2.1 897 = .ok (.iadd, 1) := by decide +kernel
theorem d_W_law_898 : decode m_W_law.2.1 898 = .ok (.iaload, 1) := by decide +kernel
theorem d_W_law_899 : decode m_W_law.2.1 899 = .ok (.invokevirtual 116, 3) := by decide +kernel
theorem d_W_law_902 : decode m_W_law.2.1 902 = .ok (.if_icmp .eq 74, 3) := by decide +kernel
theorem d_W_law_905 : decode m_W_law.2.1 905 = .ok (.iconst 0, 1) := by decide +kernel
theorem d_W_law_906 : decode m_W_law.2.1 906 = .ok (.ireturn, 1) := by decide +kernel
theorem d_W_law_907 : decode m_W_law.2.1 907 = .ok (.aload_n 1, 1) := by decide +kernel
theorem d_W_law_908 : decode m_W_law.2.1 908 = .ok (.aload_n 0, 1) := by decide +kernel
theorem d_W_law_909 : decode m_W_law.2.1 909 = .ok (.iload_n 3, 1) := by decide +kernel
theorem d_W_law_910 : decode m_W_law.2.1 910 = .ok (.iconst 1, 1) := by decide +kernel
theorem d_W_law_911 : decode m_W_law.2.1 911 = .ok (.iadd, 1) := by decide +kernel
theorem d_W_law_912 : decode m_W_law.2.1 912 = .ok (.iaload, 1) := by decide +kernel
theorem d_W_law_913 : decode m_W_law.2.1 913 = .ok (.invokevirtual 117, 3) := by decide +kernel
theorem d_W_law_916 : decode m_W_law.2.1 916 = .ok (.aload_n 2, 1) := by decide +kernel
theorem d_W_law_917 : decode m_W_law.2.1 917 = .ok (.aload_n 0, 1) := by decide +kernel
theorem d_W_law_918 : decode m_W_law.2.1 918 = .ok (.iload_n 3, 1) := by decide +kernel
theorem d_W_law_919 : decode m_W_law.2.1 919 = .ok (.iconst 1, 1) := by decide +kernel
theorem d_W_law_920 : decode m_W_law.2.1 920 = .ok (.iadd, 1) := by decide +kernel
theorem d_W_law_921 : decode m_W_law.2.1 921 = .ok (.iaload, 1) := by decide +kernel
theorem d_W_law_922 : decode m_W_law.2.1 922 = .ok (.invokevirtual 120, 3) := by decide +kernel
theorem d_W_law_925 : decode m_W_law.2.1 925 = .ok (.if_icmp .eq 51, 3) := by decide +kernel
theorem d_W_law_928 : decode m_W_law.2.1 928 = .ok (.iconst 0, 1) := by decide +kernel
theorem d_W_law_929 : decode m_W_law.2.1 929 = .ok (.ireturn, 1) := by decide +kernel
theorem d_W_law_930 : decode m_W_law.2.1 930 = .ok (.aload_n 1, 1) := by decide +kernel
theorem d_W_law_931 : decode m_W_law.2.1 931 = .ok (.aload_n 0, 1) := by decide +kernel
theorem d_W_law_932 : decode m_W_law.2.1 932 = .ok (.iload_n 3, 1) := by decide +kernel
theorem d_W_law_933 : decode m_W_law.2.1 933 = .ok (.iconst 1, 1) := by decide +kernel
theorem d_W_law_934 : decode m_W_law.2.1 934 = .ok (.iadd, 1) := by decide +kernel
theorem d_W_law_935 : decode m_W_law.2.1 935 = .ok (.iaload, 1) := by decide +kernel
theorem d_W_law_936 : decode m_W_law.2.1 936 = .ok (.invokevirtual 121, 3) := by decide +kernel
theorem d_W_law_939 : decode m_W_law.2.1 939 = .ok (.aload_n 2, 1) := by decide +kernel
theorem d_W_law_940 : decode m_W_law.2.1 940 = .ok (.aload_n 0, 1) := by decide +kernel
theorem d_W_law_941 : decode m_W_law.2.1 941 = .ok (.iload_n 3, 1) := by decide +kernel
theorem d_W_law_942 : decode m_W_law.2.1 942 = .ok (.iconst 1, 1) := by decide +kernel
theorem d_W_law_943 : decode m_W_law.2.1 943 = .ok (.iadd, 1) := by decide +kernel
theorem d_W_law_944 : decode m_W_law.2.1 944 = .ok (.iaload, 1) := by decide +kernel
theorem d_W_law_945 : decode m_W_law.2.1 945 = .ok (.invokevirtual 124, 3) := by decide +kernel
theorem d_W_law_948 : decode m_W_law.2.1 948 = .ok (.if_icmp .eq 28, 3) := by decide +kernel
theorem d_W_law_951 : decode m_W_law.2.1 951 = .ok (.iconst 0, 1) := by decide +kernel
theorem d_W_law_952 : decode m_W_law.2.1 952 = .ok (.ireturn, 1) := by decide +kernel
theorem d_W_law_953 : decode m_W_law.2.1 953 = .ok (.aload_n 1, 1) := by decide +kernel
theorem d_W_law_954 : decode m_W_law.2.1 954 = .ok (.aload_n 0, 1) := by decide +kernel
theorem d_W_law_955 : decode m_W_law.2.1 955 = .ok (.iload_n 3, 1) := by decide +kernel
theorem d_W_law_956 : decode m_W_law.2.1 956 = .ok (.iconst 1, 1) := by decide +kernel
theorem d_W_law_957 : decode m_W_law.2.1 957 = .ok (.iadd, 1) := by decide +kernel
theorem d_W_law_958 : decode m_W_law.2.1 958 = .ok (.iaload, 1) := by decide +kernel
theorem d_W_law_959 : decode m_W_law.2.1 959 = .ok (.invokevirtual 125, 3) := by decide +kernel
theorem d_W_law_962 : decode m_W_law.2.1 962 = .ok (.aload_n 2, 1) := by decide +kernel
theorem d_W_law_963 : decode m_W_law.2.1 963 = .ok (.aload_n 0, 1) := by decide +kernel
theorem d_W_law_964 : decode m_W_law.2.1 964 = .ok (.iload_n 3, 1) := by decide +kernel
theorem d_W_law_965 : decode m_W_law.2.1 965 = .ok (.iconst 1, 1) := by decide +kernel
theorem d_W_law_966 : decode m_W_law.2.1 966 = .ok (.iadd, 1) := by decide +kernel
theorem d_W_law_967 : decode m_W_law.2.1 967 = .ok (.iaload, 1) := by decide +kernel
theorem d_W_law_968 : decode m_W_law.2.1 968 = .ok (.invokevirtual 128, 3) := by decide +kernel
theorem d_W_law_971 : decode m_W_law.2.1 971 = .ok (.if_icmp .eq 5, 3) := by decide +kernel
theorem d_W_law_974 : decode m_W_law.2.1 974 = .ok (.iconst 0, 1) := by decide +kernel
theorem d_W_law_975 : decode m_W_law.2.1 975 = .ok (.ireturn, 1) := by decide +kernel
theorem d_W_law_976 : decode m_W_law.2.1 976 = .ok (.iinc 3 6, 3) := by decide +kernel
theorem d_W_law_979 : decode m_W_law.2.1 979 = .ok (.goto (-961), 3) := by decide +kernel
theorem d_W_law_982 : decode m_W_law.2.1 982 = .ok (.iconst 1, 1) := by decide +kernel
theorem d_W_law_983 : decode m_W_law.2.1 983 = .ok (.ireturn, 1) := by decide +kernel
end
section
abbrev r_V_init : Room := { frames := 2, cells := 35, slots := 361, locals := 40 }
abbrev r_V_house : Room := { frames := 1, cells := 0, slots := 0, locals := 22 }
abbrev r_V_wall : Room := { frames := 1, cells := 0, slots := 0, locals := 22 }
abbrev r_V_set : Room := { frames := 2, cells := 0, slots := 0, locals := 44 }
abbrev r_V_setVoice : Room := { frames := 1, cells := 0, slots := 0, locals := 22 }
abbrev r_V_setWind : Room := { frames := 1, cells := 0, slots := 0, locals := 22 }
abbrev r_V_setPlace : Room := { frames := 1, cells := 0, slots := 0, locals := 22 }
abbrev r_V_letter : Room := { frames := 1, cells := 0, slots := 0, locals := 22 }
abbrev r_V_say : Room := { frames := 1, cells := 0, slots := 0, locals := 22 }
abbrev r_V_wipe : Room := { frames := 1, cells := 0, slots := 0, locals := 21 }
abbrev r_V_fault : Room := { frames := 2, cells := 0, slots := 0, locals := 43 }
abbrev r_V_judge : Room := { frames := 6, cells := 0, slots := 0, locals := 143 }
abbrev r_V_done : Room := { frames := 6, cells := 0, slots := 0, locals := 143 }
abbrev r_V_knows : Room := { frames := 6, cells := 0, slots := 0, locals := 143 }
abbrev r_V_behind : Room := { frames := 6, cells := 0, slots := 0, locals := 143 }
abbrev r_V_who : Room := { frames := 1, cells := 0, slots := 0, locals := 22 }
abbrev r_V_loud : Room := { frames := 2, cells := 0, slots := 0, locals := 46 }
abbrev r_V_hears : Room := { frames := 2, cells := 0, slots := 0, locals := 50 }
abbrev r_V_best : Room := { frames := 3, cells := 0, slots := 0, locals := 72 }
abbrev r_V_thirds : Room := { frames := 3, cells := 0, slots := 0, locals := 72 }
abbrev r_V_round : Room := { frames := 3, cells := 0, slots := 0, locals := 77 }
abbrev r_V_seen : Room := { frames := 1, cells := 0, slots := 0, locals := 22 }
abbrev r_V_forget : Room := { frames := 0, cells := 0, slots := 0, locals := 0 }
abbrev r_V_at : Room := { frames := 3, cells := 0, slots := 0, locals := 72 }
abbrev r_V_ask : Room := { frames := 3, cells := 0, slots := 0, locals := 72 }
abbrev r_V_rumour : Room := { frames := 3, cells := 0, slots := 0, locals := 68 }
abbrev r_V_chance : Room := { frames := 3, cells := 0, slots := 0, locals := 83 }
abbrev r_V_year : Room := { frames := 5, cells := 0, slots := 0, locals := 121 }
abbrev r_V_image : Room := { frames := 2, cells := 0, slots := 0, locals := 47 }
abbrev r_V_restore : Room := { frames := 2, cells := 0, slots := 0, locals := 47 }
abbrev r_V_imageNumbered : Room := { frames := 0, cells := 0, slots := 0, locals := 0 }
abbrev r_V_told : Room := { frames := 1, cells := 0, slots := 0, locals := 22 }
abbrev r_V_toldOfAll : Room := { frames := 0, cells := 0, slots := 0, locals := 0 }
abbrev r_V_toldOfLetter : Room := { frames := 0, cells := 0, slots := 0, locals := 0 }
abbrev r_V_within : Room := { frames := 0, cells := 0, slots := 0, locals := 0 }
abbrev r_V_hasBit : Room := { frames := 0, cells := 0, slots := 0, locals := 0 }
abbrev r_V_withBit : Room := { frames := 0, cells := 0, slots := 0, locals := 0 }
abbrev r_M_init : Room := { frames := 1, cells := 11, slots := 341, locals := 20 }
abbrev r_M_in : Room := { frames := 0, cells := 0, slots := 0, locals := 0 }
abbrev r_M_has : Room := { frames := 0, cells := 0, slots := 0, locals := 0 }
abbrev r_M_bits : Room := { frames := 0, cells := 0, slots := 0, locals := 0 }
abbrev r_M_isHouse : Room := { frames := 1, cells := 0, slots := 0, locals := 22 }
abbrev r_M_house : Room := { frames := 2, cells := 0, slots := 0, locals := 42 }
abbrev r_M_wall : Room := { frames := 1, cells := 0, slots := 0, locals := 22 }
abbrev r_M_set : Room := { frames := 2, cells := 0, slots := 0, locals := 42 }
abbrev r_M_letter : Room := { frames := 2, cells := 0, slots := 0, locals := 42 }
abbrev r_M_say : Room := { frames := 1, cells := 0, slots := 0, locals := 22 }
abbrev r_M_wipe : Room := { frames := 0, cells := 0, slots := 0, locals := 0 }
abbrev r_M_isLetter : Room := { frames := 1, cells := 0, slots := 0, locals := 22 }
abbrev r_M_faultOf : Room := { frames := 2, cells := 0, slots := 0, locals := 42 }
abbrev r_M_fault : Room := { frames := 3, cells := 0, slots := 0, locals := 65 }
abbrev r_M_loudAt : Room := { frames := 0, cells := 0, slots := 0, locals := 0 }
abbrev r_M_doesHear : Room := { frames := 1, cells := 0, slots := 0, locals := 25 }
abbrev r_M_hearers : Room := { frames := 2, cells := 0, slots := 0, locals := 49 }
abbrev r_M_asNow : Room := { frames := 0, cells := 0, slots := 0, locals := 0 }
abbrev r_M_goTo : Room := { frames := 0, cells := 0, slots := 0, locals := 0 }
abbrev r_M_read : Room := { frames := 2, cells := 0, slots := 0, locals := 49 }
abbrev r_M_evening : Room := { frames := 1, cells := 0, slots := 0, locals := 21 }
abbrev r_M_goDays : Room := { frames := 3, cells := 0, slots := 0, locals := 71 }
abbrev r_M_judge : Room := { frames := 4, cells := 0, slots := 0, locals := 93 }
abbrev r_M_barOfDays : Room := { frames := 4, cells := 0, slots := 0, locals := 93 }
abbrev r_M_done : Room := { frames := 5, cells := 0, slots := 0, locals := 113 }
abbrev r_M_knows : Room := { frames := 5, cells := 0, slots := 0, locals := 113 }
abbrev r_M_behind : Room := { frames := 5, cells := 0, slots := 0, locals := 113 }
abbrev r_M_who : Room := { frames := 1, cells := 0, slots := 0, locals := 22 }
abbrev r_M_loud : Room := { frames := 2, cells := 0, slots := 0, locals := 42 }
abbrev r_M_hears : Room := { frames := 3, cells := 0, slots := 0, locals := 73 }
abbrev r_M_best : Room := { frames := 3, cells := 0, slots := 0, locals := 73 }
abbrev r_M_laySets : Room := { frames := 3, cells := 0, slots := 0, locals := 73 }
abbrev r_M_thirds : Room := { frames := 4, cells := 0, slots := 0, locals := 94 }
abbrev r_M_round : Room := { frames := 4, cells := 0, slots := 0, locals := 94 }
abbrev r_M_seen : Room := { frames := 2, cells := 0, slots := 0, locals := 42 }
abbrev r_M_forget : Room := { frames := 0, cells := 0, slots := 0, locals := 0 }
abbrev r_M_atSet : Room := { frames := 4, cells := 0, slots := 0, locals := 94 }
abbrev r_M_at : Room := { frames := 5, cells := 0, slots := 0, locals := 118 }
abbrev r_M_ask : Room := { frames := 5, cells := 0, slots := 0, locals := 118 }
abbrev r_M_spread : Room := { frames := 1, cells := 0, slots := 0, locals := 21 }
abbrev r_M_rumour : Room := { frames := 2, cells := 0, slots := 0, locals := 44 }
abbrev r_M_chance : Room := { frames := 3, cells := 0, slots := 0, locals := 73 }
abbrev r_M_year : Room := { frames := 3, cells := 0, slots := 0, locals := 71 }
abbrev r_M_image : Room := { frames := 1, cells := 0, slots := 0, locals := 22 }
abbrev r_M_restore : Room := { frames := 1, cells := 0, slots := 0, locals := 22 }
abbrev r_M_told : Room := { frames := 2, cells := 0, slots := 0, locals := 42 }
abbrev r_C_init : Room := { frames := 1, cells := 1, slots := 12, locals := 20 }
abbrev r_C_weigh : Room := { frames := 2, cells := 0, slots := 0, locals := 50 }
abbrev r_C_findMean : Room := { frames := 2, cells := 0, slots := 0, locals := 56 }
abbrev r_C_findAtMost : Room := { frames := 2, cells := 0, slots := 0, locals := 56 }
abbrev r_C_countWays : Room := { frames := 0, cells := 0, slots := 0, locals := 0 }
abbrev r_C_putLowest : Room := { frames := 1, cells := 0, slots := 0, locals := 30 }
abbrev r_C_greatestDivisor : Room := { frames := 0, cells := 0, slots := 0, locals := 0 }
abbrev r_L_init : Room := { frames := 1, cells := 2, slots := 24, locals := 20 }
abbrev r_L_listen : Room := { frames := 2, cells := 0, slots := 0, locals := 50 }
abbrev r_L_placesFor : Room := { frames := 1, cells := 0, slots := 0, locals := 21 }
abbrev r_L_bestFor : Room := { frames := 1, cells := 0, slots := 0, locals := 21 }
abbrev r_L_thirdsFor : Room := { frames := 0, cells := 0, slots := 0, locals := 0 }
abbrev r_L_leastWalk : Room := { frames := 2, cells := 0, slots := 0, locals := 47 }
abbrev r_L_allCanBeRead : Room := { frames := 1, cells := 0, slots := 0, locals := 21 }
abbrev r_L_placesThatFit : Room := { frames := 0, cells := 0, slots := 0, locals := 0 }
abbrev r_L_bestToAsk : Room := { frames := 1, cells := 0, slots := 0, locals := 21 }
abbrev r_P_init : Room := { frames := 1, cells := 1, slots := 60, locals := 20 }
abbrev r_P_write : Room := { frames := 0, cells := 0, slots := 0, locals := 0 }
abbrev r_P_clean : Room := { frames := 0, cells := 0, slots := 0, locals := 0 }
abbrev r_P_faultPlace : Room := { frames := 1, cells := 0, slots := 0, locals := 20 }
abbrev r_P_kindOf : Room := { frames := 0, cells := 0, slots := 0, locals := 0 }
abbrev r_P_numberOf : Room := { frames := 1, cells := 0, slots := 0, locals := 20 }
abbrev r_P_playsToTheEnd : Room := { frames := 5, cells := 0, slots := 0, locals := 119 }
abbrev r_P_playAct : Room := { frames := 4, cells := 0, slots := 0, locals := 95 }
abbrev r_P_goesAstray : Room := { frames := 2, cells := 0, slots := 0, locals := 50 }
abbrev r_S_init : Room := { frames := 1, cells := 6, slots := 47, locals := 20 }
abbrev r_S_takeFrom : Room := { frames := 1, cells := 0, slots := 0, locals := 26 }
abbrev r_S_loudness : Room := { frames := 1, cells := 0, slots := 0, locals := 21 }
abbrev r_S_reached : Room := { frames := 0, cells := 0, slots := 0, locals := 0 }
abbrev r_S_hearers : Room := { frames := 1, cells := 0, slots := 0, locals := 26 }
abbrev r_S_whyNot : Room := { frames := 1, cells := 0, slots := 0, locals := 21 }
abbrev r_S_carryOut : Room := { frames := 3, cells := 0, slots := 0, locals := 73 }
abbrev r_S_readOut : Room := { frames := 2, cells := 0, slots := 0, locals := 50 }
abbrev r_S_passEvening : Room := { frames := 1, cells := 0, slots := 0, locals := 21 }
abbrev r_S_tellsEastward : Room := { frames := 0, cells := 0, slots := 0, locals := 0 }
abbrev r_S_knowersOfRumour : Room := { frames := 2, cells := 0, slots := 0, locals := 44 }
abbrev r_S_eveningsOfRumour : Room := { frames := 2, cells := 0, slots := 0, locals := 44 }
abbrev r_S_toldOnward : Room := { frames := 1, cells := 0, slots := 0, locals := 21 }
abbrev r_S_drawYear : Room := { frames := 4, cells := 0, slots := 0, locals := 95 }
abbrev r_S_drawnKind : Room := { frames := 0, cells := 0, slots := 0, locals := 0 }
abbrev r_S_factsKnown : Room := { frames := 1, cells := 0, slots := 0, locals := 20 }
abbrev r_B_bitCount : Room := { frames := 0, cells := 0, slots := 0, locals := 0 }
theorem mo_V_init : mo_ok m_V_init 0 := ⟨wc_V_init, wn_V, by decide, by decide, by decide +kernel⟩
theorem ok_V_init : mi_ok m_V_init 0 := ⟨mo_V_init, wi_V_init, rfl, rfl⟩
theorem mo_V_house : mo_ok m_V_house 4 := ⟨wc_V_house, wn_V, by decide, by decide, by decide +kernel⟩
theorem ok_V_house : mv_ok m_V_house 4 4 := ⟨mo_V_house, wi_V_house, wv_V_house, _, _, rfl⟩
theorem mo_V_wall : mo_ok m_V_wall 2 := ⟨wc_V_wall, wn_V, by decide, by decide, by decide +kernel⟩
theorem ok_V_wall : mv_ok m_V_wall 2 4 := ⟨mo_V_wall, wi_V_wall, wv_V_wall, _, _, rfl⟩
theorem mo_V_set : mo_ok m_V_set 2 := ⟨wc_V_set, wn_V, by decide, by decide, by decide +kernel⟩
theorem ok_V_set : mv_ok m_V_set 2 4 := ⟨mo_V_set, wi_V_set, wv_V_set, _, _, rfl⟩
theorem mo_V_setVoice : mo_ok m_V_setVoice 1 := ⟨wc_V_setVoice, wn_V, by decide, by decide, by decide +kernel⟩
theorem ok_V_setVoice : mv_ok m_V_setVoice 1 4 := ⟨mo_V_setVoice, wi_V_setVoice, wv_V_setVoice, _, _, rfl⟩
theorem mo_V_setWind : mo_ok m_V_setWind 1 := ⟨wc_V_setWind, wn_V, by decide, by decide, by decide +kernel⟩
theorem ok_V_setWind : mv_ok m_V_setWind 1 4 := ⟨mo_V_setWind, wi_V_setWind, wv_V_setWind, _, _, rfl⟩
theorem mo_V_setPlace : mo_ok m_V_setPlace 1 := ⟨wc_V_setPlace, wn_V, by decide, by decide, by decide +kernel⟩
theorem ok_V_setPlace : mv_ok m_V_setPlace 1 4 := ⟨mo_V_setPlace, wi_V_setPlace, wv_V_setPlace, _, _, rfl⟩
theorem mo_V_letter : mo_ok m_V_letter 5 := ⟨wc_V_letter, wn_V, by decide, by decide, by decide +kernel⟩
theorem ok_V_letter : mv_ok m_V_letter 5 4 := ⟨mo_V_letter, wi_V_letter, wv_V_letter, _, _, rfl⟩
theorem mo_V_say : mo_ok m_V_say 1 := ⟨wc_V_say, wn_V, by decide, by decide, by decide +kernel⟩
theorem ok_V_say : mv_ok m_V_say 1 4 := ⟨mo_V_say, wi_V_say, wv_V_say, _, _, rfl⟩
theorem mo_V_wipe : mo_ok m_V_wipe 0 := ⟨wc_V_wipe, wn_V, by decide, by decide, by decide +kernel⟩
theorem ok_V_wipe : mv_ok m_V_wipe 0 4 := ⟨mo_V_wipe, wi_V_wipe, wv_V_wipe, _, _, rfl⟩
theorem mo_V_fault : mo_ok m_V_fault 0 := ⟨wc_V_fault, wn_V, by decide, by decide, by decide +kernel⟩
theorem ok_V_fault : mv_ok m_V_fault 0 4 := ⟨mo_V_fault, wi_V_fault, wv_V_fault, _, _, rfl⟩
theorem mo_V_judge : mo_ok m_V_judge 1 := ⟨wc_V_judge, wn_V, by decide, by decide, by decide +kernel⟩
theorem ok_V_judge : mv_ok m_V_judge 1 4 := ⟨mo_V_judge, wi_V_judge, wv_V_judge, _, _, rfl⟩
theorem mo_V_done : mo_ok m_V_done 0 := ⟨wc_V_done, wn_V, by decide, by decide, by decide +kernel⟩
theorem ok_V_done : mv_ok m_V_done 0 4 := ⟨mo_V_done, wi_V_done, wv_V_done, _, _, rfl⟩
theorem mo_V_knows : mo_ok m_V_knows 1 := ⟨wc_V_knows, wn_V, by decide, by decide, by decide +kernel⟩
theorem ok_V_knows : mv_ok m_V_knows 1 4 := ⟨mo_V_knows, wi_V_knows, wv_V_knows, _, _, rfl⟩
theorem mo_V_behind : mo_ok m_V_behind 1 := ⟨wc_V_behind, wn_V, by decide, by decide, by decide +kernel⟩
theorem ok_V_behind : mv_ok m_V_behind 1 4 := ⟨mo_V_behind, wi_V_behind, wv_V_behind, _, _, rfl⟩
theorem mo_V_who : mo_ok m_V_who 1 := ⟨wc_V_who, wn_V, by decide, by decide, by decide +kernel⟩
theorem ok_V_who : mv_ok m_V_who 1 4 := ⟨mo_V_who, wi_V_who, wv_V_who, _, _, rfl⟩
theorem mo_V_loud : mo_ok m_V_loud 2 := ⟨wc_V_loud, wn_V, by decide, by decide, by decide +kernel⟩
theorem ok_V_loud : mv_ok m_V_loud 2 4 := ⟨mo_V_loud, wi_V_loud, wv_V_loud, _, _, rfl⟩
theorem mo_V_hears : mo_ok m_V_hears 1 := ⟨wc_V_hears, wn_V, by decide, by decide, by decide +kernel⟩
theorem ok_V_hears : mv_ok m_V_hears 1 4 := ⟨mo_V_hears, wi_V_hears, wv_V_hears, _, _, rfl⟩
theorem mo_V_best : mo_ok m_V_best 2 := ⟨wc_V_best, wn_V, by decide, by decide, by decide +kernel⟩
theorem ok_V_best : mv_ok m_V_best 2 4 := ⟨mo_V_best, wi_V_best, wv_V_best, _, _, rfl⟩
theorem mo_V_thirds : mo_ok m_V_thirds 2 := ⟨wc_V_thirds, wn_V, by decide, by decide, by decide +kernel⟩
theorem ok_V_thirds : mv_ok m_V_thirds 2 4 := ⟨mo_V_thirds, wi_V_thirds, wv_V_thirds, _, _, rfl⟩
theorem mo_V_round : mo_ok m_V_round 2 := ⟨wc_V_round, wn_V, by decide, by decide, by decide +kernel⟩
theorem ok_V_round : mv_ok m_V_round 2 4 := ⟨mo_V_round, wi_V_round, wv_V_round, _, _, rfl⟩
theorem mo_V_seen : mo_ok m_V_seen 2 := ⟨wc_V_seen, wn_V, by decide, by decide, by decide +kernel⟩
theorem ok_V_seen : mv_ok m_V_seen 2 4 := ⟨mo_V_seen, wi_V_seen, wv_V_seen, _, _, rfl⟩
theorem mo_V_forget : mo_ok m_V_forget 0 := ⟨wc_V_forget, wn_V, by decide, by decide, by decide +kernel⟩
theorem ok_V_forget : mv_ok m_V_forget 0 4 := ⟨mo_V_forget, wi_V_forget, wv_V_forget, _, _, rfl⟩
theorem mo_V_at : mo_ok m_V_at 0 := ⟨wc_V_at, wn_V, by decide, by decide, by decide +kernel⟩
theorem ok_V_at : mv_ok m_V_at 0 4 := ⟨mo_V_at, wi_V_at, wv_V_at, _, _, rfl⟩
theorem mo_V_ask : mo_ok m_V_ask 1 := ⟨wc_V_ask, wn_V, by decide, by decide, by decide +kernel⟩
theorem ok_V_ask : mv_ok m_V_ask 1 4 := ⟨mo_V_ask, wi_V_ask, wv_V_ask, _, _, rfl⟩
theorem mo_V_rumour : mo_ok m_V_rumour 2 := ⟨wc_V_rumour, wn_V, by decide, by decide, by decide +kernel⟩
theorem ok_V_rumour : mv_ok m_V_rumour 2 4 := ⟨mo_V_rumour, wi_V_rumour, wv_V_rumour, _, _, rfl⟩
theorem mo_V_chance : mo_ok m_V_chance 4 := ⟨wc_V_chance, wn_V, by decide, by decide, by decide +kernel⟩
theorem ok_V_chance : mv_ok m_V_chance 4 4 := ⟨mo_V_chance, wi_V_chance, wv_V_chance, _, _, rfl⟩
theorem mo_V_year : mo_ok m_V_year 3 := ⟨wc_V_year, wn_V, by decide, by decide, by decide +kernel⟩
theorem ok_V_year : mv_ok m_V_year 3 4 := ⟨mo_V_year, wi_V_year, wv_V_year, _, _, rfl⟩
theorem mo_V_image : mo_ok m_V_image 1 := ⟨wc_V_image, wn_V, by decide, by decide, by decide +kernel⟩
theorem ok_V_image : mv_ok m_V_image 1 4 := ⟨mo_V_image, wi_V_image, wv_V_image, _, _, rfl⟩
theorem mo_V_restore : mo_ok m_V_restore 1 := ⟨wc_V_restore, wn_V, by decide, by decide, by decide +kernel⟩
theorem ok_V_restore : mv_ok m_V_restore 1 4 := ⟨mo_V_restore, wi_V_restore, wv_V_restore, _, _, rfl⟩
theorem mo_V_imageNumbered : mo_ok m_V_imageNumbered 1 := ⟨wc_V_imageNumbered, wn_V, by decide, by decide, by decide +kernel⟩
theorem ok_V_imageNumbered : mv_ok m_V_imageNumbered 1 4 := ⟨mo_V_imageNumbered, wi_V_imageNumbered, wv_V_imageNumbered, _, _, rfl⟩
theorem mo_V_told : mo_ok m_V_told 1 := ⟨wc_V_told, wn_V, by decide, by decide, by decide +kernel⟩
theorem ok_V_told : mv_ok m_V_told 1 4 := ⟨mo_V_told, wi_V_told, wv_V_told, _, _, rfl⟩
theorem mo_V_toldOfAll : mo_ok m_V_toldOfAll 1 := ⟨wc_V_toldOfAll, wn_V, by decide, by decide, by decide +kernel⟩
theorem ok_V_toldOfAll : mv_ok m_V_toldOfAll 1 4 := ⟨mo_V_toldOfAll, wi_V_toldOfAll, wv_V_toldOfAll, _, _, rfl⟩
theorem mo_V_toldOfLetter : mo_ok m_V_toldOfLetter 2 := ⟨wc_V_toldOfLetter, wn_V, by decide, by decide, by decide +kernel⟩
theorem ok_V_toldOfLetter : mv_ok m_V_toldOfLetter 2 4 := ⟨mo_V_toldOfLetter, wi_V_toldOfLetter, wv_V_toldOfLetter, _, _, rfl⟩
theorem mo_V_within : mo_ok m_V_within 3 := ⟨wc_V_within, wn_V, by decide, by decide, by decide +kernel⟩
theorem ok_V_within : ms_ok m_V_within 3 := ⟨mo_V_within, ws_V_within⟩
theorem mo_V_hasBit : mo_ok m_V_hasBit 2 := ⟨wc_V_hasBit, wn_V, by decide, by decide, by decide +kernel⟩
theorem ok_V_hasBit : ms_ok m_V_hasBit 2 := ⟨mo_V_hasBit, ws_V_hasBit⟩
theorem mo_V_withBit : mo_ok m_V_withBit 3 := ⟨wc_V_withBit, wn_V, by decide, by decide, by decide +kernel⟩
theorem ok_V_withBit : ms_ok m_V_withBit 3 := ⟨mo_V_withBit, ws_V_withBit⟩
theorem mo_M_init : mo_ok m_M_init 0 := ⟨wc_M_init, wn_M, by decide, by decide, by decide +kernel⟩
theorem ok_M_init : mi_ok m_M_init 0 := ⟨mo_M_init, wi_M_init, rfl, rfl⟩
theorem mo_M_in : mo_ok m_M_in 3 := ⟨wc_M_in, wn_M, by decide, by decide, by decide +kernel⟩
theorem ok_M_in : ms_ok m_M_in 3 := ⟨mo_M_in, ws_M_in⟩
theorem mo_M_has : mo_ok m_M_has 2 := ⟨wc_M_has, wn_M, by decide, by decide, by decide +kernel⟩
theorem ok_M_has : ms_ok m_M_has 2 := ⟨mo_M_has, ws_M_has⟩
theorem mo_M_bits : mo_ok m_M_bits 1 := ⟨wc_M_bits, wn_M, by decide, by decide, by decide +kernel⟩
theorem ok_M_bits : ms_ok m_M_bits 1 := ⟨mo_M_bits, ws_M_bits⟩
theorem mo_M_isHouse : mo_ok m_M_isHouse 1 := ⟨wc_M_isHouse, wn_M, by decide, by decide, by decide +kernel⟩
theorem ok_M_isHouse : ms_ok m_M_isHouse 1 := ⟨mo_M_isHouse, ws_M_isHouse⟩
theorem mo_M_house : mo_ok m_M_house 4 := ⟨wc_M_house, wn_M, by decide, by decide, by decide +kernel⟩
theorem ok_M_house : mv_ok m_M_house 4 5 := ⟨mo_M_house, wi_M_house, wv_M_house, _, _, rfl⟩
theorem mo_M_wall : mo_ok m_M_wall 2 := ⟨wc_M_wall, wn_M, by decide, by decide, by decide +kernel⟩
theorem ok_M_wall : mv_ok m_M_wall 2 5 := ⟨mo_M_wall, wi_M_wall, wv_M_wall, _, _, rfl⟩
theorem mo_M_set : mo_ok m_M_set 2 := ⟨wc_M_set, wn_M, by decide, by decide, by decide +kernel⟩
theorem ok_M_set : mv_ok m_M_set 2 5 := ⟨mo_M_set, wi_M_set, wv_M_set, _, _, rfl⟩
theorem mo_M_letter : mo_ok m_M_letter 5 := ⟨wc_M_letter, wn_M, by decide, by decide, by decide +kernel⟩
theorem ok_M_letter : mv_ok m_M_letter 5 5 := ⟨mo_M_letter, wi_M_letter, wv_M_letter, _, _, rfl⟩
theorem mo_M_say : mo_ok m_M_say 1 := ⟨wc_M_say, wn_M, by decide, by decide, by decide +kernel⟩
theorem ok_M_say : mv_ok m_M_say 1 5 := ⟨mo_M_say, wi_M_say, wv_M_say, _, _, rfl⟩
theorem mo_M_wipe : mo_ok m_M_wipe 0 := ⟨wc_M_wipe, wn_M, by decide, by decide, by decide +kernel⟩
theorem ok_M_wipe : mv_ok m_M_wipe 0 5 := ⟨mo_M_wipe, wi_M_wipe, wv_M_wipe, _, _, rfl⟩
theorem mo_M_isLetter : mo_ok m_M_isLetter 1 := ⟨wc_M_isLetter, wn_M, by decide, by decide, by decide +kernel⟩
theorem ok_M_isLetter : ms_ok m_M_isLetter 1 := ⟨mo_M_isLetter, ws_M_isLetter⟩
theorem mo_M_faultOf : mo_ok m_M_faultOf 0 := ⟨wc_M_faultOf, wn_M, by decide, by decide, by decide +kernel⟩
theorem ok_M_faultOf : mv_ok m_M_faultOf 0 5 := ⟨mo_M_faultOf, wi_M_faultOf, wv_M_faultOf, _, _, rfl⟩
theorem mo_M_fault : mo_ok m_M_fault 0 := ⟨wc_M_fault, wn_M, by decide, by decide, by decide +kernel⟩
theorem ok_M_fault : mv_ok m_M_fault 0 5 := ⟨mo_M_fault, wi_M_fault, wv_M_fault, _, _, rfl⟩
theorem mo_M_loudAt : mo_ok m_M_loudAt 2 := ⟨wc_M_loudAt, wn_M, by decide, by decide, by decide +kernel⟩
theorem ok_M_loudAt : mv_ok m_M_loudAt 2 5 := ⟨mo_M_loudAt, wi_M_loudAt, wv_M_loudAt, _, _, rfl⟩
theorem mo_M_doesHear : mo_ok m_M_doesHear 3 := ⟨wc_M_doesHear, wn_M, by decide, by decide, by decide +kernel⟩
theorem ok_M_doesHear : mv_ok m_M_doesHear 3 5 := ⟨mo_M_doesHear, wi_M_doesHear, wv_M_doesHear, _, _, rfl⟩
theorem mo_M_hearers : mo_ok m_M_hearers 2 := ⟨wc_M_hearers, wn_M, by decide, by decide, by decide +kernel⟩
theorem ok_M_hearers : mv_ok m_M_hearers 2 5 := ⟨mo_M_hearers, wi_M_hearers, wv_M_hearers, _, _, rfl⟩
theorem mo_M_asNow : mo_ok m_M_asNow 0 := ⟨wc_M_asNow, wn_M, by decide, by decide, by decide +kernel⟩
theorem ok_M_asNow : mv_ok m_M_asNow 0 5 := ⟨mo_M_asNow, wi_M_asNow, wv_M_asNow, _, _, rfl⟩
theorem mo_M_goTo : mo_ok m_M_goTo 1 := ⟨wc_M_goTo, wn_M, by decide, by decide, by decide +kernel⟩
theorem ok_M_goTo : mv_ok m_M_goTo 1 5 := ⟨mo_M_goTo, wi_M_goTo, wv_M_goTo, _, _, rfl⟩
theorem mo_M_read : mo_ok m_M_read 1 := ⟨wc_M_read, wn_M, by decide, by decide, by decide +kernel⟩
theorem ok_M_read : mv_ok m_M_read 1 5 := ⟨mo_M_read, wi_M_read, wv_M_read, _, _, rfl⟩
theorem mo_M_evening : mo_ok m_M_evening 0 := ⟨wc_M_evening, wn_M, by decide, by decide, by decide +kernel⟩
theorem ok_M_evening : mv_ok m_M_evening 0 5 := ⟨mo_M_evening, wi_M_evening, wv_M_evening, _, _, rfl⟩
theorem mo_M_goDays : mo_ok m_M_goDays 0 := ⟨wc_M_goDays, wn_M, by decide, by decide, by decide +kernel⟩
theorem ok_M_goDays : mv_ok m_M_goDays 0 5 := ⟨mo_M_goDays, wi_M_goDays, wv_M_goDays, _, _, rfl⟩
theorem mo_M_judge : mo_ok m_M_judge 1 := ⟨wc_M_judge, wn_M, by decide, by decide, by decide +kernel⟩
theorem ok_M_judge : mv_ok m_M_judge 1 5 := ⟨mo_M_judge, wi_M_judge, wv_M_judge, _, _, rfl⟩
theorem mo_M_barOfDays : mo_ok m_M_barOfDays 0 := ⟨wc_M_barOfDays, wn_M, by decide, by decide, by decide +kernel⟩
theorem ok_M_barOfDays : mv_ok m_M_barOfDays 0 5 := ⟨mo_M_barOfDays, wi_M_barOfDays, wv_M_barOfDays, _, _, rfl⟩
theorem mo_M_done : mo_ok m_M_done 0 := ⟨wc_M_done, wn_M, by decide, by decide, by decide +kernel⟩
theorem ok_M_done : mv_ok m_M_done 0 5 := ⟨mo_M_done, wi_M_done, wv_M_done, _, _, rfl⟩
theorem mo_M_knows : mo_ok m_M_knows 1 := ⟨wc_M_knows, wn_M, by decide, by decide, by decide +kernel⟩
theorem ok_M_knows : mv_ok m_M_knows 1 5 := ⟨mo_M_knows, wi_M_knows, wv_M_knows, _, _, rfl⟩
theorem mo_M_behind : mo_ok m_M_behind 1 := ⟨wc_M_behind, wn_M, by decide, by decide, by decide +kernel⟩
theorem ok_M_behind : mv_ok m_M_behind 1 5 := ⟨mo_M_behind, wi_M_behind, wv_M_behind, _, _, rfl⟩
theorem mo_M_who : mo_ok m_M_who 1 := ⟨wc_M_who, wn_M, by decide, by decide, by decide +kernel⟩
theorem ok_M_who : mv_ok m_M_who 1 5 := ⟨mo_M_who, wi_M_who, wv_M_who, _, _, rfl⟩
theorem mo_M_loud : mo_ok m_M_loud 2 := ⟨wc_M_loud, wn_M, by decide, by decide, by decide +kernel⟩
theorem ok_M_loud : mv_ok m_M_loud 2 5 := ⟨mo_M_loud, wi_M_loud, wv_M_loud, _, _, rfl⟩
theorem mo_M_hears : mo_ok m_M_hears 1 := ⟨wc_M_hears, wn_M, by decide, by decide, by decide +kernel⟩
theorem ok_M_hears : mv_ok m_M_hears 1 5 := ⟨mo_M_hears, wi_M_hears, wv_M_hears, _, _, rfl⟩
theorem mo_M_best : mo_ok m_M_best 2 := ⟨wc_M_best, wn_M, by decide, by decide, by decide +kernel⟩
theorem ok_M_best : mv_ok m_M_best 2 5 := ⟨mo_M_best, wi_M_best, wv_M_best, _, _, rfl⟩
theorem mo_M_laySets : mo_ok m_M_laySets 0 := ⟨wc_M_laySets, wn_M, by decide, by decide, by decide +kernel⟩
theorem ok_M_laySets : mv_ok m_M_laySets 0 5 := ⟨mo_M_laySets, wi_M_laySets, wv_M_laySets, _, _, rfl⟩
theorem mo_M_thirds : mo_ok m_M_thirds 2 := ⟨wc_M_thirds, wn_M, by decide, by decide, by decide +kernel⟩
theorem ok_M_thirds : mv_ok m_M_thirds 2 5 := ⟨mo_M_thirds, wi_M_thirds, wv_M_thirds, _, _, rfl⟩
theorem mo_M_round : mo_ok m_M_round 2 := ⟨wc_M_round, wn_M, by decide, by decide, by decide +kernel⟩
theorem ok_M_round : mv_ok m_M_round 2 5 := ⟨mo_M_round, wi_M_round, wv_M_round, _, _, rfl⟩
theorem mo_M_seen : mo_ok m_M_seen 2 := ⟨wc_M_seen, wn_M, by decide, by decide, by decide +kernel⟩
theorem ok_M_seen : mv_ok m_M_seen 2 5 := ⟨mo_M_seen, wi_M_seen, wv_M_seen, _, _, rfl⟩
theorem mo_M_forget : mo_ok m_M_forget 0 := ⟨wc_M_forget, wn_M, by decide, by decide, by decide +kernel⟩
theorem ok_M_forget : mv_ok m_M_forget 0 5 := ⟨mo_M_forget, wi_M_forget, wv_M_forget, _, _, rfl⟩
theorem mo_M_atSet : mo_ok m_M_atSet 0 := ⟨wc_M_atSet, wn_M, by decide, by decide, by decide +kernel⟩
theorem ok_M_atSet : mv_ok m_M_atSet 0 5 := ⟨mo_M_atSet, wi_M_atSet, wv_M_atSet, _, _, rfl⟩
theorem mo_M_at : mo_ok m_M_at 0 := ⟨wc_M_at, wn_M, by decide, by decide, by decide +kernel⟩
theorem ok_M_at : mv_ok m_M_at 0 5 := ⟨mo_M_at, wi_M_at, wv_M_at, _, _, rfl⟩
theorem mo_M_ask : mo_ok m_M_ask 1 := ⟨wc_M_ask, wn_M, by decide, by decide, by decide +kernel⟩
theorem ok_M_ask : mv_ok m_M_ask 1 5 := ⟨mo_M_ask, wi_M_ask, wv_M_ask, _, _, rfl⟩
theorem mo_M_spread : mo_ok m_M_spread 1 := ⟨wc_M_spread, wn_M, by decide, by decide, by decide +kernel⟩
theorem ok_M_spread : mv_ok m_M_spread 1 5 := ⟨mo_M_spread, wi_M_spread, wv_M_spread, _, _, rfl⟩
theorem mo_M_rumour : mo_ok m_M_rumour 2 := ⟨wc_M_rumour, wn_M, by decide, by decide, by decide +kernel⟩
theorem ok_M_rumour : mv_ok m_M_rumour 2 5 := ⟨mo_M_rumour, wi_M_rumour, wv_M_rumour, _, _, rfl⟩
theorem mo_M_chance : mo_ok m_M_chance 4 := ⟨wc_M_chance, wn_M, by decide, by decide, by decide +kernel⟩
theorem ok_M_chance : mv_ok m_M_chance 4 5 := ⟨mo_M_chance, wi_M_chance, wv_M_chance, _, _, rfl⟩
theorem mo_M_year : mo_ok m_M_year 3 := ⟨wc_M_year, wn_M, by decide, by decide, by decide +kernel⟩
theorem ok_M_year : mv_ok m_M_year 3 5 := ⟨mo_M_year, wi_M_year, wv_M_year, _, _, rfl⟩
theorem mo_M_image : mo_ok m_M_image 1 := ⟨wc_M_image, wn_M, by decide, by decide, by decide +kernel⟩
theorem ok_M_image : mv_ok m_M_image 1 5 := ⟨mo_M_image, wi_M_image, wv_M_image, _, _, rfl⟩
theorem mo_M_restore : mo_ok m_M_restore 1 := ⟨wc_M_restore, wn_M, by decide, by decide, by decide +kernel⟩
theorem ok_M_restore : mv_ok m_M_restore 1 5 := ⟨mo_M_restore, wi_M_restore, wv_M_restore, _, _, rfl⟩
theorem mo_M_told : mo_ok m_M_told 1 := ⟨wc_M_told, wn_M, by decide, by decide, by decide +kernel⟩
theorem ok_M_told : mv_ok m_M_told 1 5 := ⟨mo_M_told, wi_M_told, wv_M_told, _, _, rfl⟩
theorem mo_C_init : mo_ok m_C_init 0 := ⟨wc_C_init, wn_C, by decide, by decide, by decide +kernel⟩
theorem ok_C_init : mi_ok m_C_init 0 := ⟨mo_C_init, wi_C_init, rfl, rfl⟩
theorem mo_C_weigh : mo_ok m_C_weigh 2 := ⟨wc_C_weigh, wn_C, by decide, by decide, by decide +kernel⟩
theorem ok_C_weigh : mv_ok m_C_weigh 2 0 := ⟨mo_C_weigh, wi_C_weigh, wv_C_weigh, _, _, rfl⟩
theorem mo_C_findMean : mo_ok m_C_findMean 1 := ⟨wc_C_findMean, wn_C, by decide, by decide, by decide +kernel⟩
theorem ok_C_findMean : mv_ok m_C_findMean 1 0 := ⟨mo_C_findMean, wi_C_findMean, wv_C_findMean, _, _, rfl⟩
theorem mo_C_findAtMost : mo_ok m_C_findAtMost 2 := ⟨wc_C_findAtMost, wn_C, by decide, by decide, by decide +kernel⟩
theorem ok_C_findAtMost : mv_ok m_C_findAtMost 2 0 := ⟨mo_C_findAtMost, wi_C_findAtMost, wv_C_findAtMost, _, _, rfl⟩
theorem mo_C_countWays : mo_ok m_C_countWays 1 := ⟨wc_C_countWays, wn_C, by decide, by decide, by decide +kernel⟩
theorem ok_C_countWays : mv_ok m_C_countWays 1 0 := ⟨mo_C_countWays, wi_C_countWays, wv_C_countWays, _, _, rfl⟩
theorem mo_C_putLowest : mo_ok m_C_putLowest 2 := ⟨wc_C_putLowest, wn_C, by decide, by decide, by decide +kernel⟩
theorem ok_C_putLowest : mv_ok m_C_putLowest 2 0 := ⟨mo_C_putLowest, wi_C_putLowest, wv_C_putLowest, _, _, rfl⟩
theorem mo_C_greatestDivisor : mo_ok m_C_greatestDivisor 2 := ⟨wc_C_greatestDivisor, wn_C, by decide, by decide, by decide +kernel⟩
theorem ok_C_greatestDivisor : ms_ok m_C_greatestDivisor 2 := ⟨mo_C_greatestDivisor, ws_C_greatestDivisor⟩
theorem mo_L_init : mo_ok m_L_init 0 := ⟨wc_L_init, wn_L, by decide, by decide, by decide +kernel⟩
theorem ok_L_init : mi_ok m_L_init 0 := ⟨mo_L_init, wi_L_init, rfl, rfl⟩
theorem mo_L_listen : mo_ok m_L_listen 1 := ⟨wc_L_listen, wn_L, by decide, by decide, by decide +kernel⟩
theorem ok_L_listen : mv_ok m_L_listen 1 1 := ⟨mo_L_listen, wi_L_listen, wv_L_listen, _, _, rfl⟩
theorem mo_L_placesFor : mo_ok m_L_placesFor 1 := ⟨wc_L_placesFor, wn_L, by decide, by decide, by decide +kernel⟩
theorem ok_L_placesFor : mv_ok m_L_placesFor 1 1 := ⟨mo_L_placesFor, wi_L_placesFor, wv_L_placesFor, _, _, rfl⟩
theorem mo_L_bestFor : mo_ok m_L_bestFor 2 := ⟨wc_L_bestFor, wn_L, by decide, by decide, by decide +kernel⟩
theorem ok_L_bestFor : mv_ok m_L_bestFor 2 1 := ⟨mo_L_bestFor, wi_L_bestFor, wv_L_bestFor, _, _, rfl⟩
theorem mo_L_thirdsFor : mo_ok m_L_thirdsFor 2 := ⟨wc_L_thirdsFor, wn_L, by decide, by decide, by decide +kernel⟩
theorem ok_L_thirdsFor : mv_ok m_L_thirdsFor 2 1 := ⟨mo_L_thirdsFor, wi_L_thirdsFor, wv_L_thirdsFor, _, _, rfl⟩
theorem mo_L_leastWalk : mo_ok m_L_leastWalk 3 := ⟨wc_L_leastWalk, wn_L, by decide, by decide, by decide +kernel⟩
theorem ok_L_leastWalk : mv_ok m_L_leastWalk 3 1 := ⟨mo_L_leastWalk, wi_L_leastWalk, wv_L_leastWalk, _, _, rfl⟩
theorem mo_L_allCanBeRead : mo_ok m_L_allCanBeRead 4 := ⟨wc_L_allCanBeRead, wn_L, by decide, by decide, by decide +kernel⟩
theorem ok_L_allCanBeRead : mv_ok m_L_allCanBeRead 4 1 := ⟨mo_L_allCanBeRead, wi_L_allCanBeRead, wv_L_allCanBeRead, _, _, rfl⟩
theorem mo_L_placesThatFit : mo_ok m_L_placesThatFit 1 := ⟨wc_L_placesThatFit, wn_L, by decide, by decide, by decide +kernel⟩
theorem ok_L_placesThatFit : mv_ok m_L_placesThatFit 1 1 := ⟨mo_L_placesThatFit, wi_L_placesThatFit, wv_L_placesThatFit, _, _, rfl⟩
theorem mo_L_bestToAsk : mo_ok m_L_bestToAsk 2 := ⟨wc_L_bestToAsk, wn_L, by decide, by decide, by decide +kernel⟩
theorem ok_L_bestToAsk : mv_ok m_L_bestToAsk 2 1 := ⟨mo_L_bestToAsk, wi_L_bestToAsk, wv_L_bestToAsk, _, _, rfl⟩
theorem mo_P_init : mo_ok m_P_init 0 := ⟨wc_P_init, wn_P, by decide, by decide, by decide +kernel⟩
theorem ok_P_init : mi_ok m_P_init 0 := ⟨mo_P_init, wi_P_init, rfl, rfl⟩
theorem mo_P_write : mo_ok m_P_write 1 := ⟨wc_P_write, wn_P, by decide, by decide, by decide +kernel⟩
theorem ok_P_write : mv_ok m_P_write 1 2 := ⟨mo_P_write, wi_P_write, wv_P_write, _, _, rfl⟩
theorem mo_P_clean : mo_ok m_P_clean 0 := ⟨wc_P_clean, wn_P, by decide, by decide, by decide +kernel⟩
theorem ok_P_clean : mv_ok m_P_clean 0 2 := ⟨mo_P_clean, wi_P_clean, wv_P_clean, _, _, rfl⟩
theorem mo_P_faultPlace : mo_ok m_P_faultPlace 0 := ⟨wc_P_faultPlace, wn_P, by decide, by decide, by decide +kernel⟩
theorem ok_P_faultPlace : mv_ok m_P_faultPlace 0 2 := ⟨mo_P_faultPlace, wi_P_faultPlace, wv_P_faultPlace, _, _, rfl⟩
theorem mo_P_kindOf : mo_ok m_P_kindOf 1 := ⟨wc_P_kindOf, wn_P, by decide, by decide, by decide +kernel⟩
theorem ok_P_kindOf : ms_ok m_P_kindOf 1 := ⟨mo_P_kindOf, ws_P_kindOf⟩
theorem mo_P_numberOf : mo_ok m_P_numberOf 1 := ⟨wc_P_numberOf, wn_P, by decide, by decide, by decide +kernel⟩
theorem ok_P_numberOf : ms_ok m_P_numberOf 1 := ⟨mo_P_numberOf, ws_P_numberOf⟩
theorem mo_P_playsToTheEnd : mo_ok m_P_playsToTheEnd 2 := ⟨wc_P_playsToTheEnd, wn_P, by decide, by decide, by decide +kernel⟩
theorem ok_P_playsToTheEnd : mv_ok m_P_playsToTheEnd 2 2 := ⟨mo_P_playsToTheEnd, wi_P_playsToTheEnd, wv_P_playsToTheEnd, _, _, rfl⟩
theorem mo_P_playAct : mo_ok m_P_playAct 3 := ⟨wc_P_playAct, wn_P, by decide, by decide, by decide +kernel⟩
theorem ok_P_playAct : mv_ok m_P_playAct 3 2 := ⟨mo_P_playAct, wi_P_playAct, wv_P_playAct, _, _, rfl⟩
theorem mo_P_goesAstray : mo_ok m_P_goesAstray 2 := ⟨wc_P_goesAstray, wn_P, by decide, by decide, by decide +kernel⟩
theorem ok_P_goesAstray : ms_ok m_P_goesAstray 2 := ⟨mo_P_goesAstray, ws_P_goesAstray⟩
theorem mo_S_init : mo_ok m_S_init 0 := ⟨wc_S_init, wn_S, by decide, by decide, by decide +kernel⟩
theorem ok_S_init : mi_ok m_S_init 0 := ⟨mo_S_init, wi_S_init, rfl, rfl⟩
theorem mo_S_takeFrom : mo_ok m_S_takeFrom 1 := ⟨wc_S_takeFrom, wn_S, by decide, by decide, by decide +kernel⟩
theorem ok_S_takeFrom : mv_ok m_S_takeFrom 1 3 := ⟨mo_S_takeFrom, wi_S_takeFrom, wv_S_takeFrom, _, _, rfl⟩
theorem mo_S_loudness : mo_ok m_S_loudness 2 := ⟨wc_S_loudness, wn_S, by decide, by decide, by decide +kernel⟩
theorem ok_S_loudness : mv_ok m_S_loudness 2 3 := ⟨mo_S_loudness, wi_S_loudness, wv_S_loudness, _, _, rfl⟩
theorem mo_S_reached : mo_ok m_S_reached 2 := ⟨wc_S_reached, wn_S, by decide, by decide, by decide +kernel⟩
theorem ok_S_reached : mv_ok m_S_reached 2 3 := ⟨mo_S_reached, wi_S_reached, wv_S_reached, _, _, rfl⟩
theorem mo_S_hearers : mo_ok m_S_hearers 2 := ⟨wc_S_hearers, wn_S, by decide, by decide, by decide +kernel⟩
theorem ok_S_hearers : mv_ok m_S_hearers 2 3 := ⟨mo_S_hearers, wi_S_hearers, wv_S_hearers, _, _, rfl⟩
theorem mo_S_whyNot : mo_ok m_S_whyNot 2 := ⟨wc_S_whyNot, wn_S, by decide, by decide, by decide +kernel⟩
theorem ok_S_whyNot : mv_ok m_S_whyNot 2 3 := ⟨mo_S_whyNot, wi_S_whyNot, wv_S_whyNot, _, _, rfl⟩
theorem mo_S_carryOut : mo_ok m_S_carryOut 2 := ⟨wc_S_carryOut, wn_S, by decide, by decide, by decide +kernel⟩
theorem ok_S_carryOut : mv_ok m_S_carryOut 2 3 := ⟨mo_S_carryOut, wi_S_carryOut, wv_S_carryOut, _, _, rfl⟩
theorem mo_S_readOut : mo_ok m_S_readOut 1 := ⟨wc_S_readOut, wn_S, by decide, by decide, by decide +kernel⟩
theorem ok_S_readOut : mv_ok m_S_readOut 1 3 := ⟨mo_S_readOut, wi_S_readOut, wv_S_readOut, _, _, rfl⟩
theorem mo_S_passEvening : mo_ok m_S_passEvening 0 := ⟨wc_S_passEvening, wn_S, by decide, by decide, by decide +kernel⟩
theorem ok_S_passEvening : mv_ok m_S_passEvening 0 3 := ⟨mo_S_passEvening, wi_S_passEvening, wv_S_passEvening, _, _, rfl⟩
theorem mo_S_tellsEastward : mo_ok m_S_tellsEastward 1 := ⟨wc_S_tellsEastward, wn_S, by decide, by decide, by decide +kernel⟩
theorem ok_S_tellsEastward : mv_ok m_S_tellsEastward 1 3 := ⟨mo_S_tellsEastward, wi_S_tellsEastward, wv_S_tellsEastward, _, _, rfl⟩
theorem mo_S_knowersOfRumour : mo_ok m_S_knowersOfRumour 2 := ⟨wc_S_knowersOfRumour, wn_S, by decide, by decide, by decide +kernel⟩
theorem ok_S_knowersOfRumour : mv_ok m_S_knowersOfRumour 2 3 := ⟨mo_S_knowersOfRumour, wi_S_knowersOfRumour, wv_S_knowersOfRumour, _, _, rfl⟩
theorem mo_S_eveningsOfRumour : mo_ok m_S_eveningsOfRumour 1 := ⟨wc_S_eveningsOfRumour, wn_S, by decide, by decide, by decide +kernel⟩
theorem ok_S_eveningsOfRumour : mv_ok m_S_eveningsOfRumour 1 3 := ⟨mo_S_eveningsOfRumour, wi_S_eveningsOfRumour, wv_S_eveningsOfRumour, _, _, rfl⟩
theorem mo_S_toldOnward : mo_ok m_S_toldOnward 1 := ⟨wc_S_toldOnward, wn_S, by decide, by decide, by decide +kernel⟩
theorem ok_S_toldOnward : mv_ok m_S_toldOnward 1 3 := ⟨mo_S_toldOnward, wi_S_toldOnward, wv_S_toldOnward, _, _, rfl⟩
theorem mo_S_drawYear : mo_ok m_S_drawYear 2 := ⟨wc_S_drawYear, wn_S, by decide, by decide, by decide +kernel⟩
theorem ok_S_drawYear : mv_ok m_S_drawYear 2 3 := ⟨mo_S_drawYear, wi_S_drawYear, wv_S_drawYear, _, _, rfl⟩
theorem mo_S_drawnKind : mo_ok m_S_drawnKind 1 := ⟨wc_S_drawnKind, wn_S, by decide, by decide, by decide +kernel⟩
theorem ok_S_drawnKind : ms_ok m_S_drawnKind 1 := ⟨mo_S_drawnKind, ws_S_drawnKind⟩
theorem mo_S_factsKnown : mo_ok m_S_factsKnown 0 := ⟨wc_S_factsKnown, wn_S, by decide, by decide, by decide +kernel⟩
theorem ok_S_factsKnown : mv_ok m_S_factsKnown 0 3 := ⟨mo_S_factsKnown, wi_S_factsKnown, wv_S_factsKnown, _, _, rfl⟩
theorem mo_B_bitCount : mo_ok m_B_bitCount 1 := ⟨wc_B_bitCount, wn_B, by decide, by decide, by decide +kernel⟩
theorem ok_B_bitCount : ms_ok m_B_bitCount 1 := ⟨mo_B_bitCount, ws_B_bitCount⟩
theorem lp_V_10 : fp_ok "DoorVoice" 10 4 0 true (.object "DoorVoice$Street") := by
  obtain ⟨C, T, N, ty, hc, hj, hw⟩ := lf_V_10
  have e1 := hc.1
  exact ⟨_, tb_4, _, ty_4, cl_4, by decide, by
    obtain ⟨rfl, rfl, rfl⟩ : C = "DoorVoice" ∧ T = tb_4 ∧ N = 8 := by
      have e2 := cl_4.1.symm.trans e1
      injection e2 with e2
      injection e2 with e3 e4
      injection e4 with e5 e6
      exact ⟨e3.symm, e5.symm, e6.symm⟩
    exact hw, rfl, rfl, fun _ => rfl⟩
theorem lp_V_16 : fp_ok "DoorVoice" 16 4 1 true (.object "DoorVoice$Street") := by
  obtain ⟨C, T, N, ty, hc, hj, hw⟩ := lf_V_16
  have e1 := hc.1
  exact ⟨_, tb_4, _, ty_4, cl_4, by decide, by
    obtain ⟨rfl, rfl, rfl⟩ : C = "DoorVoice" ∧ T = tb_4 ∧ N = 8 := by
      have e2 := cl_4.1.symm.trans e1
      injection e2 with e2
      injection e2 with e3 e4
      injection e4 with e5 e6
      exact ⟨e3.symm, e5.symm, e6.symm⟩
    exact hw, rfl, rfl, fun _ => rfl⟩
theorem lp_V_19 : fp_ok "DoorVoice" 19 4 2 true (.object "DoorVoice$Street") := by
  obtain ⟨C, T, N, ty, hc, hj, hw⟩ := lf_V_19
  have e1 := hc.1
  exact ⟨_, tb_4, _, ty_4, cl_4, by decide, by
    obtain ⟨rfl, rfl, rfl⟩ : C = "DoorVoice" ∧ T = tb_4 ∧ N = 8 := by
      have e2 := cl_4.1.symm.trans e1
      injection e2 with e2
      injection e2 with e3 e4
      injection e4 with e5 e6
      exact ⟨e3.symm, e5.symm, e6.symm⟩
    exact hw, rfl, rfl, fun _ => rfl⟩
theorem lp_V_22 : fp_ok "DoorVoice" 22 4 3 true (.object "DoorVoice$Street") := by
  obtain ⟨C, T, N, ty, hc, hj, hw⟩ := lf_V_22
  have e1 := hc.1
  exact ⟨_, tb_4, _, ty_4, cl_4, by decide, by
    obtain ⟨rfl, rfl, rfl⟩ : C = "DoorVoice" ∧ T = tb_4 ∧ N = 8 := by
      have e2 := cl_4.1.symm.trans e1
      injection e2 with e2
      injection e2 with e3 e4
      injection e4 with e5 e6
      exact ⟨e3.symm, e5.symm, e6.symm⟩
    exact hw, rfl, rfl, fun _ => rfl⟩
theorem lp_V_28 : fp_ok "DoorVoice" 28 4 4 true (.object "DoorVoice$Pad") := by
  obtain ⟨C, T, N, ty, hc, hj, hw⟩ := lf_V_28
  have e1 := hc.1
  exact ⟨_, tb_4, _, ty_4, cl_4, by decide, by
    obtain ⟨rfl, rfl, rfl⟩ : C = "DoorVoice" ∧ T = tb_4 ∧ N = 8 := by
      have e2 := cl_4.1.symm.trans e1
      injection e2 with e2
      injection e2 with e3 e4
      injection e4 with e5 e6
      exact ⟨e3.symm, e5.symm, e6.symm⟩
    exact hw, rfl, rfl, fun _ => rfl⟩
theorem lp_V_35 : fp_ok "DoorVoice" 35 4 5 true (.object "DoorVoice$Listener") := by
  obtain ⟨C, T, N, ty, hc, hj, hw⟩ := lf_V_35
  have e1 := hc.1
  exact ⟨_, tb_4, _, ty_4, cl_4, by decide, by
    obtain ⟨rfl, rfl, rfl⟩ : C = "DoorVoice" ∧ T = tb_4 ∧ N = 8 := by
      have e2 := cl_4.1.symm.trans e1
      injection e2 with e2
      injection e2 with e3 e4
      injection e4 with e5 e6
      exact ⟨e3.symm, e5.symm, e6.symm⟩
    exact hw, rfl, rfl, fun _ => rfl⟩
theorem lp_V_42 : fp_ok "DoorVoice" 42 4 6 true (.object "DoorVoice$Chances") := by
  obtain ⟨C, T, N, ty, hc, hj, hw⟩ := lf_V_42
  have e1 := hc.1
  exact ⟨_, tb_4, _, ty_4, cl_4, by decide, by
    obtain ⟨rfl, rfl, rfl⟩ : C = "DoorVoice" ∧ T = tb_4 ∧ N = 8 := by
      have e2 := cl_4.1.symm.trans e1
      injection e2 with e2
      injection e2 with e3 e4
      injection e4 with e5 e6
      exact ⟨e3.symm, e5.symm, e6.symm⟩
    exact hw, rfl, rfl, fun _ => rfl⟩
theorem lp_V_46 : fp_ok "DoorVoice" 46 4 7 false (.int) := by
  obtain ⟨C, T, N, ty, hc, hj, hw⟩ := lf_V_46
  have e1 := hc.1
  exact ⟨_, tb_4, _, ty_4, cl_4, by decide, by
    obtain ⟨rfl, rfl, rfl⟩ : C = "DoorVoice" ∧ T = tb_4 ∧ N = 8 := by
      have e2 := cl_4.1.symm.trans e1
      injection e2 with e2
      injection e2 with e3 e4
      injection e4 with e5 e6
      exact ⟨e3.symm, e5.symm, e6.symm⟩
    exact hw, rfl, rfl, fun h => by cases h⟩
theorem lp_V_58 : fp_ok "DoorVoice" 58 3 6 false (.int) := by
  obtain ⟨C, T, N, ty, hc, hj, hw⟩ := lf_V_58
  have e1 := hc.1
  exact ⟨_, tb_3, _, ty_3, cl_3, by decide, by
    obtain ⟨rfl, rfl, rfl⟩ : C = "DoorVoice$Street" ∧ T = tb_3 ∧ N = 16 := by
      have e2 := cl_3.1.symm.trans e1
      injection e2 with e2
      injection e2 with e3 e4
      injection e4 with e5 e6
      exact ⟨e3.symm, e5.symm, e6.symm⟩
    exact hw, rfl, rfl, fun h => by cases h⟩
theorem lp_V_65 : fp_ok "DoorVoice" 65 3 7 false (.int) := by
  obtain ⟨C, T, N, ty, hc, hj, hw⟩ := lf_V_65
  have e1 := hc.1
  exact ⟨_, tb_3, _, ty_3, cl_3, by decide, by
    obtain ⟨rfl, rfl, rfl⟩ : C = "DoorVoice$Street" ∧ T = tb_3 ∧ N = 16 := by
      have e2 := cl_3.1.symm.trans e1
      injection e2 with e2
      injection e2 with e3 e4
      injection e4 with e5 e6
      exact ⟨e3.symm, e5.symm, e6.symm⟩
    exact hw, rfl, rfl, fun h => by cases h⟩
theorem lp_V_81 : fp_ok "DoorVoice" 81 3 9 false (.int) := by
  obtain ⟨C, T, N, ty, hc, hj, hw⟩ := lf_V_81
  have e1 := hc.1
  exact ⟨_, tb_3, _, ty_3, cl_3, by decide, by
    obtain ⟨rfl, rfl, rfl⟩ : C = "DoorVoice$Street" ∧ T = tb_3 ∧ N = 16 := by
      have e2 := cl_3.1.symm.trans e1
      injection e2 with e2
      injection e2 with e3 e4
      injection e4 with e5 e6
      exact ⟨e3.symm, e5.symm, e6.symm⟩
    exact hw, rfl, rfl, fun h => by cases h⟩
theorem lp_V_84 : fp_ok "DoorVoice" 84 3 10 false (.int) := by
  obtain ⟨C, T, N, ty, hc, hj, hw⟩ := lf_V_84
  have e1 := hc.1
  exact ⟨_, tb_3, _, ty_3, cl_3, by decide, by
    obtain ⟨rfl, rfl, rfl⟩ : C = "DoorVoice$Street" ∧ T = tb_3 ∧ N = 16 := by
      have e2 := cl_3.1.symm.trans e1
      injection e2 with e2
      injection e2 with e3 e4
      injection e4 with e5 e6
      exact ⟨e3.symm, e5.symm, e6.symm⟩
    exact hw, rfl, rfl, fun h => by cases h⟩
theorem lp_V_87 : fp_ok "DoorVoice" 87 3 11 false (.int) := by
  obtain ⟨C, T, N, ty, hc, hj, hw⟩ := lf_V_87
  have e1 := hc.1
  exact ⟨_, tb_3, _, ty_3, cl_3, by decide, by
    obtain ⟨rfl, rfl, rfl⟩ : C = "DoorVoice$Street" ∧ T = tb_3 ∧ N = 16 := by
      have e2 := cl_3.1.symm.trans e1
      injection e2 with e2
      injection e2 with e3 e4
      injection e4 with e5 e6
      exact ⟨e3.symm, e5.symm, e6.symm⟩
    exact hw, rfl, rfl, fun h => by cases h⟩
theorem lp_V_102 : fp_ok "DoorVoice" 102 3 8 false (.int) := by
  obtain ⟨C, T, N, ty, hc, hj, hw⟩ := lf_V_102
  have e1 := hc.1
  exact ⟨_, tb_3, _, ty_3, cl_3, by decide, by
    obtain ⟨rfl, rfl, rfl⟩ : C = "DoorVoice$Street" ∧ T = tb_3 ∧ N = 16 := by
      have e2 := cl_3.1.symm.trans e1
      injection e2 with e2
      injection e2 with e3 e4
      injection e4 with e5 e6
      exact ⟨e3.symm, e5.symm, e6.symm⟩
    exact hw, rfl, rfl, fun h => by cases h⟩
theorem lp_V_170 : fp_ok "DoorVoice" 170 3 14 false (.int) := by
  obtain ⟨C, T, N, ty, hc, hj, hw⟩ := lf_V_170
  have e1 := hc.1
  exact ⟨_, tb_3, _, ty_3, cl_3, by decide, by
    obtain ⟨rfl, rfl, rfl⟩ : C = "DoorVoice$Street" ∧ T = tb_3 ∧ N = 16 := by
      have e2 := cl_3.1.symm.trans e1
      injection e2 with e2
      injection e2 with e3 e4
      injection e4 with e5 e6
      exact ⟨e3.symm, e5.symm, e6.symm⟩
    exact hw, rfl, rfl, fun h => by cases h⟩
theorem lp_V_173 : fp_ok "DoorVoice" 173 3 15 false (.int) := by
  obtain ⟨C, T, N, ty, hc, hj, hw⟩ := lf_V_173
  have e1 := hc.1
  exact ⟨_, tb_3, _, ty_3, cl_3, by decide, by
    obtain ⟨rfl, rfl, rfl⟩ : C = "DoorVoice$Street" ∧ T = tb_3 ∧ N = 16 := by
      have e2 := cl_3.1.symm.trans e1
      injection e2 with e2
      injection e2 with e3 e4
      injection e4 with e5 e6
      exact ⟨e3.symm, e5.symm, e6.symm⟩
    exact hw, rfl, rfl, fun h => by cases h⟩
theorem lp_V_167 : fp_ok "DoorVoice" 167 3 13 false (.int) := by
  obtain ⟨C, T, N, ty, hc, hj, hw⟩ := lf_V_167
  have e1 := hc.1
  exact ⟨_, tb_3, _, ty_3, cl_3, by decide, by
    obtain ⟨rfl, rfl, rfl⟩ : C = "DoorVoice$Street" ∧ T = tb_3 ∧ N = 16 := by
      have e2 := cl_3.1.symm.trans e1
      injection e2 with e2
      injection e2 with e3 e4
      injection e4 with e5 e6
      exact ⟨e3.symm, e5.symm, e6.symm⟩
    exact hw, rfl, rfl, fun h => by cases h⟩
theorem lp_M_7 : fp_ok "DoorVoiceModel" 7 5 0 true (.array .int) := by
  obtain ⟨C, T, N, ty, hc, hj, hw⟩ := lf_M_7
  have e1 := hc.1
  exact ⟨_, tb_5, _, ty_5, cl_5, by decide, by
    obtain ⟨rfl, rfl, rfl⟩ : C = "DoorVoiceModel" ∧ T = tb_5 ∧ N = 20 := by
      have e2 := cl_5.1.symm.trans e1
      injection e2 with e2
      injection e2 with e3 e4
      injection e4 with e5 e6
      exact ⟨e3.symm, e5.symm, e6.symm⟩
    exact hw, rfl, rfl, fun _ => rfl⟩
theorem lp_M_13 : fp_ok "DoorVoiceModel" 13 5 1 true (.array .int) := by
  obtain ⟨C, T, N, ty, hc, hj, hw⟩ := lf_M_13
  have e1 := hc.1
  exact ⟨_, tb_5, _, ty_5, cl_5, by decide, by
    obtain ⟨rfl, rfl, rfl⟩ : C = "DoorVoiceModel" ∧ T = tb_5 ∧ N = 20 := by
      have e2 := cl_5.1.symm.trans e1
      injection e2 with e2
      injection e2 with e3 e4
      injection e4 with e5 e6
      exact ⟨e3.symm, e5.symm, e6.symm⟩
    exact hw, rfl, rfl, fun _ => rfl⟩
theorem lp_M_16 : fp_ok "DoorVoiceModel" 16 5 3 true (.array .int) := by
  obtain ⟨C, T, N, ty, hc, hj, hw⟩ := lf_M_16
  have e1 := hc.1
  exact ⟨_, tb_5, _, ty_5, cl_5, by decide, by
    obtain ⟨rfl, rfl, rfl⟩ : C = "DoorVoiceModel" ∧ T = tb_5 ∧ N = 20 := by
      have e2 := cl_5.1.symm.trans e1
      injection e2 with e2
      injection e2 with e3 e4
      injection e4 with e5 e6
      exact ⟨e3.symm, e5.symm, e6.symm⟩
    exact hw, rfl, rfl, fun _ => rfl⟩
theorem lp_M_19 : fp_ok "DoorVoiceModel" 19 5 4 false (.int) := by
  obtain ⟨C, T, N, ty, hc, hj, hw⟩ := lf_M_19
  have e1 := hc.1
  exact ⟨_, tb_5, _, ty_5, cl_5, by decide, by
    obtain ⟨rfl, rfl, rfl⟩ : C = "DoorVoiceModel" ∧ T = tb_5 ∧ N = 20 := by
      have e2 := cl_5.1.symm.trans e1
      injection e2 with e2
      injection e2 with e3 e4
      injection e4 with e5 e6
      exact ⟨e3.symm, e5.symm, e6.symm⟩
    exact hw, rfl, rfl, fun h => by cases h⟩
theorem lp_M_23 : fp_ok "DoorVoiceModel" 23 5 6 true (.array .int) := by
  obtain ⟨C, T, N, ty, hc, hj, hw⟩ := lf_M_23
  have e1 := hc.1
  exact ⟨_, tb_5, _, ty_5, cl_5, by decide, by
    obtain ⟨rfl, rfl, rfl⟩ : C = "DoorVoiceModel" ∧ T = tb_5 ∧ N = 20 := by
      have e2 := cl_5.1.symm.trans e1
      injection e2 with e2
      injection e2 with e3 e4
      injection e4 with e5 e6
      exact ⟨e3.symm, e5.symm, e6.symm⟩
    exact hw, rfl, rfl, fun _ => rfl⟩
theorem lp_M_26 : fp_ok "DoorVoiceModel" 26 5 8 true (.array .int) := by
  obtain ⟨C, T, N, ty, hc, hj, hw⟩ := lf_M_26
  have e1 := hc.1
  exact ⟨_, tb_5, _, ty_5, cl_5, by decide, by
    obtain ⟨rfl, rfl, rfl⟩ : C = "DoorVoiceModel" ∧ T = tb_5 ∧ N = 20 := by
      have e2 := cl_5.1.symm.trans e1
      injection e2 with e2
      injection e2 with e3 e4
      injection e4 with e5 e6
      exact ⟨e3.symm, e5.symm, e6.symm⟩
    exact hw, rfl, rfl, fun _ => rfl⟩
theorem lp_M_29 : fp_ok "DoorVoiceModel" 29 5 10 true (.array .int) := by
  obtain ⟨C, T, N, ty, hc, hj, hw⟩ := lf_M_29
  have e1 := hc.1
  exact ⟨_, tb_5, _, ty_5, cl_5, by decide, by
    obtain ⟨rfl, rfl, rfl⟩ : C = "DoorVoiceModel" ∧ T = tb_5 ∧ N = 20 := by
      have e2 := cl_5.1.symm.trans e1
      injection e2 with e2
      injection e2 with e3 e4
      injection e4 with e5 e6
      exact ⟨e3.symm, e5.symm, e6.symm⟩
    exact hw, rfl, rfl, fun _ => rfl⟩
theorem lp_M_32 : fp_ok "DoorVoiceModel" 32 5 11 true (.array .int) := by
  obtain ⟨C, T, N, ty, hc, hj, hw⟩ := lf_M_32
  have e1 := hc.1
  exact ⟨_, tb_5, _, ty_5, cl_5, by decide, by
    obtain ⟨rfl, rfl, rfl⟩ : C = "DoorVoiceModel" ∧ T = tb_5 ∧ N = 20 := by
      have e2 := cl_5.1.symm.trans e1
      injection e2 with e2
      injection e2 with e3 e4
      injection e4 with e5 e6
      exact ⟨e3.symm, e5.symm, e6.symm⟩
    exact hw, rfl, rfl, fun _ => rfl⟩
theorem lp_M_35 : fp_ok "DoorVoiceModel" 35 5 16 true (.array .int) := by
  obtain ⟨C, T, N, ty, hc, hj, hw⟩ := lf_M_35
  have e1 := hc.1
  exact ⟨_, tb_5, _, ty_5, cl_5, by decide, by
    obtain ⟨rfl, rfl, rfl⟩ : C = "DoorVoiceModel" ∧ T = tb_5 ∧ N = 20 := by
      have e2 := cl_5.1.symm.trans e1
      injection e2 with e2
      injection e2 with e3 e4
      injection e4 with e5 e6
      exact ⟨e3.symm, e5.symm, e6.symm⟩
    exact hw, rfl, rfl, fun _ => rfl⟩
theorem lp_M_38 : fp_ok "DoorVoiceModel" 38 5 17 true (.array .long) := by
  obtain ⟨C, T, N, ty, hc, hj, hw⟩ := lf_M_38
  have e1 := hc.1
  exact ⟨_, tb_5, _, ty_5, cl_5, by decide, by
    obtain ⟨rfl, rfl, rfl⟩ : C = "DoorVoiceModel" ∧ T = tb_5 ∧ N = 20 := by
      have e2 := cl_5.1.symm.trans e1
      injection e2 with e2
      injection e2 with e3 e4
      injection e4 with e5 e6
      exact ⟨e3.symm, e5.symm, e6.symm⟩
    exact hw, rfl, rfl, fun _ => rfl⟩
theorem lp_M_42 : fp_ok "DoorVoiceModel" 42 5 18 true (.array .int) := by
  obtain ⟨C, T, N, ty, hc, hj, hw⟩ := lf_M_42
  have e1 := hc.1
  exact ⟨_, tb_5, _, ty_5, cl_5, by decide, by
    obtain ⟨rfl, rfl, rfl⟩ : C = "DoorVoiceModel" ∧ T = tb_5 ∧ N = 20 := by
      have e2 := cl_5.1.symm.trans e1
      injection e2 with e2
      injection e2 with e3 e4
      injection e4 with e5 e6
      exact ⟨e3.symm, e5.symm, e6.symm⟩
    exact hw, rfl, rfl, fun _ => rfl⟩
theorem lp_M_45 : fp_ok "DoorVoiceModel" 45 5 19 true (.array .boolean) := by
  obtain ⟨C, T, N, ty, hc, hj, hw⟩ := lf_M_45
  have e1 := hc.1
  exact ⟨_, tb_5, _, ty_5, cl_5, by decide, by
    obtain ⟨rfl, rfl, rfl⟩ : C = "DoorVoiceModel" ∧ T = tb_5 ∧ N = 20 := by
      have e2 := cl_5.1.symm.trans e1
      injection e2 with e2
      injection e2 with e3 e4
      injection e4 with e5 e6
      exact ⟨e3.symm, e5.symm, e6.symm⟩
    exact hw, rfl, rfl, fun _ => rfl⟩
theorem lp_M_49 : fp_ok "DoorVoiceModel" 49 5 2 false (.int) := by
  obtain ⟨C, T, N, ty, hc, hj, hw⟩ := lf_M_49
  have e1 := hc.1
  exact ⟨_, tb_5, _, ty_5, cl_5, by decide, by
    obtain ⟨rfl, rfl, rfl⟩ : C = "DoorVoiceModel" ∧ T = tb_5 ∧ N = 20 := by
      have e2 := cl_5.1.symm.trans e1
      injection e2 with e2
      injection e2 with e3 e4
      injection e4 with e5 e6
      exact ⟨e3.symm, e5.symm, e6.symm⟩
    exact hw, rfl, rfl, fun h => by cases h⟩
theorem lp_M_60 : fp_ok "DoorVoiceModel" 60 5 5 false (.int) := by
  obtain ⟨C, T, N, ty, hc, hj, hw⟩ := lf_M_60
  have e1 := hc.1
  exact ⟨_, tb_5, _, ty_5, cl_5, by decide, by
    obtain ⟨rfl, rfl, rfl⟩ : C = "DoorVoiceModel" ∧ T = tb_5 ∧ N = 20 := by
      have e2 := cl_5.1.symm.trans e1
      injection e2 with e2
      injection e2 with e3 e4
      injection e4 with e5 e6
      exact ⟨e3.symm, e5.symm, e6.symm⟩
    exact hw, rfl, rfl, fun h => by cases h⟩
theorem lp_M_63 : fp_ok "DoorVoiceModel" 63 5 9 false (.int) := by
  obtain ⟨C, T, N, ty, hc, hj, hw⟩ := lf_M_63
  have e1 := hc.1
  exact ⟨_, tb_5, _, ty_5, cl_5, by decide, by
    obtain ⟨rfl, rfl, rfl⟩ : C = "DoorVoiceModel" ∧ T = tb_5 ∧ N = 20 := by
      have e2 := cl_5.1.symm.trans e1
      injection e2 with e2
      injection e2 with e3 e4
      injection e4 with e5 e6
      exact ⟨e3.symm, e5.symm, e6.symm⟩
    exact hw, rfl, rfl, fun h => by cases h⟩
theorem lp_M_84 : fp_ok "DoorVoiceModel" 84 5 12 false (.boolean) := by
  obtain ⟨C, T, N, ty, hc, hj, hw⟩ := lf_M_84
  have e1 := hc.1
  exact ⟨_, tb_5, _, ty_5, cl_5, by decide, by
    obtain ⟨rfl, rfl, rfl⟩ : C = "DoorVoiceModel" ∧ T = tb_5 ∧ N = 20 := by
      have e2 := cl_5.1.symm.trans e1
      injection e2 with e2
      injection e2 with e3 e4
      injection e4 with e5 e6
      exact ⟨e3.symm, e5.symm, e6.symm⟩
    exact hw, rfl, rfl, fun h => by cases h⟩
theorem lp_M_91 : fp_ok "DoorVoiceModel" 91 5 14 false (.int) := by
  obtain ⟨C, T, N, ty, hc, hj, hw⟩ := lf_M_91
  have e1 := hc.1
  exact ⟨_, tb_5, _, ty_5, cl_5, by decide, by
    obtain ⟨rfl, rfl, rfl⟩ : C = "DoorVoiceModel" ∧ T = tb_5 ∧ N = 20 := by
      have e2 := cl_5.1.symm.trans e1
      injection e2 with e2
      injection e2 with e3 e4
      injection e4 with e5 e6
      exact ⟨e3.symm, e5.symm, e6.symm⟩
    exact hw, rfl, rfl, fun h => by cases h⟩
theorem lp_M_94 : fp_ok "DoorVoiceModel" 94 5 15 false (.int) := by
  obtain ⟨C, T, N, ty, hc, hj, hw⟩ := lf_M_94
  have e1 := hc.1
  exact ⟨_, tb_5, _, ty_5, cl_5, by decide, by
    obtain ⟨rfl, rfl, rfl⟩ : C = "DoorVoiceModel" ∧ T = tb_5 ∧ N = 20 := by
      have e2 := cl_5.1.symm.trans e1
      injection e2 with e2
      injection e2 with e3 e4
      injection e4 with e5 e6
      exact ⟨e3.symm, e5.symm, e6.symm⟩
    exact hw, rfl, rfl, fun h => by cases h⟩
theorem lp_M_97 : fp_ok "DoorVoiceModel" 97 5 13 false (.int) := by
  obtain ⟨C, T, N, ty, hc, hj, hw⟩ := lf_M_97
  have e1 := hc.1
  exact ⟨_, tb_5, _, ty_5, cl_5, by decide, by
    obtain ⟨rfl, rfl, rfl⟩ : C = "DoorVoiceModel" ∧ T = tb_5 ∧ N = 20 := by
      have e2 := cl_5.1.symm.trans e1
      injection e2 with e2
      injection e2 with e3 e4
      injection e4 with e5 e6
      exact ⟨e3.symm, e5.symm, e6.symm⟩
    exact hw, rfl, rfl, fun h => by cases h⟩
theorem lp_M_126 : fp_ok "DoorVoiceModel" 126 5 7 false (.int) := by
  obtain ⟨C, T, N, ty, hc, hj, hw⟩ := lf_M_126
  have e1 := hc.1
  exact ⟨_, tb_5, _, ty_5, cl_5, by decide, by
    obtain ⟨rfl, rfl, rfl⟩ : C = "DoorVoiceModel" ∧ T = tb_5 ∧ N = 20 := by
      have e2 := cl_5.1.symm.trans e1
      injection e2 with e2
      injection e2 with e3 e4
      injection e4 with e5 e6
      exact ⟨e3.symm, e5.symm, e6.symm⟩
    exact hw, rfl, rfl, fun h => by cases h⟩
theorem lp_C_9 : fp_ok "DoorVoice$Chances" 9 0 0 true (.array .long) := by
  obtain ⟨C, T, N, ty, hc, hj, hw⟩ := lf_C_9
  have e1 := hc.1
  exact ⟨_, tb_0, _, ty_0, cl_0, by decide, by
    obtain ⟨rfl, rfl, rfl⟩ : C = "DoorVoice$Chances" ∧ T = tb_0 ∧ N = 5 := by
      have e2 := cl_0.1.symm.trans e1
      injection e2 with e2
      injection e2 with e3 e4
      injection e4 with e5 e6
      exact ⟨e3.symm, e5.symm, e6.symm⟩
    exact hw, rfl, rfl, fun _ => rfl⟩
theorem lp_C_15 : fp_ok "DoorVoice$Chances" 15 0 1 false (.int) := by
  obtain ⟨C, T, N, ty, hc, hj, hw⟩ := lf_C_15
  have e1 := hc.1
  exact ⟨_, tb_0, _, ty_0, cl_0, by decide, by
    obtain ⟨rfl, rfl, rfl⟩ : C = "DoorVoice$Chances" ∧ T = tb_0 ∧ N = 5 := by
      have e2 := cl_0.1.symm.trans e1
      injection e2 with e2
      injection e2 with e3 e4
      injection e4 with e5 e6
      exact ⟨e3.symm, e5.symm, e6.symm⟩
    exact hw, rfl, rfl, fun h => by cases h⟩
theorem lp_C_19 : fp_ok "DoorVoice$Chances" 19 0 2 false (.int) := by
  obtain ⟨C, T, N, ty, hc, hj, hw⟩ := lf_C_19
  have e1 := hc.1
  exact ⟨_, tb_0, _, ty_0, cl_0, by decide, by
    obtain ⟨rfl, rfl, rfl⟩ : C = "DoorVoice$Chances" ∧ T = tb_0 ∧ N = 5 := by
      have e2 := cl_0.1.symm.trans e1
      injection e2 with e2
      injection e2 with e3 e4
      injection e4 with e5 e6
      exact ⟨e3.symm, e5.symm, e6.symm⟩
    exact hw, rfl, rfl, fun h => by cases h⟩
theorem lp_C_22 : fp_ok "DoorVoice$Chances" 22 0 3 false (.long) := by
  obtain ⟨C, T, N, ty, hc, hj, hw⟩ := lf_C_22
  have e1 := hc.1
  exact ⟨_, tb_0, _, ty_0, cl_0, by decide, by
    obtain ⟨rfl, rfl, rfl⟩ : C = "DoorVoice$Chances" ∧ T = tb_0 ∧ N = 5 := by
      have e2 := cl_0.1.symm.trans e1
      injection e2 with e2
      injection e2 with e3 e4
      injection e4 with e5 e6
      exact ⟨e3.symm, e5.symm, e6.symm⟩
    exact hw, rfl, rfl, fun h => by cases h⟩
theorem lp_C_26 : fp_ok "DoorVoice$Chances" 26 0 4 false (.long) := by
  obtain ⟨C, T, N, ty, hc, hj, hw⟩ := lf_C_26
  have e1 := hc.1
  exact ⟨_, tb_0, _, ty_0, cl_0, by decide, by
    obtain ⟨rfl, rfl, rfl⟩ : C = "DoorVoice$Chances" ∧ T = tb_0 ∧ N = 5 := by
      have e2 := cl_0.1.symm.trans e1
      injection e2 with e2
      injection e2 with e3 e4
      injection e4 with e5 e6
      exact ⟨e3.symm, e5.symm, e6.symm⟩
    exact hw, rfl, rfl, fun h => by cases h⟩
theorem lp_L_9 : fp_ok "DoorVoice$Listener" 9 1 0 true (.array .int) := by
  obtain ⟨C, T, N, ty, hc, hj, hw⟩ := lf_L_9
  have e1 := hc.1
  exact ⟨_, tb_1, _, ty_1, cl_1, by decide, by
    obtain ⟨rfl, rfl, rfl⟩ : C = "DoorVoice$Listener" ∧ T = tb_1 ∧ N = 2 := by
      have e2 := cl_1.1.symm.trans e1
      injection e2 with e2
      injection e2 with e3 e4
      injection e4 with e5 e6
      exact ⟨e3.symm, e5.symm, e6.symm⟩
    exact hw, rfl, rfl, fun _ => rfl⟩
theorem lp_L_15 : fp_ok "DoorVoice$Listener" 15 1 1 true (.array .int) := by
  obtain ⟨C, T, N, ty, hc, hj, hw⟩ := lf_L_15
  have e1 := hc.1
  exact ⟨_, tb_1, _, ty_1, cl_1, by decide, by
    obtain ⟨rfl, rfl, rfl⟩ : C = "DoorVoice$Listener" ∧ T = tb_1 ∧ N = 2 := by
      have e2 := cl_1.1.symm.trans e1
      injection e2 with e2
      injection e2 with e3 e4
      injection e4 with e5 e6
      exact ⟨e3.symm, e5.symm, e6.symm⟩
    exact hw, rfl, rfl, fun _ => rfl⟩
theorem lp_P_9 : fp_ok "DoorVoice$Pad" 9 2 0 true (.array .int) := by
  obtain ⟨C, T, N, ty, hc, hj, hw⟩ := lf_P_9
  have e1 := hc.1
  exact ⟨_, tb_2, _, ty_2, cl_2, by decide, by
    obtain ⟨rfl, rfl, rfl⟩ : C = "DoorVoice$Pad" ∧ T = tb_2 ∧ N = 6 := by
      have e2 := cl_2.1.symm.trans e1
      injection e2 with e2
      injection e2 with e3 e4
      injection e4 with e5 e6
      exact ⟨e3.symm, e5.symm, e6.symm⟩
    exact hw, rfl, rfl, fun _ => rfl⟩
theorem lp_P_15 : fp_ok "DoorVoice$Pad" 15 2 1 false (.int) := by
  obtain ⟨C, T, N, ty, hc, hj, hw⟩ := lf_P_15
  have e1 := hc.1
  exact ⟨_, tb_2, _, ty_2, cl_2, by decide, by
    obtain ⟨rfl, rfl, rfl⟩ : C = "DoorVoice$Pad" ∧ T = tb_2 ∧ N = 6 := by
      have e2 := cl_2.1.symm.trans e1
      injection e2 with e2
      injection e2 with e3 e4
      injection e4 with e5 e6
      exact ⟨e3.symm, e5.symm, e6.symm⟩
    exact hw, rfl, rfl, fun h => by cases h⟩
theorem lp_P_19 : fp_ok "DoorVoice$Pad" 19 2 2 false (.int) := by
  obtain ⟨C, T, N, ty, hc, hj, hw⟩ := lf_P_19
  have e1 := hc.1
  exact ⟨_, tb_2, _, ty_2, cl_2, by decide, by
    obtain ⟨rfl, rfl, rfl⟩ : C = "DoorVoice$Pad" ∧ T = tb_2 ∧ N = 6 := by
      have e2 := cl_2.1.symm.trans e1
      injection e2 with e2
      injection e2 with e3 e4
      injection e4 with e5 e6
      exact ⟨e3.symm, e5.symm, e6.symm⟩
    exact hw, rfl, rfl, fun h => by cases h⟩
theorem lp_P_22 : fp_ok "DoorVoice$Pad" 22 2 3 false (.int) := by
  obtain ⟨C, T, N, ty, hc, hj, hw⟩ := lf_P_22
  have e1 := hc.1
  exact ⟨_, tb_2, _, ty_2, cl_2, by decide, by
    obtain ⟨rfl, rfl, rfl⟩ : C = "DoorVoice$Pad" ∧ T = tb_2 ∧ N = 6 := by
      have e2 := cl_2.1.symm.trans e1
      injection e2 with e2
      injection e2 with e3 e4
      injection e4 with e5 e6
      exact ⟨e3.symm, e5.symm, e6.symm⟩
    exact hw, rfl, rfl, fun h => by cases h⟩
theorem lp_P_25 : fp_ok "DoorVoice$Pad" 25 2 4 false (.int) := by
  obtain ⟨C, T, N, ty, hc, hj, hw⟩ := lf_P_25
  have e1 := hc.1
  exact ⟨_, tb_2, _, ty_2, cl_2, by decide, by
    obtain ⟨rfl, rfl, rfl⟩ : C = "DoorVoice$Pad" ∧ T = tb_2 ∧ N = 6 := by
      have e2 := cl_2.1.symm.trans e1
      injection e2 with e2
      injection e2 with e3 e4
      injection e4 with e5 e6
      exact ⟨e3.symm, e5.symm, e6.symm⟩
    exact hw, rfl, rfl, fun h => by cases h⟩
theorem lp_P_28 : fp_ok "DoorVoice$Pad" 28 2 5 false (.int) := by
  obtain ⟨C, T, N, ty, hc, hj, hw⟩ := lf_P_28
  have e1 := hc.1
  exact ⟨_, tb_2, _, ty_2, cl_2, by decide, by
    obtain ⟨rfl, rfl, rfl⟩ : C = "DoorVoice$Pad" ∧ T = tb_2 ∧ N = 6 := by
      have e2 := cl_2.1.symm.trans e1
      injection e2 with e2
      injection e2 with e3 e4
      injection e4 with e5 e6
      exact ⟨e3.symm, e5.symm, e6.symm⟩
    exact hw, rfl, rfl, fun h => by cases h⟩
theorem lp_S_9 : fp_ok "DoorVoice$Street" 9 3 0 true (.array .int) := by
  obtain ⟨C, T, N, ty, hc, hj, hw⟩ := lf_S_9
  have e1 := hc.1
  exact ⟨_, tb_3, _, ty_3, cl_3, by decide, by
    obtain ⟨rfl, rfl, rfl⟩ : C = "DoorVoice$Street" ∧ T = tb_3 ∧ N = 16 := by
      have e2 := cl_3.1.symm.trans e1
      injection e2 with e2
      injection e2 with e3 e4
      injection e4 with e5 e6
      exact ⟨e3.symm, e5.symm, e6.symm⟩
    exact hw, rfl, rfl, fun _ => rfl⟩
theorem lp_S_15 : fp_ok "DoorVoice$Street" 15 3 1 true (.array .int) := by
  obtain ⟨C, T, N, ty, hc, hj, hw⟩ := lf_S_15
  have e1 := hc.1
  exact ⟨_, tb_3, _, ty_3, cl_3, by decide, by
    obtain ⟨rfl, rfl, rfl⟩ : C = "DoorVoice$Street" ∧ T = tb_3 ∧ N = 16 := by
      have e2 := cl_3.1.symm.trans e1
      injection e2 with e2
      injection e2 with e3 e4
      injection e4 with e5 e6
      exact ⟨e3.symm, e5.symm, e6.symm⟩
    exact hw, rfl, rfl, fun _ => rfl⟩
theorem lp_S_18 : fp_ok "DoorVoice$Street" 18 3 2 true (.array .int) := by
  obtain ⟨C, T, N, ty, hc, hj, hw⟩ := lf_S_18
  have e1 := hc.1
  exact ⟨_, tb_3, _, ty_3, cl_3, by decide, by
    obtain ⟨rfl, rfl, rfl⟩ : C = "DoorVoice$Street" ∧ T = tb_3 ∧ N = 16 := by
      have e2 := cl_3.1.symm.trans e1
      injection e2 with e2
      injection e2 with e3 e4
      injection e4 with e5 e6
      exact ⟨e3.symm, e5.symm, e6.symm⟩
    exact hw, rfl, rfl, fun _ => rfl⟩
theorem lp_S_21 : fp_ok "DoorVoice$Street" 21 3 3 true (.array .int) := by
  obtain ⟨C, T, N, ty, hc, hj, hw⟩ := lf_S_21
  have e1 := hc.1
  exact ⟨_, tb_3, _, ty_3, cl_3, by decide, by
    obtain ⟨rfl, rfl, rfl⟩ : C = "DoorVoice$Street" ∧ T = tb_3 ∧ N = 16 := by
      have e2 := cl_3.1.symm.trans e1
      injection e2 with e2
      injection e2 with e3 e4
      injection e4 with e5 e6
      exact ⟨e3.symm, e5.symm, e6.symm⟩
    exact hw, rfl, rfl, fun _ => rfl⟩
theorem lp_S_24 : fp_ok "DoorVoice$Street" 24 3 4 true (.array .int) := by
  obtain ⟨C, T, N, ty, hc, hj, hw⟩ := lf_S_24
  have e1 := hc.1
  exact ⟨_, tb_3, _, ty_3, cl_3, by decide, by
    obtain ⟨rfl, rfl, rfl⟩ : C = "DoorVoice$Street" ∧ T = tb_3 ∧ N = 16 := by
      have e2 := cl_3.1.symm.trans e1
      injection e2 with e2
      injection e2 with e3 e4
      injection e4 with e5 e6
      exact ⟨e3.symm, e5.symm, e6.symm⟩
    exact hw, rfl, rfl, fun _ => rfl⟩
theorem lp_S_27 : fp_ok "DoorVoice$Street" 27 3 5 true (.array .int) := by
  obtain ⟨C, T, N, ty, hc, hj, hw⟩ := lf_S_27
  have e1 := hc.1
  exact ⟨_, tb_3, _, ty_3, cl_3, by decide, by
    obtain ⟨rfl, rfl, rfl⟩ : C = "DoorVoice$Street" ∧ T = tb_3 ∧ N = 16 := by
      have e2 := cl_3.1.symm.trans e1
      injection e2 with e2
      injection e2 with e3 e4
      injection e4 with e5 e6
      exact ⟨e3.symm, e5.symm, e6.symm⟩
    exact hw, rfl, rfl, fun _ => rfl⟩
theorem lp_S_30 : fp_ok "DoorVoice$Street" 30 3 6 false (.int) := by
  obtain ⟨C, T, N, ty, hc, hj, hw⟩ := lf_S_30
  have e1 := hc.1
  exact ⟨_, tb_3, _, ty_3, cl_3, by decide, by
    obtain ⟨rfl, rfl, rfl⟩ : C = "DoorVoice$Street" ∧ T = tb_3 ∧ N = 16 := by
      have e2 := cl_3.1.symm.trans e1
      injection e2 with e2
      injection e2 with e3 e4
      injection e4 with e5 e6
      exact ⟨e3.symm, e5.symm, e6.symm⟩
    exact hw, rfl, rfl, fun h => by cases h⟩
theorem lp_S_34 : fp_ok "DoorVoice$Street" 34 3 7 false (.int) := by
  obtain ⟨C, T, N, ty, hc, hj, hw⟩ := lf_S_34
  have e1 := hc.1
  exact ⟨_, tb_3, _, ty_3, cl_3, by decide, by
    obtain ⟨rfl, rfl, rfl⟩ : C = "DoorVoice$Street" ∧ T = tb_3 ∧ N = 16 := by
      have e2 := cl_3.1.symm.trans e1
      injection e2 with e2
      injection e2 with e3 e4
      injection e4 with e5 e6
      exact ⟨e3.symm, e5.symm, e6.symm⟩
    exact hw, rfl, rfl, fun h => by cases h⟩
theorem lp_S_37 : fp_ok "DoorVoice$Street" 37 3 8 false (.int) := by
  obtain ⟨C, T, N, ty, hc, hj, hw⟩ := lf_S_37
  have e1 := hc.1
  exact ⟨_, tb_3, _, ty_3, cl_3, by decide, by
    obtain ⟨rfl, rfl, rfl⟩ : C = "DoorVoice$Street" ∧ T = tb_3 ∧ N = 16 := by
      have e2 := cl_3.1.symm.trans e1
      injection e2 with e2
      injection e2 with e3 e4
      injection e4 with e5 e6
      exact ⟨e3.symm, e5.symm, e6.symm⟩
    exact hw, rfl, rfl, fun h => by cases h⟩
theorem lp_S_40 : fp_ok "DoorVoice$Street" 40 3 9 false (.int) := by
  obtain ⟨C, T, N, ty, hc, hj, hw⟩ := lf_S_40
  have e1 := hc.1
  exact ⟨_, tb_3, _, ty_3, cl_3, by decide, by
    obtain ⟨rfl, rfl, rfl⟩ : C = "DoorVoice$Street" ∧ T = tb_3 ∧ N = 16 := by
      have e2 := cl_3.1.symm.trans e1
      injection e2 with e2
      injection e2 with e3 e4
      injection e4 with e5 e6
      exact ⟨e3.symm, e5.symm, e6.symm⟩
    exact hw, rfl, rfl, fun h => by cases h⟩
theorem lp_S_43 : fp_ok "DoorVoice$Street" 43 3 10 false (.int) := by
  obtain ⟨C, T, N, ty, hc, hj, hw⟩ := lf_S_43
  have e1 := hc.1
  exact ⟨_, tb_3, _, ty_3, cl_3, by decide, by
    obtain ⟨rfl, rfl, rfl⟩ : C = "DoorVoice$Street" ∧ T = tb_3 ∧ N = 16 := by
      have e2 := cl_3.1.symm.trans e1
      injection e2 with e2
      injection e2 with e3 e4
      injection e4 with e5 e6
      exact ⟨e3.symm, e5.symm, e6.symm⟩
    exact hw, rfl, rfl, fun h => by cases h⟩
theorem lp_S_46 : fp_ok "DoorVoice$Street" 46 3 11 false (.int) := by
  obtain ⟨C, T, N, ty, hc, hj, hw⟩ := lf_S_46
  have e1 := hc.1
  exact ⟨_, tb_3, _, ty_3, cl_3, by decide, by
    obtain ⟨rfl, rfl, rfl⟩ : C = "DoorVoice$Street" ∧ T = tb_3 ∧ N = 16 := by
      have e2 := cl_3.1.symm.trans e1
      injection e2 with e2
      injection e2 with e3 e4
      injection e4 with e5 e6
      exact ⟨e3.symm, e5.symm, e6.symm⟩
    exact hw, rfl, rfl, fun h => by cases h⟩
theorem lp_S_49 : fp_ok "DoorVoice$Street" 49 3 12 false (.int) := by
  obtain ⟨C, T, N, ty, hc, hj, hw⟩ := lf_S_49
  have e1 := hc.1
  exact ⟨_, tb_3, _, ty_3, cl_3, by decide, by
    obtain ⟨rfl, rfl, rfl⟩ : C = "DoorVoice$Street" ∧ T = tb_3 ∧ N = 16 := by
      have e2 := cl_3.1.symm.trans e1
      injection e2 with e2
      injection e2 with e3 e4
      injection e4 with e5 e6
      exact ⟨e3.symm, e5.symm, e6.symm⟩
    exact hw, rfl, rfl, fun h => by cases h⟩
theorem lp_S_52 : fp_ok "DoorVoice$Street" 52 3 13 false (.int) := by
  obtain ⟨C, T, N, ty, hc, hj, hw⟩ := lf_S_52
  have e1 := hc.1
  exact ⟨_, tb_3, _, ty_3, cl_3, by decide, by
    obtain ⟨rfl, rfl, rfl⟩ : C = "DoorVoice$Street" ∧ T = tb_3 ∧ N = 16 := by
      have e2 := cl_3.1.symm.trans e1
      injection e2 with e2
      injection e2 with e3 e4
      injection e4 with e5 e6
      exact ⟨e3.symm, e5.symm, e6.symm⟩
    exact hw, rfl, rfl, fun h => by cases h⟩
theorem lp_S_55 : fp_ok "DoorVoice$Street" 55 3 14 false (.int) := by
  obtain ⟨C, T, N, ty, hc, hj, hw⟩ := lf_S_55
  have e1 := hc.1
  exact ⟨_, tb_3, _, ty_3, cl_3, by decide, by
    obtain ⟨rfl, rfl, rfl⟩ : C = "DoorVoice$Street" ∧ T = tb_3 ∧ N = 16 := by
      have e2 := cl_3.1.symm.trans e1
      injection e2 with e2
      injection e2 with e3 e4
      injection e4 with e5 e6
      exact ⟨e3.symm, e5.symm, e6.symm⟩
    exact hw, rfl, rfl, fun h => by cases h⟩
theorem lp_S_58 : fp_ok "DoorVoice$Street" 58 3 15 false (.int) := by
  obtain ⟨C, T, N, ty, hc, hj, hw⟩ := lf_S_58
  have e1 := hc.1
  exact ⟨_, tb_3, _, ty_3, cl_3, by decide, by
    obtain ⟨rfl, rfl, rfl⟩ : C = "DoorVoice$Street" ∧ T = tb_3 ∧ N = 16 := by
      have e2 := cl_3.1.symm.trans e1
      injection e2 with e2
      injection e2 with e3 e4
      injection e4 with e5 e6
      exact ⟨e3.symm, e5.symm, e6.symm⟩
    exact hw, rfl, rfl, fun h => by cases h⟩
/-- the world: all cells that the law makes, by what the arrays (A, J) and the fields (I, U) hold -/
def HH (A : Nat → List Int32) (I : Nat → Nat → Int32) (J : Nat → List Int64) (U : Nat → Nat → Int64) : ax_H := [
  ob 4 [.ref 1, .ref 8, .ref 15, .ref 22, .ref 29, .ref 31, .ref 34, .int (I 0 7)],
  ob 3 [.ref 2, .ref 3, .ref 4, .ref 5, .ref 6, .ref 7, .int (I 1 6), .int (I 1 7), .int (I 1 8), .int (I 1 9), .int (I 1 10), .int (I 1 11), .int (I 1 12), .int (I 1 13), .int (I 1 14), .int (I 1 15)],
  ia (A 2),
  ia (A 3),
  ia (A 4),
  ia (A 5),
  ia (A 6),
  ia (A 7),
  ob 3 [.ref 9, .ref 10, .ref 11, .ref 12, .ref 13, .ref 14, .int (I 8 6), .int (I 8 7), .int (I 8 8), .int (I 8 9), .int (I 8 10), .int (I 8 11), .int (I 8 12), .int (I 8 13), .int (I 8 14), .int (I 8 15)],
  ia (A 9),
  ia (A 10),
  ia (A 11),
  ia (A 12),
  ia (A 13),
  ia (A 14),
  ob 3 [.ref 16, .ref 17, .ref 18, .ref 19, .ref 20, .ref 21, .int (I 15 6), .int (I 15 7), .int (I 15 8), .int (I 15 9), .int (I 15 10), .int (I 15 11), .int (I 15 12), .int (I 15 13), .int (I 15 14), .int (I 15 15)],
  ia (A 16),
  ia (A 17),
  ia (A 18),
  ia (A 19),
  ia (A 20),
  ia (A 21),
  ob 3 [.ref 23, .ref 24, .ref 25, .ref 26, .ref 27, .ref 28, .int (I 22 6), .int (I 22 7), .int (I 22 8), .int (I 22 9), .int (I 22 10), .int (I 22 11), .int (I 22 12), .int (I 22 13), .int (I 22 14), .int (I 22 15)],
  ia (A 23),
  ia (A 24),
  ia (A 25),
  ia (A 26),
  ia (A 27),
  ia (A 28),
  ob 2 [.ref 30, .int (I 29 1), .int (I 29 2), .int (I 29 3), .int (I 29 4), .int (I 29 5)],
  ia (A 30),
  ob 1 [.ref 32, .ref 33],
  ia (A 32),
  ia (A 33),
  ob 0 [.ref 35, .int (I 34 1), .int (I 34 2), .long (U 34 3), .long (U 34 4)],
  ja (J 35),
  ob 5 [.ref 37, .ref 38, .int (I 36 2), .ref 39, .int (I 36 4), .int (I 36 5), .ref 40, .int (I 36 7), .ref 41, .int (I 36 9), .ref 42, .ref 43, .int (I 36 12), .int (I 36 13), .int (I 36 14), .int (I 36 15), .ref 44, .ref 45, .ref 46, .ref 47],
  ia (A 37),
  ia (A 38),
  ia (A 39),
  ia (A 40),
  ia (A 41),
  ia (A 42),
  ia (A 43),
  ia (A 44),
  ja (J 45),
  ia (A 46),
  za (A 47)]
def u1 {α : Type} (f : Nat → α) (k : Nat) (v : α) : Nat → α := fun a => if a = k then v else f a
def u2 {α : Type} (f : Nat → Nat → α) (k j : Nat) (v : α) : Nat → Nat → α := fun a b => if a = k then (if b = j then v else f a b) else f a b
section WORLD
variable {A : Nat → List Int32} {I : Nat → Nat → Int32} {J : Nat → List Int64} {U : Nat → Nat → Int64}
theorem hg_0 : (HH A I J U)[0]? = some (ob 4 [.ref 1, .ref 8, .ref 15, .ref 22, .ref 29, .ref 31, .ref 34, .int (I 0 7)]) := rfl
theorem hg_1 : (HH A I J U)[1]? = some (ob 3 [.ref 2, .ref 3, .ref 4, .ref 5, .ref 6, .ref 7, .int (I 1 6), .int (I 1 7), .int (I 1 8), .int (I 1 9), .int (I 1 10), .int (I 1 11), .int (I 1 12), .int (I 1 13), .int (I 1 14), .int (I 1 15)]) := rfl
theorem hg_2 : (HH A I J U)[2]? = some (ia (A 2)) := rfl
theorem hg_3 : (HH A I J U)[3]? = some (ia (A 3)) := rfl
theorem hg_4 : (HH A I J U)[4]? = some (ia (A 4)) := rfl
theorem hg_5 : (HH A I J U)[5]? = some (ia (A 5)) := rfl
theorem hg_6 : (HH A I J U)[6]? = some (ia (A 6)) := rfl
theorem hg_7 : (HH A I J U)[7]? = some (ia (A 7)) := rfl
theorem hg_8 : (HH A I J U)[8]? = some (ob 3 [.ref 9, .ref 10, .ref 11, .ref 12, .ref 13, .ref 14, .int (I 8 6), .int (I 8 7), .int (I 8 8), .int (I 8 9), .int (I 8 10), .int (I 8 11), .int (I 8 12), .int (I 8 13), .int (I 8 14), .int (I 8 15)]) := rfl
theorem hg_9 : (HH A I J U)[9]? = some (ia (A 9)) := rfl
theorem hg_10 : (HH A I J U)[10]? = some (ia (A 10)) := rfl
theorem hg_11 : (HH A I J U)[11]? = some (ia (A 11)) := rfl
theorem hg_12 : (HH A I J U)[12]? = some (ia (A 12)) := rfl
theorem hg_13 : (HH A I J U)[13]? = some (ia (A 13)) := rfl
theorem hg_14 : (HH A I J U)[14]? = some (ia (A 14)) := rfl
theorem hg_15 : (HH A I J U)[15]? = some (ob 3 [.ref 16, .ref 17, .ref 18, .ref 19, .ref 20, .ref 21, .int (I 15 6), .int (I 15 7), .int (I 15 8), .int (I 15 9), .int (I 15 10), .int (I 15 11), .int (I 15 12), .int (I 15 13), .int (I 15 14), .int (I 15 15)]) := rfl
theorem hg_16 : (HH A I J U)[16]? = some (ia (A 16)) := rfl
theorem hg_17 : (HH A I J U)[17]? = some (ia (A 17)) := rfl
theorem hg_18 : (HH A I J U)[18]? = some (ia (A 18)) := rfl
theorem hg_19 : (HH A I J U)[19]? = some (ia (A 19)) := rfl
theorem hg_20 : (HH A I J U)[20]? = some (ia (A 20)) := rfl
theorem hg_21 : (HH A I J U)[21]? = some (ia (A 21)) := rfl
theorem hg_22 : (HH A I J U)[22]? = some (ob 3 [.ref 23, .ref 24, .ref 25, .ref 26, .ref 27, .ref 28, .int (I 22 6), .int (I 22 7), .int (I 22 8), .int (I 22 9), .int (I 22 10), .int (I 22 11), .int (I 22 12), .int (I 22 13), .int (I 22 14), .int (I 22 15)]) := rfl
theorem hg_23 : (HH A I J U)[23]? = some (ia (A 23)) := rfl
theorem hg_24 : (HH A I J U)[24]? = some (ia (A 24)) := rfl
theorem hg_25 : (HH A I J U)[25]? = some (ia (A 25)) := rfl
theorem hg_26 : (HH A I J U)[26]? = some (ia (A 26)) := rfl
theorem hg_27 : (HH A I J U)[27]? = some (ia (A 27)) := rfl
theorem hg_28 : (HH A I J U)[28]? = some (ia (A 28)) := rfl
theorem hg_29 : (HH A I J U)[29]? = some (ob 2 [.ref 30, .int (I 29 1), .int (I 29 2), .int (I 29 3), .int (I 29 4), .int (I 29 5)]) := rfl
theorem hg_30 : (HH A I J U)[30]? = some (ia (A 30)) := rfl
theorem hg_31 : (HH A I J U)[31]? = some (ob 1 [.ref 32, .ref 33]) := rfl
theorem hg_32 : (HH A I J U)[32]? = some (ia (A 32)) := rfl
theorem hg_33 : (HH A I J U)[33]? = some (ia (A 33)) := rfl
theorem hg_34 : (HH A I J U)[34]? = some (ob 0 [.ref 35, .int (I 34 1), .int (I 34 2), .long (U 34 3), .long (U 34 4)]) := rfl
theorem hg_35 : (HH A I J U)[35]? = some (ja (J 35)) := rfl
theorem hg_36 : (HH A I J U)[36]? = some (ob 5 [.ref 37, .ref 38, .int (I 36 2), .ref 39, .int (I 36 4), .int (I 36 5), .ref 40, .int (I 36 7), .ref 41, .int (I 36 9), .ref 42, .ref 43, .int (I 36 12), .int (I 36 13), .int (I 36 14), .int (I 36 15), .ref 44, .ref 45, .ref 46, .ref 47]) := rfl
theorem hg_37 : (HH A I J U)[37]? = some (ia (A 37)) := rfl
theorem hg_38 : (HH A I J U)[38]? = some (ia (A 38)) := rfl
theorem hg_39 : (HH A I J U)[39]? = some (ia (A 39)) := rfl
theorem hg_40 : (HH A I J U)[40]? = some (ia (A 40)) := rfl
theorem hg_41 : (HH A I J U)[41]? = some (ia (A 41)) := rfl
theorem hg_42 : (HH A I J U)[42]? = some (ia (A 42)) := rfl
theorem hg_43 : (HH A I J U)[43]? = some (ia (A 43)) := rfl
theorem hg_44 : (HH A I J U)[44]? = some (ia (A 44)) := rfl
theorem hg_45 : (HH A I J U)[45]? = some (ja (J 45)) := rfl
theorem hg_46 : (HH A I J U)[46]? = some (ia (A 46)) := rfl
theorem hg_47 : (HH A I J U)[47]? = some (za (A 47)) := rfl
theorem hp_0_7 (v : Int32) : (HH A I J U).set 0 (ob 4 ([.ref 1, .ref 8, .ref 15, .ref 22, .ref 29, .ref 31, .ref 34, .int (I 0 7)].set 7 (.int v))) = HH A (u2 I 0 7 v) J U := rfl
theorem hp_1_6 (v : Int32) : (HH A I J U).set 1 (ob 3 ([.ref 2, .ref 3, .ref 4, .ref 5, .ref 6, .ref 7, .int (I 1 6), .int (I 1 7), .int (I 1 8), .int (I 1 9), .int (I 1 10), .int (I 1 11), .int (I 1 12), .int (I 1 13), .int (I 1 14), .int (I 1 15)].set 6 (.int v))) = HH A (u2 I 1 6 v) J U := rfl
theorem hp_1_7 (v : Int32) : (HH A I J U).set 1 (ob 3 ([.ref 2, .ref 3, .ref 4, .ref 5, .ref 6, .ref 7, .int (I 1 6), .int (I 1 7), .int (I 1 8), .int (I 1 9), .int (I 1 10), .int (I 1 11), .int (I 1 12), .int (I 1 13), .int (I 1 14), .int (I 1 15)].set 7 (.int v))) = HH A (u2 I 1 7 v) J U := rfl
theorem hp_1_8 (v : Int32) : (HH A I J U).set 1 (ob 3 ([.ref 2, .ref 3, .ref 4, .ref 5, .ref 6, .ref 7, .int (I 1 6), .int (I 1 7), .int (I 1 8), .int (I 1 9), .int (I 1 10), .int (I 1 11), .int (I 1 12), .int (I 1 13), .int (I 1 14), .int (I 1 15)].set 8 (.int v))) = HH A (u2 I 1 8 v) J U := rfl
theorem hp_1_9 (v : Int32) : (HH A I J U).set 1 (ob 3 ([.ref 2, .ref 3, .ref 4, .ref 5, .ref 6, .ref 7, .int (I 1 6), .int (I 1 7), .int (I 1 8), .int (I 1 9), .int (I 1 10), .int (I 1 11), .int (I 1 12), .int (I 1 13), .int (I 1 14), .int (I 1 15)].set 9 (.int v))) = HH A (u2 I 1 9 v) J U := rfl
theorem hp_1_10 (v : Int32) : (HH A I J U).set 1 (ob 3 ([.ref 2, .ref 3, .ref 4, .ref 5, .ref 6, .ref 7, .int (I 1 6), .int (I 1 7), .int (I 1 8), .int (I 1 9), .int (I 1 10), .int (I 1 11), .int (I 1 12), .int (I 1 13), .int (I 1 14), .int (I 1 15)].set 10 (.int v))) = HH A (u2 I 1 10 v) J U := rfl
theorem hp_1_11 (v : Int32) : (HH A I J U).set 1 (ob 3 ([.ref 2, .ref 3, .ref 4, .ref 5, .ref 6, .ref 7, .int (I 1 6), .int (I 1 7), .int (I 1 8), .int (I 1 9), .int (I 1 10), .int (I 1 11), .int (I 1 12), .int (I 1 13), .int (I 1 14), .int (I 1 15)].set 11 (.int v))) = HH A (u2 I 1 11 v) J U := rfl
theorem hp_1_12 (v : Int32) : (HH A I J U).set 1 (ob 3 ([.ref 2, .ref 3, .ref 4, .ref 5, .ref 6, .ref 7, .int (I 1 6), .int (I 1 7), .int (I 1 8), .int (I 1 9), .int (I 1 10), .int (I 1 11), .int (I 1 12), .int (I 1 13), .int (I 1 14), .int (I 1 15)].set 12 (.int v))) = HH A (u2 I 1 12 v) J U := rfl
theorem hp_1_13 (v : Int32) : (HH A I J U).set 1 (ob 3 ([.ref 2, .ref 3, .ref 4, .ref 5, .ref 6, .ref 7, .int (I 1 6), .int (I 1 7), .int (I 1 8), .int (I 1 9), .int (I 1 10), .int (I 1 11), .int (I 1 12), .int (I 1 13), .int (I 1 14), .int (I 1 15)].set 13 (.int v))) = HH A (u2 I 1 13 v) J U := rfl
theorem hp_1_14 (v : Int32) : (HH A I J U).set 1 (ob 3 ([.ref 2, .ref 3, .ref 4, .ref 5, .ref 6, .ref 7, .int (I 1 6), .int (I 1 7), .int (I 1 8), .int (I 1 9), .int (I 1 10), .int (I 1 11), .int (I 1 12), .int (I 1 13), .int (I 1 14), .int (I 1 15)].set 14 (.int v))) = HH A (u2 I 1 14 v) J U := rfl
theorem hp_1_15 (v : Int32) : (HH A I J U).set 1 (ob 3 ([.ref 2, .ref 3, .ref 4, .ref 5, .ref 6, .ref 7, .int (I 1 6), .int (I 1 7), .int (I 1 8), .int (I 1 9), .int (I 1 10), .int (I 1 11), .int (I 1 12), .int (I 1 13), .int (I 1 14), .int (I 1 15)].set 15 (.int v))) = HH A (u2 I 1 15 v) J U := rfl
theorem hs_2 (xs : List Int32) : (HH A I J U).set 2 (ia xs) = HH (u1 A 2 xs) I J U := rfl
theorem hs_3 (xs : List Int32) : (HH A I J U).set 3 (ia xs) = HH (u1 A 3 xs) I J U := rfl
theorem hs_4 (xs : List Int32) : (HH A I J U).set 4 (ia xs) = HH (u1 A 4 xs) I J U := rfl
theorem hs_5 (xs : List Int32) : (HH A I J U).set 5 (ia xs) = HH (u1 A 5 xs) I J U := rfl
theorem hs_6 (xs : List Int32) : (HH A I J U).set 6 (ia xs) = HH (u1 A 6 xs) I J U := rfl
theorem hs_7 (xs : List Int32) : (HH A I J U).set 7 (ia xs) = HH (u1 A 7 xs) I J U := rfl
theorem hp_8_6 (v : Int32) : (HH A I J U).set 8 (ob 3 ([.ref 9, .ref 10, .ref 11, .ref 12, .ref 13, .ref 14, .int (I 8 6), .int (I 8 7), .int (I 8 8), .int (I 8 9), .int (I 8 10), .int (I 8 11), .int (I 8 12), .int (I 8 13), .int (I 8 14), .int (I 8 15)].set 6 (.int v))) = HH A (u2 I 8 6 v) J U := rfl
theorem hp_8_7 (v : Int32) : (HH A I J U).set 8 (ob 3 ([.ref 9, .ref 10, .ref 11, .ref 12, .ref 13, .ref 14, .int (I 8 6), .int (I 8 7), .int (I 8 8), .int (I 8 9), .int (I 8 10), .int (I 8 11), .int (I 8 12), .int (I 8 13), .int (I 8 14), .int (I 8 15)].set 7 (.int v))) = HH A (u2 I 8 7 v) J U := rfl
theorem hp_8_8 (v : Int32) : (HH A I J U).set 8 (ob 3 ([.ref 9, .ref 10, .ref 11, .ref 12, .ref 13, .ref 14, .int (I 8 6), .int (I 8 7), .int (I 8 8), .int (I 8 9), .int (I 8 10), .int (I 8 11), .int (I 8 12), .int (I 8 13), .int (I 8 14), .int (I 8 15)].set 8 (.int v))) = HH A (u2 I 8 8 v) J U := rfl
theorem hp_8_9 (v : Int32) : (HH A I J U).set 8 (ob 3 ([.ref 9, .ref 10, .ref 11, .ref 12, .ref 13, .ref 14, .int (I 8 6), .int (I 8 7), .int (I 8 8), .int (I 8 9), .int (I 8 10), .int (I 8 11), .int (I 8 12), .int (I 8 13), .int (I 8 14), .int (I 8 15)].set 9 (.int v))) = HH A (u2 I 8 9 v) J U := rfl
theorem hp_8_10 (v : Int32) : (HH A I J U).set 8 (ob 3 ([.ref 9, .ref 10, .ref 11, .ref 12, .ref 13, .ref 14, .int (I 8 6), .int (I 8 7), .int (I 8 8), .int (I 8 9), .int (I 8 10), .int (I 8 11), .int (I 8 12), .int (I 8 13), .int (I 8 14), .int (I 8 15)].set 10 (.int v))) = HH A (u2 I 8 10 v) J U := rfl
theorem hp_8_11 (v : Int32) : (HH A I J U).set 8 (ob 3 ([.ref 9, .ref 10, .ref 11, .ref 12, .ref 13, .ref 14, .int (I 8 6), .int (I 8 7), .int (I 8 8), .int (I 8 9), .int (I 8 10), .int (I 8 11), .int (I 8 12), .int (I 8 13), .int (I 8 14), .int (I 8 15)].set 11 (.int v))) = HH A (u2 I 8 11 v) J U := rfl
theorem hp_8_12 (v : Int32) : (HH A I J U).set 8 (ob 3 ([.ref 9, .ref 10, .ref 11, .ref 12, .ref 13, .ref 14, .int (I 8 6), .int (I 8 7), .int (I 8 8), .int (I 8 9), .int (I 8 10), .int (I 8 11), .int (I 8 12), .int (I 8 13), .int (I 8 14), .int (I 8 15)].set 12 (.int v))) = HH A (u2 I 8 12 v) J U := rfl
theorem hp_8_13 (v : Int32) : (HH A I J U).set 8 (ob 3 ([.ref 9, .ref 10, .ref 11, .ref 12, .ref 13, .ref 14, .int (I 8 6), .int (I 8 7), .int (I 8 8), .int (I 8 9), .int (I 8 10), .int (I 8 11), .int (I 8 12), .int (I 8 13), .int (I 8 14), .int (I 8 15)].set 13 (.int v))) = HH A (u2 I 8 13 v) J U := rfl
theorem hp_8_14 (v : Int32) : (HH A I J U).set 8 (ob 3 ([.ref 9, .ref 10, .ref 11, .ref 12, .ref 13, .ref 14, .int (I 8 6), .int (I 8 7), .int (I 8 8), .int (I 8 9), .int (I 8 10), .int (I 8 11), .int (I 8 12), .int (I 8 13), .int (I 8 14), .int (I 8 15)].set 14 (.int v))) = HH A (u2 I 8 14 v) J U := rfl
theorem hp_8_15 (v : Int32) : (HH A I J U).set 8 (ob 3 ([.ref 9, .ref 10, .ref 11, .ref 12, .ref 13, .ref 14, .int (I 8 6), .int (I 8 7), .int (I 8 8), .int (I 8 9), .int (I 8 10), .int (I 8 11), .int (I 8 12), .int (I 8 13), .int (I 8 14), .int (I 8 15)].set 15 (.int v))) = HH A (u2 I 8 15 v) J U := rfl
theorem hs_9 (xs : List Int32) : (HH A I J U).set 9 (ia xs) = HH (u1 A 9 xs) I J U := rfl
theorem hs_10 (xs : List Int32) : (HH A I J U).set 10 (ia xs) = HH (u1 A 10 xs) I J U := rfl
theorem hs_11 (xs : List Int32) : (HH A I J U).set 11 (ia xs) = HH (u1 A 11 xs) I J U := rfl
theorem hs_12 (xs : List Int32) : (HH A I J U).set 12 (ia xs) = HH (u1 A 12 xs) I J U := rfl
theorem hs_13 (xs : List Int32) : (HH A I J U).set 13 (ia xs) = HH (u1 A 13 xs) I J U := rfl
theorem hs_14 (xs : List Int32) : (HH A I J U).set 14 (ia xs) = HH (u1 A 14 xs) I J U := rfl
theorem hp_15_6 (v : Int32) : (HH A I J U).set 15 (ob 3 ([.ref 16, .ref 17, .ref 18, .ref 19, .ref 20, .ref 21, .int (I 15 6), .int (I 15 7), .int (I 15 8), .int (I 15 9), .int (I 15 10), .int (I 15 11), .int (I 15 12), .int (I 15 13), .int (I 15 14), .int (I 15 15)].set 6 (.int v))) = HH A (u2 I 15 6 v) J U := rfl
theorem hp_15_7 (v : Int32) : (HH A I J U).set 15 (ob 3 ([.ref 16, .ref 17, .ref 18, .ref 19, .ref 20, .ref 21, .int (I 15 6), .int (I 15 7), .int (I 15 8), .int (I 15 9), .int (I 15 10), .int (I 15 11), .int (I 15 12), .int (I 15 13), .int (I 15 14), .int (I 15 15)].set 7 (.int v))) = HH A (u2 I 15 7 v) J U := rfl
theorem hp_15_8 (v : Int32) : (HH A I J U).set 15 (ob 3 ([.ref 16, .ref 17, .ref 18, .ref 19, .ref 20, .ref 21, .int (I 15 6), .int (I 15 7), .int (I 15 8), .int (I 15 9), .int (I 15 10), .int (I 15 11), .int (I 15 12), .int (I 15 13), .int (I 15 14), .int (I 15 15)].set 8 (.int v))) = HH A (u2 I 15 8 v) J U := rfl
theorem hp_15_9 (v : Int32) : (HH A I J U).set 15 (ob 3 ([.ref 16, .ref 17, .ref 18, .ref 19, .ref 20, .ref 21, .int (I 15 6), .int (I 15 7), .int (I 15 8), .int (I 15 9), .int (I 15 10), .int (I 15 11), .int (I 15 12), .int (I 15 13), .int (I 15 14), .int (I 15 15)].set 9 (.int v))) = HH A (u2 I 15 9 v) J U := rfl
theorem hp_15_10 (v : Int32) : (HH A I J U).set 15 (ob 3 ([.ref 16, .ref 17, .ref 18, .ref 19, .ref 20, .ref 21, .int (I 15 6), .int (I 15 7), .int (I 15 8), .int (I 15 9), .int (I 15 10), .int (I 15 11), .int (I 15 12), .int (I 15 13), .int (I 15 14), .int (I 15 15)].set 10 (.int v))) = HH A (u2 I 15 10 v) J U := rfl
theorem hp_15_11 (v : Int32) : (HH A I J U).set 15 (ob 3 ([.ref 16, .ref 17, .ref 18, .ref 19, .ref 20, .ref 21, .int (I 15 6), .int (I 15 7), .int (I 15 8), .int (I 15 9), .int (I 15 10), .int (I 15 11), .int (I 15 12), .int (I 15 13), .int (I 15 14), .int (I 15 15)].set 11 (.int v))) = HH A (u2 I 15 11 v) J U := rfl
theorem hp_15_12 (v : Int32) : (HH A I J U).set 15 (ob 3 ([.ref 16, .ref 17, .ref 18, .ref 19, .ref 20, .ref 21, .int (I 15 6), .int (I 15 7), .int (I 15 8), .int (I 15 9), .int (I 15 10), .int (I 15 11), .int (I 15 12), .int (I 15 13), .int (I 15 14), .int (I 15 15)].set 12 (.int v))) = HH A (u2 I 15 12 v) J U := rfl
theorem hp_15_13 (v : Int32) : (HH A I J U).set 15 (ob 3 ([.ref 16, .ref 17, .ref 18, .ref 19, .ref 20, .ref 21, .int (I 15 6), .int (I 15 7), .int (I 15 8), .int (I 15 9), .int (I 15 10), .int (I 15 11), .int (I 15 12), .int (I 15 13), .int (I 15 14), .int (I 15 15)].set 13 (.int v))) = HH A (u2 I 15 13 v) J U := rfl
theorem hp_15_14 (v : Int32) : (HH A I J U).set 15 (ob 3 ([.ref 16, .ref 17, .ref 18, .ref 19, .ref 20, .ref 21, .int (I 15 6), .int (I 15 7), .int (I 15 8), .int (I 15 9), .int (I 15 10), .int (I 15 11), .int (I 15 12), .int (I 15 13), .int (I 15 14), .int (I 15 15)].set 14 (.int v))) = HH A (u2 I 15 14 v) J U := rfl
theorem hp_15_15 (v : Int32) : (HH A I J U).set 15 (ob 3 ([.ref 16, .ref 17, .ref 18, .ref 19, .ref 20, .ref 21, .int (I 15 6), .int (I 15 7), .int (I 15 8), .int (I 15 9), .int (I 15 10), .int (I 15 11), .int (I 15 12), .int (I 15 13), .int (I 15 14), .int (I 15 15)].set 15 (.int v))) = HH A (u2 I 15 15 v) J U := rfl
theorem hs_16 (xs : List Int32) : (HH A I J U).set 16 (ia xs) = HH (u1 A 16 xs) I J U := rfl
theorem hs_17 (xs : List Int32) : (HH A I J U).set 17 (ia xs) = HH (u1 A 17 xs) I J U := rfl
theorem hs_18 (xs : List Int32) : (HH A I J U).set 18 (ia xs) = HH (u1 A 18 xs) I J U := rfl
theorem hs_19 (xs : List Int32) : (HH A I J U).set 19 (ia xs) = HH (u1 A 19 xs) I J U := rfl
theorem hs_20 (xs : List Int32) : (HH A I J U).set 20 (ia xs) = HH (u1 A 20 xs) I J U := rfl
theorem hs_21 (xs : List Int32) : (HH A I J U).set 21 (ia xs) = HH (u1 A 21 xs) I J U := rfl
theorem hp_22_6 (v : Int32) : (HH A I J U).set 22 (ob 3 ([.ref 23, .ref 24, .ref 25, .ref 26, .ref 27, .ref 28, .int (I 22 6), .int (I 22 7), .int (I 22 8), .int (I 22 9), .int (I 22 10), .int (I 22 11), .int (I 22 12), .int (I 22 13), .int (I 22 14), .int (I 22 15)].set 6 (.int v))) = HH A (u2 I 22 6 v) J U := rfl
theorem hp_22_7 (v : Int32) : (HH A I J U).set 22 (ob 3 ([.ref 23, .ref 24, .ref 25, .ref 26, .ref 27, .ref 28, .int (I 22 6), .int (I 22 7), .int (I 22 8), .int (I 22 9), .int (I 22 10), .int (I 22 11), .int (I 22 12), .int (I 22 13), .int (I 22 14), .int (I 22 15)].set 7 (.int v))) = HH A (u2 I 22 7 v) J U := rfl
theorem hp_22_8 (v : Int32) : (HH A I J U).set 22 (ob 3 ([.ref 23, .ref 24, .ref 25, .ref 26, .ref 27, .ref 28, .int (I 22 6), .int (I 22 7), .int (I 22 8), .int (I 22 9), .int (I 22 10), .int (I 22 11), .int (I 22 12), .int (I 22 13), .int (I 22 14), .int (I 22 15)].set 8 (.int v))) = HH A (u2 I 22 8 v) J U := rfl
theorem hp_22_9 (v : Int32) : (HH A I J U).set 22 (ob 3 ([.ref 23, .ref 24, .ref 25, .ref 26, .ref 27, .ref 28, .int (I 22 6), .int (I 22 7), .int (I 22 8), .int (I 22 9), .int (I 22 10), .int (I 22 11), .int (I 22 12), .int (I 22 13), .int (I 22 14), .int (I 22 15)].set 9 (.int v))) = HH A (u2 I 22 9 v) J U := rfl
theorem hp_22_10 (v : Int32) : (HH A I J U).set 22 (ob 3 ([.ref 23, .ref 24, .ref 25, .ref 26, .ref 27, .ref 28, .int (I 22 6), .int (I 22 7), .int (I 22 8), .int (I 22 9), .int (I 22 10), .int (I 22 11), .int (I 22 12), .int (I 22 13), .int (I 22 14), .int (I 22 15)].set 10 (.int v))) = HH A (u2 I 22 10 v) J U := rfl
theorem hp_22_11 (v : Int32) : (HH A I J U).set 22 (ob 3 ([.ref 23, .ref 24, .ref 25, .ref 26, .ref 27, .ref 28, .int (I 22 6), .int (I 22 7), .int (I 22 8), .int (I 22 9), .int (I 22 10), .int (I 22 11), .int (I 22 12), .int (I 22 13), .int (I 22 14), .int (I 22 15)].set 11 (.int v))) = HH A (u2 I 22 11 v) J U := rfl
theorem hp_22_12 (v : Int32) : (HH A I J U).set 22 (ob 3 ([.ref 23, .ref 24, .ref 25, .ref 26, .ref 27, .ref 28, .int (I 22 6), .int (I 22 7), .int (I 22 8), .int (I 22 9), .int (I 22 10), .int (I 22 11), .int (I 22 12), .int (I 22 13), .int (I 22 14), .int (I 22 15)].set 12 (.int v))) = HH A (u2 I 22 12 v) J U := rfl
theorem hp_22_13 (v : Int32) : (HH A I J U).set 22 (ob 3 ([.ref 23, .ref 24, .ref 25, .ref 26, .ref 27, .ref 28, .int (I 22 6), .int (I 22 7), .int (I 22 8), .int (I 22 9), .int (I 22 10), .int (I 22 11), .int (I 22 12), .int (I 22 13), .int (I 22 14), .int (I 22 15)].set 13 (.int v))) = HH A (u2 I 22 13 v) J U := rfl
theorem hp_22_14 (v : Int32) : (HH A I J U).set 22 (ob 3 ([.ref 23, .ref 24, .ref 25, .ref 26, .ref 27, .ref 28, .int (I 22 6), .int (I 22 7), .int (I 22 8), .int (I 22 9), .int (I 22 10), .int (I 22 11), .int (I 22 12), .int (I 22 13), .int (I 22 14), .int (I 22 15)].set 14 (.int v))) = HH A (u2 I 22 14 v) J U := rfl
theorem hp_22_15 (v : Int32) : (HH A I J U).set 22 (ob 3 ([.ref 23, .ref 24, .ref 25, .ref 26, .ref 27, .ref 28, .int (I 22 6), .int (I 22 7), .int (I 22 8), .int (I 22 9), .int (I 22 10), .int (I 22 11), .int (I 22 12), .int (I 22 13), .int (I 22 14), .int (I 22 15)].set 15 (.int v))) = HH A (u2 I 22 15 v) J U := rfl
theorem hs_23 (xs : List Int32) : (HH A I J U).set 23 (ia xs) = HH (u1 A 23 xs) I J U := rfl
theorem hs_24 (xs : List Int32) : (HH A I J U).set 24 (ia xs) = HH (u1 A 24 xs) I J U := rfl
theorem hs_25 (xs : List Int32) : (HH A I J U).set 25 (ia xs) = HH (u1 A 25 xs) I J U := rfl
theorem hs_26 (xs : List Int32) : (HH A I J U).set 26 (ia xs) = HH (u1 A 26 xs) I J U := rfl
theorem hs_27 (xs : List Int32) : (HH A I J U).set 27 (ia xs) = HH (u1 A 27 xs) I J U := rfl
theorem hs_28 (xs : List Int32) : (HH A I J U).set 28 (ia xs) = HH (u1 A 28 xs) I J U := rfl
theorem hp_29_1 (v : Int32) : (HH A I J U).set 29 (ob 2 ([.ref 30, .int (I 29 1), .int (I 29 2), .int (I 29 3), .int (I 29 4), .int (I 29 5)].set 1 (.int v))) = HH A (u2 I 29 1 v) J U := rfl
theorem hp_29_2 (v : Int32) : (HH A I J U).set 29 (ob 2 ([.ref 30, .int (I 29 1), .int (I 29 2), .int (I 29 3), .int (I 29 4), .int (I 29 5)].set 2 (.int v))) = HH A (u2 I 29 2 v) J U := rfl
theorem hp_29_3 (v : Int32) : (HH A I J U).set 29 (ob 2 ([.ref 30, .int (I 29 1), .int (I 29 2), .int (I 29 3), .int (I 29 4), .int (I 29 5)].set 3 (.int v))) = HH A (u2 I 29 3 v) J U := rfl
theorem hp_29_4 (v : Int32) : (HH A I J U).set 29 (ob 2 ([.ref 30, .int (I 29 1), .int (I 29 2), .int (I 29 3), .int (I 29 4), .int (I 29 5)].set 4 (.int v))) = HH A (u2 I 29 4 v) J U := rfl
theorem hp_29_5 (v : Int32) : (HH A I J U).set 29 (ob 2 ([.ref 30, .int (I 29 1), .int (I 29 2), .int (I 29 3), .int (I 29 4), .int (I 29 5)].set 5 (.int v))) = HH A (u2 I 29 5 v) J U := rfl
theorem hs_30 (xs : List Int32) : (HH A I J U).set 30 (ia xs) = HH (u1 A 30 xs) I J U := rfl
theorem hs_32 (xs : List Int32) : (HH A I J U).set 32 (ia xs) = HH (u1 A 32 xs) I J U := rfl
theorem hs_33 (xs : List Int32) : (HH A I J U).set 33 (ia xs) = HH (u1 A 33 xs) I J U := rfl
theorem hp_34_1 (v : Int32) : (HH A I J U).set 34 (ob 0 ([.ref 35, .int (I 34 1), .int (I 34 2), .long (U 34 3), .long (U 34 4)].set 1 (.int v))) = HH A (u2 I 34 1 v) J U := rfl
theorem hp_34_2 (v : Int32) : (HH A I J U).set 34 (ob 0 ([.ref 35, .int (I 34 1), .int (I 34 2), .long (U 34 3), .long (U 34 4)].set 2 (.int v))) = HH A (u2 I 34 2 v) J U := rfl
theorem hp_34_3 (v : Int64) : (HH A I J U).set 34 (ob 0 ([.ref 35, .int (I 34 1), .int (I 34 2), .long (U 34 3), .long (U 34 4)].set 3 (.long v))) = HH A I J (u2 U 34 3 v) := rfl
theorem hp_34_4 (v : Int64) : (HH A I J U).set 34 (ob 0 ([.ref 35, .int (I 34 1), .int (I 34 2), .long (U 34 3), .long (U 34 4)].set 4 (.long v))) = HH A I J (u2 U 34 4 v) := rfl
theorem hs_35 (xs : List Int64) : (HH A I J U).set 35 (ja xs) = HH A I (u1 J 35 xs) U := rfl
theorem hp_36_2 (v : Int32) : (HH A I J U).set 36 (ob 5 ([.ref 37, .ref 38, .int (I 36 2), .ref 39, .int (I 36 4), .int (I 36 5), .ref 40, .int (I 36 7), .ref 41, .int (I 36 9), .ref 42, .ref 43, .int (I 36 12), .int (I 36 13), .int (I 36 14), .int (I 36 15), .ref 44, .ref 45, .ref 46, .ref 47].set 2 (.int v))) = HH A (u2 I 36 2 v) J U := rfl
theorem hp_36_4 (v : Int32) : (HH A I J U).set 36 (ob 5 ([.ref 37, .ref 38, .int (I 36 2), .ref 39, .int (I 36 4), .int (I 36 5), .ref 40, .int (I 36 7), .ref 41, .int (I 36 9), .ref 42, .ref 43, .int (I 36 12), .int (I 36 13), .int (I 36 14), .int (I 36 15), .ref 44, .ref 45, .ref 46, .ref 47].set 4 (.int v))) = HH A (u2 I 36 4 v) J U := rfl
theorem hp_36_5 (v : Int32) : (HH A I J U).set 36 (ob 5 ([.ref 37, .ref 38, .int (I 36 2), .ref 39, .int (I 36 4), .int (I 36 5), .ref 40, .int (I 36 7), .ref 41, .int (I 36 9), .ref 42, .ref 43, .int (I 36 12), .int (I 36 13), .int (I 36 14), .int (I 36 15), .ref 44, .ref 45, .ref 46, .ref 47].set 5 (.int v))) = HH A (u2 I 36 5 v) J U := rfl
theorem hp_36_7 (v : Int32) : (HH A I J U).set 36 (ob 5 ([.ref 37, .ref 38, .int (I 36 2), .ref 39, .int (I 36 4), .int (I 36 5), .ref 40, .int (I 36 7), .ref 41, .int (I 36 9), .ref 42, .ref 43, .int (I 36 12), .int (I 36 13), .int (I 36 14), .int (I 36 15), .ref 44, .ref 45, .ref 46, .ref 47].set 7 (.int v))) = HH A (u2 I 36 7 v) J U := rfl
theorem hp_36_9 (v : Int32) : (HH A I J U).set 36 (ob 5 ([.ref 37, .ref 38, .int (I 36 2), .ref 39, .int (I 36 4), .int (I 36 5), .ref 40, .int (I 36 7), .ref 41, .int (I 36 9), .ref 42, .ref 43, .int (I 36 12), .int (I 36 13), .int (I 36 14), .int (I 36 15), .ref 44, .ref 45, .ref 46, .ref 47].set 9 (.int v))) = HH A (u2 I 36 9 v) J U := rfl
theorem hp_36_12 (v : Int32) : (HH A I J U).set 36 (ob 5 ([.ref 37, .ref 38, .int (I 36 2), .ref 39, .int (I 36 4), .int (I 36 5), .ref 40, .int (I 36 7), .ref 41, .int (I 36 9), .ref 42, .ref 43, .int (I 36 12), .int (I 36 13), .int (I 36 14), .int (I 36 15), .ref 44, .ref 45, .ref 46, .ref 47].set 12 (.int v))) = HH A (u2 I 36 12 v) J U := rfl
theorem hp_36_13 (v : Int32) : (HH A I J U).set 36 (ob 5 ([.ref 37, .ref 38, .int (I 36 2), .ref 39, .int (I 36 4), .int (I 36 5), .ref 40, .int (I 36 7), .ref 41, .int (I 36 9), .ref 42, .ref 43, .int (I 36 12), .int (I 36 13), .int (I 36 14), .int (I 36 15), .ref 44, .ref 45, .ref 46, .ref 47].set 13 (.int v))) = HH A (u2 I 36 13 v) J U := rfl
theorem hp_36_14 (v : Int32) : (HH A I J U).set 36 (ob 5 ([.ref 37, .ref 38, .int (I 36 2), .ref 39, .int (I 36 4), .int (I 36 5), .ref 40, .int (I 36 7), .ref 41, .int (I 36 9), .ref 42, .ref 43, .int (I 36 12), .int (I 36 13), .int (I 36 14), .int (I 36 15), .ref 44, .ref 45, .ref 46, .ref 47].set 14 (.int v))) = HH A (u2 I 36 14 v) J U := rfl
theorem hp_36_15 (v : Int32) : (HH A I J U).set 36 (ob 5 ([.ref 37, .ref 38, .int (I 36 2), .ref 39, .int (I 36 4), .int (I 36 5), .ref 40, .int (I 36 7), .ref 41, .int (I 36 9), .ref 42, .ref 43, .int (I 36 12), .int (I 36 13), .int (I 36 14), .int (I 36 15), .ref 44, .ref 45, .ref 46, .ref 47].set 15 (.int v))) = HH A (u2 I 36 15 v) J U := rfl
theorem hs_37 (xs : List Int32) : (HH A I J U).set 37 (ia xs) = HH (u1 A 37 xs) I J U := rfl
theorem hs_38 (xs : List Int32) : (HH A I J U).set 38 (ia xs) = HH (u1 A 38 xs) I J U := rfl
theorem hs_39 (xs : List Int32) : (HH A I J U).set 39 (ia xs) = HH (u1 A 39 xs) I J U := rfl
theorem hs_40 (xs : List Int32) : (HH A I J U).set 40 (ia xs) = HH (u1 A 40 xs) I J U := rfl
theorem hs_41 (xs : List Int32) : (HH A I J U).set 41 (ia xs) = HH (u1 A 41 xs) I J U := rfl
theorem hs_42 (xs : List Int32) : (HH A I J U).set 42 (ia xs) = HH (u1 A 42 xs) I J U := rfl
theorem hs_43 (xs : List Int32) : (HH A I J U).set 43 (ia xs) = HH (u1 A 43 xs) I J U := rfl
theorem hs_44 (xs : List Int32) : (HH A I J U).set 44 (ia xs) = HH (u1 A 44 xs) I J U := rfl
theorem hs_45 (xs : List Int64) : (HH A I J U).set 45 (ja xs) = HH A I (u1 J 45 xs) U := rfl
theorem hs_46 (xs : List Int32) : (HH A I J U).set 46 (ia xs) = HH (u1 A 46 xs) I J U := rfl
theorem hs_47 (xs : List Int32) : (HH A I J U).set 47 (za xs) = HH (u1 A 47 xs) I J U := rfl
end WORLD
end
section
/-! rows on bits, shifts and unsigned numbers, to paste: each family out of a closed proof of our own, whole with what it rests on; each by itself clean at Lean in its own claim (generation 39, form 5). Take a family whole -/
/-! ===== Int32 by its bits: bt x i ===== -/
def bt (x : Int32) (i : Nat) : Bool := x.toBitVec.getLsbD i
theorem b_ext {x y : Int32} (h : ∀ i, i < 32 → bt x i = bt y i) : x = y := Int32.toBitVec_inj.mp (BitVec.eq_of_getLsbD_eq (fun i hi => h i hi))
theorem b_or (x y : Int32) (i : Nat) : bt (x ||| y) i = (bt x i || bt y i) := by unfold bt; rw [Int32.toBitVec_or, BitVec.getLsbD_or]
theorem b_and (x y : Int32) (i : Nat) : bt (x &&& y) i = (bt x i && bt y i) := by unfold bt; rw [Int32.toBitVec_and, BitVec.getLsbD_and]
theorem b_xor (x y : Int32) (i : Nat) : bt (x ^^^ y) i = (bt x i ^^ bt y i) := by unfold bt; rw [Int32.toBitVec_xor, BitVec.getLsbD_xor]
theorem b_big {x : Int32} {i : Nat} (h : 32 ≤ i) : bt x i = false := BitVec.getLsbD_of_ge _ _ h
theorem b_255 (i : Nat) : bt 255 i = decide (i < 8) := by
  rcases Nat.lt_or_ge i 32 with h | h
  · exact (by decide +kernel : ∀ i, i < 32 → bt 255 i = decide (i < 8)) i h
  · rw [b_big h, decide_eq_false (by omega)]
theorem b_65535 (i : Nat) : bt 65535 i = decide (i < 16) := by
  rcases Nat.lt_or_ge i 32 with h | h
  · exact (by decide +kernel : ∀ i, i < 32 → bt 65535 i = decide (i < 16)) i h
  · rw [b_big h, decide_eq_false (by omega)]
theorem b_m1 : ∀ i, i < 32 → bt (-1) i = true := by decide +kernel
theorem b_0 (i : Nat) : bt 0 i = false := BitVec.getLsbD_zero
theorem s_l : ∀ n, n < 32 → ((nI n &&& 31).toBitVec.smod 32).toNat = n := by decide +kernel
theorem s_u : ∀ n, n < 32 → (((nI n).toUInt32 &&& Int32.toUInt32 31).toBitVec % 32).toNat = n := by decide +kernel
theorem b_shl (n : Nat) (hn : n < 32) (x : Int32) {i : Nat} (hi : i < 32) : bt (x <<< (nI n &&& 31)) i = (decide (n ≤ i) && bt x (i - n)) := by
  unfold bt
  rw [Int32.toBitVec_shiftLeft]
  show (x.toBitVec <<< ((nI n &&& 31).toBitVec.smod 32).toNat).getLsbD i = _
  rw [s_l n hn, BitVec.getLsbD_shiftLeft]
  rcases Nat.lt_or_ge i n with h | h
  · simp [h, Nat.not_le.mpr h]
  · simp [hi, h, Nat.not_lt.mpr h]
theorem b_ushr (n : Nat) (hn : n < 32) (x : Int32) (i : Nat) : bt ((x.toUInt32 >>> ((nI n).toUInt32 &&& Int32.toUInt32 31)).toInt32) i = bt x (n + i) := by
  show (x.toUInt32 >>> ((nI n).toUInt32 &&& Int32.toUInt32 31)).toBitVec.getLsbD i = x.toUInt32.toBitVec.getLsbD (n + i)
  rw [UInt32.toBitVec_shiftRight]
  show (x.toUInt32.toBitVec >>> (((nI n).toUInt32 &&& Int32.toUInt32 31).toBitVec % 32).toNat).getLsbD i = _
  rw [s_u n hn, BitVec.getLsbD_ushiftRight]
theorem b_sshr (n : Nat) (hn : n < 32) (x : Int32) {i : Nat} (hi : i < 32) : bt (x >>> (nI n &&& 31)) i = if n + i < 32 then bt x (n + i) else bt x 31 := by
  unfold bt
  rw [Int32.toBitVec_shiftRight]
  show (x.toBitVec.sshiftRight ((nI n &&& 31).toBitVec.smod 32).toNat).getLsbD i = _
  rw [s_l n hn, BitVec.getLsbD_sshiftRight, BitVec.msb_eq_getLsbD_last]
  simp [hi]
theorem b_shl8 (x : Int32) {i : Nat} (hi : i < 32) : bt (x <<< ((8 : Int32) &&& 31)) i = (decide (8 ≤ i) && bt x (i - 8)) := b_shl 8 (by omega) x hi
theorem b_shl16 (x : Int32) {i : Nat} (hi : i < 32) : bt (x <<< ((16 : Int32) &&& 31)) i = (decide (16 ≤ i) && bt x (i - 16)) := b_shl 16 (by omega) x hi
theorem b_shl24 (x : Int32) {i : Nat} (hi : i < 32) : bt (x <<< ((24 : Int32) &&& 31)) i = (decide (24 ≤ i) && bt x (i - 24)) := b_shl 24 (by omega) x hi
theorem b_sshr8 (x : Int32) {i : Nat} (hi : i < 32) : bt (x >>> ((8 : Int32) &&& 31)) i = if 8 + i < 32 then bt x (8 + i) else bt x 31 := b_sshr 8 (by omega) x hi
/-! plain facts on numbers and arrays, to paste: each family by itself; over the kit's rows on nI and upd -/
/-! ===== order of ints, in all its forms, and through longs ===== -/
theorem fa_lt (a b : Int32) : a < b ↔ a.toInt < b.toInt := Int32.lt_iff_toInt_lt
theorem fa_le (a b : Int32) : a ≤ b ↔ a.toInt ≤ b.toInt := Int32.le_iff_toInt_le
theorem fa_eq (a b : Int32) : a = b ↔ a.toInt = b.toInt := Int32.toInt_inj.symm
theorem fa_lt64 (a b : Int64) : a < b ↔ a.toInt < b.toInt := Int64.lt_iff_toInt_lt
theorem fa_le64 (a b : Int64) : a ≤ b ↔ a.toInt ≤ b.toInt := Int64.le_iff_toInt_le
theorem fa_eq64 (a b : Int64) : a = b ↔ a.toInt = b.toInt := Int64.toInt_inj.symm
/-- a comparison of two ints taken as longs -/
theorem fa_wide_lt (a b : Int32) : a.toInt64 < b.toInt64 ↔ a < b := by rw [fa_lt64, fa_lt, Int32.toInt_toInt64, Int32.toInt_toInt64]
theorem fa_wide_le (a b : Int32) : a.toInt64 ≤ b.toInt64 ↔ a ≤ b := by rw [fa_le64, fa_le, Int32.toInt_toInt64, Int32.toInt_toInt64]
theorem fa_wide_eq (a b : Int32) : a.toInt64 = b.toInt64 ↔ a = b := by rw [fa_eq64, fa_eq, Int32.toInt_toInt64, Int32.toInt_toInt64]
/-- one strict comparison gives all the others -/
theorem fa_of_lt {a b : Int32} (h : a < b) : a ≤ b ∧ ¬ b ≤ a ∧ ¬ b < a ∧ a ≠ b ∧ b ≠ a := by
  rw [fa_lt] at h
  refine ⟨?_, ?_, ?_, ?_, ?_⟩
  · rw [fa_le]; omega
  · rw [fa_le]; omega
  · rw [fa_lt]; omega
  · intro e; rw [fa_eq] at e; omega
  · intro e; rw [fa_eq] at e; omega
theorem fa_of_nlt {a b : Int32} (h : ¬ a < b) : b ≤ a := by
  rw [fa_lt] at h
  rw [fa_le]
  omega
theorem fa_of_nle {a b : Int32} (h : ¬ a ≤ b) : b < a := by
  rw [fa_le] at h
  rw [fa_lt]
  omega
theorem fa_le_ne {a b : Int32} (h : a ≤ b) (h2 : a ≠ b) : a < b := by
  rw [fa_le] at h
  rw [fa_lt]
  have h3 : a.toInt ≠ b.toInt := fun e => h2 ((fa_eq a b).mpr e)
  omega
theorem fa_three (a b : Int32) : a < b ∨ a = b ∨ b < a := by
  rw [fa_lt, fa_lt, fa_eq]
  omega
theorem fa_trans {a b c : Int32} (h : a < b) (h2 : b ≤ c) : a < c := by
  rw [fa_lt] at *
  rw [fa_le] at h2
  omega
/-! ===== small literals as numbers ===== -/
theorem fa_lit (n : Nat) : (OfNat.ofNat n : Int32) = nI n := rfl
theorem fa_litL (n : Nat) : (OfNat.ofNat n : Int64) = lN n := rfl
/-! ===== bits of a number: 'or', masks, one bit ===== -/
theorem fa_and (a b : Nat) : nI a &&& nI b = nI (a &&& b) := by
  apply Int32.toBitVec_inj.1
  show BitVec.ofNat 32 a &&& BitVec.ofNat 32 b = BitVec.ofNat 32 (a &&& b)
  apply BitVec.eq_of_getLsbD_eq
  intro i hi
  simp [hi]
theorem fa_or (a b : Nat) : nI a ||| nI b = nI (a ||| b) := by
  apply Int32.toBitVec_inj.1
  show BitVec.ofNat 32 a ||| BitVec.ofNat 32 b = BitVec.ofNat 32 (a ||| b)
  apply BitVec.eq_of_getLsbD_eq
  intro i hi
  simp [hi]
/-- a remainder by a power of two, as a mask -/
theorem fa_mask (n k : Nat) : nI n &&& nI (2 ^ k - 1) = nI (n % 2 ^ k) := by rw [fa_and, Nat.and_two_pow_sub_one_eq_mod]
/-- 'or' of a high part and a low one that don't meet is their sum -/
theorem fa_or_sum {a k : Nat} (b : Nat) (h : a < 2 ^ k) : nI (2 ^ k * b) ||| nI a = nI (2 ^ k * b + a) := by rw [fa_or, Nat.two_pow_add_eq_or_of_lt h]
/-- one bit, by 'and' with a power of two -/
theorem fa_bit {n j : Nat} (hj : j < 31) : nI n &&& nI (2 ^ j) = 0 ↔ n.testBit j = false := by
  have h2 : (2 : Nat) ^ j < 2 ^ 31 := Nat.pow_lt_pow_right (by decide) hj
  have hle : n &&& 2 ^ j ≤ 2 ^ j := Nat.and_le_right
  have e : n &&& 2 ^ j = 0 ↔ n.testBit j = false := by
    constructor
    · intro h
      have h1 : (n &&& 2 ^ j).testBit j = false := by rw [h]; simp
      rw [Nat.testBit_and] at h1
      first | simpa using h1 | simpa [Nat.testBit_two_pow_self] using h1 | simpa [Nat.testBit_two_pow] using h1
    · intro h
      apply Nat.eq_of_testBit_eq
      intro i
      rw [Nat.testBit_and]
      by_cases hi : j = i
      · subst hi; simp [h]
      · first | (simp [Nat.testBit_two_pow, hi]; done) | (simp [Nat.testBit_two_pow_of_ne hi]; done)
  rw [fa_and]
  constructor
  · intro h
    apply e.mp
    rcases Nat.eq_zero_or_pos (n &&& 2 ^ j) with z | z
    · exact z
    · exact absurd h (nI_ne0 z (Nat.lt_of_le_of_lt hle h2))
  · intro h
    rw [e.mpr h]; exact nI_0
/-- a remainder by a power of two of a number that isn't negative, as Java divides -/
theorem fa_rem {a k : Nat} (ha : a < 2 ^ 31) (hk : k < 31) : nI a - nI a / nI (2 ^ k) * nI (2 ^ k) = nI (a % 2 ^ k) := pk_rem ha (Nat.two_pow_pos k) (Nat.pow_lt_pow_right (by decide) hk)
/-! ===== cuts to a byte, a short ===== -/
theorem fa_byte_xor (x y : Int32) : (x ^^^ y).toInt8 = x.toInt8 ^^^ y.toInt8 := by
  apply Int8.toBitVec_inj.1
  apply BitVec.eq_of_getLsbD_eq
  intro i hi
  first | (simp [hi]; done) | (simp [hi, BitVec.getLsbD_setWidth, BitVec.getLsbD_signExtend]; done)
theorem fa_short_xor (x y : Int32) : (x ^^^ y).toInt16 = x.toInt16 ^^^ y.toInt16 := by
  apply Int16.toBitVec_inj.1
  apply BitVec.eq_of_getLsbD_eq
  intro i hi
  first | (simp [hi]; done) | (simp [hi, BitVec.getLsbD_setWidth, BitVec.getLsbD_signExtend]; done)
/-- the cut to a byte sees the low byte alone -/
theorem fa_byte_low (x : Int32) : (x &&& 255).toInt8 = x.toInt8 := by
  apply Int8.toBitVec_inj.1
  apply BitVec.eq_of_getLsbD_eq
  intro i hi
  have h2 : (255 : Int32).toBitVec.getLsbD i = true := by
    have : ∀ j : Fin 8, (255 : Int32).toBitVec.getLsbD j.val = true := by decide +kernel
    exact this ⟨i, hi⟩
  have h4 : (x &&& 255).toBitVec.getLsbD i = x.toBitVec.getLsbD i := by
    show (x.toBitVec &&& (255 : Int32).toBitVec).getLsbD i = _
    rw [BitVec.getLsbD_and, h2, Bool.and_true]
  have h3 : i < 32 := by omega
  first
    | (show (((x &&& 255).toBitVec).signExtend 8).getLsbD i = (x.toBitVec.signExtend 8).getLsbD i; rw [BitVec.getLsbD_signExtend, BitVec.getLsbD_signExtend, if_pos h3, if_pos h3, h4])
    | (show (((x &&& 255).toBitVec).setWidth 8).getLsbD i = (x.toBitVec.setWidth 8).getLsbD i; rw [BitVec.getLsbD_setWidth, BitVec.getLsbD_setWidth, h4])
    | (simp [hi, h3, h4]; done)
theorem fa_short_low (x : Int32) : (x &&& 65535).toInt16 = x.toInt16 := by
  apply Int16.toBitVec_inj.1
  apply BitVec.eq_of_getLsbD_eq
  intro i hi
  have h2 : (65535 : Int32).toBitVec.getLsbD i = true := by
    have : ∀ j : Fin 16, (65535 : Int32).toBitVec.getLsbD j.val = true := by decide +kernel
    exact this ⟨i, hi⟩
  have h4 : (x &&& 65535).toBitVec.getLsbD i = x.toBitVec.getLsbD i := by
    show (x.toBitVec &&& (65535 : Int32).toBitVec).getLsbD i = _
    rw [BitVec.getLsbD_and, h2, Bool.and_true]
  have h3 : i < 32 := by omega
  first
    | (show (((x &&& 65535).toBitVec).signExtend 16).getLsbD i = (x.toBitVec.signExtend 16).getLsbD i; rw [BitVec.getLsbD_signExtend, BitVec.getLsbD_signExtend, if_pos h3, if_pos h3, h4])
    | (show (((x &&& 65535).toBitVec).setWidth 16).getLsbD i = (x.toBitVec.setWidth 16).getLsbD i; rw [BitVec.getLsbD_setWidth, BitVec.getLsbD_setWidth, h4])
    | (simp [hi, h3, h4]; done)
/-- a small number is its own byte, its own short -/
theorem fa_byte_small {n : Nat} (h : n < 128) : (nI n).toInt8.toInt32 = nI n := by
  have : ∀ j : Fin 128, (nI j.val).toInt8.toInt32 = nI j.val := by decide +kernel
  exact this ⟨n, h⟩
/-! ===== absolute difference ===== -/
theorem fa_absdiff {a b : Nat} (ha : a < 2 ^ 31) (hb : b < 2 ^ 31) : (if nI a < nI b then nI b - nI a else nI a - nI b) = nI (if a < b then b - a else a - b) := by
  by_cases h : a < b
  · rw [if_pos (nI_lt h hb), if_pos h]
    exact pk_sub (Nat.le_of_lt h)
  · rw [if_neg (nI_nlt (Nat.le_of_not_lt h) ha), if_neg h]
    exact pk_sub (Nat.le_of_not_lt h)
/-! ===== an array behind i stores, a conditional store, a row copied ===== -/
/-- f where k < i, what stood there else -/
def fa_fill {α : Type} (f g : Nat → α) (i : Nat) : Nat → α := fun k => if k < i then f k else g k
theorem fa_fill_0 {α : Type} (f g : Nat → α) : fa_fill f g 0 = g := funext fun k => if_neg (Nat.not_lt_zero k)
theorem fa_fill_in {α : Type} {f g : Nat → α} {i k : Nat} (h : k < i) : fa_fill f g i k = f k := if_pos h
theorem fa_fill_out {α : Type} {f g : Nat → α} {i k : Nat} (h : i ≤ k) : fa_fill f g i k = g k := if_neg (Nat.not_lt.mpr h)
theorem fa_fill_succ (f g : Nat → Int32) (i : Nat) : upd (fa_fill f g i) i (f i) = fa_fill f g (i + 1) := by
  funext k
  by_cases e : k = i
  · subst e
    rw [pk_us]
    exact (if_pos (Nat.lt_succ_self k)).symm
  · rw [pk_un e]
    by_cases h : k < i
    · rw [fa_fill_in h, fa_fill_in (Nat.lt_succ_of_lt h)]
    · rw [fa_fill_out (Nat.le_of_not_lt h), fa_fill_out (by omega)]
/-- a store that changes nothing -/
theorem fa_upd_same {f : Nat → Int32} {i : Nat} {x : Int32} (h : f i = x) : upd f i x = f := by
  funext k
  by_cases e : k = i
  · subst e
    rw [pk_us, h]
  · rw [pk_un e]
/-- a store under a condition, told as one -/
theorem fa_upd_if (c : Prop) [Decidable c] (f : Nat → Int32) (i : Nat) (x : Int32) : (if c then upd f i x else f) = upd f i (if c then x else f i) := by
  by_cases h : c
  · rw [if_pos h, if_pos h]
  · rw [if_neg h, if_neg h, fa_upd_same rfl]
/-- two stores at one place, at two -/
theorem fa_upd_twice (f : Nat → Int32) (i : Nat) (x y : Int32) : upd (upd f i x) i y = upd f i y := by
  funext k
  by_cases e : k = i
  · subst e
    rw [pk_us, pk_us]
  · rw [pk_un e, pk_un e, pk_un e]
theorem fa_upd_swap (f : Nat → Int32) {i j : Nat} (h : i ≠ j) (x y : Int32) : upd (upd f i x) j y = upd (upd f j y) i x := by
  funext k
  by_cases e : k = i
  · subst e
    rw [pk_un h, pk_us, pk_us]
  · by_cases e2 : k = j
    · subst e2
      rw [pk_us, pk_un e, pk_us]
    · rw [pk_un e2, pk_un e, pk_un e, pk_un e2]
/-! ===== the first index with a property; a count ===== -/
/-- the first k < n with p k, n if there is none -/
def fa_first (p : Nat → Bool) : Nat → Nat
  | 0 => 0
  | n + 1 => if fa_first p n < n then fa_first p n else if p n then n else n + 1
theorem fa_first_le (p : Nat → Bool) : ∀ n, fa_first p n ≤ n
  | 0 => Nat.le_refl 0
  | n + 1 => by
    have ih := fa_first_le p n
    unfold fa_first
    split
    · omega
    · split
      · omega
      · omega
theorem fa_first_no (p : Nat → Bool) : ∀ n k, k < fa_first p n → p k = false
  | 0, k, h => absurd h (Nat.not_lt_zero k)
  | n + 1, k, h => by
    have ih := fa_first_no p n
    have hl := fa_first_le p n
    unfold fa_first at h
    split at h
    · exact ih k h
    · rename_i h1
      split at h
      · exact ih k (by omega)
      · rename_i h2
        by_cases e : k = n
        · subst e
          exact Bool.eq_false_iff.mpr h2
        · exact ih k (by omega)
theorem fa_first_yes (p : Nat → Bool) : ∀ n, fa_first p n < n → p (fa_first p n) = true
  | 0, h => absurd h (Nat.not_lt_zero _)
  | n + 1, h => by
    have ih := fa_first_yes p n
    have hl := fa_first_le p n
    unfold fa_first at h ⊢
    split at h
    · rename_i h1
      rw [if_pos h1]
      exact ih h1
    · rename_i h1
      rw [if_neg h1]
      split at h
      · rename_i h2
        rw [if_pos h2]
        exact h2
      · omega
/-- how many k < n have p k -/
def fa_cnt (p : Nat → Bool) : Nat → Nat
  | 0 => 0
  | n + 1 => fa_cnt p n + if p n then 1 else 0
theorem fa_cnt_le (p : Nat → Bool) : ∀ n, fa_cnt p n ≤ n
  | 0 => Nat.le_refl 0
  | n + 1 => by
    have ih := fa_cnt_le p n
    unfold fa_cnt
    split
    · omega
    · omega
theorem fa_cnt_yes {p : Nat → Bool} {n : Nat} (h : p n = true) : fa_cnt p (n + 1) = fa_cnt p n + 1 := by rw [fa_cnt, if_pos h]
theorem fa_cnt_no {p : Nat → Bool} {n : Nat} (h : p n = false) : fa_cnt p (n + 1) = fa_cnt p n := by rw [fa_cnt, if_neg (by rw [h]; decide)]; rfl
theorem fa_cnt_cong {p q : Nat → Bool} : ∀ {n : Nat}, (∀ k, k < n → p k = q k) → fa_cnt p n = fa_cnt q n
  | 0, _ => rfl
  | n + 1, h => by rw [fa_cnt, fa_cnt, fa_cnt_cong (fun k hk => h k (Nat.lt_succ_of_lt hk)), h n (Nat.lt_succ_self n)]
/-! ===== an answer carried into a post; a branch on a boolean answer ===== -/
theorem fa_post {α : Type} {P : α → Prop} {x y : α} (h : x = y) (hp : P y) : P x := h ▸ hp
theorem fa_post2 {α β : Type} {P : α → β → Prop} {x y : α} {u v : β} (h : x = y) (h2 : u = v) (hp : P y v) : P x u := h ▸ h2 ▸ hp
theorem fa_bool {r : Int32} {b : Bool} (h : r = if b then 1 else 0) : (r = 0 ↔ b = false) ∧ (¬ r = 0 ↔ b = true) := by
  subst h
  cases b
  · exact ⟨⟨fun _ => rfl, fun _ => rfl⟩, ⟨fun h => absurd rfl h, fun h => absurd h (by decide)⟩⟩
  · exact ⟨⟨fun h => absurd h (by decide), fun h => absurd h (by decide)⟩, ⟨fun _ => rfl, fun _ => by decide⟩⟩
/-- a boolean's narrowing changes nothing -/
theorem fa_bool_and {r : Int32} (h : r = 0 ∨ r = 1) : r &&& 1 = r := by
  rcases h with rfl | rfl
  · decide
  · decide
theorem fa_bool_prop {c : Prop} [Decidable c] {r : Int32} (h : r = if c then 1 else 0) : (r = 0 ↔ ¬ c) ∧ (¬ r = 0 ↔ c) := by
  subst h
  by_cases hc : c
  · rw [if_pos hc]
    exact ⟨⟨fun h => absurd h (by decide), fun h => absurd hc h⟩, ⟨fun _ => hc, fun _ => by decide⟩⟩
  · rw [if_neg hc]
    exact ⟨⟨fun _ => hc, fun _ => rfl⟩, ⟨fun h => absurd rfl h, fun h => absurd h hc⟩⟩

/-! plain facts to paste, each family by itself; over the kit's nI, lN and upd -/
/-! ===== drawers: more things than places ===== -/
theorem fb_holes : ∀ (m n : Nat) (f : Nat → Nat), (∀ i, i < n → f i < m) → (∀ i j, i < j → j < n → f i ≠ f j) → n ≤ m := by
  intro m
  induction m with
  | zero =>
    intro n f h1 _
    rcases Nat.eq_zero_or_pos n with h | h
    · omega
    · exact absurd (h1 0 h) (Nat.not_lt_zero _)
  | succ m ih =>
    intro n f h1 h2
    by_cases hx : ∃ i, i < n ∧ f i = m
    · obtain ⟨a, ha, hfa⟩ := hx
      have hg := ih (n - 1) (fun i => if i < a then f i else f (i + 1)) (by
        intro i hi
        by_cases q : i < a
        · simp only [if_pos q]
          have b1 := h1 i (by omega)
          have b2 := h2 i a q ha
          omega
        · simp only [if_neg q]
          have b1 := h1 (i + 1) (by omega)
          have b2 := h2 a (i + 1) (by omega) (by omega)
          omega) (by
        intro i j hij hj
        by_cases q : i < a
        · by_cases r : j < a
          · simp only [if_pos q, if_pos r]
            exact h2 i j hij (by omega)
          · simp only [if_pos q, if_neg r]
            exact h2 i (j + 1) (by omega) (by omega)
        · have r : ¬ j < a := by omega
          simp only [if_neg q, if_neg r]
          exact h2 (i + 1) (j + 1) (by omega) (by omega))
      omega
    · have hg := ih n f (fun i hi => by
        have b1 := h1 i hi
        have b2 : f i ≠ m := fun e => hx ⟨i, hi, e⟩
        omega) h2
      omega
/-- two of them in one place -/
theorem fb_twice {m n : Nat} {f : Nat → Nat} (h : ∀ i, i < n → f i < m) (hm : m < n) : ∃ i j, i < j ∧ j < n ∧ f i = f j := by
  refine Classical.byContradiction fun hx => ?_
  have := fb_holes m n f h (fun i j hij hj e => hx ⟨i, j, hij, hj, e⟩)
  omega
/-- as many as places, none twice: each place is taken -/
theorem fb_onto {n : Nat} {f : Nat → Nat} (h : ∀ i, i < n → f i < n) (h2 : ∀ i j, i < j → j < n → f i ≠ f j) {y : Nat} (hy : y < n) : ∃ i, i < n ∧ f i = y := by
  refine Classical.byContradiction fun hx => ?_
  have hne : ∀ i, i < n → f i ≠ y := fun i hi e => hx ⟨i, hi, e⟩
  have := fb_holes (n - 1) n (fun i => if f i < y then f i else f i - 1) (by
    intro i hi
    have b1 := h i hi
    have b2 := hne i hi
    by_cases q : f i < y
    · simp only [if_pos q]; omega
    · simp only [if_neg q]; omega) (by
    intro i j hij hj
    have b1 := hne i (by omega)
    have b2 := hne j hj
    have b3 := h2 i j hij hj
    by_cases q : f i < y
    · by_cases r : f j < y
      · simp only [if_pos q, if_pos r]; exact b3
      · simp only [if_pos q, if_neg r]; omega
    · by_cases r : f j < y
      · simp only [if_neg q, if_pos r]; omega
      · simp only [if_neg q, if_neg r]; omega)
  omega
/-! ===== how many places have a property ===== -/
def fb_ct (p : Nat → Bool) : Nat → Nat
  | 0 => 0
  | n + 1 => fb_ct p n + (if p n then 1 else 0)
theorem fb_ct_succ (p : Nat → Bool) (n : Nat) : fb_ct p (n + 1) = fb_ct p n + (if p n then 1 else 0) := rfl
theorem fb_ct_le (p : Nat → Bool) : ∀ n, fb_ct p n ≤ n
  | 0 => Nat.le_refl _
  | n + 1 => by
    have h := fb_ct_le p n
    rw [fb_ct_succ]
    split <;> omega
theorem fb_ct_step (p : Nat → Bool) (m : Nat) : ∀ n, fb_ct p m ≤ fb_ct p (m + n)
  | 0 => Nat.le_refl _
  | n + 1 => by
    have h := fb_ct_step p m n
    show fb_ct p m ≤ fb_ct p (m + n + 1)
    rw [fb_ct_succ]
    omega
theorem fb_ct_mono (p : Nat → Bool) {m n : Nat} (h : m ≤ n) : fb_ct p m ≤ fb_ct p n := by
  have := fb_ct_step p m (n - m)
  rwa [Nat.add_sub_cancel' h] at this
theorem fb_ct_cong {p q : Nat → Bool} : ∀ {n : Nat}, (∀ k, k < n → p k = q k) → fb_ct p n = fb_ct q n
  | 0, _ => rfl
  | n + 1, h => by
    rw [fb_ct_succ, fb_ct_succ, fb_ct_cong (fun k hk => h k (by omega)), h n (by omega)]
/-- one place changed -/
theorem fb_ct_out (p : Nat → Bool) (b : Bool) {i n : Nat} (h : n ≤ i) : fb_ct (fun k => if k = i then b else p k) n = fb_ct p n :=
  fb_ct_cong fun k hk => if_neg (by omega)
theorem fb_ct_upd (p : Nat → Bool) (b : Bool) {i : Nat} : ∀ {n : Nat}, i < n → fb_ct (fun k => if k = i then b else p k) n + (if p i then 1 else 0) = fb_ct p n + (if b then 1 else 0)
  | 0, h => absurd h (Nat.not_lt_zero i)
  | n + 1, h => by
    rw [fb_ct_succ, fb_ct_succ]
    rcases Nat.lt_or_ge i n with q | q
    · have := fb_ct_upd p b q
      have e : (if n = i then b else p n) = p n := if_neg (by omega)
      rw [e]
      omega
    · have e : i = n := by omega
      subst e
      rw [fb_ct_out p b (Nat.le_refl _)]
      simp only [if_true]
      omega
theorem fb_ct_sub {p q : Nat → Bool} : ∀ {n : Nat}, (∀ k, k < n → p k = true → q k = true) → fb_ct p n ≤ fb_ct q n
  | 0, _ => Nat.le_refl _
  | n + 1, h => by
    have h1 := fb_ct_sub (n := n) (p := p) (q := q) (fun k hk => h k (by omega))
    have h2 := h n (by omega)
    rw [fb_ct_succ, fb_ct_succ]
    cases hp : p n <;> cases hq : q n <;> simp_all <;> omega
theorem fb_ct_or {p q : Nat → Bool} : ∀ {n : Nat}, (∀ k, k < n → ¬ (p k = true ∧ q k = true)) → fb_ct (fun k => p k || q k) n = fb_ct p n + fb_ct q n
  | 0, _ => rfl
  | n + 1, h => by
    have h1 := fb_ct_or (n := n) (p := p) (q := q) (fun k hk => h k (by omega))
    have h2 := h n (by omega)
    rw [fb_ct_succ, fb_ct_succ, fb_ct_succ, h1]
    cases hp : p n <;> cases hq : q n <;> simp_all <;> omega
theorem fb_ct_not (p : Nat → Bool) : ∀ n, fb_ct p n + fb_ct (fun k => !p k) n = n
  | 0 => rfl
  | n + 1 => by
    have h := fb_ct_not p n
    rw [fb_ct_succ, fb_ct_succ]
    cases p n <;> simp <;> omega
theorem fb_ct_split (p : Nat → Bool) (m : Nat) : ∀ n, fb_ct p (m + n) = fb_ct p m + fb_ct (fun k => p (m + k)) n
  | 0 => rfl
  | n + 1 => by
    have h := fb_ct_split p m n
    show fb_ct p (m + n + 1) = _
    rw [fb_ct_succ, fb_ct_succ, h, Nat.add_assoc]
theorem fb_ct_zero {p : Nat → Bool} : ∀ {n : Nat}, fb_ct p n = 0 ↔ ∀ k, k < n → p k = false
  | 0 => ⟨fun _ k hk => absurd hk (Nat.not_lt_zero k), fun _ => rfl⟩
  | n + 1 => by
    have h := fb_ct_zero (p := p) (n := n)
    rw [fb_ct_succ]
    constructor
    · intro e k hk
      have e1 : fb_ct p n = 0 := by omega
      rcases Nat.lt_or_ge k n with q | q
      · exact h.mp e1 k q
      · have ek : k = n := by omega
        subst ek
        cases hp : p k
        · rfl
        · simp [hp] at e
    · intro a
      rw [h.mpr (fun k hk => a k (by omega)), a n (by omega)]
      rfl
theorem fb_ct_pos {p : Nat → Bool} {n : Nat} : 0 < fb_ct p n ↔ ∃ k, k < n ∧ p k = true := by
  constructor
  · intro h
    refine Classical.byContradiction fun hx => ?_
    have := fb_ct_zero.mpr (fun k hk => by
      cases hp : p k
      · rfl
      · exact absurd ⟨k, hk, hp⟩ hx : ∀ k, k < n → p k = false)
    omega
  · rintro ⟨k, hk, hp⟩
    rcases Nat.eq_zero_or_pos (fb_ct p n) with e | e
    · have := fb_ct_zero.mp e k hk
      rw [this] at hp
      cases hp
    · exact e
theorem fb_ct_all {p : Nat → Bool} {n : Nat} : fb_ct p n = n ↔ ∀ k, k < n → p k = true := by
  have h := fb_ct_not p n
  constructor
  · intro e k hk
    have z : fb_ct (fun k => !p k) n = 0 := by omega
    have := fb_ct_zero.mp z k hk
    cases hp : p k
    · simp [hp] at this
    · rfl
  · intro a
    have z : fb_ct (fun k => !p k) n = 0 := fb_ct_zero.mpr (fun k hk => by simp [a k hk])
    omega
/-- the k-th place with the property -/
theorem fb_ct_kth {p : Nat → Bool} {k : Nat} : ∀ {n : Nat}, k < fb_ct p n → ∃ i, i < n ∧ p i = true ∧ fb_ct p i = k
  | 0, h => absurd h (Nat.not_lt_zero k)
  | n + 1, h => by
    rcases Nat.lt_or_ge k (fb_ct p n) with q | q
    · obtain ⟨i, h1, h2⟩ := fb_ct_kth q
      exact ⟨i, by omega, h2⟩
    · rw [fb_ct_succ] at h
      cases hp : p n
      · simp [hp] at h; omega
      · simp [hp] at h
        exact ⟨n, by omega, hp, by omega⟩
theorem fb_ct_kth_one {p : Nat → Bool} {i j : Nat} (hi : p i = true) (hj : p j = true) (e : fb_ct p i = fb_ct p j) : i = j := by
  have key : ∀ a b : Nat, a < b → p a = true → fb_ct p a < fb_ct p b := by
    intro a b hab ha
    have h := fb_ct_mono p (show a + 1 ≤ b from hab)
    rw [fb_ct_succ, ha] at h
    simp at h
    omega
  rcases Nat.lt_trichotomy i j with q | q | q
  · have := key i j q hi; omega
  · exact q
  · have := key j i q hj; omega
/-! ===== sums over a range: one place changed, parts, bounds ===== -/
def fb_sm (f : Nat → Nat) : Nat → Nat
  | 0 => 0
  | n + 1 => fb_sm f n + f n
theorem fb_sm_succ (f : Nat → Nat) (n : Nat) : fb_sm f (n + 1) = fb_sm f n + f n := rfl
theorem fb_sm_cong {f g : Nat → Nat} : ∀ {n : Nat}, (∀ k, k < n → f k = g k) → fb_sm f n = fb_sm g n
  | 0, _ => rfl
  | n + 1, h => by rw [fb_sm_succ, fb_sm_succ, fb_sm_cong (fun k hk => h k (by omega)), h n (by omega)]
theorem fb_sm_out (f : Nat → Nat) (v : Nat) {i n : Nat} (h : n ≤ i) : fb_sm (fun k => if k = i then v else f k) n = fb_sm f n :=
  fb_sm_cong fun k hk => if_neg (by omega)
theorem fb_sm_upd (f : Nat → Nat) (v : Nat) {i : Nat} : ∀ {n : Nat}, i < n → fb_sm (fun k => if k = i then v else f k) n + f i = fb_sm f n + v
  | 0, h => absurd h (Nat.not_lt_zero i)
  | n + 1, h => by
    rw [fb_sm_succ, fb_sm_succ]
    rcases Nat.lt_or_ge i n with q | q
    · have := fb_sm_upd f v q
      have e : (if n = i then v else f n) = f n := if_neg (by omega)
      rw [e]
      omega
    · have e : i = n := by omega
      subst e
      rw [fb_sm_out f v (Nat.le_refl _)]
      simp only [if_true]
      omega
theorem fb_sm_add (f g : Nat → Nat) : ∀ n, fb_sm (fun k => f k + g k) n = fb_sm f n + fb_sm g n
  | 0 => rfl
  | n + 1 => by
    have h := fb_sm_add f g n
    rw [fb_sm_succ, fb_sm_succ, fb_sm_succ, h]
    omega
theorem fb_sm_le {f g : Nat → Nat} : ∀ {n : Nat}, (∀ k, k < n → f k ≤ g k) → fb_sm f n ≤ fb_sm g n
  | 0, _ => Nat.le_refl _
  | n + 1, h => by
    have h1 := fb_sm_le (n := n) (f := f) (g := g) (fun k hk => h k (by omega))
    have h2 := h n (by omega)
    rw [fb_sm_succ, fb_sm_succ]
    omega
theorem fb_sm_const (c : Nat) : ∀ n, fb_sm (fun _ => c) n = n * c
  | 0 => by rw [Nat.zero_mul]; rfl
  | n + 1 => by rw [fb_sm_succ, fb_sm_const c n, Nat.succ_mul]
theorem fb_sm_bound {f : Nat → Nat} {c n : Nat} (h : ∀ k, k < n → f k ≤ c) : fb_sm f n ≤ n * c := by
  rw [← fb_sm_const c n]
  exact fb_sm_le h
theorem fb_sm_mono (f : Nat → Nat) (m : Nat) : ∀ n, fb_sm f m ≤ fb_sm f (m + n)
  | 0 => Nat.le_refl _
  | n + 1 => by
    have h := fb_sm_mono f m n
    show fb_sm f m ≤ fb_sm f (m + n + 1)
    rw [fb_sm_succ]
    omega
theorem fb_sm_part (f : Nat → Nat) {i n : Nat} (h : i < n) : fb_sm f i + f i ≤ fb_sm f n := by
  have := fb_sm_mono f (i + 1) (n - (i + 1))
  rw [fb_sm_succ, show i + 1 + (n - (i + 1)) = n by omega] at this
  exact this
theorem fb_sm_split (f : Nat → Nat) (m : Nat) : ∀ n, fb_sm f (m + n) = fb_sm f m + fb_sm (fun k => f (m + k)) n
  | 0 => rfl
  | n + 1 => by
    have h := fb_sm_split f m n
    show fb_sm f (m + n + 1) = _
    rw [fb_sm_succ, fb_sm_succ, h, Nat.add_assoc]
theorem fb_sm_zero {f : Nat → Nat} {n : Nat} (h : fb_sm f n = 0) : ∀ k, k < n → f k = 0 := fun k hk => by
  have := fb_sm_part f hk
  omega
/-- the same over whole numbers -/
def fb_si (f : Nat → Int) : Nat → Int
  | 0 => 0
  | n + 1 => fb_si f n + f n
theorem fb_si_succ (f : Nat → Int) (n : Nat) : fb_si f (n + 1) = fb_si f n + f n := rfl
theorem fb_si_cong {f g : Nat → Int} : ∀ {n : Nat}, (∀ k, k < n → f k = g k) → fb_si f n = fb_si g n
  | 0, _ => rfl
  | n + 1, h => by rw [fb_si_succ, fb_si_succ, fb_si_cong (fun k hk => h k (by omega)), h n (by omega)]
theorem fb_si_out (f : Nat → Int) (v : Int) {i n : Nat} (h : n ≤ i) : fb_si (fun k => if k = i then v else f k) n = fb_si f n :=
  fb_si_cong fun k hk => if_neg (by omega)
theorem fb_si_upd (f : Nat → Int) (v : Int) {i : Nat} : ∀ {n : Nat}, i < n → fb_si (fun k => if k = i then v else f k) n = fb_si f n - f i + v
  | 0, h => absurd h (Nat.not_lt_zero i)
  | n + 1, h => by
    rw [fb_si_succ, fb_si_succ]
    rcases Nat.lt_or_ge i n with q | q
    · have := fb_si_upd f v q
      have e : (if n = i then v else f n) = f n := if_neg (by omega)
      rw [e]
      omega
    · have e : i = n := by omega
      subst e
      rw [fb_si_out f v (Nat.le_refl _)]
      simp only [if_true]
      omega
theorem fb_si_add (f g : Nat → Int) : ∀ n, fb_si (fun k => f k + g k) n = fb_si f n + fb_si g n
  | 0 => rfl
  | n + 1 => by
    have h := fb_si_add f g n
    rw [fb_si_succ, fb_si_succ, fb_si_succ, h]
    omega
theorem fb_si_sub (f g : Nat → Int) : ∀ n, fb_si (fun k => f k - g k) n = fb_si f n - fb_si g n
  | 0 => rfl
  | n + 1 => by
    have h := fb_si_sub f g n
    rw [fb_si_succ, fb_si_succ, fb_si_succ, h]
    omega
theorem fb_si_mul (c : Int) (f : Nat → Int) : ∀ n, fb_si (fun k => c * f k) n = c * fb_si f n
  | 0 => (Int.mul_zero c).symm
  | n + 1 => by
    have h := fb_si_mul c f n
    rw [fb_si_succ, fb_si_succ, h, Int.mul_add]
theorem fb_si_split (f : Nat → Int) (m : Nat) : ∀ n, fb_si f (m + n) = fb_si f m + fb_si (fun k => f (m + k)) n
  | 0 => (Int.add_zero _).symm
  | n + 1 => by
    have h := fb_si_split f m n
    show fb_si f (m + n + 1) = _
    rw [fb_si_succ, fb_si_succ, h, Int.add_assoc]
theorem fb_si_nat (f : Nat → Nat) : ∀ n, fb_si (fun k => (f k : Int)) n = (fb_sm f n : Int)
  | 0 => rfl
  | n + 1 => by
    have h := fb_si_nat f n
    rw [fb_si_succ, fb_sm_succ, h]
    omega
theorem fb_si_bound {f : Nat → Int} {c : Int} (hc : 0 ≤ c) : ∀ {n : Nat}, (∀ k, k < n → -c ≤ f k ∧ f k ≤ c) → -(n * c) ≤ fb_si f n ∧ fb_si f n ≤ n * c
  | 0, _ => by simp [fb_si]
  | n + 1, h => by
    have h1 := fb_si_bound (n := n) (f := f) hc (fun k hk => h k (by omega))
    have h2 := h n (by omega)
    have e : ((n + 1 : Nat) : Int) * c = n * c + c := by rw [Int.natCast_add, Int.add_mul]; simp
    rw [fb_si_succ, e]
    omega
/-! ===== bits of a long that isn't negative ===== -/
theorem fb_andL (a b : Nat) : lN a &&& lN b = lN (a &&& b) := by
  apply Int64.toBitVec_inj.1
  show BitVec.ofNat 64 a &&& BitVec.ofNat 64 b = BitVec.ofNat 64 (a &&& b)
  apply BitVec.eq_of_getLsbD_eq
  intro i hi
  simp [hi]
theorem fb_orL (a b : Nat) : lN a ||| lN b = lN (a ||| b) := by
  apply Int64.toBitVec_inj.1
  show BitVec.ofNat 64 a ||| BitVec.ofNat 64 b = BitVec.ofNat 64 (a ||| b)
  apply BitVec.eq_of_getLsbD_eq
  intro i hi
  simp [hi]
theorem fb_xorL (a b : Nat) : lN a ^^^ lN b = lN (a ^^^ b) := by
  apply Int64.toBitVec_inj.1
  show BitVec.ofNat 64 a ^^^ BitVec.ofNat 64 b = BitVec.ofNat 64 (a ^^^ b)
  apply BitVec.eq_of_getLsbD_eq
  intro i hi
  simp [hi]
theorem fb_xorI (a b : Nat) : nI a ^^^ nI b = nI (a ^^^ b) := by
  apply Int32.toBitVec_inj.1
  show BitVec.ofNat 32 a ^^^ BitVec.ofNat 32 b = BitVec.ofNat 32 (a ^^^ b)
  apply BitVec.eq_of_getLsbD_eq
  intro i hi
  simp [hi]
theorem fb_maskL (n k : Nat) : lN n &&& lN (2 ^ k - 1) = lN (n % 2 ^ k) := by rw [fb_andL, Nat.and_two_pow_sub_one_eq_mod]
theorem fb_or_sumL {a k : Nat} (b : Nat) (h : a < 2 ^ k) : lN (2 ^ k * b) ||| lN a = lN (2 ^ k * b + a) := by rw [fb_orL, Nat.two_pow_add_eq_or_of_lt h]
theorem fb_lN_inj {a b : Nat} (ha : a < 2 ^ 63) (hb : b < 2 ^ 63) : lN a = lN b ↔ a = b := by
  constructor
  · intro h
    have h1 : (BitVec.ofNat 64 a).toNat = (BitVec.ofNat 64 b).toNat := congrArg (fun x : Int64 => x.toBitVec.toNat) h
    rw [BitVec.toNat_ofNat, BitVec.toNat_ofNat, Nat.mod_eq_of_lt (by omega), Nat.mod_eq_of_lt (by omega)] at h1
    exact h1
  · rintro rfl; rfl
theorem fb_bit_nat (n j : Nat) : n &&& 2 ^ j = 0 ↔ n.testBit j = false := by
  constructor
  · intro h
    have h1 : (n &&& 2 ^ j).testBit j = false := by rw [h]; simp
    rw [Nat.testBit_and] at h1
    simpa using h1
  · intro h
    apply Nat.eq_of_testBit_eq
    intro i
    rw [Nat.testBit_and]
    by_cases hi : j = i
    · subst hi; simp [h]
    · first | (simp [Nat.testBit_two_pow, hi]; done) | (simp [Nat.testBit_two_pow_of_ne hi]; done)
/-- one bit of a long -/
theorem fb_bitL {n j : Nat} (hj : j < 63) : lN n &&& lN (2 ^ j) = 0 ↔ n.testBit j = false := by
  have h2 : (2 : Nat) ^ j < 2 ^ 63 := Nat.pow_lt_pow_right (by decide) hj
  have hle : n &&& 2 ^ j ≤ 2 ^ j := Nat.and_le_right
  rw [fb_andL, ← fb_bit_nat, show (0 : Int64) = lN 0 from rfl]
  exact fb_lN_inj (by omega) (by decide)
/-- a bit set, a bit taken off -/
theorem fb_bit_set (n j i : Nat) : (n ||| 2 ^ j).testBit i = (n.testBit i || decide (i = j)) := by
  rw [Nat.testBit_or]
  by_cases h : j = i
  · subst h; simp
  · have h2 : ¬ i = j := fun e => h e.symm
    first | (simp [Nat.testBit_two_pow, h, h2]; done) | (simp [Nat.testBit_two_pow_of_ne h, h2]; done)
theorem fb_bit_flip (n j i : Nat) : (n ^^^ 2 ^ j).testBit i = (n.testBit i ^^ decide (i = j)) := by
  rw [Nat.testBit_xor]
  by_cases h : j = i
  · subst h; simp
  · have h2 : ¬ i = j := fun e => h e.symm
    first | (simp [Nat.testBit_two_pow, h, h2]; done) | (simp [Nat.testBit_two_pow_of_ne h, h2]; done)
/-! ===== a stretch of an array written over by a function ===== -/
def fb_put {α : Type} (f g : Nat → α) (a n : Nat) : Nat → α := fun k => if a ≤ k ∧ k < a + n then g (k - a) else f k
theorem fb_put_0 {α : Type} (f g : Nat → α) (a : Nat) : fb_put f g a 0 = f := funext fun k => if_neg (by omega)
theorem fb_put_in {α : Type} {f g : Nat → α} {a n k : Nat} (h1 : a ≤ k) (h2 : k < a + n) : fb_put f g a n k = g (k - a) := if_pos ⟨h1, h2⟩
theorem fb_put_out {α : Type} {f g : Nat → α} {a n k : Nat} (h : k < a ∨ a + n ≤ k) : fb_put f g a n k = f k := if_neg (by omega)
theorem fb_put_succ (f g : Nat → Int32) (a n : Nat) : upd (fb_put f g a n) (a + n) (g n) = fb_put f g a (n + 1) := by
  funext k
  by_cases h : k = a + n
  · subst h
    simp [upd, fb_put]
  · by_cases h1 : a ≤ k ∧ k < a + n
    · have h2 : a ≤ k ∧ k < a + (n + 1) := by omega
      simp only [upd, fb_put, if_neg h, if_pos h1, if_pos h2]
    · have h2 : ¬ (a ≤ k ∧ k < a + (n + 1)) := by omega
      simp only [upd, fb_put, if_neg h, if_neg h1, if_neg h2]
/-- .. from the far end down -/
theorem fb_put_down (f g : Nat → Int32) {a n m : Nat} (h : m < n) : upd (fb_put f (fun k => g (k + (m + 1))) (a + (m + 1)) (n - (m + 1))) (a + m) (g m) = fb_put f (fun k => g (k + m)) (a + m) (n - m) := by
  funext k
  by_cases h0 : k = a + m
  · subst h0
    simp only [upd, if_true]
    rw [fb_put_in (by omega) (by omega)]
    exact congrArg g (by omega)
  · simp only [upd, if_neg h0]
    by_cases h1 : a + (m + 1) ≤ k ∧ k < a + (m + 1) + (n - (m + 1))
    · rw [fb_put_in h1.1 h1.2, fb_put_in (by omega) (by omega)]
      exact congrArg g (by omega)
    · rw [fb_put_out (by omega), fb_put_out (by omega)]
theorem fb_put_cong {α : Type} {f f2 g g2 : Nat → α} {a n : Nat} (hf : ∀ k, (k < a ∨ a + n ≤ k) → f k = f2 k) (hg : ∀ k, k < n → g k = g2 k) : fb_put f g a n = fb_put f2 g2 a n := by
  funext k
  by_cases h : a ≤ k ∧ k < a + n
  · rw [fb_put_in h.1 h.2, fb_put_in h.1 h.2, hg _ (by omega)]
  · rw [fb_put_out (by omega), fb_put_out (by omega), hf _ (by omega)]
/-! ===== the least, the first, the best so far; that there is one alone ===== -/
theorem fb_first {p : Nat → Prop} [DecidablePred p] : ∀ {n : Nat}, (∃ i, i < n ∧ p i) → ∃ i, i < n ∧ p i ∧ ∀ j, j < i → ¬ p j
  | 0, h => by obtain ⟨i, hi, -⟩ := h; exact absurd hi (Nat.not_lt_zero i)
  | n + 1, h => by
    by_cases q : ∃ i, i < n ∧ p i
    · obtain ⟨i, h1, h2⟩ := fb_first q
      exact ⟨i, by omega, h2⟩
    · obtain ⟨i, h1, h2⟩ := h
      have e : i = n := by
        rcases Nat.lt_or_ge i n with r | r
        · exact absurd ⟨i, r, h2⟩ q
        · omega
      subst e
      exact ⟨i, by omega, h2, fun j hj hp => q ⟨j, hj, hp⟩⟩
theorem fb_first_one {p : Nat → Prop} {i j : Nat} (hi : p i) (hi2 : ∀ k, k < i → ¬ p k) (hj : p j) (hj2 : ∀ k, k < j → ¬ p k) : i = j := by
  rcases Nat.lt_trichotomy i j with q | q | q
  · exact absurd hi (hj2 i q)
  · exact q
  · exact absurd hj (hi2 j q)
theorem fb_last {p : Nat → Prop} [DecidablePred p] : ∀ {n : Nat}, (∃ i, i < n ∧ p i) → ∃ i, i < n ∧ p i ∧ ∀ j, i < j → j < n → ¬ p j
  | 0, h => by obtain ⟨i, hi, -⟩ := h; exact absurd hi (Nat.not_lt_zero i)
  | n + 1, h => by
    by_cases q : p n
    · exact ⟨n, by omega, q, fun j h1 h2 => by omega⟩
    · obtain ⟨i, h1, h2⟩ := h
      have hi : i < n := by
        rcases Nat.lt_or_ge i n with r | r
        · exact r
        · have e : i = n := by omega
          subst e
          exact absurd h2 q
      obtain ⟨i2, a1, a2, a3⟩ := fb_last (n := n) ⟨i, hi, h2⟩
      refine ⟨i2, by omega, a2, fun j b1 b2 => ?_⟩
      rcases Nat.lt_or_ge j n with r | r
      · exact a3 j b1 r
      · have e : j = n := by omega
        subst e
        exact q
/-- the first greatest -/
theorem fb_best (f : Nat → Int) : ∀ {n : Nat}, 0 < n → ∃ i, i < n ∧ (∀ j, j < n → f j ≤ f i) ∧ ∀ j, j < i → f j < f i
  | 0, h => absurd h (Nat.lt_irrefl 0)
  | 1, _ => ⟨0, by omega, fun j hj => by have e : j = 0 := by omega
                                         subst e; exact Int.le_refl _, fun j hj => absurd hj (Nat.not_lt_zero j)⟩
  | n + 2, _ => by
    obtain ⟨i, h1, h2, h3⟩ := fb_best f (n := n + 1) (by omega)
    by_cases q : f i < f (n + 1)
    · refine ⟨n + 1, by omega, fun j hj => ?_, fun j hj => ?_⟩
      · rcases Nat.lt_or_ge j (n + 1) with r | r
        · have := h2 j r; omega
        · have e : j = n + 1 := by omega
          subst e; exact Int.le_refl _
      · have := h2 j hj; omega
    · refine ⟨i, by omega, fun j hj => ?_, h3⟩
      rcases Nat.lt_or_ge j (n + 1) with r | r
      · exact h2 j r
      · have e : j = n + 1 := by omega
        subst e; omega
theorem fb_best_one {f : Nat → Int} {n i j : Nat} (hi : i < n) (hi2 : ∀ k, k < n → f k ≤ f i) (hi3 : ∀ k, k < i → f k < f i) (hj : j < n) (hj2 : ∀ k, k < n → f k ≤ f j) (hj3 : ∀ k, k < j → f k < f j) : i = j := by
  rcases Nat.lt_trichotomy i j with q | q | q
  · have a := hj3 i q
    have b := hi2 j hj
    omega
  · exact q
  · have a := hi3 j q
    have b := hj2 i hi
    omega
/-- the first least -/
theorem fb_low (f : Nat → Int) {n : Nat} (h : 0 < n) : ∃ i, i < n ∧ (∀ j, j < n → f i ≤ f j) ∧ ∀ j, j < i → f i < f j := by
  obtain ⟨i, h1, h2, h3⟩ := fb_best (fun k => -f k) h
  exact ⟨i, h1, fun j hj => by have := h2 j hj; omega, fun j hj => by have := h3 j hj; omega⟩
/-! ===== signed ints as whole numbers, within bounds ===== -/
theorem fb_rng (x : Int32) : -2147483648 ≤ x.toInt ∧ x.toInt < 2147483648 := by
  have h1 := Int32.le_toInt x
  have h2 := Int32.toInt_lt x
  omega
theorem fb_bmod {z : Int} (h1 : -2147483648 ≤ z) (h2 : z < 2147483648) : z.bmod (2 ^ 32) = z := by
  rw [Int.bmod_eq_of_le (by omega) (by omega)]
theorem fb_addI {x y : Int32} (h1 : -2147483648 ≤ x.toInt + y.toInt) (h2 : x.toInt + y.toInt < 2147483648) : (x + y).toInt = x.toInt + y.toInt := by
  rw [Int32.toInt_add, fb_bmod h1 h2]
theorem fb_subI {x y : Int32} (h1 : -2147483648 ≤ x.toInt - y.toInt) (h2 : x.toInt - y.toInt < 2147483648) : (x - y).toInt = x.toInt - y.toInt := by
  rw [Int32.toInt_sub, fb_bmod h1 h2]
theorem fb_mulI {x y : Int32} (h1 : -2147483648 ≤ x.toInt * y.toInt) (h2 : x.toInt * y.toInt < 2147483648) : (x * y).toInt = x.toInt * y.toInt := by
  rw [Int32.toInt_mul, fb_bmod h1 h2]
theorem fb_negI {x : Int32} (h : x.toInt ≠ -2147483648) : (-x).toInt = -x.toInt := by
  have := fb_rng x
  rw [Int32.toInt_neg, fb_bmod (by omega) (by omega)]
theorem fb_ofI {z : Int} (h1 : -2147483648 ≤ z) (h2 : z < 2147483648) : (Int32.ofInt z).toInt = z := by
  rw [Int32.toInt_ofInt, fb_bmod h1 h2]
theorem fb_asI (x : Int32) : Int32.ofInt x.toInt = x := Int32.ofInt_toInt x
theorem fb_rngL (x : Int64) : -9223372036854775808 ≤ x.toInt ∧ x.toInt < 9223372036854775808 := by
  have h1 := Int64.le_toInt x
  have h2 := Int64.toInt_lt x
  omega
theorem fb_bmodL {z : Int} (h1 : -9223372036854775808 ≤ z) (h2 : z < 9223372036854775808) : z.bmod (2 ^ 64) = z := by
  rw [Int.bmod_eq_of_le (by omega) (by omega)]
theorem fb_addL {x y : Int64} (h1 : -9223372036854775808 ≤ x.toInt + y.toInt) (h2 : x.toInt + y.toInt < 9223372036854775808) : (x + y).toInt = x.toInt + y.toInt := by
  rw [Int64.toInt_add, fb_bmodL h1 h2]
theorem fb_subL {x y : Int64} (h1 : -9223372036854775808 ≤ x.toInt - y.toInt) (h2 : x.toInt - y.toInt < 9223372036854775808) : (x - y).toInt = x.toInt - y.toInt := by
  rw [Int64.toInt_sub, fb_bmodL h1 h2]
theorem fb_mulL {x y : Int64} (h1 : -9223372036854775808 ≤ x.toInt * y.toInt) (h2 : x.toInt * y.toInt < 9223372036854775808) : (x * y).toInt = x.toInt * y.toInt := by
  rw [Int64.toInt_mul, fb_bmodL h1 h2]
/-! ===== cuts of what is narrow already ===== -/
theorem fb_byte {x : Int32} (h1 : -128 ≤ x.toInt) (h2 : x.toInt < 128) : x.toInt8.toInt32 = x := by
  apply Int32.toInt_inj.1
  rw [Int8.toInt_toInt32, Int32.toInt_toInt8, Int.bmod_eq_of_le (by omega) (by omega)]
theorem fb_short {x : Int32} (h1 : -32768 ≤ x.toInt) (h2 : x.toInt < 32768) : x.toInt16.toInt32 = x := by
  apply Int32.toInt_inj.1
  rw [Int16.toInt_toInt32, Int32.toInt_toInt16, Int.bmod_eq_of_le (by omega) (by omega)]
theorem fb_byte_rng (x : Int32) : -128 ≤ x.toInt8.toInt32.toInt ∧ x.toInt8.toInt32.toInt < 128 := by
  rw [Int8.toInt_toInt32]
  have h1 := Int8.le_toInt x.toInt8
  have h2 := Int8.toInt_lt x.toInt8
  omega
theorem fb_short_rng (x : Int32) : -32768 ≤ x.toInt16.toInt32.toInt ∧ x.toInt16.toInt32.toInt < 32768 := by
  rw [Int16.toInt_toInt32]
  have h1 := Int16.le_toInt x.toInt16
  have h2 := Int16.toInt_lt x.toInt16
  omega
theorem fb_byte_twice (x : Int32) : x.toInt8.toInt32.toInt8.toInt32 = x.toInt8.toInt32 := fb_byte (fb_byte_rng x).1 (fb_byte_rng x).2
theorem fb_short_twice (x : Int32) : x.toInt16.toInt32.toInt16.toInt32 = x.toInt16.toInt32 := fb_short (fb_short_rng x).1 (fb_short_rng x).2
theorem fb_char {n : Nat} (h : n < 65536) : (nI n).toUInt32.toUInt16.toUInt32.toInt32 = nI n := by
  apply Int32.toBitVec_inj.1
  apply BitVec.eq_of_toNat_eq
  have e1 : (nI n).toBitVec.toNat = n := by
    show (BitVec.ofNat 32 n).toNat = n
    rw [BitVec.toNat_ofNat, Nat.mod_eq_of_lt (by omega)]
  have e2 : ((nI n).toUInt32.toUInt16.toUInt32).toNat = n := by
    rw [UInt16.toNat_toUInt32, UInt32.toNat_toUInt16]
    show (nI n).toBitVec.toNat % 2 ^ 16 = n
    rw [e1, Nat.mod_eq_of_lt (by omega)]
  rw [e1]
  exact e2
end
section
/-! numbers, masks; branches by naturals -/
abbrev zI (z : Int) : Int32 := Int32.ofInt z
theorem zI_nI (n : Nat) : nI n = zI (n : Int) := by
  apply Int32.toBitVec_inj.mp
  show BitVec.ofNat 32 n = BitVec.ofInt 32 (n : Int)
  simp
theorem zI_add (a b : Int) : zI a + zI b = zI (a + b) := (Int32.ofInt_add a b).symm
theorem zI_sub (a b : Int) : zI a - zI b = zI (a - b) := (Int32.ofInt_sub a b).symm
theorem zI_le {a b : Int} (ha : -2147483648 ≤ a ∧ a < 2147483648) (hb : -2147483648 ≤ b ∧ b < 2147483648) : zI a ≤ zI b ↔ a ≤ b := by
  rw [fa_le, fb_ofI ha.1 ha.2, fb_ofI hb.1 hb.2]
theorem zI_lt {a b : Int} (ha : -2147483648 ≤ a ∧ a < 2147483648) (hb : -2147483648 ≤ b ∧ b < 2147483648) : zI a < zI b ↔ a < b := by
  rw [fa_lt, fb_ofI ha.1 ha.2, fb_ofI hb.1 hb.2]
theorem zI_eq {a b : Int} (ha : -2147483648 ≤ a ∧ a < 2147483648) (hb : -2147483648 ≤ b ∧ b < 2147483648) : zI a = zI b ↔ a = b := by
  rw [fa_eq, fb_ofI ha.1 ha.2, fb_ofI hb.1 hb.2]
/-- a set of the first n numbers, as a number -/
def msk (p : Nat → Bool) : Nat → Nat
  | 0 => 0
  | n + 1 => msk p n ||| (if p n then 2 ^ n else 0)
theorem msk_bit (p : Nat → Bool) : ∀ n i, (msk p n).testBit i = (decide (i < n) && p i)
  | 0, i => by simp [msk]
  | n + 1, i => by
    rw [msk, Nat.testBit_or, msk_bit p n i]
    by_cases hp : p n = true
    · rw [if_pos hp, Nat.testBit_two_pow]
      by_cases h1 : i < n
      · have h2 : ¬ n = i := by omega
        simp [h1, Nat.lt_succ_of_lt h1, h2]
      · by_cases h2 : n = i
        · subst h2; simp [hp]
        · have h3 : ¬ i < n + 1 := by omega
          simp [h1, h2, h3]
    · rw [if_neg hp, Nat.zero_testBit]
      by_cases h1 : i < n
      · simp [h1, Nat.lt_succ_of_lt h1]
      · by_cases h2 : n = i
        · subst h2; simp [hp]
        · have h3 : ¬ i < n + 1 := by omega
          simp [h1, h3]
theorem msk_lt (p : Nat → Bool) : ∀ n, msk p n < 2 ^ n
  | 0 => by simp [msk]
  | n + 1 => by
    rw [msk]
    refine Nat.or_lt_two_pow (Nat.lt_trans (msk_lt p n) (Nat.pow_lt_pow_succ (by omega))) ?_
    split
    · exact Nat.pow_lt_pow_succ (by omega)
    · exact Nat.two_pow_pos _
theorem bits_ext {a b n : Nat} (ha : a < 2 ^ n) (hb : b < 2 ^ n) (h : ∀ i, i < n → a.testBit i = b.testBit i) : a = b := by
  apply Nat.eq_of_testBit_eq
  intro i
  by_cases hi : i < n
  · exact h i hi
  · rw [Nat.testBit_lt_two_pow (Nat.lt_of_lt_of_le ha (Nat.pow_le_pow_right (by omega) (by omega))), Nat.testBit_lt_two_pow (Nat.lt_of_lt_of_le hb (Nat.pow_le_pow_right (by omega) (by omega)))]
theorem msk_ext {a n : Nat} {p : Nat → Bool} (ha : a < 2 ^ n) (h : ∀ i, i < n → a.testBit i = p i) : a = msk p n :=
  bits_ext ha (msk_lt p n) (fun i hi => by rw [h i hi, msk_bit, decide_eq_true hi, Bool.true_and])
theorem msk_cong {p q : Nat → Bool} {n : Nat} (h : ∀ i, i < n → p i = q i) : msk p n = msk q n :=
  bits_ext (msk_lt p n) (msk_lt q n) (fun i hi => by rw [msk_bit, msk_bit, h i hi])
theorem sh1 {k : Nat} (hk : k < 31) : (1 : Int32) <<< (nI k &&& 31) = nI (2 ^ k) := by
  have h := pk_shlN (n := 1) (nI k &&& 31) k (s_l k (by omega)) (by have : 2 ^ k < 2 ^ 31 := Nat.pow_lt_pow_right (by omega) hk; omega)
  rw [Nat.one_mul] at h
  exact h
/-- bit n of x -/
abbrev hb (x n : Int32) : Prop := (x >>> (n &&& 31)) &&& 1 = 1
theorem shr_bit {a k : Nat} (ha : a < 2 ^ 31) (hk : k < 31) : (nI a >>> (nI k &&& 31)) &&& 1 = nI (if a.testBit k then 1 else 0) := by
  rw [pk_shrN ha (nI k &&& 31) k (s_l k (by omega))]
  show nI (a / 2 ^ k) &&& nI 1 = _
  rw [fa_and, Nat.and_one_is_mod, Nat.testBit_eq_decide_div_mod_eq]
  congr 1
  by_cases h : a / 2 ^ k % 2 = 1
  · simp [h]
  · simp [h]; omega
theorem hb_nI {a k : Nat} (ha : a < 2 ^ 31) (hk : k < 31) : hb (nI a) (nI k) ↔ a.testBit k = true := by
  unfold hb
  rw [shr_bit ha hk]
  show nI _ = nI 1 ↔ _
  rw [nI_eq (by split <;> omega) (by omega)]
  by_cases h : a.testBit k = true
  · simp [h]
  · simp [h]
section BR
variable {M : ax_M} {R : Room} {E : ax_Et} {Z : ax_Zt} {h : ax_H} {kc ks pc : Nat} {ls : List (Nat × Value)} {st : List Value}
theorem awn_ge {x y : Int32} {off : Int} {tgt : Nat} (a b : Nat) (hd : decode M.2.1 pc = .ok (.if_icmp .ge off, 3)) (ht : (pc : Int) + off = (tgt : Int)) (hx : x = nI a) (hy : y = nI b) (ha : a < 2 ^ 31) (hb : b < 2 ^ 31) (kt : b ≤ a → AW M R E Z h kc ks tgt ls st) (kf : a < b → AW M R E Z h kc ks (pc + 3) ls st) : AW M R E Z h kc ks pc ls (.int y :: .int x :: st) := by
  subst hx; subst hy
  exact aw_icmp_ge hd ht (fun q => kt ((nI_leI hb ha).mp q)) (fun q => kf (by have h9 : ¬ (b ≤ a) := (fun z => q ((nI_leI hb ha).mpr z)); omega))
theorem awn_lt {x y : Int32} {off : Int} {tgt : Nat} (a b : Nat) (hd : decode M.2.1 pc = .ok (.if_icmp .lt off, 3)) (ht : (pc : Int) + off = (tgt : Int)) (hx : x = nI a) (hy : y = nI b) (ha : a < 2 ^ 31) (hb : b < 2 ^ 31) (kt : a < b → AW M R E Z h kc ks tgt ls st) (kf : b ≤ a → AW M R E Z h kc ks (pc + 3) ls st) : AW M R E Z h kc ks pc ls (.int y :: .int x :: st) := by
  subst hx; subst hy
  exact aw_icmp_lt hd ht (fun q => kt ((nI_ltI ha hb).mp q)) (fun q => kf (by have h9 : ¬ (a < b) := (fun z => q ((nI_ltI ha hb).mpr z)); omega))
theorem awn_gt {x y : Int32} {off : Int} {tgt : Nat} (a b : Nat) (hd : decode M.2.1 pc = .ok (.if_icmp .gt off, 3)) (ht : (pc : Int) + off = (tgt : Int)) (hx : x = nI a) (hy : y = nI b) (ha : a < 2 ^ 31) (hb : b < 2 ^ 31) (kt : b < a → AW M R E Z h kc ks tgt ls st) (kf : a ≤ b → AW M R E Z h kc ks (pc + 3) ls st) : AW M R E Z h kc ks pc ls (.int y :: .int x :: st) := by
  subst hx; subst hy
  exact aw_icmp_gt hd ht (fun q => kt ((nI_ltI hb ha).mp q)) (fun q => kf (by have h9 : ¬ (b < a) := (fun z => q ((nI_ltI hb ha).mpr z)); omega))
theorem awn_le {x y : Int32} {off : Int} {tgt : Nat} (a b : Nat) (hd : decode M.2.1 pc = .ok (.if_icmp .le off, 3)) (ht : (pc : Int) + off = (tgt : Int)) (hx : x = nI a) (hy : y = nI b) (ha : a < 2 ^ 31) (hb : b < 2 ^ 31) (kt : a ≤ b → AW M R E Z h kc ks tgt ls st) (kf : b < a → AW M R E Z h kc ks (pc + 3) ls st) : AW M R E Z h kc ks pc ls (.int y :: .int x :: st) := by
  subst hx; subst hy
  exact aw_icmp_le hd ht (fun q => kt ((nI_leI ha hb).mp q)) (fun q => kf (by have h9 : ¬ (a ≤ b) := (fun z => q ((nI_leI ha hb).mpr z)); omega))
theorem awn_eq {x y : Int32} {off : Int} {tgt : Nat} (a b : Nat) (hd : decode M.2.1 pc = .ok (.if_icmp .eq off, 3)) (ht : (pc : Int) + off = (tgt : Int)) (hx : x = nI a) (hy : y = nI b) (ha : a < 2 ^ 31) (hb : b < 2 ^ 31) (kt : a = b → AW M R E Z h kc ks tgt ls st) (kf : ¬ a = b → AW M R E Z h kc ks (pc + 3) ls st) : AW M R E Z h kc ks pc ls (.int y :: .int x :: st) := by
  subst hx; subst hy
  exact aw_icmp_eq hd ht (fun q => kt ((nI_eq ha hb).mp q)) (fun q => kf (fun z => q ((nI_eq ha hb).mpr z)))
theorem awn_ne {x y : Int32} {off : Int} {tgt : Nat} (a b : Nat) (hd : decode M.2.1 pc = .ok (.if_icmp .ne off, 3)) (ht : (pc : Int) + off = (tgt : Int)) (hx : x = nI a) (hy : y = nI b) (ha : a < 2 ^ 31) (hb : b < 2 ^ 31) (kt : ¬ a = b → AW M R E Z h kc ks tgt ls st) (kf : a = b → AW M R E Z h kc ks (pc + 3) ls st) : AW M R E Z h kc ks pc ls (.int y :: .int x :: st) := by
  subst hx; subst hy
  exact aw_icmp_ne hd ht (fun q => kt (fun z => q ((nI_eq ha hb).mpr z))) (fun q => kf ((nI_eq ha hb).mp q))
end BR
/-- a loop: i goes up from i0 to n; X is what else changes -/
theorem lp_i {X : Type} (G V : Nat → X → Prop) (n : Nat) (hx : ∀ x, V n x → G n x) (hs : ∀ i x, i < n → V i x → (∀ x', V (i + 1) x' → G (i + 1) x') → G i x) : ∀ (k i : Nat) (x : X), i + k = n → V i x → G i x
  | 0, i, x, hk, hv => by
    have e : i = n := by omega
    subst e
    exact hx x hv
  | k + 1, i, x, hk, hv => hs i x (by omega) hv (fun x' hv' => lp_i G V n hx hs k (i + 1) x' (by omega) hv')
/-- a loop: i goes down to 0 (the place i + 1 stands for the counter i) -/
theorem lp_d {X : Type} (G V : Nat → X → Prop) (hx : ∀ x, V 0 x → G 0 x) (hs : ∀ i x, V (i + 1) x → (∀ x', V i x' → G i x') → G (i + 1) x) : ∀ (i : Nat) (x : X), V i x → G i x
  | 0, x, hv => hx x hv
  | i + 1, x, hv => hs i x hv (fun x' hv' => lp_d G V hx hs i x' hv')
set_option maxRecDepth 20000 in
theorem wc_H_max : Cond.code Lib.Math.max.name Lib.Math.max.code 2 (some .int) ∈ ax_T := ax_in 368 rfl rfl
set_option maxRecDepth 20000 in
theorem wc_H_min : Cond.code Lib.Math.min.name Lib.Math.min.code 2 (some .int) ∈ ax_T := ax_in 416 rfl rfl
set_option maxRecDepth 20000 in
theorem wc_O : Cond.code Lib.objectInit ⟨#[0xb1]⟩ 1 none ∈ ax_T := ax_in 46 rfl rfl
set_option maxHeartbeats 1000000 in
set_option maxRecDepth 20000 in
theorem c_V_within (h : ax_H) (v lo hi : Int32) : AD m_V_within r_V_within h [.int v, .int lo, .int hi] (some (.int (b2 (lo ≤ v ∧ v ≤ hi)))) h := by
  refine am_of (by decide) rfl (by first | decide | exact Nat.le_of_ble_eq_true rfl) ?_
  refine aw_iload_n (pc := 0) d_V_within_0 rfl rfl ?_
  refine aw_iload_n (pc := 1) d_V_within_1 rfl rfl ?_
  refine aw_icmp_lt (pc := 2) (tgt := 14) d_V_within_2 (by decide) (fun h2 => ?_) (fun h2 => ?_)
  · refine aw_iconst (pc := 14) (v := 0) d_V_within_14 (by decide) ?_
    refine aw_zret (pc := 15) d_V_within_15 rfl ft_0 ?_
    exact ⟨by rw [b2_0 (fun z => absurd z.1 (Int32.not_le.mpr h2))], rfl⟩
  · refine aw_iload_n (pc := 5) d_V_within_5 rfl rfl ?_
    refine aw_iload_n (pc := 6) d_V_within_6 rfl rfl ?_
    refine aw_icmp_gt (pc := 7) (tgt := 14) d_V_within_7 (by decide) (fun h7 => ?_) (fun h7 => ?_)
    · refine aw_iconst (pc := 14) (v := 0) d_V_within_14 (by decide) ?_
      refine aw_zret (pc := 15) d_V_within_15 rfl ft_0 ?_
      exact ⟨by rw [b2_0 (fun z => absurd z.2 (Int32.not_le.mpr h7))], rfl⟩
    · refine aw_iconst (pc := 10) (v := 1) d_V_within_10 (by decide) ?_
      refine aw_goto (pc := 11) (tgt := 15) d_V_within_11 (by decide) ?_
      refine aw_zret (pc := 15) d_V_within_15 rfl ft_1 ?_
      exact ⟨by rw [b2_1 ⟨Int32.not_lt.mp h2, Int32.not_lt.mp h7⟩], rfl⟩
set_option maxHeartbeats 1000000 in
set_option maxRecDepth 20000 in
theorem c_M_in (h : ax_H) (v lo hi : Int32) : AD m_M_in r_M_in h [.int v, .int lo, .int hi] (some (.int (b2 (lo ≤ v ∧ v ≤ hi)))) h := by
  refine am_of (by decide) rfl (by first | decide | exact Nat.le_of_ble_eq_true rfl) ?_
  refine aw_iload_n (pc := 0) d_M_in_0 rfl rfl ?_
  refine aw_iload_n (pc := 1) d_M_in_1 rfl rfl ?_
  refine aw_icmp_lt (pc := 2) (tgt := 14) d_M_in_2 (by decide) (fun h2 => ?_) (fun h2 => ?_)
  · refine aw_iconst (pc := 14) (v := 0) d_M_in_14 (by decide) ?_
    refine aw_zret (pc := 15) d_M_in_15 rfl ft_0 ?_
    exact ⟨by rw [b2_0 (fun z => absurd z.1 (Int32.not_le.mpr h2))], rfl⟩
  · refine aw_iload_n (pc := 5) d_M_in_5 rfl rfl ?_
    refine aw_iload_n (pc := 6) d_M_in_6 rfl rfl ?_
    refine aw_icmp_gt (pc := 7) (tgt := 14) d_M_in_7 (by decide) (fun h7 => ?_) (fun h7 => ?_)
    · refine aw_iconst (pc := 14) (v := 0) d_M_in_14 (by decide) ?_
      refine aw_zret (pc := 15) d_M_in_15 rfl ft_0 ?_
      exact ⟨by rw [b2_0 (fun z => absurd z.2 (Int32.not_le.mpr h7))], rfl⟩
    · refine aw_iconst (pc := 10) (v := 1) d_M_in_10 (by decide) ?_
      refine aw_goto (pc := 11) (tgt := 15) d_M_in_11 (by decide) ?_
      refine aw_zret (pc := 15) d_M_in_15 rfl ft_1 ?_
      exact ⟨by rw [b2_1 ⟨Int32.not_lt.mp h2, Int32.not_lt.mp h7⟩], rfl⟩
set_option maxHeartbeats 1000000 in
set_option maxRecDepth 20000 in
theorem c_V_hasBit (h : ax_H) (x n : Int32) : AD m_V_hasBit r_V_hasBit h [.int x, .int n] (some (.int (b2 (hb x n)))) h := by
  refine am_of (by decide) rfl (by first | decide | exact Nat.le_of_ble_eq_true rfl) ?_
  refine aw_iload_n (pc := 0) d_V_hasBit_0 rfl rfl ?_
  refine aw_iload_n (pc := 1) d_V_hasBit_1 rfl rfl ?_
  refine aw_ishr (pc := 2) d_V_hasBit_2 ?_
  refine aw_iconst (pc := 3) (v := 1) d_V_hasBit_3 (by decide) ?_
  refine aw_iand (pc := 4) d_V_hasBit_4 ?_
  refine aw_iconst (pc := 5) (v := 1) d_V_hasBit_5 (by decide) ?_
  refine aw_icmp_ne (pc := 6) (tgt := 13) d_V_hasBit_6 (by decide) (fun h6 => ?_) (fun h6 => ?_)
  · refine aw_iconst (pc := 13) (v := 0) d_V_hasBit_13 (by decide) ?_
    refine aw_zret (pc := 14) d_V_hasBit_14 rfl ft_0 ?_
    exact ⟨by rw [b2_0 (show ¬ hb x n from h6)], rfl⟩
  · refine aw_iconst (pc := 9) (v := 1) d_V_hasBit_9 (by decide) ?_
    refine aw_goto (pc := 10) (tgt := 14) d_V_hasBit_10 (by decide) ?_
    refine aw_zret (pc := 14) d_V_hasBit_14 rfl ft_1 ?_
    exact ⟨by rw [b2_1 (show hb x n from h6)], rfl⟩
set_option maxHeartbeats 1000000 in
set_option maxRecDepth 20000 in
theorem c_M_has (h : ax_H) (x n : Int32) : AD m_M_has r_M_has h [.int x, .int n] (some (.int (b2 (hb x n)))) h := by
  refine am_of (by decide) rfl (by first | decide | exact Nat.le_of_ble_eq_true rfl) ?_
  refine aw_iload_n (pc := 0) d_M_has_0 rfl rfl ?_
  refine aw_iload_n (pc := 1) d_M_has_1 rfl rfl ?_
  refine aw_ishr (pc := 2) d_M_has_2 ?_
  refine aw_iconst (pc := 3) (v := 1) d_M_has_3 (by decide) ?_
  refine aw_iand (pc := 4) d_M_has_4 ?_
  refine aw_iconst (pc := 5) (v := 1) d_M_has_5 (by decide) ?_
  refine aw_icmp_ne (pc := 6) (tgt := 13) d_M_has_6 (by decide) (fun h6 => ?_) (fun h6 => ?_)
  · refine aw_iconst (pc := 13) (v := 0) d_M_has_13 (by decide) ?_
    refine aw_zret (pc := 14) d_M_has_14 rfl ft_0 ?_
    exact ⟨by rw [b2_0 (show ¬ hb x n from h6)], rfl⟩
  · refine aw_iconst (pc := 9) (v := 1) d_M_has_9 (by decide) ?_
    refine aw_goto (pc := 10) (tgt := 14) d_M_has_10 (by decide) ?_
    refine aw_zret (pc := 14) d_M_has_14 rfl ft_1 ?_
    exact ⟨by rw [b2_1 (show hb x n from h6)], rfl⟩
end
section
/-! arrays of naturals, the town -/
def lst (n : Nat) (f : Nat → Nat) : List Int32 := (List.range n).map (fun j => nI (f j))
theorem lst_len (n : Nat) (f : Nat → Nat) : (lst n f).length = n := by simp [lst]
theorem lst_at {n : Nat} {f : Nat → Nat} {j : Nat} (h : j < n) : (lst n f)[j]? = some (nI (f j)) := by simp [lst, h]
theorem lst_get {n : Nat} {f : Nat → Nat} {j : Nat} (h : j < n) : (lst n f).getD j 0 = nI (f j) := by
  rw [List.getD_eq_getElem?_getD, lst_at h]; rfl
theorem lst_cong {n : Nat} {f g : Nat → Nat} (h : ∀ j, j < n → f j = g j) : lst n f = lst n g := by
  apply List.map_congr_left
  intro j hj
  rw [h j (List.mem_range.mp hj)]
def up (f : Nat → Nat) (j v : Nat) : Nat → Nat := fun i => if i = j then v else f i
theorem up_s (f : Nat → Nat) (j v : Nat) : up f j v j = v := if_pos rfl
theorem up_n (f : Nat → Nat) {j i : Nat} (v : Nat) (h : ¬ i = j) : up f j v i = f i := if_neg h
theorem lst_set (n : Nat) (f : Nat → Nat) (j v : Nat) : (lst n f).set j (nI v) = lst n (up f j v) := by
  apply List.ext_getElem?
  intro i
  rw [List.getElem?_set]
  by_cases hi : i < n
  · by_cases hj : j = i
    · subst hj
      rw [if_pos rfl, if_pos (by rw [lst_len]; exact hi), lst_at hi, up_s]
    · rw [if_neg hj, lst_at hi, lst_at hi, up_n f v (fun z => hj z.symm)]
  · have h1 : (lst n f)[i]? = none := List.getElem?_eq_none (by rw [lst_len]; omega)
    have h2 : (lst n (up f j v))[i]? = none := List.getElem?_eq_none (by rw [lst_len]; omega)
    rw [h1, h2, lst_len]
    split
    · split
      · omega
      · rfl
    · rfl
theorem lst_inj {n : Nat} {f g : Nat → Nat} (h : lst n f = lst n g) {j : Nat} (hj : j < n) : nI (f j) = nI (g j) := by
  have := lst_at (f := f) hj
  rw [h, lst_at hj] at this
  exact (Option.some.inj this).symm
theorem lst_0 (n : Nat) : List.replicate n (0 : Int32) = lst n (fun _ => 0) := by
  apply List.ext_getElem?
  intro i
  by_cases hi : i < n
  · rw [lst_at hi, List.getElem?_replicate, if_pos hi]; rfl
  · rw [List.getElem?_eq_none (by simp; omega), List.getElem?_eq_none (by rw [lst_len]; omega)]
section ROWN
variable {M : ax_M} {R : Room} {E : ax_Et} {Z : ax_Zt} {h : ax_H} {kc ks pc : Nat} {ls : List (Nat × Value)} {st : List Value}
theorem aw_geti {idx ci j k : Nat} {fs : List Value} {x y : Int32} (hd : decode M.2.1 pc = .ok (.getfield idx, 3)) (hL : fl_ok M.1.cls idx ci j) (hk : h[k]? = some (ob ci fs)) (hv : fs[j]? = some (.int x)) (e : x = y) (kk : AW M R E Z h kc ks (pc + 3) ls (.int y :: st)) : AW M R E Z h kc ks pc ls (.ref k :: st) := by
  subst e; exact aw_get hd hL hk hv kk
theorem aw_ildN {k j n : Nat} {i : Int32} {xs : List Int32} {f : Nat → Nat} (hd : decode M.2.1 pc = .ok (.iaload, 1)) (hk : h[k]? = some (ia xs)) (hx : xs = lst n f) (hi : i = nI j) (hj : j < n) (hm : n < 2 ^ 31) (kk : AW M R E Z h kc ks (pc + 1) ls (.int (nI (f j)) :: st)) : AW M R E Z h kc ks pc ls (.int i :: .ref k :: st) := by
  subst hx
  refine aw_iald hd hk (lst_len n f) hi hj hm ?_
  rw [lst_get hj]; exact kk
theorem aw_istN {k j n v : Nat} {i x : Int32} {xs : List Int32} {f : Nat → Nat} {h' : ax_H} (hd : decode M.2.1 pc = .ok (.iastore, 1)) (hk : h[k]? = some (ia xs)) (hx : xs = lst n f) (hi : i = nI j) (hv : x = nI v) (hj : j < n) (hm : n < 2 ^ 31) (hs : h.set k (ia (lst n (up f j v))) = h') (kk : AW M R E Z h' kc ks (pc + 1) ls st) : AW M R E Z h kc ks pc ls (.int x :: .int i :: .ref k :: st) := by
  subst hx; subst hv
  refine aw_iast hd hk (lst_len n f) hi hj hm ?_ kk
  rw [lst_set]; exact hs
theorem aw_incN {j i : Nat} {x : Int32} {ls' : List (Nat × Value)} (hd : decode M.2.1 pc = .ok (.iinc j 1, 3)) (hv : lg ls j = some (.int x)) (hx : x = nI i) (hn : j < M.2.2.1) (hs : ls1 j (.int (nI (i + 1))) ls = ls') (k : AW M R E Z h kc ks (pc + 3) ls' st) : AW M R E Z h kc ks pc ls st :=
  aw_iinc hd hv (by rw [hx]; exact nI_1 i) hn hs k
theorem aw_decN {j i : Nat} {x : Int32} {ls' : List (Nat × Value)} (hd : decode M.2.1 pc = .ok (.iinc j (-1), 3)) (hv : lg ls j = some (.int x)) (hx : x = nI (i + 1)) (hn : j < M.2.2.1) (hs : ls1 j (.int (nI i)) ls = ls') (k : AW M R E Z h kc ks (pc + 3) ls' st) : AW M R E Z h kc ks pc ls st :=
  aw_iinc hd hv (by rw [hx]; exact pk_m1 i) hn hs k
/-- the top of the stack, rewritten -/
theorem aw_top {x y : Int32} (e : x = y) (k : AW M R E Z h kc ks pc ls (.int y :: st)) : AW M R E Z h kc ks pc ls (.int x :: st) := by
  subst e; exact k
theorem aw_topl {x y : Int64} (e : x = y) (k : AW M R E Z h kc ks pc ls (.long y :: st)) : AW M R E Z h kc ks pc ls (.long x :: st) := by
  subst e; exact k
end ROWN
/-- a town: row 0 facts, 1 walls, 2 for whom, 3 plain, 4 cipher, 5 keys, 6 scalars (0 open, 1 deaf, 2 read, 3 voice, 4 wind and 3, 5 place, 6 day, 7 sights), 7 houses of the sights, 8 whether they heard -/
abbrev town : Type := Nat → Nat → Nat
def okT (T : town) : Prop := (∀ j, j < 12 → T 0 j < 256) ∧ (∀ j, j < 11 → T 1 j ≤ 9) ∧ (∀ l, l < 6 → T 2 l < 12 ∧ T 3 l < 256 ∧ T 4 l < 256 ∧ T 5 l < 4096) ∧ T 6 0 < 4096 ∧ T 6 1 < 4096 ∧ T 6 2 < 64 ∧ (1 ≤ T 6 3 ∧ T 6 3 ≤ 40) ∧ T 6 4 ≤ 6 ∧ T 6 5 < 12 ∧ T 6 6 ≤ 99 ∧ T 6 7 ≤ 8 ∧ (∀ i, i < 8 → T 7 i < 12 ∧ T 8 i ≤ 1)
/-- what is lost from house k to the next one east, and from the next one east of k to k -/
def eL (T : town) (k : Nat) : Nat := T 1 k + 4 - T 6 4
def wL (T : town) (k : Nat) : Nat := T 1 k + T 6 4 - 2
def dE (T : town) (a n : Nat) : Nat := fb_sm (fun j => eL T (a + j)) n
def dW (T : town) (a n : Nat) : Nat := fb_sm (fun j => wL T (a - 1 - j)) n
/-- how loud, read at a, at h -/
def ld (T : town) (a h : Nat) : Nat := T 6 3 - (dE T a (h - a) + dW T a (a - h))
def he (T : town) (a op h : Nat) : Bool := !(T 6 1).testBit h && (decide (h = a) || (decide (3 ≤ ld T a h) || (decide (1 ≤ ld T a h) && op.testBit h)))
def HS (T : town) (a op : Nat) : Nat := msk (he T a op) 12
theorem dE_s (T : town) (a n : Nat) : dE T a (n + 1) = dE T a n + eL T (a + n) := rfl
theorem dW_s (T : town) (a n : Nat) : dW T a (n + 1) = dW T a n + wL T (a - 1 - n) := rfl
theorem dE_b {T : town} (h : okT T) {a n : Nat} (hn : a + n ≤ 11) : dE T a n ≤ n * 13 := by
  induction n with
  | zero => simp [dE, fb_sm]
  | succ n ih =>
    rw [dE_s]
    have h1 := ih (by omega)
    have h2 := h.2.1 (a + n) (by omega)
    unfold eL
    omega
theorem dW_b {T : town} (h : okT T) {a n : Nat} (hn : n ≤ a) (ha : a ≤ 11) : dW T a n ≤ n * 13 := by
  induction n with
  | zero => simp [dW, fb_sm]
  | succ n ih =>
    rw [dW_s]
    have h1 := ih (by omega)
    have h2 := h.2.1 (a - 1 - n) (by omega)
    have h3 := h.2.2.2.2.2.2.2.1
    unfold wL
    omega
theorem loss_e (w wi : Nat) : nI w + 1 - (nI wi - 3) = zI ((w : Int) + 4 - wi) := by
  rw [zI_nI, zI_nI, show (1 : Int32) = zI 1 from rfl, show (3 : Int32) = zI 3 from rfl, zI_add, zI_sub, zI_sub]
  congr 1; omega
theorem loss_w (w wi : Nat) : nI w + 1 + (nI wi - 3) = zI ((w : Int) + wi - 2) := by
  rw [zI_nI, zI_nI, show (1 : Int32) = zI 1 from rfl, show (3 : Int32) = zI 3 from rfl, zI_add, zI_sub, zI_add]
  congr 1; omega
theorem HS_lt (T : town) (a op : Nat) : HS T a op < 4096 := msk_lt _ 12
theorem HS_bit (T : town) (a op : Nat) {h : Nat} (hh : h < 12) : (HS T a op).testBit h = he T a op h := by
  rw [HS, msk_bit, decide_eq_true hh, Bool.true_and]
theorem ld_e (T : town) {a h : Nat} (hh : a ≤ h) : ld T a h = T 6 3 - dE T a (h - a) := by
  unfold ld
  rw [show a - h = 0 by omega, show dW T a 0 = 0 from rfl, Nat.add_zero]
theorem ld_w (T : town) {a h : Nat} (hh : h ≤ a) : ld T a h = T 6 3 - dW T a (a - h) := by
  unfold ld
  rw [show h - a = 0 by omega, show dE T a 0 = 0 from rfl, Nat.zero_add]
theorem or_bit {b i : Nat} (hi : i < 31) : nI b ||| ((1 : Int32) <<< (nI i &&& 31)) = nI (b ||| 2 ^ i) := by rw [sh1 hi, fa_or]
theorem or_lt {b i : Nat} (hb : b < 4096) (hi : i < 12) : b ||| 2 ^ i < 4096 := Nat.or_lt_two_pow (n := 12) hb (Nat.pow_lt_pow_right (by omega) hi)
def rc (T : town) (a le h : Nat) : Bool := decide (h = a) || decide (le ≤ ld T a h)
theorem bt_nI (n : Nat) {i : Nat} (hi : i < 32) : bt (nI n) i = n.testBit i := by
  show (BitVec.ofNat 32 n).getLsbD i = _
  rw [BitVec.getLsbD_ofNat, decide_eq_true hi, Bool.true_and]
theorem andn {x d : Nat} (hx : x < 4096) : nI x &&& (nI d ^^^ (-1)) = nI (msk (fun h => x.testBit h && !d.testBit h) 12) := by
  apply b_ext
  intro i hi
  rw [b_and, b_xor, b_m1 i hi, bt_nI _ hi, bt_nI _ hi, bt_nI _ hi, msk_bit]
  by_cases h1 : i < 12
  · simp [h1]
  · rw [Nat.testBit_lt_two_pow (Nat.lt_of_lt_of_le hx (Nat.pow_le_pow_right (n := 2) (i := 12) (by decide) (by omega))), decide_eq_false h1]; simp
/-- what hearing takes of a street's cells, and of the reference's -/
def enH (A : Nat → List Int32) (I : Nat → Nat → Int32) (k : Nat) (T : town) : Prop := A (k + 2) = lst 11 (T 1) ∧ I k 7 = nI (T 6 1) ∧ I k 9 = nI (T 6 3) ∧ I k 10 = nI (T 6 4) - 3
def enG (A : Nat → List Int32) (I : Nat → Nat → Int32) (T : town) : Prop := A 39 = lst 11 (T 1) ∧ I 36 2 = nI (T 6 1) ∧ I 36 4 = nI (T 6 3) ∧ I 36 5 = nI (T 6 4) - 3
end
section
/-! who hears: the class's loudness, reached, hearers; the reference's loudAt, doesHear, hearers -/
section HEAR
variable {A : Nat → List Int32} {I : Nat → Nat → Int32} {J : Nat → List Int64} {U : Nat → Nat → Int64} {T : town}
set_option maxHeartbeats 1000000 in
set_option maxRecDepth 20000 in
theorem c_S_loudness (hT : okT T) (hE : enH A I 1 T) {a h : Nat} (ha : a < 12) (hh : h < 12) : AD m_S_loudness r_S_loudness (HH A I J U) [.ref 1, .int (nI a), .int (nI h)] (some (.int (nI (ld T a h)))) (HH A I J U) := by
  refine am_of (by decide) rfl (by first | decide | exact Nat.le_of_ble_eq_true rfl) ?_
  obtain ⟨hW, hDf, hV0, hWi⟩ := hE
  have hvo := hT.2.2.2.2.2.2.1
  have hwi := hT.2.2.2.2.2.2.2.1
  refine aw_aload_n (pc := 0) d_S_loudness_0 rfl rfl ?_
  refine aw_geti (pc := 1) (y := (zI (T 6 3))) d_S_loudness_1 lf_S_40 hg_1 rfl (by rw [hV0, zI_nI]) ?_
  refine aw_istore_n (pc := 4) (ls' := [(0, _), (1, _), (2, _), (3, _)]) d_S_loudness_4 rfl (by decide) rfl ?_
  refine aw_iload_n (pc := 5) d_S_loudness_5 rfl rfl ?_
  refine aw_istore (pc := 6) (ls' := [(0, _), (1, _), (2, _), (3, _), (4, _)]) d_S_loudness_6 (by decide) rfl ?_
  refine lp_i (fun i L => AW m_S_loudness r_S_loudness ax_E0 (ax_Zm (fun q1 q2 => q1 = some (.int (nI (ld T a h))) ∧ q2 = HH A I J U) 0 0) (HH A I J U) 0 0 8 [(0, .ref 1), (1, .int (nI a)), (2, .int (nI h)), (3, .int (zI L)), (4, .int (nI i))] []) (fun i L => a ≤ i ∧ L = (T 6 3 : Int) - dE T a (i - a)) (max a h) ?_ ?_ (max a h - a) a (T 6 3) (by omega) ⟨Nat.le_refl _, by show _ = _ - ((dE T a (a - a) : Nat) : Int); rw [Nat.sub_self, show dE T a 0 = 0 from rfl]; omega⟩
  · intro L hV
    refine aw_iload (pc := 8) d_S_loudness_8 rfl ?_
    refine aw_iload_n (pc := 10) d_S_loudness_10 rfl rfl ?_
    refine awn_ge (pc := 11) (tgt := 46) (max a h) (h) d_S_loudness_11 (by decide) rfl rfl (by omega) (by omega) (fun _ => ?_) (fun hh => absurd hh (by omega))
    refine aw_iload_n (pc := 46) d_S_loudness_46 rfl rfl ?_
    refine aw_istore (pc := 47) (ls' := [(0, _), (1, _), (2, _), (3, _), (4, _)]) d_S_loudness_47 (by decide) rfl ?_
    rw [hV.2, show max a h - a = h - a by omega]
    refine lp_i (fun j L => AW m_S_loudness r_S_loudness ax_E0 (ax_Zm (fun q1 q2 => q1 = some (.int (nI (ld T a h))) ∧ q2 = HH A I J U) 0 0) (HH A I J U) 0 0 49 [(0, .ref 1), (1, .int (nI a)), (2, .int (nI h)), (3, .int (zI L)), (4, .int (nI (a - j)))] []) (fun j L => L = (T 6 3 : Int) - dE T a (h - a) - dW T a j) (a - h) ?_ ?_ (a - h) 0 ((T 6 3 : Int) - dE T a (h - a)) (by omega) (by show _ = _ - ((dW T a 0 : Nat) : Int); rw [show dW T a 0 = 0 from rfl]; omega)
    · intro L hV
      refine aw_iload (pc := 49) d_S_loudness_49 rfl ?_
      refine aw_iload_n (pc := 51) d_S_loudness_51 rfl rfl ?_
      refine awn_le (pc := 52) (tgt := 89) (a - (a - h)) (h) d_S_loudness_52 (by decide) rfl rfl (by omega) (by omega) (fun _ => ?_) (fun hh => absurd hh (by omega))
      refine aw_iconst (pc := 89) (v := 0) d_S_loudness_89 (by decide) ?_
      refine aw_iload_n (pc := 90) d_S_loudness_90 rfl rfl ?_
      refine aw_mmax (pc := 91) d_S_loudness_91 lm_S_67 ws_H_max wn_H wc_H_max (by decide) (Nat.le_of_ble_eq_true rfl) ⟨by decide, by decide⟩ ?_
      refine aw_iret (pc := 94) d_S_loudness_94 rfl ?_
      refine ⟨?_, rfl⟩
      have h9 := dE_b hT (a := a) (n := h - a) (by omega)
      have h8 := dW_b hT (a := a) (n := a - h) (by omega) (by omega)
      rw [show (0 : Int32) = zI 0 from rfl, hV]
      by_cases hz : (0 : Int) < (T 6 3 : Int) - dE T a (h - a) - dW T a (a - h)
      · rw [if_pos ((zI_lt (by decide) (by omega)).mpr hz), zI_nI]
        congr 3; unfold ld; omega
      · rw [if_neg (fun z => hz ((zI_lt (by decide) (by omega)).mp z)), show zI 0 = nI 0 from rfl]
        congr 3; unfold ld; omega
    · intro j L hj hV ih
      have hw9 := hT.2.1 (a - 1 - j) (by omega)
      refine aw_iload (pc := 49) d_S_loudness_49 rfl ?_
      refine aw_iload_n (pc := 51) d_S_loudness_51 rfl rfl ?_
      refine awn_le (pc := 52) (tgt := 89) (a - j) (h) d_S_loudness_52 (by decide) rfl rfl (by omega) (by omega) (fun hh => absurd hh (by omega)) (fun _ => ?_)
      refine aw_aload_n (pc := 55) d_S_loudness_55 rfl rfl ?_
      refine aw_get (pc := 56) d_S_loudness_56 lf_S_15 hg_1 rfl ?_
      refine aw_iload (pc := 59) d_S_loudness_59 rfl ?_
      refine aw_iconst (pc := 61) (v := 1) d_S_loudness_61 (by decide) ?_
      refine aw_isub (pc := 62) d_S_loudness_62 ?_
      refine aw_ildN (pc := 63) (j := a - 1 - j) d_S_loudness_63 hg_3 hW (show nI (a - j) - 1 = nI (a - 1 - j) by rw [show a - j = (a - 1 - j) + 1 by omega]; exact nI_pred _) (by omega) (by decide) ?_
      refine aw_iconst (pc := 64) (v := 1) d_S_loudness_64 (by decide) ?_
      refine aw_iadd (pc := 65) d_S_loudness_65 ?_
      refine aw_aload_n (pc := 66) d_S_loudness_66 rfl rfl ?_
      refine aw_geti (pc := 67) (y := (nI (T 6 4) - 3)) d_S_loudness_67 lf_S_43 hg_1 rfl hWi ?_
      refine aw_iadd (pc := 70) d_S_loudness_70 ?_
      refine aw_top (loss_w _ _) ?_
      refine aw_istore (pc := 71) (ls' := [(0, _), (1, _), (2, _), (3, _), (4, _), (5, _)]) d_S_loudness_71 (by decide) rfl ?_
      refine aw_iload (pc := 73) d_S_loudness_73 rfl ?_
      refine aw_if_le (pc := 75) (tgt := 83) d_S_loudness_75 (by decide) (fun h75 => ?_) (fun h75 => ?_)
      · refine aw_decN (pc := 83) (ls' := [(0, _), (1, _), (2, _), (3, _), (4, _), (5, _)]) (i := a - (j + 1)) d_S_loudness_83 rfl (by rw [show a - j = a - (j + 1) + 1 by omega]) (by decide) rfl ?_
        refine aw_goto (pc := 86) (tgt := 49) d_S_loudness_86 (by decide) ?_
        refine aw_sub (ls' := [(0, _), (1, _), (2, _), (3, _), (4, _)]) [0, 1, 2, 3, 4] rfl ?_
        exact ih L (by
          have h9 := (zI_le (by omega) (by decide)).mp (show zI _ ≤ zI 0 from h75)
          rw [hV, dW_s, show wL T (a - 1 - j) = 0 by unfold wL; omega]; omega)
      · refine aw_iload_n (pc := 78) d_S_loudness_78 rfl rfl ?_
        refine aw_iload (pc := 79) d_S_loudness_79 rfl ?_
        refine aw_isub (pc := 81) d_S_loudness_81 ?_
        refine aw_istore_n (pc := 82) (ls' := [(0, _), (1, _), (2, _), (3, _), (4, _), (5, _)]) d_S_loudness_82 rfl (by decide) rfl ?_
        refine aw_decN (pc := 83) (ls' := [(0, _), (1, _), (2, _), (3, _), (4, _), (5, _)]) (i := a - (j + 1)) d_S_loudness_83 rfl (by rw [show a - j = a - (j + 1) + 1 by omega]) (by decide) rfl ?_
        refine aw_goto (pc := 86) (tgt := 49) d_S_loudness_86 (by decide) ?_
        refine aw_sub (ls' := [(0, _), (1, _), (2, _), (3, _), (4, _)]) [0, 1, 2, 3, 4] rfl ?_
        exact aw_eq (ih (L - ((T 1 (a - 1 - j) : Int) + T 6 4 - 2)) (by
          have h9 : ¬ ((T 1 (a - 1 - j) : Int) + T 6 4 - 2 ≤ 0) := fun z => h75 ((zI_le (by omega) (by decide)).mpr z)
          have h8 : (wL T (a - 1 - j) : Int) = (T 1 (a - 1 - j) : Int) + T 6 4 - 2 := by unfold wL; omega
          rw [hV, dW_s]; omega)) rfl (by rw [zI_sub]) rfl
  · intro i L hi hV ih
    have hw9 := hT.2.1 i (by omega)
    refine aw_iload (pc := 8) d_S_loudness_8 rfl ?_
    refine aw_iload_n (pc := 10) d_S_loudness_10 rfl rfl ?_
    refine awn_ge (pc := 11) (tgt := 46) (i) (h) d_S_loudness_11 (by decide) rfl rfl (by omega) (by omega) (fun hh => absurd hh (by omega)) (fun _ => ?_)
    refine aw_aload_n (pc := 14) d_S_loudness_14 rfl rfl ?_
    refine aw_get (pc := 15) d_S_loudness_15 lf_S_15 hg_1 rfl ?_
    refine aw_iload (pc := 18) d_S_loudness_18 rfl ?_
    refine aw_ildN (pc := 20) (j := i) d_S_loudness_20 hg_3 hW rfl (by omega) (by decide) ?_
    refine aw_iconst (pc := 21) (v := 1) d_S_loudness_21 (by decide) ?_
    refine aw_iadd (pc := 22) d_S_loudness_22 ?_
    refine aw_aload_n (pc := 23) d_S_loudness_23 rfl rfl ?_
    refine aw_geti (pc := 24) (y := (nI (T 6 4) - 3)) d_S_loudness_24 lf_S_43 hg_1 rfl hWi ?_
    refine aw_isub (pc := 27) d_S_loudness_27 ?_
    refine aw_top (loss_e _ _) ?_
    refine aw_istore (pc := 28) (ls' := [(0, _), (1, _), (2, _), (3, _), (4, _), (5, _)]) d_S_loudness_28 (by decide) rfl ?_
    refine aw_iload (pc := 30) d_S_loudness_30 rfl ?_
    refine aw_if_le (pc := 32) (tgt := 40) d_S_loudness_32 (by decide) (fun h32 => ?_) (fun h32 => ?_)
    · refine aw_incN (pc := 40) (ls' := [(0, _), (1, _), (2, _), (3, _), (4, _), (5, _)]) (i := i) d_S_loudness_40 rfl rfl (by decide) rfl ?_
      refine aw_goto (pc := 43) (tgt := 8) d_S_loudness_43 (by decide) ?_
      refine aw_sub (ls' := [(0, _), (1, _), (2, _), (3, _), (4, _)]) [0, 1, 2, 3, 4] rfl ?_
      exact ih L ⟨by omega, by
        have h9 := (zI_le (by omega) (by decide)).mp (show zI _ ≤ zI 0 from h32)
        rw [hV.2, show i + 1 - a = (i - a) + 1 by omega, dE_s, show a + (i - a) = i by omega, show eL T i = 0 by unfold eL; omega]; omega⟩
    · refine aw_iload_n (pc := 35) d_S_loudness_35 rfl rfl ?_
      refine aw_iload (pc := 36) d_S_loudness_36 rfl ?_
      refine aw_isub (pc := 38) d_S_loudness_38 ?_
      refine aw_istore_n (pc := 39) (ls' := [(0, _), (1, _), (2, _), (3, _), (4, _), (5, _)]) d_S_loudness_39 rfl (by decide) rfl ?_
      refine aw_incN (pc := 40) (ls' := [(0, _), (1, _), (2, _), (3, _), (4, _), (5, _)]) (i := i) d_S_loudness_40 rfl rfl (by decide) rfl ?_
      refine aw_goto (pc := 43) (tgt := 8) d_S_loudness_43 (by decide) ?_
      refine aw_sub (ls' := [(0, _), (1, _), (2, _), (3, _), (4, _)]) [0, 1, 2, 3, 4] rfl ?_
      exact aw_eq (ih (L - ((T 1 i : Int) + 4 - T 6 4)) ⟨by omega, by
        have h9 : ¬ ((T 1 i : Int) + 4 - T 6 4 ≤ 0) := fun z => h32 ((zI_le (by omega) (by decide)).mpr z)
        have h8 : (eL T i : Int) = (T 1 i : Int) + 4 - T 6 4 := by unfold eL; omega
        rw [hV.2, show i + 1 - a = (i - a) + 1 by omega, dE_s, show a + (i - a) = i by omega]; omega⟩) rfl (by rw [zI_sub]) rfl
set_option maxHeartbeats 1000000 in
set_option maxRecDepth 20000 in
theorem c_S_reached_1 (hT : okT T) (hE : enH A I 1 T) {a le : Nat} (ha : a < 12) (hl : 1 ≤ le) (hl2 : le ≤ 40) : AD m_S_reached r_S_reached (HH A I J U) [.ref 1, .int (nI a), .int (nI le)] (some (.int (nI (msk (rc T a le) 12)))) (HH A I J U) := by
  refine am_of (by decide) rfl (by first | decide | exact Nat.le_of_ble_eq_true rfl) ?_
  obtain ⟨hW, hDf, hV0, hWi⟩ := hE
  have hvo := hT.2.2.2.2.2.2.1
  have hwi := hT.2.2.2.2.2.2.2.1
  refine aw_iconst (pc := 0) (v := 1) d_S_reached_0 (by decide) ?_
  refine aw_iload_n (pc := 1) d_S_reached_1 rfl rfl ?_
  refine aw_ishl (pc := 2) d_S_reached_2 ?_
  refine aw_top (sh1 (by omega)) ?_
  refine aw_istore_n (pc := 3) (ls' := [(0, _), (1, _), (2, _), (3, _)]) d_S_reached_3 rfl (by decide) rfl ?_
  refine aw_aload_n (pc := 4) d_S_reached_4 rfl rfl ?_
  refine aw_geti (pc := 5) (y := (zI (T 6 3))) d_S_reached_5 lf_S_40 hg_1 rfl (by rw [hV0, zI_nI]) ?_
  refine aw_istore (pc := 8) (ls' := [(0, _), (1, _), (2, _), (3, _), (4, _)]) d_S_reached_8 (by decide) rfl ?_
  refine aw_iload_n (pc := 10) d_S_reached_10 rfl rfl ?_
  refine aw_iconst (pc := 11) (v := 1) d_S_reached_11 (by decide) ?_
  refine aw_iadd (pc := 12) d_S_reached_12 ?_
  refine aw_top (nI_1 a) ?_
  refine aw_istore (pc := 13) (ls' := [(0, _), (1, _), (2, _), (3, _), (4, _), (5, _)]) d_S_reached_13 (by decide) rfl ?_
  refine lp_i (fun i (x : Int × Nat) => AW m_S_reached r_S_reached ax_E0 (ax_Zm (fun q1 q2 => q1 = some (.int (nI (msk (rc T a le) 12))) ∧ q2 = HH A I J U) 0 0) (HH A I J U) 0 0 15 [(0, .ref 1), (1, .int (nI a)), (2, .int (nI le)), (3, .int (nI x.2)), (4, .int (zI x.1)), (5, .int (nI i))] []) (fun i x => a + 1 ≤ i ∧ x.1 = (T 6 3 : Int) - dE T a (i - 1 - a) ∧ x.2 < 4096 ∧ ∀ h, h < 12 → x.2.testBit h = (decide (h = a) || (decide (a < h ∧ h < i) && decide (le ≤ ld T a h)))) 12 ?_ ?_ (12 - (a + 1)) (a + 1) (T 6 3, 2 ^ a) (by omega) ⟨Nat.le_refl _, by show (T 6 3 : Int) = _ - ((dE T a (a + 1 - 1 - a) : Nat) : Int); rw [show a + 1 - 1 - a = 0 by omega, show dE T a 0 = 0 from rfl]; omega, (Nat.pow_lt_pow_right (show 1 < 2 by decide) ha : 2 ^ a < 2 ^ 12), fun h hh => by
      show (2 ^ a).testBit h = _
      rw [Nat.testBit_two_pow, decide_eq_false (show ¬ (a < h ∧ h < a + 1) by omega), Bool.false_and, Bool.or_false]
      exact decide_eq_decide.mpr ⟨fun z => z.symm, fun z => z.symm⟩⟩
  · rintro ⟨L, b⟩ ⟨-, -, hbl, hbb⟩
    refine aw_iload (pc := 15) d_S_reached_15 rfl ?_
    refine aw_bipush (pc := 17) (v := 12) d_S_reached_17 (by decide) ?_
    refine awn_ge (pc := 19) (tgt := 71) (12) (12) d_S_reached_19 (by decide) rfl rfl (by omega) (by omega) (fun _ => ?_) (fun hh => absurd hh (by omega))
    refine aw_aload_n (pc := 71) d_S_reached_71 rfl rfl ?_
    refine aw_geti (pc := 72) (y := (zI (T 6 3))) d_S_reached_72 lf_S_40 hg_1 rfl (by rw [hV0, zI_nI]) ?_
    refine aw_istore (pc := 75) (ls' := [(0, _), (1, _), (2, _), (3, _), (4, _), (5, _)]) d_S_reached_75 (by decide) rfl ?_
    refine aw_iload_n (pc := 77) d_S_reached_77 rfl rfl ?_
    refine aw_iconst (pc := 78) (v := 1) d_S_reached_78 (by decide) ?_
    refine aw_isub (pc := 79) d_S_reached_79 ?_
    refine aw_top (show nI a - 1 = zI ((a : Int) - 1 - (0 : Nat)) by rw [zI_nI, show (1 : Int32) = zI 1 from rfl, zI_sub]; congr 1; omega) ?_
    refine aw_istore (pc := 80) (ls' := [(0, _), (1, _), (2, _), (3, _), (4, _), (5, _)]) d_S_reached_80 (by decide) rfl ?_
    refine lp_i (fun j (x : Int × Nat) => AW m_S_reached r_S_reached ax_E0 (ax_Zm (fun q1 q2 => q1 = some (.int (nI (msk (rc T a le) 12))) ∧ q2 = HH A I J U) 0 0) (HH A I J U) 0 0 82 [(0, .ref 1), (1, .int (nI a)), (2, .int (nI le)), (3, .int (nI x.2)), (4, .int (zI x.1)), (5, .int (zI ((a : Int) - 1 - j)))] []) (fun j x => x.1 = (T 6 3 : Int) - dW T a j ∧ x.2 < 4096 ∧ ∀ h, h < 12 → x.2.testBit h = (decide (h = a) || (decide (a ≤ h + j) && decide (le ≤ ld T a h)))) a ?_ ?_ a 0 (T 6 3, b) (by omega) ⟨by show (T 6 3 : Int) = _ - ((dW T a 0 : Nat) : Int); rw [show dW T a 0 = 0 from rfl]; omega, hbl, fun h hh => by
        show b.testBit h = _
        rw [hbb h hh]
        by_cases h1 : h = a
        · simp [h1]
        · rw [decide_eq_decide.mpr (show (a < h ∧ h < 12) ↔ a ≤ h + 0 by omega)]⟩
    · rintro ⟨L, b⟩ ⟨-, hbl, hbb⟩
      refine aw_iload (pc := 82) d_S_reached_82 rfl ?_
      refine aw_if_lt (pc := 84) (tgt := 134) d_S_reached_84 (by decide) (fun _ => ?_) (fun hh => absurd (show zI ((a : Int) - 1 - a) < zI 0 from (zI_lt (by omega) (by decide)).mpr (by omega)) hh)
      refine aw_iload_n (pc := 134) d_S_reached_134 rfl rfl ?_
      refine aw_iret (pc := 135) d_S_reached_135 rfl ?_
      refine ⟨?_, rfl⟩
      show some (Value.int (nI b)) = _
      rw [show b = msk (rc T a le) 12 from msk_ext (n := 12) (p := rc T a le) hbl (fun h hh => by rw [hbb h hh, decide_eq_true (show a ≤ h + a by omega), Bool.true_and]; rfl)]
    · rintro j ⟨L, b⟩ hj ⟨hLv, hbl, hbb⟩ ih
      have hw9 := hT.2.1 (a - 1 - j) (by omega)
      have hdb := dW_b hT (a := a) (n := j) (by omega) (by omega)
      have ej : zI ((a : Int) - 1 - j) = nI (a - 1 - j) := by rw [zI_nI]; congr 1; omega
      have ew := dW_s T a j
      have elw := ld_w T (a := a) (h := a - 1 - j) (by omega)
      rw [show a - (a - 1 - j) = j + 1 by omega] at elw
      have bits : ∀ (c : Nat), (∀ h, h < 12 → c.testBit h = (b.testBit h || (decide (h = a - 1 - j) && decide (le ≤ ld T a h)))) → ∀ h, h < 12 → c.testBit h = (decide (h = a) || (decide (a ≤ h + (j + 1)) && decide (le ≤ ld T a h))) := by
        intro c hc h hh
        rw [hc h hh, hbb h hh]
        by_cases h1 : h = a - 1 - j
        · rw [decide_eq_true h1, decide_eq_false (show ¬ h = a by omega), decide_eq_false (show ¬ a ≤ h + j by omega), decide_eq_true (show a ≤ h + (j + 1) by omega)]; simp
        · rw [decide_eq_false h1, decide_eq_decide.mpr (show (a ≤ h + j) ↔ a ≤ h + (j + 1) by omega), Bool.false_and, Bool.or_false]
      have key : ∀ L', L' = (T 6 3 : Int) - dW T a (j + 1) → AW m_S_reached r_S_reached ax_E0 (ax_Zm (fun q1 q2 => q1 = some (.int (nI (msk (rc T a le) 12))) ∧ q2 = HH A I J U) 0 0) (HH A I J U) 0 0 115 [(0, .ref 1), (1, .int (nI a)), (2, .int (nI le)), (3, .int (nI b)), (4, .int (zI L')), (5, .int (zI ((a : Int) - 1 - j)))] [] := by
        intro L' hL'
        have hdb2 := dW_b hT (a := a) (n := j + 1) (by omega) (by omega)
        refine aw_iload (pc := 115) d_S_reached_115 rfl ?_
        refine aw_iload_n (pc := 117) d_S_reached_117 rfl rfl ?_
        refine aw_icmp_lt (pc := 118) (tgt := 128) d_S_reached_118 (by decide) (fun h118 => ?_) (fun h118 => ?_)
        · refine aw_iinc (pc := 128) (ls' := [(0, _), (1, _), (2, _), (3, _), (4, _), (5, _)]) d_S_reached_128 rfl rfl (by decide) rfl ?_
          refine aw_goto (pc := 131) (tgt := 82) d_S_reached_131 (by decide) ?_
          refine aw_eq (ih (L', b) ⟨hL', hbl, bits b (fun h hh => ?_)⟩) rfl (by rw [show Int32.ofInt (-1) = zI (-1) from rfl, zI_add, show (a : Int) - 1 - j + -1 = (a : Int) - 1 - ((j + 1 : Nat) : Int) by omega]) rfl
          have h9 : L' < le := (zI_lt (by omega) (by omega)).mp (by rw [← zI_nI]; exact h118)
          by_cases h1 : h = a - 1 - j
          · subst h1
            rw [decide_eq_false (show ¬ le ≤ ld T a (a - 1 - j) by omega), Bool.and_false, Bool.or_false]
          · rw [decide_eq_false h1, Bool.false_and, Bool.or_false]
        · refine aw_iload_n (pc := 121) d_S_reached_121 rfl rfl ?_
          refine aw_iconst (pc := 122) (v := 1) d_S_reached_122 (by decide) ?_
          refine aw_eq (ls' := [(0, .ref 1), (1, .int (nI a)), (2, .int (nI le)), (3, .int (nI b)), (4, .int (zI L')), (5, .int (nI (a - 1 - j)))]) ?_ rfl (by rw [ej]) rfl
          refine aw_iload (pc := 123) d_S_reached_123 rfl ?_
          refine aw_ishl (pc := 125) d_S_reached_125 ?_
          refine aw_ior (pc := 126) d_S_reached_126 ?_
          refine aw_top (or_bit (by omega)) ?_
          refine aw_istore_n (pc := 127) (ls' := [(0, _), (1, _), (2, _), (3, _), (4, _), (5, _)]) d_S_reached_127 rfl (by decide) rfl ?_
          refine aw_iinc (pc := 128) (ls' := [(0, _), (1, _), (2, _), (3, _), (4, _), (5, _)]) d_S_reached_128 rfl rfl (by decide) rfl ?_
          refine aw_goto (pc := 131) (tgt := 82) d_S_reached_131 (by decide) ?_
          refine aw_eq (ih (L', b ||| 2 ^ (a - 1 - j)) ⟨hL', or_lt hbl (by omega), bits _ (fun h hh => ?_)⟩) rfl (by rw [← ej, show Int32.ofInt (-1) = zI (-1) from rfl, zI_add, show (a : Int) - 1 - j + -1 = (a : Int) - 1 - ((j + 1 : Nat) : Int) by omega]) rfl
          have h9 : ¬ L' < le := fun z => h118 (by rw [zI_nI]; exact (zI_lt (by omega) (by omega)).mpr z)
          rw [fb_bit_set]
          by_cases h1 : h = a - 1 - j
          · subst h1
            rw [decide_eq_true (show le ≤ ld T a (a - 1 - j) by omega), Bool.and_true]
          · rw [decide_eq_false h1, Bool.false_and]
      refine aw_iload (pc := 82) d_S_reached_82 rfl ?_
      refine aw_if_lt (pc := 84) (tgt := 134) d_S_reached_84 (by decide) (fun hh => absurd hh (fun z => absurd ((zI_lt (by omega) (by decide)).mp (show zI ((a : Int) - 1 - j) < zI 0 from z)) (by omega))) (fun _ => ?_)
      refine aw_aload_n (pc := 87) d_S_reached_87 rfl rfl ?_
      refine aw_get (pc := 88) d_S_reached_88 lf_S_15 hg_1 rfl ?_
      refine aw_iload (pc := 91) d_S_reached_91 rfl ?_
      refine aw_ildN (pc := 93) (j := a - 1 - j) d_S_reached_93 hg_3 hW ej (by omega) (by decide) ?_
      refine aw_iconst (pc := 94) (v := 1) d_S_reached_94 (by decide) ?_
      refine aw_iadd (pc := 95) d_S_reached_95 ?_
      refine aw_aload_n (pc := 96) d_S_reached_96 rfl rfl ?_
      refine aw_geti (pc := 97) (y := (nI (T 6 4) - 3)) d_S_reached_97 lf_S_43 hg_1 rfl hWi ?_
      refine aw_iadd (pc := 100) d_S_reached_100 ?_
      refine aw_top (loss_w _ _) ?_
      refine aw_istore (pc := 101) (ls' := [(0, _), (1, _), (2, _), (3, _), (4, _), (5, _), (6, _)]) d_S_reached_101 (by decide) rfl ?_
      refine aw_iload (pc := 103) d_S_reached_103 rfl ?_
      refine aw_if_le (pc := 105) (tgt := 115) d_S_reached_105 (by decide) (fun h105 => ?_) (fun h105 => ?_)
      · refine aw_sub (ls' := [(0, _), (1, _), (2, _), (3, _), (4, _), (5, _)]) [0, 1, 2, 3, 4, 5] rfl ?_
        exact key L (by
          have h9 := (zI_le (by omega) (by decide)).mp (show zI _ ≤ zI 0 from h105)
          have h8 : wL T (a - 1 - j) = 0 := by unfold wL; omega
          show L = _
          rw [ew, h8]; exact hLv)
      · refine aw_iload (pc := 108) d_S_reached_108 rfl ?_
        refine aw_iload (pc := 110) d_S_reached_110 rfl ?_
        refine aw_isub (pc := 112) d_S_reached_112 ?_
        refine aw_istore (pc := 113) (ls' := [(0, _), (1, _), (2, _), (3, _), (4, _), (5, _), (6, _)]) d_S_reached_113 (by decide) rfl ?_
        refine aw_sub (ls' := [(0, _), (1, _), (2, _), (3, _), (4, _), (5, _)]) [0, 1, 2, 3, 4, 5] rfl ?_
        have h9 : ¬ ((T 1 (a - 1 - j) : Int) + T 6 4 - 2 ≤ 0) := fun z => h105 ((zI_le (by omega) (by decide)).mpr z)
        have h8 : (wL T (a - 1 - j) : Int) = (T 1 (a - 1 - j) : Int) + T 6 4 - 2 := by unfold wL; omega
        exact aw_eq (key (L - ((T 1 (a - 1 - j) : Int) + T 6 4 - 2)) (by rw [ew]; have h7 : L = (T 6 3 : Int) - dW T a j := hLv; omega)) rfl (by rw [zI_sub]) rfl
  · rintro i ⟨L, b⟩ hi ⟨hai, hLv, hbl, hbb⟩ ih
    have hw9 := hT.2.1 (i - 1) (by omega)
    have hdb := dE_b hT (a := a) (n := i - 1 - a) (by omega)
    have ew := dE_s T a (i - 1 - a)
    rw [show a + (i - 1 - a) = i - 1 by omega, show i - 1 - a + 1 = i + 1 - 1 - a by omega] at ew
    have ele := ld_e T (a := a) (h := i) (by omega)
    rw [show i - a = i + 1 - 1 - a by omega] at ele
    have bits : ∀ (c : Nat), (∀ h, h < 12 → c.testBit h = (b.testBit h || (decide (h = i) && decide (le ≤ ld T a h)))) → ∀ h, h < 12 → c.testBit h = (decide (h = a) || (decide (a < h ∧ h < i + 1) && decide (le ≤ ld T a h))) := by
      intro c hc h hh
      rw [hc h hh, hbb h hh]
      by_cases h1 : h = i
      · rw [decide_eq_true h1, decide_eq_false (show ¬ h = a by omega), decide_eq_false (show ¬ (a < h ∧ h < i) by omega), decide_eq_true (show a < h ∧ h < i + 1 by omega)]; simp
      · rw [decide_eq_false h1, decide_eq_decide.mpr (show (a < h ∧ h < i) ↔ (a < h ∧ h < i + 1) by omega), Bool.false_and, Bool.or_false]
    have key : ∀ L', L' = (T 6 3 : Int) - dE T a (i + 1 - 1 - a) → AW m_S_reached r_S_reached ax_E0 (ax_Zm (fun q1 q2 => q1 = some (.int (nI (msk (rc T a le) 12))) ∧ q2 = HH A I J U) 0 0) (HH A I J U) 0 0 52 [(0, .ref 1), (1, .int (nI a)), (2, .int (nI le)), (3, .int (nI b)), (4, .int (zI L')), (5, .int (nI i))] [] := by
      intro L' hL'
      have hdb2 := dE_b hT (a := a) (n := i + 1 - 1 - a) (by omega)
      refine aw_iload (pc := 52) d_S_reached_52 rfl ?_
      refine aw_iload_n (pc := 54) d_S_reached_54 rfl rfl ?_
      refine aw_icmp_lt (pc := 55) (tgt := 65) d_S_reached_55 (by decide) (fun h55 => ?_) (fun h55 => ?_)
      · refine aw_incN (pc := 65) (ls' := [(0, _), (1, _), (2, _), (3, _), (4, _), (5, _)]) (i := i) d_S_reached_65 rfl rfl (by decide) rfl ?_
        refine aw_goto (pc := 68) (tgt := 15) d_S_reached_68 (by decide) ?_
        refine ih (L', b) ⟨by omega, hL', hbl, bits b (fun h hh => ?_)⟩
        have h9 : L' < le := (zI_lt (by omega) (by omega)).mp (by rw [← zI_nI]; exact h55)
        by_cases h1 : h = i
        · subst h1
          rw [decide_eq_false (show ¬ le ≤ ld T a h by omega), Bool.and_false, Bool.or_false]
        · rw [decide_eq_false h1, Bool.false_and, Bool.or_false]
      · refine aw_iload_n (pc := 58) d_S_reached_58 rfl rfl ?_
        refine aw_iconst (pc := 59) (v := 1) d_S_reached_59 (by decide) ?_
        refine aw_iload (pc := 60) d_S_reached_60 rfl ?_
        refine aw_ishl (pc := 62) d_S_reached_62 ?_
        refine aw_ior (pc := 63) d_S_reached_63 ?_
        refine aw_top (or_bit (by omega)) ?_
        refine aw_istore_n (pc := 64) (ls' := [(0, _), (1, _), (2, _), (3, _), (4, _), (5, _)]) d_S_reached_64 rfl (by decide) rfl ?_
        refine aw_incN (pc := 65) (ls' := [(0, _), (1, _), (2, _), (3, _), (4, _), (5, _)]) (i := i) d_S_reached_65 rfl rfl (by decide) rfl ?_
        refine aw_goto (pc := 68) (tgt := 15) d_S_reached_68 (by decide) ?_
        refine ih (L', b ||| 2 ^ i) ⟨by omega, hL', or_lt hbl (by omega), bits _ (fun h hh => ?_)⟩
        have h9 : ¬ L' < le := fun z => h55 (by rw [zI_nI]; exact (zI_lt (by omega) (by omega)).mpr z)
        rw [fb_bit_set]
        by_cases h1 : h = i
        · subst h1
          rw [decide_eq_true (show le ≤ ld T a h by omega), Bool.and_true]
        · rw [decide_eq_false h1, Bool.false_and]
    refine aw_iload (pc := 15) d_S_reached_15 rfl ?_
    refine aw_bipush (pc := 17) (v := 12) d_S_reached_17 (by decide) ?_
    refine awn_ge (pc := 19) (tgt := 71) (i) (12) d_S_reached_19 (by decide) rfl rfl (by omega) (by omega) (fun hh => absurd hh (by omega)) (fun _ => ?_)
    refine aw_aload_n (pc := 22) d_S_reached_22 rfl rfl ?_
    refine aw_get (pc := 23) d_S_reached_23 lf_S_15 hg_1 rfl ?_
    refine aw_iload (pc := 26) d_S_reached_26 rfl ?_
    refine aw_iconst (pc := 28) (v := 1) d_S_reached_28 (by decide) ?_
    refine aw_isub (pc := 29) d_S_reached_29 ?_
    refine aw_ildN (pc := 30) (j := i - 1) d_S_reached_30 hg_3 hW (pk_sub (a := i) (b := 1) (by omega)) (by omega) (by decide) ?_
    refine aw_iconst (pc := 31) (v := 1) d_S_reached_31 (by decide) ?_
    refine aw_iadd (pc := 32) d_S_reached_32 ?_
    refine aw_aload_n (pc := 33) d_S_reached_33 rfl rfl ?_
    refine aw_geti (pc := 34) (y := (nI (T 6 4) - 3)) d_S_reached_34 lf_S_43 hg_1 rfl hWi ?_
    refine aw_isub (pc := 37) d_S_reached_37 ?_
    refine aw_top (loss_e _ _) ?_
    refine aw_istore (pc := 38) (ls' := [(0, _), (1, _), (2, _), (3, _), (4, _), (5, _), (6, _)]) d_S_reached_38 (by decide) rfl ?_
    refine aw_iload (pc := 40) d_S_reached_40 rfl ?_
    refine aw_if_le (pc := 42) (tgt := 52) d_S_reached_42 (by decide) (fun h42 => ?_) (fun h42 => ?_)
    · refine aw_sub (ls' := [(0, _), (1, _), (2, _), (3, _), (4, _), (5, _)]) [0, 1, 2, 3, 4, 5] rfl ?_
      exact key L (by
        have h9 := (zI_le (by omega) (by decide)).mp (show zI _ ≤ zI 0 from h42)
        have h8 : eL T (i - 1) = 0 := by unfold eL; omega
        show L = _
        rw [ew, h8]; exact hLv)
    · refine aw_iload (pc := 45) d_S_reached_45 rfl ?_
      refine aw_iload (pc := 47) d_S_reached_47 rfl ?_
      refine aw_isub (pc := 49) d_S_reached_49 ?_
      refine aw_istore (pc := 50) (ls' := [(0, _), (1, _), (2, _), (3, _), (4, _), (5, _), (6, _)]) d_S_reached_50 (by decide) rfl ?_
      refine aw_sub (ls' := [(0, _), (1, _), (2, _), (3, _), (4, _), (5, _)]) [0, 1, 2, 3, 4, 5] rfl ?_
      have h9 : ¬ ((T 1 (i - 1) : Int) + 4 - T 6 4 ≤ 0) := fun z => h42 ((zI_le (by omega) (by decide)).mpr z)
      have h8 : (eL T (i - 1) : Int) = (T 1 (i - 1) : Int) + 4 - T 6 4 := by unfold eL; omega
      exact aw_eq (key (L - ((T 1 (i - 1) : Int) + 4 - T 6 4)) (by have h7 : L = (T 6 3 : Int) - dE T a (i - 1 - a) := hLv; omega)) rfl (by rw [zI_sub]) rfl
set_option maxHeartbeats 1000000 in
set_option maxRecDepth 20000 in
theorem c_S_hearers_1 (hT : okT T) (hE : enH A I 1 T) {a op : Nat} (ha : a < 12) (ho : op < 4096) : AD m_S_hearers r_S_hearers (HH A I J U) [.ref 1, .int (nI a), .int (nI op)] (some (.int (nI (HS T a op)))) (HH A I J U) := by
  refine am_of (by decide) rfl (by first | decide | exact Nat.le_of_ble_eq_true rfl) ?_
  refine aw_aload_n (pc := 0) d_S_hearers_0 rfl rfl ?_
  refine aw_iload_n (pc := 1) d_S_hearers_1 rfl rfl ?_
  refine aw_iconst (pc := 2) (v := 3) d_S_hearers_2 (by decide) ?_
  refine aw_callV1 (pc := 3) (c_S_reached_1 hT hE (le := 3) ha (by omega) (by omega)) ok_S_reached d_S_hearers_3 lm_S_73 hg_1 rfl rfl ⟨by decide, by decide⟩ (Nat.le_of_ble_eq_true rfl) rfl rfl ⟨by decide, by decide⟩ ?_
  refine aw_istore_n (pc := 6) (ls' := [(0, _), (1, _), (2, _), (3, _)]) d_S_hearers_6 rfl (by decide) rfl ?_
  refine aw_aload_n (pc := 7) d_S_hearers_7 rfl rfl ?_
  refine aw_iload_n (pc := 8) d_S_hearers_8 rfl rfl ?_
  refine aw_iconst (pc := 9) (v := 1) d_S_hearers_9 (by decide) ?_
  refine aw_callV1 (pc := 10) (c_S_reached_1 hT hE (le := 1) ha (by omega) (by omega)) ok_S_reached d_S_hearers_10 lm_S_73 hg_1 rfl rfl ⟨by decide, by decide⟩ (Nat.le_of_ble_eq_true rfl) rfl rfl ⟨by decide, by decide⟩ ?_
  refine aw_iload_n (pc := 13) d_S_hearers_13 rfl rfl ?_
  refine aw_iand (pc := 14) d_S_hearers_14 ?_
  refine aw_istore (pc := 15) (ls' := [(0, _), (1, _), (2, _), (3, _), (4, _)]) d_S_hearers_15 (by decide) rfl ?_
  refine aw_iload_n (pc := 17) d_S_hearers_17 rfl rfl ?_
  refine aw_iload (pc := 18) d_S_hearers_18 rfl ?_
  refine aw_ior (pc := 20) d_S_hearers_20 ?_
  refine aw_aload_n (pc := 21) d_S_hearers_21 rfl rfl ?_
  refine aw_geti (pc := 22) (y := (nI (T 6 1))) d_S_hearers_22 lf_S_34 hg_1 rfl hE.2.1 ?_
  refine aw_iconst (pc := 25) (v := (-1)) d_S_hearers_25 (by decide) ?_
  refine aw_ixor (pc := 26) d_S_hearers_26 ?_
  refine aw_iand (pc := 27) d_S_hearers_27 ?_
  refine aw_iret (pc := 28) d_S_hearers_28 rfl ?_
  refine ⟨?_, rfl⟩
  rw [fa_and, fa_or, andn (Nat.or_lt_two_pow (n := 12) (msk_lt _ _) (Nat.lt_of_le_of_lt Nat.and_le_left (msk_lt _ _)))]
  unfold HS
  congr 3
  apply msk_cong
  intro h hh
  rw [Nat.testBit_or, Nat.testBit_and, msk_bit, msk_bit, decide_eq_true hh]
  unfold rc he
  cases h1 : decide (h = a) <;> cases h2 : decide (3 ≤ ld T a h) <;> cases h3 : decide (1 ≤ ld T a h) <;> cases h4 : op.testBit h <;> cases h5 : (T 6 1).testBit h <;> rfl
set_option maxHeartbeats 1000000 in
set_option maxRecDepth 20000 in
theorem c_S_reached_22 (hT : okT T) (hE : enH A I 22 T) {a le : Nat} (ha : a < 12) (hl : 1 ≤ le) (hl2 : le ≤ 40) : AD m_S_reached r_S_reached (HH A I J U) [.ref 22, .int (nI a), .int (nI le)] (some (.int (nI (msk (rc T a le) 12)))) (HH A I J U) := by
  refine am_of (by decide) rfl (by first | decide | exact Nat.le_of_ble_eq_true rfl) ?_
  obtain ⟨hW, hDf, hV0, hWi⟩ := hE
  have hvo := hT.2.2.2.2.2.2.1
  have hwi := hT.2.2.2.2.2.2.2.1
  refine aw_iconst (pc := 0) (v := 1) d_S_reached_0 (by decide) ?_
  refine aw_iload_n (pc := 1) d_S_reached_1 rfl rfl ?_
  refine aw_ishl (pc := 2) d_S_reached_2 ?_
  refine aw_top (sh1 (by omega)) ?_
  refine aw_istore_n (pc := 3) (ls' := [(0, _), (1, _), (2, _), (3, _)]) d_S_reached_3 rfl (by decide) rfl ?_
  refine aw_aload_n (pc := 4) d_S_reached_4 rfl rfl ?_
  refine aw_geti (pc := 5) (y := (zI (T 6 3))) d_S_reached_5 lf_S_40 hg_22 rfl (by rw [hV0, zI_nI]) ?_
  refine aw_istore (pc := 8) (ls' := [(0, _), (1, _), (2, _), (3, _), (4, _)]) d_S_reached_8 (by decide) rfl ?_
  refine aw_iload_n (pc := 10) d_S_reached_10 rfl rfl ?_
  refine aw_iconst (pc := 11) (v := 1) d_S_reached_11 (by decide) ?_
  refine aw_iadd (pc := 12) d_S_reached_12 ?_
  refine aw_top (nI_1 a) ?_
  refine aw_istore (pc := 13) (ls' := [(0, _), (1, _), (2, _), (3, _), (4, _), (5, _)]) d_S_reached_13 (by decide) rfl ?_
  refine lp_i (fun i (x : Int × Nat) => AW m_S_reached r_S_reached ax_E0 (ax_Zm (fun q1 q2 => q1 = some (.int (nI (msk (rc T a le) 12))) ∧ q2 = HH A I J U) 0 0) (HH A I J U) 0 0 15 [(0, .ref 22), (1, .int (nI a)), (2, .int (nI le)), (3, .int (nI x.2)), (4, .int (zI x.1)), (5, .int (nI i))] []) (fun i x => a + 1 ≤ i ∧ x.1 = (T 6 3 : Int) - dE T a (i - 1 - a) ∧ x.2 < 4096 ∧ ∀ h, h < 12 → x.2.testBit h = (decide (h = a) || (decide (a < h ∧ h < i) && decide (le ≤ ld T a h)))) 12 ?_ ?_ (12 - (a + 1)) (a + 1) (T 6 3, 2 ^ a) (by omega) ⟨Nat.le_refl _, by show (T 6 3 : Int) = _ - ((dE T a (a + 1 - 1 - a) : Nat) : Int); rw [show a + 1 - 1 - a = 0 by omega, show dE T a 0 = 0 from rfl]; omega, (Nat.pow_lt_pow_right (show 1 < 2 by decide) ha : 2 ^ a < 2 ^ 12), fun h hh => by
      show (2 ^ a).testBit h = _
      rw [Nat.testBit_two_pow, decide_eq_false (show ¬ (a < h ∧ h < a + 1) by omega), Bool.false_and, Bool.or_false]
      exact decide_eq_decide.mpr ⟨fun z => z.symm, fun z => z.symm⟩⟩
  · rintro ⟨L, b⟩ ⟨-, -, hbl, hbb⟩
    refine aw_iload (pc := 15) d_S_reached_15 rfl ?_
    refine aw_bipush (pc := 17) (v := 12) d_S_reached_17 (by decide) ?_
    refine awn_ge (pc := 19) (tgt := 71) (12) (12) d_S_reached_19 (by decide) rfl rfl (by omega) (by omega) (fun _ => ?_) (fun hh => absurd hh (by omega))
    refine aw_aload_n (pc := 71) d_S_reached_71 rfl rfl ?_
    refine aw_geti (pc := 72) (y := (zI (T 6 3))) d_S_reached_72 lf_S_40 hg_22 rfl (by rw [hV0, zI_nI]) ?_
    refine aw_istore (pc := 75) (ls' := [(0, _), (1, _), (2, _), (3, _), (4, _), (5, _)]) d_S_reached_75 (by decide) rfl ?_
    refine aw_iload_n (pc := 77) d_S_reached_77 rfl rfl ?_
    refine aw_iconst (pc := 78) (v := 1) d_S_reached_78 (by decide) ?_
    refine aw_isub (pc := 79) d_S_reached_79 ?_
    refine aw_top (show nI a - 1 = zI ((a : Int) - 1 - (0 : Nat)) by rw [zI_nI, show (1 : Int32) = zI 1 from rfl, zI_sub]; congr 1; omega) ?_
    refine aw_istore (pc := 80) (ls' := [(0, _), (1, _), (2, _), (3, _), (4, _), (5, _)]) d_S_reached_80 (by decide) rfl ?_
    refine lp_i (fun j (x : Int × Nat) => AW m_S_reached r_S_reached ax_E0 (ax_Zm (fun q1 q2 => q1 = some (.int (nI (msk (rc T a le) 12))) ∧ q2 = HH A I J U) 0 0) (HH A I J U) 0 0 82 [(0, .ref 22), (1, .int (nI a)), (2, .int (nI le)), (3, .int (nI x.2)), (4, .int (zI x.1)), (5, .int (zI ((a : Int) - 1 - j)))] []) (fun j x => x.1 = (T 6 3 : Int) - dW T a j ∧ x.2 < 4096 ∧ ∀ h, h < 12 → x.2.testBit h = (decide (h = a) || (decide (a ≤ h + j) && decide (le ≤ ld T a h)))) a ?_ ?_ a 0 (T 6 3, b) (by omega) ⟨by show (T 6 3 : Int) = _ - ((dW T a 0 : Nat) : Int); rw [show dW T a 0 = 0 from rfl]; omega, hbl, fun h hh => by
        show b.testBit h = _
        rw [hbb h hh]
        by_cases h1 : h = a
        · simp [h1]
        · rw [decide_eq_decide.mpr (show (a < h ∧ h < 12) ↔ a ≤ h + 0 by omega)]⟩
    · rintro ⟨L, b⟩ ⟨-, hbl, hbb⟩
      refine aw_iload (pc := 82) d_S_reached_82 rfl ?_
      refine aw_if_lt (pc := 84) (tgt := 134) d_S_reached_84 (by decide) (fun _ => ?_) (fun hh => absurd (show zI ((a : Int) - 1 - a) < zI 0 from (zI_lt (by omega) (by decide)).mpr (by omega)) hh)
      refine aw_iload_n (pc := 134) d_S_reached_134 rfl rfl ?_
      refine aw_iret (pc := 135) d_S_reached_135 rfl ?_
      refine ⟨?_, rfl⟩
      show some (Value.int (nI b)) = _
      rw [show b = msk (rc T a le) 12 from msk_ext (n := 12) (p := rc T a le) hbl (fun h hh => by rw [hbb h hh, decide_eq_true (show a ≤ h + a by omega), Bool.true_and]; rfl)]
    · rintro j ⟨L, b⟩ hj ⟨hLv, hbl, hbb⟩ ih
      have hw9 := hT.2.1 (a - 1 - j) (by omega)
      have hdb := dW_b hT (a := a) (n := j) (by omega) (by omega)
      have ej : zI ((a : Int) - 1 - j) = nI (a - 1 - j) := by rw [zI_nI]; congr 1; omega
      have ew := dW_s T a j
      have elw := ld_w T (a := a) (h := a - 1 - j) (by omega)
      rw [show a - (a - 1 - j) = j + 1 by omega] at elw
      have bits : ∀ (c : Nat), (∀ h, h < 12 → c.testBit h = (b.testBit h || (decide (h = a - 1 - j) && decide (le ≤ ld T a h)))) → ∀ h, h < 12 → c.testBit h = (decide (h = a) || (decide (a ≤ h + (j + 1)) && decide (le ≤ ld T a h))) := by
        intro c hc h hh
        rw [hc h hh, hbb h hh]
        by_cases h1 : h = a - 1 - j
        · rw [decide_eq_true h1, decide_eq_false (show ¬ h = a by omega), decide_eq_false (show ¬ a ≤ h + j by omega), decide_eq_true (show a ≤ h + (j + 1) by omega)]; simp
        · rw [decide_eq_false h1, decide_eq_decide.mpr (show (a ≤ h + j) ↔ a ≤ h + (j + 1) by omega), Bool.false_and, Bool.or_false]
      have key : ∀ L', L' = (T 6 3 : Int) - dW T a (j + 1) → AW m_S_reached r_S_reached ax_E0 (ax_Zm (fun q1 q2 => q1 = some (.int (nI (msk (rc T a le) 12))) ∧ q2 = HH A I J U) 0 0) (HH A I J U) 0 0 115 [(0, .ref 22), (1, .int (nI a)), (2, .int (nI le)), (3, .int (nI b)), (4, .int (zI L')), (5, .int (zI ((a : Int) - 1 - j)))] [] := by
        intro L' hL'
        have hdb2 := dW_b hT (a := a) (n := j + 1) (by omega) (by omega)
        refine aw_iload (pc := 115) d_S_reached_115 rfl ?_
        refine aw_iload_n (pc := 117) d_S_reached_117 rfl rfl ?_
        refine aw_icmp_lt (pc := 118) (tgt := 128) d_S_reached_118 (by decide) (fun h118 => ?_) (fun h118 => ?_)
        · refine aw_iinc (pc := 128) (ls' := [(0, _), (1, _), (2, _), (3, _), (4, _), (5, _)]) d_S_reached_128 rfl rfl (by decide) rfl ?_
          refine aw_goto (pc := 131) (tgt := 82) d_S_reached_131 (by decide) ?_
          refine aw_eq (ih (L', b) ⟨hL', hbl, bits b (fun h hh => ?_)⟩) rfl (by rw [show Int32.ofInt (-1) = zI (-1) from rfl, zI_add, show (a : Int) - 1 - j + -1 = (a : Int) - 1 - ((j + 1 : Nat) : Int) by omega]) rfl
          have h9 : L' < le := (zI_lt (by omega) (by omega)).mp (by rw [← zI_nI]; exact h118)
          by_cases h1 : h = a - 1 - j
          · subst h1
            rw [decide_eq_false (show ¬ le ≤ ld T a (a - 1 - j) by omega), Bool.and_false, Bool.or_false]
          · rw [decide_eq_false h1, Bool.false_and, Bool.or_false]
        · refine aw_iload_n (pc := 121) d_S_reached_121 rfl rfl ?_
          refine aw_iconst (pc := 122) (v := 1) d_S_reached_122 (by decide) ?_
          refine aw_eq (ls' := [(0, .ref 22), (1, .int (nI a)), (2, .int (nI le)), (3, .int (nI b)), (4, .int (zI L')), (5, .int (nI (a - 1 - j)))]) ?_ rfl (by rw [ej]) rfl
          refine aw_iload (pc := 123) d_S_reached_123 rfl ?_
          refine aw_ishl (pc := 125) d_S_reached_125 ?_
          refine aw_ior (pc := 126) d_S_reached_126 ?_
          refine aw_top (or_bit (by omega)) ?_
          refine aw_istore_n (pc := 127) (ls' := [(0, _), (1, _), (2, _), (3, _), (4, _), (5, _)]) d_S_reached_127 rfl (by decide) rfl ?_
          refine aw_iinc (pc := 128) (ls' := [(0, _), (1, _), (2, _), (3, _), (4, _), (5, _)]) d_S_reached_128 rfl rfl (by decide) rfl ?_
          refine aw_goto (pc := 131) (tgt := 82) d_S_reached_131 (by decide) ?_
          refine aw_eq (ih (L', b ||| 2 ^ (a - 1 - j)) ⟨hL', or_lt hbl (by omega), bits _ (fun h hh => ?_)⟩) rfl (by rw [← ej, show Int32.ofInt (-1) = zI (-1) from rfl, zI_add, show (a : Int) - 1 - j + -1 = (a : Int) - 1 - ((j + 1 : Nat) : Int) by omega]) rfl
          have h9 : ¬ L' < le := fun z => h118 (by rw [zI_nI]; exact (zI_lt (by omega) (by omega)).mpr z)
          rw [fb_bit_set]
          by_cases h1 : h = a - 1 - j
          · subst h1
            rw [decide_eq_true (show le ≤ ld T a (a - 1 - j) by omega), Bool.and_true]
          · rw [decide_eq_false h1, Bool.false_and]
      refine aw_iload (pc := 82) d_S_reached_82 rfl ?_
      refine aw_if_lt (pc := 84) (tgt := 134) d_S_reached_84 (by decide) (fun hh => absurd hh (fun z => absurd ((zI_lt (by omega) (by decide)).mp (show zI ((a : Int) - 1 - j) < zI 0 from z)) (by omega))) (fun _ => ?_)
      refine aw_aload_n (pc := 87) d_S_reached_87 rfl rfl ?_
      refine aw_get (pc := 88) d_S_reached_88 lf_S_15 hg_22 rfl ?_
      refine aw_iload (pc := 91) d_S_reached_91 rfl ?_
      refine aw_ildN (pc := 93) (j := a - 1 - j) d_S_reached_93 hg_24 hW ej (by omega) (by decide) ?_
      refine aw_iconst (pc := 94) (v := 1) d_S_reached_94 (by decide) ?_
      refine aw_iadd (pc := 95) d_S_reached_95 ?_
      refine aw_aload_n (pc := 96) d_S_reached_96 rfl rfl ?_
      refine aw_geti (pc := 97) (y := (nI (T 6 4) - 3)) d_S_reached_97 lf_S_43 hg_22 rfl hWi ?_
      refine aw_iadd (pc := 100) d_S_reached_100 ?_
      refine aw_top (loss_w _ _) ?_
      refine aw_istore (pc := 101) (ls' := [(0, _), (1, _), (2, _), (3, _), (4, _), (5, _), (6, _)]) d_S_reached_101 (by decide) rfl ?_
      refine aw_iload (pc := 103) d_S_reached_103 rfl ?_
      refine aw_if_le (pc := 105) (tgt := 115) d_S_reached_105 (by decide) (fun h105 => ?_) (fun h105 => ?_)
      · refine aw_sub (ls' := [(0, _), (1, _), (2, _), (3, _), (4, _), (5, _)]) [0, 1, 2, 3, 4, 5] rfl ?_
        exact key L (by
          have h9 := (zI_le (by omega) (by decide)).mp (show zI _ ≤ zI 0 from h105)
          have h8 : wL T (a - 1 - j) = 0 := by unfold wL; omega
          show L = _
          rw [ew, h8]; exact hLv)
      · refine aw_iload (pc := 108) d_S_reached_108 rfl ?_
        refine aw_iload (pc := 110) d_S_reached_110 rfl ?_
        refine aw_isub (pc := 112) d_S_reached_112 ?_
        refine aw_istore (pc := 113) (ls' := [(0, _), (1, _), (2, _), (3, _), (4, _), (5, _), (6, _)]) d_S_reached_113 (by decide) rfl ?_
        refine aw_sub (ls' := [(0, _), (1, _), (2, _), (3, _), (4, _), (5, _)]) [0, 1, 2, 3, 4, 5] rfl ?_
        have h9 : ¬ ((T 1 (a - 1 - j) : Int) + T 6 4 - 2 ≤ 0) := fun z => h105 ((zI_le (by omega) (by decide)).mpr z)
        have h8 : (wL T (a - 1 - j) : Int) = (T 1 (a - 1 - j) : Int) + T 6 4 - 2 := by unfold wL; omega
        exact aw_eq (key (L - ((T 1 (a - 1 - j) : Int) + T 6 4 - 2)) (by rw [ew]; have h7 : L = (T 6 3 : Int) - dW T a j := hLv; omega)) rfl (by rw [zI_sub]) rfl
  · rintro i ⟨L, b⟩ hi ⟨hai, hLv, hbl, hbb⟩ ih
    have hw9 := hT.2.1 (i - 1) (by omega)
    have hdb := dE_b hT (a := a) (n := i - 1 - a) (by omega)
    have ew := dE_s T a (i - 1 - a)
    rw [show a + (i - 1 - a) = i - 1 by omega, show i - 1 - a + 1 = i + 1 - 1 - a by omega] at ew
    have ele := ld_e T (a := a) (h := i) (by omega)
    rw [show i - a = i + 1 - 1 - a by omega] at ele
    have bits : ∀ (c : Nat), (∀ h, h < 12 → c.testBit h = (b.testBit h || (decide (h = i) && decide (le ≤ ld T a h)))) → ∀ h, h < 12 → c.testBit h = (decide (h = a) || (decide (a < h ∧ h < i + 1) && decide (le ≤ ld T a h))) := by
      intro c hc h hh
      rw [hc h hh, hbb h hh]
      by_cases h1 : h = i
      · rw [decide_eq_true h1, decide_eq_false (show ¬ h = a by omega), decide_eq_false (show ¬ (a < h ∧ h < i) by omega), decide_eq_true (show a < h ∧ h < i + 1 by omega)]; simp
      · rw [decide_eq_false h1, decide_eq_decide.mpr (show (a < h ∧ h < i) ↔ (a < h ∧ h < i + 1) by omega), Bool.false_and, Bool.or_false]
    have key : ∀ L', L' = (T 6 3 : Int) - dE T a (i + 1 - 1 - a) → AW m_S_reached r_S_reached ax_E0 (ax_Zm (fun q1 q2 => q1 = some (.int (nI (msk (rc T a le) 12))) ∧ q2 = HH A I J U) 0 0) (HH A I J U) 0 0 52 [(0, .ref 22), (1, .int (nI a)), (2, .int (nI le)), (3, .int (nI b)), (4, .int (zI L')), (5, .int (nI i))] [] := by
      intro L' hL'
      have hdb2 := dE_b hT (a := a) (n := i + 1 - 1 - a) (by omega)
      refine aw_iload (pc := 52) d_S_reached_52 rfl ?_
      refine aw_iload_n (pc := 54) d_S_reached_54 rfl rfl ?_
      refine aw_icmp_lt (pc := 55) (tgt := 65) d_S_reached_55 (by decide) (fun h55 => ?_) (fun h55 => ?_)
      · refine aw_incN (pc := 65) (ls' := [(0, _), (1, _), (2, _), (3, _), (4, _), (5, _)]) (i := i) d_S_reached_65 rfl rfl (by decide) rfl ?_
        refine aw_goto (pc := 68) (tgt := 15) d_S_reached_68 (by decide) ?_
        refine ih (L', b) ⟨by omega, hL', hbl, bits b (fun h hh => ?_)⟩
        have h9 : L' < le := (zI_lt (by omega) (by omega)).mp (by rw [← zI_nI]; exact h55)
        by_cases h1 : h = i
        · subst h1
          rw [decide_eq_false (show ¬ le ≤ ld T a h by omega), Bool.and_false, Bool.or_false]
        · rw [decide_eq_false h1, Bool.false_and, Bool.or_false]
      · refine aw_iload_n (pc := 58) d_S_reached_58 rfl rfl ?_
        refine aw_iconst (pc := 59) (v := 1) d_S_reached_59 (by decide) ?_
        refine aw_iload (pc := 60) d_S_reached_60 rfl ?_
        refine aw_ishl (pc := 62) d_S_reached_62 ?_
        refine aw_ior (pc := 63) d_S_reached_63 ?_
        refine aw_top (or_bit (by omega)) ?_
        refine aw_istore_n (pc := 64) (ls' := [(0, _), (1, _), (2, _), (3, _), (4, _), (5, _)]) d_S_reached_64 rfl (by decide) rfl ?_
        refine aw_incN (pc := 65) (ls' := [(0, _), (1, _), (2, _), (3, _), (4, _), (5, _)]) (i := i) d_S_reached_65 rfl rfl (by decide) rfl ?_
        refine aw_goto (pc := 68) (tgt := 15) d_S_reached_68 (by decide) ?_
        refine ih (L', b ||| 2 ^ i) ⟨by omega, hL', or_lt hbl (by omega), bits _ (fun h hh => ?_)⟩
        have h9 : ¬ L' < le := fun z => h55 (by rw [zI_nI]; exact (zI_lt (by omega) (by omega)).mpr z)
        rw [fb_bit_set]
        by_cases h1 : h = i
        · subst h1
          rw [decide_eq_true (show le ≤ ld T a h by omega), Bool.and_true]
        · rw [decide_eq_false h1, Bool.false_and]
    refine aw_iload (pc := 15) d_S_reached_15 rfl ?_
    refine aw_bipush (pc := 17) (v := 12) d_S_reached_17 (by decide) ?_
    refine awn_ge (pc := 19) (tgt := 71) (i) (12) d_S_reached_19 (by decide) rfl rfl (by omega) (by omega) (fun hh => absurd hh (by omega)) (fun _ => ?_)
    refine aw_aload_n (pc := 22) d_S_reached_22 rfl rfl ?_
    refine aw_get (pc := 23) d_S_reached_23 lf_S_15 hg_22 rfl ?_
    refine aw_iload (pc := 26) d_S_reached_26 rfl ?_
    refine aw_iconst (pc := 28) (v := 1) d_S_reached_28 (by decide) ?_
    refine aw_isub (pc := 29) d_S_reached_29 ?_
    refine aw_ildN (pc := 30) (j := i - 1) d_S_reached_30 hg_24 hW (pk_sub (a := i) (b := 1) (by omega)) (by omega) (by decide) ?_
    refine aw_iconst (pc := 31) (v := 1) d_S_reached_31 (by decide) ?_
    refine aw_iadd (pc := 32) d_S_reached_32 ?_
    refine aw_aload_n (pc := 33) d_S_reached_33 rfl rfl ?_
    refine aw_geti (pc := 34) (y := (nI (T 6 4) - 3)) d_S_reached_34 lf_S_43 hg_22 rfl hWi ?_
    refine aw_isub (pc := 37) d_S_reached_37 ?_
    refine aw_top (loss_e _ _) ?_
    refine aw_istore (pc := 38) (ls' := [(0, _), (1, _), (2, _), (3, _), (4, _), (5, _), (6, _)]) d_S_reached_38 (by decide) rfl ?_
    refine aw_iload (pc := 40) d_S_reached_40 rfl ?_
    refine aw_if_le (pc := 42) (tgt := 52) d_S_reached_42 (by decide) (fun h42 => ?_) (fun h42 => ?_)
    · refine aw_sub (ls' := [(0, _), (1, _), (2, _), (3, _), (4, _), (5, _)]) [0, 1, 2, 3, 4, 5] rfl ?_
      exact key L (by
        have h9 := (zI_le (by omega) (by decide)).mp (show zI _ ≤ zI 0 from h42)
        have h8 : eL T (i - 1) = 0 := by unfold eL; omega
        show L = _
        rw [ew, h8]; exact hLv)
    · refine aw_iload (pc := 45) d_S_reached_45 rfl ?_
      refine aw_iload (pc := 47) d_S_reached_47 rfl ?_
      refine aw_isub (pc := 49) d_S_reached_49 ?_
      refine aw_istore (pc := 50) (ls' := [(0, _), (1, _), (2, _), (3, _), (4, _), (5, _), (6, _)]) d_S_reached_50 (by decide) rfl ?_
      refine aw_sub (ls' := [(0, _), (1, _), (2, _), (3, _), (4, _), (5, _)]) [0, 1, 2, 3, 4, 5] rfl ?_
      have h9 : ¬ ((T 1 (i - 1) : Int) + 4 - T 6 4 ≤ 0) := fun z => h42 ((zI_le (by omega) (by decide)).mpr z)
      have h8 : (eL T (i - 1) : Int) = (T 1 (i - 1) : Int) + 4 - T 6 4 := by unfold eL; omega
      exact aw_eq (key (L - ((T 1 (i - 1) : Int) + 4 - T 6 4)) (by have h7 : L = (T 6 3 : Int) - dE T a (i - 1 - a) := hLv; omega)) rfl (by rw [zI_sub]) rfl
set_option maxHeartbeats 1000000 in
set_option maxRecDepth 20000 in
theorem c_S_hearers_22 (hT : okT T) (hE : enH A I 22 T) {a op : Nat} (ha : a < 12) (ho : op < 4096) : AD m_S_hearers r_S_hearers (HH A I J U) [.ref 22, .int (nI a), .int (nI op)] (some (.int (nI (HS T a op)))) (HH A I J U) := by
  refine am_of (by decide) rfl (by first | decide | exact Nat.le_of_ble_eq_true rfl) ?_
  refine aw_aload_n (pc := 0) d_S_hearers_0 rfl rfl ?_
  refine aw_iload_n (pc := 1) d_S_hearers_1 rfl rfl ?_
  refine aw_iconst (pc := 2) (v := 3) d_S_hearers_2 (by decide) ?_
  refine aw_callV1 (pc := 3) (c_S_reached_22 hT hE (le := 3) ha (by omega) (by omega)) ok_S_reached d_S_hearers_3 lm_S_73 hg_22 rfl rfl ⟨by decide, by decide⟩ (Nat.le_of_ble_eq_true rfl) rfl rfl ⟨by decide, by decide⟩ ?_
  refine aw_istore_n (pc := 6) (ls' := [(0, _), (1, _), (2, _), (3, _)]) d_S_hearers_6 rfl (by decide) rfl ?_
  refine aw_aload_n (pc := 7) d_S_hearers_7 rfl rfl ?_
  refine aw_iload_n (pc := 8) d_S_hearers_8 rfl rfl ?_
  refine aw_iconst (pc := 9) (v := 1) d_S_hearers_9 (by decide) ?_
  refine aw_callV1 (pc := 10) (c_S_reached_22 hT hE (le := 1) ha (by omega) (by omega)) ok_S_reached d_S_hearers_10 lm_S_73 hg_22 rfl rfl ⟨by decide, by decide⟩ (Nat.le_of_ble_eq_true rfl) rfl rfl ⟨by decide, by decide⟩ ?_
  refine aw_iload_n (pc := 13) d_S_hearers_13 rfl rfl ?_
  refine aw_iand (pc := 14) d_S_hearers_14 ?_
  refine aw_istore (pc := 15) (ls' := [(0, _), (1, _), (2, _), (3, _), (4, _)]) d_S_hearers_15 (by decide) rfl ?_
  refine aw_iload_n (pc := 17) d_S_hearers_17 rfl rfl ?_
  refine aw_iload (pc := 18) d_S_hearers_18 rfl ?_
  refine aw_ior (pc := 20) d_S_hearers_20 ?_
  refine aw_aload_n (pc := 21) d_S_hearers_21 rfl rfl ?_
  refine aw_geti (pc := 22) (y := (nI (T 6 1))) d_S_hearers_22 lf_S_34 hg_22 rfl hE.2.1 ?_
  refine aw_iconst (pc := 25) (v := (-1)) d_S_hearers_25 (by decide) ?_
  refine aw_ixor (pc := 26) d_S_hearers_26 ?_
  refine aw_iand (pc := 27) d_S_hearers_27 ?_
  refine aw_iret (pc := 28) d_S_hearers_28 rfl ?_
  refine ⟨?_, rfl⟩
  rw [fa_and, fa_or, andn (Nat.or_lt_two_pow (n := 12) (msk_lt _ _) (Nat.lt_of_le_of_lt Nat.and_le_left (msk_lt _ _)))]
  unfold HS
  congr 3
  apply msk_cong
  intro h hh
  rw [Nat.testBit_or, Nat.testBit_and, msk_bit, msk_bit, decide_eq_true hh]
  unfold rc he
  cases h1 : decide (h = a) <;> cases h2 : decide (3 ≤ ld T a h) <;> cases h3 : decide (1 ≤ ld T a h) <;> cases h4 : op.testBit h <;> cases h5 : (T 6 1).testBit h <;> rfl
set_option maxHeartbeats 1000000 in
set_option maxRecDepth 20000 in
theorem c_M_loudAt (hT : okT T) (hE : enG A I T) {a h : Nat} (ha : a < 12) (hh : h < 12) : AD m_M_loudAt r_M_loudAt (HH A I J U) [.ref 36, .int (nI a), .int (nI h)] (some (.int (nI (ld T a h)))) (HH A I J U) := by
  refine am_of (by decide) rfl (by first | decide | exact Nat.le_of_ble_eq_true rfl) ?_
  obtain ⟨hW, hDf, hV0, hWi⟩ := hE
  have hvo := hT.2.2.2.2.2.2.1
  have hwi := hT.2.2.2.2.2.2.2.1
  refine aw_aload_n (pc := 0) d_M_loudAt_0 rfl rfl ?_
  refine aw_geti (pc := 1) (y := (nI (T 6 3))) d_M_loudAt_1 lf_M_19 hg_36 rfl hV0 ?_
  refine aw_istore_n (pc := 4) (ls' := [(0, _), (1, _), (2, _), (3, _)]) d_M_loudAt_4 rfl (by decide) rfl ?_
  refine aw_iload_n (pc := 5) d_M_loudAt_5 rfl rfl ?_
  refine aw_istore (pc := 6) (ls' := [(0, _), (1, _), (2, _), (3, _), (4, _)]) d_M_loudAt_6 (by decide) rfl ?_
  refine lp_i (fun i L => AW m_M_loudAt r_M_loudAt ax_E0 (ax_Zm (fun q1 q2 => q1 = some (.int (nI (ld T a h))) ∧ q2 = HH A I J U) 0 0) (HH A I J U) 0 0 8 [(0, .ref 36), (1, .int (nI a)), (2, .int (nI h)), (3, .int (nI L)), (4, .int (nI i))] []) (fun i L => a ≤ i ∧ L = T 6 3 - dE T a (i - a)) (max a h) ?_ ?_ (max a h - a) a (T 6 3) (by omega) ⟨Nat.le_refl _, by rw [Nat.sub_self, show dE T a 0 = 0 from rfl]; omega⟩
  · intro L hV
    refine aw_iload (pc := 8) d_M_loudAt_8 rfl ?_
    refine aw_iload_n (pc := 10) d_M_loudAt_10 rfl rfl ?_
    refine awn_ge (pc := 11) (tgt := 61) (max a h) (h) d_M_loudAt_11 (by decide) rfl rfl (by omega) (by omega) (fun _ => ?_) (fun hh => absurd hh (by omega))
    refine aw_iload_n (pc := 61) d_M_loudAt_61 rfl rfl ?_
    refine aw_istore (pc := 62) (ls' := [(0, _), (1, _), (2, _), (3, _), (4, _)]) d_M_loudAt_62 (by decide) rfl ?_
    rw [hV.2, show max a h - a = h - a by omega]
    refine lp_i (fun j L => AW m_M_loudAt r_M_loudAt ax_E0 (ax_Zm (fun q1 q2 => q1 = some (.int (nI (ld T a h))) ∧ q2 = HH A I J U) 0 0) (HH A I J U) 0 0 64 [(0, .ref 36), (1, .int (nI a)), (2, .int (nI h)), (3, .int (nI L)), (4, .int (nI (a - j)))] []) (fun j L => L = T 6 3 - dE T a (h - a) - dW T a j) (a - h) ?_ ?_ (a - h) 0 (T 6 3 - dE T a (h - a)) (by omega) (by rw [show dW T a 0 = 0 from rfl]; omega)
    · intro L hV
      refine aw_iload (pc := 64) d_M_loudAt_64 rfl ?_
      refine aw_iload_n (pc := 66) d_M_loudAt_66 rfl rfl ?_
      refine awn_le (pc := 67) (tgt := 119) (a - (a - h)) (h) d_M_loudAt_67 (by decide) rfl rfl (by omega) (by omega) (fun _ => ?_) (fun hh => absurd hh (by omega))
      refine aw_iload_n (pc := 119) d_M_loudAt_119 rfl rfl ?_
      refine aw_iret (pc := 120) d_M_loudAt_120 rfl ?_
      refine ⟨?_, rfl⟩
      rw [hV]
      congr 3
      unfold ld; omega
    · intro j L hj hV ih
      have hw9 := hT.2.1 (a - 1 - j) (by omega)
      have ew := dW_s T a j
      have el : (wL T (a - 1 - j) : Int) = (T 1 (a - 1 - j) : Int) + T 6 4 - 2 ∨ (wL T (a - 1 - j) = 0 ∧ (T 1 (a - 1 - j) : Int) + T 6 4 - 2 ≤ 0) := by unfold wL; omega
      refine aw_iload (pc := 64) d_M_loudAt_64 rfl ?_
      refine aw_iload_n (pc := 66) d_M_loudAt_66 rfl rfl ?_
      refine awn_le (pc := 67) (tgt := 119) (a - j) (h) d_M_loudAt_67 (by decide) rfl rfl (by omega) (by omega) (fun hh => absurd hh (by omega)) (fun _ => ?_)
      refine aw_iload_n (pc := 70) d_M_loudAt_70 rfl rfl ?_
      refine aw_iconst (pc := 71) (v := 1) d_M_loudAt_71 (by decide) ?_
      refine aw_isub (pc := 72) d_M_loudAt_72 ?_
      refine aw_aload_n (pc := 73) d_M_loudAt_73 rfl rfl ?_
      refine aw_get (pc := 74) d_M_loudAt_74 lf_M_16 hg_36 rfl ?_
      refine aw_iload (pc := 77) d_M_loudAt_77 rfl ?_
      refine aw_iconst (pc := 79) (v := 1) d_M_loudAt_79 (by decide) ?_
      refine aw_isub (pc := 80) d_M_loudAt_80 ?_
      refine aw_ildN (pc := 81) (j := a - 1 - j) d_M_loudAt_81 hg_39 hW (show nI (a - j) - 1 = nI (a - 1 - j) by rw [show a - j = (a - 1 - j) + 1 by omega]; exact nI_pred _) (by omega) (by decide) ?_
      refine aw_isub (pc := 82) d_M_loudAt_82 ?_
      refine aw_aload_n (pc := 83) d_M_loudAt_83 rfl rfl ?_
      refine aw_geti (pc := 84) (y := (nI (T 6 4) - 3)) d_M_loudAt_84 lf_M_60 hg_36 rfl hWi ?_
      refine aw_isub (pc := 87) d_M_loudAt_87 ?_
      refine aw_top (y := zI ((L : Int) - ((T 1 (a - 1 - j) : Int) + T 6 4 - 2))) (by rw [zI_nI, zI_nI, zI_nI, show (1 : Int32) = zI 1 from rfl, show (3 : Int32) = zI 3 from rfl, zI_sub, zI_sub, zI_sub, zI_sub]; congr 1; omega) ?_
      refine aw_istore (pc := 88) (ls' := [(0, _), (1, _), (2, _), (3, _), (4, _), (5, _)]) d_M_loudAt_88 (by decide) rfl ?_
      refine aw_iload (pc := 90) d_M_loudAt_90 rfl ?_
      refine aw_iload_n (pc := 92) d_M_loudAt_92 rfl rfl ?_
      refine aw_icmp_ge (pc := 93) (tgt := 101) d_M_loudAt_93 (by decide) (fun h93 => ?_) (fun h93 => ?_)
      · have h9 : (L : Int) ≤ (L : Int) - ((T 1 (a - 1 - j) : Int) + T 6 4 - 2) := (zI_le (by omega) (by omega)).mp (by rw [← zI_nI]; exact h93)
        refine aw_iload_n (pc := 101) d_M_loudAt_101 rfl rfl ?_
        refine aw_istore_n (pc := 102) (ls' := [(0, _), (1, _), (2, _), (3, _), (4, _), (5, _)]) d_M_loudAt_102 rfl (by decide) rfl ?_
        refine aw_iload_n (pc := 103) d_M_loudAt_103 rfl rfl ?_
        refine aw_if_ge (pc := 104) (tgt := 111) d_M_loudAt_104 (by decide) (fun _ => ?_) (fun hh => absurd (show (0 : Int32) ≤ nI L from nI_pos' (by omega)) hh)
        refine aw_iload_n (pc := 111) d_M_loudAt_111 rfl rfl ?_
        refine aw_istore_n (pc := 112) (ls' := [(0, _), (1, _), (2, _), (3, _), (4, _), (5, _)]) d_M_loudAt_112 rfl (by decide) rfl ?_
        refine aw_decN (pc := 113) (ls' := [(0, _), (1, _), (2, _), (3, _), (4, _), (5, _)]) (i := a - (j + 1)) d_M_loudAt_113 rfl (by rw [show a - j = a - (j + 1) + 1 by omega]) (by decide) rfl ?_
        refine aw_goto (pc := 116) (tgt := 64) d_M_loudAt_116 (by decide) ?_
        refine aw_sub (ls' := [(0, _), (1, _), (2, _), (3, _), (4, _)]) [0, 1, 2, 3, 4] rfl ?_
        exact ih L (by omega)
      · have h9 : ¬ (L : Int) ≤ (L : Int) - ((T 1 (a - 1 - j) : Int) + T 6 4 - 2) := fun z => h93 (by rw [zI_nI]; exact (zI_le (by omega) (by omega)).mpr z)
        refine aw_iload (pc := 96) d_M_loudAt_96 rfl ?_
        refine aw_goto (pc := 98) (tgt := 102) d_M_loudAt_98 (by decide) ?_
        refine aw_istore_n (pc := 102) (ls' := [(0, _), (1, _), (2, _), (3, _), (4, _), (5, _)]) d_M_loudAt_102 rfl (by decide) rfl ?_
        refine aw_iload_n (pc := 103) d_M_loudAt_103 rfl rfl ?_
        refine aw_if_ge (pc := 104) (tgt := 111) d_M_loudAt_104 (by decide) (fun h104 => ?_) (fun h104 => ?_)
        · have h8 := (zI_le (by decide) (by omega)).mp (show zI 0 ≤ _ from h104)
          refine aw_iload_n (pc := 111) d_M_loudAt_111 rfl rfl ?_
          refine aw_istore_n (pc := 112) (ls' := [(0, _), (1, _), (2, _), (3, _), (4, _), (5, _)]) d_M_loudAt_112 rfl (by decide) rfl ?_
          refine aw_decN (pc := 113) (ls' := [(0, _), (1, _), (2, _), (3, _), (4, _), (5, _)]) (i := a - (j + 1)) d_M_loudAt_113 rfl (by rw [show a - j = a - (j + 1) + 1 by omega]) (by decide) rfl ?_
          refine aw_goto (pc := 116) (tgt := 64) d_M_loudAt_116 (by decide) ?_
          refine aw_sub (ls' := [(0, _), (1, _), (2, _), (3, _), (4, _)]) [0, 1, 2, 3, 4] rfl ?_
          exact aw_eq (ih (L - wL T (a - 1 - j)) (by omega)) rfl (by rw [show nI (L - wL T (a - 1 - j)) = zI ((L : Int) - ((T 1 (a - 1 - j) : Int) + T 6 4 - 2)) by rw [zI_nI]; congr 1; omega]) rfl
        · have h8 : ¬ (0 : Int) ≤ (L : Int) - ((T 1 (a - 1 - j) : Int) + T 6 4 - 2) := fun z => h104 (show zI 0 ≤ _ from (zI_le (by decide) (by omega)).mpr z)
          refine aw_iconst (pc := 107) (v := 0) d_M_loudAt_107 (by decide) ?_
          refine aw_goto (pc := 108) (tgt := 112) d_M_loudAt_108 (by decide) ?_
          refine aw_istore_n (pc := 112) (ls' := [(0, _), (1, _), (2, _), (3, _), (4, _), (5, _)]) d_M_loudAt_112 rfl (by decide) rfl ?_
          refine aw_decN (pc := 113) (ls' := [(0, _), (1, _), (2, _), (3, _), (4, _), (5, _)]) (i := a - (j + 1)) d_M_loudAt_113 rfl (by rw [show a - j = a - (j + 1) + 1 by omega]) (by decide) rfl ?_
          refine aw_goto (pc := 116) (tgt := 64) d_M_loudAt_116 (by decide) ?_
          refine aw_sub (ls' := [(0, _), (1, _), (2, _), (3, _), (4, _)]) [0, 1, 2, 3, 4] rfl ?_
          exact ih 0 (by omega)
  · intro i L hi hV ih
    have hw9 := hT.2.1 i (by omega)
    have ew := dE_s T a (i - a)
    rw [show a + (i - a) = i by omega, show i - a + 1 = i + 1 - a by omega] at ew
    have el : (eL T i : Int) = (T 1 i : Int) + 4 - T 6 4 ∨ (eL T i = 0 ∧ (T 1 i : Int) + 4 - T 6 4 ≤ 0) := by unfold eL; omega
    refine aw_iload (pc := 8) d_M_loudAt_8 rfl ?_
    refine aw_iload_n (pc := 10) d_M_loudAt_10 rfl rfl ?_
    refine awn_ge (pc := 11) (tgt := 61) (i) (h) d_M_loudAt_11 (by decide) rfl rfl (by omega) (by omega) (fun hh => absurd hh (by omega)) (fun _ => ?_)
    refine aw_iload_n (pc := 14) d_M_loudAt_14 rfl rfl ?_
    refine aw_iconst (pc := 15) (v := 1) d_M_loudAt_15 (by decide) ?_
    refine aw_isub (pc := 16) d_M_loudAt_16 ?_
    refine aw_aload_n (pc := 17) d_M_loudAt_17 rfl rfl ?_
    refine aw_get (pc := 18) d_M_loudAt_18 lf_M_16 hg_36 rfl ?_
    refine aw_iload (pc := 21) d_M_loudAt_21 rfl ?_
    refine aw_ildN (pc := 23) (j := i) d_M_loudAt_23 hg_39 hW rfl (by omega) (by decide) ?_
    refine aw_isub (pc := 24) d_M_loudAt_24 ?_
    refine aw_aload_n (pc := 25) d_M_loudAt_25 rfl rfl ?_
    refine aw_geti (pc := 26) (y := (nI (T 6 4) - 3)) d_M_loudAt_26 lf_M_60 hg_36 rfl hWi ?_
    refine aw_iadd (pc := 29) d_M_loudAt_29 ?_
    refine aw_top (y := zI ((L : Int) - ((T 1 i : Int) + 4 - T 6 4))) (by rw [zI_nI, zI_nI, zI_nI, show (1 : Int32) = zI 1 from rfl, show (3 : Int32) = zI 3 from rfl, zI_sub, zI_sub, zI_sub, zI_add]; congr 1; omega) ?_
    refine aw_istore (pc := 30) (ls' := [(0, _), (1, _), (2, _), (3, _), (4, _), (5, _)]) d_M_loudAt_30 (by decide) rfl ?_
    refine aw_iload (pc := 32) d_M_loudAt_32 rfl ?_
    refine aw_iload_n (pc := 34) d_M_loudAt_34 rfl rfl ?_
    refine aw_icmp_ge (pc := 35) (tgt := 43) d_M_loudAt_35 (by decide) (fun h35 => ?_) (fun h35 => ?_)
    · have h9 : (L : Int) ≤ (L : Int) - ((T 1 i : Int) + 4 - T 6 4) := (zI_le (by omega) (by omega)).mp (by rw [← zI_nI]; exact h35)
      refine aw_iload_n (pc := 43) d_M_loudAt_43 rfl rfl ?_
      refine aw_istore_n (pc := 44) (ls' := [(0, _), (1, _), (2, _), (3, _), (4, _), (5, _)]) d_M_loudAt_44 rfl (by decide) rfl ?_
      refine aw_iload_n (pc := 45) d_M_loudAt_45 rfl rfl ?_
      refine aw_if_ge (pc := 46) (tgt := 53) d_M_loudAt_46 (by decide) (fun _ => ?_) (fun hh => absurd (show (0 : Int32) ≤ nI L from nI_pos' (by omega)) hh)
      refine aw_iload_n (pc := 53) d_M_loudAt_53 rfl rfl ?_
      refine aw_istore_n (pc := 54) (ls' := [(0, _), (1, _), (2, _), (3, _), (4, _), (5, _)]) d_M_loudAt_54 rfl (by decide) rfl ?_
      refine aw_incN (pc := 55) (ls' := [(0, _), (1, _), (2, _), (3, _), (4, _), (5, _)]) (i := i) d_M_loudAt_55 rfl rfl (by decide) rfl ?_
      refine aw_goto (pc := 58) (tgt := 8) d_M_loudAt_58 (by decide) ?_
      refine aw_sub (ls' := [(0, _), (1, _), (2, _), (3, _), (4, _)]) [0, 1, 2, 3, 4] rfl ?_
      exact ih L ⟨by omega, by omega⟩
    · have h9 : ¬ (L : Int) ≤ (L : Int) - ((T 1 i : Int) + 4 - T 6 4) := fun z => h35 (by rw [zI_nI]; exact (zI_le (by omega) (by omega)).mpr z)
      refine aw_iload (pc := 38) d_M_loudAt_38 rfl ?_
      refine aw_goto (pc := 40) (tgt := 44) d_M_loudAt_40 (by decide) ?_
      refine aw_istore_n (pc := 44) (ls' := [(0, _), (1, _), (2, _), (3, _), (4, _), (5, _)]) d_M_loudAt_44 rfl (by decide) rfl ?_
      refine aw_iload_n (pc := 45) d_M_loudAt_45 rfl rfl ?_
      refine aw_if_ge (pc := 46) (tgt := 53) d_M_loudAt_46 (by decide) (fun h46 => ?_) (fun h46 => ?_)
      · have h8 := (zI_le (by decide) (by omega)).mp (show zI 0 ≤ _ from h46)
        refine aw_iload_n (pc := 53) d_M_loudAt_53 rfl rfl ?_
        refine aw_istore_n (pc := 54) (ls' := [(0, _), (1, _), (2, _), (3, _), (4, _), (5, _)]) d_M_loudAt_54 rfl (by decide) rfl ?_
        refine aw_incN (pc := 55) (ls' := [(0, _), (1, _), (2, _), (3, _), (4, _), (5, _)]) (i := i) d_M_loudAt_55 rfl rfl (by decide) rfl ?_
        refine aw_goto (pc := 58) (tgt := 8) d_M_loudAt_58 (by decide) ?_
        refine aw_sub (ls' := [(0, _), (1, _), (2, _), (3, _), (4, _)]) [0, 1, 2, 3, 4] rfl ?_
        exact aw_eq (ih (L - eL T i) ⟨by omega, by omega⟩) rfl (by rw [show nI (L - eL T i) = zI ((L : Int) - ((T 1 i : Int) + 4 - T 6 4)) by rw [zI_nI]; congr 1; omega]) rfl
      · have h8 : ¬ (0 : Int) ≤ (L : Int) - ((T 1 i : Int) + 4 - T 6 4) := fun z => h46 (show zI 0 ≤ _ from (zI_le (by decide) (by omega)).mpr z)
        refine aw_iconst (pc := 49) (v := 0) d_M_loudAt_49 (by decide) ?_
        refine aw_goto (pc := 50) (tgt := 54) d_M_loudAt_50 (by decide) ?_
        refine aw_istore_n (pc := 54) (ls' := [(0, _), (1, _), (2, _), (3, _), (4, _), (5, _)]) d_M_loudAt_54 rfl (by decide) rfl ?_
        refine aw_incN (pc := 55) (ls' := [(0, _), (1, _), (2, _), (3, _), (4, _), (5, _)]) (i := i) d_M_loudAt_55 rfl rfl (by decide) rfl ?_
        refine aw_goto (pc := 58) (tgt := 8) d_M_loudAt_58 (by decide) ?_
        refine aw_sub (ls' := [(0, _), (1, _), (2, _), (3, _), (4, _)]) [0, 1, 2, 3, 4] rfl ?_
        exact ih 0 ⟨by omega, by omega⟩
theorem ld_lt {T : town} (hT : okT T) (a h : Nat) : ld T a h ≤ 40 := by
  have := hT.2.2.2.2.2.2.1.2
  unfold ld; omega
set_option maxHeartbeats 1000000 in
set_option maxRecDepth 20000 in
theorem c_M_doesHear (hT : okT T) (hE : enG A I T) {a h op : Nat} (ha : a < 12) (hh : h < 12) (ho : op < 4096) : AD m_M_doesHear r_M_doesHear (HH A I J U) [.ref 36, .int (nI a), .int (nI h), .int (nI op)] (some (.int (b2 (he T a op h = true)))) (HH A I J U) := by
  refine am_of (by decide) rfl (by first | decide | exact Nat.le_of_ble_eq_true rfl) ?_
  have hd9 := hT.2.2.2.2.1
  have hl9 := ld_lt hT a h
  refine aw_aload_n (pc := 0) d_M_doesHear_0 rfl rfl ?_
  refine aw_iload_n (pc := 1) d_M_doesHear_1 rfl rfl ?_
  refine aw_iload_n (pc := 2) d_M_doesHear_2 rfl rfl ?_
  refine aw_callV1 (pc := 3) (c_M_loudAt hT hE ha hh) ok_M_loudAt d_M_doesHear_3 lm_M_73 hg_36 rfl rfl ⟨by decide, by decide⟩ (Nat.le_of_ble_eq_true rfl) rfl rfl ⟨by decide, by decide⟩ ?_
  refine aw_istore (pc := 6) (ls' := [(0, _), (1, _), (2, _), (3, _), (4, _)]) d_M_doesHear_6 (by decide) rfl ?_
  refine aw_aload_n (pc := 8) d_M_doesHear_8 rfl rfl ?_
  refine aw_geti (pc := 9) (y := (nI (T 6 1))) d_M_doesHear_9 lf_M_49 hg_36 rfl hE.2.1 ?_
  refine aw_iload_n (pc := 12) d_M_doesHear_12 rfl rfl ?_
  refine aw_callS1 (pc := 13) (c_M_has _ _ _) ok_M_has d_M_doesHear_13 lm_M_77 rfl rfl ⟨by decide, by decide⟩ (Nat.le_of_ble_eq_true rfl) rfl rfl ⟨by decide, by decide⟩ ?_
  refine aw_bn (pc := 16) (tgt := 47) d_M_doesHear_16 (by decide) (fun h16 => ?_) (fun h16 => ?_)
  · refine aw_iconst (pc := 47) (v := 0) d_M_doesHear_47 (by decide) ?_
    refine aw_zret (pc := 48) d_M_doesHear_48 rfl ft_0 ?_
    have h1 := (hb_nI (by omega) (by omega)).mp h16
    exact ⟨by rw [b2_0]; simp [he, h1], rfl⟩
  · have h1 : (T 6 1).testBit h = false := by
      cases hq : (T 6 1).testBit h with
      | false => rfl
      | true => exact absurd ((hb_nI (by omega) (by omega)).mpr hq) h16
    refine aw_iload_n (pc := 19) d_M_doesHear_19 rfl rfl ?_
    refine aw_iload_n (pc := 20) d_M_doesHear_20 rfl rfl ?_
    refine awn_eq (pc := 21) (tgt := 43) (h) (a) d_M_doesHear_21 (by decide) rfl rfl (by omega) (by omega) (fun h21 => ?_) (fun h21 => ?_)
    · refine aw_iconst (pc := 43) (v := 1) d_M_doesHear_43 (by decide) ?_
      refine aw_goto (pc := 44) (tgt := 48) d_M_doesHear_44 (by decide) ?_
      refine aw_zret (pc := 48) d_M_doesHear_48 rfl ft_1 ?_
      subst h21
      exact ⟨by rw [b2_1]; simp [he, h1], rfl⟩
    · refine aw_iload (pc := 24) d_M_doesHear_24 rfl ?_
      refine aw_iconst (pc := 26) (v := 2) d_M_doesHear_26 (by decide) ?_
      refine awn_gt (pc := 27) (tgt := 43) (ld T a h) (2) d_M_doesHear_27 (by decide) rfl rfl (by omega) (by omega) (fun h27 => ?_) (fun h27 => ?_)
      · refine aw_iconst (pc := 43) (v := 1) d_M_doesHear_43 (by decide) ?_
        refine aw_goto (pc := 44) (tgt := 48) d_M_doesHear_44 (by decide) ?_
        refine aw_zret (pc := 48) d_M_doesHear_48 rfl ft_1 ?_
        exact ⟨by rw [b2_1]; simp [he, h1, show 3 ≤ ld T a h by omega], rfl⟩
      · refine aw_iload (pc := 30) d_M_doesHear_30 rfl ?_
        refine aw_if_le (pc := 32) (tgt := 47) d_M_doesHear_32 (by decide) (fun h32 => ?_) (fun h32 => ?_)
        · have h2 : ld T a h = 0 := by
            rcases Nat.eq_zero_or_pos (ld T a h) with q | q
            · exact q
            · exact absurd h32 (nI_nle q (by omega))
          refine aw_iconst (pc := 47) (v := 0) d_M_doesHear_47 (by decide) ?_
          refine aw_zret (pc := 48) d_M_doesHear_48 rfl ft_0 ?_
          exact ⟨by rw [b2_0]; simp [he, h21, h2], rfl⟩
        · have h2 : 1 ≤ ld T a h := by
            rcases Nat.eq_zero_or_pos (ld T a h) with q | q
            · rw [q] at h32; exact absurd (by decide) h32
            · exact q
          refine aw_iload_n (pc := 35) d_M_doesHear_35 rfl rfl ?_
          refine aw_iload_n (pc := 36) d_M_doesHear_36 rfl rfl ?_
          refine aw_callS1 (pc := 37) (c_M_has _ _ _) ok_M_has d_M_doesHear_37 lm_M_77 rfl rfl ⟨by decide, by decide⟩ (Nat.le_of_ble_eq_true rfl) rfl rfl ⟨by decide, by decide⟩ ?_
          refine aw_bz (pc := 40) (tgt := 47) d_M_doesHear_40 (by decide) (fun h40 => ?_) (fun h40 => ?_)
          · have h3 : op.testBit h = false := by
              cases hq : op.testBit h with
              | false => rfl
              | true => exact absurd ((hb_nI (by omega) (by omega)).mpr hq) h40
            refine aw_iconst (pc := 47) (v := 0) d_M_doesHear_47 (by decide) ?_
            refine aw_zret (pc := 48) d_M_doesHear_48 rfl ft_0 ?_
            exact ⟨by rw [b2_0]; simp [he, h21, h3]; omega, rfl⟩
          · have h3 := (hb_nI (by omega) (by omega)).mp h40
            refine aw_iconst (pc := 43) (v := 1) d_M_doesHear_43 (by decide) ?_
            refine aw_goto (pc := 44) (tgt := 48) d_M_doesHear_44 (by decide) ?_
            refine aw_zret (pc := 48) d_M_doesHear_48 rfl ft_1 ?_
            exact ⟨by rw [b2_1]; simp [he, h1, h3, h2], rfl⟩
theorem or_0 (x : Int32) : x ||| 0 = x := by
  apply b_ext
  intro i hi
  rw [b_or, b_0, Bool.or_false]
set_option maxHeartbeats 1000000 in
set_option maxRecDepth 20000 in
theorem c_M_hearers (hT : okT T) (hE : enG A I T) {a op : Nat} (ha : a < 12) (ho : op < 4096) : AD m_M_hearers r_M_hearers (HH A I J U) [.ref 36, .int (nI a), .int (nI op)] (some (.int (nI (HS T a op)))) (HH A I J U) := by
  refine am_of (by decide) rfl (by first | decide | exact Nat.le_of_ble_eq_true rfl) ?_
  refine aw_iconst (pc := 0) (v := 0) d_M_hearers_0 (by decide) ?_
  refine aw_istore_n (pc := 1) (ls' := [(0, _), (1, _), (2, _), (3, _)]) d_M_hearers_1 rfl (by decide) rfl ?_
  refine aw_iconst (pc := 2) (v := 0) d_M_hearers_2 (by decide) ?_
  refine aw_istore (pc := 3) (ls' := [(0, _), (1, _), (2, _), (3, _), (4, _)]) d_M_hearers_3 (by decide) rfl ?_
  refine lp_i (fun i b => AW m_M_hearers r_M_hearers ax_E0 (ax_Zm (fun q1 q2 => q1 = some (.int (nI (HS T a op))) ∧ q2 = HH A I J U) 0 0) (HH A I J U) 0 0 5 [(0, .ref 36), (1, .int (nI a)), (2, .int (nI op)), (3, .int (nI b)), (4, .int (nI i))] []) (fun i b => b = msk (he T a op) i) 12 ?_ ?_ 12 0 0 (by omega) rfl
  · intro b hV
    refine aw_iload (pc := 5) d_M_hearers_5 rfl ?_
    refine aw_bipush (pc := 7) (v := 12) d_M_hearers_7 (by decide) ?_
    refine awn_ge (pc := 9) (tgt := 40) (12) (12) d_M_hearers_9 (by decide) rfl rfl (by omega) (by omega) (fun _ => ?_) (fun hh => absurd hh (by omega))
    refine aw_iload_n (pc := 40) d_M_hearers_40 rfl rfl ?_
    refine aw_iret (pc := 41) d_M_hearers_41 rfl ?_
    exact ⟨by rw [hV]; rfl, rfl⟩
  · intro i b hi hV ih
    refine aw_iload (pc := 5) d_M_hearers_5 rfl ?_
    refine aw_bipush (pc := 7) (v := 12) d_M_hearers_7 (by decide) ?_
    refine awn_ge (pc := 9) (tgt := 40) (i) (12) d_M_hearers_9 (by decide) rfl rfl (by omega) (by omega) (fun hh => absurd hh (by omega)) (fun _ => ?_)
    refine aw_iload_n (pc := 12) d_M_hearers_12 rfl rfl ?_
    refine aw_aload_n (pc := 13) d_M_hearers_13 rfl rfl ?_
    refine aw_iload_n (pc := 14) d_M_hearers_14 rfl rfl ?_
    refine aw_iload (pc := 15) d_M_hearers_15 rfl ?_
    refine aw_iload_n (pc := 17) d_M_hearers_17 rfl rfl ?_
    refine aw_callV1 (pc := 18) (c_M_doesHear hT hE (h := i) ha (by omega) ho) ok_M_doesHear d_M_hearers_18 lm_M_81 hg_36 rfl rfl ⟨by decide, by decide⟩ (Nat.le_of_ble_eq_true rfl) rfl rfl ⟨by decide, by decide⟩ ?_
    refine aw_bz (pc := 21) (tgt := 31) d_M_hearers_21 (by decide) (fun h21 => ?_) (fun h21 => ?_)
    · refine aw_iconst (pc := 31) (v := 0) d_M_hearers_31 (by decide) ?_
      refine aw_ior (pc := 32) d_M_hearers_32 ?_
      refine aw_top (or_0 _) ?_
      refine aw_istore_n (pc := 33) (ls' := [(0, _), (1, _), (2, _), (3, _), (4, _)]) d_M_hearers_33 rfl (by decide) rfl ?_
      refine aw_incN (pc := 34) (ls' := [(0, _), (1, _), (2, _), (3, _), (4, _)]) (i := i) d_M_hearers_34 rfl rfl (by decide) rfl ?_
      refine aw_goto (pc := 37) (tgt := 5) d_M_hearers_37 (by decide) ?_
      exact ih b (by rw [msk, if_neg h21, Nat.or_zero]; exact hV)
    · refine aw_iconst (pc := 24) (v := 1) d_M_hearers_24 (by decide) ?_
      refine aw_iload (pc := 25) d_M_hearers_25 rfl ?_
      refine aw_ishl (pc := 27) d_M_hearers_27 ?_
      refine aw_goto (pc := 28) (tgt := 32) d_M_hearers_28 (by decide) ?_
      refine aw_ior (pc := 32) d_M_hearers_32 ?_
      refine aw_top (or_bit (by omega)) ?_
      refine aw_istore_n (pc := 33) (ls' := [(0, _), (1, _), (2, _), (3, _), (4, _)]) d_M_hearers_33 rfl (by decide) rfl ?_
      refine aw_incN (pc := 34) (ls' := [(0, _), (1, _), (2, _), (3, _), (4, _)]) (i := i) d_M_hearers_34 rfl rfl (by decide) rfl ?_
      refine aw_goto (pc := 37) (tgt := 5) d_M_hearers_37 (by decide) ?_
      exact ih (b ||| 2 ^ i) (by rw [msk, if_pos h21, hV])
end HEAR
end
section
/-! leaves: single bits, counts, kinds of signs -/
/-- how many of the first twelve -/
def cn (b : Nat) : Nat := fb_ct (fun h => b.testBit h) 12
theorem cn_le (b : Nat) : cn b ≤ 12 := fb_ct_le _ 12
/-- bit j of b put -/
def sb (b j : Nat) (on : Bool) : Nat := msk (fun h => if h = j then on else b.testBit h) 12
theorem sb_lt (b j : Nat) (on : Bool) : sb b j on < 4096 := msk_lt _ 12
theorem sb_on {b j : Nat} (hb : b < 4096) (hj : j < 12) : b ||| 2 ^ j = sb b j true := by
  apply msk_ext (n := 12) (or_lt hb hj)
  intro i hi
  rw [fb_bit_set]
  by_cases h : i = j
  · simp [h]
  · simp [h]
theorem sb_off {b j : Nat} (hb : b < 4096) (hj : j < 12) : nI b &&& (((1 : Int32) <<< (nI j &&& 31)) ^^^ (-1)) = nI (sb b j false) := by
  rw [sh1 (by omega), andn hb]
  congr 1
  apply msk_cong
  intro i hi
  rw [Nat.testBit_two_pow]
  by_cases h : i = j
  · simp [h]
  · simp [h, show ¬ j = i from fun z => h z.symm]
theorem sb_64 {b j : Nat} (hb : b < 64) : sb b j false < 64 := by
  apply Nat.lt_pow_two_of_testBit (n := 6)
  intro i hi
  rw [sb, msk_bit]
  by_cases h : i = j
  · simp [h]
  · rw [if_neg h, Nat.testBit_lt_two_pow (Nat.lt_of_lt_of_le hb (Nat.pow_le_pow_right (n := 2) (i := 6) (by decide) hi)), Bool.and_false]
theorem sb_twice {b j : Nat} (on : Bool) : sb (sb b j false) j on = sb b j on := by
  apply msk_cong
  intro i hi
  by_cases h : i = j
  · simp [h]
  · rw [if_neg h, if_neg h, sb, msk_bit, decide_eq_true hi, if_neg h, Bool.true_and]
theorem sb_same {b j : Nat} {on : Bool} (hb : b < 4096) (h : b.testBit j = on) : sb b j on = b := by
  symm
  apply msk_ext (n := 12) hb
  intro i hi
  by_cases e : i = j
  · subst e; rw [if_pos rfl]; exact h
  · rw [if_neg e]
set_option maxHeartbeats 1000000 in
set_option maxRecDepth 20000 in
theorem c_V_withBit {h : ax_H} {b j : Nat} {p : Prop} [Decidable p] (hb : b < 4096) (hj : j < 12) : AD m_V_withBit r_V_withBit h [.int (nI b), .int (nI j), .int (b2 p)] (some (.int (nI (sb b j (decide p))))) h := by
  refine am_of (by decide) rfl (by first | decide | exact Nat.le_of_ble_eq_true rfl) ?_
  refine aw_iload_n (pc := 0) d_V_withBit_0 rfl rfl ?_
  refine aw_bz (pc := 1) (tgt := 12) d_V_withBit_1 (by decide) (fun h1 => ?_) (fun h1 => ?_)
  · refine aw_iload_n (pc := 12) d_V_withBit_12 rfl rfl ?_
    refine aw_iconst (pc := 13) (v := 1) d_V_withBit_13 (by decide) ?_
    refine aw_iload_n (pc := 14) d_V_withBit_14 rfl rfl ?_
    refine aw_ishl (pc := 15) d_V_withBit_15 ?_
    refine aw_iconst (pc := 16) (v := (-1)) d_V_withBit_16 (by decide) ?_
    refine aw_ixor (pc := 17) d_V_withBit_17 ?_
    refine aw_iand (pc := 18) d_V_withBit_18 ?_
    refine aw_iret (pc := 19) d_V_withBit_19 rfl ?_
    exact ⟨by rw [decide_eq_false h1, sb_off hb hj], rfl⟩
  · refine aw_iload_n (pc := 4) d_V_withBit_4 rfl rfl ?_
    refine aw_iconst (pc := 5) (v := 1) d_V_withBit_5 (by decide) ?_
    refine aw_iload_n (pc := 6) d_V_withBit_6 rfl rfl ?_
    refine aw_ishl (pc := 7) d_V_withBit_7 ?_
    refine aw_ior (pc := 8) d_V_withBit_8 ?_
    refine aw_goto (pc := 9) (tgt := 19) d_V_withBit_9 (by decide) ?_
    refine aw_iret (pc := 19) d_V_withBit_19 rfl ?_
    exact ⟨by rw [decide_eq_true h1, or_bit (by omega), sb_on hb hj], rfl⟩
set_option maxHeartbeats 1000000 in
set_option maxRecDepth 20000 in
theorem c_V_withBit0 {h : ax_H} {b j : Nat} (hb : b < 4096) (hj : j < 12) : AD m_V_withBit r_V_withBit h [.int (nI b), .int (nI j), .int 0] (some (.int (nI (sb b j false)))) h := by
  refine am_of (by decide) rfl (by first | decide | exact Nat.le_of_ble_eq_true rfl) ?_
  refine aw_iload_n (pc := 0) d_V_withBit_0 rfl rfl ?_
  refine aw_if_eq (pc := 1) (tgt := 12) d_V_withBit_1 (by decide) (fun _ => ?_) (fun hh => absurd rfl hh)
  refine aw_iload_n (pc := 12) d_V_withBit_12 rfl rfl ?_
  refine aw_iconst (pc := 13) (v := 1) d_V_withBit_13 (by decide) ?_
  refine aw_iload_n (pc := 14) d_V_withBit_14 rfl rfl ?_
  refine aw_ishl (pc := 15) d_V_withBit_15 ?_
  refine aw_iconst (pc := 16) (v := (-1)) d_V_withBit_16 (by decide) ?_
  refine aw_ixor (pc := 17) d_V_withBit_17 ?_
  refine aw_iand (pc := 18) d_V_withBit_18 ?_
  refine aw_iret (pc := 19) d_V_withBit_19 rfl ?_
  exact ⟨by rw [sb_off hb hj], rfl⟩
set_option maxHeartbeats 1000000 in
set_option maxRecDepth 20000 in
theorem c_M_bits {h : ax_H} {b : Nat} (hb : b < 4096) : AD m_M_bits r_M_bits h [.int (nI b)] (some (.int (nI (cn b)))) h := by
  refine am_of (by decide) rfl (by first | decide | exact Nat.le_of_ble_eq_true rfl) ?_
  refine aw_iconst (pc := 0) (v := 0) d_M_bits_0 (by decide) ?_
  refine aw_istore_n (pc := 1) (ls' := [(0, _), (1, _)]) d_M_bits_1 rfl (by decide) rfl ?_
  refine aw_iconst (pc := 2) (v := 0) d_M_bits_2 (by decide) ?_
  refine aw_istore_n (pc := 3) (ls' := [(0, _), (1, _), (2, _)]) d_M_bits_3 rfl (by decide) rfl ?_
  refine lp_i (fun i c => AW m_M_bits r_M_bits ax_E0 (ax_Zm (fun q1 q2 => q1 = some (.int (nI (cn b))) ∧ q2 = h) 0 0) h 0 0 4 [(0, .int (nI b)), (1, .int (nI c)), (2, .int (nI i))] []) (fun i c => c = fb_ct (fun h => b.testBit h) i) 12 ?_ ?_ 12 0 0 (by omega) rfl
  · intro c hV
    refine aw_iload_n (pc := 4) d_M_bits_4 rfl rfl ?_
    refine aw_bipush (pc := 5) (v := 12) d_M_bits_5 (by decide) ?_
    refine awn_ge (pc := 7) (tgt := 24) (12) (12) d_M_bits_7 (by decide) rfl rfl (by omega) (by omega) (fun _ => ?_) (fun hh => absurd hh (by omega))
    refine aw_iload_n (pc := 24) d_M_bits_24 rfl rfl ?_
    refine aw_iret (pc := 25) d_M_bits_25 rfl ?_
    exact ⟨by rw [hV]; rfl, rfl⟩
  · intro i c hi hV ih
    refine aw_iload_n (pc := 4) d_M_bits_4 rfl rfl ?_
    refine aw_bipush (pc := 5) (v := 12) d_M_bits_5 (by decide) ?_
    refine awn_ge (pc := 7) (tgt := 24) (i) (12) d_M_bits_7 (by decide) rfl rfl (by omega) (by omega) (fun hh => absurd hh (by omega)) (fun _ => ?_)
    refine aw_iload_n (pc := 10) d_M_bits_10 rfl rfl ?_
    refine aw_iload_n (pc := 11) d_M_bits_11 rfl rfl ?_
    refine aw_iload_n (pc := 12) d_M_bits_12 rfl rfl ?_
    refine aw_ishr (pc := 13) d_M_bits_13 ?_
    refine aw_iconst (pc := 14) (v := 1) d_M_bits_14 (by decide) ?_
    refine aw_iand (pc := 15) d_M_bits_15 ?_
    refine aw_top (shr_bit (by omega) (by omega)) ?_
    refine aw_iadd (pc := 16) d_M_bits_16 ?_
    refine aw_top (nI_add _ _) ?_
    refine aw_istore_n (pc := 17) (ls' := [(0, _), (1, _), (2, _)]) d_M_bits_17 rfl (by decide) rfl ?_
    refine aw_incN (pc := 18) (ls' := [(0, _), (1, _), (2, _)]) (i := i) d_M_bits_18 rfl rfl (by decide) rfl ?_
    refine aw_goto (pc := 21) (tgt := 4) d_M_bits_21 (by decide) ?_
    exact ih _ (by rw [hV]; rfl)
def bc (x : Int32) : Int32 :=
  let s (y k : Int32) : Int32 := (y.toUInt32 >>> (k.toUInt32 &&& Int32.toUInt32 31)).toInt32
  let a := x - (s x 1 &&& 1431655765)
  let b := (a &&& 858993459) + (s a 2 &&& 858993459)
  let c := (b + s b 4) &&& 252645135
  let d := c + s c 8
  let e := d + s d 16
  e &&& 63
set_option maxRecDepth 200000 in
theorem bc_ok : ∀ b, b < 4096 → bc (nI b) = nI (cn b) := by decide +kernel
set_option maxHeartbeats 1000000 in
set_option maxRecDepth 20000 in
theorem c_B_bitCount {h : ax_H} {b : Nat} (hb : b < 4096) : AD m_B_bitCount r_B_bitCount h [.int (nI b)] (some (.int (nI (cn b)))) h := by
  refine am_of (by decide) rfl (by first | decide | exact Nat.le_of_ble_eq_true rfl) ?_
  refine aw_iload_n (pc := 0) d_B_bitCount_0 rfl rfl ?_
  refine aw_iload_n (pc := 1) d_B_bitCount_1 rfl rfl ?_
  refine aw_iconst (pc := 2) (v := 1) d_B_bitCount_2 (by decide) ?_
  refine aw_iushr (pc := 3) d_B_bitCount_3 ?_
  refine aw_ldcw (pc := 4) d_B_bitCount_4 lc_B_265 ?_
  refine aw_iand (pc := 7) d_B_bitCount_7 ?_
  refine aw_isub (pc := 8) d_B_bitCount_8 ?_
  refine aw_istore_n (pc := 9) (ls' := [(0, _)]) d_B_bitCount_9 rfl (by decide) rfl ?_
  refine aw_iload_n (pc := 10) d_B_bitCount_10 rfl rfl ?_
  refine aw_ldcw (pc := 11) d_B_bitCount_11 lc_B_266 ?_
  refine aw_iand (pc := 14) d_B_bitCount_14 ?_
  refine aw_iload_n (pc := 15) d_B_bitCount_15 rfl rfl ?_
  refine aw_iconst (pc := 16) (v := 2) d_B_bitCount_16 (by decide) ?_
  refine aw_iushr (pc := 17) d_B_bitCount_17 ?_
  refine aw_ldcw (pc := 18) d_B_bitCount_18 lc_B_266 ?_
  refine aw_iand (pc := 21) d_B_bitCount_21 ?_
  refine aw_iadd (pc := 22) d_B_bitCount_22 ?_
  refine aw_istore_n (pc := 23) (ls' := [(0, _)]) d_B_bitCount_23 rfl (by decide) rfl ?_
  refine aw_iload_n (pc := 24) d_B_bitCount_24 rfl rfl ?_
  refine aw_iload_n (pc := 25) d_B_bitCount_25 rfl rfl ?_
  refine aw_iconst (pc := 26) (v := 4) d_B_bitCount_26 (by decide) ?_
  refine aw_iushr (pc := 27) d_B_bitCount_27 ?_
  refine aw_iadd (pc := 28) d_B_bitCount_28 ?_
  refine aw_ldcw (pc := 29) d_B_bitCount_29 lc_B_267 ?_
  refine aw_iand (pc := 32) d_B_bitCount_32 ?_
  refine aw_istore_n (pc := 33) (ls' := [(0, _)]) d_B_bitCount_33 rfl (by decide) rfl ?_
  refine aw_iload_n (pc := 34) d_B_bitCount_34 rfl rfl ?_
  refine aw_iload_n (pc := 35) d_B_bitCount_35 rfl rfl ?_
  refine aw_bipush (pc := 36) (v := 8) d_B_bitCount_36 (by decide) ?_
  refine aw_iushr (pc := 38) d_B_bitCount_38 ?_
  refine aw_iadd (pc := 39) d_B_bitCount_39 ?_
  refine aw_istore_n (pc := 40) (ls' := [(0, _)]) d_B_bitCount_40 rfl (by decide) rfl ?_
  refine aw_iload_n (pc := 41) d_B_bitCount_41 rfl rfl ?_
  refine aw_iload_n (pc := 42) d_B_bitCount_42 rfl rfl ?_
  refine aw_bipush (pc := 43) (v := 16) d_B_bitCount_43 (by decide) ?_
  refine aw_iushr (pc := 45) d_B_bitCount_45 ?_
  refine aw_iadd (pc := 46) d_B_bitCount_46 ?_
  refine aw_istore_n (pc := 47) (ls' := [(0, _)]) d_B_bitCount_47 rfl (by decide) rfl ?_
  refine aw_iload_n (pc := 48) d_B_bitCount_48 rfl rfl ?_
  refine aw_bipush (pc := 49) (v := 63) d_B_bitCount_49 (by decide) ?_
  refine aw_iand (pc := 51) d_B_bitCount_51 ?_
  refine aw_iret (pc := 52) d_B_bitCount_52 rfl ?_
  exact ⟨congrArg (fun z => some (Value.int z)) (bc_ok b hb), rfl⟩
set_option maxHeartbeats 1000000 in
set_option maxRecDepth 20000 in
theorem c_M_isHouse (h : ax_H) (v : Int32) : AD m_M_isHouse r_M_isHouse h [.int v] (some (.int (b2 (0 ≤ v ∧ v ≤ 11)))) h := by
  refine am_of (by decide) rfl (by first | decide | exact Nat.le_of_ble_eq_true rfl) ?_
  refine aw_iload_n (pc := 0) d_M_isHouse_0 rfl rfl ?_
  refine aw_iconst (pc := 1) (v := 0) d_M_isHouse_1 (by decide) ?_
  refine aw_bipush (pc := 2) (v := 11) d_M_isHouse_2 (by decide) ?_
  refine aw_callS1 (pc := 4) (c_M_in _ _ _ _) ok_M_in d_M_isHouse_4 lm_M_52 rfl rfl ⟨by decide, by decide⟩ (Nat.le_of_ble_eq_true rfl) rfl rfl ⟨by decide, by decide⟩ ?_
  refine aw_zret (pc := 7) d_M_isHouse_7 rfl (ft_b2 _) ?_
  exact ⟨rfl, rfl⟩
set_option maxHeartbeats 1000000 in
set_option maxRecDepth 20000 in
theorem c_M_isLetter (h : ax_H) (v : Int32) : AD m_M_isLetter r_M_isLetter h [.int v] (some (.int (b2 (97 ≤ v ∧ v ≤ 108)))) h := by
  refine am_of (by decide) rfl (by first | decide | exact Nat.le_of_ble_eq_true rfl) ?_
  refine aw_iload_n (pc := 0) d_M_isLetter_0 rfl rfl ?_
  refine aw_bipush (pc := 1) (v := 97) d_M_isLetter_1 (by decide) ?_
  refine aw_bipush (pc := 3) (v := 108) d_M_isLetter_3 (by decide) ?_
  refine aw_callS1 (pc := 5) (c_M_in _ _ _ _) ok_M_in d_M_isLetter_5 lm_M_52 rfl rfl ⟨by decide, by decide⟩ (Nat.le_of_ble_eq_true rfl) rfl rfl ⟨by decide, by decide⟩ ?_
  refine aw_zret (pc := 8) d_M_isLetter_8 rfl (ft_b2 _) ?_
  exact ⟨rfl, rfl⟩
/-- the kind of a sign: 0 a house's letter, 1 a digit, 2 !, 3 ., 9 none -/
def kd (c : Nat) : Nat := if 97 ≤ c ∧ c < 109 then 0 else if 48 ≤ c ∧ c < 54 then 1 else if c = 33 then 2 else if c = 46 then 3 else 9
def kI (k : Nat) : Int32 := if k = 9 then -6 else nI k
/-- the house or letter that a sign names -/
def nb (c : Nat) : Nat := if 97 ≤ c ∧ c < 109 then c - 97 else if 48 ≤ c ∧ c < 54 then c - 48 else 0
theorem kd_0 {c : Nat} (h : 97 ≤ c ∧ c < 109) : kd c = 0 := if_pos h
theorem kd_1 {c : Nat} (h : 48 ≤ c ∧ c < 54) : kd c = 1 := by unfold kd; rw [if_neg (by omega), if_pos h]
theorem kd_2 : kd 33 = 2 := rfl
theorem kd_3 : kd 46 = 3 := rfl
theorem kd_9 {c : Nat} (h1 : ¬ (97 ≤ c ∧ c < 109)) (h2 : ¬ (48 ≤ c ∧ c < 54)) (h3 : ¬ c = 33) (h4 : ¬ c = 46) : kd c = 9 := by unfold kd; rw [if_neg h1, if_neg h2, if_neg h3, if_neg h4]
theorem nb_lt (c : Nat) : nb c < 12 := by
  unfold nb
  by_cases h1 : 97 ≤ c ∧ c < 109
  · rw [if_pos h1]; omega
  · rw [if_neg h1]
    by_cases h2 : 48 ≤ c ∧ c < 54
    · rw [if_pos h2]; omega
    · rw [if_neg h2]; omega
theorem nb_lt6 {c : Nat} (h : kd c = 1) : nb c < 6 := by
  unfold kd at h
  unfold nb
  by_cases h1 : 97 ≤ c ∧ c < 109
  · rw [if_pos h1] at h; omega
  · rw [if_neg h1] at h ⊢
    by_cases h2 : 48 ≤ c ∧ c < 54
    · rw [if_pos h2]; omega
    · rw [if_neg h2]; omega
set_option maxHeartbeats 1000000 in
set_option maxRecDepth 20000 in
theorem c_P_kindOf {h : ax_H} {c : Nat} (hc : c < 128) : AD m_P_kindOf r_P_kindOf h [.int (nI c)] (some (.int (kI (kd c)))) h := by
  refine am_of (by decide) rfl (by first | decide | exact Nat.le_of_ble_eq_true rfl) ?_
  have key14 : ¬ (97 ≤ c ∧ c < 109) → AW m_P_kindOf r_P_kindOf ax_E0 (ax_Zm (fun q1 q2 => q1 = some (.int (kI (kd c))) ∧ q2 = h) 0 0) h 0 0 14 [(0, .int (nI c))] [] := by
    intro hn
    have key28 : ¬ (48 ≤ c ∧ c < 54) → AW m_P_kindOf r_P_kindOf ax_E0 (ax_Zm (fun q1 q2 => q1 = some (.int (kI (kd c))) ∧ q2 = h) 0 0) h 0 0 28 [(0, .int (nI c))] [] := by
      intro hn2
      refine aw_iload_n (pc := 28) d_P_kindOf_28 rfl rfl ?_
      refine aw_bipush (pc := 29) (v := 33) d_P_kindOf_29 (by decide) ?_
      refine awn_ne (pc := 31) (tgt := 36) (c) (33) d_P_kindOf_31 (by decide) rfl rfl (by omega) (by omega) (fun h31 => ?_) (fun h31 => ?_)
      · refine aw_iload_n (pc := 36) d_P_kindOf_36 rfl rfl ?_
        refine aw_bipush (pc := 37) (v := 46) d_P_kindOf_37 (by decide) ?_
        refine awn_ne (pc := 39) (tgt := 46) (c) (46) d_P_kindOf_39 (by decide) rfl rfl (by omega) (by omega) (fun h39 => ?_) (fun h39 => ?_)
        · refine aw_bipush (pc := 46) (v := (-6)) d_P_kindOf_46 (by decide) ?_
          refine aw_iret (pc := 48) d_P_kindOf_48 rfl ?_
          exact ⟨by rw [kd_9 hn hn2 h31 h39]; rfl, rfl⟩
        · refine aw_iconst (pc := 42) (v := 3) d_P_kindOf_42 (by decide) ?_
          refine aw_goto (pc := 43) (tgt := 48) d_P_kindOf_43 (by decide) ?_
          refine aw_iret (pc := 48) d_P_kindOf_48 rfl ?_
          exact ⟨by rw [h39]; rfl, rfl⟩
      · refine aw_iconst (pc := 34) (v := 2) d_P_kindOf_34 (by decide) ?_
        refine aw_iret (pc := 35) d_P_kindOf_35 rfl ?_
        exact ⟨by rw [h31]; rfl, rfl⟩
    refine aw_iload_n (pc := 14) d_P_kindOf_14 rfl rfl ?_
    refine aw_bipush (pc := 15) (v := 48) d_P_kindOf_15 (by decide) ?_
    refine awn_lt (pc := 17) (tgt := 28) (c) (48) d_P_kindOf_17 (by decide) rfl rfl (by omega) (by omega) (fun h17 => ?_) (fun h17 => ?_)
    · exact key28 (by omega)
    · refine aw_iload_n (pc := 20) d_P_kindOf_20 rfl rfl ?_
      refine aw_bipush (pc := 21) (v := 54) d_P_kindOf_21 (by decide) ?_
      refine awn_ge (pc := 23) (tgt := 28) (c) (54) d_P_kindOf_23 (by decide) rfl rfl (by omega) (by omega) (fun h23 => ?_) (fun h23 => ?_)
      · exact key28 (by omega)
      · refine aw_iconst (pc := 26) (v := 1) d_P_kindOf_26 (by decide) ?_
        refine aw_iret (pc := 27) d_P_kindOf_27 rfl ?_
        exact ⟨by rw [kd_1 ⟨h17, h23⟩]; rfl, rfl⟩
  refine aw_iload_n (pc := 0) d_P_kindOf_0 rfl rfl ?_
  refine aw_bipush (pc := 1) (v := 97) d_P_kindOf_1 (by decide) ?_
  refine awn_lt (pc := 3) (tgt := 14) (c) (97) d_P_kindOf_3 (by decide) rfl rfl (by omega) (by omega) (fun h3 => ?_) (fun h3 => ?_)
  · exact key14 (by omega)
  · refine aw_iload_n (pc := 6) d_P_kindOf_6 rfl rfl ?_
    refine aw_bipush (pc := 7) (v := 109) d_P_kindOf_7 (by decide) ?_
    refine awn_ge (pc := 9) (tgt := 14) (c) (109) d_P_kindOf_9 (by decide) rfl rfl (by omega) (by omega) (fun h9 => ?_) (fun h9 => ?_)
    · exact key14 (by omega)
    · refine aw_iconst (pc := 12) (v := 0) d_P_kindOf_12 (by decide) ?_
      refine aw_iret (pc := 13) d_P_kindOf_13 rfl ?_
      exact ⟨by rw [kd_0 ⟨h3, h9⟩]; rfl, rfl⟩
theorem kI_eq {k j : Nat} (hk : k ≤ 9) (hj : j < 9) : kI k = nI j ↔ k = j := by
  have : ∀ k, k < 10 → ∀ j, j < 9 → (kI k = nI j ↔ k = j) := by decide +kernel
  exact this k (by omega) j hj
theorem kd_le (c : Nat) : kd c ≤ 9 := by
  unfold kd
  by_cases h1 : 97 ≤ c ∧ c < 109
  · rw [if_pos h1]; omega
  · rw [if_neg h1]
    by_cases h2 : 48 ≤ c ∧ c < 54
    · rw [if_pos h2]; omega
    · rw [if_neg h2]
      by_cases h3 : c = 33
      · rw [if_pos h3]; omega
      · rw [if_neg h3]
        by_cases h4 : c = 46
        · rw [if_pos h4]; omega
        · rw [if_neg h4]; omega
theorem kd_is0 {c : Nat} (h : kd c = 0) : 97 ≤ c ∧ c < 109 := by
  rcases Decidable.em (97 ≤ c ∧ c < 109) with q | q
  · exact q
  · exfalso
    unfold kd at h
    rw [if_neg q] at h
    by_cases h2 : 48 ≤ c ∧ c < 54
    · rw [if_pos h2] at h; omega
    · rw [if_neg h2] at h
      by_cases h3 : c = 33
      · rw [if_pos h3] at h; omega
      · rw [if_neg h3] at h
        by_cases h4 : c = 46
        · rw [if_pos h4] at h; omega
        · rw [if_neg h4] at h; omega
theorem kd_is1 {c : Nat} (h : kd c = 1) : 48 ≤ c ∧ c < 54 := by
  rcases Decidable.em (48 ≤ c ∧ c < 54) with q | q
  · exact q
  · exfalso
    unfold kd at h
    by_cases h1 : 97 ≤ c ∧ c < 109
    · rw [if_pos h1] at h; omega
    · rw [if_neg h1, if_neg q] at h
      by_cases h3 : c = 33
      · rw [if_pos h3] at h; omega
      · rw [if_neg h3] at h
        by_cases h4 : c = 46
        · rw [if_pos h4] at h; omega
        · rw [if_neg h4] at h; omega
set_option maxHeartbeats 1000000 in
set_option maxRecDepth 20000 in
theorem c_P_numberOf {h : ax_H} {c : Nat} (hc : c < 128) : AD m_P_numberOf r_P_numberOf h [.int (nI c)] (some (.int (nI (nb c)))) h := by
  refine am_of (by decide) rfl (by first | decide | exact Nat.le_of_ble_eq_true rfl) ?_
  have hk := kd_le c
  refine aw_iload_n (pc := 0) d_P_numberOf_0 rfl rfl ?_
  refine aw_callS1 (pc := 1) (c_P_kindOf hc) ok_P_kindOf d_P_numberOf_1 lm_P_31 rfl rfl ⟨by decide, by decide⟩ (Nat.le_of_ble_eq_true rfl) rfl rfl ⟨by decide, by decide⟩ ?_
  refine aw_istore_n (pc := 4) (ls' := [(0, _), (1, _)]) d_P_numberOf_4 rfl (by decide) rfl ?_
  refine aw_iload_n (pc := 5) d_P_numberOf_5 rfl rfl ?_
  refine aw_if_ne (pc := 6) (tgt := 14) d_P_numberOf_6 (by decide) (fun h6 => ?_) (fun h6 => ?_)
  · have h6 : ¬ kd c = 0 := fun z => h6 (by rw [z]; rfl)
    refine aw_iload_n (pc := 14) d_P_numberOf_14 rfl rfl ?_
    refine aw_iconst (pc := 15) (v := 1) d_P_numberOf_15 (by decide) ?_
    refine aw_icmp_ne (pc := 16) (tgt := 26) d_P_numberOf_16 (by decide) (fun h16 => ?_) (fun h16 => ?_)
    · have h16 : ¬ kd c = 1 := fun z => h16 (by rw [z]; rfl)
      refine aw_iconst (pc := 26) (v := 0) d_P_numberOf_26 (by decide) ?_
      refine aw_iret (pc := 27) d_P_numberOf_27 rfl ?_
      refine ⟨?_, rfl⟩
      have h1 : ¬ (97 ≤ c ∧ c < 109) := fun z => h6 (kd_0 z)
      have h2 : ¬ (48 ≤ c ∧ c < 54) := fun z => h16 (kd_1 z)
      unfold nb
      rw [if_neg h1, if_neg h2]; rfl
    · have h16 : kd c = 1 := (kI_eq hk (by omega)).mp h16
      have h1 : ¬ (97 ≤ c ∧ c < 109) := fun z => h6 (kd_0 z)
      have h2 := kd_is1 h16
      refine aw_iload_n (pc := 19) d_P_numberOf_19 rfl rfl ?_
      refine aw_bipush (pc := 20) (v := 48) d_P_numberOf_20 (by decide) ?_
      refine aw_isub (pc := 22) d_P_numberOf_22 ?_
      refine aw_goto (pc := 23) (tgt := 27) d_P_numberOf_23 (by decide) ?_
      refine aw_iret (pc := 27) d_P_numberOf_27 rfl ?_
      refine ⟨?_, rfl⟩
      unfold nb
      rw [if_neg h1, if_pos h2]
      exact congrArg (fun z => some (Value.int z)) (pk_sub (a := c) (b := 48) h2.1)
  · have h6 : kd c = 0 := (kI_eq hk (by omega)).mp h6
    have h1 := kd_is0 h6
    refine aw_iload_n (pc := 9) d_P_numberOf_9 rfl rfl ?_
    refine aw_bipush (pc := 10) (v := 97) d_P_numberOf_10 (by decide) ?_
    refine aw_isub (pc := 12) d_P_numberOf_12 ?_
    refine aw_iret (pc := 13) d_P_numberOf_13 rfl ?_
    refine ⟨?_, rfl⟩
    unfold nb
    rw [if_pos h1]
    exact congrArg (fun z => some (Value.int z)) (pk_sub (a := c) (b := 97) h1.1)
/-- the kind of an act drawn -/
def dk (d : Nat) : Nat := if d = 0 then 3 else if d = 1 then 2 else if d ≤ 4 then 0 else 1
set_option maxHeartbeats 1000000 in
set_option maxRecDepth 20000 in
theorem c_S_drawnKind {h : ax_H} {d : Nat} (hd : d < 8) : AD m_S_drawnKind r_S_drawnKind h [.int (nI d)] (some (.int (nI (dk d)))) h := by
  refine am_of (by decide) rfl (by first | decide | exact Nat.le_of_ble_eq_true rfl) ?_
  refine aw_iload_n (pc := 0) d_S_drawnKind_0 rfl rfl ?_
  refine aw_if_ne (pc := 1) (tgt := 6) d_S_drawnKind_1 (by decide) (fun h1 => ?_) (fun h1 => ?_)
  · have h1 : ¬ d = 0 := fun z => h1 (by rw [z]; rfl)
    refine aw_iload_n (pc := 6) d_S_drawnKind_6 rfl rfl ?_
    refine aw_iconst (pc := 7) (v := 1) d_S_drawnKind_7 (by decide) ?_
    refine awn_ne (pc := 8) (tgt := 13) (d) (1) d_S_drawnKind_8 (by decide) rfl rfl (by omega) (by omega) (fun h8 => ?_) (fun h8 => ?_)
    · refine aw_iload_n (pc := 13) d_S_drawnKind_13 rfl rfl ?_
      refine aw_iconst (pc := 14) (v := 4) d_S_drawnKind_14 (by decide) ?_
      refine awn_gt (pc := 15) (tgt := 22) (d) (4) d_S_drawnKind_15 (by decide) rfl rfl (by omega) (by omega) (fun h15 => ?_) (fun h15 => ?_)
      · refine aw_iconst (pc := 22) (v := 1) d_S_drawnKind_22 (by decide) ?_
        refine aw_iret (pc := 23) d_S_drawnKind_23 rfl ?_
        exact ⟨by unfold dk; rw [if_neg h1, if_neg h8, if_neg (by omega)]; rfl, rfl⟩
      · refine aw_iconst (pc := 18) (v := 0) d_S_drawnKind_18 (by decide) ?_
        refine aw_goto (pc := 19) (tgt := 23) d_S_drawnKind_19 (by decide) ?_
        refine aw_iret (pc := 23) d_S_drawnKind_23 rfl ?_
        exact ⟨by unfold dk; rw [if_neg h1, if_neg h8, if_pos h15]; rfl, rfl⟩
    · refine aw_iconst (pc := 11) (v := 2) d_S_drawnKind_11 (by decide) ?_
      refine aw_iret (pc := 12) d_S_drawnKind_12 rfl ?_
      exact ⟨by rw [h8]; rfl, rfl⟩
  · have h1 : d = 0 := (nI_eq (by omega) (by omega)).mp h1
    refine aw_iconst (pc := 4) (v := 3) d_S_drawnKind_4 (by decide) ?_
    refine aw_iret (pc := 5) d_S_drawnKind_5 rfl ?_
    exact ⟨by rw [h1]; rfl, rfl⟩
end
