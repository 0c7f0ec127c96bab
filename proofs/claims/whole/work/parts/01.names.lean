-- ===== PART A: goes FIRST, ahead of the names: the tables' words, and 'selects' of the private methods out of them =====
/-- a private method of a class that the tables say can be made, by its rows of tables_1 -/
def lw_okq (q : MethodName × Nat) : Prop := (q.1.cls ≠ "java/lang/invoke/MethodHandle" ∧ q.1.cls ≠ "java/lang/invoke/VarHandle") ∧ Cond.instantiable q.1.cls q.2 ∈ tables_1 ∧ Cond.privateMethod q.1 ∈ tables_1 ∧ Cond.instanceMethod q.1 ∈ tables_1
set_option maxRecDepth 20000 in
theorem lw_p0 : lw_okq (⟨"DoorVoice", "setVoice", "(I)I"⟩, 8) := ⟨⟨by decide +kernel, by decide +kernel⟩, List.mem_of_getElem? (i := 11) (by decide +kernel), List.mem_of_getElem? (i := 210) (by decide +kernel), List.mem_of_getElem? (i := 211) (by decide +kernel)⟩
set_option maxRecDepth 20000 in
theorem lw_p1 : lw_okq (⟨"DoorVoice", "setWind", "(I)I"⟩, 8) := ⟨⟨by decide +kernel, by decide +kernel⟩, List.mem_of_getElem? (i := 11) (by decide +kernel), List.mem_of_getElem? (i := 214) (by decide +kernel), List.mem_of_getElem? (i := 215) (by decide +kernel)⟩
set_option maxRecDepth 20000 in
theorem lw_p2 : lw_okq (⟨"DoorVoice", "setPlace", "(I)I"⟩, 8) := ⟨⟨by decide +kernel, by decide +kernel⟩, List.mem_of_getElem? (i := 11) (by decide +kernel), List.mem_of_getElem? (i := 218) (by decide +kernel), List.mem_of_getElem? (i := 219) (by decide +kernel)⟩
set_option maxRecDepth 20000 in
theorem lw_p3 : lw_okq (⟨"DoorVoice$Pad", "playAct", "(LDoorVoice$Street;II)V"⟩, 6) := ⟨⟨by decide +kernel, by decide +kernel⟩, List.mem_of_getElem? (i := 99) (by decide +kernel), List.mem_of_getElem? (i := 272) (by decide +kernel), List.mem_of_getElem? (i := 273) (by decide +kernel)⟩
set_option maxRecDepth 20000 in
theorem lw_p4 : lw_okq (⟨"DoorVoice$Street", "reached", "(II)I"⟩, 16) := ⟨⟨by decide +kernel, by decide +kernel⟩, List.mem_of_getElem? (i := 19) (by decide +kernel), List.mem_of_getElem? (i := 290) (by decide +kernel), List.mem_of_getElem? (i := 291) (by decide +kernel)⟩
set_option maxRecDepth 20000 in
theorem lw_p5 : lw_okq (⟨"DoorVoice$Street", "readOut", "(I)V"⟩, 16) := ⟨⟨by decide +kernel, by decide +kernel⟩, List.mem_of_getElem? (i := 19) (by decide +kernel), List.mem_of_getElem? (i := 299) (by decide +kernel), List.mem_of_getElem? (i := 300) (by decide +kernel)⟩
set_option maxRecDepth 20000 in
theorem lw_p6 : lw_okq (⟨"DoorVoice$Street", "passEvening", "()V"⟩, 16) := ⟨⟨by decide +kernel, by decide +kernel⟩, List.mem_of_getElem? (i := 19) (by decide +kernel), List.mem_of_getElem? (i := 304) (by decide +kernel), List.mem_of_getElem? (i := 305) (by decide +kernel)⟩
set_option maxRecDepth 20000 in
theorem lw_p7 : lw_okq (⟨"DoorVoice$Street", "tellsEastward", "(I)Z"⟩, 16) := ⟨⟨by decide +kernel, by decide +kernel⟩, List.mem_of_getElem? (i := 19) (by decide +kernel), List.mem_of_getElem? (i := 308) (by decide +kernel), List.mem_of_getElem? (i := 309) (by decide +kernel)⟩
set_option maxRecDepth 20000 in
theorem lw_p8 : lw_okq (⟨"DoorVoice$Listener", "placesFor", "(I)I"⟩, 2) := ⟨⟨by decide +kernel, by decide +kernel⟩, List.mem_of_getElem? (i := 129) (by decide +kernel), List.mem_of_getElem? (i := 355) (by decide +kernel), List.mem_of_getElem? (i := 356) (by decide +kernel)⟩
set_option maxRecDepth 20000 in
theorem lw_p9 : lw_okq (⟨"DoorVoice$Listener", "allCanBeRead", "(LDoorVoice$Street;III)Z"⟩, 2) := ⟨⟨by decide +kernel, by decide +kernel⟩, List.mem_of_getElem? (i := 129) (by decide +kernel), List.mem_of_getElem? (i := 389) (by decide +kernel), List.mem_of_getElem? (i := 390) (by decide +kernel)⟩
set_option maxRecDepth 20000 in
theorem lw_p10 : lw_okq (⟨"DoorVoice$Street", "toldOnward", "(I)I"⟩, 16) := ⟨⟨by decide +kernel, by decide +kernel⟩, List.mem_of_getElem? (i := 19) (by decide +kernel), List.mem_of_getElem? (i := 426) (by decide +kernel), List.mem_of_getElem? (i := 427) (by decide +kernel)⟩
set_option maxRecDepth 20000 in
theorem lw_p11 : lw_okq (⟨"DoorVoice$Chances", "putLowest", "(JJ)V"⟩, 5) := ⟨⟨by decide +kernel, by decide +kernel⟩, List.mem_of_getElem? (i := 142) (by decide +kernel), List.mem_of_getElem? (i := 452) (by decide +kernel), List.mem_of_getElem? (i := 453) (by decide +kernel)⟩
set_option maxRecDepth 20000 in
theorem lw_p12 : lw_okq (⟨"DoorVoice$Chances", "countWays", "(I)V"⟩, 5) := ⟨⟨by decide +kernel, by decide +kernel⟩, List.mem_of_getElem? (i := 142) (by decide +kernel), List.mem_of_getElem? (i := 463) (by decide +kernel), List.mem_of_getElem? (i := 464) (by decide +kernel)⟩
set_option maxRecDepth 20000 in
theorem lw_p13 : lw_okq (⟨"DoorVoice", "imageNumbered", "(I)LDoorVoice$Street;"⟩, 8) := ⟨⟨by decide +kernel, by decide +kernel⟩, List.mem_of_getElem? (i := 11) (by decide +kernel), List.mem_of_getElem? (i := 490) (by decide +kernel), List.mem_of_getElem? (i := 491) (by decide +kernel)⟩
set_option maxRecDepth 20000 in
theorem lw_p14 : lw_okq (⟨"DoorVoice", "toldOfAll", "(I)I"⟩, 8) := ⟨⟨by decide +kernel, by decide +kernel⟩, List.mem_of_getElem? (i := 11) (by decide +kernel), List.mem_of_getElem? (i := 502) (by decide +kernel), List.mem_of_getElem? (i := 503) (by decide +kernel)⟩
set_option maxRecDepth 20000 in
theorem lw_p15 : lw_okq (⟨"DoorVoice", "toldOfLetter", "(II)I"⟩, 8) := ⟨⟨by decide +kernel, by decide +kernel⟩, List.mem_of_getElem? (i := 11) (by decide +kernel), List.mem_of_getElem? (i := 506) (by decide +kernel), List.mem_of_getElem? (i := 507) (by decide +kernel)⟩
def lw_privs_1 : List (MethodName × Nat) := [(⟨"DoorVoice", "setVoice", "(I)I"⟩, 8), (⟨"DoorVoice", "setWind", "(I)I"⟩, 8), (⟨"DoorVoice", "setPlace", "(I)I"⟩, 8), (⟨"DoorVoice$Pad", "playAct", "(LDoorVoice$Street;II)V"⟩, 6), (⟨"DoorVoice$Street", "reached", "(II)I"⟩, 16), (⟨"DoorVoice$Street", "readOut", "(I)V"⟩, 16), (⟨"DoorVoice$Street", "passEvening", "()V"⟩, 16), (⟨"DoorVoice$Street", "tellsEastward", "(I)Z"⟩, 16), (⟨"DoorVoice$Listener", "placesFor", "(I)I"⟩, 2), (⟨"DoorVoice$Listener", "allCanBeRead", "(LDoorVoice$Street;III)Z"⟩, 2), (⟨"DoorVoice$Street", "toldOnward", "(I)I"⟩, 16), (⟨"DoorVoice$Chances", "putLowest", "(JJ)V"⟩, 5), (⟨"DoorVoice$Chances", "countWays", "(I)V"⟩, 5), (⟨"DoorVoice", "imageNumbered", "(I)LDoorVoice$Street;"⟩, 8), (⟨"DoorVoice", "toldOfAll", "(I)I"⟩, 8), (⟨"DoorVoice", "toldOfLetter", "(II)I"⟩, 8)]
theorem lw_r1 : ∀ q ∈ lw_privs_1, lw_okq q := List.forall_mem_cons.mpr ⟨lw_p0, List.forall_mem_cons.mpr ⟨lw_p1, List.forall_mem_cons.mpr ⟨lw_p2, List.forall_mem_cons.mpr ⟨lw_p3, List.forall_mem_cons.mpr ⟨lw_p4, List.forall_mem_cons.mpr ⟨lw_p5, List.forall_mem_cons.mpr ⟨lw_p6, List.forall_mem_cons.mpr ⟨lw_p7, List.forall_mem_cons.mpr ⟨lw_p8, List.forall_mem_cons.mpr ⟨lw_p9, List.forall_mem_cons.mpr ⟨lw_p10, List.forall_mem_cons.mpr ⟨lw_p11, List.forall_mem_cons.mpr ⟨lw_p12, List.forall_mem_cons.mpr ⟨lw_p13, List.forall_mem_cons.mpr ⟨lw_p14, List.forall_mem_cons.mpr ⟨lw_p15, fun _ h => absurd h List.not_mem_nil⟩⟩⟩⟩⟩⟩⟩⟩⟩⟩⟩⟩⟩⟩⟩⟩
set_option maxRecDepth 20000 in
theorem lw_p16 : lw_okq (⟨"DoorVoiceModel", "faultOf", "()I"⟩, 20) := ⟨⟨by decide +kernel, by decide +kernel⟩, List.mem_of_getElem? (i := 510) (by decide +kernel), List.mem_of_getElem? (i := 612) (by decide +kernel), List.mem_of_getElem? (i := 613) (by decide +kernel)⟩
set_option maxRecDepth 20000 in
theorem lw_p17 : lw_okq (⟨"DoorVoiceModel", "goDays", "()I"⟩, 20) := ⟨⟨by decide +kernel, by decide +kernel⟩, List.mem_of_getElem? (i := 510) (by decide +kernel), List.mem_of_getElem? (i := 623) (by decide +kernel), List.mem_of_getElem? (i := 624) (by decide +kernel)⟩
set_option maxRecDepth 20000 in
theorem lw_p18 : lw_okq (⟨"DoorVoiceModel", "asNow", "()V"⟩, 20) := ⟨⟨by decide +kernel, by decide +kernel⟩, List.mem_of_getElem? (i := 510) (by decide +kernel), List.mem_of_getElem? (i := 627) (by decide +kernel), List.mem_of_getElem? (i := 628) (by decide +kernel)⟩
set_option maxRecDepth 20000 in
theorem lw_p19 : lw_okq (⟨"DoorVoiceModel", "evening", "()I"⟩, 20) := ⟨⟨by decide +kernel, by decide +kernel⟩, List.mem_of_getElem? (i := 510) (by decide +kernel), List.mem_of_getElem? (i := 631) (by decide +kernel), List.mem_of_getElem? (i := 632) (by decide +kernel)⟩
set_option maxRecDepth 20000 in
theorem lw_p20 : lw_okq (⟨"DoorVoiceModel", "goTo", "(I)I"⟩, 20) := ⟨⟨by decide +kernel, by decide +kernel⟩, List.mem_of_getElem? (i := 510) (by decide +kernel), List.mem_of_getElem? (i := 638) (by decide +kernel), List.mem_of_getElem? (i := 639) (by decide +kernel)⟩
set_option maxRecDepth 20000 in
theorem lw_p21 : lw_okq (⟨"DoorVoiceModel", "read", "(I)I"⟩, 20) := ⟨⟨by decide +kernel, by decide +kernel⟩, List.mem_of_getElem? (i := 510) (by decide +kernel), List.mem_of_getElem? (i := 642) (by decide +kernel), List.mem_of_getElem? (i := 643) (by decide +kernel)⟩
set_option maxRecDepth 20000 in
theorem lw_p22 : lw_okq (⟨"DoorVoiceModel", "doesHear", "(III)Z"⟩, 20) := ⟨⟨by decide +kernel, by decide +kernel⟩, List.mem_of_getElem? (i := 510) (by decide +kernel), List.mem_of_getElem? (i := 646) (by decide +kernel), List.mem_of_getElem? (i := 647) (by decide +kernel)⟩
set_option maxRecDepth 20000 in
theorem lw_p23 : lw_okq (⟨"DoorVoiceModel", "loudAt", "(II)I"⟩, 20) := ⟨⟨by decide +kernel, by decide +kernel⟩, List.mem_of_getElem? (i := 510) (by decide +kernel), List.mem_of_getElem? (i := 650) (by decide +kernel), List.mem_of_getElem? (i := 651) (by decide +kernel)⟩
set_option maxRecDepth 20000 in
theorem lw_p24 : lw_okq (⟨"DoorVoiceModel", "barOfDays", "()I"⟩, 20) := ⟨⟨by decide +kernel, by decide +kernel⟩, List.mem_of_getElem? (i := 510) (by decide +kernel), List.mem_of_getElem? (i := 658) (by decide +kernel), List.mem_of_getElem? (i := 659) (by decide +kernel)⟩
set_option maxRecDepth 20000 in
theorem lw_p25 : lw_okq (⟨"DoorVoiceModel", "hearers", "(II)I"⟩, 20) := ⟨⟨by decide +kernel, by decide +kernel⟩, List.mem_of_getElem? (i := 510) (by decide +kernel), List.mem_of_getElem? (i := 682) (by decide +kernel), List.mem_of_getElem? (i := 683) (by decide +kernel)⟩
set_option maxRecDepth 20000 in
theorem lw_p26 : lw_okq (⟨"DoorVoiceModel", "laySets", "()V"⟩, 20) := ⟨⟨by decide +kernel, by decide +kernel⟩, List.mem_of_getElem? (i := 510) (by decide +kernel), List.mem_of_getElem? (i := 698) (by decide +kernel), List.mem_of_getElem? (i := 699) (by decide +kernel)⟩
set_option maxRecDepth 20000 in
theorem lw_p27 : lw_okq (⟨"DoorVoiceModel", "atSet", "()I"⟩, 20) := ⟨⟨by decide +kernel, by decide +kernel⟩, List.mem_of_getElem? (i := 510) (by decide +kernel), List.mem_of_getElem? (i := 718) (by decide +kernel), List.mem_of_getElem? (i := 719) (by decide +kernel)⟩
set_option maxRecDepth 20000 in
theorem lw_p28 : lw_okq (⟨"DoorVoiceModel", "spread", "(I)I"⟩, 20) := ⟨⟨by decide +kernel, by decide +kernel⟩, List.mem_of_getElem? (i := 510) (by decide +kernel), List.mem_of_getElem? (i := 730) (by decide +kernel), List.mem_of_getElem? (i := 731) (by decide +kernel)⟩
def lw_privs_2 : List (MethodName × Nat) := [(⟨"DoorVoiceModel", "faultOf", "()I"⟩, 20), (⟨"DoorVoiceModel", "goDays", "()I"⟩, 20), (⟨"DoorVoiceModel", "asNow", "()V"⟩, 20), (⟨"DoorVoiceModel", "evening", "()I"⟩, 20), (⟨"DoorVoiceModel", "goTo", "(I)I"⟩, 20), (⟨"DoorVoiceModel", "read", "(I)I"⟩, 20), (⟨"DoorVoiceModel", "doesHear", "(III)Z"⟩, 20), (⟨"DoorVoiceModel", "loudAt", "(II)I"⟩, 20), (⟨"DoorVoiceModel", "barOfDays", "()I"⟩, 20), (⟨"DoorVoiceModel", "hearers", "(II)I"⟩, 20), (⟨"DoorVoiceModel", "laySets", "()V"⟩, 20), (⟨"DoorVoiceModel", "atSet", "()I"⟩, 20), (⟨"DoorVoiceModel", "spread", "(I)I"⟩, 20)]
theorem lw_r2 : ∀ q ∈ lw_privs_2, lw_okq q := List.forall_mem_cons.mpr ⟨lw_p16, List.forall_mem_cons.mpr ⟨lw_p17, List.forall_mem_cons.mpr ⟨lw_p18, List.forall_mem_cons.mpr ⟨lw_p19, List.forall_mem_cons.mpr ⟨lw_p20, List.forall_mem_cons.mpr ⟨lw_p21, List.forall_mem_cons.mpr ⟨lw_p22, List.forall_mem_cons.mpr ⟨lw_p23, List.forall_mem_cons.mpr ⟨lw_p24, List.forall_mem_cons.mpr ⟨lw_p25, List.forall_mem_cons.mpr ⟨lw_p26, List.forall_mem_cons.mpr ⟨lw_p27, List.forall_mem_cons.mpr ⟨lw_p28, fun _ h => absurd h List.not_mem_nil⟩⟩⟩⟩⟩⟩⟩⟩⟩⟩⟩⟩⟩
def lw_privs : List (MethodName × Nat) := lw_privs_1 ++ (lw_privs_2)
def lw_tbl : List Cond := k2_sels lw_privs ++ tables_1
theorem lw_privs_ok : ∀ q ∈ lw_privs, lw_okq q := by
  show ∀ q ∈ lw_privs_1 ++ (lw_privs_2), lw_okq q
  exact List.forall_mem_append.mpr ⟨lw_r1, lw_r2⟩
def tb_0 : u_T := fun k => match k with
  | 0 => ("DoorVoice$Chances", "ways", "[J", true)
  | 1 => ("DoorVoice$Chances", "sure", "I", false)
  | 2 => ("DoorVoice$Chances", "unsure", "I", false)
  | 3 => ("DoorVoice$Chances", "upper", "J", false)
  | _ => ("DoorVoice$Chances", "lower", "J", false)
def ty_0 : Nat → FieldType := fun k => match k with
  | 0 => .array .long
  | 1 => .int
  | 2 => .int
  | 3 => .long
  | _ => .long
def tb_1 : u_T := fun k => match k with
  | 0 => ("DoorVoice$Listener", "hearersAt", "[I", true)
  | _ => ("DoorVoice$Listener", "placesHeardBy", "[I", true)
def ty_1 : Nat → FieldType := fun k => match k with
  | 0 => .array .int
  | _ => .array .int
def tb_2 : u_T := fun k => match k with
  | 0 => ("DoorVoice$Pad", "signs", "[I", true)
  | 1 => ("DoorVoice$Pad", "count", "I", false)
  | 2 => ("DoorVoice$Pad", "acts", "I", false)
  | 3 => ("DoorVoice$Pad", "stop", "I", false)
  | 4 => ("DoorVoice$Pad", "why", "I", false)
  | _ => ("DoorVoice$Pad", "astray", "I", false)
def ty_2 : Nat → FieldType := fun k => match k with
  | 0 => .array .int
  | 1 => .int
  | 2 => .int
  | 3 => .int
  | 4 => .int
  | _ => .int
def tb_3 : u_T := fun k => match k with
  | 0 => ("DoorVoice$Street", "facts", "[I", true)
  | 1 => ("DoorVoice$Street", "walls", "[I", true)
  | 2 => ("DoorVoice$Street", "forWhom", "[I", true)
  | 3 => ("DoorVoice$Street", "plain", "[I", true)
  | 4 => ("DoorVoice$Street", "cipher", "[I", true)
  | 5 => ("DoorVoice$Street", "keys", "[I", true)
  | 6 => ("DoorVoice$Street", "open", "I", false)
  | 7 => ("DoorVoice$Street", "deaf", "I", false)
  | 8 => ("DoorVoice$Street", "read", "I", false)
  | 9 => ("DoorVoice$Street", "voice", "I", false)
  | 10 => ("DoorVoice$Street", "wind", "I", false)
  | 11 => ("DoorVoice$Street", "place", "I", false)
  | 12 => ("DoorVoice$Street", "day", "I", false)
  | 13 => ("DoorVoice$Street", "sights", "I", false)
  | 14 => ("DoorVoice$Street", "heardBy", "I", false)
  | _ => ("DoorVoice$Street", "missedBy", "I", false)
def ty_3 : Nat → FieldType := fun k => match k with
  | 0 => .array .int
  | 1 => .array .int
  | 2 => .array .int
  | 3 => .array .int
  | 4 => .array .int
  | 5 => .array .int
  | 6 => .int
  | 7 => .int
  | 8 => .int
  | 9 => .int
  | 10 => .int
  | 11 => .int
  | 12 => .int
  | 13 => .int
  | 14 => .int
  | _ => .int
def tb_4 : u_T := fun k => match k with
  | 0 => ("DoorVoice", "now", "LDoorVoice$Street;", true)
  | 1 => ("DoorVoice", "firstImage", "LDoorVoice$Street;", true)
  | 2 => ("DoorVoice", "secondImage", "LDoorVoice$Street;", true)
  | 3 => ("DoorVoice", "trial", "LDoorVoice$Street;", true)
  | 4 => ("DoorVoice", "pad", "LDoorVoice$Pad;", true)
  | 5 => ("DoorVoice", "listener", "LDoorVoice$Listener;", true)
  | 6 => ("DoorVoice", "chances", "LDoorVoice$Chances;", true)
  | _ => ("DoorVoice", "keptImages", "I", false)
def ty_4 : Nat → FieldType := fun k => match k with
  | 0 => .object "DoorVoice$Street"
  | 1 => .object "DoorVoice$Street"
  | 2 => .object "DoorVoice$Street"
  | 3 => .object "DoorVoice$Street"
  | 4 => .object "DoorVoice$Pad"
  | 5 => .object "DoorVoice$Listener"
  | 6 => .object "DoorVoice$Chances"
  | _ => .int
def tb_5 : u_T := fun k => match k with
  | 0 => ("DoorVoiceModel", "book", "[I", true)
  | 1 => ("DoorVoiceModel", "now", "[I", true)
  | 2 => ("DoorVoiceModel", "deaf", "I", false)
  | 3 => ("DoorVoiceModel", "wall", "[I", true)
  | 4 => ("DoorVoiceModel", "voice", "I", false)
  | 5 => ("DoorVoiceModel", "wind", "I", false)
  | 6 => ("DoorVoiceModel", "letters", "[I", true)
  | 7 => ("DoorVoiceModel", "sights", "I", false)
  | 8 => ("DoorVoiceModel", "sight", "[I", true)
  | 9 => ("DoorVoiceModel", "signs", "I", false)
  | 10 => ("DoorVoiceModel", "pad", "[I", true)
  | 11 => ("DoorVoiceModel", "knew", "[I", true)
  | 12 => ("DoorVoiceModel", "isAstray", "Z", false)
  | 13 => ("DoorVoiceModel", "reason", "I", false)
  | 14 => ("DoorVoiceModel", "acts", "I", false)
  | 15 => ("DoorVoiceModel", "astray", "I", false)
  | 16 => ("DoorVoiceModel", "sets", "[I", true)
  | 17 => ("DoorVoiceModel", "ways", "[J", true)
  | 18 => ("DoorVoiceModel", "image", "[I", true)
  | _ => ("DoorVoiceModel", "isKept", "[Z", true)
def ty_5 : Nat → FieldType := fun k => match k with
  | 0 => .array .int
  | 1 => .array .int
  | 2 => .int
  | 3 => .array .int
  | 4 => .int
  | 5 => .int
  | 6 => .array .int
  | 7 => .int
  | 8 => .array .int
  | 9 => .int
  | 10 => .array .int
  | 11 => .array .int
  | 12 => .boolean
  | 13 => .int
  | 14 => .int
  | 15 => .int
  | 16 => .array .int
  | 17 => .array .long
  | 18 => .array .int
  | _ => .array .boolean
abbrev classes : List vw_C := [("DoorVoice$Chances", tb_0, 5), ("DoorVoice$Listener", tb_1, 2), ("DoorVoice$Pad", tb_2, 6), ("DoorVoice$Street", tb_3, 16), ("DoorVoice", tb_4, 8), ("DoorVoiceModel", tb_5, 20)]
def ax_T : List Cond := lw_tbl.filter goodWord
theorem ax_in {w : Cond} (i : Nat) (h : lw_tbl[i]? = some w) (hg : goodWord w = true) : w ∈ ax_T := List.mem_filter.mpr ⟨List.mem_of_getElem? h, hg⟩
theorem ax_good {ws : List Cond} (h : ∀ w ∈ ws, w ∈ ax_T) : GoodIn ax_T ws := fun w hw => ⟨h w hw, good_of_word (List.mem_filter.mp (h w hw)).2⟩
theorem nm_0 : ∀ a, a < 5 → ∀ b, b < 5 → a ≠ b → (tb_0 a).2.1 ≠ (tb_0 b).2.1 := by decide +kernel
theorem ty_0_ok : ∀ k, k < 5 → parseFieldDescriptor (tb_0 k).2.2.1 = some (ty_0 k) := by decide +kernel
set_option maxRecDepth 20000 in
theorem in_0 : ∀ w ∈ u_ws "DoorVoice$Chances" tb_0 5, w ∈ ax_T := by
  intro w hw
  obtain ⟨k, hk, rfl⟩ := List.mem_map.mp hw
  have hk := List.mem_range.mp hk
  match k, hk with
  | 0, _ => exact ax_in 183 rfl rfl
  | 1, _ => exact ax_in 185 rfl rfl
  | 2, _ => exact ax_in 187 rfl rfl
  | 3, _ => exact ax_in 189 rfl rfl
  | 4, _ => exact ax_in 191 rfl rfl
  | k + 5, hk => exact absurd hk (by omega)
theorem nm_1 : ∀ a, a < 2 → ∀ b, b < 2 → a ≠ b → (tb_1 a).2.1 ≠ (tb_1 b).2.1 := by decide +kernel
theorem ty_1_ok : ∀ k, k < 2 → parseFieldDescriptor (tb_1 k).2.2.1 = some (ty_1 k) := by decide +kernel
set_option maxRecDepth 20000 in
theorem in_1 : ∀ w ∈ u_ws "DoorVoice$Listener" tb_1 2, w ∈ ax_T := by
  intro w hw
  obtain ⟨k, hk, rfl⟩ := List.mem_map.mp hw
  have hk := List.mem_range.mp hk
  match k, hk with
  | 0, _ => exact ax_in 165 rfl rfl
  | 1, _ => exact ax_in 167 rfl rfl
  | k + 2, hk => exact absurd hk (by omega)
theorem nm_2 : ∀ a, a < 6 → ∀ b, b < 6 → a ≠ b → (tb_2 a).2.1 ≠ (tb_2 b).2.1 := by decide +kernel
theorem ty_2_ok : ∀ k, k < 6 → parseFieldDescriptor (tb_2 k).2.2.1 = some (ty_2 k) := by decide +kernel
set_option maxRecDepth 20000 in
theorem in_2 : ∀ w ∈ u_ws "DoorVoice$Pad" tb_2 6, w ∈ ax_T := by
  intro w hw
  obtain ⟨k, hk, rfl⟩ := List.mem_map.mp hw
  have hk := List.mem_range.mp hk
  match k, hk with
  | 0, _ => exact ax_in 144 rfl rfl
  | 1, _ => exact ax_in 146 rfl rfl
  | 2, _ => exact ax_in 148 rfl rfl
  | 3, _ => exact ax_in 150 rfl rfl
  | 4, _ => exact ax_in 152 rfl rfl
  | 5, _ => exact ax_in 154 rfl rfl
  | k + 6, hk => exact absurd hk (by omega)
theorem nm_3 : ∀ a, a < 16 → ∀ b, b < 16 → a ≠ b → (tb_3 a).2.1 ≠ (tb_3 b).2.1 := by decide +kernel
theorem ty_3_ok : ∀ k, k < 16 → parseFieldDescriptor (tb_3 k).2.2.1 = some (ty_3 k) := by decide +kernel
set_option maxRecDepth 20000 in
theorem in_3 : ∀ w ∈ u_ws "DoorVoice$Street" tb_3 16, w ∈ ax_T := by
  intro w hw
  obtain ⟨k, hk, rfl⟩ := List.mem_map.mp hw
  have hk := List.mem_range.mp hk
  match k, hk with
  | 0, _ => exact ax_in 93 rfl rfl
  | 1, _ => exact ax_in 95 rfl rfl
  | 2, _ => exact ax_in 97 rfl rfl
  | 3, _ => exact ax_in 99 rfl rfl
  | 4, _ => exact ax_in 101 rfl rfl
  | 5, _ => exact ax_in 103 rfl rfl
  | 6, _ => exact ax_in 105 rfl rfl
  | 7, _ => exact ax_in 107 rfl rfl
  | 8, _ => exact ax_in 109 rfl rfl
  | 9, _ => exact ax_in 111 rfl rfl
  | 10, _ => exact ax_in 113 rfl rfl
  | 11, _ => exact ax_in 115 rfl rfl
  | 12, _ => exact ax_in 117 rfl rfl
  | 13, _ => exact ax_in 119 rfl rfl
  | 14, _ => exact ax_in 121 rfl rfl
  | 15, _ => exact ax_in 123 rfl rfl
  | k + 16, hk => exact absurd hk (by omega)
theorem nm_4 : ∀ a, a < 8 → ∀ b, b < 8 → a ≠ b → (tb_4 a).2.1 ≠ (tb_4 b).2.1 := by decide +kernel
theorem ty_4_ok : ∀ k, k < 8 → parseFieldDescriptor (tb_4 k).2.2.1 = some (ty_4 k) := by decide +kernel
set_option maxRecDepth 20000 in
theorem in_4 : ∀ w ∈ u_ws "DoorVoice" tb_4 8, w ∈ ax_T := by
  intro w hw
  obtain ⟨k, hk, rfl⟩ := List.mem_map.mp hw
  have hk := List.mem_range.mp hk
  match k, hk with
  | 0, _ => exact ax_in 203 rfl rfl
  | 1, _ => exact ax_in 205 rfl rfl
  | 2, _ => exact ax_in 207 rfl rfl
  | 3, _ => exact ax_in 209 rfl rfl
  | 4, _ => exact ax_in 211 rfl rfl
  | 5, _ => exact ax_in 213 rfl rfl
  | 6, _ => exact ax_in 215 rfl rfl
  | 7, _ => exact ax_in 217 rfl rfl
  | k + 8, hk => exact absurd hk (by omega)
theorem nm_5 : ∀ a, a < 20 → ∀ b, b < 20 → a ≠ b → (tb_5 a).2.1 ≠ (tb_5 b).2.1 := by decide +kernel
theorem ty_5_ok : ∀ k, k < 20 → parseFieldDescriptor (tb_5 k).2.2.1 = some (ty_5 k) := by decide +kernel
set_option maxRecDepth 20000 in
theorem in_5 : ∀ w ∈ u_ws "DoorVoiceModel" tb_5 20, w ∈ ax_T := by
  intro w hw
  obtain ⟨k, hk, rfl⟩ := List.mem_map.mp hw
  have hk := List.mem_range.mp hk
  match k, hk with
  | 0, _ => exact ax_in 564 rfl rfl
  | 1, _ => exact ax_in 566 rfl rfl
  | 2, _ => exact ax_in 568 rfl rfl
  | 3, _ => exact ax_in 570 rfl rfl
  | 4, _ => exact ax_in 572 rfl rfl
  | 5, _ => exact ax_in 574 rfl rfl
  | 6, _ => exact ax_in 576 rfl rfl
  | 7, _ => exact ax_in 578 rfl rfl
  | 8, _ => exact ax_in 580 rfl rfl
  | 9, _ => exact ax_in 582 rfl rfl
  | 10, _ => exact ax_in 584 rfl rfl
  | 11, _ => exact ax_in 586 rfl rfl
  | 12, _ => exact ax_in 588 rfl rfl
  | 13, _ => exact ax_in 590 rfl rfl
  | 14, _ => exact ax_in 592 rfl rfl
  | 15, _ => exact ax_in 594 rfl rfl
  | 16, _ => exact ax_in 596 rfl rfl
  | 17, _ => exact ax_in 598 rfl rfl
  | 18, _ => exact ax_in 600 rfl rfl
  | 19, _ => exact ax_in 602 rfl rfl
  | k + 20, hk => exact absurd hk (by omega)
def cl_ok (ci : Nat) (C : String) (T : u_T) (N : Nat) (ty : Nat → FieldType) : Prop := classes[ci]? = some (C, T, N) ∧ (∀ w ∈ u_ws C T N, w ∈ ax_T) ∧ (∀ k, k < N → parseFieldDescriptor (T k).2.2.1 = some (ty k)) ∧ (∀ a, a < N → ∀ b, b < N → a ≠ b → (T a).2.1 ≠ (T b).2.1)
theorem cl_0 : cl_ok 0 "DoorVoice$Chances" tb_0 5 ty_0 := ⟨rfl, in_0, ty_0_ok, nm_0⟩
theorem cl_1 : cl_ok 1 "DoorVoice$Listener" tb_1 2 ty_1 := ⟨rfl, in_1, ty_1_ok, nm_1⟩
theorem cl_2 : cl_ok 2 "DoorVoice$Pad" tb_2 6 ty_2 := ⟨rfl, in_2, ty_2_ok, nm_2⟩
theorem cl_3 : cl_ok 3 "DoorVoice$Street" tb_3 16 ty_3 := ⟨rfl, in_3, ty_3_ok, nm_3⟩
theorem cl_4 : cl_ok 4 "DoorVoice" tb_4 8 ty_4 := ⟨rfl, in_4, ty_4_ok, nm_4⟩
theorem cl_5 : cl_ok 5 "DoorVoiceModel" tb_5 20 ty_5 := ⟨rfl, in_5, ty_5_ok, nm_5⟩
/-- a field by its link: class number, field number -/
def fl_ok (own : String) (idx ci j : Nat) : Prop := ∃ (C : String) (T : u_T) (N : Nat) (ty : Nat → FieldType), cl_ok ci C T N ty ∧ j < N ∧ Cond.fieldLink own idx (T j).1 (T j).2.1 (T j).2.2.1 ∈ ax_T
set_option maxRecDepth 20000 in
theorem lf_S_9 : fl_ok "DoorVoice$Street" 9 3 0 := ⟨_, _, _, _, cl_3, by decide, ax_in 53 rfl rfl⟩
set_option maxRecDepth 20000 in
theorem lf_V_54 : fl_ok "DoorVoice" 54 3 0 := ⟨_, _, _, _, cl_3, by decide, ax_in 54 rfl rfl⟩
set_option maxRecDepth 20000 in
theorem lf_S_15 : fl_ok "DoorVoice$Street" 15 3 1 := ⟨_, _, _, _, cl_3, by decide, ax_in 55 rfl rfl⟩
set_option maxRecDepth 20000 in
theorem lf_V_68 : fl_ok "DoorVoice" 68 3 1 := ⟨_, _, _, _, cl_3, by decide, ax_in 56 rfl rfl⟩
set_option maxRecDepth 20000 in
theorem lf_S_18 : fl_ok "DoorVoice$Street" 18 3 2 := ⟨_, _, _, _, cl_3, by decide, ax_in 57 rfl rfl⟩
set_option maxRecDepth 20000 in
theorem lf_L_53 : fl_ok "DoorVoice$Listener" 53 3 2 := ⟨_, _, _, _, cl_3, by decide, ax_in 58 rfl rfl⟩
set_option maxRecDepth 20000 in
theorem lf_V_90 : fl_ok "DoorVoice" 90 3 2 := ⟨_, _, _, _, cl_3, by decide, ax_in 59 rfl rfl⟩
set_option maxRecDepth 20000 in
theorem lf_P_73 : fl_ok "DoorVoice$Pad" 73 3 2 := ⟨_, _, _, _, cl_3, by decide, ax_in 60 rfl rfl⟩
set_option maxRecDepth 20000 in
theorem lf_S_21 : fl_ok "DoorVoice$Street" 21 3 3 := ⟨_, _, _, _, cl_3, by decide, ax_in 61 rfl rfl⟩
set_option maxRecDepth 20000 in
theorem lf_V_93 : fl_ok "DoorVoice" 93 3 3 := ⟨_, _, _, _, cl_3, by decide, ax_in 62 rfl rfl⟩
set_option maxRecDepth 20000 in
theorem lf_S_24 : fl_ok "DoorVoice$Street" 24 3 4 := ⟨_, _, _, _, cl_3, by decide, ax_in 63 rfl rfl⟩
set_option maxRecDepth 20000 in
theorem lf_V_96 : fl_ok "DoorVoice" 96 3 4 := ⟨_, _, _, _, cl_3, by decide, ax_in 64 rfl rfl⟩
set_option maxRecDepth 20000 in
theorem lf_S_27 : fl_ok "DoorVoice$Street" 27 3 5 := ⟨_, _, _, _, cl_3, by decide, ax_in 65 rfl rfl⟩
set_option maxRecDepth 20000 in
theorem lf_V_99 : fl_ok "DoorVoice" 99 3 5 := ⟨_, _, _, _, cl_3, by decide, ax_in 66 rfl rfl⟩
set_option maxRecDepth 20000 in
theorem lf_S_30 : fl_ok "DoorVoice$Street" 30 3 6 := ⟨_, _, _, _, cl_3, by decide, ax_in 67 rfl rfl⟩
set_option maxRecDepth 20000 in
theorem lf_L_18 : fl_ok "DoorVoice$Listener" 18 3 6 := ⟨_, _, _, _, cl_3, by decide, ax_in 68 rfl rfl⟩
set_option maxRecDepth 20000 in
theorem lf_V_58 : fl_ok "DoorVoice" 58 3 6 := ⟨_, _, _, _, cl_3, by decide, ax_in 69 rfl rfl⟩
set_option maxRecDepth 20000 in
theorem lf_P_67 : fl_ok "DoorVoice$Pad" 67 3 6 := ⟨_, _, _, _, cl_3, by decide, ax_in 70 rfl rfl⟩
set_option maxRecDepth 20000 in
theorem lf_S_34 : fl_ok "DoorVoice$Street" 34 3 7 := ⟨_, _, _, _, cl_3, by decide, ax_in 71 rfl rfl⟩
set_option maxRecDepth 20000 in
theorem lf_V_65 : fl_ok "DoorVoice" 65 3 7 := ⟨_, _, _, _, cl_3, by decide, ax_in 72 rfl rfl⟩
set_option maxRecDepth 20000 in
theorem lf_S_37 : fl_ok "DoorVoice$Street" 37 3 8 := ⟨_, _, _, _, cl_3, by decide, ax_in 73 rfl rfl⟩
set_option maxRecDepth 20000 in
theorem lf_V_102 : fl_ok "DoorVoice" 102 3 8 := ⟨_, _, _, _, cl_3, by decide, ax_in 74 rfl rfl⟩
set_option maxRecDepth 20000 in
theorem lf_S_40 : fl_ok "DoorVoice$Street" 40 3 9 := ⟨_, _, _, _, cl_3, by decide, ax_in 75 rfl rfl⟩
set_option maxRecDepth 20000 in
theorem lf_V_81 : fl_ok "DoorVoice" 81 3 9 := ⟨_, _, _, _, cl_3, by decide, ax_in 76 rfl rfl⟩
set_option maxRecDepth 20000 in
theorem lf_S_43 : fl_ok "DoorVoice$Street" 43 3 10 := ⟨_, _, _, _, cl_3, by decide, ax_in 77 rfl rfl⟩
set_option maxRecDepth 20000 in
theorem lf_V_84 : fl_ok "DoorVoice" 84 3 10 := ⟨_, _, _, _, cl_3, by decide, ax_in 78 rfl rfl⟩
set_option maxRecDepth 20000 in
theorem lf_S_46 : fl_ok "DoorVoice$Street" 46 3 11 := ⟨_, _, _, _, cl_3, by decide, ax_in 79 rfl rfl⟩
set_option maxRecDepth 20000 in
theorem lf_L_41 : fl_ok "DoorVoice$Listener" 41 3 11 := ⟨_, _, _, _, cl_3, by decide, ax_in 80 rfl rfl⟩
set_option maxRecDepth 20000 in
theorem lf_V_87 : fl_ok "DoorVoice" 87 3 11 := ⟨_, _, _, _, cl_3, by decide, ax_in 81 rfl rfl⟩
set_option maxRecDepth 20000 in
theorem lf_P_64 : fl_ok "DoorVoice$Pad" 64 3 11 := ⟨_, _, _, _, cl_3, by decide, ax_in 82 rfl rfl⟩
set_option maxRecDepth 20000 in
theorem lf_S_49 : fl_ok "DoorVoice$Street" 49 3 12 := ⟨_, _, _, _, cl_3, by decide, ax_in 83 rfl rfl⟩
set_option maxRecDepth 20000 in
theorem lf_V_136 : fl_ok "DoorVoice" 136 3 12 := ⟨_, _, _, _, cl_3, by decide, ax_in 84 rfl rfl⟩
set_option maxRecDepth 20000 in
theorem lf_S_52 : fl_ok "DoorVoice$Street" 52 3 13 := ⟨_, _, _, _, cl_3, by decide, ax_in 85 rfl rfl⟩
set_option maxRecDepth 20000 in
theorem lf_V_167 : fl_ok "DoorVoice" 167 3 13 := ⟨_, _, _, _, cl_3, by decide, ax_in 86 rfl rfl⟩
set_option maxRecDepth 20000 in
theorem lf_S_55 : fl_ok "DoorVoice$Street" 55 3 14 := ⟨_, _, _, _, cl_3, by decide, ax_in 87 rfl rfl⟩
set_option maxRecDepth 20000 in
theorem lf_L_56 : fl_ok "DoorVoice$Listener" 56 3 14 := ⟨_, _, _, _, cl_3, by decide, ax_in 88 rfl rfl⟩
set_option maxRecDepth 20000 in
theorem lf_V_170 : fl_ok "DoorVoice" 170 3 14 := ⟨_, _, _, _, cl_3, by decide, ax_in 89 rfl rfl⟩
set_option maxRecDepth 20000 in
theorem lf_S_58 : fl_ok "DoorVoice$Street" 58 3 15 := ⟨_, _, _, _, cl_3, by decide, ax_in 90 rfl rfl⟩
set_option maxRecDepth 20000 in
theorem lf_L_59 : fl_ok "DoorVoice$Listener" 59 3 15 := ⟨_, _, _, _, cl_3, by decide, ax_in 91 rfl rfl⟩
set_option maxRecDepth 20000 in
theorem lf_V_173 : fl_ok "DoorVoice" 173 3 15 := ⟨_, _, _, _, cl_3, by decide, ax_in 92 rfl rfl⟩
set_option maxRecDepth 20000 in
theorem lf_P_9 : fl_ok "DoorVoice$Pad" 9 2 0 := ⟨_, _, _, _, cl_2, by decide, ax_in 133 rfl rfl⟩
set_option maxRecDepth 20000 in
theorem lf_P_15 : fl_ok "DoorVoice$Pad" 15 2 1 := ⟨_, _, _, _, cl_2, by decide, ax_in 134 rfl rfl⟩
set_option maxRecDepth 20000 in
theorem lf_V_109 : fl_ok "DoorVoice" 109 2 1 := ⟨_, _, _, _, cl_2, by decide, ax_in 135 rfl rfl⟩
set_option maxRecDepth 20000 in
theorem lf_P_19 : fl_ok "DoorVoice$Pad" 19 2 2 := ⟨_, _, _, _, cl_2, by decide, ax_in 136 rfl rfl⟩
set_option maxRecDepth 20000 in
theorem lf_V_133 : fl_ok "DoorVoice" 133 2 2 := ⟨_, _, _, _, cl_2, by decide, ax_in 137 rfl rfl⟩
set_option maxRecDepth 20000 in
theorem lf_P_22 : fl_ok "DoorVoice$Pad" 22 2 3 := ⟨_, _, _, _, cl_2, by decide, ax_in 138 rfl rfl⟩
set_option maxRecDepth 20000 in
theorem lf_V_123 : fl_ok "DoorVoice" 123 2 3 := ⟨_, _, _, _, cl_2, by decide, ax_in 139 rfl rfl⟩
set_option maxRecDepth 20000 in
theorem lf_P_25 : fl_ok "DoorVoice$Pad" 25 2 4 := ⟨_, _, _, _, cl_2, by decide, ax_in 140 rfl rfl⟩
set_option maxRecDepth 20000 in
theorem lf_V_126 : fl_ok "DoorVoice" 126 2 4 := ⟨_, _, _, _, cl_2, by decide, ax_in 141 rfl rfl⟩
set_option maxRecDepth 20000 in
theorem lf_P_28 : fl_ok "DoorVoice$Pad" 28 2 5 := ⟨_, _, _, _, cl_2, by decide, ax_in 142 rfl rfl⟩
set_option maxRecDepth 20000 in
theorem lf_V_139 : fl_ok "DoorVoice" 139 2 5 := ⟨_, _, _, _, cl_2, by decide, ax_in 143 rfl rfl⟩
set_option maxRecDepth 20000 in
theorem lf_L_9 : fl_ok "DoorVoice$Listener" 9 1 0 := ⟨_, _, _, _, cl_1, by decide, ax_in 163 rfl rfl⟩
set_option maxRecDepth 20000 in
theorem lf_L_15 : fl_ok "DoorVoice$Listener" 15 1 1 := ⟨_, _, _, _, cl_1, by decide, ax_in 164 rfl rfl⟩
set_option maxRecDepth 20000 in
theorem lf_C_9 : fl_ok "DoorVoice$Chances" 9 0 0 := ⟨_, _, _, _, cl_0, by decide, ax_in 176 rfl rfl⟩
set_option maxRecDepth 20000 in
theorem lf_C_15 : fl_ok "DoorVoice$Chances" 15 0 1 := ⟨_, _, _, _, cl_0, by decide, ax_in 177 rfl rfl⟩
set_option maxRecDepth 20000 in
theorem lf_C_19 : fl_ok "DoorVoice$Chances" 19 0 2 := ⟨_, _, _, _, cl_0, by decide, ax_in 178 rfl rfl⟩
set_option maxRecDepth 20000 in
theorem lf_C_22 : fl_ok "DoorVoice$Chances" 22 0 3 := ⟨_, _, _, _, cl_0, by decide, ax_in 179 rfl rfl⟩
set_option maxRecDepth 20000 in
theorem lf_V_210 : fl_ok "DoorVoice" 210 0 3 := ⟨_, _, _, _, cl_0, by decide, ax_in 180 rfl rfl⟩
set_option maxRecDepth 20000 in
theorem lf_C_26 : fl_ok "DoorVoice$Chances" 26 0 4 := ⟨_, _, _, _, cl_0, by decide, ax_in 181 rfl rfl⟩
set_option maxRecDepth 20000 in
theorem lf_V_214 : fl_ok "DoorVoice" 214 0 4 := ⟨_, _, _, _, cl_0, by decide, ax_in 182 rfl rfl⟩
set_option maxRecDepth 20000 in
theorem lf_V_10 : fl_ok "DoorVoice" 10 4 0 := ⟨_, _, _, _, cl_4, by decide, ax_in 195 rfl rfl⟩
set_option maxRecDepth 20000 in
theorem lf_V_16 : fl_ok "DoorVoice" 16 4 1 := ⟨_, _, _, _, cl_4, by decide, ax_in 196 rfl rfl⟩
set_option maxRecDepth 20000 in
theorem lf_V_19 : fl_ok "DoorVoice" 19 4 2 := ⟨_, _, _, _, cl_4, by decide, ax_in 197 rfl rfl⟩
set_option maxRecDepth 20000 in
theorem lf_V_22 : fl_ok "DoorVoice" 22 4 3 := ⟨_, _, _, _, cl_4, by decide, ax_in 198 rfl rfl⟩
set_option maxRecDepth 20000 in
theorem lf_V_28 : fl_ok "DoorVoice" 28 4 4 := ⟨_, _, _, _, cl_4, by decide, ax_in 199 rfl rfl⟩
set_option maxRecDepth 20000 in
theorem lf_V_35 : fl_ok "DoorVoice" 35 4 5 := ⟨_, _, _, _, cl_4, by decide, ax_in 200 rfl rfl⟩
set_option maxRecDepth 20000 in
theorem lf_V_42 : fl_ok "DoorVoice" 42 4 6 := ⟨_, _, _, _, cl_4, by decide, ax_in 201 rfl rfl⟩
set_option maxRecDepth 20000 in
theorem lf_V_46 : fl_ok "DoorVoice" 46 4 7 := ⟨_, _, _, _, cl_4, by decide, ax_in 202 rfl rfl⟩
set_option maxRecDepth 20000 in
theorem lf_M_7 : fl_ok "DoorVoiceModel" 7 5 0 := ⟨_, _, _, _, cl_5, by decide, ax_in 544 rfl rfl⟩
set_option maxRecDepth 20000 in
theorem lf_M_13 : fl_ok "DoorVoiceModel" 13 5 1 := ⟨_, _, _, _, cl_5, by decide, ax_in 545 rfl rfl⟩
set_option maxRecDepth 20000 in
theorem lf_M_49 : fl_ok "DoorVoiceModel" 49 5 2 := ⟨_, _, _, _, cl_5, by decide, ax_in 546 rfl rfl⟩
set_option maxRecDepth 20000 in
theorem lf_M_16 : fl_ok "DoorVoiceModel" 16 5 3 := ⟨_, _, _, _, cl_5, by decide, ax_in 547 rfl rfl⟩
set_option maxRecDepth 20000 in
theorem lf_M_19 : fl_ok "DoorVoiceModel" 19 5 4 := ⟨_, _, _, _, cl_5, by decide, ax_in 548 rfl rfl⟩
set_option maxRecDepth 20000 in
theorem lf_M_60 : fl_ok "DoorVoiceModel" 60 5 5 := ⟨_, _, _, _, cl_5, by decide, ax_in 549 rfl rfl⟩
set_option maxRecDepth 20000 in
theorem lf_M_23 : fl_ok "DoorVoiceModel" 23 5 6 := ⟨_, _, _, _, cl_5, by decide, ax_in 550 rfl rfl⟩
set_option maxRecDepth 20000 in
theorem lf_M_126 : fl_ok "DoorVoiceModel" 126 5 7 := ⟨_, _, _, _, cl_5, by decide, ax_in 551 rfl rfl⟩
set_option maxRecDepth 20000 in
theorem lf_M_26 : fl_ok "DoorVoiceModel" 26 5 8 := ⟨_, _, _, _, cl_5, by decide, ax_in 552 rfl rfl⟩
set_option maxRecDepth 20000 in
theorem lf_M_63 : fl_ok "DoorVoiceModel" 63 5 9 := ⟨_, _, _, _, cl_5, by decide, ax_in 553 rfl rfl⟩
set_option maxRecDepth 20000 in
theorem lf_M_29 : fl_ok "DoorVoiceModel" 29 5 10 := ⟨_, _, _, _, cl_5, by decide, ax_in 554 rfl rfl⟩
set_option maxRecDepth 20000 in
theorem lf_M_32 : fl_ok "DoorVoiceModel" 32 5 11 := ⟨_, _, _, _, cl_5, by decide, ax_in 555 rfl rfl⟩
set_option maxRecDepth 20000 in
theorem lf_M_84 : fl_ok "DoorVoiceModel" 84 5 12 := ⟨_, _, _, _, cl_5, by decide, ax_in 556 rfl rfl⟩
set_option maxRecDepth 20000 in
theorem lf_M_97 : fl_ok "DoorVoiceModel" 97 5 13 := ⟨_, _, _, _, cl_5, by decide, ax_in 557 rfl rfl⟩
set_option maxRecDepth 20000 in
theorem lf_M_91 : fl_ok "DoorVoiceModel" 91 5 14 := ⟨_, _, _, _, cl_5, by decide, ax_in 558 rfl rfl⟩
set_option maxRecDepth 20000 in
theorem lf_M_94 : fl_ok "DoorVoiceModel" 94 5 15 := ⟨_, _, _, _, cl_5, by decide, ax_in 559 rfl rfl⟩
set_option maxRecDepth 20000 in
theorem lf_M_35 : fl_ok "DoorVoiceModel" 35 5 16 := ⟨_, _, _, _, cl_5, by decide, ax_in 560 rfl rfl⟩
set_option maxRecDepth 20000 in
theorem lf_M_38 : fl_ok "DoorVoiceModel" 38 5 17 := ⟨_, _, _, _, cl_5, by decide, ax_in 561 rfl rfl⟩
set_option maxRecDepth 20000 in
theorem lf_M_42 : fl_ok "DoorVoiceModel" 42 5 18 := ⟨_, _, _, _, cl_5, by decide, ax_in 562 rfl rfl⟩
set_option maxRecDepth 20000 in
theorem lf_M_45 : fl_ok "DoorVoiceModel" 45 5 19 := ⟨_, _, _, _, cl_5, by decide, ax_in 563 rfl rfl⟩
abbrev m_V_init : MethodName × ByteArray × Nat × Option FieldType := (⟨"DoorVoice", "<init>", "()V"⟩, prog_1_method_1_code, 1, none)
abbrev m_V_house : MethodName × ByteArray × Nat × Option FieldType := (⟨"DoorVoice", "house", "(IZZI)I"⟩, prog_1_method_2_code, 6, (some .int))
abbrev m_V_wall : MethodName × ByteArray × Nat × Option FieldType := (⟨"DoorVoice", "wall", "(II)I"⟩, prog_1_method_3_code, 4, (some .int))
abbrev m_V_set : MethodName × ByteArray × Nat × Option FieldType := (⟨"DoorVoice", "set", "(II)I"⟩, prog_1_method_4_code, 3, (some .int))
abbrev m_V_setVoice : MethodName × ByteArray × Nat × Option FieldType := (⟨"DoorVoice", "setVoice", "(I)I"⟩, prog_1_method_5_code, 3, (some .int))
abbrev m_V_setWind : MethodName × ByteArray × Nat × Option FieldType := (⟨"DoorVoice", "setWind", "(I)I"⟩, prog_1_method_6_code, 3, (some .int))
abbrev m_V_setPlace : MethodName × ByteArray × Nat × Option FieldType := (⟨"DoorVoice", "setPlace", "(I)I"⟩, prog_1_method_7_code, 3, (some .int))
abbrev m_V_letter : MethodName × ByteArray × Nat × Option FieldType := (⟨"DoorVoice", "letter", "(IIIII)I"⟩, prog_1_method_8_code, 7, (some .int))
abbrev m_V_say : MethodName × ByteArray × Nat × Option FieldType := (⟨"DoorVoice", "say", "(I)I"⟩, prog_1_method_9_code, 2, (some .int))
abbrev m_V_wipe : MethodName × ByteArray × Nat × Option FieldType := (⟨"DoorVoice", "wipe", "()I"⟩, prog_1_method_10_code, 1, (some .int))
abbrev m_V_fault : MethodName × ByteArray × Nat × Option FieldType := (⟨"DoorVoice", "fault", "()I"⟩, prog_1_method_11_code, 1, (some .int))
abbrev m_V_judge : MethodName × ByteArray × Nat × Option FieldType := (⟨"DoorVoice", "judge", "(I)I"⟩, prog_1_method_12_code, 2, (some .int))
abbrev m_V_done : MethodName × ByteArray × Nat × Option FieldType := (⟨"DoorVoice", "done", "()I"⟩, prog_1_method_13_code, 1, (some .int))
abbrev m_V_knows : MethodName × ByteArray × Nat × Option FieldType := (⟨"DoorVoice", "knows", "(I)I"⟩, prog_1_method_14_code, 2, (some .int))
abbrev m_V_behind : MethodName × ByteArray × Nat × Option FieldType := (⟨"DoorVoice", "behind", "(I)I"⟩, prog_1_method_15_code, 2, (some .int))
abbrev m_V_who : MethodName × ByteArray × Nat × Option FieldType := (⟨"DoorVoice", "who", "(I)I"⟩, prog_1_method_16_code, 4, (some .int))
abbrev m_V_loud : MethodName × ByteArray × Nat × Option FieldType := (⟨"DoorVoice", "loud", "(II)I"⟩, prog_1_method_17_code, 3, (some .int))
abbrev m_V_hears : MethodName × ByteArray × Nat × Option FieldType := (⟨"DoorVoice", "hears", "(I)I"⟩, prog_1_method_18_code, 2, (some .int))
abbrev m_V_best : MethodName × ByteArray × Nat × Option FieldType := (⟨"DoorVoice", "best", "(II)I"⟩, prog_1_method_19_code, 3, (some .int))
abbrev m_V_thirds : MethodName × ByteArray × Nat × Option FieldType := (⟨"DoorVoice", "thirds", "(II)I"⟩, prog_1_method_20_code, 3, (some .int))
abbrev m_V_round : MethodName × ByteArray × Nat × Option FieldType := (⟨"DoorVoice", "round", "(II)I"⟩, prog_1_method_21_code, 3, (some .int))
abbrev m_V_seen : MethodName × ByteArray × Nat × Option FieldType := (⟨"DoorVoice", "seen", "(IZ)I"⟩, prog_1_method_22_code, 3, (some .int))
abbrev m_V_forget : MethodName × ByteArray × Nat × Option FieldType := (⟨"DoorVoice", "forget", "()I"⟩, prog_1_method_23_code, 2, (some .int))
abbrev m_V_at : MethodName × ByteArray × Nat × Option FieldType := (⟨"DoorVoice", "at", "()I"⟩, prog_1_method_24_code, 1, (some .int))
abbrev m_V_ask : MethodName × ByteArray × Nat × Option FieldType := (⟨"DoorVoice", "ask", "(I)I"⟩, prog_1_method_25_code, 3, (some .int))
abbrev m_V_rumour : MethodName × ByteArray × Nat × Option FieldType := (⟨"DoorVoice", "rumour", "(II)I"⟩, prog_1_method_26_code, 3, (some .int))
abbrev m_V_chance : MethodName × ByteArray × Nat × Option FieldType := (⟨"DoorVoice", "chance", "(IIII)J"⟩, prog_1_method_27_code, 5, (some .long))
abbrev m_V_year : MethodName × ByteArray × Nat × Option FieldType := (⟨"DoorVoice", "year", "(III)I"⟩, prog_1_method_28_code, 4, (some .int))
abbrev m_V_image : MethodName × ByteArray × Nat × Option FieldType := (⟨"DoorVoice", "image", "(I)I"⟩, prog_1_method_29_code, 2, (some .int))
abbrev m_V_restore : MethodName × ByteArray × Nat × Option FieldType := (⟨"DoorVoice", "restore", "(I)I"⟩, prog_1_method_30_code, 2, (some .int))
abbrev m_V_imageNumbered : MethodName × ByteArray × Nat × Option FieldType := (⟨"DoorVoice", "imageNumbered", "(I)LDoorVoice$Street;"⟩, prog_1_method_31_code, 2, (some (.object "DoorVoice$Street")))
abbrev m_V_told : MethodName × ByteArray × Nat × Option FieldType := (⟨"DoorVoice", "told", "(I)I"⟩, prog_1_method_32_code, 2, (some .int))
abbrev m_V_toldOfAll : MethodName × ByteArray × Nat × Option FieldType := (⟨"DoorVoice", "toldOfAll", "(I)I"⟩, prog_1_method_33_code, 2, (some .int))
abbrev m_V_toldOfLetter : MethodName × ByteArray × Nat × Option FieldType := (⟨"DoorVoice", "toldOfLetter", "(II)I"⟩, prog_1_method_34_code, 3, (some .int))
abbrev m_V_within : MethodName × ByteArray × Nat × Option FieldType := (⟨"DoorVoice", "within", "(III)Z"⟩, prog_1_method_35_code, 3, (some .boolean))
abbrev m_V_hasBit : MethodName × ByteArray × Nat × Option FieldType := (⟨"DoorVoice", "hasBit", "(II)Z"⟩, prog_1_method_36_code, 2, (some .boolean))
abbrev m_V_withBit : MethodName × ByteArray × Nat × Option FieldType := (⟨"DoorVoice", "withBit", "(IIZ)I"⟩, prog_1_method_37_code, 3, (some .int))
abbrev m_M_init : MethodName × ByteArray × Nat × Option FieldType := (⟨"DoorVoiceModel", "<init>", "()V"⟩, prog_7_method_1_code, 1, none)
abbrev m_M_in : MethodName × ByteArray × Nat × Option FieldType := (⟨"DoorVoiceModel", "in", "(III)Z"⟩, prog_7_method_2_code, 3, (some .boolean))
abbrev m_M_has : MethodName × ByteArray × Nat × Option FieldType := (⟨"DoorVoiceModel", "has", "(II)Z"⟩, prog_7_method_3_code, 2, (some .boolean))
abbrev m_M_bits : MethodName × ByteArray × Nat × Option FieldType := (⟨"DoorVoiceModel", "bits", "(I)I"⟩, prog_7_method_4_code, 3, (some .int))
abbrev m_M_isHouse : MethodName × ByteArray × Nat × Option FieldType := (⟨"DoorVoiceModel", "isHouse", "(I)Z"⟩, prog_7_method_5_code, 1, (some .boolean))
abbrev m_M_house : MethodName × ByteArray × Nat × Option FieldType := (⟨"DoorVoiceModel", "house", "(IZZI)I"⟩, prog_7_method_6_code, 6, (some .int))
abbrev m_M_wall : MethodName × ByteArray × Nat × Option FieldType := (⟨"DoorVoiceModel", "wall", "(II)I"⟩, prog_7_method_7_code, 4, (some .int))
abbrev m_M_set : MethodName × ByteArray × Nat × Option FieldType := (⟨"DoorVoiceModel", "set", "(II)I"⟩, prog_7_method_8_code, 4, (some .int))
abbrev m_M_letter : MethodName × ByteArray × Nat × Option FieldType := (⟨"DoorVoiceModel", "letter", "(IIIII)I"⟩, prog_7_method_9_code, 7, (some .int))
abbrev m_M_say : MethodName × ByteArray × Nat × Option FieldType := (⟨"DoorVoiceModel", "say", "(I)I"⟩, prog_7_method_10_code, 2, (some .int))
abbrev m_M_wipe : MethodName × ByteArray × Nat × Option FieldType := (⟨"DoorVoiceModel", "wipe", "()I"⟩, prog_7_method_11_code, 2, (some .int))
abbrev m_M_isLetter : MethodName × ByteArray × Nat × Option FieldType := (⟨"DoorVoiceModel", "isLetter", "(I)Z"⟩, prog_7_method_12_code, 1, (some .boolean))
abbrev m_M_faultOf : MethodName × ByteArray × Nat × Option FieldType := (⟨"DoorVoiceModel", "faultOf", "()I"⟩, prog_7_method_13_code, 4, (some .int))
abbrev m_M_fault : MethodName × ByteArray × Nat × Option FieldType := (⟨"DoorVoiceModel", "fault", "()I"⟩, prog_7_method_14_code, 1, (some .int))
abbrev m_M_loudAt : MethodName × ByteArray × Nat × Option FieldType := (⟨"DoorVoiceModel", "loudAt", "(II)I"⟩, prog_7_method_15_code, 6, (some .int))
abbrev m_M_doesHear : MethodName × ByteArray × Nat × Option FieldType := (⟨"DoorVoiceModel", "doesHear", "(III)Z"⟩, prog_7_method_16_code, 5, (some .boolean))
abbrev m_M_hearers : MethodName × ByteArray × Nat × Option FieldType := (⟨"DoorVoiceModel", "hearers", "(II)I"⟩, prog_7_method_17_code, 5, (some .int))
abbrev m_M_asNow : MethodName × ByteArray × Nat × Option FieldType := (⟨"DoorVoiceModel", "asNow", "()V"⟩, prog_7_method_18_code, 2, none)
abbrev m_M_goTo : MethodName × ByteArray × Nat × Option FieldType := (⟨"DoorVoiceModel", "goTo", "(I)I"⟩, prog_7_method_19_code, 2, (some .int))
abbrev m_M_read : MethodName × ByteArray × Nat × Option FieldType := (⟨"DoorVoiceModel", "read", "(I)I"⟩, prog_7_method_20_code, 3, (some .int))
abbrev m_M_evening : MethodName × ByteArray × Nat × Option FieldType := (⟨"DoorVoiceModel", "evening", "()I"⟩, prog_7_method_21_code, 2, (some .int))
abbrev m_M_goDays : MethodName × ByteArray × Nat × Option FieldType := (⟨"DoorVoiceModel", "goDays", "()I"⟩, prog_7_method_22_code, 3, (some .int))
abbrev m_M_judge : MethodName × ByteArray × Nat × Option FieldType := (⟨"DoorVoiceModel", "judge", "(I)I"⟩, prog_7_method_23_code, 3, (some .int))
abbrev m_M_barOfDays : MethodName × ByteArray × Nat × Option FieldType := (⟨"DoorVoiceModel", "barOfDays", "()I"⟩, prog_7_method_24_code, 1, (some .int))
abbrev m_M_done : MethodName × ByteArray × Nat × Option FieldType := (⟨"DoorVoiceModel", "done", "()I"⟩, prog_7_method_25_code, 2, (some .int))
abbrev m_M_knows : MethodName × ByteArray × Nat × Option FieldType := (⟨"DoorVoiceModel", "knows", "(I)I"⟩, prog_7_method_26_code, 2, (some .int))
abbrev m_M_behind : MethodName × ByteArray × Nat × Option FieldType := (⟨"DoorVoiceModel", "behind", "(I)I"⟩, prog_7_method_27_code, 2, (some .int))
abbrev m_M_who : MethodName × ByteArray × Nat × Option FieldType := (⟨"DoorVoiceModel", "who", "(I)I"⟩, prog_7_method_28_code, 4, (some .int))
abbrev m_M_loud : MethodName × ByteArray × Nat × Option FieldType := (⟨"DoorVoiceModel", "loud", "(II)I"⟩, prog_7_method_29_code, 3, (some .int))
abbrev m_M_hears : MethodName × ByteArray × Nat × Option FieldType := (⟨"DoorVoiceModel", "hears", "(I)I"⟩, prog_7_method_30_code, 2, (some .int))
abbrev m_M_best : MethodName × ByteArray × Nat × Option FieldType := (⟨"DoorVoiceModel", "best", "(II)I"⟩, prog_7_method_31_code, 9, (some .int))
abbrev m_M_laySets : MethodName × ByteArray × Nat × Option FieldType := (⟨"DoorVoiceModel", "laySets", "()V"⟩, prog_7_method_32_code, 2, none)
abbrev m_M_thirds : MethodName × ByteArray × Nat × Option FieldType := (⟨"DoorVoiceModel", "thirds", "(II)I"⟩, prog_7_method_33_code, 8, (some .int))
abbrev m_M_round : MethodName × ByteArray × Nat × Option FieldType := (⟨"DoorVoiceModel", "round", "(II)I"⟩, prog_7_method_34_code, 12, (some .int))
abbrev m_M_seen : MethodName × ByteArray × Nat × Option FieldType := (⟨"DoorVoiceModel", "seen", "(IZ)I"⟩, prog_7_method_35_code, 3, (some .int))
abbrev m_M_forget : MethodName × ByteArray × Nat × Option FieldType := (⟨"DoorVoiceModel", "forget", "()I"⟩, prog_7_method_36_code, 2, (some .int))
abbrev m_M_atSet : MethodName × ByteArray × Nat × Option FieldType := (⟨"DoorVoiceModel", "atSet", "()I"⟩, prog_7_method_37_code, 5, (some .int))
abbrev m_M_at : MethodName × ByteArray × Nat × Option FieldType := (⟨"DoorVoiceModel", "at", "()I"⟩, prog_7_method_38_code, 1, (some .int))
abbrev m_M_ask : MethodName × ByteArray × Nat × Option FieldType := (⟨"DoorVoiceModel", "ask", "(I)I"⟩, prog_7_method_39_code, 8, (some .int))
abbrev m_M_spread : MethodName × ByteArray × Nat × Option FieldType := (⟨"DoorVoiceModel", "spread", "(I)I"⟩, prog_7_method_40_code, 4, (some .int))
abbrev m_M_rumour : MethodName × ByteArray × Nat × Option FieldType := (⟨"DoorVoiceModel", "rumour", "(II)I"⟩, prog_7_method_41_code, 5, (some .int))
abbrev m_M_chance : MethodName × ByteArray × Nat × Option FieldType := (⟨"DoorVoiceModel", "chance", "(IIII)J"⟩, prog_7_method_42_code, 17, (some .long))
abbrev m_M_year : MethodName × ByteArray × Nat × Option FieldType := (⟨"DoorVoiceModel", "year", "(III)I"⟩, prog_7_method_43_code, 7, (some .int))
abbrev m_M_image : MethodName × ByteArray × Nat × Option FieldType := (⟨"DoorVoiceModel", "image", "(I)I"⟩, prog_7_method_44_code, 4, (some .int))
abbrev m_M_restore : MethodName × ByteArray × Nat × Option FieldType := (⟨"DoorVoiceModel", "restore", "(I)I"⟩, prog_7_method_45_code, 4, (some .int))
abbrev m_M_told : MethodName × ByteArray × Nat × Option FieldType := (⟨"DoorVoiceModel", "told", "(I)I"⟩, prog_7_method_46_code, 2, (some .int))
abbrev m_C_init : MethodName × ByteArray × Nat × Option FieldType := (⟨"DoorVoice$Chances", "<init>", "()V"⟩, prog_2_method_1_code, 1, none)
abbrev m_C_weigh : MethodName × ByteArray × Nat × Option FieldType := (⟨"DoorVoice$Chances", "weigh", "(LDoorVoice$Street;I)V"⟩, prog_2_method_2_code, 6, none)
abbrev m_C_findMean : MethodName × ByteArray × Nat × Option FieldType := (⟨"DoorVoice$Chances", "findMean", "(I)V"⟩, prog_2_method_3_code, 2, none)
abbrev m_C_findAtMost : MethodName × ByteArray × Nat × Option FieldType := (⟨"DoorVoice$Chances", "findAtMost", "(II)V"⟩, prog_2_method_4_code, 8, none)
abbrev m_C_countWays : MethodName × ByteArray × Nat × Option FieldType := (⟨"DoorVoice$Chances", "countWays", "(I)V"⟩, prog_2_method_5_code, 4, none)
abbrev m_C_putLowest : MethodName × ByteArray × Nat × Option FieldType := (⟨"DoorVoice$Chances", "putLowest", "(JJ)V"⟩, prog_2_method_6_code, 7, none)
abbrev m_C_greatestDivisor : MethodName × ByteArray × Nat × Option FieldType := (⟨"DoorVoice$Chances", "greatestDivisor", "(JJ)J"⟩, prog_2_method_7_code, 11, (some .long))
abbrev m_L_init : MethodName × ByteArray × Nat × Option FieldType := (⟨"DoorVoice$Listener", "<init>", "()V"⟩, prog_3_method_1_code, 1, none)
abbrev m_L_listen : MethodName × ByteArray × Nat × Option FieldType := (⟨"DoorVoice$Listener", "listen", "(LDoorVoice$Street;)V"⟩, prog_3_method_2_code, 3, none)
abbrev m_L_placesFor : MethodName × ByteArray × Nat × Option FieldType := (⟨"DoorVoice$Listener", "placesFor", "(I)I"⟩, prog_3_method_3_code, 4, (some .int))
abbrev m_L_bestFor : MethodName × ByteArray × Nat × Option FieldType := (⟨"DoorVoice$Listener", "bestFor", "(IZ)I"⟩, prog_3_method_4_code, 7, (some .int))
abbrev m_L_thirdsFor : MethodName × ByteArray × Nat × Option FieldType := (⟨"DoorVoice$Listener", "thirdsFor", "(IZ)I"⟩, prog_3_method_5_code, 8, (some .int))
abbrev m_L_leastWalk : MethodName × ByteArray × Nat × Option FieldType := (⟨"DoorVoice$Listener", "leastWalk", "(LDoorVoice$Street;IZ)I"⟩, prog_3_method_6_code, 11, (some .int))
abbrev m_L_allCanBeRead : MethodName × ByteArray × Nat × Option FieldType := (⟨"DoorVoice$Listener", "allCanBeRead", "(LDoorVoice$Street;III)Z"⟩, prog_3_method_7_code, 7, (some .boolean))
abbrev m_L_placesThatFit : MethodName × ByteArray × Nat × Option FieldType := (⟨"DoorVoice$Listener", "placesThatFit", "(LDoorVoice$Street;)I"⟩, prog_3_method_8_code, 6, (some .int))
abbrev m_L_bestToAsk : MethodName × ByteArray × Nat × Option FieldType := (⟨"DoorVoice$Listener", "bestToAsk", "(IZ)I"⟩, prog_3_method_9_code, 9, (some .int))
abbrev m_P_init : MethodName × ByteArray × Nat × Option FieldType := (⟨"DoorVoice$Pad", "<init>", "()V"⟩, prog_4_method_1_code, 1, none)
abbrev m_P_write : MethodName × ByteArray × Nat × Option FieldType := (⟨"DoorVoice$Pad", "write", "(I)Z"⟩, prog_4_method_2_code, 2, (some .boolean))
abbrev m_P_clean : MethodName × ByteArray × Nat × Option FieldType := (⟨"DoorVoice$Pad", "clean", "()I"⟩, prog_4_method_3_code, 2, (some .int))
abbrev m_P_faultPlace : MethodName × ByteArray × Nat × Option FieldType := (⟨"DoorVoice$Pad", "faultPlace", "()I"⟩, prog_4_method_4_code, 4, (some .int))
abbrev m_P_kindOf : MethodName × ByteArray × Nat × Option FieldType := (⟨"DoorVoice$Pad", "kindOf", "(I)I"⟩, prog_4_method_5_code, 1, (some .int))
abbrev m_P_numberOf : MethodName × ByteArray × Nat × Option FieldType := (⟨"DoorVoice$Pad", "numberOf", "(I)I"⟩, prog_4_method_6_code, 2, (some .int))
abbrev m_P_playsToTheEnd : MethodName × ByteArray × Nat × Option FieldType := (⟨"DoorVoice$Pad", "playsToTheEnd", "(LDoorVoice$Street;LDoorVoice$Street;)Z"⟩, prog_4_method_7_code, 5, (some .boolean))
abbrev m_P_playAct : MethodName × ByteArray × Nat × Option FieldType := (⟨"DoorVoice$Pad", "playAct", "(LDoorVoice$Street;II)V"⟩, prog_4_method_8_code, 5, none)
abbrev m_P_goesAstray : MethodName × ByteArray × Nat × Option FieldType := (⟨"DoorVoice$Pad", "goesAstray", "(LDoorVoice$Street;I)Z"⟩, prog_4_method_9_code, 2, (some .boolean))
abbrev m_S_init : MethodName × ByteArray × Nat × Option FieldType := (⟨"DoorVoice$Street", "<init>", "()V"⟩, prog_5_method_1_code, 1, none)
abbrev m_S_takeFrom : MethodName × ByteArray × Nat × Option FieldType := (⟨"DoorVoice$Street", "takeFrom", "(LDoorVoice$Street;)V"⟩, prog_5_method_2_code, 2, none)
abbrev m_S_loudness : MethodName × ByteArray × Nat × Option FieldType := (⟨"DoorVoice$Street", "loudness", "(II)I"⟩, prog_5_method_3_code, 6, (some .int))
abbrev m_S_reached : MethodName × ByteArray × Nat × Option FieldType := (⟨"DoorVoice$Street", "reached", "(II)I"⟩, prog_5_method_4_code, 7, (some .int))
abbrev m_S_hearers : MethodName × ByteArray × Nat × Option FieldType := (⟨"DoorVoice$Street", "hearers", "(II)I"⟩, prog_5_method_5_code, 5, (some .int))
abbrev m_S_whyNot : MethodName × ByteArray × Nat × Option FieldType := (⟨"DoorVoice$Street", "whyNot", "(II)I"⟩, prog_5_method_6_code, 3, (some .int))
abbrev m_S_carryOut : MethodName × ByteArray × Nat × Option FieldType := (⟨"DoorVoice$Street", "carryOut", "(II)V"⟩, prog_5_method_7_code, 3, none)
abbrev m_S_readOut : MethodName × ByteArray × Nat × Option FieldType := (⟨"DoorVoice$Street", "readOut", "(I)V"⟩, prog_5_method_8_code, 4, none)
abbrev m_S_passEvening : MethodName × ByteArray × Nat × Option FieldType := (⟨"DoorVoice$Street", "passEvening", "()V"⟩, prog_5_method_9_code, 4, none)
abbrev m_S_tellsEastward : MethodName × ByteArray × Nat × Option FieldType := (⟨"DoorVoice$Street", "tellsEastward", "(I)Z"⟩, prog_5_method_10_code, 2, (some .boolean))
abbrev m_S_knowersOfRumour : MethodName × ByteArray × Nat × Option FieldType := (⟨"DoorVoice$Street", "knowersOfRumour", "(II)I"⟩, prog_5_method_11_code, 5, (some .int))
abbrev m_S_eveningsOfRumour : MethodName × ByteArray × Nat × Option FieldType := (⟨"DoorVoice$Street", "eveningsOfRumour", "(I)I"⟩, prog_5_method_12_code, 5, (some .int))
abbrev m_S_toldOnward : MethodName × ByteArray × Nat × Option FieldType := (⟨"DoorVoice$Street", "toldOnward", "(I)I"⟩, prog_5_method_13_code, 4, (some .int))
abbrev m_S_drawYear : MethodName × ByteArray × Nat × Option FieldType := (⟨"DoorVoice$Street", "drawYear", "(II)V"⟩, prog_5_method_14_code, 7, none)
abbrev m_S_drawnKind : MethodName × ByteArray × Nat × Option FieldType := (⟨"DoorVoice$Street", "drawnKind", "(I)I"⟩, prog_5_method_15_code, 1, (some .int))
abbrev m_S_factsKnown : MethodName × ByteArray × Nat × Option FieldType := (⟨"DoorVoice$Street", "factsKnown", "()I"⟩, prog_5_method_16_code, 3, (some .int))
abbrev m_B_bitCount : MethodName × ByteArray × Nat × Option FieldType := (⟨"java/lang/Integer", "bitCount", "(I)I"⟩, prog_8_method_49_code, 1, (some .int))
abbrev m_W_law : MethodName × ByteArray × Nat × Option FieldType := (⟨"DoorVoiceLaw", "law", "([I)Z"⟩, code, 4, some .boolean)
set_option maxRecDepth 20000 in
theorem wc_V_init : Cond.code m_V_init.1 m_V_init.2.1 m_V_init.2.2.1 m_V_init.2.2.2 ∈ ax_T := ax_in 43 rfl rfl
set_option maxRecDepth 20000 in
theorem wc_V_house : Cond.code m_V_house.1 m_V_house.2.1 m_V_house.2.2.1 m_V_house.2.2.2 ∈ ax_T := ax_in 223 rfl rfl
set_option maxRecDepth 20000 in
theorem wc_V_wall : Cond.code m_V_wall.1 m_V_wall.2.1 m_V_wall.2.2.1 m_V_wall.2.2.2 ∈ ax_T := ax_in 233 rfl rfl
set_option maxRecDepth 20000 in
theorem wc_V_set : Cond.code m_V_set.1 m_V_set.2.1 m_V_set.2.2.1 m_V_set.2.2.2 ∈ ax_T := ax_in 237 rfl rfl
set_option maxRecDepth 20000 in
theorem wc_V_setVoice : Cond.code m_V_setVoice.1 m_V_setVoice.2.1 m_V_setVoice.2.2.1 m_V_setVoice.2.2.2 ∈ ax_T := ax_in 241 rfl rfl
set_option maxRecDepth 20000 in
theorem wc_V_setWind : Cond.code m_V_setWind.1 m_V_setWind.2.1 m_V_setWind.2.2.1 m_V_setWind.2.2.2 ∈ ax_T := ax_in 245 rfl rfl
set_option maxRecDepth 20000 in
theorem wc_V_setPlace : Cond.code m_V_setPlace.1 m_V_setPlace.2.1 m_V_setPlace.2.2.1 m_V_setPlace.2.2.2 ∈ ax_T := ax_in 249 rfl rfl
set_option maxRecDepth 20000 in
theorem wc_V_letter : Cond.code m_V_letter.1 m_V_letter.2.1 m_V_letter.2.2.1 m_V_letter.2.2.2 ∈ ax_T := ax_in 253 rfl rfl
set_option maxRecDepth 20000 in
theorem wc_V_say : Cond.code m_V_say.1 m_V_say.2.1 m_V_say.2.2.1 m_V_say.2.2.2 ∈ ax_T := ax_in 257 rfl rfl
set_option maxRecDepth 20000 in
theorem wc_V_wipe : Cond.code m_V_wipe.1 m_V_wipe.2.1 m_V_wipe.2.2.1 m_V_wipe.2.2.2 ∈ ax_T := ax_in 265 rfl rfl
set_option maxRecDepth 20000 in
theorem wc_V_fault : Cond.code m_V_fault.1 m_V_fault.2.1 m_V_fault.2.2.1 m_V_fault.2.2.2 ∈ ax_T := ax_in 273 rfl rfl
set_option maxRecDepth 20000 in
theorem wc_V_judge : Cond.code m_V_judge.1 m_V_judge.2.1 m_V_judge.2.2.1 m_V_judge.2.2.2 ∈ ax_T := ax_in 284 rfl rfl
set_option maxRecDepth 20000 in
theorem wc_V_done : Cond.code m_V_done.1 m_V_done.2.1 m_V_done.2.2.1 m_V_done.2.2.2 ∈ ax_T := ax_in 343 rfl rfl
set_option maxRecDepth 20000 in
theorem wc_V_knows : Cond.code m_V_knows.1 m_V_knows.2.1 m_V_knows.2.2.1 m_V_knows.2.2.2 ∈ ax_T := ax_in 348 rfl rfl
set_option maxRecDepth 20000 in
theorem wc_V_behind : Cond.code m_V_behind.1 m_V_behind.2.1 m_V_behind.2.2.1 m_V_behind.2.2.2 ∈ ax_T := ax_in 352 rfl rfl
set_option maxRecDepth 20000 in
theorem wc_V_who : Cond.code m_V_who.1 m_V_who.2.1 m_V_who.2.2.1 m_V_who.2.2.2 ∈ ax_T := ax_in 356 rfl rfl
set_option maxRecDepth 20000 in
theorem wc_V_loud : Cond.code m_V_loud.1 m_V_loud.2.1 m_V_loud.2.2.1 m_V_loud.2.2.2 ∈ ax_T := ax_in 361 rfl rfl
set_option maxRecDepth 20000 in
theorem wc_V_hears : Cond.code m_V_hears.1 m_V_hears.2.1 m_V_hears.2.2.1 m_V_hears.2.2.2 ∈ ax_T := ax_in 372 rfl rfl
set_option maxRecDepth 20000 in
theorem wc_V_best : Cond.code m_V_best.1 m_V_best.2.1 m_V_best.2.2.1 m_V_best.2.2.2 ∈ ax_T := ax_in 377 rfl rfl
set_option maxRecDepth 20000 in
theorem wc_V_thirds : Cond.code m_V_thirds.1 m_V_thirds.2.1 m_V_thirds.2.2.1 m_V_thirds.2.2.2 ∈ ax_T := ax_in 401 rfl rfl
set_option maxRecDepth 20000 in
theorem wc_V_round : Cond.code m_V_round.1 m_V_round.2.1 m_V_round.2.2.1 m_V_round.2.2.2 ∈ ax_T := ax_in 409 rfl rfl
set_option maxRecDepth 20000 in
theorem wc_V_seen : Cond.code m_V_seen.1 m_V_seen.2.1 m_V_seen.2.2.1 m_V_seen.2.2.2 ∈ ax_T := ax_in 424 rfl rfl
set_option maxRecDepth 20000 in
theorem wc_V_forget : Cond.code m_V_forget.1 m_V_forget.2.1 m_V_forget.2.2.1 m_V_forget.2.2.2 ∈ ax_T := ax_in 428 rfl rfl
set_option maxRecDepth 20000 in
theorem wc_V_at : Cond.code m_V_at.1 m_V_at.2.1 m_V_at.2.2.1 m_V_at.2.2.2 ∈ ax_T := ax_in 432 rfl rfl
set_option maxRecDepth 20000 in
theorem wc_V_ask : Cond.code m_V_ask.1 m_V_ask.2.1 m_V_ask.2.2.1 m_V_ask.2.2.2 ∈ ax_T := ax_in 440 rfl rfl
set_option maxRecDepth 20000 in
theorem wc_V_rumour : Cond.code m_V_rumour.1 m_V_rumour.2.1 m_V_rumour.2.2.1 m_V_rumour.2.2.2 ∈ ax_T := ax_in 449 rfl rfl
set_option maxRecDepth 20000 in
theorem wc_V_chance : Cond.code m_V_chance.1 m_V_chance.2.1 m_V_chance.2.2.1 m_V_chance.2.2.2 ∈ ax_T := ax_in 466 rfl rfl
set_option maxRecDepth 20000 in
theorem wc_V_year : Cond.code m_V_year.1 m_V_year.2.1 m_V_year.2.2.1 m_V_year.2.2.2 ∈ ax_T := ax_in 498 rfl rfl
set_option maxRecDepth 20000 in
theorem wc_V_image : Cond.code m_V_image.1 m_V_image.2.1 m_V_image.2.2.1 m_V_image.2.2.2 ∈ ax_T := ax_in 517 rfl rfl
set_option maxRecDepth 20000 in
theorem wc_V_restore : Cond.code m_V_restore.1 m_V_restore.2.1 m_V_restore.2.2.1 m_V_restore.2.2.2 ∈ ax_T := ax_in 525 rfl rfl
set_option maxRecDepth 20000 in
theorem wc_V_imageNumbered : Cond.code m_V_imageNumbered.1 m_V_imageNumbered.2.1 m_V_imageNumbered.2.2.1 m_V_imageNumbered.2.2.2 ∈ ax_T := ax_in 521 rfl rfl
set_option maxRecDepth 20000 in
theorem wc_V_told : Cond.code m_V_told.1 m_V_told.2.1 m_V_told.2.2.1 m_V_told.2.2.2 ∈ ax_T := ax_in 529 rfl rfl
set_option maxRecDepth 20000 in
theorem wc_V_toldOfAll : Cond.code m_V_toldOfAll.1 m_V_toldOfAll.2.1 m_V_toldOfAll.2.2.1 m_V_toldOfAll.2.2.2 ∈ ax_T := ax_in 533 rfl rfl
set_option maxRecDepth 20000 in
theorem wc_V_toldOfLetter : Cond.code m_V_toldOfLetter.1 m_V_toldOfLetter.2.1 m_V_toldOfLetter.2.2.1 m_V_toldOfLetter.2.2.2 ∈ ax_T := ax_in 537 rfl rfl
set_option maxRecDepth 20000 in
theorem wc_V_within : Cond.code m_V_within.1 m_V_within.2.1 m_V_within.2.2.1 m_V_within.2.2.2 ∈ ax_T := ax_in 226 rfl rfl
set_option maxRecDepth 20000 in
theorem wc_V_hasBit : Cond.code m_V_hasBit.1 m_V_hasBit.2.1 m_V_hasBit.2.2.1 m_V_hasBit.2.2.2 ∈ ax_T := ax_in 310 rfl rfl
set_option maxRecDepth 20000 in
theorem wc_V_withBit : Cond.code m_V_withBit.1 m_V_withBit.2.1 m_V_withBit.2.2.1 m_V_withBit.2.2.2 ∈ ax_T := ax_in 229 rfl rfl
set_option maxRecDepth 20000 in
theorem wc_M_init : Cond.code m_M_init.1 m_M_init.2.1 m_M_init.2.2.1 m_M_init.2.2.2 ∈ ax_T := ax_in 542 rfl rfl
set_option maxRecDepth 20000 in
theorem wc_M_in : Cond.code m_M_in.1 m_M_in.2.1 m_M_in.2.2.1 m_M_in.2.2.2 ∈ ax_T := ax_in 615 rfl rfl
set_option maxRecDepth 20000 in
theorem wc_M_has : Cond.code m_M_has.1 m_M_has.2.1 m_M_has.2.2.1 m_M_has.2.2.2 ∈ ax_T := ax_in 665 rfl rfl
set_option maxRecDepth 20000 in
theorem wc_M_bits : Cond.code m_M_bits.1 m_M_bits.2.1 m_M_bits.2.2.1 m_M_bits.2.2.2 ∈ ax_T := ax_in 721 rfl rfl
set_option maxRecDepth 20000 in
theorem wc_M_isHouse : Cond.code m_M_isHouse.1 m_M_isHouse.2.1 m_M_isHouse.2.2.1 m_M_isHouse.2.2.2 ∈ ax_T := ax_in 612 rfl rfl
set_option maxRecDepth 20000 in
theorem wc_M_house : Cond.code m_M_house.1 m_M_house.2.1 m_M_house.2.2.1 m_M_house.2.2.2 ∈ ax_T := ax_in 609 rfl rfl
set_option maxRecDepth 20000 in
theorem wc_M_wall : Cond.code m_M_wall.1 m_M_wall.2.1 m_M_wall.2.2.1 m_M_wall.2.2.2 ∈ ax_T := ax_in 619 rfl rfl
set_option maxRecDepth 20000 in
theorem wc_M_set : Cond.code m_M_set.1 m_M_set.2.1 m_M_set.2.2.1 m_M_set.2.2.2 ∈ ax_T := ax_in 623 rfl rfl
set_option maxRecDepth 20000 in
theorem wc_M_letter : Cond.code m_M_letter.1 m_M_letter.2.1 m_M_letter.2.2.1 m_M_letter.2.2.2 ∈ ax_T := ax_in 627 rfl rfl
set_option maxRecDepth 20000 in
theorem wc_M_say : Cond.code m_M_say.1 m_M_say.2.1 m_M_say.2.2.1 m_M_say.2.2.2 ∈ ax_T := ax_in 631 rfl rfl
set_option maxRecDepth 20000 in
theorem wc_M_wipe : Cond.code m_M_wipe.1 m_M_wipe.2.1 m_M_wipe.2.2.1 m_M_wipe.2.2.2 ∈ ax_T := ax_in 635 rfl rfl
set_option maxRecDepth 20000 in
theorem wc_M_isLetter : Cond.code m_M_isLetter.1 m_M_isLetter.2.1 m_M_isLetter.2.2.1 m_M_isLetter.2.2.2 ∈ ax_T := ax_in 646 rfl rfl
set_option maxRecDepth 20000 in
theorem wc_M_faultOf : Cond.code m_M_faultOf.1 m_M_faultOf.2.1 m_M_faultOf.2.2.1 m_M_faultOf.2.2.2 ∈ ax_T := ax_in 643 rfl rfl
set_option maxRecDepth 20000 in
theorem wc_M_fault : Cond.code m_M_fault.1 m_M_fault.2.1 m_M_fault.2.2.1 m_M_fault.2.2.2 ∈ ax_T := ax_in 639 rfl rfl
set_option maxRecDepth 20000 in
theorem wc_M_loudAt : Cond.code m_M_loudAt.1 m_M_loudAt.2.1 m_M_loudAt.2.2.1 m_M_loudAt.2.2.2 ∈ ax_T := ax_in 681 rfl rfl
set_option maxRecDepth 20000 in
theorem wc_M_doesHear : Cond.code m_M_doesHear.1 m_M_doesHear.2.1 m_M_doesHear.2.2.1 m_M_doesHear.2.2.2 ∈ ax_T := ax_in 677 rfl rfl
set_option maxRecDepth 20000 in
theorem wc_M_hearers : Cond.code m_M_hearers.1 m_M_hearers.2.1 m_M_hearers.2.2.1 m_M_hearers.2.2.2 ∈ ax_T := ax_in 713 rfl rfl
set_option maxRecDepth 20000 in
theorem wc_M_asNow : Cond.code m_M_asNow.1 m_M_asNow.2.1 m_M_asNow.2.2.1 m_M_asNow.2.2.2 ∈ ax_T := ax_in 658 rfl rfl
set_option maxRecDepth 20000 in
theorem wc_M_goTo : Cond.code m_M_goTo.1 m_M_goTo.2.1 m_M_goTo.2.2.1 m_M_goTo.2.2.2 ∈ ax_T := ax_in 669 rfl rfl
set_option maxRecDepth 20000 in
theorem wc_M_read : Cond.code m_M_read.1 m_M_read.2.1 m_M_read.2.2.1 m_M_read.2.2.2 ∈ ax_T := ax_in 673 rfl rfl
set_option maxRecDepth 20000 in
theorem wc_M_evening : Cond.code m_M_evening.1 m_M_evening.2.1 m_M_evening.2.2.1 m_M_evening.2.2.2 ∈ ax_T := ax_in 662 rfl rfl
set_option maxRecDepth 20000 in
theorem wc_M_goDays : Cond.code m_M_goDays.1 m_M_goDays.2.1 m_M_goDays.2.2.1 m_M_goDays.2.2.2 ∈ ax_T := ax_in 654 rfl rfl
set_option maxRecDepth 20000 in
theorem wc_M_judge : Cond.code m_M_judge.1 m_M_judge.2.1 m_M_judge.2.2.1 m_M_judge.2.2.2 ∈ ax_T := ax_in 650 rfl rfl
set_option maxRecDepth 20000 in
theorem wc_M_barOfDays : Cond.code m_M_barOfDays.1 m_M_barOfDays.2.1 m_M_barOfDays.2.2.1 m_M_barOfDays.2.2.2 ∈ ax_T := ax_in 689 rfl rfl
set_option maxRecDepth 20000 in
theorem wc_M_done : Cond.code m_M_done.1 m_M_done.2.1 m_M_done.2.2.1 m_M_done.2.2.2 ∈ ax_T := ax_in 685 rfl rfl
set_option maxRecDepth 20000 in
theorem wc_M_knows : Cond.code m_M_knows.1 m_M_knows.2.1 m_M_knows.2.2.1 m_M_knows.2.2.2 ∈ ax_T := ax_in 693 rfl rfl
set_option maxRecDepth 20000 in
theorem wc_M_behind : Cond.code m_M_behind.1 m_M_behind.2.1 m_M_behind.2.2.1 m_M_behind.2.2.2 ∈ ax_T := ax_in 697 rfl rfl
set_option maxRecDepth 20000 in
theorem wc_M_who : Cond.code m_M_who.1 m_M_who.2.1 m_M_who.2.2.1 m_M_who.2.2.2 ∈ ax_T := ax_in 701 rfl rfl
set_option maxRecDepth 20000 in
theorem wc_M_loud : Cond.code m_M_loud.1 m_M_loud.2.1 m_M_loud.2.2.1 m_M_loud.2.2.2 ∈ ax_T := ax_in 705 rfl rfl
set_option maxRecDepth 20000 in
theorem wc_M_hears : Cond.code m_M_hears.1 m_M_hears.2.1 m_M_hears.2.2.1 m_M_hears.2.2.2 ∈ ax_T := ax_in 709 rfl rfl
set_option maxRecDepth 20000 in
theorem wc_M_best : Cond.code m_M_best.1 m_M_best.2.1 m_M_best.2.2.1 m_M_best.2.2.2 ∈ ax_T := ax_in 717 rfl rfl
set_option maxRecDepth 20000 in
theorem wc_M_laySets : Cond.code m_M_laySets.1 m_M_laySets.2.1 m_M_laySets.2.2.1 m_M_laySets.2.2.2 ∈ ax_T := ax_in 729 rfl rfl
set_option maxRecDepth 20000 in
theorem wc_M_thirds : Cond.code m_M_thirds.1 m_M_thirds.2.1 m_M_thirds.2.2.1 m_M_thirds.2.2.2 ∈ ax_T := ax_in 725 rfl rfl
set_option maxRecDepth 20000 in
theorem wc_M_round : Cond.code m_M_round.1 m_M_round.2.1 m_M_round.2.2.1 m_M_round.2.2.2 ∈ ax_T := ax_in 733 rfl rfl
set_option maxRecDepth 20000 in
theorem wc_M_seen : Cond.code m_M_seen.1 m_M_seen.2.1 m_M_seen.2.2.1 m_M_seen.2.2.2 ∈ ax_T := ax_in 737 rfl rfl
set_option maxRecDepth 20000 in
theorem wc_M_forget : Cond.code m_M_forget.1 m_M_forget.2.1 m_M_forget.2.2.1 m_M_forget.2.2.2 ∈ ax_T := ax_in 741 rfl rfl
set_option maxRecDepth 20000 in
theorem wc_M_atSet : Cond.code m_M_atSet.1 m_M_atSet.2.1 m_M_atSet.2.2.1 m_M_atSet.2.2.2 ∈ ax_T := ax_in 749 rfl rfl
set_option maxRecDepth 20000 in
theorem wc_M_at : Cond.code m_M_at.1 m_M_at.2.1 m_M_at.2.2.1 m_M_at.2.2.2 ∈ ax_T := ax_in 745 rfl rfl
set_option maxRecDepth 20000 in
theorem wc_M_ask : Cond.code m_M_ask.1 m_M_ask.2.1 m_M_ask.2.2.1 m_M_ask.2.2.2 ∈ ax_T := ax_in 753 rfl rfl
set_option maxRecDepth 20000 in
theorem wc_M_spread : Cond.code m_M_spread.1 m_M_spread.2.1 m_M_spread.2.2.1 m_M_spread.2.2.2 ∈ ax_T := ax_in 761 rfl rfl
set_option maxRecDepth 20000 in
theorem wc_M_rumour : Cond.code m_M_rumour.1 m_M_rumour.2.1 m_M_rumour.2.2.1 m_M_rumour.2.2.2 ∈ ax_T := ax_in 757 rfl rfl
set_option maxRecDepth 20000 in
theorem wc_M_chance : Cond.code m_M_chance.1 m_M_chance.2.1 m_M_chance.2.2.1 m_M_chance.2.2.2 ∈ ax_T := ax_in 765 rfl rfl
set_option maxRecDepth 20000 in
theorem wc_M_year : Cond.code m_M_year.1 m_M_year.2.1 m_M_year.2.2.1 m_M_year.2.2.2 ∈ ax_T := ax_in 772 rfl rfl
set_option maxRecDepth 20000 in
theorem wc_M_image : Cond.code m_M_image.1 m_M_image.2.1 m_M_image.2.2.1 m_M_image.2.2.2 ∈ ax_T := ax_in 777 rfl rfl
set_option maxRecDepth 20000 in
theorem wc_M_restore : Cond.code m_M_restore.1 m_M_restore.2.1 m_M_restore.2.2.1 m_M_restore.2.2.2 ∈ ax_T := ax_in 781 rfl rfl
set_option maxRecDepth 20000 in
theorem wc_M_told : Cond.code m_M_told.1 m_M_told.2.1 m_M_told.2.2.1 m_M_told.2.2.2 ∈ ax_T := ax_in 785 rfl rfl
set_option maxRecDepth 20000 in
theorem wc_C_init : Cond.code m_C_init.1 m_C_init.2.1 m_C_init.2.2.1 m_C_init.2.2.2 ∈ ax_T := ax_in 174 rfl rfl
set_option maxRecDepth 20000 in
theorem wc_C_weigh : Cond.code m_C_weigh.1 m_C_weigh.2.1 m_C_weigh.2.2.1 m_C_weigh.2.2.2 ∈ ax_T := ax_in 472 rfl rfl
set_option maxRecDepth 20000 in
theorem wc_C_findMean : Cond.code m_C_findMean.1 m_C_findMean.2.1 m_C_findMean.2.2.1 m_C_findMean.2.2.2 ∈ ax_T := ax_in 478 rfl rfl
set_option maxRecDepth 20000 in
theorem wc_C_findAtMost : Cond.code m_C_findAtMost.1 m_C_findAtMost.2.1 m_C_findAtMost.2.2.1 m_C_findAtMost.2.2.2 ∈ ax_T := ax_in 490 rfl rfl
set_option maxRecDepth 20000 in
theorem wc_C_countWays : Cond.code m_C_countWays.1 m_C_countWays.2.1 m_C_countWays.2.2.1 m_C_countWays.2.2.2 ∈ ax_T := ax_in 494 rfl rfl
set_option maxRecDepth 20000 in
theorem wc_C_putLowest : Cond.code m_C_putLowest.1 m_C_putLowest.2.1 m_C_putLowest.2.2.1 m_C_putLowest.2.2.2 ∈ ax_T := ax_in 483 rfl rfl
set_option maxRecDepth 20000 in
theorem wc_C_greatestDivisor : Cond.code m_C_greatestDivisor.1 m_C_greatestDivisor.2.1 m_C_greatestDivisor.2.2.1 m_C_greatestDivisor.2.2.2 ∈ ax_T := ax_in 486 rfl rfl
set_option maxRecDepth 20000 in
theorem wc_L_init : Cond.code m_L_init.1 m_L_init.2.1 m_L_init.2.2.1 m_L_init.2.2.2 ∈ ax_T := ax_in 161 rfl rfl
set_option maxRecDepth 20000 in
theorem wc_L_listen : Cond.code m_L_listen.1 m_L_listen.2.1 m_L_listen.2.2.1 m_L_listen.2.2.2 ∈ ax_T := ax_in 381 rfl rfl
set_option maxRecDepth 20000 in
theorem wc_L_placesFor : Cond.code m_L_placesFor.1 m_L_placesFor.2.1 m_L_placesFor.2.2.1 m_L_placesFor.2.2.2 ∈ ax_T := ax_in 386 rfl rfl
set_option maxRecDepth 20000 in
theorem wc_L_bestFor : Cond.code m_L_bestFor.1 m_L_bestFor.2.1 m_L_bestFor.2.2.1 m_L_bestFor.2.2.2 ∈ ax_T := ax_in 391 rfl rfl
set_option maxRecDepth 20000 in
theorem wc_L_thirdsFor : Cond.code m_L_thirdsFor.1 m_L_thirdsFor.2.1 m_L_thirdsFor.2.2.1 m_L_thirdsFor.2.2.2 ∈ ax_T := ax_in 405 rfl rfl
set_option maxRecDepth 20000 in
theorem wc_L_leastWalk : Cond.code m_L_leastWalk.1 m_L_leastWalk.2.1 m_L_leastWalk.2.2.1 m_L_leastWalk.2.2.2 ∈ ax_T := ax_in 413 rfl rfl
set_option maxRecDepth 20000 in
theorem wc_L_allCanBeRead : Cond.code m_L_allCanBeRead.1 m_L_allCanBeRead.2.1 m_L_allCanBeRead.2.2.1 m_L_allCanBeRead.2.2.2 ∈ ax_T := ax_in 420 rfl rfl
set_option maxRecDepth 20000 in
theorem wc_L_placesThatFit : Cond.code m_L_placesThatFit.1 m_L_placesThatFit.2.1 m_L_placesThatFit.2.2.1 m_L_placesThatFit.2.2.2 ∈ ax_T := ax_in 436 rfl rfl
set_option maxRecDepth 20000 in
theorem wc_L_bestToAsk : Cond.code m_L_bestToAsk.1 m_L_bestToAsk.2.1 m_L_bestToAsk.2.2.1 m_L_bestToAsk.2.2.2 ∈ ax_T := ax_in 444 rfl rfl
set_option maxRecDepth 20000 in
theorem wc_P_init : Cond.code m_P_init.1 m_P_init.2.1 m_P_init.2.2.1 m_P_init.2.2.2 ∈ ax_T := ax_in 131 rfl rfl
set_option maxRecDepth 20000 in
theorem wc_P_write : Cond.code m_P_write.1 m_P_write.2.1 m_P_write.2.2.1 m_P_write.2.2.2 ∈ ax_T := ax_in 261 rfl rfl
set_option maxRecDepth 20000 in
theorem wc_P_clean : Cond.code m_P_clean.1 m_P_clean.2.1 m_P_clean.2.2.1 m_P_clean.2.2.2 ∈ ax_T := ax_in 269 rfl rfl
set_option maxRecDepth 20000 in
theorem wc_P_faultPlace : Cond.code m_P_faultPlace.1 m_P_faultPlace.2.1 m_P_faultPlace.2.2.1 m_P_faultPlace.2.2.2 ∈ ax_T := ax_in 277 rfl rfl
set_option maxRecDepth 20000 in
theorem wc_P_kindOf : Cond.code m_P_kindOf.1 m_P_kindOf.2.1 m_P_kindOf.2.2.1 m_P_kindOf.2.2.2 ∈ ax_T := ax_in 280 rfl rfl
set_option maxRecDepth 20000 in
theorem wc_P_numberOf : Cond.code m_P_numberOf.1 m_P_numberOf.2.1 m_P_numberOf.2.2.1 m_P_numberOf.2.2.2 ∈ ax_T := ax_in 299 rfl rfl
set_option maxRecDepth 20000 in
theorem wc_P_playsToTheEnd : Cond.code m_P_playsToTheEnd.1 m_P_playsToTheEnd.2.1 m_P_playsToTheEnd.2.2.1 m_P_playsToTheEnd.2.2.2 ∈ ax_T := ax_in 288 rfl rfl
set_option maxRecDepth 20000 in
theorem wc_P_playAct : Cond.code m_P_playAct.1 m_P_playAct.2.1 m_P_playAct.2.2.1 m_P_playAct.2.2.2 ∈ ax_T := ax_in 303 rfl rfl
set_option maxRecDepth 20000 in
theorem wc_P_goesAstray : Cond.code m_P_goesAstray.1 m_P_goesAstray.2.1 m_P_goesAstray.2.2.1 m_P_goesAstray.2.2.2 ∈ ax_T := ax_in 313 rfl rfl
set_option maxRecDepth 20000 in
theorem wc_S_init : Cond.code m_S_init.1 m_S_init.2.1 m_S_init.2.2.1 m_S_init.2.2.2 ∈ ax_T := ax_in 51 rfl rfl
set_option maxRecDepth 20000 in
theorem wc_S_takeFrom : Cond.code m_S_takeFrom.1 m_S_takeFrom.2.1 m_S_takeFrom.2.2.1 m_S_takeFrom.2.2.2 ∈ ax_T := ax_in 293 rfl rfl
set_option maxRecDepth 20000 in
theorem wc_S_loudness : Cond.code m_S_loudness.1 m_S_loudness.2.1 m_S_loudness.2.2.1 m_S_loudness.2.2.2 ∈ ax_T := ax_in 365 rfl rfl
set_option maxRecDepth 20000 in
theorem wc_S_reached : Cond.code m_S_reached.1 m_S_reached.2.1 m_S_reached.2.2.1 m_S_reached.2.2.2 ∈ ax_T := ax_in 321 rfl rfl
set_option maxRecDepth 20000 in
theorem wc_S_hearers : Cond.code m_S_hearers.1 m_S_hearers.2.1 m_S_hearers.2.2.1 m_S_hearers.2.2.2 ∈ ax_T := ax_in 317 rfl rfl
set_option maxRecDepth 20000 in
theorem wc_S_whyNot : Cond.code m_S_whyNot.1 m_S_whyNot.2.1 m_S_whyNot.2.2.1 m_S_whyNot.2.2.2 ∈ ax_T := ax_in 307 rfl rfl
set_option maxRecDepth 20000 in
theorem wc_S_carryOut : Cond.code m_S_carryOut.1 m_S_carryOut.2.1 m_S_carryOut.2.2.1 m_S_carryOut.2.2.2 ∈ ax_T := ax_in 326 rfl rfl
set_option maxRecDepth 20000 in
theorem wc_S_readOut : Cond.code m_S_readOut.1 m_S_readOut.2.1 m_S_readOut.2.2.1 m_S_readOut.2.2.2 ∈ ax_T := ax_in 330 rfl rfl
set_option maxRecDepth 20000 in
theorem wc_S_passEvening : Cond.code m_S_passEvening.1 m_S_passEvening.2.1 m_S_passEvening.2.2.1 m_S_passEvening.2.2.2 ∈ ax_T := ax_in 335 rfl rfl
set_option maxRecDepth 20000 in
theorem wc_S_tellsEastward : Cond.code m_S_tellsEastward.1 m_S_tellsEastward.2.1 m_S_tellsEastward.2.2.1 m_S_tellsEastward.2.2.2 ∈ ax_T := ax_in 339 rfl rfl
set_option maxRecDepth 20000 in
theorem wc_S_knowersOfRumour : Cond.code m_S_knowersOfRumour.1 m_S_knowersOfRumour.2.1 m_S_knowersOfRumour.2.2.1 m_S_knowersOfRumour.2.2.2 ∈ ax_T := ax_in 461 rfl rfl
set_option maxRecDepth 20000 in
theorem wc_S_eveningsOfRumour : Cond.code m_S_eveningsOfRumour.1 m_S_eveningsOfRumour.2.1 m_S_eveningsOfRumour.2.2.1 m_S_eveningsOfRumour.2.2.2 ∈ ax_T := ax_in 453 rfl rfl
set_option maxRecDepth 20000 in
theorem wc_S_toldOnward : Cond.code m_S_toldOnward.1 m_S_toldOnward.2.1 m_S_toldOnward.2.2.1 m_S_toldOnward.2.2.2 ∈ ax_T := ax_in 457 rfl rfl
set_option maxRecDepth 20000 in
theorem wc_S_drawYear : Cond.code m_S_drawYear.1 m_S_drawYear.2.1 m_S_drawYear.2.2.1 m_S_drawYear.2.2.2 ∈ ax_T := ax_in 502 rfl rfl
set_option maxRecDepth 20000 in
theorem wc_S_drawnKind : Cond.code m_S_drawnKind.1 m_S_drawnKind.2.1 m_S_drawnKind.2.2.1 m_S_drawnKind.2.2.2 ∈ ax_T := ax_in 506 rfl rfl
set_option maxRecDepth 20000 in
theorem wc_S_factsKnown : Cond.code m_S_factsKnown.1 m_S_factsKnown.2.1 m_S_factsKnown.2.2.1 m_S_factsKnown.2.2.2 ∈ ax_T := ax_in 512 rfl rfl
set_option maxRecDepth 20000 in
theorem wc_B_bitCount : Cond.code m_B_bitCount.1 m_B_bitCount.2.1 m_B_bitCount.2.2.1 m_B_bitCount.2.2.2 ∈ ax_T := ax_in 394 rfl rfl
set_option maxRecDepth 20000 in
theorem wn_W : Cond.initialized "DoorVoiceLaw" ∈ ax_T := ax_in 29 rfl rfl
set_option maxRecDepth 20000 in
theorem wn_V : Cond.initialized "DoorVoice" ∈ ax_T := ax_in 30 rfl rfl
set_option maxRecDepth 20000 in
theorem wn_S : Cond.initialized "DoorVoice$Street" ∈ ax_T := ax_in 31 rfl rfl
set_option maxRecDepth 20000 in
theorem wn_P : Cond.initialized "DoorVoice$Pad" ∈ ax_T := ax_in 32 rfl rfl
set_option maxRecDepth 20000 in
theorem wn_L : Cond.initialized "DoorVoice$Listener" ∈ ax_T := ax_in 33 rfl rfl
set_option maxRecDepth 20000 in
theorem wn_C : Cond.initialized "DoorVoice$Chances" ∈ ax_T := ax_in 34 rfl rfl
set_option maxRecDepth 20000 in
theorem wn_M : Cond.initialized "DoorVoiceModel" ∈ ax_T := ax_in 35 rfl rfl
set_option maxRecDepth 20000 in
theorem wn_Y : Cond.initialized "java/lang/System" ∈ ax_T := ax_in 36 rfl rfl
set_option maxRecDepth 20000 in
theorem wn_H : Cond.initialized "java/lang/Math" ∈ ax_T := ax_in 37 rfl rfl
set_option maxRecDepth 20000 in
theorem wn_B : Cond.initialized "java/lang/Integer" ∈ ax_T := ax_in 38 rfl rfl
set_option maxRecDepth 20000 in
theorem lk_W_7 : Cond.classLink "DoorVoiceLaw" 7 "DoorVoice" ∈ ax_T := ax_in 39 rfl rfl
set_option maxRecDepth 20000 in
theorem wt_V : Cond.instantiable "DoorVoice" 8 ∈ ax_T := ax_in 40 rfl rfl
set_option maxRecDepth 20000 in
theorem lm_W_9 : Cond.methodLink "DoorVoiceLaw" 9 ⟨"DoorVoice", "<init>", "()V"⟩ ∈ ax_T := ax_in 41 rfl rfl
set_option maxRecDepth 20000 in
theorem wi_V_init : Cond.instanceMethod ⟨"DoorVoice", "<init>", "()V"⟩ ∈ ax_T := ax_in 42 rfl rfl
set_option maxRecDepth 20000 in
theorem lm_V_1 : Cond.methodLink "DoorVoice" 1 ⟨"java/lang/Object", "<init>", "()V"⟩ ∈ ax_T := ax_in 44 rfl rfl
set_option maxRecDepth 20000 in
theorem wi_O_init : Cond.instanceMethod ⟨"java/lang/Object", "<init>", "()V"⟩ ∈ ax_T := ax_in 45 rfl rfl
set_option maxRecDepth 20000 in
theorem lk_V_7 : Cond.classLink "DoorVoice" 7 "DoorVoice$Street" ∈ ax_T := ax_in 47 rfl rfl
set_option maxRecDepth 20000 in
theorem wt_S : Cond.instantiable "DoorVoice$Street" 16 ∈ ax_T := ax_in 48 rfl rfl
set_option maxRecDepth 20000 in
theorem wi_S_init : Cond.instanceMethod ⟨"DoorVoice$Street", "<init>", "()V"⟩ ∈ ax_T := ax_in 50 rfl rfl
set_option maxRecDepth 20000 in
theorem lm_S_3 : Cond.methodLink "DoorVoice$Street" 3 ⟨"java/lang/Object", "<init>", "()V"⟩ ∈ ax_T := ax_in 52 rfl rfl
set_option maxRecDepth 20000 in
theorem wa_int : Cond.arrayClass .int ∈ ax_T := ax_in 126 rfl rfl
set_option maxRecDepth 20000 in
theorem lk_V_25 : Cond.classLink "DoorVoice" 25 "DoorVoice$Pad" ∈ ax_T := ax_in 127 rfl rfl
set_option maxRecDepth 20000 in
theorem wt_P : Cond.instantiable "DoorVoice$Pad" 6 ∈ ax_T := ax_in 128 rfl rfl
set_option maxRecDepth 20000 in
theorem wi_P_init : Cond.instanceMethod ⟨"DoorVoice$Pad", "<init>", "()V"⟩ ∈ ax_T := ax_in 130 rfl rfl
set_option maxRecDepth 20000 in
theorem lm_P_3 : Cond.methodLink "DoorVoice$Pad" 3 ⟨"java/lang/Object", "<init>", "()V"⟩ ∈ ax_T := ax_in 132 rfl rfl
set_option maxRecDepth 20000 in
theorem lk_V_32 : Cond.classLink "DoorVoice" 32 "DoorVoice$Listener" ∈ ax_T := ax_in 157 rfl rfl
set_option maxRecDepth 20000 in
theorem wt_L : Cond.instantiable "DoorVoice$Listener" 2 ∈ ax_T := ax_in 158 rfl rfl
set_option maxRecDepth 20000 in
theorem wi_L_init : Cond.instanceMethod ⟨"DoorVoice$Listener", "<init>", "()V"⟩ ∈ ax_T := ax_in 160 rfl rfl
set_option maxRecDepth 20000 in
theorem lm_L_3 : Cond.methodLink "DoorVoice$Listener" 3 ⟨"java/lang/Object", "<init>", "()V"⟩ ∈ ax_T := ax_in 162 rfl rfl
set_option maxRecDepth 20000 in
theorem lk_V_39 : Cond.classLink "DoorVoice" 39 "DoorVoice$Chances" ∈ ax_T := ax_in 170 rfl rfl
set_option maxRecDepth 20000 in
theorem wt_C : Cond.instantiable "DoorVoice$Chances" 5 ∈ ax_T := ax_in 171 rfl rfl
set_option maxRecDepth 20000 in
theorem wi_C_init : Cond.instanceMethod ⟨"DoorVoice$Chances", "<init>", "()V"⟩ ∈ ax_T := ax_in 173 rfl rfl
set_option maxRecDepth 20000 in
theorem lm_C_3 : Cond.methodLink "DoorVoice$Chances" 3 ⟨"java/lang/Object", "<init>", "()V"⟩ ∈ ax_T := ax_in 175 rfl rfl
set_option maxRecDepth 20000 in
theorem wa_long : Cond.arrayClass .long ∈ ax_T := ax_in 194 rfl rfl
set_option maxRecDepth 20000 in
theorem lm_W_13 : Cond.methodLink "DoorVoiceLaw" 13 ⟨"DoorVoice", "house", "(IZZI)I"⟩ ∈ ax_T := ax_in 220 rfl rfl
set_option maxRecDepth 20000 in
theorem wi_V_house : Cond.instanceMethod ⟨"DoorVoice", "house", "(IZZI)I"⟩ ∈ ax_T := ax_in 221 rfl rfl
set_option maxRecDepth 20000 in
theorem wv_V_house : Cond.selects "DoorVoice" ⟨"DoorVoice", "house", "(IZZI)I"⟩ ⟨"DoorVoice", "house", "(IZZI)I"⟩ ∈ ax_T := ax_in 222 rfl rfl
set_option maxRecDepth 20000 in
theorem lm_V_50 : Cond.methodLink "DoorVoice" 50 ⟨"DoorVoice", "within", "(III)Z"⟩ ∈ ax_T := ax_in 224 rfl rfl
set_option maxRecDepth 20000 in
theorem ws_V_within : Cond.static ⟨"DoorVoice", "within", "(III)Z"⟩ ∈ ax_T := ax_in 225 rfl rfl
set_option maxRecDepth 20000 in
theorem lm_V_61 : Cond.methodLink "DoorVoice" 61 ⟨"DoorVoice", "withBit", "(IIZ)I"⟩ ∈ ax_T := ax_in 227 rfl rfl
set_option maxRecDepth 20000 in
theorem ws_V_withBit : Cond.static ⟨"DoorVoice", "withBit", "(IIZ)I"⟩ ∈ ax_T := ax_in 228 rfl rfl
set_option maxRecDepth 20000 in
theorem lm_W_18 : Cond.methodLink "DoorVoiceLaw" 18 ⟨"DoorVoice", "wall", "(II)I"⟩ ∈ ax_T := ax_in 230 rfl rfl
set_option maxRecDepth 20000 in
theorem wi_V_wall : Cond.instanceMethod ⟨"DoorVoice", "wall", "(II)I"⟩ ∈ ax_T := ax_in 231 rfl rfl
set_option maxRecDepth 20000 in
theorem wv_V_wall : Cond.selects "DoorVoice" ⟨"DoorVoice", "wall", "(II)I"⟩ ⟨"DoorVoice", "wall", "(II)I"⟩ ∈ ax_T := ax_in 232 rfl rfl
set_option maxRecDepth 20000 in
theorem lm_W_23 : Cond.methodLink "DoorVoiceLaw" 23 ⟨"DoorVoice", "set", "(II)I"⟩ ∈ ax_T := ax_in 234 rfl rfl
set_option maxRecDepth 20000 in
theorem wi_V_set : Cond.instanceMethod ⟨"DoorVoice", "set", "(II)I"⟩ ∈ ax_T := ax_in 235 rfl rfl
set_option maxRecDepth 20000 in
theorem wv_V_set : Cond.selects "DoorVoice" ⟨"DoorVoice", "set", "(II)I"⟩ ⟨"DoorVoice", "set", "(II)I"⟩ ∈ ax_T := ax_in 236 rfl rfl
set_option maxRecDepth 20000 in
theorem lm_V_71 : Cond.methodLink "DoorVoice" 71 ⟨"DoorVoice", "setVoice", "(I)I"⟩ ∈ ax_T := ax_in 238 rfl rfl
set_option maxRecDepth 20000 in
theorem wi_V_setVoice : Cond.instanceMethod ⟨"DoorVoice", "setVoice", "(I)I"⟩ ∈ ax_T := ax_in 240 rfl rfl
set_option maxRecDepth 20000 in
theorem lm_V_75 : Cond.methodLink "DoorVoice" 75 ⟨"DoorVoice", "setWind", "(I)I"⟩ ∈ ax_T := ax_in 242 rfl rfl
set_option maxRecDepth 20000 in
theorem wi_V_setWind : Cond.instanceMethod ⟨"DoorVoice", "setWind", "(I)I"⟩ ∈ ax_T := ax_in 244 rfl rfl
set_option maxRecDepth 20000 in
theorem lm_V_78 : Cond.methodLink "DoorVoice" 78 ⟨"DoorVoice", "setPlace", "(I)I"⟩ ∈ ax_T := ax_in 246 rfl rfl
set_option maxRecDepth 20000 in
theorem wi_V_setPlace : Cond.instanceMethod ⟨"DoorVoice", "setPlace", "(I)I"⟩ ∈ ax_T := ax_in 248 rfl rfl
set_option maxRecDepth 20000 in
theorem lm_W_27 : Cond.methodLink "DoorVoiceLaw" 27 ⟨"DoorVoice", "letter", "(IIIII)I"⟩ ∈ ax_T := ax_in 250 rfl rfl
set_option maxRecDepth 20000 in
theorem wi_V_letter : Cond.instanceMethod ⟨"DoorVoice", "letter", "(IIIII)I"⟩ ∈ ax_T := ax_in 251 rfl rfl
set_option maxRecDepth 20000 in
theorem wv_V_letter : Cond.selects "DoorVoice" ⟨"DoorVoice", "letter", "(IIIII)I"⟩ ⟨"DoorVoice", "letter", "(IIIII)I"⟩ ∈ ax_T := ax_in 252 rfl rfl
set_option maxRecDepth 20000 in
theorem lm_W_32 : Cond.methodLink "DoorVoiceLaw" 32 ⟨"DoorVoice", "say", "(I)I"⟩ ∈ ax_T := ax_in 254 rfl rfl
set_option maxRecDepth 20000 in
theorem wi_V_say : Cond.instanceMethod ⟨"DoorVoice", "say", "(I)I"⟩ ∈ ax_T := ax_in 255 rfl rfl
set_option maxRecDepth 20000 in
theorem wv_V_say : Cond.selects "DoorVoice" ⟨"DoorVoice", "say", "(I)I"⟩ ⟨"DoorVoice", "say", "(I)I"⟩ ∈ ax_T := ax_in 256 rfl rfl
set_option maxRecDepth 20000 in
theorem lm_V_105 : Cond.methodLink "DoorVoice" 105 ⟨"DoorVoice$Pad", "write", "(I)Z"⟩ ∈ ax_T := ax_in 258 rfl rfl
set_option maxRecDepth 20000 in
theorem wi_P_write : Cond.instanceMethod ⟨"DoorVoice$Pad", "write", "(I)Z"⟩ ∈ ax_T := ax_in 259 rfl rfl
set_option maxRecDepth 20000 in
theorem wv_P_write : Cond.selects "DoorVoice$Pad" ⟨"DoorVoice$Pad", "write", "(I)Z"⟩ ⟨"DoorVoice$Pad", "write", "(I)Z"⟩ ∈ ax_T := ax_in 260 rfl rfl
set_option maxRecDepth 20000 in
theorem lm_W_37 : Cond.methodLink "DoorVoiceLaw" 37 ⟨"DoorVoice", "wipe", "()I"⟩ ∈ ax_T := ax_in 262 rfl rfl
set_option maxRecDepth 20000 in
theorem wi_V_wipe : Cond.instanceMethod ⟨"DoorVoice", "wipe", "()I"⟩ ∈ ax_T := ax_in 263 rfl rfl
set_option maxRecDepth 20000 in
theorem wv_V_wipe : Cond.selects "DoorVoice" ⟨"DoorVoice", "wipe", "()I"⟩ ⟨"DoorVoice", "wipe", "()I"⟩ ∈ ax_T := ax_in 264 rfl rfl
set_option maxRecDepth 20000 in
theorem lm_V_112 : Cond.methodLink "DoorVoice" 112 ⟨"DoorVoice$Pad", "clean", "()I"⟩ ∈ ax_T := ax_in 266 rfl rfl
set_option maxRecDepth 20000 in
theorem wi_P_clean : Cond.instanceMethod ⟨"DoorVoice$Pad", "clean", "()I"⟩ ∈ ax_T := ax_in 267 rfl rfl
set_option maxRecDepth 20000 in
theorem wv_P_clean : Cond.selects "DoorVoice$Pad" ⟨"DoorVoice$Pad", "clean", "()I"⟩ ⟨"DoorVoice$Pad", "clean", "()I"⟩ ∈ ax_T := ax_in 268 rfl rfl
set_option maxRecDepth 20000 in
theorem lm_W_42 : Cond.methodLink "DoorVoiceLaw" 42 ⟨"DoorVoice", "fault", "()I"⟩ ∈ ax_T := ax_in 270 rfl rfl
set_option maxRecDepth 20000 in
theorem wi_V_fault : Cond.instanceMethod ⟨"DoorVoice", "fault", "()I"⟩ ∈ ax_T := ax_in 271 rfl rfl
set_option maxRecDepth 20000 in
theorem wv_V_fault : Cond.selects "DoorVoice" ⟨"DoorVoice", "fault", "()I"⟩ ⟨"DoorVoice", "fault", "()I"⟩ ∈ ax_T := ax_in 272 rfl rfl
set_option maxRecDepth 20000 in
theorem lm_V_116 : Cond.methodLink "DoorVoice" 116 ⟨"DoorVoice$Pad", "faultPlace", "()I"⟩ ∈ ax_T := ax_in 274 rfl rfl
set_option maxRecDepth 20000 in
theorem wi_P_faultPlace : Cond.instanceMethod ⟨"DoorVoice$Pad", "faultPlace", "()I"⟩ ∈ ax_T := ax_in 275 rfl rfl
set_option maxRecDepth 20000 in
theorem wv_P_faultPlace : Cond.selects "DoorVoice$Pad" ⟨"DoorVoice$Pad", "faultPlace", "()I"⟩ ⟨"DoorVoice$Pad", "faultPlace", "()I"⟩ ∈ ax_T := ax_in 276 rfl rfl
set_option maxRecDepth 20000 in
theorem lm_P_31 : Cond.methodLink "DoorVoice$Pad" 31 ⟨"DoorVoice$Pad", "kindOf", "(I)I"⟩ ∈ ax_T := ax_in 278 rfl rfl
set_option maxRecDepth 20000 in
theorem ws_P_kindOf : Cond.static ⟨"DoorVoice$Pad", "kindOf", "(I)I"⟩ ∈ ax_T := ax_in 279 rfl rfl
set_option maxRecDepth 20000 in
theorem lm_W_46 : Cond.methodLink "DoorVoiceLaw" 46 ⟨"DoorVoice", "judge", "(I)I"⟩ ∈ ax_T := ax_in 281 rfl rfl
set_option maxRecDepth 20000 in
theorem wi_V_judge : Cond.instanceMethod ⟨"DoorVoice", "judge", "(I)I"⟩ ∈ ax_T := ax_in 282 rfl rfl
set_option maxRecDepth 20000 in
theorem wv_V_judge : Cond.selects "DoorVoice" ⟨"DoorVoice", "judge", "(I)I"⟩ ⟨"DoorVoice", "judge", "(I)I"⟩ ∈ ax_T := ax_in 283 rfl rfl
set_option maxRecDepth 20000 in
theorem lm_V_119 : Cond.methodLink "DoorVoice" 119 ⟨"DoorVoice$Pad", "playsToTheEnd", "(LDoorVoice$Street;LDoorVoice$Street;)Z"⟩ ∈ ax_T := ax_in 285 rfl rfl
set_option maxRecDepth 20000 in
theorem wi_P_playsToTheEnd : Cond.instanceMethod ⟨"DoorVoice$Pad", "playsToTheEnd", "(LDoorVoice$Street;LDoorVoice$Street;)Z"⟩ ∈ ax_T := ax_in 286 rfl rfl
set_option maxRecDepth 20000 in
theorem wv_P_playsToTheEnd : Cond.selects "DoorVoice$Pad" ⟨"DoorVoice$Pad", "playsToTheEnd", "(LDoorVoice$Street;LDoorVoice$Street;)Z"⟩ ⟨"DoorVoice$Pad", "playsToTheEnd", "(LDoorVoice$Street;LDoorVoice$Street;)Z"⟩ ∈ ax_T := ax_in 287 rfl rfl
set_option maxRecDepth 20000 in
theorem lm_P_35 : Cond.methodLink "DoorVoice$Pad" 35 ⟨"DoorVoice$Pad", "faultPlace", "()I"⟩ ∈ ax_T := ax_in 289 rfl rfl
set_option maxRecDepth 20000 in
theorem lm_P_39 : Cond.methodLink "DoorVoice$Pad" 39 ⟨"DoorVoice$Street", "takeFrom", "(LDoorVoice$Street;)V"⟩ ∈ ax_T := ax_in 290 rfl rfl
set_option maxRecDepth 20000 in
theorem wi_S_takeFrom : Cond.instanceMethod ⟨"DoorVoice$Street", "takeFrom", "(LDoorVoice$Street;)V"⟩ ∈ ax_T := ax_in 291 rfl rfl
set_option maxRecDepth 20000 in
theorem wv_S_takeFrom : Cond.selects "DoorVoice$Street" ⟨"DoorVoice$Street", "takeFrom", "(LDoorVoice$Street;)V"⟩ ⟨"DoorVoice$Street", "takeFrom", "(LDoorVoice$Street;)V"⟩ ∈ ax_T := ax_in 292 rfl rfl
set_option maxRecDepth 20000 in
theorem lm_S_61 : Cond.methodLink "DoorVoice$Street" 61 ⟨"java/lang/System", "arraycopy", "(Ljava/lang/Object;ILjava/lang/Object;II)V"⟩ ∈ ax_T := ax_in 294 rfl rfl
set_option maxRecDepth 20000 in
theorem ws_Y_arraycopy : Cond.static ⟨"java/lang/System", "arraycopy", "(Ljava/lang/Object;ILjava/lang/Object;II)V"⟩ ∈ ax_T := ax_in 295 rfl rfl
set_option maxRecDepth 20000 in
theorem wx_native : Cond.native ⟨"java/lang/System", "arraycopy", "(Ljava/lang/Object;ILjava/lang/Object;II)V"⟩ ∈ ax_T := ax_in 296 rfl rfl
set_option maxRecDepth 20000 in
theorem lm_P_45 : Cond.methodLink "DoorVoice$Pad" 45 ⟨"DoorVoice$Pad", "numberOf", "(I)I"⟩ ∈ ax_T := ax_in 297 rfl rfl
set_option maxRecDepth 20000 in
theorem ws_P_numberOf : Cond.static ⟨"DoorVoice$Pad", "numberOf", "(I)I"⟩ ∈ ax_T := ax_in 298 rfl rfl
set_option maxRecDepth 20000 in
theorem lm_P_48 : Cond.methodLink "DoorVoice$Pad" 48 ⟨"DoorVoice$Pad", "playAct", "(LDoorVoice$Street;II)V"⟩ ∈ ax_T := ax_in 300 rfl rfl
set_option maxRecDepth 20000 in
theorem wi_P_playAct : Cond.instanceMethod ⟨"DoorVoice$Pad", "playAct", "(LDoorVoice$Street;II)V"⟩ ∈ ax_T := ax_in 302 rfl rfl
set_option maxRecDepth 20000 in
theorem lm_P_52 : Cond.methodLink "DoorVoice$Pad" 52 ⟨"DoorVoice$Street", "whyNot", "(II)I"⟩ ∈ ax_T := ax_in 304 rfl rfl
set_option maxRecDepth 20000 in
theorem wi_S_whyNot : Cond.instanceMethod ⟨"DoorVoice$Street", "whyNot", "(II)I"⟩ ∈ ax_T := ax_in 305 rfl rfl
set_option maxRecDepth 20000 in
theorem wv_S_whyNot : Cond.selects "DoorVoice$Street" ⟨"DoorVoice$Street", "whyNot", "(II)I"⟩ ⟨"DoorVoice$Street", "whyNot", "(II)I"⟩ ∈ ax_T := ax_in 306 rfl rfl
set_option maxRecDepth 20000 in
theorem ws_V_hasBit : Cond.static ⟨"DoorVoice", "hasBit", "(II)Z"⟩ ∈ ax_T := ax_in 309 rfl rfl
set_option maxRecDepth 20000 in
theorem lm_P_56 : Cond.methodLink "DoorVoice$Pad" 56 ⟨"DoorVoice$Pad", "goesAstray", "(LDoorVoice$Street;I)Z"⟩ ∈ ax_T := ax_in 311 rfl rfl
set_option maxRecDepth 20000 in
theorem ws_P_goesAstray : Cond.static ⟨"DoorVoice$Pad", "goesAstray", "(LDoorVoice$Street;I)Z"⟩ ∈ ax_T := ax_in 312 rfl rfl
set_option maxRecDepth 20000 in
theorem lm_P_70 : Cond.methodLink "DoorVoice$Pad" 70 ⟨"DoorVoice$Street", "hearers", "(II)I"⟩ ∈ ax_T := ax_in 314 rfl rfl
set_option maxRecDepth 20000 in
theorem wi_S_hearers : Cond.instanceMethod ⟨"DoorVoice$Street", "hearers", "(II)I"⟩ ∈ ax_T := ax_in 315 rfl rfl
set_option maxRecDepth 20000 in
theorem wv_S_hearers : Cond.selects "DoorVoice$Street" ⟨"DoorVoice$Street", "hearers", "(II)I"⟩ ⟨"DoorVoice$Street", "hearers", "(II)I"⟩ ∈ ax_T := ax_in 316 rfl rfl
set_option maxRecDepth 20000 in
theorem lm_S_73 : Cond.methodLink "DoorVoice$Street" 73 ⟨"DoorVoice$Street", "reached", "(II)I"⟩ ∈ ax_T := ax_in 318 rfl rfl
set_option maxRecDepth 20000 in
theorem wi_S_reached : Cond.instanceMethod ⟨"DoorVoice$Street", "reached", "(II)I"⟩ ∈ ax_T := ax_in 320 rfl rfl
set_option maxRecDepth 20000 in
theorem lm_P_60 : Cond.methodLink "DoorVoice$Pad" 60 ⟨"DoorVoice$Street", "carryOut", "(II)V"⟩ ∈ ax_T := ax_in 323 rfl rfl
set_option maxRecDepth 20000 in
theorem wi_S_carryOut : Cond.instanceMethod ⟨"DoorVoice$Street", "carryOut", "(II)V"⟩ ∈ ax_T := ax_in 324 rfl rfl
set_option maxRecDepth 20000 in
theorem wv_S_carryOut : Cond.selects "DoorVoice$Street" ⟨"DoorVoice$Street", "carryOut", "(II)V"⟩ ⟨"DoorVoice$Street", "carryOut", "(II)V"⟩ ∈ ax_T := ax_in 325 rfl rfl
set_option maxRecDepth 20000 in
theorem lm_S_80 : Cond.methodLink "DoorVoice$Street" 80 ⟨"DoorVoice$Street", "readOut", "(I)V"⟩ ∈ ax_T := ax_in 327 rfl rfl
set_option maxRecDepth 20000 in
theorem wi_S_readOut : Cond.instanceMethod ⟨"DoorVoice$Street", "readOut", "(I)V"⟩ ∈ ax_T := ax_in 329 rfl rfl
set_option maxRecDepth 20000 in
theorem lm_S_87 : Cond.methodLink "DoorVoice$Street" 87 ⟨"DoorVoice$Street", "hearers", "(II)I"⟩ ∈ ax_T := ax_in 331 rfl rfl
set_option maxRecDepth 20000 in
theorem lm_S_84 : Cond.methodLink "DoorVoice$Street" 84 ⟨"DoorVoice$Street", "passEvening", "()V"⟩ ∈ ax_T := ax_in 332 rfl rfl
set_option maxRecDepth 20000 in
theorem wi_S_passEvening : Cond.instanceMethod ⟨"DoorVoice$Street", "passEvening", "()V"⟩ ∈ ax_T := ax_in 334 rfl rfl
set_option maxRecDepth 20000 in
theorem lm_S_90 : Cond.methodLink "DoorVoice$Street" 90 ⟨"DoorVoice$Street", "tellsEastward", "(I)Z"⟩ ∈ ax_T := ax_in 336 rfl rfl
set_option maxRecDepth 20000 in
theorem wi_S_tellsEastward : Cond.instanceMethod ⟨"DoorVoice$Street", "tellsEastward", "(I)Z"⟩ ∈ ax_T := ax_in 338 rfl rfl
set_option maxRecDepth 20000 in
theorem lm_W_50 : Cond.methodLink "DoorVoiceLaw" 50 ⟨"DoorVoice", "done", "()I"⟩ ∈ ax_T := ax_in 340 rfl rfl
set_option maxRecDepth 20000 in
theorem wi_V_done : Cond.instanceMethod ⟨"DoorVoice", "done", "()I"⟩ ∈ ax_T := ax_in 341 rfl rfl
set_option maxRecDepth 20000 in
theorem wv_V_done : Cond.selects "DoorVoice" ⟨"DoorVoice", "done", "()I"⟩ ⟨"DoorVoice", "done", "()I"⟩ ∈ ax_T := ax_in 342 rfl rfl
set_option maxRecDepth 20000 in
theorem lm_V_129 : Cond.methodLink "DoorVoice" 129 ⟨"DoorVoice$Street", "takeFrom", "(LDoorVoice$Street;)V"⟩ ∈ ax_T := ax_in 344 rfl rfl
set_option maxRecDepth 20000 in
theorem lm_W_54 : Cond.methodLink "DoorVoiceLaw" 54 ⟨"DoorVoice", "knows", "(I)I"⟩ ∈ ax_T := ax_in 345 rfl rfl
set_option maxRecDepth 20000 in
theorem wi_V_knows : Cond.instanceMethod ⟨"DoorVoice", "knows", "(I)I"⟩ ∈ ax_T := ax_in 346 rfl rfl
set_option maxRecDepth 20000 in
theorem wv_V_knows : Cond.selects "DoorVoice" ⟨"DoorVoice", "knows", "(I)I"⟩ ⟨"DoorVoice", "knows", "(I)I"⟩ ∈ ax_T := ax_in 347 rfl rfl
set_option maxRecDepth 20000 in
theorem lm_W_58 : Cond.methodLink "DoorVoiceLaw" 58 ⟨"DoorVoice", "behind", "(I)I"⟩ ∈ ax_T := ax_in 349 rfl rfl
set_option maxRecDepth 20000 in
theorem wi_V_behind : Cond.instanceMethod ⟨"DoorVoice", "behind", "(I)I"⟩ ∈ ax_T := ax_in 350 rfl rfl
set_option maxRecDepth 20000 in
theorem wv_V_behind : Cond.selects "DoorVoice" ⟨"DoorVoice", "behind", "(I)I"⟩ ⟨"DoorVoice", "behind", "(I)I"⟩ ∈ ax_T := ax_in 351 rfl rfl
set_option maxRecDepth 20000 in
theorem lm_W_62 : Cond.methodLink "DoorVoiceLaw" 62 ⟨"DoorVoice", "who", "(I)I"⟩ ∈ ax_T := ax_in 353 rfl rfl
set_option maxRecDepth 20000 in
theorem wi_V_who : Cond.instanceMethod ⟨"DoorVoice", "who", "(I)I"⟩ ∈ ax_T := ax_in 354 rfl rfl
set_option maxRecDepth 20000 in
theorem wv_V_who : Cond.selects "DoorVoice" ⟨"DoorVoice", "who", "(I)I"⟩ ⟨"DoorVoice", "who", "(I)I"⟩ ∈ ax_T := ax_in 355 rfl rfl
set_option maxRecDepth 20000 in
theorem lm_V_142 : Cond.methodLink "DoorVoice" 142 ⟨"DoorVoice", "hasBit", "(II)Z"⟩ ∈ ax_T := ax_in 357 rfl rfl
set_option maxRecDepth 20000 in
theorem lm_W_66 : Cond.methodLink "DoorVoiceLaw" 66 ⟨"DoorVoice", "loud", "(II)I"⟩ ∈ ax_T := ax_in 358 rfl rfl
set_option maxRecDepth 20000 in
theorem wi_V_loud : Cond.instanceMethod ⟨"DoorVoice", "loud", "(II)I"⟩ ∈ ax_T := ax_in 359 rfl rfl
set_option maxRecDepth 20000 in
theorem wv_V_loud : Cond.selects "DoorVoice" ⟨"DoorVoice", "loud", "(II)I"⟩ ⟨"DoorVoice", "loud", "(II)I"⟩ ∈ ax_T := ax_in 360 rfl rfl
set_option maxRecDepth 20000 in
theorem lm_V_146 : Cond.methodLink "DoorVoice" 146 ⟨"DoorVoice$Street", "loudness", "(II)I"⟩ ∈ ax_T := ax_in 362 rfl rfl
set_option maxRecDepth 20000 in
theorem wi_S_loudness : Cond.instanceMethod ⟨"DoorVoice$Street", "loudness", "(II)I"⟩ ∈ ax_T := ax_in 363 rfl rfl
set_option maxRecDepth 20000 in
theorem wv_S_loudness : Cond.selects "DoorVoice$Street" ⟨"DoorVoice$Street", "loudness", "(II)I"⟩ ⟨"DoorVoice$Street", "loudness", "(II)I"⟩ ∈ ax_T := ax_in 364 rfl rfl
set_option maxRecDepth 20000 in
theorem lm_S_67 : Cond.methodLink "DoorVoice$Street" 67 ⟨"java/lang/Math", "max", "(II)I"⟩ ∈ ax_T := ax_in 366 rfl rfl
set_option maxRecDepth 20000 in
theorem ws_H_max : Cond.static ⟨"java/lang/Math", "max", "(II)I"⟩ ∈ ax_T := ax_in 367 rfl rfl
set_option maxRecDepth 20000 in
theorem lm_W_70 : Cond.methodLink "DoorVoiceLaw" 70 ⟨"DoorVoice", "hears", "(I)I"⟩ ∈ ax_T := ax_in 369 rfl rfl
set_option maxRecDepth 20000 in
theorem wi_V_hears : Cond.instanceMethod ⟨"DoorVoice", "hears", "(I)I"⟩ ∈ ax_T := ax_in 370 rfl rfl
set_option maxRecDepth 20000 in
theorem wv_V_hears : Cond.selects "DoorVoice" ⟨"DoorVoice", "hears", "(I)I"⟩ ⟨"DoorVoice", "hears", "(I)I"⟩ ∈ ax_T := ax_in 371 rfl rfl
set_option maxRecDepth 20000 in
theorem lm_V_150 : Cond.methodLink "DoorVoice" 150 ⟨"DoorVoice$Street", "hearers", "(II)I"⟩ ∈ ax_T := ax_in 373 rfl rfl
set_option maxRecDepth 20000 in
theorem lm_W_74 : Cond.methodLink "DoorVoiceLaw" 74 ⟨"DoorVoice", "best", "(II)I"⟩ ∈ ax_T := ax_in 374 rfl rfl
set_option maxRecDepth 20000 in
theorem wi_V_best : Cond.instanceMethod ⟨"DoorVoice", "best", "(II)I"⟩ ∈ ax_T := ax_in 375 rfl rfl
set_option maxRecDepth 20000 in
theorem wv_V_best : Cond.selects "DoorVoice" ⟨"DoorVoice", "best", "(II)I"⟩ ⟨"DoorVoice", "best", "(II)I"⟩ ∈ ax_T := ax_in 376 rfl rfl
set_option maxRecDepth 20000 in
theorem lm_V_153 : Cond.methodLink "DoorVoice" 153 ⟨"DoorVoice$Listener", "listen", "(LDoorVoice$Street;)V"⟩ ∈ ax_T := ax_in 378 rfl rfl
set_option maxRecDepth 20000 in
theorem wi_L_listen : Cond.instanceMethod ⟨"DoorVoice$Listener", "listen", "(LDoorVoice$Street;)V"⟩ ∈ ax_T := ax_in 379 rfl rfl
set_option maxRecDepth 20000 in
theorem wv_L_listen : Cond.selects "DoorVoice$Listener" ⟨"DoorVoice$Listener", "listen", "(LDoorVoice$Street;)V"⟩ ⟨"DoorVoice$Listener", "listen", "(LDoorVoice$Street;)V"⟩ ∈ ax_T := ax_in 380 rfl rfl
set_option maxRecDepth 20000 in
theorem lm_L_24 : Cond.methodLink "DoorVoice$Listener" 24 ⟨"DoorVoice$Street", "hearers", "(II)I"⟩ ∈ ax_T := ax_in 382 rfl rfl
set_option maxRecDepth 20000 in
theorem lm_L_28 : Cond.methodLink "DoorVoice$Listener" 28 ⟨"DoorVoice$Listener", "placesFor", "(I)I"⟩ ∈ ax_T := ax_in 383 rfl rfl
set_option maxRecDepth 20000 in
theorem wi_L_placesFor : Cond.instanceMethod ⟨"DoorVoice$Listener", "placesFor", "(I)I"⟩ ∈ ax_T := ax_in 385 rfl rfl
set_option maxRecDepth 20000 in
theorem lm_V_156 : Cond.methodLink "DoorVoice" 156 ⟨"DoorVoice$Listener", "bestFor", "(IZ)I"⟩ ∈ ax_T := ax_in 388 rfl rfl
set_option maxRecDepth 20000 in
theorem wi_L_bestFor : Cond.instanceMethod ⟨"DoorVoice$Listener", "bestFor", "(IZ)I"⟩ ∈ ax_T := ax_in 389 rfl rfl
set_option maxRecDepth 20000 in
theorem wv_L_bestFor : Cond.selects "DoorVoice$Listener" ⟨"DoorVoice$Listener", "bestFor", "(IZ)I"⟩ ⟨"DoorVoice$Listener", "bestFor", "(IZ)I"⟩ ∈ ax_T := ax_in 390 rfl rfl
set_option maxRecDepth 20000 in
theorem lm_L_36 : Cond.methodLink "DoorVoice$Listener" 36 ⟨"java/lang/Integer", "bitCount", "(I)I"⟩ ∈ ax_T := ax_in 392 rfl rfl
set_option maxRecDepth 20000 in
theorem ws_B_bitCount : Cond.static ⟨"java/lang/Integer", "bitCount", "(I)I"⟩ ∈ ax_T := ax_in 393 rfl rfl
set_option maxRecDepth 20000 in
theorem lc_B_265 : Cond.constant "java/lang/Integer" 265 (1431655765) ∈ ax_T := ax_in 395 rfl rfl
set_option maxRecDepth 20000 in
theorem lc_B_266 : Cond.constant "java/lang/Integer" 266 (858993459) ∈ ax_T := ax_in 396 rfl rfl
set_option maxRecDepth 20000 in
theorem lc_B_267 : Cond.constant "java/lang/Integer" 267 (252645135) ∈ ax_T := ax_in 397 rfl rfl
set_option maxRecDepth 20000 in
theorem lm_W_78 : Cond.methodLink "DoorVoiceLaw" 78 ⟨"DoorVoice", "thirds", "(II)I"⟩ ∈ ax_T := ax_in 398 rfl rfl
set_option maxRecDepth 20000 in
theorem wi_V_thirds : Cond.instanceMethod ⟨"DoorVoice", "thirds", "(II)I"⟩ ∈ ax_T := ax_in 399 rfl rfl
set_option maxRecDepth 20000 in
theorem wv_V_thirds : Cond.selects "DoorVoice" ⟨"DoorVoice", "thirds", "(II)I"⟩ ⟨"DoorVoice", "thirds", "(II)I"⟩ ∈ ax_T := ax_in 400 rfl rfl
set_option maxRecDepth 20000 in
theorem lm_V_160 : Cond.methodLink "DoorVoice" 160 ⟨"DoorVoice$Listener", "thirdsFor", "(IZ)I"⟩ ∈ ax_T := ax_in 402 rfl rfl
set_option maxRecDepth 20000 in
theorem wi_L_thirdsFor : Cond.instanceMethod ⟨"DoorVoice$Listener", "thirdsFor", "(IZ)I"⟩ ∈ ax_T := ax_in 403 rfl rfl
set_option maxRecDepth 20000 in
theorem wv_L_thirdsFor : Cond.selects "DoorVoice$Listener" ⟨"DoorVoice$Listener", "thirdsFor", "(IZ)I"⟩ ⟨"DoorVoice$Listener", "thirdsFor", "(IZ)I"⟩ ∈ ax_T := ax_in 404 rfl rfl
set_option maxRecDepth 20000 in
theorem lm_W_82 : Cond.methodLink "DoorVoiceLaw" 82 ⟨"DoorVoice", "round", "(II)I"⟩ ∈ ax_T := ax_in 406 rfl rfl
set_option maxRecDepth 20000 in
theorem wi_V_round : Cond.instanceMethod ⟨"DoorVoice", "round", "(II)I"⟩ ∈ ax_T := ax_in 407 rfl rfl
set_option maxRecDepth 20000 in
theorem wv_V_round : Cond.selects "DoorVoice" ⟨"DoorVoice", "round", "(II)I"⟩ ⟨"DoorVoice", "round", "(II)I"⟩ ∈ ax_T := ax_in 408 rfl rfl
set_option maxRecDepth 20000 in
theorem lm_V_163 : Cond.methodLink "DoorVoice" 163 ⟨"DoorVoice$Listener", "leastWalk", "(LDoorVoice$Street;IZ)I"⟩ ∈ ax_T := ax_in 410 rfl rfl
set_option maxRecDepth 20000 in
theorem wi_L_leastWalk : Cond.instanceMethod ⟨"DoorVoice$Listener", "leastWalk", "(LDoorVoice$Street;IZ)I"⟩ ∈ ax_T := ax_in 411 rfl rfl
set_option maxRecDepth 20000 in
theorem wv_L_leastWalk : Cond.selects "DoorVoice$Listener" ⟨"DoorVoice$Listener", "leastWalk", "(LDoorVoice$Street;IZ)I"⟩ ⟨"DoorVoice$Listener", "leastWalk", "(LDoorVoice$Street;IZ)I"⟩ ∈ ax_T := ax_in 412 rfl rfl
set_option maxRecDepth 20000 in
theorem lm_L_44 : Cond.methodLink "DoorVoice$Listener" 44 ⟨"java/lang/Math", "min", "(II)I"⟩ ∈ ax_T := ax_in 414 rfl rfl
set_option maxRecDepth 20000 in
theorem ws_H_min : Cond.static ⟨"java/lang/Math", "min", "(II)I"⟩ ∈ ax_T := ax_in 415 rfl rfl
set_option maxRecDepth 20000 in
theorem lm_L_49 : Cond.methodLink "DoorVoice$Listener" 49 ⟨"DoorVoice$Listener", "allCanBeRead", "(LDoorVoice$Street;III)Z"⟩ ∈ ax_T := ax_in 417 rfl rfl
set_option maxRecDepth 20000 in
theorem wi_L_allCanBeRead : Cond.instanceMethod ⟨"DoorVoice$Listener", "allCanBeRead", "(LDoorVoice$Street;III)Z"⟩ ∈ ax_T := ax_in 419 rfl rfl
set_option maxRecDepth 20000 in
theorem lm_W_86 : Cond.methodLink "DoorVoiceLaw" 86 ⟨"DoorVoice", "seen", "(IZ)I"⟩ ∈ ax_T := ax_in 421 rfl rfl
set_option maxRecDepth 20000 in
theorem wi_V_seen : Cond.instanceMethod ⟨"DoorVoice", "seen", "(IZ)I"⟩ ∈ ax_T := ax_in 422 rfl rfl
set_option maxRecDepth 20000 in
theorem wv_V_seen : Cond.selects "DoorVoice" ⟨"DoorVoice", "seen", "(IZ)I"⟩ ⟨"DoorVoice", "seen", "(IZ)I"⟩ ∈ ax_T := ax_in 423 rfl rfl
set_option maxRecDepth 20000 in
theorem lm_W_91 : Cond.methodLink "DoorVoiceLaw" 91 ⟨"DoorVoice", "forget", "()I"⟩ ∈ ax_T := ax_in 425 rfl rfl
set_option maxRecDepth 20000 in
theorem wi_V_forget : Cond.instanceMethod ⟨"DoorVoice", "forget", "()I"⟩ ∈ ax_T := ax_in 426 rfl rfl
set_option maxRecDepth 20000 in
theorem wv_V_forget : Cond.selects "DoorVoice" ⟨"DoorVoice", "forget", "()I"⟩ ⟨"DoorVoice", "forget", "()I"⟩ ∈ ax_T := ax_in 427 rfl rfl
set_option maxRecDepth 20000 in
theorem lm_W_95 : Cond.methodLink "DoorVoiceLaw" 95 ⟨"DoorVoice", "at", "()I"⟩ ∈ ax_T := ax_in 429 rfl rfl
set_option maxRecDepth 20000 in
theorem wi_V_at : Cond.instanceMethod ⟨"DoorVoice", "at", "()I"⟩ ∈ ax_T := ax_in 430 rfl rfl
set_option maxRecDepth 20000 in
theorem wv_V_at : Cond.selects "DoorVoice" ⟨"DoorVoice", "at", "()I"⟩ ⟨"DoorVoice", "at", "()I"⟩ ∈ ax_T := ax_in 431 rfl rfl
set_option maxRecDepth 20000 in
theorem lm_V_176 : Cond.methodLink "DoorVoice" 176 ⟨"DoorVoice$Listener", "placesThatFit", "(LDoorVoice$Street;)I"⟩ ∈ ax_T := ax_in 433 rfl rfl
set_option maxRecDepth 20000 in
theorem wi_L_placesThatFit : Cond.instanceMethod ⟨"DoorVoice$Listener", "placesThatFit", "(LDoorVoice$Street;)I"⟩ ∈ ax_T := ax_in 434 rfl rfl
set_option maxRecDepth 20000 in
theorem wv_L_placesThatFit : Cond.selects "DoorVoice$Listener" ⟨"DoorVoice$Listener", "placesThatFit", "(LDoorVoice$Street;)I"⟩ ⟨"DoorVoice$Listener", "placesThatFit", "(LDoorVoice$Street;)I"⟩ ∈ ax_T := ax_in 435 rfl rfl
set_option maxRecDepth 20000 in
theorem lm_W_99 : Cond.methodLink "DoorVoiceLaw" 99 ⟨"DoorVoice", "ask", "(I)I"⟩ ∈ ax_T := ax_in 437 rfl rfl
set_option maxRecDepth 20000 in
theorem wi_V_ask : Cond.instanceMethod ⟨"DoorVoice", "ask", "(I)I"⟩ ∈ ax_T := ax_in 438 rfl rfl
set_option maxRecDepth 20000 in
theorem wv_V_ask : Cond.selects "DoorVoice" ⟨"DoorVoice", "ask", "(I)I"⟩ ⟨"DoorVoice", "ask", "(I)I"⟩ ∈ ax_T := ax_in 439 rfl rfl
set_option maxRecDepth 20000 in
theorem lm_V_180 : Cond.methodLink "DoorVoice" 180 ⟨"DoorVoice$Listener", "bestToAsk", "(IZ)I"⟩ ∈ ax_T := ax_in 441 rfl rfl
set_option maxRecDepth 20000 in
theorem wi_L_bestToAsk : Cond.instanceMethod ⟨"DoorVoice$Listener", "bestToAsk", "(IZ)I"⟩ ∈ ax_T := ax_in 442 rfl rfl
set_option maxRecDepth 20000 in
theorem wv_L_bestToAsk : Cond.selects "DoorVoice$Listener" ⟨"DoorVoice$Listener", "bestToAsk", "(IZ)I"⟩ ⟨"DoorVoice$Listener", "bestToAsk", "(IZ)I"⟩ ∈ ax_T := ax_in 443 rfl rfl
set_option maxRecDepth 20000 in
theorem lm_L_62 : Cond.methodLink "DoorVoice$Listener" 62 ⟨"java/lang/Math", "max", "(II)I"⟩ ∈ ax_T := ax_in 445 rfl rfl
set_option maxRecDepth 20000 in
theorem lm_W_103 : Cond.methodLink "DoorVoiceLaw" 103 ⟨"DoorVoice", "rumour", "(II)I"⟩ ∈ ax_T := ax_in 446 rfl rfl
set_option maxRecDepth 20000 in
theorem wi_V_rumour : Cond.instanceMethod ⟨"DoorVoice", "rumour", "(II)I"⟩ ∈ ax_T := ax_in 447 rfl rfl
set_option maxRecDepth 20000 in
theorem wv_V_rumour : Cond.selects "DoorVoice" ⟨"DoorVoice", "rumour", "(II)I"⟩ ⟨"DoorVoice", "rumour", "(II)I"⟩ ∈ ax_T := ax_in 448 rfl rfl
set_option maxRecDepth 20000 in
theorem lm_V_183 : Cond.methodLink "DoorVoice" 183 ⟨"DoorVoice$Street", "eveningsOfRumour", "(I)I"⟩ ∈ ax_T := ax_in 450 rfl rfl
set_option maxRecDepth 20000 in
theorem wi_S_eveningsOfRumour : Cond.instanceMethod ⟨"DoorVoice$Street", "eveningsOfRumour", "(I)I"⟩ ∈ ax_T := ax_in 451 rfl rfl
set_option maxRecDepth 20000 in
theorem wv_S_eveningsOfRumour : Cond.selects "DoorVoice$Street" ⟨"DoorVoice$Street", "eveningsOfRumour", "(I)I"⟩ ⟨"DoorVoice$Street", "eveningsOfRumour", "(I)I"⟩ ∈ ax_T := ax_in 452 rfl rfl
set_option maxRecDepth 20000 in
theorem lm_S_94 : Cond.methodLink "DoorVoice$Street" 94 ⟨"DoorVoice$Street", "toldOnward", "(I)I"⟩ ∈ ax_T := ax_in 454 rfl rfl
set_option maxRecDepth 20000 in
theorem wi_S_toldOnward : Cond.instanceMethod ⟨"DoorVoice$Street", "toldOnward", "(I)I"⟩ ∈ ax_T := ax_in 456 rfl rfl
set_option maxRecDepth 20000 in
theorem lm_V_186 : Cond.methodLink "DoorVoice" 186 ⟨"DoorVoice$Street", "knowersOfRumour", "(II)I"⟩ ∈ ax_T := ax_in 458 rfl rfl
set_option maxRecDepth 20000 in
theorem wi_S_knowersOfRumour : Cond.instanceMethod ⟨"DoorVoice$Street", "knowersOfRumour", "(II)I"⟩ ∈ ax_T := ax_in 459 rfl rfl
set_option maxRecDepth 20000 in
theorem wv_S_knowersOfRumour : Cond.selects "DoorVoice$Street" ⟨"DoorVoice$Street", "knowersOfRumour", "(II)I"⟩ ⟨"DoorVoice$Street", "knowersOfRumour", "(II)I"⟩ ∈ ax_T := ax_in 460 rfl rfl
set_option maxRecDepth 20000 in
theorem lm_V_189 : Cond.methodLink "DoorVoice" 189 ⟨"java/lang/Integer", "bitCount", "(I)I"⟩ ∈ ax_T := ax_in 462 rfl rfl
set_option maxRecDepth 20000 in
theorem lm_W_107 : Cond.methodLink "DoorVoiceLaw" 107 ⟨"DoorVoice", "chance", "(IIII)J"⟩ ∈ ax_T := ax_in 463 rfl rfl
set_option maxRecDepth 20000 in
theorem wi_V_chance : Cond.instanceMethod ⟨"DoorVoice", "chance", "(IIII)J"⟩ ∈ ax_T := ax_in 464 rfl rfl
set_option maxRecDepth 20000 in
theorem wv_V_chance : Cond.selects "DoorVoice" ⟨"DoorVoice", "chance", "(IIII)J"⟩ ⟨"DoorVoice", "chance", "(IIII)J"⟩ ∈ ax_T := ax_in 465 rfl rfl
set_option maxRecDepth 20000 in
theorem lc_V_194 : Cond.constantLong "DoorVoice" 194 (-1000000000000000001) ∈ ax_T := ax_in 467 rfl rfl
set_option maxRecDepth 20000 in
theorem lc_V_196 : Cond.constantLong "DoorVoice" 196 (-1000000000000000002) ∈ ax_T := ax_in 468 rfl rfl
set_option maxRecDepth 20000 in
theorem lm_V_198 : Cond.methodLink "DoorVoice" 198 ⟨"DoorVoice$Chances", "weigh", "(LDoorVoice$Street;I)V"⟩ ∈ ax_T := ax_in 469 rfl rfl
set_option maxRecDepth 20000 in
theorem wi_C_weigh : Cond.instanceMethod ⟨"DoorVoice$Chances", "weigh", "(LDoorVoice$Street;I)V"⟩ ∈ ax_T := ax_in 470 rfl rfl
set_option maxRecDepth 20000 in
theorem wv_C_weigh : Cond.selects "DoorVoice$Chances" ⟨"DoorVoice$Chances", "weigh", "(LDoorVoice$Street;I)V"⟩ ⟨"DoorVoice$Chances", "weigh", "(LDoorVoice$Street;I)V"⟩ ∈ ax_T := ax_in 471 rfl rfl
set_option maxRecDepth 20000 in
theorem lm_C_29 : Cond.methodLink "DoorVoice$Chances" 29 ⟨"DoorVoice$Street", "hearers", "(II)I"⟩ ∈ ax_T := ax_in 473 rfl rfl
set_option maxRecDepth 20000 in
theorem lm_C_35 : Cond.methodLink "DoorVoice$Chances" 35 ⟨"java/lang/Integer", "bitCount", "(I)I"⟩ ∈ ax_T := ax_in 474 rfl rfl
set_option maxRecDepth 20000 in
theorem lm_V_202 : Cond.methodLink "DoorVoice" 202 ⟨"DoorVoice$Chances", "findMean", "(I)V"⟩ ∈ ax_T := ax_in 475 rfl rfl
set_option maxRecDepth 20000 in
theorem wi_C_findMean : Cond.instanceMethod ⟨"DoorVoice$Chances", "findMean", "(I)V"⟩ ∈ ax_T := ax_in 476 rfl rfl
set_option maxRecDepth 20000 in
theorem wv_C_findMean : Cond.selects "DoorVoice$Chances" ⟨"DoorVoice$Chances", "findMean", "(I)V"⟩ ⟨"DoorVoice$Chances", "findMean", "(I)V"⟩ ∈ ax_T := ax_in 477 rfl rfl
set_option maxRecDepth 20000 in
theorem lc_C_41 : Cond.constantLong "DoorVoice$Chances" 41 (10) ∈ ax_T := ax_in 479 rfl rfl
set_option maxRecDepth 20000 in
theorem lm_C_43 : Cond.methodLink "DoorVoice$Chances" 43 ⟨"DoorVoice$Chances", "putLowest", "(JJ)V"⟩ ∈ ax_T := ax_in 480 rfl rfl
set_option maxRecDepth 20000 in
theorem wi_C_putLowest : Cond.instanceMethod ⟨"DoorVoice$Chances", "putLowest", "(JJ)V"⟩ ∈ ax_T := ax_in 482 rfl rfl
set_option maxRecDepth 20000 in
theorem lm_C_51 : Cond.methodLink "DoorVoice$Chances" 51 ⟨"DoorVoice$Chances", "greatestDivisor", "(JJ)J"⟩ ∈ ax_T := ax_in 484 rfl rfl
set_option maxRecDepth 20000 in
theorem ws_C_greatestDivisor : Cond.static ⟨"DoorVoice$Chances", "greatestDivisor", "(JJ)J"⟩ ∈ ax_T := ax_in 485 rfl rfl
set_option maxRecDepth 20000 in
theorem lm_V_206 : Cond.methodLink "DoorVoice" 206 ⟨"DoorVoice$Chances", "findAtMost", "(II)V"⟩ ∈ ax_T := ax_in 487 rfl rfl
set_option maxRecDepth 20000 in
theorem wi_C_findAtMost : Cond.instanceMethod ⟨"DoorVoice$Chances", "findAtMost", "(II)V"⟩ ∈ ax_T := ax_in 488 rfl rfl
set_option maxRecDepth 20000 in
theorem wv_C_findAtMost : Cond.selects "DoorVoice$Chances" ⟨"DoorVoice$Chances", "findAtMost", "(II)V"⟩ ⟨"DoorVoice$Chances", "findAtMost", "(II)V"⟩ ∈ ax_T := ax_in 489 rfl rfl
set_option maxRecDepth 20000 in
theorem lm_C_47 : Cond.methodLink "DoorVoice$Chances" 47 ⟨"DoorVoice$Chances", "countWays", "(I)V"⟩ ∈ ax_T := ax_in 491 rfl rfl
set_option maxRecDepth 20000 in
theorem wi_C_countWays : Cond.instanceMethod ⟨"DoorVoice$Chances", "countWays", "(I)V"⟩ ∈ ax_T := ax_in 493 rfl rfl
set_option maxRecDepth 20000 in
theorem lm_W_112 : Cond.methodLink "DoorVoiceLaw" 112 ⟨"DoorVoice", "year", "(III)I"⟩ ∈ ax_T := ax_in 495 rfl rfl
set_option maxRecDepth 20000 in
theorem wi_V_year : Cond.instanceMethod ⟨"DoorVoice", "year", "(III)I"⟩ ∈ ax_T := ax_in 496 rfl rfl
set_option maxRecDepth 20000 in
theorem wv_V_year : Cond.selects "DoorVoice" ⟨"DoorVoice", "year", "(III)I"⟩ ⟨"DoorVoice", "year", "(III)I"⟩ ∈ ax_T := ax_in 497 rfl rfl
set_option maxRecDepth 20000 in
theorem lm_V_217 : Cond.methodLink "DoorVoice" 217 ⟨"DoorVoice$Street", "drawYear", "(II)V"⟩ ∈ ax_T := ax_in 499 rfl rfl
set_option maxRecDepth 20000 in
theorem wi_S_drawYear : Cond.instanceMethod ⟨"DoorVoice$Street", "drawYear", "(II)V"⟩ ∈ ax_T := ax_in 500 rfl rfl
set_option maxRecDepth 20000 in
theorem wv_S_drawYear : Cond.selects "DoorVoice$Street" ⟨"DoorVoice$Street", "drawYear", "(II)V"⟩ ⟨"DoorVoice$Street", "drawYear", "(II)V"⟩ ∈ ax_T := ax_in 501 rfl rfl
set_option maxRecDepth 20000 in
theorem lc_S_98 : Cond.constant "DoorVoice$Street" 98 (65537) ∈ ax_T := ax_in 503 rfl rfl
set_option maxRecDepth 20000 in
theorem lm_S_99 : Cond.methodLink "DoorVoice$Street" 99 ⟨"DoorVoice$Street", "drawnKind", "(I)I"⟩ ∈ ax_T := ax_in 504 rfl rfl
set_option maxRecDepth 20000 in
theorem ws_S_drawnKind : Cond.static ⟨"DoorVoice$Street", "drawnKind", "(I)I"⟩ ∈ ax_T := ax_in 505 rfl rfl
set_option maxRecDepth 20000 in
theorem lm_S_102 : Cond.methodLink "DoorVoice$Street" 102 ⟨"DoorVoice$Street", "whyNot", "(II)I"⟩ ∈ ax_T := ax_in 507 rfl rfl
set_option maxRecDepth 20000 in
theorem lm_S_105 : Cond.methodLink "DoorVoice$Street" 105 ⟨"DoorVoice$Street", "carryOut", "(II)V"⟩ ∈ ax_T := ax_in 508 rfl rfl
set_option maxRecDepth 20000 in
theorem lm_V_220 : Cond.methodLink "DoorVoice" 220 ⟨"DoorVoice$Street", "factsKnown", "()I"⟩ ∈ ax_T := ax_in 509 rfl rfl
set_option maxRecDepth 20000 in
theorem wi_S_factsKnown : Cond.instanceMethod ⟨"DoorVoice$Street", "factsKnown", "()I"⟩ ∈ ax_T := ax_in 510 rfl rfl
set_option maxRecDepth 20000 in
theorem wv_S_factsKnown : Cond.selects "DoorVoice$Street" ⟨"DoorVoice$Street", "factsKnown", "()I"⟩ ⟨"DoorVoice$Street", "factsKnown", "()I"⟩ ∈ ax_T := ax_in 511 rfl rfl
set_option maxRecDepth 20000 in
theorem lm_S_109 : Cond.methodLink "DoorVoice$Street" 109 ⟨"java/lang/Integer", "bitCount", "(I)I"⟩ ∈ ax_T := ax_in 513 rfl rfl
set_option maxRecDepth 20000 in
theorem lm_W_117 : Cond.methodLink "DoorVoiceLaw" 117 ⟨"DoorVoice", "image", "(I)I"⟩ ∈ ax_T := ax_in 514 rfl rfl
set_option maxRecDepth 20000 in
theorem wi_V_image : Cond.instanceMethod ⟨"DoorVoice", "image", "(I)I"⟩ ∈ ax_T := ax_in 515 rfl rfl
set_option maxRecDepth 20000 in
theorem wv_V_image : Cond.selects "DoorVoice" ⟨"DoorVoice", "image", "(I)I"⟩ ⟨"DoorVoice", "image", "(I)I"⟩ ∈ ax_T := ax_in 516 rfl rfl
set_option maxRecDepth 20000 in
theorem lm_V_223 : Cond.methodLink "DoorVoice" 223 ⟨"DoorVoice", "imageNumbered", "(I)LDoorVoice$Street;"⟩ ∈ ax_T := ax_in 518 rfl rfl
set_option maxRecDepth 20000 in
theorem wi_V_imageNumbered : Cond.instanceMethod ⟨"DoorVoice", "imageNumbered", "(I)LDoorVoice$Street;"⟩ ∈ ax_T := ax_in 520 rfl rfl
set_option maxRecDepth 20000 in
theorem lm_W_121 : Cond.methodLink "DoorVoiceLaw" 121 ⟨"DoorVoice", "restore", "(I)I"⟩ ∈ ax_T := ax_in 522 rfl rfl
set_option maxRecDepth 20000 in
theorem wi_V_restore : Cond.instanceMethod ⟨"DoorVoice", "restore", "(I)I"⟩ ∈ ax_T := ax_in 523 rfl rfl
set_option maxRecDepth 20000 in
theorem wv_V_restore : Cond.selects "DoorVoice" ⟨"DoorVoice", "restore", "(I)I"⟩ ⟨"DoorVoice", "restore", "(I)I"⟩ ∈ ax_T := ax_in 524 rfl rfl
set_option maxRecDepth 20000 in
theorem lm_W_125 : Cond.methodLink "DoorVoiceLaw" 125 ⟨"DoorVoice", "told", "(I)I"⟩ ∈ ax_T := ax_in 526 rfl rfl
set_option maxRecDepth 20000 in
theorem wi_V_told : Cond.instanceMethod ⟨"DoorVoice", "told", "(I)I"⟩ ∈ ax_T := ax_in 527 rfl rfl
set_option maxRecDepth 20000 in
theorem wv_V_told : Cond.selects "DoorVoice" ⟨"DoorVoice", "told", "(I)I"⟩ ⟨"DoorVoice", "told", "(I)I"⟩ ∈ ax_T := ax_in 528 rfl rfl
set_option maxRecDepth 20000 in
theorem lm_V_227 : Cond.methodLink "DoorVoice" 227 ⟨"DoorVoice", "toldOfAll", "(I)I"⟩ ∈ ax_T := ax_in 530 rfl rfl
set_option maxRecDepth 20000 in
theorem wi_V_toldOfAll : Cond.instanceMethod ⟨"DoorVoice", "toldOfAll", "(I)I"⟩ ∈ ax_T := ax_in 532 rfl rfl
set_option maxRecDepth 20000 in
theorem lm_V_230 : Cond.methodLink "DoorVoice" 230 ⟨"DoorVoice", "toldOfLetter", "(II)I"⟩ ∈ ax_T := ax_in 534 rfl rfl
set_option maxRecDepth 20000 in
theorem wi_V_toldOfLetter : Cond.instanceMethod ⟨"DoorVoice", "toldOfLetter", "(II)I"⟩ ∈ ax_T := ax_in 536 rfl rfl
set_option maxRecDepth 20000 in
theorem lk_W_10 : Cond.classLink "DoorVoiceLaw" 10 "DoorVoiceModel" ∈ ax_T := ax_in 538 rfl rfl
set_option maxRecDepth 20000 in
theorem wt_M : Cond.instantiable "DoorVoiceModel" 20 ∈ ax_T := ax_in 539 rfl rfl
set_option maxRecDepth 20000 in
theorem lm_W_12 : Cond.methodLink "DoorVoiceLaw" 12 ⟨"DoorVoiceModel", "<init>", "()V"⟩ ∈ ax_T := ax_in 540 rfl rfl
set_option maxRecDepth 20000 in
theorem wi_M_init : Cond.instanceMethod ⟨"DoorVoiceModel", "<init>", "()V"⟩ ∈ ax_T := ax_in 541 rfl rfl
set_option maxRecDepth 20000 in
theorem lm_M_1 : Cond.methodLink "DoorVoiceModel" 1 ⟨"java/lang/Object", "<init>", "()V"⟩ ∈ ax_T := ax_in 543 rfl rfl
set_option maxRecDepth 20000 in
theorem wa_boolean : Cond.arrayClass .boolean ∈ ax_T := ax_in 605 rfl rfl
set_option maxRecDepth 20000 in
theorem lm_W_17 : Cond.methodLink "DoorVoiceLaw" 17 ⟨"DoorVoiceModel", "house", "(IZZI)I"⟩ ∈ ax_T := ax_in 606 rfl rfl
set_option maxRecDepth 20000 in
theorem wi_M_house : Cond.instanceMethod ⟨"DoorVoiceModel", "house", "(IZZI)I"⟩ ∈ ax_T := ax_in 607 rfl rfl
set_option maxRecDepth 20000 in
theorem wv_M_house : Cond.selects "DoorVoiceModel" ⟨"DoorVoiceModel", "house", "(IZZI)I"⟩ ⟨"DoorVoiceModel", "house", "(IZZI)I"⟩ ∈ ax_T := ax_in 608 rfl rfl
set_option maxRecDepth 20000 in
theorem lm_M_56 : Cond.methodLink "DoorVoiceModel" 56 ⟨"DoorVoiceModel", "isHouse", "(I)Z"⟩ ∈ ax_T := ax_in 610 rfl rfl
set_option maxRecDepth 20000 in
theorem ws_M_isHouse : Cond.static ⟨"DoorVoiceModel", "isHouse", "(I)Z"⟩ ∈ ax_T := ax_in 611 rfl rfl
set_option maxRecDepth 20000 in
theorem lm_M_52 : Cond.methodLink "DoorVoiceModel" 52 ⟨"DoorVoiceModel", "in", "(III)Z"⟩ ∈ ax_T := ax_in 613 rfl rfl
set_option maxRecDepth 20000 in
theorem ws_M_in : Cond.static ⟨"DoorVoiceModel", "in", "(III)Z"⟩ ∈ ax_T := ax_in 614 rfl rfl
set_option maxRecDepth 20000 in
theorem lm_W_22 : Cond.methodLink "DoorVoiceLaw" 22 ⟨"DoorVoiceModel", "wall", "(II)I"⟩ ∈ ax_T := ax_in 616 rfl rfl
set_option maxRecDepth 20000 in
theorem wi_M_wall : Cond.instanceMethod ⟨"DoorVoiceModel", "wall", "(II)I"⟩ ∈ ax_T := ax_in 617 rfl rfl
set_option maxRecDepth 20000 in
theorem wv_M_wall : Cond.selects "DoorVoiceModel" ⟨"DoorVoiceModel", "wall", "(II)I"⟩ ⟨"DoorVoiceModel", "wall", "(II)I"⟩ ∈ ax_T := ax_in 618 rfl rfl
set_option maxRecDepth 20000 in
theorem lm_W_26 : Cond.methodLink "DoorVoiceLaw" 26 ⟨"DoorVoiceModel", "set", "(II)I"⟩ ∈ ax_T := ax_in 620 rfl rfl
set_option maxRecDepth 20000 in
theorem wi_M_set : Cond.instanceMethod ⟨"DoorVoiceModel", "set", "(II)I"⟩ ∈ ax_T := ax_in 621 rfl rfl
set_option maxRecDepth 20000 in
theorem wv_M_set : Cond.selects "DoorVoiceModel" ⟨"DoorVoiceModel", "set", "(II)I"⟩ ⟨"DoorVoiceModel", "set", "(II)I"⟩ ∈ ax_T := ax_in 622 rfl rfl
set_option maxRecDepth 20000 in
theorem lm_W_31 : Cond.methodLink "DoorVoiceLaw" 31 ⟨"DoorVoiceModel", "letter", "(IIIII)I"⟩ ∈ ax_T := ax_in 624 rfl rfl
set_option maxRecDepth 20000 in
theorem wi_M_letter : Cond.instanceMethod ⟨"DoorVoiceModel", "letter", "(IIIII)I"⟩ ∈ ax_T := ax_in 625 rfl rfl
set_option maxRecDepth 20000 in
theorem wv_M_letter : Cond.selects "DoorVoiceModel" ⟨"DoorVoiceModel", "letter", "(IIIII)I"⟩ ⟨"DoorVoiceModel", "letter", "(IIIII)I"⟩ ∈ ax_T := ax_in 626 rfl rfl
set_option maxRecDepth 20000 in
theorem lm_W_36 : Cond.methodLink "DoorVoiceLaw" 36 ⟨"DoorVoiceModel", "say", "(I)I"⟩ ∈ ax_T := ax_in 628 rfl rfl
set_option maxRecDepth 20000 in
theorem wi_M_say : Cond.instanceMethod ⟨"DoorVoiceModel", "say", "(I)I"⟩ ∈ ax_T := ax_in 629 rfl rfl
set_option maxRecDepth 20000 in
theorem wv_M_say : Cond.selects "DoorVoiceModel" ⟨"DoorVoiceModel", "say", "(I)I"⟩ ⟨"DoorVoiceModel", "say", "(I)I"⟩ ∈ ax_T := ax_in 630 rfl rfl
set_option maxRecDepth 20000 in
theorem lm_W_41 : Cond.methodLink "DoorVoiceLaw" 41 ⟨"DoorVoiceModel", "wipe", "()I"⟩ ∈ ax_T := ax_in 632 rfl rfl
set_option maxRecDepth 20000 in
theorem wi_M_wipe : Cond.instanceMethod ⟨"DoorVoiceModel", "wipe", "()I"⟩ ∈ ax_T := ax_in 633 rfl rfl
set_option maxRecDepth 20000 in
theorem wv_M_wipe : Cond.selects "DoorVoiceModel" ⟨"DoorVoiceModel", "wipe", "()I"⟩ ⟨"DoorVoiceModel", "wipe", "()I"⟩ ∈ ax_T := ax_in 634 rfl rfl
set_option maxRecDepth 20000 in
theorem lm_W_45 : Cond.methodLink "DoorVoiceLaw" 45 ⟨"DoorVoiceModel", "fault", "()I"⟩ ∈ ax_T := ax_in 636 rfl rfl
set_option maxRecDepth 20000 in
theorem wi_M_fault : Cond.instanceMethod ⟨"DoorVoiceModel", "fault", "()I"⟩ ∈ ax_T := ax_in 637 rfl rfl
set_option maxRecDepth 20000 in
theorem wv_M_fault : Cond.selects "DoorVoiceModel" ⟨"DoorVoiceModel", "fault", "()I"⟩ ⟨"DoorVoiceModel", "fault", "()I"⟩ ∈ ax_T := ax_in 638 rfl rfl
set_option maxRecDepth 20000 in
theorem lm_M_69 : Cond.methodLink "DoorVoiceModel" 69 ⟨"DoorVoiceModel", "faultOf", "()I"⟩ ∈ ax_T := ax_in 640 rfl rfl
set_option maxRecDepth 20000 in
theorem wi_M_faultOf : Cond.instanceMethod ⟨"DoorVoiceModel", "faultOf", "()I"⟩ ∈ ax_T := ax_in 642 rfl rfl
set_option maxRecDepth 20000 in
theorem lm_M_66 : Cond.methodLink "DoorVoiceModel" 66 ⟨"DoorVoiceModel", "isLetter", "(I)Z"⟩ ∈ ax_T := ax_in 644 rfl rfl
set_option maxRecDepth 20000 in
theorem ws_M_isLetter : Cond.static ⟨"DoorVoiceModel", "isLetter", "(I)Z"⟩ ∈ ax_T := ax_in 645 rfl rfl
set_option maxRecDepth 20000 in
theorem lm_W_49 : Cond.methodLink "DoorVoiceLaw" 49 ⟨"DoorVoiceModel", "judge", "(I)I"⟩ ∈ ax_T := ax_in 647 rfl rfl
set_option maxRecDepth 20000 in
theorem wi_M_judge : Cond.instanceMethod ⟨"DoorVoiceModel", "judge", "(I)I"⟩ ∈ ax_T := ax_in 648 rfl rfl
set_option maxRecDepth 20000 in
theorem wv_M_judge : Cond.selects "DoorVoiceModel" ⟨"DoorVoiceModel", "judge", "(I)I"⟩ ⟨"DoorVoiceModel", "judge", "(I)I"⟩ ∈ ax_T := ax_in 649 rfl rfl
set_option maxRecDepth 20000 in
theorem lm_M_110 : Cond.methodLink "DoorVoiceModel" 110 ⟨"DoorVoiceModel", "goDays", "()I"⟩ ∈ ax_T := ax_in 651 rfl rfl
set_option maxRecDepth 20000 in
theorem wi_M_goDays : Cond.instanceMethod ⟨"DoorVoiceModel", "goDays", "()I"⟩ ∈ ax_T := ax_in 653 rfl rfl
set_option maxRecDepth 20000 in
theorem lm_M_88 : Cond.methodLink "DoorVoiceModel" 88 ⟨"DoorVoiceModel", "asNow", "()V"⟩ ∈ ax_T := ax_in 655 rfl rfl
set_option maxRecDepth 20000 in
theorem wi_M_asNow : Cond.instanceMethod ⟨"DoorVoiceModel", "asNow", "()V"⟩ ∈ ax_T := ax_in 657 rfl rfl
set_option maxRecDepth 20000 in
theorem lm_M_100 : Cond.methodLink "DoorVoiceModel" 100 ⟨"DoorVoiceModel", "evening", "()I"⟩ ∈ ax_T := ax_in 659 rfl rfl
set_option maxRecDepth 20000 in
theorem wi_M_evening : Cond.instanceMethod ⟨"DoorVoiceModel", "evening", "()I"⟩ ∈ ax_T := ax_in 661 rfl rfl
set_option maxRecDepth 20000 in
theorem lm_M_77 : Cond.methodLink "DoorVoiceModel" 77 ⟨"DoorVoiceModel", "has", "(II)Z"⟩ ∈ ax_T := ax_in 663 rfl rfl
set_option maxRecDepth 20000 in
theorem ws_M_has : Cond.static ⟨"DoorVoiceModel", "has", "(II)Z"⟩ ∈ ax_T := ax_in 664 rfl rfl
set_option maxRecDepth 20000 in
theorem lm_M_103 : Cond.methodLink "DoorVoiceModel" 103 ⟨"DoorVoiceModel", "goTo", "(I)I"⟩ ∈ ax_T := ax_in 666 rfl rfl
set_option maxRecDepth 20000 in
theorem wi_M_goTo : Cond.instanceMethod ⟨"DoorVoiceModel", "goTo", "(I)I"⟩ ∈ ax_T := ax_in 668 rfl rfl
set_option maxRecDepth 20000 in
theorem lm_M_107 : Cond.methodLink "DoorVoiceModel" 107 ⟨"DoorVoiceModel", "read", "(I)I"⟩ ∈ ax_T := ax_in 670 rfl rfl
set_option maxRecDepth 20000 in
theorem wi_M_read : Cond.instanceMethod ⟨"DoorVoiceModel", "read", "(I)I"⟩ ∈ ax_T := ax_in 672 rfl rfl
set_option maxRecDepth 20000 in
theorem lm_M_81 : Cond.methodLink "DoorVoiceModel" 81 ⟨"DoorVoiceModel", "doesHear", "(III)Z"⟩ ∈ ax_T := ax_in 674 rfl rfl
set_option maxRecDepth 20000 in
theorem wi_M_doesHear : Cond.instanceMethod ⟨"DoorVoiceModel", "doesHear", "(III)Z"⟩ ∈ ax_T := ax_in 676 rfl rfl
set_option maxRecDepth 20000 in
theorem lm_M_73 : Cond.methodLink "DoorVoiceModel" 73 ⟨"DoorVoiceModel", "loudAt", "(II)I"⟩ ∈ ax_T := ax_in 678 rfl rfl
set_option maxRecDepth 20000 in
theorem wi_M_loudAt : Cond.instanceMethod ⟨"DoorVoiceModel", "loudAt", "(II)I"⟩ ∈ ax_T := ax_in 680 rfl rfl
set_option maxRecDepth 20000 in
theorem lm_W_53 : Cond.methodLink "DoorVoiceLaw" 53 ⟨"DoorVoiceModel", "done", "()I"⟩ ∈ ax_T := ax_in 682 rfl rfl
set_option maxRecDepth 20000 in
theorem wi_M_done : Cond.instanceMethod ⟨"DoorVoiceModel", "done", "()I"⟩ ∈ ax_T := ax_in 683 rfl rfl
set_option maxRecDepth 20000 in
theorem wv_M_done : Cond.selects "DoorVoiceModel" ⟨"DoorVoiceModel", "done", "()I"⟩ ⟨"DoorVoiceModel", "done", "()I"⟩ ∈ ax_T := ax_in 684 rfl rfl
set_option maxRecDepth 20000 in
theorem lm_M_113 : Cond.methodLink "DoorVoiceModel" 113 ⟨"DoorVoiceModel", "barOfDays", "()I"⟩ ∈ ax_T := ax_in 686 rfl rfl
set_option maxRecDepth 20000 in
theorem wi_M_barOfDays : Cond.instanceMethod ⟨"DoorVoiceModel", "barOfDays", "()I"⟩ ∈ ax_T := ax_in 688 rfl rfl
set_option maxRecDepth 20000 in
theorem lm_W_57 : Cond.methodLink "DoorVoiceLaw" 57 ⟨"DoorVoiceModel", "knows", "(I)I"⟩ ∈ ax_T := ax_in 690 rfl rfl
set_option maxRecDepth 20000 in
theorem wi_M_knows : Cond.instanceMethod ⟨"DoorVoiceModel", "knows", "(I)I"⟩ ∈ ax_T := ax_in 691 rfl rfl
set_option maxRecDepth 20000 in
theorem wv_M_knows : Cond.selects "DoorVoiceModel" ⟨"DoorVoiceModel", "knows", "(I)I"⟩ ⟨"DoorVoiceModel", "knows", "(I)I"⟩ ∈ ax_T := ax_in 692 rfl rfl
set_option maxRecDepth 20000 in
theorem lm_W_61 : Cond.methodLink "DoorVoiceLaw" 61 ⟨"DoorVoiceModel", "behind", "(I)I"⟩ ∈ ax_T := ax_in 694 rfl rfl
set_option maxRecDepth 20000 in
theorem wi_M_behind : Cond.instanceMethod ⟨"DoorVoiceModel", "behind", "(I)I"⟩ ∈ ax_T := ax_in 695 rfl rfl
set_option maxRecDepth 20000 in
theorem wv_M_behind : Cond.selects "DoorVoiceModel" ⟨"DoorVoiceModel", "behind", "(I)I"⟩ ⟨"DoorVoiceModel", "behind", "(I)I"⟩ ∈ ax_T := ax_in 696 rfl rfl
set_option maxRecDepth 20000 in
theorem lm_W_65 : Cond.methodLink "DoorVoiceLaw" 65 ⟨"DoorVoiceModel", "who", "(I)I"⟩ ∈ ax_T := ax_in 698 rfl rfl
set_option maxRecDepth 20000 in
theorem wi_M_who : Cond.instanceMethod ⟨"DoorVoiceModel", "who", "(I)I"⟩ ∈ ax_T := ax_in 699 rfl rfl
set_option maxRecDepth 20000 in
theorem wv_M_who : Cond.selects "DoorVoiceModel" ⟨"DoorVoiceModel", "who", "(I)I"⟩ ⟨"DoorVoiceModel", "who", "(I)I"⟩ ∈ ax_T := ax_in 700 rfl rfl
set_option maxRecDepth 20000 in
theorem lm_W_69 : Cond.methodLink "DoorVoiceLaw" 69 ⟨"DoorVoiceModel", "loud", "(II)I"⟩ ∈ ax_T := ax_in 702 rfl rfl
set_option maxRecDepth 20000 in
theorem wi_M_loud : Cond.instanceMethod ⟨"DoorVoiceModel", "loud", "(II)I"⟩ ∈ ax_T := ax_in 703 rfl rfl
set_option maxRecDepth 20000 in
theorem wv_M_loud : Cond.selects "DoorVoiceModel" ⟨"DoorVoiceModel", "loud", "(II)I"⟩ ⟨"DoorVoiceModel", "loud", "(II)I"⟩ ∈ ax_T := ax_in 704 rfl rfl
set_option maxRecDepth 20000 in
theorem lm_W_73 : Cond.methodLink "DoorVoiceLaw" 73 ⟨"DoorVoiceModel", "hears", "(I)I"⟩ ∈ ax_T := ax_in 706 rfl rfl
set_option maxRecDepth 20000 in
theorem wi_M_hears : Cond.instanceMethod ⟨"DoorVoiceModel", "hears", "(I)I"⟩ ∈ ax_T := ax_in 707 rfl rfl
set_option maxRecDepth 20000 in
theorem wv_M_hears : Cond.selects "DoorVoiceModel" ⟨"DoorVoiceModel", "hears", "(I)I"⟩ ⟨"DoorVoiceModel", "hears", "(I)I"⟩ ∈ ax_T := ax_in 708 rfl rfl
set_option maxRecDepth 20000 in
theorem lm_M_116 : Cond.methodLink "DoorVoiceModel" 116 ⟨"DoorVoiceModel", "hearers", "(II)I"⟩ ∈ ax_T := ax_in 710 rfl rfl
set_option maxRecDepth 20000 in
theorem wi_M_hearers : Cond.instanceMethod ⟨"DoorVoiceModel", "hearers", "(II)I"⟩ ∈ ax_T := ax_in 712 rfl rfl
set_option maxRecDepth 20000 in
theorem lm_W_77 : Cond.methodLink "DoorVoiceLaw" 77 ⟨"DoorVoiceModel", "best", "(II)I"⟩ ∈ ax_T := ax_in 714 rfl rfl
set_option maxRecDepth 20000 in
theorem wi_M_best : Cond.instanceMethod ⟨"DoorVoiceModel", "best", "(II)I"⟩ ∈ ax_T := ax_in 715 rfl rfl
set_option maxRecDepth 20000 in
theorem wv_M_best : Cond.selects "DoorVoiceModel" ⟨"DoorVoiceModel", "best", "(II)I"⟩ ⟨"DoorVoiceModel", "best", "(II)I"⟩ ∈ ax_T := ax_in 716 rfl rfl
set_option maxRecDepth 20000 in
theorem lc_M_119 : Cond.constant "DoorVoiceModel" 119 (1000000) ∈ ax_T := ax_in 718 rfl rfl
set_option maxRecDepth 20000 in
theorem lm_M_120 : Cond.methodLink "DoorVoiceModel" 120 ⟨"DoorVoiceModel", "bits", "(I)I"⟩ ∈ ax_T := ax_in 719 rfl rfl
set_option maxRecDepth 20000 in
theorem ws_M_bits : Cond.static ⟨"DoorVoiceModel", "bits", "(I)I"⟩ ∈ ax_T := ax_in 720 rfl rfl
set_option maxRecDepth 20000 in
theorem lm_W_81 : Cond.methodLink "DoorVoiceLaw" 81 ⟨"DoorVoiceModel", "thirds", "(II)I"⟩ ∈ ax_T := ax_in 722 rfl rfl
set_option maxRecDepth 20000 in
theorem wi_M_thirds : Cond.instanceMethod ⟨"DoorVoiceModel", "thirds", "(II)I"⟩ ∈ ax_T := ax_in 723 rfl rfl
set_option maxRecDepth 20000 in
theorem wv_M_thirds : Cond.selects "DoorVoiceModel" ⟨"DoorVoiceModel", "thirds", "(II)I"⟩ ⟨"DoorVoiceModel", "thirds", "(II)I"⟩ ∈ ax_T := ax_in 724 rfl rfl
set_option maxRecDepth 20000 in
theorem lm_M_123 : Cond.methodLink "DoorVoiceModel" 123 ⟨"DoorVoiceModel", "laySets", "()V"⟩ ∈ ax_T := ax_in 726 rfl rfl
set_option maxRecDepth 20000 in
theorem wi_M_laySets : Cond.instanceMethod ⟨"DoorVoiceModel", "laySets", "()V"⟩ ∈ ax_T := ax_in 728 rfl rfl
set_option maxRecDepth 20000 in
theorem lm_W_85 : Cond.methodLink "DoorVoiceLaw" 85 ⟨"DoorVoiceModel", "round", "(II)I"⟩ ∈ ax_T := ax_in 730 rfl rfl
set_option maxRecDepth 20000 in
theorem wi_M_round : Cond.instanceMethod ⟨"DoorVoiceModel", "round", "(II)I"⟩ ∈ ax_T := ax_in 731 rfl rfl
set_option maxRecDepth 20000 in
theorem wv_M_round : Cond.selects "DoorVoiceModel" ⟨"DoorVoiceModel", "round", "(II)I"⟩ ⟨"DoorVoiceModel", "round", "(II)I"⟩ ∈ ax_T := ax_in 732 rfl rfl
set_option maxRecDepth 20000 in
theorem lm_W_90 : Cond.methodLink "DoorVoiceLaw" 90 ⟨"DoorVoiceModel", "seen", "(IZ)I"⟩ ∈ ax_T := ax_in 734 rfl rfl
set_option maxRecDepth 20000 in
theorem wi_M_seen : Cond.instanceMethod ⟨"DoorVoiceModel", "seen", "(IZ)I"⟩ ∈ ax_T := ax_in 735 rfl rfl
set_option maxRecDepth 20000 in
theorem wv_M_seen : Cond.selects "DoorVoiceModel" ⟨"DoorVoiceModel", "seen", "(IZ)I"⟩ ⟨"DoorVoiceModel", "seen", "(IZ)I"⟩ ∈ ax_T := ax_in 736 rfl rfl
set_option maxRecDepth 20000 in
theorem lm_W_94 : Cond.methodLink "DoorVoiceLaw" 94 ⟨"DoorVoiceModel", "forget", "()I"⟩ ∈ ax_T := ax_in 738 rfl rfl
set_option maxRecDepth 20000 in
theorem wi_M_forget : Cond.instanceMethod ⟨"DoorVoiceModel", "forget", "()I"⟩ ∈ ax_T := ax_in 739 rfl rfl
set_option maxRecDepth 20000 in
theorem wv_M_forget : Cond.selects "DoorVoiceModel" ⟨"DoorVoiceModel", "forget", "()I"⟩ ⟨"DoorVoiceModel", "forget", "()I"⟩ ∈ ax_T := ax_in 740 rfl rfl
set_option maxRecDepth 20000 in
theorem lm_W_98 : Cond.methodLink "DoorVoiceLaw" 98 ⟨"DoorVoiceModel", "at", "()I"⟩ ∈ ax_T := ax_in 742 rfl rfl
set_option maxRecDepth 20000 in
theorem wi_M_at : Cond.instanceMethod ⟨"DoorVoiceModel", "at", "()I"⟩ ∈ ax_T := ax_in 743 rfl rfl
set_option maxRecDepth 20000 in
theorem wv_M_at : Cond.selects "DoorVoiceModel" ⟨"DoorVoiceModel", "at", "()I"⟩ ⟨"DoorVoiceModel", "at", "()I"⟩ ∈ ax_T := ax_in 744 rfl rfl
set_option maxRecDepth 20000 in
theorem lm_M_129 : Cond.methodLink "DoorVoiceModel" 129 ⟨"DoorVoiceModel", "atSet", "()I"⟩ ∈ ax_T := ax_in 746 rfl rfl
set_option maxRecDepth 20000 in
theorem wi_M_atSet : Cond.instanceMethod ⟨"DoorVoiceModel", "atSet", "()I"⟩ ∈ ax_T := ax_in 748 rfl rfl
set_option maxRecDepth 20000 in
theorem lm_W_102 : Cond.methodLink "DoorVoiceLaw" 102 ⟨"DoorVoiceModel", "ask", "(I)I"⟩ ∈ ax_T := ax_in 750 rfl rfl
set_option maxRecDepth 20000 in
theorem wi_M_ask : Cond.instanceMethod ⟨"DoorVoiceModel", "ask", "(I)I"⟩ ∈ ax_T := ax_in 751 rfl rfl
set_option maxRecDepth 20000 in
theorem wv_M_ask : Cond.selects "DoorVoiceModel" ⟨"DoorVoiceModel", "ask", "(I)I"⟩ ⟨"DoorVoiceModel", "ask", "(I)I"⟩ ∈ ax_T := ax_in 752 rfl rfl
set_option maxRecDepth 20000 in
theorem lm_W_106 : Cond.methodLink "DoorVoiceLaw" 106 ⟨"DoorVoiceModel", "rumour", "(II)I"⟩ ∈ ax_T := ax_in 754 rfl rfl
set_option maxRecDepth 20000 in
theorem wi_M_rumour : Cond.instanceMethod ⟨"DoorVoiceModel", "rumour", "(II)I"⟩ ∈ ax_T := ax_in 755 rfl rfl
set_option maxRecDepth 20000 in
theorem wv_M_rumour : Cond.selects "DoorVoiceModel" ⟨"DoorVoiceModel", "rumour", "(II)I"⟩ ⟨"DoorVoiceModel", "rumour", "(II)I"⟩ ∈ ax_T := ax_in 756 rfl rfl
set_option maxRecDepth 20000 in
theorem lm_M_132 : Cond.methodLink "DoorVoiceModel" 132 ⟨"DoorVoiceModel", "spread", "(I)I"⟩ ∈ ax_T := ax_in 758 rfl rfl
set_option maxRecDepth 20000 in
theorem wi_M_spread : Cond.instanceMethod ⟨"DoorVoiceModel", "spread", "(I)I"⟩ ∈ ax_T := ax_in 760 rfl rfl
set_option maxRecDepth 20000 in
theorem lm_W_111 : Cond.methodLink "DoorVoiceLaw" 111 ⟨"DoorVoiceModel", "chance", "(IIII)J"⟩ ∈ ax_T := ax_in 762 rfl rfl
set_option maxRecDepth 20000 in
theorem wi_M_chance : Cond.instanceMethod ⟨"DoorVoiceModel", "chance", "(IIII)J"⟩ ∈ ax_T := ax_in 763 rfl rfl
set_option maxRecDepth 20000 in
theorem wv_M_chance : Cond.selects "DoorVoiceModel" ⟨"DoorVoiceModel", "chance", "(IIII)J"⟩ ⟨"DoorVoiceModel", "chance", "(IIII)J"⟩ ∈ ax_T := ax_in 764 rfl rfl
set_option maxRecDepth 20000 in
theorem lc_M_135 : Cond.constantLong "DoorVoiceModel" 135 (-1000000000000000001) ∈ ax_T := ax_in 766 rfl rfl
set_option maxRecDepth 20000 in
theorem lc_M_137 : Cond.constantLong "DoorVoiceModel" 137 (-1000000000000000002) ∈ ax_T := ax_in 767 rfl rfl
set_option maxRecDepth 20000 in
theorem lc_M_139 : Cond.constantLong "DoorVoiceModel" 139 (10) ∈ ax_T := ax_in 768 rfl rfl
set_option maxRecDepth 20000 in
theorem lm_W_116 : Cond.methodLink "DoorVoiceLaw" 116 ⟨"DoorVoiceModel", "year", "(III)I"⟩ ∈ ax_T := ax_in 769 rfl rfl
set_option maxRecDepth 20000 in
theorem wi_M_year : Cond.instanceMethod ⟨"DoorVoiceModel", "year", "(III)I"⟩ ∈ ax_T := ax_in 770 rfl rfl
set_option maxRecDepth 20000 in
theorem wv_M_year : Cond.selects "DoorVoiceModel" ⟨"DoorVoiceModel", "year", "(III)I"⟩ ⟨"DoorVoiceModel", "year", "(III)I"⟩ ∈ ax_T := ax_in 771 rfl rfl
set_option maxRecDepth 20000 in
theorem lc_M_141 : Cond.constant "DoorVoiceModel" 141 (65537) ∈ ax_T := ax_in 773 rfl rfl
set_option maxRecDepth 20000 in
theorem lm_W_120 : Cond.methodLink "DoorVoiceLaw" 120 ⟨"DoorVoiceModel", "image", "(I)I"⟩ ∈ ax_T := ax_in 774 rfl rfl
set_option maxRecDepth 20000 in
theorem wi_M_image : Cond.instanceMethod ⟨"DoorVoiceModel", "image", "(I)I"⟩ ∈ ax_T := ax_in 775 rfl rfl
set_option maxRecDepth 20000 in
theorem wv_M_image : Cond.selects "DoorVoiceModel" ⟨"DoorVoiceModel", "image", "(I)I"⟩ ⟨"DoorVoiceModel", "image", "(I)I"⟩ ∈ ax_T := ax_in 776 rfl rfl
set_option maxRecDepth 20000 in
theorem lm_W_124 : Cond.methodLink "DoorVoiceLaw" 124 ⟨"DoorVoiceModel", "restore", "(I)I"⟩ ∈ ax_T := ax_in 778 rfl rfl
set_option maxRecDepth 20000 in
theorem wi_M_restore : Cond.instanceMethod ⟨"DoorVoiceModel", "restore", "(I)I"⟩ ∈ ax_T := ax_in 779 rfl rfl
set_option maxRecDepth 20000 in
theorem wv_M_restore : Cond.selects "DoorVoiceModel" ⟨"DoorVoiceModel", "restore", "(I)I"⟩ ⟨"DoorVoiceModel", "restore", "(I)I"⟩ ∈ ax_T := ax_in 780 rfl rfl
set_option maxRecDepth 20000 in
theorem lm_W_128 : Cond.methodLink "DoorVoiceLaw" 128 ⟨"DoorVoiceModel", "told", "(I)I"⟩ ∈ ax_T := ax_in 782 rfl rfl
set_option maxRecDepth 20000 in
theorem wi_M_told : Cond.instanceMethod ⟨"DoorVoiceModel", "told", "(I)I"⟩ ∈ ax_T := ax_in 783 rfl rfl
set_option maxRecDepth 20000 in
theorem wv_M_told : Cond.selects "DoorVoiceModel" ⟨"DoorVoiceModel", "told", "(I)I"⟩ ⟨"DoorVoiceModel", "told", "(I)I"⟩ ∈ ax_T := ax_in 784 rfl rfl
set_option maxRecDepth 20000 in
theorem wv_V_setVoice : Cond.selects "DoorVoice" ⟨"DoorVoice", "setVoice", "(I)I"⟩ ⟨"DoorVoice", "setVoice", "(I)I"⟩ ∈ ax_T := ax_in 0 rfl rfl
set_option maxRecDepth 20000 in
theorem wv_V_setWind : Cond.selects "DoorVoice" ⟨"DoorVoice", "setWind", "(I)I"⟩ ⟨"DoorVoice", "setWind", "(I)I"⟩ ∈ ax_T := ax_in 1 rfl rfl
set_option maxRecDepth 20000 in
theorem wv_V_setPlace : Cond.selects "DoorVoice" ⟨"DoorVoice", "setPlace", "(I)I"⟩ ⟨"DoorVoice", "setPlace", "(I)I"⟩ ∈ ax_T := ax_in 2 rfl rfl
set_option maxRecDepth 20000 in
theorem wv_P_playAct : Cond.selects "DoorVoice$Pad" ⟨"DoorVoice$Pad", "playAct", "(LDoorVoice$Street;II)V"⟩ ⟨"DoorVoice$Pad", "playAct", "(LDoorVoice$Street;II)V"⟩ ∈ ax_T := ax_in 3 rfl rfl
set_option maxRecDepth 20000 in
theorem wv_S_reached : Cond.selects "DoorVoice$Street" ⟨"DoorVoice$Street", "reached", "(II)I"⟩ ⟨"DoorVoice$Street", "reached", "(II)I"⟩ ∈ ax_T := ax_in 4 rfl rfl
set_option maxRecDepth 20000 in
theorem wv_S_readOut : Cond.selects "DoorVoice$Street" ⟨"DoorVoice$Street", "readOut", "(I)V"⟩ ⟨"DoorVoice$Street", "readOut", "(I)V"⟩ ∈ ax_T := ax_in 5 rfl rfl
set_option maxRecDepth 20000 in
theorem wv_S_passEvening : Cond.selects "DoorVoice$Street" ⟨"DoorVoice$Street", "passEvening", "()V"⟩ ⟨"DoorVoice$Street", "passEvening", "()V"⟩ ∈ ax_T := ax_in 6 rfl rfl
set_option maxRecDepth 20000 in
theorem wv_S_tellsEastward : Cond.selects "DoorVoice$Street" ⟨"DoorVoice$Street", "tellsEastward", "(I)Z"⟩ ⟨"DoorVoice$Street", "tellsEastward", "(I)Z"⟩ ∈ ax_T := ax_in 7 rfl rfl
set_option maxRecDepth 20000 in
theorem wv_L_placesFor : Cond.selects "DoorVoice$Listener" ⟨"DoorVoice$Listener", "placesFor", "(I)I"⟩ ⟨"DoorVoice$Listener", "placesFor", "(I)I"⟩ ∈ ax_T := ax_in 8 rfl rfl
set_option maxRecDepth 20000 in
theorem wv_L_allCanBeRead : Cond.selects "DoorVoice$Listener" ⟨"DoorVoice$Listener", "allCanBeRead", "(LDoorVoice$Street;III)Z"⟩ ⟨"DoorVoice$Listener", "allCanBeRead", "(LDoorVoice$Street;III)Z"⟩ ∈ ax_T := ax_in 9 rfl rfl
set_option maxRecDepth 20000 in
theorem wv_S_toldOnward : Cond.selects "DoorVoice$Street" ⟨"DoorVoice$Street", "toldOnward", "(I)I"⟩ ⟨"DoorVoice$Street", "toldOnward", "(I)I"⟩ ∈ ax_T := ax_in 10 rfl rfl
set_option maxRecDepth 20000 in
theorem wv_C_putLowest : Cond.selects "DoorVoice$Chances" ⟨"DoorVoice$Chances", "putLowest", "(JJ)V"⟩ ⟨"DoorVoice$Chances", "putLowest", "(JJ)V"⟩ ∈ ax_T := ax_in 11 rfl rfl
set_option maxRecDepth 20000 in
theorem wv_C_countWays : Cond.selects "DoorVoice$Chances" ⟨"DoorVoice$Chances", "countWays", "(I)V"⟩ ⟨"DoorVoice$Chances", "countWays", "(I)V"⟩ ∈ ax_T := ax_in 12 rfl rfl
set_option maxRecDepth 20000 in
theorem wv_V_imageNumbered : Cond.selects "DoorVoice" ⟨"DoorVoice", "imageNumbered", "(I)LDoorVoice$Street;"⟩ ⟨"DoorVoice", "imageNumbered", "(I)LDoorVoice$Street;"⟩ ∈ ax_T := ax_in 13 rfl rfl
set_option maxRecDepth 20000 in
theorem wv_V_toldOfAll : Cond.selects "DoorVoice" ⟨"DoorVoice", "toldOfAll", "(I)I"⟩ ⟨"DoorVoice", "toldOfAll", "(I)I"⟩ ∈ ax_T := ax_in 14 rfl rfl
set_option maxRecDepth 20000 in
theorem wv_V_toldOfLetter : Cond.selects "DoorVoice" ⟨"DoorVoice", "toldOfLetter", "(II)I"⟩ ⟨"DoorVoice", "toldOfLetter", "(II)I"⟩ ∈ ax_T := ax_in 15 rfl rfl
set_option maxRecDepth 20000 in
theorem wv_M_faultOf : Cond.selects "DoorVoiceModel" ⟨"DoorVoiceModel", "faultOf", "()I"⟩ ⟨"DoorVoiceModel", "faultOf", "()I"⟩ ∈ ax_T := ax_in 16 rfl rfl
set_option maxRecDepth 20000 in
theorem wv_M_goDays : Cond.selects "DoorVoiceModel" ⟨"DoorVoiceModel", "goDays", "()I"⟩ ⟨"DoorVoiceModel", "goDays", "()I"⟩ ∈ ax_T := ax_in 17 rfl rfl
set_option maxRecDepth 20000 in
theorem wv_M_asNow : Cond.selects "DoorVoiceModel" ⟨"DoorVoiceModel", "asNow", "()V"⟩ ⟨"DoorVoiceModel", "asNow", "()V"⟩ ∈ ax_T := ax_in 18 rfl rfl
set_option maxRecDepth 20000 in
theorem wv_M_evening : Cond.selects "DoorVoiceModel" ⟨"DoorVoiceModel", "evening", "()I"⟩ ⟨"DoorVoiceModel", "evening", "()I"⟩ ∈ ax_T := ax_in 19 rfl rfl
set_option maxRecDepth 20000 in
theorem wv_M_goTo : Cond.selects "DoorVoiceModel" ⟨"DoorVoiceModel", "goTo", "(I)I"⟩ ⟨"DoorVoiceModel", "goTo", "(I)I"⟩ ∈ ax_T := ax_in 20 rfl rfl
set_option maxRecDepth 20000 in
theorem wv_M_read : Cond.selects "DoorVoiceModel" ⟨"DoorVoiceModel", "read", "(I)I"⟩ ⟨"DoorVoiceModel", "read", "(I)I"⟩ ∈ ax_T := ax_in 21 rfl rfl
set_option maxRecDepth 20000 in
theorem wv_M_doesHear : Cond.selects "DoorVoiceModel" ⟨"DoorVoiceModel", "doesHear", "(III)Z"⟩ ⟨"DoorVoiceModel", "doesHear", "(III)Z"⟩ ∈ ax_T := ax_in 22 rfl rfl
set_option maxRecDepth 20000 in
theorem wv_M_loudAt : Cond.selects "DoorVoiceModel" ⟨"DoorVoiceModel", "loudAt", "(II)I"⟩ ⟨"DoorVoiceModel", "loudAt", "(II)I"⟩ ∈ ax_T := ax_in 23 rfl rfl
set_option maxRecDepth 20000 in
theorem wv_M_barOfDays : Cond.selects "DoorVoiceModel" ⟨"DoorVoiceModel", "barOfDays", "()I"⟩ ⟨"DoorVoiceModel", "barOfDays", "()I"⟩ ∈ ax_T := ax_in 24 rfl rfl
set_option maxRecDepth 20000 in
theorem wv_M_hearers : Cond.selects "DoorVoiceModel" ⟨"DoorVoiceModel", "hearers", "(II)I"⟩ ⟨"DoorVoiceModel", "hearers", "(II)I"⟩ ∈ ax_T := ax_in 25 rfl rfl
set_option maxRecDepth 20000 in
theorem wv_M_laySets : Cond.selects "DoorVoiceModel" ⟨"DoorVoiceModel", "laySets", "()V"⟩ ⟨"DoorVoiceModel", "laySets", "()V"⟩ ∈ ax_T := ax_in 26 rfl rfl
set_option maxRecDepth 20000 in
theorem wv_M_atSet : Cond.selects "DoorVoiceModel" ⟨"DoorVoiceModel", "atSet", "()I"⟩ ⟨"DoorVoiceModel", "atSet", "()I"⟩ ∈ ax_T := ax_in 27 rfl rfl
set_option maxRecDepth 20000 in
theorem wv_M_spread : Cond.selects "DoorVoiceModel" ⟨"DoorVoiceModel", "spread", "(I)I"⟩ ⟨"DoorVoiceModel", "spread", "(I)I"⟩ ∈ ax_T := ax_in 28 rfl rfl
def ax_N : List (String × Nat × MethodName × String) := [("DoorVoice", 9, ⟨"DoorVoice$Street", "<init>", "()V"⟩, "DoorVoice"), ("DoorVoice", 27, ⟨"DoorVoice$Pad", "<init>", "()V"⟩, "DoorVoice"), ("DoorVoice", 34, ⟨"DoorVoice$Listener", "<init>", "()V"⟩, "DoorVoice"), ("DoorVoice", 41, ⟨"DoorVoice$Chances", "<init>", "()V"⟩, "DoorVoice"), ("DoorVoice$Street", 76, ⟨"DoorVoice", "hasBit", "(II)Z"⟩, "DoorVoice"), ("DoorVoice$Pad", 76, ⟨"DoorVoice", "hasBit", "(II)Z"⟩, "DoorVoice"), ("DoorVoice$Listener", 32, ⟨"DoorVoice", "hasBit", "(II)Z"⟩, "DoorVoice")]
set_option maxRecDepth 20000 in
theorem ax_N_in : ∀ q ∈ ax_N, Cond.methodLinkNest q.1 q.2.1 q.2.2.1 q.2.2.2 ∈ lw_tbl := by
  intro q hq
  simp only [ax_N, List.mem_cons, List.not_mem_nil, or_false] at hq
  rcases hq with rfl | rfl | rfl | rfl | rfl | rfl | rfl
  · exact List.mem_of_getElem? (i := 49) rfl
  · exact List.mem_of_getElem? (i := 129) rfl
  · exact List.mem_of_getElem? (i := 159) rfl
  · exact List.mem_of_getElem? (i := 172) rfl
  · exact List.mem_of_getElem? (i := 308) rfl
  · exact List.mem_of_getElem? (i := 322) rfl
  · exact List.mem_of_getElem? (i := 387) rfl
set_option maxRecDepth 20000 in
theorem ln_V_9 : ("DoorVoice", 9, (⟨"DoorVoice$Street", "<init>", "()V"⟩ : MethodName), "DoorVoice") ∈ ax_N := List.mem_of_getElem? (i := 0) rfl
set_option maxRecDepth 20000 in
theorem ln_V_27 : ("DoorVoice", 27, (⟨"DoorVoice$Pad", "<init>", "()V"⟩ : MethodName), "DoorVoice") ∈ ax_N := List.mem_of_getElem? (i := 1) rfl
set_option maxRecDepth 20000 in
theorem ln_V_34 : ("DoorVoice", 34, (⟨"DoorVoice$Listener", "<init>", "()V"⟩ : MethodName), "DoorVoice") ∈ ax_N := List.mem_of_getElem? (i := 2) rfl
set_option maxRecDepth 20000 in
theorem ln_V_41 : ("DoorVoice", 41, (⟨"DoorVoice$Chances", "<init>", "()V"⟩ : MethodName), "DoorVoice") ∈ ax_N := List.mem_of_getElem? (i := 3) rfl
set_option maxRecDepth 20000 in
theorem ln_S_76 : ("DoorVoice$Street", 76, (⟨"DoorVoice", "hasBit", "(II)Z"⟩ : MethodName), "DoorVoice") ∈ ax_N := List.mem_of_getElem? (i := 4) rfl
set_option maxRecDepth 20000 in
theorem ln_P_76 : ("DoorVoice$Pad", 76, (⟨"DoorVoice", "hasBit", "(II)Z"⟩ : MethodName), "DoorVoice") ∈ ax_N := List.mem_of_getElem? (i := 5) rfl
set_option maxRecDepth 20000 in
theorem ln_L_32 : ("DoorVoice$Listener", 32, (⟨"DoorVoice", "hasBit", "(II)Z"⟩ : MethodName), "DoorVoice") ∈ ax_N := List.mem_of_getElem? (i := 6) rfl
