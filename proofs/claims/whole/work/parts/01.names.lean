-- ===== PART A: goes FIRST, ahead of the names: the tables' words, and 'selects' of the private methods out of them =====
/-- a private method of a class that the tables say can be made, by its rows of tables_1 -/
def lw_okq (q : MethodName × Nat) : Prop := (q.1.cls ≠ "java/lang/invoke/MethodHandle" ∧ q.1.cls ≠ "java/lang/invoke/VarHandle") ∧ Cond.instantiable q.1.cls q.2 ∈ tables_1 ∧ Cond.privateMethod q.1 ∈ tables_1 ∧ Cond.instanceMethod q.1 ∈ tables_1
theorem lw_p0 : lw_okq (⟨"BathHouse", "endMinute", "()V"⟩, 10) := ⟨⟨by decide +kernel, by decide +kernel⟩, List.mem_of_getElem? (i := 14) (by decide +kernel), List.mem_of_getElem? (i := 241) (by decide +kernel), List.mem_of_getElem? (i := 242) (by decide +kernel)⟩
theorem lw_p1 : lw_okq (⟨"BathHouse", "poolOf", "(I)LBathHouse$Pool;"⟩, 10) := ⟨⟨by decide +kernel, by decide +kernel⟩, List.mem_of_getElem? (i := 14) (by decide +kernel), List.mem_of_getElem? (i := 290) (by decide +kernel), List.mem_of_getElem? (i := 291) (by decide +kernel)⟩
theorem lw_p2 : lw_okq (⟨"BathHouse", "isTicketSold", "(LBathHouse$Pool;II)Z"⟩, 10) := ⟨⟨by decide +kernel, by decide +kernel⟩, List.mem_of_getElem? (i := 14) (by decide +kernel), List.mem_of_getElem? (i := 294) (by decide +kernel), List.mem_of_getElem? (i := 295) (by decide +kernel)⟩
theorem lw_p3 : lw_okq (⟨"BathHouse", "clubOf", "(I)LBathHouse$Club;"⟩, 10) := ⟨⟨by decide +kernel, by decide +kernel⟩, List.mem_of_getElem? (i := 14) (by decide +kernel), List.mem_of_getElem? (i := 301) (by decide +kernel), List.mem_of_getElem? (i := 302) (by decide +kernel)⟩
theorem lw_p4 : lw_okq (⟨"BathHouse", "lowestClash", "(LBathHouse$Club;)I"⟩, 10) := ⟨⟨by decide +kernel, by decide +kernel⟩, List.mem_of_getElem? (i := 14) (by decide +kernel), List.mem_of_getElem? (i := 408) (by decide +kernel), List.mem_of_getElem? (i := 409) (by decide +kernel)⟩
theorem lw_p5 : lw_okq (⟨"BathHouse", "ticketOf", "(I)LBathHouse$Ticket;"⟩, 10) := ⟨⟨by decide +kernel, by decide +kernel⟩, List.mem_of_getElem? (i := 14) (by decide +kernel), List.mem_of_getElem? (i := 432) (by decide +kernel), List.mem_of_getElem? (i := 433) (by decide +kernel)⟩
theorem lw_p6 : lw_okq (⟨"BathHouse", "reasonAgainst", "(LBathHouse$Ticket;)I"⟩, 10) := ⟨⟨by decide +kernel, by decide +kernel⟩, List.mem_of_getElem? (i := 14) (by decide +kernel), List.mem_of_getElem? (i := 436) (by decide +kernel), List.mem_of_getElem? (i := 437) (by decide +kernel)⟩
theorem lw_p7 : lw_okq (⟨"BathHouse", "reasonAgainstHead", "(LBathHouse$Ticket;)I"⟩, 10) := ⟨⟨by decide +kernel, by decide +kernel⟩, List.mem_of_getElem? (i := 14) (by decide +kernel), List.mem_of_getElem? (i := 440) (by decide +kernel), List.mem_of_getElem? (i := 441) (by decide +kernel)⟩
theorem lw_p8 : lw_okq (⟨"BathHouse", "freeLanes", "(LBathHouse$Pool;)I"⟩, 10) := ⟨⟨by decide +kernel, by decide +kernel⟩, List.mem_of_getElem? (i := 14) (by decide +kernel), List.mem_of_getElem? (i := 523) (by decide +kernel), List.mem_of_getElem? (i := 524) (by decide +kernel)⟩
theorem lw_p9 : lw_okq (⟨"BathHouse", "thingOf", "(II)LBathHouse$Thing;"⟩, 10) := ⟨⟨by decide +kernel, by decide +kernel⟩, List.mem_of_getElem? (i := 14) (by decide +kernel), List.mem_of_getElem? (i := 539) (by decide +kernel), List.mem_of_getElem? (i := 540) (by decide +kernel)⟩
theorem lw_p10 : lw_okq (⟨"BathHouse", "postOf", "(II)LBathHouse$Post;"⟩, 10) := ⟨⟨by decide +kernel, by decide +kernel⟩, List.mem_of_getElem? (i := 14) (by decide +kernel), List.mem_of_getElem? (i := 575) (by decide +kernel), List.mem_of_getElem? (i := 576) (by decide +kernel)⟩
theorem lw_p11 : lw_okq (⟨"BathHouse$PumpHours", "takeNext", "()V"⟩, 4) := ⟨⟨by decide +kernel, by decide +kernel⟩, List.mem_of_getElem? (i := 45) (by decide +kernel), List.mem_of_getElem? (i := 644) (by decide +kernel), List.mem_of_getElem? (i := 645) (by decide +kernel)⟩
theorem lw_p12 : lw_okq (⟨"BathHouse", "insideAllPools", "()I"⟩, 10) := ⟨⟨by decide +kernel, by decide +kernel⟩, List.mem_of_getElem? (i := 14) (by decide +kernel), List.mem_of_getElem? (i := 660) (by decide +kernel), List.mem_of_getElem? (i := 661) (by decide +kernel)⟩
theorem lw_p13 : lw_okq (⟨"BathHouseModel", "reasons", "(I)I"⟩, 48) := ⟨⟨by decide +kernel, by decide +kernel⟩, List.mem_of_getElem? (i := 668) (by decide +kernel), List.mem_of_getElem? (i := 830) (by decide +kernel), List.mem_of_getElem? (i := 831) (by decide +kernel)⟩
theorem lw_p14 : lw_okq (⟨"BathHouseModel", "isFilled", "(I)Z"⟩, 48) := ⟨⟨by decide +kernel, by decide +kernel⟩, List.mem_of_getElem? (i := 668) (by decide +kernel), List.mem_of_getElem? (i := 834) (by decide +kernel), List.mem_of_getElem? (i := 835) (by decide +kernel)⟩
theorem lw_p15 : lw_okq (⟨"BathHouseModel", "leastNow", "(I)I"⟩, 48) := ⟨⟨by decide +kernel, by decide +kernel⟩, List.mem_of_getElem? (i := 668) (by decide +kernel), List.mem_of_getElem? (i := 838) (by decide +kernel), List.mem_of_getElem? (i := 839) (by decide +kernel)⟩
def lw_privs_1 : List (MethodName × Nat) := [(⟨"BathHouse", "endMinute", "()V"⟩, 10), (⟨"BathHouse", "poolOf", "(I)LBathHouse$Pool;"⟩, 10), (⟨"BathHouse", "isTicketSold", "(LBathHouse$Pool;II)Z"⟩, 10), (⟨"BathHouse", "clubOf", "(I)LBathHouse$Club;"⟩, 10), (⟨"BathHouse", "lowestClash", "(LBathHouse$Club;)I"⟩, 10), (⟨"BathHouse", "ticketOf", "(I)LBathHouse$Ticket;"⟩, 10), (⟨"BathHouse", "reasonAgainst", "(LBathHouse$Ticket;)I"⟩, 10), (⟨"BathHouse", "reasonAgainstHead", "(LBathHouse$Ticket;)I"⟩, 10), (⟨"BathHouse", "freeLanes", "(LBathHouse$Pool;)I"⟩, 10), (⟨"BathHouse", "thingOf", "(II)LBathHouse$Thing;"⟩, 10), (⟨"BathHouse", "postOf", "(II)LBathHouse$Post;"⟩, 10), (⟨"BathHouse$PumpHours", "takeNext", "()V"⟩, 4), (⟨"BathHouse", "insideAllPools", "()I"⟩, 10), (⟨"BathHouseModel", "reasons", "(I)I"⟩, 48), (⟨"BathHouseModel", "isFilled", "(I)Z"⟩, 48), (⟨"BathHouseModel", "leastNow", "(I)I"⟩, 48)]
theorem lw_r1 : ∀ q ∈ lw_privs_1, lw_okq q := List.forall_mem_cons.mpr ⟨lw_p0, List.forall_mem_cons.mpr ⟨lw_p1, List.forall_mem_cons.mpr ⟨lw_p2, List.forall_mem_cons.mpr ⟨lw_p3, List.forall_mem_cons.mpr ⟨lw_p4, List.forall_mem_cons.mpr ⟨lw_p5, List.forall_mem_cons.mpr ⟨lw_p6, List.forall_mem_cons.mpr ⟨lw_p7, List.forall_mem_cons.mpr ⟨lw_p8, List.forall_mem_cons.mpr ⟨lw_p9, List.forall_mem_cons.mpr ⟨lw_p10, List.forall_mem_cons.mpr ⟨lw_p11, List.forall_mem_cons.mpr ⟨lw_p12, List.forall_mem_cons.mpr ⟨lw_p13, List.forall_mem_cons.mpr ⟨lw_p14, List.forall_mem_cons.mpr ⟨lw_p15, fun _ h => absurd h List.not_mem_nil⟩⟩⟩⟩⟩⟩⟩⟩⟩⟩⟩⟩⟩⟩⟩⟩
theorem lw_p16 : lw_okq (⟨"BathHouseModel", "mostNow", "(I)I"⟩, 48) := ⟨⟨by decide +kernel, by decide +kernel⟩, List.mem_of_getElem? (i := 668) (by decide +kernel), List.mem_of_getElem? (i := 842) (by decide +kernel), List.mem_of_getElem? (i := 843) (by decide +kernel)⟩
theorem lw_p17 : lw_okq (⟨"BathHouseModel", "begins", "(III)V"⟩, 48) := ⟨⟨by decide +kernel, by decide +kernel⟩, List.mem_of_getElem? (i := 668) (by decide +kernel), List.mem_of_getElem? (i := 846) (by decide +kernel), List.mem_of_getElem? (i := 847) (by decide +kernel)⟩
theorem lw_p18 : lw_okq (⟨"BathHouseModel", "has", "(I)Z"⟩, 48) := ⟨⟨by decide +kernel, by decide +kernel⟩, List.mem_of_getElem? (i := 668) (by decide +kernel), List.mem_of_getElem? (i := 854) (by decide +kernel), List.mem_of_getElem? (i := 855) (by decide +kernel)⟩
theorem lw_p19 : lw_okq (⟨"BathHouseModel", "truth", "(IZ)I"⟩, 48) := ⟨⟨by decide +kernel, by decide +kernel⟩, List.mem_of_getElem? (i := 668) (by decide +kernel), List.mem_of_getElem? (i := 862) (by decide +kernel), List.mem_of_getElem? (i := 863) (by decide +kernel)⟩
theorem lw_p20 : lw_okq (⟨"BathHouseModel", "isTicket", "(I)Z"⟩, 48) := ⟨⟨by decide +kernel, by decide +kernel⟩, List.mem_of_getElem? (i := 668) (by decide +kernel), List.mem_of_getElem? (i := 913) (by decide +kernel), List.mem_of_getElem? (i := 914) (by decide +kernel)⟩
theorem lw_p21 : lw_okq (⟨"BathHouseModel", "isClubbed", "(I)Z"⟩, 48) := ⟨⟨by decide +kernel, by decide +kernel⟩, List.mem_of_getElem? (i := 668) (by decide +kernel), List.mem_of_getElem? (i := 917) (by decide +kernel), List.mem_of_getElem? (i := 918) (by decide +kernel)⟩
theorem lw_p22 : lw_okq (⟨"BathHouseModel", "isThere", "(I)Z"⟩, 48) := ⟨⟨by decide +kernel, by decide +kernel⟩, List.mem_of_getElem? (i := 668) (by decide +kernel), List.mem_of_getElem? (i := 921) (by decide +kernel), List.mem_of_getElem? (i := 922) (by decide +kernel)⟩
theorem lw_p23 : lw_okq (⟨"BathHouseModel", "inSchool", "(IZ)I"⟩, 48) := ⟨⟨by decide +kernel, by decide +kernel⟩, List.mem_of_getElem? (i := 668) (by decide +kernel), List.mem_of_getElem? (i := 925) (by decide +kernel), List.mem_of_getElem? (i := 926) (by decide +kernel)⟩
theorem lw_p24 : lw_okq (⟨"BathHouseModel", "beyond", "(I)I"⟩, 48) := ⟨⟨by decide +kernel, by decide +kernel⟩, List.mem_of_getElem? (i := 668) (by decide +kernel), List.mem_of_getElem? (i := 938) (by decide +kernel), List.mem_of_getElem? (i := 939) (by decide +kernel)⟩
theorem lw_p25 : lw_okq (⟨"BathHouseModel", "isTimed", "(I)Z"⟩, 48) := ⟨⟨by decide +kernel, by decide +kernel⟩, List.mem_of_getElem? (i := 668) (by decide +kernel), List.mem_of_getElem? (i := 942) (by decide +kernel), List.mem_of_getElem? (i := 943) (by decide +kernel)⟩
theorem lw_p26 : lw_okq (⟨"BathHouseModel", "leaves", "(I)V"⟩, 48) := ⟨⟨by decide +kernel, by decide +kernel⟩, List.mem_of_getElem? (i := 668) (by decide +kernel), List.mem_of_getElem? (i := 946) (by decide +kernel), List.mem_of_getElem? (i := 947) (by decide +kernel)⟩
theorem lw_p27 : lw_okq (⟨"BathHouseModel", "lockerOf", "(I)I"⟩, 48) := ⟨⟨by decide +kernel, by decide +kernel⟩, List.mem_of_getElem? (i := 668) (by decide +kernel), List.mem_of_getElem? (i := 950) (by decide +kernel), List.mem_of_getElem? (i := 951) (by decide +kernel)⟩
theorem lw_p28 : lw_okq (⟨"BathHouseModel", "isFree", "(II)Z"⟩, 48) := ⟨⟨by decide +kernel, by decide +kernel⟩, List.mem_of_getElem? (i := 668) (by decide +kernel), List.mem_of_getElem? (i := 982) (by decide +kernel), List.mem_of_getElem? (i := 983) (by decide +kernel)⟩
def lw_privs_2 : List (MethodName × Nat) := [(⟨"BathHouseModel", "mostNow", "(I)I"⟩, 48), (⟨"BathHouseModel", "begins", "(III)V"⟩, 48), (⟨"BathHouseModel", "has", "(I)Z"⟩, 48), (⟨"BathHouseModel", "truth", "(IZ)I"⟩, 48), (⟨"BathHouseModel", "isTicket", "(I)Z"⟩, 48), (⟨"BathHouseModel", "isClubbed", "(I)Z"⟩, 48), (⟨"BathHouseModel", "isThere", "(I)Z"⟩, 48), (⟨"BathHouseModel", "inSchool", "(IZ)I"⟩, 48), (⟨"BathHouseModel", "beyond", "(I)I"⟩, 48), (⟨"BathHouseModel", "isTimed", "(I)Z"⟩, 48), (⟨"BathHouseModel", "leaves", "(I)V"⟩, 48), (⟨"BathHouseModel", "lockerOf", "(I)I"⟩, 48), (⟨"BathHouseModel", "isFree", "(II)Z"⟩, 48)]
theorem lw_r2 : ∀ q ∈ lw_privs_2, lw_okq q := List.forall_mem_cons.mpr ⟨lw_p16, List.forall_mem_cons.mpr ⟨lw_p17, List.forall_mem_cons.mpr ⟨lw_p18, List.forall_mem_cons.mpr ⟨lw_p19, List.forall_mem_cons.mpr ⟨lw_p20, List.forall_mem_cons.mpr ⟨lw_p21, List.forall_mem_cons.mpr ⟨lw_p22, List.forall_mem_cons.mpr ⟨lw_p23, List.forall_mem_cons.mpr ⟨lw_p24, List.forall_mem_cons.mpr ⟨lw_p25, List.forall_mem_cons.mpr ⟨lw_p26, List.forall_mem_cons.mpr ⟨lw_p27, List.forall_mem_cons.mpr ⟨lw_p28, fun _ h => absurd h List.not_mem_nil⟩⟩⟩⟩⟩⟩⟩⟩⟩⟩⟩⟩⟩
def lw_privs : List (MethodName × Nat) := lw_privs_1 ++ (lw_privs_2)
def lw_tbl : List Cond := k2_sels lw_privs ++ tables_1
theorem lw_privs_ok : ∀ q ∈ lw_privs, lw_okq q := by
  show ∀ q ∈ lw_privs_1 ++ (lw_privs_2), lw_okq q
  exact List.forall_mem_append.mpr ⟨lw_r1, lw_r2⟩
/-- the streams that the claim lets the run draw from -/
abbrev lw_cs : List Choice := [Jvm.Choice.named "NaN.bits"]
theorem lw_bits : nanBits ∈ lw_cs := by first | decide | exact List.mem_cons_self | simp [lw_cs, nanBits]
def RX0 : String := "BathHouse$Club"
def TX0 : u_T := fun k => match k with
  | 0 => ("BathHouse$Club", "pool", "LBathHouse$Pool;", true)
  | 1 => ("BathHouse$Club", "lanes", "I", true)
  | 2 => ("BathHouse$Club", "from", "I", true)
  | 3 => ("BathHouse$Club", "pupils", "I", true)
  | 4 => ("BathHouse$Club", "to", "I", false)
  | 5 => ("BathHouse$Club", "pupilsIn", "I", false)
  | _ => ("BathHouse$Club", "teachersIn", "I", false)
def tyX0 : Nat → FieldType := fun k => match k with
  | 0 => .object "BathHouse$Pool"
  | 1 => .int
  | 2 => .int
  | 3 => .int
  | 4 => .int
  | 5 => .int
  | _ => .int
abbrev wsX00 : List Cond := u_ws RX0 TX0 7
theorem nmX0 : ∀ a, a < 7 → ∀ b, b < 7 → a ≠ b → (TX0 a).2.1 ≠ (TX0 b).2.1 := by decide +kernel
theorem tyX0_ok : ∀ k, k < 7 → parseFieldDescriptor (TX0 k).2.2.1 = some (tyX0 k) := by decide +kernel
abbrev cX0_init : ByteArray := prog_2_method_1_code
def yX0_init : MethodName := ⟨RX0, "<init>", "(LBathHouse$Pool;IIII)V"⟩
abbrev cX0_isSchool : ByteArray := prog_2_method_2_code
def yX0_isSchool : MethodName := ⟨RX0, "isSchool", "()Z"⟩
abbrev cX0_isThere : ByteArray := prog_2_method_3_code
def yX0_isThere : MethodName := ⟨RX0, "isThere", "(I)Z"⟩
abbrev cX0_clashesWith : ByteArray := prog_2_method_4_code
def yX0_clashesWith : MethodName := ⟨RX0, "clashesWith", "(LBathHouse$Club;)Z"⟩
abbrev cX0_pass : ByteArray := prog_2_method_5_code
def yX0_pass : MethodName := ⟨RX0, "pass", "(ZI)V"⟩
def RX1 : String := "BathHouse$Door"
def TX1 : u_T := fun k => match k with
  | 0 => ("BathHouse$Door", "isOn", "Z", false)
  | 1 => ("BathHouse$Door", "wasOff", "Z", false)
  | 2 => ("BathHouse$Door", "least", "I", false)
  | 3 => ("BathHouse$Door", "most", "I", false)
  | 4 => ("BathHouse$Door", "seen", "I", false)
  | 5 => ("BathHouse$Door", "cameIn", "I", false)
  | _ => ("BathHouse$Door", "wentOut", "I", false)
def tyX1 : Nat → FieldType := fun k => match k with
  | 0 => .boolean
  | 1 => .boolean
  | 2 => .int
  | 3 => .int
  | 4 => .int
  | 5 => .int
  | _ => .int
abbrev wsX10 : List Cond := u_ws RX1 TX1 7
theorem nmX1 : ∀ a, a < 7 → ∀ b, b < 7 → a ≠ b → (TX1 a).2.1 ≠ (TX1 b).2.1 := by decide +kernel
theorem tyX1_ok : ∀ k, k < 7 → parseFieldDescriptor (TX1 k).2.2.1 = some (tyX1 k) := by decide +kernel
abbrev cX1_init : ByteArray := prog_3_method_1_code
def yX1_init : MethodName := ⟨RX1, "<init>", "()V"⟩
abbrev cX1_turnEye : ByteArray := prog_3_method_2_code
def yX1_turnEye : MethodName := ⟨RX1, "turnEye", "(Z)V"⟩
abbrev cX1_leastNow : ByteArray := prog_3_method_3_code
def yX1_leastNow : MethodName := ⟨RX1, "leastNow", "()I"⟩
abbrev cX1_mostNow : ByteArray := prog_3_method_4_code
def yX1_mostNow : MethodName := ⟨RX1, "mostNow", "()I"⟩
abbrev cX1_startFrom : ByteArray := prog_3_method_5_code
def yX1_startFrom : MethodName := ⟨RX1, "startFrom", "(II)V"⟩
abbrev cX1_endMinute : ByteArray := prog_3_method_6_code
def yX1_endMinute : MethodName := ⟨RX1, "endMinute", "()V"⟩
def RX2 : String := "BathHouse$Lockers"
def TX2 : u_T := fun k => match k with
  | 0 => ("BathHouse$Lockers", "owner", "[I", true)
  | _ => ("BathHouse$Lockers", "isLost", "[Z", true)
def tyX2 : Nat → FieldType := fun k => match k with
  | 0 => .array .int
  | _ => .array .boolean
abbrev wsX20 : List Cond := u_ws RX2 TX2 2
theorem nmX2 : ∀ a, a < 2 → ∀ b, b < 2 → a ≠ b → (TX2 a).2.1 ≠ (TX2 b).2.1 := by decide +kernel
theorem tyX2_ok : ∀ k, k < 2 → parseFieldDescriptor (TX2 k).2.2.1 = some (tyX2 k) := by decide +kernel
abbrev cX2_init : ByteArray := prog_4_method_1_code
def yX2_init : MethodName := ⟨RX2, "<init>", "()V"⟩
abbrev cX2_isLocker : ByteArray := prog_4_method_2_code
def yX2_isLocker : MethodName := ⟨RX2, "isLocker", "(I)Z"⟩
abbrev cX2_takeLowest : ByteArray := prog_4_method_3_code
def yX2_takeLowest : MethodName := ⟨RX2, "takeLowest", "(I)I"⟩
abbrev cX2_hangKey : ByteArray := prog_4_method_4_code
def yX2_hangKey : MethodName := ⟨RX2, "hangKey", "(I)V"⟩
abbrev cX2_lose : ByteArray := prog_4_method_5_code
def yX2_lose : MethodName := ⟨RX2, "lose", "(I)V"⟩
abbrev cX2_lostOnes : ByteArray := prog_4_method_6_code
def yX2_lostOnes : MethodName := ⟨RX2, "lostOnes", "()I"⟩
abbrev cX2_keysOut : ByteArray := prog_4_method_7_code
def yX2_keysOut : MethodName := ⟨RX2, "keysOut", "()I"⟩
def RX3 : String := "BathHouse$Pool"
def TX3 : u_T := fun k => match k with
  | 0 => ("BathHouse$Pool", "number", "I", true)
  | 1 => ("BathHouse$Pool", "heads", "I", true)
  | 2 => ("BathHouse$Pool", "lanes", "I", true)
  | 3 => ("BathHouse$Pool", "posts", "[LBathHouse$Post;", true)
  | 4 => ("BathHouse$Pool", "things", "[LBathHouse$Thing;", true)
  | 5 => ("BathHouse$Pool", "door", "LBathHouse$Door;", true)
  | 6 => ("BathHouse$Pool", "inside", "I", false)
  | 7 => ("BathHouse$Pool", "watchersInside", "I", false)
  | 8 => ("BathHouse$Pool", "putEnd", "I", false)
  | 9 => ("BathHouse$Pool", "shutMinutes", "I", false)
  | 10 => ("BathHouse$Pool", "volume", "I", false)
  | _ => ("BathHouse$Pool", "flow", "I", false)
def tyX3 : Nat → FieldType := fun k => match k with
  | 0 => .int
  | 1 => .int
  | 2 => .int
  | 3 => .array (.object "BathHouse$Post")
  | 4 => .array (.object "BathHouse$Thing")
  | 5 => .object "BathHouse$Door"
  | 6 => .int
  | 7 => .int
  | 8 => .int
  | 9 => .int
  | 10 => .int
  | _ => .int
abbrev wsX30 : List Cond := u_ws RX3 TX3 12
theorem nmX3 : ∀ a, a < 12 → ∀ b, b < 12 → a ≠ b → (TX3 a).2.1 ≠ (TX3 b).2.1 := by decide +kernel
theorem tyX3_ok : ∀ k, k < 12 → parseFieldDescriptor (TX3 k).2.2.1 = some (tyX3 k) := by decide +kernel
abbrev cX3_init : ByteArray := prog_5_method_1_code
def yX3_init : MethodName := ⟨RX3, "<init>", "(IIII)V"⟩
abbrev cX3_hasLanes : ByteArray := prog_5_method_2_code
def yX3_hasLanes : MethodName := ⟨RX3, "hasLanes", "(I)Z"⟩
abbrev cX3_letIn : ByteArray := prog_5_method_3_code
def yX3_letIn : MethodName := ⟨RX3, "letIn", "(LBathHouse$Ticket;)V"⟩
abbrev cX3_letOut : ByteArray := prog_5_method_4_code
def yX3_letOut : MethodName := ⟨RX3, "letOut", "(LBathHouse$Ticket;)V"⟩
abbrev cX3_filledPosts : ByteArray := prog_5_method_5_code
def yX3_filledPosts : MethodName := ⟨RX3, "filledPosts", "(I)I"⟩
abbrev cX3_reasonsIn : ByteArray := prog_5_method_6_code
def yX3_reasonsIn : MethodName := ⟨RX3, "reasonsIn", "(I)I"⟩
abbrev cX3_endMinute : ByteArray := prog_5_method_7_code
def yX3_endMinute : MethodName := ⟨RX3, "endMinute", "(I)V"⟩
def RX4 : String := "BathHouse$Post"
def TX4 : u_T := fun k => match k with
  | 0 => ("BathHouse$Post", "watcher", "LBathHouse$Ticket;", false)
  | _ => ("BathHouse$Post", "since", "I", false)
def tyX4 : Nat → FieldType := fun k => match k with
  | 0 => .object "BathHouse$Ticket"
  | _ => .int
abbrev wsX40 : List Cond := u_ws RX4 TX4 2
theorem nmX4 : ∀ a, a < 2 → ∀ b, b < 2 → a ≠ b → (TX4 a).2.1 ≠ (TX4 b).2.1 := by decide +kernel
theorem tyX4_ok : ∀ k, k < 2 → parseFieldDescriptor (TX4 k).2.2.1 = some (tyX4 k) := by decide +kernel
abbrev cX4_init : ByteArray := prog_6_method_1_code
def yX4_init : MethodName := ⟨RX4, "<init>", "()V"⟩
abbrev cX4_isFilled : ByteArray := prog_6_method_2_code
def yX4_isFilled : MethodName := ⟨RX4, "isFilled", "(I)Z"⟩
def RX5 : String := "BathHouse$PumpHours"
def TX5 : u_T := fun k => match k with
  | 0 => ("BathHouse$PumpHours", "prices", "[I", true)
  | 1 => ("BathHouse$PumpHours", "isTaken", "[Z", true)
  | 2 => ("BathHouse$PumpHours", "isChosen", "Z", false)
  | _ => ("BathHouse$PumpHours", "sum", "I", false)
def tyX5 : Nat → FieldType := fun k => match k with
  | 0 => .array .int
  | 1 => .array .boolean
  | 2 => .boolean
  | _ => .int
abbrev wsX50 : List Cond := u_ws RX5 TX5 4
theorem nmX5 : ∀ a, a < 4 → ∀ b, b < 4 → a ≠ b → (TX5 a).2.1 ≠ (TX5 b).2.1 := by decide +kernel
theorem tyX5_ok : ∀ k, k < 4 → parseFieldDescriptor (TX5 k).2.2.1 = some (tyX5 k) := by decide +kernel
abbrev cX5_init : ByteArray := prog_7_method_1_code
def yX5_init : MethodName := ⟨RX5, "<init>", "()V"⟩
abbrev cX5_takeCheapest : ByteArray := prog_7_method_2_code
def yX5_takeCheapest : MethodName := ⟨RX5, "takeCheapest", "(I)V"⟩
abbrev cX5_takeNext : ByteArray := prog_7_method_3_code
def yX5_takeNext : MethodName := ⟨RX5, "takeNext", "()V"⟩
def RX6 : String := "BathHouse$Thing"
def TX6 : u_T := fun k => match k with
  | 0 => ("BathHouse$Thing", "low", "I", false)
  | 1 => ("BathHouse$Thing", "high", "I", false)
  | 2 => ("BathHouse$Thing", "latest", "I", false)
  | 3 => ("BathHouse$Thing", "measuredAt", "I", false)
  | _ => ("BathHouse$Thing", "isMeasured", "Z", false)
def tyX6 : Nat → FieldType := fun k => match k with
  | 0 => .int
  | 1 => .int
  | 2 => .int
  | 3 => .int
  | _ => .boolean
abbrev wsX60 : List Cond := u_ws RX6 TX6 5
theorem nmX6 : ∀ a, a < 5 → ∀ b, b < 5 → a ≠ b → (TX6 a).2.1 ≠ (TX6 b).2.1 := by decide +kernel
theorem tyX6_ok : ∀ k, k < 5 → parseFieldDescriptor (TX6 k).2.2.1 = some (tyX6 k) := by decide +kernel
abbrev cX6_init : ByteArray := prog_8_method_1_code
def yX6_init : MethodName := ⟨RX6, "<init>", "()V"⟩
abbrev cX6_takeMeasure : ByteArray := prog_8_method_2_code
def yX6_takeMeasure : MethodName := ⟨RX6, "takeMeasure", "(II)V"⟩
abbrev cX6_isRight : ByteArray := prog_8_method_3_code
def yX6_isRight : MethodName := ⟨RX6, "isRight", "()Z"⟩
abbrev cX6_isStale : ByteArray := prog_8_method_4_code
def yX6_isStale : MethodName := ⟨RX6, "isStale", "(I)Z"⟩
def RX7 : String := "BathHouse$Ticket"
def TX7 : u_T := fun k => match k with
  | 0 => ("BathHouse$Ticket", "number", "I", true)
  | 1 => ("BathHouse$Ticket", "pool", "LBathHouse$Pool;", true)
  | 2 => ("BathHouse$Ticket", "kind", "I", true)
  | 3 => ("BathHouse$Ticket", "minutes", "I", true)
  | 4 => ("BathHouse$Ticket", "club", "LBathHouse$Club;", true)
  | 5 => ("BathHouse$Ticket", "isTeacher", "Z", true)
  | 6 => ("BathHouse$Ticket", "isIn", "Z", false)
  | 7 => ("BathHouse$Ticket", "cameAt", "I", false)
  | 8 => ("BathHouse$Ticket", "cameWith", "I", false)
  | 9 => ("BathHouse$Ticket", "timesIn", "I", false)
  | 10 => ("BathHouse$Ticket", "owed", "I", false)
  | 11 => ("BathHouse$Ticket", "locker", "I", false)
  | 12 => ("BathHouse$Ticket", "post", "LBathHouse$Post;", false)
  | _ => ("BathHouse$Ticket", "leftPostAt", "I", false)
def tyX7 : Nat → FieldType := fun k => match k with
  | 0 => .int
  | 1 => .object "BathHouse$Pool"
  | 2 => .int
  | 3 => .int
  | 4 => .object "BathHouse$Club"
  | 5 => .boolean
  | 6 => .boolean
  | 7 => .int
  | 8 => .int
  | 9 => .int
  | 10 => .int
  | 11 => .int
  | 12 => .object "BathHouse$Post"
  | _ => .int
abbrev wsX70 : List Cond := u_ws RX7 TX7 14
theorem nmX7 : ∀ a, a < 14 → ∀ b, b < 14 → a ≠ b → (TX7 a).2.1 ≠ (TX7 b).2.1 := by decide +kernel
theorem tyX7_ok : ∀ k, k < 14 → parseFieldDescriptor (TX7 k).2.2.1 = some (tyX7 k) := by decide +kernel
abbrev cX7_init : ByteArray := prog_9_method_1_code
def yX7_init : MethodName := ⟨RX7, "<init>", "(ILBathHouse$Pool;IILBathHouse$Club;Z)V"⟩
abbrev cX7_isItsTime : ByteArray := prog_9_method_2_code
def yX7_isItsTime : MethodName := ⟨RX7, "isItsTime", "(I)Z"⟩
abbrev cX7_lacksTeacher : ByteArray := prog_9_method_3_code
def yX7_lacksTeacher : MethodName := ⟨RX7, "lacksTeacher", "()Z"⟩
abbrev cX7_comeIn : ByteArray := prog_9_method_4_code
def yX7_comeIn : MethodName := ⟨RX7, "comeIn", "(I)V"⟩
abbrev cX7_goOut : ByteArray := prog_9_method_5_code
def yX7_goOut : MethodName := ⟨RX7, "goOut", "(II)V"⟩
abbrev cX7_minutesLeft : ByteArray := prog_9_method_6_code
def yX7_minutesLeft : MethodName := ⟨RX7, "minutesLeft", "(I)I"⟩
abbrev cX7_owes : ByteArray := prog_9_method_7_code
def yX7_owes : MethodName := ⟨RX7, "owes", "(I)I"⟩
abbrev cX7_mayStand : ByteArray := prog_9_method_8_code
def yX7_mayStand : MethodName := ⟨RX7, "mayStand", "(I)Z"⟩
abbrev cX7_standAt : ByteArray := prog_9_method_9_code
def yX7_standAt : MethodName := ⟨RX7, "standAt", "(LBathHouse$Post;I)V"⟩
abbrev cX7_leavePost : ByteArray := prog_9_method_10_code
def yX7_leavePost : MethodName := ⟨RX7, "leavePost", "(I)V"⟩
def RX8 : String := "BathHouse"
def TX8 : u_T := fun k => match k with
  | 0 => ("BathHouse", "pools", "[LBathHouse$Pool;", true)
  | 1 => ("BathHouse", "tickets", "[LBathHouse$Ticket;", true)
  | 2 => ("BathHouse", "clubs", "[LBathHouse$Club;", true)
  | 3 => ("BathHouse", "lockers", "LBathHouse$Lockers;", true)
  | 4 => ("BathHouse", "pumpHours", "LBathHouse$PumpHours;", true)
  | 5 => ("BathHouse", "now", "I", false)
  | 6 => ("BathHouse", "ticketCount", "I", false)
  | 7 => ("BathHouse", "clubCount", "I", false)
  | 8 => ("BathHouse", "clashed", "I", false)
  | _ => ("BathHouse", "owedInAll", "I", false)
def tyX8 : Nat → FieldType := fun k => match k with
  | 0 => .array (.object "BathHouse$Pool")
  | 1 => .array (.object "BathHouse$Ticket")
  | 2 => .array (.object "BathHouse$Club")
  | 3 => .object "BathHouse$Lockers"
  | 4 => .object "BathHouse$PumpHours"
  | 5 => .int
  | 6 => .int
  | 7 => .int
  | 8 => .int
  | _ => .int
abbrev wsX80 : List Cond := u_ws RX8 TX8 10
theorem nmX8 : ∀ a, a < 10 → ∀ b, b < 10 → a ≠ b → (TX8 a).2.1 ≠ (TX8 b).2.1 := by decide +kernel
theorem tyX8_ok : ∀ k, k < 10 → parseFieldDescriptor (TX8 k).2.2.1 = some (tyX8 k) := by decide +kernel
abbrev cX8_init : ByteArray := prog_1_method_1_code
def yX8_init : MethodName := ⟨RX8, "<init>", "()V"⟩
abbrev cX8_pool : ByteArray := prog_1_method_2_code
def yX8_pool : MethodName := ⟨RX8, "pool", "(IIII)Z"⟩
abbrev cX8_go : ByteArray := prog_1_method_3_code
def yX8_go : MethodName := ⟨RX8, "go", "(I)I"⟩
abbrev cX8_ticket : ByteArray := prog_1_method_4_code
def yX8_ticket : MethodName := ⟨RX8, "ticket", "(IIIZ)I"⟩
abbrev cX8_club : ByteArray := prog_1_method_5_code
def yX8_club : MethodName := ⟨RX8, "club", "(IIIII)I"⟩
abbrev cX8_clash : ByteArray := prog_1_method_6_code
def yX8_clash : MethodName := ⟨RX8, "clash", "()I"⟩
abbrev cX8_leave : ByteArray := prog_1_method_7_code
def yX8_leave : MethodName := ⟨RX8, "leave", "(I)Z"⟩
abbrev cX8_may : ByteArray := prog_1_method_8_code
def yX8_may : MethodName := ⟨RX8, "may", "(I)I"⟩
abbrev cX8_in : ByteArray := prog_1_method_9_code
def yX8_in : MethodName := ⟨RX8, "in", "(I)I"⟩
abbrev cX8_out : ByteArray := prog_1_method_10_code
def yX8_out : MethodName := ⟨RX8, "out", "(I)I"⟩
abbrev cX8_eye : ByteArray := prog_1_method_11_code
def yX8_eye : MethodName := ⟨RX8, "eye", "(IZ)Z"⟩
abbrev cX8_hand : ByteArray := prog_1_method_12_code
def yX8_hand : MethodName := ⟨RX8, "hand", "(I)I"⟩
abbrev cX8_count : ByteArray := prog_1_method_13_code
def yX8_count : MethodName := ⟨RX8, "count", "(II)I"⟩
abbrev cX8_bounds : ByteArray := prog_1_method_14_code
def yX8_bounds : MethodName := ⟨RX8, "bounds", "(IIII)Z"⟩
abbrev cX8_measure : ByteArray := prog_1_method_15_code
def yX8_measure : MethodName := ⟨RX8, "measure", "(IIF)I"⟩
abbrev cX8_put : ByteArray := prog_1_method_16_code
def yX8_put : MethodName := ⟨RX8, "put", "(II)Z"⟩
abbrev cX8_shut : ByteArray := prog_1_method_17_code
def yX8_shut : MethodName := ⟨RX8, "shut", "(I)I"⟩
abbrev cX8_minutes : ByteArray := prog_1_method_18_code
def yX8_minutes : MethodName := ⟨RX8, "minutes", "(I)I"⟩
abbrev cX8_post : ByteArray := prog_1_method_19_code
def yX8_post : MethodName := ⟨RX8, "post", "(III)I"⟩
abbrev cX8_watcher : ByteArray := prog_1_method_20_code
def yX8_watcher : MethodName := ⟨RX8, "watcher", "(II)I"⟩
abbrev cX8_key : ByteArray := prog_1_method_21_code
def yX8_key : MethodName := ⟨RX8, "key", "(I)I"⟩
abbrev cX8_give : ByteArray := prog_1_method_22_code
def yX8_give : MethodName := ⟨RX8, "give", "(I)I"⟩
abbrev cX8_mend : ByteArray := prog_1_method_23_code
def yX8_mend : MethodName := ⟨RX8, "mend", "(I)I"⟩
abbrev cX8_locker : ByteArray := prog_1_method_24_code
def yX8_locker : MethodName := ⟨RX8, "locker", "(I)I"⟩
abbrev cX8_told : ByteArray := prog_1_method_25_code
def yX8_told : MethodName := ⟨RX8, "told", "(II)I"⟩
abbrev cX8_pump : ByteArray := prog_1_method_26_code
def yX8_pump : MethodName := ⟨RX8, "pump", "(III)Z"⟩
abbrev cX8_price : ByteArray := prog_1_method_27_code
def yX8_price : MethodName := ⟨RX8, "price", "(II)Z"⟩
abbrev cX8_turn : ByteArray := prog_1_method_28_code
def yX8_turn : MethodName := ⟨RX8, "turn", "(II)I"⟩
abbrev cX8_hour : ByteArray := prog_1_method_29_code
def yX8_hour : MethodName := ⟨RX8, "hour", "(I)I"⟩
abbrev cX8_all : ByteArray := prog_1_method_30_code
def yX8_all : MethodName := ⟨RX8, "all", "(I)I"⟩
abbrev cX8_isWithin : ByteArray := prog_1_method_31_code
def yX8_isWithin : MethodName := ⟨RX8, "isWithin", "(III)Z"⟩
abbrev cX8_poolOf : ByteArray := prog_1_method_32_code
def yX8_poolOf : MethodName := ⟨RX8, "poolOf", "(I)LBathHouse$Pool;"⟩
abbrev cX8_ticketOf : ByteArray := prog_1_method_33_code
def yX8_ticketOf : MethodName := ⟨RX8, "ticketOf", "(I)LBathHouse$Ticket;"⟩
abbrev cX8_clubOf : ByteArray := prog_1_method_34_code
def yX8_clubOf : MethodName := ⟨RX8, "clubOf", "(I)LBathHouse$Club;"⟩
abbrev cX8_thingOf : ByteArray := prog_1_method_35_code
def yX8_thingOf : MethodName := ⟨RX8, "thingOf", "(II)LBathHouse$Thing;"⟩
abbrev cX8_postOf : ByteArray := prog_1_method_36_code
def yX8_postOf : MethodName := ⟨RX8, "postOf", "(II)LBathHouse$Post;"⟩
abbrev cX8_numberOf : ByteArray := prog_1_method_37_code
def yX8_numberOf : MethodName := ⟨RX8, "numberOf", "(LBathHouse$Ticket;)I"⟩
abbrev cX8_endMinute : ByteArray := prog_1_method_38_code
def yX8_endMinute : MethodName := ⟨RX8, "endMinute", "()V"⟩
abbrev cX8_isClubKind : ByteArray := prog_1_method_39_code
def yX8_isClubKind : MethodName := ⟨RX8, "isClubKind", "(I)Z"⟩
abbrev cX8_isTicketSold : ByteArray := prog_1_method_40_code
def yX8_isTicketSold : MethodName := ⟨RX8, "isTicketSold", "(LBathHouse$Pool;II)Z"⟩
abbrev cX8_lowestClash : ByteArray := prog_1_method_41_code
def yX8_lowestClash : MethodName := ⟨RX8, "lowestClash", "(LBathHouse$Club;)I"⟩
abbrev cX8_freeLanes : ByteArray := prog_1_method_42_code
def yX8_freeLanes : MethodName := ⟨RX8, "freeLanes", "(LBathHouse$Pool;)I"⟩
abbrev cX8_reasonAgainst : ByteArray := prog_1_method_43_code
def yX8_reasonAgainst : MethodName := ⟨RX8, "reasonAgainst", "(LBathHouse$Ticket;)I"⟩
abbrev cX8_reasonAgainstHead : ByteArray := prog_1_method_44_code
def yX8_reasonAgainstHead : MethodName := ⟨RX8, "reasonAgainstHead", "(LBathHouse$Ticket;)I"⟩
abbrev cX8_hoursNeeded : ByteArray := prog_1_method_45_code
def yX8_hoursNeeded : MethodName := ⟨RX8, "hoursNeeded", "(III)I"⟩
abbrev cX8_insideAllPools : ByteArray := prog_1_method_46_code
def yX8_insideAllPools : MethodName := ⟨RX8, "insideAllPools", "()I"⟩
def RX9 : String := "BathHouseModel"
def TX9 : u_T := fun k => match k with
  | 0 => ("BathHouseModel", "now", "I", false)
  | 1 => ("BathHouseModel", "isPool", "[Z", true)
  | 2 => ("BathHouseModel", "heads", "[I", true)
  | 3 => ("BathHouseModel", "lanes", "[I", true)
  | 4 => ("BathHouseModel", "posts", "[I", true)
  | 5 => ("BathHouseModel", "least", "[I", true)
  | 6 => ("BathHouseModel", "most", "[I", true)
  | 7 => ("BathHouseModel", "seenIn", "[I", true)
  | 8 => ("BathHouseModel", "seenOut", "[I", true)
  | 9 => ("BathHouseModel", "wasOff", "[Z", true)
  | 10 => ("BathHouseModel", "eye", "[Z", true)
  | 11 => ("BathHouseModel", "cameIn", "[I", true)
  | 12 => ("BathHouseModel", "wentOut", "[I", true)
  | 13 => ("BathHouseModel", "shutMinutes", "[I", true)
  | 14 => ("BathHouseModel", "low", "[I", true)
  | 15 => ("BathHouseModel", "high", "[I", true)
  | 16 => ("BathHouseModel", "value", "[I", true)
  | 17 => ("BathHouseModel", "isMeasured", "[Z", true)
  | 18 => ("BathHouseModel", "measured", "[I", true)
  | 19 => ("BathHouseModel", "putTill", "[I", true)
  | 20 => ("BathHouseModel", "stands", "[I", true)
  | 21 => ("BathHouseModel", "since", "[I", true)
  | 22 => ("BathHouseModel", "tickets", "I", false)
  | 23 => ("BathHouseModel", "pool", "[I", true)
  | 24 => ("BathHouseModel", "kind", "[I", true)
  | 25 => ("BathHouseModel", "with", "[I", true)
  | 26 => ("BathHouseModel", "isTeacher", "[Z", true)
  | 27 => ("BathHouseModel", "came", "[I", true)
  | 28 => ("BathHouseModel", "has", "[I", true)
  | 29 => ("BathHouseModel", "isIn", "[Z", true)
  | 30 => ("BathHouseModel", "owes", "[I", true)
  | 31 => ("BathHouseModel", "often", "[I", true)
  | 32 => ("BathHouseModel", "left", "[I", true)
  | 33 => ("BathHouseModel", "keyOf", "[I", true)
  | 34 => ("BathHouseModel", "bagOf", "[I", true)
  | 35 => ("BathHouseModel", "clubs", "I", false)
  | 36 => ("BathHouseModel", "clashed", "I", false)
  | 37 => ("BathHouseModel", "clubPool", "[I", true)
  | 38 => ("BathHouseModel", "clubLanes", "[I", true)
  | 39 => ("BathHouseModel", "clubFrom", "[I", true)
  | 40 => ("BathHouseModel", "clubTo", "[I", true)
  | 41 => ("BathHouseModel", "clubPupils", "[I", true)
  | 42 => ("BathHouseModel", "volume", "[I", true)
  | 43 => ("BathHouseModel", "flow", "[I", true)
  | 44 => ("BathHouseModel", "price", "[I", true)
  | 45 => ("BathHouseModel", "isTaken", "[Z", true)
  | 46 => ("BathHouseModel", "hasTurn", "Z", false)
  | _ => ("BathHouseModel", "sum", "I", false)
def tyX9 : Nat → FieldType := fun k => match k with
  | 0 => .int
  | 1 => .array .boolean
  | 2 => .array .int
  | 3 => .array .int
  | 4 => .array .int
  | 5 => .array .int
  | 6 => .array .int
  | 7 => .array .int
  | 8 => .array .int
  | 9 => .array .boolean
  | 10 => .array .boolean
  | 11 => .array .int
  | 12 => .array .int
  | 13 => .array .int
  | 14 => .array .int
  | 15 => .array .int
  | 16 => .array .int
  | 17 => .array .boolean
  | 18 => .array .int
  | 19 => .array .int
  | 20 => .array .int
  | 21 => .array .int
  | 22 => .int
  | 23 => .array .int
  | 24 => .array .int
  | 25 => .array .int
  | 26 => .array .boolean
  | 27 => .array .int
  | 28 => .array .int
  | 29 => .array .boolean
  | 30 => .array .int
  | 31 => .array .int
  | 32 => .array .int
  | 33 => .array .int
  | 34 => .array .int
  | 35 => .int
  | 36 => .int
  | 37 => .array .int
  | 38 => .array .int
  | 39 => .array .int
  | 40 => .array .int
  | 41 => .array .int
  | 42 => .array .int
  | 43 => .array .int
  | 44 => .array .int
  | 45 => .array .boolean
  | 46 => .boolean
  | _ => .int
abbrev wsX90 : List Cond := u_ws RX9 TX9 48
theorem nmX9 : ∀ a, a < 48 → ∀ b, b < 48 → a ≠ b → (TX9 a).2.1 ≠ (TX9 b).2.1 := by decide +kernel
theorem tyX9_ok : ∀ k, k < 48 → parseFieldDescriptor (TX9 k).2.2.1 = some (tyX9 k) := by decide +kernel
abbrev cX9_init : ByteArray := prog_11_method_1_code
def yX9_init : MethodName := ⟨RX9, "<init>", "()V"⟩
abbrev cX9_in : ByteArray := prog_11_method_2_code
def yX9_in : MethodName := ⟨RX9, "in", "(III)Z"⟩
abbrev cX9_has : ByteArray := prog_11_method_3_code
def yX9_has : MethodName := ⟨RX9, "has", "(I)Z"⟩
abbrev cX9_isTicket : ByteArray := prog_11_method_4_code
def yX9_isTicket : MethodName := ⟨RX9, "isTicket", "(I)Z"⟩
abbrev cX9_pool : ByteArray := prog_11_method_5_code
def yX9_pool : MethodName := ⟨RX9, "pool", "(IIII)Z"⟩
abbrev cX9_leastNow : ByteArray := prog_11_method_6_code
def yX9_leastNow : MethodName := ⟨RX9, "leastNow", "(I)I"⟩
abbrev cX9_mostNow : ByteArray := prog_11_method_7_code
def yX9_mostNow : MethodName := ⟨RX9, "mostNow", "(I)I"⟩
abbrev cX9_begins : ByteArray := prog_11_method_8_code
def yX9_begins : MethodName := ⟨RX9, "begins", "(III)V"⟩
abbrev cX9_go : ByteArray := prog_11_method_9_code
def yX9_go : MethodName := ⟨RX9, "go", "(I)I"⟩
abbrev cX9_eye : ByteArray := prog_11_method_10_code
def yX9_eye : MethodName := ⟨RX9, "eye", "(IZ)Z"⟩
abbrev cX9_truth : ByteArray := prog_11_method_11_code
def yX9_truth : MethodName := ⟨RX9, "truth", "(IZ)I"⟩
abbrev cX9_hand : ByteArray := prog_11_method_12_code
def yX9_hand : MethodName := ⟨RX9, "hand", "(I)I"⟩
abbrev cX9_isThere : ByteArray := prog_11_method_13_code
def yX9_isThere : MethodName := ⟨RX9, "isThere", "(I)Z"⟩
abbrev cX9_club : ByteArray := prog_11_method_14_code
def yX9_club : MethodName := ⟨RX9, "club", "(IIIII)I"⟩
abbrev cX9_clash : ByteArray := prog_11_method_15_code
def yX9_clash : MethodName := ⟨RX9, "clash", "()I"⟩
abbrev cX9_leave : ByteArray := prog_11_method_16_code
def yX9_leave : MethodName := ⟨RX9, "leave", "(I)Z"⟩
abbrev cX9_isFilled : ByteArray := prog_11_method_17_code
def yX9_isFilled : MethodName := ⟨RX9, "isFilled", "(I)Z"⟩
abbrev cX9_reasons : ByteArray := prog_11_method_18_code
def yX9_reasons : MethodName := ⟨RX9, "reasons", "(I)I"⟩
abbrev cX9_bounds : ByteArray := prog_11_method_19_code
def yX9_bounds : MethodName := ⟨RX9, "bounds", "(IIII)Z"⟩
abbrev cX9_measure : ByteArray := prog_11_method_20_code
def yX9_measure : MethodName := ⟨RX9, "measure", "(IIF)I"⟩
abbrev cX9_put : ByteArray := prog_11_method_21_code
def yX9_put : MethodName := ⟨RX9, "put", "(II)Z"⟩
abbrev cX9_shut : ByteArray := prog_11_method_22_code
def yX9_shut : MethodName := ⟨RX9, "shut", "(I)I"⟩
abbrev cX9_minutes : ByteArray := prog_11_method_23_code
def yX9_minutes : MethodName := ⟨RX9, "minutes", "(I)I"⟩
abbrev cX9_ticket : ByteArray := prog_11_method_24_code
def yX9_ticket : MethodName := ⟨RX9, "ticket", "(IIIZ)I"⟩
abbrev cX9_isClubbed : ByteArray := prog_11_method_25_code
def yX9_isClubbed : MethodName := ⟨RX9, "isClubbed", "(I)Z"⟩
abbrev cX9_inSchool : ByteArray := prog_11_method_26_code
def yX9_inSchool : MethodName := ⟨RX9, "inSchool", "(IZ)I"⟩
abbrev cX9_may : ByteArray := prog_11_method_27_code
def yX9_may : MethodName := ⟨RX9, "may", "(I)I"⟩
abbrev cX9_in_ : ByteArray := prog_11_method_28_code
def yX9_in_ : MethodName := ⟨RX9, "in", "(I)I"⟩
abbrev cX9_isTimed : ByteArray := prog_11_method_29_code
def yX9_isTimed : MethodName := ⟨RX9, "isTimed", "(I)Z"⟩
abbrev cX9_beyond : ByteArray := prog_11_method_30_code
def yX9_beyond : MethodName := ⟨RX9, "beyond", "(I)I"⟩
abbrev cX9_out : ByteArray := prog_11_method_31_code
def yX9_out : MethodName := ⟨RX9, "out", "(I)I"⟩
abbrev cX9_leaves : ByteArray := prog_11_method_32_code
def yX9_leaves : MethodName := ⟨RX9, "leaves", "(I)V"⟩
abbrev cX9_post : ByteArray := prog_11_method_33_code
def yX9_post : MethodName := ⟨RX9, "post", "(III)I"⟩
abbrev cX9_watcher : ByteArray := prog_11_method_34_code
def yX9_watcher : MethodName := ⟨RX9, "watcher", "(II)I"⟩
abbrev cX9_lockerOf : ByteArray := prog_11_method_35_code
def yX9_lockerOf : MethodName := ⟨RX9, "lockerOf", "(I)I"⟩
abbrev cX9_key : ByteArray := prog_11_method_36_code
def yX9_key : MethodName := ⟨RX9, "key", "(I)I"⟩
abbrev cX9_give : ByteArray := prog_11_method_37_code
def yX9_give : MethodName := ⟨RX9, "give", "(I)I"⟩
abbrev cX9_mend : ByteArray := prog_11_method_38_code
def yX9_mend : MethodName := ⟨RX9, "mend", "(I)I"⟩
abbrev cX9_locker : ByteArray := prog_11_method_39_code
def yX9_locker : MethodName := ⟨RX9, "locker", "(I)I"⟩
abbrev cX9_count : ByteArray := prog_11_method_40_code
def yX9_count : MethodName := ⟨RX9, "count", "(II)I"⟩
abbrev cX9_isFree : ByteArray := prog_11_method_41_code
def yX9_isFree : MethodName := ⟨RX9, "isFree", "(II)Z"⟩
abbrev cX9_told : ByteArray := prog_11_method_42_code
def yX9_told : MethodName := ⟨RX9, "told", "(II)I"⟩
abbrev cX9_pump : ByteArray := prog_11_method_43_code
def yX9_pump : MethodName := ⟨RX9, "pump", "(III)Z"⟩
abbrev cX9_price : ByteArray := prog_11_method_44_code
def yX9_price : MethodName := ⟨RX9, "price", "(II)Z"⟩
abbrev cX9_turn : ByteArray := prog_11_method_45_code
def yX9_turn : MethodName := ⟨RX9, "turn", "(II)I"⟩
abbrev cX9_hour : ByteArray := prog_11_method_46_code
def yX9_hour : MethodName := ⟨RX9, "hour", "(I)I"⟩
abbrev cX9_all : ByteArray := prog_11_method_47_code
def yX9_all : MethodName := ⟨RX9, "all", "(I)I"⟩
def RJ6 : String := "java/lang/Integer"
def TJ6 : u_T := fun k => match k with
  | _ => ("", "", "", false)
def tyJ6 : Nat → FieldType := fun k => match k with
  | _ => .int
abbrev wsJ60 : List Cond := u_ws RJ6 TJ6 0
theorem nmJ6 : ∀ a, a < 0 → ∀ b, b < 0 → a ≠ b → (TJ6 a).2.1 ≠ (TJ6 b).2.1 := by decide +kernel
theorem tyJ6_ok : ∀ k, k < 0 → parseFieldDescriptor (TJ6 k).2.2.1 = some (tyJ6 k) := by decide +kernel
abbrev cJ6_bitCount_0f7a4 : ByteArray := prog_12_method_49_code
def yJ6_bitCount_0f7a4 : MethodName := ⟨RJ6, "bitCount", "(I)I"⟩
def RJ9 : String := "java/lang/Math"
def TJ9 : u_T := fun k => match k with
  | _ => ("", "", "", false)
def tyJ9 : Nat → FieldType := fun k => match k with
  | _ => .int
abbrev wsJ90 : List Cond := u_ws RJ9 TJ9 0
theorem nmJ9 : ∀ a, a < 0 → ∀ b, b < 0 → a ≠ b → (TJ9 a).2.1 ≠ (TJ9 b).2.1 := by decide +kernel
theorem tyJ9_ok : ∀ k, k < 0 → parseFieldDescriptor (TJ9 k).2.2.1 = some (tyJ9 k) := by decide +kernel
abbrev cJ9_max_7cf53 : ByteArray := prog_13_method_65_code
def yJ9_max_7cf53 : MethodName := ⟨RJ9, "max", "(II)I"⟩
abbrev cJ9_min_7cf53 : ByteArray := prog_13_method_69_code
def yJ9_min_7cf53 : MethodName := ⟨RJ9, "min", "(II)I"⟩
def RL : String := "BathHouseLaw"
abbrev cL_law : ByteArray := code
def yL_law : MethodName := ⟨RL, "law", "([I)Z"⟩
