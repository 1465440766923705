section
-- ===== PART A: goes FIRST, ahead of the names: the tables' words, and 'selects' of the private methods out of them =====
/-- a private method of a class that the tables say can be made, by its rows of tables_1 -/
def lw_okq (q : MethodName × Nat) : Prop := (q.1.cls ≠ "java/lang/invoke/MethodHandle" ∧ q.1.cls ≠ "java/lang/invoke/VarHandle") ∧ Cond.instantiable q.1.cls q.2 ∈ tables_1 ∧ Cond.privateMethod q.1 ∈ tables_1 ∧ Cond.instanceMethod q.1 ∈ tables_1
theorem lw_p0 : lw_okq (⟨"BathHouse", "endMinute", "()V"⟩, 10) := ⟨⟨by decide +kernel, by decide +kernel⟩, List.mem_of_getElem? (i := 14) (by decide +kernel), List.mem_of_getElem? (i := 241) (by decide +kernel), List.mem_of_getElem? (i := 242) (by decide +kernel)⟩
theorem lw_p1 : lw_okq (⟨"BathHouse", "poolOf", "(I)LBathHouse$Pool;"⟩, 10) := ⟨⟨by decide +kernel, by decide +kernel⟩, List.mem_of_getElem? (i := 14) (by decide +kernel), List.mem_of_getElem? (i := 290) (by decide +kernel), List.mem_of_getElem? (i := 291) (by decide +kernel)⟩
theorem lw_p2 : lw_okq (⟨"BathHouse", "isTicketSold", "(LBathHouse$Pool;II)Z"⟩, 10) := ⟨⟨by decide +kernel, by decide +kernel⟩, List.mem_of_getElem? (i := 14) (by decide +kernel), List.mem_of_getElem? (i := 294) (by decide +kernel), List.mem_of_getElem? (i := 295) (by decide +kernel)⟩
theorem lw_p3 : lw_okq (⟨"BathHouse", "clubOf", "(I)LBathHouse$Club;"⟩, 10) := ⟨⟨by decide +kernel, by decide +kernel⟩, List.mem_of_getElem? (i := 14) (by decide +kernel), List.mem_of_getElem? (i := 301) (by decide +kernel), List.mem_of_getElem? (i := 302) (by decide +kernel)⟩
theorem lw_p4 : lw_okq (⟨"BathHouse", "lowestClash", "(LBathHouse$Club;)I"⟩, 10) := ⟨⟨by decide +kernel, by decide +kernel⟩, List.mem_of_getElem? (i := 14) (by decide +kernel), List.mem_of_getElem? (i := 408) (by decide +kernel), List.mem_of_getElem? (i := 409) (by decide +kernel)⟩
theorem lw_p5 : lw_okq (⟨"BathHouse", "ticketOf", "(I)LBathHouse$Ticket;"⟩, 10) := ⟨⟨by decide +kernel, by decide +kernel⟩, List.mem_of_getElem? (i := 14) (by decide +kernel), List.mem_of_getElem? (i := 432) (by decide +kernel), List.mem_of_getElem? (i := 433) (by decide +kernel)⟩
theorem lw_p6 : lw_okq (⟨"BathHouse", "reasonAgainst", "(LBathHouse$Ticket;)I"⟩, 10) := ⟨⟨by decide +kernel, by decide +kernel⟩, List.mem_of_getElem? (i := 14) (by decide +kernel), List.mem_of_getElem? (i := 436) (by decide +kernel), List.mem_of_getElem? (i := 437) (by decide +kernel)⟩
theorem lw_p7 : lw_okq (⟨"BathHouse", "reasonAgainstHead", "(LBathHouse$Ticket;)I"⟩, 10) := ⟨⟨by decide +kernel, by decide +kernel⟩, List.mem_of_getElem? (i := 14) (by decide +kernel), List.mem_of_getElem? (i := 440) (by decide +kernel), List.mem_of_getElem? (i := 441) (by decide +kernel)⟩
theorem lw_p8 : lw_okq (⟨"BathHouse", "freeLanes", "(LBathHouse$Pool;)I"⟩, 10) := ⟨⟨by decide +kernel, by decide +kernel⟩, List.mem_of_getElem? (i := 14) (by decide +kernel), List.mem_of_getElem? (i := 523) (by decide +kernel), List.mem_of_getElem? (i := 524) (by decide +kernel)⟩
theorem lw_p9 : lw_okq (⟨"BathHouse", "thingOf", "(II)LBathHouse$Thing;"⟩, 10) := ⟨⟨by decide +kernel, by decide +kernel⟩, List.mem_of_getElem? (i := 14) (by decide +kernel), List.mem_of_getElem? (i := 539) (by decide +kernel), List.mem_of_getElem? (i := 540) (by decide +kernel)⟩
theorem lw_p10 : lw_okq (⟨"BathHouse", "postOf", "(II)LBathHouse$Post;"⟩, 10) := ⟨⟨by decide +kernel, by decide +kernel⟩, List.mem_of_getElem? (i := 14) (by decide +kernel), List.mem_of_getElem? (i := 575) (by decide +kernel), List.mem_of_getElem? (i := 576) (by decide +kernel)⟩
theorem lw_p11 : lw_okq (⟨"BathHouse$PumpHours", "takeNext", "()V"⟩, 4) := ⟨⟨by decide +kernel, by decide +kernel⟩, List.mem_of_getElem? (i := 45) (by decide +kernel), List.mem_of_getElem? (i := 644) (by decide +kernel), List.mem_of_getElem? (i := 645) (by decide +kernel)⟩
theorem lw_p12 : lw_okq (⟨"BathHouse", "insideAllPools", "()I"⟩, 10) := ⟨⟨by decide +kernel, by decide +kernel⟩, List.mem_of_getElem? (i := 14) (by decide +kernel), List.mem_of_getElem? (i := 660) (by decide +kernel), List.mem_of_getElem? (i := 661) (by decide +kernel)⟩
theorem lw_p13 : lw_okq (⟨"BathHouseModel", "reasons", "(I)I"⟩, 48) := ⟨⟨by decide +kernel, by decide +kernel⟩, List.mem_of_getElem? (i := 668) (by decide +kernel), List.mem_of_getElem? (i := 830) (by decide +kernel), List.mem_of_getElem? (i := 831) (by decide +kernel)⟩
theorem lw_p14 : lw_okq (⟨"BathHouseModel", "isFilled", "(I)Z"⟩, 48) := ⟨⟨by decide +kernel, by decide +kernel⟩, List.mem_of_getElem? (i := 668) (by decide +kernel), List.mem_of_getElem? (i := 834) (by decide +kernel), List.mem_of_getElem? (i := 835) (by decide +kernel)⟩
theorem lw_p15 : lw_okq (⟨"BathHouseModel", "leastNow", "(I)I"⟩, 48) := ⟨⟨by decide +kernel, by decide +kernel⟩, List.mem_of_getElem? (i := 668) (by decide +kernel), List.mem_of_getElem? (i := 838) (by decide +kernel), List.mem_of_getElem? (i := 839) (by decide +kernel)⟩
def lw_privs_1 : List (MethodName × Nat) := [(⟨"BathHouse", "endMinute", "()V"⟩, 10), (⟨"BathHouse", "poolOf", "(I)LBathHouse$Pool;"⟩, 10), (⟨"BathHouse", "isTicketSold", "(LBathHouse$Pool;II)Z"⟩, 10), (⟨"BathHouse", "clubOf", "(I)LBathHouse$Club;"⟩, 10), (⟨"BathHouse", "lowestClash", "(LBathHouse$Club;)I"⟩, 10), (⟨"BathHouse", "ticketOf", "(I)LBathHouse$Ticket;"⟩, 10), (⟨"BathHouse", "reasonAgainst", "(LBathHouse$Ticket;)I"⟩, 10), (⟨"BathHouse", "reasonAgainstHead", "(LBathHouse$Ticket;)I"⟩, 10), (⟨"BathHouse", "freeLanes", "(LBathHouse$Pool;)I"⟩, 10), (⟨"BathHouse", "thingOf", "(II)LBathHouse$Thing;"⟩, 10), (⟨"BathHouse", "postOf", "(II)LBathHouse$Post;"⟩, 10), (⟨"BathHouse$PumpHours", "takeNext", "()V"⟩, 4), (⟨"BathHouse", "insideAllPools", "()I"⟩, 10), (⟨"BathHouseModel", "reasons", "(I)I"⟩, 48), (⟨"BathHouseModel", "isFilled", "(I)Z"⟩, 48), (⟨"BathHouseModel", "leastNow", "(I)I"⟩, 48)]
theorem lw_r1 : ∀ q ∈ lw_privs_1, lw_okq q := List.forall_mem_cons.mpr ⟨lw_p0, List.forall_mem_cons.mpr ⟨lw_p1, List.forall_mem_cons.mpr ⟨lw_p2, List.forall_mem_cons.mpr ⟨lw_p3, List.forall_mem_cons.mpr ⟨lw_p4, List.forall_mem_cons.mpr ⟨lw_p5, List.forall_mem_cons.mpr ⟨lw_p6, List.forall_mem_cons.mpr ⟨lw_p7, List.forall_mem_cons.mpr ⟨lw_p8, List.forall_mem_cons.mpr ⟨lw_p9, List.forall_mem_cons.mpr ⟨lw_p10, List.forall_mem_cons.mpr ⟨lw_p11, List.forall_mem_cons.mpr ⟨lw_p12, List.forall_mem_cons.mpr ⟨lw_p13, List.forall_mem_cons.mpr ⟨lw_p14, List.forall_mem_cons.mpr ⟨lw_p15, fun _ h => absurd h List.not_mem_nil⟩⟩⟩⟩⟩⟩⟩⟩⟩⟩⟩⟩⟩⟩⟩⟩
theorem lw_p16 : lw_okq (⟨"BathHouseModel", "mostNow", "(I)I"⟩, 48) := ⟨⟨by decide +kernel, by decide +kernel⟩, List.mem_of_getElem? (i := 668) (by decide +kernel), List.mem_of_getElem? (i := 842) (by decide +kernel), List.mem_of_getElem? (i := 843) (by decide +kernel)⟩
theorem lw_p17 : lw_okq (⟨"BathHouseModel", "begins", "(III)V"⟩, 48) := ⟨⟨by decide +kernel, by decide +kernel⟩, List.mem_of_getElem? (i := 668) (by decide +kernel), List.mem_of_getElem? (i := 846) (by decide +kernel), List.mem_of_getElem? (i := 847) (by decide +kernel)⟩
theorem lw_p18 : lw_okq (⟨"BathHouseModel", "has", "(I)Z"⟩, 48) := ⟨⟨by decide +kernel, by decide +kernel⟩, List.mem_of_getElem? (i := 668) (by decide +kernel), List.mem_of_getElem? (i := 854) (by decide +kernel), List.mem_of_getElem? (i := 855) (by decide +kernel)⟩
theorem lw_p19 : lw_okq (⟨"BathHouseModel", "truth", "(IZ)I"⟩, 48) := ⟨⟨by decide +kernel, by decide +kernel⟩, List.mem_of_getElem? (i := 668) (by decide +kernel), List.mem_of_getElem? (i := 862) (by decide +kernel), List.mem_of_getElem? (i := 863) (by decide +kernel)⟩
theorem lw_p20 : lw_okq (⟨"BathHouseModel", "isTicket", "(I)Z"⟩, 48) := ⟨⟨by decide +kernel, by decide +kernel⟩, List.mem_of_getElem? (i := 668) (by decide +kernel), List.mem_of_getElem? (i := 913) (by decide +kernel), List.mem_of_getElem? (i := 914) (by decide +kernel)⟩
theorem lw_p21 : lw_okq (⟨"BathHouseModel", "isClubbed", "(I)Z"⟩, 48) := ⟨⟨by decide +kernel, by decide +kernel⟩, List.mem_of_getElem? (i := 668) (by decide +kernel), List.mem_of_getElem? (i := 917) (by decide +kernel), List.mem_of_getElem? (i := 918) (by decide +kernel)⟩
theorem lw_p22 : lw_okq (⟨"BathHouseModel", "isThere", "(I)Z"⟩, 48) := ⟨⟨by decide +kernel, by decide +kernel⟩, List.mem_of_getElem? (i := 668) (by decide +kernel), List.mem_of_getElem? (i := 921) (by decide +kernel), List.mem_of_getElem? (i := 922) (by decide +kernel)⟩
theorem lw_p23 : lw_okq (⟨"BathHouseModel", "inSchool", "(IZ)I"⟩, 48) := ⟨⟨by decide +kernel, by decide +kernel⟩, List.mem_of_getElem? (i := 668) (by decide +kernel), List.mem_of_getElem? (i := 925) (by decide +kernel), List.mem_of_getElem? (i := 926) (by decide +kernel)⟩
theorem lw_p24 : lw_okq (⟨"BathHouseModel", "beyond", "(I)I"⟩, 48) := ⟨⟨by decide +kernel, by decide +kernel⟩, List.mem_of_getElem? (i := 668) (by decide +kernel), List.mem_of_getElem? (i := 938) (by decide +kernel), List.mem_of_getElem? (i := 939) (by decide +kernel)⟩
theorem lw_p25 : lw_okq (⟨"BathHouseModel", "isTimed", "(I)Z"⟩, 48) := ⟨⟨by decide +kernel, by decide +kernel⟩, List.mem_of_getElem? (i := 668) (by decide +kernel), List.mem_of_getElem? (i := 942) (by decide +kernel), List.mem_of_getElem? (i := 943) (by decide +kernel)⟩
theorem lw_p26 : lw_okq (⟨"BathHouseModel", "leaves", "(I)V"⟩, 48) := ⟨⟨by decide +kernel, by decide +kernel⟩, List.mem_of_getElem? (i := 668) (by decide +kernel), List.mem_of_getElem? (i := 946) (by decide +kernel), List.mem_of_getElem? (i := 947) (by decide +kernel)⟩
theorem lw_p27 : lw_okq (⟨"BathHouseModel", "lockerOf", "(I)I"⟩, 48) := ⟨⟨by decide +kernel, by decide +kernel⟩, List.mem_of_getElem? (i := 668) (by decide +kernel), List.mem_of_getElem? (i := 950) (by decide +kernel), List.mem_of_getElem? (i := 951) (by decide +kernel)⟩
theorem lw_p28 : lw_okq (⟨"BathHouseModel", "isFree", "(II)Z"⟩, 48) := ⟨⟨by decide +kernel, by decide +kernel⟩, List.mem_of_getElem? (i := 668) (by decide +kernel), List.mem_of_getElem? (i := 982) (by decide +kernel), List.mem_of_getElem? (i := 983) (by decide +kernel)⟩
def lw_privs_2 : List (MethodName × Nat) := [(⟨"BathHouseModel", "mostNow", "(I)I"⟩, 48), (⟨"BathHouseModel", "begins", "(III)V"⟩, 48), (⟨"BathHouseModel", "has", "(I)Z"⟩, 48), (⟨"BathHouseModel", "truth", "(IZ)I"⟩, 48), (⟨"BathHouseModel", "isTicket", "(I)Z"⟩, 48), (⟨"BathHouseModel", "isClubbed", "(I)Z"⟩, 48), (⟨"BathHouseModel", "isThere", "(I)Z"⟩, 48), (⟨"BathHouseModel", "inSchool", "(IZ)I"⟩, 48), (⟨"BathHouseModel", "beyond", "(I)I"⟩, 48), (⟨"BathHouseModel", "isTimed", "(I)Z"⟩, 48), (⟨"BathHouseModel", "leaves", "(I)V"⟩, 48), (⟨"BathHouseModel", "lockerOf", "(I)I"⟩, 48), (⟨"BathHouseModel", "isFree", "(II)Z"⟩, 48)]
theorem lw_r2 : ∀ q ∈ lw_privs_2, lw_okq q := List.forall_mem_cons.mpr ⟨lw_p16, List.forall_mem_cons.mpr ⟨lw_p17, List.forall_mem_cons.mpr ⟨lw_p18, List.forall_mem_cons.mpr ⟨lw_p19, List.forall_mem_cons.mpr ⟨lw_p20, List.forall_mem_cons.mpr ⟨lw_p21, List.forall_mem_cons.mpr ⟨lw_p22, List.forall_mem_cons.mpr ⟨lw_p23, List.forall_mem_cons.mpr ⟨lw_p24, List.forall_mem_cons.mpr ⟨lw_p25, List.forall_mem_cons.mpr ⟨lw_p26, List.forall_mem_cons.mpr ⟨lw_p27, List.forall_mem_cons.mpr ⟨lw_p28, fun _ h => absurd h List.not_mem_nil⟩⟩⟩⟩⟩⟩⟩⟩⟩⟩⟩⟩⟩
def lw_privs : List (MethodName × Nat) := lw_privs_1 ++ (lw_privs_2)
def lw_tbl : List Cond := k2_sels lw_privs ++ tables_1
theorem lw_privs_ok : ∀ q ∈ lw_privs, lw_okq q := by
  show ∀ q ∈ lw_privs_1 ++ (lw_privs_2), lw_okq q
  exact List.forall_mem_append.mpr ⟨lw_r1, lw_r2⟩
/-- the streams that the claim lets the run draw from -/
abbrev lw_cs : List Choice := [Jvm.Choice.named "NaN.bits"]
theorem lw_bits : nanBits ∈ lw_cs := by first | decide | exact List.mem_cons_self | simp [lw_cs, nanBits]
def RX0 : String := "BathHouse$Club"
def TX0 : u_T := fun k => match k with
  | 0 => ("BathHouse$Club", "pool", "LBathHouse$Pool;", true)
  | 1 => ("BathHouse$Club", "lanes", "I", true)
  | 2 => ("BathHouse$Club", "from", "I", true)
  | 3 => ("BathHouse$Club", "pupils", "I", true)
  | 4 => ("BathHouse$Club", "to", "I", false)
  | 5 => ("BathHouse$Club", "pupilsIn", "I", false)
  | _ => ("BathHouse$Club", "teachersIn", "I", false)
def tyX0 : Nat → FieldType := fun k => match k with
  | 0 => .object "BathHouse$Pool"
  | 1 => .int
  | 2 => .int
  | 3 => .int
  | 4 => .int
  | 5 => .int
  | _ => .int
abbrev wsX00 : List Cond := u_ws RX0 TX0 7
theorem nmX0 : ∀ a, a < 7 → ∀ b, b < 7 → a ≠ b → (TX0 a).2.1 ≠ (TX0 b).2.1 := by decide +kernel
theorem tyX0_ok : ∀ k, k < 7 → parseFieldDescriptor (TX0 k).2.2.1 = some (tyX0 k) := by decide +kernel
abbrev cX0_init : ByteArray := prog_2_method_1_code
def yX0_init : MethodName := ⟨RX0, "<init>", "(LBathHouse$Pool;IIII)V"⟩
abbrev cX0_isSchool : ByteArray := prog_2_method_2_code
def yX0_isSchool : MethodName := ⟨RX0, "isSchool", "()Z"⟩
abbrev cX0_isThere : ByteArray := prog_2_method_3_code
def yX0_isThere : MethodName := ⟨RX0, "isThere", "(I)Z"⟩
abbrev cX0_clashesWith : ByteArray := prog_2_method_4_code
def yX0_clashesWith : MethodName := ⟨RX0, "clashesWith", "(LBathHouse$Club;)Z"⟩
abbrev cX0_pass : ByteArray := prog_2_method_5_code
def yX0_pass : MethodName := ⟨RX0, "pass", "(ZI)V"⟩
def RX1 : String := "BathHouse$Door"
def TX1 : u_T := fun k => match k with
  | 0 => ("BathHouse$Door", "isOn", "Z", false)
  | 1 => ("BathHouse$Door", "wasOff", "Z", false)
  | 2 => ("BathHouse$Door", "least", "I", false)
  | 3 => ("BathHouse$Door", "most", "I", false)
  | 4 => ("BathHouse$Door", "seen", "I", false)
  | 5 => ("BathHouse$Door", "cameIn", "I", false)
  | _ => ("BathHouse$Door", "wentOut", "I", false)
def tyX1 : Nat → FieldType := fun k => match k with
  | 0 => .boolean
  | 1 => .boolean
  | 2 => .int
  | 3 => .int
  | 4 => .int
  | 5 => .int
  | _ => .int
abbrev wsX10 : List Cond := u_ws RX1 TX1 7
theorem nmX1 : ∀ a, a < 7 → ∀ b, b < 7 → a ≠ b → (TX1 a).2.1 ≠ (TX1 b).2.1 := by decide +kernel
theorem tyX1_ok : ∀ k, k < 7 → parseFieldDescriptor (TX1 k).2.2.1 = some (tyX1 k) := by decide +kernel
abbrev cX1_init : ByteArray := prog_3_method_1_code
def yX1_init : MethodName := ⟨RX1, "<init>", "()V"⟩
abbrev cX1_turnEye : ByteArray := prog_3_method_2_code
def yX1_turnEye : MethodName := ⟨RX1, "turnEye", "(Z)V"⟩
abbrev cX1_leastNow : ByteArray := prog_3_method_3_code
def yX1_leastNow : MethodName := ⟨RX1, "leastNow", "()I"⟩
abbrev cX1_mostNow : ByteArray := prog_3_method_4_code
def yX1_mostNow : MethodName := ⟨RX1, "mostNow", "()I"⟩
abbrev cX1_startFrom : ByteArray := prog_3_method_5_code
def yX1_startFrom : MethodName := ⟨RX1, "startFrom", "(II)V"⟩
abbrev cX1_endMinute : ByteArray := prog_3_method_6_code
def yX1_endMinute : MethodName := ⟨RX1, "endMinute", "()V"⟩
def RX2 : String := "BathHouse$Lockers"
def TX2 : u_T := fun k => match k with
  | 0 => ("BathHouse$Lockers", "owner", "[I", true)
  | _ => ("BathHouse$Lockers", "isLost", "[Z", true)
def tyX2 : Nat → FieldType := fun k => match k with
  | 0 => .array .int
  | _ => .array .boolean
abbrev wsX20 : List Cond := u_ws RX2 TX2 2
theorem nmX2 : ∀ a, a < 2 → ∀ b, b < 2 → a ≠ b → (TX2 a).2.1 ≠ (TX2 b).2.1 := by decide +kernel
theorem tyX2_ok : ∀ k, k < 2 → parseFieldDescriptor (TX2 k).2.2.1 = some (tyX2 k) := by decide +kernel
abbrev cX2_init : ByteArray := prog_4_method_1_code
def yX2_init : MethodName := ⟨RX2, "<init>", "()V"⟩
abbrev cX2_isLocker : ByteArray := prog_4_method_2_code
def yX2_isLocker : MethodName := ⟨RX2, "isLocker", "(I)Z"⟩
abbrev cX2_takeLowest : ByteArray := prog_4_method_3_code
def yX2_takeLowest : MethodName := ⟨RX2, "takeLowest", "(I)I"⟩
abbrev cX2_hangKey : ByteArray := prog_4_method_4_code
def yX2_hangKey : MethodName := ⟨RX2, "hangKey", "(I)V"⟩
abbrev cX2_lose : ByteArray := prog_4_method_5_code
def yX2_lose : MethodName := ⟨RX2, "lose", "(I)V"⟩
abbrev cX2_lostOnes : ByteArray := prog_4_method_6_code
def yX2_lostOnes : MethodName := ⟨RX2, "lostOnes", "()I"⟩
abbrev cX2_keysOut : ByteArray := prog_4_method_7_code
def yX2_keysOut : MethodName := ⟨RX2, "keysOut", "()I"⟩
def RX3 : String := "BathHouse$Pool"
def TX3 : u_T := fun k => match k with
  | 0 => ("BathHouse$Pool", "number", "I", true)
  | 1 => ("BathHouse$Pool", "heads", "I", true)
  | 2 => ("BathHouse$Pool", "lanes", "I", true)
  | 3 => ("BathHouse$Pool", "posts", "[LBathHouse$Post;", true)
  | 4 => ("BathHouse$Pool", "things", "[LBathHouse$Thing;", true)
  | 5 => ("BathHouse$Pool", "door", "LBathHouse$Door;", true)
  | 6 => ("BathHouse$Pool", "inside", "I", false)
  | 7 => ("BathHouse$Pool", "watchersInside", "I", false)
  | 8 => ("BathHouse$Pool", "putEnd", "I", false)
  | 9 => ("BathHouse$Pool", "shutMinutes", "I", false)
  | 10 => ("BathHouse$Pool", "volume", "I", false)
  | _ => ("BathHouse$Pool", "flow", "I", false)
def tyX3 : Nat → FieldType := fun k => match k with
  | 0 => .int
  | 1 => .int
  | 2 => .int
  | 3 => .array (.object "BathHouse$Post")
  | 4 => .array (.object "BathHouse$Thing")
  | 5 => .object "BathHouse$Door"
  | 6 => .int
  | 7 => .int
  | 8 => .int
  | 9 => .int
  | 10 => .int
  | _ => .int
abbrev wsX30 : List Cond := u_ws RX3 TX3 12
theorem nmX3 : ∀ a, a < 12 → ∀ b, b < 12 → a ≠ b → (TX3 a).2.1 ≠ (TX3 b).2.1 := by decide +kernel
theorem tyX3_ok : ∀ k, k < 12 → parseFieldDescriptor (TX3 k).2.2.1 = some (tyX3 k) := by decide +kernel
abbrev cX3_init : ByteArray := prog_5_method_1_code
def yX3_init : MethodName := ⟨RX3, "<init>", "(IIII)V"⟩
abbrev cX3_hasLanes : ByteArray := prog_5_method_2_code
def yX3_hasLanes : MethodName := ⟨RX3, "hasLanes", "(I)Z"⟩
abbrev cX3_letIn : ByteArray := prog_5_method_3_code
def yX3_letIn : MethodName := ⟨RX3, "letIn", "(LBathHouse$Ticket;)V"⟩
abbrev cX3_letOut : ByteArray := prog_5_method_4_code
def yX3_letOut : MethodName := ⟨RX3, "letOut", "(LBathHouse$Ticket;)V"⟩
abbrev cX3_filledPosts : ByteArray := prog_5_method_5_code
def yX3_filledPosts : MethodName := ⟨RX3, "filledPosts", "(I)I"⟩
abbrev cX3_reasonsIn : ByteArray := prog_5_method_6_code
def yX3_reasonsIn : MethodName := ⟨RX3, "reasonsIn", "(I)I"⟩
abbrev cX3_endMinute : ByteArray := prog_5_method_7_code
def yX3_endMinute : MethodName := ⟨RX3, "endMinute", "(I)V"⟩
def RX4 : String := "BathHouse$Post"
def TX4 : u_T := fun k => match k with
  | 0 => ("BathHouse$Post", "watcher", "LBathHouse$Ticket;", false)
  | _ => ("BathHouse$Post", "since", "I", false)
def tyX4 : Nat → FieldType := fun k => match k with
  | 0 => .object "BathHouse$Ticket"
  | _ => .int
abbrev wsX40 : List Cond := u_ws RX4 TX4 2
theorem nmX4 : ∀ a, a < 2 → ∀ b, b < 2 → a ≠ b → (TX4 a).2.1 ≠ (TX4 b).2.1 := by decide +kernel
theorem tyX4_ok : ∀ k, k < 2 → parseFieldDescriptor (TX4 k).2.2.1 = some (tyX4 k) := by decide +kernel
abbrev cX4_init : ByteArray := prog_6_method_1_code
def yX4_init : MethodName := ⟨RX4, "<init>", "()V"⟩
abbrev cX4_isFilled : ByteArray := prog_6_method_2_code
def yX4_isFilled : MethodName := ⟨RX4, "isFilled", "(I)Z"⟩
def RX5 : String := "BathHouse$PumpHours"
def TX5 : u_T := fun k => match k with
  | 0 => ("BathHouse$PumpHours", "prices", "[I", true)
  | 1 => ("BathHouse$PumpHours", "isTaken", "[Z", true)
  | 2 => ("BathHouse$PumpHours", "isChosen", "Z", false)
  | _ => ("BathHouse$PumpHours", "sum", "I", false)
def tyX5 : Nat → FieldType := fun k => match k with
  | 0 => .array .int
  | 1 => .array .boolean
  | 2 => .boolean
  | _ => .int
abbrev wsX50 : List Cond := u_ws RX5 TX5 4
theorem nmX5 : ∀ a, a < 4 → ∀ b, b < 4 → a ≠ b → (TX5 a).2.1 ≠ (TX5 b).2.1 := by decide +kernel
theorem tyX5_ok : ∀ k, k < 4 → parseFieldDescriptor (TX5 k).2.2.1 = some (tyX5 k) := by decide +kernel
abbrev cX5_init : ByteArray := prog_7_method_1_code
def yX5_init : MethodName := ⟨RX5, "<init>", "()V"⟩
abbrev cX5_takeCheapest : ByteArray := prog_7_method_2_code
def yX5_takeCheapest : MethodName := ⟨RX5, "takeCheapest", "(I)V"⟩
abbrev cX5_takeNext : ByteArray := prog_7_method_3_code
def yX5_takeNext : MethodName := ⟨RX5, "takeNext", "()V"⟩
def RX6 : String := "BathHouse$Thing"
def TX6 : u_T := fun k => match k with
  | 0 => ("BathHouse$Thing", "low", "I", false)
  | 1 => ("BathHouse$Thing", "high", "I", false)
  | 2 => ("BathHouse$Thing", "latest", "I", false)
  | 3 => ("BathHouse$Thing", "measuredAt", "I", false)
  | _ => ("BathHouse$Thing", "isMeasured", "Z", false)
def tyX6 : Nat → FieldType := fun k => match k with
  | 0 => .int
  | 1 => .int
  | 2 => .int
  | 3 => .int
  | _ => .boolean
abbrev wsX60 : List Cond := u_ws RX6 TX6 5
theorem nmX6 : ∀ a, a < 5 → ∀ b, b < 5 → a ≠ b → (TX6 a).2.1 ≠ (TX6 b).2.1 := by decide +kernel
theorem tyX6_ok : ∀ k, k < 5 → parseFieldDescriptor (TX6 k).2.2.1 = some (tyX6 k) := by decide +kernel
abbrev cX6_init : ByteArray := prog_8_method_1_code
def yX6_init : MethodName := ⟨RX6, "<init>", "()V"⟩
abbrev cX6_takeMeasure : ByteArray := prog_8_method_2_code
def yX6_takeMeasure : MethodName := ⟨RX6, "takeMeasure", "(II)V"⟩
abbrev cX6_isRight : ByteArray := prog_8_method_3_code
def yX6_isRight : MethodName := ⟨RX6, "isRight", "()Z"⟩
abbrev cX6_isStale : ByteArray := prog_8_method_4_code
def yX6_isStale : MethodName := ⟨RX6, "isStale", "(I)Z"⟩
def RX7 : String := "BathHouse$Ticket"
def TX7 : u_T := fun k => match k with
  | 0 => ("BathHouse$Ticket", "number", "I", true)
  | 1 => ("BathHouse$Ticket", "pool", "LBathHouse$Pool;", true)
  | 2 => ("BathHouse$Ticket", "kind", "I", true)
  | 3 => ("BathHouse$Ticket", "minutes", "I", true)
  | 4 => ("BathHouse$Ticket", "club", "LBathHouse$Club;", true)
  | 5 => ("BathHouse$Ticket", "isTeacher", "Z", true)
  | 6 => ("BathHouse$Ticket", "isIn", "Z", false)
  | 7 => ("BathHouse$Ticket", "cameAt", "I", false)
  | 8 => ("BathHouse$Ticket", "cameWith", "I", false)
  | 9 => ("BathHouse$Ticket", "timesIn", "I", false)
  | 10 => ("BathHouse$Ticket", "owed", "I", false)
  | 11 => ("BathHouse$Ticket", "locker", "I", false)
  | 12 => ("BathHouse$Ticket", "post", "LBathHouse$Post;", false)
  | _ => ("BathHouse$Ticket", "leftPostAt", "I", false)
def tyX7 : Nat → FieldType := fun k => match k with
  | 0 => .int
  | 1 => .object "BathHouse$Pool"
  | 2 => .int
  | 3 => .int
  | 4 => .object "BathHouse$Club"
  | 5 => .boolean
  | 6 => .boolean
  | 7 => .int
  | 8 => .int
  | 9 => .int
  | 10 => .int
  | 11 => .int
  | 12 => .object "BathHouse$Post"
  | _ => .int
abbrev wsX70 : List Cond := u_ws RX7 TX7 14
theorem nmX7 : ∀ a, a < 14 → ∀ b, b < 14 → a ≠ b → (TX7 a).2.1 ≠ (TX7 b).2.1 := by decide +kernel
theorem tyX7_ok : ∀ k, k < 14 → parseFieldDescriptor (TX7 k).2.2.1 = some (tyX7 k) := by decide +kernel
abbrev cX7_init : ByteArray := prog_9_method_1_code
def yX7_init : MethodName := ⟨RX7, "<init>", "(ILBathHouse$Pool;IILBathHouse$Club;Z)V"⟩
abbrev cX7_isItsTime : ByteArray := prog_9_method_2_code
def yX7_isItsTime : MethodName := ⟨RX7, "isItsTime", "(I)Z"⟩
abbrev cX7_lacksTeacher : ByteArray := prog_9_method_3_code
def yX7_lacksTeacher : MethodName := ⟨RX7, "lacksTeacher", "()Z"⟩
abbrev cX7_comeIn : ByteArray := prog_9_method_4_code
def yX7_comeIn : MethodName := ⟨RX7, "comeIn", "(I)V"⟩
abbrev cX7_goOut : ByteArray := prog_9_method_5_code
def yX7_goOut : MethodName := ⟨RX7, "goOut", "(II)V"⟩
abbrev cX7_minutesLeft : ByteArray := prog_9_method_6_code
def yX7_minutesLeft : MethodName := ⟨RX7, "minutesLeft", "(I)I"⟩
abbrev cX7_owes : ByteArray := prog_9_method_7_code
def yX7_owes : MethodName := ⟨RX7, "owes", "(I)I"⟩
abbrev cX7_mayStand : ByteArray := prog_9_method_8_code
def yX7_mayStand : MethodName := ⟨RX7, "mayStand", "(I)Z"⟩
abbrev cX7_standAt : ByteArray := prog_9_method_9_code
def yX7_standAt : MethodName := ⟨RX7, "standAt", "(LBathHouse$Post;I)V"⟩
abbrev cX7_leavePost : ByteArray := prog_9_method_10_code
def yX7_leavePost : MethodName := ⟨RX7, "leavePost", "(I)V"⟩
def RX8 : String := "BathHouse"
def TX8 : u_T := fun k => match k with
  | 0 => ("BathHouse", "pools", "[LBathHouse$Pool;", true)
  | 1 => ("BathHouse", "tickets", "[LBathHouse$Ticket;", true)
  | 2 => ("BathHouse", "clubs", "[LBathHouse$Club;", true)
  | 3 => ("BathHouse", "lockers", "LBathHouse$Lockers;", true)
  | 4 => ("BathHouse", "pumpHours", "LBathHouse$PumpHours;", true)
  | 5 => ("BathHouse", "now", "I", false)
  | 6 => ("BathHouse", "ticketCount", "I", false)
  | 7 => ("BathHouse", "clubCount", "I", false)
  | 8 => ("BathHouse", "clashed", "I", false)
  | _ => ("BathHouse", "owedInAll", "I", false)
def tyX8 : Nat → FieldType := fun k => match k with
  | 0 => .array (.object "BathHouse$Pool")
  | 1 => .array (.object "BathHouse$Ticket")
  | 2 => .array (.object "BathHouse$Club")
  | 3 => .object "BathHouse$Lockers"
  | 4 => .object "BathHouse$PumpHours"
  | 5 => .int
  | 6 => .int
  | 7 => .int
  | 8 => .int
  | _ => .int
abbrev wsX80 : List Cond := u_ws RX8 TX8 10
theorem nmX8 : ∀ a, a < 10 → ∀ b, b < 10 → a ≠ b → (TX8 a).2.1 ≠ (TX8 b).2.1 := by decide +kernel
theorem tyX8_ok : ∀ k, k < 10 → parseFieldDescriptor (TX8 k).2.2.1 = some (tyX8 k) := by decide +kernel
abbrev cX8_init : ByteArray := prog_1_method_1_code
def yX8_init : MethodName := ⟨RX8, "<init>", "()V"⟩
abbrev cX8_pool : ByteArray := prog_1_method_2_code
def yX8_pool : MethodName := ⟨RX8, "pool", "(IIII)Z"⟩
abbrev cX8_go : ByteArray := prog_1_method_3_code
def yX8_go : MethodName := ⟨RX8, "go", "(I)I"⟩
abbrev cX8_ticket : ByteArray := prog_1_method_4_code
def yX8_ticket : MethodName := ⟨RX8, "ticket", "(IIIZ)I"⟩
abbrev cX8_club : ByteArray := prog_1_method_5_code
def yX8_club : MethodName := ⟨RX8, "club", "(IIIII)I"⟩
abbrev cX8_clash : ByteArray := prog_1_method_6_code
def yX8_clash : MethodName := ⟨RX8, "clash", "()I"⟩
abbrev cX8_leave : ByteArray := prog_1_method_7_code
def yX8_leave : MethodName := ⟨RX8, "leave", "(I)Z"⟩
abbrev cX8_may : ByteArray := prog_1_method_8_code
def yX8_may : MethodName := ⟨RX8, "may", "(I)I"⟩
abbrev cX8_in : ByteArray := prog_1_method_9_code
def yX8_in : MethodName := ⟨RX8, "in", "(I)I"⟩
abbrev cX8_out : ByteArray := prog_1_method_10_code
def yX8_out : MethodName := ⟨RX8, "out", "(I)I"⟩
abbrev cX8_eye : ByteArray := prog_1_method_11_code
def yX8_eye : MethodName := ⟨RX8, "eye", "(IZ)Z"⟩
abbrev cX8_hand : ByteArray := prog_1_method_12_code
def yX8_hand : MethodName := ⟨RX8, "hand", "(I)I"⟩
abbrev cX8_count : ByteArray := prog_1_method_13_code
def yX8_count : MethodName := ⟨RX8, "count", "(II)I"⟩
abbrev cX8_bounds : ByteArray := prog_1_method_14_code
def yX8_bounds : MethodName := ⟨RX8, "bounds", "(IIII)Z"⟩
abbrev cX8_measure : ByteArray := prog_1_method_15_code
def yX8_measure : MethodName := ⟨RX8, "measure", "(IIF)I"⟩
abbrev cX8_put : ByteArray := prog_1_method_16_code
def yX8_put : MethodName := ⟨RX8, "put", "(II)Z"⟩
abbrev cX8_shut : ByteArray := prog_1_method_17_code
def yX8_shut : MethodName := ⟨RX8, "shut", "(I)I"⟩
abbrev cX8_minutes : ByteArray := prog_1_method_18_code
def yX8_minutes : MethodName := ⟨RX8, "minutes", "(I)I"⟩
abbrev cX8_post : ByteArray := prog_1_method_19_code
def yX8_post : MethodName := ⟨RX8, "post", "(III)I"⟩
abbrev cX8_watcher : ByteArray := prog_1_method_20_code
def yX8_watcher : MethodName := ⟨RX8, "watcher", "(II)I"⟩
abbrev cX8_key : ByteArray := prog_1_method_21_code
def yX8_key : MethodName := ⟨RX8, "key", "(I)I"⟩
abbrev cX8_give : ByteArray := prog_1_method_22_code
def yX8_give : MethodName := ⟨RX8, "give", "(I)I"⟩
abbrev cX8_mend : ByteArray := prog_1_method_23_code
def yX8_mend : MethodName := ⟨RX8, "mend", "(I)I"⟩
abbrev cX8_locker : ByteArray := prog_1_method_24_code
def yX8_locker : MethodName := ⟨RX8, "locker", "(I)I"⟩
abbrev cX8_told : ByteArray := prog_1_method_25_code
def yX8_told : MethodName := ⟨RX8, "told", "(II)I"⟩
abbrev cX8_pump : ByteArray := prog_1_method_26_code
def yX8_pump : MethodName := ⟨RX8, "pump", "(III)Z"⟩
abbrev cX8_price : ByteArray := prog_1_method_27_code
def yX8_price : MethodName := ⟨RX8, "price", "(II)Z"⟩
abbrev cX8_turn : ByteArray := prog_1_method_28_code
def yX8_turn : MethodName := ⟨RX8, "turn", "(II)I"⟩
abbrev cX8_hour : ByteArray := prog_1_method_29_code
def yX8_hour : MethodName := ⟨RX8, "hour", "(I)I"⟩
abbrev cX8_all : ByteArray := prog_1_method_30_code
def yX8_all : MethodName := ⟨RX8, "all", "(I)I"⟩
abbrev cX8_isWithin : ByteArray := prog_1_method_31_code
def yX8_isWithin : MethodName := ⟨RX8, "isWithin", "(III)Z"⟩
abbrev cX8_poolOf : ByteArray := prog_1_method_32_code
def yX8_poolOf : MethodName := ⟨RX8, "poolOf", "(I)LBathHouse$Pool;"⟩
abbrev cX8_ticketOf : ByteArray := prog_1_method_33_code
def yX8_ticketOf : MethodName := ⟨RX8, "ticketOf", "(I)LBathHouse$Ticket;"⟩
abbrev cX8_clubOf : ByteArray := prog_1_method_34_code
def yX8_clubOf : MethodName := ⟨RX8, "clubOf", "(I)LBathHouse$Club;"⟩
abbrev cX8_thingOf : ByteArray := prog_1_method_35_code
def yX8_thingOf : MethodName := ⟨RX8, "thingOf", "(II)LBathHouse$Thing;"⟩
abbrev cX8_postOf : ByteArray := prog_1_method_36_code
def yX8_postOf : MethodName := ⟨RX8, "postOf", "(II)LBathHouse$Post;"⟩
abbrev cX8_numberOf : ByteArray := prog_1_method_37_code
def yX8_numberOf : MethodName := ⟨RX8, "numberOf", "(LBathHouse$Ticket;)I"⟩
abbrev cX8_endMinute : ByteArray := prog_1_method_38_code
def yX8_endMinute : MethodName := ⟨RX8, "endMinute", "()V"⟩
abbrev cX8_isClubKind : ByteArray := prog_1_method_39_code
def yX8_isClubKind : MethodName := ⟨RX8, "isClubKind", "(I)Z"⟩
abbrev cX8_isTicketSold : ByteArray := prog_1_method_40_code
def yX8_isTicketSold : MethodName := ⟨RX8, "isTicketSold", "(LBathHouse$Pool;II)Z"⟩
abbrev cX8_lowestClash : ByteArray := prog_1_method_41_code
def yX8_lowestClash : MethodName := ⟨RX8, "lowestClash", "(LBathHouse$Club;)I"⟩
abbrev cX8_freeLanes : ByteArray := prog_1_method_42_code
def yX8_freeLanes : MethodName := ⟨RX8, "freeLanes", "(LBathHouse$Pool;)I"⟩
abbrev cX8_reasonAgainst : ByteArray := prog_1_method_43_code
def yX8_reasonAgainst : MethodName := ⟨RX8, "reasonAgainst", "(LBathHouse$Ticket;)I"⟩
abbrev cX8_reasonAgainstHead : ByteArray := prog_1_method_44_code
def yX8_reasonAgainstHead : MethodName := ⟨RX8, "reasonAgainstHead", "(LBathHouse$Ticket;)I"⟩
abbrev cX8_hoursNeeded : ByteArray := prog_1_method_45_code
def yX8_hoursNeeded : MethodName := ⟨RX8, "hoursNeeded", "(III)I"⟩
abbrev cX8_insideAllPools : ByteArray := prog_1_method_46_code
def yX8_insideAllPools : MethodName := ⟨RX8, "insideAllPools", "()I"⟩
def RX9 : String := "BathHouseModel"
def TX9 : u_T := fun k => match k with
  | 0 => ("BathHouseModel", "now", "I", false)
  | 1 => ("BathHouseModel", "isPool", "[Z", true)
  | 2 => ("BathHouseModel", "heads", "[I", true)
  | 3 => ("BathHouseModel", "lanes", "[I", true)
  | 4 => ("BathHouseModel", "posts", "[I", true)
  | 5 => ("BathHouseModel", "least", "[I", true)
  | 6 => ("BathHouseModel", "most", "[I", true)
  | 7 => ("BathHouseModel", "seenIn", "[I", true)
  | 8 => ("BathHouseModel", "seenOut", "[I", true)
  | 9 => ("BathHouseModel", "wasOff", "[Z", true)
  | 10 => ("BathHouseModel", "eye", "[Z", true)
  | 11 => ("BathHouseModel", "cameIn", "[I", true)
  | 12 => ("BathHouseModel", "wentOut", "[I", true)
  | 13 => ("BathHouseModel", "shutMinutes", "[I", true)
  | 14 => ("BathHouseModel", "low", "[I", true)
  | 15 => ("BathHouseModel", "high", "[I", true)
  | 16 => ("BathHouseModel", "value", "[I", true)
  | 17 => ("BathHouseModel", "isMeasured", "[Z", true)
  | 18 => ("BathHouseModel", "measured", "[I", true)
  | 19 => ("BathHouseModel", "putTill", "[I", true)
  | 20 => ("BathHouseModel", "stands", "[I", true)
  | 21 => ("BathHouseModel", "since", "[I", true)
  | 22 => ("BathHouseModel", "tickets", "I", false)
  | 23 => ("BathHouseModel", "pool", "[I", true)
  | 24 => ("BathHouseModel", "kind", "[I", true)
  | 25 => ("BathHouseModel", "with", "[I", true)
  | 26 => ("BathHouseModel", "isTeacher", "[Z", true)
  | 27 => ("BathHouseModel", "came", "[I", true)
  | 28 => ("BathHouseModel", "has", "[I", true)
  | 29 => ("BathHouseModel", "isIn", "[Z", true)
  | 30 => ("BathHouseModel", "owes", "[I", true)
  | 31 => ("BathHouseModel", "often", "[I", true)
  | 32 => ("BathHouseModel", "left", "[I", true)
  | 33 => ("BathHouseModel", "keyOf", "[I", true)
  | 34 => ("BathHouseModel", "bagOf", "[I", true)
  | 35 => ("BathHouseModel", "clubs", "I", false)
  | 36 => ("BathHouseModel", "clashed", "I", false)
  | 37 => ("BathHouseModel", "clubPool", "[I", true)
  | 38 => ("BathHouseModel", "clubLanes", "[I", true)
  | 39 => ("BathHouseModel", "clubFrom", "[I", true)
  | 40 => ("BathHouseModel", "clubTo", "[I", true)
  | 41 => ("BathHouseModel", "clubPupils", "[I", true)
  | 42 => ("BathHouseModel", "volume", "[I", true)
  | 43 => ("BathHouseModel", "flow", "[I", true)
  | 44 => ("BathHouseModel", "price", "[I", true)
  | 45 => ("BathHouseModel", "isTaken", "[Z", true)
  | 46 => ("BathHouseModel", "hasTurn", "Z", false)
  | _ => ("BathHouseModel", "sum", "I", false)
def tyX9 : Nat → FieldType := fun k => match k with
  | 0 => .int
  | 1 => .array .boolean
  | 2 => .array .int
  | 3 => .array .int
  | 4 => .array .int
  | 5 => .array .int
  | 6 => .array .int
  | 7 => .array .int
  | 8 => .array .int
  | 9 => .array .boolean
  | 10 => .array .boolean
  | 11 => .array .int
  | 12 => .array .int
  | 13 => .array .int
  | 14 => .array .int
  | 15 => .array .int
  | 16 => .array .int
  | 17 => .array .boolean
  | 18 => .array .int
  | 19 => .array .int
  | 20 => .array .int
  | 21 => .array .int
  | 22 => .int
  | 23 => .array .int
  | 24 => .array .int
  | 25 => .array .int
  | 26 => .array .boolean
  | 27 => .array .int
  | 28 => .array .int
  | 29 => .array .boolean
  | 30 => .array .int
  | 31 => .array .int
  | 32 => .array .int
  | 33 => .array .int
  | 34 => .array .int
  | 35 => .int
  | 36 => .int
  | 37 => .array .int
  | 38 => .array .int
  | 39 => .array .int
  | 40 => .array .int
  | 41 => .array .int
  | 42 => .array .int
  | 43 => .array .int
  | 44 => .array .int
  | 45 => .array .boolean
  | 46 => .boolean
  | _ => .int
abbrev wsX90 : List Cond := u_ws RX9 TX9 48
theorem nmX9 : ∀ a, a < 48 → ∀ b, b < 48 → a ≠ b → (TX9 a).2.1 ≠ (TX9 b).2.1 := by decide +kernel
theorem tyX9_ok : ∀ k, k < 48 → parseFieldDescriptor (TX9 k).2.2.1 = some (tyX9 k) := by decide +kernel
abbrev cX9_init : ByteArray := prog_11_method_1_code
def yX9_init : MethodName := ⟨RX9, "<init>", "()V"⟩
abbrev cX9_in : ByteArray := prog_11_method_2_code
def yX9_in : MethodName := ⟨RX9, "in", "(III)Z"⟩
abbrev cX9_has : ByteArray := prog_11_method_3_code
def yX9_has : MethodName := ⟨RX9, "has", "(I)Z"⟩
abbrev cX9_isTicket : ByteArray := prog_11_method_4_code
def yX9_isTicket : MethodName := ⟨RX9, "isTicket", "(I)Z"⟩
abbrev cX9_pool : ByteArray := prog_11_method_5_code
def yX9_pool : MethodName := ⟨RX9, "pool", "(IIII)Z"⟩
abbrev cX9_leastNow : ByteArray := prog_11_method_6_code
def yX9_leastNow : MethodName := ⟨RX9, "leastNow", "(I)I"⟩
abbrev cX9_mostNow : ByteArray := prog_11_method_7_code
def yX9_mostNow : MethodName := ⟨RX9, "mostNow", "(I)I"⟩
abbrev cX9_begins : ByteArray := prog_11_method_8_code
def yX9_begins : MethodName := ⟨RX9, "begins", "(III)V"⟩
abbrev cX9_go : ByteArray := prog_11_method_9_code
def yX9_go : MethodName := ⟨RX9, "go", "(I)I"⟩
abbrev cX9_eye : ByteArray := prog_11_method_10_code
def yX9_eye : MethodName := ⟨RX9, "eye", "(IZ)Z"⟩
abbrev cX9_truth : ByteArray := prog_11_method_11_code
def yX9_truth : MethodName := ⟨RX9, "truth", "(IZ)I"⟩
abbrev cX9_hand : ByteArray := prog_11_method_12_code
def yX9_hand : MethodName := ⟨RX9, "hand", "(I)I"⟩
abbrev cX9_isThere : ByteArray := prog_11_method_13_code
def yX9_isThere : MethodName := ⟨RX9, "isThere", "(I)Z"⟩
abbrev cX9_club : ByteArray := prog_11_method_14_code
def yX9_club : MethodName := ⟨RX9, "club", "(IIIII)I"⟩
abbrev cX9_clash : ByteArray := prog_11_method_15_code
def yX9_clash : MethodName := ⟨RX9, "clash", "()I"⟩
abbrev cX9_leave : ByteArray := prog_11_method_16_code
def yX9_leave : MethodName := ⟨RX9, "leave", "(I)Z"⟩
abbrev cX9_isFilled : ByteArray := prog_11_method_17_code
def yX9_isFilled : MethodName := ⟨RX9, "isFilled", "(I)Z"⟩
abbrev cX9_reasons : ByteArray := prog_11_method_18_code
def yX9_reasons : MethodName := ⟨RX9, "reasons", "(I)I"⟩
abbrev cX9_bounds : ByteArray := prog_11_method_19_code
def yX9_bounds : MethodName := ⟨RX9, "bounds", "(IIII)Z"⟩
abbrev cX9_measure : ByteArray := prog_11_method_20_code
def yX9_measure : MethodName := ⟨RX9, "measure", "(IIF)I"⟩
abbrev cX9_put : ByteArray := prog_11_method_21_code
def yX9_put : MethodName := ⟨RX9, "put", "(II)Z"⟩
abbrev cX9_shut : ByteArray := prog_11_method_22_code
def yX9_shut : MethodName := ⟨RX9, "shut", "(I)I"⟩
abbrev cX9_minutes : ByteArray := prog_11_method_23_code
def yX9_minutes : MethodName := ⟨RX9, "minutes", "(I)I"⟩
abbrev cX9_ticket : ByteArray := prog_11_method_24_code
def yX9_ticket : MethodName := ⟨RX9, "ticket", "(IIIZ)I"⟩
abbrev cX9_isClubbed : ByteArray := prog_11_method_25_code
def yX9_isClubbed : MethodName := ⟨RX9, "isClubbed", "(I)Z"⟩
abbrev cX9_inSchool : ByteArray := prog_11_method_26_code
def yX9_inSchool : MethodName := ⟨RX9, "inSchool", "(IZ)I"⟩
abbrev cX9_may : ByteArray := prog_11_method_27_code
def yX9_may : MethodName := ⟨RX9, "may", "(I)I"⟩
abbrev cX9_in_ : ByteArray := prog_11_method_28_code
def yX9_in_ : MethodName := ⟨RX9, "in", "(I)I"⟩
abbrev cX9_isTimed : ByteArray := prog_11_method_29_code
def yX9_isTimed : MethodName := ⟨RX9, "isTimed", "(I)Z"⟩
abbrev cX9_beyond : ByteArray := prog_11_method_30_code
def yX9_beyond : MethodName := ⟨RX9, "beyond", "(I)I"⟩
abbrev cX9_out : ByteArray := prog_11_method_31_code
def yX9_out : MethodName := ⟨RX9, "out", "(I)I"⟩
abbrev cX9_leaves : ByteArray := prog_11_method_32_code
def yX9_leaves : MethodName := ⟨RX9, "leaves", "(I)V"⟩
abbrev cX9_post : ByteArray := prog_11_method_33_code
def yX9_post : MethodName := ⟨RX9, "post", "(III)I"⟩
abbrev cX9_watcher : ByteArray := prog_11_method_34_code
def yX9_watcher : MethodName := ⟨RX9, "watcher", "(II)I"⟩
abbrev cX9_lockerOf : ByteArray := prog_11_method_35_code
def yX9_lockerOf : MethodName := ⟨RX9, "lockerOf", "(I)I"⟩
abbrev cX9_key : ByteArray := prog_11_method_36_code
def yX9_key : MethodName := ⟨RX9, "key", "(I)I"⟩
abbrev cX9_give : ByteArray := prog_11_method_37_code
def yX9_give : MethodName := ⟨RX9, "give", "(I)I"⟩
abbrev cX9_mend : ByteArray := prog_11_method_38_code
def yX9_mend : MethodName := ⟨RX9, "mend", "(I)I"⟩
abbrev cX9_locker : ByteArray := prog_11_method_39_code
def yX9_locker : MethodName := ⟨RX9, "locker", "(I)I"⟩
abbrev cX9_count : ByteArray := prog_11_method_40_code
def yX9_count : MethodName := ⟨RX9, "count", "(II)I"⟩
abbrev cX9_isFree : ByteArray := prog_11_method_41_code
def yX9_isFree : MethodName := ⟨RX9, "isFree", "(II)Z"⟩
abbrev cX9_told : ByteArray := prog_11_method_42_code
def yX9_told : MethodName := ⟨RX9, "told", "(II)I"⟩
abbrev cX9_pump : ByteArray := prog_11_method_43_code
def yX9_pump : MethodName := ⟨RX9, "pump", "(III)Z"⟩
abbrev cX9_price : ByteArray := prog_11_method_44_code
def yX9_price : MethodName := ⟨RX9, "price", "(II)Z"⟩
abbrev cX9_turn : ByteArray := prog_11_method_45_code
def yX9_turn : MethodName := ⟨RX9, "turn", "(II)I"⟩
abbrev cX9_hour : ByteArray := prog_11_method_46_code
def yX9_hour : MethodName := ⟨RX9, "hour", "(I)I"⟩
abbrev cX9_all : ByteArray := prog_11_method_47_code
def yX9_all : MethodName := ⟨RX9, "all", "(I)I"⟩
def RJ6 : String := "java/lang/Integer"
def TJ6 : u_T := fun k => match k with
  | _ => ("", "", "", false)
def tyJ6 : Nat → FieldType := fun k => match k with
  | _ => .int
abbrev wsJ60 : List Cond := u_ws RJ6 TJ6 0
theorem nmJ6 : ∀ a, a < 0 → ∀ b, b < 0 → a ≠ b → (TJ6 a).2.1 ≠ (TJ6 b).2.1 := by decide +kernel
theorem tyJ6_ok : ∀ k, k < 0 → parseFieldDescriptor (TJ6 k).2.2.1 = some (tyJ6 k) := by decide +kernel
abbrev cJ6_bitCount_0f7a4 : ByteArray := prog_12_method_49_code
def yJ6_bitCount_0f7a4 : MethodName := ⟨RJ6, "bitCount", "(I)I"⟩
def RJ9 : String := "java/lang/Math"
def TJ9 : u_T := fun k => match k with
  | _ => ("", "", "", false)
def tyJ9 : Nat → FieldType := fun k => match k with
  | _ => .int
abbrev wsJ90 : List Cond := u_ws RJ9 TJ9 0
theorem nmJ9 : ∀ a, a < 0 → ∀ b, b < 0 → a ≠ b → (TJ9 a).2.1 ≠ (TJ9 b).2.1 := by decide +kernel
theorem tyJ9_ok : ∀ k, k < 0 → parseFieldDescriptor (TJ9 k).2.2.1 = some (tyJ9 k) := by decide +kernel
abbrev cJ9_max_7cf53 : ByteArray := prog_13_method_65_code
def yJ9_max_7cf53 : MethodName := ⟨RJ9, "max", "(II)I"⟩
abbrev cJ9_min_7cf53 : ByteArray := prog_13_method_69_code
def yJ9_min_7cf53 : MethodName := ⟨RJ9, "min", "(II)I"⟩
def RL : String := "BathHouseLaw"
abbrev cL_law : ByteArray := code
def yL_law : MethodName := ⟨RL, "law", "([I)Z"⟩
end
section
/-! our own tables: classes, methods, links: every word at its place in lw_tbl -/
abbrev xCl : List vw_C := [(RX0, TX0, 7), (RX1, TX1, 7), (RX2, TX2, 2), (RX3, TX3, 12), (RX4, TX4, 2), (RX5, TX5, 4), (RX6, TX6, 5), (RX7, TX7, 14), (RX8, TX8, 10), (RX9, TX9, 48)]
/-- name, code, locals, answer -/
abbrev xM : Type := MethodName × ByteArray × Nat × Option FieldType
def xT : List Cond := lw_tbl.filter goodWord
theorem xT_of {i : Nat} {w : Cond} (h : lw_tbl[i]? = some w) (hg : goodWord w = true) : w ∈ xT := List.mem_filter.mpr ⟨List.mem_of_getElem? h, hg⟩
theorem xT_good : ∀ w ∈ xT, w ∈ lw_tbl ∧ goodWord w = true := fun _ h => List.mem_filter.mp h
theorem lyX0_0 : u_lay RX0 TX0 0 ∈ xT := xT_of (i := 421) (by decide +kernel) (by decide +kernel)
theorem lyX0_1 : u_lay RX0 TX0 1 ∈ xT := xT_of (i := 423) (by decide +kernel) (by decide +kernel)
theorem lyX0_2 : u_lay RX0 TX0 2 ∈ xT := xT_of (i := 425) (by decide +kernel) (by decide +kernel)
theorem lyX0_3 : u_lay RX0 TX0 3 ∈ xT := xT_of (i := 427) (by decide +kernel) (by decide +kernel)
theorem lyX0_4 : u_lay RX0 TX0 4 ∈ xT := xT_of (i := 429) (by decide +kernel) (by decide +kernel)
theorem lyX0_5 : u_lay RX0 TX0 5 ∈ xT := xT_of (i := 431) (by decide +kernel) (by decide +kernel)
theorem lyX0_6 : u_lay RX0 TX0 6 ∈ xT := xT_of (i := 433) (by decide +kernel) (by decide +kernel)
theorem lyX0 : ∀ k, k < 7 → u_lay RX0 TX0 k ∈ xT
  | 0, _ => lyX0_0
  | 1, _ => lyX0_1
  | 2, _ => lyX0_2
  | 3, _ => lyX0_3
  | 4, _ => lyX0_4
  | 5, _ => lyX0_5
  | 6, _ => lyX0_6
  | n + 7, h => absurd h (by omega)
theorem wiX0 : ∀ w ∈ u_ws RX0 TX0 7, w ∈ xT := fun w h => by
  obtain ⟨k, hk, rfl⟩ := List.mem_map.mp h
  exact lyX0 k (List.mem_range.mp hk)
theorem isX0 : Cond.instantiable RX0 7 ∈ xT := xT_of (i := 402) (by decide +kernel) (by decide +kernel)
theorem ziX0 : Cond.initialized RX0 ∈ xT := xT_of (i := 40) (by decide +kernel) (by decide +kernel)
theorem lyX1_0 : u_lay RX1 TX1 0 ∈ xT := xT_of (i := 160) (by decide +kernel) (by decide +kernel)
theorem lyX1_1 : u_lay RX1 TX1 1 ∈ xT := xT_of (i := 162) (by decide +kernel) (by decide +kernel)
theorem lyX1_2 : u_lay RX1 TX1 2 ∈ xT := xT_of (i := 164) (by decide +kernel) (by decide +kernel)
theorem lyX1_3 : u_lay RX1 TX1 3 ∈ xT := xT_of (i := 166) (by decide +kernel) (by decide +kernel)
theorem lyX1_4 : u_lay RX1 TX1 4 ∈ xT := xT_of (i := 168) (by decide +kernel) (by decide +kernel)
theorem lyX1_5 : u_lay RX1 TX1 5 ∈ xT := xT_of (i := 170) (by decide +kernel) (by decide +kernel)
theorem lyX1_6 : u_lay RX1 TX1 6 ∈ xT := xT_of (i := 172) (by decide +kernel) (by decide +kernel)
theorem lyX1 : ∀ k, k < 7 → u_lay RX1 TX1 k ∈ xT
  | 0, _ => lyX1_0
  | 1, _ => lyX1_1
  | 2, _ => lyX1_2
  | 3, _ => lyX1_3
  | 4, _ => lyX1_4
  | 5, _ => lyX1_5
  | 6, _ => lyX1_6
  | n + 7, h => absurd h (by omega)
theorem wiX1 : ∀ w ∈ u_ws RX1 TX1 7, w ∈ xT := fun w h => by
  obtain ⟨k, hk, rfl⟩ := List.mem_map.mp h
  exact lyX1 k (List.mem_range.mp hk)
theorem isX1 : Cond.instantiable RX1 7 ∈ xT := xT_of (i := 142) (by decide +kernel) (by decide +kernel)
theorem ziX1 : Cond.initialized RX1 ∈ xT := xT_of (i := 35) (by decide +kernel) (by decide +kernel)
theorem lyX2_0 : u_lay RX2 TX2 0 ∈ xT := xT_of (i := 66) (by decide +kernel) (by decide +kernel)
theorem lyX2_1 : u_lay RX2 TX2 1 ∈ xT := xT_of (i := 68) (by decide +kernel) (by decide +kernel)
theorem lyX2 : ∀ k, k < 2 → u_lay RX2 TX2 k ∈ xT
  | 0, _ => lyX2_0
  | 1, _ => lyX2_1
  | n + 2, h => absurd h (by omega)
theorem wiX2 : ∀ w ∈ u_ws RX2 TX2 2, w ∈ xT := fun w h => by
  obtain ⟨k, hk, rfl⟩ := List.mem_map.mp h
  exact lyX2 k (List.mem_range.mp hk)
theorem isX2 : Cond.instantiable RX2 2 ∈ xT := xT_of (i := 57) (by decide +kernel) (by decide +kernel)
theorem ziX2 : Cond.initialized RX2 ∈ xT := xT_of (i := 31) (by decide +kernel) (by decide +kernel)
theorem lyX3_0 : u_lay RX3 TX3 0 ∈ xT := xT_of (i := 240) (by decide +kernel) (by decide +kernel)
theorem lyX3_1 : u_lay RX3 TX3 1 ∈ xT := xT_of (i := 242) (by decide +kernel) (by decide +kernel)
theorem lyX3_2 : u_lay RX3 TX3 2 ∈ xT := xT_of (i := 244) (by decide +kernel) (by decide +kernel)
theorem lyX3_3 : u_lay RX3 TX3 3 ∈ xT := xT_of (i := 246) (by decide +kernel) (by decide +kernel)
theorem lyX3_4 : u_lay RX3 TX3 4 ∈ xT := xT_of (i := 248) (by decide +kernel) (by decide +kernel)
theorem lyX3_5 : u_lay RX3 TX3 5 ∈ xT := xT_of (i := 250) (by decide +kernel) (by decide +kernel)
theorem lyX3_6 : u_lay RX3 TX3 6 ∈ xT := xT_of (i := 252) (by decide +kernel) (by decide +kernel)
theorem lyX3_7 : u_lay RX3 TX3 7 ∈ xT := xT_of (i := 254) (by decide +kernel) (by decide +kernel)
theorem lyX3_8 : u_lay RX3 TX3 8 ∈ xT := xT_of (i := 256) (by decide +kernel) (by decide +kernel)
theorem lyX3_9 : u_lay RX3 TX3 9 ∈ xT := xT_of (i := 258) (by decide +kernel) (by decide +kernel)
theorem lyX3_10 : u_lay RX3 TX3 10 ∈ xT := xT_of (i := 260) (by decide +kernel) (by decide +kernel)
theorem lyX3_11 : u_lay RX3 TX3 11 ∈ xT := xT_of (i := 262) (by decide +kernel) (by decide +kernel)
theorem lyX3 : ∀ k, k < 12 → u_lay RX3 TX3 k ∈ xT
  | 0, _ => lyX3_0
  | 1, _ => lyX3_1
  | 2, _ => lyX3_2
  | 3, _ => lyX3_3
  | 4, _ => lyX3_4
  | 5, _ => lyX3_5
  | 6, _ => lyX3_6
  | 7, _ => lyX3_7
  | 8, _ => lyX3_8
  | 9, _ => lyX3_9
  | 10, _ => lyX3_10
  | 11, _ => lyX3_11
  | n + 12, h => absurd h (by omega)
theorem wiX3 : ∀ w ∈ u_ws RX3 TX3 12, w ∈ xT := fun w h => by
  obtain ⟨k, hk, rfl⟩ := List.mem_map.mp h
  exact lyX3 k (List.mem_range.mp hk)
theorem isX3 : Cond.instantiable RX3 12 ∈ xT := xT_of (i := 134) (by decide +kernel) (by decide +kernel)
theorem ziX3 : Cond.initialized RX3 ∈ xT := xT_of (i := 34) (by decide +kernel) (by decide +kernel)
theorem lyX4_0 : u_lay RX4 TX4 0 ∈ xT := xT_of (i := 190) (by decide +kernel) (by decide +kernel)
theorem lyX4_1 : u_lay RX4 TX4 1 ∈ xT := xT_of (i := 192) (by decide +kernel) (by decide +kernel)
theorem lyX4 : ∀ k, k < 2 → u_lay RX4 TX4 k ∈ xT
  | 0, _ => lyX4_0
  | 1, _ => lyX4_1
  | n + 2, h => absurd h (by omega)
theorem wiX4 : ∀ w ∈ u_ws RX4 TX4 2, w ∈ xT := fun w h => by
  obtain ⟨k, hk, rfl⟩ := List.mem_map.mp h
  exact lyX4 k (List.mem_range.mp hk)
theorem isX4 : Cond.instantiable RX4 2 ∈ xT := xT_of (i := 180) (by decide +kernel) (by decide +kernel)
theorem ziX4 : Cond.initialized RX4 ∈ xT := xT_of (i := 37) (by decide +kernel) (by decide +kernel)
theorem lyX5_0 : u_lay RX5 TX5 0 ∈ xT := xT_of (i := 87) (by decide +kernel) (by decide +kernel)
theorem lyX5_1 : u_lay RX5 TX5 1 ∈ xT := xT_of (i := 89) (by decide +kernel) (by decide +kernel)
theorem lyX5_2 : u_lay RX5 TX5 2 ∈ xT := xT_of (i := 91) (by decide +kernel) (by decide +kernel)
theorem lyX5_3 : u_lay RX5 TX5 3 ∈ xT := xT_of (i := 93) (by decide +kernel) (by decide +kernel)
theorem lyX5 : ∀ k, k < 4 → u_lay RX5 TX5 k ∈ xT
  | 0, _ => lyX5_0
  | 1, _ => lyX5_1
  | 2, _ => lyX5_2
  | 3, _ => lyX5_3
  | n + 4, h => absurd h (by omega)
theorem wiX5 : ∀ w ∈ u_ws RX5 TX5 4, w ∈ xT := fun w h => by
  obtain ⟨k, hk, rfl⟩ := List.mem_map.mp h
  exact lyX5 k (List.mem_range.mp hk)
theorem isX5 : Cond.instantiable RX5 4 ∈ xT := xT_of (i := 74) (by decide +kernel) (by decide +kernel)
theorem ziX5 : Cond.initialized RX5 ∈ xT := xT_of (i := 32) (by decide +kernel) (by decide +kernel)
theorem lyX6_0 : u_lay RX6 TX6 0 ∈ xT := xT_of (i := 207) (by decide +kernel) (by decide +kernel)
theorem lyX6_1 : u_lay RX6 TX6 1 ∈ xT := xT_of (i := 209) (by decide +kernel) (by decide +kernel)
theorem lyX6_2 : u_lay RX6 TX6 2 ∈ xT := xT_of (i := 211) (by decide +kernel) (by decide +kernel)
theorem lyX6_3 : u_lay RX6 TX6 3 ∈ xT := xT_of (i := 213) (by decide +kernel) (by decide +kernel)
theorem lyX6_4 : u_lay RX6 TX6 4 ∈ xT := xT_of (i := 215) (by decide +kernel) (by decide +kernel)
theorem lyX6 : ∀ k, k < 5 → u_lay RX6 TX6 k ∈ xT
  | 0, _ => lyX6_0
  | 1, _ => lyX6_1
  | 2, _ => lyX6_2
  | 3, _ => lyX6_3
  | 4, _ => lyX6_4
  | n + 5, h => absurd h (by omega)
theorem wiX6 : ∀ w ∈ u_ws RX6 TX6 5, w ∈ xT := fun w h => by
  obtain ⟨k, hk, rfl⟩ := List.mem_map.mp h
  exact lyX6 k (List.mem_range.mp hk)
theorem isX6 : Cond.instantiable RX6 5 ∈ xT := xT_of (i := 195) (by decide +kernel) (by decide +kernel)
theorem ziX6 : Cond.initialized RX6 ∈ xT := xT_of (i := 38) (by decide +kernel) (by decide +kernel)
theorem lyX7_0 : u_lay RX7 TX7 0 ∈ xT := xT_of (i := 365) (by decide +kernel) (by decide +kernel)
theorem lyX7_1 : u_lay RX7 TX7 1 ∈ xT := xT_of (i := 367) (by decide +kernel) (by decide +kernel)
theorem lyX7_2 : u_lay RX7 TX7 2 ∈ xT := xT_of (i := 369) (by decide +kernel) (by decide +kernel)
theorem lyX7_3 : u_lay RX7 TX7 3 ∈ xT := xT_of (i := 371) (by decide +kernel) (by decide +kernel)
theorem lyX7_4 : u_lay RX7 TX7 4 ∈ xT := xT_of (i := 373) (by decide +kernel) (by decide +kernel)
theorem lyX7_5 : u_lay RX7 TX7 5 ∈ xT := xT_of (i := 375) (by decide +kernel) (by decide +kernel)
theorem lyX7_6 : u_lay RX7 TX7 6 ∈ xT := xT_of (i := 377) (by decide +kernel) (by decide +kernel)
theorem lyX7_7 : u_lay RX7 TX7 7 ∈ xT := xT_of (i := 379) (by decide +kernel) (by decide +kernel)
theorem lyX7_8 : u_lay RX7 TX7 8 ∈ xT := xT_of (i := 381) (by decide +kernel) (by decide +kernel)
theorem lyX7_9 : u_lay RX7 TX7 9 ∈ xT := xT_of (i := 383) (by decide +kernel) (by decide +kernel)
theorem lyX7_10 : u_lay RX7 TX7 10 ∈ xT := xT_of (i := 385) (by decide +kernel) (by decide +kernel)
theorem lyX7_11 : u_lay RX7 TX7 11 ∈ xT := xT_of (i := 387) (by decide +kernel) (by decide +kernel)
theorem lyX7_12 : u_lay RX7 TX7 12 ∈ xT := xT_of (i := 389) (by decide +kernel) (by decide +kernel)
theorem lyX7_13 : u_lay RX7 TX7 13 ∈ xT := xT_of (i := 391) (by decide +kernel) (by decide +kernel)
theorem lyX7 : ∀ k, k < 14 → u_lay RX7 TX7 k ∈ xT
  | 0, _ => lyX7_0
  | 1, _ => lyX7_1
  | 2, _ => lyX7_2
  | 3, _ => lyX7_3
  | 4, _ => lyX7_4
  | 5, _ => lyX7_5
  | 6, _ => lyX7_6
  | 7, _ => lyX7_7
  | 8, _ => lyX7_8
  | 9, _ => lyX7_9
  | 10, _ => lyX7_10
  | 11, _ => lyX7_11
  | 12, _ => lyX7_12
  | 13, _ => lyX7_13
  | n + 14, h => absurd h (by omega)
theorem wiX7 : ∀ w ∈ u_ws RX7 TX7 14, w ∈ xT := fun w h => by
  obtain ⟨k, hk, rfl⟩ := List.mem_map.mp h
  exact lyX7 k (List.mem_range.mp hk)
theorem isX7 : Cond.instantiable RX7 14 ∈ xT := xT_of (i := 337) (by decide +kernel) (by decide +kernel)
theorem ziX7 : Cond.initialized RX7 ∈ xT := xT_of (i := 39) (by decide +kernel) (by decide +kernel)
theorem lyX8_0 : u_lay RX8 TX8 0 ∈ xT := xT_of (i := 106) (by decide +kernel) (by decide +kernel)
theorem lyX8_1 : u_lay RX8 TX8 1 ∈ xT := xT_of (i := 108) (by decide +kernel) (by decide +kernel)
theorem lyX8_2 : u_lay RX8 TX8 2 ∈ xT := xT_of (i := 110) (by decide +kernel) (by decide +kernel)
theorem lyX8_3 : u_lay RX8 TX8 3 ∈ xT := xT_of (i := 112) (by decide +kernel) (by decide +kernel)
theorem lyX8_4 : u_lay RX8 TX8 4 ∈ xT := xT_of (i := 114) (by decide +kernel) (by decide +kernel)
theorem lyX8_5 : u_lay RX8 TX8 5 ∈ xT := xT_of (i := 116) (by decide +kernel) (by decide +kernel)
theorem lyX8_6 : u_lay RX8 TX8 6 ∈ xT := xT_of (i := 118) (by decide +kernel) (by decide +kernel)
theorem lyX8_7 : u_lay RX8 TX8 7 ∈ xT := xT_of (i := 120) (by decide +kernel) (by decide +kernel)
theorem lyX8_8 : u_lay RX8 TX8 8 ∈ xT := xT_of (i := 122) (by decide +kernel) (by decide +kernel)
theorem lyX8_9 : u_lay RX8 TX8 9 ∈ xT := xT_of (i := 124) (by decide +kernel) (by decide +kernel)
theorem lyX8 : ∀ k, k < 10 → u_lay RX8 TX8 k ∈ xT
  | 0, _ => lyX8_0
  | 1, _ => lyX8_1
  | 2, _ => lyX8_2
  | 3, _ => lyX8_3
  | 4, _ => lyX8_4
  | 5, _ => lyX8_5
  | 6, _ => lyX8_6
  | 7, _ => lyX8_7
  | 8, _ => lyX8_8
  | 9, _ => lyX8_9
  | n + 10, h => absurd h (by omega)
theorem wiX8 : ∀ w ∈ u_ws RX8 TX8 10, w ∈ xT := fun w h => by
  obtain ⟨k, hk, rfl⟩ := List.mem_map.mp h
  exact lyX8 k (List.mem_range.mp hk)
theorem isX8 : Cond.instantiable RX8 10 ∈ xT := xT_of (i := 43) (by decide +kernel) (by decide +kernel)
theorem ziX8 : Cond.initialized RX8 ∈ xT := xT_of (i := 30) (by decide +kernel) (by decide +kernel)
theorem lyX9_0 : u_lay RX9 TX9 0 ∈ xT := xT_of (i := 750) (by decide +kernel) (by decide +kernel)
theorem lyX9_1 : u_lay RX9 TX9 1 ∈ xT := xT_of (i := 752) (by decide +kernel) (by decide +kernel)
theorem lyX9_2 : u_lay RX9 TX9 2 ∈ xT := xT_of (i := 754) (by decide +kernel) (by decide +kernel)
theorem lyX9_3 : u_lay RX9 TX9 3 ∈ xT := xT_of (i := 756) (by decide +kernel) (by decide +kernel)
theorem lyX9_4 : u_lay RX9 TX9 4 ∈ xT := xT_of (i := 758) (by decide +kernel) (by decide +kernel)
theorem lyX9_5 : u_lay RX9 TX9 5 ∈ xT := xT_of (i := 760) (by decide +kernel) (by decide +kernel)
theorem lyX9_6 : u_lay RX9 TX9 6 ∈ xT := xT_of (i := 762) (by decide +kernel) (by decide +kernel)
theorem lyX9_7 : u_lay RX9 TX9 7 ∈ xT := xT_of (i := 764) (by decide +kernel) (by decide +kernel)
theorem lyX9_8 : u_lay RX9 TX9 8 ∈ xT := xT_of (i := 766) (by decide +kernel) (by decide +kernel)
theorem lyX9_9 : u_lay RX9 TX9 9 ∈ xT := xT_of (i := 768) (by decide +kernel) (by decide +kernel)
theorem lyX9_10 : u_lay RX9 TX9 10 ∈ xT := xT_of (i := 770) (by decide +kernel) (by decide +kernel)
theorem lyX9_11 : u_lay RX9 TX9 11 ∈ xT := xT_of (i := 772) (by decide +kernel) (by decide +kernel)
theorem lyX9_12 : u_lay RX9 TX9 12 ∈ xT := xT_of (i := 774) (by decide +kernel) (by decide +kernel)
theorem lyX9_13 : u_lay RX9 TX9 13 ∈ xT := xT_of (i := 776) (by decide +kernel) (by decide +kernel)
theorem lyX9_14 : u_lay RX9 TX9 14 ∈ xT := xT_of (i := 778) (by decide +kernel) (by decide +kernel)
theorem lyX9_15 : u_lay RX9 TX9 15 ∈ xT := xT_of (i := 780) (by decide +kernel) (by decide +kernel)
theorem lyX9_16 : u_lay RX9 TX9 16 ∈ xT := xT_of (i := 782) (by decide +kernel) (by decide +kernel)
theorem lyX9_17 : u_lay RX9 TX9 17 ∈ xT := xT_of (i := 784) (by decide +kernel) (by decide +kernel)
theorem lyX9_18 : u_lay RX9 TX9 18 ∈ xT := xT_of (i := 786) (by decide +kernel) (by decide +kernel)
theorem lyX9_19 : u_lay RX9 TX9 19 ∈ xT := xT_of (i := 788) (by decide +kernel) (by decide +kernel)
theorem lyX9_20 : u_lay RX9 TX9 20 ∈ xT := xT_of (i := 790) (by decide +kernel) (by decide +kernel)
theorem lyX9_21 : u_lay RX9 TX9 21 ∈ xT := xT_of (i := 792) (by decide +kernel) (by decide +kernel)
theorem lyX9_22 : u_lay RX9 TX9 22 ∈ xT := xT_of (i := 794) (by decide +kernel) (by decide +kernel)
theorem lyX9_23 : u_lay RX9 TX9 23 ∈ xT := xT_of (i := 796) (by decide +kernel) (by decide +kernel)
theorem lyX9_24 : u_lay RX9 TX9 24 ∈ xT := xT_of (i := 798) (by decide +kernel) (by decide +kernel)
theorem lyX9_25 : u_lay RX9 TX9 25 ∈ xT := xT_of (i := 800) (by decide +kernel) (by decide +kernel)
theorem lyX9_26 : u_lay RX9 TX9 26 ∈ xT := xT_of (i := 802) (by decide +kernel) (by decide +kernel)
theorem lyX9_27 : u_lay RX9 TX9 27 ∈ xT := xT_of (i := 804) (by decide +kernel) (by decide +kernel)
theorem lyX9_28 : u_lay RX9 TX9 28 ∈ xT := xT_of (i := 806) (by decide +kernel) (by decide +kernel)
theorem lyX9_29 : u_lay RX9 TX9 29 ∈ xT := xT_of (i := 808) (by decide +kernel) (by decide +kernel)
theorem lyX9_30 : u_lay RX9 TX9 30 ∈ xT := xT_of (i := 810) (by decide +kernel) (by decide +kernel)
theorem lyX9_31 : u_lay RX9 TX9 31 ∈ xT := xT_of (i := 812) (by decide +kernel) (by decide +kernel)
theorem lyX9_32 : u_lay RX9 TX9 32 ∈ xT := xT_of (i := 814) (by decide +kernel) (by decide +kernel)
theorem lyX9_33 : u_lay RX9 TX9 33 ∈ xT := xT_of (i := 816) (by decide +kernel) (by decide +kernel)
theorem lyX9_34 : u_lay RX9 TX9 34 ∈ xT := xT_of (i := 818) (by decide +kernel) (by decide +kernel)
theorem lyX9_35 : u_lay RX9 TX9 35 ∈ xT := xT_of (i := 820) (by decide +kernel) (by decide +kernel)
theorem lyX9_36 : u_lay RX9 TX9 36 ∈ xT := xT_of (i := 822) (by decide +kernel) (by decide +kernel)
theorem lyX9_37 : u_lay RX9 TX9 37 ∈ xT := xT_of (i := 824) (by decide +kernel) (by decide +kernel)
theorem lyX9_38 : u_lay RX9 TX9 38 ∈ xT := xT_of (i := 826) (by decide +kernel) (by decide +kernel)
theorem lyX9_39 : u_lay RX9 TX9 39 ∈ xT := xT_of (i := 828) (by decide +kernel) (by decide +kernel)
theorem lyX9_40 : u_lay RX9 TX9 40 ∈ xT := xT_of (i := 830) (by decide +kernel) (by decide +kernel)
theorem lyX9_41 : u_lay RX9 TX9 41 ∈ xT := xT_of (i := 832) (by decide +kernel) (by decide +kernel)
theorem lyX9_42 : u_lay RX9 TX9 42 ∈ xT := xT_of (i := 834) (by decide +kernel) (by decide +kernel)
theorem lyX9_43 : u_lay RX9 TX9 43 ∈ xT := xT_of (i := 836) (by decide +kernel) (by decide +kernel)
theorem lyX9_44 : u_lay RX9 TX9 44 ∈ xT := xT_of (i := 838) (by decide +kernel) (by decide +kernel)
theorem lyX9_45 : u_lay RX9 TX9 45 ∈ xT := xT_of (i := 840) (by decide +kernel) (by decide +kernel)
theorem lyX9_46 : u_lay RX9 TX9 46 ∈ xT := xT_of (i := 842) (by decide +kernel) (by decide +kernel)
theorem lyX9_47 : u_lay RX9 TX9 47 ∈ xT := xT_of (i := 844) (by decide +kernel) (by decide +kernel)
theorem lyX9 : ∀ k, k < 48 → u_lay RX9 TX9 k ∈ xT
  | 0, _ => lyX9_0
  | 1, _ => lyX9_1
  | 2, _ => lyX9_2
  | 3, _ => lyX9_3
  | 4, _ => lyX9_4
  | 5, _ => lyX9_5
  | 6, _ => lyX9_6
  | 7, _ => lyX9_7
  | 8, _ => lyX9_8
  | 9, _ => lyX9_9
  | 10, _ => lyX9_10
  | 11, _ => lyX9_11
  | 12, _ => lyX9_12
  | 13, _ => lyX9_13
  | 14, _ => lyX9_14
  | 15, _ => lyX9_15
  | 16, _ => lyX9_16
  | 17, _ => lyX9_17
  | 18, _ => lyX9_18
  | 19, _ => lyX9_19
  | 20, _ => lyX9_20
  | 21, _ => lyX9_21
  | 22, _ => lyX9_22
  | 23, _ => lyX9_23
  | 24, _ => lyX9_24
  | 25, _ => lyX9_25
  | 26, _ => lyX9_26
  | 27, _ => lyX9_27
  | 28, _ => lyX9_28
  | 29, _ => lyX9_29
  | 30, _ => lyX9_30
  | 31, _ => lyX9_31
  | 32, _ => lyX9_32
  | 33, _ => lyX9_33
  | 34, _ => lyX9_34
  | 35, _ => lyX9_35
  | 36, _ => lyX9_36
  | 37, _ => lyX9_37
  | 38, _ => lyX9_38
  | 39, _ => lyX9_39
  | 40, _ => lyX9_40
  | 41, _ => lyX9_41
  | 42, _ => lyX9_42
  | 43, _ => lyX9_43
  | 44, _ => lyX9_44
  | 45, _ => lyX9_45
  | 46, _ => lyX9_46
  | 47, _ => lyX9_47
  | n + 48, h => absurd h (by omega)
theorem wiX9 : ∀ w ∈ u_ws RX9 TX9 48, w ∈ xT := fun w h => by
  obtain ⟨k, hk, rfl⟩ := List.mem_map.mp h
  exact lyX9 k (List.mem_range.mp hk)
theorem isX9 : Cond.instantiable RX9 48 ∈ xT := xT_of (i := 697) (by decide +kernel) (by decide +kernel)
theorem ziX9 : Cond.initialized RX9 ∈ xT := xT_of (i := 33) (by decide +kernel) (by decide +kernel)
def xFL (own : String) (idx ci k : Nat) (fin : Bool) (ty : FieldType) : Prop := ∃ (C : String) (T : u_T) (N : Nat), xCl[ci]? = some (C, T, N) ∧ k < N ∧ Cond.fieldLink own idx C (T k).2.1 (T k).2.2.1 ∈ xT ∧ (T k).1 = C ∧ (T k).2.2.2 = fin ∧ parseFieldDescriptor (T k).2.2.1 = some ty
theorem fX2_9 : xFL RX2 9 2 0 true (.array .int) := ⟨RX2, TX2, 2, rfl, by decide, xT_of (i := 62) (by decide +kernel) (by decide +kernel), rfl, rfl, by decide +kernel⟩
theorem fX8_255 : xFL RX8 255 2 0 true (.array .int) := ⟨RX2, TX2, 2, rfl, by decide, xT_of (i := 63) (by decide +kernel) (by decide +kernel), rfl, rfl, by decide +kernel⟩
theorem fX2_15 : xFL RX2 15 2 1 true (.array .boolean) := ⟨RX2, TX2, 2, rfl, by decide, xT_of (i := 64) (by decide +kernel) (by decide +kernel), rfl, rfl, by decide +kernel⟩
theorem fX8_251 : xFL RX8 251 2 1 true (.array .boolean) := ⟨RX2, TX2, 2, rfl, by decide, xT_of (i := 65) (by decide +kernel) (by decide +kernel), rfl, rfl, by decide +kernel⟩
theorem fX5_9 : xFL RX5 9 5 0 true (.array .int) := ⟨RX5, TX5, 4, rfl, by decide, xT_of (i := 79) (by decide +kernel) (by decide +kernel), rfl, rfl, by decide +kernel⟩
theorem fX8_283 : xFL RX8 283 5 0 true (.array .int) := ⟨RX5, TX5, 4, rfl, by decide, xT_of (i := 80) (by decide +kernel) (by decide +kernel), rfl, rfl, by decide +kernel⟩
theorem fX5_15 : xFL RX5 15 5 1 true (.array .boolean) := ⟨RX5, TX5, 4, rfl, by decide, xT_of (i := 81) (by decide +kernel) (by decide +kernel), rfl, rfl, by decide +kernel⟩
theorem fX8_299 : xFL RX8 299 5 1 true (.array .boolean) := ⟨RX5, TX5, 4, rfl, by decide, xT_of (i := 82) (by decide +kernel) (by decide +kernel), rfl, rfl, by decide +kernel⟩
theorem fX5_19 : xFL RX5 19 5 2 false (.boolean) := ⟨RX5, TX5, 4, rfl, by decide, xT_of (i := 83) (by decide +kernel) (by decide +kernel), rfl, rfl, by decide +kernel⟩
theorem fX8_293 : xFL RX8 293 5 2 false (.boolean) := ⟨RX5, TX5, 4, rfl, by decide, xT_of (i := 84) (by decide +kernel) (by decide +kernel), rfl, rfl, by decide +kernel⟩
theorem fX5_23 : xFL RX5 23 5 3 false (.int) := ⟨RX5, TX5, 4, rfl, by decide, xT_of (i := 85) (by decide +kernel) (by decide +kernel), rfl, rfl, by decide +kernel⟩
theorem fX8_296 : xFL RX8 296 5 3 false (.int) := ⟨RX5, TX5, 4, rfl, by decide, xT_of (i := 86) (by decide +kernel) (by decide +kernel), rfl, rfl, by decide +kernel⟩
theorem fX8_11 : xFL RX8 11 8 0 true (.array (.object "BathHouse$Pool")) := ⟨RX8, TX8, 10, rfl, by decide, xT_of (i := 96) (by decide +kernel) (by decide +kernel), rfl, rfl, by decide +kernel⟩
theorem fX8_17 : xFL RX8 17 8 1 true (.array (.object "BathHouse$Ticket")) := ⟨RX8, TX8, 10, rfl, by decide, xT_of (i := 97) (by decide +kernel) (by decide +kernel), rfl, rfl, by decide +kernel⟩
theorem fX8_23 : xFL RX8 23 8 2 true (.array (.object "BathHouse$Club")) := ⟨RX8, TX8, 10, rfl, by decide, xT_of (i := 98) (by decide +kernel) (by decide +kernel), rfl, rfl, by decide +kernel⟩
theorem fX8_30 : xFL RX8 30 8 3 true (.object "BathHouse$Lockers") := ⟨RX8, TX8, 10, rfl, by decide, xT_of (i := 99) (by decide +kernel) (by decide +kernel), rfl, rfl, by decide +kernel⟩
theorem fX8_37 : xFL RX8 37 8 4 true (.object "BathHouse$PumpHours") := ⟨RX8, TX8, 10, rfl, by decide, xT_of (i := 100) (by decide +kernel) (by decide +kernel), rfl, rfl, by decide +kernel⟩
theorem fX8_45 : xFL RX8 45 8 5 false (.int) := ⟨RX8, TX8, 10, rfl, by decide, xT_of (i := 101) (by decide +kernel) (by decide +kernel), rfl, rfl, by decide +kernel⟩
theorem fX8_62 : xFL RX8 62 8 6 false (.int) := ⟨RX8, TX8, 10, rfl, by decide, xT_of (i := 102) (by decide +kernel) (by decide +kernel), rfl, rfl, by decide +kernel⟩
theorem fX8_80 : xFL RX8 80 8 7 false (.int) := ⟨RX8, TX8, 10, rfl, by decide, xT_of (i := 103) (by decide +kernel) (by decide +kernel), rfl, rfl, by decide +kernel⟩
theorem fX8_41 : xFL RX8 41 8 8 false (.int) := ⟨RX8, TX8, 10, rfl, by decide, xT_of (i := 104) (by decide +kernel) (by decide +kernel), rfl, rfl, by decide +kernel⟩
theorem fX8_133 : xFL RX8 133 8 9 false (.int) := ⟨RX8, TX8, 10, rfl, by decide, xT_of (i := 105) (by decide +kernel) (by decide +kernel), rfl, rfl, by decide +kernel⟩
theorem fX1_9 : xFL RX1 9 1 0 false (.boolean) := ⟨RX1, TX1, 7, rfl, by decide, xT_of (i := 147) (by decide +kernel) (by decide +kernel), rfl, rfl, by decide +kernel⟩
theorem fX8_149 : xFL RX8 149 1 0 false (.boolean) := ⟨RX1, TX1, 7, rfl, by decide, xT_of (i := 148) (by decide +kernel) (by decide +kernel), rfl, rfl, by decide +kernel⟩
theorem fX1_15 : xFL RX1 15 1 1 false (.boolean) := ⟨RX1, TX1, 7, rfl, by decide, xT_of (i := 149) (by decide +kernel) (by decide +kernel), rfl, rfl, by decide +kernel⟩
theorem fX1_18 : xFL RX1 18 1 2 false (.int) := ⟨RX1, TX1, 7, rfl, by decide, xT_of (i := 150) (by decide +kernel) (by decide +kernel), rfl, rfl, by decide +kernel⟩
theorem fX1_31 : xFL RX1 31 1 3 false (.int) := ⟨RX1, TX1, 7, rfl, by decide, xT_of (i := 151) (by decide +kernel) (by decide +kernel), rfl, rfl, by decide +kernel⟩
theorem fX1_22 : xFL RX1 22 1 4 false (.int) := ⟨RX1, TX1, 7, rfl, by decide, xT_of (i := 152) (by decide +kernel) (by decide +kernel), rfl, rfl, by decide +kernel⟩
theorem fX3_62 : xFL RX3 62 1 4 false (.int) := ⟨RX1, TX1, 7, rfl, by decide, xT_of (i := 153) (by decide +kernel) (by decide +kernel), rfl, rfl, by decide +kernel⟩
theorem fX3_59 : xFL RX3 59 1 5 false (.int) := ⟨RX1, TX1, 7, rfl, by decide, xT_of (i := 154) (by decide +kernel) (by decide +kernel), rfl, rfl, by decide +kernel⟩
theorem fX1_45 : xFL RX1 45 1 5 false (.int) := ⟨RX1, TX1, 7, rfl, by decide, xT_of (i := 155) (by decide +kernel) (by decide +kernel), rfl, rfl, by decide +kernel⟩
theorem fX8_346 : xFL RX8 346 1 5 false (.int) := ⟨RX1, TX1, 7, rfl, by decide, xT_of (i := 156) (by decide +kernel) (by decide +kernel), rfl, rfl, by decide +kernel⟩
theorem fX3_65 : xFL RX3 65 1 6 false (.int) := ⟨RX1, TX1, 7, rfl, by decide, xT_of (i := 157) (by decide +kernel) (by decide +kernel), rfl, rfl, by decide +kernel⟩
theorem fX1_48 : xFL RX1 48 1 6 false (.int) := ⟨RX1, TX1, 7, rfl, by decide, xT_of (i := 158) (by decide +kernel) (by decide +kernel), rfl, rfl, by decide +kernel⟩
theorem fX8_124 : xFL RX8 124 1 6 false (.int) := ⟨RX1, TX1, 7, rfl, by decide, xT_of (i := 159) (by decide +kernel) (by decide +kernel), rfl, rfl, by decide +kernel⟩
theorem fX4_9 : xFL RX4 9 4 0 false (.object "BathHouse$Ticket") := ⟨RX4, TX4, 2, rfl, by decide, xT_of (i := 185) (by decide +kernel) (by decide +kernel), rfl, rfl, by decide +kernel⟩
theorem fX7_88 : xFL RX7 88 4 0 false (.object "BathHouse$Ticket") := ⟨RX4, TX4, 2, rfl, by decide, xT_of (i := 186) (by decide +kernel) (by decide +kernel), rfl, rfl, by decide +kernel⟩
theorem fX8_226 : xFL RX8 226 4 0 false (.object "BathHouse$Ticket") := ⟨RX4, TX4, 2, rfl, by decide, xT_of (i := 187) (by decide +kernel) (by decide +kernel), rfl, rfl, by decide +kernel⟩
theorem fX4_15 : xFL RX4 15 4 1 false (.int) := ⟨RX4, TX4, 2, rfl, by decide, xT_of (i := 188) (by decide +kernel) (by decide +kernel), rfl, rfl, by decide +kernel⟩
theorem fX7_94 : xFL RX7 94 4 1 false (.int) := ⟨RX4, TX4, 2, rfl, by decide, xT_of (i := 189) (by decide +kernel) (by decide +kernel), rfl, rfl, by decide +kernel⟩
theorem fX6_9 : xFL RX6 9 6 0 false (.int) := ⟨RX6, TX6, 5, rfl, by decide, xT_of (i := 200) (by decide +kernel) (by decide +kernel), rfl, rfl, by decide +kernel⟩
theorem fX8_188 : xFL RX8 188 6 0 false (.int) := ⟨RX6, TX6, 5, rfl, by decide, xT_of (i := 201) (by decide +kernel) (by decide +kernel), rfl, rfl, by decide +kernel⟩
theorem fX6_15 : xFL RX6 15 6 1 false (.int) := ⟨RX6, TX6, 5, rfl, by decide, xT_of (i := 202) (by decide +kernel) (by decide +kernel), rfl, rfl, by decide +kernel⟩
theorem fX8_193 : xFL RX8 193 6 1 false (.int) := ⟨RX6, TX6, 5, rfl, by decide, xT_of (i := 203) (by decide +kernel) (by decide +kernel), rfl, rfl, by decide +kernel⟩
theorem fX6_18 : xFL RX6 18 6 2 false (.int) := ⟨RX6, TX6, 5, rfl, by decide, xT_of (i := 204) (by decide +kernel) (by decide +kernel), rfl, rfl, by decide +kernel⟩
theorem fX6_21 : xFL RX6 21 6 3 false (.int) := ⟨RX6, TX6, 5, rfl, by decide, xT_of (i := 205) (by decide +kernel) (by decide +kernel), rfl, rfl, by decide +kernel⟩
theorem fX6_24 : xFL RX6 24 6 4 false (.boolean) := ⟨RX6, TX6, 5, rfl, by decide, xT_of (i := 206) (by decide +kernel) (by decide +kernel), rfl, rfl, by decide +kernel⟩
theorem fX3_24 : xFL RX3 24 3 0 true (.int) := ⟨RX3, TX3, 12, rfl, by decide, xT_of (i := 218) (by decide +kernel) (by decide +kernel), rfl, rfl, by decide +kernel⟩
theorem fX8_259 : xFL RX8 259 3 0 true (.int) := ⟨RX3, TX3, 12, rfl, by decide, xT_of (i := 219) (by decide +kernel) (by decide +kernel), rfl, rfl, by decide +kernel⟩
theorem fX3_28 : xFL RX3 28 3 1 true (.int) := ⟨RX3, TX3, 12, rfl, by decide, xT_of (i := 220) (by decide +kernel) (by decide +kernel), rfl, rfl, by decide +kernel⟩
theorem fX8_172 : xFL RX8 172 3 1 true (.int) := ⟨RX3, TX3, 12, rfl, by decide, xT_of (i := 221) (by decide +kernel) (by decide +kernel), rfl, rfl, by decide +kernel⟩
theorem fX3_31 : xFL RX3 31 3 2 true (.int) := ⟨RX3, TX3, 12, rfl, by decide, xT_of (i := 222) (by decide +kernel) (by decide +kernel), rfl, rfl, by decide +kernel⟩
theorem fX8_337 : xFL RX8 337 3 2 true (.int) := ⟨RX3, TX3, 12, rfl, by decide, xT_of (i := 223) (by decide +kernel) (by decide +kernel), rfl, rfl, by decide +kernel⟩
theorem fX3_42 : xFL RX3 42 3 3 true (.array (.object "BathHouse$Post")) := ⟨RX3, TX3, 12, rfl, by decide, xT_of (i := 224) (by decide +kernel) (by decide +kernel), rfl, rfl, by decide +kernel⟩
theorem fX8_315 : xFL RX8 315 3 3 true (.array (.object "BathHouse$Post")) := ⟨RX3, TX3, 12, rfl, by decide, xT_of (i := 225) (by decide +kernel) (by decide +kernel), rfl, rfl, by decide +kernel⟩
theorem fX3_11 : xFL RX3 11 3 4 true (.array (.object "BathHouse$Thing")) := ⟨RX3, TX3, 12, rfl, by decide, xT_of (i := 226) (by decide +kernel) (by decide +kernel), rfl, rfl, by decide +kernel⟩
theorem fX8_311 : xFL RX8 311 3 4 true (.array (.object "BathHouse$Thing")) := ⟨RX3, TX3, 12, rfl, by decide, xT_of (i := 227) (by decide +kernel) (by decide +kernel), rfl, rfl, by decide +kernel⟩
theorem fX3_20 : xFL RX3 20 3 5 true (.object "BathHouse$Door") := ⟨RX3, TX3, 12, rfl, by decide, xT_of (i := 228) (by decide +kernel) (by decide +kernel), rfl, rfl, by decide +kernel⟩
theorem fX8_120 : xFL RX8 120 3 5 true (.object "BathHouse$Door") := ⟨RX3, TX3, 12, rfl, by decide, xT_of (i := 229) (by decide +kernel) (by decide +kernel), rfl, rfl, by decide +kernel⟩
theorem fX3_48 : xFL RX3 48 3 6 false (.int) := ⟨RX3, TX3, 12, rfl, by decide, xT_of (i := 230) (by decide +kernel) (by decide +kernel), rfl, rfl, by decide +kernel⟩
theorem fX8_156 : xFL RX8 156 3 6 false (.int) := ⟨RX3, TX3, 12, rfl, by decide, xT_of (i := 231) (by decide +kernel) (by decide +kernel), rfl, rfl, by decide +kernel⟩
theorem fX3_51 : xFL RX3 51 3 7 false (.int) := ⟨RX3, TX3, 12, rfl, by decide, xT_of (i := 232) (by decide +kernel) (by decide +kernel), rfl, rfl, by decide +kernel⟩
theorem fX8_169 : xFL RX8 169 3 7 false (.int) := ⟨RX3, TX3, 12, rfl, by decide, xT_of (i := 233) (by decide +kernel) (by decide +kernel), rfl, rfl, by decide +kernel⟩
theorem fX3_72 : xFL RX3 72 3 8 false (.int) := ⟨RX3, TX3, 12, rfl, by decide, xT_of (i := 234) (by decide +kernel) (by decide +kernel), rfl, rfl, by decide +kernel⟩
theorem fX8_204 : xFL RX8 204 3 8 false (.int) := ⟨RX3, TX3, 12, rfl, by decide, xT_of (i := 235) (by decide +kernel) (by decide +kernel), rfl, rfl, by decide +kernel⟩
theorem fX3_86 : xFL RX3 86 3 9 false (.int) := ⟨RX3, TX3, 12, rfl, by decide, xT_of (i := 236) (by decide +kernel) (by decide +kernel), rfl, rfl, by decide +kernel⟩
theorem fX8_216 : xFL RX8 216 3 9 false (.int) := ⟨RX3, TX3, 12, rfl, by decide, xT_of (i := 237) (by decide +kernel) (by decide +kernel), rfl, rfl, by decide +kernel⟩
theorem fX8_277 : xFL RX8 277 3 10 false (.int) := ⟨RX3, TX3, 12, rfl, by decide, xT_of (i := 238) (by decide +kernel) (by decide +kernel), rfl, rfl, by decide +kernel⟩
theorem fX8_280 : xFL RX8 280 3 11 false (.int) := ⟨RX3, TX3, 12, rfl, by decide, xT_of (i := 239) (by decide +kernel) (by decide +kernel), rfl, rfl, by decide +kernel⟩
theorem fX7_21 : xFL RX7 21 7 0 true (.int) := ⟨RX7, TX7, 14, rfl, by decide, xT_of (i := 342) (by decide +kernel) (by decide +kernel), rfl, rfl, by decide +kernel⟩
theorem fX8_319 : xFL RX8 319 7 0 true (.int) := ⟨RX7, TX7, 14, rfl, by decide, xT_of (i := 343) (by decide +kernel) (by decide +kernel), rfl, rfl, by decide +kernel⟩
theorem fX7_24 : xFL RX7 24 7 1 true (.object "BathHouse$Pool") := ⟨RX7, TX7, 14, rfl, by decide, xT_of (i := 344) (by decide +kernel) (by decide +kernel), rfl, rfl, by decide +kernel⟩
theorem fX8_108 : xFL RX8 108 7 1 true (.object "BathHouse$Pool") := ⟨RX7, TX7, 14, rfl, by decide, xT_of (i := 345) (by decide +kernel) (by decide +kernel), rfl, rfl, by decide +kernel⟩
theorem fX7_28 : xFL RX7 28 7 2 true (.int) := ⟨RX7, TX7, 14, rfl, by decide, xT_of (i := 346) (by decide +kernel) (by decide +kernel), rfl, rfl, by decide +kernel⟩
theorem fX3_54 : xFL RX3 54 7 2 true (.int) := ⟨RX7, TX7, 14, rfl, by decide, xT_of (i := 347) (by decide +kernel) (by decide +kernel), rfl, rfl, by decide +kernel⟩
theorem fX8_262 : xFL RX8 262 7 2 true (.int) := ⟨RX7, TX7, 14, rfl, by decide, xT_of (i := 348) (by decide +kernel) (by decide +kernel), rfl, rfl, by decide +kernel⟩
theorem fX7_31 : xFL RX7 31 7 3 true (.int) := ⟨RX7, TX7, 14, rfl, by decide, xT_of (i := 349) (by decide +kernel) (by decide +kernel), rfl, rfl, by decide +kernel⟩
theorem fX7_34 : xFL RX7 34 7 4 true (.object "BathHouse$Club") := ⟨RX7, TX7, 14, rfl, by decide, xT_of (i := 350) (by decide +kernel) (by decide +kernel), rfl, rfl, by decide +kernel⟩
theorem fX7_38 : xFL RX7 38 7 5 true (.boolean) := ⟨RX7, TX7, 14, rfl, by decide, xT_of (i := 351) (by decide +kernel) (by decide +kernel), rfl, rfl, by decide +kernel⟩
theorem fX7_60 : xFL RX7 60 7 6 false (.boolean) := ⟨RX7, TX7, 14, rfl, by decide, xT_of (i := 352) (by decide +kernel) (by decide +kernel), rfl, rfl, by decide +kernel⟩
theorem fX8_116 : xFL RX8 116 7 6 false (.boolean) := ⟨RX7, TX7, 14, rfl, by decide, xT_of (i := 353) (by decide +kernel) (by decide +kernel), rfl, rfl, by decide +kernel⟩
theorem fX7_9 : xFL RX7 9 7 7 false (.int) := ⟨RX7, TX7, 14, rfl, by decide, xT_of (i := 354) (by decide +kernel) (by decide +kernel), rfl, rfl, by decide +kernel⟩
theorem fX8_265 : xFL RX8 265 7 7 false (.int) := ⟨RX7, TX7, 14, rfl, by decide, xT_of (i := 355) (by decide +kernel) (by decide +kernel), rfl, rfl, by decide +kernel⟩
theorem fX7_66 : xFL RX7 66 7 8 false (.int) := ⟨RX7, TX7, 14, rfl, by decide, xT_of (i := 356) (by decide +kernel) (by decide +kernel), rfl, rfl, by decide +kernel⟩
theorem fX7_48 : xFL RX7 48 7 9 false (.int) := ⟨RX7, TX7, 14, rfl, by decide, xT_of (i := 357) (by decide +kernel) (by decide +kernel), rfl, rfl, by decide +kernel⟩
theorem fX8_271 : xFL RX8 271 7 9 false (.int) := ⟨RX7, TX7, 14, rfl, by decide, xT_of (i := 358) (by decide +kernel) (by decide +kernel), rfl, rfl, by decide +kernel⟩
theorem fX7_73 : xFL RX7 73 7 10 false (.int) := ⟨RX7, TX7, 14, rfl, by decide, xT_of (i := 359) (by decide +kernel) (by decide +kernel), rfl, rfl, by decide +kernel⟩
theorem fX8_268 : xFL RX8 268 7 10 false (.int) := ⟨RX7, TX7, 14, rfl, by decide, xT_of (i := 360) (by decide +kernel) (by decide +kernel), rfl, rfl, by decide +kernel⟩
theorem fX7_15 : xFL RX7 15 7 11 false (.int) := ⟨RX7, TX7, 14, rfl, by decide, xT_of (i := 361) (by decide +kernel) (by decide +kernel), rfl, rfl, by decide +kernel⟩
theorem fX8_143 : xFL RX8 143 7 11 false (.int) := ⟨RX7, TX7, 14, rfl, by decide, xT_of (i := 362) (by decide +kernel) (by decide +kernel), rfl, rfl, by decide +kernel⟩
theorem fX7_84 : xFL RX7 84 7 12 false (.object "BathHouse$Post") := ⟨RX7, TX7, 14, rfl, by decide, xT_of (i := 363) (by decide +kernel) (by decide +kernel), rfl, rfl, by decide +kernel⟩
theorem fX7_18 : xFL RX7 18 7 13 false (.int) := ⟨RX7, TX7, 14, rfl, by decide, xT_of (i := 364) (by decide +kernel) (by decide +kernel), rfl, rfl, by decide +kernel⟩
theorem fX0_7 : xFL RX0 7 0 0 true (.object "BathHouse$Pool") := ⟨RX0, TX0, 7, rfl, by decide, xT_of (i := 407) (by decide +kernel) (by decide +kernel), rfl, rfl, by decide +kernel⟩
theorem fX8_322 : xFL RX8 322 0 0 true (.object "BathHouse$Pool") := ⟨RX0, TX0, 7, rfl, by decide, xT_of (i := 408) (by decide +kernel) (by decide +kernel), rfl, rfl, by decide +kernel⟩
theorem fX0_13 : xFL RX0 13 0 1 true (.int) := ⟨RX0, TX0, 7, rfl, by decide, xT_of (i := 409) (by decide +kernel) (by decide +kernel), rfl, rfl, by decide +kernel⟩
theorem fX8_334 : xFL RX8 334 0 1 true (.int) := ⟨RX0, TX0, 7, rfl, by decide, xT_of (i := 410) (by decide +kernel) (by decide +kernel), rfl, rfl, by decide +kernel⟩
theorem fX0_17 : xFL RX0 17 0 2 true (.int) := ⟨RX0, TX0, 7, rfl, by decide, xT_of (i := 411) (by decide +kernel) (by decide +kernel), rfl, rfl, by decide +kernel⟩
theorem fX0_23 : xFL RX0 23 0 3 true (.int) := ⟨RX0, TX0, 7, rfl, by decide, xT_of (i := 412) (by decide +kernel) (by decide +kernel), rfl, rfl, by decide +kernel⟩
theorem fX7_54 : xFL RX7 54 0 3 true (.int) := ⟨RX0, TX0, 7, rfl, by decide, xT_of (i := 413) (by decide +kernel) (by decide +kernel), rfl, rfl, by decide +kernel⟩
theorem fX0_20 : xFL RX0 20 0 4 false (.int) := ⟨RX0, TX0, 7, rfl, by decide, xT_of (i := 414) (by decide +kernel) (by decide +kernel), rfl, rfl, by decide +kernel⟩
theorem fX7_63 : xFL RX7 63 0 4 false (.int) := ⟨RX0, TX0, 7, rfl, by decide, xT_of (i := 415) (by decide +kernel) (by decide +kernel), rfl, rfl, by decide +kernel⟩
theorem fX8_93 : xFL RX8 93 0 4 false (.int) := ⟨RX0, TX0, 7, rfl, by decide, xT_of (i := 416) (by decide +kernel) (by decide +kernel), rfl, rfl, by decide +kernel⟩
theorem fX7_51 : xFL RX7 51 0 5 false (.int) := ⟨RX0, TX0, 7, rfl, by decide, xT_of (i := 417) (by decide +kernel) (by decide +kernel), rfl, rfl, by decide +kernel⟩
theorem fX0_38 : xFL RX0 38 0 5 false (.int) := ⟨RX0, TX0, 7, rfl, by decide, xT_of (i := 418) (by decide +kernel) (by decide +kernel), rfl, rfl, by decide +kernel⟩
theorem fX7_57 : xFL RX7 57 0 6 false (.int) := ⟨RX0, TX0, 7, rfl, by decide, xT_of (i := 419) (by decide +kernel) (by decide +kernel), rfl, rfl, by decide +kernel⟩
theorem fX0_35 : xFL RX0 35 0 6 false (.int) := ⟨RX0, TX0, 7, rfl, by decide, xT_of (i := 420) (by decide +kernel) (by decide +kernel), rfl, rfl, by decide +kernel⟩
theorem fX9_148 : xFL RX9 148 9 0 false (.int) := ⟨RX9, TX9, 48, rfl, by decide, xT_of (i := 702) (by decide +kernel) (by decide +kernel), rfl, rfl, by decide +kernel⟩
theorem fX9_7 : xFL RX9 7 9 1 true (.array .boolean) := ⟨RX9, TX9, 48, rfl, by decide, xT_of (i := 703) (by decide +kernel) (by decide +kernel), rfl, rfl, by decide +kernel⟩
theorem fX9_13 : xFL RX9 13 9 2 true (.array .int) := ⟨RX9, TX9, 48, rfl, by decide, xT_of (i := 704) (by decide +kernel) (by decide +kernel), rfl, rfl, by decide +kernel⟩
theorem fX9_17 : xFL RX9 17 9 3 true (.array .int) := ⟨RX9, TX9, 48, rfl, by decide, xT_of (i := 705) (by decide +kernel) (by decide +kernel), rfl, rfl, by decide +kernel⟩
theorem fX9_20 : xFL RX9 20 9 4 true (.array .int) := ⟨RX9, TX9, 48, rfl, by decide, xT_of (i := 706) (by decide +kernel) (by decide +kernel), rfl, rfl, by decide +kernel⟩
theorem fX9_23 : xFL RX9 23 9 5 true (.array .int) := ⟨RX9, TX9, 48, rfl, by decide, xT_of (i := 707) (by decide +kernel) (by decide +kernel), rfl, rfl, by decide +kernel⟩
theorem fX9_26 : xFL RX9 26 9 6 true (.array .int) := ⟨RX9, TX9, 48, rfl, by decide, xT_of (i := 708) (by decide +kernel) (by decide +kernel), rfl, rfl, by decide +kernel⟩
theorem fX9_29 : xFL RX9 29 9 7 true (.array .int) := ⟨RX9, TX9, 48, rfl, by decide, xT_of (i := 709) (by decide +kernel) (by decide +kernel), rfl, rfl, by decide +kernel⟩
theorem fX9_32 : xFL RX9 32 9 8 true (.array .int) := ⟨RX9, TX9, 48, rfl, by decide, xT_of (i := 710) (by decide +kernel) (by decide +kernel), rfl, rfl, by decide +kernel⟩
theorem fX9_35 : xFL RX9 35 9 9 true (.array .boolean) := ⟨RX9, TX9, 48, rfl, by decide, xT_of (i := 711) (by decide +kernel) (by decide +kernel), rfl, rfl, by decide +kernel⟩
theorem fX9_38 : xFL RX9 38 9 10 true (.array .boolean) := ⟨RX9, TX9, 48, rfl, by decide, xT_of (i := 712) (by decide +kernel) (by decide +kernel), rfl, rfl, by decide +kernel⟩
theorem fX9_41 : xFL RX9 41 9 11 true (.array .int) := ⟨RX9, TX9, 48, rfl, by decide, xT_of (i := 713) (by decide +kernel) (by decide +kernel), rfl, rfl, by decide +kernel⟩
theorem fX9_44 : xFL RX9 44 9 12 true (.array .int) := ⟨RX9, TX9, 48, rfl, by decide, xT_of (i := 714) (by decide +kernel) (by decide +kernel), rfl, rfl, by decide +kernel⟩
theorem fX9_47 : xFL RX9 47 9 13 true (.array .int) := ⟨RX9, TX9, 48, rfl, by decide, xT_of (i := 715) (by decide +kernel) (by decide +kernel), rfl, rfl, by decide +kernel⟩
theorem fX9_50 : xFL RX9 50 9 14 true (.array .int) := ⟨RX9, TX9, 48, rfl, by decide, xT_of (i := 716) (by decide +kernel) (by decide +kernel), rfl, rfl, by decide +kernel⟩
theorem fX9_53 : xFL RX9 53 9 15 true (.array .int) := ⟨RX9, TX9, 48, rfl, by decide, xT_of (i := 717) (by decide +kernel) (by decide +kernel), rfl, rfl, by decide +kernel⟩
theorem fX9_56 : xFL RX9 56 9 16 true (.array .int) := ⟨RX9, TX9, 48, rfl, by decide, xT_of (i := 718) (by decide +kernel) (by decide +kernel), rfl, rfl, by decide +kernel⟩
theorem fX9_59 : xFL RX9 59 9 17 true (.array .boolean) := ⟨RX9, TX9, 48, rfl, by decide, xT_of (i := 719) (by decide +kernel) (by decide +kernel), rfl, rfl, by decide +kernel⟩
theorem fX9_62 : xFL RX9 62 9 18 true (.array .int) := ⟨RX9, TX9, 48, rfl, by decide, xT_of (i := 720) (by decide +kernel) (by decide +kernel), rfl, rfl, by decide +kernel⟩
theorem fX9_65 : xFL RX9 65 9 19 true (.array .int) := ⟨RX9, TX9, 48, rfl, by decide, xT_of (i := 721) (by decide +kernel) (by decide +kernel), rfl, rfl, by decide +kernel⟩
theorem fX9_68 : xFL RX9 68 9 20 true (.array .int) := ⟨RX9, TX9, 48, rfl, by decide, xT_of (i := 722) (by decide +kernel) (by decide +kernel), rfl, rfl, by decide +kernel⟩
theorem fX9_71 : xFL RX9 71 9 21 true (.array .int) := ⟨RX9, TX9, 48, rfl, by decide, xT_of (i := 723) (by decide +kernel) (by decide +kernel), rfl, rfl, by decide +kernel⟩
theorem fX9_145 : xFL RX9 145 9 22 false (.int) := ⟨RX9, TX9, 48, rfl, by decide, xT_of (i := 724) (by decide +kernel) (by decide +kernel), rfl, rfl, by decide +kernel⟩
theorem fX9_74 : xFL RX9 74 9 23 true (.array .int) := ⟨RX9, TX9, 48, rfl, by decide, xT_of (i := 725) (by decide +kernel) (by decide +kernel), rfl, rfl, by decide +kernel⟩
theorem fX9_77 : xFL RX9 77 9 24 true (.array .int) := ⟨RX9, TX9, 48, rfl, by decide, xT_of (i := 726) (by decide +kernel) (by decide +kernel), rfl, rfl, by decide +kernel⟩
theorem fX9_80 : xFL RX9 80 9 25 true (.array .int) := ⟨RX9, TX9, 48, rfl, by decide, xT_of (i := 727) (by decide +kernel) (by decide +kernel), rfl, rfl, by decide +kernel⟩
theorem fX9_83 : xFL RX9 83 9 26 true (.array .boolean) := ⟨RX9, TX9, 48, rfl, by decide, xT_of (i := 728) (by decide +kernel) (by decide +kernel), rfl, rfl, by decide +kernel⟩
theorem fX9_86 : xFL RX9 86 9 27 true (.array .int) := ⟨RX9, TX9, 48, rfl, by decide, xT_of (i := 729) (by decide +kernel) (by decide +kernel), rfl, rfl, by decide +kernel⟩
theorem fX9_89 : xFL RX9 89 9 28 true (.array .int) := ⟨RX9, TX9, 48, rfl, by decide, xT_of (i := 730) (by decide +kernel) (by decide +kernel), rfl, rfl, by decide +kernel⟩
theorem fX9_92 : xFL RX9 92 9 29 true (.array .boolean) := ⟨RX9, TX9, 48, rfl, by decide, xT_of (i := 731) (by decide +kernel) (by decide +kernel), rfl, rfl, by decide +kernel⟩
theorem fX9_95 : xFL RX9 95 9 30 true (.array .int) := ⟨RX9, TX9, 48, rfl, by decide, xT_of (i := 732) (by decide +kernel) (by decide +kernel), rfl, rfl, by decide +kernel⟩
theorem fX9_98 : xFL RX9 98 9 31 true (.array .int) := ⟨RX9, TX9, 48, rfl, by decide, xT_of (i := 733) (by decide +kernel) (by decide +kernel), rfl, rfl, by decide +kernel⟩
theorem fX9_101 : xFL RX9 101 9 32 true (.array .int) := ⟨RX9, TX9, 48, rfl, by decide, xT_of (i := 734) (by decide +kernel) (by decide +kernel), rfl, rfl, by decide +kernel⟩
theorem fX9_104 : xFL RX9 104 9 33 true (.array .int) := ⟨RX9, TX9, 48, rfl, by decide, xT_of (i := 735) (by decide +kernel) (by decide +kernel), rfl, rfl, by decide +kernel⟩
theorem fX9_107 : xFL RX9 107 9 34 true (.array .int) := ⟨RX9, TX9, 48, rfl, by decide, xT_of (i := 736) (by decide +kernel) (by decide +kernel), rfl, rfl, by decide +kernel⟩
theorem fX9_172 : xFL RX9 172 9 35 false (.int) := ⟨RX9, TX9, 48, rfl, by decide, xT_of (i := 737) (by decide +kernel) (by decide +kernel), rfl, rfl, by decide +kernel⟩
theorem fX9_110 : xFL RX9 110 9 36 false (.int) := ⟨RX9, TX9, 48, rfl, by decide, xT_of (i := 738) (by decide +kernel) (by decide +kernel), rfl, rfl, by decide +kernel⟩
theorem fX9_114 : xFL RX9 114 9 37 true (.array .int) := ⟨RX9, TX9, 48, rfl, by decide, xT_of (i := 739) (by decide +kernel) (by decide +kernel), rfl, rfl, by decide +kernel⟩
theorem fX9_117 : xFL RX9 117 9 38 true (.array .int) := ⟨RX9, TX9, 48, rfl, by decide, xT_of (i := 740) (by decide +kernel) (by decide +kernel), rfl, rfl, by decide +kernel⟩
theorem fX9_120 : xFL RX9 120 9 39 true (.array .int) := ⟨RX9, TX9, 48, rfl, by decide, xT_of (i := 741) (by decide +kernel) (by decide +kernel), rfl, rfl, by decide +kernel⟩
theorem fX9_123 : xFL RX9 123 9 40 true (.array .int) := ⟨RX9, TX9, 48, rfl, by decide, xT_of (i := 742) (by decide +kernel) (by decide +kernel), rfl, rfl, by decide +kernel⟩
theorem fX9_126 : xFL RX9 126 9 41 true (.array .int) := ⟨RX9, TX9, 48, rfl, by decide, xT_of (i := 743) (by decide +kernel) (by decide +kernel), rfl, rfl, by decide +kernel⟩
theorem fX9_129 : xFL RX9 129 9 42 true (.array .int) := ⟨RX9, TX9, 48, rfl, by decide, xT_of (i := 744) (by decide +kernel) (by decide +kernel), rfl, rfl, by decide +kernel⟩
theorem fX9_132 : xFL RX9 132 9 43 true (.array .int) := ⟨RX9, TX9, 48, rfl, by decide, xT_of (i := 745) (by decide +kernel) (by decide +kernel), rfl, rfl, by decide +kernel⟩
theorem fX9_135 : xFL RX9 135 9 44 true (.array .int) := ⟨RX9, TX9, 48, rfl, by decide, xT_of (i := 746) (by decide +kernel) (by decide +kernel), rfl, rfl, by decide +kernel⟩
theorem fX9_138 : xFL RX9 138 9 45 true (.array .boolean) := ⟨RX9, TX9, 48, rfl, by decide, xT_of (i := 747) (by decide +kernel) (by decide +kernel), rfl, rfl, by decide +kernel⟩
theorem fX9_219 : xFL RX9 219 9 46 false (.boolean) := ⟨RX9, TX9, 48, rfl, by decide, xT_of (i := 748) (by decide +kernel) (by decide +kernel), rfl, rfl, by decide +kernel⟩
theorem fX9_223 : xFL RX9 223 9 47 false (.int) := ⟨RX9, TX9, 48, rfl, by decide, xT_of (i := 749) (by decide +kernel) (by decide +kernel), rfl, rfl, by decide +kernel⟩
abbrev mX8_init : xM := (yX8_init, cX8_init, 1, none)
abbrev mX2_init : xM := (yX2_init, cX2_init, 2, none)
abbrev mX5_init : xM := (yX5_init, cX5_init, 2, none)
abbrev mX8_pool : xM := (yX8_pool, cX8_pool, 5, some FieldType.boolean)
abbrev mX8_isWithin : xM := (yX8_isWithin, cX8_isWithin, 3, some FieldType.boolean)
abbrev mX3_init : xM := (yX3_init, cX3_init, 6, none)
abbrev mX1_init : xM := (yX1_init, cX1_init, 1, none)
abbrev mJ9_max_7cf53 : xM := (yJ9_max_7cf53, cJ9_max_7cf53, 2, some FieldType.int)
abbrev mX4_init : xM := (yX4_init, cX4_init, 1, none)
abbrev mX6_init : xM := (yX6_init, cX6_init, 1, none)
abbrev mX8_go : xM := (yX8_go, cX8_go, 3, some FieldType.int)
abbrev mX8_endMinute : xM := (yX8_endMinute, cX8_endMinute, 3, none)
abbrev mX3_endMinute : xM := (yX3_endMinute, cX3_endMinute, 2, none)
abbrev mX3_reasonsIn : xM := (yX3_reasonsIn, cX3_reasonsIn, 4, some FieldType.int)
abbrev mX6_isRight : xM := (yX6_isRight, cX6_isRight, 1, some FieldType.boolean)
abbrev mX6_isStale : xM := (yX6_isStale, cX6_isStale, 2, some FieldType.boolean)
abbrev mX3_filledPosts : xM := (yX3_filledPosts, cX3_filledPosts, 4, some FieldType.int)
abbrev mX4_isFilled : xM := (yX4_isFilled, cX4_isFilled, 2, some FieldType.boolean)
abbrev mX1_endMinute : xM := (yX1_endMinute, cX1_endMinute, 1, none)
abbrev mX1_leastNow : xM := (yX1_leastNow, cX1_leastNow, 1, some FieldType.int)
abbrev mX1_mostNow : xM := (yX1_mostNow, cX1_mostNow, 1, some FieldType.int)
abbrev mX1_startFrom : xM := (yX1_startFrom, cX1_startFrom, 3, none)
abbrev mX8_ticket : xM := (yX8_ticket, cX8_ticket, 8, some FieldType.int)
abbrev mX8_poolOf : xM := (yX8_poolOf, cX8_poolOf, 2, some (FieldType.object "BathHouse$Pool"))
abbrev mX8_isTicketSold : xM := (yX8_isTicketSold, cX8_isTicketSold, 5, some FieldType.boolean)
abbrev mX8_isClubKind : xM := (yX8_isClubKind, cX8_isClubKind, 1, some FieldType.boolean)
abbrev mX8_clubOf : xM := (yX8_clubOf, cX8_clubOf, 2, some (FieldType.object "BathHouse$Club"))
abbrev mX0_isSchool : xM := (yX0_isSchool, cX0_isSchool, 1, some FieldType.boolean)
abbrev mX7_init : xM := (yX7_init, cX7_init, 7, none)
abbrev mX8_club : xM := (yX8_club, cX8_club, 10, some FieldType.int)
abbrev mX3_hasLanes : xM := (yX3_hasLanes, cX3_hasLanes, 2, some FieldType.boolean)
abbrev mX0_init : xM := (yX0_init, cX0_init, 6, none)
abbrev mX8_lowestClash : xM := (yX8_lowestClash, cX8_lowestClash, 4, some FieldType.int)
abbrev mX0_clashesWith : xM := (yX0_clashesWith, cX0_clashesWith, 2, some FieldType.boolean)
abbrev mJ9_min_7cf53 : xM := (yJ9_min_7cf53, cJ9_min_7cf53, 2, some FieldType.int)
abbrev mX8_clash : xM := (yX8_clash, cX8_clash, 1, some FieldType.int)
abbrev mX8_leave : xM := (yX8_leave, cX8_leave, 3, some FieldType.boolean)
abbrev mX8_may : xM := (yX8_may, cX8_may, 3, some FieldType.int)
abbrev mX8_ticketOf : xM := (yX8_ticketOf, cX8_ticketOf, 2, some (FieldType.object "BathHouse$Ticket"))
abbrev mX8_reasonAgainst : xM := (yX8_reasonAgainst, cX8_reasonAgainst, 3, some FieldType.int)
abbrev mX8_reasonAgainstHead : xM := (yX8_reasonAgainstHead, cX8_reasonAgainstHead, 3, some FieldType.int)
abbrev mX7_isItsTime : xM := (yX7_isItsTime, cX7_isItsTime, 2, some FieldType.boolean)
abbrev mX0_isThere : xM := (yX0_isThere, cX0_isThere, 2, some FieldType.boolean)
abbrev mX7_lacksTeacher : xM := (yX7_lacksTeacher, cX7_lacksTeacher, 1, some FieldType.boolean)
abbrev mX8_in : xM := (yX8_in, cX8_in, 4, some FieldType.int)
abbrev mX7_comeIn : xM := (yX7_comeIn, cX7_comeIn, 2, none)
abbrev mX0_pass : xM := (yX0_pass, cX0_pass, 3, none)
abbrev mX3_letIn : xM := (yX3_letIn, cX3_letIn, 2, none)
abbrev mX8_out : xM := (yX8_out, cX8_out, 4, some FieldType.int)
abbrev mX7_owes : xM := (yX7_owes, cX7_owes, 3, some FieldType.int)
abbrev mX7_minutesLeft : xM := (yX7_minutesLeft, cX7_minutesLeft, 2, some FieldType.int)
abbrev mX7_goOut : xM := (yX7_goOut, cX7_goOut, 3, none)
abbrev mX7_leavePost : xM := (yX7_leavePost, cX7_leavePost, 2, none)
abbrev mX3_letOut : xM := (yX3_letOut, cX3_letOut, 2, none)
abbrev mX2_lose : xM := (yX2_lose, cX2_lose, 2, none)
abbrev mX2_isLocker : xM := (yX2_isLocker, cX2_isLocker, 1, some FieldType.boolean)
abbrev mX8_eye : xM := (yX8_eye, cX8_eye, 4, some FieldType.boolean)
abbrev mX1_turnEye : xM := (yX1_turnEye, cX1_turnEye, 2, none)
abbrev mX8_hand : xM := (yX8_hand, cX8_hand, 3, some FieldType.int)
abbrev mX8_count : xM := (yX8_count, cX8_count, 4, some FieldType.int)
abbrev mX8_freeLanes : xM := (yX8_freeLanes, cX8_freeLanes, 5, some FieldType.int)
abbrev mJ6_bitCount_0f7a4 : xM := (yJ6_bitCount_0f7a4, cJ6_bitCount_0f7a4, 1, some FieldType.int)
abbrev mX8_bounds : xM := (yX8_bounds, cX8_bounds, 6, some FieldType.boolean)
abbrev mX8_thingOf : xM := (yX8_thingOf, cX8_thingOf, 4, some (FieldType.object "BathHouse$Thing"))
abbrev mX8_measure : xM := (yX8_measure, cX8_measure, 6, some FieldType.int)
abbrev mX6_takeMeasure : xM := (yX6_takeMeasure, cX6_takeMeasure, 3, none)
abbrev mX8_put : xM := (yX8_put, cX8_put, 4, some FieldType.boolean)
abbrev mX8_shut : xM := (yX8_shut, cX8_shut, 3, some FieldType.int)
abbrev mX8_minutes : xM := (yX8_minutes, cX8_minutes, 3, some FieldType.int)
abbrev mX8_post : xM := (yX8_post, cX8_post, 7, some FieldType.int)
abbrev mX8_postOf : xM := (yX8_postOf, cX8_postOf, 4, some (FieldType.object "BathHouse$Post"))
abbrev mX7_mayStand : xM := (yX7_mayStand, cX7_mayStand, 2, some FieldType.boolean)
abbrev mX7_standAt : xM := (yX7_standAt, cX7_standAt, 3, none)
abbrev mX8_numberOf : xM := (yX8_numberOf, cX8_numberOf, 1, some FieldType.int)
abbrev mX8_watcher : xM := (yX8_watcher, cX8_watcher, 4, some FieldType.int)
abbrev mX8_key : xM := (yX8_key, cX8_key, 3, some FieldType.int)
abbrev mX2_takeLowest : xM := (yX2_takeLowest, cX2_takeLowest, 3, some FieldType.int)
abbrev mX8_give : xM := (yX8_give, cX8_give, 4, some FieldType.int)
abbrev mX2_hangKey : xM := (yX2_hangKey, cX2_hangKey, 2, none)
abbrev mX8_mend : xM := (yX8_mend, cX8_mend, 3, some FieldType.int)
abbrev mX8_locker : xM := (yX8_locker, cX8_locker, 2, some FieldType.int)
abbrev mX8_told : xM := (yX8_told, cX8_told, 4, some FieldType.int)
abbrev mX8_pump : xM := (yX8_pump, cX8_pump, 5, some FieldType.boolean)
abbrev mX8_price : xM := (yX8_price, cX8_price, 3, some FieldType.boolean)
abbrev mX8_turn : xM := (yX8_turn, cX8_turn, 5, some FieldType.int)
abbrev mX8_hoursNeeded : xM := (yX8_hoursNeeded, cX8_hoursNeeded, 5, some FieldType.int)
abbrev mX5_takeCheapest : xM := (yX5_takeCheapest, cX5_takeCheapest, 3, none)
abbrev mX5_takeNext : xM := (yX5_takeNext, cX5_takeNext, 3, none)
abbrev mX8_hour : xM := (yX8_hour, cX8_hour, 2, some FieldType.int)
abbrev mX8_all : xM := (yX8_all, cX8_all, 2, some FieldType.int)
abbrev mX2_lostOnes : xM := (yX2_lostOnes, cX2_lostOnes, 3, some FieldType.int)
abbrev mX8_insideAllPools : xM := (yX8_insideAllPools, cX8_insideAllPools, 4, some FieldType.int)
abbrev mX2_keysOut : xM := (yX2_keysOut, cX2_keysOut, 3, some FieldType.int)
abbrev mX9_init : xM := (yX9_init, cX9_init, 2, none)
abbrev mX9_pool : xM := (yX9_pool, cX9_pool, 5, some FieldType.boolean)
abbrev mX9_in : xM := (yX9_in, cX9_in, 3, some FieldType.boolean)
abbrev mX9_go : xM := (yX9_go, cX9_go, 4, some FieldType.int)
abbrev mX9_reasons : xM := (yX9_reasons, cX9_reasons, 5, some FieldType.int)
abbrev mX9_isFilled : xM := (yX9_isFilled, cX9_isFilled, 2, some FieldType.boolean)
abbrev mX9_leastNow : xM := (yX9_leastNow, cX9_leastNow, 3, some FieldType.int)
abbrev mX9_mostNow : xM := (yX9_mostNow, cX9_mostNow, 2, some FieldType.int)
abbrev mX9_begins : xM := (yX9_begins, cX9_begins, 4, none)
abbrev mX9_eye : xM := (yX9_eye, cX9_eye, 3, some FieldType.boolean)
abbrev mX9_has : xM := (yX9_has, cX9_has, 2, some FieldType.boolean)
abbrev mX9_hand : xM := (yX9_hand, cX9_hand, 3, some FieldType.int)
abbrev mX9_truth : xM := (yX9_truth, cX9_truth, 5, some FieldType.int)
abbrev mX9_club : xM := (yX9_club, cX9_club, 9, some FieldType.int)
abbrev mX9_clash : xM := (yX9_clash, cX9_clash, 1, some FieldType.int)
abbrev mX9_leave : xM := (yX9_leave, cX9_leave, 2, some FieldType.boolean)
abbrev mX9_bounds : xM := (yX9_bounds, cX9_bounds, 5, some FieldType.boolean)
abbrev mX9_measure : xM := (yX9_measure, cX9_measure, 5, some FieldType.int)
abbrev mX9_put : xM := (yX9_put, cX9_put, 3, some FieldType.boolean)
abbrev mX9_shut : xM := (yX9_shut, cX9_shut, 2, some FieldType.int)
abbrev mX9_minutes : xM := (yX9_minutes, cX9_minutes, 2, some FieldType.int)
abbrev mX9_ticket : xM := (yX9_ticket, cX9_ticket, 7, some FieldType.int)
abbrev mX9_may : xM := (yX9_may, cX9_may, 4, some FieldType.int)
abbrev mX9_isTicket : xM := (yX9_isTicket, cX9_isTicket, 2, some FieldType.boolean)
abbrev mX9_isClubbed : xM := (yX9_isClubbed, cX9_isClubbed, 2, some FieldType.boolean)
abbrev mX9_isThere : xM := (yX9_isThere, cX9_isThere, 2, some FieldType.boolean)
abbrev mX9_inSchool : xM := (yX9_inSchool, cX9_inSchool, 5, some FieldType.int)
abbrev mX9_in_ : xM := (yX9_in_, cX9_in_, 4, some FieldType.int)
abbrev mX9_out : xM := (yX9_out, cX9_out, 6, some FieldType.int)
abbrev mX9_beyond : xM := (yX9_beyond, cX9_beyond, 2, some FieldType.int)
abbrev mX9_isTimed : xM := (yX9_isTimed, cX9_isTimed, 2, some FieldType.boolean)
abbrev mX9_leaves : xM := (yX9_leaves, cX9_leaves, 2, none)
abbrev mX9_lockerOf : xM := (yX9_lockerOf, cX9_lockerOf, 3, some FieldType.int)
abbrev mX9_post : xM := (yX9_post, cX9_post, 6, some FieldType.int)
abbrev mX9_watcher : xM := (yX9_watcher, cX9_watcher, 3, some FieldType.int)
abbrev mX9_key : xM := (yX9_key, cX9_key, 3, some FieldType.int)
abbrev mX9_give : xM := (yX9_give, cX9_give, 3, some FieldType.int)
abbrev mX9_mend : xM := (yX9_mend, cX9_mend, 3, some FieldType.int)
abbrev mX9_locker : xM := (yX9_locker, cX9_locker, 2, some FieldType.int)
abbrev mX9_count : xM := (yX9_count, cX9_count, 5, some FieldType.int)
abbrev mX9_isFree : xM := (yX9_isFree, cX9_isFree, 4, some FieldType.boolean)
abbrev mX9_told : xM := (yX9_told, cX9_told, 3, some FieldType.int)
abbrev mX9_pump : xM := (yX9_pump, cX9_pump, 4, some FieldType.boolean)
abbrev mX9_price : xM := (yX9_price, cX9_price, 3, some FieldType.boolean)
abbrev mX9_turn : xM := (yX9_turn, cX9_turn, 9, some FieldType.int)
abbrev mX9_hour : xM := (yX9_hour, cX9_hour, 2, some FieldType.int)
abbrev mX9_all : xM := (yX9_all, cX9_all, 4, some FieldType.int)
def xMy (mm : xM) (n : Nat) : Prop := Cond.code mm.1 mm.2.1 mm.2.2.1 mm.2.2.2 ∈ xT ∧ Cond.initialized mm.1.cls ∈ xT ∧ (mm.1.cls ≠ "java/lang/invoke/MethodHandle" ∧ mm.1.cls ≠ "java/lang/invoke/VarHandle" ∧ (parseMethodDescriptor mm.1.desc).map (fun d => d.parameters.length) = some n) ∧ mm.2.2.1 ≤ 13
def xMV (mm : xM) (n : Nat) : Prop := xMy mm n ∧ Cond.instanceMethod mm.1 ∈ xT ∧ Cond.selects mm.1.cls mm.1 mm.1 ∈ xT
def xMS (mm : xM) (n : Nat) : Prop := xMy mm n ∧ Cond.static mm.1 ∈ xT
def xMI (mm : xM) (n : Nat) : Prop := xMy mm n ∧ Cond.instanceMethod mm.1 ∈ xT ∧ mm.1.name = "<init>" ∧ mm.2.2.2 = none
theorem myX8_init : xMy mX8_init 0 := ⟨xT_of (i := 46) (by decide +kernel) (by decide +kernel), ziX8, ⟨by decide +kernel, by decide +kernel, by decide +kernel⟩, by decide⟩
theorem mpX8_init : plainName mX8_init.1.cls = true := by decide +kernel
theorem mzX8_init : xMI mX8_init 0 := ⟨myX8_init, xT_of (i := 45) (by decide +kernel) (by decide +kernel), by decide +kernel, rfl⟩
theorem myX2_init : xMy mX2_init 0 := ⟨xT_of (i := 60) (by decide +kernel) (by decide +kernel), ziX2, ⟨by decide +kernel, by decide +kernel, by decide +kernel⟩, by decide⟩
theorem mpX2_init : plainName mX2_init.1.cls = true := by decide +kernel
theorem mzX2_init : xMI mX2_init 0 := ⟨myX2_init, xT_of (i := 59) (by decide +kernel) (by decide +kernel), by decide +kernel, rfl⟩
theorem myX5_init : xMy mX5_init 0 := ⟨xT_of (i := 77) (by decide +kernel) (by decide +kernel), ziX5, ⟨by decide +kernel, by decide +kernel, by decide +kernel⟩, by decide⟩
theorem mpX5_init : plainName mX5_init.1.cls = true := by decide +kernel
theorem mzX5_init : xMI mX5_init 0 := ⟨myX5_init, xT_of (i := 76) (by decide +kernel) (by decide +kernel), by decide +kernel, rfl⟩
theorem myX8_pool : xMy mX8_pool 4 := ⟨xT_of (i := 130) (by decide +kernel) (by decide +kernel), ziX8, ⟨by decide +kernel, by decide +kernel, by decide +kernel⟩, by decide⟩
theorem mpX8_pool : plainName mX8_pool.1.cls = true := by decide +kernel
theorem mzX8_pool : xMV mX8_pool 4 := ⟨myX8_pool, xT_of (i := 128) (by decide +kernel) (by decide +kernel), xT_of (i := 129) (by decide +kernel) (by decide +kernel)⟩
theorem myX8_isWithin : xMy mX8_isWithin 3 := ⟨xT_of (i := 133) (by decide +kernel) (by decide +kernel), ziX8, ⟨by decide +kernel, by decide +kernel, by decide +kernel⟩, by decide⟩
theorem mpX8_isWithin : plainName mX8_isWithin.1.cls = true := by decide +kernel
theorem mzX8_isWithin : xMS mX8_isWithin 3 := ⟨myX8_isWithin, xT_of (i := 132) (by decide +kernel) (by decide +kernel)⟩
theorem myX3_init : xMy mX3_init 4 := ⟨xT_of (i := 137) (by decide +kernel) (by decide +kernel), ziX3, ⟨by decide +kernel, by decide +kernel, by decide +kernel⟩, by decide⟩
theorem mpX3_init : plainName mX3_init.1.cls = true := by decide +kernel
theorem mzX3_init : xMI mX3_init 4 := ⟨myX3_init, xT_of (i := 136) (by decide +kernel) (by decide +kernel), by decide +kernel, rfl⟩
theorem myX1_init : xMy mX1_init 0 := ⟨xT_of (i := 145) (by decide +kernel) (by decide +kernel), ziX1, ⟨by decide +kernel, by decide +kernel, by decide +kernel⟩, by decide⟩
theorem mpX1_init : plainName mX1_init.1.cls = true := by decide +kernel
theorem mzX1_init : xMI mX1_init 0 := ⟨myX1_init, xT_of (i := 144) (by decide +kernel) (by decide +kernel), by decide +kernel, rfl⟩
theorem mm_max : Cond.static Lib.Math.max.name ∈ xT ∧ Cond.initialized "java/lang/Math" ∈ xT ∧ Cond.code Lib.Math.max.name Lib.Math.max.code 2 (some .int) ∈ xT := ⟨xT_of (i := 176) (by decide +kernel) (by decide +kernel), xT_of (i := 36) (by decide +kernel) (by decide +kernel), xT_of (i := 177) (by decide +kernel) (by decide +kernel)⟩
theorem myX4_init : xMy mX4_init 0 := ⟨xT_of (i := 183) (by decide +kernel) (by decide +kernel), ziX4, ⟨by decide +kernel, by decide +kernel, by decide +kernel⟩, by decide⟩
theorem mpX4_init : plainName mX4_init.1.cls = true := by decide +kernel
theorem mzX4_init : xMI mX4_init 0 := ⟨myX4_init, xT_of (i := 182) (by decide +kernel) (by decide +kernel), by decide +kernel, rfl⟩
theorem myX6_init : xMy mX6_init 0 := ⟨xT_of (i := 198) (by decide +kernel) (by decide +kernel), ziX6, ⟨by decide +kernel, by decide +kernel, by decide +kernel⟩, by decide⟩
theorem mpX6_init : plainName mX6_init.1.cls = true := by decide +kernel
theorem mzX6_init : xMI mX6_init 0 := ⟨myX6_init, xT_of (i := 197) (by decide +kernel) (by decide +kernel), by decide +kernel, rfl⟩
theorem myX8_go : xMy mX8_go 1 := ⟨xT_of (i := 268) (by decide +kernel) (by decide +kernel), ziX8, ⟨by decide +kernel, by decide +kernel, by decide +kernel⟩, by decide⟩
theorem mpX8_go : plainName mX8_go.1.cls = true := by decide +kernel
theorem mzX8_go : xMV mX8_go 1 := ⟨myX8_go, xT_of (i := 266) (by decide +kernel) (by decide +kernel), xT_of (i := 267) (by decide +kernel) (by decide +kernel)⟩
theorem myX8_endMinute : xMy mX8_endMinute 0 := ⟨xT_of (i := 272) (by decide +kernel) (by decide +kernel), ziX8, ⟨by decide +kernel, by decide +kernel, by decide +kernel⟩, by decide⟩
theorem mpX8_endMinute : plainName mX8_endMinute.1.cls = true := by decide +kernel
theorem mzX8_endMinute : xMV mX8_endMinute 0 := ⟨myX8_endMinute, xT_of (i := 271) (by decide +kernel) (by decide +kernel), xT_of (i := 0) (by decide +kernel) (by decide +kernel)⟩
theorem myX3_endMinute : xMy mX3_endMinute 1 := ⟨xT_of (i := 276) (by decide +kernel) (by decide +kernel), ziX3, ⟨by decide +kernel, by decide +kernel, by decide +kernel⟩, by decide⟩
theorem mpX3_endMinute : plainName mX3_endMinute.1.cls = true := by decide +kernel
theorem mzX3_endMinute : xMV mX3_endMinute 1 := ⟨myX3_endMinute, xT_of (i := 274) (by decide +kernel) (by decide +kernel), xT_of (i := 275) (by decide +kernel) (by decide +kernel)⟩
theorem myX3_reasonsIn : xMy mX3_reasonsIn 1 := ⟨xT_of (i := 280) (by decide +kernel) (by decide +kernel), ziX3, ⟨by decide +kernel, by decide +kernel, by decide +kernel⟩, by decide⟩
theorem mpX3_reasonsIn : plainName mX3_reasonsIn.1.cls = true := by decide +kernel
theorem mzX3_reasonsIn : xMV mX3_reasonsIn 1 := ⟨myX3_reasonsIn, xT_of (i := 278) (by decide +kernel) (by decide +kernel), xT_of (i := 279) (by decide +kernel) (by decide +kernel)⟩
theorem myX6_isRight : xMy mX6_isRight 0 := ⟨xT_of (i := 284) (by decide +kernel) (by decide +kernel), ziX6, ⟨by decide +kernel, by decide +kernel, by decide +kernel⟩, by decide⟩
theorem mpX6_isRight : plainName mX6_isRight.1.cls = true := by decide +kernel
theorem mzX6_isRight : xMV mX6_isRight 0 := ⟨myX6_isRight, xT_of (i := 282) (by decide +kernel) (by decide +kernel), xT_of (i := 283) (by decide +kernel) (by decide +kernel)⟩
theorem myX6_isStale : xMy mX6_isStale 1 := ⟨xT_of (i := 288) (by decide +kernel) (by decide +kernel), ziX6, ⟨by decide +kernel, by decide +kernel, by decide +kernel⟩, by decide⟩
theorem mpX6_isStale : plainName mX6_isStale.1.cls = true := by decide +kernel
theorem mzX6_isStale : xMV mX6_isStale 1 := ⟨myX6_isStale, xT_of (i := 286) (by decide +kernel) (by decide +kernel), xT_of (i := 287) (by decide +kernel) (by decide +kernel)⟩
theorem myX3_filledPosts : xMy mX3_filledPosts 1 := ⟨xT_of (i := 292) (by decide +kernel) (by decide +kernel), ziX3, ⟨by decide +kernel, by decide +kernel, by decide +kernel⟩, by decide⟩
theorem mpX3_filledPosts : plainName mX3_filledPosts.1.cls = true := by decide +kernel
theorem mzX3_filledPosts : xMV mX3_filledPosts 1 := ⟨myX3_filledPosts, xT_of (i := 290) (by decide +kernel) (by decide +kernel), xT_of (i := 291) (by decide +kernel) (by decide +kernel)⟩
theorem myX4_isFilled : xMy mX4_isFilled 1 := ⟨xT_of (i := 296) (by decide +kernel) (by decide +kernel), ziX4, ⟨by decide +kernel, by decide +kernel, by decide +kernel⟩, by decide⟩
theorem mpX4_isFilled : plainName mX4_isFilled.1.cls = true := by decide +kernel
theorem mzX4_isFilled : xMV mX4_isFilled 1 := ⟨myX4_isFilled, xT_of (i := 294) (by decide +kernel) (by decide +kernel), xT_of (i := 295) (by decide +kernel) (by decide +kernel)⟩
theorem myX1_endMinute : xMy mX1_endMinute 0 := ⟨xT_of (i := 300) (by decide +kernel) (by decide +kernel), ziX1, ⟨by decide +kernel, by decide +kernel, by decide +kernel⟩, by decide⟩
theorem mpX1_endMinute : plainName mX1_endMinute.1.cls = true := by decide +kernel
theorem mzX1_endMinute : xMV mX1_endMinute 0 := ⟨myX1_endMinute, xT_of (i := 298) (by decide +kernel) (by decide +kernel), xT_of (i := 299) (by decide +kernel) (by decide +kernel)⟩
theorem myX1_leastNow : xMy mX1_leastNow 0 := ⟨xT_of (i := 304) (by decide +kernel) (by decide +kernel), ziX1, ⟨by decide +kernel, by decide +kernel, by decide +kernel⟩, by decide⟩
theorem mpX1_leastNow : plainName mX1_leastNow.1.cls = true := by decide +kernel
theorem mzX1_leastNow : xMV mX1_leastNow 0 := ⟨myX1_leastNow, xT_of (i := 302) (by decide +kernel) (by decide +kernel), xT_of (i := 303) (by decide +kernel) (by decide +kernel)⟩
theorem myX1_mostNow : xMy mX1_mostNow 0 := ⟨xT_of (i := 309) (by decide +kernel) (by decide +kernel), ziX1, ⟨by decide +kernel, by decide +kernel, by decide +kernel⟩, by decide⟩
theorem mpX1_mostNow : plainName mX1_mostNow.1.cls = true := by decide +kernel
theorem mzX1_mostNow : xMV mX1_mostNow 0 := ⟨myX1_mostNow, xT_of (i := 307) (by decide +kernel) (by decide +kernel), xT_of (i := 308) (by decide +kernel) (by decide +kernel)⟩
theorem myX1_startFrom : xMy mX1_startFrom 2 := ⟨xT_of (i := 313) (by decide +kernel) (by decide +kernel), ziX1, ⟨by decide +kernel, by decide +kernel, by decide +kernel⟩, by decide⟩
theorem mpX1_startFrom : plainName mX1_startFrom.1.cls = true := by decide +kernel
theorem mzX1_startFrom : xMV mX1_startFrom 2 := ⟨myX1_startFrom, xT_of (i := 311) (by decide +kernel) (by decide +kernel), xT_of (i := 312) (by decide +kernel) (by decide +kernel)⟩
theorem myX8_ticket : xMy mX8_ticket 4 := ⟨xT_of (i := 317) (by decide +kernel) (by decide +kernel), ziX8, ⟨by decide +kernel, by decide +kernel, by decide +kernel⟩, by decide⟩
theorem mpX8_ticket : plainName mX8_ticket.1.cls = true := by decide +kernel
theorem mzX8_ticket : xMV mX8_ticket 4 := ⟨myX8_ticket, xT_of (i := 315) (by decide +kernel) (by decide +kernel), xT_of (i := 316) (by decide +kernel) (by decide +kernel)⟩
theorem myX8_poolOf : xMy mX8_poolOf 1 := ⟨xT_of (i := 321) (by decide +kernel) (by decide +kernel), ziX8, ⟨by decide +kernel, by decide +kernel, by decide +kernel⟩, by decide⟩
theorem mpX8_poolOf : plainName mX8_poolOf.1.cls = true := by decide +kernel
theorem mzX8_poolOf : xMV mX8_poolOf 1 := ⟨myX8_poolOf, xT_of (i := 320) (by decide +kernel) (by decide +kernel), xT_of (i := 1) (by decide +kernel) (by decide +kernel)⟩
theorem myX8_isTicketSold : xMy mX8_isTicketSold 3 := ⟨xT_of (i := 325) (by decide +kernel) (by decide +kernel), ziX8, ⟨by decide +kernel, by decide +kernel, by decide +kernel⟩, by decide⟩
theorem mpX8_isTicketSold : plainName mX8_isTicketSold.1.cls = true := by decide +kernel
theorem mzX8_isTicketSold : xMV mX8_isTicketSold 3 := ⟨myX8_isTicketSold, xT_of (i := 324) (by decide +kernel) (by decide +kernel), xT_of (i := 2) (by decide +kernel) (by decide +kernel)⟩
theorem myX8_isClubKind : xMy mX8_isClubKind 1 := ⟨xT_of (i := 328) (by decide +kernel) (by decide +kernel), ziX8, ⟨by decide +kernel, by decide +kernel, by decide +kernel⟩, by decide⟩
theorem mpX8_isClubKind : plainName mX8_isClubKind.1.cls = true := by decide +kernel
theorem mzX8_isClubKind : xMS mX8_isClubKind 1 := ⟨myX8_isClubKind, xT_of (i := 327) (by decide +kernel) (by decide +kernel)⟩
theorem myX8_clubOf : xMy mX8_clubOf 1 := ⟨xT_of (i := 332) (by decide +kernel) (by decide +kernel), ziX8, ⟨by decide +kernel, by decide +kernel, by decide +kernel⟩, by decide⟩
theorem mpX8_clubOf : plainName mX8_clubOf.1.cls = true := by decide +kernel
theorem mzX8_clubOf : xMV mX8_clubOf 1 := ⟨myX8_clubOf, xT_of (i := 331) (by decide +kernel) (by decide +kernel), xT_of (i := 3) (by decide +kernel) (by decide +kernel)⟩
theorem myX0_isSchool : xMy mX0_isSchool 0 := ⟨xT_of (i := 336) (by decide +kernel) (by decide +kernel), ziX0, ⟨by decide +kernel, by decide +kernel, by decide +kernel⟩, by decide⟩
theorem mpX0_isSchool : plainName mX0_isSchool.1.cls = true := by decide +kernel
theorem mzX0_isSchool : xMV mX0_isSchool 0 := ⟨myX0_isSchool, xT_of (i := 334) (by decide +kernel) (by decide +kernel), xT_of (i := 335) (by decide +kernel) (by decide +kernel)⟩
theorem myX7_init : xMy mX7_init 6 := ⟨xT_of (i := 340) (by decide +kernel) (by decide +kernel), ziX7, ⟨by decide +kernel, by decide +kernel, by decide +kernel⟩, by decide⟩
theorem mpX7_init : plainName mX7_init.1.cls = true := by decide +kernel
theorem mzX7_init : xMI mX7_init 6 := ⟨myX7_init, xT_of (i := 339) (by decide +kernel) (by decide +kernel), by decide +kernel, rfl⟩
theorem myX8_club : xMy mX8_club 5 := ⟨xT_of (i := 397) (by decide +kernel) (by decide +kernel), ziX8, ⟨by decide +kernel, by decide +kernel, by decide +kernel⟩, by decide⟩
theorem mpX8_club : plainName mX8_club.1.cls = true := by decide +kernel
theorem mzX8_club : xMV mX8_club 5 := ⟨myX8_club, xT_of (i := 395) (by decide +kernel) (by decide +kernel), xT_of (i := 396) (by decide +kernel) (by decide +kernel)⟩
theorem myX3_hasLanes : xMy mX3_hasLanes 1 := ⟨xT_of (i := 401) (by decide +kernel) (by decide +kernel), ziX3, ⟨by decide +kernel, by decide +kernel, by decide +kernel⟩, by decide⟩
theorem mpX3_hasLanes : plainName mX3_hasLanes.1.cls = true := by decide +kernel
theorem mzX3_hasLanes : xMV mX3_hasLanes 1 := ⟨myX3_hasLanes, xT_of (i := 399) (by decide +kernel) (by decide +kernel), xT_of (i := 400) (by decide +kernel) (by decide +kernel)⟩
theorem myX0_init : xMy mX0_init 5 := ⟨xT_of (i := 405) (by decide +kernel) (by decide +kernel), ziX0, ⟨by decide +kernel, by decide +kernel, by decide +kernel⟩, by decide⟩
theorem mpX0_init : plainName mX0_init.1.cls = true := by decide +kernel
theorem mzX0_init : xMI mX0_init 5 := ⟨myX0_init, xT_of (i := 404) (by decide +kernel) (by decide +kernel), by decide +kernel, rfl⟩
theorem myX8_lowestClash : xMy mX8_lowestClash 1 := ⟨xT_of (i := 439) (by decide +kernel) (by decide +kernel), ziX8, ⟨by decide +kernel, by decide +kernel, by decide +kernel⟩, by decide⟩
theorem mpX8_lowestClash : plainName mX8_lowestClash.1.cls = true := by decide +kernel
theorem mzX8_lowestClash : xMV mX8_lowestClash 1 := ⟨myX8_lowestClash, xT_of (i := 438) (by decide +kernel) (by decide +kernel), xT_of (i := 4) (by decide +kernel) (by decide +kernel)⟩
theorem myX0_clashesWith : xMy mX0_clashesWith 1 := ⟨xT_of (i := 443) (by decide +kernel) (by decide +kernel), ziX0, ⟨by decide +kernel, by decide +kernel, by decide +kernel⟩, by decide⟩
theorem mpX0_clashesWith : plainName mX0_clashesWith.1.cls = true := by decide +kernel
theorem mzX0_clashesWith : xMV mX0_clashesWith 1 := ⟨myX0_clashesWith, xT_of (i := 441) (by decide +kernel) (by decide +kernel), xT_of (i := 442) (by decide +kernel) (by decide +kernel)⟩
theorem mm_min : Cond.static Lib.Math.min.name ∈ xT ∧ Cond.initialized "java/lang/Math" ∈ xT ∧ Cond.code Lib.Math.min.name Lib.Math.min.code 2 (some .int) ∈ xT := ⟨xT_of (i := 446) (by decide +kernel) (by decide +kernel), xT_of (i := 36) (by decide +kernel) (by decide +kernel), xT_of (i := 447) (by decide +kernel) (by decide +kernel)⟩
theorem myX8_clash : xMy mX8_clash 0 := ⟨xT_of (i := 451) (by decide +kernel) (by decide +kernel), ziX8, ⟨by decide +kernel, by decide +kernel, by decide +kernel⟩, by decide⟩
theorem mpX8_clash : plainName mX8_clash.1.cls = true := by decide +kernel
theorem mzX8_clash : xMV mX8_clash 0 := ⟨myX8_clash, xT_of (i := 449) (by decide +kernel) (by decide +kernel), xT_of (i := 450) (by decide +kernel) (by decide +kernel)⟩
theorem myX8_leave : xMy mX8_leave 1 := ⟨xT_of (i := 455) (by decide +kernel) (by decide +kernel), ziX8, ⟨by decide +kernel, by decide +kernel, by decide +kernel⟩, by decide⟩
theorem mpX8_leave : plainName mX8_leave.1.cls = true := by decide +kernel
theorem mzX8_leave : xMV mX8_leave 1 := ⟨myX8_leave, xT_of (i := 453) (by decide +kernel) (by decide +kernel), xT_of (i := 454) (by decide +kernel) (by decide +kernel)⟩
theorem myX8_may : xMy mX8_may 1 := ⟨xT_of (i := 459) (by decide +kernel) (by decide +kernel), ziX8, ⟨by decide +kernel, by decide +kernel, by decide +kernel⟩, by decide⟩
theorem mpX8_may : plainName mX8_may.1.cls = true := by decide +kernel
theorem mzX8_may : xMV mX8_may 1 := ⟨myX8_may, xT_of (i := 457) (by decide +kernel) (by decide +kernel), xT_of (i := 458) (by decide +kernel) (by decide +kernel)⟩
theorem myX8_ticketOf : xMy mX8_ticketOf 1 := ⟨xT_of (i := 463) (by decide +kernel) (by decide +kernel), ziX8, ⟨by decide +kernel, by decide +kernel, by decide +kernel⟩, by decide⟩
theorem mpX8_ticketOf : plainName mX8_ticketOf.1.cls = true := by decide +kernel
theorem mzX8_ticketOf : xMV mX8_ticketOf 1 := ⟨myX8_ticketOf, xT_of (i := 462) (by decide +kernel) (by decide +kernel), xT_of (i := 5) (by decide +kernel) (by decide +kernel)⟩
theorem myX8_reasonAgainst : xMy mX8_reasonAgainst 1 := ⟨xT_of (i := 467) (by decide +kernel) (by decide +kernel), ziX8, ⟨by decide +kernel, by decide +kernel, by decide +kernel⟩, by decide⟩
theorem mpX8_reasonAgainst : plainName mX8_reasonAgainst.1.cls = true := by decide +kernel
theorem mzX8_reasonAgainst : xMV mX8_reasonAgainst 1 := ⟨myX8_reasonAgainst, xT_of (i := 466) (by decide +kernel) (by decide +kernel), xT_of (i := 6) (by decide +kernel) (by decide +kernel)⟩
theorem myX8_reasonAgainstHead : xMy mX8_reasonAgainstHead 1 := ⟨xT_of (i := 471) (by decide +kernel) (by decide +kernel), ziX8, ⟨by decide +kernel, by decide +kernel, by decide +kernel⟩, by decide⟩
theorem mpX8_reasonAgainstHead : plainName mX8_reasonAgainstHead.1.cls = true := by decide +kernel
theorem mzX8_reasonAgainstHead : xMV mX8_reasonAgainstHead 1 := ⟨myX8_reasonAgainstHead, xT_of (i := 470) (by decide +kernel) (by decide +kernel), xT_of (i := 7) (by decide +kernel) (by decide +kernel)⟩
theorem myX7_isItsTime : xMy mX7_isItsTime 1 := ⟨xT_of (i := 475) (by decide +kernel) (by decide +kernel), ziX7, ⟨by decide +kernel, by decide +kernel, by decide +kernel⟩, by decide⟩
theorem mpX7_isItsTime : plainName mX7_isItsTime.1.cls = true := by decide +kernel
theorem mzX7_isItsTime : xMV mX7_isItsTime 1 := ⟨myX7_isItsTime, xT_of (i := 473) (by decide +kernel) (by decide +kernel), xT_of (i := 474) (by decide +kernel) (by decide +kernel)⟩
theorem myX0_isThere : xMy mX0_isThere 1 := ⟨xT_of (i := 479) (by decide +kernel) (by decide +kernel), ziX0, ⟨by decide +kernel, by decide +kernel, by decide +kernel⟩, by decide⟩
theorem mpX0_isThere : plainName mX0_isThere.1.cls = true := by decide +kernel
theorem mzX0_isThere : xMV mX0_isThere 1 := ⟨myX0_isThere, xT_of (i := 477) (by decide +kernel) (by decide +kernel), xT_of (i := 478) (by decide +kernel) (by decide +kernel)⟩
theorem myX7_lacksTeacher : xMy mX7_lacksTeacher 0 := ⟨xT_of (i := 485) (by decide +kernel) (by decide +kernel), ziX7, ⟨by decide +kernel, by decide +kernel, by decide +kernel⟩, by decide⟩
theorem mpX7_lacksTeacher : plainName mX7_lacksTeacher.1.cls = true := by decide +kernel
theorem mzX7_lacksTeacher : xMV mX7_lacksTeacher 0 := ⟨myX7_lacksTeacher, xT_of (i := 483) (by decide +kernel) (by decide +kernel), xT_of (i := 484) (by decide +kernel) (by decide +kernel)⟩
theorem myX8_in : xMy mX8_in 1 := ⟨xT_of (i := 489) (by decide +kernel) (by decide +kernel), ziX8, ⟨by decide +kernel, by decide +kernel, by decide +kernel⟩, by decide⟩
theorem mpX8_in : plainName mX8_in.1.cls = true := by decide +kernel
theorem mzX8_in : xMV mX8_in 1 := ⟨myX8_in, xT_of (i := 487) (by decide +kernel) (by decide +kernel), xT_of (i := 488) (by decide +kernel) (by decide +kernel)⟩
theorem myX7_comeIn : xMy mX7_comeIn 1 := ⟨xT_of (i := 493) (by decide +kernel) (by decide +kernel), ziX7, ⟨by decide +kernel, by decide +kernel, by decide +kernel⟩, by decide⟩
theorem mpX7_comeIn : plainName mX7_comeIn.1.cls = true := by decide +kernel
theorem mzX7_comeIn : xMV mX7_comeIn 1 := ⟨myX7_comeIn, xT_of (i := 491) (by decide +kernel) (by decide +kernel), xT_of (i := 492) (by decide +kernel) (by decide +kernel)⟩
theorem myX0_pass : xMy mX0_pass 2 := ⟨xT_of (i := 497) (by decide +kernel) (by decide +kernel), ziX0, ⟨by decide +kernel, by decide +kernel, by decide +kernel⟩, by decide⟩
theorem mpX0_pass : plainName mX0_pass.1.cls = true := by decide +kernel
theorem mzX0_pass : xMV mX0_pass 2 := ⟨myX0_pass, xT_of (i := 495) (by decide +kernel) (by decide +kernel), xT_of (i := 496) (by decide +kernel) (by decide +kernel)⟩
theorem myX3_letIn : xMy mX3_letIn 1 := ⟨xT_of (i := 501) (by decide +kernel) (by decide +kernel), ziX3, ⟨by decide +kernel, by decide +kernel, by decide +kernel⟩, by decide⟩
theorem mpX3_letIn : plainName mX3_letIn.1.cls = true := by decide +kernel
theorem mzX3_letIn : xMV mX3_letIn 1 := ⟨myX3_letIn, xT_of (i := 499) (by decide +kernel) (by decide +kernel), xT_of (i := 500) (by decide +kernel) (by decide +kernel)⟩
theorem myX8_out : xMy mX8_out 1 := ⟨xT_of (i := 505) (by decide +kernel) (by decide +kernel), ziX8, ⟨by decide +kernel, by decide +kernel, by decide +kernel⟩, by decide⟩
theorem mpX8_out : plainName mX8_out.1.cls = true := by decide +kernel
theorem mzX8_out : xMV mX8_out 1 := ⟨myX8_out, xT_of (i := 503) (by decide +kernel) (by decide +kernel), xT_of (i := 504) (by decide +kernel) (by decide +kernel)⟩
theorem myX7_owes : xMy mX7_owes 1 := ⟨xT_of (i := 509) (by decide +kernel) (by decide +kernel), ziX7, ⟨by decide +kernel, by decide +kernel, by decide +kernel⟩, by decide⟩
theorem mpX7_owes : plainName mX7_owes.1.cls = true := by decide +kernel
theorem mzX7_owes : xMV mX7_owes 1 := ⟨myX7_owes, xT_of (i := 507) (by decide +kernel) (by decide +kernel), xT_of (i := 508) (by decide +kernel) (by decide +kernel)⟩
theorem myX7_minutesLeft : xMy mX7_minutesLeft 1 := ⟨xT_of (i := 513) (by decide +kernel) (by decide +kernel), ziX7, ⟨by decide +kernel, by decide +kernel, by decide +kernel⟩, by decide⟩
theorem mpX7_minutesLeft : plainName mX7_minutesLeft.1.cls = true := by decide +kernel
theorem mzX7_minutesLeft : xMV mX7_minutesLeft 1 := ⟨myX7_minutesLeft, xT_of (i := 511) (by decide +kernel) (by decide +kernel), xT_of (i := 512) (by decide +kernel) (by decide +kernel)⟩
theorem myX7_goOut : xMy mX7_goOut 2 := ⟨xT_of (i := 517) (by decide +kernel) (by decide +kernel), ziX7, ⟨by decide +kernel, by decide +kernel, by decide +kernel⟩, by decide⟩
theorem mpX7_goOut : plainName mX7_goOut.1.cls = true := by decide +kernel
theorem mzX7_goOut : xMV mX7_goOut 2 := ⟨myX7_goOut, xT_of (i := 515) (by decide +kernel) (by decide +kernel), xT_of (i := 516) (by decide +kernel) (by decide +kernel)⟩
theorem myX7_leavePost : xMy mX7_leavePost 1 := ⟨xT_of (i := 521) (by decide +kernel) (by decide +kernel), ziX7, ⟨by decide +kernel, by decide +kernel, by decide +kernel⟩, by decide⟩
theorem mpX7_leavePost : plainName mX7_leavePost.1.cls = true := by decide +kernel
theorem mzX7_leavePost : xMV mX7_leavePost 1 := ⟨myX7_leavePost, xT_of (i := 519) (by decide +kernel) (by decide +kernel), xT_of (i := 520) (by decide +kernel) (by decide +kernel)⟩
theorem myX3_letOut : xMy mX3_letOut 1 := ⟨xT_of (i := 525) (by decide +kernel) (by decide +kernel), ziX3, ⟨by decide +kernel, by decide +kernel, by decide +kernel⟩, by decide⟩
theorem mpX3_letOut : plainName mX3_letOut.1.cls = true := by decide +kernel
theorem mzX3_letOut : xMV mX3_letOut 1 := ⟨myX3_letOut, xT_of (i := 523) (by decide +kernel) (by decide +kernel), xT_of (i := 524) (by decide +kernel) (by decide +kernel)⟩
theorem myX2_lose : xMy mX2_lose 1 := ⟨xT_of (i := 529) (by decide +kernel) (by decide +kernel), ziX2, ⟨by decide +kernel, by decide +kernel, by decide +kernel⟩, by decide⟩
theorem mpX2_lose : plainName mX2_lose.1.cls = true := by decide +kernel
theorem mzX2_lose : xMV mX2_lose 1 := ⟨myX2_lose, xT_of (i := 527) (by decide +kernel) (by decide +kernel), xT_of (i := 528) (by decide +kernel) (by decide +kernel)⟩
theorem myX2_isLocker : xMy mX2_isLocker 1 := ⟨xT_of (i := 532) (by decide +kernel) (by decide +kernel), ziX2, ⟨by decide +kernel, by decide +kernel, by decide +kernel⟩, by decide⟩
theorem mpX2_isLocker : plainName mX2_isLocker.1.cls = true := by decide +kernel
theorem mzX2_isLocker : xMS mX2_isLocker 1 := ⟨myX2_isLocker, xT_of (i := 531) (by decide +kernel) (by decide +kernel)⟩
theorem myX8_eye : xMy mX8_eye 2 := ⟨xT_of (i := 536) (by decide +kernel) (by decide +kernel), ziX8, ⟨by decide +kernel, by decide +kernel, by decide +kernel⟩, by decide⟩
theorem mpX8_eye : plainName mX8_eye.1.cls = true := by decide +kernel
theorem mzX8_eye : xMV mX8_eye 2 := ⟨myX8_eye, xT_of (i := 534) (by decide +kernel) (by decide +kernel), xT_of (i := 535) (by decide +kernel) (by decide +kernel)⟩
theorem myX1_turnEye : xMy mX1_turnEye 1 := ⟨xT_of (i := 540) (by decide +kernel) (by decide +kernel), ziX1, ⟨by decide +kernel, by decide +kernel, by decide +kernel⟩, by decide⟩
theorem mpX1_turnEye : plainName mX1_turnEye.1.cls = true := by decide +kernel
theorem mzX1_turnEye : xMV mX1_turnEye 1 := ⟨myX1_turnEye, xT_of (i := 538) (by decide +kernel) (by decide +kernel), xT_of (i := 539) (by decide +kernel) (by decide +kernel)⟩
theorem myX8_hand : xMy mX8_hand 1 := ⟨xT_of (i := 544) (by decide +kernel) (by decide +kernel), ziX8, ⟨by decide +kernel, by decide +kernel, by decide +kernel⟩, by decide⟩
theorem mpX8_hand : plainName mX8_hand.1.cls = true := by decide +kernel
theorem mzX8_hand : xMV mX8_hand 1 := ⟨myX8_hand, xT_of (i := 542) (by decide +kernel) (by decide +kernel), xT_of (i := 543) (by decide +kernel) (by decide +kernel)⟩
theorem myX8_count : xMy mX8_count 2 := ⟨xT_of (i := 549) (by decide +kernel) (by decide +kernel), ziX8, ⟨by decide +kernel, by decide +kernel, by decide +kernel⟩, by decide⟩
theorem mpX8_count : plainName mX8_count.1.cls = true := by decide +kernel
theorem mzX8_count : xMV mX8_count 2 := ⟨myX8_count, xT_of (i := 547) (by decide +kernel) (by decide +kernel), xT_of (i := 548) (by decide +kernel) (by decide +kernel)⟩
theorem myX8_freeLanes : xMy mX8_freeLanes 1 := ⟨xT_of (i := 554) (by decide +kernel) (by decide +kernel), ziX8, ⟨by decide +kernel, by decide +kernel, by decide +kernel⟩, by decide⟩
theorem mpX8_freeLanes : plainName mX8_freeLanes.1.cls = true := by decide +kernel
theorem mzX8_freeLanes : xMV mX8_freeLanes 1 := ⟨myX8_freeLanes, xT_of (i := 553) (by decide +kernel) (by decide +kernel), xT_of (i := 8) (by decide +kernel) (by decide +kernel)⟩
theorem myJ6_bitCount_0f7a4 : xMy mJ6_bitCount_0f7a4 1 := ⟨xT_of (i := 558) (by decide +kernel) (by decide +kernel), xT_of (i := 41) (by decide +kernel) (by decide +kernel), ⟨by decide +kernel, by decide +kernel, by decide +kernel⟩, by decide⟩
theorem mpJ6_bitCount_0f7a4 : plainName mJ6_bitCount_0f7a4.1.cls = true := by decide +kernel
theorem mzJ6_bitCount_0f7a4 : xMS mJ6_bitCount_0f7a4 1 := ⟨myJ6_bitCount_0f7a4, xT_of (i := 557) (by decide +kernel) (by decide +kernel)⟩
theorem myX8_bounds : xMy mX8_bounds 4 := ⟨xT_of (i := 566) (by decide +kernel) (by decide +kernel), ziX8, ⟨by decide +kernel, by decide +kernel, by decide +kernel⟩, by decide⟩
theorem mpX8_bounds : plainName mX8_bounds.1.cls = true := by decide +kernel
theorem mzX8_bounds : xMV mX8_bounds 4 := ⟨myX8_bounds, xT_of (i := 564) (by decide +kernel) (by decide +kernel), xT_of (i := 565) (by decide +kernel) (by decide +kernel)⟩
theorem myX8_thingOf : xMy mX8_thingOf 2 := ⟨xT_of (i := 570) (by decide +kernel) (by decide +kernel), ziX8, ⟨by decide +kernel, by decide +kernel, by decide +kernel⟩, by decide⟩
theorem mpX8_thingOf : plainName mX8_thingOf.1.cls = true := by decide +kernel
theorem mzX8_thingOf : xMV mX8_thingOf 2 := ⟨myX8_thingOf, xT_of (i := 569) (by decide +kernel) (by decide +kernel), xT_of (i := 9) (by decide +kernel) (by decide +kernel)⟩
theorem myX8_measure : xMy mX8_measure 3 := ⟨xT_of (i := 576) (by decide +kernel) (by decide +kernel), ziX8, ⟨by decide +kernel, by decide +kernel, by decide +kernel⟩, by decide⟩
theorem mpX8_measure : plainName mX8_measure.1.cls = true := by decide +kernel
theorem mzX8_measure : xMV mX8_measure 3 := ⟨myX8_measure, xT_of (i := 574) (by decide +kernel) (by decide +kernel), xT_of (i := 575) (by decide +kernel) (by decide +kernel)⟩
theorem myX6_takeMeasure : xMy mX6_takeMeasure 2 := ⟨xT_of (i := 585) (by decide +kernel) (by decide +kernel), ziX6, ⟨by decide +kernel, by decide +kernel, by decide +kernel⟩, by decide⟩
theorem mpX6_takeMeasure : plainName mX6_takeMeasure.1.cls = true := by decide +kernel
theorem mzX6_takeMeasure : xMV mX6_takeMeasure 2 := ⟨myX6_takeMeasure, xT_of (i := 583) (by decide +kernel) (by decide +kernel), xT_of (i := 584) (by decide +kernel) (by decide +kernel)⟩
theorem myX8_put : xMy mX8_put 2 := ⟨xT_of (i := 589) (by decide +kernel) (by decide +kernel), ziX8, ⟨by decide +kernel, by decide +kernel, by decide +kernel⟩, by decide⟩
theorem mpX8_put : plainName mX8_put.1.cls = true := by decide +kernel
theorem mzX8_put : xMV mX8_put 2 := ⟨myX8_put, xT_of (i := 587) (by decide +kernel) (by decide +kernel), xT_of (i := 588) (by decide +kernel) (by decide +kernel)⟩
theorem myX8_shut : xMy mX8_shut 1 := ⟨xT_of (i := 594) (by decide +kernel) (by decide +kernel), ziX8, ⟨by decide +kernel, by decide +kernel, by decide +kernel⟩, by decide⟩
theorem mpX8_shut : plainName mX8_shut.1.cls = true := by decide +kernel
theorem mzX8_shut : xMV mX8_shut 1 := ⟨myX8_shut, xT_of (i := 592) (by decide +kernel) (by decide +kernel), xT_of (i := 593) (by decide +kernel) (by decide +kernel)⟩
theorem myX8_minutes : xMy mX8_minutes 1 := ⟨xT_of (i := 598) (by decide +kernel) (by decide +kernel), ziX8, ⟨by decide +kernel, by decide +kernel, by decide +kernel⟩, by decide⟩
theorem mpX8_minutes : plainName mX8_minutes.1.cls = true := by decide +kernel
theorem mzX8_minutes : xMV mX8_minutes 1 := ⟨myX8_minutes, xT_of (i := 596) (by decide +kernel) (by decide +kernel), xT_of (i := 597) (by decide +kernel) (by decide +kernel)⟩
theorem myX8_post : xMy mX8_post 3 := ⟨xT_of (i := 602) (by decide +kernel) (by decide +kernel), ziX8, ⟨by decide +kernel, by decide +kernel, by decide +kernel⟩, by decide⟩
theorem mpX8_post : plainName mX8_post.1.cls = true := by decide +kernel
theorem mzX8_post : xMV mX8_post 3 := ⟨myX8_post, xT_of (i := 600) (by decide +kernel) (by decide +kernel), xT_of (i := 601) (by decide +kernel) (by decide +kernel)⟩
theorem myX8_postOf : xMy mX8_postOf 2 := ⟨xT_of (i := 606) (by decide +kernel) (by decide +kernel), ziX8, ⟨by decide +kernel, by decide +kernel, by decide +kernel⟩, by decide⟩
theorem mpX8_postOf : plainName mX8_postOf.1.cls = true := by decide +kernel
theorem mzX8_postOf : xMV mX8_postOf 2 := ⟨myX8_postOf, xT_of (i := 605) (by decide +kernel) (by decide +kernel), xT_of (i := 10) (by decide +kernel) (by decide +kernel)⟩
theorem myX7_mayStand : xMy mX7_mayStand 1 := ⟨xT_of (i := 610) (by decide +kernel) (by decide +kernel), ziX7, ⟨by decide +kernel, by decide +kernel, by decide +kernel⟩, by decide⟩
theorem mpX7_mayStand : plainName mX7_mayStand.1.cls = true := by decide +kernel
theorem mzX7_mayStand : xMV mX7_mayStand 1 := ⟨myX7_mayStand, xT_of (i := 608) (by decide +kernel) (by decide +kernel), xT_of (i := 609) (by decide +kernel) (by decide +kernel)⟩
theorem myX7_standAt : xMy mX7_standAt 2 := ⟨xT_of (i := 615) (by decide +kernel) (by decide +kernel), ziX7, ⟨by decide +kernel, by decide +kernel, by decide +kernel⟩, by decide⟩
theorem mpX7_standAt : plainName mX7_standAt.1.cls = true := by decide +kernel
theorem mzX7_standAt : xMV mX7_standAt 2 := ⟨myX7_standAt, xT_of (i := 613) (by decide +kernel) (by decide +kernel), xT_of (i := 614) (by decide +kernel) (by decide +kernel)⟩
theorem myX8_numberOf : xMy mX8_numberOf 1 := ⟨xT_of (i := 618) (by decide +kernel) (by decide +kernel), ziX8, ⟨by decide +kernel, by decide +kernel, by decide +kernel⟩, by decide⟩
theorem mpX8_numberOf : plainName mX8_numberOf.1.cls = true := by decide +kernel
theorem mzX8_numberOf : xMS mX8_numberOf 1 := ⟨myX8_numberOf, xT_of (i := 617) (by decide +kernel) (by decide +kernel)⟩
theorem myX8_watcher : xMy mX8_watcher 2 := ⟨xT_of (i := 622) (by decide +kernel) (by decide +kernel), ziX8, ⟨by decide +kernel, by decide +kernel, by decide +kernel⟩, by decide⟩
theorem mpX8_watcher : plainName mX8_watcher.1.cls = true := by decide +kernel
theorem mzX8_watcher : xMV mX8_watcher 2 := ⟨myX8_watcher, xT_of (i := 620) (by decide +kernel) (by decide +kernel), xT_of (i := 621) (by decide +kernel) (by decide +kernel)⟩
theorem myX8_key : xMy mX8_key 1 := ⟨xT_of (i := 626) (by decide +kernel) (by decide +kernel), ziX8, ⟨by decide +kernel, by decide +kernel, by decide +kernel⟩, by decide⟩
theorem mpX8_key : plainName mX8_key.1.cls = true := by decide +kernel
theorem mzX8_key : xMV mX8_key 1 := ⟨myX8_key, xT_of (i := 624) (by decide +kernel) (by decide +kernel), xT_of (i := 625) (by decide +kernel) (by decide +kernel)⟩
theorem myX2_takeLowest : xMy mX2_takeLowest 1 := ⟨xT_of (i := 630) (by decide +kernel) (by decide +kernel), ziX2, ⟨by decide +kernel, by decide +kernel, by decide +kernel⟩, by decide⟩
theorem mpX2_takeLowest : plainName mX2_takeLowest.1.cls = true := by decide +kernel
theorem mzX2_takeLowest : xMV mX2_takeLowest 1 := ⟨myX2_takeLowest, xT_of (i := 628) (by decide +kernel) (by decide +kernel), xT_of (i := 629) (by decide +kernel) (by decide +kernel)⟩
theorem myX8_give : xMy mX8_give 1 := ⟨xT_of (i := 634) (by decide +kernel) (by decide +kernel), ziX8, ⟨by decide +kernel, by decide +kernel, by decide +kernel⟩, by decide⟩
theorem mpX8_give : plainName mX8_give.1.cls = true := by decide +kernel
theorem mzX8_give : xMV mX8_give 1 := ⟨myX8_give, xT_of (i := 632) (by decide +kernel) (by decide +kernel), xT_of (i := 633) (by decide +kernel) (by decide +kernel)⟩
theorem myX2_hangKey : xMy mX2_hangKey 1 := ⟨xT_of (i := 638) (by decide +kernel) (by decide +kernel), ziX2, ⟨by decide +kernel, by decide +kernel, by decide +kernel⟩, by decide⟩
theorem mpX2_hangKey : plainName mX2_hangKey.1.cls = true := by decide +kernel
theorem mzX2_hangKey : xMV mX2_hangKey 1 := ⟨myX2_hangKey, xT_of (i := 636) (by decide +kernel) (by decide +kernel), xT_of (i := 637) (by decide +kernel) (by decide +kernel)⟩
theorem myX8_mend : xMy mX8_mend 1 := ⟨xT_of (i := 642) (by decide +kernel) (by decide +kernel), ziX8, ⟨by decide +kernel, by decide +kernel, by decide +kernel⟩, by decide⟩
theorem mpX8_mend : plainName mX8_mend.1.cls = true := by decide +kernel
theorem mzX8_mend : xMV mX8_mend 1 := ⟨myX8_mend, xT_of (i := 640) (by decide +kernel) (by decide +kernel), xT_of (i := 641) (by decide +kernel) (by decide +kernel)⟩
theorem myX8_locker : xMy mX8_locker 1 := ⟨xT_of (i := 647) (by decide +kernel) (by decide +kernel), ziX8, ⟨by decide +kernel, by decide +kernel, by decide +kernel⟩, by decide⟩
theorem mpX8_locker : plainName mX8_locker.1.cls = true := by decide +kernel
theorem mzX8_locker : xMV mX8_locker 1 := ⟨myX8_locker, xT_of (i := 645) (by decide +kernel) (by decide +kernel), xT_of (i := 646) (by decide +kernel) (by decide +kernel)⟩
theorem myX8_told : xMy mX8_told 2 := ⟨xT_of (i := 651) (by decide +kernel) (by decide +kernel), ziX8, ⟨by decide +kernel, by decide +kernel, by decide +kernel⟩, by decide⟩
theorem mpX8_told : plainName mX8_told.1.cls = true := by decide +kernel
theorem mzX8_told : xMV mX8_told 2 := ⟨myX8_told, xT_of (i := 649) (by decide +kernel) (by decide +kernel), xT_of (i := 650) (by decide +kernel) (by decide +kernel)⟩
theorem myX8_pump : xMy mX8_pump 3 := ⟨xT_of (i := 656) (by decide +kernel) (by decide +kernel), ziX8, ⟨by decide +kernel, by decide +kernel, by decide +kernel⟩, by decide⟩
theorem mpX8_pump : plainName mX8_pump.1.cls = true := by decide +kernel
theorem mzX8_pump : xMV mX8_pump 3 := ⟨myX8_pump, xT_of (i := 654) (by decide +kernel) (by decide +kernel), xT_of (i := 655) (by decide +kernel) (by decide +kernel)⟩
theorem myX8_price : xMy mX8_price 2 := ⟨xT_of (i := 660) (by decide +kernel) (by decide +kernel), ziX8, ⟨by decide +kernel, by decide +kernel, by decide +kernel⟩, by decide⟩
theorem mpX8_price : plainName mX8_price.1.cls = true := by decide +kernel
theorem mzX8_price : xMV mX8_price 2 := ⟨myX8_price, xT_of (i := 658) (by decide +kernel) (by decide +kernel), xT_of (i := 659) (by decide +kernel) (by decide +kernel)⟩
theorem myX8_turn : xMy mX8_turn 2 := ⟨xT_of (i := 664) (by decide +kernel) (by decide +kernel), ziX8, ⟨by decide +kernel, by decide +kernel, by decide +kernel⟩, by decide⟩
theorem mpX8_turn : plainName mX8_turn.1.cls = true := by decide +kernel
theorem mzX8_turn : xMV mX8_turn 2 := ⟨myX8_turn, xT_of (i := 662) (by decide +kernel) (by decide +kernel), xT_of (i := 663) (by decide +kernel) (by decide +kernel)⟩
theorem myX8_hoursNeeded : xMy mX8_hoursNeeded 3 := ⟨xT_of (i := 667) (by decide +kernel) (by decide +kernel), ziX8, ⟨by decide +kernel, by decide +kernel, by decide +kernel⟩, by decide⟩
theorem mpX8_hoursNeeded : plainName mX8_hoursNeeded.1.cls = true := by decide +kernel
theorem mzX8_hoursNeeded : xMS mX8_hoursNeeded 3 := ⟨myX8_hoursNeeded, xT_of (i := 666) (by decide +kernel) (by decide +kernel)⟩
theorem myX5_takeCheapest : xMy mX5_takeCheapest 1 := ⟨xT_of (i := 671) (by decide +kernel) (by decide +kernel), ziX5, ⟨by decide +kernel, by decide +kernel, by decide +kernel⟩, by decide⟩
theorem mpX5_takeCheapest : plainName mX5_takeCheapest.1.cls = true := by decide +kernel
theorem mzX5_takeCheapest : xMV mX5_takeCheapest 1 := ⟨myX5_takeCheapest, xT_of (i := 669) (by decide +kernel) (by decide +kernel), xT_of (i := 670) (by decide +kernel) (by decide +kernel)⟩
theorem myX5_takeNext : xMy mX5_takeNext 0 := ⟨xT_of (i := 675) (by decide +kernel) (by decide +kernel), ziX5, ⟨by decide +kernel, by decide +kernel, by decide +kernel⟩, by decide⟩
theorem mpX5_takeNext : plainName mX5_takeNext.1.cls = true := by decide +kernel
theorem mzX5_takeNext : xMV mX5_takeNext 0 := ⟨myX5_takeNext, xT_of (i := 674) (by decide +kernel) (by decide +kernel), xT_of (i := 11) (by decide +kernel) (by decide +kernel)⟩
theorem myX8_hour : xMy mX8_hour 1 := ⟨xT_of (i := 679) (by decide +kernel) (by decide +kernel), ziX8, ⟨by decide +kernel, by decide +kernel, by decide +kernel⟩, by decide⟩
theorem mpX8_hour : plainName mX8_hour.1.cls = true := by decide +kernel
theorem mzX8_hour : xMV mX8_hour 1 := ⟨myX8_hour, xT_of (i := 677) (by decide +kernel) (by decide +kernel), xT_of (i := 678) (by decide +kernel) (by decide +kernel)⟩
theorem myX8_all : xMy mX8_all 1 := ⟨xT_of (i := 683) (by decide +kernel) (by decide +kernel), ziX8, ⟨by decide +kernel, by decide +kernel, by decide +kernel⟩, by decide⟩
theorem mpX8_all : plainName mX8_all.1.cls = true := by decide +kernel
theorem mzX8_all : xMV mX8_all 1 := ⟨myX8_all, xT_of (i := 681) (by decide +kernel) (by decide +kernel), xT_of (i := 682) (by decide +kernel) (by decide +kernel)⟩
theorem myX2_lostOnes : xMy mX2_lostOnes 0 := ⟨xT_of (i := 687) (by decide +kernel) (by decide +kernel), ziX2, ⟨by decide +kernel, by decide +kernel, by decide +kernel⟩, by decide⟩
theorem mpX2_lostOnes : plainName mX2_lostOnes.1.cls = true := by decide +kernel
theorem mzX2_lostOnes : xMV mX2_lostOnes 0 := ⟨myX2_lostOnes, xT_of (i := 685) (by decide +kernel) (by decide +kernel), xT_of (i := 686) (by decide +kernel) (by decide +kernel)⟩
theorem myX8_insideAllPools : xMy mX8_insideAllPools 0 := ⟨xT_of (i := 691) (by decide +kernel) (by decide +kernel), ziX8, ⟨by decide +kernel, by decide +kernel, by decide +kernel⟩, by decide⟩
theorem mpX8_insideAllPools : plainName mX8_insideAllPools.1.cls = true := by decide +kernel
theorem mzX8_insideAllPools : xMV mX8_insideAllPools 0 := ⟨myX8_insideAllPools, xT_of (i := 690) (by decide +kernel) (by decide +kernel), xT_of (i := 12) (by decide +kernel) (by decide +kernel)⟩
theorem myX2_keysOut : xMy mX2_keysOut 0 := ⟨xT_of (i := 695) (by decide +kernel) (by decide +kernel), ziX2, ⟨by decide +kernel, by decide +kernel, by decide +kernel⟩, by decide⟩
theorem mpX2_keysOut : plainName mX2_keysOut.1.cls = true := by decide +kernel
theorem mzX2_keysOut : xMV mX2_keysOut 0 := ⟨myX2_keysOut, xT_of (i := 693) (by decide +kernel) (by decide +kernel), xT_of (i := 694) (by decide +kernel) (by decide +kernel)⟩
theorem myX9_init : xMy mX9_init 0 := ⟨xT_of (i := 700) (by decide +kernel) (by decide +kernel), ziX9, ⟨by decide +kernel, by decide +kernel, by decide +kernel⟩, by decide⟩
theorem mpX9_init : plainName mX9_init.1.cls = true := by decide +kernel
theorem mzX9_init : xMI mX9_init 0 := ⟨myX9_init, xT_of (i := 699) (by decide +kernel) (by decide +kernel), by decide +kernel, rfl⟩
theorem myX9_pool : xMy mX9_pool 4 := ⟨xT_of (i := 850) (by decide +kernel) (by decide +kernel), ziX9, ⟨by decide +kernel, by decide +kernel, by decide +kernel⟩, by decide⟩
theorem mpX9_pool : plainName mX9_pool.1.cls = true := by decide +kernel
theorem mzX9_pool : xMV mX9_pool 4 := ⟨myX9_pool, xT_of (i := 848) (by decide +kernel) (by decide +kernel), xT_of (i := 849) (by decide +kernel) (by decide +kernel)⟩
theorem myX9_in : xMy mX9_in 3 := ⟨xT_of (i := 853) (by decide +kernel) (by decide +kernel), ziX9, ⟨by decide +kernel, by decide +kernel, by decide +kernel⟩, by decide⟩
theorem mpX9_in : plainName mX9_in.1.cls = true := by decide +kernel
theorem mzX9_in : xMS mX9_in 3 := ⟨myX9_in, xT_of (i := 852) (by decide +kernel) (by decide +kernel)⟩
theorem myX9_go : xMy mX9_go 1 := ⟨xT_of (i := 857) (by decide +kernel) (by decide +kernel), ziX9, ⟨by decide +kernel, by decide +kernel, by decide +kernel⟩, by decide⟩
theorem mpX9_go : plainName mX9_go.1.cls = true := by decide +kernel
theorem mzX9_go : xMV mX9_go 1 := ⟨myX9_go, xT_of (i := 855) (by decide +kernel) (by decide +kernel), xT_of (i := 856) (by decide +kernel) (by decide +kernel)⟩
theorem myX9_reasons : xMy mX9_reasons 1 := ⟨xT_of (i := 861) (by decide +kernel) (by decide +kernel), ziX9, ⟨by decide +kernel, by decide +kernel, by decide +kernel⟩, by decide⟩
theorem mpX9_reasons : plainName mX9_reasons.1.cls = true := by decide +kernel
theorem mzX9_reasons : xMV mX9_reasons 1 := ⟨myX9_reasons, xT_of (i := 860) (by decide +kernel) (by decide +kernel), xT_of (i := 13) (by decide +kernel) (by decide +kernel)⟩
theorem myX9_isFilled : xMy mX9_isFilled 1 := ⟨xT_of (i := 865) (by decide +kernel) (by decide +kernel), ziX9, ⟨by decide +kernel, by decide +kernel, by decide +kernel⟩, by decide⟩
theorem mpX9_isFilled : plainName mX9_isFilled.1.cls = true := by decide +kernel
theorem mzX9_isFilled : xMV mX9_isFilled 1 := ⟨myX9_isFilled, xT_of (i := 864) (by decide +kernel) (by decide +kernel), xT_of (i := 14) (by decide +kernel) (by decide +kernel)⟩
theorem myX9_leastNow : xMy mX9_leastNow 1 := ⟨xT_of (i := 869) (by decide +kernel) (by decide +kernel), ziX9, ⟨by decide +kernel, by decide +kernel, by decide +kernel⟩, by decide⟩
theorem mpX9_leastNow : plainName mX9_leastNow.1.cls = true := by decide +kernel
theorem mzX9_leastNow : xMV mX9_leastNow 1 := ⟨myX9_leastNow, xT_of (i := 868) (by decide +kernel) (by decide +kernel), xT_of (i := 15) (by decide +kernel) (by decide +kernel)⟩
theorem myX9_mostNow : xMy mX9_mostNow 1 := ⟨xT_of (i := 873) (by decide +kernel) (by decide +kernel), ziX9, ⟨by decide +kernel, by decide +kernel, by decide +kernel⟩, by decide⟩
theorem mpX9_mostNow : plainName mX9_mostNow.1.cls = true := by decide +kernel
theorem mzX9_mostNow : xMV mX9_mostNow 1 := ⟨myX9_mostNow, xT_of (i := 872) (by decide +kernel) (by decide +kernel), xT_of (i := 16) (by decide +kernel) (by decide +kernel)⟩
theorem myX9_begins : xMy mX9_begins 3 := ⟨xT_of (i := 877) (by decide +kernel) (by decide +kernel), ziX9, ⟨by decide +kernel, by decide +kernel, by decide +kernel⟩, by decide⟩
theorem mpX9_begins : plainName mX9_begins.1.cls = true := by decide +kernel
theorem mzX9_begins : xMV mX9_begins 3 := ⟨myX9_begins, xT_of (i := 876) (by decide +kernel) (by decide +kernel), xT_of (i := 17) (by decide +kernel) (by decide +kernel)⟩
theorem myX9_eye : xMy mX9_eye 2 := ⟨xT_of (i := 881) (by decide +kernel) (by decide +kernel), ziX9, ⟨by decide +kernel, by decide +kernel, by decide +kernel⟩, by decide⟩
theorem mpX9_eye : plainName mX9_eye.1.cls = true := by decide +kernel
theorem mzX9_eye : xMV mX9_eye 2 := ⟨myX9_eye, xT_of (i := 879) (by decide +kernel) (by decide +kernel), xT_of (i := 880) (by decide +kernel) (by decide +kernel)⟩
theorem myX9_has : xMy mX9_has 1 := ⟨xT_of (i := 885) (by decide +kernel) (by decide +kernel), ziX9, ⟨by decide +kernel, by decide +kernel, by decide +kernel⟩, by decide⟩
theorem mpX9_has : plainName mX9_has.1.cls = true := by decide +kernel
theorem mzX9_has : xMV mX9_has 1 := ⟨myX9_has, xT_of (i := 884) (by decide +kernel) (by decide +kernel), xT_of (i := 18) (by decide +kernel) (by decide +kernel)⟩
theorem myX9_hand : xMy mX9_hand 1 := ⟨xT_of (i := 889) (by decide +kernel) (by decide +kernel), ziX9, ⟨by decide +kernel, by decide +kernel, by decide +kernel⟩, by decide⟩
theorem mpX9_hand : plainName mX9_hand.1.cls = true := by decide +kernel
theorem mzX9_hand : xMV mX9_hand 1 := ⟨myX9_hand, xT_of (i := 887) (by decide +kernel) (by decide +kernel), xT_of (i := 888) (by decide +kernel) (by decide +kernel)⟩
theorem myX9_truth : xMy mX9_truth 2 := ⟨xT_of (i := 893) (by decide +kernel) (by decide +kernel), ziX9, ⟨by decide +kernel, by decide +kernel, by decide +kernel⟩, by decide⟩
theorem mpX9_truth : plainName mX9_truth.1.cls = true := by decide +kernel
theorem mzX9_truth : xMV mX9_truth 2 := ⟨myX9_truth, xT_of (i := 892) (by decide +kernel) (by decide +kernel), xT_of (i := 19) (by decide +kernel) (by decide +kernel)⟩
theorem myX9_club : xMy mX9_club 5 := ⟨xT_of (i := 897) (by decide +kernel) (by decide +kernel), ziX9, ⟨by decide +kernel, by decide +kernel, by decide +kernel⟩, by decide⟩
theorem mpX9_club : plainName mX9_club.1.cls = true := by decide +kernel
theorem mzX9_club : xMV mX9_club 5 := ⟨myX9_club, xT_of (i := 895) (by decide +kernel) (by decide +kernel), xT_of (i := 896) (by decide +kernel) (by decide +kernel)⟩
theorem myX9_clash : xMy mX9_clash 0 := ⟨xT_of (i := 901) (by decide +kernel) (by decide +kernel), ziX9, ⟨by decide +kernel, by decide +kernel, by decide +kernel⟩, by decide⟩
theorem mpX9_clash : plainName mX9_clash.1.cls = true := by decide +kernel
theorem mzX9_clash : xMV mX9_clash 0 := ⟨myX9_clash, xT_of (i := 899) (by decide +kernel) (by decide +kernel), xT_of (i := 900) (by decide +kernel) (by decide +kernel)⟩
theorem myX9_leave : xMy mX9_leave 1 := ⟨xT_of (i := 905) (by decide +kernel) (by decide +kernel), ziX9, ⟨by decide +kernel, by decide +kernel, by decide +kernel⟩, by decide⟩
theorem mpX9_leave : plainName mX9_leave.1.cls = true := by decide +kernel
theorem mzX9_leave : xMV mX9_leave 1 := ⟨myX9_leave, xT_of (i := 903) (by decide +kernel) (by decide +kernel), xT_of (i := 904) (by decide +kernel) (by decide +kernel)⟩
theorem myX9_bounds : xMy mX9_bounds 4 := ⟨xT_of (i := 909) (by decide +kernel) (by decide +kernel), ziX9, ⟨by decide +kernel, by decide +kernel, by decide +kernel⟩, by decide⟩
theorem mpX9_bounds : plainName mX9_bounds.1.cls = true := by decide +kernel
theorem mzX9_bounds : xMV mX9_bounds 4 := ⟨myX9_bounds, xT_of (i := 907) (by decide +kernel) (by decide +kernel), xT_of (i := 908) (by decide +kernel) (by decide +kernel)⟩
theorem myX9_measure : xMy mX9_measure 3 := ⟨xT_of (i := 915) (by decide +kernel) (by decide +kernel), ziX9, ⟨by decide +kernel, by decide +kernel, by decide +kernel⟩, by decide⟩
theorem mpX9_measure : plainName mX9_measure.1.cls = true := by decide +kernel
theorem mzX9_measure : xMV mX9_measure 3 := ⟨myX9_measure, xT_of (i := 913) (by decide +kernel) (by decide +kernel), xT_of (i := 914) (by decide +kernel) (by decide +kernel)⟩
theorem myX9_put : xMy mX9_put 2 := ⟨xT_of (i := 924) (by decide +kernel) (by decide +kernel), ziX9, ⟨by decide +kernel, by decide +kernel, by decide +kernel⟩, by decide⟩
theorem mpX9_put : plainName mX9_put.1.cls = true := by decide +kernel
theorem mzX9_put : xMV mX9_put 2 := ⟨myX9_put, xT_of (i := 922) (by decide +kernel) (by decide +kernel), xT_of (i := 923) (by decide +kernel) (by decide +kernel)⟩
theorem myX9_shut : xMy mX9_shut 1 := ⟨xT_of (i := 928) (by decide +kernel) (by decide +kernel), ziX9, ⟨by decide +kernel, by decide +kernel, by decide +kernel⟩, by decide⟩
theorem mpX9_shut : plainName mX9_shut.1.cls = true := by decide +kernel
theorem mzX9_shut : xMV mX9_shut 1 := ⟨myX9_shut, xT_of (i := 926) (by decide +kernel) (by decide +kernel), xT_of (i := 927) (by decide +kernel) (by decide +kernel)⟩
theorem myX9_minutes : xMy mX9_minutes 1 := ⟨xT_of (i := 932) (by decide +kernel) (by decide +kernel), ziX9, ⟨by decide +kernel, by decide +kernel, by decide +kernel⟩, by decide⟩
theorem mpX9_minutes : plainName mX9_minutes.1.cls = true := by decide +kernel
theorem mzX9_minutes : xMV mX9_minutes 1 := ⟨myX9_minutes, xT_of (i := 930) (by decide +kernel) (by decide +kernel), xT_of (i := 931) (by decide +kernel) (by decide +kernel)⟩
theorem myX9_ticket : xMy mX9_ticket 4 := ⟨xT_of (i := 936) (by decide +kernel) (by decide +kernel), ziX9, ⟨by decide +kernel, by decide +kernel, by decide +kernel⟩, by decide⟩
theorem mpX9_ticket : plainName mX9_ticket.1.cls = true := by decide +kernel
theorem mzX9_ticket : xMV mX9_ticket 4 := ⟨myX9_ticket, xT_of (i := 934) (by decide +kernel) (by decide +kernel), xT_of (i := 935) (by decide +kernel) (by decide +kernel)⟩
theorem myX9_may : xMy mX9_may 1 := ⟨xT_of (i := 940) (by decide +kernel) (by decide +kernel), ziX9, ⟨by decide +kernel, by decide +kernel, by decide +kernel⟩, by decide⟩
theorem mpX9_may : plainName mX9_may.1.cls = true := by decide +kernel
theorem mzX9_may : xMV mX9_may 1 := ⟨myX9_may, xT_of (i := 938) (by decide +kernel) (by decide +kernel), xT_of (i := 939) (by decide +kernel) (by decide +kernel)⟩
theorem myX9_isTicket : xMy mX9_isTicket 1 := ⟨xT_of (i := 944) (by decide +kernel) (by decide +kernel), ziX9, ⟨by decide +kernel, by decide +kernel, by decide +kernel⟩, by decide⟩
theorem mpX9_isTicket : plainName mX9_isTicket.1.cls = true := by decide +kernel
theorem mzX9_isTicket : xMV mX9_isTicket 1 := ⟨myX9_isTicket, xT_of (i := 943) (by decide +kernel) (by decide +kernel), xT_of (i := 20) (by decide +kernel) (by decide +kernel)⟩
theorem myX9_isClubbed : xMy mX9_isClubbed 1 := ⟨xT_of (i := 948) (by decide +kernel) (by decide +kernel), ziX9, ⟨by decide +kernel, by decide +kernel, by decide +kernel⟩, by decide⟩
theorem mpX9_isClubbed : plainName mX9_isClubbed.1.cls = true := by decide +kernel
theorem mzX9_isClubbed : xMV mX9_isClubbed 1 := ⟨myX9_isClubbed, xT_of (i := 947) (by decide +kernel) (by decide +kernel), xT_of (i := 21) (by decide +kernel) (by decide +kernel)⟩
theorem myX9_isThere : xMy mX9_isThere 1 := ⟨xT_of (i := 952) (by decide +kernel) (by decide +kernel), ziX9, ⟨by decide +kernel, by decide +kernel, by decide +kernel⟩, by decide⟩
theorem mpX9_isThere : plainName mX9_isThere.1.cls = true := by decide +kernel
theorem mzX9_isThere : xMV mX9_isThere 1 := ⟨myX9_isThere, xT_of (i := 951) (by decide +kernel) (by decide +kernel), xT_of (i := 22) (by decide +kernel) (by decide +kernel)⟩
theorem myX9_inSchool : xMy mX9_inSchool 2 := ⟨xT_of (i := 956) (by decide +kernel) (by decide +kernel), ziX9, ⟨by decide +kernel, by decide +kernel, by decide +kernel⟩, by decide⟩
theorem mpX9_inSchool : plainName mX9_inSchool.1.cls = true := by decide +kernel
theorem mzX9_inSchool : xMV mX9_inSchool 2 := ⟨myX9_inSchool, xT_of (i := 955) (by decide +kernel) (by decide +kernel), xT_of (i := 23) (by decide +kernel) (by decide +kernel)⟩
theorem myX9_in_ : xMy mX9_in_ 1 := ⟨xT_of (i := 960) (by decide +kernel) (by decide +kernel), ziX9, ⟨by decide +kernel, by decide +kernel, by decide +kernel⟩, by decide⟩
theorem mpX9_in_ : plainName mX9_in_.1.cls = true := by decide +kernel
theorem mzX9_in_ : xMV mX9_in_ 1 := ⟨myX9_in_, xT_of (i := 958) (by decide +kernel) (by decide +kernel), xT_of (i := 959) (by decide +kernel) (by decide +kernel)⟩
theorem myX9_out : xMy mX9_out 1 := ⟨xT_of (i := 965) (by decide +kernel) (by decide +kernel), ziX9, ⟨by decide +kernel, by decide +kernel, by decide +kernel⟩, by decide⟩
theorem mpX9_out : plainName mX9_out.1.cls = true := by decide +kernel
theorem mzX9_out : xMV mX9_out 1 := ⟨myX9_out, xT_of (i := 963) (by decide +kernel) (by decide +kernel), xT_of (i := 964) (by decide +kernel) (by decide +kernel)⟩
theorem myX9_beyond : xMy mX9_beyond 1 := ⟨xT_of (i := 969) (by decide +kernel) (by decide +kernel), ziX9, ⟨by decide +kernel, by decide +kernel, by decide +kernel⟩, by decide⟩
theorem mpX9_beyond : plainName mX9_beyond.1.cls = true := by decide +kernel
theorem mzX9_beyond : xMV mX9_beyond 1 := ⟨myX9_beyond, xT_of (i := 968) (by decide +kernel) (by decide +kernel), xT_of (i := 24) (by decide +kernel) (by decide +kernel)⟩
theorem myX9_isTimed : xMy mX9_isTimed 1 := ⟨xT_of (i := 973) (by decide +kernel) (by decide +kernel), ziX9, ⟨by decide +kernel, by decide +kernel, by decide +kernel⟩, by decide⟩
theorem mpX9_isTimed : plainName mX9_isTimed.1.cls = true := by decide +kernel
theorem mzX9_isTimed : xMV mX9_isTimed 1 := ⟨myX9_isTimed, xT_of (i := 972) (by decide +kernel) (by decide +kernel), xT_of (i := 25) (by decide +kernel) (by decide +kernel)⟩
theorem myX9_leaves : xMy mX9_leaves 1 := ⟨xT_of (i := 977) (by decide +kernel) (by decide +kernel), ziX9, ⟨by decide +kernel, by decide +kernel, by decide +kernel⟩, by decide⟩
theorem mpX9_leaves : plainName mX9_leaves.1.cls = true := by decide +kernel
theorem mzX9_leaves : xMV mX9_leaves 1 := ⟨myX9_leaves, xT_of (i := 976) (by decide +kernel) (by decide +kernel), xT_of (i := 26) (by decide +kernel) (by decide +kernel)⟩
theorem myX9_lockerOf : xMy mX9_lockerOf 1 := ⟨xT_of (i := 981) (by decide +kernel) (by decide +kernel), ziX9, ⟨by decide +kernel, by decide +kernel, by decide +kernel⟩, by decide⟩
theorem mpX9_lockerOf : plainName mX9_lockerOf.1.cls = true := by decide +kernel
theorem mzX9_lockerOf : xMV mX9_lockerOf 1 := ⟨myX9_lockerOf, xT_of (i := 980) (by decide +kernel) (by decide +kernel), xT_of (i := 27) (by decide +kernel) (by decide +kernel)⟩
theorem myX9_post : xMy mX9_post 3 := ⟨xT_of (i := 985) (by decide +kernel) (by decide +kernel), ziX9, ⟨by decide +kernel, by decide +kernel, by decide +kernel⟩, by decide⟩
theorem mpX9_post : plainName mX9_post.1.cls = true := by decide +kernel
theorem mzX9_post : xMV mX9_post 3 := ⟨myX9_post, xT_of (i := 983) (by decide +kernel) (by decide +kernel), xT_of (i := 984) (by decide +kernel) (by decide +kernel)⟩
theorem myX9_watcher : xMy mX9_watcher 2 := ⟨xT_of (i := 989) (by decide +kernel) (by decide +kernel), ziX9, ⟨by decide +kernel, by decide +kernel, by decide +kernel⟩, by decide⟩
theorem mpX9_watcher : plainName mX9_watcher.1.cls = true := by decide +kernel
theorem mzX9_watcher : xMV mX9_watcher 2 := ⟨myX9_watcher, xT_of (i := 987) (by decide +kernel) (by decide +kernel), xT_of (i := 988) (by decide +kernel) (by decide +kernel)⟩
theorem myX9_key : xMy mX9_key 1 := ⟨xT_of (i := 993) (by decide +kernel) (by decide +kernel), ziX9, ⟨by decide +kernel, by decide +kernel, by decide +kernel⟩, by decide⟩
theorem mpX9_key : plainName mX9_key.1.cls = true := by decide +kernel
theorem mzX9_key : xMV mX9_key 1 := ⟨myX9_key, xT_of (i := 991) (by decide +kernel) (by decide +kernel), xT_of (i := 992) (by decide +kernel) (by decide +kernel)⟩
theorem myX9_give : xMy mX9_give 1 := ⟨xT_of (i := 997) (by decide +kernel) (by decide +kernel), ziX9, ⟨by decide +kernel, by decide +kernel, by decide +kernel⟩, by decide⟩
theorem mpX9_give : plainName mX9_give.1.cls = true := by decide +kernel
theorem mzX9_give : xMV mX9_give 1 := ⟨myX9_give, xT_of (i := 995) (by decide +kernel) (by decide +kernel), xT_of (i := 996) (by decide +kernel) (by decide +kernel)⟩
theorem myX9_mend : xMy mX9_mend 1 := ⟨xT_of (i := 1001) (by decide +kernel) (by decide +kernel), ziX9, ⟨by decide +kernel, by decide +kernel, by decide +kernel⟩, by decide⟩
theorem mpX9_mend : plainName mX9_mend.1.cls = true := by decide +kernel
theorem mzX9_mend : xMV mX9_mend 1 := ⟨myX9_mend, xT_of (i := 999) (by decide +kernel) (by decide +kernel), xT_of (i := 1000) (by decide +kernel) (by decide +kernel)⟩
theorem myX9_locker : xMy mX9_locker 1 := ⟨xT_of (i := 1005) (by decide +kernel) (by decide +kernel), ziX9, ⟨by decide +kernel, by decide +kernel, by decide +kernel⟩, by decide⟩
theorem mpX9_locker : plainName mX9_locker.1.cls = true := by decide +kernel
theorem mzX9_locker : xMV mX9_locker 1 := ⟨myX9_locker, xT_of (i := 1003) (by decide +kernel) (by decide +kernel), xT_of (i := 1004) (by decide +kernel) (by decide +kernel)⟩
theorem myX9_count : xMy mX9_count 2 := ⟨xT_of (i := 1009) (by decide +kernel) (by decide +kernel), ziX9, ⟨by decide +kernel, by decide +kernel, by decide +kernel⟩, by decide⟩
theorem mpX9_count : plainName mX9_count.1.cls = true := by decide +kernel
theorem mzX9_count : xMV mX9_count 2 := ⟨myX9_count, xT_of (i := 1007) (by decide +kernel) (by decide +kernel), xT_of (i := 1008) (by decide +kernel) (by decide +kernel)⟩
theorem myX9_isFree : xMy mX9_isFree 2 := ⟨xT_of (i := 1013) (by decide +kernel) (by decide +kernel), ziX9, ⟨by decide +kernel, by decide +kernel, by decide +kernel⟩, by decide⟩
theorem mpX9_isFree : plainName mX9_isFree.1.cls = true := by decide +kernel
theorem mzX9_isFree : xMV mX9_isFree 2 := ⟨myX9_isFree, xT_of (i := 1012) (by decide +kernel) (by decide +kernel), xT_of (i := 28) (by decide +kernel) (by decide +kernel)⟩
theorem myX9_told : xMy mX9_told 2 := ⟨xT_of (i := 1017) (by decide +kernel) (by decide +kernel), ziX9, ⟨by decide +kernel, by decide +kernel, by decide +kernel⟩, by decide⟩
theorem mpX9_told : plainName mX9_told.1.cls = true := by decide +kernel
theorem mzX9_told : xMV mX9_told 2 := ⟨myX9_told, xT_of (i := 1015) (by decide +kernel) (by decide +kernel), xT_of (i := 1016) (by decide +kernel) (by decide +kernel)⟩
theorem myX9_pump : xMy mX9_pump 3 := ⟨xT_of (i := 1021) (by decide +kernel) (by decide +kernel), ziX9, ⟨by decide +kernel, by decide +kernel, by decide +kernel⟩, by decide⟩
theorem mpX9_pump : plainName mX9_pump.1.cls = true := by decide +kernel
theorem mzX9_pump : xMV mX9_pump 3 := ⟨myX9_pump, xT_of (i := 1019) (by decide +kernel) (by decide +kernel), xT_of (i := 1020) (by decide +kernel) (by decide +kernel)⟩
theorem myX9_price : xMy mX9_price 2 := ⟨xT_of (i := 1025) (by decide +kernel) (by decide +kernel), ziX9, ⟨by decide +kernel, by decide +kernel, by decide +kernel⟩, by decide⟩
theorem mpX9_price : plainName mX9_price.1.cls = true := by decide +kernel
theorem mzX9_price : xMV mX9_price 2 := ⟨myX9_price, xT_of (i := 1023) (by decide +kernel) (by decide +kernel), xT_of (i := 1024) (by decide +kernel) (by decide +kernel)⟩
theorem myX9_turn : xMy mX9_turn 2 := ⟨xT_of (i := 1029) (by decide +kernel) (by decide +kernel), ziX9, ⟨by decide +kernel, by decide +kernel, by decide +kernel⟩, by decide⟩
theorem mpX9_turn : plainName mX9_turn.1.cls = true := by decide +kernel
theorem mzX9_turn : xMV mX9_turn 2 := ⟨myX9_turn, xT_of (i := 1027) (by decide +kernel) (by decide +kernel), xT_of (i := 1028) (by decide +kernel) (by decide +kernel)⟩
theorem myX9_hour : xMy mX9_hour 1 := ⟨xT_of (i := 1034) (by decide +kernel) (by decide +kernel), ziX9, ⟨by decide +kernel, by decide +kernel, by decide +kernel⟩, by decide⟩
theorem mpX9_hour : plainName mX9_hour.1.cls = true := by decide +kernel
theorem mzX9_hour : xMV mX9_hour 1 := ⟨myX9_hour, xT_of (i := 1032) (by decide +kernel) (by decide +kernel), xT_of (i := 1033) (by decide +kernel) (by decide +kernel)⟩
theorem myX9_all : xMy mX9_all 1 := ⟨xT_of (i := 1038) (by decide +kernel) (by decide +kernel), ziX9, ⟨by decide +kernel, by decide +kernel, by decide +kernel⟩, by decide⟩
theorem mpX9_all : plainName mX9_all.1.cls = true := by decide +kernel
theorem mzX9_all : xMV mX9_all 1 := ⟨myX9_all, xT_of (i := 1036) (by decide +kernel) (by decide +kernel), xT_of (i := 1037) (by decide +kernel) (by decide +kernel)⟩
theorem kL_9 : Cond.methodLink RL 9 yX8_init ∈ xT := xT_of (i := 44) (by decide +kernel) (by decide +kernel)
theorem kX8_1 : Cond.methodLink RX8 1 objectInit ∈ xT := xT_of (i := 47) (by decide +kernel) (by decide +kernel)
theorem kX8_29 : Cond.methodLink RX8 29 yX2_init ∈ xT := xT_of (i := 58) (by decide +kernel) (by decide +kernel)
theorem kX2_3 : Cond.methodLink RX2 3 objectInit ∈ xT := xT_of (i := 61) (by decide +kernel) (by decide +kernel)
theorem kX8_36 : Cond.methodLink RX8 36 yX5_init ∈ xT := xT_of (i := 75) (by decide +kernel) (by decide +kernel)
theorem kX5_3 : Cond.methodLink RX5 3 objectInit ∈ xT := xT_of (i := 78) (by decide +kernel) (by decide +kernel)
theorem kL_13 : Cond.methodLink RL 13 yX8_pool ∈ xT := xT_of (i := 127) (by decide +kernel) (by decide +kernel)
theorem kX8_48 : Cond.methodLink RX8 48 yX8_isWithin ∈ xT := xT_of (i := 131) (by decide +kernel) (by decide +kernel)
theorem kX8_52 : Cond.methodLink RX8 52 yX3_init ∈ xT := xT_of (i := 135) (by decide +kernel) (by decide +kernel)
theorem kX3_3 : Cond.methodLink RX3 3 objectInit ∈ xT := xT_of (i := 138) (by decide +kernel) (by decide +kernel)
theorem kX1_3 : Cond.methodLink RX1 3 objectInit ∈ xT := xT_of (i := 146) (by decide +kernel) (by decide +kernel)
theorem kX3_34 : Cond.methodLink RX3 34 Lib.Math.max.name ∈ xT := xT_of (i := 175) (by decide +kernel) (by decide +kernel)
theorem kX4_3 : Cond.methodLink RX4 3 objectInit ∈ xT := xT_of (i := 184) (by decide +kernel) (by decide +kernel)
theorem kX6_3 : Cond.methodLink RX6 3 objectInit ∈ xT := xT_of (i := 199) (by decide +kernel) (by decide +kernel)
theorem kL_18 : Cond.methodLink RL 18 yX8_go ∈ xT := xT_of (i := 265) (by decide +kernel) (by decide +kernel)
theorem kX8_55 : Cond.methodLink RX8 55 yX8_endMinute ∈ xT := xT_of (i := 269) (by decide +kernel) (by decide +kernel)
theorem kX8_320 : Cond.methodLink RX8 320 yX3_endMinute ∈ xT := xT_of (i := 273) (by decide +kernel) (by decide +kernel)
theorem kX3_89 : Cond.methodLink RX3 89 yX3_reasonsIn ∈ xT := xT_of (i := 277) (by decide +kernel) (by decide +kernel)
theorem kX3_75 : Cond.methodLink RX3 75 yX6_isRight ∈ xT := xT_of (i := 281) (by decide +kernel) (by decide +kernel)
theorem kX3_79 : Cond.methodLink RX3 79 yX6_isStale ∈ xT := xT_of (i := 285) (by decide +kernel) (by decide +kernel)
theorem kX3_82 : Cond.methodLink RX3 82 yX3_filledPosts ∈ xT := xT_of (i := 289) (by decide +kernel) (by decide +kernel)
theorem kX3_68 : Cond.methodLink RX3 68 yX4_isFilled ∈ xT := xT_of (i := 293) (by decide +kernel) (by decide +kernel)
theorem kX3_92 : Cond.methodLink RX3 92 yX1_endMinute ∈ xT := xT_of (i := 297) (by decide +kernel) (by decide +kernel)
theorem kX1_34 : Cond.methodLink RX1 34 yX1_leastNow ∈ xT := xT_of (i := 301) (by decide +kernel) (by decide +kernel)
theorem kX1_25 : Cond.methodLink RX1 25 Lib.Math.max.name ∈ xT := xT_of (i := 305) (by decide +kernel) (by decide +kernel)
theorem kX1_38 : Cond.methodLink RX1 38 yX1_mostNow ∈ xT := xT_of (i := 306) (by decide +kernel) (by decide +kernel)
theorem kX1_41 : Cond.methodLink RX1 41 yX1_startFrom ∈ xT := xT_of (i := 310) (by decide +kernel) (by decide +kernel)
theorem kL_23 : Cond.methodLink RL 23 yX8_ticket ∈ xT := xT_of (i := 314) (by decide +kernel) (by decide +kernel)
theorem kX8_58 : Cond.methodLink RX8 58 yX8_poolOf ∈ xT := xT_of (i := 318) (by decide +kernel) (by decide +kernel)
theorem kX8_65 : Cond.methodLink RX8 65 yX8_isTicketSold ∈ xT := xT_of (i := 322) (by decide +kernel) (by decide +kernel)
theorem kX8_69 : Cond.methodLink RX8 69 yX8_isClubKind ∈ xT := xT_of (i := 326) (by decide +kernel) (by decide +kernel)
theorem kX8_73 : Cond.methodLink RX8 73 yX8_clubOf ∈ xT := xT_of (i := 329) (by decide +kernel) (by decide +kernel)
theorem kX8_323 : Cond.methodLink RX8 323 yX0_isSchool ∈ xT := xT_of (i := 333) (by decide +kernel) (by decide +kernel)
theorem kX8_77 : Cond.methodLink RX8 77 yX7_init ∈ xT := xT_of (i := 338) (by decide +kernel) (by decide +kernel)
theorem kX7_3 : Cond.methodLink RX7 3 objectInit ∈ xT := xT_of (i := 341) (by decide +kernel) (by decide +kernel)
theorem kL_28 : Cond.methodLink RL 28 yX8_club ∈ xT := xT_of (i := 394) (by decide +kernel) (by decide +kernel)
theorem kX8_83 : Cond.methodLink RX8 83 yX3_hasLanes ∈ xT := xT_of (i := 398) (by decide +kernel) (by decide +kernel)
theorem kX8_86 : Cond.methodLink RX8 86 yX0_init ∈ xT := xT_of (i := 403) (by decide +kernel) (by decide +kernel)
theorem kX0_1 : Cond.methodLink RX0 1 objectInit ∈ xT := xT_of (i := 406) (by decide +kernel) (by decide +kernel)
theorem kX8_89 : Cond.methodLink RX8 89 yX8_lowestClash ∈ xT := xT_of (i := 436) (by decide +kernel) (by decide +kernel)
theorem kX8_327 : Cond.methodLink RX8 327 yX0_clashesWith ∈ xT := xT_of (i := 440) (by decide +kernel) (by decide +kernel)
theorem kX0_26 : Cond.methodLink RX0 26 Lib.Math.max.name ∈ xT := xT_of (i := 444) (by decide +kernel) (by decide +kernel)
theorem kX0_32 : Cond.methodLink RX0 32 Lib.Math.min.name ∈ xT := xT_of (i := 445) (by decide +kernel) (by decide +kernel)
theorem kL_33 : Cond.methodLink RL 33 yX8_clash ∈ xT := xT_of (i := 448) (by decide +kernel) (by decide +kernel)
theorem kL_38 : Cond.methodLink RL 38 yX8_leave ∈ xT := xT_of (i := 452) (by decide +kernel) (by decide +kernel)
theorem kL_43 : Cond.methodLink RL 43 yX8_may ∈ xT := xT_of (i := 456) (by decide +kernel) (by decide +kernel)
theorem kX8_96 : Cond.methodLink RX8 96 yX8_ticketOf ∈ xT := xT_of (i := 460) (by decide +kernel) (by decide +kernel)
theorem kX8_100 : Cond.methodLink RX8 100 yX8_reasonAgainst ∈ xT := xT_of (i := 464) (by decide +kernel) (by decide +kernel)
theorem kX8_343 : Cond.methodLink RX8 343 yX8_reasonAgainstHead ∈ xT := xT_of (i := 468) (by decide +kernel) (by decide +kernel)
theorem kX8_349 : Cond.methodLink RX8 349 yX7_isItsTime ∈ xT := xT_of (i := 472) (by decide +kernel) (by decide +kernel)
theorem kX7_42 : Cond.methodLink RX7 42 yX0_isThere ∈ xT := xT_of (i := 476) (by decide +kernel) (by decide +kernel)
theorem kX8_213 : Cond.methodLink RX8 213 yX3_reasonsIn ∈ xT := xT_of (i := 480) (by decide +kernel) (by decide +kernel)
theorem kX8_166 : Cond.methodLink RX8 166 yX1_mostNow ∈ xT := xT_of (i := 481) (by decide +kernel) (by decide +kernel)
theorem kX8_352 : Cond.methodLink RX8 352 yX7_lacksTeacher ∈ xT := xT_of (i := 482) (by decide +kernel) (by decide +kernel)
theorem kL_47 : Cond.methodLink RL 47 yX8_in ∈ xT := xT_of (i := 486) (by decide +kernel) (by decide +kernel)
theorem kX8_104 : Cond.methodLink RX8 104 yX7_comeIn ∈ xT := xT_of (i := 490) (by decide +kernel) (by decide +kernel)
theorem kX7_69 : Cond.methodLink RX7 69 yX0_pass ∈ xT := xT_of (i := 494) (by decide +kernel) (by decide +kernel)
theorem kX8_112 : Cond.methodLink RX8 112 yX3_letIn ∈ xT := xT_of (i := 498) (by decide +kernel) (by decide +kernel)
theorem kL_51 : Cond.methodLink RL 51 yX8_out ∈ xT := xT_of (i := 502) (by decide +kernel) (by decide +kernel)
theorem kX8_129 : Cond.methodLink RX8 129 yX7_owes ∈ xT := xT_of (i := 506) (by decide +kernel) (by decide +kernel)
theorem kX7_80 : Cond.methodLink RX7 80 yX7_minutesLeft ∈ xT := xT_of (i := 510) (by decide +kernel) (by decide +kernel)
theorem kX8_136 : Cond.methodLink RX8 136 yX7_goOut ∈ xT := xT_of (i := 514) (by decide +kernel) (by decide +kernel)
theorem kX7_76 : Cond.methodLink RX7 76 yX7_leavePost ∈ xT := xT_of (i := 518) (by decide +kernel) (by decide +kernel)
theorem kX8_140 : Cond.methodLink RX8 140 yX3_letOut ∈ xT := xT_of (i := 522) (by decide +kernel) (by decide +kernel)
theorem kX8_146 : Cond.methodLink RX8 146 yX2_lose ∈ xT := xT_of (i := 526) (by decide +kernel) (by decide +kernel)
theorem kX2_19 : Cond.methodLink RX2 19 yX2_isLocker ∈ xT := xT_of (i := 530) (by decide +kernel) (by decide +kernel)
theorem kL_55 : Cond.methodLink RL 55 yX8_eye ∈ xT := xT_of (i := 533) (by decide +kernel) (by decide +kernel)
theorem kX8_152 : Cond.methodLink RX8 152 yX1_turnEye ∈ xT := xT_of (i := 537) (by decide +kernel) (by decide +kernel)
theorem kL_60 : Cond.methodLink RL 60 yX8_hand ∈ xT := xT_of (i := 541) (by decide +kernel) (by decide +kernel)
theorem kX8_159 : Cond.methodLink RX8 159 yX1_startFrom ∈ xT := xT_of (i := 545) (by decide +kernel) (by decide +kernel)
theorem kL_64 : Cond.methodLink RL 64 yX8_count ∈ xT := xT_of (i := 546) (by decide +kernel) (by decide +kernel)
theorem kX8_162 : Cond.methodLink RX8 162 yX1_leastNow ∈ xT := xT_of (i := 550) (by decide +kernel) (by decide +kernel)
theorem kX8_175 : Cond.methodLink RX8 175 yX8_freeLanes ∈ xT := xT_of (i := 551) (by decide +kernel) (by decide +kernel)
theorem kX8_331 : Cond.methodLink RX8 331 yX0_isThere ∈ xT := xT_of (i := 555) (by decide +kernel) (by decide +kernel)
theorem kX8_338 : Cond.methodLink RX8 338 yJ6_bitCount_0f7a4 ∈ xT := xT_of (i := 556) (by decide +kernel) (by decide +kernel)
theorem kX8_179 : Cond.methodLink RX8 179 yX3_filledPosts ∈ xT := xT_of (i := 562) (by decide +kernel) (by decide +kernel)
theorem kL_69 : Cond.methodLink RL 69 yX8_bounds ∈ xT := xT_of (i := 563) (by decide +kernel) (by decide +kernel)
theorem kX8_182 : Cond.methodLink RX8 182 yX8_thingOf ∈ xT := xT_of (i := 567) (by decide +kernel) (by decide +kernel)
theorem kL_74 : Cond.methodLink RL 74 yX8_measure ∈ xT := xT_of (i := 573) (by decide +kernel) (by decide +kernel)
theorem kX8_201 : Cond.methodLink RX8 201 yX6_takeMeasure ∈ xT := xT_of (i := 582) (by decide +kernel) (by decide +kernel)
theorem kL_79 : Cond.methodLink RL 79 yX8_put ∈ xT := xT_of (i := 586) (by decide +kernel) (by decide +kernel)
theorem kX8_207 : Cond.methodLink RX8 207 Lib.Math.max.name ∈ xT := xT_of (i := 590) (by decide +kernel) (by decide +kernel)
theorem kL_84 : Cond.methodLink RL 84 yX8_shut ∈ xT := xT_of (i := 591) (by decide +kernel) (by decide +kernel)
theorem kL_88 : Cond.methodLink RL 88 yX8_minutes ∈ xT := xT_of (i := 595) (by decide +kernel) (by decide +kernel)
theorem kL_92 : Cond.methodLink RL 92 yX8_post ∈ xT := xT_of (i := 599) (by decide +kernel) (by decide +kernel)
theorem kX8_219 : Cond.methodLink RX8 219 yX8_postOf ∈ xT := xT_of (i := 603) (by decide +kernel) (by decide +kernel)
theorem kX8_223 : Cond.methodLink RX8 223 yX7_mayStand ∈ xT := xT_of (i := 607) (by decide +kernel) (by decide +kernel)
theorem kX8_232 : Cond.methodLink RX8 232 yX7_leavePost ∈ xT := xT_of (i := 611) (by decide +kernel) (by decide +kernel)
theorem kX8_235 : Cond.methodLink RX8 235 yX7_standAt ∈ xT := xT_of (i := 612) (by decide +kernel) (by decide +kernel)
theorem kX8_239 : Cond.methodLink RX8 239 yX8_numberOf ∈ xT := xT_of (i := 616) (by decide +kernel) (by decide +kernel)
theorem kL_97 : Cond.methodLink RL 97 yX8_watcher ∈ xT := xT_of (i := 619) (by decide +kernel) (by decide +kernel)
theorem kL_101 : Cond.methodLink RL 101 yX8_key ∈ xT := xT_of (i := 623) (by decide +kernel) (by decide +kernel)
theorem kX8_242 : Cond.methodLink RX8 242 yX2_takeLowest ∈ xT := xT_of (i := 627) (by decide +kernel) (by decide +kernel)
theorem kL_105 : Cond.methodLink RL 105 yX8_give ∈ xT := xT_of (i := 631) (by decide +kernel) (by decide +kernel)
theorem kX8_245 : Cond.methodLink RX8 245 yX2_hangKey ∈ xT := xT_of (i := 635) (by decide +kernel) (by decide +kernel)
theorem kL_109 : Cond.methodLink RL 109 yX8_mend ∈ xT := xT_of (i := 639) (by decide +kernel) (by decide +kernel)
theorem kX8_248 : Cond.methodLink RX8 248 yX2_isLocker ∈ xT := xT_of (i := 643) (by decide +kernel) (by decide +kernel)
theorem kL_113 : Cond.methodLink RL 113 yX8_locker ∈ xT := xT_of (i := 644) (by decide +kernel) (by decide +kernel)
theorem kL_117 : Cond.methodLink RL 117 yX8_told ∈ xT := xT_of (i := 648) (by decide +kernel) (by decide +kernel)
theorem kX8_274 : Cond.methodLink RX8 274 yX7_minutesLeft ∈ xT := xT_of (i := 652) (by decide +kernel) (by decide +kernel)
theorem kL_121 : Cond.methodLink RL 121 yX8_pump ∈ xT := xT_of (i := 653) (by decide +kernel) (by decide +kernel)
theorem kL_126 : Cond.methodLink RL 126 yX8_price ∈ xT := xT_of (i := 657) (by decide +kernel) (by decide +kernel)
theorem kL_130 : Cond.methodLink RL 130 yX8_turn ∈ xT := xT_of (i := 661) (by decide +kernel) (by decide +kernel)
theorem kX8_286 : Cond.methodLink RX8 286 yX8_hoursNeeded ∈ xT := xT_of (i := 665) (by decide +kernel) (by decide +kernel)
theorem kX8_290 : Cond.methodLink RX8 290 yX5_takeCheapest ∈ xT := xT_of (i := 668) (by decide +kernel) (by decide +kernel)
theorem kX5_27 : Cond.methodLink RX5 27 yX5_takeNext ∈ xT := xT_of (i := 672) (by decide +kernel) (by decide +kernel)
theorem kL_134 : Cond.methodLink RL 134 yX8_hour ∈ xT := xT_of (i := 676) (by decide +kernel) (by decide +kernel)
theorem kL_138 : Cond.methodLink RL 138 yX8_all ∈ xT := xT_of (i := 680) (by decide +kernel) (by decide +kernel)
theorem kX8_302 : Cond.methodLink RX8 302 yX2_lostOnes ∈ xT := xT_of (i := 684) (by decide +kernel) (by decide +kernel)
theorem kX8_305 : Cond.methodLink RX8 305 yX8_insideAllPools ∈ xT := xT_of (i := 688) (by decide +kernel) (by decide +kernel)
theorem kX8_308 : Cond.methodLink RX8 308 yX2_keysOut ∈ xT := xT_of (i := 692) (by decide +kernel) (by decide +kernel)
theorem kL_12 : Cond.methodLink RL 12 yX9_init ∈ xT := xT_of (i := 698) (by decide +kernel) (by decide +kernel)
theorem kX9_1 : Cond.methodLink RX9 1 objectInit ∈ xT := xT_of (i := 701) (by decide +kernel) (by decide +kernel)
theorem kL_17 : Cond.methodLink RL 17 yX9_pool ∈ xT := xT_of (i := 847) (by decide +kernel) (by decide +kernel)
theorem kX9_141 : Cond.methodLink RX9 141 yX9_in ∈ xT := xT_of (i := 851) (by decide +kernel) (by decide +kernel)
theorem kL_22 : Cond.methodLink RL 22 yX9_go ∈ xT := xT_of (i := 854) (by decide +kernel) (by decide +kernel)
theorem kX9_151 : Cond.methodLink RX9 151 yX9_reasons ∈ xT := xT_of (i := 858) (by decide +kernel) (by decide +kernel)
theorem kX9_175 : Cond.methodLink RX9 175 yX9_isFilled ∈ xT := xT_of (i := 862) (by decide +kernel) (by decide +kernel)
theorem kX9_155 : Cond.methodLink RX9 155 yX9_leastNow ∈ xT := xT_of (i := 866) (by decide +kernel) (by decide +kernel)
theorem kX9_158 : Cond.methodLink RX9 158 yX9_mostNow ∈ xT := xT_of (i := 870) (by decide +kernel) (by decide +kernel)
theorem kX9_161 : Cond.methodLink RX9 161 yX9_begins ∈ xT := xT_of (i := 874) (by decide +kernel) (by decide +kernel)
theorem kL_59 : Cond.methodLink RL 59 yX9_eye ∈ xT := xT_of (i := 878) (by decide +kernel) (by decide +kernel)
theorem kX9_165 : Cond.methodLink RX9 165 yX9_has ∈ xT := xT_of (i := 882) (by decide +kernel) (by decide +kernel)
theorem kL_63 : Cond.methodLink RL 63 yX9_hand ∈ xT := xT_of (i := 886) (by decide +kernel) (by decide +kernel)
theorem kX9_168 : Cond.methodLink RX9 168 yX9_truth ∈ xT := xT_of (i := 890) (by decide +kernel) (by decide +kernel)
theorem kL_32 : Cond.methodLink RL 32 yX9_club ∈ xT := xT_of (i := 894) (by decide +kernel) (by decide +kernel)
theorem kL_37 : Cond.methodLink RL 37 yX9_clash ∈ xT := xT_of (i := 898) (by decide +kernel) (by decide +kernel)
theorem kL_42 : Cond.methodLink RL 42 yX9_leave ∈ xT := xT_of (i := 902) (by decide +kernel) (by decide +kernel)
theorem kL_72 : Cond.methodLink RL 72 yX9_bounds ∈ xT := xT_of (i := 906) (by decide +kernel) (by decide +kernel)
theorem kL_78 : Cond.methodLink RL 78 yX9_measure ∈ xT := xT_of (i := 912) (by decide +kernel) (by decide +kernel)
theorem kL_83 : Cond.methodLink RL 83 yX9_put ∈ xT := xT_of (i := 921) (by decide +kernel) (by decide +kernel)
theorem kL_87 : Cond.methodLink RL 87 yX9_shut ∈ xT := xT_of (i := 925) (by decide +kernel) (by decide +kernel)
theorem kL_91 : Cond.methodLink RL 91 yX9_minutes ∈ xT := xT_of (i := 929) (by decide +kernel) (by decide +kernel)
theorem kL_27 : Cond.methodLink RL 27 yX9_ticket ∈ xT := xT_of (i := 933) (by decide +kernel) (by decide +kernel)
theorem kL_46 : Cond.methodLink RL 46 yX9_may ∈ xT := xT_of (i := 937) (by decide +kernel) (by decide +kernel)
theorem kX9_185 : Cond.methodLink RX9 185 yX9_isTicket ∈ xT := xT_of (i := 941) (by decide +kernel) (by decide +kernel)
theorem kX9_188 : Cond.methodLink RX9 188 yX9_isClubbed ∈ xT := xT_of (i := 945) (by decide +kernel) (by decide +kernel)
theorem kX9_191 : Cond.methodLink RX9 191 yX9_isThere ∈ xT := xT_of (i := 949) (by decide +kernel) (by decide +kernel)
theorem kX9_194 : Cond.methodLink RX9 194 yX9_inSchool ∈ xT := xT_of (i := 953) (by decide +kernel) (by decide +kernel)
theorem kL_50 : Cond.methodLink RL 50 yX9_in_ ∈ xT := xT_of (i := 957) (by decide +kernel) (by decide +kernel)
theorem kX9_197 : Cond.methodLink RX9 197 yX9_may ∈ xT := xT_of (i := 961) (by decide +kernel) (by decide +kernel)
theorem kL_54 : Cond.methodLink RL 54 yX9_out ∈ xT := xT_of (i := 962) (by decide +kernel) (by decide +kernel)
theorem kX9_203 : Cond.methodLink RX9 203 yX9_beyond ∈ xT := xT_of (i := 966) (by decide +kernel) (by decide +kernel)
theorem kX9_200 : Cond.methodLink RX9 200 yX9_isTimed ∈ xT := xT_of (i := 970) (by decide +kernel) (by decide +kernel)
theorem kX9_206 : Cond.methodLink RX9 206 yX9_leaves ∈ xT := xT_of (i := 974) (by decide +kernel) (by decide +kernel)
theorem kX9_210 : Cond.methodLink RX9 210 yX9_lockerOf ∈ xT := xT_of (i := 978) (by decide +kernel) (by decide +kernel)
theorem kL_96 : Cond.methodLink RL 96 yX9_post ∈ xT := xT_of (i := 982) (by decide +kernel) (by decide +kernel)
theorem kL_100 : Cond.methodLink RL 100 yX9_watcher ∈ xT := xT_of (i := 986) (by decide +kernel) (by decide +kernel)
theorem kL_104 : Cond.methodLink RL 104 yX9_key ∈ xT := xT_of (i := 990) (by decide +kernel) (by decide +kernel)
theorem kL_108 : Cond.methodLink RL 108 yX9_give ∈ xT := xT_of (i := 994) (by decide +kernel) (by decide +kernel)
theorem kL_112 : Cond.methodLink RL 112 yX9_mend ∈ xT := xT_of (i := 998) (by decide +kernel) (by decide +kernel)
theorem kL_116 : Cond.methodLink RL 116 yX9_locker ∈ xT := xT_of (i := 1002) (by decide +kernel) (by decide +kernel)
theorem kL_68 : Cond.methodLink RL 68 yX9_count ∈ xT := xT_of (i := 1006) (by decide +kernel) (by decide +kernel)
theorem kX9_213 : Cond.methodLink RX9 213 yX9_isFree ∈ xT := xT_of (i := 1010) (by decide +kernel) (by decide +kernel)
theorem kL_120 : Cond.methodLink RL 120 yX9_told ∈ xT := xT_of (i := 1014) (by decide +kernel) (by decide +kernel)
theorem kL_125 : Cond.methodLink RL 125 yX9_pump ∈ xT := xT_of (i := 1018) (by decide +kernel) (by decide +kernel)
theorem kL_129 : Cond.methodLink RL 129 yX9_price ∈ xT := xT_of (i := 1022) (by decide +kernel) (by decide +kernel)
theorem kL_133 : Cond.methodLink RL 133 yX9_turn ∈ xT := xT_of (i := 1026) (by decide +kernel) (by decide +kernel)
theorem kL_137 : Cond.methodLink RL 137 yX9_hour ∈ xT := xT_of (i := 1031) (by decide +kernel) (by decide +kernel)
theorem kL_141 : Cond.methodLink RL 141 yX9_all ∈ xT := xT_of (i := 1035) (by decide +kernel) (by decide +kernel)
theorem x_obj1 : Cond.instanceMethod objectInit ∈ xT := xT_of (i := 48) (by decide +kernel) (by decide +kernel)
theorem x_obj2 : Cond.code objectInit ⟨#[0xb1]⟩ 1 none ∈ xT := xT_of (i := 49) (by decide +kernel) (by decide +kernel)
theorem nL_7 : Cond.classLink RL 7 RX8 ∈ xT := xT_of (i := 42) (by decide +kernel) (by decide +kernel)
theorem nX8_9 : Cond.classLink RX8 9 RX3 ∈ xT := xT_of (i := 50) (by decide +kernel) (by decide +kernel)
theorem nX8_15 : Cond.classLink RX8 15 RX7 ∈ xT := xT_of (i := 52) (by decide +kernel) (by decide +kernel)
theorem nX8_21 : Cond.classLink RX8 21 RX0 ∈ xT := xT_of (i := 54) (by decide +kernel) (by decide +kernel)
theorem nX8_27 : Cond.classLink RX8 27 RX2 ∈ xT := xT_of (i := 56) (by decide +kernel) (by decide +kernel)
theorem nX8_34 : Cond.classLink RX8 34 RX5 ∈ xT := xT_of (i := 73) (by decide +kernel) (by decide +kernel)
theorem nX3_9 : Cond.classLink RX3 9 RX6 ∈ xT := xT_of (i := 139) (by decide +kernel) (by decide +kernel)
theorem nX3_17 : Cond.classLink RX3 17 RX1 ∈ xT := xT_of (i := 141) (by decide +kernel) (by decide +kernel)
theorem nX3_40 : Cond.classLink RX3 40 RX4 ∈ xT := xT_of (i := 178) (by decide +kernel) (by decide +kernel)
theorem oJ6_265 : Cond.constant RJ6 265 (1431655765) ∈ xT := xT_of (i := 559) (by decide +kernel) (by decide +kernel)
theorem oJ6_266 : Cond.constant RJ6 266 (858993459) ∈ xT := xT_of (i := 560) (by decide +kernel) (by decide +kernel)
theorem oJ6_267 : Cond.constant RJ6 267 (252645135) ∈ xT := xT_of (i := 561) (by decide +kernel) (by decide +kernel)
theorem oX8_186 : Cond.constant RX8 186 (-100000) ∈ xT := xT_of (i := 571) (by decide +kernel) (by decide +kernel)
theorem oX8_187 : Cond.constant RX8 187 (100000) ∈ xT := xT_of (i := 572) (by decide +kernel) (by decide +kernel)
theorem oX8_196 : Cond.constant RX8 196 (-200001) ∈ xT := xT_of (i := 577) (by decide +kernel) (by decide +kernel)
theorem oX8_197 : Cond.constantFloat RX8 197 (1148846080) ∈ xT := xT_of (i := 578) (by decide +kernel) (by decide +kernel)
theorem oX8_198 : Cond.constantFloat RX8 198 (3296329728) ∈ xT := xT_of (i := 579) (by decide +kernel) (by decide +kernel)
theorem oX8_199 : Cond.constant RX8 199 (-200000) ∈ xT := xT_of (i := 580) (by decide +kernel) (by decide +kernel)
theorem oX8_200 : Cond.constantFloat RX8 200 (1120403456) ∈ xT := xT_of (i := 581) (by decide +kernel) (by decide +kernel)
theorem nL_10 : Cond.classLink RL 10 RX9 ∈ xT := xT_of (i := 696) (by decide +kernel) (by decide +kernel)
theorem oX9_178 : Cond.constant RX9 178 (-100000) ∈ xT := xT_of (i := 910) (by decide +kernel) (by decide +kernel)
theorem oX9_179 : Cond.constant RX9 179 (100000) ∈ xT := xT_of (i := 911) (by decide +kernel) (by decide +kernel)
theorem oX9_180 : Cond.constant RX9 180 (-200001) ∈ xT := xT_of (i := 916) (by decide +kernel) (by decide +kernel)
theorem oX9_181 : Cond.constantFloat RX9 181 (3296329728) ∈ xT := xT_of (i := 917) (by decide +kernel) (by decide +kernel)
theorem oX9_182 : Cond.constantFloat RX9 182 (1148846080) ∈ xT := xT_of (i := 918) (by decide +kernel) (by decide +kernel)
theorem oX9_183 : Cond.constant RX9 183 (-200000) ∈ xT := xT_of (i := 919) (by decide +kernel) (by decide +kernel)
theorem oX9_184 : Cond.constantFloat RX9 184 (1120403456) ∈ xT := xT_of (i := 920) (by decide +kernel) (by decide +kernel)
theorem oX9_217 : Cond.constantLong RX9 217 (100) ∈ xT := xT_of (i := 1030) (by decide +kernel) (by decide +kernel)
theorem oL_73 : Cond.constantFloat RL 73 (1040187392) ∈ xT := xT_of (i := 1039) (by decide +kernel) (by decide +kernel)
theorem x_arrI : Cond.arrayClass .int ∈ xT := xT_of (i := 71) (by decide +kernel) (by decide +kernel)
theorem x_arrZ : Cond.arrayClass .boolean ∈ xT := xT_of (i := 72) (by decide +kernel) (by decide +kernel)
/-- what the tables say beside the words: nest mates, classes of arrays -/
def xN (U : State) : Prop := va_AO RX3 U ∧ va_AO RX7 U ∧ va_AO RX0 U ∧ va_AO RX6 U ∧ va_Nw (.methodLinkNest RX3 19 yX1_init "BathHouse") U ∧ va_AO RX4 U ∧ va_Nw (.methodLinkNest RX3 46 yX4_init "BathHouse") U ∧ va_Nw (.methodLinkNest RX3 47 yX6_init "BathHouse") U
theorem xN_of {s : State} {args : Array Value} (hts : ∀ w ∈ lw_tbl, w.before args s = true) : xN s := ⟨va_AO.of (hts _ (List.mem_of_getElem? (i := 51) (by decide +kernel))), va_AO.of (hts _ (List.mem_of_getElem? (i := 53) (by decide +kernel))), va_AO.of (hts _ (List.mem_of_getElem? (i := 55) (by decide +kernel))), va_AO.of (hts _ (List.mem_of_getElem? (i := 140) (by decide +kernel))), va_Nw.of rfl (hts _ (List.mem_of_getElem? (i := 143) (by decide +kernel))), va_AO.of (hts _ (List.mem_of_getElem? (i := 179) (by decide +kernel))), va_Nw.of rfl (hts _ (List.mem_of_getElem? (i := 181) (by decide +kernel))), va_Nw.of rfl (hts _ (List.mem_of_getElem? (i := 196) (by decide +kernel)))⟩
end
section
theorem dX0_init_0 : decode cX0_init 0 = .ok (.aload_n 0, 1) := by decide +kernel
theorem dX0_init_1 : decode cX0_init 1 = .ok (.invokespecial 1, 3) := by decide +kernel
theorem dX0_init_4 : decode cX0_init 4 = .ok (.aload_n 0, 1) := by decide +kernel
theorem dX0_init_5 : decode cX0_init 5 = .ok (.aload_n 1, 1) := by decide +kernel
theorem dX0_init_6 : decode cX0_init 6 = .ok (.putfield 7, 3) := by decide +kernel
theorem dX0_init_9 : decode cX0_init 9 = .ok (.aload_n 0, 1) := by decide +kernel
theorem dX0_init_10 : decode cX0_init 10 = .ok (.iload_n 2, 1) := by decide +kernel
theorem dX0_init_11 : decode cX0_init 11 = .ok (.putfield 13, 3) := by decide +kernel
theorem dX0_init_14 : decode cX0_init 14 = .ok (.aload_n 0, 1) := by decide +kernel
theorem dX0_init_15 : decode cX0_init 15 = .ok (.iload_n 3, 1) := by decide +kernel
theorem dX0_init_16 : decode cX0_init 16 = .ok (.putfield 17, 3) := by decide +kernel
theorem dX0_init_19 : decode cX0_init 19 = .ok (.aload_n 0, 1) := by decide +kernel
theorem dX0_init_20 : decode cX0_init 20 = .ok (.iload 4, 2) := by decide +kernel
theorem dX0_init_22 : decode cX0_init 22 = .ok (.putfield 20, 3) := by decide +kernel
theorem dX0_init_25 : decode cX0_init 25 = .ok (.aload_n 0, 1) := by decide +kernel
theorem dX0_init_26 : decode cX0_init 26 = .ok (.iload 5, 2) := by decide +kernel
theorem dX0_init_28 : decode cX0_init 28 = .ok (.putfield 23, 3) := by decide +kernel
theorem dX0_init_31 : decode cX0_init 31 = .ok (.return_, 1) := by decide +kernel
theorem dX0_isSchool_0 : decode cX0_isSchool 0 = .ok (.aload_n 0, 1) := by decide +kernel
theorem dX0_isSchool_1 : decode cX0_isSchool 1 = .ok (.getfield 23, 3) := by decide +kernel
theorem dX0_isSchool_4 : decode cX0_isSchool 4 = .ok (.ifCond .le 7, 3) := by decide +kernel
theorem dX0_isSchool_7 : decode cX0_isSchool 7 = .ok (.iconst 1, 1) := by decide +kernel
theorem dX0_isSchool_8 : decode cX0_isSchool 8 = .ok (.goto 4, 3) := by decide +kernel
theorem dX0_isSchool_11 : decode cX0_isSchool 11 = .ok (.iconst 0, 1) := by decide +kernel
theorem dX0_isSchool_12 : decode cX0_isSchool 12 = .ok (.ireturn, 1) := by decide +kernel
theorem dX0_isThere_0 : decode cX0_isThere 0 = .ok (.iload_n 1, 1) := by decide +kernel
theorem dX0_isThere_1 : decode cX0_isThere 1 = .ok (.aload_n 0, 1) := by decide +kernel
theorem dX0_isThere_2 : decode cX0_isThere 2 = .ok (.getfield 17, 3) := by decide +kernel
theorem dX0_isThere_5 : decode cX0_isThere 5 = .ok (.if_icmp .lt 15, 3) := by decide +kernel
theorem dX0_isThere_8 : decode cX0_isThere 8 = .ok (.iload_n 1, 1) := by decide +kernel
theorem dX0_isThere_9 : decode cX0_isThere 9 = .ok (.aload_n 0, 1) := by decide +kernel
theorem dX0_isThere_10 : decode cX0_isThere 10 = .ok (.getfield 20, 3) := by decide +kernel
theorem dX0_isThere_13 : decode cX0_isThere 13 = .ok (.if_icmp .ge 7, 3) := by decide +kernel
theorem dX0_isThere_16 : decode cX0_isThere 16 = .ok (.iconst 1, 1) := by decide +kernel
theorem dX0_isThere_17 : decode cX0_isThere 17 = .ok (.goto 4, 3) := by decide +kernel
theorem dX0_isThere_20 : decode cX0_isThere 20 = .ok (.iconst 0, 1) := by decide +kernel
theorem dX0_isThere_21 : decode cX0_isThere 21 = .ok (.ireturn, 1) := by decide +kernel
theorem dX0_clashesWith_0 : decode cX0_clashesWith 0 = .ok (.aload_n 0, 1) := by decide +kernel
theorem dX0_clashesWith_1 : decode cX0_clashesWith 1 = .ok (.getfield 7, 3) := by decide +kernel
theorem dX0_clashesWith_4 : decode cX0_clashesWith 4 = .ok (.aload_n 1, 1) := by decide +kernel
theorem dX0_clashesWith_5 : decode cX0_clashesWith 5 = .ok (.getfield 7, 3) := by decide +kernel
theorem dX0_clashesWith_8 : decode cX0_clashesWith 8 = .ok (.if_acmp .ne 44, 3) := by decide +kernel
theorem dX0_clashesWith_11 : decode cX0_clashesWith 11 = .ok (.aload_n 0, 1) := by decide +kernel
theorem dX0_clashesWith_12 : decode cX0_clashesWith 12 = .ok (.getfield 13, 3) := by decide +kernel
theorem dX0_clashesWith_15 : decode cX0_clashesWith 15 = .ok (.aload_n 1, 1) := by decide +kernel
theorem dX0_clashesWith_16 : decode cX0_clashesWith 16 = .ok (.getfield 13, 3) := by decide +kernel
theorem dX0_clashesWith_19 : decode cX0_clashesWith 19 = .ok (.iand, 1) := by decide +kernel
theorem dX0_clashesWith_20 : decode cX0_clashesWith 20 = .ok (.ifCond .eq 32, 3) := by decide +kernel
theorem dX0_clashesWith_23 : decode cX0_clashesWith 23 = .ok (.aload_n 0, 1) := by decide +kernel
theorem dX0_clashesWith_24 : decode cX0_clashesWith 24 = .ok (.getfield 17, 3) := by decide +kernel
theorem dX0_clashesWith_27 : decode cX0_clashesWith 27 = .ok (.aload_n 1, 1) := by decide +kernel
theorem dX0_clashesWith_28 : decode cX0_clashesWith 28 = .ok (.getfield 17, 3) := by decide +kernel
theorem dX0_clashesWith_31 : decode cX0_clashesWith 31 = .ok (.invokestatic 26, 3) := by decide +kernel
theorem dX0_clashesWith_34 : decode cX0_clashesWith 34 = .ok (.aload_n 0, 1) := by decide +kernel
theorem dX0_clashesWith_35 : decode cX0_clashesWith 35 = .ok (.getfield 20, 3) := by decide +kernel
theorem dX0_clashesWith_38 : decode cX0_clashesWith 38 = .ok (.aload_n 1, 1) := by decide +kernel
theorem dX0_clashesWith_39 : decode cX0_clashesWith 39 = .ok (.getfield 20, 3) := by decide +kernel
theorem dX0_clashesWith_42 : decode cX0_clashesWith 42 = .ok (.invokestatic 32, 3) := by decide +kernel
theorem dX0_clashesWith_45 : decode cX0_clashesWith 45 = .ok (.if_icmp .ge 7, 3) := by decide +kernel
theorem dX0_clashesWith_48 : decode cX0_clashesWith 48 = .ok (.iconst 1, 1) := by decide +kernel
theorem dX0_clashesWith_49 : decode cX0_clashesWith 49 = .ok (.goto 4, 3) := by decide +kernel
theorem dX0_clashesWith_52 : decode cX0_clashesWith 52 = .ok (.iconst 0, 1) := by decide +kernel
theorem dX0_clashesWith_53 : decode cX0_clashesWith 53 = .ok (.ireturn, 1) := by decide +kernel
theorem dX0_pass_0 : decode cX0_pass 0 = .ok (.iload_n 1, 1) := by decide +kernel
theorem dX0_pass_1 : decode cX0_pass 1 = .ok (.ifCond .eq 16, 3) := by decide +kernel
theorem dX0_pass_4 : decode cX0_pass 4 = .ok (.aload_n 0, 1) := by decide +kernel
theorem dX0_pass_5 : decode cX0_pass 5 = .ok (.dup, 1) := by decide +kernel
theorem dX0_pass_6 : decode cX0_pass 6 = .ok (.getfield 35, 3) := by decide +kernel
theorem dX0_pass_9 : decode cX0_pass 9 = .ok (.iload_n 2, 1) := by decide +kernel
theorem dX0_pass_10 : decode cX0_pass 10 = .ok (.iadd, 1) := by decide +kernel
theorem dX0_pass_11 : decode cX0_pass 11 = .ok (.putfield 35, 3) := by decide +kernel
theorem dX0_pass_14 : decode cX0_pass 14 = .ok (.goto 13, 3) := by decide +kernel
theorem dX0_pass_17 : decode cX0_pass 17 = .ok (.aload_n 0, 1) := by decide +kernel
theorem dX0_pass_18 : decode cX0_pass 18 = .ok (.dup, 1) := by decide +kernel
theorem dX0_pass_19 : decode cX0_pass 19 = .ok (.getfield 38, 3) := by decide +kernel
theorem dX0_pass_22 : decode cX0_pass 22 = .ok (.iload_n 2, 1) := by decide +kernel
theorem dX0_pass_23 : decode cX0_pass 23 = .ok (.iadd, 1) := by decide +kernel
theorem dX0_pass_24 : decode cX0_pass 24 = .ok (.putfield 38, 3) := by decide +kernel
theorem dX0_pass_27 : decode cX0_pass 27 = .ok (.return_, 1) := by decide +kernel
theorem dX1_init_0 : decode cX1_init 0 = .ok (.aload_n 0, 1) := by decide +kernel
theorem dX1_init_1 : decode cX1_init 1 = .ok (.invokespecial 3, 3) := by decide +kernel
theorem dX1_init_4 : decode cX1_init 4 = .ok (.aload_n 0, 1) := by decide +kernel
theorem dX1_init_5 : decode cX1_init 5 = .ok (.iconst 1, 1) := by decide +kernel
theorem dX1_init_6 : decode cX1_init 6 = .ok (.putfield 9, 3) := by decide +kernel
theorem dX1_init_9 : decode cX1_init 9 = .ok (.return_, 1) := by decide +kernel
theorem dX1_turnEye_0 : decode cX1_turnEye 0 = .ok (.aload_n 0, 1) := by decide +kernel
theorem dX1_turnEye_1 : decode cX1_turnEye 1 = .ok (.iload_n 1, 1) := by decide +kernel
theorem dX1_turnEye_2 : decode cX1_turnEye 2 = .ok (.putfield 9, 3) := by decide +kernel
theorem dX1_turnEye_5 : decode cX1_turnEye 5 = .ok (.aload_n 0, 1) := by decide +kernel
theorem dX1_turnEye_6 : decode cX1_turnEye 6 = .ok (.iconst 1, 1) := by decide +kernel
theorem dX1_turnEye_7 : decode cX1_turnEye 7 = .ok (.putfield 15, 3) := by decide +kernel
theorem dX1_turnEye_10 : decode cX1_turnEye 10 = .ok (.return_, 1) := by decide +kernel
theorem dX1_leastNow_0 : decode cX1_leastNow 0 = .ok (.iconst 0, 1) := by decide +kernel
theorem dX1_leastNow_1 : decode cX1_leastNow 1 = .ok (.aload_n 0, 1) := by decide +kernel
theorem dX1_leastNow_2 : decode cX1_leastNow 2 = .ok (.getfield 15, 3) := by decide +kernel
theorem dX1_leastNow_5 : decode cX1_leastNow 5 = .ok (.ifCond .eq 12, 3) := by decide +kernel
theorem dX1_leastNow_8 : decode cX1_leastNow 8 = .ok (.aload_n 0, 1) := by decide +kernel
theorem dX1_leastNow_9 : decode cX1_leastNow 9 = .ok (.getfield 18, 3) := by decide +kernel
theorem dX1_leastNow_12 : decode cX1_leastNow 12 = .ok (.iconst 3, 1) := by decide +kernel
theorem dX1_leastNow_13 : decode cX1_leastNow 13 = .ok (.isub, 1) := by decide +kernel
theorem dX1_leastNow_14 : decode cX1_leastNow 14 = .ok (.goto 12, 3) := by decide +kernel
theorem dX1_leastNow_17 : decode cX1_leastNow 17 = .ok (.aload_n 0, 1) := by decide +kernel
theorem dX1_leastNow_18 : decode cX1_leastNow 18 = .ok (.getfield 18, 3) := by decide +kernel
theorem dX1_leastNow_21 : decode cX1_leastNow 21 = .ok (.aload_n 0, 1) := by decide +kernel
theorem dX1_leastNow_22 : decode cX1_leastNow 22 = .ok (.getfield 22, 3) := by decide +kernel
theorem dX1_leastNow_25 : decode cX1_leastNow 25 = .ok (.iadd, 1) := by decide +kernel
theorem dX1_leastNow_26 : decode cX1_leastNow 26 = .ok (.invokestatic 25, 3) := by decide +kernel
theorem dX1_leastNow_29 : decode cX1_leastNow 29 = .ok (.ireturn, 1) := by decide +kernel
theorem dX1_mostNow_0 : decode cX1_mostNow 0 = .ok (.aload_n 0, 1) := by decide +kernel
theorem dX1_mostNow_1 : decode cX1_mostNow 1 = .ok (.getfield 15, 3) := by decide +kernel
theorem dX1_mostNow_4 : decode cX1_mostNow 4 = .ok (.ifCond .eq 12, 3) := by decide +kernel
theorem dX1_mostNow_7 : decode cX1_mostNow 7 = .ok (.aload_n 0, 1) := by decide +kernel
theorem dX1_mostNow_8 : decode cX1_mostNow 8 = .ok (.getfield 31, 3) := by decide +kernel
theorem dX1_mostNow_11 : decode cX1_mostNow 11 = .ok (.iconst 3, 1) := by decide +kernel
theorem dX1_mostNow_12 : decode cX1_mostNow 12 = .ok (.iadd, 1) := by decide +kernel
theorem dX1_mostNow_13 : decode cX1_mostNow 13 = .ok (.goto 12, 3) := by decide +kernel
theorem dX1_mostNow_16 : decode cX1_mostNow 16 = .ok (.aload_n 0, 1) := by decide +kernel
theorem dX1_mostNow_17 : decode cX1_mostNow 17 = .ok (.getfield 31, 3) := by decide +kernel
theorem dX1_mostNow_20 : decode cX1_mostNow 20 = .ok (.aload_n 0, 1) := by decide +kernel
theorem dX1_mostNow_21 : decode cX1_mostNow 21 = .ok (.getfield 22, 3) := by decide +kernel
theorem dX1_mostNow_24 : decode cX1_mostNow 24 = .ok (.iadd, 1) := by decide +kernel
theorem dX1_mostNow_25 : decode cX1_mostNow 25 = .ok (.ireturn, 1) := by decide +kernel
theorem dX1_startFrom_0 : decode cX1_startFrom 0 = .ok (.aload_n 0, 1) := by decide +kernel
theorem dX1_startFrom_1 : decode cX1_startFrom 1 = .ok (.iload_n 1, 1) := by decide +kernel
theorem dX1_startFrom_2 : decode cX1_startFrom 2 = .ok (.putfield 18, 3) := by decide +kernel
theorem dX1_startFrom_5 : decode cX1_startFrom 5 = .ok (.aload_n 0, 1) := by decide +kernel
theorem dX1_startFrom_6 : decode cX1_startFrom 6 = .ok (.iload_n 2, 1) := by decide +kernel
theorem dX1_startFrom_7 : decode cX1_startFrom 7 = .ok (.putfield 31, 3) := by decide +kernel
theorem dX1_startFrom_10 : decode cX1_startFrom 10 = .ok (.aload_n 0, 1) := by decide +kernel
theorem dX1_startFrom_11 : decode cX1_startFrom 11 = .ok (.iconst 0, 1) := by decide +kernel
theorem dX1_startFrom_12 : decode cX1_startFrom 12 = .ok (.putfield 22, 3) := by decide +kernel
theorem dX1_startFrom_15 : decode cX1_startFrom 15 = .ok (.aload_n 0, 1) := by decide +kernel
theorem dX1_startFrom_16 : decode cX1_startFrom 16 = .ok (.aload_n 0, 1) := by decide +kernel
theorem dX1_startFrom_17 : decode cX1_startFrom 17 = .ok (.getfield 9, 3) := by decide +kernel
theorem dX1_startFrom_20 : decode cX1_startFrom 20 = .ok (.ifCond .ne 7, 3) := by decide +kernel
theorem dX1_startFrom_23 : decode cX1_startFrom 23 = .ok (.iconst 1, 1) := by decide +kernel
theorem dX1_startFrom_24 : decode cX1_startFrom 24 = .ok (.goto 4, 3) := by decide +kernel
theorem dX1_startFrom_27 : decode cX1_startFrom 27 = .ok (.iconst 0, 1) := by decide +kernel
theorem dX1_startFrom_28 : decode cX1_startFrom 28 = .ok (.putfield 15, 3) := by decide +kernel
theorem dX1_startFrom_31 : decode cX1_startFrom 31 = .ok (.return_, 1) := by decide +kernel
theorem dX1_endMinute_0 : decode cX1_endMinute 0 = .ok (.aload_n 0, 1) := by decide +kernel
theorem dX1_endMinute_1 : decode cX1_endMinute 1 = .ok (.aload_n 0, 1) := by decide +kernel
theorem dX1_endMinute_2 : decode cX1_endMinute 2 = .ok (.invokevirtual 34, 3) := by decide +kernel
theorem dX1_endMinute_5 : decode cX1_endMinute 5 = .ok (.aload_n 0, 1) := by decide +kernel
theorem dX1_endMinute_6 : decode cX1_endMinute 6 = .ok (.invokevirtual 38, 3) := by decide +kernel
theorem dX1_endMinute_9 : decode cX1_endMinute 9 = .ok (.invokevirtual 41, 3) := by decide +kernel
theorem dX1_endMinute_12 : decode cX1_endMinute 12 = .ok (.aload_n 0, 1) := by decide +kernel
theorem dX1_endMinute_13 : decode cX1_endMinute 13 = .ok (.iconst 0, 1) := by decide +kernel
theorem dX1_endMinute_14 : decode cX1_endMinute 14 = .ok (.putfield 45, 3) := by decide +kernel
theorem dX1_endMinute_17 : decode cX1_endMinute 17 = .ok (.aload_n 0, 1) := by decide +kernel
theorem dX1_endMinute_18 : decode cX1_endMinute 18 = .ok (.iconst 0, 1) := by decide +kernel
theorem dX1_endMinute_19 : decode cX1_endMinute 19 = .ok (.putfield 48, 3) := by decide +kernel
theorem dX1_endMinute_22 : decode cX1_endMinute 22 = .ok (.return_, 1) := by decide +kernel
theorem dX2_init_0 : decode cX2_init 0 = .ok (.aload_n 0, 1) := by decide +kernel
theorem dX2_init_1 : decode cX2_init 1 = .ok (.invokespecial 3, 3) := by decide +kernel
theorem dX2_init_4 : decode cX2_init 4 = .ok (.aload_n 0, 1) := by decide +kernel
theorem dX2_init_5 : decode cX2_init 5 = .ok (.bipush 30, 2) := by decide +kernel
theorem dX2_init_7 : decode cX2_init 7 = .ok (.newarray .int, 2) := by decide +kernel
theorem dX2_init_9 : decode cX2_init 9 = .ok (.putfield 9, 3) := by decide +kernel
theorem dX2_init_12 : decode cX2_init 12 = .ok (.aload_n 0, 1) := by decide +kernel
theorem dX2_init_13 : decode cX2_init 13 = .ok (.bipush 30, 2) := by decide +kernel
theorem dX2_init_15 : decode cX2_init 15 = .ok (.newarray .boolean, 2) := by decide +kernel
theorem dX2_init_17 : decode cX2_init 17 = .ok (.putfield 15, 3) := by decide +kernel
theorem dX2_init_20 : decode cX2_init 20 = .ok (.iconst 0, 1) := by decide +kernel
theorem dX2_init_21 : decode cX2_init 21 = .ok (.istore_n 1, 1) := by decide +kernel
theorem dX2_init_22 : decode cX2_init 22 = .ok (.iload_n 1, 1) := by decide +kernel
theorem dX2_init_23 : decode cX2_init 23 = .ok (.bipush 30, 2) := by decide +kernel
theorem dX2_init_25 : decode cX2_init 25 = .ok (.if_icmp .ge 16, 3) := by decide +kernel
theorem dX2_init_28 : decode cX2_init 28 = .ok (.aload_n 0, 1) := by decide +kernel
theorem dX2_init_29 : decode cX2_init 29 = .ok (.getfield 9, 3) := by decide +kernel
theorem dX2_init_32 : decode cX2_init 32 = .ok (.iload_n 1, 1) := by decide +kernel
theorem dX2_init_33 : decode cX2_init 33 = .ok (.iconst (-1), 1) := by decide +kernel
theorem dX2_init_34 : decode cX2_init 34 = .ok (.iastore, 1) := by decide +kernel
theorem dX2_init_35 : decode cX2_init 35 = .ok (.iinc 1 1, 3) := by decide +kernel
theorem dX2_init_38 : decode cX2_init 38 = .ok (.goto (-16), 3) := by decide +kernel
theorem dX2_init_41 : decode cX2_init 41 = .ok (.return_, 1) := by decide +kernel
theorem dX2_isLocker_0 : decode cX2_isLocker 0 = .ok (.iload_n 0, 1) := by decide +kernel
theorem dX2_isLocker_1 : decode cX2_isLocker 1 = .ok (.ifCond .lt 13, 3) := by decide +kernel
theorem dX2_isLocker_4 : decode cX2_isLocker 4 = .ok (.iload_n 0, 1) := by decide +kernel
theorem dX2_isLocker_5 : decode cX2_isLocker 5 = .ok (.bipush 30, 2) := by decide +kernel
theorem dX2_isLocker_7 : decode cX2_isLocker 7 = .ok (.if_icmp .ge 7, 3) := by decide +kernel
theorem dX2_isLocker_10 : decode cX2_isLocker 10 = .ok (.iconst 1, 1) := by decide +kernel
theorem dX2_isLocker_11 : decode cX2_isLocker 11 = .ok (.goto 4, 3) := by decide +kernel
theorem dX2_isLocker_14 : decode cX2_isLocker 14 = .ok (.iconst 0, 1) := by decide +kernel
theorem dX2_isLocker_15 : decode cX2_isLocker 15 = .ok (.ireturn, 1) := by decide +kernel
theorem dX2_takeLowest_0 : decode cX2_takeLowest 0 = .ok (.iconst 0, 1) := by decide +kernel
theorem dX2_takeLowest_1 : decode cX2_takeLowest 1 = .ok (.istore_n 2, 1) := by decide +kernel
theorem dX2_takeLowest_2 : decode cX2_takeLowest 2 = .ok (.iload_n 2, 1) := by decide +kernel
theorem dX2_takeLowest_3 : decode cX2_takeLowest 3 = .ok (.bipush 30, 2) := by decide +kernel
theorem dX2_takeLowest_5 : decode cX2_takeLowest 5 = .ok (.if_icmp .ge 28, 3) := by decide +kernel
theorem dX2_takeLowest_8 : decode cX2_takeLowest 8 = .ok (.aload_n 0, 1) := by decide +kernel
theorem dX2_takeLowest_9 : decode cX2_takeLowest 9 = .ok (.getfield 9, 3) := by decide +kernel
theorem dX2_takeLowest_12 : decode cX2_takeLowest 12 = .ok (.iload_n 2, 1) := by decide +kernel
theorem dX2_takeLowest_13 : decode cX2_takeLowest 13 = .ok (.iaload, 1) := by decide +kernel
theorem dX2_takeLowest_14 : decode cX2_takeLowest 14 = .ok (.iconst (-1), 1) := by decide +kernel
theorem dX2_takeLowest_15 : decode cX2_takeLowest 15 = .ok (.if_icmp .ne 12, 3) := by decide +kernel
theorem dX2_takeLowest_18 : decode cX2_takeLowest 18 = .ok (.aload_n 0, 1) := by decide +kernel
theorem dX2_takeLowest_19 : decode cX2_takeLowest 19 = .ok (.getfield 9, 3) := by decide +kernel
theorem dX2_takeLowest_22 : decode cX2_takeLowest 22 = .ok (.iload_n 2, 1) := by decide +kernel
theorem dX2_takeLowest_23 : decode cX2_takeLowest 23 = .ok (.iload_n 1, 1) := by decide +kernel
theorem dX2_takeLowest_24 : decode cX2_takeLowest 24 = .ok (.iastore, 1) := by decide +kernel
theorem dX2_takeLowest_25 : decode cX2_takeLowest 25 = .ok (.iload_n 2, 1) := by decide +kernel
theorem dX2_takeLowest_26 : decode cX2_takeLowest 26 = .ok (.ireturn, 1) := by decide +kernel
theorem dX2_takeLowest_27 : decode cX2_takeLowest 27 = .ok (.iinc 2 1, 3) := by decide +kernel
theorem dX2_takeLowest_30 : decode cX2_takeLowest 30 = .ok (.goto (-28), 3) := by decide +kernel
theorem dX2_takeLowest_33 : decode cX2_takeLowest 33 = .ok (.iconst (-1), 1) := by decide +kernel
theorem dX2_takeLowest_34 : decode cX2_takeLowest 34 = .ok (.ireturn, 1) := by decide +kernel
theorem dX2_hangKey_0 : decode cX2_hangKey 0 = .ok (.iload_n 1, 1) := by decide +kernel
theorem dX2_hangKey_1 : decode cX2_hangKey 1 = .ok (.invokestatic 19, 3) := by decide +kernel
theorem dX2_hangKey_4 : decode cX2_hangKey 4 = .ok (.ifCond .eq 17, 3) := by decide +kernel
theorem dX2_hangKey_7 : decode cX2_hangKey 7 = .ok (.aload_n 0, 1) := by decide +kernel
theorem dX2_hangKey_8 : decode cX2_hangKey 8 = .ok (.getfield 9, 3) := by decide +kernel
theorem dX2_hangKey_11 : decode cX2_hangKey 11 = .ok (.iload_n 1, 1) := by decide +kernel
theorem dX2_hangKey_12 : decode cX2_hangKey 12 = .ok (.iconst (-1), 1) := by decide +kernel
theorem dX2_hangKey_13 : decode cX2_hangKey 13 = .ok (.iastore, 1) := by decide +kernel
theorem dX2_hangKey_14 : decode cX2_hangKey 14 = .ok (.aload_n 0, 1) := by decide +kernel
theorem dX2_hangKey_15 : decode cX2_hangKey 15 = .ok (.getfield 15, 3) := by decide +kernel
theorem dX2_hangKey_18 : decode cX2_hangKey 18 = .ok (.iload_n 1, 1) := by decide +kernel
theorem dX2_hangKey_19 : decode cX2_hangKey 19 = .ok (.iconst 0, 1) := by decide +kernel
theorem dX2_hangKey_20 : decode cX2_hangKey 20 = .ok (.bastore, 1) := by decide +kernel
theorem dX2_hangKey_21 : decode cX2_hangKey 21 = .ok (.return_, 1) := by decide +kernel
theorem dX2_lose_0 : decode cX2_lose 0 = .ok (.iload_n 1, 1) := by decide +kernel
theorem dX2_lose_1 : decode cX2_lose 1 = .ok (.invokestatic 19, 3) := by decide +kernel
theorem dX2_lose_4 : decode cX2_lose 4 = .ok (.ifCond .eq 10, 3) := by decide +kernel
theorem dX2_lose_7 : decode cX2_lose 7 = .ok (.aload_n 0, 1) := by decide +kernel
theorem dX2_lose_8 : decode cX2_lose 8 = .ok (.getfield 15, 3) := by decide +kernel
theorem dX2_lose_11 : decode cX2_lose 11 = .ok (.iload_n 1, 1) := by decide +kernel
theorem dX2_lose_12 : decode cX2_lose 12 = .ok (.iconst 1, 1) := by decide +kernel
theorem dX2_lose_13 : decode cX2_lose 13 = .ok (.bastore, 1) := by decide +kernel
theorem dX2_lose_14 : decode cX2_lose 14 = .ok (.return_, 1) := by decide +kernel
theorem dX2_lostOnes_0 : decode cX2_lostOnes 0 = .ok (.iconst 0, 1) := by decide +kernel
theorem dX2_lostOnes_1 : decode cX2_lostOnes 1 = .ok (.istore_n 1, 1) := by decide +kernel
theorem dX2_lostOnes_2 : decode cX2_lostOnes 2 = .ok (.iconst 0, 1) := by decide +kernel
theorem dX2_lostOnes_3 : decode cX2_lostOnes 3 = .ok (.istore_n 2, 1) := by decide +kernel
theorem dX2_lostOnes_4 : decode cX2_lostOnes 4 = .ok (.iload_n 2, 1) := by decide +kernel
theorem dX2_lostOnes_5 : decode cX2_lostOnes 5 = .ok (.bipush 30, 2) := by decide +kernel
theorem dX2_lostOnes_7 : decode cX2_lostOnes 7 = .ok (.if_icmp .ge 26, 3) := by decide +kernel
theorem dX2_lostOnes_10 : decode cX2_lostOnes 10 = .ok (.iload_n 1, 1) := by decide +kernel
theorem dX2_lostOnes_11 : decode cX2_lostOnes 11 = .ok (.aload_n 0, 1) := by decide +kernel
theorem dX2_lostOnes_12 : decode cX2_lostOnes 12 = .ok (.getfield 15, 3) := by decide +kernel
theorem dX2_lostOnes_15 : decode cX2_lostOnes 15 = .ok (.iload_n 2, 1) := by decide +kernel
theorem dX2_lostOnes_16 : decode cX2_lostOnes 16 = .ok (.baload, 1) := by decide +kernel
theorem dX2_lostOnes_17 : decode cX2_lostOnes 17 = .ok (.ifCond .eq 7, 3) := by decide +kernel
theorem dX2_lostOnes_20 : decode cX2_lostOnes 20 = .ok (.iconst 1, 1) := by decide +kernel
theorem dX2_lostOnes_21 : decode cX2_lostOnes 21 = .ok (.goto 4, 3) := by decide +kernel
theorem dX2_lostOnes_24 : decode cX2_lostOnes 24 = .ok (.iconst 0, 1) := by decide +kernel
theorem dX2_lostOnes_25 : decode cX2_lostOnes 25 = .ok (.iadd, 1) := by decide +kernel
theorem dX2_lostOnes_26 : decode cX2_lostOnes 26 = .ok (.istore_n 1, 1) := by decide +kernel
theorem dX2_lostOnes_27 : decode cX2_lostOnes 27 = .ok (.iinc 2 1, 3) := by decide +kernel
theorem dX2_lostOnes_30 : decode cX2_lostOnes 30 = .ok (.goto (-26), 3) := by decide +kernel
theorem dX2_lostOnes_33 : decode cX2_lostOnes 33 = .ok (.iload_n 1, 1) := by decide +kernel
theorem dX2_lostOnes_34 : decode cX2_lostOnes 34 = .ok (.ireturn, 1) := by decide +kernel
theorem dX2_keysOut_0 : decode cX2_keysOut 0 = .ok (.iconst 0, 1) := by decide +kernel
theorem dX2_keysOut_1 : decode cX2_keysOut 1 = .ok (.istore_n 1, 1) := by decide +kernel
theorem dX2_keysOut_2 : decode cX2_keysOut 2 = .ok (.iconst 0, 1) := by decide +kernel
theorem dX2_keysOut_3 : decode cX2_keysOut 3 = .ok (.istore_n 2, 1) := by decide +kernel
theorem dX2_keysOut_4 : decode cX2_keysOut 4 = .ok (.iload_n 2, 1) := by decide +kernel
theorem dX2_keysOut_5 : decode cX2_keysOut 5 = .ok (.bipush 30, 2) := by decide +kernel
theorem dX2_keysOut_7 : decode cX2_keysOut 7 = .ok (.if_icmp .ge 36, 3) := by decide +kernel
theorem dX2_keysOut_10 : decode cX2_keysOut 10 = .ok (.iload_n 1, 1) := by decide +kernel
theorem dX2_keysOut_11 : decode cX2_keysOut 11 = .ok (.aload_n 0, 1) := by decide +kernel
theorem dX2_keysOut_12 : decode cX2_keysOut 12 = .ok (.getfield 9, 3) := by decide +kernel
theorem dX2_keysOut_15 : decode cX2_keysOut 15 = .ok (.iload_n 2, 1) := by decide +kernel
theorem dX2_keysOut_16 : decode cX2_keysOut 16 = .ok (.iaload, 1) := by decide +kernel
theorem dX2_keysOut_17 : decode cX2_keysOut 17 = .ok (.iconst (-1), 1) := by decide +kernel
theorem dX2_keysOut_18 : decode cX2_keysOut 18 = .ok (.if_icmp .eq 16, 3) := by decide +kernel
theorem dX2_keysOut_21 : decode cX2_keysOut 21 = .ok (.aload_n 0, 1) := by decide +kernel
theorem dX2_keysOut_22 : decode cX2_keysOut 22 = .ok (.getfield 15, 3) := by decide +kernel
theorem dX2_keysOut_25 : decode cX2_keysOut 25 = .ok (.iload_n 2, 1) := by decide +kernel
theorem dX2_keysOut_26 : decode cX2_keysOut 26 = .ok (.baload, 1) := by decide +kernel
theorem dX2_keysOut_27 : decode cX2_keysOut 27 = .ok (.ifCond .ne 7, 3) := by decide +kernel
theorem dX2_keysOut_30 : decode cX2_keysOut 30 = .ok (.iconst 1, 1) := by decide +kernel
theorem dX2_keysOut_31 : decode cX2_keysOut 31 = .ok (.goto 4, 3) := by decide +kernel
theorem dX2_keysOut_34 : decode cX2_keysOut 34 = .ok (.iconst 0, 1) := by decide +kernel
theorem dX2_keysOut_35 : decode cX2_keysOut 35 = .ok (.iadd, 1) := by decide +kernel
theorem dX2_keysOut_36 : decode cX2_keysOut 36 = .ok (.istore_n 1, 1) := by decide +kernel
theorem dX2_keysOut_37 : decode cX2_keysOut 37 = .ok (.iinc 2 1, 3) := by decide +kernel
theorem dX2_keysOut_40 : decode cX2_keysOut 40 = .ok (.goto (-36), 3) := by decide +kernel
theorem dX2_keysOut_43 : decode cX2_keysOut 43 = .ok (.iload_n 1, 1) := by decide +kernel
theorem dX2_keysOut_44 : decode cX2_keysOut 44 = .ok (.ireturn, 1) := by decide +kernel
theorem dX3_init_0 : decode cX3_init 0 = .ok (.aload_n 0, 1) := by decide +kernel
theorem dX3_init_1 : decode cX3_init 1 = .ok (.invokespecial 3, 3) := by decide +kernel
theorem dX3_init_4 : decode cX3_init 4 = .ok (.aload_n 0, 1) := by decide +kernel
theorem dX3_init_5 : decode cX3_init 5 = .ok (.iconst 3, 1) := by decide +kernel
theorem dX3_init_6 : decode cX3_init 6 = .ok (.anewarray 9, 3) := by decide +kernel
theorem dX3_init_9 : decode cX3_init 9 = .ok (.putfield 11, 3) := by decide +kernel
theorem dX3_init_12 : decode cX3_init 12 = .ok (.aload_n 0, 1) := by decide +kernel
theorem dX3_init_13 : decode cX3_init 13 = .ok (.new 17, 3) := by decide +kernel
theorem dX3_init_16 : decode cX3_init 16 = .ok (.dup, 1) := by decide +kernel
theorem dX3_init_17 : decode cX3_init 17 = .ok (.invokespecial 19, 3) := by decide +kernel
theorem dX3_init_20 : decode cX3_init 20 = .ok (.putfield 20, 3) := by decide +kernel
theorem dX3_init_23 : decode cX3_init 23 = .ok (.aload_n 0, 1) := by decide +kernel
theorem dX3_init_24 : decode cX3_init 24 = .ok (.iload_n 1, 1) := by decide +kernel
theorem dX3_init_25 : decode cX3_init 25 = .ok (.putfield 24, 3) := by decide +kernel
theorem dX3_init_28 : decode cX3_init 28 = .ok (.aload_n 0, 1) := by decide +kernel
theorem dX3_init_29 : decode cX3_init 29 = .ok (.iload_n 2, 1) := by decide +kernel
theorem dX3_init_30 : decode cX3_init 30 = .ok (.putfield 28, 3) := by decide +kernel
theorem dX3_init_33 : decode cX3_init 33 = .ok (.aload_n 0, 1) := by decide +kernel
theorem dX3_init_34 : decode cX3_init 34 = .ok (.iload_n 3, 1) := by decide +kernel
theorem dX3_init_35 : decode cX3_init 35 = .ok (.putfield 31, 3) := by decide +kernel
theorem dX3_init_38 : decode cX3_init 38 = .ok (.aload_n 0, 1) := by decide +kernel
theorem dX3_init_39 : decode cX3_init 39 = .ok (.iconst 0, 1) := by decide +kernel
theorem dX3_init_40 : decode cX3_init 40 = .ok (.iload 4, 2) := by decide +kernel
theorem dX3_init_42 : decode cX3_init 42 = .ok (.invokestatic 34, 3) := by decide +kernel
theorem dX3_init_45 : decode cX3_init 45 = .ok (.anewarray 40, 3) := by decide +kernel
theorem dX3_init_48 : decode cX3_init 48 = .ok (.putfield 42, 3) := by decide +kernel
theorem dX3_init_51 : decode cX3_init 51 = .ok (.iconst 0, 1) := by decide +kernel
theorem dX3_init_52 : decode cX3_init 52 = .ok (.istore 5, 2) := by decide +kernel
theorem dX3_init_54 : decode cX3_init 54 = .ok (.iload 5, 2) := by decide +kernel
theorem dX3_init_56 : decode cX3_init 56 = .ok (.aload_n 0, 1) := by decide +kernel
theorem dX3_init_57 : decode cX3_init 57 = .ok (.getfield 42, 3) := by decide +kernel
theorem dX3_init_60 : decode cX3_init 60 = .ok (.arraylength, 1) := by decide +kernel
theorem dX3_init_61 : decode cX3_init 61 = .ok (.if_icmp .ge 23, 3) := by decide +kernel
theorem dX3_init_64 : decode cX3_init 64 = .ok (.aload_n 0, 1) := by decide +kernel
theorem dX3_init_65 : decode cX3_init 65 = .ok (.getfield 42, 3) := by decide +kernel
theorem dX3_init_68 : decode cX3_init 68 = .ok (.iload 5, 2) := by decide +kernel
theorem dX3_init_70 : decode cX3_init 70 = .ok (.new 40, 3) := by decide +kernel
theorem dX3_init_73 : decode cX3_init 73 = .ok (.dup, 1) := by decide +kernel
theorem dX3_init_74 : decode cX3_init 74 = .ok (.invokespecial 46, 3) := by decide +kernel
theorem dX3_init_77 : decode cX3_init 77 = .ok (.aastore, 1) := by decide +kernel
theorem dX3_init_78 : decode cX3_init 78 = .ok (.iinc 5 1, 3) := by decide +kernel
theorem dX3_init_81 : decode cX3_init 81 = .ok (.goto (-27), 3) := by decide +kernel
theorem dX3_init_84 : decode cX3_init 84 = .ok (.iconst 0, 1) := by decide +kernel
theorem dX3_init_85 : decode cX3_init 85 = .ok (.istore 5, 2) := by decide +kernel
theorem dX3_init_87 : decode cX3_init 87 = .ok (.iload 5, 2) := by decide +kernel
theorem dX3_init_89 : decode cX3_init 89 = .ok (.iconst 3, 1) := by decide +kernel
theorem dX3_init_90 : decode cX3_init 90 = .ok (.if_icmp .ge 23, 3) := by decide +kernel
theorem dX3_init_93 : decode cX3_init 93 = .ok (.aload_n 0, 1) := by decide +kernel
theorem dX3_init_94 : decode cX3_init 94 = .ok (.getfield 11, 3) := by decide +kernel
theorem dX3_init_97 : decode cX3_init 97 = .ok (.iload 5, 2) := by decide +kernel
theorem dX3_init_99 : decode cX3_init 99 = .ok (.new 9, 3) := by decide +kernel
theorem dX3_init_102 : decode cX3_init 102 = .ok (.dup, 1) := by decide +kernel
theorem dX3_init_103 : decode cX3_init 103 = .ok (.invokespecial 47, 3) := by decide +kernel
theorem dX3_init_106 : decode cX3_init 106 = .ok (.aastore, 1) := by decide +kernel
theorem dX3_init_107 : decode cX3_init 107 = .ok (.iinc 5 1, 3) := by decide +kernel
theorem dX3_init_110 : decode cX3_init 110 = .ok (.goto (-23), 3) := by decide +kernel
theorem dX3_init_113 : decode cX3_init 113 = .ok (.return_, 1) := by decide +kernel
theorem dX3_hasLanes_0 : decode cX3_hasLanes 0 = .ok (.iload_n 1, 1) := by decide +kernel
theorem dX3_hasLanes_1 : decode cX3_hasLanes 1 = .ok (.ifCond .le 17, 3) := by decide +kernel
theorem dX3_hasLanes_4 : decode cX3_hasLanes 4 = .ok (.iload_n 1, 1) := by decide +kernel
theorem dX3_hasLanes_5 : decode cX3_hasLanes 5 = .ok (.iconst 1, 1) := by decide +kernel
theorem dX3_hasLanes_6 : decode cX3_hasLanes 6 = .ok (.aload_n 0, 1) := by decide +kernel
theorem dX3_hasLanes_7 : decode cX3_hasLanes 7 = .ok (.getfield 31, 3) := by decide +kernel
theorem dX3_hasLanes_10 : decode cX3_hasLanes 10 = .ok (.ishl, 1) := by decide +kernel
theorem dX3_hasLanes_11 : decode cX3_hasLanes 11 = .ok (.if_icmp .ge 7, 3) := by decide +kernel
theorem dX3_hasLanes_14 : decode cX3_hasLanes 14 = .ok (.iconst 1, 1) := by decide +kernel
theorem dX3_hasLanes_15 : decode cX3_hasLanes 15 = .ok (.goto 4, 3) := by decide +kernel
theorem dX3_hasLanes_18 : decode cX3_hasLanes 18 = .ok (.iconst 0, 1) := by decide +kernel
theorem dX3_hasLanes_19 : decode cX3_hasLanes 19 = .ok (.ireturn, 1) := by decide +kernel
theorem dX3_letIn_0 : decode cX3_letIn 0 = .ok (.aload_n 0, 1) := by decide +kernel
theorem dX3_letIn_1 : decode cX3_letIn 1 = .ok (.dup, 1) := by decide +kernel
theorem dX3_letIn_2 : decode cX3_letIn 2 = .ok (.getfield 48, 3) := by decide +kernel
theorem dX3_letIn_5 : decode cX3_letIn 5 = .ok (.iconst 1, 1) := by decide +kernel
theorem dX3_letIn_6 : decode cX3_letIn 6 = .ok (.iadd, 1) := by decide +kernel
theorem dX3_letIn_7 : decode cX3_letIn 7 = .ok (.putfield 48, 3) := by decide +kernel
theorem dX3_letIn_10 : decode cX3_letIn 10 = .ok (.aload_n 0, 1) := by decide +kernel
theorem dX3_letIn_11 : decode cX3_letIn 11 = .ok (.dup, 1) := by decide +kernel
theorem dX3_letIn_12 : decode cX3_letIn 12 = .ok (.getfield 51, 3) := by decide +kernel
theorem dX3_letIn_15 : decode cX3_letIn 15 = .ok (.aload_n 1, 1) := by decide +kernel
theorem dX3_letIn_16 : decode cX3_letIn 16 = .ok (.getfield 54, 3) := by decide +kernel
theorem dX3_letIn_19 : decode cX3_letIn 19 = .ok (.iconst 5, 1) := by decide +kernel
theorem dX3_letIn_20 : decode cX3_letIn 20 = .ok (.if_icmp .ne 7, 3) := by decide +kernel
theorem dX3_letIn_23 : decode cX3_letIn 23 = .ok (.iconst 1, 1) := by decide +kernel
theorem dX3_letIn_24 : decode cX3_letIn 24 = .ok (.goto 4, 3) := by decide +kernel
theorem dX3_letIn_27 : decode cX3_letIn 27 = .ok (.iconst 0, 1) := by decide +kernel
theorem dX3_letIn_28 : decode cX3_letIn 28 = .ok (.iadd, 1) := by decide +kernel
theorem dX3_letIn_29 : decode cX3_letIn 29 = .ok (.putfield 51, 3) := by decide +kernel
theorem dX3_letIn_32 : decode cX3_letIn 32 = .ok (.aload_n 0, 1) := by decide +kernel
theorem dX3_letIn_33 : decode cX3_letIn 33 = .ok (.getfield 20, 3) := by decide +kernel
theorem dX3_letIn_36 : decode cX3_letIn 36 = .ok (.dup, 1) := by decide +kernel
theorem dX3_letIn_37 : decode cX3_letIn 37 = .ok (.getfield 59, 3) := by decide +kernel
theorem dX3_letIn_40 : decode cX3_letIn 40 = .ok (.iconst 1, 1) := by decide +kernel
theorem dX3_letIn_41 : decode cX3_letIn 41 = .ok (.iadd, 1) := by decide +kernel
theorem dX3_letIn_42 : decode cX3_letIn 42 = .ok (.putfield 59, 3) := by decide +kernel
theorem dX3_letIn_45 : decode cX3_letIn 45 = .ok (.aload_n 0, 1) := by decide +kernel
theorem dX3_letIn_46 : decode cX3_letIn 46 = .ok (.getfield 20, 3) := by decide +kernel
theorem dX3_letIn_49 : decode cX3_letIn 49 = .ok (.dup, 1) := by decide +kernel
theorem dX3_letIn_50 : decode cX3_letIn 50 = .ok (.getfield 62, 3) := by decide +kernel
theorem dX3_letIn_53 : decode cX3_letIn 53 = .ok (.iconst 1, 1) := by decide +kernel
theorem dX3_letIn_54 : decode cX3_letIn 54 = .ok (.iadd, 1) := by decide +kernel
theorem dX3_letIn_55 : decode cX3_letIn 55 = .ok (.putfield 62, 3) := by decide +kernel
theorem dX3_letIn_58 : decode cX3_letIn 58 = .ok (.return_, 1) := by decide +kernel
theorem dX3_letOut_0 : decode cX3_letOut 0 = .ok (.aload_n 0, 1) := by decide +kernel
theorem dX3_letOut_1 : decode cX3_letOut 1 = .ok (.dup, 1) := by decide +kernel
theorem dX3_letOut_2 : decode cX3_letOut 2 = .ok (.getfield 48, 3) := by decide +kernel
theorem dX3_letOut_5 : decode cX3_letOut 5 = .ok (.iconst 1, 1) := by decide +kernel
theorem dX3_letOut_6 : decode cX3_letOut 6 = .ok (.isub, 1) := by decide +kernel
theorem dX3_letOut_7 : decode cX3_letOut 7 = .ok (.putfield 48, 3) := by decide +kernel
theorem dX3_letOut_10 : decode cX3_letOut 10 = .ok (.aload_n 0, 1) := by decide +kernel
theorem dX3_letOut_11 : decode cX3_letOut 11 = .ok (.dup, 1) := by decide +kernel
theorem dX3_letOut_12 : decode cX3_letOut 12 = .ok (.getfield 51, 3) := by decide +kernel
theorem dX3_letOut_15 : decode cX3_letOut 15 = .ok (.aload_n 1, 1) := by decide +kernel
theorem dX3_letOut_16 : decode cX3_letOut 16 = .ok (.getfield 54, 3) := by decide +kernel
theorem dX3_letOut_19 : decode cX3_letOut 19 = .ok (.iconst 5, 1) := by decide +kernel
theorem dX3_letOut_20 : decode cX3_letOut 20 = .ok (.if_icmp .ne 7, 3) := by decide +kernel
theorem dX3_letOut_23 : decode cX3_letOut 23 = .ok (.iconst 1, 1) := by decide +kernel
theorem dX3_letOut_24 : decode cX3_letOut 24 = .ok (.goto 4, 3) := by decide +kernel
theorem dX3_letOut_27 : decode cX3_letOut 27 = .ok (.iconst 0, 1) := by decide +kernel
theorem dX3_letOut_28 : decode cX3_letOut 28 = .ok (.isub, 1) := by decide +kernel
theorem dX3_letOut_29 : decode cX3_letOut 29 = .ok (.putfield 51, 3) := by decide +kernel
theorem dX3_letOut_32 : decode cX3_letOut 32 = .ok (.aload_n 0, 1) := by decide +kernel
theorem dX3_letOut_33 : decode cX3_letOut 33 = .ok (.getfield 20, 3) := by decide +kernel
theorem dX3_letOut_36 : decode cX3_letOut 36 = .ok (.dup, 1) := by decide +kernel
theorem dX3_letOut_37 : decode cX3_letOut 37 = .ok (.getfield 65, 3) := by decide +kernel
theorem dX3_letOut_40 : decode cX3_letOut 40 = .ok (.iconst 1, 1) := by decide +kernel
theorem dX3_letOut_41 : decode cX3_letOut 41 = .ok (.iadd, 1) := by decide +kernel
theorem dX3_letOut_42 : decode cX3_letOut 42 = .ok (.putfield 65, 3) := by decide +kernel
theorem dX3_letOut_45 : decode cX3_letOut 45 = .ok (.aload_n 0, 1) := by decide +kernel
theorem dX3_letOut_46 : decode cX3_letOut 46 = .ok (.getfield 20, 3) := by decide +kernel
theorem dX3_letOut_49 : decode cX3_letOut 49 = .ok (.dup, 1) := by decide +kernel
theorem dX3_letOut_50 : decode cX3_letOut 50 = .ok (.getfield 62, 3) := by decide +kernel
theorem dX3_letOut_53 : decode cX3_letOut 53 = .ok (.iconst 1, 1) := by decide +kernel
theorem dX3_letOut_54 : decode cX3_letOut 54 = .ok (.isub, 1) := by decide +kernel
theorem dX3_letOut_55 : decode cX3_letOut 55 = .ok (.putfield 62, 3) := by decide +kernel
theorem dX3_letOut_58 : decode cX3_letOut 58 = .ok (.return_, 1) := by decide +kernel
theorem dX3_filledPosts_0 : decode cX3_filledPosts 0 = .ok (.iconst 0, 1) := by decide +kernel
theorem dX3_filledPosts_1 : decode cX3_filledPosts 1 = .ok (.istore_n 2, 1) := by decide +kernel
theorem dX3_filledPosts_2 : decode cX3_filledPosts 2 = .ok (.iconst 0, 1) := by decide +kernel
theorem dX3_filledPosts_3 : decode cX3_filledPosts 3 = .ok (.istore_n 3, 1) := by decide +kernel
theorem dX3_filledPosts_4 : decode cX3_filledPosts 4 = .ok (.iload_n 3, 1) := by decide +kernel
theorem dX3_filledPosts_5 : decode cX3_filledPosts 5 = .ok (.aload_n 0, 1) := by decide +kernel
theorem dX3_filledPosts_6 : decode cX3_filledPosts 6 = .ok (.getfield 42, 3) := by decide +kernel
theorem dX3_filledPosts_9 : decode cX3_filledPosts 9 = .ok (.arraylength, 1) := by decide +kernel
theorem dX3_filledPosts_10 : decode cX3_filledPosts 10 = .ok (.if_icmp .ge 30, 3) := by decide +kernel
theorem dX3_filledPosts_13 : decode cX3_filledPosts 13 = .ok (.iload_n 2, 1) := by decide +kernel
theorem dX3_filledPosts_14 : decode cX3_filledPosts 14 = .ok (.aload_n 0, 1) := by decide +kernel
theorem dX3_filledPosts_15 : decode cX3_filledPosts 15 = .ok (.getfield 42, 3) := by decide +kernel
theorem dX3_filledPosts_18 : decode cX3_filledPosts 18 = .ok (.iload_n 3, 1) := by decide +kernel
theorem dX3_filledPosts_19 : decode cX3_filledPosts 19 = .ok (.aaload, 1) := by decide +kernel
theorem dX3_filledPosts_20 : decode cX3_filledPosts 20 = .ok (.iload_n 1, 1) := by decide +kernel
theorem dX3_filledPosts_21 : decode cX3_filledPosts 21 = .ok (.invokevirtual 68, 3) := by decide +kernel
theorem dX3_filledPosts_24 : decode cX3_filledPosts 24 = .ok (.ifCond .eq 7, 3) := by decide +kernel
theorem dX3_filledPosts_27 : decode cX3_filledPosts 27 = .ok (.iconst 1, 1) := by decide +kernel
theorem dX3_filledPosts_28 : decode cX3_filledPosts 28 = .ok (.goto 4, 3) := by decide +kernel
theorem dX3_filledPosts_31 : decode cX3_filledPosts 31 = .ok (.iconst 0, 1) := by decide +kernel
theorem dX3_filledPosts_32 : decode cX3_filledPosts 32 = .ok (.iadd, 1) := by decide +kernel
theorem dX3_filledPosts_33 : decode cX3_filledPosts 33 = .ok (.istore_n 2, 1) := by decide +kernel
theorem dX3_filledPosts_34 : decode cX3_filledPosts 34 = .ok (.iinc 3 1, 3) := by decide +kernel
theorem dX3_filledPosts_37 : decode cX3_filledPosts 37 = .ok (.goto (-33), 3) := by decide +kernel
theorem dX3_filledPosts_40 : decode cX3_filledPosts 40 = .ok (.iload_n 2, 1) := by decide +kernel
theorem dX3_filledPosts_41 : decode cX3_filledPosts 41 = .ok (.ireturn, 1) := by decide +kernel
theorem dX3_reasonsIn_0 : decode cX3_reasonsIn 0 = .ok (.iload_n 1, 1) := by decide +kernel
theorem dX3_reasonsIn_1 : decode cX3_reasonsIn 1 = .ok (.aload_n 0, 1) := by decide +kernel
theorem dX3_reasonsIn_2 : decode cX3_reasonsIn 2 = .ok (.getfield 72, 3) := by decide +kernel
theorem dX3_reasonsIn_5 : decode cX3_reasonsIn 5 = .ok (.if_icmp .ge 8, 3) := by decide +kernel
theorem dX3_reasonsIn_8 : decode cX3_reasonsIn 8 = .ok (.bipush 16, 2) := by decide +kernel
theorem dX3_reasonsIn_10 : decode cX3_reasonsIn 10 = .ok (.goto 4, 3) := by decide +kernel
theorem dX3_reasonsIn_13 : decode cX3_reasonsIn 13 = .ok (.iconst 0, 1) := by decide +kernel
theorem dX3_reasonsIn_14 : decode cX3_reasonsIn 14 = .ok (.istore_n 2, 1) := by decide +kernel
theorem dX3_reasonsIn_15 : decode cX3_reasonsIn 15 = .ok (.iconst 0, 1) := by decide +kernel
theorem dX3_reasonsIn_16 : decode cX3_reasonsIn 16 = .ok (.istore_n 3, 1) := by decide +kernel
theorem dX3_reasonsIn_17 : decode cX3_reasonsIn 17 = .ok (.iload_n 3, 1) := by decide +kernel
theorem dX3_reasonsIn_18 : decode cX3_reasonsIn 18 = .ok (.iconst 3, 1) := by decide +kernel
theorem dX3_reasonsIn_19 : decode cX3_reasonsIn 19 = .ok (.if_icmp .ge 53, 3) := by decide +kernel
theorem dX3_reasonsIn_22 : decode cX3_reasonsIn 22 = .ok (.iload_n 2, 1) := by decide +kernel
theorem dX3_reasonsIn_23 : decode cX3_reasonsIn 23 = .ok (.aload_n 0, 1) := by decide +kernel
theorem dX3_reasonsIn_24 : decode cX3_reasonsIn 24 = .ok (.getfield 11, 3) := by decide +kernel
theorem dX3_reasonsIn_27 : decode cX3_reasonsIn 27 = .ok (.iload_n 3, 1) := by decide +kernel
theorem dX3_reasonsIn_28 : decode cX3_reasonsIn 28 = .ok (.aaload, 1) := by decide +kernel
theorem dX3_reasonsIn_29 : decode cX3_reasonsIn 29 = .ok (.invokevirtual 75, 3) := by decide +kernel
theorem dX3_reasonsIn_32 : decode cX3_reasonsIn 32 = .ok (.ifCond .eq 7, 3) := by decide +kernel
theorem dX3_reasonsIn_35 : decode cX3_reasonsIn 35 = .ok (.iconst 0, 1) := by decide +kernel
theorem dX3_reasonsIn_36 : decode cX3_reasonsIn 36 = .ok (.goto 6, 3) := by decide +kernel
theorem dX3_reasonsIn_39 : decode cX3_reasonsIn 39 = .ok (.iconst 1, 1) := by decide +kernel
theorem dX3_reasonsIn_40 : decode cX3_reasonsIn 40 = .ok (.iload_n 3, 1) := by decide +kernel
theorem dX3_reasonsIn_41 : decode cX3_reasonsIn 41 = .ok (.ishl, 1) := by decide +kernel
theorem dX3_reasonsIn_42 : decode cX3_reasonsIn 42 = .ok (.ior, 1) := by decide +kernel
theorem dX3_reasonsIn_43 : decode cX3_reasonsIn 43 = .ok (.istore_n 2, 1) := by decide +kernel
theorem dX3_reasonsIn_44 : decode cX3_reasonsIn 44 = .ok (.iload_n 2, 1) := by decide +kernel
theorem dX3_reasonsIn_45 : decode cX3_reasonsIn 45 = .ok (.aload_n 0, 1) := by decide +kernel
theorem dX3_reasonsIn_46 : decode cX3_reasonsIn 46 = .ok (.getfield 11, 3) := by decide +kernel
theorem dX3_reasonsIn_49 : decode cX3_reasonsIn 49 = .ok (.iload_n 3, 1) := by decide +kernel
theorem dX3_reasonsIn_50 : decode cX3_reasonsIn 50 = .ok (.aaload, 1) := by decide +kernel
theorem dX3_reasonsIn_51 : decode cX3_reasonsIn 51 = .ok (.iload_n 1, 1) := by decide +kernel
theorem dX3_reasonsIn_52 : decode cX3_reasonsIn 52 = .ok (.invokevirtual 79, 3) := by decide +kernel
theorem dX3_reasonsIn_55 : decode cX3_reasonsIn 55 = .ok (.ifCond .eq 8, 3) := by decide +kernel
theorem dX3_reasonsIn_58 : decode cX3_reasonsIn 58 = .ok (.bipush 8, 2) := by decide +kernel
theorem dX3_reasonsIn_60 : decode cX3_reasonsIn 60 = .ok (.goto 4, 3) := by decide +kernel
theorem dX3_reasonsIn_63 : decode cX3_reasonsIn 63 = .ok (.iconst 0, 1) := by decide +kernel
theorem dX3_reasonsIn_64 : decode cX3_reasonsIn 64 = .ok (.ior, 1) := by decide +kernel
theorem dX3_reasonsIn_65 : decode cX3_reasonsIn 65 = .ok (.istore_n 2, 1) := by decide +kernel
theorem dX3_reasonsIn_66 : decode cX3_reasonsIn 66 = .ok (.iinc 3 1, 3) := by decide +kernel
theorem dX3_reasonsIn_69 : decode cX3_reasonsIn 69 = .ok (.goto (-52), 3) := by decide +kernel
theorem dX3_reasonsIn_72 : decode cX3_reasonsIn 72 = .ok (.iload_n 2, 1) := by decide +kernel
theorem dX3_reasonsIn_73 : decode cX3_reasonsIn 73 = .ok (.aload_n 0, 1) := by decide +kernel
theorem dX3_reasonsIn_74 : decode cX3_reasonsIn 74 = .ok (.iload_n 1, 1) := by decide +kernel
theorem dX3_reasonsIn_75 : decode cX3_reasonsIn 75 = .ok (.invokevirtual 82, 3) := by decide +kernel
theorem dX3_reasonsIn_78 : decode cX3_reasonsIn 78 = .ok (.aload_n 0, 1) := by decide +kernel
theorem dX3_reasonsIn_79 : decode cX3_reasonsIn 79 = .ok (.getfield 42, 3) := by decide +kernel
theorem dX3_reasonsIn_82 : decode cX3_reasonsIn 82 = .ok (.arraylength, 1) := by decide +kernel
theorem dX3_reasonsIn_83 : decode cX3_reasonsIn 83 = .ok (.if_icmp .ge 8, 3) := by decide +kernel
theorem dX3_reasonsIn_86 : decode cX3_reasonsIn 86 = .ok (.bipush 32, 2) := by decide +kernel
theorem dX3_reasonsIn_88 : decode cX3_reasonsIn 88 = .ok (.goto 4, 3) := by decide +kernel
theorem dX3_reasonsIn_91 : decode cX3_reasonsIn 91 = .ok (.iconst 0, 1) := by decide +kernel
theorem dX3_reasonsIn_92 : decode cX3_reasonsIn 92 = .ok (.ior, 1) := by decide +kernel
theorem dX3_reasonsIn_93 : decode cX3_reasonsIn 93 = .ok (.istore_n 2, 1) := by decide +kernel
theorem dX3_reasonsIn_94 : decode cX3_reasonsIn 94 = .ok (.iload_n 2, 1) := by decide +kernel
theorem dX3_reasonsIn_95 : decode cX3_reasonsIn 95 = .ok (.ireturn, 1) := by decide +kernel
theorem dX3_endMinute_0 : decode cX3_endMinute 0 = .ok (.aload_n 0, 1) := by decide +kernel
theorem dX3_endMinute_1 : decode cX3_endMinute 1 = .ok (.dup, 1) := by decide +kernel
theorem dX3_endMinute_2 : decode cX3_endMinute 2 = .ok (.getfield 86, 3) := by decide +kernel
theorem dX3_endMinute_5 : decode cX3_endMinute 5 = .ok (.aload_n 0, 1) := by decide +kernel
theorem dX3_endMinute_6 : decode cX3_endMinute 6 = .ok (.iload_n 1, 1) := by decide +kernel
theorem dX3_endMinute_7 : decode cX3_endMinute 7 = .ok (.invokevirtual 89, 3) := by decide +kernel
theorem dX3_endMinute_10 : decode cX3_endMinute 10 = .ok (.ifCond .eq 7, 3) := by decide +kernel
theorem dX3_endMinute_13 : decode cX3_endMinute 13 = .ok (.iconst 1, 1) := by decide +kernel
theorem dX3_endMinute_14 : decode cX3_endMinute 14 = .ok (.goto 4, 3) := by decide +kernel
theorem dX3_endMinute_17 : decode cX3_endMinute 17 = .ok (.iconst 0, 1) := by decide +kernel
theorem dX3_endMinute_18 : decode cX3_endMinute 18 = .ok (.iadd, 1) := by decide +kernel
theorem dX3_endMinute_19 : decode cX3_endMinute 19 = .ok (.putfield 86, 3) := by decide +kernel
theorem dX3_endMinute_22 : decode cX3_endMinute 22 = .ok (.aload_n 0, 1) := by decide +kernel
theorem dX3_endMinute_23 : decode cX3_endMinute 23 = .ok (.getfield 20, 3) := by decide +kernel
theorem dX3_endMinute_26 : decode cX3_endMinute 26 = .ok (.invokevirtual 92, 3) := by decide +kernel
theorem dX3_endMinute_29 : decode cX3_endMinute 29 = .ok (.return_, 1) := by decide +kernel
theorem dX4_init_0 : decode cX4_init 0 = .ok (.aload_n 0, 1) := by decide +kernel
theorem dX4_init_1 : decode cX4_init 1 = .ok (.invokespecial 3, 3) := by decide +kernel
theorem dX4_init_4 : decode cX4_init 4 = .ok (.return_, 1) := by decide +kernel
theorem dX4_isFilled_0 : decode cX4_isFilled 0 = .ok (.aload_n 0, 1) := by decide +kernel
theorem dX4_isFilled_1 : decode cX4_isFilled 1 = .ok (.getfield 9, 3) := by decide +kernel
theorem dX4_isFilled_4 : decode cX4_isFilled 4 = .ok (.ifnull 18, 3) := by decide +kernel
theorem dX4_isFilled_7 : decode cX4_isFilled 7 = .ok (.iload_n 1, 1) := by decide +kernel
theorem dX4_isFilled_8 : decode cX4_isFilled 8 = .ok (.aload_n 0, 1) := by decide +kernel
theorem dX4_isFilled_9 : decode cX4_isFilled 9 = .ok (.getfield 15, 3) := by decide +kernel
theorem dX4_isFilled_12 : decode cX4_isFilled 12 = .ok (.isub, 1) := by decide +kernel
theorem dX4_isFilled_13 : decode cX4_isFilled 13 = .ok (.bipush 60, 2) := by decide +kernel
theorem dX4_isFilled_15 : decode cX4_isFilled 15 = .ok (.if_icmp .ge 7, 3) := by decide +kernel
theorem dX4_isFilled_18 : decode cX4_isFilled 18 = .ok (.iconst 1, 1) := by decide +kernel
theorem dX4_isFilled_19 : decode cX4_isFilled 19 = .ok (.goto 4, 3) := by decide +kernel
theorem dX4_isFilled_22 : decode cX4_isFilled 22 = .ok (.iconst 0, 1) := by decide +kernel
theorem dX4_isFilled_23 : decode cX4_isFilled 23 = .ok (.ireturn, 1) := by decide +kernel
theorem dX5_init_0 : decode cX5_init 0 = .ok (.aload_n 0, 1) := by decide +kernel
theorem dX5_init_1 : decode cX5_init 1 = .ok (.invokespecial 3, 3) := by decide +kernel
theorem dX5_init_4 : decode cX5_init 4 = .ok (.aload_n 0, 1) := by decide +kernel
theorem dX5_init_5 : decode cX5_init 5 = .ok (.bipush 24, 2) := by decide +kernel
theorem dX5_init_7 : decode cX5_init 7 = .ok (.newarray .int, 2) := by decide +kernel
theorem dX5_init_9 : decode cX5_init 9 = .ok (.putfield 9, 3) := by decide +kernel
theorem dX5_init_12 : decode cX5_init 12 = .ok (.aload_n 0, 1) := by decide +kernel
theorem dX5_init_13 : decode cX5_init 13 = .ok (.bipush 24, 2) := by decide +kernel
theorem dX5_init_15 : decode cX5_init 15 = .ok (.newarray .boolean, 2) := by decide +kernel
theorem dX5_init_17 : decode cX5_init 17 = .ok (.putfield 15, 3) := by decide +kernel
theorem dX5_init_20 : decode cX5_init 20 = .ok (.iconst 0, 1) := by decide +kernel
theorem dX5_init_21 : decode cX5_init 21 = .ok (.istore_n 1, 1) := by decide +kernel
theorem dX5_init_22 : decode cX5_init 22 = .ok (.iload_n 1, 1) := by decide +kernel
theorem dX5_init_23 : decode cX5_init 23 = .ok (.bipush 24, 2) := by decide +kernel
theorem dX5_init_25 : decode cX5_init 25 = .ok (.if_icmp .ge 16, 3) := by decide +kernel
theorem dX5_init_28 : decode cX5_init 28 = .ok (.aload_n 0, 1) := by decide +kernel
theorem dX5_init_29 : decode cX5_init 29 = .ok (.getfield 9, 3) := by decide +kernel
theorem dX5_init_32 : decode cX5_init 32 = .ok (.iload_n 1, 1) := by decide +kernel
theorem dX5_init_33 : decode cX5_init 33 = .ok (.iconst 1, 1) := by decide +kernel
theorem dX5_init_34 : decode cX5_init 34 = .ok (.iastore, 1) := by decide +kernel
theorem dX5_init_35 : decode cX5_init 35 = .ok (.iinc 1 1, 3) := by decide +kernel
theorem dX5_init_38 : decode cX5_init 38 = .ok (.goto (-16), 3) := by decide +kernel
theorem dX5_init_41 : decode cX5_init 41 = .ok (.return_, 1) := by decide +kernel
theorem dX5_takeCheapest_0 : decode cX5_takeCheapest 0 = .ok (.aload_n 0, 1) := by decide +kernel
theorem dX5_takeCheapest_1 : decode cX5_takeCheapest 1 = .ok (.iconst 1, 1) := by decide +kernel
theorem dX5_takeCheapest_2 : decode cX5_takeCheapest 2 = .ok (.putfield 19, 3) := by decide +kernel
theorem dX5_takeCheapest_5 : decode cX5_takeCheapest 5 = .ok (.aload_n 0, 1) := by decide +kernel
theorem dX5_takeCheapest_6 : decode cX5_takeCheapest 6 = .ok (.iconst 0, 1) := by decide +kernel
theorem dX5_takeCheapest_7 : decode cX5_takeCheapest 7 = .ok (.putfield 23, 3) := by decide +kernel
theorem dX5_takeCheapest_10 : decode cX5_takeCheapest 10 = .ok (.iconst 0, 1) := by decide +kernel
theorem dX5_takeCheapest_11 : decode cX5_takeCheapest 11 = .ok (.istore_n 2, 1) := by decide +kernel
theorem dX5_takeCheapest_12 : decode cX5_takeCheapest 12 = .ok (.iload_n 2, 1) := by decide +kernel
theorem dX5_takeCheapest_13 : decode cX5_takeCheapest 13 = .ok (.bipush 24, 2) := by decide +kernel
theorem dX5_takeCheapest_15 : decode cX5_takeCheapest 15 = .ok (.if_icmp .ge 16, 3) := by decide +kernel
theorem dX5_takeCheapest_18 : decode cX5_takeCheapest 18 = .ok (.aload_n 0, 1) := by decide +kernel
theorem dX5_takeCheapest_19 : decode cX5_takeCheapest 19 = .ok (.getfield 15, 3) := by decide +kernel
theorem dX5_takeCheapest_22 : decode cX5_takeCheapest 22 = .ok (.iload_n 2, 1) := by decide +kernel
theorem dX5_takeCheapest_23 : decode cX5_takeCheapest 23 = .ok (.iconst 0, 1) := by decide +kernel
theorem dX5_takeCheapest_24 : decode cX5_takeCheapest 24 = .ok (.bastore, 1) := by decide +kernel
theorem dX5_takeCheapest_25 : decode cX5_takeCheapest 25 = .ok (.iinc 2 1, 3) := by decide +kernel
theorem dX5_takeCheapest_28 : decode cX5_takeCheapest 28 = .ok (.goto (-16), 3) := by decide +kernel
theorem dX5_takeCheapest_31 : decode cX5_takeCheapest 31 = .ok (.iconst 0, 1) := by decide +kernel
theorem dX5_takeCheapest_32 : decode cX5_takeCheapest 32 = .ok (.istore_n 2, 1) := by decide +kernel
theorem dX5_takeCheapest_33 : decode cX5_takeCheapest 33 = .ok (.iload_n 2, 1) := by decide +kernel
theorem dX5_takeCheapest_34 : decode cX5_takeCheapest 34 = .ok (.iload_n 1, 1) := by decide +kernel
theorem dX5_takeCheapest_35 : decode cX5_takeCheapest 35 = .ok (.if_icmp .ge 13, 3) := by decide +kernel
theorem dX5_takeCheapest_38 : decode cX5_takeCheapest 38 = .ok (.aload_n 0, 1) := by decide +kernel
theorem dX5_takeCheapest_39 : decode cX5_takeCheapest 39 = .ok (.invokevirtual 27, 3) := by decide +kernel
theorem dX5_takeCheapest_42 : decode cX5_takeCheapest 42 = .ok (.iinc 2 1, 3) := by decide +kernel
theorem dX5_takeCheapest_45 : decode cX5_takeCheapest 45 = .ok (.goto (-12), 3) := by decide +kernel
theorem dX5_takeCheapest_48 : decode cX5_takeCheapest 48 = .ok (.return_, 1) := by decide +kernel
theorem dX5_takeNext_0 : decode cX5_takeNext 0 = .ok (.iconst (-1), 1) := by decide +kernel
theorem dX5_takeNext_1 : decode cX5_takeNext 1 = .ok (.istore_n 1, 1) := by decide +kernel
theorem dX5_takeNext_2 : decode cX5_takeNext 2 = .ok (.iconst 0, 1) := by decide +kernel
theorem dX5_takeNext_3 : decode cX5_takeNext 3 = .ok (.istore_n 2, 1) := by decide +kernel
theorem dX5_takeNext_4 : decode cX5_takeNext 4 = .ok (.iload_n 2, 1) := by decide +kernel
theorem dX5_takeNext_5 : decode cX5_takeNext 5 = .ok (.bipush 24, 2) := by decide +kernel
theorem dX5_takeNext_7 : decode cX5_takeNext 7 = .ok (.if_icmp .ge 40, 3) := by decide +kernel
theorem dX5_takeNext_10 : decode cX5_takeNext 10 = .ok (.aload_n 0, 1) := by decide +kernel
theorem dX5_takeNext_11 : decode cX5_takeNext 11 = .ok (.getfield 15, 3) := by decide +kernel
theorem dX5_takeNext_14 : decode cX5_takeNext 14 = .ok (.iload_n 2, 1) := by decide +kernel
theorem dX5_takeNext_15 : decode cX5_takeNext 15 = .ok (.baload, 1) := by decide +kernel
theorem dX5_takeNext_16 : decode cX5_takeNext 16 = .ok (.ifCond .ne 25, 3) := by decide +kernel
theorem dX5_takeNext_19 : decode cX5_takeNext 19 = .ok (.iload_n 1, 1) := by decide +kernel
theorem dX5_takeNext_20 : decode cX5_takeNext 20 = .ok (.iconst (-1), 1) := by decide +kernel
theorem dX5_takeNext_21 : decode cX5_takeNext 21 = .ok (.if_icmp .eq 18, 3) := by decide +kernel
theorem dX5_takeNext_24 : decode cX5_takeNext 24 = .ok (.aload_n 0, 1) := by decide +kernel
theorem dX5_takeNext_25 : decode cX5_takeNext 25 = .ok (.getfield 9, 3) := by decide +kernel
theorem dX5_takeNext_28 : decode cX5_takeNext 28 = .ok (.iload_n 2, 1) := by decide +kernel
theorem dX5_takeNext_29 : decode cX5_takeNext 29 = .ok (.iaload, 1) := by decide +kernel
theorem dX5_takeNext_30 : decode cX5_takeNext 30 = .ok (.aload_n 0, 1) := by decide +kernel
theorem dX5_takeNext_31 : decode cX5_takeNext 31 = .ok (.getfield 9, 3) := by decide +kernel
theorem dX5_takeNext_34 : decode cX5_takeNext 34 = .ok (.iload_n 1, 1) := by decide +kernel
theorem dX5_takeNext_35 : decode cX5_takeNext 35 = .ok (.iaload, 1) := by decide +kernel
theorem dX5_takeNext_36 : decode cX5_takeNext 36 = .ok (.if_icmp .ge 5, 3) := by decide +kernel
theorem dX5_takeNext_39 : decode cX5_takeNext 39 = .ok (.iload_n 2, 1) := by decide +kernel
theorem dX5_takeNext_40 : decode cX5_takeNext 40 = .ok (.istore_n 1, 1) := by decide +kernel
theorem dX5_takeNext_41 : decode cX5_takeNext 41 = .ok (.iinc 2 1, 3) := by decide +kernel
theorem dX5_takeNext_44 : decode cX5_takeNext 44 = .ok (.goto (-40), 3) := by decide +kernel
theorem dX5_takeNext_47 : decode cX5_takeNext 47 = .ok (.iload_n 1, 1) := by decide +kernel
theorem dX5_takeNext_48 : decode cX5_takeNext 48 = .ok (.iconst (-1), 1) := by decide +kernel
theorem dX5_takeNext_49 : decode cX5_takeNext 49 = .ok (.if_icmp .eq 25, 3) := by decide +kernel
theorem dX5_takeNext_52 : decode cX5_takeNext 52 = .ok (.aload_n 0, 1) := by decide +kernel
theorem dX5_takeNext_53 : decode cX5_takeNext 53 = .ok (.getfield 15, 3) := by decide +kernel
theorem dX5_takeNext_56 : decode cX5_takeNext 56 = .ok (.iload_n 1, 1) := by decide +kernel
theorem dX5_takeNext_57 : decode cX5_takeNext 57 = .ok (.iconst 1, 1) := by decide +kernel
theorem dX5_takeNext_58 : decode cX5_takeNext 58 = .ok (.bastore, 1) := by decide +kernel
theorem dX5_takeNext_59 : decode cX5_takeNext 59 = .ok (.aload_n 0, 1) := by decide +kernel
theorem dX5_takeNext_60 : decode cX5_takeNext 60 = .ok (.dup, 1) := by decide +kernel
theorem dX5_takeNext_61 : decode cX5_takeNext 61 = .ok (.getfield 23, 3) := by decide +kernel
theorem dX5_takeNext_64 : decode cX5_takeNext 64 = .ok (.aload_n 0, 1) := by decide +kernel
theorem dX5_takeNext_65 : decode cX5_takeNext 65 = .ok (.getfield 9, 3) := by decide +kernel
theorem dX5_takeNext_68 : decode cX5_takeNext 68 = .ok (.iload_n 1, 1) := by decide +kernel
theorem dX5_takeNext_69 : decode cX5_takeNext 69 = .ok (.iaload, 1) := by decide +kernel
theorem dX5_takeNext_70 : decode cX5_takeNext 70 = .ok (.iadd, 1) := by decide +kernel
theorem dX5_takeNext_71 : decode cX5_takeNext 71 = .ok (.putfield 23, 3) := by decide +kernel
theorem dX5_takeNext_74 : decode cX5_takeNext 74 = .ok (.return_, 1) := by decide +kernel
theorem dX6_init_0 : decode cX6_init 0 = .ok (.aload_n 0, 1) := by decide +kernel
theorem dX6_init_1 : decode cX6_init 1 = .ok (.invokespecial 3, 3) := by decide +kernel
theorem dX6_init_4 : decode cX6_init 4 = .ok (.aload_n 0, 1) := by decide +kernel
theorem dX6_init_5 : decode cX6_init 5 = .ok (.iconst 0, 1) := by decide +kernel
theorem dX6_init_6 : decode cX6_init 6 = .ok (.putfield 9, 3) := by decide +kernel
theorem dX6_init_9 : decode cX6_init 9 = .ok (.aload_n 0, 1) := by decide +kernel
theorem dX6_init_10 : decode cX6_init 10 = .ok (.bipush 100, 2) := by decide +kernel
theorem dX6_init_12 : decode cX6_init 12 = .ok (.putfield 15, 3) := by decide +kernel
theorem dX6_init_15 : decode cX6_init 15 = .ok (.return_, 1) := by decide +kernel
theorem dX6_takeMeasure_0 : decode cX6_takeMeasure 0 = .ok (.aload_n 0, 1) := by decide +kernel
theorem dX6_takeMeasure_1 : decode cX6_takeMeasure 1 = .ok (.iload_n 1, 1) := by decide +kernel
theorem dX6_takeMeasure_2 : decode cX6_takeMeasure 2 = .ok (.putfield 18, 3) := by decide +kernel
theorem dX6_takeMeasure_5 : decode cX6_takeMeasure 5 = .ok (.aload_n 0, 1) := by decide +kernel
theorem dX6_takeMeasure_6 : decode cX6_takeMeasure 6 = .ok (.iload_n 2, 1) := by decide +kernel
theorem dX6_takeMeasure_7 : decode cX6_takeMeasure 7 = .ok (.putfield 21, 3) := by decide +kernel
theorem dX6_takeMeasure_10 : decode cX6_takeMeasure 10 = .ok (.aload_n 0, 1) := by decide +kernel
theorem dX6_takeMeasure_11 : decode cX6_takeMeasure 11 = .ok (.iconst 1, 1) := by decide +kernel
theorem dX6_takeMeasure_12 : decode cX6_takeMeasure 12 = .ok (.putfield 24, 3) := by decide +kernel
theorem dX6_takeMeasure_15 : decode cX6_takeMeasure 15 = .ok (.return_, 1) := by decide +kernel
theorem dX6_isRight_0 : decode cX6_isRight 0 = .ok (.aload_n 0, 1) := by decide +kernel
theorem dX6_isRight_1 : decode cX6_isRight 1 = .ok (.getfield 24, 3) := by decide +kernel
theorem dX6_isRight_4 : decode cX6_isRight 4 = .ok (.ifCond .eq 25, 3) := by decide +kernel
theorem dX6_isRight_7 : decode cX6_isRight 7 = .ok (.aload_n 0, 1) := by decide +kernel
theorem dX6_isRight_8 : decode cX6_isRight 8 = .ok (.getfield 18, 3) := by decide +kernel
theorem dX6_isRight_11 : decode cX6_isRight 11 = .ok (.aload_n 0, 1) := by decide +kernel
theorem dX6_isRight_12 : decode cX6_isRight 12 = .ok (.getfield 9, 3) := by decide +kernel
theorem dX6_isRight_15 : decode cX6_isRight 15 = .ok (.if_icmp .lt 18, 3) := by decide +kernel
theorem dX6_isRight_18 : decode cX6_isRight 18 = .ok (.aload_n 0, 1) := by decide +kernel
theorem dX6_isRight_19 : decode cX6_isRight 19 = .ok (.getfield 18, 3) := by decide +kernel
theorem dX6_isRight_22 : decode cX6_isRight 22 = .ok (.aload_n 0, 1) := by decide +kernel
theorem dX6_isRight_23 : decode cX6_isRight 23 = .ok (.getfield 15, 3) := by decide +kernel
theorem dX6_isRight_26 : decode cX6_isRight 26 = .ok (.if_icmp .gt 7, 3) := by decide +kernel
theorem dX6_isRight_29 : decode cX6_isRight 29 = .ok (.iconst 1, 1) := by decide +kernel
theorem dX6_isRight_30 : decode cX6_isRight 30 = .ok (.goto 4, 3) := by decide +kernel
theorem dX6_isRight_33 : decode cX6_isRight 33 = .ok (.iconst 0, 1) := by decide +kernel
theorem dX6_isRight_34 : decode cX6_isRight 34 = .ok (.ireturn, 1) := by decide +kernel
theorem dX6_isStale_0 : decode cX6_isStale 0 = .ok (.iload_n 1, 1) := by decide +kernel
theorem dX6_isStale_1 : decode cX6_isStale 1 = .ok (.aload_n 0, 1) := by decide +kernel
theorem dX6_isStale_2 : decode cX6_isStale 2 = .ok (.getfield 21, 3) := by decide +kernel
theorem dX6_isStale_5 : decode cX6_isStale 5 = .ok (.isub, 1) := by decide +kernel
theorem dX6_isStale_6 : decode cX6_isStale 6 = .ok (.bipush 120, 2) := by decide +kernel
theorem dX6_isStale_8 : decode cX6_isStale 8 = .ok (.if_icmp .lt 7, 3) := by decide +kernel
theorem dX6_isStale_11 : decode cX6_isStale 11 = .ok (.iconst 1, 1) := by decide +kernel
theorem dX6_isStale_12 : decode cX6_isStale 12 = .ok (.goto 4, 3) := by decide +kernel
theorem dX6_isStale_15 : decode cX6_isStale 15 = .ok (.iconst 0, 1) := by decide +kernel
theorem dX6_isStale_16 : decode cX6_isStale 16 = .ok (.ireturn, 1) := by decide +kernel
theorem dX7_init_0 : decode cX7_init 0 = .ok (.aload_n 0, 1) := by decide +kernel
theorem dX7_init_1 : decode cX7_init 1 = .ok (.invokespecial 3, 3) := by decide +kernel
theorem dX7_init_4 : decode cX7_init 4 = .ok (.aload_n 0, 1) := by decide +kernel
theorem dX7_init_5 : decode cX7_init 5 = .ok (.iconst (-1), 1) := by decide +kernel
theorem dX7_init_6 : decode cX7_init 6 = .ok (.putfield 9, 3) := by decide +kernel
theorem dX7_init_9 : decode cX7_init 9 = .ok (.aload_n 0, 1) := by decide +kernel
theorem dX7_init_10 : decode cX7_init 10 = .ok (.iconst (-1), 1) := by decide +kernel
theorem dX7_init_11 : decode cX7_init 11 = .ok (.putfield 15, 3) := by decide +kernel
theorem dX7_init_14 : decode cX7_init 14 = .ok (.aload_n 0, 1) := by decide +kernel
theorem dX7_init_15 : decode cX7_init 15 = .ok (.bipush (-20), 2) := by decide +kernel
theorem dX7_init_17 : decode cX7_init 17 = .ok (.putfield 18, 3) := by decide +kernel
theorem dX7_init_20 : decode cX7_init 20 = .ok (.aload_n 0, 1) := by decide +kernel
theorem dX7_init_21 : decode cX7_init 21 = .ok (.iload_n 1, 1) := by decide +kernel
theorem dX7_init_22 : decode cX7_init 22 = .ok (.putfield 21, 3) := by decide +kernel
theorem dX7_init_25 : decode cX7_init 25 = .ok (.aload_n 0, 1) := by decide +kernel
theorem dX7_init_26 : decode cX7_init 26 = .ok (.aload_n 2, 1) := by decide +kernel
theorem dX7_init_27 : decode cX7_init 27 = .ok (.putfield 24, 3) := by decide +kernel
theorem dX7_init_30 : decode cX7_init 30 = .ok (.aload_n 0, 1) := by decide +kernel
theorem dX7_init_31 : decode cX7_init 31 = .ok (.iload_n 3, 1) := by decide +kernel
theorem dX7_init_32 : decode cX7_init 32 = .ok (.putfield 28, 3) := by decide +kernel
theorem dX7_init_35 : decode cX7_init 35 = .ok (.aload_n 0, 1) := by decide +kernel
theorem dX7_init_36 : decode cX7_init 36 = .ok (.iload 4, 2) := by decide +kernel
theorem dX7_init_38 : decode cX7_init 38 = .ok (.putfield 31, 3) := by decide +kernel
theorem dX7_init_41 : decode cX7_init 41 = .ok (.aload_n 0, 1) := by decide +kernel
theorem dX7_init_42 : decode cX7_init 42 = .ok (.aload 5, 2) := by decide +kernel
theorem dX7_init_44 : decode cX7_init 44 = .ok (.putfield 34, 3) := by decide +kernel
theorem dX7_init_47 : decode cX7_init 47 = .ok (.aload_n 0, 1) := by decide +kernel
theorem dX7_init_48 : decode cX7_init 48 = .ok (.iload 6, 2) := by decide +kernel
theorem dX7_init_50 : decode cX7_init 50 = .ok (.putfield 38, 3) := by decide +kernel
theorem dX7_init_53 : decode cX7_init 53 = .ok (.return_, 1) := by decide +kernel
theorem dX7_isItsTime_0 : decode cX7_isItsTime 0 = .ok (.aload_n 0, 1) := by decide +kernel
theorem dX7_isItsTime_1 : decode cX7_isItsTime 1 = .ok (.getfield 34, 3) := by decide +kernel
theorem dX7_isItsTime_4 : decode cX7_isItsTime 4 = .ok (.ifnull 12, 3) := by decide +kernel
theorem dX7_isItsTime_7 : decode cX7_isItsTime 7 = .ok (.aload_n 0, 1) := by decide +kernel
theorem dX7_isItsTime_8 : decode cX7_isItsTime 8 = .ok (.getfield 34, 3) := by decide +kernel
theorem dX7_isItsTime_11 : decode cX7_isItsTime 11 = .ok (.iload_n 1, 1) := by decide +kernel
theorem dX7_isItsTime_12 : decode cX7_isItsTime 12 = .ok (.invokevirtual 42, 3) := by decide +kernel
theorem dX7_isItsTime_15 : decode cX7_isItsTime 15 = .ok (.ireturn, 1) := by decide +kernel
theorem dX7_isItsTime_16 : decode cX7_isItsTime 16 = .ok (.aload_n 0, 1) := by decide +kernel
theorem dX7_isItsTime_17 : decode cX7_isItsTime 17 = .ok (.getfield 28, 3) := by decide +kernel
theorem dX7_isItsTime_20 : decode cX7_isItsTime 20 = .ok (.iconst 4, 1) := by decide +kernel
theorem dX7_isItsTime_21 : decode cX7_isItsTime 21 = .ok (.if_icmp .ne 10, 3) := by decide +kernel
theorem dX7_isItsTime_24 : decode cX7_isItsTime 24 = .ok (.aload_n 0, 1) := by decide +kernel
theorem dX7_isItsTime_25 : decode cX7_isItsTime 25 = .ok (.getfield 48, 3) := by decide +kernel
theorem dX7_isItsTime_28 : decode cX7_isItsTime 28 = .ok (.ifCond .ne 7, 3) := by decide +kernel
theorem dX7_isItsTime_31 : decode cX7_isItsTime 31 = .ok (.iconst 1, 1) := by decide +kernel
theorem dX7_isItsTime_32 : decode cX7_isItsTime 32 = .ok (.goto 4, 3) := by decide +kernel
theorem dX7_isItsTime_35 : decode cX7_isItsTime 35 = .ok (.iconst 0, 1) := by decide +kernel
theorem dX7_isItsTime_36 : decode cX7_isItsTime 36 = .ok (.ireturn, 1) := by decide +kernel
theorem dX7_lacksTeacher_0 : decode cX7_lacksTeacher 0 = .ok (.aload_n 0, 1) := by decide +kernel
theorem dX7_lacksTeacher_1 : decode cX7_lacksTeacher 1 = .ok (.getfield 28, 3) := by decide +kernel
theorem dX7_lacksTeacher_4 : decode cX7_lacksTeacher 4 = .ok (.iconst 3, 1) := by decide +kernel
theorem dX7_lacksTeacher_5 : decode cX7_lacksTeacher 5 = .ok (.if_icmp .ne 48, 3) := by decide +kernel
theorem dX7_lacksTeacher_8 : decode cX7_lacksTeacher 8 = .ok (.aload_n 0, 1) := by decide +kernel
theorem dX7_lacksTeacher_9 : decode cX7_lacksTeacher 9 = .ok (.getfield 34, 3) := by decide +kernel
theorem dX7_lacksTeacher_12 : decode cX7_lacksTeacher 12 = .ok (.ifnull 41, 3) := by decide +kernel
theorem dX7_lacksTeacher_15 : decode cX7_lacksTeacher 15 = .ok (.aload_n 0, 1) := by decide +kernel
theorem dX7_lacksTeacher_16 : decode cX7_lacksTeacher 16 = .ok (.getfield 38, 3) := by decide +kernel
theorem dX7_lacksTeacher_19 : decode cX7_lacksTeacher 19 = .ok (.ifCond .ne 34, 3) := by decide +kernel
theorem dX7_lacksTeacher_22 : decode cX7_lacksTeacher 22 = .ok (.aload_n 0, 1) := by decide +kernel
theorem dX7_lacksTeacher_23 : decode cX7_lacksTeacher 23 = .ok (.getfield 34, 3) := by decide +kernel
theorem dX7_lacksTeacher_26 : decode cX7_lacksTeacher 26 = .ok (.getfield 51, 3) := by decide +kernel
theorem dX7_lacksTeacher_29 : decode cX7_lacksTeacher 29 = .ok (.iconst 1, 1) := by decide +kernel
theorem dX7_lacksTeacher_30 : decode cX7_lacksTeacher 30 = .ok (.iadd, 1) := by decide +kernel
theorem dX7_lacksTeacher_31 : decode cX7_lacksTeacher 31 = .ok (.aload_n 0, 1) := by decide +kernel
theorem dX7_lacksTeacher_32 : decode cX7_lacksTeacher 32 = .ok (.getfield 34, 3) := by decide +kernel
theorem dX7_lacksTeacher_35 : decode cX7_lacksTeacher 35 = .ok (.getfield 54, 3) := by decide +kernel
theorem dX7_lacksTeacher_38 : decode cX7_lacksTeacher 38 = .ok (.aload_n 0, 1) := by decide +kernel
theorem dX7_lacksTeacher_39 : decode cX7_lacksTeacher 39 = .ok (.getfield 34, 3) := by decide +kernel
theorem dX7_lacksTeacher_42 : decode cX7_lacksTeacher 42 = .ok (.getfield 57, 3) := by decide +kernel
theorem dX7_lacksTeacher_45 : decode cX7_lacksTeacher 45 = .ok (.imul, 1) := by decide +kernel
theorem dX7_lacksTeacher_46 : decode cX7_lacksTeacher 46 = .ok (.if_icmp .le 7, 3) := by decide +kernel
theorem dX7_lacksTeacher_49 : decode cX7_lacksTeacher 49 = .ok (.iconst 1, 1) := by decide +kernel
theorem dX7_lacksTeacher_50 : decode cX7_lacksTeacher 50 = .ok (.goto 4, 3) := by decide +kernel
theorem dX7_lacksTeacher_53 : decode cX7_lacksTeacher 53 = .ok (.iconst 0, 1) := by decide +kernel
theorem dX7_lacksTeacher_54 : decode cX7_lacksTeacher 54 = .ok (.ireturn, 1) := by decide +kernel
theorem dX7_comeIn_0 : decode cX7_comeIn 0 = .ok (.aload_n 0, 1) := by decide +kernel
theorem dX7_comeIn_1 : decode cX7_comeIn 1 = .ok (.iconst 1, 1) := by decide +kernel
theorem dX7_comeIn_2 : decode cX7_comeIn 2 = .ok (.putfield 60, 3) := by decide +kernel
theorem dX7_comeIn_5 : decode cX7_comeIn 5 = .ok (.aload_n 0, 1) := by decide +kernel
theorem dX7_comeIn_6 : decode cX7_comeIn 6 = .ok (.iload_n 1, 1) := by decide +kernel
theorem dX7_comeIn_7 : decode cX7_comeIn 7 = .ok (.putfield 9, 3) := by decide +kernel
theorem dX7_comeIn_10 : decode cX7_comeIn 10 = .ok (.aload_n 0, 1) := by decide +kernel
theorem dX7_comeIn_11 : decode cX7_comeIn 11 = .ok (.aload_n 0, 1) := by decide +kernel
theorem dX7_comeIn_12 : decode cX7_comeIn 12 = .ok (.getfield 34, 3) := by decide +kernel
theorem dX7_comeIn_15 : decode cX7_comeIn 15 = .ok (.ifnull 15, 3) := by decide +kernel
theorem dX7_comeIn_18 : decode cX7_comeIn 18 = .ok (.aload_n 0, 1) := by decide +kernel
theorem dX7_comeIn_19 : decode cX7_comeIn 19 = .ok (.getfield 34, 3) := by decide +kernel
theorem dX7_comeIn_22 : decode cX7_comeIn 22 = .ok (.getfield 63, 3) := by decide +kernel
theorem dX7_comeIn_25 : decode cX7_comeIn 25 = .ok (.iload_n 1, 1) := by decide +kernel
theorem dX7_comeIn_26 : decode cX7_comeIn 26 = .ok (.isub, 1) := by decide +kernel
theorem dX7_comeIn_27 : decode cX7_comeIn 27 = .ok (.goto 7, 3) := by decide +kernel
theorem dX7_comeIn_30 : decode cX7_comeIn 30 = .ok (.aload_n 0, 1) := by decide +kernel
theorem dX7_comeIn_31 : decode cX7_comeIn 31 = .ok (.getfield 31, 3) := by decide +kernel
theorem dX7_comeIn_34 : decode cX7_comeIn 34 = .ok (.putfield 66, 3) := by decide +kernel
theorem dX7_comeIn_37 : decode cX7_comeIn 37 = .ok (.aload_n 0, 1) := by decide +kernel
theorem dX7_comeIn_38 : decode cX7_comeIn 38 = .ok (.dup, 1) := by decide +kernel
theorem dX7_comeIn_39 : decode cX7_comeIn 39 = .ok (.getfield 48, 3) := by decide +kernel
theorem dX7_comeIn_42 : decode cX7_comeIn 42 = .ok (.iconst 1, 1) := by decide +kernel
theorem dX7_comeIn_43 : decode cX7_comeIn 43 = .ok (.iadd, 1) := by decide +kernel
theorem dX7_comeIn_44 : decode cX7_comeIn 44 = .ok (.putfield 48, 3) := by decide +kernel
theorem dX7_comeIn_47 : decode cX7_comeIn 47 = .ok (.aload_n 0, 1) := by decide +kernel
theorem dX7_comeIn_48 : decode cX7_comeIn 48 = .ok (.getfield 34, 3) := by decide +kernel
theorem dX7_comeIn_51 : decode cX7_comeIn 51 = .ok (.ifnull 15, 3) := by decide +kernel
theorem dX7_comeIn_54 : decode cX7_comeIn 54 = .ok (.aload_n 0, 1) := by decide +kernel
theorem dX7_comeIn_55 : decode cX7_comeIn 55 = .ok (.getfield 34, 3) := by decide +kernel
theorem dX7_comeIn_58 : decode cX7_comeIn 58 = .ok (.aload_n 0, 1) := by decide +kernel
theorem dX7_comeIn_59 : decode cX7_comeIn 59 = .ok (.getfield 38, 3) := by decide +kernel
theorem dX7_comeIn_62 : decode cX7_comeIn 62 = .ok (.iconst 1, 1) := by decide +kernel
theorem dX7_comeIn_63 : decode cX7_comeIn 63 = .ok (.invokevirtual 69, 3) := by decide +kernel
theorem dX7_comeIn_66 : decode cX7_comeIn 66 = .ok (.return_, 1) := by decide +kernel
theorem dX7_goOut_0 : decode cX7_goOut 0 = .ok (.aload_n 0, 1) := by decide +kernel
theorem dX7_goOut_1 : decode cX7_goOut 1 = .ok (.iconst 0, 1) := by decide +kernel
theorem dX7_goOut_2 : decode cX7_goOut 2 = .ok (.putfield 60, 3) := by decide +kernel
theorem dX7_goOut_5 : decode cX7_goOut 5 = .ok (.aload_n 0, 1) := by decide +kernel
theorem dX7_goOut_6 : decode cX7_goOut 6 = .ok (.dup, 1) := by decide +kernel
theorem dX7_goOut_7 : decode cX7_goOut 7 = .ok (.getfield 73, 3) := by decide +kernel
theorem dX7_goOut_10 : decode cX7_goOut 10 = .ok (.iload_n 2, 1) := by decide +kernel
theorem dX7_goOut_11 : decode cX7_goOut 11 = .ok (.iadd, 1) := by decide +kernel
theorem dX7_goOut_12 : decode cX7_goOut 12 = .ok (.putfield 73, 3) := by decide +kernel
theorem dX7_goOut_15 : decode cX7_goOut 15 = .ok (.aload_n 0, 1) := by decide +kernel
theorem dX7_goOut_16 : decode cX7_goOut 16 = .ok (.getfield 34, 3) := by decide +kernel
theorem dX7_goOut_19 : decode cX7_goOut 19 = .ok (.ifnull 15, 3) := by decide +kernel
theorem dX7_goOut_22 : decode cX7_goOut 22 = .ok (.aload_n 0, 1) := by decide +kernel
theorem dX7_goOut_23 : decode cX7_goOut 23 = .ok (.getfield 34, 3) := by decide +kernel
theorem dX7_goOut_26 : decode cX7_goOut 26 = .ok (.aload_n 0, 1) := by decide +kernel
theorem dX7_goOut_27 : decode cX7_goOut 27 = .ok (.getfield 38, 3) := by decide +kernel
theorem dX7_goOut_30 : decode cX7_goOut 30 = .ok (.iconst (-1), 1) := by decide +kernel
theorem dX7_goOut_31 : decode cX7_goOut 31 = .ok (.invokevirtual 69, 3) := by decide +kernel
theorem dX7_goOut_34 : decode cX7_goOut 34 = .ok (.aload_n 0, 1) := by decide +kernel
theorem dX7_goOut_35 : decode cX7_goOut 35 = .ok (.iload_n 1, 1) := by decide +kernel
theorem dX7_goOut_36 : decode cX7_goOut 36 = .ok (.invokevirtual 76, 3) := by decide +kernel
theorem dX7_goOut_39 : decode cX7_goOut 39 = .ok (.return_, 1) := by decide +kernel
theorem dX7_minutesLeft_0 : decode cX7_minutesLeft 0 = .ok (.aload_n 0, 1) := by decide +kernel
theorem dX7_minutesLeft_1 : decode cX7_minutesLeft 1 = .ok (.getfield 60, 3) := by decide +kernel
theorem dX7_minutesLeft_4 : decode cX7_minutesLeft 4 = .ok (.ifCond .eq 18, 3) := by decide +kernel
theorem dX7_minutesLeft_7 : decode cX7_minutesLeft 7 = .ok (.aload_n 0, 1) := by decide +kernel
theorem dX7_minutesLeft_8 : decode cX7_minutesLeft 8 = .ok (.getfield 28, 3) := by decide +kernel
theorem dX7_minutesLeft_11 : decode cX7_minutesLeft 11 = .ok (.iconst 1, 1) := by decide +kernel
theorem dX7_minutesLeft_12 : decode cX7_minutesLeft 12 = .ok (.if_icmp .eq 12, 3) := by decide +kernel
theorem dX7_minutesLeft_15 : decode cX7_minutesLeft 15 = .ok (.aload_n 0, 1) := by decide +kernel
theorem dX7_minutesLeft_16 : decode cX7_minutesLeft 16 = .ok (.getfield 34, 3) := by decide +kernel
theorem dX7_minutesLeft_19 : decode cX7_minutesLeft 19 = .ok (.ifnonnull 5, 3) := by decide +kernel
theorem dX7_minutesLeft_22 : decode cX7_minutesLeft 22 = .ok (.iconst 0, 1) := by decide +kernel
theorem dX7_minutesLeft_23 : decode cX7_minutesLeft 23 = .ok (.ireturn, 1) := by decide +kernel
theorem dX7_minutesLeft_24 : decode cX7_minutesLeft 24 = .ok (.aload_n 0, 1) := by decide +kernel
theorem dX7_minutesLeft_25 : decode cX7_minutesLeft 25 = .ok (.getfield 9, 3) := by decide +kernel
theorem dX7_minutesLeft_28 : decode cX7_minutesLeft 28 = .ok (.aload_n 0, 1) := by decide +kernel
theorem dX7_minutesLeft_29 : decode cX7_minutesLeft 29 = .ok (.getfield 66, 3) := by decide +kernel
theorem dX7_minutesLeft_32 : decode cX7_minutesLeft 32 = .ok (.iadd, 1) := by decide +kernel
theorem dX7_minutesLeft_33 : decode cX7_minutesLeft 33 = .ok (.iload_n 1, 1) := by decide +kernel
theorem dX7_minutesLeft_34 : decode cX7_minutesLeft 34 = .ok (.isub, 1) := by decide +kernel
theorem dX7_minutesLeft_35 : decode cX7_minutesLeft 35 = .ok (.iconst 1, 1) := by decide +kernel
theorem dX7_minutesLeft_36 : decode cX7_minutesLeft 36 = .ok (.isub, 1) := by decide +kernel
theorem dX7_minutesLeft_37 : decode cX7_minutesLeft 37 = .ok (.ireturn, 1) := by decide +kernel
theorem dX7_owes_0 : decode cX7_owes 0 = .ok (.aload_n 0, 1) := by decide +kernel
theorem dX7_owes_1 : decode cX7_owes 1 = .ok (.iload_n 1, 1) := by decide +kernel
theorem dX7_owes_2 : decode cX7_owes 2 = .ok (.invokevirtual 80, 3) := by decide +kernel
theorem dX7_owes_5 : decode cX7_owes 5 = .ok (.ineg, 1) := by decide +kernel
theorem dX7_owes_6 : decode cX7_owes 6 = .ok (.istore_n 2, 1) := by decide +kernel
theorem dX7_owes_7 : decode cX7_owes 7 = .ok (.iload_n 2, 1) := by decide +kernel
theorem dX7_owes_8 : decode cX7_owes 8 = .ok (.ifCond .le 18, 3) := by decide +kernel
theorem dX7_owes_11 : decode cX7_owes 11 = .ok (.iload_n 2, 1) := by decide +kernel
theorem dX7_owes_12 : decode cX7_owes 12 = .ok (.bipush 15, 2) := by decide +kernel
theorem dX7_owes_14 : decode cX7_owes 14 = .ok (.iadd, 1) := by decide +kernel
theorem dX7_owes_15 : decode cX7_owes 15 = .ok (.iconst 1, 1) := by decide +kernel
theorem dX7_owes_16 : decode cX7_owes 16 = .ok (.isub, 1) := by decide +kernel
theorem dX7_owes_17 : decode cX7_owes 17 = .ok (.bipush 15, 2) := by decide +kernel
theorem dX7_owes_19 : decode cX7_owes 19 = .ok (.idiv, 1) := by decide +kernel
theorem dX7_owes_20 : decode cX7_owes 20 = .ok (.bipush 20, 2) := by decide +kernel
theorem dX7_owes_22 : decode cX7_owes 22 = .ok (.imul, 1) := by decide +kernel
theorem dX7_owes_23 : decode cX7_owes 23 = .ok (.goto 4, 3) := by decide +kernel
theorem dX7_owes_26 : decode cX7_owes 26 = .ok (.iconst 0, 1) := by decide +kernel
theorem dX7_owes_27 : decode cX7_owes 27 = .ok (.ireturn, 1) := by decide +kernel
theorem dX7_mayStand_0 : decode cX7_mayStand 0 = .ok (.aload_n 0, 1) := by decide +kernel
theorem dX7_mayStand_1 : decode cX7_mayStand 1 = .ok (.getfield 28, 3) := by decide +kernel
theorem dX7_mayStand_4 : decode cX7_mayStand 4 = .ok (.iconst 5, 1) := by decide +kernel
theorem dX7_mayStand_5 : decode cX7_mayStand 5 = .ok (.if_icmp .ne 32, 3) := by decide +kernel
theorem dX7_mayStand_8 : decode cX7_mayStand 8 = .ok (.aload_n 0, 1) := by decide +kernel
theorem dX7_mayStand_9 : decode cX7_mayStand 9 = .ok (.getfield 60, 3) := by decide +kernel
theorem dX7_mayStand_12 : decode cX7_mayStand 12 = .ok (.ifCond .eq 25, 3) := by decide +kernel
theorem dX7_mayStand_15 : decode cX7_mayStand 15 = .ok (.aload_n 0, 1) := by decide +kernel
theorem dX7_mayStand_16 : decode cX7_mayStand 16 = .ok (.getfield 84, 3) := by decide +kernel
theorem dX7_mayStand_19 : decode cX7_mayStand 19 = .ok (.ifnonnull 18, 3) := by decide +kernel
theorem dX7_mayStand_22 : decode cX7_mayStand 22 = .ok (.iload_n 1, 1) := by decide +kernel
theorem dX7_mayStand_23 : decode cX7_mayStand 23 = .ok (.aload_n 0, 1) := by decide +kernel
theorem dX7_mayStand_24 : decode cX7_mayStand 24 = .ok (.getfield 18, 3) := by decide +kernel
theorem dX7_mayStand_27 : decode cX7_mayStand 27 = .ok (.isub, 1) := by decide +kernel
theorem dX7_mayStand_28 : decode cX7_mayStand 28 = .ok (.bipush 20, 2) := by decide +kernel
theorem dX7_mayStand_30 : decode cX7_mayStand 30 = .ok (.if_icmp .lt 7, 3) := by decide +kernel
theorem dX7_mayStand_33 : decode cX7_mayStand 33 = .ok (.iconst 1, 1) := by decide +kernel
theorem dX7_mayStand_34 : decode cX7_mayStand 34 = .ok (.goto 4, 3) := by decide +kernel
theorem dX7_mayStand_37 : decode cX7_mayStand 37 = .ok (.iconst 0, 1) := by decide +kernel
theorem dX7_mayStand_38 : decode cX7_mayStand 38 = .ok (.ireturn, 1) := by decide +kernel
theorem dX7_standAt_0 : decode cX7_standAt 0 = .ok (.aload_n 0, 1) := by decide +kernel
theorem dX7_standAt_1 : decode cX7_standAt 1 = .ok (.aload_n 1, 1) := by decide +kernel
theorem dX7_standAt_2 : decode cX7_standAt 2 = .ok (.putfield 84, 3) := by decide +kernel
theorem dX7_standAt_5 : decode cX7_standAt 5 = .ok (.aload_n 1, 1) := by decide +kernel
theorem dX7_standAt_6 : decode cX7_standAt 6 = .ok (.aload_n 0, 1) := by decide +kernel
theorem dX7_standAt_7 : decode cX7_standAt 7 = .ok (.putfield 88, 3) := by decide +kernel
theorem dX7_standAt_10 : decode cX7_standAt 10 = .ok (.aload_n 1, 1) := by decide +kernel
theorem dX7_standAt_11 : decode cX7_standAt 11 = .ok (.iload_n 2, 1) := by decide +kernel
theorem dX7_standAt_12 : decode cX7_standAt 12 = .ok (.putfield 94, 3) := by decide +kernel
theorem dX7_standAt_15 : decode cX7_standAt 15 = .ok (.return_, 1) := by decide +kernel
theorem dX7_leavePost_0 : decode cX7_leavePost 0 = .ok (.aload_n 0, 1) := by decide +kernel
theorem dX7_leavePost_1 : decode cX7_leavePost 1 = .ok (.getfield 84, 3) := by decide +kernel
theorem dX7_leavePost_4 : decode cX7_leavePost 4 = .ok (.ifnull 21, 3) := by decide +kernel
theorem dX7_leavePost_7 : decode cX7_leavePost 7 = .ok (.aload_n 0, 1) := by decide +kernel
theorem dX7_leavePost_8 : decode cX7_leavePost 8 = .ok (.getfield 84, 3) := by decide +kernel
theorem dX7_leavePost_11 : decode cX7_leavePost 11 = .ok (.aconst_null, 1) := by decide +kernel
theorem dX7_leavePost_12 : decode cX7_leavePost 12 = .ok (.putfield 88, 3) := by decide +kernel
theorem dX7_leavePost_15 : decode cX7_leavePost 15 = .ok (.aload_n 0, 1) := by decide +kernel
theorem dX7_leavePost_16 : decode cX7_leavePost 16 = .ok (.aconst_null, 1) := by decide +kernel
theorem dX7_leavePost_17 : decode cX7_leavePost 17 = .ok (.putfield 84, 3) := by decide +kernel
theorem dX7_leavePost_20 : decode cX7_leavePost 20 = .ok (.aload_n 0, 1) := by decide +kernel
theorem dX7_leavePost_21 : decode cX7_leavePost 21 = .ok (.iload_n 1, 1) := by decide +kernel
theorem dX7_leavePost_22 : decode cX7_leavePost 22 = .ok (.putfield 18, 3) := by decide +kernel
theorem dX7_leavePost_25 : decode cX7_leavePost 25 = .ok (.return_, 1) := by decide +kernel
theorem dX8_init_0 : decode cX8_init 0 = .ok (.aload_n 0, 1) := by decide +kernel
theorem dX8_init_1 : decode cX8_init 1 = .ok (.invokespecial 1, 3) := by decide +kernel
theorem dX8_init_4 : decode cX8_init 4 = .ok (.aload_n 0, 1) := by decide +kernel
theorem dX8_init_5 : decode cX8_init 5 = .ok (.iconst 4, 1) := by decide +kernel
theorem dX8_init_6 : decode cX8_init 6 = .ok (.anewarray 9, 3) := by decide +kernel
theorem dX8_init_9 : decode cX8_init 9 = .ok (.putfield 11, 3) := by decide +kernel
theorem dX8_init_12 : decode cX8_init 12 = .ok (.aload_n 0, 1) := by decide +kernel
theorem dX8_init_13 : decode cX8_init 13 = .ok (.sipush 200, 3) := by decide +kernel
theorem dX8_init_16 : decode cX8_init 16 = .ok (.anewarray 15, 3) := by decide +kernel
theorem dX8_init_19 : decode cX8_init 19 = .ok (.putfield 17, 3) := by decide +kernel
theorem dX8_init_22 : decode cX8_init 22 = .ok (.aload_n 0, 1) := by decide +kernel
theorem dX8_init_23 : decode cX8_init 23 = .ok (.bipush 20, 2) := by decide +kernel
theorem dX8_init_25 : decode cX8_init 25 = .ok (.anewarray 21, 3) := by decide +kernel
theorem dX8_init_28 : decode cX8_init 28 = .ok (.putfield 23, 3) := by decide +kernel
theorem dX8_init_31 : decode cX8_init 31 = .ok (.aload_n 0, 1) := by decide +kernel
theorem dX8_init_32 : decode cX8_init 32 = .ok (.new 27, 3) := by decide +kernel
theorem dX8_init_35 : decode cX8_init 35 = .ok (.dup, 1) := by decide +kernel
theorem dX8_init_36 : decode cX8_init 36 = .ok (.invokespecial 29, 3) := by decide +kernel
theorem dX8_init_39 : decode cX8_init 39 = .ok (.putfield 30, 3) := by decide +kernel
theorem dX8_init_42 : decode cX8_init 42 = .ok (.aload_n 0, 1) := by decide +kernel
theorem dX8_init_43 : decode cX8_init 43 = .ok (.new 34, 3) := by decide +kernel
theorem dX8_init_46 : decode cX8_init 46 = .ok (.dup, 1) := by decide +kernel
theorem dX8_init_47 : decode cX8_init 47 = .ok (.invokespecial 36, 3) := by decide +kernel
theorem dX8_init_50 : decode cX8_init 50 = .ok (.putfield 37, 3) := by decide +kernel
theorem dX8_init_53 : decode cX8_init 53 = .ok (.aload_n 0, 1) := by decide +kernel
theorem dX8_init_54 : decode cX8_init 54 = .ok (.iconst (-1), 1) := by decide +kernel
theorem dX8_init_55 : decode cX8_init 55 = .ok (.putfield 41, 3) := by decide +kernel
theorem dX8_init_58 : decode cX8_init 58 = .ok (.return_, 1) := by decide +kernel
theorem dX8_pool_0 : decode cX8_pool 0 = .ok (.aload_n 0, 1) := by decide +kernel
theorem dX8_pool_1 : decode cX8_pool 1 = .ok (.getfield 45, 3) := by decide +kernel
theorem dX8_pool_4 : decode cX8_pool 4 = .ok (.ifCond .ne 21, 3) := by decide +kernel
theorem dX8_pool_7 : decode cX8_pool 7 = .ok (.iload_n 1, 1) := by decide +kernel
theorem dX8_pool_8 : decode cX8_pool 8 = .ok (.iconst 0, 1) := by decide +kernel
theorem dX8_pool_9 : decode cX8_pool 9 = .ok (.iconst 3, 1) := by decide +kernel
theorem dX8_pool_10 : decode cX8_pool 10 = .ok (.invokestatic 48, 3) := by decide +kernel
theorem dX8_pool_13 : decode cX8_pool 13 = .ok (.ifCond .eq 12, 3) := by decide +kernel
theorem dX8_pool_16 : decode cX8_pool 16 = .ok (.aload_n 0, 1) := by decide +kernel
theorem dX8_pool_17 : decode cX8_pool 17 = .ok (.getfield 11, 3) := by decide +kernel
theorem dX8_pool_20 : decode cX8_pool 20 = .ok (.iload_n 1, 1) := by decide +kernel
theorem dX8_pool_21 : decode cX8_pool 21 = .ok (.aaload, 1) := by decide +kernel
theorem dX8_pool_22 : decode cX8_pool 22 = .ok (.ifnull 5, 3) := by decide +kernel
theorem dX8_pool_25 : decode cX8_pool 25 = .ok (.iconst 0, 1) := by decide +kernel
theorem dX8_pool_26 : decode cX8_pool 26 = .ok (.ireturn, 1) := by decide +kernel
theorem dX8_pool_27 : decode cX8_pool 27 = .ok (.iload_n 2, 1) := by decide +kernel
theorem dX8_pool_28 : decode cX8_pool 28 = .ok (.iconst 1, 1) := by decide +kernel
theorem dX8_pool_29 : decode cX8_pool 29 = .ok (.sipush 200, 3) := by decide +kernel
theorem dX8_pool_32 : decode cX8_pool 32 = .ok (.invokestatic 48, 3) := by decide +kernel
theorem dX8_pool_35 : decode cX8_pool 35 = .ok (.ifCond .eq 23, 3) := by decide +kernel
theorem dX8_pool_38 : decode cX8_pool 38 = .ok (.iload_n 3, 1) := by decide +kernel
theorem dX8_pool_39 : decode cX8_pool 39 = .ok (.iconst 1, 1) := by decide +kernel
theorem dX8_pool_40 : decode cX8_pool 40 = .ok (.bipush 8, 2) := by decide +kernel
theorem dX8_pool_42 : decode cX8_pool 42 = .ok (.invokestatic 48, 3) := by decide +kernel
theorem dX8_pool_45 : decode cX8_pool 45 = .ok (.ifCond .eq 13, 3) := by decide +kernel
theorem dX8_pool_48 : decode cX8_pool 48 = .ok (.iload 4, 2) := by decide +kernel
theorem dX8_pool_50 : decode cX8_pool 50 = .ok (.iconst 0, 1) := by decide +kernel
theorem dX8_pool_51 : decode cX8_pool 51 = .ok (.iconst 3, 1) := by decide +kernel
theorem dX8_pool_52 : decode cX8_pool 52 = .ok (.invokestatic 48, 3) := by decide +kernel
theorem dX8_pool_55 : decode cX8_pool 55 = .ok (.ifCond .ne 5, 3) := by decide +kernel
theorem dX8_pool_58 : decode cX8_pool 58 = .ok (.iconst 0, 1) := by decide +kernel
theorem dX8_pool_59 : decode cX8_pool 59 = .ok (.ireturn, 1) := by decide +kernel
theorem dX8_pool_60 : decode cX8_pool 60 = .ok (.aload_n 0, 1) := by decide +kernel
theorem dX8_pool_61 : decode cX8_pool 61 = .ok (.getfield 11, 3) := by decide +kernel
theorem dX8_pool_64 : decode cX8_pool 64 = .ok (.iload_n 1, 1) := by decide +kernel
theorem dX8_pool_65 : decode cX8_pool 65 = .ok (.new 9, 3) := by decide +kernel
theorem dX8_pool_68 : decode cX8_pool 68 = .ok (.dup, 1) := by decide +kernel
theorem dX8_pool_69 : decode cX8_pool 69 = .ok (.iload_n 1, 1) := by decide +kernel
theorem dX8_pool_70 : decode cX8_pool 70 = .ok (.iload_n 2, 1) := by decide +kernel
theorem dX8_pool_71 : decode cX8_pool 71 = .ok (.iload_n 3, 1) := by decide +kernel
theorem dX8_pool_72 : decode cX8_pool 72 = .ok (.iload 4, 2) := by decide +kernel
theorem dX8_pool_74 : decode cX8_pool 74 = .ok (.invokespecial 52, 3) := by decide +kernel
theorem dX8_pool_77 : decode cX8_pool 77 = .ok (.aastore, 1) := by decide +kernel
theorem dX8_pool_78 : decode cX8_pool 78 = .ok (.iconst 1, 1) := by decide +kernel
theorem dX8_pool_79 : decode cX8_pool 79 = .ok (.ireturn, 1) := by decide +kernel
theorem dX8_go_0 : decode cX8_go 0 = .ok (.iload_n 1, 1) := by decide +kernel
theorem dX8_go_1 : decode cX8_go 1 = .ok (.iconst 1, 1) := by decide +kernel
theorem dX8_go_2 : decode cX8_go 2 = .ok (.sipush 240, 3) := by decide +kernel
theorem dX8_go_5 : decode cX8_go 5 = .ok (.invokestatic 48, 3) := by decide +kernel
theorem dX8_go_8 : decode cX8_go 8 = .ok (.ifCond .eq 15, 3) := by decide +kernel
theorem dX8_go_11 : decode cX8_go 11 = .ok (.aload_n 0, 1) := by decide +kernel
theorem dX8_go_12 : decode cX8_go 12 = .ok (.getfield 45, 3) := by decide +kernel
theorem dX8_go_15 : decode cX8_go 15 = .ok (.iload_n 1, 1) := by decide +kernel
theorem dX8_go_16 : decode cX8_go 16 = .ok (.iadd, 1) := by decide +kernel
theorem dX8_go_17 : decode cX8_go 17 = .ok (.sipush 1440, 3) := by decide +kernel
theorem dX8_go_20 : decode cX8_go 20 = .ok (.if_icmp .lt 5, 3) := by decide +kernel
theorem dX8_go_23 : decode cX8_go 23 = .ok (.iconst (-1), 1) := by decide +kernel
theorem dX8_go_24 : decode cX8_go 24 = .ok (.ireturn, 1) := by decide +kernel
theorem dX8_go_25 : decode cX8_go 25 = .ok (.iconst 0, 1) := by decide +kernel
theorem dX8_go_26 : decode cX8_go 26 = .ok (.istore_n 2, 1) := by decide +kernel
theorem dX8_go_27 : decode cX8_go 27 = .ok (.iload_n 2, 1) := by decide +kernel
theorem dX8_go_28 : decode cX8_go 28 = .ok (.iload_n 1, 1) := by decide +kernel
theorem dX8_go_29 : decode cX8_go 29 = .ok (.if_icmp .ge 23, 3) := by decide +kernel
theorem dX8_go_32 : decode cX8_go 32 = .ok (.aload_n 0, 1) := by decide +kernel
theorem dX8_go_33 : decode cX8_go 33 = .ok (.invokevirtual 55, 3) := by decide +kernel
theorem dX8_go_36 : decode cX8_go 36 = .ok (.aload_n 0, 1) := by decide +kernel
theorem dX8_go_37 : decode cX8_go 37 = .ok (.dup, 1) := by decide +kernel
theorem dX8_go_38 : decode cX8_go 38 = .ok (.getfield 45, 3) := by decide +kernel
theorem dX8_go_41 : decode cX8_go 41 = .ok (.iconst 1, 1) := by decide +kernel
theorem dX8_go_42 : decode cX8_go 42 = .ok (.iadd, 1) := by decide +kernel
theorem dX8_go_43 : decode cX8_go 43 = .ok (.putfield 45, 3) := by decide +kernel
theorem dX8_go_46 : decode cX8_go 46 = .ok (.iinc 2 1, 3) := by decide +kernel
theorem dX8_go_49 : decode cX8_go 49 = .ok (.goto (-22), 3) := by decide +kernel
theorem dX8_go_52 : decode cX8_go 52 = .ok (.aload_n 0, 1) := by decide +kernel
theorem dX8_go_53 : decode cX8_go 53 = .ok (.getfield 45, 3) := by decide +kernel
theorem dX8_go_56 : decode cX8_go 56 = .ok (.ireturn, 1) := by decide +kernel
theorem dX8_ticket_0 : decode cX8_ticket 0 = .ok (.aload_n 0, 1) := by decide +kernel
theorem dX8_ticket_1 : decode cX8_ticket 1 = .ok (.iload_n 1, 1) := by decide +kernel
theorem dX8_ticket_2 : decode cX8_ticket 2 = .ok (.invokevirtual 58, 3) := by decide +kernel
theorem dX8_ticket_5 : decode cX8_ticket 5 = .ok (.astore 5, 2) := by decide +kernel
theorem dX8_ticket_7 : decode cX8_ticket 7 = .ok (.aload_n 0, 1) := by decide +kernel
theorem dX8_ticket_8 : decode cX8_ticket 8 = .ok (.getfield 62, 3) := by decide +kernel
theorem dX8_ticket_11 : decode cX8_ticket 11 = .ok (.sipush 200, 3) := by decide +kernel
theorem dX8_ticket_14 : decode cX8_ticket 14 = .ok (.if_icmp .ge 19, 3) := by decide +kernel
theorem dX8_ticket_17 : decode cX8_ticket 17 = .ok (.aload 5, 2) := by decide +kernel
theorem dX8_ticket_19 : decode cX8_ticket 19 = .ok (.ifnull 14, 3) := by decide +kernel
theorem dX8_ticket_22 : decode cX8_ticket 22 = .ok (.aload_n 0, 1) := by decide +kernel
theorem dX8_ticket_23 : decode cX8_ticket 23 = .ok (.aload 5, 2) := by decide +kernel
theorem dX8_ticket_25 : decode cX8_ticket 25 = .ok (.iload_n 2, 1) := by decide +kernel
theorem dX8_ticket_26 : decode cX8_ticket 26 = .ok (.iload_n 3, 1) := by decide +kernel
theorem dX8_ticket_27 : decode cX8_ticket 27 = .ok (.invokevirtual 65, 3) := by decide +kernel
theorem dX8_ticket_30 : decode cX8_ticket 30 = .ok (.ifCond .ne 5, 3) := by decide +kernel
theorem dX8_ticket_33 : decode cX8_ticket 33 = .ok (.iconst (-1), 1) := by decide +kernel
theorem dX8_ticket_34 : decode cX8_ticket 34 = .ok (.ireturn, 1) := by decide +kernel
theorem dX8_ticket_35 : decode cX8_ticket 35 = .ok (.aload_n 0, 1) := by decide +kernel
theorem dX8_ticket_36 : decode cX8_ticket 36 = .ok (.getfield 62, 3) := by decide +kernel
theorem dX8_ticket_39 : decode cX8_ticket 39 = .ok (.istore 6, 2) := by decide +kernel
theorem dX8_ticket_41 : decode cX8_ticket 41 = .ok (.iload_n 2, 1) := by decide +kernel
theorem dX8_ticket_42 : decode cX8_ticket 42 = .ok (.invokestatic 69, 3) := by decide +kernel
theorem dX8_ticket_45 : decode cX8_ticket 45 = .ok (.ifCond .eq 11, 3) := by decide +kernel
theorem dX8_ticket_48 : decode cX8_ticket 48 = .ok (.aload_n 0, 1) := by decide +kernel
theorem dX8_ticket_49 : decode cX8_ticket 49 = .ok (.iload_n 3, 1) := by decide +kernel
theorem dX8_ticket_50 : decode cX8_ticket 50 = .ok (.invokevirtual 73, 3) := by decide +kernel
theorem dX8_ticket_53 : decode cX8_ticket 53 = .ok (.goto 4, 3) := by decide +kernel
theorem dX8_ticket_56 : decode cX8_ticket 56 = .ok (.aconst_null, 1) := by decide +kernel
theorem dX8_ticket_57 : decode cX8_ticket 57 = .ok (.astore 7, 2) := by decide +kernel
theorem dX8_ticket_59 : decode cX8_ticket 59 = .ok (.aload_n 0, 1) := by decide +kernel
theorem dX8_ticket_60 : decode cX8_ticket 60 = .ok (.getfield 17, 3) := by decide +kernel
theorem dX8_ticket_63 : decode cX8_ticket 63 = .ok (.iload 6, 2) := by decide +kernel
theorem dX8_ticket_65 : decode cX8_ticket 65 = .ok (.new 15, 3) := by decide +kernel
theorem dX8_ticket_68 : decode cX8_ticket 68 = .ok (.dup, 1) := by decide +kernel
theorem dX8_ticket_69 : decode cX8_ticket 69 = .ok (.iload 6, 2) := by decide +kernel
theorem dX8_ticket_71 : decode cX8_ticket 71 = .ok (.aload 5, 2) := by decide +kernel
theorem dX8_ticket_73 : decode cX8_ticket 73 = .ok (.iload_n 2, 1) := by decide +kernel
theorem dX8_ticket_74 : decode cX8_ticket 74 = .ok (.iload_n 3, 1) := by decide +kernel
theorem dX8_ticket_75 : decode cX8_ticket 75 = .ok (.aload 7, 2) := by decide +kernel
theorem dX8_ticket_77 : decode cX8_ticket 77 = .ok (.iload 4, 2) := by decide +kernel
theorem dX8_ticket_79 : decode cX8_ticket 79 = .ok (.invokespecial 77, 3) := by decide +kernel
theorem dX8_ticket_82 : decode cX8_ticket 82 = .ok (.aastore, 1) := by decide +kernel
theorem dX8_ticket_83 : decode cX8_ticket 83 = .ok (.aload_n 0, 1) := by decide +kernel
theorem dX8_ticket_84 : decode cX8_ticket 84 = .ok (.dup, 1) := by decide +kernel
theorem dX8_ticket_85 : decode cX8_ticket 85 = .ok (.getfield 62, 3) := by decide +kernel
theorem dX8_ticket_88 : decode cX8_ticket 88 = .ok (.iconst 1, 1) := by decide +kernel
theorem dX8_ticket_89 : decode cX8_ticket 89 = .ok (.iadd, 1) := by decide +kernel
theorem dX8_ticket_90 : decode cX8_ticket 90 = .ok (.putfield 62, 3) := by decide +kernel
theorem dX8_ticket_93 : decode cX8_ticket 93 = .ok (.iload 6, 2) := by decide +kernel
theorem dX8_ticket_95 : decode cX8_ticket 95 = .ok (.ireturn, 1) := by decide +kernel
theorem dX8_club_0 : decode cX8_club 0 = .ok (.aload_n 0, 1) := by decide +kernel
theorem dX8_club_1 : decode cX8_club 1 = .ok (.iload_n 1, 1) := by decide +kernel
theorem dX8_club_2 : decode cX8_club 2 = .ok (.invokevirtual 58, 3) := by decide +kernel
theorem dX8_club_5 : decode cX8_club 5 = .ok (.astore 6, 2) := by decide +kernel
theorem dX8_club_7 : decode cX8_club 7 = .ok (.aload_n 0, 1) := by decide +kernel
theorem dX8_club_8 : decode cX8_club 8 = .ok (.getfield 80, 3) := by decide +kernel
theorem dX8_club_11 : decode cX8_club 11 = .ok (.bipush 20, 2) := by decide +kernel
theorem dX8_club_13 : decode cX8_club 13 = .ok (.if_icmp .ge 53, 3) := by decide +kernel
theorem dX8_club_16 : decode cX8_club 16 = .ok (.aload 6, 2) := by decide +kernel
theorem dX8_club_18 : decode cX8_club 18 = .ok (.ifnull 48, 3) := by decide +kernel
theorem dX8_club_21 : decode cX8_club 21 = .ok (.aload 6, 2) := by decide +kernel
theorem dX8_club_23 : decode cX8_club 23 = .ok (.iload_n 2, 1) := by decide +kernel
theorem dX8_club_24 : decode cX8_club 24 = .ok (.invokevirtual 83, 3) := by decide +kernel
theorem dX8_club_27 : decode cX8_club 27 = .ok (.ifCond .eq 39, 3) := by decide +kernel
theorem dX8_club_30 : decode cX8_club 30 = .ok (.iload_n 3, 1) := by decide +kernel
theorem dX8_club_31 : decode cX8_club 31 = .ok (.iconst 0, 1) := by decide +kernel
theorem dX8_club_32 : decode cX8_club 32 = .ok (.sipush 1439, 3) := by decide +kernel
theorem dX8_club_35 : decode cX8_club 35 = .ok (.invokestatic 48, 3) := by decide +kernel
theorem dX8_club_38 : decode cX8_club 38 = .ok (.ifCond .eq 28, 3) := by decide +kernel
theorem dX8_club_41 : decode cX8_club 41 = .ok (.iload 4, 2) := by decide +kernel
theorem dX8_club_43 : decode cX8_club 43 = .ok (.iload_n 3, 1) := by decide +kernel
theorem dX8_club_44 : decode cX8_club 44 = .ok (.if_icmp .le 22, 3) := by decide +kernel
theorem dX8_club_47 : decode cX8_club 47 = .ok (.iload 4, 2) := by decide +kernel
theorem dX8_club_49 : decode cX8_club 49 = .ok (.sipush 1440, 3) := by decide +kernel
theorem dX8_club_52 : decode cX8_club 52 = .ok (.if_icmp .gt 14, 3) := by decide +kernel
theorem dX8_club_55 : decode cX8_club 55 = .ok (.iload 5, 2) := by decide +kernel
theorem dX8_club_57 : decode cX8_club 57 = .ok (.iconst 0, 1) := by decide +kernel
theorem dX8_club_58 : decode cX8_club 58 = .ok (.bipush 30, 2) := by decide +kernel
theorem dX8_club_60 : decode cX8_club 60 = .ok (.invokestatic 48, 3) := by decide +kernel
theorem dX8_club_63 : decode cX8_club 63 = .ok (.ifCond .ne 5, 3) := by decide +kernel
theorem dX8_club_66 : decode cX8_club 66 = .ok (.iconst (-1), 1) := by decide +kernel
theorem dX8_club_67 : decode cX8_club 67 = .ok (.ireturn, 1) := by decide +kernel
theorem dX8_club_68 : decode cX8_club 68 = .ok (.new 21, 3) := by decide +kernel
theorem dX8_club_71 : decode cX8_club 71 = .ok (.dup, 1) := by decide +kernel
theorem dX8_club_72 : decode cX8_club 72 = .ok (.aload 6, 2) := by decide +kernel
theorem dX8_club_74 : decode cX8_club 74 = .ok (.iload_n 2, 1) := by decide +kernel
theorem dX8_club_75 : decode cX8_club 75 = .ok (.iload_n 3, 1) := by decide +kernel
theorem dX8_club_76 : decode cX8_club 76 = .ok (.iload 4, 2) := by decide +kernel
theorem dX8_club_78 : decode cX8_club 78 = .ok (.iload 5, 2) := by decide +kernel
theorem dX8_club_80 : decode cX8_club 80 = .ok (.invokespecial 86, 3) := by decide +kernel
theorem dX8_club_83 : decode cX8_club 83 = .ok (.astore 7, 2) := by decide +kernel
theorem dX8_club_85 : decode cX8_club 85 = .ok (.aload_n 0, 1) := by decide +kernel
theorem dX8_club_86 : decode cX8_club 86 = .ok (.aload 7, 2) := by decide +kernel
theorem dX8_club_88 : decode cX8_club 88 = .ok (.invokevirtual 89, 3) := by decide +kernel
theorem dX8_club_91 : decode cX8_club 91 = .ok (.istore 8, 2) := by decide +kernel
theorem dX8_club_93 : decode cX8_club 93 = .ok (.iload 8, 2) := by decide +kernel
theorem dX8_club_95 : decode cX8_club 95 = .ok (.iconst (-1), 1) := by decide +kernel
theorem dX8_club_96 : decode cX8_club 96 = .ok (.if_icmp .eq 11, 3) := by decide +kernel
theorem dX8_club_99 : decode cX8_club 99 = .ok (.aload_n 0, 1) := by decide +kernel
theorem dX8_club_100 : decode cX8_club 100 = .ok (.iload 8, 2) := by decide +kernel
theorem dX8_club_102 : decode cX8_club 102 = .ok (.putfield 41, 3) := by decide +kernel
theorem dX8_club_105 : decode cX8_club 105 = .ok (.iconst (-1), 1) := by decide +kernel
theorem dX8_club_106 : decode cX8_club 106 = .ok (.ireturn, 1) := by decide +kernel
theorem dX8_club_107 : decode cX8_club 107 = .ok (.aload_n 0, 1) := by decide +kernel
theorem dX8_club_108 : decode cX8_club 108 = .ok (.getfield 80, 3) := by decide +kernel
theorem dX8_club_111 : decode cX8_club 111 = .ok (.istore 9, 2) := by decide +kernel
theorem dX8_club_113 : decode cX8_club 113 = .ok (.aload_n 0, 1) := by decide +kernel
theorem dX8_club_114 : decode cX8_club 114 = .ok (.getfield 23, 3) := by decide +kernel
theorem dX8_club_117 : decode cX8_club 117 = .ok (.iload 9, 2) := by decide +kernel
theorem dX8_club_119 : decode cX8_club 119 = .ok (.aload 7, 2) := by decide +kernel
theorem dX8_club_121 : decode cX8_club 121 = .ok (.aastore, 1) := by decide +kernel
theorem dX8_club_122 : decode cX8_club 122 = .ok (.aload_n 0, 1) := by decide +kernel
theorem dX8_club_123 : decode cX8_club 123 = .ok (.dup, 1) := by decide +kernel
theorem dX8_club_124 : decode cX8_club 124 = .ok (.getfield 80, 3) := by decide +kernel
theorem dX8_club_127 : decode cX8_club 127 = .ok (.iconst 1, 1) := by decide +kernel
theorem dX8_club_128 : decode cX8_club 128 = .ok (.iadd, 1) := by decide +kernel
theorem dX8_club_129 : decode cX8_club 129 = .ok (.putfield 80, 3) := by decide +kernel
theorem dX8_club_132 : decode cX8_club 132 = .ok (.iload 9, 2) := by decide +kernel
theorem dX8_club_134 : decode cX8_club 134 = .ok (.ireturn, 1) := by decide +kernel
theorem dX8_clash_0 : decode cX8_clash 0 = .ok (.aload_n 0, 1) := by decide +kernel
theorem dX8_clash_1 : decode cX8_clash 1 = .ok (.getfield 41, 3) := by decide +kernel
theorem dX8_clash_4 : decode cX8_clash 4 = .ok (.ireturn, 1) := by decide +kernel
theorem dX8_leave_0 : decode cX8_leave 0 = .ok (.aload_n 0, 1) := by decide +kernel
theorem dX8_leave_1 : decode cX8_leave 1 = .ok (.iload_n 1, 1) := by decide +kernel
theorem dX8_leave_2 : decode cX8_leave 2 = .ok (.invokevirtual 73, 3) := by decide +kernel
theorem dX8_leave_5 : decode cX8_leave 5 = .ok (.astore_n 2, 1) := by decide +kernel
theorem dX8_leave_6 : decode cX8_leave 6 = .ok (.aload_n 2, 1) := by decide +kernel
theorem dX8_leave_7 : decode cX8_leave 7 = .ok (.ifnull 14, 3) := by decide +kernel
theorem dX8_leave_10 : decode cX8_leave 10 = .ok (.aload_n 0, 1) := by decide +kernel
theorem dX8_leave_11 : decode cX8_leave 11 = .ok (.getfield 45, 3) := by decide +kernel
theorem dX8_leave_14 : decode cX8_leave 14 = .ok (.aload_n 2, 1) := by decide +kernel
theorem dX8_leave_15 : decode cX8_leave 15 = .ok (.getfield 93, 3) := by decide +kernel
theorem dX8_leave_18 : decode cX8_leave 18 = .ok (.if_icmp .lt 5, 3) := by decide +kernel
theorem dX8_leave_21 : decode cX8_leave 21 = .ok (.iconst 0, 1) := by decide +kernel
theorem dX8_leave_22 : decode cX8_leave 22 = .ok (.ireturn, 1) := by decide +kernel
theorem dX8_leave_23 : decode cX8_leave 23 = .ok (.aload_n 2, 1) := by decide +kernel
theorem dX8_leave_24 : decode cX8_leave 24 = .ok (.aload_n 0, 1) := by decide +kernel
theorem dX8_leave_25 : decode cX8_leave 25 = .ok (.getfield 45, 3) := by decide +kernel
theorem dX8_leave_28 : decode cX8_leave 28 = .ok (.putfield 93, 3) := by decide +kernel
theorem dX8_leave_31 : decode cX8_leave 31 = .ok (.iconst 1, 1) := by decide +kernel
theorem dX8_leave_32 : decode cX8_leave 32 = .ok (.ireturn, 1) := by decide +kernel
theorem dX8_may_0 : decode cX8_may 0 = .ok (.aload_n 0, 1) := by decide +kernel
theorem dX8_may_1 : decode cX8_may 1 = .ok (.iload_n 1, 1) := by decide +kernel
theorem dX8_may_2 : decode cX8_may 2 = .ok (.invokevirtual 96, 3) := by decide +kernel
theorem dX8_may_5 : decode cX8_may 5 = .ok (.astore_n 2, 1) := by decide +kernel
theorem dX8_may_6 : decode cX8_may 6 = .ok (.aload_n 2, 1) := by decide +kernel
theorem dX8_may_7 : decode cX8_may 7 = .ok (.ifnonnull 7, 3) := by decide +kernel
theorem dX8_may_10 : decode cX8_may 10 = .ok (.iconst (-1), 1) := by decide +kernel
theorem dX8_may_11 : decode cX8_may 11 = .ok (.goto 8, 3) := by decide +kernel
theorem dX8_may_14 : decode cX8_may 14 = .ok (.aload_n 0, 1) := by decide +kernel
theorem dX8_may_15 : decode cX8_may 15 = .ok (.aload_n 2, 1) := by decide +kernel
theorem dX8_may_16 : decode cX8_may 16 = .ok (.invokevirtual 100, 3) := by decide +kernel
theorem dX8_may_19 : decode cX8_may 19 = .ok (.ireturn, 1) := by decide +kernel
theorem dX8_in_0 : decode cX8_in 0 = .ok (.aload_n 0, 1) := by decide +kernel
theorem dX8_in_1 : decode cX8_in 1 = .ok (.iload_n 1, 1) := by decide +kernel
theorem dX8_in_2 : decode cX8_in 2 = .ok (.invokevirtual 96, 3) := by decide +kernel
theorem dX8_in_5 : decode cX8_in 5 = .ok (.astore_n 2, 1) := by decide +kernel
theorem dX8_in_6 : decode cX8_in 6 = .ok (.aload_n 2, 1) := by decide +kernel
theorem dX8_in_7 : decode cX8_in 7 = .ok (.ifnonnull 5, 3) := by decide +kernel
theorem dX8_in_10 : decode cX8_in 10 = .ok (.iconst (-1), 1) := by decide +kernel
theorem dX8_in_11 : decode cX8_in 11 = .ok (.ireturn, 1) := by decide +kernel
theorem dX8_in_12 : decode cX8_in 12 = .ok (.aload_n 0, 1) := by decide +kernel
theorem dX8_in_13 : decode cX8_in 13 = .ok (.aload_n 2, 1) := by decide +kernel
theorem dX8_in_14 : decode cX8_in 14 = .ok (.invokevirtual 100, 3) := by decide +kernel
theorem dX8_in_17 : decode cX8_in 17 = .ok (.istore_n 3, 1) := by decide +kernel
theorem dX8_in_18 : decode cX8_in 18 = .ok (.iload_n 3, 1) := by decide +kernel
theorem dX8_in_19 : decode cX8_in 19 = .ok (.ifCond .ne 19, 3) := by decide +kernel
theorem dX8_in_22 : decode cX8_in 22 = .ok (.aload_n 2, 1) := by decide +kernel
theorem dX8_in_23 : decode cX8_in 23 = .ok (.aload_n 0, 1) := by decide +kernel
theorem dX8_in_24 : decode cX8_in 24 = .ok (.getfield 45, 3) := by decide +kernel
theorem dX8_in_27 : decode cX8_in 27 = .ok (.invokevirtual 104, 3) := by decide +kernel
theorem dX8_in_30 : decode cX8_in 30 = .ok (.aload_n 2, 1) := by decide +kernel
theorem dX8_in_31 : decode cX8_in 31 = .ok (.getfield 108, 3) := by decide +kernel
theorem dX8_in_34 : decode cX8_in 34 = .ok (.aload_n 2, 1) := by decide +kernel
theorem dX8_in_35 : decode cX8_in 35 = .ok (.invokevirtual 112, 3) := by decide +kernel
theorem dX8_in_38 : decode cX8_in 38 = .ok (.iload_n 3, 1) := by decide +kernel
theorem dX8_in_39 : decode cX8_in 39 = .ok (.ireturn, 1) := by decide +kernel
theorem dX8_out_0 : decode cX8_out 0 = .ok (.aload_n 0, 1) := by decide +kernel
theorem dX8_out_1 : decode cX8_out 1 = .ok (.iload_n 1, 1) := by decide +kernel
theorem dX8_out_2 : decode cX8_out 2 = .ok (.invokevirtual 96, 3) := by decide +kernel
theorem dX8_out_5 : decode cX8_out 5 = .ok (.astore_n 2, 1) := by decide +kernel
theorem dX8_out_6 : decode cX8_out 6 = .ok (.aload_n 2, 1) := by decide +kernel
theorem dX8_out_7 : decode cX8_out 7 = .ok (.ifnull 10, 3) := by decide +kernel
theorem dX8_out_10 : decode cX8_out 10 = .ok (.aload_n 2, 1) := by decide +kernel
theorem dX8_out_11 : decode cX8_out 11 = .ok (.getfield 116, 3) := by decide +kernel
theorem dX8_out_14 : decode cX8_out 14 = .ok (.ifCond .ne 5, 3) := by decide +kernel
theorem dX8_out_17 : decode cX8_out 17 = .ok (.iconst (-1), 1) := by decide +kernel
theorem dX8_out_18 : decode cX8_out 18 = .ok (.ireturn, 1) := by decide +kernel
theorem dX8_out_19 : decode cX8_out 19 = .ok (.aload_n 2, 1) := by decide +kernel
theorem dX8_out_20 : decode cX8_out 20 = .ok (.getfield 108, 3) := by decide +kernel
theorem dX8_out_23 : decode cX8_out 23 = .ok (.getfield 120, 3) := by decide +kernel
theorem dX8_out_26 : decode cX8_out 26 = .ok (.getfield 124, 3) := by decide +kernel
theorem dX8_out_29 : decode cX8_out 29 = .ok (.iconst 3, 1) := by decide +kernel
theorem dX8_out_30 : decode cX8_out 30 = .ok (.if_icmp .lt 6, 3) := by decide +kernel
theorem dX8_out_33 : decode cX8_out 33 = .ok (.bipush (-2), 2) := by decide +kernel
theorem dX8_out_35 : decode cX8_out 35 = .ok (.ireturn, 1) := by decide +kernel
theorem dX8_out_36 : decode cX8_out 36 = .ok (.aload_n 2, 1) := by decide +kernel
theorem dX8_out_37 : decode cX8_out 37 = .ok (.aload_n 0, 1) := by decide +kernel
theorem dX8_out_38 : decode cX8_out 38 = .ok (.getfield 45, 3) := by decide +kernel
theorem dX8_out_41 : decode cX8_out 41 = .ok (.invokevirtual 129, 3) := by decide +kernel
theorem dX8_out_44 : decode cX8_out 44 = .ok (.istore_n 3, 1) := by decide +kernel
theorem dX8_out_45 : decode cX8_out 45 = .ok (.aload_n 0, 1) := by decide +kernel
theorem dX8_out_46 : decode cX8_out 46 = .ok (.dup, 1) := by decide +kernel
theorem dX8_out_47 : decode cX8_out 47 = .ok (.getfield 133, 3) := by decide +kernel
theorem dX8_out_50 : decode cX8_out 50 = .ok (.iload_n 3, 1) := by decide +kernel
theorem dX8_out_51 : decode cX8_out 51 = .ok (.iadd, 1) := by decide +kernel
theorem dX8_out_52 : decode cX8_out 52 = .ok (.putfield 133, 3) := by decide +kernel
theorem dX8_out_55 : decode cX8_out 55 = .ok (.aload_n 2, 1) := by decide +kernel
theorem dX8_out_56 : decode cX8_out 56 = .ok (.aload_n 0, 1) := by decide +kernel
theorem dX8_out_57 : decode cX8_out 57 = .ok (.getfield 45, 3) := by decide +kernel
theorem dX8_out_60 : decode cX8_out 60 = .ok (.iload_n 3, 1) := by decide +kernel
theorem dX8_out_61 : decode cX8_out 61 = .ok (.invokevirtual 136, 3) := by decide +kernel
theorem dX8_out_64 : decode cX8_out 64 = .ok (.aload_n 2, 1) := by decide +kernel
theorem dX8_out_65 : decode cX8_out 65 = .ok (.getfield 108, 3) := by decide +kernel
theorem dX8_out_68 : decode cX8_out 68 = .ok (.aload_n 2, 1) := by decide +kernel
theorem dX8_out_69 : decode cX8_out 69 = .ok (.invokevirtual 140, 3) := by decide +kernel
theorem dX8_out_72 : decode cX8_out 72 = .ok (.aload_n 0, 1) := by decide +kernel
theorem dX8_out_73 : decode cX8_out 73 = .ok (.getfield 30, 3) := by decide +kernel
theorem dX8_out_76 : decode cX8_out 76 = .ok (.aload_n 2, 1) := by decide +kernel
theorem dX8_out_77 : decode cX8_out 77 = .ok (.getfield 143, 3) := by decide +kernel
theorem dX8_out_80 : decode cX8_out 80 = .ok (.invokevirtual 146, 3) := by decide +kernel
theorem dX8_out_83 : decode cX8_out 83 = .ok (.aload_n 2, 1) := by decide +kernel
theorem dX8_out_84 : decode cX8_out 84 = .ok (.iconst (-1), 1) := by decide +kernel
theorem dX8_out_85 : decode cX8_out 85 = .ok (.putfield 143, 3) := by decide +kernel
theorem dX8_out_88 : decode cX8_out 88 = .ok (.iload_n 3, 1) := by decide +kernel
theorem dX8_out_89 : decode cX8_out 89 = .ok (.ireturn, 1) := by decide +kernel
theorem dX8_eye_0 : decode cX8_eye 0 = .ok (.aload_n 0, 1) := by decide +kernel
theorem dX8_eye_1 : decode cX8_eye 1 = .ok (.iload_n 1, 1) := by decide +kernel
theorem dX8_eye_2 : decode cX8_eye 2 = .ok (.invokevirtual 58, 3) := by decide +kernel
theorem dX8_eye_5 : decode cX8_eye 5 = .ok (.astore_n 3, 1) := by decide +kernel
theorem dX8_eye_6 : decode cX8_eye 6 = .ok (.aload_n 3, 1) := by decide +kernel
theorem dX8_eye_7 : decode cX8_eye 7 = .ok (.ifnull 14, 3) := by decide +kernel
theorem dX8_eye_10 : decode cX8_eye 10 = .ok (.aload_n 3, 1) := by decide +kernel
theorem dX8_eye_11 : decode cX8_eye 11 = .ok (.getfield 120, 3) := by decide +kernel
theorem dX8_eye_14 : decode cX8_eye 14 = .ok (.getfield 149, 3) := by decide +kernel
theorem dX8_eye_17 : decode cX8_eye 17 = .ok (.iload_n 2, 1) := by decide +kernel
theorem dX8_eye_18 : decode cX8_eye 18 = .ok (.if_icmp .ne 5, 3) := by decide +kernel
theorem dX8_eye_21 : decode cX8_eye 21 = .ok (.iconst 0, 1) := by decide +kernel
theorem dX8_eye_22 : decode cX8_eye 22 = .ok (.ireturn, 1) := by decide +kernel
theorem dX8_eye_23 : decode cX8_eye 23 = .ok (.aload_n 3, 1) := by decide +kernel
theorem dX8_eye_24 : decode cX8_eye 24 = .ok (.getfield 120, 3) := by decide +kernel
theorem dX8_eye_27 : decode cX8_eye 27 = .ok (.iload_n 2, 1) := by decide +kernel
theorem dX8_eye_28 : decode cX8_eye 28 = .ok (.invokevirtual 152, 3) := by decide +kernel
theorem dX8_eye_31 : decode cX8_eye 31 = .ok (.iconst 1, 1) := by decide +kernel
theorem dX8_eye_32 : decode cX8_eye 32 = .ok (.ireturn, 1) := by decide +kernel
theorem dX8_hand_0 : decode cX8_hand 0 = .ok (.aload_n 0, 1) := by decide +kernel
theorem dX8_hand_1 : decode cX8_hand 1 = .ok (.iload_n 1, 1) := by decide +kernel
theorem dX8_hand_2 : decode cX8_hand 2 = .ok (.invokevirtual 58, 3) := by decide +kernel
theorem dX8_hand_5 : decode cX8_hand 5 = .ok (.astore_n 2, 1) := by decide +kernel
theorem dX8_hand_6 : decode cX8_hand 6 = .ok (.aload_n 2, 1) := by decide +kernel
theorem dX8_hand_7 : decode cX8_hand 7 = .ok (.ifnonnull 5, 3) := by decide +kernel
theorem dX8_hand_10 : decode cX8_hand 10 = .ok (.iconst (-1), 1) := by decide +kernel
theorem dX8_hand_11 : decode cX8_hand 11 = .ok (.ireturn, 1) := by decide +kernel
theorem dX8_hand_12 : decode cX8_hand 12 = .ok (.aload_n 2, 1) := by decide +kernel
theorem dX8_hand_13 : decode cX8_hand 13 = .ok (.getfield 120, 3) := by decide +kernel
theorem dX8_hand_16 : decode cX8_hand 16 = .ok (.aload_n 2, 1) := by decide +kernel
theorem dX8_hand_17 : decode cX8_hand 17 = .ok (.getfield 156, 3) := by decide +kernel
theorem dX8_hand_20 : decode cX8_hand 20 = .ok (.aload_n 2, 1) := by decide +kernel
theorem dX8_hand_21 : decode cX8_hand 21 = .ok (.getfield 156, 3) := by decide +kernel
theorem dX8_hand_24 : decode cX8_hand 24 = .ok (.invokevirtual 159, 3) := by decide +kernel
theorem dX8_hand_27 : decode cX8_hand 27 = .ok (.aload_n 2, 1) := by decide +kernel
theorem dX8_hand_28 : decode cX8_hand 28 = .ok (.getfield 156, 3) := by decide +kernel
theorem dX8_hand_31 : decode cX8_hand 31 = .ok (.ireturn, 1) := by decide +kernel
theorem dX8_count_0 : decode cX8_count 0 = .ok (.aload_n 0, 1) := by decide +kernel
theorem dX8_count_1 : decode cX8_count 1 = .ok (.iload_n 1, 1) := by decide +kernel
theorem dX8_count_2 : decode cX8_count 2 = .ok (.invokevirtual 58, 3) := by decide +kernel
theorem dX8_count_5 : decode cX8_count 5 = .ok (.astore_n 3, 1) := by decide +kernel
theorem dX8_count_6 : decode cX8_count 6 = .ok (.aload_n 3, 1) := by decide +kernel
theorem dX8_count_7 : decode cX8_count 7 = .ok (.ifnonnull 5, 3) := by decide +kernel
theorem dX8_count_10 : decode cX8_count 10 = .ok (.iconst (-1), 1) := by decide +kernel
theorem dX8_count_11 : decode cX8_count 11 = .ok (.ireturn, 1) := by decide +kernel
theorem dX8_count_12 : decode cX8_count 12 = .ok (.iload_n 2, 1) := by decide +kernel
theorem dX8_count_13 : decode cX8_count 13 = .ok (.tableswitch 109 0 7 #[47, 55, 63, 68, 73, 78, 84, 93], 47) := by decide +kernel
theorem dX8_count_60 : decode cX8_count 60 = .ok (.aload_n 3, 1) := by decide +kernel
theorem dX8_count_61 : decode cX8_count 61 = .ok (.getfield 120, 3) := by decide +kernel
theorem dX8_count_64 : decode cX8_count 64 = .ok (.invokevirtual 162, 3) := by decide +kernel
theorem dX8_count_67 : decode cX8_count 67 = .ok (.ireturn, 1) := by decide +kernel
theorem dX8_count_68 : decode cX8_count 68 = .ok (.aload_n 3, 1) := by decide +kernel
theorem dX8_count_69 : decode cX8_count 69 = .ok (.getfield 120, 3) := by decide +kernel
theorem dX8_count_72 : decode cX8_count 72 = .ok (.invokevirtual 166, 3) := by decide +kernel
theorem dX8_count_75 : decode cX8_count 75 = .ok (.ireturn, 1) := by decide +kernel
theorem dX8_count_76 : decode cX8_count 76 = .ok (.aload_n 3, 1) := by decide +kernel
theorem dX8_count_77 : decode cX8_count 77 = .ok (.getfield 156, 3) := by decide +kernel
theorem dX8_count_80 : decode cX8_count 80 = .ok (.ireturn, 1) := by decide +kernel
theorem dX8_count_81 : decode cX8_count 81 = .ok (.aload_n 3, 1) := by decide +kernel
theorem dX8_count_82 : decode cX8_count 82 = .ok (.getfield 169, 3) := by decide +kernel
theorem dX8_count_85 : decode cX8_count 85 = .ok (.ireturn, 1) := by decide +kernel
theorem dX8_count_86 : decode cX8_count 86 = .ok (.aload_n 3, 1) := by decide +kernel
theorem dX8_count_87 : decode cX8_count 87 = .ok (.getfield 172, 3) := by decide +kernel
theorem dX8_count_90 : decode cX8_count 90 = .ok (.ireturn, 1) := by decide +kernel
theorem dX8_count_91 : decode cX8_count 91 = .ok (.aload_n 0, 1) := by decide +kernel
theorem dX8_count_92 : decode cX8_count 92 = .ok (.aload_n 3, 1) := by decide +kernel
theorem dX8_count_93 : decode cX8_count 93 = .ok (.invokevirtual 175, 3) := by decide +kernel
theorem dX8_count_96 : decode cX8_count 96 = .ok (.ireturn, 1) := by decide +kernel
theorem dX8_count_97 : decode cX8_count 97 = .ok (.aload_n 3, 1) := by decide +kernel
theorem dX8_count_98 : decode cX8_count 98 = .ok (.aload_n 0, 1) := by decide +kernel
theorem dX8_count_99 : decode cX8_count 99 = .ok (.getfield 45, 3) := by decide +kernel
theorem dX8_count_102 : decode cX8_count 102 = .ok (.invokevirtual 179, 3) := by decide +kernel
theorem dX8_count_105 : decode cX8_count 105 = .ok (.ireturn, 1) := by decide +kernel
theorem dX8_count_106 : decode cX8_count 106 = .ok (.aload_n 3, 1) := by decide +kernel
theorem dX8_count_107 : decode cX8_count 107 = .ok (.getfield 120, 3) := by decide +kernel
theorem dX8_count_110 : decode cX8_count 110 = .ok (.getfield 149, 3) := by decide +kernel
theorem dX8_count_113 : decode cX8_count 113 = .ok (.ifCond .eq 7, 3) := by decide +kernel
theorem dX8_count_116 : decode cX8_count 116 = .ok (.iconst 1, 1) := by decide +kernel
theorem dX8_count_117 : decode cX8_count 117 = .ok (.goto 4, 3) := by decide +kernel
theorem dX8_count_120 : decode cX8_count 120 = .ok (.iconst 0, 1) := by decide +kernel
theorem dX8_count_121 : decode cX8_count 121 = .ok (.ireturn, 1) := by decide +kernel
theorem dX8_count_122 : decode cX8_count 122 = .ok (.iconst (-1), 1) := by decide +kernel
theorem dX8_count_123 : decode cX8_count 123 = .ok (.ireturn, 1) := by decide +kernel
theorem dX8_bounds_0 : decode cX8_bounds 0 = .ok (.aload_n 0, 1) := by decide +kernel
theorem dX8_bounds_1 : decode cX8_bounds 1 = .ok (.iload_n 1, 1) := by decide +kernel
theorem dX8_bounds_2 : decode cX8_bounds 2 = .ok (.iload_n 2, 1) := by decide +kernel
theorem dX8_bounds_3 : decode cX8_bounds 3 = .ok (.invokevirtual 182, 3) := by decide +kernel
theorem dX8_bounds_6 : decode cX8_bounds 6 = .ok (.astore 5, 2) := by decide +kernel
theorem dX8_bounds_8 : decode cX8_bounds 8 = .ok (.aload 5, 2) := by decide +kernel
theorem dX8_bounds_10 : decode cX8_bounds 10 = .ok (.ifnull 22, 3) := by decide +kernel
theorem dX8_bounds_13 : decode cX8_bounds 13 = .ok (.iload_n 3, 1) := by decide +kernel
theorem dX8_bounds_14 : decode cX8_bounds 14 = .ok (.ldc 186, 2) := by decide +kernel
theorem dX8_bounds_16 : decode cX8_bounds 16 = .ok (.if_icmp .lt 16, 3) := by decide +kernel
theorem dX8_bounds_19 : decode cX8_bounds 19 = .ok (.iload 4, 2) := by decide +kernel
theorem dX8_bounds_21 : decode cX8_bounds 21 = .ok (.ldc 187, 2) := by decide +kernel
theorem dX8_bounds_23 : decode cX8_bounds 23 = .ok (.if_icmp .gt 9, 3) := by decide +kernel
theorem dX8_bounds_26 : decode cX8_bounds 26 = .ok (.iload_n 3, 1) := by decide +kernel
theorem dX8_bounds_27 : decode cX8_bounds 27 = .ok (.iload 4, 2) := by decide +kernel
theorem dX8_bounds_29 : decode cX8_bounds 29 = .ok (.if_icmp .le 5, 3) := by decide +kernel
theorem dX8_bounds_32 : decode cX8_bounds 32 = .ok (.iconst 0, 1) := by decide +kernel
theorem dX8_bounds_33 : decode cX8_bounds 33 = .ok (.ireturn, 1) := by decide +kernel
theorem dX8_bounds_34 : decode cX8_bounds 34 = .ok (.aload 5, 2) := by decide +kernel
theorem dX8_bounds_36 : decode cX8_bounds 36 = .ok (.iload_n 3, 1) := by decide +kernel
theorem dX8_bounds_37 : decode cX8_bounds 37 = .ok (.putfield 188, 3) := by decide +kernel
theorem dX8_bounds_40 : decode cX8_bounds 40 = .ok (.aload 5, 2) := by decide +kernel
theorem dX8_bounds_42 : decode cX8_bounds 42 = .ok (.iload 4, 2) := by decide +kernel
theorem dX8_bounds_44 : decode cX8_bounds 44 = .ok (.putfield 193, 3) := by decide +kernel
theorem dX8_bounds_47 : decode cX8_bounds 47 = .ok (.iconst 1, 1) := by decide +kernel
theorem dX8_bounds_48 : decode cX8_bounds 48 = .ok (.ireturn, 1) := by decide +kernel
theorem dX8_measure_0 : decode cX8_measure 0 = .ok (.aload_n 0, 1) := by decide +kernel
theorem dX8_measure_1 : decode cX8_measure 1 = .ok (.iload_n 1, 1) := by decide +kernel
theorem dX8_measure_2 : decode cX8_measure 2 = .ok (.iload_n 2, 1) := by decide +kernel
theorem dX8_measure_3 : decode cX8_measure 3 = .ok (.invokevirtual 182, 3) := by decide +kernel
theorem dX8_measure_6 : decode cX8_measure 6 = .ok (.astore 4, 2) := by decide +kernel
theorem dX8_measure_8 : decode cX8_measure 8 = .ok (.aload 4, 2) := by decide +kernel
theorem dX8_measure_10 : decode cX8_measure 10 = .ok (.ifnonnull 6, 3) := by decide +kernel
theorem dX8_measure_13 : decode cX8_measure 13 = .ok (.ldc 196, 2) := by decide +kernel
theorem dX8_measure_15 : decode cX8_measure 15 = .ok (.ireturn, 1) := by decide +kernel
theorem dX8_measure_16 : decode cX8_measure 16 = .ok (.fload_n 3, 1) := by decide +kernel
theorem dX8_measure_17 : decode cX8_measure 17 = .ok (.fload_n 3, 1) := by decide +kernel
theorem dX8_measure_18 : decode cX8_measure 18 = .ok (.fcmp .l, 1) := by decide +kernel
theorem dX8_measure_19 : decode cX8_measure 19 = .ok (.ifCond .ne 17, 3) := by decide +kernel
theorem dX8_measure_22 : decode cX8_measure 22 = .ok (.fload_n 3, 1) := by decide +kernel
theorem dX8_measure_23 : decode cX8_measure 23 = .ok (.ldc 197, 2) := by decide +kernel
theorem dX8_measure_25 : decode cX8_measure 25 = .ok (.fcmp .l, 1) := by decide +kernel
theorem dX8_measure_26 : decode cX8_measure 26 = .ok (.ifCond .gt 10, 3) := by decide +kernel
theorem dX8_measure_29 : decode cX8_measure 29 = .ok (.fload_n 3, 1) := by decide +kernel
theorem dX8_measure_30 : decode cX8_measure 30 = .ok (.ldc 198, 2) := by decide +kernel
theorem dX8_measure_32 : decode cX8_measure 32 = .ok (.fcmp .g, 1) := by decide +kernel
theorem dX8_measure_33 : decode cX8_measure 33 = .ok (.ifCond .ge 6, 3) := by decide +kernel
theorem dX8_measure_36 : decode cX8_measure 36 = .ok (.ldc 199, 2) := by decide +kernel
theorem dX8_measure_38 : decode cX8_measure 38 = .ok (.ireturn, 1) := by decide +kernel
theorem dX8_measure_39 : decode cX8_measure 39 = .ok (.fload_n 3, 1) := by decide +kernel
theorem dX8_measure_40 : decode cX8_measure 40 = .ok (.ldc 200, 2) := by decide +kernel
theorem dX8_measure_42 : decode cX8_measure 42 = .ok (.fmul, 1) := by decide +kernel
theorem dX8_measure_43 : decode cX8_measure 43 = .ok (.f2i, 1) := by decide +kernel
theorem dX8_measure_44 : decode cX8_measure 44 = .ok (.istore 5, 2) := by decide +kernel
theorem dX8_measure_46 : decode cX8_measure 46 = .ok (.aload 4, 2) := by decide +kernel
theorem dX8_measure_48 : decode cX8_measure 48 = .ok (.iload 5, 2) := by decide +kernel
theorem dX8_measure_50 : decode cX8_measure 50 = .ok (.aload_n 0, 1) := by decide +kernel
theorem dX8_measure_51 : decode cX8_measure 51 = .ok (.getfield 45, 3) := by decide +kernel
theorem dX8_measure_54 : decode cX8_measure 54 = .ok (.invokevirtual 201, 3) := by decide +kernel
theorem dX8_measure_57 : decode cX8_measure 57 = .ok (.iload 5, 2) := by decide +kernel
theorem dX8_measure_59 : decode cX8_measure 59 = .ok (.ireturn, 1) := by decide +kernel
theorem dX8_put_0 : decode cX8_put 0 = .ok (.aload_n 0, 1) := by decide +kernel
theorem dX8_put_1 : decode cX8_put 1 = .ok (.iload_n 1, 1) := by decide +kernel
theorem dX8_put_2 : decode cX8_put 2 = .ok (.invokevirtual 58, 3) := by decide +kernel
theorem dX8_put_5 : decode cX8_put 5 = .ok (.astore_n 3, 1) := by decide +kernel
theorem dX8_put_6 : decode cX8_put 6 = .ok (.aload_n 3, 1) := by decide +kernel
theorem dX8_put_7 : decode cX8_put 7 = .ok (.ifnull 14, 3) := by decide +kernel
theorem dX8_put_10 : decode cX8_put 10 = .ok (.iload_n 2, 1) := by decide +kernel
theorem dX8_put_11 : decode cX8_put 11 = .ok (.iconst 1, 1) := by decide +kernel
theorem dX8_put_12 : decode cX8_put 12 = .ok (.sipush 240, 3) := by decide +kernel
theorem dX8_put_15 : decode cX8_put 15 = .ok (.invokestatic 48, 3) := by decide +kernel
theorem dX8_put_18 : decode cX8_put 18 = .ok (.ifCond .ne 5, 3) := by decide +kernel
theorem dX8_put_21 : decode cX8_put 21 = .ok (.iconst 0, 1) := by decide +kernel
theorem dX8_put_22 : decode cX8_put 22 = .ok (.ireturn, 1) := by decide +kernel
theorem dX8_put_23 : decode cX8_put 23 = .ok (.aload_n 3, 1) := by decide +kernel
theorem dX8_put_24 : decode cX8_put 24 = .ok (.aload_n 3, 1) := by decide +kernel
theorem dX8_put_25 : decode cX8_put 25 = .ok (.getfield 204, 3) := by decide +kernel
theorem dX8_put_28 : decode cX8_put 28 = .ok (.aload_n 0, 1) := by decide +kernel
theorem dX8_put_29 : decode cX8_put 29 = .ok (.getfield 45, 3) := by decide +kernel
theorem dX8_put_32 : decode cX8_put 32 = .ok (.iload_n 2, 1) := by decide +kernel
theorem dX8_put_33 : decode cX8_put 33 = .ok (.iadd, 1) := by decide +kernel
theorem dX8_put_34 : decode cX8_put 34 = .ok (.invokestatic 207, 3) := by decide +kernel
theorem dX8_put_37 : decode cX8_put 37 = .ok (.putfield 204, 3) := by decide +kernel
theorem dX8_put_40 : decode cX8_put 40 = .ok (.iconst 1, 1) := by decide +kernel
theorem dX8_put_41 : decode cX8_put 41 = .ok (.ireturn, 1) := by decide +kernel
theorem dX8_shut_0 : decode cX8_shut 0 = .ok (.aload_n 0, 1) := by decide +kernel
theorem dX8_shut_1 : decode cX8_shut 1 = .ok (.iload_n 1, 1) := by decide +kernel
theorem dX8_shut_2 : decode cX8_shut 2 = .ok (.invokevirtual 58, 3) := by decide +kernel
theorem dX8_shut_5 : decode cX8_shut 5 = .ok (.astore_n 2, 1) := by decide +kernel
theorem dX8_shut_6 : decode cX8_shut 6 = .ok (.aload_n 2, 1) := by decide +kernel
theorem dX8_shut_7 : decode cX8_shut 7 = .ok (.ifnonnull 7, 3) := by decide +kernel
theorem dX8_shut_10 : decode cX8_shut 10 = .ok (.iconst (-1), 1) := by decide +kernel
theorem dX8_shut_11 : decode cX8_shut 11 = .ok (.goto 11, 3) := by decide +kernel
theorem dX8_shut_14 : decode cX8_shut 14 = .ok (.aload_n 2, 1) := by decide +kernel
theorem dX8_shut_15 : decode cX8_shut 15 = .ok (.aload_n 0, 1) := by decide +kernel
theorem dX8_shut_16 : decode cX8_shut 16 = .ok (.getfield 45, 3) := by decide +kernel
theorem dX8_shut_19 : decode cX8_shut 19 = .ok (.invokevirtual 213, 3) := by decide +kernel
theorem dX8_shut_22 : decode cX8_shut 22 = .ok (.ireturn, 1) := by decide +kernel
theorem dX8_minutes_0 : decode cX8_minutes 0 = .ok (.aload_n 0, 1) := by decide +kernel
theorem dX8_minutes_1 : decode cX8_minutes 1 = .ok (.iload_n 1, 1) := by decide +kernel
theorem dX8_minutes_2 : decode cX8_minutes 2 = .ok (.invokevirtual 58, 3) := by decide +kernel
theorem dX8_minutes_5 : decode cX8_minutes 5 = .ok (.astore_n 2, 1) := by decide +kernel
theorem dX8_minutes_6 : decode cX8_minutes 6 = .ok (.aload_n 2, 1) := by decide +kernel
theorem dX8_minutes_7 : decode cX8_minutes 7 = .ok (.ifnonnull 7, 3) := by decide +kernel
theorem dX8_minutes_10 : decode cX8_minutes 10 = .ok (.iconst (-1), 1) := by decide +kernel
theorem dX8_minutes_11 : decode cX8_minutes 11 = .ok (.goto 7, 3) := by decide +kernel
theorem dX8_minutes_14 : decode cX8_minutes 14 = .ok (.aload_n 2, 1) := by decide +kernel
theorem dX8_minutes_15 : decode cX8_minutes 15 = .ok (.getfield 216, 3) := by decide +kernel
theorem dX8_minutes_18 : decode cX8_minutes 18 = .ok (.ireturn, 1) := by decide +kernel
theorem dX8_post_0 : decode cX8_post 0 = .ok (.aload_n 0, 1) := by decide +kernel
theorem dX8_post_1 : decode cX8_post 1 = .ok (.iload_n 1, 1) := by decide +kernel
theorem dX8_post_2 : decode cX8_post 2 = .ok (.iload_n 2, 1) := by decide +kernel
theorem dX8_post_3 : decode cX8_post 3 = .ok (.invokevirtual 219, 3) := by decide +kernel
theorem dX8_post_6 : decode cX8_post 6 = .ok (.astore 4, 2) := by decide +kernel
theorem dX8_post_8 : decode cX8_post 8 = .ok (.aload_n 0, 1) := by decide +kernel
theorem dX8_post_9 : decode cX8_post 9 = .ok (.iload_n 3, 1) := by decide +kernel
theorem dX8_post_10 : decode cX8_post 10 = .ok (.invokevirtual 96, 3) := by decide +kernel
theorem dX8_post_13 : decode cX8_post 13 = .ok (.astore 5, 2) := by decide +kernel
theorem dX8_post_15 : decode cX8_post 15 = .ok (.aload 4, 2) := by decide +kernel
theorem dX8_post_17 : decode cX8_post 17 = .ok (.ifnull 33, 3) := by decide +kernel
theorem dX8_post_20 : decode cX8_post 20 = .ok (.aload 5, 2) := by decide +kernel
theorem dX8_post_22 : decode cX8_post 22 = .ok (.ifnull 28, 3) := by decide +kernel
theorem dX8_post_25 : decode cX8_post 25 = .ok (.aload 5, 2) := by decide +kernel
theorem dX8_post_27 : decode cX8_post 27 = .ok (.getfield 108, 3) := by decide +kernel
theorem dX8_post_30 : decode cX8_post 30 = .ok (.aload_n 0, 1) := by decide +kernel
theorem dX8_post_31 : decode cX8_post 31 = .ok (.iload_n 1, 1) := by decide +kernel
theorem dX8_post_32 : decode cX8_post 32 = .ok (.invokevirtual 58, 3) := by decide +kernel
theorem dX8_post_35 : decode cX8_post 35 = .ok (.if_acmp .ne 15, 3) := by decide +kernel
theorem dX8_post_38 : decode cX8_post 38 = .ok (.aload 5, 2) := by decide +kernel
theorem dX8_post_40 : decode cX8_post 40 = .ok (.aload_n 0, 1) := by decide +kernel
theorem dX8_post_41 : decode cX8_post 41 = .ok (.getfield 45, 3) := by decide +kernel
theorem dX8_post_44 : decode cX8_post 44 = .ok (.invokevirtual 223, 3) := by decide +kernel
theorem dX8_post_47 : decode cX8_post 47 = .ok (.ifCond .ne 6, 3) := by decide +kernel
theorem dX8_post_50 : decode cX8_post 50 = .ok (.bipush (-2), 2) := by decide +kernel
theorem dX8_post_52 : decode cX8_post 52 = .ok (.ireturn, 1) := by decide +kernel
theorem dX8_post_53 : decode cX8_post 53 = .ok (.aload 4, 2) := by decide +kernel
theorem dX8_post_55 : decode cX8_post 55 = .ok (.getfield 226, 3) := by decide +kernel
theorem dX8_post_58 : decode cX8_post 58 = .ok (.astore 6, 2) := by decide +kernel
theorem dX8_post_60 : decode cX8_post 60 = .ok (.aload 6, 2) := by decide +kernel
theorem dX8_post_62 : decode cX8_post 62 = .ok (.ifnull 12, 3) := by decide +kernel
theorem dX8_post_65 : decode cX8_post 65 = .ok (.aload 6, 2) := by decide +kernel
theorem dX8_post_67 : decode cX8_post 67 = .ok (.aload_n 0, 1) := by decide +kernel
theorem dX8_post_68 : decode cX8_post 68 = .ok (.getfield 45, 3) := by decide +kernel
theorem dX8_post_71 : decode cX8_post 71 = .ok (.invokevirtual 232, 3) := by decide +kernel
theorem dX8_post_74 : decode cX8_post 74 = .ok (.aload 5, 2) := by decide +kernel
theorem dX8_post_76 : decode cX8_post 76 = .ok (.aload 4, 2) := by decide +kernel
theorem dX8_post_78 : decode cX8_post 78 = .ok (.aload_n 0, 1) := by decide +kernel
theorem dX8_post_79 : decode cX8_post 79 = .ok (.getfield 45, 3) := by decide +kernel
theorem dX8_post_82 : decode cX8_post 82 = .ok (.invokevirtual 235, 3) := by decide +kernel
theorem dX8_post_85 : decode cX8_post 85 = .ok (.aload 6, 2) := by decide +kernel
theorem dX8_post_87 : decode cX8_post 87 = .ok (.invokestatic 239, 3) := by decide +kernel
theorem dX8_post_90 : decode cX8_post 90 = .ok (.ireturn, 1) := by decide +kernel
theorem dX8_watcher_0 : decode cX8_watcher 0 = .ok (.aload_n 0, 1) := by decide +kernel
theorem dX8_watcher_1 : decode cX8_watcher 1 = .ok (.iload_n 1, 1) := by decide +kernel
theorem dX8_watcher_2 : decode cX8_watcher 2 = .ok (.iload_n 2, 1) := by decide +kernel
theorem dX8_watcher_3 : decode cX8_watcher 3 = .ok (.invokevirtual 219, 3) := by decide +kernel
theorem dX8_watcher_6 : decode cX8_watcher 6 = .ok (.astore_n 3, 1) := by decide +kernel
theorem dX8_watcher_7 : decode cX8_watcher 7 = .ok (.aload_n 3, 1) := by decide +kernel
theorem dX8_watcher_8 : decode cX8_watcher 8 = .ok (.ifnonnull 7, 3) := by decide +kernel
theorem dX8_watcher_11 : decode cX8_watcher 11 = .ok (.iconst (-1), 1) := by decide +kernel
theorem dX8_watcher_12 : decode cX8_watcher 12 = .ok (.goto 10, 3) := by decide +kernel
theorem dX8_watcher_15 : decode cX8_watcher 15 = .ok (.aload_n 3, 1) := by decide +kernel
theorem dX8_watcher_16 : decode cX8_watcher 16 = .ok (.getfield 226, 3) := by decide +kernel
theorem dX8_watcher_19 : decode cX8_watcher 19 = .ok (.invokestatic 239, 3) := by decide +kernel
theorem dX8_watcher_22 : decode cX8_watcher 22 = .ok (.ireturn, 1) := by decide +kernel
theorem dX8_key_0 : decode cX8_key 0 = .ok (.aload_n 0, 1) := by decide +kernel
theorem dX8_key_1 : decode cX8_key 1 = .ok (.iload_n 1, 1) := by decide +kernel
theorem dX8_key_2 : decode cX8_key 2 = .ok (.invokevirtual 96, 3) := by decide +kernel
theorem dX8_key_5 : decode cX8_key 5 = .ok (.astore_n 2, 1) := by decide +kernel
theorem dX8_key_6 : decode cX8_key 6 = .ok (.aload_n 2, 1) := by decide +kernel
theorem dX8_key_7 : decode cX8_key 7 = .ok (.ifnull 18, 3) := by decide +kernel
theorem dX8_key_10 : decode cX8_key 10 = .ok (.aload_n 2, 1) := by decide +kernel
theorem dX8_key_11 : decode cX8_key 11 = .ok (.getfield 116, 3) := by decide +kernel
theorem dX8_key_14 : decode cX8_key 14 = .ok (.ifCond .eq 11, 3) := by decide +kernel
theorem dX8_key_17 : decode cX8_key 17 = .ok (.aload_n 2, 1) := by decide +kernel
theorem dX8_key_18 : decode cX8_key 18 = .ok (.getfield 143, 3) := by decide +kernel
theorem dX8_key_21 : decode cX8_key 21 = .ok (.iconst (-1), 1) := by decide +kernel
theorem dX8_key_22 : decode cX8_key 22 = .ok (.if_icmp .eq 5, 3) := by decide +kernel
theorem dX8_key_25 : decode cX8_key 25 = .ok (.iconst (-1), 1) := by decide +kernel
theorem dX8_key_26 : decode cX8_key 26 = .ok (.ireturn, 1) := by decide +kernel
theorem dX8_key_27 : decode cX8_key 27 = .ok (.aload_n 2, 1) := by decide +kernel
theorem dX8_key_28 : decode cX8_key 28 = .ok (.aload_n 0, 1) := by decide +kernel
theorem dX8_key_29 : decode cX8_key 29 = .ok (.getfield 30, 3) := by decide +kernel
theorem dX8_key_32 : decode cX8_key 32 = .ok (.iload_n 1, 1) := by decide +kernel
theorem dX8_key_33 : decode cX8_key 33 = .ok (.invokevirtual 242, 3) := by decide +kernel
theorem dX8_key_36 : decode cX8_key 36 = .ok (.putfield 143, 3) := by decide +kernel
theorem dX8_key_39 : decode cX8_key 39 = .ok (.aload_n 2, 1) := by decide +kernel
theorem dX8_key_40 : decode cX8_key 40 = .ok (.getfield 143, 3) := by decide +kernel
theorem dX8_key_43 : decode cX8_key 43 = .ok (.ireturn, 1) := by decide +kernel
theorem dX8_give_0 : decode cX8_give 0 = .ok (.aload_n 0, 1) := by decide +kernel
theorem dX8_give_1 : decode cX8_give 1 = .ok (.iload_n 1, 1) := by decide +kernel
theorem dX8_give_2 : decode cX8_give 2 = .ok (.invokevirtual 96, 3) := by decide +kernel
theorem dX8_give_5 : decode cX8_give 5 = .ok (.astore_n 2, 1) := by decide +kernel
theorem dX8_give_6 : decode cX8_give 6 = .ok (.aload_n 2, 1) := by decide +kernel
theorem dX8_give_7 : decode cX8_give 7 = .ok (.ifnonnull 5, 3) := by decide +kernel
theorem dX8_give_10 : decode cX8_give 10 = .ok (.iconst (-1), 1) := by decide +kernel
theorem dX8_give_11 : decode cX8_give 11 = .ok (.ireturn, 1) := by decide +kernel
theorem dX8_give_12 : decode cX8_give 12 = .ok (.aload_n 2, 1) := by decide +kernel
theorem dX8_give_13 : decode cX8_give 13 = .ok (.getfield 143, 3) := by decide +kernel
theorem dX8_give_16 : decode cX8_give 16 = .ok (.istore_n 3, 1) := by decide +kernel
theorem dX8_give_17 : decode cX8_give 17 = .ok (.aload_n 0, 1) := by decide +kernel
theorem dX8_give_18 : decode cX8_give 18 = .ok (.getfield 30, 3) := by decide +kernel
theorem dX8_give_21 : decode cX8_give 21 = .ok (.iload_n 3, 1) := by decide +kernel
theorem dX8_give_22 : decode cX8_give 22 = .ok (.invokevirtual 245, 3) := by decide +kernel
theorem dX8_give_25 : decode cX8_give 25 = .ok (.aload_n 2, 1) := by decide +kernel
theorem dX8_give_26 : decode cX8_give 26 = .ok (.iconst (-1), 1) := by decide +kernel
theorem dX8_give_27 : decode cX8_give 27 = .ok (.putfield 143, 3) := by decide +kernel
theorem dX8_give_30 : decode cX8_give 30 = .ok (.iload_n 3, 1) := by decide +kernel
theorem dX8_give_31 : decode cX8_give 31 = .ok (.ireturn, 1) := by decide +kernel
theorem dX8_mend_0 : decode cX8_mend 0 = .ok (.iload_n 1, 1) := by decide +kernel
theorem dX8_mend_1 : decode cX8_mend 1 = .ok (.invokestatic 248, 3) := by decide +kernel
theorem dX8_mend_4 : decode cX8_mend 4 = .ok (.ifCond .eq 15, 3) := by decide +kernel
theorem dX8_mend_7 : decode cX8_mend 7 = .ok (.aload_n 0, 1) := by decide +kernel
theorem dX8_mend_8 : decode cX8_mend 8 = .ok (.getfield 30, 3) := by decide +kernel
theorem dX8_mend_11 : decode cX8_mend 11 = .ok (.getfield 251, 3) := by decide +kernel
theorem dX8_mend_14 : decode cX8_mend 14 = .ok (.iload_n 1, 1) := by decide +kernel
theorem dX8_mend_15 : decode cX8_mend 15 = .ok (.baload, 1) := by decide +kernel
theorem dX8_mend_16 : decode cX8_mend 16 = .ok (.ifCond .ne 5, 3) := by decide +kernel
theorem dX8_mend_19 : decode cX8_mend 19 = .ok (.iconst (-1), 1) := by decide +kernel
theorem dX8_mend_20 : decode cX8_mend 20 = .ok (.ireturn, 1) := by decide +kernel
theorem dX8_mend_21 : decode cX8_mend 21 = .ok (.aload_n 0, 1) := by decide +kernel
theorem dX8_mend_22 : decode cX8_mend 22 = .ok (.getfield 30, 3) := by decide +kernel
theorem dX8_mend_25 : decode cX8_mend 25 = .ok (.getfield 255, 3) := by decide +kernel
theorem dX8_mend_28 : decode cX8_mend 28 = .ok (.iload_n 1, 1) := by decide +kernel
theorem dX8_mend_29 : decode cX8_mend 29 = .ok (.iaload, 1) := by decide +kernel
theorem dX8_mend_30 : decode cX8_mend 30 = .ok (.istore_n 2, 1) := by decide +kernel
theorem dX8_mend_31 : decode cX8_mend 31 = .ok (.aload_n 0, 1) := by decide +kernel
theorem dX8_mend_32 : decode cX8_mend 32 = .ok (.getfield 30, 3) := by decide +kernel
theorem dX8_mend_35 : decode cX8_mend 35 = .ok (.iload_n 1, 1) := by decide +kernel
theorem dX8_mend_36 : decode cX8_mend 36 = .ok (.invokevirtual 245, 3) := by decide +kernel
theorem dX8_mend_39 : decode cX8_mend 39 = .ok (.iload_n 2, 1) := by decide +kernel
theorem dX8_mend_40 : decode cX8_mend 40 = .ok (.ireturn, 1) := by decide +kernel
theorem dX8_locker_0 : decode cX8_locker 0 = .ok (.iload_n 1, 1) := by decide +kernel
theorem dX8_locker_1 : decode cX8_locker 1 = .ok (.invokestatic 248, 3) := by decide +kernel
theorem dX8_locker_4 : decode cX8_locker 4 = .ok (.ifCond .ne 6, 3) := by decide +kernel
theorem dX8_locker_7 : decode cX8_locker 7 = .ok (.bipush (-3), 2) := by decide +kernel
theorem dX8_locker_9 : decode cX8_locker 9 = .ok (.ireturn, 1) := by decide +kernel
theorem dX8_locker_10 : decode cX8_locker 10 = .ok (.aload_n 0, 1) := by decide +kernel
theorem dX8_locker_11 : decode cX8_locker 11 = .ok (.getfield 30, 3) := by decide +kernel
theorem dX8_locker_14 : decode cX8_locker 14 = .ok (.getfield 251, 3) := by decide +kernel
theorem dX8_locker_17 : decode cX8_locker 17 = .ok (.iload_n 1, 1) := by decide +kernel
theorem dX8_locker_18 : decode cX8_locker 18 = .ok (.baload, 1) := by decide +kernel
theorem dX8_locker_19 : decode cX8_locker 19 = .ok (.ifCond .eq 8, 3) := by decide +kernel
theorem dX8_locker_22 : decode cX8_locker 22 = .ok (.bipush (-2), 2) := by decide +kernel
theorem dX8_locker_24 : decode cX8_locker 24 = .ok (.goto 12, 3) := by decide +kernel
theorem dX8_locker_27 : decode cX8_locker 27 = .ok (.aload_n 0, 1) := by decide +kernel
theorem dX8_locker_28 : decode cX8_locker 28 = .ok (.getfield 30, 3) := by decide +kernel
theorem dX8_locker_31 : decode cX8_locker 31 = .ok (.getfield 255, 3) := by decide +kernel
theorem dX8_locker_34 : decode cX8_locker 34 = .ok (.iload_n 1, 1) := by decide +kernel
theorem dX8_locker_35 : decode cX8_locker 35 = .ok (.iaload, 1) := by decide +kernel
theorem dX8_locker_36 : decode cX8_locker 36 = .ok (.ireturn, 1) := by decide +kernel
theorem dX8_told_0 : decode cX8_told 0 = .ok (.aload_n 0, 1) := by decide +kernel
theorem dX8_told_1 : decode cX8_told 1 = .ok (.iload_n 1, 1) := by decide +kernel
theorem dX8_told_2 : decode cX8_told 2 = .ok (.invokevirtual 96, 3) := by decide +kernel
theorem dX8_told_5 : decode cX8_told 5 = .ok (.astore_n 3, 1) := by decide +kernel
theorem dX8_told_6 : decode cX8_told 6 = .ok (.aload_n 3, 1) := by decide +kernel
theorem dX8_told_7 : decode cX8_told 7 = .ok (.ifnonnull 5, 3) := by decide +kernel
theorem dX8_told_10 : decode cX8_told 10 = .ok (.iconst (-1), 1) := by decide +kernel
theorem dX8_told_11 : decode cX8_told 11 = .ok (.ireturn, 1) := by decide +kernel
theorem dX8_told_12 : decode cX8_told 12 = .ok (.iload_n 2, 1) := by decide +kernel
theorem dX8_told_13 : decode cX8_told 13 = .ok (.tableswitch 102 0 7 #[47, 55, 60, 65, 78, 83, 88, 93], 47) := by decide +kernel
theorem dX8_told_60 : decode cX8_told 60 = .ok (.aload_n 3, 1) := by decide +kernel
theorem dX8_told_61 : decode cX8_told 61 = .ok (.getfield 108, 3) := by decide +kernel
theorem dX8_told_64 : decode cX8_told 64 = .ok (.getfield 259, 3) := by decide +kernel
theorem dX8_told_67 : decode cX8_told 67 = .ok (.ireturn, 1) := by decide +kernel
theorem dX8_told_68 : decode cX8_told 68 = .ok (.aload_n 3, 1) := by decide +kernel
theorem dX8_told_69 : decode cX8_told 69 = .ok (.getfield 262, 3) := by decide +kernel
theorem dX8_told_72 : decode cX8_told 72 = .ok (.ireturn, 1) := by decide +kernel
theorem dX8_told_73 : decode cX8_told 73 = .ok (.aload_n 3, 1) := by decide +kernel
theorem dX8_told_74 : decode cX8_told 74 = .ok (.getfield 265, 3) := by decide +kernel
theorem dX8_told_77 : decode cX8_told 77 = .ok (.ireturn, 1) := by decide +kernel
theorem dX8_told_78 : decode cX8_told 78 = .ok (.aload_n 3, 1) := by decide +kernel
theorem dX8_told_79 : decode cX8_told 79 = .ok (.getfield 116, 3) := by decide +kernel
theorem dX8_told_82 : decode cX8_told 82 = .ok (.ifCond .eq 7, 3) := by decide +kernel
theorem dX8_told_85 : decode cX8_told 85 = .ok (.iconst 1, 1) := by decide +kernel
theorem dX8_told_86 : decode cX8_told 86 = .ok (.goto 4, 3) := by decide +kernel
theorem dX8_told_89 : decode cX8_told 89 = .ok (.iconst 0, 1) := by decide +kernel
theorem dX8_told_90 : decode cX8_told 90 = .ok (.ireturn, 1) := by decide +kernel
theorem dX8_told_91 : decode cX8_told 91 = .ok (.aload_n 3, 1) := by decide +kernel
theorem dX8_told_92 : decode cX8_told 92 = .ok (.getfield 143, 3) := by decide +kernel
theorem dX8_told_95 : decode cX8_told 95 = .ok (.ireturn, 1) := by decide +kernel
theorem dX8_told_96 : decode cX8_told 96 = .ok (.aload_n 3, 1) := by decide +kernel
theorem dX8_told_97 : decode cX8_told 97 = .ok (.getfield 268, 3) := by decide +kernel
theorem dX8_told_100 : decode cX8_told 100 = .ok (.ireturn, 1) := by decide +kernel
theorem dX8_told_101 : decode cX8_told 101 = .ok (.aload_n 3, 1) := by decide +kernel
theorem dX8_told_102 : decode cX8_told 102 = .ok (.getfield 271, 3) := by decide +kernel
theorem dX8_told_105 : decode cX8_told 105 = .ok (.ireturn, 1) := by decide +kernel
theorem dX8_told_106 : decode cX8_told 106 = .ok (.aload_n 3, 1) := by decide +kernel
theorem dX8_told_107 : decode cX8_told 107 = .ok (.aload_n 0, 1) := by decide +kernel
theorem dX8_told_108 : decode cX8_told 108 = .ok (.getfield 45, 3) := by decide +kernel
theorem dX8_told_111 : decode cX8_told 111 = .ok (.invokevirtual 274, 3) := by decide +kernel
theorem dX8_told_114 : decode cX8_told 114 = .ok (.ireturn, 1) := by decide +kernel
theorem dX8_told_115 : decode cX8_told 115 = .ok (.iconst (-1), 1) := by decide +kernel
theorem dX8_told_116 : decode cX8_told 116 = .ok (.ireturn, 1) := by decide +kernel
theorem dX8_pump_0 : decode cX8_pump 0 = .ok (.aload_n 0, 1) := by decide +kernel
theorem dX8_pump_1 : decode cX8_pump 1 = .ok (.iload_n 1, 1) := by decide +kernel
theorem dX8_pump_2 : decode cX8_pump 2 = .ok (.invokevirtual 58, 3) := by decide +kernel
theorem dX8_pump_5 : decode cX8_pump 5 = .ok (.astore 4, 2) := by decide +kernel
theorem dX8_pump_7 : decode cX8_pump 7 = .ok (.aload 4, 2) := by decide +kernel
theorem dX8_pump_9 : decode cX8_pump 9 = .ok (.ifnull 24, 3) := by decide +kernel
theorem dX8_pump_12 : decode cX8_pump 12 = .ok (.iload_n 2, 1) := by decide +kernel
theorem dX8_pump_13 : decode cX8_pump 13 = .ok (.iconst 1, 1) := by decide +kernel
theorem dX8_pump_14 : decode cX8_pump 14 = .ok (.ldc 187, 2) := by decide +kernel
theorem dX8_pump_16 : decode cX8_pump 16 = .ok (.invokestatic 48, 3) := by decide +kernel
theorem dX8_pump_19 : decode cX8_pump 19 = .ok (.ifCond .eq 14, 3) := by decide +kernel
theorem dX8_pump_22 : decode cX8_pump 22 = .ok (.iload_n 3, 1) := by decide +kernel
theorem dX8_pump_23 : decode cX8_pump 23 = .ok (.iconst 1, 1) := by decide +kernel
theorem dX8_pump_24 : decode cX8_pump 24 = .ok (.sipush 10000, 3) := by decide +kernel
theorem dX8_pump_27 : decode cX8_pump 27 = .ok (.invokestatic 48, 3) := by decide +kernel
theorem dX8_pump_30 : decode cX8_pump 30 = .ok (.ifCond .ne 5, 3) := by decide +kernel
theorem dX8_pump_33 : decode cX8_pump 33 = .ok (.iconst 0, 1) := by decide +kernel
theorem dX8_pump_34 : decode cX8_pump 34 = .ok (.ireturn, 1) := by decide +kernel
theorem dX8_pump_35 : decode cX8_pump 35 = .ok (.aload 4, 2) := by decide +kernel
theorem dX8_pump_37 : decode cX8_pump 37 = .ok (.iload_n 2, 1) := by decide +kernel
theorem dX8_pump_38 : decode cX8_pump 38 = .ok (.putfield 277, 3) := by decide +kernel
theorem dX8_pump_41 : decode cX8_pump 41 = .ok (.aload 4, 2) := by decide +kernel
theorem dX8_pump_43 : decode cX8_pump 43 = .ok (.iload_n 3, 1) := by decide +kernel
theorem dX8_pump_44 : decode cX8_pump 44 = .ok (.putfield 280, 3) := by decide +kernel
theorem dX8_pump_47 : decode cX8_pump 47 = .ok (.iconst 1, 1) := by decide +kernel
theorem dX8_pump_48 : decode cX8_pump 48 = .ok (.ireturn, 1) := by decide +kernel
theorem dX8_price_0 : decode cX8_price 0 = .ok (.iload_n 1, 1) := by decide +kernel
theorem dX8_price_1 : decode cX8_price 1 = .ok (.iconst 0, 1) := by decide +kernel
theorem dX8_price_2 : decode cX8_price 2 = .ok (.bipush 23, 2) := by decide +kernel
theorem dX8_price_4 : decode cX8_price 4 = .ok (.invokestatic 48, 3) := by decide +kernel
theorem dX8_price_7 : decode cX8_price 7 = .ok (.ifCond .eq 14, 3) := by decide +kernel
theorem dX8_price_10 : decode cX8_price 10 = .ok (.iload_n 2, 1) := by decide +kernel
theorem dX8_price_11 : decode cX8_price 11 = .ok (.iconst 0, 1) := by decide +kernel
theorem dX8_price_12 : decode cX8_price 12 = .ok (.sipush 10000, 3) := by decide +kernel
theorem dX8_price_15 : decode cX8_price 15 = .ok (.invokestatic 48, 3) := by decide +kernel
theorem dX8_price_18 : decode cX8_price 18 = .ok (.ifCond .ne 5, 3) := by decide +kernel
theorem dX8_price_21 : decode cX8_price 21 = .ok (.iconst 0, 1) := by decide +kernel
theorem dX8_price_22 : decode cX8_price 22 = .ok (.ireturn, 1) := by decide +kernel
theorem dX8_price_23 : decode cX8_price 23 = .ok (.aload_n 0, 1) := by decide +kernel
theorem dX8_price_24 : decode cX8_price 24 = .ok (.getfield 37, 3) := by decide +kernel
theorem dX8_price_27 : decode cX8_price 27 = .ok (.getfield 283, 3) := by decide +kernel
theorem dX8_price_30 : decode cX8_price 30 = .ok (.iload_n 1, 1) := by decide +kernel
theorem dX8_price_31 : decode cX8_price 31 = .ok (.iload_n 2, 1) := by decide +kernel
theorem dX8_price_32 : decode cX8_price 32 = .ok (.iastore, 1) := by decide +kernel
theorem dX8_price_33 : decode cX8_price 33 = .ok (.iconst 1, 1) := by decide +kernel
theorem dX8_price_34 : decode cX8_price 34 = .ok (.ireturn, 1) := by decide +kernel
theorem dX8_turn_0 : decode cX8_turn 0 = .ok (.aload_n 0, 1) := by decide +kernel
theorem dX8_turn_1 : decode cX8_turn 1 = .ok (.iload_n 1, 1) := by decide +kernel
theorem dX8_turn_2 : decode cX8_turn 2 = .ok (.invokevirtual 58, 3) := by decide +kernel
theorem dX8_turn_5 : decode cX8_turn 5 = .ok (.astore_n 3, 1) := by decide +kernel
theorem dX8_turn_6 : decode cX8_turn 6 = .ok (.aload_n 3, 1) := by decide +kernel
theorem dX8_turn_7 : decode cX8_turn 7 = .ok (.ifnull 22, 3) := by decide +kernel
theorem dX8_turn_10 : decode cX8_turn 10 = .ok (.aload_n 3, 1) := by decide +kernel
theorem dX8_turn_11 : decode cX8_turn 11 = .ok (.getfield 280, 3) := by decide +kernel
theorem dX8_turn_14 : decode cX8_turn 14 = .ok (.iconst 1, 1) := by decide +kernel
theorem dX8_turn_15 : decode cX8_turn 15 = .ok (.if_icmp .lt 14, 3) := by decide +kernel
theorem dX8_turn_18 : decode cX8_turn 18 = .ok (.iload_n 2, 1) := by decide +kernel
theorem dX8_turn_19 : decode cX8_turn 19 = .ok (.iconst 0, 1) := by decide +kernel
theorem dX8_turn_20 : decode cX8_turn 20 = .ok (.sipush 1000, 3) := by decide +kernel
theorem dX8_turn_23 : decode cX8_turn 23 = .ok (.invokestatic 48, 3) := by decide +kernel
theorem dX8_turn_26 : decode cX8_turn 26 = .ok (.ifCond .ne 5, 3) := by decide +kernel
theorem dX8_turn_29 : decode cX8_turn 29 = .ok (.iconst (-1), 1) := by decide +kernel
theorem dX8_turn_30 : decode cX8_turn 30 = .ok (.ireturn, 1) := by decide +kernel
theorem dX8_turn_31 : decode cX8_turn 31 = .ok (.aload_n 3, 1) := by decide +kernel
theorem dX8_turn_32 : decode cX8_turn 32 = .ok (.getfield 277, 3) := by decide +kernel
theorem dX8_turn_35 : decode cX8_turn 35 = .ok (.aload_n 3, 1) := by decide +kernel
theorem dX8_turn_36 : decode cX8_turn 36 = .ok (.getfield 280, 3) := by decide +kernel
theorem dX8_turn_39 : decode cX8_turn 39 = .ok (.iload_n 2, 1) := by decide +kernel
theorem dX8_turn_40 : decode cX8_turn 40 = .ok (.invokestatic 286, 3) := by decide +kernel
theorem dX8_turn_43 : decode cX8_turn 43 = .ok (.istore 4, 2) := by decide +kernel
theorem dX8_turn_45 : decode cX8_turn 45 = .ok (.iload 4, 2) := by decide +kernel
theorem dX8_turn_47 : decode cX8_turn 47 = .ok (.bipush 24, 2) := by decide +kernel
theorem dX8_turn_49 : decode cX8_turn 49 = .ok (.if_icmp .le 6, 3) := by decide +kernel
theorem dX8_turn_52 : decode cX8_turn 52 = .ok (.bipush 25, 2) := by decide +kernel
theorem dX8_turn_54 : decode cX8_turn 54 = .ok (.ireturn, 1) := by decide +kernel
theorem dX8_turn_55 : decode cX8_turn 55 = .ok (.aload_n 0, 1) := by decide +kernel
theorem dX8_turn_56 : decode cX8_turn 56 = .ok (.getfield 37, 3) := by decide +kernel
theorem dX8_turn_59 : decode cX8_turn 59 = .ok (.iload 4, 2) := by decide +kernel
theorem dX8_turn_61 : decode cX8_turn 61 = .ok (.invokevirtual 290, 3) := by decide +kernel
theorem dX8_turn_64 : decode cX8_turn 64 = .ok (.iload 4, 2) := by decide +kernel
theorem dX8_turn_66 : decode cX8_turn 66 = .ok (.ireturn, 1) := by decide +kernel
theorem dX8_hour_0 : decode cX8_hour 0 = .ok (.aload_n 0, 1) := by decide +kernel
theorem dX8_hour_1 : decode cX8_hour 1 = .ok (.getfield 37, 3) := by decide +kernel
theorem dX8_hour_4 : decode cX8_hour 4 = .ok (.getfield 293, 3) := by decide +kernel
theorem dX8_hour_7 : decode cX8_hour 7 = .ok (.ifCond .eq 13, 3) := by decide +kernel
theorem dX8_hour_10 : decode cX8_hour 10 = .ok (.iload_n 1, 1) := by decide +kernel
theorem dX8_hour_11 : decode cX8_hour 11 = .ok (.iconst 0, 1) := by decide +kernel
theorem dX8_hour_12 : decode cX8_hour 12 = .ok (.bipush 24, 2) := by decide +kernel
theorem dX8_hour_14 : decode cX8_hour 14 = .ok (.invokestatic 48, 3) := by decide +kernel
theorem dX8_hour_17 : decode cX8_hour 17 = .ok (.ifCond .ne 5, 3) := by decide +kernel
theorem dX8_hour_20 : decode cX8_hour 20 = .ok (.iconst (-1), 1) := by decide +kernel
theorem dX8_hour_21 : decode cX8_hour 21 = .ok (.ireturn, 1) := by decide +kernel
theorem dX8_hour_22 : decode cX8_hour 22 = .ok (.iload_n 1, 1) := by decide +kernel
theorem dX8_hour_23 : decode cX8_hour 23 = .ok (.bipush 24, 2) := by decide +kernel
theorem dX8_hour_25 : decode cX8_hour 25 = .ok (.if_icmp .ne 11, 3) := by decide +kernel
theorem dX8_hour_28 : decode cX8_hour 28 = .ok (.aload_n 0, 1) := by decide +kernel
theorem dX8_hour_29 : decode cX8_hour 29 = .ok (.getfield 37, 3) := by decide +kernel
theorem dX8_hour_32 : decode cX8_hour 32 = .ok (.getfield 296, 3) := by decide +kernel
theorem dX8_hour_35 : decode cX8_hour 35 = .ok (.ireturn, 1) := by decide +kernel
theorem dX8_hour_36 : decode cX8_hour 36 = .ok (.aload_n 0, 1) := by decide +kernel
theorem dX8_hour_37 : decode cX8_hour 37 = .ok (.getfield 37, 3) := by decide +kernel
theorem dX8_hour_40 : decode cX8_hour 40 = .ok (.getfield 299, 3) := by decide +kernel
theorem dX8_hour_43 : decode cX8_hour 43 = .ok (.iload_n 1, 1) := by decide +kernel
theorem dX8_hour_44 : decode cX8_hour 44 = .ok (.baload, 1) := by decide +kernel
theorem dX8_hour_45 : decode cX8_hour 45 = .ok (.ifCond .eq 7, 3) := by decide +kernel
theorem dX8_hour_48 : decode cX8_hour 48 = .ok (.iconst 1, 1) := by decide +kernel
theorem dX8_hour_49 : decode cX8_hour 49 = .ok (.goto 4, 3) := by decide +kernel
theorem dX8_hour_52 : decode cX8_hour 52 = .ok (.iconst 0, 1) := by decide +kernel
theorem dX8_hour_53 : decode cX8_hour 53 = .ok (.ireturn, 1) := by decide +kernel
theorem dX8_all_0 : decode cX8_all 0 = .ok (.iload_n 1, 1) := by decide +kernel
theorem dX8_all_1 : decode cX8_all 1 = .ok (.tableswitch 84 0 6 #[43, 48, 53, 58, 66, 71, 76], 43) := by decide +kernel
theorem dX8_all_44 : decode cX8_all 44 = .ok (.aload_n 0, 1) := by decide +kernel
theorem dX8_all_45 : decode cX8_all 45 = .ok (.getfield 45, 3) := by decide +kernel
theorem dX8_all_48 : decode cX8_all 48 = .ok (.ireturn, 1) := by decide +kernel
theorem dX8_all_49 : decode cX8_all 49 = .ok (.aload_n 0, 1) := by decide +kernel
theorem dX8_all_50 : decode cX8_all 50 = .ok (.getfield 62, 3) := by decide +kernel
theorem dX8_all_53 : decode cX8_all 53 = .ok (.ireturn, 1) := by decide +kernel
theorem dX8_all_54 : decode cX8_all 54 = .ok (.aload_n 0, 1) := by decide +kernel
theorem dX8_all_55 : decode cX8_all 55 = .ok (.getfield 80, 3) := by decide +kernel
theorem dX8_all_58 : decode cX8_all 58 = .ok (.ireturn, 1) := by decide +kernel
theorem dX8_all_59 : decode cX8_all 59 = .ok (.aload_n 0, 1) := by decide +kernel
theorem dX8_all_60 : decode cX8_all 60 = .ok (.getfield 30, 3) := by decide +kernel
theorem dX8_all_63 : decode cX8_all 63 = .ok (.invokevirtual 302, 3) := by decide +kernel
theorem dX8_all_66 : decode cX8_all 66 = .ok (.ireturn, 1) := by decide +kernel
theorem dX8_all_67 : decode cX8_all 67 = .ok (.aload_n 0, 1) := by decide +kernel
theorem dX8_all_68 : decode cX8_all 68 = .ok (.getfield 133, 3) := by decide +kernel
theorem dX8_all_71 : decode cX8_all 71 = .ok (.ireturn, 1) := by decide +kernel
theorem dX8_all_72 : decode cX8_all 72 = .ok (.aload_n 0, 1) := by decide +kernel
theorem dX8_all_73 : decode cX8_all 73 = .ok (.invokevirtual 305, 3) := by decide +kernel
theorem dX8_all_76 : decode cX8_all 76 = .ok (.ireturn, 1) := by decide +kernel
theorem dX8_all_77 : decode cX8_all 77 = .ok (.aload_n 0, 1) := by decide +kernel
theorem dX8_all_78 : decode cX8_all 78 = .ok (.getfield 30, 3) := by decide +kernel
theorem dX8_all_81 : decode cX8_all 81 = .ok (.invokevirtual 308, 3) := by decide +kernel
theorem dX8_all_84 : decode cX8_all 84 = .ok (.ireturn, 1) := by decide +kernel
theorem dX8_all_85 : decode cX8_all 85 = .ok (.iconst (-1), 1) := by decide +kernel
theorem dX8_all_86 : decode cX8_all 86 = .ok (.ireturn, 1) := by decide +kernel
theorem dX8_isWithin_0 : decode cX8_isWithin 0 = .ok (.iload_n 0, 1) := by decide +kernel
theorem dX8_isWithin_1 : decode cX8_isWithin 1 = .ok (.iload_n 1, 1) := by decide +kernel
theorem dX8_isWithin_2 : decode cX8_isWithin 2 = .ok (.if_icmp .lt 12, 3) := by decide +kernel
theorem dX8_isWithin_5 : decode cX8_isWithin 5 = .ok (.iload_n 0, 1) := by decide +kernel
theorem dX8_isWithin_6 : decode cX8_isWithin 6 = .ok (.iload_n 2, 1) := by decide +kernel
theorem dX8_isWithin_7 : decode cX8_isWithin 7 = .ok (.if_icmp .gt 7, 3) := by decide +kernel
theorem dX8_isWithin_10 : decode cX8_isWithin 10 = .ok (.iconst 1, 1) := by decide +kernel
theorem dX8_isWithin_11 : decode cX8_isWithin 11 = .ok (.goto 4, 3) := by decide +kernel
theorem dX8_isWithin_14 : decode cX8_isWithin 14 = .ok (.iconst 0, 1) := by decide +kernel
theorem dX8_isWithin_15 : decode cX8_isWithin 15 = .ok (.ireturn, 1) := by decide +kernel
theorem dX8_poolOf_0 : decode cX8_poolOf 0 = .ok (.iload_n 1, 1) := by decide +kernel
theorem dX8_poolOf_1 : decode cX8_poolOf 1 = .ok (.iconst 0, 1) := by decide +kernel
theorem dX8_poolOf_2 : decode cX8_poolOf 2 = .ok (.iconst 3, 1) := by decide +kernel
theorem dX8_poolOf_3 : decode cX8_poolOf 3 = .ok (.invokestatic 48, 3) := by decide +kernel
theorem dX8_poolOf_6 : decode cX8_poolOf 6 = .ok (.ifCond .eq 12, 3) := by decide +kernel
theorem dX8_poolOf_9 : decode cX8_poolOf 9 = .ok (.aload_n 0, 1) := by decide +kernel
theorem dX8_poolOf_10 : decode cX8_poolOf 10 = .ok (.getfield 11, 3) := by decide +kernel
theorem dX8_poolOf_13 : decode cX8_poolOf 13 = .ok (.iload_n 1, 1) := by decide +kernel
theorem dX8_poolOf_14 : decode cX8_poolOf 14 = .ok (.aaload, 1) := by decide +kernel
theorem dX8_poolOf_15 : decode cX8_poolOf 15 = .ok (.goto 4, 3) := by decide +kernel
theorem dX8_poolOf_18 : decode cX8_poolOf 18 = .ok (.aconst_null, 1) := by decide +kernel
theorem dX8_poolOf_19 : decode cX8_poolOf 19 = .ok (.areturn, 1) := by decide +kernel
theorem dX8_ticketOf_0 : decode cX8_ticketOf 0 = .ok (.iload_n 1, 1) := by decide +kernel
theorem dX8_ticketOf_1 : decode cX8_ticketOf 1 = .ok (.iconst 0, 1) := by decide +kernel
theorem dX8_ticketOf_2 : decode cX8_ticketOf 2 = .ok (.sipush 199, 3) := by decide +kernel
theorem dX8_ticketOf_5 : decode cX8_ticketOf 5 = .ok (.invokestatic 48, 3) := by decide +kernel
theorem dX8_ticketOf_8 : decode cX8_ticketOf 8 = .ok (.ifCond .eq 12, 3) := by decide +kernel
theorem dX8_ticketOf_11 : decode cX8_ticketOf 11 = .ok (.aload_n 0, 1) := by decide +kernel
theorem dX8_ticketOf_12 : decode cX8_ticketOf 12 = .ok (.getfield 17, 3) := by decide +kernel
theorem dX8_ticketOf_15 : decode cX8_ticketOf 15 = .ok (.iload_n 1, 1) := by decide +kernel
theorem dX8_ticketOf_16 : decode cX8_ticketOf 16 = .ok (.aaload, 1) := by decide +kernel
theorem dX8_ticketOf_17 : decode cX8_ticketOf 17 = .ok (.goto 4, 3) := by decide +kernel
theorem dX8_ticketOf_20 : decode cX8_ticketOf 20 = .ok (.aconst_null, 1) := by decide +kernel
theorem dX8_ticketOf_21 : decode cX8_ticketOf 21 = .ok (.areturn, 1) := by decide +kernel
theorem dX8_clubOf_0 : decode cX8_clubOf 0 = .ok (.iload_n 1, 1) := by decide +kernel
theorem dX8_clubOf_1 : decode cX8_clubOf 1 = .ok (.iconst 0, 1) := by decide +kernel
theorem dX8_clubOf_2 : decode cX8_clubOf 2 = .ok (.bipush 19, 2) := by decide +kernel
theorem dX8_clubOf_4 : decode cX8_clubOf 4 = .ok (.invokestatic 48, 3) := by decide +kernel
theorem dX8_clubOf_7 : decode cX8_clubOf 7 = .ok (.ifCond .eq 12, 3) := by decide +kernel
theorem dX8_clubOf_10 : decode cX8_clubOf 10 = .ok (.aload_n 0, 1) := by decide +kernel
theorem dX8_clubOf_11 : decode cX8_clubOf 11 = .ok (.getfield 23, 3) := by decide +kernel
theorem dX8_clubOf_14 : decode cX8_clubOf 14 = .ok (.iload_n 1, 1) := by decide +kernel
theorem dX8_clubOf_15 : decode cX8_clubOf 15 = .ok (.aaload, 1) := by decide +kernel
theorem dX8_clubOf_16 : decode cX8_clubOf 16 = .ok (.goto 4, 3) := by decide +kernel
theorem dX8_clubOf_19 : decode cX8_clubOf 19 = .ok (.aconst_null, 1) := by decide +kernel
theorem dX8_clubOf_20 : decode cX8_clubOf 20 = .ok (.areturn, 1) := by decide +kernel
theorem dX8_thingOf_0 : decode cX8_thingOf 0 = .ok (.aload_n 0, 1) := by decide +kernel
theorem dX8_thingOf_1 : decode cX8_thingOf 1 = .ok (.iload_n 1, 1) := by decide +kernel
theorem dX8_thingOf_2 : decode cX8_thingOf 2 = .ok (.invokevirtual 58, 3) := by decide +kernel
theorem dX8_thingOf_5 : decode cX8_thingOf 5 = .ok (.astore_n 3, 1) := by decide +kernel
theorem dX8_thingOf_6 : decode cX8_thingOf 6 = .ok (.aload_n 3, 1) := by decide +kernel
theorem dX8_thingOf_7 : decode cX8_thingOf 7 = .ok (.ifnull 21, 3) := by decide +kernel
theorem dX8_thingOf_10 : decode cX8_thingOf 10 = .ok (.iload_n 2, 1) := by decide +kernel
theorem dX8_thingOf_11 : decode cX8_thingOf 11 = .ok (.iconst 0, 1) := by decide +kernel
theorem dX8_thingOf_12 : decode cX8_thingOf 12 = .ok (.iconst 2, 1) := by decide +kernel
theorem dX8_thingOf_13 : decode cX8_thingOf 13 = .ok (.invokestatic 48, 3) := by decide +kernel
theorem dX8_thingOf_16 : decode cX8_thingOf 16 = .ok (.ifCond .eq 12, 3) := by decide +kernel
theorem dX8_thingOf_19 : decode cX8_thingOf 19 = .ok (.aload_n 3, 1) := by decide +kernel
theorem dX8_thingOf_20 : decode cX8_thingOf 20 = .ok (.getfield 311, 3) := by decide +kernel
theorem dX8_thingOf_23 : decode cX8_thingOf 23 = .ok (.iload_n 2, 1) := by decide +kernel
theorem dX8_thingOf_24 : decode cX8_thingOf 24 = .ok (.aaload, 1) := by decide +kernel
theorem dX8_thingOf_25 : decode cX8_thingOf 25 = .ok (.goto 4, 3) := by decide +kernel
theorem dX8_thingOf_28 : decode cX8_thingOf 28 = .ok (.aconst_null, 1) := by decide +kernel
theorem dX8_thingOf_29 : decode cX8_thingOf 29 = .ok (.areturn, 1) := by decide +kernel
theorem dX8_postOf_0 : decode cX8_postOf 0 = .ok (.aload_n 0, 1) := by decide +kernel
theorem dX8_postOf_1 : decode cX8_postOf 1 = .ok (.iload_n 1, 1) := by decide +kernel
theorem dX8_postOf_2 : decode cX8_postOf 2 = .ok (.invokevirtual 58, 3) := by decide +kernel
theorem dX8_postOf_5 : decode cX8_postOf 5 = .ok (.astore_n 3, 1) := by decide +kernel
theorem dX8_postOf_6 : decode cX8_postOf 6 = .ok (.aload_n 3, 1) := by decide +kernel
theorem dX8_postOf_7 : decode cX8_postOf 7 = .ok (.ifnull 27, 3) := by decide +kernel
theorem dX8_postOf_10 : decode cX8_postOf 10 = .ok (.iload_n 2, 1) := by decide +kernel
theorem dX8_postOf_11 : decode cX8_postOf 11 = .ok (.iconst 0, 1) := by decide +kernel
theorem dX8_postOf_12 : decode cX8_postOf 12 = .ok (.aload_n 3, 1) := by decide +kernel
theorem dX8_postOf_13 : decode cX8_postOf 13 = .ok (.getfield 315, 3) := by decide +kernel
theorem dX8_postOf_16 : decode cX8_postOf 16 = .ok (.arraylength, 1) := by decide +kernel
theorem dX8_postOf_17 : decode cX8_postOf 17 = .ok (.iconst 1, 1) := by decide +kernel
theorem dX8_postOf_18 : decode cX8_postOf 18 = .ok (.isub, 1) := by decide +kernel
theorem dX8_postOf_19 : decode cX8_postOf 19 = .ok (.invokestatic 48, 3) := by decide +kernel
theorem dX8_postOf_22 : decode cX8_postOf 22 = .ok (.ifCond .eq 12, 3) := by decide +kernel
theorem dX8_postOf_25 : decode cX8_postOf 25 = .ok (.aload_n 3, 1) := by decide +kernel
theorem dX8_postOf_26 : decode cX8_postOf 26 = .ok (.getfield 315, 3) := by decide +kernel
theorem dX8_postOf_29 : decode cX8_postOf 29 = .ok (.iload_n 2, 1) := by decide +kernel
theorem dX8_postOf_30 : decode cX8_postOf 30 = .ok (.aaload, 1) := by decide +kernel
theorem dX8_postOf_31 : decode cX8_postOf 31 = .ok (.goto 4, 3) := by decide +kernel
theorem dX8_postOf_34 : decode cX8_postOf 34 = .ok (.aconst_null, 1) := by decide +kernel
theorem dX8_postOf_35 : decode cX8_postOf 35 = .ok (.areturn, 1) := by decide +kernel
theorem dX8_numberOf_0 : decode cX8_numberOf 0 = .ok (.aload_n 0, 1) := by decide +kernel
theorem dX8_numberOf_1 : decode cX8_numberOf 1 = .ok (.ifnonnull 7, 3) := by decide +kernel
theorem dX8_numberOf_4 : decode cX8_numberOf 4 = .ok (.iconst (-1), 1) := by decide +kernel
theorem dX8_numberOf_5 : decode cX8_numberOf 5 = .ok (.goto 7, 3) := by decide +kernel
theorem dX8_numberOf_8 : decode cX8_numberOf 8 = .ok (.aload_n 0, 1) := by decide +kernel
theorem dX8_numberOf_9 : decode cX8_numberOf 9 = .ok (.getfield 319, 3) := by decide +kernel
theorem dX8_numberOf_12 : decode cX8_numberOf 12 = .ok (.ireturn, 1) := by decide +kernel
theorem dX8_endMinute_0 : decode cX8_endMinute 0 = .ok (.iconst 0, 1) := by decide +kernel
theorem dX8_endMinute_1 : decode cX8_endMinute 1 = .ok (.istore_n 1, 1) := by decide +kernel
theorem dX8_endMinute_2 : decode cX8_endMinute 2 = .ok (.iload_n 1, 1) := by decide +kernel
theorem dX8_endMinute_3 : decode cX8_endMinute 3 = .ok (.iconst 4, 1) := by decide +kernel
theorem dX8_endMinute_4 : decode cX8_endMinute 4 = .ok (.if_icmp .ge 28, 3) := by decide +kernel
theorem dX8_endMinute_7 : decode cX8_endMinute 7 = .ok (.aload_n 0, 1) := by decide +kernel
theorem dX8_endMinute_8 : decode cX8_endMinute 8 = .ok (.getfield 11, 3) := by decide +kernel
theorem dX8_endMinute_11 : decode cX8_endMinute 11 = .ok (.iload_n 1, 1) := by decide +kernel
theorem dX8_endMinute_12 : decode cX8_endMinute 12 = .ok (.aaload, 1) := by decide +kernel
theorem dX8_endMinute_13 : decode cX8_endMinute 13 = .ok (.astore_n 2, 1) := by decide +kernel
theorem dX8_endMinute_14 : decode cX8_endMinute 14 = .ok (.aload_n 2, 1) := by decide +kernel
theorem dX8_endMinute_15 : decode cX8_endMinute 15 = .ok (.ifnull 11, 3) := by decide +kernel
theorem dX8_endMinute_18 : decode cX8_endMinute 18 = .ok (.aload_n 2, 1) := by decide +kernel
theorem dX8_endMinute_19 : decode cX8_endMinute 19 = .ok (.aload_n 0, 1) := by decide +kernel
theorem dX8_endMinute_20 : decode cX8_endMinute 20 = .ok (.getfield 45, 3) := by decide +kernel
theorem dX8_endMinute_23 : decode cX8_endMinute 23 = .ok (.invokevirtual 320, 3) := by decide +kernel
theorem dX8_endMinute_26 : decode cX8_endMinute 26 = .ok (.iinc 1 1, 3) := by decide +kernel
theorem dX8_endMinute_29 : decode cX8_endMinute 29 = .ok (.goto (-27), 3) := by decide +kernel
theorem dX8_endMinute_32 : decode cX8_endMinute 32 = .ok (.return_, 1) := by decide +kernel
theorem dX8_isClubKind_0 : decode cX8_isClubKind 0 = .ok (.iload_n 0, 1) := by decide +kernel
theorem dX8_isClubKind_1 : decode cX8_isClubKind 1 = .ok (.iconst 2, 1) := by decide +kernel
theorem dX8_isClubKind_2 : decode cX8_isClubKind 2 = .ok (.if_icmp .eq 8, 3) := by decide +kernel
theorem dX8_isClubKind_5 : decode cX8_isClubKind 5 = .ok (.iload_n 0, 1) := by decide +kernel
theorem dX8_isClubKind_6 : decode cX8_isClubKind 6 = .ok (.iconst 3, 1) := by decide +kernel
theorem dX8_isClubKind_7 : decode cX8_isClubKind 7 = .ok (.if_icmp .ne 7, 3) := by decide +kernel
theorem dX8_isClubKind_10 : decode cX8_isClubKind 10 = .ok (.iconst 1, 1) := by decide +kernel
theorem dX8_isClubKind_11 : decode cX8_isClubKind 11 = .ok (.goto 4, 3) := by decide +kernel
theorem dX8_isClubKind_14 : decode cX8_isClubKind 14 = .ok (.iconst 0, 1) := by decide +kernel
theorem dX8_isClubKind_15 : decode cX8_isClubKind 15 = .ok (.ireturn, 1) := by decide +kernel
theorem dX8_isTicketSold_0 : decode cX8_isTicketSold 0 = .ok (.iload_n 2, 1) := by decide +kernel
theorem dX8_isTicketSold_1 : decode cX8_isTicketSold 1 = .ok (.iconst 1, 1) := by decide +kernel
theorem dX8_isTicketSold_2 : decode cX8_isTicketSold 2 = .ok (.if_icmp .ne 13, 3) := by decide +kernel
theorem dX8_isTicketSold_5 : decode cX8_isTicketSold 5 = .ok (.iload_n 3, 1) := by decide +kernel
theorem dX8_isTicketSold_6 : decode cX8_isTicketSold 6 = .ok (.bipush 15, 2) := by decide +kernel
theorem dX8_isTicketSold_8 : decode cX8_isTicketSold 8 = .ok (.sipush 240, 3) := by decide +kernel
theorem dX8_isTicketSold_11 : decode cX8_isTicketSold 11 = .ok (.invokestatic 48, 3) := by decide +kernel
theorem dX8_isTicketSold_14 : decode cX8_isTicketSold 14 = .ok (.ireturn, 1) := by decide +kernel
theorem dX8_isTicketSold_15 : decode cX8_isTicketSold 15 = .ok (.iload_n 2, 1) := by decide +kernel
theorem dX8_isTicketSold_16 : decode cX8_isTicketSold 16 = .ok (.invokestatic 69, 3) := by decide +kernel
theorem dX8_isTicketSold_19 : decode cX8_isTicketSold 19 = .ok (.ifCond .eq 48, 3) := by decide +kernel
theorem dX8_isTicketSold_22 : decode cX8_isTicketSold 22 = .ok (.aload_n 0, 1) := by decide +kernel
theorem dX8_isTicketSold_23 : decode cX8_isTicketSold 23 = .ok (.iload_n 3, 1) := by decide +kernel
theorem dX8_isTicketSold_24 : decode cX8_isTicketSold 24 = .ok (.invokevirtual 73, 3) := by decide +kernel
theorem dX8_isTicketSold_27 : decode cX8_isTicketSold 27 = .ok (.astore 4, 2) := by decide +kernel
theorem dX8_isTicketSold_29 : decode cX8_isTicketSold 29 = .ok (.aload 4, 2) := by decide +kernel
theorem dX8_isTicketSold_31 : decode cX8_isTicketSold 31 = .ok (.ifnull 34, 3) := by decide +kernel
theorem dX8_isTicketSold_34 : decode cX8_isTicketSold 34 = .ok (.aload 4, 2) := by decide +kernel
theorem dX8_isTicketSold_36 : decode cX8_isTicketSold 36 = .ok (.getfield 322, 3) := by decide +kernel
theorem dX8_isTicketSold_39 : decode cX8_isTicketSold 39 = .ok (.aload_n 1, 1) := by decide +kernel
theorem dX8_isTicketSold_40 : decode cX8_isTicketSold 40 = .ok (.if_acmp .ne 25, 3) := by decide +kernel
theorem dX8_isTicketSold_43 : decode cX8_isTicketSold 43 = .ok (.aload 4, 2) := by decide +kernel
theorem dX8_isTicketSold_45 : decode cX8_isTicketSold 45 = .ok (.invokevirtual 323, 3) := by decide +kernel
theorem dX8_isTicketSold_48 : decode cX8_isTicketSold 48 = .ok (.iload_n 2, 1) := by decide +kernel
theorem dX8_isTicketSold_49 : decode cX8_isTicketSold 49 = .ok (.iconst 3, 1) := by decide +kernel
theorem dX8_isTicketSold_50 : decode cX8_isTicketSold 50 = .ok (.if_icmp .ne 7, 3) := by decide +kernel
theorem dX8_isTicketSold_53 : decode cX8_isTicketSold 53 = .ok (.iconst 1, 1) := by decide +kernel
theorem dX8_isTicketSold_54 : decode cX8_isTicketSold 54 = .ok (.goto 4, 3) := by decide +kernel
theorem dX8_isTicketSold_57 : decode cX8_isTicketSold 57 = .ok (.iconst 0, 1) := by decide +kernel
theorem dX8_isTicketSold_58 : decode cX8_isTicketSold 58 = .ok (.if_icmp .ne 7, 3) := by decide +kernel
theorem dX8_isTicketSold_61 : decode cX8_isTicketSold 61 = .ok (.iconst 1, 1) := by decide +kernel
theorem dX8_isTicketSold_62 : decode cX8_isTicketSold 62 = .ok (.goto 4, 3) := by decide +kernel
theorem dX8_isTicketSold_65 : decode cX8_isTicketSold 65 = .ok (.iconst 0, 1) := by decide +kernel
theorem dX8_isTicketSold_66 : decode cX8_isTicketSold 66 = .ok (.ireturn, 1) := by decide +kernel
theorem dX8_isTicketSold_67 : decode cX8_isTicketSold 67 = .ok (.iload_n 2, 1) := by decide +kernel
theorem dX8_isTicketSold_68 : decode cX8_isTicketSold 68 = .ok (.iconst 0, 1) := by decide +kernel
theorem dX8_isTicketSold_69 : decode cX8_isTicketSold 69 = .ok (.iconst 5, 1) := by decide +kernel
theorem dX8_isTicketSold_70 : decode cX8_isTicketSold 70 = .ok (.invokestatic 48, 3) := by decide +kernel
theorem dX8_isTicketSold_73 : decode cX8_isTicketSold 73 = .ok (.ireturn, 1) := by decide +kernel
theorem dX8_lowestClash_0 : decode cX8_lowestClash 0 = .ok (.iconst 0, 1) := by decide +kernel
theorem dX8_lowestClash_1 : decode cX8_lowestClash 1 = .ok (.istore_n 2, 1) := by decide +kernel
theorem dX8_lowestClash_2 : decode cX8_lowestClash 2 = .ok (.iload_n 2, 1) := by decide +kernel
theorem dX8_lowestClash_3 : decode cX8_lowestClash 3 = .ok (.bipush 20, 2) := by decide +kernel
theorem dX8_lowestClash_5 : decode cX8_lowestClash 5 = .ok (.if_icmp .ge 30, 3) := by decide +kernel
theorem dX8_lowestClash_8 : decode cX8_lowestClash 8 = .ok (.aload_n 0, 1) := by decide +kernel
theorem dX8_lowestClash_9 : decode cX8_lowestClash 9 = .ok (.getfield 23, 3) := by decide +kernel
theorem dX8_lowestClash_12 : decode cX8_lowestClash 12 = .ok (.iload_n 2, 1) := by decide +kernel
theorem dX8_lowestClash_13 : decode cX8_lowestClash 13 = .ok (.aaload, 1) := by decide +kernel
theorem dX8_lowestClash_14 : decode cX8_lowestClash 14 = .ok (.astore_n 3, 1) := by decide +kernel
theorem dX8_lowestClash_15 : decode cX8_lowestClash 15 = .ok (.aload_n 3, 1) := by decide +kernel
theorem dX8_lowestClash_16 : decode cX8_lowestClash 16 = .ok (.ifnull 13, 3) := by decide +kernel
theorem dX8_lowestClash_19 : decode cX8_lowestClash 19 = .ok (.aload_n 3, 1) := by decide +kernel
theorem dX8_lowestClash_20 : decode cX8_lowestClash 20 = .ok (.aload_n 1, 1) := by decide +kernel
theorem dX8_lowestClash_21 : decode cX8_lowestClash 21 = .ok (.invokevirtual 327, 3) := by decide +kernel
theorem dX8_lowestClash_24 : decode cX8_lowestClash 24 = .ok (.ifCond .eq 5, 3) := by decide +kernel
theorem dX8_lowestClash_27 : decode cX8_lowestClash 27 = .ok (.iload_n 2, 1) := by decide +kernel
theorem dX8_lowestClash_28 : decode cX8_lowestClash 28 = .ok (.ireturn, 1) := by decide +kernel
theorem dX8_lowestClash_29 : decode cX8_lowestClash 29 = .ok (.iinc 2 1, 3) := by decide +kernel
theorem dX8_lowestClash_32 : decode cX8_lowestClash 32 = .ok (.goto (-30), 3) := by decide +kernel
theorem dX8_lowestClash_35 : decode cX8_lowestClash 35 = .ok (.iconst (-1), 1) := by decide +kernel
theorem dX8_lowestClash_36 : decode cX8_lowestClash 36 = .ok (.ireturn, 1) := by decide +kernel
theorem dX8_freeLanes_0 : decode cX8_freeLanes 0 = .ok (.iconst 0, 1) := by decide +kernel
theorem dX8_freeLanes_1 : decode cX8_freeLanes 1 = .ok (.istore_n 2, 1) := by decide +kernel
theorem dX8_freeLanes_2 : decode cX8_freeLanes 2 = .ok (.iconst 0, 1) := by decide +kernel
theorem dX8_freeLanes_3 : decode cX8_freeLanes 3 = .ok (.istore_n 3, 1) := by decide +kernel
theorem dX8_freeLanes_4 : decode cX8_freeLanes 4 = .ok (.iload_n 3, 1) := by decide +kernel
theorem dX8_freeLanes_5 : decode cX8_freeLanes 5 = .ok (.bipush 20, 2) := by decide +kernel
theorem dX8_freeLanes_7 : decode cX8_freeLanes 7 = .ok (.if_icmp .ge 51, 3) := by decide +kernel
theorem dX8_freeLanes_10 : decode cX8_freeLanes 10 = .ok (.aload_n 0, 1) := by decide +kernel
theorem dX8_freeLanes_11 : decode cX8_freeLanes 11 = .ok (.getfield 23, 3) := by decide +kernel
theorem dX8_freeLanes_14 : decode cX8_freeLanes 14 = .ok (.iload_n 3, 1) := by decide +kernel
theorem dX8_freeLanes_15 : decode cX8_freeLanes 15 = .ok (.aaload, 1) := by decide +kernel
theorem dX8_freeLanes_16 : decode cX8_freeLanes 16 = .ok (.astore 4, 2) := by decide +kernel
theorem dX8_freeLanes_18 : decode cX8_freeLanes 18 = .ok (.aload 4, 2) := by decide +kernel
theorem dX8_freeLanes_20 : decode cX8_freeLanes 20 = .ok (.ifnull 32, 3) := by decide +kernel
theorem dX8_freeLanes_23 : decode cX8_freeLanes 23 = .ok (.aload 4, 2) := by decide +kernel
theorem dX8_freeLanes_25 : decode cX8_freeLanes 25 = .ok (.getfield 322, 3) := by decide +kernel
theorem dX8_freeLanes_28 : decode cX8_freeLanes 28 = .ok (.aload_n 1, 1) := by decide +kernel
theorem dX8_freeLanes_29 : decode cX8_freeLanes 29 = .ok (.if_acmp .ne 23, 3) := by decide +kernel
theorem dX8_freeLanes_32 : decode cX8_freeLanes 32 = .ok (.aload 4, 2) := by decide +kernel
theorem dX8_freeLanes_34 : decode cX8_freeLanes 34 = .ok (.aload_n 0, 1) := by decide +kernel
theorem dX8_freeLanes_35 : decode cX8_freeLanes 35 = .ok (.getfield 45, 3) := by decide +kernel
theorem dX8_freeLanes_38 : decode cX8_freeLanes 38 = .ok (.invokevirtual 331, 3) := by decide +kernel
theorem dX8_freeLanes_41 : decode cX8_freeLanes 41 = .ok (.ifCond .eq 11, 3) := by decide +kernel
theorem dX8_freeLanes_44 : decode cX8_freeLanes 44 = .ok (.iload_n 2, 1) := by decide +kernel
theorem dX8_freeLanes_45 : decode cX8_freeLanes 45 = .ok (.aload 4, 2) := by decide +kernel
theorem dX8_freeLanes_47 : decode cX8_freeLanes 47 = .ok (.getfield 334, 3) := by decide +kernel
theorem dX8_freeLanes_50 : decode cX8_freeLanes 50 = .ok (.ior, 1) := by decide +kernel
theorem dX8_freeLanes_51 : decode cX8_freeLanes 51 = .ok (.istore_n 2, 1) := by decide +kernel
theorem dX8_freeLanes_52 : decode cX8_freeLanes 52 = .ok (.iinc 3 1, 3) := by decide +kernel
theorem dX8_freeLanes_55 : decode cX8_freeLanes 55 = .ok (.goto (-51), 3) := by decide +kernel
theorem dX8_freeLanes_58 : decode cX8_freeLanes 58 = .ok (.aload_n 1, 1) := by decide +kernel
theorem dX8_freeLanes_59 : decode cX8_freeLanes 59 = .ok (.getfield 337, 3) := by decide +kernel
theorem dX8_freeLanes_62 : decode cX8_freeLanes 62 = .ok (.iload_n 2, 1) := by decide +kernel
theorem dX8_freeLanes_63 : decode cX8_freeLanes 63 = .ok (.invokestatic 338, 3) := by decide +kernel
theorem dX8_freeLanes_66 : decode cX8_freeLanes 66 = .ok (.isub, 1) := by decide +kernel
theorem dX8_freeLanes_67 : decode cX8_freeLanes 67 = .ok (.ireturn, 1) := by decide +kernel
theorem dX8_reasonAgainst_0 : decode cX8_reasonAgainst 0 = .ok (.aload_n 1, 1) := by decide +kernel
theorem dX8_reasonAgainst_1 : decode cX8_reasonAgainst 1 = .ok (.getfield 116, 3) := by decide +kernel
theorem dX8_reasonAgainst_4 : decode cX8_reasonAgainst 4 = .ok (.ifCond .eq 5, 3) := by decide +kernel
theorem dX8_reasonAgainst_7 : decode cX8_reasonAgainst 7 = .ok (.iconst 1, 1) := by decide +kernel
theorem dX8_reasonAgainst_8 : decode cX8_reasonAgainst 8 = .ok (.ireturn, 1) := by decide +kernel
theorem dX8_reasonAgainst_9 : decode cX8_reasonAgainst 9 = .ok (.aload_n 1, 1) := by decide +kernel
theorem dX8_reasonAgainst_10 : decode cX8_reasonAgainst 10 = .ok (.getfield 262, 3) := by decide +kernel
theorem dX8_reasonAgainst_13 : decode cX8_reasonAgainst 13 = .ok (.iconst 5, 1) := by decide +kernel
theorem dX8_reasonAgainst_14 : decode cX8_reasonAgainst 14 = .ok (.if_icmp .ne 7, 3) := by decide +kernel
theorem dX8_reasonAgainst_17 : decode cX8_reasonAgainst 17 = .ok (.iconst 0, 1) := by decide +kernel
theorem dX8_reasonAgainst_18 : decode cX8_reasonAgainst 18 = .ok (.goto 8, 3) := by decide +kernel
theorem dX8_reasonAgainst_21 : decode cX8_reasonAgainst 21 = .ok (.aload_n 0, 1) := by decide +kernel
theorem dX8_reasonAgainst_22 : decode cX8_reasonAgainst 22 = .ok (.aload_n 1, 1) := by decide +kernel
theorem dX8_reasonAgainst_23 : decode cX8_reasonAgainst 23 = .ok (.invokevirtual 343, 3) := by decide +kernel
theorem dX8_reasonAgainst_26 : decode cX8_reasonAgainst 26 = .ok (.istore_n 2, 1) := by decide +kernel
theorem dX8_reasonAgainst_27 : decode cX8_reasonAgainst 27 = .ok (.iload_n 2, 1) := by decide +kernel
theorem dX8_reasonAgainst_28 : decode cX8_reasonAgainst 28 = .ok (.ifCond .eq 5, 3) := by decide +kernel
theorem dX8_reasonAgainst_31 : decode cX8_reasonAgainst 31 = .ok (.iload_n 2, 1) := by decide +kernel
theorem dX8_reasonAgainst_32 : decode cX8_reasonAgainst 32 = .ok (.ireturn, 1) := by decide +kernel
theorem dX8_reasonAgainst_33 : decode cX8_reasonAgainst 33 = .ok (.aload_n 1, 1) := by decide +kernel
theorem dX8_reasonAgainst_34 : decode cX8_reasonAgainst 34 = .ok (.getfield 108, 3) := by decide +kernel
theorem dX8_reasonAgainst_37 : decode cX8_reasonAgainst 37 = .ok (.getfield 120, 3) := by decide +kernel
theorem dX8_reasonAgainst_40 : decode cX8_reasonAgainst 40 = .ok (.getfield 346, 3) := by decide +kernel
theorem dX8_reasonAgainst_43 : decode cX8_reasonAgainst 43 = .ok (.iconst 3, 1) := by decide +kernel
theorem dX8_reasonAgainst_44 : decode cX8_reasonAgainst 44 = .ok (.if_icmp .lt 8, 3) := by decide +kernel
theorem dX8_reasonAgainst_47 : decode cX8_reasonAgainst 47 = .ok (.bipush 6, 2) := by decide +kernel
theorem dX8_reasonAgainst_49 : decode cX8_reasonAgainst 49 = .ok (.goto 4, 3) := by decide +kernel
theorem dX8_reasonAgainst_52 : decode cX8_reasonAgainst 52 = .ok (.iconst 0, 1) := by decide +kernel
theorem dX8_reasonAgainst_53 : decode cX8_reasonAgainst 53 = .ok (.ireturn, 1) := by decide +kernel
theorem dX8_reasonAgainstHead_0 : decode cX8_reasonAgainstHead 0 = .ok (.aload_n 1, 1) := by decide +kernel
theorem dX8_reasonAgainstHead_1 : decode cX8_reasonAgainstHead 1 = .ok (.getfield 108, 3) := by decide +kernel
theorem dX8_reasonAgainstHead_4 : decode cX8_reasonAgainstHead 4 = .ok (.astore_n 2, 1) := by decide +kernel
theorem dX8_reasonAgainstHead_5 : decode cX8_reasonAgainstHead 5 = .ok (.aload_n 1, 1) := by decide +kernel
theorem dX8_reasonAgainstHead_6 : decode cX8_reasonAgainstHead 6 = .ok (.aload_n 0, 1) := by decide +kernel
theorem dX8_reasonAgainstHead_7 : decode cX8_reasonAgainstHead 7 = .ok (.getfield 45, 3) := by decide +kernel
theorem dX8_reasonAgainstHead_10 : decode cX8_reasonAgainstHead 10 = .ok (.invokevirtual 349, 3) := by decide +kernel
theorem dX8_reasonAgainstHead_13 : decode cX8_reasonAgainstHead 13 = .ok (.ifCond .ne 5, 3) := by decide +kernel
theorem dX8_reasonAgainstHead_16 : decode cX8_reasonAgainstHead 16 = .ok (.iconst 2, 1) := by decide +kernel
theorem dX8_reasonAgainstHead_17 : decode cX8_reasonAgainstHead 17 = .ok (.ireturn, 1) := by decide +kernel
theorem dX8_reasonAgainstHead_18 : decode cX8_reasonAgainstHead 18 = .ok (.aload_n 2, 1) := by decide +kernel
theorem dX8_reasonAgainstHead_19 : decode cX8_reasonAgainstHead 19 = .ok (.aload_n 0, 1) := by decide +kernel
theorem dX8_reasonAgainstHead_20 : decode cX8_reasonAgainstHead 20 = .ok (.getfield 45, 3) := by decide +kernel
theorem dX8_reasonAgainstHead_23 : decode cX8_reasonAgainstHead 23 = .ok (.invokevirtual 213, 3) := by decide +kernel
theorem dX8_reasonAgainstHead_26 : decode cX8_reasonAgainstHead 26 = .ok (.ifCond .eq 5, 3) := by decide +kernel
theorem dX8_reasonAgainstHead_29 : decode cX8_reasonAgainstHead 29 = .ok (.iconst 3, 1) := by decide +kernel
theorem dX8_reasonAgainstHead_30 : decode cX8_reasonAgainstHead 30 = .ok (.ireturn, 1) := by decide +kernel
theorem dX8_reasonAgainstHead_31 : decode cX8_reasonAgainstHead 31 = .ok (.aload_n 2, 1) := by decide +kernel
theorem dX8_reasonAgainstHead_32 : decode cX8_reasonAgainstHead 32 = .ok (.getfield 120, 3) := by decide +kernel
theorem dX8_reasonAgainstHead_35 : decode cX8_reasonAgainstHead 35 = .ok (.invokevirtual 166, 3) := by decide +kernel
theorem dX8_reasonAgainstHead_38 : decode cX8_reasonAgainstHead 38 = .ok (.aload_n 2, 1) := by decide +kernel
theorem dX8_reasonAgainstHead_39 : decode cX8_reasonAgainstHead 39 = .ok (.getfield 172, 3) := by decide +kernel
theorem dX8_reasonAgainstHead_42 : decode cX8_reasonAgainstHead 42 = .ok (.if_icmp .lt 5, 3) := by decide +kernel
theorem dX8_reasonAgainstHead_45 : decode cX8_reasonAgainstHead 45 = .ok (.iconst 4, 1) := by decide +kernel
theorem dX8_reasonAgainstHead_46 : decode cX8_reasonAgainstHead 46 = .ok (.ireturn, 1) := by decide +kernel
theorem dX8_reasonAgainstHead_47 : decode cX8_reasonAgainstHead 47 = .ok (.aload_n 1, 1) := by decide +kernel
theorem dX8_reasonAgainstHead_48 : decode cX8_reasonAgainstHead 48 = .ok (.invokevirtual 352, 3) := by decide +kernel
theorem dX8_reasonAgainstHead_51 : decode cX8_reasonAgainstHead 51 = .ok (.ifCond .eq 7, 3) := by decide +kernel
theorem dX8_reasonAgainstHead_54 : decode cX8_reasonAgainstHead 54 = .ok (.iconst 5, 1) := by decide +kernel
theorem dX8_reasonAgainstHead_55 : decode cX8_reasonAgainstHead 55 = .ok (.goto 4, 3) := by decide +kernel
theorem dX8_reasonAgainstHead_58 : decode cX8_reasonAgainstHead 58 = .ok (.iconst 0, 1) := by decide +kernel
theorem dX8_reasonAgainstHead_59 : decode cX8_reasonAgainstHead 59 = .ok (.ireturn, 1) := by decide +kernel
theorem dX8_hoursNeeded_0 : decode cX8_hoursNeeded 0 = .ok (.iload_n 0, 1) := by decide +kernel
theorem dX8_hoursNeeded_1 : decode cX8_hoursNeeded 1 = .ok (.bipush 100, 2) := by decide +kernel
theorem dX8_hoursNeeded_3 : decode cX8_hoursNeeded 3 = .ok (.iload_n 2, 1) := by decide +kernel
theorem dX8_hoursNeeded_4 : decode cX8_hoursNeeded 4 = .ok (.iadd, 1) := by decide +kernel
theorem dX8_hoursNeeded_5 : decode cX8_hoursNeeded 5 = .ok (.imul, 1) := by decide +kernel
theorem dX8_hoursNeeded_6 : decode cX8_hoursNeeded 6 = .ok (.istore_n 3, 1) := by decide +kernel
theorem dX8_hoursNeeded_7 : decode cX8_hoursNeeded 7 = .ok (.iload_n 1, 1) := by decide +kernel
theorem dX8_hoursNeeded_8 : decode cX8_hoursNeeded 8 = .ok (.bipush 100, 2) := by decide +kernel
theorem dX8_hoursNeeded_10 : decode cX8_hoursNeeded 10 = .ok (.imul, 1) := by decide +kernel
theorem dX8_hoursNeeded_11 : decode cX8_hoursNeeded 11 = .ok (.istore 4, 2) := by decide +kernel
theorem dX8_hoursNeeded_13 : decode cX8_hoursNeeded 13 = .ok (.iload 4, 2) := by decide +kernel
theorem dX8_hoursNeeded_15 : decode cX8_hoursNeeded 15 = .ok (.iconst 1, 1) := by decide +kernel
theorem dX8_hoursNeeded_16 : decode cX8_hoursNeeded 16 = .ok (.if_icmp .ge 8, 3) := by decide +kernel
theorem dX8_hoursNeeded_19 : decode cX8_hoursNeeded 19 = .ok (.bipush 25, 2) := by decide +kernel
theorem dX8_hoursNeeded_21 : decode cX8_hoursNeeded 21 = .ok (.goto 12, 3) := by decide +kernel
theorem dX8_hoursNeeded_24 : decode cX8_hoursNeeded 24 = .ok (.iload_n 3, 1) := by decide +kernel
theorem dX8_hoursNeeded_25 : decode cX8_hoursNeeded 25 = .ok (.iload 4, 2) := by decide +kernel
theorem dX8_hoursNeeded_27 : decode cX8_hoursNeeded 27 = .ok (.iadd, 1) := by decide +kernel
theorem dX8_hoursNeeded_28 : decode cX8_hoursNeeded 28 = .ok (.iconst 1, 1) := by decide +kernel
theorem dX8_hoursNeeded_29 : decode cX8_hoursNeeded 29 = .ok (.isub, 1) := by decide +kernel
theorem dX8_hoursNeeded_30 : decode cX8_hoursNeeded 30 = .ok (.iload 4, 2) := by decide +kernel
theorem dX8_hoursNeeded_32 : decode cX8_hoursNeeded 32 = .ok (.idiv, 1) := by decide +kernel
theorem dX8_hoursNeeded_33 : decode cX8_hoursNeeded 33 = .ok (.ireturn, 1) := by decide +kernel
theorem dX8_insideAllPools_0 : decode cX8_insideAllPools 0 = .ok (.iconst 0, 1) := by decide +kernel
theorem dX8_insideAllPools_1 : decode cX8_insideAllPools 1 = .ok (.istore_n 1, 1) := by decide +kernel
theorem dX8_insideAllPools_2 : decode cX8_insideAllPools 2 = .ok (.iconst 0, 1) := by decide +kernel
theorem dX8_insideAllPools_3 : decode cX8_insideAllPools 3 = .ok (.istore_n 2, 1) := by decide +kernel
theorem dX8_insideAllPools_4 : decode cX8_insideAllPools 4 = .ok (.iload_n 2, 1) := by decide +kernel
theorem dX8_insideAllPools_5 : decode cX8_insideAllPools 5 = .ok (.iconst 4, 1) := by decide +kernel
theorem dX8_insideAllPools_6 : decode cX8_insideAllPools 6 = .ok (.if_icmp .ge 31, 3) := by decide +kernel
theorem dX8_insideAllPools_9 : decode cX8_insideAllPools 9 = .ok (.aload_n 0, 1) := by decide +kernel
theorem dX8_insideAllPools_10 : decode cX8_insideAllPools 10 = .ok (.getfield 11, 3) := by decide +kernel
theorem dX8_insideAllPools_13 : decode cX8_insideAllPools 13 = .ok (.iload_n 2, 1) := by decide +kernel
theorem dX8_insideAllPools_14 : decode cX8_insideAllPools 14 = .ok (.aaload, 1) := by decide +kernel
theorem dX8_insideAllPools_15 : decode cX8_insideAllPools 15 = .ok (.astore_n 3, 1) := by decide +kernel
theorem dX8_insideAllPools_16 : decode cX8_insideAllPools 16 = .ok (.iload_n 1, 1) := by decide +kernel
theorem dX8_insideAllPools_17 : decode cX8_insideAllPools 17 = .ok (.aload_n 3, 1) := by decide +kernel
theorem dX8_insideAllPools_18 : decode cX8_insideAllPools 18 = .ok (.ifnonnull 7, 3) := by decide +kernel
theorem dX8_insideAllPools_21 : decode cX8_insideAllPools 21 = .ok (.iconst 0, 1) := by decide +kernel
theorem dX8_insideAllPools_22 : decode cX8_insideAllPools 22 = .ok (.goto 7, 3) := by decide +kernel
theorem dX8_insideAllPools_25 : decode cX8_insideAllPools 25 = .ok (.aload_n 3, 1) := by decide +kernel
theorem dX8_insideAllPools_26 : decode cX8_insideAllPools 26 = .ok (.getfield 156, 3) := by decide +kernel
theorem dX8_insideAllPools_29 : decode cX8_insideAllPools 29 = .ok (.iadd, 1) := by decide +kernel
theorem dX8_insideAllPools_30 : decode cX8_insideAllPools 30 = .ok (.istore_n 1, 1) := by decide +kernel
theorem dX8_insideAllPools_31 : decode cX8_insideAllPools 31 = .ok (.iinc 2 1, 3) := by decide +kernel
theorem dX8_insideAllPools_34 : decode cX8_insideAllPools 34 = .ok (.goto (-30), 3) := by decide +kernel
theorem dX8_insideAllPools_37 : decode cX8_insideAllPools 37 = .ok (.iload_n 1, 1) := by decide +kernel
theorem dX8_insideAllPools_38 : decode cX8_insideAllPools 38 = .ok (.ireturn, 1) := by decide +kernel
theorem dJ6_bitCount_0f7a4_0 : decode cJ6_bitCount_0f7a4 0 = .ok (.iload_n 0, 1) := by decide +kernel
theorem dJ6_bitCount_0f7a4_1 : decode cJ6_bitCount_0f7a4 1 = .ok (.iload_n 0, 1) := by decide +kernel
theorem dJ6_bitCount_0f7a4_2 : decode cJ6_bitCount_0f7a4 2 = .ok (.iconst 1, 1) := by decide +kernel
theorem dJ6_bitCount_0f7a4_3 : decode cJ6_bitCount_0f7a4 3 = .ok (.iushr, 1) := by decide +kernel
theorem dJ6_bitCount_0f7a4_4 : decode cJ6_bitCount_0f7a4 4 = .ok (.ldc_w 265, 3) := by decide +kernel
theorem dJ6_bitCount_0f7a4_7 : decode cJ6_bitCount_0f7a4 7 = .ok (.iand, 1) := by decide +kernel
theorem dJ6_bitCount_0f7a4_8 : decode cJ6_bitCount_0f7a4 8 = .ok (.isub, 1) := by decide +kernel
theorem dJ6_bitCount_0f7a4_9 : decode cJ6_bitCount_0f7a4 9 = .ok (.istore_n 0, 1) := by decide +kernel
theorem dJ6_bitCount_0f7a4_10 : decode cJ6_bitCount_0f7a4 10 = .ok (.iload_n 0, 1) := by decide +kernel
theorem dJ6_bitCount_0f7a4_11 : decode cJ6_bitCount_0f7a4 11 = .ok (.ldc_w 266, 3) := by decide +kernel
theorem dJ6_bitCount_0f7a4_14 : decode cJ6_bitCount_0f7a4 14 = .ok (.iand, 1) := by decide +kernel
theorem dJ6_bitCount_0f7a4_15 : decode cJ6_bitCount_0f7a4 15 = .ok (.iload_n 0, 1) := by decide +kernel
theorem dJ6_bitCount_0f7a4_16 : decode cJ6_bitCount_0f7a4 16 = .ok (.iconst 2, 1) := by decide +kernel
theorem dJ6_bitCount_0f7a4_17 : decode cJ6_bitCount_0f7a4 17 = .ok (.iushr, 1) := by decide +kernel
theorem dJ6_bitCount_0f7a4_18 : decode cJ6_bitCount_0f7a4 18 = .ok (.ldc_w 266, 3) := by decide +kernel
theorem dJ6_bitCount_0f7a4_21 : decode cJ6_bitCount_0f7a4 21 = .ok (.iand, 1) := by decide +kernel
theorem dJ6_bitCount_0f7a4_22 : decode cJ6_bitCount_0f7a4 22 = .ok (.iadd, 1) := by decide +kernel
theorem dJ6_bitCount_0f7a4_23 : decode cJ6_bitCount_0f7a4 23 = .ok (.istore_n 0, 1) := by decide +kernel
theorem dJ6_bitCount_0f7a4_24 : decode cJ6_bitCount_0f7a4 24 = .ok (.iload_n 0, 1) := by decide +kernel
theorem dJ6_bitCount_0f7a4_25 : decode cJ6_bitCount_0f7a4 25 = .ok (.iload_n 0, 1) := by decide +kernel
theorem dJ6_bitCount_0f7a4_26 : decode cJ6_bitCount_0f7a4 26 = .ok (.iconst 4, 1) := by decide +kernel
theorem dJ6_bitCount_0f7a4_27 : decode cJ6_bitCount_0f7a4 27 = .ok (.iushr, 1) := by decide +kernel
theorem dJ6_bitCount_0f7a4_28 : decode cJ6_bitCount_0f7a4 28 = .ok (.iadd, 1) := by decide +kernel
theorem dJ6_bitCount_0f7a4_29 : decode cJ6_bitCount_0f7a4 29 = .ok (.ldc_w 267, 3) := by decide +kernel
theorem dJ6_bitCount_0f7a4_32 : decode cJ6_bitCount_0f7a4 32 = .ok (.iand, 1) := by decide +kernel
theorem dJ6_bitCount_0f7a4_33 : decode cJ6_bitCount_0f7a4 33 = .ok (.istore_n 0, 1) := by decide +kernel
theorem dJ6_bitCount_0f7a4_34 : decode cJ6_bitCount_0f7a4 34 = .ok (.iload_n 0, 1) := by decide +kernel
theorem dJ6_bitCount_0f7a4_35 : decode cJ6_bitCount_0f7a4 35 = .ok (.iload_n 0, 1) := by decide +kernel
theorem dJ6_bitCount_0f7a4_36 : decode cJ6_bitCount_0f7a4 36 = .ok (.bipush 8, 2) := by decide +kernel
theorem dJ6_bitCount_0f7a4_38 : decode cJ6_bitCount_0f7a4 38 = .ok (.iushr, 1) := by decide +kernel
theorem dJ6_bitCount_0f7a4_39 : decode cJ6_bitCount_0f7a4 39 = .ok (.iadd, 1) := by decide +kernel
theorem dJ6_bitCount_0f7a4_40 : decode cJ6_bitCount_0f7a4 40 = .ok (.istore_n 0, 1) := by decide +kernel
theorem dJ6_bitCount_0f7a4_41 : decode cJ6_bitCount_0f7a4 41 = .ok (.iload_n 0, 1) := by decide +kernel
theorem dJ6_bitCount_0f7a4_42 : decode cJ6_bitCount_0f7a4 42 = .ok (.iload_n 0, 1) := by decide +kernel
theorem dJ6_bitCount_0f7a4_43 : decode cJ6_bitCount_0f7a4 43 = .ok (.bipush 16, 2) := by decide +kernel
theorem dJ6_bitCount_0f7a4_45 : decode cJ6_bitCount_0f7a4 45 = .ok (.iushr, 1) := by decide +kernel
theorem dJ6_bitCount_0f7a4_46 : decode cJ6_bitCount_0f7a4 46 = .ok (.iadd, 1) := by decide +kernel
theorem dJ6_bitCount_0f7a4_47 : decode cJ6_bitCount_0f7a4 47 = .ok (.istore_n 0, 1) := by decide +kernel
theorem dJ6_bitCount_0f7a4_48 : decode cJ6_bitCount_0f7a4 48 = .ok (.iload_n 0, 1) := by decide +kernel
theorem dJ6_bitCount_0f7a4_49 : decode cJ6_bitCount_0f7a4 49 = .ok (.bipush 63, 2) := by decide +kernel
theorem dJ6_bitCount_0f7a4_51 : decode cJ6_bitCount_0f7a4 51 = .ok (.iand, 1) := by decide +kernel
theorem dJ6_bitCount_0f7a4_52 : decode cJ6_bitCount_0f7a4 52 = .ok (.ireturn, 1) := by decide +kernel
theorem dJ9_max_7cf53_0 : decode cJ9_max_7cf53 0 = .ok (.iload_n 0, 1) := by decide +kernel
theorem dJ9_max_7cf53_1 : decode cJ9_max_7cf53 1 = .ok (.iload_n 1, 1) := by decide +kernel
theorem dJ9_max_7cf53_2 : decode cJ9_max_7cf53 2 = .ok (.if_icmp .lt 7, 3) := by decide +kernel
theorem dJ9_max_7cf53_5 : decode cJ9_max_7cf53 5 = .ok (.iload_n 0, 1) := by decide +kernel
theorem dJ9_max_7cf53_6 : decode cJ9_max_7cf53 6 = .ok (.goto 4, 3) := by decide +kernel
theorem dJ9_max_7cf53_9 : decode cJ9_max_7cf53 9 = .ok (.iload_n 1, 1) := by decide +kernel
theorem dJ9_max_7cf53_10 : decode cJ9_max_7cf53 10 = .ok (.ireturn, 1) := by decide +kernel
theorem dJ9_min_7cf53_0 : decode cJ9_min_7cf53 0 = .ok (.iload_n 0, 1) := by decide +kernel
theorem dJ9_min_7cf53_1 : decode cJ9_min_7cf53 1 = .ok (.iload_n 1, 1) := by decide +kernel
theorem dJ9_min_7cf53_2 : decode cJ9_min_7cf53 2 = .ok (.if_icmp .gt 7, 3) := by decide +kernel
theorem dJ9_min_7cf53_5 : decode cJ9_min_7cf53 5 = .ok (.iload_n 0, 1) := by decide +kernel
theorem dJ9_min_7cf53_6 : decode cJ9_min_7cf53 6 = .ok (.goto 4, 3) := by decide +kernel
theorem dJ9_min_7cf53_9 : decode cJ9_min_7cf53 9 = .ok (.iload_n 1, 1) := by decide +kernel
theorem dJ9_min_7cf53_10 : decode cJ9_min_7cf53 10 = .ok (.ireturn, 1) := by decide +kernel
end
section
theorem dX9_init_0 : decode cX9_init 0 = .ok (.aload_n 0, 1) := by decide +kernel
theorem dX9_init_1 : decode cX9_init 1 = .ok (.invokespecial 1, 3) := by decide +kernel
theorem dX9_init_4 : decode cX9_init 4 = .ok (.aload_n 0, 1) := by decide +kernel
theorem dX9_init_5 : decode cX9_init 5 = .ok (.iconst 4, 1) := by decide +kernel
theorem dX9_init_6 : decode cX9_init 6 = .ok (.newarray .boolean, 2) := by decide +kernel
theorem dX9_init_8 : decode cX9_init 8 = .ok (.putfield 7, 3) := by decide +kernel
theorem dX9_init_11 : decode cX9_init 11 = .ok (.aload_n 0, 1) := by decide +kernel
theorem dX9_init_12 : decode cX9_init 12 = .ok (.iconst 4, 1) := by decide +kernel
theorem dX9_init_13 : decode cX9_init 13 = .ok (.newarray .int, 2) := by decide +kernel
theorem dX9_init_15 : decode cX9_init 15 = .ok (.putfield 13, 3) := by decide +kernel
theorem dX9_init_18 : decode cX9_init 18 = .ok (.aload_n 0, 1) := by decide +kernel
theorem dX9_init_19 : decode cX9_init 19 = .ok (.iconst 4, 1) := by decide +kernel
theorem dX9_init_20 : decode cX9_init 20 = .ok (.newarray .int, 2) := by decide +kernel
theorem dX9_init_22 : decode cX9_init 22 = .ok (.putfield 17, 3) := by decide +kernel
theorem dX9_init_25 : decode cX9_init 25 = .ok (.aload_n 0, 1) := by decide +kernel
theorem dX9_init_26 : decode cX9_init 26 = .ok (.iconst 4, 1) := by decide +kernel
theorem dX9_init_27 : decode cX9_init 27 = .ok (.newarray .int, 2) := by decide +kernel
theorem dX9_init_29 : decode cX9_init 29 = .ok (.putfield 20, 3) := by decide +kernel
theorem dX9_init_32 : decode cX9_init 32 = .ok (.aload_n 0, 1) := by decide +kernel
theorem dX9_init_33 : decode cX9_init 33 = .ok (.iconst 4, 1) := by decide +kernel
theorem dX9_init_34 : decode cX9_init 34 = .ok (.newarray .int, 2) := by decide +kernel
theorem dX9_init_36 : decode cX9_init 36 = .ok (.putfield 23, 3) := by decide +kernel
theorem dX9_init_39 : decode cX9_init 39 = .ok (.aload_n 0, 1) := by decide +kernel
theorem dX9_init_40 : decode cX9_init 40 = .ok (.iconst 4, 1) := by decide +kernel
theorem dX9_init_41 : decode cX9_init 41 = .ok (.newarray .int, 2) := by decide +kernel
theorem dX9_init_43 : decode cX9_init 43 = .ok (.putfield 26, 3) := by decide +kernel
theorem dX9_init_46 : decode cX9_init 46 = .ok (.aload_n 0, 1) := by decide +kernel
theorem dX9_init_47 : decode cX9_init 47 = .ok (.iconst 4, 1) := by decide +kernel
theorem dX9_init_48 : decode cX9_init 48 = .ok (.newarray .int, 2) := by decide +kernel
theorem dX9_init_50 : decode cX9_init 50 = .ok (.putfield 29, 3) := by decide +kernel
theorem dX9_init_53 : decode cX9_init 53 = .ok (.aload_n 0, 1) := by decide +kernel
theorem dX9_init_54 : decode cX9_init 54 = .ok (.iconst 4, 1) := by decide +kernel
theorem dX9_init_55 : decode cX9_init 55 = .ok (.newarray .int, 2) := by decide +kernel
theorem dX9_init_57 : decode cX9_init 57 = .ok (.putfield 32, 3) := by decide +kernel
theorem dX9_init_60 : decode cX9_init 60 = .ok (.aload_n 0, 1) := by decide +kernel
theorem dX9_init_61 : decode cX9_init 61 = .ok (.iconst 4, 1) := by decide +kernel
theorem dX9_init_62 : decode cX9_init 62 = .ok (.newarray .boolean, 2) := by decide +kernel
theorem dX9_init_64 : decode cX9_init 64 = .ok (.putfield 35, 3) := by decide +kernel
theorem dX9_init_67 : decode cX9_init 67 = .ok (.aload_n 0, 1) := by decide +kernel
theorem dX9_init_68 : decode cX9_init 68 = .ok (.iconst 4, 1) := by decide +kernel
theorem dX9_init_69 : decode cX9_init 69 = .ok (.newarray .boolean, 2) := by decide +kernel
theorem dX9_init_71 : decode cX9_init 71 = .ok (.putfield 38, 3) := by decide +kernel
theorem dX9_init_74 : decode cX9_init 74 = .ok (.aload_n 0, 1) := by decide +kernel
theorem dX9_init_75 : decode cX9_init 75 = .ok (.iconst 4, 1) := by decide +kernel
theorem dX9_init_76 : decode cX9_init 76 = .ok (.newarray .int, 2) := by decide +kernel
theorem dX9_init_78 : decode cX9_init 78 = .ok (.putfield 41, 3) := by decide +kernel
theorem dX9_init_81 : decode cX9_init 81 = .ok (.aload_n 0, 1) := by decide +kernel
theorem dX9_init_82 : decode cX9_init 82 = .ok (.iconst 4, 1) := by decide +kernel
theorem dX9_init_83 : decode cX9_init 83 = .ok (.newarray .int, 2) := by decide +kernel
theorem dX9_init_85 : decode cX9_init 85 = .ok (.putfield 44, 3) := by decide +kernel
theorem dX9_init_88 : decode cX9_init 88 = .ok (.aload_n 0, 1) := by decide +kernel
theorem dX9_init_89 : decode cX9_init 89 = .ok (.iconst 4, 1) := by decide +kernel
theorem dX9_init_90 : decode cX9_init 90 = .ok (.newarray .int, 2) := by decide +kernel
theorem dX9_init_92 : decode cX9_init 92 = .ok (.putfield 47, 3) := by decide +kernel
theorem dX9_init_95 : decode cX9_init 95 = .ok (.aload_n 0, 1) := by decide +kernel
theorem dX9_init_96 : decode cX9_init 96 = .ok (.bipush 12, 2) := by decide +kernel
theorem dX9_init_98 : decode cX9_init 98 = .ok (.newarray .int, 2) := by decide +kernel
theorem dX9_init_100 : decode cX9_init 100 = .ok (.putfield 50, 3) := by decide +kernel
theorem dX9_init_103 : decode cX9_init 103 = .ok (.aload_n 0, 1) := by decide +kernel
theorem dX9_init_104 : decode cX9_init 104 = .ok (.bipush 12, 2) := by decide +kernel
theorem dX9_init_106 : decode cX9_init 106 = .ok (.newarray .int, 2) := by decide +kernel
theorem dX9_init_108 : decode cX9_init 108 = .ok (.putfield 53, 3) := by decide +kernel
theorem dX9_init_111 : decode cX9_init 111 = .ok (.aload_n 0, 1) := by decide +kernel
theorem dX9_init_112 : decode cX9_init 112 = .ok (.bipush 12, 2) := by decide +kernel
theorem dX9_init_114 : decode cX9_init 114 = .ok (.newarray .int, 2) := by decide +kernel
theorem dX9_init_116 : decode cX9_init 116 = .ok (.putfield 56, 3) := by decide +kernel
theorem dX9_init_119 : decode cX9_init 119 = .ok (.aload_n 0, 1) := by decide +kernel
theorem dX9_init_120 : decode cX9_init 120 = .ok (.bipush 12, 2) := by decide +kernel
theorem dX9_init_122 : decode cX9_init 122 = .ok (.newarray .boolean, 2) := by decide +kernel
theorem dX9_init_124 : decode cX9_init 124 = .ok (.putfield 59, 3) := by decide +kernel
theorem dX9_init_127 : decode cX9_init 127 = .ok (.aload_n 0, 1) := by decide +kernel
theorem dX9_init_128 : decode cX9_init 128 = .ok (.bipush 12, 2) := by decide +kernel
theorem dX9_init_130 : decode cX9_init 130 = .ok (.newarray .int, 2) := by decide +kernel
theorem dX9_init_132 : decode cX9_init 132 = .ok (.putfield 62, 3) := by decide +kernel
theorem dX9_init_135 : decode cX9_init 135 = .ok (.aload_n 0, 1) := by decide +kernel
theorem dX9_init_136 : decode cX9_init 136 = .ok (.iconst 4, 1) := by decide +kernel
theorem dX9_init_137 : decode cX9_init 137 = .ok (.newarray .int, 2) := by decide +kernel
theorem dX9_init_139 : decode cX9_init 139 = .ok (.putfield 65, 3) := by decide +kernel
theorem dX9_init_142 : decode cX9_init 142 = .ok (.aload_n 0, 1) := by decide +kernel
theorem dX9_init_143 : decode cX9_init 143 = .ok (.bipush 12, 2) := by decide +kernel
theorem dX9_init_145 : decode cX9_init 145 = .ok (.newarray .int, 2) := by decide +kernel
theorem dX9_init_147 : decode cX9_init 147 = .ok (.putfield 68, 3) := by decide +kernel
theorem dX9_init_150 : decode cX9_init 150 = .ok (.aload_n 0, 1) := by decide +kernel
theorem dX9_init_151 : decode cX9_init 151 = .ok (.bipush 12, 2) := by decide +kernel
theorem dX9_init_153 : decode cX9_init 153 = .ok (.newarray .int, 2) := by decide +kernel
theorem dX9_init_155 : decode cX9_init 155 = .ok (.putfield 71, 3) := by decide +kernel
theorem dX9_init_158 : decode cX9_init 158 = .ok (.aload_n 0, 1) := by decide +kernel
theorem dX9_init_159 : decode cX9_init 159 = .ok (.sipush 200, 3) := by decide +kernel
theorem dX9_init_162 : decode cX9_init 162 = .ok (.newarray .int, 2) := by decide +kernel
theorem dX9_init_164 : decode cX9_init 164 = .ok (.putfield 74, 3) := by decide +kernel
theorem dX9_init_167 : decode cX9_init 167 = .ok (.aload_n 0, 1) := by decide +kernel
theorem dX9_init_168 : decode cX9_init 168 = .ok (.sipush 200, 3) := by decide +kernel
theorem dX9_init_171 : decode cX9_init 171 = .ok (.newarray .int, 2) := by decide +kernel
theorem dX9_init_173 : decode cX9_init 173 = .ok (.putfield 77, 3) := by decide +kernel
theorem dX9_init_176 : decode cX9_init 176 = .ok (.aload_n 0, 1) := by decide +kernel
theorem dX9_init_177 : decode cX9_init 177 = .ok (.sipush 200, 3) := by decide +kernel
theorem dX9_init_180 : decode cX9_init 180 = .ok (.newarray .int, 2) := by decide +kernel
theorem dX9_init_182 : decode cX9_init 182 = .ok (.putfield 80, 3) := by decide +kernel
theorem dX9_init_185 : decode cX9_init 185 = .ok (.aload_n 0, 1) := by decide +kernel
theorem dX9_init_186 : decode cX9_init 186 = .ok (.sipush 200, 3) := by decide +kernel
theorem dX9_init_189 : decode cX9_init 189 = .ok (.newarray .boolean, 2) := by decide +kernel
theorem dX9_init_191 : decode cX9_init 191 = .ok (.putfield 83, 3) := by decide +kernel
theorem dX9_init_194 : decode cX9_init 194 = .ok (.aload_n 0, 1) := by decide +kernel
theorem dX9_init_195 : decode cX9_init 195 = .ok (.sipush 200, 3) := by decide +kernel
theorem dX9_init_198 : decode cX9_init 198 = .ok (.newarray .int, 2) := by decide +kernel
theorem dX9_init_200 : decode cX9_init 200 = .ok (.putfield 86, 3) := by decide +kernel
theorem dX9_init_203 : decode cX9_init 203 = .ok (.aload_n 0, 1) := by decide +kernel
theorem dX9_init_204 : decode cX9_init 204 = .ok (.sipush 200, 3) := by decide +kernel
theorem dX9_init_207 : decode cX9_init 207 = .ok (.newarray .int, 2) := by decide +kernel
theorem dX9_init_209 : decode cX9_init 209 = .ok (.putfield 89, 3) := by decide +kernel
theorem dX9_init_212 : decode cX9_init 212 = .ok (.aload_n 0, 1) := by decide +kernel
theorem dX9_init_213 : decode cX9_init 213 = .ok (.sipush 200, 3) := by decide +kernel
theorem dX9_init_216 : decode cX9_init 216 = .ok (.newarray .boolean, 2) := by decide +kernel
theorem dX9_init_218 : decode cX9_init 218 = .ok (.putfield 92, 3) := by decide +kernel
theorem dX9_init_221 : decode cX9_init 221 = .ok (.aload_n 0, 1) := by decide +kernel
theorem dX9_init_222 : decode cX9_init 222 = .ok (.sipush 200, 3) := by decide +kernel
theorem dX9_init_225 : decode cX9_init 225 = .ok (.newarray .int, 2) := by decide +kernel
theorem dX9_init_227 : decode cX9_init 227 = .ok (.putfield 95, 3) := by decide +kernel
theorem dX9_init_230 : decode cX9_init 230 = .ok (.aload_n 0, 1) := by decide +kernel
theorem dX9_init_231 : decode cX9_init 231 = .ok (.sipush 200, 3) := by decide +kernel
theorem dX9_init_234 : decode cX9_init 234 = .ok (.newarray .int, 2) := by decide +kernel
theorem dX9_init_236 : decode cX9_init 236 = .ok (.putfield 98, 3) := by decide +kernel
theorem dX9_init_239 : decode cX9_init 239 = .ok (.aload_n 0, 1) := by decide +kernel
theorem dX9_init_240 : decode cX9_init 240 = .ok (.sipush 200, 3) := by decide +kernel
theorem dX9_init_243 : decode cX9_init 243 = .ok (.newarray .int, 2) := by decide +kernel
theorem dX9_init_245 : decode cX9_init 245 = .ok (.putfield 101, 3) := by decide +kernel
theorem dX9_init_248 : decode cX9_init 248 = .ok (.aload_n 0, 1) := by decide +kernel
theorem dX9_init_249 : decode cX9_init 249 = .ok (.bipush 30, 2) := by decide +kernel
theorem dX9_init_251 : decode cX9_init 251 = .ok (.newarray .int, 2) := by decide +kernel
theorem dX9_init_253 : decode cX9_init 253 = .ok (.putfield 104, 3) := by decide +kernel
theorem dX9_init_256 : decode cX9_init 256 = .ok (.aload_n 0, 1) := by decide +kernel
theorem dX9_init_257 : decode cX9_init 257 = .ok (.bipush 30, 2) := by decide +kernel
theorem dX9_init_259 : decode cX9_init 259 = .ok (.newarray .int, 2) := by decide +kernel
theorem dX9_init_261 : decode cX9_init 261 = .ok (.putfield 107, 3) := by decide +kernel
theorem dX9_init_264 : decode cX9_init 264 = .ok (.aload_n 0, 1) := by decide +kernel
theorem dX9_init_265 : decode cX9_init 265 = .ok (.iconst (-1), 1) := by decide +kernel
theorem dX9_init_266 : decode cX9_init 266 = .ok (.putfield 110, 3) := by decide +kernel
theorem dX9_init_269 : decode cX9_init 269 = .ok (.aload_n 0, 1) := by decide +kernel
theorem dX9_init_270 : decode cX9_init 270 = .ok (.bipush 20, 2) := by decide +kernel
theorem dX9_init_272 : decode cX9_init 272 = .ok (.newarray .int, 2) := by decide +kernel
theorem dX9_init_274 : decode cX9_init 274 = .ok (.putfield 114, 3) := by decide +kernel
theorem dX9_init_277 : decode cX9_init 277 = .ok (.aload_n 0, 1) := by decide +kernel
theorem dX9_init_278 : decode cX9_init 278 = .ok (.bipush 20, 2) := by decide +kernel
theorem dX9_init_280 : decode cX9_init 280 = .ok (.newarray .int, 2) := by decide +kernel
theorem dX9_init_282 : decode cX9_init 282 = .ok (.putfield 117, 3) := by decide +kernel
theorem dX9_init_285 : decode cX9_init 285 = .ok (.aload_n 0, 1) := by decide +kernel
theorem dX9_init_286 : decode cX9_init 286 = .ok (.bipush 20, 2) := by decide +kernel
theorem dX9_init_288 : decode cX9_init 288 = .ok (.newarray .int, 2) := by decide +kernel
theorem dX9_init_290 : decode cX9_init 290 = .ok (.putfield 120, 3) := by decide +kernel
theorem dX9_init_293 : decode cX9_init 293 = .ok (.aload_n 0, 1) := by decide +kernel
theorem dX9_init_294 : decode cX9_init 294 = .ok (.bipush 20, 2) := by decide +kernel
theorem dX9_init_296 : decode cX9_init 296 = .ok (.newarray .int, 2) := by decide +kernel
theorem dX9_init_298 : decode cX9_init 298 = .ok (.putfield 123, 3) := by decide +kernel
theorem dX9_init_301 : decode cX9_init 301 = .ok (.aload_n 0, 1) := by decide +kernel
theorem dX9_init_302 : decode cX9_init 302 = .ok (.bipush 20, 2) := by decide +kernel
theorem dX9_init_304 : decode cX9_init 304 = .ok (.newarray .int, 2) := by decide +kernel
theorem dX9_init_306 : decode cX9_init 306 = .ok (.putfield 126, 3) := by decide +kernel
theorem dX9_init_309 : decode cX9_init 309 = .ok (.aload_n 0, 1) := by decide +kernel
theorem dX9_init_310 : decode cX9_init 310 = .ok (.iconst 4, 1) := by decide +kernel
theorem dX9_init_311 : decode cX9_init 311 = .ok (.newarray .int, 2) := by decide +kernel
theorem dX9_init_313 : decode cX9_init 313 = .ok (.putfield 129, 3) := by decide +kernel
theorem dX9_init_316 : decode cX9_init 316 = .ok (.aload_n 0, 1) := by decide +kernel
theorem dX9_init_317 : decode cX9_init 317 = .ok (.iconst 4, 1) := by decide +kernel
theorem dX9_init_318 : decode cX9_init 318 = .ok (.newarray .int, 2) := by decide +kernel
theorem dX9_init_320 : decode cX9_init 320 = .ok (.putfield 132, 3) := by decide +kernel
theorem dX9_init_323 : decode cX9_init 323 = .ok (.aload_n 0, 1) := by decide +kernel
theorem dX9_init_324 : decode cX9_init 324 = .ok (.bipush 24, 2) := by decide +kernel
theorem dX9_init_326 : decode cX9_init 326 = .ok (.newarray .int, 2) := by decide +kernel
theorem dX9_init_328 : decode cX9_init 328 = .ok (.putfield 135, 3) := by decide +kernel
theorem dX9_init_331 : decode cX9_init 331 = .ok (.aload_n 0, 1) := by decide +kernel
theorem dX9_init_332 : decode cX9_init 332 = .ok (.bipush 24, 2) := by decide +kernel
theorem dX9_init_334 : decode cX9_init 334 = .ok (.newarray .boolean, 2) := by decide +kernel
theorem dX9_init_336 : decode cX9_init 336 = .ok (.putfield 138, 3) := by decide +kernel
theorem dX9_init_339 : decode cX9_init 339 = .ok (.iconst 0, 1) := by decide +kernel
theorem dX9_init_340 : decode cX9_init 340 = .ok (.istore_n 1, 1) := by decide +kernel
theorem dX9_init_341 : decode cX9_init 341 = .ok (.iload_n 1, 1) := by decide +kernel
theorem dX9_init_342 : decode cX9_init 342 = .ok (.bipush 12, 2) := by decide +kernel
theorem dX9_init_344 : decode cX9_init 344 = .ok (.if_icmp .ge 24, 3) := by decide +kernel
theorem dX9_init_347 : decode cX9_init 347 = .ok (.aload_n 0, 1) := by decide +kernel
theorem dX9_init_348 : decode cX9_init 348 = .ok (.getfield 53, 3) := by decide +kernel
theorem dX9_init_351 : decode cX9_init 351 = .ok (.iload_n 1, 1) := by decide +kernel
theorem dX9_init_352 : decode cX9_init 352 = .ok (.bipush 100, 2) := by decide +kernel
theorem dX9_init_354 : decode cX9_init 354 = .ok (.iastore, 1) := by decide +kernel
theorem dX9_init_355 : decode cX9_init 355 = .ok (.aload_n 0, 1) := by decide +kernel
theorem dX9_init_356 : decode cX9_init 356 = .ok (.getfield 68, 3) := by decide +kernel
theorem dX9_init_359 : decode cX9_init 359 = .ok (.iload_n 1, 1) := by decide +kernel
theorem dX9_init_360 : decode cX9_init 360 = .ok (.iconst (-1), 1) := by decide +kernel
theorem dX9_init_361 : decode cX9_init 361 = .ok (.iastore, 1) := by decide +kernel
theorem dX9_init_362 : decode cX9_init 362 = .ok (.iinc 1 1, 3) := by decide +kernel
theorem dX9_init_365 : decode cX9_init 365 = .ok (.goto (-24), 3) := by decide +kernel
theorem dX9_init_368 : decode cX9_init 368 = .ok (.iconst 0, 1) := by decide +kernel
theorem dX9_init_369 : decode cX9_init 369 = .ok (.istore_n 1, 1) := by decide +kernel
theorem dX9_init_370 : decode cX9_init 370 = .ok (.iload_n 1, 1) := by decide +kernel
theorem dX9_init_371 : decode cX9_init 371 = .ok (.iconst 4, 1) := by decide +kernel
theorem dX9_init_372 : decode cX9_init 372 = .ok (.if_icmp .ge 16, 3) := by decide +kernel
theorem dX9_init_375 : decode cX9_init 375 = .ok (.aload_n 0, 1) := by decide +kernel
theorem dX9_init_376 : decode cX9_init 376 = .ok (.getfield 38, 3) := by decide +kernel
theorem dX9_init_379 : decode cX9_init 379 = .ok (.iload_n 1, 1) := by decide +kernel
theorem dX9_init_380 : decode cX9_init 380 = .ok (.iconst 1, 1) := by decide +kernel
theorem dX9_init_381 : decode cX9_init 381 = .ok (.bastore, 1) := by decide +kernel
theorem dX9_init_382 : decode cX9_init 382 = .ok (.iinc 1 1, 3) := by decide +kernel
theorem dX9_init_385 : decode cX9_init 385 = .ok (.goto (-15), 3) := by decide +kernel
theorem dX9_init_388 : decode cX9_init 388 = .ok (.iconst 0, 1) := by decide +kernel
theorem dX9_init_389 : decode cX9_init 389 = .ok (.istore_n 1, 1) := by decide +kernel
theorem dX9_init_390 : decode cX9_init 390 = .ok (.iload_n 1, 1) := by decide +kernel
theorem dX9_init_391 : decode cX9_init 391 = .ok (.bipush 30, 2) := by decide +kernel
theorem dX9_init_393 : decode cX9_init 393 = .ok (.if_icmp .ge 23, 3) := by decide +kernel
theorem dX9_init_396 : decode cX9_init 396 = .ok (.aload_n 0, 1) := by decide +kernel
theorem dX9_init_397 : decode cX9_init 397 = .ok (.getfield 104, 3) := by decide +kernel
theorem dX9_init_400 : decode cX9_init 400 = .ok (.iload_n 1, 1) := by decide +kernel
theorem dX9_init_401 : decode cX9_init 401 = .ok (.iconst (-1), 1) := by decide +kernel
theorem dX9_init_402 : decode cX9_init 402 = .ok (.iastore, 1) := by decide +kernel
theorem dX9_init_403 : decode cX9_init 403 = .ok (.aload_n 0, 1) := by decide +kernel
theorem dX9_init_404 : decode cX9_init 404 = .ok (.getfield 107, 3) := by decide +kernel
theorem dX9_init_407 : decode cX9_init 407 = .ok (.iload_n 1, 1) := by decide +kernel
theorem dX9_init_408 : decode cX9_init 408 = .ok (.iconst (-1), 1) := by decide +kernel
theorem dX9_init_409 : decode cX9_init 409 = .ok (.iastore, 1) := by decide +kernel
theorem dX9_init_410 : decode cX9_init 410 = .ok (.iinc 1 1, 3) := by decide +kernel
theorem dX9_init_413 : decode cX9_init 413 = .ok (.goto (-23), 3) := by decide +kernel
theorem dX9_init_416 : decode cX9_init 416 = .ok (.iconst 0, 1) := by decide +kernel
theorem dX9_init_417 : decode cX9_init 417 = .ok (.istore_n 1, 1) := by decide +kernel
theorem dX9_init_418 : decode cX9_init 418 = .ok (.iload_n 1, 1) := by decide +kernel
theorem dX9_init_419 : decode cX9_init 419 = .ok (.bipush 24, 2) := by decide +kernel
theorem dX9_init_421 : decode cX9_init 421 = .ok (.if_icmp .ge 16, 3) := by decide +kernel
theorem dX9_init_424 : decode cX9_init 424 = .ok (.aload_n 0, 1) := by decide +kernel
theorem dX9_init_425 : decode cX9_init 425 = .ok (.getfield 135, 3) := by decide +kernel
theorem dX9_init_428 : decode cX9_init 428 = .ok (.iload_n 1, 1) := by decide +kernel
theorem dX9_init_429 : decode cX9_init 429 = .ok (.iconst 1, 1) := by decide +kernel
theorem dX9_init_430 : decode cX9_init 430 = .ok (.iastore, 1) := by decide +kernel
theorem dX9_init_431 : decode cX9_init 431 = .ok (.iinc 1 1, 3) := by decide +kernel
theorem dX9_init_434 : decode cX9_init 434 = .ok (.goto (-16), 3) := by decide +kernel
theorem dX9_init_437 : decode cX9_init 437 = .ok (.return_, 1) := by decide +kernel
theorem dX9_in_0 : decode cX9_in 0 = .ok (.iload_n 0, 1) := by decide +kernel
theorem dX9_in_1 : decode cX9_in 1 = .ok (.iload_n 1, 1) := by decide +kernel
theorem dX9_in_2 : decode cX9_in 2 = .ok (.if_icmp .lt 12, 3) := by decide +kernel
theorem dX9_in_5 : decode cX9_in 5 = .ok (.iload_n 0, 1) := by decide +kernel
theorem dX9_in_6 : decode cX9_in 6 = .ok (.iload_n 2, 1) := by decide +kernel
theorem dX9_in_7 : decode cX9_in 7 = .ok (.if_icmp .gt 7, 3) := by decide +kernel
theorem dX9_in_10 : decode cX9_in 10 = .ok (.iconst 1, 1) := by decide +kernel
theorem dX9_in_11 : decode cX9_in 11 = .ok (.goto 4, 3) := by decide +kernel
theorem dX9_in_14 : decode cX9_in 14 = .ok (.iconst 0, 1) := by decide +kernel
theorem dX9_in_15 : decode cX9_in 15 = .ok (.ireturn, 1) := by decide +kernel
theorem dX9_has_0 : decode cX9_has 0 = .ok (.iload_n 1, 1) := by decide +kernel
theorem dX9_has_1 : decode cX9_has 1 = .ok (.iconst 0, 1) := by decide +kernel
theorem dX9_has_2 : decode cX9_has 2 = .ok (.iconst 3, 1) := by decide +kernel
theorem dX9_has_3 : decode cX9_has 3 = .ok (.invokestatic 141, 3) := by decide +kernel
theorem dX9_has_6 : decode cX9_has 6 = .ok (.ifCond .eq 16, 3) := by decide +kernel
theorem dX9_has_9 : decode cX9_has 9 = .ok (.aload_n 0, 1) := by decide +kernel
theorem dX9_has_10 : decode cX9_has 10 = .ok (.getfield 7, 3) := by decide +kernel
theorem dX9_has_13 : decode cX9_has 13 = .ok (.iload_n 1, 1) := by decide +kernel
theorem dX9_has_14 : decode cX9_has 14 = .ok (.baload, 1) := by decide +kernel
theorem dX9_has_15 : decode cX9_has 15 = .ok (.ifCond .eq 7, 3) := by decide +kernel
theorem dX9_has_18 : decode cX9_has 18 = .ok (.iconst 1, 1) := by decide +kernel
theorem dX9_has_19 : decode cX9_has 19 = .ok (.goto 4, 3) := by decide +kernel
theorem dX9_has_22 : decode cX9_has 22 = .ok (.iconst 0, 1) := by decide +kernel
theorem dX9_has_23 : decode cX9_has 23 = .ok (.ireturn, 1) := by decide +kernel
theorem dX9_isTicket_0 : decode cX9_isTicket 0 = .ok (.iload_n 1, 1) := by decide +kernel
theorem dX9_isTicket_1 : decode cX9_isTicket 1 = .ok (.iconst 0, 1) := by decide +kernel
theorem dX9_isTicket_2 : decode cX9_isTicket 2 = .ok (.aload_n 0, 1) := by decide +kernel
theorem dX9_isTicket_3 : decode cX9_isTicket 3 = .ok (.getfield 145, 3) := by decide +kernel
theorem dX9_isTicket_6 : decode cX9_isTicket 6 = .ok (.iconst 1, 1) := by decide +kernel
theorem dX9_isTicket_7 : decode cX9_isTicket 7 = .ok (.isub, 1) := by decide +kernel
theorem dX9_isTicket_8 : decode cX9_isTicket 8 = .ok (.invokestatic 141, 3) := by decide +kernel
theorem dX9_isTicket_11 : decode cX9_isTicket 11 = .ok (.ireturn, 1) := by decide +kernel
theorem dX9_pool_0 : decode cX9_pool 0 = .ok (.aload_n 0, 1) := by decide +kernel
theorem dX9_pool_1 : decode cX9_pool 1 = .ok (.getfield 148, 3) := by decide +kernel
theorem dX9_pool_4 : decode cX9_pool 4 = .ok (.ifCond .ne 52, 3) := by decide +kernel
theorem dX9_pool_7 : decode cX9_pool 7 = .ok (.iload_n 1, 1) := by decide +kernel
theorem dX9_pool_8 : decode cX9_pool 8 = .ok (.iconst 0, 1) := by decide +kernel
theorem dX9_pool_9 : decode cX9_pool 9 = .ok (.iconst 3, 1) := by decide +kernel
theorem dX9_pool_10 : decode cX9_pool 10 = .ok (.invokestatic 141, 3) := by decide +kernel
theorem dX9_pool_13 : decode cX9_pool 13 = .ok (.ifCond .eq 43, 3) := by decide +kernel
theorem dX9_pool_16 : decode cX9_pool 16 = .ok (.aload_n 0, 1) := by decide +kernel
theorem dX9_pool_17 : decode cX9_pool 17 = .ok (.getfield 7, 3) := by decide +kernel
theorem dX9_pool_20 : decode cX9_pool 20 = .ok (.iload_n 1, 1) := by decide +kernel
theorem dX9_pool_21 : decode cX9_pool 21 = .ok (.baload, 1) := by decide +kernel
theorem dX9_pool_22 : decode cX9_pool 22 = .ok (.ifCond .ne 34, 3) := by decide +kernel
theorem dX9_pool_25 : decode cX9_pool 25 = .ok (.iload_n 2, 1) := by decide +kernel
theorem dX9_pool_26 : decode cX9_pool 26 = .ok (.iconst 1, 1) := by decide +kernel
theorem dX9_pool_27 : decode cX9_pool 27 = .ok (.sipush 200, 3) := by decide +kernel
theorem dX9_pool_30 : decode cX9_pool 30 = .ok (.invokestatic 141, 3) := by decide +kernel
theorem dX9_pool_33 : decode cX9_pool 33 = .ok (.ifCond .eq 23, 3) := by decide +kernel
theorem dX9_pool_36 : decode cX9_pool 36 = .ok (.iload_n 3, 1) := by decide +kernel
theorem dX9_pool_37 : decode cX9_pool 37 = .ok (.iconst 1, 1) := by decide +kernel
theorem dX9_pool_38 : decode cX9_pool 38 = .ok (.bipush 8, 2) := by decide +kernel
theorem dX9_pool_40 : decode cX9_pool 40 = .ok (.invokestatic 141, 3) := by decide +kernel
theorem dX9_pool_43 : decode cX9_pool 43 = .ok (.ifCond .eq 13, 3) := by decide +kernel
theorem dX9_pool_46 : decode cX9_pool 46 = .ok (.iload 4, 2) := by decide +kernel
theorem dX9_pool_48 : decode cX9_pool 48 = .ok (.iconst 0, 1) := by decide +kernel
theorem dX9_pool_49 : decode cX9_pool 49 = .ok (.iconst 3, 1) := by decide +kernel
theorem dX9_pool_50 : decode cX9_pool 50 = .ok (.invokestatic 141, 3) := by decide +kernel
theorem dX9_pool_53 : decode cX9_pool 53 = .ok (.ifCond .ne 5, 3) := by decide +kernel
theorem dX9_pool_56 : decode cX9_pool 56 = .ok (.iconst 0, 1) := by decide +kernel
theorem dX9_pool_57 : decode cX9_pool 57 = .ok (.ireturn, 1) := by decide +kernel
theorem dX9_pool_58 : decode cX9_pool 58 = .ok (.aload_n 0, 1) := by decide +kernel
theorem dX9_pool_59 : decode cX9_pool 59 = .ok (.getfield 7, 3) := by decide +kernel
theorem dX9_pool_62 : decode cX9_pool 62 = .ok (.iload_n 1, 1) := by decide +kernel
theorem dX9_pool_63 : decode cX9_pool 63 = .ok (.iconst 1, 1) := by decide +kernel
theorem dX9_pool_64 : decode cX9_pool 64 = .ok (.bastore, 1) := by decide +kernel
theorem dX9_pool_65 : decode cX9_pool 65 = .ok (.aload_n 0, 1) := by decide +kernel
theorem dX9_pool_66 : decode cX9_pool 66 = .ok (.getfield 13, 3) := by decide +kernel
theorem dX9_pool_69 : decode cX9_pool 69 = .ok (.iload_n 1, 1) := by decide +kernel
theorem dX9_pool_70 : decode cX9_pool 70 = .ok (.iload_n 2, 1) := by decide +kernel
theorem dX9_pool_71 : decode cX9_pool 71 = .ok (.iastore, 1) := by decide +kernel
theorem dX9_pool_72 : decode cX9_pool 72 = .ok (.aload_n 0, 1) := by decide +kernel
theorem dX9_pool_73 : decode cX9_pool 73 = .ok (.getfield 17, 3) := by decide +kernel
theorem dX9_pool_76 : decode cX9_pool 76 = .ok (.iload_n 1, 1) := by decide +kernel
theorem dX9_pool_77 : decode cX9_pool 77 = .ok (.iload_n 3, 1) := by decide +kernel
theorem dX9_pool_78 : decode cX9_pool 78 = .ok (.iastore, 1) := by decide +kernel
theorem dX9_pool_79 : decode cX9_pool 79 = .ok (.aload_n 0, 1) := by decide +kernel
theorem dX9_pool_80 : decode cX9_pool 80 = .ok (.getfield 20, 3) := by decide +kernel
theorem dX9_pool_83 : decode cX9_pool 83 = .ok (.iload_n 1, 1) := by decide +kernel
theorem dX9_pool_84 : decode cX9_pool 84 = .ok (.iload 4, 2) := by decide +kernel
theorem dX9_pool_86 : decode cX9_pool 86 = .ok (.iastore, 1) := by decide +kernel
theorem dX9_pool_87 : decode cX9_pool 87 = .ok (.iconst 1, 1) := by decide +kernel
theorem dX9_pool_88 : decode cX9_pool 88 = .ok (.ireturn, 1) := by decide +kernel
theorem dX9_leastNow_0 : decode cX9_leastNow 0 = .ok (.aload_n 0, 1) := by decide +kernel
theorem dX9_leastNow_1 : decode cX9_leastNow 1 = .ok (.getfield 35, 3) := by decide +kernel
theorem dX9_leastNow_4 : decode cX9_leastNow 4 = .ok (.iload_n 1, 1) := by decide +kernel
theorem dX9_leastNow_5 : decode cX9_leastNow 5 = .ok (.baload, 1) := by decide +kernel
theorem dX9_leastNow_6 : decode cX9_leastNow 6 = .ok (.ifCond .eq 14, 3) := by decide +kernel
theorem dX9_leastNow_9 : decode cX9_leastNow 9 = .ok (.aload_n 0, 1) := by decide +kernel
theorem dX9_leastNow_10 : decode cX9_leastNow 10 = .ok (.getfield 23, 3) := by decide +kernel
theorem dX9_leastNow_13 : decode cX9_leastNow 13 = .ok (.iload_n 1, 1) := by decide +kernel
theorem dX9_leastNow_14 : decode cX9_leastNow 14 = .ok (.iaload, 1) := by decide +kernel
theorem dX9_leastNow_15 : decode cX9_leastNow 15 = .ok (.iconst 3, 1) := by decide +kernel
theorem dX9_leastNow_16 : decode cX9_leastNow 16 = .ok (.isub, 1) := by decide +kernel
theorem dX9_leastNow_17 : decode cX9_leastNow 17 = .ok (.goto 23, 3) := by decide +kernel
theorem dX9_leastNow_20 : decode cX9_leastNow 20 = .ok (.aload_n 0, 1) := by decide +kernel
theorem dX9_leastNow_21 : decode cX9_leastNow 21 = .ok (.getfield 23, 3) := by decide +kernel
theorem dX9_leastNow_24 : decode cX9_leastNow 24 = .ok (.iload_n 1, 1) := by decide +kernel
theorem dX9_leastNow_25 : decode cX9_leastNow 25 = .ok (.iaload, 1) := by decide +kernel
theorem dX9_leastNow_26 : decode cX9_leastNow 26 = .ok (.aload_n 0, 1) := by decide +kernel
theorem dX9_leastNow_27 : decode cX9_leastNow 27 = .ok (.getfield 29, 3) := by decide +kernel
theorem dX9_leastNow_30 : decode cX9_leastNow 30 = .ok (.iload_n 1, 1) := by decide +kernel
theorem dX9_leastNow_31 : decode cX9_leastNow 31 = .ok (.iaload, 1) := by decide +kernel
theorem dX9_leastNow_32 : decode cX9_leastNow 32 = .ok (.iadd, 1) := by decide +kernel
theorem dX9_leastNow_33 : decode cX9_leastNow 33 = .ok (.aload_n 0, 1) := by decide +kernel
theorem dX9_leastNow_34 : decode cX9_leastNow 34 = .ok (.getfield 32, 3) := by decide +kernel
theorem dX9_leastNow_37 : decode cX9_leastNow 37 = .ok (.iload_n 1, 1) := by decide +kernel
theorem dX9_leastNow_38 : decode cX9_leastNow 38 = .ok (.iaload, 1) := by decide +kernel
theorem dX9_leastNow_39 : decode cX9_leastNow 39 = .ok (.isub, 1) := by decide +kernel
theorem dX9_leastNow_40 : decode cX9_leastNow 40 = .ok (.istore_n 2, 1) := by decide +kernel
theorem dX9_leastNow_41 : decode cX9_leastNow 41 = .ok (.iload_n 2, 1) := by decide +kernel
theorem dX9_leastNow_42 : decode cX9_leastNow 42 = .ok (.ifCond .ge 7, 3) := by decide +kernel
theorem dX9_leastNow_45 : decode cX9_leastNow 45 = .ok (.iconst 0, 1) := by decide +kernel
theorem dX9_leastNow_46 : decode cX9_leastNow 46 = .ok (.goto 4, 3) := by decide +kernel
theorem dX9_leastNow_49 : decode cX9_leastNow 49 = .ok (.iload_n 2, 1) := by decide +kernel
theorem dX9_leastNow_50 : decode cX9_leastNow 50 = .ok (.ireturn, 1) := by decide +kernel
theorem dX9_mostNow_0 : decode cX9_mostNow 0 = .ok (.aload_n 0, 1) := by decide +kernel
theorem dX9_mostNow_1 : decode cX9_mostNow 1 = .ok (.getfield 35, 3) := by decide +kernel
theorem dX9_mostNow_4 : decode cX9_mostNow 4 = .ok (.iload_n 1, 1) := by decide +kernel
theorem dX9_mostNow_5 : decode cX9_mostNow 5 = .ok (.baload, 1) := by decide +kernel
theorem dX9_mostNow_6 : decode cX9_mostNow 6 = .ok (.ifCond .eq 14, 3) := by decide +kernel
theorem dX9_mostNow_9 : decode cX9_mostNow 9 = .ok (.aload_n 0, 1) := by decide +kernel
theorem dX9_mostNow_10 : decode cX9_mostNow 10 = .ok (.getfield 26, 3) := by decide +kernel
theorem dX9_mostNow_13 : decode cX9_mostNow 13 = .ok (.iload_n 1, 1) := by decide +kernel
theorem dX9_mostNow_14 : decode cX9_mostNow 14 = .ok (.iaload, 1) := by decide +kernel
theorem dX9_mostNow_15 : decode cX9_mostNow 15 = .ok (.iconst 3, 1) := by decide +kernel
theorem dX9_mostNow_16 : decode cX9_mostNow 16 = .ok (.iadd, 1) := by decide +kernel
theorem dX9_mostNow_17 : decode cX9_mostNow 17 = .ok (.goto 23, 3) := by decide +kernel
theorem dX9_mostNow_20 : decode cX9_mostNow 20 = .ok (.aload_n 0, 1) := by decide +kernel
theorem dX9_mostNow_21 : decode cX9_mostNow 21 = .ok (.getfield 26, 3) := by decide +kernel
theorem dX9_mostNow_24 : decode cX9_mostNow 24 = .ok (.iload_n 1, 1) := by decide +kernel
theorem dX9_mostNow_25 : decode cX9_mostNow 25 = .ok (.iaload, 1) := by decide +kernel
theorem dX9_mostNow_26 : decode cX9_mostNow 26 = .ok (.aload_n 0, 1) := by decide +kernel
theorem dX9_mostNow_27 : decode cX9_mostNow 27 = .ok (.getfield 29, 3) := by decide +kernel
theorem dX9_mostNow_30 : decode cX9_mostNow 30 = .ok (.iload_n 1, 1) := by decide +kernel
theorem dX9_mostNow_31 : decode cX9_mostNow 31 = .ok (.iaload, 1) := by decide +kernel
theorem dX9_mostNow_32 : decode cX9_mostNow 32 = .ok (.iadd, 1) := by decide +kernel
theorem dX9_mostNow_33 : decode cX9_mostNow 33 = .ok (.aload_n 0, 1) := by decide +kernel
theorem dX9_mostNow_34 : decode cX9_mostNow 34 = .ok (.getfield 32, 3) := by decide +kernel
theorem dX9_mostNow_37 : decode cX9_mostNow 37 = .ok (.iload_n 1, 1) := by decide +kernel
theorem dX9_mostNow_38 : decode cX9_mostNow 38 = .ok (.iaload, 1) := by decide +kernel
theorem dX9_mostNow_39 : decode cX9_mostNow 39 = .ok (.isub, 1) := by decide +kernel
theorem dX9_mostNow_40 : decode cX9_mostNow 40 = .ok (.ireturn, 1) := by decide +kernel
theorem dX9_begins_0 : decode cX9_begins 0 = .ok (.aload_n 0, 1) := by decide +kernel
theorem dX9_begins_1 : decode cX9_begins 1 = .ok (.getfield 23, 3) := by decide +kernel
theorem dX9_begins_4 : decode cX9_begins 4 = .ok (.iload_n 1, 1) := by decide +kernel
theorem dX9_begins_5 : decode cX9_begins 5 = .ok (.iload_n 2, 1) := by decide +kernel
theorem dX9_begins_6 : decode cX9_begins 6 = .ok (.iastore, 1) := by decide +kernel
theorem dX9_begins_7 : decode cX9_begins 7 = .ok (.aload_n 0, 1) := by decide +kernel
theorem dX9_begins_8 : decode cX9_begins 8 = .ok (.getfield 26, 3) := by decide +kernel
theorem dX9_begins_11 : decode cX9_begins 11 = .ok (.iload_n 1, 1) := by decide +kernel
theorem dX9_begins_12 : decode cX9_begins 12 = .ok (.iload_n 3, 1) := by decide +kernel
theorem dX9_begins_13 : decode cX9_begins 13 = .ok (.iastore, 1) := by decide +kernel
theorem dX9_begins_14 : decode cX9_begins 14 = .ok (.aload_n 0, 1) := by decide +kernel
theorem dX9_begins_15 : decode cX9_begins 15 = .ok (.getfield 29, 3) := by decide +kernel
theorem dX9_begins_18 : decode cX9_begins 18 = .ok (.iload_n 1, 1) := by decide +kernel
theorem dX9_begins_19 : decode cX9_begins 19 = .ok (.iconst 0, 1) := by decide +kernel
theorem dX9_begins_20 : decode cX9_begins 20 = .ok (.iastore, 1) := by decide +kernel
theorem dX9_begins_21 : decode cX9_begins 21 = .ok (.aload_n 0, 1) := by decide +kernel
theorem dX9_begins_22 : decode cX9_begins 22 = .ok (.getfield 32, 3) := by decide +kernel
theorem dX9_begins_25 : decode cX9_begins 25 = .ok (.iload_n 1, 1) := by decide +kernel
theorem dX9_begins_26 : decode cX9_begins 26 = .ok (.iconst 0, 1) := by decide +kernel
theorem dX9_begins_27 : decode cX9_begins 27 = .ok (.iastore, 1) := by decide +kernel
theorem dX9_begins_28 : decode cX9_begins 28 = .ok (.aload_n 0, 1) := by decide +kernel
theorem dX9_begins_29 : decode cX9_begins 29 = .ok (.getfield 35, 3) := by decide +kernel
theorem dX9_begins_32 : decode cX9_begins 32 = .ok (.iload_n 1, 1) := by decide +kernel
theorem dX9_begins_33 : decode cX9_begins 33 = .ok (.aload_n 0, 1) := by decide +kernel
theorem dX9_begins_34 : decode cX9_begins 34 = .ok (.getfield 38, 3) := by decide +kernel
theorem dX9_begins_37 : decode cX9_begins 37 = .ok (.iload_n 1, 1) := by decide +kernel
theorem dX9_begins_38 : decode cX9_begins 38 = .ok (.baload, 1) := by decide +kernel
theorem dX9_begins_39 : decode cX9_begins 39 = .ok (.ifCond .ne 7, 3) := by decide +kernel
theorem dX9_begins_42 : decode cX9_begins 42 = .ok (.iconst 1, 1) := by decide +kernel
theorem dX9_begins_43 : decode cX9_begins 43 = .ok (.goto 4, 3) := by decide +kernel
theorem dX9_begins_46 : decode cX9_begins 46 = .ok (.iconst 0, 1) := by decide +kernel
theorem dX9_begins_47 : decode cX9_begins 47 = .ok (.bastore, 1) := by decide +kernel
theorem dX9_begins_48 : decode cX9_begins 48 = .ok (.return_, 1) := by decide +kernel
theorem dX9_go_0 : decode cX9_go 0 = .ok (.iload_n 1, 1) := by decide +kernel
theorem dX9_go_1 : decode cX9_go 1 = .ok (.iconst 1, 1) := by decide +kernel
theorem dX9_go_2 : decode cX9_go 2 = .ok (.sipush 240, 3) := by decide +kernel
theorem dX9_go_5 : decode cX9_go 5 = .ok (.invokestatic 141, 3) := by decide +kernel
theorem dX9_go_8 : decode cX9_go 8 = .ok (.ifCond .eq 15, 3) := by decide +kernel
theorem dX9_go_11 : decode cX9_go 11 = .ok (.aload_n 0, 1) := by decide +kernel
theorem dX9_go_12 : decode cX9_go 12 = .ok (.getfield 148, 3) := by decide +kernel
theorem dX9_go_15 : decode cX9_go 15 = .ok (.iload_n 1, 1) := by decide +kernel
theorem dX9_go_16 : decode cX9_go 16 = .ok (.iadd, 1) := by decide +kernel
theorem dX9_go_17 : decode cX9_go 17 = .ok (.sipush 1440, 3) := by decide +kernel
theorem dX9_go_20 : decode cX9_go 20 = .ok (.if_icmp .lt 5, 3) := by decide +kernel
theorem dX9_go_23 : decode cX9_go 23 = .ok (.iconst (-1), 1) := by decide +kernel
theorem dX9_go_24 : decode cX9_go 24 = .ok (.ireturn, 1) := by decide +kernel
theorem dX9_go_25 : decode cX9_go 25 = .ok (.iconst 0, 1) := by decide +kernel
theorem dX9_go_26 : decode cX9_go 26 = .ok (.istore_n 2, 1) := by decide +kernel
theorem dX9_go_27 : decode cX9_go 27 = .ok (.iload_n 2, 1) := by decide +kernel
theorem dX9_go_28 : decode cX9_go 28 = .ok (.iload_n 1, 1) := by decide +kernel
theorem dX9_go_29 : decode cX9_go 29 = .ok (.if_icmp .ge 95, 3) := by decide +kernel
theorem dX9_go_32 : decode cX9_go 32 = .ok (.iconst 0, 1) := by decide +kernel
theorem dX9_go_33 : decode cX9_go 33 = .ok (.istore_n 3, 1) := by decide +kernel
theorem dX9_go_34 : decode cX9_go 34 = .ok (.iload_n 3, 1) := by decide +kernel
theorem dX9_go_35 : decode cX9_go 35 = .ok (.iconst 4, 1) := by decide +kernel
theorem dX9_go_36 : decode cX9_go 36 = .ok (.if_icmp .ge 72, 3) := by decide +kernel
theorem dX9_go_39 : decode cX9_go 39 = .ok (.aload_n 0, 1) := by decide +kernel
theorem dX9_go_40 : decode cX9_go 40 = .ok (.getfield 7, 3) := by decide +kernel
theorem dX9_go_43 : decode cX9_go 43 = .ok (.iload_n 3, 1) := by decide +kernel
theorem dX9_go_44 : decode cX9_go 44 = .ok (.baload, 1) := by decide +kernel
theorem dX9_go_45 : decode cX9_go 45 = .ok (.ifCond .ne 6, 3) := by decide +kernel
theorem dX9_go_48 : decode cX9_go 48 = .ok (.goto 54, 3) := by decide +kernel
theorem dX9_go_51 : decode cX9_go 51 = .ok (.aload_n 0, 1) := by decide +kernel
theorem dX9_go_52 : decode cX9_go 52 = .ok (.getfield 47, 3) := by decide +kernel
theorem dX9_go_55 : decode cX9_go 55 = .ok (.iload_n 3, 1) := by decide +kernel
theorem dX9_go_56 : decode cX9_go 56 = .ok (.dup2, 1) := by decide +kernel
theorem dX9_go_57 : decode cX9_go 57 = .ok (.iaload, 1) := by decide +kernel
theorem dX9_go_58 : decode cX9_go 58 = .ok (.aload_n 0, 1) := by decide +kernel
theorem dX9_go_59 : decode cX9_go 59 = .ok (.iload_n 3, 1) := by decide +kernel
theorem dX9_go_60 : decode cX9_go 60 = .ok (.invokevirtual 151, 3) := by decide +kernel
theorem dX9_go_63 : decode cX9_go 63 = .ok (.ifCond .le 7, 3) := by decide +kernel
theorem dX9_go_66 : decode cX9_go 66 = .ok (.iconst 1, 1) := by decide +kernel
theorem dX9_go_67 : decode cX9_go 67 = .ok (.goto 4, 3) := by decide +kernel
theorem dX9_go_70 : decode cX9_go 70 = .ok (.iconst 0, 1) := by decide +kernel
theorem dX9_go_71 : decode cX9_go 71 = .ok (.iadd, 1) := by decide +kernel
theorem dX9_go_72 : decode cX9_go 72 = .ok (.iastore, 1) := by decide +kernel
theorem dX9_go_73 : decode cX9_go 73 = .ok (.aload_n 0, 1) := by decide +kernel
theorem dX9_go_74 : decode cX9_go 74 = .ok (.iload_n 3, 1) := by decide +kernel
theorem dX9_go_75 : decode cX9_go 75 = .ok (.aload_n 0, 1) := by decide +kernel
theorem dX9_go_76 : decode cX9_go 76 = .ok (.iload_n 3, 1) := by decide +kernel
theorem dX9_go_77 : decode cX9_go 77 = .ok (.invokevirtual 155, 3) := by decide +kernel
theorem dX9_go_80 : decode cX9_go 80 = .ok (.aload_n 0, 1) := by decide +kernel
theorem dX9_go_81 : decode cX9_go 81 = .ok (.iload_n 3, 1) := by decide +kernel
theorem dX9_go_82 : decode cX9_go 82 = .ok (.invokevirtual 158, 3) := by decide +kernel
theorem dX9_go_85 : decode cX9_go 85 = .ok (.invokevirtual 161, 3) := by decide +kernel
theorem dX9_go_88 : decode cX9_go 88 = .ok (.aload_n 0, 1) := by decide +kernel
theorem dX9_go_89 : decode cX9_go 89 = .ok (.getfield 41, 3) := by decide +kernel
theorem dX9_go_92 : decode cX9_go 92 = .ok (.iload_n 3, 1) := by decide +kernel
theorem dX9_go_93 : decode cX9_go 93 = .ok (.iconst 0, 1) := by decide +kernel
theorem dX9_go_94 : decode cX9_go 94 = .ok (.iastore, 1) := by decide +kernel
theorem dX9_go_95 : decode cX9_go 95 = .ok (.aload_n 0, 1) := by decide +kernel
theorem dX9_go_96 : decode cX9_go 96 = .ok (.getfield 44, 3) := by decide +kernel
theorem dX9_go_99 : decode cX9_go 99 = .ok (.iload_n 3, 1) := by decide +kernel
theorem dX9_go_100 : decode cX9_go 100 = .ok (.iconst 0, 1) := by decide +kernel
theorem dX9_go_101 : decode cX9_go 101 = .ok (.iastore, 1) := by decide +kernel
theorem dX9_go_102 : decode cX9_go 102 = .ok (.iinc 3 1, 3) := by decide +kernel
theorem dX9_go_105 : decode cX9_go 105 = .ok (.goto (-71), 3) := by decide +kernel
theorem dX9_go_108 : decode cX9_go 108 = .ok (.aload_n 0, 1) := by decide +kernel
theorem dX9_go_109 : decode cX9_go 109 = .ok (.dup, 1) := by decide +kernel
theorem dX9_go_110 : decode cX9_go 110 = .ok (.getfield 148, 3) := by decide +kernel
theorem dX9_go_113 : decode cX9_go 113 = .ok (.iconst 1, 1) := by decide +kernel
theorem dX9_go_114 : decode cX9_go 114 = .ok (.iadd, 1) := by decide +kernel
theorem dX9_go_115 : decode cX9_go 115 = .ok (.putfield 148, 3) := by decide +kernel
theorem dX9_go_118 : decode cX9_go 118 = .ok (.iinc 2 1, 3) := by decide +kernel
theorem dX9_go_121 : decode cX9_go 121 = .ok (.goto (-94), 3) := by decide +kernel
theorem dX9_go_124 : decode cX9_go 124 = .ok (.aload_n 0, 1) := by decide +kernel
theorem dX9_go_125 : decode cX9_go 125 = .ok (.getfield 148, 3) := by decide +kernel
theorem dX9_go_128 : decode cX9_go 128 = .ok (.ireturn, 1) := by decide +kernel
theorem dX9_eye_0 : decode cX9_eye 0 = .ok (.aload_n 0, 1) := by decide +kernel
theorem dX9_eye_1 : decode cX9_eye 1 = .ok (.iload_n 1, 1) := by decide +kernel
theorem dX9_eye_2 : decode cX9_eye 2 = .ok (.invokevirtual 165, 3) := by decide +kernel
theorem dX9_eye_5 : decode cX9_eye 5 = .ok (.ifCond .eq 13, 3) := by decide +kernel
theorem dX9_eye_8 : decode cX9_eye 8 = .ok (.aload_n 0, 1) := by decide +kernel
theorem dX9_eye_9 : decode cX9_eye 9 = .ok (.getfield 38, 3) := by decide +kernel
theorem dX9_eye_12 : decode cX9_eye 12 = .ok (.iload_n 1, 1) := by decide +kernel
theorem dX9_eye_13 : decode cX9_eye 13 = .ok (.baload, 1) := by decide +kernel
theorem dX9_eye_14 : decode cX9_eye 14 = .ok (.iload_n 2, 1) := by decide +kernel
theorem dX9_eye_15 : decode cX9_eye 15 = .ok (.if_icmp .ne 5, 3) := by decide +kernel
theorem dX9_eye_18 : decode cX9_eye 18 = .ok (.iconst 0, 1) := by decide +kernel
theorem dX9_eye_19 : decode cX9_eye 19 = .ok (.ireturn, 1) := by decide +kernel
theorem dX9_eye_20 : decode cX9_eye 20 = .ok (.aload_n 0, 1) := by decide +kernel
theorem dX9_eye_21 : decode cX9_eye 21 = .ok (.getfield 38, 3) := by decide +kernel
theorem dX9_eye_24 : decode cX9_eye 24 = .ok (.iload_n 1, 1) := by decide +kernel
theorem dX9_eye_25 : decode cX9_eye 25 = .ok (.iload_n 2, 1) := by decide +kernel
theorem dX9_eye_26 : decode cX9_eye 26 = .ok (.bastore, 1) := by decide +kernel
theorem dX9_eye_27 : decode cX9_eye 27 = .ok (.aload_n 0, 1) := by decide +kernel
theorem dX9_eye_28 : decode cX9_eye 28 = .ok (.getfield 35, 3) := by decide +kernel
theorem dX9_eye_31 : decode cX9_eye 31 = .ok (.iload_n 1, 1) := by decide +kernel
theorem dX9_eye_32 : decode cX9_eye 32 = .ok (.iconst 1, 1) := by decide +kernel
theorem dX9_eye_33 : decode cX9_eye 33 = .ok (.bastore, 1) := by decide +kernel
theorem dX9_eye_34 : decode cX9_eye 34 = .ok (.iconst 1, 1) := by decide +kernel
theorem dX9_eye_35 : decode cX9_eye 35 = .ok (.ireturn, 1) := by decide +kernel
theorem dX9_truth_0 : decode cX9_truth 0 = .ok (.iconst 0, 1) := by decide +kernel
theorem dX9_truth_1 : decode cX9_truth 1 = .ok (.istore_n 3, 1) := by decide +kernel
theorem dX9_truth_2 : decode cX9_truth 2 = .ok (.iconst 0, 1) := by decide +kernel
theorem dX9_truth_3 : decode cX9_truth 3 = .ok (.istore 4, 2) := by decide +kernel
theorem dX9_truth_5 : decode cX9_truth 5 = .ok (.iload 4, 2) := by decide +kernel
theorem dX9_truth_7 : decode cX9_truth 7 = .ok (.aload_n 0, 1) := by decide +kernel
theorem dX9_truth_8 : decode cX9_truth 8 = .ok (.getfield 145, 3) := by decide +kernel
theorem dX9_truth_11 : decode cX9_truth 11 = .ok (.if_icmp .ge 53, 3) := by decide +kernel
theorem dX9_truth_14 : decode cX9_truth 14 = .ok (.iload_n 3, 1) := by decide +kernel
theorem dX9_truth_15 : decode cX9_truth 15 = .ok (.aload_n 0, 1) := by decide +kernel
theorem dX9_truth_16 : decode cX9_truth 16 = .ok (.getfield 92, 3) := by decide +kernel
theorem dX9_truth_19 : decode cX9_truth 19 = .ok (.iload 4, 2) := by decide +kernel
theorem dX9_truth_21 : decode cX9_truth 21 = .ok (.baload, 1) := by decide +kernel
theorem dX9_truth_22 : decode cX9_truth 22 = .ok (.ifCond .eq 33, 3) := by decide +kernel
theorem dX9_truth_25 : decode cX9_truth 25 = .ok (.aload_n 0, 1) := by decide +kernel
theorem dX9_truth_26 : decode cX9_truth 26 = .ok (.getfield 74, 3) := by decide +kernel
theorem dX9_truth_29 : decode cX9_truth 29 = .ok (.iload 4, 2) := by decide +kernel
theorem dX9_truth_31 : decode cX9_truth 31 = .ok (.iaload, 1) := by decide +kernel
theorem dX9_truth_32 : decode cX9_truth 32 = .ok (.iload_n 1, 1) := by decide +kernel
theorem dX9_truth_33 : decode cX9_truth 33 = .ok (.if_icmp .ne 22, 3) := by decide +kernel
theorem dX9_truth_36 : decode cX9_truth 36 = .ok (.iload_n 2, 1) := by decide +kernel
theorem dX9_truth_37 : decode cX9_truth 37 = .ok (.ifCond .eq 14, 3) := by decide +kernel
theorem dX9_truth_40 : decode cX9_truth 40 = .ok (.aload_n 0, 1) := by decide +kernel
theorem dX9_truth_41 : decode cX9_truth 41 = .ok (.getfield 77, 3) := by decide +kernel
theorem dX9_truth_44 : decode cX9_truth 44 = .ok (.iload 4, 2) := by decide +kernel
theorem dX9_truth_46 : decode cX9_truth 46 = .ok (.iaload, 1) := by decide +kernel
theorem dX9_truth_47 : decode cX9_truth 47 = .ok (.iconst 5, 1) := by decide +kernel
theorem dX9_truth_48 : decode cX9_truth 48 = .ok (.if_icmp .ne 7, 3) := by decide +kernel
theorem dX9_truth_51 : decode cX9_truth 51 = .ok (.iconst 1, 1) := by decide +kernel
theorem dX9_truth_52 : decode cX9_truth 52 = .ok (.goto 4, 3) := by decide +kernel
theorem dX9_truth_55 : decode cX9_truth 55 = .ok (.iconst 0, 1) := by decide +kernel
theorem dX9_truth_56 : decode cX9_truth 56 = .ok (.iadd, 1) := by decide +kernel
theorem dX9_truth_57 : decode cX9_truth 57 = .ok (.istore_n 3, 1) := by decide +kernel
theorem dX9_truth_58 : decode cX9_truth 58 = .ok (.iinc 4 1, 3) := by decide +kernel
theorem dX9_truth_61 : decode cX9_truth 61 = .ok (.goto (-56), 3) := by decide +kernel
theorem dX9_truth_64 : decode cX9_truth 64 = .ok (.iload_n 3, 1) := by decide +kernel
theorem dX9_truth_65 : decode cX9_truth 65 = .ok (.ireturn, 1) := by decide +kernel
theorem dX9_hand_0 : decode cX9_hand 0 = .ok (.aload_n 0, 1) := by decide +kernel
theorem dX9_hand_1 : decode cX9_hand 1 = .ok (.iload_n 1, 1) := by decide +kernel
theorem dX9_hand_2 : decode cX9_hand 2 = .ok (.invokevirtual 165, 3) := by decide +kernel
theorem dX9_hand_5 : decode cX9_hand 5 = .ok (.ifCond .ne 5, 3) := by decide +kernel
theorem dX9_hand_8 : decode cX9_hand 8 = .ok (.iconst (-1), 1) := by decide +kernel
theorem dX9_hand_9 : decode cX9_hand 9 = .ok (.ireturn, 1) := by decide +kernel
theorem dX9_hand_10 : decode cX9_hand 10 = .ok (.aload_n 0, 1) := by decide +kernel
theorem dX9_hand_11 : decode cX9_hand 11 = .ok (.iload_n 1, 1) := by decide +kernel
theorem dX9_hand_12 : decode cX9_hand 12 = .ok (.iconst 0, 1) := by decide +kernel
theorem dX9_hand_13 : decode cX9_hand 13 = .ok (.invokevirtual 168, 3) := by decide +kernel
theorem dX9_hand_16 : decode cX9_hand 16 = .ok (.istore_n 2, 1) := by decide +kernel
theorem dX9_hand_17 : decode cX9_hand 17 = .ok (.aload_n 0, 1) := by decide +kernel
theorem dX9_hand_18 : decode cX9_hand 18 = .ok (.iload_n 1, 1) := by decide +kernel
theorem dX9_hand_19 : decode cX9_hand 19 = .ok (.iload_n 2, 1) := by decide +kernel
theorem dX9_hand_20 : decode cX9_hand 20 = .ok (.iload_n 2, 1) := by decide +kernel
theorem dX9_hand_21 : decode cX9_hand 21 = .ok (.invokevirtual 161, 3) := by decide +kernel
theorem dX9_hand_24 : decode cX9_hand 24 = .ok (.iload_n 2, 1) := by decide +kernel
theorem dX9_hand_25 : decode cX9_hand 25 = .ok (.ireturn, 1) := by decide +kernel
theorem dX9_isThere_0 : decode cX9_isThere 0 = .ok (.aload_n 0, 1) := by decide +kernel
theorem dX9_isThere_1 : decode cX9_isThere 1 = .ok (.getfield 148, 3) := by decide +kernel
theorem dX9_isThere_4 : decode cX9_isThere 4 = .ok (.aload_n 0, 1) := by decide +kernel
theorem dX9_isThere_5 : decode cX9_isThere 5 = .ok (.getfield 120, 3) := by decide +kernel
theorem dX9_isThere_8 : decode cX9_isThere 8 = .ok (.iload_n 1, 1) := by decide +kernel
theorem dX9_isThere_9 : decode cX9_isThere 9 = .ok (.iaload, 1) := by decide +kernel
theorem dX9_isThere_10 : decode cX9_isThere 10 = .ok (.if_icmp .lt 20, 3) := by decide +kernel
theorem dX9_isThere_13 : decode cX9_isThere 13 = .ok (.aload_n 0, 1) := by decide +kernel
theorem dX9_isThere_14 : decode cX9_isThere 14 = .ok (.getfield 148, 3) := by decide +kernel
theorem dX9_isThere_17 : decode cX9_isThere 17 = .ok (.aload_n 0, 1) := by decide +kernel
theorem dX9_isThere_18 : decode cX9_isThere 18 = .ok (.getfield 123, 3) := by decide +kernel
theorem dX9_isThere_21 : decode cX9_isThere 21 = .ok (.iload_n 1, 1) := by decide +kernel
theorem dX9_isThere_22 : decode cX9_isThere 22 = .ok (.iaload, 1) := by decide +kernel
theorem dX9_isThere_23 : decode cX9_isThere 23 = .ok (.if_icmp .ge 7, 3) := by decide +kernel
theorem dX9_isThere_26 : decode cX9_isThere 26 = .ok (.iconst 1, 1) := by decide +kernel
theorem dX9_isThere_27 : decode cX9_isThere 27 = .ok (.goto 4, 3) := by decide +kernel
theorem dX9_isThere_30 : decode cX9_isThere 30 = .ok (.iconst 0, 1) := by decide +kernel
theorem dX9_isThere_31 : decode cX9_isThere 31 = .ok (.ireturn, 1) := by decide +kernel
theorem dX9_club_0 : decode cX9_club 0 = .ok (.aload_n 0, 1) := by decide +kernel
theorem dX9_club_1 : decode cX9_club 1 = .ok (.getfield 172, 3) := by decide +kernel
theorem dX9_club_4 : decode cX9_club 4 = .ok (.bipush 20, 2) := by decide +kernel
theorem dX9_club_6 : decode cX9_club 6 = .ok (.if_icmp .eq 77, 3) := by decide +kernel
theorem dX9_club_9 : decode cX9_club 9 = .ok (.aload_n 0, 1) := by decide +kernel
theorem dX9_club_10 : decode cX9_club 10 = .ok (.iload_n 1, 1) := by decide +kernel
theorem dX9_club_11 : decode cX9_club 11 = .ok (.invokevirtual 165, 3) := by decide +kernel
theorem dX9_club_14 : decode cX9_club 14 = .ok (.ifCond .eq 69, 3) := by decide +kernel
theorem dX9_club_17 : decode cX9_club 17 = .ok (.iload_n 2, 1) := by decide +kernel
theorem dX9_club_18 : decode cX9_club 18 = .ok (.iconst 1, 1) := by decide +kernel
theorem dX9_club_19 : decode cX9_club 19 = .ok (.iconst 1, 1) := by decide +kernel
theorem dX9_club_20 : decode cX9_club 20 = .ok (.aload_n 0, 1) := by decide +kernel
theorem dX9_club_21 : decode cX9_club 21 = .ok (.getfield 17, 3) := by decide +kernel
theorem dX9_club_24 : decode cX9_club 24 = .ok (.aload_n 0, 1) := by decide +kernel
theorem dX9_club_25 : decode cX9_club 25 = .ok (.iload_n 1, 1) := by decide +kernel
theorem dX9_club_26 : decode cX9_club 26 = .ok (.invokevirtual 165, 3) := by decide +kernel
theorem dX9_club_29 : decode cX9_club 29 = .ok (.ifCond .eq 7, 3) := by decide +kernel
theorem dX9_club_32 : decode cX9_club 32 = .ok (.iload_n 1, 1) := by decide +kernel
theorem dX9_club_33 : decode cX9_club 33 = .ok (.goto 4, 3) := by decide +kernel
theorem dX9_club_36 : decode cX9_club 36 = .ok (.iconst 0, 1) := by decide +kernel
theorem dX9_club_37 : decode cX9_club 37 = .ok (.iaload, 1) := by decide +kernel
theorem dX9_club_38 : decode cX9_club 38 = .ok (.ishl, 1) := by decide +kernel
theorem dX9_club_39 : decode cX9_club 39 = .ok (.iconst 1, 1) := by decide +kernel
theorem dX9_club_40 : decode cX9_club 40 = .ok (.isub, 1) := by decide +kernel
theorem dX9_club_41 : decode cX9_club 41 = .ok (.invokestatic 141, 3) := by decide +kernel
theorem dX9_club_44 : decode cX9_club 44 = .ok (.ifCond .eq 39, 3) := by decide +kernel
theorem dX9_club_47 : decode cX9_club 47 = .ok (.iload_n 3, 1) := by decide +kernel
theorem dX9_club_48 : decode cX9_club 48 = .ok (.iconst 0, 1) := by decide +kernel
theorem dX9_club_49 : decode cX9_club 49 = .ok (.sipush 1439, 3) := by decide +kernel
theorem dX9_club_52 : decode cX9_club 52 = .ok (.invokestatic 141, 3) := by decide +kernel
theorem dX9_club_55 : decode cX9_club 55 = .ok (.ifCond .eq 28, 3) := by decide +kernel
theorem dX9_club_58 : decode cX9_club 58 = .ok (.iload 4, 2) := by decide +kernel
theorem dX9_club_60 : decode cX9_club 60 = .ok (.iload_n 3, 1) := by decide +kernel
theorem dX9_club_61 : decode cX9_club 61 = .ok (.if_icmp .le 22, 3) := by decide +kernel
theorem dX9_club_64 : decode cX9_club 64 = .ok (.iload 4, 2) := by decide +kernel
theorem dX9_club_66 : decode cX9_club 66 = .ok (.sipush 1440, 3) := by decide +kernel
theorem dX9_club_69 : decode cX9_club 69 = .ok (.if_icmp .gt 14, 3) := by decide +kernel
theorem dX9_club_72 : decode cX9_club 72 = .ok (.iload 5, 2) := by decide +kernel
theorem dX9_club_74 : decode cX9_club 74 = .ok (.iconst 0, 1) := by decide +kernel
theorem dX9_club_75 : decode cX9_club 75 = .ok (.bipush 30, 2) := by decide +kernel
theorem dX9_club_77 : decode cX9_club 77 = .ok (.invokestatic 141, 3) := by decide +kernel
theorem dX9_club_80 : decode cX9_club 80 = .ok (.ifCond .ne 5, 3) := by decide +kernel
theorem dX9_club_83 : decode cX9_club 83 = .ok (.iconst (-1), 1) := by decide +kernel
theorem dX9_club_84 : decode cX9_club 84 = .ok (.ireturn, 1) := by decide +kernel
theorem dX9_club_85 : decode cX9_club 85 = .ok (.iconst 0, 1) := by decide +kernel
theorem dX9_club_86 : decode cX9_club 86 = .ok (.istore 6, 2) := by decide +kernel
theorem dX9_club_88 : decode cX9_club 88 = .ok (.iload 6, 2) := by decide +kernel
theorem dX9_club_90 : decode cX9_club 90 = .ok (.aload_n 0, 1) := by decide +kernel
theorem dX9_club_91 : decode cX9_club 91 = .ok (.getfield 172, 3) := by decide +kernel
theorem dX9_club_94 : decode cX9_club 94 = .ok (.if_icmp .ge 100, 3) := by decide +kernel
theorem dX9_club_97 : decode cX9_club 97 = .ok (.iload_n 3, 1) := by decide +kernel
theorem dX9_club_98 : decode cX9_club 98 = .ok (.aload_n 0, 1) := by decide +kernel
theorem dX9_club_99 : decode cX9_club 99 = .ok (.getfield 120, 3) := by decide +kernel
theorem dX9_club_102 : decode cX9_club 102 = .ok (.iload 6, 2) := by decide +kernel
theorem dX9_club_104 : decode cX9_club 104 = .ok (.iaload, 1) := by decide +kernel
theorem dX9_club_105 : decode cX9_club 105 = .ok (.if_icmp .le 7, 3) := by decide +kernel
theorem dX9_club_108 : decode cX9_club 108 = .ok (.iload_n 3, 1) := by decide +kernel
theorem dX9_club_109 : decode cX9_club 109 = .ok (.goto 10, 3) := by decide +kernel
theorem dX9_club_112 : decode cX9_club 112 = .ok (.aload_n 0, 1) := by decide +kernel
theorem dX9_club_113 : decode cX9_club 113 = .ok (.getfield 120, 3) := by decide +kernel
theorem dX9_club_116 : decode cX9_club 116 = .ok (.iload 6, 2) := by decide +kernel
theorem dX9_club_118 : decode cX9_club 118 = .ok (.iaload, 1) := by decide +kernel
theorem dX9_club_119 : decode cX9_club 119 = .ok (.istore 7, 2) := by decide +kernel
theorem dX9_club_121 : decode cX9_club 121 = .ok (.iload 4, 2) := by decide +kernel
theorem dX9_club_123 : decode cX9_club 123 = .ok (.aload_n 0, 1) := by decide +kernel
theorem dX9_club_124 : decode cX9_club 124 = .ok (.getfield 123, 3) := by decide +kernel
theorem dX9_club_127 : decode cX9_club 127 = .ok (.iload 6, 2) := by decide +kernel
theorem dX9_club_129 : decode cX9_club 129 = .ok (.iaload, 1) := by decide +kernel
theorem dX9_club_130 : decode cX9_club 130 = .ok (.if_icmp .ge 8, 3) := by decide +kernel
theorem dX9_club_133 : decode cX9_club 133 = .ok (.iload 4, 2) := by decide +kernel
theorem dX9_club_135 : decode cX9_club 135 = .ok (.goto 10, 3) := by decide +kernel
theorem dX9_club_138 : decode cX9_club 138 = .ok (.aload_n 0, 1) := by decide +kernel
theorem dX9_club_139 : decode cX9_club 139 = .ok (.getfield 123, 3) := by decide +kernel
theorem dX9_club_142 : decode cX9_club 142 = .ok (.iload 6, 2) := by decide +kernel
theorem dX9_club_144 : decode cX9_club 144 = .ok (.iaload, 1) := by decide +kernel
theorem dX9_club_145 : decode cX9_club 145 = .ok (.istore 8, 2) := by decide +kernel
theorem dX9_club_147 : decode cX9_club 147 = .ok (.aload_n 0, 1) := by decide +kernel
theorem dX9_club_148 : decode cX9_club 148 = .ok (.getfield 114, 3) := by decide +kernel
theorem dX9_club_151 : decode cX9_club 151 = .ok (.iload 6, 2) := by decide +kernel
theorem dX9_club_153 : decode cX9_club 153 = .ok (.iaload, 1) := by decide +kernel
theorem dX9_club_154 : decode cX9_club 154 = .ok (.iload_n 1, 1) := by decide +kernel
theorem dX9_club_155 : decode cX9_club 155 = .ok (.if_icmp .ne 33, 3) := by decide +kernel
theorem dX9_club_158 : decode cX9_club 158 = .ok (.aload_n 0, 1) := by decide +kernel
theorem dX9_club_159 : decode cX9_club 159 = .ok (.getfield 117, 3) := by decide +kernel
theorem dX9_club_162 : decode cX9_club 162 = .ok (.iload 6, 2) := by decide +kernel
theorem dX9_club_164 : decode cX9_club 164 = .ok (.iaload, 1) := by decide +kernel
theorem dX9_club_165 : decode cX9_club 165 = .ok (.iload_n 2, 1) := by decide +kernel
theorem dX9_club_166 : decode cX9_club 166 = .ok (.iand, 1) := by decide +kernel
theorem dX9_club_167 : decode cX9_club 167 = .ok (.ifCond .eq 21, 3) := by decide +kernel
theorem dX9_club_170 : decode cX9_club 170 = .ok (.iload 7, 2) := by decide +kernel
theorem dX9_club_172 : decode cX9_club 172 = .ok (.iload 8, 2) := by decide +kernel
theorem dX9_club_174 : decode cX9_club 174 = .ok (.if_icmp .lt 6, 3) := by decide +kernel
theorem dX9_club_177 : decode cX9_club 177 = .ok (.goto 11, 3) := by decide +kernel
theorem dX9_club_180 : decode cX9_club 180 = .ok (.aload_n 0, 1) := by decide +kernel
theorem dX9_club_181 : decode cX9_club 181 = .ok (.iload 6, 2) := by decide +kernel
theorem dX9_club_183 : decode cX9_club 183 = .ok (.putfield 110, 3) := by decide +kernel
theorem dX9_club_186 : decode cX9_club 186 = .ok (.iconst (-1), 1) := by decide +kernel
theorem dX9_club_187 : decode cX9_club 187 = .ok (.ireturn, 1) := by decide +kernel
theorem dX9_club_188 : decode cX9_club 188 = .ok (.iinc 6 1, 3) := by decide +kernel
theorem dX9_club_191 : decode cX9_club 191 = .ok (.goto (-103), 3) := by decide +kernel
theorem dX9_club_194 : decode cX9_club 194 = .ok (.aload_n 0, 1) := by decide +kernel
theorem dX9_club_195 : decode cX9_club 195 = .ok (.getfield 114, 3) := by decide +kernel
theorem dX9_club_198 : decode cX9_club 198 = .ok (.aload_n 0, 1) := by decide +kernel
theorem dX9_club_199 : decode cX9_club 199 = .ok (.getfield 172, 3) := by decide +kernel
theorem dX9_club_202 : decode cX9_club 202 = .ok (.iload_n 1, 1) := by decide +kernel
theorem dX9_club_203 : decode cX9_club 203 = .ok (.iastore, 1) := by decide +kernel
theorem dX9_club_204 : decode cX9_club 204 = .ok (.aload_n 0, 1) := by decide +kernel
theorem dX9_club_205 : decode cX9_club 205 = .ok (.getfield 117, 3) := by decide +kernel
theorem dX9_club_208 : decode cX9_club 208 = .ok (.aload_n 0, 1) := by decide +kernel
theorem dX9_club_209 : decode cX9_club 209 = .ok (.getfield 172, 3) := by decide +kernel
theorem dX9_club_212 : decode cX9_club 212 = .ok (.iload_n 2, 1) := by decide +kernel
theorem dX9_club_213 : decode cX9_club 213 = .ok (.iastore, 1) := by decide +kernel
theorem dX9_club_214 : decode cX9_club 214 = .ok (.aload_n 0, 1) := by decide +kernel
theorem dX9_club_215 : decode cX9_club 215 = .ok (.getfield 120, 3) := by decide +kernel
theorem dX9_club_218 : decode cX9_club 218 = .ok (.aload_n 0, 1) := by decide +kernel
theorem dX9_club_219 : decode cX9_club 219 = .ok (.getfield 172, 3) := by decide +kernel
theorem dX9_club_222 : decode cX9_club 222 = .ok (.iload_n 3, 1) := by decide +kernel
theorem dX9_club_223 : decode cX9_club 223 = .ok (.iastore, 1) := by decide +kernel
theorem dX9_club_224 : decode cX9_club 224 = .ok (.aload_n 0, 1) := by decide +kernel
theorem dX9_club_225 : decode cX9_club 225 = .ok (.getfield 123, 3) := by decide +kernel
theorem dX9_club_228 : decode cX9_club 228 = .ok (.aload_n 0, 1) := by decide +kernel
theorem dX9_club_229 : decode cX9_club 229 = .ok (.getfield 172, 3) := by decide +kernel
theorem dX9_club_232 : decode cX9_club 232 = .ok (.iload 4, 2) := by decide +kernel
theorem dX9_club_234 : decode cX9_club 234 = .ok (.iastore, 1) := by decide +kernel
theorem dX9_club_235 : decode cX9_club 235 = .ok (.aload_n 0, 1) := by decide +kernel
theorem dX9_club_236 : decode cX9_club 236 = .ok (.getfield 126, 3) := by decide +kernel
theorem dX9_club_239 : decode cX9_club 239 = .ok (.aload_n 0, 1) := by decide +kernel
theorem dX9_club_240 : decode cX9_club 240 = .ok (.getfield 172, 3) := by decide +kernel
theorem dX9_club_243 : decode cX9_club 243 = .ok (.iload 5, 2) := by decide +kernel
theorem dX9_club_245 : decode cX9_club 245 = .ok (.iastore, 1) := by decide +kernel
theorem dX9_club_246 : decode cX9_club 246 = .ok (.aload_n 0, 1) := by decide +kernel
theorem dX9_club_247 : decode cX9_club 247 = .ok (.dup, 1) := by decide +kernel
theorem dX9_club_248 : decode cX9_club 248 = .ok (.getfield 172, 3) := by decide +kernel
theorem dX9_club_251 : decode cX9_club 251 = .ok (.iconst 1, 1) := by decide +kernel
theorem dX9_club_252 : decode cX9_club 252 = .ok (.iadd, 1) := by decide +kernel
theorem dX9_club_253 : decode cX9_club 253 = .ok (.putfield 172, 3) := by decide +kernel
theorem dX9_club_256 : decode cX9_club 256 = .ok (.aload_n 0, 1) := by decide +kernel
theorem dX9_club_257 : decode cX9_club 257 = .ok (.getfield 172, 3) := by decide +kernel
theorem dX9_club_260 : decode cX9_club 260 = .ok (.iconst 1, 1) := by decide +kernel
theorem dX9_club_261 : decode cX9_club 261 = .ok (.isub, 1) := by decide +kernel
theorem dX9_club_262 : decode cX9_club 262 = .ok (.ireturn, 1) := by decide +kernel
theorem dX9_clash_0 : decode cX9_clash 0 = .ok (.aload_n 0, 1) := by decide +kernel
theorem dX9_clash_1 : decode cX9_clash 1 = .ok (.getfield 110, 3) := by decide +kernel
theorem dX9_clash_4 : decode cX9_clash 4 = .ok (.ireturn, 1) := by decide +kernel
theorem dX9_leave_0 : decode cX9_leave 0 = .ok (.iload_n 1, 1) := by decide +kernel
theorem dX9_leave_1 : decode cX9_leave 1 = .ok (.iconst 0, 1) := by decide +kernel
theorem dX9_leave_2 : decode cX9_leave 2 = .ok (.aload_n 0, 1) := by decide +kernel
theorem dX9_leave_3 : decode cX9_leave 3 = .ok (.getfield 172, 3) := by decide +kernel
theorem dX9_leave_6 : decode cX9_leave 6 = .ok (.iconst 1, 1) := by decide +kernel
theorem dX9_leave_7 : decode cX9_leave 7 = .ok (.isub, 1) := by decide +kernel
theorem dX9_leave_8 : decode cX9_leave 8 = .ok (.invokestatic 141, 3) := by decide +kernel
theorem dX9_leave_11 : decode cX9_leave 11 = .ok (.ifCond .eq 31, 3) := by decide +kernel
theorem dX9_leave_14 : decode cX9_leave 14 = .ok (.aload_n 0, 1) := by decide +kernel
theorem dX9_leave_15 : decode cX9_leave 15 = .ok (.getfield 148, 3) := by decide +kernel
theorem dX9_leave_18 : decode cX9_leave 18 = .ok (.aload_n 0, 1) := by decide +kernel
theorem dX9_leave_19 : decode cX9_leave 19 = .ok (.getfield 123, 3) := by decide +kernel
theorem dX9_leave_22 : decode cX9_leave 22 = .ok (.iload_n 1, 1) := by decide +kernel
theorem dX9_leave_23 : decode cX9_leave 23 = .ok (.iaload, 1) := by decide +kernel
theorem dX9_leave_24 : decode cX9_leave 24 = .ok (.if_icmp .ge 18, 3) := by decide +kernel
theorem dX9_leave_27 : decode cX9_leave 27 = .ok (.aload_n 0, 1) := by decide +kernel
theorem dX9_leave_28 : decode cX9_leave 28 = .ok (.getfield 123, 3) := by decide +kernel
theorem dX9_leave_31 : decode cX9_leave 31 = .ok (.iload_n 1, 1) := by decide +kernel
theorem dX9_leave_32 : decode cX9_leave 32 = .ok (.iaload, 1) := by decide +kernel
theorem dX9_leave_33 : decode cX9_leave 33 = .ok (.aload_n 0, 1) := by decide +kernel
theorem dX9_leave_34 : decode cX9_leave 34 = .ok (.getfield 120, 3) := by decide +kernel
theorem dX9_leave_37 : decode cX9_leave 37 = .ok (.iload_n 1, 1) := by decide +kernel
theorem dX9_leave_38 : decode cX9_leave 38 = .ok (.iaload, 1) := by decide +kernel
theorem dX9_leave_39 : decode cX9_leave 39 = .ok (.if_icmp .gt 5, 3) := by decide +kernel
theorem dX9_leave_42 : decode cX9_leave 42 = .ok (.iconst 0, 1) := by decide +kernel
theorem dX9_leave_43 : decode cX9_leave 43 = .ok (.ireturn, 1) := by decide +kernel
theorem dX9_leave_44 : decode cX9_leave 44 = .ok (.aload_n 0, 1) := by decide +kernel
theorem dX9_leave_45 : decode cX9_leave 45 = .ok (.getfield 123, 3) := by decide +kernel
theorem dX9_leave_48 : decode cX9_leave 48 = .ok (.iload_n 1, 1) := by decide +kernel
theorem dX9_leave_49 : decode cX9_leave 49 = .ok (.aload_n 0, 1) := by decide +kernel
theorem dX9_leave_50 : decode cX9_leave 50 = .ok (.getfield 148, 3) := by decide +kernel
theorem dX9_leave_53 : decode cX9_leave 53 = .ok (.aload_n 0, 1) := by decide +kernel
theorem dX9_leave_54 : decode cX9_leave 54 = .ok (.getfield 120, 3) := by decide +kernel
theorem dX9_leave_57 : decode cX9_leave 57 = .ok (.iload_n 1, 1) := by decide +kernel
theorem dX9_leave_58 : decode cX9_leave 58 = .ok (.iaload, 1) := by decide +kernel
theorem dX9_leave_59 : decode cX9_leave 59 = .ok (.if_icmp .ge 12, 3) := by decide +kernel
theorem dX9_leave_62 : decode cX9_leave 62 = .ok (.aload_n 0, 1) := by decide +kernel
theorem dX9_leave_63 : decode cX9_leave 63 = .ok (.getfield 120, 3) := by decide +kernel
theorem dX9_leave_66 : decode cX9_leave 66 = .ok (.iload_n 1, 1) := by decide +kernel
theorem dX9_leave_67 : decode cX9_leave 67 = .ok (.iaload, 1) := by decide +kernel
theorem dX9_leave_68 : decode cX9_leave 68 = .ok (.goto 7, 3) := by decide +kernel
theorem dX9_leave_71 : decode cX9_leave 71 = .ok (.aload_n 0, 1) := by decide +kernel
theorem dX9_leave_72 : decode cX9_leave 72 = .ok (.getfield 148, 3) := by decide +kernel
theorem dX9_leave_75 : decode cX9_leave 75 = .ok (.iastore, 1) := by decide +kernel
theorem dX9_leave_76 : decode cX9_leave 76 = .ok (.iconst 1, 1) := by decide +kernel
theorem dX9_leave_77 : decode cX9_leave 77 = .ok (.ireturn, 1) := by decide +kernel
theorem dX9_isFilled_0 : decode cX9_isFilled 0 = .ok (.aload_n 0, 1) := by decide +kernel
theorem dX9_isFilled_1 : decode cX9_isFilled 1 = .ok (.getfield 68, 3) := by decide +kernel
theorem dX9_isFilled_4 : decode cX9_isFilled 4 = .ok (.iload_n 1, 1) := by decide +kernel
theorem dX9_isFilled_5 : decode cX9_isFilled 5 = .ok (.iaload, 1) := by decide +kernel
theorem dX9_isFilled_6 : decode cX9_isFilled 6 = .ok (.iconst (-1), 1) := by decide +kernel
theorem dX9_isFilled_7 : decode cX9_isFilled 7 = .ok (.if_icmp .eq 23, 3) := by decide +kernel
theorem dX9_isFilled_10 : decode cX9_isFilled 10 = .ok (.aload_n 0, 1) := by decide +kernel
theorem dX9_isFilled_11 : decode cX9_isFilled 11 = .ok (.getfield 148, 3) := by decide +kernel
theorem dX9_isFilled_14 : decode cX9_isFilled 14 = .ok (.aload_n 0, 1) := by decide +kernel
theorem dX9_isFilled_15 : decode cX9_isFilled 15 = .ok (.getfield 71, 3) := by decide +kernel
theorem dX9_isFilled_18 : decode cX9_isFilled 18 = .ok (.iload_n 1, 1) := by decide +kernel
theorem dX9_isFilled_19 : decode cX9_isFilled 19 = .ok (.iaload, 1) := by decide +kernel
theorem dX9_isFilled_20 : decode cX9_isFilled 20 = .ok (.isub, 1) := by decide +kernel
theorem dX9_isFilled_21 : decode cX9_isFilled 21 = .ok (.bipush 60, 2) := by decide +kernel
theorem dX9_isFilled_23 : decode cX9_isFilled 23 = .ok (.if_icmp .ge 7, 3) := by decide +kernel
theorem dX9_isFilled_26 : decode cX9_isFilled 26 = .ok (.iconst 1, 1) := by decide +kernel
theorem dX9_isFilled_27 : decode cX9_isFilled 27 = .ok (.goto 4, 3) := by decide +kernel
theorem dX9_isFilled_30 : decode cX9_isFilled 30 = .ok (.iconst 0, 1) := by decide +kernel
theorem dX9_isFilled_31 : decode cX9_isFilled 31 = .ok (.ireturn, 1) := by decide +kernel
theorem dX9_reasons_0 : decode cX9_reasons 0 = .ok (.aload_n 0, 1) := by decide +kernel
theorem dX9_reasons_1 : decode cX9_reasons 1 = .ok (.getfield 148, 3) := by decide +kernel
theorem dX9_reasons_4 : decode cX9_reasons 4 = .ok (.aload_n 0, 1) := by decide +kernel
theorem dX9_reasons_5 : decode cX9_reasons 5 = .ok (.getfield 65, 3) := by decide +kernel
theorem dX9_reasons_8 : decode cX9_reasons 8 = .ok (.iload_n 1, 1) := by decide +kernel
theorem dX9_reasons_9 : decode cX9_reasons 9 = .ok (.iaload, 1) := by decide +kernel
theorem dX9_reasons_10 : decode cX9_reasons 10 = .ok (.if_icmp .ge 8, 3) := by decide +kernel
theorem dX9_reasons_13 : decode cX9_reasons 13 = .ok (.bipush 16, 2) := by decide +kernel
theorem dX9_reasons_15 : decode cX9_reasons 15 = .ok (.goto 4, 3) := by decide +kernel
theorem dX9_reasons_18 : decode cX9_reasons 18 = .ok (.iconst 0, 1) := by decide +kernel
theorem dX9_reasons_19 : decode cX9_reasons 19 = .ok (.istore_n 2, 1) := by decide +kernel
theorem dX9_reasons_20 : decode cX9_reasons 20 = .ok (.iconst 0, 1) := by decide +kernel
theorem dX9_reasons_21 : decode cX9_reasons 21 = .ok (.istore_n 3, 1) := by decide +kernel
theorem dX9_reasons_22 : decode cX9_reasons 22 = .ok (.iload_n 3, 1) := by decide +kernel
theorem dX9_reasons_23 : decode cX9_reasons 23 = .ok (.iconst 3, 1) := by decide +kernel
theorem dX9_reasons_24 : decode cX9_reasons 24 = .ok (.if_icmp .ge 105, 3) := by decide +kernel
theorem dX9_reasons_27 : decode cX9_reasons 27 = .ok (.iconst 3, 1) := by decide +kernel
theorem dX9_reasons_28 : decode cX9_reasons 28 = .ok (.iload_n 1, 1) := by decide +kernel
theorem dX9_reasons_29 : decode cX9_reasons 29 = .ok (.imul, 1) := by decide +kernel
theorem dX9_reasons_30 : decode cX9_reasons 30 = .ok (.iload_n 3, 1) := by decide +kernel
theorem dX9_reasons_31 : decode cX9_reasons 31 = .ok (.iadd, 1) := by decide +kernel
theorem dX9_reasons_32 : decode cX9_reasons 32 = .ok (.istore 4, 2) := by decide +kernel
theorem dX9_reasons_34 : decode cX9_reasons 34 = .ok (.aload_n 0, 1) := by decide +kernel
theorem dX9_reasons_35 : decode cX9_reasons 35 = .ok (.getfield 59, 3) := by decide +kernel
theorem dX9_reasons_38 : decode cX9_reasons 38 = .ok (.iload 4, 2) := by decide +kernel
theorem dX9_reasons_40 : decode cX9_reasons 40 = .ok (.baload, 1) := by decide +kernel
theorem dX9_reasons_41 : decode cX9_reasons 41 = .ok (.ifCond .eq 36, 3) := by decide +kernel
theorem dX9_reasons_44 : decode cX9_reasons 44 = .ok (.aload_n 0, 1) := by decide +kernel
theorem dX9_reasons_45 : decode cX9_reasons 45 = .ok (.getfield 56, 3) := by decide +kernel
theorem dX9_reasons_48 : decode cX9_reasons 48 = .ok (.iload 4, 2) := by decide +kernel
theorem dX9_reasons_50 : decode cX9_reasons 50 = .ok (.iaload, 1) := by decide +kernel
theorem dX9_reasons_51 : decode cX9_reasons 51 = .ok (.aload_n 0, 1) := by decide +kernel
theorem dX9_reasons_52 : decode cX9_reasons 52 = .ok (.getfield 50, 3) := by decide +kernel
theorem dX9_reasons_55 : decode cX9_reasons 55 = .ok (.iload 4, 2) := by decide +kernel
theorem dX9_reasons_57 : decode cX9_reasons 57 = .ok (.iaload, 1) := by decide +kernel
theorem dX9_reasons_58 : decode cX9_reasons 58 = .ok (.aload_n 0, 1) := by decide +kernel
theorem dX9_reasons_59 : decode cX9_reasons 59 = .ok (.getfield 53, 3) := by decide +kernel
theorem dX9_reasons_62 : decode cX9_reasons 62 = .ok (.iload 4, 2) := by decide +kernel
theorem dX9_reasons_64 : decode cX9_reasons 64 = .ok (.iaload, 1) := by decide +kernel
theorem dX9_reasons_65 : decode cX9_reasons 65 = .ok (.invokestatic 141, 3) := by decide +kernel
theorem dX9_reasons_68 : decode cX9_reasons 68 = .ok (.ifCond .ne 9, 3) := by decide +kernel
theorem dX9_reasons_71 : decode cX9_reasons 71 = .ok (.iload_n 2, 1) := by decide +kernel
theorem dX9_reasons_72 : decode cX9_reasons 72 = .ok (.iconst 1, 1) := by decide +kernel
theorem dX9_reasons_73 : decode cX9_reasons 73 = .ok (.iload_n 3, 1) := by decide +kernel
theorem dX9_reasons_74 : decode cX9_reasons 74 = .ok (.ishl, 1) := by decide +kernel
theorem dX9_reasons_75 : decode cX9_reasons 75 = .ok (.ior, 1) := by decide +kernel
theorem dX9_reasons_76 : decode cX9_reasons 76 = .ok (.istore_n 2, 1) := by decide +kernel
theorem dX9_reasons_77 : decode cX9_reasons 77 = .ok (.aload_n 0, 1) := by decide +kernel
theorem dX9_reasons_78 : decode cX9_reasons 78 = .ok (.getfield 148, 3) := by decide +kernel
theorem dX9_reasons_81 : decode cX9_reasons 81 = .ok (.aload_n 0, 1) := by decide +kernel
theorem dX9_reasons_82 : decode cX9_reasons 82 = .ok (.getfield 62, 3) := by decide +kernel
theorem dX9_reasons_85 : decode cX9_reasons 85 = .ok (.iload 4, 2) := by decide +kernel
theorem dX9_reasons_87 : decode cX9_reasons 87 = .ok (.iaload, 1) := by decide +kernel
theorem dX9_reasons_88 : decode cX9_reasons 88 = .ok (.isub, 1) := by decide +kernel
theorem dX9_reasons_89 : decode cX9_reasons 89 = .ok (.bipush 120, 2) := by decide +kernel
theorem dX9_reasons_91 : decode cX9_reasons 91 = .ok (.if_icmp .lt 8, 3) := by decide +kernel
theorem dX9_reasons_94 : decode cX9_reasons 94 = .ok (.iload_n 2, 1) := by decide +kernel
theorem dX9_reasons_95 : decode cX9_reasons 95 = .ok (.bipush 8, 2) := by decide +kernel
theorem dX9_reasons_97 : decode cX9_reasons 97 = .ok (.ior, 1) := by decide +kernel
theorem dX9_reasons_98 : decode cX9_reasons 98 = .ok (.istore_n 2, 1) := by decide +kernel
theorem dX9_reasons_99 : decode cX9_reasons 99 = .ok (.iload_n 3, 1) := by decide +kernel
theorem dX9_reasons_100 : decode cX9_reasons 100 = .ok (.aload_n 0, 1) := by decide +kernel
theorem dX9_reasons_101 : decode cX9_reasons 101 = .ok (.getfield 20, 3) := by decide +kernel
theorem dX9_reasons_104 : decode cX9_reasons 104 = .ok (.iload_n 1, 1) := by decide +kernel
theorem dX9_reasons_105 : decode cX9_reasons 105 = .ok (.iaload, 1) := by decide +kernel
theorem dX9_reasons_106 : decode cX9_reasons 106 = .ok (.if_icmp .ge 17, 3) := by decide +kernel
theorem dX9_reasons_109 : decode cX9_reasons 109 = .ok (.aload_n 0, 1) := by decide +kernel
theorem dX9_reasons_110 : decode cX9_reasons 110 = .ok (.iload 4, 2) := by decide +kernel
theorem dX9_reasons_112 : decode cX9_reasons 112 = .ok (.invokevirtual 175, 3) := by decide +kernel
theorem dX9_reasons_115 : decode cX9_reasons 115 = .ok (.ifCond .ne 8, 3) := by decide +kernel
theorem dX9_reasons_118 : decode cX9_reasons 118 = .ok (.iload_n 2, 1) := by decide +kernel
theorem dX9_reasons_119 : decode cX9_reasons 119 = .ok (.bipush 32, 2) := by decide +kernel
theorem dX9_reasons_121 : decode cX9_reasons 121 = .ok (.ior, 1) := by decide +kernel
theorem dX9_reasons_122 : decode cX9_reasons 122 = .ok (.istore_n 2, 1) := by decide +kernel
theorem dX9_reasons_123 : decode cX9_reasons 123 = .ok (.iinc 3 1, 3) := by decide +kernel
theorem dX9_reasons_126 : decode cX9_reasons 126 = .ok (.goto (-104), 3) := by decide +kernel
theorem dX9_reasons_129 : decode cX9_reasons 129 = .ok (.iload_n 2, 1) := by decide +kernel
theorem dX9_reasons_130 : decode cX9_reasons 130 = .ok (.ireturn, 1) := by decide +kernel
theorem dX9_bounds_0 : decode cX9_bounds 0 = .ok (.aload_n 0, 1) := by decide +kernel
theorem dX9_bounds_1 : decode cX9_bounds 1 = .ok (.iload_n 1, 1) := by decide +kernel
theorem dX9_bounds_2 : decode cX9_bounds 2 = .ok (.invokevirtual 165, 3) := by decide +kernel
theorem dX9_bounds_5 : decode cX9_bounds 5 = .ok (.ifCond .eq 41, 3) := by decide +kernel
theorem dX9_bounds_8 : decode cX9_bounds 8 = .ok (.iload_n 2, 1) := by decide +kernel
theorem dX9_bounds_9 : decode cX9_bounds 9 = .ok (.iconst 0, 1) := by decide +kernel
theorem dX9_bounds_10 : decode cX9_bounds 10 = .ok (.iconst 2, 1) := by decide +kernel
theorem dX9_bounds_11 : decode cX9_bounds 11 = .ok (.invokestatic 141, 3) := by decide +kernel
theorem dX9_bounds_14 : decode cX9_bounds 14 = .ok (.ifCond .eq 32, 3) := by decide +kernel
theorem dX9_bounds_17 : decode cX9_bounds 17 = .ok (.iload_n 3, 1) := by decide +kernel
theorem dX9_bounds_18 : decode cX9_bounds 18 = .ok (.ldc 178, 2) := by decide +kernel
theorem dX9_bounds_20 : decode cX9_bounds 20 = .ok (.ldc 179, 2) := by decide +kernel
theorem dX9_bounds_22 : decode cX9_bounds 22 = .ok (.invokestatic 141, 3) := by decide +kernel
theorem dX9_bounds_25 : decode cX9_bounds 25 = .ok (.ifCond .eq 21, 3) := by decide +kernel
theorem dX9_bounds_28 : decode cX9_bounds 28 = .ok (.iload 4, 2) := by decide +kernel
theorem dX9_bounds_30 : decode cX9_bounds 30 = .ok (.ldc 178, 2) := by decide +kernel
theorem dX9_bounds_32 : decode cX9_bounds 32 = .ok (.ldc 179, 2) := by decide +kernel
theorem dX9_bounds_34 : decode cX9_bounds 34 = .ok (.invokestatic 141, 3) := by decide +kernel
theorem dX9_bounds_37 : decode cX9_bounds 37 = .ok (.ifCond .eq 9, 3) := by decide +kernel
theorem dX9_bounds_40 : decode cX9_bounds 40 = .ok (.iload_n 3, 1) := by decide +kernel
theorem dX9_bounds_41 : decode cX9_bounds 41 = .ok (.iload 4, 2) := by decide +kernel
theorem dX9_bounds_43 : decode cX9_bounds 43 = .ok (.if_icmp .le 5, 3) := by decide +kernel
theorem dX9_bounds_46 : decode cX9_bounds 46 = .ok (.iconst 0, 1) := by decide +kernel
theorem dX9_bounds_47 : decode cX9_bounds 47 = .ok (.ireturn, 1) := by decide +kernel
theorem dX9_bounds_48 : decode cX9_bounds 48 = .ok (.aload_n 0, 1) := by decide +kernel
theorem dX9_bounds_49 : decode cX9_bounds 49 = .ok (.getfield 50, 3) := by decide +kernel
theorem dX9_bounds_52 : decode cX9_bounds 52 = .ok (.iconst 3, 1) := by decide +kernel
theorem dX9_bounds_53 : decode cX9_bounds 53 = .ok (.iload_n 1, 1) := by decide +kernel
theorem dX9_bounds_54 : decode cX9_bounds 54 = .ok (.imul, 1) := by decide +kernel
theorem dX9_bounds_55 : decode cX9_bounds 55 = .ok (.iload_n 2, 1) := by decide +kernel
theorem dX9_bounds_56 : decode cX9_bounds 56 = .ok (.iadd, 1) := by decide +kernel
theorem dX9_bounds_57 : decode cX9_bounds 57 = .ok (.iload_n 3, 1) := by decide +kernel
theorem dX9_bounds_58 : decode cX9_bounds 58 = .ok (.iastore, 1) := by decide +kernel
theorem dX9_bounds_59 : decode cX9_bounds 59 = .ok (.aload_n 0, 1) := by decide +kernel
theorem dX9_bounds_60 : decode cX9_bounds 60 = .ok (.getfield 53, 3) := by decide +kernel
theorem dX9_bounds_63 : decode cX9_bounds 63 = .ok (.iconst 3, 1) := by decide +kernel
theorem dX9_bounds_64 : decode cX9_bounds 64 = .ok (.iload_n 1, 1) := by decide +kernel
theorem dX9_bounds_65 : decode cX9_bounds 65 = .ok (.imul, 1) := by decide +kernel
theorem dX9_bounds_66 : decode cX9_bounds 66 = .ok (.iload_n 2, 1) := by decide +kernel
theorem dX9_bounds_67 : decode cX9_bounds 67 = .ok (.iadd, 1) := by decide +kernel
theorem dX9_bounds_68 : decode cX9_bounds 68 = .ok (.iload 4, 2) := by decide +kernel
theorem dX9_bounds_70 : decode cX9_bounds 70 = .ok (.iastore, 1) := by decide +kernel
theorem dX9_bounds_71 : decode cX9_bounds 71 = .ok (.iconst 1, 1) := by decide +kernel
theorem dX9_bounds_72 : decode cX9_bounds 72 = .ok (.ireturn, 1) := by decide +kernel
theorem dX9_measure_0 : decode cX9_measure 0 = .ok (.aload_n 0, 1) := by decide +kernel
theorem dX9_measure_1 : decode cX9_measure 1 = .ok (.iload_n 1, 1) := by decide +kernel
theorem dX9_measure_2 : decode cX9_measure 2 = .ok (.invokevirtual 165, 3) := by decide +kernel
theorem dX9_measure_5 : decode cX9_measure 5 = .ok (.ifCond .eq 12, 3) := by decide +kernel
theorem dX9_measure_8 : decode cX9_measure 8 = .ok (.iload_n 2, 1) := by decide +kernel
theorem dX9_measure_9 : decode cX9_measure 9 = .ok (.iconst 0, 1) := by decide +kernel
theorem dX9_measure_10 : decode cX9_measure 10 = .ok (.iconst 2, 1) := by decide +kernel
theorem dX9_measure_11 : decode cX9_measure 11 = .ok (.invokestatic 141, 3) := by decide +kernel
theorem dX9_measure_14 : decode cX9_measure 14 = .ok (.ifCond .ne 6, 3) := by decide +kernel
theorem dX9_measure_17 : decode cX9_measure 17 = .ok (.ldc 180, 2) := by decide +kernel
theorem dX9_measure_19 : decode cX9_measure 19 = .ok (.ireturn, 1) := by decide +kernel
theorem dX9_measure_20 : decode cX9_measure 20 = .ok (.fload_n 3, 1) := by decide +kernel
theorem dX9_measure_21 : decode cX9_measure 21 = .ok (.ldc 181, 2) := by decide +kernel
theorem dX9_measure_23 : decode cX9_measure 23 = .ok (.fcmp .l, 1) := by decide +kernel
theorem dX9_measure_24 : decode cX9_measure 24 = .ok (.ifCond .lt 10, 3) := by decide +kernel
theorem dX9_measure_27 : decode cX9_measure 27 = .ok (.fload_n 3, 1) := by decide +kernel
theorem dX9_measure_28 : decode cX9_measure 28 = .ok (.ldc 182, 2) := by decide +kernel
theorem dX9_measure_30 : decode cX9_measure 30 = .ok (.fcmp .g, 1) := by decide +kernel
theorem dX9_measure_31 : decode cX9_measure 31 = .ok (.ifCond .le 6, 3) := by decide +kernel
theorem dX9_measure_34 : decode cX9_measure 34 = .ok (.ldc 183, 2) := by decide +kernel
theorem dX9_measure_36 : decode cX9_measure 36 = .ok (.ireturn, 1) := by decide +kernel
theorem dX9_measure_37 : decode cX9_measure 37 = .ok (.iconst 3, 1) := by decide +kernel
theorem dX9_measure_38 : decode cX9_measure 38 = .ok (.iload_n 1, 1) := by decide +kernel
theorem dX9_measure_39 : decode cX9_measure 39 = .ok (.imul, 1) := by decide +kernel
theorem dX9_measure_40 : decode cX9_measure 40 = .ok (.iload_n 2, 1) := by decide +kernel
theorem dX9_measure_41 : decode cX9_measure 41 = .ok (.iadd, 1) := by decide +kernel
theorem dX9_measure_42 : decode cX9_measure 42 = .ok (.istore 4, 2) := by decide +kernel
theorem dX9_measure_44 : decode cX9_measure 44 = .ok (.aload_n 0, 1) := by decide +kernel
theorem dX9_measure_45 : decode cX9_measure 45 = .ok (.getfield 56, 3) := by decide +kernel
theorem dX9_measure_48 : decode cX9_measure 48 = .ok (.iload 4, 2) := by decide +kernel
theorem dX9_measure_50 : decode cX9_measure 50 = .ok (.fload_n 3, 1) := by decide +kernel
theorem dX9_measure_51 : decode cX9_measure 51 = .ok (.ldc 184, 2) := by decide +kernel
theorem dX9_measure_53 : decode cX9_measure 53 = .ok (.fmul, 1) := by decide +kernel
theorem dX9_measure_54 : decode cX9_measure 54 = .ok (.f2i, 1) := by decide +kernel
theorem dX9_measure_55 : decode cX9_measure 55 = .ok (.iastore, 1) := by decide +kernel
theorem dX9_measure_56 : decode cX9_measure 56 = .ok (.aload_n 0, 1) := by decide +kernel
theorem dX9_measure_57 : decode cX9_measure 57 = .ok (.getfield 59, 3) := by decide +kernel
theorem dX9_measure_60 : decode cX9_measure 60 = .ok (.iload 4, 2) := by decide +kernel
theorem dX9_measure_62 : decode cX9_measure 62 = .ok (.iconst 1, 1) := by decide +kernel
theorem dX9_measure_63 : decode cX9_measure 63 = .ok (.bastore, 1) := by decide +kernel
theorem dX9_measure_64 : decode cX9_measure 64 = .ok (.aload_n 0, 1) := by decide +kernel
theorem dX9_measure_65 : decode cX9_measure 65 = .ok (.getfield 62, 3) := by decide +kernel
theorem dX9_measure_68 : decode cX9_measure 68 = .ok (.iload 4, 2) := by decide +kernel
theorem dX9_measure_70 : decode cX9_measure 70 = .ok (.aload_n 0, 1) := by decide +kernel
theorem dX9_measure_71 : decode cX9_measure 71 = .ok (.getfield 148, 3) := by decide +kernel
theorem dX9_measure_74 : decode cX9_measure 74 = .ok (.iastore, 1) := by decide +kernel
theorem dX9_measure_75 : decode cX9_measure 75 = .ok (.aload_n 0, 1) := by decide +kernel
theorem dX9_measure_76 : decode cX9_measure 76 = .ok (.getfield 56, 3) := by decide +kernel
theorem dX9_measure_79 : decode cX9_measure 79 = .ok (.iload 4, 2) := by decide +kernel
theorem dX9_measure_81 : decode cX9_measure 81 = .ok (.iaload, 1) := by decide +kernel
theorem dX9_measure_82 : decode cX9_measure 82 = .ok (.ireturn, 1) := by decide +kernel
theorem dX9_put_0 : decode cX9_put 0 = .ok (.aload_n 0, 1) := by decide +kernel
theorem dX9_put_1 : decode cX9_put 1 = .ok (.iload_n 1, 1) := by decide +kernel
theorem dX9_put_2 : decode cX9_put 2 = .ok (.invokevirtual 165, 3) := by decide +kernel
theorem dX9_put_5 : decode cX9_put 5 = .ok (.ifCond .eq 14, 3) := by decide +kernel
theorem dX9_put_8 : decode cX9_put 8 = .ok (.iload_n 2, 1) := by decide +kernel
theorem dX9_put_9 : decode cX9_put 9 = .ok (.iconst 1, 1) := by decide +kernel
theorem dX9_put_10 : decode cX9_put 10 = .ok (.sipush 240, 3) := by decide +kernel
theorem dX9_put_13 : decode cX9_put 13 = .ok (.invokestatic 141, 3) := by decide +kernel
theorem dX9_put_16 : decode cX9_put 16 = .ok (.ifCond .ne 5, 3) := by decide +kernel
theorem dX9_put_19 : decode cX9_put 19 = .ok (.iconst 0, 1) := by decide +kernel
theorem dX9_put_20 : decode cX9_put 20 = .ok (.ireturn, 1) := by decide +kernel
theorem dX9_put_21 : decode cX9_put 21 = .ok (.aload_n 0, 1) := by decide +kernel
theorem dX9_put_22 : decode cX9_put 22 = .ok (.getfield 65, 3) := by decide +kernel
theorem dX9_put_25 : decode cX9_put 25 = .ok (.iload_n 1, 1) := by decide +kernel
theorem dX9_put_26 : decode cX9_put 26 = .ok (.aload_n 0, 1) := by decide +kernel
theorem dX9_put_27 : decode cX9_put 27 = .ok (.getfield 148, 3) := by decide +kernel
theorem dX9_put_30 : decode cX9_put 30 = .ok (.iload_n 2, 1) := by decide +kernel
theorem dX9_put_31 : decode cX9_put 31 = .ok (.iadd, 1) := by decide +kernel
theorem dX9_put_32 : decode cX9_put 32 = .ok (.aload_n 0, 1) := by decide +kernel
theorem dX9_put_33 : decode cX9_put 33 = .ok (.getfield 65, 3) := by decide +kernel
theorem dX9_put_36 : decode cX9_put 36 = .ok (.iload_n 1, 1) := by decide +kernel
theorem dX9_put_37 : decode cX9_put 37 = .ok (.iaload, 1) := by decide +kernel
theorem dX9_put_38 : decode cX9_put 38 = .ok (.if_icmp .le 12, 3) := by decide +kernel
theorem dX9_put_41 : decode cX9_put 41 = .ok (.aload_n 0, 1) := by decide +kernel
theorem dX9_put_42 : decode cX9_put 42 = .ok (.getfield 148, 3) := by decide +kernel
theorem dX9_put_45 : decode cX9_put 45 = .ok (.iload_n 2, 1) := by decide +kernel
theorem dX9_put_46 : decode cX9_put 46 = .ok (.iadd, 1) := by decide +kernel
theorem dX9_put_47 : decode cX9_put 47 = .ok (.goto 9, 3) := by decide +kernel
theorem dX9_put_50 : decode cX9_put 50 = .ok (.aload_n 0, 1) := by decide +kernel
theorem dX9_put_51 : decode cX9_put 51 = .ok (.getfield 65, 3) := by decide +kernel
theorem dX9_put_54 : decode cX9_put 54 = .ok (.iload_n 1, 1) := by decide +kernel
theorem dX9_put_55 : decode cX9_put 55 = .ok (.iaload, 1) := by decide +kernel
theorem dX9_put_56 : decode cX9_put 56 = .ok (.iastore, 1) := by decide +kernel
theorem dX9_put_57 : decode cX9_put 57 = .ok (.iconst 1, 1) := by decide +kernel
theorem dX9_put_58 : decode cX9_put 58 = .ok (.ireturn, 1) := by decide +kernel
theorem dX9_shut_0 : decode cX9_shut 0 = .ok (.aload_n 0, 1) := by decide +kernel
theorem dX9_shut_1 : decode cX9_shut 1 = .ok (.iload_n 1, 1) := by decide +kernel
theorem dX9_shut_2 : decode cX9_shut 2 = .ok (.invokevirtual 165, 3) := by decide +kernel
theorem dX9_shut_5 : decode cX9_shut 5 = .ok (.ifCond .eq 11, 3) := by decide +kernel
theorem dX9_shut_8 : decode cX9_shut 8 = .ok (.aload_n 0, 1) := by decide +kernel
theorem dX9_shut_9 : decode cX9_shut 9 = .ok (.iload_n 1, 1) := by decide +kernel
theorem dX9_shut_10 : decode cX9_shut 10 = .ok (.invokevirtual 151, 3) := by decide +kernel
theorem dX9_shut_13 : decode cX9_shut 13 = .ok (.goto 4, 3) := by decide +kernel
theorem dX9_shut_16 : decode cX9_shut 16 = .ok (.iconst (-1), 1) := by decide +kernel
theorem dX9_shut_17 : decode cX9_shut 17 = .ok (.ireturn, 1) := by decide +kernel
theorem dX9_minutes_0 : decode cX9_minutes 0 = .ok (.aload_n 0, 1) := by decide +kernel
theorem dX9_minutes_1 : decode cX9_minutes 1 = .ok (.iload_n 1, 1) := by decide +kernel
theorem dX9_minutes_2 : decode cX9_minutes 2 = .ok (.invokevirtual 165, 3) := by decide +kernel
theorem dX9_minutes_5 : decode cX9_minutes 5 = .ok (.ifCond .eq 12, 3) := by decide +kernel
theorem dX9_minutes_8 : decode cX9_minutes 8 = .ok (.aload_n 0, 1) := by decide +kernel
theorem dX9_minutes_9 : decode cX9_minutes 9 = .ok (.getfield 47, 3) := by decide +kernel
theorem dX9_minutes_12 : decode cX9_minutes 12 = .ok (.iload_n 1, 1) := by decide +kernel
theorem dX9_minutes_13 : decode cX9_minutes 13 = .ok (.iaload, 1) := by decide +kernel
theorem dX9_minutes_14 : decode cX9_minutes 14 = .ok (.goto 4, 3) := by decide +kernel
theorem dX9_minutes_17 : decode cX9_minutes 17 = .ok (.iconst (-1), 1) := by decide +kernel
theorem dX9_minutes_18 : decode cX9_minutes 18 = .ok (.ireturn, 1) := by decide +kernel
theorem dX9_ticket_0 : decode cX9_ticket 0 = .ok (.aload_n 0, 1) := by decide +kernel
theorem dX9_ticket_1 : decode cX9_ticket 1 = .ok (.getfield 145, 3) := by decide +kernel
theorem dX9_ticket_4 : decode cX9_ticket 4 = .ok (.sipush 200, 3) := by decide +kernel
theorem dX9_ticket_7 : decode cX9_ticket 7 = .ok (.if_icmp .eq 37, 3) := by decide +kernel
theorem dX9_ticket_10 : decode cX9_ticket 10 = .ok (.aload_n 0, 1) := by decide +kernel
theorem dX9_ticket_11 : decode cX9_ticket 11 = .ok (.iload_n 1, 1) := by decide +kernel
theorem dX9_ticket_12 : decode cX9_ticket 12 = .ok (.invokevirtual 165, 3) := by decide +kernel
theorem dX9_ticket_15 : decode cX9_ticket 15 = .ok (.ifCond .eq 29, 3) := by decide +kernel
theorem dX9_ticket_18 : decode cX9_ticket 18 = .ok (.iload_n 2, 1) := by decide +kernel
theorem dX9_ticket_19 : decode cX9_ticket 19 = .ok (.iconst 0, 1) := by decide +kernel
theorem dX9_ticket_20 : decode cX9_ticket 20 = .ok (.iconst 5, 1) := by decide +kernel
theorem dX9_ticket_21 : decode cX9_ticket 21 = .ok (.invokestatic 141, 3) := by decide +kernel
theorem dX9_ticket_24 : decode cX9_ticket 24 = .ok (.ifCond .eq 20, 3) := by decide +kernel
theorem dX9_ticket_27 : decode cX9_ticket 27 = .ok (.iload_n 2, 1) := by decide +kernel
theorem dX9_ticket_28 : decode cX9_ticket 28 = .ok (.iconst 1, 1) := by decide +kernel
theorem dX9_ticket_29 : decode cX9_ticket 29 = .ok (.if_icmp .ne 17, 3) := by decide +kernel
theorem dX9_ticket_32 : decode cX9_ticket 32 = .ok (.iload_n 3, 1) := by decide +kernel
theorem dX9_ticket_33 : decode cX9_ticket 33 = .ok (.bipush 15, 2) := by decide +kernel
theorem dX9_ticket_35 : decode cX9_ticket 35 = .ok (.sipush 240, 3) := by decide +kernel
theorem dX9_ticket_38 : decode cX9_ticket 38 = .ok (.invokestatic 141, 3) := by decide +kernel
theorem dX9_ticket_41 : decode cX9_ticket 41 = .ok (.ifCond .ne 5, 3) := by decide +kernel
theorem dX9_ticket_44 : decode cX9_ticket 44 = .ok (.iconst (-1), 1) := by decide +kernel
theorem dX9_ticket_45 : decode cX9_ticket 45 = .ok (.ireturn, 1) := by decide +kernel
theorem dX9_ticket_46 : decode cX9_ticket 46 = .ok (.iload_n 2, 1) := by decide +kernel
theorem dX9_ticket_47 : decode cX9_ticket 47 = .ok (.iconst 2, 1) := by decide +kernel
theorem dX9_ticket_48 : decode cX9_ticket 48 = .ok (.if_icmp .eq 8, 3) := by decide +kernel
theorem dX9_ticket_51 : decode cX9_ticket 51 = .ok (.iload_n 2, 1) := by decide +kernel
theorem dX9_ticket_52 : decode cX9_ticket 52 = .ok (.iconst 3, 1) := by decide +kernel
theorem dX9_ticket_53 : decode cX9_ticket 53 = .ok (.if_icmp .ne 7, 3) := by decide +kernel
theorem dX9_ticket_56 : decode cX9_ticket 56 = .ok (.iconst 1, 1) := by decide +kernel
theorem dX9_ticket_57 : decode cX9_ticket 57 = .ok (.goto 4, 3) := by decide +kernel
theorem dX9_ticket_60 : decode cX9_ticket 60 = .ok (.iconst 0, 1) := by decide +kernel
theorem dX9_ticket_61 : decode cX9_ticket 61 = .ok (.istore 5, 2) := by decide +kernel
theorem dX9_ticket_63 : decode cX9_ticket 63 = .ok (.iload 5, 2) := by decide +kernel
theorem dX9_ticket_65 : decode cX9_ticket 65 = .ok (.ifCond .eq 56, 3) := by decide +kernel
theorem dX9_ticket_68 : decode cX9_ticket 68 = .ok (.iload_n 3, 1) := by decide +kernel
theorem dX9_ticket_69 : decode cX9_ticket 69 = .ok (.iconst 0, 1) := by decide +kernel
theorem dX9_ticket_70 : decode cX9_ticket 70 = .ok (.aload_n 0, 1) := by decide +kernel
theorem dX9_ticket_71 : decode cX9_ticket 71 = .ok (.getfield 172, 3) := by decide +kernel
theorem dX9_ticket_74 : decode cX9_ticket 74 = .ok (.iconst 1, 1) := by decide +kernel
theorem dX9_ticket_75 : decode cX9_ticket 75 = .ok (.isub, 1) := by decide +kernel
theorem dX9_ticket_76 : decode cX9_ticket 76 = .ok (.invokestatic 141, 3) := by decide +kernel
theorem dX9_ticket_79 : decode cX9_ticket 79 = .ok (.ifCond .eq 40, 3) := by decide +kernel
theorem dX9_ticket_82 : decode cX9_ticket 82 = .ok (.aload_n 0, 1) := by decide +kernel
theorem dX9_ticket_83 : decode cX9_ticket 83 = .ok (.getfield 114, 3) := by decide +kernel
theorem dX9_ticket_86 : decode cX9_ticket 86 = .ok (.iload_n 3, 1) := by decide +kernel
theorem dX9_ticket_87 : decode cX9_ticket 87 = .ok (.iaload, 1) := by decide +kernel
theorem dX9_ticket_88 : decode cX9_ticket 88 = .ok (.iload_n 1, 1) := by decide +kernel
theorem dX9_ticket_89 : decode cX9_ticket 89 = .ok (.if_icmp .ne 30, 3) := by decide +kernel
theorem dX9_ticket_92 : decode cX9_ticket 92 = .ok (.aload_n 0, 1) := by decide +kernel
theorem dX9_ticket_93 : decode cX9_ticket 93 = .ok (.getfield 126, 3) := by decide +kernel
theorem dX9_ticket_96 : decode cX9_ticket 96 = .ok (.iload_n 3, 1) := by decide +kernel
theorem dX9_ticket_97 : decode cX9_ticket 97 = .ok (.iaload, 1) := by decide +kernel
theorem dX9_ticket_98 : decode cX9_ticket 98 = .ok (.ifCond .le 7, 3) := by decide +kernel
theorem dX9_ticket_101 : decode cX9_ticket 101 = .ok (.iconst 1, 1) := by decide +kernel
theorem dX9_ticket_102 : decode cX9_ticket 102 = .ok (.goto 4, 3) := by decide +kernel
theorem dX9_ticket_105 : decode cX9_ticket 105 = .ok (.iconst 0, 1) := by decide +kernel
theorem dX9_ticket_106 : decode cX9_ticket 106 = .ok (.iload_n 2, 1) := by decide +kernel
theorem dX9_ticket_107 : decode cX9_ticket 107 = .ok (.iconst 3, 1) := by decide +kernel
theorem dX9_ticket_108 : decode cX9_ticket 108 = .ok (.if_icmp .ne 7, 3) := by decide +kernel
theorem dX9_ticket_111 : decode cX9_ticket 111 = .ok (.iconst 1, 1) := by decide +kernel
theorem dX9_ticket_112 : decode cX9_ticket 112 = .ok (.goto 4, 3) := by decide +kernel
theorem dX9_ticket_115 : decode cX9_ticket 115 = .ok (.iconst 0, 1) := by decide +kernel
theorem dX9_ticket_116 : decode cX9_ticket 116 = .ok (.if_icmp .eq 5, 3) := by decide +kernel
theorem dX9_ticket_119 : decode cX9_ticket 119 = .ok (.iconst (-1), 1) := by decide +kernel
theorem dX9_ticket_120 : decode cX9_ticket 120 = .ok (.ireturn, 1) := by decide +kernel
theorem dX9_ticket_121 : decode cX9_ticket 121 = .ok (.aload_n 0, 1) := by decide +kernel
theorem dX9_ticket_122 : decode cX9_ticket 122 = .ok (.getfield 145, 3) := by decide +kernel
theorem dX9_ticket_125 : decode cX9_ticket 125 = .ok (.istore 6, 2) := by decide +kernel
theorem dX9_ticket_127 : decode cX9_ticket 127 = .ok (.aload_n 0, 1) := by decide +kernel
theorem dX9_ticket_128 : decode cX9_ticket 128 = .ok (.getfield 74, 3) := by decide +kernel
theorem dX9_ticket_131 : decode cX9_ticket 131 = .ok (.iload 6, 2) := by decide +kernel
theorem dX9_ticket_133 : decode cX9_ticket 133 = .ok (.iload_n 1, 1) := by decide +kernel
theorem dX9_ticket_134 : decode cX9_ticket 134 = .ok (.iastore, 1) := by decide +kernel
theorem dX9_ticket_135 : decode cX9_ticket 135 = .ok (.aload_n 0, 1) := by decide +kernel
theorem dX9_ticket_136 : decode cX9_ticket 136 = .ok (.getfield 77, 3) := by decide +kernel
theorem dX9_ticket_139 : decode cX9_ticket 139 = .ok (.iload 6, 2) := by decide +kernel
theorem dX9_ticket_141 : decode cX9_ticket 141 = .ok (.iload_n 2, 1) := by decide +kernel
theorem dX9_ticket_142 : decode cX9_ticket 142 = .ok (.iastore, 1) := by decide +kernel
theorem dX9_ticket_143 : decode cX9_ticket 143 = .ok (.aload_n 0, 1) := by decide +kernel
theorem dX9_ticket_144 : decode cX9_ticket 144 = .ok (.getfield 80, 3) := by decide +kernel
theorem dX9_ticket_147 : decode cX9_ticket 147 = .ok (.iload 6, 2) := by decide +kernel
theorem dX9_ticket_149 : decode cX9_ticket 149 = .ok (.iload_n 3, 1) := by decide +kernel
theorem dX9_ticket_150 : decode cX9_ticket 150 = .ok (.iastore, 1) := by decide +kernel
theorem dX9_ticket_151 : decode cX9_ticket 151 = .ok (.aload_n 0, 1) := by decide +kernel
theorem dX9_ticket_152 : decode cX9_ticket 152 = .ok (.getfield 83, 3) := by decide +kernel
theorem dX9_ticket_155 : decode cX9_ticket 155 = .ok (.iload 6, 2) := by decide +kernel
theorem dX9_ticket_157 : decode cX9_ticket 157 = .ok (.iload_n 2, 1) := by decide +kernel
theorem dX9_ticket_158 : decode cX9_ticket 158 = .ok (.iconst 3, 1) := by decide +kernel
theorem dX9_ticket_159 : decode cX9_ticket 159 = .ok (.if_icmp .ne 12, 3) := by decide +kernel
theorem dX9_ticket_162 : decode cX9_ticket 162 = .ok (.iload 4, 2) := by decide +kernel
theorem dX9_ticket_164 : decode cX9_ticket 164 = .ok (.ifCond .eq 7, 3) := by decide +kernel
theorem dX9_ticket_167 : decode cX9_ticket 167 = .ok (.iconst 1, 1) := by decide +kernel
theorem dX9_ticket_168 : decode cX9_ticket 168 = .ok (.goto 4, 3) := by decide +kernel
theorem dX9_ticket_171 : decode cX9_ticket 171 = .ok (.iconst 0, 1) := by decide +kernel
theorem dX9_ticket_172 : decode cX9_ticket 172 = .ok (.bastore, 1) := by decide +kernel
theorem dX9_ticket_173 : decode cX9_ticket 173 = .ok (.aload_n 0, 1) := by decide +kernel
theorem dX9_ticket_174 : decode cX9_ticket 174 = .ok (.getfield 86, 3) := by decide +kernel
theorem dX9_ticket_177 : decode cX9_ticket 177 = .ok (.iload 6, 2) := by decide +kernel
theorem dX9_ticket_179 : decode cX9_ticket 179 = .ok (.iconst (-1), 1) := by decide +kernel
theorem dX9_ticket_180 : decode cX9_ticket 180 = .ok (.iastore, 1) := by decide +kernel
theorem dX9_ticket_181 : decode cX9_ticket 181 = .ok (.aload_n 0, 1) := by decide +kernel
theorem dX9_ticket_182 : decode cX9_ticket 182 = .ok (.getfield 101, 3) := by decide +kernel
theorem dX9_ticket_185 : decode cX9_ticket 185 = .ok (.iload 6, 2) := by decide +kernel
theorem dX9_ticket_187 : decode cX9_ticket 187 = .ok (.sipush (-1000), 3) := by decide +kernel
theorem dX9_ticket_190 : decode cX9_ticket 190 = .ok (.iastore, 1) := by decide +kernel
theorem dX9_ticket_191 : decode cX9_ticket 191 = .ok (.aload_n 0, 1) := by decide +kernel
theorem dX9_ticket_192 : decode cX9_ticket 192 = .ok (.dup, 1) := by decide +kernel
theorem dX9_ticket_193 : decode cX9_ticket 193 = .ok (.getfield 145, 3) := by decide +kernel
theorem dX9_ticket_196 : decode cX9_ticket 196 = .ok (.iconst 1, 1) := by decide +kernel
theorem dX9_ticket_197 : decode cX9_ticket 197 = .ok (.iadd, 1) := by decide +kernel
theorem dX9_ticket_198 : decode cX9_ticket 198 = .ok (.putfield 145, 3) := by decide +kernel
theorem dX9_ticket_201 : decode cX9_ticket 201 = .ok (.iload 6, 2) := by decide +kernel
theorem dX9_ticket_203 : decode cX9_ticket 203 = .ok (.ireturn, 1) := by decide +kernel
theorem dX9_isClubbed_0 : decode cX9_isClubbed 0 = .ok (.aload_n 0, 1) := by decide +kernel
theorem dX9_isClubbed_1 : decode cX9_isClubbed 1 = .ok (.getfield 77, 3) := by decide +kernel
theorem dX9_isClubbed_4 : decode cX9_isClubbed 4 = .ok (.iload_n 1, 1) := by decide +kernel
theorem dX9_isClubbed_5 : decode cX9_isClubbed 5 = .ok (.iaload, 1) := by decide +kernel
theorem dX9_isClubbed_6 : decode cX9_isClubbed 6 = .ok (.iconst 2, 1) := by decide +kernel
theorem dX9_isClubbed_7 : decode cX9_isClubbed 7 = .ok (.if_icmp .eq 13, 3) := by decide +kernel
theorem dX9_isClubbed_10 : decode cX9_isClubbed 10 = .ok (.aload_n 0, 1) := by decide +kernel
theorem dX9_isClubbed_11 : decode cX9_isClubbed 11 = .ok (.getfield 77, 3) := by decide +kernel
theorem dX9_isClubbed_14 : decode cX9_isClubbed 14 = .ok (.iload_n 1, 1) := by decide +kernel
theorem dX9_isClubbed_15 : decode cX9_isClubbed 15 = .ok (.iaload, 1) := by decide +kernel
end
section
theorem dX9_isClubbed_16 : decode cX9_isClubbed 16 = .ok (.iconst 3, 1) := by decide +kernel
theorem dX9_isClubbed_17 : decode cX9_isClubbed 17 = .ok (.if_icmp .ne 7, 3) := by decide +kernel
theorem dX9_isClubbed_20 : decode cX9_isClubbed 20 = .ok (.iconst 1, 1) := by decide +kernel
theorem dX9_isClubbed_21 : decode cX9_isClubbed 21 = .ok (.goto 4, 3) := by decide +kernel
theorem dX9_isClubbed_24 : decode cX9_isClubbed 24 = .ok (.iconst 0, 1) := by decide +kernel
theorem dX9_isClubbed_25 : decode cX9_isClubbed 25 = .ok (.ireturn, 1) := by decide +kernel
theorem dX9_inSchool_0 : decode cX9_inSchool 0 = .ok (.iconst 0, 1) := by decide +kernel
theorem dX9_inSchool_1 : decode cX9_inSchool 1 = .ok (.istore_n 3, 1) := by decide +kernel
theorem dX9_inSchool_2 : decode cX9_inSchool 2 = .ok (.iconst 0, 1) := by decide +kernel
theorem dX9_inSchool_3 : decode cX9_inSchool 3 = .ok (.istore 4, 2) := by decide +kernel
theorem dX9_inSchool_5 : decode cX9_inSchool 5 = .ok (.iload 4, 2) := by decide +kernel
theorem dX9_inSchool_7 : decode cX9_inSchool 7 = .ok (.aload_n 0, 1) := by decide +kernel
theorem dX9_inSchool_8 : decode cX9_inSchool 8 = .ok (.getfield 145, 3) := by decide +kernel
theorem dX9_inSchool_11 : decode cX9_inSchool 11 = .ok (.if_icmp .ge 60, 3) := by decide +kernel
theorem dX9_inSchool_14 : decode cX9_inSchool 14 = .ok (.iload_n 3, 1) := by decide +kernel
theorem dX9_inSchool_15 : decode cX9_inSchool 15 = .ok (.aload_n 0, 1) := by decide +kernel
theorem dX9_inSchool_16 : decode cX9_inSchool 16 = .ok (.getfield 92, 3) := by decide +kernel
theorem dX9_inSchool_19 : decode cX9_inSchool 19 = .ok (.iload 4, 2) := by decide +kernel
theorem dX9_inSchool_21 : decode cX9_inSchool 21 = .ok (.baload, 1) := by decide +kernel
theorem dX9_inSchool_22 : decode cX9_inSchool 22 = .ok (.ifCond .eq 40, 3) := by decide +kernel
theorem dX9_inSchool_25 : decode cX9_inSchool 25 = .ok (.aload_n 0, 1) := by decide +kernel
theorem dX9_inSchool_26 : decode cX9_inSchool 26 = .ok (.getfield 77, 3) := by decide +kernel
theorem dX9_inSchool_29 : decode cX9_inSchool 29 = .ok (.iload 4, 2) := by decide +kernel
theorem dX9_inSchool_31 : decode cX9_inSchool 31 = .ok (.iaload, 1) := by decide +kernel
theorem dX9_inSchool_32 : decode cX9_inSchool 32 = .ok (.iconst 3, 1) := by decide +kernel
theorem dX9_inSchool_33 : decode cX9_inSchool 33 = .ok (.if_icmp .ne 29, 3) := by decide +kernel
theorem dX9_inSchool_36 : decode cX9_inSchool 36 = .ok (.aload_n 0, 1) := by decide +kernel
theorem dX9_inSchool_37 : decode cX9_inSchool 37 = .ok (.getfield 80, 3) := by decide +kernel
theorem dX9_inSchool_40 : decode cX9_inSchool 40 = .ok (.iload 4, 2) := by decide +kernel
theorem dX9_inSchool_42 : decode cX9_inSchool 42 = .ok (.iaload, 1) := by decide +kernel
theorem dX9_inSchool_43 : decode cX9_inSchool 43 = .ok (.iload_n 1, 1) := by decide +kernel
theorem dX9_inSchool_44 : decode cX9_inSchool 44 = .ok (.if_icmp .ne 18, 3) := by decide +kernel
theorem dX9_inSchool_47 : decode cX9_inSchool 47 = .ok (.aload_n 0, 1) := by decide +kernel
theorem dX9_inSchool_48 : decode cX9_inSchool 48 = .ok (.getfield 83, 3) := by decide +kernel
theorem dX9_inSchool_51 : decode cX9_inSchool 51 = .ok (.iload 4, 2) := by decide +kernel
theorem dX9_inSchool_53 : decode cX9_inSchool 53 = .ok (.baload, 1) := by decide +kernel
theorem dX9_inSchool_54 : decode cX9_inSchool 54 = .ok (.iload_n 2, 1) := by decide +kernel
theorem dX9_inSchool_55 : decode cX9_inSchool 55 = .ok (.if_icmp .ne 7, 3) := by decide +kernel
theorem dX9_inSchool_58 : decode cX9_inSchool 58 = .ok (.iconst 1, 1) := by decide +kernel
theorem dX9_inSchool_59 : decode cX9_inSchool 59 = .ok (.goto 4, 3) := by decide +kernel
theorem dX9_inSchool_62 : decode cX9_inSchool 62 = .ok (.iconst 0, 1) := by decide +kernel
theorem dX9_inSchool_63 : decode cX9_inSchool 63 = .ok (.iadd, 1) := by decide +kernel
theorem dX9_inSchool_64 : decode cX9_inSchool 64 = .ok (.istore_n 3, 1) := by decide +kernel
theorem dX9_inSchool_65 : decode cX9_inSchool 65 = .ok (.iinc 4 1, 3) := by decide +kernel
theorem dX9_inSchool_68 : decode cX9_inSchool 68 = .ok (.goto (-63), 3) := by decide +kernel
theorem dX9_inSchool_71 : decode cX9_inSchool 71 = .ok (.iload_n 3, 1) := by decide +kernel
theorem dX9_inSchool_72 : decode cX9_inSchool 72 = .ok (.ireturn, 1) := by decide +kernel
theorem dX9_may_0 : decode cX9_may 0 = .ok (.aload_n 0, 1) := by decide +kernel
theorem dX9_may_1 : decode cX9_may 1 = .ok (.iload_n 1, 1) := by decide +kernel
theorem dX9_may_2 : decode cX9_may 2 = .ok (.invokevirtual 185, 3) := by decide +kernel
theorem dX9_may_5 : decode cX9_may 5 = .ok (.ifCond .ne 5, 3) := by decide +kernel
theorem dX9_may_8 : decode cX9_may 8 = .ok (.iconst (-1), 1) := by decide +kernel
theorem dX9_may_9 : decode cX9_may 9 = .ok (.ireturn, 1) := by decide +kernel
theorem dX9_may_10 : decode cX9_may 10 = .ok (.aload_n 0, 1) := by decide +kernel
theorem dX9_may_11 : decode cX9_may 11 = .ok (.getfield 74, 3) := by decide +kernel
theorem dX9_may_14 : decode cX9_may 14 = .ok (.iload_n 1, 1) := by decide +kernel
theorem dX9_may_15 : decode cX9_may 15 = .ok (.iaload, 1) := by decide +kernel
theorem dX9_may_16 : decode cX9_may 16 = .ok (.istore_n 2, 1) := by decide +kernel
theorem dX9_may_17 : decode cX9_may 17 = .ok (.aload_n 0, 1) := by decide +kernel
theorem dX9_may_18 : decode cX9_may 18 = .ok (.getfield 77, 3) := by decide +kernel
theorem dX9_may_21 : decode cX9_may 21 = .ok (.iload_n 1, 1) := by decide +kernel
theorem dX9_may_22 : decode cX9_may 22 = .ok (.iaload, 1) := by decide +kernel
theorem dX9_may_23 : decode cX9_may 23 = .ok (.iconst 5, 1) := by decide +kernel
theorem dX9_may_24 : decode cX9_may 24 = .ok (.if_icmp .ne 7, 3) := by decide +kernel
theorem dX9_may_27 : decode cX9_may 27 = .ok (.iconst 1, 1) := by decide +kernel
theorem dX9_may_28 : decode cX9_may 28 = .ok (.goto 4, 3) := by decide +kernel
theorem dX9_may_31 : decode cX9_may 31 = .ok (.iconst 0, 1) := by decide +kernel
theorem dX9_may_32 : decode cX9_may 32 = .ok (.istore_n 3, 1) := by decide +kernel
theorem dX9_may_33 : decode cX9_may 33 = .ok (.aload_n 0, 1) := by decide +kernel
theorem dX9_may_34 : decode cX9_may 34 = .ok (.getfield 92, 3) := by decide +kernel
theorem dX9_may_37 : decode cX9_may 37 = .ok (.iload_n 1, 1) := by decide +kernel
theorem dX9_may_38 : decode cX9_may 38 = .ok (.baload, 1) := by decide +kernel
theorem dX9_may_39 : decode cX9_may 39 = .ok (.ifCond .eq 5, 3) := by decide +kernel
theorem dX9_may_42 : decode cX9_may 42 = .ok (.iconst 1, 1) := by decide +kernel
theorem dX9_may_43 : decode cX9_may 43 = .ok (.ireturn, 1) := by decide +kernel
theorem dX9_may_44 : decode cX9_may 44 = .ok (.aload_n 0, 1) := by decide +kernel
theorem dX9_may_45 : decode cX9_may 45 = .ok (.getfield 77, 3) := by decide +kernel
theorem dX9_may_48 : decode cX9_may 48 = .ok (.iload_n 1, 1) := by decide +kernel
theorem dX9_may_49 : decode cX9_may 49 = .ok (.iaload, 1) := by decide +kernel
theorem dX9_may_50 : decode cX9_may 50 = .ok (.iconst 4, 1) := by decide +kernel
theorem dX9_may_51 : decode cX9_may 51 = .ok (.if_icmp .ne 12, 3) := by decide +kernel
theorem dX9_may_54 : decode cX9_may 54 = .ok (.aload_n 0, 1) := by decide +kernel
theorem dX9_may_55 : decode cX9_may 55 = .ok (.getfield 98, 3) := by decide +kernel
theorem dX9_may_58 : decode cX9_may 58 = .ok (.iload_n 1, 1) := by decide +kernel
theorem dX9_may_59 : decode cX9_may 59 = .ok (.iaload, 1) := by decide +kernel
theorem dX9_may_60 : decode cX9_may 60 = .ok (.ifCond .gt 24, 3) := by decide +kernel
theorem dX9_may_63 : decode cX9_may 63 = .ok (.aload_n 0, 1) := by decide +kernel
theorem dX9_may_64 : decode cX9_may 64 = .ok (.iload_n 1, 1) := by decide +kernel
theorem dX9_may_65 : decode cX9_may 65 = .ok (.invokevirtual 188, 3) := by decide +kernel
theorem dX9_may_68 : decode cX9_may 68 = .ok (.ifCond .eq 18, 3) := by decide +kernel
theorem dX9_may_71 : decode cX9_may 71 = .ok (.aload_n 0, 1) := by decide +kernel
theorem dX9_may_72 : decode cX9_may 72 = .ok (.aload_n 0, 1) := by decide +kernel
theorem dX9_may_73 : decode cX9_may 73 = .ok (.getfield 80, 3) := by decide +kernel
theorem dX9_may_76 : decode cX9_may 76 = .ok (.iload_n 1, 1) := by decide +kernel
theorem dX9_may_77 : decode cX9_may 77 = .ok (.iaload, 1) := by decide +kernel
theorem dX9_may_78 : decode cX9_may 78 = .ok (.invokevirtual 191, 3) := by decide +kernel
theorem dX9_may_81 : decode cX9_may 81 = .ok (.ifCond .ne 5, 3) := by decide +kernel
theorem dX9_may_84 : decode cX9_may 84 = .ok (.iconst 2, 1) := by decide +kernel
theorem dX9_may_85 : decode cX9_may 85 = .ok (.ireturn, 1) := by decide +kernel
theorem dX9_may_86 : decode cX9_may 86 = .ok (.iload_n 3, 1) := by decide +kernel
theorem dX9_may_87 : decode cX9_may 87 = .ok (.ifCond .ne 13, 3) := by decide +kernel
theorem dX9_may_90 : decode cX9_may 90 = .ok (.aload_n 0, 1) := by decide +kernel
theorem dX9_may_91 : decode cX9_may 91 = .ok (.iload_n 2, 1) := by decide +kernel
theorem dX9_may_92 : decode cX9_may 92 = .ok (.invokevirtual 151, 3) := by decide +kernel
theorem dX9_may_95 : decode cX9_may 95 = .ok (.ifCond .le 5, 3) := by decide +kernel
theorem dX9_may_98 : decode cX9_may 98 = .ok (.iconst 3, 1) := by decide +kernel
theorem dX9_may_99 : decode cX9_may 99 = .ok (.ireturn, 1) := by decide +kernel
theorem dX9_may_100 : decode cX9_may 100 = .ok (.iload_n 3, 1) := by decide +kernel
theorem dX9_may_101 : decode cX9_may 101 = .ok (.ifCond .ne 19, 3) := by decide +kernel
theorem dX9_may_104 : decode cX9_may 104 = .ok (.aload_n 0, 1) := by decide +kernel
theorem dX9_may_105 : decode cX9_may 105 = .ok (.iload_n 2, 1) := by decide +kernel
theorem dX9_may_106 : decode cX9_may 106 = .ok (.invokevirtual 158, 3) := by decide +kernel
theorem dX9_may_109 : decode cX9_may 109 = .ok (.aload_n 0, 1) := by decide +kernel
theorem dX9_may_110 : decode cX9_may 110 = .ok (.getfield 13, 3) := by decide +kernel
theorem dX9_may_113 : decode cX9_may 113 = .ok (.iload_n 2, 1) := by decide +kernel
theorem dX9_may_114 : decode cX9_may 114 = .ok (.iaload, 1) := by decide +kernel
theorem dX9_may_115 : decode cX9_may 115 = .ok (.if_icmp .lt 5, 3) := by decide +kernel
theorem dX9_may_118 : decode cX9_may 118 = .ok (.iconst 4, 1) := by decide +kernel
theorem dX9_may_119 : decode cX9_may 119 = .ok (.ireturn, 1) := by decide +kernel
theorem dX9_may_120 : decode cX9_may 120 = .ok (.aload_n 0, 1) := by decide +kernel
theorem dX9_may_121 : decode cX9_may 121 = .ok (.getfield 77, 3) := by decide +kernel
theorem dX9_may_124 : decode cX9_may 124 = .ok (.iload_n 1, 1) := by decide +kernel
theorem dX9_may_125 : decode cX9_may 125 = .ok (.iaload, 1) := by decide +kernel
theorem dX9_may_126 : decode cX9_may 126 = .ok (.iconst 3, 1) := by decide +kernel
theorem dX9_may_127 : decode cX9_may 127 = .ok (.if_icmp .ne 53, 3) := by decide +kernel
theorem dX9_may_130 : decode cX9_may 130 = .ok (.aload_n 0, 1) := by decide +kernel
theorem dX9_may_131 : decode cX9_may 131 = .ok (.getfield 83, 3) := by decide +kernel
theorem dX9_may_134 : decode cX9_may 134 = .ok (.iload_n 1, 1) := by decide +kernel
theorem dX9_may_135 : decode cX9_may 135 = .ok (.baload, 1) := by decide +kernel
theorem dX9_may_136 : decode cX9_may 136 = .ok (.ifCond .ne 44, 3) := by decide +kernel
theorem dX9_may_139 : decode cX9_may 139 = .ok (.aload_n 0, 1) := by decide +kernel
theorem dX9_may_140 : decode cX9_may 140 = .ok (.aload_n 0, 1) := by decide +kernel
theorem dX9_may_141 : decode cX9_may 141 = .ok (.getfield 80, 3) := by decide +kernel
theorem dX9_may_144 : decode cX9_may 144 = .ok (.iload_n 1, 1) := by decide +kernel
theorem dX9_may_145 : decode cX9_may 145 = .ok (.iaload, 1) := by decide +kernel
theorem dX9_may_146 : decode cX9_may 146 = .ok (.iconst 0, 1) := by decide +kernel
theorem dX9_may_147 : decode cX9_may 147 = .ok (.invokevirtual 194, 3) := by decide +kernel
theorem dX9_may_150 : decode cX9_may 150 = .ok (.iconst 1, 1) := by decide +kernel
theorem dX9_may_151 : decode cX9_may 151 = .ok (.iadd, 1) := by decide +kernel
theorem dX9_may_152 : decode cX9_may 152 = .ok (.aload_n 0, 1) := by decide +kernel
theorem dX9_may_153 : decode cX9_may 153 = .ok (.getfield 126, 3) := by decide +kernel
theorem dX9_may_156 : decode cX9_may 156 = .ok (.aload_n 0, 1) := by decide +kernel
theorem dX9_may_157 : decode cX9_may 157 = .ok (.getfield 80, 3) := by decide +kernel
theorem dX9_may_160 : decode cX9_may 160 = .ok (.iload_n 1, 1) := by decide +kernel
theorem dX9_may_161 : decode cX9_may 161 = .ok (.iaload, 1) := by decide +kernel
theorem dX9_may_162 : decode cX9_may 162 = .ok (.iaload, 1) := by decide +kernel
theorem dX9_may_163 : decode cX9_may 163 = .ok (.aload_n 0, 1) := by decide +kernel
theorem dX9_may_164 : decode cX9_may 164 = .ok (.aload_n 0, 1) := by decide +kernel
theorem dX9_may_165 : decode cX9_may 165 = .ok (.getfield 80, 3) := by decide +kernel
theorem dX9_may_168 : decode cX9_may 168 = .ok (.iload_n 1, 1) := by decide +kernel
theorem dX9_may_169 : decode cX9_may 169 = .ok (.iaload, 1) := by decide +kernel
theorem dX9_may_170 : decode cX9_may 170 = .ok (.iconst 1, 1) := by decide +kernel
theorem dX9_may_171 : decode cX9_may 171 = .ok (.invokevirtual 194, 3) := by decide +kernel
theorem dX9_may_174 : decode cX9_may 174 = .ok (.imul, 1) := by decide +kernel
theorem dX9_may_175 : decode cX9_may 175 = .ok (.if_icmp .le 5, 3) := by decide +kernel
theorem dX9_may_178 : decode cX9_may 178 = .ok (.iconst 5, 1) := by decide +kernel
theorem dX9_may_179 : decode cX9_may 179 = .ok (.ireturn, 1) := by decide +kernel
theorem dX9_may_180 : decode cX9_may 180 = .ok (.aload_n 0, 1) := by decide +kernel
theorem dX9_may_181 : decode cX9_may 181 = .ok (.getfield 41, 3) := by decide +kernel
theorem dX9_may_184 : decode cX9_may 184 = .ok (.iload_n 2, 1) := by decide +kernel
theorem dX9_may_185 : decode cX9_may 185 = .ok (.iaload, 1) := by decide +kernel
theorem dX9_may_186 : decode cX9_may 186 = .ok (.iconst 3, 1) := by decide +kernel
theorem dX9_may_187 : decode cX9_may 187 = .ok (.if_icmp .ne 8, 3) := by decide +kernel
theorem dX9_may_190 : decode cX9_may 190 = .ok (.bipush 6, 2) := by decide +kernel
theorem dX9_may_192 : decode cX9_may 192 = .ok (.goto 4, 3) := by decide +kernel
theorem dX9_may_195 : decode cX9_may 195 = .ok (.iconst 0, 1) := by decide +kernel
theorem dX9_may_196 : decode cX9_may 196 = .ok (.ireturn, 1) := by decide +kernel
theorem dX9_in__0 : decode cX9_in_ 0 = .ok (.aload_n 0, 1) := by decide +kernel
theorem dX9_in__1 : decode cX9_in_ 1 = .ok (.iload_n 1, 1) := by decide +kernel
theorem dX9_in__2 : decode cX9_in_ 2 = .ok (.invokevirtual 197, 3) := by decide +kernel
theorem dX9_in__5 : decode cX9_in_ 5 = .ok (.istore_n 2, 1) := by decide +kernel
theorem dX9_in__6 : decode cX9_in_ 6 = .ok (.iload_n 2, 1) := by decide +kernel
theorem dX9_in__7 : decode cX9_in_ 7 = .ok (.ifCond .eq 5, 3) := by decide +kernel
theorem dX9_in__10 : decode cX9_in_ 10 = .ok (.iload_n 2, 1) := by decide +kernel
theorem dX9_in__11 : decode cX9_in_ 11 = .ok (.ireturn, 1) := by decide +kernel
theorem dX9_in__12 : decode cX9_in_ 12 = .ok (.aload_n 0, 1) := by decide +kernel
theorem dX9_in__13 : decode cX9_in_ 13 = .ok (.getfield 74, 3) := by decide +kernel
theorem dX9_in__16 : decode cX9_in_ 16 = .ok (.iload_n 1, 1) := by decide +kernel
theorem dX9_in__17 : decode cX9_in_ 17 = .ok (.iaload, 1) := by decide +kernel
theorem dX9_in__18 : decode cX9_in_ 18 = .ok (.istore_n 3, 1) := by decide +kernel
theorem dX9_in__19 : decode cX9_in_ 19 = .ok (.aload_n 0, 1) := by decide +kernel
theorem dX9_in__20 : decode cX9_in_ 20 = .ok (.getfield 92, 3) := by decide +kernel
theorem dX9_in__23 : decode cX9_in_ 23 = .ok (.iload_n 1, 1) := by decide +kernel
theorem dX9_in__24 : decode cX9_in_ 24 = .ok (.iconst 1, 1) := by decide +kernel
theorem dX9_in__25 : decode cX9_in_ 25 = .ok (.bastore, 1) := by decide +kernel
theorem dX9_in__26 : decode cX9_in_ 26 = .ok (.aload_n 0, 1) := by decide +kernel
theorem dX9_in__27 : decode cX9_in_ 27 = .ok (.getfield 86, 3) := by decide +kernel
theorem dX9_in__30 : decode cX9_in_ 30 = .ok (.iload_n 1, 1) := by decide +kernel
theorem dX9_in__31 : decode cX9_in_ 31 = .ok (.aload_n 0, 1) := by decide +kernel
theorem dX9_in__32 : decode cX9_in_ 32 = .ok (.getfield 148, 3) := by decide +kernel
theorem dX9_in__35 : decode cX9_in_ 35 = .ok (.iastore, 1) := by decide +kernel
theorem dX9_in__36 : decode cX9_in_ 36 = .ok (.aload_n 0, 1) := by decide +kernel
theorem dX9_in__37 : decode cX9_in_ 37 = .ok (.getfield 89, 3) := by decide +kernel
theorem dX9_in__40 : decode cX9_in_ 40 = .ok (.iload_n 1, 1) := by decide +kernel
theorem dX9_in__41 : decode cX9_in_ 41 = .ok (.aload_n 0, 1) := by decide +kernel
theorem dX9_in__42 : decode cX9_in_ 42 = .ok (.getfield 77, 3) := by decide +kernel
theorem dX9_in__45 : decode cX9_in_ 45 = .ok (.iload_n 1, 1) := by decide +kernel
theorem dX9_in__46 : decode cX9_in_ 46 = .ok (.iaload, 1) := by decide +kernel
theorem dX9_in__47 : decode cX9_in_ 47 = .ok (.iconst 1, 1) := by decide +kernel
theorem dX9_in__48 : decode cX9_in_ 48 = .ok (.if_icmp .ne 12, 3) := by decide +kernel
theorem dX9_in__51 : decode cX9_in_ 51 = .ok (.aload_n 0, 1) := by decide +kernel
theorem dX9_in__52 : decode cX9_in_ 52 = .ok (.getfield 80, 3) := by decide +kernel
theorem dX9_in__55 : decode cX9_in_ 55 = .ok (.iload_n 1, 1) := by decide +kernel
theorem dX9_in__56 : decode cX9_in_ 56 = .ok (.iaload, 1) := by decide +kernel
theorem dX9_in__57 : decode cX9_in_ 57 = .ok (.goto 31, 3) := by decide +kernel
theorem dX9_in__60 : decode cX9_in_ 60 = .ok (.aload_n 0, 1) := by decide +kernel
theorem dX9_in__61 : decode cX9_in_ 61 = .ok (.iload_n 1, 1) := by decide +kernel
theorem dX9_in__62 : decode cX9_in_ 62 = .ok (.invokevirtual 188, 3) := by decide +kernel
theorem dX9_in__65 : decode cX9_in_ 65 = .ok (.ifCond .eq 22, 3) := by decide +kernel
theorem dX9_in__68 : decode cX9_in_ 68 = .ok (.aload_n 0, 1) := by decide +kernel
theorem dX9_in__69 : decode cX9_in_ 69 = .ok (.getfield 123, 3) := by decide +kernel
theorem dX9_in__72 : decode cX9_in_ 72 = .ok (.aload_n 0, 1) := by decide +kernel
theorem dX9_in__73 : decode cX9_in_ 73 = .ok (.getfield 80, 3) := by decide +kernel
theorem dX9_in__76 : decode cX9_in_ 76 = .ok (.iload_n 1, 1) := by decide +kernel
theorem dX9_in__77 : decode cX9_in_ 77 = .ok (.iaload, 1) := by decide +kernel
theorem dX9_in__78 : decode cX9_in_ 78 = .ok (.iaload, 1) := by decide +kernel
theorem dX9_in__79 : decode cX9_in_ 79 = .ok (.aload_n 0, 1) := by decide +kernel
theorem dX9_in__80 : decode cX9_in_ 80 = .ok (.getfield 148, 3) := by decide +kernel
theorem dX9_in__83 : decode cX9_in_ 83 = .ok (.isub, 1) := by decide +kernel
theorem dX9_in__84 : decode cX9_in_ 84 = .ok (.goto 4, 3) := by decide +kernel
theorem dX9_in__87 : decode cX9_in_ 87 = .ok (.iconst 0, 1) := by decide +kernel
theorem dX9_in__88 : decode cX9_in_ 88 = .ok (.iastore, 1) := by decide +kernel
theorem dX9_in__89 : decode cX9_in_ 89 = .ok (.aload_n 0, 1) := by decide +kernel
theorem dX9_in__90 : decode cX9_in_ 90 = .ok (.getfield 98, 3) := by decide +kernel
theorem dX9_in__93 : decode cX9_in_ 93 = .ok (.iload_n 1, 1) := by decide +kernel
theorem dX9_in__94 : decode cX9_in_ 94 = .ok (.dup2, 1) := by decide +kernel
theorem dX9_in__95 : decode cX9_in_ 95 = .ok (.iaload, 1) := by decide +kernel
theorem dX9_in__96 : decode cX9_in_ 96 = .ok (.iconst 1, 1) := by decide +kernel
theorem dX9_in__97 : decode cX9_in_ 97 = .ok (.iadd, 1) := by decide +kernel
theorem dX9_in__98 : decode cX9_in_ 98 = .ok (.iastore, 1) := by decide +kernel
theorem dX9_in__99 : decode cX9_in_ 99 = .ok (.aload_n 0, 1) := by decide +kernel
theorem dX9_in__100 : decode cX9_in_ 100 = .ok (.getfield 41, 3) := by decide +kernel
theorem dX9_in__103 : decode cX9_in_ 103 = .ok (.iload_n 3, 1) := by decide +kernel
theorem dX9_in__104 : decode cX9_in_ 104 = .ok (.dup2, 1) := by decide +kernel
theorem dX9_in__105 : decode cX9_in_ 105 = .ok (.iaload, 1) := by decide +kernel
theorem dX9_in__106 : decode cX9_in_ 106 = .ok (.iconst 1, 1) := by decide +kernel
theorem dX9_in__107 : decode cX9_in_ 107 = .ok (.iadd, 1) := by decide +kernel
theorem dX9_in__108 : decode cX9_in_ 108 = .ok (.iastore, 1) := by decide +kernel
theorem dX9_in__109 : decode cX9_in_ 109 = .ok (.aload_n 0, 1) := by decide +kernel
theorem dX9_in__110 : decode cX9_in_ 110 = .ok (.getfield 29, 3) := by decide +kernel
theorem dX9_in__113 : decode cX9_in_ 113 = .ok (.iload_n 3, 1) := by decide +kernel
theorem dX9_in__114 : decode cX9_in_ 114 = .ok (.dup2, 1) := by decide +kernel
theorem dX9_in__115 : decode cX9_in_ 115 = .ok (.iaload, 1) := by decide +kernel
theorem dX9_in__116 : decode cX9_in_ 116 = .ok (.aload_n 0, 1) := by decide +kernel
theorem dX9_in__117 : decode cX9_in_ 117 = .ok (.getfield 38, 3) := by decide +kernel
theorem dX9_in__120 : decode cX9_in_ 120 = .ok (.iload_n 3, 1) := by decide +kernel
theorem dX9_in__121 : decode cX9_in_ 121 = .ok (.baload, 1) := by decide +kernel
theorem dX9_in__122 : decode cX9_in_ 122 = .ok (.ifCond .eq 7, 3) := by decide +kernel
theorem dX9_in__125 : decode cX9_in_ 125 = .ok (.iconst 1, 1) := by decide +kernel
theorem dX9_in__126 : decode cX9_in_ 126 = .ok (.goto 4, 3) := by decide +kernel
theorem dX9_in__129 : decode cX9_in_ 129 = .ok (.iconst 0, 1) := by decide +kernel
theorem dX9_in__130 : decode cX9_in_ 130 = .ok (.iadd, 1) := by decide +kernel
theorem dX9_in__131 : decode cX9_in_ 131 = .ok (.iastore, 1) := by decide +kernel
theorem dX9_in__132 : decode cX9_in_ 132 = .ok (.iconst 0, 1) := by decide +kernel
theorem dX9_in__133 : decode cX9_in_ 133 = .ok (.ireturn, 1) := by decide +kernel
theorem dX9_isTimed_0 : decode cX9_isTimed 0 = .ok (.aload_n 0, 1) := by decide +kernel
theorem dX9_isTimed_1 : decode cX9_isTimed 1 = .ok (.getfield 77, 3) := by decide +kernel
theorem dX9_isTimed_4 : decode cX9_isTimed 4 = .ok (.iload_n 1, 1) := by decide +kernel
theorem dX9_isTimed_5 : decode cX9_isTimed 5 = .ok (.iaload, 1) := by decide +kernel
theorem dX9_isTimed_6 : decode cX9_isTimed 6 = .ok (.iconst 1, 1) := by decide +kernel
theorem dX9_isTimed_7 : decode cX9_isTimed 7 = .ok (.if_icmp .eq 11, 3) := by decide +kernel
theorem dX9_isTimed_10 : decode cX9_isTimed 10 = .ok (.aload_n 0, 1) := by decide +kernel
theorem dX9_isTimed_11 : decode cX9_isTimed 11 = .ok (.iload_n 1, 1) := by decide +kernel
theorem dX9_isTimed_12 : decode cX9_isTimed 12 = .ok (.invokevirtual 188, 3) := by decide +kernel
theorem dX9_isTimed_15 : decode cX9_isTimed 15 = .ok (.ifCond .eq 7, 3) := by decide +kernel
theorem dX9_isTimed_18 : decode cX9_isTimed 18 = .ok (.iconst 1, 1) := by decide +kernel
theorem dX9_isTimed_19 : decode cX9_isTimed 19 = .ok (.goto 4, 3) := by decide +kernel
theorem dX9_isTimed_22 : decode cX9_isTimed 22 = .ok (.iconst 0, 1) := by decide +kernel
theorem dX9_isTimed_23 : decode cX9_isTimed 23 = .ok (.ireturn, 1) := by decide +kernel
theorem dX9_beyond_0 : decode cX9_beyond 0 = .ok (.aload_n 0, 1) := by decide +kernel
theorem dX9_beyond_1 : decode cX9_beyond 1 = .ok (.iload_n 1, 1) := by decide +kernel
theorem dX9_beyond_2 : decode cX9_beyond 2 = .ok (.invokevirtual 200, 3) := by decide +kernel
theorem dX9_beyond_5 : decode cX9_beyond 5 = .ok (.ifCond .eq 26, 3) := by decide +kernel
theorem dX9_beyond_8 : decode cX9_beyond 8 = .ok (.aload_n 0, 1) := by decide +kernel
theorem dX9_beyond_9 : decode cX9_beyond 9 = .ok (.getfield 148, 3) := by decide +kernel
theorem dX9_beyond_12 : decode cX9_beyond 12 = .ok (.aload_n 0, 1) := by decide +kernel
theorem dX9_beyond_13 : decode cX9_beyond 13 = .ok (.getfield 86, 3) := by decide +kernel
theorem dX9_beyond_16 : decode cX9_beyond 16 = .ok (.iload_n 1, 1) := by decide +kernel
theorem dX9_beyond_17 : decode cX9_beyond 17 = .ok (.iaload, 1) := by decide +kernel
theorem dX9_beyond_18 : decode cX9_beyond 18 = .ok (.isub, 1) := by decide +kernel
theorem dX9_beyond_19 : decode cX9_beyond 19 = .ok (.aload_n 0, 1) := by decide +kernel
theorem dX9_beyond_20 : decode cX9_beyond 20 = .ok (.getfield 89, 3) := by decide +kernel
theorem dX9_beyond_23 : decode cX9_beyond 23 = .ok (.iload_n 1, 1) := by decide +kernel
theorem dX9_beyond_24 : decode cX9_beyond 24 = .ok (.iaload, 1) := by decide +kernel
theorem dX9_beyond_25 : decode cX9_beyond 25 = .ok (.isub, 1) := by decide +kernel
theorem dX9_beyond_26 : decode cX9_beyond 26 = .ok (.iconst 1, 1) := by decide +kernel
theorem dX9_beyond_27 : decode cX9_beyond 27 = .ok (.iadd, 1) := by decide +kernel
theorem dX9_beyond_28 : decode cX9_beyond 28 = .ok (.goto 4, 3) := by decide +kernel
theorem dX9_beyond_31 : decode cX9_beyond 31 = .ok (.iconst 0, 1) := by decide +kernel
theorem dX9_beyond_32 : decode cX9_beyond 32 = .ok (.ireturn, 1) := by decide +kernel
theorem dX9_out_0 : decode cX9_out 0 = .ok (.aload_n 0, 1) := by decide +kernel
theorem dX9_out_1 : decode cX9_out 1 = .ok (.iload_n 1, 1) := by decide +kernel
theorem dX9_out_2 : decode cX9_out 2 = .ok (.invokevirtual 185, 3) := by decide +kernel
theorem dX9_out_5 : decode cX9_out 5 = .ok (.ifCond .eq 12, 3) := by decide +kernel
theorem dX9_out_8 : decode cX9_out 8 = .ok (.aload_n 0, 1) := by decide +kernel
theorem dX9_out_9 : decode cX9_out 9 = .ok (.getfield 92, 3) := by decide +kernel
theorem dX9_out_12 : decode cX9_out 12 = .ok (.iload_n 1, 1) := by decide +kernel
theorem dX9_out_13 : decode cX9_out 13 = .ok (.baload, 1) := by decide +kernel
theorem dX9_out_14 : decode cX9_out 14 = .ok (.ifCond .ne 5, 3) := by decide +kernel
theorem dX9_out_17 : decode cX9_out 17 = .ok (.iconst (-1), 1) := by decide +kernel
theorem dX9_out_18 : decode cX9_out 18 = .ok (.ireturn, 1) := by decide +kernel
theorem dX9_out_19 : decode cX9_out 19 = .ok (.aload_n 0, 1) := by decide +kernel
theorem dX9_out_20 : decode cX9_out 20 = .ok (.getfield 74, 3) := by decide +kernel
theorem dX9_out_23 : decode cX9_out 23 = .ok (.iload_n 1, 1) := by decide +kernel
theorem dX9_out_24 : decode cX9_out 24 = .ok (.iaload, 1) := by decide +kernel
theorem dX9_out_25 : decode cX9_out 25 = .ok (.istore_n 2, 1) := by decide +kernel
theorem dX9_out_26 : decode cX9_out 26 = .ok (.aload_n 0, 1) := by decide +kernel
theorem dX9_out_27 : decode cX9_out 27 = .ok (.getfield 44, 3) := by decide +kernel
theorem dX9_out_30 : decode cX9_out 30 = .ok (.iload_n 2, 1) := by decide +kernel
theorem dX9_out_31 : decode cX9_out 31 = .ok (.iaload, 1) := by decide +kernel
theorem dX9_out_32 : decode cX9_out 32 = .ok (.iconst 3, 1) := by decide +kernel
theorem dX9_out_33 : decode cX9_out 33 = .ok (.if_icmp .ne 6, 3) := by decide +kernel
theorem dX9_out_36 : decode cX9_out 36 = .ok (.bipush (-2), 2) := by decide +kernel
theorem dX9_out_38 : decode cX9_out 38 = .ok (.ireturn, 1) := by decide +kernel
theorem dX9_out_39 : decode cX9_out 39 = .ok (.aload_n 0, 1) := by decide +kernel
theorem dX9_out_40 : decode cX9_out 40 = .ok (.iload_n 1, 1) := by decide +kernel
theorem dX9_out_41 : decode cX9_out 41 = .ok (.invokevirtual 203, 3) := by decide +kernel
theorem dX9_out_44 : decode cX9_out 44 = .ok (.istore_n 3, 1) := by decide +kernel
theorem dX9_out_45 : decode cX9_out 45 = .ok (.iload_n 3, 1) := by decide +kernel
theorem dX9_out_46 : decode cX9_out 46 = .ok (.ifCond .le 16, 3) := by decide +kernel
theorem dX9_out_49 : decode cX9_out 49 = .ok (.bipush 20, 2) := by decide +kernel
theorem dX9_out_51 : decode cX9_out 51 = .ok (.iload_n 3, 1) := by decide +kernel
theorem dX9_out_52 : decode cX9_out 52 = .ok (.bipush 14, 2) := by decide +kernel
theorem dX9_out_54 : decode cX9_out 54 = .ok (.iadd, 1) := by decide +kernel
theorem dX9_out_55 : decode cX9_out 55 = .ok (.bipush 15, 2) := by decide +kernel
theorem dX9_out_57 : decode cX9_out 57 = .ok (.idiv, 1) := by decide +kernel
theorem dX9_out_58 : decode cX9_out 58 = .ok (.imul, 1) := by decide +kernel
theorem dX9_out_59 : decode cX9_out 59 = .ok (.goto 4, 3) := by decide +kernel
theorem dX9_out_62 : decode cX9_out 62 = .ok (.iconst 0, 1) := by decide +kernel
theorem dX9_out_63 : decode cX9_out 63 = .ok (.istore 4, 2) := by decide +kernel
theorem dX9_out_65 : decode cX9_out 65 = .ok (.aload_n 0, 1) := by decide +kernel
theorem dX9_out_66 : decode cX9_out 66 = .ok (.getfield 95, 3) := by decide +kernel
theorem dX9_out_69 : decode cX9_out 69 = .ok (.iload_n 1, 1) := by decide +kernel
theorem dX9_out_70 : decode cX9_out 70 = .ok (.dup2, 1) := by decide +kernel
theorem dX9_out_71 : decode cX9_out 71 = .ok (.iaload, 1) := by decide +kernel
theorem dX9_out_72 : decode cX9_out 72 = .ok (.iload 4, 2) := by decide +kernel
theorem dX9_out_74 : decode cX9_out 74 = .ok (.iadd, 1) := by decide +kernel
theorem dX9_out_75 : decode cX9_out 75 = .ok (.iastore, 1) := by decide +kernel
theorem dX9_out_76 : decode cX9_out 76 = .ok (.aload_n 0, 1) := by decide +kernel
theorem dX9_out_77 : decode cX9_out 77 = .ok (.getfield 92, 3) := by decide +kernel
theorem dX9_out_80 : decode cX9_out 80 = .ok (.iload_n 1, 1) := by decide +kernel
theorem dX9_out_81 : decode cX9_out 81 = .ok (.iconst 0, 1) := by decide +kernel
theorem dX9_out_82 : decode cX9_out 82 = .ok (.bastore, 1) := by decide +kernel
theorem dX9_out_83 : decode cX9_out 83 = .ok (.aload_n 0, 1) := by decide +kernel
theorem dX9_out_84 : decode cX9_out 84 = .ok (.getfield 44, 3) := by decide +kernel
theorem dX9_out_87 : decode cX9_out 87 = .ok (.iload_n 2, 1) := by decide +kernel
theorem dX9_out_88 : decode cX9_out 88 = .ok (.dup2, 1) := by decide +kernel
theorem dX9_out_89 : decode cX9_out 89 = .ok (.iaload, 1) := by decide +kernel
theorem dX9_out_90 : decode cX9_out 90 = .ok (.iconst 1, 1) := by decide +kernel
theorem dX9_out_91 : decode cX9_out 91 = .ok (.iadd, 1) := by decide +kernel
theorem dX9_out_92 : decode cX9_out 92 = .ok (.iastore, 1) := by decide +kernel
theorem dX9_out_93 : decode cX9_out 93 = .ok (.aload_n 0, 1) := by decide +kernel
theorem dX9_out_94 : decode cX9_out 94 = .ok (.getfield 32, 3) := by decide +kernel
theorem dX9_out_97 : decode cX9_out 97 = .ok (.iload_n 2, 1) := by decide +kernel
theorem dX9_out_98 : decode cX9_out 98 = .ok (.dup2, 1) := by decide +kernel
theorem dX9_out_99 : decode cX9_out 99 = .ok (.iaload, 1) := by decide +kernel
theorem dX9_out_100 : decode cX9_out 100 = .ok (.aload_n 0, 1) := by decide +kernel
theorem dX9_out_101 : decode cX9_out 101 = .ok (.getfield 38, 3) := by decide +kernel
theorem dX9_out_104 : decode cX9_out 104 = .ok (.iload_n 2, 1) := by decide +kernel
theorem dX9_out_105 : decode cX9_out 105 = .ok (.baload, 1) := by decide +kernel
theorem dX9_out_106 : decode cX9_out 106 = .ok (.ifCond .eq 7, 3) := by decide +kernel
theorem dX9_out_109 : decode cX9_out 109 = .ok (.iconst 1, 1) := by decide +kernel
theorem dX9_out_110 : decode cX9_out 110 = .ok (.goto 4, 3) := by decide +kernel
theorem dX9_out_113 : decode cX9_out 113 = .ok (.iconst 0, 1) := by decide +kernel
theorem dX9_out_114 : decode cX9_out 114 = .ok (.iadd, 1) := by decide +kernel
theorem dX9_out_115 : decode cX9_out 115 = .ok (.iastore, 1) := by decide +kernel
theorem dX9_out_116 : decode cX9_out 116 = .ok (.iconst 0, 1) := by decide +kernel
theorem dX9_out_117 : decode cX9_out 117 = .ok (.istore 5, 2) := by decide +kernel
theorem dX9_out_119 : decode cX9_out 119 = .ok (.iload 5, 2) := by decide +kernel
theorem dX9_out_121 : decode cX9_out 121 = .ok (.iconst 3, 1) := by decide +kernel
theorem dX9_out_122 : decode cX9_out 122 = .ok (.if_icmp .ge 34, 3) := by decide +kernel
theorem dX9_out_125 : decode cX9_out 125 = .ok (.aload_n 0, 1) := by decide +kernel
theorem dX9_out_126 : decode cX9_out 126 = .ok (.getfield 68, 3) := by decide +kernel
theorem dX9_out_129 : decode cX9_out 129 = .ok (.iconst 3, 1) := by decide +kernel
theorem dX9_out_130 : decode cX9_out 130 = .ok (.iload_n 2, 1) := by decide +kernel
theorem dX9_out_131 : decode cX9_out 131 = .ok (.imul, 1) := by decide +kernel
theorem dX9_out_132 : decode cX9_out 132 = .ok (.iload 5, 2) := by decide +kernel
theorem dX9_out_134 : decode cX9_out 134 = .ok (.iadd, 1) := by decide +kernel
theorem dX9_out_135 : decode cX9_out 135 = .ok (.iaload, 1) := by decide +kernel
theorem dX9_out_136 : decode cX9_out 136 = .ok (.iload_n 1, 1) := by decide +kernel
theorem dX9_out_137 : decode cX9_out 137 = .ok (.if_icmp .ne 13, 3) := by decide +kernel
theorem dX9_out_140 : decode cX9_out 140 = .ok (.aload_n 0, 1) := by decide +kernel
theorem dX9_out_141 : decode cX9_out 141 = .ok (.iconst 3, 1) := by decide +kernel
theorem dX9_out_142 : decode cX9_out 142 = .ok (.iload_n 2, 1) := by decide +kernel
theorem dX9_out_143 : decode cX9_out 143 = .ok (.imul, 1) := by decide +kernel
theorem dX9_out_144 : decode cX9_out 144 = .ok (.iload 5, 2) := by decide +kernel
theorem dX9_out_146 : decode cX9_out 146 = .ok (.iadd, 1) := by decide +kernel
theorem dX9_out_147 : decode cX9_out 147 = .ok (.invokevirtual 206, 3) := by decide +kernel
theorem dX9_out_150 : decode cX9_out 150 = .ok (.iinc 5 1, 3) := by decide +kernel
theorem dX9_out_153 : decode cX9_out 153 = .ok (.goto (-34), 3) := by decide +kernel
theorem dX9_out_156 : decode cX9_out 156 = .ok (.aload_n 0, 1) := by decide +kernel
theorem dX9_out_157 : decode cX9_out 157 = .ok (.iload_n 1, 1) := by decide +kernel
theorem dX9_out_158 : decode cX9_out 158 = .ok (.invokevirtual 210, 3) := by decide +kernel
theorem dX9_out_161 : decode cX9_out 161 = .ok (.istore 5, 2) := by decide +kernel
theorem dX9_out_163 : decode cX9_out 163 = .ok (.iload 5, 2) := by decide +kernel
theorem dX9_out_165 : decode cX9_out 165 = .ok (.iconst (-1), 1) := by decide +kernel
theorem dX9_out_166 : decode cX9_out 166 = .ok (.if_icmp .eq 19, 3) := by decide +kernel
theorem dX9_out_169 : decode cX9_out 169 = .ok (.aload_n 0, 1) := by decide +kernel
theorem dX9_out_170 : decode cX9_out 170 = .ok (.getfield 104, 3) := by decide +kernel
theorem dX9_out_173 : decode cX9_out 173 = .ok (.iload 5, 2) := by decide +kernel
theorem dX9_out_175 : decode cX9_out 175 = .ok (.iconst (-1), 1) := by decide +kernel
theorem dX9_out_176 : decode cX9_out 176 = .ok (.iastore, 1) := by decide +kernel
theorem dX9_out_177 : decode cX9_out 177 = .ok (.aload_n 0, 1) := by decide +kernel
theorem dX9_out_178 : decode cX9_out 178 = .ok (.getfield 107, 3) := by decide +kernel
theorem dX9_out_181 : decode cX9_out 181 = .ok (.iload 5, 2) := by decide +kernel
theorem dX9_out_183 : decode cX9_out 183 = .ok (.iload_n 1, 1) := by decide +kernel
theorem dX9_out_184 : decode cX9_out 184 = .ok (.iastore, 1) := by decide +kernel
theorem dX9_out_185 : decode cX9_out 185 = .ok (.iload 4, 2) := by decide +kernel
theorem dX9_out_187 : decode cX9_out 187 = .ok (.ireturn, 1) := by decide +kernel
theorem dX9_leaves_0 : decode cX9_leaves 0 = .ok (.aload_n 0, 1) := by decide +kernel
theorem dX9_leaves_1 : decode cX9_leaves 1 = .ok (.getfield 101, 3) := by decide +kernel
theorem dX9_leaves_4 : decode cX9_leaves 4 = .ok (.aload_n 0, 1) := by decide +kernel
theorem dX9_leaves_5 : decode cX9_leaves 5 = .ok (.getfield 68, 3) := by decide +kernel
theorem dX9_leaves_8 : decode cX9_leaves 8 = .ok (.iload_n 1, 1) := by decide +kernel
theorem dX9_leaves_9 : decode cX9_leaves 9 = .ok (.iaload, 1) := by decide +kernel
theorem dX9_leaves_10 : decode cX9_leaves 10 = .ok (.aload_n 0, 1) := by decide +kernel
theorem dX9_leaves_11 : decode cX9_leaves 11 = .ok (.getfield 148, 3) := by decide +kernel
theorem dX9_leaves_14 : decode cX9_leaves 14 = .ok (.iastore, 1) := by decide +kernel
theorem dX9_leaves_15 : decode cX9_leaves 15 = .ok (.aload_n 0, 1) := by decide +kernel
theorem dX9_leaves_16 : decode cX9_leaves 16 = .ok (.getfield 68, 3) := by decide +kernel
theorem dX9_leaves_19 : decode cX9_leaves 19 = .ok (.iload_n 1, 1) := by decide +kernel
theorem dX9_leaves_20 : decode cX9_leaves 20 = .ok (.iconst (-1), 1) := by decide +kernel
theorem dX9_leaves_21 : decode cX9_leaves 21 = .ok (.iastore, 1) := by decide +kernel
theorem dX9_leaves_22 : decode cX9_leaves 22 = .ok (.return_, 1) := by decide +kernel
theorem dX9_post_0 : decode cX9_post 0 = .ok (.aload_n 0, 1) := by decide +kernel
theorem dX9_post_1 : decode cX9_post 1 = .ok (.iload_n 1, 1) := by decide +kernel
theorem dX9_post_2 : decode cX9_post 2 = .ok (.invokevirtual 165, 3) := by decide +kernel
theorem dX9_post_5 : decode cX9_post 5 = .ok (.ifCond .eq 72, 3) := by decide +kernel
theorem dX9_post_8 : decode cX9_post 8 = .ok (.iload_n 2, 1) := by decide +kernel
theorem dX9_post_9 : decode cX9_post 9 = .ok (.iconst 0, 1) := by decide +kernel
theorem dX9_post_10 : decode cX9_post 10 = .ok (.aload_n 0, 1) := by decide +kernel
theorem dX9_post_11 : decode cX9_post 11 = .ok (.getfield 20, 3) := by decide +kernel
theorem dX9_post_14 : decode cX9_post 14 = .ok (.iload_n 1, 1) := by decide +kernel
theorem dX9_post_15 : decode cX9_post 15 = .ok (.iaload, 1) := by decide +kernel
theorem dX9_post_16 : decode cX9_post 16 = .ok (.iconst 1, 1) := by decide +kernel
theorem dX9_post_17 : decode cX9_post 17 = .ok (.isub, 1) := by decide +kernel
theorem dX9_post_18 : decode cX9_post 18 = .ok (.invokestatic 141, 3) := by decide +kernel
theorem dX9_post_21 : decode cX9_post 21 = .ok (.ifCond .eq 56, 3) := by decide +kernel
theorem dX9_post_24 : decode cX9_post 24 = .ok (.aload_n 0, 1) := by decide +kernel
theorem dX9_post_25 : decode cX9_post 25 = .ok (.iload_n 3, 1) := by decide +kernel
theorem dX9_post_26 : decode cX9_post 26 = .ok (.invokevirtual 185, 3) := by decide +kernel
theorem dX9_post_29 : decode cX9_post 29 = .ok (.ifCond .eq 48, 3) := by decide +kernel
theorem dX9_post_32 : decode cX9_post 32 = .ok (.aload_n 0, 1) := by decide +kernel
theorem dX9_post_33 : decode cX9_post 33 = .ok (.getfield 77, 3) := by decide +kernel
theorem dX9_post_36 : decode cX9_post 36 = .ok (.iload_n 3, 1) := by decide +kernel
theorem dX9_post_37 : decode cX9_post 37 = .ok (.iaload, 1) := by decide +kernel
theorem dX9_post_38 : decode cX9_post 38 = .ok (.iconst 5, 1) := by decide +kernel
theorem dX9_post_39 : decode cX9_post 39 = .ok (.if_icmp .ne 38, 3) := by decide +kernel
theorem dX9_post_42 : decode cX9_post 42 = .ok (.aload_n 0, 1) := by decide +kernel
theorem dX9_post_43 : decode cX9_post 43 = .ok (.getfield 92, 3) := by decide +kernel
theorem dX9_post_46 : decode cX9_post 46 = .ok (.iload_n 3, 1) := by decide +kernel
theorem dX9_post_47 : decode cX9_post 47 = .ok (.baload, 1) := by decide +kernel
theorem dX9_post_48 : decode cX9_post 48 = .ok (.ifCond .eq 29, 3) := by decide +kernel
theorem dX9_post_51 : decode cX9_post 51 = .ok (.aload_n 0, 1) := by decide +kernel
theorem dX9_post_52 : decode cX9_post 52 = .ok (.getfield 74, 3) := by decide +kernel
theorem dX9_post_55 : decode cX9_post 55 = .ok (.iload_n 3, 1) := by decide +kernel
theorem dX9_post_56 : decode cX9_post 56 = .ok (.iaload, 1) := by decide +kernel
theorem dX9_post_57 : decode cX9_post 57 = .ok (.iload_n 1, 1) := by decide +kernel
theorem dX9_post_58 : decode cX9_post 58 = .ok (.if_icmp .ne 19, 3) := by decide +kernel
theorem dX9_post_61 : decode cX9_post 61 = .ok (.aload_n 0, 1) := by decide +kernel
theorem dX9_post_62 : decode cX9_post 62 = .ok (.getfield 148, 3) := by decide +kernel
theorem dX9_post_65 : decode cX9_post 65 = .ok (.aload_n 0, 1) := by decide +kernel
theorem dX9_post_66 : decode cX9_post 66 = .ok (.getfield 101, 3) := by decide +kernel
theorem dX9_post_69 : decode cX9_post 69 = .ok (.iload_n 3, 1) := by decide +kernel
theorem dX9_post_70 : decode cX9_post 70 = .ok (.iaload, 1) := by decide +kernel
theorem dX9_post_71 : decode cX9_post 71 = .ok (.isub, 1) := by decide +kernel
theorem dX9_post_72 : decode cX9_post 72 = .ok (.bipush 20, 2) := by decide +kernel
theorem dX9_post_74 : decode cX9_post 74 = .ok (.if_icmp .ge 6, 3) := by decide +kernel
theorem dX9_post_77 : decode cX9_post 77 = .ok (.bipush (-2), 2) := by decide +kernel
theorem dX9_post_79 : decode cX9_post 79 = .ok (.ireturn, 1) := by decide +kernel
theorem dX9_post_80 : decode cX9_post 80 = .ok (.iconst 0, 1) := by decide +kernel
theorem dX9_post_81 : decode cX9_post 81 = .ok (.istore 4, 2) := by decide +kernel
theorem dX9_post_83 : decode cX9_post 83 = .ok (.iload 4, 2) := by decide +kernel
theorem dX9_post_85 : decode cX9_post 85 = .ok (.iconst 3, 1) := by decide +kernel
theorem dX9_post_86 : decode cX9_post 86 = .ok (.if_icmp .ge 27, 3) := by decide +kernel
theorem dX9_post_89 : decode cX9_post 89 = .ok (.aload_n 0, 1) := by decide +kernel
theorem dX9_post_90 : decode cX9_post 90 = .ok (.getfield 68, 3) := by decide +kernel
theorem dX9_post_93 : decode cX9_post 93 = .ok (.iconst 3, 1) := by decide +kernel
theorem dX9_post_94 : decode cX9_post 94 = .ok (.iload_n 1, 1) := by decide +kernel
theorem dX9_post_95 : decode cX9_post 95 = .ok (.imul, 1) := by decide +kernel
theorem dX9_post_96 : decode cX9_post 96 = .ok (.iload 4, 2) := by decide +kernel
theorem dX9_post_98 : decode cX9_post 98 = .ok (.iadd, 1) := by decide +kernel
theorem dX9_post_99 : decode cX9_post 99 = .ok (.iaload, 1) := by decide +kernel
theorem dX9_post_100 : decode cX9_post 100 = .ok (.iload_n 3, 1) := by decide +kernel
theorem dX9_post_101 : decode cX9_post 101 = .ok (.if_icmp .ne 6, 3) := by decide +kernel
theorem dX9_post_104 : decode cX9_post 104 = .ok (.bipush (-2), 2) := by decide +kernel
theorem dX9_post_106 : decode cX9_post 106 = .ok (.ireturn, 1) := by decide +kernel
theorem dX9_post_107 : decode cX9_post 107 = .ok (.iinc 4 1, 3) := by decide +kernel
theorem dX9_post_110 : decode cX9_post 110 = .ok (.goto (-27), 3) := by decide +kernel
theorem dX9_post_113 : decode cX9_post 113 = .ok (.iconst 3, 1) := by decide +kernel
theorem dX9_post_114 : decode cX9_post 114 = .ok (.iload_n 1, 1) := by decide +kernel
theorem dX9_post_115 : decode cX9_post 115 = .ok (.imul, 1) := by decide +kernel
theorem dX9_post_116 : decode cX9_post 116 = .ok (.iload_n 2, 1) := by decide +kernel
theorem dX9_post_117 : decode cX9_post 117 = .ok (.iadd, 1) := by decide +kernel
theorem dX9_post_118 : decode cX9_post 118 = .ok (.istore 4, 2) := by decide +kernel
theorem dX9_post_120 : decode cX9_post 120 = .ok (.aload_n 0, 1) := by decide +kernel
theorem dX9_post_121 : decode cX9_post 121 = .ok (.getfield 68, 3) := by decide +kernel
theorem dX9_post_124 : decode cX9_post 124 = .ok (.iload 4, 2) := by decide +kernel
theorem dX9_post_126 : decode cX9_post 126 = .ok (.iaload, 1) := by decide +kernel
theorem dX9_post_127 : decode cX9_post 127 = .ok (.istore 5, 2) := by decide +kernel
theorem dX9_post_129 : decode cX9_post 129 = .ok (.iload 5, 2) := by decide +kernel
theorem dX9_post_131 : decode cX9_post 131 = .ok (.iconst (-1), 1) := by decide +kernel
theorem dX9_post_132 : decode cX9_post 132 = .ok (.if_icmp .eq 9, 3) := by decide +kernel
theorem dX9_post_135 : decode cX9_post 135 = .ok (.aload_n 0, 1) := by decide +kernel
theorem dX9_post_136 : decode cX9_post 136 = .ok (.iload 4, 2) := by decide +kernel
theorem dX9_post_138 : decode cX9_post 138 = .ok (.invokevirtual 206, 3) := by decide +kernel
theorem dX9_post_141 : decode cX9_post 141 = .ok (.aload_n 0, 1) := by decide +kernel
theorem dX9_post_142 : decode cX9_post 142 = .ok (.getfield 68, 3) := by decide +kernel
theorem dX9_post_145 : decode cX9_post 145 = .ok (.iload 4, 2) := by decide +kernel
theorem dX9_post_147 : decode cX9_post 147 = .ok (.iload_n 3, 1) := by decide +kernel
theorem dX9_post_148 : decode cX9_post 148 = .ok (.iastore, 1) := by decide +kernel
theorem dX9_post_149 : decode cX9_post 149 = .ok (.aload_n 0, 1) := by decide +kernel
theorem dX9_post_150 : decode cX9_post 150 = .ok (.getfield 71, 3) := by decide +kernel
theorem dX9_post_153 : decode cX9_post 153 = .ok (.iload 4, 2) := by decide +kernel
theorem dX9_post_155 : decode cX9_post 155 = .ok (.aload_n 0, 1) := by decide +kernel
theorem dX9_post_156 : decode cX9_post 156 = .ok (.getfield 148, 3) := by decide +kernel
theorem dX9_post_159 : decode cX9_post 159 = .ok (.iastore, 1) := by decide +kernel
theorem dX9_post_160 : decode cX9_post 160 = .ok (.iload 5, 2) := by decide +kernel
theorem dX9_post_162 : decode cX9_post 162 = .ok (.ireturn, 1) := by decide +kernel
theorem dX9_watcher_0 : decode cX9_watcher 0 = .ok (.aload_n 0, 1) := by decide +kernel
theorem dX9_watcher_1 : decode cX9_watcher 1 = .ok (.iload_n 1, 1) := by decide +kernel
theorem dX9_watcher_2 : decode cX9_watcher 2 = .ok (.invokevirtual 165, 3) := by decide +kernel
theorem dX9_watcher_5 : decode cX9_watcher 5 = .ok (.ifCond .eq 32, 3) := by decide +kernel
theorem dX9_watcher_8 : decode cX9_watcher 8 = .ok (.iload_n 2, 1) := by decide +kernel
theorem dX9_watcher_9 : decode cX9_watcher 9 = .ok (.iconst 0, 1) := by decide +kernel
theorem dX9_watcher_10 : decode cX9_watcher 10 = .ok (.aload_n 0, 1) := by decide +kernel
theorem dX9_watcher_11 : decode cX9_watcher 11 = .ok (.getfield 20, 3) := by decide +kernel
theorem dX9_watcher_14 : decode cX9_watcher 14 = .ok (.iload_n 1, 1) := by decide +kernel
theorem dX9_watcher_15 : decode cX9_watcher 15 = .ok (.iaload, 1) := by decide +kernel
theorem dX9_watcher_16 : decode cX9_watcher 16 = .ok (.iconst 1, 1) := by decide +kernel
theorem dX9_watcher_17 : decode cX9_watcher 17 = .ok (.isub, 1) := by decide +kernel
theorem dX9_watcher_18 : decode cX9_watcher 18 = .ok (.invokestatic 141, 3) := by decide +kernel
theorem dX9_watcher_21 : decode cX9_watcher 21 = .ok (.ifCond .eq 16, 3) := by decide +kernel
theorem dX9_watcher_24 : decode cX9_watcher 24 = .ok (.aload_n 0, 1) := by decide +kernel
theorem dX9_watcher_25 : decode cX9_watcher 25 = .ok (.getfield 68, 3) := by decide +kernel
theorem dX9_watcher_28 : decode cX9_watcher 28 = .ok (.iconst 3, 1) := by decide +kernel
theorem dX9_watcher_29 : decode cX9_watcher 29 = .ok (.iload_n 1, 1) := by decide +kernel
theorem dX9_watcher_30 : decode cX9_watcher 30 = .ok (.imul, 1) := by decide +kernel
theorem dX9_watcher_31 : decode cX9_watcher 31 = .ok (.iload_n 2, 1) := by decide +kernel
theorem dX9_watcher_32 : decode cX9_watcher 32 = .ok (.iadd, 1) := by decide +kernel
theorem dX9_watcher_33 : decode cX9_watcher 33 = .ok (.iaload, 1) := by decide +kernel
theorem dX9_watcher_34 : decode cX9_watcher 34 = .ok (.goto 4, 3) := by decide +kernel
theorem dX9_watcher_37 : decode cX9_watcher 37 = .ok (.iconst (-1), 1) := by decide +kernel
theorem dX9_watcher_38 : decode cX9_watcher 38 = .ok (.ireturn, 1) := by decide +kernel
theorem dX9_lockerOf_0 : decode cX9_lockerOf 0 = .ok (.iconst 0, 1) := by decide +kernel
theorem dX9_lockerOf_1 : decode cX9_lockerOf 1 = .ok (.istore_n 2, 1) := by decide +kernel
theorem dX9_lockerOf_2 : decode cX9_lockerOf 2 = .ok (.iload_n 2, 1) := by decide +kernel
theorem dX9_lockerOf_3 : decode cX9_lockerOf 3 = .ok (.bipush 30, 2) := by decide +kernel
theorem dX9_lockerOf_5 : decode cX9_lockerOf 5 = .ok (.if_icmp .ge 21, 3) := by decide +kernel
theorem dX9_lockerOf_8 : decode cX9_lockerOf 8 = .ok (.aload_n 0, 1) := by decide +kernel
theorem dX9_lockerOf_9 : decode cX9_lockerOf 9 = .ok (.getfield 104, 3) := by decide +kernel
theorem dX9_lockerOf_12 : decode cX9_lockerOf 12 = .ok (.iload_n 2, 1) := by decide +kernel
theorem dX9_lockerOf_13 : decode cX9_lockerOf 13 = .ok (.iaload, 1) := by decide +kernel
theorem dX9_lockerOf_14 : decode cX9_lockerOf 14 = .ok (.iload_n 1, 1) := by decide +kernel
theorem dX9_lockerOf_15 : decode cX9_lockerOf 15 = .ok (.if_icmp .ne 5, 3) := by decide +kernel
theorem dX9_lockerOf_18 : decode cX9_lockerOf 18 = .ok (.iload_n 2, 1) := by decide +kernel
theorem dX9_lockerOf_19 : decode cX9_lockerOf 19 = .ok (.ireturn, 1) := by decide +kernel
theorem dX9_lockerOf_20 : decode cX9_lockerOf 20 = .ok (.iinc 2 1, 3) := by decide +kernel
theorem dX9_lockerOf_23 : decode cX9_lockerOf 23 = .ok (.goto (-21), 3) := by decide +kernel
theorem dX9_lockerOf_26 : decode cX9_lockerOf 26 = .ok (.iconst (-1), 1) := by decide +kernel
theorem dX9_lockerOf_27 : decode cX9_lockerOf 27 = .ok (.ireturn, 1) := by decide +kernel
theorem dX9_key_0 : decode cX9_key 0 = .ok (.aload_n 0, 1) := by decide +kernel
theorem dX9_key_1 : decode cX9_key 1 = .ok (.iload_n 1, 1) := by decide +kernel
theorem dX9_key_2 : decode cX9_key 2 = .ok (.invokevirtual 185, 3) := by decide +kernel
theorem dX9_key_5 : decode cX9_key 5 = .ok (.ifCond .eq 21, 3) := by decide +kernel
theorem dX9_key_8 : decode cX9_key 8 = .ok (.aload_n 0, 1) := by decide +kernel
theorem dX9_key_9 : decode cX9_key 9 = .ok (.getfield 92, 3) := by decide +kernel
theorem dX9_key_12 : decode cX9_key 12 = .ok (.iload_n 1, 1) := by decide +kernel
theorem dX9_key_13 : decode cX9_key 13 = .ok (.baload, 1) := by decide +kernel
theorem dX9_key_14 : decode cX9_key 14 = .ok (.ifCond .eq 12, 3) := by decide +kernel
theorem dX9_key_17 : decode cX9_key 17 = .ok (.aload_n 0, 1) := by decide +kernel
theorem dX9_key_18 : decode cX9_key 18 = .ok (.iload_n 1, 1) := by decide +kernel
theorem dX9_key_19 : decode cX9_key 19 = .ok (.invokevirtual 210, 3) := by decide +kernel
theorem dX9_key_22 : decode cX9_key 22 = .ok (.iconst (-1), 1) := by decide +kernel
theorem dX9_key_23 : decode cX9_key 23 = .ok (.if_icmp .eq 5, 3) := by decide +kernel
theorem dX9_key_26 : decode cX9_key 26 = .ok (.iconst (-1), 1) := by decide +kernel
theorem dX9_key_27 : decode cX9_key 27 = .ok (.ireturn, 1) := by decide +kernel
theorem dX9_key_28 : decode cX9_key 28 = .ok (.iconst 0, 1) := by decide +kernel
theorem dX9_key_29 : decode cX9_key 29 = .ok (.istore_n 2, 1) := by decide +kernel
theorem dX9_key_30 : decode cX9_key 30 = .ok (.iload_n 2, 1) := by decide +kernel
theorem dX9_key_31 : decode cX9_key 31 = .ok (.bipush 30, 2) := by decide +kernel
theorem dX9_key_33 : decode cX9_key 33 = .ok (.if_icmp .ge 41, 3) := by decide +kernel
theorem dX9_key_36 : decode cX9_key 36 = .ok (.aload_n 0, 1) := by decide +kernel
theorem dX9_key_37 : decode cX9_key 37 = .ok (.getfield 104, 3) := by decide +kernel
theorem dX9_key_40 : decode cX9_key 40 = .ok (.iload_n 2, 1) := by decide +kernel
theorem dX9_key_41 : decode cX9_key 41 = .ok (.iaload, 1) := by decide +kernel
theorem dX9_key_42 : decode cX9_key 42 = .ok (.iconst (-1), 1) := by decide +kernel
theorem dX9_key_43 : decode cX9_key 43 = .ok (.if_icmp .ne 25, 3) := by decide +kernel
theorem dX9_key_46 : decode cX9_key 46 = .ok (.aload_n 0, 1) := by decide +kernel
theorem dX9_key_47 : decode cX9_key 47 = .ok (.getfield 107, 3) := by decide +kernel
theorem dX9_key_50 : decode cX9_key 50 = .ok (.iload_n 2, 1) := by decide +kernel
theorem dX9_key_51 : decode cX9_key 51 = .ok (.iaload, 1) := by decide +kernel
theorem dX9_key_52 : decode cX9_key 52 = .ok (.iconst (-1), 1) := by decide +kernel
theorem dX9_key_53 : decode cX9_key 53 = .ok (.if_icmp .eq 6, 3) := by decide +kernel
theorem dX9_key_56 : decode cX9_key 56 = .ok (.goto 12, 3) := by decide +kernel
theorem dX9_key_59 : decode cX9_key 59 = .ok (.aload_n 0, 1) := by decide +kernel
theorem dX9_key_60 : decode cX9_key 60 = .ok (.getfield 104, 3) := by decide +kernel
theorem dX9_key_63 : decode cX9_key 63 = .ok (.iload_n 2, 1) := by decide +kernel
theorem dX9_key_64 : decode cX9_key 64 = .ok (.iload_n 1, 1) := by decide +kernel
theorem dX9_key_65 : decode cX9_key 65 = .ok (.iastore, 1) := by decide +kernel
theorem dX9_key_66 : decode cX9_key 66 = .ok (.iload_n 2, 1) := by decide +kernel
theorem dX9_key_67 : decode cX9_key 67 = .ok (.ireturn, 1) := by decide +kernel
theorem dX9_key_68 : decode cX9_key 68 = .ok (.iinc 2 1, 3) := by decide +kernel
theorem dX9_key_71 : decode cX9_key 71 = .ok (.goto (-41), 3) := by decide +kernel
theorem dX9_key_74 : decode cX9_key 74 = .ok (.iconst (-1), 1) := by decide +kernel
theorem dX9_key_75 : decode cX9_key 75 = .ok (.ireturn, 1) := by decide +kernel
theorem dX9_give_0 : decode cX9_give 0 = .ok (.aload_n 0, 1) := by decide +kernel
theorem dX9_give_1 : decode cX9_give 1 = .ok (.iload_n 1, 1) := by decide +kernel
theorem dX9_give_2 : decode cX9_give 2 = .ok (.invokevirtual 185, 3) := by decide +kernel
theorem dX9_give_5 : decode cX9_give 5 = .ok (.ifCond .eq 11, 3) := by decide +kernel
theorem dX9_give_8 : decode cX9_give 8 = .ok (.aload_n 0, 1) := by decide +kernel
theorem dX9_give_9 : decode cX9_give 9 = .ok (.iload_n 1, 1) := by decide +kernel
theorem dX9_give_10 : decode cX9_give 10 = .ok (.invokevirtual 210, 3) := by decide +kernel
theorem dX9_give_13 : decode cX9_give 13 = .ok (.goto 4, 3) := by decide +kernel
theorem dX9_give_16 : decode cX9_give 16 = .ok (.iconst (-1), 1) := by decide +kernel
theorem dX9_give_17 : decode cX9_give 17 = .ok (.istore_n 2, 1) := by decide +kernel
theorem dX9_give_18 : decode cX9_give 18 = .ok (.iload_n 2, 1) := by decide +kernel
theorem dX9_give_19 : decode cX9_give 19 = .ok (.iconst (-1), 1) := by decide +kernel
theorem dX9_give_20 : decode cX9_give 20 = .ok (.if_icmp .eq 10, 3) := by decide +kernel
theorem dX9_give_23 : decode cX9_give 23 = .ok (.aload_n 0, 1) := by decide +kernel
theorem dX9_give_24 : decode cX9_give 24 = .ok (.getfield 104, 3) := by decide +kernel
theorem dX9_give_27 : decode cX9_give 27 = .ok (.iload_n 2, 1) := by decide +kernel
theorem dX9_give_28 : decode cX9_give 28 = .ok (.iconst (-1), 1) := by decide +kernel
theorem dX9_give_29 : decode cX9_give 29 = .ok (.iastore, 1) := by decide +kernel
theorem dX9_give_30 : decode cX9_give 30 = .ok (.iload_n 2, 1) := by decide +kernel
theorem dX9_give_31 : decode cX9_give 31 = .ok (.ireturn, 1) := by decide +kernel
theorem dX9_mend_0 : decode cX9_mend 0 = .ok (.iload_n 1, 1) := by decide +kernel
theorem dX9_mend_1 : decode cX9_mend 1 = .ok (.iconst 0, 1) := by decide +kernel
theorem dX9_mend_2 : decode cX9_mend 2 = .ok (.bipush 29, 2) := by decide +kernel
theorem dX9_mend_4 : decode cX9_mend 4 = .ok (.invokestatic 141, 3) := by decide +kernel
theorem dX9_mend_7 : decode cX9_mend 7 = .ok (.ifCond .eq 13, 3) := by decide +kernel
theorem dX9_mend_10 : decode cX9_mend 10 = .ok (.aload_n 0, 1) := by decide +kernel
theorem dX9_mend_11 : decode cX9_mend 11 = .ok (.getfield 107, 3) := by decide +kernel
theorem dX9_mend_14 : decode cX9_mend 14 = .ok (.iload_n 1, 1) := by decide +kernel
theorem dX9_mend_15 : decode cX9_mend 15 = .ok (.iaload, 1) := by decide +kernel
theorem dX9_mend_16 : decode cX9_mend 16 = .ok (.iconst (-1), 1) := by decide +kernel
theorem dX9_mend_17 : decode cX9_mend 17 = .ok (.if_icmp .ne 5, 3) := by decide +kernel
theorem dX9_mend_20 : decode cX9_mend 20 = .ok (.iconst (-1), 1) := by decide +kernel
theorem dX9_mend_21 : decode cX9_mend 21 = .ok (.ireturn, 1) := by decide +kernel
theorem dX9_mend_22 : decode cX9_mend 22 = .ok (.aload_n 0, 1) := by decide +kernel
theorem dX9_mend_23 : decode cX9_mend 23 = .ok (.getfield 107, 3) := by decide +kernel
theorem dX9_mend_26 : decode cX9_mend 26 = .ok (.iload_n 1, 1) := by decide +kernel
theorem dX9_mend_27 : decode cX9_mend 27 = .ok (.iaload, 1) := by decide +kernel
theorem dX9_mend_28 : decode cX9_mend 28 = .ok (.istore_n 2, 1) := by decide +kernel
theorem dX9_mend_29 : decode cX9_mend 29 = .ok (.aload_n 0, 1) := by decide +kernel
theorem dX9_mend_30 : decode cX9_mend 30 = .ok (.getfield 107, 3) := by decide +kernel
theorem dX9_mend_33 : decode cX9_mend 33 = .ok (.iload_n 1, 1) := by decide +kernel
theorem dX9_mend_34 : decode cX9_mend 34 = .ok (.iconst (-1), 1) := by decide +kernel
theorem dX9_mend_35 : decode cX9_mend 35 = .ok (.iastore, 1) := by decide +kernel
theorem dX9_mend_36 : decode cX9_mend 36 = .ok (.iload_n 2, 1) := by decide +kernel
theorem dX9_mend_37 : decode cX9_mend 37 = .ok (.ireturn, 1) := by decide +kernel
theorem dX9_locker_0 : decode cX9_locker 0 = .ok (.iload_n 1, 1) := by decide +kernel
theorem dX9_locker_1 : decode cX9_locker 1 = .ok (.iconst 0, 1) := by decide +kernel
theorem dX9_locker_2 : decode cX9_locker 2 = .ok (.bipush 29, 2) := by decide +kernel
theorem dX9_locker_4 : decode cX9_locker 4 = .ok (.invokestatic 141, 3) := by decide +kernel
theorem dX9_locker_7 : decode cX9_locker 7 = .ok (.ifCond .ne 8, 3) := by decide +kernel
theorem dX9_locker_10 : decode cX9_locker 10 = .ok (.bipush (-3), 2) := by decide +kernel
theorem dX9_locker_12 : decode cX9_locker 12 = .ok (.goto 24, 3) := by decide +kernel
theorem dX9_locker_15 : decode cX9_locker 15 = .ok (.aload_n 0, 1) := by decide +kernel
theorem dX9_locker_16 : decode cX9_locker 16 = .ok (.getfield 107, 3) := by decide +kernel
theorem dX9_locker_19 : decode cX9_locker 19 = .ok (.iload_n 1, 1) := by decide +kernel
theorem dX9_locker_20 : decode cX9_locker 20 = .ok (.iaload, 1) := by decide +kernel
theorem dX9_locker_21 : decode cX9_locker 21 = .ok (.iconst (-1), 1) := by decide +kernel
theorem dX9_locker_22 : decode cX9_locker 22 = .ok (.if_icmp .eq 8, 3) := by decide +kernel
theorem dX9_locker_25 : decode cX9_locker 25 = .ok (.bipush (-2), 2) := by decide +kernel
theorem dX9_locker_27 : decode cX9_locker 27 = .ok (.goto 9, 3) := by decide +kernel
theorem dX9_locker_30 : decode cX9_locker 30 = .ok (.aload_n 0, 1) := by decide +kernel
theorem dX9_locker_31 : decode cX9_locker 31 = .ok (.getfield 104, 3) := by decide +kernel
theorem dX9_locker_34 : decode cX9_locker 34 = .ok (.iload_n 1, 1) := by decide +kernel
theorem dX9_locker_35 : decode cX9_locker 35 = .ok (.iaload, 1) := by decide +kernel
theorem dX9_locker_36 : decode cX9_locker 36 = .ok (.ireturn, 1) := by decide +kernel
theorem dX9_count_0 : decode cX9_count 0 = .ok (.aload_n 0, 1) := by decide +kernel
theorem dX9_count_1 : decode cX9_count 1 = .ok (.iload_n 1, 1) := by decide +kernel
theorem dX9_count_2 : decode cX9_count 2 = .ok (.invokevirtual 165, 3) := by decide +kernel
theorem dX9_count_5 : decode cX9_count 5 = .ok (.ifCond .ne 5, 3) := by decide +kernel
theorem dX9_count_8 : decode cX9_count 8 = .ok (.iconst (-1), 1) := by decide +kernel
theorem dX9_count_9 : decode cX9_count 9 = .ok (.ireturn, 1) := by decide +kernel
theorem dX9_count_10 : decode cX9_count 10 = .ok (.iconst 0, 1) := by decide +kernel
theorem dX9_count_11 : decode cX9_count 11 = .ok (.istore_n 3, 1) := by decide +kernel
theorem dX9_count_12 : decode cX9_count 12 = .ok (.iload_n 2, 1) := by decide +kernel
theorem dX9_count_13 : decode cX9_count 13 = .ok (.tableswitch 178 0 7 #[47, 53, 59, 66, 73, 80, 120, 163], 47) := by decide +kernel
theorem dX9_count_60 : decode cX9_count 60 = .ok (.aload_n 0, 1) := by decide +kernel
theorem dX9_count_61 : decode cX9_count 61 = .ok (.iload_n 1, 1) := by decide +kernel
theorem dX9_count_62 : decode cX9_count 62 = .ok (.invokevirtual 155, 3) := by decide +kernel
theorem dX9_count_65 : decode cX9_count 65 = .ok (.ireturn, 1) := by decide +kernel
theorem dX9_count_66 : decode cX9_count 66 = .ok (.aload_n 0, 1) := by decide +kernel
theorem dX9_count_67 : decode cX9_count 67 = .ok (.iload_n 1, 1) := by decide +kernel
theorem dX9_count_68 : decode cX9_count 68 = .ok (.invokevirtual 158, 3) := by decide +kernel
theorem dX9_count_71 : decode cX9_count 71 = .ok (.ireturn, 1) := by decide +kernel
theorem dX9_count_72 : decode cX9_count 72 = .ok (.aload_n 0, 1) := by decide +kernel
theorem dX9_count_73 : decode cX9_count 73 = .ok (.iload_n 1, 1) := by decide +kernel
theorem dX9_count_74 : decode cX9_count 74 = .ok (.iconst 0, 1) := by decide +kernel
theorem dX9_count_75 : decode cX9_count 75 = .ok (.invokevirtual 168, 3) := by decide +kernel
theorem dX9_count_78 : decode cX9_count 78 = .ok (.ireturn, 1) := by decide +kernel
theorem dX9_count_79 : decode cX9_count 79 = .ok (.aload_n 0, 1) := by decide +kernel
theorem dX9_count_80 : decode cX9_count 80 = .ok (.iload_n 1, 1) := by decide +kernel
theorem dX9_count_81 : decode cX9_count 81 = .ok (.iconst 1, 1) := by decide +kernel
theorem dX9_count_82 : decode cX9_count 82 = .ok (.invokevirtual 168, 3) := by decide +kernel
theorem dX9_count_85 : decode cX9_count 85 = .ok (.ireturn, 1) := by decide +kernel
theorem dX9_count_86 : decode cX9_count 86 = .ok (.aload_n 0, 1) := by decide +kernel
theorem dX9_count_87 : decode cX9_count 87 = .ok (.getfield 13, 3) := by decide +kernel
theorem dX9_count_90 : decode cX9_count 90 = .ok (.iload_n 1, 1) := by decide +kernel
theorem dX9_count_91 : decode cX9_count 91 = .ok (.iaload, 1) := by decide +kernel
theorem dX9_count_92 : decode cX9_count 92 = .ok (.ireturn, 1) := by decide +kernel
theorem dX9_count_93 : decode cX9_count 93 = .ok (.iconst 0, 1) := by decide +kernel
theorem dX9_count_94 : decode cX9_count 94 = .ok (.istore 4, 2) := by decide +kernel
theorem dX9_count_96 : decode cX9_count 96 = .ok (.iload 4, 2) := by decide +kernel
theorem dX9_count_98 : decode cX9_count 98 = .ok (.aload_n 0, 1) := by decide +kernel
theorem dX9_count_99 : decode cX9_count 99 = .ok (.getfield 17, 3) := by decide +kernel
theorem dX9_count_102 : decode cX9_count 102 = .ok (.iload_n 1, 1) := by decide +kernel
theorem dX9_count_103 : decode cX9_count 103 = .ok (.iaload, 1) := by decide +kernel
theorem dX9_count_104 : decode cX9_count 104 = .ok (.if_icmp .ge 27, 3) := by decide +kernel
theorem dX9_count_107 : decode cX9_count 107 = .ok (.iload_n 3, 1) := by decide +kernel
theorem dX9_count_108 : decode cX9_count 108 = .ok (.aload_n 0, 1) := by decide +kernel
theorem dX9_count_109 : decode cX9_count 109 = .ok (.iload_n 1, 1) := by decide +kernel
theorem dX9_count_110 : decode cX9_count 110 = .ok (.iload 4, 2) := by decide +kernel
theorem dX9_count_112 : decode cX9_count 112 = .ok (.invokevirtual 213, 3) := by decide +kernel
theorem dX9_count_115 : decode cX9_count 115 = .ok (.ifCond .eq 7, 3) := by decide +kernel
theorem dX9_count_118 : decode cX9_count 118 = .ok (.iconst 1, 1) := by decide +kernel
theorem dX9_count_119 : decode cX9_count 119 = .ok (.goto 4, 3) := by decide +kernel
theorem dX9_count_122 : decode cX9_count 122 = .ok (.iconst 0, 1) := by decide +kernel
theorem dX9_count_123 : decode cX9_count 123 = .ok (.iadd, 1) := by decide +kernel
theorem dX9_count_124 : decode cX9_count 124 = .ok (.istore_n 3, 1) := by decide +kernel
theorem dX9_count_125 : decode cX9_count 125 = .ok (.iinc 4 1, 3) := by decide +kernel
theorem dX9_count_128 : decode cX9_count 128 = .ok (.goto (-32), 3) := by decide +kernel
theorem dX9_count_131 : decode cX9_count 131 = .ok (.iload_n 3, 1) := by decide +kernel
theorem dX9_count_132 : decode cX9_count 132 = .ok (.ireturn, 1) := by decide +kernel
theorem dX9_count_133 : decode cX9_count 133 = .ok (.iconst 0, 1) := by decide +kernel
theorem dX9_count_134 : decode cX9_count 134 = .ok (.istore 4, 2) := by decide +kernel
theorem dX9_count_136 : decode cX9_count 136 = .ok (.iload 4, 2) := by decide +kernel
theorem dX9_count_138 : decode cX9_count 138 = .ok (.aload_n 0, 1) := by decide +kernel
theorem dX9_count_139 : decode cX9_count 139 = .ok (.getfield 20, 3) := by decide +kernel
theorem dX9_count_142 : decode cX9_count 142 = .ok (.iload_n 1, 1) := by decide +kernel
theorem dX9_count_143 : decode cX9_count 143 = .ok (.iaload, 1) := by decide +kernel
theorem dX9_count_144 : decode cX9_count 144 = .ok (.if_icmp .ge 30, 3) := by decide +kernel
theorem dX9_count_147 : decode cX9_count 147 = .ok (.iload_n 3, 1) := by decide +kernel
theorem dX9_count_148 : decode cX9_count 148 = .ok (.aload_n 0, 1) := by decide +kernel
theorem dX9_count_149 : decode cX9_count 149 = .ok (.iconst 3, 1) := by decide +kernel
theorem dX9_count_150 : decode cX9_count 150 = .ok (.iload_n 1, 1) := by decide +kernel
theorem dX9_count_151 : decode cX9_count 151 = .ok (.imul, 1) := by decide +kernel
theorem dX9_count_152 : decode cX9_count 152 = .ok (.iload 4, 2) := by decide +kernel
theorem dX9_count_154 : decode cX9_count 154 = .ok (.iadd, 1) := by decide +kernel
theorem dX9_count_155 : decode cX9_count 155 = .ok (.invokevirtual 175, 3) := by decide +kernel
theorem dX9_count_158 : decode cX9_count 158 = .ok (.ifCond .eq 7, 3) := by decide +kernel
theorem dX9_count_161 : decode cX9_count 161 = .ok (.iconst 1, 1) := by decide +kernel
theorem dX9_count_162 : decode cX9_count 162 = .ok (.goto 4, 3) := by decide +kernel
theorem dX9_count_165 : decode cX9_count 165 = .ok (.iconst 0, 1) := by decide +kernel
theorem dX9_count_166 : decode cX9_count 166 = .ok (.iadd, 1) := by decide +kernel
theorem dX9_count_167 : decode cX9_count 167 = .ok (.istore_n 3, 1) := by decide +kernel
theorem dX9_count_168 : decode cX9_count 168 = .ok (.iinc 4 1, 3) := by decide +kernel
theorem dX9_count_171 : decode cX9_count 171 = .ok (.goto (-35), 3) := by decide +kernel
theorem dX9_count_174 : decode cX9_count 174 = .ok (.iload_n 3, 1) := by decide +kernel
theorem dX9_count_175 : decode cX9_count 175 = .ok (.ireturn, 1) := by decide +kernel
theorem dX9_count_176 : decode cX9_count 176 = .ok (.aload_n 0, 1) := by decide +kernel
theorem dX9_count_177 : decode cX9_count 177 = .ok (.getfield 38, 3) := by decide +kernel
theorem dX9_count_180 : decode cX9_count 180 = .ok (.iload_n 1, 1) := by decide +kernel
theorem dX9_count_181 : decode cX9_count 181 = .ok (.baload, 1) := by decide +kernel
theorem dX9_count_182 : decode cX9_count 182 = .ok (.ifCond .eq 7, 3) := by decide +kernel
theorem dX9_count_185 : decode cX9_count 185 = .ok (.iconst 1, 1) := by decide +kernel
theorem dX9_count_186 : decode cX9_count 186 = .ok (.goto 4, 3) := by decide +kernel
theorem dX9_count_189 : decode cX9_count 189 = .ok (.iconst 0, 1) := by decide +kernel
theorem dX9_count_190 : decode cX9_count 190 = .ok (.ireturn, 1) := by decide +kernel
theorem dX9_count_191 : decode cX9_count 191 = .ok (.iconst (-1), 1) := by decide +kernel
theorem dX9_count_192 : decode cX9_count 192 = .ok (.ireturn, 1) := by decide +kernel
theorem dX9_isFree_0 : decode cX9_isFree 0 = .ok (.iconst 0, 1) := by decide +kernel
theorem dX9_isFree_1 : decode cX9_isFree 1 = .ok (.istore_n 3, 1) := by decide +kernel
theorem dX9_isFree_2 : decode cX9_isFree 2 = .ok (.iload_n 3, 1) := by decide +kernel
theorem dX9_isFree_3 : decode cX9_isFree 3 = .ok (.aload_n 0, 1) := by decide +kernel
theorem dX9_isFree_4 : decode cX9_isFree 4 = .ok (.getfield 172, 3) := by decide +kernel
theorem dX9_isFree_7 : decode cX9_isFree 7 = .ok (.if_icmp .ge 43, 3) := by decide +kernel
theorem dX9_isFree_10 : decode cX9_isFree 10 = .ok (.aload_n 0, 1) := by decide +kernel
theorem dX9_isFree_11 : decode cX9_isFree 11 = .ok (.getfield 114, 3) := by decide +kernel
theorem dX9_isFree_14 : decode cX9_isFree 14 = .ok (.iload_n 3, 1) := by decide +kernel
theorem dX9_isFree_15 : decode cX9_isFree 15 = .ok (.iaload, 1) := by decide +kernel
theorem dX9_isFree_16 : decode cX9_isFree 16 = .ok (.iload_n 1, 1) := by decide +kernel
theorem dX9_isFree_17 : decode cX9_isFree 17 = .ok (.if_icmp .ne 27, 3) := by decide +kernel
theorem dX9_isFree_20 : decode cX9_isFree 20 = .ok (.aload_n 0, 1) := by decide +kernel
theorem dX9_isFree_21 : decode cX9_isFree 21 = .ok (.iload_n 3, 1) := by decide +kernel
theorem dX9_isFree_22 : decode cX9_isFree 22 = .ok (.invokevirtual 191, 3) := by decide +kernel
theorem dX9_isFree_25 : decode cX9_isFree 25 = .ok (.ifCond .eq 19, 3) := by decide +kernel
theorem dX9_isFree_28 : decode cX9_isFree 28 = .ok (.aload_n 0, 1) := by decide +kernel
theorem dX9_isFree_29 : decode cX9_isFree 29 = .ok (.getfield 117, 3) := by decide +kernel
theorem dX9_isFree_32 : decode cX9_isFree 32 = .ok (.iload_n 3, 1) := by decide +kernel
theorem dX9_isFree_33 : decode cX9_isFree 33 = .ok (.iaload, 1) := by decide +kernel
theorem dX9_isFree_34 : decode cX9_isFree 34 = .ok (.iload_n 2, 1) := by decide +kernel
theorem dX9_isFree_35 : decode cX9_isFree 35 = .ok (.ishr, 1) := by decide +kernel
theorem dX9_isFree_36 : decode cX9_isFree 36 = .ok (.iconst 1, 1) := by decide +kernel
theorem dX9_isFree_37 : decode cX9_isFree 37 = .ok (.iand, 1) := by decide +kernel
theorem dX9_isFree_38 : decode cX9_isFree 38 = .ok (.iconst 1, 1) := by decide +kernel
theorem dX9_isFree_39 : decode cX9_isFree 39 = .ok (.if_icmp .ne 5, 3) := by decide +kernel
theorem dX9_isFree_42 : decode cX9_isFree 42 = .ok (.iconst 0, 1) := by decide +kernel
theorem dX9_isFree_43 : decode cX9_isFree 43 = .ok (.ireturn, 1) := by decide +kernel
theorem dX9_isFree_44 : decode cX9_isFree 44 = .ok (.iinc 3 1, 3) := by decide +kernel
theorem dX9_isFree_47 : decode cX9_isFree 47 = .ok (.goto (-45), 3) := by decide +kernel
theorem dX9_isFree_50 : decode cX9_isFree 50 = .ok (.iconst 1, 1) := by decide +kernel
theorem dX9_isFree_51 : decode cX9_isFree 51 = .ok (.ireturn, 1) := by decide +kernel
theorem dX9_told_0 : decode cX9_told 0 = .ok (.aload_n 0, 1) := by decide +kernel
theorem dX9_told_1 : decode cX9_told 1 = .ok (.iload_n 1, 1) := by decide +kernel
theorem dX9_told_2 : decode cX9_told 2 = .ok (.invokevirtual 185, 3) := by decide +kernel
theorem dX9_told_5 : decode cX9_told 5 = .ok (.ifCond .ne 5, 3) := by decide +kernel
theorem dX9_told_8 : decode cX9_told 8 = .ok (.iconst (-1), 1) := by decide +kernel
theorem dX9_told_9 : decode cX9_told 9 = .ok (.ireturn, 1) := by decide +kernel
theorem dX9_told_10 : decode cX9_told 10 = .ok (.iload_n 2, 1) := by decide +kernel
theorem dX9_told_11 : decode cX9_told 11 = .ok (.tableswitch 121 0 7 #[45, 52, 59, 66, 81, 87, 94, 101], 45) := by decide +kernel
theorem dX9_told_56 : decode cX9_told 56 = .ok (.aload_n 0, 1) := by decide +kernel
theorem dX9_told_57 : decode cX9_told 57 = .ok (.getfield 74, 3) := by decide +kernel
theorem dX9_told_60 : decode cX9_told 60 = .ok (.iload_n 1, 1) := by decide +kernel
theorem dX9_told_61 : decode cX9_told 61 = .ok (.iaload, 1) := by decide +kernel
theorem dX9_told_62 : decode cX9_told 62 = .ok (.ireturn, 1) := by decide +kernel
theorem dX9_told_63 : decode cX9_told 63 = .ok (.aload_n 0, 1) := by decide +kernel
theorem dX9_told_64 : decode cX9_told 64 = .ok (.getfield 77, 3) := by decide +kernel
theorem dX9_told_67 : decode cX9_told 67 = .ok (.iload_n 1, 1) := by decide +kernel
theorem dX9_told_68 : decode cX9_told 68 = .ok (.iaload, 1) := by decide +kernel
theorem dX9_told_69 : decode cX9_told 69 = .ok (.ireturn, 1) := by decide +kernel
theorem dX9_told_70 : decode cX9_told 70 = .ok (.aload_n 0, 1) := by decide +kernel
theorem dX9_told_71 : decode cX9_told 71 = .ok (.getfield 86, 3) := by decide +kernel
theorem dX9_told_74 : decode cX9_told 74 = .ok (.iload_n 1, 1) := by decide +kernel
theorem dX9_told_75 : decode cX9_told 75 = .ok (.iaload, 1) := by decide +kernel
theorem dX9_told_76 : decode cX9_told 76 = .ok (.ireturn, 1) := by decide +kernel
theorem dX9_told_77 : decode cX9_told 77 = .ok (.aload_n 0, 1) := by decide +kernel
theorem dX9_told_78 : decode cX9_told 78 = .ok (.getfield 92, 3) := by decide +kernel
theorem dX9_told_81 : decode cX9_told 81 = .ok (.iload_n 1, 1) := by decide +kernel
theorem dX9_told_82 : decode cX9_told 82 = .ok (.baload, 1) := by decide +kernel
theorem dX9_told_83 : decode cX9_told 83 = .ok (.ifCond .eq 7, 3) := by decide +kernel
theorem dX9_told_86 : decode cX9_told 86 = .ok (.iconst 1, 1) := by decide +kernel
theorem dX9_told_87 : decode cX9_told 87 = .ok (.goto 4, 3) := by decide +kernel
theorem dX9_told_90 : decode cX9_told 90 = .ok (.iconst 0, 1) := by decide +kernel
theorem dX9_told_91 : decode cX9_told 91 = .ok (.ireturn, 1) := by decide +kernel
theorem dX9_told_92 : decode cX9_told 92 = .ok (.aload_n 0, 1) := by decide +kernel
theorem dX9_told_93 : decode cX9_told 93 = .ok (.iload_n 1, 1) := by decide +kernel
theorem dX9_told_94 : decode cX9_told 94 = .ok (.invokevirtual 210, 3) := by decide +kernel
theorem dX9_told_97 : decode cX9_told 97 = .ok (.ireturn, 1) := by decide +kernel
theorem dX9_told_98 : decode cX9_told 98 = .ok (.aload_n 0, 1) := by decide +kernel
theorem dX9_told_99 : decode cX9_told 99 = .ok (.getfield 95, 3) := by decide +kernel
theorem dX9_told_102 : decode cX9_told 102 = .ok (.iload_n 1, 1) := by decide +kernel
theorem dX9_told_103 : decode cX9_told 103 = .ok (.iaload, 1) := by decide +kernel
theorem dX9_told_104 : decode cX9_told 104 = .ok (.ireturn, 1) := by decide +kernel
theorem dX9_told_105 : decode cX9_told 105 = .ok (.aload_n 0, 1) := by decide +kernel
theorem dX9_told_106 : decode cX9_told 106 = .ok (.getfield 98, 3) := by decide +kernel
theorem dX9_told_109 : decode cX9_told 109 = .ok (.iload_n 1, 1) := by decide +kernel
theorem dX9_told_110 : decode cX9_told 110 = .ok (.iaload, 1) := by decide +kernel
theorem dX9_told_111 : decode cX9_told 111 = .ok (.ireturn, 1) := by decide +kernel
theorem dX9_told_112 : decode cX9_told 112 = .ok (.aload_n 0, 1) := by decide +kernel
theorem dX9_told_113 : decode cX9_told 113 = .ok (.getfield 92, 3) := by decide +kernel
theorem dX9_told_116 : decode cX9_told 116 = .ok (.iload_n 1, 1) := by decide +kernel
theorem dX9_told_117 : decode cX9_told 117 = .ok (.baload, 1) := by decide +kernel
theorem dX9_told_118 : decode cX9_told 118 = .ok (.ifCond .eq 12, 3) := by decide +kernel
theorem dX9_told_121 : decode cX9_told 121 = .ok (.aload_n 0, 1) := by decide +kernel
theorem dX9_told_122 : decode cX9_told 122 = .ok (.iload_n 1, 1) := by decide +kernel
theorem dX9_told_123 : decode cX9_told 123 = .ok (.invokevirtual 203, 3) := by decide +kernel
theorem dX9_told_126 : decode cX9_told 126 = .ok (.ineg, 1) := by decide +kernel
theorem dX9_told_127 : decode cX9_told 127 = .ok (.goto 4, 3) := by decide +kernel
theorem dX9_told_130 : decode cX9_told 130 = .ok (.iconst 0, 1) := by decide +kernel
theorem dX9_told_131 : decode cX9_told 131 = .ok (.ireturn, 1) := by decide +kernel
theorem dX9_told_132 : decode cX9_told 132 = .ok (.iconst (-1), 1) := by decide +kernel
theorem dX9_told_133 : decode cX9_told 133 = .ok (.ireturn, 1) := by decide +kernel
theorem dX9_pump_0 : decode cX9_pump 0 = .ok (.aload_n 0, 1) := by decide +kernel
theorem dX9_pump_1 : decode cX9_pump 1 = .ok (.iload_n 1, 1) := by decide +kernel
theorem dX9_pump_2 : decode cX9_pump 2 = .ok (.invokevirtual 165, 3) := by decide +kernel
theorem dX9_pump_5 : decode cX9_pump 5 = .ok (.ifCond .eq 24, 3) := by decide +kernel
theorem dX9_pump_8 : decode cX9_pump 8 = .ok (.iload_n 2, 1) := by decide +kernel
theorem dX9_pump_9 : decode cX9_pump 9 = .ok (.iconst 1, 1) := by decide +kernel
theorem dX9_pump_10 : decode cX9_pump 10 = .ok (.ldc 179, 2) := by decide +kernel
theorem dX9_pump_12 : decode cX9_pump 12 = .ok (.invokestatic 141, 3) := by decide +kernel
theorem dX9_pump_15 : decode cX9_pump 15 = .ok (.ifCond .eq 14, 3) := by decide +kernel
theorem dX9_pump_18 : decode cX9_pump 18 = .ok (.iload_n 3, 1) := by decide +kernel
theorem dX9_pump_19 : decode cX9_pump 19 = .ok (.iconst 1, 1) := by decide +kernel
theorem dX9_pump_20 : decode cX9_pump 20 = .ok (.sipush 10000, 3) := by decide +kernel
theorem dX9_pump_23 : decode cX9_pump 23 = .ok (.invokestatic 141, 3) := by decide +kernel
theorem dX9_pump_26 : decode cX9_pump 26 = .ok (.ifCond .ne 5, 3) := by decide +kernel
theorem dX9_pump_29 : decode cX9_pump 29 = .ok (.iconst 0, 1) := by decide +kernel
theorem dX9_pump_30 : decode cX9_pump 30 = .ok (.ireturn, 1) := by decide +kernel
theorem dX9_pump_31 : decode cX9_pump 31 = .ok (.aload_n 0, 1) := by decide +kernel
theorem dX9_pump_32 : decode cX9_pump 32 = .ok (.getfield 129, 3) := by decide +kernel
theorem dX9_pump_35 : decode cX9_pump 35 = .ok (.iload_n 1, 1) := by decide +kernel
theorem dX9_pump_36 : decode cX9_pump 36 = .ok (.iload_n 2, 1) := by decide +kernel
theorem dX9_pump_37 : decode cX9_pump 37 = .ok (.iastore, 1) := by decide +kernel
theorem dX9_pump_38 : decode cX9_pump 38 = .ok (.aload_n 0, 1) := by decide +kernel
theorem dX9_pump_39 : decode cX9_pump 39 = .ok (.getfield 132, 3) := by decide +kernel
theorem dX9_pump_42 : decode cX9_pump 42 = .ok (.iload_n 1, 1) := by decide +kernel
theorem dX9_pump_43 : decode cX9_pump 43 = .ok (.iload_n 3, 1) := by decide +kernel
theorem dX9_pump_44 : decode cX9_pump 44 = .ok (.iastore, 1) := by decide +kernel
theorem dX9_pump_45 : decode cX9_pump 45 = .ok (.iconst 1, 1) := by decide +kernel
theorem dX9_pump_46 : decode cX9_pump 46 = .ok (.ireturn, 1) := by decide +kernel
theorem dX9_price_0 : decode cX9_price 0 = .ok (.iload_n 1, 1) := by decide +kernel
theorem dX9_price_1 : decode cX9_price 1 = .ok (.iconst 0, 1) := by decide +kernel
theorem dX9_price_2 : decode cX9_price 2 = .ok (.bipush 23, 2) := by decide +kernel
theorem dX9_price_4 : decode cX9_price 4 = .ok (.invokestatic 141, 3) := by decide +kernel
theorem dX9_price_7 : decode cX9_price 7 = .ok (.ifCond .eq 14, 3) := by decide +kernel
theorem dX9_price_10 : decode cX9_price 10 = .ok (.iload_n 2, 1) := by decide +kernel
theorem dX9_price_11 : decode cX9_price 11 = .ok (.iconst 0, 1) := by decide +kernel
theorem dX9_price_12 : decode cX9_price 12 = .ok (.sipush 10000, 3) := by decide +kernel
theorem dX9_price_15 : decode cX9_price 15 = .ok (.invokestatic 141, 3) := by decide +kernel
theorem dX9_price_18 : decode cX9_price 18 = .ok (.ifCond .ne 5, 3) := by decide +kernel
theorem dX9_price_21 : decode cX9_price 21 = .ok (.iconst 0, 1) := by decide +kernel
theorem dX9_price_22 : decode cX9_price 22 = .ok (.ireturn, 1) := by decide +kernel
theorem dX9_price_23 : decode cX9_price 23 = .ok (.aload_n 0, 1) := by decide +kernel
theorem dX9_price_24 : decode cX9_price 24 = .ok (.getfield 135, 3) := by decide +kernel
theorem dX9_price_27 : decode cX9_price 27 = .ok (.iload_n 1, 1) := by decide +kernel
theorem dX9_price_28 : decode cX9_price 28 = .ok (.iload_n 2, 1) := by decide +kernel
theorem dX9_price_29 : decode cX9_price 29 = .ok (.iastore, 1) := by decide +kernel
theorem dX9_price_30 : decode cX9_price 30 = .ok (.iconst 1, 1) := by decide +kernel
theorem dX9_price_31 : decode cX9_price 31 = .ok (.ireturn, 1) := by decide +kernel
theorem dX9_turn_0 : decode cX9_turn 0 = .ok (.aload_n 0, 1) := by decide +kernel
theorem dX9_turn_1 : decode cX9_turn 1 = .ok (.iload_n 1, 1) := by decide +kernel
theorem dX9_turn_2 : decode cX9_turn 2 = .ok (.invokevirtual 165, 3) := by decide +kernel
theorem dX9_turn_5 : decode cX9_turn 5 = .ok (.ifCond .eq 23, 3) := by decide +kernel
theorem dX9_turn_8 : decode cX9_turn 8 = .ok (.aload_n 0, 1) := by decide +kernel
theorem dX9_turn_9 : decode cX9_turn 9 = .ok (.getfield 129, 3) := by decide +kernel
theorem dX9_turn_12 : decode cX9_turn 12 = .ok (.iload_n 1, 1) := by decide +kernel
theorem dX9_turn_13 : decode cX9_turn 13 = .ok (.iaload, 1) := by decide +kernel
theorem dX9_turn_14 : decode cX9_turn 14 = .ok (.ifCond .eq 14, 3) := by decide +kernel
theorem dX9_turn_17 : decode cX9_turn 17 = .ok (.iload_n 2, 1) := by decide +kernel
theorem dX9_turn_18 : decode cX9_turn 18 = .ok (.iconst 0, 1) := by decide +kernel
theorem dX9_turn_19 : decode cX9_turn 19 = .ok (.sipush 1000, 3) := by decide +kernel
theorem dX9_turn_22 : decode cX9_turn 22 = .ok (.invokestatic 141, 3) := by decide +kernel
theorem dX9_turn_25 : decode cX9_turn 25 = .ok (.ifCond .ne 5, 3) := by decide +kernel
theorem dX9_turn_28 : decode cX9_turn 28 = .ok (.iconst (-1), 1) := by decide +kernel
theorem dX9_turn_29 : decode cX9_turn 29 = .ok (.ireturn, 1) := by decide +kernel
theorem dX9_turn_30 : decode cX9_turn 30 = .ok (.aload_n 0, 1) := by decide +kernel
theorem dX9_turn_31 : decode cX9_turn 31 = .ok (.getfield 129, 3) := by decide +kernel
theorem dX9_turn_34 : decode cX9_turn 34 = .ok (.iload_n 1, 1) := by decide +kernel
theorem dX9_turn_35 : decode cX9_turn 35 = .ok (.iaload, 1) := by decide +kernel
theorem dX9_turn_36 : decode cX9_turn 36 = .ok (.i2l, 1) := by decide +kernel
theorem dX9_turn_37 : decode cX9_turn 37 = .ok (.bipush 100, 2) := by decide +kernel
theorem dX9_turn_39 : decode cX9_turn 39 = .ok (.iload_n 2, 1) := by decide +kernel
theorem dX9_turn_40 : decode cX9_turn 40 = .ok (.iadd, 1) := by decide +kernel
theorem dX9_turn_41 : decode cX9_turn 41 = .ok (.i2l, 1) := by decide +kernel
theorem dX9_turn_42 : decode cX9_turn 42 = .ok (.lmul, 1) := by decide +kernel
theorem dX9_turn_43 : decode cX9_turn 43 = .ok (.lstore_n 3, 1) := by decide +kernel
theorem dX9_turn_44 : decode cX9_turn 44 = .ok (.iconst 0, 1) := by decide +kernel
theorem dX9_turn_45 : decode cX9_turn 45 = .ok (.istore 5, 2) := by decide +kernel
theorem dX9_turn_47 : decode cX9_turn 47 = .ok (.iload 5, 2) := by decide +kernel
theorem dX9_turn_49 : decode cX9_turn 49 = .ok (.bipush 24, 2) := by decide +kernel
theorem dX9_turn_51 : decode cX9_turn 51 = .ok (.if_icmp .gt 29, 3) := by decide +kernel
theorem dX9_turn_54 : decode cX9_turn 54 = .ok (.ldc2_w 217, 3) := by decide +kernel
theorem dX9_turn_57 : decode cX9_turn 57 = .ok (.aload_n 0, 1) := by decide +kernel
theorem dX9_turn_58 : decode cX9_turn 58 = .ok (.getfield 132, 3) := by decide +kernel
theorem dX9_turn_61 : decode cX9_turn 61 = .ok (.iload_n 1, 1) := by decide +kernel
theorem dX9_turn_62 : decode cX9_turn 62 = .ok (.iaload, 1) := by decide +kernel
theorem dX9_turn_63 : decode cX9_turn 63 = .ok (.i2l, 1) := by decide +kernel
theorem dX9_turn_64 : decode cX9_turn 64 = .ok (.lmul, 1) := by decide +kernel
theorem dX9_turn_65 : decode cX9_turn 65 = .ok (.iload 5, 2) := by decide +kernel
theorem dX9_turn_67 : decode cX9_turn 67 = .ok (.i2l, 1) := by decide +kernel
theorem dX9_turn_68 : decode cX9_turn 68 = .ok (.lmul, 1) := by decide +kernel
theorem dX9_turn_69 : decode cX9_turn 69 = .ok (.lload_n 3, 1) := by decide +kernel
theorem dX9_turn_70 : decode cX9_turn 70 = .ok (.lcmp, 1) := by decide +kernel
theorem dX9_turn_71 : decode cX9_turn 71 = .ok (.ifCond .ge 9, 3) := by decide +kernel
theorem dX9_turn_74 : decode cX9_turn 74 = .ok (.iinc 5 1, 3) := by decide +kernel
theorem dX9_turn_77 : decode cX9_turn 77 = .ok (.goto (-30), 3) := by decide +kernel
theorem dX9_turn_80 : decode cX9_turn 80 = .ok (.iload 5, 2) := by decide +kernel
theorem dX9_turn_82 : decode cX9_turn 82 = .ok (.bipush 24, 2) := by decide +kernel
theorem dX9_turn_84 : decode cX9_turn 84 = .ok (.if_icmp .le 6, 3) := by decide +kernel
theorem dX9_turn_87 : decode cX9_turn 87 = .ok (.bipush 25, 2) := by decide +kernel
theorem dX9_turn_89 : decode cX9_turn 89 = .ok (.ireturn, 1) := by decide +kernel
theorem dX9_turn_90 : decode cX9_turn 90 = .ok (.aload_n 0, 1) := by decide +kernel
theorem dX9_turn_91 : decode cX9_turn 91 = .ok (.iconst 1, 1) := by decide +kernel
theorem dX9_turn_92 : decode cX9_turn 92 = .ok (.putfield 219, 3) := by decide +kernel
theorem dX9_turn_95 : decode cX9_turn 95 = .ok (.aload_n 0, 1) := by decide +kernel
theorem dX9_turn_96 : decode cX9_turn 96 = .ok (.iconst 0, 1) := by decide +kernel
theorem dX9_turn_97 : decode cX9_turn 97 = .ok (.putfield 223, 3) := by decide +kernel
theorem dX9_turn_100 : decode cX9_turn 100 = .ok (.iconst 0, 1) := by decide +kernel
theorem dX9_turn_101 : decode cX9_turn 101 = .ok (.istore 6, 2) := by decide +kernel
theorem dX9_turn_103 : decode cX9_turn 103 = .ok (.iload 6, 2) := by decide +kernel
theorem dX9_turn_105 : decode cX9_turn 105 = .ok (.bipush 24, 2) := by decide +kernel
theorem dX9_turn_107 : decode cX9_turn 107 = .ok (.if_icmp .ge 17, 3) := by decide +kernel
theorem dX9_turn_110 : decode cX9_turn 110 = .ok (.aload_n 0, 1) := by decide +kernel
theorem dX9_turn_111 : decode cX9_turn 111 = .ok (.getfield 138, 3) := by decide +kernel
theorem dX9_turn_114 : decode cX9_turn 114 = .ok (.iload 6, 2) := by decide +kernel
theorem dX9_turn_116 : decode cX9_turn 116 = .ok (.iconst 0, 1) := by decide +kernel
theorem dX9_turn_117 : decode cX9_turn 117 = .ok (.bastore, 1) := by decide +kernel
theorem dX9_turn_118 : decode cX9_turn 118 = .ok (.iinc 6 1, 3) := by decide +kernel
theorem dX9_turn_121 : decode cX9_turn 121 = .ok (.goto (-18), 3) := by decide +kernel
theorem dX9_turn_124 : decode cX9_turn 124 = .ok (.iconst 0, 1) := by decide +kernel
theorem dX9_turn_125 : decode cX9_turn 125 = .ok (.istore 6, 2) := by decide +kernel
theorem dX9_turn_127 : decode cX9_turn 127 = .ok (.iload 6, 2) := by decide +kernel
theorem dX9_turn_129 : decode cX9_turn 129 = .ok (.iload 5, 2) := by decide +kernel
theorem dX9_turn_131 : decode cX9_turn 131 = .ok (.if_icmp .ge 89, 3) := by decide +kernel
theorem dX9_turn_134 : decode cX9_turn 134 = .ok (.iconst (-1), 1) := by decide +kernel
theorem dX9_turn_135 : decode cX9_turn 135 = .ok (.istore 7, 2) := by decide +kernel
theorem dX9_turn_137 : decode cX9_turn 137 = .ok (.iconst 0, 1) := by decide +kernel
theorem dX9_turn_138 : decode cX9_turn 138 = .ok (.istore 8, 2) := by decide +kernel
theorem dX9_turn_140 : decode cX9_turn 140 = .ok (.iload 8, 2) := by decide +kernel
theorem dX9_turn_142 : decode cX9_turn 142 = .ok (.bipush 24, 2) := by decide +kernel
theorem dX9_turn_144 : decode cX9_turn 144 = .ok (.if_icmp .ge 46, 3) := by decide +kernel
theorem dX9_turn_147 : decode cX9_turn 147 = .ok (.aload_n 0, 1) := by decide +kernel
theorem dX9_turn_148 : decode cX9_turn 148 = .ok (.getfield 138, 3) := by decide +kernel
theorem dX9_turn_151 : decode cX9_turn 151 = .ok (.iload 8, 2) := by decide +kernel
theorem dX9_turn_153 : decode cX9_turn 153 = .ok (.baload, 1) := by decide +kernel
theorem dX9_turn_154 : decode cX9_turn 154 = .ok (.ifCond .ne 30, 3) := by decide +kernel
theorem dX9_turn_157 : decode cX9_turn 157 = .ok (.iload 7, 2) := by decide +kernel
theorem dX9_turn_159 : decode cX9_turn 159 = .ok (.iconst (-1), 1) := by decide +kernel
theorem dX9_turn_160 : decode cX9_turn 160 = .ok (.if_icmp .eq 20, 3) := by decide +kernel
theorem dX9_turn_163 : decode cX9_turn 163 = .ok (.aload_n 0, 1) := by decide +kernel
theorem dX9_turn_164 : decode cX9_turn 164 = .ok (.getfield 135, 3) := by decide +kernel
theorem dX9_turn_167 : decode cX9_turn 167 = .ok (.iload 8, 2) := by decide +kernel
theorem dX9_turn_169 : decode cX9_turn 169 = .ok (.iaload, 1) := by decide +kernel
theorem dX9_turn_170 : decode cX9_turn 170 = .ok (.aload_n 0, 1) := by decide +kernel
theorem dX9_turn_171 : decode cX9_turn 171 = .ok (.getfield 135, 3) := by decide +kernel
theorem dX9_turn_174 : decode cX9_turn 174 = .ok (.iload 7, 2) := by decide +kernel
theorem dX9_turn_176 : decode cX9_turn 176 = .ok (.iaload, 1) := by decide +kernel
theorem dX9_turn_177 : decode cX9_turn 177 = .ok (.if_icmp .ge 7, 3) := by decide +kernel
theorem dX9_turn_180 : decode cX9_turn 180 = .ok (.iload 8, 2) := by decide +kernel
theorem dX9_turn_182 : decode cX9_turn 182 = .ok (.istore 7, 2) := by decide +kernel
theorem dX9_turn_184 : decode cX9_turn 184 = .ok (.iinc 8 1, 3) := by decide +kernel
theorem dX9_turn_187 : decode cX9_turn 187 = .ok (.goto (-47), 3) := by decide +kernel
theorem dX9_turn_190 : decode cX9_turn 190 = .ok (.aload_n 0, 1) := by decide +kernel
theorem dX9_turn_191 : decode cX9_turn 191 = .ok (.getfield 138, 3) := by decide +kernel
theorem dX9_turn_194 : decode cX9_turn 194 = .ok (.iload 7, 2) := by decide +kernel
theorem dX9_turn_196 : decode cX9_turn 196 = .ok (.iconst 1, 1) := by decide +kernel
theorem dX9_turn_197 : decode cX9_turn 197 = .ok (.bastore, 1) := by decide +kernel
theorem dX9_turn_198 : decode cX9_turn 198 = .ok (.aload_n 0, 1) := by decide +kernel
theorem dX9_turn_199 : decode cX9_turn 199 = .ok (.dup, 1) := by decide +kernel
theorem dX9_turn_200 : decode cX9_turn 200 = .ok (.getfield 223, 3) := by decide +kernel
theorem dX9_turn_203 : decode cX9_turn 203 = .ok (.aload_n 0, 1) := by decide +kernel
theorem dX9_turn_204 : decode cX9_turn 204 = .ok (.getfield 135, 3) := by decide +kernel
theorem dX9_turn_207 : decode cX9_turn 207 = .ok (.iload 7, 2) := by decide +kernel
theorem dX9_turn_209 : decode cX9_turn 209 = .ok (.iaload, 1) := by decide +kernel
theorem dX9_turn_210 : decode cX9_turn 210 = .ok (.iadd, 1) := by decide +kernel
theorem dX9_turn_211 : decode cX9_turn 211 = .ok (.putfield 223, 3) := by decide +kernel
theorem dX9_turn_214 : decode cX9_turn 214 = .ok (.iinc 6 1, 3) := by decide +kernel
theorem dX9_turn_217 : decode cX9_turn 217 = .ok (.goto (-90), 3) := by decide +kernel
theorem dX9_turn_220 : decode cX9_turn 220 = .ok (.iload 5, 2) := by decide +kernel
theorem dX9_turn_222 : decode cX9_turn 222 = .ok (.ireturn, 1) := by decide +kernel
theorem dX9_hour_0 : decode cX9_hour 0 = .ok (.aload_n 0, 1) := by decide +kernel
theorem dX9_hour_1 : decode cX9_hour 1 = .ok (.getfield 219, 3) := by decide +kernel
theorem dX9_hour_4 : decode cX9_hour 4 = .ok (.ifCond .eq 13, 3) := by decide +kernel
theorem dX9_hour_7 : decode cX9_hour 7 = .ok (.iload_n 1, 1) := by decide +kernel
theorem dX9_hour_8 : decode cX9_hour 8 = .ok (.iconst 0, 1) := by decide +kernel
theorem dX9_hour_9 : decode cX9_hour 9 = .ok (.bipush 24, 2) := by decide +kernel
theorem dX9_hour_11 : decode cX9_hour 11 = .ok (.invokestatic 141, 3) := by decide +kernel
theorem dX9_hour_14 : decode cX9_hour 14 = .ok (.ifCond .ne 5, 3) := by decide +kernel
theorem dX9_hour_17 : decode cX9_hour 17 = .ok (.iconst (-1), 1) := by decide +kernel
theorem dX9_hour_18 : decode cX9_hour 18 = .ok (.ireturn, 1) := by decide +kernel
theorem dX9_hour_19 : decode cX9_hour 19 = .ok (.iload_n 1, 1) := by decide +kernel
theorem dX9_hour_20 : decode cX9_hour 20 = .ok (.bipush 24, 2) := by decide +kernel
theorem dX9_hour_22 : decode cX9_hour 22 = .ok (.if_icmp .ne 10, 3) := by decide +kernel
theorem dX9_hour_25 : decode cX9_hour 25 = .ok (.aload_n 0, 1) := by decide +kernel
theorem dX9_hour_26 : decode cX9_hour 26 = .ok (.getfield 223, 3) := by decide +kernel
theorem dX9_hour_29 : decode cX9_hour 29 = .ok (.goto 17, 3) := by decide +kernel
theorem dX9_hour_32 : decode cX9_hour 32 = .ok (.aload_n 0, 1) := by decide +kernel
theorem dX9_hour_33 : decode cX9_hour 33 = .ok (.getfield 138, 3) := by decide +kernel
theorem dX9_hour_36 : decode cX9_hour 36 = .ok (.iload_n 1, 1) := by decide +kernel
theorem dX9_hour_37 : decode cX9_hour 37 = .ok (.baload, 1) := by decide +kernel
theorem dX9_hour_38 : decode cX9_hour 38 = .ok (.ifCond .eq 7, 3) := by decide +kernel
theorem dX9_hour_41 : decode cX9_hour 41 = .ok (.iconst 1, 1) := by decide +kernel
theorem dX9_hour_42 : decode cX9_hour 42 = .ok (.goto 4, 3) := by decide +kernel
theorem dX9_hour_45 : decode cX9_hour 45 = .ok (.iconst 0, 1) := by decide +kernel
theorem dX9_hour_46 : decode cX9_hour 46 = .ok (.ireturn, 1) := by decide +kernel
theorem dX9_all_0 : decode cX9_all 0 = .ok (.iconst 0, 1) := by decide +kernel
theorem dX9_all_1 : decode cX9_all 1 = .ok (.istore_n 2, 1) := by decide +kernel
theorem dX9_all_2 : decode cX9_all 2 = .ok (.iload_n 1, 1) := by decide +kernel
theorem dX9_all_3 : decode cX9_all 3 = .ok (.tableswitch 186 0 6 #[41, 46, 51, 56, 90, 117, 152], 41) := by decide +kernel
theorem dX9_all_44 : decode cX9_all 44 = .ok (.aload_n 0, 1) := by decide +kernel
theorem dX9_all_45 : decode cX9_all 45 = .ok (.getfield 148, 3) := by decide +kernel
theorem dX9_all_48 : decode cX9_all 48 = .ok (.ireturn, 1) := by decide +kernel
theorem dX9_all_49 : decode cX9_all 49 = .ok (.aload_n 0, 1) := by decide +kernel
theorem dX9_all_50 : decode cX9_all 50 = .ok (.getfield 145, 3) := by decide +kernel
theorem dX9_all_53 : decode cX9_all 53 = .ok (.ireturn, 1) := by decide +kernel
theorem dX9_all_54 : decode cX9_all 54 = .ok (.aload_n 0, 1) := by decide +kernel
theorem dX9_all_55 : decode cX9_all 55 = .ok (.getfield 172, 3) := by decide +kernel
theorem dX9_all_58 : decode cX9_all 58 = .ok (.ireturn, 1) := by decide +kernel
theorem dX9_all_59 : decode cX9_all 59 = .ok (.iconst 0, 1) := by decide +kernel
theorem dX9_all_60 : decode cX9_all 60 = .ok (.istore_n 3, 1) := by decide +kernel
theorem dX9_all_61 : decode cX9_all 61 = .ok (.iload_n 3, 1) := by decide +kernel
theorem dX9_all_62 : decode cX9_all 62 = .ok (.bipush 30, 2) := by decide +kernel
theorem dX9_all_64 : decode cX9_all 64 = .ok (.if_icmp .ge 27, 3) := by decide +kernel
theorem dX9_all_67 : decode cX9_all 67 = .ok (.iload_n 2, 1) := by decide +kernel
theorem dX9_all_68 : decode cX9_all 68 = .ok (.aload_n 0, 1) := by decide +kernel
theorem dX9_all_69 : decode cX9_all 69 = .ok (.getfield 107, 3) := by decide +kernel
theorem dX9_all_72 : decode cX9_all 72 = .ok (.iload_n 3, 1) := by decide +kernel
theorem dX9_all_73 : decode cX9_all 73 = .ok (.iaload, 1) := by decide +kernel
theorem dX9_all_74 : decode cX9_all 74 = .ok (.iconst (-1), 1) := by decide +kernel
theorem dX9_all_75 : decode cX9_all 75 = .ok (.if_icmp .eq 7, 3) := by decide +kernel
theorem dX9_all_78 : decode cX9_all 78 = .ok (.iconst 1, 1) := by decide +kernel
theorem dX9_all_79 : decode cX9_all 79 = .ok (.goto 4, 3) := by decide +kernel
theorem dX9_all_82 : decode cX9_all 82 = .ok (.iconst 0, 1) := by decide +kernel
theorem dX9_all_83 : decode cX9_all 83 = .ok (.iadd, 1) := by decide +kernel
theorem dX9_all_84 : decode cX9_all 84 = .ok (.istore_n 2, 1) := by decide +kernel
theorem dX9_all_85 : decode cX9_all 85 = .ok (.iinc 3 1, 3) := by decide +kernel
theorem dX9_all_88 : decode cX9_all 88 = .ok (.goto (-27), 3) := by decide +kernel
theorem dX9_all_91 : decode cX9_all 91 = .ok (.iload_n 2, 1) := by decide +kernel
theorem dX9_all_92 : decode cX9_all 92 = .ok (.ireturn, 1) := by decide +kernel
theorem dX9_all_93 : decode cX9_all 93 = .ok (.iconst 0, 1) := by decide +kernel
theorem dX9_all_94 : decode cX9_all 94 = .ok (.istore_n 3, 1) := by decide +kernel
theorem dX9_all_95 : decode cX9_all 95 = .ok (.iload_n 3, 1) := by decide +kernel
theorem dX9_all_96 : decode cX9_all 96 = .ok (.aload_n 0, 1) := by decide +kernel
theorem dX9_all_97 : decode cX9_all 97 = .ok (.getfield 145, 3) := by decide +kernel
theorem dX9_all_100 : decode cX9_all 100 = .ok (.if_icmp .ge 18, 3) := by decide +kernel
theorem dX9_all_103 : decode cX9_all 103 = .ok (.iload_n 2, 1) := by decide +kernel
theorem dX9_all_104 : decode cX9_all 104 = .ok (.aload_n 0, 1) := by decide +kernel
theorem dX9_all_105 : decode cX9_all 105 = .ok (.getfield 95, 3) := by decide +kernel
theorem dX9_all_108 : decode cX9_all 108 = .ok (.iload_n 3, 1) := by decide +kernel
theorem dX9_all_109 : decode cX9_all 109 = .ok (.iaload, 1) := by decide +kernel
theorem dX9_all_110 : decode cX9_all 110 = .ok (.iadd, 1) := by decide +kernel
theorem dX9_all_111 : decode cX9_all 111 = .ok (.istore_n 2, 1) := by decide +kernel
theorem dX9_all_112 : decode cX9_all 112 = .ok (.iinc 3 1, 3) := by decide +kernel
theorem dX9_all_115 : decode cX9_all 115 = .ok (.goto (-20), 3) := by decide +kernel
theorem dX9_all_118 : decode cX9_all 118 = .ok (.iload_n 2, 1) := by decide +kernel
theorem dX9_all_119 : decode cX9_all 119 = .ok (.ireturn, 1) := by decide +kernel
theorem dX9_all_120 : decode cX9_all 120 = .ok (.iconst 0, 1) := by decide +kernel
theorem dX9_all_121 : decode cX9_all 121 = .ok (.istore_n 3, 1) := by decide +kernel
theorem dX9_all_122 : decode cX9_all 122 = .ok (.iload_n 3, 1) := by decide +kernel
theorem dX9_all_123 : decode cX9_all 123 = .ok (.aload_n 0, 1) := by decide +kernel
theorem dX9_all_124 : decode cX9_all 124 = .ok (.getfield 145, 3) := by decide +kernel
theorem dX9_all_127 : decode cX9_all 127 = .ok (.if_icmp .ge 26, 3) := by decide +kernel
theorem dX9_all_130 : decode cX9_all 130 = .ok (.iload_n 2, 1) := by decide +kernel
theorem dX9_all_131 : decode cX9_all 131 = .ok (.aload_n 0, 1) := by decide +kernel
theorem dX9_all_132 : decode cX9_all 132 = .ok (.getfield 92, 3) := by decide +kernel
theorem dX9_all_135 : decode cX9_all 135 = .ok (.iload_n 3, 1) := by decide +kernel
theorem dX9_all_136 : decode cX9_all 136 = .ok (.baload, 1) := by decide +kernel
theorem dX9_all_137 : decode cX9_all 137 = .ok (.ifCond .eq 7, 3) := by decide +kernel
theorem dX9_all_140 : decode cX9_all 140 = .ok (.iconst 1, 1) := by decide +kernel
theorem dX9_all_141 : decode cX9_all 141 = .ok (.goto 4, 3) := by decide +kernel
theorem dX9_all_144 : decode cX9_all 144 = .ok (.iconst 0, 1) := by decide +kernel
theorem dX9_all_145 : decode cX9_all 145 = .ok (.iadd, 1) := by decide +kernel
theorem dX9_all_146 : decode cX9_all 146 = .ok (.istore_n 2, 1) := by decide +kernel
theorem dX9_all_147 : decode cX9_all 147 = .ok (.iinc 3 1, 3) := by decide +kernel
theorem dX9_all_150 : decode cX9_all 150 = .ok (.goto (-28), 3) := by decide +kernel
theorem dX9_all_153 : decode cX9_all 153 = .ok (.iload_n 2, 1) := by decide +kernel
theorem dX9_all_154 : decode cX9_all 154 = .ok (.ireturn, 1) := by decide +kernel
theorem dX9_all_155 : decode cX9_all 155 = .ok (.iconst 0, 1) := by decide +kernel
theorem dX9_all_156 : decode cX9_all 156 = .ok (.istore_n 3, 1) := by decide +kernel
theorem dX9_all_157 : decode cX9_all 157 = .ok (.iload_n 3, 1) := by decide +kernel
theorem dX9_all_158 : decode cX9_all 158 = .ok (.bipush 30, 2) := by decide +kernel
theorem dX9_all_160 : decode cX9_all 160 = .ok (.if_icmp .ge 27, 3) := by decide +kernel
theorem dX9_all_163 : decode cX9_all 163 = .ok (.iload_n 2, 1) := by decide +kernel
theorem dX9_all_164 : decode cX9_all 164 = .ok (.aload_n 0, 1) := by decide +kernel
theorem dX9_all_165 : decode cX9_all 165 = .ok (.getfield 104, 3) := by decide +kernel
theorem dX9_all_168 : decode cX9_all 168 = .ok (.iload_n 3, 1) := by decide +kernel
theorem dX9_all_169 : decode cX9_all 169 = .ok (.iaload, 1) := by decide +kernel
theorem dX9_all_170 : decode cX9_all 170 = .ok (.iconst (-1), 1) := by decide +kernel
theorem dX9_all_171 : decode cX9_all 171 = .ok (.if_icmp .eq 7, 3) := by decide +kernel
theorem dX9_all_174 : decode cX9_all 174 = .ok (.iconst 1, 1) := by decide +kernel
theorem dX9_all_175 : decode cX9_all 175 = .ok (.goto 4, 3) := by decide +kernel
theorem dX9_all_178 : decode cX9_all 178 = .ok (.iconst 0, 1) := by decide +kernel
theorem dX9_all_179 : decode cX9_all 179 = .ok (.iadd, 1) := by decide +kernel
theorem dX9_all_180 : decode cX9_all 180 = .ok (.istore_n 2, 1) := by decide +kernel
theorem dX9_all_181 : decode cX9_all 181 = .ok (.iinc 3 1, 3) := by decide +kernel
theorem dX9_all_184 : decode cX9_all 184 = .ok (.goto (-27), 3) := by decide +kernel
theorem dX9_all_187 : decode cX9_all 187 = .ok (.iload_n 2, 1) := by decide +kernel
theorem dX9_all_188 : decode cX9_all 188 = .ok (.ireturn, 1) := by decide +kernel
theorem dX9_all_189 : decode cX9_all 189 = .ok (.iconst (-1), 1) := by decide +kernel
theorem dX9_all_190 : decode cX9_all 190 = .ok (.ireturn, 1) := by decide +kernel
end
section
/-! the abstract machine: values, the store by kinds, the judgement -/
abbrev xV : Type := Int32 ⊕ (Option (Nat × Nat) ⊕ (Int64 ⊕ UInt32))
abbrev xI (x : Int32) : xV := Sum.inl x
abbrev xR (r : Option (Nat × Nat)) : xV := Sum.inr (Sum.inl r)
abbrev xJ (x : Int64) : xV := Sum.inr (Sum.inr (Sum.inl x))
abbrev xF (x : UInt32) : xV := Sum.inr (Sum.inr (Sum.inr x))
def xc (al : Nat × Nat → Nat) (v : xV) : Value := match v with
  | Sum.inl x => .int x
  | Sum.inr (Sum.inl r) => va_rf (r.map al)
  | Sum.inr (Sum.inr (Sum.inl x)) => .long x
  | Sum.inr (Sum.inr (Sum.inr x)) => .float x
/-- the store: ints, references, and which objects there are (with their lengths), by kind, number and slot -/
abbrev xS : Type := (Nat → Nat → Nat → Int32) × ((Nat → Nat → Nat → Option (Nat × Nat)) × (Nat → Nat → Option Nat))
def gI (S : xS) (k i j : Nat) : Int32 := S.1 k i j
def gR (S : xS) (k i j : Nat) : Option (Nat × Nat) := S.2.1 k i j
def gL (S : xS) (k i : Nat) : Option Nat := S.2.2 k i
def sI (S : xS) (k i j : Nat) (v : Int32) : xS := (fun a b c => if a = k ∧ c = j ∧ b = i then v else S.1 a b c, S.2)
def sR (S : xS) (k i j : Nat) (v : Option (Nat × Nat)) : xS := (S.1, (fun a b c => if a = k ∧ c = j ∧ b = i then v else S.2.1 a b c, S.2.2))
def sN (S : xS) (k i n : Nat) : xS := (fun a b c => if a = k ∧ b = i then 0 else S.1 a b c, (fun a b c => if a = k ∧ b = i then none else S.2.1 a b c, fun a b => if a = k ∧ b = i then some n else S.2.2 a b))
theorem gI_sI (S : xS) (k i j : Nat) (v : Int32) (a b c : Nat) : gI (sI S k i j v) a b c = if a = k ∧ c = j ∧ b = i then v else gI S a b c := rfl
theorem gR_sI (S : xS) (k i j : Nat) (v : Int32) (a b c : Nat) : gR (sI S k i j v) a b c = gR S a b c := rfl
theorem gL_sI (S : xS) (k i j : Nat) (v : Int32) (a b : Nat) : gL (sI S k i j v) a b = gL S a b := rfl
theorem gI_sR (S : xS) (k i j : Nat) (v : Option (Nat × Nat)) (a b c : Nat) : gI (sR S k i j v) a b c = gI S a b c := rfl
theorem gR_sR (S : xS) (k i j : Nat) (v : Option (Nat × Nat)) (a b c : Nat) : gR (sR S k i j v) a b c = if a = k ∧ c = j ∧ b = i then v else gR S a b c := rfl
theorem gL_sR (S : xS) (k i j : Nat) (v : Option (Nat × Nat)) (a b : Nat) : gL (sR S k i j v) a b = gL S a b := rfl
theorem gI_sN (S : xS) (k i n a b c : Nat) : gI (sN S k i n) a b c = if a = k ∧ b = i then 0 else gI S a b c := rfl
theorem gR_sN (S : xS) (k i n a b c : Nat) : gR (sN S k i n) a b c = if a = k ∧ b = i then none else gR S a b c := rfl
theorem gL_sN (S : xS) (k i n a b : Nat) : gL (sN S k i n) a b = if a = k ∧ b = i then some n else gL S a b := rfl
/-- kinds: 0 .. 9 the classes, 41 a club that is given up again, the rest arrays; 99 the script -/
def xCls (k : Nat) : Bool := decide (k < 10) || decide (k = 41)
def xk (k : Nat) : Nat := if k = 41 then 0 else k
def xn (c : Nat) : Nat := (([7, 7, 2, 12, 2, 4, 5, 14, 10, 48] : List Nat)[c]?).getD 0
/-- the slots that hold references -/
def xr (c j : Nat) : Bool := (((([[0], [], [0, 1], [3, 4, 5], [0], [0, 1], [], [1, 4, 12], [0, 1, 2, 3, 4], [1, 2, 3, 4, 5, 6, 7, 8, 9, 10, 11, 12, 13, 14, 15, 16, 17, 18, 19, 20, 21, 23, 24, 25, 26, 27, 28, 29, 30, 31, 32, 33, 34, 37, 38, 39, 40, 41, 42, 43, 44, 45]] : List (List Nat))[c]?).getD []).contains j)
/-- what an array's cells are of -/
def xa (k : Nat) : FieldType := match k with
  | 10 => .object RX3 | 11 => .object RX7 | 12 => .object RX0 | 14 => .boolean | 16 => .boolean | 17 => .object RX4 | 18 => .object RX6
  | 51 => .boolean | 59 => .boolean | 60 => .boolean | 67 => .boolean | 76 => .boolean | 79 => .boolean | 95 => .boolean
  | _ => .int
def xar (k : Nat) : Bool := match xa k with
  | .object _ => true
  | _ => false
def xcf (al : Nat × Nat → Nat) (S : xS) (q : Nat × Nat) (j : Nat) : Value := if xr (xk q.1) j = true then va_rf ((gR S q.1 q.2 j).map al) else .int (gI S q.1 q.2 j)
def xe (al : Nat × Nat → Nat) (S : xS) (cA : Nat × Nat → ClassId) (q : Nat × Nat) : va_E :=
  if xCls q.1 = true then .inr (xk q.1, (List.range (xn (xk q.1))).map (xcf al S q))
  else .inl (cA q, (gL S q.1 q.2).getD 0, if xar q.1 = true then .inr (.inr (.inr (.inr (fun j => (gR S q.1 q.2 j).map al)))) else .inl (fun j => gI S q.1 q.2 j))
def xw (al : Nat × Nat → Nat) (S : xS) (cA : Nat × Nat → ClassId) (L : List (Nat × Nat)) : va_W := L.map (fun q => (al q, xe al S cA q))
/-- there is such an object -/
def xAl (S : xS) (q : Nat × Nat) : Prop := gL S q.1 q.2 ≠ none ∨ q.1 = 99
def xo (S : xS) (v : xV) : Prop := ∀ q, v = xR (some q) → xAl S q
/-- the heap holds the store -/
def xH (D : va_G) (A : Nat → Prop) (s : State) (al : Nat × Nat → Nat) (cA : Nat × Nat → ClassId) (S : xS) (L : List (Nat × Nat)) (H : Heap) : Prop :=
  va_P D xCl (xw al S cA L) H ∧ va_D A (xw al S cA L) ∧ (∀ q : Nat × Nat, q ∈ L ↔ gL S q.1 q.2 ≠ none) ∧ (∀ q ∈ L, ∀ (j : Nat) (r : Nat × Nat), gR S q.1 q.2 j = some r → gL S r.1 r.2 ≠ none) ∧ (∀ q ∈ L, xCls q.1 = false → ArrOfT s (cA q) (xa q.1) ∧ va_RA s (cA q) (xa q.1))
theorem xw_get {al : Nat × Nat → Nat} {S : xS} {cA : Nat × Nat → ClassId} {L : List (Nat × Nat)} {q : Nat × Nat} (h : q ∈ L) : ∃ n : Nat, L[n]? = some q ∧ (xw al S cA L)[n]? = some (al q, xe al S cA q) := by
  obtain ⟨n, hn⟩ := List.getElem?_of_mem h
  exact ⟨n, hn, by simp [xw, hn]⟩
theorem xw_inj {A : Nat → Prop} {al : Nat × Nat → Nat} {S : xS} {cA : Nat × Nat → ClassId} {L : List (Nat × Nat)} (hD : va_D A (xw al S cA L)) {i j : Nat} {q r : Nat × Nat} (hi : L[i]? = some q) (hj : L[j]? = some r) (h : al q = al r) : i = j :=
  hD.1 i j (al q, xe al S cA q) (al r, xe al S cA r) (by simp [xw, hi]) (by simp [xw, hj]) h
theorem xw_al {A : Nat → Prop} {al : Nat × Nat → Nat} {S : xS} {cA : Nat × Nat → ClassId} {L : List (Nat × Nat)} (hD : va_D A (xw al S cA L)) {q r : Nat × Nat} (hq : q ∈ L) (hr : r ∈ L) (h : al q = al r) : q = r := by
  obtain ⟨i, hi⟩ := List.getElem?_of_mem hq
  obtain ⟨j, hj⟩ := List.getElem?_of_mem hr
  have := xw_inj hD hi hj h
  subst this
  exact Option.some.inj (hi.symm.trans hj)
theorem xw_set {A : Nat → Prop} {al : Nat × Nat → Nat} {S S' : xS} {cA : Nat × Nat → ClassId} {L : List (Nat × Nat)} (hD : va_D A (xw al S cA L)) {n : Nat} {q : Nat × Nat} {e : va_E} (hn : L[n]? = some q) (he : e = xe al S' cA q) (ho : ∀ r ∈ L, r ≠ q → xe al S' cA r = xe al S cA r) : (xw al S cA L).set n (al q, e) = xw al S' cA L := by
  subst he
  apply List.ext_getElem?
  intro j
  have hl : n < L.length := (List.getElem?_eq_some_iff.mp hn).1
  by_cases hj : j = n
  · subst hj
    rw [List.getElem?_set_self (by simpa [xw] using hl)]
    simp [xw, hn]
  · rw [List.getElem?_set_ne (Ne.symm hj)]
    simp only [xw, List.getElem?_map]
    cases hb : L[j]? with
    | none => rfl
    | some r =>
      have hr : r ≠ q := fun z => hj (xw_inj hD hb hn (by rw [z]))
      simp only [Option.map_some]
      rw [ho r (List.mem_of_getElem? hb) hr]
theorem xw_push {al al' : Nat × Nat → Nat} {S S' : xS} {cA cA' : Nat × Nat → ClassId} {L : List (Nat × Nat)} {q : Nat × Nat} {a : Nat} {e : va_E} (ha : al' q = a) (he : e = xe al' S' cA' q) (ho : ∀ r ∈ L, al' r = al r ∧ xe al' S' cA' r = xe al S cA r) : (xw al S cA L) ++ [(a, e)] = xw al' S' cA' (L ++ [q]) := by
  subst ha; subst he
  simp only [xw, List.map_append, List.map_cons, List.map_nil]
  congr 1
  apply List.map_congr_left
  intro r hr
  rw [(ho r hr).1, (ho r hr).2]
theorem xe_cls {al : Nat × Nat → Nat} {S : xS} {cA : Nat × Nat → ClassId} {q : Nat × Nat} (h : xCls q.1 = true) : xe al S cA q = .inr (xk q.1, (List.range (xn (xk q.1))).map (xcf al S q)) := by simp [xe, h]
theorem xe_int {al : Nat × Nat → Nat} {S : xS} {cA : Nat × Nat → ClassId} {q : Nat × Nat} {n : Nat} (h : xCls q.1 = false) (h2 : xar q.1 = false) (hn : gL S q.1 q.2 = some n) : xe al S cA q = .inl (cA q, n, .inl (fun j => gI S q.1 q.2 j)) := by simp [xe, h, h2, hn]
theorem xe_ref {al : Nat × Nat → Nat} {S : xS} {cA : Nat × Nat → ClassId} {q : Nat × Nat} {n : Nat} (h : xCls q.1 = false) (h2 : xar q.1 = true) (hn : gL S q.1 q.2 = some n) : xe al S cA q = .inl (cA q, n, .inr (.inr (.inr (.inr (fun j => (gR S q.1 q.2 j).map al))))) := by simp [xe, h, h2, hn]
theorem xe_same {al : Nat × Nat → Nat} {S S' : xS} {cA : Nat × Nat → ClassId} {q : Nat × Nat} (h1 : ∀ j, gI S' q.1 q.2 j = gI S q.1 q.2 j) (h2 : ∀ j, gR S' q.1 q.2 j = gR S q.1 q.2 j) (h3 : gL S' q.1 q.2 = gL S q.1 q.2) : xe al S' cA q = xe al S cA q := by
  have e : xcf al S' q = xcf al S q := by funext j; simp [xcf, h1, h2]
  unfold xe
  rw [e, h3]
  simp only [h1, h2]
theorem xH.moved {D : va_G} {A : Nat → Prop} {u U : State} {al : Nat × Nat → Nat} {cA : Nat × Nat → ClassId} {S : xS} {L : List (Nat × Nat)} {H : Heap} (hvm : u.vm.Alike U.vm) (h : xH D A u al cA S L H) : xH D A U al cA S L H :=
  ⟨h.1, h.2.1, h.2.2.1, h.2.2.2.1, fun q hq hc => ⟨arrOfT_moved hvm (h.2.2.2.2 q hq hc).1, (h.2.2.2.2 q hq hc).2.moved hvm⟩⟩
theorem xN.moved {u U : State} (hW : u.WarmedH U.vm) (h : xN u) : xN U := by
  obtain ⟨h1, h2, h3, h4, h5, h6, h7, h8⟩ := h
  exact ⟨h1.moved hW.alike, h2.moved hW.alike, h3.moved hW.alike, h4.moved hW.alike, h5.warmM hW, h6.moved hW.alike, h7.warmM hW, h8.warmM hW⟩
/-- a method's words -/
def xW (mm : xM) : List Cond := Cond.code mm.1 mm.2.1 mm.2.2.1 mm.2.2.2 :: xT
def xExt (S : xS) (al : Nat × Nat → Nat) (S' : xS) (al' : Nat × Nat → Nat) : Prop := ∀ q, xAl S q → xAl S' q ∧ al' q = al q
theorem xExt.rf {S : xS} {al : Nat × Nat → Nat} : xExt S al S al := fun _ h => ⟨h, rfl⟩
theorem xExt.tr {S S' S'' : xS} {al al' al'' : Nat × Nat → Nat} (h : xExt S al S' al') (h2 : xExt S' al' S'' al'') : xExt S al S'' al'' := fun q hq => ⟨(h2 q (h q hq).1).1, ((h2 q (h q hq).1).2).trans (h q hq).2⟩
/-- how an answer is given back -/
def xRet (mm : xM) (v : Option xV) (pc : Nat) : Prop := match v with
  | none => mm.2.2.2 = none ∧ decode mm.2.1 pc = .ok (.return_, 1)
  | some (Sum.inl x) => ∃ ty, mm.2.2.2 = some ty ∧ narrow ty (.int x) = .int x ∧ decode mm.2.1 pc = .ok (.ireturn, 1)
  | some (Sum.inr (Sum.inl _)) => ∃ ty, mm.2.2.2 = some ty ∧ ((∃ n, ty = .object n) ∨ ∃ t, ty = .array t) ∧ decode mm.2.1 pc = .ok (.areturn, 1)
  | _ => False
def xC (mm : xM) (d : Nat) (p : Program) (s : State) (m : MethodId) (args : Array Value) (meth : Method) (c : Code) (D : va_G) (R : Room) (A : Nat → Prop) : Prop :=
  p.tables.exec = Jvm.exec ∧ c.code = mm.2.1 ∧ meth.sig.returnType = mm.2.2.2 ∧ c.maxLocals = mm.2.2.1 ∧ s.vm.findClass mm.1.cls = some m.cls ∧ (∀ w ∈ xT, w.before args s = true) ∧ meth.locks = false ∧ meth.name = mm.1.name ∧ va_K D xCl [] s ∧ xN s ∧ d ≤ R.frames ∧ 12 + 32 * d ≤ R.locals ∧ ∀ q, s.heap.size ≤ q → A q
def xX (X : Nat × (Nat → Int32)) (al : Nat × Nat → Nat) (A : Nat → Prop) (s : State) : Prop := X.1 = 0 ∨ (va_X (al (99, 0)) (X.1 - 1) X.2 s s.heap ∧ al (99, 0) < s.heap.size ∧ ¬ A (al (99, 0)))
def xL (al : Nat × Nat → Nat) (S : xS) (nL : Nat) (lsA : Array Slot) (ls : List (Option xV)) : Prop := lsA.size = nL ∧ lv_wf lsA ∧ ls.length ≤ nL ∧ ∀ (i : Nat) (v : xV), ls[i]? = some (some v) → lsA[i]? = some (.val (xc al v)) ∧ xo S v
def xK (mm : xM) (Q : Option xV → xS → Prop) (p : Program) (l : Launch) (e : Env) (R : Room) (s : State) (m : MethodId) (args : Array Value) (below : List Frame) (meth : Method) (c : Code) (D : va_G) (A : Nat → Prop) (al : Nat × Nat → Nat) (S : xS) (Qf : State → Prop) : Prop :=
  ∀ (v : Option xV) (S' : xS) (al' : Nat × Nat → Nat) (cA' : Nat × Nat → ClassId) (L' : List (Nat × Nat)) (H' : Heap) (locs' : List Loc) (cells' slots' pc' : Nat) (lsA' : Array Slot), Q v S' → xExt S al S' al' → xH D A s al' cA' S' L' H' → va_S A s.heap H' locs' → (∀ w, v = some w → xo S' w) → cells' ≤ R.cells → slots' ≤ R.slots → xRet mm v pc' → W p l e R s m args below meth c H' locs' cells' slots' Qf (F0 m pc' lsA' (v.map (xc al')).toList)
/-- the judgement: from here the method comes to its end, with an answer and a store of which Q holds -/
def Ex (mm : xM) (d cb sb : Nat) (X : Nat × (Nat → Int32)) (Q : Option xV → xS → Prop) (pc : Nat) (ls : List (Option xV)) (st : List xV) (S : xS) : Prop :=
  Unit → ∀ {p : Program} {l : Launch} {e : Env} {R : Room} {s : State} {m : MethodId} {args : Array Value} {below : List Frame} {meth : Method} {c : Code} {H : Heap} {locs : List Loc} {cells slots : Nat} {D : va_G} {A : Nat → Prop} {al : Nat × Nat → Nat} {cA : Nat × Nat → ClassId} {L : List (Nat × Nat)} {Qf : State → Prop} {lsA : Array Slot},
    xC mm d p s m args meth c D R A → xX X al A s → xH D A s al cA S L H → va_S A s.heap H locs → xL al S mm.2.2.1 lsA ls → (∀ v ∈ st, xo S v) → cells + cb ≤ R.cells → slots + sb ≤ R.slots → xK mm Q p l e R s m args below meth c D A al S Qf → W p l e R s m args below meth c H locs cells slots Qf (F0 m pc lsA (st.map (xc al)))
/-- a method's contract -/
def CC (mm : xM) (d mc ms : Nat) (av : List xV) (S : xS) (Q : Option xV → xS → Prop) : Prop :=
  ∀ (l : Launch) (D : va_G) (A : Nat → Prop) (al : Nat × Nat → Nat) (cA : Nat × Nat → ClassId) (L : List (Nat × Nat)), (∀ v ∈ av, xo S v) →
    Met l mm.1 (xW mm) { frames := d, cells := mc, slots := ms, locals := 12 + 32 * d } (va_Pc (av.map (xc al)) (fun U => va_K D xCl [] U ∧ xN U ∧ (∀ q, U.heap.size ≤ q → A q) ∧ xH D A U al cA S L U.heap)) (fun _ st oc t => ∃ (v : Option xV) (S' : xS) (al' : Nat × Nat → Nat) (cA' : Nat × Nat → ClassId) (L' : List (Nat × Nat)), oc = .returned (v.map (xc al')) ∧ Q v S' ∧ xExt S al S' al' ∧ xH D A t al' cA' S' L' t.heap ∧ (∀ w, v = some w → xo S' w) ∧ va_F A st t) mc ms A
theorem CC.mono {mm : xM} {d mc ms : Nat} {av : List xV} {S : xS} {Q Q' : Option xV → xS → Prop} (h : CC mm d mc ms av S Q) (hq : ∀ v S', Q v S' → Q' v S') : CC mm d mc ms av S Q' := by
  intro l D A al cA L hav
  have h1 := h l D A al cA L hav
  intro p e ha hc hk s m args below hf hap hP hK
  obtain ⟨k, o, a1, a2, a3, ⟨v, S', al', cA', L', b1, b2, b3⟩, a4⟩ := h1 p e ha hc hk s m args below hf hap hP hK
  exact ⟨k, o, a1, a2, a3, ⟨v, S', al', cA', L', b1, hq _ _ b2, b3⟩, a4⟩
/-- the locals with which a method begins -/
def xent (n : Nat) (av : List xV) : List (Option xV) := av.map some ++ List.replicate (n - av.length) none
def xlong (v : xV) : Bool := match v with
  | Sum.inr (Sum.inr (Sum.inl _)) => true
  | _ => false
theorem xcat (al : Nat × Nat → Nat) (v : xV) (h : xlong v = false) : (xc al v).category = 1 := by
  rcases v with x | r | x | x
  · rfl
  · cases r <;> rfl
  · cases h
  · rfl
theorem lv_args_x (al : Nat × Nat → Nat) : ∀ (av : List xV) (k : Nat), av.all (fun v => !xlong v) = true → ∀ (i : Nat) (v : xV), av[i]? = some v → (k + i, xc al v) ∈ lv_args k (av.map (xc al))
  | [], _, _, i, v, h => by simp at h
  | w :: ws, k, ha, i, v, h => by
    simp only [List.all_cons, Bool.and_eq_true, Bool.not_eq_true'] at ha
    have hc : ¬ (xc al w).category = 2 := by rw [xcat al w ha.1]; decide
    simp only [List.map_cons, lv_args, hc, if_false]
    cases i with
    | zero => simp at h; subst h; exact List.mem_cons_self
    | succ i =>
      simp at h
      refine List.mem_cons_of_mem _ ?_
      have := lv_args_x al ws (k + 1) (by simpa using ha.2) i v h
      rwa [show k + 1 + i = k + (i + 1) by omega] at this
theorem lg_sl_len (al : Nat × Nat → Nat) (av : List xV) (ha : av.all (fun v => !xlong v) = true) : (lg_sl (av.map (xc al))).length = av.length := by
  induction av with
  | nil => rfl
  | cons w ws ih =>
    simp only [List.all_cons, Bool.and_eq_true, Bool.not_eq_true'] at ha
    have hc : ¬ (xc al w).category = 2 := by rw [xcat al w ha.1]; decide
    have := ih (by simpa using ha.2)
    simp [lg_sl, hc] at this ⊢
    omega
theorem CC_of {mm : xM} {d mc ms : Nat} {av : List xV} {S : xS} {Q : Option xV → xS → Prop} (hp : plainName mm.1.cls = true) (ha : av.all (fun v => !xlong v) = true) (hlen : av.length ≤ mm.2.2.1) (h : Ex mm d mc ms (0, fun _ => 0) Q 0 (xent mm.2.2.1 av) [] S) : CC mm d mc ms av S Q := by
  intro l D A al cA L hav
  refine Met.ofW (cc := mm.2.1) (maxL := mm.2.2.1) (ret := mm.2.2.2) hp rfl ?_
  intro p e s m args below meth c s₁ B hml hv
  obtain ⟨rfl, hK, hN, hA, hH⟩ := hv
  have hts := atoms_spec (ws := xW mm) B.pre
  have hname := (name_of_methodNamed B.named B.method).1
  have hl := lv_entry (av.map (xc al)) (n := mm.2.2.1) (by rw [lg_sl_len al av ha]; exact hlen)
  rw [lg_entry_eq]
  generalize (lg_sl (av.map (xc al)) ++ List.replicate (mm.2.2.1 - (lg_sl (av.map (xc al))).length) Slot.unset).toArray = lsA at hl ⊢
  have hL : xL al S mm.2.2.1 lsA (xent mm.2.2.1 av) := by
    refine ⟨hl.1, hl.2.1, by simp [xent]; omega, fun i v hi => ?_⟩
    have hi2 : av[i]? = some v := by
      unfold xent at hi
      by_cases hlt : i < av.length
      · rw [List.getElem?_append_left (by simpa using hlt)] at hi
        simpa using hi
      · rw [List.getElem?_append_right (by simpa using hlt)] at hi
        have := List.eq_of_mem_replicate (List.mem_of_getElem? hi)
        cases this
    refine ⟨hl.2.2 (i, xc al v) ?_, hav v (List.mem_of_getElem? hi2)⟩
    have := lv_args_x al av 0 ha i v hi2
    rwa [Nat.zero_add] at this
  refine h () (al := al) (cA := cA) (L := L) (D := D) (A := A) ⟨B.exec, B.bytes, B.returns, hml, findClass_of_methodNamed B.named, fun w hw => hts w (List.mem_cons_of_mem _ hw), B.notSynchronized, hname, hK, hN, Nat.le_refl _, Nat.le_refl _, hA⟩ (Or.inl rfl) hH va_S.rf hL (fun v hv => by cases hv) (by show 0 + mc ≤ mc; omega) (by show 0 + ms ≤ ms; omega) ?_
  intro v S' al' cA' L' H' locs' cells' slots' pc' lsA' hQ hext hH' hS' hov hc' hs' hr
  refine W.widen (k := mc) (n := ms) hc' hs' ?_
  have hpost : ∀ (o : Option Value), o = v.map (xc al') → ∀ t : State, t.heap = H' → s.WarmedH t.vm → (∃ (v : Option xV) (S' : xS) (al' : Nat × Nat → Nat) (cA' : Nat × Nat → ClassId) (L' : List (Nat × Nat)), Outcome.returned o = .returned (v.map (xc al')) ∧ Q v S' ∧ xExt S al S' al' ∧ xH D A t al' cA' S' L' t.heap ∧ (∀ w, v = some w → xo S' w) ∧ va_F A s t) := by
    intro o ho t ht hW
    exact ⟨v, S', al', cA', L', by rw [ho], hQ, hext, by rw [ht]; exact hH'.moved hW.alike, hov, hS'.F ht⟩
  match v, hr with
  | none, hr => exact W.vret B.exec B.bytes (B.returns.trans hr.1) (hpost none rfl) hS'.2.2 hr.2
  | some (Sum.inl x), hr =>
    obtain ⟨ty, h1, h2, h3⟩ := hr
    exact W.zret B.exec B.bytes (B.returns.trans h1) h2 (hpost (some (.int x)) rfl) hS'.2.2 h3
  | some (Sum.inr (Sum.inl r)), hr =>
    obtain ⟨ty, h1, h2, h3⟩ := hr
    exact W.aret (v := va_rf (r.map al')) B.exec B.bytes (B.returns.trans h1) h2 (by cases r <;> simp [va_rf]) (hpost (some (va_rf (r.map al'))) rfl) hS'.2.2 h3
  | some (Sum.inr (Sum.inr (Sum.inl x))), hr => exact hr.elim
  | some (Sum.inr (Sum.inr (Sum.inr x))), hr => exact hr.elim
/-! locals -/
def xnl (ls : List (Option xV)) (i : Nat) : Bool := match i with
  | 0 => true
  | j + 1 => match ls[j]? with
    | some (some v) => !xlong v
    | _ => true
def xll (al : Nat × Nat → Nat) (ls : List (Option xV)) : List (Nat × Value) := (List.range ls.length).filterMap (fun j => match ls[j]? with
  | some (some v) => some (j, xc al v)
  | _ => none)
theorem xll_mem {al : Nat × Nat → Nat} {ls : List (Option xV)} {i : Nat} {v : xV} (h : ls[i]? = some (some v)) : (i, xc al v) ∈ xll al ls := by
  refine List.mem_filterMap.mpr ⟨i, List.mem_range.mpr (List.getElem?_eq_some_iff.mp h).1, ?_⟩
  rw [h]
theorem xL_has {al : Nat × Nat → Nat} {S : xS} {nL : Nat} {lsA : Array Slot} {ls : List (Option xV)} (h : xL al S nL lsA ls) : lv_has lsA nL (xll al ls) := by
  refine ⟨h.1, h.2.1, fun q hq => ?_⟩
  obtain ⟨i, -, hi⟩ := List.mem_filterMap.mp hq
  cases hv : ls[i]? with
  | none => rw [hv] at hi; cases hi
  | some o => cases o with
    | none => rw [hv] at hi; cases hi
    | some v => rw [hv] at hi; cases hi; exact (h.2.2.2 i v hv).1
theorem xL_put {al : Nat × Nat → Nat} {S : xS} {nL : Nat} {lsA ls' : Array Slot} {ls : List (Option xV)} {i : Nat} {v : xV} (h : xL al S nL lsA ls) (hn : xnl ls i = true) (ho : xo S v)
    (h' : lv_has ls' nL ((i, xc al v) :: (xll al ls).filter (fun q => !(q.1 == i) && !(q.1 + 1 == i && q.2.category == 2)))) : xL al S nL ls' (ls.set i (some v)) := by
  refine ⟨h'.1, h'.2.1, by simpa using h.2.2.1, fun j w hj => ?_⟩
  by_cases hji : j = i
  · subst hji
    have hl : j < ls.length := by
      have := (List.getElem?_eq_some_iff.mp hj).1
      simpa using this
    rw [List.getElem?_set_self hl] at hj
    cases hj
    exact ⟨h'.2.2 _ List.mem_cons_self, ho⟩
  · rw [List.getElem?_set_ne (Ne.symm hji)] at hj
    refine ⟨h'.2.2 (j, xc al w) (List.mem_cons_of_mem _ (List.mem_filter.mpr ⟨xll_mem hj, ?_⟩)), (h.2.2.2 j w hj).2⟩
    simp only [Bool.and_eq_true, Bool.not_eq_true', beq_eq_false_iff_ne, ne_eq, Bool.and_eq_false_iff]
    refine ⟨hji, ?_⟩
    by_cases hj1 : j + 1 = i
    · right
      subst hj1
      simp only [xnl, hj] at hn
      rw [xcat al w (by simpa using hn)]
      decide
    · exact Or.inl hj1
theorem xL_put2 {al : Nat × Nat → Nat} {S : xS} {nL : Nat} {lsA ls' : Array Slot} {ls : List (Option xV)} {i : Nat} {x : Int64} (h : xL al S nL lsA ls) (hn : xnl ls i = true)
    (h' : lv_has ls' nL ((i, Value.long x) :: (xll al ls).filter (fun q => !(q.1 == i) && (!(q.1 == i + 1) && !(q.1 + 1 == i && q.2.category == 2))))) : xL al S nL ls' ((ls.set i (some (xJ x))).set (i + 1) none) := by
  refine ⟨h'.1, h'.2.1, by simpa using h.2.2.1, fun j w hj => ?_⟩
  by_cases hji2 : j = i + 1
  · subst hji2
    have hl : i + 1 < (ls.set i (some (xJ x))).length := by
      have := (List.getElem?_eq_some_iff.mp hj).1
      simpa using this
    rw [List.getElem?_set_self hl] at hj
    cases hj
  · rw [List.getElem?_set_ne (Ne.symm hji2)] at hj
    by_cases hji : j = i
    · subst hji
      have hl : j < ls.length := by
        have := (List.getElem?_eq_some_iff.mp hj).1
        simpa using this
      rw [List.getElem?_set_self hl] at hj
      cases hj
      exact ⟨h'.2.2 _ List.mem_cons_self, fun q hq => by cases hq⟩
    · rw [List.getElem?_set_ne (Ne.symm hji)] at hj
      refine ⟨h'.2.2 (j, xc al w) (List.mem_cons_of_mem _ (List.mem_filter.mpr ⟨xll_mem hj, ?_⟩)), (h.2.2.2 j w hj).2⟩
      simp only [Bool.and_eq_true, Bool.not_eq_true', beq_eq_false_iff_ne, ne_eq, Bool.and_eq_false_iff]
      refine ⟨hji, hji2, ?_⟩
      by_cases hj1 : j + 1 = i
      · right
        subst hj1
        simp only [xnl, hj] at hn
        rw [xcat al w (by simpa using hn)]
        decide
      · exact Or.inl hj1
theorem xo_I {S : xS} {x : Int32} : xo S (xI x) := fun q h => by cases h
theorem xo_J {S : xS} {x : Int64} : xo S (xJ x) := fun q h => by cases h
theorem xo_F {S : xS} {x : UInt32} : xo S (xF x) := fun q h => by cases h
theorem xo_n {S : xS} : xo S (xR none) := fun q h => by cases h
theorem xo_c {S : xS} {v : xV} {st : List xV} (h : xo S v) (ho : ∀ v ∈ st, xo S v) : ∀ w ∈ v :: st, xo S w := List.forall_mem_cons.mpr ⟨h, ho⟩
theorem xo_t {S : xS} {v : xV} {st : List xV} (ho : ∀ w ∈ v :: st, xo S w) : ∀ v ∈ st, xo S v := (List.forall_mem_cons.mp ho).2
theorem xo_h {S : xS} {v : xV} {st : List xV} (ho : ∀ w ∈ v :: st, xo S w) : xo S v := (List.forall_mem_cons.mp ho).1
theorem E_iconst {mm : xM} {d cb sb : Nat} {X : Nat × (Nat → Int32)} {Q : Option xV → xS → Prop} {pc : Nat} {ls : List (Option xV)} {st : List xV} {S : xS} {n : Int} {v : Int32} (hd : decode mm.2.1 pc = .ok (.iconst n, 1)) (hv : Int32.ofInt n = v) (k : Ex mm d cb sb X Q (pc + 1) ls (xI v :: st) S) : Ex mm d cb sb X Q pc ls (st) S := by
  intro _ p l e R s m args below meth c H locs cells slots D A al cA L Qf lsA hC hX hH hS hL ho hc hs hK
  exact lv_iconst hC.1 hC.2.1 hd hv (k () hC hX hH hS hL (xo_c xo_I ho) hc hs hK)
theorem E_bipush {mm : xM} {d cb sb : Nat} {X : Nat × (Nat → Int32)} {Q : Option xV → xS → Prop} {pc : Nat} {ls : List (Option xV)} {st : List xV} {S : xS} {n : Int} {v : Int32} (hd : decode mm.2.1 pc = .ok (.bipush n, 2)) (hv : (Int8.ofInt n).toInt32 = v) (k : Ex mm d cb sb X Q (pc + 2) ls (xI v :: st) S) : Ex mm d cb sb X Q pc ls (st) S := by
  intro _ p l e R s m args below meth c H locs cells slots D A al cA L Qf lsA hC hX hH hS hL ho hc hs hK
  exact lv_bipush hC.1 hC.2.1 hd hv (k () hC hX hH hS hL (xo_c xo_I ho) hc hs hK)
theorem E_sipush {mm : xM} {d cb sb : Nat} {X : Nat × (Nat → Int32)} {Q : Option xV → xS → Prop} {pc : Nat} {ls : List (Option xV)} {st : List xV} {S : xS} {n : Int} {v : Int32} (hd : decode mm.2.1 pc = .ok (.sipush n, 3)) (hv : (Int16.ofInt n).toInt32 = v) (k : Ex mm d cb sb X Q (pc + 3) ls (xI v :: st) S) : Ex mm d cb sb X Q pc ls (st) S := by
  intro _ p l e R s m args below meth c H locs cells slots D A al cA L Qf lsA hC hX hH hS hL ho hc hs hK
  exact lv_sipush hC.1 hC.2.1 hd hv (k () hC hX hH hS hL (xo_c xo_I ho) hc hs hK)
theorem E_ldc {mm : xM} {d cb sb : Nat} {X : Nat × (Nat → Int32)} {Q : Option xV → xS → Prop} {pc : Nat} {ls : List (Option xV)} {st : List xV} {S : xS} {i : Nat} {v : Int32} (hd : decode mm.2.1 pc = .ok (.ldc i, 2)) (hw : Jvm.Cond.constant mm.1.cls i v ∈ xT) (k : Ex mm d cb sb X Q (pc + 2) ls (xI v :: st) S) : Ex mm d cb sb X Q pc ls (st) S := by
  intro _ p l e R s m args below meth c H locs cells slots D A al cA L Qf lsA hC hX hH hS hL ho hc hs hK
  exact lv_ldc hC.1 hC.2.1 hC.2.2.2.2.1 (hC.2.2.2.2.2.1 _ hw) hd (k () hC hX hH hS hL (xo_c xo_I ho) hc hs hK)
theorem E_ldcw {mm : xM} {d cb sb : Nat} {X : Nat × (Nat → Int32)} {Q : Option xV → xS → Prop} {pc : Nat} {ls : List (Option xV)} {st : List xV} {S : xS} {i : Nat} {v : Int32} (hd : decode mm.2.1 pc = .ok (.ldc_w i, 3)) (hw : Jvm.Cond.constant mm.1.cls i v ∈ xT) (k : Ex mm d cb sb X Q (pc + 3) ls (xI v :: st) S) : Ex mm d cb sb X Q pc ls (st) S := by
  intro _ p l e R s m args below meth c H locs cells slots D A al cA L Qf lsA hC hX hH hS hL ho hc hs hK
  exact lv_ldcw hC.1 hC.2.1 hC.2.2.2.2.1 (hC.2.2.2.2.2.1 _ hw) hd (k () hC hX hH hS hL (xo_c xo_I ho) hc hs hK)
theorem E_ldcf {mm : xM} {d cb sb : Nat} {X : Nat × (Nat → Int32)} {Q : Option xV → xS → Prop} {pc : Nat} {ls : List (Option xV)} {st : List xV} {S : xS} {i : Nat} {v : UInt32} (hd : decode mm.2.1 pc = .ok (.ldc i, 2)) (hw : Jvm.Cond.constantFloat mm.1.cls i v ∈ xT) (k : Ex mm d cb sb X Q (pc + 2) ls (xF v :: st) S) : Ex mm d cb sb X Q pc ls (st) S := by
  intro _ p l e R s m args below meth c H locs cells slots D A al cA L Qf lsA hC hX hH hS hL ho hc hs hK
  exact lv_ldcf hC.1 hC.2.1 hC.2.2.2.2.1 (hC.2.2.2.2.2.1 _ hw) hd (k () hC hX hH hS hL (xo_c xo_F ho) hc hs hK)
theorem E_ldc2 {mm : xM} {d cb sb : Nat} {X : Nat × (Nat → Int32)} {Q : Option xV → xS → Prop} {pc : Nat} {ls : List (Option xV)} {st : List xV} {S : xS} {i : Nat} {v : Int64} (hd : decode mm.2.1 pc = .ok (.ldc2_w i, 3)) (hw : Jvm.Cond.constantLong mm.1.cls i v ∈ xT) (k : Ex mm d cb sb X Q (pc + 3) ls (xJ v :: st) S) : Ex mm d cb sb X Q pc ls (st) S := by
  intro _ p l e R s m args below meth c H locs cells slots D A al cA L Qf lsA hC hX hH hS hL ho hc hs hK
  exact lv_ldc2 hC.1 hC.2.1 hC.2.2.2.2.1 (hC.2.2.2.2.2.1 _ hw) hd (k () hC hX hH hS hL (xo_c xo_J ho) hc hs hK)
theorem E_null {mm : xM} {d cb sb : Nat} {X : Nat × (Nat → Int32)} {Q : Option xV → xS → Prop} {pc : Nat} {ls : List (Option xV)} {st : List xV} {S : xS}  (hd : decode mm.2.1 pc = .ok (.aconst_null, 1)) (k : Ex mm d cb sb X Q (pc + 1) ls (xR none :: st) S) : Ex mm d cb sb X Q pc ls (st) S := by
  intro _ p l e R s m args below meth c H locs cells slots D A al cA L Qf lsA hC hX hH hS hL ho hc hs hK
  exact lv_null hC.1 hC.2.1 hd (k () hC hX hH hS hL (xo_c xo_n ho) hc hs hK)
theorem E_iload_n {mm : xM} {d cb sb : Nat} {X : Nat × (Nat → Int32)} {Q : Option xV → xS → Prop} {pc : Nat} {ls : List (Option xV)} {st : List xV} {S : xS} {k4 : Fin 4} {i : Nat} {x : Int32} (hd : decode mm.2.1 pc = .ok (.iload_n k4, 1)) (hi : (k4 : Nat) = i) (hl : ls[i]? = some (some (xI x))) (k : Ex mm d cb sb X Q (pc + 1) ls (xI x :: st) S) : Ex mm d cb sb X Q pc ls (st) S := by
  intro _ p l e R s m args below meth c H locs cells slots D A al cA L Qf lsA hC hX hH hS hL ho hc hs hK
  exact lv_iload_n hC.1 hC.2.1 hd hi (hL.2.2.2 i _ hl).1 (k () hC hX hH hS hL (xo_c xo_I ho) hc hs hK)
theorem E_iload {mm : xM} {d cb sb : Nat} {X : Nat × (Nat → Int32)} {Q : Option xV → xS → Prop} {pc : Nat} {ls : List (Option xV)} {st : List xV} {S : xS} {i : Nat} {x : Int32} (hd : decode mm.2.1 pc = .ok (.iload i, 2)) (hl : ls[i]? = some (some (xI x))) (k : Ex mm d cb sb X Q (pc + 2) ls (xI x :: st) S) : Ex mm d cb sb X Q pc ls (st) S := by
  intro _ p l e R s m args below meth c H locs cells slots D A al cA L Qf lsA hC hX hH hS hL ho hc hs hK
  exact lv_iload hC.1 hC.2.1 hd (hL.2.2.2 i _ hl).1 (k () hC hX hH hS hL (xo_c xo_I ho) hc hs hK)
theorem E_fload_n {mm : xM} {d cb sb : Nat} {X : Nat × (Nat → Int32)} {Q : Option xV → xS → Prop} {pc : Nat} {ls : List (Option xV)} {st : List xV} {S : xS} {k4 : Fin 4} {i : Nat} {x : UInt32} (hd : decode mm.2.1 pc = .ok (.fload_n k4, 1)) (hi : (k4 : Nat) = i) (hl : ls[i]? = some (some (xF x))) (k : Ex mm d cb sb X Q (pc + 1) ls (xF x :: st) S) : Ex mm d cb sb X Q pc ls (st) S := by
  intro _ p l e R s m args below meth c H locs cells slots D A al cA L Qf lsA hC hX hH hS hL ho hc hs hK
  exact lv_fload_n hC.1 hC.2.1 hd hi (hL.2.2.2 i _ hl).1 (k () hC hX hH hS hL (xo_c xo_F ho) hc hs hK)
theorem E_lload_n {mm : xM} {d cb sb : Nat} {X : Nat × (Nat → Int32)} {Q : Option xV → xS → Prop} {pc : Nat} {ls : List (Option xV)} {st : List xV} {S : xS} {k4 : Fin 4} {i : Nat} {x : Int64} (hd : decode mm.2.1 pc = .ok (.lload_n k4, 1)) (hi : (k4 : Nat) = i) (hl : ls[i]? = some (some (xJ x))) (k : Ex mm d cb sb X Q (pc + 1) ls (xJ x :: st) S) : Ex mm d cb sb X Q pc ls (st) S := by
  intro _ p l e R s m args below meth c H locs cells slots D A al cA L Qf lsA hC hX hH hS hL ho hc hs hK
  exact lv_lload_n hC.1 hC.2.1 hd hi (hL.2.2.2 i _ hl).1 (k () hC hX hH hS hL (xo_c xo_J ho) hc hs hK)
theorem E_aload_n {mm : xM} {d cb sb : Nat} {X : Nat × (Nat → Int32)} {Q : Option xV → xS → Prop} {pc : Nat} {ls : List (Option xV)} {st : List xV} {S : xS} {k4 : Fin 4} {i : Nat} {r : Option (Nat × Nat)} (hd : decode mm.2.1 pc = .ok (.aload_n k4, 1)) (hi : (k4 : Nat) = i) (hl : ls[i]? = some (some (xR r))) (k : Ex mm d cb sb X Q (pc + 1) ls (xR r :: st) S) : Ex mm d cb sb X Q pc ls (st) S := by
  intro _ p l e R s m args below meth c H locs cells slots D A al cA L Qf lsA hC hX hH hS hL ho hc hs hK
  obtain ⟨h1, h2⟩ := hL.2.2.2 i _ hl
  have hk := k () hC hX hH hS hL (xo_c h2 ho) hc hs hK
  cases r with
  | none => exact lv_aload_nN hC.1 hC.2.1 hd hi h1 hk
  | some q => exact lv_aload_n hC.1 hC.2.1 hd hi h1 hk
theorem E_aload {mm : xM} {d cb sb : Nat} {X : Nat × (Nat → Int32)} {Q : Option xV → xS → Prop} {pc : Nat} {ls : List (Option xV)} {st : List xV} {S : xS} {i : Nat} {r : Option (Nat × Nat)} (hd : decode mm.2.1 pc = .ok (.aload i, 2)) (hl : ls[i]? = some (some (xR r))) (k : Ex mm d cb sb X Q (pc + 2) ls (xR r :: st) S) : Ex mm d cb sb X Q pc ls (st) S := by
  intro _ p l e R s m args below meth c H locs cells slots D A al cA L Qf lsA hC hX hH hS hL ho hc hs hK
  obtain ⟨h1, h2⟩ := hL.2.2.2 i _ hl
  have hk := k () hC hX hH hS hL (xo_c h2 ho) hc hs hK
  cases r with
  | none => exact lv_aloadN hC.1 hC.2.1 hd h1 hk
  | some q => exact lv_aload hC.1 hC.2.1 hd h1 hk
theorem E_istore_n {mm : xM} {d cb sb : Nat} {X : Nat × (Nat → Int32)} {Q : Option xV → xS → Prop} {pc : Nat} {ls : List (Option xV)} {st : List xV} {S : xS} {k4 : Fin 4} {i : Nat} {x : Int32} (hd : decode mm.2.1 pc = .ok (.istore_n k4, 1)) (hi : (k4 : Nat) = i) (hn : i < mm.2.2.1) (hx : xnl ls i = true) (k : Ex mm d cb sb X Q (pc + 1) (ls.set i (some (xI x))) (st) S) : Ex mm d cb sb X Q pc ls (xI x :: st) S := by
  intro _ p l e R s m args below meth c H locs cells slots D A al cA L Qf lsA hC hX hH hS hL ho hc hs hK
  exact lv_istore_n hC.1 hC.2.1 hd hi (xL_has hL) hn rfl (fun ls2 h2 => k () hC hX hH hS (xL_put hL hx xo_I h2) (xo_t ho) hc hs hK)
theorem E_istore {mm : xM} {d cb sb : Nat} {X : Nat × (Nat → Int32)} {Q : Option xV → xS → Prop} {pc : Nat} {ls : List (Option xV)} {st : List xV} {S : xS} {i : Nat} {x : Int32} (hd : decode mm.2.1 pc = .ok (.istore i, 2)) (hn : i < mm.2.2.1) (hx : xnl ls i = true) (k : Ex mm d cb sb X Q (pc + 2) (ls.set i (some (xI x))) (st) S) : Ex mm d cb sb X Q pc ls (xI x :: st) S := by
  intro _ p l e R s m args below meth c H locs cells slots D A al cA L Qf lsA hC hX hH hS hL ho hc hs hK
  exact lv_istore hC.1 hC.2.1 hd (xL_has hL) hn rfl (fun ls2 h2 => k () hC hX hH hS (xL_put hL hx xo_I h2) (xo_t ho) hc hs hK)
theorem E_astore_n {mm : xM} {d cb sb : Nat} {X : Nat × (Nat → Int32)} {Q : Option xV → xS → Prop} {pc : Nat} {ls : List (Option xV)} {st : List xV} {S : xS} {k4 : Fin 4} {i : Nat} {r : Option (Nat × Nat)} (hd : decode mm.2.1 pc = .ok (.astore_n k4, 1)) (hi : (k4 : Nat) = i) (hn : i < mm.2.2.1) (hx : xnl ls i = true) (k : Ex mm d cb sb X Q (pc + 1) (ls.set i (some (xR r))) (st) S) : Ex mm d cb sb X Q pc ls (xR r :: st) S := by
  intro _ p l e R s m args below meth c H locs cells slots D A al cA L Qf lsA hC hX hH hS hL ho hc hs hK
  have hr := xo_h ho
  cases r with
  | none => exact lv_astore_nN hC.1 hC.2.1 hd hi (xL_has hL) hn rfl (fun ls2 h2 => k () hC hX hH hS (xL_put hL hx hr h2) (xo_t ho) hc hs hK)
  | some q => exact lv_astore_n hC.1 hC.2.1 hd hi (xL_has hL) hn rfl (fun ls2 h2 => k () hC hX hH hS (xL_put hL hx hr h2) (xo_t ho) hc hs hK)
theorem E_astore {mm : xM} {d cb sb : Nat} {X : Nat × (Nat → Int32)} {Q : Option xV → xS → Prop} {pc : Nat} {ls : List (Option xV)} {st : List xV} {S : xS} {i : Nat} {r : Option (Nat × Nat)} (hd : decode mm.2.1 pc = .ok (.astore i, 2)) (hn : i < mm.2.2.1) (hx : xnl ls i = true) (k : Ex mm d cb sb X Q (pc + 2) (ls.set i (some (xR r))) (st) S) : Ex mm d cb sb X Q pc ls (xR r :: st) S := by
  intro _ p l e R s m args below meth c H locs cells slots D A al cA L Qf lsA hC hX hH hS hL ho hc hs hK
  have hr := xo_h ho
  cases r with
  | none => exact lv_astoreN hC.1 hC.2.1 hd (xL_has hL) hn rfl (fun ls2 h2 => k () hC hX hH hS (xL_put hL hx hr h2) (xo_t ho) hc hs hK)
  | some q => exact lv_astore hC.1 hC.2.1 hd (xL_has hL) hn rfl (fun ls2 h2 => k () hC hX hH hS (xL_put hL hx hr h2) (xo_t ho) hc hs hK)
theorem E_lstore_n {mm : xM} {d cb sb : Nat} {X : Nat × (Nat → Int32)} {Q : Option xV → xS → Prop} {pc : Nat} {ls : List (Option xV)} {st : List xV} {S : xS} {k4 : Fin 4} {i : Nat} {x : Int64} (hd : decode mm.2.1 pc = .ok (.lstore_n k4, 1)) (hi : (k4 : Nat) = i) (hn : i + 1 < mm.2.2.1) (hx : xnl ls i = true) (k : Ex mm d cb sb X Q (pc + 1) ((ls.set i (some (xJ x))).set (i + 1) none) (st) S) : Ex mm d cb sb X Q pc ls (xJ x :: st) S := by
  intro _ p l e R s m args below meth c H locs cells slots D A al cA L Qf lsA hC hX hH hS hL ho hc hs hK
  exact lv_lstore_n hC.1 hC.2.1 hd hi (xL_has hL) hn rfl (fun ls2 h2 => k () hC hX hH hS (xL_put2 hL hx h2) (xo_t ho) hc hs hK)
theorem E_iinc {mm : xM} {d cb sb : Nat} {X : Nat × (Nat → Int32)} {Q : Option xV → xS → Prop} {pc : Nat} {ls : List (Option xV)} {st : List xV} {S : xS} {i : Nat} {n : Int} {x v : Int32} (hd : decode mm.2.1 pc = .ok (.iinc i n, 3)) (hl : ls[i]? = some (some (xI x))) (hv : x + Int32.ofInt n = v) (hn : i < mm.2.2.1) (hx : xnl ls i = true) (k : Ex mm d cb sb X Q (pc + 3) (ls.set i (some (xI v))) (st) S) : Ex mm d cb sb X Q pc ls (st) S := by
  intro _ p l e R s m args below meth c H locs cells slots D A al cA L Qf lsA hC hX hH hS hL ho hc hs hK
  have hh := xL_has hL
  obtain ⟨n2, hn2⟩ := List.getElem?_of_mem (xll_mem (al := al) hl)
  exact lv_iinc (k := n2) hC.1 hC.2.1 hd hh hn2 hv hn rfl (fun ls2 h2 => k () hC hX hH hS (xL_put hL hx xo_I h2) ho hc hs hK)
theorem E_iadd {mm : xM} {d cb sb : Nat} {X : Nat × (Nat → Int32)} {Q : Option xV → xS → Prop} {pc : Nat} {ls : List (Option xV)} {st : List xV} {S : xS} {x y : Int32} (hd : decode mm.2.1 pc = .ok (.iadd, 1))  (k : Ex mm d cb sb X Q (pc + 1) ls (xI (x + y) :: st) S) : Ex mm d cb sb X Q pc ls (xI y :: xI x :: st) S := by
  intro _ p l e R s m args below meth c H locs cells slots D A al cA L Qf lsA hC hX hH hS hL ho hc hs hK
  exact lv_iadd hC.1 hC.2.1 hd (k () hC hX hH hS hL (xo_c xo_I (xo_t (xo_t ho))) hc hs hK)
theorem E_isub {mm : xM} {d cb sb : Nat} {X : Nat × (Nat → Int32)} {Q : Option xV → xS → Prop} {pc : Nat} {ls : List (Option xV)} {st : List xV} {S : xS} {x y : Int32} (hd : decode mm.2.1 pc = .ok (.isub, 1))  (k : Ex mm d cb sb X Q (pc + 1) ls (xI (x - y) :: st) S) : Ex mm d cb sb X Q pc ls (xI y :: xI x :: st) S := by
  intro _ p l e R s m args below meth c H locs cells slots D A al cA L Qf lsA hC hX hH hS hL ho hc hs hK
  exact lv_isub hC.1 hC.2.1 hd (k () hC hX hH hS hL (xo_c xo_I (xo_t (xo_t ho))) hc hs hK)
theorem E_imul {mm : xM} {d cb sb : Nat} {X : Nat × (Nat → Int32)} {Q : Option xV → xS → Prop} {pc : Nat} {ls : List (Option xV)} {st : List xV} {S : xS} {x y : Int32} (hd : decode mm.2.1 pc = .ok (.imul, 1))  (k : Ex mm d cb sb X Q (pc + 1) ls (xI (x * y) :: st) S) : Ex mm d cb sb X Q pc ls (xI y :: xI x :: st) S := by
  intro _ p l e R s m args below meth c H locs cells slots D A al cA L Qf lsA hC hX hH hS hL ho hc hs hK
  exact lv_imul hC.1 hC.2.1 hd (k () hC hX hH hS hL (xo_c xo_I (xo_t (xo_t ho))) hc hs hK)
theorem E_iand {mm : xM} {d cb sb : Nat} {X : Nat × (Nat → Int32)} {Q : Option xV → xS → Prop} {pc : Nat} {ls : List (Option xV)} {st : List xV} {S : xS} {x y : Int32} (hd : decode mm.2.1 pc = .ok (.iand, 1))  (k : Ex mm d cb sb X Q (pc + 1) ls (xI (x &&& y) :: st) S) : Ex mm d cb sb X Q pc ls (xI y :: xI x :: st) S := by
  intro _ p l e R s m args below meth c H locs cells slots D A al cA L Qf lsA hC hX hH hS hL ho hc hs hK
  exact lv_iand hC.1 hC.2.1 hd (k () hC hX hH hS hL (xo_c xo_I (xo_t (xo_t ho))) hc hs hK)
theorem E_ior {mm : xM} {d cb sb : Nat} {X : Nat × (Nat → Int32)} {Q : Option xV → xS → Prop} {pc : Nat} {ls : List (Option xV)} {st : List xV} {S : xS} {x y : Int32} (hd : decode mm.2.1 pc = .ok (.ior, 1))  (k : Ex mm d cb sb X Q (pc + 1) ls (xI (x ||| y) :: st) S) : Ex mm d cb sb X Q pc ls (xI y :: xI x :: st) S := by
  intro _ p l e R s m args below meth c H locs cells slots D A al cA L Qf lsA hC hX hH hS hL ho hc hs hK
  exact lv_ior hC.1 hC.2.1 hd (k () hC hX hH hS hL (xo_c xo_I (xo_t (xo_t ho))) hc hs hK)
theorem E_ishl {mm : xM} {d cb sb : Nat} {X : Nat × (Nat → Int32)} {Q : Option xV → xS → Prop} {pc : Nat} {ls : List (Option xV)} {st : List xV} {S : xS} {x y : Int32} (hd : decode mm.2.1 pc = .ok (.ishl, 1))  (k : Ex mm d cb sb X Q (pc + 1) ls (xI (x <<< (y &&& 31)) :: st) S) : Ex mm d cb sb X Q pc ls (xI y :: xI x :: st) S := by
  intro _ p l e R s m args below meth c H locs cells slots D A al cA L Qf lsA hC hX hH hS hL ho hc hs hK
  exact lv_ishl hC.1 hC.2.1 hd (k () hC hX hH hS hL (xo_c xo_I (xo_t (xo_t ho))) hc hs hK)
theorem E_ishr {mm : xM} {d cb sb : Nat} {X : Nat × (Nat → Int32)} {Q : Option xV → xS → Prop} {pc : Nat} {ls : List (Option xV)} {st : List xV} {S : xS} {x y : Int32} (hd : decode mm.2.1 pc = .ok (.ishr, 1))  (k : Ex mm d cb sb X Q (pc + 1) ls (xI (x >>> (y &&& 31)) :: st) S) : Ex mm d cb sb X Q pc ls (xI y :: xI x :: st) S := by
  intro _ p l e R s m args below meth c H locs cells slots D A al cA L Qf lsA hC hX hH hS hL ho hc hs hK
  exact lv_ishr hC.1 hC.2.1 hd (k () hC hX hH hS hL (xo_c xo_I (xo_t (xo_t ho))) hc hs hK)
theorem E_idiv {mm : xM} {d cb sb : Nat} {X : Nat × (Nat → Int32)} {Q : Option xV → xS → Prop} {pc : Nat} {ls : List (Option xV)} {st : List xV} {S : xS} {x y : Int32} (hd : decode mm.2.1 pc = .ok (.idiv, 1)) (hne : ¬ y = 0) (k : Ex mm d cb sb X Q (pc + 1) ls (xI (x / y) :: st) S) : Ex mm d cb sb X Q pc ls (xI y :: xI x :: st) S := by
  intro _ p l e R s m args below meth c H locs cells slots D A al cA L Qf lsA hC hX hH hS hL ho hc hs hK
  exact lv_idiv hC.1 hC.2.1 hd hne (k () hC hX hH hS hL (xo_c xo_I (xo_t (xo_t ho))) hc hs hK)
theorem E_iushr {mm : xM} {d cb sb : Nat} {X : Nat × (Nat → Int32)} {Q : Option xV → xS → Prop} {pc : Nat} {ls : List (Option xV)} {st : List xV} {S : xS} {x y v : Int32} (hd : decode mm.2.1 pc = .ok (.iushr, 1)) (hv : (x.toUInt32 >>> (y.toUInt32 &&& Int32.toUInt32 31)).toInt32 = v) (k : Ex mm d cb sb X Q (pc + 1) ls (xI v :: st) S) : Ex mm d cb sb X Q pc ls (xI y :: xI x :: st) S := by
  intro _ p l e R s m args below meth c H locs cells slots D A al cA L Qf lsA hC hX hH hS hL ho hc hs hK
  exact lv_iushr hC.1 hC.2.1 hd hv (k () hC hX hH hS hL (xo_c xo_I (xo_t (xo_t ho))) hc hs hK)
theorem E_ineg {mm : xM} {d cb sb : Nat} {X : Nat × (Nat → Int32)} {Q : Option xV → xS → Prop} {pc : Nat} {ls : List (Option xV)} {st : List xV} {S : xS} {x : Int32} (hd : decode mm.2.1 pc = .ok (.ineg, 1)) (k : Ex mm d cb sb X Q (pc + 1) ls (xI (-x) :: st) S) : Ex mm d cb sb X Q pc ls (xI x :: st) S := by
  intro _ p l e R s m args below meth c H locs cells slots D A al cA L Qf lsA hC hX hH hS hL ho hc hs hK
  exact lv_ineg hC.1 hC.2.1 hd (k () hC hX hH hS hL (xo_c xo_I (xo_t ho)) hc hs hK)
theorem E_i2l {mm : xM} {d cb sb : Nat} {X : Nat × (Nat → Int32)} {Q : Option xV → xS → Prop} {pc : Nat} {ls : List (Option xV)} {st : List xV} {S : xS} {x : Int32} (hd : decode mm.2.1 pc = .ok (.i2l, 1)) (k : Ex mm d cb sb X Q (pc + 1) ls (xJ (x.toInt64) :: st) S) : Ex mm d cb sb X Q pc ls (xI x :: st) S := by
  intro _ p l e R s m args below meth c H locs cells slots D A al cA L Qf lsA hC hX hH hS hL ho hc hs hK
  exact lv_i2l hC.1 hC.2.1 hd rfl (k () hC hX hH hS hL (xo_c xo_J (xo_t ho)) hc hs hK)
theorem E_lmul {mm : xM} {d cb sb : Nat} {X : Nat × (Nat → Int32)} {Q : Option xV → xS → Prop} {pc : Nat} {ls : List (Option xV)} {st : List xV} {S : xS} {x y : Int64} (hd : decode mm.2.1 pc = .ok (.lmul, 1)) (k : Ex mm d cb sb X Q (pc + 1) ls (xJ (x * y) :: st) S) : Ex mm d cb sb X Q pc ls (xJ y :: xJ x :: st) S := by
  intro _ p l e R s m args below meth c H locs cells slots D A al cA L Qf lsA hC hX hH hS hL ho hc hs hK
  exact lv_lmul hC.1 hC.2.1 hd (k () hC hX hH hS hL (xo_c xo_J (xo_t (xo_t ho))) hc hs hK)
theorem E_i2f {mm : xM} {d cb sb : Nat} {X : Nat × (Nat → Int32)} {Q : Option xV → xS → Prop} {pc : Nat} {ls : List (Option xV)} {st : List xV} {S : xS} {x : Int32} (hd : decode mm.2.1 pc = .ok (.i2f, 1)) (k : Ex mm d cb sb X Q (pc + 1) ls (xF (FP.i2f x) :: st) S) : Ex mm d cb sb X Q pc ls (xI x :: st) S := by
  intro _ p l e R s m args below meth c H locs cells slots D A al cA L Qf lsA hC hX hH hS hL ho hc hs hK
  exact lv_i2f hC.1 hC.2.1 hd (k () hC hX hH hS hL (xo_c xo_F (xo_t ho)) hc hs hK)
theorem E_f2i {mm : xM} {d cb sb : Nat} {X : Nat × (Nat → Int32)} {Q : Option xV → xS → Prop} {pc : Nat} {ls : List (Option xV)} {st : List xV} {S : xS} {x : UInt32} (hd : decode mm.2.1 pc = .ok (.f2i, 1)) (k : Ex mm d cb sb X Q (pc + 1) ls (xI (FP.f2i x) :: st) S) : Ex mm d cb sb X Q pc ls (xF x :: st) S := by
  intro _ p l e R s m args below meth c H locs cells slots D A al cA L Qf lsA hC hX hH hS hL ho hc hs hK
  exact lv_f2i hC.1 hC.2.1 hd (k () hC hX hH hS hL (xo_c xo_I (xo_t ho)) hc hs hK)
theorem E_fmul {mm : xM} {d cb sb : Nat} {X : Nat × (Nat → Int32)} {Q : Option xV → xS → Prop} {pc : Nat} {ls : List (Option xV)} {st : List xV} {S : xS} {x y : UInt32} (hd : decode mm.2.1 pc = .ok (.fmul, 1)) (hne : vf_n32 (FP.fmul x y)) (k : Ex mm d cb sb X Q (pc + 1) ls (xF (FP.fmul x y) :: st) S) : Ex mm d cb sb X Q pc ls (xF y :: xF x :: st) S := by
  intro _ p l e R s m args below meth c H locs cells slots D A al cA L Qf lsA hC hX hH hS hL ho hc hs hK
  exact lv_fmul hC.1 hC.2.1 hd hne (k () hC hX hH hS hL (xo_c xo_F (xo_t (xo_t ho))) hc hs hK)
theorem E_fcmp {mm : xM} {d cb sb : Nat} {X : Nat × (Nat → Int32)} {Q : Option xV → xS → Prop} {pc : Nat} {ls : List (Option xV)} {st : List xV} {S : xS} {x y : UInt32} {op : CmpOp} (hd : decode mm.2.1 pc = .ok (.fcmp op, 1)) (k : Ex mm d cb sb X Q (pc + 1) ls (xI (Op.cmpValue (FP.fcmp x y) op) :: st) S) : Ex mm d cb sb X Q pc ls (xF y :: xF x :: st) S := by
  intro _ p l e R s m args below meth c H locs cells slots D A al cA L Qf lsA hC hX hH hS hL ho hc hs hK
  exact lv_fcmp hC.1 hC.2.1 hd (k () hC hX hH hS hL (xo_c xo_I (xo_t (xo_t ho))) hc hs hK)
theorem E_dup {mm : xM} {d cb sb : Nat} {X : Nat × (Nat → Int32)} {Q : Option xV → xS → Prop} {pc : Nat} {ls : List (Option xV)} {st : List xV} {S : xS} {v : xV} (hd : decode mm.2.1 pc = .ok (.dup, 1)) (hv : xlong v = false) (k : Ex mm d cb sb X Q (pc + 1) ls (v :: v :: st) S) : Ex mm d cb sb X Q pc ls (v :: st) S := by
  intro _ p l e R s m args below meth c H locs cells slots D A al cA L Qf lsA hC hX hH hS hL ho hc hs hK
  exact lv_dup hC.1 hC.2.1 hd (xcat al v hv) (k () hC hX hH hS hL (xo_c (xo_h ho) ho) hc hs hK)
theorem E_dup2 {mm : xM} {d cb sb : Nat} {X : Nat × (Nat → Int32)} {Q : Option xV → xS → Prop} {pc : Nat} {ls : List (Option xV)} {st : List xV} {S : xS} {v w : xV} (hd : decode mm.2.1 pc = .ok (.dup2, 1)) (hv : xlong v = false) (hw : xlong w = false) (k : Ex mm d cb sb X Q (pc + 1) ls (v :: w :: v :: w :: st) S) : Ex mm d cb sb X Q pc ls (v :: w :: st) S := by
  intro _ p l e R s m args below meth c H locs cells slots D A al cA L Qf lsA hC hX hH hS hL ho hc hs hK
  exact lv_dup2_11 hC.1 hC.2.1 hd (xcat al v hv) (xcat al w hw) (k () hC hX hH hS hL (xo_c (xo_h ho) (xo_c (xo_h (xo_t ho)) ho)) hc hs hK)
theorem E_if_eq {mm : xM} {d cb sb : Nat} {X : Nat × (Nat → Int32)} {Q : Option xV → xS → Prop} {pc : Nat} {ls : List (Option xV)} {st : List xV} {S : xS} {x : Int32} {off : Int} {tgt : Nat} (hd : decode mm.2.1 pc = .ok (.ifCond .eq off, 3)) (ht : (pc : Int) + off = (tgt : Int)) (kt : x = 0 → Ex mm d cb sb X Q tgt ls st S) (kf : ¬ x = 0 → Ex mm d cb sb X Q (pc + 3) ls st S) : Ex mm d cb sb X Q pc ls (xI x :: st) S := by
  intro _ p l e R s m args below meth c H locs cells slots D A al cA L Qf lsA hC hX hH hS hL ho hc hs hK
  exact lv_if_eq hC.1 hC.2.1 hd ht (fun h => kt h () hC hX hH hS hL (xo_t ho) hc hs hK) (fun h => kf h () hC hX hH hS hL (xo_t ho) hc hs hK)
theorem E_icmp_eq {mm : xM} {d cb sb : Nat} {X : Nat × (Nat → Int32)} {Q : Option xV → xS → Prop} {pc : Nat} {ls : List (Option xV)} {st : List xV} {S : xS} {x y : Int32} {off : Int} {tgt : Nat} (hd : decode mm.2.1 pc = .ok (.if_icmp .eq off, 3)) (ht : (pc : Int) + off = (tgt : Int)) (kt : x = y → Ex mm d cb sb X Q tgt ls st S) (kf : ¬ x = y → Ex mm d cb sb X Q (pc + 3) ls st S) : Ex mm d cb sb X Q pc ls (xI y :: xI x :: st) S := by
  intro _ p l e R s m args below meth c H locs cells slots D A al cA L Qf lsA hC hX hH hS hL ho hc hs hK
  exact lv_icmp_eq hC.1 hC.2.1 hd ht (fun h => kt h () hC hX hH hS hL (xo_t (xo_t ho)) hc hs hK) (fun h => kf h () hC hX hH hS hL (xo_t (xo_t ho)) hc hs hK)
theorem E_if_ne {mm : xM} {d cb sb : Nat} {X : Nat × (Nat → Int32)} {Q : Option xV → xS → Prop} {pc : Nat} {ls : List (Option xV)} {st : List xV} {S : xS} {x : Int32} {off : Int} {tgt : Nat} (hd : decode mm.2.1 pc = .ok (.ifCond .ne off, 3)) (ht : (pc : Int) + off = (tgt : Int)) (kt : ¬ x = 0 → Ex mm d cb sb X Q tgt ls st S) (kf : x = 0 → Ex mm d cb sb X Q (pc + 3) ls st S) : Ex mm d cb sb X Q pc ls (xI x :: st) S := by
  intro _ p l e R s m args below meth c H locs cells slots D A al cA L Qf lsA hC hX hH hS hL ho hc hs hK
  exact lv_if_ne hC.1 hC.2.1 hd ht (fun h => kt h () hC hX hH hS hL (xo_t ho) hc hs hK) (fun h => kf h () hC hX hH hS hL (xo_t ho) hc hs hK)
theorem E_icmp_ne {mm : xM} {d cb sb : Nat} {X : Nat × (Nat → Int32)} {Q : Option xV → xS → Prop} {pc : Nat} {ls : List (Option xV)} {st : List xV} {S : xS} {x y : Int32} {off : Int} {tgt : Nat} (hd : decode mm.2.1 pc = .ok (.if_icmp .ne off, 3)) (ht : (pc : Int) + off = (tgt : Int)) (kt : ¬ x = y → Ex mm d cb sb X Q tgt ls st S) (kf : x = y → Ex mm d cb sb X Q (pc + 3) ls st S) : Ex mm d cb sb X Q pc ls (xI y :: xI x :: st) S := by
  intro _ p l e R s m args below meth c H locs cells slots D A al cA L Qf lsA hC hX hH hS hL ho hc hs hK
  exact lv_icmp_ne hC.1 hC.2.1 hd ht (fun h => kt h () hC hX hH hS hL (xo_t (xo_t ho)) hc hs hK) (fun h => kf h () hC hX hH hS hL (xo_t (xo_t ho)) hc hs hK)
theorem E_if_lt {mm : xM} {d cb sb : Nat} {X : Nat × (Nat → Int32)} {Q : Option xV → xS → Prop} {pc : Nat} {ls : List (Option xV)} {st : List xV} {S : xS} {x : Int32} {off : Int} {tgt : Nat} (hd : decode mm.2.1 pc = .ok (.ifCond .lt off, 3)) (ht : (pc : Int) + off = (tgt : Int)) (kt : x < 0 → Ex mm d cb sb X Q tgt ls st S) (kf : ¬ x < 0 → Ex mm d cb sb X Q (pc + 3) ls st S) : Ex mm d cb sb X Q pc ls (xI x :: st) S := by
  intro _ p l e R s m args below meth c H locs cells slots D A al cA L Qf lsA hC hX hH hS hL ho hc hs hK
  exact lv_if_lt hC.1 hC.2.1 hd ht (fun h => kt h () hC hX hH hS hL (xo_t ho) hc hs hK) (fun h => kf h () hC hX hH hS hL (xo_t ho) hc hs hK)
theorem E_icmp_lt {mm : xM} {d cb sb : Nat} {X : Nat × (Nat → Int32)} {Q : Option xV → xS → Prop} {pc : Nat} {ls : List (Option xV)} {st : List xV} {S : xS} {x y : Int32} {off : Int} {tgt : Nat} (hd : decode mm.2.1 pc = .ok (.if_icmp .lt off, 3)) (ht : (pc : Int) + off = (tgt : Int)) (kt : x < y → Ex mm d cb sb X Q tgt ls st S) (kf : ¬ x < y → Ex mm d cb sb X Q (pc + 3) ls st S) : Ex mm d cb sb X Q pc ls (xI y :: xI x :: st) S := by
  intro _ p l e R s m args below meth c H locs cells slots D A al cA L Qf lsA hC hX hH hS hL ho hc hs hK
  exact lv_icmp_lt hC.1 hC.2.1 hd ht (fun h => kt h () hC hX hH hS hL (xo_t (xo_t ho)) hc hs hK) (fun h => kf h () hC hX hH hS hL (xo_t (xo_t ho)) hc hs hK)
theorem E_if_ge {mm : xM} {d cb sb : Nat} {X : Nat × (Nat → Int32)} {Q : Option xV → xS → Prop} {pc : Nat} {ls : List (Option xV)} {st : List xV} {S : xS} {x : Int32} {off : Int} {tgt : Nat} (hd : decode mm.2.1 pc = .ok (.ifCond .ge off, 3)) (ht : (pc : Int) + off = (tgt : Int)) (kt : 0 ≤ x → Ex mm d cb sb X Q tgt ls st S) (kf : ¬ 0 ≤ x → Ex mm d cb sb X Q (pc + 3) ls st S) : Ex mm d cb sb X Q pc ls (xI x :: st) S := by
  intro _ p l e R s m args below meth c H locs cells slots D A al cA L Qf lsA hC hX hH hS hL ho hc hs hK
  exact lv_if_ge hC.1 hC.2.1 hd ht (fun h => kt h () hC hX hH hS hL (xo_t ho) hc hs hK) (fun h => kf h () hC hX hH hS hL (xo_t ho) hc hs hK)
theorem E_icmp_ge {mm : xM} {d cb sb : Nat} {X : Nat × (Nat → Int32)} {Q : Option xV → xS → Prop} {pc : Nat} {ls : List (Option xV)} {st : List xV} {S : xS} {x y : Int32} {off : Int} {tgt : Nat} (hd : decode mm.2.1 pc = .ok (.if_icmp .ge off, 3)) (ht : (pc : Int) + off = (tgt : Int)) (kt : y ≤ x → Ex mm d cb sb X Q tgt ls st S) (kf : ¬ y ≤ x → Ex mm d cb sb X Q (pc + 3) ls st S) : Ex mm d cb sb X Q pc ls (xI y :: xI x :: st) S := by
  intro _ p l e R s m args below meth c H locs cells slots D A al cA L Qf lsA hC hX hH hS hL ho hc hs hK
  exact lv_icmp_ge hC.1 hC.2.1 hd ht (fun h => kt h () hC hX hH hS hL (xo_t (xo_t ho)) hc hs hK) (fun h => kf h () hC hX hH hS hL (xo_t (xo_t ho)) hc hs hK)
theorem E_if_gt {mm : xM} {d cb sb : Nat} {X : Nat × (Nat → Int32)} {Q : Option xV → xS → Prop} {pc : Nat} {ls : List (Option xV)} {st : List xV} {S : xS} {x : Int32} {off : Int} {tgt : Nat} (hd : decode mm.2.1 pc = .ok (.ifCond .gt off, 3)) (ht : (pc : Int) + off = (tgt : Int)) (kt : 0 < x → Ex mm d cb sb X Q tgt ls st S) (kf : ¬ 0 < x → Ex mm d cb sb X Q (pc + 3) ls st S) : Ex mm d cb sb X Q pc ls (xI x :: st) S := by
  intro _ p l e R s m args below meth c H locs cells slots D A al cA L Qf lsA hC hX hH hS hL ho hc hs hK
  exact lv_if_gt hC.1 hC.2.1 hd ht (fun h => kt h () hC hX hH hS hL (xo_t ho) hc hs hK) (fun h => kf h () hC hX hH hS hL (xo_t ho) hc hs hK)
theorem E_icmp_gt {mm : xM} {d cb sb : Nat} {X : Nat × (Nat → Int32)} {Q : Option xV → xS → Prop} {pc : Nat} {ls : List (Option xV)} {st : List xV} {S : xS} {x y : Int32} {off : Int} {tgt : Nat} (hd : decode mm.2.1 pc = .ok (.if_icmp .gt off, 3)) (ht : (pc : Int) + off = (tgt : Int)) (kt : y < x → Ex mm d cb sb X Q tgt ls st S) (kf : ¬ y < x → Ex mm d cb sb X Q (pc + 3) ls st S) : Ex mm d cb sb X Q pc ls (xI y :: xI x :: st) S := by
  intro _ p l e R s m args below meth c H locs cells slots D A al cA L Qf lsA hC hX hH hS hL ho hc hs hK
  exact lv_icmp_gt hC.1 hC.2.1 hd ht (fun h => kt h () hC hX hH hS hL (xo_t (xo_t ho)) hc hs hK) (fun h => kf h () hC hX hH hS hL (xo_t (xo_t ho)) hc hs hK)
theorem E_if_le {mm : xM} {d cb sb : Nat} {X : Nat × (Nat → Int32)} {Q : Option xV → xS → Prop} {pc : Nat} {ls : List (Option xV)} {st : List xV} {S : xS} {x : Int32} {off : Int} {tgt : Nat} (hd : decode mm.2.1 pc = .ok (.ifCond .le off, 3)) (ht : (pc : Int) + off = (tgt : Int)) (kt : x ≤ 0 → Ex mm d cb sb X Q tgt ls st S) (kf : ¬ x ≤ 0 → Ex mm d cb sb X Q (pc + 3) ls st S) : Ex mm d cb sb X Q pc ls (xI x :: st) S := by
  intro _ p l e R s m args below meth c H locs cells slots D A al cA L Qf lsA hC hX hH hS hL ho hc hs hK
  exact lv_if_le hC.1 hC.2.1 hd ht (fun h => kt h () hC hX hH hS hL (xo_t ho) hc hs hK) (fun h => kf h () hC hX hH hS hL (xo_t ho) hc hs hK)
theorem E_icmp_le {mm : xM} {d cb sb : Nat} {X : Nat × (Nat → Int32)} {Q : Option xV → xS → Prop} {pc : Nat} {ls : List (Option xV)} {st : List xV} {S : xS} {x y : Int32} {off : Int} {tgt : Nat} (hd : decode mm.2.1 pc = .ok (.if_icmp .le off, 3)) (ht : (pc : Int) + off = (tgt : Int)) (kt : x ≤ y → Ex mm d cb sb X Q tgt ls st S) (kf : ¬ x ≤ y → Ex mm d cb sb X Q (pc + 3) ls st S) : Ex mm d cb sb X Q pc ls (xI y :: xI x :: st) S := by
  intro _ p l e R s m args below meth c H locs cells slots D A al cA L Qf lsA hC hX hH hS hL ho hc hs hK
  exact lv_icmp_le hC.1 hC.2.1 hd ht (fun h => kt h () hC hX hH hS hL (xo_t (xo_t ho)) hc hs hK) (fun h => kf h () hC hX hH hS hL (xo_t (xo_t ho)) hc hs hK)
theorem E_goto {mm : xM} {d cb sb : Nat} {X : Nat × (Nat → Int32)} {Q : Option xV → xS → Prop} {pc : Nat} {ls : List (Option xV)} {st : List xV} {S : xS} {off : Int} {tgt : Nat} (hd : decode mm.2.1 pc = .ok (.goto off, 3)) (ht : (pc : Int) + off = (tgt : Int)) (k : Ex mm d cb sb X Q (tgt) ls (st) S) : Ex mm d cb sb X Q pc ls (st) S := by
  intro _ p l e R s m args below meth c H locs cells slots D A al cA L Qf lsA hC hX hH hS hL ho hc hs hK
  exact lv_goto hC.1 hC.2.1 hd ht (k () hC hX hH hS hL (ho) hc hs hK)
theorem E_ifnull {mm : xM} {d cb sb : Nat} {X : Nat × (Nat → Int32)} {Q : Option xV → xS → Prop} {pc : Nat} {ls : List (Option xV)} {st : List xV} {S : xS} {r : Option (Nat × Nat)} {off : Int} {tgt : Nat} (hd : decode mm.2.1 pc = .ok (.ifnull off, 3)) (ht : (pc : Int) + off = (tgt : Int)) (kt : r = none → Ex mm d cb sb X Q tgt ls st S) (kf : ∀ q, r = some q → Ex mm d cb sb X Q (pc + 3) ls st S) : Ex mm d cb sb X Q pc ls (xR r :: st) S := by
  intro _ p l e R s m args below meth c H locs cells slots D A al cA L Qf lsA hC hX hH hS hL ho hc hs hK
  cases r with
  | none => exact lv_ifnullN hC.1 hC.2.1 hd ht (kt rfl () hC hX hH hS hL (xo_t ho) hc hs hK)
  | some q => exact lv_ifnull hC.1 hC.2.1 hd (kf q rfl () hC hX hH hS hL (xo_t ho) hc hs hK)
theorem E_ifnonnull {mm : xM} {d cb sb : Nat} {X : Nat × (Nat → Int32)} {Q : Option xV → xS → Prop} {pc : Nat} {ls : List (Option xV)} {st : List xV} {S : xS} {r : Option (Nat × Nat)} {off : Int} {tgt : Nat} (hd : decode mm.2.1 pc = .ok (.ifnonnull off, 3)) (ht : (pc : Int) + off = (tgt : Int)) (kt : ∀ q, r = some q → Ex mm d cb sb X Q tgt ls st S) (kf : r = none → Ex mm d cb sb X Q (pc + 3) ls st S) : Ex mm d cb sb X Q pc ls (xR r :: st) S := by
  intro _ p l e R s m args below meth c H locs cells slots D A al cA L Qf lsA hC hX hH hS hL ho hc hs hK
  cases r with
  | none => exact lv_ifnonnullN hC.1 hC.2.1 hd (kf rfl () hC hX hH hS hL (xo_t ho) hc hs hK)
  | some q => exact lv_ifnonnull hC.1 hC.2.1 hd ht (kt q rfl () hC hX hH hS hL (xo_t ho) hc hs hK)
theorem E_acmp_ne {mm : xM} {d cb sb : Nat} {X : Nat × (Nat → Int32)} {Q : Option xV → xS → Prop} {pc : Nat} {ls : List (Option xV)} {st : List xV} {S : xS} {r1 r2 : Option (Nat × Nat)} {off : Int} {tgt : Nat} (hd : decode mm.2.1 pc = .ok (.if_acmp .ne off, 3)) (ht : (pc : Int) + off = (tgt : Int)) (h1 : ∀ q, r1 = some q → q.1 ≠ 99) (h2 : ∀ q, r2 = some q → q.1 ≠ 99) (kt : ¬ r1 = r2 → Ex mm d cb sb X Q tgt ls st S) (kf : r1 = r2 → Ex mm d cb sb X Q (pc + 3) ls st S) : Ex mm d cb sb X Q pc ls (xR r2 :: xR r1 :: st) S := by
  intro _ p l e R s m args below meth c H locs cells slots D A al cA L Qf lsA hC hX hH hS hL ho hc hs hK
  have o2 := xo_h ho
  have o1 := xo_h (xo_t ho)
  have hinj : r1.map al = r2.map al → r1 = r2 := by
    intro h
    cases r1 with
    | none => cases r2 with
      | none => rfl
      | some q => cases h
    | some q1 => cases r2 with
      | none => cases h
      | some q2 =>
        have m1 : q1 ∈ L := (hH.2.2.1 q1).mpr ((o1 q1 rfl).resolve_right (h1 q1 rfl))
        have m2 : q2 ∈ L := (hH.2.2.1 q2).mpr ((o2 q2 rfl).resolve_right (h2 q2 rfl))
        rw [xw_al hH.2.1 m1 m2 (Option.some.inj h)]
  exact lv_acmp_ne hC.1 hC.2.1 hd ht (fun h => kt (fun z => h (by rw [z])) () hC hX hH hS hL (xo_t (xo_t ho)) hc hs hK) (fun h => kf (hinj h) () hC hX hH hS hL (xo_t (xo_t ho)) hc hs hK)
theorem E_tabIn {mm : xM} {d cb sb : Nat} {X : Nat × (Nat → Int32)} {Q : Option xV → xS → Prop} {pc : Nat} {ls : List (Option xV)} {st : List xV} {S : xS} {dflt lo hi off : Int} {offs : Array Int} {len tgt : Nat} {x : Int32} (hd : decode mm.2.1 pc = .ok (.tableswitch dflt lo hi offs, len)) (h1 : ¬ x.toInt < lo) (h2 : ¬ hi < x.toInt) (h3 : offs[(x.toInt - lo).toNat]? = some off) (ht : (pc : Int) + off = (tgt : Int)) (k : Ex mm d cb sb X Q (tgt) ls (st) S) : Ex mm d cb sb X Q pc ls (xI x :: st) S := by
  intro _ p l e R s m args below meth c H locs cells slots D A al cA L Qf lsA hC hX hH hS hL ho hc hs hK
  exact lv_tableIn hC.1 hC.2.1 hd h1 h2 h3 ht (k () hC hX hH hS hL (xo_t ho) hc hs hK)
theorem E_tabOut {mm : xM} {d cb sb : Nat} {X : Nat × (Nat → Int32)} {Q : Option xV → xS → Prop} {pc : Nat} {ls : List (Option xV)} {st : List xV} {S : xS} {dflt lo hi : Int} {offs : Array Int} {len tgt : Nat} {x : Int32} (hd : decode mm.2.1 pc = .ok (.tableswitch dflt lo hi offs, len)) (h1 : x.toInt < lo ∨ hi < x.toInt) (ht : (pc : Int) + dflt = (tgt : Int)) (k : Ex mm d cb sb X Q (tgt) ls (st) S) : Ex mm d cb sb X Q pc ls (xI x :: st) S := by
  intro _ p l e R s m args below meth c H locs cells slots D A al cA L Qf lsA hC hX hH hS hL ho hc hs hK
  exact lv_tableOut hC.1 hC.2.1 hd h1 ht (k () hC hX hH hS hL (xo_t ho) hc hs hK)
theorem E_iret {mm : xM} {d cb sb : Nat} {X : Nat × (Nat → Int32)} {Q : Option xV → xS → Prop} {pc : Nat} {ls : List (Option xV)} {S : xS} {x : Int32} {ty : FieldType} (hd : decode mm.2.1 pc = .ok (.ireturn, 1)) (hr : mm.2.2.2 = some ty) (hn : narrow ty (.int x) = .int x) (hq : Q (some (xI x)) S)  : Ex mm d cb sb X Q pc ls ([xI x]) S := by
  intro _ p l e R s m args below meth c H locs cells slots D A al cA L Qf lsA hC hX hH hS hL ho hc hs hK
  exact hK (some (xI x)) S al cA L H locs cells slots pc lsA hq xExt.rf hH hS (fun w hw => by cases hw; exact xo_I) (by omega) (by omega) ⟨ty, hr, hn, hd⟩
theorem E_aret {mm : xM} {d cb sb : Nat} {X : Nat × (Nat → Int32)} {Q : Option xV → xS → Prop} {pc : Nat} {ls : List (Option xV)} {S : xS} {r : Option (Nat × Nat)} {ty : FieldType} (hd : decode mm.2.1 pc = .ok (.areturn, 1)) (hr : mm.2.2.2 = some ty) (hn : (∃ n, ty = .object n) ∨ ∃ t, ty = .array t) (hq : Q (some (xR r)) S)  : Ex mm d cb sb X Q pc ls ([xR r]) S := by
  intro _ p l e R s m args below meth c H locs cells slots D A al cA L Qf lsA hC hX hH hS hL ho hc hs hK
  exact hK (some (xR r)) S al cA L H locs cells slots pc lsA hq xExt.rf hH hS (fun w hw => by cases hw; exact xo_h ho) (by omega) (by omega) ⟨ty, hr, hn, hd⟩
theorem E_vret {mm : xM} {d cb sb : Nat} {X : Nat × (Nat → Int32)} {Q : Option xV → xS → Prop} {pc : Nat} {ls : List (Option xV)} {S : xS}  (hd : decode mm.2.1 pc = .ok (.return_, 1)) (hr : mm.2.2.2 = none) (hq : Q none S)  : Ex mm d cb sb X Q pc ls ([]) S := by
  intro _ p l e R s m args below meth c H locs cells slots D A al cA L Qf lsA hC hX hH hS hL ho hc hs hK
  exact hK none S al cA L H locs cells slots pc lsA hq xExt.rf hH hS (fun w hw => by cases hw) (by omega) (by omega) ⟨hr, hd⟩
theorem E_obj {mm : xM} {d cb sb : Nat} {X : Nat × (Nat → Int32)} {Q : Option xV → xS → Prop} {pc : Nat} {ls : List (Option xV)} {st : List xV} {S : xS} {i : Nat} {q : Nat × Nat} (hd : decode mm.2.1 pc = .ok (.invokespecial i, 3)) (hk : Cond.methodLink mm.1.cls i objectInit ∈ xT) (h1 : 1 ≤ d) (hst : ∀ al, ((st.map (xc al)).map fun v => v.category).sum ≤ 8) (k : Ex mm d cb sb X Q (pc + 3) ls (st) S) : Ex mm d cb sb X Q pc ls (xR (some q) :: st) S := by
  intro _ p l e R s m args below meth c H locs cells slots D A al cA L Qf lsA hC hX hH hS hL ho hc hs hK
  refine W.objInit hC.1 hC.2.1 hC.2.2.2.2.1 (hC.2.2.2.2.2.1 _ hk) (hC.2.2.2.2.2.1 _ x_obj1) (hC.2.2.2.2.2.1 _ x_obj2) rfl (hL.1.trans hC.2.2.2.1.symm) rfl hd (Nat.le_trans h1 hC.2.2.2.2.2.2.2.2.2.2.1) ?_ (k () hC hX hH hS hL (xo_t ho) hc hs hK)
  have h2 := hC.2.2.2.2.2.2.2.2.2.2.2.1
  have h3 := hst al
  show 2 * 0 + ((st.map (xc al)).map fun v => v.category).sum + 12 ≤ R.locals
  omega
theorem E_max {mm : xM} {d cb sb : Nat} {X : Nat × (Nat → Int32)} {Q : Option xV → xS → Prop} {pc : Nat} {ls : List (Option xV)} {st : List xV} {S : xS} {i : Nat} {x y : Int32} (hd : decode mm.2.1 pc = .ok (.invokestatic i, 3)) (hk : Cond.methodLink mm.1.cls i Lib.Math.max.name ∈ xT) (h1 : 1 ≤ d) (hst : ∀ al, ((st.map (xc al)).map fun v => v.category).sum ≤ 8) (k : Ex mm d cb sb X Q (pc + 3) ls (xI (if x < y then y else x) :: st) S) : Ex mm d cb sb X Q pc ls (xI y :: xI x :: st) S := by
  intro _ p l e R s m args below meth c H locs cells slots D A al cA L Qf lsA hC hX hH hS hL ho hc hs hK
  have h2 := hC.2.2.2.2.2.2.2.2.2.2.2.1
  have h3 := hst al
  exact va_mmax hC.1 hC.2.1 (hC.2.2.2.1.trans hL.1.symm) hC.2.2.2.2.1 (hC.2.2.2.2.2.1 _ hk) (hC.2.2.2.2.2.1 _ mm_max.1) (hC.2.2.2.2.2.1 _ mm_max.2.1) (hC.2.2.2.2.2.1 _ mm_max.2.2) (Nat.le_trans h1 hC.2.2.2.2.2.2.2.2.2.2.1) (by omega) (by omega) (by omega) hd (k () hC hX hH hS hL (xo_c xo_I (xo_t (xo_t ho))) hc hs hK)
theorem E_min {mm : xM} {d cb sb : Nat} {X : Nat × (Nat → Int32)} {Q : Option xV → xS → Prop} {pc : Nat} {ls : List (Option xV)} {st : List xV} {S : xS} {i : Nat} {x y : Int32} (hd : decode mm.2.1 pc = .ok (.invokestatic i, 3)) (hk : Cond.methodLink mm.1.cls i Lib.Math.min.name ∈ xT) (h1 : 1 ≤ d) (hst : ∀ al, ((st.map (xc al)).map fun v => v.category).sum ≤ 8) (k : Ex mm d cb sb X Q (pc + 3) ls (xI (if y < x then y else x) :: st) S) : Ex mm d cb sb X Q pc ls (xI y :: xI x :: st) S := by
  intro _ p l e R s m args below meth c H locs cells slots D A al cA L Qf lsA hC hX hH hS hL ho hc hs hK
  have h2 := hC.2.2.2.2.2.2.2.2.2.2.2.1
  have h3 := hst al
  exact va_mmin hC.1 hC.2.1 (hC.2.2.2.1.trans hL.1.symm) hC.2.2.2.2.1 (hC.2.2.2.2.2.1 _ hk) (hC.2.2.2.2.2.1 _ mm_min.1) (hC.2.2.2.2.2.1 _ mm_min.2.1) (hC.2.2.2.2.2.1 _ mm_min.2.2) (Nat.le_trans h1 hC.2.2.2.2.2.2.2.2.2.2.1) (by omega) (by omega) (by omega) hd (k () hC hX hH hS hL (xo_c xo_I (xo_t (xo_t ho))) hc hs hK)
/-! the classes' tables -/
theorem xcls (ci : Nat) (C : String) (T : u_T) (N : Nat) (h : xCl[ci]? = some (C, T, N)) : (∀ w ∈ u_ws C T N, w ∈ xT) ∧ (∃ ty0 : Nat → FieldType, ∀ k, k < N → parseFieldDescriptor (T k).2.2.1 = some (ty0 k)) ∧ (∀ a, a < N → ∀ b, b < N → a ≠ b → (T a).2.1 ≠ (T b).2.1) ∧ N = xn ci := by
  match ci, h with
  | 0, h => cases h; exact ⟨wiX0, ⟨tyX0, tyX0_ok⟩, nmX0, rfl⟩
  | 1, h => cases h; exact ⟨wiX1, ⟨tyX1, tyX1_ok⟩, nmX1, rfl⟩
  | 2, h => cases h; exact ⟨wiX2, ⟨tyX2, tyX2_ok⟩, nmX2, rfl⟩
  | 3, h => cases h; exact ⟨wiX3, ⟨tyX3, tyX3_ok⟩, nmX3, rfl⟩
  | 4, h => cases h; exact ⟨wiX4, ⟨tyX4, tyX4_ok⟩, nmX4, rfl⟩
  | 5, h => cases h; exact ⟨wiX5, ⟨tyX5, tyX5_ok⟩, nmX5, rfl⟩
  | 6, h => cases h; exact ⟨wiX6, ⟨tyX6, tyX6_ok⟩, nmX6, rfl⟩
  | 7, h => cases h; exact ⟨wiX7, ⟨tyX7, tyX7_ok⟩, nmX7, rfl⟩
  | 8, h => cases h; exact ⟨wiX8, ⟨tyX8, tyX8_ok⟩, nmX8, rfl⟩
  | 9, h => cases h; exact ⟨wiX9, ⟨tyX9, tyX9_ok⟩, nmX9, rfl⟩
  | n + 10, h => simp [xCl] at h
theorem xmap_get {N j : Nat} {f : Nat → Value} (h : j < N) : ((List.range N).map f)[j]? = some (f j) := by simp [h]
theorem xmap_set {N j : Nat} {f g : Nat → Value} {v : Value} (hv : v = g j) (ho : ∀ i, i ≠ j → f i = g i) : ((List.range N).map f).set j v = (List.range N).map g := by
  apply List.ext_getElem?
  intro i
  by_cases hi : i = j
  · subst hi
    by_cases hl : i < N
    · rw [List.getElem?_set_self (by simpa using hl)]
      simp [hl, hv]
    · simp [hl]
  · rw [List.getElem?_set_ne (Ne.symm hi)]
    by_cases hl : i < N
    · simp [hl, ho i hi]
    · simp [hl]
theorem xdef (ci : Nat) (C : String) (T : u_T) (N : Nat) (h : xCl[ci]? = some (C, T, N)) (ty0 : Nat → FieldType) (hty : ∀ k, k < N → parseFieldDescriptor (T k).2.2.1 = some (ty0 k)) (j : Nat) (hj : j < N) : defaultValue (ty0 j) = (some (if xr ci j = true then Value.null else .int 0)).getD .null := by
  have key : ∀ (ty1 : Nat → FieldType), (∀ k, k < N → parseFieldDescriptor (T k).2.2.1 = some (ty1 k)) → (∀ k, k < N → defaultValue (ty1 k) = (some (if xr ci k = true then Value.null else .int 0)).getD .null) → defaultValue (ty0 j) = (some (if xr ci j = true then Value.null else .int 0)).getD .null := by
    intro ty1 h1 h2
    rw [show ty0 j = ty1 j from Option.some.inj ((hty j hj).symm.trans (h1 j hj))]
    exact h2 j hj
  match ci, h with
  | 0, h => cases h; exact key tyX0 tyX0_ok (by decide +kernel)
  | 1, h => cases h; exact key tyX1 tyX1_ok (by decide +kernel)
  | 2, h => cases h; exact key tyX2 tyX2_ok (by decide +kernel)
  | 3, h => cases h; exact key tyX3 tyX3_ok (by decide +kernel)
  | 4, h => cases h; exact key tyX4 tyX4_ok (by decide +kernel)
  | 5, h => cases h; exact key tyX5 tyX5_ok (by decide +kernel)
  | 6, h => cases h; exact key tyX6 tyX6_ok (by decide +kernel)
  | 7, h => cases h; exact key tyX7 tyX7_ok (by decide +kernel)
  | 8, h => cases h; exact key tyX8 tyX8_ok (by decide +kernel)
  | 9, h => cases h; exact key tyX9 tyX9_ok (by decide +kernel)
  | n + 10, h => simp [xCl] at h
section XR
variable {mm : xM} {d cb sb : Nat} {X : Nat × (Nat → Int32)} {Q : Option xV → xS → Prop} {pc : Nat} {ls : List (Option xV)} {st : List xV} {S : xS}
theorem x_in {D : va_G} {A : Nat → Prop} {s : State} {al : Nat × Nat → Nat} {cA : Nat × Nat → ClassId} {L : List (Nat × Nat)} {H : Heap} {q : Nat × Nat} (hH : xH D A s al cA S L H) (ho : xo S (xR (some q))) (h : q.1 ≠ 99) : q ∈ L :=
  (hH.2.2.1 q).mpr ((ho q rfl).resolve_right h)
theorem x_cls99 {k : Nat} (h : xCls k = true) : k ≠ 99 := fun z => by subst z; cases h
theorem E_getI {idx ci j k i : Nat} {x : Int32} {fin : Bool} {ty : FieldType} (hd : decode mm.2.1 pc = .ok (.getfield idx, 3)) (hf : xFL mm.1.cls idx ci j fin ty) (hk : xCls k = true) (hk2 : xk k = ci) (hr : xr ci j = false) (hv : gI S k i j = x)
    (kk : Ex mm d cb sb X Q (pc + 3) ls (xI x :: st) S) : Ex mm d cb sb X Q pc ls (xR (some (k, i)) :: st) S := by
  intro _ p l e R s m args below meth c H locs cells slots D A al cA L Qf lsA hC hX hH hS hL ho hc hs hK
  subst hv; subst hk2
  obtain ⟨C, T, N, f1, f2, f3, f4, -, -⟩ := hf
  obtain ⟨w1, -, -, w4⟩ := xcls _ C T N f1
  obtain ⟨n, n1, n2⟩ := xw_get (al := al) (S := S) (cA := cA) (x_in hH (xo_h ho) (x_cls99 hk))
  rw [xe_cls (q := (k, i)) hk] at n2
  refine va_get (C := C) (T := T) (N := N) (ref := C) (v := .int (gI S k i j)) hC.1 hC.2.1 hC.2.2.2.2.2.1 w1 hC.2.2.2.2.1 hC.2.2.2.2.2.2.2.2.1 hH.1 n n2 f1 j f2 (hC.2.2.2.2.2.1 _ f3) (fun x h => by rw [← f4]; exact h) ?_ hd (kk () hC hX hH hS hL (xo_c xo_I (xo_t ho)) hc hs hK)
  rw [xmap_get (by rw [← w4]; exact f2)]
  simp [xcf, hr]
theorem E_getR {idx ci j k i : Nat} {x : Option (Nat × Nat)} {fin : Bool} {ty : FieldType} (hd : decode mm.2.1 pc = .ok (.getfield idx, 3)) (hf : xFL mm.1.cls idx ci j fin ty) (hk : xCls k = true) (hk2 : xk k = ci) (hr : xr ci j = true) (hv : gR S k i j = x)
    (kk : Ex mm d cb sb X Q (pc + 3) ls (xR x :: st) S) : Ex mm d cb sb X Q pc ls (xR (some (k, i)) :: st) S := by
  intro _ p l e R s m args below meth c H locs cells slots D A al cA L Qf lsA hC hX hH hS hL ho hc hs hK
  subst hv; subst hk2
  obtain ⟨C, T, N, f1, f2, f3, f4, -, -⟩ := hf
  obtain ⟨w1, -, -, w4⟩ := xcls _ C T N f1
  have hin := x_in hH (xo_h ho) (x_cls99 hk)
  obtain ⟨n, n1, n2⟩ := xw_get (al := al) (S := S) (cA := cA) hin
  rw [xe_cls (q := (k, i)) hk] at n2
  refine va_get (C := C) (T := T) (N := N) (ref := C) (v := va_rf ((gR S k i j).map al)) hC.1 hC.2.1 hC.2.2.2.2.2.1 w1 hC.2.2.2.2.1 hC.2.2.2.2.2.2.2.2.1 hH.1 n n2 f1 j f2 (hC.2.2.2.2.2.1 _ f3) (fun x h => by rw [← f4]; exact h) ?_ hd (kk () hC hX hH hS hL (xo_c (fun q hq => Or.inl (hH.2.2.2.1 _ hin j q (Sum.inl.inj (Sum.inr.inj hq)))) (xo_t ho)) hc hs hK)
  rw [xmap_get (by rw [← w4]; exact f2)]
  simp [xcf, hr]
theorem xH_set {D : va_G} {A : Nat → Prop} {s : State} {al : Nat × Nat → Nat} {cA : Nat × Nat → ClassId} {L : List (Nat × Nat)} {H H1 : Heap} {S S' : xS} {n : Nat} {q : Nat × Nat} {e : va_E} (hH : xH D A s al cA S L H) (hn : L[n]? = some q) (he : e = xe al S' cA q)
    (hP : va_P D xCl ((xw al S cA L).set n (al q, e)) H1) (hD : va_D A ((xw al S cA L).set n (al q, e))) (hL : ∀ a b, gL S' a b = gL S a b) (ho : ∀ r ∈ L, r ≠ q → xe al S' cA r = xe al S cA r) (hr : ∀ r ∈ L, ∀ j x, gR S' r.1 r.2 j = some x → gL S x.1 x.2 ≠ none) : xH D A s al cA S' L H1 := by
  rw [xw_set hH.2.1 hn he ho] at hP hD
  exact ⟨hP, hD, fun r => by rw [hL]; exact hH.2.2.1 r, fun r hr1 j x hx => by rw [hL]; exact hr r hr1 j x hx, hH.2.2.2.2⟩
theorem xe_sI {al : Nat × Nat → Nat} {cA : Nat × Nat → ClassId} {k i j : Nat} {v : Int32} {r : Nat × Nat} (h : r ≠ (k, i)) : xe al (sI S k i j v) cA r = xe al S cA r :=
  xe_same (fun j' => by rw [gI_sI, if_neg]; rintro ⟨h1, -, h2⟩; exact h (Prod.ext h1 h2)) (fun _ => rfl) rfl
theorem xe_sR {al : Nat × Nat → Nat} {cA : Nat × Nat → ClassId} {k i j : Nat} {v : Option (Nat × Nat)} {r : Nat × Nat} (h : r ≠ (k, i)) : xe al (sR S k i j v) cA r = xe al S cA r :=
  xe_same (fun _ => rfl) (fun j' => by rw [gR_sR, if_neg]; rintro ⟨h1, -, h2⟩; exact h (Prod.ext h1 h2)) rfl
theorem x_sIx {k i j : Nat} {v : Int32} {al : Nat × Nat → Nat} {S' : xS} {al' : Nat × Nat → Nat} (h : xExt (sI S k i j v) al S' al') : xExt S al S' al' := h
theorem E_putI {idx ci j k i : Nat} {x : Int32} {ty : FieldType} (hd : decode mm.2.1 pc = .ok (.putfield idx, 3)) (hf : xFL mm.1.cls idx ci j false ty) (hk : xCls k = true) (hk2 : xk k = ci) (hr : xr ci j = false) (hn : narrow ty (.int x) = .int x) (hfit : fits ty (.int x) = true)
    (kk : Ex mm d cb sb X Q (pc + 3) ls st (sI S k i j x)) : Ex mm d cb sb X Q pc ls (xI x :: xR (some (k, i)) :: st) S := by
  intro _ p l e R s m args below meth c H locs cells slots D A al cA L Qf lsA hC hX hH hS hL ho hc hs hK
  subst hk2
  obtain ⟨C, T, N, f1, f2, f3, f4, f5, f6⟩ := hf
  obtain ⟨w1, ⟨ty0, w2⟩, w3, w4⟩ := xcls _ C T N f1
  have hin := x_in hH (xo_h (xo_t ho)) (x_cls99 hk)
  obtain ⟨n, n1, n2⟩ := xw_get (al := al) (S := S) (cA := cA) hin
  rw [xe_cls (q := (k, i)) hk] at n2
  refine va_put (C := C) (T := T) (N := N) (ref := C) (v := .int x) hC.1 hC.2.1 hC.2.2.2.2.2.1 w1 ty0 w2 w3 hC.2.2.2.2.1 hC.2.2.2.2.2.2.2.2.1 hH.1 hH.2.1 hS n n2 f1 j f2 (hC.2.2.2.2.2.1 _ f3) (fun x h => by rw [← f4]; exact h) f5 f6 hn hfit (by simpa [← w4] using f2) hd (fun H1 locs1 hP1 hD1 hS1 => ?_)
  refine kk () hC hX (xH_set (S' := sI S k i j x) hH n1 ?_ hP1 hD1 (fun _ _ => rfl) (fun r _ h => xe_sI h) (fun r h j x hx => hH.2.2.2.1 r h j x hx)) hS1 hL (xo_t (xo_t ho)) hc hs hK
  rw [xe_cls (q := (k, i)) hk, xmap_set (g := xcf al (sI S k i j x) (k, i))]
  · simp [xcf, hr, gI_sI]
  · intro i' hi'
    simp [xcf, gI_sI, gR_sI, hi']
theorem E_putR {idx ci j k i : Nat} {x : Option (Nat × Nat)} {ty : FieldType} (hd : decode mm.2.1 pc = .ok (.putfield idx, 3)) (hf : xFL mm.1.cls idx ci j false ty) (hk : xCls k = true) (hk2 : xk k = ci) (hr : xr ci j = true) (hty : (∃ n, ty = .object n) ∨ ∃ t, ty = .array t) (hx : ∀ q, x = some q → q.1 ≠ 99)
    (kk : Ex mm d cb sb X Q (pc + 3) ls st (sR S k i j x)) : Ex mm d cb sb X Q pc ls (xR x :: xR (some (k, i)) :: st) S := by
  intro _ p l e R s m args below meth c H locs cells slots D A al cA L Qf lsA hC hX hH hS hL ho hc hs hK
  subst hk2
  obtain ⟨C, T, N, f1, f2, f3, f4, f5, f6⟩ := hf
  obtain ⟨w1, ⟨ty0, w2⟩, w3, w4⟩ := xcls _ C T N f1
  have hin := x_in hH (xo_h (xo_t ho)) (x_cls99 hk)
  have hox := xo_h ho
  obtain ⟨n, n1, n2⟩ := xw_get (al := al) (S := S) (cA := cA) hin
  rw [xe_cls (q := (k, i)) hk] at n2
  refine va_put (C := C) (T := T) (N := N) (ref := C) (v := va_rf (x.map al)) hC.1 hC.2.1 hC.2.2.2.2.2.1 w1 ty0 w2 w3 hC.2.2.2.2.1 hC.2.2.2.2.2.2.2.2.1 hH.1 hH.2.1 hS n n2 f1 j f2 (hC.2.2.2.2.2.1 _ f3) (fun x h => by rw [← f4]; exact h) f5 f6 (by cases x <;> rcases hty with ⟨n, rfl⟩ | ⟨t, rfl⟩ <;> rfl) (by cases x <;> rcases hty with ⟨n, rfl⟩ | ⟨t, rfl⟩ <;> rfl) (by simpa [← w4] using f2) hd (fun H1 locs1 hP1 hD1 hS1 => ?_)
  refine kk () hC hX (xH_set (S' := sR S k i j x) hH n1 ?_ hP1 hD1 (fun _ _ => rfl) (fun r _ h => xe_sR h) (fun r h j' y hy => ?_)) hS1 hL (xo_t (xo_t ho)) hc hs hK
  · rw [xe_cls (q := (k, i)) hk, xmap_set (g := xcf al (sR S k i j x) (k, i))]
    · simp [xcf, hr, gR_sR]
    · intro i' hi'
      simp [xcf, gI_sR, gR_sR, hi']
  · rw [gR_sR] at hy
    split at hy
    · subst hy
      exact (hox y rfl).resolve_right (hx y rfl)
    · exact hH.2.2.2.1 r h j' y hy
theorem E_putFI {idx ci j k i : Nat} {x : Int32} {ty : FieldType} (hd : decode mm.2.1 pc = .ok (.putfield idx, 3)) (hf : xFL mm.1.cls idx ci j true ty) (hini : mm.1.name = "<init>") (hk : xCls k = true) (hk2 : xk k = ci) (hr : xr ci j = false) (hcl : ∀ r, xCl[ci]? = some r → r.1 = mm.1.cls) (hn : narrow ty (.int x) = .int x) (hfit : fits ty (.int x) = true)
    (kk : Ex mm d cb sb X Q (pc + 3) ls st (sI S k i j x)) : Ex mm d cb sb X Q pc ls (xI x :: xR (some (k, i)) :: st) S := by
  intro _ p l e R s m args below meth c H locs cells slots D A al cA L Qf lsA hC hX hH hS hL ho hc hs hK
  subst hk2
  obtain ⟨C, T, N, f1, f2, f3, f4, f5, f6⟩ := hf
  obtain ⟨w1, ⟨ty0, w2⟩, w3, w4⟩ := xcls _ C T N f1
  have hin := x_in hH (xo_h (xo_t ho)) (x_cls99 hk)
  obtain ⟨n, n1, n2⟩ := xw_get (al := al) (S := S) (cA := cA) hin
  rw [xe_cls (q := (k, i)) hk] at n2
  refine va_putF (C := C) (T := T) (N := N) (ref := C) (v := .int x) hC.1 hC.2.1 hC.2.2.2.2.2.1 w1 ty0 w2 w3 hC.2.2.2.2.1 hC.2.2.2.2.2.2.2.2.1 hH.1 hH.2.1 hS n n2 f1 j f2 (hC.2.2.2.2.2.1 _ f3) (fun x h => by rw [← f4]; exact h) f5 (hC.2.2.2.2.2.2.2.1.trans hini) (f4.trans (hcl _ f1)) f6 hn hfit (by simpa [← w4] using f2) hd (fun H1 locs1 hP1 hD1 hS1 => ?_)
  refine kk () hC hX (xH_set (S' := sI S k i j x) hH n1 ?_ hP1 hD1 (fun _ _ => rfl) (fun r _ h => xe_sI h) (fun r h j x hx => hH.2.2.2.1 r h j x hx)) hS1 hL (xo_t (xo_t ho)) hc hs hK
  rw [xe_cls (q := (k, i)) hk, xmap_set (g := xcf al (sI S k i j x) (k, i))]
  · simp [xcf, hr, gI_sI]
  · intro i' hi'
    simp [xcf, gI_sI, gR_sI, hi']
theorem E_putFR {idx ci j k i : Nat} {x : Option (Nat × Nat)} {ty : FieldType} (hd : decode mm.2.1 pc = .ok (.putfield idx, 3)) (hf : xFL mm.1.cls idx ci j true ty) (hini : mm.1.name = "<init>") (hk : xCls k = true) (hk2 : xk k = ci) (hr : xr ci j = true) (hcl : ∀ r, xCl[ci]? = some r → r.1 = mm.1.cls) (hty : (∃ n, ty = .object n) ∨ ∃ t, ty = .array t) (hx : ∀ q, x = some q → q.1 ≠ 99)
    (kk : Ex mm d cb sb X Q (pc + 3) ls st (sR S k i j x)) : Ex mm d cb sb X Q pc ls (xR x :: xR (some (k, i)) :: st) S := by
  intro _ p l e R s m args below meth c H locs cells slots D A al cA L Qf lsA hC hX hH hS hL ho hc hs hK
  subst hk2
  obtain ⟨C, T, N, f1, f2, f3, f4, f5, f6⟩ := hf
  obtain ⟨w1, ⟨ty0, w2⟩, w3, w4⟩ := xcls _ C T N f1
  have hin := x_in hH (xo_h (xo_t ho)) (x_cls99 hk)
  have hox := xo_h ho
  obtain ⟨n, n1, n2⟩ := xw_get (al := al) (S := S) (cA := cA) hin
  rw [xe_cls (q := (k, i)) hk] at n2
  refine va_putF (C := C) (T := T) (N := N) (ref := C) (v := va_rf (x.map al)) hC.1 hC.2.1 hC.2.2.2.2.2.1 w1 ty0 w2 w3 hC.2.2.2.2.1 hC.2.2.2.2.2.2.2.2.1 hH.1 hH.2.1 hS n n2 f1 j f2 (hC.2.2.2.2.2.1 _ f3) (fun x h => by rw [← f4]; exact h) f5 (hC.2.2.2.2.2.2.2.1.trans hini) (f4.trans (hcl _ f1)) f6 (by cases x <;> rcases hty with ⟨n, rfl⟩ | ⟨t, rfl⟩ <;> rfl) (by cases x <;> rcases hty with ⟨n, rfl⟩ | ⟨t, rfl⟩ <;> rfl) (by simpa [← w4] using f2) hd (fun H1 locs1 hP1 hD1 hS1 => ?_)
  refine kk () hC hX (xH_set (S' := sR S k i j x) hH n1 ?_ hP1 hD1 (fun _ _ => rfl) (fun r _ h => xe_sR h) (fun r h j' y hy => ?_)) hS1 hL (xo_t (xo_t ho)) hc hs hK
  · rw [xe_cls (q := (k, i)) hk, xmap_set (g := xcf al (sR S k i j x) (k, i))]
    · simp [xcf, hr, gR_sR]
    · intro i' hi'
      simp [xcf, gI_sR, gR_sR, hi']
  · rw [gR_sR] at hy
    split at hy
    · subst hy
      exact (hox y rfl).resolve_right (hx y rfl)
    · exact hH.2.2.2.1 r h j' y hy
/-! arrays -/
theorem x_tys {D : va_G} {s : State} {cA : ClassId} {ty : FieldType} (hK : va_K D xCl [] s) (h : ArrOfT s cA ty ∧ va_RA s cA ty) : va_K D xCl [(cA, ty)] s := ⟨hK.1, fun k q hq => by
  match k, hq with
  | 0, hq => cases hq; exact h
  | k + 1, hq => simp at hq⟩
theorem E_iald {k i n j : Nat} {x v : Int32} (hd : decode mm.2.1 pc = .ok (.iaload, 1)) (hk : xCls k = false) (hk2 : xa k = .int) (h99 : k ≠ 99) (hl : gL S k i = some n) (hin : vp_in x n) (hj : x.toNatClampNeg = j) (hv : gI S k i j = v)
    (kk : Ex mm d cb sb X Q (pc + 1) ls (xI v :: st) S) : Ex mm d cb sb X Q pc ls (xI x :: xR (some (k, i)) :: st) S := by
  intro _ p l e R s m args below meth c H locs cells slots D A al cA L Qf lsA hC hX hH hS hL ho hc hs hK
  subst hj; subst hv
  have hq := x_in hH (xo_h (xo_t ho)) h99
  obtain ⟨a, n1, n2⟩ := xw_get (al := al) (S := S) (cA := cA) hq
  rw [xe_int (q := (k, i)) hk (by simp [xar, hk2]) hl] at n2
  have hr := hH.2.2.2.2 _ hq hk
  rw [hk2] at hr
  exact va_iald hC.1 hC.2.1 (x_tys hC.2.2.2.2.2.2.2.2.1 hr) hH.1 a 0 n2 rfl hin hd (kk () hC hX hH hS hL (xo_c xo_I (xo_t (xo_t ho))) hc hs hK)
theorem E_zald {k i n j : Nat} {x v : Int32} (hd : decode mm.2.1 pc = .ok (.baload, 1)) (hk : xCls k = false) (hk2 : xa k = .boolean) (h99 : k ≠ 99) (hl : gL S k i = some n) (hin : vp_in x n) (hj : x.toNatClampNeg = j) (hv : gI S k i j = v)
    (kk : Ex mm d cb sb X Q (pc + 1) ls (xI v :: st) S) : Ex mm d cb sb X Q pc ls (xI x :: xR (some (k, i)) :: st) S := by
  intro _ p l e R s m args below meth c H locs cells slots D A al cA L Qf lsA hC hX hH hS hL ho hc hs hK
  subst hj; subst hv
  have hq := x_in hH (xo_h (xo_t ho)) h99
  obtain ⟨a, n1, n2⟩ := xw_get (al := al) (S := S) (cA := cA) hq
  rw [xe_int (q := (k, i)) hk (by simp [xar, hk2]) hl] at n2
  have hr := hH.2.2.2.2 _ hq hk
  rw [hk2] at hr
  exact va_zald hC.1 hC.2.1 (x_tys hC.2.2.2.2.2.2.2.2.1 hr) hH.1 a 0 n2 rfl hin hd (kk () hC hX hH hS hL (xo_c xo_I (xo_t (xo_t ho))) hc hs hK)
theorem E_aald {k i n j : Nat} {x : Int32} {C : String} {v : Option (Nat × Nat)} (hd : decode mm.2.1 pc = .ok (.aaload, 1)) (hk : xCls k = false) (hk2 : xa k = .object C) (h99 : k ≠ 99) (hl : gL S k i = some n) (hin : vp_in x n) (hj : x.toNatClampNeg = j) (hv : gR S k i j = v)
    (kk : Ex mm d cb sb X Q (pc + 1) ls (xR v :: st) S) : Ex mm d cb sb X Q pc ls (xI x :: xR (some (k, i)) :: st) S := by
  intro _ p l e R s m args below meth c H locs cells slots D A al cA L Qf lsA hC hX hH hS hL ho hc hs hK
  subst hj; subst hv
  have hq := x_in hH (xo_h (xo_t ho)) h99
  obtain ⟨a, n1, n2⟩ := xw_get (al := al) (S := S) (cA := cA) hq
  rw [xe_ref (q := (k, i)) hk (by simp [xar, hk2]) hl] at n2
  have hr := hH.2.2.2.2 _ hq hk
  rw [hk2] at hr
  exact va_aldq hC.1 hC.2.1 (x_tys hC.2.2.2.2.2.2.2.2.1 hr) hH.1 a 0 n2 rfl hin hd (kk () hC hX hH hS hL (xo_c (fun q hz => Or.inl (hH.2.2.2.1 _ hq _ q (Sum.inl.inj (Sum.inr.inj hz)))) (xo_t (xo_t ho))) hc hs hK)
theorem E_alen {k i n : Nat} {v : Int32} (hd : decode mm.2.1 pc = .ok (.arraylength, 1)) (hk : xCls k = false) (h99 : k ≠ 99) (hl : gL S k i = some n) (hv : Int32.ofNat n = v)
    (kk : Ex mm d cb sb X Q (pc + 1) ls (xI v :: st) S) : Ex mm d cb sb X Q pc ls (xR (some (k, i)) :: st) S := by
  intro _ p l e R s m args below meth c H locs cells slots D A al cA L Qf lsA hC hX hH hS hL ho hc hs hK
  have hq := x_in hH (xo_h ho) h99
  obtain ⟨a, n1, n2⟩ := xw_get (al := al) (S := S) (cA := cA) hq
  have hr := hH.2.2.2.2 _ hq hk
  by_cases har : xar k = true
  · rw [xe_ref (q := (k, i)) hk har hl] at n2
    exact va_alen hC.1 hC.2.1 (x_tys hC.2.2.2.2.2.2.2.2.1 hr) hH.1 a 0 n2 rfl hv hd (kk () hC hX hH hS hL (xo_c xo_I (xo_t ho)) hc hs hK)
  · rw [xe_int (q := (k, i)) hk (by simpa using har) hl] at n2
    exact va_alen hC.1 hC.2.1 (x_tys hC.2.2.2.2.2.2.2.2.1 hr) hH.1 a 0 n2 rfl hv hd (kk () hC hX hH hS hL (xo_c xo_I (xo_t ho)) hc hs hK)
theorem E_iast {k i n j : Nat} {x v : Int32} (hd : decode mm.2.1 pc = .ok (.iastore, 1)) (hk : xCls k = false) (hk2 : xa k = .int) (h99 : k ≠ 99) (hl : gL S k i = some n) (hin : vp_in x n) (hj : x.toNatClampNeg = j)
    (kk : Ex mm d cb sb X Q (pc + 1) ls st (sI S k i j v)) : Ex mm d cb sb X Q pc ls (xI v :: xI x :: xR (some (k, i)) :: st) S := by
  intro _ p l e R s m args below meth c H locs cells slots D A al cA L Qf lsA hC hX hH hS hL ho hc hs hK
  subst hj
  have hq := x_in hH (xo_h (xo_t (xo_t ho))) h99
  obtain ⟨a, n1, n2⟩ := xw_get (al := al) (S := S) (cA := cA) hq
  have har : xar k = false := by simp [xar, hk2]
  rw [xe_int (q := (k, i)) hk har hl] at n2
  have hr := hH.2.2.2.2 _ hq hk
  rw [hk2] at hr
  refine va_iast hC.1 hC.2.1 (x_tys hC.2.2.2.2.2.2.2.2.1 hr) hH.1 hH.2.1 hS a 0 n2 rfl hin hd (fun H1 locs1 hP1 hD1 hS1 => ?_)
  refine kk () hC hX (xH_set (S' := sI S k i x.toNatClampNeg v) hH n1 ?_ hP1 hD1 (fun _ _ => rfl) (fun r _ h => xe_sI h) (fun r h j x hx => hH.2.2.2.1 r h j x hx)) hS1 hL (xo_t (xo_t (xo_t ho))) hc hs hK
  rw [xe_int (q := (k, i)) (S := sI S k i x.toNatClampNeg v) hk har hl]
  congr 4
  funext j
  simp [upd, gI_sI]
theorem E_zast {k i n j : Nat} {x v : Int32} (hd : decode mm.2.1 pc = .ok (.bastore, 1)) (hk : xCls k = false) (hk2 : xa k = .boolean) (h99 : k ≠ 99) (hl : gL S k i = some n) (hin : vp_in x n) (hj : x.toNatClampNeg = j) (hv : vp_nar .boolean v = v)
    (kk : Ex mm d cb sb X Q (pc + 1) ls st (sI S k i j v)) : Ex mm d cb sb X Q pc ls (xI v :: xI x :: xR (some (k, i)) :: st) S := by
  intro _ p l e R s m args below meth c H locs cells slots D A al cA L Qf lsA hC hX hH hS hL ho hc hs hK
  subst hj
  have hq := x_in hH (xo_h (xo_t (xo_t ho))) h99
  obtain ⟨a, n1, n2⟩ := xw_get (al := al) (S := S) (cA := cA) hq
  have har : xar k = false := by simp [xar, hk2]
  rw [xe_int (q := (k, i)) hk har hl] at n2
  have hr := hH.2.2.2.2 _ hq hk
  rw [hk2] at hr
  refine va_zast hC.1 hC.2.1 (x_tys hC.2.2.2.2.2.2.2.2.1 hr) hH.1 hH.2.1 hS a 0 n2 rfl hin hd (fun H1 locs1 hP1 hD1 hS1 => ?_)
  refine kk () hC hX (xH_set (S' := sI S k i x.toNatClampNeg v) hH n1 ?_ hP1 hD1 (fun _ _ => rfl) (fun r _ h => xe_sI h) (fun r h j x hx => hH.2.2.2.1 r h j x hx)) hS1 hL (xo_t (xo_t (xo_t ho))) hc hs hK
  rw [xe_int (q := (k, i)) (S := sI S k i x.toNatClampNeg v) hk har hl]
  congr 4
  funext j
  simp [upd, gI_sI, hv]
theorem E_aast {k i n j kv iv : Nat} {x : Int32} {C : String} {T : u_T} {N : Nat} (hd : decode mm.2.1 pc = .ok (.aastore, 1)) (hk : xCls k = false) (hk2 : xa k = .object C) (h99 : k ≠ 99) (hl : gL S k i = some n) (hin : vp_in x n) (hj : x.toNatClampNeg = j) (hkv : xCls kv = true) (hci : xCl[xk kv]? = some (C, T, N))
    (kk : Ex mm d cb sb X Q (pc + 1) ls st (sR S k i j (some (kv, iv)))) : Ex mm d cb sb X Q pc ls (xR (some (kv, iv)) :: xI x :: xR (some (k, i)) :: st) S := by
  intro _ p l e R s m args below meth c H locs cells slots D A al cA L Qf lsA hC hX hH hS hL ho hc hs hK
  subst hj
  have hq := x_in hH (xo_h (xo_t (xo_t ho))) h99
  have hqv := x_in hH (xo_h ho) (x_cls99 hkv)
  obtain ⟨a, n1, n2⟩ := xw_get (al := al) (S := S) (cA := cA) hq
  obtain ⟨b, m1, m2⟩ := xw_get (al := al) (S := S) (cA := cA) hqv
  have har : xar k = true := by simp [xar, hk2]
  rw [xe_ref (q := (k, i)) hk har hl] at n2
  rw [xe_cls (q := (kv, iv)) hkv] at m2
  have hr := hH.2.2.2.2 _ hq hk
  rw [hk2] at hr
  refine va_astq (r := (C, T, N)) hC.1 hC.2.1 (x_tys hC.2.2.2.2.2.2.2.2.1 hr) hH.1 hH.2.1 hS a 0 b (xk kv) n2 rfl m2 hci hin hd (fun H1 locs1 hP1 hD1 hS1 => ?_)
  refine kk () hC hX (xH_set (S' := sR S k i x.toNatClampNeg (some (kv, iv))) hH n1 ?_ hP1 hD1 (fun _ _ => rfl) (fun r _ h => xe_sR h) (fun r h j' y hy => ?_)) hS1 hL (xo_t (xo_t (xo_t ho))) hc hs hK
  · rw [xe_ref (q := (k, i)) (S := sR S k i x.toNatClampNeg (some (kv, iv))) hk har hl]
    congr 7
    funext j
    by_cases hj : j = x.toNatClampNeg
    · subst hj
      simp [va_up, gR_sR]
    · simp [va_up, gR_sR, hj]
  · rw [gR_sR] at hy
    split at hy
    · cases hy
      exact (hH.2.2.1 _).mp hqv
    · exact hH.2.2.2.1 r h j' y hy
/-! the script -/
theorem E_sld {M : Nat} {xs : Nat → Int32} {x v : Int32} (hd : decode mm.2.1 pc = .ok (.iaload, 1)) (hin : vp_in x M) (hv : xs x.toNatClampNeg = v)
    (kk : Ex mm d cb sb (M + 1, xs) Q (pc + 1) ls (xI v :: st) S) : Ex mm d cb sb (M + 1, xs) Q pc ls (xI x :: xR (some (99, 0)) :: st) S := by
  intro _ p l e R s m args below meth c H locs cells slots D A al cA L Qf lsA hC hX hH hS hL ho hc hs hK
  subst hv
  have hX1 := hX.resolve_left (fun z => by cases z)
  exact va_sld (L := M) hC.1 hC.2.1 hX1.1 hX1.2.1 hX1.2.2 hS hin hd (kk () hC hX hH hS hL (xo_c xo_I (xo_t (xo_t ho))) hc hs hK)
theorem E_slen {M : Nat} {xs : Nat → Int32} {v : Int32} (hd : decode mm.2.1 pc = .ok (.arraylength, 1)) (hv : Int32.ofNat M = v)
    (kk : Ex mm d cb sb (M + 1, xs) Q (pc + 1) ls (xI v :: st) S) : Ex mm d cb sb (M + 1, xs) Q pc ls (xR (some (99, 0)) :: st) S := by
  intro _ p l e R s m args below meth c H locs cells slots D A al cA L Qf lsA hC hX hH hS hL ho hc hs hK
  subst hv
  have hX1 := hX.resolve_left (fun z => by cases z)
  exact va_slen (L := M) hC.1 hC.2.1 hX1.1 hX1.2.1 hX1.2.2 hS hd (kk () hC hX hH hS hL (xo_c xo_I (xo_t ho)) hc hs hK)
/-! what is made -/
theorem x_fresh {D : va_G} {A : Nat → Prop} {s : State} {al : Nat × Nat → Nat} {cA : Nat × Nat → ClassId} {L : List (Nat × Nat)} {H : Heap} {q : Nat × Nat} (hH : xH D A s al cA S L H) (h : gL S q.1 q.2 = none) : q ∉ L := fun z => (hH.2.2.1 q).mp z h
def x_up {α : Type} (f : Nat × Nat → α) (q : Nat × Nat) (v : α) : Nat × Nat → α := fun r => if r = q then v else f r
theorem x_up_self {α : Type} (f : Nat × Nat → α) (q : Nat × Nat) (v : α) : x_up f q v q = v := by simp [x_up]
theorem x_up_ne {α : Type} (f : Nat × Nat → α) {q r : Nat × Nat} (v : α) (h : r ≠ q) : x_up f q v r = f r := by simp [x_up, h]
theorem x_map_up {al : Nat × Nat → Nat} {q : Nat × Nat} {a : Nat} {r : Option (Nat × Nat)} (h : ∀ x, r = some x → x ≠ q) : r.map (x_up al q a) = r.map al := by
  cases r with
  | none => rfl
  | some x => simp [x_up, h x rfl]
/-- cells that are there stay as they are when one is made -/
theorem xe_push {D : va_G} {A : Nat → Prop} {s : State} {al : Nat × Nat → Nat} {cA : Nat × Nat → ClassId} {L : List (Nat × Nat)} {H : Heap} {k i n a : Nat} {cid : ClassId} (hH : xH D A s al cA S L H) (h : gL S k i = none) {r : Nat × Nat} (hr : r ∈ L) :
    xe (x_up al (k, i) a) (sN S k i n) (x_up cA (k, i) cid) r = xe al S cA r := by
  have hne : r ≠ (k, i) := fun z => x_fresh hH (q := (k, i)) h (z ▸ hr)
  have hkk : ¬ (r.1 = k ∧ r.2 = i) := fun z => hne (Prod.ext z.1 z.2)
  have e1 : ∀ j, gI (sN S k i n) r.1 r.2 j = gI S r.1 r.2 j := fun j => by rw [gI_sN, if_neg hkk]
  have e2 : ∀ j, gR (sN S k i n) r.1 r.2 j = gR S r.1 r.2 j := fun j => by rw [gR_sN, if_neg hkk]
  have e3 : gL (sN S k i n) r.1 r.2 = gL S r.1 r.2 := by rw [gL_sN, if_neg hkk]
  have e4 : ∀ j, (gR S r.1 r.2 j).map (x_up al (k, i) a) = (gR S r.1 r.2 j).map al := fun j => x_map_up (fun x hx z => by
    have := hH.2.2.2.1 r hr j x hx
    rw [z] at this
    exact this h)
  have e5 : xcf (x_up al (k, i) a) (sN S k i n) r = xcf al S r := by
    funext j
    simp only [xcf, e1, e2, e4]
  unfold xe
  rw [e5, e3, x_up_ne _ _ hne]
  simp only [e1, e2, e4]
theorem xH_push {D : va_G} {A : Nat → Prop} {s : State} {al : Nat × Nat → Nat} {cA : Nat × Nat → ClassId} {L : List (Nat × Nat)} {H H1 : Heap} {k i n a : Nat} {cid : ClassId} {e : va_E} (hH : xH D A s al cA S L H) (h : gL S k i = none) (he : e = xe (x_up al (k, i) a) (sN S k i n) (x_up cA (k, i) cid) (k, i))
    (hP : va_P D xCl (xw al S cA L ++ [(a, e)]) H1) (hD : va_D A (xw al S cA L ++ [(a, e)])) (ht : xCls k = false → ArrOfT s cid (xa k) ∧ va_RA s cid (xa k)) : xH D A s (x_up al (k, i) a) (x_up cA (k, i) cid) (sN S k i n) (L ++ [(k, i)]) H1 := by
  have hpush := xw_push (al := al) (al' := x_up al (k, i) a) (S := S) (S' := sN S k i n) (cA := cA) (cA' := x_up cA (k, i) cid) (L := L) (q := (k, i)) (a := a) (e := e) (x_up_self _ _ _) he (fun r hr => ⟨x_up_ne _ _ (fun z => x_fresh hH (q := (k, i)) h (z ▸ hr)), xe_push hH h hr⟩)
  rw [hpush] at hP hD
  refine ⟨hP, hD, fun q => ?_, fun q hq j r hr => ?_, fun q hq hc => ?_⟩
  · rw [List.mem_append, List.mem_singleton, gL_sN, hH.2.2.1]
    by_cases hq : q = (k, i)
    · subst hq; simp
    · have : ¬ (q.1 = k ∧ q.2 = i) := fun z => hq (Prod.ext z.1 z.2)
      simp [this, hq]
  · rw [gR_sN] at hr
    split at hr
    · cases hr
    · rename_i hne
      rw [gL_sN]
      split
      · simp
      · rcases List.mem_append.mp hq with hq | hq
        · exact hH.2.2.2.1 q hq j r hr
        · rw [List.mem_singleton] at hq
          subst hq
          exact absurd ⟨rfl, rfl⟩ hne
  · rcases List.mem_append.mp hq with hq | hq
    · have hne : q ≠ (k, i) := fun z => x_fresh hH (q := (k, i)) h (z ▸ hq)
      rw [x_up_ne _ _ hne]
      exact hH.2.2.2.2 q hq hc
    · rw [List.mem_singleton] at hq
      subst hq
      rw [x_up_self]
      exact ht hc
theorem xExt_push {al : Nat × Nat → Nat} {k i n a : Nat} (h : gL S k i = none) (h99 : k ≠ 99) : xExt S al (sN S k i n) (x_up al (k, i) a) := by
  intro q hq
  have hne : q ≠ (k, i) := by
    intro z; subst z
    rcases hq with hq | hq
    · exact hq h
    · exact h99 hq
  refine ⟨?_, x_up_ne _ _ hne⟩
  rcases hq with hq | hq
  · left
    rw [gL_sN]
    split
    · simp
    · exact hq
  · exact Or.inr hq
theorem xo_ext {al al' : Nat × Nat → Nat} {S' : xS} (h : xExt S al S' al') {v : xV} (ho : xo S v) : xo S' v ∧ xc al' v = xc al v := by
  refine ⟨fun q hq => (h q (ho q hq)).1, ?_⟩
  rcases v with x | r | x | x
  · rfl
  · cases r with
    | none => rfl
    | some q => show Value.ref (al' q) = Value.ref (al q); rw [(h q (ho q rfl)).2]
  · rfl
  · rfl
theorem xL_ext {al al' : Nat × Nat → Nat} {S' : xS} {nL : Nat} {lsA : Array Slot} (h : xExt S al S' al') (hL : xL al S nL lsA ls) : xL al' S' nL lsA ls :=
  ⟨hL.1, hL.2.1, hL.2.2.1, fun i v hv => ⟨by rw [(xo_ext h (hL.2.2.2 i v hv).2).2]; exact (hL.2.2.2 i v hv).1, (xo_ext h (hL.2.2.2 i v hv).2).1⟩⟩
theorem xst_ext {al al' : Nat × Nat → Nat} {S' : xS} (h : xExt S al S' al') (ho : ∀ v ∈ st, xo S v) : st.map (xc al') = st.map (xc al) := List.map_congr_left (fun v hv => (xo_ext h (ho v hv)).2)
theorem xK_ext {p : Program} {l : Launch} {e : Env} {R : Room} {s : State} {m : MethodId} {args : Array Value} {below : List Frame} {meth : Method} {c : Code} {D : va_G} {A : Nat → Prop} {al al' : Nat × Nat → Nat} {S' : xS} {Qf : State → Prop} (h : xExt S al S' al') (hK : xK mm Q p l e R s m args below meth c D A al S Qf) : xK mm Q p l e R s m args below meth c D A al' S' Qf :=
  fun v S2 al2 cA2 L2 H2 locs2 c2 s2 pc2 ls2 h1 h2 => hK v S2 al2 cA2 L2 H2 locs2 c2 s2 pc2 ls2 h1 (h.tr h2)
theorem xX_ext {al al' : Nat × Nat → Nat} {S' : xS} {A : Nat → Prop} {s : State} (h : xExt S al S' al') (hX : xX X al A s) : xX X al' A s := by
  have h9 := (h (99, 0) (Or.inr rfl)).2
  rcases hX with hX | hX
  · exact Or.inl hX
  · right; rw [h9]; exact hX
theorem E_new {idx ci k i n : Nat} {C : String} {T : u_T} (hd : decode mm.2.1 pc = .ok (.new idx, 3)) (hcl : Cond.classLink mm.1.cls idx C ∈ xT) (hci : xCl[ci]? = some (C, T, n)) (hk : xCls k = true) (hk2 : xk k = ci) (hi1 : Cond.instantiable C n ∈ xT) (hi2 : Cond.initialized C ∈ xT) (hfr : gL S k i = none)
    (hcb : 1 ≤ cb) (hsb : n ≤ sb)
    (kk : Ex mm d (cb - 1) (sb - n) X Q (pc + 3) ls (xR (some (k, i)) :: st) (sN S k i 0)) : Ex mm d cb sb X Q pc ls st S := by
  intro _ p l e R s m args below meth c H locs cells slots D A al cA L Qf lsA hC hX hH hS hL ho hc hs hK
  subst hk2
  obtain ⟨w1, ⟨ty0, w2⟩, w3, w4⟩ := xcls _ C T n hci
  refine va_new (C := C) (T := T) (N := n) (fs := (List.range n).map (fun j => if xr (xk k) j = true then Value.null else .int 0)) hC.1 hC.2.1 hC.2.2.2.2.2.1 w1 ty0 w2 hC.2.2.2.2.1 (hC.2.2.2.2.2.1 _ hcl) (hC.2.2.2.2.2.1 _ hi1) (hC.2.2.2.2.2.1 _ hi2) hC.2.2.2.2.2.2.2.2.1 hH.1 hH.2.1 hS hC.2.2.2.2.2.2.2.2.2.2.2.2 hci ?_ (by omega) (by omega) hd (fun q H1 hP1 hD1 hS1 => ?_)
  · intro j hj
    simp only [vp_V, List.getD_eq_getElem?_getD]
    rw [xmap_get hj]
    exact xdef _ C T n hci ty0 w2 j hj
  · have hext : xExt S al (sN S k i 0) (x_up al (k, i) q) := xExt_push hfr (x_cls99 hk)
    have hH2 : xH D A s (x_up al (k, i) q) (x_up cA (k, i) 0) (sN S k i 0) (L ++ [(k, i)]) H1 := by
      refine xH_push (n := 0) hH hfr ?_ hP1 hD1 (fun z => by rw [hk] at z; cases z)
      rw [xe_cls (q := (k, i)) hk]
      refine congrArg (fun z => Sum.inr (xk k, z)) ?_
      rw [← w4]
      apply List.map_congr_left
      intro j _
      simp [xcf, gI_sN, gR_sN, va_rf]
    have hkk := kk () hC (xX_ext hext hX) hH2 hS1 (xL_ext hext hL) (xo_c (fun r hr => by cases hr; left; rw [gL_sN]; simp) (fun v hv => (xo_ext hext (ho v hv)).1)) (cells := cells + 1) (slots := slots + n) (by omega) (by omega) (xK_ext hext hK)
    have e : (xR (some (k, i)) :: st).map (xc (x_up al (k, i) q)) = .ref q :: st.map (xc al) := by
      rw [List.map_cons, xst_ext hext ho]
      show va_rf (some (x_up al (k, i) q (k, i))) :: _ = _
      rw [x_up_self]
      rfl
    rw [e] at hkk
    exact hkk
theorem E_newa {k i n : Nat} {x : Int32} {at0 : ArrayType} {ty : FieldType} (hd : decode mm.2.1 pc = .ok (.newarray at0, 2)) (hty : newarray.typeOf at0 = ty) (hta : ty = .int ∨ ty = .boolean) (hw : Cond.arrayClass ty ∈ xT) (hk : xCls k = false) (hk2 : xa k = ty) (h99 : k ≠ 99) (hx : ¬ x < 0) (hn : x.toNatClampNeg = n) (hb : n ≤ 1000000) (hfr : gL S k i = none)
    (hcb : 1 ≤ cb) (hsb : n ≤ sb)
    (kk : Ex mm d (cb - 1) (sb - n) X Q (pc + 2) ls (xR (some (k, i)) :: st) (sN S k i n)) : Ex mm d cb sb X Q pc ls (xI x :: st) S := by
  intro _ p l e R s m args below meth c H locs cells slots D A al cA L Qf lsA hC hX hH hS hL ho hc hs hK
  have har : xar k = false := by rw [xar, hk2]; rcases hta with rfl | rfl <;> rfl
  refine va_newa (tys := []) (a0 := (n, .inl (fun _ => 0))) hC.1 hC.2.1 (by rw [hty]; exact hC.2.2.2.2.2.1 _ hw) hty hC.2.2.2.2.2.2.2.2.1 hH.1 hH.2.1 hS hC.2.2.2.2.2.2.2.2.2.2.2.2 ?_ hx hn ?_ (by omega) (by omega) hd (fun q cid H1 hK1 hP1 hD1 hS1 => ?_)
  · intro cid
    rcases hta with rfl | rfl <;> rfl
  · have : componentBytes ty ≤ 4 := by rcases hta with rfl | rfl <;> decide
    calc n * componentBytes ty ≤ 1000000 * 4 := Nat.mul_le_mul hb this
      _ ≤ 536870912 := by decide
  · have hext : xExt S al (sN S k i n) (x_up al (k, i) q) := xExt_push hfr h99
    have hH2 : xH D A s (x_up al (k, i) q) (x_up cA (k, i) cid) (sN S k i n) (L ++ [(k, i)]) H1 := by
      refine xH_push (n := n) hH hfr ?_ hP1 hD1 (fun _ => by rw [hk2]; exact hK1.2 0 (cid, ty) rfl)
      rw [xe_int (q := (k, i)) (n := n) hk har (by rw [gL_sN]; simp), x_up_self]
      congr 4
      funext j
      simp [gI_sN]
    have hkk := kk () hC (xX_ext hext hX) hH2 hS1 (xL_ext hext hL) (xo_c (fun r hr => by cases hr; left; rw [gL_sN]; simp) (fun v hv => (xo_ext hext (xo_t ho v hv)).1)) (cells := cells + 1) (slots := slots + n) (by omega) (by omega) (xK_ext hext hK)
    have e : (xR (some (k, i)) :: st).map (xc (x_up al (k, i) q)) = .ref q :: st.map (xc al) := by
      rw [List.map_cons, xst_ext hext (xo_t ho)]
      show va_rf (some (x_up al (k, i) q (k, i))) :: _ = _
      rw [x_up_self]
      rfl
    rw [e] at hkk
    exact hkk
theorem E_anew {idx k i n : Nat} {x : Int32} {C : String} (hd : decode mm.2.1 pc = .ok (.anewarray idx, 3)) (hcl : Cond.classLink mm.1.cls idx C ∈ xT) (hao : ∀ U, xN U → va_AO C U) (hk : xCls k = false) (hk2 : xa k = .object C) (h99 : k ≠ 99) (hx : ¬ x < 0) (hn : x.toNatClampNeg = n) (hb : n ≤ 1000000) (hfr : gL S k i = none)
    (hcb : 1 ≤ cb) (hsb : n ≤ sb)
    (kk : Ex mm d (cb - 1) (sb - n) X Q (pc + 3) ls (xR (some (k, i)) :: st) (sN S k i n)) : Ex mm d cb sb X Q pc ls (xI x :: st) S := by
  intro _ p l e R s m args below meth c H locs cells slots D A al cA L Qf lsA hC hX hH hS hL ho hc hs hK
  have har : xar k = true := by rw [xar, hk2]
  refine va_newq (tys := []) hC.1 hC.2.1 hC.2.2.2.2.1 (hC.2.2.2.2.2.1 _ hcl) (hao s hC.2.2.2.2.2.2.2.2.2.1) hC.2.2.2.2.2.2.2.2.1 hH.1 hH.2.1 hS hC.2.2.2.2.2.2.2.2.2.2.2.2 hx hn (by omega) (by omega) (by omega) hd (fun q cid H1 hK1 hP1 hD1 hS1 => ?_)
  have hext : xExt S al (sN S k i n) (x_up al (k, i) q) := xExt_push hfr h99
  have hH2 : xH D A s (x_up al (k, i) q) (x_up cA (k, i) cid) (sN S k i n) (L ++ [(k, i)]) H1 := by
    refine xH_push (n := n) hH hfr ?_ hP1 hD1 (fun _ => by rw [hk2]; exact hK1.2 0 (cid, .object C) rfl)
    rw [xe_ref (q := (k, i)) (n := n) hk har (by rw [gL_sN]; simp), x_up_self]
    congr 7
    funext j
    simp [gR_sN]
  have hkk := kk () hC (xX_ext hext hX) hH2 hS1 (xL_ext hext hL) (xo_c (fun r hr => by cases hr; left; rw [gL_sN]; simp) (fun v hv => (xo_ext hext (xo_t ho v hv)).1)) (cells := cells + 1) (slots := slots + n) (by omega) (by omega) (xK_ext hext hK)
  have e : (xR (some (k, i)) :: st).map (xc (x_up al (k, i) q)) = .ref q :: st.map (xc al) := by
    rw [List.map_cons, xst_ext hext (xo_t ho)]
    show va_rf (some (x_up al (k, i) q (k, i))) :: _ = _
    rw [x_up_self]
    rfl
  rw [e] at hkk
  exact hkk
end XR
end
section
/-! calls -/
section XCALL
variable {mm m2 : xM} {d d2 cb sb mc ms n i : Nat} {X : Nat × (Nat → Int32)} {Q Q2 : Option xV → xS → Prop} {pc : Nat} {ls : List (Option xV)} {av st st0 : List xV} {S : xS}
/-- behind a call -/
theorem x_back {p : Program} {l : Launch} {e : Env} {R : Room} {s : State} {m : MethodId} {args : Array Value} {below : List Frame} {meth : Method} {c : Code} {H : Heap} {locs : List Loc} {cells slots : Nat} {D : va_G} {A : Nat → Prop} {al : Nat × Nat → Nat} {Qf : State → Prop} {lsA : Array Slot} {a : Array Value} {stA : List Value}
    (hr : va_Run p l e R s m args below meth c H locs cells slots mc ms (F0 m pc lsA stA) (st.map (xc al)) ((fun (_ : Array Value) (st : State) (oc : Outcome) (t : State) => ∃ (v : Option xV) (S' : xS) (al' : Nat × Nat → Nat) (cA' : Nat × Nat → ClassId) (L' : List (Nat × Nat)), oc = .returned (v.map (xc al')) ∧ Q2 v S' ∧ xExt S al S' al' ∧ xH D A t al' cA' S' L' t.heap ∧ (∀ w, v = some w → xo S' w) ∧ va_F A st t) a) A)
    (hC : xC mm d p s m args meth c D R A) (hX : xX X al A s) (hS : va_S A s.heap H locs) (hL : xL al S mm.2.2.1 lsA ls) (ho : ∀ v ∈ st, xo S v) (hc : cells + (cb + mc) ≤ R.cells) (hs : slots + (sb + ms) ≤ R.slots) (hK : xK mm Q p l e R s m args below meth c D A al S Qf)
    (k : ∀ v S', Q2 v S' → Ex mm d cb sb X Q (pc + 3) ls (v.toList ++ st) S') : W p l e R s m args below meth c H locs cells slots Qf (F0 m pc lsA stA) := by
  intro T hT X0
  obtain ⟨v, st₀, t, T', L, h0, X', hLo, e1, e2, ⟨w, S', al', cA', L', hv, hq, hext, hH', how, hz, hkp⟩, hst⟩ := hr T hT X0
  have hv' : v = w.map (xc al') := by cases hv; rfl
  subst hv'
  rw [h0] at hz hkp
  have hvm : s.vm.Alike t.vm := by rw [← e2]; exact X'.warmed.alike
  have hS' : va_S A s.heap T'.heap (locs ++ L) := ⟨Nat.le_trans hS.1 (by rw [e1]; exact hz), fun q h1 h2 => by rw [e1, hkp q (Nat.lt_of_lt_of_le h1 hS.1) h2]; exact hS.2.1 q h1 h2, fun q hq => by
    rcases List.mem_append.mp hq with h | h
    · exact hS.2.2 q h
    · exact hLo q h⟩
  have hk := k w S' hq () hC (xX_ext hext hX) (al := al') (cA := cA') (L := L') (H := T'.heap) (locs := locs ++ L) (cells := cells + mc) (slots := slots + ms) (by rw [e1]; exact hH'.moved hvm.symm) hS' (xL_ext hext hL) (fun u hu => by
    rcases List.mem_append.mp hu with h | h
    · cases w with
      | none => cases h
      | some w => rw [List.mem_singleton.mp h]; exact how w rfl
    · exact (xo_ext hext (ho u h)).1) (by omega) (by omega) (xK_ext hext hK)
  have e3 : (w.toList ++ st).map (xc al') = (w.map (xc al')).toList ++ st.map (xc al) := by
    rw [List.map_append, xst_ext hext ho]
    cases w <;> rfl
  rw [e3] at hk
  obtain ⟨t2, a1, b1⟩ := hk T' rfl X'
  exact ⟨t2, hst t2 a1, b1⟩
theorem xGood (mm m2 : xM) (h : Cond.code m2.1 m2.2.1 m2.2.2.1 m2.2.2.2 ∈ xT) : GoodIn xT (xW m2) := by
  intro w hw
  rcases List.mem_cons.mp hw with rfl | hw
  · exact ⟨h, good_of_word (xT_good _ h).2⟩
  · exact ⟨hw, good_of_word (xT_good _ hw).2⟩
theorem xpre {U : State} {s : State} {D : va_G} {A : Nat → Prop} {al : Nat × Nat → Nat} {cA : Nat × Nat → ClassId} {L : List (Nat × Nat)} {H : Heap} (hU : U.heap = H) (hW : s.WarmedH U.vm) (hK : va_K D xCl [] s) (hN : xN s) (hA : ∀ q, H.size ≤ q → A q) (hH : xH D A s al cA S L H) : va_K D xCl [] U ∧ xN U ∧ (∀ q, U.heap.size ≤ q → A q) ∧ xH D A U al cA S L U.heap := by
  subst hU
  exact ⟨va_K.moved hW.alike hK, hN.moved hW, hA, hH.moved hW.alike⟩
theorem xblind {D : va_G} {A : Nat → Prop} {al : Nat × Nat → Nat} {cA : Nat × Nat → ClassId} {L : List (Nat × Nat)} {vs : List Value} : FrameBlind (va_Pc vs (fun U => va_K D xCl [] U ∧ xN U ∧ (∀ q, U.heap.size ≤ q → A q) ∧ xH D A U al cA S L U.heap)) := by
  intro a U g mk h
  obtain ⟨h1, h2, h3, h4, h5⟩ := h
  exact ⟨h1, va_K.moved (u := U) (U := U.calling g mk a) (Vm.Alike.refl U.vm) h2, h3, h4, h5.moved (u := U) (U := U.calling g mk a) (Vm.Alike.refl U.vm)⟩
theorem xsum {al : Nat × Nat → Nat} {lsA : Array Slot} {m : MethodId} {stA : List Value} (h : ∀ al, ((st.map (xc al)).map fun v => v.category).sum ≤ 8) : 2 * (F0 m pc lsA stA).monitorRoom + ((st.map (xc al)).map fun v => v.category).sum ≤ 8 := by
  show 2 * 0 + _ ≤ 8
  have := h al
  omega
theorem E_callS (hd : decode mm.2.1 pc = .ok (.invokestatic i, 3)) (hk : Cond.methodLink mm.1.cls i m2.1 ∈ xT) (hm : xMS m2 n) (hcc : CC m2 d2 mc ms av S Q2) (hst : st0 = av.reverse ++ st) (hn : av.length = n) (hd2 : d2 + 1 ≤ d) (hsum : ∀ al, ((st.map (xc al)).map fun v => v.category).sum ≤ 8)
    (hcb : mc ≤ cb) (hsb : ms ≤ sb)
    (k : ∀ v S', Q2 v S' → Ex mm d (cb - mc) (sb - ms) X Q (pc + 3) ls (v.toList ++ st) S') : Ex mm d cb sb X Q pc ls st0 S := by
  intro _ p l e R s m args below meth c H locs cells slots D A al cA L Qf lsA hC hX hH hS hL ho hc hs hK
  subst hst
  obtain ⟨⟨hm1, hm2, hm3, hm4⟩, hm5⟩ := hm
  have hts := hC.2.2.2.2.2.1
  have hov : ∀ v ∈ av, xo S v := fun v hv => ho v (List.mem_append_left _ (List.mem_reverse.mpr hv))
  refine x_back (a := #[]) (Q2 := Q2) (S := S) (cb := cb - mc) (sb := sb - ms) (va_runS (Ts := xT) (own := mm.1.cls) (As := av.map (xc al)) (rest := st.map (xc al)) (n := n) ⟨hC.1, hC.2.1, hC.2.2.2.1, hC.2.2.2.2.1, hts⟩ (hcc l D A al cA L hov)
    ⟨callB_of n hts (xGood mm m2 hm1) rfl rfl rfl (hts _ hm2) (hts _ hk) hm3 ⟨Nat.le_trans hd2 hC.2.2.2.2.2.2.2.2.2.2.1, ?_⟩, hts _ hm5⟩
    ⟨xblind, fun U hU hW => ⟨rfl, xpre hU hW hC.2.2.2.2.2.2.2.2.1 hC.2.2.2.2.2.2.2.2.2.1 (fun q hq => hC.2.2.2.2.2.2.2.2.2.2.2.2 q (Nat.le_trans hS.1 hq)) hH⟩⟩ rfl (by simpa using hn) (hL.1) (by simp) (xsum hsum) hd ⟨by omega, by omega⟩) hC hX hS hL (fun v hv => ho v (List.mem_append_right _ hv)) (by omega) (by omega) hK k
  have h2 := hC.2.2.2.2.2.2.2.2.2.2.2.1
  show 8 + (m2.2.2.1 + 11) + (12 + 32 * d2) ≤ R.locals
  omega
theorem E_callV {k0 i0 : Nat} (hd : decode mm.2.1 pc = .ok (.invokevirtual i, 3)) (hk : Cond.methodLink mm.1.cls i m2.1 ∈ xT) (hm : xMV m2 n) (hcc : CC m2 d2 mc ms (xR (some (k0, i0)) :: av) S Q2) (hcl : xCls k0 = true) (hcl2 : ∃ T N, xCl[xk k0]? = some (m2.1.cls, T, N)) (hst : st0 = av.reverse ++ xR (some (k0, i0)) :: st) (hn : av.length = n) (hd2 : d2 + 1 ≤ d) (hsum : ∀ al, ((st.map (xc al)).map fun v => v.category).sum ≤ 8)
    (hcb : mc ≤ cb) (hsb : ms ≤ sb)
    (k : ∀ v S', Q2 v S' → Ex mm d (cb - mc) (sb - ms) X Q (pc + 3) ls (v.toList ++ st) S') : Ex mm d cb sb X Q pc ls st0 S := by
  intro _ p l e R s m args below meth c H locs cells slots D A al cA L Qf lsA hC hX hH hS hL ho hc hs hK
  subst hst
  obtain ⟨⟨hm1, hm2, hm3, hm4⟩, hm5, hm6⟩ := hm
  obtain ⟨T0, N0, hcl2⟩ := hcl2
  have hts := hC.2.2.2.2.2.1
  have hor : xo S (xR (some (k0, i0))) := ho _ (List.mem_append_right _ List.mem_cons_self)
  have hov : ∀ v ∈ xR (some (k0, i0)) :: av, xo S v := xo_c hor (fun v hv => ho v (List.mem_append_left _ (List.mem_reverse.mpr hv)))
  obtain ⟨b, m1, mm2⟩ := xw_get (al := al) (S := S) (cA := cA) (x_in hH hor (x_cls99 hcl))
  rw [xe_cls (q := (k0, i0)) hcl] at mm2
  refine x_back (a := #[]) (Q2 := Q2) (S := S) (cb := cb - mc) (sb := sb - ms) (va_runV (Ts := xT) (own := mm.1.cls) (C := m2.1.cls) (b := al (k0, i0)) (As := av.map (xc al)) (rest := st.map (xc al)) (n := n) ⟨hC.1, hC.2.1, hC.2.2.2.1, hC.2.2.2.2.1, hts⟩ (hcc l D A al cA L hov)
    ⟨callB_of n hts (xGood mm m2 hm1) rfl rfl rfl (hts _ hm2) (hts _ hk) hm3 ⟨Nat.le_trans hd2 hC.2.2.2.2.2.2.2.2.2.2.1, ?_⟩, hts _ hm5, hts _ hm6⟩
    ⟨xblind, va_recv hC.2.2.2.2.2.2.2.2.1 hH.1 hcl2 mm2, fun U hU hW => ⟨rfl, xpre hU hW hC.2.2.2.2.2.2.2.2.1 hC.2.2.2.2.2.2.2.2.2.1 (fun q hq => hC.2.2.2.2.2.2.2.2.2.2.2.2 q (Nat.le_trans hS.1 hq)) hH⟩⟩ rfl (by simpa using hn) (hL.1) (by simp [xc, va_rf]) (xsum hsum) hd ⟨by omega, by omega⟩) hC hX hS hL (fun v hv => ho v (List.mem_append_right _ (List.mem_cons_of_mem _ hv))) (by omega) (by omega) hK k
  have h2 := hC.2.2.2.2.2.2.2.2.2.2.2.1
  show 8 + (m2.2.2.1 + 11) + (12 + 32 * d2) ≤ R.locals
  omega
theorem E_callI {k0 i0 : Nat} (hd : decode mm.2.1 pc = .ok (.invokespecial i, 3)) (hk : Cond.methodLink mm.1.cls i m2.1 ∈ xT) (hm : xMI m2 n) (hcc : CC m2 d2 mc ms (xR (some (k0, i0)) :: av) S Q2) (hst : st0 = av.reverse ++ xR (some (k0, i0)) :: st) (hn : av.length = n) (hd2 : d2 + 1 ≤ d) (hsum : ∀ al, ((st.map (xc al)).map fun v => v.category).sum ≤ 8)
    (hcb : mc ≤ cb) (hsb : ms ≤ sb)
    (k : ∀ v S', Q2 v S' → Ex mm d (cb - mc) (sb - ms) X Q (pc + 3) ls (v.toList ++ st) S') : Ex mm d cb sb X Q pc ls st0 S := by
  intro _ p l e R s m args below meth c H locs cells slots D A al cA L Qf lsA hC hX hH hS hL ho hc hs hK
  subst hst
  obtain ⟨⟨hm1, hm2, hm3, hm4⟩, hm5, hm6, hm7⟩ := hm
  obtain ⟨y2, c2, n2, r2⟩ := m2
  simp only at hm7
  subst hm7
  have hts := hC.2.2.2.2.2.1
  have hor : xo S (xR (some (k0, i0))) := ho _ (List.mem_append_right _ List.mem_cons_self)
  have hov : ∀ v ∈ xR (some (k0, i0)) :: av, xo S v := xo_c hor (fun v hv => ho v (List.mem_append_left _ (List.mem_reverse.mpr hv)))
  refine x_back (a := #[]) (Q2 := Q2) (S := S) (cb := cb - mc) (sb := sb - ms) (va_runI (Ts := xT) (own := mm.1.cls) (b := al (k0, i0)) (As := av.map (xc al)) (rest := st.map (xc al)) (n := n) ⟨hC.1, hC.2.1, hC.2.2.2.1, hC.2.2.2.2.1, hts⟩ (hcc l D A al cA L hov)
    ⟨callB_of n hts (xGood mm (y2, c2, n2, none) hm1) rfl rfl rfl (hts _ hm2) (hts _ hk) hm3 ⟨Nat.le_trans hd2 hC.2.2.2.2.2.2.2.2.2.2.1, ?_⟩, hm6, hts _ hm5⟩
    ⟨xblind, fun U hU hW => ⟨rfl, xpre hU hW hC.2.2.2.2.2.2.2.2.1 hC.2.2.2.2.2.2.2.2.2.1 (fun q hq => hC.2.2.2.2.2.2.2.2.2.2.2.2 q (Nat.le_trans hS.1 hq)) hH⟩⟩ rfl (by simpa using hn) (hL.1) (by simp [xc, va_rf]) (xsum hsum) hd ⟨by omega, by omega⟩) hC hX hS hL (fun v hv => ho v (List.mem_append_right _ (List.mem_cons_of_mem _ hv))) (by omega) (by omega) hK k
  have h2 := hC.2.2.2.2.2.2.2.2.2.2.2.1
  show 8 + (n2 + 11) + (12 + 32 * d2) ≤ R.locals
  simp only at hm4
  omega
theorem E_callN {k0 i0 : Nat} {host : String} (hd : decode mm.2.1 pc = .ok (.invokespecial i, 3)) (hk : ∀ U, xN U → va_Nw (.methodLinkNest mm.1.cls i m2.1 host) U) (hm : xMI m2 n) (hcc : CC m2 d2 mc ms (xR (some (k0, i0)) :: av) S Q2) (hst : st0 = av.reverse ++ xR (some (k0, i0)) :: st) (hn : av.length = n) (hd2 : d2 + 1 ≤ d) (hsum : ∀ al, ((st.map (xc al)).map fun v => v.category).sum ≤ 8)
    (hcb : mc ≤ cb) (hsb : ms ≤ sb)
    (k : ∀ v S', Q2 v S' → Ex mm d (cb - mc) (sb - ms) X Q (pc + 3) ls (v.toList ++ st) S') : Ex mm d cb sb X Q pc ls st0 S := by
  intro _ p l e R s m args below meth c H locs cells slots D A al cA L Qf lsA hC hX hH hS hL ho hc hs hK
  subst hst
  obtain ⟨⟨hm1, hm2, hm3, hm4⟩, hm5, hm6, hm7⟩ := hm
  obtain ⟨y2, c2, n2, r2⟩ := m2
  simp only at hm7
  subst hm7
  have hts := hC.2.2.2.2.2.1
  have hor : xo S (xR (some (k0, i0))) := ho _ (List.mem_append_right _ List.mem_cons_self)
  have hov : ∀ v ∈ xR (some (k0, i0)) :: av, xo S v := xo_c hor (fun v hv => ho v (List.mem_append_left _ (List.mem_reverse.mpr hv)))
  refine x_back (a := #[]) (Q2 := Q2) (S := S) (cb := cb - mc) (sb := sb - ms) (va_runIN (Ts := xT) (own := mm.1.cls) (host := host) (b := al (k0, i0)) (As := av.map (xc al)) (rest := st.map (xc al)) (n := n) ⟨hC.1, hC.2.1, hC.2.2.2.1, hC.2.2.2.2.1, hts⟩ (hcc l D A al cA L hov)
    ⟨va_cnB n hts (xGood mm (y2, c2, n2, none) hm1) rfl rfl rfl (hk s hC.2.2.2.2.2.2.2.2.2.1) (hts _ hm2) hm3 ⟨Nat.le_trans hd2 hC.2.2.2.2.2.2.2.2.2.2.1, ?_⟩, hm6, hts _ hm5⟩
    ⟨xblind, fun U hU hW => ⟨rfl, xpre hU hW hC.2.2.2.2.2.2.2.2.1 hC.2.2.2.2.2.2.2.2.2.1 (fun q hq => hC.2.2.2.2.2.2.2.2.2.2.2.2 q (Nat.le_trans hS.1 hq)) hH⟩⟩ rfl (by simpa using hn) (hL.1) (by simp [xc, va_rf]) (xsum hsum) hd ⟨by omega, by omega⟩) hC hX hS hL (fun v hv => ho v (List.mem_append_right _ (List.mem_cons_of_mem _ hv))) (by omega) (by omega) hK k
  have h2 := hC.2.2.2.2.2.2.2.2.2.2.2.1
  show 8 + (n2 + 11) + (12 + 32 * d2) ≤ R.locals
  simp only at hm4
  omega
end XCALL
end
section
/-! small rows -/
theorem fa_lt (a b : Int32) : a < b ↔ a.toInt < b.toInt := Int32.lt_iff_toInt_lt
theorem fa_le (a b : Int32) : a ≤ b ↔ a.toInt ≤ b.toInt := Int32.le_iff_toInt_le
theorem fa_eq (a b : Int32) : a = b ↔ a.toInt = b.toInt := Int32.toInt_inj.symm
theorem xcat2 (v : Value) : v.category ≤ 2 := by rcases lv_cat v with h | h <;> omega
theorem xsumL : ∀ (l : List Value), (l.map fun v => v.category).sum ≤ 2 * l.length
  | [] => by simp
  | v :: l => by
    have h1 := xsumL l
    have h2 := xcat2 v
    simp only [List.map_cons, List.sum_cons, List.length_cons]
    omega
theorem xs8 {st : List xV} (h : st.length ≤ 4) : ∀ al : Nat × Nat → Nat, ((st.map (xc al)).map fun v => v.category).sum ≤ 8 := by
  intro al
  have h1 := xsumL (st.map (xc al))
  rw [List.length_map] at h1
  omega
theorem vin {j n : Nat} (h : j < n) (hn : n ≤ 100000) : vp_in (nI j) n := vp_in_nI h (by omega)
theorem vnat {j n : Nat} (h : j < n) (hn : n ≤ 100000) : (nI j).toNatClampNeg = j := nI_clamp (by omega)
/-- a boolean in a cell -/
def xB (x : Int32) : Prop := x = 0 ∨ x = 1
theorem xB.n {x : Int32} (h : xB x) : narrow .boolean (.int x) = .int x := by rcases h with rfl | rfl <;> rfl
theorem xB.f {x : Int32} (h : xB x) : fits .boolean (.int x) = true := by rcases h with rfl | rfl <;> rfl
theorem xB.v {x : Int32} (h : xB x) : vp_nar .boolean x = x := by rcases h with rfl | rfl <;> rfl
theorem xB.z {x : Int32} (h : xB x) : ¬ x = 0 ↔ x = 1 := by rcases h with rfl | rfl <;> decide
theorem xB_0 : xB 0 := Or.inl rfl
theorem xB_1 : xB 1 := Or.inr rfl
theorem xB_if (c : Prop) [Decidable c] : xB (if c then 1 else 0) := by
  by_cases h : c
  · rw [if_pos h]; exact xB_1
  · rw [if_neg h]; exact xB_0
theorem xB_ifn (c : Prop) [Decidable c] : xB (if c then 0 else 1) := by
  by_cases h : c
  · rw [if_pos h]; exact xB_0
  · rw [if_neg h]; exact xB_1
/-- answers: an int, a reference, nothing -/
abbrev aI (x : Int32) (S2 : xS) : Option xV → xS → Prop := fun v S' => some (xI x) = v ∧ S2 = S'
abbrev aR (r : Option (Nat × Nat)) (S2 : xS) : Option xV → xS → Prop := fun v S' => some (xR r) = v ∧ S2 = S'
abbrev aV (S2 : xS) : Option xV → xS → Prop := fun v S' => none = v ∧ S2 = S'
/-- sums -/
def xsm (f : Nat → Int32) : Nat → Int32
  | 0 => 0
  | n + 1 => xsm f n + f n
theorem xsm_succ (f : Nat → Int32) (n : Nat) : xsm f (n + 1) = xsm f n + f n := rfl
theorem xsm_cong {f g : Nat → Int32} : ∀ {n : Nat}, (∀ k, k < n → f k = g k) → xsm f n = xsm g n
  | 0, _ => rfl
  | n + 1, h => by rw [xsm_succ, xsm_succ, xsm_cong (fun k hk => h k (by omega)), h n (by omega)]
theorem xsm_upd {f g : Nat → Int32} {i : Nat} {v : Int32} : ∀ {n : Nat}, i < n → (∀ k, k < n → k ≠ i → g k = f k) → g i = f i + v → xsm g n = xsm f n + v
  | 0, h, _, _ => absurd h (by omega)
  | n + 1, h, ho, hi => by
    rw [xsm_succ, xsm_succ]
    by_cases hn : i = n
    · subst hn
      rw [hi, xsm_cong (g := f) (fun k hk => ho k (by omega) (by omega)), Int32.add_assoc]
    · rw [xsm_upd (by omega) (fun k hk hne => ho k (by omega) hne) hi, ho n (by omega) (Ne.symm hn), Int32.add_assoc, Int32.add_comm v, ← Int32.add_assoc]
theorem xsm_add (f g : Nat → Int32) : ∀ n, xsm (fun k => f k + g k) n = xsm f n + xsm g n
  | 0 => (by decide : (0 : Int32) = 0 + 0)
  | n + 1 => by
    rw [xsm_succ, xsm_succ, xsm_succ, xsm_add f g n, Int32.add_assoc, Int32.add_assoc, ← Int32.add_assoc (xsm g n), Int32.add_comm (xsm g n), Int32.add_assoc]
theorem xsm_zero {f : Nat → Int32} : ∀ {n : Nat}, (∀ k, k < n → f k = 0) → xsm f n = 0
  | 0, _ => rfl
  | n + 1, h => by rw [xsm_succ, xsm_zero (fun k hk => h k (by omega)), h n (by omega)]; decide
/-- the class's own shape: its arrays and parts, where they are -/
def xShX (S : xS) : Prop := gR S 8 0 0 = some (10, 0) ∧ gR S 8 0 1 = some (11, 0) ∧ gR S 8 0 2 = some (12, 0) ∧ gR S 8 0 3 = some (2, 0) ∧ gR S 8 0 4 = some (5, 0) ∧ gR S 2 0 0 = some (13, 0) ∧ gR S 2 0 1 = some (14, 0) ∧ gR S 5 0 0 = some (15, 0) ∧ gR S 5 0 1 = some (16, 0) ∧ gL S 10 0 = some 4 ∧ gL S 11 0 = some 200 ∧ gL S 12 0 = some 20 ∧ gL S 13 0 = some 30 ∧ gL S 14 0 = some 30 ∧ gL S 15 0 = some 24 ∧ gL S 16 0 = some 24
theorem rX_8_0 {S : xS} (h : xShX S) : gR S 8 0 0 = some (10, 0) := h.1
theorem rX_8_1 {S : xS} (h : xShX S) : gR S 8 0 1 = some (11, 0) := h.2.1
theorem rX_8_2 {S : xS} (h : xShX S) : gR S 8 0 2 = some (12, 0) := h.2.2.1
theorem rX_8_3 {S : xS} (h : xShX S) : gR S 8 0 3 = some (2, 0) := h.2.2.2.1
theorem rX_8_4 {S : xS} (h : xShX S) : gR S 8 0 4 = some (5, 0) := h.2.2.2.2.1
theorem rX_2_0 {S : xS} (h : xShX S) : gR S 2 0 0 = some (13, 0) := h.2.2.2.2.2.1
theorem rX_2_1 {S : xS} (h : xShX S) : gR S 2 0 1 = some (14, 0) := h.2.2.2.2.2.2.1
theorem rX_5_0 {S : xS} (h : xShX S) : gR S 5 0 0 = some (15, 0) := h.2.2.2.2.2.2.2.1
theorem rX_5_1 {S : xS} (h : xShX S) : gR S 5 0 1 = some (16, 0) := h.2.2.2.2.2.2.2.2.1
theorem lX_10 {S : xS} (h : xShX S) : gL S 10 0 = some 4 := h.2.2.2.2.2.2.2.2.2.1
theorem lX_11 {S : xS} (h : xShX S) : gL S 11 0 = some 200 := h.2.2.2.2.2.2.2.2.2.2.1
theorem lX_12 {S : xS} (h : xShX S) : gL S 12 0 = some 20 := h.2.2.2.2.2.2.2.2.2.2.2.1
theorem lX_13 {S : xS} (h : xShX S) : gL S 13 0 = some 30 := h.2.2.2.2.2.2.2.2.2.2.2.2.1
theorem lX_14 {S : xS} (h : xShX S) : gL S 14 0 = some 30 := h.2.2.2.2.2.2.2.2.2.2.2.2.2.1
theorem lX_15 {S : xS} (h : xShX S) : gL S 15 0 = some 24 := h.2.2.2.2.2.2.2.2.2.2.2.2.2.2.1
theorem lX_16 {S : xS} (h : xShX S) : gL S 16 0 = some 24 := h.2.2.2.2.2.2.2.2.2.2.2.2.2.2.2
/-- the reference's shape -/
def xShM (S : xS) : Prop := (gR S 9 0 1 = some (51, 0) ∧ gL S 51 0 = some 4) ∧ (gR S 9 0 2 = some (52, 0) ∧ gL S 52 0 = some 4) ∧ (gR S 9 0 3 = some (53, 0) ∧ gL S 53 0 = some 4) ∧ (gR S 9 0 4 = some (54, 0) ∧ gL S 54 0 = some 4) ∧ (gR S 9 0 5 = some (55, 0) ∧ gL S 55 0 = some 4) ∧ (gR S 9 0 6 = some (56, 0) ∧ gL S 56 0 = some 4) ∧ (gR S 9 0 7 = some (57, 0) ∧ gL S 57 0 = some 4) ∧ (gR S 9 0 8 = some (58, 0) ∧ gL S 58 0 = some 4) ∧ (gR S 9 0 9 = some (59, 0) ∧ gL S 59 0 = some 4) ∧ (gR S 9 0 10 = some (60, 0) ∧ gL S 60 0 = some 4) ∧ (gR S 9 0 11 = some (61, 0) ∧ gL S 61 0 = some 4) ∧ (gR S 9 0 12 = some (62, 0) ∧ gL S 62 0 = some 4) ∧ (gR S 9 0 13 = some (63, 0) ∧ gL S 63 0 = some 4) ∧ (gR S 9 0 14 = some (64, 0) ∧ gL S 64 0 = some 12) ∧ (gR S 9 0 15 = some (65, 0) ∧ gL S 65 0 = some 12) ∧ (gR S 9 0 16 = some (66, 0) ∧ gL S 66 0 = some 12) ∧ (gR S 9 0 17 = some (67, 0) ∧ gL S 67 0 = some 12) ∧ (gR S 9 0 18 = some (68, 0) ∧ gL S 68 0 = some 12) ∧ (gR S 9 0 19 = some (69, 0) ∧ gL S 69 0 = some 4) ∧ (gR S 9 0 20 = some (70, 0) ∧ gL S 70 0 = some 12) ∧ (gR S 9 0 21 = some (71, 0) ∧ gL S 71 0 = some 12) ∧ (gR S 9 0 23 = some (73, 0) ∧ gL S 73 0 = some 200) ∧ (gR S 9 0 24 = some (74, 0) ∧ gL S 74 0 = some 200) ∧ (gR S 9 0 25 = some (75, 0) ∧ gL S 75 0 = some 200) ∧ (gR S 9 0 26 = some (76, 0) ∧ gL S 76 0 = some 200) ∧ (gR S 9 0 27 = some (77, 0) ∧ gL S 77 0 = some 200) ∧ (gR S 9 0 28 = some (78, 0) ∧ gL S 78 0 = some 200) ∧ (gR S 9 0 29 = some (79, 0) ∧ gL S 79 0 = some 200) ∧ (gR S 9 0 30 = some (80, 0) ∧ gL S 80 0 = some 200) ∧ (gR S 9 0 31 = some (81, 0) ∧ gL S 81 0 = some 200) ∧ (gR S 9 0 32 = some (82, 0) ∧ gL S 82 0 = some 200) ∧ (gR S 9 0 33 = some (83, 0) ∧ gL S 83 0 = some 30) ∧ (gR S 9 0 34 = some (84, 0) ∧ gL S 84 0 = some 30) ∧ (gR S 9 0 37 = some (87, 0) ∧ gL S 87 0 = some 20) ∧ (gR S 9 0 38 = some (88, 0) ∧ gL S 88 0 = some 20) ∧ (gR S 9 0 39 = some (89, 0) ∧ gL S 89 0 = some 20) ∧ (gR S 9 0 40 = some (90, 0) ∧ gL S 90 0 = some 20) ∧ (gR S 9 0 41 = some (91, 0) ∧ gL S 91 0 = some 20) ∧ (gR S 9 0 42 = some (92, 0) ∧ gL S 92 0 = some 4) ∧ (gR S 9 0 43 = some (93, 0) ∧ gL S 93 0 = some 4) ∧ (gR S 9 0 44 = some (94, 0) ∧ gL S 94 0 = some 24) ∧ (gR S 9 0 45 = some (95, 0) ∧ gL S 95 0 = some 24)
theorem rM_1 {S : xS} (h : xShM S) : gR S 9 0 1 = some (51, 0) := (h.1).1
theorem lM_1 {S : xS} (h : xShM S) : gL S 51 0 = some 4 := (h.1).2
theorem rM_2 {S : xS} (h : xShM S) : gR S 9 0 2 = some (52, 0) := (h.2.1).1
theorem lM_2 {S : xS} (h : xShM S) : gL S 52 0 = some 4 := (h.2.1).2
theorem rM_3 {S : xS} (h : xShM S) : gR S 9 0 3 = some (53, 0) := (h.2.2.1).1
theorem lM_3 {S : xS} (h : xShM S) : gL S 53 0 = some 4 := (h.2.2.1).2
theorem rM_4 {S : xS} (h : xShM S) : gR S 9 0 4 = some (54, 0) := (h.2.2.2.1).1
theorem lM_4 {S : xS} (h : xShM S) : gL S 54 0 = some 4 := (h.2.2.2.1).2
theorem rM_5 {S : xS} (h : xShM S) : gR S 9 0 5 = some (55, 0) := (h.2.2.2.2.1).1
theorem lM_5 {S : xS} (h : xShM S) : gL S 55 0 = some 4 := (h.2.2.2.2.1).2
theorem rM_6 {S : xS} (h : xShM S) : gR S 9 0 6 = some (56, 0) := (h.2.2.2.2.2.1).1
theorem lM_6 {S : xS} (h : xShM S) : gL S 56 0 = some 4 := (h.2.2.2.2.2.1).2
theorem rM_7 {S : xS} (h : xShM S) : gR S 9 0 7 = some (57, 0) := (h.2.2.2.2.2.2.1).1
theorem lM_7 {S : xS} (h : xShM S) : gL S 57 0 = some 4 := (h.2.2.2.2.2.2.1).2
theorem rM_8 {S : xS} (h : xShM S) : gR S 9 0 8 = some (58, 0) := (h.2.2.2.2.2.2.2.1).1
theorem lM_8 {S : xS} (h : xShM S) : gL S 58 0 = some 4 := (h.2.2.2.2.2.2.2.1).2
theorem rM_9 {S : xS} (h : xShM S) : gR S 9 0 9 = some (59, 0) := (h.2.2.2.2.2.2.2.2.1).1
theorem lM_9 {S : xS} (h : xShM S) : gL S 59 0 = some 4 := (h.2.2.2.2.2.2.2.2.1).2
theorem rM_10 {S : xS} (h : xShM S) : gR S 9 0 10 = some (60, 0) := (h.2.2.2.2.2.2.2.2.2.1).1
theorem lM_10 {S : xS} (h : xShM S) : gL S 60 0 = some 4 := (h.2.2.2.2.2.2.2.2.2.1).2
theorem rM_11 {S : xS} (h : xShM S) : gR S 9 0 11 = some (61, 0) := (h.2.2.2.2.2.2.2.2.2.2.1).1
theorem lM_11 {S : xS} (h : xShM S) : gL S 61 0 = some 4 := (h.2.2.2.2.2.2.2.2.2.2.1).2
theorem rM_12 {S : xS} (h : xShM S) : gR S 9 0 12 = some (62, 0) := (h.2.2.2.2.2.2.2.2.2.2.2.1).1
theorem lM_12 {S : xS} (h : xShM S) : gL S 62 0 = some 4 := (h.2.2.2.2.2.2.2.2.2.2.2.1).2
theorem rM_13 {S : xS} (h : xShM S) : gR S 9 0 13 = some (63, 0) := (h.2.2.2.2.2.2.2.2.2.2.2.2.1).1
theorem lM_13 {S : xS} (h : xShM S) : gL S 63 0 = some 4 := (h.2.2.2.2.2.2.2.2.2.2.2.2.1).2
theorem rM_14 {S : xS} (h : xShM S) : gR S 9 0 14 = some (64, 0) := (h.2.2.2.2.2.2.2.2.2.2.2.2.2.1).1
theorem lM_14 {S : xS} (h : xShM S) : gL S 64 0 = some 12 := (h.2.2.2.2.2.2.2.2.2.2.2.2.2.1).2
theorem rM_15 {S : xS} (h : xShM S) : gR S 9 0 15 = some (65, 0) := (h.2.2.2.2.2.2.2.2.2.2.2.2.2.2.1).1
theorem lM_15 {S : xS} (h : xShM S) : gL S 65 0 = some 12 := (h.2.2.2.2.2.2.2.2.2.2.2.2.2.2.1).2
theorem rM_16 {S : xS} (h : xShM S) : gR S 9 0 16 = some (66, 0) := (h.2.2.2.2.2.2.2.2.2.2.2.2.2.2.2.1).1
theorem lM_16 {S : xS} (h : xShM S) : gL S 66 0 = some 12 := (h.2.2.2.2.2.2.2.2.2.2.2.2.2.2.2.1).2
theorem rM_17 {S : xS} (h : xShM S) : gR S 9 0 17 = some (67, 0) := (h.2.2.2.2.2.2.2.2.2.2.2.2.2.2.2.2.1).1
theorem lM_17 {S : xS} (h : xShM S) : gL S 67 0 = some 12 := (h.2.2.2.2.2.2.2.2.2.2.2.2.2.2.2.2.1).2
theorem rM_18 {S : xS} (h : xShM S) : gR S 9 0 18 = some (68, 0) := (h.2.2.2.2.2.2.2.2.2.2.2.2.2.2.2.2.2.1).1
theorem lM_18 {S : xS} (h : xShM S) : gL S 68 0 = some 12 := (h.2.2.2.2.2.2.2.2.2.2.2.2.2.2.2.2.2.1).2
theorem rM_19 {S : xS} (h : xShM S) : gR S 9 0 19 = some (69, 0) := (h.2.2.2.2.2.2.2.2.2.2.2.2.2.2.2.2.2.2.1).1
theorem lM_19 {S : xS} (h : xShM S) : gL S 69 0 = some 4 := (h.2.2.2.2.2.2.2.2.2.2.2.2.2.2.2.2.2.2.1).2
theorem rM_20 {S : xS} (h : xShM S) : gR S 9 0 20 = some (70, 0) := (h.2.2.2.2.2.2.2.2.2.2.2.2.2.2.2.2.2.2.2.1).1
theorem lM_20 {S : xS} (h : xShM S) : gL S 70 0 = some 12 := (h.2.2.2.2.2.2.2.2.2.2.2.2.2.2.2.2.2.2.2.1).2
theorem rM_21 {S : xS} (h : xShM S) : gR S 9 0 21 = some (71, 0) := (h.2.2.2.2.2.2.2.2.2.2.2.2.2.2.2.2.2.2.2.2.1).1
theorem lM_21 {S : xS} (h : xShM S) : gL S 71 0 = some 12 := (h.2.2.2.2.2.2.2.2.2.2.2.2.2.2.2.2.2.2.2.2.1).2
theorem rM_23 {S : xS} (h : xShM S) : gR S 9 0 23 = some (73, 0) := (h.2.2.2.2.2.2.2.2.2.2.2.2.2.2.2.2.2.2.2.2.2.1).1
theorem lM_23 {S : xS} (h : xShM S) : gL S 73 0 = some 200 := (h.2.2.2.2.2.2.2.2.2.2.2.2.2.2.2.2.2.2.2.2.2.1).2
theorem rM_24 {S : xS} (h : xShM S) : gR S 9 0 24 = some (74, 0) := (h.2.2.2.2.2.2.2.2.2.2.2.2.2.2.2.2.2.2.2.2.2.2.1).1
theorem lM_24 {S : xS} (h : xShM S) : gL S 74 0 = some 200 := (h.2.2.2.2.2.2.2.2.2.2.2.2.2.2.2.2.2.2.2.2.2.2.1).2
theorem rM_25 {S : xS} (h : xShM S) : gR S 9 0 25 = some (75, 0) := (h.2.2.2.2.2.2.2.2.2.2.2.2.2.2.2.2.2.2.2.2.2.2.2.1).1
theorem lM_25 {S : xS} (h : xShM S) : gL S 75 0 = some 200 := (h.2.2.2.2.2.2.2.2.2.2.2.2.2.2.2.2.2.2.2.2.2.2.2.1).2
theorem rM_26 {S : xS} (h : xShM S) : gR S 9 0 26 = some (76, 0) := (h.2.2.2.2.2.2.2.2.2.2.2.2.2.2.2.2.2.2.2.2.2.2.2.2.1).1
theorem lM_26 {S : xS} (h : xShM S) : gL S 76 0 = some 200 := (h.2.2.2.2.2.2.2.2.2.2.2.2.2.2.2.2.2.2.2.2.2.2.2.2.1).2
theorem rM_27 {S : xS} (h : xShM S) : gR S 9 0 27 = some (77, 0) := (h.2.2.2.2.2.2.2.2.2.2.2.2.2.2.2.2.2.2.2.2.2.2.2.2.2.1).1
theorem lM_27 {S : xS} (h : xShM S) : gL S 77 0 = some 200 := (h.2.2.2.2.2.2.2.2.2.2.2.2.2.2.2.2.2.2.2.2.2.2.2.2.2.1).2
theorem rM_28 {S : xS} (h : xShM S) : gR S 9 0 28 = some (78, 0) := (h.2.2.2.2.2.2.2.2.2.2.2.2.2.2.2.2.2.2.2.2.2.2.2.2.2.2.1).1
theorem lM_28 {S : xS} (h : xShM S) : gL S 78 0 = some 200 := (h.2.2.2.2.2.2.2.2.2.2.2.2.2.2.2.2.2.2.2.2.2.2.2.2.2.2.1).2
theorem rM_29 {S : xS} (h : xShM S) : gR S 9 0 29 = some (79, 0) := (h.2.2.2.2.2.2.2.2.2.2.2.2.2.2.2.2.2.2.2.2.2.2.2.2.2.2.2.1).1
theorem lM_29 {S : xS} (h : xShM S) : gL S 79 0 = some 200 := (h.2.2.2.2.2.2.2.2.2.2.2.2.2.2.2.2.2.2.2.2.2.2.2.2.2.2.2.1).2
theorem rM_30 {S : xS} (h : xShM S) : gR S 9 0 30 = some (80, 0) := (h.2.2.2.2.2.2.2.2.2.2.2.2.2.2.2.2.2.2.2.2.2.2.2.2.2.2.2.2.1).1
theorem lM_30 {S : xS} (h : xShM S) : gL S 80 0 = some 200 := (h.2.2.2.2.2.2.2.2.2.2.2.2.2.2.2.2.2.2.2.2.2.2.2.2.2.2.2.2.1).2
theorem rM_31 {S : xS} (h : xShM S) : gR S 9 0 31 = some (81, 0) := (h.2.2.2.2.2.2.2.2.2.2.2.2.2.2.2.2.2.2.2.2.2.2.2.2.2.2.2.2.2.1).1
theorem lM_31 {S : xS} (h : xShM S) : gL S 81 0 = some 200 := (h.2.2.2.2.2.2.2.2.2.2.2.2.2.2.2.2.2.2.2.2.2.2.2.2.2.2.2.2.2.1).2
theorem rM_32 {S : xS} (h : xShM S) : gR S 9 0 32 = some (82, 0) := (h.2.2.2.2.2.2.2.2.2.2.2.2.2.2.2.2.2.2.2.2.2.2.2.2.2.2.2.2.2.2.1).1
theorem lM_32 {S : xS} (h : xShM S) : gL S 82 0 = some 200 := (h.2.2.2.2.2.2.2.2.2.2.2.2.2.2.2.2.2.2.2.2.2.2.2.2.2.2.2.2.2.2.1).2
theorem rM_33 {S : xS} (h : xShM S) : gR S 9 0 33 = some (83, 0) := (h.2.2.2.2.2.2.2.2.2.2.2.2.2.2.2.2.2.2.2.2.2.2.2.2.2.2.2.2.2.2.2.1).1
theorem lM_33 {S : xS} (h : xShM S) : gL S 83 0 = some 30 := (h.2.2.2.2.2.2.2.2.2.2.2.2.2.2.2.2.2.2.2.2.2.2.2.2.2.2.2.2.2.2.2.1).2
theorem rM_34 {S : xS} (h : xShM S) : gR S 9 0 34 = some (84, 0) := (h.2.2.2.2.2.2.2.2.2.2.2.2.2.2.2.2.2.2.2.2.2.2.2.2.2.2.2.2.2.2.2.2.1).1
theorem lM_34 {S : xS} (h : xShM S) : gL S 84 0 = some 30 := (h.2.2.2.2.2.2.2.2.2.2.2.2.2.2.2.2.2.2.2.2.2.2.2.2.2.2.2.2.2.2.2.2.1).2
theorem rM_37 {S : xS} (h : xShM S) : gR S 9 0 37 = some (87, 0) := (h.2.2.2.2.2.2.2.2.2.2.2.2.2.2.2.2.2.2.2.2.2.2.2.2.2.2.2.2.2.2.2.2.2.1).1
theorem lM_37 {S : xS} (h : xShM S) : gL S 87 0 = some 20 := (h.2.2.2.2.2.2.2.2.2.2.2.2.2.2.2.2.2.2.2.2.2.2.2.2.2.2.2.2.2.2.2.2.2.1).2
theorem rM_38 {S : xS} (h : xShM S) : gR S 9 0 38 = some (88, 0) := (h.2.2.2.2.2.2.2.2.2.2.2.2.2.2.2.2.2.2.2.2.2.2.2.2.2.2.2.2.2.2.2.2.2.2.1).1
theorem lM_38 {S : xS} (h : xShM S) : gL S 88 0 = some 20 := (h.2.2.2.2.2.2.2.2.2.2.2.2.2.2.2.2.2.2.2.2.2.2.2.2.2.2.2.2.2.2.2.2.2.2.1).2
theorem rM_39 {S : xS} (h : xShM S) : gR S 9 0 39 = some (89, 0) := (h.2.2.2.2.2.2.2.2.2.2.2.2.2.2.2.2.2.2.2.2.2.2.2.2.2.2.2.2.2.2.2.2.2.2.2.1).1
theorem lM_39 {S : xS} (h : xShM S) : gL S 89 0 = some 20 := (h.2.2.2.2.2.2.2.2.2.2.2.2.2.2.2.2.2.2.2.2.2.2.2.2.2.2.2.2.2.2.2.2.2.2.2.1).2
theorem rM_40 {S : xS} (h : xShM S) : gR S 9 0 40 = some (90, 0) := (h.2.2.2.2.2.2.2.2.2.2.2.2.2.2.2.2.2.2.2.2.2.2.2.2.2.2.2.2.2.2.2.2.2.2.2.2.1).1
theorem lM_40 {S : xS} (h : xShM S) : gL S 90 0 = some 20 := (h.2.2.2.2.2.2.2.2.2.2.2.2.2.2.2.2.2.2.2.2.2.2.2.2.2.2.2.2.2.2.2.2.2.2.2.2.1).2
theorem rM_41 {S : xS} (h : xShM S) : gR S 9 0 41 = some (91, 0) := (h.2.2.2.2.2.2.2.2.2.2.2.2.2.2.2.2.2.2.2.2.2.2.2.2.2.2.2.2.2.2.2.2.2.2.2.2.2.1).1
theorem lM_41 {S : xS} (h : xShM S) : gL S 91 0 = some 20 := (h.2.2.2.2.2.2.2.2.2.2.2.2.2.2.2.2.2.2.2.2.2.2.2.2.2.2.2.2.2.2.2.2.2.2.2.2.2.1).2
theorem rM_42 {S : xS} (h : xShM S) : gR S 9 0 42 = some (92, 0) := (h.2.2.2.2.2.2.2.2.2.2.2.2.2.2.2.2.2.2.2.2.2.2.2.2.2.2.2.2.2.2.2.2.2.2.2.2.2.2.1).1
theorem lM_42 {S : xS} (h : xShM S) : gL S 92 0 = some 4 := (h.2.2.2.2.2.2.2.2.2.2.2.2.2.2.2.2.2.2.2.2.2.2.2.2.2.2.2.2.2.2.2.2.2.2.2.2.2.2.1).2
theorem rM_43 {S : xS} (h : xShM S) : gR S 9 0 43 = some (93, 0) := (h.2.2.2.2.2.2.2.2.2.2.2.2.2.2.2.2.2.2.2.2.2.2.2.2.2.2.2.2.2.2.2.2.2.2.2.2.2.2.2.1).1
theorem lM_43 {S : xS} (h : xShM S) : gL S 93 0 = some 4 := (h.2.2.2.2.2.2.2.2.2.2.2.2.2.2.2.2.2.2.2.2.2.2.2.2.2.2.2.2.2.2.2.2.2.2.2.2.2.2.2.1).2
theorem rM_44 {S : xS} (h : xShM S) : gR S 9 0 44 = some (94, 0) := (h.2.2.2.2.2.2.2.2.2.2.2.2.2.2.2.2.2.2.2.2.2.2.2.2.2.2.2.2.2.2.2.2.2.2.2.2.2.2.2.2.1).1
theorem lM_44 {S : xS} (h : xShM S) : gL S 94 0 = some 24 := (h.2.2.2.2.2.2.2.2.2.2.2.2.2.2.2.2.2.2.2.2.2.2.2.2.2.2.2.2.2.2.2.2.2.2.2.2.2.2.2.2.1).2
theorem rM_45 {S : xS} (h : xShM S) : gR S 9 0 45 = some (95, 0) := (h.2.2.2.2.2.2.2.2.2.2.2.2.2.2.2.2.2.2.2.2.2.2.2.2.2.2.2.2.2.2.2.2.2.2.2.2.2.2.2.2.2).1
theorem lM_45 {S : xS} (h : xShM S) : gL S 95 0 = some 24 := (h.2.2.2.2.2.2.2.2.2.2.2.2.2.2.2.2.2.2.2.2.2.2.2.2.2.2.2.2.2.2.2.2.2.2.2.2.2.2.2.2.2).2
/-- a pool's shape: its posts, things, door -/
def xShP (S : xS) (p n : Nat) : Prop := n ≤ 3 ∧ gR S 3 p 3 = some (17, p) ∧ gR S 3 p 4 = some (18, p) ∧ gR S 3 p 5 = some (1, p) ∧ gL S 17 p = some n ∧ gL S 18 p = some 3 ∧ (∀ k, k < n → gR S 17 p k = some (4, 3 * p + k)) ∧ (∀ k, k < 3 → gR S 18 p k = some (6, 3 * p + k))
theorem rP_3 {S : xS} {p n : Nat} (h : xShP S p n) : gR S 3 p 3 = some (17, p) := h.2.1
theorem rP_4 {S : xS} {p n : Nat} (h : xShP S p n) : gR S 3 p 4 = some (18, p) := h.2.2.1
theorem rP_5 {S : xS} {p n : Nat} (h : xShP S p n) : gR S 3 p 5 = some (1, p) := h.2.2.2.1
theorem lP_17 {S : xS} {p n : Nat} (h : xShP S p n) : gL S 17 p = some n := h.2.2.2.2.1
theorem lP_18 {S : xS} {p n : Nat} (h : xShP S p n) : gL S 18 p = some 3 := h.2.2.2.2.2.1
theorem rP_17 {S : xS} {p n k : Nat} (h : xShP S p n) (hk : k < n) : gR S 17 p k = some (4, 3 * p + k) := h.2.2.2.2.2.2.1 k hk
theorem rP_18 {S : xS} {p n k : Nat} (h : xShP S p n) (hk : k < 3) : gR S 18 p k = some (6, 3 * p + k) := h.2.2.2.2.2.2.2 k hk

theorem nI_i1 (i : Nat) : nI i + Int32.ofInt 1 = nI (i + 1) := nI_1 i
/-- whether a post is filled at x; what is wrong with a pool's water, its posts left out -/
def xfil (S : xS) (i : Nat) (x : Int32) : Int32 := if (gR S 4 i 0) ≠ none ∧ x - (gI S 4 i 1) < 60 then 1 else 0
def xra (S : xS) (p i : Nat) : Int32 := if (gI S 6 (3 * p + i) 4) = 0 ∨ ((gI S 6 (3 * p + i) 0) ≤ (gI S 6 (3 * p + i) 2) ∧ (gI S 6 (3 * p + i) 2) ≤ (gI S 6 (3 * p + i) 1)) then 0 else 1 <<< (nI i &&& 31)
def xrb (S : xS) (p : Nat) (x : Int32) (i : Nat) : Int32 := if 120 ≤ x - (gI S 6 (3 * p + i) 3) then 8 else 0
def xrl (S : xS) (p : Nat) (x : Int32) : Nat → Int32
  | 0 => if x < (gI S 3 p 8) then 16 else 0
  | i + 1 => (xrl S p x i ||| xra S p i) ||| xrb S p x i
def xrs (S : xS) (p n : Nat) (x : Int32) : Int32 := xrl S p x 3 ||| (if xsm (fun k => xfil S (3 * p + k) x) n < nI n then 32 else 0)
def xln (S : xS) (p : Nat) : Int32 := if 0 < (if (gI S 1 p 1) = 0 then (gI S 1 p 2) + (gI S 1 p 4) else (gI S 1 p 2) - 3) then (if (gI S 1 p 1) = 0 then (gI S 1 p 2) + (gI S 1 p 4) else (gI S 1 p 2) - 3) else 0
def xmn (S : xS) (p : Nat) : Int32 := if (gI S 1 p 1) = 0 then (gI S 1 p 3) + (gI S 1 p 4) else (gI S 1 p 3) + 3
/-- a door's new span -/
def xsf (S : xS) (p : Nat) (a b : Int32) : xS := (sI (sI (sI (sI S 1 p 2 a) 1 p 3 b) 1 p 4 0) 1 p 1 (if (gI S 1 p 0) = 0 then 1 else 0))
end
section
/-! leaves of the class -/
theorem c_X8_isWithin {S : xS} (x a b : Int32) : CC mX8_isWithin 1 0 0 [xI x, xI a, xI b] S (aI (if a ≤ x ∧ x ≤ b then 1 else 0) S) := by
  refine CC_of mpX8_isWithin rfl (Nat.le_of_ble_eq_true rfl) ?_
  refine E_iload_n dX8_isWithin_0 rfl rfl ?_
  refine E_iload_n dX8_isWithin_1 rfl rfl ?_
  refine E_icmp_lt (tgt := 14) dX8_isWithin_2 (by decide) (fun h2 => ?_) (fun h2 => ?_)
  · refine E_iconst (v := 0) dX8_isWithin_14 (by decide) ?_
    refine E_iret dX8_isWithin_15 rfl rfl ?_
    first | (rw [if_pos ⟨Int32.not_lt.mp h2, Int32.not_lt.mp h7⟩]; exact ⟨rfl, rfl⟩) | (rw [if_neg (fun z => Int32.not_le.mpr h2 z.1)]; exact ⟨rfl, rfl⟩) | (rw [if_neg (fun z => Int32.not_le.mpr h7 z.2)]; exact ⟨rfl, rfl⟩)
  · refine E_iload_n dX8_isWithin_5 rfl rfl ?_
    refine E_iload_n dX8_isWithin_6 rfl rfl ?_
    refine E_icmp_gt (tgt := 14) dX8_isWithin_7 (by decide) (fun h7 => ?_) (fun h7 => ?_)
    · refine E_iconst (v := 0) dX8_isWithin_14 (by decide) ?_
      refine E_iret dX8_isWithin_15 rfl rfl ?_
      first | (rw [if_pos ⟨Int32.not_lt.mp h2, Int32.not_lt.mp h7⟩]; exact ⟨rfl, rfl⟩) | (rw [if_neg (fun z => Int32.not_le.mpr h2 z.1)]; exact ⟨rfl, rfl⟩) | (rw [if_neg (fun z => Int32.not_le.mpr h7 z.2)]; exact ⟨rfl, rfl⟩)
    · refine E_iconst (v := 1) dX8_isWithin_10 (by decide) ?_
      refine E_goto (tgt := 15) dX8_isWithin_11 (by decide) ?_
      refine E_iret dX8_isWithin_15 rfl rfl ?_
      first | (rw [if_pos ⟨Int32.not_lt.mp h2, Int32.not_lt.mp h7⟩]; exact ⟨rfl, rfl⟩) | (rw [if_neg (fun z => Int32.not_le.mpr h2 z.1)]; exact ⟨rfl, rfl⟩) | (rw [if_neg (fun z => Int32.not_le.mpr h7 z.2)]; exact ⟨rfl, rfl⟩)
theorem c_X8_poolOf {S : xS} (hX : xShX S) (p : Int32) : CC mX8_poolOf 2 0 0 [xR (some (8, 0)), xI p] S (aR (if 0 ≤ p ∧ p ≤ 3 then gR S 10 0 p.toNatClampNeg else none) S) := by
  refine CC_of mpX8_poolOf rfl (Nat.le_of_ble_eq_true rfl) ?_
  by_cases hp : 0 ≤ p ∧ p ≤ 3
  · rw [if_pos hp]
    obtain ⟨j, hj, rfl⟩ := nI_of2 (n := 3) rfl (Int32.not_lt.mpr hp.1) hp.2
    refine E_iload_n dX8_poolOf_0 rfl rfl ?_
    refine E_iconst (v := 0) dX8_poolOf_1 (by decide) ?_
    refine E_iconst (v := 3) dX8_poolOf_2 (by decide) ?_
    refine E_callS (m2 := mX8_isWithin) dX8_poolOf_3 kX8_48 mzX8_isWithin (c_X8_isWithin _ _ _) rfl rfl (by decide) (xs8 (Nat.le_of_ble_eq_true rfl)) (by first | exact Nat.le_of_ble_eq_true rfl | omega) (by first | exact Nat.le_of_ble_eq_true rfl | omega) ?_
    rintro _ _ ⟨rfl, rfl⟩; rw [if_pos hp]
    refine E_if_eq (tgt := 18) dX8_poolOf_6 (by decide) (fun h6 => absurd h6 (by decide)) (fun h6 => ?_)
    refine E_aload_n dX8_poolOf_9 rfl rfl ?_
    refine E_getR dX8_poolOf_10 fX8_11 rfl rfl rfl (rX_8_0 hX) ?_
    refine E_iload_n dX8_poolOf_13 rfl rfl ?_
    refine E_aald dX8_poolOf_14 rfl rfl (by decide) (lX_10 hX) (vin (by omega : j < 4) (by omega)) (vnat (by omega : j < 4) (by omega)) rfl ?_
    refine E_goto (tgt := 19) dX8_poolOf_15 (by decide) ?_
    refine E_aret dX8_poolOf_19 rfl (Or.inl ⟨_, rfl⟩) ?_
    rw [vnat (by omega : j < 4) (by decide)]; exact ⟨rfl, rfl⟩
  · rw [if_neg hp]
    refine E_iload_n dX8_poolOf_0 rfl rfl ?_
    refine E_iconst (v := 0) dX8_poolOf_1 (by decide) ?_
    refine E_iconst (v := 3) dX8_poolOf_2 (by decide) ?_
    refine E_callS (m2 := mX8_isWithin) dX8_poolOf_3 kX8_48 mzX8_isWithin (c_X8_isWithin _ _ _) rfl rfl (by decide) (xs8 (Nat.le_of_ble_eq_true rfl)) (by first | exact Nat.le_of_ble_eq_true rfl | omega) (by first | exact Nat.le_of_ble_eq_true rfl | omega) ?_
    rintro _ _ ⟨rfl, rfl⟩; rw [if_neg hp]
    refine E_if_eq (tgt := 18) dX8_poolOf_6 (by decide) (fun h6 => ?_) (fun h6 => absurd h6 (by decide))
    refine E_null dX8_poolOf_18 ?_
    refine E_aret dX8_poolOf_19 rfl (Or.inl ⟨_, rfl⟩) ?_
    exact ⟨rfl, rfl⟩
end
section
/-! Club, Door, Post, Thing, Ticket: the small methods -/
theorem c_X0_isSchool {S : xS} (c : Nat) : CC mX0_isSchool 1 0 0 [xR (some (0, c))] S (aI (if 0 < (gI S 0 c 3) then 1 else 0) S) := by
  refine CC_of mpX0_isSchool rfl (Nat.le_of_ble_eq_true rfl) ?_
  refine E_aload_n dX0_isSchool_0 rfl rfl ?_
  refine E_getI dX0_isSchool_1 fX0_23 rfl rfl rfl rfl ?_
  refine E_if_le (tgt := 11) dX0_isSchool_4 (by decide) (fun h4 => ?_) (fun h4 => ?_)
  · refine E_iconst (v := 0) dX0_isSchool_11 (by decide) ?_
    refine E_iret dX0_isSchool_12 rfl rfl ?_
    refine ⟨congrArg (fun z => some (xI z)) ?_, rfl⟩; (try split) <;> first | rfl | (exfalso; simp only [fa_lt, fa_le, fa_eq] at *; omega)
  · refine E_iconst (v := 1) dX0_isSchool_7 (by decide) ?_
    refine E_goto (tgt := 12) dX0_isSchool_8 (by decide) ?_
    refine E_iret dX0_isSchool_12 rfl rfl ?_
    refine ⟨congrArg (fun z => some (xI z)) ?_, rfl⟩; (try split) <;> first | rfl | (exfalso; simp only [fa_lt, fa_le, fa_eq] at *; omega)
theorem c_X0_isThere {S : xS} (c : Nat) (x : Int32) : CC mX0_isThere 1 0 0 [xR (some (0, c)), xI x] S (aI (if (gI S 0 c 2) ≤ x ∧ x < (gI S 0 c 4) then 1 else 0) S) := by
  refine CC_of mpX0_isThere rfl (Nat.le_of_ble_eq_true rfl) ?_
  refine E_iload_n dX0_isThere_0 rfl rfl ?_
  refine E_aload_n dX0_isThere_1 rfl rfl ?_
  refine E_getI dX0_isThere_2 fX0_17 rfl rfl rfl rfl ?_
  refine E_icmp_lt (tgt := 20) dX0_isThere_5 (by decide) (fun h5 => ?_) (fun h5 => ?_)
  · refine E_iconst (v := 0) dX0_isThere_20 (by decide) ?_
    refine E_iret dX0_isThere_21 rfl rfl ?_
    refine ⟨congrArg (fun z => some (xI z)) ?_, rfl⟩; (try split) <;> first | rfl | (exfalso; simp only [fa_lt, fa_le, fa_eq] at *; omega)
  · refine E_iload_n dX0_isThere_8 rfl rfl ?_
    refine E_aload_n dX0_isThere_9 rfl rfl ?_
    refine E_getI dX0_isThere_10 fX0_20 rfl rfl rfl rfl ?_
    refine E_icmp_ge (tgt := 20) dX0_isThere_13 (by decide) (fun h13 => ?_) (fun h13 => ?_)
    · refine E_iconst (v := 0) dX0_isThere_20 (by decide) ?_
      refine E_iret dX0_isThere_21 rfl rfl ?_
      refine ⟨congrArg (fun z => some (xI z)) ?_, rfl⟩; (try split) <;> first | rfl | (exfalso; simp only [fa_lt, fa_le, fa_eq] at *; omega)
    · refine E_iconst (v := 1) dX0_isThere_16 (by decide) ?_
      refine E_goto (tgt := 21) dX0_isThere_17 (by decide) ?_
      refine E_iret dX0_isThere_21 rfl rfl ?_
      refine ⟨congrArg (fun z => some (xI z)) ?_, rfl⟩; (try split) <;> first | rfl | (exfalso; simp only [fa_lt, fa_le, fa_eq] at *; omega)
theorem c_X0_pass {S : xS} (c : Nat) (b x : Int32) : CC mX0_pass 1 0 0 [xR (some (0, c)), xI b, xI x] S (aV (if b = 0 then (sI S 0 c 5 ((gI S 0 c 5) + x)) else (sI S 0 c 6 ((gI S 0 c 6) + x)))) := by
  refine CC_of mpX0_pass rfl (Nat.le_of_ble_eq_true rfl) ?_
  refine E_iload_n dX0_pass_0 rfl rfl ?_
  refine E_if_eq (tgt := 17) dX0_pass_1 (by decide) (fun h1 => ?_) (fun h1 => ?_)
  · refine E_aload_n dX0_pass_17 rfl rfl ?_
    refine E_dup dX0_pass_18 rfl ?_
    refine E_getI dX0_pass_19 fX0_38 rfl rfl rfl rfl ?_
    refine E_iload_n dX0_pass_22 rfl rfl ?_
    refine E_iadd dX0_pass_23 ?_
    refine E_putI dX0_pass_24 fX0_38 rfl rfl rfl rfl rfl ?_
    refine E_vret dX0_pass_27 rfl ?_
    refine ⟨rfl, ?_⟩; split <;> first | rfl | contradiction
  · refine E_aload_n dX0_pass_4 rfl rfl ?_
    refine E_dup dX0_pass_5 rfl ?_
    refine E_getI dX0_pass_6 fX0_35 rfl rfl rfl rfl ?_
    refine E_iload_n dX0_pass_9 rfl rfl ?_
    refine E_iadd dX0_pass_10 ?_
    refine E_putI dX0_pass_11 fX0_35 rfl rfl rfl rfl rfl ?_
    refine E_goto (tgt := 27) dX0_pass_14 (by decide) ?_
    refine E_vret dX0_pass_27 rfl ?_
    refine ⟨rfl, ?_⟩; split <;> first | rfl | contradiction
theorem c_X0_init {S : xS} (c q : Nat) (x1 x2 x3 x4 : Int32) (k0 : Nat) (hk : xCls k0 = true) (hk2 : xk k0 = 0) : CC mX0_init 2 0 0 [xR (some (k0, c)), xR (some (3, q)), xI x1, xI x2, xI x3, xI x4] S (aV (sI (sI (sI (sI (sR S k0 c 0 (some (3, q))) k0 c 1 x1) k0 c 2 x2) k0 c 4 x3) k0 c 3 x4)) := by
  refine CC_of mpX0_init rfl (Nat.le_of_ble_eq_true rfl) ?_
  refine E_aload_n dX0_init_0 rfl rfl ?_
  refine E_obj dX0_init_1 kX0_1 (by decide) (xs8 (Nat.le_of_ble_eq_true rfl)) ?_
  refine E_aload_n dX0_init_4 rfl rfl ?_
  refine E_aload_n dX0_init_5 rfl rfl ?_
  refine E_putFR dX0_init_6 fX0_7 rfl hk hk2 rfl (fun r h => by cases h; rfl) (Or.inl ⟨_, rfl⟩) (by intro q h; cases h; simp) ?_
  refine E_aload_n dX0_init_9 rfl rfl ?_
  refine E_iload_n dX0_init_10 rfl rfl ?_
  refine E_putFI dX0_init_11 fX0_13 rfl hk hk2 rfl (fun r h => by cases h; rfl) rfl rfl ?_
  refine E_aload_n dX0_init_14 rfl rfl ?_
  refine E_iload_n dX0_init_15 rfl rfl ?_
  refine E_putFI dX0_init_16 fX0_17 rfl hk hk2 rfl (fun r h => by cases h; rfl) rfl rfl ?_
  refine E_aload_n dX0_init_19 rfl rfl ?_
  refine E_iload dX0_init_20 rfl ?_
  refine E_putI dX0_init_22 fX0_20 hk hk2 rfl rfl rfl ?_
  refine E_aload_n dX0_init_25 rfl rfl ?_
  refine E_iload dX0_init_26 rfl ?_
  refine E_putFI dX0_init_28 fX0_23 rfl hk hk2 rfl (fun r h => by cases h; rfl) rfl rfl ?_
  refine E_vret dX0_init_31 rfl ?_
  exact ⟨rfl, rfl⟩
theorem c_X1_init {S : xS} (p : Nat) : CC mX1_init 2 0 0 [xR (some (1, p))] S (aV (sI S 1 p 0 1)) := by
  refine CC_of mpX1_init rfl (Nat.le_of_ble_eq_true rfl) ?_
  refine E_aload_n dX1_init_0 rfl rfl ?_
  refine E_obj dX1_init_1 kX1_3 (by decide) (xs8 (Nat.le_of_ble_eq_true rfl)) ?_
  refine E_aload_n dX1_init_4 rfl rfl ?_
  refine E_iconst (v := 1) dX1_init_5 (by decide) ?_
  refine E_putI dX1_init_6 fX1_9 rfl rfl rfl rfl rfl ?_
  refine E_vret dX1_init_9 rfl ?_
  exact ⟨rfl, rfl⟩
theorem c_X1_turnEye {S : xS} (p : Nat) (b : Int32) (hb : xB b) : CC mX1_turnEye 1 0 0 [xR (some (1, p)), xI b] S (aV (sI (sI S 1 p 0 b) 1 p 1 1)) := by
  refine CC_of mpX1_turnEye rfl (Nat.le_of_ble_eq_true rfl) ?_
  refine E_aload_n dX1_turnEye_0 rfl rfl ?_
  refine E_iload_n dX1_turnEye_1 rfl rfl ?_
  refine E_putI dX1_turnEye_2 fX1_9 rfl rfl rfl hb.n hb.f ?_
  refine E_aload_n dX1_turnEye_5 rfl rfl ?_
  refine E_iconst (v := 1) dX1_turnEye_6 (by decide) ?_
  refine E_putI dX1_turnEye_7 fX1_15 rfl rfl rfl rfl rfl ?_
  refine E_vret dX1_turnEye_10 rfl ?_
  exact ⟨rfl, rfl⟩
theorem c_X1_leastNow {S : xS} (p : Nat) : CC mX1_leastNow 1 0 0 [xR (some (1, p))] S (aI (xln S p) S) := by
  unfold xln
  refine CC_of mpX1_leastNow rfl (Nat.le_of_ble_eq_true rfl) ?_
  by_cases hw : (gI S 1 p 1) = 0
  · rw [if_pos hw]
    refine E_iconst (v := 0) dX1_leastNow_0 (by decide) ?_
    refine E_aload_n dX1_leastNow_1 rfl rfl ?_
    refine E_getI dX1_leastNow_2 fX1_15 rfl rfl rfl rfl ?_
    refine E_if_eq (tgt := 17) dX1_leastNow_5 (by decide) (fun h5 => ?_) (fun h5 => absurd h5 (fun z => z hw))
    refine E_aload_n dX1_leastNow_17 rfl rfl ?_
    refine E_getI dX1_leastNow_18 fX1_18 rfl rfl rfl rfl ?_
    refine E_aload_n dX1_leastNow_21 rfl rfl ?_
    refine E_getI dX1_leastNow_22 fX1_22 rfl rfl rfl rfl ?_
    refine E_iadd dX1_leastNow_25 ?_
    refine E_max dX1_leastNow_26 kX1_25 (by decide) (xs8 (Nat.le_of_ble_eq_true rfl)) ?_
    refine E_iret dX1_leastNow_29 rfl rfl ?_
    exact ⟨rfl, rfl⟩
  · rw [if_neg hw]
    refine E_iconst (v := 0) dX1_leastNow_0 (by decide) ?_
    refine E_aload_n dX1_leastNow_1 rfl rfl ?_
    refine E_getI dX1_leastNow_2 fX1_15 rfl rfl rfl rfl ?_
    refine E_if_eq (tgt := 17) dX1_leastNow_5 (by decide) (fun h5 => absurd h5 (fun z => hw z)) (fun h5 => ?_)
    refine E_aload_n dX1_leastNow_8 rfl rfl ?_
    refine E_getI dX1_leastNow_9 fX1_18 rfl rfl rfl rfl ?_
    refine E_iconst (v := 3) dX1_leastNow_12 (by decide) ?_
    refine E_isub dX1_leastNow_13 ?_
    refine E_goto (tgt := 26) dX1_leastNow_14 (by decide) ?_
    refine E_max dX1_leastNow_26 kX1_25 (by decide) (xs8 (Nat.le_of_ble_eq_true rfl)) ?_
    refine E_iret dX1_leastNow_29 rfl rfl ?_
    exact ⟨rfl, rfl⟩
theorem c_X1_mostNow {S : xS} (p : Nat) : CC mX1_mostNow 1 0 0 [xR (some (1, p))] S (aI (xmn S p) S) := by
  unfold xmn
  refine CC_of mpX1_mostNow rfl (Nat.le_of_ble_eq_true rfl) ?_
  refine E_aload_n dX1_mostNow_0 rfl rfl ?_
  refine E_getI dX1_mostNow_1 fX1_15 rfl rfl rfl rfl ?_
  refine E_if_eq (tgt := 16) dX1_mostNow_4 (by decide) (fun h4 => ?_) (fun h4 => ?_)
  · refine E_aload_n dX1_mostNow_16 rfl rfl ?_
    refine E_getI dX1_mostNow_17 fX1_31 rfl rfl rfl rfl ?_
    refine E_aload_n dX1_mostNow_20 rfl rfl ?_
    refine E_getI dX1_mostNow_21 fX1_22 rfl rfl rfl rfl ?_
    refine E_iadd dX1_mostNow_24 ?_
    refine E_iret dX1_mostNow_25 rfl rfl ?_
    refine ⟨congrArg (fun z => some (xI z)) ?_, rfl⟩; split <;> first | rfl | contradiction
  · refine E_aload_n dX1_mostNow_7 rfl rfl ?_
    refine E_getI dX1_mostNow_8 fX1_31 rfl rfl rfl rfl ?_
    refine E_iconst (v := 3) dX1_mostNow_11 (by decide) ?_
    refine E_iadd dX1_mostNow_12 ?_
    refine E_goto (tgt := 25) dX1_mostNow_13 (by decide) ?_
    refine E_iret dX1_mostNow_25 rfl rfl ?_
    refine ⟨congrArg (fun z => some (xI z)) ?_, rfl⟩; split <;> first | rfl | contradiction
theorem c_X1_startFrom {S : xS} (p : Nat) (a b : Int32) : CC mX1_startFrom 1 0 0 [xR (some (1, p)), xI a, xI b] S (aV (xsf S p a b)) := by
  unfold xsf
  refine CC_of mpX1_startFrom rfl (Nat.le_of_ble_eq_true rfl) ?_
  refine E_aload_n dX1_startFrom_0 rfl rfl ?_
  refine E_iload_n dX1_startFrom_1 rfl rfl ?_
  refine E_putI dX1_startFrom_2 fX1_18 rfl rfl rfl rfl rfl ?_
  refine E_aload_n dX1_startFrom_5 rfl rfl ?_
  refine E_iload_n dX1_startFrom_6 rfl rfl ?_
  refine E_putI dX1_startFrom_7 fX1_31 rfl rfl rfl rfl rfl ?_
  refine E_aload_n dX1_startFrom_10 rfl rfl ?_
  refine E_iconst (v := 0) dX1_startFrom_11 (by decide) ?_
  refine E_putI dX1_startFrom_12 fX1_22 rfl rfl rfl rfl rfl ?_
  refine E_aload_n dX1_startFrom_15 rfl rfl ?_
  refine E_aload_n dX1_startFrom_16 rfl rfl ?_
  refine E_getI dX1_startFrom_17 fX1_9 rfl rfl rfl (Eq.refl (gI S 1 p 0)) ?_
  refine E_if_ne (tgt := 27) dX1_startFrom_20 (by decide) (fun h20 => ?_) (fun h20 => ?_)
  · refine E_iconst (v := 0) dX1_startFrom_27 (by decide) ?_
    refine E_putI dX1_startFrom_28 fX1_15 rfl rfl rfl rfl rfl ?_
    refine E_vret dX1_startFrom_31 rfl ?_
    refine ⟨rfl, ?_⟩; first | rw [if_pos (by assumption)] | rw [if_neg (by assumption)]
  · refine E_iconst (v := 1) dX1_startFrom_23 (by decide) ?_
    refine E_goto (tgt := 28) dX1_startFrom_24 (by decide) ?_
    refine E_putI dX1_startFrom_28 fX1_15 rfl rfl rfl rfl rfl ?_
    refine E_vret dX1_startFrom_31 rfl ?_
    refine ⟨rfl, ?_⟩; first | rw [if_pos (by assumption)] | rw [if_neg (by assumption)]
theorem c_X4_init {S : xS} (i : Nat) : CC mX4_init 2 0 0 [xR (some (4, i))] S (aV S) := by
  refine CC_of mpX4_init rfl (Nat.le_of_ble_eq_true rfl) ?_
  refine E_aload_n dX4_init_0 rfl rfl ?_
  refine E_obj dX4_init_1 kX4_3 (by decide) (xs8 (Nat.le_of_ble_eq_true rfl)) ?_
  refine E_vret dX4_init_4 rfl ?_
  exact ⟨rfl, rfl⟩
theorem c_X4_isFilled {S : xS} (i : Nat) (x : Int32) : CC mX4_isFilled 1 0 0 [xR (some (4, i)), xI x] S (aI (xfil S i x) S) := by
  unfold xfil
  refine CC_of mpX4_isFilled rfl (Nat.le_of_ble_eq_true rfl) ?_
  refine E_aload_n dX4_isFilled_0 rfl rfl ?_
  refine E_getR dX4_isFilled_1 fX4_9 rfl rfl rfl rfl ?_
  refine E_ifnull (tgt := 22) dX4_isFilled_4 (by decide) (fun h4 => ?_) (fun q4 h4 => ?_)
  · refine E_iconst (v := 0) dX4_isFilled_22 (by decide) ?_
    refine E_iret dX4_isFilled_23 rfl rfl ?_
    refine ⟨congrArg (fun z => some (xI z)) ?_, rfl⟩; simp_all [fa_le, fa_lt]
  · refine E_iload_n dX4_isFilled_7 rfl rfl ?_
    refine E_aload_n dX4_isFilled_8 rfl rfl ?_
    refine E_getI dX4_isFilled_9 fX4_15 rfl rfl rfl rfl ?_
    refine E_isub dX4_isFilled_12 ?_
    refine E_bipush (v := 60) dX4_isFilled_13 (by decide) ?_
    refine E_icmp_ge (tgt := 22) dX4_isFilled_15 (by decide) (fun h15 => ?_) (fun h15 => ?_)
    · refine E_iconst (v := 0) dX4_isFilled_22 (by decide) ?_
      refine E_iret dX4_isFilled_23 rfl rfl ?_
      refine ⟨congrArg (fun z => some (xI z)) ?_, rfl⟩; simp_all [fa_le, fa_lt]
    · refine E_iconst (v := 1) dX4_isFilled_18 (by decide) ?_
      refine E_goto (tgt := 23) dX4_isFilled_19 (by decide) ?_
      refine E_iret dX4_isFilled_23 rfl rfl ?_
      refine ⟨congrArg (fun z => some (xI z)) ?_, rfl⟩; simp_all [fa_le, fa_lt]
theorem c_X6_init {S : xS} (i : Nat) : CC mX6_init 2 0 0 [xR (some (6, i))] S (aV (sI (sI S 6 i 0 0) 6 i 1 100)) := by
  refine CC_of mpX6_init rfl (Nat.le_of_ble_eq_true rfl) ?_
  refine E_aload_n dX6_init_0 rfl rfl ?_
  refine E_obj dX6_init_1 kX6_3 (by decide) (xs8 (Nat.le_of_ble_eq_true rfl)) ?_
  refine E_aload_n dX6_init_4 rfl rfl ?_
  refine E_iconst (v := 0) dX6_init_5 (by decide) ?_
  refine E_putI dX6_init_6 fX6_9 rfl rfl rfl rfl rfl ?_
  refine E_aload_n dX6_init_9 rfl rfl ?_
  refine E_bipush (v := 100) dX6_init_10 (by decide) ?_
  refine E_putI dX6_init_12 fX6_15 rfl rfl rfl rfl rfl ?_
  refine E_vret dX6_init_15 rfl ?_
  exact ⟨rfl, rfl⟩
theorem c_X6_takeMeasure {S : xS} (i : Nat) (x y : Int32) : CC mX6_takeMeasure 1 0 0 [xR (some (6, i)), xI x, xI y] S (aV (sI (sI (sI S 6 i 2 x) 6 i 3 y) 6 i 4 1)) := by
  refine CC_of mpX6_takeMeasure rfl (Nat.le_of_ble_eq_true rfl) ?_
  refine E_aload_n dX6_takeMeasure_0 rfl rfl ?_
  refine E_iload_n dX6_takeMeasure_1 rfl rfl ?_
  refine E_putI dX6_takeMeasure_2 fX6_18 rfl rfl rfl rfl rfl ?_
  refine E_aload_n dX6_takeMeasure_5 rfl rfl ?_
  refine E_iload_n dX6_takeMeasure_6 rfl rfl ?_
  refine E_putI dX6_takeMeasure_7 fX6_21 rfl rfl rfl rfl rfl ?_
  refine E_aload_n dX6_takeMeasure_10 rfl rfl ?_
  refine E_iconst (v := 1) dX6_takeMeasure_11 (by decide) ?_
  refine E_putI dX6_takeMeasure_12 fX6_24 rfl rfl rfl rfl rfl ?_
  refine E_vret dX6_takeMeasure_15 rfl ?_
  exact ⟨rfl, rfl⟩
theorem c_X6_isRight {S : xS} (i : Nat) : CC mX6_isRight 1 0 0 [xR (some (6, i))] S (aI (if (gI S 6 i 4) = 0 ∨ ((gI S 6 i 0) ≤ (gI S 6 i 2) ∧ (gI S 6 i 2) ≤ (gI S 6 i 1)) then 1 else 0) S) := by
  refine CC_of mpX6_isRight rfl (Nat.le_of_ble_eq_true rfl) ?_
  refine E_aload_n dX6_isRight_0 rfl rfl ?_
  refine E_getI dX6_isRight_1 fX6_24 rfl rfl rfl rfl ?_
  refine E_if_eq (tgt := 29) dX6_isRight_4 (by decide) (fun h4 => ?_) (fun h4 => ?_)
  · refine E_iconst (v := 1) dX6_isRight_29 (by decide) ?_
    refine E_goto (tgt := 34) dX6_isRight_30 (by decide) ?_
    refine E_iret dX6_isRight_34 rfl rfl ?_
    refine ⟨congrArg (fun z => some (xI z)) ?_, rfl⟩; (try split) <;> first | rfl | (exfalso; simp only [fa_lt, fa_le, fa_eq] at *; omega)
  · refine E_aload_n dX6_isRight_7 rfl rfl ?_
    refine E_getI dX6_isRight_8 fX6_18 rfl rfl rfl rfl ?_
    refine E_aload_n dX6_isRight_11 rfl rfl ?_
    refine E_getI dX6_isRight_12 fX6_9 rfl rfl rfl rfl ?_
    refine E_icmp_lt (tgt := 33) dX6_isRight_15 (by decide) (fun h15 => ?_) (fun h15 => ?_)
    · refine E_iconst (v := 0) dX6_isRight_33 (by decide) ?_
      refine E_iret dX6_isRight_34 rfl rfl ?_
      refine ⟨congrArg (fun z => some (xI z)) ?_, rfl⟩; (try split) <;> first | rfl | (exfalso; simp only [fa_lt, fa_le, fa_eq] at *; omega)
    · refine E_aload_n dX6_isRight_18 rfl rfl ?_
      refine E_getI dX6_isRight_19 fX6_18 rfl rfl rfl rfl ?_
      refine E_aload_n dX6_isRight_22 rfl rfl ?_
      refine E_getI dX6_isRight_23 fX6_15 rfl rfl rfl rfl ?_
      refine E_icmp_gt (tgt := 33) dX6_isRight_26 (by decide) (fun h26 => ?_) (fun h26 => ?_)
      · refine E_iconst (v := 0) dX6_isRight_33 (by decide) ?_
        refine E_iret dX6_isRight_34 rfl rfl ?_
        refine ⟨congrArg (fun z => some (xI z)) ?_, rfl⟩; (try split) <;> first | rfl | (exfalso; simp only [fa_lt, fa_le, fa_eq] at *; omega)
      · refine E_iconst (v := 1) dX6_isRight_29 (by decide) ?_
        refine E_goto (tgt := 34) dX6_isRight_30 (by decide) ?_
        refine E_iret dX6_isRight_34 rfl rfl ?_
        refine ⟨congrArg (fun z => some (xI z)) ?_, rfl⟩; (try split) <;> first | rfl | (exfalso; simp only [fa_lt, fa_le, fa_eq] at *; omega)
theorem c_X6_isStale {S : xS} (i : Nat) (x : Int32) : CC mX6_isStale 1 0 0 [xR (some (6, i)), xI x] S (aI (if 120 ≤ x - (gI S 6 i 3) then 1 else 0) S) := by
  refine CC_of mpX6_isStale rfl (Nat.le_of_ble_eq_true rfl) ?_
  refine E_iload_n dX6_isStale_0 rfl rfl ?_
  refine E_aload_n dX6_isStale_1 rfl rfl ?_
  refine E_getI dX6_isStale_2 fX6_21 rfl rfl rfl rfl ?_
  refine E_isub dX6_isStale_5 ?_
  refine E_bipush (v := 120) dX6_isStale_6 (by decide) ?_
  refine E_icmp_lt (tgt := 15) dX6_isStale_8 (by decide) (fun h8 => ?_) (fun h8 => ?_)
  · refine E_iconst (v := 0) dX6_isStale_15 (by decide) ?_
    refine E_iret dX6_isStale_16 rfl rfl ?_
    refine ⟨congrArg (fun z => some (xI z)) ?_, rfl⟩; (try split) <;> first | rfl | (exfalso; simp only [fa_lt, fa_le, fa_eq] at *; omega)
  · refine E_iconst (v := 1) dX6_isStale_11 (by decide) ?_
    refine E_goto (tgt := 16) dX6_isStale_12 (by decide) ?_
    refine E_iret dX6_isStale_16 rfl rfl ?_
    refine ⟨congrArg (fun z => some (xI z)) ?_, rfl⟩; (try split) <;> first | rfl | (exfalso; simp only [fa_lt, fa_le, fa_eq] at *; omega)
theorem c_X7_init {S : xS} (t q : Nat) (x1 x2 x3 : Int32) (r : Option (Nat × Nat)) (b : Int32) (hb : xB b) (hr : ∀ q, r = some q → q.1 ≠ 99) : CC mX7_init 2 0 0 [xR (some (7, t)), xI x1, xR (some (3, q)), xI x2, xI x3, xR r, xI b] S
    (aV (sI (sR (sI (sI (sR (sI (sI (sI (sI S 7 t 7 (-1)) 7 t 11 (-1)) 7 t 13 (-20)) 7 t 0 x1) 7 t 1 (some (3, q))) 7 t 2 x2) 7 t 3 x3) 7 t 4 r) 7 t 5 b)) := by
  refine CC_of mpX7_init rfl (Nat.le_of_ble_eq_true rfl) ?_
  refine E_aload_n dX7_init_0 rfl rfl ?_
  refine E_obj dX7_init_1 kX7_3 (by decide) (xs8 (Nat.le_of_ble_eq_true rfl)) ?_
  refine E_aload_n dX7_init_4 rfl rfl ?_
  refine E_iconst (v := -1) dX7_init_5 (by decide) ?_
  refine E_putI dX7_init_6 fX7_9 rfl rfl rfl rfl rfl ?_
  refine E_aload_n dX7_init_9 rfl rfl ?_
  refine E_iconst (v := -1) dX7_init_10 (by decide) ?_
  refine E_putI dX7_init_11 fX7_15 rfl rfl rfl rfl rfl ?_
  refine E_aload_n dX7_init_14 rfl rfl ?_
  refine E_bipush (v := -20) dX7_init_15 (by decide) ?_
  refine E_putI dX7_init_17 fX7_18 rfl rfl rfl rfl rfl ?_
  refine E_aload_n dX7_init_20 rfl rfl ?_
  refine E_iload_n dX7_init_21 rfl rfl ?_
  refine E_putFI dX7_init_22 fX7_21 rfl rfl rfl rfl (fun r h => by cases h; rfl) rfl rfl ?_
  refine E_aload_n dX7_init_25 rfl rfl ?_
  refine E_aload_n dX7_init_26 rfl rfl ?_
  refine E_putFR dX7_init_27 fX7_24 rfl rfl rfl rfl (fun r h => by cases h; rfl) (by first | exact Or.inl ⟨_, rfl⟩ | exact Or.inr ⟨_, rfl⟩) (by intro q h; cases h; simp) ?_
  refine E_aload_n dX7_init_30 rfl rfl ?_
  refine E_iload_n dX7_init_31 rfl rfl ?_
  refine E_putFI dX7_init_32 fX7_28 rfl rfl rfl rfl (fun r h => by cases h; rfl) rfl rfl ?_
  refine E_aload_n dX7_init_35 rfl rfl ?_
  refine E_iload dX7_init_36 rfl ?_
  refine E_putFI dX7_init_38 fX7_31 rfl rfl rfl rfl (fun r h => by cases h; rfl) rfl rfl ?_
  refine E_aload_n dX7_init_41 rfl rfl ?_
  refine E_aload dX7_init_42 rfl ?_
  refine E_putFR dX7_init_44 fX7_34 rfl rfl rfl rfl (fun r h => by cases h; rfl) (by first | exact Or.inl ⟨_, rfl⟩ | exact Or.inr ⟨_, rfl⟩) (by exact hr) ?_
  refine E_aload_n dX7_init_47 rfl rfl ?_
  refine E_iload dX7_init_48 rfl ?_
  refine E_putFI dX7_init_50 fX7_38 rfl rfl rfl rfl (fun r h => by cases h; rfl) hb.n hb.f ?_
  refine E_vret dX7_init_53 rfl ?_
  exact ⟨rfl, rfl⟩
theorem c_X7_minutesLeft {S : xS} (t : Nat) (x : Int32) : CC mX7_minutesLeft 1 0 0 [xR (some (7, t)), xI x] S (aI (if (gI S 7 t 6) = 0 ∨ (¬ (gI S 7 t 2) = 1 ∧ (gR S 7 t 4) = none) then 0 else (gI S 7 t 7) + (gI S 7 t 8) - x - 1) S) := by
  refine CC_of mpX7_minutesLeft rfl (Nat.le_of_ble_eq_true rfl) ?_
  refine E_aload_n dX7_minutesLeft_0 rfl rfl ?_
  refine E_getI dX7_minutesLeft_1 fX7_60 rfl rfl rfl rfl ?_
  refine E_if_eq (tgt := 22) dX7_minutesLeft_4 (by decide) (fun h4 => ?_) (fun h4 => ?_)
  · refine E_iconst (v := 0) dX7_minutesLeft_22 (by decide) ?_
    refine E_iret dX7_minutesLeft_23 rfl rfl ?_
    refine ⟨congrArg (fun z => some (xI z)) ?_, rfl⟩; simp_all
  · refine E_aload_n dX7_minutesLeft_7 rfl rfl ?_
    refine E_getI dX7_minutesLeft_8 fX7_28 rfl rfl rfl rfl ?_
    refine E_iconst (v := 1) dX7_minutesLeft_11 (by decide) ?_
    refine E_icmp_eq (tgt := 24) dX7_minutesLeft_12 (by decide) (fun h12 => ?_) (fun h12 => ?_)
    · refine E_aload_n dX7_minutesLeft_24 rfl rfl ?_
      refine E_getI dX7_minutesLeft_25 fX7_9 rfl rfl rfl rfl ?_
      refine E_aload_n dX7_minutesLeft_28 rfl rfl ?_
      refine E_getI dX7_minutesLeft_29 fX7_66 rfl rfl rfl rfl ?_
      refine E_iadd dX7_minutesLeft_32 ?_
      refine E_iload_n dX7_minutesLeft_33 rfl rfl ?_
      refine E_isub dX7_minutesLeft_34 ?_
      refine E_iconst (v := 1) dX7_minutesLeft_35 (by decide) ?_
      refine E_isub dX7_minutesLeft_36 ?_
      refine E_iret dX7_minutesLeft_37 rfl rfl ?_
      refine ⟨congrArg (fun z => some (xI z)) ?_, rfl⟩; simp_all
    · refine E_aload_n dX7_minutesLeft_15 rfl rfl ?_
      refine E_getR dX7_minutesLeft_16 fX7_34 rfl rfl rfl rfl ?_
      refine E_ifnonnull (tgt := 24) dX7_minutesLeft_19 (by decide) (fun q19 h19 => ?_) (fun h19 => ?_)
      · refine E_aload_n dX7_minutesLeft_24 rfl rfl ?_
        refine E_getI dX7_minutesLeft_25 fX7_9 rfl rfl rfl rfl ?_
        refine E_aload_n dX7_minutesLeft_28 rfl rfl ?_
        refine E_getI dX7_minutesLeft_29 fX7_66 rfl rfl rfl rfl ?_
        refine E_iadd dX7_minutesLeft_32 ?_
        refine E_iload_n dX7_minutesLeft_33 rfl rfl ?_
        refine E_isub dX7_minutesLeft_34 ?_
        refine E_iconst (v := 1) dX7_minutesLeft_35 (by decide) ?_
        refine E_isub dX7_minutesLeft_36 ?_
        refine E_iret dX7_minutesLeft_37 rfl rfl ?_
        refine ⟨congrArg (fun z => some (xI z)) ?_, rfl⟩; simp_all
      · refine E_iconst (v := 0) dX7_minutesLeft_22 (by decide) ?_
        refine E_iret dX7_minutesLeft_23 rfl rfl ?_
        refine ⟨congrArg (fun z => some (xI z)) ?_, rfl⟩; simp_all
theorem c_X7_mayStand {S : xS} (t : Nat) (x : Int32) : CC mX7_mayStand 1 0 0 [xR (some (7, t)), xI x] S (aI (if (gI S 7 t 2) = 5 ∧ ¬ (gI S 7 t 6) = 0 ∧ (gR S 7 t 12) = none ∧ 20 ≤ x - (gI S 7 t 13) then 1 else 0) S) := by
  refine CC_of mpX7_mayStand rfl (Nat.le_of_ble_eq_true rfl) ?_
  refine E_aload_n dX7_mayStand_0 rfl rfl ?_
  refine E_getI dX7_mayStand_1 fX7_28 rfl rfl rfl rfl ?_
  refine E_iconst (v := 5) dX7_mayStand_4 (by decide) ?_
  refine E_icmp_ne (tgt := 37) dX7_mayStand_5 (by decide) (fun h5 => ?_) (fun h5 => ?_)
  · refine E_iconst (v := 0) dX7_mayStand_37 (by decide) ?_
    refine E_iret dX7_mayStand_38 rfl rfl ?_
    refine ⟨congrArg (fun z => some (xI z)) ?_, rfl⟩; simp_all [fa_le, fa_lt]
  · refine E_aload_n dX7_mayStand_8 rfl rfl ?_
    refine E_getI dX7_mayStand_9 fX7_60 rfl rfl rfl rfl ?_
    refine E_if_eq (tgt := 37) dX7_mayStand_12 (by decide) (fun h12 => ?_) (fun h12 => ?_)
    · refine E_iconst (v := 0) dX7_mayStand_37 (by decide) ?_
      refine E_iret dX7_mayStand_38 rfl rfl ?_
      refine ⟨congrArg (fun z => some (xI z)) ?_, rfl⟩; simp_all [fa_le, fa_lt]
    · refine E_aload_n dX7_mayStand_15 rfl rfl ?_
      refine E_getR dX7_mayStand_16 fX7_84 rfl rfl rfl rfl ?_
      refine E_ifnonnull (tgt := 37) dX7_mayStand_19 (by decide) (fun q19 h19 => ?_) (fun h19 => ?_)
      · refine E_iconst (v := 0) dX7_mayStand_37 (by decide) ?_
        refine E_iret dX7_mayStand_38 rfl rfl ?_
        refine ⟨congrArg (fun z => some (xI z)) ?_, rfl⟩; simp_all [fa_le, fa_lt]
      · refine E_iload_n dX7_mayStand_22 rfl rfl ?_
        refine E_aload_n dX7_mayStand_23 rfl rfl ?_
        refine E_getI dX7_mayStand_24 fX7_18 rfl rfl rfl rfl ?_
        refine E_isub dX7_mayStand_27 ?_
        refine E_bipush (v := 20) dX7_mayStand_28 (by decide) ?_
        refine E_icmp_lt (tgt := 37) dX7_mayStand_30 (by decide) (fun h30 => ?_) (fun h30 => ?_)
        · refine E_iconst (v := 0) dX7_mayStand_37 (by decide) ?_
          refine E_iret dX7_mayStand_38 rfl rfl ?_
          refine ⟨congrArg (fun z => some (xI z)) ?_, rfl⟩; simp_all [fa_le, fa_lt]
        · refine E_iconst (v := 1) dX7_mayStand_33 (by decide) ?_
          refine E_goto (tgt := 38) dX7_mayStand_34 (by decide) ?_
          refine E_iret dX7_mayStand_38 rfl rfl ?_
          refine ⟨congrArg (fun z => some (xI z)) ?_, rfl⟩; simp_all [fa_le, fa_lt]
theorem c_X7_standAt {S : xS} (t i : Nat) (x : Int32) : CC mX7_standAt 1 0 0 [xR (some (7, t)), xR (some (4, i)), xI x] S (aV (sI (sR (sR S 7 t 12 (some (4, i))) 4 i 0 (some (7, t))) 4 i 1 x)) := by
  refine CC_of mpX7_standAt rfl (Nat.le_of_ble_eq_true rfl) ?_
  refine E_aload_n dX7_standAt_0 rfl rfl ?_
  refine E_aload_n dX7_standAt_1 rfl rfl ?_
  refine E_putR dX7_standAt_2 fX7_84 rfl rfl rfl (by first | exact Or.inl ⟨_, rfl⟩ | exact Or.inr ⟨_, rfl⟩) (by intro q h; cases h; simp) ?_
  refine E_aload_n dX7_standAt_5 rfl rfl ?_
  refine E_aload_n dX7_standAt_6 rfl rfl ?_
  refine E_putR dX7_standAt_7 fX7_88 rfl rfl rfl (by first | exact Or.inl ⟨_, rfl⟩ | exact Or.inr ⟨_, rfl⟩) (by intro q h; cases h; simp) ?_
  refine E_aload_n dX7_standAt_10 rfl rfl ?_
  refine E_iload_n dX7_standAt_11 rfl rfl ?_
  refine E_putI dX7_standAt_12 fX7_94 rfl rfl rfl rfl rfl ?_
  refine E_vret dX7_standAt_15 rfl ?_
  exact ⟨rfl, rfl⟩
theorem c_X7_leavePost_n {S : xS} (t : Nat) (x : Int32) (hp : (gR S 7 t 12) = none) : CC mX7_leavePost 1 0 0 [xR (some (7, t)), xI x] S (aV S) := by
  refine CC_of mpX7_leavePost rfl (Nat.le_of_ble_eq_true rfl) ?_
  refine E_aload_n dX7_leavePost_0 rfl rfl ?_
  refine E_getR dX7_leavePost_1 fX7_84 rfl rfl rfl hp ?_
  refine E_ifnull (tgt := 25) dX7_leavePost_4 (by decide) (fun h4 => ?_) (fun q4 h4 => absurd h4 (by intro z; cases z))
  refine E_vret dX7_leavePost_25 rfl ?_
  exact ⟨rfl, rfl⟩
theorem c_X7_leavePost_s {S : xS} (t i : Nat) (x : Int32) (hp : (gR S 7 t 12) = some (4, i)) : CC mX7_leavePost 1 0 0 [xR (some (7, t)), xI x] S (aV (sI (sR (sR S 4 i 0 none) 7 t 12 none) 7 t 13 x)) := by
  refine CC_of mpX7_leavePost rfl (Nat.le_of_ble_eq_true rfl) ?_
  refine E_aload_n dX7_leavePost_0 rfl rfl ?_
  refine E_getR dX7_leavePost_1 fX7_84 rfl rfl rfl hp ?_
  refine E_ifnull (tgt := 25) dX7_leavePost_4 (by decide) (fun h4 => ?_) (fun q4 h4 => ?_)
  · cases h4
  · refine E_aload_n dX7_leavePost_7 rfl rfl ?_
    refine E_getR dX7_leavePost_8 fX7_84 rfl rfl rfl hp ?_
    refine E_null dX7_leavePost_11 ?_
    refine E_putR dX7_leavePost_12 fX7_88 rfl rfl rfl (by first | exact Or.inl ⟨_, rfl⟩ | exact Or.inr ⟨_, rfl⟩) (by intro q h; cases h) ?_
    refine E_aload_n dX7_leavePost_15 rfl rfl ?_
    refine E_null dX7_leavePost_16 ?_
    refine E_putR dX7_leavePost_17 fX7_84 rfl rfl rfl (by first | exact Or.inl ⟨_, rfl⟩ | exact Or.inr ⟨_, rfl⟩) (by intro q h; cases h) ?_
    refine E_aload_n dX7_leavePost_20 rfl rfl ?_
    refine E_iload_n dX7_leavePost_21 rfl rfl ?_
    refine E_putI dX7_leavePost_22 fX7_18 rfl rfl rfl rfl rfl ?_
    refine E_vret dX7_leavePost_25 rfl ?_
    exact ⟨rfl, rfl⟩
theorem c_X8_numberOf_n {S : xS} : CC mX8_numberOf 1 0 0 [xR none] S (aI (-1) S) := by
  refine CC_of mpX8_numberOf rfl (Nat.le_of_ble_eq_true rfl) ?_
  refine E_aload_n dX8_numberOf_0 rfl rfl ?_
  refine E_ifnonnull (tgt := 8) dX8_numberOf_1 (by decide) (fun q1 h1 => ?_) (fun h1 => ?_)
  · cases h1
  · refine E_iconst (v := -1) dX8_numberOf_4 (by decide) ?_
    refine E_goto (tgt := 12) dX8_numberOf_5 (by decide) ?_
    refine E_iret dX8_numberOf_12 rfl rfl ?_
    exact ⟨rfl, rfl⟩
theorem c_X8_numberOf_s {S : xS} (t : Nat) : CC mX8_numberOf 1 0 0 [xR (some (7, t))] S (aI (gI S 7 t 0) S) := by
  refine CC_of mpX8_numberOf rfl (Nat.le_of_ble_eq_true rfl) ?_
  refine E_aload_n dX8_numberOf_0 rfl rfl ?_
  refine E_ifnonnull (tgt := 8) dX8_numberOf_1 (by decide) (fun q1 h1 => ?_) (fun h1 => ?_)
  · refine E_aload_n dX8_numberOf_8 rfl rfl ?_
    refine E_getI dX8_numberOf_9 fX8_319 rfl rfl rfl rfl ?_
    refine E_iret dX8_numberOf_12 rfl rfl ?_
    exact ⟨rfl, rfl⟩
  · cases h1
theorem c_X8_isClubKind {S : xS} (x : Int32) : CC mX8_isClubKind 1 0 0 [xI x] S (aI (if x = 2 ∨ x = 3 then 1 else 0) S) := by
  refine CC_of mpX8_isClubKind rfl (Nat.le_of_ble_eq_true rfl) ?_
  refine E_iload_n dX8_isClubKind_0 rfl rfl ?_
  refine E_iconst (v := 2) dX8_isClubKind_1 (by decide) ?_
  refine E_icmp_eq (tgt := 10) dX8_isClubKind_2 (by decide) (fun h2 => ?_) (fun h2 => ?_)
  · refine E_iconst (v := 1) dX8_isClubKind_10 (by decide) ?_
    refine E_goto (tgt := 15) dX8_isClubKind_11 (by decide) ?_
    refine E_iret dX8_isClubKind_15 rfl rfl ?_
    refine ⟨congrArg (fun z => some (xI z)) ?_, rfl⟩; (try split) <;> first | rfl | (exfalso; simp only [fa_lt, fa_le, fa_eq] at *; omega)
  · refine E_iload_n dX8_isClubKind_5 rfl rfl ?_
    refine E_iconst (v := 3) dX8_isClubKind_6 (by decide) ?_
    refine E_icmp_ne (tgt := 14) dX8_isClubKind_7 (by decide) (fun h7 => ?_) (fun h7 => ?_)
    · refine E_iconst (v := 0) dX8_isClubKind_14 (by decide) ?_
      refine E_iret dX8_isClubKind_15 rfl rfl ?_
      refine ⟨congrArg (fun z => some (xI z)) ?_, rfl⟩; (try split) <;> first | rfl | (exfalso; simp only [fa_lt, fa_le, fa_eq] at *; omega)
    · refine E_iconst (v := 1) dX8_isClubKind_10 (by decide) ?_
      refine E_goto (tgt := 15) dX8_isClubKind_11 (by decide) ?_
      refine E_iret dX8_isClubKind_15 rfl rfl ?_
      refine ⟨congrArg (fun z => some (xI z)) ?_, rfl⟩; (try split) <;> first | rfl | (exfalso; simp only [fa_lt, fa_le, fa_eq] at *; omega)
theorem c_X2_isLocker {S : xS} (x : Int32) : CC mX2_isLocker 1 0 0 [xI x] S (aI (if 0 ≤ x ∧ x < 30 then 1 else 0) S) := by
  refine CC_of mpX2_isLocker rfl (Nat.le_of_ble_eq_true rfl) ?_
  refine E_iload_n dX2_isLocker_0 rfl rfl ?_
  refine E_if_lt (tgt := 14) dX2_isLocker_1 (by decide) (fun h1 => ?_) (fun h1 => ?_)
  · refine E_iconst (v := 0) dX2_isLocker_14 (by decide) ?_
    refine E_iret dX2_isLocker_15 rfl rfl ?_
    refine ⟨congrArg (fun z => some (xI z)) ?_, rfl⟩; (try split) <;> first | rfl | (exfalso; simp only [fa_lt, fa_le, fa_eq] at *; omega)
  · refine E_iload_n dX2_isLocker_4 rfl rfl ?_
    refine E_bipush (v := 30) dX2_isLocker_5 (by decide) ?_
    refine E_icmp_ge (tgt := 14) dX2_isLocker_7 (by decide) (fun h7 => ?_) (fun h7 => ?_)
    · refine E_iconst (v := 0) dX2_isLocker_14 (by decide) ?_
      refine E_iret dX2_isLocker_15 rfl rfl ?_
      refine ⟨congrArg (fun z => some (xI z)) ?_, rfl⟩; (try split) <;> first | rfl | (exfalso; simp only [fa_lt, fa_le, fa_eq] at *; omega)
    · refine E_iconst (v := 1) dX2_isLocker_10 (by decide) ?_
      refine E_goto (tgt := 15) dX2_isLocker_11 (by decide) ?_
      refine E_iret dX2_isLocker_15 rfl rfl ?_
      refine ⟨congrArg (fun z => some (xI z)) ?_, rfl⟩; (try split) <;> first | rfl | (exfalso; simp only [fa_lt, fa_le, fa_eq] at *; omega)
theorem c_X9_in {S : xS} (x a b : Int32) : CC mX9_in 1 0 0 [xI x, xI a, xI b] S (aI (if a ≤ x ∧ x ≤ b then 1 else 0) S) := by
  refine CC_of mpX9_in rfl (Nat.le_of_ble_eq_true rfl) ?_
  refine E_iload_n dX9_in_0 rfl rfl ?_
  refine E_iload_n dX9_in_1 rfl rfl ?_
  refine E_icmp_lt (tgt := 14) dX9_in_2 (by decide) (fun h2 => ?_) (fun h2 => ?_)
  · refine E_iconst (v := 0) dX9_in_14 (by decide) ?_
    refine E_iret dX9_in_15 rfl rfl ?_
    refine ⟨congrArg (fun z => some (xI z)) ?_, rfl⟩; (try split) <;> first | rfl | (exfalso; simp only [fa_lt, fa_le, fa_eq] at *; omega)
  · refine E_iload_n dX9_in_5 rfl rfl ?_
    refine E_iload_n dX9_in_6 rfl rfl ?_
    refine E_icmp_gt (tgt := 14) dX9_in_7 (by decide) (fun h7 => ?_) (fun h7 => ?_)
    · refine E_iconst (v := 0) dX9_in_14 (by decide) ?_
      refine E_iret dX9_in_15 rfl rfl ?_
      refine ⟨congrArg (fun z => some (xI z)) ?_, rfl⟩; (try split) <;> first | rfl | (exfalso; simp only [fa_lt, fa_le, fa_eq] at *; omega)
    · refine E_iconst (v := 1) dX9_in_10 (by decide) ?_
      refine E_goto (tgt := 15) dX9_in_11 (by decide) ?_
      refine E_iret dX9_in_15 rfl rfl ?_
      refine ⟨congrArg (fun z => some (xI z)) ?_, rfl⟩; (try split) <;> first | rfl | (exfalso; simp only [fa_lt, fa_le, fa_eq] at *; omega)
end
section
/-! Lockers, Pool, Door, Ticket: methods that call, loops -/
theorem c_X2_hangKey_y {S : xS} (hX : xShX S) (l : Nat) (hl : l < 30) : CC mX2_hangKey 2 0 0 [xR (some (2, 0)), xI (nI l)] S (aV (sI (sI S 13 0 l (-1)) 14 0 l 0)) := by
  refine CC_of mpX2_hangKey rfl (Nat.le_of_ble_eq_true rfl) ?_
  have h1 : (0 : Int32) ≤ nI l ∧ nI l < 30 := ⟨nI_le (a := 0) (by omega) (by omega), nI_lt (b := 30) (by omega) (by omega)⟩
  refine E_iload_n dX2_hangKey_0 rfl rfl ?_
  refine E_callS (m2 := mX2_isLocker) dX2_hangKey_1 kX2_19 mzX2_isLocker (c_X2_isLocker _) rfl rfl (by decide) (xs8 (Nat.le_of_ble_eq_true rfl)) (by first | exact Nat.le_of_ble_eq_true rfl | omega) (by first | exact Nat.le_of_ble_eq_true rfl | omega) ?_
  rintro _ _ ⟨rfl, rfl⟩; rw [if_pos h1]
  refine E_if_eq (tgt := 21) dX2_hangKey_4 (by decide) (fun h4 => absurd h4 (by decide)) (fun h4 => ?_)
  refine E_aload_n dX2_hangKey_7 rfl rfl ?_
  refine E_getR dX2_hangKey_8 fX2_9 rfl rfl rfl (rX_2_0 hX) ?_
  refine E_iload_n dX2_hangKey_11 rfl rfl ?_
  refine E_iconst (v := -1) dX2_hangKey_12 (by decide) ?_
  refine E_iast dX2_hangKey_13 rfl rfl (by decide) (lX_13 hX) (vin hl (by omega)) (vnat hl (by omega)) ?_
  refine E_aload_n dX2_hangKey_14 rfl rfl ?_
  refine E_getR dX2_hangKey_15 fX2_15 rfl rfl rfl (rX_2_1 hX) ?_
  refine E_iload_n dX2_hangKey_18 rfl rfl ?_
  refine E_iconst (v := 0) dX2_hangKey_19 (by decide) ?_
  refine E_zast dX2_hangKey_20 rfl rfl (by decide) (lX_14 hX) (vin hl (by omega)) (vnat hl (by omega)) rfl ?_
  refine E_vret dX2_hangKey_21 rfl ?_
  exact ⟨rfl, rfl⟩
theorem c_X2_hangKey_n {S : xS} (x : Int32) (h1 : ¬ (0 ≤ x ∧ x < 30)) : CC mX2_hangKey 2 0 0 [xR (some (2, 0)), xI x] S (aV S) := by
  refine CC_of mpX2_hangKey rfl (Nat.le_of_ble_eq_true rfl) ?_
  refine E_iload_n dX2_hangKey_0 rfl rfl ?_
  refine E_callS (m2 := mX2_isLocker) dX2_hangKey_1 kX2_19 mzX2_isLocker (c_X2_isLocker _) rfl rfl (by decide) (xs8 (Nat.le_of_ble_eq_true rfl)) (by first | exact Nat.le_of_ble_eq_true rfl | omega) (by first | exact Nat.le_of_ble_eq_true rfl | omega) ?_
  rintro _ _ ⟨rfl, rfl⟩; rw [if_neg h1]
  refine E_if_eq (tgt := 21) dX2_hangKey_4 (by decide) (fun h4 => ?_) (fun h4 => absurd h4 (by decide))
  refine E_vret dX2_hangKey_21 rfl ?_
  exact ⟨rfl, rfl⟩
theorem c_X2_lose_y {S : xS} (hX : xShX S) (l : Nat) (hl : l < 30) : CC mX2_lose 2 0 0 [xR (some (2, 0)), xI (nI l)] S (aV (sI S 14 0 l 1)) := by
  refine CC_of mpX2_lose rfl (Nat.le_of_ble_eq_true rfl) ?_
  have h1 : (0 : Int32) ≤ nI l ∧ nI l < 30 := ⟨nI_le (a := 0) (by omega) (by omega), nI_lt (b := 30) (by omega) (by omega)⟩
  refine E_iload_n dX2_lose_0 rfl rfl ?_
  refine E_callS (m2 := mX2_isLocker) dX2_lose_1 kX2_19 mzX2_isLocker (c_X2_isLocker _) rfl rfl (by decide) (xs8 (Nat.le_of_ble_eq_true rfl)) (by first | exact Nat.le_of_ble_eq_true rfl | omega) (by first | exact Nat.le_of_ble_eq_true rfl | omega) ?_
  rintro _ _ ⟨rfl, rfl⟩; rw [if_pos h1]
  refine E_if_eq (tgt := 14) dX2_lose_4 (by decide) (fun h4 => absurd h4 (by decide)) (fun h4 => ?_)
  refine E_aload_n dX2_lose_7 rfl rfl ?_
  refine E_getR dX2_lose_8 fX2_15 rfl rfl rfl (rX_2_1 hX) ?_
  refine E_iload_n dX2_lose_11 rfl rfl ?_
  refine E_iconst (v := 1) dX2_lose_12 (by decide) ?_
  refine E_zast dX2_lose_13 rfl rfl (by decide) (lX_14 hX) (vin hl (by omega)) (vnat hl (by omega)) rfl ?_
  refine E_vret dX2_lose_14 rfl ?_
  exact ⟨rfl, rfl⟩
theorem c_X2_lose_n {S : xS} (x : Int32) (h1 : ¬ (0 ≤ x ∧ x < 30)) : CC mX2_lose 2 0 0 [xR (some (2, 0)), xI x] S (aV S) := by
  refine CC_of mpX2_lose rfl (Nat.le_of_ble_eq_true rfl) ?_
  refine E_iload_n dX2_lose_0 rfl rfl ?_
  refine E_callS (m2 := mX2_isLocker) dX2_lose_1 kX2_19 mzX2_isLocker (c_X2_isLocker _) rfl rfl (by decide) (xs8 (Nat.le_of_ble_eq_true rfl)) (by first | exact Nat.le_of_ble_eq_true rfl | omega) (by first | exact Nat.le_of_ble_eq_true rfl | omega) ?_
  rintro _ _ ⟨rfl, rfl⟩; rw [if_neg h1]
  refine E_if_eq (tgt := 14) dX2_lose_4 (by decide) (fun h4 => ?_) (fun h4 => absurd h4 (by decide))
  refine E_vret dX2_lose_14 rfl ?_
  exact ⟨rfl, rfl⟩
theorem l_X2_lostOnes {S : xS} (hX : xShX S) : ∀ (n i : Nat), i + n = 30 → ∀ v, v = xsm (fun l => if (gI S 14 0 l) = 0 then 0 else 1) i → Ex mX2_lostOnes 1 0 0 (0, fun _ => 0) (aI (xsm (fun l => if (gI S 14 0 l) = 0 then 0 else 1) 30) S) 4 [some (xR (some (2, 0))), some (xI v), some (xI (nI i))] [] S
  | 0, i, hi, v, hv => by
    refine E_iload_n dX2_lostOnes_4 rfl rfl ?_
    refine E_bipush (v := 30) dX2_lostOnes_5 (by decide) ?_
    refine E_icmp_ge (tgt := 33) dX2_lostOnes_7 (by decide) (fun h7 => ?_) (fun h7 => absurd h7 ((fun z => z (nI_le (a := 30) (b := i) (by omega) (by omega)))))
    refine E_iload_n dX2_lostOnes_33 rfl rfl ?_
    refine E_iret dX2_lostOnes_34 rfl rfl ?_
    exact ⟨by rw [hv, show i = 30 by omega], rfl⟩
  | n + 1, i, hi, v, hv => by
    refine E_iload_n dX2_lostOnes_4 rfl rfl ?_
    refine E_bipush (v := 30) dX2_lostOnes_5 (by decide) ?_
    refine E_icmp_ge (tgt := 33) dX2_lostOnes_7 (by decide) (fun h7 => absurd h7 ((nI_ge (a := i) (b := 30) (by omega) (by omega)))) (fun h7 => ?_)
    refine E_iload_n dX2_lostOnes_10 rfl rfl ?_
    refine E_aload_n dX2_lostOnes_11 rfl rfl ?_
    refine E_getR dX2_lostOnes_12 fX2_15 rfl rfl rfl (rX_2_1 hX) ?_
    refine E_iload_n dX2_lostOnes_15 rfl rfl ?_
    refine E_zald dX2_lostOnes_16 rfl rfl (by decide) (lX_14 hX) (vin (by omega : i < 30) (by omega)) (vnat (by omega : i < 30) (by omega)) rfl ?_
    refine E_if_eq (tgt := 24) dX2_lostOnes_17 (by decide) (fun h17 => ?_) (fun h17 => ?_)
    · refine E_iconst (v := 0) dX2_lostOnes_24 (by decide) ?_
      refine E_iadd dX2_lostOnes_25 ?_
      refine E_istore_n dX2_lostOnes_26 rfl (by decide) rfl ?_
      refine E_iinc (v := nI (i + 1)) dX2_lostOnes_27 rfl (nI_i1 i) (by decide) rfl ?_
      refine E_goto (tgt := 4) dX2_lostOnes_30 (by decide) ?_
      refine l_X2_lostOnes hX n (i + 1) (by omega) _ ?_
      rw [xsm_succ, ← hv]; congr 1; (try split) <;> simp_all
    · refine E_iconst (v := 1) dX2_lostOnes_20 (by decide) ?_
      refine E_goto (tgt := 25) dX2_lostOnes_21 (by decide) ?_
      refine E_iadd dX2_lostOnes_25 ?_
      refine E_istore_n dX2_lostOnes_26 rfl (by decide) rfl ?_
      refine E_iinc (v := nI (i + 1)) dX2_lostOnes_27 rfl (nI_i1 i) (by decide) rfl ?_
      refine E_goto (tgt := 4) dX2_lostOnes_30 (by decide) ?_
      refine l_X2_lostOnes hX n (i + 1) (by omega) _ ?_
      rw [xsm_succ, ← hv]; congr 1; (try split) <;> simp_all
theorem c_X2_lostOnes {S : xS} (hX : xShX S) : CC mX2_lostOnes 1 0 0 [xR (some (2, 0))] S (aI (xsm (fun l => if (gI S 14 0 l) = 0 then 0 else 1) 30) S) := by
  refine CC_of mpX2_lostOnes rfl (Nat.le_of_ble_eq_true rfl) ?_
  refine E_iconst (v := 0) dX2_lostOnes_0 (by decide) ?_
  refine E_istore_n dX2_lostOnes_1 rfl (by decide) rfl ?_
  refine E_iconst (v := 0) dX2_lostOnes_2 (by decide) ?_
  refine E_istore_n dX2_lostOnes_3 rfl (by decide) rfl ?_
  exact l_X2_lostOnes hX 30 0 rfl 0 rfl
theorem l_X2_keysOut {S : xS} (hX : xShX S) : ∀ (n i : Nat), i + n = 30 → ∀ v, v = xsm (fun l => if ¬ (gI S 13 0 l) = -1 ∧ (gI S 14 0 l) = 0 then 1 else 0) i → Ex mX2_keysOut 1 0 0 (0, fun _ => 0) (aI (xsm (fun l => if ¬ (gI S 13 0 l) = -1 ∧ (gI S 14 0 l) = 0 then 1 else 0) 30) S) 4 [some (xR (some (2, 0))), some (xI v), some (xI (nI i))] [] S
  | 0, i, hi, v, hv => by
    refine E_iload_n dX2_keysOut_4 rfl rfl ?_
    refine E_bipush (v := 30) dX2_keysOut_5 (by decide) ?_
    refine E_icmp_ge (tgt := 43) dX2_keysOut_7 (by decide) (fun h7 => ?_) (fun h7 => absurd h7 ((fun z => z (nI_le (a := 30) (b := i) (by omega) (by omega)))))
    refine E_iload_n dX2_keysOut_43 rfl rfl ?_
    refine E_iret dX2_keysOut_44 rfl rfl ?_
    exact ⟨by rw [hv, show i = 30 by omega], rfl⟩
  | n + 1, i, hi, v, hv => by
    refine E_iload_n dX2_keysOut_4 rfl rfl ?_
    refine E_bipush (v := 30) dX2_keysOut_5 (by decide) ?_
    refine E_icmp_ge (tgt := 43) dX2_keysOut_7 (by decide) (fun h7 => absurd h7 ((nI_ge (a := i) (b := 30) (by omega) (by omega)))) (fun h7 => ?_)
    refine E_iload_n dX2_keysOut_10 rfl rfl ?_
    refine E_aload_n dX2_keysOut_11 rfl rfl ?_
    refine E_getR dX2_keysOut_12 fX2_9 rfl rfl rfl (rX_2_0 hX) ?_
    refine E_iload_n dX2_keysOut_15 rfl rfl ?_
    refine E_iald dX2_keysOut_16 rfl rfl (by decide) (lX_13 hX) (vin (by omega : i < 30) (by omega)) (vnat (by omega : i < 30) (by omega)) rfl ?_
    refine E_iconst (v := -1) dX2_keysOut_17 (by decide) ?_
    refine E_icmp_eq (tgt := 34) dX2_keysOut_18 (by decide) (fun h18 => ?_) (fun h18 => ?_)
    · refine E_iconst (v := 0) dX2_keysOut_34 (by decide) ?_
      refine E_iadd dX2_keysOut_35 ?_
      refine E_istore_n dX2_keysOut_36 rfl (by decide) rfl ?_
      refine E_iinc (v := nI (i + 1)) dX2_keysOut_37 rfl (nI_i1 i) (by decide) rfl ?_
      refine E_goto (tgt := 4) dX2_keysOut_40 (by decide) ?_
      refine l_X2_keysOut hX n (i + 1) (by omega) _ ?_
      rw [xsm_succ, ← hv]; congr 1; (try split) <;> simp_all
    · refine E_aload_n dX2_keysOut_21 rfl rfl ?_
      refine E_getR dX2_keysOut_22 fX2_15 rfl rfl rfl (rX_2_1 hX) ?_
      refine E_iload_n dX2_keysOut_25 rfl rfl ?_
      refine E_zald dX2_keysOut_26 rfl rfl (by decide) (lX_14 hX) (vin (by omega : i < 30) (by omega)) (vnat (by omega : i < 30) (by omega)) rfl ?_
      refine E_if_ne (tgt := 34) dX2_keysOut_27 (by decide) (fun h27 => ?_) (fun h27 => ?_)
      · refine E_iconst (v := 0) dX2_keysOut_34 (by decide) ?_
        refine E_iadd dX2_keysOut_35 ?_
        refine E_istore_n dX2_keysOut_36 rfl (by decide) rfl ?_
        refine E_iinc (v := nI (i + 1)) dX2_keysOut_37 rfl (nI_i1 i) (by decide) rfl ?_
        refine E_goto (tgt := 4) dX2_keysOut_40 (by decide) ?_
        refine l_X2_keysOut hX n (i + 1) (by omega) _ ?_
        rw [xsm_succ, ← hv]; congr 1; (try split) <;> simp_all
      · refine E_iconst (v := 1) dX2_keysOut_30 (by decide) ?_
        refine E_goto (tgt := 35) dX2_keysOut_31 (by decide) ?_
        refine E_iadd dX2_keysOut_35 ?_
        refine E_istore_n dX2_keysOut_36 rfl (by decide) rfl ?_
        refine E_iinc (v := nI (i + 1)) dX2_keysOut_37 rfl (nI_i1 i) (by decide) rfl ?_
        refine E_goto (tgt := 4) dX2_keysOut_40 (by decide) ?_
        refine l_X2_keysOut hX n (i + 1) (by omega) _ ?_
        rw [xsm_succ, ← hv]; congr 1; (try split) <;> simp_all
theorem c_X2_keysOut {S : xS} (hX : xShX S) : CC mX2_keysOut 1 0 0 [xR (some (2, 0))] S (aI (xsm (fun l => if ¬ (gI S 13 0 l) = -1 ∧ (gI S 14 0 l) = 0 then 1 else 0) 30) S) := by
  refine CC_of mpX2_keysOut rfl (Nat.le_of_ble_eq_true rfl) ?_
  refine E_iconst (v := 0) dX2_keysOut_0 (by decide) ?_
  refine E_istore_n dX2_keysOut_1 rfl (by decide) rfl ?_
  refine E_iconst (v := 0) dX2_keysOut_2 (by decide) ?_
  refine E_istore_n dX2_keysOut_3 rfl (by decide) rfl ?_
  exact l_X2_keysOut hX 30 0 rfl 0 rfl
theorem l_X2_takeLowest_y {S : xS} (hX : xShX S) (x : Int32) (l : Nat) (hl : l < 30) (h0 : (gI S 13 0 l) = -1) (h1 : ∀ k, k < l → ¬ (gI S 13 0 k) = -1) : ∀ (n i : Nat), i + n = l → Ex mX2_takeLowest 1 0 0 (0, fun _ => 0) (aI (nI l) (sI S 13 0 l x)) 2 [some (xR (some (2, 0))), some (xI x), some (xI (nI i))] [] S
  | 0, i, hi => by
    have hil : i = l := by omega
    subst hil
    refine E_iload_n dX2_takeLowest_2 rfl rfl ?_
    refine E_bipush (v := 30) dX2_takeLowest_3 (by decide) ?_
    refine E_icmp_ge (tgt := 33) dX2_takeLowest_5 (by decide) (fun h5 => absurd h5 ((nI_ge (a := i) (b := 30) (by omega) (by omega)))) (fun h5 => ?_)
    refine E_aload_n dX2_takeLowest_8 rfl rfl ?_
    refine E_getR dX2_takeLowest_9 fX2_9 rfl rfl rfl (rX_2_0 hX) ?_
    refine E_iload_n dX2_takeLowest_12 rfl rfl ?_
    refine E_iald dX2_takeLowest_13 rfl rfl (by decide) (lX_13 hX) (vin hl (by omega)) (vnat hl (by omega)) rfl ?_
    refine E_iconst (v := -1) dX2_takeLowest_14 (by decide) ?_
    refine E_icmp_ne (tgt := 27) dX2_takeLowest_15 (by decide) (fun h15 => absurd h15 (fun z => z h0)) (fun h15 => ?_)
    refine E_aload_n dX2_takeLowest_18 rfl rfl ?_
    refine E_getR dX2_takeLowest_19 fX2_9 rfl rfl rfl (rX_2_0 hX) ?_
    refine E_iload_n dX2_takeLowest_22 rfl rfl ?_
    refine E_iload_n dX2_takeLowest_23 rfl rfl ?_
    refine E_iast dX2_takeLowest_24 rfl rfl (by decide) (lX_13 hX) (vin hl (by omega)) (vnat hl (by omega)) ?_
    refine E_iload_n dX2_takeLowest_25 rfl rfl ?_
    refine E_iret dX2_takeLowest_26 rfl rfl ?_
    exact ⟨rfl, rfl⟩
  | n + 1, i, hi => by
    refine E_iload_n dX2_takeLowest_2 rfl rfl ?_
    refine E_bipush (v := 30) dX2_takeLowest_3 (by decide) ?_
    refine E_icmp_ge (tgt := 33) dX2_takeLowest_5 (by decide) (fun h5 => absurd h5 ((nI_ge (a := i) (b := 30) (by omega) (by omega)))) (fun h5 => ?_)
    refine E_aload_n dX2_takeLowest_8 rfl rfl ?_
    refine E_getR dX2_takeLowest_9 fX2_9 rfl rfl rfl (rX_2_0 hX) ?_
    refine E_iload_n dX2_takeLowest_12 rfl rfl ?_
    refine E_iald dX2_takeLowest_13 rfl rfl (by decide) (lX_13 hX) (vin (by omega : i < 30) (by omega)) (vnat (by omega : i < 30) (by omega)) rfl ?_
    refine E_iconst (v := -1) dX2_takeLowest_14 (by decide) ?_
    refine E_icmp_ne (tgt := 27) dX2_takeLowest_15 (by decide) (fun h15 => ?_) (fun h15 => absurd h15 (h1 i (by omega)))
    refine E_iinc (v := nI (i + 1)) dX2_takeLowest_27 rfl (nI_i1 i) (by decide) rfl ?_
    refine E_goto (tgt := 2) dX2_takeLowest_30 (by decide) ?_
    exact l_X2_takeLowest_y hX x l hl h0 h1 n (i + 1) (by omega)
theorem c_X2_takeLowest_y {S : xS} (hX : xShX S) (x : Int32) (l : Nat) (hl : l < 30) (h0 : (gI S 13 0 l) = -1) (h1 : ∀ k, k < l → ¬ (gI S 13 0 k) = -1) : CC mX2_takeLowest 1 0 0 [xR (some (2, 0)), xI x] S (aI (nI l) (sI S 13 0 l x)) := by
  refine CC_of mpX2_takeLowest rfl (Nat.le_of_ble_eq_true rfl) ?_
  refine E_iconst (v := 0) dX2_takeLowest_0 (by decide) ?_
  refine E_istore_n dX2_takeLowest_1 rfl (by decide) rfl ?_
  exact l_X2_takeLowest_y hX x l hl h0 h1 l 0 (by omega)
theorem l_X2_takeLowest_n {S : xS} (hX : xShX S) (x : Int32) (h1 : ∀ k, k < 30 → ¬ (gI S 13 0 k) = -1) : ∀ (n i : Nat), i + n = 30 → Ex mX2_takeLowest 1 0 0 (0, fun _ => 0) (aI (-1) S) 2 [some (xR (some (2, 0))), some (xI x), some (xI (nI i))] [] S
  | 0, i, hi => by
    refine E_iload_n dX2_takeLowest_2 rfl rfl ?_
    refine E_bipush (v := 30) dX2_takeLowest_3 (by decide) ?_
    refine E_icmp_ge (tgt := 33) dX2_takeLowest_5 (by decide) (fun h5 => ?_) (fun h5 => absurd h5 ((fun z => z (nI_le (a := 30) (b := i) (by omega) (by omega)))))
    refine E_iconst (v := -1) dX2_takeLowest_33 (by decide) ?_
    refine E_iret dX2_takeLowest_34 rfl rfl ?_
    exact ⟨rfl, rfl⟩
  | n + 1, i, hi => by
    refine E_iload_n dX2_takeLowest_2 rfl rfl ?_
    refine E_bipush (v := 30) dX2_takeLowest_3 (by decide) ?_
    refine E_icmp_ge (tgt := 33) dX2_takeLowest_5 (by decide) (fun h5 => absurd h5 ((nI_ge (a := i) (b := 30) (by omega) (by omega)))) (fun h5 => ?_)
    refine E_aload_n dX2_takeLowest_8 rfl rfl ?_
    refine E_getR dX2_takeLowest_9 fX2_9 rfl rfl rfl (rX_2_0 hX) ?_
    refine E_iload_n dX2_takeLowest_12 rfl rfl ?_
    refine E_iald dX2_takeLowest_13 rfl rfl (by decide) (lX_13 hX) (vin (by omega : i < 30) (by omega)) (vnat (by omega : i < 30) (by omega)) rfl ?_
    refine E_iconst (v := -1) dX2_takeLowest_14 (by decide) ?_
    refine E_icmp_ne (tgt := 27) dX2_takeLowest_15 (by decide) (fun h15 => ?_) (fun h15 => absurd h15 (h1 i (by omega)))
    refine E_iinc (v := nI (i + 1)) dX2_takeLowest_27 rfl (nI_i1 i) (by decide) rfl ?_
    refine E_goto (tgt := 2) dX2_takeLowest_30 (by decide) ?_
    exact l_X2_takeLowest_n hX x h1 n (i + 1) (by omega)
theorem c_X2_takeLowest_n {S : xS} (hX : xShX S) (x : Int32) (h1 : ∀ k, k < 30 → ¬ (gI S 13 0 k) = -1) : CC mX2_takeLowest 1 0 0 [xR (some (2, 0)), xI x] S (aI (-1) S) := by
  refine CC_of mpX2_takeLowest rfl (Nat.le_of_ble_eq_true rfl) ?_
  refine E_iconst (v := 0) dX2_takeLowest_0 (by decide) ?_
  refine E_istore_n dX2_takeLowest_1 rfl (by decide) rfl ?_
  exact l_X2_takeLowest_n hX x h1 30 0 rfl
theorem c_X3_hasLanes {S : xS} (p : Nat) (x : Int32) : CC mX3_hasLanes 1 0 0 [xR (some (3, p)), xI x] S (aI (if 0 < x ∧ x < 1 <<< ((gI S 3 p 2) &&& 31) then 1 else 0) S) := by
  refine CC_of mpX3_hasLanes rfl (Nat.le_of_ble_eq_true rfl) ?_
  refine E_iload_n dX3_hasLanes_0 rfl rfl ?_
  refine E_if_le (tgt := 18) dX3_hasLanes_1 (by decide) (fun h1 => ?_) (fun h1 => ?_)
  · refine E_iconst (v := 0) dX3_hasLanes_18 (by decide) ?_
    refine E_iret dX3_hasLanes_19 rfl rfl ?_
    refine ⟨congrArg (fun z => some (xI z)) ?_, rfl⟩; (try split) <;> first | rfl | (exfalso; simp only [fa_lt, fa_le, fa_eq] at *; omega)
  · refine E_iload_n dX3_hasLanes_4 rfl rfl ?_
    refine E_iconst (v := 1) dX3_hasLanes_5 (by decide) ?_
    refine E_aload_n dX3_hasLanes_6 rfl rfl ?_
    refine E_getI dX3_hasLanes_7 fX3_31 rfl rfl rfl rfl ?_
    refine E_ishl dX3_hasLanes_10 ?_
    refine E_icmp_ge (tgt := 18) dX3_hasLanes_11 (by decide) (fun h11 => ?_) (fun h11 => ?_)
    · refine E_iconst (v := 0) dX3_hasLanes_18 (by decide) ?_
      refine E_iret dX3_hasLanes_19 rfl rfl ?_
      refine ⟨congrArg (fun z => some (xI z)) ?_, rfl⟩; (try split) <;> first | rfl | (exfalso; simp only [fa_lt, fa_le, fa_eq] at *; omega)
    · refine E_iconst (v := 1) dX3_hasLanes_14 (by decide) ?_
      refine E_goto (tgt := 19) dX3_hasLanes_15 (by decide) ?_
      refine E_iret dX3_hasLanes_19 rfl rfl ?_
      refine ⟨congrArg (fun z => some (xI z)) ?_, rfl⟩; (try split) <;> first | rfl | (exfalso; simp only [fa_lt, fa_le, fa_eq] at *; omega)
theorem c_X3_letIn {S : xS} (p t n : Nat) (hp : xShP S p n) : CC mX3_letIn 1 0 0 [xR (some (3, p)), xR (some (7, t))] S (aV (sI (sI (sI (sI S 3 p 6 ((gI S 3 p 6) + 1)) 3 p 7 ((gI S 3 p 7) + (if (gI S 7 t 2) = 5 then 1 else 0))) 1 p 5 ((gI S 1 p 5) + 1)) 1 p 4 ((gI S 1 p 4) + 1))) := by
  refine CC_of mpX3_letIn rfl (Nat.le_of_ble_eq_true rfl) ?_
  refine E_aload_n dX3_letIn_0 rfl rfl ?_
  refine E_dup dX3_letIn_1 rfl ?_
  refine E_getI dX3_letIn_2 fX3_48 rfl rfl rfl rfl ?_
  refine E_iconst (v := 1) dX3_letIn_5 (by decide) ?_
  refine E_iadd dX3_letIn_6 ?_
  refine E_putI dX3_letIn_7 fX3_48 rfl rfl rfl rfl rfl ?_
  refine E_aload_n dX3_letIn_10 rfl rfl ?_
  refine E_dup dX3_letIn_11 rfl ?_
  refine E_getI dX3_letIn_12 fX3_51 rfl rfl rfl rfl ?_
  refine E_aload_n dX3_letIn_15 rfl rfl ?_
  refine E_getI dX3_letIn_16 fX3_54 rfl rfl rfl rfl ?_
  refine E_iconst (v := 5) dX3_letIn_19 (by decide) ?_
  refine E_icmp_ne (tgt := 27) dX3_letIn_20 (by decide) (fun h20 => ?_) (fun h20 => ?_)
  · refine E_iconst (v := 0) dX3_letIn_27 (by decide) ?_
    refine E_iadd dX3_letIn_28 ?_
    refine E_putI dX3_letIn_29 fX3_51 rfl rfl rfl rfl rfl ?_
    refine E_aload_n dX3_letIn_32 rfl rfl ?_
    refine E_getR dX3_letIn_33 fX3_20 rfl rfl rfl (rP_5 hp) ?_
    refine E_dup dX3_letIn_36 rfl ?_
    refine E_getI dX3_letIn_37 fX3_59 rfl rfl rfl rfl ?_
    refine E_iconst (v := 1) dX3_letIn_40 (by decide) ?_
    refine E_iadd dX3_letIn_41 ?_
    refine E_putI dX3_letIn_42 fX3_59 rfl rfl rfl rfl rfl ?_
    refine E_aload_n dX3_letIn_45 rfl rfl ?_
    refine E_getR dX3_letIn_46 fX3_20 rfl rfl rfl (rP_5 hp) ?_
    refine E_dup dX3_letIn_49 rfl ?_
    refine E_getI dX3_letIn_50 fX3_62 rfl rfl rfl rfl ?_
    refine E_iconst (v := 1) dX3_letIn_53 (by decide) ?_
    refine E_iadd dX3_letIn_54 ?_
    refine E_putI dX3_letIn_55 fX3_62 rfl rfl rfl rfl rfl ?_
    refine E_vret dX3_letIn_58 rfl ?_
    refine ⟨rfl, ?_⟩; first | (rw [if_pos (show (gI S 7 t 2) = 5 from h20)]; rfl) | (rw [if_neg (show ¬ (gI S 7 t 2) = 5 from h20)]; rfl)
  · refine E_iconst (v := 1) dX3_letIn_23 (by decide) ?_
    refine E_goto (tgt := 28) dX3_letIn_24 (by decide) ?_
    refine E_iadd dX3_letIn_28 ?_
    refine E_putI dX3_letIn_29 fX3_51 rfl rfl rfl rfl rfl ?_
    refine E_aload_n dX3_letIn_32 rfl rfl ?_
    refine E_getR dX3_letIn_33 fX3_20 rfl rfl rfl (rP_5 hp) ?_
    refine E_dup dX3_letIn_36 rfl ?_
    refine E_getI dX3_letIn_37 fX3_59 rfl rfl rfl rfl ?_
    refine E_iconst (v := 1) dX3_letIn_40 (by decide) ?_
    refine E_iadd dX3_letIn_41 ?_
    refine E_putI dX3_letIn_42 fX3_59 rfl rfl rfl rfl rfl ?_
    refine E_aload_n dX3_letIn_45 rfl rfl ?_
    refine E_getR dX3_letIn_46 fX3_20 rfl rfl rfl (rP_5 hp) ?_
    refine E_dup dX3_letIn_49 rfl ?_
    refine E_getI dX3_letIn_50 fX3_62 rfl rfl rfl rfl ?_
    refine E_iconst (v := 1) dX3_letIn_53 (by decide) ?_
    refine E_iadd dX3_letIn_54 ?_
    refine E_putI dX3_letIn_55 fX3_62 rfl rfl rfl rfl rfl ?_
    refine E_vret dX3_letIn_58 rfl ?_
    refine ⟨rfl, ?_⟩; first | (rw [if_pos (show (gI S 7 t 2) = 5 from h20)]; rfl) | (rw [if_neg (show ¬ (gI S 7 t 2) = 5 from h20)]; rfl)
theorem c_X3_letOut {S : xS} (p t n : Nat) (hp : xShP S p n) : CC mX3_letOut 1 0 0 [xR (some (3, p)), xR (some (7, t))] S (aV (sI (sI (sI (sI S 3 p 6 ((gI S 3 p 6) - 1)) 3 p 7 ((gI S 3 p 7) - (if (gI S 7 t 2) = 5 then 1 else 0))) 1 p 6 ((gI S 1 p 6) + 1)) 1 p 4 ((gI S 1 p 4) - 1))) := by
  refine CC_of mpX3_letOut rfl (Nat.le_of_ble_eq_true rfl) ?_
  refine E_aload_n dX3_letOut_0 rfl rfl ?_
  refine E_dup dX3_letOut_1 rfl ?_
  refine E_getI dX3_letOut_2 fX3_48 rfl rfl rfl rfl ?_
  refine E_iconst (v := 1) dX3_letOut_5 (by decide) ?_
  refine E_isub dX3_letOut_6 ?_
  refine E_putI dX3_letOut_7 fX3_48 rfl rfl rfl rfl rfl ?_
  refine E_aload_n dX3_letOut_10 rfl rfl ?_
  refine E_dup dX3_letOut_11 rfl ?_
  refine E_getI dX3_letOut_12 fX3_51 rfl rfl rfl rfl ?_
  refine E_aload_n dX3_letOut_15 rfl rfl ?_
  refine E_getI dX3_letOut_16 fX3_54 rfl rfl rfl rfl ?_
  refine E_iconst (v := 5) dX3_letOut_19 (by decide) ?_
  refine E_icmp_ne (tgt := 27) dX3_letOut_20 (by decide) (fun h20 => ?_) (fun h20 => ?_)
  · refine E_iconst (v := 0) dX3_letOut_27 (by decide) ?_
    refine E_isub dX3_letOut_28 ?_
    refine E_putI dX3_letOut_29 fX3_51 rfl rfl rfl rfl rfl ?_
    refine E_aload_n dX3_letOut_32 rfl rfl ?_
    refine E_getR dX3_letOut_33 fX3_20 rfl rfl rfl (rP_5 hp) ?_
    refine E_dup dX3_letOut_36 rfl ?_
    refine E_getI dX3_letOut_37 fX3_65 rfl rfl rfl rfl ?_
    refine E_iconst (v := 1) dX3_letOut_40 (by decide) ?_
    refine E_iadd dX3_letOut_41 ?_
    refine E_putI dX3_letOut_42 fX3_65 rfl rfl rfl rfl rfl ?_
    refine E_aload_n dX3_letOut_45 rfl rfl ?_
    refine E_getR dX3_letOut_46 fX3_20 rfl rfl rfl (rP_5 hp) ?_
    refine E_dup dX3_letOut_49 rfl ?_
    refine E_getI dX3_letOut_50 fX3_62 rfl rfl rfl rfl ?_
    refine E_iconst (v := 1) dX3_letOut_53 (by decide) ?_
    refine E_isub dX3_letOut_54 ?_
    refine E_putI dX3_letOut_55 fX3_62 rfl rfl rfl rfl rfl ?_
    refine E_vret dX3_letOut_58 rfl ?_
    refine ⟨rfl, ?_⟩; first | (rw [if_pos (show (gI S 7 t 2) = 5 from h20)]; rfl) | (rw [if_neg (show ¬ (gI S 7 t 2) = 5 from h20)]; rfl)
  · refine E_iconst (v := 1) dX3_letOut_23 (by decide) ?_
    refine E_goto (tgt := 28) dX3_letOut_24 (by decide) ?_
    refine E_isub dX3_letOut_28 ?_
    refine E_putI dX3_letOut_29 fX3_51 rfl rfl rfl rfl rfl ?_
    refine E_aload_n dX3_letOut_32 rfl rfl ?_
    refine E_getR dX3_letOut_33 fX3_20 rfl rfl rfl (rP_5 hp) ?_
    refine E_dup dX3_letOut_36 rfl ?_
    refine E_getI dX3_letOut_37 fX3_65 rfl rfl rfl rfl ?_
    refine E_iconst (v := 1) dX3_letOut_40 (by decide) ?_
    refine E_iadd dX3_letOut_41 ?_
    refine E_putI dX3_letOut_42 fX3_65 rfl rfl rfl rfl rfl ?_
    refine E_aload_n dX3_letOut_45 rfl rfl ?_
    refine E_getR dX3_letOut_46 fX3_20 rfl rfl rfl (rP_5 hp) ?_
    refine E_dup dX3_letOut_49 rfl ?_
    refine E_getI dX3_letOut_50 fX3_62 rfl rfl rfl rfl ?_
    refine E_iconst (v := 1) dX3_letOut_53 (by decide) ?_
    refine E_isub dX3_letOut_54 ?_
    refine E_putI dX3_letOut_55 fX3_62 rfl rfl rfl rfl rfl ?_
    refine E_vret dX3_letOut_58 rfl ?_
    refine ⟨rfl, ?_⟩; first | (rw [if_pos (show (gI S 7 t 2) = 5 from h20)]; rfl) | (rw [if_neg (show ¬ (gI S 7 t 2) = 5 from h20)]; rfl)
theorem l_X3_filledPosts {S : xS} (p n : Nat) (hp : xShP S p n) (x : Int32) : ∀ (k i : Nat), i + k = n → ∀ v, v = xsm (fun k => xfil S (3 * p + k) x) i → Ex mX3_filledPosts 2 0 0 (0, fun _ => 0) (aI (xsm (fun k => xfil S (3 * p + k) x) n) S) 4 [some (xR (some (3, p))), some (xI x), some (xI v), some (xI (nI i))] [] S
  | 0, i, hi, v, hv => by
    have hn := hp.1
    refine E_iload_n dX3_filledPosts_4 rfl rfl ?_
    refine E_aload_n dX3_filledPosts_5 rfl rfl ?_
    refine E_getR dX3_filledPosts_6 fX3_42 rfl rfl rfl (rP_3 hp) ?_
    refine E_alen dX3_filledPosts_9 rfl (by decide) (lP_17 hp) (Eq.refl (nI _)) ?_
    refine E_icmp_ge (tgt := 40) dX3_filledPosts_10 (by decide) (fun h10 => ?_) (fun h10 => absurd h10 ((fun z => z (nI_le (a := n) (b := i) (by omega) (by omega)))))
    refine E_iload_n dX3_filledPosts_40 rfl rfl ?_
    refine E_iret dX3_filledPosts_41 rfl rfl ?_
    exact ⟨by rw [hv, show i = n by omega], rfl⟩
  | k + 1, i, hi, v, hv => by
    have hn := hp.1
    refine E_iload_n dX3_filledPosts_4 rfl rfl ?_
    refine E_aload_n dX3_filledPosts_5 rfl rfl ?_
    refine E_getR dX3_filledPosts_6 fX3_42 rfl rfl rfl (rP_3 hp) ?_
    refine E_alen dX3_filledPosts_9 rfl (by decide) (lP_17 hp) (Eq.refl (nI _)) ?_
    refine E_icmp_ge (tgt := 40) dX3_filledPosts_10 (by decide) (fun h10 => absurd h10 ((nI_ge (a := i) (b := n) (by omega) (by omega)))) (fun h10 => ?_)
    refine E_iload_n dX3_filledPosts_13 rfl rfl ?_
    refine E_aload_n dX3_filledPosts_14 rfl rfl ?_
    refine E_getR dX3_filledPosts_15 fX3_42 rfl rfl rfl (rP_3 hp) ?_
    refine E_iload_n dX3_filledPosts_18 rfl rfl ?_
    refine E_aald dX3_filledPosts_19 rfl rfl (by decide) (lP_17 hp) (vin (by omega : i < n) (by omega)) (vnat (by omega : i < n) (by omega)) (rP_17 hp (by omega : i < n)) ?_
    refine E_iload_n dX3_filledPosts_20 rfl rfl ?_
    refine E_callV (m2 := mX4_isFilled) dX3_filledPosts_21 kX3_68 mzX4_isFilled (c_X4_isFilled _ _) rfl ⟨_, _, rfl⟩ rfl rfl (by decide) (xs8 (Nat.le_of_ble_eq_true rfl)) (by first | exact Nat.le_of_ble_eq_true rfl | omega) (by first | exact Nat.le_of_ble_eq_true rfl | omega) ?_
    rintro _ _ ⟨rfl, rfl⟩
    refine E_if_eq (tgt := 31) dX3_filledPosts_24 (by decide) (fun h24 => ?_) (fun h24 => ?_)
    · refine E_iconst (v := 0) dX3_filledPosts_31 (by decide) ?_
      refine E_iadd dX3_filledPosts_32 ?_
      refine E_istore_n dX3_filledPosts_33 rfl (by decide) rfl ?_
      refine E_iinc (v := nI (i + 1)) dX3_filledPosts_34 rfl (nI_i1 i) (by decide) rfl ?_
      refine E_goto (tgt := 4) dX3_filledPosts_37 (by decide) ?_
      refine l_X3_filledPosts p n hp x k (i + 1) (by omega) _ ?_
      rw [xsm_succ, ← hv]; unfold xfil at h24 ⊢; congr 1; split at h24 <;> simp_all
    · refine E_iconst (v := 1) dX3_filledPosts_27 (by decide) ?_
      refine E_goto (tgt := 32) dX3_filledPosts_28 (by decide) ?_
      refine E_iadd dX3_filledPosts_32 ?_
      refine E_istore_n dX3_filledPosts_33 rfl (by decide) rfl ?_
      refine E_iinc (v := nI (i + 1)) dX3_filledPosts_34 rfl (nI_i1 i) (by decide) rfl ?_
      refine E_goto (tgt := 4) dX3_filledPosts_37 (by decide) ?_
      refine l_X3_filledPosts p n hp x k (i + 1) (by omega) _ ?_
      rw [xsm_succ, ← hv]; unfold xfil at h24 ⊢; congr 1; split at h24 <;> simp_all
theorem c_X3_filledPosts {S : xS} (p n : Nat) (hp : xShP S p n) (x : Int32) : CC mX3_filledPosts 2 0 0 [xR (some (3, p)), xI x] S (aI (xsm (fun k => xfil S (3 * p + k) x) n) S) := by
  refine CC_of mpX3_filledPosts rfl (Nat.le_of_ble_eq_true rfl) ?_
  refine E_iconst (v := 0) dX3_filledPosts_0 (by decide) ?_
  refine E_istore_n dX3_filledPosts_1 rfl (by decide) rfl ?_
  refine E_iconst (v := 0) dX3_filledPosts_2 (by decide) ?_
  refine E_istore_n dX3_filledPosts_3 rfl (by decide) rfl ?_
  exact l_X3_filledPosts p n hp x n 0 (by omega) 0 rfl
theorem l_X3_reasonsIn {S : xS} (p n : Nat) (hp : xShP S p n) (x : Int32) : ∀ (k i : Nat), i + k = 3 → ∀ v, v = xrl S p x i → Ex mX3_reasonsIn 3 0 0 (0, fun _ => 0) (aI (xrs S p n x) S) 17 [some (xR (some (3, p))), some (xI x), some (xI v), some (xI (nI i))] [] S
  | 0, i, hi, v, hv => by
    refine E_iload_n dX3_reasonsIn_17 rfl rfl ?_
    refine E_iconst (v := 3) dX3_reasonsIn_18 (by decide) ?_
    refine E_icmp_ge (tgt := 72) dX3_reasonsIn_19 (by decide) (fun h19 => ?_) (fun h19 => absurd h19 ((fun z => z (nI_le (a := 3) (b := i) (by omega) (by omega)))))
    refine E_iload_n dX3_reasonsIn_72 rfl rfl ?_
    refine E_aload_n dX3_reasonsIn_73 rfl rfl ?_
    refine E_iload_n dX3_reasonsIn_74 rfl rfl ?_
    refine E_callV (m2 := mX3_filledPosts) dX3_reasonsIn_75 kX3_82 mzX3_filledPosts (c_X3_filledPosts p n hp x) rfl ⟨_, _, rfl⟩ rfl rfl (by decide) (xs8 (Nat.le_of_ble_eq_true rfl)) (by first | exact Nat.le_of_ble_eq_true rfl | omega) (by first | exact Nat.le_of_ble_eq_true rfl | omega) ?_
    rintro _ _ ⟨rfl, rfl⟩
    refine E_aload_n dX3_reasonsIn_78 rfl rfl ?_
    refine E_getR dX3_reasonsIn_79 fX3_42 rfl rfl rfl (rP_3 hp) ?_
    refine E_alen dX3_reasonsIn_82 rfl (by decide) (lP_17 hp) (Eq.refl (nI _)) ?_
    refine E_icmp_ge (tgt := 91) dX3_reasonsIn_83 (by decide) (fun h83 => ?_) (fun h83 => ?_)
    · refine E_iconst (v := 0) dX3_reasonsIn_91 (by decide) ?_
      refine E_ior dX3_reasonsIn_92 ?_
      refine E_istore_n dX3_reasonsIn_93 rfl (by decide) rfl ?_
      refine E_iload_n dX3_reasonsIn_94 rfl rfl ?_
      refine E_iret dX3_reasonsIn_95 rfl rfl ?_
      refine ⟨congrArg (fun z => some (xI z)) ?_, rfl⟩; unfold xrs; rw [hv, show i = 3 by omega]; congr 1; split <;> first | rfl | (exfalso; simp only [fa_lt, fa_le] at *; omega)
    · refine E_bipush (v := 32) dX3_reasonsIn_86 (by decide) ?_
      refine E_goto (tgt := 92) dX3_reasonsIn_88 (by decide) ?_
      refine E_ior dX3_reasonsIn_92 ?_
      refine E_istore_n dX3_reasonsIn_93 rfl (by decide) rfl ?_
      refine E_iload_n dX3_reasonsIn_94 rfl rfl ?_
      refine E_iret dX3_reasonsIn_95 rfl rfl ?_
      refine ⟨congrArg (fun z => some (xI z)) ?_, rfl⟩; unfold xrs; rw [hv, show i = 3 by omega]; congr 1; split <;> first | rfl | (exfalso; simp only [fa_lt, fa_le] at *; omega)
  | k + 1, i, hi, v, hv => by
    refine E_iload_n dX3_reasonsIn_17 rfl rfl ?_
    refine E_iconst (v := 3) dX3_reasonsIn_18 (by decide) ?_
    refine E_icmp_ge (tgt := 72) dX3_reasonsIn_19 (by decide) (fun h19 => absurd h19 ((nI_ge (a := i) (b := 3) (by omega) (by omega)))) (fun h19 => ?_)
    refine E_iload_n dX3_reasonsIn_22 rfl rfl ?_
    refine E_aload_n dX3_reasonsIn_23 rfl rfl ?_
    refine E_getR dX3_reasonsIn_24 fX3_11 rfl rfl rfl (rP_4 hp) ?_
    refine E_iload_n dX3_reasonsIn_27 rfl rfl ?_
    refine E_aald dX3_reasonsIn_28 rfl rfl (by decide) (lP_18 hp) (vin (by omega : i < 3) (by omega)) (vnat (by omega : i < 3) (by omega)) (rP_18 hp (by omega : i < 3)) ?_
    refine E_callV (m2 := mX6_isRight) dX3_reasonsIn_29 kX3_75 mzX6_isRight (c_X6_isRight _) rfl ⟨_, _, rfl⟩ rfl rfl (by decide) (xs8 (Nat.le_of_ble_eq_true rfl)) (by first | exact Nat.le_of_ble_eq_true rfl | omega) (by first | exact Nat.le_of_ble_eq_true rfl | omega) ?_
    rintro _ _ ⟨rfl, rfl⟩
    refine E_if_eq (tgt := 39) dX3_reasonsIn_32 (by decide) (fun h32 => ?_) (fun h32 => ?_)
    · refine E_iconst (v := 1) dX3_reasonsIn_39 (by decide) ?_
      refine E_iload_n dX3_reasonsIn_40 rfl rfl ?_
      refine E_ishl dX3_reasonsIn_41 ?_
      refine E_ior dX3_reasonsIn_42 ?_
      refine E_istore_n dX3_reasonsIn_43 rfl (by decide) rfl ?_
      refine E_iload_n dX3_reasonsIn_44 rfl rfl ?_
      refine E_aload_n dX3_reasonsIn_45 rfl rfl ?_
      refine E_getR dX3_reasonsIn_46 fX3_11 rfl rfl rfl (rP_4 hp) ?_
      refine E_iload_n dX3_reasonsIn_49 rfl rfl ?_
      refine E_aald dX3_reasonsIn_50 rfl rfl (by decide) (lP_18 hp) (vin (by omega : i < 3) (by omega)) (vnat (by omega : i < 3) (by omega)) (rP_18 hp (by omega : i < 3)) ?_
      refine E_iload_n dX3_reasonsIn_51 rfl rfl ?_
      refine E_callV (m2 := mX6_isStale) dX3_reasonsIn_52 kX3_79 mzX6_isStale (c_X6_isStale _ _) rfl ⟨_, _, rfl⟩ rfl rfl (by decide) (xs8 (Nat.le_of_ble_eq_true rfl)) (by first | exact Nat.le_of_ble_eq_true rfl | omega) (by first | exact Nat.le_of_ble_eq_true rfl | omega) ?_
      rintro _ _ ⟨rfl, rfl⟩
      refine E_if_eq (tgt := 63) dX3_reasonsIn_55 (by decide) (fun h55 => ?_) (fun h55 => ?_)
      · refine E_iconst (v := 0) dX3_reasonsIn_63 (by decide) ?_
        refine E_ior dX3_reasonsIn_64 ?_
        refine E_istore_n dX3_reasonsIn_65 rfl (by decide) rfl ?_
        refine E_iinc (v := nI (i + 1)) dX3_reasonsIn_66 rfl (nI_i1 i) (by decide) rfl ?_
        refine E_goto (tgt := 17) dX3_reasonsIn_69 (by decide) ?_
        refine l_X3_reasonsIn p n hp x k (i + 1) (by omega) _ ?_
        show _ = (xrl S p x i ||| xra S p i) ||| xrb S p x i
        rw [← hv]
        unfold xra xrb
        split <;> split <;> first | rfl | (exfalso; simp_all)
      · refine E_bipush (v := 8) dX3_reasonsIn_58 (by decide) ?_
        refine E_goto (tgt := 64) dX3_reasonsIn_60 (by decide) ?_
        refine E_ior dX3_reasonsIn_64 ?_
        refine E_istore_n dX3_reasonsIn_65 rfl (by decide) rfl ?_
        refine E_iinc (v := nI (i + 1)) dX3_reasonsIn_66 rfl (nI_i1 i) (by decide) rfl ?_
        refine E_goto (tgt := 17) dX3_reasonsIn_69 (by decide) ?_
        refine l_X3_reasonsIn p n hp x k (i + 1) (by omega) _ ?_
        show _ = (xrl S p x i ||| xra S p i) ||| xrb S p x i
        rw [← hv]
        unfold xra xrb
        split <;> split <;> first | rfl | (exfalso; simp_all)
    · refine E_iconst (v := 0) dX3_reasonsIn_35 (by decide) ?_
      refine E_goto (tgt := 42) dX3_reasonsIn_36 (by decide) ?_
      refine E_ior dX3_reasonsIn_42 ?_
      refine E_istore_n dX3_reasonsIn_43 rfl (by decide) rfl ?_
      refine E_iload_n dX3_reasonsIn_44 rfl rfl ?_
      refine E_aload_n dX3_reasonsIn_45 rfl rfl ?_
      refine E_getR dX3_reasonsIn_46 fX3_11 rfl rfl rfl (rP_4 hp) ?_
      refine E_iload_n dX3_reasonsIn_49 rfl rfl ?_
      refine E_aald dX3_reasonsIn_50 rfl rfl (by decide) (lP_18 hp) (vin (by omega : i < 3) (by omega)) (vnat (by omega : i < 3) (by omega)) (rP_18 hp (by omega : i < 3)) ?_
      refine E_iload_n dX3_reasonsIn_51 rfl rfl ?_
      refine E_callV (m2 := mX6_isStale) dX3_reasonsIn_52 kX3_79 mzX6_isStale (c_X6_isStale _ _) rfl ⟨_, _, rfl⟩ rfl rfl (by decide) (xs8 (Nat.le_of_ble_eq_true rfl)) (by first | exact Nat.le_of_ble_eq_true rfl | omega) (by first | exact Nat.le_of_ble_eq_true rfl | omega) ?_
      rintro _ _ ⟨rfl, rfl⟩
      refine E_if_eq (tgt := 63) dX3_reasonsIn_55 (by decide) (fun h55 => ?_) (fun h55 => ?_)
      · refine E_iconst (v := 0) dX3_reasonsIn_63 (by decide) ?_
        refine E_ior dX3_reasonsIn_64 ?_
        refine E_istore_n dX3_reasonsIn_65 rfl (by decide) rfl ?_
        refine E_iinc (v := nI (i + 1)) dX3_reasonsIn_66 rfl (nI_i1 i) (by decide) rfl ?_
        refine E_goto (tgt := 17) dX3_reasonsIn_69 (by decide) ?_
        refine l_X3_reasonsIn p n hp x k (i + 1) (by omega) _ ?_
        show _ = (xrl S p x i ||| xra S p i) ||| xrb S p x i
        rw [← hv]
        unfold xra xrb
        split <;> split <;> first | rfl | (exfalso; simp_all)
      · refine E_bipush (v := 8) dX3_reasonsIn_58 (by decide) ?_
        refine E_goto (tgt := 64) dX3_reasonsIn_60 (by decide) ?_
        refine E_ior dX3_reasonsIn_64 ?_
        refine E_istore_n dX3_reasonsIn_65 rfl (by decide) rfl ?_
        refine E_iinc (v := nI (i + 1)) dX3_reasonsIn_66 rfl (nI_i1 i) (by decide) rfl ?_
        refine E_goto (tgt := 17) dX3_reasonsIn_69 (by decide) ?_
        refine l_X3_reasonsIn p n hp x k (i + 1) (by omega) _ ?_
        show _ = (xrl S p x i ||| xra S p i) ||| xrb S p x i
        rw [← hv]
        unfold xra xrb
        split <;> split <;> first | rfl | (exfalso; simp_all)
theorem c_X3_reasonsIn {S : xS} (p n : Nat) (hp : xShP S p n) (x : Int32) : CC mX3_reasonsIn 3 0 0 [xR (some (3, p)), xI x] S (aI (xrs S p n x) S) := by
  refine CC_of mpX3_reasonsIn rfl (Nat.le_of_ble_eq_true rfl) ?_
  refine E_iload_n dX3_reasonsIn_0 rfl rfl ?_
  refine E_aload_n dX3_reasonsIn_1 rfl rfl ?_
  refine E_getI dX3_reasonsIn_2 fX3_72 rfl rfl rfl rfl ?_
  refine E_icmp_ge (tgt := 13) dX3_reasonsIn_5 (by decide) (fun h5 => ?_) (fun h5 => ?_)
  · refine E_iconst (v := 0) dX3_reasonsIn_13 (by decide) ?_
    refine E_istore_n dX3_reasonsIn_14 rfl (by decide) rfl ?_
    refine E_iconst (v := 0) dX3_reasonsIn_15 (by decide) ?_
    refine E_istore_n dX3_reasonsIn_16 rfl (by decide) rfl ?_
    refine l_X3_reasonsIn p n hp x 3 0 rfl _ ?_
    unfold xrl; split <;> first | rfl | (exfalso; simp only [fa_lt, fa_le] at *; omega)
  · refine E_bipush (v := 16) dX3_reasonsIn_8 (by decide) ?_
    refine E_goto (tgt := 14) dX3_reasonsIn_10 (by decide) ?_
    refine E_istore_n dX3_reasonsIn_14 rfl (by decide) rfl ?_
    refine E_iconst (v := 0) dX3_reasonsIn_15 (by decide) ?_
    refine E_istore_n dX3_reasonsIn_16 rfl (by decide) rfl ?_
    refine l_X3_reasonsIn p n hp x 3 0 rfl _ ?_
    unfold xrl; split <;> first | rfl | (exfalso; simp only [fa_lt, fa_le] at *; omega)
theorem c_X1_endMinute {S : xS} (p : Nat) : CC mX1_endMinute 2 0 0 [xR (some (1, p))] S (aV (sI (sI (xsf S p (xln S p) (xmn S p)) 1 p 5 0) 1 p 6 0)) := by
  refine CC_of mpX1_endMinute rfl (Nat.le_of_ble_eq_true rfl) ?_
  refine E_aload_n dX1_endMinute_0 rfl rfl ?_
  refine E_aload_n dX1_endMinute_1 rfl rfl ?_
  refine E_callV (m2 := mX1_leastNow) dX1_endMinute_2 kX1_34 mzX1_leastNow (c_X1_leastNow p) rfl ⟨_, _, rfl⟩ rfl rfl (by decide) (xs8 (Nat.le_of_ble_eq_true rfl)) (by first | exact Nat.le_of_ble_eq_true rfl | omega) (by first | exact Nat.le_of_ble_eq_true rfl | omega) ?_
  rintro _ _ ⟨rfl, rfl⟩
  refine E_aload_n dX1_endMinute_5 rfl rfl ?_
  refine E_callV (m2 := mX1_mostNow) dX1_endMinute_6 kX1_38 mzX1_mostNow (c_X1_mostNow p) rfl ⟨_, _, rfl⟩ rfl rfl (by decide) (xs8 (Nat.le_of_ble_eq_true rfl)) (by first | exact Nat.le_of_ble_eq_true rfl | omega) (by first | exact Nat.le_of_ble_eq_true rfl | omega) ?_
  rintro _ _ ⟨rfl, rfl⟩
  refine E_callV (m2 := mX1_startFrom) dX1_endMinute_9 kX1_41 mzX1_startFrom (c_X1_startFrom p _ _) rfl ⟨_, _, rfl⟩ rfl rfl (by decide) (xs8 (Nat.le_of_ble_eq_true rfl)) (by first | exact Nat.le_of_ble_eq_true rfl | omega) (by first | exact Nat.le_of_ble_eq_true rfl | omega) ?_
  rintro _ _ ⟨rfl, rfl⟩
  refine E_aload_n dX1_endMinute_12 rfl rfl ?_
  refine E_iconst (v := 0) dX1_endMinute_13 (by decide) ?_
  refine E_putI dX1_endMinute_14 fX1_45 rfl rfl rfl rfl rfl ?_
  refine E_aload_n dX1_endMinute_17 rfl rfl ?_
  refine E_iconst (v := 0) dX1_endMinute_18 (by decide) ?_
  refine E_putI dX1_endMinute_19 fX1_48 rfl rfl rfl rfl rfl ?_
  refine E_vret dX1_endMinute_22 rfl ?_
  exact ⟨rfl, rfl⟩
theorem c_X3_endMinute {S : xS} (p n : Nat) (hp : xShP S p n) (x : Int32) : CC mX3_endMinute 4 0 0 [xR (some (3, p)), xI x] S (aV (sI (sI (xsf (sI S 3 p 9 ((gI S 3 p 9) + (if xrs S p n x = 0 then 0 else 1))) p (xln S p) (xmn S p)) 1 p 5 0) 1 p 6 0)) := by
  refine CC_of mpX3_endMinute rfl (Nat.le_of_ble_eq_true rfl) ?_
  refine E_aload_n dX3_endMinute_0 rfl rfl ?_
  refine E_dup dX3_endMinute_1 rfl ?_
  refine E_getI dX3_endMinute_2 fX3_86 rfl rfl rfl rfl ?_
  refine E_aload_n dX3_endMinute_5 rfl rfl ?_
  refine E_iload_n dX3_endMinute_6 rfl rfl ?_
  refine E_callV (m2 := mX3_reasonsIn) dX3_endMinute_7 kX3_89 mzX3_reasonsIn (c_X3_reasonsIn p n hp x) rfl ⟨_, _, rfl⟩ rfl rfl (by decide) (xs8 (Nat.le_of_ble_eq_true rfl)) (by first | exact Nat.le_of_ble_eq_true rfl | omega) (by first | exact Nat.le_of_ble_eq_true rfl | omega) ?_
  rintro _ _ ⟨rfl, rfl⟩
  refine E_if_eq (tgt := 17) dX3_endMinute_10 (by decide) (fun h10 => ?_) (fun h10 => ?_)
  · refine E_iconst (v := 0) dX3_endMinute_17 (by decide) ?_
    refine E_iadd dX3_endMinute_18 ?_
    refine E_putI dX3_endMinute_19 fX3_86 rfl rfl rfl rfl rfl ?_
    refine E_aload_n dX3_endMinute_22 rfl rfl ?_
    refine E_getR dX3_endMinute_23 fX3_20 rfl rfl rfl (rP_5 hp) ?_
    refine E_callV (m2 := mX1_endMinute) dX3_endMinute_26 kX3_92 mzX1_endMinute (c_X1_endMinute p) rfl ⟨_, _, rfl⟩ rfl rfl (by decide) (xs8 (Nat.le_of_ble_eq_true rfl)) (by first | exact Nat.le_of_ble_eq_true rfl | omega) (by first | exact Nat.le_of_ble_eq_true rfl | omega) ?_
    rintro _ _ ⟨rfl, rfl⟩
    refine E_vret dX3_endMinute_29 rfl ?_
    refine ⟨rfl, ?_⟩; first | rw [if_pos h10]; rfl | rw [if_neg h10]; rfl
  · refine E_iconst (v := 1) dX3_endMinute_13 (by decide) ?_
    refine E_goto (tgt := 18) dX3_endMinute_14 (by decide) ?_
    refine E_iadd dX3_endMinute_18 ?_
    refine E_putI dX3_endMinute_19 fX3_86 rfl rfl rfl rfl rfl ?_
    refine E_aload_n dX3_endMinute_22 rfl rfl ?_
    refine E_getR dX3_endMinute_23 fX3_20 rfl rfl rfl (rP_5 hp) ?_
    refine E_callV (m2 := mX1_endMinute) dX3_endMinute_26 kX3_92 mzX1_endMinute (c_X1_endMinute p) rfl ⟨_, _, rfl⟩ rfl rfl (by decide) (xs8 (Nat.le_of_ble_eq_true rfl)) (by first | exact Nat.le_of_ble_eq_true rfl | omega) (by first | exact Nat.le_of_ble_eq_true rfl | omega) ?_
    rintro _ _ ⟨rfl, rfl⟩
    refine E_vret dX3_endMinute_29 rfl ?_
    refine ⟨rfl, ?_⟩; first | rw [if_pos h10]; rfl | rw [if_neg h10]; rfl
end
section
/-! Ticket's larger methods -/
def xml (S : xS) (t : Nat) (x : Int32) : Int32 := if (gI S 7 t 6) = 0 ∨ (¬ (gI S 7 t 2) = 1 ∧ (gR S 7 t 4) = none) then 0 else (gI S 7 t 7) + (gI S 7 t 8) - x - 1
def xow (b : Int32) : Int32 := if 0 < b then (b + 15 - 1) / 15 * 20 else 0
def xpass (S : xS) (c : Nat) (b x : Int32) : xS := if b = 0 then (sI S 0 c 5 ((gI S 0 c 5) + x)) else (sI S 0 c 6 ((gI S 0 c 6) + x))
/-- a ticket's club is told that it came or went -/
def xpc (S : xS) (t : Nat) (x : Int32) : xS := match (gR S 7 t 4) with
  | none => S
  | some q => xpass S q.2 (gI S 7 t 5) x
/-- a ticket leaves its post -/
def xlp (S : xS) (t : Nat) (x : Int32) : xS := match (gR S 7 t 12) with
  | none => S
  | some q => (sI (sR (sR S 4 q.2 0 none) 7 t 12 none) 7 t 13 x)
def xci (S : xS) (t : Nat) (x w : Int32) : xS := (sI (sI (sI (sI S 7 t 6 1) 7 t 7 x) 7 t 8 w) 7 t 9 ((gI S 7 t 9) + 1))
def xgo (S : xS) (t : Nat) (w : Int32) : xS := (sI (sI S 7 t 6 0) 7 t 10 ((gI S 7 t 10) + w))
theorem c_X7_owes {S : xS} (t : Nat) (x : Int32) : CC mX7_owes 2 0 0 [xR (some (7, t)), xI x] S (aI (xow (-(xml S t x))) S) := by
  refine CC_of mpX7_owes rfl (Nat.le_of_ble_eq_true rfl) ?_
  refine E_aload_n dX7_owes_0 rfl rfl ?_
  refine E_iload_n dX7_owes_1 rfl rfl ?_
  refine E_callV (m2 := mX7_minutesLeft) dX7_owes_2 kX7_80 mzX7_minutesLeft (c_X7_minutesLeft t x) rfl ⟨_, _, rfl⟩ rfl rfl (by decide) (xs8 (Nat.le_of_ble_eq_true rfl)) (by first | exact Nat.le_of_ble_eq_true rfl | omega) (by first | exact Nat.le_of_ble_eq_true rfl | omega) ?_
  rintro _ _ ⟨rfl, rfl⟩; change Ex _ _ _ _ _ _ _ _ [xI (xml S t x)] S; generalize xml S t x = z
  refine E_ineg dX7_owes_5 ?_
  refine E_istore_n dX7_owes_6 rfl (by decide) rfl ?_
  refine E_iload_n dX7_owes_7 rfl rfl ?_
  refine E_if_le (tgt := 26) dX7_owes_8 (by decide) (fun h8 => ?_) (fun h8 => ?_)
  · refine E_iconst (v := 0) dX7_owes_26 (by decide) ?_
    refine E_iret dX7_owes_27 rfl rfl ?_
    unfold xow; refine ⟨congrArg (fun z => some (xI z)) ?_, rfl⟩; (try split) <;> first | rfl | (exfalso; simp only [fa_lt, fa_le, fa_eq] at *; omega)
  · refine E_iload_n dX7_owes_11 rfl rfl ?_
    refine E_bipush (v := 15) dX7_owes_12 (by decide) ?_
    refine E_iadd dX7_owes_14 ?_
    refine E_iconst (v := 1) dX7_owes_15 (by decide) ?_
    refine E_isub dX7_owes_16 ?_
    refine E_bipush (v := 15) dX7_owes_17 (by decide) ?_
    refine E_idiv dX7_owes_19 (by decide) ?_
    refine E_bipush (v := 20) dX7_owes_20 (by decide) ?_
    refine E_imul dX7_owes_22 ?_
    refine E_goto (tgt := 27) dX7_owes_23 (by decide) ?_
    refine E_iret dX7_owes_27 rfl rfl ?_
    unfold xow; refine ⟨congrArg (fun z => some (xI z)) ?_, rfl⟩; (try split) <;> first | rfl | (exfalso; simp only [fa_lt, fa_le, fa_eq] at *; omega)
theorem c_X7_isItsTime_n {S : xS} (t : Nat) (x : Int32) (hc : (gR S 7 t 4) = none) : CC mX7_isItsTime 2 0 0 [xR (some (7, t)), xI x] S (aI (if ¬ (gI S 7 t 2) = 4 ∨ (gI S 7 t 9) = 0 then 1 else 0) S) := by
  refine CC_of mpX7_isItsTime rfl (Nat.le_of_ble_eq_true rfl) ?_
  refine E_aload_n dX7_isItsTime_0 rfl rfl ?_
  refine E_getR dX7_isItsTime_1 fX7_34 rfl rfl rfl hc ?_
  refine E_ifnull (tgt := 16) dX7_isItsTime_4 (by decide) (fun h4 => ?_) (fun q4 h4 => ?_)
  · refine E_aload_n dX7_isItsTime_16 rfl rfl ?_
    refine E_getI dX7_isItsTime_17 fX7_28 rfl rfl rfl rfl ?_
    refine E_iconst (v := 4) dX7_isItsTime_20 (by decide) ?_
    refine E_icmp_ne (tgt := 31) dX7_isItsTime_21 (by decide) (fun h21 => ?_) (fun h21 => ?_)
    · refine E_iconst (v := 1) dX7_isItsTime_31 (by decide) ?_
      refine E_goto (tgt := 36) dX7_isItsTime_32 (by decide) ?_
      refine E_iret dX7_isItsTime_36 rfl rfl ?_
      refine ⟨congrArg (fun z => some (xI z)) ?_, rfl⟩; simp_all
    · refine E_aload_n dX7_isItsTime_24 rfl rfl ?_
      refine E_getI dX7_isItsTime_25 fX7_48 rfl rfl rfl rfl ?_
      refine E_if_ne (tgt := 35) dX7_isItsTime_28 (by decide) (fun h28 => ?_) (fun h28 => ?_)
      · refine E_iconst (v := 0) dX7_isItsTime_35 (by decide) ?_
        refine E_iret dX7_isItsTime_36 rfl rfl ?_
        refine ⟨congrArg (fun z => some (xI z)) ?_, rfl⟩; simp_all
      · refine E_iconst (v := 1) dX7_isItsTime_31 (by decide) ?_
        refine E_goto (tgt := 36) dX7_isItsTime_32 (by decide) ?_
        refine E_iret dX7_isItsTime_36 rfl rfl ?_
        refine ⟨congrArg (fun z => some (xI z)) ?_, rfl⟩; simp_all
  · cases h4
theorem c_X7_isItsTime_s {S : xS} (t c : Nat) (x : Int32) (hc : (gR S 7 t 4) = some (0, c)) : CC mX7_isItsTime 2 0 0 [xR (some (7, t)), xI x] S (aI (if (gI S 0 c 2) ≤ x ∧ x < (gI S 0 c 4) then 1 else 0) S) := by
  refine CC_of mpX7_isItsTime rfl (Nat.le_of_ble_eq_true rfl) ?_
  refine E_aload_n dX7_isItsTime_0 rfl rfl ?_
  refine E_getR dX7_isItsTime_1 fX7_34 rfl rfl rfl hc ?_
  refine E_ifnull (tgt := 16) dX7_isItsTime_4 (by decide) (fun h4 => ?_) (fun q4 h4 => ?_)
  · cases h4
  · refine E_aload_n dX7_isItsTime_7 rfl rfl ?_
    refine E_getR dX7_isItsTime_8 fX7_34 rfl rfl rfl hc ?_
    refine E_iload_n dX7_isItsTime_11 rfl rfl ?_
    refine E_callV (m2 := mX0_isThere) dX7_isItsTime_12 kX7_42 mzX0_isThere (c_X0_isThere c x) rfl ⟨_, _, rfl⟩ rfl rfl (by decide) (xs8 (Nat.le_of_ble_eq_true rfl)) (by first | exact Nat.le_of_ble_eq_true rfl | omega) (by first | exact Nat.le_of_ble_eq_true rfl | omega) ?_
    rintro _ _ ⟨rfl, rfl⟩
    refine E_iret dX7_isItsTime_15 rfl (xB_if _).n ?_
    exact ⟨rfl, rfl⟩
theorem c_X7_lacksTeacher_n {S : xS} (t : Nat) (hc : (gR S 7 t 4) = none) : CC mX7_lacksTeacher 1 0 0 [xR (some (7, t))] S (aI 0 S) := by
  refine CC_of mpX7_lacksTeacher rfl (Nat.le_of_ble_eq_true rfl) ?_
  refine E_aload_n dX7_lacksTeacher_0 rfl rfl ?_
  refine E_getI dX7_lacksTeacher_1 fX7_28 rfl rfl rfl rfl ?_
  refine E_iconst (v := 3) dX7_lacksTeacher_4 (by decide) ?_
  refine E_icmp_ne (tgt := 53) dX7_lacksTeacher_5 (by decide) (fun h5 => ?_) (fun h5 => ?_)
  · refine E_iconst (v := 0) dX7_lacksTeacher_53 (by decide) ?_
    refine E_iret dX7_lacksTeacher_54 rfl rfl ?_
    exact ⟨rfl, rfl⟩
  · refine E_aload_n dX7_lacksTeacher_8 rfl rfl ?_
    refine E_getR dX7_lacksTeacher_9 fX7_34 rfl rfl rfl hc ?_
    refine E_ifnull (tgt := 53) dX7_lacksTeacher_12 (by decide) (fun h12 => ?_) (fun q12 h12 => ?_)
    · refine E_iconst (v := 0) dX7_lacksTeacher_53 (by decide) ?_
      refine E_iret dX7_lacksTeacher_54 rfl rfl ?_
      exact ⟨rfl, rfl⟩
    · cases h12
theorem c_X7_lacksTeacher_s {S : xS} (t c : Nat) (hc : (gR S 7 t 4) = some (0, c)) : CC mX7_lacksTeacher 1 0 0 [xR (some (7, t))] S (aI (if (gI S 7 t 2) = 3 ∧ (gI S 7 t 5) = 0 ∧ (gI S 0 c 3) * (gI S 0 c 6) < (gI S 0 c 5) + 1 then 1 else 0) S) := by
  refine CC_of mpX7_lacksTeacher rfl (Nat.le_of_ble_eq_true rfl) ?_
  refine E_aload_n dX7_lacksTeacher_0 rfl rfl ?_
  refine E_getI dX7_lacksTeacher_1 fX7_28 rfl rfl rfl rfl ?_
  refine E_iconst (v := 3) dX7_lacksTeacher_4 (by decide) ?_
  refine E_icmp_ne (tgt := 53) dX7_lacksTeacher_5 (by decide) (fun h5 => ?_) (fun h5 => ?_)
  · refine E_iconst (v := 0) dX7_lacksTeacher_53 (by decide) ?_
    refine E_iret dX7_lacksTeacher_54 rfl rfl ?_
    refine ⟨congrArg (fun z => some (xI z)) ?_, rfl⟩; (try split) <;> first | rfl | (exfalso; simp only [fa_lt, fa_le, fa_eq] at *; omega)
  · refine E_aload_n dX7_lacksTeacher_8 rfl rfl ?_
    refine E_getR dX7_lacksTeacher_9 fX7_34 rfl rfl rfl hc ?_
    refine E_ifnull (tgt := 53) dX7_lacksTeacher_12 (by decide) (fun h12 => ?_) (fun q12 h12 => ?_)
    · cases h12
    · refine E_aload_n dX7_lacksTeacher_15 rfl rfl ?_
      refine E_getI dX7_lacksTeacher_16 fX7_38 rfl rfl rfl rfl ?_
      refine E_if_ne (tgt := 53) dX7_lacksTeacher_19 (by decide) (fun h19 => ?_) (fun h19 => ?_)
      · refine E_iconst (v := 0) dX7_lacksTeacher_53 (by decide) ?_
        refine E_iret dX7_lacksTeacher_54 rfl rfl ?_
        refine ⟨congrArg (fun z => some (xI z)) ?_, rfl⟩; (try split) <;> first | rfl | (exfalso; simp only [fa_lt, fa_le, fa_eq] at *; omega)
      · refine E_aload_n dX7_lacksTeacher_22 rfl rfl ?_
        refine E_getR dX7_lacksTeacher_23 fX7_34 rfl rfl rfl hc ?_
        refine E_getI dX7_lacksTeacher_26 fX7_51 rfl rfl rfl rfl ?_
        refine E_iconst (v := 1) dX7_lacksTeacher_29 (by decide) ?_
        refine E_iadd dX7_lacksTeacher_30 ?_
        refine E_aload_n dX7_lacksTeacher_31 rfl rfl ?_
        refine E_getR dX7_lacksTeacher_32 fX7_34 rfl rfl rfl hc ?_
        refine E_getI dX7_lacksTeacher_35 fX7_54 rfl rfl rfl rfl ?_
        refine E_aload_n dX7_lacksTeacher_38 rfl rfl ?_
        refine E_getR dX7_lacksTeacher_39 fX7_34 rfl rfl rfl hc ?_
        refine E_getI dX7_lacksTeacher_42 fX7_57 rfl rfl rfl rfl ?_
        refine E_imul dX7_lacksTeacher_45 ?_
        refine E_icmp_le (tgt := 53) dX7_lacksTeacher_46 (by decide) (fun h46 => ?_) (fun h46 => ?_)
        · refine E_iconst (v := 0) dX7_lacksTeacher_53 (by decide) ?_
          refine E_iret dX7_lacksTeacher_54 rfl rfl ?_
          refine ⟨congrArg (fun z => some (xI z)) ?_, rfl⟩; (try split) <;> first | rfl | (exfalso; simp only [fa_lt, fa_le, fa_eq] at *; omega)
        · refine E_iconst (v := 1) dX7_lacksTeacher_49 (by decide) ?_
          refine E_goto (tgt := 54) dX7_lacksTeacher_50 (by decide) ?_
          refine E_iret dX7_lacksTeacher_54 rfl rfl ?_
          refine ⟨congrArg (fun z => some (xI z)) ?_, rfl⟩; (try split) <;> first | rfl | (exfalso; simp only [fa_lt, fa_le, fa_eq] at *; omega)
theorem c_X7_comeIn {S : xS} (t : Nat) (x : Int32) (hc : ∀ q, (gR S 7 t 4) = some q → q.1 = 0) : CC mX7_comeIn 2 0 0 [xR (some (7, t)), xI x] S (aV (xpc (xci S t x (match (gR S 7 t 4) with | none => (gI S 7 t 3) | some q => (gI S 0 q.2 4) - x)) t 1)) := by
  refine CC_of mpX7_comeIn rfl (Nat.le_of_ble_eq_true rfl) ?_
  cases hq : (gR S 7 t 4) with
  | none =>
    refine E_aload_n dX7_comeIn_0 rfl rfl ?_
    refine E_iconst (v := 1) dX7_comeIn_1 (by decide) ?_
    refine E_putI dX7_comeIn_2 fX7_60 rfl rfl rfl rfl rfl ?_
    refine E_aload_n dX7_comeIn_5 rfl rfl ?_
    refine E_iload_n dX7_comeIn_6 rfl rfl ?_
    refine E_putI dX7_comeIn_7 fX7_9 rfl rfl rfl rfl rfl ?_
    refine E_aload_n dX7_comeIn_10 rfl rfl ?_
    refine E_aload_n dX7_comeIn_11 rfl rfl ?_
    refine E_getR dX7_comeIn_12 fX7_34 rfl rfl rfl hq ?_
    refine E_ifnull (tgt := 30) dX7_comeIn_15 (by decide) (fun h15 => ?_) (fun q15 h15 => ?_)
    · refine E_aload_n dX7_comeIn_30 rfl rfl ?_
      refine E_getI dX7_comeIn_31 fX7_31 rfl rfl rfl rfl ?_
      refine E_putI dX7_comeIn_34 fX7_66 rfl rfl rfl rfl rfl ?_
      refine E_aload_n dX7_comeIn_37 rfl rfl ?_
      refine E_dup dX7_comeIn_38 rfl ?_
      refine E_getI dX7_comeIn_39 fX7_48 rfl rfl rfl rfl ?_
      refine E_iconst (v := 1) dX7_comeIn_42 (by decide) ?_
      refine E_iadd dX7_comeIn_43 ?_
      refine E_putI dX7_comeIn_44 fX7_48 rfl rfl rfl rfl rfl ?_
      refine E_aload_n dX7_comeIn_47 rfl rfl ?_
      refine E_getR dX7_comeIn_48 fX7_34 rfl rfl rfl hq ?_
      refine E_ifnull (tgt := 66) dX7_comeIn_51 (by decide) (fun h51 => ?_) (fun q51 h51 => ?_)
      · refine E_vret dX7_comeIn_66 rfl ?_
        exact ⟨rfl, (by unfold xpc; rw [show gR (xci S t x (gI S 7 t 3)) 7 t 4 = none from hq]; rfl)⟩
      · cases h51
    · cases h15
  | some q =>
    obtain ⟨k, c⟩ := q
    have hk : k = 0 := hc _ hq
    subst hk
    refine E_aload_n dX7_comeIn_0 rfl rfl ?_
    refine E_iconst (v := 1) dX7_comeIn_1 (by decide) ?_
    refine E_putI dX7_comeIn_2 fX7_60 rfl rfl rfl rfl rfl ?_
    refine E_aload_n dX7_comeIn_5 rfl rfl ?_
    refine E_iload_n dX7_comeIn_6 rfl rfl ?_
    refine E_putI dX7_comeIn_7 fX7_9 rfl rfl rfl rfl rfl ?_
    refine E_aload_n dX7_comeIn_10 rfl rfl ?_
    refine E_aload_n dX7_comeIn_11 rfl rfl ?_
    refine E_getR dX7_comeIn_12 fX7_34 rfl rfl rfl hq ?_
    refine E_ifnull (tgt := 30) dX7_comeIn_15 (by decide) (fun h15 => ?_) (fun q15 h15 => ?_)
    · cases h15
    · refine E_aload_n dX7_comeIn_18 rfl rfl ?_
      refine E_getR dX7_comeIn_19 fX7_34 rfl rfl rfl hq ?_
      refine E_getI dX7_comeIn_22 fX7_63 rfl rfl rfl rfl ?_
      refine E_iload_n dX7_comeIn_25 rfl rfl ?_
      refine E_isub dX7_comeIn_26 ?_
      refine E_goto (tgt := 34) dX7_comeIn_27 (by decide) ?_
      refine E_putI dX7_comeIn_34 fX7_66 rfl rfl rfl rfl rfl ?_
      refine E_aload_n dX7_comeIn_37 rfl rfl ?_
      refine E_dup dX7_comeIn_38 rfl ?_
      refine E_getI dX7_comeIn_39 fX7_48 rfl rfl rfl rfl ?_
      refine E_iconst (v := 1) dX7_comeIn_42 (by decide) ?_
      refine E_iadd dX7_comeIn_43 ?_
      refine E_putI dX7_comeIn_44 fX7_48 rfl rfl rfl rfl rfl ?_
      refine E_aload_n dX7_comeIn_47 rfl rfl ?_
      refine E_getR dX7_comeIn_48 fX7_34 rfl rfl rfl hq ?_
      refine E_ifnull (tgt := 66) dX7_comeIn_51 (by decide) (fun h51 => ?_) (fun q51 h51 => ?_)
      · cases h51
      · refine E_aload_n dX7_comeIn_54 rfl rfl ?_
        refine E_getR dX7_comeIn_55 fX7_34 rfl rfl rfl hq ?_
        refine E_aload_n dX7_comeIn_58 rfl rfl ?_
        refine E_getI dX7_comeIn_59 fX7_38 rfl rfl rfl rfl ?_
        refine E_iconst (v := 1) dX7_comeIn_62 (by decide) ?_
        refine E_callV (m2 := mX0_pass) dX7_comeIn_63 kX7_69 mzX0_pass (c_X0_pass c _ 1) rfl ⟨_, _, rfl⟩ rfl rfl (by decide) (xs8 (Nat.le_of_ble_eq_true rfl)) (by first | exact Nat.le_of_ble_eq_true rfl | omega) (by first | exact Nat.le_of_ble_eq_true rfl | omega) ?_
        rintro _ _ ⟨rfl, rfl⟩
        refine E_vret dX7_comeIn_66 rfl ?_
        exact ⟨rfl, (by unfold xpc; rw [show gR (xci S t x _) 7 t 4 = some (0, c) from hq]; rfl)⟩
theorem c_X7_leavePost {S : xS} (t : Nat) (x : Int32) (hp : ∀ q, (gR S 7 t 12) = some q → q.1 = 4) : CC mX7_leavePost 1 0 0 [xR (some (7, t)), xI x] S (aV (xlp S t x)) := by
  unfold xlp
  cases hq : (gR S 7 t 12) with
  | none => exact c_X7_leavePost_n t x hq
  | some q =>
    obtain ⟨k, i⟩ := q
    have hk : k = 4 := hp _ hq
    subst hk
    exact c_X7_leavePost_s t i x hq
theorem xpass_post {S : xS} {c t j : Nat} {b x : Int32} : gR (xpass S c b x) 7 t j = gR S 7 t j := by unfold xpass; split <;> rfl
theorem xpc_post {S : xS} {t u j : Nat} {x : Int32} : gR (xpc S t x) 7 u j = gR S 7 u j := by
  unfold xpc
  split
  · rfl
  · exact xpass_post
theorem c_X7_goOut {S : xS} (t : Nat) (x w : Int32) (hc : ∀ q, (gR S 7 t 4) = some q → q.1 = 0) (hp : ∀ q, (gR S 7 t 12) = some q → q.1 = 4) : CC mX7_goOut 2 0 0 [xR (some (7, t)), xI x, xI w] S (aV (xlp (xpc (xgo S t w) t (-1)) t x)) := by
  refine CC_of mpX7_goOut rfl (Nat.le_of_ble_eq_true rfl) ?_
  cases hq : (gR S 7 t 4) with
  | none =>
    have e : xpc (xgo S t w) t (-1) = xgo S t w := by unfold xpc; rw [show gR (xgo S t w) 7 t 4 = none from hq]
    rw [e]
    refine E_aload_n dX7_goOut_0 rfl rfl ?_
    refine E_iconst (v := 0) dX7_goOut_1 (by decide) ?_
    refine E_putI dX7_goOut_2 fX7_60 rfl rfl rfl rfl rfl ?_
    refine E_aload_n dX7_goOut_5 rfl rfl ?_
    refine E_dup dX7_goOut_6 rfl ?_
    refine E_getI dX7_goOut_7 fX7_73 rfl rfl rfl rfl ?_
    refine E_iload_n dX7_goOut_10 rfl rfl ?_
    refine E_iadd dX7_goOut_11 ?_
    refine E_putI dX7_goOut_12 fX7_73 rfl rfl rfl rfl rfl ?_
    refine E_aload_n dX7_goOut_15 rfl rfl ?_
    refine E_getR dX7_goOut_16 fX7_34 rfl rfl rfl hq ?_
    refine E_ifnull (tgt := 34) dX7_goOut_19 (by decide) (fun h19 => ?_) (fun q19 h19 => ?_)
    · refine E_aload_n dX7_goOut_34 rfl rfl ?_
      refine E_iload_n dX7_goOut_35 rfl rfl ?_
      refine E_callV (m2 := mX7_leavePost) dX7_goOut_36 kX7_76 mzX7_leavePost (c_X7_leavePost (S := xgo S t w) t x hp) rfl ⟨_, _, rfl⟩ rfl rfl (by decide) (xs8 (Nat.le_of_ble_eq_true rfl)) (by first | exact Nat.le_of_ble_eq_true rfl | omega) (by first | exact Nat.le_of_ble_eq_true rfl | omega) ?_
      rintro _ _ ⟨rfl, rfl⟩
      refine E_vret dX7_goOut_39 rfl ?_
      exact ⟨rfl, rfl⟩
    · cases h19
  | some q =>
    obtain ⟨k, c⟩ := q
    have hk : k = 0 := hc _ hq
    subst hk
    have e : xpc (xgo S t w) t (-1) = xpass (xgo S t w) c (gI S 7 t 5) (-1) := by unfold xpc; rw [show gR (xgo S t w) 7 t 4 = some (0, c) from hq]; rfl
    rw [e]
    refine E_aload_n dX7_goOut_0 rfl rfl ?_
    refine E_iconst (v := 0) dX7_goOut_1 (by decide) ?_
    refine E_putI dX7_goOut_2 fX7_60 rfl rfl rfl rfl rfl ?_
    refine E_aload_n dX7_goOut_5 rfl rfl ?_
    refine E_dup dX7_goOut_6 rfl ?_
    refine E_getI dX7_goOut_7 fX7_73 rfl rfl rfl rfl ?_
    refine E_iload_n dX7_goOut_10 rfl rfl ?_
    refine E_iadd dX7_goOut_11 ?_
    refine E_putI dX7_goOut_12 fX7_73 rfl rfl rfl rfl rfl ?_
    refine E_aload_n dX7_goOut_15 rfl rfl ?_
    refine E_getR dX7_goOut_16 fX7_34 rfl rfl rfl hq ?_
    refine E_ifnull (tgt := 34) dX7_goOut_19 (by decide) (fun h19 => ?_) (fun q19 h19 => ?_)
    · cases h19
    · refine E_aload_n dX7_goOut_22 rfl rfl ?_
      refine E_getR dX7_goOut_23 fX7_34 rfl rfl rfl hq ?_
      refine E_aload_n dX7_goOut_26 rfl rfl ?_
      refine E_getI dX7_goOut_27 fX7_38 rfl rfl rfl rfl ?_
      refine E_iconst (v := -1) dX7_goOut_30 (by decide) ?_
      refine E_callV (m2 := mX0_pass) dX7_goOut_31 kX7_69 mzX0_pass (c_X0_pass c _ (-1)) rfl ⟨_, _, rfl⟩ rfl rfl (by decide) (xs8 (Nat.le_of_ble_eq_true rfl)) (by first | exact Nat.le_of_ble_eq_true rfl | omega) (by first | exact Nat.le_of_ble_eq_true rfl | omega) ?_
      rintro _ _ ⟨rfl, rfl⟩
      refine E_aload_n dX7_goOut_34 rfl rfl ?_
      refine E_iload_n dX7_goOut_35 rfl rfl ?_
      refine E_callV (m2 := mX7_leavePost) dX7_goOut_36 kX7_76 mzX7_leavePost (c_X7_leavePost (S := xpass (xgo S t w) c (gI S 7 t 5) (-1)) t x (fun q h => hp q (by rw [xpass_post] at h; exact h))) rfl ⟨_, _, rfl⟩ rfl rfl (by decide) (xs8 (Nat.le_of_ble_eq_true rfl)) (by first | exact Nat.le_of_ble_eq_true rfl | omega) (by first | exact Nat.le_of_ble_eq_true rfl | omega) ?_
      rintro _ _ ⟨rfl, rfl⟩
      refine E_vret dX7_goOut_39 rfl ?_
      exact ⟨rfl, rfl⟩
theorem c_X0_clashesWith {S : xS} (c k0 i P1 P2 : Nat) (hk : xCls k0 = true) (hk2 : xk k0 = 0) (h1 : gR S 0 c 0 = some (3, P1)) (h2 : gR S k0 i 0 = some (3, P2)) : CC mX0_clashesWith 1 0 0 [xR (some (0, c)), xR (some (k0, i))] S (aI (if P1 = P2 ∧ ¬ (gI S 0 c 1) &&& gI S k0 i 1 = 0 ∧ (if (gI S 0 c 2) < gI S k0 i 2 then gI S k0 i 2 else (gI S 0 c 2)) < (if gI S k0 i 4 < (gI S 0 c 4) then gI S k0 i 4 else (gI S 0 c 4)) then 1 else 0) S) := by
  refine CC_of mpX0_clashesWith rfl (Nat.le_of_ble_eq_true rfl) ?_
  refine E_aload_n dX0_clashesWith_0 rfl rfl ?_
  refine E_getR dX0_clashesWith_1 fX0_7 rfl rfl rfl h1 ?_
  refine E_aload_n dX0_clashesWith_4 rfl rfl ?_
  refine E_getR dX0_clashesWith_5 fX0_7 hk hk2 rfl h2 ?_
  refine E_acmp_ne (tgt := 52) dX0_clashesWith_8 (by decide) (by intro q h; cases h; simp) (by intro q h; cases h; simp) (fun h8 => ?_) (fun h8 => ?_)
  · rw [if_neg (fun z => h8 (by rw [z.1]))]
    refine E_iconst (v := 0) dX0_clashesWith_52 (by decide) ?_
    refine E_iret dX0_clashesWith_53 rfl rfl ?_
    exact ⟨rfl, rfl⟩
  · have h8 : P1 = P2 := by cases h8; rfl
    refine E_aload_n dX0_clashesWith_11 rfl rfl ?_
    refine E_getI dX0_clashesWith_12 fX0_13 rfl rfl rfl rfl ?_
    refine E_aload_n dX0_clashesWith_15 rfl rfl ?_
    refine E_getI dX0_clashesWith_16 fX0_13 hk hk2 rfl rfl ?_
    refine E_iand dX0_clashesWith_19 ?_
    refine E_if_eq (tgt := 52) dX0_clashesWith_20 (by decide) (fun h20 => ?_) (fun h20 => ?_)
    · rw [if_neg (fun z => z.2.1 h20)]
      refine E_iconst (v := 0) dX0_clashesWith_52 (by decide) ?_
      refine E_iret dX0_clashesWith_53 rfl rfl ?_
      exact ⟨rfl, rfl⟩
    · refine E_aload_n dX0_clashesWith_23 rfl rfl ?_
      refine E_getI dX0_clashesWith_24 fX0_17 rfl rfl rfl rfl ?_
      refine E_aload_n dX0_clashesWith_27 rfl rfl ?_
      refine E_getI dX0_clashesWith_28 fX0_17 hk hk2 rfl rfl ?_
      refine E_max dX0_clashesWith_31 kX0_26 (by decide) (xs8 (Nat.le_of_ble_eq_true rfl)) ?_
      refine E_aload_n dX0_clashesWith_34 rfl rfl ?_
      refine E_getI dX0_clashesWith_35 fX0_20 rfl rfl rfl rfl ?_
      refine E_aload_n dX0_clashesWith_38 rfl rfl ?_
      refine E_getI dX0_clashesWith_39 fX0_20 hk hk2 rfl rfl ?_
      refine E_min dX0_clashesWith_42 kX0_32 (by decide) (xs8 (Nat.le_of_ble_eq_true rfl)) ?_
      refine E_icmp_ge (tgt := 52) dX0_clashesWith_45 (by decide) (fun h45 => ?_) (fun h45 => ?_)
      · rw [if_neg (fun z => Int32.not_lt.mpr h45 z.2.2)]
        refine E_iconst (v := 0) dX0_clashesWith_52 (by decide) ?_
        refine E_iret dX0_clashesWith_53 rfl rfl ?_
        exact ⟨rfl, rfl⟩
      · rw [if_pos ⟨h8, h20, Int32.not_le.mp h45⟩]
        refine E_iconst (v := 1) dX0_clashesWith_48 (by decide) ?_
        refine E_goto (tgt := 53) dX0_clashesWith_49 (by decide) ?_
        refine E_iret dX0_clashesWith_53 rfl rfl ?_
        exact ⟨rfl, rfl⟩
/-! the pump -/
/-- the cheapest hour that is free, of the first n: the earliest of them -/
def xbst (pr tk : Nat → Int32) : Nat → Option Nat
  | 0 => none
  | h + 1 => if tk h = 0 then (match xbst pr tk h with
      | none => some h
      | some b => if pr h < pr b then some h else some b)
    else xbst pr tk h
def xon (o : Option Nat) : Int32 := match o with
  | none => -1
  | some b => nI b
theorem xbst_lt (pr tk : Nat → Int32) : ∀ n b, xbst pr tk n = some b → b < n
  | 0, b, h => by cases h
  | n + 1, b, h => by
    unfold xbst at h
    split at h
    · split at h
      · cases h; omega
      · rename_i b' hb'
        have := xbst_lt pr tk n b' hb'
        split at h <;> cases h <;> omega
    · have := xbst_lt pr tk n b h
      omega
def xtn (S : xS) : xS := match xbst (fun h => gI S 15 0 h) (fun h => gI S 16 0 h) 24 with
  | none => S
  | some b => (sI (sI S 16 0 b 1) 5 0 3 ((gI S 5 0 3) + (gI S 15 0 b)))
def xclr (S : xS) : Nat → xS
  | 0 => S
  | n + 1 => (sI (xclr S n) 16 0 n 0)
def xtk (S : xS) : Nat → xS
  | 0 => S
  | n + 1 => xtn (xtk S n)
theorem xon_ne {o : Option Nat} (h : ∀ b, o = some b → b < 100) : xon o = -1 ↔ o = none := by
  cases o with
  | none => simp [xon]
  | some b =>
    have hb := h b rfl
    constructor
    · intro z
      have h2 : (nI b).toInt = (b : Int) := nI_toInt (by omega)
      have h3 : nI b = -1 := z
      rw [h3] at h2
      have h4 : ((-1 : Int32)).toInt = -1 := by decide
      rw [h4] at h2
      omega
    · intro z; cases z
theorem l_X5_takeNext {S : xS} (hX : xShX S) : ∀ (n i : Nat), i + n = 24 → ∀ v, v = xon (xbst (fun h => gI S 15 0 h) (fun h => gI S 16 0 h) i) → Ex mX5_takeNext 1 0 0 (0, fun _ => 0) (aV (xtn S)) 4 [some (xR (some (5, 0))), some (xI v), some (xI (nI i))] [] S
  | 0, i, hi, v, hv => by
    have hi : i = 24 := by omega
    subst hi
    unfold xtn
    cases hb : xbst (fun h => gI S 15 0 h) (fun h => gI S 16 0 h) 24 with
    | none =>
      rw [hb] at hv
      have hv : v = -1 := hv
      subst hv
      refine E_iload_n dX5_takeNext_4 rfl rfl ?_
      refine E_bipush (v := 24) dX5_takeNext_5 (by decide) ?_
      refine E_icmp_ge (tgt := 47) dX5_takeNext_7 (by decide) (fun h7 => ?_) (fun h7 => absurd h7 ((fun z => z (nI_le (a := 24) (b := 24) (by omega) (by omega)))))
      refine E_iload_n dX5_takeNext_47 rfl rfl ?_
      refine E_iconst (v := -1) dX5_takeNext_48 (by decide) ?_
      refine E_icmp_eq (tgt := 74) dX5_takeNext_49 (by decide) (fun h49 => ?_) (fun h49 => absurd h49 (by decide))
      refine E_vret dX5_takeNext_74 rfl ?_
      exact ⟨rfl, rfl⟩
    | some b =>
      have hl := xbst_lt _ _ _ _ hb
      rw [hb] at hv
      have hv : v = nI b := hv
      subst hv
      have hne : ¬ nI b = -1 := fun z => by have h := (xon_ne (o := some b) (fun c hc => by cases hc; omega)).mp z; cases h
      refine E_iload_n dX5_takeNext_4 rfl rfl ?_
      refine E_bipush (v := 24) dX5_takeNext_5 (by decide) ?_
      refine E_icmp_ge (tgt := 47) dX5_takeNext_7 (by decide) (fun h7 => ?_) (fun h7 => absurd h7 ((fun z => z (nI_le (a := 24) (b := 24) (by omega) (by omega)))))
      refine E_iload_n dX5_takeNext_47 rfl rfl ?_
      refine E_iconst (v := -1) dX5_takeNext_48 (by decide) ?_
      refine E_icmp_eq (tgt := 74) dX5_takeNext_49 (by decide) (fun h49 => absurd h49 (hne)) (fun h49 => ?_)
      refine E_aload_n dX5_takeNext_52 rfl rfl ?_
      refine E_getR dX5_takeNext_53 fX5_15 rfl rfl rfl (rX_5_1 hX) ?_
      refine E_iload_n dX5_takeNext_56 rfl rfl ?_
      refine E_iconst (v := 1) dX5_takeNext_57 (by decide) ?_
      refine E_zast dX5_takeNext_58 rfl rfl (by decide) (lX_16 hX) (vin hl (by omega)) (vnat hl (by omega)) rfl ?_
      refine E_aload_n dX5_takeNext_59 rfl rfl ?_
      refine E_dup dX5_takeNext_60 rfl ?_
      refine E_getI dX5_takeNext_61 fX5_23 rfl rfl rfl rfl ?_
      refine E_aload_n dX5_takeNext_64 rfl rfl ?_
      refine E_getR dX5_takeNext_65 fX5_9 rfl rfl rfl (rX_5_0 hX) ?_
      refine E_iload_n dX5_takeNext_68 rfl rfl ?_
      refine E_iald dX5_takeNext_69 rfl rfl (by decide) (lX_15 hX) (vin hl (by omega)) (vnat hl (by omega)) rfl ?_
      refine E_iadd dX5_takeNext_70 ?_
      refine E_putI dX5_takeNext_71 fX5_23 rfl rfl rfl rfl rfl ?_
      refine E_vret dX5_takeNext_74 rfl ?_
      exact ⟨rfl, rfl⟩
  | n + 1, i, hi, v, hv => by
    have hlt : ∀ b, xbst (fun h => gI S 15 0 h) (fun h => gI S 16 0 h) i = some b → b < 24 := fun b hb => by have := xbst_lt _ _ _ _ hb; omega
    have hx := xon_ne (o := xbst (fun h => gI S 15 0 h) (fun h => gI S 16 0 h) i) (fun b hb => by have := hlt b hb; omega)
    cases hb : xbst (fun h => gI S 15 0 h) (fun h => gI S 16 0 h) i with
    | none =>
      have hv1 : v = -1 := by rw [hv, hb]; rfl
      refine E_iload_n dX5_takeNext_4 rfl rfl ?_
      refine E_bipush (v := 24) dX5_takeNext_5 (by decide) ?_
      refine E_icmp_ge (tgt := 47) dX5_takeNext_7 (by decide) (fun h7 => absurd h7 ((nI_ge (a := i) (b := 24) (by omega) (by omega)))) (fun h7 => ?_)
      refine E_aload_n dX5_takeNext_10 rfl rfl ?_
      refine E_getR dX5_takeNext_11 fX5_15 rfl rfl rfl (rX_5_1 hX) ?_
      refine E_iload_n dX5_takeNext_14 rfl rfl ?_
      refine E_zald dX5_takeNext_15 rfl rfl (by decide) (lX_16 hX) (vin (by omega : i < 24) (by omega)) (vnat (by omega : i < 24) (by omega)) rfl ?_
      refine E_if_ne (tgt := 41) dX5_takeNext_16 (by decide) (fun h16 => ?_) (fun h16 => ?_)
      · refine E_iinc (v := nI (i + 1)) dX5_takeNext_41 rfl (nI_i1 i) (by decide) rfl ?_
        refine E_goto (tgt := 4) dX5_takeNext_44 (by decide) ?_
        refine l_X5_takeNext hX n (i + 1) (by omega) _ ?_
        first | (rw [xbst, if_pos (by first | exact Decidable.byContradiction h16 | exact h16), hb]; rfl) | (rw [xbst, if_neg h16]; exact hv)
      · refine E_iload_n dX5_takeNext_19 rfl rfl ?_
        refine E_iconst (v := -1) dX5_takeNext_20 (by decide) ?_
        refine E_icmp_eq (tgt := 39) dX5_takeNext_21 (by decide) (fun h21 => ?_) (fun h21 => absurd h21 (fun z => z hv1))
        refine E_iload_n dX5_takeNext_39 rfl rfl ?_
        refine E_istore_n dX5_takeNext_40 rfl (by decide) rfl ?_
        refine E_iinc (v := nI (i + 1)) dX5_takeNext_41 rfl (nI_i1 i) (by decide) rfl ?_
        refine E_goto (tgt := 4) dX5_takeNext_44 (by decide) ?_
        refine l_X5_takeNext hX n (i + 1) (by omega) _ ?_
        first | (rw [xbst, if_pos (by first | exact Decidable.byContradiction h16 | exact h16), hb]; rfl) | (rw [xbst, if_neg h16]; exact hv)
    | some b =>
      have hl := hlt b hb
      have hv1 : v = nI b := by rw [hv, hb]; rfl
      subst hv1
      have hne : ¬ nI b = -1 := fun z => by rw [← hv] at hx; have := hx.mp z; rw [hb] at this; cases this
      refine E_iload_n dX5_takeNext_4 rfl rfl ?_
      refine E_bipush (v := 24) dX5_takeNext_5 (by decide) ?_
      refine E_icmp_ge (tgt := 47) dX5_takeNext_7 (by decide) (fun h7 => absurd h7 ((nI_ge (a := i) (b := 24) (by omega) (by omega)))) (fun h7 => ?_)
      refine E_aload_n dX5_takeNext_10 rfl rfl ?_
      refine E_getR dX5_takeNext_11 fX5_15 rfl rfl rfl (rX_5_1 hX) ?_
      refine E_iload_n dX5_takeNext_14 rfl rfl ?_
      refine E_zald dX5_takeNext_15 rfl rfl (by decide) (lX_16 hX) (vin (by omega : i < 24) (by omega)) (vnat (by omega : i < 24) (by omega)) rfl ?_
      refine E_if_ne (tgt := 41) dX5_takeNext_16 (by decide) (fun h16 => ?_) (fun h16 => ?_)
      · refine E_iinc (v := nI (i + 1)) dX5_takeNext_41 rfl (nI_i1 i) (by decide) rfl ?_
        refine E_goto (tgt := 4) dX5_takeNext_44 (by decide) ?_
        refine l_X5_takeNext hX n (i + 1) (by omega) _ ?_
        first | (rw [xbst, if_neg h16]; exact hv) | (rw [xbst, if_pos h16, hb]; show _ = xon (if gI S 15 0 i < gI S 15 0 b then some i else some b); first | (rw [if_neg (Int32.not_lt.mpr h36)]; rfl) | (rw [if_pos (Int32.not_le.mp h36)]; rfl))
      · refine E_iload_n dX5_takeNext_19 rfl rfl ?_
        refine E_iconst (v := -1) dX5_takeNext_20 (by decide) ?_
        refine E_icmp_eq (tgt := 39) dX5_takeNext_21 (by decide) (fun h21 => absurd h21 (hne)) (fun h21 => ?_)
        refine E_aload_n dX5_takeNext_24 rfl rfl ?_
        refine E_getR dX5_takeNext_25 fX5_9 rfl rfl rfl (rX_5_0 hX) ?_
        refine E_iload_n dX5_takeNext_28 rfl rfl ?_
        refine E_iald dX5_takeNext_29 rfl rfl (by decide) (lX_15 hX) (vin (by omega : i < 24) (by omega)) (vnat (by omega : i < 24) (by omega)) rfl ?_
        refine E_aload_n dX5_takeNext_30 rfl rfl ?_
        refine E_getR dX5_takeNext_31 fX5_9 rfl rfl rfl (rX_5_0 hX) ?_
        refine E_iload_n dX5_takeNext_34 rfl rfl ?_
        refine E_iald dX5_takeNext_35 rfl rfl (by decide) (lX_15 hX) (vin hl (by omega)) (vnat hl (by omega)) rfl ?_
        refine E_icmp_ge (tgt := 41) dX5_takeNext_36 (by decide) (fun h36 => ?_) (fun h36 => ?_)
        · refine E_iinc (v := nI (i + 1)) dX5_takeNext_41 rfl (nI_i1 i) (by decide) rfl ?_
          refine E_goto (tgt := 4) dX5_takeNext_44 (by decide) ?_
          refine l_X5_takeNext hX n (i + 1) (by omega) _ ?_
          first | (rw [xbst, if_neg h16]; exact hv) | (rw [xbst, if_pos h16, hb]; show _ = xon (if gI S 15 0 i < gI S 15 0 b then some i else some b); first | (rw [if_neg (Int32.not_lt.mpr h36)]; rfl) | (rw [if_pos (Int32.not_le.mp h36)]; rfl))
        · refine E_iload_n dX5_takeNext_39 rfl rfl ?_
          refine E_istore_n dX5_takeNext_40 rfl (by decide) rfl ?_
          refine E_iinc (v := nI (i + 1)) dX5_takeNext_41 rfl (nI_i1 i) (by decide) rfl ?_
          refine E_goto (tgt := 4) dX5_takeNext_44 (by decide) ?_
          refine l_X5_takeNext hX n (i + 1) (by omega) _ ?_
          first | (rw [xbst, if_neg h16]; exact hv) | (rw [xbst, if_pos h16, hb]; show _ = xon (if gI S 15 0 i < gI S 15 0 b then some i else some b); first | (rw [if_neg (Int32.not_lt.mpr h36)]; rfl) | (rw [if_pos (Int32.not_le.mp h36)]; rfl))
end
section
/-! takeCheapest; what is made -/
theorem xtn_1 {S : xS} : (xtn S).2 = S.2 := by unfold xtn; split <;> rfl
theorem xtk_2 {S : xS} : ∀ n, (xtk S n).2 = S.2
  | 0 => rfl
  | n + 1 => (xtn_1 (S := xtk S n)).trans (xtk_2 n)
theorem xclr_2 {S : xS} : ∀ n, (xclr S n).2 = S.2
  | 0 => rfl
  | n + 1 => xclr_2 n
theorem xShX_2 {S S' : xS} (h : xShX S) (e : S'.2 = S.2) : xShX S' := by
  obtain ⟨a, b⟩ := S
  obtain ⟨a', b'⟩ := S'
  cases e
  exact h
theorem c_X5_takeNext {S : xS} (hX : xShX S) : CC mX5_takeNext 1 0 0 [xR (some (5, 0))] S (aV (xtn S)) := by
  refine CC_of mpX5_takeNext rfl (Nat.le_of_ble_eq_true rfl) ?_
  refine E_iconst (v := -1) dX5_takeNext_0 (by decide) ?_
  refine E_istore_n dX5_takeNext_1 rfl (by decide) rfl ?_
  refine E_iconst (v := 0) dX5_takeNext_2 (by decide) ?_
  refine E_istore_n dX5_takeNext_3 rfl (by decide) rfl ?_
  exact l_X5_takeNext hX 24 0 rfl (-1) rfl
theorem l_X5_take2 {S : xS} (hX : xShX S) (m : Nat) (hm : m < 100) : ∀ (n i : Nat), i + n = m → Ex mX5_takeCheapest 2 0 0 (0, fun _ => 0) (aV (xtk S m)) 33 [some (xR (some (5, 0))), some (xI (nI m)), some (xI (nI i))] [] (xtk S i)
  | 0, i, hi => by
    have hi : i = m := by omega
    subst hi
    refine E_iload_n dX5_takeCheapest_33 rfl rfl ?_
    refine E_iload_n dX5_takeCheapest_34 rfl rfl ?_
    refine E_icmp_ge (tgt := 48) dX5_takeCheapest_35 (by decide) (fun h35 => ?_) (fun h35 => absurd h35 ((fun z => z (nI_le (a := i) (b := i) (by omega) (by omega)))))
    refine E_vret dX5_takeCheapest_48 rfl ?_
    exact ⟨rfl, rfl⟩
  | n + 1, i, hi => by
    refine E_iload_n dX5_takeCheapest_33 rfl rfl ?_
    refine E_iload_n dX5_takeCheapest_34 rfl rfl ?_
    refine E_icmp_ge (tgt := 48) dX5_takeCheapest_35 (by decide) (fun h35 => absurd h35 ((nI_ge (a := i) (b := m) (by omega) (by omega)))) (fun h35 => ?_)
    refine E_aload_n dX5_takeCheapest_38 rfl rfl ?_
    refine E_callV (m2 := mX5_takeNext) dX5_takeCheapest_39 kX5_27 mzX5_takeNext (c_X5_takeNext (xShX_2 hX (xtk_2 i))) rfl ⟨_, _, rfl⟩ rfl rfl (by decide) (xs8 (Nat.le_of_ble_eq_true rfl)) (by first | exact Nat.le_of_ble_eq_true rfl | omega) (by first | exact Nat.le_of_ble_eq_true rfl | omega) ?_
    rintro _ _ ⟨rfl, rfl⟩
    refine E_iinc (v := nI (i + 1)) dX5_takeCheapest_42 rfl (nI_i1 i) (by decide) rfl ?_
    refine E_goto (tgt := 33) dX5_takeCheapest_45 (by decide) ?_
    exact l_X5_take2 hX m hm n (i + 1) (by omega)
theorem l_X5_take1 {S : xS} (hX : xShX S) (m : Nat) (hm : m < 100) : ∀ (n i : Nat), i + n = 24 → Ex mX5_takeCheapest 2 0 0 (0, fun _ => 0) (aV (xtk (xclr S 24) m)) 12 [some (xR (some (5, 0))), some (xI (nI m)), some (xI (nI i))] [] (xclr S i)
  | 0, i, hi => by
    have hi : i = 24 := by omega
    subst hi
    refine E_iload_n dX5_takeCheapest_12 rfl rfl ?_
    refine E_bipush (v := 24) dX5_takeCheapest_13 (by decide) ?_
    refine E_icmp_ge (tgt := 31) dX5_takeCheapest_15 (by decide) (fun h15 => ?_) (fun h15 => absurd h15 ((fun z => z (nI_le (a := 24) (b := 24) (by omega) (by omega)))))
    refine E_iconst (v := 0) dX5_takeCheapest_31 (by decide) ?_
    refine E_istore_n dX5_takeCheapest_32 rfl (by decide) rfl ?_
    exact l_X5_take2 (xShX_2 hX (xclr_2 24)) m hm m 0 (by omega)
  | n + 1, i, hi => by
    have hX2 := xShX_2 hX (xclr_2 (S := S) i)
    refine E_iload_n dX5_takeCheapest_12 rfl rfl ?_
    refine E_bipush (v := 24) dX5_takeCheapest_13 (by decide) ?_
    refine E_icmp_ge (tgt := 31) dX5_takeCheapest_15 (by decide) (fun h15 => absurd h15 ((nI_ge (a := i) (b := 24) (by omega) (by omega)))) (fun h15 => ?_)
    refine E_aload_n dX5_takeCheapest_18 rfl rfl ?_
    refine E_getR dX5_takeCheapest_19 fX5_15 rfl rfl rfl (rX_5_1 hX2) ?_
    refine E_iload_n dX5_takeCheapest_22 rfl rfl ?_
    refine E_iconst (v := 0) dX5_takeCheapest_23 (by decide) ?_
    refine E_zast dX5_takeCheapest_24 rfl rfl (by decide) (lX_16 hX2) (vin (by omega : i < 24) (by omega)) (vnat (by omega : i < 24) (by omega)) rfl ?_
    refine E_iinc (v := nI (i + 1)) dX5_takeCheapest_25 rfl (nI_i1 i) (by decide) rfl ?_
    refine E_goto (tgt := 12) dX5_takeCheapest_28 (by decide) ?_
    exact l_X5_take1 hX m hm n (i + 1) (by omega)
def xtc (S : xS) (m : Nat) : xS := xtk (xclr (sI (sI S 5 0 2 1) 5 0 3 0) 24) m
theorem c_X5_takeCheapest {S : xS} (hX : xShX S) (m : Nat) (hm : m < 100) : CC mX5_takeCheapest 2 0 0 [xR (some (5, 0)), xI (nI m)] S (aV (xtc S m)) := by
  refine CC_of mpX5_takeCheapest rfl (Nat.le_of_ble_eq_true rfl) ?_
  refine E_aload_n dX5_takeCheapest_0 rfl rfl ?_
  refine E_iconst (v := 1) dX5_takeCheapest_1 (by decide) ?_
  refine E_putI dX5_takeCheapest_2 fX5_19 rfl rfl rfl rfl rfl ?_
  refine E_aload_n dX5_takeCheapest_5 rfl rfl ?_
  refine E_iconst (v := 0) dX5_takeCheapest_6 (by decide) ?_
  refine E_putI dX5_takeCheapest_7 fX5_23 rfl rfl rfl rfl rfl ?_
  refine E_iconst (v := 0) dX5_takeCheapest_10 (by decide) ?_
  refine E_istore_n dX5_takeCheapest_11 rfl (by decide) rfl ?_
  exact l_X5_take1 (S := (sI (sI S 5 0 2 1) 5 0 3 0)) hX m hm 24 0 rfl
/-- the array (k, 0) with v in its first n places -/
def xfill (S : xS) (k : Nat) (v : Int32) : Nat → xS
  | 0 => S
  | n + 1 => sI (xfill S k v n) k 0 n v
theorem xfill_2 {S : xS} {k : Nat} {v : Int32} : ∀ n, (xfill S k v n).2 = S.2
  | 0 => rfl
  | n + 1 => xfill_2 n
theorem gR_2 {S S' : xS} (e : S'.2 = S.2) (a b c : Nat) : gR S' a b c = gR S a b c := by unfold gR; rw [e]
theorem gL_2 {S S' : xS} (e : S'.2 = S.2) (a b : Nat) : gL S' a b = gL S a b := by unfold gL; rw [e]
theorem l_X2_init {S : xS} (h0 : gR S 2 0 0 = some (13, 0)) (h1 : gL S 13 0 = some 30) (cb sb : Nat) : ∀ (n i : Nat), i + n = 30 → Ex mX2_init 2 cb sb (0, fun _ => 0) (aV (xfill S 13 (-1) 30)) 22 [some (xR (some (2, 0))), some (xI (nI i))] [] (xfill S 13 (-1) i)
  | 0, i, hi => by
    have hi : i = 30 := by omega
    subst hi
    refine E_iload_n dX2_init_22 rfl rfl ?_
    refine E_bipush (v := 30) dX2_init_23 (by decide) ?_
    refine E_icmp_ge (tgt := 41) dX2_init_25 (by decide) (fun h25 => ?_) (fun h25 => absurd h25 ((fun z => z (nI_le (a := 30) (b := 30) (by omega) (by omega)))))
    refine E_vret dX2_init_41 rfl ?_
    exact ⟨rfl, rfl⟩
  | n + 1, i, hi => by
    refine E_iload_n dX2_init_22 rfl rfl ?_
    refine E_bipush (v := 30) dX2_init_23 (by decide) ?_
    refine E_icmp_ge (tgt := 41) dX2_init_25 (by decide) (fun h25 => absurd h25 ((nI_ge (a := i) (b := 30) (by omega) (by omega)))) (fun h25 => ?_)
    refine E_aload_n dX2_init_28 rfl rfl ?_
    refine E_getR dX2_init_29 fX2_9 rfl rfl rfl ((gR_2 (xfill_2 i) 2 0 0).trans h0) ?_
    refine E_iload_n dX2_init_32 rfl rfl ?_
    refine E_iconst (v := -1) dX2_init_33 (by decide) ?_
    refine E_iast dX2_init_34 rfl rfl (by decide) ((gL_2 (xfill_2 i) 13 0).trans h1) (vin (by omega : i < 30) (by omega)) (vnat (by omega : i < 30) (by omega)) ?_
    refine E_iinc (v := nI (i + 1)) dX2_init_35 rfl (nI_i1 i) (by decide) rfl ?_
    refine E_goto (tgt := 22) dX2_init_38 (by decide) ?_
    exact l_X2_init h0 h1 cb sb n (i + 1) (by omega)
def xSl (S : xS) : xS := xfill (sR (sN (sR (sN S 13 0 30) 2 0 0 (some (13, 0))) 14 0 30) 2 0 1 (some (14, 0))) 13 (-1) 30
theorem c_X2_init {S : xS} (h13 : gL S 13 0 = none) (h14 : gL S 14 0 = none) : CC mX2_init 2 2 60 [xR (some (2, 0))] S (aV (xSl S)) := by
  refine CC_of mpX2_init rfl (Nat.le_of_ble_eq_true rfl) ?_
  refine E_aload_n dX2_init_0 rfl rfl ?_
  refine E_obj dX2_init_1 kX2_3 (by decide) (xs8 (Nat.le_of_ble_eq_true rfl)) ?_
  refine E_aload_n dX2_init_4 rfl rfl ?_
  refine E_bipush (v := 30) dX2_init_5 (by decide) ?_
  refine E_newa (k := 13) (i := 0) (n := 30) dX2_init_7 rfl (by left; rfl) x_arrI rfl rfl (by decide) (by decide) (by decide) (by decide) h13 (by first | exact Nat.le_of_ble_eq_true rfl | omega) (by first | exact Nat.le_of_ble_eq_true rfl | omega) ?_
  refine E_putFR dX2_init_9 fX2_9 rfl rfl rfl rfl (fun r h => by cases h; rfl) (by first | exact Or.inl ⟨_, rfl⟩ | exact Or.inr ⟨_, rfl⟩) (by intro q h; cases h; simp) ?_
  refine E_aload_n dX2_init_12 rfl rfl ?_
  refine E_bipush (v := 30) dX2_init_13 (by decide) ?_
  refine E_newa (k := 14) (i := 0) (n := 30) dX2_init_15 rfl (by right; rfl) x_arrZ rfl rfl (by decide) (by decide) (by decide) (by decide) h14 (by first | exact Nat.le_of_ble_eq_true rfl | omega) (by first | exact Nat.le_of_ble_eq_true rfl | omega) ?_
  refine E_putFR dX2_init_17 fX2_15 rfl rfl rfl rfl (fun r h => by cases h; rfl) (by first | exact Or.inl ⟨_, rfl⟩ | exact Or.inr ⟨_, rfl⟩) (by intro q h; cases h; simp) ?_
  refine E_iconst (v := 0) dX2_init_20 (by decide) ?_
  refine E_istore_n dX2_init_21 rfl (by decide) rfl ?_
  exact l_X2_init rfl rfl _ _ 30 0 rfl
theorem l_X5_init {S : xS} (h0 : gR S 5 0 0 = some (15, 0)) (h1 : gL S 15 0 = some 24) (cb sb : Nat) : ∀ (n i : Nat), i + n = 24 → Ex mX5_init 2 cb sb (0, fun _ => 0) (aV (xfill S 15 1 24)) 22 [some (xR (some (5, 0))), some (xI (nI i))] [] (xfill S 15 1 i)
  | 0, i, hi => by
    have hi : i = 24 := by omega
    subst hi
    refine E_iload_n dX5_init_22 rfl rfl ?_
    refine E_bipush (v := 24) dX5_init_23 (by decide) ?_
    refine E_icmp_ge (tgt := 41) dX5_init_25 (by decide) (fun h25 => ?_) (fun h25 => absurd h25 ((fun z => z (nI_le (a := 24) (b := 24) (by omega) (by omega)))))
    refine E_vret dX5_init_41 rfl ?_
    exact ⟨rfl, rfl⟩
  | n + 1, i, hi => by
    refine E_iload_n dX5_init_22 rfl rfl ?_
    refine E_bipush (v := 24) dX5_init_23 (by decide) ?_
    refine E_icmp_ge (tgt := 41) dX5_init_25 (by decide) (fun h25 => absurd h25 ((nI_ge (a := i) (b := 24) (by omega) (by omega)))) (fun h25 => ?_)
    refine E_aload_n dX5_init_28 rfl rfl ?_
    refine E_getR dX5_init_29 fX5_9 rfl rfl rfl ((gR_2 (xfill_2 i) 5 0 0).trans h0) ?_
    refine E_iload_n dX5_init_32 rfl rfl ?_
    refine E_iconst (v := 1) dX5_init_33 (by decide) ?_
    refine E_iast dX5_init_34 rfl rfl (by decide) ((gL_2 (xfill_2 i) 15 0).trans h1) (vin (by omega : i < 24) (by omega)) (vnat (by omega : i < 24) (by omega)) ?_
    refine E_iinc (v := nI (i + 1)) dX5_init_35 rfl (nI_i1 i) (by decide) rfl ?_
    refine E_goto (tgt := 22) dX5_init_38 (by decide) ?_
    exact l_X5_init h0 h1 cb sb n (i + 1) (by omega)
def xSp (S : xS) : xS := xfill (sR (sN (sR (sN S 15 0 24) 5 0 0 (some (15, 0))) 16 0 24) 5 0 1 (some (16, 0))) 15 1 24
theorem c_X5_init {S : xS} (h13 : gL S 15 0 = none) (h14 : gL S 16 0 = none) : CC mX5_init 2 2 48 [xR (some (5, 0))] S (aV (xSp S)) := by
  refine CC_of mpX5_init rfl (Nat.le_of_ble_eq_true rfl) ?_
  refine E_aload_n dX5_init_0 rfl rfl ?_
  refine E_obj dX5_init_1 kX5_3 (by decide) (xs8 (Nat.le_of_ble_eq_true rfl)) ?_
  refine E_aload_n dX5_init_4 rfl rfl ?_
  refine E_bipush (v := 24) dX5_init_5 (by decide) ?_
  refine E_newa (k := 15) (i := 0) (n := 24) dX5_init_7 rfl (by left; rfl) x_arrI rfl rfl (by decide) (by decide) (by decide) (by decide) h13 (by first | exact Nat.le_of_ble_eq_true rfl | omega) (by first | exact Nat.le_of_ble_eq_true rfl | omega) ?_
  refine E_putFR dX5_init_9 fX5_9 rfl rfl rfl rfl (fun r h => by cases h; rfl) (by first | exact Or.inl ⟨_, rfl⟩ | exact Or.inr ⟨_, rfl⟩) (by intro q h; cases h; simp) ?_
  refine E_aload_n dX5_init_12 rfl rfl ?_
  refine E_bipush (v := 24) dX5_init_13 (by decide) ?_
  refine E_newa (k := 16) (i := 0) (n := 24) dX5_init_15 rfl (by right; rfl) x_arrZ rfl rfl (by decide) (by decide) (by decide) (by decide) h14 (by first | exact Nat.le_of_ble_eq_true rfl | omega) (by first | exact Nat.le_of_ble_eq_true rfl | omega) ?_
  refine E_putFR dX5_init_17 fX5_15 rfl rfl rfl rfl (fun r h => by cases h; rfl) (by first | exact Or.inl ⟨_, rfl⟩ | exact Or.inr ⟨_, rfl⟩) (by intro q h; cases h; simp) ?_
  refine E_iconst (v := 0) dX5_init_20 (by decide) ?_
  refine E_istore_n dX5_init_21 rfl (by decide) rfl ?_
  exact l_X5_init rfl rfl _ _ 24 0 rfl
/-- a new pool's posts, its things -/
def xpP (S : xS) (p : Nat) : Nat → xS
  | 0 => S
  | k + 1 => sR (sN (xpP S p k) 4 (3 * p + k) 0) 17 p k (some (4, 3 * p + k))
def xpT (S : xS) (p : Nat) : Nat → xS
  | 0 => S
  | i + 1 => sR (sI (sI (sN (xpT S p i) 6 (3 * p + i) 0) 6 (3 * p + i) 0 0) 6 (3 * p + i) 1 100) 18 p i (some (6, 3 * p + i))
def xpi0 (S : xS) (p : Nat) (x1 x2 x3 : Int32) (n : Nat) : xS :=
  sR (sN (sI (sI (sI (sR (sI (sN (sR (sN S 18 p 3) 3 p 4 (some (18, p))) 1 p 0) 1 p 0 1) 3 p 5 (some (1, p))) 3 p 0 x1) 3 p 1 x2) 3 p 2 x3) 17 p n) 3 p 3 (some (17, p))
def xpi (S : xS) (p : Nat) (x1 x2 x3 : Int32) (n : Nat) : xS := xpT (xpP (xpi0 S p x1 x2 x3 n) p n) p 3
theorem xpP_R {S : xS} {p a b c : Nat} (h : a ≠ 17) (h2 : a ≠ 4) : ∀ k, gR (xpP S p k) a b c = gR S a b c
  | 0 => rfl
  | k + 1 => by
    unfold xpP
    rw [gR_sR, if_neg (fun z => h z.1), gR_sN, if_neg (fun z => h2 z.1)]
    exact xpP_R h h2 k
theorem xpP_L {S : xS} {p a b : Nat} (h2 : a ≠ 4) : ∀ k, gL (xpP S p k) a b = gL S a b
  | 0 => rfl
  | k + 1 => by
    unfold xpP
    rw [gL_sR, gL_sN, if_neg (fun z => h2 z.1)]
    exact xpP_L h2 k
theorem xpP_F {S : xS} {p : Nat} {j : Nat} : ∀ k, k ≤ j → gL (xpP S p k) 4 (3 * p + j) = gL S 4 (3 * p + j)
  | 0, _ => rfl
  | k + 1, h => by
    unfold xpP
    rw [gL_sR, gL_sN, if_neg (by omega)]
    exact xpP_F k (by omega)
theorem xpT_R {S : xS} {p a b c : Nat} (h : a ≠ 18) (h2 : a ≠ 6) : ∀ k, gR (xpT S p k) a b c = gR S a b c
  | 0 => rfl
  | k + 1 => by
    unfold xpT
    rw [gR_sR, if_neg (fun z => h z.1), gR_sI, gR_sI, gR_sN, if_neg (fun z => h2 z.1)]
    exact xpT_R h h2 k
theorem xpT_L {S : xS} {p a b : Nat} (h2 : a ≠ 6) : ∀ k, gL (xpT S p k) a b = gL S a b
  | 0 => rfl
  | k + 1 => by
    unfold xpT
    rw [gL_sR, gL_sI, gL_sI, gL_sN, if_neg (fun z => h2 z.1)]
    exact xpT_L h2 k
theorem xpT_F {S : xS} {p : Nat} {j : Nat} : ∀ k, k ≤ j → gL (xpT S p k) 6 (3 * p + j) = gL S 6 (3 * p + j)
  | 0, _ => rfl
  | k + 1, h => by
    unfold xpT
    rw [gL_sR, gL_sI, gL_sI, gL_sN, if_neg (by omega)]
    exact xpT_F k (by omega)
theorem xN_3 {U : State} (h : xN U) : va_AO RX4 U := h.2.2.2.2.2.1
theorem xN_6 {U : State} (h : xN U) : va_AO RX6 U := h.2.2.2.1
theorem l_X3_initT {S : xS} {p : Nat} (h0 : gR S 3 p 4 = some (18, p)) (h1 : gL S 18 p = some 3) (hf : ∀ j, j < 3 → gL S 6 (3 * p + j) = none) (x1 x2 x3 x4 : Int32) : ∀ (n i cb sb : Nat), i + n = 3 → n ≤ cb → 5 * n ≤ sb → Ex mX3_init 3 cb sb (0, fun _ => 0) (aV (xpT S p 3)) 87 [some (xR (some (3, p))), some (xI x1), some (xI x2), some (xI x3), some (xI x4), some (xI (nI i))] [] (xpT S p i)
  | 0, i, cb, sb, hi, hcb, hsb => by
    have hi : i = 3 := by omega
    subst hi
    refine E_iload dX3_init_87 rfl ?_
    refine E_iconst (v := 3) dX3_init_89 (by decide) ?_
    refine E_icmp_ge (tgt := 113) dX3_init_90 (by decide) (fun h90 => ?_) (fun h90 => absurd h90 ((fun z => z (nI_le (a := 3) (b := 3) (by omega) (by omega)))))
    refine E_vret dX3_init_113 rfl ?_
    exact ⟨rfl, rfl⟩
  | n + 1, i, cb, sb, hi, hcb, hsb => by
    refine E_iload dX3_init_87 rfl ?_
    refine E_iconst (v := 3) dX3_init_89 (by decide) ?_
    refine E_icmp_ge (tgt := 113) dX3_init_90 (by decide) (fun h90 => absurd h90 ((nI_ge (a := i) (b := 3) (by omega) (by omega)))) (fun h90 => ?_)
    refine E_aload_n dX3_init_93 rfl rfl ?_
    refine E_getR dX3_init_94 fX3_11 rfl rfl rfl ((xpT_R (by decide) (by decide) i).trans h0) ?_
    refine E_iload dX3_init_97 rfl ?_
    refine E_new (k := 6) (i := (3 * p + i)) dX3_init_99 nX3_9 rfl rfl rfl isX6 ziX6 ((xpT_F i (Nat.le_refl i)).trans (hf i (by omega))) (by first | exact Nat.le_of_ble_eq_true rfl | omega) (by first | exact Nat.le_of_ble_eq_true rfl | omega) ?_
    refine E_dup dX3_init_102 rfl ?_
    refine E_callN (m2 := mX6_init) dX3_init_103 (fun U hU => hU.2.2.2.2.2.2.2) mzX6_init (c_X6_init _) rfl rfl (by decide) (xs8 (Nat.le_of_ble_eq_true rfl)) (by first | exact Nat.le_of_ble_eq_true rfl | omega) (by first | exact Nat.le_of_ble_eq_true rfl | omega) ?_
    rintro _ _ ⟨rfl, rfl⟩
    refine E_aast dX3_init_106 rfl rfl (by decide) ((xpT_L (by decide) i).trans h1) (vin (by omega : i < 3) (by omega)) (vnat (by omega : i < 3) (by omega)) rfl rfl ?_
    refine E_iinc (v := nI (i + 1)) dX3_init_107 rfl (nI_i1 i) (by decide) rfl ?_
    refine E_goto (tgt := 87) dX3_init_110 (by decide) ?_
    exact l_X3_initT h0 h1 hf x1 x2 x3 x4 n (i + 1) _ _ (by omega) (by omega) (by omega)
theorem l_X3_initP {S : xS} {p m : Nat} (hm : m ≤ 3) (h0 : gR S 3 p 3 = some (17, p)) (h1 : gL S 17 p = some m) (hf : ∀ j, j < m → gL S 4 (3 * p + j) = none) (h2 : gR S 3 p 4 = some (18, p)) (h3 : gL S 18 p = some 3) (hf2 : ∀ j, j < 3 → gL S 6 (3 * p + j) = none) (x1 x2 x3 x4 : Int32) : ∀ (n i cb sb : Nat), i + n = m → n + 3 ≤ cb → 2 * n + 15 ≤ sb → Ex mX3_init 3 cb sb (0, fun _ => 0) (aV (xpT (xpP S p m) p 3)) 54 [some (xR (some (3, p))), some (xI x1), some (xI x2), some (xI x3), some (xI x4), some (xI (nI i))] [] (xpP S p i)
  | 0, i, cb, sb, hi, hcb, hsb => by
    have hi : i = m := by omega
    subst hi
    refine E_iload dX3_init_54 rfl ?_
    refine E_aload_n dX3_init_56 rfl rfl ?_
    refine E_getR dX3_init_57 fX3_42 rfl rfl rfl ((xpP_R (by decide) (by decide) i).trans h0) ?_
    refine E_alen dX3_init_60 rfl (by decide) ((xpP_L (by decide) i).trans h1) (Eq.refl (nI _)) ?_
    refine E_icmp_ge (tgt := 84) dX3_init_61 (by decide) (fun h61 => ?_) (fun h61 => absurd h61 ((fun z => z (nI_le (a := i) (b := i) (by omega) (by omega)))))
    refine E_iconst (v := 0) dX3_init_84 (by decide) ?_
    refine E_istore dX3_init_85 (by decide) rfl ?_
    exact l_X3_initT ((xpP_R (by decide) (by decide) i).trans h2) ((xpP_L (by decide) i).trans h3) (fun j hj => (xpP_L (by decide) i).trans (hf2 j hj)) x1 x2 x3 x4 3 0 _ _ rfl (by omega) (by omega)
  | n + 1, i, cb, sb, hi, hcb, hsb => by
    refine E_iload dX3_init_54 rfl ?_
    refine E_aload_n dX3_init_56 rfl rfl ?_
    refine E_getR dX3_init_57 fX3_42 rfl rfl rfl ((xpP_R (by decide) (by decide) i).trans h0) ?_
    refine E_alen dX3_init_60 rfl (by decide) ((xpP_L (by decide) i).trans h1) (Eq.refl (nI _)) ?_
    refine E_icmp_ge (tgt := 84) dX3_init_61 (by decide) (fun h61 => absurd h61 ((nI_ge (a := i) (b := m) (by omega) (by omega)))) (fun h61 => ?_)
    refine E_aload_n dX3_init_64 rfl rfl ?_
    refine E_getR dX3_init_65 fX3_42 rfl rfl rfl ((xpP_R (by decide) (by decide) i).trans h0) ?_
    refine E_iload dX3_init_68 rfl ?_
    refine E_new (k := 4) (i := (3 * p + i)) dX3_init_70 nX3_40 rfl rfl rfl isX4 ziX4 ((xpP_F i (Nat.le_refl i)).trans (hf i (by omega))) (by first | exact Nat.le_of_ble_eq_true rfl | omega) (by first | exact Nat.le_of_ble_eq_true rfl | omega) ?_
    refine E_dup dX3_init_73 rfl ?_
    refine E_callN (m2 := mX4_init) dX3_init_74 (fun U hU => hU.2.2.2.2.2.2.1) mzX4_init (c_X4_init _) rfl rfl (by decide) (xs8 (Nat.le_of_ble_eq_true rfl)) (by first | exact Nat.le_of_ble_eq_true rfl | omega) (by first | exact Nat.le_of_ble_eq_true rfl | omega) ?_
    rintro _ _ ⟨rfl, rfl⟩
    refine E_aast dX3_init_77 rfl rfl (by decide) ((xpP_L (by decide) i).trans h1) (vin (by omega : i < m) (by omega)) (vnat (by omega : i < m) (by omega)) rfl rfl ?_
    refine E_iinc (v := nI (i + 1)) dX3_init_78 rfl (nI_i1 i) (by decide) rfl ?_
    refine E_goto (tgt := 54) dX3_init_81 (by decide) ?_
    exact l_X3_initP hm h0 h1 hf h2 h3 hf2 x1 x2 x3 x4 n (i + 1) _ _ (by omega) (by omega) (by omega)
theorem c_X3_init {S : xS} {p m : Nat} (hm : m ≤ 3) (x1 x2 x3 : Int32) (h18 : gL S 18 p = none) (hd : gL S 1 p = none) (h17 : gL S 17 p = none) (hf : ∀ j, j < 3 → gL S 4 (3 * p + j) = none) (hf2 : ∀ j, j < 3 → gL S 6 (3 * p + j) = none) : CC mX3_init 3 9 34 [xR (some (3, p)), xI x1, xI x2, xI x3, xI (nI m)] S (aV (xpi S p x1 x2 x3 m)) := by
  refine CC_of mpX3_init rfl (Nat.le_of_ble_eq_true rfl) ?_
  have hmx : (if (0 : Int32) < nI m then nI m else 0) = nI m := by
    rcases Nat.eq_zero_or_pos m with rfl | h
    · rfl
    · rw [if_pos (show (0 : Int32) < nI m from nI_lt (a := 0) h (by omega))]
  refine E_aload_n dX3_init_0 rfl rfl ?_
  refine E_obj dX3_init_1 kX3_3 (by decide) (xs8 (Nat.le_of_ble_eq_true rfl)) ?_
  refine E_aload_n dX3_init_4 rfl rfl ?_
  refine E_iconst (v := 3) dX3_init_5 (by decide) ?_
  refine E_anew (k := 18) (i := p) (n := 3) dX3_init_6 nX3_9 (fun U => xN_6) rfl rfl (by decide) (by decide) (by decide) (by decide) h18 (by first | exact Nat.le_of_ble_eq_true rfl | omega) (by first | exact Nat.le_of_ble_eq_true rfl | omega) ?_
  refine E_putFR dX3_init_9 fX3_11 rfl rfl rfl rfl (fun r h => by cases h; rfl) (by first | exact Or.inl ⟨_, rfl⟩ | exact Or.inr ⟨_, rfl⟩) (by intro q h; cases h; simp) ?_
  refine E_aload_n dX3_init_12 rfl rfl ?_
  refine E_new (k := 1) (i := p) dX3_init_13 nX3_17 rfl rfl rfl isX1 ziX1 hd (by first | exact Nat.le_of_ble_eq_true rfl | omega) (by first | exact Nat.le_of_ble_eq_true rfl | omega) ?_
  refine E_dup dX3_init_16 rfl ?_
  refine E_callN (m2 := mX1_init) dX3_init_17 (fun U hU => hU.2.2.2.2.1) mzX1_init (c_X1_init _) rfl rfl (by decide) (xs8 (Nat.le_of_ble_eq_true rfl)) (by first | exact Nat.le_of_ble_eq_true rfl | omega) (by first | exact Nat.le_of_ble_eq_true rfl | omega) ?_
  rintro _ _ ⟨rfl, rfl⟩
  refine E_putFR dX3_init_20 fX3_20 rfl rfl rfl rfl (fun r h => by cases h; rfl) (by first | exact Or.inl ⟨_, rfl⟩ | exact Or.inr ⟨_, rfl⟩) (by intro q h; cases h; simp) ?_
  refine E_aload_n dX3_init_23 rfl rfl ?_
  refine E_iload_n dX3_init_24 rfl rfl ?_
  refine E_putFI dX3_init_25 fX3_24 rfl rfl rfl rfl (fun r h => by cases h; rfl) rfl rfl ?_
  refine E_aload_n dX3_init_28 rfl rfl ?_
  refine E_iload_n dX3_init_29 rfl rfl ?_
  refine E_putFI dX3_init_30 fX3_28 rfl rfl rfl rfl (fun r h => by cases h; rfl) rfl rfl ?_
  refine E_aload_n dX3_init_33 rfl rfl ?_
  refine E_iload_n dX3_init_34 rfl rfl ?_
  refine E_putFI dX3_init_35 fX3_31 rfl rfl rfl rfl (fun r h => by cases h; rfl) rfl rfl ?_
  refine E_aload_n dX3_init_38 rfl rfl ?_
  refine E_iconst (v := 0) dX3_init_39 (by decide) ?_
  refine E_iload dX3_init_40 rfl ?_
  refine E_max dX3_init_42 kX3_34 (by decide) (xs8 (Nat.le_of_ble_eq_true rfl)) ?_
  rw [hmx]
  refine E_anew (k := 17) (i := p) (n := m) dX3_init_45 nX3_40 (fun U => xN_3) rfl rfl (by decide) (nI_pos (by omega)) (nI_clamp (by omega)) (by omega) h17 (by first | exact Nat.le_of_ble_eq_true rfl | omega) (by first | exact Nat.le_of_ble_eq_true rfl | omega) ?_
  refine E_putFR dX3_init_48 fX3_42 rfl rfl rfl rfl (fun r h => by cases h; rfl) (by first | exact Or.inl ⟨_, rfl⟩ | exact Or.inr ⟨_, rfl⟩) (by intro q h; cases h; simp) ?_
  refine E_iconst (v := 0) dX3_init_51 (by decide) ?_
  refine E_istore dX3_init_52 (by decide) rfl ?_
  exact l_X3_initP (S := xpi0 S p x1 x2 x3 m) hm (by simp [xpi0, gR_sR]) (by simp [xpi0, gL_sR, gL_sN]) (fun j hj => hf j (by omega)) (by simp [xpi0, gR_sR, gR_sN, gR_sI]) (by simp [xpi0, gL_sR, gL_sN, gL_sI]) (fun j hj => hf2 j hj) x1 x2 x3 (nI m) m 0 _ _ (by omega) (by omega) (by omega)
/-- a new bath house -/
def xbh (S : xS) : xS := sI (sR (xSp (sN (sR (xSl (sN (sR (sN (sR (sN (sR (sN S 10 0 4) 8 0 0 (some (10, 0))) 11 0 200) 8 0 1 (some (11, 0))) 12 0 20) 8 0 2 (some (12, 0))) 2 0 0)) 8 0 3 (some (2, 0))) 5 0 0)) 8 0 4 (some (5, 0))) 8 0 8 (-1)
theorem xSl_L {S : xS} {a b : Nat} (h : a ≠ 13) (h2 : a ≠ 14) : gL (xSl S) a b = gL S a b := by
  unfold xSl
  rw [gL_2 (xfill_2 30), gL_sR, gL_sN, if_neg (fun z => h2 z.1), gL_sR, gL_sN, if_neg (fun z => h z.1)]
theorem c_X8_init {S : xS} (hf : ∀ a b, a ≠ 8 → a ≠ 99 → gL S a b = none) : CC mX8_init 3 9 338 [xR (some (8, 0))] S (aV (xbh S)) := by
  refine CC_of mpX8_init rfl (Nat.le_of_ble_eq_true rfl) ?_
  refine E_aload_n dX8_init_0 rfl rfl ?_
  refine E_obj dX8_init_1 kX8_1 (by decide) (xs8 (Nat.le_of_ble_eq_true rfl)) ?_
  refine E_aload_n dX8_init_4 rfl rfl ?_
  refine E_iconst (v := 4) dX8_init_5 (by decide) ?_
  refine E_anew (k := 10) (i := 0) (n := 4) dX8_init_6 nX8_9 (fun U hU => hU.1) rfl rfl (by decide) (by decide) (by decide) (by decide) (hf 10 0 (by decide) (by decide)) (by first | exact Nat.le_of_ble_eq_true rfl | omega) (by first | exact Nat.le_of_ble_eq_true rfl | omega) ?_
  refine E_putFR dX8_init_9 fX8_11 rfl rfl rfl rfl (fun r h => by cases h; rfl) (by first | exact Or.inl ⟨_, rfl⟩ | exact Or.inr ⟨_, rfl⟩) (by intro q h; cases h; simp) ?_
  refine E_aload_n dX8_init_12 rfl rfl ?_
  refine E_sipush (v := 200) dX8_init_13 (by decide) ?_
  refine E_anew (k := 11) (i := 0) (n := 200) dX8_init_16 nX8_15 (fun U hU => hU.2.1) rfl rfl (by decide) (by decide) (by decide) (by decide) (hf 11 0 (by decide) (by decide)) (by first | exact Nat.le_of_ble_eq_true rfl | omega) (by first | exact Nat.le_of_ble_eq_true rfl | omega) ?_
  refine E_putFR dX8_init_19 fX8_17 rfl rfl rfl rfl (fun r h => by cases h; rfl) (by first | exact Or.inl ⟨_, rfl⟩ | exact Or.inr ⟨_, rfl⟩) (by intro q h; cases h; simp) ?_
  refine E_aload_n dX8_init_22 rfl rfl ?_
  refine E_bipush (v := 20) dX8_init_23 (by decide) ?_
  refine E_anew (k := 12) (i := 0) (n := 20) dX8_init_25 nX8_21 (fun U hU => hU.2.2.1) rfl rfl (by decide) (by decide) (by decide) (by decide) (hf 12 0 (by decide) (by decide)) (by first | exact Nat.le_of_ble_eq_true rfl | omega) (by first | exact Nat.le_of_ble_eq_true rfl | omega) ?_
  refine E_putFR dX8_init_28 fX8_23 rfl rfl rfl rfl (fun r h => by cases h; rfl) (by first | exact Or.inl ⟨_, rfl⟩ | exact Or.inr ⟨_, rfl⟩) (by intro q h; cases h; simp) ?_
  refine E_aload_n dX8_init_31 rfl rfl ?_
  refine E_new (k := 2) (i := 0) dX8_init_32 nX8_27 rfl rfl rfl isX2 ziX2 (hf 2 0 (by decide) (by decide)) (by first | exact Nat.le_of_ble_eq_true rfl | omega) (by first | exact Nat.le_of_ble_eq_true rfl | omega) ?_
  refine E_dup dX8_init_35 rfl ?_
  refine E_callI (m2 := mX2_init) dX8_init_36 kX8_29 mzX2_init (c_X2_init (hf 13 0 (by decide) (by decide)) (hf 14 0 (by decide) (by decide))) rfl rfl (by decide) (xs8 (Nat.le_of_ble_eq_true rfl)) (by first | exact Nat.le_of_ble_eq_true rfl | omega) (by first | exact Nat.le_of_ble_eq_true rfl | omega) ?_
  rintro _ _ ⟨rfl, rfl⟩
  refine E_putFR dX8_init_39 fX8_30 rfl rfl rfl rfl (fun r h => by cases h; rfl) (by first | exact Or.inl ⟨_, rfl⟩ | exact Or.inr ⟨_, rfl⟩) (by intro q h; cases h; simp) ?_
  refine E_aload_n dX8_init_42 rfl rfl ?_
  refine E_new (k := 5) (i := 0) dX8_init_43 nX8_34 rfl rfl rfl isX5 ziX5 ((xSl_L (by decide) (by decide)).trans (hf 5 0 (by decide) (by decide))) (by first | exact Nat.le_of_ble_eq_true rfl | omega) (by first | exact Nat.le_of_ble_eq_true rfl | omega) ?_
  refine E_dup dX8_init_46 rfl ?_
  refine E_callI (m2 := mX5_init) dX8_init_47 kX8_36 mzX5_init (c_X5_init ((xSl_L (by decide) (by decide)).trans (hf 15 0 (by decide) (by decide))) ((xSl_L (by decide) (by decide)).trans (hf 16 0 (by decide) (by decide)))) rfl rfl (by decide) (xs8 (Nat.le_of_ble_eq_true rfl)) (by first | exact Nat.le_of_ble_eq_true rfl | omega) (by first | exact Nat.le_of_ble_eq_true rfl | omega) ?_
  rintro _ _ ⟨rfl, rfl⟩
  refine E_putFR dX8_init_50 fX8_37 rfl rfl rfl rfl (fun r h => by cases h; rfl) (by first | exact Or.inl ⟨_, rfl⟩ | exact Or.inr ⟨_, rfl⟩) (by intro q h; cases h; simp) ?_
  refine E_aload_n dX8_init_53 rfl rfl ?_
  refine E_iconst (v := -1) dX8_init_54 (by decide) ?_
  refine E_putI dX8_init_55 fX8_41 rfl rfl rfl rfl rfl ?_
  refine E_vret dX8_init_58 rfl ?_
  exact ⟨rfl, rfl⟩
end
section
/-! BathHouse: what its calls share -/
def xpl (S : xS) (p : Int32) : Option (Nat × Nat) := if 0 ≤ p ∧ p ≤ 3 then gR S 10 0 p.toNatClampNeg else none
def xtl (S : xS) (t : Int32) : Option (Nat × Nat) := if 0 ≤ t ∧ t ≤ 199 then gR S 11 0 t.toNatClampNeg else none
def xcl (S : xS) (c : Int32) : Option (Nat × Nat) := if 0 ≤ c ∧ c ≤ 19 then gR S 12 0 c.toNatClampNeg else none
theorem c_poolOf {S : xS} (hX : xShX S) (p : Int32) {r : Option (Nat × Nat)} (h : xpl S p = r) : CC mX8_poolOf 2 0 0 [xR (some (8, 0)), xI p] S (aR r S) := by
  subst h
  exact c_X8_poolOf hX p
theorem c_ticketOf {S : xS} (hX : xShX S) (p : Int32) {r : Option (Nat × Nat)} (h : xtl S p = r) : CC mX8_ticketOf 2 0 0 [xR (some (8, 0)), xI p] S (aR r S) := by
  subst h
  refine CC_of mpX8_ticketOf rfl (Nat.le_of_ble_eq_true rfl) ?_
  unfold xtl
  by_cases hp : 0 ≤ p ∧ p ≤ 199
  · rw [if_pos hp]
    obtain ⟨j, hj, rfl⟩ := nI_of2 (n := 199) rfl (Int32.not_lt.mpr hp.1) hp.2
    refine E_iload_n dX8_ticketOf_0 rfl rfl ?_
    refine E_iconst (v := 0) dX8_ticketOf_1 (by decide) ?_
    refine E_sipush (v := 199) dX8_ticketOf_2 (by decide) ?_
    refine E_callS (m2 := mX8_isWithin) dX8_ticketOf_5 kX8_48 mzX8_isWithin (c_X8_isWithin _ _ _) rfl rfl (by decide) (xs8 (Nat.le_of_ble_eq_true rfl)) (by first | exact Nat.le_of_ble_eq_true rfl | omega) (by first | exact Nat.le_of_ble_eq_true rfl | omega) ?_
    rintro _ _ ⟨rfl, rfl⟩; rw [if_pos hp]
    refine E_if_eq (tgt := 20) dX8_ticketOf_8 (by decide) (fun h8 => absurd h8 (by decide)) (fun h8 => ?_)
    refine E_aload_n dX8_ticketOf_11 rfl rfl ?_
    refine E_getR dX8_ticketOf_12 fX8_17 rfl rfl rfl (rX_8_1 hX) ?_
    refine E_iload_n dX8_ticketOf_15 rfl rfl ?_
    refine E_aald dX8_ticketOf_16 rfl rfl (by decide) (lX_11 hX) (vin (by omega : j < 200) (by omega)) (vnat (by omega : j < 200) (by omega)) rfl ?_
    refine E_goto (tgt := 21) dX8_ticketOf_17 (by decide) ?_
    refine E_aret dX8_ticketOf_21 rfl (Or.inl ⟨_, rfl⟩) ?_
    rw [vnat (by omega : j < 200) (by decide)]; exact ⟨rfl, rfl⟩
  · rw [if_neg hp]
    refine E_iload_n dX8_ticketOf_0 rfl rfl ?_
    refine E_iconst (v := 0) dX8_ticketOf_1 (by decide) ?_
    refine E_sipush (v := 199) dX8_ticketOf_2 (by decide) ?_
    refine E_callS (m2 := mX8_isWithin) dX8_ticketOf_5 kX8_48 mzX8_isWithin (c_X8_isWithin _ _ _) rfl rfl (by decide) (xs8 (Nat.le_of_ble_eq_true rfl)) (by first | exact Nat.le_of_ble_eq_true rfl | omega) (by first | exact Nat.le_of_ble_eq_true rfl | omega) ?_
    rintro _ _ ⟨rfl, rfl⟩; rw [if_neg hp]
    refine E_if_eq (tgt := 20) dX8_ticketOf_8 (by decide) (fun h8 => ?_) (fun h8 => absurd h8 (by decide))
    refine E_null dX8_ticketOf_20 ?_
    refine E_aret dX8_ticketOf_21 rfl (Or.inl ⟨_, rfl⟩) ?_
    exact ⟨rfl, rfl⟩
theorem c_clubOf {S : xS} (hX : xShX S) (p : Int32) {r : Option (Nat × Nat)} (h : xcl S p = r) : CC mX8_clubOf 2 0 0 [xR (some (8, 0)), xI p] S (aR r S) := by
  subst h
  refine CC_of mpX8_clubOf rfl (Nat.le_of_ble_eq_true rfl) ?_
  unfold xcl
  by_cases hp : 0 ≤ p ∧ p ≤ 19
  · rw [if_pos hp]
    obtain ⟨j, hj, rfl⟩ := nI_of2 (n := 19) rfl (Int32.not_lt.mpr hp.1) hp.2
    refine E_iload_n dX8_clubOf_0 rfl rfl ?_
    refine E_iconst (v := 0) dX8_clubOf_1 (by decide) ?_
    refine E_bipush (v := 19) dX8_clubOf_2 (by decide) ?_
    refine E_callS (m2 := mX8_isWithin) dX8_clubOf_4 kX8_48 mzX8_isWithin (c_X8_isWithin _ _ _) rfl rfl (by decide) (xs8 (Nat.le_of_ble_eq_true rfl)) (by first | exact Nat.le_of_ble_eq_true rfl | omega) (by first | exact Nat.le_of_ble_eq_true rfl | omega) ?_
    rintro _ _ ⟨rfl, rfl⟩; rw [if_pos hp]
    refine E_if_eq (tgt := 19) dX8_clubOf_7 (by decide) (fun h7 => absurd h7 (by decide)) (fun h7 => ?_)
    refine E_aload_n dX8_clubOf_10 rfl rfl ?_
    refine E_getR dX8_clubOf_11 fX8_23 rfl rfl rfl (rX_8_2 hX) ?_
    refine E_iload_n dX8_clubOf_14 rfl rfl ?_
    refine E_aald dX8_clubOf_15 rfl rfl (by decide) (lX_12 hX) (vin (by omega : j < 20) (by omega)) (vnat (by omega : j < 20) (by omega)) rfl ?_
    refine E_goto (tgt := 20) dX8_clubOf_16 (by decide) ?_
    refine E_aret dX8_clubOf_20 rfl (Or.inl ⟨_, rfl⟩) ?_
    rw [vnat (by omega : j < 20) (by decide)]; exact ⟨rfl, rfl⟩
  · rw [if_neg hp]
    refine E_iload_n dX8_clubOf_0 rfl rfl ?_
    refine E_iconst (v := 0) dX8_clubOf_1 (by decide) ?_
    refine E_bipush (v := 19) dX8_clubOf_2 (by decide) ?_
    refine E_callS (m2 := mX8_isWithin) dX8_clubOf_4 kX8_48 mzX8_isWithin (c_X8_isWithin _ _ _) rfl rfl (by decide) (xs8 (Nat.le_of_ble_eq_true rfl)) (by first | exact Nat.le_of_ble_eq_true rfl | omega) (by first | exact Nat.le_of_ble_eq_true rfl | omega) ?_
    rintro _ _ ⟨rfl, rfl⟩; rw [if_neg hp]
    refine E_if_eq (tgt := 19) dX8_clubOf_7 (by decide) (fun h7 => ?_) (fun h7 => absurd h7 (by decide))
    refine E_null dX8_clubOf_19 ?_
    refine E_aret dX8_clubOf_20 rfl (Or.inl ⟨_, rfl⟩) ?_
    exact ⟨rfl, rfl⟩
theorem c_thingOf_n {S : xS} (hX : xShX S) (p i : Int32) (h : xpl S p = none) : CC mX8_thingOf 3 0 0 [xR (some (8, 0)), xI p, xI i] S (aR none S) := by
  refine CC_of mpX8_thingOf rfl (Nat.le_of_ble_eq_true rfl) ?_
  refine E_aload_n dX8_thingOf_0 rfl rfl ?_
  refine E_iload_n dX8_thingOf_1 rfl rfl ?_
  refine E_callV (m2 := mX8_poolOf) dX8_thingOf_2 kX8_58 mzX8_poolOf (c_poolOf hX p h) rfl ⟨_, _, rfl⟩ rfl rfl (by decide) (xs8 (Nat.le_of_ble_eq_true rfl)) (by first | exact Nat.le_of_ble_eq_true rfl | omega) (by first | exact Nat.le_of_ble_eq_true rfl | omega) ?_
  rintro _ _ ⟨rfl, rfl⟩
  refine E_astore_n dX8_thingOf_5 rfl (by decide) rfl ?_
  refine E_aload_n dX8_thingOf_6 rfl rfl ?_
  refine E_ifnull (tgt := 28) dX8_thingOf_7 (by decide) (fun h7 => ?_) (fun q7 h7 => absurd h7 (by intro z; cases z))
  refine E_null dX8_thingOf_28 ?_
  refine E_aret dX8_thingOf_29 rfl (Or.inl ⟨_, rfl⟩) ?_
  exact ⟨rfl, rfl⟩
theorem c_thingOf_o {S : xS} (hX : xShX S) (p i : Int32) {P : Nat} (h : xpl S p = some (3, P)) (hi : ¬ (0 ≤ i ∧ i ≤ 2)) : CC mX8_thingOf 3 0 0 [xR (some (8, 0)), xI p, xI i] S (aR none S) := by
  refine CC_of mpX8_thingOf rfl (Nat.le_of_ble_eq_true rfl) ?_
  refine E_aload_n dX8_thingOf_0 rfl rfl ?_
  refine E_iload_n dX8_thingOf_1 rfl rfl ?_
  refine E_callV (m2 := mX8_poolOf) dX8_thingOf_2 kX8_58 mzX8_poolOf (c_poolOf hX p h) rfl ⟨_, _, rfl⟩ rfl rfl (by decide) (xs8 (Nat.le_of_ble_eq_true rfl)) (by first | exact Nat.le_of_ble_eq_true rfl | omega) (by first | exact Nat.le_of_ble_eq_true rfl | omega) ?_
  rintro _ _ ⟨rfl, rfl⟩
  refine E_astore_n dX8_thingOf_5 rfl (by decide) rfl ?_
  refine E_aload_n dX8_thingOf_6 rfl rfl ?_
  refine E_ifnull (tgt := 28) dX8_thingOf_7 (by decide) (fun h7 => ?_) (fun q7 h7 => ?_)
  · cases h7
  · refine E_iload_n dX8_thingOf_10 rfl rfl ?_
    refine E_iconst (v := 0) dX8_thingOf_11 (by decide) ?_
    refine E_iconst (v := 2) dX8_thingOf_12 (by decide) ?_
    refine E_callS (m2 := mX8_isWithin) dX8_thingOf_13 kX8_48 mzX8_isWithin (c_X8_isWithin _ _ _) rfl rfl (by decide) (xs8 (Nat.le_of_ble_eq_true rfl)) (by first | exact Nat.le_of_ble_eq_true rfl | omega) (by first | exact Nat.le_of_ble_eq_true rfl | omega) ?_
    rintro _ _ ⟨rfl, rfl⟩; rw [if_neg hi]
    refine E_if_eq (tgt := 28) dX8_thingOf_16 (by decide) (fun h16 => ?_) (fun h16 => absurd h16 (by decide))
    refine E_null dX8_thingOf_28 ?_
    refine E_aret dX8_thingOf_29 rfl (Or.inl ⟨_, rfl⟩) ?_
    exact ⟨rfl, rfl⟩
theorem c_thingOf_s {S : xS} (hX : xShX S) (p : Int32) {P n i : Nat} (h : xpl S p = some (3, P)) (hp : xShP S P n) (hi : i < 3) : CC mX8_thingOf 3 0 0 [xR (some (8, 0)), xI p, xI (nI i)] S (aR (some (6, 3 * P + i)) S) := by
  refine CC_of mpX8_thingOf rfl (Nat.le_of_ble_eq_true rfl) ?_
  have h1 : (0 : Int32) ≤ nI i ∧ nI i ≤ 2 := ⟨nI_le (a := 0) (by omega) (by omega), nI_le (b := 2) (by omega) (by omega)⟩
  refine E_aload_n dX8_thingOf_0 rfl rfl ?_
  refine E_iload_n dX8_thingOf_1 rfl rfl ?_
  refine E_callV (m2 := mX8_poolOf) dX8_thingOf_2 kX8_58 mzX8_poolOf (c_poolOf hX p h) rfl ⟨_, _, rfl⟩ rfl rfl (by decide) (xs8 (Nat.le_of_ble_eq_true rfl)) (by first | exact Nat.le_of_ble_eq_true rfl | omega) (by first | exact Nat.le_of_ble_eq_true rfl | omega) ?_
  rintro _ _ ⟨rfl, rfl⟩
  refine E_astore_n dX8_thingOf_5 rfl (by decide) rfl ?_
  refine E_aload_n dX8_thingOf_6 rfl rfl ?_
  refine E_ifnull (tgt := 28) dX8_thingOf_7 (by decide) (fun h7 => ?_) (fun q7 h7 => ?_)
  · cases h7
  · refine E_iload_n dX8_thingOf_10 rfl rfl ?_
    refine E_iconst (v := 0) dX8_thingOf_11 (by decide) ?_
    refine E_iconst (v := 2) dX8_thingOf_12 (by decide) ?_
    refine E_callS (m2 := mX8_isWithin) dX8_thingOf_13 kX8_48 mzX8_isWithin (c_X8_isWithin _ _ _) rfl rfl (by decide) (xs8 (Nat.le_of_ble_eq_true rfl)) (by first | exact Nat.le_of_ble_eq_true rfl | omega) (by first | exact Nat.le_of_ble_eq_true rfl | omega) ?_
    rintro _ _ ⟨rfl, rfl⟩; rw [if_pos h1]
    refine E_if_eq (tgt := 28) dX8_thingOf_16 (by decide) (fun h16 => absurd h16 (by decide)) (fun h16 => ?_)
    refine E_aload_n dX8_thingOf_19 rfl rfl ?_
    refine E_getR dX8_thingOf_20 fX8_311 rfl rfl rfl (rP_4 hp) ?_
    refine E_iload_n dX8_thingOf_23 rfl rfl ?_
    refine E_aald dX8_thingOf_24 rfl rfl (by decide) (lP_18 hp) (vin hi (by omega)) (vnat hi (by omega)) (rP_18 hp hi) ?_
    refine E_goto (tgt := 29) dX8_thingOf_25 (by decide) ?_
    refine E_aret dX8_thingOf_29 rfl (Or.inl ⟨_, rfl⟩) ?_
    exact ⟨rfl, rfl⟩
theorem c_postOf_n {S : xS} (hX : xShX S) (p i : Int32) (h : xpl S p = none) : CC mX8_postOf 3 0 0 [xR (some (8, 0)), xI p, xI i] S (aR none S) := by
  refine CC_of mpX8_postOf rfl (Nat.le_of_ble_eq_true rfl) ?_
  refine E_aload_n dX8_postOf_0 rfl rfl ?_
  refine E_iload_n dX8_postOf_1 rfl rfl ?_
  refine E_callV (m2 := mX8_poolOf) dX8_postOf_2 kX8_58 mzX8_poolOf (c_poolOf hX p h) rfl ⟨_, _, rfl⟩ rfl rfl (by decide) (xs8 (Nat.le_of_ble_eq_true rfl)) (by first | exact Nat.le_of_ble_eq_true rfl | omega) (by first | exact Nat.le_of_ble_eq_true rfl | omega) ?_
  rintro _ _ ⟨rfl, rfl⟩
  refine E_astore_n dX8_postOf_5 rfl (by decide) rfl ?_
  refine E_aload_n dX8_postOf_6 rfl rfl ?_
  refine E_ifnull (tgt := 34) dX8_postOf_7 (by decide) (fun h7 => ?_) (fun q7 h7 => absurd h7 (by intro z; cases z))
  refine E_null dX8_postOf_34 ?_
  refine E_aret dX8_postOf_35 rfl (Or.inl ⟨_, rfl⟩) ?_
  exact ⟨rfl, rfl⟩
theorem c_postOf_o {S : xS} (hX : xShX S) (p i : Int32) {P n : Nat} (h : xpl S p = some (3, P)) (hp : xShP S P n) (hi : ¬ (0 ≤ i ∧ i ≤ nI n - 1)) : CC mX8_postOf 3 0 0 [xR (some (8, 0)), xI p, xI i] S (aR none S) := by
  refine CC_of mpX8_postOf rfl (Nat.le_of_ble_eq_true rfl) ?_
  refine E_aload_n dX8_postOf_0 rfl rfl ?_
  refine E_iload_n dX8_postOf_1 rfl rfl ?_
  refine E_callV (m2 := mX8_poolOf) dX8_postOf_2 kX8_58 mzX8_poolOf (c_poolOf hX p h) rfl ⟨_, _, rfl⟩ rfl rfl (by decide) (xs8 (Nat.le_of_ble_eq_true rfl)) (by first | exact Nat.le_of_ble_eq_true rfl | omega) (by first | exact Nat.le_of_ble_eq_true rfl | omega) ?_
  rintro _ _ ⟨rfl, rfl⟩
  refine E_astore_n dX8_postOf_5 rfl (by decide) rfl ?_
  refine E_aload_n dX8_postOf_6 rfl rfl ?_
  refine E_ifnull (tgt := 34) dX8_postOf_7 (by decide) (fun h7 => ?_) (fun q7 h7 => ?_)
  · cases h7
  · refine E_iload_n dX8_postOf_10 rfl rfl ?_
    refine E_iconst (v := 0) dX8_postOf_11 (by decide) ?_
    refine E_aload_n dX8_postOf_12 rfl rfl ?_
    refine E_getR dX8_postOf_13 fX8_315 rfl rfl rfl (rP_3 hp) ?_
    refine E_alen dX8_postOf_16 rfl (by decide) (lP_17 hp) (Eq.refl (nI _)) ?_
    refine E_iconst (v := 1) dX8_postOf_17 (by decide) ?_
    refine E_isub dX8_postOf_18 ?_
    refine E_callS (m2 := mX8_isWithin) dX8_postOf_19 kX8_48 mzX8_isWithin (c_X8_isWithin _ _ _) rfl rfl (by decide) (xs8 (Nat.le_of_ble_eq_true rfl)) (by first | exact Nat.le_of_ble_eq_true rfl | omega) (by first | exact Nat.le_of_ble_eq_true rfl | omega) ?_
    rintro _ _ ⟨rfl, rfl⟩; rw [if_neg hi]
    refine E_if_eq (tgt := 34) dX8_postOf_22 (by decide) (fun h22 => ?_) (fun h22 => absurd h22 (by decide))
    refine E_null dX8_postOf_34 ?_
    refine E_aret dX8_postOf_35 rfl (Or.inl ⟨_, rfl⟩) ?_
    exact ⟨rfl, rfl⟩
theorem c_postOf_s {S : xS} (hX : xShX S) (p : Int32) {P n i : Nat} (h : xpl S p = some (3, P)) (hp : xShP S P n) (hi : i < n) (h1 : (0 : Int32) ≤ nI i ∧ nI i ≤ nI n - 1) : CC mX8_postOf 3 0 0 [xR (some (8, 0)), xI p, xI (nI i)] S (aR (some (4, 3 * P + i)) S) := by
  refine CC_of mpX8_postOf rfl (Nat.le_of_ble_eq_true rfl) ?_
  have hn := hp.1
  refine E_aload_n dX8_postOf_0 rfl rfl ?_
  refine E_iload_n dX8_postOf_1 rfl rfl ?_
  refine E_callV (m2 := mX8_poolOf) dX8_postOf_2 kX8_58 mzX8_poolOf (c_poolOf hX p h) rfl ⟨_, _, rfl⟩ rfl rfl (by decide) (xs8 (Nat.le_of_ble_eq_true rfl)) (by first | exact Nat.le_of_ble_eq_true rfl | omega) (by first | exact Nat.le_of_ble_eq_true rfl | omega) ?_
  rintro _ _ ⟨rfl, rfl⟩
  refine E_astore_n dX8_postOf_5 rfl (by decide) rfl ?_
  refine E_aload_n dX8_postOf_6 rfl rfl ?_
  refine E_ifnull (tgt := 34) dX8_postOf_7 (by decide) (fun h7 => ?_) (fun q7 h7 => ?_)
  · cases h7
  · refine E_iload_n dX8_postOf_10 rfl rfl ?_
    refine E_iconst (v := 0) dX8_postOf_11 (by decide) ?_
    refine E_aload_n dX8_postOf_12 rfl rfl ?_
    refine E_getR dX8_postOf_13 fX8_315 rfl rfl rfl (rP_3 hp) ?_
    refine E_alen dX8_postOf_16 rfl (by decide) (lP_17 hp) (Eq.refl (nI _)) ?_
    refine E_iconst (v := 1) dX8_postOf_17 (by decide) ?_
    refine E_isub dX8_postOf_18 ?_
    refine E_callS (m2 := mX8_isWithin) dX8_postOf_19 kX8_48 mzX8_isWithin (c_X8_isWithin _ _ _) rfl rfl (by decide) (xs8 (Nat.le_of_ble_eq_true rfl)) (by first | exact Nat.le_of_ble_eq_true rfl | omega) (by first | exact Nat.le_of_ble_eq_true rfl | omega) ?_
    rintro _ _ ⟨rfl, rfl⟩; rw [if_pos h1]
    refine E_if_eq (tgt := 34) dX8_postOf_22 (by decide) (fun h22 => absurd h22 (by decide)) (fun h22 => ?_)
    refine E_aload_n dX8_postOf_25 rfl rfl ?_
    refine E_getR dX8_postOf_26 fX8_315 rfl rfl rfl (rP_3 hp) ?_
    refine E_iload_n dX8_postOf_29 rfl rfl ?_
    refine E_aald dX8_postOf_30 rfl rfl (by decide) (lP_17 hp) (vin hi (by omega)) (vnat hi (by omega)) (rP_17 hp hi) ?_
    refine E_goto (tgt := 35) dX8_postOf_31 (by decide) ?_
    refine E_aret dX8_postOf_35 rfl (Or.inl ⟨_, rfl⟩) ?_
    exact ⟨rfl, rfl⟩
/-- whether it is a ticket's time; whether it lacks a teacher -/
def xit (S : xS) (t : Nat) (x : Int32) : Int32 := match (gR S 7 t 4) with
  | none => if ¬ (gI S 7 t 2) = 4 ∨ (gI S 7 t 9) = 0 then 1 else 0
  | some q => if (gI S 0 q.2 2) ≤ x ∧ x < (gI S 0 q.2 4) then 1 else 0
def xlt (S : xS) (t : Nat) : Int32 := match (gR S 7 t 4) with
  | none => 0
  | some q => if (gI S 7 t 2) = 3 ∧ (gI S 7 t 5) = 0 ∧ (gI S 0 q.2 3) * (gI S 0 q.2 6) < (gI S 0 q.2 5) + 1 then 1 else 0
theorem c_isItsTime {S : xS} (t : Nat) (x : Int32) (hc : ∀ q, (gR S 7 t 4) = some q → q.1 = 0) : CC mX7_isItsTime 2 0 0 [xR (some (7, t)), xI x] S (aI (xit S t x) S) := by
  unfold xit
  cases hq : (gR S 7 t 4) with
  | none => exact c_X7_isItsTime_n t x hq
  | some q =>
    obtain ⟨k, c⟩ := q
    have hk : k = 0 := hc _ hq
    subst hk
    exact c_X7_isItsTime_s t c x hq
theorem c_lacksTeacher {S : xS} (t : Nat) (hc : ∀ q, (gR S 7 t 4) = some q → q.1 = 0) : CC mX7_lacksTeacher 1 0 0 [xR (some (7, t))] S (aI (xlt S t) S) := by
  unfold xlt
  cases hq : (gR S 7 t 4) with
  | none => exact c_X7_lacksTeacher_n t hq
  | some q =>
    obtain ⟨k, c⟩ := q
    have hk : k = 0 := hc _ hq
    subst hk
    exact c_X7_lacksTeacher_s t c hq
/-- the reason against a head; against a ticket -/
def xrh (S : xS) (t P n : Nat) : Int32 := if xit S t (gI S 8 0 5) = 0 then 2 else if ¬ xrs S P n (gI S 8 0 5) = 0 then 3 else if (gI S 3 P 1) ≤ xmn S P then 4 else if xlt S t = 0 then 0 else 5
def xrg (S : xS) (t P n : Nat) : Int32 := if ¬ (gI S 7 t 6) = 0 then 1 else if ¬ (if (gI S 7 t 2) = 5 then 0 else xrh S t P n) = 0 then (if (gI S 7 t 2) = 5 then 0 else xrh S t P n) else if 3 ≤ (gI S 1 P 5) then 6 else 0
theorem c_reasonAgainstHead {S : xS} (t P n : Nat) (ht : (gR S 7 t 1) = some (3, P)) (hp : xShP S P n) (hc : ∀ q, (gR S 7 t 4) = some q → q.1 = 0) : CC mX8_reasonAgainstHead 4 0 0 [xR (some (8, 0)), xR (some (7, t))] S (aI (xrh S t P n) S) := by
  refine CC_of mpX8_reasonAgainstHead rfl (Nat.le_of_ble_eq_true rfl) ?_
  unfold xrh
  refine E_aload_n dX8_reasonAgainstHead_0 rfl rfl ?_
  refine E_getR dX8_reasonAgainstHead_1 fX8_108 rfl rfl rfl ht ?_
  refine E_astore_n dX8_reasonAgainstHead_4 rfl (by decide) rfl ?_
  refine E_aload_n dX8_reasonAgainstHead_5 rfl rfl ?_
  refine E_aload_n dX8_reasonAgainstHead_6 rfl rfl ?_
  refine E_getI dX8_reasonAgainstHead_7 fX8_45 rfl rfl rfl rfl ?_
  refine E_callV (m2 := mX7_isItsTime) dX8_reasonAgainstHead_10 kX8_349 mzX7_isItsTime (c_isItsTime t _ hc) rfl ⟨_, _, rfl⟩ rfl rfl (by decide) (xs8 (Nat.le_of_ble_eq_true rfl)) (by first | exact Nat.le_of_ble_eq_true rfl | omega) (by first | exact Nat.le_of_ble_eq_true rfl | omega) ?_
  rintro _ _ ⟨rfl, rfl⟩
  refine E_if_ne (tgt := 18) dX8_reasonAgainstHead_13 (by decide) (fun h13 => ?_) (fun h13 => ?_)
  · refine E_aload_n dX8_reasonAgainstHead_18 rfl rfl ?_
    refine E_aload_n dX8_reasonAgainstHead_19 rfl rfl ?_
    refine E_getI dX8_reasonAgainstHead_20 fX8_45 rfl rfl rfl rfl ?_
    refine E_callV (m2 := mX3_reasonsIn) dX8_reasonAgainstHead_23 kX8_213 mzX3_reasonsIn (c_X3_reasonsIn P n hp _) rfl ⟨_, _, rfl⟩ rfl rfl (by decide) (xs8 (Nat.le_of_ble_eq_true rfl)) (by first | exact Nat.le_of_ble_eq_true rfl | omega) (by first | exact Nat.le_of_ble_eq_true rfl | omega) ?_
    rintro _ _ ⟨rfl, rfl⟩
    refine E_if_eq (tgt := 31) dX8_reasonAgainstHead_26 (by decide) (fun h26 => ?_) (fun h26 => ?_)
    · refine E_aload_n dX8_reasonAgainstHead_31 rfl rfl ?_
      refine E_getR dX8_reasonAgainstHead_32 fX8_120 rfl rfl rfl (rP_5 hp) ?_
      refine E_callV (m2 := mX1_mostNow) dX8_reasonAgainstHead_35 kX8_166 mzX1_mostNow (c_X1_mostNow P) rfl ⟨_, _, rfl⟩ rfl rfl (by decide) (xs8 (Nat.le_of_ble_eq_true rfl)) (by first | exact Nat.le_of_ble_eq_true rfl | omega) (by first | exact Nat.le_of_ble_eq_true rfl | omega) ?_
      rintro _ _ ⟨rfl, rfl⟩
      refine E_aload_n dX8_reasonAgainstHead_38 rfl rfl ?_
      refine E_getI dX8_reasonAgainstHead_39 fX8_172 rfl rfl rfl rfl ?_
      refine E_icmp_lt (tgt := 47) dX8_reasonAgainstHead_42 (by decide) (fun h42 => ?_) (fun h42 => ?_)
      · refine E_aload_n dX8_reasonAgainstHead_47 rfl rfl ?_
        refine E_callV (m2 := mX7_lacksTeacher) dX8_reasonAgainstHead_48 kX8_352 mzX7_lacksTeacher (c_lacksTeacher t hc) rfl ⟨_, _, rfl⟩ rfl rfl (by decide) (xs8 (Nat.le_of_ble_eq_true rfl)) (by first | exact Nat.le_of_ble_eq_true rfl | omega) (by first | exact Nat.le_of_ble_eq_true rfl | omega) ?_
        rintro _ _ ⟨rfl, rfl⟩
        refine E_if_eq (tgt := 58) dX8_reasonAgainstHead_51 (by decide) (fun h51 => ?_) (fun h51 => ?_)
        · refine E_iconst (v := 0) dX8_reasonAgainstHead_58 (by decide) ?_
          refine E_iret dX8_reasonAgainstHead_59 rfl rfl ?_
          refine ⟨congrArg (fun z => some (xI z)) ?_, rfl⟩; simp_all [Int32.not_le]
        · refine E_iconst (v := 5) dX8_reasonAgainstHead_54 (by decide) ?_
          refine E_goto (tgt := 59) dX8_reasonAgainstHead_55 (by decide) ?_
          refine E_iret dX8_reasonAgainstHead_59 rfl rfl ?_
          refine ⟨congrArg (fun z => some (xI z)) ?_, rfl⟩; simp_all [Int32.not_le]
      · refine E_iconst (v := 4) dX8_reasonAgainstHead_45 (by decide) ?_
        refine E_iret dX8_reasonAgainstHead_46 rfl rfl ?_
        refine ⟨congrArg (fun z => some (xI z)) ?_, rfl⟩; simp_all [Int32.not_le]
    · refine E_iconst (v := 3) dX8_reasonAgainstHead_29 (by decide) ?_
      refine E_iret dX8_reasonAgainstHead_30 rfl rfl ?_
      refine ⟨congrArg (fun z => some (xI z)) ?_, rfl⟩; simp_all [Int32.not_le]
  · refine E_iconst (v := 2) dX8_reasonAgainstHead_16 (by decide) ?_
    refine E_iret dX8_reasonAgainstHead_17 rfl rfl ?_
    refine ⟨congrArg (fun z => some (xI z)) ?_, rfl⟩; simp_all [Int32.not_le]
theorem c_reasonAgainst {S : xS} (t P n : Nat) (ht : (gR S 7 t 1) = some (3, P)) (hp : xShP S P n) (hc : ∀ q, (gR S 7 t 4) = some q → q.1 = 0) : CC mX8_reasonAgainst 5 0 0 [xR (some (8, 0)), xR (some (7, t))] S (aI (xrg S t P n) S) := by
  refine CC_of mpX8_reasonAgainst rfl (Nat.le_of_ble_eq_true rfl) ?_
  unfold xrg
  generalize hz : xrh S t P n = z
  refine E_aload_n dX8_reasonAgainst_0 rfl rfl ?_
  refine E_getI dX8_reasonAgainst_1 fX8_116 rfl rfl rfl rfl ?_
  refine E_if_eq (tgt := 9) dX8_reasonAgainst_4 (by decide) (fun h4 => ?_) (fun h4 => ?_)
  · refine E_aload_n dX8_reasonAgainst_9 rfl rfl ?_
    refine E_getI dX8_reasonAgainst_10 fX8_262 rfl rfl rfl rfl ?_
    refine E_iconst (v := 5) dX8_reasonAgainst_13 (by decide) ?_
    refine E_icmp_ne (tgt := 21) dX8_reasonAgainst_14 (by decide) (fun h14 => ?_) (fun h14 => ?_)
    · refine E_aload_n dX8_reasonAgainst_21 rfl rfl ?_
      refine E_aload_n dX8_reasonAgainst_22 rfl rfl ?_
      refine E_callV (m2 := mX8_reasonAgainstHead) dX8_reasonAgainst_23 kX8_343 mzX8_reasonAgainstHead (c_reasonAgainstHead t P n ht hp hc) rfl ⟨_, _, rfl⟩ rfl rfl (by decide) (xs8 (Nat.le_of_ble_eq_true rfl)) (by first | exact Nat.le_of_ble_eq_true rfl | omega) (by first | exact Nat.le_of_ble_eq_true rfl | omega) ?_
      rintro _ _ ⟨rfl, rfl⟩; rw [hz]
      refine E_istore_n dX8_reasonAgainst_26 rfl (by decide) rfl ?_
      refine E_iload_n dX8_reasonAgainst_27 rfl rfl ?_
      refine E_if_eq (tgt := 33) dX8_reasonAgainst_28 (by decide) (fun h28 => ?_) (fun h28 => ?_)
      · refine E_aload_n dX8_reasonAgainst_33 rfl rfl ?_
        refine E_getR dX8_reasonAgainst_34 fX8_108 rfl rfl rfl ht ?_
        refine E_getR dX8_reasonAgainst_37 fX8_120 rfl rfl rfl (rP_5 hp) ?_
        refine E_getI dX8_reasonAgainst_40 fX8_346 rfl rfl rfl rfl ?_
        refine E_iconst (v := 3) dX8_reasonAgainst_43 (by decide) ?_
        refine E_icmp_lt (tgt := 52) dX8_reasonAgainst_44 (by decide) (fun h44 => ?_) (fun h44 => ?_)
        · refine E_iconst (v := 0) dX8_reasonAgainst_52 (by decide) ?_
          refine E_iret dX8_reasonAgainst_53 rfl rfl ?_
          refine ⟨congrArg (fun z => some (xI z)) ?_, rfl⟩; simp_all
        · refine E_bipush (v := 6) dX8_reasonAgainst_47 (by decide) ?_
          refine E_goto (tgt := 53) dX8_reasonAgainst_49 (by decide) ?_
          refine E_iret dX8_reasonAgainst_53 rfl rfl ?_
          refine ⟨congrArg (fun z => some (xI z)) ?_, rfl⟩; simp_all
      · refine E_iload_n dX8_reasonAgainst_31 rfl rfl ?_
        refine E_iret dX8_reasonAgainst_32 rfl rfl ?_
        refine ⟨congrArg (fun z => some (xI z)) ?_, rfl⟩; simp_all
    · refine E_iconst (v := 0) dX8_reasonAgainst_17 (by decide) ?_
      refine E_goto (tgt := 26) dX8_reasonAgainst_18 (by decide) ?_
      refine E_istore_n dX8_reasonAgainst_26 rfl (by decide) rfl ?_
      refine E_iload_n dX8_reasonAgainst_27 rfl rfl ?_
      refine E_if_eq (tgt := 33) dX8_reasonAgainst_28 (by decide) (fun h28 => ?_) (fun h28 => absurd h28 (by decide))
      refine E_aload_n dX8_reasonAgainst_33 rfl rfl ?_
      refine E_getR dX8_reasonAgainst_34 fX8_108 rfl rfl rfl ht ?_
      refine E_getR dX8_reasonAgainst_37 fX8_120 rfl rfl rfl (rP_5 hp) ?_
      refine E_getI dX8_reasonAgainst_40 fX8_346 rfl rfl rfl rfl ?_
      refine E_iconst (v := 3) dX8_reasonAgainst_43 (by decide) ?_
      refine E_icmp_lt (tgt := 52) dX8_reasonAgainst_44 (by decide) (fun h44 => ?_) (fun h44 => ?_)
      · refine E_iconst (v := 0) dX8_reasonAgainst_52 (by decide) ?_
        refine E_iret dX8_reasonAgainst_53 rfl rfl ?_
        refine ⟨congrArg (fun z => some (xI z)) ?_, rfl⟩; simp_all
      · refine E_bipush (v := 6) dX8_reasonAgainst_47 (by decide) ?_
        refine E_goto (tgt := 53) dX8_reasonAgainst_49 (by decide) ?_
        refine E_iret dX8_reasonAgainst_53 rfl rfl ?_
        refine ⟨congrArg (fun z => some (xI z)) ?_, rfl⟩; simp_all
  · refine E_iconst (v := 1) dX8_reasonAgainst_7 (by decide) ?_
    refine E_iret dX8_reasonAgainst_8 rfl rfl ?_
    refine ⟨congrArg (fun z => some (xI z)) ?_, rfl⟩; simp_all
/-! the pools, one after the other -/
/-- what is inside all pools: the first n -/
def xin (S : xS) (p : Nat) : Int32 := match gR S 10 0 p with
  | none => 0
  | some q => (gI S 3 q.2 6)
theorem l_X8_inside {S : xS} (hX : xShX S) (hq : ∀ p, p < 4 → ∀ q, gR S 10 0 p = some q → q.1 = 3) : ∀ (n i : Nat), i + n = 4 → ∀ (v : Int32) (o : Option xV), v = xsm (xin S) i → Ex mX8_insideAllPools 1 0 0 (0, fun _ => 0) (aI (xsm (xin S) 4) S) 4 [some (xR (some (8, 0))), some (xI v), some (xI (nI i)), o] [] S
  | 0, i, hi, v, o, hv => by
    refine E_iload_n dX8_insideAllPools_4 rfl rfl ?_
    refine E_iconst (v := 4) dX8_insideAllPools_5 (by decide) ?_
    refine E_icmp_ge (tgt := 37) dX8_insideAllPools_6 (by decide) (fun h6 => ?_) (fun h6 => absurd h6 ((fun z => z (nI_le (a := 4) (b := i) (by omega) (by omega)))))
    refine E_iload_n dX8_insideAllPools_37 rfl rfl ?_
    refine E_iret dX8_insideAllPools_38 rfl rfl ?_
    exact ⟨by rw [hv, show i = 4 by omega], rfl⟩
  | n + 1, i, hi, v, o, hv => by
    cases hr : gR S 10 0 i with
    | none =>
      refine E_iload_n dX8_insideAllPools_4 rfl rfl ?_
      refine E_iconst (v := 4) dX8_insideAllPools_5 (by decide) ?_
      refine E_icmp_ge (tgt := 37) dX8_insideAllPools_6 (by decide) (fun h6 => absurd h6 ((nI_ge (a := i) (b := 4) (by omega) (by omega)))) (fun h6 => ?_)
      refine E_aload_n dX8_insideAllPools_9 rfl rfl ?_
      refine E_getR dX8_insideAllPools_10 fX8_11 rfl rfl rfl (rX_8_0 hX) ?_
      refine E_iload_n dX8_insideAllPools_13 rfl rfl ?_
      refine E_aald dX8_insideAllPools_14 rfl rfl (by decide) (lX_10 hX) (vin (by omega : i < 4) (by omega)) (vnat (by omega : i < 4) (by omega)) hr ?_
      refine E_astore_n dX8_insideAllPools_15 rfl (by decide) rfl ?_
      refine E_iload_n dX8_insideAllPools_16 rfl rfl ?_
      refine E_aload_n dX8_insideAllPools_17 rfl rfl ?_
      refine E_ifnonnull (tgt := 25) dX8_insideAllPools_18 (by decide) (fun q18 h18 => absurd h18 (by intro z; cases z)) (fun h18 => ?_)
      refine E_iconst (v := 0) dX8_insideAllPools_21 (by decide) ?_
      refine E_goto (tgt := 29) dX8_insideAllPools_22 (by decide) ?_
      refine E_iadd dX8_insideAllPools_29 ?_
      refine E_istore_n dX8_insideAllPools_30 rfl (by decide) rfl ?_
      refine E_iinc (v := nI (i + 1)) dX8_insideAllPools_31 rfl (nI_i1 i) (by decide) rfl ?_
      refine E_goto (tgt := 4) dX8_insideAllPools_34 (by decide) ?_
      refine l_X8_inside hX hq n (i + 1) (by omega) _ _ ?_
      rw [xsm_succ, ← hv]; congr 1; unfold xin; rw [hr]
    | some q =>
      obtain ⟨k, P⟩ := q
      have hk : k = 3 := hq i (by omega) _ hr
      subst hk
      refine E_iload_n dX8_insideAllPools_4 rfl rfl ?_
      refine E_iconst (v := 4) dX8_insideAllPools_5 (by decide) ?_
      refine E_icmp_ge (tgt := 37) dX8_insideAllPools_6 (by decide) (fun h6 => absurd h6 ((nI_ge (a := i) (b := 4) (by omega) (by omega)))) (fun h6 => ?_)
      refine E_aload_n dX8_insideAllPools_9 rfl rfl ?_
      refine E_getR dX8_insideAllPools_10 fX8_11 rfl rfl rfl (rX_8_0 hX) ?_
      refine E_iload_n dX8_insideAllPools_13 rfl rfl ?_
      refine E_aald dX8_insideAllPools_14 rfl rfl (by decide) (lX_10 hX) (vin (by omega : i < 4) (by omega)) (vnat (by omega : i < 4) (by omega)) hr ?_
      refine E_astore_n dX8_insideAllPools_15 rfl (by decide) rfl ?_
      refine E_iload_n dX8_insideAllPools_16 rfl rfl ?_
      refine E_aload_n dX8_insideAllPools_17 rfl rfl ?_
      refine E_ifnonnull (tgt := 25) dX8_insideAllPools_18 (by decide) (fun q18 h18 => ?_) (fun h18 => ?_)
      · refine E_aload_n dX8_insideAllPools_25 rfl rfl ?_
        refine E_getI dX8_insideAllPools_26 fX8_156 rfl rfl rfl rfl ?_
        refine E_iadd dX8_insideAllPools_29 ?_
        refine E_istore_n dX8_insideAllPools_30 rfl (by decide) rfl ?_
        refine E_iinc (v := nI (i + 1)) dX8_insideAllPools_31 rfl (nI_i1 i) (by decide) rfl ?_
        refine E_goto (tgt := 4) dX8_insideAllPools_34 (by decide) ?_
        refine l_X8_inside hX hq n (i + 1) (by omega) _ _ ?_
        rw [xsm_succ, ← hv]; congr 1; unfold xin; rw [hr]
      · cases h18
theorem c_insideAllPools {S : xS} (hX : xShX S) (hq : ∀ p, p < 4 → ∀ q, gR S 10 0 p = some q → q.1 = 3) : CC mX8_insideAllPools 1 0 0 [xR (some (8, 0))] S (aI (xsm (xin S) 4) S) := by
  refine CC_of mpX8_insideAllPools rfl (Nat.le_of_ble_eq_true rfl) ?_
  refine E_iconst (v := 0) dX8_insideAllPools_0 (by decide) ?_
  refine E_istore_n dX8_insideAllPools_1 rfl (by decide) rfl ?_
  refine E_iconst (v := 0) dX8_insideAllPools_2 (by decide) ?_
  refine E_istore_n dX8_insideAllPools_3 rfl (by decide) rfl ?_
  exact l_X8_inside hX hq 4 0 rfl 0 _ rfl
/-! how many bits -/
def xbc1 (x : Int32) : Int32 := x - ((x.toUInt32 >>> ((1 : Int32).toUInt32 &&& Int32.toUInt32 31)).toInt32 &&& 1431655765)
def xbc2 (x : Int32) : Int32 := (x &&& 858993459) + ((x.toUInt32 >>> ((2 : Int32).toUInt32 &&& Int32.toUInt32 31)).toInt32 &&& 858993459)
def xbc3 (x : Int32) : Int32 := (x + (x.toUInt32 >>> ((4 : Int32).toUInt32 &&& Int32.toUInt32 31)).toInt32) &&& 252645135
def xbc4 (x : Int32) : Int32 := x + (x.toUInt32 >>> ((8 : Int32).toUInt32 &&& Int32.toUInt32 31)).toInt32
def xbc5 (x : Int32) : Int32 := x + (x.toUInt32 >>> ((16 : Int32).toUInt32 &&& Int32.toUInt32 31)).toInt32
def xbc (x : Int32) : Int32 := xbc5 (xbc4 (xbc3 (xbc2 (xbc1 x)))) &&& 63
theorem c_bitCount {S : xS} (x : Int32) : CC mJ6_bitCount_0f7a4 1 0 0 [xI x] S (aI (xbc x) S) := by
  refine CC_of mpJ6_bitCount_0f7a4 rfl (Nat.le_of_ble_eq_true rfl) ?_
  refine E_iload_n dJ6_bitCount_0f7a4_0 rfl rfl ?_
  refine E_iload_n dJ6_bitCount_0f7a4_1 rfl rfl ?_
  refine E_iconst (v := 1) dJ6_bitCount_0f7a4_2 (by decide) ?_
  refine E_iushr dJ6_bitCount_0f7a4_3 rfl ?_
  refine E_ldcw dJ6_bitCount_0f7a4_4 oJ6_265 ?_
  refine E_iand dJ6_bitCount_0f7a4_7 ?_
  refine E_isub dJ6_bitCount_0f7a4_8 ?_
  refine E_istore_n dJ6_bitCount_0f7a4_9 rfl (by decide) rfl ?_
  refine E_iload_n dJ6_bitCount_0f7a4_10 rfl rfl ?_
  refine E_ldcw dJ6_bitCount_0f7a4_11 oJ6_266 ?_
  refine E_iand dJ6_bitCount_0f7a4_14 ?_
  refine E_iload_n dJ6_bitCount_0f7a4_15 rfl rfl ?_
  refine E_iconst (v := 2) dJ6_bitCount_0f7a4_16 (by decide) ?_
  refine E_iushr dJ6_bitCount_0f7a4_17 rfl ?_
  refine E_ldcw dJ6_bitCount_0f7a4_18 oJ6_266 ?_
  refine E_iand dJ6_bitCount_0f7a4_21 ?_
  refine E_iadd dJ6_bitCount_0f7a4_22 ?_
  refine E_istore_n dJ6_bitCount_0f7a4_23 rfl (by decide) rfl ?_
  refine E_iload_n dJ6_bitCount_0f7a4_24 rfl rfl ?_
  refine E_iload_n dJ6_bitCount_0f7a4_25 rfl rfl ?_
  refine E_iconst (v := 4) dJ6_bitCount_0f7a4_26 (by decide) ?_
  refine E_iushr dJ6_bitCount_0f7a4_27 rfl ?_
  refine E_iadd dJ6_bitCount_0f7a4_28 ?_
  refine E_ldcw dJ6_bitCount_0f7a4_29 oJ6_267 ?_
  refine E_iand dJ6_bitCount_0f7a4_32 ?_
  refine E_istore_n dJ6_bitCount_0f7a4_33 rfl (by decide) rfl ?_
  refine E_iload_n dJ6_bitCount_0f7a4_34 rfl rfl ?_
  refine E_iload_n dJ6_bitCount_0f7a4_35 rfl rfl ?_
  refine E_bipush (v := 8) dJ6_bitCount_0f7a4_36 (by decide) ?_
  refine E_iushr dJ6_bitCount_0f7a4_38 rfl ?_
  refine E_iadd dJ6_bitCount_0f7a4_39 ?_
  refine E_istore_n dJ6_bitCount_0f7a4_40 rfl (by decide) rfl ?_
  refine E_iload_n dJ6_bitCount_0f7a4_41 rfl rfl ?_
  refine E_iload_n dJ6_bitCount_0f7a4_42 rfl rfl ?_
  refine E_bipush (v := 16) dJ6_bitCount_0f7a4_43 (by decide) ?_
  refine E_iushr dJ6_bitCount_0f7a4_45 rfl ?_
  refine E_iadd dJ6_bitCount_0f7a4_46 ?_
  refine E_istore_n dJ6_bitCount_0f7a4_47 rfl (by decide) rfl ?_
  refine E_iload_n dJ6_bitCount_0f7a4_48 rfl rfl ?_
  refine E_bipush (v := 63) dJ6_bitCount_0f7a4_49 (by decide) ?_
  refine E_iand dJ6_bitCount_0f7a4_51 ?_
  refine E_iret dJ6_bitCount_0f7a4_52 rfl rfl ?_
  exact ⟨rfl, rfl⟩
end
section
/-! BathHouse: loops over pools and clubs -/
theorem ite1 {c : Prop} [Decidable c] (h : ¬ (if c then (1 : Int32) else 0) = 0) : c := Decidable.byContradiction fun z => h (if_neg z)
theorem ite0 {c : Prop} [Decidable c] (h : (if c then (1 : Int32) else 0) = 0) : ¬ c := fun z => by rw [if_pos z] at h; exact absurd h (by decide)
/-- a pool's minute ends -/
def xem1 (S : xS) (p n : Nat) (x : Int32) : xS := (sI (sI (xsf (sI S 3 p 9 ((gI S 3 p 9) + (if xrs S p n x = 0 then 0 else 1))) p (xln S p) (xmn S p)) 1 p 5 0) 1 p 6 0)
/-- the minute ends for the first pools -/
def xem (S : xS) (nP : Nat → Nat) (x : Int32) : Nat → xS
  | 0 => S
  | p + 1 => if gR S 10 0 p = none then xem S nP x p else xem1 (xem S nP x p) p (nP p) x
theorem xem_2 {S : xS} {nP : Nat → Nat} {x : Int32} : ∀ p, (xem S nP x p).2 = S.2
  | 0 => rfl
  | p + 1 => by
    unfold xem
    split
    · exact xem_2 p
    · exact (show (xem1 (xem S nP x p) p (nP p) x).2 = (xem S nP x p).2 from rfl).trans (xem_2 p)
theorem xem_8 {S : xS} {nP : Nat → Nat} {x : Int32} {a b c : Nat} (h3 : a ≠ 3) (h1 : a ≠ 1) : ∀ p, gI (xem S nP x p) a b c = gI S a b c
  | 0 => rfl
  | p + 1 => by
    unfold xem
    split
    · exact xem_8 h3 h1 p
    · unfold xem1 xsf
      simp only [gI_sI, h3, h1, false_and, if_false]
      exact xem_8 h3 h1 p
theorem xShP_2 {S S' : xS} {p n : Nat} (h : xShP S p n) (e : S'.2 = S.2) : xShP S' p n := by
  obtain ⟨a, b⟩ := S
  obtain ⟨a', b'⟩ := S'
  cases e
  exact h
def xpok (S : xS) (nP : Nat → Nat) : Prop := ∀ p, p < 4 → gR S 10 0 p = none ∨ (gR S 10 0 p = some (3, p) ∧ xShP S p (nP p))
theorem l_X8_endMinute {S : xS} (hX : xShX S) {nP : Nat → Nat} (hq : xpok S nP) : ∀ (n i : Nat), i + n = 4 → ∀ (o : Option xV), Ex mX8_endMinute 5 0 0 (0, fun _ => 0) (aV (xem S nP (gI S 8 0 5) 4)) 2 [some (xR (some (8, 0))), some (xI (nI i)), o] [] (xem S nP (gI S 8 0 5) i)
  | 0, i, hi, o => by
    have hi : i = 4 := by omega
    subst hi
    refine E_iload_n dX8_endMinute_2 rfl rfl ?_
    refine E_iconst (v := 4) dX8_endMinute_3 (by decide) ?_
    refine E_icmp_ge (tgt := 32) dX8_endMinute_4 (by decide) (fun h4 => ?_) (fun h4 => absurd h4 ((fun z => z (nI_le (a := 4) (b := 4) (by omega) (by omega)))))
    refine E_vret dX8_endMinute_32 rfl ?_
    exact ⟨rfl, rfl⟩
  | n + 1, i, hi, o => by
    have hX2 := xShX_2 hX (xem_2 (S := S) (nP := nP) (x := (gI S 8 0 5)) i)
    rcases hq i (by omega) with hr | ⟨hr, hp⟩
    · have hr2 := (gR_2 (xem_2 (S := S) (nP := nP) (x := (gI S 8 0 5)) i) 10 0 i).trans hr
      refine E_iload_n dX8_endMinute_2 rfl rfl ?_
      refine E_iconst (v := 4) dX8_endMinute_3 (by decide) ?_
      refine E_icmp_ge (tgt := 32) dX8_endMinute_4 (by decide) (fun h4 => absurd h4 ((nI_ge (a := i) (b := 4) (by omega) (by omega)))) (fun h4 => ?_)
      refine E_aload_n dX8_endMinute_7 rfl rfl ?_
      refine E_getR dX8_endMinute_8 fX8_11 rfl rfl rfl (rX_8_0 hX2) ?_
      refine E_iload_n dX8_endMinute_11 rfl rfl ?_
      refine E_aald dX8_endMinute_12 rfl rfl (by decide) (lX_10 hX2) (vin (by omega : i < 4) (by omega)) (vnat (by omega : i < 4) (by omega)) hr2 ?_
      refine E_astore_n dX8_endMinute_13 rfl (by decide) rfl ?_
      refine E_aload_n dX8_endMinute_14 rfl rfl ?_
      refine E_ifnull (tgt := 26) dX8_endMinute_15 (by decide) (fun h15 => ?_) (fun q15 h15 => absurd h15 (by intro z; cases z))
      refine E_iinc (v := nI (i + 1)) dX8_endMinute_26 rfl (nI_i1 i) (by decide) rfl ?_
      refine E_goto (tgt := 2) dX8_endMinute_29 (by decide) ?_
      have e : xem S nP (gI S 8 0 5) (i + 1) = xem S nP (gI S 8 0 5) i := by rw [xem, if_pos hr]
      rw [← e]
      exact l_X8_endMinute hX hq n (i + 1) (by omega) _
    · have hr2 := (gR_2 (xem_2 (S := S) (nP := nP) (x := (gI S 8 0 5)) i) 10 0 i).trans hr
      have hp2 := xShP_2 hp (xem_2 (S := S) (nP := nP) (x := (gI S 8 0 5)) i)
      refine E_iload_n dX8_endMinute_2 rfl rfl ?_
      refine E_iconst (v := 4) dX8_endMinute_3 (by decide) ?_
      refine E_icmp_ge (tgt := 32) dX8_endMinute_4 (by decide) (fun h4 => absurd h4 ((nI_ge (a := i) (b := 4) (by omega) (by omega)))) (fun h4 => ?_)
      refine E_aload_n dX8_endMinute_7 rfl rfl ?_
      refine E_getR dX8_endMinute_8 fX8_11 rfl rfl rfl (rX_8_0 hX2) ?_
      refine E_iload_n dX8_endMinute_11 rfl rfl ?_
      refine E_aald dX8_endMinute_12 rfl rfl (by decide) (lX_10 hX2) (vin (by omega : i < 4) (by omega)) (vnat (by omega : i < 4) (by omega)) hr2 ?_
      refine E_astore_n dX8_endMinute_13 rfl (by decide) rfl ?_
      refine E_aload_n dX8_endMinute_14 rfl rfl ?_
      refine E_ifnull (tgt := 26) dX8_endMinute_15 (by decide) (fun h15 => ?_) (fun q15 h15 => ?_)
      · cases h15
      · refine E_aload_n dX8_endMinute_18 rfl rfl ?_
        refine E_aload_n dX8_endMinute_19 rfl rfl ?_
        refine E_getI dX8_endMinute_20 fX8_45 rfl rfl rfl (xem_8 (by decide) (by decide) i) ?_
        refine E_callV (m2 := mX3_endMinute) dX8_endMinute_23 kX8_320 mzX3_endMinute (c_X3_endMinute i (nP i) hp2 _) rfl ⟨_, _, rfl⟩ rfl rfl (by decide) (xs8 (Nat.le_of_ble_eq_true rfl)) (by first | exact Nat.le_of_ble_eq_true rfl | omega) (by first | exact Nat.le_of_ble_eq_true rfl | omega) ?_
        rintro _ _ ⟨rfl, rfl⟩
        refine E_iinc (v := nI (i + 1)) dX8_endMinute_26 rfl (nI_i1 i) (by decide) rfl ?_
        refine E_goto (tgt := 2) dX8_endMinute_29 (by decide) ?_
        have e : xem S nP (gI S 8 0 5) (i + 1) = xem1 (xem S nP (gI S 8 0 5) i) i (nP i) (gI S 8 0 5) := by rw [xem, if_neg (by rw [hr]; intro z; cases z)]
        show Ex _ _ _ _ _ _ _ _ _ (xem1 (xem S nP (gI S 8 0 5) i) i (nP i) (gI S 8 0 5))
        rw [← e]
        exact l_X8_endMinute hX hq n (i + 1) (by omega) _
theorem c_endMinute {S : xS} (hX : xShX S) {nP : Nat → Nat} (hq : xpok S nP) : CC mX8_endMinute 5 0 0 [xR (some (8, 0))] S (aV (xem S nP (gI S 8 0 5) 4)) := by
  refine CC_of mpX8_endMinute rfl (Nat.le_of_ble_eq_true rfl) ?_
  refine E_iconst (v := 0) dX8_endMinute_0 (by decide) ?_
  refine E_istore_n dX8_endMinute_1 rfl (by decide) rfl ?_
  exact l_X8_endMinute hX hq 4 0 rfl _
/-- minutes go by -/
def xgm (S : xS) (nP : Nat → Nat) : Nat → xS
  | 0 => S
  | i + 1 => (sI (xem (xgm S nP i) nP (gI (xgm S nP i) 8 0 5) 4) 8 0 5 ((gI (xem (xgm S nP i) nP (gI (xgm S nP i) 8 0 5) 4) 8 0 5) + 1))
theorem xgm_2 {S : xS} {nP : Nat → Nat} : ∀ i, (xgm S nP i).2 = S.2
  | 0 => rfl
  | i + 1 => (show (xgm S nP (i + 1)).2 = (xem (xgm S nP i) nP (gI (xgm S nP i) 8 0 5) 4).2 from rfl).trans ((xem_2 4).trans (xgm_2 i))
theorem xpok_2 {S S' : xS} {nP : Nat → Nat} (h : xpok S nP) (e : S'.2 = S.2) : xpok S' nP := fun p hp => by
  rw [gR_2 e]
  rcases h p hp with h | ⟨h1, h2⟩
  · exact Or.inl h
  · exact Or.inr ⟨h1, xShP_2 h2 e⟩
theorem l_X8_go {S : xS} (hX : xShX S) {nP : Nat → Nat} (hq : xpok S nP) {m : Nat} (hm : m < 1000) : ∀ (n i : Nat), i + n = m → Ex mX8_go 6 0 0 (0, fun _ => 0) (aI (gI (xgm S nP m) 8 0 5) (xgm S nP m)) 27 [some (xR (some (8, 0))), some (xI (nI m)), some (xI (nI i))] [] (xgm S nP i)
  | 0, i, hi => by
    have hi : i = m := by omega
    subst hi
    refine E_iload_n dX8_go_27 rfl rfl ?_
    refine E_iload_n dX8_go_28 rfl rfl ?_
    refine E_icmp_ge (tgt := 52) dX8_go_29 (by decide) (fun h29 => ?_) (fun h29 => absurd h29 ((fun z => z (nI_le (a := i) (b := i) (by omega) (by omega)))))
    refine E_aload_n dX8_go_52 rfl rfl ?_
    refine E_getI dX8_go_53 fX8_45 rfl rfl rfl rfl ?_
    refine E_iret dX8_go_56 rfl rfl ?_
    exact ⟨rfl, rfl⟩
  | n + 1, i, hi => by
    refine E_iload_n dX8_go_27 rfl rfl ?_
    refine E_iload_n dX8_go_28 rfl rfl ?_
    refine E_icmp_ge (tgt := 52) dX8_go_29 (by decide) (fun h29 => absurd h29 ((nI_ge (a := i) (b := m) (by omega) (by omega)))) (fun h29 => ?_)
    refine E_aload_n dX8_go_32 rfl rfl ?_
    refine E_callV (m2 := mX8_endMinute) dX8_go_33 kX8_55 mzX8_endMinute (c_endMinute (xShX_2 hX (xgm_2 i)) (xpok_2 hq (xgm_2 i))) rfl ⟨_, _, rfl⟩ rfl rfl (by decide) (xs8 (Nat.le_of_ble_eq_true rfl)) (by first | exact Nat.le_of_ble_eq_true rfl | omega) (by first | exact Nat.le_of_ble_eq_true rfl | omega) ?_
    rintro _ _ ⟨rfl, rfl⟩
    refine E_aload_n dX8_go_36 rfl rfl ?_
    refine E_dup dX8_go_37 rfl ?_
    refine E_getI dX8_go_38 fX8_45 rfl rfl rfl rfl ?_
    refine E_iconst (v := 1) dX8_go_41 (by decide) ?_
    refine E_iadd dX8_go_42 ?_
    refine E_putI dX8_go_43 fX8_45 rfl rfl rfl rfl rfl ?_
    refine E_iinc (v := nI (i + 1)) dX8_go_46 rfl (nI_i1 i) (by decide) rfl ?_
    refine E_goto (tgt := 27) dX8_go_49 (by decide) ?_
    exact l_X8_go hX hq hm n (i + 1) (by omega)
theorem c_go_y {S : xS} (hX : xShX S) {nP : Nat → Nat} (hq : xpok S nP) {m : Nat} (hm1 : 1 ≤ m) (hm : m ≤ 240) (hn : (gI S 8 0 5) + nI m < 1440) : CC mX8_go 6 0 0 [xR (some (8, 0)), xI (nI m)] S (aI (gI (xgm S nP m) 8 0 5) (xgm S nP m)) := by
  refine CC_of mpX8_go rfl (Nat.le_of_ble_eq_true rfl) ?_
  have h1 : (1 : Int32) ≤ nI m ∧ nI m ≤ 240 := ⟨nI_le (a := 1) (by omega) (by omega), nI_le (b := 240) (by omega) (by omega)⟩
  refine E_iload_n dX8_go_0 rfl rfl ?_
  refine E_iconst (v := 1) dX8_go_1 (by decide) ?_
  refine E_sipush (v := 240) dX8_go_2 (by decide) ?_
  refine E_callS (m2 := mX8_isWithin) dX8_go_5 kX8_48 mzX8_isWithin (c_X8_isWithin _ _ _) rfl rfl (by decide) (xs8 (Nat.le_of_ble_eq_true rfl)) (by first | exact Nat.le_of_ble_eq_true rfl | omega) (by first | exact Nat.le_of_ble_eq_true rfl | omega) ?_
  rintro _ _ ⟨rfl, rfl⟩; rw [if_pos h1]
  refine E_if_eq (tgt := 23) dX8_go_8 (by decide) (fun h8 => absurd h8 (by decide)) (fun h8 => ?_)
  refine E_aload_n dX8_go_11 rfl rfl ?_
  refine E_getI dX8_go_12 fX8_45 rfl rfl rfl rfl ?_
  refine E_iload_n dX8_go_15 rfl rfl ?_
  refine E_iadd dX8_go_16 ?_
  refine E_sipush (v := 1440) dX8_go_17 (by decide) ?_
  refine E_icmp_lt (tgt := 25) dX8_go_20 (by decide) (fun h20 => ?_) (fun h20 => absurd h20 (fun z => z hn))
  refine E_iconst (v := 0) dX8_go_25 (by decide) ?_
  refine E_istore_n dX8_go_26 rfl (by decide) rfl ?_
  exact l_X8_go hX hq (by omega) m 0 (by omega)
theorem c_go_n {S : xS} (x : Int32) (h : ¬ ((1 ≤ x ∧ x ≤ 240) ∧ (gI S 8 0 5) + x < 1440)) : CC mX8_go 6 0 0 [xR (some (8, 0)), xI x] S (aI (-1) S) := by
  refine CC_of mpX8_go rfl (Nat.le_of_ble_eq_true rfl) ?_
  refine E_iload_n dX8_go_0 rfl rfl ?_
  refine E_iconst (v := 1) dX8_go_1 (by decide) ?_
  refine E_sipush (v := 240) dX8_go_2 (by decide) ?_
  refine E_callS (m2 := mX8_isWithin) dX8_go_5 kX8_48 mzX8_isWithin (c_X8_isWithin _ _ _) rfl rfl (by decide) (xs8 (Nat.le_of_ble_eq_true rfl)) (by first | exact Nat.le_of_ble_eq_true rfl | omega) (by first | exact Nat.le_of_ble_eq_true rfl | omega) ?_
  rintro _ _ ⟨rfl, rfl⟩
  refine E_if_eq (tgt := 23) dX8_go_8 (by decide) (fun h8 => ?_) (fun h8 => ?_)
  · refine E_iconst (v := -1) dX8_go_23 (by decide) ?_
    refine E_iret dX8_go_24 rfl rfl ?_
    exact ⟨rfl, rfl⟩
  · refine E_aload_n dX8_go_11 rfl rfl ?_
    refine E_getI dX8_go_12 fX8_45 rfl rfl rfl rfl ?_
    refine E_iload_n dX8_go_15 rfl rfl ?_
    refine E_iadd dX8_go_16 ?_
    refine E_sipush (v := 1440) dX8_go_17 (by decide) ?_
    refine E_icmp_lt (tgt := 25) dX8_go_20 (by decide) (fun h20 => ?_) (fun h20 => ?_)
    · exact absurd ⟨ite1 h8, h20⟩ h
    · refine E_iconst (v := -1) dX8_go_23 (by decide) ?_
      refine E_iret dX8_go_24 rfl rfl ?_
      exact ⟨rfl, rfl⟩
/-! clubs -/
def xkp (S : xS) (Pc : Nat → Nat) (c k0 i P2 : Nat) : Prop := Pc c = P2 ∧ ¬ (gI S 0 c 1) &&& gI S k0 i 1 = 0 ∧ (if (gI S 0 c 2) < gI S k0 i 2 then gI S k0 i 2 else (gI S 0 c 2)) < (if gI S k0 i 4 < (gI S 0 c 4) then gI S k0 i 4 else (gI S 0 c 4))
def xcok (S : xS) (C : Nat) (Pc : Nat → Nat) : Prop := (∀ c, c < 20 → gR S 12 0 c = if c < C then some (0, c) else none) ∧ ∀ c, c < C → gR S 0 c 0 = some (3, Pc c)
theorem l_lowestClash_y {S : xS} (hX : xShX S) {C : Nat} {Pc : Nat → Nat} (hq : xcok S C Pc) (k0 j P2 : Nat) (hk : xCls k0 = true) (hk2 : xk k0 = 0) (h2 : gR S k0 j 0 = some (3, P2)) (c0 : Nat) (hc0 : c0 < C) (hC : C ≤ 20) (hy : xkp S Pc c0 k0 j P2) (hn : ∀ c, c < c0 → ¬ xkp S Pc c k0 j P2) : ∀ (n i : Nat), i + n = c0 → ∀ o, Ex mX8_lowestClash 2 0 0 (0, fun _ => 0) (aI (nI c0) S) 2 [some (xR (some (8, 0))), some (xR (some (k0, j))), some (xI (nI i)), o] [] S
  | 0, i, hi, o => by
    have hi : i = c0 := by omega
    subst hi
    have hr : gR S 12 0 i = some (0, i) := (hq.1 i (by omega)).trans (if_pos (by omega))
    refine E_iload_n dX8_lowestClash_2 rfl rfl ?_
    refine E_bipush (v := 20) dX8_lowestClash_3 (by decide) ?_
    refine E_icmp_ge (tgt := 35) dX8_lowestClash_5 (by decide) (fun h5 => absurd h5 ((nI_ge (a := i) (b := 20) (by omega) (by omega)))) (fun h5 => ?_)
    refine E_aload_n dX8_lowestClash_8 rfl rfl ?_
    refine E_getR dX8_lowestClash_9 fX8_23 rfl rfl rfl (rX_8_2 hX) ?_
    refine E_iload_n dX8_lowestClash_12 rfl rfl ?_
    refine E_aald dX8_lowestClash_13 rfl rfl (by decide) (lX_12 hX) (vin (by omega : i < 20) (by omega)) (vnat (by omega : i < 20) (by omega)) hr ?_
    refine E_astore_n dX8_lowestClash_14 rfl (by decide) rfl ?_
    refine E_aload_n dX8_lowestClash_15 rfl rfl ?_
    refine E_ifnull (tgt := 29) dX8_lowestClash_16 (by decide) (fun h16 => ?_) (fun q16 h16 => ?_)
    · cases h16
    · refine E_aload_n dX8_lowestClash_19 rfl rfl ?_
      refine E_aload_n dX8_lowestClash_20 rfl rfl ?_
      refine E_callV (m2 := mX0_clashesWith) dX8_lowestClash_21 kX8_327 mzX0_clashesWith (c_X0_clashesWith i k0 j (Pc i) P2 hk hk2 (hq.2 i hc0) h2) rfl ⟨_, _, rfl⟩ rfl rfl (by decide) (xs8 (Nat.le_of_ble_eq_true rfl)) (by first | exact Nat.le_of_ble_eq_true rfl | omega) (by first | exact Nat.le_of_ble_eq_true rfl | omega) ?_
      rintro _ _ ⟨rfl, rfl⟩; rw [if_pos (show _ ∧ _ from hy)]
      refine E_if_eq (tgt := 29) dX8_lowestClash_24 (by decide) (fun h24 => absurd h24 (by decide)) (fun h24 => ?_)
      refine E_iload_n dX8_lowestClash_27 rfl rfl ?_
      refine E_iret dX8_lowestClash_28 rfl rfl ?_
      exact ⟨rfl, rfl⟩
  | n + 1, i, hi, o => by
    have hr : gR S 12 0 i = some (0, i) := (hq.1 i (by omega)).trans (if_pos (by omega))
    refine E_iload_n dX8_lowestClash_2 rfl rfl ?_
    refine E_bipush (v := 20) dX8_lowestClash_3 (by decide) ?_
    refine E_icmp_ge (tgt := 35) dX8_lowestClash_5 (by decide) (fun h5 => absurd h5 ((nI_ge (a := i) (b := 20) (by omega) (by omega)))) (fun h5 => ?_)
    refine E_aload_n dX8_lowestClash_8 rfl rfl ?_
    refine E_getR dX8_lowestClash_9 fX8_23 rfl rfl rfl (rX_8_2 hX) ?_
    refine E_iload_n dX8_lowestClash_12 rfl rfl ?_
    refine E_aald dX8_lowestClash_13 rfl rfl (by decide) (lX_12 hX) (vin (by omega : i < 20) (by omega)) (vnat (by omega : i < 20) (by omega)) hr ?_
    refine E_astore_n dX8_lowestClash_14 rfl (by decide) rfl ?_
    refine E_aload_n dX8_lowestClash_15 rfl rfl ?_
    refine E_ifnull (tgt := 29) dX8_lowestClash_16 (by decide) (fun h16 => ?_) (fun q16 h16 => ?_)
    · cases h16
    · refine E_aload_n dX8_lowestClash_19 rfl rfl ?_
      refine E_aload_n dX8_lowestClash_20 rfl rfl ?_
      refine E_callV (m2 := mX0_clashesWith) dX8_lowestClash_21 kX8_327 mzX0_clashesWith (c_X0_clashesWith i k0 j (Pc i) P2 hk hk2 (hq.2 i (by omega)) h2) rfl ⟨_, _, rfl⟩ rfl rfl (by decide) (xs8 (Nat.le_of_ble_eq_true rfl)) (by first | exact Nat.le_of_ble_eq_true rfl | omega) (by first | exact Nat.le_of_ble_eq_true rfl | omega) ?_
      rintro _ _ ⟨rfl, rfl⟩; rw [if_neg (show ¬ (_ ∧ _) from hn i (by omega))]
      refine E_if_eq (tgt := 29) dX8_lowestClash_24 (by decide) (fun h24 => ?_) (fun h24 => absurd h24 (by decide))
      refine E_iinc (v := nI (i + 1)) dX8_lowestClash_29 rfl (nI_i1 i) (by decide) rfl ?_
      refine E_goto (tgt := 2) dX8_lowestClash_32 (by decide) ?_
      exact l_lowestClash_y hX hq k0 j P2 hk hk2 h2 c0 hc0 hC hy hn n (i + 1) (by omega) _
theorem c_lowestClash_y {S : xS} (hX : xShX S) {C : Nat} {Pc : Nat → Nat} (hq : xcok S C Pc) (k0 j P2 : Nat) (hk : xCls k0 = true) (hk2 : xk k0 = 0) (h2 : gR S k0 j 0 = some (3, P2)) (c0 : Nat) (hc0 : c0 < C) (hC : C ≤ 20) (hy : xkp S Pc c0 k0 j P2) (hn : ∀ c, c < c0 → ¬ xkp S Pc c k0 j P2) : CC mX8_lowestClash 2 0 0 [xR (some (8, 0)), xR (some (k0, j))] S (aI (nI c0) S) := by
  refine CC_of mpX8_lowestClash rfl (Nat.le_of_ble_eq_true rfl) ?_
  refine E_iconst (v := 0) dX8_lowestClash_0 (by decide) ?_
  refine E_istore_n dX8_lowestClash_1 rfl (by decide) rfl ?_
  exact l_lowestClash_y hX hq k0 j P2 hk hk2 h2 c0 hc0 hC hy hn c0 0 (by omega) _
theorem l_lowestClash_n {S : xS} (hX : xShX S) {C : Nat} {Pc : Nat → Nat} (hq : xcok S C Pc) (k0 j P2 : Nat) (hk : xCls k0 = true) (hk2 : xk k0 = 0) (h2 : gR S k0 j 0 = some (3, P2)) (hn : ∀ c, c < C → ¬ xkp S Pc c k0 j P2) : ∀ (n i : Nat), i + n = 20 → ∀ o, Ex mX8_lowestClash 2 0 0 (0, fun _ => 0) (aI (-1) S) 2 [some (xR (some (8, 0))), some (xR (some (k0, j))), some (xI (nI i)), o] [] S
  | 0, i, hi, o => by
    refine E_iload_n dX8_lowestClash_2 rfl rfl ?_
    refine E_bipush (v := 20) dX8_lowestClash_3 (by decide) ?_
    refine E_icmp_ge (tgt := 35) dX8_lowestClash_5 (by decide) (fun h5 => ?_) (fun h5 => absurd h5 ((fun z => z (nI_le (a := 20) (b := i) (by omega) (by omega)))))
    refine E_iconst (v := -1) dX8_lowestClash_35 (by decide) ?_
    refine E_iret dX8_lowestClash_36 rfl rfl ?_
    exact ⟨rfl, rfl⟩
  | n + 1, i, hi, o => by
    by_cases hc : i < C
    · have hr : gR S 12 0 i = some (0, i) := (hq.1 i (by omega)).trans (if_pos hc)
      refine E_iload_n dX8_lowestClash_2 rfl rfl ?_
      refine E_bipush (v := 20) dX8_lowestClash_3 (by decide) ?_
      refine E_icmp_ge (tgt := 35) dX8_lowestClash_5 (by decide) (fun h5 => absurd h5 ((nI_ge (a := i) (b := 20) (by omega) (by omega)))) (fun h5 => ?_)
      refine E_aload_n dX8_lowestClash_8 rfl rfl ?_
      refine E_getR dX8_lowestClash_9 fX8_23 rfl rfl rfl (rX_8_2 hX) ?_
      refine E_iload_n dX8_lowestClash_12 rfl rfl ?_
      refine E_aald dX8_lowestClash_13 rfl rfl (by decide) (lX_12 hX) (vin (by omega : i < 20) (by omega)) (vnat (by omega : i < 20) (by omega)) hr ?_
      refine E_astore_n dX8_lowestClash_14 rfl (by decide) rfl ?_
      refine E_aload_n dX8_lowestClash_15 rfl rfl ?_
      refine E_ifnull (tgt := 29) dX8_lowestClash_16 (by decide) (fun h16 => ?_) (fun q16 h16 => ?_)
      · cases h16
      · refine E_aload_n dX8_lowestClash_19 rfl rfl ?_
        refine E_aload_n dX8_lowestClash_20 rfl rfl ?_
        refine E_callV (m2 := mX0_clashesWith) dX8_lowestClash_21 kX8_327 mzX0_clashesWith (c_X0_clashesWith i k0 j (Pc i) P2 hk hk2 (hq.2 i hc) h2) rfl ⟨_, _, rfl⟩ rfl rfl (by decide) (xs8 (Nat.le_of_ble_eq_true rfl)) (by first | exact Nat.le_of_ble_eq_true rfl | omega) (by first | exact Nat.le_of_ble_eq_true rfl | omega) ?_
        rintro _ _ ⟨rfl, rfl⟩; rw [if_neg (show ¬ (_ ∧ _) from hn i hc)]
        refine E_if_eq (tgt := 29) dX8_lowestClash_24 (by decide) (fun h24 => ?_) (fun h24 => absurd h24 (by decide))
        refine E_iinc (v := nI (i + 1)) dX8_lowestClash_29 rfl (nI_i1 i) (by decide) rfl ?_
        refine E_goto (tgt := 2) dX8_lowestClash_32 (by decide) ?_
        exact l_lowestClash_n hX hq k0 j P2 hk hk2 h2 hn n (i + 1) (by omega) _
    · have hr : gR S 12 0 i = none := (hq.1 i (by omega)).trans (if_neg hc)
      refine E_iload_n dX8_lowestClash_2 rfl rfl ?_
      refine E_bipush (v := 20) dX8_lowestClash_3 (by decide) ?_
      refine E_icmp_ge (tgt := 35) dX8_lowestClash_5 (by decide) (fun h5 => absurd h5 ((nI_ge (a := i) (b := 20) (by omega) (by omega)))) (fun h5 => ?_)
      refine E_aload_n dX8_lowestClash_8 rfl rfl ?_
      refine E_getR dX8_lowestClash_9 fX8_23 rfl rfl rfl (rX_8_2 hX) ?_
      refine E_iload_n dX8_lowestClash_12 rfl rfl ?_
      refine E_aald dX8_lowestClash_13 rfl rfl (by decide) (lX_12 hX) (vin (by omega : i < 20) (by omega)) (vnat (by omega : i < 20) (by omega)) hr ?_
      refine E_astore_n dX8_lowestClash_14 rfl (by decide) rfl ?_
      refine E_aload_n dX8_lowestClash_15 rfl rfl ?_
      refine E_ifnull (tgt := 29) dX8_lowestClash_16 (by decide) (fun h16 => ?_) (fun q16 h16 => absurd h16 (by intro z; cases z))
      refine E_iinc (v := nI (i + 1)) dX8_lowestClash_29 rfl (nI_i1 i) (by decide) rfl ?_
      refine E_goto (tgt := 2) dX8_lowestClash_32 (by decide) ?_
      exact l_lowestClash_n hX hq k0 j P2 hk hk2 h2 hn n (i + 1) (by omega) _
theorem c_lowestClash_n {S : xS} (hX : xShX S) {C : Nat} {Pc : Nat → Nat} (hq : xcok S C Pc) (k0 j P2 : Nat) (hk : xCls k0 = true) (hk2 : xk k0 = 0) (h2 : gR S k0 j 0 = some (3, P2)) (hn : ∀ c, c < C → ¬ xkp S Pc c k0 j P2) : CC mX8_lowestClash 2 0 0 [xR (some (8, 0)), xR (some (k0, j))] S (aI (-1) S) := by
  refine CC_of mpX8_lowestClash rfl (Nat.le_of_ble_eq_true rfl) ?_
  refine E_iconst (v := 0) dX8_lowestClash_0 (by decide) ?_
  refine E_istore_n dX8_lowestClash_1 rfl (by decide) rfl ?_
  exact l_lowestClash_n hX hq k0 j P2 hk hk2 h2 hn 20 0 (by omega) _
/-- the lanes that clubs have now, as bits -/
def xtkn (S : xS) (C : Nat) (Pc : Nat → Nat) (P : Nat) (x : Int32) : Nat → Int32
  | 0 => 0
  | c + 1 => if c < C ∧ Pc c = P ∧ (gI S 0 c 2) ≤ x ∧ x < (gI S 0 c 4) then xtkn S C Pc P x c ||| (gI S 0 c 1) else xtkn S C Pc P x c
theorem l_freeLanes {S : xS} (hX : xShX S) {C : Nat} {Pc : Nat → Nat} (hq : xcok S C Pc) (P : Nat) : ∀ (n i : Nat), i + n = 20 → ∀ o, ∀ v, v = xtkn S C Pc P (gI S 8 0 5) i → Ex mX8_freeLanes 2 0 0 (0, fun _ => 0) (aI ((gI S 3 P 2) - xbc (xtkn S C Pc P (gI S 8 0 5) 20)) S) 4 [some (xR (some (8, 0))), some (xR (some (3, P))), some (xI v), some (xI (nI i)), o] [] S
  | 0, i, hi, o, v, hv => by
    have hi : i = 20 := by omega
    subst hi
    rw [← hv]
    refine E_iload_n dX8_freeLanes_4 rfl rfl ?_
    refine E_bipush (v := 20) dX8_freeLanes_5 (by decide) ?_
    refine E_icmp_ge (tgt := 58) dX8_freeLanes_7 (by decide) (fun h7 => ?_) (fun h7 => absurd h7 ((fun z => z (nI_le (a := 20) (b := 20) (by omega) (by omega)))))
    refine E_aload_n dX8_freeLanes_58 rfl rfl ?_
    refine E_getI dX8_freeLanes_59 fX8_337 rfl rfl rfl rfl ?_
    refine E_iload_n dX8_freeLanes_62 rfl rfl ?_
    refine E_callS (m2 := mJ6_bitCount_0f7a4) dX8_freeLanes_63 kX8_338 mzJ6_bitCount_0f7a4 (c_bitCount _) rfl rfl (by decide) (xs8 (Nat.le_of_ble_eq_true rfl)) (by first | exact Nat.le_of_ble_eq_true rfl | omega) (by first | exact Nat.le_of_ble_eq_true rfl | omega) ?_
    rintro _ _ ⟨rfl, rfl⟩
    refine E_isub dX8_freeLanes_66 ?_
    refine E_iret dX8_freeLanes_67 rfl rfl ?_
    exact ⟨rfl, rfl⟩
  | n + 1, i, hi, o, v, hv => by
    by_cases hc : i < C
    · have hr : gR S 12 0 i = some (0, i) := (hq.1 i (by omega)).trans (if_pos hc)
      refine E_iload_n dX8_freeLanes_4 rfl rfl ?_
      refine E_bipush (v := 20) dX8_freeLanes_5 (by decide) ?_
      refine E_icmp_ge (tgt := 58) dX8_freeLanes_7 (by decide) (fun h7 => absurd h7 ((nI_ge (a := i) (b := 20) (by omega) (by omega)))) (fun h7 => ?_)
      refine E_aload_n dX8_freeLanes_10 rfl rfl ?_
      refine E_getR dX8_freeLanes_11 fX8_23 rfl rfl rfl (rX_8_2 hX) ?_
      refine E_iload_n dX8_freeLanes_14 rfl rfl ?_
      refine E_aald dX8_freeLanes_15 rfl rfl (by decide) (lX_12 hX) (vin (by omega : i < 20) (by omega)) (vnat (by omega : i < 20) (by omega)) hr ?_
      refine E_astore dX8_freeLanes_16 (by decide) rfl ?_
      refine E_aload dX8_freeLanes_18 rfl ?_
      refine E_ifnull (tgt := 52) dX8_freeLanes_20 (by decide) (fun h20 => ?_) (fun q20 h20 => ?_)
      · cases h20
      · refine E_aload dX8_freeLanes_23 rfl ?_
        refine E_getR dX8_freeLanes_25 fX8_322 rfl rfl rfl (hq.2 i hc) ?_
        refine E_aload_n dX8_freeLanes_28 rfl rfl ?_
        refine E_acmp_ne (tgt := 52) dX8_freeLanes_29 (by decide) (by intro q h; cases h; simp) (by intro q h; cases h; simp) (fun h29 => ?_) (fun h29 => ?_)
        · refine E_iinc (v := nI (i + 1)) dX8_freeLanes_52 rfl (nI_i1 i) (by decide) rfl ?_
          refine E_goto (tgt := 4) dX8_freeLanes_55 (by decide) ?_
          refine l_freeLanes hX hq P n (i + 1) (by omega) _ _ ?_
          rw [xtkn, ← hv]; first | (rw [if_neg (fun z => h29 (by rw [z.2.1]))]; done) | (rw [if_neg (fun z => ite0 h41 z.2.2)]; done) | (rw [if_pos ⟨hc, h29, ite1 h41⟩]; done)
        · have h29 : Pc i = P := by cases h29; rfl
          refine E_aload dX8_freeLanes_32 rfl ?_
          refine E_aload_n dX8_freeLanes_34 rfl rfl ?_
          refine E_getI dX8_freeLanes_35 fX8_45 rfl rfl rfl rfl ?_
          refine E_callV (m2 := mX0_isThere) dX8_freeLanes_38 kX8_331 mzX0_isThere (c_X0_isThere i _) rfl ⟨_, _, rfl⟩ rfl rfl (by decide) (xs8 (Nat.le_of_ble_eq_true rfl)) (by first | exact Nat.le_of_ble_eq_true rfl | omega) (by first | exact Nat.le_of_ble_eq_true rfl | omega) ?_
          rintro _ _ ⟨rfl, rfl⟩
          refine E_if_eq (tgt := 52) dX8_freeLanes_41 (by decide) (fun h41 => ?_) (fun h41 => ?_)
          · refine E_iinc (v := nI (i + 1)) dX8_freeLanes_52 rfl (nI_i1 i) (by decide) rfl ?_
            refine E_goto (tgt := 4) dX8_freeLanes_55 (by decide) ?_
            refine l_freeLanes hX hq P n (i + 1) (by omega) _ _ ?_
            rw [xtkn, ← hv]; first | (rw [if_neg (fun z => h29 (by rw [z.2.1]))]; done) | (rw [if_neg (fun z => ite0 h41 z.2.2)]; done) | (rw [if_pos ⟨hc, h29, ite1 h41⟩]; done)
          · refine E_iload_n dX8_freeLanes_44 rfl rfl ?_
            refine E_aload dX8_freeLanes_45 rfl ?_
            refine E_getI dX8_freeLanes_47 fX8_334 rfl rfl rfl rfl ?_
            refine E_ior dX8_freeLanes_50 ?_
            refine E_istore_n dX8_freeLanes_51 rfl (by decide) rfl ?_
            refine E_iinc (v := nI (i + 1)) dX8_freeLanes_52 rfl (nI_i1 i) (by decide) rfl ?_
            refine E_goto (tgt := 4) dX8_freeLanes_55 (by decide) ?_
            refine l_freeLanes hX hq P n (i + 1) (by omega) _ _ ?_
            rw [xtkn, ← hv]; first | (rw [if_neg (fun z => h29 (by rw [z.2.1]))]; done) | (rw [if_neg (fun z => ite0 h41 z.2.2)]; done) | (rw [if_pos ⟨hc, h29, ite1 h41⟩]; done)
    · have hr : gR S 12 0 i = none := (hq.1 i (by omega)).trans (if_neg hc)
      refine E_iload_n dX8_freeLanes_4 rfl rfl ?_
      refine E_bipush (v := 20) dX8_freeLanes_5 (by decide) ?_
      refine E_icmp_ge (tgt := 58) dX8_freeLanes_7 (by decide) (fun h7 => absurd h7 ((nI_ge (a := i) (b := 20) (by omega) (by omega)))) (fun h7 => ?_)
      refine E_aload_n dX8_freeLanes_10 rfl rfl ?_
      refine E_getR dX8_freeLanes_11 fX8_23 rfl rfl rfl (rX_8_2 hX) ?_
      refine E_iload_n dX8_freeLanes_14 rfl rfl ?_
      refine E_aald dX8_freeLanes_15 rfl rfl (by decide) (lX_12 hX) (vin (by omega : i < 20) (by omega)) (vnat (by omega : i < 20) (by omega)) hr ?_
      refine E_astore dX8_freeLanes_16 (by decide) rfl ?_
      refine E_aload dX8_freeLanes_18 rfl ?_
      refine E_ifnull (tgt := 52) dX8_freeLanes_20 (by decide) (fun h20 => ?_) (fun q20 h20 => absurd h20 (by intro z; cases z))
      refine E_iinc (v := nI (i + 1)) dX8_freeLanes_52 rfl (nI_i1 i) (by decide) rfl ?_
      refine E_goto (tgt := 4) dX8_freeLanes_55 (by decide) ?_
      exact l_freeLanes hX hq P n (i + 1) (by omega) _ _ (by rw [xtkn, if_neg (fun z => hc z.1)]; exact hv)
theorem c_freeLanes {S : xS} (hX : xShX S) {C : Nat} {Pc : Nat → Nat} (hq : xcok S C Pc) (P : Nat) : CC mX8_freeLanes 2 0 0 [xR (some (8, 0)), xR (some (3, P))] S (aI ((gI S 3 P 2) - xbc (xtkn S C Pc P (gI S 8 0 5) 20)) S) := by
  refine CC_of mpX8_freeLanes rfl (Nat.le_of_ble_eq_true rfl) ?_
  refine E_iconst (v := 0) dX8_freeLanes_0 (by decide) ?_
  refine E_istore_n dX8_freeLanes_1 rfl (by decide) rfl ?_
  refine E_iconst (v := 0) dX8_freeLanes_2 (by decide) ?_
  refine E_istore_n dX8_freeLanes_3 rfl (by decide) rfl ?_
  exact l_freeLanes hX hq P 20 0 rfl _ 0 rfl
theorem c_isTicketSold_1 {S : xS} (P : Nat) (a : Int32) : CC mX8_isTicketSold 3 0 0 [xR (some (8, 0)), xR (some (3, P)), xI 1, xI a] S (aI (if 15 ≤ a ∧ a ≤ 240 then 1 else 0) S) := by
  refine CC_of mpX8_isTicketSold rfl (Nat.le_of_ble_eq_true rfl) ?_
  refine E_iload_n dX8_isTicketSold_0 rfl rfl ?_
  refine E_iconst (v := 1) dX8_isTicketSold_1 (by decide) ?_
  refine E_icmp_ne (tgt := 15) dX8_isTicketSold_2 (by decide) (fun h2 => absurd h2 (fun z => z rfl)) (fun h2 => ?_)
  refine E_iload_n dX8_isTicketSold_5 rfl rfl ?_
  refine E_bipush (v := 15) dX8_isTicketSold_6 (by decide) ?_
  refine E_sipush (v := 240) dX8_isTicketSold_8 (by decide) ?_
  refine E_callS (m2 := mX8_isWithin) dX8_isTicketSold_11 kX8_48 mzX8_isWithin (c_X8_isWithin _ _ _) rfl rfl (by decide) (xs8 (Nat.le_of_ble_eq_true rfl)) (by first | exact Nat.le_of_ble_eq_true rfl | omega) (by first | exact Nat.le_of_ble_eq_true rfl | omega) ?_
  rintro _ _ ⟨rfl, rfl⟩
  refine E_iret dX8_isTicketSold_14 rfl (xB_if _).n ?_
  exact ⟨rfl, rfl⟩
theorem c_isTicketSold_o {S : xS} (P : Nat) (x a : Int32) (e1 : ¬ x = 1) (e2 : ¬ (x = 2 ∨ x = 3)) : CC mX8_isTicketSold 3 0 0 [xR (some (8, 0)), xR (some (3, P)), xI x, xI a] S (aI (if 0 ≤ x ∧ x ≤ 5 then 1 else 0) S) := by
  refine CC_of mpX8_isTicketSold rfl (Nat.le_of_ble_eq_true rfl) ?_
  refine E_iload_n dX8_isTicketSold_0 rfl rfl ?_
  refine E_iconst (v := 1) dX8_isTicketSold_1 (by decide) ?_
  refine E_icmp_ne (tgt := 15) dX8_isTicketSold_2 (by decide) (fun h2 => ?_) (fun h2 => absurd h2 (e1))
  refine E_iload_n dX8_isTicketSold_15 rfl rfl ?_
  refine E_callS (m2 := mX8_isClubKind) dX8_isTicketSold_16 kX8_69 mzX8_isClubKind (c_X8_isClubKind _) rfl rfl (by decide) (xs8 (Nat.le_of_ble_eq_true rfl)) (by first | exact Nat.le_of_ble_eq_true rfl | omega) (by first | exact Nat.le_of_ble_eq_true rfl | omega) ?_
  rintro _ _ ⟨rfl, rfl⟩; rw [if_neg e2]
  refine E_if_eq (tgt := 67) dX8_isTicketSold_19 (by decide) (fun h19 => ?_) (fun h19 => absurd h19 (by decide))
  refine E_iload_n dX8_isTicketSold_67 rfl rfl ?_
  refine E_iconst (v := 0) dX8_isTicketSold_68 (by decide) ?_
  refine E_iconst (v := 5) dX8_isTicketSold_69 (by decide) ?_
  refine E_callS (m2 := mX8_isWithin) dX8_isTicketSold_70 kX8_48 mzX8_isWithin (c_X8_isWithin _ _ _) rfl rfl (by decide) (xs8 (Nat.le_of_ble_eq_true rfl)) (by first | exact Nat.le_of_ble_eq_true rfl | omega) (by first | exact Nat.le_of_ble_eq_true rfl | omega) ?_
  rintro _ _ ⟨rfl, rfl⟩
  refine E_iret dX8_isTicketSold_73 rfl (xB_if _).n ?_
  exact ⟨rfl, rfl⟩
theorem c_isTicketSold_c {S : xS} (hX : xShX S) (P : Nat) (x a : Int32) (e2 : x = 2 ∨ x = 3) (hc : xcl S a = none) : CC mX8_isTicketSold 3 0 0 [xR (some (8, 0)), xR (some (3, P)), xI x, xI a] S (aI 0 S) := by
  refine CC_of mpX8_isTicketSold rfl (Nat.le_of_ble_eq_true rfl) ?_
  have e1 : ¬ x = 1 := by rcases e2 with rfl | rfl <;> decide
  refine E_iload_n dX8_isTicketSold_0 rfl rfl ?_
  refine E_iconst (v := 1) dX8_isTicketSold_1 (by decide) ?_
  refine E_icmp_ne (tgt := 15) dX8_isTicketSold_2 (by decide) (fun h2 => ?_) (fun h2 => absurd h2 (e1))
  refine E_iload_n dX8_isTicketSold_15 rfl rfl ?_
  refine E_callS (m2 := mX8_isClubKind) dX8_isTicketSold_16 kX8_69 mzX8_isClubKind (c_X8_isClubKind _) rfl rfl (by decide) (xs8 (Nat.le_of_ble_eq_true rfl)) (by first | exact Nat.le_of_ble_eq_true rfl | omega) (by first | exact Nat.le_of_ble_eq_true rfl | omega) ?_
  rintro _ _ ⟨rfl, rfl⟩; rw [if_pos e2]
  refine E_if_eq (tgt := 67) dX8_isTicketSold_19 (by decide) (fun h19 => absurd h19 (by decide)) (fun h19 => ?_)
  refine E_aload_n dX8_isTicketSold_22 rfl rfl ?_
  refine E_iload_n dX8_isTicketSold_23 rfl rfl ?_
  refine E_callV (m2 := mX8_clubOf) dX8_isTicketSold_24 kX8_73 mzX8_clubOf (c_clubOf hX a hc) rfl ⟨_, _, rfl⟩ rfl rfl (by decide) (xs8 (Nat.le_of_ble_eq_true rfl)) (by first | exact Nat.le_of_ble_eq_true rfl | omega) (by first | exact Nat.le_of_ble_eq_true rfl | omega) ?_
  rintro _ _ ⟨rfl, rfl⟩
  refine E_astore dX8_isTicketSold_27 (by decide) rfl ?_
  refine E_aload dX8_isTicketSold_29 rfl ?_
  refine E_ifnull (tgt := 65) dX8_isTicketSold_31 (by decide) (fun h31 => ?_) (fun q31 h31 => absurd h31 (by intro z; cases z))
  refine E_iconst (v := 0) dX8_isTicketSold_65 (by decide) ?_
  refine E_iret dX8_isTicketSold_66 rfl rfl ?_
  exact ⟨rfl, rfl⟩
theorem c_isTicketSold_d {S : xS} (hX : xShX S) (P c P2 : Nat) (x a : Int32) (e2 : x = 2 ∨ x = 3) (hc : xcl S a = some (0, c)) (hp : gR S 0 c 0 = some (3, P2)) : CC mX8_isTicketSold 3 0 0 [xR (some (8, 0)), xR (some (3, P)), xI x, xI a] S (aI (if P2 = P ∧ ((if 0 < (gI S 0 c 3) then (1 : Int32) else 0) = if x = 3 then 1 else 0) then 1 else 0) S) := by
  refine CC_of mpX8_isTicketSold rfl (Nat.le_of_ble_eq_true rfl) ?_
  have e1 : ¬ x = 1 := by rcases e2 with rfl | rfl <;> decide
  refine E_iload_n dX8_isTicketSold_0 rfl rfl ?_
  refine E_iconst (v := 1) dX8_isTicketSold_1 (by decide) ?_
  refine E_icmp_ne (tgt := 15) dX8_isTicketSold_2 (by decide) (fun h2 => ?_) (fun h2 => absurd h2 (e1))
  refine E_iload_n dX8_isTicketSold_15 rfl rfl ?_
  refine E_callS (m2 := mX8_isClubKind) dX8_isTicketSold_16 kX8_69 mzX8_isClubKind (c_X8_isClubKind _) rfl rfl (by decide) (xs8 (Nat.le_of_ble_eq_true rfl)) (by first | exact Nat.le_of_ble_eq_true rfl | omega) (by first | exact Nat.le_of_ble_eq_true rfl | omega) ?_
  rintro _ _ ⟨rfl, rfl⟩; rw [if_pos e2]
  refine E_if_eq (tgt := 67) dX8_isTicketSold_19 (by decide) (fun h19 => absurd h19 (by decide)) (fun h19 => ?_)
  refine E_aload_n dX8_isTicketSold_22 rfl rfl ?_
  refine E_iload_n dX8_isTicketSold_23 rfl rfl ?_
  refine E_callV (m2 := mX8_clubOf) dX8_isTicketSold_24 kX8_73 mzX8_clubOf (c_clubOf hX a hc) rfl ⟨_, _, rfl⟩ rfl rfl (by decide) (xs8 (Nat.le_of_ble_eq_true rfl)) (by first | exact Nat.le_of_ble_eq_true rfl | omega) (by first | exact Nat.le_of_ble_eq_true rfl | omega) ?_
  rintro _ _ ⟨rfl, rfl⟩
  refine E_astore dX8_isTicketSold_27 (by decide) rfl ?_
  refine E_aload dX8_isTicketSold_29 rfl ?_
  refine E_ifnull (tgt := 65) dX8_isTicketSold_31 (by decide) (fun h31 => ?_) (fun q31 h31 => ?_)
  · cases h31
  · refine E_aload dX8_isTicketSold_34 rfl ?_
    refine E_getR dX8_isTicketSold_36 fX8_322 rfl rfl rfl hp ?_
    refine E_aload_n dX8_isTicketSold_39 rfl rfl ?_
    refine E_acmp_ne (tgt := 65) dX8_isTicketSold_40 (by decide) (by intro q h; cases h; simp) (by intro q h; cases h; simp) (fun h40 => ?_) (fun h40 => ?_)
    · rw [if_neg (fun z => h40 (by rw [z.1]))]
      refine E_iconst (v := 0) dX8_isTicketSold_65 (by decide) ?_
      refine E_iret dX8_isTicketSold_66 rfl rfl ?_
      first | exact ⟨rfl, rfl⟩ | (refine ⟨congrArg (fun z => some (xI z)) ?_, rfl⟩; simp_all)
    · have h40 : P2 = P := by cases h40; rfl
      refine E_aload dX8_isTicketSold_43 rfl ?_
      refine E_callV (m2 := mX0_isSchool) dX8_isTicketSold_45 kX8_323 mzX0_isSchool (c_X0_isSchool c) rfl ⟨_, _, rfl⟩ rfl rfl (by decide) (xs8 (Nat.le_of_ble_eq_true rfl)) (by first | exact Nat.le_of_ble_eq_true rfl | omega) (by first | exact Nat.le_of_ble_eq_true rfl | omega) ?_
      rintro _ _ ⟨rfl, rfl⟩
      refine E_iload_n dX8_isTicketSold_48 rfl rfl ?_
      refine E_iconst (v := 3) dX8_isTicketSold_49 (by decide) ?_
      refine E_icmp_ne (tgt := 57) dX8_isTicketSold_50 (by decide) (fun h50 => ?_) (fun h50 => ?_)
      · refine E_iconst (v := 0) dX8_isTicketSold_57 (by decide) ?_
        refine E_icmp_ne (tgt := 65) dX8_isTicketSold_58 (by decide) (fun h58 => ?_) (fun h58 => ?_)
        · refine E_iconst (v := 0) dX8_isTicketSold_65 (by decide) ?_
          refine E_iret dX8_isTicketSold_66 rfl rfl ?_
          first | exact ⟨rfl, rfl⟩ | (refine ⟨congrArg (fun z => some (xI z)) ?_, rfl⟩; simp_all)
        · refine E_iconst (v := 1) dX8_isTicketSold_61 (by decide) ?_
          refine E_goto (tgt := 66) dX8_isTicketSold_62 (by decide) ?_
          refine E_iret dX8_isTicketSold_66 rfl rfl ?_
          first | exact ⟨rfl, rfl⟩ | (refine ⟨congrArg (fun z => some (xI z)) ?_, rfl⟩; simp_all)
      · refine E_iconst (v := 1) dX8_isTicketSold_53 (by decide) ?_
        refine E_goto (tgt := 58) dX8_isTicketSold_54 (by decide) ?_
        refine E_icmp_ne (tgt := 65) dX8_isTicketSold_58 (by decide) (fun h58 => ?_) (fun h58 => ?_)
        · refine E_iconst (v := 0) dX8_isTicketSold_65 (by decide) ?_
          refine E_iret dX8_isTicketSold_66 rfl rfl ?_
          first | exact ⟨rfl, rfl⟩ | (refine ⟨congrArg (fun z => some (xI z)) ?_, rfl⟩; simp_all)
        · refine E_iconst (v := 1) dX8_isTicketSold_61 (by decide) ?_
          refine E_goto (tgt := 66) dX8_isTicketSold_62 (by decide) ?_
          refine E_iret dX8_isTicketSold_66 rfl rfl ?_
          first | exact ⟨rfl, rfl⟩ | (refine ⟨congrArg (fun z => some (xI z)) ?_, rfl⟩; simp_all)
theorem c_hoursNeeded {S : xS} (x y z : Int32) : CC mX8_hoursNeeded 1 0 0 [xI x, xI y, xI z] S (aI (if y * 100 < 1 then 25 else (x * (100 + z) + y * 100 - 1) / (y * 100)) S) := by
  refine CC_of mpX8_hoursNeeded rfl (Nat.le_of_ble_eq_true rfl) ?_
  refine E_iload_n dX8_hoursNeeded_0 rfl rfl ?_
  refine E_bipush (v := 100) dX8_hoursNeeded_1 (by decide) ?_
  refine E_iload_n dX8_hoursNeeded_3 rfl rfl ?_
  refine E_iadd dX8_hoursNeeded_4 ?_
  refine E_imul dX8_hoursNeeded_5 ?_
  refine E_istore_n dX8_hoursNeeded_6 rfl (by decide) rfl ?_
  refine E_iload_n dX8_hoursNeeded_7 rfl rfl ?_
  refine E_bipush (v := 100) dX8_hoursNeeded_8 (by decide) ?_
  refine E_imul dX8_hoursNeeded_10 ?_
  refine E_istore dX8_hoursNeeded_11 (by decide) rfl ?_
  refine E_iload dX8_hoursNeeded_13 rfl ?_
  refine E_iconst (v := 1) dX8_hoursNeeded_15 (by decide) ?_
  refine E_icmp_ge (tgt := 24) dX8_hoursNeeded_16 (by decide) (fun h16 => ?_) (fun h16 => ?_)
  · refine E_iload_n dX8_hoursNeeded_24 rfl rfl ?_
    refine E_iload dX8_hoursNeeded_25 rfl ?_
    refine E_iadd dX8_hoursNeeded_27 ?_
    refine E_iconst (v := 1) dX8_hoursNeeded_28 (by decide) ?_
    refine E_isub dX8_hoursNeeded_29 ?_
    refine E_iload dX8_hoursNeeded_30 rfl ?_
    refine E_idiv dX8_hoursNeeded_32 (fun hz => by have h16 := h16; rw [hz] at h16; exact absurd h16 (by decide)) ?_
    refine E_iret dX8_hoursNeeded_33 rfl rfl ?_
    refine ⟨congrArg (fun z => some (xI z)) ?_, rfl⟩; first | rw [if_neg (Int32.not_lt.mpr h16)] | rw [if_pos (Int32.not_le.mp h16)]
  · refine E_bipush (v := 25) dX8_hoursNeeded_19 (by decide) ?_
    refine E_goto (tgt := 33) dX8_hoursNeeded_21 (by decide) ?_
    refine E_iret dX8_hoursNeeded_33 rfl rfl ?_
    refine ⟨congrArg (fun z => some (xI z)) ?_, rfl⟩; first | rw [if_neg (Int32.not_lt.mpr h16)] | rw [if_pos (Int32.not_le.mp h16)]
end
section
/-! BathHouse: its calls -/
theorem c_pool_y {S : xS} (hX : xShX S) {P N : Nat} (x2 x3 : Int32) (hnow : (gI S 8 0 5) = 0) (hP : P < 4) (hN : N ≤ 3) (hr : gR S 10 0 P = none) (e2 : 1 ≤ x2 ∧ x2 ≤ 200) (e3 : 1 ≤ x3 ∧ x3 ≤ 8) (f0 : gL S 3 P = none) (h18 : gL S 18 P = none) (hd : gL S 1 P = none) (h17 : gL S 17 P = none) (hf : ∀ j, j < 3 → gL S 4 (3 * P + j) = none) (hf2 : ∀ j, j < 3 → gL S 6 (3 * P + j) = none) : CC mX8_pool 4 10 46 [xR (some (8, 0)), xI (nI P), xI x2, xI x3, xI (nI N)] S (aI 1 (sR (xpi (sN S 3 P 0) P (nI P) x2 x3 N) 10 0 P (some (3, P)))) := by
  refine CC_of mpX8_pool rfl (Nat.le_of_ble_eq_true rfl) ?_
  have e1 : (0 : Int32) ≤ nI P ∧ nI P ≤ 3 := ⟨nI_le (a := 0) (by omega) (by omega), nI_le (b := 3) (by omega) (by omega)⟩
  have e4 : (0 : Int32) ≤ nI N ∧ nI N ≤ 3 := ⟨nI_le (a := 0) (by omega) (by omega), nI_le (b := 3) (by omega) (by omega)⟩
  refine E_aload_n dX8_pool_0 rfl rfl ?_
  refine E_getI dX8_pool_1 fX8_45 rfl rfl rfl rfl ?_
  refine E_if_ne (tgt := 25) dX8_pool_4 (by decide) (fun h4 => absurd h4 (fun z => z hnow)) (fun h4 => ?_)
  refine E_iload_n dX8_pool_7 rfl rfl ?_
  refine E_iconst (v := 0) dX8_pool_8 (by decide) ?_
  refine E_iconst (v := 3) dX8_pool_9 (by decide) ?_
  refine E_callS (m2 := mX8_isWithin) dX8_pool_10 kX8_48 mzX8_isWithin (c_X8_isWithin _ _ _) rfl rfl (by decide) (xs8 (Nat.le_of_ble_eq_true rfl)) (by first | exact Nat.le_of_ble_eq_true rfl | omega) (by first | exact Nat.le_of_ble_eq_true rfl | omega) ?_
  rintro _ _ ⟨rfl, rfl⟩; rw [if_pos e1]
  refine E_if_eq (tgt := 25) dX8_pool_13 (by decide) (fun h13 => absurd h13 (by decide)) (fun h13 => ?_)
  refine E_aload_n dX8_pool_16 rfl rfl ?_
  refine E_getR dX8_pool_17 fX8_11 rfl rfl rfl (rX_8_0 hX) ?_
  refine E_iload_n dX8_pool_20 rfl rfl ?_
  refine E_aald dX8_pool_21 rfl rfl (by decide) (lX_10 hX) (vin hP (by omega)) (vnat hP (by omega)) hr ?_
  refine E_ifnull (tgt := 27) dX8_pool_22 (by decide) (fun h22 => ?_) (fun q22 h22 => absurd h22 (by intro z; cases z))
  refine E_iload_n dX8_pool_27 rfl rfl ?_
  refine E_iconst (v := 1) dX8_pool_28 (by decide) ?_
  refine E_sipush (v := 200) dX8_pool_29 (by decide) ?_
  refine E_callS (m2 := mX8_isWithin) dX8_pool_32 kX8_48 mzX8_isWithin (c_X8_isWithin _ _ _) rfl rfl (by decide) (xs8 (Nat.le_of_ble_eq_true rfl)) (by first | exact Nat.le_of_ble_eq_true rfl | omega) (by first | exact Nat.le_of_ble_eq_true rfl | omega) ?_
  rintro _ _ ⟨rfl, rfl⟩; rw [if_pos e2]
  refine E_if_eq (tgt := 58) dX8_pool_35 (by decide) (fun h35 => absurd h35 (by decide)) (fun h35 => ?_)
  refine E_iload_n dX8_pool_38 rfl rfl ?_
  refine E_iconst (v := 1) dX8_pool_39 (by decide) ?_
  refine E_bipush (v := 8) dX8_pool_40 (by decide) ?_
  refine E_callS (m2 := mX8_isWithin) dX8_pool_42 kX8_48 mzX8_isWithin (c_X8_isWithin _ _ _) rfl rfl (by decide) (xs8 (Nat.le_of_ble_eq_true rfl)) (by first | exact Nat.le_of_ble_eq_true rfl | omega) (by first | exact Nat.le_of_ble_eq_true rfl | omega) ?_
  rintro _ _ ⟨rfl, rfl⟩; rw [if_pos e3]
  refine E_if_eq (tgt := 58) dX8_pool_45 (by decide) (fun h45 => absurd h45 (by decide)) (fun h45 => ?_)
  refine E_iload dX8_pool_48 rfl ?_
  refine E_iconst (v := 0) dX8_pool_50 (by decide) ?_
  refine E_iconst (v := 3) dX8_pool_51 (by decide) ?_
  refine E_callS (m2 := mX8_isWithin) dX8_pool_52 kX8_48 mzX8_isWithin (c_X8_isWithin _ _ _) rfl rfl (by decide) (xs8 (Nat.le_of_ble_eq_true rfl)) (by first | exact Nat.le_of_ble_eq_true rfl | omega) (by first | exact Nat.le_of_ble_eq_true rfl | omega) ?_
  rintro _ _ ⟨rfl, rfl⟩; rw [if_pos e4]
  refine E_if_ne (tgt := 60) dX8_pool_55 (by decide) (fun h55 => ?_) (fun h55 => absurd h55 (by decide))
  refine E_aload_n dX8_pool_60 rfl rfl ?_
  refine E_getR dX8_pool_61 fX8_11 rfl rfl rfl (rX_8_0 hX) ?_
  refine E_iload_n dX8_pool_64 rfl rfl ?_
  refine E_new (k := 3) (i := P) dX8_pool_65 nX8_9 rfl rfl rfl isX3 ziX3 f0 (by first | exact Nat.le_of_ble_eq_true rfl | omega) (by first | exact Nat.le_of_ble_eq_true rfl | omega) ?_
  refine E_dup dX8_pool_68 rfl ?_
  refine E_iload_n dX8_pool_69 rfl rfl ?_
  refine E_iload_n dX8_pool_70 rfl rfl ?_
  refine E_iload_n dX8_pool_71 rfl rfl ?_
  refine E_iload dX8_pool_72 rfl ?_
  refine E_callI (m2 := mX3_init) dX8_pool_74 kX8_52 mzX3_init (c_X3_init (S := sN S 3 P 0) hN (nI P) x2 x3 h18 hd h17 hf hf2) rfl rfl (by decide) (xs8 (Nat.le_of_ble_eq_true rfl)) (by first | exact Nat.le_of_ble_eq_true rfl | omega) (by first | exact Nat.le_of_ble_eq_true rfl | omega) ?_
  rintro _ _ ⟨rfl, rfl⟩
  refine E_aast dX8_pool_77 rfl rfl (by decide) (show gL (xpi (sN S 3 P 0) P (nI P) x2 x3 N) 10 0 = some 4 from (xpT_L (by decide) 3).trans ((xpP_L (by decide) N).trans (lX_10 hX))) (vin hP (by omega)) (vnat hP (by omega)) rfl rfl ?_
  refine E_iconst (v := 1) dX8_pool_78 (by decide) ?_
  refine E_iret dX8_pool_79 rfl rfl ?_
  exact ⟨rfl, rfl⟩
theorem c_pool_n {S : xS} (hX : xShX S) (p x2 x3 x4 : Int32) (h : ¬ ((gI S 8 0 5) = 0 ∧ (0 ≤ p ∧ p ≤ 3) ∧ xpl S p = none ∧ (1 ≤ x2 ∧ x2 ≤ 200) ∧ (1 ≤ x3 ∧ x3 ≤ 8) ∧ 0 ≤ x4 ∧ x4 ≤ 3)) : CC mX8_pool 4 10 46 [xR (some (8, 0)), xI p, xI x2, xI x3, xI x4] S (aI 0 S) := by
  refine CC_of mpX8_pool rfl (Nat.le_of_ble_eq_true rfl) ?_
  by_cases e1 : 0 ≤ p ∧ p ≤ 3
  · obtain ⟨j, hj, rfl⟩ := nI_of2 (n := 3) rfl (Int32.not_lt.mpr e1.1) e1.2
    have hpl : xpl S (nI j) = gR S 10 0 j := by unfold xpl; rw [if_pos e1, vnat (by omega : j < 4) (by decide)]
    rw [hpl] at h
    refine E_aload_n dX8_pool_0 rfl rfl ?_
    refine E_getI dX8_pool_1 fX8_45 rfl rfl rfl rfl ?_
    refine E_if_ne (tgt := 25) dX8_pool_4 (by decide) (fun h4 => ?_) (fun h4 => ?_)
    · refine E_iconst (v := 0) dX8_pool_25 (by decide) ?_
      refine E_iret dX8_pool_26 rfl rfl ?_
      exact ⟨rfl, rfl⟩
    · refine E_iload_n dX8_pool_7 rfl rfl ?_
      refine E_iconst (v := 0) dX8_pool_8 (by decide) ?_
      refine E_iconst (v := 3) dX8_pool_9 (by decide) ?_
      refine E_callS (m2 := mX8_isWithin) dX8_pool_10 kX8_48 mzX8_isWithin (c_X8_isWithin _ _ _) rfl rfl (by decide) (xs8 (Nat.le_of_ble_eq_true rfl)) (by first | exact Nat.le_of_ble_eq_true rfl | omega) (by first | exact Nat.le_of_ble_eq_true rfl | omega) ?_
      rintro _ _ ⟨rfl, rfl⟩; rw [if_pos e1]
      refine E_if_eq (tgt := 25) dX8_pool_13 (by decide) (fun h13 => absurd h13 (by decide)) (fun h13 => ?_)
      refine E_aload_n dX8_pool_16 rfl rfl ?_
      refine E_getR dX8_pool_17 fX8_11 rfl rfl rfl (rX_8_0 hX) ?_
      refine E_iload_n dX8_pool_20 rfl rfl ?_
      refine E_aald dX8_pool_21 rfl rfl (by decide) (lX_10 hX) (vin (by omega : j < 4) (by omega)) (vnat (by omega : j < 4) (by omega)) rfl ?_
      refine E_ifnull (tgt := 27) dX8_pool_22 (by decide) (fun h22 => ?_) (fun q22 h22 => ?_)
      · refine E_iload_n dX8_pool_27 rfl rfl ?_
        refine E_iconst (v := 1) dX8_pool_28 (by decide) ?_
        refine E_sipush (v := 200) dX8_pool_29 (by decide) ?_
        refine E_callS (m2 := mX8_isWithin) dX8_pool_32 kX8_48 mzX8_isWithin (c_X8_isWithin _ _ _) rfl rfl (by decide) (xs8 (Nat.le_of_ble_eq_true rfl)) (by first | exact Nat.le_of_ble_eq_true rfl | omega) (by first | exact Nat.le_of_ble_eq_true rfl | omega) ?_
        rintro _ _ ⟨rfl, rfl⟩
        refine E_if_eq (tgt := 58) dX8_pool_35 (by decide) (fun h35 => ?_) (fun h35 => ?_)
        · refine E_iconst (v := 0) dX8_pool_58 (by decide) ?_
          refine E_iret dX8_pool_59 rfl rfl ?_
          exact ⟨rfl, rfl⟩
        · refine E_iload_n dX8_pool_38 rfl rfl ?_
          refine E_iconst (v := 1) dX8_pool_39 (by decide) ?_
          refine E_bipush (v := 8) dX8_pool_40 (by decide) ?_
          refine E_callS (m2 := mX8_isWithin) dX8_pool_42 kX8_48 mzX8_isWithin (c_X8_isWithin _ _ _) rfl rfl (by decide) (xs8 (Nat.le_of_ble_eq_true rfl)) (by first | exact Nat.le_of_ble_eq_true rfl | omega) (by first | exact Nat.le_of_ble_eq_true rfl | omega) ?_
          rintro _ _ ⟨rfl, rfl⟩
          refine E_if_eq (tgt := 58) dX8_pool_45 (by decide) (fun h45 => ?_) (fun h45 => ?_)
          · refine E_iconst (v := 0) dX8_pool_58 (by decide) ?_
            refine E_iret dX8_pool_59 rfl rfl ?_
            exact ⟨rfl, rfl⟩
          · refine E_iload dX8_pool_48 rfl ?_
            refine E_iconst (v := 0) dX8_pool_50 (by decide) ?_
            refine E_iconst (v := 3) dX8_pool_51 (by decide) ?_
            refine E_callS (m2 := mX8_isWithin) dX8_pool_52 kX8_48 mzX8_isWithin (c_X8_isWithin _ _ _) rfl rfl (by decide) (xs8 (Nat.le_of_ble_eq_true rfl)) (by first | exact Nat.le_of_ble_eq_true rfl | omega) (by first | exact Nat.le_of_ble_eq_true rfl | omega) ?_
            rintro _ _ ⟨rfl, rfl⟩
            refine E_if_ne (tgt := 60) dX8_pool_55 (by decide) (fun h55 => ?_) (fun h55 => ?_)
            · exact absurd ⟨h4, e1, h22, ite1 h35, ite1 h45, ite1 h55⟩ h
            · refine E_iconst (v := 0) dX8_pool_58 (by decide) ?_
              refine E_iret dX8_pool_59 rfl rfl ?_
              exact ⟨rfl, rfl⟩
      · refine E_iconst (v := 0) dX8_pool_25 (by decide) ?_
        refine E_iret dX8_pool_26 rfl rfl ?_
        exact ⟨rfl, rfl⟩
  · skip
    refine E_aload_n dX8_pool_0 rfl rfl ?_
    refine E_getI dX8_pool_1 fX8_45 rfl rfl rfl rfl ?_
    refine E_if_ne (tgt := 25) dX8_pool_4 (by decide) (fun h4 => ?_) (fun h4 => ?_)
    · refine E_iconst (v := 0) dX8_pool_25 (by decide) ?_
      refine E_iret dX8_pool_26 rfl rfl ?_
      exact ⟨rfl, rfl⟩
    · refine E_iload_n dX8_pool_7 rfl rfl ?_
      refine E_iconst (v := 0) dX8_pool_8 (by decide) ?_
      refine E_iconst (v := 3) dX8_pool_9 (by decide) ?_
      refine E_callS (m2 := mX8_isWithin) dX8_pool_10 kX8_48 mzX8_isWithin (c_X8_isWithin _ _ _) rfl rfl (by decide) (xs8 (Nat.le_of_ble_eq_true rfl)) (by first | exact Nat.le_of_ble_eq_true rfl | omega) (by first | exact Nat.le_of_ble_eq_true rfl | omega) ?_
      rintro _ _ ⟨rfl, rfl⟩; rw [if_neg e1]
      refine E_if_eq (tgt := 25) dX8_pool_13 (by decide) (fun h13 => ?_) (fun h13 => absurd h13 (by decide))
      refine E_iconst (v := 0) dX8_pool_25 (by decide) ?_
      refine E_iret dX8_pool_26 rfl rfl ?_
      exact ⟨rfl, rfl⟩
theorem c_clash {S : xS} : CC mX8_clash 1 0 0 [xR (some (8, 0))] S (aI (gI S 8 0 8) S) := by
  refine CC_of mpX8_clash rfl (Nat.le_of_ble_eq_true rfl) ?_
  refine E_aload_n dX8_clash_0 rfl rfl ?_
  refine E_getI dX8_clash_1 fX8_41 rfl rfl rfl rfl ?_
  refine E_iret dX8_clash_4 rfl rfl ?_
  exact ⟨rfl, rfl⟩
theorem c_leave_n {S : xS} (hX : xShX S) (x : Int32) (h : xcl S x = none) : CC mX8_leave 3 0 0 [xR (some (8, 0)), xI x] S (aI 0 S) := by
  refine CC_of mpX8_leave rfl (Nat.le_of_ble_eq_true rfl) ?_
  refine E_aload_n dX8_leave_0 rfl rfl ?_
  refine E_iload_n dX8_leave_1 rfl rfl ?_
  refine E_callV (m2 := mX8_clubOf) dX8_leave_2 kX8_73 mzX8_clubOf (c_clubOf hX x h) rfl ⟨_, _, rfl⟩ rfl rfl (by decide) (xs8 (Nat.le_of_ble_eq_true rfl)) (by first | exact Nat.le_of_ble_eq_true rfl | omega) (by first | exact Nat.le_of_ble_eq_true rfl | omega) ?_
  rintro _ _ ⟨rfl, rfl⟩
  refine E_astore_n dX8_leave_5 rfl (by decide) rfl ?_
  refine E_aload_n dX8_leave_6 rfl rfl ?_
  refine E_ifnull (tgt := 21) dX8_leave_7 (by decide) (fun h7 => ?_) (fun q7 h7 => absurd h7 (by intro z; cases z))
  refine E_iconst (v := 0) dX8_leave_21 (by decide) ?_
  refine E_iret dX8_leave_22 rfl rfl ?_
  exact ⟨rfl, rfl⟩
theorem c_leave_s {S : xS} (hX : xShX S) (x : Int32) {c : Nat} (h : xcl S x = some (0, c)) : CC mX8_leave 3 0 0 [xR (some (8, 0)), xI x] S (aI (if (gI S 8 0 5) < (gI S 0 c 4) then 1 else 0) (if (gI S 8 0 5) < (gI S 0 c 4) then (sI S 0 c 4 (gI S 8 0 5)) else S)) := by
  refine CC_of mpX8_leave rfl (Nat.le_of_ble_eq_true rfl) ?_
  refine E_aload_n dX8_leave_0 rfl rfl ?_
  refine E_iload_n dX8_leave_1 rfl rfl ?_
  refine E_callV (m2 := mX8_clubOf) dX8_leave_2 kX8_73 mzX8_clubOf (c_clubOf hX x h) rfl ⟨_, _, rfl⟩ rfl rfl (by decide) (xs8 (Nat.le_of_ble_eq_true rfl)) (by first | exact Nat.le_of_ble_eq_true rfl | omega) (by first | exact Nat.le_of_ble_eq_true rfl | omega) ?_
  rintro _ _ ⟨rfl, rfl⟩
  refine E_astore_n dX8_leave_5 rfl (by decide) rfl ?_
  refine E_aload_n dX8_leave_6 rfl rfl ?_
  refine E_ifnull (tgt := 21) dX8_leave_7 (by decide) (fun h7 => ?_) (fun q7 h7 => ?_)
  · cases h7
  · refine E_aload_n dX8_leave_10 rfl rfl ?_
    refine E_getI dX8_leave_11 fX8_45 rfl rfl rfl rfl ?_
    refine E_aload_n dX8_leave_14 rfl rfl ?_
    refine E_getI dX8_leave_15 fX8_93 rfl rfl rfl rfl ?_
    refine E_icmp_lt (tgt := 23) dX8_leave_18 (by decide) (fun h18 => ?_) (fun h18 => ?_)
    · rw [if_pos h18, if_pos h18]
      refine E_aload_n dX8_leave_23 rfl rfl ?_
      refine E_aload_n dX8_leave_24 rfl rfl ?_
      refine E_getI dX8_leave_25 fX8_45 rfl rfl rfl rfl ?_
      refine E_putI dX8_leave_28 fX8_93 rfl rfl rfl rfl rfl ?_
      refine E_iconst (v := 1) dX8_leave_31 (by decide) ?_
      refine E_iret dX8_leave_32 rfl rfl ?_
      exact ⟨rfl, rfl⟩
    · rw [if_neg h18, if_neg h18]
      refine E_iconst (v := 0) dX8_leave_21 (by decide) ?_
      refine E_iret dX8_leave_22 rfl rfl ?_
      exact ⟨rfl, rfl⟩
theorem c_may_n {S : xS} (hX : xShX S) (x : Int32) (h : xtl S x = none) : CC mX8_may 6 0 0 [xR (some (8, 0)), xI x] S (aI (-1) S) := by
  refine CC_of mpX8_may rfl (Nat.le_of_ble_eq_true rfl) ?_
  refine E_aload_n dX8_may_0 rfl rfl ?_
  refine E_iload_n dX8_may_1 rfl rfl ?_
  refine E_callV (m2 := mX8_ticketOf) dX8_may_2 kX8_96 mzX8_ticketOf (c_ticketOf hX x h) rfl ⟨_, _, rfl⟩ rfl rfl (by decide) (xs8 (Nat.le_of_ble_eq_true rfl)) (by first | exact Nat.le_of_ble_eq_true rfl | omega) (by first | exact Nat.le_of_ble_eq_true rfl | omega) ?_
  rintro _ _ ⟨rfl, rfl⟩
  refine E_astore_n dX8_may_5 rfl (by decide) rfl ?_
  refine E_aload_n dX8_may_6 rfl rfl ?_
  refine E_ifnonnull (tgt := 14) dX8_may_7 (by decide) (fun q7 h7 => absurd h7 (by intro z; cases z)) (fun h7 => ?_)
  refine E_iconst (v := -1) dX8_may_10 (by decide) ?_
  refine E_goto (tgt := 19) dX8_may_11 (by decide) ?_
  refine E_iret dX8_may_19 rfl rfl ?_
  exact ⟨rfl, rfl⟩
theorem c_may_s {S : xS} (hX : xShX S) (x : Int32) {t P n : Nat} (h : xtl S x = some (7, t)) (ht : (gR S 7 t 1) = some (3, P)) (hp : xShP S P n) (hc : ∀ q, (gR S 7 t 4) = some q → q.1 = 0) : CC mX8_may 6 0 0 [xR (some (8, 0)), xI x] S (aI (xrg S t P n) S) := by
  refine CC_of mpX8_may rfl (Nat.le_of_ble_eq_true rfl) ?_
  refine E_aload_n dX8_may_0 rfl rfl ?_
  refine E_iload_n dX8_may_1 rfl rfl ?_
  refine E_callV (m2 := mX8_ticketOf) dX8_may_2 kX8_96 mzX8_ticketOf (c_ticketOf hX x h) rfl ⟨_, _, rfl⟩ rfl rfl (by decide) (xs8 (Nat.le_of_ble_eq_true rfl)) (by first | exact Nat.le_of_ble_eq_true rfl | omega) (by first | exact Nat.le_of_ble_eq_true rfl | omega) ?_
  rintro _ _ ⟨rfl, rfl⟩
  refine E_astore_n dX8_may_5 rfl (by decide) rfl ?_
  refine E_aload_n dX8_may_6 rfl rfl ?_
  refine E_ifnonnull (tgt := 14) dX8_may_7 (by decide) (fun q7 h7 => ?_) (fun h7 => ?_)
  · refine E_aload_n dX8_may_14 rfl rfl ?_
    refine E_aload_n dX8_may_15 rfl rfl ?_
    refine E_callV (m2 := mX8_reasonAgainst) dX8_may_16 kX8_100 mzX8_reasonAgainst (c_reasonAgainst t P n ht hp hc) rfl ⟨_, _, rfl⟩ rfl rfl (by decide) (xs8 (Nat.le_of_ble_eq_true rfl)) (by first | exact Nat.le_of_ble_eq_true rfl | omega) (by first | exact Nat.le_of_ble_eq_true rfl | omega) ?_
    rintro _ _ ⟨rfl, rfl⟩
    refine E_iret dX8_may_19 rfl rfl ?_
    exact ⟨rfl, rfl⟩
  · cases h7
theorem xpass_2 {S : xS} {c : Nat} {b x : Int32} : (xpass S c b x).2 = S.2 := by unfold xpass; split <;> rfl
theorem xpc_2 {S : xS} {t : Nat} {x : Int32} : (xpc S t x).2 = S.2 := by
  unfold xpc
  split
  · rfl
  · exact xpass_2
/-- a pool lets a ticket in, out -/
def xli (S : xS) (p t : Nat) : xS := (sI (sI (sI (sI S 3 p 6 ((gI S 3 p 6) + 1)) 3 p 7 ((gI S 3 p 7) + (if (gI S 7 t 2) = 5 then 1 else 0))) 1 p 5 ((gI S 1 p 5) + 1)) 1 p 4 ((gI S 1 p 4) + 1))
def xlo (S : xS) (p t : Nat) : xS := (sI (sI (sI (sI S 3 p 6 ((gI S 3 p 6) - 1)) 3 p 7 ((gI S 3 p 7) - (if (gI S 7 t 2) = 5 then 1 else 0))) 1 p 6 ((gI S 1 p 6) + 1)) 1 p 4 ((gI S 1 p 4) - 1))
def xcw (S : xS) (t : Nat) (x : Int32) : Int32 := match (gR S 7 t 4) with
  | none => (gI S 7 t 3)
  | some q => (gI S 0 q.2 4) - x
/-- a ticket comes in -/
def xtin (S : xS) (t P : Nat) : xS := xli (xpc (xci S t (gI S 8 0 5) (xcw S t (gI S 8 0 5))) t 1) P t
theorem c_in_n {S : xS} (hX : xShX S) (x : Int32) (h : xtl S x = none) : CC mX8_in 6 0 0 [xR (some (8, 0)), xI x] S (aI (-1) S) := by
  refine CC_of mpX8_in rfl (Nat.le_of_ble_eq_true rfl) ?_
  refine E_aload_n dX8_in_0 rfl rfl ?_
  refine E_iload_n dX8_in_1 rfl rfl ?_
  refine E_callV (m2 := mX8_ticketOf) dX8_in_2 kX8_96 mzX8_ticketOf (c_ticketOf hX x h) rfl ⟨_, _, rfl⟩ rfl rfl (by decide) (xs8 (Nat.le_of_ble_eq_true rfl)) (by first | exact Nat.le_of_ble_eq_true rfl | omega) (by first | exact Nat.le_of_ble_eq_true rfl | omega) ?_
  rintro _ _ ⟨rfl, rfl⟩
  refine E_astore_n dX8_in_5 rfl (by decide) rfl ?_
  refine E_aload_n dX8_in_6 rfl rfl ?_
  refine E_ifnonnull (tgt := 12) dX8_in_7 (by decide) (fun q7 h7 => absurd h7 (by intro z; cases z)) (fun h7 => ?_)
  refine E_iconst (v := -1) dX8_in_10 (by decide) ?_
  refine E_iret dX8_in_11 rfl rfl ?_
  exact ⟨rfl, rfl⟩
theorem c_in_s {S : xS} (hX : xShX S) (x : Int32) {t P n : Nat} (h : xtl S x = some (7, t)) (ht : (gR S 7 t 1) = some (3, P)) (hp : xShP S P n) (hc : ∀ q, (gR S 7 t 4) = some q → q.1 = 0) : CC mX8_in 6 0 0 [xR (some (8, 0)), xI x] S (aI (xrg S t P n) (if xrg S t P n = 0 then xtin S t P else S)) := by
  refine CC_of mpX8_in rfl (Nat.le_of_ble_eq_true rfl) ?_
  by_cases h0 : xrg S t P n = 0
  · rw [if_pos h0]
    have e2 : (xpc (xci S t (gI S 8 0 5) (xcw S t (gI S 8 0 5))) t 1).2 = S.2 := xpc_2
    refine E_aload_n dX8_in_0 rfl rfl ?_
    refine E_iload_n dX8_in_1 rfl rfl ?_
    refine E_callV (m2 := mX8_ticketOf) dX8_in_2 kX8_96 mzX8_ticketOf (c_ticketOf hX x h) rfl ⟨_, _, rfl⟩ rfl rfl (by decide) (xs8 (Nat.le_of_ble_eq_true rfl)) (by first | exact Nat.le_of_ble_eq_true rfl | omega) (by first | exact Nat.le_of_ble_eq_true rfl | omega) ?_
    rintro _ _ ⟨rfl, rfl⟩
    refine E_astore_n dX8_in_5 rfl (by decide) rfl ?_
    refine E_aload_n dX8_in_6 rfl rfl ?_
    refine E_ifnonnull (tgt := 12) dX8_in_7 (by decide) (fun q7 h7 => ?_) (fun h7 => ?_)
    · refine E_aload_n dX8_in_12 rfl rfl ?_
      refine E_aload_n dX8_in_13 rfl rfl ?_
      refine E_callV (m2 := mX8_reasonAgainst) dX8_in_14 kX8_100 mzX8_reasonAgainst (c_reasonAgainst t P n ht hp hc) rfl ⟨_, _, rfl⟩ rfl rfl (by decide) (xs8 (Nat.le_of_ble_eq_true rfl)) (by first | exact Nat.le_of_ble_eq_true rfl | omega) (by first | exact Nat.le_of_ble_eq_true rfl | omega) ?_
      rintro _ _ ⟨rfl, rfl⟩
      refine E_istore_n dX8_in_17 rfl (by decide) rfl ?_
      refine E_iload_n dX8_in_18 rfl rfl ?_
      refine E_if_ne (tgt := 38) dX8_in_19 (by decide) (fun h19 => absurd h19 (fun z => z h0)) (fun h19 => ?_)
      refine E_aload_n dX8_in_22 rfl rfl ?_
      refine E_aload_n dX8_in_23 rfl rfl ?_
      refine E_getI dX8_in_24 fX8_45 rfl rfl rfl rfl ?_
      refine E_callV (m2 := mX7_comeIn) dX8_in_27 kX8_104 mzX7_comeIn (c_X7_comeIn t _ hc) rfl ⟨_, _, rfl⟩ rfl rfl (by decide) (xs8 (Nat.le_of_ble_eq_true rfl)) (by first | exact Nat.le_of_ble_eq_true rfl | omega) (by first | exact Nat.le_of_ble_eq_true rfl | omega) ?_
      rintro _ _ ⟨rfl, rfl⟩
      refine E_aload_n dX8_in_30 rfl rfl ?_
      refine E_getR dX8_in_31 fX8_108 rfl rfl rfl (xpc_post.trans ht) ?_
      refine E_aload_n dX8_in_34 rfl rfl ?_
      refine E_callV (m2 := mX3_letIn) dX8_in_35 kX8_112 mzX3_letIn (c_X3_letIn P t n (xShP_2 hp e2)) rfl ⟨_, _, rfl⟩ rfl rfl (by decide) (xs8 (Nat.le_of_ble_eq_true rfl)) (by first | exact Nat.le_of_ble_eq_true rfl | omega) (by first | exact Nat.le_of_ble_eq_true rfl | omega) ?_
      rintro _ _ ⟨rfl, rfl⟩
      refine E_iload_n dX8_in_38 rfl rfl ?_
      refine E_iret dX8_in_39 rfl rfl ?_
      exact ⟨rfl, rfl⟩
    · cases h7
  · rw [if_neg h0]
    refine E_aload_n dX8_in_0 rfl rfl ?_
    refine E_iload_n dX8_in_1 rfl rfl ?_
    refine E_callV (m2 := mX8_ticketOf) dX8_in_2 kX8_96 mzX8_ticketOf (c_ticketOf hX x h) rfl ⟨_, _, rfl⟩ rfl rfl (by decide) (xs8 (Nat.le_of_ble_eq_true rfl)) (by first | exact Nat.le_of_ble_eq_true rfl | omega) (by first | exact Nat.le_of_ble_eq_true rfl | omega) ?_
    rintro _ _ ⟨rfl, rfl⟩
    refine E_astore_n dX8_in_5 rfl (by decide) rfl ?_
    refine E_aload_n dX8_in_6 rfl rfl ?_
    refine E_ifnonnull (tgt := 12) dX8_in_7 (by decide) (fun q7 h7 => ?_) (fun h7 => ?_)
    · refine E_aload_n dX8_in_12 rfl rfl ?_
      refine E_aload_n dX8_in_13 rfl rfl ?_
      refine E_callV (m2 := mX8_reasonAgainst) dX8_in_14 kX8_100 mzX8_reasonAgainst (c_reasonAgainst t P n ht hp hc) rfl ⟨_, _, rfl⟩ rfl rfl (by decide) (xs8 (Nat.le_of_ble_eq_true rfl)) (by first | exact Nat.le_of_ble_eq_true rfl | omega) (by first | exact Nat.le_of_ble_eq_true rfl | omega) ?_
      rintro _ _ ⟨rfl, rfl⟩
      refine E_istore_n dX8_in_17 rfl (by decide) rfl ?_
      refine E_iload_n dX8_in_18 rfl rfl ?_
      refine E_if_ne (tgt := 38) dX8_in_19 (by decide) (fun h19 => ?_) (fun h19 => absurd h19 (h0))
      refine E_iload_n dX8_in_38 rfl rfl ?_
      refine E_iret dX8_in_39 rfl rfl ?_
      exact ⟨rfl, rfl⟩
    · cases h7
theorem xlp_R {S : xS} {t : Nat} {x : Int32} {a b c : Nat} (h4 : a ≠ 4) (h7 : a = 7 → c ≠ 12) : gR (xlp S t x) a b c = gR S a b c := by
  unfold xlp
  split
  · rfl
  · rw [gR_sI, gR_sR, if_neg (fun z => h7 z.1 z.2.1), gR_sR, if_neg (fun z => h4 z.1)]
theorem xlp_L {S : xS} {t : Nat} {x : Int32} {a b : Nat} : gL (xlp S t x) a b = gL S a b := by
  unfold xlp
  split <;> rfl
theorem xShX_g {S S' : xS} (h : xShX S) (hR : ∀ a b c, a ≠ 4 → a ≠ 7 → gR S' a b c = gR S a b c) (hL : ∀ a b, gL S' a b = gL S a b) : xShX S' := by
  unfold xShX at h ⊢
  simp only [hL]
  rw [hR 8 0 0 (by decide) (by decide), hR 8 0 1 (by decide) (by decide), hR 8 0 2 (by decide) (by decide), hR 8 0 3 (by decide) (by decide), hR 8 0 4 (by decide) (by decide), hR 2 0 0 (by decide) (by decide), hR 2 0 1 (by decide) (by decide), hR 5 0 0 (by decide) (by decide), hR 5 0 1 (by decide) (by decide)]
  exact h
theorem xShP_g {S S' : xS} {p n : Nat} (h : xShP S p n) (hR : ∀ a b c, a ≠ 4 → a ≠ 7 → gR S' a b c = gR S a b c) (hL : ∀ a b, gL S' a b = gL S a b) : xShP S' p n := by
  obtain ⟨a1, a2, a3, a4, a5, a6, a7, a8⟩ := h
  exact ⟨a1, (hR _ _ _ (by decide) (by decide)).trans a2, (hR _ _ _ (by decide) (by decide)).trans a3, (hR _ _ _ (by decide) (by decide)).trans a4, (hL _ _).trans a5, (hL _ _).trans a6, fun k hk => (hR _ _ _ (by decide) (by decide)).trans (a7 k hk), fun k hk => (hR _ _ _ (by decide) (by decide)).trans (a8 k hk)⟩
/-- what it owes when it goes out now; a ticket goes out, its key aside -/
def xoc (S : xS) (t : Nat) : Int32 := xow (-(xml S t (gI S 8 0 5)))
def xto1 (S : xS) (t : Nat) : xS := xlp (xpc (xgo (sI S 8 0 9 ((gI S 8 0 9) + xoc S t)) t (xoc S t)) t (-1)) t (gI S 8 0 5)
def xto2 (S : xS) (t P : Nat) : xS := xlo (xto1 S t) P t
/-- its key is lost -/
def xtol (S : xS) (t : Nat) : xS := if 0 ≤ (gI S 7 t 11) ∧ (gI S 7 t 11) < 30 then (sI S 14 0 (gI S 7 t 11).toNatClampNeg 1) else S
def xto (S : xS) (t P : Nat) : xS := (sI (xtol (xto2 S t P) t) 7 t 11 (-1))
theorem xpass_I {S : xS} {c a b j : Nat} {y x : Int32} (h : a ≠ 0) : gI (xpass S c y x) a b j = gI S a b j := by unfold xpass; split <;> (rw [gI_sI, if_neg (fun z => h z.1)])
theorem xpc_I {S : xS} {t a b j : Nat} {x : Int32} (h : a ≠ 0) : gI (xpc S t x) a b j = gI S a b j := by
  unfold xpc
  split
  · rfl
  · exact xpass_I h
theorem xlp_I {S : xS} {t a b j : Nat} {x : Int32} (h : a = 7 → j ≠ 13) : gI (xlp S t x) a b j = gI S a b j := by
  unfold xlp
  split
  · rfl
  · rw [gI_sI, if_neg (fun z => h z.1 z.2.1)]; rfl
theorem xto1_R {S : xS} {t a b c : Nat} (h4 : a ≠ 4) (h7 : a ≠ 7) : gR (xto1 S t) a b c = gR S a b c := (xlp_R h4 (fun z => absurd z h7)).trans (gR_2 xpc_2 a b c)
theorem xto1_L {S : xS} {t a b : Nat} : gL (xto1 S t) a b = gL S a b := xlp_L.trans (gL_2 xpc_2 a b)
theorem c_out_n {S : xS} (hX : xShX S) (x : Int32) (h : xtl S x = none) : CC mX8_out 4 0 0 [xR (some (8, 0)), xI x] S (aI (-1) S) := by
  refine CC_of mpX8_out rfl (Nat.le_of_ble_eq_true rfl) ?_
  refine E_aload_n dX8_out_0 rfl rfl ?_
  refine E_iload_n dX8_out_1 rfl rfl ?_
  refine E_callV (m2 := mX8_ticketOf) dX8_out_2 kX8_96 mzX8_ticketOf (c_ticketOf hX x h) rfl ⟨_, _, rfl⟩ rfl rfl (by decide) (xs8 (Nat.le_of_ble_eq_true rfl)) (by first | exact Nat.le_of_ble_eq_true rfl | omega) (by first | exact Nat.le_of_ble_eq_true rfl | omega) ?_
  rintro _ _ ⟨rfl, rfl⟩
  refine E_astore_n dX8_out_5 rfl (by decide) rfl ?_
  refine E_aload_n dX8_out_6 rfl rfl ?_
  refine E_ifnull (tgt := 17) dX8_out_7 (by decide) (fun h7 => ?_) (fun q7 h7 => absurd h7 (by intro z; cases z))
  refine E_iconst (v := -1) dX8_out_17 (by decide) ?_
  refine E_iret dX8_out_18 rfl rfl ?_
  exact ⟨rfl, rfl⟩
theorem c_out_i {S : xS} (hX : xShX S) (x : Int32) {t : Nat} (h : xtl S x = some (7, t)) (hi : (gI S 7 t 6) = 0) : CC mX8_out 4 0 0 [xR (some (8, 0)), xI x] S (aI (-1) S) := by
  refine CC_of mpX8_out rfl (Nat.le_of_ble_eq_true rfl) ?_
  refine E_aload_n dX8_out_0 rfl rfl ?_
  refine E_iload_n dX8_out_1 rfl rfl ?_
  refine E_callV (m2 := mX8_ticketOf) dX8_out_2 kX8_96 mzX8_ticketOf (c_ticketOf hX x h) rfl ⟨_, _, rfl⟩ rfl rfl (by decide) (xs8 (Nat.le_of_ble_eq_true rfl)) (by first | exact Nat.le_of_ble_eq_true rfl | omega) (by first | exact Nat.le_of_ble_eq_true rfl | omega) ?_
  rintro _ _ ⟨rfl, rfl⟩
  refine E_astore_n dX8_out_5 rfl (by decide) rfl ?_
  refine E_aload_n dX8_out_6 rfl rfl ?_
  refine E_ifnull (tgt := 17) dX8_out_7 (by decide) (fun h7 => ?_) (fun q7 h7 => ?_)
  · cases h7
  · refine E_aload_n dX8_out_10 rfl rfl ?_
    refine E_getI dX8_out_11 fX8_116 rfl rfl rfl rfl ?_
    refine E_if_ne (tgt := 19) dX8_out_14 (by decide) (fun h14 => absurd h14 (fun z => z hi)) (fun h14 => ?_)
    refine E_iconst (v := -1) dX8_out_17 (by decide) ?_
    refine E_iret dX8_out_18 rfl rfl ?_
    exact ⟨rfl, rfl⟩
theorem c_out_d {S : xS} (hX : xShX S) (x : Int32) {t P n : Nat} (h : xtl S x = some (7, t)) (hi : ¬ (gI S 7 t 6) = 0) (ht : (gR S 7 t 1) = some (3, P)) (hp : xShP S P n) (hd : 3 ≤ (gI S 1 P 6)) : CC mX8_out 4 0 0 [xR (some (8, 0)), xI x] S (aI (-2) S) := by
  refine CC_of mpX8_out rfl (Nat.le_of_ble_eq_true rfl) ?_
  refine E_aload_n dX8_out_0 rfl rfl ?_
  refine E_iload_n dX8_out_1 rfl rfl ?_
  refine E_callV (m2 := mX8_ticketOf) dX8_out_2 kX8_96 mzX8_ticketOf (c_ticketOf hX x h) rfl ⟨_, _, rfl⟩ rfl rfl (by decide) (xs8 (Nat.le_of_ble_eq_true rfl)) (by first | exact Nat.le_of_ble_eq_true rfl | omega) (by first | exact Nat.le_of_ble_eq_true rfl | omega) ?_
  rintro _ _ ⟨rfl, rfl⟩
  refine E_astore_n dX8_out_5 rfl (by decide) rfl ?_
  refine E_aload_n dX8_out_6 rfl rfl ?_
  refine E_ifnull (tgt := 17) dX8_out_7 (by decide) (fun h7 => ?_) (fun q7 h7 => ?_)
  · cases h7
  · refine E_aload_n dX8_out_10 rfl rfl ?_
    refine E_getI dX8_out_11 fX8_116 rfl rfl rfl rfl ?_
    refine E_if_ne (tgt := 19) dX8_out_14 (by decide) (fun h14 => ?_) (fun h14 => absurd h14 (hi))
    refine E_aload_n dX8_out_19 rfl rfl ?_
    refine E_getR dX8_out_20 fX8_108 rfl rfl rfl ht ?_
    refine E_getR dX8_out_23 fX8_120 rfl rfl rfl (rP_5 hp) ?_
    refine E_getI dX8_out_26 fX8_124 rfl rfl rfl rfl ?_
    refine E_iconst (v := 3) dX8_out_29 (by decide) ?_
    refine E_icmp_lt (tgt := 36) dX8_out_30 (by decide) (fun h30 => absurd h30 (Int32.not_lt.mpr hd)) (fun h30 => ?_)
    refine E_bipush (v := -2) dX8_out_33 (by decide) ?_
    refine E_iret dX8_out_35 rfl rfl ?_
    exact ⟨rfl, rfl⟩
theorem c_out_s {S : xS} (hX : xShX S) (x : Int32) {t P n : Nat} (h : xtl S x = some (7, t)) (hi : ¬ (gI S 7 t 6) = 0) (ht : (gR S 7 t 1) = some (3, P)) (hp : xShP S P n) (hd : ¬ 3 ≤ (gI S 1 P 6)) (hc : ∀ q, (gR S 7 t 4) = some q → q.1 = 0) (hpo : ∀ q, (gR S 7 t 12) = some q → q.1 = 4) : CC mX8_out 4 0 0 [xR (some (8, 0)), xI x] S (aI (xoc S t) (xto S t P)) := by
  refine CC_of mpX8_out rfl (Nat.le_of_ble_eq_true rfl) ?_
  have hX1 : xShX (xto2 S t P) := xShX_g hX (fun a b c h4 h7 => xto1_R h4 h7) (fun a b => xto1_L)
  have hp1 : xShP (xto1 S t) P n := xShP_g hp (fun a b c h4 h7 => xto1_R h4 h7) (fun a b => xto1_L)
  have ht1 : gR (xto1 S t) 7 t 1 = some (3, P) := (xlp_R (by decide) (fun _ => by decide)).trans ((gR_2 xpc_2 7 t 1).trans ht)
  by_cases hlk : 0 ≤ (gI (xto2 S t P) 7 t 11) ∧ (gI (xto2 S t P) 7 t 11) < 30
  · have hl2 : ∃ j, j < 30 ∧ (gI (xto2 S t P) 7 t 11) = nI j := by
      obtain ⟨j, hj, e⟩ := nI_of (Int32.not_lt.mpr hlk.1)
      refine ⟨j, ?_, e⟩
      rw [e] at hlk
      exact (nI_ltI (b := 30) (by omega) (by omega)).mp hlk.2
    obtain ⟨j, hj, hl2⟩ := hl2
    unfold xto xtol
    rw [if_pos hlk]
    refine E_aload_n dX8_out_0 rfl rfl ?_
    refine E_iload_n dX8_out_1 rfl rfl ?_
    refine E_callV (m2 := mX8_ticketOf) dX8_out_2 kX8_96 mzX8_ticketOf (c_ticketOf hX x h) rfl ⟨_, _, rfl⟩ rfl rfl (by decide) (xs8 (Nat.le_of_ble_eq_true rfl)) (by first | exact Nat.le_of_ble_eq_true rfl | omega) (by first | exact Nat.le_of_ble_eq_true rfl | omega) ?_
    rintro _ _ ⟨rfl, rfl⟩
    refine E_astore_n dX8_out_5 rfl (by decide) rfl ?_
    refine E_aload_n dX8_out_6 rfl rfl ?_
    refine E_ifnull (tgt := 17) dX8_out_7 (by decide) (fun h7 => ?_) (fun q7 h7 => ?_)
    · cases h7
    · refine E_aload_n dX8_out_10 rfl rfl ?_
      refine E_getI dX8_out_11 fX8_116 rfl rfl rfl rfl ?_
      refine E_if_ne (tgt := 19) dX8_out_14 (by decide) (fun h14 => ?_) (fun h14 => absurd h14 (hi))
      refine E_aload_n dX8_out_19 rfl rfl ?_
      refine E_getR dX8_out_20 fX8_108 rfl rfl rfl ht ?_
      refine E_getR dX8_out_23 fX8_120 rfl rfl rfl (rP_5 hp) ?_
      refine E_getI dX8_out_26 fX8_124 rfl rfl rfl rfl ?_
      refine E_iconst (v := 3) dX8_out_29 (by decide) ?_
      refine E_icmp_lt (tgt := 36) dX8_out_30 (by decide) (fun h30 => ?_) (fun h30 => absurd h30 (fun z => z (Int32.not_le.mp hd)))
      refine E_aload_n dX8_out_36 rfl rfl ?_
      refine E_aload_n dX8_out_37 rfl rfl ?_
      refine E_getI dX8_out_38 fX8_45 rfl rfl rfl rfl ?_
      refine E_callV (m2 := mX7_owes) dX8_out_41 kX8_129 mzX7_owes (c_X7_owes t _) rfl ⟨_, _, rfl⟩ rfl rfl (by decide) (xs8 (Nat.le_of_ble_eq_true rfl)) (by first | exact Nat.le_of_ble_eq_true rfl | omega) (by first | exact Nat.le_of_ble_eq_true rfl | omega) ?_
      rintro _ _ ⟨rfl, rfl⟩
      refine E_istore_n dX8_out_44 rfl (by decide) rfl ?_
      refine E_aload_n dX8_out_45 rfl rfl ?_
      refine E_dup dX8_out_46 rfl ?_
      refine E_getI dX8_out_47 fX8_133 rfl rfl rfl rfl ?_
      refine E_iload_n dX8_out_50 rfl rfl ?_
      refine E_iadd dX8_out_51 ?_
      refine E_putI dX8_out_52 fX8_133 rfl rfl rfl rfl rfl ?_
      refine E_aload_n dX8_out_55 rfl rfl ?_
      refine E_aload_n dX8_out_56 rfl rfl ?_
      refine E_getI dX8_out_57 fX8_45 rfl rfl rfl rfl ?_
      refine E_iload_n dX8_out_60 rfl rfl ?_
      refine E_callV (m2 := mX7_goOut) dX8_out_61 kX8_136 mzX7_goOut (c_X7_goOut t _ _ hc hpo) rfl ⟨_, _, rfl⟩ rfl rfl (by decide) (xs8 (Nat.le_of_ble_eq_true rfl)) (by first | exact Nat.le_of_ble_eq_true rfl | omega) (by first | exact Nat.le_of_ble_eq_true rfl | omega) ?_
      rintro _ _ ⟨rfl, rfl⟩
      refine E_aload_n dX8_out_64 rfl rfl ?_
      refine E_getR dX8_out_65 fX8_108 rfl rfl rfl ht1 ?_
      refine E_aload_n dX8_out_68 rfl rfl ?_
      refine E_callV (m2 := mX3_letOut) dX8_out_69 kX8_140 mzX3_letOut (c_X3_letOut P t n hp1) rfl ⟨_, _, rfl⟩ rfl rfl (by decide) (xs8 (Nat.le_of_ble_eq_true rfl)) (by first | exact Nat.le_of_ble_eq_true rfl | omega) (by first | exact Nat.le_of_ble_eq_true rfl | omega) ?_
      rintro _ _ ⟨rfl, rfl⟩
      refine E_aload_n dX8_out_72 rfl rfl ?_
      refine E_getR dX8_out_73 fX8_30 rfl rfl rfl (rX_8_3 hX1) ?_
      refine E_aload_n dX8_out_76 rfl rfl ?_
      refine E_getI dX8_out_77 fX8_143 rfl rfl rfl hl2 ?_
      refine E_callV (m2 := mX2_lose) dX8_out_80 kX8_146 mzX2_lose (c_X2_lose_y hX1 j hj) rfl ⟨_, _, rfl⟩ rfl rfl (by decide) (xs8 (Nat.le_of_ble_eq_true rfl)) (by first | exact Nat.le_of_ble_eq_true rfl | omega) (by first | exact Nat.le_of_ble_eq_true rfl | omega) ?_
      rintro _ _ ⟨rfl, rfl⟩
      refine E_aload_n dX8_out_83 rfl rfl ?_
      refine E_iconst (v := -1) dX8_out_84 (by decide) ?_
      refine E_putI dX8_out_85 fX8_143 rfl rfl rfl rfl rfl ?_
      refine E_iload_n dX8_out_88 rfl rfl ?_
      refine E_iret dX8_out_89 rfl rfl ?_
      exact ⟨rfl, by rw [hl2, vnat hj (by decide)]⟩
  · unfold xto xtol
    rw [if_neg hlk]
    refine E_aload_n dX8_out_0 rfl rfl ?_
    refine E_iload_n dX8_out_1 rfl rfl ?_
    refine E_callV (m2 := mX8_ticketOf) dX8_out_2 kX8_96 mzX8_ticketOf (c_ticketOf hX x h) rfl ⟨_, _, rfl⟩ rfl rfl (by decide) (xs8 (Nat.le_of_ble_eq_true rfl)) (by first | exact Nat.le_of_ble_eq_true rfl | omega) (by first | exact Nat.le_of_ble_eq_true rfl | omega) ?_
    rintro _ _ ⟨rfl, rfl⟩
    refine E_astore_n dX8_out_5 rfl (by decide) rfl ?_
    refine E_aload_n dX8_out_6 rfl rfl ?_
    refine E_ifnull (tgt := 17) dX8_out_7 (by decide) (fun h7 => ?_) (fun q7 h7 => ?_)
    · cases h7
    · refine E_aload_n dX8_out_10 rfl rfl ?_
      refine E_getI dX8_out_11 fX8_116 rfl rfl rfl rfl ?_
      refine E_if_ne (tgt := 19) dX8_out_14 (by decide) (fun h14 => ?_) (fun h14 => absurd h14 (hi))
      refine E_aload_n dX8_out_19 rfl rfl ?_
      refine E_getR dX8_out_20 fX8_108 rfl rfl rfl ht ?_
      refine E_getR dX8_out_23 fX8_120 rfl rfl rfl (rP_5 hp) ?_
      refine E_getI dX8_out_26 fX8_124 rfl rfl rfl rfl ?_
      refine E_iconst (v := 3) dX8_out_29 (by decide) ?_
      refine E_icmp_lt (tgt := 36) dX8_out_30 (by decide) (fun h30 => ?_) (fun h30 => absurd h30 (fun z => z (Int32.not_le.mp hd)))
      refine E_aload_n dX8_out_36 rfl rfl ?_
      refine E_aload_n dX8_out_37 rfl rfl ?_
      refine E_getI dX8_out_38 fX8_45 rfl rfl rfl rfl ?_
      refine E_callV (m2 := mX7_owes) dX8_out_41 kX8_129 mzX7_owes (c_X7_owes t _) rfl ⟨_, _, rfl⟩ rfl rfl (by decide) (xs8 (Nat.le_of_ble_eq_true rfl)) (by first | exact Nat.le_of_ble_eq_true rfl | omega) (by first | exact Nat.le_of_ble_eq_true rfl | omega) ?_
      rintro _ _ ⟨rfl, rfl⟩
      refine E_istore_n dX8_out_44 rfl (by decide) rfl ?_
      refine E_aload_n dX8_out_45 rfl rfl ?_
      refine E_dup dX8_out_46 rfl ?_
      refine E_getI dX8_out_47 fX8_133 rfl rfl rfl rfl ?_
      refine E_iload_n dX8_out_50 rfl rfl ?_
      refine E_iadd dX8_out_51 ?_
      refine E_putI dX8_out_52 fX8_133 rfl rfl rfl rfl rfl ?_
      refine E_aload_n dX8_out_55 rfl rfl ?_
      refine E_aload_n dX8_out_56 rfl rfl ?_
      refine E_getI dX8_out_57 fX8_45 rfl rfl rfl rfl ?_
      refine E_iload_n dX8_out_60 rfl rfl ?_
      refine E_callV (m2 := mX7_goOut) dX8_out_61 kX8_136 mzX7_goOut (c_X7_goOut t _ _ hc hpo) rfl ⟨_, _, rfl⟩ rfl rfl (by decide) (xs8 (Nat.le_of_ble_eq_true rfl)) (by first | exact Nat.le_of_ble_eq_true rfl | omega) (by first | exact Nat.le_of_ble_eq_true rfl | omega) ?_
      rintro _ _ ⟨rfl, rfl⟩
      refine E_aload_n dX8_out_64 rfl rfl ?_
      refine E_getR dX8_out_65 fX8_108 rfl rfl rfl ht1 ?_
      refine E_aload_n dX8_out_68 rfl rfl ?_
      refine E_callV (m2 := mX3_letOut) dX8_out_69 kX8_140 mzX3_letOut (c_X3_letOut P t n hp1) rfl ⟨_, _, rfl⟩ rfl rfl (by decide) (xs8 (Nat.le_of_ble_eq_true rfl)) (by first | exact Nat.le_of_ble_eq_true rfl | omega) (by first | exact Nat.le_of_ble_eq_true rfl | omega) ?_
      rintro _ _ ⟨rfl, rfl⟩
      refine E_aload_n dX8_out_72 rfl rfl ?_
      refine E_getR dX8_out_73 fX8_30 rfl rfl rfl (rX_8_3 hX1) ?_
      refine E_aload_n dX8_out_76 rfl rfl ?_
      refine E_getI dX8_out_77 fX8_143 rfl rfl rfl rfl ?_
      refine E_callV (m2 := mX2_lose) dX8_out_80 kX8_146 mzX2_lose (c_X2_lose_n _ hlk) rfl ⟨_, _, rfl⟩ rfl rfl (by decide) (xs8 (Nat.le_of_ble_eq_true rfl)) (by first | exact Nat.le_of_ble_eq_true rfl | omega) (by first | exact Nat.le_of_ble_eq_true rfl | omega) ?_
      rintro _ _ ⟨rfl, rfl⟩
      refine E_aload_n dX8_out_83 rfl rfl ?_
      refine E_iconst (v := -1) dX8_out_84 (by decide) ?_
      refine E_putI dX8_out_85 fX8_143 rfl rfl rfl rfl rfl ?_
      refine E_iload_n dX8_out_88 rfl rfl ?_
      refine E_iret dX8_out_89 rfl rfl ?_
      exact ⟨rfl, rfl⟩
end
section
/-! BathHouse: its calls, on -/
theorem c_eye_n {S : xS} (hX : xShX S) (p b : Int32) (h : xpl S p = none) : CC mX8_eye 3 0 0 [xR (some (8, 0)), xI p, xI b] S (aI 0 S) := by
  refine CC_of mpX8_eye rfl (Nat.le_of_ble_eq_true rfl) ?_
  refine E_aload_n dX8_eye_0 rfl rfl ?_
  refine E_iload_n dX8_eye_1 rfl rfl ?_
  refine E_callV (m2 := mX8_poolOf) dX8_eye_2 kX8_58 mzX8_poolOf (c_poolOf hX p h) rfl ⟨_, _, rfl⟩ rfl rfl (by decide) (xs8 (Nat.le_of_ble_eq_true rfl)) (by first | exact Nat.le_of_ble_eq_true rfl | omega) (by first | exact Nat.le_of_ble_eq_true rfl | omega) ?_
  rintro _ _ ⟨rfl, rfl⟩
  refine E_astore_n dX8_eye_5 rfl (by decide) rfl ?_
  refine E_aload_n dX8_eye_6 rfl rfl ?_
  refine E_ifnull (tgt := 21) dX8_eye_7 (by decide) (fun h7 => ?_) (fun q7 h7 => absurd h7 (by intro z; cases z))
  refine E_iconst (v := 0) dX8_eye_21 (by decide) ?_
  refine E_iret dX8_eye_22 rfl rfl ?_
  exact ⟨rfl, rfl⟩
theorem c_eye_s {S : xS} (hX : xShX S) (p b : Int32) (hb : xB b) {P n : Nat} (h : xpl S p = some (3, P)) (hp : xShP S P n) : CC mX8_eye 3 0 0 [xR (some (8, 0)), xI p, xI b] S (aI (if (gI S 1 P 0) = b then 0 else 1) (if (gI S 1 P 0) = b then S else (sI (sI S 1 P 0 b) 1 P 1 1))) := by
  refine CC_of mpX8_eye rfl (Nat.le_of_ble_eq_true rfl) ?_
  refine E_aload_n dX8_eye_0 rfl rfl ?_
  refine E_iload_n dX8_eye_1 rfl rfl ?_
  refine E_callV (m2 := mX8_poolOf) dX8_eye_2 kX8_58 mzX8_poolOf (c_poolOf hX p h) rfl ⟨_, _, rfl⟩ rfl rfl (by decide) (xs8 (Nat.le_of_ble_eq_true rfl)) (by first | exact Nat.le_of_ble_eq_true rfl | omega) (by first | exact Nat.le_of_ble_eq_true rfl | omega) ?_
  rintro _ _ ⟨rfl, rfl⟩
  refine E_astore_n dX8_eye_5 rfl (by decide) rfl ?_
  refine E_aload_n dX8_eye_6 rfl rfl ?_
  refine E_ifnull (tgt := 21) dX8_eye_7 (by decide) (fun h7 => ?_) (fun q7 h7 => ?_)
  · cases h7
  · refine E_aload_n dX8_eye_10 rfl rfl ?_
    refine E_getR dX8_eye_11 fX8_120 rfl rfl rfl (rP_5 hp) ?_
    refine E_getI dX8_eye_14 fX8_149 rfl rfl rfl rfl ?_
    refine E_iload_n dX8_eye_17 rfl rfl ?_
    refine E_icmp_ne (tgt := 23) dX8_eye_18 (by decide) (fun h18 => ?_) (fun h18 => ?_)
    · rw [if_neg h18, if_neg h18]
      refine E_aload_n dX8_eye_23 rfl rfl ?_
      refine E_getR dX8_eye_24 fX8_120 rfl rfl rfl (rP_5 hp) ?_
      refine E_iload_n dX8_eye_27 rfl rfl ?_
      refine E_callV (m2 := mX1_turnEye) dX8_eye_28 kX8_152 mzX1_turnEye (c_X1_turnEye P b hb) rfl ⟨_, _, rfl⟩ rfl rfl (by decide) (xs8 (Nat.le_of_ble_eq_true rfl)) (by first | exact Nat.le_of_ble_eq_true rfl | omega) (by first | exact Nat.le_of_ble_eq_true rfl | omega) ?_
      rintro _ _ ⟨rfl, rfl⟩
      refine E_iconst (v := 1) dX8_eye_31 (by decide) ?_
      refine E_iret dX8_eye_32 rfl rfl ?_
      exact ⟨rfl, rfl⟩
    · rw [if_pos h18, if_pos h18]
      refine E_iconst (v := 0) dX8_eye_21 (by decide) ?_
      refine E_iret dX8_eye_22 rfl rfl ?_
      exact ⟨rfl, rfl⟩
theorem c_hand_n {S : xS} (hX : xShX S) (p : Int32) (h : xpl S p = none) : CC mX8_hand 3 0 0 [xR (some (8, 0)), xI p] S (aI (-1) S) := by
  refine CC_of mpX8_hand rfl (Nat.le_of_ble_eq_true rfl) ?_
  refine E_aload_n dX8_hand_0 rfl rfl ?_
  refine E_iload_n dX8_hand_1 rfl rfl ?_
  refine E_callV (m2 := mX8_poolOf) dX8_hand_2 kX8_58 mzX8_poolOf (c_poolOf hX p h) rfl ⟨_, _, rfl⟩ rfl rfl (by decide) (xs8 (Nat.le_of_ble_eq_true rfl)) (by first | exact Nat.le_of_ble_eq_true rfl | omega) (by first | exact Nat.le_of_ble_eq_true rfl | omega) ?_
  rintro _ _ ⟨rfl, rfl⟩
  refine E_astore_n dX8_hand_5 rfl (by decide) rfl ?_
  refine E_aload_n dX8_hand_6 rfl rfl ?_
  refine E_ifnonnull (tgt := 12) dX8_hand_7 (by decide) (fun q7 h7 => absurd h7 (by intro z; cases z)) (fun h7 => ?_)
  refine E_iconst (v := -1) dX8_hand_10 (by decide) ?_
  refine E_iret dX8_hand_11 rfl rfl ?_
  exact ⟨rfl, rfl⟩
theorem c_hand_s {S : xS} (hX : xShX S) (p : Int32) {P n : Nat} (h : xpl S p = some (3, P)) (hp : xShP S P n) : CC mX8_hand 3 0 0 [xR (some (8, 0)), xI p] S (aI (gI S 3 P 6) (xsf S P (gI S 3 P 6) (gI S 3 P 6))) := by
  refine CC_of mpX8_hand rfl (Nat.le_of_ble_eq_true rfl) ?_
  refine E_aload_n dX8_hand_0 rfl rfl ?_
  refine E_iload_n dX8_hand_1 rfl rfl ?_
  refine E_callV (m2 := mX8_poolOf) dX8_hand_2 kX8_58 mzX8_poolOf (c_poolOf hX p h) rfl ⟨_, _, rfl⟩ rfl rfl (by decide) (xs8 (Nat.le_of_ble_eq_true rfl)) (by first | exact Nat.le_of_ble_eq_true rfl | omega) (by first | exact Nat.le_of_ble_eq_true rfl | omega) ?_
  rintro _ _ ⟨rfl, rfl⟩
  refine E_astore_n dX8_hand_5 rfl (by decide) rfl ?_
  refine E_aload_n dX8_hand_6 rfl rfl ?_
  refine E_ifnonnull (tgt := 12) dX8_hand_7 (by decide) (fun q7 h7 => ?_) (fun h7 => ?_)
  · refine E_aload_n dX8_hand_12 rfl rfl ?_
    refine E_getR dX8_hand_13 fX8_120 rfl rfl rfl (rP_5 hp) ?_
    refine E_aload_n dX8_hand_16 rfl rfl ?_
    refine E_getI dX8_hand_17 fX8_156 rfl rfl rfl rfl ?_
    refine E_aload_n dX8_hand_20 rfl rfl ?_
    refine E_getI dX8_hand_21 fX8_156 rfl rfl rfl rfl ?_
    refine E_callV (m2 := mX1_startFrom) dX8_hand_24 kX8_159 mzX1_startFrom (c_X1_startFrom P _ _) rfl ⟨_, _, rfl⟩ rfl rfl (by decide) (xs8 (Nat.le_of_ble_eq_true rfl)) (by first | exact Nat.le_of_ble_eq_true rfl | omega) (by first | exact Nat.le_of_ble_eq_true rfl | omega) ?_
    rintro _ _ ⟨rfl, rfl⟩
    refine E_aload_n dX8_hand_27 rfl rfl ?_
    refine E_getI dX8_hand_28 fX8_156 rfl rfl rfl rfl ?_
    refine E_iret dX8_hand_31 rfl rfl ?_
    exact ⟨rfl, rfl⟩
  · cases h7
theorem c_count_n {S : xS} (hX : xShX S) (p x : Int32) (h : xpl S p = none) : CC mX8_count 3 0 0 [xR (some (8, 0)), xI p, xI x] S (aI (-1) S) := by
  refine CC_of mpX8_count rfl (Nat.le_of_ble_eq_true rfl) ?_
  refine E_aload_n dX8_count_0 rfl rfl ?_
  refine E_iload_n dX8_count_1 rfl rfl ?_
  refine E_callV (m2 := mX8_poolOf) dX8_count_2 kX8_58 mzX8_poolOf (c_poolOf hX p h) rfl ⟨_, _, rfl⟩ rfl rfl (by decide) (xs8 (Nat.le_of_ble_eq_true rfl)) (by first | exact Nat.le_of_ble_eq_true rfl | omega) (by first | exact Nat.le_of_ble_eq_true rfl | omega) ?_
  rintro _ _ ⟨rfl, rfl⟩
  refine E_astore_n dX8_count_5 rfl (by decide) rfl ?_
  refine E_aload_n dX8_count_6 rfl rfl ?_
  refine E_ifnonnull (tgt := 12) dX8_count_7 (by decide) (fun q7 h7 => absurd h7 (by intro z; cases z)) (fun h7 => ?_)
  refine E_iconst (v := -1) dX8_count_10 (by decide) ?_
  refine E_iret dX8_count_11 rfl rfl ?_
  exact ⟨rfl, rfl⟩
theorem c_count_o {S : xS} (hX : xShX S) (p x : Int32) {P : Nat} (h : xpl S p = some (3, P)) (hx : x.toInt < 0 ∨ 7 < x.toInt) : CC mX8_count 3 0 0 [xR (some (8, 0)), xI p, xI x] S (aI (-1) S) := by
  refine CC_of mpX8_count rfl (Nat.le_of_ble_eq_true rfl) ?_
  refine E_aload_n dX8_count_0 rfl rfl ?_
  refine E_iload_n dX8_count_1 rfl rfl ?_
  refine E_callV (m2 := mX8_poolOf) dX8_count_2 kX8_58 mzX8_poolOf (c_poolOf hX p h) rfl ⟨_, _, rfl⟩ rfl rfl (by decide) (xs8 (Nat.le_of_ble_eq_true rfl)) (by first | exact Nat.le_of_ble_eq_true rfl | omega) (by first | exact Nat.le_of_ble_eq_true rfl | omega) ?_
  rintro _ _ ⟨rfl, rfl⟩
  refine E_astore_n dX8_count_5 rfl (by decide) rfl ?_
  refine E_aload_n dX8_count_6 rfl rfl ?_
  refine E_ifnonnull (tgt := 12) dX8_count_7 (by decide) (fun q7 h7 => ?_) (fun h7 => ?_)
  · refine E_iload_n dX8_count_12 rfl rfl ?_
    refine E_tabOut (tgt := 122) dX8_count_13 hx (by decide) ?_
    refine E_iconst (v := -1) dX8_count_122 (by decide) ?_
    refine E_iret dX8_count_123 rfl rfl ?_
    exact ⟨rfl, rfl⟩
  · cases h7
theorem c_count_0 {S : xS} (hX : xShX S) (p : Int32) {P n : Nat} (h : xpl S p = some (3, P)) (hp : xShP S P n) : CC mX8_count 3 0 0 [xR (some (8, 0)), xI p, xI 0] S (aI (xln S P) S) := by
  refine CC_of mpX8_count rfl (Nat.le_of_ble_eq_true rfl) ?_
  refine E_aload_n dX8_count_0 rfl rfl ?_
  refine E_iload_n dX8_count_1 rfl rfl ?_
  refine E_callV (m2 := mX8_poolOf) dX8_count_2 kX8_58 mzX8_poolOf (c_poolOf hX p h) rfl ⟨_, _, rfl⟩ rfl rfl (by decide) (xs8 (Nat.le_of_ble_eq_true rfl)) (by first | exact Nat.le_of_ble_eq_true rfl | omega) (by first | exact Nat.le_of_ble_eq_true rfl | omega) ?_
  rintro _ _ ⟨rfl, rfl⟩
  refine E_astore_n dX8_count_5 rfl (by decide) rfl ?_
  refine E_aload_n dX8_count_6 rfl rfl ?_
  refine E_ifnonnull (tgt := 12) dX8_count_7 (by decide) (fun q7 h7 => ?_) (fun h7 => ?_)
  · refine E_iload_n dX8_count_12 rfl rfl ?_
    refine E_tabIn (tgt := 60) (off := 47) dX8_count_13 (by decide) (by decide) rfl (by decide) ?_
    refine E_aload_n dX8_count_60 rfl rfl ?_
    refine E_getR dX8_count_61 fX8_120 rfl rfl rfl (rP_5 hp) ?_
    refine E_callV (m2 := mX1_leastNow) dX8_count_64 kX8_162 mzX1_leastNow (c_X1_leastNow P) rfl ⟨_, _, rfl⟩ rfl rfl (by decide) (xs8 (Nat.le_of_ble_eq_true rfl)) (by first | exact Nat.le_of_ble_eq_true rfl | omega) (by first | exact Nat.le_of_ble_eq_true rfl | omega) ?_
    rintro _ _ ⟨rfl, rfl⟩
    refine E_iret dX8_count_67 rfl rfl ?_
    exact ⟨rfl, rfl⟩
  · cases h7
theorem c_count_1 {S : xS} (hX : xShX S) (p : Int32) {P n : Nat} (h : xpl S p = some (3, P)) (hp : xShP S P n) : CC mX8_count 3 0 0 [xR (some (8, 0)), xI p, xI 1] S (aI (xmn S P) S) := by
  refine CC_of mpX8_count rfl (Nat.le_of_ble_eq_true rfl) ?_
  refine E_aload_n dX8_count_0 rfl rfl ?_
  refine E_iload_n dX8_count_1 rfl rfl ?_
  refine E_callV (m2 := mX8_poolOf) dX8_count_2 kX8_58 mzX8_poolOf (c_poolOf hX p h) rfl ⟨_, _, rfl⟩ rfl rfl (by decide) (xs8 (Nat.le_of_ble_eq_true rfl)) (by first | exact Nat.le_of_ble_eq_true rfl | omega) (by first | exact Nat.le_of_ble_eq_true rfl | omega) ?_
  rintro _ _ ⟨rfl, rfl⟩
  refine E_astore_n dX8_count_5 rfl (by decide) rfl ?_
  refine E_aload_n dX8_count_6 rfl rfl ?_
  refine E_ifnonnull (tgt := 12) dX8_count_7 (by decide) (fun q7 h7 => ?_) (fun h7 => ?_)
  · refine E_iload_n dX8_count_12 rfl rfl ?_
    refine E_tabIn (tgt := 68) (off := 55) dX8_count_13 (by decide) (by decide) rfl (by decide) ?_
    refine E_aload_n dX8_count_68 rfl rfl ?_
    refine E_getR dX8_count_69 fX8_120 rfl rfl rfl (rP_5 hp) ?_
    refine E_callV (m2 := mX1_mostNow) dX8_count_72 kX8_166 mzX1_mostNow (c_X1_mostNow P) rfl ⟨_, _, rfl⟩ rfl rfl (by decide) (xs8 (Nat.le_of_ble_eq_true rfl)) (by first | exact Nat.le_of_ble_eq_true rfl | omega) (by first | exact Nat.le_of_ble_eq_true rfl | omega) ?_
    rintro _ _ ⟨rfl, rfl⟩
    refine E_iret dX8_count_75 rfl rfl ?_
    exact ⟨rfl, rfl⟩
  · cases h7
theorem c_count_2 {S : xS} (hX : xShX S) (p : Int32) {P n : Nat} (h : xpl S p = some (3, P)) (hp : xShP S P n) : CC mX8_count 3 0 0 [xR (some (8, 0)), xI p, xI 2] S (aI ((gI S 3 P 6)) S) := by
  refine CC_of mpX8_count rfl (Nat.le_of_ble_eq_true rfl) ?_
  refine E_aload_n dX8_count_0 rfl rfl ?_
  refine E_iload_n dX8_count_1 rfl rfl ?_
  refine E_callV (m2 := mX8_poolOf) dX8_count_2 kX8_58 mzX8_poolOf (c_poolOf hX p h) rfl ⟨_, _, rfl⟩ rfl rfl (by decide) (xs8 (Nat.le_of_ble_eq_true rfl)) (by first | exact Nat.le_of_ble_eq_true rfl | omega) (by first | exact Nat.le_of_ble_eq_true rfl | omega) ?_
  rintro _ _ ⟨rfl, rfl⟩
  refine E_astore_n dX8_count_5 rfl (by decide) rfl ?_
  refine E_aload_n dX8_count_6 rfl rfl ?_
  refine E_ifnonnull (tgt := 12) dX8_count_7 (by decide) (fun q7 h7 => ?_) (fun h7 => ?_)
  · refine E_iload_n dX8_count_12 rfl rfl ?_
    refine E_tabIn (tgt := 76) (off := 63) dX8_count_13 (by decide) (by decide) rfl (by decide) ?_
    refine E_aload_n dX8_count_76 rfl rfl ?_
    refine E_getI dX8_count_77 fX8_156 rfl rfl rfl rfl ?_
    refine E_iret dX8_count_80 rfl rfl ?_
    exact ⟨rfl, rfl⟩
  · cases h7
theorem c_count_3 {S : xS} (hX : xShX S) (p : Int32) {P n : Nat} (h : xpl S p = some (3, P)) (hp : xShP S P n) : CC mX8_count 3 0 0 [xR (some (8, 0)), xI p, xI 3] S (aI ((gI S 3 P 7)) S) := by
  refine CC_of mpX8_count rfl (Nat.le_of_ble_eq_true rfl) ?_
  refine E_aload_n dX8_count_0 rfl rfl ?_
  refine E_iload_n dX8_count_1 rfl rfl ?_
  refine E_callV (m2 := mX8_poolOf) dX8_count_2 kX8_58 mzX8_poolOf (c_poolOf hX p h) rfl ⟨_, _, rfl⟩ rfl rfl (by decide) (xs8 (Nat.le_of_ble_eq_true rfl)) (by first | exact Nat.le_of_ble_eq_true rfl | omega) (by first | exact Nat.le_of_ble_eq_true rfl | omega) ?_
  rintro _ _ ⟨rfl, rfl⟩
  refine E_astore_n dX8_count_5 rfl (by decide) rfl ?_
  refine E_aload_n dX8_count_6 rfl rfl ?_
  refine E_ifnonnull (tgt := 12) dX8_count_7 (by decide) (fun q7 h7 => ?_) (fun h7 => ?_)
  · refine E_iload_n dX8_count_12 rfl rfl ?_
    refine E_tabIn (tgt := 81) (off := 68) dX8_count_13 (by decide) (by decide) rfl (by decide) ?_
    refine E_aload_n dX8_count_81 rfl rfl ?_
    refine E_getI dX8_count_82 fX8_169 rfl rfl rfl rfl ?_
    refine E_iret dX8_count_85 rfl rfl ?_
    exact ⟨rfl, rfl⟩
  · cases h7
theorem c_count_4 {S : xS} (hX : xShX S) (p : Int32) {P n : Nat} (h : xpl S p = some (3, P)) (hp : xShP S P n) : CC mX8_count 3 0 0 [xR (some (8, 0)), xI p, xI 4] S (aI ((gI S 3 P 1)) S) := by
  refine CC_of mpX8_count rfl (Nat.le_of_ble_eq_true rfl) ?_
  refine E_aload_n dX8_count_0 rfl rfl ?_
  refine E_iload_n dX8_count_1 rfl rfl ?_
  refine E_callV (m2 := mX8_poolOf) dX8_count_2 kX8_58 mzX8_poolOf (c_poolOf hX p h) rfl ⟨_, _, rfl⟩ rfl rfl (by decide) (xs8 (Nat.le_of_ble_eq_true rfl)) (by first | exact Nat.le_of_ble_eq_true rfl | omega) (by first | exact Nat.le_of_ble_eq_true rfl | omega) ?_
  rintro _ _ ⟨rfl, rfl⟩
  refine E_astore_n dX8_count_5 rfl (by decide) rfl ?_
  refine E_aload_n dX8_count_6 rfl rfl ?_
  refine E_ifnonnull (tgt := 12) dX8_count_7 (by decide) (fun q7 h7 => ?_) (fun h7 => ?_)
  · refine E_iload_n dX8_count_12 rfl rfl ?_
    refine E_tabIn (tgt := 86) (off := 73) dX8_count_13 (by decide) (by decide) rfl (by decide) ?_
    refine E_aload_n dX8_count_86 rfl rfl ?_
    refine E_getI dX8_count_87 fX8_172 rfl rfl rfl rfl ?_
    refine E_iret dX8_count_90 rfl rfl ?_
    exact ⟨rfl, rfl⟩
  · cases h7
theorem c_count_5 {S : xS} (hX : xShX S) (p : Int32) {P n : Nat} (h : xpl S p = some (3, P)) (hp : xShP S P n) {C : Nat} {Pc : Nat → Nat} (hq : xcok S C Pc) : CC mX8_count 3 0 0 [xR (some (8, 0)), xI p, xI 5] S (aI ((gI S 3 P 2) - xbc (xtkn S C Pc P (gI S 8 0 5) 20)) S) := by
  refine CC_of mpX8_count rfl (Nat.le_of_ble_eq_true rfl) ?_
  refine E_aload_n dX8_count_0 rfl rfl ?_
  refine E_iload_n dX8_count_1 rfl rfl ?_
  refine E_callV (m2 := mX8_poolOf) dX8_count_2 kX8_58 mzX8_poolOf (c_poolOf hX p h) rfl ⟨_, _, rfl⟩ rfl rfl (by decide) (xs8 (Nat.le_of_ble_eq_true rfl)) (by first | exact Nat.le_of_ble_eq_true rfl | omega) (by first | exact Nat.le_of_ble_eq_true rfl | omega) ?_
  rintro _ _ ⟨rfl, rfl⟩
  refine E_astore_n dX8_count_5 rfl (by decide) rfl ?_
  refine E_aload_n dX8_count_6 rfl rfl ?_
  refine E_ifnonnull (tgt := 12) dX8_count_7 (by decide) (fun q7 h7 => ?_) (fun h7 => ?_)
  · refine E_iload_n dX8_count_12 rfl rfl ?_
    refine E_tabIn (tgt := 91) (off := 78) dX8_count_13 (by decide) (by decide) rfl (by decide) ?_
    refine E_aload_n dX8_count_91 rfl rfl ?_
    refine E_aload_n dX8_count_92 rfl rfl ?_
    refine E_callV (m2 := mX8_freeLanes) dX8_count_93 kX8_175 mzX8_freeLanes (c_freeLanes hX hq P) rfl ⟨_, _, rfl⟩ rfl rfl (by decide) (xs8 (Nat.le_of_ble_eq_true rfl)) (by first | exact Nat.le_of_ble_eq_true rfl | omega) (by first | exact Nat.le_of_ble_eq_true rfl | omega) ?_
    rintro _ _ ⟨rfl, rfl⟩
    refine E_iret dX8_count_96 rfl rfl ?_
    exact ⟨rfl, rfl⟩
  · cases h7
theorem c_count_6 {S : xS} (hX : xShX S) (p : Int32) {P n : Nat} (h : xpl S p = some (3, P)) (hp : xShP S P n) : CC mX8_count 3 0 0 [xR (some (8, 0)), xI p, xI 6] S (aI (xsm (fun k => xfil S (3 * P + k) (gI S 8 0 5)) n) S) := by
  refine CC_of mpX8_count rfl (Nat.le_of_ble_eq_true rfl) ?_
  refine E_aload_n dX8_count_0 rfl rfl ?_
  refine E_iload_n dX8_count_1 rfl rfl ?_
  refine E_callV (m2 := mX8_poolOf) dX8_count_2 kX8_58 mzX8_poolOf (c_poolOf hX p h) rfl ⟨_, _, rfl⟩ rfl rfl (by decide) (xs8 (Nat.le_of_ble_eq_true rfl)) (by first | exact Nat.le_of_ble_eq_true rfl | omega) (by first | exact Nat.le_of_ble_eq_true rfl | omega) ?_
  rintro _ _ ⟨rfl, rfl⟩
  refine E_astore_n dX8_count_5 rfl (by decide) rfl ?_
  refine E_aload_n dX8_count_6 rfl rfl ?_
  refine E_ifnonnull (tgt := 12) dX8_count_7 (by decide) (fun q7 h7 => ?_) (fun h7 => ?_)
  · refine E_iload_n dX8_count_12 rfl rfl ?_
    refine E_tabIn (tgt := 97) (off := 84) dX8_count_13 (by decide) (by decide) rfl (by decide) ?_
    refine E_aload_n dX8_count_97 rfl rfl ?_
    refine E_aload_n dX8_count_98 rfl rfl ?_
    refine E_getI dX8_count_99 fX8_45 rfl rfl rfl rfl ?_
    refine E_callV (m2 := mX3_filledPosts) dX8_count_102 kX8_179 mzX3_filledPosts (c_X3_filledPosts P n hp _) rfl ⟨_, _, rfl⟩ rfl rfl (by decide) (xs8 (Nat.le_of_ble_eq_true rfl)) (by first | exact Nat.le_of_ble_eq_true rfl | omega) (by first | exact Nat.le_of_ble_eq_true rfl | omega) ?_
    rintro _ _ ⟨rfl, rfl⟩
    refine E_iret dX8_count_105 rfl rfl ?_
    exact ⟨rfl, rfl⟩
  · cases h7
theorem c_count_7 {S : xS} (hX : xShX S) (p : Int32) {P n : Nat} (h : xpl S p = some (3, P)) (hp : xShP S P n) : CC mX8_count 3 0 0 [xR (some (8, 0)), xI p, xI 7] S (aI (if (gI S 1 P 0) = 0 then 0 else 1) S) := by
  refine CC_of mpX8_count rfl (Nat.le_of_ble_eq_true rfl) ?_
  refine E_aload_n dX8_count_0 rfl rfl ?_
  refine E_iload_n dX8_count_1 rfl rfl ?_
  refine E_callV (m2 := mX8_poolOf) dX8_count_2 kX8_58 mzX8_poolOf (c_poolOf hX p h) rfl ⟨_, _, rfl⟩ rfl rfl (by decide) (xs8 (Nat.le_of_ble_eq_true rfl)) (by first | exact Nat.le_of_ble_eq_true rfl | omega) (by first | exact Nat.le_of_ble_eq_true rfl | omega) ?_
  rintro _ _ ⟨rfl, rfl⟩
  refine E_astore_n dX8_count_5 rfl (by decide) rfl ?_
  refine E_aload_n dX8_count_6 rfl rfl ?_
  refine E_ifnonnull (tgt := 12) dX8_count_7 (by decide) (fun q7 h7 => ?_) (fun h7 => ?_)
  · refine E_iload_n dX8_count_12 rfl rfl ?_
    refine E_tabIn (tgt := 106) (off := 93) dX8_count_13 (by decide) (by decide) rfl (by decide) ?_
    refine E_aload_n dX8_count_106 rfl rfl ?_
    refine E_getR dX8_count_107 fX8_120 rfl rfl rfl (rP_5 hp) ?_
    refine E_getI dX8_count_110 fX8_149 rfl rfl rfl rfl ?_
    refine E_if_eq (tgt := 120) dX8_count_113 (by decide) (fun h113 => ?_) (fun h113 => ?_)
    · refine E_iconst (v := 0) dX8_count_120 (by decide) ?_
      refine E_iret dX8_count_121 rfl rfl ?_
      refine ⟨congrArg (fun z => some (xI z)) ?_, rfl⟩; split <;> first | rfl | contradiction
    · refine E_iconst (v := 1) dX8_count_116 (by decide) ?_
      refine E_goto (tgt := 121) dX8_count_117 (by decide) ?_
      refine E_iret dX8_count_121 rfl rfl ?_
      refine ⟨congrArg (fun z => some (xI z)) ?_, rfl⟩; split <;> first | rfl | contradiction
  · cases h7
theorem c_bounds_n {S : xS} (hX : xShX S) (p i a b : Int32) (hn : CC mX8_thingOf 3 0 0 [xR (some (8, 0)), xI p, xI i] S (aR none S)) : CC mX8_bounds 4 0 0 [xR (some (8, 0)), xI p, xI i, xI a, xI b] S (aI 0 S) := by
  refine CC_of mpX8_bounds rfl (Nat.le_of_ble_eq_true rfl) ?_
  refine E_aload_n dX8_bounds_0 rfl rfl ?_
  refine E_iload_n dX8_bounds_1 rfl rfl ?_
  refine E_iload_n dX8_bounds_2 rfl rfl ?_
  refine E_callV (m2 := mX8_thingOf) dX8_bounds_3 kX8_182 mzX8_thingOf hn rfl ⟨_, _, rfl⟩ rfl rfl (by decide) (xs8 (Nat.le_of_ble_eq_true rfl)) (by first | exact Nat.le_of_ble_eq_true rfl | omega) (by first | exact Nat.le_of_ble_eq_true rfl | omega) ?_
  rintro _ _ ⟨rfl, rfl⟩
  refine E_astore dX8_bounds_6 (by decide) rfl ?_
  refine E_aload dX8_bounds_8 rfl ?_
  refine E_ifnull (tgt := 32) dX8_bounds_10 (by decide) (fun h10 => ?_) (fun q10 h10 => absurd h10 (by intro z; cases z))
  refine E_iconst (v := 0) dX8_bounds_32 (by decide) ?_
  refine E_iret dX8_bounds_33 rfl rfl ?_
  exact ⟨rfl, rfl⟩
theorem c_bounds_s {S : xS} (p i a b : Int32) {j : Nat} (hn : CC mX8_thingOf 3 0 0 [xR (some (8, 0)), xI p, xI i] S (aR (some (6, j)) S)) : CC mX8_bounds 4 0 0 [xR (some (8, 0)), xI p, xI i, xI a, xI b] S (aI (if -100000 ≤ a ∧ b ≤ 100000 ∧ a ≤ b then 1 else 0) (if -100000 ≤ a ∧ b ≤ 100000 ∧ a ≤ b then (sI (sI S 6 j 0 a) 6 j 1 b) else S)) := by
  refine CC_of mpX8_bounds rfl (Nat.le_of_ble_eq_true rfl) ?_
  refine E_aload_n dX8_bounds_0 rfl rfl ?_
  refine E_iload_n dX8_bounds_1 rfl rfl ?_
  refine E_iload_n dX8_bounds_2 rfl rfl ?_
  refine E_callV (m2 := mX8_thingOf) dX8_bounds_3 kX8_182 mzX8_thingOf hn rfl ⟨_, _, rfl⟩ rfl rfl (by decide) (xs8 (Nat.le_of_ble_eq_true rfl)) (by first | exact Nat.le_of_ble_eq_true rfl | omega) (by first | exact Nat.le_of_ble_eq_true rfl | omega) ?_
  rintro _ _ ⟨rfl, rfl⟩
  refine E_astore dX8_bounds_6 (by decide) rfl ?_
  refine E_aload dX8_bounds_8 rfl ?_
  refine E_ifnull (tgt := 32) dX8_bounds_10 (by decide) (fun h10 => ?_) (fun q10 h10 => ?_)
  · cases h10
  · refine E_iload_n dX8_bounds_13 rfl rfl ?_
    refine E_ldc dX8_bounds_14 oX8_186 ?_
    refine E_icmp_lt (tgt := 32) dX8_bounds_16 (by decide) (fun h16 => ?_) (fun h16 => ?_)
    · rw [if_neg (fun z => Int32.not_le.mpr h16 z.1), if_neg (fun z => Int32.not_le.mpr h16 z.1)]
      refine E_iconst (v := 0) dX8_bounds_32 (by decide) ?_
      refine E_iret dX8_bounds_33 rfl rfl ?_
      exact ⟨rfl, rfl⟩
    · refine E_iload dX8_bounds_19 rfl ?_
      refine E_ldc dX8_bounds_21 oX8_187 ?_
      refine E_icmp_gt (tgt := 32) dX8_bounds_23 (by decide) (fun h23 => ?_) (fun h23 => ?_)
      · rw [if_neg (fun z => Int32.not_le.mpr h23 z.2.1), if_neg (fun z => Int32.not_le.mpr h23 z.2.1)]
        refine E_iconst (v := 0) dX8_bounds_32 (by decide) ?_
        refine E_iret dX8_bounds_33 rfl rfl ?_
        exact ⟨rfl, rfl⟩
      · refine E_iload_n dX8_bounds_26 rfl rfl ?_
        refine E_iload dX8_bounds_27 rfl ?_
        refine E_icmp_le (tgt := 34) dX8_bounds_29 (by decide) (fun h29 => ?_) (fun h29 => ?_)
        · rw [if_pos ⟨Int32.not_lt.mp h16, Int32.not_lt.mp h23, h29⟩, if_pos ⟨Int32.not_lt.mp h16, Int32.not_lt.mp h23, h29⟩]
          refine E_aload dX8_bounds_34 rfl ?_
          refine E_iload_n dX8_bounds_36 rfl rfl ?_
          refine E_putI dX8_bounds_37 fX8_188 rfl rfl rfl rfl rfl ?_
          refine E_aload dX8_bounds_40 rfl ?_
          refine E_iload dX8_bounds_42 rfl ?_
          refine E_putI dX8_bounds_44 fX8_193 rfl rfl rfl rfl rfl ?_
          refine E_iconst (v := 1) dX8_bounds_47 (by decide) ?_
          refine E_iret dX8_bounds_48 rfl rfl ?_
          exact ⟨rfl, rfl⟩
        · rw [if_neg (fun z => h29 z.2.2), if_neg (fun z => h29 z.2.2)]
          refine E_iconst (v := 0) dX8_bounds_32 (by decide) ?_
          refine E_iret dX8_bounds_33 rfl rfl ?_
          exact ⟨rfl, rfl⟩
theorem c_measure_n {S : xS} (p i : Int32) (v : UInt32) (hn : CC mX8_thingOf 3 0 0 [xR (some (8, 0)), xI p, xI i] S (aR none S)) : CC mX8_measure 4 0 0 [xR (some (8, 0)), xI p, xI i, xF v] S (aI (-200001) S) := by
  refine CC_of mpX8_measure rfl (Nat.le_of_ble_eq_true rfl) ?_
  refine E_aload_n dX8_measure_0 rfl rfl ?_
  refine E_iload_n dX8_measure_1 rfl rfl ?_
  refine E_iload_n dX8_measure_2 rfl rfl ?_
  refine E_callV (m2 := mX8_thingOf) dX8_measure_3 kX8_182 mzX8_thingOf hn rfl ⟨_, _, rfl⟩ rfl rfl (by decide) (xs8 (Nat.le_of_ble_eq_true rfl)) (by first | exact Nat.le_of_ble_eq_true rfl | omega) (by first | exact Nat.le_of_ble_eq_true rfl | omega) ?_
  rintro _ _ ⟨rfl, rfl⟩
  refine E_astore dX8_measure_6 (by decide) rfl ?_
  refine E_aload dX8_measure_8 rfl ?_
  refine E_ifnonnull (tgt := 16) dX8_measure_10 (by decide) (fun q10 h10 => absurd h10 (by intro z; cases z)) (fun h10 => ?_)
  refine E_ldc dX8_measure_13 oX8_196 ?_
  refine E_iret dX8_measure_15 rfl rfl ?_
  exact ⟨rfl, rfl⟩
theorem c_measure_o {S : xS} (p i : Int32) (v : UInt32) {j : Nat} (hn : CC mX8_thingOf 3 0 0 [xR (some (8, 0)), xI p, xI i] S (aR (some (6, j)) S)) (hv : ¬ (Op.cmpValue (FP.fcmp v v) .l = 0 ∧ Op.cmpValue (FP.fcmp v 1148846080) .l ≤ 0 ∧ ¬ Op.cmpValue (FP.fcmp v 3296329728) .g < 0)) : CC mX8_measure 4 0 0 [xR (some (8, 0)), xI p, xI i, xF v] S (aI (-200000) S) := by
  refine CC_of mpX8_measure rfl (Nat.le_of_ble_eq_true rfl) ?_
  refine E_aload_n dX8_measure_0 rfl rfl ?_
  refine E_iload_n dX8_measure_1 rfl rfl ?_
  refine E_iload_n dX8_measure_2 rfl rfl ?_
  refine E_callV (m2 := mX8_thingOf) dX8_measure_3 kX8_182 mzX8_thingOf hn rfl ⟨_, _, rfl⟩ rfl rfl (by decide) (xs8 (Nat.le_of_ble_eq_true rfl)) (by first | exact Nat.le_of_ble_eq_true rfl | omega) (by first | exact Nat.le_of_ble_eq_true rfl | omega) ?_
  rintro _ _ ⟨rfl, rfl⟩
  refine E_astore dX8_measure_6 (by decide) rfl ?_
  refine E_aload dX8_measure_8 rfl ?_
  refine E_ifnonnull (tgt := 16) dX8_measure_10 (by decide) (fun q10 h10 => ?_) (fun h10 => ?_)
  · refine E_fload_n dX8_measure_16 rfl rfl ?_
    refine E_fload_n dX8_measure_17 rfl rfl ?_
    refine E_fcmp dX8_measure_18 ?_
    refine E_if_ne (tgt := 36) dX8_measure_19 (by decide) (fun h19 => ?_) (fun h19 => ?_)
    · refine E_ldc dX8_measure_36 oX8_199 ?_
      refine E_iret dX8_measure_38 rfl rfl ?_
      exact ⟨rfl, rfl⟩
    · refine E_fload_n dX8_measure_22 rfl rfl ?_
      refine E_ldcf dX8_measure_23 oX8_197 ?_
      refine E_fcmp dX8_measure_25 ?_
      refine E_if_gt (tgt := 36) dX8_measure_26 (by decide) (fun h26 => ?_) (fun h26 => ?_)
      · refine E_ldc dX8_measure_36 oX8_199 ?_
        refine E_iret dX8_measure_38 rfl rfl ?_
        exact ⟨rfl, rfl⟩
      · refine E_fload_n dX8_measure_29 rfl rfl ?_
        refine E_ldcf dX8_measure_30 oX8_198 ?_
        refine E_fcmp dX8_measure_32 ?_
        refine E_if_ge (tgt := 39) dX8_measure_33 (by decide) (fun h33 => ?_) (fun h33 => ?_)
        · exact absurd ⟨h19, Int32.not_lt.mp h26, Int32.not_lt.mpr h33⟩ hv
        · refine E_ldc dX8_measure_36 oX8_199 ?_
          refine E_iret dX8_measure_38 rfl rfl ?_
          exact ⟨rfl, rfl⟩
  · cases h10
theorem c_measure_s {S : xS} (p i : Int32) (v : UInt32) {j : Nat} (hn : CC mX8_thingOf 3 0 0 [xR (some (8, 0)), xI p, xI i] S (aR (some (6, j)) S)) (hv : Op.cmpValue (FP.fcmp v v) .l = 0 ∧ Op.cmpValue (FP.fcmp v 1148846080) .l ≤ 0 ∧ ¬ Op.cmpValue (FP.fcmp v 3296329728) .g < 0) (hnan : vf_n32 (FP.fmul v 1120403456)) : CC mX8_measure 4 0 0 [xR (some (8, 0)), xI p, xI i, xF v] S (aI (FP.f2i (FP.fmul v 1120403456)) (sI (sI (sI S 6 j 2 (FP.f2i (FP.fmul v 1120403456))) 6 j 3 (gI S 8 0 5)) 6 j 4 1)) := by
  refine CC_of mpX8_measure rfl (Nat.le_of_ble_eq_true rfl) ?_
  refine E_aload_n dX8_measure_0 rfl rfl ?_
  refine E_iload_n dX8_measure_1 rfl rfl ?_
  refine E_iload_n dX8_measure_2 rfl rfl ?_
  refine E_callV (m2 := mX8_thingOf) dX8_measure_3 kX8_182 mzX8_thingOf hn rfl ⟨_, _, rfl⟩ rfl rfl (by decide) (xs8 (Nat.le_of_ble_eq_true rfl)) (by first | exact Nat.le_of_ble_eq_true rfl | omega) (by first | exact Nat.le_of_ble_eq_true rfl | omega) ?_
  rintro _ _ ⟨rfl, rfl⟩
  refine E_astore dX8_measure_6 (by decide) rfl ?_
  refine E_aload dX8_measure_8 rfl ?_
  refine E_ifnonnull (tgt := 16) dX8_measure_10 (by decide) (fun q10 h10 => ?_) (fun h10 => ?_)
  · refine E_fload_n dX8_measure_16 rfl rfl ?_
    refine E_fload_n dX8_measure_17 rfl rfl ?_
    refine E_fcmp dX8_measure_18 ?_
    refine E_if_ne (tgt := 36) dX8_measure_19 (by decide) (fun h19 => absurd h19 (fun z => z hv.1)) (fun h19 => ?_)
    refine E_fload_n dX8_measure_22 rfl rfl ?_
    refine E_ldcf dX8_measure_23 oX8_197 ?_
    refine E_fcmp dX8_measure_25 ?_
    refine E_if_gt (tgt := 36) dX8_measure_26 (by decide) (fun h26 => absurd h26 (Int32.not_lt.mpr hv.2.1)) (fun h26 => ?_)
    refine E_fload_n dX8_measure_29 rfl rfl ?_
    refine E_ldcf dX8_measure_30 oX8_198 ?_
    refine E_fcmp dX8_measure_32 ?_
    refine E_if_ge (tgt := 39) dX8_measure_33 (by decide) (fun h33 => ?_) (fun h33 => absurd h33 (fun z => z (Int32.not_lt.mp hv.2.2)))
    refine E_fload_n dX8_measure_39 rfl rfl ?_
    refine E_ldcf dX8_measure_40 oX8_200 ?_
    refine E_fmul dX8_measure_42 hnan ?_
    refine E_f2i dX8_measure_43 ?_
    refine E_istore dX8_measure_44 (by decide) rfl ?_
    refine E_aload dX8_measure_46 rfl ?_
    refine E_iload dX8_measure_48 rfl ?_
    refine E_aload_n dX8_measure_50 rfl rfl ?_
    refine E_getI dX8_measure_51 fX8_45 rfl rfl rfl rfl ?_
    refine E_callV (m2 := mX6_takeMeasure) dX8_measure_54 kX8_201 mzX6_takeMeasure (c_X6_takeMeasure j _ _) rfl ⟨_, _, rfl⟩ rfl rfl (by decide) (xs8 (Nat.le_of_ble_eq_true rfl)) (by first | exact Nat.le_of_ble_eq_true rfl | omega) (by first | exact Nat.le_of_ble_eq_true rfl | omega) ?_
    rintro _ _ ⟨rfl, rfl⟩
    refine E_iload dX8_measure_57 rfl ?_
    refine E_iret dX8_measure_59 rfl rfl ?_
    exact ⟨rfl, rfl⟩
  · cases h10
theorem c_put_n {S : xS} (hX : xShX S) (p x : Int32) (h : xpl S p = none) : CC mX8_put 3 0 0 [xR (some (8, 0)), xI p, xI x] S (aI 0 S) := by
  refine CC_of mpX8_put rfl (Nat.le_of_ble_eq_true rfl) ?_
  refine E_aload_n dX8_put_0 rfl rfl ?_
  refine E_iload_n dX8_put_1 rfl rfl ?_
  refine E_callV (m2 := mX8_poolOf) dX8_put_2 kX8_58 mzX8_poolOf (c_poolOf hX p h) rfl ⟨_, _, rfl⟩ rfl rfl (by decide) (xs8 (Nat.le_of_ble_eq_true rfl)) (by first | exact Nat.le_of_ble_eq_true rfl | omega) (by first | exact Nat.le_of_ble_eq_true rfl | omega) ?_
  rintro _ _ ⟨rfl, rfl⟩
  refine E_astore_n dX8_put_5 rfl (by decide) rfl ?_
  refine E_aload_n dX8_put_6 rfl rfl ?_
  refine E_ifnull (tgt := 21) dX8_put_7 (by decide) (fun h7 => ?_) (fun q7 h7 => absurd h7 (by intro z; cases z))
  refine E_iconst (v := 0) dX8_put_21 (by decide) ?_
  refine E_iret dX8_put_22 rfl rfl ?_
  exact ⟨rfl, rfl⟩
theorem c_put_s {S : xS} (hX : xShX S) (p x : Int32) {P : Nat} (h : xpl S p = some (3, P)) : CC mX8_put 3 0 0 [xR (some (8, 0)), xI p, xI x] S (aI (if 1 ≤ x ∧ x ≤ 240 then 1 else 0) (if 1 ≤ x ∧ x ≤ 240 then (sI S 3 P 8 (if (gI S 3 P 8) < (gI S 8 0 5) + x then (gI S 8 0 5) + x else (gI S 3 P 8))) else S)) := by
  refine CC_of mpX8_put rfl (Nat.le_of_ble_eq_true rfl) ?_
  refine E_aload_n dX8_put_0 rfl rfl ?_
  refine E_iload_n dX8_put_1 rfl rfl ?_
  refine E_callV (m2 := mX8_poolOf) dX8_put_2 kX8_58 mzX8_poolOf (c_poolOf hX p h) rfl ⟨_, _, rfl⟩ rfl rfl (by decide) (xs8 (Nat.le_of_ble_eq_true rfl)) (by first | exact Nat.le_of_ble_eq_true rfl | omega) (by first | exact Nat.le_of_ble_eq_true rfl | omega) ?_
  rintro _ _ ⟨rfl, rfl⟩
  refine E_astore_n dX8_put_5 rfl (by decide) rfl ?_
  refine E_aload_n dX8_put_6 rfl rfl ?_
  refine E_ifnull (tgt := 21) dX8_put_7 (by decide) (fun h7 => ?_) (fun q7 h7 => ?_)
  · cases h7
  · refine E_iload_n dX8_put_10 rfl rfl ?_
    refine E_iconst (v := 1) dX8_put_11 (by decide) ?_
    refine E_sipush (v := 240) dX8_put_12 (by decide) ?_
    refine E_callS (m2 := mX8_isWithin) dX8_put_15 kX8_48 mzX8_isWithin (c_X8_isWithin _ _ _) rfl rfl (by decide) (xs8 (Nat.le_of_ble_eq_true rfl)) (by first | exact Nat.le_of_ble_eq_true rfl | omega) (by first | exact Nat.le_of_ble_eq_true rfl | omega) ?_
    rintro _ _ ⟨rfl, rfl⟩
    refine E_if_ne (tgt := 23) dX8_put_18 (by decide) (fun h18 => ?_) (fun h18 => ?_)
    · rw [if_pos (ite1 h18), if_pos (ite1 h18)]
      refine E_aload_n dX8_put_23 rfl rfl ?_
      refine E_aload_n dX8_put_24 rfl rfl ?_
      refine E_getI dX8_put_25 fX8_204 rfl rfl rfl rfl ?_
      refine E_aload_n dX8_put_28 rfl rfl ?_
      refine E_getI dX8_put_29 fX8_45 rfl rfl rfl rfl ?_
      refine E_iload_n dX8_put_32 rfl rfl ?_
      refine E_iadd dX8_put_33 ?_
      refine E_max dX8_put_34 kX8_207 (by decide) (xs8 (Nat.le_of_ble_eq_true rfl)) ?_
      refine E_putI dX8_put_37 fX8_204 rfl rfl rfl rfl rfl ?_
      refine E_iconst (v := 1) dX8_put_40 (by decide) ?_
      refine E_iret dX8_put_41 rfl rfl ?_
      exact ⟨rfl, rfl⟩
    · rw [if_neg (ite0 h18), if_neg (ite0 h18)]
      refine E_iconst (v := 0) dX8_put_21 (by decide) ?_
      refine E_iret dX8_put_22 rfl rfl ?_
      exact ⟨rfl, rfl⟩
theorem c_shut_n {S : xS} (hX : xShX S) (p : Int32) (h : xpl S p = none) : CC mX8_shut 4 0 0 [xR (some (8, 0)), xI p] S (aI (-1) S) := by
  refine CC_of mpX8_shut rfl (Nat.le_of_ble_eq_true rfl) ?_
  refine E_aload_n dX8_shut_0 rfl rfl ?_
  refine E_iload_n dX8_shut_1 rfl rfl ?_
  refine E_callV (m2 := mX8_poolOf) dX8_shut_2 kX8_58 mzX8_poolOf (c_poolOf hX p h) rfl ⟨_, _, rfl⟩ rfl rfl (by decide) (xs8 (Nat.le_of_ble_eq_true rfl)) (by first | exact Nat.le_of_ble_eq_true rfl | omega) (by first | exact Nat.le_of_ble_eq_true rfl | omega) ?_
  rintro _ _ ⟨rfl, rfl⟩
  refine E_astore_n dX8_shut_5 rfl (by decide) rfl ?_
  refine E_aload_n dX8_shut_6 rfl rfl ?_
  refine E_ifnonnull (tgt := 14) dX8_shut_7 (by decide) (fun q7 h7 => absurd h7 (by intro z; cases z)) (fun h7 => ?_)
  refine E_iconst (v := -1) dX8_shut_10 (by decide) ?_
  refine E_goto (tgt := 22) dX8_shut_11 (by decide) ?_
  refine E_iret dX8_shut_22 rfl rfl ?_
  exact ⟨rfl, rfl⟩
theorem c_shut_s {S : xS} (hX : xShX S) (p : Int32) {P n : Nat} (h : xpl S p = some (3, P)) (hp : xShP S P n) : CC mX8_shut 4 0 0 [xR (some (8, 0)), xI p] S (aI (xrs S P n (gI S 8 0 5)) S) := by
  refine CC_of mpX8_shut rfl (Nat.le_of_ble_eq_true rfl) ?_
  refine E_aload_n dX8_shut_0 rfl rfl ?_
  refine E_iload_n dX8_shut_1 rfl rfl ?_
  refine E_callV (m2 := mX8_poolOf) dX8_shut_2 kX8_58 mzX8_poolOf (c_poolOf hX p h) rfl ⟨_, _, rfl⟩ rfl rfl (by decide) (xs8 (Nat.le_of_ble_eq_true rfl)) (by first | exact Nat.le_of_ble_eq_true rfl | omega) (by first | exact Nat.le_of_ble_eq_true rfl | omega) ?_
  rintro _ _ ⟨rfl, rfl⟩
  refine E_astore_n dX8_shut_5 rfl (by decide) rfl ?_
  refine E_aload_n dX8_shut_6 rfl rfl ?_
  refine E_ifnonnull (tgt := 14) dX8_shut_7 (by decide) (fun q7 h7 => ?_) (fun h7 => ?_)
  · refine E_aload_n dX8_shut_14 rfl rfl ?_
    refine E_aload_n dX8_shut_15 rfl rfl ?_
    refine E_getI dX8_shut_16 fX8_45 rfl rfl rfl rfl ?_
    refine E_callV (m2 := mX3_reasonsIn) dX8_shut_19 kX8_213 mzX3_reasonsIn (c_X3_reasonsIn P n hp _) rfl ⟨_, _, rfl⟩ rfl rfl (by decide) (xs8 (Nat.le_of_ble_eq_true rfl)) (by first | exact Nat.le_of_ble_eq_true rfl | omega) (by first | exact Nat.le_of_ble_eq_true rfl | omega) ?_
    rintro _ _ ⟨rfl, rfl⟩
    refine E_iret dX8_shut_22 rfl rfl ?_
    exact ⟨rfl, rfl⟩
  · cases h7
theorem c_minutes_n {S : xS} (hX : xShX S) (p : Int32) (h : xpl S p = none) : CC mX8_minutes 3 0 0 [xR (some (8, 0)), xI p] S (aI (-1) S) := by
  refine CC_of mpX8_minutes rfl (Nat.le_of_ble_eq_true rfl) ?_
  refine E_aload_n dX8_minutes_0 rfl rfl ?_
  refine E_iload_n dX8_minutes_1 rfl rfl ?_
  refine E_callV (m2 := mX8_poolOf) dX8_minutes_2 kX8_58 mzX8_poolOf (c_poolOf hX p h) rfl ⟨_, _, rfl⟩ rfl rfl (by decide) (xs8 (Nat.le_of_ble_eq_true rfl)) (by first | exact Nat.le_of_ble_eq_true rfl | omega) (by first | exact Nat.le_of_ble_eq_true rfl | omega) ?_
  rintro _ _ ⟨rfl, rfl⟩
  refine E_astore_n dX8_minutes_5 rfl (by decide) rfl ?_
  refine E_aload_n dX8_minutes_6 rfl rfl ?_
  refine E_ifnonnull (tgt := 14) dX8_minutes_7 (by decide) (fun q7 h7 => absurd h7 (by intro z; cases z)) (fun h7 => ?_)
  refine E_iconst (v := -1) dX8_minutes_10 (by decide) ?_
  refine E_goto (tgt := 18) dX8_minutes_11 (by decide) ?_
  refine E_iret dX8_minutes_18 rfl rfl ?_
  exact ⟨rfl, rfl⟩
theorem c_minutes_s {S : xS} (hX : xShX S) (p : Int32) {P : Nat} (h : xpl S p = some (3, P)) : CC mX8_minutes 3 0 0 [xR (some (8, 0)), xI p] S (aI (gI S 3 P 9) S) := by
  refine CC_of mpX8_minutes rfl (Nat.le_of_ble_eq_true rfl) ?_
  refine E_aload_n dX8_minutes_0 rfl rfl ?_
  refine E_iload_n dX8_minutes_1 rfl rfl ?_
  refine E_callV (m2 := mX8_poolOf) dX8_minutes_2 kX8_58 mzX8_poolOf (c_poolOf hX p h) rfl ⟨_, _, rfl⟩ rfl rfl (by decide) (xs8 (Nat.le_of_ble_eq_true rfl)) (by first | exact Nat.le_of_ble_eq_true rfl | omega) (by first | exact Nat.le_of_ble_eq_true rfl | omega) ?_
  rintro _ _ ⟨rfl, rfl⟩
  refine E_astore_n dX8_minutes_5 rfl (by decide) rfl ?_
  refine E_aload_n dX8_minutes_6 rfl rfl ?_
  refine E_ifnonnull (tgt := 14) dX8_minutes_7 (by decide) (fun q7 h7 => ?_) (fun h7 => ?_)
  · refine E_aload_n dX8_minutes_14 rfl rfl ?_
    refine E_getI dX8_minutes_15 fX8_216 rfl rfl rfl rfl ?_
    refine E_iret dX8_minutes_18 rfl rfl ?_
    exact ⟨rfl, rfl⟩
  · cases h7
theorem c_watcher_n {S : xS} (p k : Int32) (hn : CC mX8_postOf 3 0 0 [xR (some (8, 0)), xI p, xI k] S (aR none S)) : CC mX8_watcher 4 0 0 [xR (some (8, 0)), xI p, xI k] S (aI (-1) S) := by
  refine CC_of mpX8_watcher rfl (Nat.le_of_ble_eq_true rfl) ?_
  refine E_aload_n dX8_watcher_0 rfl rfl ?_
  refine E_iload_n dX8_watcher_1 rfl rfl ?_
  refine E_iload_n dX8_watcher_2 rfl rfl ?_
  refine E_callV (m2 := mX8_postOf) dX8_watcher_3 kX8_219 mzX8_postOf hn rfl ⟨_, _, rfl⟩ rfl rfl (by decide) (xs8 (Nat.le_of_ble_eq_true rfl)) (by first | exact Nat.le_of_ble_eq_true rfl | omega) (by first | exact Nat.le_of_ble_eq_true rfl | omega) ?_
  rintro _ _ ⟨rfl, rfl⟩
  refine E_astore_n dX8_watcher_6 rfl (by decide) rfl ?_
  refine E_aload_n dX8_watcher_7 rfl rfl ?_
  refine E_ifnonnull (tgt := 15) dX8_watcher_8 (by decide) (fun q8 h8 => absurd h8 (by intro z; cases z)) (fun h8 => ?_)
  refine E_iconst (v := -1) dX8_watcher_11 (by decide) ?_
  refine E_goto (tgt := 22) dX8_watcher_12 (by decide) ?_
  refine E_iret dX8_watcher_22 rfl rfl ?_
  exact ⟨rfl, rfl⟩
theorem c_watcher_e {S : xS} (p k : Int32) {i : Nat} (hn : CC mX8_postOf 3 0 0 [xR (some (8, 0)), xI p, xI k] S (aR (some (4, i)) S)) (hw : (gR S 4 i 0) = none) : CC mX8_watcher 4 0 0 [xR (some (8, 0)), xI p, xI k] S (aI (-1) S) := by
  refine CC_of mpX8_watcher rfl (Nat.le_of_ble_eq_true rfl) ?_
  refine E_aload_n dX8_watcher_0 rfl rfl ?_
  refine E_iload_n dX8_watcher_1 rfl rfl ?_
  refine E_iload_n dX8_watcher_2 rfl rfl ?_
  refine E_callV (m2 := mX8_postOf) dX8_watcher_3 kX8_219 mzX8_postOf hn rfl ⟨_, _, rfl⟩ rfl rfl (by decide) (xs8 (Nat.le_of_ble_eq_true rfl)) (by first | exact Nat.le_of_ble_eq_true rfl | omega) (by first | exact Nat.le_of_ble_eq_true rfl | omega) ?_
  rintro _ _ ⟨rfl, rfl⟩
  refine E_astore_n dX8_watcher_6 rfl (by decide) rfl ?_
  refine E_aload_n dX8_watcher_7 rfl rfl ?_
  refine E_ifnonnull (tgt := 15) dX8_watcher_8 (by decide) (fun q8 h8 => ?_) (fun h8 => ?_)
  · refine E_aload_n dX8_watcher_15 rfl rfl ?_
    refine E_getR dX8_watcher_16 fX8_226 rfl rfl rfl hw ?_
    refine E_callS (m2 := mX8_numberOf) dX8_watcher_19 kX8_239 mzX8_numberOf c_X8_numberOf_n rfl rfl (by decide) (xs8 (Nat.le_of_ble_eq_true rfl)) (by first | exact Nat.le_of_ble_eq_true rfl | omega) (by first | exact Nat.le_of_ble_eq_true rfl | omega) ?_
    rintro _ _ ⟨rfl, rfl⟩
    refine E_iret dX8_watcher_22 rfl rfl ?_
    exact ⟨rfl, rfl⟩
  · cases h8
theorem c_watcher_s {S : xS} (p k : Int32) {i t : Nat} (hn : CC mX8_postOf 3 0 0 [xR (some (8, 0)), xI p, xI k] S (aR (some (4, i)) S)) (hw : (gR S 4 i 0) = some (7, t)) : CC mX8_watcher 4 0 0 [xR (some (8, 0)), xI p, xI k] S (aI (gI S 7 t 0) S) := by
  refine CC_of mpX8_watcher rfl (Nat.le_of_ble_eq_true rfl) ?_
  refine E_aload_n dX8_watcher_0 rfl rfl ?_
  refine E_iload_n dX8_watcher_1 rfl rfl ?_
  refine E_iload_n dX8_watcher_2 rfl rfl ?_
  refine E_callV (m2 := mX8_postOf) dX8_watcher_3 kX8_219 mzX8_postOf hn rfl ⟨_, _, rfl⟩ rfl rfl (by decide) (xs8 (Nat.le_of_ble_eq_true rfl)) (by first | exact Nat.le_of_ble_eq_true rfl | omega) (by first | exact Nat.le_of_ble_eq_true rfl | omega) ?_
  rintro _ _ ⟨rfl, rfl⟩
  refine E_astore_n dX8_watcher_6 rfl (by decide) rfl ?_
  refine E_aload_n dX8_watcher_7 rfl rfl ?_
  refine E_ifnonnull (tgt := 15) dX8_watcher_8 (by decide) (fun q8 h8 => ?_) (fun h8 => ?_)
  · refine E_aload_n dX8_watcher_15 rfl rfl ?_
    refine E_getR dX8_watcher_16 fX8_226 rfl rfl rfl hw ?_
    refine E_callS (m2 := mX8_numberOf) dX8_watcher_19 kX8_239 mzX8_numberOf (c_X8_numberOf_s t) rfl rfl (by decide) (xs8 (Nat.le_of_ble_eq_true rfl)) (by first | exact Nat.le_of_ble_eq_true rfl | omega) (by first | exact Nat.le_of_ble_eq_true rfl | omega) ?_
    rintro _ _ ⟨rfl, rfl⟩
    refine E_iret dX8_watcher_22 rfl rfl ?_
    exact ⟨rfl, rfl⟩
  · cases h8
theorem c_post_n1 {S : xS} (hX : xShX S) (p k x : Int32) (r : Option (Nat × Nat)) (hn : CC mX8_postOf 3 0 0 [xR (some (8, 0)), xI p, xI k] S (aR none S)) : CC mX8_post 4 0 0 [xR (some (8, 0)), xI p, xI k, xI x] S (aI (-2) S) := by
  refine CC_of mpX8_post rfl (Nat.le_of_ble_eq_true rfl) ?_
  refine E_aload_n dX8_post_0 rfl rfl ?_
  refine E_iload_n dX8_post_1 rfl rfl ?_
  refine E_iload_n dX8_post_2 rfl rfl ?_
  refine E_callV (m2 := mX8_postOf) dX8_post_3 kX8_219 mzX8_postOf hn rfl ⟨_, _, rfl⟩ rfl rfl (by decide) (xs8 (Nat.le_of_ble_eq_true rfl)) (by first | exact Nat.le_of_ble_eq_true rfl | omega) (by first | exact Nat.le_of_ble_eq_true rfl | omega) ?_
  rintro _ _ ⟨rfl, rfl⟩
  refine E_astore dX8_post_6 (by decide) rfl ?_
  refine E_aload_n dX8_post_8 rfl rfl ?_
  refine E_iload_n dX8_post_9 rfl rfl ?_
  refine E_callV (m2 := mX8_ticketOf) dX8_post_10 kX8_96 mzX8_ticketOf (c_ticketOf hX x rfl) rfl ⟨_, _, rfl⟩ rfl rfl (by decide) (xs8 (Nat.le_of_ble_eq_true rfl)) (by first | exact Nat.le_of_ble_eq_true rfl | omega) (by first | exact Nat.le_of_ble_eq_true rfl | omega) ?_
  rintro _ _ ⟨rfl, rfl⟩
  refine E_astore dX8_post_13 (by decide) rfl ?_
  refine E_aload dX8_post_15 rfl ?_
  refine E_ifnull (tgt := 50) dX8_post_17 (by decide) (fun h17 => ?_) (fun q17 h17 => absurd h17 (by intro z; cases z))
  refine E_bipush (v := -2) dX8_post_50 (by decide) ?_
  refine E_iret dX8_post_52 rfl rfl ?_
  exact ⟨rfl, rfl⟩
theorem c_post_n2 {S : xS} (hX : xShX S) (p k x : Int32) {i : Nat} (hn : CC mX8_postOf 3 0 0 [xR (some (8, 0)), xI p, xI k] S (aR (some (4, i)) S)) (ht : xtl S x = none) : CC mX8_post 4 0 0 [xR (some (8, 0)), xI p, xI k, xI x] S (aI (-2) S) := by
  refine CC_of mpX8_post rfl (Nat.le_of_ble_eq_true rfl) ?_
  refine E_aload_n dX8_post_0 rfl rfl ?_
  refine E_iload_n dX8_post_1 rfl rfl ?_
  refine E_iload_n dX8_post_2 rfl rfl ?_
  refine E_callV (m2 := mX8_postOf) dX8_post_3 kX8_219 mzX8_postOf hn rfl ⟨_, _, rfl⟩ rfl rfl (by decide) (xs8 (Nat.le_of_ble_eq_true rfl)) (by first | exact Nat.le_of_ble_eq_true rfl | omega) (by first | exact Nat.le_of_ble_eq_true rfl | omega) ?_
  rintro _ _ ⟨rfl, rfl⟩
  refine E_astore dX8_post_6 (by decide) rfl ?_
  refine E_aload_n dX8_post_8 rfl rfl ?_
  refine E_iload_n dX8_post_9 rfl rfl ?_
  refine E_callV (m2 := mX8_ticketOf) dX8_post_10 kX8_96 mzX8_ticketOf (c_ticketOf hX x ht) rfl ⟨_, _, rfl⟩ rfl rfl (by decide) (xs8 (Nat.le_of_ble_eq_true rfl)) (by first | exact Nat.le_of_ble_eq_true rfl | omega) (by first | exact Nat.le_of_ble_eq_true rfl | omega) ?_
  rintro _ _ ⟨rfl, rfl⟩
  refine E_astore dX8_post_13 (by decide) rfl ?_
  refine E_aload dX8_post_15 rfl ?_
  refine E_ifnull (tgt := 50) dX8_post_17 (by decide) (fun h17 => ?_) (fun q17 h17 => ?_)
  · cases h17
  · refine E_aload dX8_post_20 rfl ?_
    refine E_ifnull (tgt := 50) dX8_post_22 (by decide) (fun h22 => ?_) (fun q22 h22 => absurd h22 (by intro z; cases z))
    refine E_bipush (v := -2) dX8_post_50 (by decide) ?_
    refine E_iret dX8_post_52 rfl rfl ?_
    exact ⟨rfl, rfl⟩
theorem c_post_n3 {S : xS} (hX : xShX S) (p k x : Int32) {i t P P2 : Nat} (hn : CC mX8_postOf 3 0 0 [xR (some (8, 0)), xI p, xI k] S (aR (some (4, i)) S)) (ht : xtl S x = some (7, t)) (hp : xpl S p = some (3, P)) (htp : (gR S 7 t 1) = some (3, P2)) (hno : ¬ (P2 = P ∧ (gI S 7 t 2) = 5 ∧ ¬ (gI S 7 t 6) = 0 ∧ (gR S 7 t 12) = none ∧ 20 ≤ (gI S 8 0 5) - (gI S 7 t 13))) : CC mX8_post 4 0 0 [xR (some (8, 0)), xI p, xI k, xI x] S (aI (-2) S) := by
  refine CC_of mpX8_post rfl (Nat.le_of_ble_eq_true rfl) ?_
  refine E_aload_n dX8_post_0 rfl rfl ?_
  refine E_iload_n dX8_post_1 rfl rfl ?_
  refine E_iload_n dX8_post_2 rfl rfl ?_
  refine E_callV (m2 := mX8_postOf) dX8_post_3 kX8_219 mzX8_postOf hn rfl ⟨_, _, rfl⟩ rfl rfl (by decide) (xs8 (Nat.le_of_ble_eq_true rfl)) (by first | exact Nat.le_of_ble_eq_true rfl | omega) (by first | exact Nat.le_of_ble_eq_true rfl | omega) ?_
  rintro _ _ ⟨rfl, rfl⟩
  refine E_astore dX8_post_6 (by decide) rfl ?_
  refine E_aload_n dX8_post_8 rfl rfl ?_
  refine E_iload_n dX8_post_9 rfl rfl ?_
  refine E_callV (m2 := mX8_ticketOf) dX8_post_10 kX8_96 mzX8_ticketOf (c_ticketOf hX x ht) rfl ⟨_, _, rfl⟩ rfl rfl (by decide) (xs8 (Nat.le_of_ble_eq_true rfl)) (by first | exact Nat.le_of_ble_eq_true rfl | omega) (by first | exact Nat.le_of_ble_eq_true rfl | omega) ?_
  rintro _ _ ⟨rfl, rfl⟩
  refine E_astore dX8_post_13 (by decide) rfl ?_
  refine E_aload dX8_post_15 rfl ?_
  refine E_ifnull (tgt := 50) dX8_post_17 (by decide) (fun h17 => ?_) (fun q17 h17 => ?_)
  · cases h17
  · refine E_aload dX8_post_20 rfl ?_
    refine E_ifnull (tgt := 50) dX8_post_22 (by decide) (fun h22 => ?_) (fun q22 h22 => ?_)
    · cases h22
    · refine E_aload dX8_post_25 rfl ?_
      refine E_getR dX8_post_27 fX8_108 rfl rfl rfl htp ?_
      refine E_aload_n dX8_post_30 rfl rfl ?_
      refine E_iload_n dX8_post_31 rfl rfl ?_
      refine E_callV (m2 := mX8_poolOf) dX8_post_32 kX8_58 mzX8_poolOf (c_poolOf hX p hp) rfl ⟨_, _, rfl⟩ rfl rfl (by decide) (xs8 (Nat.le_of_ble_eq_true rfl)) (by first | exact Nat.le_of_ble_eq_true rfl | omega) (by first | exact Nat.le_of_ble_eq_true rfl | omega) ?_
      rintro _ _ ⟨rfl, rfl⟩
      refine E_acmp_ne (tgt := 50) dX8_post_35 (by decide) (by intro q h; cases h; simp) (by intro q h; cases h; simp) (fun h35 => ?_) (fun h35 => ?_)
      · refine E_bipush (v := -2) dX8_post_50 (by decide) ?_
        refine E_iret dX8_post_52 rfl rfl ?_
        exact ⟨rfl, rfl⟩
      · refine E_aload dX8_post_38 rfl ?_
        refine E_aload_n dX8_post_40 rfl rfl ?_
        refine E_getI dX8_post_41 fX8_45 rfl rfl rfl rfl ?_
        refine E_callV (m2 := mX7_mayStand) dX8_post_44 kX8_223 mzX7_mayStand (c_X7_mayStand t _) rfl ⟨_, _, rfl⟩ rfl rfl (by decide) (xs8 (Nat.le_of_ble_eq_true rfl)) (by first | exact Nat.le_of_ble_eq_true rfl | omega) (by first | exact Nat.le_of_ble_eq_true rfl | omega) ?_
        rintro _ _ ⟨rfl, rfl⟩
        refine E_if_ne (tgt := 53) dX8_post_47 (by decide) (fun h47 => ?_) (fun h47 => ?_)
        · exact absurd ⟨by cases h35; rfl, ite1 h47⟩ hno
        · refine E_bipush (v := -2) dX8_post_50 (by decide) ?_
          refine E_iret dX8_post_52 rfl rfl ?_
          exact ⟨rfl, rfl⟩
end
